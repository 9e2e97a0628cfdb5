/-! PURE, 34: the reference: get and next -/
variable {F : Nat} {w w' w2 : ga_W} {sc sc' : Nat → Int32} {thr : Int32} {lv : LV} {mem : List Row} {recs : List Nat} {syn : Nat} {bt : Option (List Row)} {sn : Nat → Int32} {lt : Nat} {rd ms gt : Int32}
def fdV (xs mem : List Row) (v : Int32) (o : Option (Option Row)) : Prop := rbV xs v o ∨ ∃ e r, v = nI (1000 + e) ∧ mem[e]? = some r ∧ o = some (some r)
def gV (o : Option (Option Row)) : Int32 := match o with
  | some (some r) => if r.2.2.2.1 = 0 then 0 else 1
  | _ => 1
theorem nI_big {a b : Nat} (ha : a < 5000) (hb : b < 5000) : nI a ≤ nI b ↔ a ≤ b := ⟨fun h => Classical.byContradiction fun h9 => absurd h (nI_ge (by omega) (by omega)), fun h => nI_le h (by omega)⟩
theorem nI_nnb {a : Nat} (h : a < 5000) : 0 ≤ nI a := by
  have : (0 : Int32) = nI 0 := by decide
  rw [this]; exact nI_le (by omega) (by omega)
theorem zR_foundGone {tabs : List Tab} {o : Option (Option Row)} (h : isRt w sc tabs) (hm : isRM w sc mem) (hv : fdV (fl tabs) mem (sc 38) o) : f_R_foundGone F 54 w = some (.inl (some (.int (gV o))), w) := by
  have hfl := h.2.2.2.1
  have hml := hm.2.2
  have c1000 : (1000 : Int32) = nI 1000 := by decide
  unfold f_R_foundGone
  simp only [↓bd (rR h.1 38 rfl)]
  rcases hv with hv | ⟨e, r, h1, h2, h3⟩
  · match o, hv with
    | none, hv =>
      have hv : sc 38 = -2 := hv
      have : sc 38 < 0 := by rw [hv]; decide
      simp only [↓ip this]
      rfl
    | some none, hv =>
      have hv : sc 38 = -1 := hv
      have : sc 38 < 0 := by rw [hv]; decide
      simp only [↓ip this]
      rfl
    | some (some q), hv =>
      obtain ⟨e, h1, h2⟩ := hv
      have hlt := (List.getElem?_eq_some_iff.mp h2).1
      have hn : ¬ sc 38 < 0 := by rw [h1]; exact Int32.not_lt.mpr (nI_nnb (by omega))
      have hb : ¬ (1000 : Int32) ≤ sc 38 := by rw [h1, c1000]; exact fun h9 => absurd ((nI_big (by omega) (by omega)).mp h9) (by omega)
      have hg := (rRow h h2).2.2.2
      rw [← h1] at hg
      simp only [↓iN hn, ↓iN hb, ↓bd (rRr h.1 4 58 rfl), ↓bd hg]
      unfold gV
      by_cases hz : q.2.2.2.1 = 0
      · simp only [if_pos hz]
      · simp only [if_neg hz]
  · subst h3
    have hlt := (List.getElem?_eq_some_iff.mp h2).1
    have hn : ¬ sc 38 < 0 := by rw [h1]; exact Int32.not_lt.mpr (nI_nnb (by omega))
    have hb : (1000 : Int32) ≤ sc 38 := by rw [h1, c1000]; exact (nI_big (by omega) (by omega)).mpr (by omega)
    have hs : sc 38 - 1000 = nI e := by rw [h1, c1000, nI_sub (by omega), Nat.add_sub_cancel_left]
    have hg := (rMem hm h2).2.2.2.1
    simp only [↓iN hn, ↓ip hb, ↓bd (rRr h.1 14 66 rfl)]
    rw [hs]
    simp only [↓bd hg]
    unfold gV
    by_cases hz : r.2.2.2.1 = 0
    · simp only [if_pos hz]
    · simp only [if_neg hz]
theorem zR_look {key up : Int32} (hF : 1000 < F) (h : isRt w sc lv.1) (hm : isRM w sc mem) (ha : ∀ t ∈ lv.1, t.2.2 ≠ []) (hb : ∀ t ∈ lv.1, lo t ≤ key ∧ key ≤ hi t → rbk key up t.2.2.length t.2.2 = lk1 key up t) :
    ∃ w1 sc1, f_R_look F 54 key up w = some (.inl none, w1) ∧ isRt w1 sc1 lv.1 ∧ fdV (fl lv.1) mem (sc1 38) (lkA key up mem lv.1).2.2 ∧ sc1 27 = sc 27 + nI (lkA key up mem lv.1).1 ∧ sc1 28 = sc 28 + nI (lkA key up mem lv.1).2.1 ∧ scF sc sc1 [27, 28, 38] ∧ pu_F w w1 54 1 := by
  have hz0 : ∀ x : Int32, x = x + nI 0 := fun x => by
    have : nI 0 = 0 := by decide
    rw [this]; simp
  have hl := h.2.2.2.2.1
  have hml := hm.2.2
  obtain ⟨w1, a1, a2, a3⟩ := zR h.1 38 (-1 : Int32) (by omega) rfl
  have h1 := h.sc a3 a2 rfl rfl
  obtain ⟨w3, s3, b1, b2, b3, b4, b5⟩ := zR_lim (F := F) (key := key) (up := up) mem [] _ w1 F a2 (by simpa using hm.fr (sc' := pu_up sc 38 (-1)) a3 (by omega) rfl) (by omega)
  simp only [List.length_nil, nI_0, List.nil_append] at b1 b3
  have h3 : isRt w3 s3 lv.1 := h1.sc b5 b2 (b4 5 (by simp)) (b4 10 (by simp))
  have hs3 : scF sc s3 [27, 28, 38] := (scF.up (by simp)).tr (b4.mono (by simp))
  have hroad : f_R_look F 54 key up w = f_R_look_13 F 54 key up F 0 w3 := by
    unfold f_R_look f_R_lookInMemory
    simp only [↓bd a1, ↓ip (rR_is a2), ↓gcV b1]
  rw [hroad]
  have e27 : s3 27 = sc 27 := b4 27 (by simp)
  have e28 : s3 28 = sc 28 := b4 28 (by simp)
  unfold lkA
  cases ho : mem.reverse.find? (pk key up) with
  | some r =>
    rw [ho] at b3
    obtain ⟨e, c1, c2⟩ := b3
    have hlt := (List.getElem?_eq_some_iff.mp c2).1
    have hne : ¬ s3 38 = -1 := by
      rw [c1]
      intro h9
      have := nI_nnb (a := 1000 + e) (by omega)
      rw [h9] at this
      exact absurd this (by decide)
    refine ⟨w3, s3, ?_, h3, Or.inr ⟨e, r, c1, c2, rfl⟩, e27.trans (hz0 _), e28.trans (hz0 _), hs3, a3.tr b5⟩
    obtain ⟨F', rfl⟩ : ∃ k, F = k + 1 := ⟨F - 1, by omega⟩
    rw [← nI_0]
    exact zR_look_end b2 hne
  | none =>
    rw [ho] at b3
    have h38 : s3 38 = -1 := b3
    obtain ⟨w4, s4, d1, d2, d3, d4, d5, d6, d7⟩ := zR_look13 (F := F) (key := key) (up := up) hF lv.1 [] s3 w3 F (by simpa using h3) ha hb h38 (by omega)
    simp only [List.length_nil, nI_0, List.nil_append] at d1 d2 d3
    exact ⟨w4, s4, d1, d2, Or.inl d3, by rw [d4, e27], by rw [d5, e28], hs3.tr d6, (a3.tr b5).tr d7⟩
def cdG (o : Option (Option Row)) : Int32 := match o with
  | none => 2
  | some none => 4
  | some (some r) => if r.2.2.2.1 = 0 then 0 else 4
set_option maxHeartbeats 1000000 in
theorem zR_get {key x : Int32} (hF : 1000 < F) (hs : snOk sn) (h : isR w thr lv mem recs syn bt sn lt rd ms gt) (hne : ∀ t ∈ lv.1, t.2.2 ≠ []) :
    (¬ ((0 ≤ key ∧ key ≤ 63) ∧ (-1 ≤ x ∧ x ≤ 3)) → ∃ w' v, f_R_get F 54 key x w = some (.inl (some (.int v)), w') ∧ isR w' 1 lv mem recs syn bt sn lt rd ms gt ∧ pu_R w w') ∧
    (0 ≤ key ∧ key ≤ 63 → -1 ≤ x ∧ x ≤ 3 → 0 ≤ x ∧ sn x.toNatClampNeg = -1 → ∃ w' v, f_R_get F 54 key x w = some (.inl (some (.int v)), w') ∧ isR w' 3 lv mem recs syn bt sn lt rd ms gt ∧ pu_R w w') ∧
    (0 ≤ key ∧ key ≤ 63 → -1 ≤ x ∧ x ≤ 3 → ¬ (0 ≤ x ∧ sn x.toNatClampNeg = -1) → (∀ t ∈ lv.1, lo t ≤ key ∧ key ≤ hi t → rbk key (seen sn lt x) t.2.2.length t.2.2 = lk1 key (seen sn lt x) t) → ∃ w' v, f_R_get F 54 key x w = some (.inl (some (.int v)), w') ∧ isR w' (cdG (lkA key (seen sn lt x) mem lv.1).2.2) lv mem recs syn bt sn lt (rd + nI (lkA key (seen sn lt x) mem lv.1).1) (ms + nI (lkA key (seen sn lt x) mem lv.1).2.1) (gt + 1) ∧ (∀ r, (lkA key (seen sn lt x) mem lv.1).2.2 = some (some r) → v = r.2.2.1 ∨ ¬ r.2.2.2.1 = 0) ∧ pu_R w w') := by
  obtain ⟨sc, h1, h2⟩ := h
  obtain ⟨w1, a1, a2, a3⟩ := zR_set0 0 h1
  generalize hsc : pu_up sc 0 0 = s1 at *
  have hs10 : s1 0 = 0 := by rw [← hsc]; rfl
  obtain ⟨b1, b2, b3, b4, b5, b7, b8, b27, b28, b29⟩ := id a2
  have c10 : ¬ (1 : Int32) = 0 := by decide
  refine ⟨fun hx => ?_, fun hk hx hf => ?_, fun hk hx hf hb => ?_⟩
  · obtain ⟨w3, c1, c2, c3⟩ := zR_throw (F := F) 1 a2
    refine ⟨w3, 0, ?_, c2, a3.tr c3⟩
    unfold f_R_get
    by_cases h1 : 0 ≤ key ∧ key ≤ 63
    · have h2 : ¬ (-1 ≤ x ∧ x ≤ 3) := fun h2 => hx ⟨h1, h2⟩
      simp only [↓bd a1, ↓gcI (zR_inT h1), ↓iN c10, ↓gcI (zR_inF h2), ↓ip trivial, if_true, ↓ip (rR_is a2.h), ↓gcI c1]
    · simp only [↓bd a1, ↓gcI (zR_inF h1), ↓ip trivial, if_true, ↓ip (rR_is a2.h), ↓gcI c1]
  · obtain ⟨w3, c1, c2, c3⟩ := zR_throw (F := F) 3 a2
    refine ⟨w3, 0, ?_, c2, a3.tr c3⟩
    obtain ⟨i, hi, rfl⟩ := in4 ⟨hf.1, hx.2⟩
    have hsi : sn i = -1 := by have := hf.2; rwa [nI_clamp (by omega)] at this
    have hn0 : ¬ nI i < 0 := Int32.not_lt.mpr hf.1
    have hn1 : ¬ 0 ≤ sn i := by rw [hsi]; decide
    unfold f_R_get
    simp only [↓bd a1, ↓gcI (zR_inT hk), ↓gcI (zR_inT hx), ↓iN c10, ↓jn, ↓iN hn0, ↓bd (rRr a2.h 23 71 rfl), ↓bd (rN b7 hi), ↓iN hn1, ↓ip (rR_is a2.h), ↓gcI c1]
  · obtain ⟨w3, c1, c2, c3⟩ := zR a2.h 29 (gt + 1) (by omega) rfl
    have h3 := a2.hd (lt' := lt) c3 c2 (scF.up (by simp)) b8
    obtain ⟨d1, d2, d3, d4, d5, d7, d8, -⟩ := id h3
    obtain ⟨w4, s4, e1, e2, e3, e4, e5, e6, e7⟩ := zR_look (F := F) (key := key) (up := seen sn lt x) hF d1.1 d2 hne hb
    have h4 : isRx w4 s4 lv mem recs syn bt sn lt (rd + nI (lkA key (seen sn lt x) mem lv.1).1) (ms + nI (lkA key (seen sn lt x) mem lv.1).2.1) (gt + 1) := by
      have h9 := h3.hd (lt' := lt) e7 e2.1 (e6.mono (by simp)) ((e6 25 (by simp)).trans d8)
      have x1 : s4 27 = rd + nI (lkA key (seen sn lt x) mem lv.1).1 := by rw [e4]; show s1 27 + _ = _; rw [b27]
      have x2 : s4 28 = ms + nI (lkA key (seen sn lt x) mem lv.1).2.1 := by rw [e5]; show s1 28 + _ = _; rw [b28]
      have x3 : s4 29 = gt + 1 := e6 29 (by simp)
      rw [x1, x2, x3] at h9
      exact h9
    have hs40 : s4 0 = 0 := (e6 0 (by simp)).trans hs10
    have hfg := zR_foundGone (F := F) e2 h4.2.1 e3
    -- the road up to what was found
    have hroad : f_R_get F 54 key x w = if s4 38 = (-2 : Int32) then (if ga_is w4 6 54 = true then ga_c (f_R_raise F 54 (2 : Int32) w4) (ga_kI fun v28 w27 => (some (.inl (some (.int v28)), w27))) ga_up else none) else (if gV (lkA key (seen sn lt x) mem lv.1).2.2 = 0 then ((ga_gi w4 6 38 54).bind fun v32 => (if (1000 : Int32) ≤ v32 then ((ga_gr w4 6 13 54).bind fun r34 => ((ga_gi w4 6 38 54).bind fun v35 => ((ga_ai w4 0 r34 (v35 - (1000 : Int32))).bind fun v36 => (some (.inl (some (.int v36)), w4))))) else ((ga_gr w4 6 3 54).bind fun r37 => ((ga_gi w4 6 38 54).bind fun v38 => ((ga_ai w4 0 r37 v38).bind fun v39 => (some (.inl (some (.int v39)), w4))))))) else (if ga_is w4 6 54 = true then ga_c (f_R_raise F 54 (4 : Int32) w4) (ga_kI fun v41 w40 => (some (.inl (some (.int v41)), w40))) ga_up else none)) := by
      have hup := zR_upTo (F := F) c2 d8 d7 hx
      unfold f_R_get
      by_cases h0 : x < 0
      · simp only [↓bd a1, ↓gcI (zR_inT hk), ↓gcI (zR_inT hx), ↓iN c10, ↓jn, ↓ip h0, ↓bd (rR a2.h 29 rfl), b29, ↓bd c1, ↓ip (rR_is c2), ↓gcI hup, ↓gcV e1, ↓bd (rR e2.1 38 rfl), ↓ip (rR_is e2.1), ↓gcI hfg]
      · obtain ⟨i, hi, rfl⟩ := in4 ⟨Int32.not_lt.mp h0, hx.2⟩
        have hsi : ¬ sn i = -1 := fun h9 => hf ⟨Int32.not_lt.mp h0, by rw [nI_clamp (by omega)]; exact h9⟩
        have hn1 : 0 ≤ sn i := (hs i hi).resolve_left hsi
        simp only [↓bd a1, ↓gcI (zR_inT hk), ↓gcI (zR_inT hx), ↓iN c10, ↓jn, ↓iN h0, ↓bd (rRr a2.h 23 71 rfl), ↓bd (rN b7 hi), ↓ip hn1, ↓bd (rR a2.h 29 rfl), b29, ↓bd c1, ↓ip (rR_is c2), ↓gcI hup, ↓gcV e1, ↓bd (rR e2.1 38 rfl), ↓ip (rR_is e2.1), ↓gcI hfg]
    rw [hroad]
    have hfr : pu_R w w4 := (a3.tr (c3.R (by omega) (by omega))).tr (e7.R (by omega) (by omega))
    have hfl := e2.2.2.2.1
    have hml := h4.2.1.2.2
    have c1000 : (1000 : Int32) = nI 1000 := by decide
    generalize hO : (lkA key (seen sn lt x) mem lv.1).2.2 = o at *
    match o, e3 with
    | none, e3 =>
      have hv : s4 38 = -2 := by
        rcases e3 with e3 | ⟨e, r, -, -, e3⟩
        · exact e3
        · cases e3
      obtain ⟨w5, f1, f2, f3⟩ := zR_throw (F := F) 2 h4
      refine ⟨w5, 0, ?_, f2, (fun r hr => by cases hr), hfr.tr f3⟩
      simp only [↓ip hv, ↓ip (rR_is e2.1), ↓gcI f1]
    | some none, e3 =>
      have hv : ¬ s4 38 = -2 := by
        rcases e3 with e3 | ⟨e, r, -, -, e3⟩
        · have e3 : s4 38 = -1 := e3
          rw [e3]; decide
        · cases e3
      have hg : ¬ gV (some none) = 0 := by decide
      obtain ⟨w5, f1, f2, f3⟩ := zR_throw (F := F) 4 h4
      refine ⟨w5, 0, ?_, f2, (fun r hr => by cases hr), hfr.tr f3⟩
      simp only [↓iN hv, ↓iN hg, ↓ip (rR_is e2.1), ↓gcI f1]
    | some (some q), e3 =>
      have hv0 : 0 ≤ s4 38 := by
        rcases e3 with ⟨e, g1, g2⟩ | ⟨e, r, g1, g2, -⟩
        · have hlt := (List.getElem?_eq_some_iff.mp g2).1
          rw [g1]; exact nI_nnb (by omega)
        · have hlt := (List.getElem?_eq_some_iff.mp g2).1
          rw [g1]; exact nI_nnb (by omega)
      have hv : ¬ s4 38 = -2 := fun h9 => by rw [h9] at hv0; exact absurd hv0 (by decide)
      by_cases hz : q.2.2.2.1 = 0
      · have hg : gV (some (some q)) = 0 := by unfold gV; simp only [if_pos hz]
        have hcd : cdG (some (some q)) = 0 := by unfold cdG; simp only [if_pos hz]
        refine ⟨w4, q.2.2.1, ?_, ⟨s4, h4, by rw [hcd]; exact hs40⟩, (fun r hr => by cases hr; exact Or.inl rfl), hfr⟩
        simp only [↓iN hv, ↓ip hg, ↓bd (rR e2.1 38 rfl)]
        rcases e3 with ⟨e, g1, g2⟩ | ⟨e, r, g1, g2, g3⟩
        · have hlt := (List.getElem?_eq_some_iff.mp g2).1
          have hb9 : ¬ (1000 : Int32) ≤ s4 38 := by rw [g1, c1000]; exact fun h9 => absurd ((nI_big (by omega) (by omega)).mp h9) (by omega)
          have hr := (rRow e2 g2).2.2.1
          rw [← g1] at hr
          simp only [↓iN hb9, ↓bd (rRr e2.1 3 57 rfl), ↓bd hr]
        · cases g3
          have hlt := (List.getElem?_eq_some_iff.mp g2).1
          have hb9 : (1000 : Int32) ≤ s4 38 := by rw [g1, c1000]; exact (nI_big (by omega) (by omega)).mpr (by omega)
          have hs9 : s4 38 - 1000 = nI e := by rw [g1, c1000, nI_sub (by omega), Nat.add_sub_cancel_left]
          have hr := (rMem h4.2.1 g2).2.2.1
          simp only [↓ip hb9, ↓bd (rRr e2.1 13 65 rfl)]
          rw [hs9]
          simp only [↓bd hr]
      · have hg : ¬ gV (some (some q)) = 0 := by unfold gV; simp only [if_neg hz]; decide
        have hcd : cdG (some (some q)) = 4 := by unfold cdG; simp only [if_neg hz]
        obtain ⟨w5, f1, f2, f3⟩ := zR_throw (F := F) 4 h4
        rw [← hcd] at f2
        refine ⟨w5, 0, ?_, f2, (fun r hr => by cases hr; exact Or.inr hz), hfr.tr f3⟩
        simp only [↓iN hv, ↓iN hg, ↓ip (rR_is e2.1), ↓gcI f1]
theorem zR_lt_end {key up : Int32} {n i : Nat} (h : isRh w sc) (h38 : ¬ sc 38 = -1) : f_R_lookThrough_13 F 54 key up (n + 1) (nI i) w = some (.inl none, w) := by
  rw [f_R_lookThrough_13]
  simp only [↓bd (rR h 5 rfl)]
  by_cases hx : sc 5 ≤ nI i
  · rw [if_pos hx]
  · rw [if_neg hx]
    simp only [↓bd (rR h 38 rfl), ↓iN h38]
theorem zR_lt13 {key up : Int32} {tabs : List Tab} (todo : List Row) : ∀ (done : List Row) (sc : Nat → Int32) (w : ga_W) (n : Nat), isRt w sc tabs → fl tabs = done ++ todo → sc 38 = -1 → todo.length + 1 < n →
    ∃ w1 sc1, f_R_lookThrough_13 F 54 key up n (nI done.length) w = some (.inl none, w1) ∧ isRt w1 sc1 tabs ∧ rbV (fl tabs) (sc1 38) (some (todo.find? (pk key up))) ∧ scF sc sc1 [38] ∧ pu_F w w1 54 1 := by
  induction todo with
  | nil =>
    intro done sc w n h hfl h38 hn
    obtain ⟨n, rfl⟩ : ∃ k, n = k + 1 := ⟨n - 1, by simp at hn; omega⟩
    simp only [List.append_nil] at hfl
    have hle : sc 5 ≤ nI done.length := by rw [h.2.1, hfl]; exact Int32.le_refl _
    refine ⟨w, sc, ?_, h, h38, scF.rf, pu_F.rf⟩
    rw [f_R_lookThrough_13]
    simp only [↓bd (rR h.1 5 rfl), ↓ip hle]
  | cons r todo ih =>
    intro done sc w n h hfl h38 hn
    obtain ⟨n, rfl⟩ : ∃ k, n = k + 1 := ⟨n - 1, by simp at hn; omega⟩
    simp only [List.length_cons] at hn
    have h5 := h.2.1
    have hl := h.2.2.2.1
    rw [hfl] at h5 hl
    simp only [List.length_append, List.length_cons] at h5 hl
    have hle : ¬ sc 5 ≤ nI done.length := by rw [h5]; exact nI_ge (by omega) (by omega)
    have hat : (fl tabs)[done.length]? = some r := by rw [hfl]; simp
    obtain ⟨r1, r2, -, -⟩ := rRow h hat
    have hno : ¬ pk key up r = true → ∃ w1 sc1, f_R_lookThrough_13 F 54 key up n (nI done.length + 1) w = some (.inl none, w1) ∧ isRt w1 sc1 tabs ∧ rbV (fl tabs) (sc1 38) (some ((r :: todo).find? (pk key up))) ∧ scF sc sc1 [38] ∧ pu_F w w1 54 1 := by
      intro hp
      have hp' : pk key up r = false := by simpa using hp
      obtain ⟨w1, s1, a1, a2⟩ := ih (done ++ [r]) sc w n h (by simpa using hfl) h38 (by omega)
      simp only [List.length_append, List.length_cons, List.length_nil, Nat.zero_add] at a1
      rw [List.find?_cons, hp']
      exact ⟨w1, s1, by rw [nI_1]; exact a1, a2⟩
    rw [f_R_lookThrough_13]
    simp only [↓bd (rR h.1 5 rfl), ↓iN hle, ↓bd (rR h.1 38 rfl), ↓ip h38, ↓bd (rRr h.1 1 55 rfl), ↓bd r1]
    by_cases hk : r.1 = key
    · simp only [↓ip hk, ↓bd (rRr h.1 2 56 rfl), ↓bd r2]
      by_cases hu : up < r.2.1
      · simp only [↓ip hu]
        exact hno (by simp [pk, hu])
      · simp only [↓iN hu]
        have hp : pk key up r = true := by simp [pk, hk, hu]
        obtain ⟨w3, c1, c2, c3⟩ := zR h.1 38 (nI done.length) (by omega) rfl
        have hne : ¬ pu_up sc 38 (nI done.length) 38 = -1 := by
          show ¬ nI done.length = -1
          intro h9
          have := nI_nnb (a := done.length) (by omega)
          rw [h9] at this
          exact absurd this (by decide)
        simp only [↓bd c1]
        refine ⟨w3, _, ?_, h.sc c3 c2 rfl rfl, ?_, scF.up (by simp), c3⟩
        · obtain ⟨n', rfl⟩ : ∃ k, n = k + 1 := ⟨n - 1, by omega⟩
          rw [nI_1]
          exact zR_lt_end c2 hne
        · rw [List.find?_cons, hp]
          exact ⟨done.length, rfl, hat⟩
    · simp only [↓iN hk]
      exact hno (by simp [pk, hk])
theorem zR_lookThrough {key up : Int32} (hF : 1000 < F) (h : isRt w sc lv.1) (hm : isRM w sc mem) (hh : (fl lv.1).find? (pk key up) = hvT key up lv.1) :
    ∃ w1 sc1, f_R_lookThrough F 54 key up w = some (.inl none, w1) ∧ isRt w1 sc1 lv.1 ∧ fdV (fl lv.1) mem (sc1 38) (some (hvA key up mem lv.1)) ∧ scF sc sc1 [38] ∧ pu_F w w1 54 1 := by
  have hl := h.2.2.2.1
  have hml := hm.2.2
  obtain ⟨w1, a1, a2, a3⟩ := zR h.1 38 (-1 : Int32) (by omega) rfl
  have h1 := h.sc a3 a2 rfl rfl
  obtain ⟨w3, s3, b1, b2, b3, b4, b5⟩ := zR_lim (F := F) (key := key) (up := up) mem [] _ w1 F a2 (by simpa using hm.fr (sc' := pu_up sc 38 (-1)) a3 (by omega) rfl) (by omega)
  simp only [List.length_nil, nI_0, List.nil_append] at b1 b3
  have h3 : isRt w3 s3 lv.1 := h1.sc b5 b2 (b4 5 (by simp)) (b4 10 (by simp))
  have hs3 : scF sc s3 [38] := (scF.up (by simp)).tr b4
  have hroad : f_R_lookThrough F 54 key up w = f_R_lookThrough_13 F 54 key up F 0 w3 := by
    unfold f_R_lookThrough f_R_lookInMemory
    simp only [↓bd a1, ↓ip (rR_is a2), ↓gcV b1]
  rw [hroad]
  unfold hvA
  cases ho : mem.reverse.find? (pk key up) with
  | some r =>
    rw [ho] at b3
    obtain ⟨e, c1, c2⟩ := b3
    have hlt := (List.getElem?_eq_some_iff.mp c2).1
    have hne : ¬ s3 38 = -1 := by
      rw [c1]
      intro h9
      have := nI_nnb (a := 1000 + e) (by omega)
      rw [h9] at this
      exact absurd this (by decide)
    refine ⟨w3, s3, ?_, h3, Or.inr ⟨e, r, c1, c2, rfl⟩, hs3, a3.tr b5⟩
    obtain ⟨F', rfl⟩ : ∃ k, F = k + 1 := ⟨F - 1, by omega⟩
    rw [← nI_0]
    exact zR_lt_end b2 hne
  | none =>
    rw [ho] at b3
    have h38 : s3 38 = -1 := b3
    obtain ⟨w4, s4, d1, d2, d3, d4, d5⟩ := zR_lt13 (F := F) (key := key) (up := up) (tabs := lv.1) (fl lv.1) [] s3 w3 F h3 (by simp) h38 (by omega)
    simp only [List.length_nil, nI_0] at d1
    rw [hh] at d3
    exact ⟨w4, s4, d1, d2, Or.inl d3, hs3.tr d4, (a3.tr b5).tr d5⟩
theorem gV_val {o : Option Row} : gV (some o) = 0 ↔ isVal o = true := by
  cases o with
  | none => simp [gV, isVal]
  | some r =>
    unfold gV isVal
    by_cases hz : r.2.2.2.1 = 0
    · simp [hz]
    · simp [hz]
theorem zR_next_loop {x : Int32} (hF : 1000 < F) (hx : -1 ≤ x ∧ x ≤ 3) (hh : ∀ k, k < 64 → (fl lv.1).find? (pk (nI k) (seen sn lt x)) = hvT (nI k) (seen sn lt x) lv.1) : ∀ (m k n : Nat) (sc : Nat → Int32) (w : ga_W), k + m = 64 → m < n → isRx w sc lv mem recs syn bt sn lt rd ms gt → sc 0 = 0 →
    ∃ w', (match nxt (seen sn lt x) mem lv.1 m k with | some j => f_R_next_53 F 54 x n (nI k) w = some (.inl (some (.int (nI j))), w') ∧ isR w' 0 lv mem recs syn bt sn lt rd ms gt | none => f_R_next_53 F 54 x n (nI k) w = some (.inl (some (.int 0)), w') ∧ isR w' 3 lv mem recs syn bt sn lt rd ms gt) ∧ pu_R w w' := by
  have c64 : (64 : Int32) = nI 64 := by decide
  intro m
  induction m with
  | zero =>
    intro k n sc w hk hn h h0
    obtain ⟨n, rfl⟩ : ∃ k, n = k + 1 := ⟨n - 1, by omega⟩
    have : k = 64 := by omega
    subst this
    obtain ⟨w3, c1, c2, c3⟩ := zR_throw (F := F) 3 h
    refine ⟨w3, ⟨?_, c2⟩, c3⟩
    rw [f_R_next_53, c64]
    simp only [↓ip (Int32.le_refl _), ↓ip (rR_is h.h), ↓gcI c1]
  | succ m ih =>
    intro k n sc w hk hn h h0
    obtain ⟨n, rfl⟩ : ∃ k, n = k + 1 := ⟨n - 1, by omega⟩
    have hle : ¬ (64 : Int32) ≤ nI k := by rw [c64]; exact nI_ge (by omega) (by omega)
    obtain ⟨d1, d2, d3, d4, d5, d7, d8, d27, d28, d29⟩ := id h
    have hup := zR_upTo (F := F) h.h d8 d7 hx
    obtain ⟨w3, s3, e1, e2, e3, e4, e5⟩ := zR_lookThrough (F := F) (key := nI k) (up := seen sn lt x) hF d1.1 d2 (hh k (by omega))
    have h3 : isRx w3 s3 lv mem recs syn bt sn lt rd ms gt := by
      have h9 := h.hd (lt' := lt) e5 e2.1 (e4.mono (by simp)) ((e4 25 (by simp)).trans d8)
      rw [(e4 27 (by simp)).trans d27, (e4 28 (by simp)).trans d28, (e4 29 (by simp)).trans d29] at h9
      exact h9
    have hs30 : s3 0 = 0 := (e4 0 (by simp)).trans h0
    have hfg := zR_foundGone (F := F) e2 h3.2.1 e3
    have hnx : nxt (seen sn lt x) mem lv.1 (m + 1) k = if isVal (hvA (nI k) (seen sn lt x) mem lv.1) then some k else nxt (seen sn lt x) mem lv.1 m (k + 1) := rfl
    rw [hnx, f_R_next_53]
    simp only [↓iN hle, ↓ip (rR_is h.h), ↓gcI hup, ↓gcV e1, ↓ip (rR_is e2.1), ↓gcI hfg]
    by_cases hv : isVal (hvA (nI k) (seen sn lt x) mem lv.1) = true
    · simp only [if_pos hv, ↓ip (gV_val.mpr hv)]
      exact ⟨w3, ⟨rfl, ⟨s3, h3, hs30⟩⟩, e5.R (by omega) (by omega)⟩
    · simp only [if_neg hv, ↓iN (fun h9 => hv (gV_val.mp h9))]
      obtain ⟨w4, g1, g2⟩ := ih (k + 1) n s3 w3 (by omega) (by omega) h3 hs30
      rw [nI_1]
      exact ⟨w4, g1, (e5.R (by omega) (by omega)).tr g2⟩
theorem zR_next {key x : Int32} (hF : 1000 < F) (hs : snOk sn) (h : isR w thr lv mem recs syn bt sn lt rd ms gt) :
    (¬ ((-1 ≤ key ∧ key ≤ 63) ∧ (-1 ≤ x ∧ x ≤ 3)) → ∃ w' v, f_R_next F 54 key x w = some (.inl (some (.int v)), w') ∧ isR w' 1 lv mem recs syn bt sn lt rd ms gt ∧ pu_R w w') ∧
    (-1 ≤ key ∧ key ≤ 63 → -1 ≤ x ∧ x ≤ 3 → 0 ≤ x ∧ sn x.toNatClampNeg = -1 → ∃ w' v, f_R_next F 54 key x w = some (.inl (some (.int v)), w') ∧ isR w' 2 lv mem recs syn bt sn lt rd ms gt ∧ pu_R w w') ∧
    (∀ k, -1 ≤ key ∧ key ≤ 63 → key + 1 = nI k → k ≤ 64 → -1 ≤ x ∧ x ≤ 3 → ¬ (0 ≤ x ∧ sn x.toNatClampNeg = -1) → (∀ k, k < 64 → (fl lv.1).find? (pk (nI k) (seen sn lt x)) = hvT (nI k) (seen sn lt x) lv.1) → ∃ w', (match nxt (seen sn lt x) mem lv.1 (64 - k) k with | some j => f_R_next F 54 key x w = some (.inl (some (.int (nI j))), w') ∧ isR w' 0 lv mem recs syn bt sn lt rd ms gt | none => f_R_next F 54 key x w = some (.inl (some (.int 0)), w') ∧ isR w' 3 lv mem recs syn bt sn lt rd ms gt) ∧ pu_R w w') := by
  obtain ⟨sc, h1, h2⟩ := h
  obtain ⟨w1, a1, a2, a3⟩ := zR_set0 0 h1
  generalize hsc : pu_up sc 0 0 = s1 at *
  have hs10 : s1 0 = 0 := by rw [← hsc]; rfl
  obtain ⟨b1, b2, b3, b4, b5, b7, b8, b27, b28, b29⟩ := id a2
  have c10 : ¬ (1 : Int32) = 0 := by decide
  refine ⟨fun hx => ?_, fun hk hx hf => ?_, fun k hk hkk hk64 hx hf hh => ?_⟩
  · obtain ⟨w3, c1, c2, c3⟩ := zR_throw (F := F) 1 a2
    refine ⟨w3, 0, ?_, c2, a3.tr c3⟩
    unfold f_R_next
    by_cases h1 : -1 ≤ key ∧ key ≤ 63
    · have h2 : ¬ (-1 ≤ x ∧ x ≤ 3) := fun h2 => hx ⟨h1, h2⟩
      simp only [↓bd a1, ↓gcI (zR_inT h1), ↓iN c10, ↓gcI (zR_inF h2), ↓ip trivial, if_true, ↓ip (rR_is a2.h), ↓gcI c1]
    · simp only [↓bd a1, ↓gcI (zR_inF h1), ↓ip trivial, if_true, ↓ip (rR_is a2.h), ↓gcI c1]
  · obtain ⟨w3, c1, c2, c3⟩ := zR_throw (F := F) 2 a2
    refine ⟨w3, 0, ?_, c2, a3.tr c3⟩
    obtain ⟨i, hi, rfl⟩ := in4 ⟨hf.1, hx.2⟩
    have hsi : sn i = -1 := by have := hf.2; rwa [nI_clamp (by omega)] at this
    have hn0 : ¬ nI i < 0 := Int32.not_lt.mpr hf.1
    have hn1 : ¬ 0 ≤ sn i := by rw [hsi]; decide
    unfold f_R_next
    simp only [↓bd a1, ↓gcI (zR_inT hk), ↓gcI (zR_inT hx), ↓iN c10, ↓jn, ↓iN hn0, ↓bd (rRr a2.h 23 71 rfl), ↓bd (rN b7 hi), ↓iN hn1, ↓ip (rR_is a2.h), ↓gcI c1]
  · obtain ⟨w3, c1, c2⟩ := zR_next_loop (F := F) (lv := lv) (mem := mem) (recs := recs) (syn := syn) (bt := bt) (rd := rd) (ms := ms) (gt := gt) hF hx hh (64 - k) k F s1 w1 (by omega) (by omega) a2 hs10
    have hroad : f_R_next F 54 key x w = f_R_next_53 F 54 x F (nI k) w1 := by
      rw [← hkk]
      unfold f_R_next
      by_cases h0 : x < 0
      · simp only [↓bd a1, ↓gcI (zR_inT hk), ↓gcI (zR_inT hx), ↓iN c10, ↓jn, ↓ip h0]
      · obtain ⟨i, hi, rfl⟩ := in4 ⟨Int32.not_lt.mp h0, hx.2⟩
        have hsi : ¬ sn i = -1 := fun h9 => hf ⟨Int32.not_lt.mp h0, by rw [nI_clamp (by omega)]; exact h9⟩
        have hn1 : 0 ≤ sn i := (hs i hi).resolve_left hsi
        simp only [↓bd a1, ↓gcI (zR_inT hk), ↓gcI (zR_inT hx), ↓iN c10, ↓jn, ↓iN h0, ↓bd (rRr a2.h 23 71 rfl), ↓bd (rN b7 hi), ↓ip hn1]
    rw [hroad]
    exact ⟨w3, c1, a3.tr c2⟩
