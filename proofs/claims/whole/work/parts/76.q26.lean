/-! PURE, 26: the reference's whole state; its small operations -/
variable {F : Nat} {w w' w2 : ga_W} {sc sc' : Nat → Int32} {thr : Int32} {lv : LV} {mem : List Row} {recs : List Nat} {syn : Nat} {bt : Option (List Row)} {sn : Nat → Int32} {lt : Nat} {rd ms gt : Int32}
def isRM (w : ga_W) (sc : Nat → Int32) (mem : List Row) : Prop := (∃ R, isA w 63 16 R ∧ pu_ag R mem) ∧ sc 15 = nI mem.length ∧ mem.length ≤ 12
def isRC (w : ga_W) (sc : Nat → Int32) (recs : List Nat) (syn : Nat) : Prop := (∃ Z : Nat → Int32, w.1[67]? = some (.inl (0, 16, .inl Z)) ∧ ∀ i x, recs[i]? = some x → Z i = nI x) ∧ sc 17 = nI recs.length ∧ recs.length ≤ 12 ∧ sc 18 = nI syn
def isRb (w : ga_W) (B : Nat → Row) : Prop := w.1[68]? = some (.inl (0, 4, .inl (fun i => (B i).1))) ∧ w.1[69]? = some (.inl (0, 4, .inl (fun i => (B i).2.2.1))) ∧ w.1[70]? = some (.inl (1, 4, .inl (fun i => (B i).2.2.2.1)))
def btOk (sc : Nat → Int32) (B : Nat → Row) (bt : Option (List Row)) : Prop := match bt with
  | some ps => sc 22 = nI ps.length ∧ ps.length ≤ 4 ∧ pu_ag B ps ∧ ∀ r ∈ ps, r.2.2.2.1 = 0 ∨ r.2.2.2.1 = 1
  | none => sc 22 = -1
def isRB (w : ga_W) (sc : Nat → Int32) (bt : Option (List Row)) : Prop := ∃ B, isRb w B ∧ btOk sc B bt
def isRx (w : ga_W) (sc : Nat → Int32) (lv : LV) (mem : List Row) (recs : List Nat) (syn : Nat) (bt : Option (List Row)) (sn : Nat → Int32) (lt : Nat) (rd ms gt : Int32) : Prop :=
  isRV w sc lv ∧ isRM w sc mem ∧ isRC w sc recs syn ∧ recs.sum = mem.length ∧ isRB w sc bt ∧ isN w 71 sn ∧ sc 25 = nI lt ∧ sc 27 = rd ∧ sc 28 = ms ∧ sc 29 = gt
def isR (w : ga_W) (thr : Int32) (lv : LV) (mem : List Row) (recs : List Nat) (syn : Nat) (bt : Option (List Row)) (sn : Nat → Int32) (lt : Nat) (rd ms gt : Int32) : Prop := ∃ sc, isRx w sc lv mem recs syn bt sn lt rd ms gt ∧ sc 0 = thr
/-- what an operation of the reference leaves -/
abbrev pu_R (w w' : ga_W) : Prop := pu_F w w' 54 24
theorem isRM.fr (h : isRM w sc mem) {e k : Nat} (hf : pu_F w w' e k) (he : 67 ≤ e ∨ e + k ≤ 63) (h15 : sc' 15 = sc 15) : isRM w' sc' mem := by
  obtain ⟨⟨R, h1, h2⟩, h3, h4⟩ := h
  exact ⟨⟨R, h1.fr hf (by omega), h2⟩, h15.trans h3, h4⟩
theorem isRC.fr (h : isRC w sc recs syn) {e k : Nat} (hf : pu_F w w' e k) (he : 67 < e ∨ e + k ≤ 67) (h17 : sc' 17 = sc 17) (h18 : sc' 18 = sc 18) : isRC w' sc' recs syn := by
  obtain ⟨⟨Z, h1, h2⟩, h3, h4, h5⟩ := h
  exact ⟨⟨Z, hf.out (by omega) h1, h2⟩, h17.trans h3, h4, h18.trans h5⟩
theorem btOk_sc {B : Nat → Row} (h : btOk sc B bt) (h22 : sc' 22 = sc 22) : btOk sc' B bt := by
  cases bt with
  | none => exact h22.trans h
  | some ps => exact ⟨h22.trans h.1, h.2⟩
theorem isRB.fr (h : isRB w sc bt) {e k : Nat} (hf : pu_F w w' e k) (he : 71 ≤ e ∨ e + k ≤ 68) (h22 : sc' 22 = sc 22) : isRB w' sc' bt := by
  obtain ⟨B, ⟨h1, h2, h3⟩, h4⟩ := h
  exact ⟨B, ⟨hf.out (by omega) h1, hf.out (by omega) h2, hf.out (by omega) h3⟩, btOk_sc h4 h22⟩
theorem isRV.hd (h : isRV w sc lv) (hf : pu_F w w' 54 1) (hh : isRh w' sc') (hs : scF sc sc' [0, 15, 17, 18, 22, 25, 27, 28, 29, 36, 38]) : isRV w' sc' lv := by
  obtain ⟨h1, h2, h3, h4, ⟨pt, h5, h6⟩, ⟨W, h7⟩, ⟨G, h8⟩⟩ := h
  exact ⟨h1.sc hf hh (hs 5 (by simp)) (hs 10 (by simp)), (hs 26 (by simp)).trans h2, (hs 30 (by simp)).trans h3, (hs 31 (by simp)).trans h4, ⟨pt, h5.fr hf (by omega), h6⟩, ⟨W, h7.fr hf (by omega)⟩, ⟨G, h8.fr hf (by omega)⟩⟩
/-- another number of the head, none of the arrays' -/
theorem isRx.hd (h : isRx w sc lv mem recs syn bt sn lt rd ms gt) {lt' : Nat} (hf : pu_F w w' 54 1) (hh : isRh w' sc') (hs : scF sc sc' [0, 25, 27, 28, 29, 36, 38]) (h25 : sc' 25 = nI lt') : isRx w' sc' lv mem recs syn bt sn lt' (sc' 27) (sc' 28) (sc' 29) := by
  obtain ⟨h1, h2, h3, h4, h5, h6, -⟩ := h
  exact ⟨h1.hd hf hh (hs.mono (by simp)), h2.fr hf (by omega) (hs 15 (by simp)), h3.fr hf (by omega) (hs 17 (by simp)) (hs 18 (by simp)), h4, h5.fr hf (by omega) (hs 22 (by simp)), h6.fr hf (by omega), h25, rfl, rfl, rfl⟩
theorem isRx.h (h : isRx w sc lv mem recs syn bt sn lt rd ms gt) : isRh w sc := h.1.1.1
theorem pu_F.R {e k : Nat} (h : pu_F w w' e k) (h1 : 54 ≤ e) (h2 : e + k ≤ 78) : pu_R w w' := h.mono (by omega) (by omega)
/-- thrown is set -/
theorem zR_set0 (x : Int32) (h : isRx w sc lv mem recs syn bt sn lt rd ms gt) : ∃ w', ga_put w 6 0 54 (.int x) = some w' ∧ isRx w' (pu_up sc 0 x) lv mem recs syn bt sn lt rd ms gt ∧ pu_R w w' := by
  obtain ⟨w1, a1, a2, a3⟩ := zR h.h 0 x (by omega) rfl
  obtain ⟨-, -, -, -, -, -, h25, h27, h28, h29⟩ := id h
  have h9 := h.hd (lt' := lt) a3 a2 (scF.up (by simp)) h25
  refine ⟨w1, a1, ?_, a3.R (by omega) (by omega)⟩
  have e1 : pu_up sc 0 x 27 = rd := h27
  have e2 : pu_up sc 0 x 28 = ms := h28
  have e3 : pu_up sc 0 x 29 = gt := h29
  rw [e1, e2, e3] at h9
  exact h9
theorem zR_throw (c : Int32) (h : isRx w sc lv mem recs syn bt sn lt rd ms gt) : ∃ w', f_R_raise F 54 c w = some (.inl (some (.int 0)), w') ∧ isR w' c lv mem recs syn bt sn lt rd ms gt ∧ pu_R w w' := by
  obtain ⟨w1, a1, a2, a3⟩ := zR_set0 c h
  refine ⟨w1, ?_, ⟨_, a2, rfl⟩, a3⟩
  unfold f_R_raise
  simp only [↓bd a1]
theorem zR_thrown (h : isR w thr lv mem recs syn bt sn lt rd ms gt) : f_R_thrown F 54 w = some (.inl (some (.int thr)), w) := by
  obtain ⟨sc, h1, h2⟩ := h
  unfold f_R_thrown
  simp only [↓bd (rR h1.h 0 rfl), h2]
theorem zR_sync (h : isR w thr lv mem recs syn bt sn lt rd ms gt) : ∃ w', f_R_sync F 54 w = some (.inl (some (.int (nI recs.length))), w') ∧ isR w' 0 lv mem recs recs.length bt sn lt rd ms gt ∧ pu_R w w' := by
  obtain ⟨sc, h1, h2⟩ := h
  obtain ⟨w1, a1, a2, a3⟩ := zR_set0 0 h1
  obtain ⟨b1, b2, ⟨b3, b4, b5, b6⟩, b7, b8, b9, b10, b11⟩ := id a2
  obtain ⟨w3, c1, c2, c3⟩ := zR a2.h 18 (nI recs.length) (by omega) rfl
  refine ⟨w3, ?_, ⟨_, ⟨b1.hd c3 c2 (scF.up (by simp)), b2.fr c3 (by omega) rfl, ⟨?_, b4, b5, rfl⟩, b7, b8.fr c3 (by omega) rfl, b9.fr c3 (by omega), b10, b11⟩, rfl⟩, a3.tr (c3.R (by omega) (by omega))⟩
  · have e1 : pu_up sc 0 0 17 = nI recs.length := b4
    have e2 : pu_up (pu_up sc 0 0) 18 (nI recs.length) 17 = nI recs.length := b4
    unfold f_R_sync
    simp only [↓bd a1, ↓bd (rR a2.h 17 rfl)]
    rw [e1]
    simp only [↓bd c1, ↓bd (rR c2 17 rfl)]
    rw [e2]
  · obtain ⟨Z, z1, z2⟩ := b3
    exact ⟨Z, c3.out (by omega) z1, z2⟩
theorem bt22 {B : Nat → Row} (h : btOk sc B bt) : (bt = none ∧ sc 22 = -1 ∧ sc 22 < 0 ∧ ¬ 0 ≤ sc 22) ∨ (∃ ps, bt = some ps ∧ sc 22 = nI ps.length ∧ ps.length ≤ 4 ∧ ¬ sc 22 < 0 ∧ 0 ≤ sc 22) := by
  cases bt with
  | none =>
    have h : sc 22 = -1 := h
    exact Or.inl ⟨rfl, h, by rw [h]; decide, by rw [h]; decide⟩
  | some ps =>
    have h0 : 0 ≤ sc 22 := by rw [h.1]; exact nI_nn (by have := h.2.1; omega)
    exact Or.inr ⟨ps, rfl, h.1, h.2.1, Int32.not_lt.mpr h0, h0⟩
theorem zR_open (h : isR w thr lv mem recs syn bt sn lt rd ms gt) :
    (bt = none → ∃ w', f_R_open F 54 w = some (.inl (some (.int (nI lt))), w') ∧ isR w' 0 lv mem recs syn (some []) sn lt rd ms gt ∧ pu_R w w') ∧ (¬ bt = none → ∃ w' v, f_R_open F 54 w = some (.inl (some (.int v)), w') ∧ isR w' 1 lv mem recs syn bt sn lt rd ms gt ∧ pu_R w w') := by
  obtain ⟨sc, h1, h2⟩ := h
  obtain ⟨w1, a1, a2, a3⟩ := zR_set0 0 h1
  obtain ⟨b1, b2, b3, b4, ⟨B, b5, b6⟩, b7, b8, b9⟩ := id a2
  have h22 := bt22 b6
  constructor
  · intro hb
    obtain ⟨-, -, h0, -⟩ : _ := h22.resolve_right (by rintro ⟨ps, h9, -⟩; rw [hb] at h9; cases h9)
    obtain ⟨w3, c1, c2, c3⟩ := zR a2.h 22 (0 : Int32) (by omega) rfl
    refine ⟨w3, ?_, ⟨_, ⟨b1.hd c3 c2 (scF.up (by simp)), b2.fr c3 (by omega) rfl, b3.fr c3 (by omega) rfl rfl, b4, ⟨B, ⟨c3.out (by omega) b5.1, c3.out (by omega) b5.2.1, c3.out (by omega) b5.2.2⟩, ⟨rfl, by simp, fun i hi => by simp at hi, fun r hr => by simp at hr⟩⟩, b7.fr c3 (by omega), b8, b9⟩, rfl⟩, a3.tr (c3.R (by omega) (by omega))⟩
    have e1 : pu_up (pu_up sc 0 0) 22 0 25 = nI lt := b8
    unfold f_R_open
    simp only [↓bd a1, ↓bd (rR a2.h 22 rfl), ↓ip h0, ↓bd c1, ↓bd (rR c2 25 rfl)]
    rw [e1]
  · intro hb
    obtain ⟨ps, -, -, -, h0, -⟩ : _ := h22.resolve_left (by rintro ⟨h9, -⟩; exact hb h9)
    obtain ⟨w3, c1, c2, c3⟩ := zR_throw (F := F) 1 a2
    refine ⟨w3, 0, ?_, c2, a3.tr c3⟩
    unfold f_R_open
    simp only [↓bd a1, ↓bd (rR a2.h 22 rfl), ↓iN h0, ↓ip (rR_is a2.h), ↓gcI c1]
theorem zR_snapshot (hF : 1000 < F) (hs : snOk sn) (h : isR w thr lv mem recs syn bt sn lt rd ms gt) :
    (∀ i, frS sn = some i → ∃ w', f_R_snapshot F 54 w = some (.inl (some (.int (nI i))), w') ∧ isR w' 0 lv mem recs syn bt (pu_up sn i (nI lt)) lt rd ms gt ∧ pu_R w w') ∧ (frS sn = none → ∃ w' v, f_R_snapshot F 54 w = some (.inl (some (.int v)), w') ∧ isR w' 1 lv mem recs syn bt sn lt rd ms gt ∧ pu_R w w') := by
  obtain ⟨sc, h1, h2⟩ := h
  obtain ⟨w1, a1, a2, a3⟩ := zR_set0 0 h1
  obtain ⟨b1, b2, b3, b4, b5, b7, b8, b9⟩ := id a2
  obtain ⟨G, rfl⟩ : ∃ G, F = G + 5 := ⟨F - 5, by omega⟩
  have c4 : (4 : Int32) ≤ nI 4 := by decide
  have hsn : ∀ i, i < 4 → (sn i < 0 ↔ sn i = -1) := fun i hi => by
    rcases hs i hi with h9 | h9
    · rw [h9]; decide
    · constructor
      · intro h8; exact absurd h8 (Int32.not_lt.mpr h9)
      · intro h8; rw [h8]; decide
  have e1 : pu_up sc 0 0 25 = nI lt := b8
  have yes : ∀ (n i : Nat), i < 4 → sn i = -1 → ∃ w', f_R_snapshot_7 (G + 5) 54 (n + 1) (nI i) w1 = some (.inl (some (.int (nI i))), w') ∧ isR w' 0 lv mem recs syn bt (pu_up sn i (nI lt)) lt rd ms gt ∧ pu_R w1 w' := by
    intro n i hi hsi
    have hc : ¬ (4 : Int32) ≤ nI i := by
      have : (4 : Int32) = nI 4 := by decide
      rw [this]; exact nI_ge hi (by omega)
    obtain ⟨w3, c1, c2, c3⟩ := zN_st (i := i) (x := nI lt) b7 hi
    refine ⟨w3, ?_, ⟨_, ⟨b1.frK (X := [(71, 1)]) (c3.K (by simp)) (by decide), b2.fr c3 (by omega) rfl, b3.fr c3 (by omega) rfl rfl, b4, b5.fr c3 (by omega) rfl, c2, b8, b9⟩, rfl⟩, c3.R (by omega) (by omega)⟩
    rw [f_R_snapshot_7]
    simp only [↓iN hc, ↓bd (rRr a2.h 23 71 rfl), ↓bd (rN b7 hi), ↓ip ((hsn i hi).mpr hsi), ↓bd (rR a2.h 25 rfl)]
    rw [e1]
    simp only [↓bd c1]
  have no : ∀ (n i : Nat), i < 4 → ¬ sn i = -1 → f_R_snapshot_7 (G + 5) 54 (n + 1) (nI i) w1 = f_R_snapshot_7 (G + 5) 54 n (nI (i + 1)) w1 := by
    intro n i hi hsi
    have hc : ¬ (4 : Int32) ≤ nI i := by
      have : (4 : Int32) = nI 4 := by decide
      rw [this]; exact nI_ge hi (by omega)
    rw [f_R_snapshot_7]
    simp only [↓iN hc, ↓bd (rRr a2.h 23 71 rfl), ↓bd (rN b7 hi), ↓iN (fun h9 => hsi ((hsn i hi).mp h9))]
    rw [nI_1]
  have z0 : (0 : Int32) = nI 0 := by decide
  have start : f_R_snapshot (G + 5) 54 w = f_R_snapshot_7 (G + 5) 54 (G + 5) (nI 0) w1 := by
    unfold f_R_snapshot
    simp only [↓bd a1]
    rw [z0]
  unfold frS
  rw [start]
  by_cases s0 : sn 0 = -1
  · rw [if_pos s0]
    refine ⟨fun i hi => ?_, fun h9 => by cases h9⟩
    cases hi
    obtain ⟨w3, d1, d2, d3⟩ := yes (G + 4) 0 (by omega) s0
    exact ⟨w3, d1, d2, a3.tr d3⟩
  · rw [if_neg s0, no _ 0 (by omega) s0]
    by_cases s1 : sn 1 = -1
    · rw [if_pos s1]
      refine ⟨fun i hi => ?_, fun h9 => by cases h9⟩
      cases hi
      obtain ⟨w3, d1, d2, d3⟩ := yes (G + 3) 1 (by omega) s1
      exact ⟨w3, d1, d2, a3.tr d3⟩
    · rw [if_neg s1, no _ 1 (by omega) s1]
      by_cases s2 : sn 2 = -1
      · rw [if_pos s2]
        refine ⟨fun i hi => ?_, fun h9 => by cases h9⟩
        cases hi
        obtain ⟨w3, d1, d2, d3⟩ := yes (G + 2) 2 (by omega) s2
        exact ⟨w3, d1, d2, a3.tr d3⟩
      · rw [if_neg s2, no _ 2 (by omega) s2]
        by_cases s3 : sn 3 = -1
        · rw [if_pos s3]
          refine ⟨fun i hi => ?_, fun h9 => by cases h9⟩
          cases hi
          obtain ⟨w3, d1, d2, d3⟩ := yes (G + 1) 3 (by omega) s3
          exact ⟨w3, d1, d2, a3.tr d3⟩
        · rw [if_neg s3, no _ 3 (by omega) s3]
          refine ⟨(fun i hi => by cases hi), fun _ => ?_⟩
          obtain ⟨w3, c1, c2, c3⟩ := zR_throw (F := G + 5) 1 a2
          refine ⟨w3, 0, ?_, c2, a3.tr c3⟩
          rw [f_R_snapshot_7]
          simp only [↓ip c4, ↓ip (rR_is a2.h), ↓gcI c1]
theorem zR_release (hs : snOk sn) {x : Int32} (h : isR w thr lv mem recs syn bt sn lt rd ms gt) :
    (¬ (0 ≤ x ∧ x ≤ 3) → ∃ w' v, f_R_release F 54 x w = some (.inl (some (.int v)), w') ∧ isR w' 1 lv mem recs syn bt sn lt rd ms gt ∧ pu_R w w') ∧ (∀ i, i < 4 → x = nI i → sn i = -1 → ∃ w' v, f_R_release F 54 x w = some (.inl (some (.int v)), w') ∧ isR w' 2 lv mem recs syn bt sn lt rd ms gt ∧ pu_R w w') ∧ (∀ i, i < 4 → x = nI i → ¬ sn i = -1 → ∃ w', f_R_release F 54 x w = some (.inl (some (.int (sn i))), w') ∧ isR w' 0 lv mem recs syn bt (pu_up sn i (-1)) lt rd ms gt ∧ pu_R w w') := by
  obtain ⟨sc, h1, h2⟩ := h
  obtain ⟨w1, a1, a2, a3⟩ := zR_set0 0 h1
  obtain ⟨b1, b2, b3, b4, b5, b7, b8, b9⟩ := id a2
  have c00 : ¬ (1 : Int32) = 0 := by decide
  refine ⟨fun hx => ?_, fun i hi hx hsi => ?_, fun i hi hx hsi => ?_⟩
  · obtain ⟨w3, c1, c2, c3⟩ := zR_throw (F := F) 1 a2
    refine ⟨w3, 0, ?_, c2, a3.tr c3⟩
    unfold f_R_release
    simp only [↓bd a1, ↓gcI (zR_inF hx), ↓ip trivial, if_true, ↓ip (rR_is a2.h), ↓gcI c1]
  · have hin : 0 ≤ x ∧ x ≤ 3 := by
      rw [hx]
      have : (3 : Int32) = nI 3 := by decide
      exact ⟨nI_nn (by omega), by rw [this]; exact nI_le (by omega) (by omega)⟩
    have hn : ¬ 0 ≤ sn i := by rw [hsi]; decide
    obtain ⟨w3, c1, c2, c3⟩ := zR_throw (F := F) 2 a2
    refine ⟨w3, 0, ?_, c2, a3.tr c3⟩
    have hr := rN b7 hi
    rw [← hx] at hr
    unfold f_R_release
    simp only [↓bd a1, ↓gcI (zR_inT hin), ↓iN c00, ↓bd (rRr a2.h 23 71 rfl), ↓bd hr, ↓iN hn, ↓ip (rR_is a2.h), ↓gcI c1]
  · have hin : 0 ≤ x ∧ x ≤ 3 := by
      rw [hx]
      have : (3 : Int32) = nI 3 := by decide
      exact ⟨nI_nn (by omega), by rw [this]; exact nI_le (by omega) (by omega)⟩
    have hn : 0 ≤ sn i := (hs i hi).resolve_left hsi
    obtain ⟨w3, c1, c2, c3⟩ := zN_st (i := i) (x := -1) b7 hi
    refine ⟨w3, ?_, ⟨_, ⟨b1.frK (X := [(71, 1)]) (c3.K (by simp)) (by decide), b2.fr c3 (by omega) rfl, b3.fr c3 (by omega) rfl rfl, b4, b5.fr c3 (by omega) rfl, c2, b8, b9⟩, rfl⟩, a3.tr (c3.R (by omega) (by omega))⟩
    have hr := rN b7 hi
    rw [← hx] at hr c1
    unfold f_R_release
    simp only [↓bd a1, ↓gcI (zR_inT hin), ↓iN c00, ↓bd (rRr a2.h 23 71 rfl), ↓bd hr, ↓ip hn, ↓bd c1]
