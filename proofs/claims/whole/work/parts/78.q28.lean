/-! PURE, 28: the reference writes: records, batches, flush -/
variable {F : Nat} {w w' w2 : ga_W} {sc sc' : Nat → Int32} {thr : Int32} {lv : LV} {mem : List Row} {recs : List Nat} {syn : Nat} {bt : Option (List Row)} {sn : Nat → Int32} {lt : Nat} {rd ms gt : Int32}
def isRq (w : ga_W) (sc : Nat → Int32) (lv : LV) (mem : List Row) (recs : List Nat) (syn : Nat) (bt : Option (List Row)) (sn : Nat → Int32) (lt : Nat) (rd ms gt : Int32) : Prop :=
  isRV w sc lv ∧ isRM w sc mem ∧ isRC w sc recs syn ∧ isRB w sc bt ∧ isN w 71 sn ∧ sc 25 = nI lt ∧ sc 27 = rd ∧ sc 28 = ms ∧ sc 29 = gt
theorem isRx.q (h : isRx w sc lv mem recs syn bt sn lt rd ms gt) : isRq w sc lv mem recs syn bt sn lt rd ms gt := ⟨h.1, h.2.1, h.2.2.1, h.2.2.2.2⟩
theorem isRq.x (h : isRq w sc lv mem recs syn bt sn lt rd ms gt) (hs : recs.sum = mem.length) : isRx w sc lv mem recs syn bt sn lt rd ms gt := ⟨h.1, h.2.1, h.2.2.1, hs, h.2.2.2⟩
theorem isRq.h (h : isRq w sc lv mem recs syn bt sn lt rd ms gt) : isRh w sc := h.1.1.1
theorem zR_rem {k v g : Int32} (hg : g = 0 ∨ g = 1) (h : isRq w sc lv mem recs syn bt sn lt rd ms gt) (hl : mem.length < 12) :
    ∃ w' sc', f_R_remember F 54 k v g w = some (.inl none, w') ∧ isRq w' sc' lv (mem ++ [(k, nI (lt + 1), v, g, 0)]) recs syn bt sn (lt + 1) rd ms gt ∧ sc' 0 = sc 0 ∧ pu_R w w' := by
  obtain ⟨h1, h2, h3, h4, h5, h6, h7⟩ := id h
  obtain ⟨w1, a1, a2, a3, a4⟩ := zR_remember (F := F) (k := k) (v := v) (g := g) hg h.h h2 h6 hl
  exact ⟨w1, _, a1, ⟨h1.hdK a4 (by decide) a2 ((scF.up (by simp)).tr (scF.up (by simp))), a3, h3.frK a4 (by decide) rfl rfl, h4.frK a4 (by decide) rfl, h5.frK a4 (by decide), rfl, h7⟩, rfl, a4.F (by decide)⟩
noncomputable def lgA (lv : LV) (mem : List Row) (recs : List Nat) (syn : Nat) (sn : Nat → Int32) (lt n : Nat) : LV × List Row × List Nat × Nat :=
  if mem.length < 8 then (lv, mem, recs ++ [n], syn) else (tdyC (oldA sn lt) 500 (flA lv mem), [], [], 0)
def fOK (lv : LV) (mem : List Row) (sn : Nat → Int32) (lt : Nat) : Prop := insA [] mem = srt mem.reverse ∧ (∀ r ∈ mem, r.2.2.2.2 = 0) ∧ (fl lv.1).length + mem.length ≤ 240 ∧ lv.1.length < 240 ∧ okS (oldA sn lt) 500 (flA lv mem)
theorem zR_flushQ (hF : 1000 < F) (hs : snOk sn) (h : isRq w sc lv mem recs syn bt sn lt rd ms gt) (hf : fOK lv mem sn lt) :
    ∃ w' sc', f_R_flushAll F 54 w = some (.inl none, w') ∧ isRx w' sc' (tdyC (oldA sn lt) 500 (flA lv mem)) [] [] 0 bt sn lt rd ms gt ∧ sc' 0 = sc 0 ∧ pu_R w w' := by
  obtain ⟨h1, h2, h3, h4, h5, h6, h7, h8, h9⟩ := id h
  obtain ⟨f1, f2, f3, f4, f5⟩ := hf
  obtain ⟨w1, sc1, a1, a2, a3, a4, a5, a6, a7⟩ := zR_flushAll (F := F) hF hs h1 h2 h6 h5 f1 f2 f3 f4 f5
  refine ⟨w1, sc1, a1, ⟨a2, a3, ?_, rfl, h4.frK a7 (by decide) (a6 22 (by simp)), h5.frK a7 (by decide), (a6 25 (by simp)).trans h6, (a6 27 (by simp)).trans h7, (a6 28 (by simp)).trans h8, (a6 29 (by simp)).trans h9⟩, a6 0 (by simp), a7.F (by decide)⟩
  obtain ⟨⟨Z, z1, z2⟩, -⟩ := h3
  exact ⟨⟨Z, a7.out (by decide) z1, fun i x hx => by simp at hx⟩, by rw [a4]; rfl, by simp, by rw [a5]; rfl⟩
theorem zR_logged {n : Nat} (hF : 1000 < F) (hs : snOk sn) (h : isRq w sc lv mem recs syn bt sn lt rd ms gt) (hsum : recs.sum + n = mem.length) (hr : recs.length < 12) (hf : 8 ≤ mem.length → fOK lv mem sn lt) :
    ∃ w' sc', f_R_logged F 54 (nI n) w = some (.inl none, w') ∧ isRx w' sc' (lgA lv mem recs syn sn lt n).1 (lgA lv mem recs syn sn lt n).2.1 (lgA lv mem recs syn sn lt n).2.2.1 (lgA lv mem recs syn sn lt n).2.2.2 bt sn lt rd ms gt ∧ sc' 0 = sc 0 ∧ pu_R w w' := by
  obtain ⟨h1, h2, ⟨⟨Z, z1, z2⟩, h17, h3l, h18⟩, h4, h5, h6, h7⟩ := id h
  obtain ⟨w1, a1, a2, a3⟩ := zA_st (i := recs.length) (x := nI n) z1 (by omega) (by omega)
  have hh1 : isRh w1 sc := h.h.fr a3 (by omega)
  obtain ⟨w3, b1, b2, b3⟩ := zR hh1 17 (nI (recs.length + 1)) (by omega) rfl
  have hK : pu_K w w3 [(54, 1), (67, 1)] := (a3.K (by simp)).tr (b3.K (by simp))
  have hq : isRq w3 (pu_up sc 17 (nI (recs.length + 1))) lv mem (recs ++ [n]) syn bt sn lt rd ms gt := by
    refine ⟨h1.hdK hK (by decide) b2 (scF.up (by simp)), h2.frK hK (by decide) rfl, ⟨⟨_, b3.out (by omega) a2, fun i x hx => ?_⟩, by simp [pu_up], by simp; omega, h18⟩, h4.frK hK (by decide) rfl, h5.frK hK (by decide), h6, h7⟩
    simp only [upd]
    by_cases hi : i = recs.length
    · subst hi
      rw [if_pos rfl]
      simp at hx
      rw [hx]
    · rw [if_neg hi]
      have hl := (List.getElem?_eq_some_iff.mp hx).1
      simp at hl
      rw [List.getElem?_append_left (by omega)] at hx
      exact z2 i x hx
  have c8 : (8 : Int32) = nI 8 := by decide
  have hml := h2.2.2
  have hroad : f_R_logged F 54 (nI n) w = if mem.length < 8 then some (.inl none, w3) else ga_c (f_R_flushAll F 54 w3) (ga_kV fun w8 => (some (.inl none, w8))) ga_up := by
    unfold f_R_logged
    simp only [↓bd (rRr h.h 16 67 rfl), ↓bd (rR h.h 17 rfl)]
    rw [h17]
    simp only [↓bd a1, ↓bd (rR hh1 17 rfl)]
    rw [h17, nI_1]
    simp only [↓bd b1, ↓bd (rR b2 15 rfl)]
    have e15 : pu_up sc 17 (nI (recs.length + 1)) 15 = nI mem.length := h2.2.1
    rw [e15, c8]
    by_cases hx : mem.length < 8
    · rw [if_pos ((nI_ltI (by omega) (by omega)).mpr hx), if_pos hx]
    · rw [if_neg (fun h9 => hx ((nI_ltI (by omega) (by omega)).mp h9)), if_neg hx]
      simp only [↓ip (rR_is b2)]
  rw [hroad]
  unfold lgA
  by_cases hx : mem.length < 8
  · simp only [if_pos hx]
    exact ⟨w3, _, rfl, hq.x (by simp [hsum]), rfl, hK.F (by decide)⟩
  · simp only [if_neg hx]
    obtain ⟨w4, sc4, d1, d2, d3, d4⟩ := zR_flushQ (F := F) hF hs hq (hf (by omega))
    refine ⟨w4, sc4, ?_, d2, d3, (hK.F (by decide)).tr d4⟩
    simp only [↓gcV d1]
theorem wrA_lg {ps : List Row} : wrA lv mem recs syn sn lt ps = lgA lv (mem ++ recd lt 0 ps) recs syn sn (lt + ps.length) ps.length := by
  unfold wrA lgA
  simp only [List.length_append, recd_len]
def wOKR (lv : LV) (mem : List Row) (recs : List Nat) (sn : Nat → Int32) (lt : Nat) (ps : List Row) : Prop := recs.length < 8 ∧ mem.length < 8 ∧ (8 ≤ mem.length + ps.length → fOK lv (mem ++ recd lt 0 ps) sn (lt + ps.length))
theorem isR.n (h : isR w thr lv mem recs syn bt sn lt rd ms gt) : isR w thr lv mem recs syn bt sn lt rd ms gt := h
set_option maxHeartbeats 1000000 in
theorem zR_write {key v g : Int32} (hF : 1000 < F) (hs : snOk sn) (hg : g = 0 ∨ g = 1) (hc8 : cl 0 lv.1 ≤ 8) (h : isR w thr lv mem recs syn bt sn lt rd ms gt) :
    (¬ (0 ≤ key ∧ key ≤ 63) → ∃ w' v', f_R_write F 54 key v g w = some (.inl (some (.int v')), w') ∧ isR w' 1 lv mem recs syn bt sn lt rd ms gt ∧ pu_R w w') ∧
    (0 ≤ key ∧ key ≤ 63 → ∀ ps, bt = some ps → ps.length = 4 → ∃ w' v', f_R_write F 54 key v g w = some (.inl (some (.int v')), w') ∧ isR w' 3 lv mem recs syn bt sn lt rd ms gt ∧ pu_R w w') ∧
    (0 ≤ key ∧ key ≤ 63 → ∀ ps, bt = some ps → ps.length < 4 → ∃ w', f_R_write F 54 key v g w = some (.inl (some (.int (nI (ps.length + 1)))), w') ∧ isR w' 0 lv mem recs syn (some (ps ++ [(key, 0, v, g, 0)])) sn lt rd ms gt ∧ pu_R w w') ∧
    (0 ≤ key ∧ key ≤ 63 → bt = none → fullA lv mem 1 → ∃ w' v', f_R_write F 54 key v g w = some (.inl (some (.int v')), w') ∧ isR w' 2 lv mem recs syn none sn lt rd ms gt ∧ pu_R w w') ∧
    (0 ≤ key ∧ key ≤ 63 → bt = none → ¬ fullA lv mem 1 → wOKR lv mem recs sn lt [(key, 0, v, g, 0)] → ∃ w', f_R_write F 54 key v g w = some (.inl (some (.int (nI (lt + 1)))), w') ∧ isR w' 0 (wrA lv mem recs syn sn lt [(key, 0, v, g, 0)]).1 (wrA lv mem recs syn sn lt [(key, 0, v, g, 0)]).2.1 (wrA lv mem recs syn sn lt [(key, 0, v, g, 0)]).2.2.1 (wrA lv mem recs syn sn lt [(key, 0, v, g, 0)]).2.2.2 none sn (lt + 1) rd ms gt ∧ pu_R w w') := by
  obtain ⟨sc, h1, h2⟩ := h
  obtain ⟨w1, a1, a2, a3⟩ := zR_set0 0 h1
  obtain ⟨b1, b2, b3, b4, b5, b7, b8, b9⟩ := id a2
  obtain ⟨B, bb, b6⟩ := id b5
  generalize hsc : pu_up sc 0 0 = s1 at *
  have hs10 : s1 0 = 0 := by rw [← hsc]; rfl
  have c10 : ¬ (1 : Int32) = 0 := by decide
  have c4 : (4 : Int32) = nI 4 := by decide
  refine ⟨fun hx => ?_, fun hx ps hps hp4 => ?_, fun hx ps hps hp4 => ?_, fun hx hbt hfu => ?_, fun hx hbt hfu hok => ?_⟩
  · obtain ⟨w3, c1, c2, c3⟩ := zR_throw (F := F) 1 a2
    refine ⟨w3, 0, ?_, c2, a3.tr c3⟩
    unfold f_R_write
    simp only [↓bd a1, ↓gcI (zR_inF hx), ↓ip trivial, if_true, ↓ip (rR_is a2.h), ↓gcI c1]
  · obtain ⟨w3, c1, c2, c3⟩ := zR_throw (F := F) 3 a2
    refine ⟨w3, 0, ?_, c2, a3.tr c3⟩
    subst hps
    have h4 : s1 22 = 4 := by rw [b6.1, hp4]; rfl
    unfold f_R_write
    simp only [↓bd a1, ↓gcI (zR_inT hx), ↓iN c10, ↓bd (rR a2.h 22 rfl), ↓ip h4, ↓ip (rR_is a2.h), ↓gcI c1]
  · subst hps
    have e22 : s1 22 = nI ps.length := b6.1
    have h4 : ¬ s1 22 = 4 := by rw [e22, c4]; exact fun h9 => absurd ((nI_inj (by omega) (by omega)).mp h9) (by omega)
    have h0 : ¬ s1 22 < 0 := by rw [e22]; exact Int32.not_lt.mpr (nI_nn (by omega))
    obtain ⟨k1, k2, k3⟩ := bb
    obtain ⟨v1, d1, d2, d3⟩ := zA_st (i := ps.length) (x := key) k1 (by omega) (by omega)
    obtain ⟨v2, e1, e2, e3⟩ := zA_st (i := ps.length) (x := v) (d3.out (by omega) k2) (by omega) (by omega)
    obtain ⟨v3, f1, f2, f3⟩ := zZ_st (i := ps.length) (x := g) (e3.out (by omega) (d3.out (by omega) k3)) (by omega) (by omega) hg
    have l1 : isRh v1 s1 := a2.h.fr d3 (by omega)
    have l2 := l1.fr e3 (by omega)
    have l3 := l2.fr f3 (by omega)
    obtain ⟨v4, g1, g2, g3⟩ := zR l3 22 (nI (ps.length + 1)) (by omega) rfl
    have hK : pu_K w1 v4 [(54, 1), (68, 3)] := (((fr_sub d3 (e' := 68) (k' := 3) (by simp) (by omega) (by omega)).tr (fr_sub e3 (e' := 68) (k' := 3) (by simp) (by omega) (by omega))).tr (fr_sub f3 (e' := 68) (k' := 3) (by simp) (by omega) (by omega))).tr (g3.K (by simp))
    refine ⟨v4, ?_, ⟨_, ⟨b1.hdK hK (by decide) g2 (scF.up (by simp)), b2.frK hK (by decide) rfl, b3.frK hK (by decide) rfl rfl, b4, ⟨pu_up B ps.length (key, 0, v, g, 0), ⟨?_, ?_, ?_⟩, ⟨by simp [pu_up], by simp; omega, b6.2.2.1.push _, fun r hr => ?_⟩⟩, b7.frK hK (by decide), b8, b9⟩, hs10⟩, a3.tr (hK.F (by decide))⟩
    · unfold f_R_write
      simp only [↓bd a1, ↓gcI (zR_inT hx), ↓iN c10, ↓bd (rR a2.h 22 rfl), ↓iN h4, ↓iN h0, ↓bd (rRr a2.h 19 68 rfl)]
      rw [e22]
      simp only [↓bd d1, ↓bd (rRr l1 20 69 rfl), ↓bd (rR l1 22 rfl)]
      rw [e22]
      simp only [↓bd e1, ↓bd (rRr l2 21 70 rfl), ↓bd (rR l2 22 rfl)]
      rw [e22]
      simp only [↓bd f1, ↓bd (rR l3 22 rfl)]
      rw [e22, nI_1]
      simp only [↓bd g1, ↓bd (rR g2 22 rfl)]
      rfl
    · rw [g3.out (by omega) (f3.out (by omega) (e3.out (by omega) d2))]
      exact congrArg (fun f => some (Sum.inl (0, 4, Sum.inl f))) (pu_upd (x := ((key, 0, v, g, 0) : Row)) (p := fun r => r.1))
    · rw [g3.out (by omega) (f3.out (by omega) e2)]
      exact congrArg (fun f => some (Sum.inl (0, 4, Sum.inl f))) (pu_upd (x := ((key, 0, v, g, 0) : Row)) (p := fun r => r.2.2.1))
    · rw [g3.out (by omega) f2]
      exact congrArg (fun f => some (Sum.inl (1, 4, Sum.inl f))) (pu_upd (x := ((key, 0, v, g, 0) : Row)) (p := fun r => r.2.2.2.1))
    · simp only [List.mem_append, List.mem_singleton] at hr
      rcases hr with hr | hr
      · exact b6.2.2.2 r hr
      · rw [hr]; exact hg
  · subst hbt
    have e22 : s1 22 = -1 := b6
    have h4 : ¬ s1 22 = 4 := by rw [e22]; decide
    have h0 : s1 22 < 0 := by rw [e22]; decide
    have hf := (zR_full (n := 1) hF a2 (by omega) hc8).1 hfu
    have hn1 : nI 1 = 1 := by decide
    rw [hn1] at hf
    obtain ⟨w3, c1, c2, c3⟩ := zR_throw (F := F) 2 a2
    refine ⟨w3, 0, ?_, c2, a3.tr c3⟩
    unfold f_R_write
    simp only [↓bd a1, ↓gcI (zR_inT hx), ↓iN c10, ↓bd (rR a2.h 22 rfl), ↓iN h4, ↓ip h0, ↓ip (rR_is a2.h), ↓gcI hf, ↓gcI c1]
  · subst hbt
    obtain ⟨o1, o2, o3⟩ := hok
    have e22 : s1 22 = -1 := b6
    have h4 : ¬ s1 22 = 4 := by rw [e22]; decide
    have h0 : s1 22 < 0 := by rw [e22]; decide
    have hf := (zR_full (n := 1) hF a2 (by omega) hc8).2 hfu
    have hn1 : nI 1 = 1 := by decide
    rw [hn1] at hf
    obtain ⟨w3, s3, c1, c2, c3, c5⟩ := zR_rem (F := F) (k := key) (v := v) hg a2.q (by omega)
    obtain ⟨w4, s4, d1, d2, d3, d4⟩ := zR_logged (n := 1) (F := F) hF hs c2 (by simp [b4]) (by omega) (fun h8 => o3 (by simpa using h8))
    rw [hn1] at d1
    refine ⟨w4, ?_, ⟨s4, ?_, by rw [d3, c3, hs10]⟩, (a3.tr c5).tr d4⟩
    · have e25 : s3 25 = nI (lt + 1) := c2.2.2.2.2.2.1
      unfold f_R_write
      simp only [↓bd a1, ↓gcI (zR_inT hx), ↓iN c10, ↓bd (rR a2.h 22 rfl), ↓iN h4, ↓ip h0, ↓ip (rR_is a2.h), ↓gcI hf, ↓ip trivial, if_true, ↓gcV c1, ↓bd (rR c2.h 25 rfl), ↓ip (rR_is c2.h), ↓gcV d1]
      rw [e25]
    · rw [wrA_lg]
      exact d2
theorem recd_app (lt : Nat) (a b : List Row) : ∀ i, recd lt i (a ++ b) = recd lt i a ++ recd lt (i + a.length) b := by
  induction a with
  | nil => intro i; simp [recd]
  | cons r a ih =>
    intro i
    simp only [List.cons_append, recd, ih (i + 1), List.length_cons]
    rw [show i + (a.length + 1) = i + 1 + a.length by omega]
theorem zR_c48 (hF : 1000 < F) (hs : snOk sn) {ps : List Row} (hsum : recs.sum = mem.length) (hok : wOKR lv mem recs sn lt ps) (todo : List Row) : ∀ (done : List Row) (sc : Nat → Int32) (w : ga_W) (n : Nat), ps = done ++ todo → isRq w sc lv (mem ++ recd lt 0 done) recs syn (some ps) sn (lt + done.length) rd ms gt → sc 0 = 0 → todo.length < n →
    ∃ w', f_R_close_48 F 54 n (nI done.length) w = some (.inl (some (.int (nI (lt + ps.length)))), w') ∧ isR w' 0 (wrA lv mem recs syn sn lt ps).1 (wrA lv mem recs syn sn lt ps).2.1 (wrA lv mem recs syn sn lt ps).2.2.1 (wrA lv mem recs syn sn lt ps).2.2.2 none sn (lt + ps.length) rd ms gt ∧ pu_R w w' := by
  obtain ⟨o1, o2, o3⟩ := hok
  induction todo with
  | nil =>
    intro done sc w n hps h h0 hn
    obtain ⟨n, rfl⟩ : ∃ k, n = k + 1 := ⟨n - 1, by simp at hn; omega⟩
    simp only [List.append_nil] at hps
    subst hps
    obtain ⟨B, bb, b6⟩ := h.2.2.2.1
    have hle : sc 22 ≤ nI ps.length := by rw [b6.1]; exact Int32.le_refl _
    obtain ⟨w4, s4, d1, d2, d3, d4⟩ := zR_logged (n := ps.length) (F := F) hF hs h (by simp [recd_len, hsum]) (by omega) (fun h8 => o3 (by simpa [recd_len] using h8))
    rw [← wrA_lg] at d2
    obtain ⟨w5, e1, e2, e3⟩ := zR d2.h 22 (-1 : Int32) (by omega) rfl
    obtain ⟨g1, g2, g3, g4, ⟨B', g5, -⟩, g7, g8, g9⟩ := id d2
    refine ⟨w5, ?_, ⟨_, ⟨g1.hd e3 e2 (scF.up (by simp)), g2.fr e3 (by omega) rfl, g3.fr e3 (by omega) rfl rfl, g4, ⟨B', ⟨e3.out (by omega) g5.1, e3.out (by omega) g5.2.1, e3.out (by omega) g5.2.2⟩, rfl⟩, g7.fr e3 (by omega), g8, g9⟩, d3.trans h0⟩, d4.tr (e3.R (by omega) (by omega))⟩
    have e25 : pu_up s4 22 (-1) 25 = nI (lt + ps.length) := g8
    rw [f_R_close_48]
    simp only [↓bd (rR h.h 22 rfl), ↓ip hle, ↓ip (rR_is h.h)]
    rw [b6.1]
    simp only [↓gcV d1, ↓bd e1, ↓bd (rR e2 25 rfl)]
    rw [e25]
  | cons r todo ih =>
    intro done sc w n hps h h0 hn
    obtain ⟨n, rfl⟩ : ∃ k, n = k + 1 := ⟨n - 1, by simp at hn; omega⟩
    simp only [List.length_cons] at hn
    obtain ⟨B, ⟨k1, k2, k3⟩, b6⟩ := id h.2.2.2.1
    have hpl : ps.length = done.length + (todo.length + 1) := by rw [hps]; simp
    have hp4 := b6.2.1
    have hle : ¬ sc 22 ≤ nI done.length := by rw [b6.1]; exact nI_ge (by omega) (by omega)
    have hat : ps[done.length]? = some r := by rw [hps]; simp
    have hB : B done.length = r := b6.2.2.1.at hat
    have r1 := rA k1 (show done.length < 4 by omega) (by omega)
    have r2 := rA k2 (show done.length < 4 by omega) (by omega)
    have r3 := rZ k3 (show done.length < 4 by omega) (by omega)
    rw [hB] at r1 r2 r3
    have hml := h.2.1.2.2
    simp only [List.length_append, recd_len] at hml
    obtain ⟨w3, s3, c1, c2, c3, c5⟩ := zR_rem (F := F) (k := r.1) (v := r.2.2.1) (g := r.2.2.2.1) (b6.2.2.2 r (by rw [hps]; simp)) h (by simp only [List.length_append, recd_len]; omega)
    have hrc : mem ++ recd lt 0 done ++ [(r.1, nI (lt + done.length + 1), r.2.2.1, r.2.2.2.1, 0)] = mem ++ recd lt 0 (done ++ [r]) := by
      rw [recd_app, List.append_assoc]
      simp only [recd, Nat.zero_add]
      rw [show lt + done.length + 1 = lt + 1 + done.length by omega]
    rw [hrc] at c2
    obtain ⟨w4, d1, d2, d3⟩ := ih (done ++ [r]) s3 w3 n (by rw [hps]; simp) (by simpa [Nat.add_assoc] using c2) (c3.trans h0) (by omega)
    refine ⟨w4, ?_, d2, c5.tr d3⟩
    simp only [List.length_append, List.length_cons, List.length_nil, Nat.zero_add] at d1
    rw [f_R_close_48]
    simp only [↓bd (rR h.h 22 rfl), ↓iN hle, ↓bd (rRr h.h 19 68 rfl), ↓bd r1, ↓bd (rRr h.h 20 69 rfl), ↓bd r2, ↓bd (rRr h.h 21 70 rfl), ↓bd r3, ↓ip (rR_is h.h), ↓gcV c1]
    rw [nI_1]
    exact d1
set_option maxHeartbeats 1000000 in
theorem zR_close {x : Int32} (hF : 1000 < F) (hs : snOk sn) (hc8 : cl 0 lv.1 ≤ 8) (h : isR w thr lv mem recs syn bt sn lt rd ms gt) :
    (bt = none → ∃ w' v, f_R_close F 54 x w = some (.inl (some (.int v)), w') ∧ isR w' 2 lv mem recs syn bt sn lt rd ms gt ∧ pu_R w w') ∧
    (∀ ps, bt = some ps → x = 0 ∨ ps = [] → ∃ w', f_R_close F 54 x w = some (.inl (some (.int (nI lt))), w') ∧ isR w' 0 lv mem recs syn none sn lt rd ms gt ∧ pu_R w w') ∧
    (∀ ps, bt = some ps → ¬ x = 0 → ¬ ps = [] → fullA lv mem ps.length → ∃ w' v, f_R_close F 54 x w = some (.inl (some (.int v)), w') ∧ isR w' 1 lv mem recs syn bt sn lt rd ms gt ∧ pu_R w w') ∧
    (∀ ps, bt = some ps → ¬ x = 0 → ¬ ps = [] → wOKR lv mem recs sn lt ps → ¬ fullA lv mem ps.length → ∃ w', f_R_close F 54 x w = some (.inl (some (.int (nI (lt + ps.length)))), w') ∧ isR w' 0 (wrA lv mem recs syn sn lt ps).1 (wrA lv mem recs syn sn lt ps).2.1 (wrA lv mem recs syn sn lt ps).2.2.1 (wrA lv mem recs syn sn lt ps).2.2.2 none sn (lt + ps.length) rd ms gt ∧ pu_R w w') := by
  obtain ⟨sc, h1, h2⟩ := h
  obtain ⟨w1, a1, a2, a3⟩ := zR_set0 0 h1
  obtain ⟨b1, b2, b3, b4, b5, b7, b8, b9⟩ := id a2
  obtain ⟨B, bb, b6⟩ := id b5
  generalize hsc : pu_up sc 0 0 = s1 at *
  have hs10 : s1 0 = 0 := by rw [← hsc]; rfl
  refine ⟨fun hbt => ?_, fun ps hbt hx => ?_, fun ps hbt hx hne hfu => ?_, fun ps hbt hx hne hok hfu => ?_⟩
  · subst hbt
    have e22 : s1 22 = -1 := b6
    have h0 : ¬ 0 ≤ s1 22 := by rw [e22]; decide
    obtain ⟨w3, c1, c2, c3⟩ := zR_throw (F := F) 2 a2
    refine ⟨w3, 0, ?_, c2, a3.tr c3⟩
    unfold f_R_close
    simp only [↓bd a1, ↓bd (rR a2.h 22 rfl), ↓iN h0, ↓ip (rR_is a2.h), ↓gcI c1]
  · subst hbt
    have e22 : s1 22 = nI ps.length := b6.1
    have hp4 := b6.2.1
    have h0 : 0 ≤ s1 22 := by rw [e22]; exact nI_nn (by omega)
    obtain ⟨w5, e1, e2, e3⟩ := zR a2.h 22 (-1 : Int32) (by omega) rfl
    refine ⟨w5, ?_, ⟨_, ⟨b1.hd e3 e2 (scF.up (by simp)), b2.fr e3 (by omega) rfl, b3.fr e3 (by omega) rfl rfl, b4, ⟨B, ⟨e3.out (by omega) bb.1, e3.out (by omega) bb.2.1, e3.out (by omega) bb.2.2⟩, rfl⟩, b7.fr e3 (by omega), b8, b9⟩, hs10⟩, a3.tr (e3.R (by omega) (by omega))⟩
    have e25 : pu_up s1 22 (-1) 25 = nI lt := b8
    unfold f_R_close
    by_cases hx0 : x = 0
    · simp only [↓bd a1, ↓bd (rR a2.h 22 rfl), ↓ip h0, ↓ip hx0, ↓bd e1, ↓bd (rR e2 25 rfl)]
      rw [e25]
    · have hpe : ps = [] := hx.resolve_left hx0
      have hle : s1 22 ≤ 0 := by rw [e22, hpe]; decide
      simp only [↓bd a1, ↓bd (rR a2.h 22 rfl), ↓ip h0, ↓iN hx0, ↓ip hle, ↓bd e1, ↓bd (rR e2 25 rfl)]
      rw [e25]
  · subst hbt
    have e22 : s1 22 = nI ps.length := b6.1
    have hp4 := b6.2.1
    have hpl : 0 < ps.length := List.length_pos_iff.mpr hne
    have h0 : 0 ≤ s1 22 := by rw [e22]; exact nI_nn (by omega)
    have hle : ¬ s1 22 ≤ 0 := by rw [e22]; exact nI_nle0 hpl (by omega)
    have hf := (zR_full (n := ps.length) hF a2 (by omega) hc8).1 hfu
    obtain ⟨w3, c1, c2, c3⟩ := zR_throw (F := F) 1 a2
    have c10 : ¬ (1 : Int32) = 0 := by decide
    refine ⟨w3, 0, ?_, c2, a3.tr c3⟩
    unfold f_R_close
    simp only [↓bd a1, ↓bd (rR a2.h 22 rfl), ↓ip h0, ↓iN hx, ↓iN hle, ↓ip (rR_is a2.h)]
    rw [e22]
    simp only [↓gcI hf, ↓iN c10, ↓ip (rR_is a2.h), ↓gcI c1]
  · subst hbt
    have e22 : s1 22 = nI ps.length := b6.1
    have hp4 := b6.2.1
    have hpl : 0 < ps.length := List.length_pos_iff.mpr hne
    have h0 : 0 ≤ s1 22 := by rw [e22]; exact nI_nn (by omega)
    have hle : ¬ s1 22 ≤ 0 := by rw [e22]; exact nI_nle0 hpl (by omega)
    have hf := (zR_full (n := ps.length) hF a2 (by omega) hc8).2 hfu
    obtain ⟨w4, d1, d2, d3⟩ := zR_c48 (F := F) (recs := recs) (syn := syn) (rd := rd) (ms := ms) (gt := gt) hF hs (ps := ps) b4 hok ps [] s1 w1 F (by simp) (by simpa [recd] using a2.q) hs10 (by omega)
    simp only [List.length_nil, nI_0] at d1
    refine ⟨w4, ?_, d2, a3.tr d3⟩
    unfold f_R_close
    simp only [↓bd a1, ↓bd (rR a2.h 22 rfl), ↓ip h0, ↓iN hx, ↓iN hle, ↓ip (rR_is a2.h)]
    rw [e22]
    simp only [↓gcI hf, ↓ip trivial, if_true]
    exact d1
theorem zR_flush (hF : 1000 < F) (hs : snOk sn) (hc8 : cl 0 lv.1 ≤ 8) (h : isR w thr lv mem recs syn bt sn lt rd ms gt) :
    (mem = [] → ∃ w' v, f_R_flush F 54 w = some (.inl (some (.int v)), w') ∧ isR w' 2 lv mem recs syn bt sn lt rd ms gt ∧ pu_R w w') ∧
    (¬ mem = [] → ¬ lv.2.1 = 0 ∧ 8 ≤ cl 0 lv.1 → ∃ w' v, f_R_flush F 54 w = some (.inl (some (.int v)), w') ∧ isR w' 1 lv mem recs syn bt sn lt rd ms gt ∧ pu_R w w') ∧
    (¬ mem = [] → ¬ (¬ lv.2.1 = 0 ∧ 8 ≤ cl 0 lv.1) → fOK lv mem sn lt → ∃ w', f_R_flush F 54 w = some (.inl (some (.int (nI (tdyC (oldA sn lt) 500 (flA lv mem)).1.length))), w') ∧ isR w' 0 (tdyC (oldA sn lt) 500 (flA lv mem)) [] [] 0 bt sn lt rd ms gt ∧ pu_R w w') := by
  obtain ⟨sc, h1, h2⟩ := h
  obtain ⟨w1, a1, a2, a3⟩ := zR_set0 0 h1
  obtain ⟨b1, b2, b3, b4, b5, b7, b8, b9⟩ := id a2
  generalize hsc : pu_up sc 0 0 = s1 at *
  have hs10 : s1 0 = 0 := by rw [← hsc]; rfl
  have e15 : s1 15 = nI mem.length := b2.2.1
  have hml := b2.2.2
  have hon := zR_onLevel (F := F) (lev := 0) hF b1.1
  have c8 : (8 : Int32) = nI 8 := by decide
  refine ⟨fun hm => ?_, fun hm hst => ?_, fun hm hst hfo => ?_⟩
  · have hz : s1 15 = 0 := by rw [e15, hm]; rfl
    obtain ⟨w3, c1, c2, c3⟩ := zR_throw (F := F) 2 a2
    refine ⟨w3, 0, ?_, c2, a3.tr c3⟩
    unfold f_R_flush
    simp only [↓bd a1, ↓bd (rR a2.h 15 rfl), ↓ip hz, ↓ip (rR_is a2.h), ↓gcI c1]
  · have hpl : 0 < mem.length := List.length_pos_iff.mpr hm
    have hz : ¬ s1 15 = 0 := by
      rw [e15]
      intro h9
      have : (0 : Int32) = nI 0 := by decide
      rw [this] at h9
      exact absurd ((nI_inj (by omega) (by omega)).mp h9) (by omega)
    have hz2 : ¬ s1 26 = 0 := by rw [b1.2.1]; exact hst.1
    have h8 : nI (cl 0 lv.1) = 8 := by rw [c8]; congr 1; omega
    obtain ⟨w3, c1, c2, c3⟩ := zR_throw (F := F) 1 a2
    refine ⟨w3, 0, ?_, c2, a3.tr c3⟩
    unfold f_R_flush
    simp only [↓bd a1, ↓bd (rR a2.h 15 rfl), ↓iN hz, ↓bd (rR a2.h 26 rfl), ↓iN hz2, ↓ip (rR_is a2.h), ↓gcI hon, ↓ip h8, ↓gcI c1]
  · have hpl : 0 < mem.length := List.length_pos_iff.mpr hm
    have hz : ¬ s1 15 = 0 := by
      rw [e15]
      intro h9
      have : (0 : Int32) = nI 0 := by decide
      rw [this] at h9
      exact absurd ((nI_inj (by omega) (by omega)).mp h9) (by omega)
    obtain ⟨w3, s3, c1, c2, c3, c4⟩ := zR_flushQ (F := F) hF hs a2.q hfo
    refine ⟨w3, ?_, ⟨s3, c2, c3.trans hs10⟩, a3.tr c4⟩
    have e10 := rR10 c2.1.1
    unfold f_R_flush
    by_cases hz2 : s1 26 = 0
    · simp only [↓bd a1, ↓bd (rR a2.h 15 rfl), ↓iN hz, ↓bd (rR a2.h 26 rfl), ↓ip hz2, ↓ip (rR_is a2.h), ↓gcV c1, ↓bd e10]
    · have h8 : ¬ nI (cl 0 lv.1) = 8 := by
        rw [c8]
        intro h9
        have := (nI_inj (by omega) (by omega)).mp h9
        rw [b1.2.1] at hz2
        exact hst ⟨hz2, by omega⟩
      simp only [↓bd a1, ↓bd (rR a2.h 15 rfl), ↓iN hz, ↓bd (rR a2.h 26 rfl), ↓iN hz2, ↓ip (rR_is a2.h), ↓gcI hon, ↓iN h8, ↓gcV c1, ↓bd e10]
