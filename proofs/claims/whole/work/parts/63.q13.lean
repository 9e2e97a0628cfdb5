/-! PURE, 13: put, remove, close, flush, crash, giveUp -/
noncomputable def putB (F : Nat) (key v g : Int32) (w : ga_W) : ga_O := (if ga_is w 5 0 = true then ga_c (f_L_addToPending F 0 key v g w) (ga_kV fun w1 => ((ga_gi w1 5 4 0).bind fun v2 => (if v2 = 0 then (if ga_is w1 5 0 = true then ga_c (f_L_write F 0 w1) (ga_kI fun v5 w4 => (some (.inl (some (.int v5)), w4))) ga_up else none) else ((ga_gr w1 5 2 0).bind fun r6 => ((ga_gi w1 0 5 r6).bind fun v7 => (some (.inl (some (.int v7)), w1))))))) ga_up else none)
theorem put_is {F : Nat} {key v : Int32} {w : ga_W} : f_L_put F 0 key v w = putB F key v 0 w := rfl
theorem remove_is {F : Nat} {key : Int32} {w : ga_W} : f_L_remove F 0 key w = putB F key 0 1 w := rfl
theorem okK_in {key v g nu s : Int32} (h : 0 ≤ key ∧ key ≤ 63) : okK (key, nu, v, g, s) := by
  obtain ⟨j, h1, h2⟩ := nI_of2 (x := key) (M := 63) (n := 63) (by decide) (Int32.not_lt.mpr h.1) h.2
  exact ⟨j, by omega, h2⟩
/-- what must hold that a record may be written -/
def wOK (lv : LV) (mem : List Row) (recs : List Nat) (sn : Nat → Int32) (lt : Nat) (ps : List Row) : Prop := recs.length < 8 ∧ mem.length < 8 ∧ (∀ r ∈ mem, okK r) ∧ (∀ t ∈ lv.1, t.2.2 ≠ []) ∧ (¬ fullA lv mem ps.length → 8 ≤ mem.length + ps.length → okT (oldA sn (lt + ps.length)) 500 (flA lv (mem ++ recd lt 0 ps)))
theorem zL_put {F : Nat} {w : ga_W} {lv : LV} {mem : List Row} {recs : List Nat} {syn : Nat} {bt : Option (List Row)} {sn : Nat → Int32} {lt : Nat} {rd ms gt key v g : Int32} (hF : 1000 < F) (h : isL w lv mem recs syn bt sn lt rd ms gt) (hg : g = 0 ∨ g = 1) :
    (¬ (0 ≤ key ∧ key ≤ 63) → putB F key v g w = some (.inr 0, xw w)) ∧
    (0 ≤ key ∧ key ≤ 63 → ∀ ps, bt = some ps → ps.length = 4 → putB F key v g w = some (.inr 2, xw w)) ∧
    (0 ≤ key ∧ key ≤ 63 → ∀ ps, bt = some ps → ps.length < 4 → ∃ w', putB F key v g w = some (.inl (some (.int (nI (ps.length + 1)))), w') ∧ isL w' lv mem recs syn (some (ps ++ [(key, 0, v, g, 0)])) sn lt rd ms gt ∧ pu_L w w') ∧
    (0 ≤ key ∧ key ≤ 63 → bt = none → wOK lv mem recs sn lt [(key, 0, v, g, 0)] → fullA lv mem 1 → ∃ w', putB F key v g w = some (.inr 1, w') ∧ isL w' lv mem recs syn none sn lt rd ms gt ∧ pu_L w w') ∧
    (0 ≤ key ∧ key ≤ 63 → bt = none → wOK lv mem recs sn lt [(key, 0, v, g, 0)] → ¬ fullA lv mem 1 → ∃ w', putB F key v g w = some (.inl (some (.int (nI (lt + 1)))), w') ∧ isL w' (wrA lv mem recs syn sn lt [(key, 0, v, g, 0)]).1 (wrA lv mem recs syn sn lt [(key, 0, v, g, 0)]).2.1 (wrA lv mem recs syn sn lt [(key, 0, v, g, 0)]).2.2.1 (wrA lv mem recs syn sn lt [(key, 0, v, g, 0)]).2.2.2 none sn (lt + 1) rd ms gt ∧ pu_L w w') := by
  obtain ⟨h0, h1, h2, ⟨pd, h3, h4⟩, h5⟩ := h
  obtain ⟨p1, p2, p3⟩ := zL_addToPending (F := F) (key := key) (v := v) (g := g) h0 h3 hg
  refine ⟨fun hk => ?_, fun hk ps hb hl => ?_, fun hk ps hb hl => ?_, fun hk hb hok hf => ?_, fun hk hb hok hf => ?_⟩
  · unfold putB
    simp only [↓ip (rL_is h0), ↓gcX (p1 hk)]
    rfl
  · have hpd := h4 ps hb
    subst hpd
    subst hb
    have := p2 hk (by show ¬ bI true = 0; decide) hl
    unfold putB
    simp only [↓ip (rL_is h0), ↓gcX this]
    rfl
  · have hpd := h4 ps hb
    subst hpd
    subst hb
    have hz : ¬ bI (some pd).isSome = 0 := by show ¬ bI true = 0; decide
    obtain ⟨w1, e1, e2, e3⟩ := p3 hk (Or.inr hl)
    rw [if_neg hz] at e2
    have h01 := h0.fr e3 (by omega)
    refine ⟨w1, ?_, ⟨h01, h1.fr e3 (by omega), h2.fr e3 (by omega), ⟨_, e2, fun ps hp => Option.some.inj hp⟩, h5.fr e3 (by omega)⟩, e3.L (by omega)⟩
    have hsz := rE_size e2
    simp only [List.length_append, List.length_cons, List.length_nil, Nat.zero_add] at hsz
    unfold putB
    simp only [↓ip (rL_is h0), ↓gcV e1, ↓bd (rL_bo h01), ↓iN hz, ↓bd (rL_p h01), ↓bd hsz]
  · subst hb
    have hz : bI (none : Option (List Row)).isSome = 0 := rfl
    obtain ⟨w1, e1, e2, e3⟩ := p3 hk (Or.inl hz)
    rw [if_pos hz, List.nil_append] at e2
    have h01 := h0.fr e3 (by omega)
    obtain ⟨k1, k2, k3, k4, k5⟩ := hok
    obtain ⟨q1, -⟩ := zL_write (F := F) hF h01 (h1.fr e3 (by omega)) (h2.fr e3 (by omega)) e2 (h5.fr e3 (by omega)) k1 k2 k3 (fun r hr => by simp at hr; subst hr; exact okK_in hk) k4 (by simp) k5
    refine ⟨xw w1, ?_, isL.x ⟨h01, h1.fr e3 (by omega), h2.fr e3 (by omega), ⟨_, e2, fun ps hp => by cases hp⟩, h5.fr e3 (by omega)⟩, e3.Lx (by omega)⟩
    unfold putB
    simp only [↓ip (rL_is h0), ↓gcV e1, ↓bd (rL_bo h01), ↓ip hz, ↓ip (rL_is h01), ↓gcX (q1 hf)]
    rfl
  · subst hb
    have hz : bI (none : Option (List Row)).isSome = 0 := rfl
    obtain ⟨w1, e1, e2, e3⟩ := p3 hk (Or.inl hz)
    rw [if_pos hz, List.nil_append] at e2
    have h01 := h0.fr e3 (by omega)
    obtain ⟨k1, k2, k3, k4, k5⟩ := hok
    obtain ⟨-, q2⟩ := zL_write (F := F) hF h01 (h1.fr e3 (by omega)) (h2.fr e3 (by omega)) e2 (h5.fr e3 (by omega)) k1 k2 k3 (fun r hr => by simp at hr; subst hr; exact okK_in hk) k4 (by simp) k5
    obtain ⟨w2, f1, f2, f3, f4, f5, f6, f7⟩ := q2 hf
    refine ⟨w2, ?_, ⟨f2, f3, f4, ⟨_, f5, fun ps hp => by cases hp⟩, f6⟩, ((e3.mono (e' := 0) (k' := 54) (by omega) (by omega)).tr (f7.mono (by omega) (by omega))).L (by omega)⟩
    unfold putB
    simp only [↓ip (rL_is h0), ↓gcV e1, ↓bd (rL_bo h01), ↓ip hz, ↓ip (rL_is h01), ↓gcI f1]
    rfl
theorem zL_close {F : Nat} {w : ga_W} {lv : LV} {mem : List Row} {recs : List Nat} {syn : Nat} {bt : Option (List Row)} {sn : Nat → Int32} {lt : Nat} {rd ms gt x : Int32} (hF : 1000 < F) (h : isL w lv mem recs syn bt sn lt rd ms gt) :
    (bt = none → f_L_close F 0 x w = some (.inr 2, xw w)) ∧
    (∀ ps, bt = some ps → x = 0 ∨ ps = [] → ∃ w', f_L_close F 0 x w = some (.inl (some (.int (nI lt))), w') ∧ isL w' lv mem recs syn none sn lt rd ms gt ∧ pu_L w w') ∧
    (∀ ps, bt = some ps → ¬ x = 0 → ¬ ps = [] → (∀ r ∈ ps, okK r) → wOK lv mem recs sn lt ps → fullA lv mem ps.length → ∃ w', f_L_close F 0 x w = some (.inr 1, w') ∧ isL w' lv mem recs syn bt sn lt rd ms gt ∧ pu_L w w') ∧
    (∀ ps, bt = some ps → ¬ x = 0 → ¬ ps = [] → (∀ r ∈ ps, okK r) → wOK lv mem recs sn lt ps → ¬ fullA lv mem ps.length → ∃ w', f_L_close F 0 x w = some (.inl (some (.int (nI (lt + ps.length)))), w') ∧ isL w' (wrA lv mem recs syn sn lt ps).1 (wrA lv mem recs syn sn lt ps).2.1 (wrA lv mem recs syn sn lt ps).2.2.1 (wrA lv mem recs syn sn lt ps).2.2.2 none sn (lt + ps.length) rd ms gt ∧ pu_L w w') := by
  obtain ⟨h0, h1, h2, ⟨pd, h3, h4⟩, h5⟩ := h
  have b1 : ∀ ps : List Row, ¬ bI (some ps).isSome = 0 := fun ps => by show ¬ bI true = 0; decide
  refine ⟨fun hb => ?_, fun ps hb hx => ?_, fun ps hb hx hp hk hok hf => ?_, fun ps hb hx hp hk hok hf => ?_⟩
  · subst hb
    have hz : bI (none : Option (List Row)).isSome = 0 := rfl
    unfold f_L_close
    simp only [↓bd (rL_bo h0), ↓ip hz]
    rfl
  · have hpd := h4 ps hb
    subst hpd
    subst hb
    obtain ⟨w1, a1, a2, a3⟩ := zL_bo (x := 0) h0
    refine ⟨w1, ?_, ⟨a2, h1.fr a3 (by omega), h2.fr a3 (by omega), ⟨pd, h3.fr a3 (by omega), fun ps hp => by cases hp⟩, h5.fr a3 (by omega)⟩, a3.L (by omega)⟩
    unfold f_L_close
    by_cases hx0 : x = 0
    · simp only [↓bd (rL_bo h0), ↓iN (b1 pd), ↓ip hx0, ↓bd a1, ↓bd (rL_lt a2)]
    · have hp := hx.resolve_left hx0
      subst hp
      have hle : nI ([] : List Row).length ≤ 0 := by decide
      simp only [↓bd (rL_bo h0), ↓iN (b1 []), ↓iN hx0, ↓bd (rL_p h0), ↓bd (rE_size h3), ↓ip hle, ↓bd a1, ↓bd (rL_lt a2)]
  · have hpd := h4 ps hb
    subst hpd
    subst hb
    obtain ⟨k1, k2, k3, k4, k5⟩ := hok
    have hpl : 0 < pd.length := List.length_pos_iff.mpr hp
    have hp4 := h3.1
    obtain ⟨q1, -⟩ := zL_write (F := F) hF h0 h1 h2 h3 h5 k1 k2 k3 hk k4 hpl k5
    have hle : ¬ nI pd.length ≤ 0 := nI_nle hpl (by omega)
    refine ⟨xw w, ?_, isL.x ⟨h0, h1, h2, ⟨pd, h3, h4⟩, h5⟩, pu_Lx⟩
    unfold f_L_close
    simp only [↓bd (rL_bo h0), ↓iN (b1 pd), ↓iN hx, ↓bd (rL_p h0), ↓bd (rE_size h3), ↓iN hle, ↓ip (rL_is h0), ↓gcX (q1 hf)]
    rfl
  · have hpd := h4 ps hb
    subst hpd
    subst hb
    obtain ⟨k1, k2, k3, k4, k5⟩ := hok
    have hpl : 0 < pd.length := List.length_pos_iff.mpr hp
    have hp4 := h3.1
    obtain ⟨-, q2⟩ := zL_write (F := F) hF h0 h1 h2 h3 h5 k1 k2 k3 hk k4 hpl k5
    obtain ⟨w2, f1, f2, f3, f4, f5, f6, f7⟩ := q2 hf
    have hle : ¬ nI pd.length ≤ 0 := nI_nle hpl (by omega)
    obtain ⟨w3, a1, a2, a3⟩ := zL_bo (x := 0) f2
    refine ⟨w3, ?_, ⟨a2, f3.fr a3 (by omega), f4.fr a3 (by omega), ⟨pd, f5.fr a3 (by omega), fun ps hp => by cases hp⟩, f6.fr a3 (by omega)⟩, (f7.tr (a3.mono (by omega) (by omega))).L (by omega)⟩
    unfold f_L_close
    simp only [↓bd (rL_bo h0), ↓iN (b1 pd), ↓iN hx, ↓bd (rL_p h0), ↓bd (rE_size h3), ↓iN hle, ↓ip (rL_is h0), ↓gcI f1, ↓bd a1, ↓bd (rL_lt a2)]
theorem zL_flush {F : Nat} {w : ga_W} {lv : LV} {mem : List Row} {recs : List Nat} {syn : Nat} {bt : Option (List Row)} {sn : Nat → Int32} {lt : Nat} {rd ms gt : Int32} (hF : 1000 < F) (h : isL w lv mem recs syn bt sn lt rd ms gt) :
    (mem = [] → f_L_flush F 0 w = some (.inr 2, xw w)) ∧ (¬ mem = [] → ¬ lv.2.1 = 0 ∧ 8 ≤ cl 0 lv.1 → f_L_flush F 0 w = some (.inr 1, xw w)) ∧
    (¬ mem = [] → ¬ (¬ lv.2.1 = 0 ∧ 8 ≤ cl 0 lv.1) → (∀ r ∈ mem, okK r) → (∀ t ∈ lv.1, t.2.2 ≠ []) → (fl lv.1).length + mem.length ≤ 240 → okT (oldA sn lt) 500 (flA lv mem) → ∃ w', f_L_flush F 0 w = some (.inl (some (.int (nI (tdyC (oldA sn lt) 500 (flA lv mem)).1.length))), w') ∧ isL w' (tdyC (oldA sn lt) 500 (flA lv mem)) [] [] 0 bt sn lt rd ms gt ∧ pu_L w w') := by
  obtain ⟨h0, h1, h2, ⟨pd, h3, h4⟩, h5⟩ := h
  obtain ⟨sh, sp, hv, hs, -⟩ := id h2
  have hm12 := h1.2.1.1
  have hblk := zV_isBlocked (F := F) hF hv hs
  refine ⟨fun hm => ?_, fun hm hb => ?_, fun hm hb hk hne hc hok => ?_⟩
  · subst hm
    have hz : nI ([] : List Row).length = 0 := by decide
    unfold f_L_flush
    simp only [↓bd (rL_m h0), ↓bd (rM_rows h1.1), ↓bd (rE_size h1.2.1), ↓ip hz]
    rfl
  · have hz : ¬ nI mem.length = 0 := nI_ne0 (List.length_pos_iff.mpr hm) (by omega)
    have hb2 : ¬ (if lv.2.1 = 0 ∨ cl 0 lv.1 < 8 then (0 : Int32) else 1) = 0 := by
      rw [if_neg (by rintro (h | h); exact hb.1 h; omega)]; decide
    unfold f_L_flush
    simp only [↓bd (rL_m h0), ↓bd (rM_rows h1.1), ↓bd (rE_size h1.2.1), ↓iN hz, ↓bd (rL_v h0), ↓ip (rV_is hv), ↓gcI hblk, ↓iN hb2]
    rfl
  · have hz : ¬ nI mem.length = 0 := nI_ne0 (List.length_pos_iff.mpr hm) (by omega)
    have hb2 : (if lv.2.1 = 0 ∨ cl 0 lv.1 < 8 then (0 : Int32) else 1) = 0 := by
      rw [if_pos]
      by_cases h : lv.2.1 = 0
      · exact Or.inl h
      · right
        by_cases h8 : cl 0 lv.1 < 8
        · exact h8
        · exact absurd ⟨h, by omega⟩ hb
    have hnl := ne_le hne
    have hml : 0 < mem.length := List.length_pos_iff.mpr hm
    obtain ⟨w3, c1, c2, c3, c4, c5⟩ := zL_move (F := F) hF h0 h1 h2 hk hc (by omega)
    have h53 := h5.fr c5 (by omega)
    obtain ⟨w4, d1, d2, d3⟩ := zV_tidy (F := F) (k := 500) hF c4 hok (by omega)
    obtain ⟨sh3, sp3, hv3, -⟩ := id c4
    obtain ⟨sh4, sp4, hv4, hs4, -⟩ := id d2
    have h04 := c2.fr d3 (by omega)
    refine ⟨w4, ?_, ⟨h04, c3.fr d3 (by omega), d2, ⟨pd, (h3.fr c5 (by omega)).fr d3 (by omega), h4⟩, h53.fr d3 (by omega)⟩, ((c5.mono (e' := 0) (k' := 54) (by omega) (by omega)).tr (d3.mono (by omega) (by omega))).L (by omega)⟩
    unfold f_L_flush
    simp only [↓bd (rL_m h0), ↓bd (rM_rows h1.1), ↓bd (rE_size h1.2.1), ↓iN hz, ↓bd (rL_v h0), ↓ip (rV_is hv), ↓gcI hblk, ↓ip hb2, ↓ip (rL_is h0), ↓gcV c1, ↓bd (rL_v c2), ↓ip (rL_is c2), ↓gcI (zL_oldest hF c2 h53), ↓ip (rV_is hv3), ↓gcV d1, ↓bd (rL_v h04), ↓bd (rV_sh hv4), ↓bd (rS_tables hs4)]
/-- the greatest number of all -/
def grt (mem : List Row) (tabs : List Tab) : Int32 := if mxN 0 mem < mxN 0 (fl tabs) then mxN 0 (fl tabs) else mxN 0 mem
theorem zL_crash {F : Nat} {w : ga_W} {lv : LV} {mem : List Row} {recs : List Nat} {syn : Nat} {bt : Option (List Row)} {sn : Nat → Int32} {lt lt' : Nat} {rd ms gt x : Int32} (hF : 1000 < F) (h : isL w lv mem recs syn bt sn lt rd ms gt) (hsy : syn < 100) :
    (¬ (0 ≤ x ∧ x ≤ 100) → f_L_crash F 0 x w = some (.inr 0, xw w)) ∧ (∀ k, x = nI k → k ≤ 100 → grt (mem.take (recs.take (syn + k)).sum) lv.1 = nI lt' → ∃ w', f_L_crash F 0 x w = some (.inl (some (.int (nI (recs.take (syn + k)).length))), w') ∧ isL w' lv (mem.take (recs.take (syn + k)).sum) (recs.take (syn + k)) (min (syn + k) recs.length) none (fun _ => -1) lt' rd ms gt ∧ pu_L w w') := by
  obtain ⟨h0, h1, h2, ⟨pd, h3, h4⟩, h5⟩ := h
  obtain ⟨sh, sp, hv, hs, -⟩ := id h2
  refine ⟨fun hx => ?_, fun k hx hk hg => ?_⟩
  · unfold f_L_crash
    simp only [↓gcX (zL_out hx)]
    rfl
  · have hx0 : 0 ≤ x ∧ x ≤ 100 := by
      subst hx
      exact ⟨nI_pos' (by omega), by rw [show (100 : Int32) = nI 100 by decide]; exact nI_le (by omega) (by omega)⟩
    obtain ⟨w1, a1, a2, a3⟩ := zL_bo (x := 0) h0
    obtain ⟨S, s1, s2⟩ := h5.fr a3 (by omega)
    obtain ⟨w2, b1, ⟨g, b2, b3⟩, b4⟩ := zJ_fill (F := F) (x := -1) (by omega) s1 hF
    have h02 := a2.fr b4 (by omega)
    have h12 := (h1.fr a3 (by omega)).fr b4 (by omega)
    have h22 := (h2.fr a3 (by omega)).fr b4 (by omega)
    obtain ⟨w3, c1, c2, c3⟩ := zM_loseAllBut (F := F) (k := syn + k) h12 (by omega)
    have h03 := h02.fr c3 (by omega)
    have h23 := h22.fr c3 (by omega)
    obtain ⟨sh3, sp3, hv3, hs3, -⟩ := id h23
    have g1 := zE_greatestNumber (F := F) c2.2.1 hF
    have g2 := zE_greatestNumber (F := F) (rS_e hs3) hF
    simp only [List.append_nil] at g2
    obtain ⟨w4, d1, d2, d3⟩ := zL_lt (x := nI lt') h03
    have h14 := c2.fr d3 (by omega)
    refine ⟨w4, ?_, ⟨d2, h14, h23.fr d3 (by omega), ⟨pd, (((h3.fr a3 (by omega)).fr b4 (by omega)).fr c3 (by omega)).fr d3 (by omega), fun ps hp => by cases hp⟩, ⟨g, d3.out (by omega) (c3.out (by omega) b2), b3⟩⟩, (((a3.mono (e' := 0) (k' := 54) (by omega) (by omega)).tr (b4.mono (by omega) (by omega))).tr ((c3.mono (by omega) (by omega)).tr (d3.mono (by omega) (by omega)))).L (by omega)⟩
    unfold f_L_crash
    simp only [↓gcV (zL_in hx0), ↓bd a1, ↓bd (rL_s a2), ↓gcV b1, ↓bd (rL_m h02), ↓bd (rM_syn h12.1), ↓ip (rM_is h12.1)]
    rw [hx, nI_add]
    have hgg : (if mxN 0 (mem.take (recs.take (syn + k)).sum) < mxN 0 (fl lv.1) then mxN 0 (fl lv.1) else mxN 0 (mem.take (recs.take (syn + k)).sum)) = nI lt' := hg
    simp only [↓gcV c1, ↓bd (rL_m h03), ↓bd (rM_rows c2.1), ↓ip (rE_is c2.2.1), ↓gcI g1, ↓bd (rL_v h03), ↓bd (rV_sh hv3), ↓bd (rS_rows hs3), ↓ip (rE_is (rS_e hs3)), ↓gcI g2]
    rw [hgg]
    simp only [↓bd d1, ↓bd (rL_m d2), ↓bd (rM_recs h14.1)]
/-- without the spoiled rows -/
def lsA (lv : LV) : LV := (lsp lv.1, 0, lv.2.2)
theorem zL_giveUp {F : Nat} {w : ga_W} {lv : LV} {mem : List Row} {recs : List Nat} {syn : Nat} {bt : Option (List Row)} {sn : Nat → Int32} {lt : Nat} {rd ms gt : Int32} (hF : 1000 < F) (h : isL w lv mem recs syn bt sn lt rd ms gt) (hok : okT (oldA sn lt) 500 (lsA lv)) :
    ∃ w', f_L_giveUp F 0 w = some (.inl (some (.int (nI ((fl lv.1).length - (fl (lsp lv.1)).length)))), w') ∧ isL w' (tdyC (oldA sn lt) 500 (lsA lv)) mem recs syn bt sn lt rd ms gt ∧ pu_L w w' := by
  obtain ⟨h0, h1, h2, ⟨pd, h3, h4⟩, h5⟩ := h
  obtain ⟨sh, sp, hv, hs, -⟩ := id h2
  obtain ⟨w1, a1, a2, a3⟩ := zV_loseSpoiled (F := F) hF h2
  have h01 := h0.fr a3 (by omega)
  have h51 := h5.fr a3 (by omega)
  have a2 : isVs w1 (lsA lv) := a2
  obtain ⟨sh1, sp1, hv1, -⟩ := id a2
  obtain ⟨w2, b1, b2, b3⟩ := zV_tidy (F := F) (k := 500) hF a2 hok (by omega)
  refine ⟨w2, ?_, ⟨h01.fr b3 (by omega), (h1.fr a3 (by omega)).fr b3 (by omega), b2, ⟨pd, (h3.fr a3 (by omega)).fr b3 (by omega), h4⟩, h51.fr b3 (by omega)⟩, (a3.tr b3).L (by omega)⟩
  unfold f_L_giveUp
  simp only [↓bd (rL_v h0), ↓ip (rV_is hv), ↓gcI a1, ↓bd (rL_v h01), ↓ip (rL_is h01), ↓gcI (zL_oldest hF h01 h51), ↓ip (rV_is hv1), ↓gcV b1]
