/-! PURE, 15: get and next of the class -/
def lkA (key up : Int32) (mem : List Row) (tabs : List Tab) : Nat × Nat × Option (Option Row) := match mem.reverse.find? (pk key up) with
  | some r => (0, 0, some (some r))
  | none => lkT key up tabs
/-- an answer out of what was found -/
def outA (f : ga_O) (w' : ga_W) (o : Option (Option Row)) : Prop := match o with
  | none => f = some (.inr 1, xw w')
  | some none => f = some (.inr 3, xw w')
  | some (some r) => if r.2.2.2.1 = 0 then f = some (.inl (some (.int r.2.2.1)), w') else f = some (.inr 3, xw w')
theorem zL_valueIn {F e cap : Nat} {w : ga_W} {xs : List Row} {r : Row} {v : Int32} (h : isEl w e cap xs) (hv : isAt xs (some r) v) : f_L_valueIn F e v w = if r.2.2.2.1 = 0 then some (.inl (some (.int r.2.2.1)), w) else some (.inr 3, xw w) := by
  obtain ⟨j, h1, rfl, h3⟩ := hv
  unfold f_L_valueIn
  simp only [↓bd (rE_g h), ↓bd (rE_gone h h3), ↓bd (rE_v h), ↓bd (rE_val h h3)]
  rfl
theorem zL_get {F : Nat} {w : ga_W} {lv : LV} {mem : List Row} {recs : List Nat} {syn : Nat} {bt : Option (List Row)} {sn : Nat → Int32} {lt : Nat} {rd ms gt key x : Int32} (hF : 1000 < F) (h : isL w lv mem recs syn bt sn lt rd ms gt) (hne : ∀ t ∈ lv.1, t.2.2 ≠ []) :
    (¬ ((0 ≤ key ∧ key ≤ 63) ∧ (-1 ≤ x ∧ x ≤ 3)) → f_L_get F 0 key x w = some (.inr 0, xw w)) ∧
    (0 ≤ key ∧ key ≤ 63 → -1 ≤ x ∧ x ≤ 3 → 0 ≤ x ∧ sn x.toNatClampNeg = -1 → f_L_get F 0 key x w = some (.inr 2, xw w)) ∧
    (0 ≤ key ∧ key ≤ 63 → -1 ≤ x ∧ x ≤ 3 → ¬ (0 ≤ x ∧ sn x.toNatClampNeg = -1) → ∃ w', outA (f_L_get F 0 key x w) w' (lkA key (seen sn lt x) mem lv.1).2.2 ∧ isL w' lv mem recs syn bt sn lt (rd + nI (lkA key (seen sn lt x) mem lv.1).1) (ms + nI (lkA key (seen sn lt x) mem lv.1).2.1) (gt + 1) ∧ pu_F w w' 0 1) := by
  obtain ⟨h0, h1, h2, ⟨pd, h3, h4⟩, h5⟩ := h
  have hs := zL_seen (F := F) (x := x) h0 h5
  refine ⟨fun hx => ?_, fun hk hx hfree => ?_, fun hk hx hfree => ?_⟩
  · unfold f_L_get
    by_cases hk : 0 ≤ key ∧ key ≤ 63
    · have h2 : ¬ (-1 ≤ x ∧ x ≤ 3) := fun h2 => hx ⟨hk, h2⟩
      rw [if_pos h2] at hs
      simp only [↓gcV (zL_in hk), ↓ip (rL_is h0), ↓gcX hs]
      rfl
    · simp only [↓gcX (zL_out hk)]
      rfl
  · rw [if_neg (fun h => h hx), if_pos hfree] at hs
    unfold f_L_get
    simp only [↓gcV (zL_in hk), ↓ip (rL_is h0), ↓gcX hs]
    rfl
  · rw [if_neg (fun h => h hx), if_neg hfree] at hs
    obtain ⟨w1, a1, a2, a3⟩ := zL_gt (x := gt + 1) h0
    have h11 := h1.fr a3 (by omega)
    have h21 := h2.fr a3 (by omega)
    have hl12 := h1.2.1.1
    obtain ⟨v, b1, b2⟩ := zM_rowOf (F := F) (key := key) (upTo := seen sn lt x) h11 hF
    unfold lkA
    cases hm : mem.reverse.find? (pk key (seen sn lt x)) with
    | some r =>
      rw [hm] at b2
      have hv1 : ¬ v = -1 := fun h => by cases (isAt_m1 b2 (by omega)).mp h
      have hval := zL_valueIn (F := F) h11.2.1 b2
      refine ⟨w1, ?_, ⟨by simpa [nI_0] using a2, h11, h21, ⟨pd, h3.fr a3 (by omega), h4⟩, h5.fr a3 (by omega)⟩, a3⟩
      show if r.2.2.2.1 = 0 then _ else _
      by_cases hg : r.2.2.2.1 = 0
      · rw [if_pos hg] at hval ⊢
        unfold f_L_get
        simp only [↓gcV (zL_in hk), ↓ip (rL_is h0), ↓gcI hs, ↓bd (rL_gt h0), ↓bd a1, ↓bd (rL_m a2), ↓ip (rM_is h11.1), ↓gcI b1, ↓iN hv1, ↓bd (rM_rows h11.1), ↓gcI hval]
      · rw [if_neg hg] at hval ⊢
        unfold f_L_get
        simp only [↓gcV (zL_in hk), ↓ip (rL_is h0), ↓gcI hs, ↓bd (rL_gt h0), ↓bd a1, ↓bd (rL_m a2), ↓ip (rM_is h11.1), ↓gcI b1, ↓iN hv1, ↓bd (rM_rows h11.1), ↓gcX hval]
        rfl
    | none =>
      rw [hm] at b2
      have hv1 : v = -1 := b2
      obtain ⟨sh, sp, hv, hsh, -⟩ := id h21
      have hd := hv.d
      have hlen := hsh.2.1
      have hlr := (rS_e hsh).1
      obtain ⟨w2, c1, c2, c3⟩ := zL_look_loop (F := F) (key := key) (up := seen sn lt x) hF lv.1 [] rd ms w1 F a2 hv (by simpa using hsh) hne (by omega)
      simp only [List.length_nil, nI_0, List.nil_append] at c1
      have c1 : ans (fl lv.1) (f_L_lookInTables F 0 key (seen sn lt x) w1) w2 (lkT key (seen sn lt x) lv.1).2.2 := c1
      have h12 := h11.fr c3 (by omega)
      have h22 := h21.fr c3 (by omega)
      have hv2 := hv.fr c3 (by omega)
      have hsh2 := hsh.fr c3 (by omega)
      refine ⟨w2, ?_, ⟨c2, h12, h22, ⟨pd, (h3.fr a3 (by omega)).fr c3 (by omega), h4⟩, (h5.fr a3 (by omega)).fr c3 (by omega)⟩, a3.tr c3⟩
      show outA _ w2 (lkT key (seen sn lt x) lv.1).2.2
      cases ho : (lkT key (seen sn lt x) lv.1).2.2 with
      | none =>
        rw [ho] at c1
        have c1 : f_L_lookInTables F 0 key (seen sn lt x) w1 = some (.inr 1, xw w2) := c1
        show _ = _
        unfold f_L_get
        simp only [↓gcV (zL_in hk), ↓ip (rL_is h0), ↓gcI hs, ↓bd (rL_gt h0), ↓bd a1, ↓bd (rL_m a2), ↓ip (rM_is h11.1), ↓gcI b1, ↓ip hv1, ↓ip (rL_is a2), ↓gcX c1]
        rfl
      | some q =>
        rw [ho] at c1
        obtain ⟨v2, f1, f2⟩ := c1
        have hll : (fl lv.1).length ≤ 1000 := by simp only [List.length_append] at hlr; omega
        cases q with
        | none =>
          have hv2 : v2 = -1 := (isAt_m1 f2 hll).mpr rfl
          show _ = _
          unfold f_L_get
          simp only [↓gcV (zL_in hk), ↓ip (rL_is h0), ↓gcI hs, ↓bd (rL_gt h0), ↓bd a1, ↓bd (rL_m a2), ↓ip (rM_is h11.1), ↓gcI b1, ↓ip hv1, ↓ip (rL_is a2), ↓gcI f1, ↓ip hv2]
          rfl
        | some r =>
          have hvn : ¬ v2 = -1 := fun h => by cases (isAt_m1 f2 hll).mp h
          have hval := zL_valueIn (F := F) (rS_e hsh2) (v := v2) (r := r) (by simpa using f2)
          show if r.2.2.2.1 = 0 then _ else _
          by_cases hg : r.2.2.2.1 = 0
          · rw [if_pos hg] at hval ⊢
            unfold f_L_get
            simp only [↓gcV (zL_in hk), ↓ip (rL_is h0), ↓gcI hs, ↓bd (rL_gt h0), ↓bd a1, ↓bd (rL_m a2), ↓ip (rM_is h11.1), ↓gcI b1, ↓ip hv1, ↓ip (rL_is a2), ↓gcI f1, ↓iN hvn, ↓bd (rL_v c2), ↓bd (rV_sh hv2), ↓bd (rS_rows hsh2), ↓gcI hval]
          · rw [if_neg hg] at hval ⊢
            unfold f_L_get
            simp only [↓gcV (zL_in hk), ↓ip (rL_is h0), ↓gcI hs, ↓bd (rL_gt h0), ↓bd a1, ↓bd (rL_m a2), ↓ip (rM_is h11.1), ↓gcI b1, ↓ip hv1, ↓ip (rL_is a2), ↓gcI f1, ↓iN hvn, ↓bd (rL_v c2), ↓bd (rV_sh hv2), ↓bd (rS_rows hsh2), ↓gcX hval]
            rfl
/-! next -/
def hvT (key up : Int32) : List Tab → Option Row
  | [] => none
  | t :: ts => if lo t ≤ key ∧ key ≤ hi t then (match t.2.2.find? (pk key up) with
      | some r => some r
      | none => hvT key up ts) else hvT key up ts
def hvA (key up : Int32) (mem : List Row) (tabs : List Tab) : Option Row := match mem.reverse.find? (pk key up) with
  | some r => some r
  | none => hvT key up tabs
def isVal (o : Option Row) : Bool := match o with
  | some r => decide (r.2.2.2.1 = 0)
  | none => false
theorem zL_has_loop {F : Nat} {sh : Nat} {key up : Int32} {w : ga_W} (hF : 1000 < F) (post : List Tab) : ∀ (pre : List Tab) (n : Nat), isSh w sh (pre ++ post) [] → (∀ t ∈ post, t.2.2 ≠ []) → post.length < n → f_L_hasValue_48 F key up sh n (nI pre.length) w = some (.inl (some (.int (bI (isVal (hvT key up post))))), w) := by
  induction post with
  | nil =>
    intro pre n hs ha hn
    obtain ⟨n, rfl⟩ : ∃ k, n = k + 1 := ⟨n - 1, by simp at hn; omega⟩
    simp only [List.append_nil] at hs
    rw [f_L_hasValue_48]
    simp only [↓bd (rS_tables hs), ↓ip (Int32.le_refl _)]
    rfl
  | cons t post ih =>
    intro pre n hs ha hn
    obtain ⟨n, rfl⟩ : ∃ k, n = k + 1 := ⟨n - 1, by simp at hn; omega⟩
    have hl := rS_len hs
    simp only [List.length_cons] at hn
    have h1 : ¬ nI (pre ++ t :: post).length ≤ nI pre.length := nI_ge (by simp) (by simp; omega)
    have q2 : nI (pre.length + 1) = nI (pre ++ [t]).length := by simp
    have ht := ha t List.mem_cons_self
    have e1 := ih (pre ++ [t]) n (by simpa using hs) (fun t h => ha t (List.mem_cons_of_mem _ h)) (by omega)
    rw [f_L_hasValue_48]
    by_cases hsp : lo t ≤ key ∧ key ≤ hi t
    · have hz : ¬ (if lo t ≤ key ∧ key ≤ hi t then (1 : Int32) else 0) = 0 := by rw [if_pos hsp]; decide
      obtain ⟨v, b1, b2⟩ := zE_rowOf (F := F) (key := key) (upTo := up) (rS_e3 hs) hF
      have hlen : (fl pre ++ (t.2.2 ++ (fl post ++ []))).length ≤ 1000 := by simp; omega
      simp only [↓bd (rS_tables hs), ↓iN h1, ↓ip (rS_is hs), ↓gcI (zS_spans hs ht), ↓iN hz, ↓bd (rS_rows hs), ↓bd (rS_b hs), ↓bd (rS_b0 hs)]
      rw [nI_1]
      simp only [↓bd (rS_b1 hs), ↓ip (rE_is (rS_e hs)), ↓gcI b1]
      cases hf : t.2.2.find? (pk key up) with
      | none =>
        rw [hf] at b2
        have b2 : v = -1 := b2
        simp only [↓ip b2]
        rw [q2, e1]
        simp only [hvT, hsp, hf, if_true, and_self]
      | some r =>
        rw [hf] at b2
        have hv1 : ¬ v = -1 := fun h => by cases (isAt_m1 b2 hlen).mp h
        obtain ⟨j, j1, j2, j3⟩ := b2
        rw [j2] at hv1 ⊢
        simp only [↓iN hv1, ↓bd (rS_rows hs), ↓bd (rE_g (rS_e hs)), ↓bd (rE_gone (rS_e3 hs) j3)]
        simp only [hvT, hsp, hf, if_true, and_self, isVal]
        by_cases hg : r.2.2.2.1 = 0
        · simp [hg, bI]
        · simp [hg, bI]
    · have hz : (if lo t ≤ key ∧ key ≤ hi t then (1 : Int32) else 0) = 0 := by rw [if_neg hsp]
      simp only [↓bd (rS_tables hs), ↓iN h1, ↓ip (rS_is hs), ↓gcI (zS_spans hs ht), ↓ip hz]
      rw [nI_1, q2, e1]
      simp only [hvT, hsp, if_false]
theorem zL_hasValue {F : Nat} {w : ga_W} {lv : LV} {mem : List Row} {recs : List Nat} {syn : Nat} {bo lt rd ms gt key up : Int32} (hF : 1000 < F) (h0 : isLh w bo lt rd ms gt) (h1 : isM w mem recs syn) (h2 : isVs w lv) (hne : ∀ t ∈ lv.1, t.2.2 ≠ []) :
    f_L_hasValue F 0 key up w = some (.inl (some (.int (bI (isVal (hvA key up mem lv.1))))), w) := by
  obtain ⟨v, b1, b2⟩ := zM_rowOf (F := F) (key := key) (upTo := up) h1 hF
  obtain ⟨sh, sp, hv, hs, -⟩ := id h2
  have hl := hs.2.1
  have hm := h1.2.1.1
  have e1 := zL_has_loop (F := F) (key := key) (up := up) hF lv.1 [] F (by simpa using hs) hne (by omega)
  simp only [List.length_nil, nI_0] at e1
  unfold f_L_hasValue hvA
  cases hf : mem.reverse.find? (pk key up) with
  | none =>
    rw [hf] at b2
    have b2 : v = -1 := b2
    simp only [↓bd (rL_m h0), ↓ip (rM_is h1.1), ↓gcI b1, ↓ip b2, ↓bd (rL_v h0), ↓bd (rV_sh hv)]
    exact e1
  | some r =>
    rw [hf] at b2
    have hv1 : ¬ v = -1 := fun h => by cases (isAt_m1 b2 (by omega)).mp h
    obtain ⟨j, j1, j2, j3⟩ := b2
    rw [j2] at hv1 b1
    simp only [↓bd (rL_m h0), ↓ip (rM_is h1.1), ↓gcI b1, ↓iN hv1, ↓bd (rM_rows h1.1), ↓bd (rE_g h1.2.1), ↓bd (rE_gone h1.2.1 j3), isVal]
    by_cases hg : r.2.2.2.1 = 0
    · simp [hg, bI]
    · simp [hg, bI]
/-- the first key from k on, m tried -/
def nxt (up : Int32) (mem : List Row) (tabs : List Tab) : Nat → Nat → Option Nat
  | 0, _ => none
  | m + 1, k => if isVal (hvA (nI k) up mem tabs) then some k else nxt up mem tabs m (k + 1)
theorem zL_next_loop {F : Nat} {w : ga_W} {lv : LV} {mem : List Row} {recs : List Nat} {syn : Nat} {bo lt rd ms gt up : Int32} (hF : 1000 < F) (h0 : isLh w bo lt rd ms gt) (h1 : isM w mem recs syn) (h2 : isVs w lv) (hne : ∀ t ∈ lv.1, t.2.2 ≠ []) : ∀ (m k n : Nat), k + m = 64 → m < n →
    f_L_next_18 F 0 up n (nI k) w = (match nxt up mem lv.1 m k with | some j => some (.inl (some (.int (nI j))), w) | none => some (.inr 3, xw w)) := by
  intro m
  induction m with
  | zero =>
    intro k n hk hn
    obtain ⟨n, rfl⟩ : ∃ k, n = k + 1 := ⟨n - 1, by omega⟩
    have : k = 64 := by omega
    subst this
    have c : (64 : Int32) ≤ nI 64 := by decide
    rw [f_L_next_18]
    simp only [↓ip c, nxt]
    rfl
  | succ m ih =>
    intro k n hk hn
    obtain ⟨n, rfl⟩ : ∃ k, n = k + 1 := ⟨n - 1, by omega⟩
    have c : ¬ (64 : Int32) ≤ nI k := by rw [show (64 : Int32) = nI 64 by decide]; exact nI_ge (by omega) (by omega)
    rw [f_L_next_18]
    simp only [↓iN c, ↓ip (rL_is h0), ↓gcI (zL_hasValue hF h0 h1 h2 hne), nxt]
    cases hv : isVal (hvA (nI k) up mem lv.1) with
    | true =>
      have : ¬ bI true = 0 := by decide
      simp only [↓iN this, if_true]
    | false =>
      have : bI false = 0 := rfl
      simp only [↓ip this, Bool.false_eq_true, if_false]
      rw [nI_1]
      exact ih (k + 1) n (by omega) (by omega)
theorem zL_next {F : Nat} {w : ga_W} {lv : LV} {mem : List Row} {recs : List Nat} {syn : Nat} {bt : Option (List Row)} {sn : Nat → Int32} {lt : Nat} {rd ms gt key x : Int32} (hF : 1000 < F) (h : isL w lv mem recs syn bt sn lt rd ms gt) (hne : ∀ t ∈ lv.1, t.2.2 ≠ []) :
    (¬ ((-1 ≤ key ∧ key ≤ 63) ∧ (-1 ≤ x ∧ x ≤ 3)) → f_L_next F 0 key x w = some (.inr 0, xw w)) ∧
    (-1 ≤ key ∧ key ≤ 63 → -1 ≤ x ∧ x ≤ 3 → 0 ≤ x ∧ sn x.toNatClampNeg = -1 → f_L_next F 0 key x w = some (.inr 2, xw w)) ∧
    (∀ k, -1 ≤ key ∧ key ≤ 63 → key + 1 = nI k → k ≤ 64 → -1 ≤ x ∧ x ≤ 3 → ¬ (0 ≤ x ∧ sn x.toNatClampNeg = -1) → f_L_next F 0 key x w = (match nxt (seen sn lt x) mem lv.1 (64 - k) k with | some j => some (.inl (some (.int (nI j))), w) | none => some (.inr 3, xw w))) := by
  obtain ⟨h0, h1, h2, ⟨pd, h3, h4⟩, h5⟩ := h
  have hs := zL_seen (F := F) (x := x) h0 h5
  refine ⟨fun hx => ?_, fun hk hx hfree => ?_, fun k hk hkk hk64 hx hfree => ?_⟩
  · unfold f_L_next
    by_cases hk : -1 ≤ key ∧ key ≤ 63
    · have h2 : ¬ (-1 ≤ x ∧ x ≤ 3) := fun h2 => hx ⟨hk, h2⟩
      rw [if_pos h2] at hs
      simp only [↓gcV (zL_in hk), ↓ip (rL_is h0), ↓gcX hs]
      rfl
    · simp only [↓gcX (zL_out hk)]
      rfl
  · rw [if_neg (fun h => h hx), if_pos hfree] at hs
    unfold f_L_next
    simp only [↓gcV (zL_in hk), ↓ip (rL_is h0), ↓gcX hs]
    rfl
  · rw [if_neg (fun h => h hx), if_neg hfree] at hs
    have e1 := zL_next_loop (F := F) (up := seen sn lt x) hF h0 h1 h2 hne (64 - k) k F (by omega) (by omega)
    unfold f_L_next
    simp only [↓gcV (zL_in hk), ↓ip (rL_is h0), ↓gcI hs]
    rw [hkk, e1]
