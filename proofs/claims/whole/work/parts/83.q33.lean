/-! PURE, 33: the reference looks into tables -/
variable {F : Nat} {w w' w2 : ga_W} {sc sc' : Nat → Int32} {thr : Int32} {lv : LV} {mem : List Row} {recs : List Nat} {syn : Nat} {bt : Option (List Row)} {sn : Nat → Int32} {lt : Nat} {rd ms gt : Int32}
theorem rbk_nil (key up : Int32) : ∀ n, rbk key up n [] = (0, some none) := by
  intro n; cases n <;> rfl
theorem lastAt {l : List Row} (h : l ≠ []) : l[l.length - 1]? = some (l.getLastD zr) := by
  rw [← List.getLast?_eq_getElem?, List.getLastD_eq_getLast?]
  cases hl : l.getLast? with
  | none => exact absurd (List.getLast?_eq_none_iff.mp hl) h
  | some x => rfl
set_option maxHeartbeats 1000000 in
theorem zR_rb22 {pre post : List Tab} {t : Tab} {key up : Int32} (hF : 1000 < F) : ∀ (m : Nat) (todo done : List Row) (sc : Nat → Int32) (w : ga_W) (n : Nat), todo.length ≤ m → t.2.2 = done ++ todo → done.length % 4 = 0 → isRt w sc (pre ++ t :: post) → m < n →
    ∃ w1 sc1 v, f_R_readBlocks_22 F 54 (nI pre.length) key up (nI (fl pre).length) (nI ((fl pre).length + t.2.2.length)) n (nI ((fl pre).length + done.length)) w = some (.inl (some (.int v)), w1) ∧ rbV (fl (pre ++ t :: post)) v (rbk key up m todo).2 ∧ isRt w1 sc1 (pre ++ t :: post) ∧ sc1 27 = sc 27 + nI (rbk key up m todo).1 ∧ scF sc sc1 [27] ∧ pu_F w w1 54 1 := by
  have hz0 : nI 0 = 0 := by decide
  have hend : ∀ (n p : Nat) (w : ga_W), (fl pre).length + t.2.2.length ≤ p → p < 1000 → f_R_readBlocks_22 F 54 (nI pre.length) key up (nI (fl pre).length) (nI ((fl pre).length + t.2.2.length)) (n + 1) (nI p) w = some (.inl (some (.int (-1))), w) := by
    intro n p w hp hp2
    rw [f_R_readBlocks_22]
    simp only [↓ip (nI_le hp (by omega))]
  intro m
  induction m with
  | zero =>
    intro todo done sc w n htm ht hd h hn
    obtain ⟨n, rfl⟩ : ∃ k, n = k + 1 := ⟨n - 1, by omega⟩
    have hrl := rR_len h
    have : todo = [] := List.length_eq_zero_iff.mp (by omega)
    subst this
    refine ⟨w, sc, -1, hend n _ w (by rw [ht]; simp) (by rw [ht] at hrl; simp at hrl; omega), rfl, h, by simp [rbk, hz0], scF.rf, pu_F.rf⟩
  | succ m ih =>
    intro todo done sc w n htm ht hd h hn
    obtain ⟨n, rfl⟩ : ∃ k, n = k + 1 := ⟨n - 1, by omega⟩
    have hrl := rR_len h
    cases todo with
    | nil =>
      refine ⟨w, sc, -1, hend n _ w (by rw [ht]; simp) (by rw [ht] at hrl; simp at hrl; omega), rfl, h, by simp [rbk, hz0], scF.rf, pu_F.rf⟩
    | cons r rs =>
      have htl : t.2.2.length = done.length + (rs.length + 1) := by rw [ht]; simp
      simp only [List.length_cons] at htm
      have hBl : ((r :: rs).take 4).length = min 4 (rs.length + 1) := by rw [List.length_take]; rfl
      have hsz := (rT_at h (show (pre ++ t :: post)[pre.length]? = some t by simp)).2.2.1
      have hmk := (rT_at h (show (pre ++ t :: post)[pre.length]? = some t by simp)).2.2.2
      have hge : ¬ nI ((fl pre).length + t.2.2.length) ≤ nI ((fl pre).length + done.length) := nI_ge (by omega) (by omega)
      -- the block's last row
      have hlast : (fl (pre ++ t :: post))[(fl pre).length + done.length + ((r :: rs).take 4).length - 1]? = some (((r :: rs).take 4).getLastD zr) := by
        rw [fl3, show (fl pre).length + done.length + ((r :: rs).take 4).length - 1 = (fl pre).length + (done.length + (((r :: rs).take 4).length - 1)) by omega]
        apply at3
        have e9 : t.2.2 = done ++ ((r :: rs).take 4 ++ (r :: rs).drop 4) := by rw [List.take_append_drop, ht]
        rw [e9]
        exact at3 (lastAt (by simp))
      have hlk := (rRow h hlast).1
      generalize hla : ((r :: rs).take 4).getLastD zr = la at *
      -- which place it is
      have hy3 : ∀ K : Int32 → ga_W → ga_O, ga_jn K (fun K5 => (if nI ((fl pre).length + t.2.2.length) ≤ nI ((fl pre).length + done.length) + 3 then K5 (nI ((fl pre).length + t.2.2.length) - 1) w else K5 (nI ((fl pre).length + done.length) + 3) w)) = K (nI ((fl pre).length + done.length + ((r :: rs).take 4).length - 1)) w := by
        intro K
        rw [jn]
        have e3 : nI ((fl pre).length + done.length) + 3 = nI ((fl pre).length + done.length + 3) := nI_add _ 3
        rw [e3]
        by_cases hx : rs.length + 1 ≤ 3
        · rw [if_pos (nI_le (by omega) (by omega)), nI_s1 (by omega)]
          congr 2; omega
        · rw [if_neg (nI_ge (by omega) (by omega))]
          congr 2; omega
      have e4 : nI ((fl pre).length + done.length) + 4 = nI ((fl pre).length + done.length + 4) := nI_add _ 4
      have hnext : ∀ (sc : Nat → Int32) (w : ga_W), isRt w sc (pre ++ t :: post) → ∃ w1 sc1 v, f_R_readBlocks_22 F 54 (nI pre.length) key up (nI (fl pre).length) (nI ((fl pre).length + t.2.2.length)) n (nI ((fl pre).length + done.length) + 4) w = some (.inl (some (.int v)), w1) ∧ rbV (fl (pre ++ t :: post)) v (rbk key up m ((r :: rs).drop 4)).2 ∧ isRt w1 sc1 (pre ++ t :: post) ∧ sc1 27 = sc 27 + nI (rbk key up m ((r :: rs).drop 4)).1 ∧ scF sc sc1 [27] ∧ pu_F w w1 54 1 := by
        intro sc w h
        rw [e4]
        by_cases hx : 4 ≤ rs.length + 1
        · have hl4 : ((r :: rs).take 4).length = 4 := by omega
          have := ih ((r :: rs).drop 4) (done ++ (r :: rs).take 4) sc w n (by simp; omega) (by rw [ht, List.append_assoc, List.take_append_drop]) (by rw [List.length_append, hl4]; omega) h (by omega)
          rw [List.length_append, hl4, ← Nat.add_assoc] at this
          exact this
        · have hd0 : (r :: rs).drop 4 = [] := List.drop_eq_nil_of_le (by simp; omega)
          rw [hd0, rbk_nil]
          obtain ⟨n', rfl⟩ : ∃ k, n = k + 1 := ⟨n - 1, by omega⟩
          exact ⟨w, sc, -1, hend n' _ w (by omega) (by omega), rfl, h, by simp [hz0], scF.rf, pu_F.rf⟩
      have hrk : rbk key up (m + 1) (r :: rs) = if la.1 < key then rbk key up m ((r :: rs).drop 4) else if r.2.2.2.2 = 0 then (match ((r :: rs).take 4).find? (pk key up) with
          | some q => (1, some (some q))
          | none => if la.1 ≤ key then ((rbk key up m ((r :: rs).drop 4)).1 + 1, (rbk key up m ((r :: rs).drop 4)).2) else (1, some none)) else (1, none) := by rw [← hla]; rfl
      rw [f_R_readBlocks_22]
      simp only [↓iN hge]
      rw [hy3]
      simp only [↓bd (rRr h.1 1 55 rfl), ↓bd hlk]
      rw [hrk]
      by_cases hkl : la.1 < key
      · have : ¬ key ≤ la.1 := Int32.not_le.mpr hkl
        simp only [↓iN this, if_pos hkl]
        exact hnext sc w h
      · have hkl' : key ≤ la.1 := Int32.not_lt.mp hkl
        simp only [↓ip hkl', if_neg hkl, ↓bd (rR h.1 27 rfl)]
        obtain ⟨w3, c1, c2, c3⟩ := zR h.1 27 (sc 27 + 1) (by omega) rfl
        have h3 := h.sc c3 c2 rfl rfl
        have hmk3 := (rT_at h3 (show (pre ++ t :: post)[pre.length]? = some t by simp)).2.2.2
        have hd4 : nI ((fl pre).length + done.length) - nI (fl pre).length = nI done.length := by rw [nI_sub (by omega)]; congr 1; omega
        have hbit := bit_ok (x := msk t.2.2) (b := done.length / 4) (by omega)
        have hsb : sb t.2.2 (done.length / 4) = false ↔ r.2.2.2.2 = 0 := by
          unfold sb
          rw [show 4 * (done.length / 4) = done.length by omega, show t.2.2[done.length]? = some r by rw [ht]; simp]
          simp
        rw [msk_bit _ (show done.length / 4 < 64 by omega), hsb] at hbit
        have h1c : ∀ a : Nat, sc 27 + 1 + nI a = sc 27 + nI (a + 1) := fun a => by rw [← nI_1, Int32.add_assoc, Int32.add_comm 1]
        have h1d : sc 27 + 1 = sc 27 + nI 1 := rfl
        simp only [↓bd c1, ↓bd (rRr c2 9 62 rfl), ↓bd hmk3]
        rw [hd4, nI_div4 (by omega)]
        by_cases hz : r.2.2.2.2 = 0
        · simp only [↓ip (hbit.mpr hz), if_pos hz]
          obtain ⟨o, o1, o2⟩ := zR_rb103 (F := F) (key := key) (up := up) (x1 := nI pre.length) (x4 := nI (fl pre).length) (x5 := nI ((fl pre).length + t.2.2.length)) (x6 := nI ((fl pre).length + done.length)) h3 ((r :: rs).take 4) (fl pre ++ done) ((r :: rs).drop 4 ++ fl post) F (by
            rw [fl3, ht]
            conv => lhs; rw [← List.take_append_drop 4 (r :: rs)]
            simp only [List.append_assoc]) (by simp) (by omega)
          rw [List.length_append] at o1
          rw [o1]
          cases hf : ((r :: rs).take 4).find? (pk key up) with
          | some q =>
            rw [hf] at o2
            obtain ⟨e, oe1, oe2⟩ := o2
            subst oe1
            exact ⟨w3, _, _, rfl, ⟨e, rfl, oe2⟩, h3, h1d, scF.up (by simp), c3⟩
          | none =>
            rw [hf] at o2
            subst o2
            have hlk3 := (rRow h3 hlast).1
            simp only [↓bd (rRr c2 1 55 rfl), ↓bd hlk3]
            by_cases hle : la.1 ≤ key
            · simp only [↓ip hle, if_pos hle]
              obtain ⟨w4, s4, v, d1, d2, d3, d5, d6, d7⟩ := hnext _ w3 h3
              exact ⟨w4, s4, v, d1, d2, d3, by rw [d5]; exact h1c _, (scF.up (by simp)).tr d6, c3.tr d7⟩
            · simp only [↓iN hle, if_neg hle]
              exact ⟨w3, _, _, rfl, rfl, h3, h1d, scF.up (by simp), c3⟩
        · simp only [↓iN (fun h9 => hz (hbit.mp h9)), if_neg hz]
          exact ⟨w3, _, _, rfl, rfl, h3, h1d, scF.up (by simp), c3⟩
theorem zR_readBlocks {pre post : List Tab} {t : Tab} {key up : Int32} (hF : 1000 < F) (h : isRt w sc (pre ++ t :: post)) :
    ∃ w1 sc1 v, f_R_readBlocks F 54 (nI pre.length) key up w = some (.inl (some (.int v)), w1) ∧ rbV (fl (pre ++ t :: post)) v (rbk key up t.2.2.length t.2.2).2 ∧ isRt w1 sc1 (pre ++ t :: post) ∧ sc1 27 = sc 27 + nI (rbk key up t.2.2.length t.2.2).1 ∧ scF sc sc1 [27] ∧ pu_F w w1 54 1 := by
  have hrl := rR_len h
  have hsz := (rT_at h (show (pre ++ t :: post)[pre.length]? = some t by simp)).2.2.1
  obtain ⟨w1, s1, v, a1, a2⟩ := zR_rb22 (F := F) (pre := pre) (post := post) (key := key) (up := up) hF t.2.2.length t.2.2 [] sc w F (Nat.le_refl _) (by simp) (by simp) h (by omega)
  refine ⟨w1, s1, v, ?_, a2⟩
  unfold f_R_readBlocks
  simp only [↓ip (rR_is h.1), ↓gcI (zR_start' hF h), ↓bd (rRr h.1 8 61 rfl), ↓bd hsz]
  rw [nI_add]
  exact a1
/-- nothing more once something is found -/
theorem zR_look_end {key up : Int32} {n i : Nat} (h : isRh w sc) (h38 : ¬ sc 38 = -1) : f_R_look_13 F 54 key up (n + 1) (nI i) w = some (.inl none, w) := by
  rw [f_R_look_13]
  simp only [↓bd (rR h 10 rfl)]
  by_cases hx : sc 10 ≤ nI i
  · rw [if_pos hx]
  · rw [if_neg hx]
    simp only [↓bd (rR h 38 rfl), ↓iN h38]
theorem rbV_m1 {xs : List Row} {v : Int32} {o : Option (Option Row)} (h : rbV xs v o) (hl : xs.length ≤ 240) : v = -1 ↔ o = some none := by
  match o, h with
  | none, h =>
    have h : v = -2 := h
    rw [h]
    constructor
    · intro h9; exact absurd h9 (by decide)
    · intro h9; cases h9
  | some none, h => exact ⟨fun _ => rfl, fun _ => h⟩
  | some (some q), h =>
    obtain ⟨e, h1, h2⟩ := h
    have hlt := (List.getElem?_eq_some_iff.mp h2).1
    constructor
    · intro h9
      have := nI_nn (a := e) (by omega)
      rw [← h1, h9] at this
      exact absurd this (by decide)
    · intro h9; cases h9
set_option maxHeartbeats 1000000 in
theorem zR_look13 {key up : Int32} (hF : 1000 < F) (post : List Tab) : ∀ (pre : List Tab) (sc : Nat → Int32) (w : ga_W) (n : Nat), isRt w sc (pre ++ post) → (∀ t ∈ post, t.2.2 ≠ []) → (∀ t ∈ post, lo t ≤ key ∧ key ≤ hi t → rbk key up t.2.2.length t.2.2 = lk1 key up t) → sc 38 = -1 → post.length + 1 < n →
    ∃ w1 sc1, f_R_look_13 F 54 key up n (nI pre.length) w = some (.inl none, w1) ∧ isRt w1 sc1 (pre ++ post) ∧ rbV (fl (pre ++ post)) (sc1 38) (lkT key up post).2.2 ∧ sc1 27 = sc 27 + nI (lkT key up post).1 ∧ sc1 28 = sc 28 + nI (lkT key up post).2.1 ∧ scF sc sc1 [27, 28, 38] ∧ pu_F w w1 54 1 := by
  have hz0 : ∀ x : Int32, x = x + nI 0 := fun x => by
    have : nI 0 = 0 := by decide
    rw [this]; simp
  induction post with
  | nil =>
    intro pre sc w n h ha hb h38 hn
    obtain ⟨n, rfl⟩ : ∃ k, n = k + 1 := ⟨n - 1, by simp at hn; omega⟩
    refine ⟨w, sc, ?_, h, h38, hz0 _, hz0 _, scF.rf, pu_F.rf⟩
    simp only [List.append_nil] at h
    rw [f_R_look_13]
    simp only [↓bd (rR10 h), ↓ip (Int32.le_refl _)]
  | cons t post ih =>
    intro pre sc w n h ha hb h38 hn
    obtain ⟨n, rfl⟩ : ∃ k, n = k + 1 := ⟨n - 1, by simp at hn; omega⟩
    have hl := rR_len h
    simp only [List.length_cons] at hn
    have hfl := h.2.2.2.1
    have ht : t.2.2 ≠ [] := ha t (by simp)
    have h1 : ¬ nI (pre ++ t :: post).length ≤ nI pre.length := nI_ge (by simp) (by simp; omega)
    have hnext : ∀ (sc : Nat → Int32) (w : ga_W), isRt w sc (pre ++ t :: post) → sc 38 = -1 → ∃ w1 sc1, f_R_look_13 F 54 key up n (nI pre.length + 1) w = some (.inl none, w1) ∧ isRt w1 sc1 (pre ++ t :: post) ∧ rbV (fl (pre ++ t :: post)) (sc1 38) (lkT key up post).2.2 ∧ sc1 27 = sc 27 + nI (lkT key up post).1 ∧ sc1 28 = sc 28 + nI (lkT key up post).2.1 ∧ scF sc sc1 [27, 28, 38] ∧ pu_F w w1 54 1 := by
      intro sc w h h38
      have := ih (pre ++ [t]) sc w n (by simpa using h) (fun t' ht' => ha t' (by simp [ht'])) (fun t' ht' => hb t' (by simp [ht'])) h38 (by omega)
      simp only [List.length_append, List.length_cons, List.length_nil, Nat.zero_add, List.append_assoc, List.cons_append, List.nil_append] at this
      rw [nI_1]
      exact this
    have e2 : lkT key up (t :: post) = if lo t ≤ key ∧ key ≤ hi t then (if pas key t.2.2 then (match (lk1 key up t).2 with
        | none => ((lk1 key up t).1, 0, none)
        | some (some q) => ((lk1 key up t).1, 0, some (some q))
        | some none => ((lk1 key up t).1 + (lkT key up post).1, (lkT key up post).2.1, (lkT key up post).2.2)) else ((lkT key up post).1, (lkT key up post).2.1 + 1, (lkT key up post).2.2)) else lkT key up post := rfl
    rw [f_R_look_13, e2]
    simp only [↓bd (rR10 h), ↓iN h1, ↓bd (rR h.1 38 rfl), ↓ip h38, ↓ip (rR_is h.1), ↓gcI (zR_low hF h ht)]
    by_cases hlo : key < lo t
    · have : ¬ (lo t ≤ key ∧ key ≤ hi t) := fun h9 => absurd h9.1 (Int32.not_le.mpr hlo)
      simp only [↓ip hlo, if_neg this]
      exact hnext sc w h h38
    · simp only [↓iN hlo, ↓ip (rR_is h.1), ↓gcI (zR_high hF h ht)]
      by_cases hhi : key ≤ hi t
      · have hin : lo t ≤ key ∧ key ≤ hi t := ⟨Int32.not_lt.mp hlo, hhi⟩
        simp only [↓ip hhi, if_pos hin, ↓ip (rR_is h.1), ↓gcI (zR_passes hF h)]
        cases hp : pas key t.2.2
        · obtain ⟨w3, c1, c2, c3⟩ := zR h.1 28 (sc 28 + 1) (by omega) rfl
          have h3 := h.sc c3 c2 rfl rfl
          obtain ⟨w4, s4, d1, d2, d3, d4, d5, d6, d7⟩ := hnext _ w3 h3 h38
          have hb0 : bI false = 0 := rfl
          simp only [↓ip hb0, ↓bd (rR h.1 28 rfl), ↓bd c1]
          refine ⟨w4, s4, d1, d2, d3, d4, ?_, (scF.up (by simp)).tr d6, c3.tr d7⟩
          rw [d5]
          show sc 28 + 1 + _ = sc 28 + nI ((lkT key up post).2.1 + 1)
          rw [← nI_1, Int32.add_assoc, Int32.add_comm 1]
        · have hb0 : ¬ bI true = 0 := by decide
          obtain ⟨w3, s3, v, r1, r2, r3, r4, r5, r6⟩ := zR_readBlocks (F := F) (key := key) (up := up) hF h
          rw [hb t (by simp) hin] at r2 r4
          obtain ⟨w4, c1, c2, c3⟩ := zR r3.1 38 v (by omega) rfl
          have h4 := r3.sc c3 c2 rfl rfl
          simp only [↓iN hb0, ↓ip (rR_is h.1), ↓gcI r1, ↓bd c1, if_true]
          have hv := rbV_m1 r2 hfl
          have hs4 : scF sc (pu_up s3 38 v) [27, 28, 38] := (r5.mono (by simp)).tr (scF.up (by simp))
          have hend : ¬ v = -1 → f_R_look_13 F 54 key up n (nI pre.length + 1) w4 = some (.inl none, w4) := fun hv1 => by
            obtain ⟨n', rfl⟩ : ∃ k, n = k + 1 := ⟨n - 1, by omega⟩
            rw [nI_1]
            exact zR_look_end c2 hv1
          cases ho : (lk1 key up t).2 with
          | none =>
            have hv1 : ¬ v = -1 := fun h9 => by rw [hv.mp h9] at ho; cases ho
            rw [ho] at r2
            exact ⟨w4, _, hend hv1, h4, r2, r4, (r5 28 (by simp)).trans (hz0 _), hs4, r6.tr c3⟩
          | some o =>
            cases o with
            | some q =>
              have hv1 : ¬ v = -1 := fun h9 => by rw [hv.mp h9] at ho; cases ho
              rw [ho] at r2
              exact ⟨w4, _, hend hv1, h4, r2, r4, (r5 28 (by simp)).trans (hz0 _), hs4, r6.tr c3⟩
            | none =>
              have hv1 : v = -1 := hv.mpr ho
              obtain ⟨w5, s5, d1, d2, d3, d4, d5, d6, d7⟩ := hnext _ w4 h4 hv1
              refine ⟨w5, s5, d1, d2, d3, ?_, ?_, hs4.tr d6, (r6.tr c3).tr d7⟩
              · rw [d4]
                show s3 27 + _ = _
                rw [r4, Int32.add_assoc, nI_add]
              · rw [d5]
                show s3 28 + _ = _
                rw [r5 28 (by simp)]
      · have : ¬ (lo t ≤ key ∧ key ≤ hi t) := fun h9 => hhi h9.2
        simp only [↓iN hhi, if_neg this]
        exact hnext sc w h h38
