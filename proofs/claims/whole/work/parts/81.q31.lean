/-! PURE, 31: the reference gives up -/
variable {F : Nat} {w w' w2 : ga_W} {thr : Int32} {lv : LV} {mem : List Row} {recs : List Nat} {syn : Nat} {bt : Option (List Row)} {sn : Nat → Int32} {lt : Nat} {rd ms gt : Int32}
theorem zR_l76 {F : Nat} {sc : Nat → Int32} {R : Nat → Row} {x1 : Int32} {at' nn E : Nat} {K : ga_W → ga_O} (h5 : sc 5 = nI E) (hE : E < 260) (han : at' + nn ≤ E) : ∀ (m j : Nat) (R' : Nat → Row) (w : ga_W) (n : Nat), at' + j + nn + m = E → isRh w sc → isA w 55 260 R' → (∀ i, i < at' → R' i = R i) → (∀ i, at' ≤ i → i < at' + j → R' i = R (i + nn)) → (∀ i, at' + j + nn ≤ i → R' i = R i) → m < n →
    ∃ w1 R1, f_R_lose_76 F 54 x1 (nI nn) K n (nI (at' + j)) w = K w1 ∧ isRh w1 sc ∧ isA w1 55 260 R1 ∧ (∀ i, i < at' → R1 i = R i) ∧ (∀ i, at' ≤ i → i + nn < E → R1 i = R (i + nn)) ∧ pu_F w w1 55 4 := by
  intro m
  induction m with
  | zero =>
    intro j R' w n hm h hA h1 h2 h3 hn
    obtain ⟨n, rfl⟩ : ∃ k, n = k + 1 := ⟨n - 1, by omega⟩
    refine ⟨w, R', ?_, h, hA, h1, fun i hi hi2 => h2 i hi (by omega), pu_F.rf⟩
    have hle : sc 5 ≤ nI (at' + j) + nI nn := by rw [h5, nI_add]; exact nI_le (by omega) (by omega)
    rw [f_R_lose_76]
    simp only [↓bd (rR h 5 rfl), ↓ip hle]
  | succ m ih =>
    intro j R' w n hm h hA h1 h2 h3 hn
    obtain ⟨n, rfl⟩ : ∃ k, n = k + 1 := ⟨n - 1, by omega⟩
    have hle : ¬ sc 5 ≤ nI (at' + j) + nI nn := by rw [h5, nI_add]; exact nI_ge (by omega) (by omega)
    obtain ⟨w1, c1, c2, c3, c4⟩ := zR_moveEntry (F := F) (i := at' + j) (j := at' + j + nn) h hA (by omega) (by omega)
    obtain ⟨w2, R2, e1, e2, e3, e4, e5, e6⟩ := ih (j + 1) _ w1 n (by omega) c2 c3 (fun i hi => by simp only [pu_up]; rw [if_neg (by omega)]; exact h1 i hi) (fun i hi hi2 => by
      simp only [pu_up]
      by_cases hx : i = at' + j
      · subst hx; rw [if_pos rfl]; exact h3 _ (by omega)
      · rw [if_neg hx]; exact h2 i hi (by omega)) (fun i hi => by
      simp only [pu_up]
      by_cases hx : i = at' + j
      · have hn0 : nn = 0 := by omega
        subst hx; subst hn0
        omega
      · rw [if_neg hx]; exact h3 i (by omega)) (by omega)
    refine ⟨w2, R2, ?_, e2, e3, e4, e5, c4.tr e6⟩
    rw [f_R_lose_76]
    simp only [↓bd (rR h 5 rfl), ↓iN hle, ↓ip (rR_is h)]
    rw [nI_add, nI_1]
    simp only [↓gcV c1]
    rw [show at' + j + 1 = at' + (j + 1) by omega, e1]
/-- the flags of a table are those of its blocks -/
def blkT (t : Tab) : Prop := ∀ k r, t.2.2[k]? = some r → (r.2.2.2.2 = 0 ↔ sb t.2.2 (k / 4) = false)
theorem zR_l11 {sc : Nat → Int32} {R : Nat → Row} {T : Nat → TT} {pre post : List Tab} {t : Tab} (hb : blkT t) (hag : pu_ag R (fl pre ++ (t.2.2 ++ fl post))) (hpl : pre.length < 240) (hsz : (fl pre).length + t.2.2.length ≤ 240) (hT : T pre.length = rt t) (todo : List Row) : ∀ (done : List Row) (R' : Nat → Row) (w : ga_W) (n : Nat), t.2.2 = done ++ todo → isRh w sc → isT w T → isA w 55 260 R' → (∀ i, i < (fl pre).length + (done.filter nsp).length → (fl pre ++ done.filter nsp)[i]? = some (R' i)) → (∀ i, (fl pre).length + done.length ≤ i → R' i = R i) → todo.length < n →
    ∃ w1 R1, (∀ K, f_R_lose_11 F 54 (nI pre.length) (nI (fl pre).length) K n (nI ((fl pre).length + (done.filter nsp).length)) (nI done.length) w = K (nI ((fl pre).length + (t.2.2.filter nsp).length)) w1) ∧ isRh w1 sc ∧ isA w1 55 260 R1 ∧ (∀ i, i < (fl pre).length + (t.2.2.filter nsp).length → (fl pre ++ t.2.2.filter nsp)[i]? = some (R1 i)) ∧ (∀ i, (fl pre).length + t.2.2.length ≤ i → R1 i = R i) ∧ pu_F w w1 55 4 := by
  induction todo with
  | nil =>
    intro done R' w n ht h hTt hA h1 h2 hn
    obtain ⟨n, rfl⟩ : ∃ k, n = k + 1 := ⟨n - 1, by simp at hn; omega⟩
    simp only [List.append_nil] at ht
    refine ⟨w, R', fun K => ?_, h, hA, by rw [ht]; exact h1, by rw [ht]; exact h2, pu_F.rf⟩
    have r3 := rA hTt.2.2.1 (show pre.length < 260 by omega) (by omega)
    rw [hT] at r3
    have hle : (rt t).2.2.1 ≤ nI done.length := by show nI t.2.2.length ≤ _; rw [ht]; exact Int32.le_refl _
    rw [f_R_lose_11]
    simp only [↓bd (rRr h 8 61 rfl), ↓bd r3, ↓ip hle]
    rw [ht]
  | cons r todo ih =>
    intro done R' w n ht h hTt hA h1 h2 hn
    obtain ⟨n, rfl⟩ : ∃ k, n = k + 1 := ⟨n - 1, by simp at hn; omega⟩
    simp only [List.length_cons] at hn
    have htl : t.2.2.length = done.length + (todo.length + 1) := by rw [ht]; simp
    have r3 := rA hTt.2.2.1 (show pre.length < 260 by omega) (by omega)
    have r4 := rLg hTt.2.2.2 (show pre.length < 260 by omega) (by omega)
    rw [hT] at r3 r4
    have r4 : ga_al w 2 62 (nI pre.length) = some (msk t.2.2) := r4
    have hle : ¬ (rt t).2.2.1 ≤ nI done.length := by show ¬ nI t.2.2.length ≤ _; exact nI_ge (by omega) (by omega)
    have hat : t.2.2[done.length]? = some r := by rw [ht]; simp
    have hbit := bit_ok (x := msk t.2.2) (b := done.length / 4) (by omega)
    rw [msk_bit _ (show done.length / 4 < 64 by omega), ← hb _ _ hat] at hbit
    have hfl := List.length_filter_le nsp done
    have hRat : R' ((fl pre).length + done.length) = r := by
      rw [h2 _ (Nat.le_refl _)]
      exact hag.at (at3 hat)
    have hstep := fun R' w => ih (done ++ [r]) R' w n (by rw [ht]; simp)
    by_cases hz : r.2.2.2.2 = 0
    · have hns : nsp r = true := by simp [nsp, hz]
      have hf : (done ++ [r]).filter nsp = done.filter nsp ++ [r] := by simp [List.filter_append, hns]
      obtain ⟨w1, c1, c2, c3, c4⟩ := zR_moveEntry (F := F) (i := (fl pre).length + (done.filter nsp).length) (j := (fl pre).length + done.length) h hA (by omega) (by omega)
      obtain ⟨w3, R3, d1, d2, d3, d4, d5, d6⟩ := hstep _ w1 c2 (hTt.fr c4 (by omega)) c3 (fun i hi => by
        rw [hf] at hi ⊢
        simp only [List.length_append, List.length_cons, List.length_nil, Nat.zero_add] at hi
        simp only [pu_up]
        by_cases hx : i = (fl pre).length + (done.filter nsp).length
        · rw [if_pos hx, hRat, hx, ← List.append_assoc, List.getElem?_append_right (by simp)]
          simp
        · rw [if_neg hx, ← List.append_assoc, List.getElem?_append_left (by simp; omega)]
          exact h1 i (by omega)) (fun i hi => by
        simp only [List.length_append, List.length_cons, List.length_nil, Nat.zero_add] at hi
        simp only [pu_up]
        rw [if_neg (by omega)]
        exact h2 i (by omega)) (by omega)
      refine ⟨w3, R3, fun K => ?_, d2, d3, d4, d5, c4.tr d6⟩
      have := d1 K
      rw [hf] at this
      simp only [List.length_append, List.length_cons, List.length_nil, Nat.zero_add] at this
      rw [f_R_lose_11]
      simp only [↓bd (rRr h 8 61 rfl), ↓bd r3, ↓iN hle, ↓bd (rRr h 9 62 rfl), ↓bd r4]
      rw [nI_div4 (by omega)]
      simp only [↓ip (hbit.mpr hz), ↓ip (rR_is h)]
      rw [nI_add]
      simp only [↓gcV c1]
      rw [nI_1, nI_1, Nat.add_assoc]
      exact this
    · have hns : ¬ nsp r = true := by simp [nsp, hz]
      have hf : (done ++ [r]).filter nsp = done.filter nsp := by simp [List.filter_append, hns]
      obtain ⟨w3, R3, d1, d2, d3, d4, d5, d6⟩ := hstep R' w h hTt hA (fun i hi => by rw [hf] at hi ⊢; exact h1 i hi) (fun i hi => h2 i (by simp at hi; omega)) (by omega)
      refine ⟨w3, R3, fun K => ?_, d2, d3, d4, d5, d6⟩
      have := d1 K
      rw [hf] at this
      simp only [List.length_append, List.length_cons, List.length_nil, Nat.zero_add] at this
      rw [f_R_lose_11]
      simp only [↓bd (rRr h 8 61 rfl), ↓bd r3, ↓iN hle, ↓bd (rRr h 9 62 rfl), ↓bd r4]
      rw [nI_div4 (by omega)]
      simp only [↓iN (fun h9 => hz (hbit.mp h9))]
      rw [nI_1]
      exact this
theorem nsp_zero {rows : List Row} : ∀ r ∈ rows.filter nsp, r.2.2.2.2 = 0 := fun r hr => by
  have := (List.mem_filter.mp hr).2
  simpa [nsp] using this
set_option maxHeartbeats 1000000 in
theorem zR_lose {sc : Nat → Int32} {pre post : List Tab} {t : Tab} (hF : 1000 < F) (hb : blkT t) (h : isRt w sc (pre ++ t :: post)) :
    ∃ w' sc', f_R_lose F 54 (nI pre.length) w = some (.inl (some (.int (nI (t.2.2.length - (t.2.2.filter nsp).length)))), w') ∧ isRt w' sc' (pre ++ (t.1, t.2.1, t.2.2.filter nsp) :: post) ∧ scF sc sc' [5] ∧ pu_F w w' 54 9 := by
  obtain ⟨h0, h5, h10, hE, hTn, ⟨R, hR, hRa⟩, ⟨T, hTt, hTa⟩⟩ := id h
  have hrl := rR_len h
  have hfl : (fl (pre ++ t :: post)).length = (fl pre).length + t.2.2.length + (fl post).length := by rw [fl3]; simp [Nat.add_assoc]
  rw [hfl] at h5
  have hRa' : pu_ag R (fl pre ++ (t.2.2 ++ fl post)) := by rw [← fl3]; exact hRa
  have hTat : T pre.length = rt t := hTa.at (by simp)
  have hst := zR_start' (F := F) hF h
  have hkl := List.length_filter_le nsp t.2.2
  obtain ⟨w1, R1, a1, a2, a3, a4, a5, a6⟩ := zR_l11 (F := F) (post := post) hb hRa' (by omega) (by omega) hTat t.2.2 [] R w F (by simp) h0 hTt hR (fun i hi => by
    simp only [List.filter_nil, List.length_nil, Nat.add_zero] at hi
    simp only [List.filter_nil, List.append_nil]
    have := hRa' i (by simp; omega)
    rwa [List.getElem?_append_left hi] at this) (fun i hi => rfl) (by omega)
  simp only [List.filter_nil, List.length_nil, Nat.add_zero, nI_0] at a1
  have hT1 := hTt.fr a6 (by omega)
  have hsz1 := rA hT1.2.2.1 (show pre.length < 260 by omega) (by omega)
  rw [hTat] at hsz1
  have hsz1 : ga_ai w1 0 61 (nI pre.length) = some (nI t.2.2.length) := hsz1
  have hlost : nI (fl pre).length + nI t.2.2.length - nI ((fl pre).length + (t.2.2.filter nsp).length) = nI (t.2.2.length - (t.2.2.filter nsp).length) := by
    rw [nI_add, nI_sub (by omega)]; congr 1; omega
  generalize hlo : t.2.2.length - (t.2.2.filter nsp).length = lost at *
  let K1 : ga_W → ga_O := (fun (w7 : ga_W) => ((ga_gi w7 6 5 54).bind fun v8 => ((ga_put w7 6 5 54 (.int (v8 - nI lost))).bind fun w9 => ((ga_gr w9 6 8 54).bind fun r10 => ((ga_ai w9 0 r10 (nI pre.length)).bind fun v11 => ((ga_si w9 0 r10 (nI pre.length) (v11 - nI lost)).bind fun w12 => ((ga_gr w12 6 9 54).bind fun r13 => ((ga_sl w12 2 r13 (nI pre.length) (0 : Int64)).bind fun w14 => (some (.inl (some (.int (nI lost))), w14))))))))))
  obtain ⟨w3, R3, b1, b2, b3, b4, b5, b6⟩ := zR_l76 (F := F) (sc := sc) (R := R1) (x1 := nI pre.length) (at' := (fl pre).length + (t.2.2.filter nsp).length) (nn := lost) (E := (fl pre).length + t.2.2.length + (fl post).length) (K := K1) h5 (by omega) (by omega) (fl post).length 0 R1 w1 F (by omega) a2 a3 (fun _ _ => rfl) (fun i h1 h2 => by omega) (fun _ _ => rfl) (by omega)
  rw [Nat.add_zero] at b1
  obtain ⟨w4, c1, c2, c3⟩ := zR b2 5 (nI ((fl pre).length + (t.2.2.filter nsp).length + (fl post).length)) (by omega) rfl
  have hT4 := (hT1.fr b6 (by omega)).fr c3 (by omega)
  have hsz4 := rA hT4.2.2.1 (show pre.length < 260 by omega) (by omega)
  rw [hTat] at hsz4
  have hsz4 : ga_ai w4 0 61 (nI pre.length) = some (nI t.2.2.length) := hsz4
  obtain ⟨w5, d1, d2, d3⟩ := zA_st (i := pre.length) (x := nI (t.2.2.filter nsp).length) hT4.2.2.1 (by omega) (by omega)
  have hh5 := c2.fr d3 (by omega)
  obtain ⟨w6, e1, e2, e3⟩ := zLg_st (i := pre.length) (x := (0 : Int64)) (d3.out (by omega) hT4.2.2.2) (by omega) (by omega)
  have hfr : pu_F w w6 54 9 := (((((a6.mono (by omega) (by omega)).tr (b6.mono (by omega) (by omega))).tr (c3.mono (by omega) (by omega))).tr (d3.mono (by omega) (by omega))).tr (e3.mono (by omega) (by omega)))
  have hfl2 : fl (pre ++ (t.1, t.2.1, t.2.2.filter nsp) :: post) = fl pre ++ (t.2.2.filter nsp ++ fl post) := fl3 _ _ _
  have hR6 : isA w6 55 260 R3 := ((b3.fr c3 (by omega)).fr d3 (by omega)).fr e3 (by omega)
  refine ⟨w6, _, ?_, ⟨hh5.fr e3 (by omega), ?_, ?_, ?_, ?_, ⟨R3, hR6, fun i hi => ?_⟩, ⟨pu_up T pre.length (t.1, t.2.1, nI (t.2.2.filter nsp).length, (0 : Int64)), ⟨?_, ?_, ?_, ?_⟩, fun j hj => ?_⟩⟩, scF.up (by simp), hfr⟩
  · unfold f_R_lose
    simp only [↓ip (rR_is h0), ↓gcI hst]
    rw [a1]
    simp only [↓bd (rRr a2 8 61 rfl), ↓bd hsz1]
    rw [hlost, b1]
    have x1 : sc 5 - nI lost = nI ((fl pre).length + (t.2.2.filter nsp).length + (fl post).length) := by rw [h5, nI_sub (by omega)]; congr 1; omega
    have x2 : nI t.2.2.length - nI lost = nI (t.2.2.filter nsp).length := by rw [nI_sub (by omega)]; congr 1; omega
    simp only [K1, ↓bd (rR b2 5 rfl)]
    rw [x1]
    simp only [↓bd c1, ↓bd (rRr c2 8 61 rfl), ↓bd hsz4]
    rw [x2]
    simp only [↓bd d1, ↓bd (rRr hh5 9 62 rfl), ↓bd e1]
  · show nI _ = _
    rw [hfl2]; congr 1; simp [Nat.add_assoc]
  · show sc 10 = _
    rw [h10]; congr 1; simp
  · rw [hfl2]; simp; omega
  · simp at hTn ⊢; omega
  · rw [hfl2] at hi ⊢
    simp only [List.length_append] at hi
    by_cases c9 : i < (fl pre).length + (t.2.2.filter nsp).length
    · rw [b4 i c9]
      have := a4 i c9
      rw [← List.append_assoc, List.getElem?_append_left (by simp; omega)]
      exact this
    · rw [b5 i (by omega) (by omega), a5 _ (by omega)]
      have := hRa' (i + lost) (by simp; omega)
      rw [List.getElem?_append_right (by omega), List.getElem?_append_right (by omega)] at this
      rw [List.getElem?_append_right (by omega), List.getElem?_append_right (by omega)]
      rw [show i - (fl pre).length - (t.2.2.filter nsp).length = i + lost - (fl pre).length - t.2.2.length by omega]
      exact this
  · rw [e3.out (by omega) (d3.out (by omega) hT4.1)]
    congr 5; funext j; simp only [pu_up]; split
    · rename_i h9; subst h9; rw [hTat]; rfl
    · rfl
  · rw [e3.out (by omega) (d3.out (by omega) hT4.2.1)]
    congr 5; funext j; simp only [pu_up]; split
    · rename_i h9; subst h9; rw [hTat]; rfl
    · rfl
  · rw [e3.out (by omega) d2]
    exact congrArg (fun f => some (Sum.inl (0, 260, Sum.inl f))) (pu_upd (R := T) (n := pre.length) (x := (t.1, t.2.1, nI (t.2.2.filter nsp).length, (0 : Int64))) (p := fun r => r.2.2.1))
  · rw [e2]
    exact congrArg (fun f => some (Sum.inl (2, 260, Sum.inr (Sum.inl f)))) (pu_updL (T := T) (n := pre.length) (x := (t.1, t.2.1, nI (t.2.2.filter nsp).length, (0 : Int64))))
  · simp only [List.length_map, List.length_append, List.length_cons] at hj
    have h9 := hTa j (by simp; omega)
    have hrt : rt (t.1, t.2.1, t.2.2.filter nsp) = (t.1, t.2.1, nI (t.2.2.filter nsp).length, (0 : Int64)) := by simp only [rt, msk_zero nsp_zero]
    simp only [pu_up]
    by_cases hji : j = pre.length
    · subst hji
      rw [if_pos rfl, ← hrt]
      simp
    · rw [if_neg hji, ← h9]
      rw [List.map_append, List.map_append, List.map_cons, List.map_cons]
      by_cases hlt9 : j < pre.length
      · rw [List.getElem?_append_left (by simp; omega), List.getElem?_append_left (by simp; omega)]
      · rw [List.getElem?_append_right (by simp; omega), List.getElem?_append_right (by simp; omega)]
        obtain ⟨m, hm⟩ : ∃ m, j - (pre.map rt).length = m + 1 := ⟨j - pre.length - 1, by simp; omega⟩
        rw [hm, List.getElem?_cons_succ, List.getElem?_cons_succ]
theorem lsp_app (a b : List Tab) : lsp (a ++ b) = lsp a ++ lsp b := by
  induction a with
  | nil => rfl
  | cons t a ih =>
    simp only [List.cons_append, lsp]
    split
    · exact ih
    · rw [ih]; rfl
noncomputable def kGv (F : Nat) (x1 : Int32) (w : ga_W) : ga_O := ((ga_put w 6 26 54 (.int (0 : Int32))).bind fun w2 => (if ga_is w2 6 54 = true then ga_c (f_R_tidy F 54 w2) (ga_kV fun w3 => (some (.inl (some (.int x1)), w3))) ga_up else none))
theorem zR_g14 (hF : 1000 < F) : ∀ (k : Nat) (pre S : List Tab) (sc : Nat → Int32) (w : ga_W) (n L : Nat), pre.length = k → (∀ t ∈ pre, blkT t) → isRt w sc (pre ++ S) → k < n →
    ∃ w1 sc1, f_R_giveUp_14 F 54 n (nI L) (nI k - 1) w = kGv F (nI (L + ((fl pre).length - (fl (lsp pre)).length))) w1 ∧ isRt w1 sc1 (lsp pre ++ S) ∧ scF sc sc1 [5, 10] ∧ pu_F w w1 54 9 := by
  intro k
  induction k with
  | zero =>
    intro pre S sc w n L hk hb h hn
    obtain ⟨n, rfl⟩ : ∃ k, n = k + 1 := ⟨n - 1, by omega⟩
    have : pre = [] := List.length_eq_zero_iff.mp hk
    subst this
    refine ⟨w, sc, ?_, by simpa [lsp] using h, scF.rf, pu_F.rf⟩
    have hlt : nI 0 - 1 < 0 := by decide
    rw [f_R_giveUp_14]
    simp only [↓ip hlt, fl_nil, List.length_nil, Nat.zero_sub, Nat.add_zero]
    rfl
  | succ k ih =>
    intro pre S sc w n L hk hb h hn
    obtain ⟨n, rfl⟩ : ∃ k, n = k + 1 := ⟨n - 1, by omega⟩
    obtain ⟨pr, t, rfl⟩ : ∃ pr t, pre = pr ++ [t] := ⟨pre.dropLast, pre.getLast (by intro h9; simp [h9] at hk), (List.dropLast_concat_getLast _).symm⟩
    have hk' : pr.length = k := by simpa using hk
    have h' : isRt w sc (pr ++ t :: S) := by simpa using h
    have hl := rR_len h'
    have hkk : nI (k + 1) - 1 = nI k := by rw [nI_s1 (by omega)]; rfl
    have hlt : ¬ nI k < 0 := Int32.not_lt.mpr (nI_nn (by omega))
    have hm1 : nI k + (-1) = nI k - 1 := by rw [Int32.sub_eq_add_neg]
    obtain ⟨w1, s1, a1, a2, a3, a4⟩ := zR_lose (F := F) hF (hb t (by simp)) h'
    have hsz := (rT_at a2 (show (pr ++ (t.1, t.2.1, t.2.2.filter nsp) :: S)[pr.length]? = some (t.1, t.2.1, t.2.2.filter nsp) by simp)).2.2.1
    rw [hk'] at a1 hsz
    have hle := lsp_le pr
    have hkl := List.length_filter_le nsp t.2.2
    have hfl1 : (fl (pr ++ [t])).length = (fl pr).length + t.2.2.length := by simp [fl_app, fl_cons, fl_nil]
    rw [f_R_giveUp_14, hkk]
    simp only [↓iN hlt, ↓ip (rR_is h'.1), ↓gcI a1, ↓bd (rRr a2.1 8 61 rfl), ↓bd hsz]
    rw [nI_add]
    by_cases hz : t.2.2.filter nsp = []
    · have hz0 : nI ((t.1, t.2.1, t.2.2.filter nsp) : Tab).2.2.length = 0 := by show nI (t.2.2.filter nsp).length = 0; rw [hz]; rfl
      have hls : lsp (pr ++ [t]) = lsp pr := by
        rw [lsp_app]
        simp [lsp, hz]
      obtain ⟨w2, b1, b2, b3⟩ := zR_takeOut (F := F) hF a2
      rw [hk'] at b1
      obtain ⟨w3, s3, c1, c2, c3, c4⟩ := ih pr S _ w2 n (L + (t.2.2.length - (t.2.2.filter nsp).length)) hk' (fun t' ht' => hb t' (by simp [ht'])) b2 (by omega)
      refine ⟨w3, s3, ?_, by rw [hls]; exact c2, ?_, (a4.tr b3).tr c4⟩
      · simp only [↓ip hz0, ↓ip (rR_is a2.1), ↓gcV b1]
        rw [hm1, c1, hls, hfl1]
        congr 2
        rw [hz]
        simp only [List.length_nil]
        omega
      · intro j hj
        rw [c3 j hj]
        simp only [List.mem_cons, List.not_mem_nil, or_false, not_or] at hj
        simp only [outSc, pu_up]
        rw [if_neg hj.2, if_neg hj.1]
        exact a3 j (by simp; exact hj.1)
    · have hpos : 0 < (t.2.2.filter nsp).length := List.length_pos_iff.mpr hz
      have hz0 : ¬ nI ((t.1, t.2.1, t.2.2.filter nsp) : Tab).2.2.length = 0 := by
        show ¬ nI (t.2.2.filter nsp).length = 0
        intro h9
        have h0 : (0 : Int32) = nI 0 := by decide
        rw [h0] at h9
        exact absurd ((nI_inj (by omega) (by omega)).mp h9) (by omega)
      have hls : lsp (pr ++ [t]) = lsp pr ++ [(t.1, t.2.1, t.2.2.filter nsp)] := by
        rw [lsp_app]
        simp [lsp, hz]
      obtain ⟨w3, s3, c1, c2, c3, c4⟩ := ih pr ((t.1, t.2.1, t.2.2.filter nsp) :: S) _ w1 n (L + (t.2.2.length - (t.2.2.filter nsp).length)) hk' (fun t' ht' => hb t' (by simp [ht'])) a2 (by omega)
      refine ⟨w3, s3, ?_, by rw [hls]; simpa using c2, (a3.mono (by simp)).tr c3, a4.tr c4⟩
      simp only [↓iN hz0]
      rw [hm1, c1, hls, hfl1]
      congr 2
      simp only [fl_app, fl_cons, fl_nil, List.length_append, List.append_nil]
      omega
theorem zR_giveUp (hF : 1000 < F) (hs : snOk sn) (h : isR w thr lv mem recs syn bt sn lt rd ms gt) (hb : ∀ t ∈ lv.1, blkT t) (hok : okS (oldA sn lt) 500 (lsA lv)) :
    ∃ w', f_R_giveUp F 54 w = some (.inl (some (.int (nI ((fl lv.1).length - (fl (lsp lv.1)).length)))), w') ∧ isR w' 0 (tdyC (oldA sn lt) 500 (lsA lv)) mem recs syn bt sn lt rd ms gt ∧ pu_R w w' := by
  obtain ⟨sc, h1, h2⟩ := h
  obtain ⟨w1, a1, a2, a3⟩ := zR_set0 0 h1
  generalize hsc : pu_up sc 0 0 = s1 at *
  have hs10 : s1 0 = 0 := by rw [← hsc]; rfl
  obtain ⟨-, -, -, -, -, b7, b8, -⟩ := id a2
  obtain ⟨hrt, v2, v3, v4, ⟨pt, p0, p1⟩, ⟨W, pW⟩, ⟨G, pG⟩⟩ := id a2.1
  have htl := hrt.2.2.2.2.1
  obtain ⟨w3, s3, c1, c2, c3, c4⟩ := zR_g14 (F := F) hF lv.1.length lv.1 [] s1 w1 F 0 rfl hb (by simpa using hrt) (by omega)
  rw [List.append_nil] at c2
  obtain ⟨w4, d1, d2, d3⟩ := zR c2.1 26 (0 : Int32) (by omega) rfl
  have hF4 : pu_F w1 w4 54 9 := c4.tr (d3.mono (by omega) (by omega))
  have hrv4 : isRV w4 (pu_up s3 26 0) (lsA lv) := ⟨c2.sc d3 d2 rfl rfl, rfl, (c3 30 (by simp)).trans v3, (c3 31 (by simp)).trans v4, ⟨pt, p0.fr hF4 (by omega), p1⟩, ⟨W, pW.fr hF4 (by omega)⟩, ⟨G, pG.fr hF4 (by omega)⟩⟩
  have h25 : pu_up s3 26 0 25 = nI lt := (c3 25 (by simp)).trans b8
  obtain ⟨w5, s5, e1, e2, e3, e4⟩ := zR_tidy (F := F) hF hs hrv4 h25 (b7.fr hF4 (by omega)) hok (by omega)
  have hK : pu_K w1 w5 fT := (hF4.K (by simp)).tr e4
  have hsc5 : scF s1 s5 sT := ((c3.mono (by simp)).tr (scF.up (by simp))).tr e3
  refine ⟨w5, ?_, ⟨s5, a2.tabs e2 hK (by decide) hsc5, (hsc5 0 (by simp)).trans hs10⟩, a3.tr (hK.F (by decide))⟩
  have hz : nI 0 = 0 := by decide
  rw [hz] at c1
  unfold f_R_giveUp
  simp only [↓bd a1, ↓bd (rR10 hrt)]
  rw [c1]
  unfold kGv
  simp only [↓bd d1, ↓ip (rR_is d2), ↓gcV e1, Nat.zero_add]
