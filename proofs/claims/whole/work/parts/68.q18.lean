/-! PURE, 18: insert, takeOut -/
theorem fr_sub {w w' : ga_W} {e k : Nat} {X : List (Nat × Nat)} (h : pu_F w w' e k) {e' k' : Nat} (hx : (e', k') ∈ X) (h1 : e' ≤ e) (h2 : e + k ≤ e' + k') : pu_K w w' X := (h.mono h1 h2).K hx
def insSc (sc : Nat → Int32) (E T : Nat) (mk : Int32) : Nat → Int32 := pu_up (pu_up (pu_up sc 5 (nI E)) 30 (mk + 1)) 10 (nI T)
set_option maxHeartbeats 1000000 in
theorem zR_insert {F : Nat} {w : ga_W} {sc : Nat → Int32} {pre post : List Tab} {A P B : List Row} {lev mk : Int32} (hF : 1000 < F) (h : isRt w sc (pre ++ post)) (hw : isWk w sc (A ++ (P ++ B))) (hmk : sc 30 = mk) (hP : ∀ r ∈ P, r.2.2.2.2 = 0) (hc1 : (fl (pre ++ post)).length + P.length ≤ 240) (hc2 : (pre ++ post).length < 240) :
    ∃ w', f_R_insert F 54 (nI pre.length) lev (nI A.length) (nI P.length) w = some (.inl none, w') ∧ isRt w' (insSc sc ((fl (pre ++ post)).length + P.length) ((pre ++ post).length + 1) mk) (pre ++ (mk, lev, P) :: post) ∧ isWk w' (insSc sc ((fl (pre ++ post)).length + P.length) ((pre ++ post).length + 1) mk) (A ++ (P ++ B)) ∧ pu_F w w' 54 9 := by
  obtain ⟨h0, h5, h10, hE, hT, ⟨R, hR, hRa⟩, ⟨T, hTt, hTa⟩⟩ := id h
  obtain ⟨⟨W, hW, hWa⟩, h36, hwl⟩ := hw
  simp only [List.length_append] at hwl
  have hfl : (fl (pre ++ post)).length = (fl pre).length + (fl post).length := by rw [fl_app, List.length_append]
  have htl : (pre ++ post).length = pre.length + post.length := by simp
  rw [hfl] at hc1 h5
  rw [htl] at hc2 h10
  rw [hfl, htl]
  have hst := zR_start' (F := F) hF h
  -- the last of its four roads first
  let K2 : ga_W → ga_O := (fun (w9 : ga_W) => ((ga_gr w9 6 6 54).bind fun r10 => ((ga_gi w9 6 30 54).bind fun v11 => ((ga_si w9 0 r10 (nI pre.length) v11).bind fun w12 => ((ga_gr w12 6 7 54).bind fun r13 => ((ga_si w12 0 r13 (nI pre.length) lev).bind fun w14 => ((ga_gr w14 6 8 54).bind fun r15 => ((ga_si w14 0 r15 (nI pre.length) (nI P.length)).bind fun w16 => ((ga_gr w16 6 9 54).bind fun r17 => ((ga_sl w16 2 r17 (nI pre.length) (0 : Int64)).bind fun w18 => ((ga_gi w18 6 30 54).bind fun v19 => ((ga_put w18 6 30 54 (.int (v19 + (1 : Int32)))).bind fun w20 => ((ga_gi w20 6 10 54).bind fun v21 => ((ga_put w20 6 10 54 (.int (v21 + (1 : Int32)))).bind fun w22 => (some (.inl none, w22))))))))))))))))
  let K1 : ga_W → ga_O := (fun (w5 : ga_W) => ((ga_gi w5 6 5 54).bind fun v6 => ((ga_put w5 6 5 54 (.int (v6 + nI P.length))).bind fun w7 => ((ga_gi w7 6 10 54).bind fun v8 => (f_R_insert_150 F 54 (nI pre.length) lev (nI P.length) K2 F (v8 - (1 : Int32)) w7)))))
  obtain ⟨w1, R1, e1, e2, e3, e4, e5, e6⟩ := zR_i15 (F := F) (sc := sc) (R := R) (x1 := nI pre.length) (x2 := lev) (x3 := nI A.length) (at' := (fl pre).length) (nn := P.length) (E := (fl pre).length + (fl post).length) (K := (fun (w4 : ga_W) => (f_R_insert_42 F 54 (nI pre.length) lev (nI A.length) (nI P.length) (nI (fl pre).length) K1 F (0 : Int32) w4))) (by omega) (fl post).length R w F (by omega) h0 hR (fun _ _ => rfl) (fun i h1 h2 => by omega) (by omega)
  obtain ⟨w2, R2, f1, f2, f3, f4, f5, f6⟩ := zR_i42 (F := F) (sc := sc) (R := R1) (W := W) (x1 := nI pre.length) (x2 := lev) (at' := (fl pre).length) (nn := P.length) (fr := A.length) (K := K1) (by omega) (by omega) P.length 0 R1 w1 F (by omega) e2 e3 (hW.fr e6 (by omega)) (fun i hi => by omega) (fun _ _ => rfl) (by omega)
  obtain ⟨w3, g1, g2, g3⟩ := zR f2 5 (nI ((fl pre).length + (fl post).length + P.length)) (by omega) rfl
  have hT3 := ((hTt.fr e6 (by omega)).fr f6 (by omega)).fr g3 (by omega)
  obtain ⟨w4, T4, i1, i2, i3, i4, i5, i6⟩ := zR_i150 (F := F) (T := T) (x2 := lev) (x4 := nI P.length) (p := pre.length) (E := pre.length + post.length) (K := K2) (by omega) post.length T w3 F (by omega) g2 hT3 (fun _ _ => rfl) (fun i h1 h2 => by omega) (by omega)
  obtain ⟨v1, v2, v3, v4, j1, j2, j3, j4, k1, k2, k3, k4, hT5⟩ := zT4 (i := pre.length) (mk, lev, nI P.length, (0 : Int64)) i3 (by omega)
  have l1 := i2.fr k1 (by omega)
  have l2 := l1.fr k2 (by omega)
  have l3 := l2.fr k3 (by omega)
  have l4 := l3.fr k4 (by omega)
  obtain ⟨w6, m1, m2, m3⟩ := zR l4 30 (mk + 1) (by omega) rfl
  obtain ⟨w7, n1, n2, n3⟩ := zR m2 10 (nI (pre.length + post.length + 1)) (by omega) rfl
  have hkk : pu_F w4 v4 59 4 := (((k1.mono (by omega) (by omega)).tr (k2.mono (by omega) (by omega))).tr (k3.mono (by omega) (by omega))).tr (k4.mono (by omega) (by omega))
  have hfr27 : pu_F w2 w7 54 9 := ((((g3.mono (by omega) (by omega)).tr (i6.mono (by omega) (by omega))).tr (hkk.mono (by omega) (by omega))).tr (m3.mono (by omega) (by omega))).tr (n3.mono (by omega) (by omega))
  have hfr : pu_F w w7 54 9 := ((e6.mono (by omega) (by omega)).tr (f6.mono (by omega) (by omega))).tr hfr27
  have hR7 : isA w7 55 260 R2 := ((((f3.fr g3 (by omega)).fr i6 (by omega)).fr hkk (by omega)).fr m3 (by omega)).fr n3 (by omega)
  have hT7 : isT w7 (pu_up T4 pre.length (mk, lev, nI P.length, (0 : Int64))) := (hT5.fr m3 (by omega)).fr n3 (by omega)
  have hfl2 : fl (pre ++ (mk, lev, P) :: post) = fl pre ++ (P ++ fl post) := fl3 _ _ _
  refine ⟨w7, ?_, ⟨n2, ?_, ?_, ?_, ?_, ⟨R2, hR7, fun i hi => ?_⟩, ⟨_, hT7, fun i hi => ?_⟩⟩, ⟨⟨W, hW.fr hfr (by omega), hWa⟩, h36, by simp; omega⟩, hfr⟩
  · unfold f_R_insert
    simp only [↓ip (rR_is h0), ↓gcI hst, ↓bd (rR h0 5 rfl)]
    rw [h5, e1]
    rw [nI_0] at f1
    rw [f1]
    show K1 w2 = _
    have x1 : sc 5 + nI P.length = nI ((fl pre).length + (fl post).length + P.length) := by rw [h5, nI_add]
    simp only [K1, ↓bd (rR f2 5 rfl)]
    rw [x1]
    simp only [↓bd g1, ↓bd (rR g2 10 rfl)]
    have x2 : pu_up sc 5 (nI ((fl pre).length + (fl post).length + P.length)) 10 = nI (pre.length + post.length) := h10
    rw [x2, i1]
    have x3 : pu_up sc 5 (nI ((fl pre).length + (fl post).length + P.length)) 30 = mk := hmk
    have x4 : (pu_up (pu_up sc 5 (nI ((fl pre).length + (fl post).length + P.length))) 30 (mk + 1)) 10 + 1 = nI (pre.length + post.length + 1) := by
      show sc 10 + 1 = _
      rw [h10, nI_1]
    simp only [K2, ↓bd (rRr i2 6 59 rfl), ↓bd (rR i2 30 rfl)]
    rw [x3]
    simp only [↓bd j1, ↓bd (rRr l1 7 60 rfl), ↓bd j2, ↓bd (rRr l2 8 61 rfl), ↓bd j3, ↓bd (rRr l3 9 62 rfl), ↓bd j4, ↓bd (rR l4 30 rfl)]
    rw [x3]
    simp only [↓bd m1, ↓bd (rR m2 10 rfl)]
    rw [x4]
    simp only [↓bd n1]
  · show nI _ = _
    rw [hfl2]; congr 1; simp; omega
  · show nI _ = _
    congr 1; simp; omega
  · rw [hfl2]; simp; omega
  · simp; omega
  · rw [hfl2] at hi ⊢
    simp only [List.length_append] at hi
    by_cases c1 : i < (fl pre).length
    · rw [List.getElem?_append_left c1, f5 i (Or.inl c1), e4 i c1]
      have := hRa i (by rw [hfl]; omega)
      rw [fl_app, List.getElem?_append_left c1] at this
      exact this
    · rw [List.getElem?_append_right (by omega)]
      by_cases c2 : i - (fl pre).length < P.length
      · rw [List.getElem?_append_left c2]
        have := f4 (i - (fl pre).length) c2
        rw [show (fl pre).length + (i - (fl pre).length) = i by omega] at this
        rw [this]
        have h9 := hWa (A.length + (i - (fl pre).length)) (by simp; omega)
        rw [List.getElem?_append_right (by omega), Nat.add_sub_cancel_left, List.getElem?_append_left c2] at h9
        exact h9
      · rw [List.getElem?_append_right (by omega), f5 i (Or.inr (by omega)), e5 i (by omega) (by omega)]
        have := hRa (i - P.length) (by rw [hfl]; omega)
        rw [fl_app, List.getElem?_append_right (by omega)] at this
        rw [show i - (fl pre).length - P.length = i - P.length - (fl pre).length by omega]
        exact this
  · simp only [List.length_map, List.length_append, List.length_cons] at hi
    have hrt : rt (mk, lev, P) = (mk, lev, nI P.length, (0 : Int64)) := by simp only [rt, msk_zero hP]
    simp only [List.map_append, List.map_cons, hrt, pu_up]
    by_cases c1 : i < pre.length
    · rw [List.getElem?_append_left (by simpa using c1), if_neg (by omega), i4 i c1]
      have := hTa i (by simp; omega)
      rw [List.map_append, List.getElem?_append_left (by simpa using c1)] at this
      exact this
    · rw [List.getElem?_append_right (by simp; omega), List.length_map]
      by_cases c2 : i = pre.length
      · subst c2; simp
      · obtain ⟨j, hj⟩ : ∃ j, i - pre.length = j + 1 := ⟨i - pre.length - 1, by omega⟩
        rw [if_neg c2, i5 i (by omega) (by omega), hj, List.getElem?_cons_succ]
        have := hTa (i - 1) (by simp; omega)
        rw [List.map_append, List.getElem?_append_right (by simp; omega), List.length_map] at this
        rw [show i - 1 - pre.length = j by omega] at this
        exact this
/-! taking out -/
theorem zR_t16 {F : Nat} {sc : Nat → Int32} {R : Nat → Row} {x1 : Int32} {at' nn E : Nat} {K : ga_W → ga_O} (h5 : sc 5 = nI E) (hE : E < 260) (han : at' + nn ≤ E) : ∀ (m j : Nat) (R' : Nat → Row) (w : ga_W) (n : Nat), at' + j + nn + m = E → isRh w sc → isA w 55 260 R' → (∀ i, i < at' → R' i = R i) → (∀ i, at' ≤ i → i < at' + j → R' i = R (i + nn)) → (∀ i, at' + j + nn ≤ i → R' i = R i) → m < n →
    ∃ w1 R1, f_R_takeOut_16 F 54 x1 (nI nn) K n (nI (at' + j)) w = K w1 ∧ isRh w1 sc ∧ isA w1 55 260 R1 ∧ (∀ i, i < at' → R1 i = R i) ∧ (∀ i, at' ≤ i → i + nn < E → R1 i = R (i + nn)) ∧ pu_F w w1 55 4 := by
  intro m
  induction m with
  | zero =>
    intro j R' w n hm h hA h1 h2 h3 hn
    obtain ⟨n, rfl⟩ : ∃ k, n = k + 1 := ⟨n - 1, by omega⟩
    refine ⟨w, R', ?_, h, hA, h1, fun i hi hi2 => h2 i hi (by omega), pu_F.rf⟩
    have hle : sc 5 ≤ nI (at' + j) + nI nn := by rw [h5, nI_add]; exact nI_le (by omega) (by omega)
    rw [f_R_takeOut_16]
    simp only [↓bd (rR h 5 rfl), ↓ip hle]
  | succ m ih =>
    intro j R' w n hm h hA h1 h2 h3 hn
    obtain ⟨n, rfl⟩ : ∃ k, n = k + 1 := ⟨n - 1, by omega⟩
    have hle : ¬ sc 5 ≤ nI (at' + j) + nI nn := by rw [h5, nI_add]; exact nI_ge (by omega) (by omega)
    obtain ⟨w1, c1, c2, c3, c4⟩ := zR_moveEntry (F := F) (i := at' + j) (j := at' + j + nn) h hA (by omega) (by omega)
    obtain ⟨w2, R2, e1, e2, e3, e4, e5, e6⟩ := ih (j + 1) _ w1 n (by omega) c2 c3 (fun i hi => by simp only [pu_up]; rw [if_neg (by omega)]; exact h1 i hi) (fun i hi hi2 => by
      simp only [pu_up]
      by_cases hx : i = at' + j
      · subst hx; rw [if_pos rfl]; exact h3 _ (by omega)
      · rw [if_neg hx]; exact h2 i hi (by omega)) (fun i hi => by
      simp only [pu_up]
      by_cases hx : i = at' + j
      · have hn0 : nn = 0 := by omega
        subst hx; subst hn0
        omega
      · rw [if_neg hx]; exact h3 i (by omega)) (by omega)
    refine ⟨w2, R2, ?_, e2, e3, e4, e5, c4.tr e6⟩
    rw [f_R_takeOut_16]
    simp only [↓bd (rR h 5 rfl), ↓iN hle, ↓ip (rR_is h)]
    rw [nI_add, nI_1]
    simp only [↓gcV c1]
    rw [show at' + j + 1 = at' + (j + 1) by omega, e1]
theorem zR_t66 {F : Nat} {sc : Nat → Int32} {T : Nat → TT} {p E : Nat} (h10 : sc 10 = nI E) (hE : E + 1 < 260) : ∀ (m j : Nat) (T' : Nat → TT) (w : ga_W) (n : Nat), p + j + m = E → isRh w sc → isT w T' → (∀ i, i < p → T' i = T i) → (∀ i, p ≤ i → i < p + j → T' i = T (i + 1)) → (∀ i, p + j + 1 ≤ i → T' i = T i) → m < n →
    ∃ w1 T1, f_R_takeOut_66 F 54 n (nI (p + j)) w = some (.inl none, w1) ∧ isRh w1 sc ∧ isT w1 T1 ∧ (∀ i, i < p → T1 i = T i) ∧ (∀ i, p ≤ i → i < E → T1 i = T (i + 1)) ∧ pu_F w w1 59 4 := by
  intro m
  induction m with
  | zero =>
    intro j T' w n hm h hA h1 h2 h3 hn
    obtain ⟨n, rfl⟩ : ∃ k, n = k + 1 := ⟨n - 1, by omega⟩
    refine ⟨w, T', ?_, h, hA, h1, fun i hi hi2 => h2 i hi (by omega), pu_F.rf⟩
    have hle : sc 10 ≤ nI (p + j) := by rw [h10]; exact nI_le (by omega) (by omega)
    rw [f_R_takeOut_66]
    simp only [↓bd (rR h 10 rfl), ↓ip hle]
  | succ m ih =>
    intro j T' w n hm h hA h1 h2 h3 hn
    obtain ⟨n, rfl⟩ : ∃ k, n = k + 1 := ⟨n - 1, by omega⟩
    have hle : ¬ sc 10 ≤ nI (p + j) := by rw [h10]; exact nI_ge (by omega) (by omega)
    obtain ⟨w1, c1, c2, c3, c4⟩ := zR_moveTable (F := F) (i := p + j) (j := p + j + 1) h hA (by omega) (by omega)
    obtain ⟨w2, T2, e1, e2, e3, e4, e5, e6⟩ := ih (j + 1) _ w1 n (by omega) c2 c3 (fun i hi => by simp only [pu_up]; rw [if_neg (by omega)]; exact h1 i hi) (fun i hi hi2 => by
      simp only [pu_up]
      by_cases hx : i = p + j
      · subst hx; rw [if_pos rfl]; exact h3 _ (by omega)
      · rw [if_neg hx]; exact h2 i hi (by omega)) (fun i hi => by simp only [pu_up]; rw [if_neg (by omega)]; exact h3 i (by omega)) (by omega)
    refine ⟨w2, T2, ?_, e2, e3, e4, e5, c4.tr e6⟩
    rw [f_R_takeOut_66]
    simp only [↓bd (rR h 10 rfl), ↓iN hle, ↓ip (rR_is h)]
    rw [nI_1]
    simp only [↓gcV c1]
    rw [show p + j + 1 = p + (j + 1) by omega, e1]
def outSc (sc : Nat → Int32) (E T : Nat) : Nat → Int32 := pu_up (pu_up sc 5 (nI E)) 10 (nI T)
theorem zR_takeOut {F : Nat} {w : ga_W} {sc : Nat → Int32} {pre post : List Tab} {t : Tab} (hF : 1000 < F) (h : isRt w sc (pre ++ t :: post)) :
    ∃ w', f_R_takeOut F 54 (nI pre.length) w = some (.inl none, w') ∧ isRt w' (outSc sc (fl (pre ++ post)).length (pre ++ post).length) (pre ++ post) ∧ pu_F w w' 54 9 := by
  obtain ⟨h0, h5, h10, hE, hT, ⟨R, hR, hRa⟩, ⟨T, hTt, hTa⟩⟩ := id h
  have hfl : (fl (pre ++ t :: post)).length = (fl pre).length + t.2.2.length + (fl post).length := by rw [fl3]; simp [Nat.add_assoc]
  have hfl2 : (fl (pre ++ post)).length = (fl pre).length + (fl post).length := by rw [fl_app, List.length_append]
  have htl : (pre ++ t :: post).length = pre.length + post.length + 1 := by simp; omega
  have htl2 : (pre ++ post).length = pre.length + post.length := by simp
  rw [hfl] at hE h5
  rw [htl] at hT h10
  have hst := zR_start' (F := F) hF h
  have hsz := (rT_at h (show (pre ++ t :: post)[pre.length]? = some t by simp)).2.2.1
  let K1 : ga_W → ga_O := (fun (w5 : ga_W) => ((ga_gi w5 6 5 54).bind fun v6 => ((ga_put w5 6 5 54 (.int (v6 - nI t.2.2.length))).bind fun w7 => ((ga_gi w7 6 10 54).bind fun v8 => ((ga_put w7 6 10 54 (.int (v8 - (1 : Int32)))).bind fun w9 => (f_R_takeOut_66 F 54 F (nI pre.length) w9))))))
  obtain ⟨w1, R1, e1, e2, e3, e4, e5, e6⟩ := zR_t16 (F := F) (sc := sc) (R := R) (x1 := nI pre.length) (at' := (fl pre).length) (nn := t.2.2.length) (E := (fl pre).length + t.2.2.length + (fl post).length) (K := K1) h5 (by omega) (by omega) (fl post).length 0 R w F (by omega) h0 hR (fun _ _ => rfl) (fun i h1 h2 => by omega) (fun _ _ => rfl) (by omega)
  obtain ⟨w2, f1, f2, f3⟩ := zR e2 5 (nI (fl (pre ++ post)).length) (by omega) rfl
  obtain ⟨w3, g1, g2, g3⟩ := zR f2 10 (nI (pre ++ post).length) (by omega) rfl
  have hT3 := ((hTt.fr e6 (by omega)).fr f3 (by omega)).fr g3 (by omega)
  obtain ⟨w4, T4, i1, i2, i3, i4, i5, i6⟩ := zR_t66 (F := F) (sc := outSc sc (fl (pre ++ post)).length (pre ++ post).length) (T := T) (p := pre.length) (E := (pre ++ post).length) rfl (by omega) post.length 0 T w3 F (by omega) g2 hT3 (fun _ _ => rfl) (fun i h1 h2 => by omega) (fun _ _ => rfl) (by omega)
  refine ⟨w4, ?_, ⟨i2, rfl, rfl, by omega, by omega, ⟨R1, ((e3.fr f3 (by omega)).fr g3 (by omega)).fr i6 (by omega), fun i hi => ?_⟩, ⟨T4, i3, fun i hi => ?_⟩⟩, (((e6.mono (by omega) (by omega)).tr (f3.mono (by omega) (by omega))).tr (g3.mono (by omega) (by omega))).tr (i6.mono (by omega) (by omega))⟩
  · rw [Nat.add_zero] at e1 i1
    unfold f_R_takeOut
    simp only [↓ip (rR_is h0), ↓gcI hst, ↓bd (rRr h0 8 61 rfl), ↓bd hsz]
    rw [e1]
    have x1 : sc 5 - nI t.2.2.length = nI (fl (pre ++ post)).length := by rw [h5, nI_sub (by omega), hfl2]; congr 1; omega
    have x2 : pu_up sc 5 (nI (fl (pre ++ post)).length) 10 - 1 = nI (pre ++ post).length := by
      show sc 10 - 1 = _
      rw [h10, nI_s1 (by omega), htl2]; rfl
    simp only [K1, ↓bd (rR e2 5 rfl)]
    rw [x1]
    simp only [↓bd f1, ↓bd (rR f2 10 rfl)]
    rw [x2]
    simp only [↓bd g1]
    rw [i1]
  · rw [hfl2] at hi
    rw [fl_app]
    have hag : ∀ j, j < (fl (pre ++ t :: post)).length → (fl pre ++ (t.2.2 ++ fl post))[j]? = some (R j) := fun j hj => by rw [← fl3]; exact hRa j hj
    by_cases c1 : i < (fl pre).length
    · rw [List.getElem?_append_left c1, e4 i c1]
      have := hag i (by omega)
      rwa [List.getElem?_append_left c1] at this
    · rw [List.getElem?_append_right (by omega), e5 i (by omega) (by omega)]
      have := hag (i + t.2.2.length) (by omega)
      rw [List.getElem?_append_right (by omega), List.getElem?_append_right (by omega)] at this
      rw [show i - (fl pre).length = i + t.2.2.length - (fl pre).length - t.2.2.length by omega]
      exact this
  · simp only [List.length_map] at hi
    simp only [List.map_append]
    have hag : ∀ j, j < pre.length + post.length + 1 → (pre.map rt ++ (rt t :: post.map rt))[j]? = some (T j) := fun j hj => by
      have := hTa j (by simp; omega)
      simpa using this
    by_cases c1 : i < pre.length
    · rw [List.getElem?_append_left (by simpa using c1), i4 i c1]
      have := hag i (by omega)
      rwa [List.getElem?_append_left (by simpa using c1)] at this
    · rw [List.getElem?_append_right (by simp; omega), i5 i (by omega) hi]
      have := hag (i + 1) (by omega)
      rw [List.getElem?_append_right (by simp; omega)] at this
      simp only [List.length_map] at this ⊢
      rw [show i + 1 - pre.length = (i - pre.length) + 1 by omega, List.getElem?_cons_succ] at this
      exact this
