/-! PURE, 8: Levels as a whole; memory goes to level 0; spoiled rows are lost -/
/-- Levels: the tables, stuck, made, dropped, two pointers -/
def isV (w : ga_W) (tabs : List Tab) (st mk dr p1 p2 : Int32) : Prop := ∃ sh sp : Nat, isVh w sh sp st mk dr ∧ isSh w sh tabs [] ∧ (∃ T l, isSh w sp T l) ∧ (∃ xs P O, isO w xs P O) ∧ (∃ ms, isEl w 39 240 ms) ∧ (∃ J : Nat → Int32, w.1[45]? = some (.inl (1, 240, .inl J))) ∧ (∃ Q : Nat → Int32, w.1[46]? = some (.inl (0, 3, .inl Q)) ∧ Q 1 = p1 ∧ Q 2 = p2)
theorem isV.fr {w w' : ga_W} {tabs : List Tab} {st mk dr p1 p2 : Int32} {e k : Nat} (h : isV w tabs st mk dr p1 p2) (hf : pu_F w w' e k) (he : 47 ≤ e ∨ e + k ≤ 9) : isV w' tabs st mk dr p1 p2 := by
  obtain ⟨sh, sp, h1, h2, ⟨T, l, h3⟩, ⟨xs, P, O, h4⟩, ⟨ms, h5⟩, ⟨J, h6⟩, ⟨Q, h7, h8⟩⟩ := h
  have hd := h1.d
  exact ⟨sh, sp, h1.fr hf (by omega), h2.fr hf (by omega), ⟨T, l, h3.fr hf (by omega)⟩, ⟨xs, P, O, h4.fr hf (by omega)⟩, ⟨ms, h5.fr hf (by omega)⟩, ⟨J, hf.out (by omega) h6⟩, ⟨Q, hf.out (by omega) h7, h8⟩⟩
theorem zV_a18 {F : Nat} {sh sp : Nat} {st mk dr : Int32} {P O : Nat → Int32} {K : ga_W → ga_O} {mem : List Row} : ∀ (k : Nat) (pre post xs : List Row) (w : ga_W) (n : Nat), pre.length = k → mem = pre ++ post → isVh w sh sp st mk dr → isO w xs P O → isEl w 2 12 mem → xs.length + k ≤ 240 → k < n →
    ∃ w1, f_V_addToLevel0_18 F 9 2 K n (nI k - 1) w = K w1 ∧ isO w1 (xs ++ pre.reverse) P O ∧ pu_F w w1 31 6 := by
  intro k
  induction k with
  | zero =>
    intro pre post xs w n hk hm hv ho he hc hn
    obtain ⟨n, rfl⟩ : ∃ k, n = k + 1 := ⟨n - 1, by omega⟩
    have : pre = [] := List.eq_nil_of_length_eq_zero hk
    subst this
    refine ⟨w, ?_, by simpa using ho, pu_F.rf⟩
    have : nI 0 - 1 < 0 := by decide
    simp only [f_V_addToLevel0_18, this, if_true]
  | succ k ih =>
    intro pre post xs w n hk hm hv ho he hc hn
    obtain ⟨n, rfl⟩ : ∃ k, n = k + 1 := ⟨n - 1, by omega⟩
    have hne : pre ≠ [] := fun hx => by simp [hx] at hk
    obtain ⟨p, r, rfl⟩ : ∃ p r, pre = p ++ [r] := ⟨pre.dropLast, pre.getLast hne, (List.dropLast_concat_getLast hne).symm⟩
    have hpl : p.length = k := by simpa using hk
    have hl := he.1
    rw [hm] at hl
    simp only [List.length_append] at hl
    have hr : mem[k]? = some r := by subst hpl; rw [hm]; simp
    obtain ⟨w1, e1, e2, e3⟩ := zE_addFrom (F := F) ho.2.1 (by omega) he hr (by omega)
    obtain ⟨w2, e4, e5, e6⟩ := ih p (r :: post) (xs ++ [r]) w1 n hpl (by simp [hm]) (hv.fr e3 (by omega)) (ho.toX e3 e2) (he.fr e3 (by omega)) (by simp; omega) (by omega)
    have hne0 : ¬ nI k < 0 := nI_pos (by omega)
    have e7 : nI k + (-1) = nI k - 1 := by rw [Int32.sub_eq_add_neg]
    refine ⟨w2, ?_, by simpa using e5, e3.tr e6⟩
    simp only [f_V_addToLevel0_18, nI_s1 (show 1 ≤ k + 1 by omega), Nat.add_sub_cancel, hne0, if_false, rV_so hv, rO_l ho, rE_is ho.2.1, if_true, e1, ga_c, ga_kV, Option.bind_some, e7, e4]
theorem zV_a68 {F : Nat} {sh sp : Nat} {st mk dr : Int32} (hF : 1000 < F) (post : List Tab) : ∀ (pre T : List Tab) (w : ga_W) (n : Nat), isVh w sh sp st mk dr → isSh w sh (pre ++ post) [] → isSh w sp T [] → (fl T).length + (fl post).length ≤ 240 → T.length + post.length ≤ 240 → post.length < n →
    ∃ w', f_V_addToLevel0_68 F 9 n (nI pre.length) w = some (.inl none, w') ∧ isVh w' sp sh st mk dr ∧ isSh w' sp (T ++ post) [] ∧ isSh w' sh (pre ++ post) [] ∧ pu_K w w' [(9, 1), (sp, 10)] := by
  induction post with
  | nil =>
    intro pre T w n hv hs ht hc1 hc2 hn
    obtain ⟨n, rfl⟩ : ∃ k, n = k + 1 := ⟨n - 1, by simp at hn; omega⟩
    have hd := hv.d
    simp only [List.append_nil] at hs ⊢
    obtain ⟨w1, a1, a2, a3⟩ := zV_change (F := F) hv
    refine ⟨w1, ?_, a2, ht.fr a3 (by omega), hs.fr a3 (by omega), a3.K (by simp)⟩
    rw [f_V_addToLevel0_68]
    simp only [↓bd (rV_sh hv), ↓bd (rS_tables hs), ↓ip (Int32.le_refl _), ↓ip (rV_is hv), ↓gcV a1]
  | cons t post ih =>
    intro pre T w n hv hs ht hc1 hc2 hn
    obtain ⟨n, rfl⟩ : ∃ k, n = k + 1 := ⟨n - 1, by simp at hn; omega⟩
    have hd := hv.d
    have hl := rS_len hs
    simp only [List.length_cons, fl_cons, List.length_append] at hn hc1 hc2
    have h1 : ¬ nI (pre ++ t :: post).length ≤ nI pre.length := nI_ge (by simp) (by simp; omega)
    have q2 : nI (pre.length + 1) = nI (pre ++ [t]).length := by simp
    obtain ⟨w1, e1, e2, e3⟩ := zS_addTable (F := F) (s := sp) (o := sh) (l2 := []) (pre := pre) (t := t) (post := post) hF (by omega) ht hs (by omega) (by omega)
    obtain ⟨w2, e4, e5, e6, e7, e8⟩ := ih (pre ++ [t]) (T ++ [t]) w1 n (hv.fr e3 (by omega)) (by simpa using hs.fr e3 (by omega)) e2 (by simp [fl_app, fl_cons, fl_nil]; omega) (by simp; omega) (by omega)
    refine ⟨w2, ?_, e5, by simpa using e6, by simpa using e7, (e3.K (by simp)).tr e8⟩
    rw [f_V_addToLevel0_68]
    simp only [↓bd (rV_sh hv), ↓bd (rS_tables hs), ↓iN h1, ↓bd (rV_sp hv), ↓ip (rS_is ht), ↓gcV e1]
    rw [nI_1, q2, e4]
theorem zV_addToLevel0 {F : Nat} {w : ga_W} {tabs : List Tab} {mem : List Row} {st mk dr p1 p2 : Int32} (hF : 1000 < F) (h : isV w tabs st mk dr p1 p2) (hm : isEl w 2 12 mem) (hk : ∀ r ∈ mem, okK r) (hc : (fl tabs).length + mem.length ≤ 240) (hc2 : tabs.length < 240) :
    ∃ w', f_V_addToLevel0 F 9 2 w = some (.inl none, w') ∧ isV w' ((mk, 0, srt mem.reverse) :: tabs) st (mk + 1) dr p1 p2 ∧ pu_F w w' 9 38 := by
  obtain ⟨sh, sp, hv, hs, ⟨T0, l0, ht⟩, ⟨xs0, P, O, ho⟩, ⟨ms, hme⟩, ⟨J, hj⟩, ⟨Q, hq1, hq2⟩⟩ := h
  have hd := hv.d
  have hml := hm.1
  obtain ⟨w1, a1, a2, a3⟩ := zE_clear ho.2.1
  have hv1 := hv.fr a3 (by omega)
  have ho1 := ho.toX a3 a2
  have hm1 := hm.fr a3 (by omega)
  obtain ⟨w2, b1, b2, b3⟩ := zV_a18 (F := F) (K := (fun (w5 : ga_W) => ((ga_gr w5 1 1 9).bind fun r6 => (if ga_is w5 3 r6 = true then ga_c (f_S_clear F r6 w5) (ga_kV fun w7 => ((ga_gr w7 1 2 9).bind fun r8 => ((ga_gr w7 1 1 9).bind fun r9 => ((ga_gr w7 3 0 r9).bind fun r10 => (if ga_is w7 4 r8 = true then ga_c (f_O_addSorted F r8 r10 w7) (ga_kV fun w11 => (if ga_is w11 1 9 = true then ga_c (f_V_endNewTable F 9 (0 : Int32) w11) (ga_kV fun w12 => (f_V_addToLevel0_68 F 9 F (0 : Int32) w12)) ga_up else none)) ga_up else none))))) ga_up else none)))) mem.length mem [] [] w1 F rfl (by simp) hv1 ho1 hm1 (by simp; omega) (by omega)
  have hv2 := hv1.fr b3 (by omega)
  have ht2 := (ht.fr a3 (by omega)).fr b3 (by omega)
  have hs2 := (hs.fr a3 (by omega)).fr b3 (by omega)
  obtain ⟨w3, c1, c2, c3⟩ := zS_clear (F := F) ht2
  have hv3 := hv2.fr c3 (by omega)
  have hs3 := hs2.fr c3 (by omega)
  have ho3 := b2.fr c3 (by omega)
  have hkr : ∀ r ∈ [] ++ mem.reverse, okK r := fun r hr => hk r (by simpa using hr)
  obtain ⟨w4, w5, P', O', d1, d2, d3, d4, d5⟩ := zO_addSorted (F := F) (e := sp + 1) hF (by omega) ho3 hkr (rS_e c2) (by simp [fl_nil]; omega)
  have hv5 := (hv3.fr d4 (by omega)).fr d5 (by omega)
  have hs5 := (hs3.fr d4 (by omega)).fr d5 (by omega)
  have ht5 : isSh w5 sp [] (srt mem.reverse) := (c2.fr d4 (by omega)).rowsTo d5 (by simpa [fl_nil] using d3)
  obtain ⟨w6, e1, e2, e3, e4⟩ := zV_endNew (F := F) (lev := 0) hv5 ht5 (by simp)
  have hs6 := hs5.frK e4 (by simp; omega)
  have hlen : (srt mem.reverse).length = mem.length := by rw [srt_len _ (fun r hr => hk r (by simpa using hr))]; simp
  obtain ⟨w7, f1, f2, f3, f4, f5⟩ := zV_a68 (F := F) hF tabs [] _ w6 F e2 (by simpa using hs6) e3 (by simp [fl_cons, fl_nil, hlen]; omega) (by simp; omega) (by omega)
  have hF7 : pu_F w w7 9 38 := ((((((a3.mono (by omega) (by omega)).tr (b3.mono (by omega) (by omega))).tr (c3.mono (by omega) (by omega))).tr (d4.mono (by omega) (by omega))).tr (d5.mono (by omega) (by omega))).tr (e4.F (by simp; omega))).tr (f5.F (by simp; omega))
  have hK5 : ∀ a, 37 < a → w5.1[a]? = w.1[a]? → a ≠ 38 → a < 47 → 39 ≤ a → w7.1[a]? = w.1[a]? := fun a _ h _ _ _ => (f5.2.2 a (by simp; omega)).trans ((e4.2.2 a (by simp; omega)).trans h)
  have hfar : ∀ a, 39 ≤ a → w7.1[a]? = w.1[a]? := fun a ha => (f5.2.2 a (by simp; omega)).trans ((e4.2.2 a (by simp; omega)).trans ((d5.2.2 a (by omega)).trans ((d4.2.2 a (by omega)).trans ((c3.2.2 a (by omega)).trans ((b3.2.2 a (by omega)).trans (a3.2.2 a (by omega)))))))
  refine ⟨w7, ?_, ⟨sp, sh, f2, by simpa using f3, ⟨_, _, f4⟩, ⟨_, P', O', ((d2.fr d5 (by omega)).fr (e4.F (e := 9) (k := 21) (by simp; omega)) (by omega)).fr (f5.F (e := 9) (k := 21) (by simp; omega)) (by omega)⟩, ⟨ms, hme.kept (fun a h1 h2 => hfar a (by omega))⟩, ⟨J, (hfar 45 (by omega)).trans hj⟩, ⟨Q, (hfar 46 (by omega)).trans hq1, hq2⟩⟩, hF7⟩
  simp only [List.length_nil, nI_0] at f1
  unfold f_V_addToLevel0
  simp only [↓bd (rV_so hv), ↓bd (rO_l ho), ↓bd a1, ↓bd (rE_size hm1)]
  rw [b1]
  simp only [↓bd (rV_sp hv2), ↓ip (rS_is ht2), ↓gcV c1, ↓bd (rV_so hv3), ↓bd (rV_sp hv3), ↓bd (rS_rows c2), ↓ip (rO_is ho3), ↓gcV d1, ↓ip (rV_is hv5), ↓gcV e1]
  rw [f1]
/-! spoiled rows are lost -/
def nsp (r : Row) : Bool := decide (r.2.2.2.2 = 0)
def lsp : List Tab → List Tab
  | [] => []
  | t :: ts => if t.2.2.filter nsp = [] then lsp ts else (t.1, t.2.1, t.2.2.filter nsp) :: lsp ts
theorem zV_l30 {F : Nat} {sh sp : Nat} {st mk dr : Int32} {K : ga_W → ga_O} {pre post T : List Tab} {t : Tab} (todo : List Row) : ∀ (done loose : List Row) (w : ga_W) (n : Nat), t.2.2 = done ++ todo → isVh w sh sp st mk dr → isSh w sh (pre ++ t :: post) [] → isSh w sp T loose → (fl T).length + loose.length + todo.length ≤ 240 → todo.length < n →
    ∃ w1, f_V_loseSpoiled_30 F 9 (nI pre.length) K n (nI ((fl pre).length + done.length)) w = K w1 ∧ isSh w1 sp T (loose ++ todo.filter nsp) ∧ pu_F w w1 sp 10 := by
  induction todo with
  | nil =>
    intro done loose w n hd hv hs ht hc hn
    obtain ⟨n, rfl⟩ : ∃ k, n = k + 1 := ⟨n - 1, by simp at hn; omega⟩
    simp only [List.append_nil] at hd
    refine ⟨w, ?_, by simpa using ht, pu_F.rf⟩
    simp only [f_V_loseSpoiled_30, rV_sh hv, rS_b hs, nI_1, rS_b1 hs, hd, Int32.le_refl, if_true, Option.bind_some]
  | cons r todo ih =>
    intro done loose w n hd hv hs ht hc hn
    obtain ⟨n, rfl⟩ : ∃ k, n = k + 1 := ⟨n - 1, by simp at hn; omega⟩
    have hvd := hv.d
    have hl := rS_len hs
    simp only [List.length_cons] at hc hn
    have hlen : t.2.2.length = done.length + (todo.length + 1) := by rw [hd]; simp
    have h1 : ¬ nI ((fl pre).length + t.2.2.length) ≤ nI ((fl pre).length + done.length) := nI_ge (by omega) (by omega)
    have hr : (fl pre ++ (t.2.2 ++ (fl post ++ [])))[(fl pre).length + done.length]? = some r := at3 (by rw [hd]; simp)
    by_cases hx : r.2.2.2.2 = 0
    · obtain ⟨w1, e1, e2, e3⟩ := zS_addFrom (F := F) ht (by omega) (rS_e3 hs) hr (by omega)
      obtain ⟨w2, e4, e5, e6⟩ := ih (done ++ [r]) (loose ++ [r]) w1 n (by simp [hd]) (hv.fr e3 (by omega)) (hs.fr e3 (by omega)) e2 (by simp; omega) (by omega)
      have hn2 : nsp r = true := by simp [nsp, hx]
      refine ⟨w2, ?_, by simpa [List.filter_cons, hn2] using e5, e3.tr e6⟩
      simp only [f_V_loseSpoiled_30, rV_sh hv, rS_b hs, nI_1, rS_b1 hs, h1, if_false, Option.bind_some, rS_rows hs, rE_s (rS_e hs), rE_sp (rS_e3 hs) hr, hx, if_true, rV_sp hv, rS_rows ht, rE_is (rS_e ht), e1, ga_c, ga_kV]
      simpa [Nat.add_assoc] using e4
    · obtain ⟨w2, e4, e5, e6⟩ := ih (done ++ [r]) loose w n (by simp [hd]) hv hs ht (by omega) (by omega)
      have hn2 : nsp r = false := by simp [nsp, hx]
      refine ⟨w2, ?_, by simpa [List.filter_cons, hn2] using e5, e6⟩
      simp only [f_V_loseSpoiled_30, rV_sh hv, rS_b hs, nI_1, rS_b1 hs, h1, if_false, Option.bind_some, rS_rows hs, rE_s (rS_e hs), rE_sp (rS_e3 hs) hr, hx]
      simpa [Nat.add_assoc] using e4
theorem filter_len (t : Tab) : (t.2.2.filter nsp).length ≤ t.2.2.length := List.length_filter_le _ _
theorem lsp_le (ts : List Tab) : (fl (lsp ts)).length ≤ (fl ts).length ∧ (lsp ts).length ≤ ts.length := by
  induction ts with
  | nil => simp [lsp]
  | cons t ts ih =>
    have := filter_len t
    simp only [lsp]
    split
    · simp only [fl_cons, List.length_append, List.length_cons]; omega
    · simp only [fl_cons, List.length_append, List.length_cons]; omega
theorem zV_l9 {F : Nat} {sh sp : Nat} {st mk dr : Int32} {K : ga_W → ga_O} (hF : 1000 < F) (post : List Tab) : ∀ (pre T : List Tab) (w : ga_W) (n : Nat), isVh w sh sp st mk dr → isSh w sh (pre ++ post) [] → isSh w sp T [] → (fl T).length + (fl post).length ≤ 240 → T.length + post.length ≤ 240 → post.length < n →
    ∃ w1, f_V_loseSpoiled_9 F 9 K n (nI pre.length) w = K w1 ∧ isSh w1 sp (T ++ lsp post) [] ∧ pu_F w w1 sp 10 := by
  induction post with
  | nil =>
    intro pre T w n hv hs ht hc1 hc2 hn
    obtain ⟨n, rfl⟩ : ∃ k, n = k + 1 := ⟨n - 1, by simp at hn; omega⟩
    simp only [List.append_nil] at hs
    refine ⟨w, ?_, by simpa [lsp] using ht, pu_F.rf⟩
    rw [f_V_loseSpoiled_9]
    simp only [↓bd (rV_sh hv), ↓bd (rS_tables hs), ↓ip (Int32.le_refl _)]
  | cons t post ih =>
    intro pre T w n hv hs ht hc1 hc2 hn
    obtain ⟨n, rfl⟩ : ∃ k, n = k + 1 := ⟨n - 1, by simp at hn; omega⟩
    have hd := hv.d
    have hl := rS_len hs
    simp only [List.length_cons, fl_cons, List.length_append] at hn hc1 hc2
    have h1 : ¬ nI (pre ++ t :: post).length ≤ nI pre.length := nI_ge (by simp) (by simp; omega)
    have hi : (pre ++ t :: post)[pre.length]? = some t := by simp
    have q2 : nI (pre.length + 1) = nI (pre ++ [t]).length := by simp
    have hfl := filter_len t
    obtain ⟨w1, e1, e2, e3⟩ := zV_l30 (F := F) (T := T) (K := (fun (w7 : ga_W) => ((ga_gr w7 1 1 9).bind fun r8 => (if ga_is w7 3 r8 = true then ga_c (f_S_hasLooseRows F r8 w7) (ga_kI fun v10 w9 => (if v10 = 0 then (f_V_loseSpoiled_9 F 9 K n (nI pre.length + (1 : Int32)) w9) else ((ga_gr w9 1 1 9).bind fun r12 => ((ga_gr w9 1 0 9).bind fun r13 => ((ga_gr w9 3 1 r13).bind fun r14 => ((ga_ai w9 0 r14 (nI pre.length)).bind fun v15 => ((ga_gr w9 1 0 9).bind fun r16 => ((ga_gr w9 3 2 r16).bind fun r17 => ((ga_ai w9 0 r17 (nI pre.length)).bind fun v18 => (if ga_is w9 3 r12 = true then ga_c (f_S_endTable F r12 v15 v18 w9) (ga_kV fun w19 => (f_V_loseSpoiled_9 F 9 K n (nI pre.length + (1 : Int32)) w19)) ga_up else none)))))))))) ga_up else none)))) t.2.2 [] [] w F rfl hv hs ht (by simp; omega) (by omega)
    simp only [List.length_nil, Nat.add_zero, List.nil_append] at e1 e2
    have hv1 := hv.fr e3 (by omega)
    have hs1 := hs.fr e3 (by omega)
    by_cases hx : t.2.2.filter nsp = []
    · rw [hx] at e2
      obtain ⟨w2, e4, e5, e6⟩ := ih (pre ++ [t]) T w1 n hv1 (by simpa using hs1) e2 (by omega) (by omega) (by omega)
      refine ⟨w2, ?_, by simpa [lsp, hx] using e5, e3.tr e6⟩
      rw [f_V_loseSpoiled_9]
      simp only [↓bd (rV_sh hv), ↓bd (rS_tables hs), ↓iN h1, ↓bd (rS_b hs), ↓bd (rS_b0 hs)]
      rw [e1]
      simp only [↓bd (rV_sp hv1), ↓ip (rS_is e2), ↓gcI (zS_hasLoose e2), if_true]
      rw [nI_1, q2, e4]
    · obtain ⟨w2, d1, d2, d3⟩ := zS_endTable (F := F) (num := t.1) (lev := t.2.1) e2 (by omega)
      obtain ⟨w3, e4, e5, e6⟩ := ih (pre ++ [t]) _ w2 n (hv1.fr d3 (by omega)) (by simpa using hs1.fr d3 (by omega)) d2 (by simp [fl_app, fl_cons, fl_nil]; omega) (by simp; omega) (by omega)
      refine ⟨w3, ?_, by simpa [lsp, hx] using e5, (e3.tr d3).tr e6⟩
      have hne : ¬ (if t.2.2.filter nsp = [] then (0 : Int32) else 1) = 0 := by rw [if_neg hx]; decide
      rw [f_V_loseSpoiled_9]
      simp only [↓bd (rV_sh hv), ↓bd (rS_tables hs), ↓iN h1, ↓bd (rS_b hs), ↓bd (rS_b0 hs)]
      rw [e1]
      simp only [↓bd (rV_sp hv1), ↓ip (rS_is e2), ↓gcI (zS_hasLoose e2), ↓iN hne, ↓bd (rV_sh hv1), ↓bd (rS_n hs1), ↓bd (rS_num hs1 hi), ↓bd (rS_l hs1), ↓bd (rS_lev hs1 hi), ↓gcV d1]
      rw [nI_1, q2, e4]
theorem zV_loseSpoiled {F : Nat} {w : ga_W} {tabs : List Tab} {st mk dr p1 p2 : Int32} (hF : 1000 < F) (h : isV w tabs st mk dr p1 p2) :
    ∃ w', f_V_loseSpoiled F 9 w = some (.inl (some (.int (nI ((fl tabs).length - (fl (lsp tabs)).length)))), w') ∧ isV w' (lsp tabs) 0 mk dr p1 p2 ∧ pu_F w w' 9 38 := by
  obtain ⟨sh, sp, hv, hs, ⟨T0, l0, ht⟩, ⟨xs0, P, O, ho⟩, ⟨ms, hme⟩, ⟨J, hj⟩, ⟨Q, hq1, hq2⟩⟩ := h
  have hd := hv.d
  have hl := (rS_e hs).1
  have hl2 := hs.2.1
  simp only [List.length_append] at hl
  have hls := lsp_le tabs
  obtain ⟨w1, a1, a2, a3⟩ := zS_clear (F := F) ht
  have hv1 := hv.fr a3 (by omega)
  have hs1 := hs.fr a3 (by omega)
  obtain ⟨w2, b1, b2, b3⟩ := zV_l9 (F := F) (K := (fun (w3 : ga_W) => ((ga_gr w3 1 0 9).bind fun r4 => ((ga_gr w3 3 0 r4).bind fun r5 => ((ga_gi w3 0 5 r5).bind fun v6 => ((ga_gr w3 1 1 9).bind fun r7 => ((ga_gr w3 3 0 r7).bind fun r8 => ((ga_gi w3 0 5 r8).bind fun v9 => (if ga_is w3 1 9 = true then ga_c (f_V_changeShelf F 9 w3) (ga_kV fun w10 => ((ga_put w10 1 6 9 (.int (0 : Int32))).bind fun w11 => (some (.inl (some (.int (v6 - v9))), w11)))) ga_up else none))))))))) hF tabs [] [] w1 F hv1 (by simpa using hs1) a2 (by simp [fl_nil]; omega) (by simp; omega) (by omega)
  have hv2 := hv1.fr b3 (by omega)
  have hs2 := hs1.fr b3 (by omega)
  simp only [List.nil_append] at b2
  obtain ⟨w3, c1, c2, c3⟩ := zV_change (F := F) hv2
  obtain ⟨w4, d1, d2, d3⟩ := zV_st (x := 0) c2
  have hk : ∀ a, 30 ≤ a → w4.1[a]? = w.1[a]? := fun a ha => (d3.2.2 a (by omega)).trans ((c3.2.2 a (by omega)).trans ((b3.2.2 a (by omega)).trans (a3.2.2 a (by omega))))
  refine ⟨w4, ?_, ⟨sp, sh, d2, (b2.fr c3 (by omega)).fr d3 (by omega), ⟨_, _, (hs2.fr c3 (by omega)).fr d3 (by omega)⟩, ⟨xs0, P, O, (((ho.fr a3 (by omega)).fr b3 (by omega)).fr c3 (by omega)).fr d3 (by omega)⟩, ⟨ms, hme.kept (fun a h1 h2 => hk a (by omega))⟩, ⟨J, (hk 45 (by omega)).trans hj⟩, ⟨Q, (hk 46 (by omega)).trans hq1, hq2⟩⟩, (((a3.mono (by omega) (by omega)).tr (b3.mono (by omega) (by omega))).tr (c3.mono (by omega) (by omega))).tr (d3.mono (by omega) (by omega))⟩
  simp only [List.length_nil, nI_0] at b1
  have z1 := rE_size (rS_e hs2)
  have z2 := rE_size (rS_e b2)
  simp only [List.append_nil] at z1 z2
  unfold f_V_loseSpoiled
  simp only [↓bd (rV_sp hv), ↓ip (rS_is ht), ↓gcV a1]
  rw [b1]
  simp only [↓bd (rV_sh hv2), ↓bd (rS_rows hs2), ↓bd z1, ↓bd (rV_sp hv2), ↓bd (rS_rows b2), ↓bd z2, ↓ip (rV_is hv2), ↓gcV c1, ↓bd d1]
  rw [nI_sub hls.1]
