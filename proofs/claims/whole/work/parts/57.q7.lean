/-! PURE, 7: the joining tables are sorted and merged -/
theorem isO.toX {w w' : ga_W} {xs ys : List Row} {P O : Nat → Int32} (h : isO w xs P O) (hf : pu_F w w' 31 6) (hq : isEl w' 31 240 ys) : isO w' ys P O :=
  ⟨hf.out (by omega) h.1, hq, hf.out (by omega) h.2.2.1, hf.out (by omega) h.2.2.2⟩
theorem zV_sj_in {F : Nat} {sh sp : Nat} {st mk dr : Int32} {J P O : Nat → Int32} {pre post : List Tab} {t : Tab} {l2 : List Row} {K : ga_W → ga_O} (hJ : ¬ J pre.length = 0) (todo : List Row) : ∀ (done xs : List Row) (w : ga_W) (n : Nat), t.2.2 = done ++ todo → isVh w sh sp st mk dr → isSh w sh (pre ++ t :: post) l2 → isO w xs P O → w.1[45]? = some (.inl (1, 240, .inl J)) → xs.length + todo.length ≤ 240 → todo.length < n →
    ∃ w1, f_V_sortJoining_34 F 9 (nI pre.length) K n (nI ((fl pre).length + done.length)) w = K w1 ∧ isO w1 (xs ++ todo) P O ∧ pu_F w w1 31 6 := by
  induction todo with
  | nil =>
    intro done xs w n hd hv hs ho hj hc hn
    obtain ⟨n, rfl⟩ : ∃ k, n = k + 1 := ⟨n - 1, by simp at hn; omega⟩
    have hl := rS_len hs
    simp only [List.append_nil] at hd
    have hJr := rZ hj (show pre.length < 240 by omega) (by omega)
    refine ⟨w, ?_, by simpa using ho, pu_F.rf⟩
    simp only [f_V_sortJoining_34, rV_jo hv, hJr, hJ, if_false, rV_sh hv, rS_b hs, nI_1, rS_b1 hs, hd, Int32.le_refl, if_true, Option.bind_some]
  | cons r todo ih =>
    intro done xs w n hd hv hs ho hj hc hn
    obtain ⟨n, rfl⟩ : ∃ k, n = k + 1 := ⟨n - 1, by simp at hn; omega⟩
    have hvd := hv.d
    have hl := rS_len hs
    simp only [List.length_cons] at hc hn
    have hlen : t.2.2.length = done.length + (todo.length + 1) := by rw [hd]; simp
    have hJr := rZ hj (show pre.length < 240 by omega) (by omega)
    have h1 : ¬ nI ((fl pre).length + t.2.2.length) ≤ nI ((fl pre).length + done.length) := nI_ge (by omega) (by omega)
    have hr : (fl pre ++ (t.2.2 ++ (fl post ++ l2)))[(fl pre).length + done.length]? = some r := at3 (by rw [hd]; simp)
    obtain ⟨w1, e1, e2, e3⟩ := zE_addFrom (F := F) ho.2.1 (by omega) (rS_e3 hs) hr (by omega)
    obtain ⟨w2, e4, e5, e6⟩ := ih (done ++ [r]) (xs ++ [r]) w1 n (by simp [hd]) (hv.fr e3 (by omega)) (hs.fr e3 (by omega)) (ho.toX e3 e2) (e3.out (by omega) hj) (by simp; omega) (by omega)
    refine ⟨w2, ?_, by simpa using e5, e3.tr e6⟩
    simp only [f_V_sortJoining_34, rV_jo hv, hJr, hJ, if_false, rV_sh hv, rS_b hs, nI_1, rS_b1 hs, h1, Option.bind_some, rV_so hv, rO_l ho, rS_rows hs, rE_is ho.2.1, if_true, e1, ga_c, ga_kV]
    simpa [Nat.add_assoc] using e4
theorem jrow_le (J : Nat → Int32) (ts : List Tab) : ∀ i, (jrow J i ts).length ≤ (fl ts).length := by
  induction ts with
  | nil => intro i; simp [jrow]
  | cons t ts ih =>
    intro i
    have := ih (i + 1)
    simp only [jrow, fl_cons, List.length_append]
    split
    · omega
    · simp only [List.length_append]; omega
theorem zV_sj_loop {F : Nat} {sh sp : Nat} {st mk dr : Int32} {J : Nat → Int32} {l2 ms : List Row} (hF : 1000 < F) (post : List Tab) : ∀ (pre : List Tab) (xs : List Row) (P O : Nat → Int32) (w : ga_W) (n : Nat), isVh w sh sp st mk dr → isSh w sh (pre ++ post) l2 → isO w xs P O → isEl w 39 240 ms → w.1[45]? = some (.inl (1, 240, .inl J)) → xs.length + (fl post).length ≤ 240 → (∀ r ∈ xs, okK r) → (∀ r ∈ fl post, okK r) → post.length < n →
    ∃ w1 P' O', f_V_sortJoining_13 F 9 n (nI pre.length) w = some (.inl none, w1) ∧ isO w1 (xs ++ jrow J pre.length post) P' O' ∧ isEl w1 39 240 (srt (xs ++ jrow J pre.length post)) ∧ pu_F w w1 30 15 := by
  induction post with
  | nil =>
    intro pre xs P O w n hv hs ho hm hj hc hk1 hk2 hn
    obtain ⟨n, rfl⟩ : ∃ k, n = k + 1 := ⟨n - 1, by simp at hn; omega⟩
    simp only [List.append_nil, jrow] at hs ⊢
    obtain ⟨w1, a1, a2, a3⟩ := zE_clear hm
    have hv1 := hv.fr a3 (by omega)
    have ho1 := ho.fr a3 (by omega)
    simp only [fl_nil, List.length_nil] at hc
    obtain ⟨w2, w3, P', O', b1, b2, b3, b4, b5⟩ := zO_addSorted (F := F) hF (by omega) ho1 hk1 a2 (by simp; omega)
    refine ⟨w3, P', O', ?_, b2.fr b5 (by omega), by simpa using b3, ((a3.mono (by omega) (by omega)).tr (b4.mono (by omega) (by omega))).tr (b5.mono (by omega) (by omega))⟩
    simp only [f_V_sortJoining_13, rV_sh hv, rS_tables hs, Int32.le_refl, if_true, rV_me hv, a1, rV_so hv1, rV_me hv1, rO_is ho1, b1, ga_c, ga_kV, Option.bind_some]
  | cons t post ih =>
    intro pre xs P O w n hv hs ho hm hj hc hk1 hk2 hn
    obtain ⟨n, rfl⟩ : ∃ k, n = k + 1 := ⟨n - 1, by simp at hn; omega⟩
    have hl := rS_len hs
    simp only [List.length_cons] at hn
    simp only [fl_cons, List.length_append] at hc
    have h1 : ¬ nI (pre ++ t :: post).length ≤ nI pre.length := nI_ge (by simp) (by simp; omega)
    have q2 : nI (pre.length + 1) = nI (pre ++ [t]).length := by simp
    have hk3 : ∀ r ∈ fl post, okK r := fun r hr => hk2 r (by rw [fl_cons]; exact List.mem_append_right _ hr)
    by_cases hJ : J pre.length = 0
    · obtain ⟨w1, P', O', e1, e2, e3, e4⟩ := ih (pre ++ [t]) xs P O w n hv (by simpa using hs) ho hm hj (by omega) hk1 hk3 (by omega)
      have q3 : (pre ++ [t]).length = pre.length + 1 := by simp
      rw [q3] at e2 e3
      refine ⟨w1, P', O', ?_, by simpa [jrow, hJ] using e2, by simpa [jrow, hJ] using e3, e4⟩
      obtain ⟨G, rfl⟩ : ∃ G, F = G + 1 := ⟨F - 1, by omega⟩
      have hJr := rZ hj (show pre.length < 240 by omega) (by omega)
      simp only [f_V_sortJoining_13, rV_sh hv, rS_tables hs, h1, if_false, rS_b hs, rS_b0 hs, Option.bind_some, f_V_sortJoining_34, rV_jo hv, hJr, hJ, if_true, nI_1]
      rw [q2, e1]
    · obtain ⟨w1, e1, e2, e3⟩ := zV_sj_in (F := F) (K := fun (w12 : ga_W) => (f_V_sortJoining_13 F 9 n (nI pre.length + (1 : Int32)) w12)) hJ t.2.2 [] xs w F rfl hv hs ho hj (by omega) (by omega)
      obtain ⟨w2, P', O', e4, e5, e6, e7⟩ := ih (pre ++ [t]) (xs ++ t.2.2) P O w1 n (hv.fr e3 (by omega)) (by have := hv.d; simpa using hs.fr e3 (by omega)) e2 (hm.fr e3 (by omega)) (e3.out (by omega) hj) (by simp; omega) (fun r hr => by
        rcases List.mem_append.mp hr with hr | hr
        · exact hk1 r hr
        · exact hk2 r (by rw [fl_cons]; exact List.mem_append_left _ hr)) hk3 (by omega)
      have q3 : (pre ++ [t]).length = pre.length + 1 := by simp
      rw [q3] at e5 e6
      refine ⟨w2, P', O', ?_, by simpa [jrow, hJ] using e5, by simpa [jrow, hJ] using e6, (e3.mono (by omega) (by omega)).tr e7⟩
      simp only [List.length_nil, Nat.add_zero] at e1
      simp only [f_V_sortJoining_13, rV_sh hv, rS_tables hs, h1, if_false, rS_b hs, rS_b0 hs, Option.bind_some, e1]
      rw [nI_1, q2, e4]
theorem zV_sortJoining {F : Nat} {sh sp : Nat} {st mk dr : Int32} {J P O : Nat → Int32} {tabs : List Tab} {l2 ms xs : List Row} {w : ga_W} (hF : 1000 < F) (hv : isVh w sh sp st mk dr) (hs : isSh w sh tabs l2) (ho : isO w xs P O) (hm : isEl w 39 240 ms) (hj : w.1[45]? = some (.inl (1, 240, .inl J))) (hk : ∀ r ∈ fl tabs, okK r) :
    ∃ w1 ys P' O', f_V_sortJoining F 9 w = some (.inl none, w1) ∧ isO w1 ys P' O' ∧ isEl w1 39 240 (srt (jrow J 0 tabs)) ∧ pu_F w w1 30 15 := by
  obtain ⟨w1, a1, a2, a3⟩ := zE_clear ho.2.1
  have hv1 := hv.fr a3 (by omega)
  have hd := hv.d
  have hl := (rS_e hs).1
  have hl2 := hs.2.1
  simp only [List.length_append] at hl
  obtain ⟨w2, P', O', e1, e2, e3, e4⟩ := zV_sj_loop (F := F) (ms := ms) hF tabs [] [] P O w1 F hv1 (by simpa using hs.fr a3 (by omega)) (ho.toX a3 a2) (hm.fr a3 (by omega)) (a3.out (by omega) hj) (by simp; omega) (by simp) hk (by omega)
  refine ⟨w2, _, P', O', ?_, e2, by simpa using e3, (a3.mono (by omega) (by omega)).tr e4⟩
  simp only [List.length_nil, nI_0] at e1
  simp only [f_V_sortJoining, rV_so hv, rO_l ho, a1, Option.bind_some, e1]
/-! what is dropped -/
def outd (old : Int32) (prev : Option Row) (r : Row) : Bool := match prev with
  | none => false
  | some p => decide (p.1 = r.1) && decide (¬ old < p.2.1)
def deep (lev : Int32) (tabs : List Tab) (k : Int32) : Bool := tabs.any (fun t => decide (lev < t.2.1) && decide (lo t ≤ k ∧ k ≤ hi t))
def needl (lev old : Int32) (tabs : List Tab) (r : Row) : Bool := decide (¬ r.2.2.2.1 = 0) && (decide (r.2.1 ≤ old) && !deep lev tabs r.1)
theorem zV_isOutdated {F : Nat} {sh sp : Nat} {st mk dr old : Int32} {pre post : List Row} {r : Row} {w : ga_W} (hv : isVh w sh sp st mk dr) (hm : isEl w 39 240 (pre ++ r :: post)) : f_V_isOutdated F 9 (nI pre.length) old w = some (.inl (some (.int (bI (outd old pre.getLast? r)))), w) := by
  have hl := hm.1
  simp only [List.length_append, List.length_cons] at hl
  rcases List.eq_nil_or_concat pre with rfl | ⟨p, q, rfl⟩
  · simp [f_V_isOutdated, nI_0, outd, bI]
  · simp only [List.concat_eq_append] at hm hl ⊢
    simp only [List.length_append, List.length_cons, List.length_nil, Nat.zero_add] at hl ⊢
    have h0 : ¬ nI (p.length + 1) ≤ 0 := nI_nle (by omega) (by omega)
    have hq : (p ++ [q] ++ r :: post)[p.length]? = some q := by simp
    have hr : (p ++ [q] ++ r :: post)[p.length + 1]? = some r := by
      rw [show p.length + 1 = (p ++ [q]).length by simp]; simp
    simp only [f_V_isOutdated, h0, if_false, rV_me hv, rE_k hm, rE_n hm, nI_s1 (show 1 ≤ p.length + 1 by omega), Nat.add_sub_cancel, rE_key hm hq, rE_key hm hr, rE_num hm hq, Option.bind_some, List.getLast?_append, List.getLast?_singleton, Option.some_or, outd]
    by_cases c1 : q.1 = r.1
    · replace c1 := eq_true c1
      by_cases c2 : old < q.2.1 <;> simp [c1, c2, bI]
    · simp [c1, bI]
theorem zV_needl_loop {F : Nat} {sh sp : Nat} {st mk dr lev : Int32} {i : Nat} {ms l2 : List Row} {r : Row} {w : ga_W} (hv : isVh w sh sp st mk dr) (hm : isEl w 39 240 ms) (hr : ms[i]? = some r) (post : List Tab) : ∀ (pre : List Tab) (n : Nat), isSh w sh (pre ++ post) l2 → (∀ t ∈ post, t.2.2 ≠ []) → post.length < n → f_V_isNeedless_30 F 9 (nI i) lev n (nI pre.length) w = some (.inl (some (.int (bI (!deep lev post r.1)))), w) := by
  induction post with
  | nil =>
    intro pre n hs ha hn
    obtain ⟨n, rfl⟩ : ∃ k, n = k + 1 := ⟨n - 1, by simp at hn; omega⟩
    simp only [List.append_nil] at hs
    simp only [f_V_isNeedless_30, rV_sh hv, rS_tables hs, Int32.le_refl, if_true, Option.bind_some, deep, List.any_nil, Bool.not_false]
    rfl
  | cons t post ih =>
    intro pre n hs ha hn
    obtain ⟨n, rfl⟩ : ∃ k, n = k + 1 := ⟨n - 1, by simp at hn; omega⟩
    have hl := rS_len hs
    have h1 : ¬ nI (pre ++ t :: post).length ≤ nI pre.length := nI_ge (by simp) (by simp; omega)
    have ht : (pre ++ t :: post)[pre.length]? = some t := by simp
    have e1 := ih (pre ++ [t]) n (by simpa using hs) (fun t h => ha t (List.mem_cons_of_mem _ h)) (by simp only [List.length_cons] at hn; omega)
    simp only [List.length_append, List.length_cons, List.length_nil, Nat.zero_add] at e1
    simp only [f_V_isNeedless_30, rV_sh hv, rS_tables hs, h1, if_false, Option.bind_some, rS_l hs, rS_lev hs ht, rV_me hv, rE_k hm, rE_key hm hr, rS_is hs, if_true, zS_spans hs (ha t List.mem_cons_self), ga_c, ga_kI, nI_1, e1]
    by_cases c1 : t.2.1 ≤ lev
    · have c2 : ¬ lev < t.2.1 := Int32.not_lt.mpr c1
      simp [c1, c2, deep]
    · have c2 : lev < t.2.1 := Int32.not_le.mp c1
      by_cases c3 : lo t ≤ r.1 ∧ r.1 ≤ hi t
      · simp [c1, c2, c3, deep, bI]
      · have c4 : ¬ (lo t ≤ r.1 ∧ r.1 ≤ hi t) := c3
        simp only [c1, c3, if_false, if_true, deep, List.any_cons, c2, decide_true, decide_false, Bool.and_false, Bool.false_or]
theorem zV_isNeedless {F : Nat} {sh sp : Nat} {st mk dr lev old : Int32} {i : Nat} {ms l2 : List Row} {r : Row} {tabs : List Tab} {w : ga_W} (hF : 1000 < F) (hv : isVh w sh sp st mk dr) (hm : isEl w 39 240 ms) (hr : ms[i]? = some r) (hs : isSh w sh tabs l2) (ha : ∀ t ∈ tabs, t.2.2 ≠ []) : f_V_isNeedless F 9 (nI i) lev old w = some (.inl (some (.int (bI (needl lev old tabs r)))), w) := by
  have hl := hs.2.1
  have e1 := zV_needl_loop (F := F) (lev := lev) hv hm hr tabs [] F (by simpa using hs) ha (by omega)
  simp only [List.length_nil, nI_0] at e1
  simp only [f_V_isNeedless, rV_me hv, rE_g hm, rE_n hm, rE_gone hm hr, rE_num hm hr, Option.bind_some, e1, needl]
  by_cases c1 : r.2.2.2.1 = 0
  · simp [c1, bI]
  · by_cases c2 : r.2.1 ≤ old <;> simp [c1, c2, bI]
/-- what is kept of the merged rows -/
def kp (lev old : Int32) (tabs : List Tab) : Option Row → List Row → List Row
  | _, [] => []
  | prev, r :: rs => if outd old prev r || needl lev old tabs r then kp lev old tabs (some r) rs else r :: kp lev old tabs (some r) rs
theorem kp_le (lev old : Int32) (tabs : List Tab) (rs : List Row) : ∀ prev, (kp lev old tabs prev rs).length ≤ rs.length := by
  induction rs with
  | nil => intro p; simp [kp]
  | cons r rs ih =>
    intro p
    have := ih (some r)
    simp only [kp]
    split <;> simp <;> omega
/-- .. and cut into tables -/
def sp6 (lev : Int32) : Int32 → List Row → List Row → List Tab
  | md, loose, [] => if loose = [] then [] else [(md, lev, loose)]
  | md, loose, r :: rs => if 6 ≤ loose.length ∧ ¬ r.1 = (loose.getLastD zr).1 then (md, lev, loose) :: sp6 lev (md + 1) [r] rs else sp6 lev md (loose ++ [r]) rs
theorem sp6_le (lev : Int32) (rs : List Row) : ∀ mk loose, (sp6 lev mk loose rs).length ≤ rs.length + (if loose = [] then 0 else 1) := by
  induction rs with
  | nil => intro mk loose; simp only [sp6]; split <;> simp
  | cons r rs ih =>
    intro mk loose
    simp only [sp6]
    split
    · have := ih (mk + 1) [r]
      rename_i h
      have hne : ¬ loose = [] := fun h2 => by simp [h2] at h
      simp [hne] at this ⊢
      exact this
    · have := ih mk (loose ++ [r])
      simp at this ⊢
      omega
theorem bd {α β : Type} {o : Option α} {x : α} (h : o = some x) (f : α → Option β) : o.bind f = f x := by rw [h]; rfl
theorem gcI {o : ga_O} {v : Int32} {w1 : ga_W} (h : o = some (.inl (some (.int v)), w1)) (f : Int32 → ga_W → ga_O) (g : Nat → ga_W → ga_O) : ga_c o (ga_kI f) g = f v w1 := by rw [h]; rfl
theorem gcV {o : ga_O} {w1 : ga_W} (h : o = some (.inl none, w1)) (f : ga_W → ga_O) (g : Nat → ga_W → ga_O) : ga_c o (ga_kV f) g = f w1 := by rw [h]; rfl
theorem gcX {o : ga_O} {x : Nat} {w1 : ga_W} (h : o = some (.inr x, w1)) (f : Option Value → ga_W → ga_O) (g : Nat → ga_W → ga_O) : ga_c o f g = g x w1 := by rw [h]; rfl
theorem ip {α : Type} {c : Prop} [Decidable c] (h : c) (a b : α) : ite c a b = a := if_pos h
theorem iN {α : Type} {c : Prop} [Decidable c] (h : ¬ c) (a b : α) : ite c a b = b := if_neg h
theorem jn {κ : Type} (k : κ) (body : κ → ga_O) : ga_jn k body = body k := rfl
theorem nI_6 : (6 : Int32) = nI 6 := by decide
set_option maxHeartbeats 2000000 in
theorem zV_am_loop {F : Nat} {sh sp : Nat} {st lev old : Int32} {tabs : List Tab} {l2 : List Row} (hF : 1000 < F) (ha : ∀ t ∈ tabs, t.2.2 ≠ []) (todo : List Row) : ∀ (done loose : List Row) (T : List Tab) (mk dr x3 : Int32) (w : ga_W) (n : Nat), isVh w sh sp st mk dr → isSh w sh tabs l2 → isSh w sp T loose → isEl w 39 240 (done ++ todo) → (loose = [] ∨ x3 = (loose.getLastD zr).1) → (fl T).length + loose.length + todo.length ≤ 240 → T.length + todo.length + (if loose = [] then 0 else 1) ≤ 240 → todo.length < n →
    ∃ w', f_V_addMerged_5 F 9 lev old n x3 (nI done.length) w = some (.inl none, w') ∧ isVh w' sh sp st (mk + nI (sp6 lev mk loose (kp lev old tabs done.getLast? todo)).length) (dr + nI (todo.length - (kp lev old tabs done.getLast? todo).length)) ∧ isSh w' sp (T ++ sp6 lev mk loose (kp lev old tabs done.getLast? todo)) [] ∧ pu_K w w' [(9, 1), (sp, 10)] := by
  induction todo with
  | nil =>
    intro done loose T mk dr x3 w n hv hs ht hm hx hc1 hc2 hn
    obtain ⟨n, rfl⟩ : ∃ k, n = k + 1 := ⟨n - 1, by simp at hn; omega⟩
    simp only [List.append_nil] at hm
    simp only [kp, sp6, List.length_nil, Nat.sub_self]
    by_cases hl : loose = []
    · subst hl
      refine ⟨w, ?_, by simpa [nI_0] using hv, by simpa using ht, pu_K.rf⟩
      rw [f_V_addMerged_5]
      simp only [↓bd (rV_me hv), ↓bd (rE_size hm), ↓ip (Int32.le_refl _), ↓bd (rV_sp hv), ↓ip (rS_is ht), ↓gcI (zS_hasLoose ht), if_true]
    · simp only [hl, if_false, List.length_nil, Nat.add_zero] at hc2
      obtain ⟨w1, e1, e2, e3, e4⟩ := zV_endNew (F := F) (lev := lev) hv ht (by omega)
      refine ⟨w1, ?_, by simpa [hl, nI_0] using (show isVh w1 sh sp st (mk + nI 1) dr from e2), by simpa [hl] using e3, e4⟩
      rw [f_V_addMerged_5]
      have hne : ¬ (if loose = [] then (0 : Int32) else 1) = 0 := by rw [if_neg hl]; decide
      simp only [↓bd (rV_me hv), ↓bd (rE_size hm), ↓ip (Int32.le_refl _), ↓bd (rV_sp hv), ↓ip (rS_is ht), ↓gcI (zS_hasLoose ht), ↓iN hne, ↓ip (rV_is hv), ↓gcV e1]
  | cons r todo ih =>
    intro done loose T mk dr x3 w n hv hs ht hm hx hc1 hc2 hn
    obtain ⟨n, rfl⟩ : ∃ k, n = k + 1 := ⟨n - 1, by simp at hn; omega⟩
    have hd := hv.d
    have hl := hm.1
    simp only [List.length_append, List.length_cons] at hl hc1 hc2 hn
    have h1 : ¬ nI (done ++ r :: todo).length ≤ nI done.length := nI_ge (by simp) (by simp; omega)
    have hr : (done ++ r :: todo)[done.length]? = some r := by simp
    have hlast : (done ++ [r]).getLast? = some r := by simp
    have q1 : (done ++ [r]).length = done.length + 1 := by simp
    by_cases hdrop : outd old done.getLast? r || needl lev old tabs r
    · -- it is dropped
      obtain ⟨w1, a1, a2, a3⟩ := zV_dr (x := dr + 1) hv
      obtain ⟨w2, e1, e2, e3, e4⟩ := ih (done ++ [r]) loose T mk (dr + 1) x3 w1 n a2 (hs.fr a3 (by omega)) (ht.fr a3 (by omega)) (by simpa using hm.fr a3 (by omega)) hx (by omega) (by omega) (by omega)
      rw [hlast] at e2 e3
      simp only [kp, hdrop, if_true]
      have hk := kp_le lev old tabs todo (some r)
      refine ⟨w2, ?_, ?_, e3, (a3.K (by simp)).tr e4⟩
      · rw [q1] at e1
        have hcases : outd old done.getLast? r = true ∨ (outd old done.getLast? r = false ∧ needl lev old tabs r = true) := by
          cases h : outd old done.getLast? r <;> simp_all
        rw [f_V_addMerged_5]
        simp only [↓bd (rV_me hv), ↓bd (rE_size hm), ↓iN h1, ↓bd (rE_k hm), ↓bd (rE_key hm hr), ↓ip (rV_is hv), ↓gcI (zV_isOutdated hv hm), ↓jn]
        have b1 : ¬ bI true = 0 := by decide
        have b0 : bI false = 0 := rfl
        rcases hcases with c1 | ⟨c1, c2⟩
        · rw [c1]
          simp only [↓iN b1, ↓bd (rV_dr hv), ↓bd a1]
          rw [nI_1, e1]
        · rw [c1]
          simp only [↓ip b0, ↓ip (rV_is hv), ↓gcI (zV_isNeedless hF hv hm hr hs ha)]
          rw [c2]
          simp only [↓iN b1, ↓bd (rV_dr hv), ↓bd a1]
          rw [nI_1, e1]
      · have : dr + 1 + nI (todo.length - (kp lev old tabs (some r) todo).length) = dr + nI ((r :: todo).length - (kp lev old tabs (some r) todo).length) := by
          rw [Int32.add_assoc]
          congr 1
          rw [Int32.add_comm, nI_1]
          congr 1
          simp only [List.length_cons]
          omega
        rwa [this] at e2
    · -- it is kept
      have hb : outd old done.getLast? r = false ∧ needl lev old tabs r = false := by
        simpa using hdrop
      have b0 : bI false = 0 := rfl
      have hbd := rS_bd ht (i := T.length) (Nat.le_refl _)
      rw [List.take_length] at hbd
      have hsz := rE_size (rS_e ht)
      simp only [List.length_append] at hsz
      have hk := kp_le lev old tabs todo (some r)
      simp only [kp, hdrop, if_false, sp6, Bool.false_eq_true]
      by_cases hcut : 6 ≤ loose.length ∧ ¬ r.1 = (loose.getLastD zr).1
      · have hne : ¬ loose = [] := fun h => by simp [h] at hcut
        have hx2 : ¬ r.1 = x3 := by
          rcases hx with hx | hx
          · exact absurd hx hne
          · rw [hx]; exact hcut.2
        simp only [hne, if_false] at hc2
        obtain ⟨w1, a1, a2, a3, a4⟩ := zV_endNew (F := F) (lev := lev) hv ht (by omega)
        have hm1 := hm.frK a4 (by simp; omega)
        obtain ⟨w2, d1, d2, d3⟩ := zS_addFrom (F := F) a3 (by simp [fl_app, fl_cons, fl_nil]; omega) hm1 hr (by omega)
        obtain ⟨w3, e1, e2, e3, e4⟩ := ih (done ++ [r]) [r] (T ++ [(mk, lev, loose)]) (mk + 1) dr r.1 w2 n (a2.fr d3 (by omega)) ((hs.frK a4 (by simp; omega)).fr d3 (by omega)) d2 (by simpa using hm1.fr d3 (by omega)) (Or.inr rfl) (by simp [fl_app, fl_cons, fl_nil]; omega) (by simp; omega) (by omega)
        rw [hlast] at e2 e3
        rw [q1] at e1
        simp only [hcut, not_false_eq_true, and_self, if_true]
        refine ⟨w3, ?_, ?_, by simpa using e3, (a4.tr (d3.K (by simp))).tr e4⟩
        · have c6 : ¬ nI loose.length < 6 := by rw [nI_6]; exact nI_nlt hcut.1 (by omega)
          rw [f_V_addMerged_5]
          simp only [↓bd (rV_me hv), ↓bd (rE_size hm), ↓iN h1, ↓bd (rE_k hm), ↓bd (rE_key hm hr), ↓ip (rV_is hv), ↓gcI (zV_isOutdated hv hm), ↓jn]
          rw [hb.1]
          simp only [↓ip b0, ↓ip (rV_is hv), ↓gcI (zV_isNeedless hF hv hm hr hs ha)]
          rw [hb.2]
          simp only [↓ip b0, ↓bd (rV_sp hv), ↓bd (rS_rows ht), ↓bd hsz, ↓bd (rS_b ht), ↓bd (rS_tables ht), ↓bd hbd, ↓jn]
          rw [nI_sub (show (fl T).length ≤ (fl T).length + loose.length by omega), Nat.add_sub_cancel_left]
          simp only [↓iN c6, ↓iN hx2, ↓ip (rV_is hv), ↓gcV a1, ↓bd (rV_sp a2), ↓bd (rS_rows a3), ↓bd (rV_me a2), ↓ip (rE_is (rS_e a3)), ↓gcV d1]
          rw [nI_1, e1]
        · have : mk + 1 + nI (sp6 lev (mk + 1) [r] (kp lev old tabs (some r) todo)).length = mk + nI ((mk, lev, loose) :: sp6 lev (mk + 1) [r] (kp lev old tabs (some r) todo)).length := by
            rw [Int32.add_assoc]
            congr 1
            rw [Int32.add_comm, nI_1]
            rfl
          rw [this] at e2
          have q5 : (r :: todo).length - (r :: kp lev old tabs (some r) todo).length = todo.length - (kp lev old tabs (some r) todo).length := by simp
          rw [q5]
          exact e2
      · have hjoin : nI loose.length < 6 ∨ r.1 = x3 := by
          by_cases h6 : 6 ≤ loose.length
          · right
            have hne : ¬ loose = [] := fun h => by simp [h] at h6
            rcases hx with hx | hx
            · exact absurd hx hne
            · rw [hx]
              exact Classical.not_not.mp (fun h => hcut ⟨h6, h⟩)
          · left; rw [nI_6]; exact nI_lt (by omega) (by omega)
        obtain ⟨w2, d1, d2, d3⟩ := zS_addFrom (F := F) ht (by omega) hm hr (by omega)
        obtain ⟨w3, e1, e2, e3, e4⟩ := ih (done ++ [r]) (loose ++ [r]) T mk dr r.1 w2 n (hv.fr d3 (by omega)) (hs.fr d3 (by omega)) d2 (by simpa using hm.fr d3 (by omega)) (Or.inr (by simp)) (by simp; omega) (by simp; split at hc2 <;> omega) (by omega)
        rw [hlast] at e2 e3
        rw [q1] at e1
        simp only [hcut, if_false]
        refine ⟨w3, ?_, ?_, e3, (d3.K (by simp)).tr e4⟩
        · rw [f_V_addMerged_5]
          simp only [↓bd (rV_me hv), ↓bd (rE_size hm), ↓iN h1, ↓bd (rE_k hm), ↓bd (rE_key hm hr), ↓ip (rV_is hv), ↓gcI (zV_isOutdated hv hm), ↓jn]
          rw [hb.1]
          simp only [↓ip b0, ↓ip (rV_is hv), ↓gcI (zV_isNeedless hF hv hm hr hs ha)]
          rw [hb.2]
          simp only [↓ip b0, ↓bd (rV_sp hv), ↓bd (rS_rows ht), ↓bd hsz, ↓bd (rS_b ht), ↓bd (rS_tables ht), ↓bd hbd, ↓jn]
          rw [nI_sub (show (fl T).length ≤ (fl T).length + loose.length by omega), Nat.add_sub_cancel_left]
          by_cases c6 : nI loose.length < 6
          · simp only [↓ip c6, ↓bd (rV_sp hv), ↓bd (rS_rows ht), ↓bd (rV_me hv), ↓ip (rE_is (rS_e ht)), ↓gcV d1]
            rw [nI_1, e1]
          · have c7 : r.1 = x3 := hjoin.resolve_left c6
            simp only [↓iN c6, ↓ip c7, ↓bd (rV_sp hv), ↓bd (rS_rows ht), ↓bd (rV_me hv), ↓ip (rE_is (rS_e ht)), ↓gcV d1]
            rw [nI_1, e1]
        · have q5 : (r :: todo).length - (r :: kp lev old tabs (some r) todo).length = todo.length - (kp lev old tabs (some r) todo).length := by simp
          rw [q5]
          exact e2
theorem zV_addMerged {F : Nat} {sh sp : Nat} {st lev old mk dr : Int32} {tabs T : List Tab} {l2 ms : List Row} {w : ga_W} (hF : 1000 < F) (ha : ∀ t ∈ tabs, t.2.2 ≠ []) (hv : isVh w sh sp st mk dr) (hs : isSh w sh tabs l2) (ht : isSh w sp T []) (hm : isEl w 39 240 ms) (hc1 : (fl T).length + ms.length ≤ 240) (hc2 : T.length + ms.length ≤ 240) :
    ∃ w', f_V_addMerged F 9 lev old w = some (.inl none, w') ∧ isVh w' sh sp st (mk + nI (sp6 lev mk [] (kp lev old tabs none ms)).length) (dr + nI (ms.length - (kp lev old tabs none ms).length)) ∧ isSh w' sp (T ++ sp6 lev mk [] (kp lev old tabs none ms)) [] ∧ pu_K w w' [(9, 1), (sp, 10)] := by
  have hl := hm.1
  obtain ⟨w', e1, e2, e3, e4⟩ := zV_am_loop (F := F) (lev := lev) (old := old) hF ha ms [] [] T mk dr (-1) w F hv hs ht hm (Or.inl rfl) (by simp; omega) (by simp; omega) (by omega)
  simp only [List.length_nil, nI_0] at e1
  exact ⟨w', e1, e2, e3, e4⟩
