/-! PURE, 9: a merge -/
def mnL (x : Int32) (ts : List Tab) : Int32 := ts.foldl (fun m t => if lo t < m then lo t else m) x
def mxH (x : Int32) (ts : List Tab) : Int32 := ts.foldl (fun m t => if m < hi t then hi t else m) x
theorem zV_m10 {F : Nat} {sh sp : Nat} {st mk dr : Int32} {x1 x3 x4 : Int32} {K : Int32 → Int32 → ga_W → ga_O} {post : List Tab} {w : ga_W} (hv : isVh w sh sp st mk dr) (mid : List Tab) : ∀ (pre : List Tab) (n : Nat) (a b : Int32), isSh w sh (pre ++ (mid ++ post)) [] → (∀ t ∈ mid, t.2.2 ≠ []) → mid.length < n →
    f_V_merge_10 F 9 x1 (nI (pre.length + mid.length)) x3 x4 K n a b (nI pre.length) w = K (mnL a mid) (mxH b mid) w := by
  induction mid with
  | nil =>
    intro pre n a b hs ha hn
    obtain ⟨n, rfl⟩ : ∃ k, n = k + 1 := ⟨n - 1, by simp at hn; omega⟩
    simp only [f_V_merge_10, List.length_nil, Nat.add_zero, Int32.le_refl, if_true, mnL, mxH, List.foldl_nil]
  | cons t mid ih =>
    intro pre n a b hs ha hn
    obtain ⟨n, rfl⟩ : ∃ k, n = k + 1 := ⟨n - 1, by simp at hn; omega⟩
    have hs2 : isSh w sh (pre ++ t :: (mid ++ post)) [] := by simpa using hs
    have hl := rS_len hs2
    simp only [List.length_append] at hl
    simp only [List.length_cons] at hn
    have h1 : ¬ nI (pre.length + (t :: mid).length) ≤ nI pre.length := nI_ge (by simp) (by simp; omega)
    have q1 : pre.length + (t :: mid).length = (pre ++ [t]).length + mid.length := by simp; omega
    have q2 : nI (pre.length + 1) = nI (pre ++ [t]).length := by simp
    have e1 := ih (pre ++ [t]) n (if lo t < a then lo t else a) (if b < hi t then hi t else b) (by simpa using hs) (fun t h => ha t (List.mem_cons_of_mem _ h)) (by omega)
    have ht := ha t List.mem_cons_self
    rw [f_V_merge_10]
    simp only [↓iN h1, ↓bd (rV_sh hv), ↓ip (rS_is hs), ↓gcI (zS_leastKey hs2 ht), ↓gcI (zS_greatestKey hs2 ht)]
    rw [q1, nI_1, q2, e1]
    rfl
/-- which tables join -/
def jm (lev least greatest : Int32) (a b i : Nat) (t : Tab) : Bool := (decide (t.2.1 = lev) && decide (lo t ≤ greatest ∧ least ≤ hi t)) || (decide (a ≤ i) && decide (i < b))
def anyS (lev least greatest : Int32) (a b : Nat) : Nat → List Tab → Bool
  | _, [] => false
  | i, t :: ts => (jm lev least greatest a b i t && decide (0 < nsb t.2.2)) || anyS lev least greatest a b (i + 1) ts
theorem nsb_le (rows : List Row) : nsb rows ≤ nb rows.length := by
  unfold nsb
  have := List.countP_le_length (p := sb rows) (l := List.range' 0 (nb rows.length))
  simpa using this
set_option maxHeartbeats 2000000 in
theorem zV_m57 {F : Nat} {sh sp : Nat} {mk dr : Int32} {x4 lev least greatest : Int32} {a b : Nat} {K : ga_W → ga_O} (hF : 1000 < F) (hab : a < 1000 ∧ b < 1000) (post : List Tab) : ∀ (pre : List Tab) (J : Nat → Int32) (s : Bool) (w : ga_W) (n : Nat), isVh w sh sp (bI s) mk dr → isSh w sh (pre ++ post) [] → w.1[45]? = some (.inl (1, 240, .inl J)) → (∀ t ∈ post, t.2.2 ≠ []) → post.length < n →
    ∃ w1 J', f_V_merge_57 F 9 (nI a) (nI b) lev x4 least greatest K n (nI pre.length) w = K w1 ∧ isVh w1 sh sp (bI (s || anyS lev least greatest a b pre.length post)) mk dr ∧ w1.1[45]? = some (.inl (1, 240, .inl J')) ∧ (∀ i, i < pre.length → J' i = J i) ∧ (∀ i t, post[i]? = some t → J' (pre.length + i) = bI (jm lev least greatest a b (pre.length + i) t)) ∧ pu_K w w1 [(9, 1), (45, 1)] := by
  induction post with
  | nil =>
    intro pre J s w n hv hs hj ha hn
    obtain ⟨n, rfl⟩ : ∃ k, n = k + 1 := ⟨n - 1, by simp at hn; omega⟩
    simp only [List.append_nil] at hs
    refine ⟨w, J, ?_, by simpa [anyS] using hv, hj, fun _ _ => rfl, fun i t h => by simp at h, pu_K.rf⟩
    rw [f_V_merge_57]
    simp only [↓bd (rV_sh hv), ↓bd (rS_tables hs), ↓ip (Int32.le_refl _)]
  | cons t post ih =>
    intro pre J s w n hv hs hj ha hn
    obtain ⟨n, rfl⟩ : ∃ k, n = k + 1 := ⟨n - 1, by simp at hn; omega⟩
    have hd := hv.d
    have hl := rS_len hs
    simp only [List.length_cons] at hn
    have h1 : ¬ nI (pre ++ t :: post).length ≤ nI pre.length := nI_ge (by simp) (by simp; omega)
    have hti : (pre ++ t :: post)[pre.length]? = some t := by simp
    have q2 : nI (pre.length + 1) = nI (pre ++ [t]).length := by simp
    have q3 : (pre ++ [t]).length = pre.length + 1 := by simp
    have ht := ha t List.mem_cons_self
    -- the mark is written
    obtain ⟨w1, a1, a2, a3⟩ := zZ_st (i := pre.length) (x := bI (jm lev least greatest a b pre.length t)) hj (by omega) (by omega) (by cases jm lev least greatest a b pre.length t <;> simp [bI])
    have hv1 := hv.fr a3 (by omega)
    have hs1 := hs.fr a3 (by omega)
    have hJ1 := rZ a2 (show pre.length < 240 by omega) (by omega)
    have hJ2 : upd J pre.length (bI (jm lev least greatest a b pre.length t)) pre.length = bI (jm lev least greatest a b pre.length t) := by simp [upd]
    rw [hJ2] at hJ1
    -- stuck is written
    obtain ⟨w2, b1, b2, b3⟩ := zV_st (x := bI (s || (jm lev least greatest a b pre.length t && decide (0 < nsb t.2.2)))) hv1
    obtain ⟨w3, J', e1, e2, e3, e4, e5, e6⟩ := ih (pre ++ [t]) _ _ w2 n b2 (by simpa using hs1.fr b3 (by omega)) (b3.out (by omega) a2) (fun t h => ha t (List.mem_cons_of_mem _ h)) (by omega)
    rw [q3] at e2 e4 e5
    refine ⟨w3, J', ?_, ?_, e3, fun i hi => ?_, fun i t' hi => ?_, ((a3.K (by simp)).tr (b3.K (by simp))).tr e6⟩
    · -- from the mark on
      have tail : ∀ y, y = bI (jm lev least greatest a b pre.length t) → ((ga_sz w 1 45 (nI pre.length) y).bind fun w34 => ((ga_gi w34 1 6 9).bind fun v35 => (if v35 = 0 then ((ga_gr w34 1 4 9).bind fun r37 => ((ga_az w34 1 r37 (nI pre.length)).bind fun v38 => (if v38 = 0 then ((ga_put w34 1 6 9 (.int (0 : Int32))).bind fun w40 => (f_V_merge_57 F 9 (nI a) (nI b) lev x4 least greatest K n (nI pre.length + (1 : Int32)) w40)) else ((ga_gr w34 1 0 9).bind fun r41 => (if ga_is w34 3 r41 = true then ga_c (f_S_spoiledBlocksOf F r41 (nI pre.length) w34) (ga_kI fun v43 w42 => (if v43 ≤ 0 then ((ga_put w42 1 6 9 (.int (0 : Int32))).bind fun w45 => (f_V_merge_57 F 9 (nI a) (nI b) lev x4 least greatest K n (nI pre.length + (1 : Int32)) w45)) else ((ga_put w42 1 6 9 (.int (1 : Int32))).bind fun w46 => (f_V_merge_57 F 9 (nI a) (nI b) lev x4 least greatest K n (nI pre.length + (1 : Int32)) w46)))) ga_up else none))))) else ((ga_put w34 1 6 9 (.int (1 : Int32))).bind fun w47 => (f_V_merge_57 F 9 (nI a) (nI b) lev x4 least greatest K n (nI pre.length + (1 : Int32)) w47))))) = K w3 := by
        intro y hy
        rw [hy]
        have f0 : bI false = 0 := rfl
        have f1 : bI true = 1 := rfl
        have n1 : ¬ (1 : Int32) = 0 := by decide
        simp only [↓bd a1, ↓bd (rV_st hv1)]
        rw [nI_1, q2]
        cases s with
        | true =>
          simp only [Bool.true_or, f1] at b1 ⊢
          simp only [↓iN n1, ↓bd b1]
          exact e1
        | false =>
          simp only [Bool.false_or, f0] at b1 ⊢
          simp only [↓ip rfl, ↓bd (rV_jo hv1), ↓bd hJ1]
          cases hjm : jm lev least greatest a b pre.length t with
          | false =>
            rw [hjm] at b1
            simp only [Bool.false_and, f0] at b1 ⊢
            simp only [if_true, ↓bd b1]
            exact e1
          | true =>
            rw [hjm] at b1
            simp only [Bool.true_and, f1] at b1 ⊢
            simp only [if_true, ↓iN n1, ↓bd (rV_sh hv1), ↓ip (rS_is hs1), ↓gcI (zS_spoiledBlocksOf hs1 hF)]
            by_cases hz : 0 < nsb t.2.2
            · have := nsb_le t.2.2
              have hz2 : ¬ nI (nsb t.2.2) ≤ 0 := nI_nle hz (by unfold nb at this; omega)
              simp only [hz, decide_true, f1] at b1
              simp only [↓iN hz2, ↓bd b1]
              exact e1
            · have hz0 : nsb t.2.2 = 0 := by omega
              have hz2 : nI (nsb t.2.2) ≤ 0 := by rw [hz0, nI_0]; exact Int32.le_refl _
              simp only [hz, decide_false, f0] at b1
              simp only [↓ip hz2, ↓bd b1]
              exact e1
      rw [f_V_merge_57]
      simp only [↓bd (rV_sh hv), ↓bd (rS_tables hs), ↓iN h1, ↓bd (rS_l hs), ↓bd (rS_lev hs hti), ↓jn]

      have n1 : ¬ (1 : Int32) = 0 := by decide
      have rest : ∀ m : Bool, m = (decide (t.2.1 = lev) && decide (lo t ≤ greatest ∧ least ≤ hi t)) → m = false → (nI pre.length < nI a ∨ nI b ≤ nI pre.length → (0 : Int32) = bI (jm lev least greatest a b pre.length t)) ∧ (¬ nI pre.length < nI a → ¬ nI b ≤ nI pre.length → (1 : Int32) = bI (jm lev least greatest a b pre.length t)) := by
        intro m hm hm0
        rw [hm] at hm0
        unfold jm
        rw [hm0, Bool.false_or]
        constructor
        · rintro (h | h)
          · have : ¬ a ≤ pre.length := fun h2 => nI_nlt h2 (by omega) h
            simp [this, bI]
          · have : ¬ pre.length < b := fun h2 => nI_ge h2 (by omega) h
            simp [this, bI]
        · intro h3 h4
          have h3 : a ≤ pre.length := Nat.not_lt.mp fun h => h3 (nI_lt h (by omega))
          have h4 : pre.length < b := Nat.not_le.mp fun h => h4 (nI_le h (by omega))
          simp [h3, h4, bI]
      by_cases c1 : t.2.1 = lev
      · simp only [↓ip c1, ↓ip (rS_is hs), ↓gcI (zS_meets hs ht)]
        by_cases c2 : lo t ≤ greatest ∧ least ≤ hi t
        · have hne : ¬ (if lo t ≤ greatest ∧ least ≤ hi t then (1 : Int32) else 0) = 0 := by rw [if_pos c2]; decide
          simp only [↓iN hne, ↓bd (rV_jo hv), ↓iN n1]
          exact tail 1 (by simp [jm, c1, c2, bI])
        · have hne : (if lo t ≤ greatest ∧ least ≤ hi t then (1 : Int32) else 0) = 0 := by rw [if_neg c2]
          obtain ⟨r0, r1⟩ := rest _ rfl (by simp [c2])
          simp only [↓ip hne, ↓bd (rV_jo hv), if_true]
          by_cases c3 : nI pre.length < nI a
          · simp only [↓ip c3]
            exact tail 0 (r0 (Or.inl c3))
          · by_cases c4 : nI b ≤ nI pre.length
            · simp only [↓iN c3, ↓ip c4]
              exact tail 0 (r0 (Or.inr c4))
            · simp only [↓iN c3, ↓iN c4]
              exact tail 1 (r1 c3 c4)
      · obtain ⟨r0, r1⟩ := rest _ rfl (by simp [c1])
        simp only [↓iN c1, ↓bd (rV_jo hv), if_true]
        by_cases c3 : nI pre.length < nI a
        · simp only [↓ip c3]
          exact tail 0 (r0 (Or.inl c3))
        · by_cases c4 : nI b ≤ nI pre.length
          · simp only [↓iN c3, ↓ip c4]
            exact tail 0 (r0 (Or.inr c4))
          · simp only [↓iN c3, ↓iN c4]
            exact tail 1 (r1 c3 c4)
    · simpa [anyS, Bool.or_assoc] using e2
    · rw [e4 i (by omega)]
      simp only [upd]
      rw [if_neg (by omega)]
    · cases i with
      | zero =>
        simp at hi
        subst hi
        rw [Nat.add_zero, e4 pre.length (by omega), hJ2]
      | succ i =>
        simp at hi
        have := e5 i t' hi
        rw [show pre.length + 1 + i = pre.length + (i + 1) by omega] at this
        exact this
/-! lengths -/
theorem stay_jrow (J : Nat → Int32) (ts : List Tab) : ∀ i, (fl (stay J i ts)).length + (jrow J i ts).length = (fl ts).length := by
  induction ts with
  | nil => intro i; simp [stay, jrow, fl_nil]
  | cons t ts ih =>
    intro i
    have := ih (i + 1)
    simp only [stay, jrow, fl_cons]
    split <;> simp only [fl_cons, List.length_append] <;> omega
theorem stay_app (J : Nat → Int32) (a b : List Tab) : ∀ i, stay J i (a ++ b) = stay J i a ++ stay J (i + a.length) b := by
  induction a with
  | nil => intro i; simp [stay]
  | cons t ts ih =>
    intro i
    simp only [List.cons_append, stay, ih, List.length_cons]
    have : i + 1 + ts.length = i + (ts.length + 1) := by omega
    rw [this]
    split <;> simp
theorem stay_ne {J : Nat → Int32} {ts : List Tab} (ha : ∀ t ∈ ts, t.2.2 ≠ []) : ∀ i, ∀ t ∈ stay J i ts, t.2.2 ≠ [] := by
  induction ts with
  | nil => intro i t ht; simp [stay] at ht
  | cons t ts ih =>
    intro i q hq
    simp only [stay] at hq
    split at hq
    · rcases List.mem_cons.mp hq with rfl | hq
      · exact ha _ List.mem_cons_self
      · exact ih (fun t h => ha t (List.mem_cons_of_mem _ h)) _ q hq
    · exact ih (fun t h => ha t (List.mem_cons_of_mem _ h)) _ q hq
theorem ne_le {ts : List Tab} (ha : ∀ t ∈ ts, t.2.2 ≠ []) : ts.length ≤ (fl ts).length := by
  induction ts with
  | nil => simp
  | cons t ts ih =>
    have h1 := ih (fun t h => ha t (List.mem_cons_of_mem _ h))
    have h2 : 0 < t.2.2.length := List.length_pos_iff.mpr (ha t List.mem_cons_self)
    simp only [fl_cons, List.length_append, List.length_cons]
    omega
theorem sp6_fl (lev : Int32) (rs : List Row) : ∀ md loose, fl (sp6 lev md loose rs) = loose ++ rs := by
  induction rs with
  | nil => intro md loose; simp only [sp6]; split <;> simp_all [fl_nil, fl_cons]
  | cons r rs ih =>
    intro md loose
    simp only [sp6]
    split
    · rw [fl_cons, ih]; simp
    · rw [ih]; simp
theorem sp6_ne (lev : Int32) (rs : List Row) : ∀ md loose, ∀ t ∈ sp6 lev md loose rs, t.2.2 ≠ [] := by
  induction rs with
  | nil =>
    intro md loose t ht
    simp only [sp6] at ht
    split at ht
    · simp at ht
    · simp at ht; subst ht; assumption
  | cons r rs ih =>
    intro md loose t ht
    simp only [sp6] at ht
    split at ht
    · rename_i hx
      rcases List.mem_cons.mp ht with rfl | ht
      · intro h0
        have h0 : loose = [] := h0
        rw [h0] at hx
        simp at hx
      · exact ih _ _ t ht
    · exact ih _ _ t ht
theorem pB_le (lev key : Int32) (ts : List Tab) : ∀ i, i ≤ pB lev key ts i ∧ pB lev key ts i ≤ i + ts.length := by
  induction ts with
  | nil => intro i; simp [pB]
  | cons t ts ih =>
    intro i
    have := ih (i + 1)
    simp only [pB, List.length_cons]
    split
    · omega
    · split
      · split <;> omega
      · omega
/-- the tables after a merge with the marks J -/
def mgd (J : Nat → Int32) (lev greatest old mk : Int32) (tabs : List Tab) : List Tab :=
  stay J 0 (tabs.take (pB lev greatest tabs 0)) ++ (sp6 lev mk [] (kp lev old tabs none (srt (jrow J 0 tabs))) ++ stay J (pB lev greatest tabs 0) (tabs.drop (pB lev greatest tabs 0)))
def mgk (J : Nat → Int32) (lev old : Int32) (tabs : List Tab) : List Row := kp lev old tabs none (srt (jrow J 0 tabs))
theorem jrow_mem {J : Nat → Int32} {ts : List Tab} : ∀ i, ∀ r ∈ jrow J i ts, r ∈ fl ts := by
  induction ts with
  | nil => intro i r hr; simp [jrow] at hr
  | cons t ts ih =>
    intro i r hr
    simp only [jrow] at hr
    rw [fl_cons]
    split at hr
    · exact List.mem_append_right _ (ih _ r hr)
    · rcases List.mem_append.mp hr with hr | hr
      · exact List.mem_append_left _ hr
      · exact List.mem_append_right _ (ih _ r hr)
set_option maxHeartbeats 2000000 in
theorem zV_merge {F : Nat} {w : ga_W} {A M B : List Tab} {mk dr p1 p2 lev old : Int32} {lv : Nat} (hF : 1000 < F) (h : isV w (A ++ (M ++ B)) 0 mk dr p1 p2) (ha : ∀ t ∈ A ++ (M ++ B), t.2.2 ≠ []) (hk : ∀ r ∈ fl (A ++ (M ++ B)), okK r) (hlev : lev = nI (lv + 1)) (hlv : lv < 3) :
    ∃ w', f_V_merge F 9 (nI A.length) (nI (A.length + M.length)) lev old w = some (.inl none, w') ∧ pu_F w w' 9 38 ∧
      (if anyS lev (mnL 64 M) (mxH (-1) M) A.length (A.length + M.length) 0 (A ++ (M ++ B)) then isV w' (A ++ (M ++ B)) 1 mk dr p1 p2 else
        ∃ J : Nat → Int32, (∀ i t, (A ++ (M ++ B))[i]? = some t → J i = bI (jm lev (mnL 64 M) (mxH (-1) M) A.length (A.length + M.length) i t)) ∧
          isV w' (mgd J lev (mxH (-1) M) old mk (A ++ (M ++ B))) 0 (mk + nI (sp6 lev mk [] (mgk J lev old (A ++ (M ++ B)))).length) (dr + nI ((jrow J 0 (A ++ (M ++ B))).length - (mgk J lev old (A ++ (M ++ B))).length)) (if lv = 1 then mxH (-1) M else p1) (if lv = 2 then mxH (-1) M else p2)) := by
  obtain ⟨sh, sp, hv, hs, ⟨T0, l0, ht⟩, ⟨xs0, P, O, ho⟩, ⟨ms, hme⟩, ⟨J0, hj⟩, ⟨Q, hq1, hq2, hq3⟩⟩ := h
  have hd := hv.d
  have hl2 := hs.2.1
  have hl3 := (rS_e hs).1
  simp only [List.length_append] at hl2 hl3
  generalize hleast : mnL 64 M = least
  generalize hgreat : mxH (-1) M = greatest
  generalize htabs : A ++ (M ++ B) = tabs at *
  have htl : tabs.length ≤ 240 := hs.2.1
  have hfl : (fl tabs).length ≤ 240 := by have := (rS_e hs).1; simpa using this
  have m1 := zV_m10 (F := F) (x1 := nI A.length) (x3 := lev) (x4 := old) (K := (fun (z1 : Int32) (z2 : Int32) (w3 : ga_W) => (f_V_merge_57 F 9 (nI A.length) (nI (A.length + M.length)) lev old z1 z2 (fun (w4 : ga_W) => ((ga_gi w4 1 6 9).bind fun v5 => (if v5 = 0 then (if ga_is w4 1 9 = true then ga_c (f_V_sortJoining F 9 w4) (ga_kV fun w7 => ((ga_gr w7 1 0 9).bind fun r8 => (if ga_is w7 3 r8 = true then ga_c (f_S_placeBehind F r8 lev z2 w7) (ga_kI fun v10 w9 => ((ga_gr w9 1 1 9).bind fun r11 => (if ga_is w9 3 r11 = true then ga_c (f_S_clear F r11 w9) (ga_kV fun w12 => (if ga_is w12 1 9 = true then ga_c (f_V_addStaying F 9 (0 : Int32) v10 w12) (ga_kV fun w13 => (if ga_is w13 1 9 = true then ga_c (f_V_addMerged F 9 lev old w13) (ga_kV fun w14 => ((ga_gr w14 1 0 9).bind fun r15 => ((ga_gi w14 3 4 r15).bind fun v16 => (if ga_is w14 1 9 = true then ga_c (f_V_addStaying F 9 v10 v16 w14) (ga_kV fun w17 => (if ga_is w17 1 9 = true then ga_c (f_V_changeShelf F 9 w17) (ga_kV fun w18 => ((ga_gr w18 1 5 9).bind fun r19 => ((ga_si w18 0 r19 (lev - (1 : Int32)) z2).bind fun w20 => (some (.inl none, w20))))) ga_up else none)) ga_up else none)))) ga_up else none)) ga_up else none)) ga_up else none))) ga_up else none))) ga_up else none) else (some (.inl none, w4))))) F (0 : Int32) w3))) hv M A F 64 (-1) (by rw [htabs]; exact hs) (fun t h => ha t (by rw [← htabs]; simp [h])) (by omega)
  rw [hleast, hgreat] at m1
  obtain ⟨w1, J, e1, e2, e3, -, e5, e6⟩ := zV_m57 (F := F) (sh := sh) (sp := sp) (mk := mk) (dr := dr) (x4 := old) (lev := lev) (least := least) (greatest := greatest) (a := A.length) (b := A.length + M.length) (K := (fun (w4 : ga_W) => ((ga_gi w4 1 6 9).bind fun v5 => (if v5 = 0 then (if ga_is w4 1 9 = true then ga_c (f_V_sortJoining F 9 w4) (ga_kV fun w7 => ((ga_gr w7 1 0 9).bind fun r8 => (if ga_is w7 3 r8 = true then ga_c (f_S_placeBehind F r8 lev greatest w7) (ga_kI fun v10 w9 => ((ga_gr w9 1 1 9).bind fun r11 => (if ga_is w9 3 r11 = true then ga_c (f_S_clear F r11 w9) (ga_kV fun w12 => (if ga_is w12 1 9 = true then ga_c (f_V_addStaying F 9 (0 : Int32) v10 w12) (ga_kV fun w13 => (if ga_is w13 1 9 = true then ga_c (f_V_addMerged F 9 lev old w13) (ga_kV fun w14 => ((ga_gr w14 1 0 9).bind fun r15 => ((ga_gi w14 3 4 r15).bind fun v16 => (if ga_is w14 1 9 = true then ga_c (f_V_addStaying F 9 v10 v16 w14) (ga_kV fun w17 => (if ga_is w17 1 9 = true then ga_c (f_V_changeShelf F 9 w17) (ga_kV fun w18 => ((ga_gr w18 1 5 9).bind fun r19 => ((ga_si w18 0 r19 (lev - (1 : Int32)) greatest).bind fun w20 => (some (.inl none, w20))))) ga_up else none)) ga_up else none)))) ga_up else none)) ga_up else none)) ga_up else none))) ga_up else none))) ga_up else none) else (some (.inl none, w4)))))) hF (by omega) tabs [] J0 false w F hv (by simpa using hs) hj ha (by omega)
  simp only [List.length_nil, nI_0, Bool.false_or, Nat.zero_add] at e1 e2 e5
  have hs1 := hs.frK e6 (by simp; omega)
  have ht1 := ht.frK e6 (by simp; omega)
  have ho1 : isO w1 xs0 P O := ⟨e6.out (by simp) ho.1, ho.2.1.frK e6 (by simp), e6.out (by simp) ho.2.2.1, e6.out (by simp) ho.2.2.2⟩
  have hme1 := hme.frK e6 (by simp)
  have hq1' := e6.out (by simp) hq1
  unfold f_V_merge
  cases hany : anyS lev least greatest A.length (A.length + M.length) 0 tabs with
  | true =>
    rw [hany] at e2
    have n1 : ¬ bI true = 0 := by decide
    refine ⟨w1, ?_, e6.F (by simp), ?_⟩
    · rw [m1]
      show f_V_merge_57 F 9 (nI A.length) (nI (A.length + M.length)) lev old least greatest _ F 0 w = _
      rw [e1]
      simp only [↓bd (rV_st e2), ↓iN n1]
    · simp only [if_true]
      exact ⟨sh, sp, e2, hs1, ⟨T0, l0, ht1⟩, ⟨xs0, P, O, ho1⟩, ⟨ms, hme1⟩, ⟨J, e3⟩, ⟨Q, hq1', hq2, hq3⟩⟩
  | false =>
    rw [hany] at e2
    have f0 : bI false = 0 := rfl
    rw [f0] at e2
    have hp := pB_le lev greatest tabs 0
    generalize hpB : pB lev greatest tabs 0 = p at hp
    obtain ⟨w2, ys, P2, O2, b1, b2, b3, b4⟩ := zV_sortJoining (F := F) hF e2 hs1 ho1 hme1 e3 hk
    have hv2 := e2.fr b4 (by omega)
    have hs2 := hs1.fr b4 (by omega)
    have ht2 := ht1.fr b4 (by omega)
    have hj2 := b4.out (by omega) e3
    have hpl := zS_placeBehind (F := F) (lev := lev) (key := greatest) hs2 ha hF
    rw [hpB] at hpl
    obtain ⟨w3, c1, c2, c3⟩ := zS_clear (F := F) ht2
    have hv3 := hv2.fr c3 (by omega)
    have hs3 := hs2.fr c3 (by omega)
    have hj3 := c3.out (by omega) hj2
    have hme3 := b3.fr c3 (by omega)
    -- lengths
    have hstay := stay_app J (tabs.take p) (tabs.drop p) 0
    rw [List.take_append_drop] at hstay
    have htk : (tabs.take p).length = p := by simp; omega
    rw [htk, Nat.zero_add] at hstay
    have hsj := stay_jrow J tabs 0
    rw [hstay, fl_app, List.length_append] at hsj
    have hne := stay_ne (J := J) ha 0
    rw [hstay] at hne
    have hne1 : ∀ t ∈ stay J 0 (tabs.take p), t.2.2 ≠ [] := fun t h => hne t (List.mem_append_left _ h)
    have hne2 : ∀ t ∈ stay J p (tabs.drop p), t.2.2 ≠ [] := fun t h => hne t (List.mem_append_right _ h)
    have hle1 := ne_le hne1
    have hle2 := ne_le hne2
    have hsl : (srt (jrow J 0 tabs)).length = (jrow J 0 tabs).length := srt_len _ (fun r hr => hk r (jrow_mem 0 r hr))
    have hkp := kp_le lev old tabs (srt (jrow J 0 tabs)) none
    -- the first that stay
    obtain ⟨w4, d1, d2, d3⟩ := zV_addStaying (F := F) (pre := []) (mid := tabs.take p) (post := tabs.drop p) (T := []) (l2 := []) hF hv3 (by simpa using hs3) c2 hj3 (by simp only [List.length_nil, fl_nil]; omega) (by simp only [List.length_nil]; omega)
    simp only [List.length_nil, Nat.zero_add, htk, nI_0, List.nil_append] at d1 d2
    have hv4 := hv3.fr d3 (by omega)
    have hs4 := hs3.fr d3 (by omega)
    have hj4 := d3.out (by omega) hj3
    have hme4 := hme3.fr d3 (by omega)
    -- the merged
    obtain ⟨w5, g1, g2, g3, g4⟩ := zV_addMerged (F := F) (lev := lev) (old := old) hF ha hv4 hs4 d2 hme4 (by omega) (by omega)
    have hs5 := hs4.frK g4 (by simp; omega)
    have hj5 := g4.out (by simp; omega) hj4
    have hne3 := sp6_ne lev (kp lev old tabs none (srt (jrow J 0 tabs))) mk []
    have hle3 := ne_le hne3
    have hfl3 : (fl (sp6 lev mk [] (kp lev old tabs none (srt (jrow J 0 tabs))))).length = (kp lev old tabs none (srt (jrow J 0 tabs))).length := by rw [sp6_fl]; simp
    -- the last that stay
    obtain ⟨w6, i1, i2, i3⟩ := zV_addStaying (F := F) (pre := tabs.take p) (mid := tabs.drop p) (post := []) (l2 := []) hF g2 (by simpa using hs5) g3 hj5 (by rw [htk, fl_app, List.length_append]; omega) (by rw [htk, List.length_append]; omega)
    rw [htk, show p + (tabs.drop p).length = tabs.length by simp; omega] at i1
    rw [htk] at i2
    have hv6 := g2.fr i3 (by omega)
    have hs6 := hs5.fr i3 (by omega)
    obtain ⟨w7, k1, k2, k3⟩ := zV_change (F := F) hv6
    have hfar : ∀ a, 30 ≤ a → w7.1[a]? = w2.1[a]? := fun a ha => (k3.2.2 a (by omega)).trans ((i3.2.2 a (by omega)).trans ((g4.2.2 a (by simp; omega)).trans ((d3.2.2 a (by omega)).trans (c3.2.2 a (by omega)))))
    have hq7 := (hfar 46 (by omega)).trans (b4.out (by omega) hq1')
    obtain ⟨w8, l1, l2', l3⟩ := zA_st (i := lv) (x := greatest) hq7 (by omega) (by omega)
    have hlv1 : lev - 1 = nI lv := by rw [hlev, nI_s1 (by omega)]; congr 1
    have hfar8 : ∀ a, 30 ≤ a → a ≠ 46 → w8.1[a]? = w2.1[a]? := fun a h1 h2 => (l3.2.2 a (by omega)).trans (hfar a h1)
    refine ⟨w8, ?_, ?_, ?_⟩
    · rw [m1]
      show f_V_merge_57 F 9 (nI A.length) (nI (A.length + M.length)) lev old least greatest _ F 0 w = _
      rw [e1]
      simp only [↓bd (rV_st e2), if_true, ↓ip (rV_is e2), ↓gcV b1, ↓bd (rV_sh hv2), ↓ip (rS_is hs2), ↓gcI hpl, ↓bd (rV_sp hv2), ↓ip (rS_is ht2), ↓gcV c1, ↓ip (rV_is hv3), ↓gcV d1, ↓ip (rV_is hv4), ↓gcV g1, ↓bd (rV_sh g2), ↓bd (rS_tables hs5), ↓ip (rV_is g2), ↓gcV i1, ↓ip (rV_is hv6), ↓gcV k1, ↓bd (rV_po k2)]
      rw [hlv1]
      simp only [↓bd l1]
    · exact (((((((e6.F (by simp)).tr (b4.mono (by omega) (by omega))).tr (c3.mono (by omega) (by omega))).tr (d3.mono (by omega) (by omega))).tr (g4.F (by simp; omega))).tr (i3.mono (by omega) (by omega))).tr (k3.mono (by omega) (by omega))).tr (l3.mono (by omega) (by omega))
    · simp only [Bool.false_eq_true, if_false]
      refine ⟨J, fun i t hi => by simpa using e5 i t hi, sp, sh, ?_, ?_, ⟨_, _, (hs6.fr k3 (by omega)).fr l3 (by omega)⟩, ⟨ys, P2, O2, ?_⟩, ⟨srt (jrow J 0 tabs), b3.kept (fun a h1 h2 => hfar8 a (by omega) (by omega))⟩, ⟨J, (hfar8 45 (by omega) (by omega)).trans (b4.out (by omega) e3)⟩, ⟨upd Q lv greatest, l2', ?_, ?_⟩⟩
      · have := k2.fr l3 (by omega)
        unfold mgk
        rwa [hsl] at this
      · unfold mgd
        rw [hpB]
        have := (i2.fr k3 (by omega)).fr l3 (by omega)
        simpa using this
      · exact ⟨(hfar8 30 (by omega) (by omega)).trans b2.1, b2.2.1.kept (fun a h1 h2 => hfar8 a (by omega) (by omega)), (hfar8 37 (by omega) (by omega)).trans b2.2.2.1, (hfar8 38 (by omega) (by omega)).trans b2.2.2.2⟩
      · simp only [upd]
        split <;> split <;> first | rfl | omega | exact hq2
      · simp only [upd]
        split <;> split <;> first | rfl | omega | exact hq3
