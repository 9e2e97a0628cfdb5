/-! PURE, 32: the reference looks: memory, filters, blocks -/
variable {F : Nat} {w w' w2 : ga_W} {sc sc' : Nat → Int32} {thr : Int32} {lv : LV} {mem : List Row} {recs : List Nat} {syn : Nat} {bt : Option (List Row)} {sn : Nat → Int32} {lt : Nat} {rd ms gt : Int32}
theorem zR_upTo {x : Int32} (h : isRh w sc) (h25 : sc 25 = nI lt) (h5 : isN w 71 sn) (hx : -1 ≤ x ∧ x ≤ 3) : f_R_upTo F 54 x w = some (.inl (some (.int (seen sn lt x))), w) := by
  unfold f_R_upTo seen
  by_cases h0 : 0 ≤ x
  · obtain ⟨i, hi, rfl⟩ := in4 ⟨h0, hx.2⟩
    rw [if_pos h0, if_pos h0]
    simp only [↓bd (rRr h 23 71 rfl), ↓bd (rN h5 hi)]
    rw [nI_clamp (by omega)]
  · rw [if_neg h0, if_neg h0]
    simp only [↓bd (rR h 25 rfl), h25]
def fdM (xs : List Row) (old v : Int32) (o : Option Row) : Prop := match o with
  | none => v = old
  | some r => ∃ e, v = nI (1000 + e) ∧ xs[e]? = some r
theorem zR_lim {key up : Int32} (todo : List Row) : ∀ (done : List Row) (sc : Nat → Int32) (w : ga_W) (n : Nat), isRh w sc → isRM w sc (done ++ todo) → todo.length < n →
    ∃ w1 sc1, f_R_lookInMemory_2 F 54 key up n (nI done.length) w = some (.inl none, w1) ∧ isRh w1 sc1 ∧ fdM (done ++ todo) (sc 38) (sc1 38) (todo.reverse.find? (pk key up)) ∧ scF sc sc1 [38] ∧ pu_F w w1 54 1 := by
  induction todo with
  | nil =>
    intro done sc w n h hm hn
    obtain ⟨n, rfl⟩ : ∃ k, n = k + 1 := ⟨n - 1, by simp at hn; omega⟩
    simp only [List.append_nil] at hm
    have hle : sc 15 ≤ nI done.length := by rw [hm.2.1]; exact Int32.le_refl _
    refine ⟨w, sc, ?_, h, rfl, scF.rf, pu_F.rf⟩
    rw [f_R_lookInMemory_2]
    simp only [↓bd (rR h 15 rfl), ↓ip hle]
  | cons r todo ih =>
    intro done sc w n h hm hn
    obtain ⟨n, rfl⟩ : ∃ k, n = k + 1 := ⟨n - 1, by simp at hn; omega⟩
    simp only [List.length_cons] at hn
    have hml := hm.2.2
    have h15 := hm.2.1
    simp only [List.length_append, List.length_cons] at hml h15
    have hle : ¬ sc 15 ≤ nI done.length := by rw [h15]; exact nI_ge (by omega) (by omega)
    obtain ⟨r1, r2, r3, r4, r5⟩ := rMem hm (show (done ++ r :: todo)[done.length]? = some r by simp)
    have hfd : (r :: todo).reverse.find? (pk key up) = (todo.reverse.find? (pk key up)).or (if pk key up r then some r else none) := by
      rw [List.reverse_cons, List.find?_append]
      congr 1
      simp only [List.find?_cons, List.find?_nil]
      cases pk key up r <;> rfl
    have hno : ¬ pk key up r = true → ∃ w1 sc1, f_R_lookInMemory_2 F 54 key up n (nI done.length + 1) w = some (.inl none, w1) ∧ isRh w1 sc1 ∧ fdM (done ++ r :: todo) (sc 38) (sc1 38) ((r :: todo).reverse.find? (pk key up)) ∧ scF sc sc1 [38] ∧ pu_F w w1 54 1 := by
      intro hp
      obtain ⟨w1, s1, a1, a2, a3, a4, a5⟩ := ih (done ++ [r]) sc w n h (by simpa using hm) (by omega)
      simp only [List.length_append, List.length_cons, List.length_nil, Nat.zero_add, List.append_assoc, List.cons_append, List.nil_append] at a1 a3
      refine ⟨w1, s1, by rw [nI_1]; exact a1, a2, ?_, a4, a5⟩
      rw [hfd, if_neg hp, Option.or_none]
      exact a3
    rw [f_R_lookInMemory_2]
    simp only [↓bd (rR h 15 rfl), ↓iN hle, ↓bd (rRr h 11 63 rfl), ↓bd r1]
    by_cases hk : r.1 = key
    · simp only [↓ip hk, ↓bd (rRr h 12 64 rfl), ↓bd r2]
      by_cases hu : up < r.2.1
      · simp only [↓ip hu]
        exact hno (by simp [pk, hu])
      · simp only [↓iN hu]
        have hp : pk key up r = true := by simp [pk, hk, hu]
        obtain ⟨w3, c1, c2, c3⟩ := zR h 38 (1000 + nI done.length) (by omega) rfl
        obtain ⟨w1, s1, a1, a2, a3, a4, a5⟩ := ih (done ++ [r]) _ w3 n c2 (by simpa using hm.fr (sc' := pu_up sc 38 (1000 + nI done.length)) c3 (by omega) rfl) (by omega)
        simp only [List.length_append, List.length_cons, List.length_nil, Nat.zero_add, List.append_assoc, List.cons_append, List.nil_append] at a1 a3
        simp only [↓bd c1]
        refine ⟨w1, s1, by rw [nI_1]; exact a1, a2, ?_, (scF.up (by simp)).tr a4, c3.tr a5⟩
        rw [hfd, if_pos hp]
        cases ho : todo.reverse.find? (pk key up) with
        | none =>
          rw [ho] at a3
          have a3 : s1 38 = 1000 + nI done.length := a3
          have : (1000 : Int32) = nI 1000 := by decide
          exact ⟨done.length, by rw [a3, this, nI_add], by simp⟩
        | some q =>
          rw [ho] at a3
          exact a3
    · simp only [↓iN hk]
      exact hno (by simp [pk, hk])
theorem zR_first {k : Int32} : f_R_first F k w = some (.inl (some (.int (m1 k))), w) := rfl
theorem zR_second {k : Int32} : f_R_second F k w = some (.inl (some (.int (m2 k))), w) := rfl
theorem has_cons (m : Int32) (r : Row) (rs : List Row) : has m (r :: rs) = ((decide (m1 r.1 = m) || decide (m2 r.1 = m)) || has m rs) := by simp [has]
theorem zR_passes_loop {pre post : List Tab} {t : Tab} {key : Int32} (h : isRt w sc (pre ++ t :: post)) (todo : List Row) : ∀ (done : List Row) (n : Nat) (a b : Bool), t.2.2 = done ++ todo → todo.length < n → f_R_passes_16 F 54 (nI pre.length) key (nI (fl pre).length) n (bI a) (bI b) (nI ((fl pre).length + done.length)) w = some (.inl (some (.int (bI ((a || has (m1 key) todo) && (b || has (m2 key) todo))))), w) := by
  have hrl := rR_len h
  have hsz := (rT_at h (show (pre ++ t :: post)[pre.length]? = some t by simp)).2.2.1
  induction todo with
  | nil =>
    intro done n a b ht hn
    obtain ⟨n, rfl⟩ : ∃ k, n = k + 1 := ⟨n - 1, by simp at hn; omega⟩
    have hle : nI (fl pre).length + nI t.2.2.length ≤ nI ((fl pre).length + done.length) := by rw [nI_add, ht]; simp
    have b0 : ∀ c : Bool, (bI c = 0) ↔ c = false := fun c => by cases c <;> decide
    rw [f_R_passes_16]
    simp only [↓bd (rRr h.1 8 61 rfl), ↓bd hsz, ↓ip hle]
    cases a
    · simp [bI, has]
    · cases b
      · simp [bI, has]
      · simp [bI]
  | cons r todo ih =>
    intro done n a b ht hn
    obtain ⟨n, rfl⟩ : ∃ k, n = k + 1 := ⟨n - 1, by simp at hn; omega⟩
    simp only [List.length_cons] at hn
    have htl : t.2.2.length = done.length + (todo.length + 1) := by rw [ht]; simp
    have hle : ¬ nI (fl pre).length + nI t.2.2.length ≤ nI ((fl pre).length + done.length) := by rw [nI_add]; exact nI_ge (by omega) (by omega)
    have hat : (fl (pre ++ t :: post))[(fl pre).length + done.length]? = some r := by rw [fl3]; exact at3 (by rw [ht]; simp)
    have hk := (rRow h hat).1
    have e1 := fun a b => ih (done ++ [r]) n a b (by rw [ht]; simp) (by omega)
    simp only [List.length_append, List.length_cons, List.length_nil, Nat.zero_add] at e1
    have e1t : ∀ b, f_R_passes_16 F 54 (nI pre.length) key (nI (fl pre).length) n 1 b (nI ((fl pre).length + (done.length + 1))) w = f_R_passes_16 F 54 (nI pre.length) key (nI (fl pre).length) n (bI true) b (nI ((fl pre).length + (done.length + 1))) w := fun _ => rfl
    have e2t : ∀ a, f_R_passes_16 F 54 (nI pre.length) key (nI (fl pre).length) n a 1 (nI ((fl pre).length + (done.length + 1))) w = f_R_passes_16 F 54 (nI pre.length) key (nI (fl pre).length) n a (bI true) (nI ((fl pre).length + (done.length + 1))) w := fun _ => rfl
    rw [f_R_passes_16]
    simp only [↓bd (rRr h.1 8 61 rfl), ↓bd hsz, ↓iN hle, ↓bd (rRr h.1 1 55 rfl), ↓bd hk, ↓gcI zR_first, ↓gcI zR_second, ↓jn]
    rw [has_cons, has_cons]
    generalize hA : decide (m1 r.1 = m1 key) = A
    generalize hB : decide (m2 r.1 = m1 key) = B
    generalize hC : decide (m1 r.1 = m2 key) = C
    generalize hD : decide (m2 r.1 = m2 key) = D
    by_cases p1 : m1 r.1 = m1 key
    · simp only [↓ip p1, ↓gcI zR_second]
      by_cases p2 : m1 r.1 = m2 key
      · simp only [↓ip p2]
        rw [nI_1, Nat.add_assoc, e2t, e1t, e1]
        try rw [decide_eq_true p1] at hA
        try rw [decide_eq_false p1] at hA
        try rw [decide_eq_true p4] at hB
        try rw [decide_eq_false p4] at hB
        try rw [decide_eq_true p2] at hC
        try rw [decide_eq_false p2] at hC
        try rw [decide_eq_true p3] at hD
        try rw [decide_eq_false p3] at hD
        try subst hA
        try subst hB
        try subst hC
        try subst hD
        simp
      · simp only [↓iN p2, ↓gcI zR_second]
        by_cases p3 : m2 r.1 = m2 key
        · simp only [↓ip p3]
          rw [nI_1, Nat.add_assoc, e2t, e1t, e1]
          try rw [decide_eq_true p1] at hA
          try rw [decide_eq_false p1] at hA
          try rw [decide_eq_true p4] at hB
          try rw [decide_eq_false p4] at hB
          try rw [decide_eq_true p2] at hC
          try rw [decide_eq_false p2] at hC
          try rw [decide_eq_true p3] at hD
          try rw [decide_eq_false p3] at hD
          try subst hA
          try subst hB
          try subst hC
          try subst hD
          simp
        · simp only [↓iN p3]
          rw [nI_1, Nat.add_assoc, e1t, e1]
          try rw [decide_eq_true p1] at hA
          try rw [decide_eq_false p1] at hA
          try rw [decide_eq_true p4] at hB
          try rw [decide_eq_false p4] at hB
          try rw [decide_eq_true p2] at hC
          try rw [decide_eq_false p2] at hC
          try rw [decide_eq_true p3] at hD
          try rw [decide_eq_false p3] at hD
          try subst hA
          try subst hB
          try subst hC
          try subst hD
          simp
    · simp only [↓iN p1, ↓gcI zR_first]
      by_cases p4 : m2 r.1 = m1 key
      · simp only [↓ip p4, ↓gcI zR_second]
        by_cases p2 : m1 r.1 = m2 key
        · simp only [↓ip p2]
          rw [nI_1, Nat.add_assoc, e2t, e1t, e1]
          try rw [decide_eq_true p1] at hA
          try rw [decide_eq_false p1] at hA
          try rw [decide_eq_true p4] at hB
          try rw [decide_eq_false p4] at hB
          try rw [decide_eq_true p2] at hC
          try rw [decide_eq_false p2] at hC
          try rw [decide_eq_true p3] at hD
          try rw [decide_eq_false p3] at hD
          try subst hA
          try subst hB
          try subst hC
          try subst hD
          simp
        · simp only [↓iN p2, ↓gcI zR_second]
          by_cases p3 : m2 r.1 = m2 key
          · simp only [↓ip p3]
            rw [nI_1, Nat.add_assoc, e2t, e1t, e1]
            try rw [decide_eq_true p1] at hA
            try rw [decide_eq_false p1] at hA
            try rw [decide_eq_true p4] at hB
            try rw [decide_eq_false p4] at hB
            try rw [decide_eq_true p2] at hC
            try rw [decide_eq_false p2] at hC
            try rw [decide_eq_true p3] at hD
            try rw [decide_eq_false p3] at hD
            try subst hA
            try subst hB
            try subst hC
            try subst hD
            simp
          · simp only [↓iN p3]
            rw [nI_1, Nat.add_assoc, e1t, e1]
            try rw [decide_eq_true p1] at hA
            try rw [decide_eq_false p1] at hA
            try rw [decide_eq_true p4] at hB
            try rw [decide_eq_false p4] at hB
            try rw [decide_eq_true p2] at hC
            try rw [decide_eq_false p2] at hC
            try rw [decide_eq_true p3] at hD
            try rw [decide_eq_false p3] at hD
            try subst hA
            try subst hB
            try subst hC
            try subst hD
            simp
      · simp only [↓iN p4, ↓gcI zR_second]
        by_cases p2 : m1 r.1 = m2 key
        · simp only [↓ip p2]
          rw [nI_1, Nat.add_assoc, e2t, e1]
          try rw [decide_eq_true p1] at hA
          try rw [decide_eq_false p1] at hA
          try rw [decide_eq_true p4] at hB
          try rw [decide_eq_false p4] at hB
          try rw [decide_eq_true p2] at hC
          try rw [decide_eq_false p2] at hC
          try rw [decide_eq_true p3] at hD
          try rw [decide_eq_false p3] at hD
          try subst hA
          try subst hB
          try subst hC
          try subst hD
          simp
        · simp only [↓iN p2, ↓gcI zR_second]
          by_cases p3 : m2 r.1 = m2 key
          · simp only [↓ip p3]
            rw [nI_1, Nat.add_assoc, e2t, e1]
            try rw [decide_eq_true p1] at hA
            try rw [decide_eq_false p1] at hA
            try rw [decide_eq_true p4] at hB
            try rw [decide_eq_false p4] at hB
            try rw [decide_eq_true p2] at hC
            try rw [decide_eq_false p2] at hC
            try rw [decide_eq_true p3] at hD
            try rw [decide_eq_false p3] at hD
            try subst hA
            try subst hB
            try subst hC
            try subst hD
            simp
          · simp only [↓iN p3]
            rw [nI_1, Nat.add_assoc, e1]
            try rw [decide_eq_true p1] at hA
            try rw [decide_eq_false p1] at hA
            try rw [decide_eq_true p4] at hB
            try rw [decide_eq_false p4] at hB
            try rw [decide_eq_true p2] at hC
            try rw [decide_eq_false p2] at hC
            try rw [decide_eq_true p3] at hD
            try rw [decide_eq_false p3] at hD
            try subst hA
            try subst hB
            try subst hC
            try subst hD
            simp
theorem zR_passes {pre post : List Tab} {t : Tab} {key : Int32} (hF : 1000 < F) (h : isRt w sc (pre ++ t :: post)) : f_R_passes F 54 (nI pre.length) key w = some (.inl (some (.int (bI (pas key t.2.2)))), w) := by
  have hrl := rR_len h
  have := zR_passes_loop (F := F) (key := key) h t.2.2 [] F false false (by simp) (by omega)
  simp only [List.length_nil, Nat.add_zero, Bool.false_or] at this
  unfold f_R_passes
  simp only [↓ip (rR_is h.1), ↓gcI (zR_start' hF h)]
  exact this
/-- the reference's road over the blocks of a table -/
def rbk (key up : Int32) : Nat → List Row → Nat × Option (Option Row)
  | 0, _ => (0, some none)
  | _ + 1, [] => (0, some none)
  | n + 1, r :: rs => if (((r :: rs).take 4).getLastD zr).1 < key then rbk key up n ((r :: rs).drop 4) else if r.2.2.2.2 = 0 then (match ((r :: rs).take 4).find? (pk key up) with
      | some q => (1, some (some q))
      | none => if (((r :: rs).take 4).getLastD zr).1 ≤ key then ((rbk key up n ((r :: rs).drop 4)).1 + 1, (rbk key up n ((r :: rs).drop 4)).2) else (1, some none)) else (1, none)
def rbV (xs : List Row) (v : Int32) (o : Option (Option Row)) : Prop := match o with
  | none => v = -2
  | some none => v = -1
  | some (some q) => ∃ e, v = nI e ∧ xs[e]? = some q
theorem zR_rb103 {tabs : List Tab} {key up x1 x4 x5 x6 : Int32} (h : isRt w sc tabs) (mid : List Row) : ∀ (pre post : List Row) (n : Nat), fl tabs = pre ++ (mid ++ post) → mid ≠ [] → mid.length < n → ∃ o : Option Int32, (∀ K, f_R_readBlocks_103 F 54 x1 key up x4 x5 x6 (nI (pre.length + mid.length - 1)) K n (nI pre.length) w = (match o with | some v => some (.inl (some (.int v)), w) | none => K w)) ∧ (match mid.find? (pk key up) with | some q => ∃ e, o = some (nI e) ∧ (fl tabs)[e]? = some q | none => o = none) := by
  have hl := h.2.2.2.1
  induction mid with
  | nil => intro pre post n hf hne hn; exact absurd rfl hne
  | cons r mid ih =>
    intro pre post n hf hne hn
    obtain ⟨n, rfl⟩ : ∃ k, n = k + 1 := ⟨n - 1, by simp at hn; omega⟩
    simp only [List.length_cons] at hn
    have hlen : (fl tabs).length = pre.length + (mid.length + 1 + post.length) := by rw [hf]; simp; omega
    have hat : (fl tabs)[pre.length]? = some r := by rw [hf]; simp
    obtain ⟨r1, r2, -, -⟩ := rRow h hat
    have hnl : ¬ nI (pre.length + (mid.length + 1) - 1) < nI pre.length := nI_nlt (by omega) (by omega)
    have hnext : ∃ o : Option Int32, (∀ K, f_R_readBlocks_103 F 54 x1 key up x4 x5 x6 (nI (pre.length + (mid.length + 1) - 1)) K n (nI pre.length + 1) w = (match o with | some v => some (.inl (some (.int v)), w) | none => K w)) ∧ (match mid.find? (pk key up) with | some q => ∃ e, o = some (nI e) ∧ (fl tabs)[e]? = some q | none => o = none) := by
      cases mid with
      | nil =>
        refine ⟨none, fun K => ?_, rfl⟩
        obtain ⟨n, rfl⟩ : ∃ k, n = k + 1 := ⟨n - 1, by simp at hn; omega⟩
        have hlt : nI (pre.length + (([] : List Row).length + 1) - 1) < nI pre.length + 1 := by rw [nI_1]; exact nI_lt (by simp) (by omega)
        rw [f_R_readBlocks_103]
        simp only [↓ip hlt]
      | cons q mid =>
        obtain ⟨o, a1, a2⟩ := ih (pre ++ [r]) post n (by rw [hf]; simp) (by simp) (by omega)
        refine ⟨o, fun K => ?_, a2⟩
        have := a1 K
        simp only [List.length_append, List.length_cons, List.length_nil, Nat.zero_add] at this
        rw [nI_1]
        simp only [List.length_cons]
        rw [show pre.length + (mid.length + 1 + 1) - 1 = pre.length + 1 + (mid.length + 1) - 1 by omega]
        exact this
    simp only [List.length_cons]
    by_cases hp : pk key up r = true
    · refine ⟨some (nI pre.length), fun K => ?_, ?_⟩
      · have hk : r.1 = key := by simp [pk] at hp; exact hp.1
        have hu : ¬ up < r.2.1 := by simp [pk] at hp; exact Int32.not_lt.mpr hp.2
        rw [f_R_readBlocks_103]
        simp only [↓iN hnl, ↓bd (rRr h.1 1 55 rfl), ↓bd r1, ↓ip hk, ↓bd (rRr h.1 2 56 rfl), ↓bd r2, ↓iN hu]
      · rw [List.find?_cons, hp]
        exact ⟨pre.length, rfl, hat⟩
    · obtain ⟨o, a1, a2⟩ := hnext
      refine ⟨o, fun K => ?_, ?_⟩
      · rw [f_R_readBlocks_103]
        simp only [↓iN hnl, ↓bd (rRr h.1 1 55 rfl), ↓bd r1]
        by_cases hk : r.1 = key
        · simp only [↓ip hk, ↓bd (rRr h.1 2 56 rfl), ↓bd r2]
          have hu : up < r.2.1 := Classical.byContradiction fun h9 => hp (by simp [pk, hk, h9])
          simp only [↓ip hu]
          exact a1 K
        · simp only [↓iN hk]
          exact a1 K
      · have hp' : pk key up r = false := by simpa using hp
        rw [List.find?_cons, hp']
        exact a2
