/-! PURE, 40: lists: looking; spoiling, losing, flushing -/
theorem rbk_blk {key up : Int32} : ∀ (n m : Nat) (rows : List Row), (∀ r ∈ rows, key ≤ r.1) → rows.length ≤ n → rows.length ≤ m → rbk key up n rows = blk key up m rows := by
  intro n
  induction n with
  | zero =>
    intro m rows _ hn _
    have : rows = [] := List.length_eq_zero_iff.mp (by omega)
    subst this
    cases m <;> rfl
  | succ n ih =>
    intro m rows hk hn hm
    cases rows with
    | nil => cases m <;> rfl
    | cons r rs =>
      simp only [List.length_cons] at hn hm
      obtain ⟨m, rfl⟩ : ∃ k, m = k + 1 := ⟨m - 1, by omega⟩
      have hla : ((r :: rs).take 4).getLastD zr ∈ r :: rs := List.mem_of_mem_take (List.mem_of_getElem? (lastAt (by simp)))
      have hlt : ¬ (((r :: rs).take 4).getLastD zr).1 < key := Int32.not_lt.mpr (hk _ hla)
      have h1 := ih m ((r :: rs).drop 4) (fun q hq => hk q (List.mem_of_mem_drop hq)) (by simp; omega) (by simp; omega)
      simp only [rbk, blk]
      rw [if_neg hlt, h1]
      by_cases hz : r.2.2.2.2 = 0
      · simp only [if_pos hz]
        cases hf : ((r :: rs).take 4).find? (pk key up) <;> rfl
      · simp only [if_neg hz]
theorem take_le {key : Int32} (rows : List Row) : rows.Pairwise (fun r q => r.1 ≤ q.1) → ∀ j r, rows[j]? = some r → key ≤ r.1 → (rows.takeWhile (fun q => decide (q.1 < key))).length ≤ j := by
  induction rows with
  | nil => intro _ j r h; simp at h
  | cons q rows ih =>
    intro hp j r hj hk
    rw [List.pairwise_cons] at hp
    by_cases hq : q.1 < key
    · simp only [List.takeWhile_cons, hq, decide_true, if_true, List.length_cons]
      cases j with
      | zero =>
        simp at hj
        rw [hj] at hq
        simp only [i_le, i_lt] at *; omega
      | succ j =>
        have := ih hp.2 j r (by simpa using hj) hk
        omega
    · simp only [List.takeWhile_cons, hq, decide_false, Bool.false_eq_true, if_false, List.length_nil, Nat.zero_le]
theorem take_ge {key : Int32} (rows : List Row) : ∀ n, (∀ j r, rows[j]? = some r → j < n → r.1 < key) → n ≤ rows.length → (rows.takeWhile (fun q => decide (q.1 < key))).length = n + ((rows.drop n).takeWhile (fun q => decide (q.1 < key))).length := by
  induction rows with
  | nil => intro n _ hn; simp at hn; subst hn; simp
  | cons q rows ih =>
    intro n h hn
    cases n with
    | zero => simp
    | succ n =>
      have hq := h 0 q rfl (by omega)
      have h1 := ih n (fun j r hj hl => h (j + 1) r (by simpa using hj) (by omega)) (by simpa using hn)
      simp only [List.takeWhile_cons, hq, decide_true, if_true, List.length_cons, List.drop_succ_cons, h1]
      omega
theorem rbk_lk {key up : Int32} : ∀ (n m : Nat) (rows : List Row), rows.Pairwise (fun r q => r.1 ≤ q.1) → rows ≠ [] → key ≤ (rows.getLastD zr).1 → rows.length ≤ n → rows.length ≤ m → rbk key up n rows = blk key up m (rows.drop (4 * fb key rows)) := by
  intro n
  induction n with
  | zero =>
    intro m rows _ hne _ hn _
    exact absurd (List.length_eq_zero_iff.mp (by omega)) hne
  | succ n ih =>
    intro m rows hp hne hk hn hm
    cases rows with
    | nil => exact absurd rfl hne
    | cons r rs =>
      simp only [List.length_cons] at hn hm
      have hpi := List.pairwise_iff_getElem.mp hp
      have hlast := lastAt (l := (r :: rs).take 4) (by simp)
      have hBl : ((r :: rs).take 4).length = min 4 (rs.length + 1) := by rw [List.length_take]; rfl
      have hlr : (r :: rs)[((r :: rs).take 4).length - 1]? = some (((r :: rs).take 4).getLastD zr) := by
        rw [List.getElem?_take, if_pos (by omega)] at hlast
        exact hlast
      have hll := lastAt (l := r :: rs) (by simp)
      simp only [List.length_cons, Nat.add_sub_cancel] at hll
      generalize hla : ((r :: rs).take 4).getLastD zr = la at *
      by_cases hlt : la.1 < key
      · -- a block of smaller keys
        have h4 : 4 ≤ rs.length + 1 := by
          apply Classical.byContradiction
          intro h9
          have e1 : ((r :: rs).take 4).length - 1 = rs.length := by omega
          rw [e1, hll] at hlr
          have := Option.some.inj hlr
          rw [this] at hk
          simp only [i_le, i_lt] at *; omega
        have e1 : ((r :: rs).take 4).length - 1 = 3 := by omega
        rw [e1] at hlr
        have hge := take_ge (key := key) (r :: rs) 4 (fun j q hj hj4 => by
          obtain ⟨hj1, hj2⟩ := List.getElem?_eq_some_iff.mp hj
          obtain ⟨hl1, hl2⟩ := List.getElem?_eq_some_iff.mp hlr
          by_cases h3 : j = 3
          · subst h3
            rw [← hj2, hl2]; exact hlt
          · have := hpi j 3 hj1 hl1 (by omega)
            rw [hj2, hl2] at this
            simp only [i_le, i_lt] at *; omega) (by simpa using h4)
        have hfb : fb key (r :: rs) = fb key ((r :: rs).drop 4) + 1 := by
          unfold fb
          rw [hge]
          omega
        have hd : (r :: rs).drop (4 * fb key (r :: rs)) = ((r :: rs).drop 4).drop (4 * fb key ((r :: rs).drop 4)) := by
          rw [hfb, List.drop_drop]
          congr 1
          omega
        have hne4 : (r :: rs).drop 4 ≠ [] := fun h9 => by
          have h8 := congrArg List.length h9
          simp at h8
          have e2 : rs.length = 3 := by omega
          rw [e2, hlr] at hll
          have := Option.some.inj hll
          rw [← this] at hk
          simp only [i_le, i_lt] at *; omega
        have hl4 : ((r :: rs).drop 4).getLastD zr = (r :: rs).getLastD zr := by
          have h8 := lastAt hne4
          rw [List.getElem?_drop, List.length_drop] at h8
          have hlen : 4 < (r :: rs).length := by
            have := List.length_pos_iff.mpr hne4
            rw [List.length_drop] at this
            omega
          simp only [List.length_cons] at hlen h8
          rw [show 4 + (rs.length + 1 - 4 - 1) = rs.length by omega, hll] at h8
          exact (Option.some.inj h8).symm
        rw [hd]
        have h9 := ih m ((r :: rs).drop 4) (hp.sublist (List.drop_sublist _ _)) hne4 (by rw [hl4]; exact hk) (by simp; omega) (by simp; omega)
        rw [← h9]
        simp only [rbk, hla, if_pos hlt]
      · have hle : key ≤ la.1 := Int32.not_lt.mp hlt
        have htw := take_le (key := key) (r :: rs) hp _ la hlr hle
        have hfb : fb key (r :: rs) = 0 := by
          unfold fb
          omega
        rw [hfb, Nat.mul_zero, List.drop_zero]
        obtain ⟨m, rfl⟩ : ∃ k, m = k + 1 := ⟨m - 1, by omega⟩
        simp only [rbk, blk, hla, if_neg hlt]
        by_cases hz : r.2.2.2.2 = 0
        · simp only [if_pos hz]
          cases hf : ((r :: rs).take 4).find? (pk key up) with
          | some q => rfl
          | none =>
            by_cases hle2 : la.1 ≤ key
            · simp only [if_pos hle2]
              have h1 := rbk_blk (key := key) (up := up) n m ((r :: rs).drop 4) (fun q hq => by
                obtain ⟨i, hi', hi2⟩ := List.mem_iff_getElem.mp hq
                rw [List.getElem_drop] at hi2
                rw [List.length_drop] at hi'
                obtain ⟨hl1, hl2⟩ := List.getElem?_eq_some_iff.mp hlr
                have := hpi _ (4 + i) hl1 (by omega) (by omega)
                rw [hl2, hi2] at this
                simp only [i_le] at *; omega) (by simp; omega) (by simp; omega)
              rw [h1]
            · simp only [if_neg hle2]
        · simp only [if_neg hz]
theorem look_ok {key up : Int32} {t : Tab} (h : okTb t) (hk : lo t ≤ key ∧ key ≤ hi t) : rbk key up t.2.2.length t.2.2 = lk1 key up t := by
  unfold lk1
  exact rbk_lk _ _ _ h.2.2.1 h.1 hk.2 (Nat.le_refl _) (Nat.le_refl _)
theorem find_hv {key up : Int32} (ts : List Tab) : (∀ t ∈ ts, okTb t) → (fl ts).find? (pk key up) = hvT key up ts := by
  induction ts with
  | nil => intro _; rfl
  | cons t ts ih =>
    intro h
    have h1 := ih (fun u hu => h u (by simp [hu]))
    rw [fl_cons, List.find?_append]
    simp only [hvT]
    by_cases hc : lo t ≤ key ∧ key ≤ hi t
    · rw [if_pos hc]
      cases hf : t.2.2.find? (pk key up) with
      | some r => rfl
      | none => rw [Option.none_or]; exact h1
    · rw [if_neg hc]
      have hn : t.2.2.find? (pk key up) = none := by
        rw [List.find?_eq_none]
        intro r hr hp
        have h2 := key_in (h t (by simp)) hr
        simp only [pk, Bool.and_eq_true, decide_eq_true_eq] at hp
        rw [hp.1] at h2
        exact hc h2
      rw [hn, Option.none_or]; exact h1
/-! losing -/
theorem lsp_mem {ts : List Tab} {t : Tab} (h : t ∈ lsp ts) : ∃ u ∈ ts, t.1 = u.1 ∧ t.2.1 = u.2.1 ∧ t.2.2 = u.2.2.filter nsp ∧ t.2.2 ≠ [] := by
  induction ts with
  | nil => simp [lsp] at h
  | cons u ts ih =>
    simp only [lsp] at h
    split at h
    · obtain ⟨v, h1, h2⟩ := ih h
      exact ⟨v, by simp [h1], h2⟩
    · rename_i hne
      rcases List.mem_cons.mp h with h | h
      · exact ⟨u, by simp, by rw [h], by rw [h], by rw [h], by rw [h]; exact hne⟩
      · obtain ⟨v, h1, h2⟩ := ih h
        exact ⟨v, by simp [h1], h2⟩
theorem lsp_sub (ts : List Tab) : (fl (lsp ts)).Sublist (fl ts) := by
  induction ts with
  | nil => exact List.Sublist.refl _
  | cons t ts ih =>
    simp only [lsp]
    split
    · rw [fl_cons]
      exact ih.trans (List.sublist_append_right _ _)
    · rw [fl_cons, fl_cons]
      exact List.Sublist.append List.filter_sublist ih
theorem lsp_okTb {ts : List Tab} (h : ∀ t ∈ ts, okTb t) : ∀ t ∈ lsp ts, okTb t := fun t ht => by
  obtain ⟨u, h1, h2, h3, h4, h5⟩ := lsp_mem ht
  obtain ⟨o1, o2, o3, o4, o5, o6⟩ := h u h1
  have hs : t.2.2.Sublist u.2.2 := by rw [h4]; exact List.filter_sublist
  refine ⟨h5, fun r hr => o2 r (hs.mem hr), o3.sublist hs, blk_of_zero (fun r hr => by rw [h4] at hr; exact nsp_zero r hr), by rw [h3]; exact o5, Nat.le_trans hs.length_le o6⟩
theorem lsp_lohi {t u : Tab} (hu : okTb u) (h4 : t.2.2 = u.2.2.filter nsp) (h5 : t.2.2 ≠ []) : lo u ≤ lo t ∧ hi t ≤ hi u := by
  obtain ⟨a, a1, a2⟩ := lo_at h5
  obtain ⟨b, b1, b2⟩ := hi_at h5
  have hs : t.2.2.Sublist u.2.2 := by rw [h4]; exact List.filter_sublist
  have h6 := key_in hu (hs.mem (List.mem_of_getElem? a1))
  have h7 := key_in hu (hs.mem (List.mem_of_getElem? b1))
  rw [← a2, ← b2]
  exact ⟨h6.1, h7.2⟩
theorem lsp_ord (ts : List Tab) : (∀ t ∈ ts, okTb t) → ts.Pairwise ordT → (lsp ts).Pairwise ordT := by
  induction ts with
  | nil => intro _ _; exact List.Pairwise.nil
  | cons t ts ih =>
    intro hok h
    rw [List.pairwise_cons] at h
    have h1 := ih (fun u hu => hok u (by simp [hu])) h.2
    simp only [lsp]
    split
    · exact h1
    · rename_i hne
      rw [List.pairwise_cons]
      refine ⟨fun v hv => ?_, h1⟩
      obtain ⟨u, u1, u2, u3, u4, u5⟩ := lsp_mem hv
      have k1 := lsp_lohi (t := (t.1, t.2.1, t.2.2.filter nsp)) (u := t) (hok t (by simp)) rfl hne
      have k2 := lsp_lohi (hok u (by simp [u1])) u4 u5
      rcases h.1 u u1 with h9 | ⟨h9, h8 | h8⟩
      · exact Or.inl (by rw [u3]; exact h9)
      · exact Or.inr ⟨by rw [u3]; exact h9, Or.inl h8⟩
      · refine Or.inr ⟨by rw [u3]; exact h9, Or.inr ?_⟩
        simp only [i_le, i_lt] at *; omega
theorem lsp_inv {ts : List Tab} (h : InvT ts) : InvT (lsp ts) := ⟨lsp_okTb h.1, lsp_ord ts h.1 h.2.1, h.2.2.1.sublist (lsp_sub ts), Nat.le_trans (lsp_sub ts).length_le h.2.2.2⟩
theorem lsp_cl (l : Int32) (ts : List Tab) : cl l (lsp ts) ≤ cl l ts := by
  induction ts with
  | nil => exact Nat.le_refl _
  | cons t ts ih =>
    have e1 : cl l (t :: ts) = cl l ts + (if t.2.1 = l then 1 else 0) := by
      unfold cl
      rw [List.countP_cons]
      simp
    simp only [lsp]
    split
    · omega
    · have e2 : cl l ((t.1, t.2.1, t.2.2.filter nsp) :: lsp ts) = cl l (lsp ts) + (if t.2.1 = l then 1 else 0) := by
        unfold cl
        rw [List.countP_cons]
        simp
      omega
/-! a new table of level 0 -/
theorem fl0_inv {tabs : List Tab} {ys : List Row} {mk : Int32} (hI : InvT tabs) (hne : ys ≠ []) (hk : ∀ r ∈ ys, okK r ∧ 0 ≤ r.2.1 ∧ r.2.2.2.2 = 0) (hf : (ys ++ fl tabs).Pairwise fal1) (hl : (fl tabs).length + ys.length ≤ 240) : InvT ((mk, 0, srt ys) :: tabs) := by
  have hkk : ∀ r ∈ ys, okK r := fun r hr => (hk r hr).1
  rw [List.pairwise_append] at hf
  have hb := srt_bef hkk hf.1
  have hlen := srt_len ys hkk
  refine ⟨fun t ht => ?_, ?_, ?_, ?_⟩
  · rcases List.mem_cons.mp ht with rfl | ht
    · refine ⟨fun h9 => ?_, fun r hr => ?_, hb.imp (fun {a b} h => ?_), blk_of_zero (fun r hr => (hk r ((srt_mem hkk).mp hr)).2.2), ⟨0, by omega, rfl⟩, by show (srt ys).length ≤ 240; omega⟩
      · have h9 : srt ys = [] := h9
        rw [h9] at hlen
        exact hne (List.length_eq_zero_iff.mp hlen.symm)
      · have h9 := hk r ((srt_mem hkk).mp hr)
        exact ⟨h9.1, h9.2.1⟩
      · unfold bef at h
        simp only [i_le, i_lt, i_eq] at *; omega
    · exact hI.1 t ht
  · rw [List.pairwise_cons]
    refine ⟨fun u hu => ?_, hI.2.1⟩
    obtain ⟨l, h1, h2⟩ := (hI.1 u hu).2.2.2.2.1
    have h0 : (0 : Int32) = nI 0 := by decide
    by_cases hz : l = 0
    · right
      exact ⟨by show (0 : Int32) = u.2.1; rw [h2, hz]; rfl, Or.inl rfl⟩
    · left
      show (0 : Int32) < u.2.1
      rw [h2, h0]; exact nI_lt (by omega) (by omega)
  · rw [fl_cons, List.pairwise_append]
    refine ⟨hb.imp (fun {a b} h h9 => ?_), hI.2.2.1, fun a ha b hb' => hf.2.2 a ((srt_mem hkk).mp ha) b hb'⟩
    unfold bef at h
    simp only [i_le, i_lt, i_eq] at *; omega
  · rw [fl_cons, List.length_append]
    show (srt ys).length + _ ≤ 240
    omega
/-! spoiling -/
def fal4 (a b : Int32 × Int32 × Int32 × Int32) : Prop := a.1 = b.1 → b.2.1 < a.2.1
theorem fal_c4 {xs ys : List Row} (h : xs.map c4 = ys.map c4) : xs.Pairwise fal1 ↔ ys.Pairwise fal1 := by
  have e : ∀ zs : List Row, zs.Pairwise fal1 ↔ (zs.map c4).Pairwise fal4 := fun zs => by rw [List.pairwise_map]; exact Iff.rfl
  rw [e xs, e ys, h]
theorem c4_mem {xs ys : List Row} (h : xs.map c4 = ys.map c4) {r : Row} (hr : r ∈ xs) : ∃ q ∈ ys, q.1 = r.1 ∧ q.2.1 = r.2.1 := by
  have h1 : c4 r ∈ ys.map c4 := by rw [← h]; exact List.mem_map_of_mem hr
  obtain ⟨q, h2, h3⟩ := List.mem_map.mp h1
  simp only [c4, Prod.mk.injEq] at h3
  exact ⟨q, h2, h3.1, h3.2.1⟩
theorem spR_inv {tabs : List Tab} {i b : Nat} {t : Tab} (hI : InvT tabs) (ht : tabs[i]? = some t) (hb : 4 * b < t.2.2.length) : InvT (tabs.take i ++ (t.1, t.2.1, spR b t.2.2) :: tabs.drop (i + 1)) ∧ (fl (tabs.take i ++ (t.1, t.2.1, spR b t.2.2) :: tabs.drop (i + 1))).map c4 = (fl tabs).map c4 ∧ (∀ l, cl l (tabs.take i ++ (t.1, t.2.1, spR b t.2.2) :: tabs.drop (i + 1)) = cl l tabs) := by
  obtain ⟨hsp, hln⟩ := split1 ht
  have hmt : t ∈ tabs := List.mem_of_getElem? ht
  have hfl : (fl (tabs.take i ++ (t.1, t.2.1, spR b t.2.2) :: tabs.drop (i + 1))).map c4 = (fl tabs).map c4 := by
    conv => rhs; rw [hsp]
    rw [fl3, fl3]
    simp only [List.map_append, spR_c4]
  have hfll : (fl (tabs.take i ++ (t.1, t.2.1, spR b t.2.2) :: tabs.drop (i + 1))).length = (fl tabs).length := by
    have := congrArg List.length hfl
    simpa using this
  obtain ⟨o1, o2, o3, o4, o5, o6⟩ := hI.1 t hmt
  have hkeys : (spR b t.2.2).map (fun r => r.1) = t.2.2.map (fun r => r.1) := by
    have := congrArg (List.map (fun q : Int32 × Int32 × Int32 × Int32 => q.1)) (spR_c4 b t.2.2)
    simpa [List.map_map, Function.comp_def, c4] using this
  have hlo : lo (t.1, t.2.1, spR b t.2.2) = lo t := by
    have h1 := congrArg List.head? hkeys
    unfold lo
    simp only [List.head?_map] at h1
    show ((spR b t.2.2).headD zr).1 = (t.2.2.headD zr).1
    rw [List.headD_eq_head?_getD, List.headD_eq_head?_getD]
    cases h2 : (spR b t.2.2).head? <;> cases h3 : t.2.2.head? <;> rw [h2, h3] at h1 <;> simp at h1 ⊢
    exact h1
  have hhi : hi (t.1, t.2.1, spR b t.2.2) = hi t := by
    have h1 := congrArg List.getLast? hkeys
    unfold hi
    simp only [List.getLast?_map] at h1
    show ((spR b t.2.2).getLastD zr).1 = (t.2.2.getLastD zr).1
    rw [List.getLastD_eq_getLast?, List.getLastD_eq_getLast?]
    cases h2 : (spR b t.2.2).getLast? <;> cases h3 : t.2.2.getLast? <;> rw [h2, h3] at h1 <;> simp at h1 ⊢
    exact h1
  have hokt : okTb (t.1, t.2.1, spR b t.2.2) := by
    refine ⟨fun h9 => ?_, fun r hr => ?_, ?_, fun k r hk => ?_, o5, ?_⟩
    · have h9 : spR b t.2.2 = [] := h9
      have := congrArg List.length h9
      rw [spR_len] at this
      exact o1 (List.length_eq_zero_iff.mp this)
    · obtain ⟨q, q1, q2, q3⟩ := c4_mem (spR_c4 b t.2.2) hr
      have := o2 q q1
      obtain ⟨k, hk1, hk2⟩ := this.1
      exact ⟨⟨k, hk1, by rw [← q2]; exact hk2⟩, by rw [← q3]; exact this.2⟩
    · have e : ∀ zs : List Row, zs.Pairwise (fun r q => r.1 ≤ q.1) ↔ (zs.map (fun r => r.1)).Pairwise (fun a b => a ≤ b) := fun zs => by rw [List.pairwise_map]
      show (spR b t.2.2).Pairwise _
      rw [e, hkeys, ← e]
      exact o3
    · have hk : (spR b t.2.2)[k]? = some r := hk
      show r.2.2.2.2 = 0 ↔ sb (spR b t.2.2) (k / 4) = false
      rw [sb_spR hb]
      have hkl : k < t.2.2.length := by
        have := (List.getElem?_eq_some_iff.mp hk).1
        rwa [spR_len] at this
      have l1 : (t.2.2.take (4 * b)).length = 4 * b := by simp; omega
      have l2 : (((t.2.2.drop (4 * b)).take 4).map sp1).length = min 4 (t.2.2.length - 4 * b) := by simp
      unfold spR at hk
      by_cases c1 : k < 4 * b
      · rw [List.getElem?_append_left (by omega), List.getElem?_take, if_pos c1] at hk
        have hne : ¬ b = k / 4 := by omega
        rw [o4 k r hk]
        simp [hne]
      · by_cases c2 : k < 4 * b + 4
        · have heq : b = k / 4 := by omega
          rw [List.getElem?_append_right (by omega), l1, List.getElem?_append_left (by omega), List.getElem?_map, List.getElem?_take, if_pos (by omega), List.getElem?_drop, show 4 * b + (k - 4 * b) = k by omega, List.getElem?_eq_getElem hkl] at hk
          simp only [Option.map_some, Option.some.injEq] at hk
          rw [← hk]
          simp [sp1, ← heq]
        · have hne : ¬ b = k / 4 := by omega
          rw [List.getElem?_append_right (by omega), l1, List.getElem?_append_right (by omega), l2, List.getElem?_drop, show 4 * b + 4 + (k - 4 * b - min 4 (t.2.2.length - 4 * b)) = k by omega] at hk
          rw [o4 k r hk]
          simp [hne]
    · show (spR b t.2.2).length ≤ 240
      rw [spR_len]; exact o6
  have hord : ∀ u v : Tab, (u = t ∨ False) → True := fun _ _ _ => trivial
  refine ⟨⟨fun u hu => ?_, ?_, (fal_c4 hfl).mpr hI.2.2.1, by have := hI.2.2.2; omega⟩, hfl, fun l => ?_⟩
  · rcases List.mem_append.mp hu with hu | hu
    · exact hI.1 u (List.mem_of_mem_take hu)
    · rcases List.mem_cons.mp hu with rfl | hu
      · exact hokt
      · exact hI.1 u (List.mem_of_mem_drop hu)
  · have hp := hI.2.1
    rw [hsp] at hp
    rw [List.pairwise_append, List.pairwise_cons] at hp ⊢
    obtain ⟨p1, ⟨p2, p3⟩, p4⟩ := hp
    refine ⟨p1, ⟨fun v hv => ?_, p3⟩, fun u hu v hv => ?_⟩
    · have := p2 v hv
      unfold ordT at this ⊢
      rw [hhi]
      exact this
    · rcases List.mem_cons.mp hv with rfl | hv
      · have := p4 u hu t (by simp)
        unfold ordT at this ⊢
        rw [hlo]
        exact this
      · exact p4 u hu v (by simp [hv])
  · conv => rhs; rw [hsp]
    rw [cl_app, cl_app]
    congr 1
