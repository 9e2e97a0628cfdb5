/-! PURE, 35: lists: order of rows -/
theorem i_lt {x y : Int32} : x < y ↔ x.toInt < y.toInt := Int32.lt_iff_toInt_lt
theorem i_le {x y : Int32} : x ≤ y ↔ x.toInt ≤ y.toInt := Int32.le_iff_toInt_le
theorem i_eq {x y : Int32} : x = y ↔ x.toInt = y.toInt := Int32.toInt_inj.symm
def bef (r q : Row) : Prop := r.1 < q.1 ∨ (r.1 = q.1 ∧ q.2.1 < r.2.1)
def fal1 (r q : Row) : Prop := r.1 = q.1 → q.2.1 < r.2.1
def cmpR (r q : Row) : Prop := bef r q ∨ bef q r
theorem cmpR_sy {r q : Row} (h : cmpR r q) : cmpR q r := h.symm
theorem fal1_cmp {r q : Row} (h : fal1 r q) : cmpR r q := by
  unfold cmpR bef
  by_cases h1 : r.1 = q.1
  · exact Or.inl (Or.inr ⟨h1, h h1⟩)
  · by_cases h2 : r.1 < q.1
    · exact Or.inl (Or.inl h2)
    · refine Or.inr (Or.inl ?_)
      rw [i_lt] at h2 ⊢
      rw [i_eq] at h1
      omega
theorem bef_tr {a b c : Row} (h : bef a b) (g : bef b c) : bef a c := by
  unfold bef at *
  simp only [i_lt, i_eq] at *
  omega
theorem bef_asy {a b : Row} (h : bef a b) (g : bef b a) : a = b := by
  unfold bef at *
  simp only [i_lt, i_eq] at h g
  omega
theorem filt_or {p q s : Row → Bool} (xs : List Row) : (∀ r ∈ xs, s r = (p r || q r)) → (∀ r ∈ xs, ¬ (p r = true ∧ q r = true)) → (xs.filter p ++ xs.filter q).Perm (xs.filter s) := by
  induction xs with
  | nil => intro _ _; simp
  | cons r xs ih =>
    intro h hd
    have i1 := ih (fun r hr => h r (by simp [hr])) (fun r hr => hd r (by simp [hr]))
    have h0 := h r (by simp)
    have hd0 := hd r (by simp)
    cases hp : p r
    · cases hq : q r
      · have hs : s r = false := by rw [h0, hp, hq]; rfl
        simp [List.filter_cons, hp, hq, hs]
        exact i1
      · have hs : s r = true := by rw [h0, hp, hq]; rfl
        simp only [List.filter_cons, hp, hq, hs, if_true, Bool.false_eq_true, if_false]
        exact List.perm_middle.trans (i1.cons r)
    · cases hq : q r
      · have hs : s r = true := by rw [h0, hp, hq]; rfl
        simp only [List.filter_cons, hp, hq, hs, if_true, Bool.false_eq_true, if_false, List.cons_append]
        exact i1.cons r
      · exact absurd ⟨hp, hq⟩ hd0
theorem srtTo_perm {xs : List Row} (h : ∀ r ∈ xs, okK r) : ∀ k, k ≤ 64 → (srtTo xs k).Perm (xs.filter (fun r => decide (r.1 < nI k))) := by
  intro k
  induction k with
  | zero =>
    intro _
    have : xs.filter (fun r => decide (r.1 < nI 0)) = [] := by
      rw [List.filter_eq_nil_iff]
      intro r hr
      obtain ⟨k, hk, hk2⟩ := h r hr
      have := nI_nlt (a := k) (b := 0) (by omega) (by omega)
      rw [hk2]
      simpa using this
    rw [this]
    exact List.Perm.refl _
  | succ k ih =>
    intro hk
    have i1 := ih (by omega)
    simp only [srtTo]
    refine (i1.append_right _).trans (filt_or xs (fun r hr => ?_) (fun r hr => ?_))
    · obtain ⟨j, hj, hj2⟩ := h r hr
      simp only [isK, hj2]
      by_cases h1 : j < k
      · have a1 := nI_lt (a := j) (b := k) h1 (by omega)
        have a2 := nI_lt (a := j) (b := k + 1) (by omega) (by omega)
        simp [a1, a2]
      · by_cases h2 : j = k
        · subst h2
          have a2 := nI_lt (a := j) (b := j + 1) (by omega) (by omega)
          simp [a2]
        · have a1 := nI_nlt (a := j) (b := k + 1) (by omega) (by omega)
          have a2 := nI_nlt (a := j) (b := k) (by omega) (by omega)
          have a3 : ¬ nI j = nI k := fun h9 => h2 ((nI_inj (by omega) (by omega)).mp h9)
          simp only [a1, a2, a3, decide_false, Bool.or_false]
    · simp only [isK, decide_eq_true_eq]
      rintro ⟨h1, h2⟩
      rw [h2] at h1
      exact Int32.lt_irrefl h1
theorem srt_perm {xs : List Row} (h : ∀ r ∈ xs, okK r) : (srt xs).Perm xs := by
  have h1 := srtTo_perm h 64 (Nat.le_refl _)
  have h2 : xs.filter (fun r => decide (r.1 < nI 64)) = xs := by
    rw [List.filter_eq_self]
    intro r hr
    obtain ⟨j, hj, hj2⟩ := h r hr
    rw [hj2]
    simpa using nI_lt (a := j) (b := 64) hj (by omega)
  rw [h2] at h1
  exact h1
theorem srt_mem {xs : List Row} (h : ∀ r ∈ xs, okK r) {r : Row} : r ∈ srt xs ↔ r ∈ xs := (srt_perm h).mem_iff
theorem srtTo_bef {xs : List Row} (h : ∀ r ∈ xs, okK r) (hf : xs.Pairwise fal1) : ∀ k, k ≤ 64 → (srtTo xs k).Pairwise bef := by
  intro k
  induction k with
  | zero => intro _; exact List.Pairwise.nil
  | succ k ih =>
    intro hk
    simp only [srtTo]
    rw [List.pairwise_append]
    refine ⟨ih (by omega), ?_, fun r hr q hq => ?_⟩
    · rw [List.pairwise_filter]
      refine hf.imp (fun {a b} hab h1 h2 => ?_)
      simp only [isK, decide_eq_true_eq] at h1 h2
      exact Or.inr ⟨h1.trans h2.symm, hab (h1.trans h2.symm)⟩
    · have h1 := (srtTo_perm h k (by omega)).mem_iff.mp hr
      have h2 := (List.mem_filter.mp h1).2
      have h3 := (List.mem_filter.mp hq).2
      simp only [isK, decide_eq_true_eq] at h2 h3
      left
      rw [h3]; exact h2
theorem srt_bef {xs : List Row} (h : ∀ r ∈ xs, okK r) (hf : xs.Pairwise fal1) : (srt xs).Pairwise bef := srtTo_bef h hf 64 (Nat.le_refl _)
theorem cnd_bef {r q : Row} : cnd r q = true ↔ bef r q := by
  unfold cnd bef
  simp only [Bool.or_eq_true, decide_eq_true_eq, Bool.and_eq_true, i_lt, i_eq, i_le]
  omega
theorem posW_spec (r : Row) (W : Nat → Row) : ∀ n, (∀ i, posW r W n ≤ i → i < n → cnd r (W i) = true) ∧ (0 < posW r W n → cnd r (W (posW r W n - 1)) = false) := by
  intro n
  induction n with
  | zero => exact ⟨fun i _ h => by omega, fun h => by simp [posW] at h⟩
  | succ n ih =>
    cases hc : cnd r (W n)
    · have e1 : posW r W (n + 1) = n + 1 := by simp [posW, hc]
      rw [e1]
      exact ⟨fun i h1 h2 => by omega, fun _ => by simpa using hc⟩
    · have e1 : posW r W (n + 1) = posW r W n := by simp [posW, hc]
      rw [e1]
      refine ⟨fun i h1 h2 => ?_, ih.2⟩
      by_cases hi : i = n
      · rw [hi]; exact hc
      · exact ih.1 i h1 (by omega)
theorem insW_perm (r : Row) (ws : List Row) : (insW r ws).Perm (r :: ws) := by
  unfold insW
  refine List.perm_middle.trans ?_
  rw [List.take_append_drop]
theorem insW_bef {r : Row} {ws : List Row} (h : ws.Pairwise bef) (hc : ∀ q ∈ ws, cmpR r q) : (insW r ws).Pairwise bef := by
  have hp := posW_spec r (fun i => ws.getD i zr) ws.length
  have hle := posW_le r (fun i => ws.getD i zr) ws.length
  unfold insW
  generalize posW r (fun i => ws.getD i zr) ws.length = p at *
  have hg : ∀ i (hi : i < ws.length), ws.getD i zr = ws[i] := fun i hi => by simp [List.getD, List.getElem?_eq_getElem hi]
  have hgt : ∀ q ∈ ws.drop p, bef r q := fun q hq => by
    obtain ⟨i, hi, rfl⟩ := List.mem_iff_getElem.mp hq
    simp only [List.length_drop] at hi
    rw [List.getElem_drop]
    have := hp.1 (p + i) (by omega) (by omega)
    simp only [hg (p + i) (by omega)] at this
    exact cnd_bef.mp this
  have hlt : ∀ q ∈ ws.take p, bef q r := fun q hq => by
    obtain ⟨i, hi, rfl⟩ := List.mem_iff_getElem.mp hq
    simp only [List.length_take] at hi
    rw [List.getElem_take]
    have h1 := hp.2 (by omega)
    simp only [hg (p - 1) (by omega)] at h1
    have h2 : bef ws[p - 1] r := by
      rcases hc ws[p - 1] (List.getElem_mem _) with h9 | h9
      · rw [cnd_bef.mpr h9] at h1; cases h1
      · exact h9
    by_cases hi2 : i = p - 1
    · subst hi2; exact h2
    · exact bef_tr (List.pairwise_iff_getElem.mp h i (p - 1) (by omega) (by omega) (by omega)) h2
  have hsp : ws.take p ++ ws.drop p = ws := List.take_append_drop p ws
  rw [← hsp, List.pairwise_append] at h
  rw [List.pairwise_append, List.pairwise_cons]
  refine ⟨h.1, ⟨hgt, h.2.1⟩, fun a ha b hb => ?_⟩
  rcases List.mem_cons.mp hb with rfl | hb
  · exact hlt a ha
  · exact h.2.2 a ha b hb
theorem insA_perm (rs : List Row) : ∀ ws, (insA ws rs).Perm (rs ++ ws) := by
  induction rs with
  | nil => intro ws; exact List.Perm.refl _
  | cons r rs ih =>
    intro ws
    have h1 := ih (insW r ws)
    refine h1.trans ?_
    refine ((insW_perm r ws).append_left rs).trans ?_
    exact List.perm_middle
theorem insA_bef (rs : List Row) : ∀ ws, ws.Pairwise bef → (∀ r ∈ rs, ∀ q ∈ ws, cmpR r q) → rs.Pairwise cmpR → (insA ws rs).Pairwise bef := by
  induction rs with
  | nil => intro ws h _ _; exact h
  | cons r rs ih =>
    intro ws h hc hp
    rw [List.pairwise_cons] at hp
    refine ih (insW r ws) (insW_bef h (fun q hq => hc r (by simp) q hq)) (fun s hs q hq => ?_) hp.2
    rcases insW_mem hq with rfl | hq
    · exact cmpR_sy (hp.1 s hs)
    · exact hc s (by simp [hs]) q hq
/-- rows entered one by one, in whatever order, come out as the class sorts them -/
theorem insA_srt {xs ys : List Row} (hp : xs.Perm ys) (hk : ∀ r ∈ ys, okK r) (hf : ys.Pairwise fal1) : insA [] xs = srt ys := by
  have hc : ys.Pairwise cmpR := hf.imp (fun h => fal1_cmp h)
  have hcx : xs.Pairwise cmpR := (hp.pairwise_iff (fun h => cmpR_sy h)).mpr hc
  have h1 : (insA [] xs).Pairwise bef := insA_bef xs [] List.Pairwise.nil (fun r _ q hq => by simp at hq) hcx
  have h2 := srt_bef hk hf
  have h3 : (insA [] xs).Perm (srt ys) := by
    have := insA_perm xs []
    rw [List.append_nil] at this
    exact (this.trans hp).trans (srt_perm hk).symm
  exact List.Perm.eq_of_pairwise (fun a b _ _ h g => bef_asy h g) h1 h2 h3
/-! what is dropped -/
def relP (old : Int32) (prev : Option Row) (newer ofk : Int32) : Prop := match prev with
  | none => newer = -1 ∧ ofk = -1
  | some p => ofk = p.1 ∧ (0 ≤ newer ↔ ¬ old < p.2.1)
theorem drR_kp {lev old : Int32} {tabs : List Tab} {D : Int32 → Bool} (rows : List Row) : ∀ (prev : Option Row) (newer ofk : Int32), relP old prev newer ofk → (∀ r ∈ rows, D r.1 = deep lev tabs r.1) → rows.Pairwise fal1 → (∀ p, prev = some p → ∀ r ∈ rows, fal1 p r) → (∀ r ∈ rows, 0 ≤ r.1 ∧ 0 ≤ r.2.1) → drR old D newer ofk rows = kp lev old tabs prev rows := by
  induction rows with
  | nil => intro prev newer ofk _ _ _ _ _; simp [drR, kp]
  | cons r rows ih =>
    intro prev newer ofk hr hD hf hp h0
    rw [List.pairwise_cons] at hf
    have h00 := h0 r (by simp)
    have hm1 : ¬ (0 : Int32) ≤ -1 := by decide
    -- the two tests say the same
    have key : (0 ≤ nwR newer ofk r ↔ outd old prev r = true) ∧ (0 ≤ nwN old (nwR newer ofk r) r ↔ ¬ old < r.2.1) := by
      cases prev with
      | none =>
        obtain ⟨e1, e2⟩ := hr
        have hne : ¬ r.1 = ofk := fun h9 => by rw [h9, e2] at h00; exact hm1 h00.1
        have e3 : nwR newer ofk r = -1 := by unfold nwR; rw [if_neg hne]
        rw [e3]
        refine ⟨by simp [outd, hm1], ?_⟩
        unfold nwN
        by_cases h1 : old < r.2.1
        · simp only [if_pos h1, h1, not_true_eq_false, iff_false]; exact hm1
        · simp only [if_neg h1, h1, not_false_eq_true, iff_true]; exact h00.2
      | some p =>
        obtain ⟨e1, e2⟩ := hr
        have hpr := hp p rfl r (by simp)
        by_cases hk : r.1 = ofk
        · have e3 : nwR newer ofk r = newer := by unfold nwR; rw [if_pos hk]
          have hk2 : p.1 = r.1 := by rw [← e1, hk]
          rw [e3]
          refine ⟨by rw [e2]; simp [outd, hk2], ?_⟩
          unfold nwN
          by_cases h1 : old < r.2.1
          · simp only [if_pos h1, h1, not_true_eq_false, iff_false, if_true]
            rw [e2]
            intro h9
            have h8 := hpr hk2
            simp only [i_lt] at h1 h8 h9
            omega
          · simp only [if_neg h1, h1, not_false_eq_true, iff_true]; exact h00.2
        · have e3 : nwR newer ofk r = -1 := by unfold nwR; rw [if_neg hk]
          have hk2 : ¬ p.1 = r.1 := fun h9 => hk (by rw [e1, h9])
          rw [e3]
          refine ⟨by simp [outd, hk2, hm1], ?_⟩
          unfold nwN
          by_cases h1 : old < r.2.1
          · simp only [if_pos h1, h1, not_true_eq_false, iff_false]; exact hm1
          · simp only [if_neg h1, h1, not_false_eq_true, iff_true]; exact h00.2
    have hdr : drp old D (nwR newer ofk r) r = (outd old prev r || needl lev old tabs r) := by
      unfold drp needl
      rw [hD r (by simp)]
      congr 1
      cases ho : outd old prev r
      · have : ¬ 0 ≤ nwR newer ofk r := fun h9 => by rw [key.1.mp h9] at ho; cases ho
        simp [this]
      · simp [key.1.mpr ho]
    have hnext := ih (some r) (nwN old (nwR newer ofk r) r) r.1 ⟨rfl, key.2⟩ (fun q hq => hD q (by simp [hq])) hf.2 (fun p hp q hq => by cases hp; exact hf.1 q hq) (fun q hq => h0 q (by simp [hq]))
    simp only [drR, kp, hdr, hnext]
theorem kp_sub (lev old : Int32) (tabs : List Tab) (rs : List Row) : ∀ prev, (kp lev old tabs prev rs).Sublist rs := by
  induction rs with
  | nil => intro _; simp [kp]
  | cons r rs ih =>
    intro prev
    simp only [kp]
    split
    · exact (ih _).cons _
    · exact (ih _).cons₂ _
