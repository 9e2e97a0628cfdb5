/-! PURE, 41: what holds of the whole state -/
variable {lv : LV} {mem : List Row} {recs : List Nat} {syn : Nat} {bt : Option (List Row)} {sn : Nat → Int32} {lt : Nat}
def Inv (lv : LV) (mem : List Row) (recs : List Nat) (syn : Nat) (bt : Option (List Row)) (sn : Nat → Int32) (lt : Nat) : Prop :=
  InvT lv.1 ∧ (lv.2.1 = 0 → cl 0 lv.1 ≤ 3) ∧ cl 0 lv.1 ≤ 8 ∧ (fl lv.1).length + mem.length ≤ 240 ∧ mem.length < 8 ∧ (∀ r ∈ mem, okK r ∧ 0 ≤ r.2.1 ∧ r.2.2.2.2 = 0) ∧ (mem.reverse ++ fl lv.1).Pairwise fal1 ∧ (∀ r ∈ mem ++ fl lv.1, r.2.1 ≤ nI lt) ∧ (∀ x ∈ recs, 1 ≤ x) ∧ syn ≤ recs.length ∧ recs.sum = mem.length ∧ (∀ ps, bt = some ps → ∀ r ∈ ps, okK r) ∧ snOk sn
theorem nI_ltb {a b : Nat} (ha : a < 1000000) (hb : b < 1000000) : nI a < nI b ↔ a < b := ⟨fun h => Classical.byContradiction fun h9 => absurd h (nI_nlt (by omega) (by omega)), fun h => nI_lt h (by omega)⟩
theorem nI_leb {a b : Nat} (ha : a < 1000000) (hb : b < 1000000) : nI a ≤ nI b ↔ a ≤ b := ⟨fun h => Classical.byContradiction fun h9 => absurd h (nI_ge (by omega) (by omega)), fun h => nI_le h (by omega)⟩
theorem recd_mem {lt : Nat} (ps : List Row) : ∀ i, ∀ r ∈ recd lt i ps, ∃ j, i ≤ j ∧ j < i + ps.length ∧ r.2.1 = nI (lt + 1 + j) ∧ r.2.2.2.2 = 0 := by
  induction ps with
  | nil => intro i r hr; simp [recd] at hr
  | cons p ps ih =>
    intro i r hr
    simp only [recd] at hr
    rcases List.mem_cons.mp hr with rfl | hr
    · exact ⟨i, Nat.le_refl _, by simp, rfl, rfl⟩
    · obtain ⟨j, h1, h2, h3⟩ := ih (i + 1) r hr
      exact ⟨j, by omega, by simp; omega, h3⟩
theorem recd_pw {lt : Nat} (ps : List Row) : ∀ i, lt + i + ps.length < 900000 → (recd lt i ps).Pairwise (fun a b => a.2.1 < b.2.1) := by
  induction ps with
  | nil => intro i _; exact List.Pairwise.nil
  | cons p ps ih =>
    intro i hi
    simp only [List.length_cons] at hi
    simp only [recd]
    rw [List.pairwise_cons]
    refine ⟨fun r hr => ?_, ih (i + 1) (by omega)⟩
    obtain ⟨j, h1, h2, h3, -⟩ := recd_mem ps (i + 1) r hr
    rw [h3]
    show nI (lt + 1 + i) < _
    exact nI_lt (by omega) (by omega)
theorem recs_le {recs : List Nat} (h : ∀ x ∈ recs, 1 ≤ x) : recs.length ≤ recs.sum := by
  induction recs with
  | nil => simp
  | cons x xs ih =>
    have h1 := h x (by simp)
    have h2 := ih (fun y hy => h y (by simp [hy]))
    simp only [List.length_cons, List.sum_cons]
    omega
/-- memory with a record more -/
theorem mem_more {ps : List Row} (h : Inv lv mem recs syn bt sn lt) (hps : ∀ r ∈ ps, okK r) (hl : ps.length ≤ 4) (hlt : lt < 100000) :
    (∀ r ∈ mem ++ recd lt 0 ps, okK r ∧ 0 ≤ r.2.1 ∧ r.2.2.2.2 = 0) ∧ ((mem ++ recd lt 0 ps).reverse ++ fl lv.1).Pairwise fal1 ∧ (∀ r ∈ (mem ++ recd lt 0 ps) ++ fl lv.1, r.2.1 ≤ nI (lt + ps.length)) := by
  obtain ⟨h1, h2, h3, h4, h5, h6, h7, h8, -⟩ := h
  have hup : ∀ r ∈ mem ++ fl lv.1, r.2.1 ≤ nI (lt + ps.length) := fun r hr => Int32.le_trans (h8 r hr) (nI_le (by omega) (by omega))
  refine ⟨fun r hr => ?_, ?_, fun r hr => ?_⟩
  · rcases List.mem_append.mp hr with hr | hr
    · exact h6 r hr
    · obtain ⟨j, j1, j2, j3, j4⟩ := recd_mem ps 0 r hr
      exact ⟨recd_ok lt ps hps 0 r hr, by
        rw [j3]
        have : (0 : Int32) = nI 0 := by decide
        rw [this]; exact nI_le (by omega) (by omega), j4⟩
  · rw [List.reverse_append, List.append_assoc, List.pairwise_append]
    refine ⟨?_, h7, fun a ha b hb h9 => ?_⟩
    · rw [List.pairwise_reverse]
      exact List.Pairwise.imp (S := fun a b => fal1 b a) (fun {a b} h9 h8 => h9) (recd_pw (lt := lt) ps 0 (by omega))
    · obtain ⟨j, j1, j2, j3, j4⟩ := recd_mem ps 0 a (by simpa using ha)
      have := h8 b (by simp only [List.mem_append, List.mem_reverse] at hb ⊢; exact hb)
      have h0 : nI lt < nI (lt + 1 + j) := nI_lt (by omega) (by omega)
      rw [j3]
      simp only [i_lt, i_le] at *; omega
  · rw [List.append_assoc] at hr
    rcases List.mem_append.mp hr with hr | hr
    · exact hup r (by simp [hr])
    · rcases List.mem_append.mp hr with hr | hr
      · obtain ⟨j, j1, j2, j3, j4⟩ := recd_mem ps 0 r hr
        rw [j3]; exact nI_le (by omega) (by omega)
      · exact hup r (by simp [hr])
/-- memory goes to level 0, and all is tidied -/
theorem flush_ok {mem' : List Row} {lt' : Nat} (hI : InvT lv.1) (hc3 : lv.2.1 = 0 → cl 0 lv.1 ≤ 3) (hc8 : cl 0 lv.1 ≤ 8) (hb : ¬ (¬ lv.2.1 = 0 ∧ 8 ≤ cl 0 lv.1)) (hne : ¬ mem' = []) (hk : ∀ r ∈ mem', okK r ∧ 0 ≤ r.2.1 ∧ r.2.2.2.2 = 0) (hf : (mem'.reverse ++ fl lv.1).Pairwise fal1) (hl : (fl lv.1).length + mem'.length ≤ 240) :
    fOK lv mem' sn lt' ∧ okT (oldA sn lt') 500 (flA lv mem') ∧ InvT (tdyC (oldA sn lt') 500 (flA lv mem')).1 ∧ ((tdyC (oldA sn lt') 500 (flA lv mem')).2.1 = 0 → cl 0 (tdyC (oldA sn lt') 500 (flA lv mem')).1 ≤ 3) ∧ cl 0 (tdyC (oldA sn lt') 500 (flA lv mem')).1 ≤ 8 ∧ (∀ r ∈ fl (tdyC (oldA sn lt') 500 (flA lv mem')).1, r ∈ mem' ∨ r ∈ fl lv.1) := by
  have hkr : ∀ r ∈ mem'.reverse, okK r ∧ 0 ≤ r.2.1 ∧ r.2.2.2.2 = 0 := fun r hr => hk r (by simpa using hr)
  have hkk : ∀ r ∈ mem'.reverse, okK r := fun r hr => (hkr r hr).1
  have hI' : InvT (flA lv mem').1 := fl0_inv hI (by simpa using hne) hkr hf (by simpa using hl)
  have hmu := mu_le hI'
  have hok := okS_of (old := oldA sn lt') 500 (flA lv mem') hI' (fun _ => hmu)
  obtain ⟨t1, t2, t3, t4, -⟩ := tdy_inv (old := oldA sn lt') 500 (flA lv mem') hI' (fun _ => hmu)
  have hml : 0 < mem'.length := List.length_pos_iff.mpr hne
  have hcl : cl 0 (flA lv mem').1 = cl 0 lv.1 + 1 := by
    show cl 0 ((lv.2.2.1, 0, srt mem'.reverse) :: lv.1) = _
    unfold cl
    rw [List.countP_cons]
    simp
  refine ⟨⟨insA_srt (List.reverse_perm _).symm hkk (List.pairwise_append.mp hf).1, fun r hr => (hk r hr).2.2, hl, ?_, hok⟩, okS_okT 500 _ hok, t1, fun h0 => ?_, ?_, fun r hr => ?_⟩
  · have := ne_le hI.wf.1
    omega
  · rcases t4 with h9 | h9
    · exact absurd h0 h9
    · rcases full_cases (tdyC (oldA sn lt') 500 (flA lv mem')) with ⟨h8, -⟩ | ⟨h8, -⟩ | ⟨h8, -⟩ | ⟨-, h8, -⟩
      · rw [h9] at h8; exact absurd h8 (by decide)
      · rw [h9] at h8; exact absurd h8 (by decide)
      · rw [h9] at h8; exact absurd h8 (by decide)
      · omega
  · rw [hcl] at t3
    by_cases h0 : lv.2.1 = 0
    · have := hc3 h0; omega
    · have : ¬ 8 ≤ cl 0 lv.1 := fun h9 => hb ⟨h0, h9⟩
      omega
  · have h9 := t2 r hr
    have h9 : r ∈ fl ((lv.2.2.1, 0, srt mem'.reverse) :: lv.1) := h9
    rw [fl_cons] at h9
    rcases List.mem_append.mp h9 with h9 | h9
    · have := (srt_mem hkk).mp h9
      exact Or.inl (by simpa using this)
    · exact Or.inr h9
/-- a record is written -/
theorem write_ok {ps : List Row} (h : Inv lv mem recs syn bt sn lt) (hps : ∀ r ∈ ps, okK r) (hl : ps.length ≤ 4) (hp : 0 < ps.length) (hlt : lt < 100000) :
    wOK lv mem recs sn lt ps ∧ (¬ fullA lv mem ps.length → wOKR lv mem recs sn lt ps ∧ ∀ bt', (∀ ps, bt' = some ps → ∀ r ∈ ps, okK r) → Inv (wrA lv mem recs syn sn lt ps).1 (wrA lv mem recs syn sn lt ps).2.1 (wrA lv mem recs syn sn lt ps).2.2.1 (wrA lv mem recs syn sn lt ps).2.2.2 bt' sn (lt + ps.length)) := by
  obtain ⟨m1, m2, m3⟩ := mem_more h hps hl hlt
  obtain ⟨h1, h2, h3, h4, h5, h6, h7, h8, h9, h10, h11, h12, h13⟩ := h
  have hr8 : recs.length < 8 := by have := recs_le h9; omega
  have hfl : ¬ fullA lv mem ps.length → 8 ≤ mem.length + ps.length → _ := fun hfu h8' => flush_ok (sn := sn) (mem' := mem ++ recd lt 0 ps) (lt' := lt + ps.length) h1 h2 h3 (fun h => hfu (Or.inr h)) (fun h => by
    have := congrArg List.length h
    simp only [List.length_append, recd_len, List.length_nil] at this
    omega) m1 m2 (by
    have : ¬ 240 < mem.length + (fl lv.1).length + ps.length := fun h => hfu (Or.inl h)
    simp only [List.length_append, recd_len]
    omega)
  refine ⟨⟨hr8, h5, fun r hr => (h6 r hr).1, h1.wf.1, fun hfu h8' => (hfl hfu h8').2.1⟩, fun hfu => ⟨⟨hr8, h5, fun h8' => (hfl hfu h8').1⟩, fun bt' hbt' => ?_⟩⟩
  have hnf : ¬ 240 < mem.length + (fl lv.1).length + ps.length := fun h => hfu (Or.inl h)
  unfold wrA
  by_cases hx : mem.length + ps.length < 8
  · simp only [if_pos hx]
    refine ⟨h1, h2, h3, by simp only [List.length_append, recd_len]; omega, by simp only [List.length_append, recd_len]; omega, m1, m2, m3, fun x hx => ?_, by simp; omega, by simp [recd_len, h11], hbt', h13⟩
    simp only [List.mem_append, List.mem_singleton] at hx
    rcases hx with hx | hx
    · exact h9 x hx
    · omega
  · simp only [if_neg hx]
    obtain ⟨-, -, f3, f4, f5, f6⟩ := hfl hfu (by omega)
    refine ⟨f3, f4, f5, by have := f3.2.2.2; simpa using this, by simp, by simp, by simpa using f3.2.2.1, fun r hr => ?_, by simp, by simp, by simp, hbt', h13⟩
    rcases f6 r (by simpa using hr) with h | h
    · exact m3 r (by simp only [List.mem_append] at h ⊢; exact Or.inl h)
    · exact m3 r (by simp [h])
theorem clamp_nn {x : Int32} (h : 0 ≤ x) : nI x.toNatClampNeg = x := by
  apply Int32.toInt_inj.mp
  rw [i_le] at h
  have h1 : (0 : Int32).toInt = 0 := by decide
  rw [h1] at h
  unfold nI
  rw [Int32.toInt_ofNat_of_lt (by have := x.toNatClampNeg_lt; omega)]
  unfold Int32.toNatClampNeg
  omega
theorem mxN_mem (xs : List Row) : ∀ m : Int32, ∀ r ∈ xs, r.2.1 ≤ mxN m xs := by
  induction xs with
  | nil => intro m r hr; simp at hr
  | cons q xs ih =>
    intro m r hr
    rw [mxN_cons]
    rcases List.mem_cons.mp hr with rfl | hr
    · have := mxN_ge xs (if m < r.2.1 then r.2.1 else m)
      refine Int32.le_trans ?_ this
      by_cases h : m < r.2.1
      · rw [if_pos h]; exact Int32.le_refl _
      · rw [if_neg h]; exact Int32.not_lt.mp h
    · exact ih _ r hr
theorem mxN_le {u : Int32} (xs : List Row) : ∀ m : Int32, m ≤ u → (∀ r ∈ xs, r.2.1 ≤ u) → mxN m xs ≤ u := by
  induction xs with
  | nil => intro m h _; exact h
  | cons q xs ih =>
    intro m h hx
    rw [mxN_cons]
    refine ih _ ?_ (fun r hr => hx r (by simp [hr]))
    split
    · exact hx q (by simp)
    · exact h
theorem crash_ok {k : Nat} (h : Inv lv mem recs syn bt sn lt) (hlt : lt < 100000) :
    ∃ lt', grt (mem.take (recs.take (syn + k)).sum) lv.1 = nI lt' ∧ lt' ≤ lt ∧ Inv lv (mem.take (recs.take (syn + k)).sum) (recs.take (syn + k)) (min (syn + k) recs.length) none (fun _ => -1) lt' := by
  obtain ⟨h1, h2, h3, h4, h5, h6, h7, h8, h9, h10, h11, h12, h13⟩ := h
  have hg0 : 0 ≤ grt (mem.take (recs.take (syn + k)).sum) lv.1 := by
    unfold grt
    split
    · exact mxN_ge _ _
    · exact mxN_ge _ _
  have hz : (0 : Int32) ≤ nI lt := by
    have : (0 : Int32) = nI 0 := by decide
    rw [this]; exact nI_le (by omega) (by omega)
  have hgle : grt (mem.take (recs.take (syn + k)).sum) lv.1 ≤ nI lt := by
    unfold grt
    split
    · exact mxN_le _ _ hz (fun r hr => h8 r (by simp [hr]))
    · exact mxN_le _ _ hz (fun r hr => h8 r (by simp [List.mem_of_mem_take hr]))
  have hmx : ∀ r ∈ mem.take (recs.take (syn + k)).sum ++ fl lv.1, r.2.1 ≤ grt (mem.take (recs.take (syn + k)).sum) lv.1 := fun r hr => by
    unfold grt
    rcases List.mem_append.mp hr with hr | hr
    · have := mxN_mem _ 0 r hr
      by_cases hx : mxN 0 (mem.take (recs.take (syn + k)).sum) < mxN 0 (fl lv.1)
      · rw [if_pos hx]; simp only [i_lt, i_le] at *; omega
      · rw [if_neg hx]; exact this
    · have := mxN_mem _ 0 r hr
      by_cases hx : mxN 0 (mem.take (recs.take (syn + k)).sum) < mxN 0 (fl lv.1)
      · rw [if_pos hx]; exact this
      · rw [if_neg hx]; simp only [i_lt, i_le] at *; omega
  have hcl := clamp_nn hg0
  have hsl : (recs.take (syn + k)).sum ≤ mem.length := by
    rw [← h11]
    conv => rhs; rw [← List.take_append_drop (syn + k) recs]
    rw [List.sum_append]
    omega
  refine ⟨(grt (mem.take (recs.take (syn + k)).sum) lv.1).toNatClampNeg, hcl.symm, ?_, h1, h2, h3, by simp; omega, by simp; omega, fun r hr => h6 r (List.mem_of_mem_take hr), ?_, by rw [hcl]; exact hmx, fun x hx => h9 x (List.mem_of_mem_take hx), by simp, by simp; omega, (fun ps hps => by cases hps), fun i _ => Or.inl rfl⟩
  · rw [← hcl] at hgle
    have h0 : (grt (mem.take (recs.take (syn + k)).sum) lv.1).toNatClampNeg < 2 ^ 31 := Int32.toNatClampNeg_lt _
    apply Classical.byContradiction
    intro hn
    exact absurd hgle (nI_ge (by omega) (by omega))
  · refine h7.sublist (List.Sublist.append ?_ (List.Sublist.refl _))
    exact (List.take_sublist _ _).reverse
theorem giveUp_ok (h : Inv lv mem recs syn bt sn lt) : okS (oldA sn lt) 500 (lsA lv) ∧ okT (oldA sn lt) 500 (lsA lv) ∧ (∀ t ∈ lv.1, blkT t) ∧ Inv (tdyC (oldA sn lt) 500 (lsA lv)) mem recs syn bt sn lt := by
  obtain ⟨h1, h2, h3, h4, h5, h6, h7, h8, h9, h10, h11, h12, h13⟩ := h
  have hI' : InvT (lsA lv).1 := lsp_inv h1
  have hmu := mu_le hI'
  have hok := okS_of (old := oldA sn lt) 500 (lsA lv) hI' (fun _ => hmu)
  obtain ⟨t1, t2, t3, t4, t5⟩ := tdy_inv (old := oldA sn lt) 500 (lsA lv) hI' (fun _ => hmu)
  have hsub : ∀ r ∈ fl (tdyC (oldA sn lt) 500 (lsA lv)).1, r ∈ fl lv.1 := fun r hr => (lsp_sub lv.1).mem (t2 r hr)
  have hcl := lsp_cl 0 lv.1
  have t3 : cl 0 (tdyC (oldA sn lt) 500 (lsA lv)).1 ≤ cl 0 (lsp lv.1) := t3
  refine ⟨hok, okS_okT 500 _ hok, fun t ht => (h1.1 t ht).2.2.2.1, t1, fun h0 => ?_, by omega, ?_, h5, h6, ?_, fun r hr => ?_, h9, h10, h11, h12, h13⟩
  · rcases t4 with h | h
    · exact absurd h0 h
    · rcases full_cases (tdyC (oldA sn lt) 500 (lsA lv)) with ⟨h8, -⟩ | ⟨h8, -⟩ | ⟨h8, -⟩ | ⟨-, h8, -⟩
      · rw [h] at h8; exact absurd h8 (by decide)
      · rw [h] at h8; exact absurd h8 (by decide)
      · rw [h] at h8; exact absurd h8 (by decide)
      · omega
  · have hle := (lsp_sub lv.1).length_le
    have t5 : (fl (tdyC (oldA sn lt) 500 (lsA lv)).1).length ≤ (fl (lsp lv.1)).length := t5
    omega
  · rw [List.pairwise_append] at h7 ⊢
    exact ⟨h7.1, t1.2.2.1, fun a ha b hb => h7.2.2 a ha b (hsub b hb)⟩
  · rcases List.mem_append.mp hr with hr | hr
    · exact h8 r (by simp [hr])
    · exact h8 r (by simp [hsub r hr])
theorem spoil_ok {i b : Nat} {t : Tab} (h : Inv lv mem recs syn bt sn lt) (ht : lv.1[i]? = some t) (hb : 4 * b < t.2.2.length) : Inv (lv.1.take i ++ (t.1, t.2.1, spR b t.2.2) :: lv.1.drop (i + 1), lv.2) mem recs syn bt sn lt := by
  obtain ⟨h1, h2, h3, h4, h5, h6, h7, h8, h9, h10, h11, h12, h13⟩ := h
  obtain ⟨s1, s2, s3⟩ := spR_inv h1 ht hb
  have hl : (fl (lv.1.take i ++ (t.1, t.2.1, spR b t.2.2) :: lv.1.drop (i + 1))).length = (fl lv.1).length := by
    have := congrArg List.length s2
    simpa using this
  refine ⟨s1, fun h0 => by rw [s3]; exact h2 h0, by rw [s3]; exact h3, by show (fl (lv.1.take i ++ (t.1, t.2.1, spR b t.2.2) :: lv.1.drop (i + 1))).length + _ ≤ 240; omega, h5, h6, ?_, fun r hr => ?_, h9, h10, h11, h12, h13⟩
  · refine (fal_c4 ?_).mpr h7
    show (mem.reverse ++ fl (lv.1.take i ++ (t.1, t.2.1, spR b t.2.2) :: lv.1.drop (i + 1))).map c4 = _
    rw [List.map_append, List.map_append, s2]
  · rcases List.mem_append.mp hr with hr | hr
    · exact h8 r (by simp [hr])
    · obtain ⟨q, q1, q2, q3⟩ := c4_mem s2 hr
      rw [← q3]
      exact h8 q (by simp [q1])
