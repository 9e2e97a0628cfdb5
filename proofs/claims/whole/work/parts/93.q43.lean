/-! PURE, 43: the class and the reference answer alike, the rest -/
variable {F : Nat} {w w' w1 : ga_W} {thr : Int32}
theorem jGet {S : St} {k x : Int32} (hF : 1000 < F) (hB : sB w thr S) (hI : sI S) : Jn (fun w => f_W_get F 0 k x 78 w) (fun w => f_R_get F 54 k x w) w (sTm S) := by
  obtain ⟨lv, mem, recs, syn, bt, sn, lt, rd, ms, gt⟩ := S
  have hI0 : Inv lv mem recs syn bt sn lt := hI
  have hL0 : isL w lv mem recs syn bt sn lt rd ms gt := hB.1
  obtain ⟨h1, h2, h3, h4, h5, h6, h7, h8, h9, h10, h11, h12, h13⟩ := id hI0
  obtain ⟨l1, l2, l3⟩ := zL_get (F := F) (key := k) (x := x) hF hL0 h1.wf.1
  have rr := fun (w : ga_W) (h : isR w thr lv mem recs syn bt sn lt rd ms gt) => zR_get (F := F) (key := k) (x := x) hF h13 h h1.wf.1
  generalize hh : (fun (x5 : Nat) (w4 : ga_W) => (if x5 = 0 then ((some (.inl (some (.int (1 : Int32))), w4)) : ga_O) else (if x5 = 1 then (some (.inl (some (.int (2 : Int32))), w4)) else (if x5 = 2 then (some (.inl (some (.int (3 : Int32))), w4)) else (if x5 = 3 then (some (.inl (some (.int (4 : Int32))), w4)) else none))))) = H
  have hj : ∀ fr, Jn (fun w => Wk H (f_L_get F 0 k x w) w) fr w lt → Jn (fun w => f_W_get F 0 k x 78 w) fr w lt := fun fr h => by rw [← hh] at h; exact h
  apply hj
  by_cases hb : (0 ≤ k ∧ k ≤ 63) ∧ (-1 ≤ x ∧ x ≤ 3)
  · by_cases hfr : 0 ≤ x ∧ sn x.toNatClampNeg = -1
    · exact JnX (x := 2) (c := 3) (S' := (lv, mem, recs, syn, bt, sn, lt, rd, ms, gt)) hB ⟨_, l2 hb.1 hb.2 hfr, hB.1.x, pu_Lx⟩ (fun _ => by rw [← hh]; rfl) (by decide) (fun w h => (rr w h).2.1 hb.1 hb.2 hfr) hI (by show lt ≤ lt + 4; omega)
    · obtain ⟨w1, o1, o2, o3⟩ := l3 hb.1 hb.2 hfr
      have rg := fun (w : ga_W) (h : isR w thr lv mem recs syn bt sn lt rd ms gt) => (rr w h).2.2 hb.1 hb.2 hfr (fun t ht hk => look_ok (h1.1 t ht) hk)
      generalize hA : lkA k (seen sn lt x) mem lv.1 = A at *
      obtain ⟨a1, a2, a3⟩ := A
      have hS' : sI (lv, mem, recs, syn, bt, sn, lt, rd + nI a1, ms + nI a2, gt + 1) := hI0
      match a3, o1, rg with
      | none, o1, rg =>
        exact JnX (x := 1) (c := 2) (S' := (lv, mem, recs, syn, bt, sn, lt, rd + nI a1, ms + nI a2, gt + 1)) hB ⟨_, o1, isL.x o2, o3.Lx (by omega)⟩ (fun _ => by rw [← hh]; rfl) (by decide) (fun w h => by
          obtain ⟨w', v, r1, r2, -, r3⟩ := rg w h
          exact ⟨w', v, r1, r2, r3⟩) hS' (by show lt ≤ lt + 4; omega)
      | some none, o1, rg =>
        exact JnX (x := 3) (c := 4) (S' := (lv, mem, recs, syn, bt, sn, lt, rd + nI a1, ms + nI a2, gt + 1)) hB ⟨_, o1, isL.x o2, o3.Lx (by omega)⟩ (fun _ => by rw [← hh]; rfl) (by decide) (fun w h => by
          obtain ⟨w', v, r1, r2, -, r3⟩ := rg w h
          exact ⟨w', v, r1, r2, r3⟩) hS' (by show lt ≤ lt + 4; omega)
      | some (some q), o1, rg =>
        by_cases hz : q.2.2.2.1 = 0
        · have hcd : cdG (some (some q)) = 0 := by unfold cdG; simp only [if_pos hz]
          have o1 : (if q.2.2.2.1 = 0 then f_L_get F 0 k x w = some (.inl (some (.int q.2.2.1)), w1) else f_L_get F 0 k x w = some (.inr 3, xw w1)) := o1
          rw [if_pos hz] at o1
          exact JnV (v := q.2.2.1) (S' := (lv, mem, recs, syn, bt, sn, lt, rd + nI a1, ms + nI a2, gt + 1)) hB ⟨_, o1, o2, o3.L (by omega)⟩ (fun w h => by
            obtain ⟨w', v, r1, r2, r4, r3⟩ := rg w h
            have hv : v = q.2.2.1 := (r4 q rfl).resolve_right (fun h9 => h9 hz)
            rw [hv] at r1
            rw [hcd] at r2
            exact ⟨w', r1, r2, r3⟩) hS' (by show lt ≤ lt + 4; omega)
        · have hcd : cdG (some (some q)) = 4 := by unfold cdG; simp only [if_neg hz]
          have o1 : (if q.2.2.2.1 = 0 then f_L_get F 0 k x w = some (.inl (some (.int q.2.2.1)), w1) else f_L_get F 0 k x w = some (.inr 3, xw w1)) := o1
          rw [if_neg hz] at o1
          exact JnX (x := 3) (c := 4) (S' := (lv, mem, recs, syn, bt, sn, lt, rd + nI a1, ms + nI a2, gt + 1)) hB ⟨_, o1, isL.x o2, o3.Lx (by omega)⟩ (fun _ => by rw [← hh]; rfl) (by decide) (fun w h => by
            obtain ⟨w', v, r1, r2, r4, r3⟩ := rg w h
            rw [hcd] at r2
            exact ⟨w', v, r1, r2, r3⟩) hS' (by show lt ≤ lt + 4; omega)
  · exact JnX (x := 0) (c := 1) (S' := (lv, mem, recs, syn, bt, sn, lt, rd, ms, gt)) hB ⟨_, l1 hb, hB.1.x, pu_Lx⟩ (fun _ => by rw [← hh]; rfl) (by decide) (fun w h => (rr w h).1 hb) hI (by show lt ≤ lt + 4; omega)
theorem key1 {key : Int32} (h : -1 ≤ key ∧ key ≤ 63) : ∃ k, k ≤ 64 ∧ key + 1 = nI k := by
  by_cases h0 : 0 ≤ key
  · obtain ⟨j, hj, rfl⟩ := in59 (m := 63) (by decide) ⟨h0, h.2⟩
    exact ⟨j + 1, by omega, nI_1 j⟩
  · have : key = -1 := by
      have h1 := h.1
      rw [i_le] at h0 h1
      rw [i_eq]
      have e1 : (-1 : Int32).toInt = -1 := by decide
      have e2 : (0 : Int32).toInt = 0 := by decide
      omega
    exact ⟨0, by omega, by rw [this]; decide⟩
theorem jNext {S : St} {k x : Int32} (hF : 1000 < F) (hB : sB w thr S) (hI : sI S) : Jn (fun w => f_W_next F 0 k x 78 w) (fun w => f_R_next F 54 k x w) w (sTm S) := by
  obtain ⟨lv, mem, recs, syn, bt, sn, lt, rd, ms, gt⟩ := S
  have hI0 : Inv lv mem recs syn bt sn lt := hI
  have hL0 : isL w lv mem recs syn bt sn lt rd ms gt := hB.1
  obtain ⟨h1, h2, h3, h4, h5, h6, h7, h8, h9, h10, h11, h12, h13⟩ := id hI0
  obtain ⟨l1, l2, l3⟩ := zL_next (F := F) (key := k) (x := x) hF hL0 h1.wf.1
  have rr := fun (w : ga_W) (h : isR w thr lv mem recs syn bt sn lt rd ms gt) => zR_next (F := F) (key := k) (x := x) hF h13 h
  generalize hh : (fun (x5 : Nat) (w4 : ga_W) => (if x5 = 0 then ((some (.inl (some (.int (1 : Int32))), w4)) : ga_O) else (if x5 = 2 then (some (.inl (some (.int (2 : Int32))), w4)) else (if x5 = 3 then (some (.inl (some (.int (3 : Int32))), w4)) else none)))) = H
  have hj : ∀ fr, Jn (fun w => Wk H (f_L_next F 0 k x w) w) fr w lt → Jn (fun w => f_W_next F 0 k x 78 w) fr w lt := fun fr h => by rw [← hh] at h; exact h
  apply hj
  by_cases hb : (-1 ≤ k ∧ k ≤ 63) ∧ (-1 ≤ x ∧ x ≤ 3)
  · by_cases hfr : 0 ≤ x ∧ sn x.toNatClampNeg = -1
    · exact JnX (x := 2) (c := 2) (S' := (lv, mem, recs, syn, bt, sn, lt, rd, ms, gt)) hB ⟨_, l2 hb.1 hb.2 hfr, hB.1.x, pu_Lx⟩ (fun _ => by rw [← hh]; rfl) (by decide) (fun w h => (rr w h).2.1 hb.1 hb.2 hfr) hI (by show lt ≤ lt + 4; omega)
    · obtain ⟨j, hj64, hjk⟩ := key1 hb.1
      have e1 := l3 j hb.1 hjk hj64 hb.2 hfr
      have rg := fun (w : ga_W) (h : isR w thr lv mem recs syn bt sn lt rd ms gt) => (rr w h).2.2 j hb.1 hjk hj64 hb.2 hfr (fun q _ => find_hv lv.1 h1.1)
      cases hn : nxt (seen sn lt x) mem lv.1 (64 - j) j with
      | some i =>
        rw [hn] at e1
        exact JnV (v := nI i) (S' := (lv, mem, recs, syn, bt, sn, lt, rd, ms, gt)) hB ⟨_, e1, hB.1, pu_L.rf⟩ (fun w h => by
          obtain ⟨w', r1, r2⟩ := rg w h
          rw [hn] at r1
          exact ⟨w', r1.1, r1.2, r2⟩) hI (by show lt ≤ lt + 4; omega)
      | none =>
        rw [hn] at e1
        exact JnX (x := 3) (c := 3) (S' := (lv, mem, recs, syn, bt, sn, lt, rd, ms, gt)) hB ⟨_, e1, hB.1.x, pu_Lx⟩ (fun _ => by rw [← hh]; rfl) (by decide) (fun w h => by
          obtain ⟨w', r1, r2⟩ := rg w h
          rw [hn] at r1
          exact ⟨w', 0, r1.1, r1.2, r2⟩) hI (by show lt ≤ lt + 4; omega)
  · exact JnX (x := 0) (c := 1) (S' := (lv, mem, recs, syn, bt, sn, lt, rd, ms, gt)) hB ⟨_, l1 hb, hB.1.x, pu_Lx⟩ (fun _ => by rw [← hh]; rfl) (by decide) (fun w h => (rr w h).1 hb) hI (by show lt ≤ lt + 4; omega)
theorem snOk_up {sn : Nat → Int32} {i : Nat} {x : Int32} (h : snOk sn) (hx : x = -1 ∨ 0 ≤ x) : snOk (pu_up sn i x) := fun j hj => by
  simp only [pu_up]
  split
  · exact hx
  · exact h j hj
theorem jSnapshot {S : St} (hF : 1000 < F) (hB : sB w thr S) (hI : sI S) (hlt : sTm S < 100000) : Jn (fun w => f_W_snapshot F 0 78 w) (fun w => f_R_snapshot F 54 w) w (sTm S) := by
  obtain ⟨lv, mem, recs, syn, bt, sn, lt, rd, ms, gt⟩ := S
  have hI0 : Inv lv mem recs syn bt sn lt := hI
  have hlt0 : lt < 100000 := hlt
  have hL0 : isL w lv mem recs syn bt sn lt rd ms gt := hB.1
  obtain ⟨h1, h2, h3, h4, h5, h6, h7, h8, h9, h10, h11, h12, h13⟩ := id hI0
  obtain ⟨l1, l2⟩ := zL_snapshot (F := F) hF hL0
  have rr := fun (w : ga_W) (h : isR w thr lv mem recs syn bt sn lt rd ms gt) => zR_snapshot (F := F) hF h13 h
  generalize hh : (fun (x5 : Nat) (w4 : ga_W) => (if x5 = 1 then ((some (.inl (some (.int (1 : Int32))), w4)) : ga_O) else none)) = H
  have hj : ∀ fr, Jn (fun w => Wk H (f_L_snapshot F 0 w) w) fr w lt → Jn (fun w => f_W_snapshot F 0 78 w) fr w lt := fun fr h => by rw [← hh] at h; exact h
  apply hj
  have hz : (0 : Int32) ≤ nI lt := by
    have : (0 : Int32) = nI 0 := by decide
    rw [this]; exact nI_le (by omega) (by omega)
  cases hf : frS sn with
  | some i => exact JnV (v := nI i) (S' := (lv, mem, recs, syn, bt, pu_up sn i (nI lt), lt, rd, ms, gt)) hB (l1 i hf) (fun w h => (rr w h).1 i hf) ⟨h1, h2, h3, h4, h5, h6, h7, h8, h9, h10, h11, h12, snOk_up h13 (Or.inr hz)⟩ (by show lt ≤ lt + 4; omega)
  | none => exact JnX (x := 1) (c := 1) (S' := (lv, mem, recs, syn, bt, sn, lt, rd, ms, gt)) hB ⟨_, l2 hf, hB.1.x, pu_Lx⟩ (fun _ => by rw [← hh]; rfl) (by decide) (fun w h => (rr w h).2 hf) hI (by show lt ≤ lt + 4; omega)
theorem jRelease {S : St} {x : Int32} (hB : sB w thr S) (hI : sI S) : Jn (fun w => f_W_release F 0 x 78 w) (fun w => f_R_release F 54 x w) w (sTm S) := by
  obtain ⟨lv, mem, recs, syn, bt, sn, lt, rd, ms, gt⟩ := S
  have hI0 : Inv lv mem recs syn bt sn lt := hI
  have hL0 : isL w lv mem recs syn bt sn lt rd ms gt := hB.1
  obtain ⟨h1, h2, h3, h4, h5, h6, h7, h8, h9, h10, h11, h12, h13⟩ := id hI0
  obtain ⟨l1, l2, l3⟩ := zL_release (F := F) (x := x) hL0
  have rr := fun (w : ga_W) (h : isR w thr lv mem recs syn bt sn lt rd ms gt) => zR_release (F := F) (x := x) h13 h
  generalize hh : (fun (x5 : Nat) (w4 : ga_W) => (if x5 = 0 then ((some (.inl (some (.int (1 : Int32))), w4)) : ga_O) else (if x5 = 2 then (some (.inl (some (.int (2 : Int32))), w4)) else none))) = H
  have hj : ∀ fr, Jn (fun w => Wk H (f_L_release F 0 x w) w) fr w lt → Jn (fun w => f_W_release F 0 x 78 w) fr w lt := fun fr h => by rw [← hh] at h; exact h
  apply hj
  by_cases hx : 0 ≤ x ∧ x ≤ 3
  · obtain ⟨i, hi, hxi⟩ := in4 hx
    by_cases hs : sn i = -1
    · exact JnX (x := 2) (c := 2) (S' := (lv, mem, recs, syn, bt, sn, lt, rd, ms, gt)) hB ⟨_, l2 i hi hxi hs, hB.1.x, pu_Lx⟩ (fun _ => by rw [← hh]; rfl) (by decide) (fun w h => (rr w h).2.1 i hi hxi hs) hI (by show lt ≤ lt + 4; omega)
    · exact JnV (v := sn i) (S' := (lv, mem, recs, syn, bt, pu_up sn i (-1), lt, rd, ms, gt)) hB (l3 i hi hxi hs) (fun w h => (rr w h).2.2 i hi hxi hs) ⟨h1, h2, h3, h4, h5, h6, h7, h8, h9, h10, h11, h12, snOk_up h13 (Or.inl rfl)⟩ (by show lt ≤ lt + 4; omega)
  · exact JnX (x := 0) (c := 1) (S' := (lv, mem, recs, syn, bt, sn, lt, rd, ms, gt)) hB ⟨_, l1 hx, hB.1.x, pu_Lx⟩ (fun _ => by rw [← hh]; rfl) (by decide) (fun w h => (rr w h).1 hx) hI (by show lt ≤ lt + 4; omega)
theorem jSpoil {S : St} {x y : Int32} (hF : 1000 < F) (hB : sB w thr S) (hI : sI S) : Jn (fun w => f_W_spoil F 0 x y 78 w) (fun w => f_R_spoil F 54 x y w) w (sTm S) := by
  obtain ⟨lv, mem, recs, syn, bt, sn, lt, rd, ms, gt⟩ := S
  have hI0 : Inv lv mem recs syn bt sn lt := hI
  have hL0 : isL w lv mem recs syn bt sn lt rd ms gt := hB.1
  obtain ⟨l1, l2, l3⟩ := zL_spoil (F := F) (x := x) (y := y) hF hL0
  have rr := fun (w : ga_W) (h : isR w thr lv mem recs syn bt sn lt rd ms gt) => zR_spoil (F := F) (x := x) (y := y) hF h
  generalize hh : (fun (x5 : Nat) (w4 : ga_W) => (if x5 = 0 then ((some (.inl (some (.int (1 : Int32))), w4)) : ga_O) else (if x5 = 4 then (some (.inl (some (.int (2 : Int32))), w4)) else none))) = H
  have hj : ∀ fr, Jn (fun w => Wk H (f_L_spoil F 0 x y w) w) fr w lt → Jn (fun w => f_W_spoil F 0 x y 78 w) fr w lt := fun fr h => by rw [← hh] at h; exact h
  apply hj
  by_cases hx : (0 ≤ x ∧ x ≤ 59) ∧ (0 ≤ y ∧ y ≤ 59)
  · obtain ⟨i, hi, hxi⟩ := in59 (m := 59) (by decide) hx.1
    obtain ⟨b, hb, hyb⟩ := in59 (m := 59) (by decide) hx.2
    by_cases hc : lv.1[i]? = none ∨ ∃ t, lv.1[i]? = some t ∧ t.2.2.length ≤ 4 * b
    · exact JnX (x := 4) (c := 2) (S' := (lv, mem, recs, syn, bt, sn, lt, rd, ms, gt)) hB ⟨_, l2 i b hi hb hxi hyb hc, hB.1.x, pu_Lx⟩ (fun _ => by rw [← hh]; rfl) (by decide) (fun w h => (rr w h).2.1 i b hi hb hxi hyb hc) hI (by show lt ≤ lt + 4; omega)
    · cases ht : lv.1[i]? with
      | none => exact absurd (Or.inl ht) hc
      | some t =>
        have hlt : 4 * b < t.2.2.length := by
          apply Classical.byContradiction
          intro h9
          exact hc (Or.inr ⟨t, ht, by omega⟩)
        exact JnV (v := nI (min 4 (t.2.2.length - 4 * b))) (S' := ((lv.1.take i ++ (t.1, t.2.1, spR b t.2.2) :: lv.1.drop (i + 1), lv.2), mem, recs, syn, bt, sn, lt, rd, ms, gt)) hB (l3 i b t hi hb hxi hyb ht hlt) (fun w h => (rr w h).2.2 i b t hi hb hxi hyb ht hlt) (spoil_ok hI0 ht hlt) (by show lt ≤ lt + 4; omega)
  · exact JnX (x := 0) (c := 1) (S' := (lv, mem, recs, syn, bt, sn, lt, rd, ms, gt)) hB ⟨_, l1 hx, hB.1.x, pu_Lx⟩ (fun _ => by rw [← hh]; rfl) (by decide) (fun w h => (rr w h).1 hx) hI (by show lt ≤ lt + 4; omega)
theorem jTable {S : St} {x y : Int32} (hF : 1000 < F) (hB : sB w thr S) (hI : sI S) : Jn (fun w => f_W_table F 0 x y 78 w) (fun w => f_R_table F 54 x y w) w (sTm S) := by
  obtain ⟨lv, mem, recs, syn, bt, sn, lt, rd, ms, gt⟩ := S
  have hI0 : Inv lv mem recs syn bt sn lt := hI
  have hL0 : isL w lv mem recs syn bt sn lt rd ms gt := hB.1
  have hne := hI0.1.wf.1
  obtain ⟨l1, l2, l3⟩ := zL_table (F := F) (x := x) (y := y) hF hL0 hne
  have rr := fun (w : ga_W) (h : isR w thr lv mem recs syn bt sn lt rd ms gt) => zR_table (F := F) (x := x) (y := y) hF h hne
  generalize hh : (fun (x5 : Nat) (w4 : ga_W) => (if x5 = 0 then ((some (.inl (some (.int (1 : Int32))), w4)) : ga_O) else (if x5 = 4 then (some (.inl (some (.int (2 : Int32))), w4)) else none))) = H
  have hj : ∀ fr, Jn (fun w => Wk H (f_L_table F 0 x y w) w) fr w lt → Jn (fun w => f_W_table F 0 x y 78 w) fr w lt := fun fr h => by rw [← hh] at h; exact h
  apply hj
  by_cases hx : (0 ≤ x ∧ x ≤ 59) ∧ (0 ≤ y ∧ y ≤ 15)
  · obtain ⟨i, hi, hxi⟩ := in59 (m := 59) (by decide) hx.1
    obtain ⟨q, hq, hyq⟩ := in59 (m := 15) (by decide) hx.2
    cases ht : lv.1[i]? with
    | none => exact JnX (x := 4) (c := 2) (S' := (lv, mem, recs, syn, bt, sn, lt, rd, ms, gt)) hB ⟨_, l2 i q hi hq hxi hyq ht, hB.1.x, pu_Lx⟩ (fun _ => by rw [← hh]; rfl) (by decide) (fun w h => (rr w h).2.1 i q hi hq hxi hyq ht) hI (by show lt ≤ lt + 4; omega)
    | some t => exact JnV (v := tbV t q) (S' := (lv, mem, recs, syn, bt, sn, lt, rd, ms, gt)) hB ⟨_, l3 i q t hi hq hxi hyq ht, hB.1, pu_L.rf⟩ (fun w h => (rr w h).2.2 i q t hi hq hxi hyq ht) hI (by show lt ≤ lt + 4; omega)
  · exact JnX (x := 0) (c := 1) (S' := (lv, mem, recs, syn, bt, sn, lt, rd, ms, gt)) hB ⟨_, l1 hx, hB.1.x, pu_Lx⟩ (fun _ => by rw [← hh]; rfl) (by decide) (fun w h => (rr w h).1 hx) hI (by show lt ≤ lt + 4; omega)
theorem jCount {S : St} {x : Int32} (hF : 1000 < F) (hB : sB w thr S) (hI : sI S) : Jn (fun w => f_W_count F 0 x 78 w) (fun w => f_R_count F 54 x w) w (sTm S) := by
  obtain ⟨lv, mem, recs, syn, bt, sn, lt, rd, ms, gt⟩ := S
  have hL0 : isL w lv mem recs syn bt sn lt rd ms gt := hB.1
  obtain ⟨l1, l2⟩ := zL_count (F := F) (x := x) hF hL0
  have rr := fun (w : ga_W) (h : isR w thr lv mem recs syn bt sn lt rd ms gt) => zR_count (F := F) (x := x) hF h
  generalize hh : (fun (x5 : Nat) (w4 : ga_W) => (if x5 = 0 then ((some (.inl (some (.int (1 : Int32))), w4)) : ga_O) else none)) = H
  have hj : ∀ fr, Jn (fun w => Wk H (f_L_count F 0 x w) w) fr w lt → Jn (fun w => f_W_count F 0 x 78 w) fr w lt := fun fr h => by rw [← hh] at h; exact h
  apply hj
  by_cases hx : 0 ≤ x ∧ x ≤ 16
  · obtain ⟨q, hq, hxq⟩ := in59 (m := 16) (by decide) hx
    exact JnV (v := cnV lv mem recs syn lt rd ms gt q) (S' := (lv, mem, recs, syn, bt, sn, lt, rd, ms, gt)) hB ⟨_, l2 q hq hxq, hB.1, pu_L.rf⟩ (fun w h => (rr w h).2 q hq hxq) hI (by show lt ≤ lt + 4; omega)
  · exact JnX (x := 0) (c := 1) (S' := (lv, mem, recs, syn, bt, sn, lt, rd, ms, gt)) hB ⟨_, l1 hx, hB.1.x, pu_Lx⟩ (fun _ => by rw [← hh]; rfl) (by decide) (fun w h => (rr w h).1 hx) hI (by show lt ≤ lt + 4; omega)
/-! the two that never throw -/
def J2 (fL fR : ga_W → ga_O) (w : ga_W) (lt : Nat) : Prop := ∃ v w1 w2 S c, fL w = some (.inl (some (.int v)), w1) ∧ ga_is w1 6 54 = true ∧ fR w1 = some (.inl (some (.int v)), w2) ∧ sB w2 c S ∧ sI S ∧ sTm S ≤ lt + 4 ∧ w2.2.1 ≤ w.2.1 + 1 ∧ w2.2.2 ≤ w.2.2 + 6
theorem J2V {fL fR : ga_W → ga_O} {v : Int32} {S S' : St} (hB : sB w thr S) (hL : ∃ w1, fL w = some (.inl (some (.int v)), w1) ∧ sL w1 S' ∧ pu_L w w1) (hR : ∀ w, sR w thr S → ∃ w', fR w = some (.inl (some (.int v)), w') ∧ sR w' 0 S' ∧ pu_R w w') (hI : sI S') (hlt : sTm S' ≤ sTm S + 4) : J2 fL fR w (sTm S) := by
  obtain ⟨w1, a1, a2, a3⟩ := hL
  obtain ⟨b1, b2, b3⟩ := hB
  obtain ⟨⟨o, o1⟩, ⟨d, o2⟩⟩ := b3.L a3
  have r2 := b2.L a3
  obtain ⟨w3, d1, d2, d3⟩ := hR w1 r2
  exact ⟨v, w1, w3, S', 0, a1, r2.is, d1, ⟨a2.fr d3 (by omega), d2, ⟨o, d3.out (by omega) o1⟩, ⟨d, d3.out (by omega) o2⟩⟩, hI, hlt, by rw [d3.2.1]; exact a3.2.2.1, by rw [d3.2.1]; exact a3.2.2.2⟩
theorem jSync {S : St} (hB : sB w thr S) (hI : sI S) : J2 (fun w => f_L_sync F 0 w) (fun w => f_R_sync F 54 w) w (sTm S) := by
  obtain ⟨lv, mem, recs, syn, bt, sn, lt, rd, ms, gt⟩ := S
  have hI0 : Inv lv mem recs syn bt sn lt := hI
  have hL0 : isL w lv mem recs syn bt sn lt rd ms gt := hB.1
  obtain ⟨h1, h2, h3, h4, h5, h6, h7, h8, h9, h10, h11, h12, h13⟩ := id hI0
  exact J2V (S' := (lv, mem, recs, recs.length, bt, sn, lt, rd, ms, gt)) hB (zL_sync (F := F) hL0) (fun w h => zR_sync (F := F) (show isR w thr lv mem recs syn bt sn lt rd ms gt from h)) ⟨h1, h2, h3, h4, h5, h6, h7, h8, h9, Nat.le_refl _, h11, h12, h13⟩ (by show lt ≤ lt + 4; omega)
theorem jGiveUp {S : St} (hF : 1000 < F) (hB : sB w thr S) (hI : sI S) : J2 (fun w => f_L_giveUp F 0 w) (fun w => f_R_giveUp F 54 w) w (sTm S) := by
  obtain ⟨lv, mem, recs, syn, bt, sn, lt, rd, ms, gt⟩ := S
  have hI0 : Inv lv mem recs syn bt sn lt := hI
  have hL0 : isL w lv mem recs syn bt sn lt rd ms gt := hB.1
  obtain ⟨g1, g2, g3, g4⟩ := giveUp_ok hI0
  have hs := hI0.2.2.2.2.2.2.2.2.2.2.2.2
  exact J2V (S' := (tdyC (oldA sn lt) 500 (lsA lv), mem, recs, syn, bt, sn, lt, rd, ms, gt)) hB (zL_giveUp (F := F) hF hL0 g2) (fun w h => zR_giveUp (F := F) hF hs (show isR w thr lv mem recs syn bt sn lt rd ms gt from h) g3 g1) g4 (by show lt ≤ lt + 4; omega)
/-! effort -/
theorem nn_iff (x : UInt64) : (x &&& 0x7fffffffffffffff ≤ 0x7ff0000000000000) ↔ FP.Core.dIsNaN x = false := by
  have e1 : (0x7fffffffffffffff : UInt64).toNat = 2 ^ 63 - 1 := by decide
  have e2 : (0x7ff0000000000000 : UInt64).toNat = 9218868437227405312 := by decide
  have e3 := FP.Core.isNaN_bits x
  have e4 : (x &&& 0x7fffffffffffffff).toNat = x.toNat % 2 ^ 63 := by rw [UInt64.toNat_and, e1, Nat.and_two_pow_sub_one_eq_mod]
  rw [UInt64.le_iff_toNat_le, e4, e2]
  cases hn : FP.Core.dIsNaN x
  · rw [hn] at e3
    simp only [Bool.false_eq_true, false_iff] at e3
    simp only [iff_true]
    omega
  · have := e3.mp hn
    simp only [Bool.true_eq_false, iff_false]
    omega
theorem eff_no {rd gt : Int32} (h : ¬ gt = 0) : FP.ddiv (FP.i2d rd) (FP.i2d gt) &&& 0x7fffffffffffffff ≤ 0x7ff0000000000000 := by
  have h1 : FP.Core.dIsNaN (FP.Core.i2d rd) = false := (FP.Core.notNaN_iff _).mpr (FP.Core.i2d_fin rd).ne_nan
  have h2 : ¬ FP.Core.DZero (FP.Core.i2d gt) := fun hz => FP.Core.i2d_ne_zero h ((FP.Core.zero_bits2 _).mp hz)
  exact (nn_iff _).mpr (FP.Core.ddiv_out h1 (FP.Core.i2d_fin gt) h2)
theorem dcmp_eq {a : UInt64} (h : a &&& 0x7fffffffffffffff ≤ 0x7ff0000000000000) : Op.cmpValue (FP.dcmp a a) .l = 0 := by
  have h2 := FP.Core.dcmp_self ((FP.Core.notNaN_iff a).mp ((nn_iff a).mp h))
  show Op.cmpValue (FP.Core.dcmp a a) .l = 0
  rw [h2]
  rfl
theorem gcD {o : ga_O} {v : UInt64} {w1 : ga_W} (h : o = some (.inl (some (.double v)), w1)) (f : UInt64 → ga_W → ga_O) (g : Nat → ga_W → ga_O) : ga_c o (ga_kD f) g = f v w1 := by rw [h]; rfl
def JE (w : ga_W) (F lt : Nat) : Prop := ∃ code w1 b w2 S, f_W_effort F 0 79 w = some (.inl (some (.int code)), w1) ∧ ga_is w1 6 54 = true ∧ f_R_effort F 54 w1 = some (.inl (some (.double b)), w2) ∧ (code = 0 → ∃ a, ga_ad w2 3 79 0 = some a ∧ Op.cmpValue (FP.dcmp a b) .l = 0) ∧ sB w2 code S ∧ sI S ∧ sTm S ≤ lt + 4 ∧ w2.2.1 ≤ w.2.1 + 1 ∧ w2.2.2 ≤ w.2.2 + 6
theorem jEffort {S : St} (hB : sB w thr S) (hI : sI S) : JE w F (sTm S) := by
  obtain ⟨lv, mem, recs, syn, bt, sn, lt, rd, ms, gt⟩ := S
  have hL0 : isL w lv mem recs syn bt sn lt rd ms gt := hB.1
  obtain ⟨l1, l2⟩ := zL_effort (F := F) hL0
  have rr := fun (w : ga_W) (h : isR w thr lv mem recs syn bt sn lt rd ms gt) => zR_effort (F := F) h
  obtain ⟨b1, b2, ⟨o, o1⟩, ⟨d, o2⟩⟩ := id hB
  by_cases hg : gt = 0
  · have a3 : pu_L w (xw w) := pu_Lx
    have r2 : sR (xw w) thr (lv, mem, recs, syn, bt, sn, lt, rd, ms, gt) := b2.L a3
    obtain ⟨w3, v, d1, d2, d3⟩ := (rr (xw w) r2).1 hg
    refine ⟨1, xw w, v, w3, (lv, mem, recs, syn, bt, sn, lt, rd, ms, gt), ?_, r2.is, d1, fun h9 => absurd h9 (by decide), ⟨(b1.x).fr d3 (by omega), d2, ⟨o, d3.out (by omega) o1⟩, ⟨d, d3.out (by omega) o2⟩⟩, hI, by show lt ≤ lt + 4; omega, by rw [d3.2.1]; exact a3.2.2.1, by rw [d3.2.1]; exact a3.2.2.2⟩
    unfold f_W_effort
    simp only [↓ip b1.is, ↓gcX (l1 hg)]
    rfl
  · have hn := eff_no (rd := rd) hg
    have hsd : ∃ w2, ga_sd w 3 79 (0 : Int32) (FP.ddiv (FP.i2d rd) (FP.i2d gt)) = some w2 ∧ (∃ d2 : Nat → UInt64, w2.1[79]? = some (.inl (3, 1, .inr (.inr (.inr (.inl d2))))) ∧ ga_ad w2 3 79 0 = some (FP.ddiv (FP.i2d rd) (FP.i2d gt))) ∧ pu_F w w2 79 1 := by
      generalize FP.ddiv (FP.i2d rd) (FP.i2d gt) = x
      have hc : ¬ ((0 : Int32) < 0 ∨ 1 ≤ (0 : Int32).toNatClampNeg) := by decide
      have hz : (0 : Int32).toNatClampNeg = 0 := by decide
      have hl : 79 < w.1.length := (List.getElem?_eq_some_iff.mp o2).1
      refine ⟨(w.1.set 79 (.inl (3, 1, .inr (.inr (.inr (.inl (vf_upd d 0 x)))))), w.2), ?_, ⟨vf_upd d 0 x, ?_, ?_⟩, pu_F1⟩
      · unfold ga_sd
        rw [o2]
        simp only [hz] at hc ⊢
        simp [hc]
      · simp [hl]
      · unfold ga_ad
        simp [hl, hz, vf_upd]
    obtain ⟨w2, c1, ⟨d2', c2, c4⟩, c3⟩ := hsd
    have r2 : sR w2 thr (lv, mem, recs, syn, bt, sn, lt, rd, ms, gt) := b2.fr c3 (by omega)
    obtain ⟨w3, d1, d2, d3⟩ := (rr w2 r2).2 hg hn
    have h79 : w3.1[79]? = w2.1[79]? := d3.2.2 79 (by omega)
    refine ⟨0, w2, _, w3, (lv, mem, recs, syn, bt, sn, lt, rd, ms, gt), ?_, r2.is, d1, fun _ => ⟨FP.ddiv (FP.i2d rd) (FP.i2d gt), ?_, dcmp_eq hn⟩, ⟨(b1.fr c3 (by omega)).fr d3 (by omega), d2, ⟨o, d3.out (by omega) (c3.out (by omega) o1)⟩, ⟨d2', h79.trans c2⟩⟩, hI, by show lt ≤ lt + 4; omega, by rw [d3.2.1, c3.2.1]; omega, by rw [d3.2.1, c3.2.1]; omega⟩
    · unfold f_W_effort
      simp only [↓ip b1.is, ↓gcD (l2 hg hn), ↓bd c1]
    · rw [← c4]
      unfold ga_ad
      rw [h79]
