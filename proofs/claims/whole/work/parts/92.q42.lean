/-! PURE, 42: the class and the reference answer alike -/
variable {F : Nat} {w w' w1 : ga_W} {thr : Int32}
abbrev St : Type := LV × List Row × List Nat × Nat × Option (List Row) × (Nat → Int32) × Nat × Int32 × Int32 × Int32
def sL (w : ga_W) (S : St) : Prop := isL w S.1 S.2.1 S.2.2.1 S.2.2.2.1 S.2.2.2.2.1 S.2.2.2.2.2.1 S.2.2.2.2.2.2.1 S.2.2.2.2.2.2.2.1 S.2.2.2.2.2.2.2.2.1 S.2.2.2.2.2.2.2.2.2
def sR (w : ga_W) (thr : Int32) (S : St) : Prop := isR w thr S.1 S.2.1 S.2.2.1 S.2.2.2.1 S.2.2.2.2.1 S.2.2.2.2.2.1 S.2.2.2.2.2.2.1 S.2.2.2.2.2.2.2.1 S.2.2.2.2.2.2.2.2.1 S.2.2.2.2.2.2.2.2.2
def sI (S : St) : Prop := Inv S.1 S.2.1 S.2.2.1 S.2.2.2.1 S.2.2.2.2.1 S.2.2.2.2.2.1 S.2.2.2.2.2.2.1
def sTm (S : St) : Nat := S.2.2.2.2.2.2.1
def sO (w : ga_W) : Prop := (∃ o : Nat → Int64, w.1[78]? = some (.inl (2, 1, .inr (.inl o)))) ∧ (∃ d : Nat → UInt64, w.1[79]? = some (.inl (3, 1, .inr (.inr (.inr (.inl d))))))
def sB (w : ga_W) (thr : Int32) (S : St) : Prop := sL w S ∧ sR w thr S ∧ sO w
theorem sL.fr {S : St} {e k : Nat} (h : sL w S) (hf : pu_F w w' e k) (he : 54 ≤ e) : sL w' S := by
  obtain ⟨h0, h1, h2, ⟨pd, h3, h4⟩, h5⟩ := h
  exact ⟨h0.fr hf (by omega), h1.fr hf (by omega), h2.fr hf (by omega), ⟨pd, h3.fr hf (by omega), h4⟩, h5.fr hf (by omega)⟩
theorem sR.fr {S : St} {e k : Nat} (h : sR w thr S) (hf : pu_F w w' e k) (he : 78 ≤ e ∨ e + k ≤ 54) : sR w' thr S := by
  obtain ⟨sc, ⟨b1, b2, b3, b4, b5, b7, b8⟩, h0⟩ := h
  exact ⟨sc, ⟨b1.frK (X := [(e, k)]) (hf.K (by simp)) (fun q hq => by simp at hq; subst hq; simp; omega), b2.fr hf (by omega) rfl, b3.fr hf (by omega) rfl rfl, b4, b5.fr hf (by omega) rfl, b7.fr hf (by omega), b8⟩, h0⟩
theorem sR.re {S : St} {x : Nat × Nat} (h : sR (w.1, x) thr S) : sR w thr S := h
theorem sR.L {S : St} (h : sR w thr S) (hl : pu_L w w1) : sR w1 thr S := by
  have h1 : pu_F w (w1.1, w.2) 0 54 := ⟨hl.1, rfl, fun a ha => hl.2.1 a (by omega)⟩
  exact sR.re (h.fr h1 (by omega))
theorem sO.L (h : sO w) (hl : pu_L w w1) : sO w1 := by
  obtain ⟨⟨o, h1⟩, ⟨d, h2⟩⟩ := h
  exact ⟨⟨o, (hl.2.1 78 (by omega)).trans h1⟩, ⟨d, (hl.2.1 79 (by omega)).trans h2⟩⟩
theorem sR.is {S : St} (h : sR w thr S) : ga_is w 6 54 = true := by
  obtain ⟨sc, h1, -⟩ := h
  exact rR_is h1.h
theorem sL.is {S : St} (h : sL w S) : ga_is w 5 0 = true := rL_is h.1
noncomputable def Wk (h : Nat → ga_W → ga_O) (fL : ga_O) (w : ga_W) : ga_O := (if ga_is w 5 0 = true then ga_c fL (ga_kI fun v2 w1 => ((ga_sl w1 2 78 (0 : Int32) (Int32.toInt64 v2)).bind fun w3 => (some (.inl (some (.int (0 : Int32))), w3)))) h else none)
def Jn (fW fR : ga_W → ga_O) (w : ga_W) (lt : Nat) : Prop := ∃ code w1 b w2 S, fW w = some (.inl (some (.int code)), w1) ∧ ga_is w1 6 54 = true ∧ fR w1 = some (.inl (some (.int b)), w2) ∧ (code = 0 → ga_al w2 2 78 0 = some (Int32.toInt64 b)) ∧ sB w2 code S ∧ sI S ∧ sTm S ≤ lt + 4 ∧ w2.2.1 ≤ w.2.1 + 1 ∧ w2.2.2 ≤ w.2.2 + 6
theorem Jn.R {fW fR fR' : ga_W → ga_O} {lt : Nat} (h : Jn fW fR w lt) (hr : ∀ w b w', ga_is w 6 54 = true → fR w = some (.inl (some (.int b)), w') → fR' w = some (.inl (some (.int b)), w')) : Jn fW fR' w lt := by
  obtain ⟨c, w1, b, w2, S, h1, h2, h3, h4⟩ := h
  exact ⟨c, w1, b, w2, S, h1, h2, hr _ _ _ h2 h3, h4⟩
theorem JnV {h : Nat → ga_W → ga_O} {fL fR : ga_W → ga_O} {v : Int32} {S S' : St} (hB : sB w thr S) (hL : ∃ w1, fL w = some (.inl (some (.int v)), w1) ∧ sL w1 S' ∧ pu_L w w1) (hR : ∀ w, sR w thr S → ∃ w', fR w = some (.inl (some (.int v)), w') ∧ sR w' 0 S' ∧ pu_R w w') (hI : sI S') (hlt : sTm S' ≤ sTm S + 4) : Jn (fun w => Wk h (fL w) w) fR w (sTm S) := by
  obtain ⟨w1, a1, a2, a3⟩ := hL
  obtain ⟨b1, b2, b3⟩ := hB
  obtain ⟨⟨o, o1⟩, ⟨d, o2⟩⟩ := b3.L a3
  obtain ⟨w2, c1, c2, c3⟩ := zLg_st (i := 0) (x := Int32.toInt64 v) o1 (by omega) (by omega)
  have r2 := (b2.L a3).fr c3 (by omega)
  obtain ⟨w3, d1, d2, d3⟩ := hR w2 r2
  have hout : w3.1[78]? = some (.inl (2, 1, .inr (.inl (vp_updL o 0 (Int32.toInt64 v))))) := d3.out (by omega) c2
  have hal := rLg (i := 0) hout (by omega) (by omega)
  have hv : vp_updL o 0 (Int32.toInt64 v) 0 = Int32.toInt64 v := by simp [vp_updL]
  rw [hv, nI_0] at hal
  refine ⟨0, w2, v, w3, S', ?_, r2.is, d1, fun _ => hal, ⟨(a2.fr c3 (by omega)).fr d3 (by omega), d2, ⟨_, hout⟩, ⟨d, d3.out (by omega) (c3.out (by omega) o2)⟩⟩, hI, hlt, ?_, ?_⟩
  · rw [nI_0] at c1
    unfold Wk
    simp only [↓ip b1.is, ↓gcI a1, ↓bd c1]
  · rw [d3.2.1, c3.2.1]; exact a3.2.2.1
  · rw [d3.2.1, c3.2.1]; exact a3.2.2.2
theorem JnX {h : Nat → ga_W → ga_O} {fL fR : ga_W → ga_O} {x : Nat} {c : Int32} {S S' : St} (hB : sB w thr S) (hL : ∃ w1, fL w = some (.inr x, w1) ∧ sL w1 S' ∧ pu_L w w1) (hh : ∀ w, h x w = some (.inl (some (.int c)), w)) (hc : ¬ c = 0) (hR : ∀ w, sR w thr S → ∃ w' v, fR w = some (.inl (some (.int v)), w') ∧ sR w' c S' ∧ pu_R w w') (hI : sI S') (hlt : sTm S' ≤ sTm S + 4) : Jn (fun w => Wk h (fL w) w) fR w (sTm S) := by
  obtain ⟨w1, a1, a2, a3⟩ := hL
  obtain ⟨b1, b2, b3⟩ := hB
  obtain ⟨⟨o, o1⟩, ⟨d, o2⟩⟩ := b3.L a3
  have r2 := b2.L a3
  obtain ⟨w3, v, d1, d2, d3⟩ := hR w1 r2
  refine ⟨c, w1, v, w3, S', ?_, r2.is, d1, fun h9 => absurd h9 hc, ⟨a2.fr d3 (by omega), d2, ⟨o, d3.out (by omega) o1⟩, ⟨d, d3.out (by omega) o2⟩⟩, hI, hlt, ?_, ?_⟩
  · unfold Wk
    simp only [↓ip b1.is, ↓gcX a1]
    exact hh w1
  · rw [d3.2.1]; exact a3.2.2.1
  · rw [d3.2.1]; exact a3.2.2.2
noncomputable def hP : Nat → ga_W → ga_O := (fun x5 w4 => (if x5 = 0 then (some (.inl (some (.int (1 : Int32))), w4)) else (if x5 = 1 then (some (.inl (some (.int (2 : Int32))), w4)) else (if x5 = 2 then (some (.inl (some (.int (3 : Int32))), w4)) else none))))
theorem sL.x {S : St} (h : sL w S) : sL (xw w) S := isL.x h
theorem jWrite {S : St} {k v g : Int32} (hF : 1000 < F) (hg : g = 0 ∨ g = 1) (hB : sB w thr S) (hI : sI S) (hlt : sTm S < 100000) : Jn (fun w => Wk hP (putB F k v g w) w) (fun w => f_R_write F 54 k v g w) w (sTm S) := by
  obtain ⟨lv, mem, recs, syn, bt, sn, lt, rd, ms, gt⟩ := S
  have hI0 : Inv lv mem recs syn bt sn lt := hI
  have hlt0 : lt < 100000 := hlt
  have hL0 : isL w lv mem recs syn bt sn lt rd ms gt := hB.1
  obtain ⟨h1, h2, h3, h4, h5, h6, h7, h8, h9, h10, h11, h12, h13⟩ := id hI0
  obtain ⟨l1, l2, l3, l4, l5⟩ := zL_put (F := F) (key := k) (v := v) (g := g) hF hL0 hg
  have rr := fun (w : ga_W) (h : isR w thr lv mem recs syn bt sn lt rd ms gt) => zR_write (F := F) (key := k) (v := v) (g := g) hF h13 hg h3 h
  by_cases hk : 0 ≤ k ∧ k ≤ 63
  · cases bt with
    | some ps =>
      have hp4 : ps.length ≤ 4 := by
        obtain ⟨sc, ⟨-, -, -, -, ⟨B, -, hb⟩, -⟩, -⟩ := hB.2.1
        exact hb.2.1
      by_cases h4' : ps.length = 4
      · exact JnX (x := 2) (c := 3) (S' := (lv, mem, recs, syn, some ps, sn, lt, rd, ms, gt)) hB ⟨_, l2 hk ps rfl h4', hB.1.x, pu_Lx⟩ (fun _ => rfl) (by decide) (fun w h => (rr w h).2.1 hk ps rfl h4') hI (by show lt ≤ lt + 4; omega)
      · exact JnV (S' := (lv, mem, recs, syn, some (ps ++ [(k, 0, v, g, 0)]), sn, lt, rd, ms, gt)) hB (l3 hk ps rfl (by omega)) (fun w h => (rr w h).2.2.1 hk ps rfl (by omega)) ⟨h1, h2, h3, h4, h5, h6, h7, h8, h9, h10, h11, fun qs hqs r hr => by
          cases hqs
          rcases List.mem_append.mp hr with hr | hr
          · exact h12 ps rfl r hr
          · simp only [List.mem_singleton] at hr
            rw [hr]; exact okK_in hk, h13⟩ (by show lt ≤ lt + 4; omega)
    | none =>
      have hps : ∀ r ∈ [((k, 0, v, g, 0) : Row)], okK r := fun r hr => by
        simp only [List.mem_singleton] at hr
        rw [hr]; exact okK_in hk
      obtain ⟨o1, o2⟩ := write_ok (ps := [(k, 0, v, g, 0)]) hI0 hps (by simp) (by simp) hlt0
      by_cases hfu : fullA lv mem 1
      · exact JnX (x := 1) (c := 2) (S' := (lv, mem, recs, syn, none, sn, lt, rd, ms, gt)) hB (l4 hk rfl o1 hfu) (fun _ => rfl) (by decide) (fun w h => (rr w h).2.2.2.1 hk rfl hfu) hI (by show lt ≤ lt + 4; omega)
      · obtain ⟨o3, o4⟩ := o2 hfu
        exact JnV (S' := ((wrA lv mem recs syn sn lt [(k, 0, v, g, 0)]).1, (wrA lv mem recs syn sn lt [(k, 0, v, g, 0)]).2.1, (wrA lv mem recs syn sn lt [(k, 0, v, g, 0)]).2.2.1, (wrA lv mem recs syn sn lt [(k, 0, v, g, 0)]).2.2.2, none, sn, lt + 1, rd, ms, gt)) hB (l5 hk rfl o1 hfu) (fun w h => (rr w h).2.2.2.2 hk rfl hfu o3) (o4 none (fun ps h => by cases h)) (by show lt + 1 ≤ lt + 4; omega)
  · exact JnX (x := 0) (c := 1) (S' := (lv, mem, recs, syn, bt, sn, lt, rd, ms, gt)) hB ⟨_, l1 hk, hB.1.x, pu_Lx⟩ (fun _ => rfl) (by decide) (fun w h => (rr w h).1 hk) hI (by show lt ≤ lt + 4; omega)
theorem jPut {S : St} {k v : Int32} (hF : 1000 < F) (hB : sB w thr S) (hI : sI S) (hlt : sTm S < 100000) : Jn (fun w => f_W_put F 0 k v 78 w) (fun w => f_R_put F 54 k v w) w (sTm S) := by
  refine Jn.R (fR := fun w => f_R_write F 54 k v 0 w) (jWrite (k := k) (v := v) (g := 0) hF (Or.inl rfl) hB hI hlt) (fun w b w' h1 h2 => ?_)
  show f_R_put F 54 k v w = _
  unfold f_R_put
  simp only [↓ip h1, ↓gcI h2]
theorem jRemove {S : St} {k : Int32} (hF : 1000 < F) (hB : sB w thr S) (hI : sI S) (hlt : sTm S < 100000) : Jn (fun w => f_W_remove F 0 k 78 w) (fun w => f_R_remove F 54 k w) w (sTm S) := by
  refine Jn.R (fR := fun w => f_R_write F 54 k 0 1 w) (jWrite (k := k) (v := 0) (g := 1) hF (Or.inr rfl) hB hI hlt) (fun w b w' h1 h2 => ?_)
  show f_R_remove F 54 k w = _
  unfold f_R_remove
  simp only [↓ip h1, ↓gcI h2]
theorem jOpen {S : St} (hB : sB w thr S) (hI : sI S) : Jn (fun w => f_W_open F 0 78 w) (fun w => f_R_open F 54 w) w (sTm S) := by
  obtain ⟨lv, mem, recs, syn, bt, sn, lt, rd, ms, gt⟩ := S
  have hI0 : Inv lv mem recs syn bt sn lt := hI
  have hL0 : isL w lv mem recs syn bt sn lt rd ms gt := hB.1
  obtain ⟨l1, l2⟩ := zL_open (F := F) hL0
  have rr := fun (w : ga_W) (h : isR w thr lv mem recs syn bt sn lt rd ms gt) => zR_open (F := F) h
  by_cases hb : bt = none
  · exact JnV (h := fun x5 w4 => (if x5 = 1 then (some (.inl (some (.int (1 : Int32))), w4)) else none)) (S' := (lv, mem, recs, syn, some [], sn, lt, rd, ms, gt)) hB (l1 hb) (fun w h => (rr w h).1 hb) (by
      obtain ⟨h1, h2, h3, h4, h5, h6, h7, h8, h9, h10, h11, h12, h13⟩ := hI0
      exact ⟨h1, h2, h3, h4, h5, h6, h7, h8, h9, h10, h11, fun ps hps r hr => by cases hps; simp at hr, h13⟩) (by show lt ≤ lt + 4; omega)
  · exact JnX (h := fun x5 w4 => (if x5 = 1 then (some (.inl (some (.int (1 : Int32))), w4)) else none)) (x := 1) (c := 1) (S' := (lv, mem, recs, syn, bt, sn, lt, rd, ms, gt)) hB ⟨_, l2 hb, hB.1.x, pu_Lx⟩ (fun _ => rfl) (by decide) (fun w h => (rr w h).2 hb) hI (by show lt ≤ lt + 4; omega)
theorem jClose {S : St} {x : Int32} (hF : 1000 < F) (hB : sB w thr S) (hI : sI S) (hlt : sTm S < 100000) : Jn (fun w => f_W_close F 0 x 78 w) (fun w => f_R_close F 54 x w) w (sTm S) := by
  obtain ⟨lv, mem, recs, syn, bt, sn, lt, rd, ms, gt⟩ := S
  have hI0 : Inv lv mem recs syn bt sn lt := hI
  have hlt0 : lt < 100000 := hlt
  have hL0 : isL w lv mem recs syn bt sn lt rd ms gt := hB.1
  obtain ⟨h1, h2, h3, h4, h5, h6, h7, h8, h9, h10, h11, h12, h13⟩ := id hI0
  obtain ⟨l1, l2, l3, l4⟩ := zL_close (F := F) (x := x) hF hL0
  have rr := fun (w : ga_W) (h : isR w thr lv mem recs syn bt sn lt rd ms gt) => zR_close (F := F) (x := x) hF h13 h3 h
  have hIn : Inv lv mem recs syn none sn lt := ⟨h1, h2, h3, h4, h5, h6, h7, h8, h9, h10, h11, (fun ps hps => by cases hps), h13⟩
  generalize hh : (fun (x5 : Nat) (w4 : ga_W) => (if x5 = 1 then ((some (.inl (some (.int (1 : Int32))), w4)) : ga_O) else (if x5 = 2 then (some (.inl (some (.int (2 : Int32))), w4)) else none))) = H
  have hj : ∀ fr, Jn (fun w => Wk H (f_L_close F 0 x w) w) fr w lt → Jn (fun w => f_W_close F 0 x 78 w) fr w lt := fun fr h => by rw [← hh] at h; exact h
  apply hj
  cases bt with
  | none => exact JnX (x := 2) (c := 2) (S' := (lv, mem, recs, syn, none, sn, lt, rd, ms, gt)) hB ⟨_, l1 rfl, hB.1.x, pu_Lx⟩ (fun _ => by rw [← hh]; rfl) (by decide) (fun w h => (rr w h).1 rfl) hI (by show lt ≤ lt + 4; omega)
  | some ps =>
    by_cases hx : x = 0 ∨ ps = []
    · exact JnV (S' := (lv, mem, recs, syn, none, sn, lt, rd, ms, gt)) hB (l2 ps rfl hx) (fun w h => (rr w h).2.1 ps rfl hx) hIn (by show lt ≤ lt + 4; omega)
    · have hx0 : ¬ x = 0 := fun h => hx (Or.inl h)
      have hpe : ¬ ps = [] := fun h => hx (Or.inr h)
      have hp4 : ps.length ≤ 4 := by
        obtain ⟨sc, ⟨-, -, -, -, ⟨B, -, hb⟩, -⟩, -⟩ := hB.2.1
        exact hb.2.1
      have hpl : 0 < ps.length := List.length_pos_iff.mpr hpe
      obtain ⟨o1, o2⟩ := write_ok (ps := ps) hI0 (h12 ps rfl) hp4 hpl hlt0
      by_cases hfu : fullA lv mem ps.length
      · exact JnX (x := 1) (c := 1) (S' := (lv, mem, recs, syn, some ps, sn, lt, rd, ms, gt)) hB (l3 ps rfl hx0 hpe (h12 ps rfl) o1 hfu) (fun _ => by rw [← hh]; rfl) (by decide) (fun w h => (rr w h).2.2.1 ps rfl hx0 hpe hfu) hI (by show lt ≤ lt + 4; omega)
      · obtain ⟨o3, o4⟩ := o2 hfu
        exact JnV (S' := ((wrA lv mem recs syn sn lt ps).1, (wrA lv mem recs syn sn lt ps).2.1, (wrA lv mem recs syn sn lt ps).2.2.1, (wrA lv mem recs syn sn lt ps).2.2.2, none, sn, lt + ps.length, rd, ms, gt)) hB (l4 ps rfl hx0 hpe (h12 ps rfl) o1 hfu) (fun w h => (rr w h).2.2.2 ps rfl hx0 hpe o3 hfu) (o4 none (fun ps h => by cases h)) (by show lt + ps.length ≤ lt + 4; omega)
theorem jCrash {S : St} {x : Int32} (hF : 1000 < F) (hB : sB w thr S) (hI : sI S) (hlt : sTm S < 100000) : Jn (fun w => f_W_crash F 0 x 78 w) (fun w => f_R_crash F 54 x w) w (sTm S) := by
  obtain ⟨lv, mem, recs, syn, bt, sn, lt, rd, ms, gt⟩ := S
  have hI0 : Inv lv mem recs syn bt sn lt := hI
  have hlt0 : lt < 100000 := hlt
  have hL0 : isL w lv mem recs syn bt sn lt rd ms gt := hB.1
  obtain ⟨h1, h2, h3, h4, h5, h6, h7, h8, h9, h10, h11, h12, h13⟩ := id hI0
  have hsy : syn < 100 := by have := recs_le h9; omega
  generalize hh : (fun (x5 : Nat) (w4 : ga_W) => (if x5 = 0 then ((some (.inl (some (.int (1 : Int32))), w4)) : ga_O) else none)) = H
  have hj : ∀ fr, Jn (fun w => Wk H (f_L_crash F 0 x w) w) fr w lt → Jn (fun w => f_W_crash F 0 x 78 w) fr w lt := fun fr h => by rw [← hh] at h; exact h
  apply hj
  by_cases hx : 0 ≤ x ∧ x ≤ 100
  · obtain ⟨k, hk, rfl⟩ := in59 (m := 100) (by decide) hx
    obtain ⟨lt', g1, g2, g3⟩ := crash_ok (k := k) hI0 hlt0
    exact JnV (S' := (lv, mem.take (recs.take (syn + k)).sum, recs.take (syn + k), min (syn + k) recs.length, none, fun _ => -1, lt', rd, ms, gt)) hB ((zL_crash (F := F) hF hL0 hsy).2 k rfl hk g1) (fun w h => (zR_crash (F := F) hF hsy h).2 k rfl hk g1) g3 (by show lt' ≤ lt + 4; omega)
  · exact JnX (x := 0) (c := 1) (S' := (lv, mem, recs, syn, bt, sn, lt, rd, ms, gt)) hB ⟨_, (zL_crash (F := F) (lt' := 0) hF hL0 hsy).1 hx, hB.1.x, pu_Lx⟩ (fun _ => by rw [← hh]; rfl) (by decide) (fun w h => (zR_crash (F := F) (lt' := 0) hF hsy h).1 hx) hI (by show lt ≤ lt + 4; omega)
theorem jFlush {S : St} (hF : 1000 < F) (hB : sB w thr S) (hI : sI S) : Jn (fun w => f_W_flush F 0 78 w) (fun w => f_R_flush F 54 w) w (sTm S) := by
  obtain ⟨lv, mem, recs, syn, bt, sn, lt, rd, ms, gt⟩ := S
  have hI0 : Inv lv mem recs syn bt sn lt := hI
  have hL0 : isL w lv mem recs syn bt sn lt rd ms gt := hB.1
  obtain ⟨h1, h2, h3, h4, h5, h6, h7, h8, h9, h10, h11, h12, h13⟩ := id hI0
  obtain ⟨l1, l2, l3⟩ := zL_flush (F := F) hF hL0
  have rr := fun (w : ga_W) (h : isR w thr lv mem recs syn bt sn lt rd ms gt) => zR_flush (F := F) hF h13 h3 h
  generalize hh : (fun (x5 : Nat) (w4 : ga_W) => (if x5 = 1 then ((some (.inl (some (.int (1 : Int32))), w4)) : ga_O) else (if x5 = 2 then (some (.inl (some (.int (2 : Int32))), w4)) else none))) = H
  have hj : ∀ fr, Jn (fun w => Wk H (f_L_flush F 0 w) w) fr w lt → Jn (fun w => f_W_flush F 0 78 w) fr w lt := fun fr h => by rw [← hh] at h; exact h
  apply hj
  by_cases hm : mem = []
  · exact JnX (x := 2) (c := 2) (S' := (lv, mem, recs, syn, bt, sn, lt, rd, ms, gt)) hB ⟨_, l1 hm, hB.1.x, pu_Lx⟩ (fun _ => by rw [← hh]; rfl) (by decide) (fun w h => (rr w h).1 hm) hI (by show lt ≤ lt + 4; omega)
  · by_cases hb : ¬ lv.2.1 = 0 ∧ 8 ≤ cl 0 lv.1
    · exact JnX (x := 1) (c := 1) (S' := (lv, mem, recs, syn, bt, sn, lt, rd, ms, gt)) hB ⟨_, l2 hm hb, hB.1.x, pu_Lx⟩ (fun _ => by rw [← hh]; rfl) (by decide) (fun w h => (rr w h).2.1 hm hb) hI (by show lt ≤ lt + 4; omega)
    · obtain ⟨f1, f2, f3, f4, f5, f6⟩ := flush_ok (sn := sn) (mem' := mem) (lt' := lt) h1 h2 h3 hb hm h6 h7 h4
      refine JnV (S' := (tdyC (oldA sn lt) 500 (flA lv mem), [], [], 0, bt, sn, lt, rd, ms, gt)) hB (l3 hm hb (fun r hr => (h6 r hr).1) h1.wf.1 h4 f2) (fun w h => (rr w h).2.2 hm hb f1) ?_ (by show lt ≤ lt + 4; omega)
      refine ⟨f3, f4, f5, by have := f3.2.2.2; simpa using this, by simp, by simp, by simpa using f3.2.2.1, fun r hr => ?_, by simp, by simp, by simp, h12, h13⟩
      rcases f6 r (by simpa using hr) with h | h
      · exact h8 r (by simp [h])
      · exact h8 r (by simp [h])
