/-! PURE, 25: the reference tidies, the loop -/
theorem drop1 {α : Type} {xs : List α} {i : Nat} {x : α} (h : xs[i]? = some x) : (xs.drop i).take 1 = [x] := by
  obtain ⟨h1, h2⟩ := List.getElem?_eq_some_iff.mp h
  rw [List.drop_eq_getElem_cons h1, h2]; rfl
theorem cl_le (lev : Int32) (ts : List Tab) : cl lev ts ≤ ts.length := List.countP_le_length
theorem isRV.g {w w' : ga_W} {sc : Nat → Int32} {s : LV} {G : Nat → Int32} (h : isRV w sc s) (hf : pu_F w w' 77 1) (hG : isG w' G) : isRV w' sc s := by
  obtain ⟨h1, h2, h3, h4, ⟨pt, h5, h6⟩, ⟨W, h7⟩, -⟩ := h
  exact ⟨h1.fr hf (by omega), h2, h3, h4, ⟨pt, h5.fr hf (by omega), h6⟩, ⟨W, h7.fr hf (by omega)⟩, ⟨G, hG⟩⟩
set_option maxHeartbeats 2000000 in
theorem zR_tidy_loop {F : Nat} {sn : Nat → Int32} {lt : Nat} (hF : 1000 < F) (hs : snOk sn) : ∀ (k n : Nat) (w : ga_W) (sc : Nat → Int32) (s : LV), isRV w sc s → sc 25 = nI lt → isN w 71 sn → okS (oldA sn lt) k s → k + 1 < n →
    ∃ w' sc', f_R_tidy_2 F 54 n 1 w = some (.inl none, w') ∧ isRV w' sc' (tdyC (oldA sn lt) k s) ∧ scF sc sc' sT ∧ pu_K w w' fT := by
  have c1 : ¬ (1 : Int32) = 0 := by decide
  have c2 : ¬ (2 : Int32) = 0 := by decide
  have c3 : ¬ (1 : Int32) ≤ 0 := by decide
  have c4 : ¬ (2 : Int32) ≤ 0 := by decide
  have c5 : (0 : Int32) ≤ 0 := by decide
  have d3 : (3 : Int32) = nI 3 := by decide
  have d4 : (4 : Int32) = nI 4 := by decide
  have d5 : (5 : Int32) = nI 5 := by decide
  -- where it stops
  have hstop : ∀ (n : Nat) (w : ga_W) (sc : Nat → Int32) (s : LV), isRV w sc s → stops s → 1 < n → ∃ w', f_R_tidy_2 F 54 n 1 w = some (.inl none, w') ∧ isRV w' sc s ∧ pu_K w w' fT := by
    intro n w sc s h hst hn
    obtain ⟨n, rfl⟩ : ∃ k, n = k + 2 := ⟨n - 2, by omega⟩
    by_cases h0 : s.2.1 = 0
    · have hfu : full s = -1 := by
        rcases hst with h9 | h9
        · exact absurd h0 h9
        · exact h9
      have hz : sc 26 = 0 := h.2.1.trans h0
      obtain ⟨G, hG⟩ := h.2.2.2.2.2.2
      obtain ⟨w1, G1, a1, a2, a3, a4⟩ := zR_t15 (F := F) (x1 := 1) 260 0 G w F (by omega) h.1.1 hG (fun j hj => by omega) (by omega)
      have h1 := h.g a4 a2
      have hl := h.1.2.2.2.2.1
      have q0 := cl_le 0 s.1
      have q1 := cl_le 1 s.1
      have q2 := cl_le 2 s.1
      have hcc : cl 0 s.1 < 4 ∧ cl 1 s.1 ≤ 3 ∧ cl 2 s.1 ≤ 5 := by
        rcases full_cases s with ⟨h8, -⟩ | ⟨h8, -⟩ | ⟨h8, -⟩ | ⟨-, h8⟩
        · rw [hfu] at h8; exact absurd h8 (by decide)
        · rw [hfu] at h8; exact absurd h8 (by decide)
        · rw [hfu] at h8; exact absurd h8 (by decide)
        · exact h8
      have o0 := zR_onLevel (F := F) (lev := 0) hF h1.1
      have o1 := zR_onLevel (F := F) (lev := 1) hF h1.1
      have o2 := zR_onLevel (F := F) (lev := 2) hF h1.1
      have b0 : nI (cl 0 s.1) < 4 := by rw [d4]; exact (nI_ltI (by omega) (by omega)).mpr hcc.1
      have b1 : nI (cl 1 s.1) ≤ 3 := by rw [d3]; exact (nI_leI (by omega) (by omega)).mpr hcc.2.1
      have b2 : nI (cl 2 s.1) ≤ 5 := by rw [d5]; exact (nI_leI (by omega) (by omega)).mpr hcc.2.2
      refine ⟨w1, ?_, h1, a4.K (by simp)⟩
      rw [nI_0] at a1
      rw [f_R_tidy_2]
      simp only [↓iN c1, ↓bd (rR h.1.1 26 rfl), ↓ip hz]
      rw [a1]
      simp only [↓ip (rR_is h1.1.1), ↓gcI o0, ↓ip b0, ↓gcI o1, ↓jn, ↓ip b1, ↓gcI o2, ↓ip b2, ↓ip c5]
      rw [f_R_tidy_2]
      simp only [↓ip trivial, if_true]
    · have hz : ¬ sc 26 = 0 := fun h9 => h0 (h.2.1.symm.trans h9)
      refine ⟨w, ?_, h, pu_K.rf⟩
      rw [f_R_tidy_2]
      simp only [↓iN c1, ↓bd (rR h.1.1 26 rfl), ↓iN hz]
  intro k
  induction k with
  | zero =>
    intro n w sc s h h25 h5 hok hn
    obtain ⟨w', a1, a2, a3⟩ := hstop n w sc s h hok (by omega)
    exact ⟨w', sc, a1, a2, scF.rf, a3⟩
  | succ k ih =>
    intro n w sc s h h25 h5 hok hn
    by_cases hst : stops s
    · obtain ⟨w', a1, a2, a3⟩ := hstop n w sc s h hst (by omega)
      have e1 : tdyC (oldA sn lt) (k + 1) s = s := by unfold tdyC; rw [if_pos hst]
      rw [e1]
      exact ⟨w', sc, a1, a2, scF.rf, a3⟩
    · obtain ⟨hwf, ok0, ok1, ok2, okn⟩ : _ := hok.resolve_left hst
      have e1 : tdyC (oldA sn lt) (k + 1) s = tdyC (oldA sn lt) k (stepC (oldA sn lt) s) := by
        conv => lhs; unfold tdyC
        rw [if_neg hst]
      rw [e1]
      obtain ⟨n, rfl⟩ : ∃ k, n = k + 1 := ⟨n - 1, by omega⟩
      have h0 : s.2.1 = 0 := Classical.byContradiction fun h9 => hst (Or.inl h9)
      have hfu : ¬ full s = -1 := fun h9 => hst (Or.inr h9)
      have hz : sc 26 = 0 := h.2.1.trans h0
      obtain ⟨G, hG⟩ := h.2.2.2.2.2.2
      obtain ⟨w1, G1, a1, a2, a3, a4⟩ := zR_t15 (F := F) (x1 := 1) 260 0 G w F (by omega) h.1.1 hG (fun j hj => by omega) (by omega)
      rw [nI_0] at a1
      have h1 := h.g a4 a2
      have h51 := h5.fr a4 (by omega)
      have hl := h.1.2.2.2.2.1
      have q0 := cl_le 0 s.1
      have q1 := cl_le 1 s.1
      have q2 := cl_le 2 s.1
      have o0 := zR_onLevel (F := F) (lev := 0) hF h1.1
      have o1 := zR_onLevel (F := F) (lev := 1) hF h1.1
      have o2 := zR_onLevel (F := F) (lev := 2) hF h1.1
      obtain ⟨pt, hp1, hp2, hp3⟩ := h1.2.2.2.2.1
      rcases full_cases s with ⟨hf, hc⟩ | ⟨hf, hc, hc0⟩ | ⟨hf, hc, hc0, hc1⟩ | ⟨hf, -⟩
      · -- level 0
        obtain ⟨hlev, hso⟩ := ok0 hf
        have b0 : ¬ nI (cl 0 s.1) < 4 := by rw [d4]; exact fun h9 => absurd ((nI_ltI (by omega) (by omega)).mp h9) (by omega)
        obtain ⟨w2, G2, g1, g2, g3, g4⟩ := zR_t46 (F := F) (x1 := 1) s.1 [] G1 w1 F (by simpa using h1.1) a2 (fun j t hj => by simp at hj) (by omega)
        simp only [List.length_nil, nI_0, List.nil_append] at g1 g3
        have h2 := h1.g g4 g2
        obtain ⟨w3, sc3, v, m1, m2, m3, m4⟩ := zR_mrg (F := F) (lv := 0) (a := 0) (m := cl 0 s.1) hF h2 h25 (h51.fr g4 (by omega)) hs h0 hwf g2 (fun j t hj => by
          rw [g3 j t hj]
          have := hlev j t hj
          by_cases hx : t.2.1 = 0
          · have hy := this.mp hx
            simp [hx, hy, bI]
          · have hy : ¬ j < cl 0 s.1 := fun h9 => hx (this.mpr h9)
            simp [hx, hy, bI]) hso
        have e2 : stepC (oldA sn lt) s = mrgC 0 0 (cl 0 s.1) (oldA sn lt) s := by unfold stepC; rw [if_pos hf]
        rw [e2] at okn ⊢
        have hn1 : nI (0 + 1) = 1 := by decide
        rw [hn1] at m1
        have h3 := m4 s.2.2.2.2.1 s.2.2.2.2.2 (fun _ => ⟨rfl, rfl⟩) (fun _ => ⟨rfl, rfl⟩) w3 pu_F.rf ⟨pt, (hp1.fr g4 (by omega)).frK m3 (by decide), hp2, hp3⟩
        obtain ⟨w4, sc4, i1, i2, i3, i4⟩ := ih n w3 sc3 _ h3 ((m2 25 (by simp)).trans h25) ((h51.fr g4 (by omega)).frK m3 (by decide)) okn (by omega)
        refine ⟨w4, sc4, ?_, i2, m2.tr i3, ((((a4.K (by simp)).tr (g4.K (by simp))).tr (m3.mono (by decide))).tr i4)⟩
        rw [f_R_tidy_2]
        simp only [↓iN c1, ↓bd (rR h.1.1 26 rfl), ↓ip hz]
        rw [a1]
        simp only [↓ip (rR_is h1.1.1), ↓gcI o0, ↓iN b0]
        rw [g1]
        simp only [↓ip (rR_is h2.1.1), ↓gcI m1]
        exact i1
      · -- level 1
        have hso := ok1 hf
        have b0 : nI (cl 0 s.1) < 4 := by rw [d4]; exact (nI_ltI (by omega) (by omega)).mpr hc0
        have b1 : ¬ nI (cl 1 s.1) ≤ 3 := by rw [d3]; exact fun h9 => absurd ((nI_leI (by omega) (by omega)).mp h9) (by omega)
        have hn1 : nI 1 = 1 := by decide
        have hcp : 0 < cl (nI 1) s.1 := by rw [hn1]; omega
        have hpk := (pkI_ok (key := pt 1) hcp hl).2
        obtain ⟨t, ht⟩ : ∃ t, s.1[pkI 1 (pt 1) s.1]? = some t := ⟨_, List.getElem?_eq_getElem hpk⟩
        obtain ⟨w2, g1, g2, g3⟩ := zR_pick (F := F) (lv := 1) hF hp1 (by omega) h1.1 hwf.1 a2 hcp ht
        rw [hp2] at g2 ht hpk
        have h2 := h1.g g3 g2
        obtain ⟨w3, sc3, v, m1, m2, m3, m4⟩ := zR_mrg (F := F) (lv := 1) (a := pkI 1 s.2.2.2.2.1 s.1) (m := 1) hF h2 h25 (h51.fr g3 (by omega)) hs h0 hwf g2 (fun j t hj => by
          have hjl := (List.getElem?_eq_some_iff.mp hj).1
          simp only [pu_up]
          by_cases hx : j = pkI 1 s.2.2.2.2.1 s.1
          · rw [if_pos hx, hx]; simp [bI]
          · rw [if_neg hx, a3 j (by omega)]
            have : ¬ (pkI 1 s.2.2.2.2.1 s.1 ≤ j ∧ j < pkI 1 s.2.2.2.2.1 s.1 + 1) := by omega
            simp only [← Bool.decide_and, this, decide_false]
            rfl) hso
        have e2 : stepC (oldA sn lt) s = mrgC 1 (pkI 1 s.2.2.2.2.1 s.1) 1 (oldA sn lt) s := by unfold stepC; rw [if_neg (by rw [hf]; decide), if_pos hf]
        rw [e2] at okn ⊢
        obtain ⟨kk, hk64, hkk⟩ := hi_ok hwf (List.mem_of_getElem? ht)
        have hM : mxH (-1) ((s.1.drop (pkI 1 s.2.2.2.2.1 s.1)).take 1) = hi t := by
          have : (s.1.drop (pkI 1 s.2.2.2.2.1 s.1)).take 1 = [t] := drop1 ht
          rw [this]; exact mx1 hk64 hkk
        have hn2 : nI (1 + 1) = 1 + 1 := by decide
        rw [hn2] at m1
        rw [hn1] at g1
        have hp4 : isN w3 72 pt := (hp1.fr g3 (by omega)).frK m3 (by decide)
        have h53 : isN w3 71 sn := (h51.fr g3 (by omega)).frK m3 (by decide)
        have hrt : isRh w3 sc3 := by
          have := m4 (if v = 0 then s.2.2.2.2.1 else mxH (-1) ((s.1.drop (pkI 1 s.2.2.2.2.1 s.1)).take 1)) (if v = 0 then s.2.2.2.2.2 else s.2.2.2.2.2) (fun h9 => by simp [h9]) (fun h9 => by simp [h9])
          obtain ⟨w9, z1, z2, z3⟩ := zN_st (i := 1) (x := if v = 0 then s.2.2.2.2.1 else mxH (-1) ((s.1.drop (pkI 1 s.2.2.2.2.1 s.1)).take 1)) hp4 (by omega)
          have h9 := (this w9 z3 ⟨_, z2, by simp [pu_up], by simp [pu_up, hp3]⟩).1.1
          unfold isRh at h9 ⊢
          rw [← h9]
          exact (z3.2.2 54 (by omega)).symm
        by_cases hv : v = 0
        · have h3 := m4 s.2.2.2.2.1 s.2.2.2.2.2 (fun _ => ⟨rfl, rfl⟩) (fun h9 => absurd hv h9) w3 pu_F.rf ⟨pt, hp4, hp2, hp3⟩
          obtain ⟨w4, sc4, i1, i2, i3, i4⟩ := ih n w3 sc3 _ h3 ((m2 25 (by simp)).trans h25) h53 okn (by omega)
          refine ⟨w4, sc4, ?_, i2, m2.tr i3, ((((a4.K (by simp)).tr (g3.K (by simp))).tr (m3.mono (by decide))).tr i4)⟩
          rw [f_R_tidy_2]
          simp only [↓iN c1, ↓bd (rR h.1.1 26 rfl), ↓ip hz]
          rw [a1]
          simp only [↓ip (rR_is h1.1.1), ↓gcI o0, ↓ip b0, ↓gcI o1, ↓jn, ↓iN b1, ↓iN c3, ↓iN c1, ↓gcI g1, ↓ip (rR_is h2.1.1), ↓gcI m1, ↓ip hv]
          exact i1
        · obtain ⟨w9, z1, z2, z3⟩ := zN_st (i := 1) (x := hi t) hp4 (by omega)
          have h3 := m4 (hi t) s.2.2.2.2.2 (fun h9 => absurd h9 hv) (fun _ => ⟨by rw [if_pos rfl, hM], by rw [if_neg (by omega)]⟩) w9 z3 ⟨_, z2, by simp [pu_up], by simp [pu_up, hp3]⟩
          obtain ⟨w4, sc4, i1, i2, i3, i4⟩ := ih n w9 sc3 _ h3 ((m2 25 (by simp)).trans h25) (h53.fr z3 (by omega)) okn (by omega)
          refine ⟨w4, sc4, ?_, i2, m2.tr i3, (((((a4.K (by simp)).tr (g3.K (by simp))).tr (m3.mono (by decide))).tr (z3.K (by simp))).tr i4)⟩
          rw [hn1] at z1
          rw [f_R_tidy_2]
          simp only [↓iN c1, ↓bd (rR h.1.1 26 rfl), ↓ip hz]
          rw [a1]
          simp only [↓ip (rR_is h1.1.1), ↓gcI o0, ↓ip b0, ↓gcI o1, ↓jn, ↓iN b1, ↓iN c3, ↓iN c1, ↓gcI g1, ↓ip (rR_is h2.1.1), ↓gcI m1, ↓iN hv, ↓bd (rRr hrt 24 72 rfl), ↓bd z1]
          exact i1
      · -- level 2
        have hso := ok2 hf
        have b0 : nI (cl 0 s.1) < 4 := by rw [d4]; exact (nI_ltI (by omega) (by omega)).mpr hc0
        have b1 : nI (cl 1 s.1) ≤ 3 := by rw [d3]; exact (nI_leI (by omega) (by omega)).mpr hc1
        have b2 : ¬ nI (cl 2 s.1) ≤ 5 := by rw [d5]; exact fun h9 => absurd ((nI_leI (by omega) (by omega)).mp h9) (by omega)
        have hn1 : nI 2 = 2 := by decide
        have hcp : 0 < cl (nI 2) s.1 := by rw [hn1]; omega
        have hpk := (pkI_ok (key := pt 2) hcp hl).2
        obtain ⟨t, ht⟩ : ∃ t, s.1[pkI 2 (pt 2) s.1]? = some t := ⟨_, List.getElem?_eq_getElem hpk⟩
        obtain ⟨w2, g1, g2, g3⟩ := zR_pick (F := F) (lv := 2) hF hp1 (by omega) h1.1 hwf.1 a2 hcp ht
        rw [hp3] at g2 ht hpk
        have h2 := h1.g g3 g2
        obtain ⟨w3, sc3, v, m1, m2, m3, m4⟩ := zR_mrg (F := F) (lv := 2) (a := pkI 2 s.2.2.2.2.2 s.1) (m := 1) hF h2 h25 (h51.fr g3 (by omega)) hs h0 hwf g2 (fun j t hj => by
          have hjl := (List.getElem?_eq_some_iff.mp hj).1
          simp only [pu_up]
          by_cases hx : j = pkI 2 s.2.2.2.2.2 s.1
          · rw [if_pos hx, hx]; simp [bI]
          · rw [if_neg hx, a3 j (by omega)]
            have : ¬ (pkI 2 s.2.2.2.2.2 s.1 ≤ j ∧ j < pkI 2 s.2.2.2.2.2 s.1 + 1) := by omega
            simp only [← Bool.decide_and, this, decide_false]
            rfl) hso
        have e2 : stepC (oldA sn lt) s = mrgC 2 (pkI 2 s.2.2.2.2.2 s.1) 1 (oldA sn lt) s := by unfold stepC; rw [if_neg (by rw [hf]; decide), if_neg (by rw [hf]; decide)]
        rw [e2] at okn ⊢
        obtain ⟨kk, hk64, hkk⟩ := hi_ok hwf (List.mem_of_getElem? ht)
        have hM : mxH (-1) ((s.1.drop (pkI 2 s.2.2.2.2.2 s.1)).take 1) = hi t := by
          have : (s.1.drop (pkI 2 s.2.2.2.2.2 s.1)).take 1 = [t] := drop1 ht
          rw [this]; exact mx1 hk64 hkk
        have hn2 : nI (2 + 1) = 2 + 1 := by decide
        rw [hn2] at m1
        rw [hn1] at g1
        have hp4 : isN w3 72 pt := (hp1.fr g3 (by omega)).frK m3 (by decide)
        have h53 : isN w3 71 sn := (h51.fr g3 (by omega)).frK m3 (by decide)
        have hrt : isRh w3 sc3 := by
          have := m4 (if v = 0 then s.2.2.2.2.1 else s.2.2.2.2.1) (if v = 0 then s.2.2.2.2.2 else mxH (-1) ((s.1.drop (pkI 2 s.2.2.2.2.2 s.1)).take 1)) (fun h9 => by simp [h9]) (fun h9 => by simp [h9])
          obtain ⟨w9, z1, z2, z3⟩ := zN_st (i := 2) (x := if v = 0 then s.2.2.2.2.2 else mxH (-1) ((s.1.drop (pkI 2 s.2.2.2.2.2 s.1)).take 1)) hp4 (by omega)
          have h9 := (this w9 z3 ⟨_, z2, by simp [pu_up, hp2], by simp [pu_up]⟩).1.1
          unfold isRh at h9 ⊢
          rw [← h9]
          exact (z3.2.2 54 (by omega)).symm
        by_cases hv : v = 0
        · have h3 := m4 s.2.2.2.2.1 s.2.2.2.2.2 (fun _ => ⟨rfl, rfl⟩) (fun h9 => absurd hv h9) w3 pu_F.rf ⟨pt, hp4, hp2, hp3⟩
          obtain ⟨w4, sc4, i1, i2, i3, i4⟩ := ih n w3 sc3 _ h3 ((m2 25 (by simp)).trans h25) h53 okn (by omega)
          refine ⟨w4, sc4, ?_, i2, m2.tr i3, ((((a4.K (by simp)).tr (g3.K (by simp))).tr (m3.mono (by decide))).tr i4)⟩
          rw [f_R_tidy_2]
          simp only [↓iN c1, ↓bd (rR h.1.1 26 rfl), ↓ip hz]
          rw [a1]
          simp only [↓ip (rR_is h1.1.1), ↓gcI o0, ↓ip b0, ↓gcI o1, ↓jn, ↓ip b1, ↓gcI o2, ↓iN b2, ↓iN c4, ↓iN c1, ↓gcI g1, ↓ip (rR_is h2.1.1), ↓gcI m1, ↓ip hv]
          exact i1
        · obtain ⟨w9, z1, z2, z3⟩ := zN_st (i := 2) (x := hi t) hp4 (by omega)
          have h3 := m4 s.2.2.2.2.1 (hi t) (fun h9 => absurd h9 hv) (fun _ => ⟨by rw [if_neg (by omega)], by rw [if_pos rfl, hM]⟩) w9 z3 ⟨_, z2, by simp [pu_up, hp2], by simp [pu_up]⟩
          obtain ⟨w4, sc4, i1, i2, i3, i4⟩ := ih n w9 sc3 _ h3 ((m2 25 (by simp)).trans h25) (h53.fr z3 (by omega)) okn (by omega)
          refine ⟨w4, sc4, ?_, i2, m2.tr i3, (((((a4.K (by simp)).tr (g3.K (by simp))).tr (m3.mono (by decide))).tr (z3.K (by simp))).tr i4)⟩
          rw [hn1] at z1
          rw [f_R_tidy_2]
          simp only [↓iN c1, ↓bd (rR h.1.1 26 rfl), ↓ip hz]
          rw [a1]
          simp only [↓ip (rR_is h1.1.1), ↓gcI o0, ↓ip b0, ↓gcI o1, ↓jn, ↓ip b1, ↓gcI o2, ↓iN b2, ↓iN c4, ↓iN c1, ↓gcI g1, ↓ip (rR_is h2.1.1), ↓gcI m1, ↓iN hv, ↓bd (rRr hrt 24 72 rfl), ↓bd z1]
          exact i1
      · exact absurd hf hfu
theorem zR_tidy {F : Nat} {sn : Nat → Int32} {lt k : Nat} {w : ga_W} {sc : Nat → Int32} {s : LV} (hF : 1000 < F) (hs : snOk sn) (h : isRV w sc s) (h25 : sc 25 = nI lt) (h5 : isN w 71 sn) (hok : okS (oldA sn lt) k s) (hk : k < 999) :
    ∃ w' sc', f_R_tidy F 54 w = some (.inl none, w') ∧ isRV w' sc' (tdyC (oldA sn lt) k s) ∧ scF sc sc' sT ∧ pu_K w w' fT := by
  unfold f_R_tidy
  exact zR_tidy_loop hF hs k F w sc s h h25 h5 hok (by omega)
