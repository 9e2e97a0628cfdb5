/-! PURE, 27: the reference writes -/
variable {F : Nat} {w w' w2 : ga_W} {sc sc' : Nat → Int32} {thr : Int32} {lv : LV} {mem : List Row} {recs : List Nat} {syn : Nat} {bt : Option (List Row)} {sn : Nat → Int32} {lt : Nat} {rd ms gt : Int32}
theorem isRV.hdK (h : isRV w sc lv) {X : List (Nat × Nat)} (hf : pu_K w w' X) (hd : ∀ q ∈ X, 78 ≤ q.1 ∨ q.1 + q.2 ≤ 55 ∨ (63 ≤ q.1 ∧ q.1 + q.2 ≤ 72)) (hh : isRh w' sc') (hs : scF sc sc' [0, 15, 17, 18, 22, 25, 27, 28, 29, 36, 38]) : isRV w' sc' lv := by
  obtain ⟨⟨g1, g2, g3, g4, g5, ⟨R, g6, g7⟩, ⟨T, g8, g9⟩⟩, h2, h3, h4, ⟨pt, h5, h6⟩, ⟨W, h7⟩, ⟨G, h8⟩⟩ := h
  have ko : ∀ a, 55 ≤ a → a < 63 → ∀ x, w.1[a]? = some x → w'.1[a]? = some x := fun a h1 h2 x hx => hf.out (fun q hq => by have := hd q hq; omega) hx
  exact ⟨⟨hh, (hs 5 (by simp)).trans g2, (hs 10 (by simp)).trans g3, g4, g5, ⟨R, ⟨ko _ (by omega) (by omega) _ g6.1, ko _ (by omega) (by omega) _ g6.2.1, ko _ (by omega) (by omega) _ g6.2.2.1, ko _ (by omega) (by omega) _ g6.2.2.2.1, g6.2.2.2.2⟩, g7⟩, ⟨T, ⟨ko _ (by omega) (by omega) _ g8.1, ko _ (by omega) (by omega) _ g8.2.1, ko _ (by omega) (by omega) _ g8.2.2.1, ko _ (by omega) (by omega) _ g8.2.2.2⟩, g9⟩⟩, (hs 26 (by simp)).trans h2, (hs 30 (by simp)).trans h3, (hs 31 (by simp)).trans h4, ⟨pt, h5.frK hf (fun q hq => by have := hd q hq; omega), h6⟩, ⟨W, h7.frK hf (fun q hq => by have := hd q hq; omega)⟩, ⟨G, h8.frK hf (fun q hq => by have := hd q hq; omega)⟩⟩
theorem isRM.frK (h : isRM w sc mem) {X : List (Nat × Nat)} (hf : pu_K w w' X) (hd : ∀ q ∈ X, 67 ≤ q.1 ∨ q.1 + q.2 ≤ 63) (h15 : sc' 15 = sc 15) : isRM w' sc' mem := by
  obtain ⟨⟨R, h1, h2⟩, h3, h4⟩ := h
  exact ⟨⟨R, h1.frK hf hd, h2⟩, h15.trans h3, h4⟩
theorem isRC.frK (h : isRC w sc recs syn) {X : List (Nat × Nat)} (hf : pu_K w w' X) (hd : ∀ q ∈ X, 67 < q.1 ∨ q.1 + q.2 ≤ 67) (h17 : sc' 17 = sc 17) (h18 : sc' 18 = sc 18) : isRC w' sc' recs syn := by
  obtain ⟨⟨Z, h1, h2⟩, h3, h4, h5⟩ := h
  exact ⟨⟨Z, hf.out hd h1, h2⟩, h17.trans h3, h4, h18.trans h5⟩
theorem isRB.frK (h : isRB w sc bt) {X : List (Nat × Nat)} (hf : pu_K w w' X) (hd : ∀ q ∈ X, 71 ≤ q.1 ∨ q.1 + q.2 ≤ 68) (h22 : sc' 22 = sc 22) : isRB w' sc' bt := by
  obtain ⟨B, ⟨h1, h2, h3⟩, h4⟩ := h
  exact ⟨B, ⟨hf.out (fun q hq => by have := hd q hq; omega) h1, hf.out (fun q hq => by have := hd q hq; omega) h2, hf.out (fun q hq => by have := hd q hq; omega) h3⟩, btOk_sc h4 h22⟩
theorem zR_full {n : Nat} (hF : 1000 < F) (h : isRx w sc lv mem recs syn bt sn lt rd ms gt) (hn : n ≤ 4) (hc8 : cl 0 lv.1 ≤ 8) :
    (fullA lv mem n → f_R_full F 54 (nI n) w = some (.inl (some (.int 1)), w)) ∧ (¬ fullA lv mem n → f_R_full F 54 (nI n) w = some (.inl (some (.int 0)), w)) := by
  obtain ⟨hv, hm, -⟩ := id h
  have c240 : (240 : Int32) = nI 240 := by decide
  have hl := hv.1.2.2.2.1
  have hml := hm.2.2
  have e1 : sc 5 + sc 15 + nI n = nI ((fl lv.1).length + mem.length + n) := by rw [hv.1.2.1, hm.2.1, nI_add, nI_add]
  have key : f_R_full F 54 (nI n) w = if 240 < (fl lv.1).length + mem.length + n then some (.inl (some (.int 1)), w) else if lv.2.1 = 0 then some (.inl (some (.int 0)), w) else if cl 0 lv.1 = 8 then some (.inl (some (.int 1)), w) else some (.inl (some (.int 0)), w) := by
    unfold f_R_full
    simp only [↓bd (rR h.h 5 rfl), ↓bd (rR h.h 15 rfl)]
    rw [e1, c240]
    by_cases hx : 240 < (fl lv.1).length + mem.length + n
    · rw [if_pos ((nI_ltI (by omega) (by omega)).mpr hx), if_pos hx]
    · rw [if_neg (fun h9 => hx ((nI_ltI (by omega) (by omega)).mp h9)), if_neg hx]
      simp only [↓bd (rR h.h 26 rfl)]
      rw [hv.2.1]
      by_cases hz : lv.2.1 = 0
      · rw [if_pos hz, if_pos hz]
      · rw [if_neg hz, if_neg hz]
        simp only [↓ip (rR_is h.h), ↓gcI (zR_onLevel (F := F) (lev := 0) hF hv.1)]
        have c8 : (8 : Int32) = nI 8 := by decide
        rw [c8]
        by_cases h8 : cl 0 lv.1 = 8
        · rw [if_pos (by rw [h8]), if_pos h8]
        · rw [if_neg (fun h9 => h8 ((nI_inj (by omega) (by omega)).mp h9)), if_neg h8]
  rw [key]
  unfold fullA
  constructor
  · rintro (h9 | ⟨h9, h8⟩)
    · rw [if_pos (by omega)]
    · by_cases hx : 240 < (fl lv.1).length + mem.length + n
      · rw [if_pos hx]
      · rw [if_neg hx, if_neg h9, if_pos (by omega)]
  · intro h9
    rw [if_neg (fun h8 => h9 (Or.inl (by omega)))]
    by_cases hz : lv.2.1 = 0
    · rw [if_pos hz]
    · rw [if_neg hz, if_neg (fun h8 => h9 (Or.inr ⟨hz, by omega⟩))]
theorem zR_remember {k v g : Int32} (hg : g = 0 ∨ g = 1) (h : isRh w sc) (hm : isRM w sc mem) (h25 : sc 25 = nI lt) (hl : mem.length < 12) :
    ∃ w', f_R_remember F 54 k v g w = some (.inl none, w') ∧ isRh w' (pu_up (pu_up sc 25 (nI (lt + 1))) 15 (nI (mem.length + 1))) ∧ isRM w' (pu_up (pu_up sc 25 (nI (lt + 1))) 15 (nI (mem.length + 1))) (mem ++ [(k, nI (lt + 1), v, g, 0)]) ∧ pu_K w w' [(54, 1), (63, 4)] := by
  obtain ⟨⟨R, hA, hag⟩, h15, -⟩ := hm
  obtain ⟨w1, a1, a2, a3⟩ := zR h 25 (nI (lt + 1)) (by omega) rfl
  obtain ⟨v1, v2, v3, v4, j1, j2, j3, j4, k1, k2, k3, k4, hA5⟩ := zA4 (i := mem.length) (k, nI (lt + 1), v, g, (0 : Int32)) (hA.fr a3 (by omega)) (by omega) (by omega) hg
  have l1 := a2.fr k1 (by omega)
  have l2 := l1.fr k2 (by omega)
  have l3 := l2.fr k3 (by omega)
  have l4 := l3.fr k4 (by omega)
  obtain ⟨w5, b1, b2, b3⟩ := zR l4 15 (nI (mem.length + 1)) (by omega) rfl
  have e15 : pu_up sc 25 (nI (lt + 1)) 15 = nI mem.length := h15
  have e25 : pu_up sc 25 (nI (lt + 1)) 25 = nI (lt + 1) := rfl
  have hkk : pu_F w1 v4 63 4 := (((k1.mono (by omega) (by omega)).tr (k2.mono (by omega) (by omega))).tr (k3.mono (by omega) (by omega))).tr (k4.mono (by omega) (by omega))
  refine ⟨w5, ?_, b2, ⟨⟨_, hA5.fr b3 (by omega), hag.push _⟩, by simp [pu_up], by simp; omega⟩, ((a3.K (by simp)).tr (hkk.K (by simp))).tr (b3.K (by simp))⟩
  unfold f_R_remember
  simp only [↓bd (rR h 25 rfl)]
  rw [h25, nI_1]
  simp only [↓bd a1, ↓bd (rRr a2 11 63 rfl), ↓bd (rR a2 15 rfl)]
  rw [e15]
  simp only [↓bd j1, ↓bd (rRr l1 12 64 rfl), ↓bd (rR l1 15 rfl), ↓bd (rR l1 25 rfl)]
  rw [e15, e25]
  simp only [↓bd j2, ↓bd (rRr l2 13 65 rfl), ↓bd (rR l2 15 rfl)]
  rw [e15]
  simp only [↓bd j3, ↓bd (rRr l3 14 66 rfl), ↓bd (rR l3 15 rfl)]
  rw [e15]
  simp only [↓bd j4, ↓bd (rR l4 15 rfl)]
  rw [e15, nI_1]
  simp only [↓bd b1]
theorem rMem {i : Nat} {r : Row} (h : isRM w sc mem) (hr : mem[i]? = some r) : ga_ai w 0 63 (nI i) = some r.1 ∧ ga_ai w 0 64 (nI i) = some r.2.1 ∧ ga_ai w 0 65 (nI i) = some r.2.2.1 ∧ ga_az w 1 66 (nI i) = some r.2.2.2.1 ∧ (r.2.2.2.1 = 0 ∨ r.2.2.2.1 = 1) := by
  obtain ⟨⟨R, hA, hag⟩, h15, hl⟩ := h
  have hi : i < mem.length := (List.getElem?_eq_some_iff.mp hr).1
  have hR : R i = r := hag.at hr
  have r1 := rA hA.1 (show i < 16 by omega) (by omega)
  have r2 := rA hA.2.1 (show i < 16 by omega) (by omega)
  have r3 := rA hA.2.2.1 (show i < 16 by omega) (by omega)
  have r4 := rZ hA.2.2.2.1 (show i < 16 by omega) (by omega)
  have r5 := hA.2.2.2.2 i
  rw [hR] at r1 r2 r3 r4 r5
  exact ⟨r1, r2, r3, r4, r5⟩
theorem zR_f7 (hF : 1000 < F) (todo : List Row) : ∀ (done ws : List Row) (sc : Nat → Int32) (w : ga_W) (n : Nat), isRh w sc → isRM w sc (done ++ todo) → isWk w sc ws → ws.length + todo.length ≤ 240 → todo.length < n →
    ∃ w1 sc1, (∀ K, f_R_flushAll_7 F 54 K n (nI done.length) w = K w1) ∧ isRh w1 sc1 ∧ isWk w1 sc1 (insA ws todo) ∧ scF sc sc1 [36] ∧ pu_K w w1 [(54, 1), (73, 4)] := by
  induction todo with
  | nil =>
    intro done ws sc w n h hm hw hc hn
    obtain ⟨n, rfl⟩ : ∃ k, n = k + 1 := ⟨n - 1, by simp at hn; omega⟩
    simp only [List.append_nil] at hm
    have hle : sc 15 ≤ nI done.length := by rw [hm.2.1]; exact Int32.le_refl _
    refine ⟨w, sc, fun K => ?_, h, hw, scF.rf, pu_K.rf⟩
    rw [f_R_flushAll_7]
    simp only [↓bd (rR h 15 rfl), ↓ip hle]
  | cons r todo ih =>
    intro done ws sc w n h hm hw hc hn
    obtain ⟨n, rfl⟩ : ∃ k, n = k + 1 := ⟨n - 1, by simp at hn; omega⟩
    simp only [List.length_cons] at hc hn
    have hml := hm.2.2
    have h15 := hm.2.1
    simp only [List.length_append, List.length_cons] at hml h15
    have hle : ¬ sc 15 ≤ nI done.length := by rw [h15]; exact nI_ge (by omega) (by omega)
    obtain ⟨r1, r2, r3, r4, r5⟩ := rMem hm (show (done ++ r :: todo)[done.length]? = some r by simp)
    obtain ⟨w1, a1, a2, a3, a4⟩ := zR_enter (F := F) (k := r.1) (nu := r.2.1) (v := r.2.2.1) (g := r.2.2.2.1) (s := r.2.2.2.2) hF h hw (by omega) r5
    obtain ⟨w3, sc3, c1, c2, c4, c5, c6⟩ := ih (done ++ [r]) (insW r ws) _ w1 n a2 (by simpa using hm.frK (sc' := pu_up sc 36 (nI (ws.length + 1))) a4 (by decide) rfl) a3 (by rw [insW_len]; omega) (by omega)
    refine ⟨w3, sc3, fun K => ?_, c2, c4, (scF.up (by simp)).tr c5, a4.tr c6⟩
    have := c1 K
    simp only [List.length_append, List.length_cons, List.length_nil, Nat.zero_add] at this
    rw [f_R_flushAll_7]
    simp only [↓bd (rR h 15 rfl), ↓iN hle, ↓bd (rRr h 11 63 rfl), ↓bd r1, ↓bd (rRr h 12 64 rfl), ↓bd r2, ↓bd (rRr h 13 65 rfl), ↓bd r3, ↓bd (rRr h 14 66 rfl), ↓bd r4, ↓ip (rR_is h), ↓gcV a1]
    rw [nI_1]
    exact this
set_option maxHeartbeats 1000000 in
theorem zR_flushAll (hF : 1000 < F) (hs : snOk sn) (h : isRV w sc lv) (hm : isRM w sc mem) (h25 : sc 25 = nI lt) (h5 : isN w 71 sn) (hsrt : insA [] mem = srt mem.reverse) (hfl0 : ∀ r ∈ mem, r.2.2.2.2 = 0) (hc : (fl lv.1).length + mem.length ≤ 240) (hc2 : lv.1.length < 240) (hok : okS (oldA sn lt) 500 (flA lv mem)) :
    ∃ w' sc', f_R_flushAll F 54 w = some (.inl none, w') ∧ isRV w' sc' (tdyC (oldA sn lt) 500 (flA lv mem)) ∧ isRM w' sc' [] ∧ sc' 17 = 0 ∧ sc' 18 = 0 ∧ scF sc sc' [5, 10, 26, 30, 31, 36, 15, 17, 18] ∧ pu_K w w' fT := by
  obtain ⟨w1, a1, a2, a3⟩ := zR h.1.1 36 (0 : Int32) (by omega) rfl
  have h1 := h.hd a3 a2 (scF.up (by simp))
  have hm1 : isRM w1 (pu_up sc 36 0) mem := hm.fr a3 (by omega) rfl
  obtain ⟨W, hW⟩ := h1.2.2.2.2.2.1
  obtain ⟨w3, sc3, b1, b2, b3, b4, b5⟩ := zR_f7 (F := F) hF mem [] [] _ w1 F a2 (by simpa using hm1) ⟨⟨W, hW, fun i hi => by simp at hi⟩, rfl, by simp⟩ (by simp only [List.length_nil]; omega) (by have := hm.2.2; omega)
  simp only [List.length_nil, nI_0] at b1
  have hil : (insA [] mem).length = mem.length := by rw [insA_len]; simp
  have hrt3 : isRt w3 sc3 lv.1 := by
    obtain ⟨g1, g2, g3, g4, g5, ⟨R, g6, g7⟩, ⟨T, g8, g9⟩⟩ := h1.1
    have ko : ∀ a, 55 ≤ a → a < 63 → ∀ x, w1.1[a]? = some x → w3.1[a]? = some x := fun a h1 h2 x hx => b5.out (fun q hq => by simp at hq; rcases hq with rfl | rfl <;> simp <;> omega) hx
    exact ⟨b2, (b4 5 (by simp)).trans g2, (b4 10 (by simp)).trans g3, g4, g5, ⟨R, ⟨ko _ (by omega) (by omega) _ g6.1, ko _ (by omega) (by omega) _ g6.2.1, ko _ (by omega) (by omega) _ g6.2.2.1, ko _ (by omega) (by omega) _ g6.2.2.2.1, g6.2.2.2.2⟩, g7⟩, ⟨T, ⟨ko _ (by omega) (by omega) _ g8.1, ko _ (by omega) (by omega) _ g8.2.1, ko _ (by omega) (by omega) _ g8.2.2.1, ko _ (by omega) (by omega) _ g8.2.2.2⟩, g9⟩⟩
  have h30 : sc3 30 = lv.2.2.1 := (b4 30 (by simp)).trans h1.2.2.1
  obtain ⟨w4, c1, c2, c3, c4⟩ := zR_insert (F := F) (pre := []) (post := lv.1) (A := []) (P := insA [] mem) (B := []) (lev := 0) (mk := lv.2.2.1) hF (by simpa using hrt3) (by simpa using b3) h30 (fun r hr => by
    rcases insA_mem _ _ hr with h9 | h9
    · simp at h9
    · exact hfl0 r h9) (by simp only [List.nil_append, hil]; omega) (by simpa using hc2)
  simp only [List.nil_append, List.length_nil, nI_0, List.append_nil] at c1 c2 c3
  have h36 : sc3 36 = nI (insA [] mem).length := b3.2.1
  -- the three numbers
  obtain ⟨w5, d1, d2, d3⟩ := zR c2.1 15 (0 : Int32) (by omega) rfl
  obtain ⟨w6, e1, e2, e3⟩ := zR d2 17 (0 : Int32) (by omega) rfl
  obtain ⟨w7, f1, f2, f3⟩ := zR e2 18 (0 : Int32) (by omega) rfl
  generalize hsc7 : pu_up (pu_up (pu_up (insSc sc3 ((fl lv.1).length + (insA [] mem).length) (lv.1.length + 1) lv.2.2.1) 15 0) 17 0) 18 0 = sc7 at f2
  have hfr : pu_F w4 w7 54 1 := (d3.tr e3).tr f3
  have hs7 : scF sc sc7 [5, 10, 30, 36, 15, 17, 18] := by
    intro k hk
    simp only [List.mem_cons, List.not_mem_nil, or_false, not_or] at hk
    rw [← hsc7]
    simp only [insSc, pu_up]
    rw [if_neg hk.2.2.2.2.2.2, if_neg hk.2.2.2.2.2.1, if_neg hk.2.2.2.2.1, if_neg hk.2.1, if_neg hk.2.2.1, if_neg hk.1, b4 k (by simp; exact hk.2.2.2.1)]
    simp only [pu_up]
    rw [if_neg hk.2.2.2.1]
  have hrt7 : isRt w7 sc7 ((lv.2.2.1, 0, insA [] mem) :: lv.1) := c2.sc hfr f2 (by rw [← hsc7]; rfl) (by rw [← hsc7]; rfl)
  have hK7 : pu_K w w7 fT := ((((a3.mono (e' := 54) (k' := 9) (by omega) (by omega)).K (by simp)).tr (b5.mono (by decide))).tr (c4.K (by simp))).tr ((hfr.mono (e' := 54) (k' := 9) (by omega) (by omega)).K (by simp))
  have hK7' : pu_K w w7 [(54, 9), (73, 4)] := ((((a3.mono (e' := 54) (k' := 9) (by omega) (by omega)).K (by simp)).tr (b5.mono (by decide))).tr (c4.K (by simp))).tr ((hfr.mono (e' := 54) (k' := 9) (by omega) (by omega)).K (by simp))
  have hrv7 : isRV w7 sc7 (flA lv mem) := by
    obtain ⟨-, h2, h3, h4, ⟨pt, h5', h6⟩, -, ⟨G, h8⟩⟩ := h
    rw [hsrt] at hrt7
    refine ⟨hrt7, (hs7 26 (by simp)).trans h2, by rw [← hsc7]; rfl, (hs7 31 (by simp)).trans h4, ⟨pt, h5'.frK hK7' (by decide), h6⟩, ?_, ⟨G, h8.frK hK7' (by decide)⟩⟩
    obtain ⟨⟨W9, hA9, -⟩, -⟩ := c3
    exact ⟨W9, hA9.fr hfr (by omega)⟩
  have h257 : sc7 25 = nI lt := (hs7 25 (by simp)).trans h25
  have h57 : isN w7 71 sn := h5.frK hK7' (by decide)
  have hz17 : sc7 17 = 0 := by rw [← hsc7]; rfl
  have hz18 : sc7 18 = 0 := by rw [← hsc7]; rfl
  have hz15 : sc7 15 = 0 := by rw [← hsc7]; rfl
  have hrm : ∀ (w9 : ga_W) (sc9 : Nat → Int32), pu_K w w9 fT → sc9 15 = 0 → isRM w9 sc9 [] := fun w9 sc9 hK h9 => by
    obtain ⟨⟨R, g1, g2⟩, -⟩ := hm
    exact ⟨⟨R, g1.frK hK (by decide), fun i hi => by simp at hi⟩, by rw [h9]; rfl, by simp⟩
  have hroad : f_R_flushAll F 54 w = if sc7 26 = 0 then (if ga_is w7 6 54 = true then ga_c (f_R_tidy F 54 w7) (ga_kV fun w10 => (some (.inl none, w10))) ga_up else none) else (some (.inl none, w7)) := by
    unfold f_R_flushAll
    simp only [↓bd a1]
    rw [b1]
    simp only [↓bd (rR b2 36 rfl), ↓ip (rR_is b2)]
    rw [h36]
    simp only [↓gcV c1, ↓bd d1, ↓bd e1, ↓bd f1, ↓bd (rR f2 26 rfl)]
  rw [hroad]
  by_cases hst : sc7 26 = 0
  · obtain ⟨w8, sc8, i1, i2, i3, i4⟩ := zR_tidy (F := F) hF hs hrv7 h257 h57 hok (by omega)
    rw [if_pos hst]
    simp only [↓ip (rR_is f2), ↓gcV i1]
    refine ⟨w8, sc8, rfl, i2, hrm w8 sc8 (hK7.tr i4) ((i3 15 (by simp)).trans hz15), (i3 17 (by simp)).trans hz17, (i3 18 (by simp)).trans hz18, (hs7.mono (by simp)).tr (i3.mono (by simp)), hK7.tr i4⟩
  · rw [if_neg hst]
    have hst' : stops (flA lv mem) := Or.inl (fun h9 => hst (hrv7.2.1.trans h9))
    have e9 : tdyC (oldA sn lt) 500 (flA lv mem) = flA lv mem := by unfold tdyC; rw [if_pos hst']
    rw [e9]
    exact ⟨w7, sc7, rfl, hrv7, hrm w7 sc7 hK7 hz15, hz17, hz18, hs7.mono (by simp), hK7⟩
