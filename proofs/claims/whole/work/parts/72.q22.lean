/-! PURE, 22: the reference merges, the whole -/
theorem pu_K.mono {w w' : ga_W} {X Y : List (Nat × Nat)} (h : pu_K w w' X) (hx : ∀ q ∈ X, ∃ p ∈ Y, p.1 ≤ q.1 ∧ q.1 + q.2 ≤ p.1 + p.2) : pu_K w w' Y := ⟨h.1, h.2.1, fun a ha => h.2.2 a (fun q hq => by
  obtain ⟨p, hp, h1, h2⟩ := hx q hq
  have := ha p hp
  omega)⟩
theorem isN.frK {w w' : ga_W} {a : Nat} {sn : Nat → Int32} {X : List (Nat × Nat)} (h : isN w a sn) (hf : pu_K w w' X) (hd : ∀ q ∈ X, a < q.1 ∨ q.1 + q.2 ≤ a) : isN w' a sn := by
  obtain ⟨S, h1, h2⟩ := h
  exact ⟨S, hf.out hd h1, h2⟩
theorem isG.frK {w w' : ga_W} {G : Nat → Int32} {X : List (Nat × Nat)} (h : isG w G) (hf : pu_K w w' X) (hd : ∀ q ∈ X, 77 < q.1 ∨ q.1 + q.2 ≤ 77) : isG w' G := hf.out hd h
theorem isA.frK {w w' : ga_W} {a cap : Nat} {R : Nat → Row} {X : List (Nat × Nat)} (h : isA w a cap R) (hf : pu_K w w' X) (hd : ∀ q ∈ X, a + 4 ≤ q.1 ∨ q.1 + q.2 ≤ a) : isA w' a cap R := ⟨hf.out (fun q hq => by have := hd q hq; omega) h.1, hf.out (fun q hq => by have := hd q hq; omega) h.2.1, hf.out (fun q hq => by have := hd q hq; omega) h.2.2.1, hf.out (fun q hq => by have := hd q hq; omega) h.2.2.2.1, h.2.2.2.2⟩
theorem zR_m288 {F : Nat} {lev : Int32} {J : Nat → Int32} (hF : 1000 < F) : ∀ (k : Nat) (pre S : List Tab) (sc : Nat → Int32) (w : ga_W) (n : Nat), pre.length = k → isRt w sc (pre ++ S) → isG w J → k < n →
    ∃ w1 sc1, f_R_merge_288 F 54 lev n (nI k - 1) w = ga_c (f_R_place F 54 lev w1) (ga_kV fun w2 => (some (.inl (some (.int (1 : Int32))), w2))) ga_up ∧ isRt w1 sc1 (stay J 0 pre ++ S) ∧ isG w1 J ∧ scF sc sc1 [5, 10] ∧ pu_F w w1 54 9 := by
  intro k
  induction k with
  | zero =>
    intro pre S sc w n hk h hG hn
    obtain ⟨n, rfl⟩ : ∃ k, n = k + 1 := ⟨n - 1, by omega⟩
    have : pre = [] := List.length_eq_zero_iff.mp hk
    subst this
    refine ⟨w, sc, ?_, by simpa [stay] using h, hG, scF.rf, pu_F.rf⟩
    have hlt : nI 0 - 1 < 0 := by decide
    rw [f_R_merge_288]
    simp only [↓ip hlt, ↓ip (rR_is h.1)]
  | succ k ih =>
    intro pre S sc w n hk h hG hn
    obtain ⟨n, rfl⟩ : ∃ k, n = k + 1 := ⟨n - 1, by omega⟩
    obtain ⟨pr, t, rfl⟩ : ∃ pr t, pre = pr ++ [t] := ⟨pre.dropLast, pre.getLast (by intro h9; simp [h9] at hk), (List.dropLast_concat_getLast _).symm⟩
    have hk' : pr.length = k := by simpa using hk
    have h' : isRt w sc (pr ++ t :: S) := by simpa using h
    have hl := rR_len h'
    have hkk : nI (k + 1) - 1 = nI k := by rw [nI_s1 (by omega)]; rfl
    have hlt : ¬ nI k < 0 := by
      have : (0 : Int32) = nI 0 := by decide
      rw [this]; exact nI_nlt (by omega) (by omega)
    have hm1 : nI k + (-1) = nI k - 1 := by rw [Int32.sub_eq_add_neg]
    have hst : stay J 0 (pr ++ [t]) = stay J 0 pr ++ (if J k = 0 then [t] else []) := by
      rw [stay_app, Nat.zero_add, hk']
      simp only [stay]
    rw [f_R_merge_288, hkk, hst]
    simp only [↓iN hlt, ↓bd (rRr h'.1 37 77 rfl), ↓bd (rG hG (show k < 260 by omega))]
    by_cases hz : J k = 0
    · obtain ⟨w1, sc1, c1, c2, c3, c4, c5⟩ := ih pr (t :: S) sc w n hk' h' hG (by omega)
      simp only [↓ip hz]
      rw [hm1, c1]
      exact ⟨w1, sc1, rfl, by simpa using c2, c3, c4, c5⟩
    · obtain ⟨w2, a1, a2, a3⟩ := zR_takeOut (F := F) hF h'
      obtain ⟨w1, sc1, c1, c2, c3, c4, c5⟩ := ih pr S _ w2 n hk' a2 (hG.fr a3 (by omega)) (by omega)
      rw [hk'] at a1
      simp only [↓iN hz, ↓ip (rR_is h'.1), ↓gcV a1]
      rw [hm1, c1]
      refine ⟨w1, sc1, rfl, by simpa using c2, c3, ?_, a3.tr c5⟩
      intro j hj
      rw [c4 j hj]
      simp only [List.mem_cons, List.not_mem_nil, or_false, not_or] at hj
      simp only [outSc, pu_up]
      rw [if_neg hj.2, if_neg hj.1]
def JR (lev least most : Int32) (G : Nat → Int32) (tabs : List Tab) : Nat → Int32 := fun i => match tabs[i]? with
  | some t => mk1 lev least most (G i) t
  | none => 0
def ksR (J : Nat → Int32) (lev old : Int32) (tabs : List Tab) : List Row := drR old (fun k => deepG lev J k 0 tabs) (-1) (-1) (insA [] (jrow J 0 tabs))
def mgR (J : Nat → Int32) (lev old mk : Int32) (tabs : List Tab) : List Tab := (stay J 0 tabs).take (pR lev (ksR J lev old tabs) (stay J 0 tabs) 0) ++ (sp6 lev mk [] (ksR J lev old tabs) ++ (stay J 0 tabs).drop (pR lev (ksR J lev old tabs) (stay J 0 tabs) 0))
theorem deepG_congr {lev k : Int32} {J K : Nat → Int32} (ts : List Tab) : ∀ i, (∀ j, j < ts.length → J (i + j) = K (i + j)) → deepG lev J k i ts = deepG lev K k i ts := by
  induction ts with
  | nil => intro i _; rfl
  | cons t ts ih =>
    intro i h
    have h0 := h 0 (by simp)
    rw [Nat.add_zero] at h0
    simp only [deepG]
    rw [h0, ih (i + 1) (fun j hj => by have := h (j + 1) (by simp; omega); rw [show i + (j + 1) = i + 1 + j by omega] at this; exact this)]
theorem anyM_congr {J K : Nat → Int32} (ts : List Tab) : ∀ i, (∀ j, j < ts.length → J (i + j) = K (i + j)) → anyM J i ts = anyM K i ts := by
  induction ts with
  | nil => intro i _; rfl
  | cons t ts ih =>
    intro i h
    have h0 := h 0 (by simp)
    rw [Nat.add_zero] at h0
    simp only [anyM]
    rw [h0, ih (i + 1) (fun j hj => by have := h (j + 1) (by simp; omega); rw [show i + (j + 1) = i + 1 + j by omega] at this; exact this)]
theorem drR_mem {old : Int32} {D : Int32 → Bool} {q : Row} (rs : List Row) : ∀ newer ofk, q ∈ drR old D newer ofk rs → q ∈ rs := by
  induction rs with
  | nil => intro _ _ h; simp [drR] at h
  | cons r rs ih =>
    intro newer ofk h
    simp only [drR] at h
    split at h
    · exact List.mem_cons_of_mem _ (ih _ _ h)
    · rcases List.mem_cons.mp h with h | h
      · simp [h]
      · exact List.mem_cons_of_mem _ (ih _ _ h)
/-- the four roads of a merge, their frame -/
abbrev fM : List (Nat × Nat) := [(54, 9), (73, 4), (77, 1)]
set_option maxHeartbeats 1000000 in
theorem zR_merge {F : Nat} {w : ga_W} {sc : Nat → Int32} {sn : Nat → Int32} {lt : Nat} {G J : Nat → Int32} {lev mk least most : Int32} {tabs : List Tab} (hF : 1000 < F) (ha : ∀ t ∈ tabs, t.2.2 ≠ []) (h : isRt w sc tabs) (hG : isG w G) (hW : ∃ W, isA w 73 260 W) (h25 : sc 25 = nI lt) (h5 : isN w 71 sn) (hs : snOk sn) (h26 : sc 26 = 0) (h30 : sc 30 = mk)
    (hle : least = mnL 64 (gon G 0 tabs)) (hmo : most = mxH (-1) (gon G 0 tabs)) (hJ : J = JR lev least most G tabs) (hok : anyM J 0 tabs = false → ∀ r ∈ jrow J 0 tabs, r.2.2.2.2 = 0) :
    ∃ w' sc', f_R_merge F 54 lev w = some (.inl (some (.int (if anyM J 0 tabs then 0 else 1))), w') ∧ (∃ W, isA w' 73 260 W) ∧ (∃ G', isG w' G') ∧ pu_K w w' fM ∧ scF sc sc' [5, 10, 26, 30, 31, 36] ∧
      (anyM J 0 tabs = true → isRt w' sc' tabs ∧ sc' 26 = 1 ∧ sc' 30 = mk ∧ sc' 31 = sc 31) ∧
      (anyM J 0 tabs = false → isRt w' sc' (mgR J lev (oldA sn lt) mk tabs) ∧ sc' 26 = 0 ∧ sc' 30 = mk + nI (sp6 lev mk [] (ksR J lev (oldA sn lt) tabs)).length ∧ sc' 31 = sc 31 + nI ((jrow J 0 tabs).length - (ksR J lev (oldA sn lt) tabs).length)) := by
  have hl := h.2.2.2.2.1
  have hfl := h.2.2.2.1
  have e1 := zR_m8 (F := F) (lev := lev) (K := (fun (z1 : Int32) (z2 : Int32) (w3 : ga_W) => (f_R_merge_80 F 54 lev z1 z2 (fun (w4 : ga_W) => ((ga_gi w4 6 26 54).bind fun v5 => (if v5 = 0 then ((ga_put w4 6 36 54 (.int (0 : Int32))).bind fun w7 => (f_R_merge_181 F 54 lev (fun (w8 : ga_W) => (if ga_is w8 6 54 = true then ga_c (f_R_dropAll F 54 lev w8) (ga_kV fun w9 => ((ga_gi w9 6 10 54).bind fun v10 => (f_R_merge_288 F 54 lev F (v10 - (1 : Int32)) w9))) ga_up else none)) F (0 : Int32) (0 : Int32) w7)) else (some (.inl (some (.int (0 : Int32))), w4))))) F (0 : Int32) w3))) hF hG tabs [] F 64 (-1) (by simpa using h) ha (by omega)
  simp only [List.length_nil, nI_0] at e1
  unfold f_R_merge
  rw [e1, ← hle, ← hmo]
  obtain ⟨w1, sc1, G1, a1, a2, a3, a4, a5, a6, a7⟩ := zR_m80 (F := F) (lev := lev) (least := least) (most := most) (G := G) (J := J) (K := (fun (w4 : ga_W) => ((ga_gi w4 6 26 54).bind fun v5 => (if v5 = 0 then ((ga_put w4 6 36 54 (.int (0 : Int32))).bind fun w7 => (f_R_merge_181 F 54 lev (fun (w8 : ga_W) => (if ga_is w8 6 54 = true then ga_c (f_R_dropAll F 54 lev w8) (ga_kV fun w9 => ((ga_gi w9 6 10 54).bind fun v10 => (f_R_merge_288 F 54 lev F (v10 - (1 : Int32)) w9))) ga_up else none)) F (0 : Int32) (0 : Int32) w7)) else (some (.inl (some (.int (0 : Int32))), w4)))))) hF tabs [] G sc w F (by simpa using h) ha hG (fun _ _ => rfl) (fun j t hj => by
    simp only [List.nil_append] at hj
    rw [hJ]; simp only [JR, hj]) (fun j hj => by simp at hj) (by omega)
  simp only [List.length_nil, nI_0, List.nil_append] at a1 a2 a4 a5
  rw [a1]
  obtain ⟨W, hW⟩ := hW
  have hW1 : isA w1 73 260 W := hW.frK a7 (by decide)
  have hJ1 : ∀ j, j < tabs.length → G1 (0 + j) = J (0 + j) := fun j hj => by rw [Nat.zero_add]; exact a4 j hj
  have j1 : jrow G1 0 tabs = jrow J 0 tabs := jrow_congr tabs 0 hJ1
  have j2 : stay G1 0 tabs = stay J 0 tabs := stay_congr tabs 0 hJ1
  have j3 : (fun k => deepG lev G1 k 0 tabs) = (fun k => deepG lev J k 0 tabs) := by funext k; exact deepG_congr tabs 0 hJ1
  by_cases hany : anyM J 0 tabs = true
  · rw [if_pos hany] at a5
    have hne : ¬ sc1 26 = 0 := by rw [a5]; decide
    refine ⟨w1, sc1, ?_, ⟨W, hW1⟩, ⟨G1, a3⟩, a7.mono (by decide), a6.mono (by simp), fun _ => ⟨a2, a5, (a6 30 (by simp)).trans h30, a6 31 (by simp)⟩, fun h9 => by rw [hany] at h9; cases h9⟩
    simp only [↓bd (rR a2.1 26 rfl), ↓iN hne, hany, if_true]
  · have hany' : anyM J 0 tabs = false := by simpa using hany
    rw [if_neg hany] at a5
    have hz : sc1 26 = 0 := a5.trans h26
    obtain ⟨w2, b1, b2, b3⟩ := zR a2.1 36 (0 : Int32) (by omega) rfl
    have hrt2 := a2.sc b3 b2 rfl rfl
    have hsj := stay_jrow G1 tabs 0
    obtain ⟨w3, sc3, c1, c2, c3, c4, c5, c6⟩ := zR_m181 (F := F) (lev := lev) (J := G1) (K := (fun (w8 : ga_W) => (if ga_is w8 6 54 = true then ga_c (f_R_dropAll F 54 lev w8) (ga_kV fun w9 => ((ga_gi w9 6 10 54).bind fun v10 => (f_R_merge_288 F 54 lev F (v10 - (1 : Int32)) w9))) ga_up else none))) hF tabs [] [] _ w2 F (by simpa using hrt2) (a3.fr b3 (by omega)) ⟨⟨W, hW1.fr b3 (by omega), fun i hi => by simp at hi⟩, rfl, by simp⟩ (by simp only [List.length_nil]; omega) (by omega)
    simp only [List.length_nil, nI_0, List.nil_append, fl_nil] at c1 c2 c4
    have h25' : sc3 25 = nI lt := by rw [c5 25 (by simp)]; show sc1 25 = _; rw [a6 25 (by simp), h25]
    have h53 : isN w3 71 sn := ((h5.frK a7 (by decide)).fr b3 (by omega)).frK c6 (by decide)
    obtain ⟨w4, sc4, d1, d2, d3, d4, d5, d6, d7⟩ := zR_dropAll (F := F) (lev := lev) hF ha c2 c4 c3 h25' h53 hs
    rw [j3, j1] at d3 d5
    change isWk w4 sc4 (ksR J lev (oldA sn lt) tabs) at d3
    change sc4 31 = sc3 31 + nI ((insA [] (jrow J 0 tabs)).length - (ksR J lev (oldA sn lt) tabs).length) at d5
    have hkl : (ksR J lev (oldA sn lt) tabs).length ≤ (jrow J 0 tabs).length := by
      have := drR_le (oldA sn lt) (fun k => deepG lev J k 0 tabs) (insA [] (jrow J 0 tabs)) (-1) (-1)
      rw [insA_len] at this
      simpa [ksR] using this
    obtain ⟨w5, sc5, f1, f2, f3, f4, f5⟩ := zR_m288 (F := F) (lev := lev) hF tabs.length tabs [] sc4 w4 F rfl (by simpa using d2) d4 (by omega)
    rw [List.append_nil, j2] at f2
    have hst := stay_ne (J := J) ha 0
    have hsl := ne_le hst
    rw [j1, j2] at hsj
    have hwk5 : isWk w5 sc5 (ksR J lev (oldA sn lt) tabs) := by
      obtain ⟨⟨W9, hA9, hag9⟩, h369, hl9⟩ := d3
      exact ⟨⟨W9, hA9.fr f5 (by omega), hag9⟩, (f4 36 (by simp)).trans h369, hl9⟩
    have h305 : sc5 30 = mk := by
      rw [f4 30 (by simp), d6 30 (by simp), c5 30 (by simp)]
      show sc1 30 = mk
      rw [a6 30 (by simp), h30]
    obtain ⟨w6, sc6, g1, g2, g3, g4, g5⟩ := zR_place (F := F) (lev := lev) hF hst f2 hwk5 h305 (fun r hr => by
      have h8 := drR_mem _ _ _ hr
      rcases insA_mem _ _ h8 with h9 | h9
      · simp at h9
      · exact hok hany' r h9) (by omega) (by omega)
    refine ⟨w6, sc6, ?_, ?_, ⟨G1, (f3.fr g5 (by omega))⟩, ?_, ?_, (fun h9 => by rw [hany'] at h9; cases h9), fun _ => ⟨g2, ?_, g3, ?_⟩⟩
    · simp only [↓bd (rR a2.1 26 rfl), ↓ip hz, ↓bd b1]
      rw [c1]
      simp only [↓ip (rR_is c2.1), ↓gcV d1, ↓bd (rR10 d2)]
      rw [f1]
      simp only [↓gcV g1, hany']
      rfl
    · obtain ⟨⟨W9, hA9, -⟩, -⟩ := hwk5
      exact ⟨W9, hA9.fr g5 (by omega)⟩
    · exact ((((((a7.mono (by decide)).tr ((b3.mono (e' := 54) (k' := 9) (by omega) (by omega)).K (by simp))).tr (c6.mono (by decide))).tr (d7.mono (by decide))).tr (f5.K (by simp))).tr (g5.K (by simp)))
    · exact ((((((a6.mono (by simp)).tr (scF.up (by simp))).tr (c5.mono (by simp))).tr (d6.mono (by simp))).tr (f4.mono (by simp))).tr (g4.mono (by simp)))
    · rw [g4 26 (by simp), f4 26 (by simp), d6 26 (by simp), c5 26 (by simp)]
      exact hz
    · rw [g4 31 (by simp), f4 31 (by simp), d5, c5 31 (by simp), insA_len]
      show sc1 31 + _ = _
      rw [a6 31 (by simp)]
      simp
