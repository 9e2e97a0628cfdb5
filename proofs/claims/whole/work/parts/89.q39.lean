/-! PURE, 39: lists: tidying ends, and keeps what holds of the tables -/
theorem dec1 {l : Nat} (hl : l < 4) (tabs : List Tab) : tabs.Pairwise ordT → ∃ P Q R, tabs = P ++ (Q ++ R) ∧ (∀ t ∈ P, t.2.1 < nI l) ∧ (∀ t ∈ Q, t.2.1 = nI l) ∧ (∀ t ∈ R, nI l < t.2.1) := by
  induction tabs with
  | nil => intro _; exact ⟨[], [], [], rfl, by simp, by simp, by simp⟩
  | cons t ts ih =>
    intro h
    rw [List.pairwise_cons] at h
    obtain ⟨P, Q, R, h1, h2, h3, h4⟩ := ih h.2
    have hge : ∀ u ∈ ts, t.2.1 ≤ u.2.1 := fun u hu => by
      rcases h.1 u hu with h9 | ⟨h9, -⟩
      · rw [i_lt] at h9; rw [i_le]; omega
      · rw [h9]; exact Int32.le_refl _
    by_cases c1 : t.2.1 < nI l
    · exact ⟨t :: P, Q, R, by rw [h1]; rfl, fun u hu => by rcases List.mem_cons.mp hu with rfl | hu; exact c1; exact h2 u hu, h3, h4⟩
    · have hP : P = [] := by
        cases P with
        | nil => rfl
        | cons u P =>
          have h5 := h2 u (by simp)
          have h6 := hge u (by rw [h1]; simp)
          simp only [i_le, i_lt] at *; omega
      subst hP
      by_cases c2 : t.2.1 = nI l
      · exact ⟨[], t :: Q, R, by rw [h1]; rfl, by simp, fun u hu => by rcases List.mem_cons.mp hu with rfl | hu; exact c2; exact h3 u hu, h4⟩
      · have c3 : nI l < t.2.1 := by simp only [i_eq, i_lt] at *; omega
        have hQ : Q = [] := by
          cases Q with
          | nil => rfl
          | cons u Q =>
            have h5 := h3 u (by simp)
            have h6 := hge u (by rw [h1]; simp)
            rw [h5] at h6
            simp only [i_le, i_lt] at *; omega
        subst hQ
        exact ⟨[], [], t :: R, by rw [h1]; rfl, by simp, by simp, fun u hu => by rcases List.mem_cons.mp hu with rfl | hu; exact c3; exact h4 u hu⟩
theorem dec2 {L M : Int32} (hLM : L ≤ M) (Q : List Tab) : Q.Pairwise (fun t u => hi t < lo u) → (∀ t ∈ Q, okTb t) → ∃ X Y Z, Q = X ++ (Y ++ Z) ∧ (∀ t ∈ X, hi t < L) ∧ (∀ t ∈ Y, lo t ≤ M ∧ L ≤ hi t) ∧ (∀ t ∈ Z, M < lo t) := by
  induction Q with
  | nil => intro _ _; exact ⟨[], [], [], rfl, by simp, by simp, by simp⟩
  | cons t ts ih =>
    intro h hok
    rw [List.pairwise_cons] at h
    obtain ⟨X, Y, Z, h1, h2, h3, h4⟩ := ih h.2 (fun u hu => hok u (by simp [hu]))
    have ht := lo_hi (hok t (by simp))
    by_cases c1 : hi t < L
    · exact ⟨t :: X, Y, Z, by rw [h1]; rfl, fun u hu => by rcases List.mem_cons.mp hu with rfl | hu; exact c1; exact h2 u hu, h3, h4⟩
    · have hX : X = [] := by
        cases X with
        | nil => rfl
        | cons u X =>
          have hu : u ∈ ts := by rw [h1]; simp
          have h5 := h2 u (by simp)
          have h6 := h.1 u hu
          have h7 := lo_hi (hok u (by simp [hu]))
          simp only [i_le, i_lt] at *; omega
      subst hX
      by_cases c2 : lo t ≤ M
      · exact ⟨[], t :: Y, Z, by rw [h1]; rfl, by simp, fun u hu => by
          rcases List.mem_cons.mp hu with rfl | hu
          · exact ⟨c2, Int32.not_lt.mp c1⟩
          · exact h3 u hu, h4⟩
      · have hY : Y = [] := by
          cases Y with
          | nil => rfl
          | cons u Y =>
            have hu : u ∈ ts := by rw [h1]; simp
            have h5 := (h3 u (by simp)).1
            have h6 := h.1 u hu
            simp only [i_le, i_lt] at *; omega
        subst hY
        exact ⟨[], [], t :: Z, by rw [h1]; rfl, by simp, by simp, fun u hu => by
          rcases List.mem_cons.mp hu with rfl | hu
          · exact Int32.not_le.mp c2
          · exact h4 u hu⟩
theorem InvT.wf {tabs : List Tab} (h : InvT tabs) : wfT tabs := ⟨fun t ht => (h.1 t ht).1, fun r hr => by
  obtain ⟨t, h1, h2⟩ := fl_mem.mp hr
  exact ((h.1 t h1).2.1 r h2).1⟩
theorem InvT.len {tabs : List Tab} (h : InvT tabs) : tabs.length ≤ 240 := Nat.le_trans (ne_le h.wf.1) h.2.2.2
/-- the parts at a merge, given what is chosen -/
theorem mk_mst {lv : Nat} {tabs P1 Ms P2 Q R : List Tab} (hlv : lv < 3) (hI : InvT tabs) (ht : tabs = (P1 ++ (Ms ++ P2)) ++ (Q ++ R)) (hne : Ms ≠ []) (hP : ∀ t ∈ P1 ++ (Ms ++ P2), t.2.1 < nI (lv + 1)) (hQ : ∀ t ∈ Q, t.2.1 = nI (lv + 1)) (hR : ∀ t ∈ R, nI (lv + 1) < t.2.1) : ∃ X Y Z, mst lv tabs P1 Ms P2 X Y Z R := by
  have hLM : mnL 64 Ms ≤ mxH (-1) Ms := by
    obtain ⟨t, hmt⟩ := List.exists_mem_of_ne_nil _ hne
    have h1 := (mnL_le Ms 64).2 t hmt
    have h2 := (mxH_ge Ms (-1)).2 t hmt
    have h3 := lo_hi (hI.1 t (by rw [ht]; simp [hmt]))
    rw [i_le] at *
    omega
  have hn0 : ¬ nI (lv + 1) = 0 := fun h9 => by
    have h0 : (0 : Int32) = nI 0 := by decide
    rw [h0] at h9
    exact absurd ((nI_inj (by omega) (by omega)).mp h9) (by omega)
  have hpQ : Q.Pairwise (fun t u => hi t < lo u) := by
    have h := hI.2.1
    rw [ht] at h
    have h := (List.pairwise_append.mp (List.pairwise_append.mp h).2.1).1
    refine List.Pairwise.imp_of_mem (fun {a b} ha hb h => ?_) h
    rcases h with h | ⟨-, h | h⟩
    · rw [hQ a ha, hQ b hb] at h; exact absurd h Int32.lt_irrefl
    · rw [hQ a ha] at h; exact absurd h hn0
    · exact h
  obtain ⟨X, Y, Z, h1, h2, h3, h4⟩ := dec2 hLM Q hpQ (fun t h9 => hI.1 t (by rw [ht]; simp [h9]))
  refine ⟨X, Y, Z, by rw [ht, h1]; simp [List.append_assoc], hne, fun t h9 => hP t (by simp [h9]), fun t h9 => hP t (by simp [h9]), fun t h9 => hP t (by simp [h9]), fun t h9 => ⟨hQ t (by rw [h1]; simp [h9]), h2 t h9⟩, fun t h9 => ⟨hQ t (by rw [h1]; simp [h9]), h3 t h9⟩, fun t h9 => ⟨hQ t (by rw [h1]; simp [h9]), h4 t h9⟩, hR⟩
theorem fAb_lev {lev key : Int32} (ts : List Tab) : ∀ (i : Nat) (first : Int32) (j : Nat), i + ts.length < 1000 → j < 1000 → fAb lev key ts i first = nI j → first = nI j ∨ ∃ t, i ≤ j ∧ ts[j - i]? = some t ∧ t.2.1 = lev := by
  induction ts with
  | nil => intro i first j _ _ h; exact Or.inl h
  | cons t ts ih =>
    intro i first j hi' hj h
    simp only [List.length_cons] at hi'
    simp only [fAb] at h
    have hlift : (∃ u, i + 1 ≤ j ∧ ts[j - (i + 1)]? = some u ∧ u.2.1 = lev) → ∃ u, i ≤ j ∧ (t :: ts)[j - i]? = some u ∧ u.2.1 = lev := fun ⟨u, h1, h2, h3⟩ => ⟨u, by omega, by rw [show j - i = (j - (i + 1)) + 1 by omega, List.getElem?_cons_succ]; exact h2, h3⟩
    by_cases c1 : t.2.1 = lev
    · rw [if_pos c1] at h
      by_cases c2 : lo t ≤ key
      · rw [if_pos c2] at h
        rcases ih (i + 1) _ j (by omega) hj h with h9 | h9
        · by_cases c3 : first = -1
          · rw [if_pos c3] at h9
            have : i = j := (nI_inj (by omega) (by omega)).mp h9
            subst this
            exact Or.inr ⟨t, Nat.le_refl _, by simp, c1⟩
          · rw [if_neg c3] at h9
            exact Or.inl h9
        · exact Or.inr (hlift h9)
      · rw [if_neg c2] at h
        have : i = j := (nI_inj (by omega) (by omega)).mp h
        subst this
        exact Or.inr ⟨t, Nat.le_refl _, by simp, c1⟩
    · rw [if_neg c1] at h
      rcases ih (i + 1) _ j (by omega) hj h with h9 | h9
      · exact Or.inl h9
      · exact Or.inr (hlift h9)
theorem pkI_lev {lv : Nat} {key : Int32} {tabs : List Tab} (h : 0 < cl (nI lv) tabs) (hl : tabs.length ≤ 240) : ∃ t, tabs[pkI lv key tabs]? = some t ∧ t.2.1 = nI lv := by
  obtain ⟨h1, h2⟩ := pkI_ok (key := key) h hl
  rcases fAb_lev tabs 0 (-1) (pkI lv key tabs) (by omega) (by omega) h1 with h9 | ⟨t, -, h3, h4⟩
  · have := nI_nn (a := pkI lv key tabs) (by omega)
    rw [← h9] at this
    exact absurd this (by decide)
  · exact ⟨t, by simpa using h3, h4⟩
def mu (tabs : List Tab) : Nat := if 4 ≤ cl 0 tabs then 481 else if 3 < cl 1 tabs then cl 1 tabs + 240 else cl 2 tabs
/-- what a merge that is not blocked makes -/
theorem mrgC_form {lv : Nat} {old : Int32} {s : LV} {P1 Ms P2 X Y Z R : List Tab} (hlv : lv < 3) (hm : mst lv s.1 P1 Ms P2 X Y Z R) (hI : InvT s.1) (hd2 : ∀ x ∈ P2, ∀ j ∈ Ms, hi j < lo x) :
    ((mrgC lv P1.length Ms.length old s).1 = s.1 ∧ (mrgC lv P1.length Ms.length old s).2.1 = 1) ∨ ((mrgC lv P1.length Ms.length old s).1 = mnw lv old s.2.2.1 s.1 P1 Ms P2 X Y Z R ∧ (mrgC lv P1.length Ms.length old s).2.1 = 0 ∧ InvT (mnw lv old s.2.2.1 s.1 P1 Ms P2 X Y Z R) ∧ (∀ r ∈ fl (mnw lv old s.2.2.1 s.1 P1 Ms P2 X Y Z R), r ∈ fl s.1) ∧ (fl (mnw lv old s.2.2.1 s.1 P1 Ms P2 X Y Z R)).length ≤ (fl s.1).length) := by
  obtain ⟨g1, g2⟩ := mst_mgd (old := old) (mk := s.2.2.1) hm hI
  obtain ⟨j1, j2, j3, j4, j5⟩ := mst_J hm hI.1
  have qS : anyM (Jc (nI (lv + 1)) (mnL 64 Ms) (mxH (-1) Ms) P1.length (P1.length + Ms.length) s.1) 0 s.1 = anyS (nI (lv + 1)) (mnL 64 Ms) (mxH (-1) Ms) P1.length (P1.length + Ms.length) 0 s.1 := anyM_S s.1 0 (fun j t hj => by rw [Nat.zero_add]; exact Jc_at hj) (fun t ht => (hI.1 t ht).2.2.2.2.2)
  unfold mrgC
  rw [mst_drop hm]
  by_cases hany : anyS (nI (lv + 1)) (mnL 64 Ms) (mxH (-1) Ms) P1.length (P1.length + Ms.length) 0 s.1 = true
  · rw [if_pos hany]
    exact Or.inl ⟨rfl, rfl⟩
  · rw [if_neg hany]
    have hany' : anyS (nI (lv + 1)) (mnL 64 Ms) (mxH (-1) Ms) P1.length (P1.length + Ms.length) 0 s.1 = false := by simpa using hany
    rw [← qS] at hany'
    have hfz : ∀ r ∈ fl Ms ++ fl Y, r.2.2.2.2 = 0 := fun r hr => by
      rw [← j2] at hr
      obtain ⟨t, h1, h2, h3⟩ := anyM_row s.1 0 hany' r hr
      exact blk_zero (hI.1 t h1) h3 r h2
    have := mst_inv (old := old) (mk := s.2.2.1) hlv hm hI hd2 hfz
    exact Or.inr ⟨g1, rfl, this.1, this.2⟩
/-- what okS asks of one step -/
def okS1 (old : Int32) (s : LV) : Prop := wfT s.1 ∧ (full s = 0 → (∀ j t, s.1[j]? = some t → (t.2.1 = 0 ↔ j < cl 0 s.1)) ∧ stOK old 0 0 (cl 0 s.1) s) ∧ (full s = 1 → stOK old 1 (pkI 1 s.2.2.2.2.1 s.1) 1 s) ∧ (full s = 2 → stOK old 2 (pkI 2 s.2.2.2.2.2 s.1) 1 s)
theorem pick_mst {lv : Nat} {key : Int32} {tabs : List Tab} (hlv0 : 0 < lv) (hlv : lv < 3) (hI : InvT tabs) (hc : 0 < cl (nI lv) tabs) : ∃ t P1 P2 X Y Z R, P1.length = pkI lv key tabs ∧ t.2.1 = nI lv ∧ mst lv tabs P1 [t] P2 X Y Z R ∧ (∀ x ∈ P2, ∀ j ∈ [t], hi j < lo x) := by
  obtain ⟨t, ht, htl⟩ := pkI_lev (key := key) hc hI.len
  generalize hpk : pkI lv key tabs = p at *
  obtain ⟨P, Q, R, h1, h2, h3, h4⟩ := dec1 (l := lv + 1) (by omega) tabs hI.2.1
  have hlt : p < P.length := by
    apply Classical.byContradiction
    intro h9
    rw [h1, List.getElem?_append_right (by omega)] at ht
    have h8 := List.mem_of_getElem? ht
    rcases List.mem_append.mp h8 with h8 | h8
    · have h7 := h3 t h8
      rw [htl] at h7
      exact absurd ((nI_inj (by omega) (by omega)).mp h7) (by omega)
    · have h7 := h4 t h8
      rw [htl] at h7
      exact absurd ((nI_ltI (by omega) (by omega)).mp h7) (by omega)
  have htP : P[p]? = some t := by
    rw [h1, List.getElem?_append_left hlt] at ht
    exact ht
  obtain ⟨hsp, hln⟩ := split1 htP
  obtain ⟨X, Y, Z, hm⟩ := mk_mst (lv := lv) (P1 := P.take (p)) (Ms := [t]) (P2 := P.drop (p + 1)) (Q := Q) (R := R) hlv hI (by rw [h1]; exact congrArg (fun l => l ++ (Q ++ R)) hsp) (by simp) (fun u hu => h2 u (by rw [hsp]; simpa using hu)) h3 h4
  refine ⟨t, _, _, X, Y, Z, R, hln, htl, hm, fun x hx j hj => ?_⟩
  simp only [List.mem_singleton] at hj
  subst hj
  have hp := hI.2.1
  rw [h1, hsp] at hp
  have hp1 := (List.pairwise_append.mp hp).1
  have hp2 := (List.pairwise_cons.mp (List.pairwise_append.mp hp1).2.1).1 x hx
  have hxl : x.2.1 < nI (lv + 1) := h2 x (by rw [hsp]; simp [hx])
  rcases hp2 with h9 | ⟨-, h9 | h9⟩
  · rw [htl] at h9
    obtain ⟨l, hl, hl2⟩ := (hI.1 x (by rw [h1, hsp]; simp [hx])).2.2.2.2.1
    rw [hl2] at h9 hxl
    have a1 := (nI_ltI (by omega) (by omega)).mp h9
    have a2 := (nI_ltI (by omega) (by omega)).mp hxl
    omega
  · rw [htl] at h9
    have h0 : (0 : Int32) = nI 0 := by decide
    rw [h0] at h9
    exact absurd ((nI_inj (by omega) (by omega)).mp h9) (by omega)
  · exact h9
theorem zero_mst {tabs : List Tab} (hI : InvT tabs) (hc : 0 < cl 0 tabs) : ∃ P X Y Z R, P.length = cl 0 tabs ∧ mst 0 tabs [] P [] X Y Z R ∧ (∀ j t, tabs[j]? = some t → (t.2.1 = 0 ↔ j < cl 0 tabs)) := by
  obtain ⟨P, Q, R, h1, h2, h3, h4⟩ := dec1 (l := 1) (by omega) tabs hI.2.1
  have h0 : (0 : Int32) = nI 0 := by decide
  have hP : ∀ t ∈ P, t.2.1 = 0 := fun t ht => by
    obtain ⟨l, hl, hl2⟩ := (hI.1 t (by rw [h1]; simp [ht])).2.2.2.2.1
    have h9 := h2 t ht
    rw [hl2] at h9
    have := (nI_ltI (by omega) (by omega)).mp h9
    rw [hl2, h0]; congr 1; omega
  have hQR : ∀ t ∈ Q ++ R, ¬ t.2.1 = 0 := fun t ht h9 => by
    rcases List.mem_append.mp ht with ht | ht
    · have h8 := h3 t ht
      rw [h9] at h8; exact absurd h8 (by decide)
    · have h8 := h4 t ht
      rw [h9] at h8; exact absurd h8 (by decide)
  have hcl : P.length = cl 0 tabs := by
    rw [h1, cl_app, cl_all hP, cl_zero hQR]; rfl
  obtain ⟨X, Y, Z, hm⟩ := mk_mst (lv := 0) (P1 := []) (Ms := P) (P2 := []) (Q := Q) (R := R) (by omega) hI (by rw [h1]; simp) (fun h9 => by rw [h9] at hcl; simp at hcl; omega) (fun u hu => h2 u (by simpa using hu)) h3 h4
  refine ⟨P, X, Y, Z, R, hcl, hm, fun j t hj => ?_⟩
  rw [← hcl]
  by_cases hx : j < P.length
  · rw [h1, List.getElem?_append_left hx] at hj
    exact ⟨fun _ => hx, fun _ => hP t (List.mem_of_getElem? hj)⟩
  · rw [h1, List.getElem?_append_right (by omega)] at hj
    exact ⟨fun h9 => absurd h9 (hQR t (List.mem_of_getElem? hj)), fun h9 => absurd h9 hx⟩
set_option maxHeartbeats 1000000 in
theorem step_ok {old : Int32} {s : LV} (hI : InvT s.1) (h0 : s.2.1 = 0) (hf : ¬ full s = -1) : okS1 old s ∧ InvT (stepC old s).1 ∧ (∀ r ∈ fl (stepC old s).1, r ∈ fl s.1) ∧ cl 0 (stepC old s).1 ≤ cl 0 s.1 ∧ ((stepC old s).2.1 = 0 → mu (stepC old s).1 + 1 ≤ mu s.1) ∧ (fl (stepC old s).1).length ≤ (fl s.1).length := by
  have n0 : nI 0 = 0 := by decide
  have n1 : nI 1 = 1 := by decide
  have n2 : nI 2 = 2 := by decide
  rcases full_cases s with ⟨hfu, hc⟩ | ⟨hfu, hc, hc0⟩ | ⟨hfu, hc, hc0, hc1⟩ | ⟨hfu, -⟩
  · obtain ⟨P, X, Y, Z, R, hcl, hm, hlev⟩ := zero_mst hI (by omega)
    have e2 : stepC old s = mrgC 0 ([] : List Tab).length P.length old s := by unfold stepC; rw [if_pos hfu, hcl]; rfl
    have hst := mst_stOK (old := old) (s := s) (by omega) hm hI
    rw [hcl] at hst
    refine ⟨⟨hI.wf, fun _ => ⟨hlev, hst⟩, fun h9 => by rw [hfu] at h9; exact absurd h9 (by decide), fun h9 => by rw [hfu] at h9; exact absurd h9 (by decide)⟩, ?_⟩
    rw [e2]
    rcases mrgC_form (old := old) (s := s) (by omega) hm hI (by simp) with ⟨a1, a2⟩ | ⟨a1, a2, a3, a4⟩
    · rw [a1, a2]
      exact ⟨hI, fun r hr => hr, Nat.le_refl _, fun h9 => absurd h9 (by decide), Nat.le_refl _⟩
    · rw [a1, a2]
      have hcl0 := (mst_cl (old := old) (mk := s.2.2.1) (l := 0) (by omega) (by omega) hm).1
      have z : ∀ l : Int32, cl l ([] : List Tab) = 0 := fun _ => rfl
      rw [n0, z] at hcl0
      refine ⟨a3, a4.1, by omega, fun _ => ?_, a4.2⟩
      have hl := a3.len
      have l1 := cl_le 1 (mnw 0 old s.2.2.1 s.1 [] P [] X Y Z R)
      have l2 := cl_le 2 (mnw 0 old s.2.2.1 s.1 [] P [] X Y Z R)
      unfold mu
      rw [if_neg (by omega), if_pos hc]
      split <;> omega
  · obtain ⟨t, P1, P2, X, Y, Z, R, hln, htl, hm, hd2⟩ := pick_mst (lv := 1) (key := s.2.2.2.2.1) (by omega) (by omega) hI (by rw [n1]; omega)
    have e2 : stepC old s = mrgC 1 P1.length [t].length old s := by unfold stepC; rw [if_neg (by rw [hfu]; decide), if_pos hfu, hln]; rfl
    have hst := mst_stOK (old := old) (s := s) (by omega) hm hI
    rw [hln] at hst
    refine ⟨⟨hI.wf, fun h9 => by rw [hfu] at h9; exact absurd h9 (by decide), fun _ => hst, fun h9 => by rw [hfu] at h9; exact absurd h9 (by decide)⟩, ?_⟩
    rw [e2]
    rcases mrgC_form (old := old) (s := s) (by omega) hm hI hd2 with ⟨a1, a2⟩ | ⟨a1, a2, a3, a4⟩
    · rw [a1, a2]
      exact ⟨hI, fun r hr => hr, Nat.le_refl _, fun h9 => absurd h9 (by decide), Nat.le_refl _⟩
    · rw [a1, a2]
      obtain ⟨u1, u2⟩ := mst_cl (old := old) (mk := s.2.2.1) (l := 0) (by omega) (by omega) hm
      obtain ⟨v1, v2⟩ := mst_cl (old := old) (mk := s.2.2.1) (l := 1) (by omega) (by omega) hm
      have w1 : cl (nI 1) [t] = 1 := cl_all (ts := [t]) (fun x hx => by simp only [List.mem_singleton] at hx; rw [hx]; exact htl)
      rw [n0] at u1 u2
      rw [w1] at v2
      rw [n1] at v1 v2
      refine ⟨a3, a4.1, by omega, fun _ => ?_, a4.2⟩
      have hl := a3.len
      have l2 := cl_le 2 (mnw 1 old s.2.2.1 s.1 P1 [t] P2 X Y Z R)
      unfold mu
      rw [if_neg (show ¬ 4 ≤ cl 0 s.1 by omega), if_pos hc, if_neg (by omega)]
      split <;> omega
  · obtain ⟨t, P1, P2, X, Y, Z, R, hln, htl, hm, hd2⟩ := pick_mst (lv := 2) (key := s.2.2.2.2.2) (by omega) (by omega) hI (by rw [n2]; omega)
    have e2 : stepC old s = mrgC 2 P1.length [t].length old s := by unfold stepC; rw [if_neg (by rw [hfu]; decide), if_neg (by rw [hfu]; decide), hln]; rfl
    have hst := mst_stOK (old := old) (s := s) (by omega) hm hI
    rw [hln] at hst
    refine ⟨⟨hI.wf, fun h9 => by rw [hfu] at h9; exact absurd h9 (by decide), fun h9 => by rw [hfu] at h9; exact absurd h9 (by decide), fun _ => hst⟩, ?_⟩
    rw [e2]
    rcases mrgC_form (old := old) (s := s) (by omega) hm hI hd2 with ⟨a1, a2⟩ | ⟨a1, a2, a3, a4⟩
    · rw [a1, a2]
      exact ⟨hI, fun r hr => hr, Nat.le_refl _, fun h9 => absurd h9 (by decide), Nat.le_refl _⟩
    · rw [a1, a2]
      obtain ⟨u1, u2⟩ := mst_cl (old := old) (mk := s.2.2.1) (l := 0) (by omega) (by omega) hm
      obtain ⟨v1, v2⟩ := mst_cl (old := old) (mk := s.2.2.1) (l := 1) (by omega) (by omega) hm
      obtain ⟨x1, x2⟩ := mst_cl (old := old) (mk := s.2.2.1) (l := 2) (by omega) (by omega) hm
      have w2 : cl (nI 2) [t] = 1 := cl_all (ts := [t]) (fun x hx => by simp only [List.mem_singleton] at hx; rw [hx]; exact htl)
      rw [w2] at x2
      rw [n0] at u1 u2
      rw [n1] at v1 v2
      rw [n2] at x1 x2
      refine ⟨a3, a4.1, by omega, fun _ => ?_, a4.2⟩
      unfold mu
      rw [if_neg (show ¬ 4 ≤ cl 0 s.1 by omega), if_neg (show ¬ 3 < cl 1 s.1 by omega), if_neg (by omega), if_neg (by omega)]
      omega
  · exact absurd hfu hf
theorem okS_of {old : Int32} : ∀ (k : Nat) (s : LV), InvT s.1 → (s.2.1 = 0 → mu s.1 ≤ k) → okS old k s := by
  intro k
  induction k with
  | zero =>
    intro s hI hk
    by_cases h0 : s.2.1 = 0
    · right
      have h1 := hk h0
      unfold mu at h1
      rcases full_cases s with ⟨hfu, hc⟩ | ⟨hfu, hc, hc0⟩ | ⟨hfu, hc, hc0, hc1⟩ | ⟨hfu, -⟩
      · rw [if_pos hc] at h1; omega
      · rw [if_neg (by omega), if_pos hc] at h1; omega
      · rw [if_neg (by omega), if_neg (by omega)] at h1; omega
      · exact hfu
    · exact Or.inl h0
  | succ k ih =>
    intro s hI hk
    by_cases hst : stops s
    · exact Or.inl hst
    · have h0 : s.2.1 = 0 := Classical.byContradiction fun h9 => hst (Or.inl h9)
      have hf : ¬ full s = -1 := fun h9 => hst (Or.inr h9)
      obtain ⟨⟨o1, o2, o3, o4⟩, a1, a2, a3, a4⟩ := step_ok (old := old) hI h0 hf
      exact Or.inr ⟨o1, o2, o3, o4, ih _ a1 (fun h9 => by have := a4.1 h9; have := hk h0; omega)⟩
theorem okS_okT {old : Int32} : ∀ (k : Nat) (s : LV), okS old k s → okT old k s := by
  intro k
  induction k with
  | zero => intro s h; exact h
  | succ k ih =>
    intro s h
    rcases h with h | ⟨h1, -, -, -, h2⟩
    · exact Or.inl h
    · exact Or.inr ⟨h1, ih _ h2⟩
theorem tdy_inv {old : Int32} : ∀ (k : Nat) (s : LV), InvT s.1 → (s.2.1 = 0 → mu s.1 ≤ k) → InvT (tdyC old k s).1 ∧ (∀ r ∈ fl (tdyC old k s).1, r ∈ fl s.1) ∧ cl 0 (tdyC old k s).1 ≤ cl 0 s.1 ∧ stops (tdyC old k s) ∧ (fl (tdyC old k s).1).length ≤ (fl s.1).length := by
  intro k
  induction k with
  | zero =>
    intro s hI hk
    exact ⟨hI, fun r hr => hr, Nat.le_refl _, okS_of (old := old) 0 s hI hk, Nat.le_refl _⟩
  | succ k ih =>
    intro s hI hk
    by_cases hst : stops s
    · have e1 : tdyC old (k + 1) s = s := by unfold tdyC; rw [if_pos hst]
      rw [e1]
      exact ⟨hI, fun r hr => hr, Nat.le_refl _, hst, Nat.le_refl _⟩
    · have e1 : tdyC old (k + 1) s = tdyC old k (stepC old s) := by
        conv => lhs; unfold tdyC
        rw [if_neg hst]
      rw [e1]
      have h0 : s.2.1 = 0 := Classical.byContradiction fun h9 => hst (Or.inl h9)
      have hf : ¬ full s = -1 := fun h9 => hst (Or.inr h9)
      obtain ⟨-, a1, a2, a3, a4⟩ := step_ok (old := old) hI h0 hf
      obtain ⟨b1, b2, b3, b4, b5⟩ := ih _ a1 (fun h9 => by have := a4.1 h9; have := hk h0; omega)
      exact ⟨b1, fun r hr => a2 r (b2 r hr), Nat.le_trans b3 a3, b4, Nat.le_trans b5 a4.2⟩
theorem mu_le {tabs : List Tab} (h : InvT tabs) : mu tabs ≤ 500 := by
  have hl := h.len
  have l1 := cl_le 1 tabs
  have l2 := cl_le 2 tabs
  unfold mu
  split
  · omega
  · split <;> omega
