/-! PURE, 37: lists: the reference's merge is the class's -/
theorem anyM_S {lev L M : Int32} {a b : Nat} {J : Nat → Int32} (ts : List Tab) : ∀ i, (∀ j t, ts[j]? = some t → J (i + j) = bI (jm lev L M a b (i + j) t)) → (∀ t ∈ ts, t.2.2.length ≤ 240) → anyM J i ts = anyS lev L M a b i ts := by
  induction ts with
  | nil => intro i _ _; rfl
  | cons t ts ih =>
    intro i h hl
    have h0 := h 0 t rfl
    rw [Nat.add_zero] at h0
    have h1 := ih (i + 1) (fun j u hu => by have := h (j + 1) u (by simpa using hu); rwa [show i + (j + 1) = i + 1 + j by omega] at this) (fun u hu => hl u (by simp [hu]))
    simp only [anyM, anyS, h1]
    congr 1
    have h2 := msk_nsb (rows := t.2.2) (hl t (by simp))
    rw [h0]
    cases jm lev L M a b i t
    · simp [bI]
    · have : (¬ msk t.2.2 = 0) ↔ 0 < nsb t.2.2 := by rw [h2]; omega
      simp [bI, this]
theorem deepG_deep {lev k : Int32} {J : Nat → Int32} (ts : List Tab) : ∀ i, (∀ j t, ts[j]? = some t → lev < t.2.1 → J (i + j) = 0) → deepG lev J k i ts = deep lev ts k := by
  induction ts with
  | nil => intro i _; rfl
  | cons t ts ih =>
    intro i h
    have h0 := h 0 t rfl
    rw [Nat.add_zero] at h0
    have h1 := ih (i + 1) (fun j u hu => by have := h (j + 1) u (by simpa using hu); rwa [show i + (j + 1) = i + 1 + j by omega] at this)
    simp only [deepG, deep, List.any_cons, h1]
    by_cases h9 : lev < t.2.1
    · simp [h0 h9]
    · simp [h9]
theorem anyM_row {J : Nat → Int32} (ts : List Tab) : ∀ i, anyM J i ts = false → ∀ r ∈ jrow J i ts, ∃ t ∈ ts, r ∈ t.2.2 ∧ msk t.2.2 = 0 := by
  induction ts with
  | nil => intro i _ r hr; simp [jrow] at hr
  | cons t ts ih =>
    intro i h r hr
    simp only [anyM, Bool.or_eq_false_iff] at h
    simp only [jrow] at hr
    by_cases h0 : J i = 0
    · rw [if_pos h0] at hr
      obtain ⟨u, h1, h2⟩ := ih (i + 1) h.2 r hr
      exact ⟨u, by simp [h1], h2⟩
    · rw [if_neg h0] at hr
      rcases List.mem_append.mp hr with hr | hr
      · refine ⟨t, by simp, hr, ?_⟩
        have := h.1
        simp [h0] at this
        exact this
      · obtain ⟨u, h1, h2⟩ := ih (i + 1) h.2 r hr
        exact ⟨u, by simp [h1], h2⟩
theorem blk_zero {t : Tab} (h : okTb t) (hm : msk t.2.2 = 0) : ∀ r ∈ t.2.2, r.2.2.2.2 = 0 := fun r hr => by
  obtain ⟨i, hi', rfl⟩ := List.mem_iff_getElem.mp hr
  have h1 := nsb_zero.mp ((msk_nsb h.2.2.2.2.2).mp hm) (i / 4)
  exact (h.2.2.2.1 i _ (List.getElem?_eq_getElem hi')).mpr h1
theorem fl_mem {ts : List Tab} {r : Row} : r ∈ fl ts ↔ ∃ t ∈ ts, r ∈ t.2.2 := by simp [fl, List.mem_flatMap]
/-- what the merged rows are, and the tables behind a merge -/
def mks (lv : Nat) (old : Int32) (tabs Ms Y : List Tab) : List Row := kp (nI (lv + 1)) old tabs none (srt (fl Ms ++ fl Y))
def mnw (lv : Nat) (old mk : Int32) (tabs P1 Ms P2 X Y Z R : List Tab) : List Tab := (P1 ++ (P2 ++ X)) ++ (sp6 (nI (lv + 1)) mk [] (mks lv old tabs Ms Y) ++ (Z ++ R))
theorem mst_ord {lv : Nat} {tabs P1 Ms P2 X Y Z R : List Tab} (hlv : lv < 3) (hm : mst lv tabs P1 Ms P2 X Y Z R) (hp : tabs.Pairwise ordT) : (∀ x ∈ X, ∀ y ∈ Y, hi x < lo y) ∧ (∀ y ∈ Y, ∀ z ∈ Z, hi y < lo z) ∧ (∀ x ∈ X, ∀ z ∈ Z, hi x < lo z) := by
  obtain ⟨ht, hne, hP1, hMs, hP2, hX, hY, hZ, hR⟩ := hm
  rw [ht] at hp
  have hn0 : ¬ nI (lv + 1) = 0 := fun h9 => by
    have h0 : (0 : Int32) = nI 0 := by decide
    rw [h0] at h9
    exact absurd ((nI_inj (by omega) (by omega)).mp h9) (by omega)
  have hh : ∀ {t u : Tab}, ordT t u → t.2.1 = nI (lv + 1) → u.2.1 = nI (lv + 1) → hi t < lo u := fun h h1 h2 => by
    rcases h with h | ⟨-, h | h⟩
    · rw [h1, h2] at h; exact absurd h Int32.lt_irrefl
    · rw [h1] at h; exact absurd h hn0
    · exact h
  simp only [List.pairwise_append, List.mem_append] at hp
  obtain ⟨-, ⟨-, ⟨-, ⟨-, ⟨-, -, hyz⟩, hx⟩, -⟩, -⟩, -⟩ := hp
  refine ⟨fun x hx1 y hy1 => hh (hx x hx1 y (Or.inl hy1)) (hX x hx1).1 (hY y hy1).1, fun y hy1 z hz1 => hh (hyz y hy1 z (Or.inl hz1)) (hY y hy1).1 (hZ z hz1).1, fun x hx1 z hz1 => hh (hx x hx1 z (Or.inr (Or.inl hz1))) (hX x hx1).1 (hZ z hz1).1⟩
/-- where the merged keys lie -/
theorem mst_keys {lv : Nat} {tabs P1 Ms P2 X Y Z R : List Tab} (hlv : lv < 3) (hm : mst lv tabs P1 Ms P2 X Y Z R) (hI : InvT tabs) {v : Row} (hv : v ∈ fl Ms ++ fl Y) : (∀ x ∈ X, hi x < v.1) ∧ (∀ z ∈ Z, v.1 < lo z) := by
  have ho := mst_ord hlv hm hI.2.1
  obtain ⟨ht, hne, hP1, hMs, hP2, hX, hY, hZ, hR⟩ := hm
  rcases List.mem_append.mp hv with hv | hv
  · obtain ⟨t, ht1, ht2⟩ := fl_mem.mp hv
    have h1 := key_in (hI.1 t (by rw [ht]; simp [ht1])) ht2
    have h2 := (mnL_le Ms 64).2 t ht1
    have h3 := (mxH_ge Ms (-1)).2 t ht1
    refine ⟨fun x hx => ?_, fun z hz => ?_⟩
    · have h4 := (hX x hx).2
      simp only [i_le, i_lt] at *; omega
    · have h4 := (hZ z hz).2
      simp only [i_le, i_lt] at *; omega
  · obtain ⟨t, ht1, ht2⟩ := fl_mem.mp hv
    have h1 := key_in (hI.1 t (by rw [ht]; simp [ht1])) ht2
    refine ⟨fun x hx => ?_, fun z hz => ?_⟩
    · have h4 := ho.1 x hx t ht1
      simp only [i_le, i_lt] at *; omega
    · have h4 := ho.2.1 t ht1 z hz
      simp only [i_le, i_lt] at *; omega
theorem mst_fal {lv : Nat} {tabs P1 Ms P2 X Y Z R : List Tab} (hm : mst lv tabs P1 Ms P2 X Y Z R) (hI : InvT tabs) : (fl Ms ++ fl Y).Pairwise fal1 ∧ (∀ r ∈ fl Ms ++ fl Y, okK r ∧ 0 ≤ r.2.1) := by
  obtain ⟨ht, -⟩ := hm
  refine ⟨?_, fun r hr => ?_⟩
  · have h := hI.2.2.1
    rw [ht] at h
    simp only [fl_app, List.pairwise_append, List.mem_append] at h ⊢
    obtain ⟨-, ⟨h1, ⟨-, ⟨-, ⟨h2, -, -⟩, -⟩, -⟩, h3⟩, -⟩ := h
    exact ⟨h1, h2, fun a ha b hb => h3 a ha b (Or.inr (Or.inr (Or.inl hb)))⟩
  · rw [← fl_app] at hr
    obtain ⟨t, h1, h2⟩ := fl_mem.mp hr
    exact (hI.1 t (by rw [ht]; simp only [List.mem_append] at h1 ⊢; rcases h1 with h1 | h1 <;> simp [h1])).2.1 r h2
theorem mks_mem {lv : Nat} {old : Int32} {tabs P1 Ms P2 X Y Z R : List Tab} (hm : mst lv tabs P1 Ms P2 X Y Z R) (hI : InvT tabs) {r : Row} (hr : r ∈ mks lv old tabs Ms Y) : r ∈ fl Ms ++ fl Y := by
  have h1 := (kp_sub _ _ _ _ _).mem hr
  exact (srt_mem (fun q hq => ((mst_fal hm hI).2 q hq).1)).mp h1
theorem mst_drop {lv : Nat} {tabs P1 Ms P2 X Y Z R : List Tab} (hm : mst lv tabs P1 Ms P2 X Y Z R) : (tabs.drop P1.length).take Ms.length = Ms := by
  rw [hm.1, List.drop_left, List.take_left]
theorem mst_mgd {lv : Nat} {old mk : Int32} {tabs P1 Ms P2 X Y Z R : List Tab} (hm : mst lv tabs P1 Ms P2 X Y Z R) (hI : InvT tabs) : mgd (Jc (nI (lv + 1)) (mnL 64 Ms) (mxH (-1) Ms) P1.length (P1.length + Ms.length) tabs) (nI (lv + 1)) (mxH (-1) Ms) old mk tabs = mnw lv old mk tabs P1 Ms P2 X Y Z R ∧ mgk (Jc (nI (lv + 1)) (mnL 64 Ms) (mxH (-1) Ms) P1.length (P1.length + Ms.length) tabs) (nI (lv + 1)) old tabs = mks lv old tabs Ms Y := by
  obtain ⟨j1, j2, j3, j4, j5⟩ := mst_J hm hI.1
  have hsp : tabs = (P1 ++ (Ms ++ (P2 ++ (X ++ Y)))) ++ (Z ++ R) := by rw [hm.1]; simp [List.append_assoc]
  have t1 : tabs.take (P1 ++ (Ms ++ (P2 ++ (X ++ Y)))).length = P1 ++ (Ms ++ (P2 ++ (X ++ Y))) := by
    conv => lhs; rw [hsp]
    rw [List.take_left]
  have t2 : tabs.drop (P1 ++ (Ms ++ (P2 ++ (X ++ Y)))).length = Z ++ R := by
    conv => lhs; rw [hsp]
    rw [List.drop_left]
  constructor
  · unfold mgd mnw mks
    rw [j3, t1, t2, j4, j5, j2]
  · unfold mgk mks
    rw [j2]
set_option maxHeartbeats 1000000 in
theorem mst_stOK {lv : Nat} {old : Int32} {s : LV} {P1 Ms P2 X Y Z R : List Tab} (hlv : lv < 3) (hm : mst lv s.1 P1 Ms P2 X Y Z R) (hI : InvT s.1) : stOK old lv P1.length Ms.length s := by
  intro G hG
  have hgon : gon G 0 s.1 = Ms := by
    rw [gon_rng s.1 0 P1.length Ms.length (fun j hj => by rw [Nat.zero_add]; exact hG j _ (List.getElem?_eq_getElem hj))]
    exact mst_drop hm
  rw [hgon]
  have hJ : ∀ j, j < s.1.length → JR (nI (lv + 1)) (mnL 64 Ms) (mxH (-1) Ms) G s.1 (0 + j) = Jc (nI (lv + 1)) (mnL 64 Ms) (mxH (-1) Ms) P1.length (P1.length + Ms.length) s.1 (0 + j) := fun j hj => by
    rw [Nat.zero_add]
    have hat := List.getElem?_eq_getElem hj
    rw [Jc_at hat]
    unfold JR
    rw [hat]
    simp only [mk1, hG j _ hat, jm]
    by_cases h1 : s.1[j].2.1 = nI (lv + 1)
    · by_cases h2 : lo s.1[j] ≤ mxH (-1) Ms ∧ mnL 64 Ms ≤ hi s.1[j]
      · rw [if_pos ⟨h1, h2⟩]
        simp only [h1, h2, and_self, decide_true, Bool.and_self, Bool.true_or]
        rfl
      · rw [if_neg (fun h9 => h2 h9.2)]
        simp only [h2, decide_false, Bool.and_false, Bool.false_or]
    · rw [if_neg (fun h9 => h1 h9.1)]
      simp only [h1, decide_false, Bool.false_and, Bool.false_or]
  have q1 := anyM_congr s.1 0 hJ
  have q2 := jrow_congr s.1 0 hJ
  have q3 := stay_congr s.1 0 hJ
  have q4 : (fun k => deepG (nI (lv + 1)) (JR (nI (lv + 1)) (mnL 64 Ms) (mxH (-1) Ms) G s.1) k 0 s.1) = fun k => deep (nI (lv + 1)) s.1 k := by
    funext k
    rw [deepG_congr s.1 0 hJ]
    apply deepG_deep
    intro j t hj hlt
    rw [Nat.zero_add, Jc_at hj, bI0]
    have h1 : ¬ t.2.1 = nI (lv + 1) := fun h9 => by rw [h9] at hlt; exact Int32.lt_irrefl hlt
    have h2 : ¬ (P1.length ≤ j ∧ j < P1.length + Ms.length) := fun h9 => by
      have hat : Ms[j - P1.length]? = some t := by
        rw [hm.1, List.getElem?_append_right h9.1, List.getElem?_append_left (by omega)] at hj
        exact hj
      have := hm.2.2.2.1 t (List.mem_of_getElem? hat)
      rw [i_lt] at *
      omega
    simp only [jm, h1, decide_false, Bool.false_and, Bool.false_or, ← Bool.decide_and, h2]
  obtain ⟨j1, j2, j3, j4, j5⟩ := mst_J hm hI.1
  obtain ⟨g1, g2⟩ := mst_mgd (old := old) (mk := s.2.2.1) hm hI
  obtain ⟨f1, f2⟩ := mst_fal hm hI
  have qS : anyM (Jc (nI (lv + 1)) (mnL 64 Ms) (mxH (-1) Ms) P1.length (P1.length + Ms.length) s.1) 0 s.1 = anyS (nI (lv + 1)) (mnL 64 Ms) (mxH (-1) Ms) P1.length (P1.length + Ms.length) 0 s.1 := anyM_S s.1 0 (fun j t hj => by rw [Nat.zero_add]; exact Jc_at hj) (fun t ht => (hI.1 t ht).2.2.2.2.2)
  constructor
  · intro hany r hr
    rw [q2] at hr
    rw [q1] at hany
    obtain ⟨t, h1, h2, h3⟩ := anyM_row s.1 0 hany r hr
    exact blk_zero (hI.1 t h1) h3 r h2
  · have hks : ksR (JR (nI (lv + 1)) (mnL 64 Ms) (mxH (-1) Ms) G s.1) (nI (lv + 1)) old s.1 = mks lv old s.1 Ms Y := by
      unfold ksR mks
      rw [q4, q2, j2, insA_srt (List.Perm.refl _) (fun r hr => (f2 r hr).1) f1]
      have hmem : ∀ r ∈ srt (fl Ms ++ fl Y), r ∈ fl Ms ++ fl Y := fun r hr => (srt_mem (fun q hq => (f2 q hq).1)).mp hr
      refine drR_kp _ none (-1) (-1) ⟨rfl, rfl⟩ (fun _ _ => rfl) ((srt_bef (fun r hr => (f2 r hr).1) f1).imp (fun {a b} h h9 => ?_)) (fun p hp => by cases hp) (fun r hr => ?_)
      · rcases h with h | h
        · rw [h9] at h; exact absurd h Int32.lt_irrefl
        · exact h.2
      · have h9 := f2 r (hmem r hr)
        obtain ⟨k, hk, hk2⟩ := h9.1
        exact ⟨by rw [hk2]; exact nI_nn (by omega), h9.2⟩
    have hmg : mgR (JR (nI (lv + 1)) (mnL 64 Ms) (mxH (-1) Ms) G s.1) (nI (lv + 1)) old s.2.2.1 s.1 = mnw lv old s.2.2.1 s.1 P1 Ms P2 X Y Z R := by
      unfold mgR mnw
      rw [hks, q3, j1]
      by_cases hk0 : mks lv old s.1 Ms Y = []
      · rw [hk0]
        simp only [sp6, if_true, List.nil_append]
        rw [List.take_append_drop]
      · have hhd : ((mks lv old s.1 Ms Y).headD zr) ∈ fl Ms ++ fl Y := by
          apply mks_mem (old := old) hm hI
          cases h9 : mks lv old s.1 Ms Y with
          | nil => exact absurd h9 hk0
          | cons a b => simp
        obtain ⟨k1, k2⟩ := mst_keys hlv hm hI hhd
        obtain ⟨ht, hne, hP1, hMs, hP2, hX, hY, hZ, hR⟩ := id hm
        have hp : pR (nI (lv + 1)) (mks lv old s.1 Ms Y) ((P1 ++ (P2 ++ X)) ++ (Z ++ R)) 0 = (P1 ++ (P2 ++ X)).length := by
          rw [pR_app _ _ 0 (fun t h9 => ?_), pR_stop _ _ (fun t h9 => ?_), Nat.zero_add]
          · rcases List.mem_append.mp h9 with h9 | h9
            · have h8 := hZ t h9
              have h7 := k2 t h9
              rintro (h6 | ⟨-, -, h6⟩)
              · rw [h8.1] at h6; exact Int32.lt_irrefl h6
              · simp only [i_le, i_lt] at *; omega
            · have h8 := hR t h9
              rintro (h6 | ⟨h6, -⟩)
              · rw [i_lt] at *; omega
              · rw [h6] at h8; exact Int32.lt_irrefl h8
          · simp only [List.mem_append] at h9
            rcases h9 with h9 | h9 | h9
            · exact Or.inl (hP1 t h9)
            · exact Or.inl (hP2 t h9)
            · refine Or.inr ⟨(hX t h9).1, hk0, ?_⟩
              have h8 := k1 t h9
              have h7 := lo_hi (hI.1 t (by rw [ht]; simp [h9]))
              simp only [i_le, i_lt] at *; omega
        rw [hp, List.take_left, List.drop_left]
    unfold mrgR mrgC
    rw [hgon, mst_drop hm, q1, qS, hmg, hks, q2, j2, g1, g2]
