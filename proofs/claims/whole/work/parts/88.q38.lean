/-! PURE, 38: lists: what holds of the tables holds behind a merge -/
theorem sp6_lev (lev : Int32) (rs : List Row) : ∀ md loose, ∀ t ∈ sp6 lev md loose rs, t.2.1 = lev := by
  induction rs with
  | nil =>
    intro md loose t ht
    simp only [sp6] at ht
    split at ht
    · simp at ht
    · simp only [List.mem_singleton] at ht; rw [ht]
  | cons r rs ih =>
    intro md loose t ht
    simp only [sp6] at ht
    split at ht
    · rcases List.mem_cons.mp ht with h | h
      · rw [h]
      · exact ih _ _ t h
    · exact ih _ _ t ht
theorem sp6_ord (lev : Int32) (rs : List Row) : ∀ md loose, (loose ++ rs).Pairwise (fun r q => r.1 ≤ q.1) → (sp6 lev md loose rs).Pairwise (fun t u => hi t < lo u) := by
  induction rs with
  | nil =>
    intro md loose _
    simp only [sp6]
    split
    · exact List.Pairwise.nil
    · exact List.pairwise_singleton _ _
  | cons r rs ih =>
    intro md loose h
    simp only [sp6]
    split
    · rename_i hc
      rw [List.pairwise_append] at h
      rw [List.pairwise_cons]
      refine ⟨fun u hu => ?_, ih _ _ (by simpa using h.2.1)⟩
      have hune := sp6_ne lev rs _ _ u hu
      obtain ⟨q, q1, q2⟩ := lo_at hune
      have hq : q ∈ [r] ++ rs := by
        rw [← sp6_fl lev rs (md + 1) [r]]
        exact fl_mem.mpr ⟨u, hu, List.mem_of_getElem? q1⟩
      have hl : loose ≠ [] := fun h9 => by rw [h9] at hc; simp at hc
      have hla : loose.getLastD zr ∈ loose := List.mem_of_getElem? (lastAt hl)
      have h1 := h.2.2 _ hla r (by simp)
      have h2 : r.1 ≤ q.1 := by
        rcases List.mem_append.mp hq with h9 | h9
        · simp at h9; rw [h9]; exact Int32.le_refl _
        · exact (List.pairwise_cons.mp h.2.1).1 q h9
      have h3 : ¬ r.1 = (loose.getLastD zr).1 := hc.2
      rw [← q2]
      show (loose.getLastD zr).1 < q.1
      simp only [i_le, i_lt, i_eq] at *
      omega
    · exact ih _ _ (by simpa using h)
theorem fl_ge {ts : List Tab} {t : Tab} (h : t ∈ ts) : t.2.2.length ≤ (fl ts).length := by
  induction ts with
  | nil => simp at h
  | cons u ts ih =>
    rw [fl_cons, List.length_append]
    rcases List.mem_cons.mp h with rfl | h
    · omega
    · have := ih h; omega
theorem blk_of_zero {t : Tab} (h : ∀ r ∈ t.2.2, r.2.2.2.2 = 0) : blkT t := fun k r hk => by
  have h1 := h r (List.mem_of_getElem? hk)
  refine ⟨fun _ => ?_, fun _ => h1⟩
  unfold sb
  split
  · rename_i q hq
    simp [h q (List.mem_of_getElem? hq)]
  · rfl
set_option maxHeartbeats 1000000 in
theorem mst_inv {lv : Nat} {old mk : Int32} {tabs P1 Ms P2 X Y Z R : List Tab} (hlv : lv < 3) (hm : mst lv tabs P1 Ms P2 X Y Z R) (hI : InvT tabs) (hd2 : ∀ x ∈ P2, ∀ j ∈ Ms, hi j < lo x) (hfz : ∀ r ∈ fl Ms ++ fl Y, r.2.2.2.2 = 0) : InvT (mnw lv old mk tabs P1 Ms P2 X Y Z R) ∧ (∀ r ∈ fl (mnw lv old mk tabs P1 Ms P2 X Y Z R), r ∈ fl tabs) ∧ (fl (mnw lv old mk tabs P1 Ms P2 X Y Z R)).length ≤ (fl tabs).length := by
  obtain ⟨f1, f2⟩ := mst_fal hm hI
  have hord := mst_ord hlv hm hI.2.1
  have hkeys := fun (v : Row) hv => mst_keys hlv hm hI (v := v) hv
  have hmem := fun (r : Row) hr => mks_mem (old := old) hm hI (r := r) hr
  obtain ⟨ht, hne, hP1, hMs, hP2, hX, hY, hZ, hR⟩ := id hm
  have hsub : (mks lv old tabs Ms Y).Sublist (srt (fl Ms ++ fl Y)) := kp_sub _ _ _ _ _
  have hbef : (mks lv old tabs Ms Y).Pairwise bef := (srt_bef (fun r hr => (f2 r hr).1) f1).sublist hsub
  have hkl : (mks lv old tabs Ms Y).length ≤ (fl Ms).length + (fl Y).length := by
    have := hsub.length_le
    rw [srt_len _ (fun r hr => (f2 r hr).1), List.length_append] at this
    exact this
  have hble : (mks lv old tabs Ms Y).Pairwise (fun r q => r.1 ≤ q.1) := hbef.imp (fun {a b} h => by
    unfold bef at h
    simp only [i_le, i_lt, i_eq] at *
    omega)
  have hbfa : (mks lv old tabs Ms Y).Pairwise fal1 := hbef.imp (fun {a b} h h9 => by
    unfold bef at h
    simp only [i_le, i_lt, i_eq] at *
    omega)
  generalize hks : mks lv old tabs Ms Y = ks at *
  have hflN : fl (sp6 (nI (lv + 1)) mk [] ks) = ks := by rw [sp6_fl]; rfl
  have hNr : ∀ t ∈ sp6 (nI (lv + 1)) mk [] ks, ∀ r ∈ t.2.2, r ∈ ks := fun t h1 r h2 => by
    rw [← hflN]; exact fl_mem.mpr ⟨t, h1, h2⟩
  have hNlev := sp6_lev (nI (lv + 1)) ks mk []
  have hNne := sp6_ne (nI (lv + 1)) ks mk []
  have hNord := sp6_ord (nI (lv + 1)) ks mk [] (by simpa using hble)
  have hNin : ∀ t ∈ sp6 (nI (lv + 1)) mk [] ks, t.2.2.Pairwise (fun r q => r.1 ≤ q.1) := by
    have h9 := hble
    rw [← hflN] at h9
    exact (List.pairwise_flatMap.mp h9).1
  have hfl : (fl tabs).length ≤ 240 := hI.2.2.2
  have hfa := hI.2.2.1
  have hpw := hI.2.1
  have hfle : (fl tabs).length = (fl P1).length + ((fl Ms).length + ((fl P2).length + ((fl X).length + ((fl Y).length + ((fl Z).length + (fl R).length))))) := by
    rw [ht]; simp [fl_app]
  have hnewfl : fl (mnw lv old mk tabs P1 Ms P2 X Y Z R) = (fl P1 ++ (fl P2 ++ fl X)) ++ (ks ++ (fl Z ++ fl R)) := by
    unfold mnw
    rw [hks]
    simp only [fl_app, hflN]
  have hnew : mnw lv old mk tabs P1 Ms P2 X Y Z R = (P1 ++ (P2 ++ X)) ++ (sp6 (nI (lv + 1)) mk [] ks ++ (Z ++ R)) := by
    unfold mnw
    rw [hks]
  have hmemT : ∀ t, t ∈ P1 ∨ t ∈ P2 ∨ t ∈ X ∨ t ∈ Z ∨ t ∈ R ∨ t ∈ Ms ∨ t ∈ Y → t ∈ tabs := fun t h9 => by
    rw [ht]
    simp only [List.mem_append]
    rcases h9 with h9 | h9 | h9 | h9 | h9 | h9 | h9 <;> simp [h9]
  rw [hnew]
  refine ⟨⟨fun t h9 => ?_, ?_, ?_, ?_⟩, fun r hr => ?_, ?_⟩
  · simp only [List.mem_append] at h9
    rcases h9 with (h9 | h9 | h9) | h9 | h9 | h9
    · exact hI.1 t (hmemT t (by simp [h9]))
    · exact hI.1 t (hmemT t (by simp [h9]))
    · exact hI.1 t (hmemT t (by simp [h9]))
    · have hlen := fl_ge h9
      rw [hflN] at hlen
      exact ⟨hNne t h9, fun r hr => f2 r (hmem r (hNr t h9 r hr)), hNin t h9, blk_of_zero (fun r hr => hfz r (hmem r (hNr t h9 r hr))), ⟨lv + 1, by omega, hNlev t h9⟩, by omega⟩
    · exact hI.1 t (hmemT t (by simp [h9]))
    · exact hI.1 t (hmemT t (by simp [h9]))
  · rw [ht] at hpw
    simp only [List.pairwise_append, List.mem_append] at hpw ⊢
    obtain ⟨p1, ⟨p2, ⟨p3, ⟨p4, ⟨p5, ⟨p6, p7, p8⟩, p9⟩, p10⟩, p11⟩, p12⟩, p13⟩ := hpw
    refine ⟨⟨p1, ⟨p3, p4, fun a ha b hb => p11 a ha b (Or.inl hb)⟩, fun a ha b hb => p13 a ha b (by rcases hb with hb | hb <;> simp [hb])⟩, ⟨?_, ⟨p6, p7, p8⟩, fun a ha b hb => ?_⟩, fun a ha b hb => ?_⟩
    · have h5 : (sp6 (nI (lv + 1)) mk [] ks).Pairwise (fun t u => ordT t u) := by
        refine List.Pairwise.imp_of_mem (R := fun t u => hi t < lo u) (fun {a b} ha hb h => ?_) hNord
        exact Or.inr ⟨(hNlev a ha).trans (hNlev b hb).symm, Or.inr h⟩
      exact h5
    · rcases hb with hb | hb
      · right
        refine ⟨(hNlev a ha).trans (hZ b hb).1.symm, Or.inr ?_⟩
        obtain ⟨q, q1, q2⟩ := hi_at (hNne a ha)
        rw [← q2]
        exact (hkeys q (hmem q (hNr a ha q (List.mem_of_getElem? q1)))).2 b hb
      · left
        rw [hNlev a ha]; exact hR b hb
    · rcases hb with hb | hb | hb
      · rcases ha with ha | ha | ha
        · left; rw [hNlev b hb]; exact hP1 a ha
        · left; rw [hNlev b hb]; exact hP2 a ha
        · right
          refine ⟨(hX a ha).1.trans (hNlev b hb).symm, Or.inr ?_⟩
          obtain ⟨q, q1, q2⟩ := lo_at (hNne b hb)
          rw [← q2]
          exact (hkeys q (hmem q (hNr b hb q (List.mem_of_getElem? q1)))).1 a ha
      · rcases ha with ha | ha | ha
        · exact p13 a ha b (by simp [hb])
        · exact p11 a ha b (by simp [hb])
        · exact p10 a ha b (by simp [hb])
      · rcases ha with ha | ha | ha
        · exact p13 a ha b (by simp [hb])
        · exact p11 a ha b (by simp [hb])
        · exact p10 a ha b (by simp [hb])
  · rw [← hnew, hnewfl]
    rw [ht] at hfa
    simp only [fl_app, List.pairwise_append, List.mem_append] at hfa ⊢
    obtain ⟨p1, ⟨p2, ⟨p3, ⟨p4, ⟨p5, ⟨p6, p7, p8⟩, p9⟩, p10⟩, p11⟩, p12⟩, p13⟩ := hfa
    refine ⟨⟨p1, ⟨p3, p4, fun a ha b hb => p11 a ha b (Or.inl hb)⟩, fun a ha b hb => p13 a ha b (by rcases hb with hb | hb <;> simp [hb])⟩, ⟨hbfa, ⟨p6, p7, p8⟩, fun a ha b hb => ?_⟩, fun a ha b hb => ?_⟩
    · rcases List.mem_append.mp (hmem a ha) with ha | ha
      · exact p12 a ha b (by rcases hb with hb | hb <;> simp [hb])
      · exact p9 a ha b hb
    · rcases hb with hb | hb
      · rcases List.mem_append.mp (hmem b hb) with hb' | hb'
        · rcases ha with ha | ha | ha
          · exact p13 a ha b (by simp [hb'])
          · intro h9
            obtain ⟨x, x1, x2⟩ := fl_mem.mp ha
            obtain ⟨j, j1, j2⟩ := fl_mem.mp hb'
            have k1 := key_in (hI.1 x (hmemT x (by simp [x1]))) x2
            have k2 := key_in (hI.1 j (hmemT j (by simp [j1]))) j2
            have k3 := hd2 x x1 j j1
            simp only [i_le, i_lt, i_eq] at *
            omega
          · intro h9
            obtain ⟨x, x1, x2⟩ := fl_mem.mp ha
            have k1 := key_in (hI.1 x (hmemT x (by simp [x1]))) x2
            have k3 := (hkeys b (hmem b hb)).1 x x1
            simp only [i_le, i_lt, i_eq] at *
            omega
        · rcases ha with ha | ha | ha
          · exact p13 a ha b (by simp [hb'])
          · exact p11 a ha b (by simp [hb'])
          · exact p10 a ha b (by simp [hb'])
      · rcases ha with ha | ha | ha
        · exact p13 a ha b (by rcases hb with hb | hb <;> simp [hb])
        · exact p11 a ha b (by rcases hb with hb | hb <;> simp [hb])
        · exact p10 a ha b (by rcases hb with hb | hb <;> simp [hb])
  · rw [← hnew, hnewfl]
    simp only [List.length_append]
    omega
  · rw [← hnew, hnewfl] at hr
    rw [ht]
    simp only [fl_app, List.mem_append] at hr ⊢
    rcases hr with (hr | hr | hr) | hr | hr | hr
    · simp [hr]
    · simp [hr]
    · simp [hr]
    · rcases List.mem_append.mp (hmem r hr) with hr | hr <;> simp [hr]
    · simp [hr]
    · simp [hr]
  · rw [← hnew, hnewfl]
    simp only [List.length_append]
    omega
theorem cl_app (l : Int32) (a b : List Tab) : cl l (a ++ b) = cl l a + cl l b := by simp [cl]
theorem cl_zero {l : Int32} {ts : List Tab} (h : ∀ t ∈ ts, ¬ t.2.1 = l) : cl l ts = 0 := by
  unfold cl
  rw [List.countP_eq_zero]
  intro t ht
  simpa using h t ht
theorem cl_all {l : Int32} {ts : List Tab} (h : ∀ t ∈ ts, t.2.1 = l) : cl l ts = ts.length := by
  unfold cl
  rw [List.countP_eq_length]
  intro t ht
  simpa using h t ht
/-- how many tables lie on a level above the merge's -/
theorem mst_cl {lv l : Nat} {old mk : Int32} {tabs P1 Ms P2 X Y Z R : List Tab} (hlv : lv < 3) (hl : l ≤ lv) (hm : mst lv tabs P1 Ms P2 X Y Z R) : cl (nI l) (mnw lv old mk tabs P1 Ms P2 X Y Z R) = cl (nI l) P1 + cl (nI l) P2 ∧ cl (nI l) tabs = cl (nI l) P1 + cl (nI l) Ms + cl (nI l) P2 := by
  obtain ⟨ht, hne, hP1, hMs, hP2, hX, hY, hZ, hR⟩ := hm
  have hn : ¬ nI (lv + 1) = nI l := fun h9 => absurd ((nI_inj (by omega) (by omega)).mp h9) (by omega)
  have zX : cl (nI l) X = 0 := cl_zero (fun t h9 => by rw [(hX t h9).1]; exact hn)
  have zY : cl (nI l) Y = 0 := cl_zero (fun t h9 => by rw [(hY t h9).1]; exact hn)
  have zZ : cl (nI l) Z = 0 := cl_zero (fun t h9 => by rw [(hZ t h9).1]; exact hn)
  have zR : cl (nI l) R = 0 := cl_zero (fun t h9 h8 => by
    have h7 := hR t h9
    rw [h8] at h7
    exact absurd ((nI_ltI (by omega) (by omega)).mp h7) (by omega))
  have zN : cl (nI l) (sp6 (nI (lv + 1)) mk [] (mks lv old tabs Ms Y)) = 0 := cl_zero (fun t h9 => by rw [sp6_lev _ _ _ _ t h9]; exact hn)
  constructor
  · unfold mnw
    simp only [cl_app, zX, zZ, zR, zN]
    omega
  · rw [ht]
    simp only [cl_app, zX, zY, zZ, zR]
    omega
