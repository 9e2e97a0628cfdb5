/-! FROM THE PURE LAW TO THE CLAIM -/
theorem gz_arr {s : State} {args : Array Value} {ty : FieldType} (hty : ∀ C, ty ≠ .object C) (h : (Cond.arrayClass ty).before args s = true) : ∃ cA : ClassId, ArrOfT s cA ty ∧ va_RA s cA ty := by
  obtain ⟨cA, kA, comp, h1, h2, h3⟩ := Cond.arrayClass_spec h
  refine ⟨cA, fun n z => ⟨fun k h => (by cases h), kA, h2, comp, h3⟩, ?_⟩
  unfold va_RA
  split
  · exact absurd rfl (hty _)
  · exact h1
set_option maxHeartbeats 4000000 in
theorem whole_start {p : Program} {e : Env} {s : State} {m : MethodId} {below : List Frame} {meth : Method} {c : Code} (l : Launch) (hst : l.stackTraces = false) {b L : Nat} {xs : Nat → Int32} (C0 : lw_At p s m meth c b L xs) (htb : c.exceptionTable.toList = []) (hmn : meth.name = "law") {F : Nat} {w' : ga_W} (hf : f_W_law F xs L ([], 0, 0) = some (.inl (some (.int 1)), w')) (hc : w'.2.1 ≤ 601024) (hs : w'.2.2 ≤ 7293034) : W p l e room_1 s m #[Value.ref b] below meth c s.heap [] 0 0 (lw_Z below #[Value.ref b] s) (entryFrame m ([Value.ref b] : List Value).toArray 9) := by
  obtain ⟨hx, hb, hr, hml, hown, hts, hX, hbl, hlocks, hgv⟩ := id C0
  obtain ⟨c0, i0, k0⟩ := u_known (C := "LevelStore$Entries") (T := T_E) (N := 6) (n := 6) hts il_E (hts _ gl_84)
  obtain ⟨c1, i1, k1⟩ := u_known (C := "LevelStore$Levels") (T := T_V) (N := 9) (n := 9) hts il_V (hts _ gl_148)
  obtain ⟨c2, i2, k2⟩ := u_known (C := "LevelStore$Memory") (T := T_M) (N := 4) (n := 4) hts il_M (hts _ gl_78)
  obtain ⟨c3, i3, k3⟩ := u_known (C := "LevelStore$Shelf") (T := T_S) (N := 5) (n := 5) hts il_S (hts _ gl_154)
  obtain ⟨c4, i4, k4⟩ := u_known (C := "LevelStore$Sorter") (T := T_O) (N := 3) (n := 3) hts il_O (hts _ gl_188)
  obtain ⟨c5, i5, k5⟩ := u_known (C := "LevelStore") (T := T_L) (N := 9) (n := 9) hts il_L (hts _ gl_70)
  obtain ⟨c6, i6, k6⟩ := u_known (C := "LevelStoreModel") (T := T_R) (N := 39) (n := 39) hts il_R (hts _ gl_756)
  obtain ⟨a0, r0⟩ := gz_arr (by intro C h; cases h) (hts _ gl_129)
  obtain ⟨a1, r1⟩ := gz_arr (by intro C h; cases h) (hts _ gl_130)
  obtain ⟨a2, r2⟩ := gz_arr (by intro C h; cases h) (hts _ gl_879)
  obtain ⟨a3, r3⟩ := gz_arr (by intro C h; cases h) (hts _ gl_1088)
  have hK : va_K (fun k => [c0, c1, c2, c3, c4, c5, c6].getD k c0, fun k => [i0, i1, i2, i3, i4, i5, i6].getD k i0) gz_cl (gz_tA (fun k => [a0, a1, a2, a3].getD k a0)) s := by
    constructor
    · intro k q hq
      match k, hq with
      | 0, hq => cases hq; exact k0
      | 1, hq => cases hq; exact k1
      | 2, hq => cases hq; exact k2
      | 3, hq => cases hq; exact k3
      | 4, hq => cases hq; exact k4
      | 5, hq => cases hq; exact k5
      | 6, hq => cases hq; exact k6
      | k + 7, hq => simp [gz_cl] at hq
    · intro k q hq
      match k, hq with
      | 0, hq => cases hq; exact r0
      | 1, hq => cases hq; exact r1
      | 2, hq => cases hq; exact r2
      | 3, hq => cases hq; exact r3
      | k + 4, hq => simp [gz_tA] at hq
  have J := m_W_law (l := l) (D := (fun k => [c0, c1, c2, c3, c4, c5, c6].getD k c0, fun k => [i0, i1, i2, i3, i4, i5, i6].getD k i0)) (cT := fun k => [a0, a1, a2, a3].getD k a0) (p := p) (e := e) (m := m) (below := below) (meth := meth) (c := c) (ad0 := fun k => k) (w0 := ([], 0, 0)) hst hX hbl F ([], 0, 0)
  obtain ⟨-, h4⟩ := J _ _ hf
  have hl := lv_entry ([.ref b]) (n := 9) (Nat.le_of_ble_eq_true rfl)
  rw [lg_entry_eq]
  refine h4 ⟨hx, hb, hml, hr, hown, hts, hlocks, Nat.le_refl _, hK, ⟨Nat.le_refl _, State.WarmedH.refl _, fun _ _ => rfl⟩, htb, hmn, Nat.le_refl _, Nat.le_refl _, hst, hts, hgv⟩ (Nat.le_refl _) (Nat.le_refl _) (by show w'.2.1 ≤ 0 + 601024; omega) (by show w'.2.2 ≤ 0 + 7293034; omega) (fun k => k) s.heap [] _ ga_X.rf ⟨fun k q h => by simp [ga_w] at h, fun i j p q h => by simp [ga_w] at h, fun k q h => by simp [ga_w] at h⟩ va_S.rf ?_
  exact hl
