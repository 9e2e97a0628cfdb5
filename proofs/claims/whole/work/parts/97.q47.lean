/-! PURE, 47: the claim -/
variable {a b : Nat}
theorem sh0 {s : Nat} {w : ga_W} (h0 : w.1[s]? = some (.inr (3, [.ref (s+1), .ref (s+7), .ref (s+8), .ref (s+9), .int 0]))) (he : isEl w (s + 1) 240 []) (h1 : w.1[s+7]? = some (.inl (0, 240, .inl (fun _ => 0)))) (h2 : w.1[s+8]? = some (.inl (0, 240, .inl (fun _ => 0)))) (h3 : w.1[s+9]? = some (.inl (0, 241, .inl (fun _ => 0)))) : isSh w s [] [] :=
  ⟨h0, by simp, he, ⟨_, h1, fun i t h => by simp at h⟩, ⟨_, h2, fun i t h => by simp at h⟩, ⟨_, h3, fun i hi => by simp at hi; subst hi; rfl⟩⟩
theorem n4 {x : Nat} {w : ga_W} (h : w.1[x]? = some (.inl (0, 4, .inl (upd (upd (upd (upd (fun _ => 0) 0 (-1)) 1 (-1)) 2 (-1)) 3 (-1))))) : isN w x (fun _ => -1) :=
  ⟨_, h, fun i hi => by
    rcases (show i = 0 ∨ i = 1 ∨ i = 2 ∨ i = 3 by omega) with rfl | rfl | rfl | rfl <;> rfl⟩
theorem S0_L : sL (w80 a b) S0 := by
  show isL (w80 a b) (([], 0, 0, 0, -1, -1) : LV) [] [] 0 none (fun _ => -1) 0 0 0 0
  refine ⟨rfl, ⟨⟨rfl, by simp, fun _ => 0, rfl, fun i hi => by simp at hi; subst hi; rfl⟩, E0 (by omega) rfl rfl rfl rfl rfl rfl, rfl⟩, ?_, ⟨[], E0 (by omega) rfl rfl rfl rfl rfl rfl, fun ps h => by cases h⟩, n4 rfl⟩
  exact ⟨10, 20, ⟨rfl, Or.inl ⟨rfl, rfl⟩⟩, sh0 rfl (E0 (by omega) rfl rfl rfl rfl rfl rfl) rfl rfl rfl, ⟨[], [], sh0 rfl (E0 (by omega) rfl rfl rfl rfl rfl rfl) rfl rfl rfl⟩, ⟨[], _, _, rfl, E0 (by omega) rfl rfl rfl rfl rfl rfl, rfl, rfl⟩, ⟨[], E0 (by omega) rfl rfl rfl rfl rfl rfl⟩, ⟨_, rfl⟩, ⟨_, rfl, rfl, rfl⟩⟩
theorem S0_R : sR (w80 a b) 0 S0 := by
  show isR (w80 a b) 0 (([], 0, 0, 0, -1, -1) : LV) [] [] 0 none (fun _ => -1) 0 0 0 0
  refine ⟨fun k => if k = 22 then -1 else 0, ⟨?_, ⟨⟨fun _ => zr, ⟨rfl, rfl, rfl, rfl, fun _ => Or.inl rfl⟩, fun i hi => by simp at hi⟩, rfl, by simp⟩, ⟨⟨_, rfl, fun i x h => by simp at h⟩, rfl, by simp, rfl⟩, rfl, ⟨fun _ => zr, ⟨rfl, rfl, rfl⟩, rfl⟩, n4 rfl, rfl, rfl, rfl, rfl⟩, rfl⟩
  refine ⟨⟨rfl, rfl, rfl, by simp [fl_nil], by simp, ⟨fun _ => zr, ⟨rfl, rfl, rfl, rfl, fun _ => Or.inl rfl⟩, fun i hi => by simp [fl_nil] at hi⟩, ⟨fun _ => (0, 0, 0, 0), ⟨rfl, rfl, rfl, rfl⟩, fun i hi => by simp at hi⟩⟩, rfl, rfl, rfl, ⟨fun _ => -1, n4 rfl, rfl, rfl⟩, ⟨fun _ => zr, ⟨rfl, rfl, rfl, rfl, fun _ => Or.inl rfl⟩⟩, ⟨_, rfl⟩⟩
theorem S0_B : sB (w80 a b) 0 S0 := ⟨S0_L, S0_R, ⟨_, rfl⟩, ⟨_, rfl⟩⟩
theorem gz_pure : gz_Pure := by
  intro xs L hL
  obtain ⟨a, b, h1, h2, h3⟩ := law_start xs L
  obtain ⟨w', g1, g2, g3⟩ := law_loop (F := 2000) (xs := xs) (L := L) (by omega) hL 512 0 2000 (w80 a b) 0 S0 (by omega) (by omega) S0_B S0_inv (by show 0 + 4 * 512 < 100000; omega) (by omega)
  rw [nI_0] at g1
  have g2 : w'.2.1 ≤ a + 512 := g2
  have g3 : w'.2.2 ≤ b + 6 * 512 := g3
  exact ⟨2000, w', h1.trans g1, by omega, by omega⟩
theorem i_vc : Claimed_1_1 ∧ Claimed_1_2 := gz_claim gz_pure
