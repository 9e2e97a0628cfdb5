/-! PURE, 46: from the start to the end -/
theorem atl (v : ga_W) (f : ga_W → ga_O) : ga_at v f = f v := rfl
theorem law_gen {F : Nat} {xs : Nat → Int32} {L : Nat} {w2 w5 : ga_W} (hL : f_L_init F 0 ([.inr (5, [.null, .null, .null, .null, .int 0, .int 0, .int 0, .int 0, .int 0])], 0 + 1, 0 + 9) = some (.inl none, w2)) (k2 : ga_okA w2 [(1, .ref 0), (0, .float 0)] [] = true) (l2 : w2.1.length = 54) (hR : f_R_init F 54 (w2.1 ++ [.inr (6, [.int 0, .null, .null, .null, .null, .int 0, .null, .null, .null, .null, .int 0, .null, .null, .null, .null, .int 0, .null, .int 0, .int 0, .null, .null, .null, .int 0, .null, .null, .int 0, .int 0, .int 0, .int 0, .int 0, .int 0, .int 0, .null, .null, .null, .null, .int 0, .null, .int 0])], w2.2.1 + 1, w2.2.2 + 39) = some (.inl none, w5)) (l5 : w5.1.length = 78) (k5 : ga_okA w5 [(2, .ref 54), (1, .ref 0), (0, .float 0)] [] = true) (k7 : ga_okA (w5.1 ++ [.inl (2, 1, .inr (.inl (fun _ => 0)))], w5.2.1 + 1, w5.2.2 + 1) [(3, .ref 78), (2, .ref 54), (1, .ref 0), (0, .float 0)] [] = true) :
    f_W_law F xs L ([], 0, 0) = f_W_law_28 F xs L 0 54 78 79 F 0 ((w5.1 ++ [.inl (2, 1, .inr (.inl (fun _ => 0)))]) ++ [.inl (3, 1, .inr (.inr (.inr (.inl (fun _ => 0)))))], w5.2.1 + 1 + 1, w5.2.2 + 1 + 1) := by
  have k1 : ga_okA ([], 0, 0) [(0, .float 0)] [] = true := rfl
  have e7 : (w5.1 ++ [(.inl (2, 1, .inr (.inl (fun _ => 0))) : ga_E)]).length = 79 := by simp [l5]
  have c1 : (([(0, .float 0)] : List (Nat × Value)).all (fun q => ga_ok ([(.inr (5, [.null, .null, .null, .null, .int 0, .int 0, .int 0, .int 0, .int 0]) : ga_E)] : List ga_E).length q.2)) = true ∧ (([.ref 0] : List Value).all (ga_ok ([(.inr (5, [.null, .null, .null, .null, .int 0, .int 0, .int 0, .int 0, .int 0]) : ga_E)] : List ga_E).length)) = true := ⟨rfl, rfl⟩
  have c2 : ∀ n : Nat, n = 55 → (([(1, .ref 0), (0, .float 0)] : List (Nat × Value)).all (fun q => ga_ok n q.2)) = true ∧ (([.ref 54] : List Value).all (ga_ok n)) = true := fun n h => by subst h; exact ⟨rfl, rfl⟩
  have e4 : (w2.1 ++ [(.inr (6, [.int 0, .null, .null, .null, .null, .int 0, .null, .null, .null, .null, .int 0, .null, .null, .null, .null, .int 0, .null, .int 0, .int 0, .null, .null, .null, .int 0, .null, .null, .int 0, .int 0, .int 0, .int 0, .int 0, .int 0, .int 0, .null, .null, .null, .null, .int 0, .null, .int 0]) : ga_E)]).length = 55 := by simp [l2]
  unfold f_W_law
  rw [if_pos k1, atl]
  show (if (([(0, .float 0)] : List (Nat × Value)).all (fun q => ga_ok ([(.inr (5, [.null, .null, .null, .null, .int 0, .int 0, .int 0, .int 0, .int 0]) : ga_E)] : List ga_E).length q.2)) = true ∧ (([.ref 0] : List Value).all (ga_ok ([(.inr (5, [.null, .null, .null, .null, .int 0, .int 0, .int 0, .int 0, .int 0]) : ga_E)] : List ga_E).length)) = true then (ga_c (f_L_init F 0 ([.inr (5, [.null, .null, .null, .null, .int 0, .int 0, .int 0, .int 0, .int 0])], 0 + 1, 0 + 9)) _ _) else none) = _
  rw [if_pos c1, gcV hL]
  simp only [List.length_nil]
  rw [if_pos k2, atl]
  simp only [l2]
  rw [if_pos (c2 _ e4), gcV hR, if_pos k5, atl]
  simp only [l5]
  rw [if_pos k7, atl]
  simp only [e7]
theorem okc54 {a b : Nat} : ga_okA (c54, a, b) [(1, .ref 0), (0, .float 0)] [] = true := by
  have h : c54.all (ga_okE 54) = true := rfl
  unfold ga_okA
  simp only [c54_len, h]
  rfl
theorem all79 {n : Nat} (hn : 78 ≤ n) {x : List ga_E} (hx : x.all isAr = true) : ((c54 ++ .inr (6, fz24) :: pz23) ++ x).all (ga_okE n) = true := by
  rw [List.all_eq_true]
  intro y hy
  rcases List.mem_append.mp hy with hy | hy
  · rcases List.mem_append.mp hy with hy | hy
    · exact ok_mono (by omega) (c54_ok y hy)
    · rcases List.mem_cons.mp hy with rfl | hy
      · exact ok_mono hn (show ga_okE 78 (.inr (6, fz24)) = true from rfl)
      · have h : pz23.all isAr = true := rfl
        exact isAr_ok (List.all_eq_true.mp h y hy)
  · exact isAr_ok (List.all_eq_true.mp hx y hy)
theorem len78 : (c54 ++ (.inr (6, fz24) : ga_E) :: pz23).length = 78 := rfl
theorem law_start (xs : Nat → Int32) (L : Nat) : ∃ a b, f_W_law 2000 xs L ([], 0, 0) = f_W_law_28 2000 xs L 0 54 78 79 2000 0 (((c54 ++ .inr (6, fz24) :: pz23) ++ [.inl (2, 1, .inr (.inl (fun _ => 0)))]) ++ [.inl (3, 1, .inr (.inr (.inr (.inl (fun _ => 0)))))], a, b) ∧ a ≤ 80 ∧ b ≤ 100000 := by
  obtain ⟨a, b, hL, ha, hb⟩ := start_L
  obtain ⟨a', b', hR, ha', hb'⟩ := start_R (a + 1) (b + 39)
  have k5 : ga_okA (c54 ++ .inr (6, fz24) :: pz23, a', b') [(2, .ref 54), (1, .ref 0), (0, .float 0)] [] = true := by
    have h := all79 (n := 78) (by omega) (x := []) rfl
    rw [List.append_nil] at h
    unfold ga_okA
    simp only [len78, h]
    rfl
  have l7 : ((c54 ++ (.inr (6, fz24) : ga_E) :: pz23) ++ [(.inl (2, 1, .inr (.inl (fun _ => 0))) : ga_E)]).length = 79 := rfl
  have k7 : ga_okA ((c54 ++ .inr (6, fz24) :: pz23) ++ [.inl (2, 1, .inr (.inl (fun _ => 0)))], a' + 1, b' + 1) [(3, .ref 78), (2, .ref 54), (1, .ref 0), (0, .float 0)] [] = true := by
    have h := all79 (n := 79) (by omega) (x := [.inl (2, 1, .inr (.inl (fun _ => 0)))]) rfl
    unfold ga_okA
    simp only [l7, h]
    rfl
  exact ⟨_, _, law_gen (w2 := (c54, a, b)) (w5 := (c54 ++ .inr (6, fz24) :: pz23, a', b')) hL okc54 c54_len hR len78 k5 k7, by show a' + 1 + 1 ≤ 80; omega, by show b' + 1 + 1 ≤ 100000; omega⟩
/-! the first state -/
def S0 : St := (([], 0, 0, 0, -1, -1), [], [], 0, none, fun _ => -1, 0, 0, 0, 0)
theorem S0_inv : sI S0 := by
  show Inv (([], 0, 0, 0, -1, -1) : LV) [] [] 0 none (fun _ => -1) 0
  refine ⟨⟨by simp, List.Pairwise.nil, by simp [fl_nil], by simp [fl_nil]⟩, fun _ => by simp [cl], by simp [cl], by simp [fl_nil], by simp, by simp, by simp [fl_nil], by simp [fl_nil], by simp, by simp, by simp, (fun ps h => by cases h), fun i _ => Or.inl rfl⟩
variable {a b : Nat}
def w80 (a b : Nat) : ga_W := (((c54 ++ .inr (6, fz24) :: pz23) ++ [.inl (2, 1, .inr (.inl (fun _ => 0)))]) ++ [.inl (3, 1, .inr (.inr (.inr (.inl (fun _ => 0)))))], a, b)
theorem E0 {e cap : Nat} {w : ga_W} (hc : cap ≤ 1000) (h0 : w.1[e]? = some (.inr (0, [.ref (e+1), .ref (e+2), .ref (e+3), .ref (e+4), .ref (e+5), .int 0]))) (h1 : w.1[e+1]? = some (.inl (0, cap, .inl (fun _ => 0)))) (h2 : w.1[e+2]? = some (.inl (0, cap, .inl (fun _ => 0)))) (h3 : w.1[e+3]? = some (.inl (0, cap, .inl (fun _ => 0)))) (h4 : w.1[e+4]? = some (.inl (1, cap, .inl (fun _ => 0)))) (h5 : w.1[e+5]? = some (.inl (1, cap, .inl (fun _ => 0)))) : isEl w e cap [] :=
  ⟨by simp, hc, by simp, fun _ => zr, ⟨h0, h1, h2, h3, h4, h5⟩, fun i hi => by simp at hi⟩
