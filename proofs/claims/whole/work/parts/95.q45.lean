/-! PURE, 45: the start -/
def c54 : List ga_E := [.inr (5, [.ref 1, .ref 9, .ref 47, .ref 53, .int 0, .int 0, .int 0, .int 0, .int 0]), .inr (2, [.ref 2, .ref 8, .int 0, .int 0]), .inr (0, [.ref 3, .ref 4, .ref 5, .ref 6, .ref 7, .int 0]), .inl (0, 12, .inl (fun _ => 0)), .inl (0, 12, .inl (fun _ => 0)), .inl (0, 12, .inl (fun _ => 0)), .inl (1, 12, .inl (fun _ => 0)), .inl (1, 12, .inl (fun _ => 0)), .inl (0, 9, .inl (fun _ => 0)), .inr (1, [.ref 10, .ref 20, .ref 30, .ref 39, .ref 45, .ref 46, .int 0, .int 0, .int 0]), .inr (3, [.ref 11, .ref 17, .ref 18, .ref 19, .int 0]), .inr (0, [.ref 12, .ref 13, .ref 14, .ref 15, .ref 16, .int 0]), .inl (0, 240, .inl (fun _ => 0)), .inl (0, 240, .inl (fun _ => 0)), .inl (0, 240, .inl (fun _ => 0)), .inl (1, 240, .inl (fun _ => 0)), .inl (1, 240, .inl (fun _ => 0)), .inl (0, 240, .inl (fun _ => 0)), .inl (0, 240, .inl (fun _ => 0)), .inl (0, 241, .inl (fun _ => 0)), .inr (3, [.ref 21, .ref 27, .ref 28, .ref 29, .int 0]), .inr (0, [.ref 22, .ref 23, .ref 24, .ref 25, .ref 26, .int 0]), .inl (0, 240, .inl (fun _ => 0)), .inl (0, 240, .inl (fun _ => 0)), .inl (0, 240, .inl (fun _ => 0)), .inl (1, 240, .inl (fun _ => 0)), .inl (1, 240, .inl (fun _ => 0)), .inl (0, 240, .inl (fun _ => 0)), .inl (0, 240, .inl (fun _ => 0)), .inl (0, 241, .inl (fun _ => 0)), .inr (4, [.ref 31, .ref 37, .ref 38]), .inr (0, [.ref 32, .ref 33, .ref 34, .ref 35, .ref 36, .int 0]), .inl (0, 240, .inl (fun _ => 0)), .inl (0, 240, .inl (fun _ => 0)), .inl (0, 240, .inl (fun _ => 0)), .inl (1, 240, .inl (fun _ => 0)), .inl (1, 240, .inl (fun _ => 0)), .inl (0, 65, .inl (fun _ => 0)), .inl (0, 240, .inl (fun _ => 0)), .inr (0, [.ref 40, .ref 41, .ref 42, .ref 43, .ref 44, .int 0]), .inl (0, 240, .inl (fun _ => 0)), .inl (0, 240, .inl (fun _ => 0)), .inl (0, 240, .inl (fun _ => 0)), .inl (1, 240, .inl (fun _ => 0)), .inl (1, 240, .inl (fun _ => 0)), .inl (1, 240, .inl (fun _ => 0)), .inl (0, 3, .inl (upd (upd (upd (fun _ => 0) 0 (-1)) 1 (-1)) 2 (-1))), .inr (0, [.ref 48, .ref 49, .ref 50, .ref 51, .ref 52, .int 0]), .inl (0, 4, .inl (fun _ => 0)), .inl (0, 4, .inl (fun _ => 0)), .inl (0, 4, .inl (fun _ => 0)), .inl (1, 4, .inl (fun _ => 0)), .inl (1, 4, .inl (fun _ => 0)), .inl (0, 4, .inl (upd (upd (upd (upd (fun _ => 0) 0 (-1)) 1 (-1)) 2 (-1)) 3 (-1)))]
def h0R : ga_E := .inr (6, [.int 0, .null, .null, .null, .null, .int 0, .null, .null, .null, .null, .int 0, .null, .null, .null, .null, .int 0, .null, .int 0, .int 0, .null, .null, .null, .int 0, .null, .null, .int 0, .int 0, .int 0, .int 0, .int 0, .int 0, .int 0, .null, .null, .null, .null, .int 0, .null, .int 0])
def c24 : List ga_E := [.inr (6, [.int 0, .ref 55, .ref 56, .ref 57, .ref 58, .int 0, .ref 59, .ref 60, .ref 61, .ref 62, .int 0, .ref 63, .ref 64, .ref 65, .ref 66, .int 0, .ref 67, .int 0, .int 0, .ref 68, .ref 69, .ref 70, .int (-1), .ref 71, .ref 72, .int 0, .int 0, .int 0, .int 0, .int 0, .int 0, .int 0, .ref 73, .ref 74, .ref 75, .ref 76, .int 0, .ref 77, .int 0]), .inl (0, 260, .inl (fun _ => 0)), .inl (0, 260, .inl (fun _ => 0)), .inl (0, 260, .inl (fun _ => 0)), .inl (1, 260, .inl (fun _ => 0)), .inl (0, 260, .inl (fun _ => 0)), .inl (0, 260, .inl (fun _ => 0)), .inl (0, 260, .inl (fun _ => 0)), .inl (2, 260, .inr (.inl (fun _ => 0))), .inl (0, 16, .inl (fun _ => 0)), .inl (0, 16, .inl (fun _ => 0)), .inl (0, 16, .inl (fun _ => 0)), .inl (1, 16, .inl (fun _ => 0)), .inl (0, 16, .inl (fun _ => 0)), .inl (0, 4, .inl (fun _ => 0)), .inl (0, 4, .inl (fun _ => 0)), .inl (1, 4, .inl (fun _ => 0)), .inl (0, 4, .inl (upd (upd (upd (upd (fun _ => 0) 0 (-1)) 1 (-1)) 2 (-1)) 3 (-1))), .inl (0, 4, .inl (upd (upd (upd (upd (fun _ => 0) 0 (-1)) 1 (-1)) 2 (-1)) 3 (-1))), .inl (0, 260, .inl (fun _ => 0)), .inl (0, 260, .inl (fun _ => 0)), .inl (0, 260, .inl (fun _ => 0)), .inl (1, 260, .inl (fun _ => 0)), .inl (1, 260, .inl (fun _ => 0))]
set_option maxRecDepth 100000 in
set_option maxHeartbeats 4000000 in
theorem start_L : ∃ a b, f_L_init 2000 0 ([.inr (5, [.null, .null, .null, .null, .int 0, .int 0, .int 0, .int 0, .int 0])], 0 + 1, 0 + 9) = some (.inl none, (c54, a, b)) ∧ a ≤ 54 ∧ b ≤ 20000 := ⟨_, _, rfl, by decide, by decide⟩
section
theorem ok_mono {n m : Nat} (h : n ≤ m) {x : ga_E} (hx : ga_okE n x = true) : ga_okE m x = true := by
  cases x with
  | inl y => rfl
  | inr y =>
    simp only [ga_okE, List.all_eq_true] at hx ⊢
    intro v hv
    have := hx v hv
    cases v <;> simp only [ga_ok] at this ⊢
    simp only [decide_eq_true_eq] at this ⊢
    exact Nat.lt_of_lt_of_le this h
def isAr (x : ga_E) : Bool := match x with
  | .inl _ => true
  | .inr _ => false
theorem isAr_ok {n : Nat} {x : ga_E} (h : isAr x = true) : ga_okE n x = true := by
  cases x with
  | inl y => rfl
  | inr y => cases h
theorem c54_len : c54.length = 54 := rfl
theorem c54_ok : ∀ x ∈ c54, ga_okE 54 x = true := by
  have : c54.all (ga_okE 54) = true := rfl
  exact List.all_eq_true.mp this
variable {fs fs' : List Value} {post post' : List ga_E} {arr : ga_E} {a b n k r : Nat} {f : ga_W → ga_O}
theorem okR54 (hr : 55 + post.length = r) (h1 : fs.all (ga_ok r) = true) (h2 : post.all isAr = true) : ga_okA (c54 ++ .inr (6, fs) :: post, a, b) [(0, .ref 54)] [.ref 54] = true := by
  have hl : (c54 ++ (.inr (6, fs) : ga_E) :: post).length = r := by
    rw [List.length_append, c54_len, List.length_cons]; omega
  unfold ga_okA
  show ((c54 ++ (.inr (6, fs) : ga_E) :: post).all (ga_okE (c54 ++ (.inr (6, fs) : ga_E) :: post).length) && _ && _) = true
  rw [hl]
  have e1 : (c54 ++ (.inr (6, fs) : ga_E) :: post).all (ga_okE r) = true := by
    rw [List.all_eq_true]
    intro x hx
    rcases List.mem_append.mp hx with hx | hx
    · exact ok_mono (by omega) (c54_ok x hx)
    · rcases List.mem_cons.mp hx with rfl | hx
      · exact h1
      · exact isAr_ok (List.all_eq_true.mp h2 x hx)
  have e2 : ga_ok r (.ref 54) = true := by
    have h9 : (54 : Nat) < r := by omega
    simp only [ga_ok, decide_eq_true_eq]
    exact h9
  simp only [e1, List.all_cons, List.all_nil, hl, e2, Bool.and_self, Bool.and_true]
theorem put54 {v : Value} {s : Nat × Nat} (hkl : k < fs.length) : ga_put (c54 ++ (.inr (6, fs) : ga_E) :: post, s) 6 k 54 v = some (c54 ++ (.inr (6, fs.set k v) : ga_E) :: post, s) := by
  have h1 : (c54 ++ (.inr (6, fs) : ga_E) :: post)[54]? = some (.inr (6, fs)) := by
    rw [List.getElem?_append_right (by rw [c54_len]; omega), c54_len]; rfl
  have h2 : (c54 ++ (.inr (6, fs) : ga_E) :: post).set 54 (.inr (6, fs.set k v)) = c54 ++ (.inr (6, fs.set k v) : ga_E) :: post := by
    rw [List.set_append_right _ _ (by rw [c54_len]; omega), c54_len]; rfl
  unfold ga_put
  simp only [h1, h2, hkl, and_self, if_true]
theorem app54 : (c54 ++ (.inr (6, fs) : ga_E) :: post) ++ [arr] = c54 ++ (.inr (6, fs) : ga_E) :: (post ++ [arr]) := by simp
theorem len54 (hr : 55 + post.length = r) : (c54 ++ (.inr (6, fs) : ga_E) :: post).length = r := by
  rw [List.length_append, c54_len, List.length_cons]; omega
theorem stR (hp : post ++ [arr] = post') (hr : 55 + post.length = r) (h1 : fs.all (ga_ok r) = true) (h2 : post.all isAr = true) (hk : fs.set k (.ref r) = fs') (hkl : k < fs.length) :
    (if ga_okA (c54 ++ .inr (6, fs) :: post, a, b) [(0, .ref 54)] [.ref 54] = true then ga_at ((c54 ++ (.inr (6, fs) : ga_E) :: post) ++ [arr], a + 1, b + n) (fun w1 => ((ga_put w1 6 k 54 (.ref (c54 ++ (.inr (6, fs) : ga_E) :: post).length)).bind f)) else none) = f (c54 ++ .inr (6, fs') :: post', a + 1, b + n) := by
  rw [if_pos (okR54 hr h1 h2)]
  unfold ga_at
  show ((ga_put ((c54 ++ (.inr (6, fs) : ga_E) :: post) ++ [arr], a + 1, b + n) 6 k 54 (.ref (c54 ++ (.inr (6, fs) : ga_E) :: post).length)).bind f) = _
  rw [app54, len54 hr, put54 hkl, hk, hp]
  rfl
theorem si4 {Q : List ga_E} {g : Nat → Int32} {s : Nat × Nat} {i x : Int32} {j q : Nat} (hq : Q.length = q) (hi : i.toNatClampNeg = j) (h0 : ¬ i < 0) (hj : j < 4) : ga_si (Q ++ [.inl (0, 4, .inl g)], s) 0 q i x = some (Q ++ [.inl (0, 4, .inl (upd g j x))], s) := by
  have h1 : (Q ++ [(.inl (0, 4, .inl g) : ga_E)])[q]? = some (.inl (0, 4, .inl g)) := by rw [← hq]; simp
  have h2 : (Q ++ [(.inl (0, 4, .inl g) : ga_E)]).set q (.inl (0, 4, .inl (upd g j x))) = Q ++ [(.inl (0, 4, .inl (upd g j x)) : ga_E)] := by rw [← hq]; simp
  have hc : ¬ (i < 0 ∨ 4 ≤ j) := fun h9 => by
    rcases h9 with h9 | h9
    · exact h0 h9
    · omega
  unfold ga_si
  simp only [h1, hi, h2, hc, not_false_eq_true, and_self, if_true]
theorem st4 (hp : post ++ [.inl (0, 4, .inl (upd (upd (upd (upd (fun _ => 0) 0 (-1)) 1 (-1)) 2 (-1)) 3 (-1)))] = post') (hr : 55 + post.length = r) (h1 : fs.all (ga_ok r) = true) (h2 : post.all isAr = true) (hk : fs.set k (.ref r) = fs') (hkl : k < fs.length) :
    (if ga_okA (c54 ++ .inr (6, fs) :: post, a, b) [(0, .ref 54)] [.ref 54] = true then ga_at ((c54 ++ (.inr (6, fs) : ga_E) :: post) ++ [.inl (0, 4, .inl (fun _ => 0))], a + 1, b + 4) (fun w34 => ((ga_si w34 0 (c54 ++ (.inr (6, fs) : ga_E) :: post).length (0 : Int32) (-1 : Int32)).bind fun w35 => ((ga_si w35 0 (c54 ++ (.inr (6, fs) : ga_E) :: post).length (1 : Int32) (-1 : Int32)).bind fun w36 => ((ga_si w36 0 (c54 ++ (.inr (6, fs) : ga_E) :: post).length (2 : Int32) (-1 : Int32)).bind fun w37 => ((ga_si w37 0 (c54 ++ (.inr (6, fs) : ga_E) :: post).length (3 : Int32) (-1 : Int32)).bind fun w38 => ((ga_put w38 6 k 54 (.ref (c54 ++ (.inr (6, fs) : ga_E) :: post).length)).bind f)))))) else none) = f (c54 ++ .inr (6, fs') :: post', a + 1, b + 4) := by
  have hl := len54 (fs := fs) hr
  rw [if_pos (okR54 hr h1 h2)]
  unfold ga_at
  rw [hl]
  simp only [↓bd (si4 (i := 0) (j := 0) hl (by decide) (by decide) (by omega)), ↓bd (si4 (i := 1) (j := 1) hl (by decide) (by decide) (by omega)), ↓bd (si4 (i := 2) (j := 2) hl (by decide) (by decide) (by omega)), ↓bd (si4 (i := 3) (j := 3) hl (by decide) (by decide) (by omega))]
  rw [app54]
  simp only [↓bd (put54 hkl)]
  rw [hk, hp]
def fz0 : List Value := [.int 0, .null, .null, .null, .null, .int 0, .null, .null, .null, .null, .int 0, .null, .null, .null, .null, .int 0, .null, .int 0, .int 0, .null, .null, .null, .int 0, .null, .null, .int 0, .int 0, .int 0, .int 0, .int 0, .int 0, .int 0, .null, .null, .null, .null, .int 0, .null, .int 0]
def pz0 : List ga_E := []
def fz1 : List Value := [.int 0, .ref 55, .null, .null, .null, .int 0, .null, .null, .null, .null, .int 0, .null, .null, .null, .null, .int 0, .null, .int 0, .int 0, .null, .null, .null, .int 0, .null, .null, .int 0, .int 0, .int 0, .int 0, .int 0, .int 0, .int 0, .null, .null, .null, .null, .int 0, .null, .int 0]
def pz1 : List ga_E := [.inl (0, 260, .inl (fun _ => 0))]
def fz2 : List Value := [.int 0, .ref 55, .ref 56, .null, .null, .int 0, .null, .null, .null, .null, .int 0, .null, .null, .null, .null, .int 0, .null, .int 0, .int 0, .null, .null, .null, .int 0, .null, .null, .int 0, .int 0, .int 0, .int 0, .int 0, .int 0, .int 0, .null, .null, .null, .null, .int 0, .null, .int 0]
def pz2 : List ga_E := [.inl (0, 260, .inl (fun _ => 0)), .inl (0, 260, .inl (fun _ => 0))]
def fz3 : List Value := [.int 0, .ref 55, .ref 56, .ref 57, .null, .int 0, .null, .null, .null, .null, .int 0, .null, .null, .null, .null, .int 0, .null, .int 0, .int 0, .null, .null, .null, .int 0, .null, .null, .int 0, .int 0, .int 0, .int 0, .int 0, .int 0, .int 0, .null, .null, .null, .null, .int 0, .null, .int 0]
def pz3 : List ga_E := [.inl (0, 260, .inl (fun _ => 0)), .inl (0, 260, .inl (fun _ => 0)), .inl (0, 260, .inl (fun _ => 0))]
def fz4 : List Value := [.int 0, .ref 55, .ref 56, .ref 57, .ref 58, .int 0, .null, .null, .null, .null, .int 0, .null, .null, .null, .null, .int 0, .null, .int 0, .int 0, .null, .null, .null, .int 0, .null, .null, .int 0, .int 0, .int 0, .int 0, .int 0, .int 0, .int 0, .null, .null, .null, .null, .int 0, .null, .int 0]
def pz4 : List ga_E := [.inl (0, 260, .inl (fun _ => 0)), .inl (0, 260, .inl (fun _ => 0)), .inl (0, 260, .inl (fun _ => 0)), .inl (1, 260, .inl (fun _ => 0))]
def fz5 : List Value := [.int 0, .ref 55, .ref 56, .ref 57, .ref 58, .int 0, .ref 59, .null, .null, .null, .int 0, .null, .null, .null, .null, .int 0, .null, .int 0, .int 0, .null, .null, .null, .int 0, .null, .null, .int 0, .int 0, .int 0, .int 0, .int 0, .int 0, .int 0, .null, .null, .null, .null, .int 0, .null, .int 0]
def pz5 : List ga_E := [.inl (0, 260, .inl (fun _ => 0)), .inl (0, 260, .inl (fun _ => 0)), .inl (0, 260, .inl (fun _ => 0)), .inl (1, 260, .inl (fun _ => 0)), .inl (0, 260, .inl (fun _ => 0))]
def fz6 : List Value := [.int 0, .ref 55, .ref 56, .ref 57, .ref 58, .int 0, .ref 59, .ref 60, .null, .null, .int 0, .null, .null, .null, .null, .int 0, .null, .int 0, .int 0, .null, .null, .null, .int 0, .null, .null, .int 0, .int 0, .int 0, .int 0, .int 0, .int 0, .int 0, .null, .null, .null, .null, .int 0, .null, .int 0]
def pz6 : List ga_E := [.inl (0, 260, .inl (fun _ => 0)), .inl (0, 260, .inl (fun _ => 0)), .inl (0, 260, .inl (fun _ => 0)), .inl (1, 260, .inl (fun _ => 0)), .inl (0, 260, .inl (fun _ => 0)), .inl (0, 260, .inl (fun _ => 0))]
def fz7 : List Value := [.int 0, .ref 55, .ref 56, .ref 57, .ref 58, .int 0, .ref 59, .ref 60, .ref 61, .null, .int 0, .null, .null, .null, .null, .int 0, .null, .int 0, .int 0, .null, .null, .null, .int 0, .null, .null, .int 0, .int 0, .int 0, .int 0, .int 0, .int 0, .int 0, .null, .null, .null, .null, .int 0, .null, .int 0]
def pz7 : List ga_E := [.inl (0, 260, .inl (fun _ => 0)), .inl (0, 260, .inl (fun _ => 0)), .inl (0, 260, .inl (fun _ => 0)), .inl (1, 260, .inl (fun _ => 0)), .inl (0, 260, .inl (fun _ => 0)), .inl (0, 260, .inl (fun _ => 0)), .inl (0, 260, .inl (fun _ => 0))]
def fz8 : List Value := [.int 0, .ref 55, .ref 56, .ref 57, .ref 58, .int 0, .ref 59, .ref 60, .ref 61, .ref 62, .int 0, .null, .null, .null, .null, .int 0, .null, .int 0, .int 0, .null, .null, .null, .int 0, .null, .null, .int 0, .int 0, .int 0, .int 0, .int 0, .int 0, .int 0, .null, .null, .null, .null, .int 0, .null, .int 0]
def pz8 : List ga_E := [.inl (0, 260, .inl (fun _ => 0)), .inl (0, 260, .inl (fun _ => 0)), .inl (0, 260, .inl (fun _ => 0)), .inl (1, 260, .inl (fun _ => 0)), .inl (0, 260, .inl (fun _ => 0)), .inl (0, 260, .inl (fun _ => 0)), .inl (0, 260, .inl (fun _ => 0)), .inl (2, 260, .inr (.inl (fun _ => 0)))]
def fz9 : List Value := [.int 0, .ref 55, .ref 56, .ref 57, .ref 58, .int 0, .ref 59, .ref 60, .ref 61, .ref 62, .int 0, .ref 63, .null, .null, .null, .int 0, .null, .int 0, .int 0, .null, .null, .null, .int 0, .null, .null, .int 0, .int 0, .int 0, .int 0, .int 0, .int 0, .int 0, .null, .null, .null, .null, .int 0, .null, .int 0]
def pz9 : List ga_E := [.inl (0, 260, .inl (fun _ => 0)), .inl (0, 260, .inl (fun _ => 0)), .inl (0, 260, .inl (fun _ => 0)), .inl (1, 260, .inl (fun _ => 0)), .inl (0, 260, .inl (fun _ => 0)), .inl (0, 260, .inl (fun _ => 0)), .inl (0, 260, .inl (fun _ => 0)), .inl (2, 260, .inr (.inl (fun _ => 0))), .inl (0, 16, .inl (fun _ => 0))]
def fz10 : List Value := [.int 0, .ref 55, .ref 56, .ref 57, .ref 58, .int 0, .ref 59, .ref 60, .ref 61, .ref 62, .int 0, .ref 63, .ref 64, .null, .null, .int 0, .null, .int 0, .int 0, .null, .null, .null, .int 0, .null, .null, .int 0, .int 0, .int 0, .int 0, .int 0, .int 0, .int 0, .null, .null, .null, .null, .int 0, .null, .int 0]
def pz10 : List ga_E := [.inl (0, 260, .inl (fun _ => 0)), .inl (0, 260, .inl (fun _ => 0)), .inl (0, 260, .inl (fun _ => 0)), .inl (1, 260, .inl (fun _ => 0)), .inl (0, 260, .inl (fun _ => 0)), .inl (0, 260, .inl (fun _ => 0)), .inl (0, 260, .inl (fun _ => 0)), .inl (2, 260, .inr (.inl (fun _ => 0))), .inl (0, 16, .inl (fun _ => 0)), .inl (0, 16, .inl (fun _ => 0))]
def fz11 : List Value := [.int 0, .ref 55, .ref 56, .ref 57, .ref 58, .int 0, .ref 59, .ref 60, .ref 61, .ref 62, .int 0, .ref 63, .ref 64, .ref 65, .null, .int 0, .null, .int 0, .int 0, .null, .null, .null, .int 0, .null, .null, .int 0, .int 0, .int 0, .int 0, .int 0, .int 0, .int 0, .null, .null, .null, .null, .int 0, .null, .int 0]
def pz11 : List ga_E := [.inl (0, 260, .inl (fun _ => 0)), .inl (0, 260, .inl (fun _ => 0)), .inl (0, 260, .inl (fun _ => 0)), .inl (1, 260, .inl (fun _ => 0)), .inl (0, 260, .inl (fun _ => 0)), .inl (0, 260, .inl (fun _ => 0)), .inl (0, 260, .inl (fun _ => 0)), .inl (2, 260, .inr (.inl (fun _ => 0))), .inl (0, 16, .inl (fun _ => 0)), .inl (0, 16, .inl (fun _ => 0)), .inl (0, 16, .inl (fun _ => 0))]
def fz12 : List Value := [.int 0, .ref 55, .ref 56, .ref 57, .ref 58, .int 0, .ref 59, .ref 60, .ref 61, .ref 62, .int 0, .ref 63, .ref 64, .ref 65, .ref 66, .int 0, .null, .int 0, .int 0, .null, .null, .null, .int 0, .null, .null, .int 0, .int 0, .int 0, .int 0, .int 0, .int 0, .int 0, .null, .null, .null, .null, .int 0, .null, .int 0]
def pz12 : List ga_E := [.inl (0, 260, .inl (fun _ => 0)), .inl (0, 260, .inl (fun _ => 0)), .inl (0, 260, .inl (fun _ => 0)), .inl (1, 260, .inl (fun _ => 0)), .inl (0, 260, .inl (fun _ => 0)), .inl (0, 260, .inl (fun _ => 0)), .inl (0, 260, .inl (fun _ => 0)), .inl (2, 260, .inr (.inl (fun _ => 0))), .inl (0, 16, .inl (fun _ => 0)), .inl (0, 16, .inl (fun _ => 0)), .inl (0, 16, .inl (fun _ => 0)), .inl (1, 16, .inl (fun _ => 0))]
def fz13 : List Value := [.int 0, .ref 55, .ref 56, .ref 57, .ref 58, .int 0, .ref 59, .ref 60, .ref 61, .ref 62, .int 0, .ref 63, .ref 64, .ref 65, .ref 66, .int 0, .ref 67, .int 0, .int 0, .null, .null, .null, .int 0, .null, .null, .int 0, .int 0, .int 0, .int 0, .int 0, .int 0, .int 0, .null, .null, .null, .null, .int 0, .null, .int 0]
def pz13 : List ga_E := [.inl (0, 260, .inl (fun _ => 0)), .inl (0, 260, .inl (fun _ => 0)), .inl (0, 260, .inl (fun _ => 0)), .inl (1, 260, .inl (fun _ => 0)), .inl (0, 260, .inl (fun _ => 0)), .inl (0, 260, .inl (fun _ => 0)), .inl (0, 260, .inl (fun _ => 0)), .inl (2, 260, .inr (.inl (fun _ => 0))), .inl (0, 16, .inl (fun _ => 0)), .inl (0, 16, .inl (fun _ => 0)), .inl (0, 16, .inl (fun _ => 0)), .inl (1, 16, .inl (fun _ => 0)), .inl (0, 16, .inl (fun _ => 0))]
def fz14 : List Value := [.int 0, .ref 55, .ref 56, .ref 57, .ref 58, .int 0, .ref 59, .ref 60, .ref 61, .ref 62, .int 0, .ref 63, .ref 64, .ref 65, .ref 66, .int 0, .ref 67, .int 0, .int 0, .ref 68, .null, .null, .int 0, .null, .null, .int 0, .int 0, .int 0, .int 0, .int 0, .int 0, .int 0, .null, .null, .null, .null, .int 0, .null, .int 0]
def pz14 : List ga_E := [.inl (0, 260, .inl (fun _ => 0)), .inl (0, 260, .inl (fun _ => 0)), .inl (0, 260, .inl (fun _ => 0)), .inl (1, 260, .inl (fun _ => 0)), .inl (0, 260, .inl (fun _ => 0)), .inl (0, 260, .inl (fun _ => 0)), .inl (0, 260, .inl (fun _ => 0)), .inl (2, 260, .inr (.inl (fun _ => 0))), .inl (0, 16, .inl (fun _ => 0)), .inl (0, 16, .inl (fun _ => 0)), .inl (0, 16, .inl (fun _ => 0)), .inl (1, 16, .inl (fun _ => 0)), .inl (0, 16, .inl (fun _ => 0)), .inl (0, 4, .inl (fun _ => 0))]
def fz15 : List Value := [.int 0, .ref 55, .ref 56, .ref 57, .ref 58, .int 0, .ref 59, .ref 60, .ref 61, .ref 62, .int 0, .ref 63, .ref 64, .ref 65, .ref 66, .int 0, .ref 67, .int 0, .int 0, .ref 68, .ref 69, .null, .int 0, .null, .null, .int 0, .int 0, .int 0, .int 0, .int 0, .int 0, .int 0, .null, .null, .null, .null, .int 0, .null, .int 0]
def pz15 : List ga_E := [.inl (0, 260, .inl (fun _ => 0)), .inl (0, 260, .inl (fun _ => 0)), .inl (0, 260, .inl (fun _ => 0)), .inl (1, 260, .inl (fun _ => 0)), .inl (0, 260, .inl (fun _ => 0)), .inl (0, 260, .inl (fun _ => 0)), .inl (0, 260, .inl (fun _ => 0)), .inl (2, 260, .inr (.inl (fun _ => 0))), .inl (0, 16, .inl (fun _ => 0)), .inl (0, 16, .inl (fun _ => 0)), .inl (0, 16, .inl (fun _ => 0)), .inl (1, 16, .inl (fun _ => 0)), .inl (0, 16, .inl (fun _ => 0)), .inl (0, 4, .inl (fun _ => 0)), .inl (0, 4, .inl (fun _ => 0))]
def fz16 : List Value := [.int 0, .ref 55, .ref 56, .ref 57, .ref 58, .int 0, .ref 59, .ref 60, .ref 61, .ref 62, .int 0, .ref 63, .ref 64, .ref 65, .ref 66, .int 0, .ref 67, .int 0, .int 0, .ref 68, .ref 69, .ref 70, .int 0, .null, .null, .int 0, .int 0, .int 0, .int 0, .int 0, .int 0, .int 0, .null, .null, .null, .null, .int 0, .null, .int 0]
def pz16 : List ga_E := [.inl (0, 260, .inl (fun _ => 0)), .inl (0, 260, .inl (fun _ => 0)), .inl (0, 260, .inl (fun _ => 0)), .inl (1, 260, .inl (fun _ => 0)), .inl (0, 260, .inl (fun _ => 0)), .inl (0, 260, .inl (fun _ => 0)), .inl (0, 260, .inl (fun _ => 0)), .inl (2, 260, .inr (.inl (fun _ => 0))), .inl (0, 16, .inl (fun _ => 0)), .inl (0, 16, .inl (fun _ => 0)), .inl (0, 16, .inl (fun _ => 0)), .inl (1, 16, .inl (fun _ => 0)), .inl (0, 16, .inl (fun _ => 0)), .inl (0, 4, .inl (fun _ => 0)), .inl (0, 4, .inl (fun _ => 0)), .inl (1, 4, .inl (fun _ => 0))]
def fz17 : List Value := [.int 0, .ref 55, .ref 56, .ref 57, .ref 58, .int 0, .ref 59, .ref 60, .ref 61, .ref 62, .int 0, .ref 63, .ref 64, .ref 65, .ref 66, .int 0, .ref 67, .int 0, .int 0, .ref 68, .ref 69, .ref 70, .int (-1), .null, .null, .int 0, .int 0, .int 0, .int 0, .int 0, .int 0, .int 0, .null, .null, .null, .null, .int 0, .null, .int 0]
def fz18 : List Value := [.int 0, .ref 55, .ref 56, .ref 57, .ref 58, .int 0, .ref 59, .ref 60, .ref 61, .ref 62, .int 0, .ref 63, .ref 64, .ref 65, .ref 66, .int 0, .ref 67, .int 0, .int 0, .ref 68, .ref 69, .ref 70, .int (-1), .ref 71, .null, .int 0, .int 0, .int 0, .int 0, .int 0, .int 0, .int 0, .null, .null, .null, .null, .int 0, .null, .int 0]
def pz17 : List ga_E := [.inl (0, 260, .inl (fun _ => 0)), .inl (0, 260, .inl (fun _ => 0)), .inl (0, 260, .inl (fun _ => 0)), .inl (1, 260, .inl (fun _ => 0)), .inl (0, 260, .inl (fun _ => 0)), .inl (0, 260, .inl (fun _ => 0)), .inl (0, 260, .inl (fun _ => 0)), .inl (2, 260, .inr (.inl (fun _ => 0))), .inl (0, 16, .inl (fun _ => 0)), .inl (0, 16, .inl (fun _ => 0)), .inl (0, 16, .inl (fun _ => 0)), .inl (1, 16, .inl (fun _ => 0)), .inl (0, 16, .inl (fun _ => 0)), .inl (0, 4, .inl (fun _ => 0)), .inl (0, 4, .inl (fun _ => 0)), .inl (1, 4, .inl (fun _ => 0)), .inl (0, 4, .inl (upd (upd (upd (upd (fun _ => 0) 0 (-1)) 1 (-1)) 2 (-1)) 3 (-1)))]
def fz19 : List Value := [.int 0, .ref 55, .ref 56, .ref 57, .ref 58, .int 0, .ref 59, .ref 60, .ref 61, .ref 62, .int 0, .ref 63, .ref 64, .ref 65, .ref 66, .int 0, .ref 67, .int 0, .int 0, .ref 68, .ref 69, .ref 70, .int (-1), .ref 71, .ref 72, .int 0, .int 0, .int 0, .int 0, .int 0, .int 0, .int 0, .null, .null, .null, .null, .int 0, .null, .int 0]
def pz18 : List ga_E := [.inl (0, 260, .inl (fun _ => 0)), .inl (0, 260, .inl (fun _ => 0)), .inl (0, 260, .inl (fun _ => 0)), .inl (1, 260, .inl (fun _ => 0)), .inl (0, 260, .inl (fun _ => 0)), .inl (0, 260, .inl (fun _ => 0)), .inl (0, 260, .inl (fun _ => 0)), .inl (2, 260, .inr (.inl (fun _ => 0))), .inl (0, 16, .inl (fun _ => 0)), .inl (0, 16, .inl (fun _ => 0)), .inl (0, 16, .inl (fun _ => 0)), .inl (1, 16, .inl (fun _ => 0)), .inl (0, 16, .inl (fun _ => 0)), .inl (0, 4, .inl (fun _ => 0)), .inl (0, 4, .inl (fun _ => 0)), .inl (1, 4, .inl (fun _ => 0)), .inl (0, 4, .inl (upd (upd (upd (upd (fun _ => 0) 0 (-1)) 1 (-1)) 2 (-1)) 3 (-1))), .inl (0, 4, .inl (upd (upd (upd (upd (fun _ => 0) 0 (-1)) 1 (-1)) 2 (-1)) 3 (-1)))]
def fz20 : List Value := [.int 0, .ref 55, .ref 56, .ref 57, .ref 58, .int 0, .ref 59, .ref 60, .ref 61, .ref 62, .int 0, .ref 63, .ref 64, .ref 65, .ref 66, .int 0, .ref 67, .int 0, .int 0, .ref 68, .ref 69, .ref 70, .int (-1), .ref 71, .ref 72, .int 0, .int 0, .int 0, .int 0, .int 0, .int 0, .int 0, .ref 73, .null, .null, .null, .int 0, .null, .int 0]
def pz19 : List ga_E := [.inl (0, 260, .inl (fun _ => 0)), .inl (0, 260, .inl (fun _ => 0)), .inl (0, 260, .inl (fun _ => 0)), .inl (1, 260, .inl (fun _ => 0)), .inl (0, 260, .inl (fun _ => 0)), .inl (0, 260, .inl (fun _ => 0)), .inl (0, 260, .inl (fun _ => 0)), .inl (2, 260, .inr (.inl (fun _ => 0))), .inl (0, 16, .inl (fun _ => 0)), .inl (0, 16, .inl (fun _ => 0)), .inl (0, 16, .inl (fun _ => 0)), .inl (1, 16, .inl (fun _ => 0)), .inl (0, 16, .inl (fun _ => 0)), .inl (0, 4, .inl (fun _ => 0)), .inl (0, 4, .inl (fun _ => 0)), .inl (1, 4, .inl (fun _ => 0)), .inl (0, 4, .inl (upd (upd (upd (upd (fun _ => 0) 0 (-1)) 1 (-1)) 2 (-1)) 3 (-1))), .inl (0, 4, .inl (upd (upd (upd (upd (fun _ => 0) 0 (-1)) 1 (-1)) 2 (-1)) 3 (-1))), .inl (0, 260, .inl (fun _ => 0))]
def fz21 : List Value := [.int 0, .ref 55, .ref 56, .ref 57, .ref 58, .int 0, .ref 59, .ref 60, .ref 61, .ref 62, .int 0, .ref 63, .ref 64, .ref 65, .ref 66, .int 0, .ref 67, .int 0, .int 0, .ref 68, .ref 69, .ref 70, .int (-1), .ref 71, .ref 72, .int 0, .int 0, .int 0, .int 0, .int 0, .int 0, .int 0, .ref 73, .ref 74, .null, .null, .int 0, .null, .int 0]
def pz20 : List ga_E := [.inl (0, 260, .inl (fun _ => 0)), .inl (0, 260, .inl (fun _ => 0)), .inl (0, 260, .inl (fun _ => 0)), .inl (1, 260, .inl (fun _ => 0)), .inl (0, 260, .inl (fun _ => 0)), .inl (0, 260, .inl (fun _ => 0)), .inl (0, 260, .inl (fun _ => 0)), .inl (2, 260, .inr (.inl (fun _ => 0))), .inl (0, 16, .inl (fun _ => 0)), .inl (0, 16, .inl (fun _ => 0)), .inl (0, 16, .inl (fun _ => 0)), .inl (1, 16, .inl (fun _ => 0)), .inl (0, 16, .inl (fun _ => 0)), .inl (0, 4, .inl (fun _ => 0)), .inl (0, 4, .inl (fun _ => 0)), .inl (1, 4, .inl (fun _ => 0)), .inl (0, 4, .inl (upd (upd (upd (upd (fun _ => 0) 0 (-1)) 1 (-1)) 2 (-1)) 3 (-1))), .inl (0, 4, .inl (upd (upd (upd (upd (fun _ => 0) 0 (-1)) 1 (-1)) 2 (-1)) 3 (-1))), .inl (0, 260, .inl (fun _ => 0)), .inl (0, 260, .inl (fun _ => 0))]
def fz22 : List Value := [.int 0, .ref 55, .ref 56, .ref 57, .ref 58, .int 0, .ref 59, .ref 60, .ref 61, .ref 62, .int 0, .ref 63, .ref 64, .ref 65, .ref 66, .int 0, .ref 67, .int 0, .int 0, .ref 68, .ref 69, .ref 70, .int (-1), .ref 71, .ref 72, .int 0, .int 0, .int 0, .int 0, .int 0, .int 0, .int 0, .ref 73, .ref 74, .ref 75, .null, .int 0, .null, .int 0]
def pz21 : List ga_E := [.inl (0, 260, .inl (fun _ => 0)), .inl (0, 260, .inl (fun _ => 0)), .inl (0, 260, .inl (fun _ => 0)), .inl (1, 260, .inl (fun _ => 0)), .inl (0, 260, .inl (fun _ => 0)), .inl (0, 260, .inl (fun _ => 0)), .inl (0, 260, .inl (fun _ => 0)), .inl (2, 260, .inr (.inl (fun _ => 0))), .inl (0, 16, .inl (fun _ => 0)), .inl (0, 16, .inl (fun _ => 0)), .inl (0, 16, .inl (fun _ => 0)), .inl (1, 16, .inl (fun _ => 0)), .inl (0, 16, .inl (fun _ => 0)), .inl (0, 4, .inl (fun _ => 0)), .inl (0, 4, .inl (fun _ => 0)), .inl (1, 4, .inl (fun _ => 0)), .inl (0, 4, .inl (upd (upd (upd (upd (fun _ => 0) 0 (-1)) 1 (-1)) 2 (-1)) 3 (-1))), .inl (0, 4, .inl (upd (upd (upd (upd (fun _ => 0) 0 (-1)) 1 (-1)) 2 (-1)) 3 (-1))), .inl (0, 260, .inl (fun _ => 0)), .inl (0, 260, .inl (fun _ => 0)), .inl (0, 260, .inl (fun _ => 0))]
def fz23 : List Value := [.int 0, .ref 55, .ref 56, .ref 57, .ref 58, .int 0, .ref 59, .ref 60, .ref 61, .ref 62, .int 0, .ref 63, .ref 64, .ref 65, .ref 66, .int 0, .ref 67, .int 0, .int 0, .ref 68, .ref 69, .ref 70, .int (-1), .ref 71, .ref 72, .int 0, .int 0, .int 0, .int 0, .int 0, .int 0, .int 0, .ref 73, .ref 74, .ref 75, .ref 76, .int 0, .null, .int 0]
def pz22 : List ga_E := [.inl (0, 260, .inl (fun _ => 0)), .inl (0, 260, .inl (fun _ => 0)), .inl (0, 260, .inl (fun _ => 0)), .inl (1, 260, .inl (fun _ => 0)), .inl (0, 260, .inl (fun _ => 0)), .inl (0, 260, .inl (fun _ => 0)), .inl (0, 260, .inl (fun _ => 0)), .inl (2, 260, .inr (.inl (fun _ => 0))), .inl (0, 16, .inl (fun _ => 0)), .inl (0, 16, .inl (fun _ => 0)), .inl (0, 16, .inl (fun _ => 0)), .inl (1, 16, .inl (fun _ => 0)), .inl (0, 16, .inl (fun _ => 0)), .inl (0, 4, .inl (fun _ => 0)), .inl (0, 4, .inl (fun _ => 0)), .inl (1, 4, .inl (fun _ => 0)), .inl (0, 4, .inl (upd (upd (upd (upd (fun _ => 0) 0 (-1)) 1 (-1)) 2 (-1)) 3 (-1))), .inl (0, 4, .inl (upd (upd (upd (upd (fun _ => 0) 0 (-1)) 1 (-1)) 2 (-1)) 3 (-1))), .inl (0, 260, .inl (fun _ => 0)), .inl (0, 260, .inl (fun _ => 0)), .inl (0, 260, .inl (fun _ => 0)), .inl (1, 260, .inl (fun _ => 0))]
def fz24 : List Value := [.int 0, .ref 55, .ref 56, .ref 57, .ref 58, .int 0, .ref 59, .ref 60, .ref 61, .ref 62, .int 0, .ref 63, .ref 64, .ref 65, .ref 66, .int 0, .ref 67, .int 0, .int 0, .ref 68, .ref 69, .ref 70, .int (-1), .ref 71, .ref 72, .int 0, .int 0, .int 0, .int 0, .int 0, .int 0, .int 0, .ref 73, .ref 74, .ref 75, .ref 76, .int 0, .ref 77, .int 0]
def pz23 : List ga_E := [.inl (0, 260, .inl (fun _ => 0)), .inl (0, 260, .inl (fun _ => 0)), .inl (0, 260, .inl (fun _ => 0)), .inl (1, 260, .inl (fun _ => 0)), .inl (0, 260, .inl (fun _ => 0)), .inl (0, 260, .inl (fun _ => 0)), .inl (0, 260, .inl (fun _ => 0)), .inl (2, 260, .inr (.inl (fun _ => 0))), .inl (0, 16, .inl (fun _ => 0)), .inl (0, 16, .inl (fun _ => 0)), .inl (0, 16, .inl (fun _ => 0)), .inl (1, 16, .inl (fun _ => 0)), .inl (0, 16, .inl (fun _ => 0)), .inl (0, 4, .inl (fun _ => 0)), .inl (0, 4, .inl (fun _ => 0)), .inl (1, 4, .inl (fun _ => 0)), .inl (0, 4, .inl (upd (upd (upd (upd (fun _ => 0) 0 (-1)) 1 (-1)) 2 (-1)) 3 (-1))), .inl (0, 4, .inl (upd (upd (upd (upd (fun _ => 0) 0 (-1)) 1 (-1)) 2 (-1)) 3 (-1))), .inl (0, 260, .inl (fun _ => 0)), .inl (0, 260, .inl (fun _ => 0)), .inl (0, 260, .inl (fun _ => 0)), .inl (1, 260, .inl (fun _ => 0)), .inl (1, 260, .inl (fun _ => 0))]
theorem start_R (a b : Nat) : ∃ a' b', f_R_init 2000 54 (c54 ++ .inr (6, fz0) :: pz0, a, b) = some (.inl none, (c54 ++ .inr (6, fz24) :: pz23, a', b')) ∧ a' ≤ a + 23 ∧ b' ≤ b + 6000 := by
  refine ⟨a + 1 + 1 + 1 + 1 + 1 + 1 + 1 + 1 + 1 + 1 + 1 + 1 + 1 + 1 + 1 + 1 + 1 + 1 + 1 + 1 + 1 + 1 + 1, b + 260 + 260 + 260 + 260 + 260 + 260 + 260 + 260 + 16 + 16 + 16 + 16 + 16 + 4 + 4 + 4 + 4 + 4 + 260 + 260 + 260 + 260 + 260, ?_, by omega, by omega⟩
  · unfold f_R_init
    try dsimp only
    rw [stR (fs := fz0) (fs' := fz1) (post := pz0) (post' := pz1) (r := 55) (k := 1) (arr := .inl (0, 260, .inl (fun _ => 0))) rfl rfl rfl rfl rfl (by decide)]
    try dsimp only
    rw [stR (fs := fz1) (fs' := fz2) (post := pz1) (post' := pz2) (r := 56) (k := 2) (arr := .inl (0, 260, .inl (fun _ => 0))) rfl rfl rfl rfl rfl (by decide)]
    try dsimp only
    rw [stR (fs := fz2) (fs' := fz3) (post := pz2) (post' := pz3) (r := 57) (k := 3) (arr := .inl (0, 260, .inl (fun _ => 0))) rfl rfl rfl rfl rfl (by decide)]
    try dsimp only
    rw [stR (fs := fz3) (fs' := fz4) (post := pz3) (post' := pz4) (r := 58) (k := 4) (arr := .inl (1, 260, .inl (fun _ => 0))) rfl rfl rfl rfl rfl (by decide)]
    try dsimp only
    rw [stR (fs := fz4) (fs' := fz5) (post := pz4) (post' := pz5) (r := 59) (k := 6) (arr := .inl (0, 260, .inl (fun _ => 0))) rfl rfl rfl rfl rfl (by decide)]
    try dsimp only
    rw [stR (fs := fz5) (fs' := fz6) (post := pz5) (post' := pz6) (r := 60) (k := 7) (arr := .inl (0, 260, .inl (fun _ => 0))) rfl rfl rfl rfl rfl (by decide)]
    try dsimp only
    rw [stR (fs := fz6) (fs' := fz7) (post := pz6) (post' := pz7) (r := 61) (k := 8) (arr := .inl (0, 260, .inl (fun _ => 0))) rfl rfl rfl rfl rfl (by decide)]
    try dsimp only
    rw [stR (fs := fz7) (fs' := fz8) (post := pz7) (post' := pz8) (r := 62) (k := 9) (arr := .inl (2, 260, .inr (.inl (fun _ => 0)))) rfl rfl rfl rfl rfl (by decide)]
    try dsimp only
    rw [stR (fs := fz8) (fs' := fz9) (post := pz8) (post' := pz9) (r := 63) (k := 11) (arr := .inl (0, 16, .inl (fun _ => 0))) rfl rfl rfl rfl rfl (by decide)]
    try dsimp only
    rw [stR (fs := fz9) (fs' := fz10) (post := pz9) (post' := pz10) (r := 64) (k := 12) (arr := .inl (0, 16, .inl (fun _ => 0))) rfl rfl rfl rfl rfl (by decide)]
    try dsimp only
    rw [stR (fs := fz10) (fs' := fz11) (post := pz10) (post' := pz11) (r := 65) (k := 13) (arr := .inl (0, 16, .inl (fun _ => 0))) rfl rfl rfl rfl rfl (by decide)]
    try dsimp only
    rw [stR (fs := fz11) (fs' := fz12) (post := pz11) (post' := pz12) (r := 66) (k := 14) (arr := .inl (1, 16, .inl (fun _ => 0))) rfl rfl rfl rfl rfl (by decide)]
    try dsimp only
    rw [stR (fs := fz12) (fs' := fz13) (post := pz12) (post' := pz13) (r := 67) (k := 16) (arr := .inl (0, 16, .inl (fun _ => 0))) rfl rfl rfl rfl rfl (by decide)]
    try dsimp only
    rw [stR (fs := fz13) (fs' := fz14) (post := pz13) (post' := pz14) (r := 68) (k := 19) (arr := .inl (0, 4, .inl (fun _ => 0))) rfl rfl rfl rfl rfl (by decide)]
    try dsimp only
    rw [stR (fs := fz14) (fs' := fz15) (post := pz14) (post' := pz15) (r := 69) (k := 20) (arr := .inl (0, 4, .inl (fun _ => 0))) rfl rfl rfl rfl rfl (by decide)]
    try dsimp only
    rw [stR (fs := fz15) (fs' := fz16) (post := pz15) (post' := pz16) (r := 70) (k := 21) (arr := .inl (1, 4, .inl (fun _ => 0))) rfl rfl rfl rfl rfl (by decide)]
    try dsimp only
    rw [bd (put54 (fs := fz16) (post := pz16) (k := 22) (by decide)), show fz16.set 22 (.int (-1)) = fz17 from rfl]
    try dsimp only
    rw [st4 (fs := fz17) (fs' := fz18) (post := pz16) (post' := pz17) (r := 71) (k := 23) rfl rfl rfl rfl rfl (by decide)]
    try dsimp only
    rw [st4 (fs := fz18) (fs' := fz19) (post := pz17) (post' := pz18) (r := 72) (k := 24) rfl rfl rfl rfl rfl (by decide)]
    try dsimp only
    rw [stR (fs := fz19) (fs' := fz20) (post := pz18) (post' := pz19) (r := 73) (k := 32) (arr := .inl (0, 260, .inl (fun _ => 0))) rfl rfl rfl rfl rfl (by decide)]
    try dsimp only
    rw [stR (fs := fz20) (fs' := fz21) (post := pz19) (post' := pz20) (r := 74) (k := 33) (arr := .inl (0, 260, .inl (fun _ => 0))) rfl rfl rfl rfl rfl (by decide)]
    try dsimp only
    rw [stR (fs := fz21) (fs' := fz22) (post := pz20) (post' := pz21) (r := 75) (k := 34) (arr := .inl (0, 260, .inl (fun _ => 0))) rfl rfl rfl rfl rfl (by decide)]
    try dsimp only
    rw [stR (fs := fz22) (fs' := fz23) (post := pz21) (post' := pz22) (r := 76) (k := 35) (arr := .inl (1, 260, .inl (fun _ => 0))) rfl rfl rfl rfl rfl (by decide)]
    try dsimp only
    rw [stR (fs := fz23) (fs' := fz24) (post := pz22) (post' := pz23) (r := 77) (k := 37) (arr := .inl (1, 260, .inl (fun _ => 0))) rfl rfl rfl rfl rfl (by decide)]
end
