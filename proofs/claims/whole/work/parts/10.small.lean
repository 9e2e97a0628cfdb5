/-! SMALL ROWS FOR THE PRINTED WALKS -/
def ga_at (v : ga_W) (f : ga_W → ga_O) : ga_O := f v
def ga_ati (x : Int32) (f : Int32 → ga_O) : ga_O := f x
def ga_jn {κ : Type} (k : κ) (body : κ → ga_O) : ga_O := body k
section GS
variable {l : Launch} {S0 : State} {D : va_G} {cl : List vw_C} {tA : List (ClassId × FieldType)} {base b : Nat} {xn : Nat → String} {p : Program} {e : Env} {R : Room} {s : State} {m : MethodId} {args : Array Value} {below : List Frame} {meth : Method} {c : Code} {nL : Nat} {Ts : List Cond} {own : String} {cc : ByteArray} {ret : Option FieldType} {tb : List ExceptionTableEntry} {mn : String} {fr lo : Nat} {fl : Bool} {ad0 : Nat → Nat} {w0 : ga_W} {Q : ga_R → ga_W → State → Prop}
variable {pc : Nat} {lv : List (Nat × Value)} {st : List Value} {w : ga_W} {o : ga_O}
theorem ga_guard {P : Prop} [Decidable P] (k : P → ga_J l S0 D cl tA base b xn p e R s m args below meth c nL Ts own cc ret tb mn fr lo fl ad0 w0 Q pc lv st w o) : ga_J l S0 D cl tA base b xn p e R s m args below meth c nL Ts own cc ret tb mn fr lo fl ad0 w0 Q pc lv st w (if P then o else none) := by
  by_cases h : P
  · rw [if_pos h]; exact k h
  · rw [if_neg h]; exact ga_no
theorem ga_ite {P : Prop} [Decidable P] {o2 : ga_O} (k1 : P → ga_J l S0 D cl tA base b xn p e R s m args below meth c nL Ts own cc ret tb mn fr lo fl ad0 w0 Q pc lv st w o) (k2 : ¬ P → ga_J l S0 D cl tA base b xn p e R s m args below meth c nL Ts own cc ret tb mn fr lo fl ad0 w0 Q pc lv st w o2) : ga_J l S0 D cl tA base b xn p e R s m args below meth c nL Ts own cc ret tb mn fr lo fl ad0 w0 Q pc lv st w (if P then o else o2) := by
  by_cases h : P
  · rw [if_pos h]; exact k1 h
  · rw [if_neg h]; exact k2 h
theorem ga_iteX {x : Nat} {P : Prop} [Decidable P] {o2 : ga_O} (k1 : P → ga_JX l S0 D cl tA base b xn p e R s m args below meth c nL Ts own cc ret tb mn fr lo fl ad0 w0 Q pc lv x w o) (k2 : ¬ P → ga_JX l S0 D cl tA base b xn p e R s m args below meth c nL Ts own cc ret tb mn fr lo fl ad0 w0 Q pc lv x w o2) : ga_JX l S0 D cl tA base b xn p e R s m args below meth c nL Ts own cc ret tb mn fr lo fl ad0 w0 Q pc lv x w (if P then o else o2) := by
  by_cases h : P
  · rw [if_pos h]; exact k1 h
  · rw [if_neg h]; exact k2 h
theorem ga_join {κ : Type} {k : κ} {body : κ → ga_O} (P : κ → Prop) (h1 : P k) (h2 : ∀ K, P K → ga_J l S0 D cl tA base b xn p e R s m args below meth c nL Ts own cc ret tb mn fr lo fl ad0 w0 Q pc lv st w (body K)) : ga_J l S0 D cl tA base b xn p e R s m args below meth c nL Ts own cc ret tb mn fr lo fl ad0 w0 Q pc lv st w (ga_jn k body) := h2 k h1
theorem ga_named {x : Int32} {f : Int32 → ga_O} (k : ∀ v : Int32, ga_J l S0 D cl tA base b xn p e R s m args below meth c nL Ts own cc ret tb mn fr lo fl ad0 w0 Q pc lv (.int v :: st) w (f v)) : ga_J l S0 D cl tA base b xn p e R s m args below meth c nL Ts own cc ret tb mn fr lo fl ad0 w0 Q pc lv (.int x :: st) w (ga_ati x f) := k x
theorem ga_namedW {f : ga_W → ga_O} {v : ga_W} (k : ∀ v : ga_W, ga_J l S0 D cl tA base b xn p e R s m args below meth c nL Ts own cc ret tb mn fr lo fl ad0 w0 Q pc lv st v (f v)) : ga_J l S0 D cl tA base b xn p e R s m args below meth c nL Ts own cc ret tb mn fr lo fl ad0 w0 Q pc lv st v (ga_at v f) := k v
theorem ga_vI {f : Int32 → ga_W → ga_O} (k : ∀ x w1, ga_J l S0 D cl tA base b xn p e R s m args below meth c nL Ts own cc ret tb mn fr lo fl ad0 w0 Q pc lv (.int x :: st) w1 (f x w1)) : ∀ v w1, ga_J l S0 D cl tA base b xn p e R s m args below meth c nL Ts own cc ret tb mn fr lo fl ad0 w0 Q pc lv (v.toList ++ st) w1 (ga_kI f v w1) := by
  intro v w1
  cases v with
  | none => exact ga_no
  | some v => cases v <;> first | exact k _ _ | exact ga_no
theorem ga_vD {f : UInt64 → ga_W → ga_O} (k : ∀ x w1, ga_J l S0 D cl tA base b xn p e R s m args below meth c nL Ts own cc ret tb mn fr lo fl ad0 w0 Q pc lv (.double x :: st) w1 (f x w1)) : ∀ v w1, ga_J l S0 D cl tA base b xn p e R s m args below meth c nL Ts own cc ret tb mn fr lo fl ad0 w0 Q pc lv (v.toList ++ st) w1 (ga_kD f v w1) := by
  intro v w1
  cases v with
  | none => exact ga_no
  | some v => cases v <;> first | exact k _ _ | exact ga_no
theorem ga_vV {f : ga_W → ga_O} (k : ∀ w1, ga_J l S0 D cl tA base b xn p e R s m args below meth c nL Ts own cc ret tb mn fr lo fl ad0 w0 Q pc lv st w1 (f w1)) : ∀ v w1, ga_J l S0 D cl tA base b xn p e R s m args below meth c nL Ts own cc ret tb mn fr lo fl ad0 w0 Q pc lv (v.toList ++ st) w1 (ga_kV f v w1) := by
  intro v w1
  cases v with
  | none => exact k _
  | some v => exact ga_no
theorem ga_nz1 {x : Int32} (h : x = 0 ∨ x = 1) : narrow .boolean (.int x) = .int x := by
  rcases h with rfl | rfl <;> rfl
theorem ga_nz {x : Int32} {ad : Nat → Nat} (h : x = 0 ∨ x = 1) : narrow .boolean (ga_v b ad (.int x)) = ga_v b ad (.int x) ∧ fits .boolean (ga_v b ad (.int x)) = true := by
  rcases h with rfl | rfl <;> exact ⟨rfl, rfl⟩
theorem ga_zr0 (cA : ClassId) (N : Nat) : vp_cell cA (N, .inl (fun _ => 0)) = arrV cA N (fun _ => defaultValue .int) := rfl
theorem ga_zr1 (cA : ClassId) (N : Nat) : vp_cell cA (N, .inl (fun _ => 0)) = arrV cA N (fun _ => defaultValue .boolean) := rfl
theorem ga_zr2 (cA : ClassId) (N : Nat) : vp_cell cA (N, .inr (.inl (fun _ => 0))) = arrV cA N (fun _ => defaultValue .long) := rfl
theorem ga_zr3 (cA : ClassId) (N : Nat) : vp_cell cA (N, .inr (.inr (.inr (.inl (fun _ => 0))))) = arrV cA N (fun _ => defaultValue .double) := rfl
theorem ga_by {N k : Nat} (h : N ≤ 60000) (hk : k ≤ 8) : N * k ≤ 536870912 := by
  have := Nat.mul_le_mul h hk
  omega
theorem ga_ps1 {x : Nat} {y1 : ExceptionTableEntry} (n1 : String) (a1 : Cond.classLink own y1.catchType n1 ∈ Ts) (c1 : ∀ (S : State) (b : Nat), ga_0 S b → (Cond.not (.castable (xn x) n1)).before #[Value.ref b] S = true) (z1 : y1.catchType ≠ 0 := by decide) : ∀ y ∈ [y1], covers y pc = false ∨ (y.catchType ≠ 0 ∧ ∃ nm : String, Cond.classLink own y.catchType nm ∈ Ts ∧ ∀ (S : State) (b : Nat), ga_0 S b → (Cond.not (.castable (xn x) nm)).before #[Value.ref b] S = true) := by
  intro y hy
  rw [List.mem_singleton] at hy
  subst hy
  exact Or.inr ⟨z1, n1, a1, c1⟩
theorem ga_ps2 {x : Nat} {y1 y2 : ExceptionTableEntry} (n1 : String) (a1 : Cond.classLink own y1.catchType n1 ∈ Ts) (c1 : ∀ (S : State) (b : Nat), ga_0 S b → (Cond.not (.castable (xn x) n1)).before #[Value.ref b] S = true) (n2 : String) (a2 : Cond.classLink own y2.catchType n2 ∈ Ts) (c2 : ∀ (S : State) (b : Nat), ga_0 S b → (Cond.not (.castable (xn x) n2)).before #[Value.ref b] S = true) (z1 : y1.catchType ≠ 0 := by decide) (z2 : y2.catchType ≠ 0 := by decide) : ∀ y ∈ [y1, y2], covers y pc = false ∨ (y.catchType ≠ 0 ∧ ∃ nm : String, Cond.classLink own y.catchType nm ∈ Ts ∧ ∀ (S : State) (b : Nat), ga_0 S b → (Cond.not (.castable (xn x) nm)).before #[Value.ref b] S = true) := by
  intro y hy
  rcases List.mem_cons.mp hy with rfl | hy
  · exact Or.inr ⟨z1, n1, a1, c1⟩
  · exact ga_ps1 n2 a2 c2 z2 y hy
theorem ga_ps3 {x : Nat} {y1 y2 y3 : ExceptionTableEntry} (n1 : String) (a1 : Cond.classLink own y1.catchType n1 ∈ Ts) (c1 : ∀ (S : State) (b : Nat), ga_0 S b → (Cond.not (.castable (xn x) n1)).before #[Value.ref b] S = true) (n2 : String) (a2 : Cond.classLink own y2.catchType n2 ∈ Ts) (c2 : ∀ (S : State) (b : Nat), ga_0 S b → (Cond.not (.castable (xn x) n2)).before #[Value.ref b] S = true) (n3 : String) (a3 : Cond.classLink own y3.catchType n3 ∈ Ts) (c3 : ∀ (S : State) (b : Nat), ga_0 S b → (Cond.not (.castable (xn x) n3)).before #[Value.ref b] S = true) (z1 : y1.catchType ≠ 0 := by decide) (z2 : y2.catchType ≠ 0 := by decide) (z3 : y3.catchType ≠ 0 := by decide) : ∀ y ∈ [y1, y2, y3], covers y pc = false ∨ (y.catchType ≠ 0 ∧ ∃ nm : String, Cond.classLink own y.catchType nm ∈ Ts ∧ ∀ (S : State) (b : Nat), ga_0 S b → (Cond.not (.castable (xn x) nm)).before #[Value.ref b] S = true) := by
  intro y hy
  rcases List.mem_cons.mp hy with rfl | hy
  · exact Or.inr ⟨z1, n1, a1, c1⟩
  · exact ga_ps2 n2 a2 c2 n3 a3 c3 z2 z3 y hy
end GS
theorem ga_out5 {x : Int32} (h0 : ¬ x = 0) (h1 : ¬ x = 1) (h2 : ¬ x = 2) (h3 : ¬ x = 3) (h4 : ¬ x = 4) (h5 : ¬ x = 5) : x.toInt < 0 ∨ 5 < x.toInt := by
  by_cases h : x.toInt < 0
  · exact Or.inl h
  · right
    refine Int.not_le.mp (fun hle => ?_)
    have key : ∀ k : Int32, ¬ x = k → ¬ x.toInt = k.toInt := fun k hk q => hk (Int32.toInt_inj.mp q)
    have q0 : ¬ x.toInt = 0 := key 0 h0
    have q1 : ¬ x.toInt = 1 := key 1 h1
    have q2 : ¬ x.toInt = 2 := key 2 h2
    have q3 : ¬ x.toInt = 3 := key 3 h3
    have q4 : ¬ x.toInt = 4 := key 4 h4
    have q5 : ¬ x.toInt = 5 := key 5 h5
    omega
theorem ga_out15 {x : Int32} (h0 : ¬ x = 0) (h1 : ¬ x = 1) (h2 : ¬ x = 2) (h3 : ¬ x = 3) (h4 : ¬ x = 4) (h5 : ¬ x = 5) (h6 : ¬ x = 6) (h7 : ¬ x = 7) (h8 : ¬ x = 8) (h9 : ¬ x = 9) (h10 : ¬ x = 10) (h11 : ¬ x = 11) (h12 : ¬ x = 12) (h13 : ¬ x = 13) (h14 : ¬ x = 14) (h15 : ¬ x = 15) : x.toInt < 0 ∨ 15 < x.toInt := by
  by_cases h : x.toInt < 0
  · exact Or.inl h
  · right
    refine Int.not_le.mp (fun hle => ?_)
    have key : ∀ k : Int32, ¬ x = k → ¬ x.toInt = k.toInt := fun k hk q => hk (Int32.toInt_inj.mp q)
    have q0 : ¬ x.toInt = 0 := key 0 h0
    have q1 : ¬ x.toInt = 1 := key 1 h1
    have q2 : ¬ x.toInt = 2 := key 2 h2
    have q3 : ¬ x.toInt = 3 := key 3 h3
    have q4 : ¬ x.toInt = 4 := key 4 h4
    have q5 : ¬ x.toInt = 5 := key 5 h5
    have q6 : ¬ x.toInt = 6 := key 6 h6
    have q7 : ¬ x.toInt = 7 := key 7 h7
    have q8 : ¬ x.toInt = 8 := key 8 h8
    have q9 : ¬ x.toInt = 9 := key 9 h9
    have q10 : ¬ x.toInt = 10 := key 10 h10
    have q11 : ¬ x.toInt = 11 := key 11 h11
    have q12 : ¬ x.toInt = 12 := key 12 h12
    have q13 : ¬ x.toInt = 13 := key 13 h13
    have q14 : ¬ x.toInt = 14 := key 14 h14
    have q15 : ¬ x.toInt = 15 := key 15 h15
    omega
theorem ga_out16 {x : Int32} (h0 : ¬ x = 0) (h1 : ¬ x = 1) (h2 : ¬ x = 2) (h3 : ¬ x = 3) (h4 : ¬ x = 4) (h5 : ¬ x = 5) (h6 : ¬ x = 6) (h7 : ¬ x = 7) (h8 : ¬ x = 8) (h9 : ¬ x = 9) (h10 : ¬ x = 10) (h11 : ¬ x = 11) (h12 : ¬ x = 12) (h13 : ¬ x = 13) (h14 : ¬ x = 14) (h15 : ¬ x = 15) (h16 : ¬ x = 16) : x.toInt < 0 ∨ 16 < x.toInt := by
  by_cases h : x.toInt < 0
  · exact Or.inl h
  · right
    refine Int.not_le.mp (fun hle => ?_)
    have key : ∀ k : Int32, ¬ x = k → ¬ x.toInt = k.toInt := fun k hk q => hk (Int32.toInt_inj.mp q)
    have q0 : ¬ x.toInt = 0 := key 0 h0
    have q1 : ¬ x.toInt = 1 := key 1 h1
    have q2 : ¬ x.toInt = 2 := key 2 h2
    have q3 : ¬ x.toInt = 3 := key 3 h3
    have q4 : ¬ x.toInt = 4 := key 4 h4
    have q5 : ¬ x.toInt = 5 := key 5 h5
    have q6 : ¬ x.toInt = 6 := key 6 h6
    have q7 : ¬ x.toInt = 7 := key 7 h7
    have q8 : ¬ x.toInt = 8 := key 8 h8
    have q9 : ¬ x.toInt = 9 := key 9 h9
    have q10 : ¬ x.toInt = 10 := key 10 h10
    have q11 : ¬ x.toInt = 11 := key 11 h11
    have q12 : ¬ x.toInt = 12 := key 12 h12
    have q13 : ¬ x.toInt = 13 := key 13 h13
    have q14 : ¬ x.toInt = 14 := key 14 h14
    have q15 : ¬ x.toInt = 15 := key 15 h15
    have q16 : ¬ x.toInt = 16 := key 16 h16
    omega
