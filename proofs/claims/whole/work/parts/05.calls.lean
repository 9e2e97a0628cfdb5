/-! NEW CELLS, CALLS, ENDS -/
def ga_ok (n : Nat) (v : Value) : Bool := match v with
  | .ref k => decide (k < n)
  | _ => true
def ga_okE (n : Nat) (x : ga_E) : Bool := match x with
  | .inl _ => true
  | .inr o => o.2.all (ga_ok n)
/-- no place is named that isn't there yet -/
def ga_okA (w : ga_W) (lv : List (Nat × Value)) (st : List Value) : Bool := w.1.all (ga_okE w.1.length) && lv.all (fun q => ga_ok w.1.length q.2) && st.all (ga_ok w.1.length)
theorem ga_ok_v {b n : Nat} {ad ad2 : Nat → Nat} (h : ∀ k, k < n → ad2 k = ad k) {v : Value} (hv : ga_ok n v = true) : ga_v b ad2 v = ga_v b ad v := by
  cases v <;> try rfl
  simp only [ga_ok, decide_eq_true_eq] at hv
  simp only [ga_v, h _ hv]
theorem ga_ok_st {b n : Nat} {ad ad2 : Nat → Nat} (h : ∀ k, k < n → ad2 k = ad k) {st : List Value} (hv : st.all (ga_ok n) = true) : st.map (ga_v b ad2) = st.map (ga_v b ad) :=
  List.map_congr_left fun v hm => ga_ok_v h (List.all_eq_true.mp hv v hm)
theorem ga_ok_lv {b n : Nat} {ad ad2 : Nat → Nat} (h : ∀ k, k < n → ad2 k = ad k) {lv : List (Nat × Value)} (hv : lv.all (fun q => ga_ok n q.2) = true) : ga_l b ad2 lv = ga_l b ad lv :=
  List.map_congr_left fun v hm => by rw [ga_ok_v h (List.all_eq_true.mp hv v hm)]
theorem ga_ok_e {tA : List (ClassId × FieldType)} {b n : Nat} {ad ad2 : Nat → Nat} (h : ∀ k, k < n → ad2 k = ad k) {x : ga_E} (hx : ga_okE n x = true) : ga_e tA b ad2 x = ga_e tA b ad x := by
  cases x with
  | inl y => rfl
  | inr y => simp only [ga_e, ga_ok_st h hx]
theorem ga_w_push {tA : List (ClassId × FieldType)} {b q : Nat} {ad : Nat → Nat} {w : List ga_E} {x : ga_E} (hw : w.all (ga_okE w.length) = true) (hx : ga_okE w.length x = true) : ga_w tA b (fun k => if k = w.length then q else ad k) (w ++ [x]) = ga_w tA b ad w ++ [(q, ga_e tA b ad x)] := by
  have h : ∀ k, k < w.length → (fun k => if k = w.length then q else ad k) k = ad k := fun k hk => by simp only; rw [if_neg (by omega)]
  simp only [ga_w, List.mapIdx_append, List.mapIdx_cons, List.mapIdx_nil, Nat.zero_add, if_true]
  congr 1
  · apply List.ext_getElem?
    intro i
    simp only [List.getElem?_mapIdx]
    cases hi : w[i]? with
    | none => rfl
    | some y =>
      have hl := (List.getElem?_eq_some_iff.mp hi).1
      simp only [Option.map_some]
      rw [if_neg (by omega), ga_ok_e h (List.all_eq_true.mp hw y (List.mem_of_getElem? hi))]
  · rw [ga_ok_e h hx]
section GC
variable {l : Launch} {S0 : State} {D : va_G} {cl : List vw_C} {tA : List (ClassId × FieldType)} {base b : Nat} {xn : Nat → String} {p : Program} {e : Env} {R : Room} {s : State} {m : MethodId} {args : Array Value} {below : List Frame} {meth : Method} {c : Code} {nL : Nat} {Ts : List Cond} {own : String} {cc : ByteArray} {ret : Option FieldType} {tb : List ExceptionTableEntry} {mn : String} {fr lo : Nat} {fl : Bool} {ad0 : Nat → Nat} {w0 : ga_W} {Q : ga_R → ga_W → State → Prop}
variable {pc : Nat} {lv : List (Nat × Value)} {st : List Value} {w : ga_W} {o : ga_O}
theorem ga_grow {pc2 N : Nat} {x : ga_E} (hf : fl = false) (hx : ∀ n, ga_okE n x = true) (h : (ga_B l S0 D cl tA base b p R s m args meth c nL Ts own cc ret tb mn fr lo) → ∀ (ad : Nat → Nat) (H : Heap) (locs : List Loc) (k n : Nat) (ls : Array Slot) (st1 : List Value) (Q' : State → Prop), ga_H D cl tA base b ad w.1 H → va_S (fun q => base ≤ q) s.heap H locs → k + 1 ≤ R.cells → n + N ≤ R.slots → (∀ (q : Nat) (H1 : Heap), va_P D cl (ga_w tA b ad w.1 ++ [(q, ga_e tA b ad x)]) H1 → va_D (fun q => base ≤ q) (ga_w tA b ad w.1 ++ [(q, ga_e tA b ad x)]) → va_S (fun q => base ≤ q) s.heap H1 locs → W p l e R s m args below meth c H1 locs (k + 1) (n + N) Q' (F0 m pc2 ls (.ref q :: st1))) → st1 = st.map (ga_v b ad) → W p l e R s m args below meth c H locs k n Q' (F0 m pc ls (st.map (ga_v b ad))))
    {st2 : List Value} (hs2 : True)
    (kk : ga_J l S0 D cl tA base b xn p e R s m args below meth c nL Ts own cc ret tb mn fr lo fl ad0 w0 Q pc2 lv (.ref w.1.length :: st) (w.1 ++ [x], w.2.1 + 1, w.2.2 + N) o) : ga_J l S0 D cl tA base b xn p e R s m args below meth c nL Ts own cc ret tb mn fr lo fl ad0 w0 Q pc lv st w (if ga_okA w lv st = true then o else none) := by
  by_cases hok : ga_okA w lv st = true
  · rw [if_pos hok]
    simp only [ga_okA, Bool.and_eq_true] at hok
    obtain ⟨⟨hok1, hok2⟩, hok3⟩ := hok
    intro r w' ho
    obtain ⟨⟨m1, m2, m3, m4⟩, h4⟩ := kk r w' ho
    simp only [List.length_append, List.length_singleton] at m1 m2 m3
    refine ⟨⟨by omega, by omega, by omega, fun z => by rw [hf] at z; cases z⟩, fun B a1 a2 a3 a4 ad H locs ls x1 x2 x3 x4 => ?_⟩
    refine h B ad H locs _ _ ls (st.map (ga_v b ad)) _ x2 x3 (by omega) (by omega) (fun q H1 h1 h2 h3 => ?_) rfl
    have hag : ∀ k, k < w.1.length → (fun k => if k = w.1.length then q else ad k) k = ad k := fun k hk => by simp only; rw [if_neg (by omega)]
    have e := ga_w_push (tA := tA) (b := b) (q := q) (ad := ad) hok1 (hx w.1.length)
    have hh := h4 B (by simp only; omega) (by simp only; omega) a3 a4 (fun k => if k = w.1.length then q else ad k) H1 locs ls
      ⟨by simp only [List.length_append, List.length_singleton]; have := x1.1; omega, fun k hk => by
        simp only [List.length_append, List.length_singleton] at hk
        have := x1.1
        simp only
        rw [if_neg (by omega)]
        exact x1.2 k (by omega)⟩ ⟨by rw [e]; exact h1, by rw [e]; exact h2⟩ h3 (by rw [ga_ok_lv hag hok2]; exact x4)
    simp only [List.map_cons, ga_v, if_true] at hh
    rw [ga_ok_st hag hok3] at hh
    have e1 : w.2.1 + 1 - w0.2.1 = w.2.1 - w0.2.1 + 1 := by omega
    have e2 : w.2.2 + N - w0.2.2 = w.2.2 - w0.2.2 + N := by omega
    rw [e1, e2] at hh
    exact hh
  · rw [if_neg hok]
    exact ga_no
theorem ga_new {ci index N : Nat} {C : String} {T : u_T} {ty0 : Nat → FieldType} {fs : List Value} (hf : fl = false) (hin : ∀ x ∈ u_ws C T N, x ∈ Ts) (hty : ∀ k, k < N → parseFieldDescriptor (T k).2.2.1 = some (ty0 k)) (hc : cl[ci]? = some (C, T, N)) (h1 : Cond.classLink own index C ∈ Ts) (h2 : Cond.instantiable C N ∈ Ts) (h3 : Cond.initialized C ∈ Ts) (hfs : ∀ j, j < N → defaultValue (ty0 j) = vp_V fs j) (hfm : ∀ (b : Nat) (ad : Nat → Nat), fs.map (ga_v b ad) = fs) (hfo : ∀ n, fs.all (ga_ok n) = true) (d : decode cc pc = .ok (.new index, 3))
    (kk : ga_J l S0 D cl tA base b xn p e R s m args below meth c nL Ts own cc ret tb mn fr lo fl ad0 w0 Q (pc + 3) lv (.ref w.1.length :: st) (w.1 ++ [.inr (ci, fs)], w.2.1 + 1, w.2.2 + N) o) : ga_J l S0 D cl tA base b xn p e R s m args below meth c nL Ts own cc ret tb mn fr lo fl ad0 w0 Q pc lv st w (if ga_okA w lv st = true then o else none) := by
  refine ga_grow (x := .inr (ci, fs)) (st2 := []) hf hfo (fun B ad H locs k n ls st1 Q' hH hS q1 q2 k2 es => ?_) trivial kk
  obtain ⟨hx, hb, hml, hr, hown, hts, hlk, hbs, hK, hZ, htb, hmn, hfr, hlo, hst, h00⟩ := B
  subst es
  simp only [ga_e, hfm] at k2
  exact va_new (D := D) hx hb hts hin ty0 hty hown (hts _ h1) (hts _ h2) (hts _ h3) hK hH.1 hH.2 hS (fun q h => Nat.le_trans hbs h) hc hfs q1 q2 d k2
theorem ga_newa {atype : ArrayType} {ty : FieldType} {t : Nat} {cA : ClassId} {n : Int32} {N : Nat} {x : (Nat → Int32) ⊕ (Nat → Int64) ⊕ (Nat → UInt32) ⊕ (Nat → UInt64) ⊕ (Nat → Option Nat)} (hf : fl = false) (h1 : Cond.arrayClass (newarray.typeOf atype) ∈ Ts) (hty : newarray.typeOf atype = ty) (hpr : ∀ C, ty ≠ .object C) (ht : tA[t]? = some (cA, ty)) (ha : ∀ cA : ClassId, vp_cell cA (N, x) = arrV cA N (fun _ => defaultValue ty)) (hn : ¬ n < 0) (hN : n.toNatClampNeg = N) (hby : N * componentBytes ty ≤ 536870912) (d : decode cc pc = .ok (.newarray atype, 2))
    (kk : ga_J l S0 D cl tA base b xn p e R s m args below meth c nL Ts own cc ret tb mn fr lo fl ad0 w0 Q (pc + 2) lv (.ref w.1.length :: st) (w.1 ++ [.inl (t, N, x)], w.2.1 + 1, w.2.2 + N) o) : ga_J l S0 D cl tA base b xn p e R s m args below meth c nL Ts own cc ret tb mn fr lo fl ad0 w0 Q pc lv (.int n :: st) w (if ga_okA w lv st = true then o else none) := by
  refine ga_of (pc2 := pc) (st2 := .int n :: st) (fun _ _ _ _ _ _ _ _ _ k => k) ?_
  have key : ga_J l S0 D cl tA base b xn p e R s m args below meth c nL Ts own cc ret tb mn fr lo fl ad0 w0 Q pc lv (.int n :: st) w (if ga_okA w lv st = true then o else none) := by
    by_cases hok : ga_okA w lv st = true
    · rw [if_pos hok]
      simp only [ga_okA, Bool.and_eq_true] at hok
      obtain ⟨⟨hok1, hok2⟩, hok3⟩ := hok
      intro r w' ho
      obtain ⟨⟨m1, m2, m3, m4⟩, h4⟩ := kk r w' ho
      simp only [List.length_append, List.length_singleton] at m1 m2 m3
      refine ⟨⟨by omega, by omega, by omega, fun z => by rw [hf] at z; cases z⟩, fun B a1 a2 a3 a4 ad H locs ls x1 x2 x3 x4 => ?_⟩
      have B0 := B
      obtain ⟨hx, hb, hml, hr, hown, hts, hlk, hbs, hK, hZ, htb, hmn, hfr, hlo, hst, h00⟩ := B
      refine va_newa (D := D) hx hb (hts _ h1) hty hK x2.1 x2.2 x3 (fun q h => Nat.le_trans hbs h) (a0 := (N, x)) ha hn hN hby (by omega) (by omega) d (fun q cA2 H1 g0 g1 g2 g3 => ?_)
      have hcA : cA2 = cA := by
        have z1 := (hK.2 t _ ht).2
        have z2 := (g0.2 tA.length (cA2, ty) (by simp)).2
        have z3 : s.vm.findClass ("[" ++ ty.toString) = some cA := by cases ty <;> first | exact z1 | exact absurd rfl (hpr _)
        have z4 : s.vm.findClass ("[" ++ ty.toString) = some cA2 := by cases ty <;> first | exact z2 | exact absurd rfl (hpr _)
        exact Option.some.inj (z4.symm.trans z3)
      subst hcA
      have hag : ∀ k, k < w.1.length → (fun k => if k = w.1.length then q else ad k) k = ad k := fun k hk => by simp only; rw [if_neg (by omega)]
      have e := ga_w_push (tA := tA) (b := b) (q := q) (ad := ad) (x := .inl (t, N, x)) hok1 rfl
      have e9 : (tA.getD t (0, .int)).1 = cA2 := by simp [List.getD, ht]
      simp only [ga_e, e9] at e
      have hh := h4 B0 (by simp only; omega) (by simp only; omega) a3 a4 (fun k => if k = w.1.length then q else ad k) H1 locs ls
        ⟨by simp only [List.length_append, List.length_singleton]; have := x1.1; omega, fun k hk => by
          simp only [List.length_append, List.length_singleton] at hk
          have := x1.1
          simp only
          rw [if_neg (by omega)]
          exact x1.2 k (by omega)⟩ ⟨by rw [e]; exact g1, by rw [e]; exact g2⟩ g3 (by rw [ga_ok_lv hag hok2]; exact x4)
      simp only [List.map_cons, ga_v, if_true] at hh
      rw [ga_ok_st hag hok3] at hh
      have e1 : w.2.1 + 1 - w0.2.1 = w.2.1 - w0.2.1 + 1 := by omega
      have e2 : w.2.2 + N - w0.2.2 = w.2.2 - w0.2.2 + N := by omega
      rw [e1, e2] at hh
      exact hh
    · rw [if_neg hok]
      exact ga_no
  exact key
/-! calls -/
theorem ga_objInit {index a : Nat} (h1 : Cond.methodLink own index Lib.objectInit ∈ Ts) (h2 : Cond.instanceMethod Lib.objectInit ∈ Ts) (h3 : Cond.code Lib.objectInit ⟨#[0xb1]⟩ 1 none ∈ Ts) (hw : (st.map fun v => v.category).sum ≤ 8) (hf : 1 ≤ fr) (hl : 20 ≤ lo) (d : decode cc pc = .ok (.invokespecial index, 3))
    (k : ga_J l S0 D cl tA base b xn p e R s m args below meth c nL Ts own cc ret tb mn fr lo fl ad0 w0 Q (pc + 3) lv st w o) : ga_J l S0 D cl tA base b xn p e R s m args below meth c nL Ts own cc ret tb mn fr lo fl ad0 w0 Q pc lv (.ref a :: st) w o := by
  refine ga_of (fun B ad H locs k n ls Q' hl2 kk => ?_) k
  obtain ⟨hx, hb, hml, hr, hown, hts, hlk, hbs, hK, hZ, htb, hmn, hfr, hlo, hst, h00⟩ := B
  have hcs := ga_catsum b ad st
  exact W.objInit (g := F0 m pc ls (.ref (ad a) :: st.map (ga_v b ad))) hx hb hown (hts _ h1) (hts _ h2) (hts _ h3) rfl (by rw [hml]; exact hl2.1) rfl d (by omega) (by show 2 * 0 + _ + 12 ≤ _; omega) kk
theorem ga_max {index : Nat} {x y : Int32} (h1 : Cond.methodLink own index Lib.Math.max.name ∈ Ts) (h2 : Cond.static Lib.Math.max.name ∈ Ts) (h3 : Cond.initialized "java/lang/Math" ∈ Ts) (h4 : Cond.code Lib.Math.max.name Lib.Math.max.code 2 (some .int) ∈ Ts) (hw : (st.map fun v => v.category).sum ≤ 8) (hf : 1 ≤ fr) (hl : 21 ≤ lo) (d : decode cc pc = .ok (.invokestatic index, 3))
    (k : ga_J l S0 D cl tA base b xn p e R s m args below meth c nL Ts own cc ret tb mn fr lo fl ad0 w0 Q (pc + 3) lv (.int (if x < y then y else x) :: st) w o) : ga_J l S0 D cl tA base b xn p e R s m args below meth c nL Ts own cc ret tb mn fr lo fl ad0 w0 Q pc lv (.int y :: .int x :: st) w o := by
  intro r w' ho
  obtain ⟨g1, g4⟩ := k r w' ho
  refine ⟨g1, fun B a1 a2 a3 a4 ad H locs ls x1 x2 x3 x4 => ?_⟩
  have kk := g4 B a1 a2 a3 a4 ad H locs ls x1 x2 x3 x4
  obtain ⟨hx, hb, hml, hr, hown, hts, hlk, hbs, hK, hZ, htb, hmn, hfr, hlo, hst, h00⟩ := B
  obtain ⟨n1, n2, -, -⟩ := g1
  have hcs := ga_catsum b ad st
  exact va_mmax hx hb (hml.trans x4.1.symm) hown (hts _ h1) (hts _ h2) (hts _ h3) (hts _ h4) (by omega) (by omega) (by omega) (by omega) d kk
theorem ga_min {index : Nat} {x y : Int32} (h1 : Cond.methodLink own index Lib.Math.min.name ∈ Ts) (h2 : Cond.static Lib.Math.min.name ∈ Ts) (h3 : Cond.initialized "java/lang/Math" ∈ Ts) (h4 : Cond.code Lib.Math.min.name Lib.Math.min.code 2 (some .int) ∈ Ts) (hw : (st.map fun v => v.category).sum ≤ 8) (hf : 1 ≤ fr) (hl : 21 ≤ lo) (d : decode cc pc = .ok (.invokestatic index, 3))
    (k : ga_J l S0 D cl tA base b xn p e R s m args below meth c nL Ts own cc ret tb mn fr lo fl ad0 w0 Q (pc + 3) lv (.int (if y < x then y else x) :: st) w o) : ga_J l S0 D cl tA base b xn p e R s m args below meth c nL Ts own cc ret tb mn fr lo fl ad0 w0 Q pc lv (.int y :: .int x :: st) w o := by
  intro r w' ho
  obtain ⟨g1, g4⟩ := k r w' ho
  refine ⟨g1, fun B a1 a2 a3 a4 ad H locs ls x1 x2 x3 x4 => ?_⟩
  have kk := g4 B a1 a2 a3 a4 ad H locs ls x1 x2 x3 x4
  obtain ⟨hx, hb, hml, hr, hown, hts, hlk, hbs, hK, hZ, htb, hmn, hfr, hlo, hst, h00⟩ := B
  obtain ⟨n1, n2, -, -⟩ := g1
  have hcs := ga_catsum b ad st
  exact va_mmin hx hb (hml.trans x4.1.symm) hown (hts _ h1) (hts _ h2) (hts _ h3) (hts _ h4) (by omega) (by omega) (by omega) (by omega) d kk
end GC
/-- how a body ends -/
def ga_MQ (xn : Nat → String) (D : va_G) (cl : List vw_C) (tA : List (ClassId × FieldType)) (base b : Nat) (s : State) (args : Array Value) (below : List Frame) (ad0 : Nat → Nat) (w0 : ga_W) (r : ga_R) (w' : ga_W) : State → Prop := match r with
  | .inl v => MQ below (ga_Qc D cl tA base b ad0 w0.1.length v w') args s (w'.2.1 - w0.2.1) (w'.2.2 - w0.2.2) (fun q => base ≤ q)
  | .inr x => fun t => ∃ o, t.status = .running ∧ Ended t below o ∧ ga_Tq xn D cl tA base b ad0 w0.1.length x w' (w'.2.1 - w0.2.1) (w'.2.2 - w0.2.2) args s o t
/-- a method that ends so -/
def ga_MM (l : Launch) (S0 : State) (D : va_G) (cl : List vw_C) (tA : List (ClassId × FieldType)) (base b : Nat) (xn : Nat → String) (y : MethodName) (ws : List Cond) (fr lo : Nat) (av : List Value) (w : ga_W) (ad : Nat → Nat) (r : ga_R) (w' : ga_W) : Prop := match r with
  | .inl v => Met l y ws { frames := fr, cells := w'.2.1 - w.2.1, slots := w'.2.2 - w.2.2, locals := lo } (va_Pc (av.map (ga_v b ad)) (fun U => ga_P S0 D cl tA base b ad w U)) (ga_Qc D cl tA base b ad w.1.length v w') (w'.2.1 - w.2.1) (w'.2.2 - w.2.2) (fun q => base ≤ q)
  | .inr x => MetFree l y (headSpec ws { frames := fr, cells := w'.2.1 - w.2.1, slots := w'.2.2 - w.2.2, locals := lo }) (va_Pc (av.map (ga_v b ad)) (fun U => ga_P S0 D cl tA base b ad w U)) (fun _ _ _ _ _ => True) (ga_Tq xn D cl tA base b ad w.1.length x w' (w'.2.1 - w.2.1) (w'.2.2 - w.2.2))
/-- a method: its pure answer o at the arguments av in the world w -/
def ga_M (l : Launch) (S0 : State) (D : va_G) (cl : List vw_C) (tA : List (ClassId × FieldType)) (base b : Nat) (xn : Nat → String) (y : MethodName) (ws : List Cond) (fr lo : Nat) (fl : Bool) (av : List Value) (w : ga_W) (o : ga_O) : Prop :=
  ∀ (r : ga_R) (w' : ga_W), o = some (r, w') → (∀ (p : Program) (e : Env) (R : Room) (s : State) (m : MethodId) (args : Array Value) (below : List Frame) (meth : Method) (c : Code), ga_N fl w w') ∧
    ∀ ad : Nat → Nat, ga_MM l S0 D cl tA base b xn y ws fr lo av w ad r w'
/-- what comes behind a call -/
def ga_c (o1 : ga_O) (f : Option Value → ga_W → ga_O) (g : Nat → ga_W → ga_O) : ga_O := match o1 with
  | some (.inl v, w1) => f v w1
  | some (.inr x, w1) => g x w1
  | none => none
def ga_kI (f : Int32 → ga_W → ga_O) (v : Option Value) (w1 : ga_W) : ga_O := match v with
  | some (.int x) => f x w1
  | _ => none
def ga_kD (f : UInt64 → ga_W → ga_O) (v : Option Value) (w1 : ga_W) : ga_O := match v with
  | some (.double x) => f x w1
  | _ => none
def ga_kR (f : Nat → ga_W → ga_O) (v : Option Value) (w1 : ga_W) : ga_O := match v with
  | some (.ref x) => f x w1
  | _ => none
def ga_kV (f : ga_W → ga_O) (v : Option Value) (w1 : ga_W) : ga_O := match v with
  | none => f w1
  | _ => none
/-- the cell a is an object of the class number ci -/
def ga_is (w : ga_W) (ci a : Nat) : Bool := match w.1[a]? with
  | some (.inr (c', _)) => decide (c' = ci)
  | _ => false
theorem ga_is_spec {w : ga_W} {ci a : Nat} (h : ga_is w ci a = true) : ∃ fs, w.1[a]? = some (.inr (ci, fs)) := by
  unfold ga_is at h
  split at h
  · rename_i c' fs hw
    rw [decide_eq_true_eq] at h
    subst h
    exact ⟨fs, hw⟩
  · cases h
/-- an exception goes on to the caller -/
def ga_up (x : Nat) (w1 : ga_W) : ga_O := some (.inr x, w1)
/-- a call that ends in an exception of the class xn x, seen by the caller -/
def ga_XR (xn : Nat → String) (D : va_G) (cl : List vw_C) (tA : List (ClassId × FieldType)) (base b : Nat) (ad : Nat → Nat) (n0 : Nat) (x : Nat) (w1 : ga_W) (p : Program) (l : Launch) (e : Env) (R : Room) (s : State) (m : MethodId) (args : Array Value) (below : List Frame) (meth : Method) (c : Code) (H : Heap) (locs : List Loc) (k n mc ms : Nat) (g : JFrame) (rest : List Value) : Prop :=
  ∀ T : State, T.heap = H → Stand p l e R s m args below meth c T locs k n → ∃ (q : Addr) (ce : Cell) (T' : State) (L : List Loc) (ad' : Nat → Nat), Stand p l e R s m args below meth c T' (locs ++ L) (k + mc) (n + ms) ∧ (∀ z ∈ L, base ≤ z.base) ∧
    T'.heap[q]? = some ce ∧ ce.vm = .none ∧ s.vm.findClass (xn x) = some ce.cls ∧ ga_X n0 ad w1.1.length ad' ∧ ga_H D cl tA base b ad' w1.1 T'.heap ∧ H.size ≤ T'.heap.size ∧ (∀ z : Nat, z < H.size → ¬ base ≤ z → T'.heap[z]? = H[z]?) ∧
    Steps p.tables e below (T.setTop g) ((T'.setTop { g with stack := rest }).pushFrame (.throwing q))
section GD
variable {l : Launch} {S0 : State} {D : va_G} {cl : List vw_C} {tA : List (ClassId × FieldType)} {base b : Nat} {xn : Nat → String} {p : Program} {e : Env} {R : Room} {s : State} {m : MethodId} {args : Array Value} {below : List Frame} {meth : Method} {c : Code} {nL : Nat} {Ts : List Cond} {own : String} {cc : ByteArray} {ret : Option FieldType} {tb : List ExceptionTableEntry} {mn : String} {fr lo : Nat} {fl : Bool} {ad0 : Nat → Nat} {w0 : ga_W} {Q : ga_R → ga_W → State → Prop}
variable {pc : Nat} {lv : List (Nat × Value)} {st : List Value} {w : ga_W} {o : ga_O}
theorem ga_blind {av : List Value} {ad : Nat → Nat} : FrameBlind (va_Pc av (fun U => ga_P S0 D cl tA base b ad w U)) := by
  intro a U g mk q
  obtain ⟨q0, q1, q2, q3, q4, q5⟩ := q
  exact ⟨q0, q1, va_K.moved (u := U) (U := U.calling g mk a) (Vm.Alike.refl U.vm) q2, ga_Z.warm (u := U) (U := U.calling g mk a) (State.WarmedH.refl U) q3, q4, q5⟩
theorem ga_pre {ad : Nat → Nat} {H : Heap} {locs : List Loc} (B : (ga_B l S0 D cl tA base b p R s m args meth c nL Ts own cc ret tb mn fr lo)) (hH : ga_H D cl tA base b ad w.1 H) (hS : va_S (fun q => base ≤ q) s.heap H locs) : ∀ U : State, U.heap = H → s.WarmedH U.vm → ga_P S0 D cl tA base b ad w U := by
  intro U hU hW
  obtain ⟨hx, hb, hml, hr, hown, hts, hlk, hbs, hK, hZ, htb, hmn, hfr, hlo, hst, h00⟩ := B
  refine ⟨by rw [hU]; exact Nat.le_trans hbs hS.1, va_K.moved hW.alike hK, ?_, h00, by rw [hU]; exact hH⟩
  have h1 : ga_Z S0 base s H := hZ.kept hbs (fun a h1 h2 => hS.2.1 a h1 h2)
  rw [hU]
  exact h1.warm hW
/-- behind a call nothing old has changed -/
theorem ga_keep {H H1 : Heap} {locs L : List Loc} (hS : va_S (fun q => base ≤ q) s.heap H locs) (hz : H.size ≤ H1.size) (hk : ∀ z : Nat, z < H.size → ¬ base ≤ z → H1[z]? = H[z]?) (hL : ∀ z ∈ L, base ≤ z.base) : va_S (fun q => base ≤ q) s.heap H1 (locs ++ L) := by
  refine ⟨Nat.le_trans hS.1 hz, fun q h1 h2 => ?_, fun q hq => ?_⟩
  · rw [hk q (Nat.lt_of_lt_of_le h1 hS.1) h2]
    exact hS.2.1 q h1 h2
  · rcases List.mem_append.mp hq with h | h
    · exact hS.2.2 q h
    · exact hL q h
theorem ga_run {y : MethodName} {ws : List Cond} {fr1 lo1 : Nat} {fl1 : Bool} {av st0 : List Value} {o1 : ga_O} {f : Option Value → ga_W → ga_O} {g : Nat → ga_W → ga_O} (hM : ga_M l S0 D cl tA base b xn y ws fr1 lo1 fl1 av w o1) (hf : fl1 = true ∨ (fl = false ∧ lv.all (fun q => ga_ok w.1.length q.2) = true ∧ st.all (ga_ok w.1.length) = true))
    (hrv : ∀ (v : Option Value) (w1 : ga_W), o1 = some (.inl v, w1) → (ga_B l S0 D cl tA base b p R s m args meth c nL Ts own cc ret tb mn fr lo) → ∀ (ad : Nat → Nat) (H : Heap) (locs : List Loc) (k n : Nat) (ls : Array Slot), ga_H D cl tA base b ad w.1 H → va_S (fun q => base ≤ q) s.heap H locs → lv_has ls nL (ga_l b ad lv) → k + (w1.2.1 - w.2.1) ≤ R.cells → n + (w1.2.2 - w.2.2) ≤ R.slots →
      ∃ aa : Array Value, va_Run p l e R s m args below meth c H locs k n (w1.2.1 - w.2.1) (w1.2.2 - w.2.2) (F0 m pc ls (st0.map (ga_v b ad))) (st.map (ga_v b ad)) (ga_Qc D cl tA base b ad w.1.length v w1 aa) (fun q => base ≤ q))
    (hrx : ∀ (x : Nat) (w1 : ga_W), o1 = some (.inr x, w1) → (ga_B l S0 D cl tA base b p R s m args meth c nL Ts own cc ret tb mn fr lo) → ∀ (ad : Nat → Nat) (H : Heap) (locs : List Loc) (k n : Nat) (ls : Array Slot), ga_H D cl tA base b ad w.1 H → va_S (fun q => base ≤ q) s.heap H locs → lv_has ls nL (ga_l b ad lv) → k + (w1.2.1 - w.2.1) ≤ R.cells → n + (w1.2.2 - w.2.2) ≤ R.slots →
      ga_XR xn D cl tA base b ad w.1.length x w1 p l e R s m args below meth c H locs k n (w1.2.1 - w.2.1) (w1.2.2 - w.2.2) (F0 m pc ls (st0.map (ga_v b ad))) (st.map (ga_v b ad)))
    (kv : ∀ v w1, ga_J l S0 D cl tA base b xn p e R s m args below meth c nL Ts own cc ret tb mn fr lo fl ad0 w0 Q (pc + 3) lv (v.toList ++ st) w1 (f v w1)) (kx : ∀ x w1, ga_JX l S0 D cl tA base b xn p e R s m args below meth c nL Ts own cc ret tb mn fr lo fl ad0 w0 Q pc lv x w1 (g x w1)) : ga_J l S0 D cl tA base b xn p e R s m args below meth c nL Ts own cc ret tb mn fr lo fl ad0 w0 Q pc lv st0 w (ga_c o1 f g) := by
  cases ho1 : o1 with
  | none => exact ga_no
  | some q1 =>
    obtain ⟨r1, w1⟩ := q1
    intro r w' ho
    obtain ⟨hN1, -⟩ := hM r1 w1 ho1
    have hN1 := hN1 p e R s m args below meth c
    have hflip : ∀ w2 : ga_W, ga_N fl w1 w2 → ga_N fl w w2 := fun w2 h => by
      refine ga_N.tr ⟨hN1.1, hN1.2.1, hN1.2.2.1, fun z => ?_⟩ h
      rcases hf with hf | ⟨hf, -⟩
      · exact hN1.2.2.2 hf
      · rw [hf] at z; cases z
    have hsame : ∀ ad ad' : Nat → Nat, ga_X w.1.length ad w1.1.length ad' → ga_l b ad' lv = ga_l b ad lv ∧ st.map (ga_v b ad') = st.map (ga_v b ad) := fun ad ad' hX => by
      rcases hf with hf | ⟨-, hf1, hf2⟩
      · rw [hN1.2.2.2 hf] at hX
        rw [hX.eq]
        exact ⟨rfl, rfl⟩
      · exact ⟨ga_ok_lv (fun k hk => hX.2 k (Or.inl hk)) hf1, ga_ok_st (fun k hk => hX.2 k (Or.inl hk)) hf2⟩
    cases r1 with
    | inl v =>
      obtain ⟨g1, g4⟩ := kv v w1 r w' ho
      refine ⟨hflip _ g1, fun B a1 a2 a3 a4 ad H locs ls x1 x2 x3 x4 => ?_⟩
      obtain ⟨n1, n2, n3, -⟩ := hN1
      obtain ⟨n4, n5, n6, -⟩ := id g1
      obtain ⟨aa, hr⟩ := hrv v w1 ho1 B ad H locs (w.2.1 - w0.2.1) (w.2.2 - w0.2.2) ls x2 x3 x4 (by omega) (by omega)
      intro T hT X
      obtain ⟨v', st₀, t, T', L, h0, X', hL, e1, e2, ⟨⟨ad', hX, hv, hH'⟩, hF⟩, stp⟩ := hr T hT X
      cases hv
      obtain ⟨q1, q2⟩ := hsame ad ad' hX
      have k3 : va_S (fun q => base ≤ q) s.heap T'.heap (locs ++ L) := ga_keep x3 (by rw [e1, ← h0]; exact hF.1) (fun z h1 h2 => by rw [e1, ← h0]; exact hF.2 z (by rw [h0]; exact h1) h2) hL
      have hh := g4 B (by omega) (by omega) a3 a4 ad' T'.heap (locs ++ L) ls (ga_X.tr x1 hX) (by rw [e1]; exact hH') k3 (by rw [q1]; exact x4)
      have z1 : w1.2.1 - w0.2.1 = w.2.1 - w0.2.1 + (w1.2.1 - w.2.1) := by omega
      have z2 : w1.2.2 - w0.2.2 = w.2.2 - w0.2.2 + (w1.2.2 - w.2.2) := by omega
      rw [z1, z2, List.map_append, q2] at hh
      have z3 : v.toList.map (ga_v b ad') = (v.map (ga_v b ad')).toList := by cases v <;> rfl
      rw [z3] at hh
      obtain ⟨t2, s1, s2⟩ := hh T' rfl X'
      exact ⟨t2, stp t2 s1, s2⟩
    | inr x =>
      obtain ⟨g1, g4⟩ := kx x w1 r w' ho
      refine ⟨hflip _ g1, fun B a1 a2 a3 a4 ad H locs ls x1 x2 x3 x4 => ?_⟩
      obtain ⟨n1, n2, n3, -⟩ := hN1
      obtain ⟨n4, n5, n6, -⟩ := id g1
      have hr := hrx x w1 ho1 B ad H locs (w.2.1 - w0.2.1) (w.2.2 - w0.2.2) ls x2 x3 x4 (by omega) (by omega)
      intro T hT X
      obtain ⟨q, ce, T', L, ad', X', hL, hce, hcv, hcl, hX, hH', hz, hk, stp⟩ := hr T hT X
      obtain ⟨q1, q2⟩ := hsame ad ad' hX
      have hh := g4 B (by omega) (by omega) a3 a4 ad' T'.heap (locs ++ L) ls (st.map (ga_v b ad)) ce q (ga_X.tr x1 hX) hH' (ga_keep x3 hz hk hL) (by rw [q1]; exact x4) hce hcv hcl
      have z1 : w1.2.1 - w0.2.1 = w.2.1 - w0.2.1 + (w1.2.1 - w.2.1) := by omega
      have z2 : w1.2.2 - w0.2.2 = w.2.2 - w0.2.2 + (w1.2.2 - w.2.2) := by omega
      rw [z1, z2] at hh
      obtain ⟨t2, s1, s2⟩ := hh T' rfl X'
      exact ⟨t2, stp.trans s1, s2⟩
end GD
