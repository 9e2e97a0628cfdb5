/-! THE JUDGEMENTS AND THE ROWS OF INSTRUCTIONS THAT KEEP THE WORLD -/
/-- what the law's own start S0 gives: the tables' words, and what the Statement says of the start -/
def ga_0 (S0 : State) (b : Nat) : Prop := (∀ w ∈ lw_tbl, w.before #[Value.ref b] S0 = true) ∧ (Jvm.Cond.and given_1 narrow_1).before #[Value.ref b] S0 = true
/-- since S0 no cell that was there has changed -/
def ga_Z (S0 : State) (base : Nat) (U : State) (H : Heap) : Prop := S0.heap.size ≤ base ∧ S0.WarmedH U.vm ∧ ∀ q : Nat, q < base → H[q]? = S0.heap[q]?
theorem ga_Z.warm {S0 : State} {base : Nat} {u U : State} {H : Heap} (hW : u.WarmedH U.vm) (h : ga_Z S0 base u H) : ga_Z S0 base U H := ⟨h.1, State.WarmedH.trans h.2.1 hW, h.2.2⟩
theorem ga_Z.kept {S0 : State} {base : Nat} {U : State} {H H1 : Heap} (h : ga_Z S0 base U H) (hz : base ≤ H.size) (hq : ∀ a : Nat, a < H.size → ¬ base ≤ a → H1[a]? = H[a]?) : ga_Z S0 base U H1 := ⟨h.1, h.2.1, fun q hl => (hq q (by omega) (by omega)).trans (h.2.2 q hl)⟩
/-- what a method may take as given at its start, and its callers give -/
def ga_P (S0 : State) (D : va_G) (cl : List vw_C) (tA : List (ClassId × FieldType)) (base b : Nat) (ad : Nat → Nat) (w : ga_W) (U : State) : Prop :=
  base ≤ U.heap.size ∧ va_K D cl tA U ∧ ga_Z S0 base U U.heap ∧ ga_0 S0 b ∧ ga_H D cl tA base b ad w.1 U.heap
/-- how it ends: it returned, or it threw the class xn x -/
def ga_Qc (D : va_G) (cl : List vw_C) (tA : List (ClassId × FieldType)) (base b : Nat) (ad : Nat → Nat) (n0 : Nat) (v : Option Value) (w' : ga_W) : Array Value → State → Outcome → State → Prop := fun _ st oc t =>
  (∃ ad' : Nat → Nat, ga_X n0 ad w'.1.length ad' ∧ oc = .returned (v.map (ga_v b ad')) ∧ ga_H D cl tA base b ad' w'.1 t.heap) ∧ va_F (fun q => base ≤ q) st t
def ga_Tq (xn : Nat → String) (D : va_G) (cl : List vw_C) (tA : List (ClassId × FieldType)) (base b : Nat) (ad : Nat → Nat) (n0 : Nat) (x : Nat) (w' : ga_W) (mc ms : Nat) : Array Value → State → Outcome → State → Prop := fun _ st oc t =>
  ∃ (q : Addr) (ce : Cell) (L : List Loc) (ad' : Nat → Nat), oc = .threw q ∧ t.heap[q]? = some ce ∧ ce.vm = .none ∧ st.vm.findClass (xn x) = some ce.cls ∧ st.WarmedH t.vm ∧ st.sameButNew ({ t with vm := st.vm } : State) L mc ms ∧ (∀ z ∈ L, base ≤ z.base) ∧ ga_X n0 ad w'.1.length ad' ∧ ga_H D cl tA base b ad' w'.1 t.heap ∧ va_F (fun q => base ≤ q) st t
/-- cells and slots only grow; fl: no cell comes -/
def ga_N (fl : Bool) (w w' : ga_W) : Prop := w.2.1 ≤ w'.2.1 ∧ w.2.2 ≤ w'.2.2 ∧ w.1.length ≤ w'.1.length ∧ (fl = true → w'.1.length = w.1.length)
theorem ga_N.rf {fl : Bool} {w : ga_W} : ga_N fl w w := ⟨Nat.le_refl _, Nat.le_refl _, Nat.le_refl _, fun _ => rfl⟩
theorem ga_N.tr {fl : Bool} {w w1 w2 : ga_W} (h : ga_N fl w w1) (g : ga_N fl w1 w2) : ga_N fl w w2 := ⟨Nat.le_trans h.1 g.1, Nat.le_trans h.2.1 g.2.1, Nat.le_trans h.2.2.1 g.2.2.1, fun q => (g.2.2.2 q).trans (h.2.2.2 q)⟩
/-- what holds throughout a body -/
def ga_B (l : Launch) (S0 : State) (D : va_G) (cl : List vw_C) (tA : List (ClassId × FieldType)) (base b : Nat) (p : Program) (R : Room) (s : State) (m : MethodId) (args : Array Value) (meth : Method) (c : Code) (nL : Nat) (Ts : List Cond) (own : String) (cc : ByteArray) (ret : Option FieldType) (tb : List ExceptionTableEntry) (mn : String) (fr lo : Nat) : Prop :=
  p.tables.exec = Jvm.exec ∧ c.code = cc ∧ c.maxLocals = nL ∧ meth.sig.returnType = ret ∧ s.vm.findClass own = some m.cls ∧ (∀ w ∈ Ts, w.before args s = true) ∧ meth.locks = false ∧ base ≤ s.heap.size ∧ va_K D cl tA s ∧ ga_Z S0 base s s.heap ∧ c.exceptionTable.toList = tb ∧ meth.name = mn ∧ fr ≤ R.frames ∧ lo ≤ R.locals ∧ l.stackTraces = false ∧ ga_0 S0 b
def ga_J (l : Launch) (S0 : State) (D : va_G) (cl : List vw_C) (tA : List (ClassId × FieldType)) (base b : Nat) (xn : Nat → String) (p : Program) (e : Env) (R : Room) (s : State) (m : MethodId) (args : Array Value) (below : List Frame) (meth : Method) (c : Code) (nL : Nat) (Ts : List Cond) (own : String) (cc : ByteArray) (ret : Option FieldType) (tb : List ExceptionTableEntry) (mn : String) (fr lo : Nat) (fl : Bool) (ad0 : Nat → Nat) (w0 : ga_W) (Q : ga_R → ga_W → State → Prop)
    (pc : Nat) (lv : List (Nat × Value)) (st : List Value) (w : ga_W) (o : ga_O) : Prop :=
  ∀ (r : ga_R) (w' : ga_W), o = some (r, w') → ga_N fl w w' ∧
    ((ga_B l S0 D cl tA base b p R s m args meth c nL Ts own cc ret tb mn fr lo) → w0.2.1 ≤ w.2.1 → w0.2.2 ≤ w.2.2 → w'.2.1 ≤ w0.2.1 + R.cells → w'.2.2 ≤ w0.2.2 + R.slots → ∀ (ad : Nat → Nat) (H : Heap) (locs : List Loc) (ls : Array Slot),
      ga_X w0.1.length ad0 w.1.length ad → ga_H D cl tA base b ad w.1 H → va_S (fun q => base ≤ q) s.heap H locs → lv_has ls nL (ga_l b ad lv) →
      W p l e R s m args below meth c H locs (w.2.1 - w0.2.1) (w.2.2 - w0.2.2) (Q r w') (F0 m pc ls (st.map (ga_v b ad))))
/-- the machine, with q thrown over the frame g, comes to a state with Q -/
def ga_WX (p : Program) (l : Launch) (e : Env) (R : Room) (s : State) (m : MethodId) (args : Array Value) (below : List Frame) (meth : Method) (c : Code) (H : Heap) (locs : List Loc) (k n : Nat) (Q : State → Prop) (g : JFrame) (q : Addr) : Prop :=
  ∀ T : State, T.heap = H → Stand p l e R s m args below meth c T locs k n → ∃ t, Steps p.tables e below ((T.setTop g).pushFrame (.throwing q)) t ∧ Q t
/-- .. with an exception of the class xn x over it -/
def ga_JX (l : Launch) (S0 : State) (D : va_G) (cl : List vw_C) (tA : List (ClassId × FieldType)) (base b : Nat) (xn : Nat → String) (p : Program) (e : Env) (R : Room) (s : State) (m : MethodId) (args : Array Value) (below : List Frame) (meth : Method) (c : Code) (nL : Nat) (Ts : List Cond) (own : String) (cc : ByteArray) (ret : Option FieldType) (tb : List ExceptionTableEntry) (mn : String) (fr lo : Nat) (fl : Bool) (ad0 : Nat → Nat) (w0 : ga_W) (Q : ga_R → ga_W → State → Prop)
    (pc : Nat) (lv : List (Nat × Value)) (x : Nat) (w : ga_W) (o : ga_O) : Prop :=
  ∀ (r : ga_R) (w' : ga_W), o = some (r, w') → ga_N fl w w' ∧
    ((ga_B l S0 D cl tA base b p R s m args meth c nL Ts own cc ret tb mn fr lo) → w0.2.1 ≤ w.2.1 → w0.2.2 ≤ w.2.2 → w'.2.1 ≤ w0.2.1 + R.cells → w'.2.2 ≤ w0.2.2 + R.slots → ∀ (ad : Nat → Nat) (H : Heap) (locs : List Loc) (ls : Array Slot) (rest : List Value) (ce : Cell) (q : Addr),
      ga_X w0.1.length ad0 w.1.length ad → ga_H D cl tA base b ad w.1 H → va_S (fun q => base ≤ q) s.heap H locs → lv_has ls nL (ga_l b ad lv) → H[q]? = some ce → ce.vm = .none → s.vm.findClass (xn x) = some ce.cls →
      ga_WX p l e R s m args below meth c H locs (w.2.1 - w0.2.1) (w.2.2 - w0.2.2) (Q r w') (F0 m pc ls rest) q)
section GA
variable {l : Launch} {S0 : State} {D : va_G} {cl : List vw_C} {tA : List (ClassId × FieldType)} {base b : Nat} {xn : Nat → String} {p : Program} {e : Env} {R : Room} {s : State} {m : MethodId} {args : Array Value} {below : List Frame} {meth : Method} {c : Code} {nL : Nat} {Ts : List Cond} {own : String} {cc : ByteArray} {ret : Option FieldType} {tb : List ExceptionTableEntry} {mn : String} {fr lo : Nat} {fl : Bool} {ad0 : Nat → Nat} {w0 : ga_W} {Q : ga_R → ga_W → State → Prop}
variable {pc : Nat} {lv : List (Nat × Value)} {st : List Value} {w : ga_W} {o : ga_O}
theorem ga_of {pc2 : Nat} {st2 : List Value} (h : (ga_B l S0 D cl tA base b p R s m args meth c nL Ts own cc ret tb mn fr lo) → ∀ (ad : Nat → Nat) (H : Heap) (locs : List Loc) (k n : Nat) (ls : Array Slot) (Q' : State → Prop), lv_has ls nL (ga_l b ad lv) → W p l e R s m args below meth c H locs k n Q' (F0 m pc2 ls (st2.map (ga_v b ad))) → W p l e R s m args below meth c H locs k n Q' (F0 m pc ls (st.map (ga_v b ad))))
    (k : ga_J l S0 D cl tA base b xn p e R s m args below meth c nL Ts own cc ret tb mn fr lo fl ad0 w0 Q pc2 lv st2 w o) : ga_J l S0 D cl tA base b xn p e R s m args below meth c nL Ts own cc ret tb mn fr lo fl ad0 w0 Q pc lv st w o := by
  intro r w' ho
  obtain ⟨h1, h4⟩ := k r w' ho
  exact ⟨h1, fun B a1 a2 a3 a4 ad H locs ls x1 x2 x3 x4 => h B ad H locs _ _ ls _ x4 (h4 B a1 a2 a3 a4 ad H locs ls x1 x2 x3 x4)⟩
theorem ga_ofl {pc2 : Nat} {st2 : List Value} {lv2 : List (Nat × Value)} (h : (ga_B l S0 D cl tA base b p R s m args meth c nL Ts own cc ret tb mn fr lo) → ∀ (ad : Nat → Nat) (H : Heap) (locs : List Loc) (k n : Nat) (ls : Array Slot) (Q' : State → Prop), lv_has ls nL (ga_l b ad lv) → (∀ ls2 : Array Slot, lv_has ls2 nL (ga_l b ad lv2) → W p l e R s m args below meth c H locs k n Q' (F0 m pc2 ls2 (st2.map (ga_v b ad)))) → W p l e R s m args below meth c H locs k n Q' (F0 m pc ls (st.map (ga_v b ad))))
    (k : ga_J l S0 D cl tA base b xn p e R s m args below meth c nL Ts own cc ret tb mn fr lo fl ad0 w0 Q pc2 lv2 st2 w o) : ga_J l S0 D cl tA base b xn p e R s m args below meth c nL Ts own cc ret tb mn fr lo fl ad0 w0 Q pc lv st w o := by
  intro r w' ho
  obtain ⟨h1, h4⟩ := k r w' ho
  exact ⟨h1, fun B a1 a2 a3 a4 ad H locs ls x1 x2 x3 x4 => h B ad H locs _ _ ls _ x4 (fun ls2 y => h4 B a1 a2 a3 a4 ad H locs ls2 x1 x2 x3 y)⟩
/-- nothing is claimed of a road that has no answer -/
theorem ga_no : ga_J l S0 D cl tA base b xn p e R s m args below meth c nL Ts own cc ret tb mn fr lo fl ad0 w0 Q pc lv st w none := fun _ _ h => nomatch h
/-- fewer locals are known, in another order -/
theorem ga_sub (ks : List Nat) {lv2 : List (Nat × Value)} (hl : lv_pick lv ks = lv2) (k : ga_J l S0 D cl tA base b xn p e R s m args below meth c nL Ts own cc ret tb mn fr lo fl ad0 w0 Q pc lv2 st w o) : ga_J l S0 D cl tA base b xn p e R s m args below meth c nL Ts own cc ret tb mn fr lo fl ad0 w0 Q pc lv st w o := by
  refine ga_ofl (fun B ad H locs k n ls Q' hl2 kk => kk ls (lv_sub hl2 ks ?_)) k
  subst hl
  simp only [lv_pick, ga_l, List.map_filterMap, List.getElem?_map]
theorem ga_iconst {n : Int} {v : Int32} (d : decode cc pc = .ok (.iconst n, 1)) (hv : Int32.ofInt n = v) (k : ga_J l S0 D cl tA base b xn p e R s m args below meth c nL Ts own cc ret tb mn fr lo fl ad0 w0 Q (pc + 1) lv (.int v :: st) w o) : ga_J l S0 D cl tA base b xn p e R s m args below meth c nL Ts own cc ret tb mn fr lo fl ad0 w0 Q pc lv st w o :=
  ga_of (fun B ad _ _ _ _ ls _ _ kk => lv_iconst B.1 B.2.1 d hv kk) k
theorem ga_bipush {n : Int} {v : Int32} (d : decode cc pc = .ok (.bipush n, 2)) (hv : (Int8.ofInt n).toInt32 = v) (k : ga_J l S0 D cl tA base b xn p e R s m args below meth c nL Ts own cc ret tb mn fr lo fl ad0 w0 Q (pc + 2) lv (.int v :: st) w o) : ga_J l S0 D cl tA base b xn p e R s m args below meth c nL Ts own cc ret tb mn fr lo fl ad0 w0 Q pc lv st w o :=
  ga_of (fun B ad _ _ _ _ ls _ _ kk => lv_bipush B.1 B.2.1 d hv kk) k
theorem ga_sipush {n : Int} {v : Int32} (d : decode cc pc = .ok (.sipush n, 3)) (hv : (Int16.ofInt n).toInt32 = v) (k : ga_J l S0 D cl tA base b xn p e R s m args below meth c nL Ts own cc ret tb mn fr lo fl ad0 w0 Q (pc + 3) lv (.int v :: st) w o) : ga_J l S0 D cl tA base b xn p e R s m args below meth c nL Ts own cc ret tb mn fr lo fl ad0 w0 Q pc lv st w o :=
  ga_of (fun B ad _ _ _ _ ls _ _ kk => lv_sipush B.1 B.2.1 d hv kk) k
theorem ga_null  (d : decode cc pc = .ok (.aconst_null, 1)) (k : ga_J l S0 D cl tA base b xn p e R s m args below meth c nL Ts own cc ret tb mn fr lo fl ad0 w0 Q (pc + 1) lv (.null :: st) w o) : ga_J l S0 D cl tA base b xn p e R s m args below meth c nL Ts own cc ret tb mn fr lo fl ad0 w0 Q pc lv st w o :=
  ga_of (fun B ad _ _ _ _ ls _ _ kk => lv_null B.1 B.2.1 d kk) k
theorem ga_iadd {x y : Int32} (d : decode cc pc = .ok (.iadd, 1)) (k : ga_J l S0 D cl tA base b xn p e R s m args below meth c nL Ts own cc ret tb mn fr lo fl ad0 w0 Q (pc + 1) lv (.int (x + y) :: st) w o) : ga_J l S0 D cl tA base b xn p e R s m args below meth c nL Ts own cc ret tb mn fr lo fl ad0 w0 Q pc lv (.int y :: .int x :: st) w o :=
  ga_of (fun B ad _ _ _ _ ls _ _ kk => lv_iadd B.1 B.2.1 d kk) k
theorem ga_isub {x y : Int32} (d : decode cc pc = .ok (.isub, 1)) (k : ga_J l S0 D cl tA base b xn p e R s m args below meth c nL Ts own cc ret tb mn fr lo fl ad0 w0 Q (pc + 1) lv (.int (x - y) :: st) w o) : ga_J l S0 D cl tA base b xn p e R s m args below meth c nL Ts own cc ret tb mn fr lo fl ad0 w0 Q pc lv (.int y :: .int x :: st) w o :=
  ga_of (fun B ad _ _ _ _ ls _ _ kk => lv_isub B.1 B.2.1 d kk) k
theorem ga_imul {x y : Int32} (d : decode cc pc = .ok (.imul, 1)) (k : ga_J l S0 D cl tA base b xn p e R s m args below meth c nL Ts own cc ret tb mn fr lo fl ad0 w0 Q (pc + 1) lv (.int (x * y) :: st) w o) : ga_J l S0 D cl tA base b xn p e R s m args below meth c nL Ts own cc ret tb mn fr lo fl ad0 w0 Q pc lv (.int y :: .int x :: st) w o :=
  ga_of (fun B ad _ _ _ _ ls _ _ kk => lv_imul B.1 B.2.1 d kk) k
theorem ga_iand {x y : Int32} (d : decode cc pc = .ok (.iand, 1)) (k : ga_J l S0 D cl tA base b xn p e R s m args below meth c nL Ts own cc ret tb mn fr lo fl ad0 w0 Q (pc + 1) lv (.int (x &&& y) :: st) w o) : ga_J l S0 D cl tA base b xn p e R s m args below meth c nL Ts own cc ret tb mn fr lo fl ad0 w0 Q pc lv (.int y :: .int x :: st) w o :=
  ga_of (fun B ad _ _ _ _ ls _ _ kk => lv_iand B.1 B.2.1 d kk) k
theorem ga_ior {x y : Int32} (d : decode cc pc = .ok (.ior, 1)) (k : ga_J l S0 D cl tA base b xn p e R s m args below meth c nL Ts own cc ret tb mn fr lo fl ad0 w0 Q (pc + 1) lv (.int (x ||| y) :: st) w o) : ga_J l S0 D cl tA base b xn p e R s m args below meth c nL Ts own cc ret tb mn fr lo fl ad0 w0 Q pc lv (.int y :: .int x :: st) w o :=
  ga_of (fun B ad _ _ _ _ ls _ _ kk => lv_ior B.1 B.2.1 d kk) k
theorem ga_ixor {x y : Int32} (d : decode cc pc = .ok (.ixor, 1)) (k : ga_J l S0 D cl tA base b xn p e R s m args below meth c nL Ts own cc ret tb mn fr lo fl ad0 w0 Q (pc + 1) lv (.int (x ^^^ y) :: st) w o) : ga_J l S0 D cl tA base b xn p e R s m args below meth c nL Ts own cc ret tb mn fr lo fl ad0 w0 Q pc lv (.int y :: .int x :: st) w o :=
  ga_of (fun B ad _ _ _ _ ls _ _ kk => lv_ixor B.1 B.2.1 d kk) k
theorem ga_ineg {x : Int32} (d : decode cc pc = .ok (.ineg, 1)) (k : ga_J l S0 D cl tA base b xn p e R s m args below meth c nL Ts own cc ret tb mn fr lo fl ad0 w0 Q (pc + 1) lv (.int (-x) :: st) w o) : ga_J l S0 D cl tA base b xn p e R s m args below meth c nL Ts own cc ret tb mn fr lo fl ad0 w0 Q pc lv (.int x :: st) w o :=
  ga_of (fun B ad _ _ _ _ ls _ _ kk => lv_ineg B.1 B.2.1 d kk) k
theorem ga_i2l {x : Int32} (d : decode cc pc = .ok (.i2l, 1)) (k : ga_J l S0 D cl tA base b xn p e R s m args below meth c nL Ts own cc ret tb mn fr lo fl ad0 w0 Q (pc + 1) lv (.long x.toInt64 :: st) w o) : ga_J l S0 D cl tA base b xn p e R s m args below meth c nL Ts own cc ret tb mn fr lo fl ad0 w0 Q pc lv (.int x :: st) w o :=
  ga_of (fun B ad _ _ _ _ ls _ _ kk => lv_i2l B.1 B.2.1 d rfl kk) k
theorem ga_l2i {x : Int64} (d : decode cc pc = .ok (.l2i, 1)) (k : ga_J l S0 D cl tA base b xn p e R s m args below meth c nL Ts own cc ret tb mn fr lo fl ad0 w0 Q (pc + 1) lv (.int x.toInt32 :: st) w o) : ga_J l S0 D cl tA base b xn p e R s m args below meth c nL Ts own cc ret tb mn fr lo fl ad0 w0 Q pc lv (.long x :: st) w o :=
  ga_of (fun B ad _ _ _ _ ls _ _ kk => lv_l2i B.1 B.2.1 d rfl kk) k
theorem ga_i2d {x : Int32} (d : decode cc pc = .ok (.i2d, 1)) (k : ga_J l S0 D cl tA base b xn p e R s m args below meth c nL Ts own cc ret tb mn fr lo fl ad0 w0 Q (pc + 1) lv (.double (FP.i2d x) :: st) w o) : ga_J l S0 D cl tA base b xn p e R s m args below meth c nL Ts own cc ret tb mn fr lo fl ad0 w0 Q pc lv (.int x :: st) w o :=
  ga_of (fun B ad _ _ _ _ ls _ _ kk => lv_i2d B.1 B.2.1 d kk) k
theorem ga_dcmp {x y : UInt64} {op : CmpOp} (d : decode cc pc = .ok (.dcmp op, 1)) (k : ga_J l S0 D cl tA base b xn p e R s m args below meth c nL Ts own cc ret tb mn fr lo fl ad0 w0 Q (pc + 1) lv (.int (Op.cmpValue (FP.dcmp x y) op) :: st) w o) : ga_J l S0 D cl tA base b xn p e R s m args below meth c nL Ts own cc ret tb mn fr lo fl ad0 w0 Q pc lv (.double y :: .double x :: st) w o :=
  ga_of (fun B ad _ _ _ _ ls _ _ kk => lv_dcmp B.1 B.2.1 d kk) k
theorem ga_dup {va : Value} (d : decode cc pc = .ok (.dup, 1)) (h1 : va.category = 1) (k : ga_J l S0 D cl tA base b xn p e R s m args below meth c nL Ts own cc ret tb mn fr lo fl ad0 w0 Q (pc + 1) lv (va :: va :: st) w o) : ga_J l S0 D cl tA base b xn p e R s m args below meth c nL Ts own cc ret tb mn fr lo fl ad0 w0 Q pc lv (va :: st) w o :=
  ga_of (fun B ad _ _ _ _ ls _ _ kk => lv_dup B.1 B.2.1 d ((ga_cat b ad _).trans h1) kk) k
theorem ga_pop {va : Value} (d : decode cc pc = .ok (.pop, 1)) (h1 : va.category = 1) (k : ga_J l S0 D cl tA base b xn p e R s m args below meth c nL Ts own cc ret tb mn fr lo fl ad0 w0 Q (pc + 1) lv st w o) : ga_J l S0 D cl tA base b xn p e R s m args below meth c nL Ts own cc ret tb mn fr lo fl ad0 w0 Q pc lv (va :: st) w o :=
  ga_of (fun B ad _ _ _ _ ls _ _ kk => lv_pop B.1 B.2.1 d ((ga_cat b ad _).trans h1) kk) k
theorem ga_dup_x1 {va vb : Value} (d : decode cc pc = .ok (.dup_x1, 1)) (h1 : va.category = 1) (h2 : vb.category = 1) (k : ga_J l S0 D cl tA base b xn p e R s m args below meth c nL Ts own cc ret tb mn fr lo fl ad0 w0 Q (pc + 1) lv (va :: vb :: va :: st) w o) : ga_J l S0 D cl tA base b xn p e R s m args below meth c nL Ts own cc ret tb mn fr lo fl ad0 w0 Q pc lv (va :: vb :: st) w o :=
  ga_of (fun B ad _ _ _ _ ls _ _ kk => lv_dup_x1 B.1 B.2.1 d ((ga_cat b ad _).trans h1) ((ga_cat b ad _).trans h2) kk) k
theorem ga_dup_x2 {va vb vd : Value} (d : decode cc pc = .ok (.dup_x2, 1)) (h1 : va.category = 1) (h2 : vb.category = 1) (h3 : vd.category = 1) (k : ga_J l S0 D cl tA base b xn p e R s m args below meth c nL Ts own cc ret tb mn fr lo fl ad0 w0 Q (pc + 1) lv (va :: vb :: vd :: va :: st) w o) : ga_J l S0 D cl tA base b xn p e R s m args below meth c nL Ts own cc ret tb mn fr lo fl ad0 w0 Q pc lv (va :: vb :: vd :: st) w o :=
  ga_of (fun B ad _ _ _ _ ls _ _ kk => lv_dup_x2 B.1 B.2.1 d ((ga_cat b ad _).trans h1) ((ga_cat b ad _).trans h2) ((ga_cat b ad _).trans h3) kk) k
theorem ga_dup2 {va vb : Value} (d : decode cc pc = .ok (.dup2, 1)) (h1 : va.category = 1) (h2 : vb.category = 1) (k : ga_J l S0 D cl tA base b xn p e R s m args below meth c nL Ts own cc ret tb mn fr lo fl ad0 w0 Q (pc + 1) lv (va :: vb :: va :: vb :: st) w o) : ga_J l S0 D cl tA base b xn p e R s m args below meth c nL Ts own cc ret tb mn fr lo fl ad0 w0 Q pc lv (va :: vb :: st) w o :=
  ga_of (fun B ad _ _ _ _ ls _ _ kk => lv_dup2_11 B.1 B.2.1 d ((ga_cat b ad _).trans h1) ((ga_cat b ad _).trans h2) kk) k
theorem ga_idiv {x y : Int32} (d : decode cc pc = .ok (.idiv, 1)) (hne : ¬ y = 0) (k : ga_J l S0 D cl tA base b xn p e R s m args below meth c nL Ts own cc ret tb mn fr lo fl ad0 w0 Q (pc + 1) lv (.int (x / y) :: st) w o) : ga_J l S0 D cl tA base b xn p e R s m args below meth c nL Ts own cc ret tb mn fr lo fl ad0 w0 Q pc lv (.int y :: .int x :: st) w o :=
  ga_of (fun B ad _ _ _ _ ls _ _ kk => lv_idiv B.1 B.2.1 d hne kk) k
theorem ga_irem {x y : Int32} (d : decode cc pc = .ok (.irem, 1)) (hne : ¬ y = 0) (k : ga_J l S0 D cl tA base b xn p e R s m args below meth c nL Ts own cc ret tb mn fr lo fl ad0 w0 Q (pc + 1) lv (.int (x - x / y * y) :: st) w o) : ga_J l S0 D cl tA base b xn p e R s m args below meth c nL Ts own cc ret tb mn fr lo fl ad0 w0 Q pc lv (.int y :: .int x :: st) w o :=
  ga_of (fun B ad _ _ _ _ ls _ _ kk => lv_irem B.1 B.2.1 d hne kk) k
theorem ga_ddiv {x y : UInt64} (d : decode cc pc = .ok (.ddiv, 1)) (hne : vf_n64 (FP.ddiv x y)) (k : ga_J l S0 D cl tA base b xn p e R s m args below meth c nL Ts own cc ret tb mn fr lo fl ad0 w0 Q (pc + 1) lv (.double (FP.ddiv x y) :: st) w o) : ga_J l S0 D cl tA base b xn p e R s m args below meth c nL Ts own cc ret tb mn fr lo fl ad0 w0 Q pc lv (.double y :: .double x :: st) w o :=
  ga_of (fun B ad _ _ _ _ ls _ _ kk => lv_ddiv B.1 B.2.1 d hne kk) k
theorem ga_ladd {x y : Int64} (d : decode cc pc = .ok (.ladd, 1)) (k : ga_J l S0 D cl tA base b xn p e R s m args below meth c nL Ts own cc ret tb mn fr lo fl ad0 w0 Q (pc + 1) lv (.long (x + y) :: st) w o) : ga_J l S0 D cl tA base b xn p e R s m args below meth c nL Ts own cc ret tb mn fr lo fl ad0 w0 Q pc lv (.long y :: .long x :: st) w o :=
  ga_of (fun B ad _ _ _ _ ls _ _ kk => lv_ladd B.1 B.2.1 d kk) k
theorem ga_lsub {x y : Int64} (d : decode cc pc = .ok (.lsub, 1)) (k : ga_J l S0 D cl tA base b xn p e R s m args below meth c nL Ts own cc ret tb mn fr lo fl ad0 w0 Q (pc + 1) lv (.long (x - y) :: st) w o) : ga_J l S0 D cl tA base b xn p e R s m args below meth c nL Ts own cc ret tb mn fr lo fl ad0 w0 Q pc lv (.long y :: .long x :: st) w o :=
  ga_of (fun B ad _ _ _ _ ls _ _ kk => lv_lsub B.1 B.2.1 d kk) k
theorem ga_land {x y : Int64} (d : decode cc pc = .ok (.land, 1)) (k : ga_J l S0 D cl tA base b xn p e R s m args below meth c nL Ts own cc ret tb mn fr lo fl ad0 w0 Q (pc + 1) lv (.long (x &&& y) :: st) w o) : ga_J l S0 D cl tA base b xn p e R s m args below meth c nL Ts own cc ret tb mn fr lo fl ad0 w0 Q pc lv (.long y :: .long x :: st) w o :=
  ga_of (fun B ad _ _ _ _ ls _ _ kk => lv_land B.1 B.2.1 d kk) k
theorem ga_lor {x y : Int64} (d : decode cc pc = .ok (.lor, 1)) (k : ga_J l S0 D cl tA base b xn p e R s m args below meth c nL Ts own cc ret tb mn fr lo fl ad0 w0 Q (pc + 1) lv (.long (x ||| y) :: st) w o) : ga_J l S0 D cl tA base b xn p e R s m args below meth c nL Ts own cc ret tb mn fr lo fl ad0 w0 Q pc lv (.long y :: .long x :: st) w o :=
  ga_of (fun B ad _ _ _ _ ls _ _ kk => lv_lor B.1 B.2.1 d kk) k
theorem ga_lxor {x y : Int64} (d : decode cc pc = .ok (.lxor, 1)) (k : ga_J l S0 D cl tA base b xn p e R s m args below meth c nL Ts own cc ret tb mn fr lo fl ad0 w0 Q (pc + 1) lv (.long (x ^^^ y) :: st) w o) : ga_J l S0 D cl tA base b xn p e R s m args below meth c nL Ts own cc ret tb mn fr lo fl ad0 w0 Q pc lv (.long y :: .long x :: st) w o :=
  ga_of (fun B ad _ _ _ _ ls _ _ kk => lv_lxor B.1 B.2.1 d kk) k
theorem ga_lconst {n : Fin 2} {v : Int64} (d : decode cc pc = .ok (.lconst n, 1)) (hv : Int64.ofNat (n : Nat) = v) (k : ga_J l S0 D cl tA base b xn p e R s m args below meth c nL Ts own cc ret tb mn fr lo fl ad0 w0 Q (pc + 1) lv (.long v :: st) w o) : ga_J l S0 D cl tA base b xn p e R s m args below meth c nL Ts own cc ret tb mn fr lo fl ad0 w0 Q pc lv st w o :=
  ga_of (fun B ad _ _ _ _ ls _ _ kk => lv_lconst B.1 B.2.1 d hv kk) k
theorem ga_lshl {x : Int64} {y : Int32} (d : decode cc pc = .ok (.lshl, 1)) (k : ga_J l S0 D cl tA base b xn p e R s m args below meth c nL Ts own cc ret tb mn fr lo fl ad0 w0 Q (pc + 1) lv (.long (x <<< (y.toInt64 &&& 63)) :: st) w o) : ga_J l S0 D cl tA base b xn p e R s m args below meth c nL Ts own cc ret tb mn fr lo fl ad0 w0 Q pc lv (.int y :: .long x :: st) w o :=
  ga_of (fun B ad _ _ _ _ ls _ _ kk => lv_lshl B.1 B.2.1 d rfl kk) k
theorem ga_lshr {x : Int64} {y : Int32} (d : decode cc pc = .ok (.lshr, 1)) (k : ga_J l S0 D cl tA base b xn p e R s m args below meth c nL Ts own cc ret tb mn fr lo fl ad0 w0 Q (pc + 1) lv (.long (x >>> (y.toInt64 &&& 63)) :: st) w o) : ga_J l S0 D cl tA base b xn p e R s m args below meth c nL Ts own cc ret tb mn fr lo fl ad0 w0 Q pc lv (.int y :: .long x :: st) w o :=
  ga_of (fun B ad _ _ _ _ ls _ _ kk => lv_lshr B.1 B.2.1 d rfl kk) k
theorem ga_ishl {x y : Int32} (d : decode cc pc = .ok (.ishl, 1)) (k : ga_J l S0 D cl tA base b xn p e R s m args below meth c nL Ts own cc ret tb mn fr lo fl ad0 w0 Q (pc + 1) lv (.int (x <<< (y &&& 31)) :: st) w o) : ga_J l S0 D cl tA base b xn p e R s m args below meth c nL Ts own cc ret tb mn fr lo fl ad0 w0 Q pc lv (.int y :: .int x :: st) w o :=
  ga_of (fun B ad _ _ _ _ ls _ _ kk => lv_ishl B.1 B.2.1 d kk) k
theorem ga_lcmp {x y : Int64} (d : decode cc pc = .ok (.lcmp, 1)) (k : ga_J l S0 D cl tA base b xn p e R s m args below meth c nL Ts own cc ret tb mn fr lo fl ad0 w0 Q (pc + 1) lv (.int (lg_cmp x y) :: st) w o) : ga_J l S0 D cl tA base b xn p e R s m args below meth c nL Ts own cc ret tb mn fr lo fl ad0 w0 Q pc lv (.long y :: .long x :: st) w o :=
  ga_of (fun B ad _ _ _ _ ls _ _ kk => W.lcmp B.1 B.2.1 d kk) k
theorem ga_iload_n {j : Fin 4} {i q : Nat} {x : Int32} (d : decode cc pc = .ok (.iload_n j, 1)) (hi : (j : Nat) = i) (hq : lv[q]? = some (i, .int x)) (k : ga_J l S0 D cl tA base b xn p e R s m args below meth c nL Ts own cc ret tb mn fr lo fl ad0 w0 Q (pc + 1) lv (.int x :: st) w o) : ga_J l S0 D cl tA base b xn p e R s m args below meth c nL Ts own cc ret tb mn fr lo fl ad0 w0 Q pc lv st w o :=
  ga_of (fun B ad _ _ _ _ ls _ hl kk => lv_iload_n B.1 B.2.1 d hi (lv_at hl q (ga_l_at hq)) kk) k
theorem ga_iload {i q : Nat} {x : Int32} (d : decode cc pc = .ok (.iload i, 2)) (hq : lv[q]? = some (i, .int x)) (k : ga_J l S0 D cl tA base b xn p e R s m args below meth c nL Ts own cc ret tb mn fr lo fl ad0 w0 Q (pc + 2) lv (.int x :: st) w o) : ga_J l S0 D cl tA base b xn p e R s m args below meth c nL Ts own cc ret tb mn fr lo fl ad0 w0 Q pc lv st w o :=
  ga_of (fun B ad _ _ _ _ ls _ hl kk => lv_iload B.1 B.2.1 d (lv_at hl q (ga_l_at hq)) kk) k
theorem ga_lload_n {j : Fin 4} {i q : Nat} {x : Int64} (d : decode cc pc = .ok (.lload_n j, 1)) (hi : (j : Nat) = i) (hq : lv[q]? = some (i, .long x)) (k : ga_J l S0 D cl tA base b xn p e R s m args below meth c nL Ts own cc ret tb mn fr lo fl ad0 w0 Q (pc + 1) lv (.long x :: st) w o) : ga_J l S0 D cl tA base b xn p e R s m args below meth c nL Ts own cc ret tb mn fr lo fl ad0 w0 Q pc lv st w o :=
  ga_of (fun B ad _ _ _ _ ls _ hl kk => lv_lload_n B.1 B.2.1 d hi (lv_at hl q (ga_l_at hq)) kk) k
theorem ga_lload {i q : Nat} {x : Int64} (d : decode cc pc = .ok (.lload i, 2)) (hq : lv[q]? = some (i, .long x)) (k : ga_J l S0 D cl tA base b xn p e R s m args below meth c nL Ts own cc ret tb mn fr lo fl ad0 w0 Q (pc + 2) lv (.long x :: st) w o) : ga_J l S0 D cl tA base b xn p e R s m args below meth c nL Ts own cc ret tb mn fr lo fl ad0 w0 Q pc lv st w o :=
  ga_of (fun B ad _ _ _ _ ls _ hl kk => lv_lload B.1 B.2.1 d (lv_at hl q (ga_l_at hq)) kk) k
theorem ga_dload_n {j : Fin 4} {i q : Nat} {x : UInt64} (d : decode cc pc = .ok (.dload_n j, 1)) (hi : (j : Nat) = i) (hq : lv[q]? = some (i, .double x)) (k : ga_J l S0 D cl tA base b xn p e R s m args below meth c nL Ts own cc ret tb mn fr lo fl ad0 w0 Q (pc + 1) lv (.double x :: st) w o) : ga_J l S0 D cl tA base b xn p e R s m args below meth c nL Ts own cc ret tb mn fr lo fl ad0 w0 Q pc lv st w o :=
  ga_of (fun B ad _ _ _ _ ls _ hl kk => lv_dload_n B.1 B.2.1 d hi (lv_at hl q (ga_l_at hq)) kk) k
theorem ga_dload {i q : Nat} {x : UInt64} (d : decode cc pc = .ok (.dload i, 2)) (hq : lv[q]? = some (i, .double x)) (k : ga_J l S0 D cl tA base b xn p e R s m args below meth c nL Ts own cc ret tb mn fr lo fl ad0 w0 Q (pc + 2) lv (.double x :: st) w o) : ga_J l S0 D cl tA base b xn p e R s m args below meth c nL Ts own cc ret tb mn fr lo fl ad0 w0 Q pc lv st w o :=
  ga_of (fun B ad _ _ _ _ ls _ hl kk => lv_dload B.1 B.2.1 d (lv_at hl q (ga_l_at hq)) kk) k
theorem ga_aload_n {j : Fin 4} {i q : Nat} {x : Nat} (d : decode cc pc = .ok (.aload_n j, 1)) (hi : (j : Nat) = i) (hq : lv[q]? = some (i, .ref x)) (k : ga_J l S0 D cl tA base b xn p e R s m args below meth c nL Ts own cc ret tb mn fr lo fl ad0 w0 Q (pc + 1) lv (.ref x :: st) w o) : ga_J l S0 D cl tA base b xn p e R s m args below meth c nL Ts own cc ret tb mn fr lo fl ad0 w0 Q pc lv st w o :=
  ga_of (fun B ad _ _ _ _ ls _ hl kk => lv_aload_n B.1 B.2.1 d hi (lv_at hl q (ga_l_at hq)) kk) k
theorem ga_aload {i q : Nat} {x : Nat} (d : decode cc pc = .ok (.aload i, 2)) (hq : lv[q]? = some (i, .ref x)) (k : ga_J l S0 D cl tA base b xn p e R s m args below meth c nL Ts own cc ret tb mn fr lo fl ad0 w0 Q (pc + 2) lv (.ref x :: st) w o) : ga_J l S0 D cl tA base b xn p e R s m args below meth c nL Ts own cc ret tb mn fr lo fl ad0 w0 Q pc lv st w o :=
  ga_of (fun B ad _ _ _ _ ls _ hl kk => lv_aload B.1 B.2.1 d (lv_at hl q (ga_l_at hq)) kk) k
theorem ga_sload_n {j : Fin 4} {i q : Nat} {x : UInt32} (d : decode cc pc = .ok (.aload_n j, 1)) (hi : (j : Nat) = i) (hq : lv[q]? = some (i, .float x)) (k : ga_J l S0 D cl tA base b xn p e R s m args below meth c nL Ts own cc ret tb mn fr lo fl ad0 w0 Q (pc + 1) lv (.float x :: st) w o) : ga_J l S0 D cl tA base b xn p e R s m args below meth c nL Ts own cc ret tb mn fr lo fl ad0 w0 Q pc lv st w o :=
  ga_of (fun B ad _ _ _ _ ls _ hl kk => lv_aload_n B.1 B.2.1 d hi (lv_at hl q (ga_l_at hq)) kk) k
theorem ga_sload {i q : Nat} {x : UInt32} (d : decode cc pc = .ok (.aload i, 2)) (hq : lv[q]? = some (i, .float x)) (k : ga_J l S0 D cl tA base b xn p e R s m args below meth c nL Ts own cc ret tb mn fr lo fl ad0 w0 Q (pc + 2) lv (.float x :: st) w o) : ga_J l S0 D cl tA base b xn p e R s m args below meth c nL Ts own cc ret tb mn fr lo fl ad0 w0 Q pc lv st w o :=
  ga_of (fun B ad _ _ _ _ ls _ hl kk => lv_aload B.1 B.2.1 d (lv_at hl q (ga_l_at hq)) kk) k
theorem ga_nload_n {j : Fin 4} {i q : Nat}  (d : decode cc pc = .ok (.aload_n j, 1)) (hi : (j : Nat) = i) (hq : lv[q]? = some (i, .null)) (k : ga_J l S0 D cl tA base b xn p e R s m args below meth c nL Ts own cc ret tb mn fr lo fl ad0 w0 Q (pc + 1) lv (.null :: st) w o) : ga_J l S0 D cl tA base b xn p e R s m args below meth c nL Ts own cc ret tb mn fr lo fl ad0 w0 Q pc lv st w o :=
  ga_of (fun B ad _ _ _ _ ls _ hl kk => lv_aload_nN B.1 B.2.1 d hi (lv_at hl q (ga_l_at hq)) kk) k
theorem ga_nload {i q : Nat}  (d : decode cc pc = .ok (.aload i, 2)) (hq : lv[q]? = some (i, .null)) (k : ga_J l S0 D cl tA base b xn p e R s m args below meth c nL Ts own cc ret tb mn fr lo fl ad0 w0 Q (pc + 2) lv (.null :: st) w o) : ga_J l S0 D cl tA base b xn p e R s m args below meth c nL Ts own cc ret tb mn fr lo fl ad0 w0 Q pc lv st w o :=
  ga_of (fun B ad _ _ _ _ ls _ hl kk => lv_aloadN B.1 B.2.1 d (lv_at hl q (ga_l_at hq)) kk) k
theorem ga_istore_n {j : Fin 4} {i : Nat} {x : Int32} {lv2 : List (Nat × Value)} (d : decode cc pc = .ok (.istore_n j, 1)) (hi : (j : Nat) = i) (hn : i < nL) (h2 : ga_s1 lv i (.int x) = lv2) (k : ga_J l S0 D cl tA base b xn p e R s m args below meth c nL Ts own cc ret tb mn fr lo fl ad0 w0 Q (pc + 1) lv2 st w o) : ga_J l S0 D cl tA base b xn p e R s m args below meth c nL Ts own cc ret tb mn fr lo fl ad0 w0 Q pc lv (.int x :: st) w o :=
  ga_ofl (fun B ad _ _ _ _ ls _ hl kk => lv_istore_n B.1 B.2.1 d hi hl hn ((ga_s1_l b ad lv i (.int x)).trans (by rw [h2])) kk) k
theorem ga_istore {i : Nat} {x : Int32} {lv2 : List (Nat × Value)} (d : decode cc pc = .ok (.istore i, 2)) (hn : i < nL) (h2 : ga_s1 lv i (.int x) = lv2) (k : ga_J l S0 D cl tA base b xn p e R s m args below meth c nL Ts own cc ret tb mn fr lo fl ad0 w0 Q (pc + 2) lv2 st w o) : ga_J l S0 D cl tA base b xn p e R s m args below meth c nL Ts own cc ret tb mn fr lo fl ad0 w0 Q pc lv (.int x :: st) w o :=
  ga_ofl (fun B ad _ _ _ _ ls _ hl kk => lv_istore B.1 B.2.1 d hl hn ((ga_s1_l b ad lv i (.int x)).trans (by rw [h2])) kk) k
theorem ga_lstore_n {j : Fin 4} {i : Nat} {x : Int64} {lv2 : List (Nat × Value)} (d : decode cc pc = .ok (.lstore_n j, 1)) (hi : (j : Nat) = i) (hn : i + 1 < nL) (h2 : ga_s2 lv i (.long x) = lv2) (k : ga_J l S0 D cl tA base b xn p e R s m args below meth c nL Ts own cc ret tb mn fr lo fl ad0 w0 Q (pc + 1) lv2 st w o) : ga_J l S0 D cl tA base b xn p e R s m args below meth c nL Ts own cc ret tb mn fr lo fl ad0 w0 Q pc lv (.long x :: st) w o :=
  ga_ofl (fun B ad _ _ _ _ ls _ hl kk => lv_lstore_n B.1 B.2.1 d hi hl hn ((ga_s2_l b ad lv i (.long x)).trans (by rw [h2])) kk) k
theorem ga_lstore {i : Nat} {x : Int64} {lv2 : List (Nat × Value)} (d : decode cc pc = .ok (.lstore i, 2)) (hn : i + 1 < nL) (h2 : ga_s2 lv i (.long x) = lv2) (k : ga_J l S0 D cl tA base b xn p e R s m args below meth c nL Ts own cc ret tb mn fr lo fl ad0 w0 Q (pc + 2) lv2 st w o) : ga_J l S0 D cl tA base b xn p e R s m args below meth c nL Ts own cc ret tb mn fr lo fl ad0 w0 Q pc lv (.long x :: st) w o :=
  ga_ofl (fun B ad _ _ _ _ ls _ hl kk => lv_lstore B.1 B.2.1 d hl hn ((ga_s2_l b ad lv i (.long x)).trans (by rw [h2])) kk) k
theorem ga_dstore_n {j : Fin 4} {i : Nat} {x : UInt64} {lv2 : List (Nat × Value)} (d : decode cc pc = .ok (.dstore_n j, 1)) (hi : (j : Nat) = i) (hn : i + 1 < nL) (h2 : ga_s2 lv i (.double x) = lv2) (k : ga_J l S0 D cl tA base b xn p e R s m args below meth c nL Ts own cc ret tb mn fr lo fl ad0 w0 Q (pc + 1) lv2 st w o) : ga_J l S0 D cl tA base b xn p e R s m args below meth c nL Ts own cc ret tb mn fr lo fl ad0 w0 Q pc lv (.double x :: st) w o :=
  ga_ofl (fun B ad _ _ _ _ ls _ hl kk => lv_dstore_n B.1 B.2.1 d hi hl hn ((ga_s2_l b ad lv i (.double x)).trans (by rw [h2])) kk) k
theorem ga_dstore {i : Nat} {x : UInt64} {lv2 : List (Nat × Value)} (d : decode cc pc = .ok (.dstore i, 2)) (hn : i + 1 < nL) (h2 : ga_s2 lv i (.double x) = lv2) (k : ga_J l S0 D cl tA base b xn p e R s m args below meth c nL Ts own cc ret tb mn fr lo fl ad0 w0 Q (pc + 2) lv2 st w o) : ga_J l S0 D cl tA base b xn p e R s m args below meth c nL Ts own cc ret tb mn fr lo fl ad0 w0 Q pc lv (.double x :: st) w o :=
  ga_ofl (fun B ad _ _ _ _ ls _ hl kk => lv_dstore B.1 B.2.1 d hl hn ((ga_s2_l b ad lv i (.double x)).trans (by rw [h2])) kk) k
theorem ga_astore_n {j : Fin 4} {i : Nat} {x : Nat} {lv2 : List (Nat × Value)} (d : decode cc pc = .ok (.astore_n j, 1)) (hi : (j : Nat) = i) (hn : i < nL) (h2 : ga_s1 lv i (.ref x) = lv2) (k : ga_J l S0 D cl tA base b xn p e R s m args below meth c nL Ts own cc ret tb mn fr lo fl ad0 w0 Q (pc + 1) lv2 st w o) : ga_J l S0 D cl tA base b xn p e R s m args below meth c nL Ts own cc ret tb mn fr lo fl ad0 w0 Q pc lv (.ref x :: st) w o :=
  ga_ofl (fun B ad _ _ _ _ ls _ hl kk => lv_astore_n B.1 B.2.1 d hi hl hn ((ga_s1_l b ad lv i (.ref x)).trans (by rw [h2])) kk) k
theorem ga_astore {i : Nat} {x : Nat} {lv2 : List (Nat × Value)} (d : decode cc pc = .ok (.astore i, 2)) (hn : i < nL) (h2 : ga_s1 lv i (.ref x) = lv2) (k : ga_J l S0 D cl tA base b xn p e R s m args below meth c nL Ts own cc ret tb mn fr lo fl ad0 w0 Q (pc + 2) lv2 st w o) : ga_J l S0 D cl tA base b xn p e R s m args below meth c nL Ts own cc ret tb mn fr lo fl ad0 w0 Q pc lv (.ref x :: st) w o :=
  ga_ofl (fun B ad _ _ _ _ ls _ hl kk => lv_astore B.1 B.2.1 d hl hn ((ga_s1_l b ad lv i (.ref x)).trans (by rw [h2])) kk) k
theorem ga_iinc {i q : Nat} {n : Int} {x v : Int32} {lv2 : List (Nat × Value)} (d : decode cc pc = .ok (.iinc i n, 3)) (hq : lv[q]? = some (i, .int x)) (hv : x + Int32.ofInt n = v) (hn : i < nL) (h2 : ga_s1 lv i (.int v) = lv2) (k : ga_J l S0 D cl tA base b xn p e R s m args below meth c nL Ts own cc ret tb mn fr lo fl ad0 w0 Q (pc + 3) lv2 st w o) : ga_J l S0 D cl tA base b xn p e R s m args below meth c nL Ts own cc ret tb mn fr lo fl ad0 w0 Q pc lv st w o :=
  ga_ofl (fun B ad _ _ _ _ ls _ hl kk => lv_iinc B.1 B.2.1 d hl (ga_l_at hq) hv hn ((ga_s1_l b ad lv i (.int v)).trans (by rw [h2])) kk) k
theorem ga_if_eq {x : Int32} {off : Int} {tgt : Nat} {o2 : ga_O} (d : decode cc pc = .ok (.ifCond .eq off, 3)) (ht : (pc : Int) + off = (tgt : Int)) (k1 : x = 0 → ga_J l S0 D cl tA base b xn p e R s m args below meth c nL Ts own cc ret tb mn fr lo fl ad0 w0 Q tgt lv st w o) (k2 : ¬ (x = 0) → ga_J l S0 D cl tA base b xn p e R s m args below meth c nL Ts own cc ret tb mn fr lo fl ad0 w0 Q (pc + 3) lv st w o2) : ga_J l S0 D cl tA base b xn p e R s m args below meth c nL Ts own cc ret tb mn fr lo fl ad0 w0 Q pc lv (.int x :: st) w (if x = 0 then o else o2) := by
  by_cases hc : x = 0
  · rw [if_pos hc]
    exact ga_of (fun B _ _ _ _ _ _ _ _ kk => lv_if_eq B.1 B.2.1 d ht (fun _ => kk) (fun z => absurd hc z)) (k1 hc)
  · rw [if_neg hc]
    exact ga_of (fun B _ _ _ _ _ _ _ _ kk => lv_if_eq B.1 B.2.1 d ht (fun z => absurd z hc) (fun _ => kk)) (k2 hc)
theorem ga_icmp_eq {x y : Int32} {off : Int} {tgt : Nat} {o2 : ga_O} (d : decode cc pc = .ok (.if_icmp .eq off, 3)) (ht : (pc : Int) + off = (tgt : Int)) (k1 : x = y → ga_J l S0 D cl tA base b xn p e R s m args below meth c nL Ts own cc ret tb mn fr lo fl ad0 w0 Q tgt lv st w o) (k2 : ¬ (x = y) → ga_J l S0 D cl tA base b xn p e R s m args below meth c nL Ts own cc ret tb mn fr lo fl ad0 w0 Q (pc + 3) lv st w o2) : ga_J l S0 D cl tA base b xn p e R s m args below meth c nL Ts own cc ret tb mn fr lo fl ad0 w0 Q pc lv (.int y :: .int x :: st) w (if x = y then o else o2) := by
  by_cases hc : x = y
  · rw [if_pos hc]
    exact ga_of (fun B _ _ _ _ _ _ _ _ kk => lv_icmp_eq B.1 B.2.1 d ht (fun _ => kk) (fun z => absurd hc z)) (k1 hc)
  · rw [if_neg hc]
    exact ga_of (fun B _ _ _ _ _ _ _ _ kk => lv_icmp_eq B.1 B.2.1 d ht (fun z => absurd z hc) (fun _ => kk)) (k2 hc)
theorem ga_if_lt {x : Int32} {off : Int} {tgt : Nat} {o2 : ga_O} (d : decode cc pc = .ok (.ifCond .lt off, 3)) (ht : (pc : Int) + off = (tgt : Int)) (k1 : x < 0 → ga_J l S0 D cl tA base b xn p e R s m args below meth c nL Ts own cc ret tb mn fr lo fl ad0 w0 Q tgt lv st w o) (k2 : ¬ (x < 0) → ga_J l S0 D cl tA base b xn p e R s m args below meth c nL Ts own cc ret tb mn fr lo fl ad0 w0 Q (pc + 3) lv st w o2) : ga_J l S0 D cl tA base b xn p e R s m args below meth c nL Ts own cc ret tb mn fr lo fl ad0 w0 Q pc lv (.int x :: st) w (if x < 0 then o else o2) := by
  by_cases hc : x < 0
  · rw [if_pos hc]
    exact ga_of (fun B _ _ _ _ _ _ _ _ kk => lv_if_lt B.1 B.2.1 d ht (fun _ => kk) (fun z => absurd hc z)) (k1 hc)
  · rw [if_neg hc]
    exact ga_of (fun B _ _ _ _ _ _ _ _ kk => lv_if_lt B.1 B.2.1 d ht (fun z => absurd z hc) (fun _ => kk)) (k2 hc)
theorem ga_icmp_lt {x y : Int32} {off : Int} {tgt : Nat} {o2 : ga_O} (d : decode cc pc = .ok (.if_icmp .lt off, 3)) (ht : (pc : Int) + off = (tgt : Int)) (k1 : x < y → ga_J l S0 D cl tA base b xn p e R s m args below meth c nL Ts own cc ret tb mn fr lo fl ad0 w0 Q tgt lv st w o) (k2 : ¬ (x < y) → ga_J l S0 D cl tA base b xn p e R s m args below meth c nL Ts own cc ret tb mn fr lo fl ad0 w0 Q (pc + 3) lv st w o2) : ga_J l S0 D cl tA base b xn p e R s m args below meth c nL Ts own cc ret tb mn fr lo fl ad0 w0 Q pc lv (.int y :: .int x :: st) w (if x < y then o else o2) := by
  by_cases hc : x < y
  · rw [if_pos hc]
    exact ga_of (fun B _ _ _ _ _ _ _ _ kk => lv_icmp_lt B.1 B.2.1 d ht (fun _ => kk) (fun z => absurd hc z)) (k1 hc)
  · rw [if_neg hc]
    exact ga_of (fun B _ _ _ _ _ _ _ _ kk => lv_icmp_lt B.1 B.2.1 d ht (fun z => absurd z hc) (fun _ => kk)) (k2 hc)
theorem ga_if_ge {x : Int32} {off : Int} {tgt : Nat} {o2 : ga_O} (d : decode cc pc = .ok (.ifCond .ge off, 3)) (ht : (pc : Int) + off = (tgt : Int)) (k1 : 0 ≤ x → ga_J l S0 D cl tA base b xn p e R s m args below meth c nL Ts own cc ret tb mn fr lo fl ad0 w0 Q tgt lv st w o) (k2 : ¬ (0 ≤ x) → ga_J l S0 D cl tA base b xn p e R s m args below meth c nL Ts own cc ret tb mn fr lo fl ad0 w0 Q (pc + 3) lv st w o2) : ga_J l S0 D cl tA base b xn p e R s m args below meth c nL Ts own cc ret tb mn fr lo fl ad0 w0 Q pc lv (.int x :: st) w (if 0 ≤ x then o else o2) := by
  by_cases hc : 0 ≤ x
  · rw [if_pos hc]
    exact ga_of (fun B _ _ _ _ _ _ _ _ kk => lv_if_ge B.1 B.2.1 d ht (fun _ => kk) (fun z => absurd hc z)) (k1 hc)
  · rw [if_neg hc]
    exact ga_of (fun B _ _ _ _ _ _ _ _ kk => lv_if_ge B.1 B.2.1 d ht (fun z => absurd z hc) (fun _ => kk)) (k2 hc)
theorem ga_icmp_ge {x y : Int32} {off : Int} {tgt : Nat} {o2 : ga_O} (d : decode cc pc = .ok (.if_icmp .ge off, 3)) (ht : (pc : Int) + off = (tgt : Int)) (k1 : y ≤ x → ga_J l S0 D cl tA base b xn p e R s m args below meth c nL Ts own cc ret tb mn fr lo fl ad0 w0 Q tgt lv st w o) (k2 : ¬ (y ≤ x) → ga_J l S0 D cl tA base b xn p e R s m args below meth c nL Ts own cc ret tb mn fr lo fl ad0 w0 Q (pc + 3) lv st w o2) : ga_J l S0 D cl tA base b xn p e R s m args below meth c nL Ts own cc ret tb mn fr lo fl ad0 w0 Q pc lv (.int y :: .int x :: st) w (if y ≤ x then o else o2) := by
  by_cases hc : y ≤ x
  · rw [if_pos hc]
    exact ga_of (fun B _ _ _ _ _ _ _ _ kk => lv_icmp_ge B.1 B.2.1 d ht (fun _ => kk) (fun z => absurd hc z)) (k1 hc)
  · rw [if_neg hc]
    exact ga_of (fun B _ _ _ _ _ _ _ _ kk => lv_icmp_ge B.1 B.2.1 d ht (fun z => absurd z hc) (fun _ => kk)) (k2 hc)
theorem ga_if_gt {x : Int32} {off : Int} {tgt : Nat} {o2 : ga_O} (d : decode cc pc = .ok (.ifCond .gt off, 3)) (ht : (pc : Int) + off = (tgt : Int)) (k1 : 0 < x → ga_J l S0 D cl tA base b xn p e R s m args below meth c nL Ts own cc ret tb mn fr lo fl ad0 w0 Q tgt lv st w o) (k2 : ¬ (0 < x) → ga_J l S0 D cl tA base b xn p e R s m args below meth c nL Ts own cc ret tb mn fr lo fl ad0 w0 Q (pc + 3) lv st w o2) : ga_J l S0 D cl tA base b xn p e R s m args below meth c nL Ts own cc ret tb mn fr lo fl ad0 w0 Q pc lv (.int x :: st) w (if 0 < x then o else o2) := by
  by_cases hc : 0 < x
  · rw [if_pos hc]
    exact ga_of (fun B _ _ _ _ _ _ _ _ kk => lv_if_gt B.1 B.2.1 d ht (fun _ => kk) (fun z => absurd hc z)) (k1 hc)
  · rw [if_neg hc]
    exact ga_of (fun B _ _ _ _ _ _ _ _ kk => lv_if_gt B.1 B.2.1 d ht (fun z => absurd z hc) (fun _ => kk)) (k2 hc)
theorem ga_icmp_gt {x y : Int32} {off : Int} {tgt : Nat} {o2 : ga_O} (d : decode cc pc = .ok (.if_icmp .gt off, 3)) (ht : (pc : Int) + off = (tgt : Int)) (k1 : y < x → ga_J l S0 D cl tA base b xn p e R s m args below meth c nL Ts own cc ret tb mn fr lo fl ad0 w0 Q tgt lv st w o) (k2 : ¬ (y < x) → ga_J l S0 D cl tA base b xn p e R s m args below meth c nL Ts own cc ret tb mn fr lo fl ad0 w0 Q (pc + 3) lv st w o2) : ga_J l S0 D cl tA base b xn p e R s m args below meth c nL Ts own cc ret tb mn fr lo fl ad0 w0 Q pc lv (.int y :: .int x :: st) w (if y < x then o else o2) := by
  by_cases hc : y < x
  · rw [if_pos hc]
    exact ga_of (fun B _ _ _ _ _ _ _ _ kk => lv_icmp_gt B.1 B.2.1 d ht (fun _ => kk) (fun z => absurd hc z)) (k1 hc)
  · rw [if_neg hc]
    exact ga_of (fun B _ _ _ _ _ _ _ _ kk => lv_icmp_gt B.1 B.2.1 d ht (fun z => absurd z hc) (fun _ => kk)) (k2 hc)
theorem ga_if_le {x : Int32} {off : Int} {tgt : Nat} {o2 : ga_O} (d : decode cc pc = .ok (.ifCond .le off, 3)) (ht : (pc : Int) + off = (tgt : Int)) (k1 : x ≤ 0 → ga_J l S0 D cl tA base b xn p e R s m args below meth c nL Ts own cc ret tb mn fr lo fl ad0 w0 Q tgt lv st w o) (k2 : ¬ (x ≤ 0) → ga_J l S0 D cl tA base b xn p e R s m args below meth c nL Ts own cc ret tb mn fr lo fl ad0 w0 Q (pc + 3) lv st w o2) : ga_J l S0 D cl tA base b xn p e R s m args below meth c nL Ts own cc ret tb mn fr lo fl ad0 w0 Q pc lv (.int x :: st) w (if x ≤ 0 then o else o2) := by
  by_cases hc : x ≤ 0
  · rw [if_pos hc]
    exact ga_of (fun B _ _ _ _ _ _ _ _ kk => lv_if_le B.1 B.2.1 d ht (fun _ => kk) (fun z => absurd hc z)) (k1 hc)
  · rw [if_neg hc]
    exact ga_of (fun B _ _ _ _ _ _ _ _ kk => lv_if_le B.1 B.2.1 d ht (fun z => absurd z hc) (fun _ => kk)) (k2 hc)
theorem ga_icmp_le {x y : Int32} {off : Int} {tgt : Nat} {o2 : ga_O} (d : decode cc pc = .ok (.if_icmp .le off, 3)) (ht : (pc : Int) + off = (tgt : Int)) (k1 : x ≤ y → ga_J l S0 D cl tA base b xn p e R s m args below meth c nL Ts own cc ret tb mn fr lo fl ad0 w0 Q tgt lv st w o) (k2 : ¬ (x ≤ y) → ga_J l S0 D cl tA base b xn p e R s m args below meth c nL Ts own cc ret tb mn fr lo fl ad0 w0 Q (pc + 3) lv st w o2) : ga_J l S0 D cl tA base b xn p e R s m args below meth c nL Ts own cc ret tb mn fr lo fl ad0 w0 Q pc lv (.int y :: .int x :: st) w (if x ≤ y then o else o2) := by
  by_cases hc : x ≤ y
  · rw [if_pos hc]
    exact ga_of (fun B _ _ _ _ _ _ _ _ kk => lv_icmp_le B.1 B.2.1 d ht (fun _ => kk) (fun z => absurd hc z)) (k1 hc)
  · rw [if_neg hc]
    exact ga_of (fun B _ _ _ _ _ _ _ _ kk => lv_icmp_le B.1 B.2.1 d ht (fun z => absurd z hc) (fun _ => kk)) (k2 hc)
theorem ga_if_ne {x : Int32} {off : Int} {tgt : Nat} {o2 : ga_O} (d : decode cc pc = .ok (.ifCond .ne off, 3)) (ht : (pc : Int) + off = (tgt : Int)) (k1 : x = 0 → ga_J l S0 D cl tA base b xn p e R s m args below meth c nL Ts own cc ret tb mn fr lo fl ad0 w0 Q (pc + 3) lv st w o) (k2 : ¬ (x = 0) → ga_J l S0 D cl tA base b xn p e R s m args below meth c nL Ts own cc ret tb mn fr lo fl ad0 w0 Q tgt lv st w o2) : ga_J l S0 D cl tA base b xn p e R s m args below meth c nL Ts own cc ret tb mn fr lo fl ad0 w0 Q pc lv (.int x :: st) w (if x = 0 then o else o2) := by
  by_cases hc : x = 0
  · rw [if_pos hc]
    exact ga_of (fun B _ _ _ _ _ _ _ _ kk => lv_if_ne B.1 B.2.1 d ht (fun z => absurd hc z) (fun _ => kk)) (k1 hc)
  · rw [if_neg hc]
    exact ga_of (fun B _ _ _ _ _ _ _ _ kk => lv_if_ne B.1 B.2.1 d ht (fun _ => kk) (fun z => absurd z hc)) (k2 hc)
theorem ga_icmp_ne {x y : Int32} {off : Int} {tgt : Nat} {o2 : ga_O} (d : decode cc pc = .ok (.if_icmp .ne off, 3)) (ht : (pc : Int) + off = (tgt : Int)) (k1 : x = y → ga_J l S0 D cl tA base b xn p e R s m args below meth c nL Ts own cc ret tb mn fr lo fl ad0 w0 Q (pc + 3) lv st w o) (k2 : ¬ (x = y) → ga_J l S0 D cl tA base b xn p e R s m args below meth c nL Ts own cc ret tb mn fr lo fl ad0 w0 Q tgt lv st w o2) : ga_J l S0 D cl tA base b xn p e R s m args below meth c nL Ts own cc ret tb mn fr lo fl ad0 w0 Q pc lv (.int y :: .int x :: st) w (if x = y then o else o2) := by
  by_cases hc : x = y
  · rw [if_pos hc]
    exact ga_of (fun B _ _ _ _ _ _ _ _ kk => lv_icmp_ne B.1 B.2.1 d ht (fun z => absurd hc z) (fun _ => kk)) (k1 hc)
  · rw [if_neg hc]
    exact ga_of (fun B _ _ _ _ _ _ _ _ kk => lv_icmp_ne B.1 B.2.1 d ht (fun _ => kk) (fun z => absurd z hc)) (k2 hc)
theorem ga_goto {off : Int} {tgt : Nat} (d : decode cc pc = .ok (.goto off, 3)) (ht : (pc : Int) + off = (tgt : Int)) (k : ga_J l S0 D cl tA base b xn p e R s m args below meth c nL Ts own cc ret tb mn fr lo fl ad0 w0 Q tgt lv st w o) : ga_J l S0 D cl tA base b xn p e R s m args below meth c nL Ts own cc ret tb mn fr lo fl ad0 w0 Q pc lv st w o :=
  ga_of (fun B _ _ _ _ _ _ _ _ kk => lv_goto B.1 B.2.1 d ht kk) k
theorem ga_tabIn {dflt low hi : Int} {offs : Array Int} {len tgt : Nat} {x : Int32} {off : Int} (d : decode cc pc = .ok (.tableswitch dflt low hi offs, len)) (h1 : ¬ x.toInt < low) (h2 : ¬ hi < x.toInt) (ho : offs[(x.toInt - low).toNat]? = some off) (ht : (pc : Int) + off = (tgt : Int)) (k : ga_J l S0 D cl tA base b xn p e R s m args below meth c nL Ts own cc ret tb mn fr lo fl ad0 w0 Q tgt lv st w o) : ga_J l S0 D cl tA base b xn p e R s m args below meth c nL Ts own cc ret tb mn fr lo fl ad0 w0 Q pc lv (.int x :: st) w o :=
  ga_of (fun B _ _ _ _ _ _ _ _ kk => lv_tableIn B.1 B.2.1 d h1 h2 ho ht kk) k
theorem ga_tabOut {dflt low hi : Int} {offs : Array Int} {len tgt : Nat} {x : Int32} (d : decode cc pc = .ok (.tableswitch dflt low hi offs, len)) (h : x.toInt < low ∨ hi < x.toInt) (ht : (pc : Int) + dflt = (tgt : Int)) (k : ga_J l S0 D cl tA base b xn p e R s m args below meth c nL Ts own cc ret tb mn fr lo fl ad0 w0 Q tgt lv st w o) : ga_J l S0 D cl tA base b xn p e R s m args below meth c nL Ts own cc ret tb mn fr lo fl ad0 w0 Q pc lv (.int x :: st) w o :=
  ga_of (fun B _ _ _ _ _ _ _ _ kk => lv_tableOut B.1 B.2.1 d h ht kk) k
theorem ga_lookup {dflt : Int} {ps : Array (Int × Int)} {len tgt : Nat} {x : Int32} {off : Int} (d : decode cc pc = .ok (.lookupswitch dflt ps, len)) (hp : (ps.toList.zip (ps.toList.drop 1)).all (fun (a, next) => a.1 < next.1) = true) (ho : Op.lookupswitch.offset ps.toList dflt x.toInt = off) (ht : (pc : Int) + off = (tgt : Int)) (k : ga_J l S0 D cl tA base b xn p e R s m args below meth c nL Ts own cc ret tb mn fr lo fl ad0 w0 Q tgt lv st w o) : ga_J l S0 D cl tA base b xn p e R s m args below meth c nL Ts own cc ret tb mn fr lo fl ad0 w0 Q pc lv (.int x :: st) w o :=
  ga_of (fun B _ _ _ _ _ _ _ _ kk => lv_lookup B.1 B.2.1 d hp ho ht kk) k
end GA
