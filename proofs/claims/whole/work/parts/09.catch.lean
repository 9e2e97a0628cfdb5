/-! CATCH, AND A METHOD WITH HANDLERS -/
/-- the search through the table ends with h and leaves the tables vm' -/
def ga_Fd (e : Env) (S : State) (f : JFrame) (a : Addr) (t : List ExceptionTableEntry) (h : Handler) (vm' : Vm) : Prop :=
  ∀ (Q : Handler → Pre) (E : CtlPost) (d : Bool) (acts : List Action), wp (findHandler.go f a t) Q E e d acts S ↔ Q h d acts (S.setVm vm')
section GH
variable {l : Launch} {S0 : State} {D : va_G} {cl : List vw_C} {tA : List (ClassId × FieldType)} {base b : Nat} {xn : Nat → String} {p : Program} {e : Env} {R : Room} {s : State} {m : MethodId} {args : Array Value} {below : List Frame} {meth : Method} {c : Code} {nL : Nat} {Ts : List Cond} {own : String} {cc : ByteArray} {ret : Option FieldType} {tb : List ExceptionTableEntry} {mn : String} {fr lo : Nat} {fl : Bool} {ad0 : Nat → Nat} {w0 : ga_W} {Q : ga_R → ga_W → State → Prop}
variable {pc : Nat} {lv : List (Nat × Value)} {st : List Value} {w : ga_W} {o : ga_O}
/-- one row that covers the place and names a class: cold or warm, it takes the thing or lets it by -/
theorem ga_row {S : State} {f : JFrame} {a : Addr} {cell : Cell} {z : ExceptionTableEntry} {t : List ExceptionTableEntry} {k : ClassId} (hx : covers z f.pc = true) (h0 : z.catchType ≠ 0) (hl : S.vm.ClassLinks e.platform f.method.cls z.catchType k) (hcell : S.heap[a]? = some cell) (hobj : ∀ j, cell.vm ≠ .statics j) (hk : ∃ j, S.vm.classes[cell.cls]? = some j) (Q : Handler → Pre) (E : CtlPost) (d : Bool) (acts : List Action) :
    wp (findHandler.go f a (z :: t)) Q E e d acts S ↔ if S.vm.assignable cell.cls k = true then Q (.found z.handlerPc) d acts (S.setVm (S.vm.noted f.method.cls z.catchType (.cls k))) else wp (findHandler.go f a t) Q E e d acts (S.setVm (S.vm.noted f.method.cls z.catchType (.cls k))) := by
  simp only [covers] at hx
  obtain ⟨ha, ht⟩ := (resolveClass_links e.toSetting hl).op (op := VmOp.resolveClass f.method.cls z.catchType) rfl
  have al : S.vm.Alike (S.vm.noted f.method.cls z.catchType (.cls k)) := (Vm.Alike.refl S.vm).noted _ _ _
  obtain ⟨j1, hj1⟩ := hk
  obtain ⟨-, -, -, j2, -, -, -, -, -, hj2, -, -⟩ := hl.here
  obtain ⟨j1', hj1', -⟩ := al.2.2 _ _ hj1
  obtain ⟨j2', hj2', -⟩ := al.2.2 _ _ hj2
  cases hfit : S.vm.assignable cell.cls k with
  | true =>
    have hf' : (S.vm.noted f.method.cls z.catchType (.cls k)).assignable cell.cls k = true := by rw [al.assignable]; exact hfit
    simp [findHandler.go, hx, h0, ha, ht, hcell, hobj, hj1', hj2', hf', VmOp.dirties, VmOp.acts]
  | false =>
    have hf' : (S.vm.noted f.method.cls z.catchType (.cls k)).assignable cell.cls k = false := by rw [al.assignable]; exact hfit
    simp [findHandler.go, hx, h0, ha, ht, hcell, hobj, hj1', hj2', hf', VmOp.dirties, VmOp.acts]
/-- rows that let it by, then one that takes it -/
theorem ga_seek {f : JFrame} {a : Addr} {cell : Cell} {z : ExceptionTableEntry} {suf : List ExceptionTableEntry} {kz : ClassId} (hobj : ∀ j, cell.vm ≠ .statics j) (hk : ∃ j, s.vm.classes[cell.cls]? = some j) (hx : covers z f.pc = true) (h0 : z.catchType ≠ 0) (hl : s.vm.ClassLinks e.platform f.method.cls z.catchType kz) (hfit : s.vm.assignable cell.cls kz = true) :
    ∀ (pre : List ExceptionTableEntry) (S : State), s.WarmedH S.vm → S.heap[a]? = some cell → (∀ y ∈ pre, covers y f.pc = false ∨ (y.catchType ≠ 0 ∧ ∃ k, s.vm.ClassLinks e.platform f.method.cls y.catchType k ∧ s.vm.assignable cell.cls k = false)) →
      ∃ vm', s.WarmedH vm' ∧ ga_Fd e S f a (pre ++ z :: suf) (.found z.handlerPc) vm' := by
  obtain ⟨j, hj⟩ := hk
  intro pre
  induction pre with
  | nil =>
    intro S hW hcell _
    obtain ⟨j', hj', -⟩ := hW.alike.2.2 _ _ hj
    obtain ⟨-, hw, -⟩ := State.classEntry (e := e) hW hl
    refine ⟨_, hw, fun Q E d acts => ?_⟩
    rw [List.nil_append, ga_row hx h0 (hW.classLinks hl) hcell hobj ⟨j', hj'⟩, if_pos (by rw [hW.alike.assignable]; exact hfit)]
  | cons y ys ih =>
    intro S hW hcell hpass
    have hrest := fun z hz => hpass z (List.mem_cons_of_mem _ hz)
    by_cases hcov : covers y f.pc = true
    · rcases hpass y List.mem_cons_self with h | ⟨hy0, k, hyl, hno⟩
      · rw [h] at hcov; cases hcov
      · obtain ⟨j', hj', -⟩ := hW.alike.2.2 _ _ hj
        obtain ⟨-, hw, -⟩ := State.classEntry (e := e) hW hyl
        obtain ⟨vm', hW', hq⟩ := ih (S.setVm (S.vm.noted f.method.cls y.catchType (.cls k))) hw hcell hrest
        refine ⟨vm', hW', fun Q E d acts => ?_⟩
        rw [List.cons_append, ga_row hcov hy0 (hW.classLinks hyl) hcell hobj ⟨j', hj'⟩, if_neg (by rw [hW.alike.assignable, hno]; decide)]
        exact hq Q E d acts
    · obtain ⟨vm', hW', hq⟩ := ih S hW hcell hrest
      refine ⟨vm', hW', fun Q E d acts => ?_⟩
      rw [List.cons_append, Jvm.W.findHandler_go_skip (by simpa using hcov)]
      exact hq Q E d acts
/-- into the handler -/
theorem ga_into {T target : State} {g : JFrame} {q : Addr} {pc2 : Nat} {vm' : Vm} (h : At T g.method c below) (hm : T.vm.method? g.method = some meth) (hc : meth.code = some c) (hf : ga_Fd e ((T.setTop g).pushFrame (.throwing q)) g q c.exceptionTable.toList (.found pc2) vm')
    (hrest : Steps p.tables e below ((T.setVm vm').setTop { g with pc := pc2, stack := [.ref q] }) target) : Steps p.tables e below ((T.setTop g).pushFrame (.throwing q)) target := by
  obtain ⟨hgo, hw⟩ := h.throwing q
  refine Steps.head hgo hw ?_
  have hstep : (stepThrowing e ((T.setTop g).pushFrame (.throwing q)) q (.java g :: T.frames.tail)).Is ((((T.setTop g).pushFrame (.throwing q)).setVm vm').setFrames (.java { g with pc := pc2, stack := [.ref q] } :: T.frames.tail)) [] := by
    have hm' : ((T.setTop g).pushFrame (.throwing q)).vm.method? g.method = some meth := by simpa [State.pushFrame, State.setFrames] using hm
    simp only [stepThrowing, searchFrame, vmDo]
    generalize hr : Sem.go _ e false [] ((T.setTop g).pushFrame (.throwing q)) = res
    obtain ⟨as, rfl, ha⟩ := Sem.eq_ok_of hr (a := Handler.found pc2) (s' := ((T.setTop g).pushFrame (.throwing q)).setVm vm') (acts' := []) (by simp [Jvm.W.findHandler_eq hm' hc, hf _ _ _ _])
    exact ⟨rfl, ha⟩
  rw [stepThread_throwing (frames_entered h.top _), hstep.1]
  obtain ⟨g₀, hg⟩ := Option.isSome_iff_exists.mp h.top
  obtain ⟨r, hr⟩ := State.topJava?_eq_some.mp hg
  have hr' : (T.setVm vm').frames = .java g₀ :: r := hr
  have e1 : ∀ (V : State) (F G : List Frame), ((V.setFrames F).setVm vm').setFrames G = (V.setVm vm').setFrames G := fun V F G => by
    have z : (V.setFrames F).setVm vm' = (V.setVm vm').setFrames F := rfl
    rw [z, State.setFrames_setFrames]
  rw [State.setTop_of_frames _ hr'] at hrest
  rw [hr, List.tail_cons, State.pushFrame, e1, State.setTop_of_frames _ hr, e1]
  exact hrest
/-- the handler's first row lays the exception into a local that nobody reads again -/
theorem ga_catch {x i : Nat} {j : Fin 4} {lv2 : List (Nat × Value)} (pre : List ExceptionTableEntry) (z : ExceptionTableEntry) (suf : List ExceptionTableEntry) (htl : tb = pre ++ z :: suf) (hpass : ∀ y ∈ pre, covers y pc = false ∨ (y.catchType ≠ 0 ∧ ∃ nm : String, Cond.classLink own y.catchType nm ∈ Ts ∧ ∀ (S : State) (b : Nat), ga_0 S b → (Cond.not (.castable (xn x) nm)).before #[Value.ref b] S = true)) (hcov : covers z pc = true) (h0 : z.catchType ≠ 0)
    (hl : Cond.classLink own z.catchType (xn x) ∈ Ts) (hcast : Cond.castable (xn x) (xn x) ∈ lw_tbl) (d : decode cc z.handlerPc = .ok (.astore_n j, 1)) (hi : (j : Nat) = i) (hn : i < nL) (h2 : (ga_s1 lv i .null).tail = lv2) (k : ga_J l S0 D cl tA base b xn p e R s m args below meth c nL Ts own cc ret tb mn fr lo fl ad0 w0 Q (z.handlerPc + 1) lv2 [] w o) : ga_JX l S0 D cl tA base b xn p e R s m args below meth c nL Ts own cc ret tb mn fr lo fl ad0 w0 Q pc lv x w o := by
  intro r w' ho
  obtain ⟨g1, g4⟩ := k r w' ho
  refine ⟨g1, fun B a1 a2 a3 a4 ad H locs ls rest ce q x1 x2 x3 x4 hce hcv hcl => ?_⟩
  have kk := g4 B a1 a2 a3 a4 ad H locs
  obtain ⟨hx, hb, hml, hr, hown, hts, hlk, hbs, hK, hZ, htb, hmn, hfr, hlo, hst, h00⟩ := B
  intro T hT X
  have hpl : e.platform.magicAccessors = ({} : Platform).magicAccessors := by rw [X.admits.platform]
  obtain ⟨kz, hkz, hlz⟩ := Cond.classLink_spec hown (hts _ hl) e.platform hpl
  cases Option.some.inj (hcl.symm.trans hkz)
  obtain ⟨c3, c4, hc3, hc4, hasg⟩ := Cond.castable_spec (ga_word (args := args) (U := s) h00 hZ.2.1 hcast rfl)
  cases Option.some.inj (hc3.symm.trans hcl)
  cases Option.some.inj (hc4.symm.trans hcl)
  obtain ⟨vm', hW', hfd⟩ := ga_seek (e := e) (s := s) (f := F0 m pc ls rest) (a := q) (cell := ce) (z := z) (suf := suf) (fun j h => by rw [hcv] at h; cases h) (by obtain ⟨k9, h9, -⟩ := Vm.findClass_spec hcl; exact ⟨k9, h9⟩) hcov h0 hlz hasg pre ((T.setTop (F0 m pc ls rest)).pushFrame (.throwing q)) (by rw [throwing_vm]; exact X.warmed) (by rw [throwing_heap, hT]; exact hce)
    (fun y hy => by
      rcases hpass y hy with h | ⟨hy0, nm, hnl, hno⟩
      · exact Or.inl h
      · obtain ⟨k6, hk6, hl6⟩ := Cond.classLink_spec hown (hts _ hnl) e.platform hpl
        obtain ⟨a8, b8, h1, h2, h3⟩ := va_Nc.moved hZ.2.1.alike (va_Nc.of (hno S0 b h00))
        cases Option.some.inj (h1.symm.trans hcl)
        cases Option.some.inj (h2.symm.trans hk6)
        exact Or.inr ⟨hy0, _, hl6, h3⟩)
  rw [← htl, ← htb] at hfd
  have hWd : W p l e R s m args below meth c H locs (w.2.1 - w0.2.1) (w.2.2 - w0.2.2) (Q r w') (F0 m z.handlerPc ls [.ref q]) := by
    refine lv_astore_n hx hb d hi x4 hn rfl (fun ls2 hl2 => ?_)
    refine kk ls2 x1 x2 x3 ⟨hl2.1, hl2.2.1, fun u hu => hl2.2.2 u (List.mem_cons_of_mem _ ?_)⟩
    have e1 := congrArg List.tail (ga_s1_l b ad lv i .null)
    rw [← h2] at hu
    simp only [List.tail_cons] at e1
    rw [e1]
    simpa [ga_l, List.map_tail] using hu
  obtain ⟨t, a9, b9⟩ := hWd (T.setVm vm') hT (X.noted hW')
  exact ⟨t, ga_into (h := X.here) (hm := X.method') (hc := X.code) hfd a9, b9⟩
/-- the handler's first row lays the exception into a local that nobody reads again -/
theorem ga_catchA {x i : Nat} {lv2 : List (Nat × Value)} (pre : List ExceptionTableEntry) (z : ExceptionTableEntry) (suf : List ExceptionTableEntry) (htl : tb = pre ++ z :: suf) (hpass : ∀ y ∈ pre, covers y pc = false ∨ (y.catchType ≠ 0 ∧ ∃ nm : String, Cond.classLink own y.catchType nm ∈ Ts ∧ ∀ (S : State) (b : Nat), ga_0 S b → (Cond.not (.castable (xn x) nm)).before #[Value.ref b] S = true)) (hcov : covers z pc = true) (h0 : z.catchType ≠ 0)
    (hl : Cond.classLink own z.catchType (xn x) ∈ Ts) (hcast : Cond.castable (xn x) (xn x) ∈ lw_tbl) (d : decode cc z.handlerPc = .ok (.astore i, 2)) (hn : i < nL) (h2 : (ga_s1 lv i .null).tail = lv2) (k : ga_J l S0 D cl tA base b xn p e R s m args below meth c nL Ts own cc ret tb mn fr lo fl ad0 w0 Q (z.handlerPc + 2) lv2 [] w o) : ga_JX l S0 D cl tA base b xn p e R s m args below meth c nL Ts own cc ret tb mn fr lo fl ad0 w0 Q pc lv x w o := by
  intro r w' ho
  obtain ⟨g1, g4⟩ := k r w' ho
  refine ⟨g1, fun B a1 a2 a3 a4 ad H locs ls rest ce q x1 x2 x3 x4 hce hcv hcl => ?_⟩
  have kk := g4 B a1 a2 a3 a4 ad H locs
  obtain ⟨hx, hb, hml, hr, hown, hts, hlk, hbs, hK, hZ, htb, hmn, hfr, hlo, hst, h00⟩ := B
  intro T hT X
  have hpl : e.platform.magicAccessors = ({} : Platform).magicAccessors := by rw [X.admits.platform]
  obtain ⟨kz, hkz, hlz⟩ := Cond.classLink_spec hown (hts _ hl) e.platform hpl
  cases Option.some.inj (hcl.symm.trans hkz)
  obtain ⟨c3, c4, hc3, hc4, hasg⟩ := Cond.castable_spec (ga_word (args := args) (U := s) h00 hZ.2.1 hcast rfl)
  cases Option.some.inj (hc3.symm.trans hcl)
  cases Option.some.inj (hc4.symm.trans hcl)
  obtain ⟨vm', hW', hfd⟩ := ga_seek (e := e) (s := s) (f := F0 m pc ls rest) (a := q) (cell := ce) (z := z) (suf := suf) (fun j h => by rw [hcv] at h; cases h) (by obtain ⟨k9, h9, -⟩ := Vm.findClass_spec hcl; exact ⟨k9, h9⟩) hcov h0 hlz hasg pre ((T.setTop (F0 m pc ls rest)).pushFrame (.throwing q)) (by rw [throwing_vm]; exact X.warmed) (by rw [throwing_heap, hT]; exact hce)
    (fun y hy => by
      rcases hpass y hy with h | ⟨hy0, nm, hnl, hno⟩
      · exact Or.inl h
      · obtain ⟨k6, hk6, hl6⟩ := Cond.classLink_spec hown (hts _ hnl) e.platform hpl
        obtain ⟨a8, b8, h1, h2, h3⟩ := va_Nc.moved hZ.2.1.alike (va_Nc.of (hno S0 b h00))
        cases Option.some.inj (h1.symm.trans hcl)
        cases Option.some.inj (h2.symm.trans hk6)
        exact Or.inr ⟨hy0, _, hl6, h3⟩)
  rw [← htl, ← htb] at hfd
  have hWd : W p l e R s m args below meth c H locs (w.2.1 - w0.2.1) (w.2.2 - w0.2.2) (Q r w') (F0 m z.handlerPc ls [.ref q]) := by
    refine lv_astore hx hb d x4 hn rfl (fun ls2 hl2 => ?_)
    refine kk ls2 x1 x2 x3 ⟨hl2.1, hl2.2.1, fun u hu => hl2.2.2 u (List.mem_cons_of_mem _ ?_)⟩
    have e1 := congrArg List.tail (ga_s1_l b ad lv i .null)
    rw [← h2] at hu
    simp only [List.tail_cons] at e1
    rw [e1]
    simpa [ga_l, List.map_tail] using hu
  obtain ⟨t, a9, b9⟩ := hWd (T.setVm vm') hT (X.noted hW')
  exact ⟨t, ga_into (h := X.here) (hm := X.method') (hc := X.code) hfd a9, b9⟩
/-- a method with handlers, from its body -/
theorem ga_enterH {y : MethodName} {ws ws' : List Cond} {maxL : Nat} {av : List Value} {hh : List (Nat × Nat × Nat × Nat)} (hst : l.stackTraces = false) (hy : plainName y.cls = true) (hw : ws = Cond.codeWith y cc maxL ret hh :: ws') (hsl : (lg_sl av).length ≤ maxL)
    (body : ∀ (p : Program) (e : Env) (R : Room) (s : State) (m : MethodId) (args : Array Value) (below : List Frame) (meth : Method) (c : Code) (ad0 : Nat → Nat), ga_J l S0 D cl tA base b xn p e R s m args below meth c maxL ws y.cls cc ret (tableOf hh) y.name fr lo fl ad0 w (ga_MQ xn D cl tA base b s args below ad0 w) 0 (lv_args 0 av) [] w o) : ga_M l S0 D cl tA base b xn y ws fr lo fl av w o := by
  intro r w' ho
  refine ⟨fun p e R s m args below meth c => (body p e R s m args below meth c (fun k => k) r w' ho).1, fun ad => ?_⟩
  have key : ∀ (p : Program) (e : Env) (s : State) (m : MethodId) (args : Array Value) (below : List Frame) (meth : Method) (c : Code) (s₁ : State), BodyLoose p l y (headSpec ws { frames := fr, cells := w'.2.1 - w.2.1, slots := w'.2.2 - w.2.2, locals := lo }) cc maxL ret e s m args below meth c s₁ → c.maxLocals = maxL → (va_Pc (av.map (ga_v b ad)) (fun U => ga_P S0 D cl tA base b ad w U)) args s →
      W p l e (headSpec ws { frames := fr, cells := w'.2.1 - w.2.1, slots := w'.2.2 - w.2.2, locals := lo }).room s m args below meth c s.heap [] 0 0 (ga_MQ xn D cl tA base b s args below ad w r w') (entryFrame m args maxL) := by
    intro p e s m args below meth c s₁ B hml hv
    obtain ⟨rfl, hbs, hK, hZ, h00, hH⟩ := hv
    obtain ⟨-, h4⟩ := body p e (headSpec ws { frames := fr, cells := w'.2.1 - w.2.1, slots := w'.2.2 - w.2.2, locals := lo }).room s m _ below meth c ad r w' ho
    have hname : meth.name = y.name := (name_of_methodNamed B.named B.method).1
    have htab : c.exceptionTable.toList = tableOf hh := by
      obtain ⟨m9, meth9, c9, hn9, g1, g2, -, -, g6, -⟩ := Cond.codeWith_spec (atoms_spec (ws := ws) B.pre _ (by rw [hw]; exact List.mem_cons_self))
      cases Option.some.inj (hn9.symm.trans B.named)
      cases Option.some.inj (g1.symm.trans B.method)
      cases Option.some.inj (g2.symm.trans (Stand.of_body B).code)
      rw [← g6, table_eq]
    have hB : ga_B l S0 D cl tA base b p (headSpec ws { frames := fr, cells := w'.2.1 - w.2.1, slots := w'.2.2 - w.2.2, locals := lo }).room s m ((av.map (ga_v b ad)).toArray) meth c maxL ws y.cls cc ret (tableOf hh) y.name fr lo :=
      ⟨B.exec, B.bytes, hml, B.returns, findClass_of_methodNamed B.named, atoms_spec (ws := ws) B.pre, B.notSynchronized, hbs, hK, hZ, htab, hname, Nat.le_refl _, Nat.le_refl _, hst, h00⟩
    have hl := lv_entry (av.map (ga_v b ad)) (n := maxL) (by rw [ga_sl_len]; exact hsl)
    rw [ga_l_args] at hl
    have hh9 := h4 hB (Nat.le_refl _) (Nat.le_refl _) (by show w'.2.1 ≤ w.2.1 + (w'.2.1 - w.2.1); omega) (by show w'.2.2 ≤ w.2.2 + (w'.2.2 - w.2.2); omega) ad s.heap [] _ ga_X.rf hH va_S.rf hl
    rw [Nat.sub_self, Nat.sub_self] at hh9
    rw [lg_entry_eq]
    exact hh9
  cases r with
  | inl v => exact va_MetW (cc := cc) (maxL := maxL) (ret := ret) hy hw key
  | inr x =>
    refine MetFree.of_bodyS (code := cc) (maxLocals := maxL) (ret := ret) hy ?_ ?_
    · intro args s m h hn
      obtain ⟨m9, meth, c, hn9, h1, h2, h3, h4, -, h5, h6, -⟩ := Cond.codeWith_spec (atoms_spec (ws := ws) h _ (by rw [hw]; exact List.mem_cons_self))
      cases hn.symm.trans hn9
      exact ⟨meth, c, h1, h2, h3, h4, h5, h6⟩
    · intro p e s m args below meth c s₁ B hml hP _
      have hh0 : s₁.heap = s.heap := by rw [B.state]; rfl
      obtain ⟨t, a1, oc, b1, b2, b3⟩ := key p e s m args below meth c s₁ B hml hP s₁ hh0 (Stand.of_body B)
      exact ⟨t, oc, a1, b1, b2, b3⟩
end GH
