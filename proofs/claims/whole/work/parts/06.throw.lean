/-! A CALL THAT ENDS IN AN EXCEPTION -/
section GE
variable {l : Launch} {S0 : State} {D : va_G} {cl : List vw_C} {tA : List (ClassId × FieldType)} {base b : Nat} {xn : Nat → String} {p : Program} {e : Env} {R : Room} {s : State} {m : MethodId} {args : Array Value} {below : List Frame} {meth : Method} {c : Code} {nL : Nat} {Ts : List Cond} {own : String} {cc : ByteArray} {ret : Option FieldType} {tb : List ExceptionTableEntry} {mn : String} {fr lo : Nat} {fl : Bool} {ad0 : Nat → Nat} {w0 : ga_W} {Q : ga_R → ga_W → State → Prop}
variable {pc : Nat} {lv : List (Nat × Value)} {st : List Value} {w : ga_W} {o : ga_O}
theorem ga_backT {y : MethodName} {ws : List Cond} {fr1 lo1 mc ms maxL n0 x : Nat} {ad : Nat → Nat} {w1 : ga_W} {bytes : ByteArray} {ret1 : Option FieldType} {Pc : Array Value → State → Prop} (hM : MetFree l y (headSpec ws { frames := fr1, cells := mc, slots := ms, locals := lo1 }) Pc (fun _ _ _ _ _ => True) (ga_Tq xn D cl tA base b ad n0 x w1 mc ms))
    {U : State} {locs : List Loc} {k n : Nat} (X : Stand p l e R s m args below meth c U locs k n) {g : JFrame} (hg : g.method = m) (hsize : g.locals.size = c.maxLocals) {ig : Instr} {len : Nat} (hdg : decode c.code g.pc = .ok (ig, len)) (hW : 2 * g.monitorRoom + (g.stack.map fun v => v.category).sum ≤ 8)
    {mk : MethodId} {a : Array Value} (hn : U.methodNamed? y = some mk) (h1 : (headSpec ws { frames := fr1, cells := mc, slots := ms, locals := lo1 }).pre.before a U = true) (h2 : (Cond.code y bytes maxL ret1).before a U = true) (h3 : (Cond.initialized y.cls).before a U = true) (hfr : fr1 + 1 ≤ R.frames) (hlo : 8 + (maxL + 11) + lo1 ≤ R.locals) (h4 : k + mc ≤ R.cells) (h5 : n + ms ≤ R.slots) (hP : Pc a (U.calling g mk a)) :
    ∃ (q : Addr) (ce : Cell) (T' : State) (L : List Loc) (ad' : Nat → Nat), Stand p l e R s m args below meth c T' (locs ++ L) (k + mc) (n + ms) ∧ (∀ z ∈ L, base ≤ z.base) ∧
      T'.heap[q]? = some ce ∧ ce.vm = .none ∧ U.vm.findClass (xn x) = some ce.cls ∧ ga_X n0 ad w1.1.length ad' ∧ ga_H D cl tA base b ad' w1.1 T'.heap ∧ U.heap.size ≤ T'.heap.size ∧ (∀ z : Nat, z < U.heap.size → ¬ base ≤ z → T'.heap[z]? = U.heap[z]?) ∧
      Steps p.tables e below (doInvoke e (U.setTop g) [] mk a).1 ((T'.setTop g).pushFrame (.throwing q)) := by
  obtain ⟨methY, cY, hmY, hcY, -, hlY, -, -, -, -⟩ := Cond.code_spec hn h2
  obtain ⟨kY, hkY, -⟩ := className_of_methodNamed hn
  have hinitY : kY.init = .initialized := Cond.initialized_spec (findClass_of_methodNamed hn) hkY h3
  have h : At U g.method c below := by rw [hg]; exact X.here
  have hroom : (U.calling g mk a).hasRoom e.platform (headSpec ws { frames := fr1, cells := mc, slots := ms, locals := lo1 }).room = true := X.room_calling (g := g) (R' := (headSpec ws { frames := fr1, cells := mc, slots := ms, locals := lo1 }).room) hsize hmY hcY hfr (by rw [hlY]; show _ + (maxL + 11) + lo1 ≤ R.locals; omega) h4 h5
  have happ : (headSpec ws { frames := fr1, cells := mc, slots := ms, locals := lo1 }).appliesLoose y e.platform (U.calling g mk a) = true := Spec.appliesLoose_calling (g := g) h hdg hn hkY hinitY hroom h1
  obtain ⟨mid, hmid⟩ := h.above
  have hfrm : (U.setTop g).frames = (.java g :: mid) ++ below := by rw [State.frames_setTop' g h.top, hmid]; rfl
  obtain ⟨oc, t, hsteps, -, hend, hq⟩ := Steps.callFree hM p X.admits X.cas X.clock (acts := []) hfrm happ hP trivial
  have hq' : ga_Tq xn D cl tA base b ad n0 x w1 mc ms a (U.calling g mk a) oc t := hq
  obtain ⟨q, ce, L, ad', rfl, hce, hcv, hcl, hWt, hsm, hL, hX, hH, hF⟩ := hq'
  rw [State.frames_setTop' g h.top] at hend
  have hfr2 : t.frames = .throwing q :: .java g :: U.frames.tail := hend
  obtain ⟨g₀, hg0⟩ := Option.isSome_iff_exists.mp h.top
  obtain ⟨r, hr⟩ := State.topJava?_eq_some.mp hg0
  obtain ⟨e2, q2, q3, q4, q5, q6⟩ := hsm
  have e3 : t = ({ (U.calling g mk a).setFrames t.frames with heap := t.heap, slotsUsed := t.slotsUsed } : State).setVm t.vm := by
    have z : t = ({ t with vm := (U.calling g mk a).vm } : State).setVm t.vm := rfl
    rw [e2] at z
    exact z
  have hW' : U.WarmedH t.vm := hWt
  have hr' : (({ U with heap := t.heap, slotsUsed := t.slotsUsed } : State).setVm t.vm).frames = .java g₀ :: r := hr
  have ht : t = ((({ U with heap := t.heap, slotsUsed := t.slotsUsed } : State).setVm t.vm).setTop g).pushFrame (.throwing q) := by
    refine e3.trans ?_
    rw [hfr2, State.calling_eq h.top, State.setFrames_setFrames, State.pushFrame, State.frames_setTop _ hr', State.setTop_of_frames _ hr', State.setFrames_setFrames, hr]
    rfl
  have hsame : U.sameButNew ({ U with heap := t.heap, slotsUsed := t.slotsUsed } : State) L mc ms := by
    refine ⟨?_, q2, q3, q4, q5, q6⟩
    obtain ⟨th, hth, -⟩ := State.frames_cons hr
    show ({ U with heap := t.heap, slotsUsed := t.slotsUsed } : State) = { U.setFrames U.frames with heap := t.heap, slotsUsed := t.slotsUsed }
    rw [State.setFrames_self hth]
  subst hg
  refine ⟨q, ce, ({ U with heap := t.heap, slotsUsed := t.slotsUsed } : State).setVm t.vm, L, ad',
    ⟨X.admits, X.cas, X.clock, X.frames, X.room, X.hears, X.method, X.code, (X.here.setHeapUsed t.heap t.slotsUsed).setVm hW'.alike, X.tail, State.WarmedH.trans X.warmed hW', X.limits, X.bytes, X.same.trans (hsame.setVm s.vm)⟩,
    hL, hce, hcv, hcl, hX, hH, hF.1, fun z h1 h2 => hF.2 z h1 h2, ?_⟩
  rw [← ht]
  exact hsteps
theorem ga_xV {y : MethodName} {ws : List Cond} {fr1 lo1 mc ms maxL n0 x index nA b0 : Nat} {ad : Nat → Nat} {w1 : ga_W} {bytes : ByteArray} {ret1 : Option FieldType} {C : String} {Pc : Array Value → State → Prop} {H : Heap} {locs : List Loc} {k n : Nat} {As rest : List Value} {g : JFrame} (S : CallFix p m c cc nL s args Ts own) (hM : MetFree l y (headSpec ws { frames := fr1, cells := mc, slots := ms, locals := lo1 }) Pc (fun _ _ _ _ _ => True) (ga_Tq xn D cl tA base b ad n0 x w1 mc ms))
    (cw : CallW R s args own C index y bytes maxL ret1 ws { frames := fr1, cells := mc, slots := ms, locals := lo1 } mc ms nA) (hp : PreV s H C b0 Pc As) (hg : g.method = m) (hn : As.length = nA) (hsize : g.locals.size = nL) (hstack : g.stack = As.reverse ++ .ref b0 :: rest) (hW : 2 * g.monitorRoom + (rest.map fun v => v.category).sum ≤ 8) (hdg : decode cc g.pc = .ok (.invokevirtual index, 3)) (hf : k + mc ≤ R.cells ∧ n + ms ≤ R.slots) :
    ga_XR xn D cl tA base b ad n0 x w1 p l e R s m args below meth c H locs k n mc ms g rest := by
  obtain ⟨⟨hrc, hrs, hfr, hlo, hws, hcw, hcode, hini, hy, hlen, hl⟩, hin, hse⟩ := cw
  obtain ⟨hx, hb, hml, ho, -⟩ := S
  obtain ⟨hblind, ⟨cellB, hcB, hoB, hclB⟩, hPc⟩ := hp
  intro T hT X
  obtain ⟨mk, methM, hnamed, hmethM, hstM, habM⟩ := Cond.instanceMethod_spec hin
  obtain ⟨methM', cM, hmethM', -, -, -, -, -, -, hsigM⟩ := Cond.code_spec hnamed hcode
  cases hmethM.symm.trans hmethM'
  obtain ⟨c2, r2, m2, q1, q2, q3, q4, kP, hkP, hkPi⟩ := Cond.selects_spec hse
  cases hclB.symm.trans q1
  cases (State.methodFound?_of_named hnamed hy).symm.trans q2
  cases hnamed.symm.trans q3
  have hselP : selectMethod e.platform s.vm cellB.cls mk = .method mk := by rw [Launch.admits_selectMethod X.admits]; exact q4
  obtain ⟨vm₁, X₁, hstep₁⟩ := X.invokevirtual hx ho hl hnamed hmethM hstM hkP hkPi hy (a := b0) (cell := cellB) (by rw [hT]; exact hcB)
    (fun z h => by rw [h] at hoB; cases hoB) hselP hmethM habM hkP hkPi (g := g) hg (argsL := As) (rest := rest) (hn.trans (hlen _ hsigM)) hstack (by rw [hb]; exact hdg)
  obtain ⟨q, ce, T', L, ad', X', hL, hce, hcv, hcl, hX, hH, hz, hk, st⟩ := ga_backT hM X₁ (g := { g with stack := rest }) (ig := .invokevirtual index) (len := 3) hg (hsize.trans hml.symm) (by rw [hb]; exact hdg) hW (X₁.named hnamed) (a := (Value.ref b0 :: As).toArray) (atoms_intro fun w hw => hws w hw _ _ X₁.warmed) (hws _ hcw _ _ X₁.warmed)
    (word_at X₁.warmed (Or.inl (by first | rfl | simp [Cond.onTables, Cond.keeps, Cond.steady])) hini) hfr hlo hf.1 hf.2 (hblind _ _ _ _ (hPc (T.setVm vm₁) hT X₁.warmed))
  refine ⟨q, ce, T', L, ad', X', hL, hce, hcv, ?_, hX, hH, by rw [← hT]; exact hz, fun z h1 h2 => by rw [← hT]; exact hk z (by rw [← hT] at h1; exact h1) h2, hstep₁ _ fun acts => by rw [doInvoke_state]; exact st⟩
  have z1 : vm₁.findClass (xn x) = some ce.cls := hcl
  have z2 : s.WarmedH vm₁ := X₁.warmed
  rw [z2.alike.findClass] at z1
  exact z1
theorem ga_xS {y : MethodName} {ws : List Cond} {fr1 lo1 mc ms maxL n0 x index nA : Nat} {ad : Nat → Nat} {w1 : ga_W} {bytes : ByteArray} {ret1 : Option FieldType} {Pc : Array Value → State → Prop} {H : Heap} {locs : List Loc} {k n : Nat} {As rest : List Value} {g : JFrame} (S : CallFix p m c cc nL s args Ts own) (hM : MetFree l y (headSpec ws { frames := fr1, cells := mc, slots := ms, locals := lo1 }) Pc (fun _ _ _ _ _ => True) (ga_Tq xn D cl tA base b ad n0 x w1 mc ms))
    (cw : CallB R s args own index y bytes maxL ret1 ws { frames := fr1, cells := mc, slots := ms, locals := lo1 } mc ms nA ∧ (Cond.static y).before args s = true) (hp : PreS s H Pc As) (hg : g.method = m) (hn : As.length = nA) (hsize : g.locals.size = nL) (hstack : g.stack = As.reverse ++ rest) (hW : 2 * g.monitorRoom + (rest.map fun v => v.category).sum ≤ 8) (hdg : decode cc g.pc = .ok (.invokestatic index, 3)) (hf : k + mc ≤ R.cells ∧ n + ms ≤ R.slots) :
    ga_XR xn D cl tA base b ad n0 x w1 p l e R s m args below meth c H locs k n mc ms g rest := by
  obtain ⟨⟨hrc, hrs, hfr, hlo, hws, hcw, hcode, hini, hy, hlen, hl⟩, hstt⟩ := cw
  obtain ⟨hx, hb, hml, ho, -⟩ := S
  obtain ⟨hblind, hPc⟩ := hp
  intro T hT X
  obtain ⟨mk, hnamed⟩ := Cond.code_named hcode
  obtain ⟨methM, cM, hmethM, -, -, -, -, -, -, hsigM⟩ := Cond.code_spec hnamed hcode
  have hstatic : methM.isStatic = true := Cond.static_spec hnamed hmethM hstt
  obtain ⟨kP, hkP, -⟩ := className_of_methodNamed hnamed
  have hinitP : kP.init = .initialized := Cond.initialized_spec (findClass_of_methodNamed hnamed) hkP hini
  obtain ⟨vm₁, X₁, hstep₁⟩ := X.invokestatic hx ho hl hnamed hmethM hstatic hkP hinitP hy (g := g) hg (argsL := As) (rest := rest) (hn.trans (hlen _ hsigM)) hstack (by rw [hb]; exact hdg)
  obtain ⟨q, ce, T', L, ad', X', hL, hce, hcv, hcl, hX, hH, hz, hk, st⟩ := ga_backT hM X₁ (g := { g with stack := rest }) (ig := .invokestatic index) (len := 3) hg (hsize.trans hml.symm) (by rw [hb]; exact hdg) hW (X₁.named hnamed) (a := As.toArray) (atoms_intro fun w hw => hws w hw _ _ X₁.warmed) (hws _ hcw _ _ X₁.warmed)
    (word_at X₁.warmed (Or.inl (by first | rfl | simp [Cond.onTables, Cond.keeps, Cond.steady])) hini) hfr hlo hf.1 hf.2 (hblind _ _ _ _ (hPc (T.setVm vm₁) hT X₁.warmed))
  refine ⟨q, ce, T', L, ad', X', hL, hce, hcv, ?_, hX, hH, by rw [← hT]; exact hz, fun z h1 h2 => by rw [← hT]; exact hk z (by rw [← hT] at h1; exact h1) h2, hstep₁ _ fun acts => by rw [doInvoke_state]; exact st⟩
  have z1 : vm₁.findClass (xn x) = some ce.cls := hcl
  have z2 : s.WarmedH vm₁ := X₁.warmed
  rw [z2.alike.findClass] at z1
  exact z1
/-- a static method with handlers, that returns -/
theorem ga_runSW {y : MethodName} {ws : List Cond} {maxL mc ms nA index : Nat} {rm : Room} {bytes : ByteArray} {hh : List (Nat × Nat × Nat × Nat)} {ret1 : Option FieldType} {Pc : Array Value → State → Prop} {Qc : Array Value → State → Outcome → State → Prop} {free : Addr → Prop} {H : Heap} {locs : List Loc} {k n : Nat} {As rest : List Value} {g : JFrame} (S : CallFix p m c cc nL s args Ts own) (hM : Met l y ws rm Pc Qc mc ms free)
    (hrc : rm.cells = mc) (hrs : rm.slots = ms) (hfr : rm.frames + 1 ≤ R.frames) (hlo : 8 + (maxL + 11) + rm.locals ≤ R.locals) (hws : ∀ w ∈ ws, ∀ (a' : Array Value) (U : State), s.WarmedH U.vm → w.before a' U = true) (hcw : Cond.codeWith y bytes maxL ret1 hh ∈ ws) (hini : (Cond.initialized y.cls).before args s = true) (hstt : (Cond.static y).before args s = true) (hl : (Cond.methodLink own index y).before args s = true) (hy : y.cls ≠ "java/lang/invoke/MethodHandle" ∧ y.cls ≠ "java/lang/invoke/VarHandle") (hlen : ∀ sig, parseMethodDescriptor y.desc = some sig → nA = sig.parameters.length)
    (hp : PreS s H Pc As) (hg : g.method = m) (hn : As.length = nA) (hsize : g.locals.size = nL) (hstack : g.stack = As.reverse ++ rest) (hW : 2 * g.monitorRoom + (rest.map fun v => v.category).sum ≤ 8) (hdg : decode cc g.pc = .ok (.invokestatic index, 3)) (hf : k + mc ≤ R.cells ∧ n + ms ≤ R.slots) :
    va_Run p l e R s m args below meth c H locs k n mc ms g rest (Qc As.toArray) free := by
  have hK : Back l R p e below s args y 3 8 (PreOf R mc ms Pc) (PostOf Qc mc ms free) := va_backW (hh := hh) (bytes := bytes) (maxL := maxL) (ret := ret1) hM hp.1 hrc hrs hfr hlo hws hcw (fun a' U hW => word_at hW (Or.inl (by first | rfl | simp [Cond.onTables, Cond.keeps, Cond.steady])) hini)
  obtain ⟨hx, hb, hml, ho, -⟩ := S
  intro T hT X
  obtain ⟨mk, methM, cM, hnamed, hmethM, -, -, -, -, -, -, hsigM⟩ := Cond.codeWith_spec (hws _ hcw args s (State.WarmedH.refl s))
  have hstatic : methM.isStatic = true := Cond.static_spec hnamed hmethM hstt
  obtain ⟨kP, hkP, -⟩ := className_of_methodNamed hnamed
  have hinitP : kP.init = .initialized := Cond.initialized_spec (findClass_of_methodNamed hnamed) hkP hini
  obtain ⟨vm₁, X₁, hstep₁⟩ := X.invokestatic hx ho hl hnamed hmethM hstatic hkP hinitP hy (g := g) hg (argsL := As) (rest := rest) (hn.trans (hlen _ hsigM)) hstack (by rw [hb]; exact hdg)
  obtain ⟨v, ⟨U', l2, c2, s2⟩, X', ⟨g', mk', t, L, e1, e2, hq, h1, hL, h2, h3⟩, st⟩ := hK m meth c ⟨T.setVm vm₁, locs, k, n⟩ { g with stack := rest } (.invokestatic index) mk As.toArray X₁ hg (hsize.trans hml.symm) (by rw [hb]; exact hdg) hW (X₁.named hnamed) ⟨hf.1, hf.2, hp.2 (T.setVm vm₁) hT X₁.warmed⟩
  dsimp only [Pt.U, Pt.locs, Pt.cells, Pt.slots] at X' e1 e2 h1 h2 h3 st
  subst h1; subst h2; subst h3
  exact ⟨v, (T.setVm vm₁).calling g' mk' As.toArray, t, U', L, hT, X', hL, e1, e2, hq, fun target h => hstep₁ _ fun acts => by rw [doInvoke_state]; exact st.trans h⟩
end GE
