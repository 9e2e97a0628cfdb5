/-! THROW, CATCH, A METHOD WITH HANDLERS -/
/-- a word that the law's start has holds later too -/
def ga_tw (z : Cond) : Bool := goodWord z || (match z with
  | .declares _ => true
  | .castable _ _ => true
  | _ => false)
theorem ga_word {S0 U : State} {b : Nat} {args : Array Value} {z : Cond} (h0 : ga_0 S0 b) (hW : S0.WarmedH U.vm) (hz : z ∈ lw_tbl) (hg : ga_tw z = true) : z.before args U = true := by
  have h := h0.1 z hz
  by_cases hgw : goodWord z = true
  · exact word_at hW (good_of_word hgw) h
  · simp only [ga_tw, hgw, Bool.false_or] at hg
    split at hg
    · exact va_Nw.use rfl (va_Nw.warmD hW (va_Nw.of rfl h))
    · exact va_Nw.use rfl (va_Nw.warmC hW (va_Nw.of rfl h))
    · cases hg
/-- a static field lies where it lay, and holds a reference or null -/
theorem ga_static {S0 U : State} {b : Nat} {args : Array Value} {C n d : String} (hl : (Cond.laysStatic C n d).before #[Value.ref b] S0 = true) (hi : (Cond.initialized C).before #[Value.ref b] S0 = true) (hr : (Cond.isRef (.static C n d)).before #[Value.ref b] S0 = true) (hW : S0.WarmedH U.vm) (hH : ∀ q : Nat, q < S0.heap.size → U.heap[q]? = S0.heap[q]?) :
    (Cond.laysStatic C n d).before args U = true ∧ (Cond.isRef (.static C n d)).before args U = true := by
  constructor
  · obtain ⟨c, k, i, f, a, cell, h1, h2, h3, h4, h5, h6, h7, h8, h9⟩ := Cond.laysStatic_spec hl
    obtain ⟨k', hi', he⟩ := State.fieldFound?_setVm (s := S0) hW.alike h2
    have ha : a < S0.heap.size := (Array.getElem?_eq_some_iff.mp h5).1
    show (Cond.laysStatic C n d).holds args U none U [] = true
    exact Cond.laysStatic_of (by rw [hW.alike.findClass]; exact h1) hi' h3 (by rw [he]; exact h4) (by rw [hH a ha]; exact h5) h6 h7 h8 (by rw [he]; exact h9)
  · have hz : va_Zq C n d (fun q => S0.heap.size ≤ q) S0 S0.heap := va_Zqof hl hi hr (fun a ha => by omega)
    have hz2 : va_Zq C n d (fun q => S0.heap.size ≤ q) U U.heap := va_Zq.moved hW.alike (hz.kept (fun a ha _ => hH a ha))
    have key : ∀ v : Value, v.isRef = true → va_Z C n d v (fun q => S0.heap.size ≤ q) U U.heap → (Cond.isRef (.static C n d)).before args U = true := by
      intro v hv hzz
      obtain ⟨cf, kf, fi, f, a, cell, h1, h2, h3, h4, h5, h6, h7, -⟩ := hzz
      have he : (Term.static C n d).eval args U none [] U = some v := by
        simp [Term.eval, State.fieldNamed?, h1, h2, h4, h5, h6, h7]
      simp only [Cond.before, Cond.holds, Cond.value, he]
      cases v <;> simp_all [Value.isRef]
    rcases hz2 with hz2 | ⟨t, hz2⟩
    · exact key _ rfl hz2
    · exact key _ rfl hz2
def ga_hw (z : Cond) : Bool := decide (z = .isRef (.static Bundle.tN "UNASSIGNED_STACK" Bundle.steD)) || decide (z = .isRef (.static Bundle.tN "SUPPRESSED_SENTINEL" Bundle.listD)) || decide (z = .laysStatic Bundle.tN "UNASSIGNED_STACK" Bundle.steD) || decide (z = .laysStatic Bundle.tN "SUPPRESSED_SENTINEL" Bundle.listD)
section GG
variable {l : Launch} {S0 : State} {D : va_G} {cl : List vw_C} {tA : List (ClassId × FieldType)} {base b : Nat} {xn : Nat → String} {p : Program} {e : Env} {R : Room} {s : State} {m : MethodId} {args : Array Value} {below : List Frame} {meth : Method} {c : Code} {nL : Nat} {Ts : List Cond} {own : String} {cc : ByteArray} {ret : Option FieldType} {tb : List ExceptionTableEntry} {mn : String} {fr lo : Nat} {fl : Bool} {ad0 : Nat → Nat} {w0 : ga_W} {Q : ga_R → ga_W → State → Prop}
variable {pc : Nat} {lv : List (Nat × Value)} {st : List Value} {w : ga_W} {o : ga_O}
/-- the words of a throw, in a later state of the same tables -/
theorem ga_own {U : State} {ic : Nat} {X : String} {names : List String} (h0 : ga_0 S0 b) (hW : S0.WarmedH U.vm) (hH : ∀ q : Nat, q < S0.heap.size → U.heap[q]? = S0.heap[q]?) (hat : ∀ z ∈ Bundle.ownAtoms0 own ic X names, ga_hw z = true ∨ (z ∈ lw_tbl ∧ ga_tw z = true)) : ∀ z ∈ Bundle.ownAtoms0 own ic X names, z.before args U = true := by
  have i0 : (Cond.initialized Bundle.tN).before #[Value.ref b] S0 = true := h0.1 _ (by decide +kernel)
  have f := flat_of_before _ h0.2
  have u := ga_static (args := args) (h0.1 (Cond.laysStatic Bundle.tN "UNASSIGNED_STACK" Bundle.steD) (by decide +kernel)) i0 (f (Cond.isRef (.static Bundle.tN "UNASSIGNED_STACK" Bundle.steD)) (by decide +kernel)) hW hH
  have v := ga_static (args := args) (h0.1 (Cond.laysStatic Bundle.tN "SUPPRESSED_SENTINEL" Bundle.listD) (by decide +kernel)) i0 (f (Cond.isRef (.static Bundle.tN "SUPPRESSED_SENTINEL" Bundle.listD)) (by decide +kernel)) hW hH
  intro z hz
  rcases hat z hz with h | ⟨h1, h2⟩
  · simp only [ga_hw, Bool.or_eq_true, decide_eq_true_eq] at h
    rcases h with ((h | h) | h) | h
    · rw [h]; exact u.2
    · rw [h]; exact v.2
    · rw [h]; exact u.1
    · rw [h]; exact v.1
  · exact ga_word h0 hW h1 h2
/-- the frame, as if its method were called in the state that stands now -/
theorem ga_anew {T : State} {locs : List Loc} {k n : Nat} (X : Stand p l e R s m args below meth c T locs k n) {R' : Room} (hf : R'.frames ≤ R.frames) (hl : R'.locals ≤ R.locals) (hc : k + R'.cells ≤ R.cells) (hs : n + R'.slots ≤ R.slots) : Stand p l e R' ((T.setVm s.vm).setFrames (.invoking m args :: below)) m args below meth c T [] 0 0 := by
  have top : (T.setVm s.vm).topJava?.isSome := X.here.top
  have fr9 : ((T.setVm s.vm).setFrames (.invoking m args :: below)).frames = .invoking m args :: below := State.frames_setFrames _ (State.cur_lt_of_top top)
  obtain ⟨g₀, hg0⟩ := Option.isSome_iff_exists.mp top
  obtain ⟨r, hr⟩ := State.topJava?_eq_some.mp hg0
  obtain ⟨th, hth, -⟩ := State.frames_cons hr
  have lim : e.platform.stackLimits (T.setVm s.vm).me = e.platform.stackLimits s.me := X.limits
  have byt : (T.setVm s.vm).me.stackBytes = s.me.stackBytes := X.bytes
  have used : ((T.setVm s.vm).setFrames (.invoking m args :: below)).localsInUse = s.localsInUse := by
    rw [State.localsInUse_invoking fr9 (meth := meth) (c := c) X.method X.code, State.localsInUse_invoking X.frames X.method X.code]
  have drop0 : T.heap.toList.drop T.heap.size = [] := List.drop_eq_nil_of_le (Nat.le_of_eq Array.length_toList)
  refine ⟨X.admits, X.cas, X.clock, fr9, ?_, X.hears, X.method, X.code, X.here, X.tail, X.warmed, by rw [State.stackLimits_setFrames]; rfl, by rw [State.stackBytes_setFrames]; rfl, ?_, Nat.le_refl _, Nat.le_refl _, ?_, ?_, fun a c9 h9 => ⟨c9, h9, rfl, rfl, fun _ _ => rfl⟩⟩
  · have h := X.room
    have sz := X.heapSize
    have us := X.used
    simp only [State.hasRoom, Bool.and_eq_true, decide_eq_true_eq] at h ⊢
    obtain ⟨⟨⟨⟨h1, h2, h3, h4, h5, h6⟩, h7⟩, h8⟩, h9⟩ := h
    rw [X.frames, List.length_cons] at h2 h3
    simp only [fr9, used, List.length_cons, State.stackLimits_setFrames, State.stackBytes_setFrames, lim, byt]
    refine ⟨⟨⟨⟨by omega, by omega, by omega, by omega, by omega, h6⟩, ?_⟩, ?_⟩, X.book⟩
    · show T.heap.size + R'.cells ≤ e.platform.maxCells
      omega
    · show T.slotsUsed + R'.slots ≤ e.platform.maxSlots
      omega
  · show T.setVm s.vm = { ((T.setVm s.vm).setFrames (.invoking m args :: below)).setFrames (T.setVm s.vm).frames with heap := T.heap, slotsUsed := T.slotsUsed }
    rw [State.setFrames_setFrames, State.setFrames_self hth]
    rfl
  · show T.slotsUsed = T.slotsUsed + ((T.heap.toList.drop T.heap.size).map (·.slots.size)).sum
    rw [drop0]
    rfl
  · show ((T.heap.toList.drop T.heap.size).map (·.slots.size)).sum ≤ 0
    rw [drop0]
    exact Nat.le_refl _
/-- nothing old has changed, where no place was written -/
theorem ga_old {U V : State} {k n : Nat} (h : U.sameButNew ({ V with vm := U.vm } : State) [] k n) : U.heap.size ≤ V.heap.size ∧ ∀ q : Nat, q < U.heap.size → V.heap[q]? = U.heap[q]? := by
  obtain ⟨-, h2, -, -, -, h6⟩ := h
  refine ⟨h2, fun q hq => ?_⟩
  obtain ⟨c9, e1, e2, e3, e4⟩ := h6 q _ (Array.getElem?_eq_getElem hq)
  have hs : c9.slots = (U.heap[q]).slots := Array.ext_getElem? fun i => e4 i (fun z => nomatch z)
  have hc : c9 = U.heap[q] := by rw [hs] at e2; exact e2
  have e5 : V.heap[q]? = some c9 := e1
  rw [e5, hc, Array.getElem?_eq_getElem hq]
set_option maxHeartbeats 1000000 in
/-- throw new E() -/
theorem ga_throw {x ik ic : Nat} {names : List String} (ht : tb = []) (hE : Bundle.fit (xn x) = true) (hnames : ∀ n ∈ names, Bundle.fit n = true) (h1 : Cond.classLink own ik (xn x) ∈ lw_tbl) (h2 : Cond.initialized (xn x) ∈ lw_tbl) (hat : ∀ z ∈ Bundle.ownAtoms0 own ic (xn x) names, ga_hw z = true ∨ (z ∈ lw_tbl ∧ ga_tw z = true)) (hfr : names.length + 3 < fr) (hlo : (st.map fun v => v.category).sum + (13 * (names.length + 1) + 42) ≤ lo)
    (d0 : decode cc pc = .ok (.new ik, 3)) (d3 : decode cc (pc + 3) = .ok (.dup, 1)) (d4 : decode cc (pc + 4) = .ok (.invokespecial ic, 3)) (d7 : decode cc (pc + 7) = .ok (.athrow, 1)) : ga_J l S0 D cl tA base b xn p e R s m args below meth c nL Ts own cc ret tb mn fr lo fl ad0 w0 (ga_MQ xn D cl tA base b s args below ad0 w0) pc lv st w (some (.inr x, w.1, w.2.1 + 1, w.2.2 + 6)) := by
  intro r w' ho
  cases ho
  refine ⟨⟨by simp only; omega, by simp only; omega, Nat.le_refl _, fun _ => rfl⟩, fun B a1 a2 a3 a4 ad H locs ls x1 x2 x3 x4 => ?_⟩
  obtain ⟨hx, hb, hml, hr, hown, hts, hlk, hbs, hK, hZ, htb, hmn, hfr9, hlo9, hst, h00⟩ := B
  simp only at a3 a4
  have hcs := ga_catsum b ad st
  intro T hT X
  have htr : e.platform.stackTraces = false := (show e.platform.stackTraces = l.stackTraces by rw [X.admits.platform]).trans hst
  have Y := ga_anew X (R' := { frames := R.frames, locals := R.locals, cells := 1, slots := 6 }) (Nat.le_refl _) (Nat.le_refl _) (by show _ + 1 ≤ _; omega) (by show _ + 6 ≤ _; omega)
  obtain ⟨U0, hU0⟩ : ∃ z, z = (T.setVm s.vm).setFrames (.invoking m args :: below) := ⟨_, rfl⟩
  rw [← hU0] at Y
  have hvm : U0.vm = s.vm := by rw [hU0]; rfl
  have hhp : U0.heap = H := by rw [hU0]; exact hT
  have hZH : ga_Z S0 base s H := hZ.kept hbs (fun a g1 g2 => x3.2.1 a g1 g2)
  have hW0 : S0.WarmedH U0.vm := by rw [hvm]; exact hZ.2.1
  have hww : ∀ z ∈ Bundle.ownAtoms0 own ic (xn x) names, z.before args U0 = true := ga_own h00 hW0 (fun q hq => by rw [hhp]; exact hZH.2.2 q (Nat.lt_of_lt_of_le hq hZH.1)) hat
  have hown0 : U0.vm.findClass own = some m.cls := by rw [hvm]; exact hown
  have hins : (Cond.instantiable (xn x) 6).before args U0 = true := hww _ (by simp [Bundle.ownAtoms0])
  obtain ⟨vm₁, cX, kX, hfX, hkX, -, -, X₁, st1⟩ := Y.newCold hx (own := own) (C := xn x) (index := ik) (n := 6) hown0 (ga_word h00 hW0 h1 (by rfl)) hins (ga_word h00 hW0 h2 (by rfl))
    (g := F0 m pc ls (st.map (ga_v b ad))) rfl (by rw [hb]; exact d0) (Nat.le_refl _) (Nat.le_refl _)
  generalize hT1 : (T.setVm vm₁).pushCell { cls := cX, slots := kX.instanceTypes.map defaultValue, vm := .none } = T1 at X₁ st1
  have hcat : (Value.ref T.heap.size).category = 1 := rfl
  have hcellA : T1.heap[T.heap.size]? = some (freshCell cX kX) := by rw [← hT1]; exact State.heap_pushCell_size _ _
  have d3' : decode c.code (pc + 3) = .ok (.dup, 1) := by rw [hb]; exact d3
  obtain ⟨U, hsteps, hrun, hend, hWU, hsame, ce, hce, hO⟩ := X₁.ctorThrow0 hx htr (own := own) (cls := xn x) (names := names) (ic := ic) hown0 hE hnames hww (fun z hz => nomatch hz) hfX hkX hcellA (by rw [hhp, hT]; exact Nat.le_refl _)
    (g := { method := m, pc := pc + 4, locals := ls, stack := .ref T.heap.size :: .ref T.heap.size :: st.map (ga_v b ad), locked := none }) rfl (x4.1.trans hml.symm) rfl rfl (rest := st.map (ga_v b ad)) rfl
    (by rw [hb]; exact d4) (by rw [hb]; exact d7) (fun z hz => by rw [htb, ht] at hz; cases hz) (by show _ < R.frames; omega) (by show 2 * 0 + _ + _ ≤ R.locals; simp only [List.map_cons, List.sum_cons, hcat]; omega) hlk
  obtain ⟨f1, f2⟩ := ga_old hsame
  rw [hhp] at f1 f2
  have hWs : s.WarmedH U.vm := by
    have z0 : s.WarmedH U0.vm := by rw [hvm]; exact State.WarmedH.refl s
    exact State.WarmedH.trans z0 hWU
  have hcl : s.vm.findClass (xn x) = some ce.cls := by
    have h9 := hO.cls
    rw [hvm] at h9
    exact h9
  have hall : s.sameButNew ({ U with vm := s.vm } : State) locs (w.2.1 + 1 - w0.2.1) (w.2.2 + 6 - w0.2.2) := by
    subst hU0
    obtain ⟨e1, e2⟩ := hsame
    rw [State.setFrames_setFrames] at e1
    have g2 : (T.setVm s.vm).sameButNew ({ U with vm := s.vm } : State) [] (0 + 1) (0 + 6) := ⟨e1, e2⟩
    have g3 := X.same.trans g2
    rw [List.append_nil] at g3
    exact g3.mono (by omega) (by omega)
  have hH2 : ga_H D cl tA base b ad w.1 U.heap := ⟨x2.1.kept (fun k q hq => f2 q.1 (x2.1 k q hq).lt), x2.2⟩
  refine ⟨U, ?_, .threw T.heap.size, hrun, hend, T.heap.size, ce, locs, ad, rfl, hce, hO.vm, hcl, hWs, hall, x3.2.2, x1, hH2, Nat.le_trans x3.1 f1, fun q g1 g2 => by rw [f2 q (Nat.lt_of_lt_of_le g1 x3.1)]; exact x3.2.1 q g1 g2⟩
  refine st1 _ ?_
  show Steps p.tables e below (T1.setTop { method := m, pc := pc + 3, locals := ls, stack := .ref T.heap.size :: st.map (ga_v b ad), locked := none }) _
  jvm_step X₁.here [X₁.here.top, hx, d3', Value.category]
  exact hsteps
end GG
