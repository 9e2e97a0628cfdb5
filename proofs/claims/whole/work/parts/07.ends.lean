/-! KINDS OF CALLS, ENDS -/
section GF
variable {l : Launch} {S0 : State} {D : va_G} {cl : List vw_C} {tA : List (ClassId × FieldType)} {base b : Nat} {xn : Nat → String} {p : Program} {e : Env} {R : Room} {s : State} {m : MethodId} {args : Array Value} {below : List Frame} {meth : Method} {c : Code} {nL : Nat} {Ts : List Cond} {own : String} {cc : ByteArray} {ret : Option FieldType} {tb : List ExceptionTableEntry} {mn : String} {fr lo : Nat} {fl : Bool} {ad0 : Nat → Nat} {w0 : ga_W} {Q : ga_R → ga_W → State → Prop}
variable {pc : Nat} {lv : List (Nat × Value)} {st : List Value} {w : ga_W} {o : ga_O}
theorem ga_rev (b : Nat) (ad : Nat → Nat) (av st : List Value) (v : Value) : (av.reverse ++ v :: st).map (ga_v b ad) = (av.map (ga_v b ad)).reverse ++ ga_v b ad v :: st.map (ga_v b ad) := by
  simp
theorem ga_rev2 (b : Nat) (ad : Nat → Nat) (av st : List Value) : (av.reverse ++ st).map (ga_v b ad) = (av.map (ga_v b ad)).reverse ++ st.map (ga_v b ad) := by
  simp
/-- invokevirtual; the receiver is the cell a, of the class number ci -/
theorem ga_invV {y : MethodName} {ws ws' : List Cond} {bytes : ByteArray} {maxL fr1 lo1 a ci index N nA : Nat} {ret1 : Option FieldType} {fl1 : Bool} {av : List Value} {C : String} {T : u_T} {o1 : ga_O} {f : Option Value → ga_W → ga_O} {g : Nat → ga_W → ga_O} (hM : ga_M l S0 D cl tA base b xn y ws fr1 lo1 fl1 (.ref a :: av) w o1) (hf : fl1 = true ∨ (fl = false ∧ lv.all (fun q => ga_ok w.1.length q.2) = true ∧ st.all (ga_ok w.1.length) = true))
    (hG : GoodIn Ts (wsV own index C y ws)) (hw : ws = Cond.code y bytes maxL ret1 :: ws') (hd : y.cls = C ∧ y.cls ≠ "java/lang/invoke/MethodHandle" ∧ y.cls ≠ "java/lang/invoke/VarHandle" ∧ (parseMethodDescriptor y.desc).map (fun d => d.parameters.length) = some nA) (hn : av.length = nA) (hfr : fr1 + 1 ≤ fr) (hlo : 8 + (maxL + 11) + lo1 ≤ lo) (hws : (st.map fun v => v.category).sum ≤ 8) (hc : cl[ci]? = some (C, T, N)) (d : decode cc pc = .ok (.invokevirtual index, 3))
    (kv : ∀ v w1, ga_J l S0 D cl tA base b xn p e R s m args below meth c nL Ts own cc ret tb mn fr lo fl ad0 w0 Q (pc + 3) lv (v.toList ++ st) w1 (f v w1)) (kx : ∀ x w1, ga_JX l S0 D cl tA base b xn p e R s m args below meth c nL Ts own cc ret tb mn fr lo fl ad0 w0 Q pc lv x w1 (g x w1)) : ga_J l S0 D cl tA base b xn p e R s m args below meth c nL Ts own cc ret tb mn fr lo fl ad0 w0 Q pc lv (av.reverse ++ .ref a :: st) w (if ga_is w ci a = true then ga_c o1 f g else none) := by
  by_cases his : ga_is w ci a = true
  · rw [if_pos his]
    obtain ⟨fs, hwa⟩ := ga_is_spec his
    refine ga_run hM hf (fun v w1 ho1 B ad H locs k n ls hH hS hl hk hn2 => ?_) (fun x w1 ho1 B ad H locs k n ls hH hS hl hk hn2 => ?_) kv kx
    · have B0 := B
      obtain ⟨hx, hb, hml, hr, hown, hts, hlk, hbs, hK, hZ, htb, hmn, hfr9, hlo9, hst, h00⟩ := B
      refine ⟨(Value.ref (ad a) :: av.map (ga_v b ad)).toArray, ?_⟩
      rw [ga_rev]
      exact va_runV (g := F0 m pc ls _) (As := av.map (ga_v b ad)) (rest := st.map (ga_v b ad)) ⟨hx, hb, hml, hown, hts⟩ ((hM _ _ ho1).2 ad) (cwV nA hts hG hw rfl rfl hd ⟨by show fr1 + 1 ≤ R.frames; omega, by show 8 + (maxL + 11) + lo1 ≤ R.locals; omega⟩)
        ⟨ga_blind, va_recv hK hH.1 hc (ga_w_get hwa), fun U hU hW => ⟨rfl, ga_pre B0 hH hS U hU hW⟩⟩ rfl (by simpa using hn) hl.1 rfl (lv_room (by rw [ga_catsum]; exact hws)) d ⟨hk, hn2⟩
    · have B0 := B
      obtain ⟨hx, hb, hml, hr, hown, hts, hlk, hbs, hK, hZ, htb, hmn, hfr9, hlo9, hst, h00⟩ := B
      rw [ga_rev]
      exact ga_xV (g := F0 m pc ls _) (As := av.map (ga_v b ad)) (rest := st.map (ga_v b ad)) ⟨hx, hb, hml, hown, hts⟩ ((hM _ _ ho1).2 ad) (cwV nA hts hG hw rfl rfl hd ⟨by show fr1 + 1 ≤ R.frames; omega, by show 8 + (maxL + 11) + lo1 ≤ R.locals; omega⟩)
        ⟨ga_blind, va_recv hK hH.1 hc (ga_w_get hwa), fun U hU hW => ⟨rfl, ga_pre B0 hH hS U hU hW⟩⟩ rfl (by simpa using hn) hl.1 rfl (lv_room (by rw [ga_catsum]; exact hws)) d ⟨hk, hn2⟩
  · rw [if_neg his]
    exact ga_no
theorem ga_invS {y : MethodName} {ws ws' : List Cond} {bytes : ByteArray} {maxL fr1 lo1 index nA : Nat} {ret1 : Option FieldType} {fl1 : Bool} {av : List Value} {o1 : ga_O} {f : Option Value → ga_W → ga_O} {g : Nat → ga_W → ga_O} (hM : ga_M l S0 D cl tA base b xn y ws fr1 lo1 fl1 av w o1) (hf : fl1 = true ∨ (fl = false ∧ lv.all (fun q => ga_ok w.1.length q.2) = true ∧ st.all (ga_ok w.1.length) = true))
    (hG : GoodIn Ts (va_wsS own index y ws)) (hw : ws = Cond.code y bytes maxL ret1 :: ws') (hd : y.cls ≠ "java/lang/invoke/MethodHandle" ∧ y.cls ≠ "java/lang/invoke/VarHandle" ∧ (parseMethodDescriptor y.desc).map (fun d => d.parameters.length) = some nA) (hn : av.length = nA) (hfr : fr1 + 1 ≤ fr) (hlo : 8 + (maxL + 11) + lo1 ≤ lo) (hws : (st.map fun v => v.category).sum ≤ 8) (d : decode cc pc = .ok (.invokestatic index, 3))
    (kv : ∀ v w1, ga_J l S0 D cl tA base b xn p e R s m args below meth c nL Ts own cc ret tb mn fr lo fl ad0 w0 Q (pc + 3) lv (v.toList ++ st) w1 (f v w1)) (kx : ∀ x w1, ga_JX l S0 D cl tA base b xn p e R s m args below meth c nL Ts own cc ret tb mn fr lo fl ad0 w0 Q pc lv x w1 (g x w1)) : ga_J l S0 D cl tA base b xn p e R s m args below meth c nL Ts own cc ret tb mn fr lo fl ad0 w0 Q pc lv (av.reverse ++ st) w (ga_c o1 f g) := by
  refine ga_run hM hf (fun v w1 ho1 B ad H locs k n ls hH hS hl hk hn2 => ?_) (fun x w1 ho1 B ad H locs k n ls hH hS hl hk hn2 => ?_) kv kx
  · have B0 := B
    obtain ⟨hx, hb, hml, hr, hown, hts, hlk, hbs, hK, hZ, htb, hmn, hfr9, hlo9, hst, h00⟩ := B
    have ok : ∀ x ∈ va_wsS own index y ws, x.before args s = true := fun x h => hts x (hG x h).1
    refine ⟨(av.map (ga_v b ad)).toArray, ?_⟩
    rw [ga_rev2]
    exact va_runS (g := F0 m pc ls _) (As := av.map (ga_v b ad)) (rest := st.map (ga_v b ad)) ⟨hx, hb, hml, hown, hts⟩ ((hM _ _ ho1).2 ad)
      ⟨callB_of nA hts (fun x h => hG x (by unfold va_wsS; exact List.mem_append_right _ h)) hw rfl rfl (ok _ (by simp [va_wsS])) (ok _ (by simp [va_wsS])) hd ⟨by show fr1 + 1 ≤ R.frames; omega, by show 8 + (maxL + 11) + lo1 ≤ R.locals; omega⟩, ok _ (by simp [va_wsS])⟩
      ⟨ga_blind, fun U hU hW => ⟨rfl, ga_pre B0 hH hS U hU hW⟩⟩ rfl (by simpa using hn) hl.1 rfl (lv_room (by rw [ga_catsum]; exact hws)) d ⟨hk, hn2⟩
  · have B0 := B
    obtain ⟨hx, hb, hml, hr, hown, hts, hlk, hbs, hK, hZ, htb, hmn, hfr9, hlo9, hst, h00⟩ := B
    have ok : ∀ x ∈ va_wsS own index y ws, x.before args s = true := fun x h => hts x (hG x h).1
    rw [ga_rev2]
    exact ga_xS (g := F0 m pc ls _) (As := av.map (ga_v b ad)) (rest := st.map (ga_v b ad)) ⟨hx, hb, hml, hown, hts⟩ ((hM _ _ ho1).2 ad)
      ⟨callB_of nA hts (fun x h => hG x (by unfold va_wsS; exact List.mem_append_right _ h)) hw rfl rfl (ok _ (by simp [va_wsS])) (ok _ (by simp [va_wsS])) hd ⟨by show fr1 + 1 ≤ R.frames; omega, by show 8 + (maxL + 11) + lo1 ≤ R.locals; omega⟩, ok _ (by simp [va_wsS])⟩
      ⟨ga_blind, fun U hU hW => ⟨rfl, ga_pre B0 hH hS U hU hW⟩⟩ rfl (by simpa using hn) hl.1 rfl (lv_room (by rw [ga_catsum]; exact hws)) d ⟨hk, hn2⟩
/-- a static method with handlers of its own, that returns -/
theorem ga_invSW {y : MethodName} {ws ws' : List Cond} {bytes : ByteArray} {hh : List (Nat × Nat × Nat × Nat)} {maxL fr1 lo1 index nA : Nat} {ret1 : Option FieldType} {fl1 : Bool} {av : List Value} {o1 : ga_O} {f : Option Value → ga_W → ga_O} (hM : ga_M l S0 D cl tA base b xn y ws fr1 lo1 fl1 av w o1) (hf : fl1 = true ∨ (fl = false ∧ lv.all (fun q => ga_ok w.1.length q.2) = true ∧ st.all (ga_ok w.1.length) = true))
    (hG : GoodIn Ts (va_wsS own index y ws)) (hw : ws = Cond.codeWith y bytes maxL ret1 hh :: ws') (hd : y.cls ≠ "java/lang/invoke/MethodHandle" ∧ y.cls ≠ "java/lang/invoke/VarHandle" ∧ (parseMethodDescriptor y.desc).map (fun d => d.parameters.length) = some nA) (hn : av.length = nA) (hfr : fr1 + 1 ≤ fr) (hlo : 8 + (maxL + 11) + lo1 ≤ lo) (hws : (st.map fun v => v.category).sum ≤ 8) (d : decode cc pc = .ok (.invokestatic index, 3))
    (kv : ∀ v w1, ga_J l S0 D cl tA base b xn p e R s m args below meth c nL Ts own cc ret tb mn fr lo fl ad0 w0 Q (pc + 3) lv (v.toList ++ st) w1 (f v w1)) : ga_J l S0 D cl tA base b xn p e R s m args below meth c nL Ts own cc ret tb mn fr lo fl ad0 w0 Q pc lv (av.reverse ++ st) w (ga_c o1 f (fun _ _ => none)) := by
  cases ho1 : o1 with
  | none => exact ga_no
  | some q1 =>
    obtain ⟨r1, w1⟩ := q1
    cases r1 with
    | inr x => exact ga_no
    | inl v =>
      rw [← ho1]
      refine ga_run hM hf (g := fun _ _ => none) (fun v2 w2 ho2 B ad H locs k n ls hH hS hl hk hn2 => ?_) (fun x w2 ho2 => absurd (ho1.symm.trans ho2) (fun h => by cases h)) kv (fun x w1 r w' h => nomatch h)
      have B0 := B
      obtain ⟨hx, hb, hml, hr, hown, hts, hlk, hbs, hK, hZ, htb, hmn, hfr9, hlo9, hst, h00⟩ := B
      have ok : ∀ x ∈ va_wsS own index y ws, x.before args s = true := fun x h => hts x (hG x h).1
      have hG2 : GoodIn Ts ws := fun x h => hG x (by unfold va_wsS; exact List.mem_append_right _ h)
      refine ⟨(av.map (ga_v b ad)).toArray, ?_⟩
      rw [ga_rev2]
      exact ga_runSW (hh := hh) (bytes := bytes) (maxL := maxL) (ret1 := ret1) (nA := nA) (g := F0 m pc ls _) (As := av.map (ga_v b ad)) (rest := st.map (ga_v b ad)) ⟨hx, hb, hml, hown, hts⟩ ((hM _ _ ho2).2 ad) rfl rfl (by show fr1 + 1 ≤ R.frames; omega) (by show 8 + (maxL + 11) + lo1 ≤ R.locals; omega) (pay_in hts hG2) (by rw [hw]; exact List.mem_cons_self) (ok _ (by simp [va_wsS])) (ok _ (by simp [va_wsS])) (ok _ (by simp [va_wsS])) ⟨hd.1, hd.2.1⟩
        (fun sig h => by have h2 := hd.2.2; rw [h] at h2; exact (Option.some.inj h2).symm)
        ⟨ga_blind, fun U hU hW => ⟨rfl, ga_pre B0 hH hS U hU hW⟩⟩ rfl (by simpa using hn) hl.1 rfl (lv_room (by rw [ga_catsum]; exact hws)) d ⟨hk, hn2⟩
/-- a constructor: it returns; nest: by a nest mate's link -/
theorem ga_invI {y : MethodName} {ws ws' : List Cond} {bytes : ByteArray} {maxL fr1 lo1 a index nA : Nat} {fl1 : Bool} {av : List Value} {o1 : ga_O} {f : ga_W → ga_O} (hM : ga_M l S0 D cl tA base b xn y ws fr1 lo1 fl1 (.ref a :: av) w o1) (hf : fl1 = true ∨ (fl = false ∧ lv.all (fun q => ga_ok w.1.length q.2) = true ∧ st.all (ga_ok w.1.length) = true))
    (hG : GoodIn Ts ws) (hw : ws = Cond.code y bytes maxL none :: ws') (h1 : Cond.initialized y.cls ∈ Ts) (h2 : Cond.methodLink own index y ∈ Ts ∨ ∃ host, Cond.methodLinkNest own index y host ∈ lw_tbl) (h3 : Cond.instanceMethod y ∈ Ts) (hy : y.name = "<init>") (hd : y.cls ≠ "java/lang/invoke/MethodHandle" ∧ y.cls ≠ "java/lang/invoke/VarHandle" ∧ (parseMethodDescriptor y.desc).map (fun d => d.parameters.length) = some nA) (hn : av.length = nA) (hfr : fr1 + 1 ≤ fr) (hlo : 8 + (maxL + 11) + lo1 ≤ lo) (hws : (st.map fun v => v.category).sum ≤ 8) (d : decode cc pc = .ok (.invokespecial index, 3))
    (kv : ∀ w1, ga_J l S0 D cl tA base b xn p e R s m args below meth c nL Ts own cc ret tb mn fr lo fl ad0 w0 Q (pc + 3) lv st w1 (f w1)) : ga_J l S0 D cl tA base b xn p e R s m args below meth c nL Ts own cc ret tb mn fr lo fl ad0 w0 Q pc lv (av.reverse ++ .ref a :: st) w (ga_c o1 (ga_kV f) (fun _ _ => none)) := by
  cases ho1 : o1 with
  | none => exact ga_no
  | some q1 =>
    obtain ⟨r1, w1⟩ := q1
    cases r1 with
    | inr x => exact ga_no
    | inl v =>
      rw [← ho1]
      refine ga_run hM hf (f := ga_kV f) (g := fun _ _ => none) (fun v2 w2 ho2 B ad H locs k n ls hH hS hl hk hn2 => ?_) (fun x w2 ho2 => absurd (ho1.symm.trans ho2) (fun h => by cases h)) (fun v w1 => ?_) (fun x w1 r w' h => nomatch h)
      · have B0 := B
        obtain ⟨hx, hb, hml, hr, hown, hts, hlk, hbs, hK, hZ, htb, hmn, hfr9, hlo9, hst, h00⟩ := B
        refine ⟨(Value.ref (ad a) :: av.map (ga_v b ad)).toArray, ?_⟩
        rw [ga_rev]
        rcases h2 with h2 | ⟨host, h2⟩
        · exact va_runI (g := F0 m pc ls _) (As := av.map (ga_v b ad)) (rest := st.map (ga_v b ad)) ⟨hx, hb, hml, hown, hts⟩ ((hM _ _ ho2).2 ad) (cwI nA hts hG hw rfl rfl (hts _ h1) (hts _ h2) (hts _ h3) hy hd ⟨by show fr1 + 1 ≤ R.frames; omega, by show 8 + (maxL + 11) + lo1 ≤ R.locals; omega⟩)
            ⟨ga_blind, fun U hU hW => ⟨rfl, ga_pre B0 hH hS U hU hW⟩⟩ rfl (by simpa using hn) hl.1 rfl (lv_room (by rw [ga_catsum]; exact hws)) d ⟨hk, hn2⟩
        · exact va_runIN (g := F0 m pc ls _) (As := av.map (ga_v b ad)) (rest := st.map (ga_v b ad)) ⟨hx, hb, hml, hown, hts⟩ ((hM _ _ ho2).2 ad) ⟨va_cnB nA hts hG hw rfl rfl (va_Nw.warmM hZ.2.1 (va_Nw.of rfl (h00.1 _ h2))) (hts _ h1) hd ⟨by show fr1 + 1 ≤ R.frames; omega, by show 8 + (maxL + 11) + lo1 ≤ R.locals; omega⟩, hy, hts _ h3⟩
            ⟨ga_blind, fun U hU hW => ⟨rfl, ga_pre B0 hH hS U hU hW⟩⟩ rfl (by simpa using hn) hl.1 rfl (lv_room (by rw [ga_catsum]; exact hws)) d ⟨hk, hn2⟩
      · cases v with
        | none => exact kv w1
        | some v => exact ga_no
/-! ends -/
theorem ga_iret {x : Int32} (hr : ret = some .int) (d : decode cc pc = .ok (.ireturn, 1)) : ga_J l S0 D cl tA base b xn p e R s m args below meth c nL Ts own cc ret tb mn fr lo fl ad0 w0 (ga_MQ xn D cl tA base b s args below ad0 w0) pc lv [.int x] w (some (.inl (some (.int x)), w)) := by
  intro r w' ho
  cases ho
  refine ⟨ga_N.rf, fun B a1 a2 a3 a4 ad H locs ls x1 x2 x3 x4 => ?_⟩
  obtain ⟨hx, hb, hml, hrt, hown, hts, hlk, hbs, hK, hZ, htb, hmn, hfr, hlo, hst, h00⟩ := B
  exact W.iret (v := x) hx hb (hrt.trans hr) (fun t ht hW => ⟨⟨ad, x1, rfl, by rw [ht]; exact x2⟩, x3.F ht⟩) x3.2.2 d hlk
theorem ga_zret {x : Int32} (hr : ret = some .boolean) (hn : narrow .boolean (.int x) = .int x) (d : decode cc pc = .ok (.ireturn, 1)) : ga_J l S0 D cl tA base b xn p e R s m args below meth c nL Ts own cc ret tb mn fr lo fl ad0 w0 (ga_MQ xn D cl tA base b s args below ad0 w0) pc lv [.int x] w (some (.inl (some (.int x)), w)) := by
  intro r w' ho
  cases ho
  refine ⟨ga_N.rf, fun B a1 a2 a3 a4 ad H locs ls x1 x2 x3 x4 => ?_⟩
  obtain ⟨hx, hb, hml, hrt, hown, hts, hlk, hbs, hK, hZ, htb, hmn, hfr, hlo, hst, h00⟩ := B
  exact W.zret (v := x) hx hb (hrt.trans hr) hn (fun t ht hW => ⟨⟨ad, x1, rfl, by rw [ht]; exact x2⟩, x3.F ht⟩) x3.2.2 d hlk
theorem ga_dret {x : UInt64} (hr : ret = some .double) (d : decode cc pc = .ok (.dreturn, 1)) : ga_J l S0 D cl tA base b xn p e R s m args below meth c nL Ts own cc ret tb mn fr lo fl ad0 w0 (ga_MQ xn D cl tA base b s args below ad0 w0) pc lv [.double x] w (some (.inl (some (.double x)), w)) := by
  intro r w' ho
  cases ho
  refine ⟨ga_N.rf, fun B a1 a2 a3 a4 ad H locs ls x1 x2 x3 x4 => ?_⟩
  obtain ⟨hx, hb, hml, hrt, hown, hts, hlk, hbs, hK, hZ, htb, hmn, hfr, hlo, hst, h00⟩ := B
  exact W.dret (v := x) hx hb (hrt.trans hr) (fun t ht hW => ⟨⟨ad, x1, rfl, by rw [ht]; exact x2⟩, x3.F ht⟩) x3.2.2 d hlk
theorem ga_vret (hr : ret = none) (d : decode cc pc = .ok (.return_, 1)) : ga_J l S0 D cl tA base b xn p e R s m args below meth c nL Ts own cc ret tb mn fr lo fl ad0 w0 (ga_MQ xn D cl tA base b s args below ad0 w0) pc lv [] w (some (.inl none, w)) := by
  intro r w' ho
  cases ho
  refine ⟨ga_N.rf, fun B a1 a2 a3 a4 ad H locs ls x1 x2 x3 x4 => ?_⟩
  obtain ⟨hx, hb, hml, hrt, hown, hts, hlk, hbs, hK, hZ, htb, hmn, hfr, hlo, hst, h00⟩ := B
  exact W.vret hx hb (hrt.trans hr) (fun t ht hW => ⟨⟨ad, x1, rfl, by rw [ht]; exact x2⟩, x3.F ht⟩) x3.2.2 d hlk
/-- an exception that the method lets go -/
theorem ga_thru {x : Nat} (ht : tb = []) : ga_JX l S0 D cl tA base b xn p e R s m args below meth c nL Ts own cc ret tb mn fr lo fl ad0 w0 (ga_MQ xn D cl tA base b s args below ad0 w0) pc lv x w (ga_up x w) := by
  intro r w' ho
  cases ho
  refine ⟨ga_N.rf, fun B a1 a2 a3 a4 ad H locs ls rest ce q x1 x2 x3 x4 hce hcv hcl => ?_⟩
  obtain ⟨hx, hb, hml, hr, hown, hts, hlk, hbs, hK, hZ, htb, hmn, hfr, hlo, hst, h00⟩ := B
  intro T hT X
  obtain ⟨st1, hrun, hend, hW, hsm⟩ := X.leaveThrown q (g := F0 m pc ls rest) rfl rfl rfl (fun z hz => by rw [htb, ht] at hz; cases hz) hlk
  refine ⟨_, st1, .threw q, hrun, hend, q, ce, locs, ad, rfl, ?_, hcv, hcl, hW, hsm, x3.2.2, x1, ?_, ?_⟩
  · show T.heap[q]? = some ce
    rw [hT]; exact hce
  · show ga_H D cl tA base b ad w.1 T.heap
    rw [hT]; exact x2
  · exact x3.F (t := T.setFrames (.throwing q :: below)) hT
/-- a method from its body -/
theorem ga_enter {y : MethodName} {ws ws' : List Cond} {maxL : Nat} {av : List Value} (hst : l.stackTraces = false) (hy : plainName y.cls = true) (hw : ws = Cond.code y cc maxL ret :: ws') (hsl : (lg_sl av).length ≤ maxL)
    (body : ∀ (p : Program) (e : Env) (R : Room) (s : State) (m : MethodId) (args : Array Value) (below : List Frame) (meth : Method) (c : Code) (ad0 : Nat → Nat), ga_J l S0 D cl tA base b xn p e R s m args below meth c maxL ws y.cls cc ret [] y.name fr lo fl ad0 w (ga_MQ xn D cl tA base b s args below ad0 w) 0 (lv_args 0 av) [] w o) : ga_M l S0 D cl tA base b xn y ws fr lo fl av w o := by
  intro r w' ho
  refine ⟨fun p e R s m args below meth c => (body p e R s m args below meth c (fun k => k) r w' ho).1, fun ad => ?_⟩
  have key : ∀ (p : Program) (e : Env) (s : State) (m : MethodId) (args : Array Value) (below : List Frame) (meth : Method) (c : Code) (s₁ : State), BodyLoose p l y (headSpec ws { frames := fr, cells := w'.2.1 - w.2.1, slots := w'.2.2 - w.2.2, locals := lo }) cc maxL ret e s m args below meth c s₁ → c.maxLocals = maxL → (va_Pc (av.map (ga_v b ad)) (fun U => ga_P S0 D cl tA base b ad w U)) args s →
      W p l e (headSpec ws { frames := fr, cells := w'.2.1 - w.2.1, slots := w'.2.2 - w.2.2, locals := lo }).room s m args below meth c s.heap [] 0 0 (ga_MQ xn D cl tA base b s args below ad w r w') (entryFrame m args maxL) := by
    intro p e s m args below meth c s₁ B hml hv
    obtain ⟨rfl, hbs, hK, hZ, h00, hH⟩ := hv
    obtain ⟨-, h4⟩ := body p e (headSpec ws { frames := fr, cells := w'.2.1 - w.2.1, slots := w'.2.2 - w.2.2, locals := lo }).room s m _ below meth c ad r w' ho
    have hname : meth.name = y.name := (name_of_methodNamed B.named B.method).1
    have htab : c.exceptionTable.toList = [] := by
      obtain ⟨meth9, c9, g1, g2, -, -, -, -, g7, -⟩ := Cond.code_spec B.named (atoms_spec (ws := ws) B.pre _ (by rw [hw]; exact List.mem_cons_self))
      cases Option.some.inj (g1.symm.trans B.method)
      cases Option.some.inj (g2.symm.trans (Stand.of_body B).code)
      rw [Array.isEmpty_iff.mp g7]
    have hB : ga_B l S0 D cl tA base b p (headSpec ws { frames := fr, cells := w'.2.1 - w.2.1, slots := w'.2.2 - w.2.2, locals := lo }).room s m ((av.map (ga_v b ad)).toArray) meth c maxL ws y.cls cc ret [] y.name fr lo :=
      ⟨B.exec, B.bytes, hml, B.returns, findClass_of_methodNamed B.named, atoms_spec (ws := ws) B.pre, B.notSynchronized, hbs, hK, hZ, htab, hname, Nat.le_refl _, Nat.le_refl _, hst, h00⟩
    have hl := lv_entry (av.map (ga_v b ad)) (n := maxL) (by rw [ga_sl_len]; exact hsl)
    rw [ga_l_args] at hl
    have hh := h4 hB (Nat.le_refl _) (Nat.le_refl _) (by show w'.2.1 ≤ w.2.1 + (w'.2.1 - w.2.1); omega) (by show w'.2.2 ≤ w.2.2 + (w'.2.2 - w.2.2); omega) ad s.heap [] _ ga_X.rf hH va_S.rf hl
    rw [Nat.sub_self, Nat.sub_self] at hh
    rw [lg_entry_eq]
    exact hh
  cases r with
  | inl v => exact Met.ofW (cc := cc) (maxL := maxL) (ret := ret) hy hw key
  | inr x =>
    refine MetFree.of_bodyS (code := cc) (maxLocals := maxL) (ret := ret) hy ?_ ?_
    · intro args s m h hn
      obtain ⟨meth, c, h1, h2, h3, h4, h5, h6, -, -⟩ := Cond.code_spec hn (atoms_spec (ws := ws) h _ (by rw [hw]; exact List.mem_cons_self))
      exact ⟨meth, c, h1, h2, h3, h4, h5, h6⟩
    · intro p e s m args below meth c s₁ B hml hP _
      have hh0 : s₁.heap = s.heap := by rw [B.state]; rfl
      obtain ⟨t, a1, oc, b1, b2, b3⟩ := key p e s m args below meth c s₁ B hml hP s₁ hh0 (Stand.of_body B)
      exact ⟨t, oc, a1, b1, b2, b3⟩
end GF
