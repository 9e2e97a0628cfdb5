/-! THE LAW'S END, AND THE SCRIPT -/
def R_law : String := "LevelStoreLaw"
def lw_P (b : Addr) (xs : List Int32) (args : Array Value) (s : State) : Prop := args = #[.ref b] ∧ s.IntsAt b xs ∧ xs.length ≤ 1536 ∧ (Jvm.Cond.and given_1 narrow_1).before args s = true
def lw_Q (_ : Array Value) (s : State) (o : Outcome) (t : State) : Prop := o = .returned (some (.int 1)) ∧ Framed s o t [] 601024 7293034
def lw_Z (below : List Frame) (a : Array Value) (s : State) : State → Prop := fun t => ∃ o, t.status = .running ∧ Ended t below o ∧ lw_Q a s o t
/-- the law's own end, with 1 on the stack, nothing written that was there before, its room as the claim has it -/
theorem lw_ret {p : Program} {l : Launch} {e : Env} {s : State} {m : MethodId} {below : List Frame} {meth : Method} {c : Code} {b : Nat} (hx : p.tables.exec = Jvm.exec) (hb : c.code = code) (hr : meth.sig.returnType = ret) (hlocks : meth.locks = false) {pc : Nat} {H : Heap} {ls : Array Slot} (hdg : decode code pc = .ok (.ireturn, 1)) : W p l e room_1 s m #[Value.ref b] below meth c H [] 601024 7293034 (lw_Z below #[Value.ref b] s) (F0 m pc ls [.int 1]) := by
  intro T hT X
  obtain ⟨fs, hret, hrun, hended, hW, hframe⟩ := X.leave (v := some (.int 1)) (hlocks := hlocks) (fun h => by rw [hr] at h; cases h)
  have hmeth' : T.vm.method? m = some meth := X.method'
  refine ⟨T.setFrames fs, ?_, .returned (some (.int 1)), hrun, hended, rfl, ⟨_, rfl⟩, hW, hframe⟩
  jvm_step X.here [X.here.top, hx, hb, hdg, hmeth', hr, ret, narrow_b1]
  (try refine ⟨rfl, ?_⟩); (try refine ⟨rfl, ?_⟩)
  first | (intro acts; rw [hret _ acts rfl rfl rfl]) | rw [hret _ _ rfl rfl rfl]
  exact Steps.refl _
/-- what holds at the law's entry: the machine, the code, the tables' words (any of lw_tbl by 'hts w (by decide +kernel)'), the script of L ints xs at the cell b, what the Statement gives of the start (any of its parts by flat_of_before) -/
def lw_At (p : Program) (s : State) (m : MethodId) (meth : Method) (c : Code) (b L : Nat) (xs : Nat → Int32) : Prop :=
  p.tables.exec = Jvm.exec ∧ c.code = code ∧ meth.sig.returnType = ret ∧ c.maxLocals = 9 ∧ s.vm.findClass R_law = some m.cls ∧ (∀ w ∈ lw_tbl, w.before #[Value.ref b] s = true) ∧ va_X b L xs s s.heap ∧ b < s.heap.size ∧ meth.locks = false ∧ (Jvm.Cond.and given_1 narrow_1).before #[Value.ref b] s = true
/-- how the law ends -/
def gz_LQ (below : List Frame) (b : Nat) (s : State) : ga_R → ga_W → State → Prop := fun _ _ => lw_Z below #[Value.ref b] s
section GL
variable {l : Launch} {D : va_G} {cl : List vw_C} {tA : List (ClassId × FieldType)} {b L : Nat} {xs : Nat → Int32} {xn : Nat → String} {p : Program} {e : Env} {s : State} {m : MethodId} {below : List Frame} {meth : Method} {c : Code} {nL : Nat} {Ts : List Cond} {own : String} {tb : List ExceptionTableEntry} {mn : String} {fr lo : Nat} {fl : Bool} {ad0 : Nat → Nat} {w0 : ga_W} {Q : ga_R → ga_W → State → Prop}
variable {pc : Nat} {lv : List (Nat × Value)} {st : List Value} {w : ga_W} {o : ga_O}
theorem ga_sld {i : Int32} {f0 : UInt32} (hX : va_X b L xs s s.heap) (hbl : b < s.heap.size) (h : ¬ (i < 0 ∨ L ≤ i.toNatClampNeg)) (d : decode code pc = .ok (.iaload, 1))
    (k : ga_J l s D cl tA s.heap.size b xn p e room_1 s m #[Value.ref b] below meth c nL Ts own code ret tb mn fr lo fl ad0 w0 Q (pc + 1) lv (.int (xs i.toNatClampNeg) :: st) w o) : ga_J l s D cl tA s.heap.size b xn p e room_1 s m #[Value.ref b] below meth c nL Ts own code ret tb mn fr lo fl ad0 w0 Q pc lv (.int i :: .float f0 :: st) w o :=
  ga_ofH (fun B ad H locs k n ls Q' hH hS hl2 kk => va_sld B.1 B.2.1 hX hbl (show ¬ (fun q : Nat => s.heap.size ≤ q) b from Nat.not_le.mpr hbl) hS h d kk) k
theorem ga_slen {f0 : UInt32} (hX : va_X b L xs s s.heap) (hbl : b < s.heap.size) (d : decode code pc = .ok (.arraylength, 1))
    (k : ga_J l s D cl tA s.heap.size b xn p e room_1 s m #[Value.ref b] below meth c nL Ts own code ret tb mn fr lo fl ad0 w0 Q (pc + 1) lv (.int (Int32.ofNat L) :: st) w o) : ga_J l s D cl tA s.heap.size b xn p e room_1 s m #[Value.ref b] below meth c nL Ts own code ret tb mn fr lo fl ad0 w0 Q pc lv (.float f0 :: st) w o :=
  ga_ofH (fun B ad H locs k n ls Q' hH hS hl2 kk => va_slen B.1 B.2.1 hX hbl (show ¬ (fun q : Nat => s.heap.size ≤ q) b from Nat.not_le.mpr hbl) hS d kk) k
theorem gz_lret (d : decode code pc = .ok (.ireturn, 1)) : ga_J l s D cl tA s.heap.size b xn p e room_1 s m #[Value.ref b] below meth c nL Ts own code ret tb mn fr lo fl ad0 w0 (gz_LQ below b s) pc lv [.int 1] w (some (.inl (some (.int 1)), w)) := by
  intro r w' ho
  cases ho
  refine ⟨ga_N.rf, fun B a1 a2 a3 a4 ad H locs ls x1 x2 x3 x4 => ?_⟩
  refine va_forget (fun q hq => x3.2.2 q hq) ?_
  refine W.widen (k := 601024) (n := 7293034) (by have h : room_1.cells = 601024 := rfl; omega) (by have h : room_1.slots = 7293034 := rfl; omega) ?_
  exact lw_ret B.1 B.2.1 B.2.2.2.1 B.2.2.2.2.2.2.1 d
end GL
