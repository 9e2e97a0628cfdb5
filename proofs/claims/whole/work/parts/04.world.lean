/-! ROWS OF INSTRUCTIONS THAT READ OR WRITE THE WORLD -/
/-! what a pure program reads and writes -/
def ga_get (w : ga_W) (ci k a : Nat) : Option Value := match w.1[a]? with
  | some (.inr (c', fs)) => if c' = ci then fs[k]? else none
  | _ => none
def ga_gi (w : ga_W) (ci k a : Nat) : Option Int32 := match ga_get w ci k a with
  | some (.int x) => some x
  | _ => none
def ga_gr (w : ga_W) (ci k a : Nat) : Option Nat := match ga_get w ci k a with
  | some (.ref x) => some x
  | _ => none
def ga_put (w : ga_W) (ci k a : Nat) (v : Value) : Option ga_W := match w.1[a]? with
  | some (.inr (c', fs)) => if c' = ci ∧ k < fs.length then some (w.1.set a (.inr (ci, fs.set k v)), w.2) else none
  | _ => none
def ga_ai (w : ga_W) (t a : Nat) (i : Int32) : Option Int32 := match w.1[a]? with
  | some (.inl (t', n, .inl f)) => if t' = t ∧ ¬ (i < 0 ∨ n ≤ i.toNatClampNeg) then some (f i.toNatClampNeg) else none
  | _ => none
def ga_si (w : ga_W) (t a : Nat) (i : Int32) (x : Int32) : Option ga_W := match w.1[a]? with
  | some (.inl (t', n, .inl f)) => if t' = t ∧ ¬ (i < 0 ∨ n ≤ i.toNatClampNeg) then some (w.1.set a (.inl (t, n, .inl (upd f i.toNatClampNeg x))), w.2) else none
  | _ => none
def ga_az (w : ga_W) (t a : Nat) (i : Int32) : Option Int32 := match w.1[a]? with
  | some (.inl (t', n, .inl f)) => if t' = t ∧ ¬ (i < 0 ∨ n ≤ i.toNatClampNeg) then some (f i.toNatClampNeg) else none
  | _ => none
def ga_sz (w : ga_W) (t a : Nat) (i : Int32) (x : Int32) : Option ga_W := match w.1[a]? with
  | some (.inl (t', n, .inl f)) => if t' = t ∧ ¬ (i < 0 ∨ n ≤ i.toNatClampNeg) then some (w.1.set a (.inl (t, n, .inl (upd f i.toNatClampNeg (vp_nar .boolean x)))), w.2) else none
  | _ => none
def ga_al (w : ga_W) (t a : Nat) (i : Int32) : Option Int64 := match w.1[a]? with
  | some (.inl (t', n, .inr (.inl f))) => if t' = t ∧ ¬ (i < 0 ∨ n ≤ i.toNatClampNeg) then some (f i.toNatClampNeg) else none
  | _ => none
def ga_sl (w : ga_W) (t a : Nat) (i : Int32) (x : Int64) : Option ga_W := match w.1[a]? with
  | some (.inl (t', n, .inr (.inl f))) => if t' = t ∧ ¬ (i < 0 ∨ n ≤ i.toNatClampNeg) then some (w.1.set a (.inl (t, n, .inr (.inl (vp_updL f i.toNatClampNeg x)))), w.2) else none
  | _ => none
def ga_ad (w : ga_W) (t a : Nat) (i : Int32) : Option UInt64 := match w.1[a]? with
  | some (.inl (t', n, .inr (.inr (.inr (.inl f))))) => if t' = t ∧ ¬ (i < 0 ∨ n ≤ i.toNatClampNeg) then some (f i.toNatClampNeg) else none
  | _ => none
def ga_sd (w : ga_W) (t a : Nat) (i : Int32) (x : UInt64) : Option ga_W := match w.1[a]? with
  | some (.inl (t', n, .inr (.inr (.inr (.inl f))))) => if t' = t ∧ ¬ (i < 0 ∨ n ≤ i.toNatClampNeg) then some (w.1.set a (.inl (t, n, .inr (.inr (.inr (.inl (vf_upd f i.toNatClampNeg x)))))), w.2) else none
  | _ => none
def ga_len (w : ga_W) (t a : Nat) : Option Nat := match w.1[a]? with
  | some (.inl (t', n, _)) => if t' = t then some n else none
  | _ => none
section GB
variable {l : Launch} {S0 : State} {D : va_G} {cl : List vw_C} {tA : List (ClassId × FieldType)} {base b : Nat} {xn : Nat → String} {p : Program} {e : Env} {R : Room} {s : State} {m : MethodId} {args : Array Value} {below : List Frame} {meth : Method} {c : Code} {nL : Nat} {Ts : List Cond} {own : String} {cc : ByteArray} {ret : Option FieldType} {tb : List ExceptionTableEntry} {mn : String} {fr lo : Nat} {fl : Bool} {ad0 : Nat → Nat} {w0 : ga_W} {Q : ga_R → ga_W → State → Prop}
variable {pc : Nat} {lv : List (Nat × Value)} {st : List Value} {w : ga_W} {o : ga_O}
theorem ga_ofH {pc2 : Nat} {st2 : List Value} (h : (ga_B l S0 D cl tA base b p R s m args meth c nL Ts own cc ret tb mn fr lo) → ∀ (ad : Nat → Nat) (H : Heap) (locs : List Loc) (k n : Nat) (ls : Array Slot) (Q' : State → Prop), ga_H D cl tA base b ad w.1 H → va_S (fun q => base ≤ q) s.heap H locs → lv_has ls nL (ga_l b ad lv) → W p l e R s m args below meth c H locs k n Q' (F0 m pc2 ls (st2.map (ga_v b ad))) → W p l e R s m args below meth c H locs k n Q' (F0 m pc ls (st.map (ga_v b ad))))
    (k : ga_J l S0 D cl tA base b xn p e R s m args below meth c nL Ts own cc ret tb mn fr lo fl ad0 w0 Q pc2 lv st2 w o) : ga_J l S0 D cl tA base b xn p e R s m args below meth c nL Ts own cc ret tb mn fr lo fl ad0 w0 Q pc lv st w o := by
  intro r w' ho
  obtain ⟨h1, h4⟩ := k r w' ho
  exact ⟨h1, fun B a1 a2 a3 a4 ad H locs ls x1 x2 x3 x4 => h B ad H locs _ _ ls _ x2 x3 x4 (h4 B a1 a2 a3 a4 ad H locs ls x1 x2 x3 x4)⟩
/-- a cell is written -/
theorem ga_ofP {pc2 : Nat} {st2 : List Value} {w2 : ga_W} (hc : w2.2 = w.2) (hn : w2.1.length = w.1.length) (h : (ga_B l S0 D cl tA base b p R s m args meth c nL Ts own cc ret tb mn fr lo) → ∀ (ad : Nat → Nat) (H : Heap) (locs : List Loc) (k n : Nat) (ls : Array Slot) (Q' : State → Prop), ga_H D cl tA base b ad w.1 H → va_S (fun q => base ≤ q) s.heap H locs → (∀ (H1 : Heap) (locs1 : List Loc), ga_H D cl tA base b ad w2.1 H1 → va_S (fun q => base ≤ q) s.heap H1 locs1 → W p l e R s m args below meth c H1 locs1 k n Q' (F0 m pc2 ls (st2.map (ga_v b ad)))) → W p l e R s m args below meth c H locs k n Q' (F0 m pc ls (st.map (ga_v b ad))))
    (k : ga_J l S0 D cl tA base b xn p e R s m args below meth c nL Ts own cc ret tb mn fr lo fl ad0 w0 Q pc2 lv st2 w2 o) : ga_J l S0 D cl tA base b xn p e R s m args below meth c nL Ts own cc ret tb mn fr lo fl ad0 w0 Q pc lv st w o := by
  intro r w' ho
  obtain ⟨h1, h4⟩ := k r w' ho
  unfold ga_N at h1
  rw [hc, hn] at h1
  rw [hc, hn] at h4
  exact ⟨h1, fun B a1 a2 a3 a4 ad H locs ls x1 x2 x3 x4 => h B ad H locs _ _ ls _ x2 x3 (fun H1 locs1 y1 y2 => h4 B a1 a2 a3 a4 ad H1 locs1 ls x1 y1 y2 x4)⟩
/-! fields -/
theorem ga_get_spec {ci k a : Nat} {v : Value} (h : ga_get w ci k a = some v) : ∃ fs, w.1[a]? = some (.inr (ci, fs)) ∧ fs[k]? = some v := by
  unfold ga_get at h
  split at h
  · rename_i c' fs hw
    split at h
    · rename_i hc
      subst hc
      exact ⟨fs, hw, h⟩
    · cases h
  · cases h
theorem ga_getv {ci k a index N : Nat} {C : String} {T : u_T} {v : Value} (hin : ∀ x ∈ u_ws C T N, x ∈ Ts) (hc : cl[ci]? = some (C, T, N)) (hk : k < N) (hl : Cond.fieldLink own index (T k).1 (T k).2.1 (T k).2.2.1 ∈ Ts) (d : decode cc pc = .ok (.getfield index, 3)) (hv : ga_get w ci k a = some v)
    (k : ga_J l S0 D cl tA base b xn p e R s m args below meth c nL Ts own cc ret tb mn fr lo fl ad0 w0 Q (pc + 3) lv (v :: st) w o) : ga_J l S0 D cl tA base b xn p e R s m args below meth c nL Ts own cc ret tb mn fr lo fl ad0 w0 Q pc lv (.ref a :: st) w o := by
  obtain ⟨fs, hw, hf⟩ := ga_get_spec hv
  refine ga_ofH (fun B ad H locs k n ls Q' hH hS hl2 kk => ?_) k
  obtain ⟨hx, hb, hml, hr, hown, hts, hlk, hbs, hK, hZ, htb, hmn, hfr, hlo, hst, h00⟩ := B
  exact va_get (D := D) hx hb hts hin hown hK hH.1 a (ga_w_get hw) hc _ hk (hts _ hl) (fun _ h9 => h9) (v := ga_v b ad v) (by simp [hf]) d kk
theorem ga_gi_spec {ci k a : Nat} {x : Int32} (h : ga_gi w ci k a = some x) : ga_get w ci k a = some (.int x) := by
  unfold ga_gi at h
  split at h
  · rename_i y hy
    cases h
    exact hy
  · cases h
theorem ga_gr_spec {ci k a : Nat} {x : Nat} (h : ga_gr w ci k a = some x) : ga_get w ci k a = some (.ref x) := by
  unfold ga_gr at h
  split at h
  · rename_i y hy
    cases h
    exact hy
  · cases h
theorem ga_getI {ci k a index N : Nat} {C : String} {T : u_T} {f : Int32 → ga_O} (hin : ∀ x ∈ u_ws C T N, x ∈ Ts) (hc : cl[ci]? = some (C, T, N)) (hk : k < N) (hl : Cond.fieldLink own index (T k).1 (T k).2.1 (T k).2.2.1 ∈ Ts) (d : decode cc pc = .ok (.getfield index, 3))
    (kk : ∀ x, ga_J l S0 D cl tA base b xn p e R s m args below meth c nL Ts own cc ret tb mn fr lo fl ad0 w0 Q (pc + 3) lv (.int x :: st) w (f x)) : ga_J l S0 D cl tA base b xn p e R s m args below meth c nL Ts own cc ret tb mn fr lo fl ad0 w0 Q pc lv (.ref a :: st) w ((ga_gi w ci k a).bind f) := by
  cases h : ga_gi w ci k a with
  | none => exact ga_no
  | some x => exact ga_getv hin hc hk hl d (ga_gi_spec h) (kk x)
theorem ga_getR {ci k a index N : Nat} {C : String} {T : u_T} {f : Nat → ga_O} (hin : ∀ x ∈ u_ws C T N, x ∈ Ts) (hc : cl[ci]? = some (C, T, N)) (hk : k < N) (hl : Cond.fieldLink own index (T k).1 (T k).2.1 (T k).2.2.1 ∈ Ts) (d : decode cc pc = .ok (.getfield index, 3))
    (kk : ∀ x, ga_J l S0 D cl tA base b xn p e R s m args below meth c nL Ts own cc ret tb mn fr lo fl ad0 w0 Q (pc + 3) lv (.ref x :: st) w (f x)) : ga_J l S0 D cl tA base b xn p e R s m args below meth c nL Ts own cc ret tb mn fr lo fl ad0 w0 Q pc lv (.ref a :: st) w ((ga_gr w ci k a).bind f) := by
  cases h : ga_gr w ci k a with
  | none => exact ga_no
  | some x => exact ga_getv hin hc hk hl d (ga_gr_spec h) (kk x)
theorem ga_put_spec {ci k a : Nat} {v : Value} {w2 : ga_W} (h : ga_put w ci k a v = some w2) : ∃ fs, w.1[a]? = some (.inr (ci, fs)) ∧ k < fs.length ∧ w2 = (w.1.set a (.inr (ci, fs.set k v)), w.2) := by
  unfold ga_put at h
  split at h
  · rename_i c' fs hw
    split at h
    · rename_i hc
      obtain ⟨hc, hk⟩ := hc
      subst hc
      cases h
      exact ⟨fs, hw, hk, rfl⟩
    · cases h
  · cases h
theorem ga_putv {ci k a index N : Nat} {C : String} {T : u_T} {ty0 : Nat → FieldType} {v : Value} {w2 : ga_W} (hin : ∀ x ∈ u_ws C T N, x ∈ Ts) (hty : ∀ k, k < N → parseFieldDescriptor (T k).2.2.1 = some (ty0 k)) (hnm : ∀ a, a < N → ∀ b, b < N → a ≠ b → (T a).2.1 ≠ (T b).2.1) (hc : cl[ci]? = some (C, T, N)) (hk : k < N) (hl : Cond.fieldLink own index (T k).1 (T k).2.1 (T k).2.2.1 ∈ Ts) (hfin : (T k).2.2.2 = false ∨ ((T k).2.2.2 = true ∧ mn = "<init>" ∧ (T k).1 = own)) (hn : ∀ ad, narrow (ty0 k) (ga_v b ad v) = ga_v b ad v ∧ fits (ty0 k) (ga_v b ad v) = true) (d : decode cc pc = .ok (.putfield index, 3)) (hv : ga_put w ci k a v = some w2)
    (kk : ga_J l S0 D cl tA base b xn p e R s m args below meth c nL Ts own cc ret tb mn fr lo fl ad0 w0 Q (pc + 3) lv st w2 o) : ga_J l S0 D cl tA base b xn p e R s m args below meth c nL Ts own cc ret tb mn fr lo fl ad0 w0 Q pc lv (v :: .ref a :: st) w o := by
  obtain ⟨fs, hw, hf, rfl⟩ := ga_put_spec hv
  refine ga_ofP (w2 := (w.1.set a (.inr (ci, fs.set k v)), w.2)) rfl (by simp) (fun B ad H locs k9 n ls Q' hH hS kk => ?_) kk
  obtain ⟨hx, hb, hml, hr, hown, hts, hlk, hbs, hK, hZ, htb, hmn, hfr, hlo, hst, h00⟩ := B
  have key : ∀ (H1 : Heap) (locs1 : List Loc), va_P D cl ((ga_w tA b ad w.1).set a (ad a, .inr (ci, (fs.map (ga_v b ad)).set k (ga_v b ad v)))) H1 → va_D (fun q => base ≤ q) ((ga_w tA b ad w.1).set a (ad a, .inr (ci, (fs.map (ga_v b ad)).set k (ga_v b ad v)))) → va_S (fun q => base ≤ q) s.heap H1 locs1 → W p l e R s m args below meth c H1 locs1 k9 n Q' (F0 m (pc + 3) ls (st.map (ga_v b ad))) := by
    intro H1 locs1 h1 h2 h3
    rw [← List.map_set] at h1 h2
    have e := ga_w_set (tA := tA) (b := b) (ad := ad) (w := w.1) (k := a) (x := .inr (ci, fs.set k v))
    simp only [ga_e] at e
    exact kk H1 locs1 ⟨by rw [← e]; exact h1, by rw [← e]; exact h2⟩ h3
  rcases hfin with hfin | ⟨hfin, hin2, hdecl⟩
  · exact va_put (D := D) hx hb hts hin ty0 hty hnm hown hK hH.1 hH.2 hS a (ga_w_get hw) hc k hk (hts _ hl) (fun _ h9 => h9) hfin (hty _ hk) (hn ad).1 (hn ad).2 (by simpa using hf) d key
  · exact va_putF (D := D) hx hb hts hin ty0 hty hnm hown hK hH.1 hH.2 hS a (ga_w_get hw) hc k hk (hts _ hl) (fun _ h9 => h9) hfin (hmn.trans hin2) hdecl (hty _ hk) (hn ad).1 (hn ad).2 (by simpa using hf) d key
theorem ga_putB {ci k a index N : Nat} {C : String} {T : u_T} {ty0 : Nat → FieldType} {v : Value} {f : ga_W → ga_O} (hin : ∀ x ∈ u_ws C T N, x ∈ Ts) (hty : ∀ k, k < N → parseFieldDescriptor (T k).2.2.1 = some (ty0 k)) (hnm : ∀ a, a < N → ∀ b, b < N → a ≠ b → (T a).2.1 ≠ (T b).2.1) (hc : cl[ci]? = some (C, T, N)) (hk : k < N) (hl : Cond.fieldLink own index (T k).1 (T k).2.1 (T k).2.2.1 ∈ Ts) (hfin : (T k).2.2.2 = false ∨ ((T k).2.2.2 = true ∧ mn = "<init>" ∧ (T k).1 = own)) (hn : ∀ ad, narrow (ty0 k) (ga_v b ad v) = ga_v b ad v ∧ fits (ty0 k) (ga_v b ad v) = true) (d : decode cc pc = .ok (.putfield index, 3))
    (kk : ∀ w2, ga_J l S0 D cl tA base b xn p e R s m args below meth c nL Ts own cc ret tb mn fr lo fl ad0 w0 Q (pc + 3) lv st w2 (f w2)) : ga_J l S0 D cl tA base b xn p e R s m args below meth c nL Ts own cc ret tb mn fr lo fl ad0 w0 Q pc lv (v :: .ref a :: st) w ((ga_put w ci k a v).bind f) := by
  cases h : ga_put w ci k a v with
  | none => exact ga_no
  | some w2 => exact ga_putv hin hty hnm hc hk hl hfin hn d h (kk w2)
/-! arrays -/
theorem ga_ai_spec {t a : Nat} {i : Int32} {x : Int32} (h : ga_ai w t a i = some x) : ∃ n f, w.1[a]? = some (.inl (t, n, .inl f)) ∧ vp_in i n ∧ x = f i.toNatClampNeg := by
  unfold ga_ai at h
  split at h
  · rename_i t' n f hw
    split at h
    · rename_i hc
      obtain ⟨hc, hi⟩ := hc
      subst hc
      cases h
      exact ⟨n, f, hw, hi, rfl⟩
    · cases h
  · cases h
theorem ga_ldI {t a : Nat} {i : Int32} {cA : ClassId} {f : Int32 → ga_O} (ht : tA[t]? = some (cA, .int)) (d : decode cc pc = .ok (.iaload, 1)) (kk : ∀ x, ga_J l S0 D cl tA base b xn p e R s m args below meth c nL Ts own cc ret tb mn fr lo fl ad0 w0 Q (pc + 1) lv (.int x :: st) w (f x)) : ga_J l S0 D cl tA base b xn p e R s m args below meth c nL Ts own cc ret tb mn fr lo fl ad0 w0 Q pc lv (.int i :: .ref a :: st) w ((ga_ai w t a i).bind f) := by
  cases h : ga_ai w t a i with
  | none => exact ga_no
  | some x =>
    obtain ⟨n, g, hw, hi, rfl⟩ := ga_ai_spec h
    refine ga_ofH (fun B ad H locs k n ls Q' hH hS hl2 k2 => ?_) (kk _)
    obtain ⟨hx, hb, hml, hr, hown, hts, hlk, hbs, hK, hZ, htb, hmn, hfr, hlo, hst, h00⟩ := B
    have e := ga_w_get (tA := tA) (b := b) (ad := ad) hw
    have e2 : (tA.getD t (0, .int)).1 = cA := by simp [List.getD, ht]
    simp only [ga_e, e2] at e
    exact va_iald hx hb hK hH.1 a t e ht hi d k2
theorem ga_si_spec {t a : Nat} {i : Int32} {x : Int32} {w2 : ga_W} (h : ga_si w t a i x = some w2) : ∃ n f, w.1[a]? = some (.inl (t, n, .inl f)) ∧ vp_in i n ∧ w2 = (w.1.set a (.inl (t, n, .inl (upd f i.toNatClampNeg x))), w.2) := by
  unfold ga_si at h
  split at h
  · rename_i t' n f hw
    split at h
    · rename_i hc
      obtain ⟨hc, hi⟩ := hc
      subst hc
      cases h
      exact ⟨n, f, hw, hi, rfl⟩
    · cases h
  · cases h
theorem ga_stI {t a : Nat} {i : Int32} {x : Int32} {cA : ClassId} {f : ga_W → ga_O} (ht : tA[t]? = some (cA, .int)) (d : decode cc pc = .ok (.iastore, 1)) (kk : ∀ w2, ga_J l S0 D cl tA base b xn p e R s m args below meth c nL Ts own cc ret tb mn fr lo fl ad0 w0 Q (pc + 1) lv st w2 (f w2)) : ga_J l S0 D cl tA base b xn p e R s m args below meth c nL Ts own cc ret tb mn fr lo fl ad0 w0 Q pc lv (.int x :: .int i :: .ref a :: st) w ((ga_si w t a i x).bind f) := by
  cases h : ga_si w t a i x with
  | none => exact ga_no
  | some w2 =>
    obtain ⟨n, g, hw, hi, rfl⟩ := ga_si_spec h
    refine ga_ofP (w2 := (w.1.set a (.inl (t, n, .inl (upd g i.toNatClampNeg x))), w.2)) rfl (by simp) (fun B ad H locs k n2 ls Q' hH hS k2 => ?_) (kk _)
    obtain ⟨hx, hb, hml, hr, hown, hts, hlk, hbs, hK, hZ, htb, hmn, hfr, hlo, hst, h00⟩ := B
    have e := ga_w_get (tA := tA) (b := b) (ad := ad) hw
    have e2 : (tA.getD t (0, .int)).1 = cA := by simp [List.getD, ht]
    have e3 := ga_w_set (tA := tA) (b := b) (ad := ad) (w := w.1) (k := a) (x := .inl (t, n, .inl (upd g i.toNatClampNeg x)))
    simp only [ga_e, e2] at e e3
    exact va_iast hx hb hK hH.1 hH.2 hS a t e ht hi d (fun H1 locs1 h1 h2 h3 => k2 H1 locs1 ⟨by rw [← e3]; exact h1, by rw [← e3]; exact h2⟩ h3)
theorem ga_az_spec {t a : Nat} {i : Int32} {x : Int32} (h : ga_az w t a i = some x) : ∃ n f, w.1[a]? = some (.inl (t, n, .inl f)) ∧ vp_in i n ∧ x = f i.toNatClampNeg := by
  unfold ga_az at h
  split at h
  · rename_i t' n f hw
    split at h
    · rename_i hc
      obtain ⟨hc, hi⟩ := hc
      subst hc
      cases h
      exact ⟨n, f, hw, hi, rfl⟩
    · cases h
  · cases h
theorem ga_ldZ {t a : Nat} {i : Int32} {cA : ClassId} {f : Int32 → ga_O} (ht : tA[t]? = some (cA, .boolean)) (d : decode cc pc = .ok (.baload, 1)) (kk : ∀ x, ga_J l S0 D cl tA base b xn p e R s m args below meth c nL Ts own cc ret tb mn fr lo fl ad0 w0 Q (pc + 1) lv (.int x :: st) w (f x)) : ga_J l S0 D cl tA base b xn p e R s m args below meth c nL Ts own cc ret tb mn fr lo fl ad0 w0 Q pc lv (.int i :: .ref a :: st) w ((ga_az w t a i).bind f) := by
  cases h : ga_az w t a i with
  | none => exact ga_no
  | some x =>
    obtain ⟨n, g, hw, hi, rfl⟩ := ga_az_spec h
    refine ga_ofH (fun B ad H locs k n ls Q' hH hS hl2 k2 => ?_) (kk _)
    obtain ⟨hx, hb, hml, hr, hown, hts, hlk, hbs, hK, hZ, htb, hmn, hfr, hlo, hst, h00⟩ := B
    have e := ga_w_get (tA := tA) (b := b) (ad := ad) hw
    have e2 : (tA.getD t (0, .int)).1 = cA := by simp [List.getD, ht]
    simp only [ga_e, e2] at e
    exact va_zald hx hb hK hH.1 a t e ht hi d k2
theorem ga_sz_spec {t a : Nat} {i : Int32} {x : Int32} {w2 : ga_W} (h : ga_sz w t a i x = some w2) : ∃ n f, w.1[a]? = some (.inl (t, n, .inl f)) ∧ vp_in i n ∧ w2 = (w.1.set a (.inl (t, n, .inl (upd f i.toNatClampNeg (vp_nar .boolean x)))), w.2) := by
  unfold ga_sz at h
  split at h
  · rename_i t' n f hw
    split at h
    · rename_i hc
      obtain ⟨hc, hi⟩ := hc
      subst hc
      cases h
      exact ⟨n, f, hw, hi, rfl⟩
    · cases h
  · cases h
theorem ga_stZ {t a : Nat} {i : Int32} {x : Int32} {cA : ClassId} {f : ga_W → ga_O} (ht : tA[t]? = some (cA, .boolean)) (d : decode cc pc = .ok (.bastore, 1)) (kk : ∀ w2, ga_J l S0 D cl tA base b xn p e R s m args below meth c nL Ts own cc ret tb mn fr lo fl ad0 w0 Q (pc + 1) lv st w2 (f w2)) : ga_J l S0 D cl tA base b xn p e R s m args below meth c nL Ts own cc ret tb mn fr lo fl ad0 w0 Q pc lv (.int x :: .int i :: .ref a :: st) w ((ga_sz w t a i x).bind f) := by
  cases h : ga_sz w t a i x with
  | none => exact ga_no
  | some w2 =>
    obtain ⟨n, g, hw, hi, rfl⟩ := ga_sz_spec h
    refine ga_ofP (w2 := (w.1.set a (.inl (t, n, .inl (upd g i.toNatClampNeg (vp_nar .boolean x)))), w.2)) rfl (by simp) (fun B ad H locs k n2 ls Q' hH hS k2 => ?_) (kk _)
    obtain ⟨hx, hb, hml, hr, hown, hts, hlk, hbs, hK, hZ, htb, hmn, hfr, hlo, hst, h00⟩ := B
    have e := ga_w_get (tA := tA) (b := b) (ad := ad) hw
    have e2 : (tA.getD t (0, .int)).1 = cA := by simp [List.getD, ht]
    have e3 := ga_w_set (tA := tA) (b := b) (ad := ad) (w := w.1) (k := a) (x := .inl (t, n, .inl (upd g i.toNatClampNeg (vp_nar .boolean x))))
    simp only [ga_e, e2] at e e3
    exact va_zast hx hb hK hH.1 hH.2 hS a t e ht hi d (fun H1 locs1 h1 h2 h3 => k2 H1 locs1 ⟨by rw [← e3]; exact h1, by rw [← e3]; exact h2⟩ h3)
theorem ga_al_spec {t a : Nat} {i : Int32} {x : Int64} (h : ga_al w t a i = some x) : ∃ n f, w.1[a]? = some (.inl (t, n, .inr (.inl f))) ∧ vp_in i n ∧ x = f i.toNatClampNeg := by
  unfold ga_al at h
  split at h
  · rename_i t' n f hw
    split at h
    · rename_i hc
      obtain ⟨hc, hi⟩ := hc
      subst hc
      cases h
      exact ⟨n, f, hw, hi, rfl⟩
    · cases h
  · cases h
theorem ga_ldL {t a : Nat} {i : Int32} {cA : ClassId} {f : Int64 → ga_O} (ht : tA[t]? = some (cA, .long)) (d : decode cc pc = .ok (.laload, 1)) (kk : ∀ x, ga_J l S0 D cl tA base b xn p e R s m args below meth c nL Ts own cc ret tb mn fr lo fl ad0 w0 Q (pc + 1) lv (.long x :: st) w (f x)) : ga_J l S0 D cl tA base b xn p e R s m args below meth c nL Ts own cc ret tb mn fr lo fl ad0 w0 Q pc lv (.int i :: .ref a :: st) w ((ga_al w t a i).bind f) := by
  cases h : ga_al w t a i with
  | none => exact ga_no
  | some x =>
    obtain ⟨n, g, hw, hi, rfl⟩ := ga_al_spec h
    refine ga_ofH (fun B ad H locs k n ls Q' hH hS hl2 k2 => ?_) (kk _)
    obtain ⟨hx, hb, hml, hr, hown, hts, hlk, hbs, hK, hZ, htb, hmn, hfr, hlo, hst, h00⟩ := B
    have e := ga_w_get (tA := tA) (b := b) (ad := ad) hw
    have e2 : (tA.getD t (0, .int)).1 = cA := by simp [List.getD, ht]
    simp only [ga_e, e2] at e
    exact va_lald hx hb hK hH.1 a t e ht hi d k2
theorem ga_sl_spec {t a : Nat} {i : Int32} {x : Int64} {w2 : ga_W} (h : ga_sl w t a i x = some w2) : ∃ n f, w.1[a]? = some (.inl (t, n, .inr (.inl f))) ∧ vp_in i n ∧ w2 = (w.1.set a (.inl (t, n, .inr (.inl (vp_updL f i.toNatClampNeg x)))), w.2) := by
  unfold ga_sl at h
  split at h
  · rename_i t' n f hw
    split at h
    · rename_i hc
      obtain ⟨hc, hi⟩ := hc
      subst hc
      cases h
      exact ⟨n, f, hw, hi, rfl⟩
    · cases h
  · cases h
theorem ga_stL {t a : Nat} {i : Int32} {x : Int64} {cA : ClassId} {f : ga_W → ga_O} (ht : tA[t]? = some (cA, .long)) (d : decode cc pc = .ok (.lastore, 1)) (kk : ∀ w2, ga_J l S0 D cl tA base b xn p e R s m args below meth c nL Ts own cc ret tb mn fr lo fl ad0 w0 Q (pc + 1) lv st w2 (f w2)) : ga_J l S0 D cl tA base b xn p e R s m args below meth c nL Ts own cc ret tb mn fr lo fl ad0 w0 Q pc lv (.long x :: .int i :: .ref a :: st) w ((ga_sl w t a i x).bind f) := by
  cases h : ga_sl w t a i x with
  | none => exact ga_no
  | some w2 =>
    obtain ⟨n, g, hw, hi, rfl⟩ := ga_sl_spec h
    refine ga_ofP (w2 := (w.1.set a (.inl (t, n, .inr (.inl (vp_updL g i.toNatClampNeg x)))), w.2)) rfl (by simp) (fun B ad H locs k n2 ls Q' hH hS k2 => ?_) (kk _)
    obtain ⟨hx, hb, hml, hr, hown, hts, hlk, hbs, hK, hZ, htb, hmn, hfr, hlo, hst, h00⟩ := B
    have e := ga_w_get (tA := tA) (b := b) (ad := ad) hw
    have e2 : (tA.getD t (0, .int)).1 = cA := by simp [List.getD, ht]
    have e3 := ga_w_set (tA := tA) (b := b) (ad := ad) (w := w.1) (k := a) (x := .inl (t, n, .inr (.inl (vp_updL g i.toNatClampNeg x))))
    simp only [ga_e, e2] at e e3
    exact va_last hx hb hK hH.1 hH.2 hS a t e ht hi d (fun H1 locs1 h1 h2 h3 => k2 H1 locs1 ⟨by rw [← e3]; exact h1, by rw [← e3]; exact h2⟩ h3)
theorem ga_ad_spec {t a : Nat} {i : Int32} {x : UInt64} (h : ga_ad w t a i = some x) : ∃ n f, w.1[a]? = some (.inl (t, n, .inr (.inr (.inr (.inl f))))) ∧ vp_in i n ∧ x = f i.toNatClampNeg := by
  unfold ga_ad at h
  split at h
  · rename_i t' n f hw
    split at h
    · rename_i hc
      obtain ⟨hc, hi⟩ := hc
      subst hc
      cases h
      exact ⟨n, f, hw, hi, rfl⟩
    · cases h
  · cases h
theorem ga_ldD {t a : Nat} {i : Int32} {cA : ClassId} {f : UInt64 → ga_O} (ht : tA[t]? = some (cA, .double)) (d : decode cc pc = .ok (.daload, 1)) (kk : ∀ x, ga_J l S0 D cl tA base b xn p e R s m args below meth c nL Ts own cc ret tb mn fr lo fl ad0 w0 Q (pc + 1) lv (.double x :: st) w (f x)) : ga_J l S0 D cl tA base b xn p e R s m args below meth c nL Ts own cc ret tb mn fr lo fl ad0 w0 Q pc lv (.int i :: .ref a :: st) w ((ga_ad w t a i).bind f) := by
  cases h : ga_ad w t a i with
  | none => exact ga_no
  | some x =>
    obtain ⟨n, g, hw, hi, rfl⟩ := ga_ad_spec h
    refine ga_ofH (fun B ad H locs k n ls Q' hH hS hl2 k2 => ?_) (kk _)
    obtain ⟨hx, hb, hml, hr, hown, hts, hlk, hbs, hK, hZ, htb, hmn, hfr, hlo, hst, h00⟩ := B
    have e := ga_w_get (tA := tA) (b := b) (ad := ad) hw
    have e2 : (tA.getD t (0, .int)).1 = cA := by simp [List.getD, ht]
    simp only [ga_e, e2] at e
    exact va_dald hx hb hK hH.1 a t e ht hi d k2
theorem ga_sd_spec {t a : Nat} {i : Int32} {x : UInt64} {w2 : ga_W} (h : ga_sd w t a i x = some w2) : ∃ n f, w.1[a]? = some (.inl (t, n, .inr (.inr (.inr (.inl f))))) ∧ vp_in i n ∧ w2 = (w.1.set a (.inl (t, n, .inr (.inr (.inr (.inl (vf_upd f i.toNatClampNeg x)))))), w.2) := by
  unfold ga_sd at h
  split at h
  · rename_i t' n f hw
    split at h
    · rename_i hc
      obtain ⟨hc, hi⟩ := hc
      subst hc
      cases h
      exact ⟨n, f, hw, hi, rfl⟩
    · cases h
  · cases h
theorem ga_stD {t a : Nat} {i : Int32} {x : UInt64} {cA : ClassId} {f : ga_W → ga_O} (ht : tA[t]? = some (cA, .double)) (d : decode cc pc = .ok (.dastore, 1)) (kk : ∀ w2, ga_J l S0 D cl tA base b xn p e R s m args below meth c nL Ts own cc ret tb mn fr lo fl ad0 w0 Q (pc + 1) lv st w2 (f w2)) : ga_J l S0 D cl tA base b xn p e R s m args below meth c nL Ts own cc ret tb mn fr lo fl ad0 w0 Q pc lv (.double x :: .int i :: .ref a :: st) w ((ga_sd w t a i x).bind f) := by
  cases h : ga_sd w t a i x with
  | none => exact ga_no
  | some w2 =>
    obtain ⟨n, g, hw, hi, rfl⟩ := ga_sd_spec h
    refine ga_ofP (w2 := (w.1.set a (.inl (t, n, .inr (.inr (.inr (.inl (vf_upd g i.toNatClampNeg x)))))), w.2)) rfl (by simp) (fun B ad H locs k n2 ls Q' hH hS k2 => ?_) (kk _)
    obtain ⟨hx, hb, hml, hr, hown, hts, hlk, hbs, hK, hZ, htb, hmn, hfr, hlo, hst, h00⟩ := B
    have e := ga_w_get (tA := tA) (b := b) (ad := ad) hw
    have e2 : (tA.getD t (0, .int)).1 = cA := by simp [List.getD, ht]
    have e3 := ga_w_set (tA := tA) (b := b) (ad := ad) (w := w.1) (k := a) (x := .inl (t, n, .inr (.inr (.inr (.inl (vf_upd g i.toNatClampNeg x))))))
    simp only [ga_e, e2] at e e3
    exact va_dast hx hb hK hH.1 hH.2 hS a t e ht hi d (fun H1 locs1 h1 h2 h3 => k2 H1 locs1 ⟨by rw [← e3]; exact h1, by rw [← e3]; exact h2⟩ h3)
theorem ga_len_spec {t a n : Nat} (h : ga_len w t a = some n) : ∃ x : vp_A, w.1[a]? = some (.inl (t, x)) ∧ x.1 = n := by
  unfold ga_len at h
  split at h
  · rename_i t' n' x hw
    split at h
    · rename_i hc
      subst hc
      cases h
      exact ⟨_, hw, rfl⟩
    · cases h
  · cases h
theorem ga_alen {t a : Nat} {cA : ClassId} {ty : FieldType} {f : Nat → ga_O} (ht : tA[t]? = some (cA, ty)) (d : decode cc pc = .ok (.arraylength, 1)) (kk : ∀ n, ga_J l S0 D cl tA base b xn p e R s m args below meth c nL Ts own cc ret tb mn fr lo fl ad0 w0 Q (pc + 1) lv (.int (Int32.ofNat n) :: st) w (f n)) : ga_J l S0 D cl tA base b xn p e R s m args below meth c nL Ts own cc ret tb mn fr lo fl ad0 w0 Q pc lv (.ref a :: st) w ((ga_len w t a).bind f) := by
  cases h : ga_len w t a with
  | none => exact ga_no
  | some n =>
    obtain ⟨x, hw, rfl⟩ := ga_len_spec h
    refine ga_ofH (fun B ad H locs k n ls Q' hH hS hl2 k2 => ?_) (kk _)
    obtain ⟨hx, hb, hml, hr, hown, hts, hlk, hbs, hK, hZ, htb, hmn, hfr, hlo, hst, h00⟩ := B
    have e := ga_w_get (tA := tA) (b := b) (ad := ad) hw
    have e2 : (tA.getD t (0, .int)).1 = cA := by simp [List.getD, ht]
    simp only [ga_e, e2] at e
    exact va_alen hx hb hK hH.1 a t e ht rfl d k2
end GB
