/-! A WORLD BY PLACES. A cell is named by its place in a list; ga_v turns a place into its address ('.float' stands for the script). ga_J: the machine at a place of a body computes the pure answer o; ga_M: so does a method. -/
abbrev ga_E : Type := (Nat × vp_A) ⊕ (Nat × List Value)
abbrev ga_W : Type := List ga_E × Nat × Nat
abbrev ga_R : Type := Option Value ⊕ Nat
abbrev ga_O : Type := Option (ga_R × ga_W)
def ga_v (b : Nat) (ad : Nat → Nat) : Value → Value
  | .ref k => .ref (ad k)
  | .float _ => .ref b
  | v => v
theorem ga_cat (b : Nat) (ad : Nat → Nat) (v : Value) : (ga_v b ad v).category = v.category := by cases v <;> rfl
def ga_l (b : Nat) (ad : Nat → Nat) (lv : List (Nat × Value)) : List (Nat × Value) := lv.map fun q => (q.1, ga_v b ad q.2)
theorem ga_l_at {b : Nat} {ad : Nat → Nat} {lv : List (Nat × Value)} {k i : Nat} {v : Value} (h : lv[k]? = some (i, v)) : (ga_l b ad lv)[k]? = some (i, ga_v b ad v) := by
  simp [ga_l, h]
def ga_s1 (lv : List (Nat × Value)) (i : Nat) (v : Value) : List (Nat × Value) := (i, v) :: lv.filter (fun q => !(q.1 == i) && !(q.1 + 1 == i && q.2.category == 2))
def ga_s2 (lv : List (Nat × Value)) (i : Nat) (v : Value) : List (Nat × Value) := (i, v) :: lv.filter (fun q => !(q.1 == i) && (!(q.1 == i + 1) && !(q.1 + 1 == i && q.2.category == 2)))
theorem ga_s1_l (b : Nat) (ad : Nat → Nat) (lv : List (Nat × Value)) (i : Nat) (v : Value) : (i, ga_v b ad v) :: (ga_l b ad lv).filter (fun q => !(q.1 == i) && !(q.1 + 1 == i && q.2.category == 2)) = ga_l b ad (ga_s1 lv i v) := by
  simp only [ga_l, ga_s1, List.map_cons, List.filter_map, Function.comp_def, ga_cat]
theorem ga_s2_l (b : Nat) (ad : Nat → Nat) (lv : List (Nat × Value)) (i : Nat) (v : Value) : (i, ga_v b ad v) :: (ga_l b ad lv).filter (fun q => !(q.1 == i) && (!(q.1 == i + 1) && !(q.1 + 1 == i && q.2.category == 2))) = ga_l b ad (ga_s2 lv i v) := by
  simp only [ga_l, ga_s2, List.map_cons, List.filter_map, Function.comp_def, ga_cat]
theorem ga_l_args (b : Nat) (ad : Nat → Nat) : ∀ (i : Nat) (vs : List Value), lv_args i (vs.map (ga_v b ad)) = ga_l b ad (lv_args i vs)
  | _, [] => rfl
  | i, v :: vs => by
    simp only [List.map_cons, lv_args, ga_cat, ga_l_args b ad _ vs]
    rfl
theorem ga_sl_len (b : Nat) (ad : Nat → Nat) (vs : List Value) : (lg_sl (vs.map (ga_v b ad))).length = (lg_sl vs).length := by
  induction vs with
  | nil => rfl
  | cons v vs ih =>
    simp only [lg_sl, List.map_cons, List.flatMap_cons, List.length_append, ga_cat] at ih ⊢
    rw [ih]
    split <;> rfl
theorem ga_catsum (b : Nat) (ad : Nat → Nat) (st : List Value) : ((st.map (ga_v b ad)).map fun v => v.category).sum = (st.map fun v => v.category).sum := by
  simp only [List.map_map, Function.comp_def, ga_cat]
def ga_e (tA : List (ClassId × FieldType)) (b : Nat) (ad : Nat → Nat) (x : ga_E) : va_E := match x with
  | .inl x => .inl ((tA.getD x.1 (0, .int)).1, x.2)
  | .inr o => .inr (o.1, o.2.map (ga_v b ad))
def ga_w (tA : List (ClassId × FieldType)) (b : Nat) (ad : Nat → Nat) (w : List ga_E) : va_W := w.mapIdx fun k x => (ad k, ga_e tA b ad x)
theorem ga_w_get {tA : List (ClassId × FieldType)} {b : Nat} {ad : Nat → Nat} {w : List ga_E} {k : Nat} {x : ga_E} (h : w[k]? = some x) : (ga_w tA b ad w)[k]? = some (ad k, ga_e tA b ad x) := by
  simp [ga_w, List.getElem?_mapIdx, h]
theorem ga_w_set {tA : List (ClassId × FieldType)} {b : Nat} {ad : Nat → Nat} {w : List ga_E} {k : Nat} {x : ga_E} : (ga_w tA b ad w).set k (ad k, ga_e tA b ad x) = ga_w tA b ad (w.set k x) := by
  apply List.ext_getElem?
  intro i
  by_cases h : k = i
  · subst h
    by_cases hl : k < w.length
    · rw [List.getElem?_set_self (by simpa [ga_w] using hl)]
      exact (ga_w_get (List.getElem?_set_self hl)).symm
    · rw [List.getElem?_eq_none (by simpa [ga_w] using hl), List.getElem?_eq_none (by simpa [ga_w] using hl)]
  · rw [List.getElem?_set_ne h]
    simp [ga_w, List.getElem?_mapIdx, List.getElem?_set_ne h]
theorem ga_w_len {tA : List (ClassId × FieldType)} {b : Nat} {ad : Nat → Nat} {w : List ga_E} : (ga_w tA b ad w).length = w.length := by simp [ga_w]
def ga_H (D : va_G) (cl : List vw_C) (tA : List (ClassId × FieldType)) (base b : Nat) (ad : Nat → Nat) (w : List ga_E) (H : Heap) : Prop := va_P D cl (ga_w tA b ad w) H ∧ va_D (fun q => base ≤ q) (ga_w tA b ad w)
def ga_X (n0 : Nat) (ad0 : Nat → Nat) (n : Nat) (ad : Nat → Nat) : Prop := n0 ≤ n ∧ ∀ k, k < n0 ∨ n ≤ k → ad k = ad0 k
theorem ga_X.rf {n : Nat} {ad : Nat → Nat} : ga_X n ad n ad := ⟨Nat.le_refl _, fun _ _ => rfl⟩
theorem ga_X.tr {n0 n1 n2 : Nat} {a0 a1 a2 : Nat → Nat} (h : ga_X n0 a0 n1 a1) (g : ga_X n1 a1 n2 a2) : ga_X n0 a0 n2 a2 := by
  refine ⟨Nat.le_trans h.1 g.1, fun k hk => ?_⟩
  have h1 := h.1
  have h2 := g.1
  rw [g.2 k (by omega), h.2 k (by omega)]
theorem ga_X.eq {n : Nat} {a0 a1 : Nat → Nat} (h : ga_X n a0 n a1) : a1 = a0 := funext fun k => h.2 k (by omega)
