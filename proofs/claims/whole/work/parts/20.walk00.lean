/-! WALKS: E_init, M_init, S_init, O_init, V_init, J_fill, L_init, L_sync, S_clear, E_addFrom, S_hasLooseRows, S_endTable -/
section GM0
variable {l : Launch} {S0 : State} {D : va_G} {cT : Nat → ClassId} {base b : Nat} {p : Program} {e : Env} {R : Room} {s : State} {m : MethodId} {args : Array Value} {below : List Frame} {meth : Method} {c : Code} {ad0 : Nat → Nat} {w0 : ga_W}
noncomputable def f_E_init (F : Nat) (p0 : Nat) (p1 : Int32) (w : ga_W) : ga_O :=
  (if ¬ p1 < 0 ∧ (p1).toNatClampNeg ≤ 60000 then (if ga_okA w [(0, .ref p0), (1, .int p1)] [.ref p0] = true then ga_at (w.1 ++ [.inl (0, (p1).toNatClampNeg, .inl (fun _ => 0))], w.2.1 + 1, w.2.2 + (p1).toNatClampNeg) (fun w1 => ((ga_put w1 0 0 p0 (.ref w.1.length)).bind fun w2 => (if ¬ p1 < 0 ∧ (p1).toNatClampNeg ≤ 60000 then (if ga_okA w2 [(0, .ref p0), (1, .int p1)] [.ref p0] = true then ga_at (w2.1 ++ [.inl (0, (p1).toNatClampNeg, .inl (fun _ => 0))], w2.2.1 + 1, w2.2.2 + (p1).toNatClampNeg) (fun w3 => ((ga_put w3 0 1 p0 (.ref w2.1.length)).bind fun w4 => (if ¬ p1 < 0 ∧ (p1).toNatClampNeg ≤ 60000 then (if ga_okA w4 [(0, .ref p0), (1, .int p1)] [.ref p0] = true then ga_at (w4.1 ++ [.inl (0, (p1).toNatClampNeg, .inl (fun _ => 0))], w4.2.1 + 1, w4.2.2 + (p1).toNatClampNeg) (fun w5 => ((ga_put w5 0 2 p0 (.ref w4.1.length)).bind fun w6 => (if ¬ p1 < 0 ∧ (p1).toNatClampNeg ≤ 60000 then (if ga_okA w6 [(0, .ref p0), (1, .int p1)] [.ref p0] = true then ga_at (w6.1 ++ [.inl (1, (p1).toNatClampNeg, .inl (fun _ => 0))], w6.2.1 + 1, w6.2.2 + (p1).toNatClampNeg) (fun w7 => ((ga_put w7 0 3 p0 (.ref w6.1.length)).bind fun w8 => (if ¬ p1 < 0 ∧ (p1).toNatClampNeg ≤ 60000 then (if ga_okA w8 [(0, .ref p0), (1, .int p1)] [.ref p0] = true then ga_at (w8.1 ++ [.inl (1, (p1).toNatClampNeg, .inl (fun _ => 0))], w8.2.1 + 1, w8.2.2 + (p1).toNatClampNeg) (fun w9 => ((ga_put w9 0 4 p0 (.ref w8.1.length)).bind fun w10 => (some (.inl none, w10)))) else none) else none))) else none) else none))) else none) else none))) else none) else none))) else none) else none)
set_option maxHeartbeats 4000000 in
set_option maxRecDepth 100000 in
theorem m_E_init (hst : l.stackTraces = false) (F : Nat) (p0 : Nat) (p1 : Int32) (w : ga_W) : ga_M l S0 D gz_cl (gz_tA cT) base b gz_xn y_E_init ws_E_init 1 20 false [.ref p0, .int p1] w (f_E_init F p0 p1 w) := by
  refine ga_enter (cc := c_E_init) (maxL := 2) (ret := none) hst (by decide) rfl (Nat.le_of_ble_eq_true rfl) ?_
  intro p e R s m args below meth c ad0
  refine ga_sub (lv2 := [(0, .ref p0), (1, .int p1)]) [0, 1] rfl ?_
  unfold f_E_init
  refine ga_aload_n (q := 0) d_E_init_0 rfl rfl ?_
  refine ga_objInit (List.mem_cons_of_mem _ gw_88) (List.mem_cons_of_mem _ gw_75) (List.mem_cons_of_mem _ gw_76) (Nat.le_of_ble_eq_true rfl) (by decide) (by decide) d_E_init_1 ?_
  refine ga_aload_n (q := 0) d_E_init_4 rfl rfl ?_
  refine ga_iload_n (q := 1) d_E_init_5 rfl rfl ?_
  refine ga_guard (fun h15 => ?_)
  refine ga_newa (atype := .int) (t := 0) (N := (p1).toNatClampNeg) (x := .inl (fun _ => 0)) rfl (List.mem_cons_of_mem _ gw_129) rfl (fun _ h => nomatch h) rfl (fun _ => ga_zr0 _ _) h15.1 rfl (ga_by h15.2 (by decide)) d_E_init_6 ?_
  refine ga_namedW (fun w1 => ?_)
  refine ga_putB (C := "LevelStore$Entries") (T := T_E) (N := 6) (k := 0) (ci := 0) (ty0 := ty_E) (fun x h => List.mem_cons_of_mem _ (iw_E x h)) ty_E_ok nm_E rfl (by decide) (List.mem_cons_of_mem _ gw_89) (Or.inr ⟨rfl, rfl, rfl⟩) (fun _ => ⟨rfl, rfl⟩) d_E_init_8 (fun w2 => ?_)
  refine ga_aload_n (q := 0) d_E_init_11 rfl rfl ?_
  refine ga_iload_n (q := 1) d_E_init_12 rfl rfl ?_
  refine ga_guard (fun h14 => ?_)
  refine ga_newa (atype := .int) (t := 0) (N := (p1).toNatClampNeg) (x := .inl (fun _ => 0)) rfl (List.mem_cons_of_mem _ gw_129) rfl (fun _ h => nomatch h) rfl (fun _ => ga_zr0 _ _) h14.1 rfl (ga_by h14.2 (by decide)) d_E_init_13 ?_
  refine ga_namedW (fun w3 => ?_)
  refine ga_putB (C := "LevelStore$Entries") (T := T_E) (N := 6) (k := 1) (ci := 0) (ty0 := ty_E) (fun x h => List.mem_cons_of_mem _ (iw_E x h)) ty_E_ok nm_E rfl (by decide) (List.mem_cons_of_mem _ gw_95) (Or.inr ⟨rfl, rfl, rfl⟩) (fun _ => ⟨rfl, rfl⟩) d_E_init_15 (fun w4 => ?_)
  refine ga_aload_n (q := 0) d_E_init_18 rfl rfl ?_
  refine ga_iload_n (q := 1) d_E_init_19 rfl rfl ?_
  refine ga_guard (fun h13 => ?_)
  refine ga_newa (atype := .int) (t := 0) (N := (p1).toNatClampNeg) (x := .inl (fun _ => 0)) rfl (List.mem_cons_of_mem _ gw_129) rfl (fun _ h => nomatch h) rfl (fun _ => ga_zr0 _ _) h13.1 rfl (ga_by h13.2 (by decide)) d_E_init_20 ?_
  refine ga_namedW (fun w5 => ?_)
  refine ga_putB (C := "LevelStore$Entries") (T := T_E) (N := 6) (k := 2) (ci := 0) (ty0 := ty_E) (fun x h => List.mem_cons_of_mem _ (iw_E x h)) ty_E_ok nm_E rfl (by decide) (List.mem_cons_of_mem _ gw_99) (Or.inr ⟨rfl, rfl, rfl⟩) (fun _ => ⟨rfl, rfl⟩) d_E_init_22 (fun w6 => ?_)
  refine ga_aload_n (q := 0) d_E_init_25 rfl rfl ?_
  refine ga_iload_n (q := 1) d_E_init_26 rfl rfl ?_
  refine ga_guard (fun h12 => ?_)
  refine ga_newa (atype := .boolean) (t := 1) (N := (p1).toNatClampNeg) (x := .inl (fun _ => 0)) rfl (List.mem_cons_of_mem _ gw_130) rfl (fun _ h => nomatch h) rfl (fun _ => ga_zr1 _ _) h12.1 rfl (ga_by h12.2 (by decide)) d_E_init_27 ?_
  refine ga_namedW (fun w7 => ?_)
  refine ga_putB (C := "LevelStore$Entries") (T := T_E) (N := 6) (k := 3) (ci := 0) (ty0 := ty_E) (fun x h => List.mem_cons_of_mem _ (iw_E x h)) ty_E_ok nm_E rfl (by decide) (List.mem_cons_of_mem _ gw_102) (Or.inr ⟨rfl, rfl, rfl⟩) (fun _ => ⟨rfl, rfl⟩) d_E_init_29 (fun w8 => ?_)
  refine ga_aload_n (q := 0) d_E_init_32 rfl rfl ?_
  refine ga_iload_n (q := 1) d_E_init_33 rfl rfl ?_
  refine ga_guard (fun h11 => ?_)
  refine ga_newa (atype := .boolean) (t := 1) (N := (p1).toNatClampNeg) (x := .inl (fun _ => 0)) rfl (List.mem_cons_of_mem _ gw_130) rfl (fun _ h => nomatch h) rfl (fun _ => ga_zr1 _ _) h11.1 rfl (ga_by h11.2 (by decide)) d_E_init_34 ?_
  refine ga_namedW (fun w9 => ?_)
  refine ga_putB (C := "LevelStore$Entries") (T := T_E) (N := 6) (k := 4) (ci := 0) (ty0 := ty_E) (fun x h => List.mem_cons_of_mem _ (iw_E x h)) ty_E_ok nm_E rfl (by decide) (List.mem_cons_of_mem _ gw_106) (Or.inr ⟨rfl, rfl, rfl⟩) (fun _ => ⟨rfl, rfl⟩) d_E_init_36 (fun w10 => ?_)
  exact ga_vret rfl d_E_init_39
noncomputable def f_M_init (F : Nat) (p0 : Nat) (w : ga_W) : ga_O :=
  (if ga_okA w [(0, .ref p0)] [.ref p0] = true then ga_at (w.1 ++ [.inr (0, [.null, .null, .null, .null, .null, .int 0])], w.2.1 + 1, w.2.2 + 6) (fun w1 => (if (([(0, .ref p0)] : List (Nat × Value)).all (fun q => ga_ok w1.1.length q.2)) = true ∧ (([.ref w.1.length, .ref p0] : List Value).all (ga_ok w1.1.length)) = true then (ga_c (f_E_init F w.1.length (12 : Int32) w1) (ga_kV fun w2 => ((ga_put w2 2 0 p0 (.ref w.1.length)).bind fun w4 => (if ga_okA w4 [(0, .ref p0)] [.ref p0] = true then ga_at (w4.1 ++ [.inl (0, 9, .inl (fun _ => 0))], w4.2.1 + 1, w4.2.2 + 9) (fun w5 => ((ga_put w5 2 1 p0 (.ref w4.1.length)).bind fun w6 => (some (.inl none, w6)))) else none))) (fun _ _ => none)) else none)) else none)
set_option maxHeartbeats 4000000 in
set_option maxRecDepth 100000 in
theorem m_M_init (hst : l.stackTraces = false) (F : Nat) (p0 : Nat) (w : ga_W) : ga_M l S0 D gz_cl (gz_tA cT) base b gz_xn y_M_init ws_M_init 2 41 false [.ref p0] w (f_M_init F p0 w) := by
  refine ga_enter (cc := c_M_init) (maxL := 1) (ret := none) hst (by decide) rfl (Nat.le_of_ble_eq_true rfl) ?_
  intro p e R s m args below meth c ad0
  refine ga_sub (lv2 := [(0, .ref p0)]) [0] rfl ?_
  unfold f_M_init
  refine ga_aload_n (q := 0) d_M_init_0 rfl rfl ?_
  refine ga_objInit (List.mem_cons_of_mem _ gw_82) (List.mem_cons_of_mem _ gw_75) (List.mem_cons_of_mem _ gw_76) (Nat.le_of_ble_eq_true rfl) (by decide) (by decide) d_M_init_1 ?_
  refine ga_aload_n (q := 0) d_M_init_4 rfl rfl ?_
  refine ga_new (C := "LevelStore$Entries") (T := T_E) (N := 6) (ci := 0) (ty0 := ty_E) (fs := [.null, .null, .null, .null, .null, .int 0]) rfl (fun x h => List.mem_cons_of_mem _ (iw_E x h)) ty_E_ok rfl (List.mem_cons_of_mem _ gw_83) (List.mem_cons_of_mem _ gw_84) (List.mem_cons_of_mem _ gw_53) (df_E) (fun _ _ => rfl) (fun _ => rfl) d_M_init_5 ?_
  refine ga_namedW (fun w1 => ?_)
  refine ga_dup d_M_init_8 rfl ?_
  refine ga_bipush (v := (12 : Int32)) d_M_init_9 (by decide) ?_
  refine ga_guard (fun h3 => ?_)
  refine ga_invI (nA := 1) (av := [.int (12 : Int32)]) (a := w.1.length) (st := [.ref w.1.length, .ref p0]) (m_E_init hst F w.1.length (12 : Int32) w1) (Or.inr ⟨rfl, h3⟩) (gz_gI gw_87) rfl (List.mem_cons_of_mem _ gw_53) (Or.inl (List.mem_cons_of_mem _ gw_85)) (List.mem_cons_of_mem _ gw_86) rfl (by decide +kernel) rfl (by decide) (by decide) (Nat.le_of_ble_eq_true rfl) d_M_init_11 (fun w2 => ?_)
  refine ga_putB (C := "LevelStore$Memory") (T := T_M) (N := 4) (k := 0) (ci := 2) (ty0 := ty_M) (fun x h => List.mem_cons_of_mem _ (iw_M x h)) ty_M_ok nm_M rfl (by decide) (List.mem_cons_of_mem _ gw_131) (Or.inr ⟨rfl, rfl, rfl⟩) (fun _ => ⟨rfl, rfl⟩) d_M_init_14 (fun w4 => ?_)
  refine ga_aload_n (q := 0) d_M_init_17 rfl rfl ?_
  refine ga_bipush (v := (9 : Int32)) d_M_init_18 (by decide) ?_
  refine ga_newa (atype := .int) (t := 0) (N := 9) (x := .inl (fun _ => 0)) rfl (List.mem_cons_of_mem _ gw_129) rfl (fun _ h => nomatch h) rfl (fun _ => ga_zr0 _ _) (by decide) (by decide) (by decide) d_M_init_20 ?_
  refine ga_namedW (fun w5 => ?_)
  refine ga_putB (C := "LevelStore$Memory") (T := T_M) (N := 4) (k := 1) (ci := 2) (ty0 := ty_M) (fun x h => List.mem_cons_of_mem _ (iw_M x h)) ty_M_ok nm_M rfl (by decide) (List.mem_cons_of_mem _ gw_133) (Or.inr ⟨rfl, rfl, rfl⟩) (fun _ => ⟨rfl, rfl⟩) d_M_init_22 (fun w6 => ?_)
  exact ga_vret rfl d_M_init_25
noncomputable def f_S_init (F : Nat) (p0 : Nat) (w : ga_W) : ga_O :=
  (if ga_okA w [(0, .ref p0)] [.ref p0] = true then ga_at (w.1 ++ [.inr (0, [.null, .null, .null, .null, .null, .int 0])], w.2.1 + 1, w.2.2 + 6) (fun w1 => (if (([(0, .ref p0)] : List (Nat × Value)).all (fun q => ga_ok w1.1.length q.2)) = true ∧ (([.ref w.1.length, .ref p0] : List Value).all (ga_ok w1.1.length)) = true then (ga_c (f_E_init F w.1.length (240 : Int32) w1) (ga_kV fun w2 => ((ga_put w2 3 0 p0 (.ref w.1.length)).bind fun w4 => (if ga_okA w4 [(0, .ref p0)] [.ref p0] = true then ga_at (w4.1 ++ [.inl (0, 240, .inl (fun _ => 0))], w4.2.1 + 1, w4.2.2 + 240) (fun w5 => ((ga_put w5 3 1 p0 (.ref w4.1.length)).bind fun w6 => (if ga_okA w6 [(0, .ref p0)] [.ref p0] = true then ga_at (w6.1 ++ [.inl (0, 240, .inl (fun _ => 0))], w6.2.1 + 1, w6.2.2 + 240) (fun w7 => ((ga_put w7 3 2 p0 (.ref w6.1.length)).bind fun w8 => (if ga_okA w8 [(0, .ref p0)] [.ref p0] = true then ga_at (w8.1 ++ [.inl (0, 241, .inl (fun _ => 0))], w8.2.1 + 1, w8.2.2 + 241) (fun w9 => ((ga_put w9 3 3 p0 (.ref w8.1.length)).bind fun w10 => (some (.inl none, w10)))) else none))) else none))) else none))) (fun _ _ => none)) else none)) else none)
set_option maxHeartbeats 4000000 in
set_option maxRecDepth 100000 in
theorem m_S_init (hst : l.stackTraces = false) (F : Nat) (p0 : Nat) (w : ga_W) : ga_M l S0 D gz_cl (gz_tA cT) base b gz_xn y_S_init ws_S_init 2 41 false [.ref p0] w (f_S_init F p0 w) := by
  refine ga_enter (cc := c_S_init) (maxL := 1) (ret := none) hst (by decide) rfl (Nat.le_of_ble_eq_true rfl) ?_
  intro p e R s m args below meth c ad0
  refine ga_sub (lv2 := [(0, .ref p0)]) [0] rfl ?_
  unfold f_S_init
  refine ga_aload_n (q := 0) d_S_init_0 rfl rfl ?_
  refine ga_objInit (List.mem_cons_of_mem _ gw_158) (List.mem_cons_of_mem _ gw_75) (List.mem_cons_of_mem _ gw_76) (Nat.le_of_ble_eq_true rfl) (by decide) (by decide) d_S_init_1 ?_
  refine ga_aload_n (q := 0) d_S_init_4 rfl rfl ?_
  refine ga_new (C := "LevelStore$Entries") (T := T_E) (N := 6) (ci := 0) (ty0 := ty_E) (fs := [.null, .null, .null, .null, .null, .int 0]) rfl (fun x h => List.mem_cons_of_mem _ (iw_E x h)) ty_E_ok rfl (List.mem_cons_of_mem _ gw_159) (List.mem_cons_of_mem _ gw_84) (List.mem_cons_of_mem _ gw_53) (df_E) (fun _ _ => rfl) (fun _ => rfl) d_S_init_5 ?_
  refine ga_namedW (fun w1 => ?_)
  refine ga_dup d_S_init_8 rfl ?_
  refine ga_sipush (v := (240 : Int32)) d_S_init_9 (by decide) ?_
  refine ga_guard (fun h3 => ?_)
  refine ga_invI (nA := 1) (av := [.int (240 : Int32)]) (a := w.1.length) (st := [.ref w.1.length, .ref p0]) (m_E_init hst F w.1.length (240 : Int32) w1) (Or.inr ⟨rfl, h3⟩) (gz_gI gw_87) rfl (List.mem_cons_of_mem _ gw_53) (Or.inl (List.mem_cons_of_mem _ gw_160)) (List.mem_cons_of_mem _ gw_86) rfl (by decide +kernel) rfl (by decide) (by decide) (Nat.le_of_ble_eq_true rfl) d_S_init_12 (fun w2 => ?_)
  refine ga_putB (C := "LevelStore$Shelf") (T := T_S) (N := 5) (k := 0) (ci := 3) (ty0 := ty_S) (fun x h => List.mem_cons_of_mem _ (iw_S x h)) ty_S_ok nm_S rfl (by decide) (List.mem_cons_of_mem _ gw_161) (Or.inr ⟨rfl, rfl, rfl⟩) (fun _ => ⟨rfl, rfl⟩) d_S_init_15 (fun w4 => ?_)
  refine ga_aload_n (q := 0) d_S_init_18 rfl rfl ?_
  refine ga_sipush (v := (240 : Int32)) d_S_init_19 (by decide) ?_
  refine ga_newa (atype := .int) (t := 0) (N := 240) (x := .inl (fun _ => 0)) rfl (List.mem_cons_of_mem _ gw_129) rfl (fun _ h => nomatch h) rfl (fun _ => ga_zr0 _ _) (by decide) (by decide) (by decide) d_S_init_22 ?_
  refine ga_namedW (fun w5 => ?_)
  refine ga_putB (C := "LevelStore$Shelf") (T := T_S) (N := 5) (k := 1) (ci := 3) (ty0 := ty_S) (fun x h => List.mem_cons_of_mem _ (iw_S x h)) ty_S_ok nm_S rfl (by decide) (List.mem_cons_of_mem _ gw_164) (Or.inr ⟨rfl, rfl, rfl⟩) (fun _ => ⟨rfl, rfl⟩) d_S_init_24 (fun w6 => ?_)
  refine ga_aload_n (q := 0) d_S_init_27 rfl rfl ?_
  refine ga_sipush (v := (240 : Int32)) d_S_init_28 (by decide) ?_
  refine ga_newa (atype := .int) (t := 0) (N := 240) (x := .inl (fun _ => 0)) rfl (List.mem_cons_of_mem _ gw_129) rfl (fun _ h => nomatch h) rfl (fun _ => ga_zr0 _ _) (by decide) (by decide) (by decide) d_S_init_31 ?_
  refine ga_namedW (fun w7 => ?_)
  refine ga_putB (C := "LevelStore$Shelf") (T := T_S) (N := 5) (k := 2) (ci := 3) (ty0 := ty_S) (fun x h => List.mem_cons_of_mem _ (iw_S x h)) ty_S_ok nm_S rfl (by decide) (List.mem_cons_of_mem _ gw_167) (Or.inr ⟨rfl, rfl, rfl⟩) (fun _ => ⟨rfl, rfl⟩) d_S_init_33 (fun w8 => ?_)
  refine ga_aload_n (q := 0) d_S_init_36 rfl rfl ?_
  refine ga_sipush (v := (241 : Int32)) d_S_init_37 (by decide) ?_
  refine ga_newa (atype := .int) (t := 0) (N := 241) (x := .inl (fun _ => 0)) rfl (List.mem_cons_of_mem _ gw_129) rfl (fun _ h => nomatch h) rfl (fun _ => ga_zr0 _ _) (by decide) (by decide) (by decide) d_S_init_40 ?_
  refine ga_namedW (fun w9 => ?_)
  refine ga_putB (C := "LevelStore$Shelf") (T := T_S) (N := 5) (k := 3) (ci := 3) (ty0 := ty_S) (fun x h => List.mem_cons_of_mem _ (iw_S x h)) ty_S_ok nm_S rfl (by decide) (List.mem_cons_of_mem _ gw_170) (Or.inr ⟨rfl, rfl, rfl⟩) (fun _ => ⟨rfl, rfl⟩) d_S_init_42 (fun w10 => ?_)
  exact ga_vret rfl d_S_init_45
noncomputable def f_O_init (F : Nat) (p0 : Nat) (w : ga_W) : ga_O :=
  (if ga_okA w [(0, .ref p0)] [.ref p0] = true then ga_at (w.1 ++ [.inr (0, [.null, .null, .null, .null, .null, .int 0])], w.2.1 + 1, w.2.2 + 6) (fun w1 => (if (([(0, .ref p0)] : List (Nat × Value)).all (fun q => ga_ok w1.1.length q.2)) = true ∧ (([.ref w.1.length, .ref p0] : List Value).all (ga_ok w1.1.length)) = true then (ga_c (f_E_init F w.1.length (240 : Int32) w1) (ga_kV fun w2 => ((ga_put w2 4 0 p0 (.ref w.1.length)).bind fun w4 => (if ga_okA w4 [(0, .ref p0)] [.ref p0] = true then ga_at (w4.1 ++ [.inl (0, 65, .inl (fun _ => 0))], w4.2.1 + 1, w4.2.2 + 65) (fun w5 => ((ga_put w5 4 1 p0 (.ref w4.1.length)).bind fun w6 => (if ga_okA w6 [(0, .ref p0)] [.ref p0] = true then ga_at (w6.1 ++ [.inl (0, 240, .inl (fun _ => 0))], w6.2.1 + 1, w6.2.2 + 240) (fun w7 => ((ga_put w7 4 2 p0 (.ref w6.1.length)).bind fun w8 => (some (.inl none, w8)))) else none))) else none))) (fun _ _ => none)) else none)) else none)
set_option maxHeartbeats 4000000 in
set_option maxRecDepth 100000 in
theorem m_O_init (hst : l.stackTraces = false) (F : Nat) (p0 : Nat) (w : ga_W) : ga_M l S0 D gz_cl (gz_tA cT) base b gz_xn y_O_init ws_O_init 2 41 false [.ref p0] w (f_O_init F p0 w) := by
  refine ga_enter (cc := c_O_init) (maxL := 1) (ret := none) hst (by decide) rfl (Nat.le_of_ble_eq_true rfl) ?_
  intro p e R s m args below meth c ad0
  refine ga_sub (lv2 := [(0, .ref p0)]) [0] rfl ?_
  unfold f_O_init
  refine ga_aload_n (q := 0) d_O_init_0 rfl rfl ?_
  refine ga_objInit (List.mem_cons_of_mem _ gw_192) (List.mem_cons_of_mem _ gw_75) (List.mem_cons_of_mem _ gw_76) (Nat.le_of_ble_eq_true rfl) (by decide) (by decide) d_O_init_1 ?_
  refine ga_aload_n (q := 0) d_O_init_4 rfl rfl ?_
  refine ga_new (C := "LevelStore$Entries") (T := T_E) (N := 6) (ci := 0) (ty0 := ty_E) (fs := [.null, .null, .null, .null, .null, .int 0]) rfl (fun x h => List.mem_cons_of_mem _ (iw_E x h)) ty_E_ok rfl (List.mem_cons_of_mem _ gw_193) (List.mem_cons_of_mem _ gw_84) (List.mem_cons_of_mem _ gw_53) (df_E) (fun _ _ => rfl) (fun _ => rfl) d_O_init_5 ?_
  refine ga_namedW (fun w1 => ?_)
  refine ga_dup d_O_init_8 rfl ?_
  refine ga_sipush (v := (240 : Int32)) d_O_init_9 (by decide) ?_
  refine ga_guard (fun h3 => ?_)
  refine ga_invI (nA := 1) (av := [.int (240 : Int32)]) (a := w.1.length) (st := [.ref w.1.length, .ref p0]) (m_E_init hst F w.1.length (240 : Int32) w1) (Or.inr ⟨rfl, h3⟩) (gz_gI gw_87) rfl (List.mem_cons_of_mem _ gw_53) (Or.inl (List.mem_cons_of_mem _ gw_194)) (List.mem_cons_of_mem _ gw_86) rfl (by decide +kernel) rfl (by decide) (by decide) (Nat.le_of_ble_eq_true rfl) d_O_init_12 (fun w2 => ?_)
  refine ga_putB (C := "LevelStore$Sorter") (T := T_O) (N := 3) (k := 0) (ci := 4) (ty0 := ty_O) (fun x h => List.mem_cons_of_mem _ (iw_O x h)) ty_O_ok nm_O rfl (by decide) (List.mem_cons_of_mem _ gw_195) (Or.inr ⟨rfl, rfl, rfl⟩) (fun _ => ⟨rfl, rfl⟩) d_O_init_15 (fun w4 => ?_)
  refine ga_aload_n (q := 0) d_O_init_18 rfl rfl ?_
  refine ga_bipush (v := (65 : Int32)) d_O_init_19 (by decide) ?_
  refine ga_newa (atype := .int) (t := 0) (N := 65) (x := .inl (fun _ => 0)) rfl (List.mem_cons_of_mem _ gw_129) rfl (fun _ h => nomatch h) rfl (fun _ => ga_zr0 _ _) (by decide) (by decide) (by decide) d_O_init_21 ?_
  refine ga_namedW (fun w5 => ?_)
  refine ga_putB (C := "LevelStore$Sorter") (T := T_O) (N := 3) (k := 1) (ci := 4) (ty0 := ty_O) (fun x h => List.mem_cons_of_mem _ (iw_O x h)) ty_O_ok nm_O rfl (by decide) (List.mem_cons_of_mem _ gw_197) (Or.inr ⟨rfl, rfl, rfl⟩) (fun _ => ⟨rfl, rfl⟩) d_O_init_23 (fun w6 => ?_)
  refine ga_aload_n (q := 0) d_O_init_26 rfl rfl ?_
  refine ga_sipush (v := (240 : Int32)) d_O_init_27 (by decide) ?_
  refine ga_newa (atype := .int) (t := 0) (N := 240) (x := .inl (fun _ => 0)) rfl (List.mem_cons_of_mem _ gw_129) rfl (fun _ h => nomatch h) rfl (fun _ => ga_zr0 _ _) (by decide) (by decide) (by decide) d_O_init_30 ?_
  refine ga_namedW (fun w7 => ?_)
  refine ga_putB (C := "LevelStore$Sorter") (T := T_O) (N := 3) (k := 2) (ci := 4) (ty0 := ty_O) (fun x h => List.mem_cons_of_mem _ (iw_O x h)) ty_O_ok nm_O rfl (by decide) (List.mem_cons_of_mem _ gw_198) (Or.inr ⟨rfl, rfl, rfl⟩) (fun _ => ⟨rfl, rfl⟩) d_O_init_32 (fun w8 => ?_)
  exact ga_vret rfl d_O_init_35
noncomputable def f_V_init (F : Nat) (p0 : Nat) (w : ga_W) : ga_O :=
  (if ga_okA w [(0, .ref p0)] [.ref p0] = true then ga_at (w.1 ++ [.inr (3, [.null, .null, .null, .null, .int 0])], w.2.1 + 1, w.2.2 + 5) (fun w1 => (if (([(0, .ref p0)] : List (Nat × Value)).all (fun q => ga_ok w1.1.length q.2)) = true ∧ (([.ref w.1.length, .ref p0] : List Value).all (ga_ok w1.1.length)) = true then (ga_c (f_S_init F w.1.length w1) (ga_kV fun w2 => ((ga_put w2 1 0 p0 (.ref w.1.length)).bind fun w4 => (if ga_okA w4 [(0, .ref p0)] [.ref p0] = true then ga_at (w4.1 ++ [.inr (3, [.null, .null, .null, .null, .int 0])], w4.2.1 + 1, w4.2.2 + 5) (fun w5 => (if (([(0, .ref p0)] : List (Nat × Value)).all (fun q => ga_ok w5.1.length q.2)) = true ∧ (([.ref w4.1.length, .ref p0] : List Value).all (ga_ok w5.1.length)) = true then (ga_c (f_S_init F w4.1.length w5) (ga_kV fun w6 => ((ga_put w6 1 1 p0 (.ref w4.1.length)).bind fun w8 => (if ga_okA w8 [(0, .ref p0)] [.ref p0] = true then ga_at (w8.1 ++ [.inr (4, [.null, .null, .null])], w8.2.1 + 1, w8.2.2 + 3) (fun w9 => (if (([(0, .ref p0)] : List (Nat × Value)).all (fun q => ga_ok w9.1.length q.2)) = true ∧ (([.ref w8.1.length, .ref p0] : List Value).all (ga_ok w9.1.length)) = true then (ga_c (f_O_init F w8.1.length w9) (ga_kV fun w10 => ((ga_put w10 1 2 p0 (.ref w8.1.length)).bind fun w12 => (if ga_okA w12 [(0, .ref p0)] [.ref p0] = true then ga_at (w12.1 ++ [.inr (0, [.null, .null, .null, .null, .null, .int 0])], w12.2.1 + 1, w12.2.2 + 6) (fun w13 => (if (([(0, .ref p0)] : List (Nat × Value)).all (fun q => ga_ok w13.1.length q.2)) = true ∧ (([.ref w12.1.length, .ref p0] : List Value).all (ga_ok w13.1.length)) = true then (ga_c (f_E_init F w12.1.length (240 : Int32) w13) (ga_kV fun w14 => ((ga_put w14 1 3 p0 (.ref w12.1.length)).bind fun w16 => (if ga_okA w16 [(0, .ref p0)] [.ref p0] = true then ga_at (w16.1 ++ [.inl (1, 240, .inl (fun _ => 0))], w16.2.1 + 1, w16.2.2 + 240) (fun w17 => ((ga_put w17 1 4 p0 (.ref w16.1.length)).bind fun w18 => (if ga_okA w18 [(0, .ref p0)] [.ref p0] = true then ga_at (w18.1 ++ [.inl (0, 3, .inl (fun _ => 0))], w18.2.1 + 1, w18.2.2 + 3) (fun w19 => ((ga_si w19 0 w18.1.length (0 : Int32) (-1 : Int32)).bind fun w20 => ((ga_si w20 0 w18.1.length (1 : Int32) (-1 : Int32)).bind fun w21 => ((ga_si w21 0 w18.1.length (2 : Int32) (-1 : Int32)).bind fun w22 => ((ga_put w22 1 5 p0 (.ref w18.1.length)).bind fun w23 => (some (.inl none, w23))))))) else none))) else none))) (fun _ _ => none)) else none)) else none))) (fun _ _ => none)) else none)) else none))) (fun _ _ => none)) else none)) else none))) (fun _ _ => none)) else none)) else none)
set_option maxHeartbeats 4000000 in
set_option maxRecDepth 100000 in
theorem m_V_init (hst : l.stackTraces = false) (F : Nat) (p0 : Nat) (w : ga_W) : ga_M l S0 D gz_cl (gz_tA cT) base b gz_xn y_V_init ws_V_init 3 61 false [.ref p0] w (f_V_init F p0 w) := by
  refine ga_enter (cc := c_V_init) (maxL := 1) (ret := none) hst (by decide) rfl (Nat.le_of_ble_eq_true rfl) ?_
  intro p e R s m args below meth c ad0
  refine ga_sub (lv2 := [(0, .ref p0)]) [0] rfl ?_
  unfold f_V_init
  refine ga_aload_n (q := 0) d_V_init_0 rfl rfl ?_
  refine ga_objInit (List.mem_cons_of_mem _ gw_152) (List.mem_cons_of_mem _ gw_75) (List.mem_cons_of_mem _ gw_76) (Nat.le_of_ble_eq_true rfl) (by decide) (by decide) d_V_init_1 ?_
  refine ga_aload_n (q := 0) d_V_init_4 rfl rfl ?_
  refine ga_new (C := "LevelStore$Shelf") (T := T_S) (N := 5) (ci := 3) (ty0 := ty_S) (fs := [.null, .null, .null, .null, .int 0]) rfl (fun x h => List.mem_cons_of_mem _ (iw_S x h)) ty_S_ok rfl (List.mem_cons_of_mem _ gw_153) (List.mem_cons_of_mem _ gw_154) (List.mem_cons_of_mem _ gw_55) (df_S) (fun _ _ => rfl) (fun _ => rfl) d_V_init_5 ?_
  refine ga_namedW (fun w1 => ?_)
  refine ga_dup d_V_init_8 rfl ?_
  refine ga_guard (fun h3 => ?_)
  refine ga_invI (nA := 0) (av := []) (a := w.1.length) (st := [.ref w.1.length, .ref p0]) (m_S_init hst F w.1.length w1) (Or.inr ⟨rfl, h3⟩) (gz_gI gw_157) rfl (List.mem_cons_of_mem _ gw_55) (Or.inr ⟨"LevelStore", gl_155⟩) (List.mem_cons_of_mem _ gw_156) rfl (by decide +kernel) rfl (by decide) (by decide) (Nat.le_of_ble_eq_true rfl) d_V_init_9 (fun w2 => ?_)
  refine ga_putB (C := "LevelStore$Levels") (T := T_V) (N := 9) (k := 0) (ci := 1) (ty0 := ty_V) (fun x h => List.mem_cons_of_mem _ (iw_V x h)) ty_V_ok nm_V rfl (by decide) (List.mem_cons_of_mem _ gw_208) (Or.inl rfl) (fun _ => ⟨rfl, rfl⟩) d_V_init_12 (fun w4 => ?_)
  refine ga_aload_n (q := 0) d_V_init_15 rfl rfl ?_
  refine ga_new (C := "LevelStore$Shelf") (T := T_S) (N := 5) (ci := 3) (ty0 := ty_S) (fs := [.null, .null, .null, .null, .int 0]) rfl (fun x h => List.mem_cons_of_mem _ (iw_S x h)) ty_S_ok rfl (List.mem_cons_of_mem _ gw_153) (List.mem_cons_of_mem _ gw_154) (List.mem_cons_of_mem _ gw_55) (df_S) (fun _ _ => rfl) (fun _ => rfl) d_V_init_16 ?_
  refine ga_namedW (fun w5 => ?_)
  refine ga_dup d_V_init_19 rfl ?_
  refine ga_guard (fun h7 => ?_)
  refine ga_invI (nA := 0) (av := []) (a := w4.1.length) (st := [.ref w4.1.length, .ref p0]) (m_S_init hst F w4.1.length w5) (Or.inr ⟨rfl, h7⟩) (gz_gI gw_157) rfl (List.mem_cons_of_mem _ gw_55) (Or.inr ⟨"LevelStore", gl_155⟩) (List.mem_cons_of_mem _ gw_156) rfl (by decide +kernel) rfl (by decide) (by decide) (Nat.le_of_ble_eq_true rfl) d_V_init_20 (fun w6 => ?_)
  refine ga_putB (C := "LevelStore$Levels") (T := T_V) (N := 9) (k := 1) (ci := 1) (ty0 := ty_V) (fun x h => List.mem_cons_of_mem _ (iw_V x h)) ty_V_ok nm_V rfl (by decide) (List.mem_cons_of_mem _ gw_210) (Or.inl rfl) (fun _ => ⟨rfl, rfl⟩) d_V_init_23 (fun w8 => ?_)
  refine ga_aload_n (q := 0) d_V_init_26 rfl rfl ?_
  refine ga_new (C := "LevelStore$Sorter") (T := T_O) (N := 3) (ci := 4) (ty0 := ty_O) (fs := [.null, .null, .null]) rfl (fun x h => List.mem_cons_of_mem _ (iw_O x h)) ty_O_ok rfl (List.mem_cons_of_mem _ gw_187) (List.mem_cons_of_mem _ gw_188) (List.mem_cons_of_mem _ gw_56) (df_O) (fun _ _ => rfl) (fun _ => rfl) d_V_init_27 ?_
  refine ga_namedW (fun w9 => ?_)
  refine ga_dup d_V_init_30 rfl ?_
  refine ga_guard (fun h11 => ?_)
  refine ga_invI (nA := 0) (av := []) (a := w8.1.length) (st := [.ref w8.1.length, .ref p0]) (m_O_init hst F w8.1.length w9) (Or.inr ⟨rfl, h11⟩) (gz_gI gw_191) rfl (List.mem_cons_of_mem _ gw_56) (Or.inr ⟨"LevelStore", gl_189⟩) (List.mem_cons_of_mem _ gw_190) rfl (by decide +kernel) rfl (by decide) (by decide) (Nat.le_of_ble_eq_true rfl) d_V_init_31 (fun w10 => ?_)
  refine ga_putB (C := "LevelStore$Levels") (T := T_V) (N := 9) (k := 2) (ci := 1) (ty0 := ty_V) (fun x h => List.mem_cons_of_mem _ (iw_V x h)) ty_V_ok nm_V rfl (by decide) (List.mem_cons_of_mem _ gw_211) (Or.inr ⟨rfl, rfl, rfl⟩) (fun _ => ⟨rfl, rfl⟩) d_V_init_34 (fun w12 => ?_)
  refine ga_aload_n (q := 0) d_V_init_37 rfl rfl ?_
  refine ga_new (C := "LevelStore$Entries") (T := T_E) (N := 6) (ci := 0) (ty0 := ty_E) (fs := [.null, .null, .null, .null, .null, .int 0]) rfl (fun x h => List.mem_cons_of_mem _ (iw_E x h)) ty_E_ok rfl (List.mem_cons_of_mem _ gw_206) (List.mem_cons_of_mem _ gw_84) (List.mem_cons_of_mem _ gw_53) (df_E) (fun _ _ => rfl) (fun _ => rfl) d_V_init_38 ?_
  refine ga_namedW (fun w13 => ?_)
  refine ga_dup d_V_init_41 rfl ?_
  refine ga_sipush (v := (240 : Int32)) d_V_init_42 (by decide) ?_
  refine ga_guard (fun h15 => ?_)
  refine ga_invI (nA := 1) (av := [.int (240 : Int32)]) (a := w12.1.length) (st := [.ref w12.1.length, .ref p0]) (m_E_init hst F w12.1.length (240 : Int32) w13) (Or.inr ⟨rfl, h15⟩) (gz_gI gw_87) rfl (List.mem_cons_of_mem _ gw_53) (Or.inl (List.mem_cons_of_mem _ gw_207)) (List.mem_cons_of_mem _ gw_86) rfl (by decide +kernel) rfl (by decide) (by decide) (Nat.le_of_ble_eq_true rfl) d_V_init_45 (fun w14 => ?_)
  refine ga_putB (C := "LevelStore$Levels") (T := T_V) (N := 9) (k := 3) (ci := 1) (ty0 := ty_V) (fun x h => List.mem_cons_of_mem _ (iw_V x h)) ty_V_ok nm_V rfl (by decide) (List.mem_cons_of_mem _ gw_212) (Or.inr ⟨rfl, rfl, rfl⟩) (fun _ => ⟨rfl, rfl⟩) d_V_init_48 (fun w16 => ?_)
  refine ga_aload_n (q := 0) d_V_init_51 rfl rfl ?_
  refine ga_sipush (v := (240 : Int32)) d_V_init_52 (by decide) ?_
  refine ga_newa (atype := .boolean) (t := 1) (N := 240) (x := .inl (fun _ => 0)) rfl (List.mem_cons_of_mem _ gw_130) rfl (fun _ h => nomatch h) rfl (fun _ => ga_zr1 _ _) (by decide) (by decide) (by decide) d_V_init_55 ?_
  refine ga_namedW (fun w17 => ?_)
  refine ga_putB (C := "LevelStore$Levels") (T := T_V) (N := 9) (k := 4) (ci := 1) (ty0 := ty_V) (fun x h => List.mem_cons_of_mem _ (iw_V x h)) ty_V_ok nm_V rfl (by decide) (List.mem_cons_of_mem _ gw_213) (Or.inr ⟨rfl, rfl, rfl⟩) (fun _ => ⟨rfl, rfl⟩) d_V_init_57 (fun w18 => ?_)
  refine ga_aload_n (q := 0) d_V_init_60 rfl rfl ?_
  refine ga_iconst (v := (3 : Int32)) d_V_init_61 (by decide) ?_
  refine ga_newa (atype := .int) (t := 0) (N := 3) (x := .inl (fun _ => 0)) rfl (List.mem_cons_of_mem _ gw_129) rfl (fun _ h => nomatch h) rfl (fun _ => ga_zr0 _ _) (by decide) (by decide) (by decide) d_V_init_62 ?_
  refine ga_namedW (fun w19 => ?_)
  refine ga_dup d_V_init_64 rfl ?_
  refine ga_iconst (v := (0 : Int32)) d_V_init_65 (by decide) ?_
  refine ga_iconst (v := (-1 : Int32)) d_V_init_66 (by decide) ?_
  refine ga_stI (t := 0) rfl d_V_init_67 (fun w20 => ?_)
  refine ga_dup d_V_init_68 rfl ?_
  refine ga_iconst (v := (1 : Int32)) d_V_init_69 (by decide) ?_
  refine ga_iconst (v := (-1 : Int32)) d_V_init_70 (by decide) ?_
  refine ga_stI (t := 0) rfl d_V_init_71 (fun w21 => ?_)
  refine ga_dup d_V_init_72 rfl ?_
  refine ga_iconst (v := (2 : Int32)) d_V_init_73 (by decide) ?_
  refine ga_iconst (v := (-1 : Int32)) d_V_init_74 (by decide) ?_
  refine ga_stI (t := 0) rfl d_V_init_75 (fun w22 => ?_)
  refine ga_putB (C := "LevelStore$Levels") (T := T_V) (N := 9) (k := 5) (ci := 1) (ty0 := ty_V) (fun x h => List.mem_cons_of_mem _ (iw_V x h)) ty_V_ok nm_V rfl (by decide) (List.mem_cons_of_mem _ gw_214) (Or.inr ⟨rfl, rfl, rfl⟩) (fun _ => ⟨rfl, rfl⟩) d_V_init_76 (fun w23 => ?_)
  exact ga_vret rfl d_V_init_79
noncomputable def f_J_fill_5 (F : Nat) (x0 : Nat) (x1 : Int32) (x3 : Int32) : Nat → Int32 → ga_W → ga_O
  | 0, _, _ => none
  | n + 1, x2, w => (if x3 ≤ x2 then (some (.inl none, w)) else ((ga_si w 0 x0 x2 x1).bind fun w2 => (f_J_fill_5 F x0 x1 x3 n (x2 + (1 : Int32)) w2)))
noncomputable def f_J_fill (F : Nat) (p0 : Nat) (p1 : Int32) (w : ga_W) : ga_O :=
  ((ga_len w 0 p0).bind fun n1 => (f_J_fill_5 F p0 p1 (Int32.ofNat n1) F (0 : Int32) w))
set_option maxHeartbeats 4000000 in
set_option maxRecDepth 100000 in
theorem h_J_fill_5 (hst : l.stackTraces = false) (F : Nat) (x0 : Nat) (x1 : Int32) (x3 : Int32) : ∀ (n : Nat) (x2 : Int32) (w : ga_W), ga_J l S0 D gz_cl (gz_tA cT) base b gz_xn p e R s m args below meth c 4 ws_J_fill y_J_fill.cls c_J_fill none [] y_J_fill.name 0 0 true ad0 w0 (ga_MQ gz_xn D gz_cl (gz_tA cT) base b s args below ad0 w0) 5 [(0, .ref x0), (1, .int x1), (2, .int x2), (3, .int x3)] [] w (f_J_fill_5 F x0 x1 x3 n x2 w) := by
  intro n
  induction n with
  | zero => intro x2 w; exact ga_no
  | succ n ih =>
    intro x2 w
    rw [f_J_fill_5]
    refine ga_iload_n (q := 2) d_J_fill_5 rfl rfl ?_
    refine ga_iload_n (q := 3) d_J_fill_6 rfl rfl ?_
    refine ga_icmp_ge (tgt := 20) d_J_fill_7 (by decide) (fun h1 => ?_) (fun h1 => ?_)
    · exact ga_vret rfl d_J_fill_20
    · refine ga_aload_n (q := 0) d_J_fill_10 rfl rfl ?_
      refine ga_iload_n (q := 2) d_J_fill_11 rfl rfl ?_
      refine ga_iload_n (q := 1) d_J_fill_12 rfl rfl ?_
      refine ga_stI (t := 0) rfl d_J_fill_13 (fun w2 => ?_)
      refine ga_iinc (q := 2) (v := (x2 + (1 : Int32))) (lv2 := [(2, .int (x2 + (1 : Int32))), (0, .ref x0), (1, .int x1), (3, .int x3)]) d_J_fill_14 rfl rfl (by decide) rfl ?_
      refine ga_goto (tgt := 5) d_J_fill_17 (by decide) ?_
      refine ga_sub (lv2 := [(0, .ref x0), (1, .int x1), (2, .int (x2 + (1 : Int32))), (3, .int x3)]) [1, 2, 0, 3] rfl ?_
      exact ih _ _
set_option maxHeartbeats 4000000 in
set_option maxRecDepth 100000 in
theorem m_J_fill (hst : l.stackTraces = false) (F : Nat) (p0 : Nat) (p1 : Int32) (w : ga_W) : ga_M l S0 D gz_cl (gz_tA cT) base b gz_xn y_J_fill ws_J_fill 0 0 true [.ref p0, .int p1] w (f_J_fill F p0 p1 w) := by
  refine ga_enter (cc := c_J_fill) (maxL := 4) (ret := none) hst (by decide) rfl (Nat.le_of_ble_eq_true rfl) ?_
  intro p e R s m args below meth c ad0
  refine ga_sub (lv2 := [(0, .ref p0), (1, .int p1)]) [0, 1] rfl ?_
  unfold f_J_fill
  refine ga_iconst (v := (0 : Int32)) d_J_fill_0 (by decide) ?_
  refine ga_istore_n (lv2 := [(2, .int (0 : Int32)), (0, .ref p0), (1, .int p1)]) d_J_fill_1 rfl (by decide) rfl ?_
  refine ga_aload_n (q := 1) d_J_fill_2 rfl rfl ?_
  refine ga_alen (t := 0) rfl d_J_fill_3 (fun n1 => ?_)
  refine ga_istore_n (lv2 := [(3, .int (Int32.ofNat n1)), (2, .int (0 : Int32)), (0, .ref p0), (1, .int p1)]) d_J_fill_4 rfl (by decide) rfl ?_
  refine ga_sub (lv2 := [(0, .ref p0), (1, .int p1), (2, .int (0 : Int32)), (3, .int (Int32.ofNat n1))]) [2, 3, 1, 0] rfl ?_
  exact h_J_fill_5 hst F p0 p1 (Int32.ofNat n1) F (0 : Int32) w
noncomputable def f_L_init (F : Nat) (p0 : Nat) (w : ga_W) : ga_O :=
  (if ga_okA w [(0, .ref p0)] [.ref p0] = true then ga_at (w.1 ++ [.inr (2, [.null, .null, .int 0, .int 0])], w.2.1 + 1, w.2.2 + 4) (fun w1 => (if (([(0, .ref p0)] : List (Nat × Value)).all (fun q => ga_ok w1.1.length q.2)) = true ∧ (([.ref w.1.length, .ref p0] : List Value).all (ga_ok w1.1.length)) = true then (ga_c (f_M_init F w.1.length w1) (ga_kV fun w2 => ((ga_put w2 5 0 p0 (.ref w.1.length)).bind fun w4 => (if ga_okA w4 [(0, .ref p0)] [.ref p0] = true then ga_at (w4.1 ++ [.inr (1, [.null, .null, .null, .null, .null, .null, .int 0, .int 0, .int 0])], w4.2.1 + 1, w4.2.2 + 9) (fun w5 => (if (([(0, .ref p0)] : List (Nat × Value)).all (fun q => ga_ok w5.1.length q.2)) = true ∧ (([.ref w4.1.length, .ref p0] : List Value).all (ga_ok w5.1.length)) = true then (ga_c (f_V_init F w4.1.length w5) (ga_kV fun w6 => ((ga_put w6 5 1 p0 (.ref w4.1.length)).bind fun w8 => (if ga_okA w8 [(0, .ref p0)] [.ref p0] = true then ga_at (w8.1 ++ [.inr (0, [.null, .null, .null, .null, .null, .int 0])], w8.2.1 + 1, w8.2.2 + 6) (fun w9 => (if (([(0, .ref p0)] : List (Nat × Value)).all (fun q => ga_ok w9.1.length q.2)) = true ∧ (([.ref w8.1.length, .ref p0] : List Value).all (ga_ok w9.1.length)) = true then (ga_c (f_E_init F w8.1.length (4 : Int32) w9) (ga_kV fun w10 => ((ga_put w10 5 2 p0 (.ref w8.1.length)).bind fun w12 => (if ga_okA w12 [(0, .ref p0)] [.ref p0] = true then ga_at (w12.1 ++ [.inl (0, 4, .inl (fun _ => 0))], w12.2.1 + 1, w12.2.2 + 4) (fun w13 => ((ga_put w13 5 3 p0 (.ref w12.1.length)).bind fun w14 => ((ga_gr w14 5 3 p0).bind fun r15 => (ga_c (f_J_fill F r15 (-1 : Int32) w14) (ga_kV fun w16 => (some (.inl none, w16))) ga_up)))) else none))) (fun _ _ => none)) else none)) else none))) (fun _ _ => none)) else none)) else none))) (fun _ _ => none)) else none)) else none)
set_option maxHeartbeats 4000000 in
set_option maxRecDepth 100000 in
theorem m_L_init (hst : l.stackTraces = false) (F : Nat) (p0 : Nat) (w : ga_W) : ga_M l S0 D gz_cl (gz_tA cT) base b gz_xn y_L_init ws_L_init 4 81 false [.ref p0] w (f_L_init F p0 w) := by
  refine ga_enter (cc := c_L_init) (maxL := 1) (ret := none) hst (by decide) rfl (Nat.le_of_ble_eq_true rfl) ?_
  intro p e R s m args below meth c ad0
  refine ga_sub (lv2 := [(0, .ref p0)]) [0] rfl ?_
  unfold f_L_init
  refine ga_aload_n (q := 0) d_L_init_0 rfl rfl ?_
  refine ga_objInit (List.mem_cons_of_mem _ gw_74) (List.mem_cons_of_mem _ gw_75) (List.mem_cons_of_mem _ gw_76) (Nat.le_of_ble_eq_true rfl) (by decide) (by decide) d_L_init_1 ?_
  refine ga_aload_n (q := 0) d_L_init_4 rfl rfl ?_
  refine ga_new (C := "LevelStore$Memory") (T := T_M) (N := 4) (ci := 2) (ty0 := ty_M) (fs := [.null, .null, .int 0, .int 0]) rfl (fun x h => List.mem_cons_of_mem _ (iw_M x h)) ty_M_ok rfl (List.mem_cons_of_mem _ gw_77) (List.mem_cons_of_mem _ gw_78) (List.mem_cons_of_mem _ gw_52) (df_M) (fun _ _ => rfl) (fun _ => rfl) d_L_init_5 ?_
  refine ga_namedW (fun w1 => ?_)
  refine ga_dup d_L_init_8 rfl ?_
  refine ga_guard (fun h3 => ?_)
  refine ga_invI (nA := 0) (av := []) (a := w.1.length) (st := [.ref w.1.length, .ref p0]) (m_M_init hst F w.1.length w1) (Or.inr ⟨rfl, h3⟩) (gz_gI gw_81) rfl (List.mem_cons_of_mem _ gw_52) (Or.inr ⟨"LevelStore", gl_79⟩) (List.mem_cons_of_mem _ gw_80) rfl (by decide +kernel) rfl (by decide) (by decide) (Nat.le_of_ble_eq_true rfl) d_L_init_9 (fun w2 => ?_)
  refine ga_putB (C := "LevelStore") (T := T_L) (N := 9) (k := 0) (ci := 5) (ty0 := ty_L) (fun x h => List.mem_cons_of_mem _ (iw_L x h)) ty_L_ok nm_L rfl (by decide) (List.mem_cons_of_mem _ gw_246) (Or.inr ⟨rfl, rfl, rfl⟩) (fun _ => ⟨rfl, rfl⟩) d_L_init_12 (fun w4 => ?_)
  refine ga_aload_n (q := 0) d_L_init_15 rfl rfl ?_
  refine ga_new (C := "LevelStore$Levels") (T := T_V) (N := 9) (ci := 1) (ty0 := ty_V) (fs := [.null, .null, .null, .null, .null, .null, .int 0, .int 0, .int 0]) rfl (fun x h => List.mem_cons_of_mem _ (iw_V x h)) ty_V_ok rfl (List.mem_cons_of_mem _ gw_147) (List.mem_cons_of_mem _ gw_148) (List.mem_cons_of_mem _ gw_54) (df_V) (fun _ _ => rfl) (fun _ => rfl) d_L_init_16 ?_
  refine ga_namedW (fun w5 => ?_)
  refine ga_dup d_L_init_19 rfl ?_
  refine ga_guard (fun h7 => ?_)
  refine ga_invI (nA := 0) (av := []) (a := w4.1.length) (st := [.ref w4.1.length, .ref p0]) (m_V_init hst F w4.1.length w5) (Or.inr ⟨rfl, h7⟩) (gz_gI gw_151) rfl (List.mem_cons_of_mem _ gw_54) (Or.inr ⟨"LevelStore", gl_149⟩) (List.mem_cons_of_mem _ gw_150) rfl (by decide +kernel) rfl (by decide) (by decide) (Nat.le_of_ble_eq_true rfl) d_L_init_20 (fun w6 => ?_)
  refine ga_putB (C := "LevelStore") (T := T_L) (N := 9) (k := 1) (ci := 5) (ty0 := ty_L) (fun x h => List.mem_cons_of_mem _ (iw_L x h)) ty_L_ok nm_L rfl (by decide) (List.mem_cons_of_mem _ gw_247) (Or.inr ⟨rfl, rfl, rfl⟩) (fun _ => ⟨rfl, rfl⟩) d_L_init_23 (fun w8 => ?_)
  refine ga_aload_n (q := 0) d_L_init_26 rfl rfl ?_
  refine ga_new (C := "LevelStore$Entries") (T := T_E) (N := 6) (ci := 0) (ty0 := ty_E) (fs := [.null, .null, .null, .null, .null, .int 0]) rfl (fun x h => List.mem_cons_of_mem _ (iw_E x h)) ty_E_ok rfl (List.mem_cons_of_mem _ gw_241) (List.mem_cons_of_mem _ gw_84) (List.mem_cons_of_mem _ gw_53) (df_E) (fun _ _ => rfl) (fun _ => rfl) d_L_init_27 ?_
  refine ga_namedW (fun w9 => ?_)
  refine ga_dup d_L_init_30 rfl ?_
  refine ga_iconst (v := (4 : Int32)) d_L_init_31 (by decide) ?_
  refine ga_guard (fun h11 => ?_)
  refine ga_invI (nA := 1) (av := [.int (4 : Int32)]) (a := w8.1.length) (st := [.ref w8.1.length, .ref p0]) (m_E_init hst F w8.1.length (4 : Int32) w9) (Or.inr ⟨rfl, h11⟩) (gz_gI gw_87) rfl (List.mem_cons_of_mem _ gw_53) (Or.inl (List.mem_cons_of_mem _ gw_242)) (List.mem_cons_of_mem _ gw_86) rfl (by decide +kernel) rfl (by decide) (by decide) (Nat.le_of_ble_eq_true rfl) d_L_init_32 (fun w10 => ?_)
  refine ga_putB (C := "LevelStore") (T := T_L) (N := 9) (k := 2) (ci := 5) (ty0 := ty_L) (fun x h => List.mem_cons_of_mem _ (iw_L x h)) ty_L_ok nm_L rfl (by decide) (List.mem_cons_of_mem _ gw_248) (Or.inr ⟨rfl, rfl, rfl⟩) (fun _ => ⟨rfl, rfl⟩) d_L_init_35 (fun w12 => ?_)
  refine ga_aload_n (q := 0) d_L_init_38 rfl rfl ?_
  refine ga_iconst (v := (4 : Int32)) d_L_init_39 (by decide) ?_
  refine ga_newa (atype := .int) (t := 0) (N := 4) (x := .inl (fun _ => 0)) rfl (List.mem_cons_of_mem _ gw_129) rfl (fun _ h => nomatch h) rfl (fun _ => ga_zr0 _ _) (by decide) (by decide) (by decide) d_L_init_40 ?_
  refine ga_namedW (fun w13 => ?_)
  refine ga_putB (C := "LevelStore") (T := T_L) (N := 9) (k := 3) (ci := 5) (ty0 := ty_L) (fun x h => List.mem_cons_of_mem _ (iw_L x h)) ty_L_ok nm_L rfl (by decide) (List.mem_cons_of_mem _ gw_249) (Or.inr ⟨rfl, rfl, rfl⟩) (fun _ => ⟨rfl, rfl⟩) d_L_init_42 (fun w14 => ?_)
  refine ga_aload_n (q := 0) d_L_init_45 rfl rfl ?_
  refine ga_getR (C := "LevelStore") (T := T_L) (N := 9) (k := 3) (ci := 5) (fun x h => List.mem_cons_of_mem _ (iw_L x h)) rfl (by decide) (List.mem_cons_of_mem _ gw_249) d_L_init_46 (fun r15 => ?_)
  refine ga_iconst (v := (-1 : Int32)) d_L_init_49 (by decide) ?_
  refine ga_invS (nA := 2) (av := [.ref r15, .int (-1 : Int32)]) (st := []) (m_J_fill hst F r15 (-1 : Int32) w14) (Or.inl rfl) (gz_gS gw_243 gw_244 gw_57 gw_245) rfl (by decide +kernel) rfl (by decide) (by decide) (Nat.le_of_ble_eq_true rfl) d_L_init_50 (ga_vV (fun w16 => ?_)) (fun _ _ => ga_thru rfl)
  exact ga_vret rfl d_L_init_53
noncomputable def f_L_sync (F : Nat) (p0 : Nat) (w : ga_W) : ga_O :=
  ((ga_gr w 5 0 p0).bind fun r1 => ((ga_gr w 5 0 p0).bind fun r2 => ((ga_gi w 2 2 r2).bind fun v3 => ((ga_put w 2 3 r1 (.int v3)).bind fun w4 => ((ga_gr w4 5 0 p0).bind fun r5 => ((ga_gi w4 2 3 r5).bind fun v6 => (some (.inl (some (.int v6)), w4))))))))
set_option maxHeartbeats 4000000 in
set_option maxRecDepth 100000 in
theorem m_L_sync (hst : l.stackTraces = false) (F : Nat) (p0 : Nat) (w : ga_W) : ga_M l S0 D gz_cl (gz_tA cT) base b gz_xn y_L_sync ws_L_sync 0 0 true [.ref p0] w (f_L_sync F p0 w) := by
  refine ga_enter (cc := c_L_sync) (maxL := 1) (ret := (some .int)) hst (by decide) rfl (Nat.le_of_ble_eq_true rfl) ?_
  intro p e R s m args below meth c ad0
  refine ga_sub (lv2 := [(0, .ref p0)]) [0] rfl ?_
  unfold f_L_sync
  refine ga_aload_n (q := 0) d_L_sync_0 rfl rfl ?_
  refine ga_getR (C := "LevelStore") (T := T_L) (N := 9) (k := 0) (ci := 5) (fun x h => List.mem_cons_of_mem _ (iw_L x h)) rfl (by decide) (List.mem_cons_of_mem _ gw_246) d_L_sync_1 (fun r1 => ?_)
  refine ga_aload_n (q := 0) d_L_sync_4 rfl rfl ?_
  refine ga_getR (C := "LevelStore") (T := T_L) (N := 9) (k := 0) (ci := 5) (fun x h => List.mem_cons_of_mem _ (iw_L x h)) rfl (by decide) (List.mem_cons_of_mem _ gw_246) d_L_sync_5 (fun r2 => ?_)
  refine ga_getI (C := "LevelStore$Memory") (T := T_M) (N := 4) (k := 2) (ci := 2) (fun x h => List.mem_cons_of_mem _ (iw_M x h)) rfl (by decide) (List.mem_cons_of_mem _ gw_135) d_L_sync_8 (fun v3 => ?_)
  refine ga_putB (C := "LevelStore$Memory") (T := T_M) (N := 4) (k := 3) (ci := 2) (ty0 := ty_M) (fun x h => List.mem_cons_of_mem _ (iw_M x h)) ty_M_ok nm_M rfl (by decide) (List.mem_cons_of_mem _ gw_137) (Or.inl rfl) (fun _ => ⟨rfl, rfl⟩) d_L_sync_11 (fun w4 => ?_)
  refine ga_aload_n (q := 0) d_L_sync_14 rfl rfl ?_
  refine ga_getR (C := "LevelStore") (T := T_L) (N := 9) (k := 0) (ci := 5) (fun x h => List.mem_cons_of_mem _ (iw_L x h)) rfl (by decide) (List.mem_cons_of_mem _ gw_246) d_L_sync_15 (fun r5 => ?_)
  refine ga_getI (C := "LevelStore$Memory") (T := T_M) (N := 4) (k := 3) (ci := 2) (fun x h => List.mem_cons_of_mem _ (iw_M x h)) rfl (by decide) (List.mem_cons_of_mem _ gw_137) d_L_sync_18 (fun v6 => ?_)
  exact ga_iret rfl d_L_sync_21
noncomputable def f_S_clear (F : Nat) (p0 : Nat) (w : ga_W) : ga_O :=
  ((ga_gr w 3 0 p0).bind fun r1 => ((ga_put w 0 5 r1 (.int (0 : Int32))).bind fun w2 => ((ga_put w2 3 4 p0 (.int (0 : Int32))).bind fun w3 => (some (.inl none, w3)))))
set_option maxHeartbeats 4000000 in
set_option maxRecDepth 100000 in
theorem m_S_clear (hst : l.stackTraces = false) (F : Nat) (p0 : Nat) (w : ga_W) : ga_M l S0 D gz_cl (gz_tA cT) base b gz_xn y_S_clear ws_S_clear 0 0 true [.ref p0] w (f_S_clear F p0 w) := by
  refine ga_enter (cc := c_S_clear) (maxL := 1) (ret := none) hst (by decide) rfl (Nat.le_of_ble_eq_true rfl) ?_
  intro p e R s m args below meth c ad0
  refine ga_sub (lv2 := [(0, .ref p0)]) [0] rfl ?_
  unfold f_S_clear
  refine ga_aload_n (q := 0) d_S_clear_0 rfl rfl ?_
  refine ga_getR (C := "LevelStore$Shelf") (T := T_S) (N := 5) (k := 0) (ci := 3) (fun x h => List.mem_cons_of_mem _ (iw_S x h)) rfl (by decide) (List.mem_cons_of_mem _ gw_161) d_S_clear_1 (fun r1 => ?_)
  refine ga_iconst (v := (0 : Int32)) d_S_clear_4 (by decide) ?_
  refine ga_putB (C := "LevelStore$Entries") (T := T_E) (N := 6) (k := 5) (ci := 0) (ty0 := ty_E) (fun x h => List.mem_cons_of_mem _ (iw_E x h)) ty_E_ok nm_E rfl (by decide) (List.mem_cons_of_mem _ gw_112) (Or.inl rfl) (fun _ => ⟨rfl, rfl⟩) d_S_clear_5 (fun w2 => ?_)
  refine ga_aload_n (q := 0) d_S_clear_8 rfl rfl ?_
  refine ga_iconst (v := (0 : Int32)) d_S_clear_9 (by decide) ?_
  refine ga_putB (C := "LevelStore$Shelf") (T := T_S) (N := 5) (k := 4) (ci := 3) (ty0 := ty_S) (fun x h => List.mem_cons_of_mem _ (iw_S x h)) ty_S_ok nm_S rfl (by decide) (List.mem_cons_of_mem _ gw_173) (Or.inl rfl) (fun _ => ⟨rfl, rfl⟩) d_S_clear_10 (fun w3 => ?_)
  exact ga_vret rfl d_S_clear_13
noncomputable def f_E_addFrom (F : Nat) (p0 : Nat) (p1 : Nat) (p2 : Int32) (w : ga_W) : ga_O :=
  ((ga_gr w 0 0 p0).bind fun r1 => ((ga_gi w 0 5 p0).bind fun v2 => ((ga_gr w 0 0 p1).bind fun r3 => ((ga_ai w 0 r3 p2).bind fun v4 => ((ga_si w 0 r1 v2 v4).bind fun w5 => ((ga_gr w5 0 1 p0).bind fun r6 => ((ga_gi w5 0 5 p0).bind fun v7 => ((ga_gr w5 0 1 p1).bind fun r8 => ((ga_ai w5 0 r8 p2).bind fun v9 => ((ga_si w5 0 r6 v7 v9).bind fun w10 => ((ga_gr w10 0 2 p0).bind fun r11 => ((ga_gi w10 0 5 p0).bind fun v12 => ((ga_gr w10 0 2 p1).bind fun r13 => ((ga_ai w10 0 r13 p2).bind fun v14 => ((ga_si w10 0 r11 v12 v14).bind fun w15 => ((ga_gr w15 0 3 p0).bind fun r16 => ((ga_gi w15 0 5 p0).bind fun v17 => ((ga_gr w15 0 3 p1).bind fun r18 => ((ga_az w15 1 r18 p2).bind fun v19 => ((ga_sz w15 1 r16 v17 v19).bind fun w20 => ((ga_gr w20 0 4 p0).bind fun r21 => ((ga_gi w20 0 5 p0).bind fun v22 => ((ga_gr w20 0 4 p1).bind fun r23 => ((ga_az w20 1 r23 p2).bind fun v24 => ((ga_sz w20 1 r21 v22 v24).bind fun w25 => ((ga_gi w25 0 5 p0).bind fun v26 => ((ga_put w25 0 5 p0 (.int (v26 + (1 : Int32)))).bind fun w27 => (some (.inl none, w27)))))))))))))))))))))))))))))
set_option maxHeartbeats 4000000 in
set_option maxRecDepth 100000 in
theorem m_E_addFrom (hst : l.stackTraces = false) (F : Nat) (p0 : Nat) (p1 : Nat) (p2 : Int32) (w : ga_W) : ga_M l S0 D gz_cl (gz_tA cT) base b gz_xn y_E_addFrom ws_E_addFrom 0 0 true [.ref p0, .ref p1, .int p2] w (f_E_addFrom F p0 p1 p2 w) := by
  refine ga_enter (cc := c_E_addFrom) (maxL := 3) (ret := none) hst (by decide) rfl (Nat.le_of_ble_eq_true rfl) ?_
  intro p e R s m args below meth c ad0
  refine ga_sub (lv2 := [(0, .ref p0), (1, .ref p1), (2, .int p2)]) [0, 1, 2] rfl ?_
  unfold f_E_addFrom
  refine ga_aload_n (q := 0) d_E_addFrom_0 rfl rfl ?_
  refine ga_getR (C := "LevelStore$Entries") (T := T_E) (N := 6) (k := 0) (ci := 0) (fun x h => List.mem_cons_of_mem _ (iw_E x h)) rfl (by decide) (List.mem_cons_of_mem _ gw_89) d_E_addFrom_1 (fun r1 => ?_)
  refine ga_aload_n (q := 0) d_E_addFrom_4 rfl rfl ?_
  refine ga_getI (C := "LevelStore$Entries") (T := T_E) (N := 6) (k := 5) (ci := 0) (fun x h => List.mem_cons_of_mem _ (iw_E x h)) rfl (by decide) (List.mem_cons_of_mem _ gw_111) d_E_addFrom_5 (fun v2 => ?_)
  refine ga_aload_n (q := 1) d_E_addFrom_8 rfl rfl ?_
  refine ga_getR (C := "LevelStore$Entries") (T := T_E) (N := 6) (k := 0) (ci := 0) (fun x h => List.mem_cons_of_mem _ (iw_E x h)) rfl (by decide) (List.mem_cons_of_mem _ gw_89) d_E_addFrom_9 (fun r3 => ?_)
  refine ga_iload_n (q := 2) d_E_addFrom_12 rfl rfl ?_
  refine ga_ldI (t := 0) rfl d_E_addFrom_13 (fun v4 => ?_)
  refine ga_stI (t := 0) rfl d_E_addFrom_14 (fun w5 => ?_)
  refine ga_aload_n (q := 0) d_E_addFrom_15 rfl rfl ?_
  refine ga_getR (C := "LevelStore$Entries") (T := T_E) (N := 6) (k := 1) (ci := 0) (fun x h => List.mem_cons_of_mem _ (iw_E x h)) rfl (by decide) (List.mem_cons_of_mem _ gw_95) d_E_addFrom_16 (fun r6 => ?_)
  refine ga_aload_n (q := 0) d_E_addFrom_19 rfl rfl ?_
  refine ga_getI (C := "LevelStore$Entries") (T := T_E) (N := 6) (k := 5) (ci := 0) (fun x h => List.mem_cons_of_mem _ (iw_E x h)) rfl (by decide) (List.mem_cons_of_mem _ gw_111) d_E_addFrom_20 (fun v7 => ?_)
  refine ga_aload_n (q := 1) d_E_addFrom_23 rfl rfl ?_
  refine ga_getR (C := "LevelStore$Entries") (T := T_E) (N := 6) (k := 1) (ci := 0) (fun x h => List.mem_cons_of_mem _ (iw_E x h)) rfl (by decide) (List.mem_cons_of_mem _ gw_95) d_E_addFrom_24 (fun r8 => ?_)
  refine ga_iload_n (q := 2) d_E_addFrom_27 rfl rfl ?_
  refine ga_ldI (t := 0) rfl d_E_addFrom_28 (fun v9 => ?_)
  refine ga_stI (t := 0) rfl d_E_addFrom_29 (fun w10 => ?_)
  refine ga_aload_n (q := 0) d_E_addFrom_30 rfl rfl ?_
  refine ga_getR (C := "LevelStore$Entries") (T := T_E) (N := 6) (k := 2) (ci := 0) (fun x h => List.mem_cons_of_mem _ (iw_E x h)) rfl (by decide) (List.mem_cons_of_mem _ gw_99) d_E_addFrom_31 (fun r11 => ?_)
  refine ga_aload_n (q := 0) d_E_addFrom_34 rfl rfl ?_
  refine ga_getI (C := "LevelStore$Entries") (T := T_E) (N := 6) (k := 5) (ci := 0) (fun x h => List.mem_cons_of_mem _ (iw_E x h)) rfl (by decide) (List.mem_cons_of_mem _ gw_111) d_E_addFrom_35 (fun v12 => ?_)
  refine ga_aload_n (q := 1) d_E_addFrom_38 rfl rfl ?_
  refine ga_getR (C := "LevelStore$Entries") (T := T_E) (N := 6) (k := 2) (ci := 0) (fun x h => List.mem_cons_of_mem _ (iw_E x h)) rfl (by decide) (List.mem_cons_of_mem _ gw_99) d_E_addFrom_39 (fun r13 => ?_)
  refine ga_iload_n (q := 2) d_E_addFrom_42 rfl rfl ?_
  refine ga_ldI (t := 0) rfl d_E_addFrom_43 (fun v14 => ?_)
  refine ga_stI (t := 0) rfl d_E_addFrom_44 (fun w15 => ?_)
  refine ga_aload_n (q := 0) d_E_addFrom_45 rfl rfl ?_
  refine ga_getR (C := "LevelStore$Entries") (T := T_E) (N := 6) (k := 3) (ci := 0) (fun x h => List.mem_cons_of_mem _ (iw_E x h)) rfl (by decide) (List.mem_cons_of_mem _ gw_102) d_E_addFrom_46 (fun r16 => ?_)
  refine ga_aload_n (q := 0) d_E_addFrom_49 rfl rfl ?_
  refine ga_getI (C := "LevelStore$Entries") (T := T_E) (N := 6) (k := 5) (ci := 0) (fun x h => List.mem_cons_of_mem _ (iw_E x h)) rfl (by decide) (List.mem_cons_of_mem _ gw_111) d_E_addFrom_50 (fun v17 => ?_)
  refine ga_aload_n (q := 1) d_E_addFrom_53 rfl rfl ?_
  refine ga_getR (C := "LevelStore$Entries") (T := T_E) (N := 6) (k := 3) (ci := 0) (fun x h => List.mem_cons_of_mem _ (iw_E x h)) rfl (by decide) (List.mem_cons_of_mem _ gw_102) d_E_addFrom_54 (fun r18 => ?_)
  refine ga_iload_n (q := 2) d_E_addFrom_57 rfl rfl ?_
  refine ga_ldZ (t := 1) rfl d_E_addFrom_58 (fun v19 => ?_)
  refine ga_stZ (t := 1) rfl d_E_addFrom_59 (fun w20 => ?_)
  refine ga_aload_n (q := 0) d_E_addFrom_60 rfl rfl ?_
  refine ga_getR (C := "LevelStore$Entries") (T := T_E) (N := 6) (k := 4) (ci := 0) (fun x h => List.mem_cons_of_mem _ (iw_E x h)) rfl (by decide) (List.mem_cons_of_mem _ gw_106) d_E_addFrom_61 (fun r21 => ?_)
  refine ga_aload_n (q := 0) d_E_addFrom_64 rfl rfl ?_
  refine ga_getI (C := "LevelStore$Entries") (T := T_E) (N := 6) (k := 5) (ci := 0) (fun x h => List.mem_cons_of_mem _ (iw_E x h)) rfl (by decide) (List.mem_cons_of_mem _ gw_111) d_E_addFrom_65 (fun v22 => ?_)
  refine ga_aload_n (q := 1) d_E_addFrom_68 rfl rfl ?_
  refine ga_getR (C := "LevelStore$Entries") (T := T_E) (N := 6) (k := 4) (ci := 0) (fun x h => List.mem_cons_of_mem _ (iw_E x h)) rfl (by decide) (List.mem_cons_of_mem _ gw_106) d_E_addFrom_69 (fun r23 => ?_)
  refine ga_iload_n (q := 2) d_E_addFrom_72 rfl rfl ?_
  refine ga_ldZ (t := 1) rfl d_E_addFrom_73 (fun v24 => ?_)
  refine ga_stZ (t := 1) rfl d_E_addFrom_74 (fun w25 => ?_)
  refine ga_aload_n (q := 0) d_E_addFrom_75 rfl rfl ?_
  refine ga_dup d_E_addFrom_76 rfl ?_
  refine ga_getI (C := "LevelStore$Entries") (T := T_E) (N := 6) (k := 5) (ci := 0) (fun x h => List.mem_cons_of_mem _ (iw_E x h)) rfl (by decide) (List.mem_cons_of_mem _ gw_111) d_E_addFrom_77 (fun v26 => ?_)
  refine ga_iconst (v := (1 : Int32)) d_E_addFrom_80 (by decide) ?_
  refine ga_iadd d_E_addFrom_81 ?_
  refine ga_putB (C := "LevelStore$Entries") (T := T_E) (N := 6) (k := 5) (ci := 0) (ty0 := ty_E) (fun x h => List.mem_cons_of_mem _ (iw_E x h)) ty_E_ok nm_E rfl (by decide) (List.mem_cons_of_mem _ gw_111) (Or.inl rfl) (fun _ => ⟨rfl, rfl⟩) d_E_addFrom_82 (fun w27 => ?_)
  exact ga_vret rfl d_E_addFrom_85
noncomputable def f_S_hasLooseRows (F : Nat) (p0 : Nat) (w : ga_W) : ga_O :=
  ((ga_gr w 3 0 p0).bind fun r1 => ((ga_gi w 0 5 r1).bind fun v2 => ((ga_gr w 3 3 p0).bind fun r3 => ((ga_gi w 3 4 p0).bind fun v4 => ((ga_ai w 0 r3 v4).bind fun v5 => (if v2 ≤ v5 then (some (.inl (some (.int (0 : Int32))), w)) else (some (.inl (some (.int (1 : Int32))), w))))))))
set_option maxHeartbeats 4000000 in
set_option maxRecDepth 100000 in
theorem m_S_hasLooseRows (hst : l.stackTraces = false) (F : Nat) (p0 : Nat) (w : ga_W) : ga_M l S0 D gz_cl (gz_tA cT) base b gz_xn y_S_hasLooseRows ws_S_hasLooseRows 0 0 true [.ref p0] w (f_S_hasLooseRows F p0 w) := by
  refine ga_enter (cc := c_S_hasLooseRows) (maxL := 1) (ret := (some .boolean)) hst (by decide) rfl (Nat.le_of_ble_eq_true rfl) ?_
  intro p e R s m args below meth c ad0
  refine ga_sub (lv2 := [(0, .ref p0)]) [0] rfl ?_
  unfold f_S_hasLooseRows
  refine ga_aload_n (q := 0) d_S_hasLooseRows_0 rfl rfl ?_
  refine ga_getR (C := "LevelStore$Shelf") (T := T_S) (N := 5) (k := 0) (ci := 3) (fun x h => List.mem_cons_of_mem _ (iw_S x h)) rfl (by decide) (List.mem_cons_of_mem _ gw_161) d_S_hasLooseRows_1 (fun r1 => ?_)
  refine ga_getI (C := "LevelStore$Entries") (T := T_E) (N := 6) (k := 5) (ci := 0) (fun x h => List.mem_cons_of_mem _ (iw_E x h)) rfl (by decide) (List.mem_cons_of_mem _ gw_112) d_S_hasLooseRows_4 (fun v2 => ?_)
  refine ga_aload_n (q := 0) d_S_hasLooseRows_7 rfl rfl ?_
  refine ga_getR (C := "LevelStore$Shelf") (T := T_S) (N := 5) (k := 3) (ci := 3) (fun x h => List.mem_cons_of_mem _ (iw_S x h)) rfl (by decide) (List.mem_cons_of_mem _ gw_170) d_S_hasLooseRows_8 (fun r3 => ?_)
  refine ga_aload_n (q := 0) d_S_hasLooseRows_11 rfl rfl ?_
  refine ga_getI (C := "LevelStore$Shelf") (T := T_S) (N := 5) (k := 4) (ci := 3) (fun x h => List.mem_cons_of_mem _ (iw_S x h)) rfl (by decide) (List.mem_cons_of_mem _ gw_173) d_S_hasLooseRows_12 (fun v4 => ?_)
  refine ga_ldI (t := 0) rfl d_S_hasLooseRows_15 (fun v5 => ?_)
  refine ga_icmp_le (tgt := 23) d_S_hasLooseRows_16 (by decide) (fun h6 => ?_) (fun h6 => ?_)
  · refine ga_iconst (v := (0 : Int32)) d_S_hasLooseRows_23 (by decide) ?_
    exact ga_zret rfl rfl d_S_hasLooseRows_24
  · refine ga_iconst (v := (1 : Int32)) d_S_hasLooseRows_19 (by decide) ?_
    refine ga_goto (tgt := 24) d_S_hasLooseRows_20 (by decide) ?_
    exact ga_zret rfl rfl d_S_hasLooseRows_24
noncomputable def f_S_endTable (F : Nat) (p0 : Nat) (p1 : Int32) (p2 : Int32) (w : ga_W) : ga_O :=
  ((ga_gr w 3 1 p0).bind fun r1 => ((ga_gi w 3 4 p0).bind fun v2 => ((ga_si w 0 r1 v2 p1).bind fun w3 => ((ga_gr w3 3 2 p0).bind fun r4 => ((ga_gi w3 3 4 p0).bind fun v5 => ((ga_si w3 0 r4 v5 p2).bind fun w6 => ((ga_gi w6 3 4 p0).bind fun v7 => ((ga_put w6 3 4 p0 (.int (v7 + (1 : Int32)))).bind fun w8 => ((ga_gr w8 3 3 p0).bind fun r9 => ((ga_gi w8 3 4 p0).bind fun v10 => ((ga_gr w8 3 0 p0).bind fun r11 => ((ga_gi w8 0 5 r11).bind fun v12 => ((ga_si w8 0 r9 v10 v12).bind fun w13 => (some (.inl none, w13)))))))))))))))
set_option maxHeartbeats 4000000 in
set_option maxRecDepth 100000 in
theorem m_S_endTable (hst : l.stackTraces = false) (F : Nat) (p0 : Nat) (p1 : Int32) (p2 : Int32) (w : ga_W) : ga_M l S0 D gz_cl (gz_tA cT) base b gz_xn y_S_endTable ws_S_endTable 0 0 true [.ref p0, .int p1, .int p2] w (f_S_endTable F p0 p1 p2 w) := by
  refine ga_enter (cc := c_S_endTable) (maxL := 3) (ret := none) hst (by decide) rfl (Nat.le_of_ble_eq_true rfl) ?_
  intro p e R s m args below meth c ad0
  refine ga_sub (lv2 := [(0, .ref p0), (1, .int p1), (2, .int p2)]) [0, 1, 2] rfl ?_
  unfold f_S_endTable
  refine ga_aload_n (q := 0) d_S_endTable_0 rfl rfl ?_
  refine ga_getR (C := "LevelStore$Shelf") (T := T_S) (N := 5) (k := 1) (ci := 3) (fun x h => List.mem_cons_of_mem _ (iw_S x h)) rfl (by decide) (List.mem_cons_of_mem _ gw_164) d_S_endTable_1 (fun r1 => ?_)
  refine ga_aload_n (q := 0) d_S_endTable_4 rfl rfl ?_
  refine ga_getI (C := "LevelStore$Shelf") (T := T_S) (N := 5) (k := 4) (ci := 3) (fun x h => List.mem_cons_of_mem _ (iw_S x h)) rfl (by decide) (List.mem_cons_of_mem _ gw_173) d_S_endTable_5 (fun v2 => ?_)
  refine ga_iload_n (q := 1) d_S_endTable_8 rfl rfl ?_
  refine ga_stI (t := 0) rfl d_S_endTable_9 (fun w3 => ?_)
  refine ga_aload_n (q := 0) d_S_endTable_10 rfl rfl ?_
  refine ga_getR (C := "LevelStore$Shelf") (T := T_S) (N := 5) (k := 2) (ci := 3) (fun x h => List.mem_cons_of_mem _ (iw_S x h)) rfl (by decide) (List.mem_cons_of_mem _ gw_167) d_S_endTable_11 (fun r4 => ?_)
  refine ga_aload_n (q := 0) d_S_endTable_14 rfl rfl ?_
  refine ga_getI (C := "LevelStore$Shelf") (T := T_S) (N := 5) (k := 4) (ci := 3) (fun x h => List.mem_cons_of_mem _ (iw_S x h)) rfl (by decide) (List.mem_cons_of_mem _ gw_173) d_S_endTable_15 (fun v5 => ?_)
  refine ga_iload_n (q := 2) d_S_endTable_18 rfl rfl ?_
  refine ga_stI (t := 0) rfl d_S_endTable_19 (fun w6 => ?_)
  refine ga_aload_n (q := 0) d_S_endTable_20 rfl rfl ?_
  refine ga_dup d_S_endTable_21 rfl ?_
  refine ga_getI (C := "LevelStore$Shelf") (T := T_S) (N := 5) (k := 4) (ci := 3) (fun x h => List.mem_cons_of_mem _ (iw_S x h)) rfl (by decide) (List.mem_cons_of_mem _ gw_173) d_S_endTable_22 (fun v7 => ?_)
  refine ga_iconst (v := (1 : Int32)) d_S_endTable_25 (by decide) ?_
  refine ga_iadd d_S_endTable_26 ?_
  refine ga_putB (C := "LevelStore$Shelf") (T := T_S) (N := 5) (k := 4) (ci := 3) (ty0 := ty_S) (fun x h => List.mem_cons_of_mem _ (iw_S x h)) ty_S_ok nm_S rfl (by decide) (List.mem_cons_of_mem _ gw_173) (Or.inl rfl) (fun _ => ⟨rfl, rfl⟩) d_S_endTable_27 (fun w8 => ?_)
  refine ga_aload_n (q := 0) d_S_endTable_30 rfl rfl ?_
  refine ga_getR (C := "LevelStore$Shelf") (T := T_S) (N := 5) (k := 3) (ci := 3) (fun x h => List.mem_cons_of_mem _ (iw_S x h)) rfl (by decide) (List.mem_cons_of_mem _ gw_170) d_S_endTable_31 (fun r9 => ?_)
  refine ga_aload_n (q := 0) d_S_endTable_34 rfl rfl ?_
  refine ga_getI (C := "LevelStore$Shelf") (T := T_S) (N := 5) (k := 4) (ci := 3) (fun x h => List.mem_cons_of_mem _ (iw_S x h)) rfl (by decide) (List.mem_cons_of_mem _ gw_173) d_S_endTable_35 (fun v10 => ?_)
  refine ga_aload_n (q := 0) d_S_endTable_38 rfl rfl ?_
  refine ga_getR (C := "LevelStore$Shelf") (T := T_S) (N := 5) (k := 0) (ci := 3) (fun x h => List.mem_cons_of_mem _ (iw_S x h)) rfl (by decide) (List.mem_cons_of_mem _ gw_161) d_S_endTable_39 (fun r11 => ?_)
  refine ga_getI (C := "LevelStore$Entries") (T := T_E) (N := 6) (k := 5) (ci := 0) (fun x h => List.mem_cons_of_mem _ (iw_E x h)) rfl (by decide) (List.mem_cons_of_mem _ gw_112) d_S_endTable_42 (fun v12 => ?_)
  refine ga_stI (t := 0) rfl d_S_endTable_45 (fun w13 => ?_)
  exact ga_vret rfl d_S_endTable_46
end GM0
