/-! WALKS: S_spoiledBlocksOf, O_addSorted, V_sortJoining, S_placeBehind, S_addTable, V_addStaying -/
section GM2
variable {l : Launch} {S0 : State} {D : va_G} {cT : Nat → ClassId} {base b : Nat} {p : Program} {e : Env} {R : Room} {s : State} {m : MethodId} {args : Array Value} {below : List Frame} {meth : Method} {c : Code} {ad0 : Nat → Nat} {w0 : ga_W}
noncomputable def f_S_spoiledBlocksOf_9 (F : Nat) (x0 : Nat) (x1 : Int32) : Nat → Int32 → Int32 → ga_W → ga_O
  | 0, _, _, _ => none
  | n + 1, x2, x3, w => ((ga_gr w 3 3 x0).bind fun r1 => ((ga_ai w 0 r1 (x1 + (1 : Int32))).bind fun v2 => (if v2 ≤ x3 then (some (.inl (some (.int x2)), w)) else ((ga_gr w 3 0 x0).bind fun r4 => ((ga_gr w 0 4 r4).bind fun r5 => ((ga_az w 1 r5 x3).bind fun v6 => (if v6 = 0 then (f_S_spoiledBlocksOf_9 F x0 x1 n x2 (x3 + (4 : Int32)) w) else (f_S_spoiledBlocksOf_9 F x0 x1 n (x2 + (1 : Int32)) (x3 + (4 : Int32)) w))))))))
noncomputable def f_S_spoiledBlocksOf (F : Nat) (p0 : Nat) (p1 : Int32) (w : ga_W) : ga_O :=
  ((ga_gr w 3 3 p0).bind fun r1 => ((ga_ai w 0 r1 p1).bind fun v2 => (f_S_spoiledBlocksOf_9 F p0 p1 F (0 : Int32) v2 w)))
set_option maxHeartbeats 4000000 in
set_option maxRecDepth 100000 in
theorem h_S_spoiledBlocksOf_9 (hst : l.stackTraces = false) (F : Nat) (x0 : Nat) (x1 : Int32) : ∀ (n : Nat) (x2 : Int32) (x3 : Int32) (w : ga_W), ga_J l S0 D gz_cl (gz_tA cT) base b gz_xn p e R s m args below meth c 4 ws_S_spoiledBlocksOf y_S_spoiledBlocksOf.cls c_S_spoiledBlocksOf (some .int) [] y_S_spoiledBlocksOf.name 0 0 true ad0 w0 (ga_MQ gz_xn D gz_cl (gz_tA cT) base b s args below ad0 w0) 9 [(0, .ref x0), (1, .int x1), (2, .int x2), (3, .int x3)] [] w (f_S_spoiledBlocksOf_9 F x0 x1 n x2 x3 w) := by
  intro n
  induction n with
  | zero => intro x2 x3 w; exact ga_no
  | succ n ih =>
    intro x2 x3 w
    rw [f_S_spoiledBlocksOf_9]
    refine ga_iload_n (q := 3) d_S_spoiledBlocksOf_9 rfl rfl ?_
    refine ga_aload_n (q := 0) d_S_spoiledBlocksOf_10 rfl rfl ?_
    refine ga_getR (C := "LevelStore$Shelf") (T := T_S) (N := 5) (k := 3) (ci := 3) (fun x h => List.mem_cons_of_mem _ (iw_S x h)) rfl (by decide) (List.mem_cons_of_mem _ gw_170) d_S_spoiledBlocksOf_11 (fun r1 => ?_)
    refine ga_iload_n (q := 1) d_S_spoiledBlocksOf_14 rfl rfl ?_
    refine ga_iconst (v := (1 : Int32)) d_S_spoiledBlocksOf_15 (by decide) ?_
    refine ga_iadd d_S_spoiledBlocksOf_16 ?_
    refine ga_ldI (t := 0) rfl d_S_spoiledBlocksOf_17 (fun v2 => ?_)
    refine ga_icmp_ge (tgt := 42) d_S_spoiledBlocksOf_18 (by decide) (fun h3 => ?_) (fun h3 => ?_)
    · refine ga_iload_n (q := 2) d_S_spoiledBlocksOf_42 rfl rfl ?_
      exact ga_iret rfl d_S_spoiledBlocksOf_43
    · refine ga_aload_n (q := 0) d_S_spoiledBlocksOf_21 rfl rfl ?_
      refine ga_getR (C := "LevelStore$Shelf") (T := T_S) (N := 5) (k := 0) (ci := 3) (fun x h => List.mem_cons_of_mem _ (iw_S x h)) rfl (by decide) (List.mem_cons_of_mem _ gw_161) d_S_spoiledBlocksOf_22 (fun r4 => ?_)
      refine ga_getR (C := "LevelStore$Entries") (T := T_E) (N := 6) (k := 4) (ci := 0) (fun x h => List.mem_cons_of_mem _ (iw_E x h)) rfl (by decide) (List.mem_cons_of_mem _ gw_108) d_S_spoiledBlocksOf_25 (fun r5 => ?_)
      refine ga_iload_n (q := 3) d_S_spoiledBlocksOf_28 rfl rfl ?_
      refine ga_ldZ (t := 1) rfl d_S_spoiledBlocksOf_29 (fun v6 => ?_)
      refine ga_if_eq (tgt := 36) d_S_spoiledBlocksOf_30 (by decide) (fun h7 => ?_) (fun h7 => ?_)
      · refine ga_iinc (q := 3) (v := (x3 + (4 : Int32))) (lv2 := [(3, .int (x3 + (4 : Int32))), (0, .ref x0), (1, .int x1), (2, .int x2)]) d_S_spoiledBlocksOf_36 rfl rfl (by decide) rfl ?_
        refine ga_goto (tgt := 9) d_S_spoiledBlocksOf_39 (by decide) ?_
        refine ga_sub (lv2 := [(0, .ref x0), (1, .int x1), (2, .int x2), (3, .int (x3 + (4 : Int32)))]) [1, 2, 3, 0] rfl ?_
        exact ih _ _ _
      · refine ga_iinc (q := 2) (v := (x2 + (1 : Int32))) (lv2 := [(2, .int (x2 + (1 : Int32))), (0, .ref x0), (1, .int x1), (3, .int x3)]) d_S_spoiledBlocksOf_33 rfl rfl (by decide) rfl ?_
        refine ga_iinc (q := 3) (v := (x3 + (4 : Int32))) (lv2 := [(3, .int (x3 + (4 : Int32))), (2, .int (x2 + (1 : Int32))), (0, .ref x0), (1, .int x1)]) d_S_spoiledBlocksOf_36 rfl rfl (by decide) rfl ?_
        refine ga_goto (tgt := 9) d_S_spoiledBlocksOf_39 (by decide) ?_
        refine ga_sub (lv2 := [(0, .ref x0), (1, .int x1), (2, .int (x2 + (1 : Int32))), (3, .int (x3 + (4 : Int32)))]) [2, 3, 1, 0] rfl ?_
        exact ih _ _ _
set_option maxHeartbeats 4000000 in
set_option maxRecDepth 100000 in
theorem m_S_spoiledBlocksOf (hst : l.stackTraces = false) (F : Nat) (p0 : Nat) (p1 : Int32) (w : ga_W) : ga_M l S0 D gz_cl (gz_tA cT) base b gz_xn y_S_spoiledBlocksOf ws_S_spoiledBlocksOf 0 0 true [.ref p0, .int p1] w (f_S_spoiledBlocksOf F p0 p1 w) := by
  refine ga_enter (cc := c_S_spoiledBlocksOf) (maxL := 4) (ret := (some .int)) hst (by decide) rfl (Nat.le_of_ble_eq_true rfl) ?_
  intro p e R s m args below meth c ad0
  refine ga_sub (lv2 := [(0, .ref p0), (1, .int p1)]) [0, 1] rfl ?_
  unfold f_S_spoiledBlocksOf
  refine ga_iconst (v := (0 : Int32)) d_S_spoiledBlocksOf_0 (by decide) ?_
  refine ga_istore_n (lv2 := [(2, .int (0 : Int32)), (0, .ref p0), (1, .int p1)]) d_S_spoiledBlocksOf_1 rfl (by decide) rfl ?_
  refine ga_aload_n (q := 1) d_S_spoiledBlocksOf_2 rfl rfl ?_
  refine ga_getR (C := "LevelStore$Shelf") (T := T_S) (N := 5) (k := 3) (ci := 3) (fun x h => List.mem_cons_of_mem _ (iw_S x h)) rfl (by decide) (List.mem_cons_of_mem _ gw_170) d_S_spoiledBlocksOf_3 (fun r1 => ?_)
  refine ga_iload_n (q := 2) d_S_spoiledBlocksOf_6 rfl rfl ?_
  refine ga_ldI (t := 0) rfl d_S_spoiledBlocksOf_7 (fun v2 => ?_)
  refine ga_istore_n (lv2 := [(3, .int v2), (2, .int (0 : Int32)), (0, .ref p0), (1, .int p1)]) d_S_spoiledBlocksOf_8 rfl (by decide) rfl ?_
  refine ga_sub (lv2 := [(0, .ref p0), (1, .int p1), (2, .int (0 : Int32)), (3, .int v2)]) [2, 3, 1, 0] rfl ?_
  exact h_S_spoiledBlocksOf_9 hst F p0 p1 F (0 : Int32) v2 w
noncomputable def f_O_addSorted_10 (F : Nat) (x0 : Nat) (x1 : Nat) (K47 : ga_W → ga_O) : Nat → Int32 → ga_W → ga_O
  | 0, _, _ => none
  | n + 1, x2, w => ((ga_gr w 4 0 x0).bind fun r1 => ((ga_gi w 0 5 r1).bind fun v2 => (if v2 ≤ x2 then (K47 w) else ((ga_gr w 4 1 x0).bind fun r4 => ((ga_gr w 4 0 x0).bind fun r5 => ((ga_gr w 0 0 r5).bind fun r6 => ((ga_ai w 0 r6 x2).bind fun v7 => ((ga_ai w 0 r4 (v7 + (1 : Int32))).bind fun v8 => ((ga_si w 0 r4 (v7 + (1 : Int32)) (v8 + (1 : Int32))).bind fun w9 => (f_O_addSorted_10 F x0 x1 K47 n (x2 + (1 : Int32)) w9))))))))))
noncomputable def f_O_addSorted_49 (F : Nat) (x0 : Nat) (x1 : Nat) (K78 : ga_W → ga_O) : Nat → Int32 → ga_W → ga_O
  | 0, _, _ => none
  | n + 1, x2, w => (if (64 : Int32) ≤ x2 then (K78 w) else ((ga_gr w 4 1 x0).bind fun r2 => ((ga_ai w 0 r2 (x2 + (1 : Int32))).bind fun v3 => ((ga_gr w 4 1 x0).bind fun r4 => ((ga_ai w 0 r4 x2).bind fun v5 => ((ga_si w 0 r2 (x2 + (1 : Int32)) (v3 + v5)).bind fun w6 => (f_O_addSorted_49 F x0 x1 K78 n (x2 + (1 : Int32)) w6)))))))
noncomputable def f_O_addSorted_80 (F : Nat) (x0 : Nat) (x1 : Nat) (K129 : ga_W → ga_O) : Nat → Int32 → ga_W → ga_O
  | 0, _, _ => none
  | n + 1, x2, w => ((ga_gr w 4 0 x0).bind fun r1 => ((ga_gi w 0 5 r1).bind fun v2 => (if v2 ≤ x2 then (K129 w) else ((ga_gr w 4 0 x0).bind fun r4 => ((ga_gr w 0 0 r4).bind fun r5 => ((ga_ai w 0 r5 x2).bind fun v6 => ((ga_gr w 4 2 x0).bind fun r7 => ((ga_gr w 4 1 x0).bind fun r8 => ((ga_ai w 0 r8 v6).bind fun v9 => ((ga_si w 0 r7 v9 x2).bind fun w10 => ((ga_gr w10 4 1 x0).bind fun r11 => ((ga_ai w10 0 r11 v6).bind fun v12 => ((ga_si w10 0 r11 v6 (v12 + (1 : Int32))).bind fun w13 => (f_O_addSorted_80 F x0 x1 K129 n (x2 + (1 : Int32)) w13))))))))))))))
noncomputable def f_O_addSorted_131 (F : Nat) (x0 : Nat) (x1 : Nat) : Nat → Int32 → ga_W → ga_O
  | 0, _, _ => none
  | n + 1, x2, w => ((ga_gr w 4 0 x0).bind fun r1 => ((ga_gi w 0 5 r1).bind fun v2 => (if v2 ≤ x2 then (some (.inl none, w)) else ((ga_gr w 4 0 x0).bind fun r4 => ((ga_gr w 4 2 x0).bind fun r5 => ((ga_ai w 0 r5 x2).bind fun v6 => (if ga_is w 0 x1 = true then ga_c (f_E_addFrom F x1 r4 v6 w) (ga_kV fun w7 => (f_O_addSorted_131 F x0 x1 n (x2 + (1 : Int32)) w7)) ga_up else none)))))))
noncomputable def f_O_addSorted (F : Nat) (p0 : Nat) (p1 : Nat) (w : ga_W) : ga_O :=
  ((ga_gr w 4 1 p0).bind fun r1 => (ga_c (f_J_fill F r1 (0 : Int32) w) (ga_kV fun w2 => (f_O_addSorted_10 F p0 p1 (fun (w3 : ga_W) => (f_O_addSorted_49 F p0 p1 (fun (w4 : ga_W) => (f_O_addSorted_80 F p0 p1 (fun (w5 : ga_W) => (f_O_addSorted_131 F p0 p1 F (0 : Int32) w5)) F (0 : Int32) w4)) F (0 : Int32) w3)) F (0 : Int32) w2)) ga_up))
set_option maxHeartbeats 4000000 in
set_option maxRecDepth 100000 in
theorem h_O_addSorted_10 (hst : l.stackTraces = false) (F : Nat) (x0 : Nat) (x1 : Nat) (K47 : ga_W → ga_O) (hK47 : ∀ (w : ga_W), ga_J l S0 D gz_cl (gz_tA cT) base b gz_xn p e R s m args below meth c 4 ws_O_addSorted y_O_addSorted.cls c_O_addSorted none [] y_O_addSorted.name 1 23 true ad0 w0 (ga_MQ gz_xn D gz_cl (gz_tA cT) base b s args below ad0 w0) 47 [(0, .ref x0), (1, .ref x1)] [] w (K47 w)) : ∀ (n : Nat) (x2 : Int32) (w : ga_W), ga_J l S0 D gz_cl (gz_tA cT) base b gz_xn p e R s m args below meth c 4 ws_O_addSorted y_O_addSorted.cls c_O_addSorted none [] y_O_addSorted.name 1 23 true ad0 w0 (ga_MQ gz_xn D gz_cl (gz_tA cT) base b s args below ad0 w0) 10 [(0, .ref x0), (1, .ref x1), (2, .int x2)] [] w (f_O_addSorted_10 F x0 x1 K47 n x2 w) := by
  intro n
  induction n with
  | zero => intro x2 w; exact ga_no
  | succ n ih =>
    intro x2 w
    rw [f_O_addSorted_10]
    refine ga_iload_n (q := 2) d_O_addSorted_10 rfl rfl ?_
    refine ga_aload_n (q := 0) d_O_addSorted_11 rfl rfl ?_
    refine ga_getR (C := "LevelStore$Sorter") (T := T_O) (N := 3) (k := 0) (ci := 4) (fun x h => List.mem_cons_of_mem _ (iw_O x h)) rfl (by decide) (List.mem_cons_of_mem _ gw_195) d_O_addSorted_12 (fun r1 => ?_)
    refine ga_getI (C := "LevelStore$Entries") (T := T_E) (N := 6) (k := 5) (ci := 0) (fun x h => List.mem_cons_of_mem _ (iw_E x h)) rfl (by decide) (List.mem_cons_of_mem _ gw_113) d_O_addSorted_15 (fun v2 => ?_)
    refine ga_icmp_ge (tgt := 47) d_O_addSorted_18 (by decide) (fun h3 => ?_) (fun h3 => ?_)
    · refine ga_sub (lv2 := [(0, .ref x0), (1, .ref x1)]) [0, 1] rfl ?_
      exact hK47  _
    · refine ga_aload_n (q := 0) d_O_addSorted_21 rfl rfl ?_
      refine ga_getR (C := "LevelStore$Sorter") (T := T_O) (N := 3) (k := 1) (ci := 4) (fun x h => List.mem_cons_of_mem _ (iw_O x h)) rfl (by decide) (List.mem_cons_of_mem _ gw_197) d_O_addSorted_22 (fun r4 => ?_)
      refine ga_aload_n (q := 0) d_O_addSorted_25 rfl rfl ?_
      refine ga_getR (C := "LevelStore$Sorter") (T := T_O) (N := 3) (k := 0) (ci := 4) (fun x h => List.mem_cons_of_mem _ (iw_O x h)) rfl (by decide) (List.mem_cons_of_mem _ gw_195) d_O_addSorted_26 (fun r5 => ?_)
      refine ga_getR (C := "LevelStore$Entries") (T := T_E) (N := 6) (k := 0) (ci := 0) (fun x h => List.mem_cons_of_mem _ (iw_E x h)) rfl (by decide) (List.mem_cons_of_mem _ gw_91) d_O_addSorted_29 (fun r6 => ?_)
      refine ga_iload_n (q := 2) d_O_addSorted_32 rfl rfl ?_
      refine ga_ldI (t := 0) rfl d_O_addSorted_33 (fun v7 => ?_)
      refine ga_iconst (v := (1 : Int32)) d_O_addSorted_34 (by decide) ?_
      refine ga_iadd d_O_addSorted_35 ?_
      refine ga_dup2 d_O_addSorted_36 rfl rfl ?_
      refine ga_ldI (t := 0) rfl d_O_addSorted_37 (fun v8 => ?_)
      refine ga_iconst (v := (1 : Int32)) d_O_addSorted_38 (by decide) ?_
      refine ga_iadd d_O_addSorted_39 ?_
      refine ga_stI (t := 0) rfl d_O_addSorted_40 (fun w9 => ?_)
      refine ga_iinc (q := 2) (v := (x2 + (1 : Int32))) (lv2 := [(2, .int (x2 + (1 : Int32))), (0, .ref x0), (1, .ref x1)]) d_O_addSorted_41 rfl rfl (by decide) rfl ?_
      refine ga_goto (tgt := 10) d_O_addSorted_44 (by decide) ?_
      refine ga_sub (lv2 := [(0, .ref x0), (1, .ref x1), (2, .int (x2 + (1 : Int32)))]) [1, 2, 0] rfl ?_
      exact ih _ _
set_option maxHeartbeats 4000000 in
set_option maxRecDepth 100000 in
theorem h_O_addSorted_49 (hst : l.stackTraces = false) (F : Nat) (x0 : Nat) (x1 : Nat) (K78 : ga_W → ga_O) (hK78 : ∀ (w : ga_W), ga_J l S0 D gz_cl (gz_tA cT) base b gz_xn p e R s m args below meth c 4 ws_O_addSorted y_O_addSorted.cls c_O_addSorted none [] y_O_addSorted.name 1 23 true ad0 w0 (ga_MQ gz_xn D gz_cl (gz_tA cT) base b s args below ad0 w0) 78 [(0, .ref x0), (1, .ref x1)] [] w (K78 w)) : ∀ (n : Nat) (x2 : Int32) (w : ga_W), ga_J l S0 D gz_cl (gz_tA cT) base b gz_xn p e R s m args below meth c 4 ws_O_addSorted y_O_addSorted.cls c_O_addSorted none [] y_O_addSorted.name 1 23 true ad0 w0 (ga_MQ gz_xn D gz_cl (gz_tA cT) base b s args below ad0 w0) 49 [(0, .ref x0), (1, .ref x1), (2, .int x2)] [] w (f_O_addSorted_49 F x0 x1 K78 n x2 w) := by
  intro n
  induction n with
  | zero => intro x2 w; exact ga_no
  | succ n ih =>
    intro x2 w
    rw [f_O_addSorted_49]
    refine ga_iload_n (q := 2) d_O_addSorted_49 rfl rfl ?_
    refine ga_bipush (v := (64 : Int32)) d_O_addSorted_50 (by decide) ?_
    refine ga_icmp_ge (tgt := 78) d_O_addSorted_52 (by decide) (fun h1 => ?_) (fun h1 => ?_)
    · refine ga_sub (lv2 := [(0, .ref x0), (1, .ref x1)]) [0, 1] rfl ?_
      exact hK78  _
    · refine ga_aload_n (q := 0) d_O_addSorted_55 rfl rfl ?_
      refine ga_getR (C := "LevelStore$Sorter") (T := T_O) (N := 3) (k := 1) (ci := 4) (fun x h => List.mem_cons_of_mem _ (iw_O x h)) rfl (by decide) (List.mem_cons_of_mem _ gw_197) d_O_addSorted_56 (fun r2 => ?_)
      refine ga_iload_n (q := 2) d_O_addSorted_59 rfl rfl ?_
      refine ga_iconst (v := (1 : Int32)) d_O_addSorted_60 (by decide) ?_
      refine ga_iadd d_O_addSorted_61 ?_
      refine ga_dup2 d_O_addSorted_62 rfl rfl ?_
      refine ga_ldI (t := 0) rfl d_O_addSorted_63 (fun v3 => ?_)
      refine ga_aload_n (q := 0) d_O_addSorted_64 rfl rfl ?_
      refine ga_getR (C := "LevelStore$Sorter") (T := T_O) (N := 3) (k := 1) (ci := 4) (fun x h => List.mem_cons_of_mem _ (iw_O x h)) rfl (by decide) (List.mem_cons_of_mem _ gw_197) d_O_addSorted_65 (fun r4 => ?_)
      refine ga_iload_n (q := 2) d_O_addSorted_68 rfl rfl ?_
      refine ga_ldI (t := 0) rfl d_O_addSorted_69 (fun v5 => ?_)
      refine ga_iadd d_O_addSorted_70 ?_
      refine ga_stI (t := 0) rfl d_O_addSorted_71 (fun w6 => ?_)
      refine ga_iinc (q := 2) (v := (x2 + (1 : Int32))) (lv2 := [(2, .int (x2 + (1 : Int32))), (0, .ref x0), (1, .ref x1)]) d_O_addSorted_72 rfl rfl (by decide) rfl ?_
      refine ga_goto (tgt := 49) d_O_addSorted_75 (by decide) ?_
      refine ga_sub (lv2 := [(0, .ref x0), (1, .ref x1), (2, .int (x2 + (1 : Int32)))]) [1, 2, 0] rfl ?_
      exact ih _ _
set_option maxHeartbeats 4000000 in
set_option maxRecDepth 100000 in
theorem h_O_addSorted_80 (hst : l.stackTraces = false) (F : Nat) (x0 : Nat) (x1 : Nat) (K129 : ga_W → ga_O) (hK129 : ∀ (w : ga_W), ga_J l S0 D gz_cl (gz_tA cT) base b gz_xn p e R s m args below meth c 4 ws_O_addSorted y_O_addSorted.cls c_O_addSorted none [] y_O_addSorted.name 1 23 true ad0 w0 (ga_MQ gz_xn D gz_cl (gz_tA cT) base b s args below ad0 w0) 129 [(0, .ref x0), (1, .ref x1)] [] w (K129 w)) : ∀ (n : Nat) (x2 : Int32) (w : ga_W), ga_J l S0 D gz_cl (gz_tA cT) base b gz_xn p e R s m args below meth c 4 ws_O_addSorted y_O_addSorted.cls c_O_addSorted none [] y_O_addSorted.name 1 23 true ad0 w0 (ga_MQ gz_xn D gz_cl (gz_tA cT) base b s args below ad0 w0) 80 [(0, .ref x0), (1, .ref x1), (2, .int x2)] [] w (f_O_addSorted_80 F x0 x1 K129 n x2 w) := by
  intro n
  induction n with
  | zero => intro x2 w; exact ga_no
  | succ n ih =>
    intro x2 w
    rw [f_O_addSorted_80]
    refine ga_iload_n (q := 2) d_O_addSorted_80 rfl rfl ?_
    refine ga_aload_n (q := 0) d_O_addSorted_81 rfl rfl ?_
    refine ga_getR (C := "LevelStore$Sorter") (T := T_O) (N := 3) (k := 0) (ci := 4) (fun x h => List.mem_cons_of_mem _ (iw_O x h)) rfl (by decide) (List.mem_cons_of_mem _ gw_195) d_O_addSorted_82 (fun r1 => ?_)
    refine ga_getI (C := "LevelStore$Entries") (T := T_E) (N := 6) (k := 5) (ci := 0) (fun x h => List.mem_cons_of_mem _ (iw_E x h)) rfl (by decide) (List.mem_cons_of_mem _ gw_113) d_O_addSorted_85 (fun v2 => ?_)
    refine ga_icmp_ge (tgt := 129) d_O_addSorted_88 (by decide) (fun h3 => ?_) (fun h3 => ?_)
    · refine ga_sub (lv2 := [(0, .ref x0), (1, .ref x1)]) [0, 1] rfl ?_
      exact hK129  _
    · refine ga_aload_n (q := 0) d_O_addSorted_91 rfl rfl ?_
      refine ga_getR (C := "LevelStore$Sorter") (T := T_O) (N := 3) (k := 0) (ci := 4) (fun x h => List.mem_cons_of_mem _ (iw_O x h)) rfl (by decide) (List.mem_cons_of_mem _ gw_195) d_O_addSorted_92 (fun r4 => ?_)
      refine ga_getR (C := "LevelStore$Entries") (T := T_E) (N := 6) (k := 0) (ci := 0) (fun x h => List.mem_cons_of_mem _ (iw_E x h)) rfl (by decide) (List.mem_cons_of_mem _ gw_91) d_O_addSorted_95 (fun r5 => ?_)
      refine ga_iload_n (q := 2) d_O_addSorted_98 rfl rfl ?_
      refine ga_ldI (t := 0) rfl d_O_addSorted_99 (fun v6 => ?_)
      refine ga_istore_n (lv2 := [(3, .int v6), (0, .ref x0), (1, .ref x1), (2, .int x2)]) d_O_addSorted_100 rfl (by decide) rfl ?_
      refine ga_aload_n (q := 1) d_O_addSorted_101 rfl rfl ?_
      refine ga_getR (C := "LevelStore$Sorter") (T := T_O) (N := 3) (k := 2) (ci := 4) (fun x h => List.mem_cons_of_mem _ (iw_O x h)) rfl (by decide) (List.mem_cons_of_mem _ gw_198) d_O_addSorted_102 (fun r7 => ?_)
      refine ga_aload_n (q := 1) d_O_addSorted_105 rfl rfl ?_
      refine ga_getR (C := "LevelStore$Sorter") (T := T_O) (N := 3) (k := 1) (ci := 4) (fun x h => List.mem_cons_of_mem _ (iw_O x h)) rfl (by decide) (List.mem_cons_of_mem _ gw_197) d_O_addSorted_106 (fun r8 => ?_)
      refine ga_iload_n (q := 0) d_O_addSorted_109 rfl rfl ?_
      refine ga_ldI (t := 0) rfl d_O_addSorted_110 (fun v9 => ?_)
      refine ga_iload_n (q := 3) d_O_addSorted_111 rfl rfl ?_
      refine ga_stI (t := 0) rfl d_O_addSorted_112 (fun w10 => ?_)
      refine ga_aload_n (q := 1) d_O_addSorted_113 rfl rfl ?_
      refine ga_getR (C := "LevelStore$Sorter") (T := T_O) (N := 3) (k := 1) (ci := 4) (fun x h => List.mem_cons_of_mem _ (iw_O x h)) rfl (by decide) (List.mem_cons_of_mem _ gw_197) d_O_addSorted_114 (fun r11 => ?_)
      refine ga_iload_n (q := 0) d_O_addSorted_117 rfl rfl ?_
      refine ga_dup2 d_O_addSorted_118 rfl rfl ?_
      refine ga_ldI (t := 0) rfl d_O_addSorted_119 (fun v12 => ?_)
      refine ga_iconst (v := (1 : Int32)) d_O_addSorted_120 (by decide) ?_
      refine ga_iadd d_O_addSorted_121 ?_
      refine ga_stI (t := 0) rfl d_O_addSorted_122 (fun w13 => ?_)
      refine ga_iinc (q := 3) (v := (x2 + (1 : Int32))) (lv2 := [(2, .int (x2 + (1 : Int32))), (3, .int v6), (0, .ref x0), (1, .ref x1)]) d_O_addSorted_123 rfl rfl (by decide) rfl ?_
      refine ga_goto (tgt := 80) d_O_addSorted_126 (by decide) ?_
      refine ga_sub (lv2 := [(0, .ref x0), (1, .ref x1), (2, .int (x2 + (1 : Int32)))]) [2, 3, 0] rfl ?_
      exact ih _ _
set_option maxHeartbeats 4000000 in
set_option maxRecDepth 100000 in
theorem h_O_addSorted_131 (hst : l.stackTraces = false) (F : Nat) (x0 : Nat) (x1 : Nat) : ∀ (n : Nat) (x2 : Int32) (w : ga_W), ga_J l S0 D gz_cl (gz_tA cT) base b gz_xn p e R s m args below meth c 4 ws_O_addSorted y_O_addSorted.cls c_O_addSorted none [] y_O_addSorted.name 1 23 true ad0 w0 (ga_MQ gz_xn D gz_cl (gz_tA cT) base b s args below ad0 w0) 131 [(0, .ref x0), (1, .ref x1), (2, .int x2)] [] w (f_O_addSorted_131 F x0 x1 n x2 w) := by
  intro n
  induction n with
  | zero => intro x2 w; exact ga_no
  | succ n ih =>
    intro x2 w
    rw [f_O_addSorted_131]
    refine ga_iload_n (q := 2) d_O_addSorted_131 rfl rfl ?_
    refine ga_aload_n (q := 0) d_O_addSorted_132 rfl rfl ?_
    refine ga_getR (C := "LevelStore$Sorter") (T := T_O) (N := 3) (k := 0) (ci := 4) (fun x h => List.mem_cons_of_mem _ (iw_O x h)) rfl (by decide) (List.mem_cons_of_mem _ gw_195) d_O_addSorted_133 (fun r1 => ?_)
    refine ga_getI (C := "LevelStore$Entries") (T := T_E) (N := 6) (k := 5) (ci := 0) (fun x h => List.mem_cons_of_mem _ (iw_E x h)) rfl (by decide) (List.mem_cons_of_mem _ gw_113) d_O_addSorted_136 (fun v2 => ?_)
    refine ga_icmp_ge (tgt := 162) d_O_addSorted_139 (by decide) (fun h3 => ?_) (fun h3 => ?_)
    · exact ga_vret rfl d_O_addSorted_162
    · refine ga_aload_n (q := 1) d_O_addSorted_142 rfl rfl ?_
      refine ga_aload_n (q := 0) d_O_addSorted_143 rfl rfl ?_
      refine ga_getR (C := "LevelStore$Sorter") (T := T_O) (N := 3) (k := 0) (ci := 4) (fun x h => List.mem_cons_of_mem _ (iw_O x h)) rfl (by decide) (List.mem_cons_of_mem _ gw_195) d_O_addSorted_144 (fun r4 => ?_)
      refine ga_aload_n (q := 0) d_O_addSorted_147 rfl rfl ?_
      refine ga_getR (C := "LevelStore$Sorter") (T := T_O) (N := 3) (k := 2) (ci := 4) (fun x h => List.mem_cons_of_mem _ (iw_O x h)) rfl (by decide) (List.mem_cons_of_mem _ gw_198) d_O_addSorted_148 (fun r5 => ?_)
      refine ga_iload_n (q := 2) d_O_addSorted_151 rfl rfl ?_
      refine ga_ldI (t := 0) rfl d_O_addSorted_152 (fun v6 => ?_)
      refine ga_invV (nA := 2) (ci := 0) (T := T_E) (N := 6) (av := [.ref r4, .int v6]) (a := x1) (st := []) (m_E_addFrom hst F x1 r4 v6 w) (Or.inl rfl) (gz_gV gw_364 gw_291 gw_292 gw_53 gw_293) rfl ⟨rfl, by decide +kernel⟩ rfl (by decide) (by decide) (Nat.le_of_ble_eq_true rfl) rfl d_O_addSorted_153 (ga_vV (fun w7 => ?_)) (fun _ _ => ga_thru rfl)
      refine ga_iinc (q := 2) (v := (x2 + (1 : Int32))) (lv2 := [(2, .int (x2 + (1 : Int32))), (0, .ref x0), (1, .ref x1)]) d_O_addSorted_156 rfl rfl (by decide) rfl ?_
      refine ga_goto (tgt := 131) d_O_addSorted_159 (by decide) ?_
      refine ga_sub (lv2 := [(0, .ref x0), (1, .ref x1), (2, .int (x2 + (1 : Int32)))]) [1, 2, 0] rfl ?_
      exact ih _ _
set_option maxHeartbeats 4000000 in
set_option maxRecDepth 100000 in
theorem m_O_addSorted (hst : l.stackTraces = false) (F : Nat) (p0 : Nat) (p1 : Nat) (w : ga_W) : ga_M l S0 D gz_cl (gz_tA cT) base b gz_xn y_O_addSorted ws_O_addSorted 1 23 true [.ref p0, .ref p1] w (f_O_addSorted F p0 p1 w) := by
  refine ga_enter (cc := c_O_addSorted) (maxL := 4) (ret := none) hst (by decide) rfl (Nat.le_of_ble_eq_true rfl) ?_
  intro p e R s m args below meth c ad0
  refine ga_sub (lv2 := [(0, .ref p0), (1, .ref p1)]) [0, 1] rfl ?_
  unfold f_O_addSorted
  refine ga_aload_n (q := 0) d_O_addSorted_0 rfl rfl ?_
  refine ga_getR (C := "LevelStore$Sorter") (T := T_O) (N := 3) (k := 1) (ci := 4) (fun x h => List.mem_cons_of_mem _ (iw_O x h)) rfl (by decide) (List.mem_cons_of_mem _ gw_197) d_O_addSorted_1 (fun r1 => ?_)
  refine ga_iconst (v := (0 : Int32)) d_O_addSorted_4 (by decide) ?_
  refine ga_invS (nA := 2) (av := [.ref r1, .int (0 : Int32)]) (st := []) (m_J_fill hst F r1 (0 : Int32) w) (Or.inl rfl) (gz_gS gw_363 gw_244 gw_57 gw_245) rfl (by decide +kernel) rfl (by decide) (by decide) (Nat.le_of_ble_eq_true rfl) d_O_addSorted_5 (ga_vV (fun w2 => ?_)) (fun _ _ => ga_thru rfl)
  refine ga_iconst (v := (0 : Int32)) d_O_addSorted_8 (by decide) ?_
  refine ga_istore_n (lv2 := [(2, .int (0 : Int32)), (0, .ref p0), (1, .ref p1)]) d_O_addSorted_9 rfl (by decide) rfl ?_
  refine ga_sub (lv2 := [(0, .ref p0), (1, .ref p1), (2, .int (0 : Int32))]) [1, 2, 0] rfl ?_
  refine h_O_addSorted_10 hst F p0 p1 _ (fun w3 => ?_) F (0 : Int32) w2
  refine ga_iconst (v := (0 : Int32)) d_O_addSorted_47 (by decide) ?_
  refine ga_istore_n (lv2 := [(2, .int (0 : Int32)), (0, .ref p0), (1, .ref p1)]) d_O_addSorted_48 rfl (by decide) rfl ?_
  refine ga_sub (lv2 := [(0, .ref p0), (1, .ref p1), (2, .int (0 : Int32))]) [1, 2, 0] rfl ?_
  refine h_O_addSorted_49 hst F p0 p1 _ (fun w4 => ?_) F (0 : Int32) w3
  refine ga_iconst (v := (0 : Int32)) d_O_addSorted_78 (by decide) ?_
  refine ga_istore_n (lv2 := [(2, .int (0 : Int32)), (0, .ref p0), (1, .ref p1)]) d_O_addSorted_79 rfl (by decide) rfl ?_
  refine ga_sub (lv2 := [(0, .ref p0), (1, .ref p1), (2, .int (0 : Int32))]) [1, 2, 0] rfl ?_
  refine h_O_addSorted_80 hst F p0 p1 _ (fun w5 => ?_) F (0 : Int32) w4
  refine ga_iconst (v := (0 : Int32)) d_O_addSorted_129 (by decide) ?_
  refine ga_istore_n (lv2 := [(2, .int (0 : Int32)), (0, .ref p0), (1, .ref p1)]) d_O_addSorted_130 rfl (by decide) rfl ?_
  refine ga_sub (lv2 := [(0, .ref p0), (1, .ref p1), (2, .int (0 : Int32))]) [1, 2, 0] rfl ?_
  exact h_O_addSorted_131 hst F p0 p1 F (0 : Int32) w5
noncomputable def f_V_sortJoining_34 (F : Nat) (x0 : Nat) (x1 : Int32) (K82 : ga_W → ga_O) : Nat → Int32 → ga_W → ga_O
  | 0, _, _ => none
  | n + 1, x2, w => ((ga_gr w 1 4 x0).bind fun r1 => ((ga_az w 1 r1 x1).bind fun v2 => (if v2 = 0 then (K82 w) else ((ga_gr w 1 0 x0).bind fun r4 => ((ga_gr w 3 3 r4).bind fun r5 => ((ga_ai w 0 r5 (x1 + (1 : Int32))).bind fun v6 => (if v6 ≤ x2 then (K82 w) else ((ga_gr w 1 2 x0).bind fun r8 => ((ga_gr w 4 0 r8).bind fun r9 => ((ga_gr w 1 0 x0).bind fun r10 => ((ga_gr w 3 0 r10).bind fun r11 => (if ga_is w 0 r9 = true then ga_c (f_E_addFrom F r9 r11 x2 w) (ga_kV fun w12 => (f_V_sortJoining_34 F x0 x1 K82 n (x2 + (1 : Int32)) w12)) ga_up else none))))))))))))
noncomputable def f_V_sortJoining_13 (F : Nat) (x0 : Nat) : Nat → Int32 → ga_W → ga_O
  | 0, _, _ => none
  | n + 1, x1, w => ((ga_gr w 1 0 x0).bind fun r1 => ((ga_gi w 3 4 r1).bind fun v2 => (if v2 ≤ x1 then ((ga_gr w 1 3 x0).bind fun r4 => ((ga_put w 0 5 r4 (.int (0 : Int32))).bind fun w5 => ((ga_gr w5 1 2 x0).bind fun r6 => ((ga_gr w5 1 3 x0).bind fun r7 => (if ga_is w5 4 r6 = true then ga_c (f_O_addSorted F r6 r7 w5) (ga_kV fun w8 => (some (.inl none, w8))) ga_up else none))))) else ((ga_gr w 1 0 x0).bind fun r9 => ((ga_gr w 3 3 r9).bind fun r10 => ((ga_ai w 0 r10 x1).bind fun v11 => (f_V_sortJoining_34 F x0 x1 (fun (w12 : ga_W) => (f_V_sortJoining_13 F x0 n (x1 + (1 : Int32)) w12)) F v11 w)))))))
noncomputable def f_V_sortJoining (F : Nat) (p0 : Nat) (w : ga_W) : ga_O :=
  ((ga_gr w 1 2 p0).bind fun r1 => ((ga_gr w 4 0 r1).bind fun r2 => ((ga_put w 0 5 r2 (.int (0 : Int32))).bind fun w3 => (f_V_sortJoining_13 F p0 F (0 : Int32) w3))))
set_option maxHeartbeats 4000000 in
set_option maxRecDepth 100000 in
theorem h_V_sortJoining_34 (hst : l.stackTraces = false) (F : Nat) (x0 : Nat) (x1 : Int32) (K82 : ga_W → ga_O) (hK82 : ∀ (w : ga_W), ga_J l S0 D gz_cl (gz_tA cT) base b gz_xn p e R s m args below meth c 3 ws_V_sortJoining y_V_sortJoining.cls c_V_sortJoining none [] y_V_sortJoining.name 2 46 true ad0 w0 (ga_MQ gz_xn D gz_cl (gz_tA cT) base b s args below ad0 w0) 82 [(0, .ref x0), (1, .int x1)] [] w (K82 w)) : ∀ (n : Nat) (x2 : Int32) (w : ga_W), ga_J l S0 D gz_cl (gz_tA cT) base b gz_xn p e R s m args below meth c 3 ws_V_sortJoining y_V_sortJoining.cls c_V_sortJoining none [] y_V_sortJoining.name 2 46 true ad0 w0 (ga_MQ gz_xn D gz_cl (gz_tA cT) base b s args below ad0 w0) 34 [(0, .ref x0), (1, .int x1), (2, .int x2)] [] w (f_V_sortJoining_34 F x0 x1 K82 n x2 w) := by
  intro n
  induction n with
  | zero => intro x2 w; exact ga_no
  | succ n ih =>
    intro x2 w
    rw [f_V_sortJoining_34]
    refine ga_aload_n (q := 0) d_V_sortJoining_34 rfl rfl ?_
    refine ga_getR (C := "LevelStore$Levels") (T := T_V) (N := 9) (k := 4) (ci := 1) (fun x h => List.mem_cons_of_mem _ (iw_V x h)) rfl (by decide) (List.mem_cons_of_mem _ gw_213) d_V_sortJoining_35 (fun r1 => ?_)
    refine ga_iload_n (q := 1) d_V_sortJoining_38 rfl rfl ?_
    refine ga_ldZ (t := 1) rfl d_V_sortJoining_39 (fun v2 => ?_)
    refine ga_if_eq (tgt := 82) d_V_sortJoining_40 (by decide) (fun h3 => ?_) (fun h3 => ?_)
    · refine ga_sub (lv2 := [(0, .ref x0), (1, .int x1)]) [0, 1] rfl ?_
      exact hK82  _
    · refine ga_iload_n (q := 2) d_V_sortJoining_43 rfl rfl ?_
      refine ga_aload_n (q := 0) d_V_sortJoining_44 rfl rfl ?_
      refine ga_getR (C := "LevelStore$Levels") (T := T_V) (N := 9) (k := 0) (ci := 1) (fun x h => List.mem_cons_of_mem _ (iw_V x h)) rfl (by decide) (List.mem_cons_of_mem _ gw_208) d_V_sortJoining_45 (fun r4 => ?_)
      refine ga_getR (C := "LevelStore$Shelf") (T := T_S) (N := 5) (k := 3) (ci := 3) (fun x h => List.mem_cons_of_mem _ (iw_S x h)) rfl (by decide) (List.mem_cons_of_mem _ gw_171) d_V_sortJoining_48 (fun r5 => ?_)
      refine ga_iload_n (q := 1) d_V_sortJoining_51 rfl rfl ?_
      refine ga_iconst (v := (1 : Int32)) d_V_sortJoining_52 (by decide) ?_
      refine ga_iadd d_V_sortJoining_53 ?_
      refine ga_ldI (t := 0) rfl d_V_sortJoining_54 (fun v6 => ?_)
      refine ga_icmp_ge (tgt := 82) d_V_sortJoining_55 (by decide) (fun h7 => ?_) (fun h7 => ?_)
      · refine ga_sub (lv2 := [(0, .ref x0), (1, .int x1)]) [0, 1] rfl ?_
        exact hK82  _
      · refine ga_aload_n (q := 0) d_V_sortJoining_58 rfl rfl ?_
        refine ga_getR (C := "LevelStore$Levels") (T := T_V) (N := 9) (k := 2) (ci := 1) (fun x h => List.mem_cons_of_mem _ (iw_V x h)) rfl (by decide) (List.mem_cons_of_mem _ gw_211) d_V_sortJoining_59 (fun r8 => ?_)
        refine ga_getR (C := "LevelStore$Sorter") (T := T_O) (N := 3) (k := 0) (ci := 4) (fun x h => List.mem_cons_of_mem _ (iw_O x h)) rfl (by decide) (List.mem_cons_of_mem _ gw_196) d_V_sortJoining_62 (fun r9 => ?_)
        refine ga_aload_n (q := 0) d_V_sortJoining_65 rfl rfl ?_
        refine ga_getR (C := "LevelStore$Levels") (T := T_V) (N := 9) (k := 0) (ci := 1) (fun x h => List.mem_cons_of_mem _ (iw_V x h)) rfl (by decide) (List.mem_cons_of_mem _ gw_208) d_V_sortJoining_66 (fun r10 => ?_)
        refine ga_getR (C := "LevelStore$Shelf") (T := T_S) (N := 5) (k := 0) (ci := 3) (fun x h => List.mem_cons_of_mem _ (iw_S x h)) rfl (by decide) (List.mem_cons_of_mem _ gw_162) d_V_sortJoining_69 (fun r11 => ?_)
        refine ga_iload_n (q := 2) d_V_sortJoining_72 rfl rfl ?_
        refine ga_invV (nA := 2) (ci := 0) (T := T_E) (N := 6) (av := [.ref r11, .int x2]) (a := r9) (st := []) (m_E_addFrom hst F r9 r11 x2 w) (Or.inl rfl) (gz_gV gw_290 gw_291 gw_292 gw_53 gw_293) rfl ⟨rfl, by decide +kernel⟩ rfl (by decide) (by decide) (Nat.le_of_ble_eq_true rfl) rfl d_V_sortJoining_73 (ga_vV (fun w12 => ?_)) (fun _ _ => ga_thru rfl)
        refine ga_iinc (q := 2) (v := (x2 + (1 : Int32))) (lv2 := [(2, .int (x2 + (1 : Int32))), (0, .ref x0), (1, .int x1)]) d_V_sortJoining_76 rfl rfl (by decide) rfl ?_
        refine ga_goto (tgt := 34) d_V_sortJoining_79 (by decide) ?_
        refine ga_sub (lv2 := [(0, .ref x0), (1, .int x1), (2, .int (x2 + (1 : Int32)))]) [1, 2, 0] rfl ?_
        exact ih _ _
set_option maxHeartbeats 4000000 in
set_option maxRecDepth 100000 in
theorem h_V_sortJoining_13 (hst : l.stackTraces = false) (F : Nat) (x0 : Nat) : ∀ (n : Nat) (x1 : Int32) (w : ga_W), ga_J l S0 D gz_cl (gz_tA cT) base b gz_xn p e R s m args below meth c 3 ws_V_sortJoining y_V_sortJoining.cls c_V_sortJoining none [] y_V_sortJoining.name 2 46 true ad0 w0 (ga_MQ gz_xn D gz_cl (gz_tA cT) base b s args below ad0 w0) 13 [(0, .ref x0), (1, .int x1)] [] w (f_V_sortJoining_13 F x0 n x1 w) := by
  intro n
  induction n with
  | zero => intro x1 w; exact ga_no
  | succ n ih =>
    intro x1 w
    rw [f_V_sortJoining_13]
    refine ga_iload_n (q := 1) d_V_sortJoining_13 rfl rfl ?_
    refine ga_aload_n (q := 0) d_V_sortJoining_14 rfl rfl ?_
    refine ga_getR (C := "LevelStore$Levels") (T := T_V) (N := 9) (k := 0) (ci := 1) (fun x h => List.mem_cons_of_mem _ (iw_V x h)) rfl (by decide) (List.mem_cons_of_mem _ gw_208) d_V_sortJoining_15 (fun r1 => ?_)
    refine ga_getI (C := "LevelStore$Shelf") (T := T_S) (N := 5) (k := 4) (ci := 3) (fun x h => List.mem_cons_of_mem _ (iw_S x h)) rfl (by decide) (List.mem_cons_of_mem _ gw_174) d_V_sortJoining_18 (fun v2 => ?_)
    refine ga_icmp_ge (tgt := 88) d_V_sortJoining_21 (by decide) (fun h3 => ?_) (fun h3 => ?_)
    · refine ga_aload_n (q := 0) d_V_sortJoining_88 rfl rfl ?_
      refine ga_getR (C := "LevelStore$Levels") (T := T_V) (N := 9) (k := 3) (ci := 1) (fun x h => List.mem_cons_of_mem _ (iw_V x h)) rfl (by decide) (List.mem_cons_of_mem _ gw_212) d_V_sortJoining_89 (fun r4 => ?_)
      refine ga_iconst (v := (0 : Int32)) d_V_sortJoining_92 (by decide) ?_
      refine ga_putB (C := "LevelStore$Entries") (T := T_E) (N := 6) (k := 5) (ci := 0) (ty0 := ty_E) (fun x h => List.mem_cons_of_mem _ (iw_E x h)) ty_E_ok nm_E rfl (by decide) (List.mem_cons_of_mem _ gw_115) (Or.inl rfl) (fun _ => ⟨rfl, rfl⟩) d_V_sortJoining_93 (fun w5 => ?_)
      refine ga_aload_n (q := 0) d_V_sortJoining_96 rfl rfl ?_
      refine ga_getR (C := "LevelStore$Levels") (T := T_V) (N := 9) (k := 2) (ci := 1) (fun x h => List.mem_cons_of_mem _ (iw_V x h)) rfl (by decide) (List.mem_cons_of_mem _ gw_211) d_V_sortJoining_97 (fun r6 => ?_)
      refine ga_aload_n (q := 0) d_V_sortJoining_100 rfl rfl ?_
      refine ga_getR (C := "LevelStore$Levels") (T := T_V) (N := 9) (k := 3) (ci := 1) (fun x h => List.mem_cons_of_mem _ (iw_V x h)) rfl (by decide) (List.mem_cons_of_mem _ gw_212) d_V_sortJoining_101 (fun r7 => ?_)
      refine ga_invV (nA := 1) (ci := 4) (T := T_O) (N := 3) (av := [.ref r7]) (a := r6) (st := []) (m_O_addSorted hst F r6 r7 w5) (Or.inl rfl) (gz_gV gw_359 gw_360 gw_361 gw_56 gw_362) rfl ⟨rfl, by decide +kernel⟩ rfl (by decide) (by decide) (Nat.le_of_ble_eq_true rfl) rfl d_V_sortJoining_104 (ga_vV (fun w8 => ?_)) (fun _ _ => ga_thru rfl)
      exact ga_vret rfl d_V_sortJoining_107
    · refine ga_aload_n (q := 0) d_V_sortJoining_24 rfl rfl ?_
      refine ga_getR (C := "LevelStore$Levels") (T := T_V) (N := 9) (k := 0) (ci := 1) (fun x h => List.mem_cons_of_mem _ (iw_V x h)) rfl (by decide) (List.mem_cons_of_mem _ gw_208) d_V_sortJoining_25 (fun r9 => ?_)
      refine ga_getR (C := "LevelStore$Shelf") (T := T_S) (N := 5) (k := 3) (ci := 3) (fun x h => List.mem_cons_of_mem _ (iw_S x h)) rfl (by decide) (List.mem_cons_of_mem _ gw_171) d_V_sortJoining_28 (fun r10 => ?_)
      refine ga_iload_n (q := 1) d_V_sortJoining_31 rfl rfl ?_
      refine ga_ldI (t := 0) rfl d_V_sortJoining_32 (fun v11 => ?_)
      refine ga_istore_n (lv2 := [(2, .int v11), (0, .ref x0), (1, .int x1)]) d_V_sortJoining_33 rfl (by decide) rfl ?_
      refine ga_sub (lv2 := [(0, .ref x0), (1, .int x1), (2, .int v11)]) [1, 2, 0] rfl ?_
      refine h_V_sortJoining_34 hst F x0 x1 _ (fun w12 => ?_) F v11 w
      refine ga_iinc (q := 1) (v := (x1 + (1 : Int32))) (lv2 := [(1, .int (x1 + (1 : Int32))), (0, .ref x0)]) d_V_sortJoining_82 rfl rfl (by decide) rfl ?_
      refine ga_goto (tgt := 13) d_V_sortJoining_85 (by decide) ?_
      refine ga_sub (lv2 := [(0, .ref x0), (1, .int (x1 + (1 : Int32)))]) [1, 0] rfl ?_
      exact ih _ _
set_option maxHeartbeats 4000000 in
set_option maxRecDepth 100000 in
theorem m_V_sortJoining (hst : l.stackTraces = false) (F : Nat) (p0 : Nat) (w : ga_W) : ga_M l S0 D gz_cl (gz_tA cT) base b gz_xn y_V_sortJoining ws_V_sortJoining 2 46 true [.ref p0] w (f_V_sortJoining F p0 w) := by
  refine ga_enter (cc := c_V_sortJoining) (maxL := 3) (ret := none) hst (by decide) rfl (Nat.le_of_ble_eq_true rfl) ?_
  intro p e R s m args below meth c ad0
  refine ga_sub (lv2 := [(0, .ref p0)]) [0] rfl ?_
  unfold f_V_sortJoining
  refine ga_aload_n (q := 0) d_V_sortJoining_0 rfl rfl ?_
  refine ga_getR (C := "LevelStore$Levels") (T := T_V) (N := 9) (k := 2) (ci := 1) (fun x h => List.mem_cons_of_mem _ (iw_V x h)) rfl (by decide) (List.mem_cons_of_mem _ gw_211) d_V_sortJoining_1 (fun r1 => ?_)
  refine ga_getR (C := "LevelStore$Sorter") (T := T_O) (N := 3) (k := 0) (ci := 4) (fun x h => List.mem_cons_of_mem _ (iw_O x h)) rfl (by decide) (List.mem_cons_of_mem _ gw_196) d_V_sortJoining_4 (fun r2 => ?_)
  refine ga_iconst (v := (0 : Int32)) d_V_sortJoining_7 (by decide) ?_
  refine ga_putB (C := "LevelStore$Entries") (T := T_E) (N := 6) (k := 5) (ci := 0) (ty0 := ty_E) (fun x h => List.mem_cons_of_mem _ (iw_E x h)) ty_E_ok nm_E rfl (by decide) (List.mem_cons_of_mem _ gw_115) (Or.inl rfl) (fun _ => ⟨rfl, rfl⟩) d_V_sortJoining_8 (fun w3 => ?_)
  refine ga_iconst (v := (0 : Int32)) d_V_sortJoining_11 (by decide) ?_
  refine ga_istore_n (lv2 := [(1, .int (0 : Int32)), (0, .ref p0)]) d_V_sortJoining_12 rfl (by decide) rfl ?_
  refine ga_sub (lv2 := [(0, .ref p0), (1, .int (0 : Int32))]) [1, 0] rfl ?_
  exact h_V_sortJoining_13 hst F p0 F (0 : Int32) w3
noncomputable def f_S_placeBehind_2 (F : Nat) (x0 : Nat) (x1 : Int32) (x2 : Int32) : Nat → Int32 → ga_W → ga_O
  | 0, _, _ => none
  | n + 1, x3, w => ((ga_gi w 3 4 x0).bind fun v1 => (if v1 ≤ x3 then (some (.inl (some (.int x3)), w)) else ((ga_gr w 3 2 x0).bind fun r3 => ((ga_ai w 0 r3 x3).bind fun v4 => (if v4 < x1 then (f_S_placeBehind_2 F x0 x1 x2 n (x3 + (1 : Int32)) w) else ((ga_gr w 3 2 x0).bind fun r6 => ((ga_ai w 0 r6 x3).bind fun v7 => (if v7 = x1 then (if ga_is w 3 x0 = true then ga_c (f_S_leastKey F x0 x3 w) (ga_kI fun v10 w9 => (if x2 < v10 then (some (.inl (some (.int x3)), w9)) else (f_S_placeBehind_2 F x0 x1 x2 n (x3 + (1 : Int32)) w9))) ga_up else none) else (some (.inl (some (.int x3)), w))))))))))
noncomputable def f_S_placeBehind (F : Nat) (p0 : Nat) (p1 : Int32) (p2 : Int32) (w : ga_W) : ga_O :=
  (f_S_placeBehind_2 F p0 p1 p2 F (0 : Int32) w)
set_option maxHeartbeats 4000000 in
set_option maxRecDepth 100000 in
theorem h_S_placeBehind_2 (hst : l.stackTraces = false) (F : Nat) (x0 : Nat) (x1 : Int32) (x2 : Int32) : ∀ (n : Nat) (x3 : Int32) (w : ga_W), ga_J l S0 D gz_cl (gz_tA cT) base b gz_xn p e R s m args below meth c 4 ws_S_placeBehind y_S_placeBehind.cls c_S_placeBehind (some .int) [] y_S_placeBehind.name 1 21 true ad0 w0 (ga_MQ gz_xn D gz_cl (gz_tA cT) base b s args below ad0 w0) 2 [(0, .ref x0), (1, .int x1), (2, .int x2), (3, .int x3)] [] w (f_S_placeBehind_2 F x0 x1 x2 n x3 w) := by
  intro n
  induction n with
  | zero => intro x3 w; exact ga_no
  | succ n ih =>
    intro x3 w
    rw [f_S_placeBehind_2]
    refine ga_iload_n (q := 3) d_S_placeBehind_2 rfl rfl ?_
    refine ga_aload_n (q := 0) d_S_placeBehind_3 rfl rfl ?_
    refine ga_getI (C := "LevelStore$Shelf") (T := T_S) (N := 5) (k := 4) (ci := 3) (fun x h => List.mem_cons_of_mem _ (iw_S x h)) rfl (by decide) (List.mem_cons_of_mem _ gw_173) d_S_placeBehind_4 (fun v1 => ?_)
    refine ga_icmp_ge (tgt := 45) d_S_placeBehind_7 (by decide) (fun h2 => ?_) (fun h2 => ?_)
    · refine ga_iload_n (q := 3) d_S_placeBehind_45 rfl rfl ?_
      exact ga_iret rfl d_S_placeBehind_46
    · refine ga_aload_n (q := 0) d_S_placeBehind_10 rfl rfl ?_
      refine ga_getR (C := "LevelStore$Shelf") (T := T_S) (N := 5) (k := 2) (ci := 3) (fun x h => List.mem_cons_of_mem _ (iw_S x h)) rfl (by decide) (List.mem_cons_of_mem _ gw_167) d_S_placeBehind_11 (fun r3 => ?_)
      refine ga_iload_n (q := 3) d_S_placeBehind_14 rfl rfl ?_
      refine ga_ldI (t := 0) rfl d_S_placeBehind_15 (fun v4 => ?_)
      refine ga_iload_n (q := 1) d_S_placeBehind_16 rfl rfl ?_
      refine ga_icmp_lt (tgt := 39) d_S_placeBehind_17 (by decide) (fun h5 => ?_) (fun h5 => ?_)
      · refine ga_iinc (q := 3) (v := (x3 + (1 : Int32))) (lv2 := [(3, .int (x3 + (1 : Int32))), (0, .ref x0), (1, .int x1), (2, .int x2)]) d_S_placeBehind_39 rfl rfl (by decide) rfl ?_
        refine ga_goto (tgt := 2) d_S_placeBehind_42 (by decide) ?_
        refine ga_sub (lv2 := [(0, .ref x0), (1, .int x1), (2, .int x2), (3, .int (x3 + (1 : Int32)))]) [1, 2, 3, 0] rfl ?_
        exact ih _ _
      · refine ga_aload_n (q := 0) d_S_placeBehind_20 rfl rfl ?_
        refine ga_getR (C := "LevelStore$Shelf") (T := T_S) (N := 5) (k := 2) (ci := 3) (fun x h => List.mem_cons_of_mem _ (iw_S x h)) rfl (by decide) (List.mem_cons_of_mem _ gw_167) d_S_placeBehind_21 (fun r6 => ?_)
        refine ga_iload_n (q := 3) d_S_placeBehind_24 rfl rfl ?_
        refine ga_ldI (t := 0) rfl d_S_placeBehind_25 (fun v7 => ?_)
        refine ga_iload_n (q := 1) d_S_placeBehind_26 rfl rfl ?_
        refine ga_icmp_ne (tgt := 45) d_S_placeBehind_27 (by decide) (fun h8 => ?_) (fun h8 => ?_)
        · refine ga_aload_n (q := 0) d_S_placeBehind_30 rfl rfl ?_
          refine ga_iload_n (q := 3) d_S_placeBehind_31 rfl rfl ?_
          refine ga_invV (nA := 1) (ci := 3) (T := T_S) (N := 5) (av := [.int x3]) (a := x0) (st := []) (m_S_leastKey hst F x0 x3 w) (Or.inl rfl) (gz_gV gw_329 gw_330 gw_331 gw_55 gw_332) rfl ⟨rfl, by decide +kernel⟩ rfl (by decide) (by decide) (Nat.le_of_ble_eq_true rfl) rfl d_S_placeBehind_32 (ga_vI (fun v10 w9 => ?_)) (fun _ _ => ga_thru rfl)
          refine ga_iload_n (q := 2) d_S_placeBehind_35 rfl rfl ?_
          refine ga_icmp_gt (tgt := 45) d_S_placeBehind_36 (by decide) (fun h11 => ?_) (fun h11 => ?_)
          · refine ga_iload_n (q := 3) d_S_placeBehind_45 rfl rfl ?_
            exact ga_iret rfl d_S_placeBehind_46
          · refine ga_iinc (q := 3) (v := (x3 + (1 : Int32))) (lv2 := [(3, .int (x3 + (1 : Int32))), (0, .ref x0), (1, .int x1), (2, .int x2)]) d_S_placeBehind_39 rfl rfl (by decide) rfl ?_
            refine ga_goto (tgt := 2) d_S_placeBehind_42 (by decide) ?_
            refine ga_sub (lv2 := [(0, .ref x0), (1, .int x1), (2, .int x2), (3, .int (x3 + (1 : Int32)))]) [1, 2, 3, 0] rfl ?_
            exact ih _ _
        · refine ga_iload_n (q := 3) d_S_placeBehind_45 rfl rfl ?_
          exact ga_iret rfl d_S_placeBehind_46
set_option maxHeartbeats 4000000 in
set_option maxRecDepth 100000 in
theorem m_S_placeBehind (hst : l.stackTraces = false) (F : Nat) (p0 : Nat) (p1 : Int32) (p2 : Int32) (w : ga_W) : ga_M l S0 D gz_cl (gz_tA cT) base b gz_xn y_S_placeBehind ws_S_placeBehind 1 21 true [.ref p0, .int p1, .int p2] w (f_S_placeBehind F p0 p1 p2 w) := by
  refine ga_enter (cc := c_S_placeBehind) (maxL := 4) (ret := (some .int)) hst (by decide) rfl (Nat.le_of_ble_eq_true rfl) ?_
  intro p e R s m args below meth c ad0
  refine ga_sub (lv2 := [(0, .ref p0), (1, .int p1), (2, .int p2)]) [0, 1, 2] rfl ?_
  unfold f_S_placeBehind
  refine ga_iconst (v := (0 : Int32)) d_S_placeBehind_0 (by decide) ?_
  refine ga_istore_n (lv2 := [(3, .int (0 : Int32)), (0, .ref p0), (1, .int p1), (2, .int p2)]) d_S_placeBehind_1 rfl (by decide) rfl ?_
  refine ga_sub (lv2 := [(0, .ref p0), (1, .int p1), (2, .int p2), (3, .int (0 : Int32))]) [1, 2, 3, 0] rfl ?_
  exact h_S_placeBehind_2 hst F p0 p1 p2 F (0 : Int32) w
noncomputable def f_S_addTable_7 (F : Nat) (x0 : Nat) (x1 : Nat) (x2 : Int32) : Nat → Int32 → ga_W → ga_O
  | 0, _, _ => none
  | n + 1, x3, w => ((ga_gr w 3 3 x1).bind fun r1 => ((ga_ai w 0 r1 (x2 + (1 : Int32))).bind fun v2 => (if v2 ≤ x3 then ((ga_gr w 3 1 x1).bind fun r4 => ((ga_ai w 0 r4 x2).bind fun v5 => ((ga_gr w 3 2 x1).bind fun r6 => ((ga_ai w 0 r6 x2).bind fun v7 => (if ga_is w 3 x0 = true then ga_c (f_S_endTable F x0 v5 v7 w) (ga_kV fun w8 => (some (.inl none, w8))) ga_up else none))))) else ((ga_gr w 3 0 x0).bind fun r9 => ((ga_gr w 3 0 x1).bind fun r10 => (if ga_is w 0 r9 = true then ga_c (f_E_addFrom F r9 r10 x3 w) (ga_kV fun w11 => (f_S_addTable_7 F x0 x1 x2 n (x3 + (1 : Int32)) w11)) ga_up else none))))))
noncomputable def f_S_addTable (F : Nat) (p0 : Nat) (p1 : Nat) (p2 : Int32) (w : ga_W) : ga_O :=
  ((ga_gr w 3 3 p1).bind fun r1 => ((ga_ai w 0 r1 p2).bind fun v2 => (f_S_addTable_7 F p0 p1 p2 F v2 w)))
set_option maxHeartbeats 4000000 in
set_option maxRecDepth 100000 in
theorem h_S_addTable_7 (hst : l.stackTraces = false) (F : Nat) (x0 : Nat) (x1 : Nat) (x2 : Int32) : ∀ (n : Nat) (x3 : Int32) (w : ga_W), ga_J l S0 D gz_cl (gz_tA cT) base b gz_xn p e R s m args below meth c 4 ws_S_addTable y_S_addTable.cls c_S_addTable none [] y_S_addTable.name 1 22 true ad0 w0 (ga_MQ gz_xn D gz_cl (gz_tA cT) base b s args below ad0 w0) 7 [(0, .ref x0), (1, .ref x1), (2, .int x2), (3, .int x3)] [] w (f_S_addTable_7 F x0 x1 x2 n x3 w) := by
  intro n
  induction n with
  | zero => intro x3 w; exact ga_no
  | succ n ih =>
    intro x3 w
    rw [f_S_addTable_7]
    refine ga_iload_n (q := 3) d_S_addTable_7 rfl rfl ?_
    refine ga_aload_n (q := 1) d_S_addTable_8 rfl rfl ?_
    refine ga_getR (C := "LevelStore$Shelf") (T := T_S) (N := 5) (k := 3) (ci := 3) (fun x h => List.mem_cons_of_mem _ (iw_S x h)) rfl (by decide) (List.mem_cons_of_mem _ gw_170) d_S_addTable_9 (fun r1 => ?_)
    refine ga_iload_n (q := 2) d_S_addTable_12 rfl rfl ?_
    refine ga_iconst (v := (1 : Int32)) d_S_addTable_13 (by decide) ?_
    refine ga_iadd d_S_addTable_14 ?_
    refine ga_ldI (t := 0) rfl d_S_addTable_15 (fun v2 => ?_)
    refine ga_icmp_ge (tgt := 37) d_S_addTable_16 (by decide) (fun h3 => ?_) (fun h3 => ?_)
    · refine ga_aload_n (q := 0) d_S_addTable_37 rfl rfl ?_
      refine ga_aload_n (q := 1) d_S_addTable_38 rfl rfl ?_
      refine ga_getR (C := "LevelStore$Shelf") (T := T_S) (N := 5) (k := 1) (ci := 3) (fun x h => List.mem_cons_of_mem _ (iw_S x h)) rfl (by decide) (List.mem_cons_of_mem _ gw_164) d_S_addTable_39 (fun r4 => ?_)
      refine ga_iload_n (q := 2) d_S_addTable_42 rfl rfl ?_
      refine ga_ldI (t := 0) rfl d_S_addTable_43 (fun v5 => ?_)
      refine ga_aload_n (q := 1) d_S_addTable_44 rfl rfl ?_
      refine ga_getR (C := "LevelStore$Shelf") (T := T_S) (N := 5) (k := 2) (ci := 3) (fun x h => List.mem_cons_of_mem _ (iw_S x h)) rfl (by decide) (List.mem_cons_of_mem _ gw_167) d_S_addTable_45 (fun r6 => ?_)
      refine ga_iload_n (q := 2) d_S_addTable_48 rfl rfl ?_
      refine ga_ldI (t := 0) rfl d_S_addTable_49 (fun v7 => ?_)
      refine ga_invV (nA := 2) (ci := 3) (T := T_S) (N := 5) (av := [.int v5, .int v7]) (a := x0) (st := []) (m_S_endTable hst F x0 v5 v7 w) (Or.inl rfl) (gz_gV gw_378 gw_299 gw_300 gw_55 gw_301) rfl ⟨rfl, by decide +kernel⟩ rfl (by decide) (by decide) (Nat.le_of_ble_eq_true rfl) rfl d_S_addTable_50 (ga_vV (fun w8 => ?_)) (fun _ _ => ga_thru rfl)
      exact ga_vret rfl d_S_addTable_53
    · refine ga_aload_n (q := 0) d_S_addTable_19 rfl rfl ?_
      refine ga_getR (C := "LevelStore$Shelf") (T := T_S) (N := 5) (k := 0) (ci := 3) (fun x h => List.mem_cons_of_mem _ (iw_S x h)) rfl (by decide) (List.mem_cons_of_mem _ gw_161) d_S_addTable_20 (fun r9 => ?_)
      refine ga_aload_n (q := 1) d_S_addTable_23 rfl rfl ?_
      refine ga_getR (C := "LevelStore$Shelf") (T := T_S) (N := 5) (k := 0) (ci := 3) (fun x h => List.mem_cons_of_mem _ (iw_S x h)) rfl (by decide) (List.mem_cons_of_mem _ gw_161) d_S_addTable_24 (fun r10 => ?_)
      refine ga_iload_n (q := 3) d_S_addTable_27 rfl rfl ?_
      refine ga_invV (nA := 2) (ci := 0) (T := T_E) (N := 6) (av := [.ref r10, .int x3]) (a := r9) (st := []) (m_E_addFrom hst F r9 r10 x3 w) (Or.inl rfl) (gz_gV gw_377 gw_291 gw_292 gw_53 gw_293) rfl ⟨rfl, by decide +kernel⟩ rfl (by decide) (by decide) (Nat.le_of_ble_eq_true rfl) rfl d_S_addTable_28 (ga_vV (fun w11 => ?_)) (fun _ _ => ga_thru rfl)
      refine ga_iinc (q := 3) (v := (x3 + (1 : Int32))) (lv2 := [(3, .int (x3 + (1 : Int32))), (0, .ref x0), (1, .ref x1), (2, .int x2)]) d_S_addTable_31 rfl rfl (by decide) rfl ?_
      refine ga_goto (tgt := 7) d_S_addTable_34 (by decide) ?_
      refine ga_sub (lv2 := [(0, .ref x0), (1, .ref x1), (2, .int x2), (3, .int (x3 + (1 : Int32)))]) [1, 2, 3, 0] rfl ?_
      exact ih _ _
set_option maxHeartbeats 4000000 in
set_option maxRecDepth 100000 in
theorem m_S_addTable (hst : l.stackTraces = false) (F : Nat) (p0 : Nat) (p1 : Nat) (p2 : Int32) (w : ga_W) : ga_M l S0 D gz_cl (gz_tA cT) base b gz_xn y_S_addTable ws_S_addTable 1 22 true [.ref p0, .ref p1, .int p2] w (f_S_addTable F p0 p1 p2 w) := by
  refine ga_enter (cc := c_S_addTable) (maxL := 4) (ret := none) hst (by decide) rfl (Nat.le_of_ble_eq_true rfl) ?_
  intro p e R s m args below meth c ad0
  refine ga_sub (lv2 := [(0, .ref p0), (1, .ref p1), (2, .int p2)]) [0, 1, 2] rfl ?_
  unfold f_S_addTable
  refine ga_aload_n (q := 1) d_S_addTable_0 rfl rfl ?_
  refine ga_getR (C := "LevelStore$Shelf") (T := T_S) (N := 5) (k := 3) (ci := 3) (fun x h => List.mem_cons_of_mem _ (iw_S x h)) rfl (by decide) (List.mem_cons_of_mem _ gw_170) d_S_addTable_1 (fun r1 => ?_)
  refine ga_iload_n (q := 2) d_S_addTable_4 rfl rfl ?_
  refine ga_ldI (t := 0) rfl d_S_addTable_5 (fun v2 => ?_)
  refine ga_istore_n (lv2 := [(3, .int v2), (0, .ref p0), (1, .ref p1), (2, .int p2)]) d_S_addTable_6 rfl (by decide) rfl ?_
  refine ga_sub (lv2 := [(0, .ref p0), (1, .ref p1), (2, .int p2), (3, .int v2)]) [1, 2, 3, 0] rfl ?_
  exact h_S_addTable_7 hst F p0 p1 p2 F v2 w
noncomputable def f_V_addStaying_2 (F : Nat) (x0 : Nat) (x2 : Int32) : Nat → Int32 → ga_W → ga_O
  | 0, _, _ => none
  | n + 1, x3, w => (if x2 ≤ x3 then (some (.inl none, w)) else ((ga_gr w 1 4 x0).bind fun r2 => ((ga_az w 1 r2 x3).bind fun v3 => (if v3 = 0 then ((ga_gr w 1 1 x0).bind fun r5 => ((ga_gr w 1 0 x0).bind fun r6 => (if ga_is w 3 r5 = true then ga_c (f_S_addTable F r5 r6 x3 w) (ga_kV fun w7 => (f_V_addStaying_2 F x0 x2 n (x3 + (1 : Int32)) w7)) ga_up else none))) else (f_V_addStaying_2 F x0 x2 n (x3 + (1 : Int32)) w)))))
noncomputable def f_V_addStaying (F : Nat) (p0 : Nat) (p1 : Int32) (p2 : Int32) (w : ga_W) : ga_O :=
  (f_V_addStaying_2 F p0 p2 F p1 w)
set_option maxHeartbeats 4000000 in
set_option maxRecDepth 100000 in
theorem h_V_addStaying_2 (hst : l.stackTraces = false) (F : Nat) (x0 : Nat) (x2 : Int32) : ∀ (n : Nat) (x3 : Int32) (w : ga_W), ga_J l S0 D gz_cl (gz_tA cT) base b gz_xn p e R s m args below meth c 4 ws_V_addStaying y_V_addStaying.cls c_V_addStaying none [] y_V_addStaying.name 2 45 true ad0 w0 (ga_MQ gz_xn D gz_cl (gz_tA cT) base b s args below ad0 w0) 2 [(0, .ref x0), (2, .int x2), (3, .int x3)] [] w (f_V_addStaying_2 F x0 x2 n x3 w) := by
  intro n
  induction n with
  | zero => intro x3 w; exact ga_no
  | succ n ih =>
    intro x3 w
    rw [f_V_addStaying_2]
    refine ga_iload_n (q := 2) d_V_addStaying_2 rfl rfl ?_
    refine ga_iload_n (q := 1) d_V_addStaying_3 rfl rfl ?_
    refine ga_icmp_ge (tgt := 34) d_V_addStaying_4 (by decide) (fun h1 => ?_) (fun h1 => ?_)
    · exact ga_vret rfl d_V_addStaying_34
    · refine ga_aload_n (q := 0) d_V_addStaying_7 rfl rfl ?_
      refine ga_getR (C := "LevelStore$Levels") (T := T_V) (N := 9) (k := 4) (ci := 1) (fun x h => List.mem_cons_of_mem _ (iw_V x h)) rfl (by decide) (List.mem_cons_of_mem _ gw_213) d_V_addStaying_8 (fun r2 => ?_)
      refine ga_iload_n (q := 2) d_V_addStaying_11 rfl rfl ?_
      refine ga_ldZ (t := 1) rfl d_V_addStaying_12 (fun v3 => ?_)
      refine ga_if_ne (tgt := 28) d_V_addStaying_13 (by decide) (fun h4 => ?_) (fun h4 => ?_)
      · refine ga_aload_n (q := 0) d_V_addStaying_16 rfl rfl ?_
        refine ga_getR (C := "LevelStore$Levels") (T := T_V) (N := 9) (k := 1) (ci := 1) (fun x h => List.mem_cons_of_mem _ (iw_V x h)) rfl (by decide) (List.mem_cons_of_mem _ gw_210) d_V_addStaying_17 (fun r5 => ?_)
        refine ga_aload_n (q := 0) d_V_addStaying_20 rfl rfl ?_
        refine ga_getR (C := "LevelStore$Levels") (T := T_V) (N := 9) (k := 0) (ci := 1) (fun x h => List.mem_cons_of_mem _ (iw_V x h)) rfl (by decide) (List.mem_cons_of_mem _ gw_208) d_V_addStaying_21 (fun r6 => ?_)
        refine ga_iload_n (q := 2) d_V_addStaying_24 rfl rfl ?_
        refine ga_invV (nA := 2) (ci := 3) (T := T_S) (N := 5) (av := [.ref r6, .int x3]) (a := r5) (st := []) (m_S_addTable hst F r5 r6 x3 w) (Or.inl rfl) (gz_gV gw_373 gw_374 gw_375 gw_55 gw_376) rfl ⟨rfl, by decide +kernel⟩ rfl (by decide) (by decide) (Nat.le_of_ble_eq_true rfl) rfl d_V_addStaying_25 (ga_vV (fun w7 => ?_)) (fun _ _ => ga_thru rfl)
        refine ga_iinc (q := 2) (v := (x3 + (1 : Int32))) (lv2 := [(3, .int (x3 + (1 : Int32))), (0, .ref x0), (2, .int x2)]) d_V_addStaying_28 rfl rfl (by decide) rfl ?_
        refine ga_goto (tgt := 2) d_V_addStaying_31 (by decide) ?_
        refine ga_sub (lv2 := [(0, .ref x0), (2, .int x2), (3, .int (x3 + (1 : Int32)))]) [1, 2, 0] rfl ?_
        exact ih _ _
      · refine ga_iinc (q := 2) (v := (x3 + (1 : Int32))) (lv2 := [(3, .int (x3 + (1 : Int32))), (0, .ref x0), (2, .int x2)]) d_V_addStaying_28 rfl rfl (by decide) rfl ?_
        refine ga_goto (tgt := 2) d_V_addStaying_31 (by decide) ?_
        refine ga_sub (lv2 := [(0, .ref x0), (2, .int x2), (3, .int (x3 + (1 : Int32)))]) [1, 2, 0] rfl ?_
        exact ih _ _
set_option maxHeartbeats 4000000 in
set_option maxRecDepth 100000 in
theorem m_V_addStaying (hst : l.stackTraces = false) (F : Nat) (p0 : Nat) (p1 : Int32) (p2 : Int32) (w : ga_W) : ga_M l S0 D gz_cl (gz_tA cT) base b gz_xn y_V_addStaying ws_V_addStaying 2 45 true [.ref p0, .int p1, .int p2] w (f_V_addStaying F p0 p1 p2 w) := by
  refine ga_enter (cc := c_V_addStaying) (maxL := 4) (ret := none) hst (by decide) rfl (Nat.le_of_ble_eq_true rfl) ?_
  intro p e R s m args below meth c ad0
  refine ga_sub (lv2 := [(0, .ref p0), (1, .int p1), (2, .int p2)]) [0, 1, 2] rfl ?_
  unfold f_V_addStaying
  refine ga_iload_n (q := 1) d_V_addStaying_0 rfl rfl ?_
  refine ga_istore_n (lv2 := [(3, .int p1), (0, .ref p0), (1, .int p1), (2, .int p2)]) d_V_addStaying_1 rfl (by decide) rfl ?_
  refine ga_sub (lv2 := [(0, .ref p0), (2, .int p2), (3, .int p1)]) [1, 3, 0] rfl ?_
  exact h_V_addStaying_2 hst F p0 p2 F p1 w
end GM2
