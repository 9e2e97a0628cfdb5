/-! WALKS: R_lose, R_giveUp, R_effort, R_ones, R_table -/
section GM18
variable {l : Launch} {S0 : State} {D : va_G} {cT : Nat → ClassId} {base b : Nat} {p : Program} {e : Env} {R : Room} {s : State} {m : MethodId} {args : Array Value} {below : List Frame} {meth : Method} {c : Code} {ad0 : Nat → Nat} {w0 : ga_W}
noncomputable def f_R_lose_11 (F : Nat) (x0 : Nat) (x1 : Int32) (x2 : Int32) (K61 : Int32 → ga_W → ga_O) : Nat → Int32 → Int32 → ga_W → ga_O
  | 0, _, _, _ => none
  | n + 1, x3, x4, w => ((ga_gr w 6 8 x0).bind fun r1 => ((ga_ai w 0 r1 x1).bind fun v2 => (if v2 ≤ x4 then (K61 x3 w) else ((ga_gr w 6 9 x0).bind fun r4 => ((ga_al w 2 r4 x1).bind fun v5 => (if (lg_cmp ((v5 >>> (Int32.toInt64 (x4 / (4 : Int32)) &&& 63)) &&& (1 : Int64)) (0 : Int64)) = 0 then (if ga_is w 6 x0 = true then ga_c (f_R_moveEntry F x0 x3 (x2 + x4) w) (ga_kV fun w7 => (f_R_lose_11 F x0 x1 x2 K61 n (x3 + (1 : Int32)) (x4 + (1 : Int32)) w7)) ga_up else none) else (f_R_lose_11 F x0 x1 x2 K61 n x3 (x4 + (1 : Int32)) w)))))))
noncomputable def f_R_lose_76 (F : Nat) (x0 : Nat) (x1 : Int32) (x4 : Int32) (K105 : ga_W → ga_O) : Nat → Int32 → ga_W → ga_O
  | 0, _, _ => none
  | n + 1, x5, w => ((ga_gi w 6 5 x0).bind fun v1 => (if v1 ≤ (x5 + x4) then (K105 w) else (if ga_is w 6 x0 = true then ga_c (f_R_moveEntry F x0 x5 (x5 + x4) w) (ga_kV fun w3 => (f_R_lose_76 F x0 x1 x4 K105 n (x5 + (1 : Int32)) w3)) ga_up else none)))
noncomputable def f_R_lose (F : Nat) (p0 : Nat) (p1 : Int32) (w : ga_W) : ga_O :=
  (if ga_is w 6 p0 = true then ga_c (f_R_start F p0 p1 w) (ga_kI fun v2 w1 => (f_R_lose_11 F p0 p1 v2 (fun (z3 : Int32) (w4 : ga_W) => ((ga_gr w4 6 8 p0).bind fun r5 => ((ga_ai w4 0 r5 p1).bind fun v6 => (f_R_lose_76 F p0 p1 ((v2 + v6) - z3) (fun (w7 : ga_W) => ((ga_gi w7 6 5 p0).bind fun v8 => ((ga_put w7 6 5 p0 (.int (v8 - ((v2 + v6) - z3)))).bind fun w9 => ((ga_gr w9 6 8 p0).bind fun r10 => ((ga_ai w9 0 r10 p1).bind fun v11 => ((ga_si w9 0 r10 p1 (v11 - ((v2 + v6) - z3))).bind fun w12 => ((ga_gr w12 6 9 p0).bind fun r13 => ((ga_sl w12 2 r13 p1 (0 : Int64)).bind fun w14 => (some (.inl (some (.int ((v2 + v6) - z3))), w14)))))))))) F z3 w4)))) F v2 (0 : Int32) w1)) ga_up else none)
set_option maxHeartbeats 4000000 in
set_option maxRecDepth 100000 in
theorem h_R_lose_11 (hst : l.stackTraces = false) (F : Nat) (x0 : Nat) (x1 : Int32) (x2 : Int32) (K61 : Int32 → ga_W → ga_O) (hK61 : ∀ (z3 : Int32) (w : ga_W), ga_J l S0 D gz_cl (gz_tA cT) base b gz_xn p e R s m args below meth c 6 ws_R_lose y_R_lose.cls c_R_lose (some .int) [] y_R_lose.name 1 23 true ad0 w0 (ga_MQ gz_xn D gz_cl (gz_tA cT) base b s args below ad0 w0) 61 [(0, .ref x0), (1, .int x1), (2, .int x2), (3, .int z3)] [] w (K61 z3 w)) : ∀ (n : Nat) (x3 : Int32) (x4 : Int32) (w : ga_W), ga_J l S0 D gz_cl (gz_tA cT) base b gz_xn p e R s m args below meth c 6 ws_R_lose y_R_lose.cls c_R_lose (some .int) [] y_R_lose.name 1 23 true ad0 w0 (ga_MQ gz_xn D gz_cl (gz_tA cT) base b s args below ad0 w0) 11 [(0, .ref x0), (1, .int x1), (2, .int x2), (3, .int x3), (4, .int x4)] [] w (f_R_lose_11 F x0 x1 x2 K61 n x3 x4 w) := by
  intro n
  induction n with
  | zero => intro x3 x4 w; exact ga_no
  | succ n ih =>
    intro x3 x4 w
    rw [f_R_lose_11]
    refine ga_iload (q := 4) d_R_lose_11 rfl ?_
    refine ga_aload_n (q := 0) d_R_lose_13 rfl rfl ?_
    refine ga_getR (C := "LevelStoreModel") (T := T_R) (N := 39) (k := 8) (ci := 6) (fun x h => List.mem_cons_of_mem _ (iw_R x h)) rfl (by decide) (List.mem_cons_of_mem _ gw_769) d_R_lose_14 (fun r1 => ?_)
    refine ga_iload_n (q := 1) d_R_lose_17 rfl rfl ?_
    refine ga_ldI (t := 0) rfl d_R_lose_18 (fun v2 => ?_)
    refine ga_icmp_ge (tgt := 61) d_R_lose_19 (by decide) (fun h3 => ?_) (fun h3 => ?_)
    · refine ga_sub (lv2 := [(0, .ref x0), (1, .int x1), (2, .int x2), (3, .int x3)]) [0, 1, 2, 3] rfl ?_
      exact hK61 _ _
    · refine ga_aload_n (q := 0) d_R_lose_22 rfl rfl ?_
      refine ga_getR (C := "LevelStoreModel") (T := T_R) (N := 39) (k := 9) (ci := 6) (fun x h => List.mem_cons_of_mem _ (iw_R x h)) rfl (by decide) (List.mem_cons_of_mem _ gw_770) d_R_lose_23 (fun r4 => ?_)
      refine ga_iload_n (q := 1) d_R_lose_26 rfl rfl ?_
      refine ga_ldL (t := 2) rfl d_R_lose_27 (fun v5 => ?_)
      refine ga_iload (q := 4) d_R_lose_28 rfl ?_
      refine ga_iconst (v := (4 : Int32)) d_R_lose_30 (by decide) ?_
      refine ga_idiv d_R_lose_31 (by decide) ?_
      refine ga_lshr d_R_lose_32 ?_
      refine ga_lconst (v := (1 : Int64)) d_R_lose_33 (by decide) ?_
      refine ga_land d_R_lose_34 ?_
      refine ga_lconst (v := (0 : Int64)) d_R_lose_35 (by decide) ?_
      refine ga_lcmp d_R_lose_36 ?_
      refine ga_if_eq (tgt := 43) d_R_lose_37 (by decide) (fun h6 => ?_) (fun h6 => ?_)
      · refine ga_aload_n (q := 0) d_R_lose_43 rfl rfl ?_
        refine ga_iload_n (q := 3) d_R_lose_44 rfl rfl ?_
        refine ga_iload_n (q := 2) d_R_lose_45 rfl rfl ?_
        refine ga_iload (q := 4) d_R_lose_46 rfl ?_
        refine ga_iadd d_R_lose_48 ?_
        refine ga_invV (nA := 2) (ci := 6) (T := T_R) (N := 39) (av := [.int x3, .int (x2 + x4)]) (a := x0) (st := []) (m_R_moveEntry hst F x0 x3 (x2 + x4) w) (Or.inl rfl) (gz_gV gw_935 gw_937 gw_29 gw_58 gw_938) rfl ⟨rfl, by decide +kernel⟩ rfl (by decide) (by decide) (Nat.le_of_ble_eq_true rfl) rfl d_R_lose_49 (ga_vV (fun w7 => ?_)) (fun _ _ => ga_thru rfl)
        refine ga_iinc (q := 3) (v := (x3 + (1 : Int32))) (lv2 := [(3, .int (x3 + (1 : Int32))), (0, .ref x0), (1, .int x1), (2, .int x2), (4, .int x4)]) d_R_lose_52 rfl rfl (by decide) rfl ?_
        refine ga_iinc (q := 4) (v := (x4 + (1 : Int32))) (lv2 := [(4, .int (x4 + (1 : Int32))), (3, .int (x3 + (1 : Int32))), (0, .ref x0), (1, .int x1), (2, .int x2)]) d_R_lose_55 rfl rfl (by decide) rfl ?_
        refine ga_goto (tgt := 11) d_R_lose_58 (by decide) ?_
        refine ga_sub (lv2 := [(0, .ref x0), (1, .int x1), (2, .int x2), (3, .int (x3 + (1 : Int32))), (4, .int (x4 + (1 : Int32)))]) [2, 3, 4, 1, 0] rfl ?_
        exact ih _ _ _
      · refine ga_goto (tgt := 55) d_R_lose_40 (by decide) ?_
        refine ga_iinc (q := 4) (v := (x4 + (1 : Int32))) (lv2 := [(4, .int (x4 + (1 : Int32))), (0, .ref x0), (1, .int x1), (2, .int x2), (3, .int x3)]) d_R_lose_55 rfl rfl (by decide) rfl ?_
        refine ga_goto (tgt := 11) d_R_lose_58 (by decide) ?_
        refine ga_sub (lv2 := [(0, .ref x0), (1, .int x1), (2, .int x2), (3, .int x3), (4, .int (x4 + (1 : Int32)))]) [1, 2, 3, 4, 0] rfl ?_
        exact ih _ _ _
set_option maxHeartbeats 4000000 in
set_option maxRecDepth 100000 in
theorem h_R_lose_76 (hst : l.stackTraces = false) (F : Nat) (x0 : Nat) (x1 : Int32) (x4 : Int32) (K105 : ga_W → ga_O) (hK105 : ∀ (w : ga_W), ga_J l S0 D gz_cl (gz_tA cT) base b gz_xn p e R s m args below meth c 6 ws_R_lose y_R_lose.cls c_R_lose (some .int) [] y_R_lose.name 1 23 true ad0 w0 (ga_MQ gz_xn D gz_cl (gz_tA cT) base b s args below ad0 w0) 105 [(0, .ref x0), (1, .int x1), (4, .int x4)] [] w (K105 w)) : ∀ (n : Nat) (x5 : Int32) (w : ga_W), ga_J l S0 D gz_cl (gz_tA cT) base b gz_xn p e R s m args below meth c 6 ws_R_lose y_R_lose.cls c_R_lose (some .int) [] y_R_lose.name 1 23 true ad0 w0 (ga_MQ gz_xn D gz_cl (gz_tA cT) base b s args below ad0 w0) 76 [(0, .ref x0), (1, .int x1), (4, .int x4), (5, .int x5)] [] w (f_R_lose_76 F x0 x1 x4 K105 n x5 w) := by
  intro n
  induction n with
  | zero => intro x5 w; exact ga_no
  | succ n ih =>
    intro x5 w
    rw [f_R_lose_76]
    refine ga_iload (q := 3) d_R_lose_76 rfl ?_
    refine ga_iload (q := 2) d_R_lose_78 rfl ?_
    refine ga_iadd d_R_lose_80 ?_
    refine ga_aload_n (q := 0) d_R_lose_81 rfl rfl ?_
    refine ga_getI (C := "LevelStoreModel") (T := T_R) (N := 39) (k := 5) (ci := 6) (fun x h => List.mem_cons_of_mem _ (iw_R x h)) rfl (by decide) (List.mem_cons_of_mem _ gw_766) d_R_lose_82 (fun v1 => ?_)
    refine ga_icmp_ge (tgt := 105) d_R_lose_85 (by decide) (fun h2 => ?_) (fun h2 => ?_)
    · refine ga_sub (lv2 := [(0, .ref x0), (1, .int x1), (4, .int x4)]) [0, 1, 2] rfl ?_
      exact hK105  _
    · refine ga_aload_n (q := 0) d_R_lose_88 rfl rfl ?_
      refine ga_iload (q := 3) d_R_lose_89 rfl ?_
      refine ga_iload (q := 3) d_R_lose_91 rfl ?_
      refine ga_iload (q := 2) d_R_lose_93 rfl ?_
      refine ga_iadd d_R_lose_95 ?_
      refine ga_invV (nA := 2) (ci := 6) (T := T_R) (N := 39) (av := [.int x5, .int (x5 + x4)]) (a := x0) (st := []) (m_R_moveEntry hst F x0 x5 (x5 + x4) w) (Or.inl rfl) (gz_gV gw_935 gw_937 gw_29 gw_58 gw_938) rfl ⟨rfl, by decide +kernel⟩ rfl (by decide) (by decide) (Nat.le_of_ble_eq_true rfl) rfl d_R_lose_96 (ga_vV (fun w3 => ?_)) (fun _ _ => ga_thru rfl)
      refine ga_iinc (q := 3) (v := (x5 + (1 : Int32))) (lv2 := [(5, .int (x5 + (1 : Int32))), (0, .ref x0), (1, .int x1), (4, .int x4)]) d_R_lose_99 rfl rfl (by decide) rfl ?_
      refine ga_goto (tgt := 76) d_R_lose_102 (by decide) ?_
      refine ga_sub (lv2 := [(0, .ref x0), (1, .int x1), (4, .int x4), (5, .int (x5 + (1 : Int32)))]) [1, 2, 3, 0] rfl ?_
      exact ih _ _
set_option maxHeartbeats 4000000 in
set_option maxRecDepth 100000 in
theorem m_R_lose (hst : l.stackTraces = false) (F : Nat) (p0 : Nat) (p1 : Int32) (w : ga_W) : ga_M l S0 D gz_cl (gz_tA cT) base b gz_xn y_R_lose ws_R_lose 1 23 true [.ref p0, .int p1] w (f_R_lose F p0 p1 w) := by
  refine ga_enter (cc := c_R_lose) (maxL := 6) (ret := (some .int)) hst (by decide) rfl (Nat.le_of_ble_eq_true rfl) ?_
  intro p e R s m args below meth c ad0
  refine ga_sub (lv2 := [(0, .ref p0), (1, .int p1)]) [0, 1] rfl ?_
  unfold f_R_lose
  refine ga_aload_n (q := 0) d_R_lose_0 rfl rfl ?_
  refine ga_iload_n (q := 1) d_R_lose_1 rfl rfl ?_
  refine ga_invV (nA := 1) (ci := 6) (T := T_R) (N := 39) (av := [.int p1]) (a := p0) (st := []) (m_R_start hst F p0 p1 w) (Or.inl rfl) (gz_gV gw_931 gw_933 gw_28 gw_58 gw_934) rfl ⟨rfl, by decide +kernel⟩ rfl (by decide) (by decide) (Nat.le_of_ble_eq_true rfl) rfl d_R_lose_2 (ga_vI (fun v2 w1 => ?_)) (fun _ _ => ga_thru rfl)
  refine ga_istore_n (lv2 := [(2, .int v2), (0, .ref p0), (1, .int p1)]) d_R_lose_5 rfl (by decide) rfl ?_
  refine ga_iload_n (q := 0) d_R_lose_6 rfl rfl ?_
  refine ga_istore_n (lv2 := [(3, .int v2), (2, .int v2), (0, .ref p0), (1, .int p1)]) d_R_lose_7 rfl (by decide) rfl ?_
  refine ga_iconst (v := (0 : Int32)) d_R_lose_8 (by decide) ?_
  refine ga_istore (lv2 := [(4, .int (0 : Int32)), (3, .int v2), (2, .int v2), (0, .ref p0), (1, .int p1)]) d_R_lose_9 (by decide) rfl ?_
  refine ga_sub (lv2 := [(0, .ref p0), (1, .int p1), (2, .int v2), (3, .int v2), (4, .int (0 : Int32))]) [3, 4, 2, 1, 0] rfl ?_
  refine h_R_lose_11 hst F p0 p1 v2 _ (fun z3 w4 => ?_) F v2 (0 : Int32) w1
  refine ga_iload_n (q := 2) d_R_lose_61 rfl rfl ?_
  refine ga_aload_n (q := 0) d_R_lose_62 rfl rfl ?_
  refine ga_getR (C := "LevelStoreModel") (T := T_R) (N := 39) (k := 8) (ci := 6) (fun x h => List.mem_cons_of_mem _ (iw_R x h)) rfl (by decide) (List.mem_cons_of_mem _ gw_769) d_R_lose_63 (fun r5 => ?_)
  refine ga_iload_n (q := 1) d_R_lose_66 rfl rfl ?_
  refine ga_ldI (t := 0) rfl d_R_lose_67 (fun v6 => ?_)
  refine ga_iadd d_R_lose_68 ?_
  refine ga_iload_n (q := 3) d_R_lose_69 rfl rfl ?_
  refine ga_isub d_R_lose_70 ?_
  refine ga_istore (lv2 := [(4, .int ((v2 + v6) - z3)), (0, .ref p0), (1, .int p1), (2, .int v2), (3, .int z3)]) d_R_lose_71 (by decide) rfl ?_
  refine ga_iload_n (q := 4) d_R_lose_73 rfl rfl ?_
  refine ga_istore (lv2 := [(5, .int z3), (4, .int ((v2 + v6) - z3)), (0, .ref p0), (1, .int p1), (2, .int v2), (3, .int z3)]) d_R_lose_74 (by decide) rfl ?_
  refine ga_sub (lv2 := [(0, .ref p0), (1, .int p1), (4, .int ((v2 + v6) - z3)), (5, .int z3)]) [2, 3, 1, 0] rfl ?_
  refine h_R_lose_76 hst F p0 p1 ((v2 + v6) - z3) _ (fun w7 => ?_) F z3 w4
  refine ga_aload_n (q := 0) d_R_lose_105 rfl rfl ?_
  refine ga_dup d_R_lose_106 rfl ?_
  refine ga_getI (C := "LevelStoreModel") (T := T_R) (N := 39) (k := 5) (ci := 6) (fun x h => List.mem_cons_of_mem _ (iw_R x h)) rfl (by decide) (List.mem_cons_of_mem _ gw_766) d_R_lose_107 (fun v8 => ?_)
  refine ga_iload (q := 2) d_R_lose_110 rfl ?_
  refine ga_isub d_R_lose_112 ?_
  refine ga_putB (C := "LevelStoreModel") (T := T_R) (N := 39) (k := 5) (ci := 6) (ty0 := ty_R) (fun x h => List.mem_cons_of_mem _ (iw_R x h)) ty_R_ok nm_R rfl (by decide) (List.mem_cons_of_mem _ gw_766) (Or.inl rfl) (fun _ => ⟨rfl, rfl⟩) d_R_lose_113 (fun w9 => ?_)
  refine ga_aload_n (q := 0) d_R_lose_116 rfl rfl ?_
  refine ga_getR (C := "LevelStoreModel") (T := T_R) (N := 39) (k := 8) (ci := 6) (fun x h => List.mem_cons_of_mem _ (iw_R x h)) rfl (by decide) (List.mem_cons_of_mem _ gw_769) d_R_lose_117 (fun r10 => ?_)
  refine ga_iload_n (q := 1) d_R_lose_120 rfl rfl ?_
  refine ga_dup2 d_R_lose_121 rfl rfl ?_
  refine ga_ldI (t := 0) rfl d_R_lose_122 (fun v11 => ?_)
  refine ga_iload (q := 2) d_R_lose_123 rfl ?_
  refine ga_isub d_R_lose_125 ?_
  refine ga_stI (t := 0) rfl d_R_lose_126 (fun w12 => ?_)
  refine ga_aload_n (q := 0) d_R_lose_127 rfl rfl ?_
  refine ga_getR (C := "LevelStoreModel") (T := T_R) (N := 39) (k := 9) (ci := 6) (fun x h => List.mem_cons_of_mem _ (iw_R x h)) rfl (by decide) (List.mem_cons_of_mem _ gw_770) d_R_lose_128 (fun r13 => ?_)
  refine ga_iload_n (q := 1) d_R_lose_131 rfl rfl ?_
  refine ga_lconst (v := (0 : Int64)) d_R_lose_132 (by decide) ?_
  refine ga_stL (t := 2) rfl d_R_lose_133 (fun w14 => ?_)
  refine ga_iload (q := 2) d_R_lose_134 rfl ?_
  exact ga_iret rfl d_R_lose_136
noncomputable def f_R_giveUp_14 (F : Nat) (x0 : Nat) : Nat → Int32 → Int32 → ga_W → ga_O
  | 0, _, _, _ => none
  | n + 1, x1, x2, w => (if x2 < 0 then ((ga_put w 6 26 x0 (.int (0 : Int32))).bind fun w2 => (if ga_is w2 6 x0 = true then ga_c (f_R_tidy F x0 w2) (ga_kV fun w3 => (some (.inl (some (.int x1)), w3))) ga_up else none)) else (if ga_is w 6 x0 = true then ga_c (f_R_lose F x0 x2 w) (ga_kI fun v5 w4 => ((ga_gr w4 6 8 x0).bind fun r6 => ((ga_ai w4 0 r6 x2).bind fun v7 => (if v7 = 0 then (if ga_is w4 6 x0 = true then ga_c (f_R_takeOut F x0 x2 w4) (ga_kV fun w9 => (f_R_giveUp_14 F x0 n (x1 + v5) (x2 + (-1 : Int32)) w9)) ga_up else none) else (f_R_giveUp_14 F x0 n (x1 + v5) (x2 + (-1 : Int32)) w4))))) ga_up else none))
noncomputable def f_R_giveUp (F : Nat) (p0 : Nat) (w : ga_W) : ga_O :=
  ((ga_put w 6 0 p0 (.int (0 : Int32))).bind fun w1 => ((ga_gi w1 6 10 p0).bind fun v2 => (f_R_giveUp_14 F p0 F (0 : Int32) (v2 - (1 : Int32)) w1)))
set_option maxHeartbeats 4000000 in
set_option maxRecDepth 100000 in
theorem h_R_giveUp_14 (hst : l.stackTraces = false) (F : Nat) (x0 : Nat) : ∀ (n : Nat) (x1 : Int32) (x2 : Int32) (w : ga_W), ga_J l S0 D gz_cl (gz_tA cT) base b gz_xn p e R s m args below meth c 3 ws_R_giveUp y_R_giveUp.cls c_R_giveUp (some .int) [] y_R_giveUp.name 6 143 true ad0 w0 (ga_MQ gz_xn D gz_cl (gz_tA cT) base b s args below ad0 w0) 14 [(0, .ref x0), (1, .int x1), (2, .int x2)] [] w (f_R_giveUp_14 F x0 n x1 x2 w) := by
  intro n
  induction n with
  | zero => intro x1 x2 w; exact ga_no
  | succ n ih =>
    intro x1 x2 w
    rw [f_R_giveUp_14]
    refine ga_iload_n (q := 2) d_R_giveUp_14 rfl rfl ?_
    refine ga_if_lt (tgt := 46) d_R_giveUp_15 (by decide) (fun h1 => ?_) (fun h1 => ?_)
    · refine ga_aload_n (q := 0) d_R_giveUp_46 rfl rfl ?_
      refine ga_iconst (v := (0 : Int32)) d_R_giveUp_47 (by decide) ?_
      refine ga_putB (C := "LevelStoreModel") (T := T_R) (N := 39) (k := 26) (ci := 6) (ty0 := ty_R) (fun x h => List.mem_cons_of_mem _ (iw_R x h)) ty_R_ok nm_R rfl (by decide) (List.mem_cons_of_mem _ gw_787) (Or.inl rfl) (fun _ => ⟨rfl, rfl⟩) d_R_giveUp_48 (fun w2 => ?_)
      refine ga_aload_n (q := 0) d_R_giveUp_51 rfl rfl ?_
      refine ga_invV (nA := 0) (ci := 6) (T := T_R) (N := 39) (av := []) (a := x0) (st := []) (m_R_tidy hst F x0 w2) (Or.inl rfl) (gz_gV gw_943 gw_945 gw_31 gw_58 gw_946) rfl ⟨rfl, by decide +kernel⟩ rfl (by decide) (by decide) (Nat.le_of_ble_eq_true rfl) rfl d_R_giveUp_52 (ga_vV (fun w3 => ?_)) (fun _ _ => ga_thru rfl)
      refine ga_iload_n (q := 1) d_R_giveUp_55 rfl rfl ?_
      exact ga_iret rfl d_R_giveUp_56
    · refine ga_iload_n (q := 1) d_R_giveUp_18 rfl rfl ?_
      refine ga_aload_n (q := 0) d_R_giveUp_19 rfl rfl ?_
      refine ga_iload_n (q := 2) d_R_giveUp_20 rfl rfl ?_
      refine ga_invV (nA := 1) (ci := 6) (T := T_R) (N := 39) (av := [.int x2]) (a := x0) (st := [.int x1]) (m_R_lose hst F x0 x2 w) (Or.inl rfl) (gz_gV gw_1069 gw_1071 gw_49 gw_58 gw_1072) rfl ⟨rfl, by decide +kernel⟩ rfl (by decide) (by decide) (Nat.le_of_ble_eq_true rfl) rfl d_R_giveUp_21 (ga_vI (fun v5 w4 => ?_)) (fun _ _ => ga_thru rfl)
      refine ga_iadd d_R_giveUp_24 ?_
      refine ga_istore_n (lv2 := [(1, .int (x1 + v5)), (0, .ref x0), (2, .int x2)]) d_R_giveUp_25 rfl (by decide) rfl ?_
      refine ga_aload_n (q := 1) d_R_giveUp_26 rfl rfl ?_
      refine ga_getR (C := "LevelStoreModel") (T := T_R) (N := 39) (k := 8) (ci := 6) (fun x h => List.mem_cons_of_mem _ (iw_R x h)) rfl (by decide) (List.mem_cons_of_mem _ gw_769) d_R_giveUp_27 (fun r6 => ?_)
      refine ga_iload_n (q := 2) d_R_giveUp_30 rfl rfl ?_
      refine ga_ldI (t := 0) rfl d_R_giveUp_31 (fun v7 => ?_)
      refine ga_if_ne (tgt := 40) d_R_giveUp_32 (by decide) (fun h8 => ?_) (fun h8 => ?_)
      · refine ga_aload_n (q := 1) d_R_giveUp_35 rfl rfl ?_
        refine ga_iload_n (q := 2) d_R_giveUp_36 rfl rfl ?_
        refine ga_invV (nA := 1) (ci := 6) (T := T_R) (N := 39) (av := [.int x2]) (a := x0) (st := []) (m_R_takeOut hst F x0 x2 w4) (Or.inl rfl) (gz_gV gw_971 gw_973 gw_38 gw_58 gw_974) rfl ⟨rfl, by decide +kernel⟩ rfl (by decide) (by decide) (Nat.le_of_ble_eq_true rfl) rfl d_R_giveUp_37 (ga_vV (fun w9 => ?_)) (fun _ _ => ga_thru rfl)
        refine ga_iinc (q := 2) (v := (x2 + (-1 : Int32))) (lv2 := [(2, .int (x2 + (-1 : Int32))), (1, .int (x1 + v5)), (0, .ref x0)]) d_R_giveUp_40 rfl rfl (by decide) rfl ?_
        refine ga_goto (tgt := 14) d_R_giveUp_43 (by decide) ?_
        refine ga_sub (lv2 := [(0, .ref x0), (1, .int (x1 + v5)), (2, .int (x2 + (-1 : Int32)))]) [2, 1, 0] rfl ?_
        exact ih _ _ _
      · refine ga_iinc (q := 2) (v := (x2 + (-1 : Int32))) (lv2 := [(2, .int (x2 + (-1 : Int32))), (1, .int (x1 + v5)), (0, .ref x0)]) d_R_giveUp_40 rfl rfl (by decide) rfl ?_
        refine ga_goto (tgt := 14) d_R_giveUp_43 (by decide) ?_
        refine ga_sub (lv2 := [(0, .ref x0), (1, .int (x1 + v5)), (2, .int (x2 + (-1 : Int32)))]) [2, 1, 0] rfl ?_
        exact ih _ _ _
set_option maxHeartbeats 4000000 in
set_option maxRecDepth 100000 in
theorem m_R_giveUp (hst : l.stackTraces = false) (F : Nat) (p0 : Nat) (w : ga_W) : ga_M l S0 D gz_cl (gz_tA cT) base b gz_xn y_R_giveUp ws_R_giveUp 6 143 true [.ref p0] w (f_R_giveUp F p0 w) := by
  refine ga_enter (cc := c_R_giveUp) (maxL := 3) (ret := (some .int)) hst (by decide) rfl (Nat.le_of_ble_eq_true rfl) ?_
  intro p e R s m args below meth c ad0
  refine ga_sub (lv2 := [(0, .ref p0)]) [0] rfl ?_
  unfold f_R_giveUp
  refine ga_aload_n (q := 0) d_R_giveUp_0 rfl rfl ?_
  refine ga_iconst (v := (0 : Int32)) d_R_giveUp_1 (by decide) ?_
  refine ga_putB (C := "LevelStoreModel") (T := T_R) (N := 39) (k := 0) (ci := 6) (ty0 := ty_R) (fun x h => List.mem_cons_of_mem _ (iw_R x h)) ty_R_ok nm_R rfl (by decide) (List.mem_cons_of_mem _ gw_761) (Or.inl rfl) (fun _ => ⟨rfl, rfl⟩) d_R_giveUp_2 (fun w1 => ?_)
  refine ga_iconst (v := (0 : Int32)) d_R_giveUp_5 (by decide) ?_
  refine ga_istore_n (lv2 := [(1, .int (0 : Int32)), (0, .ref p0)]) d_R_giveUp_6 rfl (by decide) rfl ?_
  refine ga_aload_n (q := 1) d_R_giveUp_7 rfl rfl ?_
  refine ga_getI (C := "LevelStoreModel") (T := T_R) (N := 39) (k := 10) (ci := 6) (fun x h => List.mem_cons_of_mem _ (iw_R x h)) rfl (by decide) (List.mem_cons_of_mem _ gw_771) d_R_giveUp_8 (fun v2 => ?_)
  refine ga_iconst (v := (1 : Int32)) d_R_giveUp_11 (by decide) ?_
  refine ga_isub d_R_giveUp_12 ?_
  refine ga_istore_n (lv2 := [(2, .int (v2 - (1 : Int32))), (1, .int (0 : Int32)), (0, .ref p0)]) d_R_giveUp_13 rfl (by decide) rfl ?_
  refine ga_sub (lv2 := [(0, .ref p0), (1, .int (0 : Int32)), (2, .int (v2 - (1 : Int32)))]) [2, 1, 0] rfl ?_
  exact h_R_giveUp_14 hst F p0 F (0 : Int32) (v2 - (1 : Int32)) w1
noncomputable def f_R_effort (F : Nat) (p0 : Nat) (w : ga_W) : ga_O :=
  ((ga_put w 6 0 p0 (.int (0 : Int32))).bind fun w1 => ((ga_gi w1 6 29 p0).bind fun v2 => (if v2 = 0 then (if ga_is w1 6 p0 = true then ga_c (f_R_raise F p0 (1 : Int32) w1) (ga_kI fun v5 w4 => (some (.inl (some (.double (FP.i2d v5))), w4))) ga_up else none) else ((ga_gi w1 6 27 p0).bind fun v6 => ((ga_gi w1 6 29 p0).bind fun v7 => (if (FP.ddiv (FP.i2d v6) (FP.i2d v7)) &&& 0x7fffffffffffffff ≤ 0x7ff0000000000000 then (some (.inl (some (.double (FP.ddiv (FP.i2d v6) (FP.i2d v7)))), w1)) else none))))))
set_option maxHeartbeats 4000000 in
set_option maxRecDepth 100000 in
theorem m_R_effort (hst : l.stackTraces = false) (F : Nat) (p0 : Nat) (w : ga_W) : ga_M l S0 D gz_cl (gz_tA cT) base b gz_xn y_R_effort ws_R_effort 1 21 true [.ref p0] w (f_R_effort F p0 w) := by
  refine ga_enter (cc := c_R_effort) (maxL := 1) (ret := (some .double)) hst (by decide) rfl (Nat.le_of_ble_eq_true rfl) ?_
  intro p e R s m args below meth c ad0
  refine ga_sub (lv2 := [(0, .ref p0)]) [0] rfl ?_
  unfold f_R_effort
  refine ga_aload_n (q := 0) d_R_effort_0 rfl rfl ?_
  refine ga_iconst (v := (0 : Int32)) d_R_effort_1 (by decide) ?_
  refine ga_putB (C := "LevelStoreModel") (T := T_R) (N := 39) (k := 0) (ci := 6) (ty0 := ty_R) (fun x h => List.mem_cons_of_mem _ (iw_R x h)) ty_R_ok nm_R rfl (by decide) (List.mem_cons_of_mem _ gw_761) (Or.inl rfl) (fun _ => ⟨rfl, rfl⟩) d_R_effort_2 (fun w1 => ?_)
  refine ga_aload_n (q := 0) d_R_effort_5 rfl rfl ?_
  refine ga_getI (C := "LevelStoreModel") (T := T_R) (N := 39) (k := 29) (ci := 6) (fun x h => List.mem_cons_of_mem _ (iw_R x h)) rfl (by decide) (List.mem_cons_of_mem _ gw_790) d_R_effort_6 (fun v2 => ?_)
  refine ga_if_ne (tgt := 21) d_R_effort_9 (by decide) (fun h3 => ?_) (fun h3 => ?_)
  · refine ga_aload_n (q := 0) d_R_effort_12 rfl rfl ?_
    refine ga_iconst (v := (1 : Int32)) d_R_effort_13 (by decide) ?_
    refine ga_invV (nA := 1) (ci := 6) (T := T_R) (N := 39) (av := [.int (1 : Int32)]) (a := p0) (st := []) (m_R_raise hst F p0 (1 : Int32) w1) (Or.inl rfl) (gz_gV gw_895 gw_897 gw_19 gw_58 gw_898) rfl ⟨rfl, by decide +kernel⟩ rfl (by decide) (by decide) (Nat.le_of_ble_eq_true rfl) rfl d_R_effort_14 (ga_vI (fun v5 w4 => ?_)) (fun _ _ => ga_thru rfl)
    refine ga_i2d d_R_effort_17 ?_
    refine ga_goto (tgt := 32) d_R_effort_18 (by decide) ?_
    exact ga_dret rfl d_R_effort_32
  · refine ga_aload_n (q := 0) d_R_effort_21 rfl rfl ?_
    refine ga_getI (C := "LevelStoreModel") (T := T_R) (N := 39) (k := 27) (ci := 6) (fun x h => List.mem_cons_of_mem _ (iw_R x h)) rfl (by decide) (List.mem_cons_of_mem _ gw_788) d_R_effort_22 (fun v6 => ?_)
    refine ga_i2d d_R_effort_25 ?_
    refine ga_aload_n (q := 0) d_R_effort_26 rfl rfl ?_
    refine ga_getI (C := "LevelStoreModel") (T := T_R) (N := 39) (k := 29) (ci := 6) (fun x h => List.mem_cons_of_mem _ (iw_R x h)) rfl (by decide) (List.mem_cons_of_mem _ gw_790) d_R_effort_27 (fun v7 => ?_)
    refine ga_i2d d_R_effort_30 ?_
    refine ga_guard (fun h8 => ?_)
    refine ga_ddiv d_R_effort_31 h8 ?_
    exact ga_dret rfl d_R_effort_32
noncomputable def f_R_ones_4 (F : Nat) (x0 : Int64) : Nat → Int32 → Int32 → ga_W → ga_O
  | 0, _, _, _ => none
  | n + 1, x2, x3, w => (if (64 : Int32) ≤ x3 then (some (.inl (some (.int x2)), w)) else (if (lg_cmp ((x0 >>> (Int32.toInt64 x3 &&& 63)) &&& (1 : Int64)) (0 : Int64)) = 0 then (f_R_ones_4 F x0 n x2 (x3 + (1 : Int32)) w) else (f_R_ones_4 F x0 n (x2 + (1 : Int32)) (x3 + (1 : Int32)) w)))
noncomputable def f_R_ones (F : Nat) (p0 : Int64) (w : ga_W) : ga_O :=
  (f_R_ones_4 F p0 F (0 : Int32) (0 : Int32) w)
set_option maxHeartbeats 4000000 in
set_option maxRecDepth 100000 in
theorem h_R_ones_4 (hst : l.stackTraces = false) (F : Nat) (x0 : Int64) : ∀ (n : Nat) (x2 : Int32) (x3 : Int32) (w : ga_W), ga_J l S0 D gz_cl (gz_tA cT) base b gz_xn p e R s m args below meth c 4 ws_R_ones y_R_ones.cls c_R_ones (some .int) [] y_R_ones.name 0 0 true ad0 w0 (ga_MQ gz_xn D gz_cl (gz_tA cT) base b s args below ad0 w0) 4 [(0, .long x0), (2, .int x2), (3, .int x3)] [] w (f_R_ones_4 F x0 n x2 x3 w) := by
  intro n
  induction n with
  | zero => intro x2 x3 w; exact ga_no
  | succ n ih =>
    intro x2 x3 w
    rw [f_R_ones_4]
    refine ga_iload_n (q := 2) d_R_ones_4 rfl rfl ?_
    refine ga_bipush (v := (64 : Int32)) d_R_ones_5 (by decide) ?_
    refine ga_icmp_ge (tgt := 29) d_R_ones_7 (by decide) (fun h1 => ?_) (fun h1 => ?_)
    · refine ga_iload_n (q := 1) d_R_ones_29 rfl rfl ?_
      exact ga_iret rfl d_R_ones_30
    · refine ga_lload_n (q := 0) d_R_ones_10 rfl rfl ?_
      refine ga_iload_n (q := 2) d_R_ones_11 rfl rfl ?_
      refine ga_lshr d_R_ones_12 ?_
      refine ga_lconst (v := (1 : Int64)) d_R_ones_13 (by decide) ?_
      refine ga_land d_R_ones_14 ?_
      refine ga_lconst (v := (0 : Int64)) d_R_ones_15 (by decide) ?_
      refine ga_lcmp d_R_ones_16 ?_
      refine ga_if_eq (tgt := 23) d_R_ones_17 (by decide) (fun h2 => ?_) (fun h2 => ?_)
      · refine ga_iinc (q := 2) (v := (x3 + (1 : Int32))) (lv2 := [(3, .int (x3 + (1 : Int32))), (0, .long x0), (2, .int x2)]) d_R_ones_23 rfl rfl (by decide) rfl ?_
        refine ga_goto (tgt := 4) d_R_ones_26 (by decide) ?_
        refine ga_sub (lv2 := [(0, .long x0), (2, .int x2), (3, .int (x3 + (1 : Int32)))]) [1, 2, 0] rfl ?_
        exact ih _ _ _
      · refine ga_iinc (q := 1) (v := (x2 + (1 : Int32))) (lv2 := [(2, .int (x2 + (1 : Int32))), (0, .long x0), (3, .int x3)]) d_R_ones_20 rfl rfl (by decide) rfl ?_
        refine ga_iinc (q := 2) (v := (x3 + (1 : Int32))) (lv2 := [(3, .int (x3 + (1 : Int32))), (2, .int (x2 + (1 : Int32))), (0, .long x0)]) d_R_ones_23 rfl rfl (by decide) rfl ?_
        refine ga_goto (tgt := 4) d_R_ones_26 (by decide) ?_
        refine ga_sub (lv2 := [(0, .long x0), (2, .int (x2 + (1 : Int32))), (3, .int (x3 + (1 : Int32)))]) [2, 1, 0] rfl ?_
        exact ih _ _ _
set_option maxHeartbeats 4000000 in
set_option maxRecDepth 100000 in
theorem m_R_ones (hst : l.stackTraces = false) (F : Nat) (p0 : Int64) (w : ga_W) : ga_M l S0 D gz_cl (gz_tA cT) base b gz_xn y_R_ones ws_R_ones 0 0 true [.long p0] w (f_R_ones F p0 w) := by
  refine ga_enter (cc := c_R_ones) (maxL := 4) (ret := (some .int)) hst (by decide) rfl (Nat.le_of_ble_eq_true rfl) ?_
  intro p e R s m args below meth c ad0
  refine ga_sub (lv2 := [(0, .long p0)]) [0] rfl ?_
  unfold f_R_ones
  refine ga_iconst (v := (0 : Int32)) d_R_ones_0 (by decide) ?_
  refine ga_istore_n (lv2 := [(2, .int (0 : Int32)), (0, .long p0)]) d_R_ones_1 rfl (by decide) rfl ?_
  refine ga_iconst (v := (0 : Int32)) d_R_ones_2 (by decide) ?_
  refine ga_istore_n (lv2 := [(3, .int (0 : Int32)), (2, .int (0 : Int32)), (0, .long p0)]) d_R_ones_3 rfl (by decide) rfl ?_
  refine ga_sub (lv2 := [(0, .long p0), (2, .int (0 : Int32)), (3, .int (0 : Int32))]) [2, 1, 0] rfl ?_
  exact h_R_ones_4 hst F p0 F (0 : Int32) (0 : Int32) w
noncomputable def f_R_table (F : Nat) (p0 : Nat) (p1 : Int32) (p2 : Int32) (w : ga_W) : ga_O :=
  ((ga_put w 6 0 p0 (.int (0 : Int32))).bind fun w1 => (ga_c (f_R_in F p1 (0 : Int32) (59 : Int32) w1) (ga_kI fun v3 w2 => (if v3 = 0 then (if ga_is w2 6 p0 = true then ga_c (f_R_raise F p0 (1 : Int32) w2) (ga_kI fun v6 w5 => (some (.inl (some (.int v6)), w5))) ga_up else none) else (ga_c (f_R_in F p2 (0 : Int32) (15 : Int32) w2) (ga_kI fun v8 w7 => (if v8 = 0 then (if ga_is w7 6 p0 = true then ga_c (f_R_raise F p0 (1 : Int32) w7) (ga_kI fun v11 w10 => (some (.inl (some (.int v11)), w10))) ga_up else none) else ((ga_gi w7 6 10 p0).bind fun v12 => (if p1 < v12 then (if p2 = 0 then ((ga_gr w7 6 6 p0).bind fun r15 => ((ga_ai w7 0 r15 p1).bind fun v16 => (some (.inl (some (.int v16)), w7)))) else (if p2 = 1 then ((ga_gr w7 6 7 p0).bind fun r18 => ((ga_ai w7 0 r18 p1).bind fun v19 => (some (.inl (some (.int v19)), w7)))) else (if p2 = 2 then ((ga_gr w7 6 8 p0).bind fun r21 => ((ga_ai w7 0 r21 p1).bind fun v22 => (some (.inl (some (.int v22)), w7)))) else (if p2 = 3 then (if ga_is w7 6 p0 = true then ga_c (f_R_low F p0 p1 w7) (ga_kI fun v25 w24 => (some (.inl (some (.int v25)), w24))) ga_up else none) else (if p2 = 4 then (if ga_is w7 6 p0 = true then ga_c (f_R_high F p0 p1 w7) (ga_kI fun v28 w27 => (some (.inl (some (.int v28)), w27))) ga_up else none) else (if p2 = 5 then ((ga_gr w7 6 9 p0).bind fun r30 => ((ga_al w7 2 r30 p1).bind fun v31 => (ga_c (f_R_ones F v31 w7) (ga_kI fun v33 w32 => (some (.inl (some (.int v33)), w32))) ga_up))) else ((ga_gr w7 6 8 p0).bind fun r34 => ((ga_ai w7 0 r34 p1).bind fun v35 => (if v35 ≤ (p2 - (6 : Int32)) then (some (.inl (some (.int (0 : Int32))), w7)) else ((ga_gr w7 6 2 p0).bind fun r37 => (if ga_is w7 6 p0 = true then ga_c (f_R_start F p0 p1 w7) (ga_kI fun v39 w38 => ((ga_ai w38 0 r37 ((v39 + p2) - (6 : Int32))).bind fun v40 => (some (.inl (some (.int v40)), w38)))) ga_up else none))))))))))) else (if ga_is w7 6 p0 = true then ga_c (f_R_raise F p0 (2 : Int32) w7) (ga_kI fun v42 w41 => (some (.inl (some (.int v42)), w41))) ga_up else none))))) ga_up))) ga_up))
set_option maxHeartbeats 4000000 in
set_option maxRecDepth 100000 in
theorem m_R_table (hst : l.stackTraces = false) (F : Nat) (p0 : Nat) (p1 : Int32) (p2 : Int32) (w : ga_W) : ga_M l S0 D gz_cl (gz_tA cT) base b gz_xn y_R_table ws_R_table 2 44 true [.ref p0, .int p1, .int p2] w (f_R_table F p0 p1 p2 w) := by
  refine ga_enter (cc := c_R_table) (maxL := 3) (ret := (some .int)) hst (by decide) rfl (Nat.le_of_ble_eq_true rfl) ?_
  intro p e R s m args below meth c ad0
  refine ga_sub (lv2 := [(0, .ref p0), (1, .int p1), (2, .int p2)]) [0, 1, 2] rfl ?_
  unfold f_R_table
  refine ga_aload_n (q := 0) d_R_table_0 rfl rfl ?_
  refine ga_iconst (v := (0 : Int32)) d_R_table_1 (by decide) ?_
  refine ga_putB (C := "LevelStoreModel") (T := T_R) (N := 39) (k := 0) (ci := 6) (ty0 := ty_R) (fun x h => List.mem_cons_of_mem _ (iw_R x h)) ty_R_ok nm_R rfl (by decide) (List.mem_cons_of_mem _ gw_761) (Or.inl rfl) (fun _ => ⟨rfl, rfl⟩) d_R_table_2 (fun w1 => ?_)
  refine ga_iload_n (q := 1) d_R_table_5 rfl rfl ?_
  refine ga_iconst (v := (0 : Int32)) d_R_table_6 (by decide) ?_
  refine ga_bipush (v := (59 : Int32)) d_R_table_7 (by decide) ?_
  refine ga_invS (nA := 3) (av := [.int p1, .int (0 : Int32), .int (59 : Int32)]) (st := []) (m_R_in hst F p1 (0 : Int32) (59 : Int32) w1) (Or.inl rfl) (gz_gS gw_892 gw_893 gw_58 gw_894) rfl (by decide +kernel) rfl (by decide) (by decide) (Nat.le_of_ble_eq_true rfl) d_R_table_9 (ga_vI (fun v3 w2 => ?_)) (fun _ _ => ga_thru rfl)
  refine ga_if_eq (tgt := 25) d_R_table_12 (by decide) (fun h4 => ?_) (fun h4 => ?_)
  · refine ga_aload_n (q := 0) d_R_table_25 rfl rfl ?_
    refine ga_iconst (v := (1 : Int32)) d_R_table_26 (by decide) ?_
    refine ga_invV (nA := 1) (ci := 6) (T := T_R) (N := 39) (av := [.int (1 : Int32)]) (a := p0) (st := []) (m_R_raise hst F p0 (1 : Int32) w2) (Or.inl rfl) (gz_gV gw_895 gw_897 gw_19 gw_58 gw_898) rfl ⟨rfl, by decide +kernel⟩ rfl (by decide) (by decide) (Nat.le_of_ble_eq_true rfl) rfl d_R_table_27 (ga_vI (fun v6 w5 => ?_)) (fun _ _ => ga_thru rfl)
    exact ga_iret rfl d_R_table_30
  · refine ga_iload_n (q := 2) d_R_table_15 rfl rfl ?_
    refine ga_iconst (v := (0 : Int32)) d_R_table_16 (by decide) ?_
    refine ga_bipush (v := (15 : Int32)) d_R_table_17 (by decide) ?_
    refine ga_invS (nA := 3) (av := [.int p2, .int (0 : Int32), .int (15 : Int32)]) (st := []) (m_R_in hst F p2 (0 : Int32) (15 : Int32) w2) (Or.inl rfl) (gz_gS gw_892 gw_893 gw_58 gw_894) rfl (by decide +kernel) rfl (by decide) (by decide) (Nat.le_of_ble_eq_true rfl) d_R_table_19 (ga_vI (fun v8 w7 => ?_)) (fun _ _ => ga_thru rfl)
    refine ga_if_ne (tgt := 31) d_R_table_22 (by decide) (fun h9 => ?_) (fun h9 => ?_)
    · refine ga_aload_n (q := 0) d_R_table_25 rfl rfl ?_
      refine ga_iconst (v := (1 : Int32)) d_R_table_26 (by decide) ?_
      refine ga_invV (nA := 1) (ci := 6) (T := T_R) (N := 39) (av := [.int (1 : Int32)]) (a := p0) (st := []) (m_R_raise hst F p0 (1 : Int32) w7) (Or.inl rfl) (gz_gV gw_895 gw_897 gw_19 gw_58 gw_898) rfl ⟨rfl, by decide +kernel⟩ rfl (by decide) (by decide) (Nat.le_of_ble_eq_true rfl) rfl d_R_table_27 (ga_vI (fun v11 w10 => ?_)) (fun _ _ => ga_thru rfl)
      exact ga_iret rfl d_R_table_30
    · refine ga_iload_n (q := 1) d_R_table_31 rfl rfl ?_
      refine ga_aload_n (q := 0) d_R_table_32 rfl rfl ?_
      refine ga_getI (C := "LevelStoreModel") (T := T_R) (N := 39) (k := 10) (ci := 6) (fun x h => List.mem_cons_of_mem _ (iw_R x h)) rfl (by decide) (List.mem_cons_of_mem _ gw_771) d_R_table_33 (fun v12 => ?_)
      refine ga_icmp_lt (tgt := 45) d_R_table_36 (by decide) (fun h13 => ?_) (fun h13 => ?_)
      · refine ga_iload_n (q := 2) d_R_table_45 rfl rfl ?_
        refine ga_ite (fun h14 => ?_) (fun h14 => ?_)
        · refine ga_tabIn (x := p2) (off := 38) (tgt := 84) d_R_table_46 (by rw [h14]; decide) (by rw [h14]; decide) (by rw [h14]; rfl) (by decide) ?_
          refine ga_aload_n (q := 0) d_R_table_84 rfl rfl ?_
          refine ga_getR (C := "LevelStoreModel") (T := T_R) (N := 39) (k := 6) (ci := 6) (fun x h => List.mem_cons_of_mem _ (iw_R x h)) rfl (by decide) (List.mem_cons_of_mem _ gw_767) d_R_table_85 (fun r15 => ?_)
          refine ga_iload_n (q := 1) d_R_table_88 rfl rfl ?_
          refine ga_ldI (t := 0) rfl d_R_table_89 (fun v16 => ?_)
          exact ga_iret rfl d_R_table_90
        · refine ga_ite (fun h17 => ?_) (fun h17 => ?_)
          · refine ga_tabIn (x := p2) (off := 45) (tgt := 91) d_R_table_46 (by rw [h17]; decide) (by rw [h17]; decide) (by rw [h17]; rfl) (by decide) ?_
            refine ga_aload_n (q := 0) d_R_table_91 rfl rfl ?_
            refine ga_getR (C := "LevelStoreModel") (T := T_R) (N := 39) (k := 7) (ci := 6) (fun x h => List.mem_cons_of_mem _ (iw_R x h)) rfl (by decide) (List.mem_cons_of_mem _ gw_768) d_R_table_92 (fun r18 => ?_)
            refine ga_iload_n (q := 1) d_R_table_95 rfl rfl ?_
            refine ga_ldI (t := 0) rfl d_R_table_96 (fun v19 => ?_)
            exact ga_iret rfl d_R_table_97
          · refine ga_ite (fun h20 => ?_) (fun h20 => ?_)
            · refine ga_tabIn (x := p2) (off := 52) (tgt := 98) d_R_table_46 (by rw [h20]; decide) (by rw [h20]; decide) (by rw [h20]; rfl) (by decide) ?_
              refine ga_aload_n (q := 0) d_R_table_98 rfl rfl ?_
              refine ga_getR (C := "LevelStoreModel") (T := T_R) (N := 39) (k := 8) (ci := 6) (fun x h => List.mem_cons_of_mem _ (iw_R x h)) rfl (by decide) (List.mem_cons_of_mem _ gw_769) d_R_table_99 (fun r21 => ?_)
              refine ga_iload_n (q := 1) d_R_table_102 rfl rfl ?_
              refine ga_ldI (t := 0) rfl d_R_table_103 (fun v22 => ?_)
              exact ga_iret rfl d_R_table_104
            · refine ga_ite (fun h23 => ?_) (fun h23 => ?_)
              · refine ga_tabIn (x := p2) (off := 59) (tgt := 105) d_R_table_46 (by rw [h23]; decide) (by rw [h23]; decide) (by rw [h23]; rfl) (by decide) ?_
                refine ga_aload_n (q := 0) d_R_table_105 rfl rfl ?_
                refine ga_iload_n (q := 1) d_R_table_106 rfl rfl ?_
                refine ga_invV (nA := 1) (ci := 6) (T := T_R) (N := 39) (av := [.int p1]) (a := p0) (st := []) (m_R_low hst F p0 p1 w7) (Or.inl rfl) (gz_gV gw_951 gw_953 gw_33 gw_58 gw_954) rfl ⟨rfl, by decide +kernel⟩ rfl (by decide) (by decide) (Nat.le_of_ble_eq_true rfl) rfl d_R_table_107 (ga_vI (fun v25 w24 => ?_)) (fun _ _ => ga_thru rfl)
                exact ga_iret rfl d_R_table_110
              · refine ga_ite (fun h26 => ?_) (fun h26 => ?_)
                · refine ga_tabIn (x := p2) (off := 65) (tgt := 111) d_R_table_46 (by rw [h26]; decide) (by rw [h26]; decide) (by rw [h26]; rfl) (by decide) ?_
                  refine ga_aload_n (q := 0) d_R_table_111 rfl rfl ?_
                  refine ga_iload_n (q := 1) d_R_table_112 rfl rfl ?_
                  refine ga_invV (nA := 1) (ci := 6) (T := T_R) (N := 39) (av := [.int p1]) (a := p0) (st := []) (m_R_high hst F p0 p1 w7) (Or.inl rfl) (gz_gV gw_955 gw_957 gw_34 gw_58 gw_958) rfl ⟨rfl, by decide +kernel⟩ rfl (by decide) (by decide) (Nat.le_of_ble_eq_true rfl) rfl d_R_table_113 (ga_vI (fun v28 w27 => ?_)) (fun _ _ => ga_thru rfl)
                  exact ga_iret rfl d_R_table_116
                · refine ga_ite (fun h29 => ?_) (fun h29 => ?_)
                  · refine ga_tabIn (x := p2) (off := 71) (tgt := 117) d_R_table_46 (by rw [h29]; decide) (by rw [h29]; decide) (by rw [h29]; rfl) (by decide) ?_
                    refine ga_aload_n (q := 0) d_R_table_117 rfl rfl ?_
                    refine ga_getR (C := "LevelStoreModel") (T := T_R) (N := 39) (k := 9) (ci := 6) (fun x h => List.mem_cons_of_mem _ (iw_R x h)) rfl (by decide) (List.mem_cons_of_mem _ gw_770) d_R_table_118 (fun r30 => ?_)
                    refine ga_iload_n (q := 1) d_R_table_121 rfl rfl ?_
                    refine ga_ldL (t := 2) rfl d_R_table_122 (fun v31 => ?_)
                    refine ga_invS (nA := 1) (av := [.long v31]) (st := []) (m_R_ones hst F v31 w7) (Or.inl rfl) (gz_gS gw_1081 gw_1082 gw_58 gw_1083) rfl (by decide +kernel) rfl (by decide) (by decide) (Nat.le_of_ble_eq_true rfl) d_R_table_123 (ga_vI (fun v33 w32 => ?_)) (fun _ _ => ga_thru rfl)
                    exact ga_iret rfl d_R_table_126
                  · refine ga_tabOut (x := p2) (tgt := 127) d_R_table_46 (ga_out5 h14 h17 h20 h23 h26 h29) (by decide) ?_
                    refine ga_iload_n (q := 2) d_R_table_127 rfl rfl ?_
                    refine ga_bipush (v := (6 : Int32)) d_R_table_128 (by decide) ?_
                    refine ga_isub d_R_table_130 ?_
                    refine ga_aload_n (q := 0) d_R_table_131 rfl rfl ?_
                    refine ga_getR (C := "LevelStoreModel") (T := T_R) (N := 39) (k := 8) (ci := 6) (fun x h => List.mem_cons_of_mem _ (iw_R x h)) rfl (by decide) (List.mem_cons_of_mem _ gw_769) d_R_table_132 (fun r34 => ?_)
                    refine ga_iload_n (q := 1) d_R_table_135 rfl rfl ?_
                    refine ga_ldI (t := 0) rfl d_R_table_136 (fun v35 => ?_)
                    refine ga_icmp_ge (tgt := 158) d_R_table_137 (by decide) (fun h36 => ?_) (fun h36 => ?_)
                    · refine ga_iconst (v := (0 : Int32)) d_R_table_158 (by decide) ?_
                      exact ga_iret rfl d_R_table_159
                    · refine ga_aload_n (q := 0) d_R_table_140 rfl rfl ?_
                      refine ga_getR (C := "LevelStoreModel") (T := T_R) (N := 39) (k := 2) (ci := 6) (fun x h => List.mem_cons_of_mem _ (iw_R x h)) rfl (by decide) (List.mem_cons_of_mem _ gw_763) d_R_table_141 (fun r37 => ?_)
                      refine ga_aload_n (q := 0) d_R_table_144 rfl rfl ?_
                      refine ga_iload_n (q := 1) d_R_table_145 rfl rfl ?_
                      refine ga_invV (nA := 1) (ci := 6) (T := T_R) (N := 39) (av := [.int p1]) (a := p0) (st := [.ref r37]) (m_R_start hst F p0 p1 w7) (Or.inl rfl) (gz_gV gw_931 gw_933 gw_28 gw_58 gw_934) rfl ⟨rfl, by decide +kernel⟩ rfl (by decide) (by decide) (Nat.le_of_ble_eq_true rfl) rfl d_R_table_146 (ga_vI (fun v39 w38 => ?_)) (fun _ _ => ga_thru rfl)
                      refine ga_iload_n (q := 2) d_R_table_149 rfl rfl ?_
                      refine ga_iadd d_R_table_150 ?_
                      refine ga_bipush (v := (6 : Int32)) d_R_table_151 (by decide) ?_
                      refine ga_isub d_R_table_153 ?_
                      refine ga_ldI (t := 0) rfl d_R_table_154 (fun v40 => ?_)
                      refine ga_goto (tgt := 159) d_R_table_155 (by decide) ?_
                      exact ga_iret rfl d_R_table_159
      · refine ga_aload_n (q := 0) d_R_table_39 rfl rfl ?_
        refine ga_iconst (v := (2 : Int32)) d_R_table_40 (by decide) ?_
        refine ga_invV (nA := 1) (ci := 6) (T := T_R) (N := 39) (av := [.int (2 : Int32)]) (a := p0) (st := []) (m_R_raise hst F p0 (2 : Int32) w7) (Or.inl rfl) (gz_gV gw_895 gw_897 gw_19 gw_58 gw_898) rfl ⟨rfl, by decide +kernel⟩ rfl (by decide) (by decide) (Nat.le_of_ble_eq_true rfl) rfl d_R_table_41 (ga_vI (fun v42 w41 => ?_)) (fun _ _ => ga_thru rfl)
        exact ga_iret rfl d_R_table_44
end GM18
