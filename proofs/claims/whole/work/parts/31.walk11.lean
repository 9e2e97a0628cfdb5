/-! WALKS: R_enter, R_start, R_moveEntry, R_moveTable, R_insert, R_low, R_high, R_oldest -/
section GM11
variable {l : Launch} {S0 : State} {D : va_G} {cT : Nat → ClassId} {base b : Nat} {p : Program} {e : Env} {R : Room} {s : State} {m : MethodId} {args : Array Value} {below : List Frame} {meth : Method} {c : Code} {ad0 : Nat → Nat} {w0 : ga_W}
noncomputable def f_R_enter_6 (F : Nat) (x0 : Nat) (x1 : Int32) (x2 : Int32) (x3 : Int32) (x4 : Int32) (K66 : Int32 → ga_W → ga_O) : Nat → Int32 → ga_W → ga_O
  | 0, _, _ => none
  | n + 1, x5, w => (if x5 ≤ 0 then (K66 x5 w) else ((ga_gr w 6 32 x0).bind fun r2 => ((ga_ai w 0 r2 (x5 - (1 : Int32))).bind fun v3 => (ga_jn (fun  (w11 : ga_W) => (if ga_is w11 6 x0 = true then ga_c (f_R_copyWork F x0 x5 (x5 - (1 : Int32)) w11) (ga_kV fun w13 => (f_R_enter_6 F x0 x1 x2 x3 x4 K66 n (x5 + (-1 : Int32)) w13)) ga_up else none)) (fun K12 => (if x1 < v3 then (K12 w) else ((ga_gr w 6 32 x0).bind fun r15 => ((ga_ai w 0 r15 (x5 - (1 : Int32))).bind fun v16 => (if v16 = x1 then ((ga_gr w 6 33 x0).bind fun r18 => ((ga_ai w 0 r18 (x5 - (1 : Int32))).bind fun v19 => (if x2 ≤ v19 then (K66 x5 w) else (K12 w)))) else (K66 x5 w))))))))))
noncomputable def f_R_enter (F : Nat) (p0 : Nat) (p1 : Int32) (p2 : Int32) (p3 : Int32) (p4 : Int32) (w : ga_W) : ga_O :=
  ((ga_gi w 6 36 p0).bind fun v1 => (f_R_enter_6 F p0 p1 p2 p3 p4 (fun (z2 : Int32) (w3 : ga_W) => ((ga_gr w3 6 32 p0).bind fun r4 => ((ga_si w3 0 r4 z2 p1).bind fun w5 => ((ga_gr w5 6 33 p0).bind fun r6 => ((ga_si w5 0 r6 z2 p2).bind fun w7 => ((ga_gr w7 6 34 p0).bind fun r8 => ((ga_si w7 0 r8 z2 p3).bind fun w9 => ((ga_gr w9 6 35 p0).bind fun r10 => ((ga_sz w9 1 r10 z2 p4).bind fun w11 => ((ga_gi w11 6 36 p0).bind fun v12 => ((ga_put w11 6 36 p0 (.int (v12 + (1 : Int32)))).bind fun w13 => (some (.inl none, w13))))))))))))) F v1 w))
set_option maxHeartbeats 4000000 in
set_option maxRecDepth 100000 in
theorem h_R_enter_6 (hst : l.stackTraces = false) (F : Nat) (x0 : Nat) (x1 : Int32) (x2 : Int32) (x3 : Int32) (x4 : Int32) (K66 : Int32 → ga_W → ga_O) (hK66 : ∀ (z5 : Int32) (w : ga_W), ga_J l S0 D gz_cl (gz_tA cT) base b gz_xn p e R s m args below meth c 6 ws_R_enter y_R_enter.cls c_R_enter none [] y_R_enter.name 1 22 true ad0 w0 (ga_MQ gz_xn D gz_cl (gz_tA cT) base b s args below ad0 w0) 66 [(0, .ref x0), (1, .int x1), (2, .int x2), (3, .int x3), (4, .int x4), (5, .int z5)] [] w (K66 z5 w)) : ∀ (n : Nat) (x5 : Int32) (w : ga_W), ga_J l S0 D gz_cl (gz_tA cT) base b gz_xn p e R s m args below meth c 6 ws_R_enter y_R_enter.cls c_R_enter none [] y_R_enter.name 1 22 true ad0 w0 (ga_MQ gz_xn D gz_cl (gz_tA cT) base b s args below ad0 w0) 6 [(0, .ref x0), (1, .int x1), (2, .int x2), (3, .int x3), (4, .int x4), (5, .int x5)] [] w (f_R_enter_6 F x0 x1 x2 x3 x4 K66 n x5 w) := by
  intro n
  induction n with
  | zero => intro x5 w; exact ga_no
  | succ n ih =>
    intro x5 w
    rw [f_R_enter_6]
    refine ga_iload (q := 5) d_R_enter_6 rfl ?_
    refine ga_if_le (tgt := 66) d_R_enter_8 (by decide) (fun h1 => ?_) (fun h1 => ?_)
    · exact hK66 _ _
    · refine ga_aload_n (q := 0) d_R_enter_11 rfl rfl ?_
      refine ga_getR (C := "LevelStoreModel") (T := T_R) (N := 39) (k := 32) (ci := 6) (fun x h => List.mem_cons_of_mem _ (iw_R x h)) rfl (by decide) (List.mem_cons_of_mem _ gw_793) d_R_enter_12 (fun r2 => ?_)
      refine ga_iload (q := 5) d_R_enter_15 rfl ?_
      refine ga_iconst (v := (1 : Int32)) d_R_enter_17 (by decide) ?_
      refine ga_isub d_R_enter_18 ?_
      refine ga_ldI (t := 0) rfl d_R_enter_19 (fun v3 => ?_)
      refine ga_iload_n (q := 1) d_R_enter_20 rfl rfl ?_
      refine ga_join (fun (K12 : ga_W → ga_O) => ∀  (w11 : ga_W), ga_J l S0 D gz_cl (gz_tA cT) base b gz_xn p e R s m args below meth c 6 ws_R_enter y_R_enter.cls c_R_enter none [] y_R_enter.name 1 22 true ad0 w0 (ga_MQ gz_xn D gz_cl (gz_tA cT) base b s args below ad0 w0) 50 [(0, .ref x0), (1, .int x1), (2, .int x2), (3, .int x3), (4, .int x4), (5, .int x5)] [] w11 (K12 w11)) (fun w11 => ?_) (fun K12 hK12 => ?_)
      · refine ga_aload_n (q := 0) d_R_enter_50 rfl rfl ?_
        refine ga_iload (q := 5) d_R_enter_51 rfl ?_
        refine ga_iload (q := 5) d_R_enter_53 rfl ?_
        refine ga_iconst (v := (1 : Int32)) d_R_enter_55 (by decide) ?_
        refine ga_isub d_R_enter_56 ?_
        refine ga_invV (nA := 2) (ci := 6) (T := T_R) (N := 39) (av := [.int x5, .int (x5 - (1 : Int32))]) (a := x0) (st := []) (m_R_copyWork hst F x0 x5 (x5 - (1 : Int32)) w11) (Or.inl rfl) (gz_gV gw_923 gw_925 gw_26 gw_58 gw_926) rfl ⟨rfl, by decide +kernel⟩ rfl (by decide) (by decide) (Nat.le_of_ble_eq_true rfl) rfl d_R_enter_57 (ga_vV (fun w13 => ?_)) (fun _ _ => ga_thru rfl)
        refine ga_iinc (q := 5) (v := (x5 + (-1 : Int32))) (lv2 := [(5, .int (x5 + (-1 : Int32))), (0, .ref x0), (1, .int x1), (2, .int x2), (3, .int x3), (4, .int x4)]) d_R_enter_60 rfl rfl (by decide) rfl ?_
        refine ga_goto (tgt := 6) d_R_enter_63 (by decide) ?_
        refine ga_sub (lv2 := [(0, .ref x0), (1, .int x1), (2, .int x2), (3, .int x3), (4, .int x4), (5, .int (x5 + (-1 : Int32)))]) [1, 2, 3, 4, 5, 0] rfl ?_
        exact ih _ _
      · refine ga_icmp_gt (tgt := 50) d_R_enter_21 (by decide) (fun h14 => ?_) (fun h14 => ?_)
        · exact hK12 _
        · refine ga_aload_n (q := 0) d_R_enter_24 rfl rfl ?_
          refine ga_getR (C := "LevelStoreModel") (T := T_R) (N := 39) (k := 32) (ci := 6) (fun x h => List.mem_cons_of_mem _ (iw_R x h)) rfl (by decide) (List.mem_cons_of_mem _ gw_793) d_R_enter_25 (fun r15 => ?_)
          refine ga_iload (q := 5) d_R_enter_28 rfl ?_
          refine ga_iconst (v := (1 : Int32)) d_R_enter_30 (by decide) ?_
          refine ga_isub d_R_enter_31 ?_
          refine ga_ldI (t := 0) rfl d_R_enter_32 (fun v16 => ?_)
          refine ga_iload_n (q := 1) d_R_enter_33 rfl rfl ?_
          refine ga_icmp_ne (tgt := 66) d_R_enter_34 (by decide) (fun h17 => ?_) (fun h17 => ?_)
          · refine ga_aload_n (q := 0) d_R_enter_37 rfl rfl ?_
            refine ga_getR (C := "LevelStoreModel") (T := T_R) (N := 39) (k := 33) (ci := 6) (fun x h => List.mem_cons_of_mem _ (iw_R x h)) rfl (by decide) (List.mem_cons_of_mem _ gw_794) d_R_enter_38 (fun r18 => ?_)
            refine ga_iload (q := 5) d_R_enter_41 rfl ?_
            refine ga_iconst (v := (1 : Int32)) d_R_enter_43 (by decide) ?_
            refine ga_isub d_R_enter_44 ?_
            refine ga_ldI (t := 0) rfl d_R_enter_45 (fun v19 => ?_)
            refine ga_iload_n (q := 2) d_R_enter_46 rfl rfl ?_
            refine ga_icmp_ge (tgt := 66) d_R_enter_47 (by decide) (fun h20 => ?_) (fun h20 => ?_)
            · exact hK66 _ _
            · exact hK12 _
          · exact hK66 _ _
set_option maxHeartbeats 4000000 in
set_option maxRecDepth 100000 in
theorem m_R_enter (hst : l.stackTraces = false) (F : Nat) (p0 : Nat) (p1 : Int32) (p2 : Int32) (p3 : Int32) (p4 : Int32) (w : ga_W) : ga_M l S0 D gz_cl (gz_tA cT) base b gz_xn y_R_enter ws_R_enter 1 22 true [.ref p0, .int p1, .int p2, .int p3, .int p4] w (f_R_enter F p0 p1 p2 p3 p4 w) := by
  refine ga_enter (cc := c_R_enter) (maxL := 6) (ret := none) hst (by decide) rfl (Nat.le_of_ble_eq_true rfl) ?_
  intro p e R s m args below meth c ad0
  refine ga_sub (lv2 := [(0, .ref p0), (1, .int p1), (2, .int p2), (3, .int p3), (4, .int p4)]) [0, 1, 2, 3, 4] rfl ?_
  unfold f_R_enter
  refine ga_aload_n (q := 0) d_R_enter_0 rfl rfl ?_
  refine ga_getI (C := "LevelStoreModel") (T := T_R) (N := 39) (k := 36) (ci := 6) (fun x h => List.mem_cons_of_mem _ (iw_R x h)) rfl (by decide) (List.mem_cons_of_mem _ gw_797) d_R_enter_1 (fun v1 => ?_)
  refine ga_istore (lv2 := [(5, .int v1), (0, .ref p0), (1, .int p1), (2, .int p2), (3, .int p3), (4, .int p4)]) d_R_enter_4 (by decide) rfl ?_
  refine ga_sub (lv2 := [(0, .ref p0), (1, .int p1), (2, .int p2), (3, .int p3), (4, .int p4), (5, .int v1)]) [1, 2, 3, 4, 5, 0] rfl ?_
  refine h_R_enter_6 hst F p0 p1 p2 p3 p4 _ (fun z2 w3 => ?_) F v1 w
  refine ga_aload_n (q := 0) d_R_enter_66 rfl rfl ?_
  refine ga_getR (C := "LevelStoreModel") (T := T_R) (N := 39) (k := 32) (ci := 6) (fun x h => List.mem_cons_of_mem _ (iw_R x h)) rfl (by decide) (List.mem_cons_of_mem _ gw_793) d_R_enter_67 (fun r4 => ?_)
  refine ga_iload (q := 5) d_R_enter_70 rfl ?_
  refine ga_iload_n (q := 1) d_R_enter_72 rfl rfl ?_
  refine ga_stI (t := 0) rfl d_R_enter_73 (fun w5 => ?_)
  refine ga_aload_n (q := 0) d_R_enter_74 rfl rfl ?_
  refine ga_getR (C := "LevelStoreModel") (T := T_R) (N := 39) (k := 33) (ci := 6) (fun x h => List.mem_cons_of_mem _ (iw_R x h)) rfl (by decide) (List.mem_cons_of_mem _ gw_794) d_R_enter_75 (fun r6 => ?_)
  refine ga_iload (q := 5) d_R_enter_78 rfl ?_
  refine ga_iload_n (q := 2) d_R_enter_80 rfl rfl ?_
  refine ga_stI (t := 0) rfl d_R_enter_81 (fun w7 => ?_)
  refine ga_aload_n (q := 0) d_R_enter_82 rfl rfl ?_
  refine ga_getR (C := "LevelStoreModel") (T := T_R) (N := 39) (k := 34) (ci := 6) (fun x h => List.mem_cons_of_mem _ (iw_R x h)) rfl (by decide) (List.mem_cons_of_mem _ gw_795) d_R_enter_83 (fun r8 => ?_)
  refine ga_iload (q := 5) d_R_enter_86 rfl ?_
  refine ga_iload_n (q := 3) d_R_enter_88 rfl rfl ?_
  refine ga_stI (t := 0) rfl d_R_enter_89 (fun w9 => ?_)
  refine ga_aload_n (q := 0) d_R_enter_90 rfl rfl ?_
  refine ga_getR (C := "LevelStoreModel") (T := T_R) (N := 39) (k := 35) (ci := 6) (fun x h => List.mem_cons_of_mem _ (iw_R x h)) rfl (by decide) (List.mem_cons_of_mem _ gw_796) d_R_enter_91 (fun r10 => ?_)
  refine ga_iload (q := 5) d_R_enter_94 rfl ?_
  refine ga_iload (q := 4) d_R_enter_96 rfl ?_
  refine ga_stZ (t := 1) rfl d_R_enter_98 (fun w11 => ?_)
  refine ga_aload_n (q := 0) d_R_enter_99 rfl rfl ?_
  refine ga_dup d_R_enter_100 rfl ?_
  refine ga_getI (C := "LevelStoreModel") (T := T_R) (N := 39) (k := 36) (ci := 6) (fun x h => List.mem_cons_of_mem _ (iw_R x h)) rfl (by decide) (List.mem_cons_of_mem _ gw_797) d_R_enter_101 (fun v12 => ?_)
  refine ga_iconst (v := (1 : Int32)) d_R_enter_104 (by decide) ?_
  refine ga_iadd d_R_enter_105 ?_
  refine ga_putB (C := "LevelStoreModel") (T := T_R) (N := 39) (k := 36) (ci := 6) (ty0 := ty_R) (fun x h => List.mem_cons_of_mem _ (iw_R x h)) ty_R_ok nm_R rfl (by decide) (List.mem_cons_of_mem _ gw_797) (Or.inl rfl) (fun _ => ⟨rfl, rfl⟩) d_R_enter_106 (fun w13 => ?_)
  exact ga_vret rfl d_R_enter_109
noncomputable def f_R_start_4 (F : Nat) (x0 : Nat) (x1 : Int32) : Nat → Int32 → Int32 → ga_W → ga_O
  | 0, _, _, _ => none
  | n + 1, x2, x3, w => (if x1 ≤ x3 then (some (.inl (some (.int x2)), w)) else ((ga_gr w 6 8 x0).bind fun r2 => ((ga_ai w 0 r2 x3).bind fun v3 => (f_R_start_4 F x0 x1 n (x2 + v3) (x3 + (1 : Int32)) w))))
noncomputable def f_R_start (F : Nat) (p0 : Nat) (p1 : Int32) (w : ga_W) : ga_O :=
  (f_R_start_4 F p0 p1 F (0 : Int32) (0 : Int32) w)
set_option maxHeartbeats 4000000 in
set_option maxRecDepth 100000 in
theorem h_R_start_4 (hst : l.stackTraces = false) (F : Nat) (x0 : Nat) (x1 : Int32) : ∀ (n : Nat) (x2 : Int32) (x3 : Int32) (w : ga_W), ga_J l S0 D gz_cl (gz_tA cT) base b gz_xn p e R s m args below meth c 4 ws_R_start y_R_start.cls c_R_start (some .int) [] y_R_start.name 0 0 true ad0 w0 (ga_MQ gz_xn D gz_cl (gz_tA cT) base b s args below ad0 w0) 4 [(0, .ref x0), (1, .int x1), (2, .int x2), (3, .int x3)] [] w (f_R_start_4 F x0 x1 n x2 x3 w) := by
  intro n
  induction n with
  | zero => intro x2 x3 w; exact ga_no
  | succ n ih =>
    intro x2 x3 w
    rw [f_R_start_4]
    refine ga_iload_n (q := 3) d_R_start_4 rfl rfl ?_
    refine ga_iload_n (q := 1) d_R_start_5 rfl rfl ?_
    refine ga_icmp_ge (tgt := 24) d_R_start_6 (by decide) (fun h1 => ?_) (fun h1 => ?_)
    · refine ga_iload_n (q := 2) d_R_start_24 rfl rfl ?_
      exact ga_iret rfl d_R_start_25
    · refine ga_iload_n (q := 2) d_R_start_9 rfl rfl ?_
      refine ga_aload_n (q := 0) d_R_start_10 rfl rfl ?_
      refine ga_getR (C := "LevelStoreModel") (T := T_R) (N := 39) (k := 8) (ci := 6) (fun x h => List.mem_cons_of_mem _ (iw_R x h)) rfl (by decide) (List.mem_cons_of_mem _ gw_769) d_R_start_11 (fun r2 => ?_)
      refine ga_iload_n (q := 3) d_R_start_14 rfl rfl ?_
      refine ga_ldI (t := 0) rfl d_R_start_15 (fun v3 => ?_)
      refine ga_iadd d_R_start_16 ?_
      refine ga_istore_n (lv2 := [(2, .int (x2 + v3)), (0, .ref x0), (1, .int x1), (3, .int x3)]) d_R_start_17 rfl (by decide) rfl ?_
      refine ga_iinc (q := 3) (v := (x3 + (1 : Int32))) (lv2 := [(3, .int (x3 + (1 : Int32))), (2, .int (x2 + v3)), (0, .ref x0), (1, .int x1)]) d_R_start_18 rfl rfl (by decide) rfl ?_
      refine ga_goto (tgt := 4) d_R_start_21 (by decide) ?_
      refine ga_sub (lv2 := [(0, .ref x0), (1, .int x1), (2, .int (x2 + v3)), (3, .int (x3 + (1 : Int32)))]) [2, 3, 1, 0] rfl ?_
      exact ih _ _ _
set_option maxHeartbeats 4000000 in
set_option maxRecDepth 100000 in
theorem m_R_start (hst : l.stackTraces = false) (F : Nat) (p0 : Nat) (p1 : Int32) (w : ga_W) : ga_M l S0 D gz_cl (gz_tA cT) base b gz_xn y_R_start ws_R_start 0 0 true [.ref p0, .int p1] w (f_R_start F p0 p1 w) := by
  refine ga_enter (cc := c_R_start) (maxL := 4) (ret := (some .int)) hst (by decide) rfl (Nat.le_of_ble_eq_true rfl) ?_
  intro p e R s m args below meth c ad0
  refine ga_sub (lv2 := [(0, .ref p0), (1, .int p1)]) [0, 1] rfl ?_
  unfold f_R_start
  refine ga_iconst (v := (0 : Int32)) d_R_start_0 (by decide) ?_
  refine ga_istore_n (lv2 := [(2, .int (0 : Int32)), (0, .ref p0), (1, .int p1)]) d_R_start_1 rfl (by decide) rfl ?_
  refine ga_iconst (v := (0 : Int32)) d_R_start_2 (by decide) ?_
  refine ga_istore_n (lv2 := [(3, .int (0 : Int32)), (2, .int (0 : Int32)), (0, .ref p0), (1, .int p1)]) d_R_start_3 rfl (by decide) rfl ?_
  refine ga_sub (lv2 := [(0, .ref p0), (1, .int p1), (2, .int (0 : Int32)), (3, .int (0 : Int32))]) [2, 3, 1, 0] rfl ?_
  exact h_R_start_4 hst F p0 p1 F (0 : Int32) (0 : Int32) w
noncomputable def f_R_moveEntry (F : Nat) (p0 : Nat) (p1 : Int32) (p2 : Int32) (w : ga_W) : ga_O :=
  ((ga_gr w 6 1 p0).bind fun r1 => ((ga_gr w 6 1 p0).bind fun r2 => ((ga_ai w 0 r2 p2).bind fun v3 => ((ga_si w 0 r1 p1 v3).bind fun w4 => ((ga_gr w4 6 2 p0).bind fun r5 => ((ga_gr w4 6 2 p0).bind fun r6 => ((ga_ai w4 0 r6 p2).bind fun v7 => ((ga_si w4 0 r5 p1 v7).bind fun w8 => ((ga_gr w8 6 3 p0).bind fun r9 => ((ga_gr w8 6 3 p0).bind fun r10 => ((ga_ai w8 0 r10 p2).bind fun v11 => ((ga_si w8 0 r9 p1 v11).bind fun w12 => ((ga_gr w12 6 4 p0).bind fun r13 => ((ga_gr w12 6 4 p0).bind fun r14 => ((ga_az w12 1 r14 p2).bind fun v15 => ((ga_sz w12 1 r13 p1 v15).bind fun w16 => (some (.inl none, w16))))))))))))))))))
set_option maxHeartbeats 4000000 in
set_option maxRecDepth 100000 in
theorem m_R_moveEntry (hst : l.stackTraces = false) (F : Nat) (p0 : Nat) (p1 : Int32) (p2 : Int32) (w : ga_W) : ga_M l S0 D gz_cl (gz_tA cT) base b gz_xn y_R_moveEntry ws_R_moveEntry 0 0 true [.ref p0, .int p1, .int p2] w (f_R_moveEntry F p0 p1 p2 w) := by
  refine ga_enter (cc := c_R_moveEntry) (maxL := 3) (ret := none) hst (by decide) rfl (Nat.le_of_ble_eq_true rfl) ?_
  intro p e R s m args below meth c ad0
  refine ga_sub (lv2 := [(0, .ref p0), (1, .int p1), (2, .int p2)]) [0, 1, 2] rfl ?_
  unfold f_R_moveEntry
  refine ga_aload_n (q := 0) d_R_moveEntry_0 rfl rfl ?_
  refine ga_getR (C := "LevelStoreModel") (T := T_R) (N := 39) (k := 1) (ci := 6) (fun x h => List.mem_cons_of_mem _ (iw_R x h)) rfl (by decide) (List.mem_cons_of_mem _ gw_762) d_R_moveEntry_1 (fun r1 => ?_)
  refine ga_iload_n (q := 1) d_R_moveEntry_4 rfl rfl ?_
  refine ga_aload_n (q := 0) d_R_moveEntry_5 rfl rfl ?_
  refine ga_getR (C := "LevelStoreModel") (T := T_R) (N := 39) (k := 1) (ci := 6) (fun x h => List.mem_cons_of_mem _ (iw_R x h)) rfl (by decide) (List.mem_cons_of_mem _ gw_762) d_R_moveEntry_6 (fun r2 => ?_)
  refine ga_iload_n (q := 2) d_R_moveEntry_9 rfl rfl ?_
  refine ga_ldI (t := 0) rfl d_R_moveEntry_10 (fun v3 => ?_)
  refine ga_stI (t := 0) rfl d_R_moveEntry_11 (fun w4 => ?_)
  refine ga_aload_n (q := 0) d_R_moveEntry_12 rfl rfl ?_
  refine ga_getR (C := "LevelStoreModel") (T := T_R) (N := 39) (k := 2) (ci := 6) (fun x h => List.mem_cons_of_mem _ (iw_R x h)) rfl (by decide) (List.mem_cons_of_mem _ gw_763) d_R_moveEntry_13 (fun r5 => ?_)
  refine ga_iload_n (q := 1) d_R_moveEntry_16 rfl rfl ?_
  refine ga_aload_n (q := 0) d_R_moveEntry_17 rfl rfl ?_
  refine ga_getR (C := "LevelStoreModel") (T := T_R) (N := 39) (k := 2) (ci := 6) (fun x h => List.mem_cons_of_mem _ (iw_R x h)) rfl (by decide) (List.mem_cons_of_mem _ gw_763) d_R_moveEntry_18 (fun r6 => ?_)
  refine ga_iload_n (q := 2) d_R_moveEntry_21 rfl rfl ?_
  refine ga_ldI (t := 0) rfl d_R_moveEntry_22 (fun v7 => ?_)
  refine ga_stI (t := 0) rfl d_R_moveEntry_23 (fun w8 => ?_)
  refine ga_aload_n (q := 0) d_R_moveEntry_24 rfl rfl ?_
  refine ga_getR (C := "LevelStoreModel") (T := T_R) (N := 39) (k := 3) (ci := 6) (fun x h => List.mem_cons_of_mem _ (iw_R x h)) rfl (by decide) (List.mem_cons_of_mem _ gw_764) d_R_moveEntry_25 (fun r9 => ?_)
  refine ga_iload_n (q := 1) d_R_moveEntry_28 rfl rfl ?_
  refine ga_aload_n (q := 0) d_R_moveEntry_29 rfl rfl ?_
  refine ga_getR (C := "LevelStoreModel") (T := T_R) (N := 39) (k := 3) (ci := 6) (fun x h => List.mem_cons_of_mem _ (iw_R x h)) rfl (by decide) (List.mem_cons_of_mem _ gw_764) d_R_moveEntry_30 (fun r10 => ?_)
  refine ga_iload_n (q := 2) d_R_moveEntry_33 rfl rfl ?_
  refine ga_ldI (t := 0) rfl d_R_moveEntry_34 (fun v11 => ?_)
  refine ga_stI (t := 0) rfl d_R_moveEntry_35 (fun w12 => ?_)
  refine ga_aload_n (q := 0) d_R_moveEntry_36 rfl rfl ?_
  refine ga_getR (C := "LevelStoreModel") (T := T_R) (N := 39) (k := 4) (ci := 6) (fun x h => List.mem_cons_of_mem _ (iw_R x h)) rfl (by decide) (List.mem_cons_of_mem _ gw_765) d_R_moveEntry_37 (fun r13 => ?_)
  refine ga_iload_n (q := 1) d_R_moveEntry_40 rfl rfl ?_
  refine ga_aload_n (q := 0) d_R_moveEntry_41 rfl rfl ?_
  refine ga_getR (C := "LevelStoreModel") (T := T_R) (N := 39) (k := 4) (ci := 6) (fun x h => List.mem_cons_of_mem _ (iw_R x h)) rfl (by decide) (List.mem_cons_of_mem _ gw_765) d_R_moveEntry_42 (fun r14 => ?_)
  refine ga_iload_n (q := 2) d_R_moveEntry_45 rfl rfl ?_
  refine ga_ldZ (t := 1) rfl d_R_moveEntry_46 (fun v15 => ?_)
  refine ga_stZ (t := 1) rfl d_R_moveEntry_47 (fun w16 => ?_)
  exact ga_vret rfl d_R_moveEntry_48
noncomputable def f_R_moveTable (F : Nat) (p0 : Nat) (p1 : Int32) (p2 : Int32) (w : ga_W) : ga_O :=
  ((ga_gr w 6 6 p0).bind fun r1 => ((ga_gr w 6 6 p0).bind fun r2 => ((ga_ai w 0 r2 p2).bind fun v3 => ((ga_si w 0 r1 p1 v3).bind fun w4 => ((ga_gr w4 6 7 p0).bind fun r5 => ((ga_gr w4 6 7 p0).bind fun r6 => ((ga_ai w4 0 r6 p2).bind fun v7 => ((ga_si w4 0 r5 p1 v7).bind fun w8 => ((ga_gr w8 6 8 p0).bind fun r9 => ((ga_gr w8 6 8 p0).bind fun r10 => ((ga_ai w8 0 r10 p2).bind fun v11 => ((ga_si w8 0 r9 p1 v11).bind fun w12 => ((ga_gr w12 6 9 p0).bind fun r13 => ((ga_gr w12 6 9 p0).bind fun r14 => ((ga_al w12 2 r14 p2).bind fun v15 => ((ga_sl w12 2 r13 p1 v15).bind fun w16 => (some (.inl none, w16))))))))))))))))))
set_option maxHeartbeats 4000000 in
set_option maxRecDepth 100000 in
theorem m_R_moveTable (hst : l.stackTraces = false) (F : Nat) (p0 : Nat) (p1 : Int32) (p2 : Int32) (w : ga_W) : ga_M l S0 D gz_cl (gz_tA cT) base b gz_xn y_R_moveTable ws_R_moveTable 0 0 true [.ref p0, .int p1, .int p2] w (f_R_moveTable F p0 p1 p2 w) := by
  refine ga_enter (cc := c_R_moveTable) (maxL := 3) (ret := none) hst (by decide) rfl (Nat.le_of_ble_eq_true rfl) ?_
  intro p e R s m args below meth c ad0
  refine ga_sub (lv2 := [(0, .ref p0), (1, .int p1), (2, .int p2)]) [0, 1, 2] rfl ?_
  unfold f_R_moveTable
  refine ga_aload_n (q := 0) d_R_moveTable_0 rfl rfl ?_
  refine ga_getR (C := "LevelStoreModel") (T := T_R) (N := 39) (k := 6) (ci := 6) (fun x h => List.mem_cons_of_mem _ (iw_R x h)) rfl (by decide) (List.mem_cons_of_mem _ gw_767) d_R_moveTable_1 (fun r1 => ?_)
  refine ga_iload_n (q := 1) d_R_moveTable_4 rfl rfl ?_
  refine ga_aload_n (q := 0) d_R_moveTable_5 rfl rfl ?_
  refine ga_getR (C := "LevelStoreModel") (T := T_R) (N := 39) (k := 6) (ci := 6) (fun x h => List.mem_cons_of_mem _ (iw_R x h)) rfl (by decide) (List.mem_cons_of_mem _ gw_767) d_R_moveTable_6 (fun r2 => ?_)
  refine ga_iload_n (q := 2) d_R_moveTable_9 rfl rfl ?_
  refine ga_ldI (t := 0) rfl d_R_moveTable_10 (fun v3 => ?_)
  refine ga_stI (t := 0) rfl d_R_moveTable_11 (fun w4 => ?_)
  refine ga_aload_n (q := 0) d_R_moveTable_12 rfl rfl ?_
  refine ga_getR (C := "LevelStoreModel") (T := T_R) (N := 39) (k := 7) (ci := 6) (fun x h => List.mem_cons_of_mem _ (iw_R x h)) rfl (by decide) (List.mem_cons_of_mem _ gw_768) d_R_moveTable_13 (fun r5 => ?_)
  refine ga_iload_n (q := 1) d_R_moveTable_16 rfl rfl ?_
  refine ga_aload_n (q := 0) d_R_moveTable_17 rfl rfl ?_
  refine ga_getR (C := "LevelStoreModel") (T := T_R) (N := 39) (k := 7) (ci := 6) (fun x h => List.mem_cons_of_mem _ (iw_R x h)) rfl (by decide) (List.mem_cons_of_mem _ gw_768) d_R_moveTable_18 (fun r6 => ?_)
  refine ga_iload_n (q := 2) d_R_moveTable_21 rfl rfl ?_
  refine ga_ldI (t := 0) rfl d_R_moveTable_22 (fun v7 => ?_)
  refine ga_stI (t := 0) rfl d_R_moveTable_23 (fun w8 => ?_)
  refine ga_aload_n (q := 0) d_R_moveTable_24 rfl rfl ?_
  refine ga_getR (C := "LevelStoreModel") (T := T_R) (N := 39) (k := 8) (ci := 6) (fun x h => List.mem_cons_of_mem _ (iw_R x h)) rfl (by decide) (List.mem_cons_of_mem _ gw_769) d_R_moveTable_25 (fun r9 => ?_)
  refine ga_iload_n (q := 1) d_R_moveTable_28 rfl rfl ?_
  refine ga_aload_n (q := 0) d_R_moveTable_29 rfl rfl ?_
  refine ga_getR (C := "LevelStoreModel") (T := T_R) (N := 39) (k := 8) (ci := 6) (fun x h => List.mem_cons_of_mem _ (iw_R x h)) rfl (by decide) (List.mem_cons_of_mem _ gw_769) d_R_moveTable_30 (fun r10 => ?_)
  refine ga_iload_n (q := 2) d_R_moveTable_33 rfl rfl ?_
  refine ga_ldI (t := 0) rfl d_R_moveTable_34 (fun v11 => ?_)
  refine ga_stI (t := 0) rfl d_R_moveTable_35 (fun w12 => ?_)
  refine ga_aload_n (q := 0) d_R_moveTable_36 rfl rfl ?_
  refine ga_getR (C := "LevelStoreModel") (T := T_R) (N := 39) (k := 9) (ci := 6) (fun x h => List.mem_cons_of_mem _ (iw_R x h)) rfl (by decide) (List.mem_cons_of_mem _ gw_770) d_R_moveTable_37 (fun r13 => ?_)
  refine ga_iload_n (q := 1) d_R_moveTable_40 rfl rfl ?_
  refine ga_aload_n (q := 0) d_R_moveTable_41 rfl rfl ?_
  refine ga_getR (C := "LevelStoreModel") (T := T_R) (N := 39) (k := 9) (ci := 6) (fun x h => List.mem_cons_of_mem _ (iw_R x h)) rfl (by decide) (List.mem_cons_of_mem _ gw_770) d_R_moveTable_42 (fun r14 => ?_)
  refine ga_iload_n (q := 2) d_R_moveTable_45 rfl rfl ?_
  refine ga_ldL (t := 2) rfl d_R_moveTable_46 (fun v15 => ?_)
  refine ga_stL (t := 2) rfl d_R_moveTable_47 (fun w16 => ?_)
  exact ga_vret rfl d_R_moveTable_48
noncomputable def f_R_insert_15 (F : Nat) (x0 : Nat) (x1 : Int32) (x2 : Int32) (x3 : Int32) (x4 : Int32) (x5 : Int32) (K39 : ga_W → ga_O) : Nat → Int32 → ga_W → ga_O
  | 0, _, _ => none
  | n + 1, x6, w => (if x6 < x5 then (K39 w) else (if ga_is w 6 x0 = true then ga_c (f_R_moveEntry F x0 (x6 + x4) x6 w) (ga_kV fun w2 => (f_R_insert_15 F x0 x1 x2 x3 x4 x5 K39 n (x6 + (-1 : Int32)) w2)) ga_up else none))
noncomputable def f_R_insert_42 (F : Nat) (x0 : Nat) (x1 : Int32) (x2 : Int32) (x3 : Int32) (x4 : Int32) (x5 : Int32) (K131 : ga_W → ga_O) : Nat → Int32 → ga_W → ga_O
  | 0, _, _ => none
  | n + 1, x6, w => (if x4 ≤ x6 then (K131 w) else ((ga_gr w 6 1 x0).bind fun r2 => ((ga_gr w 6 32 x0).bind fun r3 => ((ga_ai w 0 r3 (x3 + x6)).bind fun v4 => ((ga_si w 0 r2 (x5 + x6) v4).bind fun w5 => ((ga_gr w5 6 2 x0).bind fun r6 => ((ga_gr w5 6 33 x0).bind fun r7 => ((ga_ai w5 0 r7 (x3 + x6)).bind fun v8 => ((ga_si w5 0 r6 (x5 + x6) v8).bind fun w9 => ((ga_gr w9 6 3 x0).bind fun r10 => ((ga_gr w9 6 34 x0).bind fun r11 => ((ga_ai w9 0 r11 (x3 + x6)).bind fun v12 => ((ga_si w9 0 r10 (x5 + x6) v12).bind fun w13 => ((ga_gr w13 6 4 x0).bind fun r14 => ((ga_gr w13 6 35 x0).bind fun r15 => ((ga_az w13 1 r15 (x3 + x6)).bind fun v16 => ((ga_sz w13 1 r14 (x5 + x6) v16).bind fun w17 => (f_R_insert_42 F x0 x1 x2 x3 x4 x5 K131 n (x6 + (1 : Int32)) w17))))))))))))))))))
noncomputable def f_R_insert_150 (F : Nat) (x0 : Nat) (x1 : Int32) (x2 : Int32) (x4 : Int32) (K172 : ga_W → ga_O) : Nat → Int32 → ga_W → ga_O
  | 0, _, _ => none
  | n + 1, x6, w => (if x6 < x1 then (K172 w) else (if ga_is w 6 x0 = true then ga_c (f_R_moveTable F x0 (x6 + (1 : Int32)) x6 w) (ga_kV fun w2 => (f_R_insert_150 F x0 x1 x2 x4 K172 n (x6 + (-1 : Int32)) w2)) ga_up else none))
noncomputable def f_R_insert (F : Nat) (p0 : Nat) (p1 : Int32) (p2 : Int32) (p3 : Int32) (p4 : Int32) (w : ga_W) : ga_O :=
  (if ga_is w 6 p0 = true then ga_c (f_R_start F p0 p1 w) (ga_kI fun v2 w1 => ((ga_gi w1 6 5 p0).bind fun v3 => (f_R_insert_15 F p0 p1 p2 p3 p4 v2 (fun (w4 : ga_W) => (f_R_insert_42 F p0 p1 p2 p3 p4 v2 (fun (w5 : ga_W) => ((ga_gi w5 6 5 p0).bind fun v6 => ((ga_put w5 6 5 p0 (.int (v6 + p4))).bind fun w7 => ((ga_gi w7 6 10 p0).bind fun v8 => (f_R_insert_150 F p0 p1 p2 p4 (fun (w9 : ga_W) => ((ga_gr w9 6 6 p0).bind fun r10 => ((ga_gi w9 6 30 p0).bind fun v11 => ((ga_si w9 0 r10 p1 v11).bind fun w12 => ((ga_gr w12 6 7 p0).bind fun r13 => ((ga_si w12 0 r13 p1 p2).bind fun w14 => ((ga_gr w14 6 8 p0).bind fun r15 => ((ga_si w14 0 r15 p1 p4).bind fun w16 => ((ga_gr w16 6 9 p0).bind fun r17 => ((ga_sl w16 2 r17 p1 (0 : Int64)).bind fun w18 => ((ga_gi w18 6 30 p0).bind fun v19 => ((ga_put w18 6 30 p0 (.int (v19 + (1 : Int32)))).bind fun w20 => ((ga_gi w20 6 10 p0).bind fun v21 => ((ga_put w20 6 10 p0 (.int (v21 + (1 : Int32)))).bind fun w22 => (some (.inl none, w22)))))))))))))))) F (v8 - (1 : Int32)) w7))))) F (0 : Int32) w4)) F (v3 - (1 : Int32)) w1))) ga_up else none)
set_option maxHeartbeats 4000000 in
set_option maxRecDepth 100000 in
theorem h_R_insert_15 (hst : l.stackTraces = false) (F : Nat) (x0 : Nat) (x1 : Int32) (x2 : Int32) (x3 : Int32) (x4 : Int32) (x5 : Int32) (K39 : ga_W → ga_O) (hK39 : ∀ (w : ga_W), ga_J l S0 D gz_cl (gz_tA cT) base b gz_xn p e R s m args below meth c 7 ws_R_insert y_R_insert.cls c_R_insert none [] y_R_insert.name 1 23 true ad0 w0 (ga_MQ gz_xn D gz_cl (gz_tA cT) base b s args below ad0 w0) 39 [(0, .ref x0), (1, .int x1), (2, .int x2), (3, .int x3), (4, .int x4), (5, .int x5)] [] w (K39 w)) : ∀ (n : Nat) (x6 : Int32) (w : ga_W), ga_J l S0 D gz_cl (gz_tA cT) base b gz_xn p e R s m args below meth c 7 ws_R_insert y_R_insert.cls c_R_insert none [] y_R_insert.name 1 23 true ad0 w0 (ga_MQ gz_xn D gz_cl (gz_tA cT) base b s args below ad0 w0) 15 [(0, .ref x0), (1, .int x1), (2, .int x2), (3, .int x3), (4, .int x4), (5, .int x5), (6, .int x6)] [] w (f_R_insert_15 F x0 x1 x2 x3 x4 x5 K39 n x6 w) := by
  intro n
  induction n with
  | zero => intro x6 w; exact ga_no
  | succ n ih =>
    intro x6 w
    rw [f_R_insert_15]
    refine ga_iload (q := 6) d_R_insert_15 rfl ?_
    refine ga_iload (q := 5) d_R_insert_17 rfl ?_
    refine ga_icmp_lt (tgt := 39) d_R_insert_19 (by decide) (fun h1 => ?_) (fun h1 => ?_)
    · refine ga_sub (lv2 := [(0, .ref x0), (1, .int x1), (2, .int x2), (3, .int x3), (4, .int x4), (5, .int x5)]) [0, 1, 2, 3, 4, 5] rfl ?_
      exact hK39  _
    · refine ga_aload_n (q := 0) d_R_insert_22 rfl rfl ?_
      refine ga_iload (q := 6) d_R_insert_23 rfl ?_
      refine ga_iload (q := 4) d_R_insert_25 rfl ?_
      refine ga_iadd d_R_insert_27 ?_
      refine ga_iload (q := 6) d_R_insert_28 rfl ?_
      refine ga_invV (nA := 2) (ci := 6) (T := T_R) (N := 39) (av := [.int (x6 + x4), .int x6]) (a := x0) (st := []) (m_R_moveEntry hst F x0 (x6 + x4) x6 w) (Or.inl rfl) (gz_gV gw_935 gw_937 gw_29 gw_58 gw_938) rfl ⟨rfl, by decide +kernel⟩ rfl (by decide) (by decide) (Nat.le_of_ble_eq_true rfl) rfl d_R_insert_30 (ga_vV (fun w2 => ?_)) (fun _ _ => ga_thru rfl)
      refine ga_iinc (q := 6) (v := (x6 + (-1 : Int32))) (lv2 := [(6, .int (x6 + (-1 : Int32))), (0, .ref x0), (1, .int x1), (2, .int x2), (3, .int x3), (4, .int x4), (5, .int x5)]) d_R_insert_33 rfl rfl (by decide) rfl ?_
      refine ga_goto (tgt := 15) d_R_insert_36 (by decide) ?_
      refine ga_sub (lv2 := [(0, .ref x0), (1, .int x1), (2, .int x2), (3, .int x3), (4, .int x4), (5, .int x5), (6, .int (x6 + (-1 : Int32)))]) [1, 2, 3, 4, 5, 6, 0] rfl ?_
      exact ih _ _
set_option maxHeartbeats 4000000 in
set_option maxRecDepth 100000 in
theorem h_R_insert_42 (hst : l.stackTraces = false) (F : Nat) (x0 : Nat) (x1 : Int32) (x2 : Int32) (x3 : Int32) (x4 : Int32) (x5 : Int32) (K131 : ga_W → ga_O) (hK131 : ∀ (w : ga_W), ga_J l S0 D gz_cl (gz_tA cT) base b gz_xn p e R s m args below meth c 7 ws_R_insert y_R_insert.cls c_R_insert none [] y_R_insert.name 1 23 true ad0 w0 (ga_MQ gz_xn D gz_cl (gz_tA cT) base b s args below ad0 w0) 131 [(0, .ref x0), (1, .int x1), (2, .int x2), (4, .int x4)] [] w (K131 w)) : ∀ (n : Nat) (x6 : Int32) (w : ga_W), ga_J l S0 D gz_cl (gz_tA cT) base b gz_xn p e R s m args below meth c 7 ws_R_insert y_R_insert.cls c_R_insert none [] y_R_insert.name 1 23 true ad0 w0 (ga_MQ gz_xn D gz_cl (gz_tA cT) base b s args below ad0 w0) 42 [(0, .ref x0), (1, .int x1), (2, .int x2), (3, .int x3), (4, .int x4), (5, .int x5), (6, .int x6)] [] w (f_R_insert_42 F x0 x1 x2 x3 x4 x5 K131 n x6 w) := by
  intro n
  induction n with
  | zero => intro x6 w; exact ga_no
  | succ n ih =>
    intro x6 w
    rw [f_R_insert_42]
    refine ga_iload (q := 6) d_R_insert_42 rfl ?_
    refine ga_iload (q := 4) d_R_insert_44 rfl ?_
    refine ga_icmp_ge (tgt := 131) d_R_insert_46 (by decide) (fun h1 => ?_) (fun h1 => ?_)
    · refine ga_sub (lv2 := [(0, .ref x0), (1, .int x1), (2, .int x2), (4, .int x4)]) [0, 1, 2, 4] rfl ?_
      exact hK131  _
    · refine ga_aload_n (q := 0) d_R_insert_49 rfl rfl ?_
      refine ga_getR (C := "LevelStoreModel") (T := T_R) (N := 39) (k := 1) (ci := 6) (fun x h => List.mem_cons_of_mem _ (iw_R x h)) rfl (by decide) (List.mem_cons_of_mem _ gw_762) d_R_insert_50 (fun r2 => ?_)
      refine ga_iload (q := 5) d_R_insert_53 rfl ?_
      refine ga_iload (q := 6) d_R_insert_55 rfl ?_
      refine ga_iadd d_R_insert_57 ?_
      refine ga_aload_n (q := 0) d_R_insert_58 rfl rfl ?_
      refine ga_getR (C := "LevelStoreModel") (T := T_R) (N := 39) (k := 32) (ci := 6) (fun x h => List.mem_cons_of_mem _ (iw_R x h)) rfl (by decide) (List.mem_cons_of_mem _ gw_793) d_R_insert_59 (fun r3 => ?_)
      refine ga_iload_n (q := 3) d_R_insert_62 rfl rfl ?_
      refine ga_iload (q := 6) d_R_insert_63 rfl ?_
      refine ga_iadd d_R_insert_65 ?_
      refine ga_ldI (t := 0) rfl d_R_insert_66 (fun v4 => ?_)
      refine ga_stI (t := 0) rfl d_R_insert_67 (fun w5 => ?_)
      refine ga_aload_n (q := 0) d_R_insert_68 rfl rfl ?_
      refine ga_getR (C := "LevelStoreModel") (T := T_R) (N := 39) (k := 2) (ci := 6) (fun x h => List.mem_cons_of_mem _ (iw_R x h)) rfl (by decide) (List.mem_cons_of_mem _ gw_763) d_R_insert_69 (fun r6 => ?_)
      refine ga_iload (q := 5) d_R_insert_72 rfl ?_
      refine ga_iload (q := 6) d_R_insert_74 rfl ?_
      refine ga_iadd d_R_insert_76 ?_
      refine ga_aload_n (q := 0) d_R_insert_77 rfl rfl ?_
      refine ga_getR (C := "LevelStoreModel") (T := T_R) (N := 39) (k := 33) (ci := 6) (fun x h => List.mem_cons_of_mem _ (iw_R x h)) rfl (by decide) (List.mem_cons_of_mem _ gw_794) d_R_insert_78 (fun r7 => ?_)
      refine ga_iload_n (q := 3) d_R_insert_81 rfl rfl ?_
      refine ga_iload (q := 6) d_R_insert_82 rfl ?_
      refine ga_iadd d_R_insert_84 ?_
      refine ga_ldI (t := 0) rfl d_R_insert_85 (fun v8 => ?_)
      refine ga_stI (t := 0) rfl d_R_insert_86 (fun w9 => ?_)
      refine ga_aload_n (q := 0) d_R_insert_87 rfl rfl ?_
      refine ga_getR (C := "LevelStoreModel") (T := T_R) (N := 39) (k := 3) (ci := 6) (fun x h => List.mem_cons_of_mem _ (iw_R x h)) rfl (by decide) (List.mem_cons_of_mem _ gw_764) d_R_insert_88 (fun r10 => ?_)
      refine ga_iload (q := 5) d_R_insert_91 rfl ?_
      refine ga_iload (q := 6) d_R_insert_93 rfl ?_
      refine ga_iadd d_R_insert_95 ?_
      refine ga_aload_n (q := 0) d_R_insert_96 rfl rfl ?_
      refine ga_getR (C := "LevelStoreModel") (T := T_R) (N := 39) (k := 34) (ci := 6) (fun x h => List.mem_cons_of_mem _ (iw_R x h)) rfl (by decide) (List.mem_cons_of_mem _ gw_795) d_R_insert_97 (fun r11 => ?_)
      refine ga_iload_n (q := 3) d_R_insert_100 rfl rfl ?_
      refine ga_iload (q := 6) d_R_insert_101 rfl ?_
      refine ga_iadd d_R_insert_103 ?_
      refine ga_ldI (t := 0) rfl d_R_insert_104 (fun v12 => ?_)
      refine ga_stI (t := 0) rfl d_R_insert_105 (fun w13 => ?_)
      refine ga_aload_n (q := 0) d_R_insert_106 rfl rfl ?_
      refine ga_getR (C := "LevelStoreModel") (T := T_R) (N := 39) (k := 4) (ci := 6) (fun x h => List.mem_cons_of_mem _ (iw_R x h)) rfl (by decide) (List.mem_cons_of_mem _ gw_765) d_R_insert_107 (fun r14 => ?_)
      refine ga_iload (q := 5) d_R_insert_110 rfl ?_
      refine ga_iload (q := 6) d_R_insert_112 rfl ?_
      refine ga_iadd d_R_insert_114 ?_
      refine ga_aload_n (q := 0) d_R_insert_115 rfl rfl ?_
      refine ga_getR (C := "LevelStoreModel") (T := T_R) (N := 39) (k := 35) (ci := 6) (fun x h => List.mem_cons_of_mem _ (iw_R x h)) rfl (by decide) (List.mem_cons_of_mem _ gw_796) d_R_insert_116 (fun r15 => ?_)
      refine ga_iload_n (q := 3) d_R_insert_119 rfl rfl ?_
      refine ga_iload (q := 6) d_R_insert_120 rfl ?_
      refine ga_iadd d_R_insert_122 ?_
      refine ga_ldZ (t := 1) rfl d_R_insert_123 (fun v16 => ?_)
      refine ga_stZ (t := 1) rfl d_R_insert_124 (fun w17 => ?_)
      refine ga_iinc (q := 6) (v := (x6 + (1 : Int32))) (lv2 := [(6, .int (x6 + (1 : Int32))), (0, .ref x0), (1, .int x1), (2, .int x2), (3, .int x3), (4, .int x4), (5, .int x5)]) d_R_insert_125 rfl rfl (by decide) rfl ?_
      refine ga_goto (tgt := 42) d_R_insert_128 (by decide) ?_
      refine ga_sub (lv2 := [(0, .ref x0), (1, .int x1), (2, .int x2), (3, .int x3), (4, .int x4), (5, .int x5), (6, .int (x6 + (1 : Int32)))]) [1, 2, 3, 4, 5, 6, 0] rfl ?_
      exact ih _ _
set_option maxHeartbeats 4000000 in
set_option maxRecDepth 100000 in
theorem h_R_insert_150 (hst : l.stackTraces = false) (F : Nat) (x0 : Nat) (x1 : Int32) (x2 : Int32) (x4 : Int32) (K172 : ga_W → ga_O) (hK172 : ∀ (w : ga_W), ga_J l S0 D gz_cl (gz_tA cT) base b gz_xn p e R s m args below meth c 7 ws_R_insert y_R_insert.cls c_R_insert none [] y_R_insert.name 1 23 true ad0 w0 (ga_MQ gz_xn D gz_cl (gz_tA cT) base b s args below ad0 w0) 172 [(0, .ref x0), (1, .int x1), (2, .int x2), (4, .int x4)] [] w (K172 w)) : ∀ (n : Nat) (x6 : Int32) (w : ga_W), ga_J l S0 D gz_cl (gz_tA cT) base b gz_xn p e R s m args below meth c 7 ws_R_insert y_R_insert.cls c_R_insert none [] y_R_insert.name 1 23 true ad0 w0 (ga_MQ gz_xn D gz_cl (gz_tA cT) base b s args below ad0 w0) 150 [(0, .ref x0), (1, .int x1), (2, .int x2), (4, .int x4), (6, .int x6)] [] w (f_R_insert_150 F x0 x1 x2 x4 K172 n x6 w) := by
  intro n
  induction n with
  | zero => intro x6 w; exact ga_no
  | succ n ih =>
    intro x6 w
    rw [f_R_insert_150]
    refine ga_iload (q := 4) d_R_insert_150 rfl ?_
    refine ga_iload_n (q := 1) d_R_insert_152 rfl rfl ?_
    refine ga_icmp_lt (tgt := 172) d_R_insert_153 (by decide) (fun h1 => ?_) (fun h1 => ?_)
    · refine ga_sub (lv2 := [(0, .ref x0), (1, .int x1), (2, .int x2), (4, .int x4)]) [0, 1, 2, 3] rfl ?_
      exact hK172  _
    · refine ga_aload_n (q := 0) d_R_insert_156 rfl rfl ?_
      refine ga_iload (q := 4) d_R_insert_157 rfl ?_
      refine ga_iconst (v := (1 : Int32)) d_R_insert_159 (by decide) ?_
      refine ga_iadd d_R_insert_160 ?_
      refine ga_iload (q := 4) d_R_insert_161 rfl ?_
      refine ga_invV (nA := 2) (ci := 6) (T := T_R) (N := 39) (av := [.int (x6 + (1 : Int32)), .int x6]) (a := x0) (st := []) (m_R_moveTable hst F x0 (x6 + (1 : Int32)) x6 w) (Or.inl rfl) (gz_gV gw_939 gw_941 gw_30 gw_58 gw_942) rfl ⟨rfl, by decide +kernel⟩ rfl (by decide) (by decide) (Nat.le_of_ble_eq_true rfl) rfl d_R_insert_163 (ga_vV (fun w2 => ?_)) (fun _ _ => ga_thru rfl)
      refine ga_iinc (q := 4) (v := (x6 + (-1 : Int32))) (lv2 := [(6, .int (x6 + (-1 : Int32))), (0, .ref x0), (1, .int x1), (2, .int x2), (4, .int x4)]) d_R_insert_166 rfl rfl (by decide) rfl ?_
      refine ga_goto (tgt := 150) d_R_insert_169 (by decide) ?_
      refine ga_sub (lv2 := [(0, .ref x0), (1, .int x1), (2, .int x2), (4, .int x4), (6, .int (x6 + (-1 : Int32)))]) [1, 2, 3, 4, 0] rfl ?_
      exact ih _ _
set_option maxHeartbeats 4000000 in
set_option maxRecDepth 100000 in
theorem m_R_insert (hst : l.stackTraces = false) (F : Nat) (p0 : Nat) (p1 : Int32) (p2 : Int32) (p3 : Int32) (p4 : Int32) (w : ga_W) : ga_M l S0 D gz_cl (gz_tA cT) base b gz_xn y_R_insert ws_R_insert 1 23 true [.ref p0, .int p1, .int p2, .int p3, .int p4] w (f_R_insert F p0 p1 p2 p3 p4 w) := by
  refine ga_enter (cc := c_R_insert) (maxL := 7) (ret := none) hst (by decide) rfl (Nat.le_of_ble_eq_true rfl) ?_
  intro p e R s m args below meth c ad0
  refine ga_sub (lv2 := [(0, .ref p0), (1, .int p1), (2, .int p2), (3, .int p3), (4, .int p4)]) [0, 1, 2, 3, 4] rfl ?_
  unfold f_R_insert
  refine ga_aload_n (q := 0) d_R_insert_0 rfl rfl ?_
  refine ga_iload_n (q := 1) d_R_insert_1 rfl rfl ?_
  refine ga_invV (nA := 1) (ci := 6) (T := T_R) (N := 39) (av := [.int p1]) (a := p0) (st := []) (m_R_start hst F p0 p1 w) (Or.inl rfl) (gz_gV gw_931 gw_933 gw_28 gw_58 gw_934) rfl ⟨rfl, by decide +kernel⟩ rfl (by decide) (by decide) (Nat.le_of_ble_eq_true rfl) rfl d_R_insert_2 (ga_vI (fun v2 w1 => ?_)) (fun _ _ => ga_thru rfl)
  refine ga_istore (lv2 := [(5, .int v2), (0, .ref p0), (1, .int p1), (2, .int p2), (3, .int p3), (4, .int p4)]) d_R_insert_5 (by decide) rfl ?_
  refine ga_aload_n (q := 1) d_R_insert_7 rfl rfl ?_
  refine ga_getI (C := "LevelStoreModel") (T := T_R) (N := 39) (k := 5) (ci := 6) (fun x h => List.mem_cons_of_mem _ (iw_R x h)) rfl (by decide) (List.mem_cons_of_mem _ gw_766) d_R_insert_8 (fun v3 => ?_)
  refine ga_iconst (v := (1 : Int32)) d_R_insert_11 (by decide) ?_
  refine ga_isub d_R_insert_12 ?_
  refine ga_istore (lv2 := [(6, .int (v3 - (1 : Int32))), (5, .int v2), (0, .ref p0), (1, .int p1), (2, .int p2), (3, .int p3), (4, .int p4)]) d_R_insert_13 (by decide) rfl ?_
  refine ga_sub (lv2 := [(0, .ref p0), (1, .int p1), (2, .int p2), (3, .int p3), (4, .int p4), (5, .int v2), (6, .int (v3 - (1 : Int32)))]) [2, 3, 4, 5, 6, 1, 0] rfl ?_
  refine h_R_insert_15 hst F p0 p1 p2 p3 p4 v2 _ (fun w4 => ?_) F (v3 - (1 : Int32)) w1
  refine ga_iconst (v := (0 : Int32)) d_R_insert_39 (by decide) ?_
  refine ga_istore (lv2 := [(6, .int (0 : Int32)), (0, .ref p0), (1, .int p1), (2, .int p2), (3, .int p3), (4, .int p4), (5, .int v2)]) d_R_insert_40 (by decide) rfl ?_
  refine ga_sub (lv2 := [(0, .ref p0), (1, .int p1), (2, .int p2), (3, .int p3), (4, .int p4), (5, .int v2), (6, .int (0 : Int32))]) [1, 2, 3, 4, 5, 6, 0] rfl ?_
  refine h_R_insert_42 hst F p0 p1 p2 p3 p4 v2 _ (fun w5 => ?_) F (0 : Int32) w4
  refine ga_aload_n (q := 0) d_R_insert_131 rfl rfl ?_
  refine ga_dup d_R_insert_132 rfl ?_
  refine ga_getI (C := "LevelStoreModel") (T := T_R) (N := 39) (k := 5) (ci := 6) (fun x h => List.mem_cons_of_mem _ (iw_R x h)) rfl (by decide) (List.mem_cons_of_mem _ gw_766) d_R_insert_133 (fun v6 => ?_)
  refine ga_iload (q := 3) d_R_insert_136 rfl ?_
  refine ga_iadd d_R_insert_138 ?_
  refine ga_putB (C := "LevelStoreModel") (T := T_R) (N := 39) (k := 5) (ci := 6) (ty0 := ty_R) (fun x h => List.mem_cons_of_mem _ (iw_R x h)) ty_R_ok nm_R rfl (by decide) (List.mem_cons_of_mem _ gw_766) (Or.inl rfl) (fun _ => ⟨rfl, rfl⟩) d_R_insert_139 (fun w7 => ?_)
  refine ga_aload_n (q := 0) d_R_insert_142 rfl rfl ?_
  refine ga_getI (C := "LevelStoreModel") (T := T_R) (N := 39) (k := 10) (ci := 6) (fun x h => List.mem_cons_of_mem _ (iw_R x h)) rfl (by decide) (List.mem_cons_of_mem _ gw_771) d_R_insert_143 (fun v8 => ?_)
  refine ga_iconst (v := (1 : Int32)) d_R_insert_146 (by decide) ?_
  refine ga_isub d_R_insert_147 ?_
  refine ga_istore (lv2 := [(6, .int (v8 - (1 : Int32))), (0, .ref p0), (1, .int p1), (2, .int p2), (4, .int p4)]) d_R_insert_148 (by decide) rfl ?_
  refine ga_sub (lv2 := [(0, .ref p0), (1, .int p1), (2, .int p2), (4, .int p4), (6, .int (v8 - (1 : Int32)))]) [1, 2, 3, 4, 0] rfl ?_
  refine h_R_insert_150 hst F p0 p1 p2 p4 _ (fun w9 => ?_) F (v8 - (1 : Int32)) w7
  refine ga_aload_n (q := 0) d_R_insert_172 rfl rfl ?_
  refine ga_getR (C := "LevelStoreModel") (T := T_R) (N := 39) (k := 6) (ci := 6) (fun x h => List.mem_cons_of_mem _ (iw_R x h)) rfl (by decide) (List.mem_cons_of_mem _ gw_767) d_R_insert_173 (fun r10 => ?_)
  refine ga_iload_n (q := 1) d_R_insert_176 rfl rfl ?_
  refine ga_aload_n (q := 0) d_R_insert_177 rfl rfl ?_
  refine ga_getI (C := "LevelStoreModel") (T := T_R) (N := 39) (k := 30) (ci := 6) (fun x h => List.mem_cons_of_mem _ (iw_R x h)) rfl (by decide) (List.mem_cons_of_mem _ gw_791) d_R_insert_178 (fun v11 => ?_)
  refine ga_stI (t := 0) rfl d_R_insert_181 (fun w12 => ?_)
  refine ga_aload_n (q := 0) d_R_insert_182 rfl rfl ?_
  refine ga_getR (C := "LevelStoreModel") (T := T_R) (N := 39) (k := 7) (ci := 6) (fun x h => List.mem_cons_of_mem _ (iw_R x h)) rfl (by decide) (List.mem_cons_of_mem _ gw_768) d_R_insert_183 (fun r13 => ?_)
  refine ga_iload_n (q := 1) d_R_insert_186 rfl rfl ?_
  refine ga_iload_n (q := 2) d_R_insert_187 rfl rfl ?_
  refine ga_stI (t := 0) rfl d_R_insert_188 (fun w14 => ?_)
  refine ga_aload_n (q := 0) d_R_insert_189 rfl rfl ?_
  refine ga_getR (C := "LevelStoreModel") (T := T_R) (N := 39) (k := 8) (ci := 6) (fun x h => List.mem_cons_of_mem _ (iw_R x h)) rfl (by decide) (List.mem_cons_of_mem _ gw_769) d_R_insert_190 (fun r15 => ?_)
  refine ga_iload_n (q := 1) d_R_insert_193 rfl rfl ?_
  refine ga_iload (q := 3) d_R_insert_194 rfl ?_
  refine ga_stI (t := 0) rfl d_R_insert_196 (fun w16 => ?_)
  refine ga_aload_n (q := 0) d_R_insert_197 rfl rfl ?_
  refine ga_getR (C := "LevelStoreModel") (T := T_R) (N := 39) (k := 9) (ci := 6) (fun x h => List.mem_cons_of_mem _ (iw_R x h)) rfl (by decide) (List.mem_cons_of_mem _ gw_770) d_R_insert_198 (fun r17 => ?_)
  refine ga_iload_n (q := 1) d_R_insert_201 rfl rfl ?_
  refine ga_lconst (v := (0 : Int64)) d_R_insert_202 (by decide) ?_
  refine ga_stL (t := 2) rfl d_R_insert_203 (fun w18 => ?_)
  refine ga_aload_n (q := 0) d_R_insert_204 rfl rfl ?_
  refine ga_dup d_R_insert_205 rfl ?_
  refine ga_getI (C := "LevelStoreModel") (T := T_R) (N := 39) (k := 30) (ci := 6) (fun x h => List.mem_cons_of_mem _ (iw_R x h)) rfl (by decide) (List.mem_cons_of_mem _ gw_791) d_R_insert_206 (fun v19 => ?_)
  refine ga_iconst (v := (1 : Int32)) d_R_insert_209 (by decide) ?_
  refine ga_iadd d_R_insert_210 ?_
  refine ga_putB (C := "LevelStoreModel") (T := T_R) (N := 39) (k := 30) (ci := 6) (ty0 := ty_R) (fun x h => List.mem_cons_of_mem _ (iw_R x h)) ty_R_ok nm_R rfl (by decide) (List.mem_cons_of_mem _ gw_791) (Or.inl rfl) (fun _ => ⟨rfl, rfl⟩) d_R_insert_211 (fun w20 => ?_)
  refine ga_aload_n (q := 0) d_R_insert_214 rfl rfl ?_
  refine ga_dup d_R_insert_215 rfl ?_
  refine ga_getI (C := "LevelStoreModel") (T := T_R) (N := 39) (k := 10) (ci := 6) (fun x h => List.mem_cons_of_mem _ (iw_R x h)) rfl (by decide) (List.mem_cons_of_mem _ gw_771) d_R_insert_216 (fun v21 => ?_)
  refine ga_iconst (v := (1 : Int32)) d_R_insert_219 (by decide) ?_
  refine ga_iadd d_R_insert_220 ?_
  refine ga_putB (C := "LevelStoreModel") (T := T_R) (N := 39) (k := 10) (ci := 6) (ty0 := ty_R) (fun x h => List.mem_cons_of_mem _ (iw_R x h)) ty_R_ok nm_R rfl (by decide) (List.mem_cons_of_mem _ gw_771) (Or.inl rfl) (fun _ => ⟨rfl, rfl⟩) d_R_insert_221 (fun w22 => ?_)
  exact ga_vret rfl d_R_insert_224
noncomputable def f_R_low (F : Nat) (p0 : Nat) (p1 : Int32) (w : ga_W) : ga_O :=
  ((ga_gr w 6 1 p0).bind fun r1 => (if ga_is w 6 p0 = true then ga_c (f_R_start F p0 p1 w) (ga_kI fun v3 w2 => ((ga_ai w2 0 r1 v3).bind fun v4 => (some (.inl (some (.int v4)), w2)))) ga_up else none))
set_option maxHeartbeats 4000000 in
set_option maxRecDepth 100000 in
theorem m_R_low (hst : l.stackTraces = false) (F : Nat) (p0 : Nat) (p1 : Int32) (w : ga_W) : ga_M l S0 D gz_cl (gz_tA cT) base b gz_xn y_R_low ws_R_low 1 23 true [.ref p0, .int p1] w (f_R_low F p0 p1 w) := by
  refine ga_enter (cc := c_R_low) (maxL := 2) (ret := (some .int)) hst (by decide) rfl (Nat.le_of_ble_eq_true rfl) ?_
  intro p e R s m args below meth c ad0
  refine ga_sub (lv2 := [(0, .ref p0), (1, .int p1)]) [0, 1] rfl ?_
  unfold f_R_low
  refine ga_aload_n (q := 0) d_R_low_0 rfl rfl ?_
  refine ga_getR (C := "LevelStoreModel") (T := T_R) (N := 39) (k := 1) (ci := 6) (fun x h => List.mem_cons_of_mem _ (iw_R x h)) rfl (by decide) (List.mem_cons_of_mem _ gw_762) d_R_low_1 (fun r1 => ?_)
  refine ga_aload_n (q := 0) d_R_low_4 rfl rfl ?_
  refine ga_iload_n (q := 1) d_R_low_5 rfl rfl ?_
  refine ga_invV (nA := 1) (ci := 6) (T := T_R) (N := 39) (av := [.int p1]) (a := p0) (st := [.ref r1]) (m_R_start hst F p0 p1 w) (Or.inl rfl) (gz_gV gw_931 gw_933 gw_28 gw_58 gw_934) rfl ⟨rfl, by decide +kernel⟩ rfl (by decide) (by decide) (Nat.le_of_ble_eq_true rfl) rfl d_R_low_6 (ga_vI (fun v3 w2 => ?_)) (fun _ _ => ga_thru rfl)
  refine ga_ldI (t := 0) rfl d_R_low_9 (fun v4 => ?_)
  exact ga_iret rfl d_R_low_10
noncomputable def f_R_high (F : Nat) (p0 : Nat) (p1 : Int32) (w : ga_W) : ga_O :=
  ((ga_gr w 6 1 p0).bind fun r1 => (if ga_is w 6 p0 = true then ga_c (f_R_start F p0 p1 w) (ga_kI fun v3 w2 => ((ga_gr w2 6 8 p0).bind fun r4 => ((ga_ai w2 0 r4 p1).bind fun v5 => ((ga_ai w2 0 r1 ((v3 + v5) - (1 : Int32))).bind fun v6 => (some (.inl (some (.int v6)), w2)))))) ga_up else none))
set_option maxHeartbeats 4000000 in
set_option maxRecDepth 100000 in
theorem m_R_high (hst : l.stackTraces = false) (F : Nat) (p0 : Nat) (p1 : Int32) (w : ga_W) : ga_M l S0 D gz_cl (gz_tA cT) base b gz_xn y_R_high ws_R_high 1 23 true [.ref p0, .int p1] w (f_R_high F p0 p1 w) := by
  refine ga_enter (cc := c_R_high) (maxL := 2) (ret := (some .int)) hst (by decide) rfl (Nat.le_of_ble_eq_true rfl) ?_
  intro p e R s m args below meth c ad0
  refine ga_sub (lv2 := [(0, .ref p0), (1, .int p1)]) [0, 1] rfl ?_
  unfold f_R_high
  refine ga_aload_n (q := 0) d_R_high_0 rfl rfl ?_
  refine ga_getR (C := "LevelStoreModel") (T := T_R) (N := 39) (k := 1) (ci := 6) (fun x h => List.mem_cons_of_mem _ (iw_R x h)) rfl (by decide) (List.mem_cons_of_mem _ gw_762) d_R_high_1 (fun r1 => ?_)
  refine ga_aload_n (q := 0) d_R_high_4 rfl rfl ?_
  refine ga_iload_n (q := 1) d_R_high_5 rfl rfl ?_
  refine ga_invV (nA := 1) (ci := 6) (T := T_R) (N := 39) (av := [.int p1]) (a := p0) (st := [.ref r1]) (m_R_start hst F p0 p1 w) (Or.inl rfl) (gz_gV gw_931 gw_933 gw_28 gw_58 gw_934) rfl ⟨rfl, by decide +kernel⟩ rfl (by decide) (by decide) (Nat.le_of_ble_eq_true rfl) rfl d_R_high_6 (ga_vI (fun v3 w2 => ?_)) (fun _ _ => ga_thru rfl)
  refine ga_aload_n (q := 0) d_R_high_9 rfl rfl ?_
  refine ga_getR (C := "LevelStoreModel") (T := T_R) (N := 39) (k := 8) (ci := 6) (fun x h => List.mem_cons_of_mem _ (iw_R x h)) rfl (by decide) (List.mem_cons_of_mem _ gw_769) d_R_high_10 (fun r4 => ?_)
  refine ga_iload_n (q := 1) d_R_high_13 rfl rfl ?_
  refine ga_ldI (t := 0) rfl d_R_high_14 (fun v5 => ?_)
  refine ga_iadd d_R_high_15 ?_
  refine ga_iconst (v := (1 : Int32)) d_R_high_16 (by decide) ?_
  refine ga_isub d_R_high_17 ?_
  refine ga_ldI (t := 0) rfl d_R_high_18 (fun v6 => ?_)
  exact ga_iret rfl d_R_high_19
noncomputable def f_R_oldest_7 (F : Nat) (x0 : Nat) : Nat → Int32 → Int32 → ga_W → ga_O
  | 0, _, _, _ => none
  | n + 1, x1, x2, w => (if (4 : Int32) ≤ x2 then (some (.inl (some (.int x1)), w)) else ((ga_gr w 6 23 x0).bind fun r2 => ((ga_ai w 0 r2 x2).bind fun v3 => (if v3 < 0 then (f_R_oldest_7 F x0 n x1 (x2 + (1 : Int32)) w) else ((ga_gr w 6 23 x0).bind fun r5 => ((ga_ai w 0 r5 x2).bind fun v6 => (if x1 ≤ v6 then (f_R_oldest_7 F x0 n x1 (x2 + (1 : Int32)) w) else ((ga_gr w 6 23 x0).bind fun r8 => ((ga_ai w 0 r8 x2).bind fun v9 => (f_R_oldest_7 F x0 n v9 (x2 + (1 : Int32)) w))))))))))
noncomputable def f_R_oldest (F : Nat) (p0 : Nat) (w : ga_W) : ga_O :=
  ((ga_gi w 6 25 p0).bind fun v1 => (f_R_oldest_7 F p0 F v1 (0 : Int32) w))
set_option maxHeartbeats 4000000 in
set_option maxRecDepth 100000 in
theorem h_R_oldest_7 (hst : l.stackTraces = false) (F : Nat) (x0 : Nat) : ∀ (n : Nat) (x1 : Int32) (x2 : Int32) (w : ga_W), ga_J l S0 D gz_cl (gz_tA cT) base b gz_xn p e R s m args below meth c 3 ws_R_oldest y_R_oldest.cls c_R_oldest (some .int) [] y_R_oldest.name 0 0 true ad0 w0 (ga_MQ gz_xn D gz_cl (gz_tA cT) base b s args below ad0 w0) 7 [(0, .ref x0), (1, .int x1), (2, .int x2)] [] w (f_R_oldest_7 F x0 n x1 x2 w) := by
  intro n
  induction n with
  | zero => intro x1 x2 w; exact ga_no
  | succ n ih =>
    intro x1 x2 w
    rw [f_R_oldest_7]
    refine ga_iload_n (q := 2) d_R_oldest_7 rfl rfl ?_
    refine ga_iconst (v := (4 : Int32)) d_R_oldest_8 (by decide) ?_
    refine ga_icmp_ge (tgt := 44) d_R_oldest_9 (by decide) (fun h1 => ?_) (fun h1 => ?_)
    · refine ga_iload_n (q := 1) d_R_oldest_44 rfl rfl ?_
      exact ga_iret rfl d_R_oldest_45
    · refine ga_aload_n (q := 0) d_R_oldest_12 rfl rfl ?_
      refine ga_getR (C := "LevelStoreModel") (T := T_R) (N := 39) (k := 23) (ci := 6) (fun x h => List.mem_cons_of_mem _ (iw_R x h)) rfl (by decide) (List.mem_cons_of_mem _ gw_784) d_R_oldest_13 (fun r2 => ?_)
      refine ga_iload_n (q := 2) d_R_oldest_16 rfl rfl ?_
      refine ga_ldI (t := 0) rfl d_R_oldest_17 (fun v3 => ?_)
      refine ga_if_lt (tgt := 38) d_R_oldest_18 (by decide) (fun h4 => ?_) (fun h4 => ?_)
      · refine ga_iinc (q := 2) (v := (x2 + (1 : Int32))) (lv2 := [(2, .int (x2 + (1 : Int32))), (0, .ref x0), (1, .int x1)]) d_R_oldest_38 rfl rfl (by decide) rfl ?_
        refine ga_goto (tgt := 7) d_R_oldest_41 (by decide) ?_
        refine ga_sub (lv2 := [(0, .ref x0), (1, .int x1), (2, .int (x2 + (1 : Int32)))]) [1, 2, 0] rfl ?_
        exact ih _ _ _
      · refine ga_aload_n (q := 0) d_R_oldest_21 rfl rfl ?_
        refine ga_getR (C := "LevelStoreModel") (T := T_R) (N := 39) (k := 23) (ci := 6) (fun x h => List.mem_cons_of_mem _ (iw_R x h)) rfl (by decide) (List.mem_cons_of_mem _ gw_784) d_R_oldest_22 (fun r5 => ?_)
        refine ga_iload_n (q := 2) d_R_oldest_25 rfl rfl ?_
        refine ga_ldI (t := 0) rfl d_R_oldest_26 (fun v6 => ?_)
        refine ga_iload_n (q := 1) d_R_oldest_27 rfl rfl ?_
        refine ga_icmp_ge (tgt := 38) d_R_oldest_28 (by decide) (fun h7 => ?_) (fun h7 => ?_)
        · refine ga_iinc (q := 2) (v := (x2 + (1 : Int32))) (lv2 := [(2, .int (x2 + (1 : Int32))), (0, .ref x0), (1, .int x1)]) d_R_oldest_38 rfl rfl (by decide) rfl ?_
          refine ga_goto (tgt := 7) d_R_oldest_41 (by decide) ?_
          refine ga_sub (lv2 := [(0, .ref x0), (1, .int x1), (2, .int (x2 + (1 : Int32)))]) [1, 2, 0] rfl ?_
          exact ih _ _ _
        · refine ga_aload_n (q := 0) d_R_oldest_31 rfl rfl ?_
          refine ga_getR (C := "LevelStoreModel") (T := T_R) (N := 39) (k := 23) (ci := 6) (fun x h => List.mem_cons_of_mem _ (iw_R x h)) rfl (by decide) (List.mem_cons_of_mem _ gw_784) d_R_oldest_32 (fun r8 => ?_)
          refine ga_iload_n (q := 2) d_R_oldest_35 rfl rfl ?_
          refine ga_ldI (t := 0) rfl d_R_oldest_36 (fun v9 => ?_)
          refine ga_istore_n (lv2 := [(1, .int v9), (0, .ref x0), (2, .int x2)]) d_R_oldest_37 rfl (by decide) rfl ?_
          refine ga_iinc (q := 2) (v := (x2 + (1 : Int32))) (lv2 := [(2, .int (x2 + (1 : Int32))), (1, .int v9), (0, .ref x0)]) d_R_oldest_38 rfl rfl (by decide) rfl ?_
          refine ga_goto (tgt := 7) d_R_oldest_41 (by decide) ?_
          refine ga_sub (lv2 := [(0, .ref x0), (1, .int v9), (2, .int (x2 + (1 : Int32)))]) [2, 1, 0] rfl ?_
          exact ih _ _ _
set_option maxHeartbeats 4000000 in
set_option maxRecDepth 100000 in
theorem m_R_oldest (hst : l.stackTraces = false) (F : Nat) (p0 : Nat) (w : ga_W) : ga_M l S0 D gz_cl (gz_tA cT) base b gz_xn y_R_oldest ws_R_oldest 0 0 true [.ref p0] w (f_R_oldest F p0 w) := by
  refine ga_enter (cc := c_R_oldest) (maxL := 3) (ret := (some .int)) hst (by decide) rfl (Nat.le_of_ble_eq_true rfl) ?_
  intro p e R s m args below meth c ad0
  refine ga_sub (lv2 := [(0, .ref p0)]) [0] rfl ?_
  unfold f_R_oldest
  refine ga_aload_n (q := 0) d_R_oldest_0 rfl rfl ?_
  refine ga_getI (C := "LevelStoreModel") (T := T_R) (N := 39) (k := 25) (ci := 6) (fun x h => List.mem_cons_of_mem _ (iw_R x h)) rfl (by decide) (List.mem_cons_of_mem _ gw_786) d_R_oldest_1 (fun v1 => ?_)
  refine ga_istore_n (lv2 := [(1, .int v1), (0, .ref p0)]) d_R_oldest_4 rfl (by decide) rfl ?_
  refine ga_iconst (v := (0 : Int32)) d_R_oldest_5 (by decide) ?_
  refine ga_istore_n (lv2 := [(2, .int (0 : Int32)), (1, .int v1), (0, .ref p0)]) d_R_oldest_6 rfl (by decide) rfl ?_
  refine ga_sub (lv2 := [(0, .ref p0), (1, .int v1), (2, .int (0 : Int32))]) [2, 1, 0] rfl ?_
  exact h_R_oldest_7 hst F p0 F v1 (0 : Int32) w
end GM11
