/-! WALKS: L_addToPending, V_isBlocked, M_addRecord, V_addToLevel0, M_clear, L_moveMemoryToLevel0, L_write, L_put, W_put, L_remove -/
section GM5
variable {l : Launch} {S0 : State} {D : va_G} {cT : Nat → ClassId} {base b : Nat} {p : Program} {e : Env} {R : Room} {s : State} {m : MethodId} {args : Array Value} {below : List Frame} {meth : Method} {c : Code} {ad0 : Nat → Nat} {w0 : ga_W}
noncomputable def f_L_addToPending (F : Nat) (p0 : Nat) (p1 : Int32) (p2 : Int32) (p3 : Int32) (w : ga_W) : ga_O :=
  (ga_c (f_L_requireWithin F p1 (0 : Int32) (63 : Int32) w) (ga_kV fun w1 => ((ga_gi w1 5 4 p0).bind fun v2 => (ga_jn (fun  (w6 : ga_W) => ((ga_gr w6 5 2 p0).bind fun r8 => ((ga_gi w6 0 5 r8).bind fun v9 => (if v9 < (4 : Int32) then ((ga_gr w6 5 2 p0).bind fun r11 => (if ga_is w6 0 r11 = true then ga_c (f_E_add F r11 p1 (0 : Int32) p2 p3 w6) (ga_kV fun w12 => (some (.inl none, w12))) ga_up else none)) else (some (.inr 2, w6.1, w6.2.1 + 1, w6.2.2 + 6)))))) (fun K7 => (if v2 = 0 then ((ga_gr w1 5 2 p0).bind fun r14 => ((ga_put w1 0 5 r14 (.int (0 : Int32))).bind fun w15 => (K7 w15))) else (K7 w1)))))) ga_up)
set_option maxHeartbeats 4000000 in
set_option maxRecDepth 100000 in
theorem m_L_addToPending (hst : l.stackTraces = false) (F : Nat) (p0 : Nat) (p1 : Int32) (p2 : Int32) (p3 : Int32) (w : ga_W) : ga_M l S0 D gz_cl (gz_tA cT) base b gz_xn y_L_addToPending ws_L_addToPending 7 111 true [.ref p0, .int p1, .int p2, .int p3] w (f_L_addToPending F p0 p1 p2 p3 w) := by
  refine ga_enter (cc := c_L_addToPending) (maxL := 4) (ret := none) hst (by decide) rfl (Nat.le_of_ble_eq_true rfl) ?_
  intro p e R s m args below meth c ad0
  refine ga_sub (lv2 := [(0, .ref p0), (1, .int p1), (2, .int p2), (3, .int p3)]) [0, 1, 2, 3] rfl ?_
  unfold f_L_addToPending
  refine ga_iload_n (q := 1) d_L_addToPending_0 rfl rfl ?_
  refine ga_iconst (v := (0 : Int32)) d_L_addToPending_1 (by decide) ?_
  refine ga_bipush (v := (63 : Int32)) d_L_addToPending_2 (by decide) ?_
  refine ga_invS (nA := 3) (av := [.int p1, .int (0 : Int32), .int (63 : Int32)]) (st := []) (m_L_requireWithin hst F p1 (0 : Int32) (63 : Int32) w) (Or.inl rfl) (gz_gS gw_413 gw_414 gw_51 gw_415) rfl (by decide +kernel) rfl (by decide) (by decide) (Nat.le_of_ble_eq_true rfl) d_L_addToPending_4 (ga_vV (fun w1 => ?_)) (fun _ _ => ga_thru rfl)
  refine ga_aload_n (q := 0) d_L_addToPending_7 rfl rfl ?_
  refine ga_getI (C := "LevelStore") (T := T_L) (N := 9) (k := 4) (ci := 5) (fun x h => List.mem_cons_of_mem _ (iw_L x h)) rfl (by decide) (List.mem_cons_of_mem _ gw_250) d_L_addToPending_8 (fun v2 => ?_)
  refine ga_join (fun (K7 : ga_W → ga_O) => ∀  (w6 : ga_W), ga_J l S0 D gz_cl (gz_tA cT) base b gz_xn p e R s m args below meth c 4 ws_L_addToPending y_L_addToPending.cls c_L_addToPending none [] y_L_addToPending.name 7 111 true ad0 w (ga_MQ gz_xn D gz_cl (gz_tA cT) base b s args below ad0 w) 22 [(0, .ref p0), (1, .int p1), (2, .int p2), (3, .int p3)] [] w6 (K7 w6)) (fun w6 => ?_) (fun K7 hK7 => ?_)
  · refine ga_aload_n (q := 0) d_L_addToPending_22 rfl rfl ?_
    refine ga_getR (C := "LevelStore") (T := T_L) (N := 9) (k := 2) (ci := 5) (fun x h => List.mem_cons_of_mem _ (iw_L x h)) rfl (by decide) (List.mem_cons_of_mem _ gw_248) d_L_addToPending_23 (fun r8 => ?_)
    refine ga_getI (C := "LevelStore$Entries") (T := T_E) (N := 6) (k := 5) (ci := 0) (fun x h => List.mem_cons_of_mem _ (iw_E x h)) rfl (by decide) (List.mem_cons_of_mem _ gw_114) d_L_addToPending_26 (fun v9 => ?_)
    refine ga_iconst (v := (4 : Int32)) d_L_addToPending_29 (by decide) ?_
    refine ga_icmp_lt (tgt := 41) d_L_addToPending_30 (by decide) (fun h10 => ?_) (fun h10 => ?_)
    · refine ga_aload_n (q := 0) d_L_addToPending_41 rfl rfl ?_
      refine ga_getR (C := "LevelStore") (T := T_L) (N := 9) (k := 2) (ci := 5) (fun x h => List.mem_cons_of_mem _ (iw_L x h)) rfl (by decide) (List.mem_cons_of_mem _ gw_248) d_L_addToPending_42 (fun r11 => ?_)
      refine ga_iload_n (q := 1) d_L_addToPending_45 rfl rfl ?_
      refine ga_iconst (v := (0 : Int32)) d_L_addToPending_46 (by decide) ?_
      refine ga_iload_n (q := 2) d_L_addToPending_47 rfl rfl ?_
      refine ga_iload_n (q := 3) d_L_addToPending_48 rfl rfl ?_
      refine ga_invV (nA := 4) (ci := 0) (T := T_E) (N := 6) (av := [.int p1, .int (0 : Int32), .int p2, .int p3]) (a := r11) (st := []) (m_E_add hst F r11 p1 (0 : Int32) p2 p3 w6) (Or.inl rfl) (gz_gV gw_497 gw_498 gw_499 gw_53 gw_500) rfl ⟨rfl, by decide +kernel⟩ rfl (by decide) (by decide) (Nat.le_of_ble_eq_true rfl) rfl d_L_addToPending_49 (ga_vV (fun w12 => ?_)) (fun _ _ => ga_thru rfl)
      exact ga_vret rfl d_L_addToPending_52
    · exact ga_throw (x := 2) (names := gz_ch) rfl (by decide +kernel) gz_chf gl_482 gl_63 (gz_own2 gl_491) (by decide) (Nat.le_of_ble_eq_true rfl) d_L_addToPending_33 d_L_addToPending_36 d_L_addToPending_37 d_L_addToPending_40
  · refine ga_if_ne (tgt := 22) d_L_addToPending_11 (by decide) (fun h13 => ?_) (fun h13 => ?_)
    · refine ga_aload_n (q := 0) d_L_addToPending_14 rfl rfl ?_
      refine ga_getR (C := "LevelStore") (T := T_L) (N := 9) (k := 2) (ci := 5) (fun x h => List.mem_cons_of_mem _ (iw_L x h)) rfl (by decide) (List.mem_cons_of_mem _ gw_248) d_L_addToPending_15 (fun r14 => ?_)
      refine ga_iconst (v := (0 : Int32)) d_L_addToPending_18 (by decide) ?_
      refine ga_putB (C := "LevelStore$Entries") (T := T_E) (N := 6) (k := 5) (ci := 0) (ty0 := ty_E) (fun x h => List.mem_cons_of_mem _ (iw_E x h)) ty_E_ok nm_E rfl (by decide) (List.mem_cons_of_mem _ gw_114) (Or.inl rfl) (fun _ => ⟨rfl, rfl⟩) d_L_addToPending_19 (fun w15 => ?_)
      exact hK7 _
    · exact hK7 _
noncomputable def f_V_isBlocked (F : Nat) (p0 : Nat) (w : ga_W) : ga_O :=
  ((ga_gi w 1 6 p0).bind fun v1 => (if v1 = 0 then (some (.inl (some (.int (0 : Int32))), w)) else ((ga_gr w 1 0 p0).bind fun r3 => (if ga_is w 3 r3 = true then ga_c (f_S_tablesOn F r3 (0 : Int32) w) (ga_kI fun v5 w4 => (if v5 < (8 : Int32) then (some (.inl (some (.int (0 : Int32))), w4)) else (some (.inl (some (.int (1 : Int32))), w4)))) ga_up else none))))
set_option maxHeartbeats 4000000 in
set_option maxRecDepth 100000 in
theorem m_V_isBlocked (hst : l.stackTraces = false) (F : Nat) (p0 : Nat) (w : ga_W) : ga_M l S0 D gz_cl (gz_tA cT) base b gz_xn y_V_isBlocked ws_V_isBlocked 1 23 true [.ref p0] w (f_V_isBlocked F p0 w) := by
  refine ga_enter (cc := c_V_isBlocked) (maxL := 1) (ret := (some .boolean)) hst (by decide) rfl (Nat.le_of_ble_eq_true rfl) ?_
  intro p e R s m args below meth c ad0
  refine ga_sub (lv2 := [(0, .ref p0)]) [0] rfl ?_
  unfold f_V_isBlocked
  refine ga_aload_n (q := 0) d_V_isBlocked_0 rfl rfl ?_
  refine ga_getI (C := "LevelStore$Levels") (T := T_V) (N := 9) (k := 6) (ci := 1) (fun x h => List.mem_cons_of_mem _ (iw_V x h)) rfl (by decide) (List.mem_cons_of_mem _ gw_216) d_V_isBlocked_1 (fun v1 => ?_)
  refine ga_if_eq (tgt := 24) d_V_isBlocked_4 (by decide) (fun h2 => ?_) (fun h2 => ?_)
  · refine ga_iconst (v := (0 : Int32)) d_V_isBlocked_24 (by decide) ?_
    exact ga_zret rfl rfl d_V_isBlocked_25
  · refine ga_aload_n (q := 0) d_V_isBlocked_7 rfl rfl ?_
    refine ga_getR (C := "LevelStore$Levels") (T := T_V) (N := 9) (k := 0) (ci := 1) (fun x h => List.mem_cons_of_mem _ (iw_V x h)) rfl (by decide) (List.mem_cons_of_mem _ gw_208) d_V_isBlocked_8 (fun r3 => ?_)
    refine ga_iconst (v := (0 : Int32)) d_V_isBlocked_11 (by decide) ?_
    refine ga_invV (nA := 1) (ci := 3) (T := T_S) (N := 5) (av := [.int (0 : Int32)]) (a := r3) (st := []) (m_S_tablesOn hst F r3 (0 : Int32) w) (Or.inl rfl) (gz_gV gw_321 gw_322 gw_323 gw_55 gw_324) rfl ⟨rfl, by decide +kernel⟩ rfl (by decide) (by decide) (Nat.le_of_ble_eq_true rfl) rfl d_V_isBlocked_12 (ga_vI (fun v5 w4 => ?_)) (fun _ _ => ga_thru rfl)
    refine ga_bipush (v := (8 : Int32)) d_V_isBlocked_15 (by decide) ?_
    refine ga_icmp_lt (tgt := 24) d_V_isBlocked_17 (by decide) (fun h6 => ?_) (fun h6 => ?_)
    · refine ga_iconst (v := (0 : Int32)) d_V_isBlocked_24 (by decide) ?_
      exact ga_zret rfl rfl d_V_isBlocked_25
    · refine ga_iconst (v := (1 : Int32)) d_V_isBlocked_20 (by decide) ?_
      refine ga_goto (tgt := 25) d_V_isBlocked_21 (by decide) ?_
      exact ga_zret rfl rfl d_V_isBlocked_25
noncomputable def f_M_addRecord_2 (F : Nat) (x0 : Nat) (x1 : Nat) (x2 : Int32) (K46 : ga_W → ga_O) : Nat → Int32 → ga_W → ga_O
  | 0, _, _ => none
  | n + 1, x3, w => ((ga_gi w 0 5 x1).bind fun v1 => (if v1 ≤ x3 then (K46 w) else ((ga_gr w 2 0 x0).bind fun r3 => ((ga_gr w 0 0 x1).bind fun r4 => ((ga_ai w 0 r4 x3).bind fun v5 => ((ga_gr w 0 2 x1).bind fun r6 => ((ga_ai w 0 r6 x3).bind fun v7 => ((ga_gr w 0 3 x1).bind fun r8 => ((ga_az w 1 r8 x3).bind fun v9 => (if ga_is w 0 r3 = true then ga_c (f_E_add F r3 v5 ((x2 + (1 : Int32)) + x3) v7 v9 w) (ga_kV fun w10 => (f_M_addRecord_2 F x0 x1 x2 K46 n (x3 + (1 : Int32)) w10)) ga_up else none))))))))))
noncomputable def f_M_addRecord (F : Nat) (p0 : Nat) (p1 : Nat) (p2 : Int32) (w : ga_W) : ga_O :=
  (f_M_addRecord_2 F p0 p1 p2 (fun (w1 : ga_W) => ((ga_gi w1 2 2 p0).bind fun v2 => ((ga_put w1 2 2 p0 (.int (v2 + (1 : Int32)))).bind fun w3 => ((ga_gr w3 2 1 p0).bind fun r4 => ((ga_gi w3 2 2 p0).bind fun v5 => ((ga_gr w3 2 0 p0).bind fun r6 => ((ga_gi w3 0 5 r6).bind fun v7 => ((ga_si w3 0 r4 v5 v7).bind fun w8 => (some (.inl none, w8)))))))))) F (0 : Int32) w)
set_option maxHeartbeats 4000000 in
set_option maxRecDepth 100000 in
theorem h_M_addRecord_2 (hst : l.stackTraces = false) (F : Nat) (x0 : Nat) (x1 : Nat) (x2 : Int32) (K46 : ga_W → ga_O) (hK46 : ∀ (w : ga_W), ga_J l S0 D gz_cl (gz_tA cT) base b gz_xn p e R s m args below meth c 4 ws_M_addRecord y_M_addRecord.cls c_M_addRecord none [] y_M_addRecord.name 1 24 true ad0 w0 (ga_MQ gz_xn D gz_cl (gz_tA cT) base b s args below ad0 w0) 46 [(0, .ref x0)] [] w (K46 w)) : ∀ (n : Nat) (x3 : Int32) (w : ga_W), ga_J l S0 D gz_cl (gz_tA cT) base b gz_xn p e R s m args below meth c 4 ws_M_addRecord y_M_addRecord.cls c_M_addRecord none [] y_M_addRecord.name 1 24 true ad0 w0 (ga_MQ gz_xn D gz_cl (gz_tA cT) base b s args below ad0 w0) 2 [(0, .ref x0), (1, .ref x1), (2, .int x2), (3, .int x3)] [] w (f_M_addRecord_2 F x0 x1 x2 K46 n x3 w) := by
  intro n
  induction n with
  | zero => intro x3 w; exact ga_no
  | succ n ih =>
    intro x3 w
    rw [f_M_addRecord_2]
    refine ga_iload_n (q := 3) d_M_addRecord_2 rfl rfl ?_
    refine ga_aload_n (q := 1) d_M_addRecord_3 rfl rfl ?_
    refine ga_getI (C := "LevelStore$Entries") (T := T_E) (N := 6) (k := 5) (ci := 0) (fun x h => List.mem_cons_of_mem _ (iw_E x h)) rfl (by decide) (List.mem_cons_of_mem _ gw_110) d_M_addRecord_4 (fun v1 => ?_)
    refine ga_icmp_ge (tgt := 46) d_M_addRecord_7 (by decide) (fun h2 => ?_) (fun h2 => ?_)
    · refine ga_sub (lv2 := [(0, .ref x0)]) [0] rfl ?_
      exact hK46  _
    · refine ga_aload_n (q := 0) d_M_addRecord_10 rfl rfl ?_
      refine ga_getR (C := "LevelStore$Memory") (T := T_M) (N := 4) (k := 0) (ci := 2) (fun x h => List.mem_cons_of_mem _ (iw_M x h)) rfl (by decide) (List.mem_cons_of_mem _ gw_131) d_M_addRecord_11 (fun r3 => ?_)
      refine ga_aload_n (q := 1) d_M_addRecord_14 rfl rfl ?_
      refine ga_getR (C := "LevelStore$Entries") (T := T_E) (N := 6) (k := 0) (ci := 0) (fun x h => List.mem_cons_of_mem _ (iw_E x h)) rfl (by decide) (List.mem_cons_of_mem _ gw_90) d_M_addRecord_15 (fun r4 => ?_)
      refine ga_iload_n (q := 3) d_M_addRecord_18 rfl rfl ?_
      refine ga_ldI (t := 0) rfl d_M_addRecord_19 (fun v5 => ?_)
      refine ga_iload_n (q := 2) d_M_addRecord_20 rfl rfl ?_
      refine ga_iconst (v := (1 : Int32)) d_M_addRecord_21 (by decide) ?_
      refine ga_iadd d_M_addRecord_22 ?_
      refine ga_iload_n (q := 3) d_M_addRecord_23 rfl rfl ?_
      refine ga_iadd d_M_addRecord_24 ?_
      refine ga_aload_n (q := 1) d_M_addRecord_25 rfl rfl ?_
      refine ga_getR (C := "LevelStore$Entries") (T := T_E) (N := 6) (k := 2) (ci := 0) (fun x h => List.mem_cons_of_mem _ (iw_E x h)) rfl (by decide) (List.mem_cons_of_mem _ gw_100) d_M_addRecord_26 (fun r6 => ?_)
      refine ga_iload_n (q := 3) d_M_addRecord_29 rfl rfl ?_
      refine ga_ldI (t := 0) rfl d_M_addRecord_30 (fun v7 => ?_)
      refine ga_aload_n (q := 1) d_M_addRecord_31 rfl rfl ?_
      refine ga_getR (C := "LevelStore$Entries") (T := T_E) (N := 6) (k := 3) (ci := 0) (fun x h => List.mem_cons_of_mem _ (iw_E x h)) rfl (by decide) (List.mem_cons_of_mem _ gw_103) d_M_addRecord_32 (fun r8 => ?_)
      refine ga_iload_n (q := 3) d_M_addRecord_35 rfl rfl ?_
      refine ga_ldZ (t := 1) rfl d_M_addRecord_36 (fun v9 => ?_)
      refine ga_invV (nA := 4) (ci := 0) (T := T_E) (N := 6) (av := [.int v5, .int ((x2 + (1 : Int32)) + x3), .int v7, .int v9]) (a := r3) (st := []) (m_E_add hst F r3 v5 ((x2 + (1 : Int32)) + x3) v7 v9 w) (Or.inl rfl) (gz_gV gw_528 gw_498 gw_499 gw_53 gw_500) rfl ⟨rfl, by decide +kernel⟩ rfl (by decide) (by decide) (Nat.le_of_ble_eq_true rfl) rfl d_M_addRecord_37 (ga_vV (fun w10 => ?_)) (fun _ _ => ga_thru rfl)
      refine ga_iinc (q := 3) (v := (x3 + (1 : Int32))) (lv2 := [(3, .int (x3 + (1 : Int32))), (0, .ref x0), (1, .ref x1), (2, .int x2)]) d_M_addRecord_40 rfl rfl (by decide) rfl ?_
      refine ga_goto (tgt := 2) d_M_addRecord_43 (by decide) ?_
      refine ga_sub (lv2 := [(0, .ref x0), (1, .ref x1), (2, .int x2), (3, .int (x3 + (1 : Int32)))]) [1, 2, 3, 0] rfl ?_
      exact ih _ _
set_option maxHeartbeats 4000000 in
set_option maxRecDepth 100000 in
theorem m_M_addRecord (hst : l.stackTraces = false) (F : Nat) (p0 : Nat) (p1 : Nat) (p2 : Int32) (w : ga_W) : ga_M l S0 D gz_cl (gz_tA cT) base b gz_xn y_M_addRecord ws_M_addRecord 1 24 true [.ref p0, .ref p1, .int p2] w (f_M_addRecord F p0 p1 p2 w) := by
  refine ga_enter (cc := c_M_addRecord) (maxL := 4) (ret := none) hst (by decide) rfl (Nat.le_of_ble_eq_true rfl) ?_
  intro p e R s m args below meth c ad0
  refine ga_sub (lv2 := [(0, .ref p0), (1, .ref p1), (2, .int p2)]) [0, 1, 2] rfl ?_
  unfold f_M_addRecord
  refine ga_iconst (v := (0 : Int32)) d_M_addRecord_0 (by decide) ?_
  refine ga_istore_n (lv2 := [(3, .int (0 : Int32)), (0, .ref p0), (1, .ref p1), (2, .int p2)]) d_M_addRecord_1 rfl (by decide) rfl ?_
  refine ga_sub (lv2 := [(0, .ref p0), (1, .ref p1), (2, .int p2), (3, .int (0 : Int32))]) [1, 2, 3, 0] rfl ?_
  refine h_M_addRecord_2 hst F p0 p1 p2 _ (fun w1 => ?_) F (0 : Int32) w
  refine ga_aload_n (q := 0) d_M_addRecord_46 rfl rfl ?_
  refine ga_dup d_M_addRecord_47 rfl ?_
  refine ga_getI (C := "LevelStore$Memory") (T := T_M) (N := 4) (k := 2) (ci := 2) (fun x h => List.mem_cons_of_mem _ (iw_M x h)) rfl (by decide) (List.mem_cons_of_mem _ gw_134) d_M_addRecord_48 (fun v2 => ?_)
  refine ga_iconst (v := (1 : Int32)) d_M_addRecord_51 (by decide) ?_
  refine ga_iadd d_M_addRecord_52 ?_
  refine ga_putB (C := "LevelStore$Memory") (T := T_M) (N := 4) (k := 2) (ci := 2) (ty0 := ty_M) (fun x h => List.mem_cons_of_mem _ (iw_M x h)) ty_M_ok nm_M rfl (by decide) (List.mem_cons_of_mem _ gw_134) (Or.inl rfl) (fun _ => ⟨rfl, rfl⟩) d_M_addRecord_53 (fun w3 => ?_)
  refine ga_aload_n (q := 0) d_M_addRecord_56 rfl rfl ?_
  refine ga_getR (C := "LevelStore$Memory") (T := T_M) (N := 4) (k := 1) (ci := 2) (fun x h => List.mem_cons_of_mem _ (iw_M x h)) rfl (by decide) (List.mem_cons_of_mem _ gw_133) d_M_addRecord_57 (fun r4 => ?_)
  refine ga_aload_n (q := 0) d_M_addRecord_60 rfl rfl ?_
  refine ga_getI (C := "LevelStore$Memory") (T := T_M) (N := 4) (k := 2) (ci := 2) (fun x h => List.mem_cons_of_mem _ (iw_M x h)) rfl (by decide) (List.mem_cons_of_mem _ gw_134) d_M_addRecord_61 (fun v5 => ?_)
  refine ga_aload_n (q := 0) d_M_addRecord_64 rfl rfl ?_
  refine ga_getR (C := "LevelStore$Memory") (T := T_M) (N := 4) (k := 0) (ci := 2) (fun x h => List.mem_cons_of_mem _ (iw_M x h)) rfl (by decide) (List.mem_cons_of_mem _ gw_131) d_M_addRecord_65 (fun r6 => ?_)
  refine ga_getI (C := "LevelStore$Entries") (T := T_E) (N := 6) (k := 5) (ci := 0) (fun x h => List.mem_cons_of_mem _ (iw_E x h)) rfl (by decide) (List.mem_cons_of_mem _ gw_110) d_M_addRecord_68 (fun v7 => ?_)
  refine ga_stI (t := 0) rfl d_M_addRecord_71 (fun w8 => ?_)
  exact ga_vret rfl d_M_addRecord_72
noncomputable def f_V_addToLevel0_18 (F : Nat) (x0 : Nat) (x1 : Nat) (K40 : ga_W → ga_O) : Nat → Int32 → ga_W → ga_O
  | 0, _, _ => none
  | n + 1, x2, w => (if x2 < 0 then (K40 w) else ((ga_gr w 1 2 x0).bind fun r2 => ((ga_gr w 4 0 r2).bind fun r3 => (if ga_is w 0 r3 = true then ga_c (f_E_addFrom F r3 x1 x2 w) (ga_kV fun w4 => (f_V_addToLevel0_18 F x0 x1 K40 n (x2 + (-1 : Int32)) w4)) ga_up else none))))
noncomputable def f_V_addToLevel0_68 (F : Nat) (x0 : Nat) : Nat → Int32 → ga_W → ga_O
  | 0, _, _ => none
  | n + 1, x2, w => ((ga_gr w 1 0 x0).bind fun r1 => ((ga_gi w 3 4 r1).bind fun v2 => (if v2 ≤ x2 then (if ga_is w 1 x0 = true then ga_c (f_V_changeShelf F x0 w) (ga_kV fun w4 => (some (.inl none, w4))) ga_up else none) else ((ga_gr w 1 1 x0).bind fun r5 => ((ga_gr w 1 0 x0).bind fun r6 => (if ga_is w 3 r5 = true then ga_c (f_S_addTable F r5 r6 x2 w) (ga_kV fun w7 => (f_V_addToLevel0_68 F x0 n (x2 + (1 : Int32)) w7)) ga_up else none))))))
noncomputable def f_V_addToLevel0 (F : Nat) (p0 : Nat) (p1 : Nat) (w : ga_W) : ga_O :=
  ((ga_gr w 1 2 p0).bind fun r1 => ((ga_gr w 4 0 r1).bind fun r2 => ((ga_put w 0 5 r2 (.int (0 : Int32))).bind fun w3 => ((ga_gi w3 0 5 p1).bind fun v4 => (f_V_addToLevel0_18 F p0 p1 (fun (w5 : ga_W) => ((ga_gr w5 1 1 p0).bind fun r6 => (if ga_is w5 3 r6 = true then ga_c (f_S_clear F r6 w5) (ga_kV fun w7 => ((ga_gr w7 1 2 p0).bind fun r8 => ((ga_gr w7 1 1 p0).bind fun r9 => ((ga_gr w7 3 0 r9).bind fun r10 => (if ga_is w7 4 r8 = true then ga_c (f_O_addSorted F r8 r10 w7) (ga_kV fun w11 => (if ga_is w11 1 p0 = true then ga_c (f_V_endNewTable F p0 (0 : Int32) w11) (ga_kV fun w12 => (f_V_addToLevel0_68 F p0 F (0 : Int32) w12)) ga_up else none)) ga_up else none))))) ga_up else none))) F (v4 - (1 : Int32)) w3)))))
set_option maxHeartbeats 4000000 in
set_option maxRecDepth 100000 in
theorem h_V_addToLevel0_18 (hst : l.stackTraces = false) (F : Nat) (x0 : Nat) (x1 : Nat) (K40 : ga_W → ga_O) (hK40 : ∀ (w : ga_W), ga_J l S0 D gz_cl (gz_tA cT) base b gz_xn p e R s m args below meth c 3 ws_V_addToLevel0 y_V_addToLevel0.cls c_V_addToLevel0 none [] y_V_addToLevel0.name 2 46 true ad0 w0 (ga_MQ gz_xn D gz_cl (gz_tA cT) base b s args below ad0 w0) 40 [(0, .ref x0)] [] w (K40 w)) : ∀ (n : Nat) (x2 : Int32) (w : ga_W), ga_J l S0 D gz_cl (gz_tA cT) base b gz_xn p e R s m args below meth c 3 ws_V_addToLevel0 y_V_addToLevel0.cls c_V_addToLevel0 none [] y_V_addToLevel0.name 2 46 true ad0 w0 (ga_MQ gz_xn D gz_cl (gz_tA cT) base b s args below ad0 w0) 18 [(0, .ref x0), (1, .ref x1), (2, .int x2)] [] w (f_V_addToLevel0_18 F x0 x1 K40 n x2 w) := by
  intro n
  induction n with
  | zero => intro x2 w; exact ga_no
  | succ n ih =>
    intro x2 w
    rw [f_V_addToLevel0_18]
    refine ga_iload_n (q := 2) d_V_addToLevel0_18 rfl rfl ?_
    refine ga_if_lt (tgt := 40) d_V_addToLevel0_19 (by decide) (fun h1 => ?_) (fun h1 => ?_)
    · refine ga_sub (lv2 := [(0, .ref x0)]) [0] rfl ?_
      exact hK40  _
    · refine ga_aload_n (q := 0) d_V_addToLevel0_22 rfl rfl ?_
      refine ga_getR (C := "LevelStore$Levels") (T := T_V) (N := 9) (k := 2) (ci := 1) (fun x h => List.mem_cons_of_mem _ (iw_V x h)) rfl (by decide) (List.mem_cons_of_mem _ gw_211) d_V_addToLevel0_23 (fun r2 => ?_)
      refine ga_getR (C := "LevelStore$Sorter") (T := T_O) (N := 3) (k := 0) (ci := 4) (fun x h => List.mem_cons_of_mem _ (iw_O x h)) rfl (by decide) (List.mem_cons_of_mem _ gw_196) d_V_addToLevel0_26 (fun r3 => ?_)
      refine ga_aload_n (q := 1) d_V_addToLevel0_29 rfl rfl ?_
      refine ga_iload_n (q := 2) d_V_addToLevel0_30 rfl rfl ?_
      refine ga_invV (nA := 2) (ci := 0) (T := T_E) (N := 6) (av := [.ref x1, .int x2]) (a := r3) (st := []) (m_E_addFrom hst F r3 x1 x2 w) (Or.inl rfl) (gz_gV gw_290 gw_291 gw_292 gw_53 gw_293) rfl ⟨rfl, by decide +kernel⟩ rfl (by decide) (by decide) (Nat.le_of_ble_eq_true rfl) rfl d_V_addToLevel0_31 (ga_vV (fun w4 => ?_)) (fun _ _ => ga_thru rfl)
      refine ga_iinc (q := 2) (v := (x2 + (-1 : Int32))) (lv2 := [(2, .int (x2 + (-1 : Int32))), (0, .ref x0), (1, .ref x1)]) d_V_addToLevel0_34 rfl rfl (by decide) rfl ?_
      refine ga_goto (tgt := 18) d_V_addToLevel0_37 (by decide) ?_
      refine ga_sub (lv2 := [(0, .ref x0), (1, .ref x1), (2, .int (x2 + (-1 : Int32)))]) [1, 2, 0] rfl ?_
      exact ih _ _
set_option maxHeartbeats 4000000 in
set_option maxRecDepth 100000 in
theorem h_V_addToLevel0_68 (hst : l.stackTraces = false) (F : Nat) (x0 : Nat) : ∀ (n : Nat) (x2 : Int32) (w : ga_W), ga_J l S0 D gz_cl (gz_tA cT) base b gz_xn p e R s m args below meth c 3 ws_V_addToLevel0 y_V_addToLevel0.cls c_V_addToLevel0 none [] y_V_addToLevel0.name 2 46 true ad0 w0 (ga_MQ gz_xn D gz_cl (gz_tA cT) base b s args below ad0 w0) 68 [(0, .ref x0), (2, .int x2)] [] w (f_V_addToLevel0_68 F x0 n x2 w) := by
  intro n
  induction n with
  | zero => intro x2 w; exact ga_no
  | succ n ih =>
    intro x2 w
    rw [f_V_addToLevel0_68]
    refine ga_iload_n (q := 1) d_V_addToLevel0_68 rfl rfl ?_
    refine ga_aload_n (q := 0) d_V_addToLevel0_69 rfl rfl ?_
    refine ga_getR (C := "LevelStore$Levels") (T := T_V) (N := 9) (k := 0) (ci := 1) (fun x h => List.mem_cons_of_mem _ (iw_V x h)) rfl (by decide) (List.mem_cons_of_mem _ gw_208) d_V_addToLevel0_70 (fun r1 => ?_)
    refine ga_getI (C := "LevelStore$Shelf") (T := T_S) (N := 5) (k := 4) (ci := 3) (fun x h => List.mem_cons_of_mem _ (iw_S x h)) rfl (by decide) (List.mem_cons_of_mem _ gw_174) d_V_addToLevel0_73 (fun v2 => ?_)
    refine ga_icmp_ge (tgt := 97) d_V_addToLevel0_76 (by decide) (fun h3 => ?_) (fun h3 => ?_)
    · refine ga_aload_n (q := 0) d_V_addToLevel0_97 rfl rfl ?_
      refine ga_invV (nA := 0) (ci := 1) (T := T_V) (N := 9) (av := []) (a := x0) (st := []) (m_V_changeShelf hst F x0 w) (Or.inl rfl) (gz_gV gw_302 gw_304 gw_0 gw_54 gw_305) rfl ⟨rfl, by decide +kernel⟩ rfl (by decide) (by decide) (Nat.le_of_ble_eq_true rfl) rfl d_V_addToLevel0_98 (ga_vV (fun w4 => ?_)) (fun _ _ => ga_thru rfl)
      exact ga_vret rfl d_V_addToLevel0_101
    · refine ga_aload_n (q := 0) d_V_addToLevel0_79 rfl rfl ?_
      refine ga_getR (C := "LevelStore$Levels") (T := T_V) (N := 9) (k := 1) (ci := 1) (fun x h => List.mem_cons_of_mem _ (iw_V x h)) rfl (by decide) (List.mem_cons_of_mem _ gw_210) d_V_addToLevel0_80 (fun r5 => ?_)
      refine ga_aload_n (q := 0) d_V_addToLevel0_83 rfl rfl ?_
      refine ga_getR (C := "LevelStore$Levels") (T := T_V) (N := 9) (k := 0) (ci := 1) (fun x h => List.mem_cons_of_mem _ (iw_V x h)) rfl (by decide) (List.mem_cons_of_mem _ gw_208) d_V_addToLevel0_84 (fun r6 => ?_)
      refine ga_iload_n (q := 1) d_V_addToLevel0_87 rfl rfl ?_
      refine ga_invV (nA := 2) (ci := 3) (T := T_S) (N := 5) (av := [.ref r6, .int x2]) (a := r5) (st := []) (m_S_addTable hst F r5 r6 x2 w) (Or.inl rfl) (gz_gV gw_373 gw_374 gw_375 gw_55 gw_376) rfl ⟨rfl, by decide +kernel⟩ rfl (by decide) (by decide) (Nat.le_of_ble_eq_true rfl) rfl d_V_addToLevel0_88 (ga_vV (fun w7 => ?_)) (fun _ _ => ga_thru rfl)
      refine ga_iinc (q := 1) (v := (x2 + (1 : Int32))) (lv2 := [(2, .int (x2 + (1 : Int32))), (0, .ref x0)]) d_V_addToLevel0_91 rfl rfl (by decide) rfl ?_
      refine ga_goto (tgt := 68) d_V_addToLevel0_94 (by decide) ?_
      refine ga_sub (lv2 := [(0, .ref x0), (2, .int (x2 + (1 : Int32)))]) [1, 0] rfl ?_
      exact ih _ _
set_option maxHeartbeats 4000000 in
set_option maxRecDepth 100000 in
theorem m_V_addToLevel0 (hst : l.stackTraces = false) (F : Nat) (p0 : Nat) (p1 : Nat) (w : ga_W) : ga_M l S0 D gz_cl (gz_tA cT) base b gz_xn y_V_addToLevel0 ws_V_addToLevel0 2 46 true [.ref p0, .ref p1] w (f_V_addToLevel0 F p0 p1 w) := by
  refine ga_enter (cc := c_V_addToLevel0) (maxL := 3) (ret := none) hst (by decide) rfl (Nat.le_of_ble_eq_true rfl) ?_
  intro p e R s m args below meth c ad0
  refine ga_sub (lv2 := [(0, .ref p0), (1, .ref p1)]) [0, 1] rfl ?_
  unfold f_V_addToLevel0
  refine ga_aload_n (q := 0) d_V_addToLevel0_0 rfl rfl ?_
  refine ga_getR (C := "LevelStore$Levels") (T := T_V) (N := 9) (k := 2) (ci := 1) (fun x h => List.mem_cons_of_mem _ (iw_V x h)) rfl (by decide) (List.mem_cons_of_mem _ gw_211) d_V_addToLevel0_1 (fun r1 => ?_)
  refine ga_getR (C := "LevelStore$Sorter") (T := T_O) (N := 3) (k := 0) (ci := 4) (fun x h => List.mem_cons_of_mem _ (iw_O x h)) rfl (by decide) (List.mem_cons_of_mem _ gw_196) d_V_addToLevel0_4 (fun r2 => ?_)
  refine ga_iconst (v := (0 : Int32)) d_V_addToLevel0_7 (by decide) ?_
  refine ga_putB (C := "LevelStore$Entries") (T := T_E) (N := 6) (k := 5) (ci := 0) (ty0 := ty_E) (fun x h => List.mem_cons_of_mem _ (iw_E x h)) ty_E_ok nm_E rfl (by decide) (List.mem_cons_of_mem _ gw_115) (Or.inl rfl) (fun _ => ⟨rfl, rfl⟩) d_V_addToLevel0_8 (fun w3 => ?_)
  refine ga_aload_n (q := 1) d_V_addToLevel0_11 rfl rfl ?_
  refine ga_getI (C := "LevelStore$Entries") (T := T_E) (N := 6) (k := 5) (ci := 0) (fun x h => List.mem_cons_of_mem _ (iw_E x h)) rfl (by decide) (List.mem_cons_of_mem _ gw_115) d_V_addToLevel0_12 (fun v4 => ?_)
  refine ga_iconst (v := (1 : Int32)) d_V_addToLevel0_15 (by decide) ?_
  refine ga_isub d_V_addToLevel0_16 ?_
  refine ga_istore_n (lv2 := [(2, .int (v4 - (1 : Int32))), (0, .ref p0), (1, .ref p1)]) d_V_addToLevel0_17 rfl (by decide) rfl ?_
  refine ga_sub (lv2 := [(0, .ref p0), (1, .ref p1), (2, .int (v4 - (1 : Int32)))]) [1, 2, 0] rfl ?_
  refine h_V_addToLevel0_18 hst F p0 p1 _ (fun w5 => ?_) F (v4 - (1 : Int32)) w3
  refine ga_aload_n (q := 0) d_V_addToLevel0_40 rfl rfl ?_
  refine ga_getR (C := "LevelStore$Levels") (T := T_V) (N := 9) (k := 1) (ci := 1) (fun x h => List.mem_cons_of_mem _ (iw_V x h)) rfl (by decide) (List.mem_cons_of_mem _ gw_210) d_V_addToLevel0_41 (fun r6 => ?_)
  refine ga_invV (nA := 0) (ci := 3) (T := T_S) (N := 5) (av := []) (a := r6) (st := []) (m_S_clear hst F r6 w5) (Or.inl rfl) (gz_gV gw_286 gw_287 gw_288 gw_55 gw_289) rfl ⟨rfl, by decide +kernel⟩ rfl (by decide) (by decide) (Nat.le_of_ble_eq_true rfl) rfl d_V_addToLevel0_44 (ga_vV (fun w7 => ?_)) (fun _ _ => ga_thru rfl)
  refine ga_aload_n (q := 0) d_V_addToLevel0_47 rfl rfl ?_
  refine ga_getR (C := "LevelStore$Levels") (T := T_V) (N := 9) (k := 2) (ci := 1) (fun x h => List.mem_cons_of_mem _ (iw_V x h)) rfl (by decide) (List.mem_cons_of_mem _ gw_211) d_V_addToLevel0_48 (fun r8 => ?_)
  refine ga_aload_n (q := 0) d_V_addToLevel0_51 rfl rfl ?_
  refine ga_getR (C := "LevelStore$Levels") (T := T_V) (N := 9) (k := 1) (ci := 1) (fun x h => List.mem_cons_of_mem _ (iw_V x h)) rfl (by decide) (List.mem_cons_of_mem _ gw_210) d_V_addToLevel0_52 (fun r9 => ?_)
  refine ga_getR (C := "LevelStore$Shelf") (T := T_S) (N := 5) (k := 0) (ci := 3) (fun x h => List.mem_cons_of_mem _ (iw_S x h)) rfl (by decide) (List.mem_cons_of_mem _ gw_162) d_V_addToLevel0_55 (fun r10 => ?_)
  refine ga_invV (nA := 1) (ci := 4) (T := T_O) (N := 3) (av := [.ref r10]) (a := r8) (st := []) (m_O_addSorted hst F r8 r10 w7) (Or.inl rfl) (gz_gV gw_359 gw_360 gw_361 gw_56 gw_362) rfl ⟨rfl, by decide +kernel⟩ rfl (by decide) (by decide) (Nat.le_of_ble_eq_true rfl) rfl d_V_addToLevel0_58 (ga_vV (fun w11 => ?_)) (fun _ _ => ga_thru rfl)
  refine ga_aload_n (q := 0) d_V_addToLevel0_61 rfl rfl ?_
  refine ga_iconst (v := (0 : Int32)) d_V_addToLevel0_62 (by decide) ?_
  refine ga_invV (nA := 1) (ci := 1) (T := T_V) (N := 9) (av := [.int (0 : Int32)]) (a := p0) (st := []) (m_V_endNewTable hst F p0 (0 : Int32) w11) (Or.inl rfl) (gz_gV gw_395 gw_397 gw_9 gw_54 gw_398) rfl ⟨rfl, by decide +kernel⟩ rfl (by decide) (by decide) (Nat.le_of_ble_eq_true rfl) rfl d_V_addToLevel0_63 (ga_vV (fun w12 => ?_)) (fun _ _ => ga_thru rfl)
  refine ga_iconst (v := (0 : Int32)) d_V_addToLevel0_66 (by decide) ?_
  refine ga_istore_n (lv2 := [(2, .int (0 : Int32)), (0, .ref p0)]) d_V_addToLevel0_67 rfl (by decide) rfl ?_
  refine ga_sub (lv2 := [(0, .ref p0), (2, .int (0 : Int32))]) [1, 0] rfl ?_
  exact h_V_addToLevel0_68 hst F p0 F (0 : Int32) w12
noncomputable def f_M_clear (F : Nat) (p0 : Nat) (w : ga_W) : ga_O :=
  ((ga_gr w 2 0 p0).bind fun r1 => ((ga_put w 0 5 r1 (.int (0 : Int32))).bind fun w2 => ((ga_put w2 2 2 p0 (.int (0 : Int32))).bind fun w3 => ((ga_put w3 2 3 p0 (.int (0 : Int32))).bind fun w4 => (some (.inl none, w4))))))
set_option maxHeartbeats 4000000 in
set_option maxRecDepth 100000 in
theorem m_M_clear (hst : l.stackTraces = false) (F : Nat) (p0 : Nat) (w : ga_W) : ga_M l S0 D gz_cl (gz_tA cT) base b gz_xn y_M_clear ws_M_clear 0 0 true [.ref p0] w (f_M_clear F p0 w) := by
  refine ga_enter (cc := c_M_clear) (maxL := 1) (ret := none) hst (by decide) rfl (Nat.le_of_ble_eq_true rfl) ?_
  intro p e R s m args below meth c ad0
  refine ga_sub (lv2 := [(0, .ref p0)]) [0] rfl ?_
  unfold f_M_clear
  refine ga_aload_n (q := 0) d_M_clear_0 rfl rfl ?_
  refine ga_getR (C := "LevelStore$Memory") (T := T_M) (N := 4) (k := 0) (ci := 2) (fun x h => List.mem_cons_of_mem _ (iw_M x h)) rfl (by decide) (List.mem_cons_of_mem _ gw_131) d_M_clear_1 (fun r1 => ?_)
  refine ga_iconst (v := (0 : Int32)) d_M_clear_4 (by decide) ?_
  refine ga_putB (C := "LevelStore$Entries") (T := T_E) (N := 6) (k := 5) (ci := 0) (ty0 := ty_E) (fun x h => List.mem_cons_of_mem _ (iw_E x h)) ty_E_ok nm_E rfl (by decide) (List.mem_cons_of_mem _ gw_110) (Or.inl rfl) (fun _ => ⟨rfl, rfl⟩) d_M_clear_5 (fun w2 => ?_)
  refine ga_aload_n (q := 0) d_M_clear_8 rfl rfl ?_
  refine ga_iconst (v := (0 : Int32)) d_M_clear_9 (by decide) ?_
  refine ga_putB (C := "LevelStore$Memory") (T := T_M) (N := 4) (k := 2) (ci := 2) (ty0 := ty_M) (fun x h => List.mem_cons_of_mem _ (iw_M x h)) ty_M_ok nm_M rfl (by decide) (List.mem_cons_of_mem _ gw_134) (Or.inl rfl) (fun _ => ⟨rfl, rfl⟩) d_M_clear_10 (fun w3 => ?_)
  refine ga_aload_n (q := 0) d_M_clear_13 rfl rfl ?_
  refine ga_iconst (v := (0 : Int32)) d_M_clear_14 (by decide) ?_
  refine ga_putB (C := "LevelStore$Memory") (T := T_M) (N := 4) (k := 3) (ci := 2) (ty0 := ty_M) (fun x h => List.mem_cons_of_mem _ (iw_M x h)) ty_M_ok nm_M rfl (by decide) (List.mem_cons_of_mem _ gw_136) (Or.inl rfl) (fun _ => ⟨rfl, rfl⟩) d_M_clear_15 (fun w4 => ?_)
  exact ga_vret rfl d_M_clear_18
noncomputable def f_L_moveMemoryToLevel0 (F : Nat) (p0 : Nat) (w : ga_W) : ga_O :=
  ((ga_gr w 5 1 p0).bind fun r1 => ((ga_gr w 5 0 p0).bind fun r2 => ((ga_gr w 2 0 r2).bind fun r3 => (if ga_is w 1 r1 = true then ga_c (f_V_addToLevel0 F r1 r3 w) (ga_kV fun w4 => ((ga_gr w4 5 0 p0).bind fun r5 => (if ga_is w4 2 r5 = true then ga_c (f_M_clear F r5 w4) (ga_kV fun w6 => (some (.inl none, w6))) ga_up else none))) ga_up else none))))
set_option maxHeartbeats 4000000 in
set_option maxRecDepth 100000 in
theorem m_L_moveMemoryToLevel0 (hst : l.stackTraces = false) (F : Nat) (p0 : Nat) (w : ga_W) : ga_M l S0 D gz_cl (gz_tA cT) base b gz_xn y_L_moveMemoryToLevel0 ws_L_moveMemoryToLevel0 3 68 true [.ref p0] w (f_L_moveMemoryToLevel0 F p0 w) := by
  refine ga_enter (cc := c_L_moveMemoryToLevel0) (maxL := 1) (ret := none) hst (by decide) rfl (Nat.le_of_ble_eq_true rfl) ?_
  intro p e R s m args below meth c ad0
  refine ga_sub (lv2 := [(0, .ref p0)]) [0] rfl ?_
  unfold f_L_moveMemoryToLevel0
  refine ga_aload_n (q := 0) d_L_moveMemoryToLevel0_0 rfl rfl ?_
  refine ga_getR (C := "LevelStore") (T := T_L) (N := 9) (k := 1) (ci := 5) (fun x h => List.mem_cons_of_mem _ (iw_L x h)) rfl (by decide) (List.mem_cons_of_mem _ gw_247) d_L_moveMemoryToLevel0_1 (fun r1 => ?_)
  refine ga_aload_n (q := 0) d_L_moveMemoryToLevel0_4 rfl rfl ?_
  refine ga_getR (C := "LevelStore") (T := T_L) (N := 9) (k := 0) (ci := 5) (fun x h => List.mem_cons_of_mem _ (iw_L x h)) rfl (by decide) (List.mem_cons_of_mem _ gw_246) d_L_moveMemoryToLevel0_5 (fun r2 => ?_)
  refine ga_getR (C := "LevelStore$Memory") (T := T_M) (N := 4) (k := 0) (ci := 2) (fun x h => List.mem_cons_of_mem _ (iw_M x h)) rfl (by decide) (List.mem_cons_of_mem _ gw_132) d_L_moveMemoryToLevel0_8 (fun r3 => ?_)
  refine ga_invV (nA := 1) (ci := 1) (T := T_V) (N := 9) (av := [.ref r3]) (a := r1) (st := []) (m_V_addToLevel0 hst F r1 r3 w) (Or.inl rfl) (gz_gV gw_533 gw_534 gw_535 gw_54 gw_536) rfl ⟨rfl, by decide +kernel⟩ rfl (by decide) (by decide) (Nat.le_of_ble_eq_true rfl) rfl d_L_moveMemoryToLevel0_11 (ga_vV (fun w4 => ?_)) (fun _ _ => ga_thru rfl)
  refine ga_aload_n (q := 0) d_L_moveMemoryToLevel0_14 rfl rfl ?_
  refine ga_getR (C := "LevelStore") (T := T_L) (N := 9) (k := 0) (ci := 5) (fun x h => List.mem_cons_of_mem _ (iw_L x h)) rfl (by decide) (List.mem_cons_of_mem _ gw_246) d_L_moveMemoryToLevel0_15 (fun r5 => ?_)
  refine ga_invV (nA := 0) (ci := 2) (T := T_M) (N := 4) (av := []) (a := r5) (st := []) (m_M_clear hst F r5 w4) (Or.inl rfl) (gz_gV gw_537 gw_538 gw_539 gw_52 gw_540) rfl ⟨rfl, by decide +kernel⟩ rfl (by decide) (by decide) (Nat.le_of_ble_eq_true rfl) rfl d_L_moveMemoryToLevel0_18 (ga_vV (fun w6 => ?_)) (fun _ _ => ga_thru rfl)
  exact ga_vret rfl d_L_moveMemoryToLevel0_21
noncomputable def f_L_write (F : Nat) (p0 : Nat) (w : ga_W) : ga_O :=
  ((ga_gr w 5 0 p0).bind fun r1 => ((ga_gr w 2 0 r1).bind fun r2 => ((ga_gi w 0 5 r2).bind fun v3 => ((ga_gr w 5 1 p0).bind fun r4 => ((ga_gr w 1 0 r4).bind fun r5 => ((ga_gr w 3 0 r5).bind fun r6 => ((ga_gi w 0 5 r6).bind fun v7 => ((ga_gr w 5 2 p0).bind fun r8 => ((ga_gi w 0 5 r8).bind fun v9 => (if (240 : Int32) < ((v3 + v7) + v9) then (some (.inr 1, w.1, w.2.1 + 1, w.2.2 + 6)) else ((ga_gr w 5 1 p0).bind fun r11 => (if ga_is w 1 r11 = true then ga_c (f_V_isBlocked F r11 w) (ga_kI fun v13 w12 => (if v13 = 0 then ((ga_gr w12 5 0 p0).bind fun r15 => ((ga_gr w12 5 2 p0).bind fun r16 => ((ga_gi w12 5 5 p0).bind fun v17 => (if ga_is w12 2 r15 = true then ga_c (f_M_addRecord F r15 r16 v17 w12) (ga_kV fun w18 => ((ga_gi w18 5 5 p0).bind fun v19 => ((ga_gr w18 5 2 p0).bind fun r20 => ((ga_gi w18 0 5 r20).bind fun v21 => ((ga_put w18 5 5 p0 (.int (v19 + v21))).bind fun w22 => ((ga_gr w22 5 0 p0).bind fun r23 => ((ga_gr w22 2 0 r23).bind fun r24 => ((ga_gi w22 0 5 r24).bind fun v25 => (if v25 < (8 : Int32) then ((ga_gi w22 5 5 p0).bind fun v27 => (some (.inl (some (.int v27)), w22))) else (if ga_is w22 5 p0 = true then ga_c (f_L_moveMemoryToLevel0 F p0 w22) (ga_kV fun w28 => ((ga_gr w28 5 1 p0).bind fun r29 => (if ga_is w28 5 p0 = true then ga_c (f_L_oldest F p0 w28) (ga_kI fun v31 w30 => (if ga_is w30 1 r29 = true then ga_c (f_V_tidy F r29 v31 w30) (ga_kV fun w32 => ((ga_gi w32 5 5 p0).bind fun v33 => (some (.inl (some (.int v33)), w32)))) ga_up else none)) ga_up else none))) ga_up else none)))))))))) ga_up else none)))) else (some (.inr 1, w12.1, w12.2.1 + 1, w12.2.2 + 6)))) ga_up else none))))))))))))
set_option maxHeartbeats 4000000 in
set_option maxRecDepth 100000 in
theorem m_L_write (hst : l.stackTraces = false) (F : Nat) (p0 : Nat) (w : ga_W) : ga_M l S0 D gz_cl (gz_tA cT) base b gz_xn y_L_write ws_L_write 6 125 true [.ref p0] w (f_L_write F p0 w) := by
  refine ga_enter (cc := c_L_write) (maxL := 2) (ret := (some .int)) hst (by decide) rfl (Nat.le_of_ble_eq_true rfl) ?_
  intro p e R s m args below meth c ad0
  refine ga_sub (lv2 := [(0, .ref p0)]) [0] rfl ?_
  unfold f_L_write
  refine ga_aload_n (q := 0) d_L_write_0 rfl rfl ?_
  refine ga_getR (C := "LevelStore") (T := T_L) (N := 9) (k := 0) (ci := 5) (fun x h => List.mem_cons_of_mem _ (iw_L x h)) rfl (by decide) (List.mem_cons_of_mem _ gw_246) d_L_write_1 (fun r1 => ?_)
  refine ga_getR (C := "LevelStore$Memory") (T := T_M) (N := 4) (k := 0) (ci := 2) (fun x h => List.mem_cons_of_mem _ (iw_M x h)) rfl (by decide) (List.mem_cons_of_mem _ gw_132) d_L_write_4 (fun r2 => ?_)
  refine ga_getI (C := "LevelStore$Entries") (T := T_E) (N := 6) (k := 5) (ci := 0) (fun x h => List.mem_cons_of_mem _ (iw_E x h)) rfl (by decide) (List.mem_cons_of_mem _ gw_114) d_L_write_7 (fun v3 => ?_)
  refine ga_aload_n (q := 0) d_L_write_10 rfl rfl ?_
  refine ga_getR (C := "LevelStore") (T := T_L) (N := 9) (k := 1) (ci := 5) (fun x h => List.mem_cons_of_mem _ (iw_L x h)) rfl (by decide) (List.mem_cons_of_mem _ gw_247) d_L_write_11 (fun r4 => ?_)
  refine ga_getR (C := "LevelStore$Levels") (T := T_V) (N := 9) (k := 0) (ci := 1) (fun x h => List.mem_cons_of_mem _ (iw_V x h)) rfl (by decide) (List.mem_cons_of_mem _ gw_209) d_L_write_14 (fun r5 => ?_)
  refine ga_getR (C := "LevelStore$Shelf") (T := T_S) (N := 5) (k := 0) (ci := 3) (fun x h => List.mem_cons_of_mem _ (iw_S x h)) rfl (by decide) (List.mem_cons_of_mem _ gw_163) d_L_write_17 (fun r6 => ?_)
  refine ga_getI (C := "LevelStore$Entries") (T := T_E) (N := 6) (k := 5) (ci := 0) (fun x h => List.mem_cons_of_mem _ (iw_E x h)) rfl (by decide) (List.mem_cons_of_mem _ gw_114) d_L_write_20 (fun v7 => ?_)
  refine ga_iadd d_L_write_23 ?_
  refine ga_aload_n (q := 0) d_L_write_24 rfl rfl ?_
  refine ga_getR (C := "LevelStore") (T := T_L) (N := 9) (k := 2) (ci := 5) (fun x h => List.mem_cons_of_mem _ (iw_L x h)) rfl (by decide) (List.mem_cons_of_mem _ gw_248) d_L_write_25 (fun r8 => ?_)
  refine ga_getI (C := "LevelStore$Entries") (T := T_E) (N := 6) (k := 5) (ci := 0) (fun x h => List.mem_cons_of_mem _ (iw_E x h)) rfl (by decide) (List.mem_cons_of_mem _ gw_114) d_L_write_28 (fun v9 => ?_)
  refine ga_iadd d_L_write_31 ?_
  refine ga_istore_n (lv2 := [(1, .int ((v3 + v7) + v9)), (0, .ref p0)]) d_L_write_32 rfl (by decide) rfl ?_
  refine ga_iload_n (q := 0) d_L_write_33 rfl rfl ?_
  refine ga_sipush (v := (240 : Int32)) d_L_write_34 (by decide) ?_
  refine ga_icmp_gt (tgt := 50) d_L_write_37 (by decide) (fun h10 => ?_) (fun h10 => ?_)
  · exact ga_throw (x := 1) (names := gz_ch) rfl (by decide +kernel) gz_chf gl_509 gl_64 (gz_own1 gl_518) (by decide) (Nat.le_of_ble_eq_true rfl) d_L_write_50 d_L_write_53 d_L_write_54 d_L_write_57
  · refine ga_aload_n (q := 1) d_L_write_40 rfl rfl ?_
    refine ga_getR (C := "LevelStore") (T := T_L) (N := 9) (k := 1) (ci := 5) (fun x h => List.mem_cons_of_mem _ (iw_L x h)) rfl (by decide) (List.mem_cons_of_mem _ gw_247) d_L_write_41 (fun r11 => ?_)
    refine ga_invV (nA := 0) (ci := 1) (T := T_V) (N := 9) (av := []) (a := r11) (st := []) (m_V_isBlocked hst F r11 w) (Or.inl rfl) (gz_gV gw_505 gw_506 gw_507 gw_54 gw_508) rfl ⟨rfl, by decide +kernel⟩ rfl (by decide) (by decide) (Nat.le_of_ble_eq_true rfl) rfl d_L_write_44 (ga_vI (fun v13 w12 => ?_)) (fun _ _ => ga_thru rfl)
    refine ga_if_eq (tgt := 58) d_L_write_47 (by decide) (fun h14 => ?_) (fun h14 => ?_)
    · refine ga_aload_n (q := 1) d_L_write_58 rfl rfl ?_
      refine ga_getR (C := "LevelStore") (T := T_L) (N := 9) (k := 0) (ci := 5) (fun x h => List.mem_cons_of_mem _ (iw_L x h)) rfl (by decide) (List.mem_cons_of_mem _ gw_246) d_L_write_59 (fun r15 => ?_)
      refine ga_aload_n (q := 1) d_L_write_62 rfl rfl ?_
      refine ga_getR (C := "LevelStore") (T := T_L) (N := 9) (k := 2) (ci := 5) (fun x h => List.mem_cons_of_mem _ (iw_L x h)) rfl (by decide) (List.mem_cons_of_mem _ gw_248) d_L_write_63 (fun r16 => ?_)
      refine ga_aload_n (q := 1) d_L_write_66 rfl rfl ?_
      refine ga_getI (C := "LevelStore") (T := T_L) (N := 9) (k := 5) (ci := 5) (fun x h => List.mem_cons_of_mem _ (iw_L x h)) rfl (by decide) (List.mem_cons_of_mem _ gw_251) d_L_write_67 (fun v17 => ?_)
      refine ga_invV (nA := 2) (ci := 2) (T := T_M) (N := 4) (av := [.ref r16, .int v17]) (a := r15) (st := []) (m_M_addRecord hst F r15 r16 v17 w12) (Or.inl rfl) (gz_gV gw_524 gw_525 gw_526 gw_52 gw_527) rfl ⟨rfl, by decide +kernel⟩ rfl (by decide) (by decide) (Nat.le_of_ble_eq_true rfl) rfl d_L_write_70 (ga_vV (fun w18 => ?_)) (fun _ _ => ga_thru rfl)
      refine ga_aload_n (q := 1) d_L_write_73 rfl rfl ?_
      refine ga_dup d_L_write_74 rfl ?_
      refine ga_getI (C := "LevelStore") (T := T_L) (N := 9) (k := 5) (ci := 5) (fun x h => List.mem_cons_of_mem _ (iw_L x h)) rfl (by decide) (List.mem_cons_of_mem _ gw_251) d_L_write_75 (fun v19 => ?_)
      refine ga_aload_n (q := 1) d_L_write_78 rfl rfl ?_
      refine ga_getR (C := "LevelStore") (T := T_L) (N := 9) (k := 2) (ci := 5) (fun x h => List.mem_cons_of_mem _ (iw_L x h)) rfl (by decide) (List.mem_cons_of_mem _ gw_248) d_L_write_79 (fun r20 => ?_)
      refine ga_getI (C := "LevelStore$Entries") (T := T_E) (N := 6) (k := 5) (ci := 0) (fun x h => List.mem_cons_of_mem _ (iw_E x h)) rfl (by decide) (List.mem_cons_of_mem _ gw_114) d_L_write_82 (fun v21 => ?_)
      refine ga_iadd d_L_write_85 ?_
      refine ga_putB (C := "LevelStore") (T := T_L) (N := 9) (k := 5) (ci := 5) (ty0 := ty_L) (fun x h => List.mem_cons_of_mem _ (iw_L x h)) ty_L_ok nm_L rfl (by decide) (List.mem_cons_of_mem _ gw_251) (Or.inl rfl) (fun _ => ⟨rfl, rfl⟩) d_L_write_86 (fun w22 => ?_)
      refine ga_aload_n (q := 1) d_L_write_89 rfl rfl ?_
      refine ga_getR (C := "LevelStore") (T := T_L) (N := 9) (k := 0) (ci := 5) (fun x h => List.mem_cons_of_mem _ (iw_L x h)) rfl (by decide) (List.mem_cons_of_mem _ gw_246) d_L_write_90 (fun r23 => ?_)
      refine ga_getR (C := "LevelStore$Memory") (T := T_M) (N := 4) (k := 0) (ci := 2) (fun x h => List.mem_cons_of_mem _ (iw_M x h)) rfl (by decide) (List.mem_cons_of_mem _ gw_132) d_L_write_93 (fun r24 => ?_)
      refine ga_getI (C := "LevelStore$Entries") (T := T_E) (N := 6) (k := 5) (ci := 0) (fun x h => List.mem_cons_of_mem _ (iw_E x h)) rfl (by decide) (List.mem_cons_of_mem _ gw_114) d_L_write_96 (fun v25 => ?_)
      refine ga_bipush (v := (8 : Int32)) d_L_write_99 (by decide) ?_
      refine ga_icmp_lt (tgt := 119) d_L_write_101 (by decide) (fun h26 => ?_) (fun h26 => ?_)
      · refine ga_aload_n (q := 1) d_L_write_119 rfl rfl ?_
        refine ga_getI (C := "LevelStore") (T := T_L) (N := 9) (k := 5) (ci := 5) (fun x h => List.mem_cons_of_mem _ (iw_L x h)) rfl (by decide) (List.mem_cons_of_mem _ gw_251) d_L_write_120 (fun v27 => ?_)
        exact ga_iret rfl d_L_write_123
      · refine ga_aload_n (q := 1) d_L_write_104 rfl rfl ?_
        refine ga_invV (nA := 0) (ci := 5) (T := T_L) (N := 9) (av := []) (a := p0) (st := []) (m_L_moveMemoryToLevel0 hst F p0 w22) (Or.inl rfl) (gz_gV gw_529 gw_531 gw_13 gw_51 gw_532) rfl ⟨rfl, by decide +kernel⟩ rfl (by decide) (by decide) (Nat.le_of_ble_eq_true rfl) rfl d_L_write_105 (ga_vV (fun w28 => ?_)) (fun _ _ => ga_thru rfl)
        refine ga_aload_n (q := 1) d_L_write_108 rfl rfl ?_
        refine ga_getR (C := "LevelStore") (T := T_L) (N := 9) (k := 1) (ci := 5) (fun x h => List.mem_cons_of_mem _ (iw_L x h)) rfl (by decide) (List.mem_cons_of_mem _ gw_247) d_L_write_109 (fun r29 => ?_)
        refine ga_aload_n (q := 1) d_L_write_112 rfl rfl ?_
        refine ga_invV (nA := 0) (ci := 5) (T := T_L) (N := 9) (av := []) (a := p0) (st := [.ref r29]) (m_L_oldest hst F p0 w28) (Or.inl rfl) (gz_gV gw_306 gw_308 gw_1 gw_51 gw_309) rfl ⟨rfl, by decide +kernel⟩ rfl (by decide) (by decide) (Nat.le_of_ble_eq_true rfl) rfl d_L_write_113 (ga_vI (fun v31 w30 => ?_)) (fun _ _ => ga_thru rfl)
        refine ga_invV (nA := 1) (ci := 1) (T := T_V) (N := 9) (av := [.int v31]) (a := r29) (st := []) (m_V_tidy hst F r29 v31 w30) (Or.inl rfl) (gz_gV gw_313 gw_314 gw_315 gw_54 gw_316) rfl ⟨rfl, by decide +kernel⟩ rfl (by decide) (by decide) (Nat.le_of_ble_eq_true rfl) rfl d_L_write_116 (ga_vV (fun w32 => ?_)) (fun _ _ => ga_thru rfl)
        refine ga_aload_n (q := 1) d_L_write_119 rfl rfl ?_
        refine ga_getI (C := "LevelStore") (T := T_L) (N := 9) (k := 5) (ci := 5) (fun x h => List.mem_cons_of_mem _ (iw_L x h)) rfl (by decide) (List.mem_cons_of_mem _ gw_251) d_L_write_120 (fun v33 => ?_)
        exact ga_iret rfl d_L_write_123
    · exact ga_throw (x := 1) (names := gz_ch) rfl (by decide +kernel) gz_chf gl_509 gl_64 (gz_own1 gl_518) (by decide) (Nat.le_of_ble_eq_true rfl) d_L_write_50 d_L_write_53 d_L_write_54 d_L_write_57
noncomputable def f_L_put (F : Nat) (p0 : Nat) (p1 : Int32) (p2 : Int32) (w : ga_W) : ga_O :=
  (if ga_is w 5 p0 = true then ga_c (f_L_addToPending F p0 p1 p2 (0 : Int32) w) (ga_kV fun w1 => ((ga_gi w1 5 4 p0).bind fun v2 => (if v2 = 0 then (if ga_is w1 5 p0 = true then ga_c (f_L_write F p0 w1) (ga_kI fun v5 w4 => (some (.inl (some (.int v5)), w4))) ga_up else none) else ((ga_gr w1 5 2 p0).bind fun r6 => ((ga_gi w1 0 5 r6).bind fun v7 => (some (.inl (some (.int v7)), w1))))))) ga_up else none)
set_option maxHeartbeats 4000000 in
set_option maxRecDepth 100000 in
theorem m_L_put (hst : l.stackTraces = false) (F : Nat) (p0 : Nat) (p1 : Int32) (p2 : Int32) (w : ga_W) : ga_M l S0 D gz_cl (gz_tA cT) base b gz_xn y_L_put ws_L_put 8 146 true [.ref p0, .int p1, .int p2] w (f_L_put F p0 p1 p2 w) := by
  refine ga_enter (cc := c_L_put) (maxL := 3) (ret := (some .int)) hst (by decide) rfl (Nat.le_of_ble_eq_true rfl) ?_
  intro p e R s m args below meth c ad0
  refine ga_sub (lv2 := [(0, .ref p0), (1, .int p1), (2, .int p2)]) [0, 1, 2] rfl ?_
  unfold f_L_put
  refine ga_aload_n (q := 0) d_L_put_0 rfl rfl ?_
  refine ga_iload_n (q := 1) d_L_put_1 rfl rfl ?_
  refine ga_iload_n (q := 2) d_L_put_2 rfl rfl ?_
  refine ga_iconst (v := (0 : Int32)) d_L_put_3 (by decide) ?_
  refine ga_invV (nA := 3) (ci := 5) (T := T_L) (N := 9) (av := [.int p1, .int p2, .int (0 : Int32)]) (a := p0) (st := []) (m_L_addToPending hst F p0 p1 p2 (0 : Int32) w) (Or.inl rfl) (gz_gV gw_409 gw_411 gw_10 gw_51 gw_412) rfl ⟨rfl, by decide +kernel⟩ rfl (by decide) (by decide) (Nat.le_of_ble_eq_true rfl) rfl d_L_put_4 (ga_vV (fun w1 => ?_)) (fun _ _ => ga_thru rfl)
  refine ga_aload_n (q := 0) d_L_put_7 rfl rfl ?_
  refine ga_getI (C := "LevelStore") (T := T_L) (N := 9) (k := 4) (ci := 5) (fun x h => List.mem_cons_of_mem _ (iw_L x h)) rfl (by decide) (List.mem_cons_of_mem _ gw_250) d_L_put_8 (fun v2 => ?_)
  refine ga_if_eq (tgt := 24) d_L_put_11 (by decide) (fun h3 => ?_) (fun h3 => ?_)
  · refine ga_aload_n (q := 0) d_L_put_24 rfl rfl ?_
    refine ga_invV (nA := 0) (ci := 5) (T := T_L) (N := 9) (av := []) (a := p0) (st := []) (m_L_write hst F p0 w1) (Or.inl rfl) (gz_gV gw_501 gw_503 gw_12 gw_51 gw_504) rfl ⟨rfl, by decide +kernel⟩ rfl (by decide) (by decide) (Nat.le_of_ble_eq_true rfl) rfl d_L_put_25 (ga_vI (fun v5 w4 => ?_)) (fun _ _ => ga_thru rfl)
    exact ga_iret rfl d_L_put_28
  · refine ga_aload_n (q := 0) d_L_put_14 rfl rfl ?_
    refine ga_getR (C := "LevelStore") (T := T_L) (N := 9) (k := 2) (ci := 5) (fun x h => List.mem_cons_of_mem _ (iw_L x h)) rfl (by decide) (List.mem_cons_of_mem _ gw_248) d_L_put_15 (fun r6 => ?_)
    refine ga_getI (C := "LevelStore$Entries") (T := T_E) (N := 6) (k := 5) (ci := 0) (fun x h => List.mem_cons_of_mem _ (iw_E x h)) rfl (by decide) (List.mem_cons_of_mem _ gw_114) d_L_put_18 (fun v7 => ?_)
    refine ga_goto (tgt := 28) d_L_put_21 (by decide) ?_
    exact ga_iret rfl d_L_put_28
noncomputable def f_W_put (F : Nat) (p0 : Nat) (p1 : Int32) (p2 : Int32) (p3 : Nat) (w : ga_W) : ga_O :=
  (if ga_is w 5 p0 = true then ga_c (f_L_put F p0 p1 p2 w) (ga_kI fun v2 w1 => ((ga_sl w1 2 p3 (0 : Int32) (Int32.toInt64 v2)).bind fun w3 => (some (.inl (some (.int (0 : Int32))), w3)))) (fun x5 w4 => (if x5 = 0 then (some (.inl (some (.int (1 : Int32))), w4)) else (if x5 = 1 then (some (.inl (some (.int (2 : Int32))), w4)) else (if x5 = 2 then (some (.inl (some (.int (3 : Int32))), w4)) else none)))) else none)
set_option maxHeartbeats 4000000 in
set_option maxRecDepth 100000 in
theorem m_W_put (hst : l.stackTraces = false) (F : Nat) (p0 : Nat) (p1 : Int32) (p2 : Int32) (p3 : Nat) (w : ga_W) : ga_M l S0 D gz_cl (gz_tA cT) base b gz_xn y_W_put ws_W_put 9 168 true [.ref p0, .int p1, .int p2, .ref p3] w (f_W_put F p0 p1 p2 p3 w) := by
  refine ga_enterH (hh := [(0, 10, 13, 13), (0, 10, 17, 15), (0, 10, 21, 17)]) (cc := c_W_put) (maxL := 5) (ret := (some .int)) hst (by decide) rfl (Nat.le_of_ble_eq_true rfl) ?_
  intro p e R s m args below meth c ad0
  refine ga_sub (lv2 := [(0, .ref p0), (1, .int p1), (2, .int p2), (3, .ref p3)]) [0, 1, 2, 3] rfl ?_
  unfold f_W_put
  refine ga_aload_n (q := 3) d_W_put_0 rfl rfl ?_
  refine ga_iconst (v := (0 : Int32)) d_W_put_1 (by decide) ?_
  refine ga_aload_n (q := 0) d_W_put_2 rfl rfl ?_
  refine ga_iload_n (q := 1) d_W_put_3 rfl rfl ?_
  refine ga_iload_n (q := 2) d_W_put_4 rfl rfl ?_
  refine ga_invV (nA := 2) (ci := 5) (T := T_L) (N := 9) (av := [.int p1, .int p2]) (a := p0) (st := [.int (0 : Int32), .ref p3]) (m_L_put hst F p0 p1 p2 w) (Or.inl rfl) (gz_gV gw_405 gw_406 gw_407 gw_51 gw_408) rfl ⟨rfl, by decide +kernel⟩ rfl (by decide) (by decide) (Nat.le_of_ble_eq_true rfl) rfl d_W_put_5 (ga_vI (fun v2 w1 => ?_)) ?_
  · refine ga_i2l d_W_put_8 ?_
    refine ga_stL (t := 2) rfl d_W_put_9 (fun w3 => ?_)
    refine ga_goto (tgt := 25) d_W_put_10 (by decide) ?_
    refine ga_iconst (v := (0 : Int32)) d_W_put_25 (by decide) ?_
    exact ga_iret rfl d_W_put_26
  · intro x5 w4
    refine ga_iteX (fun h6 => ?_) (fun h6 => ?_)
    · subst h6
      refine ga_catchA (i := 4) (lv2 := [(0, .ref p0), (1, .int p1), (2, .int p2), (3, .ref p3)]) [] ⟨0, 10, 13, 13⟩ [⟨0, 10, 17, 15⟩, ⟨0, 10, 21, 17⟩] rfl (fun _ h => nomatch h) (by decide) (by decide) (List.mem_cons_of_mem _ gw_402) gl_418 d_W_put_13 (by decide) rfl ?_
      refine ga_iconst (v := (1 : Int32)) d_W_put_15 (by decide) ?_
      exact ga_iret rfl d_W_put_16
    · refine ga_iteX (fun h7 => ?_) (fun h7 => ?_)
      · subst h7
        refine ga_catchA (i := 4) (lv2 := [(0, .ref p0), (1, .int p1), (2, .int p2), (3, .ref p3)]) [⟨0, 10, 13, 13⟩] ⟨0, 10, 17, 15⟩ [⟨0, 10, 21, 17⟩] rfl (ga_ps1 "java/lang/IllegalArgumentException" (List.mem_cons_of_mem _ gw_402) (gz_nc (by decide +kernel))) (by decide) (by decide) (List.mem_cons_of_mem _ gw_403) gl_511 d_W_put_17 (by decide) rfl ?_
        refine ga_iconst (v := (2 : Int32)) d_W_put_19 (by decide) ?_
        exact ga_iret rfl d_W_put_20
      · refine ga_iteX (fun h8 => ?_) (fun h8 => ?_)
        · subst h8
          refine ga_catchA (i := 4) (lv2 := [(0, .ref p0), (1, .int p1), (2, .int p2), (3, .ref p3)]) [⟨0, 10, 13, 13⟩, ⟨0, 10, 17, 15⟩] ⟨0, 10, 21, 17⟩ [] rfl (ga_ps2 "java/lang/IllegalArgumentException" (List.mem_cons_of_mem _ gw_402) (gz_nc (by decide +kernel)) "java/lang/IllegalStateException" (List.mem_cons_of_mem _ gw_403) (gz_nc (by decide +kernel))) (by decide) (by decide) (List.mem_cons_of_mem _ gw_404) gl_484 d_W_put_21 (by decide) rfl ?_
          refine ga_iconst (v := (3 : Int32)) d_W_put_23 (by decide) ?_
          exact ga_iret rfl d_W_put_24
        · exact (fun _ _ h => nomatch h)
noncomputable def f_L_remove (F : Nat) (p0 : Nat) (p1 : Int32) (w : ga_W) : ga_O :=
  (if ga_is w 5 p0 = true then ga_c (f_L_addToPending F p0 p1 (0 : Int32) (1 : Int32) w) (ga_kV fun w1 => ((ga_gi w1 5 4 p0).bind fun v2 => (if v2 = 0 then (if ga_is w1 5 p0 = true then ga_c (f_L_write F p0 w1) (ga_kI fun v5 w4 => (some (.inl (some (.int v5)), w4))) ga_up else none) else ((ga_gr w1 5 2 p0).bind fun r6 => ((ga_gi w1 0 5 r6).bind fun v7 => (some (.inl (some (.int v7)), w1))))))) ga_up else none)
set_option maxHeartbeats 4000000 in
set_option maxRecDepth 100000 in
theorem m_L_remove (hst : l.stackTraces = false) (F : Nat) (p0 : Nat) (p1 : Int32) (w : ga_W) : ga_M l S0 D gz_cl (gz_tA cT) base b gz_xn y_L_remove ws_L_remove 8 146 true [.ref p0, .int p1] w (f_L_remove F p0 p1 w) := by
  refine ga_enter (cc := c_L_remove) (maxL := 2) (ret := (some .int)) hst (by decide) rfl (Nat.le_of_ble_eq_true rfl) ?_
  intro p e R s m args below meth c ad0
  refine ga_sub (lv2 := [(0, .ref p0), (1, .int p1)]) [0, 1] rfl ?_
  unfold f_L_remove
  refine ga_aload_n (q := 0) d_L_remove_0 rfl rfl ?_
  refine ga_iload_n (q := 1) d_L_remove_1 rfl rfl ?_
  refine ga_iconst (v := (0 : Int32)) d_L_remove_2 (by decide) ?_
  refine ga_iconst (v := (1 : Int32)) d_L_remove_3 (by decide) ?_
  refine ga_invV (nA := 3) (ci := 5) (T := T_L) (N := 9) (av := [.int p1, .int (0 : Int32), .int (1 : Int32)]) (a := p0) (st := []) (m_L_addToPending hst F p0 p1 (0 : Int32) (1 : Int32) w) (Or.inl rfl) (gz_gV gw_409 gw_411 gw_10 gw_51 gw_412) rfl ⟨rfl, by decide +kernel⟩ rfl (by decide) (by decide) (Nat.le_of_ble_eq_true rfl) rfl d_L_remove_4 (ga_vV (fun w1 => ?_)) (fun _ _ => ga_thru rfl)
  refine ga_aload_n (q := 0) d_L_remove_7 rfl rfl ?_
  refine ga_getI (C := "LevelStore") (T := T_L) (N := 9) (k := 4) (ci := 5) (fun x h => List.mem_cons_of_mem _ (iw_L x h)) rfl (by decide) (List.mem_cons_of_mem _ gw_250) d_L_remove_8 (fun v2 => ?_)
  refine ga_if_eq (tgt := 24) d_L_remove_11 (by decide) (fun h3 => ?_) (fun h3 => ?_)
  · refine ga_aload_n (q := 0) d_L_remove_24 rfl rfl ?_
    refine ga_invV (nA := 0) (ci := 5) (T := T_L) (N := 9) (av := []) (a := p0) (st := []) (m_L_write hst F p0 w1) (Or.inl rfl) (gz_gV gw_501 gw_503 gw_12 gw_51 gw_504) rfl ⟨rfl, by decide +kernel⟩ rfl (by decide) (by decide) (Nat.le_of_ble_eq_true rfl) rfl d_L_remove_25 (ga_vI (fun v5 w4 => ?_)) (fun _ _ => ga_thru rfl)
    exact ga_iret rfl d_L_remove_28
  · refine ga_aload_n (q := 0) d_L_remove_14 rfl rfl ?_
    refine ga_getR (C := "LevelStore") (T := T_L) (N := 9) (k := 2) (ci := 5) (fun x h => List.mem_cons_of_mem _ (iw_L x h)) rfl (by decide) (List.mem_cons_of_mem _ gw_248) d_L_remove_15 (fun r6 => ?_)
    refine ga_getI (C := "LevelStore$Entries") (T := T_E) (N := 6) (k := 5) (ci := 0) (fun x h => List.mem_cons_of_mem _ (iw_E x h)) rfl (by decide) (List.mem_cons_of_mem _ gw_114) d_L_remove_18 (fun v7 => ?_)
    refine ga_goto (tgt := 28) d_L_remove_21 (by decide) ?_
    exact ga_iret rfl d_L_remove_28
end GM5
