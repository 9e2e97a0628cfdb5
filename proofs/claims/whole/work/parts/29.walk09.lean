/-! WALKS: S_spoilBlock, L_spoil, W_spoil, L_effort, W_effort, S_entryNumber, L_table, W_table, L_count -/
section GM9
variable {l : Launch} {S0 : State} {D : va_G} {cT : Nat → ClassId} {base b : Nat} {p : Program} {e : Env} {R : Room} {s : State} {m : MethodId} {args : Array Value} {below : List Frame} {meth : Method} {c : Code} {ad0 : Nat → Nat} {w0 : ga_W}
noncomputable def f_S_spoilBlock_30 (F : Nat) (x0 : Nat) (x3 : Int32) (x4 : Int32) : Nat → Int32 → ga_W → ga_O
  | 0, _, _ => none
  | n + 1, x5, w => (if x4 ≤ x5 then (some (.inl (some (.int (x4 - x3))), w)) else ((ga_gr w 3 0 x0).bind fun r2 => ((ga_gr w 0 4 r2).bind fun r3 => ((ga_sz w 1 r3 x5 (1 : Int32)).bind fun w4 => (f_S_spoilBlock_30 F x0 x3 x4 n (x5 + (1 : Int32)) w4)))))
noncomputable def f_S_spoilBlock (F : Nat) (p0 : Nat) (p1 : Int32) (p2 : Int32) (w : ga_W) : ga_O :=
  ((ga_gr w 3 3 p0).bind fun r1 => ((ga_ai w 0 r1 p1).bind fun v2 => ((ga_gr w 3 3 p0).bind fun r3 => ((ga_ai w 0 r3 (p1 + (1 : Int32))).bind fun v4 => (f_S_spoilBlock_30 F p0 (v2 + (p2 * (4 : Int32))) (if v4 < ((v2 + (p2 * (4 : Int32))) + (4 : Int32)) then v4 else ((v2 + (p2 * (4 : Int32))) + (4 : Int32))) F (v2 + (p2 * (4 : Int32))) w)))))
set_option maxHeartbeats 4000000 in
set_option maxRecDepth 100000 in
theorem h_S_spoilBlock_30 (hst : l.stackTraces = false) (F : Nat) (x0 : Nat) (x3 : Int32) (x4 : Int32) : ∀ (n : Nat) (x5 : Int32) (w : ga_W), ga_J l S0 D gz_cl (gz_tA cT) base b gz_xn p e R s m args below meth c 6 ws_S_spoilBlock y_S_spoilBlock.cls c_S_spoilBlock (some .int) [] y_S_spoilBlock.name 1 21 true ad0 w0 (ga_MQ gz_xn D gz_cl (gz_tA cT) base b s args below ad0 w0) 30 [(0, .ref x0), (3, .int x3), (4, .int x4), (5, .int x5)] [] w (f_S_spoilBlock_30 F x0 x3 x4 n x5 w) := by
  intro n
  induction n with
  | zero => intro x5 w; exact ga_no
  | succ n ih =>
    intro x5 w
    rw [f_S_spoilBlock_30]
    refine ga_iload (q := 3) d_S_spoilBlock_30 rfl ?_
    refine ga_iload (q := 2) d_S_spoilBlock_32 rfl ?_
    refine ga_icmp_ge (tgt := 54) d_S_spoilBlock_34 (by decide) (fun h1 => ?_) (fun h1 => ?_)
    · refine ga_iload (q := 2) d_S_spoilBlock_54 rfl ?_
      refine ga_iload_n (q := 1) d_S_spoilBlock_56 rfl rfl ?_
      refine ga_isub d_S_spoilBlock_57 ?_
      exact ga_iret rfl d_S_spoilBlock_58
    · refine ga_aload_n (q := 0) d_S_spoilBlock_37 rfl rfl ?_
      refine ga_getR (C := "LevelStore$Shelf") (T := T_S) (N := 5) (k := 0) (ci := 3) (fun x h => List.mem_cons_of_mem _ (iw_S x h)) rfl (by decide) (List.mem_cons_of_mem _ gw_161) d_S_spoilBlock_38 (fun r2 => ?_)
      refine ga_getR (C := "LevelStore$Entries") (T := T_E) (N := 6) (k := 4) (ci := 0) (fun x h => List.mem_cons_of_mem _ (iw_E x h)) rfl (by decide) (List.mem_cons_of_mem _ gw_108) d_S_spoilBlock_41 (fun r3 => ?_)
      refine ga_iload (q := 3) d_S_spoilBlock_44 rfl ?_
      refine ga_iconst (v := (1 : Int32)) d_S_spoilBlock_46 (by decide) ?_
      refine ga_stZ (t := 1) rfl d_S_spoilBlock_47 (fun w4 => ?_)
      refine ga_iinc (q := 3) (v := (x5 + (1 : Int32))) (lv2 := [(5, .int (x5 + (1 : Int32))), (0, .ref x0), (3, .int x3), (4, .int x4)]) d_S_spoilBlock_48 rfl rfl (by decide) rfl ?_
      refine ga_goto (tgt := 30) d_S_spoilBlock_51 (by decide) ?_
      refine ga_sub (lv2 := [(0, .ref x0), (3, .int x3), (4, .int x4), (5, .int (x5 + (1 : Int32)))]) [1, 2, 3, 0] rfl ?_
      exact ih _ _
set_option maxHeartbeats 4000000 in
set_option maxRecDepth 100000 in
theorem m_S_spoilBlock (hst : l.stackTraces = false) (F : Nat) (p0 : Nat) (p1 : Int32) (p2 : Int32) (w : ga_W) : ga_M l S0 D gz_cl (gz_tA cT) base b gz_xn y_S_spoilBlock ws_S_spoilBlock 1 21 true [.ref p0, .int p1, .int p2] w (f_S_spoilBlock F p0 p1 p2 w) := by
  refine ga_enter (cc := c_S_spoilBlock) (maxL := 6) (ret := (some .int)) hst (by decide) rfl (Nat.le_of_ble_eq_true rfl) ?_
  intro p e R s m args below meth c ad0
  refine ga_sub (lv2 := [(0, .ref p0), (1, .int p1), (2, .int p2)]) [0, 1, 2] rfl ?_
  unfold f_S_spoilBlock
  refine ga_aload_n (q := 0) d_S_spoilBlock_0 rfl rfl ?_
  refine ga_getR (C := "LevelStore$Shelf") (T := T_S) (N := 5) (k := 3) (ci := 3) (fun x h => List.mem_cons_of_mem _ (iw_S x h)) rfl (by decide) (List.mem_cons_of_mem _ gw_170) d_S_spoilBlock_1 (fun r1 => ?_)
  refine ga_iload_n (q := 1) d_S_spoilBlock_4 rfl rfl ?_
  refine ga_ldI (t := 0) rfl d_S_spoilBlock_5 (fun v2 => ?_)
  refine ga_iload_n (q := 2) d_S_spoilBlock_6 rfl rfl ?_
  refine ga_iconst (v := (4 : Int32)) d_S_spoilBlock_7 (by decide) ?_
  refine ga_imul d_S_spoilBlock_8 ?_
  refine ga_iadd d_S_spoilBlock_9 ?_
  refine ga_istore_n (lv2 := [(3, .int (v2 + (p2 * (4 : Int32)))), (0, .ref p0), (1, .int p1), (2, .int p2)]) d_S_spoilBlock_10 rfl (by decide) rfl ?_
  refine ga_iload_n (q := 0) d_S_spoilBlock_11 rfl rfl ?_
  refine ga_iconst (v := (4 : Int32)) d_S_spoilBlock_12 (by decide) ?_
  refine ga_iadd d_S_spoilBlock_13 ?_
  refine ga_aload_n (q := 1) d_S_spoilBlock_14 rfl rfl ?_
  refine ga_getR (C := "LevelStore$Shelf") (T := T_S) (N := 5) (k := 3) (ci := 3) (fun x h => List.mem_cons_of_mem _ (iw_S x h)) rfl (by decide) (List.mem_cons_of_mem _ gw_170) d_S_spoilBlock_15 (fun r3 => ?_)
  refine ga_iload_n (q := 2) d_S_spoilBlock_18 rfl rfl ?_
  refine ga_iconst (v := (1 : Int32)) d_S_spoilBlock_19 (by decide) ?_
  refine ga_iadd d_S_spoilBlock_20 ?_
  refine ga_ldI (t := 0) rfl d_S_spoilBlock_21 (fun v4 => ?_)
  refine ga_min (List.mem_cons_of_mem _ gw_708) (List.mem_cons_of_mem _ gw_311) (List.mem_cons_of_mem _ gw_65) (List.mem_cons_of_mem _ gw_312) (Nat.le_of_ble_eq_true rfl) (by decide) (by decide) d_S_spoilBlock_22 ?_
  refine ga_istore (lv2 := [(4, .int (if v4 < ((v2 + (p2 * (4 : Int32))) + (4 : Int32)) then v4 else ((v2 + (p2 * (4 : Int32))) + (4 : Int32)))), (3, .int (v2 + (p2 * (4 : Int32)))), (0, .ref p0), (1, .int p1), (2, .int p2)]) d_S_spoilBlock_25 (by decide) rfl ?_
  refine ga_iload_n (q := 1) d_S_spoilBlock_27 rfl rfl ?_
  refine ga_istore (lv2 := [(5, .int (v2 + (p2 * (4 : Int32)))), (4, .int (if v4 < ((v2 + (p2 * (4 : Int32))) + (4 : Int32)) then v4 else ((v2 + (p2 * (4 : Int32))) + (4 : Int32)))), (3, .int (v2 + (p2 * (4 : Int32)))), (0, .ref p0), (1, .int p1), (2, .int p2)]) d_S_spoilBlock_28 (by decide) rfl ?_
  refine ga_sub (lv2 := [(0, .ref p0), (3, .int (v2 + (p2 * (4 : Int32)))), (4, .int (if v4 < ((v2 + (p2 * (4 : Int32))) + (4 : Int32)) then v4 else ((v2 + (p2 * (4 : Int32))) + (4 : Int32)))), (5, .int (v2 + (p2 * (4 : Int32))))]) [3, 2, 1, 0] rfl ?_
  exact h_S_spoilBlock_30 hst F p0 (v2 + (p2 * (4 : Int32))) (if v4 < ((v2 + (p2 * (4 : Int32))) + (4 : Int32)) then v4 else ((v2 + (p2 * (4 : Int32))) + (4 : Int32))) F (v2 + (p2 * (4 : Int32))) w
noncomputable def f_L_spoil (F : Nat) (p0 : Nat) (p1 : Int32) (p2 : Int32) (w : ga_W) : ga_O :=
  (ga_c (f_L_requireWithin F p1 (0 : Int32) (59 : Int32) w) (ga_kV fun w1 => (ga_c (f_L_requireWithin F p2 (0 : Int32) (59 : Int32) w1) (ga_kV fun w2 => ((ga_gr w2 5 1 p0).bind fun r3 => ((ga_gr w2 1 0 r3).bind fun r4 => ((ga_gi w2 3 4 r4).bind fun v5 => (if v5 ≤ p1 then (some (.inr 4, w2.1, w2.2.1 + 1, w2.2.2 + 6)) else ((ga_gr w2 5 1 p0).bind fun r7 => ((ga_gr w2 1 0 r7).bind fun r8 => (if ga_is w2 3 r8 = true then ga_c (f_S_blocksOf F r8 p1 w2) (ga_kI fun v10 w9 => (if p2 < v10 then ((ga_gr w9 5 1 p0).bind fun r12 => ((ga_gr w9 1 0 r12).bind fun r13 => (if ga_is w9 3 r13 = true then ga_c (f_S_spoilBlock F r13 p1 p2 w9) (ga_kI fun v15 w14 => (some (.inl (some (.int v15)), w14))) ga_up else none))) else (some (.inr 4, w9.1, w9.2.1 + 1, w9.2.2 + 6)))) ga_up else none)))))))) ga_up)) ga_up)
set_option maxHeartbeats 4000000 in
set_option maxRecDepth 100000 in
theorem m_L_spoil (hst : l.stackTraces = false) (F : Nat) (p0 : Nat) (p1 : Int32) (p2 : Int32) (w : ga_W) : ga_M l S0 D gz_cl (gz_tA cT) base b gz_xn y_L_spoil ws_L_spoil 7 111 true [.ref p0, .int p1, .int p2] w (f_L_spoil F p0 p1 p2 w) := by
  refine ga_enter (cc := c_L_spoil) (maxL := 3) (ret := (some .int)) hst (by decide) rfl (Nat.le_of_ble_eq_true rfl) ?_
  intro p e R s m args below meth c ad0
  refine ga_sub (lv2 := [(0, .ref p0), (1, .int p1), (2, .int p2)]) [0, 1, 2] rfl ?_
  unfold f_L_spoil
  refine ga_iload_n (q := 1) d_L_spoil_0 rfl rfl ?_
  refine ga_iconst (v := (0 : Int32)) d_L_spoil_1 (by decide) ?_
  refine ga_bipush (v := (59 : Int32)) d_L_spoil_2 (by decide) ?_
  refine ga_invS (nA := 3) (av := [.int p1, .int (0 : Int32), .int (59 : Int32)]) (st := []) (m_L_requireWithin hst F p1 (0 : Int32) (59 : Int32) w) (Or.inl rfl) (gz_gS gw_413 gw_414 gw_51 gw_415) rfl (by decide +kernel) rfl (by decide) (by decide) (Nat.le_of_ble_eq_true rfl) d_L_spoil_4 (ga_vV (fun w1 => ?_)) (fun _ _ => ga_thru rfl)
  refine ga_iload_n (q := 2) d_L_spoil_7 rfl rfl ?_
  refine ga_iconst (v := (0 : Int32)) d_L_spoil_8 (by decide) ?_
  refine ga_bipush (v := (59 : Int32)) d_L_spoil_9 (by decide) ?_
  refine ga_invS (nA := 3) (av := [.int p2, .int (0 : Int32), .int (59 : Int32)]) (st := []) (m_L_requireWithin hst F p2 (0 : Int32) (59 : Int32) w1) (Or.inl rfl) (gz_gS gw_413 gw_414 gw_51 gw_415) rfl (by decide +kernel) rfl (by decide) (by decide) (Nat.le_of_ble_eq_true rfl) d_L_spoil_11 (ga_vV (fun w2 => ?_)) (fun _ _ => ga_thru rfl)
  refine ga_iload_n (q := 1) d_L_spoil_14 rfl rfl ?_
  refine ga_aload_n (q := 0) d_L_spoil_15 rfl rfl ?_
  refine ga_getR (C := "LevelStore") (T := T_L) (N := 9) (k := 1) (ci := 5) (fun x h => List.mem_cons_of_mem _ (iw_L x h)) rfl (by decide) (List.mem_cons_of_mem _ gw_247) d_L_spoil_16 (fun r3 => ?_)
  refine ga_getR (C := "LevelStore$Levels") (T := T_V) (N := 9) (k := 0) (ci := 1) (fun x h => List.mem_cons_of_mem _ (iw_V x h)) rfl (by decide) (List.mem_cons_of_mem _ gw_209) d_L_spoil_19 (fun r4 => ?_)
  refine ga_getI (C := "LevelStore$Shelf") (T := T_S) (N := 5) (k := 4) (ci := 3) (fun x h => List.mem_cons_of_mem _ (iw_S x h)) rfl (by decide) (List.mem_cons_of_mem _ gw_175) d_L_spoil_22 (fun v5 => ?_)
  refine ga_icmp_ge (tgt := 43) d_L_spoil_25 (by decide) (fun h6 => ?_) (fun h6 => ?_)
  · exact ga_throw (x := 4) (names := gz_ch) rfl (by decide +kernel) gz_chf gl_689 gl_67 (gz_own4 gl_698) (by decide) (Nat.le_of_ble_eq_true rfl) d_L_spoil_43 d_L_spoil_46 d_L_spoil_47 d_L_spoil_50
  · refine ga_iload_n (q := 2) d_L_spoil_28 rfl rfl ?_
    refine ga_aload_n (q := 0) d_L_spoil_29 rfl rfl ?_
    refine ga_getR (C := "LevelStore") (T := T_L) (N := 9) (k := 1) (ci := 5) (fun x h => List.mem_cons_of_mem _ (iw_L x h)) rfl (by decide) (List.mem_cons_of_mem _ gw_247) d_L_spoil_30 (fun r7 => ?_)
    refine ga_getR (C := "LevelStore$Levels") (T := T_V) (N := 9) (k := 0) (ci := 1) (fun x h => List.mem_cons_of_mem _ (iw_V x h)) rfl (by decide) (List.mem_cons_of_mem _ gw_209) d_L_spoil_33 (fun r8 => ?_)
    refine ga_iload_n (q := 1) d_L_spoil_36 rfl rfl ?_
    refine ga_invV (nA := 1) (ci := 3) (T := T_S) (N := 5) (av := [.int p1]) (a := r8) (st := [.int p2]) (m_S_blocksOf hst F r8 p1 w2) (Or.inl rfl) (gz_gV gw_681 gw_682 gw_683 gw_55 gw_684) rfl ⟨rfl, by decide +kernel⟩ rfl (by decide) (by decide) (Nat.le_of_ble_eq_true rfl) rfl d_L_spoil_37 (ga_vI (fun v10 w9 => ?_)) (fun _ _ => ga_thru rfl)
    refine ga_icmp_lt (tgt := 51) d_L_spoil_40 (by decide) (fun h11 => ?_) (fun h11 => ?_)
    · refine ga_aload_n (q := 0) d_L_spoil_51 rfl rfl ?_
      refine ga_getR (C := "LevelStore") (T := T_L) (N := 9) (k := 1) (ci := 5) (fun x h => List.mem_cons_of_mem _ (iw_L x h)) rfl (by decide) (List.mem_cons_of_mem _ gw_247) d_L_spoil_52 (fun r12 => ?_)
      refine ga_getR (C := "LevelStore$Levels") (T := T_V) (N := 9) (k := 0) (ci := 1) (fun x h => List.mem_cons_of_mem _ (iw_V x h)) rfl (by decide) (List.mem_cons_of_mem _ gw_209) d_L_spoil_55 (fun r13 => ?_)
      refine ga_iload_n (q := 1) d_L_spoil_58 rfl rfl ?_
      refine ga_iload_n (q := 2) d_L_spoil_59 rfl rfl ?_
      refine ga_invV (nA := 2) (ci := 3) (T := T_S) (N := 5) (av := [.int p1, .int p2]) (a := r13) (st := []) (m_S_spoilBlock hst F r13 p1 p2 w9) (Or.inl rfl) (gz_gV gw_704 gw_705 gw_706 gw_55 gw_707) rfl ⟨rfl, by decide +kernel⟩ rfl (by decide) (by decide) (Nat.le_of_ble_eq_true rfl) rfl d_L_spoil_60 (ga_vI (fun v15 w14 => ?_)) (fun _ _ => ga_thru rfl)
      exact ga_iret rfl d_L_spoil_63
    · exact ga_throw (x := 4) (names := gz_ch) rfl (by decide +kernel) gz_chf gl_689 gl_67 (gz_own4 gl_698) (by decide) (Nat.le_of_ble_eq_true rfl) d_L_spoil_43 d_L_spoil_46 d_L_spoil_47 d_L_spoil_50
noncomputable def f_W_spoil (F : Nat) (p0 : Nat) (p1 : Int32) (p2 : Int32) (p3 : Nat) (w : ga_W) : ga_O :=
  (if ga_is w 5 p0 = true then ga_c (f_L_spoil F p0 p1 p2 w) (ga_kI fun v2 w1 => ((ga_sl w1 2 p3 (0 : Int32) (Int32.toInt64 v2)).bind fun w3 => (some (.inl (some (.int (0 : Int32))), w3)))) (fun x5 w4 => (if x5 = 0 then (some (.inl (some (.int (1 : Int32))), w4)) else (if x5 = 4 then (some (.inl (some (.int (2 : Int32))), w4)) else none))) else none)
set_option maxHeartbeats 4000000 in
set_option maxRecDepth 100000 in
theorem m_W_spoil (hst : l.stackTraces = false) (F : Nat) (p0 : Nat) (p1 : Int32) (p2 : Int32) (p3 : Nat) (w : ga_W) : ga_M l S0 D gz_cl (gz_tA cT) base b gz_xn y_W_spoil ws_W_spoil 8 133 true [.ref p0, .int p1, .int p2, .ref p3] w (f_W_spoil F p0 p1 p2 p3 w) := by
  refine ga_enterH (hh := [(0, 10, 13, 13), (0, 10, 17, 54)]) (cc := c_W_spoil) (maxL := 5) (ret := (some .int)) hst (by decide) rfl (Nat.le_of_ble_eq_true rfl) ?_
  intro p e R s m args below meth c ad0
  refine ga_sub (lv2 := [(0, .ref p0), (1, .int p1), (2, .int p2), (3, .ref p3)]) [0, 1, 2, 3] rfl ?_
  unfold f_W_spoil
  refine ga_aload_n (q := 3) d_W_spoil_0 rfl rfl ?_
  refine ga_iconst (v := (0 : Int32)) d_W_spoil_1 (by decide) ?_
  refine ga_aload_n (q := 0) d_W_spoil_2 rfl rfl ?_
  refine ga_iload_n (q := 1) d_W_spoil_3 rfl rfl ?_
  refine ga_iload_n (q := 2) d_W_spoil_4 rfl rfl ?_
  refine ga_invV (nA := 2) (ci := 5) (T := T_L) (N := 9) (av := [.int p1, .int p2]) (a := p0) (st := [.int (0 : Int32), .ref p3]) (m_L_spoil hst F p0 p1 p2 w) (Or.inl rfl) (gz_gV gw_677 gw_678 gw_679 gw_51 gw_680) rfl ⟨rfl, by decide +kernel⟩ rfl (by decide) (by decide) (Nat.le_of_ble_eq_true rfl) rfl d_W_spoil_5 (ga_vI (fun v2 w1 => ?_)) ?_
  · refine ga_i2l d_W_spoil_8 ?_
    refine ga_stL (t := 2) rfl d_W_spoil_9 (fun w3 => ?_)
    refine ga_goto (tgt := 21) d_W_spoil_10 (by decide) ?_
    refine ga_iconst (v := (0 : Int32)) d_W_spoil_21 (by decide) ?_
    exact ga_iret rfl d_W_spoil_22
  · intro x5 w4
    refine ga_iteX (fun h6 => ?_) (fun h6 => ?_)
    · subst h6
      refine ga_catchA (i := 4) (lv2 := [(0, .ref p0), (1, .int p1), (2, .int p2), (3, .ref p3)]) [] ⟨0, 10, 13, 13⟩ [⟨0, 10, 17, 54⟩] rfl (fun _ h => nomatch h) (by decide) (by decide) (List.mem_cons_of_mem _ gw_402) gl_418 d_W_spoil_13 (by decide) rfl ?_
      refine ga_iconst (v := (1 : Int32)) d_W_spoil_15 (by decide) ?_
      exact ga_iret rfl d_W_spoil_16
    · refine ga_iteX (fun h7 => ?_) (fun h7 => ?_)
      · subst h7
        refine ga_catchA (i := 4) (lv2 := [(0, .ref p0), (1, .int p1), (2, .int p2), (3, .ref p3)]) [⟨0, 10, 13, 13⟩] ⟨0, 10, 17, 54⟩ [] rfl (ga_ps1 "java/lang/IllegalArgumentException" (List.mem_cons_of_mem _ gw_402) (gz_nc (by decide +kernel))) (by decide) (by decide) (List.mem_cons_of_mem _ gw_676) gl_691 d_W_spoil_17 (by decide) rfl ?_
        refine ga_iconst (v := (2 : Int32)) d_W_spoil_19 (by decide) ?_
        exact ga_iret rfl d_W_spoil_20
      · exact (fun _ _ h => nomatch h)
noncomputable def f_L_effort (F : Nat) (p0 : Nat) (w : ga_W) : ga_O :=
  ((ga_gi w 5 8 p0).bind fun v1 => (if v1 = 0 then (some (.inr 5, w.1, w.2.1 + 1, w.2.2 + 6)) else ((ga_gi w 5 6 p0).bind fun v3 => ((ga_gi w 5 8 p0).bind fun v4 => (if (FP.ddiv (FP.i2d v3) (FP.i2d v4)) &&& 0x7fffffffffffffff ≤ 0x7ff0000000000000 then (some (.inl (some (.double (FP.ddiv (FP.i2d v3) (FP.i2d v4)))), w)) else none)))))
set_option maxHeartbeats 4000000 in
set_option maxRecDepth 100000 in
theorem m_L_effort (hst : l.stackTraces = false) (F : Nat) (p0 : Nat) (w : ga_W) : ga_M l S0 D gz_cl (gz_tA cT) base b gz_xn y_L_effort ws_L_effort 6 89 true [.ref p0] w (f_L_effort F p0 w) := by
  refine ga_enter (cc := c_L_effort) (maxL := 1) (ret := (some .double)) hst (by decide) rfl (Nat.le_of_ble_eq_true rfl) ?_
  intro p e R s m args below meth c ad0
  refine ga_sub (lv2 := [(0, .ref p0)]) [0] rfl ?_
  unfold f_L_effort
  refine ga_aload_n (q := 0) d_L_effort_0 rfl rfl ?_
  refine ga_getI (C := "LevelStore") (T := T_L) (N := 9) (k := 8) (ci := 5) (fun x h => List.mem_cons_of_mem _ (iw_L x h)) rfl (by decide) (List.mem_cons_of_mem _ gw_254) d_L_effort_1 (fun v1 => ?_)
  refine ga_if_ne (tgt := 15) d_L_effort_4 (by decide) (fun h2 => ?_) (fun h2 => ?_)
  · exact ga_throw (x := 5) (names := gz_ch) rfl (by decide +kernel) gz_chf gl_717 gl_68 (gz_own5 gl_726) (by decide) (Nat.le_of_ble_eq_true rfl) d_L_effort_7 d_L_effort_10 d_L_effort_11 d_L_effort_14
  · refine ga_aload_n (q := 0) d_L_effort_15 rfl rfl ?_
    refine ga_getI (C := "LevelStore") (T := T_L) (N := 9) (k := 6) (ci := 5) (fun x h => List.mem_cons_of_mem _ (iw_L x h)) rfl (by decide) (List.mem_cons_of_mem _ gw_252) d_L_effort_16 (fun v3 => ?_)
    refine ga_i2d d_L_effort_19 ?_
    refine ga_aload_n (q := 0) d_L_effort_20 rfl rfl ?_
    refine ga_getI (C := "LevelStore") (T := T_L) (N := 9) (k := 8) (ci := 5) (fun x h => List.mem_cons_of_mem _ (iw_L x h)) rfl (by decide) (List.mem_cons_of_mem _ gw_254) d_L_effort_21 (fun v4 => ?_)
    refine ga_i2d d_L_effort_24 ?_
    refine ga_guard (fun h5 => ?_)
    refine ga_ddiv d_L_effort_25 h5 ?_
    exact ga_dret rfl d_L_effort_26
noncomputable def f_W_effort (F : Nat) (p0 : Nat) (p1 : Nat) (w : ga_W) : ga_O :=
  (if ga_is w 5 p0 = true then ga_c (f_L_effort F p0 w) (ga_kD fun v2 w1 => ((ga_sd w1 3 p1 (0 : Int32) v2).bind fun w3 => (some (.inl (some (.int (0 : Int32))), w3)))) (fun x5 w4 => (if x5 = 5 then (some (.inl (some (.int (1 : Int32))), w4)) else none)) else none)
set_option maxHeartbeats 4000000 in
set_option maxRecDepth 100000 in
theorem m_W_effort (hst : l.stackTraces = false) (F : Nat) (p0 : Nat) (p1 : Nat) (w : ga_W) : ga_M l S0 D gz_cl (gz_tA cT) base b gz_xn y_W_effort ws_W_effort 7 109 true [.ref p0, .ref p1] w (f_W_effort F p0 p1 w) := by
  refine ga_enterH (hh := [(0, 7, 10, 60)]) (cc := c_W_effort) (maxL := 3) (ret := (some .int)) hst (by decide) rfl (Nat.le_of_ble_eq_true rfl) ?_
  intro p e R s m args below meth c ad0
  refine ga_sub (lv2 := [(0, .ref p0), (1, .ref p1)]) [0, 1] rfl ?_
  unfold f_W_effort
  refine ga_aload_n (q := 1) d_W_effort_0 rfl rfl ?_
  refine ga_iconst (v := (0 : Int32)) d_W_effort_1 (by decide) ?_
  refine ga_aload_n (q := 0) d_W_effort_2 rfl rfl ?_
  refine ga_invV (nA := 0) (ci := 5) (T := T_L) (N := 9) (av := []) (a := p0) (st := [.int (0 : Int32), .ref p1]) (m_L_effort hst F p0 w) (Or.inl rfl) (gz_gV gw_713 gw_714 gw_715 gw_51 gw_716) rfl ⟨rfl, by decide +kernel⟩ rfl (by decide) (by decide) (Nat.le_of_ble_eq_true rfl) rfl d_W_effort_3 (ga_vD (fun v2 w1 => ?_)) ?_
  · refine ga_stD (t := 3) rfl d_W_effort_6 (fun w3 => ?_)
    refine ga_goto (tgt := 13) d_W_effort_7 (by decide) ?_
    refine ga_iconst (v := (0 : Int32)) d_W_effort_13 (by decide) ?_
    exact ga_iret rfl d_W_effort_14
  · intro x5 w4
    refine ga_iteX (fun h6 => ?_) (fun h6 => ?_)
    · subst h6
      refine ga_catch (i := 2) (lv2 := [(0, .ref p0), (1, .ref p1)]) [] ⟨0, 7, 10, 60⟩ [] rfl (fun _ h => nomatch h) (by decide) (by decide) (List.mem_cons_of_mem _ gw_712) gl_719 d_W_effort_10 rfl (by decide) rfl ?_
      refine ga_iconst (v := (1 : Int32)) d_W_effort_11 (by decide) ?_
      exact ga_iret rfl d_W_effort_12
    · exact (fun _ _ h => nomatch h)
noncomputable def f_S_entryNumber (F : Nat) (p0 : Nat) (p1 : Int32) (p2 : Int32) (w : ga_W) : ga_O :=
  (if ga_is w 3 p0 = true then ga_c (f_S_sizeOf F p0 p1 w) (ga_kI fun v2 w1 => (if v2 ≤ p2 then (some (.inl (some (.int (0 : Int32))), w1)) else ((ga_gr w1 3 0 p0).bind fun r4 => ((ga_gr w1 0 1 r4).bind fun r5 => ((ga_gr w1 3 3 p0).bind fun r6 => ((ga_ai w1 0 r6 p1).bind fun v7 => ((ga_ai w1 0 r5 (v7 + p2)).bind fun v8 => (some (.inl (some (.int v8)), w1))))))))) ga_up else none)
set_option maxHeartbeats 4000000 in
set_option maxRecDepth 100000 in
theorem m_S_entryNumber (hst : l.stackTraces = false) (F : Nat) (p0 : Nat) (p1 : Int32) (p2 : Int32) (w : ga_W) : ga_M l S0 D gz_cl (gz_tA cT) base b gz_xn y_S_entryNumber ws_S_entryNumber 1 21 true [.ref p0, .int p1, .int p2] w (f_S_entryNumber F p0 p1 p2 w) := by
  refine ga_enter (cc := c_S_entryNumber) (maxL := 3) (ret := (some .int)) hst (by decide) rfl (Nat.le_of_ble_eq_true rfl) ?_
  intro p e R s m args below meth c ad0
  refine ga_sub (lv2 := [(0, .ref p0), (1, .int p1), (2, .int p2)]) [0, 1, 2] rfl ?_
  unfold f_S_entryNumber
  refine ga_iload_n (q := 2) d_S_entryNumber_0 rfl rfl ?_
  refine ga_aload_n (q := 0) d_S_entryNumber_1 rfl rfl ?_
  refine ga_iload_n (q := 1) d_S_entryNumber_2 rfl rfl ?_
  refine ga_invV (nA := 1) (ci := 3) (T := T_S) (N := 5) (av := [.int p1]) (a := p0) (st := [.int p2]) (m_S_sizeOf hst F p0 p1 w) (Or.inl rfl) (gz_gV gw_685 gw_686 gw_687 gw_55 gw_688) rfl ⟨rfl, by decide +kernel⟩ rfl (by decide) (by decide) (Nat.le_of_ble_eq_true rfl) rfl d_S_entryNumber_3 (ga_vI (fun v2 w1 => ?_)) (fun _ _ => ga_thru rfl)
  refine ga_icmp_ge (tgt := 28) d_S_entryNumber_6 (by decide) (fun h3 => ?_) (fun h3 => ?_)
  · refine ga_iconst (v := (0 : Int32)) d_S_entryNumber_28 (by decide) ?_
    exact ga_iret rfl d_S_entryNumber_29
  · refine ga_aload_n (q := 0) d_S_entryNumber_9 rfl rfl ?_
    refine ga_getR (C := "LevelStore$Shelf") (T := T_S) (N := 5) (k := 0) (ci := 3) (fun x h => List.mem_cons_of_mem _ (iw_S x h)) rfl (by decide) (List.mem_cons_of_mem _ gw_161) d_S_entryNumber_10 (fun r4 => ?_)
    refine ga_getR (C := "LevelStore$Entries") (T := T_E) (N := 6) (k := 1) (ci := 0) (fun x h => List.mem_cons_of_mem _ (iw_E x h)) rfl (by decide) (List.mem_cons_of_mem _ gw_97) d_S_entryNumber_13 (fun r5 => ?_)
    refine ga_aload_n (q := 0) d_S_entryNumber_16 rfl rfl ?_
    refine ga_getR (C := "LevelStore$Shelf") (T := T_S) (N := 5) (k := 3) (ci := 3) (fun x h => List.mem_cons_of_mem _ (iw_S x h)) rfl (by decide) (List.mem_cons_of_mem _ gw_170) d_S_entryNumber_17 (fun r6 => ?_)
    refine ga_iload_n (q := 1) d_S_entryNumber_20 rfl rfl ?_
    refine ga_ldI (t := 0) rfl d_S_entryNumber_21 (fun v7 => ?_)
    refine ga_iload_n (q := 2) d_S_entryNumber_22 rfl rfl ?_
    refine ga_iadd d_S_entryNumber_23 ?_
    refine ga_ldI (t := 0) rfl d_S_entryNumber_24 (fun v8 => ?_)
    refine ga_goto (tgt := 29) d_S_entryNumber_25 (by decide) ?_
    exact ga_iret rfl d_S_entryNumber_29
noncomputable def f_L_table (F : Nat) (p0 : Nat) (p1 : Int32) (p2 : Int32) (w : ga_W) : ga_O :=
  (ga_c (f_L_requireWithin F p1 (0 : Int32) (59 : Int32) w) (ga_kV fun w1 => (ga_c (f_L_requireWithin F p2 (0 : Int32) (15 : Int32) w1) (ga_kV fun w2 => ((ga_gr w2 5 1 p0).bind fun r3 => ((ga_gr w2 1 0 r3).bind fun r4 => ((ga_gi w2 3 4 r4).bind fun v5 => (if p1 < v5 then (if p2 = 0 then ((ga_gr w2 3 1 r4).bind fun r8 => ((ga_ai w2 0 r8 p1).bind fun v9 => (some (.inl (some (.int v9)), w2)))) else (if p2 = 1 then ((ga_gr w2 3 2 r4).bind fun r11 => ((ga_ai w2 0 r11 p1).bind fun v12 => (some (.inl (some (.int v12)), w2)))) else (if p2 = 2 then (if ga_is w2 3 r4 = true then ga_c (f_S_sizeOf F r4 p1 w2) (ga_kI fun v15 w14 => (some (.inl (some (.int v15)), w14))) ga_up else none) else (if p2 = 3 then (if ga_is w2 3 r4 = true then ga_c (f_S_leastKey F r4 p1 w2) (ga_kI fun v18 w17 => (some (.inl (some (.int v18)), w17))) ga_up else none) else (if p2 = 4 then (if ga_is w2 3 r4 = true then ga_c (f_S_greatestKey F r4 p1 w2) (ga_kI fun v21 w20 => (some (.inl (some (.int v21)), w20))) ga_up else none) else (if p2 = 5 then (if ga_is w2 3 r4 = true then ga_c (f_S_spoiledBlocksOf F r4 p1 w2) (ga_kI fun v24 w23 => (some (.inl (some (.int v24)), w23))) ga_up else none) else (if ga_is w2 3 r4 = true then ga_c (f_S_entryNumber F r4 p1 (p2 - (6 : Int32)) w2) (ga_kI fun v26 w25 => (some (.inl (some (.int v26)), w25))) ga_up else none))))))) else (some (.inr 4, w2.1, w2.2.1 + 1, w2.2.2 + 6))))))) ga_up)) ga_up)
set_option maxHeartbeats 4000000 in
set_option maxRecDepth 100000 in
theorem m_L_table (hst : l.stackTraces = false) (F : Nat) (p0 : Nat) (p1 : Int32) (p2 : Int32) (w : ga_W) : ga_M l S0 D gz_cl (gz_tA cT) base b gz_xn y_L_table ws_L_table 7 111 true [.ref p0, .int p1, .int p2] w (f_L_table F p0 p1 p2 w) := by
  refine ga_enter (cc := c_L_table) (maxL := 4) (ret := (some .int)) hst (by decide) rfl (Nat.le_of_ble_eq_true rfl) ?_
  intro p e R s m args below meth c ad0
  refine ga_sub (lv2 := [(0, .ref p0), (1, .int p1), (2, .int p2)]) [0, 1, 2] rfl ?_
  unfold f_L_table
  refine ga_iload_n (q := 1) d_L_table_0 rfl rfl ?_
  refine ga_iconst (v := (0 : Int32)) d_L_table_1 (by decide) ?_
  refine ga_bipush (v := (59 : Int32)) d_L_table_2 (by decide) ?_
  refine ga_invS (nA := 3) (av := [.int p1, .int (0 : Int32), .int (59 : Int32)]) (st := []) (m_L_requireWithin hst F p1 (0 : Int32) (59 : Int32) w) (Or.inl rfl) (gz_gS gw_413 gw_414 gw_51 gw_415) rfl (by decide +kernel) rfl (by decide) (by decide) (Nat.le_of_ble_eq_true rfl) d_L_table_4 (ga_vV (fun w1 => ?_)) (fun _ _ => ga_thru rfl)
  refine ga_iload_n (q := 2) d_L_table_7 rfl rfl ?_
  refine ga_iconst (v := (0 : Int32)) d_L_table_8 (by decide) ?_
  refine ga_bipush (v := (15 : Int32)) d_L_table_9 (by decide) ?_
  refine ga_invS (nA := 3) (av := [.int p2, .int (0 : Int32), .int (15 : Int32)]) (st := []) (m_L_requireWithin hst F p2 (0 : Int32) (15 : Int32) w1) (Or.inl rfl) (gz_gS gw_413 gw_414 gw_51 gw_415) rfl (by decide +kernel) rfl (by decide) (by decide) (Nat.le_of_ble_eq_true rfl) d_L_table_11 (ga_vV (fun w2 => ?_)) (fun _ _ => ga_thru rfl)
  refine ga_aload_n (q := 0) d_L_table_14 rfl rfl ?_
  refine ga_getR (C := "LevelStore") (T := T_L) (N := 9) (k := 1) (ci := 5) (fun x h => List.mem_cons_of_mem _ (iw_L x h)) rfl (by decide) (List.mem_cons_of_mem _ gw_247) d_L_table_15 (fun r3 => ?_)
  refine ga_getR (C := "LevelStore$Levels") (T := T_V) (N := 9) (k := 0) (ci := 1) (fun x h => List.mem_cons_of_mem _ (iw_V x h)) rfl (by decide) (List.mem_cons_of_mem _ gw_209) d_L_table_18 (fun r4 => ?_)
  refine ga_astore_n (lv2 := [(3, .ref r4), (0, .ref p0), (1, .int p1), (2, .int p2)]) d_L_table_21 rfl (by decide) rfl ?_
  refine ga_iload_n (q := 2) d_L_table_22 rfl rfl ?_
  refine ga_aload_n (q := 0) d_L_table_23 rfl rfl ?_
  refine ga_getI (C := "LevelStore$Shelf") (T := T_S) (N := 5) (k := 4) (ci := 3) (fun x h => List.mem_cons_of_mem _ (iw_S x h)) rfl (by decide) (List.mem_cons_of_mem _ gw_175) d_L_table_24 (fun v5 => ?_)
  refine ga_icmp_lt (tgt := 38) d_L_table_27 (by decide) (fun h6 => ?_) (fun h6 => ?_)
  · refine ga_iload_n (q := 3) d_L_table_38 rfl rfl ?_
    refine ga_ite (fun h7 => ?_) (fun h7 => ?_)
    · refine ga_tabIn (x := p2) (off := 37) (tgt := 76) d_L_table_39 (by rw [h7]; decide) (by rw [h7]; decide) (by rw [h7]; rfl) (by decide) ?_
      refine ga_aload_n (q := 0) d_L_table_76 rfl rfl ?_
      refine ga_getR (C := "LevelStore$Shelf") (T := T_S) (N := 5) (k := 1) (ci := 3) (fun x h => List.mem_cons_of_mem _ (iw_S x h)) rfl (by decide) (List.mem_cons_of_mem _ gw_166) d_L_table_77 (fun r8 => ?_)
      refine ga_iload_n (q := 2) d_L_table_80 rfl rfl ?_
      refine ga_ldI (t := 0) rfl d_L_table_81 (fun v9 => ?_)
      exact ga_iret rfl d_L_table_82
    · refine ga_ite (fun h10 => ?_) (fun h10 => ?_)
      · refine ga_tabIn (x := p2) (off := 44) (tgt := 83) d_L_table_39 (by rw [h10]; decide) (by rw [h10]; decide) (by rw [h10]; rfl) (by decide) ?_
        refine ga_aload_n (q := 0) d_L_table_83 rfl rfl ?_
        refine ga_getR (C := "LevelStore$Shelf") (T := T_S) (N := 5) (k := 2) (ci := 3) (fun x h => List.mem_cons_of_mem _ (iw_S x h)) rfl (by decide) (List.mem_cons_of_mem _ gw_169) d_L_table_84 (fun r11 => ?_)
        refine ga_iload_n (q := 2) d_L_table_87 rfl rfl ?_
        refine ga_ldI (t := 0) rfl d_L_table_88 (fun v12 => ?_)
        exact ga_iret rfl d_L_table_89
      · refine ga_ite (fun h13 => ?_) (fun h13 => ?_)
        · refine ga_tabIn (x := p2) (off := 51) (tgt := 90) d_L_table_39 (by rw [h13]; decide) (by rw [h13]; decide) (by rw [h13]; rfl) (by decide) ?_
          refine ga_aload_n (q := 0) d_L_table_90 rfl rfl ?_
          refine ga_iload_n (q := 2) d_L_table_91 rfl rfl ?_
          refine ga_invV (nA := 1) (ci := 3) (T := T_S) (N := 5) (av := [.int p1]) (a := r4) (st := []) (m_S_sizeOf hst F r4 p1 w2) (Or.inl rfl) (gz_gV gw_739 gw_686 gw_687 gw_55 gw_688) rfl ⟨rfl, by decide +kernel⟩ rfl (by decide) (by decide) (Nat.le_of_ble_eq_true rfl) rfl d_L_table_92 (ga_vI (fun v15 w14 => ?_)) (fun _ _ => ga_thru rfl)
          exact ga_iret rfl d_L_table_95
        · refine ga_ite (fun h16 => ?_) (fun h16 => ?_)
          · refine ga_tabIn (x := p2) (off := 57) (tgt := 96) d_L_table_39 (by rw [h16]; decide) (by rw [h16]; decide) (by rw [h16]; rfl) (by decide) ?_
            refine ga_aload_n (q := 0) d_L_table_96 rfl rfl ?_
            refine ga_iload_n (q := 2) d_L_table_97 rfl rfl ?_
            refine ga_invV (nA := 1) (ci := 3) (T := T_S) (N := 5) (av := [.int p1]) (a := r4) (st := []) (m_S_leastKey hst F r4 p1 w2) (Or.inl rfl) (gz_gV gw_740 gw_330 gw_331 gw_55 gw_332) rfl ⟨rfl, by decide +kernel⟩ rfl (by decide) (by decide) (Nat.le_of_ble_eq_true rfl) rfl d_L_table_98 (ga_vI (fun v18 w17 => ?_)) (fun _ _ => ga_thru rfl)
            exact ga_iret rfl d_L_table_101
          · refine ga_ite (fun h19 => ?_) (fun h19 => ?_)
            · refine ga_tabIn (x := p2) (off := 63) (tgt := 102) d_L_table_39 (by rw [h19]; decide) (by rw [h19]; decide) (by rw [h19]; rfl) (by decide) ?_
              refine ga_aload_n (q := 0) d_L_table_102 rfl rfl ?_
              refine ga_iload_n (q := 2) d_L_table_103 rfl rfl ?_
              refine ga_invV (nA := 1) (ci := 3) (T := T_S) (N := 5) (av := [.int p1]) (a := r4) (st := []) (m_S_greatestKey hst F r4 p1 w2) (Or.inl rfl) (gz_gV gw_741 gw_340 gw_341 gw_55 gw_342) rfl ⟨rfl, by decide +kernel⟩ rfl (by decide) (by decide) (Nat.le_of_ble_eq_true rfl) rfl d_L_table_104 (ga_vI (fun v21 w20 => ?_)) (fun _ _ => ga_thru rfl)
              exact ga_iret rfl d_L_table_107
            · refine ga_ite (fun h22 => ?_) (fun h22 => ?_)
              · refine ga_tabIn (x := p2) (off := 69) (tgt := 108) d_L_table_39 (by rw [h22]; decide) (by rw [h22]; decide) (by rw [h22]; rfl) (by decide) ?_
                refine ga_aload_n (q := 0) d_L_table_108 rfl rfl ?_
                refine ga_iload_n (q := 2) d_L_table_109 rfl rfl ?_
                refine ga_invV (nA := 1) (ci := 3) (T := T_S) (N := 5) (av := [.int p1]) (a := r4) (st := []) (m_S_spoiledBlocksOf hst F r4 p1 w2) (Or.inl rfl) (gz_gV gw_742 gw_352 gw_353 gw_55 gw_354) rfl ⟨rfl, by decide +kernel⟩ rfl (by decide) (by decide) (Nat.le_of_ble_eq_true rfl) rfl d_L_table_110 (ga_vI (fun v24 w23 => ?_)) (fun _ _ => ga_thru rfl)
                exact ga_iret rfl d_L_table_113
              · refine ga_tabOut (x := p2) (tgt := 114) d_L_table_39 (ga_out5 h7 h10 h13 h16 h19 h22) (by decide) ?_
                refine ga_aload_n (q := 0) d_L_table_114 rfl rfl ?_
                refine ga_iload_n (q := 2) d_L_table_115 rfl rfl ?_
                refine ga_iload_n (q := 3) d_L_table_116 rfl rfl ?_
                refine ga_bipush (v := (6 : Int32)) d_L_table_117 (by decide) ?_
                refine ga_isub d_L_table_119 ?_
                refine ga_invV (nA := 2) (ci := 3) (T := T_S) (N := 5) (av := [.int p1, .int (p2 - (6 : Int32))]) (a := r4) (st := []) (m_S_entryNumber hst F r4 p1 (p2 - (6 : Int32)) w2) (Or.inl rfl) (gz_gV gw_743 gw_744 gw_745 gw_55 gw_746) rfl ⟨rfl, by decide +kernel⟩ rfl (by decide) (by decide) (Nat.le_of_ble_eq_true rfl) rfl d_L_table_120 (ga_vI (fun v26 w25 => ?_)) (fun _ _ => ga_thru rfl)
                exact ga_iret rfl d_L_table_123
  · exact ga_throw (x := 4) (names := gz_ch) rfl (by decide +kernel) gz_chf gl_689 gl_67 (gz_own4 gl_698) (by decide) (Nat.le_of_ble_eq_true rfl) d_L_table_30 d_L_table_33 d_L_table_34 d_L_table_37
noncomputable def f_W_table (F : Nat) (p0 : Nat) (p1 : Int32) (p2 : Int32) (p3 : Nat) (w : ga_W) : ga_O :=
  (if ga_is w 5 p0 = true then ga_c (f_L_table F p0 p1 p2 w) (ga_kI fun v2 w1 => ((ga_sl w1 2 p3 (0 : Int32) (Int32.toInt64 v2)).bind fun w3 => (some (.inl (some (.int (0 : Int32))), w3)))) (fun x5 w4 => (if x5 = 0 then (some (.inl (some (.int (1 : Int32))), w4)) else (if x5 = 4 then (some (.inl (some (.int (2 : Int32))), w4)) else none))) else none)
set_option maxHeartbeats 4000000 in
set_option maxRecDepth 100000 in
theorem m_W_table (hst : l.stackTraces = false) (F : Nat) (p0 : Nat) (p1 : Int32) (p2 : Int32) (p3 : Nat) (w : ga_W) : ga_M l S0 D gz_cl (gz_tA cT) base b gz_xn y_W_table ws_W_table 8 134 true [.ref p0, .int p1, .int p2, .ref p3] w (f_W_table F p0 p1 p2 p3 w) := by
  refine ga_enterH (hh := [(0, 10, 13, 13), (0, 10, 17, 54)]) (cc := c_W_table) (maxL := 5) (ret := (some .int)) hst (by decide) rfl (Nat.le_of_ble_eq_true rfl) ?_
  intro p e R s m args below meth c ad0
  refine ga_sub (lv2 := [(0, .ref p0), (1, .int p1), (2, .int p2), (3, .ref p3)]) [0, 1, 2, 3] rfl ?_
  unfold f_W_table
  refine ga_aload_n (q := 3) d_W_table_0 rfl rfl ?_
  refine ga_iconst (v := (0 : Int32)) d_W_table_1 (by decide) ?_
  refine ga_aload_n (q := 0) d_W_table_2 rfl rfl ?_
  refine ga_iload_n (q := 1) d_W_table_3 rfl rfl ?_
  refine ga_iload_n (q := 2) d_W_table_4 rfl rfl ?_
  refine ga_invV (nA := 2) (ci := 5) (T := T_L) (N := 9) (av := [.int p1, .int p2]) (a := p0) (st := [.int (0 : Int32), .ref p3]) (m_L_table hst F p0 p1 p2 w) (Or.inl rfl) (gz_gV gw_735 gw_736 gw_737 gw_51 gw_738) rfl ⟨rfl, by decide +kernel⟩ rfl (by decide) (by decide) (Nat.le_of_ble_eq_true rfl) rfl d_W_table_5 (ga_vI (fun v2 w1 => ?_)) ?_
  · refine ga_i2l d_W_table_8 ?_
    refine ga_stL (t := 2) rfl d_W_table_9 (fun w3 => ?_)
    refine ga_goto (tgt := 21) d_W_table_10 (by decide) ?_
    refine ga_iconst (v := (0 : Int32)) d_W_table_21 (by decide) ?_
    exact ga_iret rfl d_W_table_22
  · intro x5 w4
    refine ga_iteX (fun h6 => ?_) (fun h6 => ?_)
    · subst h6
      refine ga_catchA (i := 4) (lv2 := [(0, .ref p0), (1, .int p1), (2, .int p2), (3, .ref p3)]) [] ⟨0, 10, 13, 13⟩ [⟨0, 10, 17, 54⟩] rfl (fun _ h => nomatch h) (by decide) (by decide) (List.mem_cons_of_mem _ gw_402) gl_418 d_W_table_13 (by decide) rfl ?_
      refine ga_iconst (v := (1 : Int32)) d_W_table_15 (by decide) ?_
      exact ga_iret rfl d_W_table_16
    · refine ga_iteX (fun h7 => ?_) (fun h7 => ?_)
      · subst h7
        refine ga_catchA (i := 4) (lv2 := [(0, .ref p0), (1, .int p1), (2, .int p2), (3, .ref p3)]) [⟨0, 10, 13, 13⟩] ⟨0, 10, 17, 54⟩ [] rfl (ga_ps1 "java/lang/IllegalArgumentException" (List.mem_cons_of_mem _ gw_402) (gz_nc (by decide +kernel))) (by decide) (by decide) (List.mem_cons_of_mem _ gw_676) gl_691 d_W_table_17 (by decide) rfl ?_
        refine ga_iconst (v := (2 : Int32)) d_W_table_19 (by decide) ?_
        exact ga_iret rfl d_W_table_20
      · exact (fun _ _ h => nomatch h)
noncomputable def f_L_count (F : Nat) (p0 : Nat) (p1 : Int32) (w : ga_W) : ga_O :=
  (ga_c (f_L_requireWithin F p1 (0 : Int32) (16 : Int32) w) (ga_kV fun w1 => (ga_jn (fun  (w46 : ga_W) => ((ga_gr w46 5 1 p0).bind fun r48 => ((ga_gr w46 1 0 r48).bind fun r49 => (if ga_is w46 3 r49 = true then ga_c (f_S_tablesOn F r49 (p1 - (11 : Int32)) w46) (ga_kI fun v51 w50 => (some (.inl (some (.int v51)), w50))) ga_up else none)))) (fun K47 => (if p1 = 0 then ((ga_gi w1 5 5 p0).bind fun v53 => (some (.inl (some (.int v53)), w1))) else (if p1 = 1 then ((ga_gr w1 5 0 p0).bind fun r55 => ((ga_gr w1 2 0 r55).bind fun r56 => ((ga_gi w1 0 5 r56).bind fun v57 => (some (.inl (some (.int v57)), w1))))) else (if p1 = 2 then ((ga_gr w1 5 0 p0).bind fun r59 => ((ga_gi w1 2 2 r59).bind fun v60 => (some (.inl (some (.int v60)), w1)))) else (if p1 = 3 then ((ga_gr w1 5 0 p0).bind fun r62 => ((ga_gi w1 2 3 r62).bind fun v63 => (some (.inl (some (.int v63)), w1)))) else (if p1 = 4 then ((ga_gr w1 5 1 p0).bind fun r65 => ((ga_gr w1 1 0 r65).bind fun r66 => ((ga_gi w1 3 4 r66).bind fun v67 => (some (.inl (some (.int v67)), w1))))) else (if p1 = 5 then ((ga_gr w1 5 1 p0).bind fun r69 => ((ga_gi w1 1 6 r69).bind fun v70 => (if v70 = 0 then (some (.inl (some (.int (0 : Int32))), w1)) else (some (.inl (some (.int (1 : Int32))), w1))))) else (if p1 = 6 then ((ga_gi w1 5 6 p0).bind fun v73 => (some (.inl (some (.int v73)), w1))) else (if p1 = 7 then ((ga_gi w1 5 7 p0).bind fun v75 => (some (.inl (some (.int v75)), w1))) else (if p1 = 8 then ((ga_gi w1 5 8 p0).bind fun v77 => (some (.inl (some (.int v77)), w1))) else (if p1 = 9 then ((ga_gr w1 5 1 p0).bind fun r79 => ((ga_gi w1 1 7 r79).bind fun v80 => (some (.inl (some (.int v80)), w1)))) else (if p1 = 10 then ((ga_gr w1 5 1 p0).bind fun r82 => ((ga_gi w1 1 8 r82).bind fun v83 => (some (.inl (some (.int v83)), w1)))) else (if p1 = 11 then (K47 w1) else (if p1 = 12 then (K47 w1) else (if p1 = 13 then (K47 w1) else (if p1 = 14 then (K47 w1) else (if p1 = 15 then ((ga_gr w1 5 1 p0).bind fun r89 => ((ga_gr w1 1 5 r89).bind fun r90 => ((ga_ai w1 0 r90 (1 : Int32)).bind fun v91 => (some (.inl (some (.int v91)), w1))))) else (if p1 = 16 then ((ga_gr w1 5 1 p0).bind fun r93 => ((ga_gr w1 1 5 r93).bind fun r94 => ((ga_ai w1 0 r94 (2 : Int32)).bind fun v95 => (some (.inl (some (.int v95)), w1))))) else (K47 w1))))))))))))))))))))) ga_up)
set_option maxHeartbeats 4000000 in
set_option maxRecDepth 100000 in
theorem m_L_count (hst : l.stackTraces = false) (F : Nat) (p0 : Nat) (p1 : Int32) (w : ga_W) : ga_M l S0 D gz_cl (gz_tA cT) base b gz_xn y_L_count ws_L_count 7 111 true [.ref p0, .int p1] w (f_L_count F p0 p1 w) := by
  refine ga_enter (cc := c_L_count) (maxL := 2) (ret := (some .int)) hst (by decide) rfl (Nat.le_of_ble_eq_true rfl) ?_
  intro p e R s m args below meth c ad0
  refine ga_sub (lv2 := [(0, .ref p0), (1, .int p1)]) [0, 1] rfl ?_
  unfold f_L_count
  refine ga_iload_n (q := 1) d_L_count_0 rfl rfl ?_
  refine ga_iconst (v := (0 : Int32)) d_L_count_1 (by decide) ?_
  refine ga_bipush (v := (16 : Int32)) d_L_count_2 (by decide) ?_
  refine ga_invS (nA := 3) (av := [.int p1, .int (0 : Int32), .int (16 : Int32)]) (st := []) (m_L_requireWithin hst F p1 (0 : Int32) (16 : Int32) w) (Or.inl rfl) (gz_gS gw_413 gw_414 gw_51 gw_415) rfl (by decide +kernel) rfl (by decide) (by decide) (Nat.le_of_ble_eq_true rfl) d_L_count_4 (ga_vV (fun w1 => ?_)) (fun _ _ => ga_thru rfl)
  refine ga_iload_n (q := 1) d_L_count_7 rfl rfl ?_
  refine ga_join (fun (K47 : ga_W → ga_O) => ∀  (w46 : ga_W), ga_J l S0 D gz_cl (gz_tA cT) base b gz_xn p e R s m args below meth c 2 ws_L_count y_L_count.cls c_L_count (some .int) [] y_L_count.name 7 111 true ad0 w (ga_MQ gz_xn D gz_cl (gz_tA cT) base b s args below ad0 w) 202 [(0, .ref p0), (1, .int p1)] [] w46 (K47 w46)) (fun w46 => ?_) (fun K47 hK47 => ?_)
  · refine ga_aload_n (q := 0) d_L_count_202 rfl rfl ?_
    refine ga_getR (C := "LevelStore") (T := T_L) (N := 9) (k := 1) (ci := 5) (fun x h => List.mem_cons_of_mem _ (iw_L x h)) rfl (by decide) (List.mem_cons_of_mem _ gw_247) d_L_count_203 (fun r48 => ?_)
    refine ga_getR (C := "LevelStore$Levels") (T := T_V) (N := 9) (k := 0) (ci := 1) (fun x h => List.mem_cons_of_mem _ (iw_V x h)) rfl (by decide) (List.mem_cons_of_mem _ gw_209) d_L_count_206 (fun r49 => ?_)
    refine ga_iload_n (q := 1) d_L_count_209 rfl rfl ?_
    refine ga_bipush (v := (11 : Int32)) d_L_count_210 (by decide) ?_
    refine ga_isub d_L_count_212 ?_
    refine ga_invV (nA := 1) (ci := 3) (T := T_S) (N := 5) (av := [.int (p1 - (11 : Int32))]) (a := r49) (st := []) (m_S_tablesOn hst F r49 (p1 - (11 : Int32)) w46) (Or.inl rfl) (gz_gV gw_754 gw_322 gw_323 gw_55 gw_324) rfl ⟨rfl, by decide +kernel⟩ rfl (by decide) (by decide) (Nat.le_of_ble_eq_true rfl) rfl d_L_count_213 (ga_vI (fun v51 w50 => ?_)) (fun _ _ => ga_thru rfl)
    exact ga_iret rfl d_L_count_216
  · refine ga_ite (fun h52 => ?_) (fun h52 => ?_)
    · refine ga_tabIn (x := p1) (off := 84) (tgt := 92) d_L_count_8 (by rw [h52]; decide) (by rw [h52]; decide) (by rw [h52]; rfl) (by decide) ?_
      refine ga_aload_n (q := 0) d_L_count_92 rfl rfl ?_
      refine ga_getI (C := "LevelStore") (T := T_L) (N := 9) (k := 5) (ci := 5) (fun x h => List.mem_cons_of_mem _ (iw_L x h)) rfl (by decide) (List.mem_cons_of_mem _ gw_251) d_L_count_93 (fun v53 => ?_)
      exact ga_iret rfl d_L_count_96
    · refine ga_ite (fun h54 => ?_) (fun h54 => ?_)
      · refine ga_tabIn (x := p1) (off := 89) (tgt := 97) d_L_count_8 (by rw [h54]; decide) (by rw [h54]; decide) (by rw [h54]; rfl) (by decide) ?_
        refine ga_aload_n (q := 0) d_L_count_97 rfl rfl ?_
        refine ga_getR (C := "LevelStore") (T := T_L) (N := 9) (k := 0) (ci := 5) (fun x h => List.mem_cons_of_mem _ (iw_L x h)) rfl (by decide) (List.mem_cons_of_mem _ gw_246) d_L_count_98 (fun r55 => ?_)
        refine ga_getR (C := "LevelStore$Memory") (T := T_M) (N := 4) (k := 0) (ci := 2) (fun x h => List.mem_cons_of_mem _ (iw_M x h)) rfl (by decide) (List.mem_cons_of_mem _ gw_132) d_L_count_101 (fun r56 => ?_)
        refine ga_getI (C := "LevelStore$Entries") (T := T_E) (N := 6) (k := 5) (ci := 0) (fun x h => List.mem_cons_of_mem _ (iw_E x h)) rfl (by decide) (List.mem_cons_of_mem _ gw_114) d_L_count_104 (fun v57 => ?_)
        exact ga_iret rfl d_L_count_107
      · refine ga_ite (fun h58 => ?_) (fun h58 => ?_)
        · refine ga_tabIn (x := p1) (off := 100) (tgt := 108) d_L_count_8 (by rw [h58]; decide) (by rw [h58]; decide) (by rw [h58]; rfl) (by decide) ?_
          refine ga_aload_n (q := 0) d_L_count_108 rfl rfl ?_
          refine ga_getR (C := "LevelStore") (T := T_L) (N := 9) (k := 0) (ci := 5) (fun x h => List.mem_cons_of_mem _ (iw_L x h)) rfl (by decide) (List.mem_cons_of_mem _ gw_246) d_L_count_109 (fun r59 => ?_)
          refine ga_getI (C := "LevelStore$Memory") (T := T_M) (N := 4) (k := 2) (ci := 2) (fun x h => List.mem_cons_of_mem _ (iw_M x h)) rfl (by decide) (List.mem_cons_of_mem _ gw_135) d_L_count_112 (fun v60 => ?_)
          exact ga_iret rfl d_L_count_115
        · refine ga_ite (fun h61 => ?_) (fun h61 => ?_)
          · refine ga_tabIn (x := p1) (off := 108) (tgt := 116) d_L_count_8 (by rw [h61]; decide) (by rw [h61]; decide) (by rw [h61]; rfl) (by decide) ?_
            refine ga_aload_n (q := 0) d_L_count_116 rfl rfl ?_
            refine ga_getR (C := "LevelStore") (T := T_L) (N := 9) (k := 0) (ci := 5) (fun x h => List.mem_cons_of_mem _ (iw_L x h)) rfl (by decide) (List.mem_cons_of_mem _ gw_246) d_L_count_117 (fun r62 => ?_)
            refine ga_getI (C := "LevelStore$Memory") (T := T_M) (N := 4) (k := 3) (ci := 2) (fun x h => List.mem_cons_of_mem _ (iw_M x h)) rfl (by decide) (List.mem_cons_of_mem _ gw_137) d_L_count_120 (fun v63 => ?_)
            exact ga_iret rfl d_L_count_123
          · refine ga_ite (fun h64 => ?_) (fun h64 => ?_)
            · refine ga_tabIn (x := p1) (off := 116) (tgt := 124) d_L_count_8 (by rw [h64]; decide) (by rw [h64]; decide) (by rw [h64]; rfl) (by decide) ?_
              refine ga_aload_n (q := 0) d_L_count_124 rfl rfl ?_
              refine ga_getR (C := "LevelStore") (T := T_L) (N := 9) (k := 1) (ci := 5) (fun x h => List.mem_cons_of_mem _ (iw_L x h)) rfl (by decide) (List.mem_cons_of_mem _ gw_247) d_L_count_125 (fun r65 => ?_)
              refine ga_getR (C := "LevelStore$Levels") (T := T_V) (N := 9) (k := 0) (ci := 1) (fun x h => List.mem_cons_of_mem _ (iw_V x h)) rfl (by decide) (List.mem_cons_of_mem _ gw_209) d_L_count_128 (fun r66 => ?_)
              refine ga_getI (C := "LevelStore$Shelf") (T := T_S) (N := 5) (k := 4) (ci := 3) (fun x h => List.mem_cons_of_mem _ (iw_S x h)) rfl (by decide) (List.mem_cons_of_mem _ gw_175) d_L_count_131 (fun v67 => ?_)
              exact ga_iret rfl d_L_count_134
            · refine ga_ite (fun h68 => ?_) (fun h68 => ?_)
              · refine ga_tabIn (x := p1) (off := 127) (tgt := 135) d_L_count_8 (by rw [h68]; decide) (by rw [h68]; decide) (by rw [h68]; rfl) (by decide) ?_
                refine ga_aload_n (q := 0) d_L_count_135 rfl rfl ?_
                refine ga_getR (C := "LevelStore") (T := T_L) (N := 9) (k := 1) (ci := 5) (fun x h => List.mem_cons_of_mem _ (iw_L x h)) rfl (by decide) (List.mem_cons_of_mem _ gw_247) d_L_count_136 (fun r69 => ?_)
                refine ga_getI (C := "LevelStore$Levels") (T := T_V) (N := 9) (k := 6) (ci := 1) (fun x h => List.mem_cons_of_mem _ (iw_V x h)) rfl (by decide) (List.mem_cons_of_mem _ gw_217) d_L_count_139 (fun v70 => ?_)
                refine ga_if_eq (tgt := 149) d_L_count_142 (by decide) (fun h71 => ?_) (fun h71 => ?_)
                · refine ga_iconst (v := (0 : Int32)) d_L_count_149 (by decide) ?_
                  exact ga_iret rfl d_L_count_150
                · refine ga_iconst (v := (1 : Int32)) d_L_count_145 (by decide) ?_
                  refine ga_goto (tgt := 150) d_L_count_146 (by decide) ?_
                  exact ga_iret rfl d_L_count_150
              · refine ga_ite (fun h72 => ?_) (fun h72 => ?_)
                · refine ga_tabIn (x := p1) (off := 143) (tgt := 151) d_L_count_8 (by rw [h72]; decide) (by rw [h72]; decide) (by rw [h72]; rfl) (by decide) ?_
                  refine ga_aload_n (q := 0) d_L_count_151 rfl rfl ?_
                  refine ga_getI (C := "LevelStore") (T := T_L) (N := 9) (k := 6) (ci := 5) (fun x h => List.mem_cons_of_mem _ (iw_L x h)) rfl (by decide) (List.mem_cons_of_mem _ gw_252) d_L_count_152 (fun v73 => ?_)
                  exact ga_iret rfl d_L_count_155
                · refine ga_ite (fun h74 => ?_) (fun h74 => ?_)
                  · refine ga_tabIn (x := p1) (off := 148) (tgt := 156) d_L_count_8 (by rw [h74]; decide) (by rw [h74]; decide) (by rw [h74]; rfl) (by decide) ?_
                    refine ga_aload_n (q := 0) d_L_count_156 rfl rfl ?_
                    refine ga_getI (C := "LevelStore") (T := T_L) (N := 9) (k := 7) (ci := 5) (fun x h => List.mem_cons_of_mem _ (iw_L x h)) rfl (by decide) (List.mem_cons_of_mem _ gw_253) d_L_count_157 (fun v75 => ?_)
                    exact ga_iret rfl d_L_count_160
                  · refine ga_ite (fun h76 => ?_) (fun h76 => ?_)
                    · refine ga_tabIn (x := p1) (off := 153) (tgt := 161) d_L_count_8 (by rw [h76]; decide) (by rw [h76]; decide) (by rw [h76]; rfl) (by decide) ?_
                      refine ga_aload_n (q := 0) d_L_count_161 rfl rfl ?_
                      refine ga_getI (C := "LevelStore") (T := T_L) (N := 9) (k := 8) (ci := 5) (fun x h => List.mem_cons_of_mem _ (iw_L x h)) rfl (by decide) (List.mem_cons_of_mem _ gw_254) d_L_count_162 (fun v77 => ?_)
                      exact ga_iret rfl d_L_count_165
                    · refine ga_ite (fun h78 => ?_) (fun h78 => ?_)
                      · refine ga_tabIn (x := p1) (off := 158) (tgt := 166) d_L_count_8 (by rw [h78]; decide) (by rw [h78]; decide) (by rw [h78]; rfl) (by decide) ?_
                        refine ga_aload_n (q := 0) d_L_count_166 rfl rfl ?_
                        refine ga_getR (C := "LevelStore") (T := T_L) (N := 9) (k := 1) (ci := 5) (fun x h => List.mem_cons_of_mem _ (iw_L x h)) rfl (by decide) (List.mem_cons_of_mem _ gw_247) d_L_count_167 (fun r79 => ?_)
                        refine ga_getI (C := "LevelStore$Levels") (T := T_V) (N := 9) (k := 7) (ci := 1) (fun x h => List.mem_cons_of_mem _ (iw_V x h)) rfl (by decide) (List.mem_cons_of_mem _ gw_219) d_L_count_170 (fun v80 => ?_)
                        exact ga_iret rfl d_L_count_173
                      · refine ga_ite (fun h81 => ?_) (fun h81 => ?_)
                        · refine ga_tabIn (x := p1) (off := 166) (tgt := 174) d_L_count_8 (by rw [h81]; decide) (by rw [h81]; decide) (by rw [h81]; rfl) (by decide) ?_
                          refine ga_aload_n (q := 0) d_L_count_174 rfl rfl ?_
                          refine ga_getR (C := "LevelStore") (T := T_L) (N := 9) (k := 1) (ci := 5) (fun x h => List.mem_cons_of_mem _ (iw_L x h)) rfl (by decide) (List.mem_cons_of_mem _ gw_247) d_L_count_175 (fun r82 => ?_)
                          refine ga_getI (C := "LevelStore$Levels") (T := T_V) (N := 9) (k := 8) (ci := 1) (fun x h => List.mem_cons_of_mem _ (iw_V x h)) rfl (by decide) (List.mem_cons_of_mem _ gw_221) d_L_count_178 (fun v83 => ?_)
                          exact ga_iret rfl d_L_count_181
                        · refine ga_ite (fun h84 => ?_) (fun h84 => ?_)
                          · refine ga_tabIn (x := p1) (off := 194) (tgt := 202) d_L_count_8 (by rw [h84]; decide) (by rw [h84]; decide) (by rw [h84]; rfl) (by decide) ?_
                            exact hK47 _
                          · refine ga_ite (fun h85 => ?_) (fun h85 => ?_)
                            · refine ga_tabIn (x := p1) (off := 194) (tgt := 202) d_L_count_8 (by rw [h85]; decide) (by rw [h85]; decide) (by rw [h85]; rfl) (by decide) ?_
                              exact hK47 _
                            · refine ga_ite (fun h86 => ?_) (fun h86 => ?_)
                              · refine ga_tabIn (x := p1) (off := 194) (tgt := 202) d_L_count_8 (by rw [h86]; decide) (by rw [h86]; decide) (by rw [h86]; rfl) (by decide) ?_
                                exact hK47 _
                              · refine ga_ite (fun h87 => ?_) (fun h87 => ?_)
                                · refine ga_tabIn (x := p1) (off := 194) (tgt := 202) d_L_count_8 (by rw [h87]; decide) (by rw [h87]; decide) (by rw [h87]; rfl) (by decide) ?_
                                  exact hK47 _
                                · refine ga_ite (fun h88 => ?_) (fun h88 => ?_)
                                  · refine ga_tabIn (x := p1) (off := 174) (tgt := 182) d_L_count_8 (by rw [h88]; decide) (by rw [h88]; decide) (by rw [h88]; rfl) (by decide) ?_
                                    refine ga_aload_n (q := 0) d_L_count_182 rfl rfl ?_
                                    refine ga_getR (C := "LevelStore") (T := T_L) (N := 9) (k := 1) (ci := 5) (fun x h => List.mem_cons_of_mem _ (iw_L x h)) rfl (by decide) (List.mem_cons_of_mem _ gw_247) d_L_count_183 (fun r89 => ?_)
                                    refine ga_getR (C := "LevelStore$Levels") (T := T_V) (N := 9) (k := 5) (ci := 1) (fun x h => List.mem_cons_of_mem _ (iw_V x h)) rfl (by decide) (List.mem_cons_of_mem _ gw_215) d_L_count_186 (fun r90 => ?_)
                                    refine ga_iconst (v := (1 : Int32)) d_L_count_189 (by decide) ?_
                                    refine ga_ldI (t := 0) rfl d_L_count_190 (fun v91 => ?_)
                                    exact ga_iret rfl d_L_count_191
                                  · refine ga_ite (fun h92 => ?_) (fun h92 => ?_)
                                    · refine ga_tabIn (x := p1) (off := 184) (tgt := 192) d_L_count_8 (by rw [h92]; decide) (by rw [h92]; decide) (by rw [h92]; rfl) (by decide) ?_
                                      refine ga_aload_n (q := 0) d_L_count_192 rfl rfl ?_
                                      refine ga_getR (C := "LevelStore") (T := T_L) (N := 9) (k := 1) (ci := 5) (fun x h => List.mem_cons_of_mem _ (iw_L x h)) rfl (by decide) (List.mem_cons_of_mem _ gw_247) d_L_count_193 (fun r93 => ?_)
                                      refine ga_getR (C := "LevelStore$Levels") (T := T_V) (N := 9) (k := 5) (ci := 1) (fun x h => List.mem_cons_of_mem _ (iw_V x h)) rfl (by decide) (List.mem_cons_of_mem _ gw_215) d_L_count_196 (fun r94 => ?_)
                                      refine ga_iconst (v := (2 : Int32)) d_L_count_199 (by decide) ?_
                                      refine ga_ldI (t := 0) rfl d_L_count_200 (fun v95 => ?_)
                                      exact ga_iret rfl d_L_count_201
                                    · refine ga_tabOut (x := p1) (tgt := 202) d_L_count_8 (ga_out16 h52 h54 h58 h61 h64 h68 h72 h74 h76 h78 h81 h84 h85 h86 h87 h88 h92) (by decide) ?_
                                      exact hK47 _
end GM9
