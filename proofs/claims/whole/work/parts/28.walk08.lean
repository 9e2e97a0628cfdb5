/-! WALKS: L_get, W_get, L_hasValue, L_next, W_next, L_snapshot, W_snapshot, L_release, W_release, S_sizeOf, S_blocksOf -/
section GM8
variable {l : Launch} {S0 : State} {D : va_G} {cT : Nat → ClassId} {base b : Nat} {p : Program} {e : Env} {R : Room} {s : State} {m : MethodId} {args : Array Value} {below : List Frame} {meth : Method} {c : Code} {ad0 : Nat → Nat} {w0 : ga_W}
noncomputable def f_L_get (F : Nat) (p0 : Nat) (p1 : Int32) (p2 : Int32) (w : ga_W) : ga_O :=
  (ga_c (f_L_requireWithin F p1 (0 : Int32) (63 : Int32) w) (ga_kV fun w1 => (if ga_is w1 5 p0 = true then ga_c (f_L_numberSeenBy F p0 p2 w1) (ga_kI fun v3 w2 => ((ga_gi w2 5 8 p0).bind fun v4 => ((ga_put w2 5 8 p0 (.int (v4 + (1 : Int32)))).bind fun w5 => ((ga_gr w5 5 0 p0).bind fun r6 => (if ga_is w5 2 r6 = true then ga_c (f_M_rowOf F r6 p1 v3 w5) (ga_kI fun v8 w7 => (if v8 = (-1 : Int32) then (if ga_is w7 5 p0 = true then ga_c (f_L_lookInTables F p0 p1 v3 w7) (ga_kI fun v11 w10 => (if v11 = (-1 : Int32) then (some (.inr 3, w10.1, w10.2.1 + 1, w10.2.2 + 6)) else ((ga_gr w10 5 1 p0).bind fun r13 => ((ga_gr w10 1 0 r13).bind fun r14 => ((ga_gr w10 3 0 r14).bind fun r15 => (ga_c (f_L_valueIn F r15 v11 w10) (ga_kI fun v17 w16 => (some (.inl (some (.int v17)), w16))) ga_up)))))) ga_up else none) else ((ga_gr w7 5 0 p0).bind fun r18 => ((ga_gr w7 2 0 r18).bind fun r19 => (ga_c (f_L_valueIn F r19 v8 w7) (ga_kI fun v21 w20 => (some (.inl (some (.int v21)), w20))) ga_up))))) ga_up else none))))) ga_up else none)) ga_up)
set_option maxHeartbeats 4000000 in
set_option maxRecDepth 100000 in
theorem m_L_get (hst : l.stackTraces = false) (F : Nat) (p0 : Nat) (p1 : Int32) (p2 : Int32) (w : ga_W) : ga_M l S0 D gz_cl (gz_tA cT) base b gz_xn y_L_get ws_L_get 8 141 true [.ref p0, .int p1, .int p2] w (f_L_get F p0 p1 p2 w) := by
  refine ga_enter (cc := c_L_get) (maxL := 5) (ret := (some .int)) hst (by decide) rfl (Nat.le_of_ble_eq_true rfl) ?_
  intro p e R s m args below meth c ad0
  refine ga_sub (lv2 := [(0, .ref p0), (1, .int p1), (2, .int p2)]) [0, 1, 2] rfl ?_
  unfold f_L_get
  refine ga_iload_n (q := 1) d_L_get_0 rfl rfl ?_
  refine ga_iconst (v := (0 : Int32)) d_L_get_1 (by decide) ?_
  refine ga_bipush (v := (63 : Int32)) d_L_get_2 (by decide) ?_
  refine ga_invS (nA := 3) (av := [.int p1, .int (0 : Int32), .int (63 : Int32)]) (st := []) (m_L_requireWithin hst F p1 (0 : Int32) (63 : Int32) w) (Or.inl rfl) (gz_gS gw_413 gw_414 gw_51 gw_415) rfl (by decide +kernel) rfl (by decide) (by decide) (Nat.le_of_ble_eq_true rfl) d_L_get_4 (ga_vV (fun w1 => ?_)) (fun _ _ => ga_thru rfl)
  refine ga_aload_n (q := 0) d_L_get_7 rfl rfl ?_
  refine ga_iload_n (q := 2) d_L_get_8 rfl rfl ?_
  refine ga_invV (nA := 1) (ci := 5) (T := T_L) (N := 9) (av := [.int p2]) (a := p0) (st := []) (m_L_numberSeenBy hst F p0 p2 w1) (Or.inl rfl) (gz_gV gw_595 gw_597 gw_14 gw_51 gw_598) rfl ⟨rfl, by decide +kernel⟩ rfl (by decide) (by decide) (Nat.le_of_ble_eq_true rfl) rfl d_L_get_9 (ga_vI (fun v3 w2 => ?_)) (fun _ _ => ga_thru rfl)
  refine ga_istore_n (lv2 := [(3, .int v3), (0, .ref p0), (1, .int p1), (2, .int p2)]) d_L_get_12 rfl (by decide) rfl ?_
  refine ga_aload_n (q := 1) d_L_get_13 rfl rfl ?_
  refine ga_dup d_L_get_14 rfl ?_
  refine ga_getI (C := "LevelStore") (T := T_L) (N := 9) (k := 8) (ci := 5) (fun x h => List.mem_cons_of_mem _ (iw_L x h)) rfl (by decide) (List.mem_cons_of_mem _ gw_254) d_L_get_15 (fun v4 => ?_)
  refine ga_iconst (v := (1 : Int32)) d_L_get_18 (by decide) ?_
  refine ga_iadd d_L_get_19 ?_
  refine ga_putB (C := "LevelStore") (T := T_L) (N := 9) (k := 8) (ci := 5) (ty0 := ty_L) (fun x h => List.mem_cons_of_mem _ (iw_L x h)) ty_L_ok nm_L rfl (by decide) (List.mem_cons_of_mem _ gw_254) (Or.inl rfl) (fun _ => ⟨rfl, rfl⟩) d_L_get_20 (fun w5 => ?_)
  refine ga_aload_n (q := 1) d_L_get_23 rfl rfl ?_
  refine ga_getR (C := "LevelStore") (T := T_L) (N := 9) (k := 0) (ci := 5) (fun x h => List.mem_cons_of_mem _ (iw_L x h)) rfl (by decide) (List.mem_cons_of_mem _ gw_246) d_L_get_24 (fun r6 => ?_)
  refine ga_iload_n (q := 2) d_L_get_27 rfl rfl ?_
  refine ga_iload_n (q := 0) d_L_get_28 rfl rfl ?_
  refine ga_invV (nA := 2) (ci := 2) (T := T_M) (N := 4) (av := [.int p1, .int v3]) (a := r6) (st := []) (m_M_rowOf hst F r6 p1 v3 w5) (Or.inl rfl) (gz_gV gw_599 gw_600 gw_601 gw_52 gw_602) rfl ⟨rfl, by decide +kernel⟩ rfl (by decide) (by decide) (Nat.le_of_ble_eq_true rfl) rfl d_L_get_29 (ga_vI (fun v8 w7 => ?_)) (fun _ _ => ga_thru rfl)
  refine ga_istore (lv2 := [(4, .int v8), (3, .int v3), (0, .ref p0), (1, .int p1), (2, .int p2)]) d_L_get_32 (by decide) rfl ?_
  refine ga_iload (q := 0) d_L_get_34 rfl ?_
  refine ga_iconst (v := (-1 : Int32)) d_L_get_36 (by decide) ?_
  refine ga_icmp_eq (tgt := 53) d_L_get_37 (by decide) (fun h9 => ?_) (fun h9 => ?_)
  · refine ga_aload_n (q := 2) d_L_get_53 rfl rfl ?_
    refine ga_iload_n (q := 3) d_L_get_54 rfl rfl ?_
    refine ga_iload_n (q := 1) d_L_get_55 rfl rfl ?_
    refine ga_invV (nA := 2) (ci := 5) (T := T_L) (N := 9) (av := [.int p1, .int v3]) (a := p0) (st := []) (m_L_lookInTables hst F p0 p1 v3 w7) (Or.inl rfl) (gz_gV gw_621 gw_623 gw_15 gw_51 gw_624) rfl ⟨rfl, by decide +kernel⟩ rfl (by decide) (by decide) (Nat.le_of_ble_eq_true rfl) rfl d_L_get_56 (ga_vI (fun v11 w10 => ?_)) (fun _ _ => ga_thru rfl)
    refine ga_istore (lv2 := [(4, .int v11), (3, .int v3), (0, .ref p0), (1, .int p1), (2, .int p2)]) d_L_get_59 (by decide) rfl ?_
    refine ga_iload (q := 0) d_L_get_61 rfl ?_
    refine ga_iconst (v := (-1 : Int32)) d_L_get_63 (by decide) ?_
    refine ga_icmp_ne (tgt := 75) d_L_get_64 (by decide) (fun h12 => ?_) (fun h12 => ?_)
    · exact ga_throw (x := 3) (names := gz_ch) rfl (by decide +kernel) gz_chf gl_606 gl_66 (gz_own3 gl_615) (by decide) (Nat.le_of_ble_eq_true rfl) d_L_get_67 d_L_get_70 d_L_get_71 d_L_get_74
    · refine ga_aload_n (q := 2) d_L_get_75 rfl rfl ?_
      refine ga_getR (C := "LevelStore") (T := T_L) (N := 9) (k := 1) (ci := 5) (fun x h => List.mem_cons_of_mem _ (iw_L x h)) rfl (by decide) (List.mem_cons_of_mem _ gw_247) d_L_get_76 (fun r13 => ?_)
      refine ga_getR (C := "LevelStore$Levels") (T := T_V) (N := 9) (k := 0) (ci := 1) (fun x h => List.mem_cons_of_mem _ (iw_V x h)) rfl (by decide) (List.mem_cons_of_mem _ gw_209) d_L_get_79 (fun r14 => ?_)
      refine ga_getR (C := "LevelStore$Shelf") (T := T_S) (N := 5) (k := 0) (ci := 3) (fun x h => List.mem_cons_of_mem _ (iw_S x h)) rfl (by decide) (List.mem_cons_of_mem _ gw_163) d_L_get_82 (fun r15 => ?_)
      refine ga_iload (q := 0) d_L_get_85 rfl ?_
      refine ga_invS (nA := 2) (av := [.ref r15, .int v11]) (st := []) (m_L_valueIn hst F r15 v11 w10) (Or.inl rfl) (gz_gS gw_603 gw_604 gw_51 gw_605) rfl (by decide +kernel) rfl (by decide) (by decide) (Nat.le_of_ble_eq_true rfl) d_L_get_87 (ga_vI (fun v17 w16 => ?_)) (fun _ _ => ga_thru rfl)
      exact ga_iret rfl d_L_get_90
  · refine ga_aload_n (q := 2) d_L_get_40 rfl rfl ?_
    refine ga_getR (C := "LevelStore") (T := T_L) (N := 9) (k := 0) (ci := 5) (fun x h => List.mem_cons_of_mem _ (iw_L x h)) rfl (by decide) (List.mem_cons_of_mem _ gw_246) d_L_get_41 (fun r18 => ?_)
    refine ga_getR (C := "LevelStore$Memory") (T := T_M) (N := 4) (k := 0) (ci := 2) (fun x h => List.mem_cons_of_mem _ (iw_M x h)) rfl (by decide) (List.mem_cons_of_mem _ gw_132) d_L_get_44 (fun r19 => ?_)
    refine ga_iload (q := 0) d_L_get_47 rfl ?_
    refine ga_invS (nA := 2) (av := [.ref r19, .int v8]) (st := []) (m_L_valueIn hst F r19 v8 w7) (Or.inl rfl) (gz_gS gw_603 gw_604 gw_51 gw_605) rfl (by decide +kernel) rfl (by decide) (by decide) (Nat.le_of_ble_eq_true rfl) d_L_get_49 (ga_vI (fun v21 w20 => ?_)) (fun _ _ => ga_thru rfl)
    exact ga_iret rfl d_L_get_52
noncomputable def f_W_get (F : Nat) (p0 : Nat) (p1 : Int32) (p2 : Int32) (p3 : Nat) (w : ga_W) : ga_O :=
  (if ga_is w 5 p0 = true then ga_c (f_L_get F p0 p1 p2 w) (ga_kI fun v2 w1 => ((ga_sl w1 2 p3 (0 : Int32) (Int32.toInt64 v2)).bind fun w3 => (some (.inl (some (.int (0 : Int32))), w3)))) (fun x5 w4 => (if x5 = 0 then (some (.inl (some (.int (1 : Int32))), w4)) else (if x5 = 1 then (some (.inl (some (.int (2 : Int32))), w4)) else (if x5 = 2 then (some (.inl (some (.int (3 : Int32))), w4)) else (if x5 = 3 then (some (.inl (some (.int (4 : Int32))), w4)) else none))))) else none)
set_option maxHeartbeats 4000000 in
set_option maxRecDepth 100000 in
theorem m_W_get (hst : l.stackTraces = false) (F : Nat) (p0 : Nat) (p1 : Int32) (p2 : Int32) (p3 : Nat) (w : ga_W) : ga_M l S0 D gz_cl (gz_tA cT) base b gz_xn y_W_get ws_W_get 9 165 true [.ref p0, .int p1, .int p2, .ref p3] w (f_W_get F p0 p1 p2 p3 w) := by
  refine ga_enterH (hh := [(0, 10, 13, 13), (0, 10, 17, 15), (0, 10, 21, 17), (0, 10, 25, 40)]) (cc := c_W_get) (maxL := 5) (ret := (some .int)) hst (by decide) rfl (Nat.le_of_ble_eq_true rfl) ?_
  intro p e R s m args below meth c ad0
  refine ga_sub (lv2 := [(0, .ref p0), (1, .int p1), (2, .int p2), (3, .ref p3)]) [0, 1, 2, 3] rfl ?_
  unfold f_W_get
  refine ga_aload_n (q := 3) d_W_get_0 rfl rfl ?_
  refine ga_iconst (v := (0 : Int32)) d_W_get_1 (by decide) ?_
  refine ga_aload_n (q := 0) d_W_get_2 rfl rfl ?_
  refine ga_iload_n (q := 1) d_W_get_3 rfl rfl ?_
  refine ga_iload_n (q := 2) d_W_get_4 rfl rfl ?_
  refine ga_invV (nA := 2) (ci := 5) (T := T_L) (N := 9) (av := [.int p1, .int p2]) (a := p0) (st := [.int (0 : Int32), .ref p3]) (m_L_get hst F p0 p1 p2 w) (Or.inl rfl) (gz_gV gw_591 gw_592 gw_593 gw_51 gw_594) rfl ⟨rfl, by decide +kernel⟩ rfl (by decide) (by decide) (Nat.le_of_ble_eq_true rfl) rfl d_W_get_5 (ga_vI (fun v2 w1 => ?_)) ?_
  · refine ga_i2l d_W_get_8 ?_
    refine ga_stL (t := 2) rfl d_W_get_9 (fun w3 => ?_)
    refine ga_goto (tgt := 29) d_W_get_10 (by decide) ?_
    refine ga_iconst (v := (0 : Int32)) d_W_get_29 (by decide) ?_
    exact ga_iret rfl d_W_get_30
  · intro x5 w4
    refine ga_iteX (fun h6 => ?_) (fun h6 => ?_)
    · subst h6
      refine ga_catchA (i := 4) (lv2 := [(0, .ref p0), (1, .int p1), (2, .int p2), (3, .ref p3)]) [] ⟨0, 10, 13, 13⟩ [⟨0, 10, 17, 15⟩, ⟨0, 10, 21, 17⟩, ⟨0, 10, 25, 40⟩] rfl (fun _ h => nomatch h) (by decide) (by decide) (List.mem_cons_of_mem _ gw_402) gl_418 d_W_get_13 (by decide) rfl ?_
      refine ga_iconst (v := (1 : Int32)) d_W_get_15 (by decide) ?_
      exact ga_iret rfl d_W_get_16
    · refine ga_iteX (fun h7 => ?_) (fun h7 => ?_)
      · subst h7
        refine ga_catchA (i := 4) (lv2 := [(0, .ref p0), (1, .int p1), (2, .int p2), (3, .ref p3)]) [⟨0, 10, 13, 13⟩] ⟨0, 10, 17, 15⟩ [⟨0, 10, 21, 17⟩, ⟨0, 10, 25, 40⟩] rfl (ga_ps1 "java/lang/IllegalArgumentException" (List.mem_cons_of_mem _ gw_402) (gz_nc (by decide +kernel))) (by decide) (by decide) (List.mem_cons_of_mem _ gw_403) gl_511 d_W_get_17 (by decide) rfl ?_
        refine ga_iconst (v := (2 : Int32)) d_W_get_19 (by decide) ?_
        exact ga_iret rfl d_W_get_20
      · refine ga_iteX (fun h8 => ?_) (fun h8 => ?_)
        · subst h8
          refine ga_catchA (i := 4) (lv2 := [(0, .ref p0), (1, .int p1), (2, .int p2), (3, .ref p3)]) [⟨0, 10, 13, 13⟩, ⟨0, 10, 17, 15⟩] ⟨0, 10, 21, 17⟩ [⟨0, 10, 25, 40⟩] rfl (ga_ps2 "java/lang/IllegalArgumentException" (List.mem_cons_of_mem _ gw_402) (gz_nc (by decide +kernel)) "java/lang/IllegalStateException" (List.mem_cons_of_mem _ gw_403) (gz_nc (by decide +kernel))) (by decide) (by decide) (List.mem_cons_of_mem _ gw_404) gl_484 d_W_get_21 (by decide) rfl ?_
          refine ga_iconst (v := (3 : Int32)) d_W_get_23 (by decide) ?_
          exact ga_iret rfl d_W_get_24
        · refine ga_iteX (fun h9 => ?_) (fun h9 => ?_)
          · subst h9
            refine ga_catchA (i := 4) (lv2 := [(0, .ref p0), (1, .int p1), (2, .int p2), (3, .ref p3)]) [⟨0, 10, 13, 13⟩, ⟨0, 10, 17, 15⟩, ⟨0, 10, 21, 17⟩] ⟨0, 10, 25, 40⟩ [] rfl (ga_ps3 "java/lang/IllegalArgumentException" (List.mem_cons_of_mem _ gw_402) (gz_nc (by decide +kernel)) "java/lang/IllegalStateException" (List.mem_cons_of_mem _ gw_403) (gz_nc (by decide +kernel)) "java/lang/UnsupportedOperationException" (List.mem_cons_of_mem _ gw_404) (gz_nc (by decide +kernel))) (by decide) (by decide) (List.mem_cons_of_mem _ gw_590) gl_608 d_W_get_25 (by decide) rfl ?_
            refine ga_iconst (v := (4 : Int32)) d_W_get_27 (by decide) ?_
            exact ga_iret rfl d_W_get_28
          · exact (fun _ _ h => nomatch h)
noncomputable def f_L_hasValue_48 (F : Nat) (x1 : Int32) (x2 : Int32) (x4 : Nat) : Nat → Int32 → ga_W → ga_O
  | 0, _, _ => none
  | n + 1, x5, w => ((ga_gi w 3 4 x4).bind fun v1 => (if v1 ≤ x5 then (some (.inl (some (.int (0 : Int32))), w)) else (if ga_is w 3 x4 = true then ga_c (f_S_spans F x4 x5 x1 w) (ga_kI fun v4 w3 => (if v4 = 0 then (f_L_hasValue_48 F x1 x2 x4 n (x5 + (1 : Int32)) w3) else ((ga_gr w3 3 0 x4).bind fun r6 => ((ga_gr w3 3 3 x4).bind fun r7 => ((ga_ai w3 0 r7 x5).bind fun v8 => ((ga_gr w3 3 3 x4).bind fun r9 => ((ga_ai w3 0 r9 (x5 + (1 : Int32))).bind fun v10 => (if ga_is w3 0 r6 = true then ga_c (f_E_rowOf F r6 x1 x2 v8 v10 w3) (ga_kI fun v12 w11 => (if v12 = (-1 : Int32) then (f_L_hasValue_48 F x1 x2 x4 n (x5 + (1 : Int32)) w11) else ((ga_gr w11 3 0 x4).bind fun r14 => ((ga_gr w11 0 3 r14).bind fun r15 => ((ga_az w11 1 r15 v12).bind fun v16 => (if v16 = 0 then (some (.inl (some (.int (1 : Int32))), w11)) else (some (.inl (some (.int (0 : Int32))), w11)))))))) ga_up else none)))))))) ga_up else none)))
noncomputable def f_L_hasValue (F : Nat) (p0 : Nat) (p1 : Int32) (p2 : Int32) (w : ga_W) : ga_O :=
  ((ga_gr w 5 0 p0).bind fun r1 => (if ga_is w 2 r1 = true then ga_c (f_M_rowOf F r1 p1 p2 w) (ga_kI fun v3 w2 => (if v3 = (-1 : Int32) then ((ga_gr w2 5 1 p0).bind fun r5 => ((ga_gr w2 1 0 r5).bind fun r6 => (f_L_hasValue_48 F p1 p2 r6 F (0 : Int32) w2))) else ((ga_gr w2 5 0 p0).bind fun r7 => ((ga_gr w2 2 0 r7).bind fun r8 => ((ga_gr w2 0 3 r8).bind fun r9 => ((ga_az w2 1 r9 v3).bind fun v10 => (if v10 = 0 then (some (.inl (some (.int (1 : Int32))), w2)) else (some (.inl (some (.int (0 : Int32))), w2))))))))) ga_up else none))
set_option maxHeartbeats 4000000 in
set_option maxRecDepth 100000 in
theorem h_L_hasValue_48 (hst : l.stackTraces = false) (F : Nat) (x1 : Int32) (x2 : Int32) (x4 : Nat) : ∀ (n : Nat) (x5 : Int32) (w : ga_W), ga_J l S0 D gz_cl (gz_tA cT) base b gz_xn p e R s m args below meth c 6 ws_L_hasValue y_L_hasValue.cls c_L_hasValue (some .boolean) [] y_L_hasValue.name 1 25 true ad0 w0 (ga_MQ gz_xn D gz_cl (gz_tA cT) base b s args below ad0 w0) 48 [(1, .int x1), (2, .int x2), (4, .ref x4), (5, .int x5)] [] w (f_L_hasValue_48 F x1 x2 x4 n x5 w) := by
  intro n
  induction n with
  | zero => intro x5 w; exact ga_no
  | succ n ih =>
    intro x5 w
    rw [f_L_hasValue_48]
    refine ga_iload (q := 3) d_L_hasValue_48 rfl ?_
    refine ga_aload (q := 2) d_L_hasValue_50 rfl ?_
    refine ga_getI (C := "LevelStore$Shelf") (T := T_S) (N := 5) (k := 4) (ci := 3) (fun x h => List.mem_cons_of_mem _ (iw_S x h)) rfl (by decide) (List.mem_cons_of_mem _ gw_175) d_L_hasValue_52 (fun v1 => ?_)
    refine ga_icmp_ge (tgt := 128) d_L_hasValue_55 (by decide) (fun h2 => ?_) (fun h2 => ?_)
    · refine ga_iconst (v := (0 : Int32)) d_L_hasValue_128 (by decide) ?_
      exact ga_zret rfl rfl d_L_hasValue_129
    · refine ga_aload (q := 2) d_L_hasValue_58 rfl ?_
      refine ga_iload (q := 3) d_L_hasValue_60 rfl ?_
      refine ga_iload_n (q := 0) d_L_hasValue_62 rfl rfl ?_
      refine ga_invV (nA := 2) (ci := 3) (T := T_S) (N := 5) (av := [.int x5, .int x1]) (a := x4) (st := []) (m_S_spans hst F x4 x5 x1 w) (Or.inl rfl) (gz_gV gw_625 gw_392 gw_393 gw_55 gw_394) rfl ⟨rfl, by decide +kernel⟩ rfl (by decide) (by decide) (Nat.le_of_ble_eq_true rfl) rfl d_L_hasValue_63 (ga_vI (fun v4 w3 => ?_)) (fun _ _ => ga_thru rfl)
      refine ga_if_eq (tgt := 122) d_L_hasValue_66 (by decide) (fun h5 => ?_) (fun h5 => ?_)
      · refine ga_iinc (q := 3) (v := (x5 + (1 : Int32))) (lv2 := [(5, .int (x5 + (1 : Int32))), (1, .int x1), (2, .int x2), (4, .ref x4)]) d_L_hasValue_122 rfl rfl (by decide) rfl ?_
        refine ga_goto (tgt := 48) d_L_hasValue_125 (by decide) ?_
        refine ga_sub (lv2 := [(1, .int x1), (2, .int x2), (4, .ref x4), (5, .int (x5 + (1 : Int32)))]) [1, 2, 3, 0] rfl ?_
        exact ih _ _
      · refine ga_aload (q := 2) d_L_hasValue_69 rfl ?_
        refine ga_getR (C := "LevelStore$Shelf") (T := T_S) (N := 5) (k := 0) (ci := 3) (fun x h => List.mem_cons_of_mem _ (iw_S x h)) rfl (by decide) (List.mem_cons_of_mem _ gw_163) d_L_hasValue_71 (fun r6 => ?_)
        refine ga_iload_n (q := 0) d_L_hasValue_74 rfl rfl ?_
        refine ga_iload_n (q := 1) d_L_hasValue_75 rfl rfl ?_
        refine ga_aload (q := 2) d_L_hasValue_76 rfl ?_
        refine ga_getR (C := "LevelStore$Shelf") (T := T_S) (N := 5) (k := 3) (ci := 3) (fun x h => List.mem_cons_of_mem _ (iw_S x h)) rfl (by decide) (List.mem_cons_of_mem _ gw_172) d_L_hasValue_78 (fun r7 => ?_)
        refine ga_iload (q := 3) d_L_hasValue_81 rfl ?_
        refine ga_ldI (t := 0) rfl d_L_hasValue_83 (fun v8 => ?_)
        refine ga_aload (q := 2) d_L_hasValue_84 rfl ?_
        refine ga_getR (C := "LevelStore$Shelf") (T := T_S) (N := 5) (k := 3) (ci := 3) (fun x h => List.mem_cons_of_mem _ (iw_S x h)) rfl (by decide) (List.mem_cons_of_mem _ gw_172) d_L_hasValue_86 (fun r9 => ?_)
        refine ga_iload (q := 3) d_L_hasValue_89 rfl ?_
        refine ga_iconst (v := (1 : Int32)) d_L_hasValue_91 (by decide) ?_
        refine ga_iadd d_L_hasValue_92 ?_
        refine ga_ldI (t := 0) rfl d_L_hasValue_93 (fun v10 => ?_)
        refine ga_invV (nA := 4) (ci := 0) (T := T_E) (N := 6) (av := [.int x1, .int x2, .int v8, .int v10]) (a := r6) (st := []) (m_E_rowOf hst F r6 x1 x2 v8 v10 w3) (Or.inl rfl) (gz_gV gw_644 gw_645 gw_646 gw_53 gw_647) rfl ⟨rfl, by decide +kernel⟩ rfl (by decide) (by decide) (Nat.le_of_ble_eq_true rfl) rfl d_L_hasValue_94 (ga_vI (fun v12 w11 => ?_)) (fun _ _ => ga_thru rfl)
        refine ga_istore_n (lv2 := [(3, .int v12), (1, .int x1), (2, .int x2), (4, .ref x4), (5, .int x5)]) d_L_hasValue_97 rfl (by decide) rfl ?_
        refine ga_iload_n (q := 0) d_L_hasValue_98 rfl rfl ?_
        refine ga_iconst (v := (-1 : Int32)) d_L_hasValue_99 (by decide) ?_
        refine ga_icmp_eq (tgt := 122) d_L_hasValue_100 (by decide) (fun h13 => ?_) (fun h13 => ?_)
        · refine ga_iinc (q := 4) (v := (x5 + (1 : Int32))) (lv2 := [(5, .int (x5 + (1 : Int32))), (3, .int v12), (1, .int x1), (2, .int x2), (4, .ref x4)]) d_L_hasValue_122 rfl rfl (by decide) rfl ?_
          refine ga_goto (tgt := 48) d_L_hasValue_125 (by decide) ?_
          refine ga_sub (lv2 := [(1, .int x1), (2, .int x2), (4, .ref x4), (5, .int (x5 + (1 : Int32)))]) [2, 3, 4, 0] rfl ?_
          exact ih _ _
        · refine ga_aload (q := 3) d_L_hasValue_103 rfl ?_
          refine ga_getR (C := "LevelStore$Shelf") (T := T_S) (N := 5) (k := 0) (ci := 3) (fun x h => List.mem_cons_of_mem _ (iw_S x h)) rfl (by decide) (List.mem_cons_of_mem _ gw_163) d_L_hasValue_105 (fun r14 => ?_)
          refine ga_getR (C := "LevelStore$Entries") (T := T_E) (N := 6) (k := 3) (ci := 0) (fun x h => List.mem_cons_of_mem _ (iw_E x h)) rfl (by decide) (List.mem_cons_of_mem _ gw_105) d_L_hasValue_108 (fun r15 => ?_)
          refine ga_iload_n (q := 0) d_L_hasValue_111 rfl rfl ?_
          refine ga_ldZ (t := 1) rfl d_L_hasValue_112 (fun v16 => ?_)
          refine ga_if_ne (tgt := 120) d_L_hasValue_113 (by decide) (fun h17 => ?_) (fun h17 => ?_)
          · refine ga_iconst (v := (1 : Int32)) d_L_hasValue_116 (by decide) ?_
            refine ga_goto (tgt := 121) d_L_hasValue_117 (by decide) ?_
            exact ga_zret rfl rfl d_L_hasValue_121
          · refine ga_iconst (v := (0 : Int32)) d_L_hasValue_120 (by decide) ?_
            exact ga_zret rfl rfl d_L_hasValue_121
set_option maxHeartbeats 4000000 in
set_option maxRecDepth 100000 in
theorem m_L_hasValue (hst : l.stackTraces = false) (F : Nat) (p0 : Nat) (p1 : Int32) (p2 : Int32) (w : ga_W) : ga_M l S0 D gz_cl (gz_tA cT) base b gz_xn y_L_hasValue ws_L_hasValue 1 25 true [.ref p0, .int p1, .int p2] w (f_L_hasValue F p0 p1 p2 w) := by
  refine ga_enter (cc := c_L_hasValue) (maxL := 6) (ret := (some .boolean)) hst (by decide) rfl (Nat.le_of_ble_eq_true rfl) ?_
  intro p e R s m args below meth c ad0
  refine ga_sub (lv2 := [(0, .ref p0), (1, .int p1), (2, .int p2)]) [0, 1, 2] rfl ?_
  unfold f_L_hasValue
  refine ga_aload_n (q := 0) d_L_hasValue_0 rfl rfl ?_
  refine ga_getR (C := "LevelStore") (T := T_L) (N := 9) (k := 0) (ci := 5) (fun x h => List.mem_cons_of_mem _ (iw_L x h)) rfl (by decide) (List.mem_cons_of_mem _ gw_246) d_L_hasValue_1 (fun r1 => ?_)
  refine ga_iload_n (q := 1) d_L_hasValue_4 rfl rfl ?_
  refine ga_iload_n (q := 2) d_L_hasValue_5 rfl rfl ?_
  refine ga_invV (nA := 2) (ci := 2) (T := T_M) (N := 4) (av := [.int p1, .int p2]) (a := r1) (st := []) (m_M_rowOf hst F r1 p1 p2 w) (Or.inl rfl) (gz_gV gw_599 gw_600 gw_601 gw_52 gw_602) rfl ⟨rfl, by decide +kernel⟩ rfl (by decide) (by decide) (Nat.le_of_ble_eq_true rfl) rfl d_L_hasValue_6 (ga_vI (fun v3 w2 => ?_)) (fun _ _ => ga_thru rfl)
  refine ga_istore_n (lv2 := [(3, .int v3), (0, .ref p0), (1, .int p1), (2, .int p2)]) d_L_hasValue_9 rfl (by decide) rfl ?_
  refine ga_iload_n (q := 0) d_L_hasValue_10 rfl rfl ?_
  refine ga_iconst (v := (-1 : Int32)) d_L_hasValue_11 (by decide) ?_
  refine ga_icmp_eq (tgt := 36) d_L_hasValue_12 (by decide) (fun h4 => ?_) (fun h4 => ?_)
  · refine ga_aload_n (q := 1) d_L_hasValue_36 rfl rfl ?_
    refine ga_getR (C := "LevelStore") (T := T_L) (N := 9) (k := 1) (ci := 5) (fun x h => List.mem_cons_of_mem _ (iw_L x h)) rfl (by decide) (List.mem_cons_of_mem _ gw_247) d_L_hasValue_37 (fun r5 => ?_)
    refine ga_getR (C := "LevelStore$Levels") (T := T_V) (N := 9) (k := 0) (ci := 1) (fun x h => List.mem_cons_of_mem _ (iw_V x h)) rfl (by decide) (List.mem_cons_of_mem _ gw_209) d_L_hasValue_40 (fun r6 => ?_)
    refine ga_astore (lv2 := [(4, .ref r6), (3, .int v3), (0, .ref p0), (1, .int p1), (2, .int p2)]) d_L_hasValue_43 (by decide) rfl ?_
    refine ga_iconst (v := (0 : Int32)) d_L_hasValue_45 (by decide) ?_
    refine ga_istore (lv2 := [(5, .int (0 : Int32)), (4, .ref r6), (3, .int v3), (0, .ref p0), (1, .int p1), (2, .int p2)]) d_L_hasValue_46 (by decide) rfl ?_
    refine ga_sub (lv2 := [(1, .int p1), (2, .int p2), (4, .ref r6), (5, .int (0 : Int32))]) [4, 5, 1, 0] rfl ?_
    exact h_L_hasValue_48 hst F p1 p2 r6 F (0 : Int32) w2
  · refine ga_aload_n (q := 1) d_L_hasValue_15 rfl rfl ?_
    refine ga_getR (C := "LevelStore") (T := T_L) (N := 9) (k := 0) (ci := 5) (fun x h => List.mem_cons_of_mem _ (iw_L x h)) rfl (by decide) (List.mem_cons_of_mem _ gw_246) d_L_hasValue_16 (fun r7 => ?_)
    refine ga_getR (C := "LevelStore$Memory") (T := T_M) (N := 4) (k := 0) (ci := 2) (fun x h => List.mem_cons_of_mem _ (iw_M x h)) rfl (by decide) (List.mem_cons_of_mem _ gw_132) d_L_hasValue_19 (fun r8 => ?_)
    refine ga_getR (C := "LevelStore$Entries") (T := T_E) (N := 6) (k := 3) (ci := 0) (fun x h => List.mem_cons_of_mem _ (iw_E x h)) rfl (by decide) (List.mem_cons_of_mem _ gw_105) d_L_hasValue_22 (fun r9 => ?_)
    refine ga_iload_n (q := 0) d_L_hasValue_25 rfl rfl ?_
    refine ga_ldZ (t := 1) rfl d_L_hasValue_26 (fun v10 => ?_)
    refine ga_if_ne (tgt := 34) d_L_hasValue_27 (by decide) (fun h11 => ?_) (fun h11 => ?_)
    · refine ga_iconst (v := (1 : Int32)) d_L_hasValue_30 (by decide) ?_
      refine ga_goto (tgt := 35) d_L_hasValue_31 (by decide) ?_
      exact ga_zret rfl rfl d_L_hasValue_35
    · refine ga_iconst (v := (0 : Int32)) d_L_hasValue_34 (by decide) ?_
      exact ga_zret rfl rfl d_L_hasValue_35
noncomputable def f_L_next_18 (F : Nat) (x0 : Nat) (x3 : Int32) : Nat → Int32 → ga_W → ga_O
  | 0, _, _ => none
  | n + 1, x4, w => (if (64 : Int32) ≤ x4 then (some (.inr 3, w.1, w.2.1 + 1, w.2.2 + 6)) else (if ga_is w 5 x0 = true then ga_c (f_L_hasValue F x0 x4 x3 w) (ga_kI fun v3 w2 => (if v3 = 0 then (f_L_next_18 F x0 x3 n (x4 + (1 : Int32)) w2) else (some (.inl (some (.int x4)), w2)))) ga_up else none))
noncomputable def f_L_next (F : Nat) (p0 : Nat) (p1 : Int32) (p2 : Int32) (w : ga_W) : ga_O :=
  (ga_c (f_L_requireWithin F p1 (-1 : Int32) (63 : Int32) w) (ga_kV fun w1 => (if ga_is w1 5 p0 = true then ga_c (f_L_numberSeenBy F p0 p2 w1) (ga_kI fun v3 w2 => (f_L_next_18 F p0 v3 F (p1 + (1 : Int32)) w2)) ga_up else none)) ga_up)
set_option maxHeartbeats 4000000 in
set_option maxRecDepth 100000 in
theorem h_L_next_18 (hst : l.stackTraces = false) (F : Nat) (x0 : Nat) (x3 : Int32) : ∀ (n : Nat) (x4 : Int32) (w : ga_W), ga_J l S0 D gz_cl (gz_tA cT) base b gz_xn p e R s m args below meth c 5 ws_L_next y_L_next.cls c_L_next (some .int) [] y_L_next.name 8 132 true ad0 w0 (ga_MQ gz_xn D gz_cl (gz_tA cT) base b s args below ad0 w0) 18 [(0, .ref x0), (3, .int x3), (4, .int x4)] [] w (f_L_next_18 F x0 x3 n x4 w) := by
  intro n
  induction n with
  | zero => intro x4 w; exact ga_no
  | succ n ih =>
    intro x4 w
    rw [f_L_next_18]
    refine ga_iload (q := 2) d_L_next_18 rfl ?_
    refine ga_bipush (v := (64 : Int32)) d_L_next_20 (by decide) ?_
    refine ga_icmp_ge (tgt := 44) d_L_next_22 (by decide) (fun h1 => ?_) (fun h1 => ?_)
    · exact ga_throw (x := 3) (names := gz_ch) rfl (by decide +kernel) gz_chf gl_606 gl_66 (gz_own3 gl_615) (by decide) (Nat.le_of_ble_eq_true rfl) d_L_next_44 d_L_next_47 d_L_next_48 d_L_next_51
    · refine ga_aload_n (q := 0) d_L_next_25 rfl rfl ?_
      refine ga_iload (q := 2) d_L_next_26 rfl ?_
      refine ga_iload_n (q := 1) d_L_next_28 rfl rfl ?_
      refine ga_invV (nA := 2) (ci := 5) (T := T_L) (N := 9) (av := [.int x4, .int x3]) (a := x0) (st := []) (m_L_hasValue hst F x0 x4 x3 w) (Or.inl rfl) (gz_gV gw_655 gw_657 gw_17 gw_51 gw_658) rfl ⟨rfl, by decide +kernel⟩ rfl (by decide) (by decide) (Nat.le_of_ble_eq_true rfl) rfl d_L_next_29 (ga_vI (fun v3 w2 => ?_)) (fun _ _ => ga_thru rfl)
      refine ga_if_eq (tgt := 38) d_L_next_32 (by decide) (fun h4 => ?_) (fun h4 => ?_)
      · refine ga_iinc (q := 2) (v := (x4 + (1 : Int32))) (lv2 := [(4, .int (x4 + (1 : Int32))), (0, .ref x0), (3, .int x3)]) d_L_next_38 rfl rfl (by decide) rfl ?_
        refine ga_goto (tgt := 18) d_L_next_41 (by decide) ?_
        refine ga_sub (lv2 := [(0, .ref x0), (3, .int x3), (4, .int (x4 + (1 : Int32)))]) [1, 2, 0] rfl ?_
        exact ih _ _
      · refine ga_iload (q := 2) d_L_next_35 rfl ?_
        exact ga_iret rfl d_L_next_37
set_option maxHeartbeats 4000000 in
set_option maxRecDepth 100000 in
theorem m_L_next (hst : l.stackTraces = false) (F : Nat) (p0 : Nat) (p1 : Int32) (p2 : Int32) (w : ga_W) : ga_M l S0 D gz_cl (gz_tA cT) base b gz_xn y_L_next ws_L_next 8 132 true [.ref p0, .int p1, .int p2] w (f_L_next F p0 p1 p2 w) := by
  refine ga_enter (cc := c_L_next) (maxL := 5) (ret := (some .int)) hst (by decide) rfl (Nat.le_of_ble_eq_true rfl) ?_
  intro p e R s m args below meth c ad0
  refine ga_sub (lv2 := [(0, .ref p0), (1, .int p1), (2, .int p2)]) [0, 1, 2] rfl ?_
  unfold f_L_next
  refine ga_iload_n (q := 1) d_L_next_0 rfl rfl ?_
  refine ga_iconst (v := (-1 : Int32)) d_L_next_1 (by decide) ?_
  refine ga_bipush (v := (63 : Int32)) d_L_next_2 (by decide) ?_
  refine ga_invS (nA := 3) (av := [.int p1, .int (-1 : Int32), .int (63 : Int32)]) (st := []) (m_L_requireWithin hst F p1 (-1 : Int32) (63 : Int32) w) (Or.inl rfl) (gz_gS gw_413 gw_414 gw_51 gw_415) rfl (by decide +kernel) rfl (by decide) (by decide) (Nat.le_of_ble_eq_true rfl) d_L_next_4 (ga_vV (fun w1 => ?_)) (fun _ _ => ga_thru rfl)
  refine ga_aload_n (q := 0) d_L_next_7 rfl rfl ?_
  refine ga_iload_n (q := 2) d_L_next_8 rfl rfl ?_
  refine ga_invV (nA := 1) (ci := 5) (T := T_L) (N := 9) (av := [.int p2]) (a := p0) (st := []) (m_L_numberSeenBy hst F p0 p2 w1) (Or.inl rfl) (gz_gV gw_595 gw_597 gw_14 gw_51 gw_598) rfl ⟨rfl, by decide +kernel⟩ rfl (by decide) (by decide) (Nat.le_of_ble_eq_true rfl) rfl d_L_next_9 (ga_vI (fun v3 w2 => ?_)) (fun _ _ => ga_thru rfl)
  refine ga_istore_n (lv2 := [(3, .int v3), (0, .ref p0), (1, .int p1), (2, .int p2)]) d_L_next_12 rfl (by decide) rfl ?_
  refine ga_iload_n (q := 2) d_L_next_13 rfl rfl ?_
  refine ga_iconst (v := (1 : Int32)) d_L_next_14 (by decide) ?_
  refine ga_iadd d_L_next_15 ?_
  refine ga_istore (lv2 := [(4, .int (p1 + (1 : Int32))), (3, .int v3), (0, .ref p0), (1, .int p1), (2, .int p2)]) d_L_next_16 (by decide) rfl ?_
  refine ga_sub (lv2 := [(0, .ref p0), (3, .int v3), (4, .int (p1 + (1 : Int32)))]) [2, 1, 0] rfl ?_
  exact h_L_next_18 hst F p0 v3 F (p1 + (1 : Int32)) w2
noncomputable def f_W_next (F : Nat) (p0 : Nat) (p1 : Int32) (p2 : Int32) (p3 : Nat) (w : ga_W) : ga_O :=
  (if ga_is w 5 p0 = true then ga_c (f_L_next F p0 p1 p2 w) (ga_kI fun v2 w1 => ((ga_sl w1 2 p3 (0 : Int32) (Int32.toInt64 v2)).bind fun w3 => (some (.inl (some (.int (0 : Int32))), w3)))) (fun x5 w4 => (if x5 = 0 then (some (.inl (some (.int (1 : Int32))), w4)) else (if x5 = 2 then (some (.inl (some (.int (2 : Int32))), w4)) else (if x5 = 3 then (some (.inl (some (.int (3 : Int32))), w4)) else none)))) else none)
set_option maxHeartbeats 4000000 in
set_option maxRecDepth 100000 in
theorem m_W_next (hst : l.stackTraces = false) (F : Nat) (p0 : Nat) (p1 : Int32) (p2 : Int32) (p3 : Nat) (w : ga_W) : ga_M l S0 D gz_cl (gz_tA cT) base b gz_xn y_W_next ws_W_next 9 156 true [.ref p0, .int p1, .int p2, .ref p3] w (f_W_next F p0 p1 p2 p3 w) := by
  refine ga_enterH (hh := [(0, 10, 13, 13), (0, 10, 17, 17), (0, 10, 21, 40)]) (cc := c_W_next) (maxL := 5) (ret := (some .int)) hst (by decide) rfl (Nat.le_of_ble_eq_true rfl) ?_
  intro p e R s m args below meth c ad0
  refine ga_sub (lv2 := [(0, .ref p0), (1, .int p1), (2, .int p2), (3, .ref p3)]) [0, 1, 2, 3] rfl ?_
  unfold f_W_next
  refine ga_aload_n (q := 3) d_W_next_0 rfl rfl ?_
  refine ga_iconst (v := (0 : Int32)) d_W_next_1 (by decide) ?_
  refine ga_aload_n (q := 0) d_W_next_2 rfl rfl ?_
  refine ga_iload_n (q := 1) d_W_next_3 rfl rfl ?_
  refine ga_iload_n (q := 2) d_W_next_4 rfl rfl ?_
  refine ga_invV (nA := 2) (ci := 5) (T := T_L) (N := 9) (av := [.int p1, .int p2]) (a := p0) (st := [.int (0 : Int32), .ref p3]) (m_L_next hst F p0 p1 p2 w) (Or.inl rfl) (gz_gV gw_651 gw_652 gw_653 gw_51 gw_654) rfl ⟨rfl, by decide +kernel⟩ rfl (by decide) (by decide) (Nat.le_of_ble_eq_true rfl) rfl d_W_next_5 (ga_vI (fun v2 w1 => ?_)) ?_
  · refine ga_i2l d_W_next_8 ?_
    refine ga_stL (t := 2) rfl d_W_next_9 (fun w3 => ?_)
    refine ga_goto (tgt := 25) d_W_next_10 (by decide) ?_
    refine ga_iconst (v := (0 : Int32)) d_W_next_25 (by decide) ?_
    exact ga_iret rfl d_W_next_26
  · intro x5 w4
    refine ga_iteX (fun h6 => ?_) (fun h6 => ?_)
    · subst h6
      refine ga_catchA (i := 4) (lv2 := [(0, .ref p0), (1, .int p1), (2, .int p2), (3, .ref p3)]) [] ⟨0, 10, 13, 13⟩ [⟨0, 10, 17, 17⟩, ⟨0, 10, 21, 40⟩] rfl (fun _ h => nomatch h) (by decide) (by decide) (List.mem_cons_of_mem _ gw_402) gl_418 d_W_next_13 (by decide) rfl ?_
      refine ga_iconst (v := (1 : Int32)) d_W_next_15 (by decide) ?_
      exact ga_iret rfl d_W_next_16
    · refine ga_iteX (fun h7 => ?_) (fun h7 => ?_)
      · subst h7
        refine ga_catchA (i := 4) (lv2 := [(0, .ref p0), (1, .int p1), (2, .int p2), (3, .ref p3)]) [⟨0, 10, 13, 13⟩] ⟨0, 10, 17, 17⟩ [⟨0, 10, 21, 40⟩] rfl (ga_ps1 "java/lang/IllegalArgumentException" (List.mem_cons_of_mem _ gw_402) (gz_nc (by decide +kernel))) (by decide) (by decide) (List.mem_cons_of_mem _ gw_404) gl_484 d_W_next_17 (by decide) rfl ?_
        refine ga_iconst (v := (2 : Int32)) d_W_next_19 (by decide) ?_
        exact ga_iret rfl d_W_next_20
      · refine ga_iteX (fun h8 => ?_) (fun h8 => ?_)
        · subst h8
          refine ga_catchA (i := 4) (lv2 := [(0, .ref p0), (1, .int p1), (2, .int p2), (3, .ref p3)]) [⟨0, 10, 13, 13⟩, ⟨0, 10, 17, 17⟩] ⟨0, 10, 21, 40⟩ [] rfl (ga_ps2 "java/lang/IllegalArgumentException" (List.mem_cons_of_mem _ gw_402) (gz_nc (by decide +kernel)) "java/lang/UnsupportedOperationException" (List.mem_cons_of_mem _ gw_404) (gz_nc (by decide +kernel))) (by decide) (by decide) (List.mem_cons_of_mem _ gw_590) gl_608 d_W_next_21 (by decide) rfl ?_
          refine ga_iconst (v := (3 : Int32)) d_W_next_23 (by decide) ?_
          exact ga_iret rfl d_W_next_24
        · exact (fun _ _ h => nomatch h)
noncomputable def f_L_snapshot_2 (F : Nat) (x0 : Nat) : Nat → Int32 → ga_W → ga_O
  | 0, _, _ => none
  | n + 1, x1, w => (if (4 : Int32) ≤ x1 then (some (.inr 1, w.1, w.2.1 + 1, w.2.2 + 6)) else ((ga_gr w 5 3 x0).bind fun r2 => ((ga_ai w 0 r2 x1).bind fun v3 => (if v3 = (-1 : Int32) then ((ga_gr w 5 3 x0).bind fun r5 => ((ga_gi w 5 5 x0).bind fun v6 => ((ga_si w 0 r5 x1 v6).bind fun w7 => (some (.inl (some (.int x1)), w7))))) else (f_L_snapshot_2 F x0 n (x1 + (1 : Int32)) w)))))
noncomputable def f_L_snapshot (F : Nat) (p0 : Nat) (w : ga_W) : ga_O :=
  (f_L_snapshot_2 F p0 F (0 : Int32) w)
set_option maxHeartbeats 4000000 in
set_option maxRecDepth 100000 in
theorem h_L_snapshot_2 (hst : l.stackTraces = false) (F : Nat) (x0 : Nat) : ∀ (n : Nat) (x1 : Int32) (w : ga_W), ga_J l S0 D gz_cl (gz_tA cT) base b gz_xn p e R s m args below meth c 2 ws_L_snapshot y_L_snapshot.cls c_L_snapshot (some .int) [] y_L_snapshot.name 6 89 true ad0 w0 (ga_MQ gz_xn D gz_cl (gz_tA cT) base b s args below ad0 w0) 2 [(0, .ref x0), (1, .int x1)] [] w (f_L_snapshot_2 F x0 n x1 w) := by
  intro n
  induction n with
  | zero => intro x1 w; exact ga_no
  | succ n ih =>
    intro x1 w
    rw [f_L_snapshot_2]
    refine ga_iload_n (q := 1) d_L_snapshot_2 rfl rfl ?_
    refine ga_iconst (v := (4 : Int32)) d_L_snapshot_3 (by decide) ?_
    refine ga_icmp_ge (tgt := 35) d_L_snapshot_4 (by decide) (fun h1 => ?_) (fun h1 => ?_)
    · exact ga_throw (x := 1) (names := gz_ch) rfl (by decide +kernel) gz_chf gl_509 gl_64 (gz_own1 gl_518) (by decide) (Nat.le_of_ble_eq_true rfl) d_L_snapshot_35 d_L_snapshot_38 d_L_snapshot_39 d_L_snapshot_42
    · refine ga_aload_n (q := 0) d_L_snapshot_7 rfl rfl ?_
      refine ga_getR (C := "LevelStore") (T := T_L) (N := 9) (k := 3) (ci := 5) (fun x h => List.mem_cons_of_mem _ (iw_L x h)) rfl (by decide) (List.mem_cons_of_mem _ gw_249) d_L_snapshot_8 (fun r2 => ?_)
      refine ga_iload_n (q := 1) d_L_snapshot_11 rfl rfl ?_
      refine ga_ldI (t := 0) rfl d_L_snapshot_12 (fun v3 => ?_)
      refine ga_iconst (v := (-1 : Int32)) d_L_snapshot_13 (by decide) ?_
      refine ga_icmp_ne (tgt := 29) d_L_snapshot_14 (by decide) (fun h4 => ?_) (fun h4 => ?_)
      · refine ga_aload_n (q := 0) d_L_snapshot_17 rfl rfl ?_
        refine ga_getR (C := "LevelStore") (T := T_L) (N := 9) (k := 3) (ci := 5) (fun x h => List.mem_cons_of_mem _ (iw_L x h)) rfl (by decide) (List.mem_cons_of_mem _ gw_249) d_L_snapshot_18 (fun r5 => ?_)
        refine ga_iload_n (q := 1) d_L_snapshot_21 rfl rfl ?_
        refine ga_aload_n (q := 0) d_L_snapshot_22 rfl rfl ?_
        refine ga_getI (C := "LevelStore") (T := T_L) (N := 9) (k := 5) (ci := 5) (fun x h => List.mem_cons_of_mem _ (iw_L x h)) rfl (by decide) (List.mem_cons_of_mem _ gw_251) d_L_snapshot_23 (fun v6 => ?_)
        refine ga_stI (t := 0) rfl d_L_snapshot_26 (fun w7 => ?_)
        refine ga_iload_n (q := 1) d_L_snapshot_27 rfl rfl ?_
        exact ga_iret rfl d_L_snapshot_28
      · refine ga_iinc (q := 1) (v := (x1 + (1 : Int32))) (lv2 := [(1, .int (x1 + (1 : Int32))), (0, .ref x0)]) d_L_snapshot_29 rfl rfl (by decide) rfl ?_
        refine ga_goto (tgt := 2) d_L_snapshot_32 (by decide) ?_
        refine ga_sub (lv2 := [(0, .ref x0), (1, .int (x1 + (1 : Int32)))]) [1, 0] rfl ?_
        exact ih _ _
set_option maxHeartbeats 4000000 in
set_option maxRecDepth 100000 in
theorem m_L_snapshot (hst : l.stackTraces = false) (F : Nat) (p0 : Nat) (w : ga_W) : ga_M l S0 D gz_cl (gz_tA cT) base b gz_xn y_L_snapshot ws_L_snapshot 6 89 true [.ref p0] w (f_L_snapshot F p0 w) := by
  refine ga_enter (cc := c_L_snapshot) (maxL := 2) (ret := (some .int)) hst (by decide) rfl (Nat.le_of_ble_eq_true rfl) ?_
  intro p e R s m args below meth c ad0
  refine ga_sub (lv2 := [(0, .ref p0)]) [0] rfl ?_
  unfold f_L_snapshot
  refine ga_iconst (v := (0 : Int32)) d_L_snapshot_0 (by decide) ?_
  refine ga_istore_n (lv2 := [(1, .int (0 : Int32)), (0, .ref p0)]) d_L_snapshot_1 rfl (by decide) rfl ?_
  refine ga_sub (lv2 := [(0, .ref p0), (1, .int (0 : Int32))]) [1, 0] rfl ?_
  exact h_L_snapshot_2 hst F p0 F (0 : Int32) w
noncomputable def f_W_snapshot (F : Nat) (p0 : Nat) (p1 : Nat) (w : ga_W) : ga_O :=
  (if ga_is w 5 p0 = true then ga_c (f_L_snapshot F p0 w) (ga_kI fun v2 w1 => ((ga_sl w1 2 p1 (0 : Int32) (Int32.toInt64 v2)).bind fun w3 => (some (.inl (some (.int (0 : Int32))), w3)))) (fun x5 w4 => (if x5 = 1 then (some (.inl (some (.int (1 : Int32))), w4)) else none)) else none)
set_option maxHeartbeats 4000000 in
set_option maxRecDepth 100000 in
theorem m_W_snapshot (hst : l.stackTraces = false) (F : Nat) (p0 : Nat) (p1 : Nat) (w : ga_W) : ga_M l S0 D gz_cl (gz_tA cT) base b gz_xn y_W_snapshot ws_W_snapshot 7 110 true [.ref p0, .ref p1] w (f_W_snapshot F p0 p1 w) := by
  refine ga_enterH (hh := [(0, 8, 11, 15)]) (cc := c_W_snapshot) (maxL := 3) (ret := (some .int)) hst (by decide) rfl (Nat.le_of_ble_eq_true rfl) ?_
  intro p e R s m args below meth c ad0
  refine ga_sub (lv2 := [(0, .ref p0), (1, .ref p1)]) [0, 1] rfl ?_
  unfold f_W_snapshot
  refine ga_aload_n (q := 1) d_W_snapshot_0 rfl rfl ?_
  refine ga_iconst (v := (0 : Int32)) d_W_snapshot_1 (by decide) ?_
  refine ga_aload_n (q := 0) d_W_snapshot_2 rfl rfl ?_
  refine ga_invV (nA := 0) (ci := 5) (T := T_L) (N := 9) (av := []) (a := p0) (st := [.int (0 : Int32), .ref p1]) (m_L_snapshot hst F p0 w) (Or.inl rfl) (gz_gV gw_662 gw_663 gw_664 gw_51 gw_665) rfl ⟨rfl, by decide +kernel⟩ rfl (by decide) (by decide) (Nat.le_of_ble_eq_true rfl) rfl d_W_snapshot_3 (ga_vI (fun v2 w1 => ?_)) ?_
  · refine ga_i2l d_W_snapshot_6 ?_
    refine ga_stL (t := 2) rfl d_W_snapshot_7 (fun w3 => ?_)
    refine ga_goto (tgt := 14) d_W_snapshot_8 (by decide) ?_
    refine ga_iconst (v := (0 : Int32)) d_W_snapshot_14 (by decide) ?_
    exact ga_iret rfl d_W_snapshot_15
  · intro x5 w4
    refine ga_iteX (fun h6 => ?_) (fun h6 => ?_)
    · subst h6
      refine ga_catch (i := 2) (lv2 := [(0, .ref p0), (1, .ref p1)]) [] ⟨0, 8, 11, 15⟩ [] rfl (fun _ h => nomatch h) (by decide) (by decide) (List.mem_cons_of_mem _ gw_403) gl_511 d_W_snapshot_11 rfl (by decide) rfl ?_
      refine ga_iconst (v := (1 : Int32)) d_W_snapshot_12 (by decide) ?_
      exact ga_iret rfl d_W_snapshot_13
    · exact (fun _ _ h => nomatch h)
noncomputable def f_L_release (F : Nat) (p0 : Nat) (p1 : Int32) (w : ga_W) : ga_O :=
  (ga_c (f_L_requireWithin F p1 (0 : Int32) (3 : Int32) w) (ga_kV fun w1 => (if ga_is w1 5 p0 = true then ga_c (f_L_numberSeenBy F p0 p1 w1) (ga_kI fun v3 w2 => ((ga_gr w2 5 3 p0).bind fun r4 => ((ga_si w2 0 r4 p1 (-1 : Int32)).bind fun w5 => (some (.inl (some (.int v3)), w5))))) ga_up else none)) ga_up)
set_option maxHeartbeats 4000000 in
set_option maxRecDepth 100000 in
theorem m_L_release (hst : l.stackTraces = false) (F : Nat) (p0 : Nat) (p1 : Int32) (w : ga_W) : ga_M l S0 D gz_cl (gz_tA cT) base b gz_xn y_L_release ws_L_release 8 132 true [.ref p0, .int p1] w (f_L_release F p0 p1 w) := by
  refine ga_enter (cc := c_L_release) (maxL := 3) (ret := (some .int)) hst (by decide) rfl (Nat.le_of_ble_eq_true rfl) ?_
  intro p e R s m args below meth c ad0
  refine ga_sub (lv2 := [(0, .ref p0), (1, .int p1)]) [0, 1] rfl ?_
  unfold f_L_release
  refine ga_iload_n (q := 1) d_L_release_0 rfl rfl ?_
  refine ga_iconst (v := (0 : Int32)) d_L_release_1 (by decide) ?_
  refine ga_iconst (v := (3 : Int32)) d_L_release_2 (by decide) ?_
  refine ga_invS (nA := 3) (av := [.int p1, .int (0 : Int32), .int (3 : Int32)]) (st := []) (m_L_requireWithin hst F p1 (0 : Int32) (3 : Int32) w) (Or.inl rfl) (gz_gS gw_413 gw_414 gw_51 gw_415) rfl (by decide +kernel) rfl (by decide) (by decide) (Nat.le_of_ble_eq_true rfl) d_L_release_3 (ga_vV (fun w1 => ?_)) (fun _ _ => ga_thru rfl)
  refine ga_aload_n (q := 0) d_L_release_6 rfl rfl ?_
  refine ga_iload_n (q := 1) d_L_release_7 rfl rfl ?_
  refine ga_invV (nA := 1) (ci := 5) (T := T_L) (N := 9) (av := [.int p1]) (a := p0) (st := []) (m_L_numberSeenBy hst F p0 p1 w1) (Or.inl rfl) (gz_gV gw_595 gw_597 gw_14 gw_51 gw_598) rfl ⟨rfl, by decide +kernel⟩ rfl (by decide) (by decide) (Nat.le_of_ble_eq_true rfl) rfl d_L_release_8 (ga_vI (fun v3 w2 => ?_)) (fun _ _ => ga_thru rfl)
  refine ga_istore_n (lv2 := [(2, .int v3), (0, .ref p0), (1, .int p1)]) d_L_release_11 rfl (by decide) rfl ?_
  refine ga_aload_n (q := 1) d_L_release_12 rfl rfl ?_
  refine ga_getR (C := "LevelStore") (T := T_L) (N := 9) (k := 3) (ci := 5) (fun x h => List.mem_cons_of_mem _ (iw_L x h)) rfl (by decide) (List.mem_cons_of_mem _ gw_249) d_L_release_13 (fun r4 => ?_)
  refine ga_iload_n (q := 2) d_L_release_16 rfl rfl ?_
  refine ga_iconst (v := (-1 : Int32)) d_L_release_17 (by decide) ?_
  refine ga_stI (t := 0) rfl d_L_release_18 (fun w5 => ?_)
  refine ga_iload_n (q := 0) d_L_release_19 rfl rfl ?_
  exact ga_iret rfl d_L_release_20
noncomputable def f_W_release (F : Nat) (p0 : Nat) (p1 : Int32) (p2 : Nat) (w : ga_W) : ga_O :=
  (if ga_is w 5 p0 = true then ga_c (f_L_release F p0 p1 w) (ga_kI fun v2 w1 => ((ga_sl w1 2 p2 (0 : Int32) (Int32.toInt64 v2)).bind fun w3 => (some (.inl (some (.int (0 : Int32))), w3)))) (fun x5 w4 => (if x5 = 0 then (some (.inl (some (.int (1 : Int32))), w4)) else (if x5 = 2 then (some (.inl (some (.int (2 : Int32))), w4)) else none))) else none)
set_option maxHeartbeats 4000000 in
set_option maxRecDepth 100000 in
theorem m_W_release (hst : l.stackTraces = false) (F : Nat) (p0 : Nat) (p1 : Int32) (p2 : Nat) (w : ga_W) : ga_M l S0 D gz_cl (gz_tA cT) base b gz_xn y_W_release ws_W_release 9 154 true [.ref p0, .int p1, .ref p2] w (f_W_release F p0 p1 p2 w) := by
  refine ga_enterH (hh := [(0, 9, 12, 13), (0, 9, 15, 17)]) (cc := c_W_release) (maxL := 4) (ret := (some .int)) hst (by decide) rfl (Nat.le_of_ble_eq_true rfl) ?_
  intro p e R s m args below meth c ad0
  refine ga_sub (lv2 := [(0, .ref p0), (1, .int p1), (2, .ref p2)]) [0, 1, 2] rfl ?_
  unfold f_W_release
  refine ga_aload_n (q := 2) d_W_release_0 rfl rfl ?_
  refine ga_iconst (v := (0 : Int32)) d_W_release_1 (by decide) ?_
  refine ga_aload_n (q := 0) d_W_release_2 rfl rfl ?_
  refine ga_iload_n (q := 1) d_W_release_3 rfl rfl ?_
  refine ga_invV (nA := 1) (ci := 5) (T := T_L) (N := 9) (av := [.int p1]) (a := p0) (st := [.int (0 : Int32), .ref p2]) (m_L_release hst F p0 p1 w) (Or.inl rfl) (gz_gV gw_669 gw_670 gw_671 gw_51 gw_672) rfl ⟨rfl, by decide +kernel⟩ rfl (by decide) (by decide) (Nat.le_of_ble_eq_true rfl) rfl d_W_release_4 (ga_vI (fun v2 w1 => ?_)) ?_
  · refine ga_i2l d_W_release_7 ?_
    refine ga_stL (t := 2) rfl d_W_release_8 (fun w3 => ?_)
    refine ga_goto (tgt := 18) d_W_release_9 (by decide) ?_
    refine ga_iconst (v := (0 : Int32)) d_W_release_18 (by decide) ?_
    exact ga_iret rfl d_W_release_19
  · intro x5 w4
    refine ga_iteX (fun h6 => ?_) (fun h6 => ?_)
    · subst h6
      refine ga_catch (i := 3) (lv2 := [(0, .ref p0), (1, .int p1), (2, .ref p2)]) [] ⟨0, 9, 12, 13⟩ [⟨0, 9, 15, 17⟩] rfl (fun _ h => nomatch h) (by decide) (by decide) (List.mem_cons_of_mem _ gw_402) gl_418 d_W_release_12 rfl (by decide) rfl ?_
      refine ga_iconst (v := (1 : Int32)) d_W_release_13 (by decide) ?_
      exact ga_iret rfl d_W_release_14
    · refine ga_iteX (fun h7 => ?_) (fun h7 => ?_)
      · subst h7
        refine ga_catch (i := 3) (lv2 := [(0, .ref p0), (1, .int p1), (2, .ref p2)]) [⟨0, 9, 12, 13⟩] ⟨0, 9, 15, 17⟩ [] rfl (ga_ps1 "java/lang/IllegalArgumentException" (List.mem_cons_of_mem _ gw_402) (gz_nc (by decide +kernel))) (by decide) (by decide) (List.mem_cons_of_mem _ gw_404) gl_484 d_W_release_15 rfl (by decide) rfl ?_
        refine ga_iconst (v := (2 : Int32)) d_W_release_16 (by decide) ?_
        exact ga_iret rfl d_W_release_17
      · exact (fun _ _ h => nomatch h)
noncomputable def f_S_sizeOf (F : Nat) (p0 : Nat) (p1 : Int32) (w : ga_W) : ga_O :=
  ((ga_gr w 3 3 p0).bind fun r1 => ((ga_ai w 0 r1 (p1 + (1 : Int32))).bind fun v2 => ((ga_gr w 3 3 p0).bind fun r3 => ((ga_ai w 0 r3 p1).bind fun v4 => (some (.inl (some (.int (v2 - v4))), w))))))
set_option maxHeartbeats 4000000 in
set_option maxRecDepth 100000 in
theorem m_S_sizeOf (hst : l.stackTraces = false) (F : Nat) (p0 : Nat) (p1 : Int32) (w : ga_W) : ga_M l S0 D gz_cl (gz_tA cT) base b gz_xn y_S_sizeOf ws_S_sizeOf 0 0 true [.ref p0, .int p1] w (f_S_sizeOf F p0 p1 w) := by
  refine ga_enter (cc := c_S_sizeOf) (maxL := 2) (ret := (some .int)) hst (by decide) rfl (Nat.le_of_ble_eq_true rfl) ?_
  intro p e R s m args below meth c ad0
  refine ga_sub (lv2 := [(0, .ref p0), (1, .int p1)]) [0, 1] rfl ?_
  unfold f_S_sizeOf
  refine ga_aload_n (q := 0) d_S_sizeOf_0 rfl rfl ?_
  refine ga_getR (C := "LevelStore$Shelf") (T := T_S) (N := 5) (k := 3) (ci := 3) (fun x h => List.mem_cons_of_mem _ (iw_S x h)) rfl (by decide) (List.mem_cons_of_mem _ gw_170) d_S_sizeOf_1 (fun r1 => ?_)
  refine ga_iload_n (q := 1) d_S_sizeOf_4 rfl rfl ?_
  refine ga_iconst (v := (1 : Int32)) d_S_sizeOf_5 (by decide) ?_
  refine ga_iadd d_S_sizeOf_6 ?_
  refine ga_ldI (t := 0) rfl d_S_sizeOf_7 (fun v2 => ?_)
  refine ga_aload_n (q := 0) d_S_sizeOf_8 rfl rfl ?_
  refine ga_getR (C := "LevelStore$Shelf") (T := T_S) (N := 5) (k := 3) (ci := 3) (fun x h => List.mem_cons_of_mem _ (iw_S x h)) rfl (by decide) (List.mem_cons_of_mem _ gw_170) d_S_sizeOf_9 (fun r3 => ?_)
  refine ga_iload_n (q := 1) d_S_sizeOf_12 rfl rfl ?_
  refine ga_ldI (t := 0) rfl d_S_sizeOf_13 (fun v4 => ?_)
  refine ga_isub d_S_sizeOf_14 ?_
  exact ga_iret rfl d_S_sizeOf_15
noncomputable def f_S_blocksOf (F : Nat) (p0 : Nat) (p1 : Int32) (w : ga_W) : ga_O :=
  (if ga_is w 3 p0 = true then ga_c (f_S_sizeOf F p0 p1 w) (ga_kI fun v2 w1 => (some (.inl (some (.int (((v2 + (4 : Int32)) - (1 : Int32)) / (4 : Int32)))), w1))) ga_up else none)
set_option maxHeartbeats 4000000 in
set_option maxRecDepth 100000 in
theorem m_S_blocksOf (hst : l.stackTraces = false) (F : Nat) (p0 : Nat) (p1 : Int32) (w : ga_W) : ga_M l S0 D gz_cl (gz_tA cT) base b gz_xn y_S_blocksOf ws_S_blocksOf 1 21 true [.ref p0, .int p1] w (f_S_blocksOf F p0 p1 w) := by
  refine ga_enter (cc := c_S_blocksOf) (maxL := 2) (ret := (some .int)) hst (by decide) rfl (Nat.le_of_ble_eq_true rfl) ?_
  intro p e R s m args below meth c ad0
  refine ga_sub (lv2 := [(0, .ref p0), (1, .int p1)]) [0, 1] rfl ?_
  unfold f_S_blocksOf
  refine ga_aload_n (q := 0) d_S_blocksOf_0 rfl rfl ?_
  refine ga_iload_n (q := 1) d_S_blocksOf_1 rfl rfl ?_
  refine ga_invV (nA := 1) (ci := 3) (T := T_S) (N := 5) (av := [.int p1]) (a := p0) (st := []) (m_S_sizeOf hst F p0 p1 w) (Or.inl rfl) (gz_gV gw_685 gw_686 gw_687 gw_55 gw_688) rfl ⟨rfl, by decide +kernel⟩ rfl (by decide) (by decide) (Nat.le_of_ble_eq_true rfl) rfl d_S_blocksOf_2 (ga_vI (fun v2 w1 => ?_)) (fun _ _ => ga_thru rfl)
  refine ga_iconst (v := (4 : Int32)) d_S_blocksOf_5 (by decide) ?_
  refine ga_iadd d_S_blocksOf_6 ?_
  refine ga_iconst (v := (1 : Int32)) d_S_blocksOf_7 (by decide) ?_
  refine ga_isub d_S_blocksOf_8 ?_
  refine ga_iconst (v := (4 : Int32)) d_S_blocksOf_9 (by decide) ?_
  refine ga_idiv d_S_blocksOf_10 (by decide) ?_
  exact ga_iret rfl d_S_blocksOf_11
end GM8
