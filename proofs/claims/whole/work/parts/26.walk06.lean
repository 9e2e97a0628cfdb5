/-! WALKS: W_remove, L_open, W_open, L_close, W_close, M_loseAllBut, E_greatestNumber, L_crash, W_crash, L_flush, W_flush, L_numberSeenBy, M_rowOf, L_valueIn -/
section GM6
variable {l : Launch} {S0 : State} {D : va_G} {cT : Nat → ClassId} {base b : Nat} {p : Program} {e : Env} {R : Room} {s : State} {m : MethodId} {args : Array Value} {below : List Frame} {meth : Method} {c : Code} {ad0 : Nat → Nat} {w0 : ga_W}
noncomputable def f_W_remove (F : Nat) (p0 : Nat) (p1 : Int32) (p2 : Nat) (w : ga_W) : ga_O :=
  (if ga_is w 5 p0 = true then ga_c (f_L_remove F p0 p1 w) (ga_kI fun v2 w1 => ((ga_sl w1 2 p2 (0 : Int32) (Int32.toInt64 v2)).bind fun w3 => (some (.inl (some (.int (0 : Int32))), w3)))) (fun x5 w4 => (if x5 = 0 then (some (.inl (some (.int (1 : Int32))), w4)) else (if x5 = 1 then (some (.inl (some (.int (2 : Int32))), w4)) else (if x5 = 2 then (some (.inl (some (.int (3 : Int32))), w4)) else none)))) else none)
set_option maxHeartbeats 4000000 in
set_option maxRecDepth 100000 in
theorem m_W_remove (hst : l.stackTraces = false) (F : Nat) (p0 : Nat) (p1 : Int32) (p2 : Nat) (w : ga_W) : ga_M l S0 D gz_cl (gz_tA cT) base b gz_xn y_W_remove ws_W_remove 9 167 true [.ref p0, .int p1, .ref p2] w (f_W_remove F p0 p1 p2 w) := by
  refine ga_enterH (hh := [(0, 9, 12, 13), (0, 9, 15, 15), (0, 9, 18, 17)]) (cc := c_W_remove) (maxL := 4) (ret := (some .int)) hst (by decide) rfl (Nat.le_of_ble_eq_true rfl) ?_
  intro p e R s m args below meth c ad0
  refine ga_sub (lv2 := [(0, .ref p0), (1, .int p1), (2, .ref p2)]) [0, 1, 2] rfl ?_
  unfold f_W_remove
  refine ga_aload_n (q := 2) d_W_remove_0 rfl rfl ?_
  refine ga_iconst (v := (0 : Int32)) d_W_remove_1 (by decide) ?_
  refine ga_aload_n (q := 0) d_W_remove_2 rfl rfl ?_
  refine ga_iload_n (q := 1) d_W_remove_3 rfl rfl ?_
  refine ga_invV (nA := 1) (ci := 5) (T := T_L) (N := 9) (av := [.int p1]) (a := p0) (st := [.int (0 : Int32), .ref p2]) (m_L_remove hst F p0 p1 w) (Or.inl rfl) (gz_gV gw_544 gw_545 gw_546 gw_51 gw_547) rfl ⟨rfl, by decide +kernel⟩ rfl (by decide) (by decide) (Nat.le_of_ble_eq_true rfl) rfl d_W_remove_4 (ga_vI (fun v2 w1 => ?_)) ?_
  · refine ga_i2l d_W_remove_7 ?_
    refine ga_stL (t := 2) rfl d_W_remove_8 (fun w3 => ?_)
    refine ga_goto (tgt := 21) d_W_remove_9 (by decide) ?_
    refine ga_iconst (v := (0 : Int32)) d_W_remove_21 (by decide) ?_
    exact ga_iret rfl d_W_remove_22
  · intro x5 w4
    refine ga_iteX (fun h6 => ?_) (fun h6 => ?_)
    · subst h6
      refine ga_catch (i := 3) (lv2 := [(0, .ref p0), (1, .int p1), (2, .ref p2)]) [] ⟨0, 9, 12, 13⟩ [⟨0, 9, 15, 15⟩, ⟨0, 9, 18, 17⟩] rfl (fun _ h => nomatch h) (by decide) (by decide) (List.mem_cons_of_mem _ gw_402) gl_418 d_W_remove_12 rfl (by decide) rfl ?_
      refine ga_iconst (v := (1 : Int32)) d_W_remove_13 (by decide) ?_
      exact ga_iret rfl d_W_remove_14
    · refine ga_iteX (fun h7 => ?_) (fun h7 => ?_)
      · subst h7
        refine ga_catch (i := 3) (lv2 := [(0, .ref p0), (1, .int p1), (2, .ref p2)]) [⟨0, 9, 12, 13⟩] ⟨0, 9, 15, 15⟩ [⟨0, 9, 18, 17⟩] rfl (ga_ps1 "java/lang/IllegalArgumentException" (List.mem_cons_of_mem _ gw_402) (gz_nc (by decide +kernel))) (by decide) (by decide) (List.mem_cons_of_mem _ gw_403) gl_511 d_W_remove_15 rfl (by decide) rfl ?_
        refine ga_iconst (v := (2 : Int32)) d_W_remove_16 (by decide) ?_
        exact ga_iret rfl d_W_remove_17
      · refine ga_iteX (fun h8 => ?_) (fun h8 => ?_)
        · subst h8
          refine ga_catch (i := 3) (lv2 := [(0, .ref p0), (1, .int p1), (2, .ref p2)]) [⟨0, 9, 12, 13⟩, ⟨0, 9, 15, 15⟩] ⟨0, 9, 18, 17⟩ [] rfl (ga_ps2 "java/lang/IllegalArgumentException" (List.mem_cons_of_mem _ gw_402) (gz_nc (by decide +kernel)) "java/lang/IllegalStateException" (List.mem_cons_of_mem _ gw_403) (gz_nc (by decide +kernel))) (by decide) (by decide) (List.mem_cons_of_mem _ gw_404) gl_484 d_W_remove_18 rfl (by decide) rfl ?_
          refine ga_iconst (v := (3 : Int32)) d_W_remove_19 (by decide) ?_
          exact ga_iret rfl d_W_remove_20
        · exact (fun _ _ h => nomatch h)
noncomputable def f_L_open (F : Nat) (p0 : Nat) (w : ga_W) : ga_O :=
  ((ga_gi w 5 4 p0).bind fun v1 => (if v1 = 0 then ((ga_gr w 5 2 p0).bind fun r3 => ((ga_put w 0 5 r3 (.int (0 : Int32))).bind fun w4 => ((ga_put w4 5 4 p0 (.int (1 : Int32))).bind fun w5 => ((ga_gi w5 5 5 p0).bind fun v6 => (some (.inl (some (.int v6)), w5)))))) else (some (.inr 1, w.1, w.2.1 + 1, w.2.2 + 6))))
set_option maxHeartbeats 4000000 in
set_option maxRecDepth 100000 in
theorem m_L_open (hst : l.stackTraces = false) (F : Nat) (p0 : Nat) (w : ga_W) : ga_M l S0 D gz_cl (gz_tA cT) base b gz_xn y_L_open ws_L_open 6 89 true [.ref p0] w (f_L_open F p0 w) := by
  refine ga_enter (cc := c_L_open) (maxL := 1) (ret := (some .int)) hst (by decide) rfl (Nat.le_of_ble_eq_true rfl) ?_
  intro p e R s m args below meth c ad0
  refine ga_sub (lv2 := [(0, .ref p0)]) [0] rfl ?_
  unfold f_L_open
  refine ga_aload_n (q := 0) d_L_open_0 rfl rfl ?_
  refine ga_getI (C := "LevelStore") (T := T_L) (N := 9) (k := 4) (ci := 5) (fun x h => List.mem_cons_of_mem _ (iw_L x h)) rfl (by decide) (List.mem_cons_of_mem _ gw_250) d_L_open_1 (fun v1 => ?_)
  refine ga_if_eq (tgt := 15) d_L_open_4 (by decide) (fun h2 => ?_) (fun h2 => ?_)
  · refine ga_aload_n (q := 0) d_L_open_15 rfl rfl ?_
    refine ga_getR (C := "LevelStore") (T := T_L) (N := 9) (k := 2) (ci := 5) (fun x h => List.mem_cons_of_mem _ (iw_L x h)) rfl (by decide) (List.mem_cons_of_mem _ gw_248) d_L_open_16 (fun r3 => ?_)
    refine ga_iconst (v := (0 : Int32)) d_L_open_19 (by decide) ?_
    refine ga_putB (C := "LevelStore$Entries") (T := T_E) (N := 6) (k := 5) (ci := 0) (ty0 := ty_E) (fun x h => List.mem_cons_of_mem _ (iw_E x h)) ty_E_ok nm_E rfl (by decide) (List.mem_cons_of_mem _ gw_114) (Or.inl rfl) (fun _ => ⟨rfl, rfl⟩) d_L_open_20 (fun w4 => ?_)
    refine ga_aload_n (q := 0) d_L_open_23 rfl rfl ?_
    refine ga_iconst (v := (1 : Int32)) d_L_open_24 (by decide) ?_
    refine ga_putB (C := "LevelStore") (T := T_L) (N := 9) (k := 4) (ci := 5) (ty0 := ty_L) (fun x h => List.mem_cons_of_mem _ (iw_L x h)) ty_L_ok nm_L rfl (by decide) (List.mem_cons_of_mem _ gw_250) (Or.inl rfl) (fun _ => ⟨rfl, rfl⟩) d_L_open_25 (fun w5 => ?_)
    refine ga_aload_n (q := 0) d_L_open_28 rfl rfl ?_
    refine ga_getI (C := "LevelStore") (T := T_L) (N := 9) (k := 5) (ci := 5) (fun x h => List.mem_cons_of_mem _ (iw_L x h)) rfl (by decide) (List.mem_cons_of_mem _ gw_251) d_L_open_29 (fun v6 => ?_)
    exact ga_iret rfl d_L_open_32
  · exact ga_throw (x := 1) (names := gz_ch) rfl (by decide +kernel) gz_chf gl_509 gl_64 (gz_own1 gl_518) (by decide) (Nat.le_of_ble_eq_true rfl) d_L_open_7 d_L_open_10 d_L_open_11 d_L_open_14
noncomputable def f_W_open (F : Nat) (p0 : Nat) (p1 : Nat) (w : ga_W) : ga_O :=
  (if ga_is w 5 p0 = true then ga_c (f_L_open F p0 w) (ga_kI fun v2 w1 => ((ga_sl w1 2 p1 (0 : Int32) (Int32.toInt64 v2)).bind fun w3 => (some (.inl (some (.int (0 : Int32))), w3)))) (fun x5 w4 => (if x5 = 1 then (some (.inl (some (.int (1 : Int32))), w4)) else none)) else none)
set_option maxHeartbeats 4000000 in
set_option maxRecDepth 100000 in
theorem m_W_open (hst : l.stackTraces = false) (F : Nat) (p0 : Nat) (p1 : Nat) (w : ga_W) : ga_M l S0 D gz_cl (gz_tA cT) base b gz_xn y_W_open ws_W_open 7 109 true [.ref p0, .ref p1] w (f_W_open F p0 p1 w) := by
  refine ga_enterH (hh := [(0, 8, 11, 15)]) (cc := c_W_open) (maxL := 3) (ret := (some .int)) hst (by decide) rfl (Nat.le_of_ble_eq_true rfl) ?_
  intro p e R s m args below meth c ad0
  refine ga_sub (lv2 := [(0, .ref p0), (1, .ref p1)]) [0, 1] rfl ?_
  unfold f_W_open
  refine ga_aload_n (q := 1) d_W_open_0 rfl rfl ?_
  refine ga_iconst (v := (0 : Int32)) d_W_open_1 (by decide) ?_
  refine ga_aload_n (q := 0) d_W_open_2 rfl rfl ?_
  refine ga_invV (nA := 0) (ci := 5) (T := T_L) (N := 9) (av := []) (a := p0) (st := [.int (0 : Int32), .ref p1]) (m_L_open hst F p0 w) (Or.inl rfl) (gz_gV gw_551 gw_552 gw_553 gw_51 gw_554) rfl ⟨rfl, by decide +kernel⟩ rfl (by decide) (by decide) (Nat.le_of_ble_eq_true rfl) rfl d_W_open_3 (ga_vI (fun v2 w1 => ?_)) ?_
  · refine ga_i2l d_W_open_6 ?_
    refine ga_stL (t := 2) rfl d_W_open_7 (fun w3 => ?_)
    refine ga_goto (tgt := 14) d_W_open_8 (by decide) ?_
    refine ga_iconst (v := (0 : Int32)) d_W_open_14 (by decide) ?_
    exact ga_iret rfl d_W_open_15
  · intro x5 w4
    refine ga_iteX (fun h6 => ?_) (fun h6 => ?_)
    · subst h6
      refine ga_catch (i := 2) (lv2 := [(0, .ref p0), (1, .ref p1)]) [] ⟨0, 8, 11, 15⟩ [] rfl (fun _ h => nomatch h) (by decide) (by decide) (List.mem_cons_of_mem _ gw_403) gl_511 d_W_open_11 rfl (by decide) rfl ?_
      refine ga_iconst (v := (1 : Int32)) d_W_open_12 (by decide) ?_
      exact ga_iret rfl d_W_open_13
    · exact (fun _ _ h => nomatch h)
noncomputable def f_L_close (F : Nat) (p0 : Nat) (p1 : Int32) (w : ga_W) : ga_O :=
  ((ga_gi w 5 4 p0).bind fun v1 => (if v1 = 0 then (some (.inr 2, w.1, w.2.1 + 1, w.2.2 + 6)) else (if p1 = 0 then ((ga_put w 5 4 p0 (.int (0 : Int32))).bind fun w4 => ((ga_gi w4 5 5 p0).bind fun v5 => (some (.inl (some (.int v5)), w4)))) else ((ga_gr w 5 2 p0).bind fun r6 => ((ga_gi w 0 5 r6).bind fun v7 => (if v7 ≤ 0 then ((ga_put w 5 4 p0 (.int (0 : Int32))).bind fun w9 => ((ga_gi w9 5 5 p0).bind fun v10 => (some (.inl (some (.int v10)), w9)))) else (if ga_is w 5 p0 = true then ga_c (f_L_write F p0 w) (ga_kI fun v12 w11 => ((ga_put w11 5 4 p0 (.int (0 : Int32))).bind fun w13 => ((ga_gi w13 5 5 p0).bind fun v14 => (some (.inl (some (.int v14)), w13))))) ga_up else none)))))))
set_option maxHeartbeats 4000000 in
set_option maxRecDepth 100000 in
theorem m_L_close (hst : l.stackTraces = false) (F : Nat) (p0 : Nat) (p1 : Int32) (w : ga_W) : ga_M l S0 D gz_cl (gz_tA cT) base b gz_xn y_L_close ws_L_close 7 146 true [.ref p0, .int p1] w (f_L_close F p0 p1 w) := by
  refine ga_enter (cc := c_L_close) (maxL := 2) (ret := (some .int)) hst (by decide) rfl (Nat.le_of_ble_eq_true rfl) ?_
  intro p e R s m args below meth c ad0
  refine ga_sub (lv2 := [(0, .ref p0), (1, .int p1)]) [0, 1] rfl ?_
  unfold f_L_close
  refine ga_aload_n (q := 0) d_L_close_0 rfl rfl ?_
  refine ga_getI (C := "LevelStore") (T := T_L) (N := 9) (k := 4) (ci := 5) (fun x h => List.mem_cons_of_mem _ (iw_L x h)) rfl (by decide) (List.mem_cons_of_mem _ gw_250) d_L_close_1 (fun v1 => ?_)
  refine ga_if_ne (tgt := 15) d_L_close_4 (by decide) (fun h2 => ?_) (fun h2 => ?_)
  · exact ga_throw (x := 2) (names := gz_ch) rfl (by decide +kernel) gz_chf gl_482 gl_63 (gz_own2 gl_491) (by decide) (Nat.le_of_ble_eq_true rfl) d_L_close_7 d_L_close_10 d_L_close_11 d_L_close_14
  · refine ga_iload_n (q := 1) d_L_close_15 rfl rfl ?_
    refine ga_if_eq (tgt := 34) d_L_close_16 (by decide) (fun h3 => ?_) (fun h3 => ?_)
    · refine ga_aload_n (q := 0) d_L_close_34 rfl rfl ?_
      refine ga_iconst (v := (0 : Int32)) d_L_close_35 (by decide) ?_
      refine ga_putB (C := "LevelStore") (T := T_L) (N := 9) (k := 4) (ci := 5) (ty0 := ty_L) (fun x h => List.mem_cons_of_mem _ (iw_L x h)) ty_L_ok nm_L rfl (by decide) (List.mem_cons_of_mem _ gw_250) (Or.inl rfl) (fun _ => ⟨rfl, rfl⟩) d_L_close_36 (fun w4 => ?_)
      refine ga_aload_n (q := 0) d_L_close_39 rfl rfl ?_
      refine ga_getI (C := "LevelStore") (T := T_L) (N := 9) (k := 5) (ci := 5) (fun x h => List.mem_cons_of_mem _ (iw_L x h)) rfl (by decide) (List.mem_cons_of_mem _ gw_251) d_L_close_40 (fun v5 => ?_)
      exact ga_iret rfl d_L_close_43
    · refine ga_aload_n (q := 0) d_L_close_19 rfl rfl ?_
      refine ga_getR (C := "LevelStore") (T := T_L) (N := 9) (k := 2) (ci := 5) (fun x h => List.mem_cons_of_mem _ (iw_L x h)) rfl (by decide) (List.mem_cons_of_mem _ gw_248) d_L_close_20 (fun r6 => ?_)
      refine ga_getI (C := "LevelStore$Entries") (T := T_E) (N := 6) (k := 5) (ci := 0) (fun x h => List.mem_cons_of_mem _ (iw_E x h)) rfl (by decide) (List.mem_cons_of_mem _ gw_114) d_L_close_23 (fun v7 => ?_)
      refine ga_if_le (tgt := 34) d_L_close_26 (by decide) (fun h8 => ?_) (fun h8 => ?_)
      · refine ga_aload_n (q := 0) d_L_close_34 rfl rfl ?_
        refine ga_iconst (v := (0 : Int32)) d_L_close_35 (by decide) ?_
        refine ga_putB (C := "LevelStore") (T := T_L) (N := 9) (k := 4) (ci := 5) (ty0 := ty_L) (fun x h => List.mem_cons_of_mem _ (iw_L x h)) ty_L_ok nm_L rfl (by decide) (List.mem_cons_of_mem _ gw_250) (Or.inl rfl) (fun _ => ⟨rfl, rfl⟩) d_L_close_36 (fun w9 => ?_)
        refine ga_aload_n (q := 0) d_L_close_39 rfl rfl ?_
        refine ga_getI (C := "LevelStore") (T := T_L) (N := 9) (k := 5) (ci := 5) (fun x h => List.mem_cons_of_mem _ (iw_L x h)) rfl (by decide) (List.mem_cons_of_mem _ gw_251) d_L_close_40 (fun v10 => ?_)
        exact ga_iret rfl d_L_close_43
      · refine ga_aload_n (q := 0) d_L_close_29 rfl rfl ?_
        refine ga_invV (nA := 0) (ci := 5) (T := T_L) (N := 9) (av := []) (a := p0) (st := []) (m_L_write hst F p0 w) (Or.inl rfl) (gz_gV gw_501 gw_503 gw_12 gw_51 gw_504) rfl ⟨rfl, by decide +kernel⟩ rfl (by decide) (by decide) (Nat.le_of_ble_eq_true rfl) rfl d_L_close_30 (ga_vI (fun v12 w11 => ?_)) (fun _ _ => ga_thru rfl)
        refine ga_pop d_L_close_33 rfl ?_
        refine ga_aload_n (q := 0) d_L_close_34 rfl rfl ?_
        refine ga_iconst (v := (0 : Int32)) d_L_close_35 (by decide) ?_
        refine ga_putB (C := "LevelStore") (T := T_L) (N := 9) (k := 4) (ci := 5) (ty0 := ty_L) (fun x h => List.mem_cons_of_mem _ (iw_L x h)) ty_L_ok nm_L rfl (by decide) (List.mem_cons_of_mem _ gw_250) (Or.inl rfl) (fun _ => ⟨rfl, rfl⟩) d_L_close_36 (fun w13 => ?_)
        refine ga_aload_n (q := 0) d_L_close_39 rfl rfl ?_
        refine ga_getI (C := "LevelStore") (T := T_L) (N := 9) (k := 5) (ci := 5) (fun x h => List.mem_cons_of_mem _ (iw_L x h)) rfl (by decide) (List.mem_cons_of_mem _ gw_251) d_L_close_40 (fun v14 => ?_)
        exact ga_iret rfl d_L_close_43
noncomputable def f_W_close (F : Nat) (p0 : Nat) (p1 : Int32) (p2 : Nat) (w : ga_W) : ga_O :=
  (if ga_is w 5 p0 = true then ga_c (f_L_close F p0 p1 w) (ga_kI fun v2 w1 => ((ga_sl w1 2 p2 (0 : Int32) (Int32.toInt64 v2)).bind fun w3 => (some (.inl (some (.int (0 : Int32))), w3)))) (fun x5 w4 => (if x5 = 1 then (some (.inl (some (.int (1 : Int32))), w4)) else (if x5 = 2 then (some (.inl (some (.int (2 : Int32))), w4)) else none))) else none)
set_option maxHeartbeats 4000000 in
set_option maxRecDepth 100000 in
theorem m_W_close (hst : l.stackTraces = false) (F : Nat) (p0 : Nat) (p1 : Int32) (p2 : Nat) (w : ga_W) : ga_M l S0 D gz_cl (gz_tA cT) base b gz_xn y_W_close ws_W_close 8 167 true [.ref p0, .int p1, .ref p2] w (f_W_close F p0 p1 p2 w) := by
  refine ga_enterH (hh := [(0, 9, 12, 15), (0, 9, 15, 17)]) (cc := c_W_close) (maxL := 4) (ret := (some .int)) hst (by decide) rfl (Nat.le_of_ble_eq_true rfl) ?_
  intro p e R s m args below meth c ad0
  refine ga_sub (lv2 := [(0, .ref p0), (1, .int p1), (2, .ref p2)]) [0, 1, 2] rfl ?_
  unfold f_W_close
  refine ga_aload_n (q := 2) d_W_close_0 rfl rfl ?_
  refine ga_iconst (v := (0 : Int32)) d_W_close_1 (by decide) ?_
  refine ga_aload_n (q := 0) d_W_close_2 rfl rfl ?_
  refine ga_iload_n (q := 1) d_W_close_3 rfl rfl ?_
  refine ga_invV (nA := 1) (ci := 5) (T := T_L) (N := 9) (av := [.int p1]) (a := p0) (st := [.int (0 : Int32), .ref p2]) (m_L_close hst F p0 p1 w) (Or.inl rfl) (gz_gV gw_558 gw_559 gw_560 gw_51 gw_561) rfl ⟨rfl, by decide +kernel⟩ rfl (by decide) (by decide) (Nat.le_of_ble_eq_true rfl) rfl d_W_close_4 (ga_vI (fun v2 w1 => ?_)) ?_
  · refine ga_i2l d_W_close_7 ?_
    refine ga_stL (t := 2) rfl d_W_close_8 (fun w3 => ?_)
    refine ga_goto (tgt := 18) d_W_close_9 (by decide) ?_
    refine ga_iconst (v := (0 : Int32)) d_W_close_18 (by decide) ?_
    exact ga_iret rfl d_W_close_19
  · intro x5 w4
    refine ga_iteX (fun h6 => ?_) (fun h6 => ?_)
    · subst h6
      refine ga_catch (i := 3) (lv2 := [(0, .ref p0), (1, .int p1), (2, .ref p2)]) [] ⟨0, 9, 12, 15⟩ [⟨0, 9, 15, 17⟩] rfl (fun _ h => nomatch h) (by decide) (by decide) (List.mem_cons_of_mem _ gw_403) gl_511 d_W_close_12 rfl (by decide) rfl ?_
      refine ga_iconst (v := (1 : Int32)) d_W_close_13 (by decide) ?_
      exact ga_iret rfl d_W_close_14
    · refine ga_iteX (fun h7 => ?_) (fun h7 => ?_)
      · subst h7
        refine ga_catch (i := 3) (lv2 := [(0, .ref p0), (1, .int p1), (2, .ref p2)]) [⟨0, 9, 12, 15⟩] ⟨0, 9, 15, 17⟩ [] rfl (ga_ps1 "java/lang/IllegalStateException" (List.mem_cons_of_mem _ gw_403) (gz_nc (by decide +kernel))) (by decide) (by decide) (List.mem_cons_of_mem _ gw_404) gl_484 d_W_close_15 rfl (by decide) rfl ?_
        refine ga_iconst (v := (2 : Int32)) d_W_close_16 (by decide) ?_
        exact ga_iret rfl d_W_close_17
      · exact (fun _ _ h => nomatch h)
noncomputable def f_M_loseAllBut (F : Nat) (p0 : Nat) (p1 : Int32) (w : ga_W) : ga_O :=
  ((ga_gi w 2 2 p0).bind fun v1 => ((ga_put w 2 2 p0 (.int (if p1 < v1 then p1 else v1))).bind fun w2 => ((ga_gr w2 2 0 p0).bind fun r3 => ((ga_gr w2 2 1 p0).bind fun r4 => ((ga_gi w2 2 2 p0).bind fun v5 => ((ga_ai w2 0 r4 v5).bind fun v6 => ((ga_put w2 0 5 r3 (.int v6)).bind fun w7 => ((ga_gi w7 2 2 p0).bind fun v8 => ((ga_put w7 2 3 p0 (.int v8)).bind fun w9 => (some (.inl none, w9)))))))))))
set_option maxHeartbeats 4000000 in
set_option maxRecDepth 100000 in
theorem m_M_loseAllBut (hst : l.stackTraces = false) (F : Nat) (p0 : Nat) (p1 : Int32) (w : ga_W) : ga_M l S0 D gz_cl (gz_tA cT) base b gz_xn y_M_loseAllBut ws_M_loseAllBut 1 21 true [.ref p0, .int p1] w (f_M_loseAllBut F p0 p1 w) := by
  refine ga_enter (cc := c_M_loseAllBut) (maxL := 2) (ret := none) hst (by decide) rfl (Nat.le_of_ble_eq_true rfl) ?_
  intro p e R s m args below meth c ad0
  refine ga_sub (lv2 := [(0, .ref p0), (1, .int p1)]) [0, 1] rfl ?_
  unfold f_M_loseAllBut
  refine ga_aload_n (q := 0) d_M_loseAllBut_0 rfl rfl ?_
  refine ga_aload_n (q := 0) d_M_loseAllBut_1 rfl rfl ?_
  refine ga_getI (C := "LevelStore$Memory") (T := T_M) (N := 4) (k := 2) (ci := 2) (fun x h => List.mem_cons_of_mem _ (iw_M x h)) rfl (by decide) (List.mem_cons_of_mem _ gw_134) d_M_loseAllBut_2 (fun v1 => ?_)
  refine ga_iload_n (q := 1) d_M_loseAllBut_5 rfl rfl ?_
  refine ga_min (List.mem_cons_of_mem _ gw_573) (List.mem_cons_of_mem _ gw_311) (List.mem_cons_of_mem _ gw_65) (List.mem_cons_of_mem _ gw_312) (Nat.le_of_ble_eq_true rfl) (by decide) (by decide) d_M_loseAllBut_6 ?_
  refine ga_putB (C := "LevelStore$Memory") (T := T_M) (N := 4) (k := 2) (ci := 2) (ty0 := ty_M) (fun x h => List.mem_cons_of_mem _ (iw_M x h)) ty_M_ok nm_M rfl (by decide) (List.mem_cons_of_mem _ gw_134) (Or.inl rfl) (fun _ => ⟨rfl, rfl⟩) d_M_loseAllBut_9 (fun w2 => ?_)
  refine ga_aload_n (q := 0) d_M_loseAllBut_12 rfl rfl ?_
  refine ga_getR (C := "LevelStore$Memory") (T := T_M) (N := 4) (k := 0) (ci := 2) (fun x h => List.mem_cons_of_mem _ (iw_M x h)) rfl (by decide) (List.mem_cons_of_mem _ gw_131) d_M_loseAllBut_13 (fun r3 => ?_)
  refine ga_aload_n (q := 0) d_M_loseAllBut_16 rfl rfl ?_
  refine ga_getR (C := "LevelStore$Memory") (T := T_M) (N := 4) (k := 1) (ci := 2) (fun x h => List.mem_cons_of_mem _ (iw_M x h)) rfl (by decide) (List.mem_cons_of_mem _ gw_133) d_M_loseAllBut_17 (fun r4 => ?_)
  refine ga_aload_n (q := 0) d_M_loseAllBut_20 rfl rfl ?_
  refine ga_getI (C := "LevelStore$Memory") (T := T_M) (N := 4) (k := 2) (ci := 2) (fun x h => List.mem_cons_of_mem _ (iw_M x h)) rfl (by decide) (List.mem_cons_of_mem _ gw_134) d_M_loseAllBut_21 (fun v5 => ?_)
  refine ga_ldI (t := 0) rfl d_M_loseAllBut_24 (fun v6 => ?_)
  refine ga_putB (C := "LevelStore$Entries") (T := T_E) (N := 6) (k := 5) (ci := 0) (ty0 := ty_E) (fun x h => List.mem_cons_of_mem _ (iw_E x h)) ty_E_ok nm_E rfl (by decide) (List.mem_cons_of_mem _ gw_110) (Or.inl rfl) (fun _ => ⟨rfl, rfl⟩) d_M_loseAllBut_25 (fun w7 => ?_)
  refine ga_aload_n (q := 0) d_M_loseAllBut_28 rfl rfl ?_
  refine ga_aload_n (q := 0) d_M_loseAllBut_29 rfl rfl ?_
  refine ga_getI (C := "LevelStore$Memory") (T := T_M) (N := 4) (k := 2) (ci := 2) (fun x h => List.mem_cons_of_mem _ (iw_M x h)) rfl (by decide) (List.mem_cons_of_mem _ gw_134) d_M_loseAllBut_30 (fun v8 => ?_)
  refine ga_putB (C := "LevelStore$Memory") (T := T_M) (N := 4) (k := 3) (ci := 2) (ty0 := ty_M) (fun x h => List.mem_cons_of_mem _ (iw_M x h)) ty_M_ok nm_M rfl (by decide) (List.mem_cons_of_mem _ gw_136) (Or.inl rfl) (fun _ => ⟨rfl, rfl⟩) d_M_loseAllBut_33 (fun w9 => ?_)
  exact ga_vret rfl d_M_loseAllBut_36
noncomputable def f_E_greatestNumber_4 (F : Nat) (x0 : Nat) : Nat → Int32 → Int32 → ga_W → ga_O
  | 0, _, _, _ => none
  | n + 1, x1, x2, w => ((ga_gi w 0 5 x0).bind fun v1 => (if v1 ≤ x2 then (some (.inl (some (.int x1)), w)) else ((ga_gr w 0 1 x0).bind fun r3 => ((ga_ai w 0 r3 x2).bind fun v4 => (f_E_greatestNumber_4 F x0 n (if x1 < v4 then v4 else x1) (x2 + (1 : Int32)) w)))))
noncomputable def f_E_greatestNumber (F : Nat) (p0 : Nat) (w : ga_W) : ga_O :=
  (f_E_greatestNumber_4 F p0 F (0 : Int32) (0 : Int32) w)
set_option maxHeartbeats 4000000 in
set_option maxRecDepth 100000 in
theorem h_E_greatestNumber_4 (hst : l.stackTraces = false) (F : Nat) (x0 : Nat) : ∀ (n : Nat) (x1 : Int32) (x2 : Int32) (w : ga_W), ga_J l S0 D gz_cl (gz_tA cT) base b gz_xn p e R s m args below meth c 3 ws_E_greatestNumber y_E_greatestNumber.cls c_E_greatestNumber (some .int) [] y_E_greatestNumber.name 1 21 true ad0 w0 (ga_MQ gz_xn D gz_cl (gz_tA cT) base b s args below ad0 w0) 4 [(0, .ref x0), (1, .int x1), (2, .int x2)] [] w (f_E_greatestNumber_4 F x0 n x1 x2 w) := by
  intro n
  induction n with
  | zero => intro x1 x2 w; exact ga_no
  | succ n ih =>
    intro x1 x2 w
    rw [f_E_greatestNumber_4]
    refine ga_iload_n (q := 2) d_E_greatestNumber_4 rfl rfl ?_
    refine ga_aload_n (q := 0) d_E_greatestNumber_5 rfl rfl ?_
    refine ga_getI (C := "LevelStore$Entries") (T := T_E) (N := 6) (k := 5) (ci := 0) (fun x h => List.mem_cons_of_mem _ (iw_E x h)) rfl (by decide) (List.mem_cons_of_mem _ gw_111) d_E_greatestNumber_6 (fun v1 => ?_)
    refine ga_icmp_ge (tgt := 29) d_E_greatestNumber_9 (by decide) (fun h2 => ?_) (fun h2 => ?_)
    · refine ga_iload_n (q := 1) d_E_greatestNumber_29 rfl rfl ?_
      exact ga_iret rfl d_E_greatestNumber_30
    · refine ga_iload_n (q := 1) d_E_greatestNumber_12 rfl rfl ?_
      refine ga_aload_n (q := 0) d_E_greatestNumber_13 rfl rfl ?_
      refine ga_getR (C := "LevelStore$Entries") (T := T_E) (N := 6) (k := 1) (ci := 0) (fun x h => List.mem_cons_of_mem _ (iw_E x h)) rfl (by decide) (List.mem_cons_of_mem _ gw_95) d_E_greatestNumber_14 (fun r3 => ?_)
      refine ga_iload_n (q := 2) d_E_greatestNumber_17 rfl rfl ?_
      refine ga_ldI (t := 0) rfl d_E_greatestNumber_18 (fun v4 => ?_)
      refine ga_max (List.mem_cons_of_mem _ gw_578) (List.mem_cons_of_mem _ gw_344) (List.mem_cons_of_mem _ gw_65) (List.mem_cons_of_mem _ gw_345) (Nat.le_of_ble_eq_true rfl) (by decide) (by decide) d_E_greatestNumber_19 ?_
      refine ga_istore_n (lv2 := [(1, .int (if x1 < v4 then v4 else x1)), (0, .ref x0), (2, .int x2)]) d_E_greatestNumber_22 rfl (by decide) rfl ?_
      refine ga_iinc (q := 2) (v := (x2 + (1 : Int32))) (lv2 := [(2, .int (x2 + (1 : Int32))), (1, .int (if x1 < v4 then v4 else x1)), (0, .ref x0)]) d_E_greatestNumber_23 rfl rfl (by decide) rfl ?_
      refine ga_goto (tgt := 4) d_E_greatestNumber_26 (by decide) ?_
      refine ga_sub (lv2 := [(0, .ref x0), (1, .int (if x1 < v4 then v4 else x1)), (2, .int (x2 + (1 : Int32)))]) [2, 1, 0] rfl ?_
      exact ih _ _ _
set_option maxHeartbeats 4000000 in
set_option maxRecDepth 100000 in
theorem m_E_greatestNumber (hst : l.stackTraces = false) (F : Nat) (p0 : Nat) (w : ga_W) : ga_M l S0 D gz_cl (gz_tA cT) base b gz_xn y_E_greatestNumber ws_E_greatestNumber 1 21 true [.ref p0] w (f_E_greatestNumber F p0 w) := by
  refine ga_enter (cc := c_E_greatestNumber) (maxL := 3) (ret := (some .int)) hst (by decide) rfl (Nat.le_of_ble_eq_true rfl) ?_
  intro p e R s m args below meth c ad0
  refine ga_sub (lv2 := [(0, .ref p0)]) [0] rfl ?_
  unfold f_E_greatestNumber
  refine ga_iconst (v := (0 : Int32)) d_E_greatestNumber_0 (by decide) ?_
  refine ga_istore_n (lv2 := [(1, .int (0 : Int32)), (0, .ref p0)]) d_E_greatestNumber_1 rfl (by decide) rfl ?_
  refine ga_iconst (v := (0 : Int32)) d_E_greatestNumber_2 (by decide) ?_
  refine ga_istore_n (lv2 := [(2, .int (0 : Int32)), (1, .int (0 : Int32)), (0, .ref p0)]) d_E_greatestNumber_3 rfl (by decide) rfl ?_
  refine ga_sub (lv2 := [(0, .ref p0), (1, .int (0 : Int32)), (2, .int (0 : Int32))]) [2, 1, 0] rfl ?_
  exact h_E_greatestNumber_4 hst F p0 F (0 : Int32) (0 : Int32) w
noncomputable def f_L_crash (F : Nat) (p0 : Nat) (p1 : Int32) (w : ga_W) : ga_O :=
  (ga_c (f_L_requireWithin F p1 (0 : Int32) (100 : Int32) w) (ga_kV fun w1 => ((ga_put w1 5 4 p0 (.int (0 : Int32))).bind fun w2 => ((ga_gr w2 5 3 p0).bind fun r3 => (ga_c (f_J_fill F r3 (-1 : Int32) w2) (ga_kV fun w4 => ((ga_gr w4 5 0 p0).bind fun r5 => ((ga_gr w4 5 0 p0).bind fun r6 => ((ga_gi w4 2 3 r6).bind fun v7 => (if ga_is w4 2 r5 = true then ga_c (f_M_loseAllBut F r5 (v7 + p1) w4) (ga_kV fun w8 => ((ga_gr w8 5 0 p0).bind fun r9 => ((ga_gr w8 2 0 r9).bind fun r10 => (if ga_is w8 0 r10 = true then ga_c (f_E_greatestNumber F r10 w8) (ga_kI fun v12 w11 => ((ga_gr w11 5 1 p0).bind fun r13 => ((ga_gr w11 1 0 r13).bind fun r14 => ((ga_gr w11 3 0 r14).bind fun r15 => (if ga_is w11 0 r15 = true then ga_c (f_E_greatestNumber F r15 w11) (ga_kI fun v17 w16 => ((ga_put w16 5 5 p0 (.int (if v12 < v17 then v17 else v12))).bind fun w18 => ((ga_gr w18 5 0 p0).bind fun r19 => ((ga_gi w18 2 2 r19).bind fun v20 => (some (.inl (some (.int v20)), w18)))))) ga_up else none))))) ga_up else none)))) ga_up else none))))) ga_up)))) ga_up)
set_option maxHeartbeats 4000000 in
set_option maxRecDepth 100000 in
theorem m_L_crash (hst : l.stackTraces = false) (F : Nat) (p0 : Nat) (p1 : Int32) (w : ga_W) : ga_M l S0 D gz_cl (gz_tA cT) base b gz_xn y_L_crash ws_L_crash 7 111 true [.ref p0, .int p1] w (f_L_crash F p0 p1 w) := by
  refine ga_enter (cc := c_L_crash) (maxL := 2) (ret := (some .int)) hst (by decide) rfl (Nat.le_of_ble_eq_true rfl) ?_
  intro p e R s m args below meth c ad0
  refine ga_sub (lv2 := [(0, .ref p0), (1, .int p1)]) [0, 1] rfl ?_
  unfold f_L_crash
  refine ga_iload_n (q := 1) d_L_crash_0 rfl rfl ?_
  refine ga_iconst (v := (0 : Int32)) d_L_crash_1 (by decide) ?_
  refine ga_bipush (v := (100 : Int32)) d_L_crash_2 (by decide) ?_
  refine ga_invS (nA := 3) (av := [.int p1, .int (0 : Int32), .int (100 : Int32)]) (st := []) (m_L_requireWithin hst F p1 (0 : Int32) (100 : Int32) w) (Or.inl rfl) (gz_gS gw_413 gw_414 gw_51 gw_415) rfl (by decide +kernel) rfl (by decide) (by decide) (Nat.le_of_ble_eq_true rfl) d_L_crash_4 (ga_vV (fun w1 => ?_)) (fun _ _ => ga_thru rfl)
  refine ga_aload_n (q := 0) d_L_crash_7 rfl rfl ?_
  refine ga_iconst (v := (0 : Int32)) d_L_crash_8 (by decide) ?_
  refine ga_putB (C := "LevelStore") (T := T_L) (N := 9) (k := 4) (ci := 5) (ty0 := ty_L) (fun x h => List.mem_cons_of_mem _ (iw_L x h)) ty_L_ok nm_L rfl (by decide) (List.mem_cons_of_mem _ gw_250) (Or.inl rfl) (fun _ => ⟨rfl, rfl⟩) d_L_crash_9 (fun w2 => ?_)
  refine ga_aload_n (q := 0) d_L_crash_12 rfl rfl ?_
  refine ga_getR (C := "LevelStore") (T := T_L) (N := 9) (k := 3) (ci := 5) (fun x h => List.mem_cons_of_mem _ (iw_L x h)) rfl (by decide) (List.mem_cons_of_mem _ gw_249) d_L_crash_13 (fun r3 => ?_)
  refine ga_iconst (v := (-1 : Int32)) d_L_crash_16 (by decide) ?_
  refine ga_invS (nA := 2) (av := [.ref r3, .int (-1 : Int32)]) (st := []) (m_J_fill hst F r3 (-1 : Int32) w2) (Or.inl rfl) (gz_gS gw_243 gw_244 gw_57 gw_245) rfl (by decide +kernel) rfl (by decide) (by decide) (Nat.le_of_ble_eq_true rfl) d_L_crash_17 (ga_vV (fun w4 => ?_)) (fun _ _ => ga_thru rfl)
  refine ga_aload_n (q := 0) d_L_crash_20 rfl rfl ?_
  refine ga_getR (C := "LevelStore") (T := T_L) (N := 9) (k := 0) (ci := 5) (fun x h => List.mem_cons_of_mem _ (iw_L x h)) rfl (by decide) (List.mem_cons_of_mem _ gw_246) d_L_crash_21 (fun r5 => ?_)
  refine ga_aload_n (q := 0) d_L_crash_24 rfl rfl ?_
  refine ga_getR (C := "LevelStore") (T := T_L) (N := 9) (k := 0) (ci := 5) (fun x h => List.mem_cons_of_mem _ (iw_L x h)) rfl (by decide) (List.mem_cons_of_mem _ gw_246) d_L_crash_25 (fun r6 => ?_)
  refine ga_getI (C := "LevelStore$Memory") (T := T_M) (N := 4) (k := 3) (ci := 2) (fun x h => List.mem_cons_of_mem _ (iw_M x h)) rfl (by decide) (List.mem_cons_of_mem _ gw_137) d_L_crash_28 (fun v7 => ?_)
  refine ga_iload_n (q := 1) d_L_crash_31 rfl rfl ?_
  refine ga_iadd d_L_crash_32 ?_
  refine ga_invV (nA := 1) (ci := 2) (T := T_M) (N := 4) (av := [.int (v7 + p1)]) (a := r5) (st := []) (m_M_loseAllBut hst F r5 (v7 + p1) w4) (Or.inl rfl) (gz_gV gw_569 gw_570 gw_571 gw_52 gw_572) rfl ⟨rfl, by decide +kernel⟩ rfl (by decide) (by decide) (Nat.le_of_ble_eq_true rfl) rfl d_L_crash_33 (ga_vV (fun w8 => ?_)) (fun _ _ => ga_thru rfl)
  refine ga_aload_n (q := 0) d_L_crash_36 rfl rfl ?_
  refine ga_aload_n (q := 0) d_L_crash_37 rfl rfl ?_
  refine ga_getR (C := "LevelStore") (T := T_L) (N := 9) (k := 0) (ci := 5) (fun x h => List.mem_cons_of_mem _ (iw_L x h)) rfl (by decide) (List.mem_cons_of_mem _ gw_246) d_L_crash_38 (fun r9 => ?_)
  refine ga_getR (C := "LevelStore$Memory") (T := T_M) (N := 4) (k := 0) (ci := 2) (fun x h => List.mem_cons_of_mem _ (iw_M x h)) rfl (by decide) (List.mem_cons_of_mem _ gw_132) d_L_crash_41 (fun r10 => ?_)
  refine ga_invV (nA := 0) (ci := 0) (T := T_E) (N := 6) (av := []) (a := r10) (st := [.ref p0]) (m_E_greatestNumber hst F r10 w8) (Or.inl rfl) (gz_gV gw_574 gw_575 gw_576 gw_53 gw_577) rfl ⟨rfl, by decide +kernel⟩ rfl (by decide) (by decide) (Nat.le_of_ble_eq_true rfl) rfl d_L_crash_44 (ga_vI (fun v12 w11 => ?_)) (fun _ _ => ga_thru rfl)
  refine ga_aload_n (q := 0) d_L_crash_47 rfl rfl ?_
  refine ga_getR (C := "LevelStore") (T := T_L) (N := 9) (k := 1) (ci := 5) (fun x h => List.mem_cons_of_mem _ (iw_L x h)) rfl (by decide) (List.mem_cons_of_mem _ gw_247) d_L_crash_48 (fun r13 => ?_)
  refine ga_getR (C := "LevelStore$Levels") (T := T_V) (N := 9) (k := 0) (ci := 1) (fun x h => List.mem_cons_of_mem _ (iw_V x h)) rfl (by decide) (List.mem_cons_of_mem _ gw_209) d_L_crash_51 (fun r14 => ?_)
  refine ga_getR (C := "LevelStore$Shelf") (T := T_S) (N := 5) (k := 0) (ci := 3) (fun x h => List.mem_cons_of_mem _ (iw_S x h)) rfl (by decide) (List.mem_cons_of_mem _ gw_163) d_L_crash_54 (fun r15 => ?_)
  refine ga_invV (nA := 0) (ci := 0) (T := T_E) (N := 6) (av := []) (a := r15) (st := [.int v12, .ref p0]) (m_E_greatestNumber hst F r15 w11) (Or.inl rfl) (gz_gV gw_574 gw_575 gw_576 gw_53 gw_577) rfl ⟨rfl, by decide +kernel⟩ rfl (by decide) (by decide) (Nat.le_of_ble_eq_true rfl) rfl d_L_crash_57 (ga_vI (fun v17 w16 => ?_)) (fun _ _ => ga_thru rfl)
  refine ga_max (List.mem_cons_of_mem _ gw_579) (List.mem_cons_of_mem _ gw_344) (List.mem_cons_of_mem _ gw_65) (List.mem_cons_of_mem _ gw_345) (Nat.le_of_ble_eq_true rfl) (by decide) (by decide) d_L_crash_60 ?_
  refine ga_putB (C := "LevelStore") (T := T_L) (N := 9) (k := 5) (ci := 5) (ty0 := ty_L) (fun x h => List.mem_cons_of_mem _ (iw_L x h)) ty_L_ok nm_L rfl (by decide) (List.mem_cons_of_mem _ gw_251) (Or.inl rfl) (fun _ => ⟨rfl, rfl⟩) d_L_crash_63 (fun w18 => ?_)
  refine ga_aload_n (q := 0) d_L_crash_66 rfl rfl ?_
  refine ga_getR (C := "LevelStore") (T := T_L) (N := 9) (k := 0) (ci := 5) (fun x h => List.mem_cons_of_mem _ (iw_L x h)) rfl (by decide) (List.mem_cons_of_mem _ gw_246) d_L_crash_67 (fun r19 => ?_)
  refine ga_getI (C := "LevelStore$Memory") (T := T_M) (N := 4) (k := 2) (ci := 2) (fun x h => List.mem_cons_of_mem _ (iw_M x h)) rfl (by decide) (List.mem_cons_of_mem _ gw_135) d_L_crash_70 (fun v20 => ?_)
  exact ga_iret rfl d_L_crash_73
noncomputable def f_W_crash (F : Nat) (p0 : Nat) (p1 : Int32) (p2 : Nat) (w : ga_W) : ga_O :=
  (if ga_is w 5 p0 = true then ga_c (f_L_crash F p0 p1 w) (ga_kI fun v2 w1 => ((ga_sl w1 2 p2 (0 : Int32) (Int32.toInt64 v2)).bind fun w3 => (some (.inl (some (.int (0 : Int32))), w3)))) (fun x5 w4 => (if x5 = 0 then (some (.inl (some (.int (1 : Int32))), w4)) else none)) else none)
set_option maxHeartbeats 4000000 in
set_option maxRecDepth 100000 in
theorem m_W_crash (hst : l.stackTraces = false) (F : Nat) (p0 : Nat) (p1 : Int32) (p2 : Nat) (w : ga_W) : ga_M l S0 D gz_cl (gz_tA cT) base b gz_xn y_W_crash ws_W_crash 8 132 true [.ref p0, .int p1, .ref p2] w (f_W_crash F p0 p1 p2 w) := by
  refine ga_enterH (hh := [(0, 9, 12, 13)]) (cc := c_W_crash) (maxL := 4) (ret := (some .int)) hst (by decide) rfl (Nat.le_of_ble_eq_true rfl) ?_
  intro p e R s m args below meth c ad0
  refine ga_sub (lv2 := [(0, .ref p0), (1, .int p1), (2, .ref p2)]) [0, 1, 2] rfl ?_
  unfold f_W_crash
  refine ga_aload_n (q := 2) d_W_crash_0 rfl rfl ?_
  refine ga_iconst (v := (0 : Int32)) d_W_crash_1 (by decide) ?_
  refine ga_aload_n (q := 0) d_W_crash_2 rfl rfl ?_
  refine ga_iload_n (q := 1) d_W_crash_3 rfl rfl ?_
  refine ga_invV (nA := 1) (ci := 5) (T := T_L) (N := 9) (av := [.int p1]) (a := p0) (st := [.int (0 : Int32), .ref p2]) (m_L_crash hst F p0 p1 w) (Or.inl rfl) (gz_gV gw_565 gw_566 gw_567 gw_51 gw_568) rfl ⟨rfl, by decide +kernel⟩ rfl (by decide) (by decide) (Nat.le_of_ble_eq_true rfl) rfl d_W_crash_4 (ga_vI (fun v2 w1 => ?_)) ?_
  · refine ga_i2l d_W_crash_7 ?_
    refine ga_stL (t := 2) rfl d_W_crash_8 (fun w3 => ?_)
    refine ga_goto (tgt := 15) d_W_crash_9 (by decide) ?_
    refine ga_iconst (v := (0 : Int32)) d_W_crash_15 (by decide) ?_
    exact ga_iret rfl d_W_crash_16
  · intro x5 w4
    refine ga_iteX (fun h6 => ?_) (fun h6 => ?_)
    · subst h6
      refine ga_catch (i := 3) (lv2 := [(0, .ref p0), (1, .int p1), (2, .ref p2)]) [] ⟨0, 9, 12, 13⟩ [] rfl (fun _ h => nomatch h) (by decide) (by decide) (List.mem_cons_of_mem _ gw_402) gl_418 d_W_crash_12 rfl (by decide) rfl ?_
      refine ga_iconst (v := (1 : Int32)) d_W_crash_13 (by decide) ?_
      exact ga_iret rfl d_W_crash_14
    · exact (fun _ _ h => nomatch h)
noncomputable def f_L_flush (F : Nat) (p0 : Nat) (w : ga_W) : ga_O :=
  ((ga_gr w 5 0 p0).bind fun r1 => ((ga_gr w 2 0 r1).bind fun r2 => ((ga_gi w 0 5 r2).bind fun v3 => (if v3 = 0 then (some (.inr 2, w.1, w.2.1 + 1, w.2.2 + 6)) else ((ga_gr w 5 1 p0).bind fun r5 => (if ga_is w 1 r5 = true then ga_c (f_V_isBlocked F r5 w) (ga_kI fun v7 w6 => (if v7 = 0 then (if ga_is w6 5 p0 = true then ga_c (f_L_moveMemoryToLevel0 F p0 w6) (ga_kV fun w9 => ((ga_gr w9 5 1 p0).bind fun r10 => (if ga_is w9 5 p0 = true then ga_c (f_L_oldest F p0 w9) (ga_kI fun v12 w11 => (if ga_is w11 1 r10 = true then ga_c (f_V_tidy F r10 v12 w11) (ga_kV fun w13 => ((ga_gr w13 5 1 p0).bind fun r14 => ((ga_gr w13 1 0 r14).bind fun r15 => ((ga_gi w13 3 4 r15).bind fun v16 => (some (.inl (some (.int v16)), w13)))))) ga_up else none)) ga_up else none))) ga_up else none) else (some (.inr 1, w6.1, w6.2.1 + 1, w6.2.2 + 6)))) ga_up else none))))))
set_option maxHeartbeats 4000000 in
set_option maxRecDepth 100000 in
theorem m_L_flush (hst : l.stackTraces = false) (F : Nat) (p0 : Nat) (w : ga_W) : ga_M l S0 D gz_cl (gz_tA cT) base b gz_xn y_L_flush ws_L_flush 6 125 true [.ref p0] w (f_L_flush F p0 w) := by
  refine ga_enter (cc := c_L_flush) (maxL := 1) (ret := (some .int)) hst (by decide) rfl (Nat.le_of_ble_eq_true rfl) ?_
  intro p e R s m args below meth c ad0
  refine ga_sub (lv2 := [(0, .ref p0)]) [0] rfl ?_
  unfold f_L_flush
  refine ga_aload_n (q := 0) d_L_flush_0 rfl rfl ?_
  refine ga_getR (C := "LevelStore") (T := T_L) (N := 9) (k := 0) (ci := 5) (fun x h => List.mem_cons_of_mem _ (iw_L x h)) rfl (by decide) (List.mem_cons_of_mem _ gw_246) d_L_flush_1 (fun r1 => ?_)
  refine ga_getR (C := "LevelStore$Memory") (T := T_M) (N := 4) (k := 0) (ci := 2) (fun x h => List.mem_cons_of_mem _ (iw_M x h)) rfl (by decide) (List.mem_cons_of_mem _ gw_132) d_L_flush_4 (fun r2 => ?_)
  refine ga_getI (C := "LevelStore$Entries") (T := T_E) (N := 6) (k := 5) (ci := 0) (fun x h => List.mem_cons_of_mem _ (iw_E x h)) rfl (by decide) (List.mem_cons_of_mem _ gw_114) d_L_flush_7 (fun v3 => ?_)
  refine ga_if_ne (tgt := 21) d_L_flush_10 (by decide) (fun h4 => ?_) (fun h4 => ?_)
  · exact ga_throw (x := 2) (names := gz_ch) rfl (by decide +kernel) gz_chf gl_482 gl_63 (gz_own2 gl_491) (by decide) (Nat.le_of_ble_eq_true rfl) d_L_flush_13 d_L_flush_16 d_L_flush_17 d_L_flush_20
  · refine ga_aload_n (q := 0) d_L_flush_21 rfl rfl ?_
    refine ga_getR (C := "LevelStore") (T := T_L) (N := 9) (k := 1) (ci := 5) (fun x h => List.mem_cons_of_mem _ (iw_L x h)) rfl (by decide) (List.mem_cons_of_mem _ gw_247) d_L_flush_22 (fun r5 => ?_)
    refine ga_invV (nA := 0) (ci := 1) (T := T_V) (N := 9) (av := []) (a := r5) (st := []) (m_V_isBlocked hst F r5 w) (Or.inl rfl) (gz_gV gw_505 gw_506 gw_507 gw_54 gw_508) rfl ⟨rfl, by decide +kernel⟩ rfl (by decide) (by decide) (Nat.le_of_ble_eq_true rfl) rfl d_L_flush_25 (ga_vI (fun v7 w6 => ?_)) (fun _ _ => ga_thru rfl)
    refine ga_if_eq (tgt := 39) d_L_flush_28 (by decide) (fun h8 => ?_) (fun h8 => ?_)
    · refine ga_aload_n (q := 0) d_L_flush_39 rfl rfl ?_
      refine ga_invV (nA := 0) (ci := 5) (T := T_L) (N := 9) (av := []) (a := p0) (st := []) (m_L_moveMemoryToLevel0 hst F p0 w6) (Or.inl rfl) (gz_gV gw_529 gw_531 gw_13 gw_51 gw_532) rfl ⟨rfl, by decide +kernel⟩ rfl (by decide) (by decide) (Nat.le_of_ble_eq_true rfl) rfl d_L_flush_40 (ga_vV (fun w9 => ?_)) (fun _ _ => ga_thru rfl)
      refine ga_aload_n (q := 0) d_L_flush_43 rfl rfl ?_
      refine ga_getR (C := "LevelStore") (T := T_L) (N := 9) (k := 1) (ci := 5) (fun x h => List.mem_cons_of_mem _ (iw_L x h)) rfl (by decide) (List.mem_cons_of_mem _ gw_247) d_L_flush_44 (fun r10 => ?_)
      refine ga_aload_n (q := 0) d_L_flush_47 rfl rfl ?_
      refine ga_invV (nA := 0) (ci := 5) (T := T_L) (N := 9) (av := []) (a := p0) (st := [.ref r10]) (m_L_oldest hst F p0 w9) (Or.inl rfl) (gz_gV gw_306 gw_308 gw_1 gw_51 gw_309) rfl ⟨rfl, by decide +kernel⟩ rfl (by decide) (by decide) (Nat.le_of_ble_eq_true rfl) rfl d_L_flush_48 (ga_vI (fun v12 w11 => ?_)) (fun _ _ => ga_thru rfl)
      refine ga_invV (nA := 1) (ci := 1) (T := T_V) (N := 9) (av := [.int v12]) (a := r10) (st := []) (m_V_tidy hst F r10 v12 w11) (Or.inl rfl) (gz_gV gw_313 gw_314 gw_315 gw_54 gw_316) rfl ⟨rfl, by decide +kernel⟩ rfl (by decide) (by decide) (Nat.le_of_ble_eq_true rfl) rfl d_L_flush_51 (ga_vV (fun w13 => ?_)) (fun _ _ => ga_thru rfl)
      refine ga_aload_n (q := 0) d_L_flush_54 rfl rfl ?_
      refine ga_getR (C := "LevelStore") (T := T_L) (N := 9) (k := 1) (ci := 5) (fun x h => List.mem_cons_of_mem _ (iw_L x h)) rfl (by decide) (List.mem_cons_of_mem _ gw_247) d_L_flush_55 (fun r14 => ?_)
      refine ga_getR (C := "LevelStore$Levels") (T := T_V) (N := 9) (k := 0) (ci := 1) (fun x h => List.mem_cons_of_mem _ (iw_V x h)) rfl (by decide) (List.mem_cons_of_mem _ gw_209) d_L_flush_58 (fun r15 => ?_)
      refine ga_getI (C := "LevelStore$Shelf") (T := T_S) (N := 5) (k := 4) (ci := 3) (fun x h => List.mem_cons_of_mem _ (iw_S x h)) rfl (by decide) (List.mem_cons_of_mem _ gw_175) d_L_flush_61 (fun v16 => ?_)
      exact ga_iret rfl d_L_flush_64
    · exact ga_throw (x := 1) (names := gz_ch) rfl (by decide +kernel) gz_chf gl_509 gl_64 (gz_own1 gl_518) (by decide) (Nat.le_of_ble_eq_true rfl) d_L_flush_31 d_L_flush_34 d_L_flush_35 d_L_flush_38
noncomputable def f_W_flush (F : Nat) (p0 : Nat) (p1 : Nat) (w : ga_W) : ga_O :=
  (if ga_is w 5 p0 = true then ga_c (f_L_flush F p0 w) (ga_kI fun v2 w1 => ((ga_sl w1 2 p1 (0 : Int32) (Int32.toInt64 v2)).bind fun w3 => (some (.inl (some (.int (0 : Int32))), w3)))) (fun x5 w4 => (if x5 = 1 then (some (.inl (some (.int (1 : Int32))), w4)) else (if x5 = 2 then (some (.inl (some (.int (2 : Int32))), w4)) else none))) else none)
set_option maxHeartbeats 4000000 in
set_option maxRecDepth 100000 in
theorem m_W_flush (hst : l.stackTraces = false) (F : Nat) (p0 : Nat) (p1 : Nat) (w : ga_W) : ga_M l S0 D gz_cl (gz_tA cT) base b gz_xn y_W_flush ws_W_flush 7 145 true [.ref p0, .ref p1] w (f_W_flush F p0 p1 w) := by
  refine ga_enterH (hh := [(0, 8, 11, 15), (0, 8, 14, 17)]) (cc := c_W_flush) (maxL := 3) (ret := (some .int)) hst (by decide) rfl (Nat.le_of_ble_eq_true rfl) ?_
  intro p e R s m args below meth c ad0
  refine ga_sub (lv2 := [(0, .ref p0), (1, .ref p1)]) [0, 1] rfl ?_
  unfold f_W_flush
  refine ga_aload_n (q := 1) d_W_flush_0 rfl rfl ?_
  refine ga_iconst (v := (0 : Int32)) d_W_flush_1 (by decide) ?_
  refine ga_aload_n (q := 0) d_W_flush_2 rfl rfl ?_
  refine ga_invV (nA := 0) (ci := 5) (T := T_L) (N := 9) (av := []) (a := p0) (st := [.int (0 : Int32), .ref p1]) (m_L_flush hst F p0 w) (Or.inl rfl) (gz_gV gw_583 gw_584 gw_585 gw_51 gw_586) rfl ⟨rfl, by decide +kernel⟩ rfl (by decide) (by decide) (Nat.le_of_ble_eq_true rfl) rfl d_W_flush_3 (ga_vI (fun v2 w1 => ?_)) ?_
  · refine ga_i2l d_W_flush_6 ?_
    refine ga_stL (t := 2) rfl d_W_flush_7 (fun w3 => ?_)
    refine ga_goto (tgt := 17) d_W_flush_8 (by decide) ?_
    refine ga_iconst (v := (0 : Int32)) d_W_flush_17 (by decide) ?_
    exact ga_iret rfl d_W_flush_18
  · intro x5 w4
    refine ga_iteX (fun h6 => ?_) (fun h6 => ?_)
    · subst h6
      refine ga_catch (i := 2) (lv2 := [(0, .ref p0), (1, .ref p1)]) [] ⟨0, 8, 11, 15⟩ [⟨0, 8, 14, 17⟩] rfl (fun _ h => nomatch h) (by decide) (by decide) (List.mem_cons_of_mem _ gw_403) gl_511 d_W_flush_11 rfl (by decide) rfl ?_
      refine ga_iconst (v := (1 : Int32)) d_W_flush_12 (by decide) ?_
      exact ga_iret rfl d_W_flush_13
    · refine ga_iteX (fun h7 => ?_) (fun h7 => ?_)
      · subst h7
        refine ga_catch (i := 2) (lv2 := [(0, .ref p0), (1, .ref p1)]) [⟨0, 8, 11, 15⟩] ⟨0, 8, 14, 17⟩ [] rfl (ga_ps1 "java/lang/IllegalStateException" (List.mem_cons_of_mem _ gw_403) (gz_nc (by decide +kernel))) (by decide) (by decide) (List.mem_cons_of_mem _ gw_404) gl_484 d_W_flush_14 rfl (by decide) rfl ?_
        refine ga_iconst (v := (2 : Int32)) d_W_flush_15 (by decide) ?_
        exact ga_iret rfl d_W_flush_16
      · exact (fun _ _ h => nomatch h)
noncomputable def f_L_numberSeenBy (F : Nat) (p0 : Nat) (p1 : Int32) (w : ga_W) : ga_O :=
  (ga_c (f_L_requireWithin F p1 (-1 : Int32) (3 : Int32) w) (ga_kV fun w1 => (if 0 ≤ p1 then ((ga_gr w1 5 3 p0).bind fun r3 => ((ga_ai w1 0 r3 p1).bind fun v4 => (if v4 = (-1 : Int32) then (some (.inr 2, w1.1, w1.2.1 + 1, w1.2.2 + 6)) else ((ga_gr w1 5 3 p0).bind fun r6 => ((ga_ai w1 0 r6 p1).bind fun v7 => (some (.inl (some (.int v7)), w1))))))) else ((ga_gi w1 5 5 p0).bind fun v8 => (some (.inl (some (.int v8)), w1))))) ga_up)
set_option maxHeartbeats 4000000 in
set_option maxRecDepth 100000 in
theorem m_L_numberSeenBy (hst : l.stackTraces = false) (F : Nat) (p0 : Nat) (p1 : Int32) (w : ga_W) : ga_M l S0 D gz_cl (gz_tA cT) base b gz_xn y_L_numberSeenBy ws_L_numberSeenBy 7 111 true [.ref p0, .int p1] w (f_L_numberSeenBy F p0 p1 w) := by
  refine ga_enter (cc := c_L_numberSeenBy) (maxL := 2) (ret := (some .int)) hst (by decide) rfl (Nat.le_of_ble_eq_true rfl) ?_
  intro p e R s m args below meth c ad0
  refine ga_sub (lv2 := [(0, .ref p0), (1, .int p1)]) [0, 1] rfl ?_
  unfold f_L_numberSeenBy
  refine ga_iload_n (q := 1) d_L_numberSeenBy_0 rfl rfl ?_
  refine ga_iconst (v := (-1 : Int32)) d_L_numberSeenBy_1 (by decide) ?_
  refine ga_iconst (v := (3 : Int32)) d_L_numberSeenBy_2 (by decide) ?_
  refine ga_invS (nA := 3) (av := [.int p1, .int (-1 : Int32), .int (3 : Int32)]) (st := []) (m_L_requireWithin hst F p1 (-1 : Int32) (3 : Int32) w) (Or.inl rfl) (gz_gS gw_413 gw_414 gw_51 gw_415) rfl (by decide +kernel) rfl (by decide) (by decide) (Nat.le_of_ble_eq_true rfl) d_L_numberSeenBy_3 (ga_vV (fun w1 => ?_)) (fun _ _ => ga_thru rfl)
  refine ga_iload_n (q := 1) d_L_numberSeenBy_6 rfl rfl ?_
  refine ga_if_ge (tgt := 15) d_L_numberSeenBy_7 (by decide) (fun h2 => ?_) (fun h2 => ?_)
  · refine ga_aload_n (q := 0) d_L_numberSeenBy_15 rfl rfl ?_
    refine ga_getR (C := "LevelStore") (T := T_L) (N := 9) (k := 3) (ci := 5) (fun x h => List.mem_cons_of_mem _ (iw_L x h)) rfl (by decide) (List.mem_cons_of_mem _ gw_249) d_L_numberSeenBy_16 (fun r3 => ?_)
    refine ga_iload_n (q := 1) d_L_numberSeenBy_19 rfl rfl ?_
    refine ga_ldI (t := 0) rfl d_L_numberSeenBy_20 (fun v4 => ?_)
    refine ga_iconst (v := (-1 : Int32)) d_L_numberSeenBy_21 (by decide) ?_
    refine ga_icmp_ne (tgt := 33) d_L_numberSeenBy_22 (by decide) (fun h5 => ?_) (fun h5 => ?_)
    · exact ga_throw (x := 2) (names := gz_ch) rfl (by decide +kernel) gz_chf gl_482 gl_63 (gz_own2 gl_491) (by decide) (Nat.le_of_ble_eq_true rfl) d_L_numberSeenBy_25 d_L_numberSeenBy_28 d_L_numberSeenBy_29 d_L_numberSeenBy_32
    · refine ga_aload_n (q := 0) d_L_numberSeenBy_33 rfl rfl ?_
      refine ga_getR (C := "LevelStore") (T := T_L) (N := 9) (k := 3) (ci := 5) (fun x h => List.mem_cons_of_mem _ (iw_L x h)) rfl (by decide) (List.mem_cons_of_mem _ gw_249) d_L_numberSeenBy_34 (fun r6 => ?_)
      refine ga_iload_n (q := 1) d_L_numberSeenBy_37 rfl rfl ?_
      refine ga_ldI (t := 0) rfl d_L_numberSeenBy_38 (fun v7 => ?_)
      exact ga_iret rfl d_L_numberSeenBy_39
  · refine ga_aload_n (q := 0) d_L_numberSeenBy_10 rfl rfl ?_
    refine ga_getI (C := "LevelStore") (T := T_L) (N := 9) (k := 5) (ci := 5) (fun x h => List.mem_cons_of_mem _ (iw_L x h)) rfl (by decide) (List.mem_cons_of_mem _ gw_251) d_L_numberSeenBy_11 (fun v8 => ?_)
    exact ga_iret rfl d_L_numberSeenBy_14
noncomputable def f_M_rowOf_10 (F : Nat) (x0 : Nat) (x1 : Int32) (x2 : Int32) : Nat → Int32 → ga_W → ga_O
  | 0, _, _ => none
  | n + 1, x3, w => (if x3 < 0 then (some (.inl (some (.int (-1 : Int32))), w)) else ((ga_gr w 2 0 x0).bind fun r2 => ((ga_gr w 0 0 r2).bind fun r3 => ((ga_ai w 0 r3 x3).bind fun v4 => (if v4 = x1 then ((ga_gr w 2 0 x0).bind fun r6 => ((ga_gr w 0 1 r6).bind fun r7 => ((ga_ai w 0 r7 x3).bind fun v8 => (if x2 < v8 then (f_M_rowOf_10 F x0 x1 x2 n (x3 + (-1 : Int32)) w) else (some (.inl (some (.int x3)), w)))))) else (f_M_rowOf_10 F x0 x1 x2 n (x3 + (-1 : Int32)) w))))))
noncomputable def f_M_rowOf (F : Nat) (p0 : Nat) (p1 : Int32) (p2 : Int32) (w : ga_W) : ga_O :=
  ((ga_gr w 2 0 p0).bind fun r1 => ((ga_gi w 0 5 r1).bind fun v2 => (f_M_rowOf_10 F p0 p1 p2 F (v2 - (1 : Int32)) w)))
set_option maxHeartbeats 4000000 in
set_option maxRecDepth 100000 in
theorem h_M_rowOf_10 (hst : l.stackTraces = false) (F : Nat) (x0 : Nat) (x1 : Int32) (x2 : Int32) : ∀ (n : Nat) (x3 : Int32) (w : ga_W), ga_J l S0 D gz_cl (gz_tA cT) base b gz_xn p e R s m args below meth c 4 ws_M_rowOf y_M_rowOf.cls c_M_rowOf (some .int) [] y_M_rowOf.name 0 0 true ad0 w0 (ga_MQ gz_xn D gz_cl (gz_tA cT) base b s args below ad0 w0) 10 [(0, .ref x0), (1, .int x1), (2, .int x2), (3, .int x3)] [] w (f_M_rowOf_10 F x0 x1 x2 n x3 w) := by
  intro n
  induction n with
  | zero => intro x3 w; exact ga_no
  | succ n ih =>
    intro x3 w
    rw [f_M_rowOf_10]
    refine ga_iload_n (q := 3) d_M_rowOf_10 rfl rfl ?_
    refine ga_if_lt (tgt := 48) d_M_rowOf_11 (by decide) (fun h1 => ?_) (fun h1 => ?_)
    · refine ga_iconst (v := (-1 : Int32)) d_M_rowOf_48 (by decide) ?_
      exact ga_iret rfl d_M_rowOf_49
    · refine ga_aload_n (q := 0) d_M_rowOf_14 rfl rfl ?_
      refine ga_getR (C := "LevelStore$Memory") (T := T_M) (N := 4) (k := 0) (ci := 2) (fun x h => List.mem_cons_of_mem _ (iw_M x h)) rfl (by decide) (List.mem_cons_of_mem _ gw_131) d_M_rowOf_15 (fun r2 => ?_)
      refine ga_getR (C := "LevelStore$Entries") (T := T_E) (N := 6) (k := 0) (ci := 0) (fun x h => List.mem_cons_of_mem _ (iw_E x h)) rfl (by decide) (List.mem_cons_of_mem _ gw_90) d_M_rowOf_18 (fun r3 => ?_)
      refine ga_iload_n (q := 3) d_M_rowOf_21 rfl rfl ?_
      refine ga_ldI (t := 0) rfl d_M_rowOf_22 (fun v4 => ?_)
      refine ga_iload_n (q := 1) d_M_rowOf_23 rfl rfl ?_
      refine ga_icmp_ne (tgt := 42) d_M_rowOf_24 (by decide) (fun h5 => ?_) (fun h5 => ?_)
      · refine ga_aload_n (q := 0) d_M_rowOf_27 rfl rfl ?_
        refine ga_getR (C := "LevelStore$Memory") (T := T_M) (N := 4) (k := 0) (ci := 2) (fun x h => List.mem_cons_of_mem _ (iw_M x h)) rfl (by decide) (List.mem_cons_of_mem _ gw_131) d_M_rowOf_28 (fun r6 => ?_)
        refine ga_getR (C := "LevelStore$Entries") (T := T_E) (N := 6) (k := 1) (ci := 0) (fun x h => List.mem_cons_of_mem _ (iw_E x h)) rfl (by decide) (List.mem_cons_of_mem _ gw_96) d_M_rowOf_31 (fun r7 => ?_)
        refine ga_iload_n (q := 3) d_M_rowOf_34 rfl rfl ?_
        refine ga_ldI (t := 0) rfl d_M_rowOf_35 (fun v8 => ?_)
        refine ga_iload_n (q := 2) d_M_rowOf_36 rfl rfl ?_
        refine ga_icmp_gt (tgt := 42) d_M_rowOf_37 (by decide) (fun h9 => ?_) (fun h9 => ?_)
        · refine ga_iinc (q := 3) (v := (x3 + (-1 : Int32))) (lv2 := [(3, .int (x3 + (-1 : Int32))), (0, .ref x0), (1, .int x1), (2, .int x2)]) d_M_rowOf_42 rfl rfl (by decide) rfl ?_
          refine ga_goto (tgt := 10) d_M_rowOf_45 (by decide) ?_
          refine ga_sub (lv2 := [(0, .ref x0), (1, .int x1), (2, .int x2), (3, .int (x3 + (-1 : Int32)))]) [1, 2, 3, 0] rfl ?_
          exact ih _ _
        · refine ga_iload_n (q := 3) d_M_rowOf_40 rfl rfl ?_
          exact ga_iret rfl d_M_rowOf_41
      · refine ga_iinc (q := 3) (v := (x3 + (-1 : Int32))) (lv2 := [(3, .int (x3 + (-1 : Int32))), (0, .ref x0), (1, .int x1), (2, .int x2)]) d_M_rowOf_42 rfl rfl (by decide) rfl ?_
        refine ga_goto (tgt := 10) d_M_rowOf_45 (by decide) ?_
        refine ga_sub (lv2 := [(0, .ref x0), (1, .int x1), (2, .int x2), (3, .int (x3 + (-1 : Int32)))]) [1, 2, 3, 0] rfl ?_
        exact ih _ _
set_option maxHeartbeats 4000000 in
set_option maxRecDepth 100000 in
theorem m_M_rowOf (hst : l.stackTraces = false) (F : Nat) (p0 : Nat) (p1 : Int32) (p2 : Int32) (w : ga_W) : ga_M l S0 D gz_cl (gz_tA cT) base b gz_xn y_M_rowOf ws_M_rowOf 0 0 true [.ref p0, .int p1, .int p2] w (f_M_rowOf F p0 p1 p2 w) := by
  refine ga_enter (cc := c_M_rowOf) (maxL := 4) (ret := (some .int)) hst (by decide) rfl (Nat.le_of_ble_eq_true rfl) ?_
  intro p e R s m args below meth c ad0
  refine ga_sub (lv2 := [(0, .ref p0), (1, .int p1), (2, .int p2)]) [0, 1, 2] rfl ?_
  unfold f_M_rowOf
  refine ga_aload_n (q := 0) d_M_rowOf_0 rfl rfl ?_
  refine ga_getR (C := "LevelStore$Memory") (T := T_M) (N := 4) (k := 0) (ci := 2) (fun x h => List.mem_cons_of_mem _ (iw_M x h)) rfl (by decide) (List.mem_cons_of_mem _ gw_131) d_M_rowOf_1 (fun r1 => ?_)
  refine ga_getI (C := "LevelStore$Entries") (T := T_E) (N := 6) (k := 5) (ci := 0) (fun x h => List.mem_cons_of_mem _ (iw_E x h)) rfl (by decide) (List.mem_cons_of_mem _ gw_110) d_M_rowOf_4 (fun v2 => ?_)
  refine ga_iconst (v := (1 : Int32)) d_M_rowOf_7 (by decide) ?_
  refine ga_isub d_M_rowOf_8 ?_
  refine ga_istore_n (lv2 := [(3, .int (v2 - (1 : Int32))), (0, .ref p0), (1, .int p1), (2, .int p2)]) d_M_rowOf_9 rfl (by decide) rfl ?_
  refine ga_sub (lv2 := [(0, .ref p0), (1, .int p1), (2, .int p2), (3, .int (v2 - (1 : Int32)))]) [1, 2, 3, 0] rfl ?_
  exact h_M_rowOf_10 hst F p0 p1 p2 F (v2 - (1 : Int32)) w
noncomputable def f_L_valueIn (F : Nat) (p0 : Nat) (p1 : Int32) (w : ga_W) : ga_O :=
  ((ga_gr w 0 3 p0).bind fun r1 => ((ga_az w 1 r1 p1).bind fun v2 => (if v2 = 0 then ((ga_gr w 0 2 p0).bind fun r4 => ((ga_ai w 0 r4 p1).bind fun v5 => (some (.inl (some (.int v5)), w)))) else (some (.inr 3, w.1, w.2.1 + 1, w.2.2 + 6)))))
set_option maxHeartbeats 4000000 in
set_option maxRecDepth 100000 in
theorem m_L_valueIn (hst : l.stackTraces = false) (F : Nat) (p0 : Nat) (p1 : Int32) (w : ga_W) : ga_M l S0 D gz_cl (gz_tA cT) base b gz_xn y_L_valueIn ws_L_valueIn 6 89 true [.ref p0, .int p1] w (f_L_valueIn F p0 p1 w) := by
  refine ga_enter (cc := c_L_valueIn) (maxL := 2) (ret := (some .int)) hst (by decide) rfl (Nat.le_of_ble_eq_true rfl) ?_
  intro p e R s m args below meth c ad0
  refine ga_sub (lv2 := [(0, .ref p0), (1, .int p1)]) [0, 1] rfl ?_
  unfold f_L_valueIn
  refine ga_aload_n (q := 0) d_L_valueIn_0 rfl rfl ?_
  refine ga_getR (C := "LevelStore$Entries") (T := T_E) (N := 6) (k := 3) (ci := 0) (fun x h => List.mem_cons_of_mem _ (iw_E x h)) rfl (by decide) (List.mem_cons_of_mem _ gw_105) d_L_valueIn_1 (fun r1 => ?_)
  refine ga_iload_n (q := 1) d_L_valueIn_4 rfl rfl ?_
  refine ga_ldZ (t := 1) rfl d_L_valueIn_5 (fun v2 => ?_)
  refine ga_if_eq (tgt := 17) d_L_valueIn_6 (by decide) (fun h3 => ?_) (fun h3 => ?_)
  · refine ga_aload_n (q := 0) d_L_valueIn_17 rfl rfl ?_
    refine ga_getR (C := "LevelStore$Entries") (T := T_E) (N := 6) (k := 2) (ci := 0) (fun x h => List.mem_cons_of_mem _ (iw_E x h)) rfl (by decide) (List.mem_cons_of_mem _ gw_101) d_L_valueIn_18 (fun r4 => ?_)
    refine ga_iload_n (q := 1) d_L_valueIn_21 rfl rfl ?_
    refine ga_ldI (t := 0) rfl d_L_valueIn_22 (fun v5 => ?_)
    exact ga_iret rfl d_L_valueIn_23
  · exact ga_throw (x := 3) (names := gz_ch) rfl (by decide +kernel) gz_chf gl_606 gl_66 (gz_own3 gl_615) (by decide) (Nat.le_of_ble_eq_true rfl) d_L_valueIn_9 d_L_valueIn_12 d_L_valueIn_13 d_L_valueIn_16
end GM6
