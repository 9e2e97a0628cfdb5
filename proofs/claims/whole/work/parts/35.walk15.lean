/-! WALKS: R_close, R_sync, R_crash, R_flush, R_upTo, R_lookInMemory, R_first, R_second -/
section GM15
variable {l : Launch} {S0 : State} {D : va_G} {cT : Nat → ClassId} {base b : Nat} {p : Program} {e : Env} {R : Room} {s : State} {m : MethodId} {args : Array Value} {below : List Frame} {meth : Method} {c : Code} {ad0 : Nat → Nat} {w0 : ga_W}
noncomputable def f_R_close_48 (F : Nat) (x0 : Nat) : Nat → Int32 → ga_W → ga_O
  | 0, _, _ => none
  | n + 1, x2, w => ((ga_gi w 6 22 x0).bind fun v1 => (if v1 ≤ x2 then ((ga_gi w 6 22 x0).bind fun v3 => (if ga_is w 6 x0 = true then ga_c (f_R_logged F x0 v3 w) (ga_kV fun w4 => ((ga_put w4 6 22 x0 (.int (-1 : Int32))).bind fun w5 => ((ga_gi w5 6 25 x0).bind fun v6 => (some (.inl (some (.int v6)), w5))))) ga_up else none)) else ((ga_gr w 6 19 x0).bind fun r7 => ((ga_ai w 0 r7 x2).bind fun v8 => ((ga_gr w 6 20 x0).bind fun r9 => ((ga_ai w 0 r9 x2).bind fun v10 => ((ga_gr w 6 21 x0).bind fun r11 => ((ga_az w 1 r11 x2).bind fun v12 => (if ga_is w 6 x0 = true then ga_c (f_R_remember F x0 v8 v10 v12 w) (ga_kV fun w13 => (f_R_close_48 F x0 n (x2 + (1 : Int32)) w13)) ga_up else none)))))))))
noncomputable def f_R_close (F : Nat) (p0 : Nat) (p1 : Int32) (w : ga_W) : ga_O :=
  ((ga_put w 6 0 p0 (.int (0 : Int32))).bind fun w1 => ((ga_gi w1 6 22 p0).bind fun v2 => (if 0 ≤ v2 then (if p1 = 0 then ((ga_put w1 6 22 p0 (.int (-1 : Int32))).bind fun w5 => ((ga_gi w5 6 25 p0).bind fun v6 => (some (.inl (some (.int v6)), w5)))) else ((ga_gi w1 6 22 p0).bind fun v7 => (if v7 ≤ 0 then ((ga_put w1 6 22 p0 (.int (-1 : Int32))).bind fun w9 => ((ga_gi w9 6 25 p0).bind fun v10 => (some (.inl (some (.int v10)), w9)))) else ((ga_gi w1 6 22 p0).bind fun v11 => (if ga_is w1 6 p0 = true then ga_c (f_R_full F p0 v11 w1) (ga_kI fun v13 w12 => (if v13 = 0 then (f_R_close_48 F p0 F (0 : Int32) w12) else (if ga_is w12 6 p0 = true then ga_c (f_R_raise F p0 (1 : Int32) w12) (ga_kI fun v16 w15 => (some (.inl (some (.int v16)), w15))) ga_up else none))) ga_up else none))))) else (if ga_is w1 6 p0 = true then ga_c (f_R_raise F p0 (2 : Int32) w1) (ga_kI fun v18 w17 => (some (.inl (some (.int v18)), w17))) ga_up else none))))
set_option maxHeartbeats 4000000 in
set_option maxRecDepth 100000 in
theorem h_R_close_48 (hst : l.stackTraces = false) (F : Nat) (x0 : Nat) : ∀ (n : Nat) (x2 : Int32) (w : ga_W), ga_J l S0 D gz_cl (gz_tA cT) base b gz_xn p e R s m args below meth c 3 ws_R_close y_R_close.cls c_R_close (some .int) [] y_R_close.name 8 185 true ad0 w0 (ga_MQ gz_xn D gz_cl (gz_tA cT) base b s args below ad0 w0) 48 [(0, .ref x0), (2, .int x2)] [] w (f_R_close_48 F x0 n x2 w) := by
  intro n
  induction n with
  | zero => intro x2 w; exact ga_no
  | succ n ih =>
    intro x2 w
    rw [f_R_close_48]
    refine ga_iload_n (q := 1) d_R_close_48 rfl rfl ?_
    refine ga_aload_n (q := 0) d_R_close_49 rfl rfl ?_
    refine ga_getI (C := "LevelStoreModel") (T := T_R) (N := 39) (k := 22) (ci := 6) (fun x h => List.mem_cons_of_mem _ (iw_R x h)) rfl (by decide) (List.mem_cons_of_mem _ gw_783) d_R_close_50 (fun v1 => ?_)
    refine ga_icmp_ge (tgt := 84) d_R_close_53 (by decide) (fun h2 => ?_) (fun h2 => ?_)
    · refine ga_aload_n (q := 0) d_R_close_84 rfl rfl ?_
      refine ga_aload_n (q := 0) d_R_close_85 rfl rfl ?_
      refine ga_getI (C := "LevelStoreModel") (T := T_R) (N := 39) (k := 22) (ci := 6) (fun x h => List.mem_cons_of_mem _ (iw_R x h)) rfl (by decide) (List.mem_cons_of_mem _ gw_783) d_R_close_86 (fun v3 => ?_)
      refine ga_invV (nA := 1) (ci := 6) (T := T_R) (N := 39) (av := [.int v3]) (a := x0) (st := []) (m_R_logged hst F x0 v3 w) (Or.inl rfl) (gz_gV gw_911 gw_913 gw_23 gw_58 gw_914) rfl ⟨rfl, by decide +kernel⟩ rfl (by decide) (by decide) (Nat.le_of_ble_eq_true rfl) rfl d_R_close_89 (ga_vV (fun w4 => ?_)) (fun _ _ => ga_thru rfl)
      refine ga_aload_n (q := 0) d_R_close_92 rfl rfl ?_
      refine ga_iconst (v := (-1 : Int32)) d_R_close_93 (by decide) ?_
      refine ga_putB (C := "LevelStoreModel") (T := T_R) (N := 39) (k := 22) (ci := 6) (ty0 := ty_R) (fun x h => List.mem_cons_of_mem _ (iw_R x h)) ty_R_ok nm_R rfl (by decide) (List.mem_cons_of_mem _ gw_783) (Or.inl rfl) (fun _ => ⟨rfl, rfl⟩) d_R_close_94 (fun w5 => ?_)
      refine ga_aload_n (q := 0) d_R_close_97 rfl rfl ?_
      refine ga_getI (C := "LevelStoreModel") (T := T_R) (N := 39) (k := 25) (ci := 6) (fun x h => List.mem_cons_of_mem _ (iw_R x h)) rfl (by decide) (List.mem_cons_of_mem _ gw_786) d_R_close_98 (fun v6 => ?_)
      exact ga_iret rfl d_R_close_101
    · refine ga_aload_n (q := 0) d_R_close_56 rfl rfl ?_
      refine ga_aload_n (q := 0) d_R_close_57 rfl rfl ?_
      refine ga_getR (C := "LevelStoreModel") (T := T_R) (N := 39) (k := 19) (ci := 6) (fun x h => List.mem_cons_of_mem _ (iw_R x h)) rfl (by decide) (List.mem_cons_of_mem _ gw_780) d_R_close_58 (fun r7 => ?_)
      refine ga_iload_n (q := 1) d_R_close_61 rfl rfl ?_
      refine ga_ldI (t := 0) rfl d_R_close_62 (fun v8 => ?_)
      refine ga_aload_n (q := 0) d_R_close_63 rfl rfl ?_
      refine ga_getR (C := "LevelStoreModel") (T := T_R) (N := 39) (k := 20) (ci := 6) (fun x h => List.mem_cons_of_mem _ (iw_R x h)) rfl (by decide) (List.mem_cons_of_mem _ gw_781) d_R_close_64 (fun r9 => ?_)
      refine ga_iload_n (q := 1) d_R_close_67 rfl rfl ?_
      refine ga_ldI (t := 0) rfl d_R_close_68 (fun v10 => ?_)
      refine ga_aload_n (q := 0) d_R_close_69 rfl rfl ?_
      refine ga_getR (C := "LevelStoreModel") (T := T_R) (N := 39) (k := 21) (ci := 6) (fun x h => List.mem_cons_of_mem _ (iw_R x h)) rfl (by decide) (List.mem_cons_of_mem _ gw_782) d_R_close_70 (fun r11 => ?_)
      refine ga_iload_n (q := 1) d_R_close_73 rfl rfl ?_
      refine ga_ldZ (t := 1) rfl d_R_close_74 (fun v12 => ?_)
      refine ga_invV (nA := 3) (ci := 6) (T := T_R) (N := 39) (av := [.int v8, .int v10, .int v12]) (a := x0) (st := []) (m_R_remember hst F x0 v8 v10 v12 w) (Or.inl rfl) (gz_gV gw_907 gw_909 gw_22 gw_58 gw_910) rfl ⟨rfl, by decide +kernel⟩ rfl (by decide) (by decide) (Nat.le_of_ble_eq_true rfl) rfl d_R_close_75 (ga_vV (fun w13 => ?_)) (fun _ _ => ga_thru rfl)
      refine ga_iinc (q := 1) (v := (x2 + (1 : Int32))) (lv2 := [(2, .int (x2 + (1 : Int32))), (0, .ref x0)]) d_R_close_78 rfl rfl (by decide) rfl ?_
      refine ga_goto (tgt := 48) d_R_close_81 (by decide) ?_
      refine ga_sub (lv2 := [(0, .ref x0), (2, .int (x2 + (1 : Int32)))]) [1, 0] rfl ?_
      exact ih _ _
set_option maxHeartbeats 4000000 in
set_option maxRecDepth 100000 in
theorem m_R_close (hst : l.stackTraces = false) (F : Nat) (p0 : Nat) (p1 : Int32) (w : ga_W) : ga_M l S0 D gz_cl (gz_tA cT) base b gz_xn y_R_close ws_R_close 8 185 true [.ref p0, .int p1] w (f_R_close F p0 p1 w) := by
  refine ga_enter (cc := c_R_close) (maxL := 3) (ret := (some .int)) hst (by decide) rfl (Nat.le_of_ble_eq_true rfl) ?_
  intro p e R s m args below meth c ad0
  refine ga_sub (lv2 := [(0, .ref p0), (1, .int p1)]) [0, 1] rfl ?_
  unfold f_R_close
  refine ga_aload_n (q := 0) d_R_close_0 rfl rfl ?_
  refine ga_iconst (v := (0 : Int32)) d_R_close_1 (by decide) ?_
  refine ga_putB (C := "LevelStoreModel") (T := T_R) (N := 39) (k := 0) (ci := 6) (ty0 := ty_R) (fun x h => List.mem_cons_of_mem _ (iw_R x h)) ty_R_ok nm_R rfl (by decide) (List.mem_cons_of_mem _ gw_761) (Or.inl rfl) (fun _ => ⟨rfl, rfl⟩) d_R_close_2 (fun w1 => ?_)
  refine ga_aload_n (q := 0) d_R_close_5 rfl rfl ?_
  refine ga_getI (C := "LevelStoreModel") (T := T_R) (N := 39) (k := 22) (ci := 6) (fun x h => List.mem_cons_of_mem _ (iw_R x h)) rfl (by decide) (List.mem_cons_of_mem _ gw_783) d_R_close_6 (fun v2 => ?_)
  refine ga_if_ge (tgt := 18) d_R_close_9 (by decide) (fun h3 => ?_) (fun h3 => ?_)
  · refine ga_iload_n (q := 1) d_R_close_18 rfl rfl ?_
    refine ga_if_eq (tgt := 92) d_R_close_19 (by decide) (fun h4 => ?_) (fun h4 => ?_)
    · refine ga_aload_n (q := 0) d_R_close_92 rfl rfl ?_
      refine ga_iconst (v := (-1 : Int32)) d_R_close_93 (by decide) ?_
      refine ga_putB (C := "LevelStoreModel") (T := T_R) (N := 39) (k := 22) (ci := 6) (ty0 := ty_R) (fun x h => List.mem_cons_of_mem _ (iw_R x h)) ty_R_ok nm_R rfl (by decide) (List.mem_cons_of_mem _ gw_783) (Or.inl rfl) (fun _ => ⟨rfl, rfl⟩) d_R_close_94 (fun w5 => ?_)
      refine ga_aload_n (q := 0) d_R_close_97 rfl rfl ?_
      refine ga_getI (C := "LevelStoreModel") (T := T_R) (N := 39) (k := 25) (ci := 6) (fun x h => List.mem_cons_of_mem _ (iw_R x h)) rfl (by decide) (List.mem_cons_of_mem _ gw_786) d_R_close_98 (fun v6 => ?_)
      exact ga_iret rfl d_R_close_101
    · refine ga_aload_n (q := 0) d_R_close_22 rfl rfl ?_
      refine ga_getI (C := "LevelStoreModel") (T := T_R) (N := 39) (k := 22) (ci := 6) (fun x h => List.mem_cons_of_mem _ (iw_R x h)) rfl (by decide) (List.mem_cons_of_mem _ gw_783) d_R_close_23 (fun v7 => ?_)
      refine ga_if_le (tgt := 92) d_R_close_26 (by decide) (fun h8 => ?_) (fun h8 => ?_)
      · refine ga_aload_n (q := 0) d_R_close_92 rfl rfl ?_
        refine ga_iconst (v := (-1 : Int32)) d_R_close_93 (by decide) ?_
        refine ga_putB (C := "LevelStoreModel") (T := T_R) (N := 39) (k := 22) (ci := 6) (ty0 := ty_R) (fun x h => List.mem_cons_of_mem _ (iw_R x h)) ty_R_ok nm_R rfl (by decide) (List.mem_cons_of_mem _ gw_783) (Or.inl rfl) (fun _ => ⟨rfl, rfl⟩) d_R_close_94 (fun w9 => ?_)
        refine ga_aload_n (q := 0) d_R_close_97 rfl rfl ?_
        refine ga_getI (C := "LevelStoreModel") (T := T_R) (N := 39) (k := 25) (ci := 6) (fun x h => List.mem_cons_of_mem _ (iw_R x h)) rfl (by decide) (List.mem_cons_of_mem _ gw_786) d_R_close_98 (fun v10 => ?_)
        exact ga_iret rfl d_R_close_101
      · refine ga_aload_n (q := 0) d_R_close_29 rfl rfl ?_
        refine ga_aload_n (q := 0) d_R_close_30 rfl rfl ?_
        refine ga_getI (C := "LevelStoreModel") (T := T_R) (N := 39) (k := 22) (ci := 6) (fun x h => List.mem_cons_of_mem _ (iw_R x h)) rfl (by decide) (List.mem_cons_of_mem _ gw_783) d_R_close_31 (fun v11 => ?_)
        refine ga_invV (nA := 1) (ci := 6) (T := T_R) (N := 39) (av := [.int v11]) (a := p0) (st := []) (m_R_full hst F p0 v11 w1) (Or.inl rfl) (gz_gV gw_899 gw_901 gw_20 gw_58 gw_902) rfl ⟨rfl, by decide +kernel⟩ rfl (by decide) (by decide) (Nat.le_of_ble_eq_true rfl) rfl d_R_close_34 (ga_vI (fun v13 w12 => ?_)) (fun _ _ => ga_thru rfl)
        refine ga_if_eq (tgt := 46) d_R_close_37 (by decide) (fun h14 => ?_) (fun h14 => ?_)
        · refine ga_iconst (v := (0 : Int32)) d_R_close_46 (by decide) ?_
          refine ga_istore_n (lv2 := [(2, .int (0 : Int32)), (0, .ref p0), (1, .int p1)]) d_R_close_47 rfl (by decide) rfl ?_
          refine ga_sub (lv2 := [(0, .ref p0), (2, .int (0 : Int32))]) [1, 0] rfl ?_
          exact h_R_close_48 hst F p0 F (0 : Int32) w12
        · refine ga_aload_n (q := 0) d_R_close_40 rfl rfl ?_
          refine ga_iconst (v := (1 : Int32)) d_R_close_41 (by decide) ?_
          refine ga_invV (nA := 1) (ci := 6) (T := T_R) (N := 39) (av := [.int (1 : Int32)]) (a := p0) (st := []) (m_R_raise hst F p0 (1 : Int32) w12) (Or.inl rfl) (gz_gV gw_895 gw_897 gw_19 gw_58 gw_898) rfl ⟨rfl, by decide +kernel⟩ rfl (by decide) (by decide) (Nat.le_of_ble_eq_true rfl) rfl d_R_close_42 (ga_vI (fun v16 w15 => ?_)) (fun _ _ => ga_thru rfl)
          exact ga_iret rfl d_R_close_45
  · refine ga_aload_n (q := 0) d_R_close_12 rfl rfl ?_
    refine ga_iconst (v := (2 : Int32)) d_R_close_13 (by decide) ?_
    refine ga_invV (nA := 1) (ci := 6) (T := T_R) (N := 39) (av := [.int (2 : Int32)]) (a := p0) (st := []) (m_R_raise hst F p0 (2 : Int32) w1) (Or.inl rfl) (gz_gV gw_895 gw_897 gw_19 gw_58 gw_898) rfl ⟨rfl, by decide +kernel⟩ rfl (by decide) (by decide) (Nat.le_of_ble_eq_true rfl) rfl d_R_close_14 (ga_vI (fun v18 w17 => ?_)) (fun _ _ => ga_thru rfl)
    exact ga_iret rfl d_R_close_17
noncomputable def f_R_sync (F : Nat) (p0 : Nat) (w : ga_W) : ga_O :=
  ((ga_put w 6 0 p0 (.int (0 : Int32))).bind fun w1 => ((ga_gi w1 6 17 p0).bind fun v2 => ((ga_put w1 6 18 p0 (.int v2)).bind fun w3 => ((ga_gi w3 6 17 p0).bind fun v4 => (some (.inl (some (.int v4)), w3))))))
set_option maxHeartbeats 4000000 in
set_option maxRecDepth 100000 in
theorem m_R_sync (hst : l.stackTraces = false) (F : Nat) (p0 : Nat) (w : ga_W) : ga_M l S0 D gz_cl (gz_tA cT) base b gz_xn y_R_sync ws_R_sync 0 0 true [.ref p0] w (f_R_sync F p0 w) := by
  refine ga_enter (cc := c_R_sync) (maxL := 1) (ret := (some .int)) hst (by decide) rfl (Nat.le_of_ble_eq_true rfl) ?_
  intro p e R s m args below meth c ad0
  refine ga_sub (lv2 := [(0, .ref p0)]) [0] rfl ?_
  unfold f_R_sync
  refine ga_aload_n (q := 0) d_R_sync_0 rfl rfl ?_
  refine ga_iconst (v := (0 : Int32)) d_R_sync_1 (by decide) ?_
  refine ga_putB (C := "LevelStoreModel") (T := T_R) (N := 39) (k := 0) (ci := 6) (ty0 := ty_R) (fun x h => List.mem_cons_of_mem _ (iw_R x h)) ty_R_ok nm_R rfl (by decide) (List.mem_cons_of_mem _ gw_761) (Or.inl rfl) (fun _ => ⟨rfl, rfl⟩) d_R_sync_2 (fun w1 => ?_)
  refine ga_aload_n (q := 0) d_R_sync_5 rfl rfl ?_
  refine ga_aload_n (q := 0) d_R_sync_6 rfl rfl ?_
  refine ga_getI (C := "LevelStoreModel") (T := T_R) (N := 39) (k := 17) (ci := 6) (fun x h => List.mem_cons_of_mem _ (iw_R x h)) rfl (by decide) (List.mem_cons_of_mem _ gw_778) d_R_sync_7 (fun v2 => ?_)
  refine ga_putB (C := "LevelStoreModel") (T := T_R) (N := 39) (k := 18) (ci := 6) (ty0 := ty_R) (fun x h => List.mem_cons_of_mem _ (iw_R x h)) ty_R_ok nm_R rfl (by decide) (List.mem_cons_of_mem _ gw_779) (Or.inl rfl) (fun _ => ⟨rfl, rfl⟩) d_R_sync_10 (fun w3 => ?_)
  refine ga_aload_n (q := 0) d_R_sync_13 rfl rfl ?_
  refine ga_getI (C := "LevelStoreModel") (T := T_R) (N := 39) (k := 17) (ci := 6) (fun x h => List.mem_cons_of_mem _ (iw_R x h)) rfl (by decide) (List.mem_cons_of_mem _ gw_778) d_R_sync_14 (fun v4 => ?_)
  exact ga_iret rfl d_R_sync_17
noncomputable def f_R_crash_28 (F : Nat) (x0 : Nat) (x1 : Int32) (K46 : ga_W → ga_O) : Nat → Int32 → ga_W → ga_O
  | 0, _, _ => none
  | n + 1, x2, w => (if (4 : Int32) ≤ x2 then (K46 w) else ((ga_gr w 6 23 x0).bind fun r2 => ((ga_si w 0 r2 x2 (-1 : Int32)).bind fun w3 => (f_R_crash_28 F x0 x1 K46 n (x2 + (1 : Int32)) w3))))
noncomputable def f_R_crash_84 (F : Nat) (x0 : Nat) (K113 : ga_W → ga_O) : Nat → Int32 → ga_W → ga_O
  | 0, _, _ => none
  | n + 1, x2, w => ((ga_gi w 6 17 x0).bind fun v1 => (if v1 ≤ x2 then (K113 w) else ((ga_gi w 6 15 x0).bind fun v3 => ((ga_gr w 6 16 x0).bind fun r4 => ((ga_ai w 0 r4 x2).bind fun v5 => ((ga_put w 6 15 x0 (.int (v3 + v5))).bind fun w6 => (f_R_crash_84 F x0 K113 n (x2 + (1 : Int32)) w6)))))))
noncomputable def f_R_crash_120 (F : Nat) (x0 : Nat) (K157 : ga_W → ga_O) : Nat → Int32 → ga_W → ga_O
  | 0, _, _ => none
  | n + 1, x2, w => ((ga_gi w 6 15 x0).bind fun v1 => (if v1 ≤ x2 then (K157 w) else ((ga_gr w 6 12 x0).bind fun r3 => ((ga_ai w 0 r3 x2).bind fun v4 => ((ga_gi w 6 25 x0).bind fun v5 => (if v4 ≤ v5 then (f_R_crash_120 F x0 K157 n (x2 + (1 : Int32)) w) else ((ga_gr w 6 12 x0).bind fun r7 => ((ga_ai w 0 r7 x2).bind fun v8 => ((ga_put w 6 25 x0 (.int v8)).bind fun w9 => (f_R_crash_120 F x0 K157 n (x2 + (1 : Int32)) w9))))))))))
noncomputable def f_R_crash_159 (F : Nat) (x0 : Nat) : Nat → Int32 → ga_W → ga_O
  | 0, _, _ => none
  | n + 1, x2, w => ((ga_gi w 6 5 x0).bind fun v1 => (if v1 ≤ x2 then ((ga_gi w 6 17 x0).bind fun v3 => (some (.inl (some (.int v3)), w))) else ((ga_gr w 6 2 x0).bind fun r4 => ((ga_ai w 0 r4 x2).bind fun v5 => ((ga_gi w 6 25 x0).bind fun v6 => (if v5 ≤ v6 then (f_R_crash_159 F x0 n (x2 + (1 : Int32)) w) else ((ga_gr w 6 2 x0).bind fun r8 => ((ga_ai w 0 r8 x2).bind fun v9 => ((ga_put w 6 25 x0 (.int v9)).bind fun w10 => (f_R_crash_159 F x0 n (x2 + (1 : Int32)) w10))))))))))
noncomputable def f_R_crash (F : Nat) (p0 : Nat) (p1 : Int32) (w : ga_W) : ga_O :=
  ((ga_put w 6 0 p0 (.int (0 : Int32))).bind fun w1 => (ga_c (f_R_in F p1 (0 : Int32) (100 : Int32) w1) (ga_kI fun v3 w2 => (if v3 = 0 then (if ga_is w2 6 p0 = true then ga_c (f_R_raise F p0 (1 : Int32) w2) (ga_kI fun v6 w5 => (some (.inl (some (.int v6)), w5))) ga_up else none) else ((ga_put w2 6 22 p0 (.int (-1 : Int32))).bind fun w7 => (f_R_crash_28 F p0 p1 (fun (w8 : ga_W) => ((ga_gi w8 6 18 p0).bind fun v9 => ((ga_gi w8 6 17 p0).bind fun v10 => (ga_jn (fun (w14 : ga_W) => ((ga_gi w14 6 17 p0).bind fun v16 => ((ga_put w14 6 18 p0 (.int v16)).bind fun w17 => ((ga_put w17 6 15 p0 (.int (0 : Int32))).bind fun w18 => (f_R_crash_84 F p0 (fun (w19 : ga_W) => ((ga_put w19 6 25 p0 (.int (0 : Int32))).bind fun w20 => (f_R_crash_120 F p0 (fun (w21 : ga_W) => (f_R_crash_159 F p0 F (0 : Int32) w21)) F (0 : Int32) w20))) F (0 : Int32) w18))))) (fun K15 => (if v10 ≤ (v9 + p1) then (K15 w8) else ((ga_gi w8 6 18 p0).bind fun v23 => ((ga_put w8 6 17 p0 (.int (v23 + p1))).bind fun w24 => (K15 w24))))))))) F (0 : Int32) w7)))) ga_up))
set_option maxHeartbeats 4000000 in
set_option maxRecDepth 100000 in
theorem h_R_crash_28 (hst : l.stackTraces = false) (F : Nat) (x0 : Nat) (x1 : Int32) (K46 : ga_W → ga_O) (hK46 : ∀ (w : ga_W), ga_J l S0 D gz_cl (gz_tA cT) base b gz_xn p e R s m args below meth c 3 ws_R_crash y_R_crash.cls c_R_crash (some .int) [] y_R_crash.name 1 22 true ad0 w0 (ga_MQ gz_xn D gz_cl (gz_tA cT) base b s args below ad0 w0) 46 [(0, .ref x0), (1, .int x1)] [] w (K46 w)) : ∀ (n : Nat) (x2 : Int32) (w : ga_W), ga_J l S0 D gz_cl (gz_tA cT) base b gz_xn p e R s m args below meth c 3 ws_R_crash y_R_crash.cls c_R_crash (some .int) [] y_R_crash.name 1 22 true ad0 w0 (ga_MQ gz_xn D gz_cl (gz_tA cT) base b s args below ad0 w0) 28 [(0, .ref x0), (1, .int x1), (2, .int x2)] [] w (f_R_crash_28 F x0 x1 K46 n x2 w) := by
  intro n
  induction n with
  | zero => intro x2 w; exact ga_no
  | succ n ih =>
    intro x2 w
    rw [f_R_crash_28]
    refine ga_iload_n (q := 2) d_R_crash_28 rfl rfl ?_
    refine ga_iconst (v := (4 : Int32)) d_R_crash_29 (by decide) ?_
    refine ga_icmp_ge (tgt := 46) d_R_crash_30 (by decide) (fun h1 => ?_) (fun h1 => ?_)
    · refine ga_sub (lv2 := [(0, .ref x0), (1, .int x1)]) [0, 1] rfl ?_
      exact hK46  _
    · refine ga_aload_n (q := 0) d_R_crash_33 rfl rfl ?_
      refine ga_getR (C := "LevelStoreModel") (T := T_R) (N := 39) (k := 23) (ci := 6) (fun x h => List.mem_cons_of_mem _ (iw_R x h)) rfl (by decide) (List.mem_cons_of_mem _ gw_784) d_R_crash_34 (fun r2 => ?_)
      refine ga_iload_n (q := 2) d_R_crash_37 rfl rfl ?_
      refine ga_iconst (v := (-1 : Int32)) d_R_crash_38 (by decide) ?_
      refine ga_stI (t := 0) rfl d_R_crash_39 (fun w3 => ?_)
      refine ga_iinc (q := 2) (v := (x2 + (1 : Int32))) (lv2 := [(2, .int (x2 + (1 : Int32))), (0, .ref x0), (1, .int x1)]) d_R_crash_40 rfl rfl (by decide) rfl ?_
      refine ga_goto (tgt := 28) d_R_crash_43 (by decide) ?_
      refine ga_sub (lv2 := [(0, .ref x0), (1, .int x1), (2, .int (x2 + (1 : Int32)))]) [1, 2, 0] rfl ?_
      exact ih _ _
set_option maxHeartbeats 4000000 in
set_option maxRecDepth 100000 in
theorem h_R_crash_84 (hst : l.stackTraces = false) (F : Nat) (x0 : Nat) (K113 : ga_W → ga_O) (hK113 : ∀ (w : ga_W), ga_J l S0 D gz_cl (gz_tA cT) base b gz_xn p e R s m args below meth c 3 ws_R_crash y_R_crash.cls c_R_crash (some .int) [] y_R_crash.name 1 22 true ad0 w0 (ga_MQ gz_xn D gz_cl (gz_tA cT) base b s args below ad0 w0) 113 [(0, .ref x0)] [] w (K113 w)) : ∀ (n : Nat) (x2 : Int32) (w : ga_W), ga_J l S0 D gz_cl (gz_tA cT) base b gz_xn p e R s m args below meth c 3 ws_R_crash y_R_crash.cls c_R_crash (some .int) [] y_R_crash.name 1 22 true ad0 w0 (ga_MQ gz_xn D gz_cl (gz_tA cT) base b s args below ad0 w0) 84 [(0, .ref x0), (2, .int x2)] [] w (f_R_crash_84 F x0 K113 n x2 w) := by
  intro n
  induction n with
  | zero => intro x2 w; exact ga_no
  | succ n ih =>
    intro x2 w
    rw [f_R_crash_84]
    refine ga_iload_n (q := 1) d_R_crash_84 rfl rfl ?_
    refine ga_aload_n (q := 0) d_R_crash_85 rfl rfl ?_
    refine ga_getI (C := "LevelStoreModel") (T := T_R) (N := 39) (k := 17) (ci := 6) (fun x h => List.mem_cons_of_mem _ (iw_R x h)) rfl (by decide) (List.mem_cons_of_mem _ gw_778) d_R_crash_86 (fun v1 => ?_)
    refine ga_icmp_ge (tgt := 113) d_R_crash_89 (by decide) (fun h2 => ?_) (fun h2 => ?_)
    · refine ga_sub (lv2 := [(0, .ref x0)]) [0] rfl ?_
      exact hK113  _
    · refine ga_aload_n (q := 0) d_R_crash_92 rfl rfl ?_
      refine ga_dup d_R_crash_93 rfl ?_
      refine ga_getI (C := "LevelStoreModel") (T := T_R) (N := 39) (k := 15) (ci := 6) (fun x h => List.mem_cons_of_mem _ (iw_R x h)) rfl (by decide) (List.mem_cons_of_mem _ gw_776) d_R_crash_94 (fun v3 => ?_)
      refine ga_aload_n (q := 0) d_R_crash_97 rfl rfl ?_
      refine ga_getR (C := "LevelStoreModel") (T := T_R) (N := 39) (k := 16) (ci := 6) (fun x h => List.mem_cons_of_mem _ (iw_R x h)) rfl (by decide) (List.mem_cons_of_mem _ gw_777) d_R_crash_98 (fun r4 => ?_)
      refine ga_iload_n (q := 1) d_R_crash_101 rfl rfl ?_
      refine ga_ldI (t := 0) rfl d_R_crash_102 (fun v5 => ?_)
      refine ga_iadd d_R_crash_103 ?_
      refine ga_putB (C := "LevelStoreModel") (T := T_R) (N := 39) (k := 15) (ci := 6) (ty0 := ty_R) (fun x h => List.mem_cons_of_mem _ (iw_R x h)) ty_R_ok nm_R rfl (by decide) (List.mem_cons_of_mem _ gw_776) (Or.inl rfl) (fun _ => ⟨rfl, rfl⟩) d_R_crash_104 (fun w6 => ?_)
      refine ga_iinc (q := 1) (v := (x2 + (1 : Int32))) (lv2 := [(2, .int (x2 + (1 : Int32))), (0, .ref x0)]) d_R_crash_107 rfl rfl (by decide) rfl ?_
      refine ga_goto (tgt := 84) d_R_crash_110 (by decide) ?_
      refine ga_sub (lv2 := [(0, .ref x0), (2, .int (x2 + (1 : Int32)))]) [1, 0] rfl ?_
      exact ih _ _
set_option maxHeartbeats 4000000 in
set_option maxRecDepth 100000 in
theorem h_R_crash_120 (hst : l.stackTraces = false) (F : Nat) (x0 : Nat) (K157 : ga_W → ga_O) (hK157 : ∀ (w : ga_W), ga_J l S0 D gz_cl (gz_tA cT) base b gz_xn p e R s m args below meth c 3 ws_R_crash y_R_crash.cls c_R_crash (some .int) [] y_R_crash.name 1 22 true ad0 w0 (ga_MQ gz_xn D gz_cl (gz_tA cT) base b s args below ad0 w0) 157 [(0, .ref x0)] [] w (K157 w)) : ∀ (n : Nat) (x2 : Int32) (w : ga_W), ga_J l S0 D gz_cl (gz_tA cT) base b gz_xn p e R s m args below meth c 3 ws_R_crash y_R_crash.cls c_R_crash (some .int) [] y_R_crash.name 1 22 true ad0 w0 (ga_MQ gz_xn D gz_cl (gz_tA cT) base b s args below ad0 w0) 120 [(0, .ref x0), (2, .int x2)] [] w (f_R_crash_120 F x0 K157 n x2 w) := by
  intro n
  induction n with
  | zero => intro x2 w; exact ga_no
  | succ n ih =>
    intro x2 w
    rw [f_R_crash_120]
    refine ga_iload_n (q := 1) d_R_crash_120 rfl rfl ?_
    refine ga_aload_n (q := 0) d_R_crash_121 rfl rfl ?_
    refine ga_getI (C := "LevelStoreModel") (T := T_R) (N := 39) (k := 15) (ci := 6) (fun x h => List.mem_cons_of_mem _ (iw_R x h)) rfl (by decide) (List.mem_cons_of_mem _ gw_776) d_R_crash_122 (fun v1 => ?_)
    refine ga_icmp_ge (tgt := 157) d_R_crash_125 (by decide) (fun h2 => ?_) (fun h2 => ?_)
    · refine ga_sub (lv2 := [(0, .ref x0)]) [0] rfl ?_
      exact hK157  _
    · refine ga_aload_n (q := 0) d_R_crash_128 rfl rfl ?_
      refine ga_getR (C := "LevelStoreModel") (T := T_R) (N := 39) (k := 12) (ci := 6) (fun x h => List.mem_cons_of_mem _ (iw_R x h)) rfl (by decide) (List.mem_cons_of_mem _ gw_773) d_R_crash_129 (fun r3 => ?_)
      refine ga_iload_n (q := 1) d_R_crash_132 rfl rfl ?_
      refine ga_ldI (t := 0) rfl d_R_crash_133 (fun v4 => ?_)
      refine ga_aload_n (q := 0) d_R_crash_134 rfl rfl ?_
      refine ga_getI (C := "LevelStoreModel") (T := T_R) (N := 39) (k := 25) (ci := 6) (fun x h => List.mem_cons_of_mem _ (iw_R x h)) rfl (by decide) (List.mem_cons_of_mem _ gw_786) d_R_crash_135 (fun v5 => ?_)
      refine ga_icmp_le (tgt := 151) d_R_crash_138 (by decide) (fun h6 => ?_) (fun h6 => ?_)
      · refine ga_iinc (q := 1) (v := (x2 + (1 : Int32))) (lv2 := [(2, .int (x2 + (1 : Int32))), (0, .ref x0)]) d_R_crash_151 rfl rfl (by decide) rfl ?_
        refine ga_goto (tgt := 120) d_R_crash_154 (by decide) ?_
        refine ga_sub (lv2 := [(0, .ref x0), (2, .int (x2 + (1 : Int32)))]) [1, 0] rfl ?_
        exact ih _ _
      · refine ga_aload_n (q := 0) d_R_crash_141 rfl rfl ?_
        refine ga_aload_n (q := 0) d_R_crash_142 rfl rfl ?_
        refine ga_getR (C := "LevelStoreModel") (T := T_R) (N := 39) (k := 12) (ci := 6) (fun x h => List.mem_cons_of_mem _ (iw_R x h)) rfl (by decide) (List.mem_cons_of_mem _ gw_773) d_R_crash_143 (fun r7 => ?_)
        refine ga_iload_n (q := 1) d_R_crash_146 rfl rfl ?_
        refine ga_ldI (t := 0) rfl d_R_crash_147 (fun v8 => ?_)
        refine ga_putB (C := "LevelStoreModel") (T := T_R) (N := 39) (k := 25) (ci := 6) (ty0 := ty_R) (fun x h => List.mem_cons_of_mem _ (iw_R x h)) ty_R_ok nm_R rfl (by decide) (List.mem_cons_of_mem _ gw_786) (Or.inl rfl) (fun _ => ⟨rfl, rfl⟩) d_R_crash_148 (fun w9 => ?_)
        refine ga_iinc (q := 1) (v := (x2 + (1 : Int32))) (lv2 := [(2, .int (x2 + (1 : Int32))), (0, .ref x0)]) d_R_crash_151 rfl rfl (by decide) rfl ?_
        refine ga_goto (tgt := 120) d_R_crash_154 (by decide) ?_
        refine ga_sub (lv2 := [(0, .ref x0), (2, .int (x2 + (1 : Int32)))]) [1, 0] rfl ?_
        exact ih _ _
set_option maxHeartbeats 4000000 in
set_option maxRecDepth 100000 in
theorem h_R_crash_159 (hst : l.stackTraces = false) (F : Nat) (x0 : Nat) : ∀ (n : Nat) (x2 : Int32) (w : ga_W), ga_J l S0 D gz_cl (gz_tA cT) base b gz_xn p e R s m args below meth c 3 ws_R_crash y_R_crash.cls c_R_crash (some .int) [] y_R_crash.name 1 22 true ad0 w0 (ga_MQ gz_xn D gz_cl (gz_tA cT) base b s args below ad0 w0) 159 [(0, .ref x0), (2, .int x2)] [] w (f_R_crash_159 F x0 n x2 w) := by
  intro n
  induction n with
  | zero => intro x2 w; exact ga_no
  | succ n ih =>
    intro x2 w
    rw [f_R_crash_159]
    refine ga_iload_n (q := 1) d_R_crash_159 rfl rfl ?_
    refine ga_aload_n (q := 0) d_R_crash_160 rfl rfl ?_
    refine ga_getI (C := "LevelStoreModel") (T := T_R) (N := 39) (k := 5) (ci := 6) (fun x h => List.mem_cons_of_mem _ (iw_R x h)) rfl (by decide) (List.mem_cons_of_mem _ gw_766) d_R_crash_161 (fun v1 => ?_)
    refine ga_icmp_ge (tgt := 196) d_R_crash_164 (by decide) (fun h2 => ?_) (fun h2 => ?_)
    · refine ga_aload_n (q := 0) d_R_crash_196 rfl rfl ?_
      refine ga_getI (C := "LevelStoreModel") (T := T_R) (N := 39) (k := 17) (ci := 6) (fun x h => List.mem_cons_of_mem _ (iw_R x h)) rfl (by decide) (List.mem_cons_of_mem _ gw_778) d_R_crash_197 (fun v3 => ?_)
      exact ga_iret rfl d_R_crash_200
    · refine ga_aload_n (q := 0) d_R_crash_167 rfl rfl ?_
      refine ga_getR (C := "LevelStoreModel") (T := T_R) (N := 39) (k := 2) (ci := 6) (fun x h => List.mem_cons_of_mem _ (iw_R x h)) rfl (by decide) (List.mem_cons_of_mem _ gw_763) d_R_crash_168 (fun r4 => ?_)
      refine ga_iload_n (q := 1) d_R_crash_171 rfl rfl ?_
      refine ga_ldI (t := 0) rfl d_R_crash_172 (fun v5 => ?_)
      refine ga_aload_n (q := 0) d_R_crash_173 rfl rfl ?_
      refine ga_getI (C := "LevelStoreModel") (T := T_R) (N := 39) (k := 25) (ci := 6) (fun x h => List.mem_cons_of_mem _ (iw_R x h)) rfl (by decide) (List.mem_cons_of_mem _ gw_786) d_R_crash_174 (fun v6 => ?_)
      refine ga_icmp_le (tgt := 190) d_R_crash_177 (by decide) (fun h7 => ?_) (fun h7 => ?_)
      · refine ga_iinc (q := 1) (v := (x2 + (1 : Int32))) (lv2 := [(2, .int (x2 + (1 : Int32))), (0, .ref x0)]) d_R_crash_190 rfl rfl (by decide) rfl ?_
        refine ga_goto (tgt := 159) d_R_crash_193 (by decide) ?_
        refine ga_sub (lv2 := [(0, .ref x0), (2, .int (x2 + (1 : Int32)))]) [1, 0] rfl ?_
        exact ih _ _
      · refine ga_aload_n (q := 0) d_R_crash_180 rfl rfl ?_
        refine ga_aload_n (q := 0) d_R_crash_181 rfl rfl ?_
        refine ga_getR (C := "LevelStoreModel") (T := T_R) (N := 39) (k := 2) (ci := 6) (fun x h => List.mem_cons_of_mem _ (iw_R x h)) rfl (by decide) (List.mem_cons_of_mem _ gw_763) d_R_crash_182 (fun r8 => ?_)
        refine ga_iload_n (q := 1) d_R_crash_185 rfl rfl ?_
        refine ga_ldI (t := 0) rfl d_R_crash_186 (fun v9 => ?_)
        refine ga_putB (C := "LevelStoreModel") (T := T_R) (N := 39) (k := 25) (ci := 6) (ty0 := ty_R) (fun x h => List.mem_cons_of_mem _ (iw_R x h)) ty_R_ok nm_R rfl (by decide) (List.mem_cons_of_mem _ gw_786) (Or.inl rfl) (fun _ => ⟨rfl, rfl⟩) d_R_crash_187 (fun w10 => ?_)
        refine ga_iinc (q := 1) (v := (x2 + (1 : Int32))) (lv2 := [(2, .int (x2 + (1 : Int32))), (0, .ref x0)]) d_R_crash_190 rfl rfl (by decide) rfl ?_
        refine ga_goto (tgt := 159) d_R_crash_193 (by decide) ?_
        refine ga_sub (lv2 := [(0, .ref x0), (2, .int (x2 + (1 : Int32)))]) [1, 0] rfl ?_
        exact ih _ _
set_option maxHeartbeats 4000000 in
set_option maxRecDepth 100000 in
theorem m_R_crash (hst : l.stackTraces = false) (F : Nat) (p0 : Nat) (p1 : Int32) (w : ga_W) : ga_M l S0 D gz_cl (gz_tA cT) base b gz_xn y_R_crash ws_R_crash 1 22 true [.ref p0, .int p1] w (f_R_crash F p0 p1 w) := by
  refine ga_enter (cc := c_R_crash) (maxL := 3) (ret := (some .int)) hst (by decide) rfl (Nat.le_of_ble_eq_true rfl) ?_
  intro p e R s m args below meth c ad0
  refine ga_sub (lv2 := [(0, .ref p0), (1, .int p1)]) [0, 1] rfl ?_
  unfold f_R_crash
  refine ga_aload_n (q := 0) d_R_crash_0 rfl rfl ?_
  refine ga_iconst (v := (0 : Int32)) d_R_crash_1 (by decide) ?_
  refine ga_putB (C := "LevelStoreModel") (T := T_R) (N := 39) (k := 0) (ci := 6) (ty0 := ty_R) (fun x h => List.mem_cons_of_mem _ (iw_R x h)) ty_R_ok nm_R rfl (by decide) (List.mem_cons_of_mem _ gw_761) (Or.inl rfl) (fun _ => ⟨rfl, rfl⟩) d_R_crash_2 (fun w1 => ?_)
  refine ga_iload_n (q := 1) d_R_crash_5 rfl rfl ?_
  refine ga_iconst (v := (0 : Int32)) d_R_crash_6 (by decide) ?_
  refine ga_bipush (v := (100 : Int32)) d_R_crash_7 (by decide) ?_
  refine ga_invS (nA := 3) (av := [.int p1, .int (0 : Int32), .int (100 : Int32)]) (st := []) (m_R_in hst F p1 (0 : Int32) (100 : Int32) w1) (Or.inl rfl) (gz_gS gw_892 gw_893 gw_58 gw_894) rfl (by decide +kernel) rfl (by decide) (by decide) (Nat.le_of_ble_eq_true rfl) d_R_crash_9 (ga_vI (fun v3 w2 => ?_)) (fun _ _ => ga_thru rfl)
  refine ga_if_ne (tgt := 21) d_R_crash_12 (by decide) (fun h4 => ?_) (fun h4 => ?_)
  · refine ga_aload_n (q := 0) d_R_crash_15 rfl rfl ?_
    refine ga_iconst (v := (1 : Int32)) d_R_crash_16 (by decide) ?_
    refine ga_invV (nA := 1) (ci := 6) (T := T_R) (N := 39) (av := [.int (1 : Int32)]) (a := p0) (st := []) (m_R_raise hst F p0 (1 : Int32) w2) (Or.inl rfl) (gz_gV gw_895 gw_897 gw_19 gw_58 gw_898) rfl ⟨rfl, by decide +kernel⟩ rfl (by decide) (by decide) (Nat.le_of_ble_eq_true rfl) rfl d_R_crash_17 (ga_vI (fun v6 w5 => ?_)) (fun _ _ => ga_thru rfl)
    exact ga_iret rfl d_R_crash_20
  · refine ga_aload_n (q := 0) d_R_crash_21 rfl rfl ?_
    refine ga_iconst (v := (-1 : Int32)) d_R_crash_22 (by decide) ?_
    refine ga_putB (C := "LevelStoreModel") (T := T_R) (N := 39) (k := 22) (ci := 6) (ty0 := ty_R) (fun x h => List.mem_cons_of_mem _ (iw_R x h)) ty_R_ok nm_R rfl (by decide) (List.mem_cons_of_mem _ gw_783) (Or.inl rfl) (fun _ => ⟨rfl, rfl⟩) d_R_crash_23 (fun w7 => ?_)
    refine ga_iconst (v := (0 : Int32)) d_R_crash_26 (by decide) ?_
    refine ga_istore_n (lv2 := [(2, .int (0 : Int32)), (0, .ref p0), (1, .int p1)]) d_R_crash_27 rfl (by decide) rfl ?_
    refine ga_sub (lv2 := [(0, .ref p0), (1, .int p1), (2, .int (0 : Int32))]) [1, 2, 0] rfl ?_
    refine h_R_crash_28 hst F p0 p1 _ (fun w8 => ?_) F (0 : Int32) w7
    refine ga_aload_n (q := 0) d_R_crash_46 rfl rfl ?_
    refine ga_getI (C := "LevelStoreModel") (T := T_R) (N := 39) (k := 18) (ci := 6) (fun x h => List.mem_cons_of_mem _ (iw_R x h)) rfl (by decide) (List.mem_cons_of_mem _ gw_779) d_R_crash_47 (fun v9 => ?_)
    refine ga_iload_n (q := 1) d_R_crash_50 rfl rfl ?_
    refine ga_iadd d_R_crash_51 ?_
    refine ga_aload_n (q := 0) d_R_crash_52 rfl rfl ?_
    refine ga_getI (C := "LevelStoreModel") (T := T_R) (N := 39) (k := 17) (ci := 6) (fun x h => List.mem_cons_of_mem _ (iw_R x h)) rfl (by decide) (List.mem_cons_of_mem _ gw_778) d_R_crash_53 (fun v10 => ?_)
    refine ga_join (fun (K15 : ga_W → ga_O) => ∀  (w14 : ga_W), ga_J l S0 D gz_cl (gz_tA cT) base b gz_xn p e R s m args below meth c 3 ws_R_crash y_R_crash.cls c_R_crash (some .int) [] y_R_crash.name 1 22 true ad0 w (ga_MQ gz_xn D gz_cl (gz_tA cT) base b s args below ad0 w) 69 [(0, .ref p0)] [] w14 (K15 w14)) (fun w14 => ?_) (fun K15 hK15 => ?_)
    · refine ga_aload_n (q := 0) d_R_crash_69 rfl rfl ?_
      refine ga_aload_n (q := 0) d_R_crash_70 rfl rfl ?_
      refine ga_getI (C := "LevelStoreModel") (T := T_R) (N := 39) (k := 17) (ci := 6) (fun x h => List.mem_cons_of_mem _ (iw_R x h)) rfl (by decide) (List.mem_cons_of_mem _ gw_778) d_R_crash_71 (fun v16 => ?_)
      refine ga_putB (C := "LevelStoreModel") (T := T_R) (N := 39) (k := 18) (ci := 6) (ty0 := ty_R) (fun x h => List.mem_cons_of_mem _ (iw_R x h)) ty_R_ok nm_R rfl (by decide) (List.mem_cons_of_mem _ gw_779) (Or.inl rfl) (fun _ => ⟨rfl, rfl⟩) d_R_crash_74 (fun w17 => ?_)
      refine ga_aload_n (q := 0) d_R_crash_77 rfl rfl ?_
      refine ga_iconst (v := (0 : Int32)) d_R_crash_78 (by decide) ?_
      refine ga_putB (C := "LevelStoreModel") (T := T_R) (N := 39) (k := 15) (ci := 6) (ty0 := ty_R) (fun x h => List.mem_cons_of_mem _ (iw_R x h)) ty_R_ok nm_R rfl (by decide) (List.mem_cons_of_mem _ gw_776) (Or.inl rfl) (fun _ => ⟨rfl, rfl⟩) d_R_crash_79 (fun w18 => ?_)
      refine ga_iconst (v := (0 : Int32)) d_R_crash_82 (by decide) ?_
      refine ga_istore_n (lv2 := [(2, .int (0 : Int32)), (0, .ref p0)]) d_R_crash_83 rfl (by decide) rfl ?_
      refine ga_sub (lv2 := [(0, .ref p0), (2, .int (0 : Int32))]) [1, 0] rfl ?_
      refine h_R_crash_84 hst F p0 _ (fun w19 => ?_) F (0 : Int32) w18
      refine ga_aload_n (q := 0) d_R_crash_113 rfl rfl ?_
      refine ga_iconst (v := (0 : Int32)) d_R_crash_114 (by decide) ?_
      refine ga_putB (C := "LevelStoreModel") (T := T_R) (N := 39) (k := 25) (ci := 6) (ty0 := ty_R) (fun x h => List.mem_cons_of_mem _ (iw_R x h)) ty_R_ok nm_R rfl (by decide) (List.mem_cons_of_mem _ gw_786) (Or.inl rfl) (fun _ => ⟨rfl, rfl⟩) d_R_crash_115 (fun w20 => ?_)
      refine ga_iconst (v := (0 : Int32)) d_R_crash_118 (by decide) ?_
      refine ga_istore_n (lv2 := [(2, .int (0 : Int32)), (0, .ref p0)]) d_R_crash_119 rfl (by decide) rfl ?_
      refine ga_sub (lv2 := [(0, .ref p0), (2, .int (0 : Int32))]) [1, 0] rfl ?_
      refine h_R_crash_120 hst F p0 _ (fun w21 => ?_) F (0 : Int32) w20
      refine ga_iconst (v := (0 : Int32)) d_R_crash_157 (by decide) ?_
      refine ga_istore_n (lv2 := [(2, .int (0 : Int32)), (0, .ref p0)]) d_R_crash_158 rfl (by decide) rfl ?_
      refine ga_sub (lv2 := [(0, .ref p0), (2, .int (0 : Int32))]) [1, 0] rfl ?_
      exact h_R_crash_159 hst F p0 F (0 : Int32) w21
    · refine ga_icmp_ge (tgt := 69) d_R_crash_56 (by decide) (fun h22 => ?_) (fun h22 => ?_)
      · refine ga_sub (lv2 := [(0, .ref p0)]) [0] rfl ?_
        exact hK15 _
      · refine ga_aload_n (q := 0) d_R_crash_59 rfl rfl ?_
        refine ga_aload_n (q := 0) d_R_crash_60 rfl rfl ?_
        refine ga_getI (C := "LevelStoreModel") (T := T_R) (N := 39) (k := 18) (ci := 6) (fun x h => List.mem_cons_of_mem _ (iw_R x h)) rfl (by decide) (List.mem_cons_of_mem _ gw_779) d_R_crash_61 (fun v23 => ?_)
        refine ga_iload_n (q := 1) d_R_crash_64 rfl rfl ?_
        refine ga_iadd d_R_crash_65 ?_
        refine ga_putB (C := "LevelStoreModel") (T := T_R) (N := 39) (k := 17) (ci := 6) (ty0 := ty_R) (fun x h => List.mem_cons_of_mem _ (iw_R x h)) ty_R_ok nm_R rfl (by decide) (List.mem_cons_of_mem _ gw_778) (Or.inl rfl) (fun _ => ⟨rfl, rfl⟩) d_R_crash_66 (fun w24 => ?_)
        refine ga_sub (lv2 := [(0, .ref p0)]) [0] rfl ?_
        exact hK15 _
noncomputable def f_R_flush (F : Nat) (p0 : Nat) (w : ga_W) : ga_O :=
  ((ga_put w 6 0 p0 (.int (0 : Int32))).bind fun w1 => ((ga_gi w1 6 15 p0).bind fun v2 => (if v2 = 0 then (if ga_is w1 6 p0 = true then ga_c (f_R_raise F p0 (2 : Int32) w1) (ga_kI fun v5 w4 => (some (.inl (some (.int v5)), w4))) ga_up else none) else ((ga_gi w1 6 26 p0).bind fun v6 => (if v6 = 0 then (if ga_is w1 6 p0 = true then ga_c (f_R_flushAll F p0 w1) (ga_kV fun w8 => ((ga_gi w8 6 10 p0).bind fun v9 => (some (.inl (some (.int v9)), w8)))) ga_up else none) else (if ga_is w1 6 p0 = true then ga_c (f_R_onLevel F p0 (0 : Int32) w1) (ga_kI fun v11 w10 => (if v11 = (8 : Int32) then (if ga_is w10 6 p0 = true then ga_c (f_R_raise F p0 (1 : Int32) w10) (ga_kI fun v14 w13 => (some (.inl (some (.int v14)), w13))) ga_up else none) else (if ga_is w10 6 p0 = true then ga_c (f_R_flushAll F p0 w10) (ga_kV fun w15 => ((ga_gi w15 6 10 p0).bind fun v16 => (some (.inl (some (.int v16)), w15)))) ga_up else none))) ga_up else none))))))
set_option maxHeartbeats 4000000 in
set_option maxRecDepth 100000 in
theorem m_R_flush (hst : l.stackTraces = false) (F : Nat) (p0 : Nat) (w : ga_W) : ga_M l S0 D gz_cl (gz_tA cT) base b gz_xn y_R_flush ws_R_flush 7 164 true [.ref p0] w (f_R_flush F p0 w) := by
  refine ga_enter (cc := c_R_flush) (maxL := 1) (ret := (some .int)) hst (by decide) rfl (Nat.le_of_ble_eq_true rfl) ?_
  intro p e R s m args below meth c ad0
  refine ga_sub (lv2 := [(0, .ref p0)]) [0] rfl ?_
  unfold f_R_flush
  refine ga_aload_n (q := 0) d_R_flush_0 rfl rfl ?_
  refine ga_iconst (v := (0 : Int32)) d_R_flush_1 (by decide) ?_
  refine ga_putB (C := "LevelStoreModel") (T := T_R) (N := 39) (k := 0) (ci := 6) (ty0 := ty_R) (fun x h => List.mem_cons_of_mem _ (iw_R x h)) ty_R_ok nm_R rfl (by decide) (List.mem_cons_of_mem _ gw_761) (Or.inl rfl) (fun _ => ⟨rfl, rfl⟩) d_R_flush_2 (fun w1 => ?_)
  refine ga_aload_n (q := 0) d_R_flush_5 rfl rfl ?_
  refine ga_getI (C := "LevelStoreModel") (T := T_R) (N := 39) (k := 15) (ci := 6) (fun x h => List.mem_cons_of_mem _ (iw_R x h)) rfl (by decide) (List.mem_cons_of_mem _ gw_776) d_R_flush_6 (fun v2 => ?_)
  refine ga_if_ne (tgt := 18) d_R_flush_9 (by decide) (fun h3 => ?_) (fun h3 => ?_)
  · refine ga_aload_n (q := 0) d_R_flush_12 rfl rfl ?_
    refine ga_iconst (v := (2 : Int32)) d_R_flush_13 (by decide) ?_
    refine ga_invV (nA := 1) (ci := 6) (T := T_R) (N := 39) (av := [.int (2 : Int32)]) (a := p0) (st := []) (m_R_raise hst F p0 (2 : Int32) w1) (Or.inl rfl) (gz_gV gw_895 gw_897 gw_19 gw_58 gw_898) rfl ⟨rfl, by decide +kernel⟩ rfl (by decide) (by decide) (Nat.le_of_ble_eq_true rfl) rfl d_R_flush_14 (ga_vI (fun v5 w4 => ?_)) (fun _ _ => ga_thru rfl)
    exact ga_iret rfl d_R_flush_17
  · refine ga_aload_n (q := 0) d_R_flush_18 rfl rfl ?_
    refine ga_getI (C := "LevelStoreModel") (T := T_R) (N := 39) (k := 26) (ci := 6) (fun x h => List.mem_cons_of_mem _ (iw_R x h)) rfl (by decide) (List.mem_cons_of_mem _ gw_787) d_R_flush_19 (fun v6 => ?_)
    refine ga_if_eq (tgt := 41) d_R_flush_22 (by decide) (fun h7 => ?_) (fun h7 => ?_)
    · refine ga_aload_n (q := 0) d_R_flush_41 rfl rfl ?_
      refine ga_invV (nA := 0) (ci := 6) (T := T_R) (N := 39) (av := []) (a := p0) (st := []) (m_R_flushAll hst F p0 w1) (Or.inl rfl) (gz_gV gw_915 gw_917 gw_24 gw_58 gw_918) rfl ⟨rfl, by decide +kernel⟩ rfl (by decide) (by decide) (Nat.le_of_ble_eq_true rfl) rfl d_R_flush_42 (ga_vV (fun w8 => ?_)) (fun _ _ => ga_thru rfl)
      refine ga_aload_n (q := 0) d_R_flush_45 rfl rfl ?_
      refine ga_getI (C := "LevelStoreModel") (T := T_R) (N := 39) (k := 10) (ci := 6) (fun x h => List.mem_cons_of_mem _ (iw_R x h)) rfl (by decide) (List.mem_cons_of_mem _ gw_771) d_R_flush_46 (fun v9 => ?_)
      exact ga_iret rfl d_R_flush_49
    · refine ga_aload_n (q := 0) d_R_flush_25 rfl rfl ?_
      refine ga_iconst (v := (0 : Int32)) d_R_flush_26 (by decide) ?_
      refine ga_invV (nA := 1) (ci := 6) (T := T_R) (N := 39) (av := [.int (0 : Int32)]) (a := p0) (st := []) (m_R_onLevel hst F p0 (0 : Int32) w1) (Or.inl rfl) (gz_gV gw_903 gw_905 gw_21 gw_58 gw_906) rfl ⟨rfl, by decide +kernel⟩ rfl (by decide) (by decide) (Nat.le_of_ble_eq_true rfl) rfl d_R_flush_27 (ga_vI (fun v11 w10 => ?_)) (fun _ _ => ga_thru rfl)
      refine ga_bipush (v := (8 : Int32)) d_R_flush_30 (by decide) ?_
      refine ga_icmp_ne (tgt := 41) d_R_flush_32 (by decide) (fun h12 => ?_) (fun h12 => ?_)
      · refine ga_aload_n (q := 0) d_R_flush_35 rfl rfl ?_
        refine ga_iconst (v := (1 : Int32)) d_R_flush_36 (by decide) ?_
        refine ga_invV (nA := 1) (ci := 6) (T := T_R) (N := 39) (av := [.int (1 : Int32)]) (a := p0) (st := []) (m_R_raise hst F p0 (1 : Int32) w10) (Or.inl rfl) (gz_gV gw_895 gw_897 gw_19 gw_58 gw_898) rfl ⟨rfl, by decide +kernel⟩ rfl (by decide) (by decide) (Nat.le_of_ble_eq_true rfl) rfl d_R_flush_37 (ga_vI (fun v14 w13 => ?_)) (fun _ _ => ga_thru rfl)
        exact ga_iret rfl d_R_flush_40
      · refine ga_aload_n (q := 0) d_R_flush_41 rfl rfl ?_
        refine ga_invV (nA := 0) (ci := 6) (T := T_R) (N := 39) (av := []) (a := p0) (st := []) (m_R_flushAll hst F p0 w10) (Or.inl rfl) (gz_gV gw_915 gw_917 gw_24 gw_58 gw_918) rfl ⟨rfl, by decide +kernel⟩ rfl (by decide) (by decide) (Nat.le_of_ble_eq_true rfl) rfl d_R_flush_42 (ga_vV (fun w15 => ?_)) (fun _ _ => ga_thru rfl)
        refine ga_aload_n (q := 0) d_R_flush_45 rfl rfl ?_
        refine ga_getI (C := "LevelStoreModel") (T := T_R) (N := 39) (k := 10) (ci := 6) (fun x h => List.mem_cons_of_mem _ (iw_R x h)) rfl (by decide) (List.mem_cons_of_mem _ gw_771) d_R_flush_46 (fun v16 => ?_)
        exact ga_iret rfl d_R_flush_49
noncomputable def f_R_upTo (F : Nat) (p0 : Nat) (p1 : Int32) (w : ga_W) : ga_O :=
  (if 0 ≤ p1 then ((ga_gr w 6 23 p0).bind fun r2 => ((ga_ai w 0 r2 p1).bind fun v3 => (some (.inl (some (.int v3)), w)))) else ((ga_gi w 6 25 p0).bind fun v4 => (some (.inl (some (.int v4)), w))))
set_option maxHeartbeats 4000000 in
set_option maxRecDepth 100000 in
theorem m_R_upTo (hst : l.stackTraces = false) (F : Nat) (p0 : Nat) (p1 : Int32) (w : ga_W) : ga_M l S0 D gz_cl (gz_tA cT) base b gz_xn y_R_upTo ws_R_upTo 0 0 true [.ref p0, .int p1] w (f_R_upTo F p0 p1 w) := by
  refine ga_enter (cc := c_R_upTo) (maxL := 2) (ret := (some .int)) hst (by decide) rfl (Nat.le_of_ble_eq_true rfl) ?_
  intro p e R s m args below meth c ad0
  refine ga_sub (lv2 := [(0, .ref p0), (1, .int p1)]) [0, 1] rfl ?_
  unfold f_R_upTo
  refine ga_iload_n (q := 1) d_R_upTo_0 rfl rfl ?_
  refine ga_if_ge (tgt := 11) d_R_upTo_1 (by decide) (fun h1 => ?_) (fun h1 => ?_)
  · refine ga_aload_n (q := 0) d_R_upTo_11 rfl rfl ?_
    refine ga_getR (C := "LevelStoreModel") (T := T_R) (N := 39) (k := 23) (ci := 6) (fun x h => List.mem_cons_of_mem _ (iw_R x h)) rfl (by decide) (List.mem_cons_of_mem _ gw_784) d_R_upTo_12 (fun r2 => ?_)
    refine ga_iload_n (q := 1) d_R_upTo_15 rfl rfl ?_
    refine ga_ldI (t := 0) rfl d_R_upTo_16 (fun v3 => ?_)
    exact ga_iret rfl d_R_upTo_17
  · refine ga_aload_n (q := 0) d_R_upTo_4 rfl rfl ?_
    refine ga_getI (C := "LevelStoreModel") (T := T_R) (N := 39) (k := 25) (ci := 6) (fun x h => List.mem_cons_of_mem _ (iw_R x h)) rfl (by decide) (List.mem_cons_of_mem _ gw_786) d_R_upTo_5 (fun v4 => ?_)
    refine ga_goto (tgt := 17) d_R_upTo_8 (by decide) ?_
    exact ga_iret rfl d_R_upTo_17
noncomputable def f_R_lookInMemory_2 (F : Nat) (x0 : Nat) (x1 : Int32) (x2 : Int32) : Nat → Int32 → ga_W → ga_O
  | 0, _, _ => none
  | n + 1, x3, w => ((ga_gi w 6 15 x0).bind fun v1 => (if v1 ≤ x3 then (some (.inl none, w)) else ((ga_gr w 6 11 x0).bind fun r3 => ((ga_ai w 0 r3 x3).bind fun v4 => (if v4 = x1 then ((ga_gr w 6 12 x0).bind fun r6 => ((ga_ai w 0 r6 x3).bind fun v7 => (if x2 < v7 then (f_R_lookInMemory_2 F x0 x1 x2 n (x3 + (1 : Int32)) w) else ((ga_put w 6 38 x0 (.int ((1000 : Int32) + x3))).bind fun w9 => (f_R_lookInMemory_2 F x0 x1 x2 n (x3 + (1 : Int32)) w9))))) else (f_R_lookInMemory_2 F x0 x1 x2 n (x3 + (1 : Int32)) w))))))
noncomputable def f_R_lookInMemory (F : Nat) (p0 : Nat) (p1 : Int32) (p2 : Int32) (w : ga_W) : ga_O :=
  (f_R_lookInMemory_2 F p0 p1 p2 F (0 : Int32) w)
set_option maxHeartbeats 4000000 in
set_option maxRecDepth 100000 in
theorem h_R_lookInMemory_2 (hst : l.stackTraces = false) (F : Nat) (x0 : Nat) (x1 : Int32) (x2 : Int32) : ∀ (n : Nat) (x3 : Int32) (w : ga_W), ga_J l S0 D gz_cl (gz_tA cT) base b gz_xn p e R s m args below meth c 4 ws_R_lookInMemory y_R_lookInMemory.cls c_R_lookInMemory none [] y_R_lookInMemory.name 0 0 true ad0 w0 (ga_MQ gz_xn D gz_cl (gz_tA cT) base b s args below ad0 w0) 2 [(0, .ref x0), (1, .int x1), (2, .int x2), (3, .int x3)] [] w (f_R_lookInMemory_2 F x0 x1 x2 n x3 w) := by
  intro n
  induction n with
  | zero => intro x3 w; exact ga_no
  | succ n ih =>
    intro x3 w
    rw [f_R_lookInMemory_2]
    refine ga_iload_n (q := 3) d_R_lookInMemory_2 rfl rfl ?_
    refine ga_aload_n (q := 0) d_R_lookInMemory_3 rfl rfl ?_
    refine ga_getI (C := "LevelStoreModel") (T := T_R) (N := 39) (k := 15) (ci := 6) (fun x h => List.mem_cons_of_mem _ (iw_R x h)) rfl (by decide) (List.mem_cons_of_mem _ gw_776) d_R_lookInMemory_4 (fun v1 => ?_)
    refine ga_icmp_ge (tgt := 45) d_R_lookInMemory_7 (by decide) (fun h2 => ?_) (fun h2 => ?_)
    · exact ga_vret rfl d_R_lookInMemory_45
    · refine ga_aload_n (q := 0) d_R_lookInMemory_10 rfl rfl ?_
      refine ga_getR (C := "LevelStoreModel") (T := T_R) (N := 39) (k := 11) (ci := 6) (fun x h => List.mem_cons_of_mem _ (iw_R x h)) rfl (by decide) (List.mem_cons_of_mem _ gw_772) d_R_lookInMemory_11 (fun r3 => ?_)
      refine ga_iload_n (q := 3) d_R_lookInMemory_14 rfl rfl ?_
      refine ga_ldI (t := 0) rfl d_R_lookInMemory_15 (fun v4 => ?_)
      refine ga_iload_n (q := 1) d_R_lookInMemory_16 rfl rfl ?_
      refine ga_icmp_ne (tgt := 39) d_R_lookInMemory_17 (by decide) (fun h5 => ?_) (fun h5 => ?_)
      · refine ga_aload_n (q := 0) d_R_lookInMemory_20 rfl rfl ?_
        refine ga_getR (C := "LevelStoreModel") (T := T_R) (N := 39) (k := 12) (ci := 6) (fun x h => List.mem_cons_of_mem _ (iw_R x h)) rfl (by decide) (List.mem_cons_of_mem _ gw_773) d_R_lookInMemory_21 (fun r6 => ?_)
        refine ga_iload_n (q := 3) d_R_lookInMemory_24 rfl rfl ?_
        refine ga_ldI (t := 0) rfl d_R_lookInMemory_25 (fun v7 => ?_)
        refine ga_iload_n (q := 2) d_R_lookInMemory_26 rfl rfl ?_
        refine ga_icmp_gt (tgt := 39) d_R_lookInMemory_27 (by decide) (fun h8 => ?_) (fun h8 => ?_)
        · refine ga_iinc (q := 3) (v := (x3 + (1 : Int32))) (lv2 := [(3, .int (x3 + (1 : Int32))), (0, .ref x0), (1, .int x1), (2, .int x2)]) d_R_lookInMemory_39 rfl rfl (by decide) rfl ?_
          refine ga_goto (tgt := 2) d_R_lookInMemory_42 (by decide) ?_
          refine ga_sub (lv2 := [(0, .ref x0), (1, .int x1), (2, .int x2), (3, .int (x3 + (1 : Int32)))]) [1, 2, 3, 0] rfl ?_
          exact ih _ _
        · refine ga_aload_n (q := 0) d_R_lookInMemory_30 rfl rfl ?_
          refine ga_sipush (v := (1000 : Int32)) d_R_lookInMemory_31 (by decide) ?_
          refine ga_iload_n (q := 3) d_R_lookInMemory_34 rfl rfl ?_
          refine ga_iadd d_R_lookInMemory_35 ?_
          refine ga_putB (C := "LevelStoreModel") (T := T_R) (N := 39) (k := 38) (ci := 6) (ty0 := ty_R) (fun x h => List.mem_cons_of_mem _ (iw_R x h)) ty_R_ok nm_R rfl (by decide) (List.mem_cons_of_mem _ gw_799) (Or.inl rfl) (fun _ => ⟨rfl, rfl⟩) d_R_lookInMemory_36 (fun w9 => ?_)
          refine ga_iinc (q := 3) (v := (x3 + (1 : Int32))) (lv2 := [(3, .int (x3 + (1 : Int32))), (0, .ref x0), (1, .int x1), (2, .int x2)]) d_R_lookInMemory_39 rfl rfl (by decide) rfl ?_
          refine ga_goto (tgt := 2) d_R_lookInMemory_42 (by decide) ?_
          refine ga_sub (lv2 := [(0, .ref x0), (1, .int x1), (2, .int x2), (3, .int (x3 + (1 : Int32)))]) [1, 2, 3, 0] rfl ?_
          exact ih _ _
      · refine ga_iinc (q := 3) (v := (x3 + (1 : Int32))) (lv2 := [(3, .int (x3 + (1 : Int32))), (0, .ref x0), (1, .int x1), (2, .int x2)]) d_R_lookInMemory_39 rfl rfl (by decide) rfl ?_
        refine ga_goto (tgt := 2) d_R_lookInMemory_42 (by decide) ?_
        refine ga_sub (lv2 := [(0, .ref x0), (1, .int x1), (2, .int x2), (3, .int (x3 + (1 : Int32)))]) [1, 2, 3, 0] rfl ?_
        exact ih _ _
set_option maxHeartbeats 4000000 in
set_option maxRecDepth 100000 in
theorem m_R_lookInMemory (hst : l.stackTraces = false) (F : Nat) (p0 : Nat) (p1 : Int32) (p2 : Int32) (w : ga_W) : ga_M l S0 D gz_cl (gz_tA cT) base b gz_xn y_R_lookInMemory ws_R_lookInMemory 0 0 true [.ref p0, .int p1, .int p2] w (f_R_lookInMemory F p0 p1 p2 w) := by
  refine ga_enter (cc := c_R_lookInMemory) (maxL := 4) (ret := none) hst (by decide) rfl (Nat.le_of_ble_eq_true rfl) ?_
  intro p e R s m args below meth c ad0
  refine ga_sub (lv2 := [(0, .ref p0), (1, .int p1), (2, .int p2)]) [0, 1, 2] rfl ?_
  unfold f_R_lookInMemory
  refine ga_iconst (v := (0 : Int32)) d_R_lookInMemory_0 (by decide) ?_
  refine ga_istore_n (lv2 := [(3, .int (0 : Int32)), (0, .ref p0), (1, .int p1), (2, .int p2)]) d_R_lookInMemory_1 rfl (by decide) rfl ?_
  refine ga_sub (lv2 := [(0, .ref p0), (1, .int p1), (2, .int p2), (3, .int (0 : Int32))]) [1, 2, 3, 0] rfl ?_
  exact h_R_lookInMemory_2 hst F p0 p1 p2 F (0 : Int32) w
noncomputable def f_R_first (F : Nat) (p0 : Int32) (w : ga_W) : ga_O :=
  (some (.inl (some (.int ((((7 : Int32) * p0) + (3 : Int32)) - (((7 : Int32) * p0) + (3 : Int32)) / (16 : Int32) * (16 : Int32)))), w))
set_option maxHeartbeats 4000000 in
set_option maxRecDepth 100000 in
theorem m_R_first (hst : l.stackTraces = false) (F : Nat) (p0 : Int32) (w : ga_W) : ga_M l S0 D gz_cl (gz_tA cT) base b gz_xn y_R_first ws_R_first 0 0 true [.int p0] w (f_R_first F p0 w) := by
  refine ga_enter (cc := c_R_first) (maxL := 1) (ret := (some .int)) hst (by decide) rfl (Nat.le_of_ble_eq_true rfl) ?_
  intro p e R s m args below meth c ad0
  refine ga_sub (lv2 := [(0, .int p0)]) [0] rfl ?_
  unfold f_R_first
  refine ga_bipush (v := (7 : Int32)) d_R_first_0 (by decide) ?_
  refine ga_iload_n (q := 0) d_R_first_2 rfl rfl ?_
  refine ga_imul d_R_first_3 ?_
  refine ga_iconst (v := (3 : Int32)) d_R_first_4 (by decide) ?_
  refine ga_iadd d_R_first_5 ?_
  refine ga_bipush (v := (16 : Int32)) d_R_first_6 (by decide) ?_
  refine ga_irem d_R_first_8 (by decide) ?_
  exact ga_iret rfl d_R_first_9
noncomputable def f_R_second (F : Nat) (p0 : Int32) (w : ga_W) : ga_O :=
  (some (.inl (some (.int ((((5 : Int32) * p0) + (1 : Int32)) - (((5 : Int32) * p0) + (1 : Int32)) / (16 : Int32) * (16 : Int32)))), w))
set_option maxHeartbeats 4000000 in
set_option maxRecDepth 100000 in
theorem m_R_second (hst : l.stackTraces = false) (F : Nat) (p0 : Int32) (w : ga_W) : ga_M l S0 D gz_cl (gz_tA cT) base b gz_xn y_R_second ws_R_second 0 0 true [.int p0] w (f_R_second F p0 w) := by
  refine ga_enter (cc := c_R_second) (maxL := 1) (ret := (some .int)) hst (by decide) rfl (Nat.le_of_ble_eq_true rfl) ?_
  intro p e R s m args below meth c ad0
  refine ga_sub (lv2 := [(0, .int p0)]) [0] rfl ?_
  unfold f_R_second
  refine ga_iconst (v := (5 : Int32)) d_R_second_0 (by decide) ?_
  refine ga_iload_n (q := 0) d_R_second_1 rfl rfl ?_
  refine ga_imul d_R_second_2 ?_
  refine ga_iconst (v := (1 : Int32)) d_R_second_3 (by decide) ?_
  refine ga_iadd d_R_second_4 ?_
  refine ga_bipush (v := (16 : Int32)) d_R_second_5 (by decide) ?_
  refine ga_irem d_R_second_7 (by decide) ?_
  exact ga_iret rfl d_R_second_8
end GM15
