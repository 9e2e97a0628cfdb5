/-! WALKS: R_passes, R_readBlocks, R_look, R_foundGone -/
section GM16
variable {l : Launch} {S0 : State} {D : va_G} {cT : Nat → ClassId} {base b : Nat} {p : Program} {e : Env} {R : Room} {s : State} {m : MethodId} {args : Array Value} {below : List Frame} {meth : Method} {c : Code} {ad0 : Nat → Nat} {w0 : ga_W}
noncomputable def f_R_passes_16 (F : Nat) (x0 : Nat) (x1 : Int32) (x2 : Int32) (x5 : Int32) : Nat → Int32 → Int32 → Int32 → ga_W → ga_O
  | 0, _, _, _, _ => none
  | n + 1, x3, x4, x6, w => ((ga_gr w 6 8 x0).bind fun r1 => ((ga_ai w 0 r1 x1).bind fun v2 => (if (x5 + v2) ≤ x6 then (if x3 = 0 then (some (.inl (some (.int (0 : Int32))), w)) else (if x4 = 0 then (some (.inl (some (.int (0 : Int32))), w)) else (some (.inl (some (.int (1 : Int32))), w)))) else ((ga_gr w 6 1 x0).bind fun r6 => ((ga_ai w 0 r6 x6).bind fun v7 => (ga_c (f_R_first F v7 w) (ga_kI fun v9 w8 => ((ga_gr w8 6 1 x0).bind fun r10 => ((ga_ai w8 0 r10 x6).bind fun v11 => (ga_c (f_R_second F v11 w8) (ga_kI fun v13 w12 => (ga_c (f_R_first F x2 w12) (ga_kI fun v15 w14 => (ga_jn (fun (y26 : Int32) (w27 : ga_W) => (ga_c (f_R_second F x2 w27) (ga_kI fun v30 w29 => (if v9 = v30 then (f_R_passes_16 F x0 x1 x2 x5 n y26 (1 : Int32) (x6 + (1 : Int32)) w29) else (ga_c (f_R_second F x2 w29) (ga_kI fun v33 w32 => (if v13 = v33 then (f_R_passes_16 F x0 x1 x2 x5 n y26 (1 : Int32) (x6 + (1 : Int32)) w32) else (f_R_passes_16 F x0 x1 x2 x5 n y26 x4 (x6 + (1 : Int32)) w32))) ga_up))) ga_up)) (fun K28 => (ga_jn (fun  (w39 : ga_W) => (K28 (1 : Int32) w39)) (fun K40 => (if v9 = v15 then (K40 w14) else (ga_c (f_R_first F x2 w14) (ga_kI fun v43 w42 => (if v13 = v43 then (K40 w42) else (K28 x3 w42))) ga_up))))))) ga_up)) ga_up)))) ga_up))))))
noncomputable def f_R_passes (F : Nat) (p0 : Nat) (p1 : Int32) (p2 : Int32) (w : ga_W) : ga_O :=
  (if ga_is w 6 p0 = true then ga_c (f_R_start F p0 p1 w) (ga_kI fun v2 w1 => (f_R_passes_16 F p0 p1 p2 v2 F (0 : Int32) (0 : Int32) v2 w1)) ga_up else none)
set_option maxHeartbeats 4000000 in
set_option maxRecDepth 100000 in
theorem h_R_passes_16 (hst : l.stackTraces = false) (F : Nat) (x0 : Nat) (x1 : Int32) (x2 : Int32) (x5 : Int32) : ∀ (n : Nat) (x3 : Int32) (x4 : Int32) (x6 : Int32) (w : ga_W), ga_J l S0 D gz_cl (gz_tA cT) base b gz_xn p e R s m args below meth c 9 ws_R_passes y_R_passes.cls c_R_passes (some .boolean) [] y_R_passes.name 1 23 true ad0 w0 (ga_MQ gz_xn D gz_cl (gz_tA cT) base b s args below ad0 w0) 16 [(0, .ref x0), (1, .int x1), (2, .int x2), (3, .int x3), (4, .int x4), (5, .int x5), (6, .int x6)] [] w (f_R_passes_16 F x0 x1 x2 x5 n x3 x4 x6 w) := by
  intro n
  induction n with
  | zero => intro x3 x4 x6 w; exact ga_no
  | succ n ih =>
    intro x3 x4 x6 w
    rw [f_R_passes_16]
    refine ga_iload (q := 6) d_R_passes_16 rfl ?_
    refine ga_iload (q := 5) d_R_passes_18 rfl ?_
    refine ga_aload_n (q := 0) d_R_passes_20 rfl rfl ?_
    refine ga_getR (C := "LevelStoreModel") (T := T_R) (N := 39) (k := 8) (ci := 6) (fun x h => List.mem_cons_of_mem _ (iw_R x h)) rfl (by decide) (List.mem_cons_of_mem _ gw_769) d_R_passes_21 (fun r1 => ?_)
    refine ga_iload_n (q := 1) d_R_passes_24 rfl rfl ?_
    refine ga_ldI (t := 0) rfl d_R_passes_25 (fun v2 => ?_)
    refine ga_iadd d_R_passes_26 ?_
    refine ga_icmp_ge (tgt := 101) d_R_passes_27 (by decide) (fun h3 => ?_) (fun h3 => ?_)
    · refine ga_iload_n (q := 3) d_R_passes_101 rfl rfl ?_
      refine ga_if_eq (tgt := 114) d_R_passes_102 (by decide) (fun h4 => ?_) (fun h4 => ?_)
      · refine ga_iconst (v := (0 : Int32)) d_R_passes_114 (by decide) ?_
        exact ga_zret rfl rfl d_R_passes_115
      · refine ga_iload (q := 4) d_R_passes_105 rfl ?_
        refine ga_if_eq (tgt := 114) d_R_passes_107 (by decide) (fun h5 => ?_) (fun h5 => ?_)
        · refine ga_iconst (v := (0 : Int32)) d_R_passes_114 (by decide) ?_
          exact ga_zret rfl rfl d_R_passes_115
        · refine ga_iconst (v := (1 : Int32)) d_R_passes_110 (by decide) ?_
          refine ga_goto (tgt := 115) d_R_passes_111 (by decide) ?_
          exact ga_zret rfl rfl d_R_passes_115
    · refine ga_aload_n (q := 0) d_R_passes_30 rfl rfl ?_
      refine ga_getR (C := "LevelStoreModel") (T := T_R) (N := 39) (k := 1) (ci := 6) (fun x h => List.mem_cons_of_mem _ (iw_R x h)) rfl (by decide) (List.mem_cons_of_mem _ gw_762) d_R_passes_31 (fun r6 => ?_)
      refine ga_iload (q := 6) d_R_passes_34 rfl ?_
      refine ga_ldI (t := 0) rfl d_R_passes_36 (fun v7 => ?_)
      refine ga_invS (nA := 1) (av := [.int v7]) (st := []) (m_R_first hst F v7 w) (Or.inl rfl) (gz_gS gw_1027 gw_1028 gw_58 gw_1029) rfl (by decide +kernel) rfl (by decide) (by decide) (Nat.le_of_ble_eq_true rfl) d_R_passes_37 (ga_vI (fun v9 w8 => ?_)) (fun _ _ => ga_thru rfl)
      refine ga_istore (lv2 := [(7, .int v9), (0, .ref x0), (1, .int x1), (2, .int x2), (3, .int x3), (4, .int x4), (5, .int x5), (6, .int x6)]) d_R_passes_40 (by decide) rfl ?_
      refine ga_aload_n (q := 1) d_R_passes_42 rfl rfl ?_
      refine ga_getR (C := "LevelStoreModel") (T := T_R) (N := 39) (k := 1) (ci := 6) (fun x h => List.mem_cons_of_mem _ (iw_R x h)) rfl (by decide) (List.mem_cons_of_mem _ gw_762) d_R_passes_43 (fun r10 => ?_)
      refine ga_iload (q := 7) d_R_passes_46 rfl ?_
      refine ga_ldI (t := 0) rfl d_R_passes_48 (fun v11 => ?_)
      refine ga_invS (nA := 1) (av := [.int v11]) (st := []) (m_R_second hst F v11 w8) (Or.inl rfl) (gz_gS gw_1030 gw_1031 gw_58 gw_1032) rfl (by decide +kernel) rfl (by decide) (by decide) (Nat.le_of_ble_eq_true rfl) d_R_passes_49 (ga_vI (fun v13 w12 => ?_)) (fun _ _ => ga_thru rfl)
      refine ga_istore (lv2 := [(8, .int v13), (7, .int v9), (0, .ref x0), (1, .int x1), (2, .int x2), (3, .int x3), (4, .int x4), (5, .int x5), (6, .int x6)]) d_R_passes_52 (by decide) rfl ?_
      refine ga_iload (q := 1) d_R_passes_54 rfl ?_
      refine ga_iload_n (q := 4) d_R_passes_56 rfl rfl ?_
      refine ga_invS (nA := 1) (av := [.int x2]) (st := [.int v9]) (m_R_first hst F x2 w12) (Or.inl rfl) (gz_gS gw_1027 gw_1028 gw_58 gw_1029) rfl (by decide +kernel) rfl (by decide) (by decide) (Nat.le_of_ble_eq_true rfl) d_R_passes_57 (ga_vI (fun v15 w14 => ?_)) (fun _ _ => ga_thru rfl)
      refine ga_join (fun (K28 : Int32 → ga_W → ga_O) => ∀ (y26 : Int32) (w27 : ga_W), ga_J l S0 D gz_cl (gz_tA cT) base b gz_xn p e R s m args below meth c 9 ws_R_passes y_R_passes.cls c_R_passes (some .boolean) [] y_R_passes.name 1 23 true ad0 w0 (ga_MQ gz_xn D gz_cl (gz_tA cT) base b s args below ad0 w0) 74 [(0, .ref x0), (1, .int x1), (2, .int x2), (3, .int y26), (4, .int x4), (5, .int x5), (6, .int x6), (7, .int v9), (8, .int v13)] [] w27 (K28 y26 w27)) (fun y26 w27 => ?_) (fun K28 hK28 => ?_)
      · refine ga_iload (q := 7) d_R_passes_74 rfl ?_
        refine ga_iload_n (q := 2) d_R_passes_76 rfl rfl ?_
        refine ga_invS (nA := 1) (av := [.int x2]) (st := [.int v9]) (m_R_second hst F x2 w27) (Or.inl rfl) (gz_gS gw_1030 gw_1031 gw_58 gw_1032) rfl (by decide +kernel) rfl (by decide) (by decide) (Nat.le_of_ble_eq_true rfl) d_R_passes_77 (ga_vI (fun v30 w29 => ?_)) (fun _ _ => ga_thru rfl)
        refine ga_icmp_eq (tgt := 92) d_R_passes_80 (by decide) (fun h31 => ?_) (fun h31 => ?_)
        · refine ga_iconst (v := (1 : Int32)) d_R_passes_92 (by decide) ?_
          refine ga_istore (lv2 := [(4, .int (1 : Int32)), (0, .ref x0), (1, .int x1), (2, .int x2), (3, .int y26), (5, .int x5), (6, .int x6), (7, .int v9), (8, .int v13)]) d_R_passes_93 (by decide) rfl ?_
          refine ga_iinc (q := 6) (v := (x6 + (1 : Int32))) (lv2 := [(6, .int (x6 + (1 : Int32))), (4, .int (1 : Int32)), (0, .ref x0), (1, .int x1), (2, .int x2), (3, .int y26), (5, .int x5), (7, .int v9), (8, .int v13)]) d_R_passes_95 rfl rfl (by decide) rfl ?_
          refine ga_goto (tgt := 16) d_R_passes_98 (by decide) ?_
          refine ga_sub (lv2 := [(0, .ref x0), (1, .int x1), (2, .int x2), (3, .int y26), (4, .int (1 : Int32)), (5, .int x5), (6, .int (x6 + (1 : Int32)))]) [2, 3, 4, 5, 1, 6, 0] rfl ?_
          exact ih _ _ _ _
        · refine ga_iload (q := 8) d_R_passes_83 rfl ?_
          refine ga_iload_n (q := 2) d_R_passes_85 rfl rfl ?_
          refine ga_invS (nA := 1) (av := [.int x2]) (st := [.int v13]) (m_R_second hst F x2 w29) (Or.inl rfl) (gz_gS gw_1030 gw_1031 gw_58 gw_1032) rfl (by decide +kernel) rfl (by decide) (by decide) (Nat.le_of_ble_eq_true rfl) d_R_passes_86 (ga_vI (fun v33 w32 => ?_)) (fun _ _ => ga_thru rfl)
          refine ga_icmp_ne (tgt := 95) d_R_passes_89 (by decide) (fun h34 => ?_) (fun h34 => ?_)
          · refine ga_iconst (v := (1 : Int32)) d_R_passes_92 (by decide) ?_
            refine ga_istore (lv2 := [(4, .int (1 : Int32)), (0, .ref x0), (1, .int x1), (2, .int x2), (3, .int y26), (5, .int x5), (6, .int x6), (7, .int v9), (8, .int v13)]) d_R_passes_93 (by decide) rfl ?_
            refine ga_iinc (q := 6) (v := (x6 + (1 : Int32))) (lv2 := [(6, .int (x6 + (1 : Int32))), (4, .int (1 : Int32)), (0, .ref x0), (1, .int x1), (2, .int x2), (3, .int y26), (5, .int x5), (7, .int v9), (8, .int v13)]) d_R_passes_95 rfl rfl (by decide) rfl ?_
            refine ga_goto (tgt := 16) d_R_passes_98 (by decide) ?_
            refine ga_sub (lv2 := [(0, .ref x0), (1, .int x1), (2, .int x2), (3, .int y26), (4, .int (1 : Int32)), (5, .int x5), (6, .int (x6 + (1 : Int32)))]) [2, 3, 4, 5, 1, 6, 0] rfl ?_
            exact ih _ _ _ _
          · refine ga_iinc (q := 6) (v := (x6 + (1 : Int32))) (lv2 := [(6, .int (x6 + (1 : Int32))), (0, .ref x0), (1, .int x1), (2, .int x2), (3, .int y26), (4, .int x4), (5, .int x5), (7, .int v9), (8, .int v13)]) d_R_passes_95 rfl rfl (by decide) rfl ?_
            refine ga_goto (tgt := 16) d_R_passes_98 (by decide) ?_
            refine ga_sub (lv2 := [(0, .ref x0), (1, .int x1), (2, .int x2), (3, .int y26), (4, .int x4), (5, .int x5), (6, .int (x6 + (1 : Int32)))]) [1, 2, 3, 4, 5, 6, 0] rfl ?_
            exact ih _ _ _ _
      · refine ga_join (fun (K40 : ga_W → ga_O) => ∀  (w39 : ga_W), ga_J l S0 D gz_cl (gz_tA cT) base b gz_xn p e R s m args below meth c 9 ws_R_passes y_R_passes.cls c_R_passes (some .boolean) [] y_R_passes.name 1 23 true ad0 w0 (ga_MQ gz_xn D gz_cl (gz_tA cT) base b s args below ad0 w0) 72 [(0, .ref x0), (1, .int x1), (2, .int x2), (4, .int x4), (5, .int x5), (6, .int x6), (7, .int v9), (8, .int v13)] [] w39 (K40 w39)) (fun w39 => ?_) (fun K40 hK40 => ?_)
        · refine ga_iconst (v := (1 : Int32)) d_R_passes_72 (by decide) ?_
          refine ga_istore_n (lv2 := [(3, .int (1 : Int32)), (0, .ref x0), (1, .int x1), (2, .int x2), (4, .int x4), (5, .int x5), (6, .int x6), (7, .int v9), (8, .int v13)]) d_R_passes_73 rfl (by decide) rfl ?_
          refine ga_sub (lv2 := [(0, .ref x0), (1, .int x1), (2, .int x2), (3, .int (1 : Int32)), (4, .int x4), (5, .int x5), (6, .int x6), (7, .int v9), (8, .int v13)]) [1, 2, 3, 0, 4, 5, 6, 7, 8] rfl ?_
          exact hK28 _ _
        · refine ga_icmp_eq (tgt := 72) d_R_passes_60 (by decide) (fun h41 => ?_) (fun h41 => ?_)
          · refine ga_sub (lv2 := [(0, .ref x0), (1, .int x1), (2, .int x2), (4, .int x4), (5, .int x5), (6, .int x6), (7, .int v9), (8, .int v13)]) [2, 3, 4, 6, 7, 8, 1, 0] rfl ?_
            exact hK40 _
          · refine ga_iload (q := 0) d_R_passes_63 rfl ?_
            refine ga_iload_n (q := 4) d_R_passes_65 rfl rfl ?_
            refine ga_invS (nA := 1) (av := [.int x2]) (st := [.int v13]) (m_R_first hst F x2 w14) (Or.inl rfl) (gz_gS gw_1027 gw_1028 gw_58 gw_1029) rfl (by decide +kernel) rfl (by decide) (by decide) (Nat.le_of_ble_eq_true rfl) d_R_passes_66 (ga_vI (fun v43 w42 => ?_)) (fun _ _ => ga_thru rfl)
            refine ga_icmp_ne (tgt := 74) d_R_passes_69 (by decide) (fun h44 => ?_) (fun h44 => ?_)
            · refine ga_sub (lv2 := [(0, .ref x0), (1, .int x1), (2, .int x2), (4, .int x4), (5, .int x5), (6, .int x6), (7, .int v9), (8, .int v13)]) [2, 3, 4, 6, 7, 8, 1, 0] rfl ?_
              exact hK40 _
            · refine ga_sub (lv2 := [(0, .ref x0), (1, .int x1), (2, .int x2), (3, .int x3), (4, .int x4), (5, .int x5), (6, .int x6), (7, .int v9), (8, .int v13)]) [2, 3, 4, 5, 6, 7, 8, 1, 0] rfl ?_
              exact hK28 _ _
set_option maxHeartbeats 4000000 in
set_option maxRecDepth 100000 in
theorem m_R_passes (hst : l.stackTraces = false) (F : Nat) (p0 : Nat) (p1 : Int32) (p2 : Int32) (w : ga_W) : ga_M l S0 D gz_cl (gz_tA cT) base b gz_xn y_R_passes ws_R_passes 1 23 true [.ref p0, .int p1, .int p2] w (f_R_passes F p0 p1 p2 w) := by
  refine ga_enter (cc := c_R_passes) (maxL := 9) (ret := (some .boolean)) hst (by decide) rfl (Nat.le_of_ble_eq_true rfl) ?_
  intro p e R s m args below meth c ad0
  refine ga_sub (lv2 := [(0, .ref p0), (1, .int p1), (2, .int p2)]) [0, 1, 2] rfl ?_
  unfold f_R_passes
  refine ga_iconst (v := (0 : Int32)) d_R_passes_0 (by decide) ?_
  refine ga_istore_n (lv2 := [(3, .int (0 : Int32)), (0, .ref p0), (1, .int p1), (2, .int p2)]) d_R_passes_1 rfl (by decide) rfl ?_
  refine ga_iconst (v := (0 : Int32)) d_R_passes_2 (by decide) ?_
  refine ga_istore (lv2 := [(4, .int (0 : Int32)), (3, .int (0 : Int32)), (0, .ref p0), (1, .int p1), (2, .int p2)]) d_R_passes_3 (by decide) rfl ?_
  refine ga_aload_n (q := 2) d_R_passes_5 rfl rfl ?_
  refine ga_iload_n (q := 3) d_R_passes_6 rfl rfl ?_
  refine ga_invV (nA := 1) (ci := 6) (T := T_R) (N := 39) (av := [.int p1]) (a := p0) (st := []) (m_R_start hst F p0 p1 w) (Or.inl rfl) (gz_gV gw_931 gw_933 gw_28 gw_58 gw_934) rfl ⟨rfl, by decide +kernel⟩ rfl (by decide) (by decide) (Nat.le_of_ble_eq_true rfl) rfl d_R_passes_7 (ga_vI (fun v2 w1 => ?_)) (fun _ _ => ga_thru rfl)
  refine ga_istore (lv2 := [(5, .int v2), (4, .int (0 : Int32)), (3, .int (0 : Int32)), (0, .ref p0), (1, .int p1), (2, .int p2)]) d_R_passes_10 (by decide) rfl ?_
  refine ga_iload (q := 0) d_R_passes_12 rfl ?_
  refine ga_istore (lv2 := [(6, .int v2), (5, .int v2), (4, .int (0 : Int32)), (3, .int (0 : Int32)), (0, .ref p0), (1, .int p1), (2, .int p2)]) d_R_passes_14 (by decide) rfl ?_
  refine ga_sub (lv2 := [(0, .ref p0), (1, .int p1), (2, .int p2), (3, .int (0 : Int32)), (4, .int (0 : Int32)), (5, .int v2), (6, .int v2)]) [4, 5, 6, 3, 2, 1, 0] rfl ?_
  exact h_R_passes_16 hst F p0 p1 p2 v2 F (0 : Int32) (0 : Int32) v2 w1
noncomputable def f_R_readBlocks_103 (F : Nat) (x0 : Nat) (x1 : Int32) (x2 : Int32) (x3 : Int32) (x4 : Int32) (x5 : Int32) (x6 : Int32) (x7 : Int32) (K141 : ga_W → ga_O) : Nat → Int32 → ga_W → ga_O
  | 0, _, _ => none
  | n + 1, x8, w => (if x7 < x8 then (K141 w) else ((ga_gr w 6 1 x0).bind fun r2 => ((ga_ai w 0 r2 x8).bind fun v3 => (if v3 = x2 then ((ga_gr w 6 2 x0).bind fun r5 => ((ga_ai w 0 r5 x8).bind fun v6 => (if x3 < v6 then (f_R_readBlocks_103 F x0 x1 x2 x3 x4 x5 x6 x7 K141 n (x8 + (1 : Int32)) w) else (some (.inl (some (.int x8)), w))))) else (f_R_readBlocks_103 F x0 x1 x2 x3 x4 x5 x6 x7 K141 n (x8 + (1 : Int32)) w)))))
noncomputable def f_R_readBlocks_22 (F : Nat) (x0 : Nat) (x1 : Int32) (x2 : Int32) (x3 : Int32) (x4 : Int32) (x5 : Int32) : Nat → Int32 → ga_W → ga_O
  | 0, _, _ => none
  | n + 1, x6, w => (if x5 ≤ x6 then (some (.inl (some (.int (-1 : Int32))), w)) else (ga_jn (fun (y3 : Int32) (w4 : ga_W) => ((ga_gr w4 6 1 x0).bind fun r6 => ((ga_ai w4 0 r6 y3).bind fun v7 => (if x2 ≤ v7 then ((ga_gi w4 6 27 x0).bind fun v9 => ((ga_put w4 6 27 x0 (.int (v9 + (1 : Int32)))).bind fun w10 => ((ga_gr w10 6 9 x0).bind fun r11 => ((ga_al w10 2 r11 x1).bind fun v12 => (if (lg_cmp ((v12 >>> (Int32.toInt64 ((x6 - x4) / (4 : Int32)) &&& 63)) &&& (1 : Int64)) (0 : Int64)) = 0 then (f_R_readBlocks_103 F x0 x1 x2 x3 x4 x5 x6 y3 (fun (w14 : ga_W) => ((ga_gr w14 6 1 x0).bind fun r15 => ((ga_ai w14 0 r15 y3).bind fun v16 => (if v16 ≤ x2 then (f_R_readBlocks_22 F x0 x1 x2 x3 x4 x5 n (x6 + (4 : Int32)) w14) else (some (.inl (some (.int (-1 : Int32))), w14)))))) F x6 w10) else (some (.inl (some (.int (-2 : Int32))), w10))))))) else (f_R_readBlocks_22 F x0 x1 x2 x3 x4 x5 n (x6 + (4 : Int32)) w4))))) (fun K5 => (if x5 ≤ (x6 + (3 : Int32)) then (K5 (x5 - (1 : Int32)) w) else (K5 (x6 + (3 : Int32)) w)))))
noncomputable def f_R_readBlocks (F : Nat) (p0 : Nat) (p1 : Int32) (p2 : Int32) (p3 : Int32) (w : ga_W) : ga_O :=
  (if ga_is w 6 p0 = true then ga_c (f_R_start F p0 p1 w) (ga_kI fun v2 w1 => ((ga_gr w1 6 8 p0).bind fun r3 => ((ga_ai w1 0 r3 p1).bind fun v4 => (f_R_readBlocks_22 F p0 p1 p2 p3 v2 (v2 + v4) F v2 w1)))) ga_up else none)
set_option maxHeartbeats 4000000 in
set_option maxRecDepth 100000 in
theorem h_R_readBlocks_103 (hst : l.stackTraces = false) (F : Nat) (x0 : Nat) (x1 : Int32) (x2 : Int32) (x3 : Int32) (x4 : Int32) (x5 : Int32) (x6 : Int32) (x7 : Int32) (K141 : ga_W → ga_O) (hK141 : ∀ (w : ga_W), ga_J l S0 D gz_cl (gz_tA cT) base b gz_xn p e R s m args below meth c 9 ws_R_readBlocks y_R_readBlocks.cls c_R_readBlocks (some .int) [] y_R_readBlocks.name 1 23 true ad0 w0 (ga_MQ gz_xn D gz_cl (gz_tA cT) base b s args below ad0 w0) 141 [(0, .ref x0), (1, .int x1), (2, .int x2), (3, .int x3), (4, .int x4), (5, .int x5), (6, .int x6), (7, .int x7)] [] w (K141 w)) : ∀ (n : Nat) (x8 : Int32) (w : ga_W), ga_J l S0 D gz_cl (gz_tA cT) base b gz_xn p e R s m args below meth c 9 ws_R_readBlocks y_R_readBlocks.cls c_R_readBlocks (some .int) [] y_R_readBlocks.name 1 23 true ad0 w0 (ga_MQ gz_xn D gz_cl (gz_tA cT) base b s args below ad0 w0) 103 [(0, .ref x0), (1, .int x1), (2, .int x2), (3, .int x3), (4, .int x4), (5, .int x5), (6, .int x6), (7, .int x7), (8, .int x8)] [] w (f_R_readBlocks_103 F x0 x1 x2 x3 x4 x5 x6 x7 K141 n x8 w) := by
  intro n
  induction n with
  | zero => intro x8 w; exact ga_no
  | succ n ih =>
    intro x8 w
    rw [f_R_readBlocks_103]
    refine ga_iload (q := 8) d_R_readBlocks_103 rfl ?_
    refine ga_iload (q := 7) d_R_readBlocks_105 rfl ?_
    refine ga_icmp_gt (tgt := 141) d_R_readBlocks_107 (by decide) (fun h1 => ?_) (fun h1 => ?_)
    · refine ga_sub (lv2 := [(0, .ref x0), (1, .int x1), (2, .int x2), (3, .int x3), (4, .int x4), (5, .int x5), (6, .int x6), (7, .int x7)]) [0, 1, 2, 3, 4, 5, 6, 7] rfl ?_
      exact hK141  _
    · refine ga_aload_n (q := 0) d_R_readBlocks_110 rfl rfl ?_
      refine ga_getR (C := "LevelStoreModel") (T := T_R) (N := 39) (k := 1) (ci := 6) (fun x h => List.mem_cons_of_mem _ (iw_R x h)) rfl (by decide) (List.mem_cons_of_mem _ gw_762) d_R_readBlocks_111 (fun r2 => ?_)
      refine ga_iload (q := 8) d_R_readBlocks_114 rfl ?_
      refine ga_ldI (t := 0) rfl d_R_readBlocks_116 (fun v3 => ?_)
      refine ga_iload_n (q := 2) d_R_readBlocks_117 rfl rfl ?_
      refine ga_icmp_ne (tgt := 135) d_R_readBlocks_118 (by decide) (fun h4 => ?_) (fun h4 => ?_)
      · refine ga_aload_n (q := 0) d_R_readBlocks_121 rfl rfl ?_
        refine ga_getR (C := "LevelStoreModel") (T := T_R) (N := 39) (k := 2) (ci := 6) (fun x h => List.mem_cons_of_mem _ (iw_R x h)) rfl (by decide) (List.mem_cons_of_mem _ gw_763) d_R_readBlocks_122 (fun r5 => ?_)
        refine ga_iload (q := 8) d_R_readBlocks_125 rfl ?_
        refine ga_ldI (t := 0) rfl d_R_readBlocks_127 (fun v6 => ?_)
        refine ga_iload_n (q := 3) d_R_readBlocks_128 rfl rfl ?_
        refine ga_icmp_gt (tgt := 135) d_R_readBlocks_129 (by decide) (fun h7 => ?_) (fun h7 => ?_)
        · refine ga_iinc (q := 8) (v := (x8 + (1 : Int32))) (lv2 := [(8, .int (x8 + (1 : Int32))), (0, .ref x0), (1, .int x1), (2, .int x2), (3, .int x3), (4, .int x4), (5, .int x5), (6, .int x6), (7, .int x7)]) d_R_readBlocks_135 rfl rfl (by decide) rfl ?_
          refine ga_goto (tgt := 103) d_R_readBlocks_138 (by decide) ?_
          refine ga_sub (lv2 := [(0, .ref x0), (1, .int x1), (2, .int x2), (3, .int x3), (4, .int x4), (5, .int x5), (6, .int x6), (7, .int x7), (8, .int (x8 + (1 : Int32)))]) [1, 2, 3, 4, 5, 6, 7, 8, 0] rfl ?_
          exact ih _ _
        · refine ga_iload (q := 8) d_R_readBlocks_132 rfl ?_
          exact ga_iret rfl d_R_readBlocks_134
      · refine ga_iinc (q := 8) (v := (x8 + (1 : Int32))) (lv2 := [(8, .int (x8 + (1 : Int32))), (0, .ref x0), (1, .int x1), (2, .int x2), (3, .int x3), (4, .int x4), (5, .int x5), (6, .int x6), (7, .int x7)]) d_R_readBlocks_135 rfl rfl (by decide) rfl ?_
        refine ga_goto (tgt := 103) d_R_readBlocks_138 (by decide) ?_
        refine ga_sub (lv2 := [(0, .ref x0), (1, .int x1), (2, .int x2), (3, .int x3), (4, .int x4), (5, .int x5), (6, .int x6), (7, .int x7), (8, .int (x8 + (1 : Int32)))]) [1, 2, 3, 4, 5, 6, 7, 8, 0] rfl ?_
        exact ih _ _
set_option maxHeartbeats 4000000 in
set_option maxRecDepth 100000 in
theorem h_R_readBlocks_22 (hst : l.stackTraces = false) (F : Nat) (x0 : Nat) (x1 : Int32) (x2 : Int32) (x3 : Int32) (x4 : Int32) (x5 : Int32) : ∀ (n : Nat) (x6 : Int32) (w : ga_W), ga_J l S0 D gz_cl (gz_tA cT) base b gz_xn p e R s m args below meth c 9 ws_R_readBlocks y_R_readBlocks.cls c_R_readBlocks (some .int) [] y_R_readBlocks.name 1 23 true ad0 w0 (ga_MQ gz_xn D gz_cl (gz_tA cT) base b s args below ad0 w0) 22 [(0, .ref x0), (1, .int x1), (2, .int x2), (3, .int x3), (4, .int x4), (5, .int x5), (6, .int x6)] [] w (f_R_readBlocks_22 F x0 x1 x2 x3 x4 x5 n x6 w) := by
  intro n
  induction n with
  | zero => intro x6 w; exact ga_no
  | succ n ih =>
    intro x6 w
    rw [f_R_readBlocks_22]
    refine ga_iload (q := 6) d_R_readBlocks_22 rfl ?_
    refine ga_iload (q := 5) d_R_readBlocks_24 rfl ?_
    refine ga_icmp_ge (tgt := 160) d_R_readBlocks_26 (by decide) (fun h1 => ?_) (fun h1 => ?_)
    · refine ga_iconst (v := (-1 : Int32)) d_R_readBlocks_160 (by decide) ?_
      exact ga_iret rfl d_R_readBlocks_161
    · refine ga_iload (q := 6) d_R_readBlocks_29 rfl ?_
      refine ga_iconst (v := (3 : Int32)) d_R_readBlocks_31 (by decide) ?_
      refine ga_iadd d_R_readBlocks_32 ?_
      refine ga_iload (q := 5) d_R_readBlocks_33 rfl ?_
      refine ga_join (fun (K5 : Int32 → ga_W → ga_O) => ∀ (y3 : Int32) (w4 : ga_W), ga_J l S0 D gz_cl (gz_tA cT) base b gz_xn p e R s m args below meth c 9 ws_R_readBlocks y_R_readBlocks.cls c_R_readBlocks (some .int) [] y_R_readBlocks.name 1 23 true ad0 w0 (ga_MQ gz_xn D gz_cl (gz_tA cT) base b s args below ad0 w0) 49 [(0, .ref x0), (1, .int x1), (2, .int x2), (3, .int x3), (4, .int x4), (5, .int x5), (6, .int x6)] [.int y3] w4 (K5 y3 w4)) (fun y3 w4 => ?_) (fun K5 hK5 => ?_)
      · refine ga_istore (lv2 := [(7, .int y3), (0, .ref x0), (1, .int x1), (2, .int x2), (3, .int x3), (4, .int x4), (5, .int x5), (6, .int x6)]) d_R_readBlocks_49 (by decide) rfl ?_
        refine ga_aload_n (q := 1) d_R_readBlocks_51 rfl rfl ?_
        refine ga_getR (C := "LevelStoreModel") (T := T_R) (N := 39) (k := 1) (ci := 6) (fun x h => List.mem_cons_of_mem _ (iw_R x h)) rfl (by decide) (List.mem_cons_of_mem _ gw_762) d_R_readBlocks_52 (fun r6 => ?_)
        refine ga_iload (q := 0) d_R_readBlocks_55 rfl ?_
        refine ga_ldI (t := 0) rfl d_R_readBlocks_57 (fun v7 => ?_)
        refine ga_iload_n (q := 3) d_R_readBlocks_58 rfl rfl ?_
        refine ga_icmp_ge (tgt := 65) d_R_readBlocks_59 (by decide) (fun h8 => ?_) (fun h8 => ?_)
        · refine ga_aload_n (q := 1) d_R_readBlocks_65 rfl rfl ?_
          refine ga_dup d_R_readBlocks_66 rfl ?_
          refine ga_getI (C := "LevelStoreModel") (T := T_R) (N := 39) (k := 27) (ci := 6) (fun x h => List.mem_cons_of_mem _ (iw_R x h)) rfl (by decide) (List.mem_cons_of_mem _ gw_788) d_R_readBlocks_67 (fun v9 => ?_)
          refine ga_iconst (v := (1 : Int32)) d_R_readBlocks_70 (by decide) ?_
          refine ga_iadd d_R_readBlocks_71 ?_
          refine ga_putB (C := "LevelStoreModel") (T := T_R) (N := 39) (k := 27) (ci := 6) (ty0 := ty_R) (fun x h => List.mem_cons_of_mem _ (iw_R x h)) ty_R_ok nm_R rfl (by decide) (List.mem_cons_of_mem _ gw_788) (Or.inl rfl) (fun _ => ⟨rfl, rfl⟩) d_R_readBlocks_72 (fun w10 => ?_)
          refine ga_aload_n (q := 1) d_R_readBlocks_75 rfl rfl ?_
          refine ga_getR (C := "LevelStoreModel") (T := T_R) (N := 39) (k := 9) (ci := 6) (fun x h => List.mem_cons_of_mem _ (iw_R x h)) rfl (by decide) (List.mem_cons_of_mem _ gw_770) d_R_readBlocks_76 (fun r11 => ?_)
          refine ga_iload_n (q := 2) d_R_readBlocks_79 rfl rfl ?_
          refine ga_ldL (t := 2) rfl d_R_readBlocks_80 (fun v12 => ?_)
          refine ga_iload (q := 7) d_R_readBlocks_81 rfl ?_
          refine ga_iload (q := 5) d_R_readBlocks_83 rfl ?_
          refine ga_isub d_R_readBlocks_85 ?_
          refine ga_iconst (v := (4 : Int32)) d_R_readBlocks_86 (by decide) ?_
          refine ga_idiv d_R_readBlocks_87 (by decide) ?_
          refine ga_lshr d_R_readBlocks_88 ?_
          refine ga_lconst (v := (1 : Int64)) d_R_readBlocks_89 (by decide) ?_
          refine ga_land d_R_readBlocks_90 ?_
          refine ga_lconst (v := (0 : Int64)) d_R_readBlocks_91 (by decide) ?_
          refine ga_lcmp d_R_readBlocks_92 ?_
          refine ga_if_eq (tgt := 99) d_R_readBlocks_93 (by decide) (fun h13 => ?_) (fun h13 => ?_)
          · refine ga_iload (q := 7) d_R_readBlocks_99 rfl ?_
            refine ga_istore (lv2 := [(8, .int x6), (7, .int y3), (0, .ref x0), (1, .int x1), (2, .int x2), (3, .int x3), (4, .int x4), (5, .int x5), (6, .int x6)]) d_R_readBlocks_101 (by decide) rfl ?_
            refine ga_sub (lv2 := [(0, .ref x0), (1, .int x1), (2, .int x2), (3, .int x3), (4, .int x4), (5, .int x5), (6, .int x6), (7, .int y3), (8, .int x6)]) [2, 3, 4, 5, 6, 7, 8, 1, 0] rfl ?_
            refine h_R_readBlocks_103 hst F x0 x1 x2 x3 x4 x5 x6 y3 _ (fun w14 => ?_) F x6 w10
            refine ga_aload_n (q := 0) d_R_readBlocks_141 rfl rfl ?_
            refine ga_getR (C := "LevelStoreModel") (T := T_R) (N := 39) (k := 1) (ci := 6) (fun x h => List.mem_cons_of_mem _ (iw_R x h)) rfl (by decide) (List.mem_cons_of_mem _ gw_762) d_R_readBlocks_142 (fun r15 => ?_)
            refine ga_iload (q := 7) d_R_readBlocks_145 rfl ?_
            refine ga_ldI (t := 0) rfl d_R_readBlocks_147 (fun v16 => ?_)
            refine ga_iload_n (q := 2) d_R_readBlocks_148 rfl rfl ?_
            refine ga_icmp_le (tgt := 154) d_R_readBlocks_149 (by decide) (fun h17 => ?_) (fun h17 => ?_)
            · refine ga_iinc (q := 6) (v := (x6 + (4 : Int32))) (lv2 := [(6, .int (x6 + (4 : Int32))), (0, .ref x0), (1, .int x1), (2, .int x2), (3, .int x3), (4, .int x4), (5, .int x5), (7, .int y3)]) d_R_readBlocks_154 rfl rfl (by decide) rfl ?_
              refine ga_goto (tgt := 22) d_R_readBlocks_157 (by decide) ?_
              refine ga_sub (lv2 := [(0, .ref x0), (1, .int x1), (2, .int x2), (3, .int x3), (4, .int x4), (5, .int x5), (6, .int (x6 + (4 : Int32)))]) [1, 2, 3, 4, 5, 6, 0] rfl ?_
              exact ih _ _
            · refine ga_iconst (v := (-1 : Int32)) d_R_readBlocks_152 (by decide) ?_
              exact ga_iret rfl d_R_readBlocks_153
          · refine ga_bipush (v := (-2 : Int32)) d_R_readBlocks_96 (by decide) ?_
            exact ga_iret rfl d_R_readBlocks_98
        · refine ga_goto (tgt := 154) d_R_readBlocks_62 (by decide) ?_
          refine ga_iinc (q := 7) (v := (x6 + (4 : Int32))) (lv2 := [(6, .int (x6 + (4 : Int32))), (7, .int y3), (0, .ref x0), (1, .int x1), (2, .int x2), (3, .int x3), (4, .int x4), (5, .int x5)]) d_R_readBlocks_154 rfl rfl (by decide) rfl ?_
          refine ga_goto (tgt := 22) d_R_readBlocks_157 (by decide) ?_
          refine ga_sub (lv2 := [(0, .ref x0), (1, .int x1), (2, .int x2), (3, .int x3), (4, .int x4), (5, .int x5), (6, .int (x6 + (4 : Int32)))]) [2, 3, 4, 5, 6, 7, 0] rfl ?_
          exact ih _ _
      · refine ga_icmp_ge (tgt := 45) d_R_readBlocks_35 (by decide) (fun h18 => ?_) (fun h18 => ?_)
        · refine ga_iload (q := 5) d_R_readBlocks_45 rfl ?_
          refine ga_iconst (v := (1 : Int32)) d_R_readBlocks_47 (by decide) ?_
          refine ga_isub d_R_readBlocks_48 ?_
          exact hK5 _ _
        · refine ga_iload (q := 6) d_R_readBlocks_38 rfl ?_
          refine ga_iconst (v := (3 : Int32)) d_R_readBlocks_40 (by decide) ?_
          refine ga_iadd d_R_readBlocks_41 ?_
          refine ga_goto (tgt := 49) d_R_readBlocks_42 (by decide) ?_
          exact hK5 _ _
set_option maxHeartbeats 4000000 in
set_option maxRecDepth 100000 in
theorem m_R_readBlocks (hst : l.stackTraces = false) (F : Nat) (p0 : Nat) (p1 : Int32) (p2 : Int32) (p3 : Int32) (w : ga_W) : ga_M l S0 D gz_cl (gz_tA cT) base b gz_xn y_R_readBlocks ws_R_readBlocks 1 23 true [.ref p0, .int p1, .int p2, .int p3] w (f_R_readBlocks F p0 p1 p2 p3 w) := by
  refine ga_enter (cc := c_R_readBlocks) (maxL := 9) (ret := (some .int)) hst (by decide) rfl (Nat.le_of_ble_eq_true rfl) ?_
  intro p e R s m args below meth c ad0
  refine ga_sub (lv2 := [(0, .ref p0), (1, .int p1), (2, .int p2), (3, .int p3)]) [0, 1, 2, 3] rfl ?_
  unfold f_R_readBlocks
  refine ga_aload_n (q := 0) d_R_readBlocks_0 rfl rfl ?_
  refine ga_iload_n (q := 1) d_R_readBlocks_1 rfl rfl ?_
  refine ga_invV (nA := 1) (ci := 6) (T := T_R) (N := 39) (av := [.int p1]) (a := p0) (st := []) (m_R_start hst F p0 p1 w) (Or.inl rfl) (gz_gV gw_931 gw_933 gw_28 gw_58 gw_934) rfl ⟨rfl, by decide +kernel⟩ rfl (by decide) (by decide) (Nat.le_of_ble_eq_true rfl) rfl d_R_readBlocks_2 (ga_vI (fun v2 w1 => ?_)) (fun _ _ => ga_thru rfl)
  refine ga_istore (lv2 := [(4, .int v2), (0, .ref p0), (1, .int p1), (2, .int p2), (3, .int p3)]) d_R_readBlocks_5 (by decide) rfl ?_
  refine ga_iload (q := 0) d_R_readBlocks_7 rfl ?_
  refine ga_aload_n (q := 1) d_R_readBlocks_9 rfl rfl ?_
  refine ga_getR (C := "LevelStoreModel") (T := T_R) (N := 39) (k := 8) (ci := 6) (fun x h => List.mem_cons_of_mem _ (iw_R x h)) rfl (by decide) (List.mem_cons_of_mem _ gw_769) d_R_readBlocks_10 (fun r3 => ?_)
  refine ga_iload_n (q := 2) d_R_readBlocks_13 rfl rfl ?_
  refine ga_ldI (t := 0) rfl d_R_readBlocks_14 (fun v4 => ?_)
  refine ga_iadd d_R_readBlocks_15 ?_
  refine ga_istore (lv2 := [(5, .int (v2 + v4)), (4, .int v2), (0, .ref p0), (1, .int p1), (2, .int p2), (3, .int p3)]) d_R_readBlocks_16 (by decide) rfl ?_
  refine ga_iload (q := 1) d_R_readBlocks_18 rfl ?_
  refine ga_istore (lv2 := [(6, .int v2), (5, .int (v2 + v4)), (4, .int v2), (0, .ref p0), (1, .int p1), (2, .int p2), (3, .int p3)]) d_R_readBlocks_20 (by decide) rfl ?_
  refine ga_sub (lv2 := [(0, .ref p0), (1, .int p1), (2, .int p2), (3, .int p3), (4, .int v2), (5, .int (v2 + v4)), (6, .int v2)]) [3, 4, 5, 6, 2, 1, 0] rfl ?_
  exact h_R_readBlocks_22 hst F p0 p1 p2 p3 v2 (v2 + v4) F v2 w1
noncomputable def f_R_look_13 (F : Nat) (x0 : Nat) (x1 : Int32) (x2 : Int32) : Nat → Int32 → ga_W → ga_O
  | 0, _, _ => none
  | n + 1, x3, w => ((ga_gi w 6 10 x0).bind fun v1 => (if v1 ≤ x3 then (some (.inl none, w)) else ((ga_gi w 6 38 x0).bind fun v3 => (if v3 = (-1 : Int32) then (if ga_is w 6 x0 = true then ga_c (f_R_low F x0 x3 w) (ga_kI fun v6 w5 => (if x1 < v6 then (f_R_look_13 F x0 x1 x2 n (x3 + (1 : Int32)) w5) else (if ga_is w5 6 x0 = true then ga_c (f_R_high F x0 x3 w5) (ga_kI fun v9 w8 => (if x1 ≤ v9 then (if ga_is w8 6 x0 = true then ga_c (f_R_passes F x0 x3 x1 w8) (ga_kI fun v12 w11 => (if v12 = 0 then ((ga_gi w11 6 28 x0).bind fun v14 => ((ga_put w11 6 28 x0 (.int (v14 + (1 : Int32)))).bind fun w15 => (f_R_look_13 F x0 x1 x2 n (x3 + (1 : Int32)) w15))) else (if ga_is w11 6 x0 = true then ga_c (f_R_readBlocks F x0 x3 x1 x2 w11) (ga_kI fun v17 w16 => ((ga_put w16 6 38 x0 (.int v17)).bind fun w18 => (f_R_look_13 F x0 x1 x2 n (x3 + (1 : Int32)) w18))) ga_up else none))) ga_up else none) else (f_R_look_13 F x0 x1 x2 n (x3 + (1 : Int32)) w8))) ga_up else none))) ga_up else none) else (some (.inl none, w))))))
noncomputable def f_R_look (F : Nat) (p0 : Nat) (p1 : Int32) (p2 : Int32) (w : ga_W) : ga_O :=
  ((ga_put w 6 38 p0 (.int (-1 : Int32))).bind fun w1 => (if ga_is w1 6 p0 = true then ga_c (f_R_lookInMemory F p0 p1 p2 w1) (ga_kV fun w2 => (f_R_look_13 F p0 p1 p2 F (0 : Int32) w2)) ga_up else none))
set_option maxHeartbeats 4000000 in
set_option maxRecDepth 100000 in
theorem h_R_look_13 (hst : l.stackTraces = false) (F : Nat) (x0 : Nat) (x1 : Int32) (x2 : Int32) : ∀ (n : Nat) (x3 : Int32) (w : ga_W), ga_J l S0 D gz_cl (gz_tA cT) base b gz_xn p e R s m args below meth c 4 ws_R_look y_R_look.cls c_R_look none [] y_R_look.name 2 51 true ad0 w0 (ga_MQ gz_xn D gz_cl (gz_tA cT) base b s args below ad0 w0) 13 [(0, .ref x0), (1, .int x1), (2, .int x2), (3, .int x3)] [] w (f_R_look_13 F x0 x1 x2 n x3 w) := by
  intro n
  induction n with
  | zero => intro x3 w; exact ga_no
  | succ n ih =>
    intro x3 w
    rw [f_R_look_13]
    refine ga_iload_n (q := 3) d_R_look_13 rfl rfl ?_
    refine ga_aload_n (q := 0) d_R_look_14 rfl rfl ?_
    refine ga_getI (C := "LevelStoreModel") (T := T_R) (N := 39) (k := 10) (ci := 6) (fun x h => List.mem_cons_of_mem _ (iw_R x h)) rfl (by decide) (List.mem_cons_of_mem _ gw_771) d_R_look_15 (fun v1 => ?_)
    refine ga_icmp_ge (tgt := 89) d_R_look_18 (by decide) (fun h2 => ?_) (fun h2 => ?_)
    · exact ga_vret rfl d_R_look_89
    · refine ga_aload_n (q := 0) d_R_look_21 rfl rfl ?_
      refine ga_getI (C := "LevelStoreModel") (T := T_R) (N := 39) (k := 38) (ci := 6) (fun x h => List.mem_cons_of_mem _ (iw_R x h)) rfl (by decide) (List.mem_cons_of_mem _ gw_799) d_R_look_22 (fun v3 => ?_)
      refine ga_iconst (v := (-1 : Int32)) d_R_look_25 (by decide) ?_
      refine ga_icmp_ne (tgt := 89) d_R_look_26 (by decide) (fun h4 => ?_) (fun h4 => ?_)
      · refine ga_aload_n (q := 0) d_R_look_29 rfl rfl ?_
        refine ga_iload_n (q := 3) d_R_look_30 rfl rfl ?_
        refine ga_invV (nA := 1) (ci := 6) (T := T_R) (N := 39) (av := [.int x3]) (a := x0) (st := []) (m_R_low hst F x0 x3 w) (Or.inl rfl) (gz_gV gw_951 gw_953 gw_33 gw_58 gw_954) rfl ⟨rfl, by decide +kernel⟩ rfl (by decide) (by decide) (Nat.le_of_ble_eq_true rfl) rfl d_R_look_31 (ga_vI (fun v6 w5 => ?_)) (fun _ _ => ga_thru rfl)
        refine ga_iload_n (q := 1) d_R_look_34 rfl rfl ?_
        refine ga_icmp_gt (tgt := 83) d_R_look_35 (by decide) (fun h7 => ?_) (fun h7 => ?_)
        · refine ga_iinc (q := 3) (v := (x3 + (1 : Int32))) (lv2 := [(3, .int (x3 + (1 : Int32))), (0, .ref x0), (1, .int x1), (2, .int x2)]) d_R_look_83 rfl rfl (by decide) rfl ?_
          refine ga_goto (tgt := 13) d_R_look_86 (by decide) ?_
          refine ga_sub (lv2 := [(0, .ref x0), (1, .int x1), (2, .int x2), (3, .int (x3 + (1 : Int32)))]) [1, 2, 3, 0] rfl ?_
          exact ih _ _
        · refine ga_aload_n (q := 0) d_R_look_38 rfl rfl ?_
          refine ga_iload_n (q := 3) d_R_look_39 rfl rfl ?_
          refine ga_invV (nA := 1) (ci := 6) (T := T_R) (N := 39) (av := [.int x3]) (a := x0) (st := []) (m_R_high hst F x0 x3 w5) (Or.inl rfl) (gz_gV gw_955 gw_957 gw_34 gw_58 gw_958) rfl ⟨rfl, by decide +kernel⟩ rfl (by decide) (by decide) (Nat.le_of_ble_eq_true rfl) rfl d_R_look_40 (ga_vI (fun v9 w8 => ?_)) (fun _ _ => ga_thru rfl)
          refine ga_iload_n (q := 1) d_R_look_43 rfl rfl ?_
          refine ga_icmp_ge (tgt := 50) d_R_look_44 (by decide) (fun h10 => ?_) (fun h10 => ?_)
          · refine ga_aload_n (q := 0) d_R_look_50 rfl rfl ?_
            refine ga_iload_n (q := 3) d_R_look_51 rfl rfl ?_
            refine ga_iload_n (q := 1) d_R_look_52 rfl rfl ?_
            refine ga_invV (nA := 2) (ci := 6) (T := T_R) (N := 39) (av := [.int x3, .int x1]) (a := x0) (st := []) (m_R_passes hst F x0 x3 x1 w8) (Or.inl rfl) (gz_gV gw_1023 gw_1025 gw_44 gw_58 gw_1026) rfl ⟨rfl, by decide +kernel⟩ rfl (by decide) (by decide) (Nat.le_of_ble_eq_true rfl) rfl d_R_look_53 (ga_vI (fun v12 w11 => ?_)) (fun _ _ => ga_thru rfl)
            refine ga_if_eq (tgt := 73) d_R_look_56 (by decide) (fun h13 => ?_) (fun h13 => ?_)
            · refine ga_aload_n (q := 0) d_R_look_73 rfl rfl ?_
              refine ga_dup d_R_look_74 rfl ?_
              refine ga_getI (C := "LevelStoreModel") (T := T_R) (N := 39) (k := 28) (ci := 6) (fun x h => List.mem_cons_of_mem _ (iw_R x h)) rfl (by decide) (List.mem_cons_of_mem _ gw_789) d_R_look_75 (fun v14 => ?_)
              refine ga_iconst (v := (1 : Int32)) d_R_look_78 (by decide) ?_
              refine ga_iadd d_R_look_79 ?_
              refine ga_putB (C := "LevelStoreModel") (T := T_R) (N := 39) (k := 28) (ci := 6) (ty0 := ty_R) (fun x h => List.mem_cons_of_mem _ (iw_R x h)) ty_R_ok nm_R rfl (by decide) (List.mem_cons_of_mem _ gw_789) (Or.inl rfl) (fun _ => ⟨rfl, rfl⟩) d_R_look_80 (fun w15 => ?_)
              refine ga_iinc (q := 3) (v := (x3 + (1 : Int32))) (lv2 := [(3, .int (x3 + (1 : Int32))), (0, .ref x0), (1, .int x1), (2, .int x2)]) d_R_look_83 rfl rfl (by decide) rfl ?_
              refine ga_goto (tgt := 13) d_R_look_86 (by decide) ?_
              refine ga_sub (lv2 := [(0, .ref x0), (1, .int x1), (2, .int x2), (3, .int (x3 + (1 : Int32)))]) [1, 2, 3, 0] rfl ?_
              exact ih _ _
            · refine ga_aload_n (q := 0) d_R_look_59 rfl rfl ?_
              refine ga_aload_n (q := 0) d_R_look_60 rfl rfl ?_
              refine ga_iload_n (q := 3) d_R_look_61 rfl rfl ?_
              refine ga_iload_n (q := 1) d_R_look_62 rfl rfl ?_
              refine ga_iload_n (q := 2) d_R_look_63 rfl rfl ?_
              refine ga_invV (nA := 3) (ci := 6) (T := T_R) (N := 39) (av := [.int x3, .int x1, .int x2]) (a := x0) (st := [.ref x0]) (m_R_readBlocks hst F x0 x3 x1 x2 w11) (Or.inl rfl) (gz_gV gw_1033 gw_1035 gw_45 gw_58 gw_1036) rfl ⟨rfl, by decide +kernel⟩ rfl (by decide) (by decide) (Nat.le_of_ble_eq_true rfl) rfl d_R_look_64 (ga_vI (fun v17 w16 => ?_)) (fun _ _ => ga_thru rfl)
              refine ga_putB (C := "LevelStoreModel") (T := T_R) (N := 39) (k := 38) (ci := 6) (ty0 := ty_R) (fun x h => List.mem_cons_of_mem _ (iw_R x h)) ty_R_ok nm_R rfl (by decide) (List.mem_cons_of_mem _ gw_799) (Or.inl rfl) (fun _ => ⟨rfl, rfl⟩) d_R_look_67 (fun w18 => ?_)
              refine ga_goto (tgt := 83) d_R_look_70 (by decide) ?_
              refine ga_iinc (q := 3) (v := (x3 + (1 : Int32))) (lv2 := [(3, .int (x3 + (1 : Int32))), (0, .ref x0), (1, .int x1), (2, .int x2)]) d_R_look_83 rfl rfl (by decide) rfl ?_
              refine ga_goto (tgt := 13) d_R_look_86 (by decide) ?_
              refine ga_sub (lv2 := [(0, .ref x0), (1, .int x1), (2, .int x2), (3, .int (x3 + (1 : Int32)))]) [1, 2, 3, 0] rfl ?_
              exact ih _ _
          · refine ga_goto (tgt := 83) d_R_look_47 (by decide) ?_
            refine ga_iinc (q := 3) (v := (x3 + (1 : Int32))) (lv2 := [(3, .int (x3 + (1 : Int32))), (0, .ref x0), (1, .int x1), (2, .int x2)]) d_R_look_83 rfl rfl (by decide) rfl ?_
            refine ga_goto (tgt := 13) d_R_look_86 (by decide) ?_
            refine ga_sub (lv2 := [(0, .ref x0), (1, .int x1), (2, .int x2), (3, .int (x3 + (1 : Int32)))]) [1, 2, 3, 0] rfl ?_
            exact ih _ _
      · exact ga_vret rfl d_R_look_89
set_option maxHeartbeats 4000000 in
set_option maxRecDepth 100000 in
theorem m_R_look (hst : l.stackTraces = false) (F : Nat) (p0 : Nat) (p1 : Int32) (p2 : Int32) (w : ga_W) : ga_M l S0 D gz_cl (gz_tA cT) base b gz_xn y_R_look ws_R_look 2 51 true [.ref p0, .int p1, .int p2] w (f_R_look F p0 p1 p2 w) := by
  refine ga_enter (cc := c_R_look) (maxL := 4) (ret := none) hst (by decide) rfl (Nat.le_of_ble_eq_true rfl) ?_
  intro p e R s m args below meth c ad0
  refine ga_sub (lv2 := [(0, .ref p0), (1, .int p1), (2, .int p2)]) [0, 1, 2] rfl ?_
  unfold f_R_look
  refine ga_aload_n (q := 0) d_R_look_0 rfl rfl ?_
  refine ga_iconst (v := (-1 : Int32)) d_R_look_1 (by decide) ?_
  refine ga_putB (C := "LevelStoreModel") (T := T_R) (N := 39) (k := 38) (ci := 6) (ty0 := ty_R) (fun x h => List.mem_cons_of_mem _ (iw_R x h)) ty_R_ok nm_R rfl (by decide) (List.mem_cons_of_mem _ gw_799) (Or.inl rfl) (fun _ => ⟨rfl, rfl⟩) d_R_look_2 (fun w1 => ?_)
  refine ga_aload_n (q := 0) d_R_look_5 rfl rfl ?_
  refine ga_iload_n (q := 1) d_R_look_6 rfl rfl ?_
  refine ga_iload_n (q := 2) d_R_look_7 rfl rfl ?_
  refine ga_invV (nA := 2) (ci := 6) (T := T_R) (N := 39) (av := [.int p1, .int p2]) (a := p0) (st := []) (m_R_lookInMemory hst F p0 p1 p2 w1) (Or.inl rfl) (gz_gV gw_1019 gw_1021 gw_43 gw_58 gw_1022) rfl ⟨rfl, by decide +kernel⟩ rfl (by decide) (by decide) (Nat.le_of_ble_eq_true rfl) rfl d_R_look_8 (ga_vV (fun w2 => ?_)) (fun _ _ => ga_thru rfl)
  refine ga_iconst (v := (0 : Int32)) d_R_look_11 (by decide) ?_
  refine ga_istore_n (lv2 := [(3, .int (0 : Int32)), (0, .ref p0), (1, .int p1), (2, .int p2)]) d_R_look_12 rfl (by decide) rfl ?_
  refine ga_sub (lv2 := [(0, .ref p0), (1, .int p1), (2, .int p2), (3, .int (0 : Int32))]) [1, 2, 3, 0] rfl ?_
  exact h_R_look_13 hst F p0 p1 p2 F (0 : Int32) w2
noncomputable def f_R_foundGone (F : Nat) (p0 : Nat) (w : ga_W) : ga_O :=
  ((ga_gi w 6 38 p0).bind fun v1 => (if v1 < 0 then (some (.inl (some (.int (1 : Int32))), w)) else ((ga_gi w 6 38 p0).bind fun v3 => (if (1000 : Int32) ≤ v3 then ((ga_gr w 6 14 p0).bind fun r5 => ((ga_gi w 6 38 p0).bind fun v6 => ((ga_az w 1 r5 (v6 - (1000 : Int32))).bind fun v7 => (if v7 = 0 then (some (.inl (some (.int (0 : Int32))), w)) else (some (.inl (some (.int (1 : Int32))), w)))))) else ((ga_gr w 6 4 p0).bind fun r9 => ((ga_gi w 6 38 p0).bind fun v10 => ((ga_az w 1 r9 v10).bind fun v11 => (if v11 = 0 then (some (.inl (some (.int (0 : Int32))), w)) else (some (.inl (some (.int (1 : Int32))), w))))))))))
set_option maxHeartbeats 4000000 in
set_option maxRecDepth 100000 in
theorem m_R_foundGone (hst : l.stackTraces = false) (F : Nat) (p0 : Nat) (w : ga_W) : ga_M l S0 D gz_cl (gz_tA cT) base b gz_xn y_R_foundGone ws_R_foundGone 0 0 true [.ref p0] w (f_R_foundGone F p0 w) := by
  refine ga_enter (cc := c_R_foundGone) (maxL := 1) (ret := (some .boolean)) hst (by decide) rfl (Nat.le_of_ble_eq_true rfl) ?_
  intro p e R s m args below meth c ad0
  refine ga_sub (lv2 := [(0, .ref p0)]) [0] rfl ?_
  unfold f_R_foundGone
  refine ga_aload_n (q := 0) d_R_foundGone_0 rfl rfl ?_
  refine ga_getI (C := "LevelStoreModel") (T := T_R) (N := 39) (k := 38) (ci := 6) (fun x h => List.mem_cons_of_mem _ (iw_R x h)) rfl (by decide) (List.mem_cons_of_mem _ gw_799) d_R_foundGone_1 (fun v1 => ?_)
  refine ga_if_lt (tgt := 48) d_R_foundGone_4 (by decide) (fun h2 => ?_) (fun h2 => ?_)
  · refine ga_iconst (v := (1 : Int32)) d_R_foundGone_48 (by decide) ?_
    refine ga_goto (tgt := 53) d_R_foundGone_49 (by decide) ?_
    exact ga_zret rfl rfl d_R_foundGone_53
  · refine ga_aload_n (q := 0) d_R_foundGone_7 rfl rfl ?_
    refine ga_getI (C := "LevelStoreModel") (T := T_R) (N := 39) (k := 38) (ci := 6) (fun x h => List.mem_cons_of_mem _ (iw_R x h)) rfl (by decide) (List.mem_cons_of_mem _ gw_799) d_R_foundGone_8 (fun v3 => ?_)
    refine ga_sipush (v := (1000 : Int32)) d_R_foundGone_11 (by decide) ?_
    refine ga_icmp_ge (tgt := 32) d_R_foundGone_14 (by decide) (fun h4 => ?_) (fun h4 => ?_)
    · refine ga_aload_n (q := 0) d_R_foundGone_32 rfl rfl ?_
      refine ga_getR (C := "LevelStoreModel") (T := T_R) (N := 39) (k := 14) (ci := 6) (fun x h => List.mem_cons_of_mem _ (iw_R x h)) rfl (by decide) (List.mem_cons_of_mem _ gw_775) d_R_foundGone_33 (fun r5 => ?_)
      refine ga_aload_n (q := 0) d_R_foundGone_36 rfl rfl ?_
      refine ga_getI (C := "LevelStoreModel") (T := T_R) (N := 39) (k := 38) (ci := 6) (fun x h => List.mem_cons_of_mem _ (iw_R x h)) rfl (by decide) (List.mem_cons_of_mem _ gw_799) d_R_foundGone_37 (fun v6 => ?_)
      refine ga_sipush (v := (1000 : Int32)) d_R_foundGone_40 (by decide) ?_
      refine ga_isub d_R_foundGone_43 ?_
      refine ga_ldZ (t := 1) rfl d_R_foundGone_44 (fun v7 => ?_)
      refine ga_if_eq (tgt := 52) d_R_foundGone_45 (by decide) (fun h8 => ?_) (fun h8 => ?_)
      · refine ga_iconst (v := (0 : Int32)) d_R_foundGone_52 (by decide) ?_
        exact ga_zret rfl rfl d_R_foundGone_53
      · refine ga_iconst (v := (1 : Int32)) d_R_foundGone_48 (by decide) ?_
        refine ga_goto (tgt := 53) d_R_foundGone_49 (by decide) ?_
        exact ga_zret rfl rfl d_R_foundGone_53
    · refine ga_aload_n (q := 0) d_R_foundGone_17 rfl rfl ?_
      refine ga_getR (C := "LevelStoreModel") (T := T_R) (N := 39) (k := 4) (ci := 6) (fun x h => List.mem_cons_of_mem _ (iw_R x h)) rfl (by decide) (List.mem_cons_of_mem _ gw_765) d_R_foundGone_18 (fun r9 => ?_)
      refine ga_aload_n (q := 0) d_R_foundGone_21 rfl rfl ?_
      refine ga_getI (C := "LevelStoreModel") (T := T_R) (N := 39) (k := 38) (ci := 6) (fun x h => List.mem_cons_of_mem _ (iw_R x h)) rfl (by decide) (List.mem_cons_of_mem _ gw_799) d_R_foundGone_22 (fun v10 => ?_)
      refine ga_ldZ (t := 1) rfl d_R_foundGone_25 (fun v11 => ?_)
      refine ga_if_eq (tgt := 52) d_R_foundGone_26 (by decide) (fun h12 => ?_) (fun h12 => ?_)
      · refine ga_iconst (v := (0 : Int32)) d_R_foundGone_52 (by decide) ?_
        exact ga_zret rfl rfl d_R_foundGone_53
      · refine ga_goto (tgt := 48) d_R_foundGone_29 (by decide) ?_
        refine ga_iconst (v := (1 : Int32)) d_R_foundGone_48 (by decide) ?_
        refine ga_goto (tgt := 53) d_R_foundGone_49 (by decide) ?_
        exact ga_zret rfl rfl d_R_foundGone_53
end GM16
