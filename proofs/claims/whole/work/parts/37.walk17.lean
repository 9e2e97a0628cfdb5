/-! WALKS: R_get, R_lookThrough, R_next, R_snapshot, R_release, R_blockSize, R_spoil -/
section GM17
variable {l : Launch} {S0 : State} {D : va_G} {cT : Nat → ClassId} {base b : Nat} {p : Program} {e : Env} {R : Room} {s : State} {m : MethodId} {args : Array Value} {below : List Frame} {meth : Method} {c : Code} {ad0 : Nat → Nat} {w0 : ga_W}
noncomputable def f_R_get (F : Nat) (p0 : Nat) (p1 : Int32) (p2 : Int32) (w : ga_W) : ga_O :=
  ((ga_put w 6 0 p0 (.int (0 : Int32))).bind fun w1 => (ga_c (f_R_in F p1 (0 : Int32) (63 : Int32) w1) (ga_kI fun v3 w2 => (if v3 = 0 then (if ga_is w2 6 p0 = true then ga_c (f_R_raise F p0 (1 : Int32) w2) (ga_kI fun v6 w5 => (some (.inl (some (.int v6)), w5))) ga_up else none) else (ga_c (f_R_in F p2 (-1 : Int32) (3 : Int32) w2) (ga_kI fun v8 w7 => (if v8 = 0 then (if ga_is w7 6 p0 = true then ga_c (f_R_raise F p0 (1 : Int32) w7) (ga_kI fun v11 w10 => (some (.inl (some (.int v11)), w10))) ga_up else none) else (ga_jn (fun  (w18 : ga_W) => ((ga_gi w18 6 29 p0).bind fun v20 => ((ga_put w18 6 29 p0 (.int (v20 + (1 : Int32)))).bind fun w21 => (if ga_is w21 6 p0 = true then ga_c (f_R_upTo F p0 p2 w21) (ga_kI fun v23 w22 => (if ga_is w22 6 p0 = true then ga_c (f_R_look F p0 p1 v23 w22) (ga_kV fun w24 => ((ga_gi w24 6 38 p0).bind fun v25 => (if v25 = (-2 : Int32) then (if ga_is w24 6 p0 = true then ga_c (f_R_raise F p0 (2 : Int32) w24) (ga_kI fun v28 w27 => (some (.inl (some (.int v28)), w27))) ga_up else none) else (if ga_is w24 6 p0 = true then ga_c (f_R_foundGone F p0 w24) (ga_kI fun v30 w29 => (if v30 = 0 then ((ga_gi w29 6 38 p0).bind fun v32 => (if (1000 : Int32) ≤ v32 then ((ga_gr w29 6 13 p0).bind fun r34 => ((ga_gi w29 6 38 p0).bind fun v35 => ((ga_ai w29 0 r34 (v35 - (1000 : Int32))).bind fun v36 => (some (.inl (some (.int v36)), w29))))) else ((ga_gr w29 6 3 p0).bind fun r37 => ((ga_gi w29 6 38 p0).bind fun v38 => ((ga_ai w29 0 r37 v38).bind fun v39 => (some (.inl (some (.int v39)), w29))))))) else (if ga_is w29 6 p0 = true then ga_c (f_R_raise F p0 (4 : Int32) w29) (ga_kI fun v41 w40 => (some (.inl (some (.int v41)), w40))) ga_up else none))) ga_up else none)))) ga_up else none)) ga_up else none)))) (fun K19 => (if p2 < 0 then (K19 w7) else ((ga_gr w7 6 23 p0).bind fun r43 => ((ga_ai w7 0 r43 p2).bind fun v44 => (if 0 ≤ v44 then (K19 w7) else (if ga_is w7 6 p0 = true then ga_c (f_R_raise F p0 (3 : Int32) w7) (ga_kI fun v47 w46 => (some (.inl (some (.int v47)), w46))) ga_up else none))))))))) ga_up))) ga_up))
set_option maxHeartbeats 4000000 in
set_option maxRecDepth 100000 in
theorem m_R_get (hst : l.stackTraces = false) (F : Nat) (p0 : Nat) (p1 : Int32) (p2 : Int32) (w : ga_W) : ga_M l S0 D gz_cl (gz_tA cT) base b gz_xn y_R_get ws_R_get 3 74 true [.ref p0, .int p1, .int p2] w (f_R_get F p0 p1 p2 w) := by
  refine ga_enter (cc := c_R_get) (maxL := 3) (ret := (some .int)) hst (by decide) rfl (Nat.le_of_ble_eq_true rfl) ?_
  intro p e R s m args below meth c ad0
  refine ga_sub (lv2 := [(0, .ref p0), (1, .int p1), (2, .int p2)]) [0, 1, 2] rfl ?_
  unfold f_R_get
  refine ga_aload_n (q := 0) d_R_get_0 rfl rfl ?_
  refine ga_iconst (v := (0 : Int32)) d_R_get_1 (by decide) ?_
  refine ga_putB (C := "LevelStoreModel") (T := T_R) (N := 39) (k := 0) (ci := 6) (ty0 := ty_R) (fun x h => List.mem_cons_of_mem _ (iw_R x h)) ty_R_ok nm_R rfl (by decide) (List.mem_cons_of_mem _ gw_761) (Or.inl rfl) (fun _ => ⟨rfl, rfl⟩) d_R_get_2 (fun w1 => ?_)
  refine ga_iload_n (q := 1) d_R_get_5 rfl rfl ?_
  refine ga_iconst (v := (0 : Int32)) d_R_get_6 (by decide) ?_
  refine ga_bipush (v := (63 : Int32)) d_R_get_7 (by decide) ?_
  refine ga_invS (nA := 3) (av := [.int p1, .int (0 : Int32), .int (63 : Int32)]) (st := []) (m_R_in hst F p1 (0 : Int32) (63 : Int32) w1) (Or.inl rfl) (gz_gS gw_892 gw_893 gw_58 gw_894) rfl (by decide +kernel) rfl (by decide) (by decide) (Nat.le_of_ble_eq_true rfl) d_R_get_9 (ga_vI (fun v3 w2 => ?_)) (fun _ _ => ga_thru rfl)
  refine ga_if_eq (tgt := 24) d_R_get_12 (by decide) (fun h4 => ?_) (fun h4 => ?_)
  · refine ga_aload_n (q := 0) d_R_get_24 rfl rfl ?_
    refine ga_iconst (v := (1 : Int32)) d_R_get_25 (by decide) ?_
    refine ga_invV (nA := 1) (ci := 6) (T := T_R) (N := 39) (av := [.int (1 : Int32)]) (a := p0) (st := []) (m_R_raise hst F p0 (1 : Int32) w2) (Or.inl rfl) (gz_gV gw_895 gw_897 gw_19 gw_58 gw_898) rfl ⟨rfl, by decide +kernel⟩ rfl (by decide) (by decide) (Nat.le_of_ble_eq_true rfl) rfl d_R_get_26 (ga_vI (fun v6 w5 => ?_)) (fun _ _ => ga_thru rfl)
    exact ga_iret rfl d_R_get_29
  · refine ga_iload_n (q := 2) d_R_get_15 rfl rfl ?_
    refine ga_iconst (v := (-1 : Int32)) d_R_get_16 (by decide) ?_
    refine ga_iconst (v := (3 : Int32)) d_R_get_17 (by decide) ?_
    refine ga_invS (nA := 3) (av := [.int p2, .int (-1 : Int32), .int (3 : Int32)]) (st := []) (m_R_in hst F p2 (-1 : Int32) (3 : Int32) w2) (Or.inl rfl) (gz_gS gw_892 gw_893 gw_58 gw_894) rfl (by decide +kernel) rfl (by decide) (by decide) (Nat.le_of_ble_eq_true rfl) d_R_get_18 (ga_vI (fun v8 w7 => ?_)) (fun _ _ => ga_thru rfl)
    refine ga_if_ne (tgt := 30) d_R_get_21 (by decide) (fun h9 => ?_) (fun h9 => ?_)
    · refine ga_aload_n (q := 0) d_R_get_24 rfl rfl ?_
      refine ga_iconst (v := (1 : Int32)) d_R_get_25 (by decide) ?_
      refine ga_invV (nA := 1) (ci := 6) (T := T_R) (N := 39) (av := [.int (1 : Int32)]) (a := p0) (st := []) (m_R_raise hst F p0 (1 : Int32) w7) (Or.inl rfl) (gz_gV gw_895 gw_897 gw_19 gw_58 gw_898) rfl ⟨rfl, by decide +kernel⟩ rfl (by decide) (by decide) (Nat.le_of_ble_eq_true rfl) rfl d_R_get_26 (ga_vI (fun v11 w10 => ?_)) (fun _ _ => ga_thru rfl)
      exact ga_iret rfl d_R_get_29
    · refine ga_iload_n (q := 2) d_R_get_30 rfl rfl ?_
      refine ga_join (fun (K19 : ga_W → ga_O) => ∀  (w18 : ga_W), ga_J l S0 D gz_cl (gz_tA cT) base b gz_xn p e R s m args below meth c 3 ws_R_get y_R_get.cls c_R_get (some .int) [] y_R_get.name 3 74 true ad0 w (ga_MQ gz_xn D gz_cl (gz_tA cT) base b s args below ad0 w) 49 [(0, .ref p0), (1, .int p1), (2, .int p2)] [] w18 (K19 w18)) (fun w18 => ?_) (fun K19 hK19 => ?_)
      · refine ga_aload_n (q := 0) d_R_get_49 rfl rfl ?_
        refine ga_dup d_R_get_50 rfl ?_
        refine ga_getI (C := "LevelStoreModel") (T := T_R) (N := 39) (k := 29) (ci := 6) (fun x h => List.mem_cons_of_mem _ (iw_R x h)) rfl (by decide) (List.mem_cons_of_mem _ gw_790) d_R_get_51 (fun v20 => ?_)
        refine ga_iconst (v := (1 : Int32)) d_R_get_54 (by decide) ?_
        refine ga_iadd d_R_get_55 ?_
        refine ga_putB (C := "LevelStoreModel") (T := T_R) (N := 39) (k := 29) (ci := 6) (ty0 := ty_R) (fun x h => List.mem_cons_of_mem _ (iw_R x h)) ty_R_ok nm_R rfl (by decide) (List.mem_cons_of_mem _ gw_790) (Or.inl rfl) (fun _ => ⟨rfl, rfl⟩) d_R_get_56 (fun w21 => ?_)
        refine ga_aload_n (q := 0) d_R_get_59 rfl rfl ?_
        refine ga_iload_n (q := 1) d_R_get_60 rfl rfl ?_
        refine ga_aload_n (q := 0) d_R_get_61 rfl rfl ?_
        refine ga_iload_n (q := 2) d_R_get_62 rfl rfl ?_
        refine ga_invV (nA := 1) (ci := 6) (T := T_R) (N := 39) (av := [.int p2]) (a := p0) (st := [.int p1, .ref p0]) (m_R_upTo hst F p0 p2 w21) (Or.inl rfl) (gz_gV gw_1011 gw_1013 gw_41 gw_58 gw_1014) rfl ⟨rfl, by decide +kernel⟩ rfl (by decide) (by decide) (Nat.le_of_ble_eq_true rfl) rfl d_R_get_63 (ga_vI (fun v23 w22 => ?_)) (fun _ _ => ga_thru rfl)
        refine ga_invV (nA := 2) (ci := 6) (T := T_R) (N := 39) (av := [.int p1, .int v23]) (a := p0) (st := []) (m_R_look hst F p0 p1 v23 w22) (Or.inl rfl) (gz_gV gw_1015 gw_1017 gw_42 gw_58 gw_1018) rfl ⟨rfl, by decide +kernel⟩ rfl (by decide) (by decide) (Nat.le_of_ble_eq_true rfl) rfl d_R_get_66 (ga_vV (fun w24 => ?_)) (fun _ _ => ga_thru rfl)
        refine ga_aload_n (q := 0) d_R_get_69 rfl rfl ?_
        refine ga_getI (C := "LevelStoreModel") (T := T_R) (N := 39) (k := 38) (ci := 6) (fun x h => List.mem_cons_of_mem _ (iw_R x h)) rfl (by decide) (List.mem_cons_of_mem _ gw_799) d_R_get_70 (fun v25 => ?_)
        refine ga_bipush (v := (-2 : Int32)) d_R_get_73 (by decide) ?_
        refine ga_icmp_ne (tgt := 84) d_R_get_75 (by decide) (fun h26 => ?_) (fun h26 => ?_)
        · refine ga_aload_n (q := 0) d_R_get_78 rfl rfl ?_
          refine ga_iconst (v := (2 : Int32)) d_R_get_79 (by decide) ?_
          refine ga_invV (nA := 1) (ci := 6) (T := T_R) (N := 39) (av := [.int (2 : Int32)]) (a := p0) (st := []) (m_R_raise hst F p0 (2 : Int32) w24) (Or.inl rfl) (gz_gV gw_895 gw_897 gw_19 gw_58 gw_898) rfl ⟨rfl, by decide +kernel⟩ rfl (by decide) (by decide) (Nat.le_of_ble_eq_true rfl) rfl d_R_get_80 (ga_vI (fun v28 w27 => ?_)) (fun _ _ => ga_thru rfl)
          exact ga_iret rfl d_R_get_83
        · refine ga_aload_n (q := 0) d_R_get_84 rfl rfl ?_
          refine ga_invV (nA := 0) (ci := 6) (T := T_R) (N := 39) (av := []) (a := p0) (st := []) (m_R_foundGone hst F p0 w24) (Or.inl rfl) (gz_gV gw_1037 gw_1039 gw_46 gw_58 gw_1040) rfl ⟨rfl, by decide +kernel⟩ rfl (by decide) (by decide) (Nat.le_of_ble_eq_true rfl) rfl d_R_get_85 (ga_vI (fun v30 w29 => ?_)) (fun _ _ => ga_thru rfl)
          refine ga_if_eq (tgt := 97) d_R_get_88 (by decide) (fun h31 => ?_) (fun h31 => ?_)
          · refine ga_aload_n (q := 0) d_R_get_97 rfl rfl ?_
            refine ga_getI (C := "LevelStoreModel") (T := T_R) (N := 39) (k := 38) (ci := 6) (fun x h => List.mem_cons_of_mem _ (iw_R x h)) rfl (by decide) (List.mem_cons_of_mem _ gw_799) d_R_get_98 (fun v32 => ?_)
            refine ga_sipush (v := (1000 : Int32)) d_R_get_101 (by decide) ?_
            refine ga_icmp_ge (tgt := 119) d_R_get_104 (by decide) (fun h33 => ?_) (fun h33 => ?_)
            · refine ga_aload_n (q := 0) d_R_get_119 rfl rfl ?_
              refine ga_getR (C := "LevelStoreModel") (T := T_R) (N := 39) (k := 13) (ci := 6) (fun x h => List.mem_cons_of_mem _ (iw_R x h)) rfl (by decide) (List.mem_cons_of_mem _ gw_774) d_R_get_120 (fun r34 => ?_)
              refine ga_aload_n (q := 0) d_R_get_123 rfl rfl ?_
              refine ga_getI (C := "LevelStoreModel") (T := T_R) (N := 39) (k := 38) (ci := 6) (fun x h => List.mem_cons_of_mem _ (iw_R x h)) rfl (by decide) (List.mem_cons_of_mem _ gw_799) d_R_get_124 (fun v35 => ?_)
              refine ga_sipush (v := (1000 : Int32)) d_R_get_127 (by decide) ?_
              refine ga_isub d_R_get_130 ?_
              refine ga_ldI (t := 0) rfl d_R_get_131 (fun v36 => ?_)
              exact ga_iret rfl d_R_get_132
            · refine ga_aload_n (q := 0) d_R_get_107 rfl rfl ?_
              refine ga_getR (C := "LevelStoreModel") (T := T_R) (N := 39) (k := 3) (ci := 6) (fun x h => List.mem_cons_of_mem _ (iw_R x h)) rfl (by decide) (List.mem_cons_of_mem _ gw_764) d_R_get_108 (fun r37 => ?_)
              refine ga_aload_n (q := 0) d_R_get_111 rfl rfl ?_
              refine ga_getI (C := "LevelStoreModel") (T := T_R) (N := 39) (k := 38) (ci := 6) (fun x h => List.mem_cons_of_mem _ (iw_R x h)) rfl (by decide) (List.mem_cons_of_mem _ gw_799) d_R_get_112 (fun v38 => ?_)
              refine ga_ldI (t := 0) rfl d_R_get_115 (fun v39 => ?_)
              refine ga_goto (tgt := 132) d_R_get_116 (by decide) ?_
              exact ga_iret rfl d_R_get_132
          · refine ga_aload_n (q := 0) d_R_get_91 rfl rfl ?_
            refine ga_iconst (v := (4 : Int32)) d_R_get_92 (by decide) ?_
            refine ga_invV (nA := 1) (ci := 6) (T := T_R) (N := 39) (av := [.int (4 : Int32)]) (a := p0) (st := []) (m_R_raise hst F p0 (4 : Int32) w29) (Or.inl rfl) (gz_gV gw_895 gw_897 gw_19 gw_58 gw_898) rfl ⟨rfl, by decide +kernel⟩ rfl (by decide) (by decide) (Nat.le_of_ble_eq_true rfl) rfl d_R_get_93 (ga_vI (fun v41 w40 => ?_)) (fun _ _ => ga_thru rfl)
            exact ga_iret rfl d_R_get_96
      · refine ga_if_lt (tgt := 49) d_R_get_31 (by decide) (fun h42 => ?_) (fun h42 => ?_)
        · exact hK19 _
        · refine ga_aload_n (q := 0) d_R_get_34 rfl rfl ?_
          refine ga_getR (C := "LevelStoreModel") (T := T_R) (N := 39) (k := 23) (ci := 6) (fun x h => List.mem_cons_of_mem _ (iw_R x h)) rfl (by decide) (List.mem_cons_of_mem _ gw_784) d_R_get_35 (fun r43 => ?_)
          refine ga_iload_n (q := 2) d_R_get_38 rfl rfl ?_
          refine ga_ldI (t := 0) rfl d_R_get_39 (fun v44 => ?_)
          refine ga_if_ge (tgt := 49) d_R_get_40 (by decide) (fun h45 => ?_) (fun h45 => ?_)
          · exact hK19 _
          · refine ga_aload_n (q := 0) d_R_get_43 rfl rfl ?_
            refine ga_iconst (v := (3 : Int32)) d_R_get_44 (by decide) ?_
            refine ga_invV (nA := 1) (ci := 6) (T := T_R) (N := 39) (av := [.int (3 : Int32)]) (a := p0) (st := []) (m_R_raise hst F p0 (3 : Int32) w7) (Or.inl rfl) (gz_gV gw_895 gw_897 gw_19 gw_58 gw_898) rfl ⟨rfl, by decide +kernel⟩ rfl (by decide) (by decide) (Nat.le_of_ble_eq_true rfl) rfl d_R_get_45 (ga_vI (fun v47 w46 => ?_)) (fun _ _ => ga_thru rfl)
            exact ga_iret rfl d_R_get_48
noncomputable def f_R_lookThrough_13 (F : Nat) (x0 : Nat) (x1 : Int32) (x2 : Int32) : Nat → Int32 → ga_W → ga_O
  | 0, _, _ => none
  | n + 1, x3, w => ((ga_gi w 6 5 x0).bind fun v1 => (if v1 ≤ x3 then (some (.inl none, w)) else ((ga_gi w 6 38 x0).bind fun v3 => (if v3 = (-1 : Int32) then ((ga_gr w 6 1 x0).bind fun r5 => ((ga_ai w 0 r5 x3).bind fun v6 => (if v6 = x1 then ((ga_gr w 6 2 x0).bind fun r8 => ((ga_ai w 0 r8 x3).bind fun v9 => (if x2 < v9 then (f_R_lookThrough_13 F x0 x1 x2 n (x3 + (1 : Int32)) w) else ((ga_put w 6 38 x0 (.int x3)).bind fun w11 => (f_R_lookThrough_13 F x0 x1 x2 n (x3 + (1 : Int32)) w11))))) else (f_R_lookThrough_13 F x0 x1 x2 n (x3 + (1 : Int32)) w)))) else (some (.inl none, w))))))
noncomputable def f_R_lookThrough (F : Nat) (p0 : Nat) (p1 : Int32) (p2 : Int32) (w : ga_W) : ga_O :=
  ((ga_put w 6 38 p0 (.int (-1 : Int32))).bind fun w1 => (if ga_is w1 6 p0 = true then ga_c (f_R_lookInMemory F p0 p1 p2 w1) (ga_kV fun w2 => (f_R_lookThrough_13 F p0 p1 p2 F (0 : Int32) w2)) ga_up else none))
set_option maxHeartbeats 4000000 in
set_option maxRecDepth 100000 in
theorem h_R_lookThrough_13 (hst : l.stackTraces = false) (F : Nat) (x0 : Nat) (x1 : Int32) (x2 : Int32) : ∀ (n : Nat) (x3 : Int32) (w : ga_W), ga_J l S0 D gz_cl (gz_tA cT) base b gz_xn p e R s m args below meth c 4 ws_R_lookThrough y_R_lookThrough.cls c_R_lookThrough none [] y_R_lookThrough.name 1 23 true ad0 w0 (ga_MQ gz_xn D gz_cl (gz_tA cT) base b s args below ad0 w0) 13 [(0, .ref x0), (1, .int x1), (2, .int x2), (3, .int x3)] [] w (f_R_lookThrough_13 F x0 x1 x2 n x3 w) := by
  intro n
  induction n with
  | zero => intro x3 w; exact ga_no
  | succ n ih =>
    intro x3 w
    rw [f_R_lookThrough_13]
    refine ga_iload_n (q := 3) d_R_lookThrough_13 rfl rfl ?_
    refine ga_aload_n (q := 0) d_R_lookThrough_14 rfl rfl ?_
    refine ga_getI (C := "LevelStoreModel") (T := T_R) (N := 39) (k := 5) (ci := 6) (fun x h => List.mem_cons_of_mem _ (iw_R x h)) rfl (by decide) (List.mem_cons_of_mem _ gw_766) d_R_lookThrough_15 (fun v1 => ?_)
    refine ga_icmp_ge (tgt := 60) d_R_lookThrough_18 (by decide) (fun h2 => ?_) (fun h2 => ?_)
    · exact ga_vret rfl d_R_lookThrough_60
    · refine ga_aload_n (q := 0) d_R_lookThrough_21 rfl rfl ?_
      refine ga_getI (C := "LevelStoreModel") (T := T_R) (N := 39) (k := 38) (ci := 6) (fun x h => List.mem_cons_of_mem _ (iw_R x h)) rfl (by decide) (List.mem_cons_of_mem _ gw_799) d_R_lookThrough_22 (fun v3 => ?_)
      refine ga_iconst (v := (-1 : Int32)) d_R_lookThrough_25 (by decide) ?_
      refine ga_icmp_ne (tgt := 60) d_R_lookThrough_26 (by decide) (fun h4 => ?_) (fun h4 => ?_)
      · refine ga_aload_n (q := 0) d_R_lookThrough_29 rfl rfl ?_
        refine ga_getR (C := "LevelStoreModel") (T := T_R) (N := 39) (k := 1) (ci := 6) (fun x h => List.mem_cons_of_mem _ (iw_R x h)) rfl (by decide) (List.mem_cons_of_mem _ gw_762) d_R_lookThrough_30 (fun r5 => ?_)
        refine ga_iload_n (q := 3) d_R_lookThrough_33 rfl rfl ?_
        refine ga_ldI (t := 0) rfl d_R_lookThrough_34 (fun v6 => ?_)
        refine ga_iload_n (q := 1) d_R_lookThrough_35 rfl rfl ?_
        refine ga_icmp_ne (tgt := 54) d_R_lookThrough_36 (by decide) (fun h7 => ?_) (fun h7 => ?_)
        · refine ga_aload_n (q := 0) d_R_lookThrough_39 rfl rfl ?_
          refine ga_getR (C := "LevelStoreModel") (T := T_R) (N := 39) (k := 2) (ci := 6) (fun x h => List.mem_cons_of_mem _ (iw_R x h)) rfl (by decide) (List.mem_cons_of_mem _ gw_763) d_R_lookThrough_40 (fun r8 => ?_)
          refine ga_iload_n (q := 3) d_R_lookThrough_43 rfl rfl ?_
          refine ga_ldI (t := 0) rfl d_R_lookThrough_44 (fun v9 => ?_)
          refine ga_iload_n (q := 2) d_R_lookThrough_45 rfl rfl ?_
          refine ga_icmp_gt (tgt := 54) d_R_lookThrough_46 (by decide) (fun h10 => ?_) (fun h10 => ?_)
          · refine ga_iinc (q := 3) (v := (x3 + (1 : Int32))) (lv2 := [(3, .int (x3 + (1 : Int32))), (0, .ref x0), (1, .int x1), (2, .int x2)]) d_R_lookThrough_54 rfl rfl (by decide) rfl ?_
            refine ga_goto (tgt := 13) d_R_lookThrough_57 (by decide) ?_
            refine ga_sub (lv2 := [(0, .ref x0), (1, .int x1), (2, .int x2), (3, .int (x3 + (1 : Int32)))]) [1, 2, 3, 0] rfl ?_
            exact ih _ _
          · refine ga_aload_n (q := 0) d_R_lookThrough_49 rfl rfl ?_
            refine ga_iload_n (q := 3) d_R_lookThrough_50 rfl rfl ?_
            refine ga_putB (C := "LevelStoreModel") (T := T_R) (N := 39) (k := 38) (ci := 6) (ty0 := ty_R) (fun x h => List.mem_cons_of_mem _ (iw_R x h)) ty_R_ok nm_R rfl (by decide) (List.mem_cons_of_mem _ gw_799) (Or.inl rfl) (fun _ => ⟨rfl, rfl⟩) d_R_lookThrough_51 (fun w11 => ?_)
            refine ga_iinc (q := 3) (v := (x3 + (1 : Int32))) (lv2 := [(3, .int (x3 + (1 : Int32))), (0, .ref x0), (1, .int x1), (2, .int x2)]) d_R_lookThrough_54 rfl rfl (by decide) rfl ?_
            refine ga_goto (tgt := 13) d_R_lookThrough_57 (by decide) ?_
            refine ga_sub (lv2 := [(0, .ref x0), (1, .int x1), (2, .int x2), (3, .int (x3 + (1 : Int32)))]) [1, 2, 3, 0] rfl ?_
            exact ih _ _
        · refine ga_iinc (q := 3) (v := (x3 + (1 : Int32))) (lv2 := [(3, .int (x3 + (1 : Int32))), (0, .ref x0), (1, .int x1), (2, .int x2)]) d_R_lookThrough_54 rfl rfl (by decide) rfl ?_
          refine ga_goto (tgt := 13) d_R_lookThrough_57 (by decide) ?_
          refine ga_sub (lv2 := [(0, .ref x0), (1, .int x1), (2, .int x2), (3, .int (x3 + (1 : Int32)))]) [1, 2, 3, 0] rfl ?_
          exact ih _ _
      · exact ga_vret rfl d_R_lookThrough_60
set_option maxHeartbeats 4000000 in
set_option maxRecDepth 100000 in
theorem m_R_lookThrough (hst : l.stackTraces = false) (F : Nat) (p0 : Nat) (p1 : Int32) (p2 : Int32) (w : ga_W) : ga_M l S0 D gz_cl (gz_tA cT) base b gz_xn y_R_lookThrough ws_R_lookThrough 1 23 true [.ref p0, .int p1, .int p2] w (f_R_lookThrough F p0 p1 p2 w) := by
  refine ga_enter (cc := c_R_lookThrough) (maxL := 4) (ret := none) hst (by decide) rfl (Nat.le_of_ble_eq_true rfl) ?_
  intro p e R s m args below meth c ad0
  refine ga_sub (lv2 := [(0, .ref p0), (1, .int p1), (2, .int p2)]) [0, 1, 2] rfl ?_
  unfold f_R_lookThrough
  refine ga_aload_n (q := 0) d_R_lookThrough_0 rfl rfl ?_
  refine ga_iconst (v := (-1 : Int32)) d_R_lookThrough_1 (by decide) ?_
  refine ga_putB (C := "LevelStoreModel") (T := T_R) (N := 39) (k := 38) (ci := 6) (ty0 := ty_R) (fun x h => List.mem_cons_of_mem _ (iw_R x h)) ty_R_ok nm_R rfl (by decide) (List.mem_cons_of_mem _ gw_799) (Or.inl rfl) (fun _ => ⟨rfl, rfl⟩) d_R_lookThrough_2 (fun w1 => ?_)
  refine ga_aload_n (q := 0) d_R_lookThrough_5 rfl rfl ?_
  refine ga_iload_n (q := 1) d_R_lookThrough_6 rfl rfl ?_
  refine ga_iload_n (q := 2) d_R_lookThrough_7 rfl rfl ?_
  refine ga_invV (nA := 2) (ci := 6) (T := T_R) (N := 39) (av := [.int p1, .int p2]) (a := p0) (st := []) (m_R_lookInMemory hst F p0 p1 p2 w1) (Or.inl rfl) (gz_gV gw_1019 gw_1021 gw_43 gw_58 gw_1022) rfl ⟨rfl, by decide +kernel⟩ rfl (by decide) (by decide) (Nat.le_of_ble_eq_true rfl) rfl d_R_lookThrough_8 (ga_vV (fun w2 => ?_)) (fun _ _ => ga_thru rfl)
  refine ga_iconst (v := (0 : Int32)) d_R_lookThrough_11 (by decide) ?_
  refine ga_istore_n (lv2 := [(3, .int (0 : Int32)), (0, .ref p0), (1, .int p1), (2, .int p2)]) d_R_lookThrough_12 rfl (by decide) rfl ?_
  refine ga_sub (lv2 := [(0, .ref p0), (1, .int p1), (2, .int p2), (3, .int (0 : Int32))]) [1, 2, 3, 0] rfl ?_
  exact h_R_lookThrough_13 hst F p0 p1 p2 F (0 : Int32) w2
noncomputable def f_R_next_53 (F : Nat) (x0 : Nat) (x2 : Int32) : Nat → Int32 → ga_W → ga_O
  | 0, _, _ => none
  | n + 1, x3, w => (if (64 : Int32) ≤ x3 then (if ga_is w 6 x0 = true then ga_c (f_R_raise F x0 (3 : Int32) w) (ga_kI fun v3 w2 => (some (.inl (some (.int v3)), w2))) ga_up else none) else (if ga_is w 6 x0 = true then ga_c (f_R_upTo F x0 x2 w) (ga_kI fun v5 w4 => (if ga_is w4 6 x0 = true then ga_c (f_R_lookThrough F x0 x3 v5 w4) (ga_kV fun w6 => (if ga_is w6 6 x0 = true then ga_c (f_R_foundGone F x0 w6) (ga_kI fun v8 w7 => (if v8 = 0 then (some (.inl (some (.int x3)), w7)) else (f_R_next_53 F x0 x2 n (x3 + (1 : Int32)) w7))) ga_up else none)) ga_up else none)) ga_up else none))
noncomputable def f_R_next (F : Nat) (p0 : Nat) (p1 : Int32) (p2 : Int32) (w : ga_W) : ga_O :=
  ((ga_put w 6 0 p0 (.int (0 : Int32))).bind fun w1 => (ga_c (f_R_in F p1 (-1 : Int32) (63 : Int32) w1) (ga_kI fun v3 w2 => (if v3 = 0 then (if ga_is w2 6 p0 = true then ga_c (f_R_raise F p0 (1 : Int32) w2) (ga_kI fun v6 w5 => (some (.inl (some (.int v6)), w5))) ga_up else none) else (ga_c (f_R_in F p2 (-1 : Int32) (3 : Int32) w2) (ga_kI fun v8 w7 => (if v8 = 0 then (if ga_is w7 6 p0 = true then ga_c (f_R_raise F p0 (1 : Int32) w7) (ga_kI fun v11 w10 => (some (.inl (some (.int v11)), w10))) ga_up else none) else (ga_jn (fun  (w18 : ga_W) => (f_R_next_53 F p0 p2 F (p1 + (1 : Int32)) w18)) (fun K19 => (if p2 < 0 then (K19 w7) else ((ga_gr w7 6 23 p0).bind fun r21 => ((ga_ai w7 0 r21 p2).bind fun v22 => (if 0 ≤ v22 then (K19 w7) else (if ga_is w7 6 p0 = true then ga_c (f_R_raise F p0 (2 : Int32) w7) (ga_kI fun v25 w24 => (some (.inl (some (.int v25)), w24))) ga_up else none))))))))) ga_up))) ga_up))
set_option maxHeartbeats 4000000 in
set_option maxRecDepth 100000 in
theorem h_R_next_53 (hst : l.stackTraces = false) (F : Nat) (x0 : Nat) (x2 : Int32) : ∀ (n : Nat) (x3 : Int32) (w : ga_W), ga_J l S0 D gz_cl (gz_tA cT) base b gz_xn p e R s m args below meth c 4 ws_R_next y_R_next.cls c_R_next (some .int) [] y_R_next.name 2 46 true ad0 w0 (ga_MQ gz_xn D gz_cl (gz_tA cT) base b s args below ad0 w0) 53 [(0, .ref x0), (2, .int x2), (3, .int x3)] [] w (f_R_next_53 F x0 x2 n x3 w) := by
  intro n
  induction n with
  | zero => intro x3 w; exact ga_no
  | succ n ih =>
    intro x3 w
    rw [f_R_next_53]
    refine ga_iload_n (q := 2) d_R_next_53 rfl rfl ?_
    refine ga_bipush (v := (64 : Int32)) d_R_next_54 (by decide) ?_
    refine ga_icmp_ge (tgt := 84) d_R_next_56 (by decide) (fun h1 => ?_) (fun h1 => ?_)
    · refine ga_aload_n (q := 0) d_R_next_84 rfl rfl ?_
      refine ga_iconst (v := (3 : Int32)) d_R_next_85 (by decide) ?_
      refine ga_invV (nA := 1) (ci := 6) (T := T_R) (N := 39) (av := [.int (3 : Int32)]) (a := x0) (st := []) (m_R_raise hst F x0 (3 : Int32) w) (Or.inl rfl) (gz_gV gw_895 gw_897 gw_19 gw_58 gw_898) rfl ⟨rfl, by decide +kernel⟩ rfl (by decide) (by decide) (Nat.le_of_ble_eq_true rfl) rfl d_R_next_86 (ga_vI (fun v3 w2 => ?_)) (fun _ _ => ga_thru rfl)
      exact ga_iret rfl d_R_next_89
    · refine ga_aload_n (q := 0) d_R_next_59 rfl rfl ?_
      refine ga_iload_n (q := 2) d_R_next_60 rfl rfl ?_
      refine ga_aload_n (q := 0) d_R_next_61 rfl rfl ?_
      refine ga_iload_n (q := 1) d_R_next_62 rfl rfl ?_
      refine ga_invV (nA := 1) (ci := 6) (T := T_R) (N := 39) (av := [.int x2]) (a := x0) (st := [.int x3, .ref x0]) (m_R_upTo hst F x0 x2 w) (Or.inl rfl) (gz_gV gw_1011 gw_1013 gw_41 gw_58 gw_1014) rfl ⟨rfl, by decide +kernel⟩ rfl (by decide) (by decide) (Nat.le_of_ble_eq_true rfl) rfl d_R_next_63 (ga_vI (fun v5 w4 => ?_)) (fun _ _ => ga_thru rfl)
      refine ga_invV (nA := 2) (ci := 6) (T := T_R) (N := 39) (av := [.int x3, .int v5]) (a := x0) (st := []) (m_R_lookThrough hst F x0 x3 v5 w4) (Or.inl rfl) (gz_gV gw_1045 gw_1047 gw_47 gw_58 gw_1048) rfl ⟨rfl, by decide +kernel⟩ rfl (by decide) (by decide) (Nat.le_of_ble_eq_true rfl) rfl d_R_next_66 (ga_vV (fun w6 => ?_)) (fun _ _ => ga_thru rfl)
      refine ga_aload_n (q := 0) d_R_next_69 rfl rfl ?_
      refine ga_invV (nA := 0) (ci := 6) (T := T_R) (N := 39) (av := []) (a := x0) (st := []) (m_R_foundGone hst F x0 w6) (Or.inl rfl) (gz_gV gw_1037 gw_1039 gw_46 gw_58 gw_1040) rfl ⟨rfl, by decide +kernel⟩ rfl (by decide) (by decide) (Nat.le_of_ble_eq_true rfl) rfl d_R_next_70 (ga_vI (fun v8 w7 => ?_)) (fun _ _ => ga_thru rfl)
      refine ga_if_ne (tgt := 78) d_R_next_73 (by decide) (fun h9 => ?_) (fun h9 => ?_)
      · refine ga_iload_n (q := 2) d_R_next_76 rfl rfl ?_
        exact ga_iret rfl d_R_next_77
      · refine ga_iinc (q := 2) (v := (x3 + (1 : Int32))) (lv2 := [(3, .int (x3 + (1 : Int32))), (0, .ref x0), (2, .int x2)]) d_R_next_78 rfl rfl (by decide) rfl ?_
        refine ga_goto (tgt := 53) d_R_next_81 (by decide) ?_
        refine ga_sub (lv2 := [(0, .ref x0), (2, .int x2), (3, .int (x3 + (1 : Int32)))]) [1, 2, 0] rfl ?_
        exact ih _ _
set_option maxHeartbeats 4000000 in
set_option maxRecDepth 100000 in
theorem m_R_next (hst : l.stackTraces = false) (F : Nat) (p0 : Nat) (p1 : Int32) (p2 : Int32) (w : ga_W) : ga_M l S0 D gz_cl (gz_tA cT) base b gz_xn y_R_next ws_R_next 2 46 true [.ref p0, .int p1, .int p2] w (f_R_next F p0 p1 p2 w) := by
  refine ga_enter (cc := c_R_next) (maxL := 4) (ret := (some .int)) hst (by decide) rfl (Nat.le_of_ble_eq_true rfl) ?_
  intro p e R s m args below meth c ad0
  refine ga_sub (lv2 := [(0, .ref p0), (1, .int p1), (2, .int p2)]) [0, 1, 2] rfl ?_
  unfold f_R_next
  refine ga_aload_n (q := 0) d_R_next_0 rfl rfl ?_
  refine ga_iconst (v := (0 : Int32)) d_R_next_1 (by decide) ?_
  refine ga_putB (C := "LevelStoreModel") (T := T_R) (N := 39) (k := 0) (ci := 6) (ty0 := ty_R) (fun x h => List.mem_cons_of_mem _ (iw_R x h)) ty_R_ok nm_R rfl (by decide) (List.mem_cons_of_mem _ gw_761) (Or.inl rfl) (fun _ => ⟨rfl, rfl⟩) d_R_next_2 (fun w1 => ?_)
  refine ga_iload_n (q := 1) d_R_next_5 rfl rfl ?_
  refine ga_iconst (v := (-1 : Int32)) d_R_next_6 (by decide) ?_
  refine ga_bipush (v := (63 : Int32)) d_R_next_7 (by decide) ?_
  refine ga_invS (nA := 3) (av := [.int p1, .int (-1 : Int32), .int (63 : Int32)]) (st := []) (m_R_in hst F p1 (-1 : Int32) (63 : Int32) w1) (Or.inl rfl) (gz_gS gw_892 gw_893 gw_58 gw_894) rfl (by decide +kernel) rfl (by decide) (by decide) (Nat.le_of_ble_eq_true rfl) d_R_next_9 (ga_vI (fun v3 w2 => ?_)) (fun _ _ => ga_thru rfl)
  refine ga_if_eq (tgt := 24) d_R_next_12 (by decide) (fun h4 => ?_) (fun h4 => ?_)
  · refine ga_aload_n (q := 0) d_R_next_24 rfl rfl ?_
    refine ga_iconst (v := (1 : Int32)) d_R_next_25 (by decide) ?_
    refine ga_invV (nA := 1) (ci := 6) (T := T_R) (N := 39) (av := [.int (1 : Int32)]) (a := p0) (st := []) (m_R_raise hst F p0 (1 : Int32) w2) (Or.inl rfl) (gz_gV gw_895 gw_897 gw_19 gw_58 gw_898) rfl ⟨rfl, by decide +kernel⟩ rfl (by decide) (by decide) (Nat.le_of_ble_eq_true rfl) rfl d_R_next_26 (ga_vI (fun v6 w5 => ?_)) (fun _ _ => ga_thru rfl)
    exact ga_iret rfl d_R_next_29
  · refine ga_iload_n (q := 2) d_R_next_15 rfl rfl ?_
    refine ga_iconst (v := (-1 : Int32)) d_R_next_16 (by decide) ?_
    refine ga_iconst (v := (3 : Int32)) d_R_next_17 (by decide) ?_
    refine ga_invS (nA := 3) (av := [.int p2, .int (-1 : Int32), .int (3 : Int32)]) (st := []) (m_R_in hst F p2 (-1 : Int32) (3 : Int32) w2) (Or.inl rfl) (gz_gS gw_892 gw_893 gw_58 gw_894) rfl (by decide +kernel) rfl (by decide) (by decide) (Nat.le_of_ble_eq_true rfl) d_R_next_18 (ga_vI (fun v8 w7 => ?_)) (fun _ _ => ga_thru rfl)
    refine ga_if_ne (tgt := 30) d_R_next_21 (by decide) (fun h9 => ?_) (fun h9 => ?_)
    · refine ga_aload_n (q := 0) d_R_next_24 rfl rfl ?_
      refine ga_iconst (v := (1 : Int32)) d_R_next_25 (by decide) ?_
      refine ga_invV (nA := 1) (ci := 6) (T := T_R) (N := 39) (av := [.int (1 : Int32)]) (a := p0) (st := []) (m_R_raise hst F p0 (1 : Int32) w7) (Or.inl rfl) (gz_gV gw_895 gw_897 gw_19 gw_58 gw_898) rfl ⟨rfl, by decide +kernel⟩ rfl (by decide) (by decide) (Nat.le_of_ble_eq_true rfl) rfl d_R_next_26 (ga_vI (fun v11 w10 => ?_)) (fun _ _ => ga_thru rfl)
      exact ga_iret rfl d_R_next_29
    · refine ga_iload_n (q := 2) d_R_next_30 rfl rfl ?_
      refine ga_join (fun (K19 : ga_W → ga_O) => ∀  (w18 : ga_W), ga_J l S0 D gz_cl (gz_tA cT) base b gz_xn p e R s m args below meth c 4 ws_R_next y_R_next.cls c_R_next (some .int) [] y_R_next.name 2 46 true ad0 w (ga_MQ gz_xn D gz_cl (gz_tA cT) base b s args below ad0 w) 49 [(0, .ref p0), (1, .int p1), (2, .int p2)] [] w18 (K19 w18)) (fun w18 => ?_) (fun K19 hK19 => ?_)
      · refine ga_iload_n (q := 1) d_R_next_49 rfl rfl ?_
        refine ga_iconst (v := (1 : Int32)) d_R_next_50 (by decide) ?_
        refine ga_iadd d_R_next_51 ?_
        refine ga_istore_n (lv2 := [(3, .int (p1 + (1 : Int32))), (0, .ref p0), (1, .int p1), (2, .int p2)]) d_R_next_52 rfl (by decide) rfl ?_
        refine ga_sub (lv2 := [(0, .ref p0), (2, .int p2), (3, .int (p1 + (1 : Int32)))]) [1, 3, 0] rfl ?_
        exact h_R_next_53 hst F p0 p2 F (p1 + (1 : Int32)) w18
      · refine ga_if_lt (tgt := 49) d_R_next_31 (by decide) (fun h20 => ?_) (fun h20 => ?_)
        · exact hK19 _
        · refine ga_aload_n (q := 0) d_R_next_34 rfl rfl ?_
          refine ga_getR (C := "LevelStoreModel") (T := T_R) (N := 39) (k := 23) (ci := 6) (fun x h => List.mem_cons_of_mem _ (iw_R x h)) rfl (by decide) (List.mem_cons_of_mem _ gw_784) d_R_next_35 (fun r21 => ?_)
          refine ga_iload_n (q := 2) d_R_next_38 rfl rfl ?_
          refine ga_ldI (t := 0) rfl d_R_next_39 (fun v22 => ?_)
          refine ga_if_ge (tgt := 49) d_R_next_40 (by decide) (fun h23 => ?_) (fun h23 => ?_)
          · exact hK19 _
          · refine ga_aload_n (q := 0) d_R_next_43 rfl rfl ?_
            refine ga_iconst (v := (2 : Int32)) d_R_next_44 (by decide) ?_
            refine ga_invV (nA := 1) (ci := 6) (T := T_R) (N := 39) (av := [.int (2 : Int32)]) (a := p0) (st := []) (m_R_raise hst F p0 (2 : Int32) w7) (Or.inl rfl) (gz_gV gw_895 gw_897 gw_19 gw_58 gw_898) rfl ⟨rfl, by decide +kernel⟩ rfl (by decide) (by decide) (Nat.le_of_ble_eq_true rfl) rfl d_R_next_45 (ga_vI (fun v25 w24 => ?_)) (fun _ _ => ga_thru rfl)
            exact ga_iret rfl d_R_next_48
noncomputable def f_R_snapshot_7 (F : Nat) (x0 : Nat) : Nat → Int32 → ga_W → ga_O
  | 0, _, _ => none
  | n + 1, x1, w => (if (4 : Int32) ≤ x1 then (if ga_is w 6 x0 = true then ga_c (f_R_raise F x0 (1 : Int32) w) (ga_kI fun v3 w2 => (some (.inl (some (.int v3)), w2))) ga_up else none) else ((ga_gr w 6 23 x0).bind fun r4 => ((ga_ai w 0 r4 x1).bind fun v5 => (if v5 < 0 then ((ga_gr w 6 23 x0).bind fun r7 => ((ga_gi w 6 25 x0).bind fun v8 => ((ga_si w 0 r7 x1 v8).bind fun w9 => (some (.inl (some (.int x1)), w9))))) else (f_R_snapshot_7 F x0 n (x1 + (1 : Int32)) w)))))
noncomputable def f_R_snapshot (F : Nat) (p0 : Nat) (w : ga_W) : ga_O :=
  ((ga_put w 6 0 p0 (.int (0 : Int32))).bind fun w1 => (f_R_snapshot_7 F p0 F (0 : Int32) w1))
set_option maxHeartbeats 4000000 in
set_option maxRecDepth 100000 in
theorem h_R_snapshot_7 (hst : l.stackTraces = false) (F : Nat) (x0 : Nat) : ∀ (n : Nat) (x1 : Int32) (w : ga_W), ga_J l S0 D gz_cl (gz_tA cT) base b gz_xn p e R s m args below meth c 2 ws_R_snapshot y_R_snapshot.cls c_R_snapshot (some .int) [] y_R_snapshot.name 1 21 true ad0 w0 (ga_MQ gz_xn D gz_cl (gz_tA cT) base b s args below ad0 w0) 7 [(0, .ref x0), (1, .int x1)] [] w (f_R_snapshot_7 F x0 n x1 w) := by
  intro n
  induction n with
  | zero => intro x1 w; exact ga_no
  | succ n ih =>
    intro x1 w
    rw [f_R_snapshot_7]
    refine ga_iload_n (q := 1) d_R_snapshot_7 rfl rfl ?_
    refine ga_iconst (v := (4 : Int32)) d_R_snapshot_8 (by decide) ?_
    refine ga_icmp_ge (tgt := 42) d_R_snapshot_9 (by decide) (fun h1 => ?_) (fun h1 => ?_)
    · refine ga_aload_n (q := 0) d_R_snapshot_42 rfl rfl ?_
      refine ga_iconst (v := (1 : Int32)) d_R_snapshot_43 (by decide) ?_
      refine ga_invV (nA := 1) (ci := 6) (T := T_R) (N := 39) (av := [.int (1 : Int32)]) (a := x0) (st := []) (m_R_raise hst F x0 (1 : Int32) w) (Or.inl rfl) (gz_gV gw_895 gw_897 gw_19 gw_58 gw_898) rfl ⟨rfl, by decide +kernel⟩ rfl (by decide) (by decide) (Nat.le_of_ble_eq_true rfl) rfl d_R_snapshot_44 (ga_vI (fun v3 w2 => ?_)) (fun _ _ => ga_thru rfl)
      exact ga_iret rfl d_R_snapshot_47
    · refine ga_aload_n (q := 0) d_R_snapshot_12 rfl rfl ?_
      refine ga_getR (C := "LevelStoreModel") (T := T_R) (N := 39) (k := 23) (ci := 6) (fun x h => List.mem_cons_of_mem _ (iw_R x h)) rfl (by decide) (List.mem_cons_of_mem _ gw_784) d_R_snapshot_13 (fun r4 => ?_)
      refine ga_iload_n (q := 1) d_R_snapshot_16 rfl rfl ?_
      refine ga_ldI (t := 0) rfl d_R_snapshot_17 (fun v5 => ?_)
      refine ga_if_lt (tgt := 24) d_R_snapshot_18 (by decide) (fun h6 => ?_) (fun h6 => ?_)
      · refine ga_aload_n (q := 0) d_R_snapshot_24 rfl rfl ?_
        refine ga_getR (C := "LevelStoreModel") (T := T_R) (N := 39) (k := 23) (ci := 6) (fun x h => List.mem_cons_of_mem _ (iw_R x h)) rfl (by decide) (List.mem_cons_of_mem _ gw_784) d_R_snapshot_25 (fun r7 => ?_)
        refine ga_iload_n (q := 1) d_R_snapshot_28 rfl rfl ?_
        refine ga_aload_n (q := 0) d_R_snapshot_29 rfl rfl ?_
        refine ga_getI (C := "LevelStoreModel") (T := T_R) (N := 39) (k := 25) (ci := 6) (fun x h => List.mem_cons_of_mem _ (iw_R x h)) rfl (by decide) (List.mem_cons_of_mem _ gw_786) d_R_snapshot_30 (fun v8 => ?_)
        refine ga_stI (t := 0) rfl d_R_snapshot_33 (fun w9 => ?_)
        refine ga_iload_n (q := 1) d_R_snapshot_34 rfl rfl ?_
        exact ga_iret rfl d_R_snapshot_35
      · refine ga_goto (tgt := 36) d_R_snapshot_21 (by decide) ?_
        refine ga_iinc (q := 1) (v := (x1 + (1 : Int32))) (lv2 := [(1, .int (x1 + (1 : Int32))), (0, .ref x0)]) d_R_snapshot_36 rfl rfl (by decide) rfl ?_
        refine ga_goto (tgt := 7) d_R_snapshot_39 (by decide) ?_
        refine ga_sub (lv2 := [(0, .ref x0), (1, .int (x1 + (1 : Int32)))]) [1, 0] rfl ?_
        exact ih _ _
set_option maxHeartbeats 4000000 in
set_option maxRecDepth 100000 in
theorem m_R_snapshot (hst : l.stackTraces = false) (F : Nat) (p0 : Nat) (w : ga_W) : ga_M l S0 D gz_cl (gz_tA cT) base b gz_xn y_R_snapshot ws_R_snapshot 1 21 true [.ref p0] w (f_R_snapshot F p0 w) := by
  refine ga_enter (cc := c_R_snapshot) (maxL := 2) (ret := (some .int)) hst (by decide) rfl (Nat.le_of_ble_eq_true rfl) ?_
  intro p e R s m args below meth c ad0
  refine ga_sub (lv2 := [(0, .ref p0)]) [0] rfl ?_
  unfold f_R_snapshot
  refine ga_aload_n (q := 0) d_R_snapshot_0 rfl rfl ?_
  refine ga_iconst (v := (0 : Int32)) d_R_snapshot_1 (by decide) ?_
  refine ga_putB (C := "LevelStoreModel") (T := T_R) (N := 39) (k := 0) (ci := 6) (ty0 := ty_R) (fun x h => List.mem_cons_of_mem _ (iw_R x h)) ty_R_ok nm_R rfl (by decide) (List.mem_cons_of_mem _ gw_761) (Or.inl rfl) (fun _ => ⟨rfl, rfl⟩) d_R_snapshot_2 (fun w1 => ?_)
  refine ga_iconst (v := (0 : Int32)) d_R_snapshot_5 (by decide) ?_
  refine ga_istore_n (lv2 := [(1, .int (0 : Int32)), (0, .ref p0)]) d_R_snapshot_6 rfl (by decide) rfl ?_
  refine ga_sub (lv2 := [(0, .ref p0), (1, .int (0 : Int32))]) [1, 0] rfl ?_
  exact h_R_snapshot_7 hst F p0 F (0 : Int32) w1
noncomputable def f_R_release (F : Nat) (p0 : Nat) (p1 : Int32) (w : ga_W) : ga_O :=
  ((ga_put w 6 0 p0 (.int (0 : Int32))).bind fun w1 => (ga_c (f_R_in F p1 (0 : Int32) (3 : Int32) w1) (ga_kI fun v3 w2 => (if v3 = 0 then (if ga_is w2 6 p0 = true then ga_c (f_R_raise F p0 (1 : Int32) w2) (ga_kI fun v6 w5 => (some (.inl (some (.int v6)), w5))) ga_up else none) else ((ga_gr w2 6 23 p0).bind fun r7 => ((ga_ai w2 0 r7 p1).bind fun v8 => (if 0 ≤ v8 then ((ga_gr w2 6 23 p0).bind fun r10 => ((ga_si w2 0 r10 p1 (-1 : Int32)).bind fun w11 => (some (.inl (some (.int v8)), w11)))) else (if ga_is w2 6 p0 = true then ga_c (f_R_raise F p0 (2 : Int32) w2) (ga_kI fun v13 w12 => (some (.inl (some (.int v13)), w12))) ga_up else none)))))) ga_up))
set_option maxHeartbeats 4000000 in
set_option maxRecDepth 100000 in
theorem m_R_release (hst : l.stackTraces = false) (F : Nat) (p0 : Nat) (p1 : Int32) (w : ga_W) : ga_M l S0 D gz_cl (gz_tA cT) base b gz_xn y_R_release ws_R_release 1 22 true [.ref p0, .int p1] w (f_R_release F p0 p1 w) := by
  refine ga_enter (cc := c_R_release) (maxL := 3) (ret := (some .int)) hst (by decide) rfl (Nat.le_of_ble_eq_true rfl) ?_
  intro p e R s m args below meth c ad0
  refine ga_sub (lv2 := [(0, .ref p0), (1, .int p1)]) [0, 1] rfl ?_
  unfold f_R_release
  refine ga_aload_n (q := 0) d_R_release_0 rfl rfl ?_
  refine ga_iconst (v := (0 : Int32)) d_R_release_1 (by decide) ?_
  refine ga_putB (C := "LevelStoreModel") (T := T_R) (N := 39) (k := 0) (ci := 6) (ty0 := ty_R) (fun x h => List.mem_cons_of_mem _ (iw_R x h)) ty_R_ok nm_R rfl (by decide) (List.mem_cons_of_mem _ gw_761) (Or.inl rfl) (fun _ => ⟨rfl, rfl⟩) d_R_release_2 (fun w1 => ?_)
  refine ga_iload_n (q := 1) d_R_release_5 rfl rfl ?_
  refine ga_iconst (v := (0 : Int32)) d_R_release_6 (by decide) ?_
  refine ga_iconst (v := (3 : Int32)) d_R_release_7 (by decide) ?_
  refine ga_invS (nA := 3) (av := [.int p1, .int (0 : Int32), .int (3 : Int32)]) (st := []) (m_R_in hst F p1 (0 : Int32) (3 : Int32) w1) (Or.inl rfl) (gz_gS gw_892 gw_893 gw_58 gw_894) rfl (by decide +kernel) rfl (by decide) (by decide) (Nat.le_of_ble_eq_true rfl) d_R_release_8 (ga_vI (fun v3 w2 => ?_)) (fun _ _ => ga_thru rfl)
  refine ga_if_ne (tgt := 20) d_R_release_11 (by decide) (fun h4 => ?_) (fun h4 => ?_)
  · refine ga_aload_n (q := 0) d_R_release_14 rfl rfl ?_
    refine ga_iconst (v := (1 : Int32)) d_R_release_15 (by decide) ?_
    refine ga_invV (nA := 1) (ci := 6) (T := T_R) (N := 39) (av := [.int (1 : Int32)]) (a := p0) (st := []) (m_R_raise hst F p0 (1 : Int32) w2) (Or.inl rfl) (gz_gV gw_895 gw_897 gw_19 gw_58 gw_898) rfl ⟨rfl, by decide +kernel⟩ rfl (by decide) (by decide) (Nat.le_of_ble_eq_true rfl) rfl d_R_release_16 (ga_vI (fun v6 w5 => ?_)) (fun _ _ => ga_thru rfl)
    exact ga_iret rfl d_R_release_19
  · refine ga_aload_n (q := 0) d_R_release_20 rfl rfl ?_
    refine ga_getR (C := "LevelStoreModel") (T := T_R) (N := 39) (k := 23) (ci := 6) (fun x h => List.mem_cons_of_mem _ (iw_R x h)) rfl (by decide) (List.mem_cons_of_mem _ gw_784) d_R_release_21 (fun r7 => ?_)
    refine ga_iload_n (q := 1) d_R_release_24 rfl rfl ?_
    refine ga_ldI (t := 0) rfl d_R_release_25 (fun v8 => ?_)
    refine ga_istore_n (lv2 := [(2, .int v8), (0, .ref p0), (1, .int p1)]) d_R_release_26 rfl (by decide) rfl ?_
    refine ga_iload_n (q := 0) d_R_release_27 rfl rfl ?_
    refine ga_if_ge (tgt := 37) d_R_release_28 (by decide) (fun h9 => ?_) (fun h9 => ?_)
    · refine ga_aload_n (q := 1) d_R_release_37 rfl rfl ?_
      refine ga_getR (C := "LevelStoreModel") (T := T_R) (N := 39) (k := 23) (ci := 6) (fun x h => List.mem_cons_of_mem _ (iw_R x h)) rfl (by decide) (List.mem_cons_of_mem _ gw_784) d_R_release_38 (fun r10 => ?_)
      refine ga_iload_n (q := 2) d_R_release_41 rfl rfl ?_
      refine ga_iconst (v := (-1 : Int32)) d_R_release_42 (by decide) ?_
      refine ga_stI (t := 0) rfl d_R_release_43 (fun w11 => ?_)
      refine ga_iload_n (q := 0) d_R_release_44 rfl rfl ?_
      exact ga_iret rfl d_R_release_45
    · refine ga_aload_n (q := 1) d_R_release_31 rfl rfl ?_
      refine ga_iconst (v := (2 : Int32)) d_R_release_32 (by decide) ?_
      refine ga_invV (nA := 1) (ci := 6) (T := T_R) (N := 39) (av := [.int (2 : Int32)]) (a := p0) (st := []) (m_R_raise hst F p0 (2 : Int32) w2) (Or.inl rfl) (gz_gV gw_895 gw_897 gw_19 gw_58 gw_898) rfl ⟨rfl, by decide +kernel⟩ rfl (by decide) (by decide) (Nat.le_of_ble_eq_true rfl) rfl d_R_release_33 (ga_vI (fun v13 w12 => ?_)) (fun _ _ => ga_thru rfl)
      exact ga_iret rfl d_R_release_36
noncomputable def f_R_blockSize (F : Nat) (p0 : Nat) (p1 : Int32) (p2 : Int32) (w : ga_W) : ga_O :=
  ((ga_gr w 6 8 p0).bind fun r1 => ((ga_ai w 0 r1 p1).bind fun v2 => (if (4 : Int32) ≤ (v2 - ((4 : Int32) * p2)) then (some (.inl (some (.int (4 : Int32))), w)) else ((ga_gr w 6 8 p0).bind fun r4 => ((ga_ai w 0 r4 p1).bind fun v5 => (some (.inl (some (.int (v5 - ((4 : Int32) * p2)))), w)))))))
set_option maxHeartbeats 4000000 in
set_option maxRecDepth 100000 in
theorem m_R_blockSize (hst : l.stackTraces = false) (F : Nat) (p0 : Nat) (p1 : Int32) (p2 : Int32) (w : ga_W) : ga_M l S0 D gz_cl (gz_tA cT) base b gz_xn y_R_blockSize ws_R_blockSize 0 0 true [.ref p0, .int p1, .int p2] w (f_R_blockSize F p0 p1 p2 w) := by
  refine ga_enter (cc := c_R_blockSize) (maxL := 3) (ret := (some .int)) hst (by decide) rfl (Nat.le_of_ble_eq_true rfl) ?_
  intro p e R s m args below meth c ad0
  refine ga_sub (lv2 := [(0, .ref p0), (1, .int p1), (2, .int p2)]) [0, 1, 2] rfl ?_
  unfold f_R_blockSize
  refine ga_aload_n (q := 0) d_R_blockSize_0 rfl rfl ?_
  refine ga_getR (C := "LevelStoreModel") (T := T_R) (N := 39) (k := 8) (ci := 6) (fun x h => List.mem_cons_of_mem _ (iw_R x h)) rfl (by decide) (List.mem_cons_of_mem _ gw_769) d_R_blockSize_1 (fun r1 => ?_)
  refine ga_iload_n (q := 1) d_R_blockSize_4 rfl rfl ?_
  refine ga_ldI (t := 0) rfl d_R_blockSize_5 (fun v2 => ?_)
  refine ga_iconst (v := (4 : Int32)) d_R_blockSize_6 (by decide) ?_
  refine ga_iload_n (q := 2) d_R_blockSize_7 rfl rfl ?_
  refine ga_imul d_R_blockSize_8 ?_
  refine ga_isub d_R_blockSize_9 ?_
  refine ga_iconst (v := (4 : Int32)) d_R_blockSize_10 (by decide) ?_
  refine ga_icmp_ge (tgt := 27) d_R_blockSize_11 (by decide) (fun h3 => ?_) (fun h3 => ?_)
  · refine ga_iconst (v := (4 : Int32)) d_R_blockSize_27 (by decide) ?_
    exact ga_iret rfl d_R_blockSize_28
  · refine ga_aload_n (q := 0) d_R_blockSize_14 rfl rfl ?_
    refine ga_getR (C := "LevelStoreModel") (T := T_R) (N := 39) (k := 8) (ci := 6) (fun x h => List.mem_cons_of_mem _ (iw_R x h)) rfl (by decide) (List.mem_cons_of_mem _ gw_769) d_R_blockSize_15 (fun r4 => ?_)
    refine ga_iload_n (q := 1) d_R_blockSize_18 rfl rfl ?_
    refine ga_ldI (t := 0) rfl d_R_blockSize_19 (fun v5 => ?_)
    refine ga_iconst (v := (4 : Int32)) d_R_blockSize_20 (by decide) ?_
    refine ga_iload_n (q := 2) d_R_blockSize_21 rfl rfl ?_
    refine ga_imul d_R_blockSize_22 ?_
    refine ga_isub d_R_blockSize_23 ?_
    refine ga_goto (tgt := 28) d_R_blockSize_24 (by decide) ?_
    exact ga_iret rfl d_R_blockSize_28
noncomputable def f_R_spoil (F : Nat) (p0 : Nat) (p1 : Int32) (p2 : Int32) (w : ga_W) : ga_O :=
  ((ga_put w 6 0 p0 (.int (0 : Int32))).bind fun w1 => (ga_c (f_R_in F p1 (0 : Int32) (59 : Int32) w1) (ga_kI fun v3 w2 => (if v3 = 0 then (if ga_is w2 6 p0 = true then ga_c (f_R_raise F p0 (1 : Int32) w2) (ga_kI fun v6 w5 => (some (.inl (some (.int v6)), w5))) ga_up else none) else (ga_c (f_R_in F p2 (0 : Int32) (59 : Int32) w2) (ga_kI fun v8 w7 => (if v8 = 0 then (if ga_is w7 6 p0 = true then ga_c (f_R_raise F p0 (1 : Int32) w7) (ga_kI fun v11 w10 => (some (.inl (some (.int v11)), w10))) ga_up else none) else ((ga_gi w7 6 10 p0).bind fun v12 => (if v12 ≤ p1 then (if ga_is w7 6 p0 = true then ga_c (f_R_raise F p0 (2 : Int32) w7) (ga_kI fun v15 w14 => (some (.inl (some (.int v15)), w14))) ga_up else none) else ((ga_gr w7 6 8 p0).bind fun r16 => ((ga_ai w7 0 r16 p1).bind fun v17 => (if ((4 : Int32) * p2) < v17 then ((ga_gr w7 6 9 p0).bind fun r19 => ((ga_al w7 2 r19 p1).bind fun v20 => ((ga_sl w7 2 r19 p1 (v20 ||| ((1 : Int64) <<< (Int32.toInt64 p2 &&& 63)))).bind fun w21 => (if ga_is w21 6 p0 = true then ga_c (f_R_blockSize F p0 p1 p2 w21) (ga_kI fun v23 w22 => (some (.inl (some (.int v23)), w22))) ga_up else none)))) else (if ga_is w7 6 p0 = true then ga_c (f_R_raise F p0 (2 : Int32) w7) (ga_kI fun v25 w24 => (some (.inl (some (.int v25)), w24))) ga_up else none)))))))) ga_up))) ga_up))
set_option maxHeartbeats 4000000 in
set_option maxRecDepth 100000 in
theorem m_R_spoil (hst : l.stackTraces = false) (F : Nat) (p0 : Nat) (p1 : Int32) (p2 : Int32) (w : ga_W) : ga_M l S0 D gz_cl (gz_tA cT) base b gz_xn y_R_spoil ws_R_spoil 1 22 true [.ref p0, .int p1, .int p2] w (f_R_spoil F p0 p1 p2 w) := by
  refine ga_enter (cc := c_R_spoil) (maxL := 3) (ret := (some .int)) hst (by decide) rfl (Nat.le_of_ble_eq_true rfl) ?_
  intro p e R s m args below meth c ad0
  refine ga_sub (lv2 := [(0, .ref p0), (1, .int p1), (2, .int p2)]) [0, 1, 2] rfl ?_
  unfold f_R_spoil
  refine ga_aload_n (q := 0) d_R_spoil_0 rfl rfl ?_
  refine ga_iconst (v := (0 : Int32)) d_R_spoil_1 (by decide) ?_
  refine ga_putB (C := "LevelStoreModel") (T := T_R) (N := 39) (k := 0) (ci := 6) (ty0 := ty_R) (fun x h => List.mem_cons_of_mem _ (iw_R x h)) ty_R_ok nm_R rfl (by decide) (List.mem_cons_of_mem _ gw_761) (Or.inl rfl) (fun _ => ⟨rfl, rfl⟩) d_R_spoil_2 (fun w1 => ?_)
  refine ga_iload_n (q := 1) d_R_spoil_5 rfl rfl ?_
  refine ga_iconst (v := (0 : Int32)) d_R_spoil_6 (by decide) ?_
  refine ga_bipush (v := (59 : Int32)) d_R_spoil_7 (by decide) ?_
  refine ga_invS (nA := 3) (av := [.int p1, .int (0 : Int32), .int (59 : Int32)]) (st := []) (m_R_in hst F p1 (0 : Int32) (59 : Int32) w1) (Or.inl rfl) (gz_gS gw_892 gw_893 gw_58 gw_894) rfl (by decide +kernel) rfl (by decide) (by decide) (Nat.le_of_ble_eq_true rfl) d_R_spoil_9 (ga_vI (fun v3 w2 => ?_)) (fun _ _ => ga_thru rfl)
  refine ga_if_eq (tgt := 25) d_R_spoil_12 (by decide) (fun h4 => ?_) (fun h4 => ?_)
  · refine ga_aload_n (q := 0) d_R_spoil_25 rfl rfl ?_
    refine ga_iconst (v := (1 : Int32)) d_R_spoil_26 (by decide) ?_
    refine ga_invV (nA := 1) (ci := 6) (T := T_R) (N := 39) (av := [.int (1 : Int32)]) (a := p0) (st := []) (m_R_raise hst F p0 (1 : Int32) w2) (Or.inl rfl) (gz_gV gw_895 gw_897 gw_19 gw_58 gw_898) rfl ⟨rfl, by decide +kernel⟩ rfl (by decide) (by decide) (Nat.le_of_ble_eq_true rfl) rfl d_R_spoil_27 (ga_vI (fun v6 w5 => ?_)) (fun _ _ => ga_thru rfl)
    exact ga_iret rfl d_R_spoil_30
  · refine ga_iload_n (q := 2) d_R_spoil_15 rfl rfl ?_
    refine ga_iconst (v := (0 : Int32)) d_R_spoil_16 (by decide) ?_
    refine ga_bipush (v := (59 : Int32)) d_R_spoil_17 (by decide) ?_
    refine ga_invS (nA := 3) (av := [.int p2, .int (0 : Int32), .int (59 : Int32)]) (st := []) (m_R_in hst F p2 (0 : Int32) (59 : Int32) w2) (Or.inl rfl) (gz_gS gw_892 gw_893 gw_58 gw_894) rfl (by decide +kernel) rfl (by decide) (by decide) (Nat.le_of_ble_eq_true rfl) d_R_spoil_19 (ga_vI (fun v8 w7 => ?_)) (fun _ _ => ga_thru rfl)
    refine ga_if_ne (tgt := 31) d_R_spoil_22 (by decide) (fun h9 => ?_) (fun h9 => ?_)
    · refine ga_aload_n (q := 0) d_R_spoil_25 rfl rfl ?_
      refine ga_iconst (v := (1 : Int32)) d_R_spoil_26 (by decide) ?_
      refine ga_invV (nA := 1) (ci := 6) (T := T_R) (N := 39) (av := [.int (1 : Int32)]) (a := p0) (st := []) (m_R_raise hst F p0 (1 : Int32) w7) (Or.inl rfl) (gz_gV gw_895 gw_897 gw_19 gw_58 gw_898) rfl ⟨rfl, by decide +kernel⟩ rfl (by decide) (by decide) (Nat.le_of_ble_eq_true rfl) rfl d_R_spoil_27 (ga_vI (fun v11 w10 => ?_)) (fun _ _ => ga_thru rfl)
      exact ga_iret rfl d_R_spoil_30
    · refine ga_iload_n (q := 1) d_R_spoil_31 rfl rfl ?_
      refine ga_aload_n (q := 0) d_R_spoil_32 rfl rfl ?_
      refine ga_getI (C := "LevelStoreModel") (T := T_R) (N := 39) (k := 10) (ci := 6) (fun x h => List.mem_cons_of_mem _ (iw_R x h)) rfl (by decide) (List.mem_cons_of_mem _ gw_771) d_R_spoil_33 (fun v12 => ?_)
      refine ga_icmp_ge (tgt := 51) d_R_spoil_36 (by decide) (fun h13 => ?_) (fun h13 => ?_)
      · refine ga_aload_n (q := 0) d_R_spoil_51 rfl rfl ?_
        refine ga_iconst (v := (2 : Int32)) d_R_spoil_52 (by decide) ?_
        refine ga_invV (nA := 1) (ci := 6) (T := T_R) (N := 39) (av := [.int (2 : Int32)]) (a := p0) (st := []) (m_R_raise hst F p0 (2 : Int32) w7) (Or.inl rfl) (gz_gV gw_895 gw_897 gw_19 gw_58 gw_898) rfl ⟨rfl, by decide +kernel⟩ rfl (by decide) (by decide) (Nat.le_of_ble_eq_true rfl) rfl d_R_spoil_53 (ga_vI (fun v15 w14 => ?_)) (fun _ _ => ga_thru rfl)
        exact ga_iret rfl d_R_spoil_56
      · refine ga_iconst (v := (4 : Int32)) d_R_spoil_39 (by decide) ?_
        refine ga_iload_n (q := 2) d_R_spoil_40 rfl rfl ?_
        refine ga_imul d_R_spoil_41 ?_
        refine ga_aload_n (q := 0) d_R_spoil_42 rfl rfl ?_
        refine ga_getR (C := "LevelStoreModel") (T := T_R) (N := 39) (k := 8) (ci := 6) (fun x h => List.mem_cons_of_mem _ (iw_R x h)) rfl (by decide) (List.mem_cons_of_mem _ gw_769) d_R_spoil_43 (fun r16 => ?_)
        refine ga_iload_n (q := 1) d_R_spoil_46 rfl rfl ?_
        refine ga_ldI (t := 0) rfl d_R_spoil_47 (fun v17 => ?_)
        refine ga_icmp_lt (tgt := 57) d_R_spoil_48 (by decide) (fun h18 => ?_) (fun h18 => ?_)
        · refine ga_aload_n (q := 0) d_R_spoil_57 rfl rfl ?_
          refine ga_getR (C := "LevelStoreModel") (T := T_R) (N := 39) (k := 9) (ci := 6) (fun x h => List.mem_cons_of_mem _ (iw_R x h)) rfl (by decide) (List.mem_cons_of_mem _ gw_770) d_R_spoil_58 (fun r19 => ?_)
          refine ga_iload_n (q := 1) d_R_spoil_61 rfl rfl ?_
          refine ga_dup2 d_R_spoil_62 rfl rfl ?_
          refine ga_ldL (t := 2) rfl d_R_spoil_63 (fun v20 => ?_)
          refine ga_lconst (v := (1 : Int64)) d_R_spoil_64 (by decide) ?_
          refine ga_iload_n (q := 2) d_R_spoil_65 rfl rfl ?_
          refine ga_lshl d_R_spoil_66 ?_
          refine ga_lor d_R_spoil_67 ?_
          refine ga_stL (t := 2) rfl d_R_spoil_68 (fun w21 => ?_)
          refine ga_aload_n (q := 0) d_R_spoil_69 rfl rfl ?_
          refine ga_iload_n (q := 1) d_R_spoil_70 rfl rfl ?_
          refine ga_iload_n (q := 2) d_R_spoil_71 rfl rfl ?_
          refine ga_invV (nA := 2) (ci := 6) (T := T_R) (N := 39) (av := [.int p1, .int p2]) (a := p0) (st := []) (m_R_blockSize hst F p0 p1 p2 w21) (Or.inl rfl) (gz_gV gw_1061 gw_1063 gw_48 gw_58 gw_1064) rfl ⟨rfl, by decide +kernel⟩ rfl (by decide) (by decide) (Nat.le_of_ble_eq_true rfl) rfl d_R_spoil_72 (ga_vI (fun v23 w22 => ?_)) (fun _ _ => ga_thru rfl)
          exact ga_iret rfl d_R_spoil_75
        · refine ga_aload_n (q := 0) d_R_spoil_51 rfl rfl ?_
          refine ga_iconst (v := (2 : Int32)) d_R_spoil_52 (by decide) ?_
          refine ga_invV (nA := 1) (ci := 6) (T := T_R) (N := 39) (av := [.int (2 : Int32)]) (a := p0) (st := []) (m_R_raise hst F p0 (2 : Int32) w7) (Or.inl rfl) (gz_gV gw_895 gw_897 gw_19 gw_58 gw_898) rfl ⟨rfl, by decide +kernel⟩ rfl (by decide) (by decide) (Nat.le_of_ble_eq_true rfl) rfl d_R_spoil_53 (ga_vI (fun v25 w24 => ?_)) (fun _ _ => ga_thru rfl)
          exact ga_iret rfl d_R_spoil_56
end GM17
