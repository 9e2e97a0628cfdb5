/-! WALKS: S_firstMark, S_secondMark, S_passes, S_firstBlockFor, E_rowOf, L_lookInTable, L_lookInTables -/
section GM7
variable {l : Launch} {S0 : State} {D : va_G} {cT : Nat → ClassId} {base b : Nat} {p : Program} {e : Env} {R : Room} {s : State} {m : MethodId} {args : Array Value} {below : List Frame} {meth : Method} {c : Code} {ad0 : Nat → Nat} {w0 : ga_W}
noncomputable def f_S_firstMark (F : Nat) (p0 : Int32) (w : ga_W) : ga_O :=
  (some (.inl (some (.int ((((7 : Int32) * p0) + (3 : Int32)) - (((7 : Int32) * p0) + (3 : Int32)) / (16 : Int32) * (16 : Int32)))), w))
set_option maxHeartbeats 4000000 in
set_option maxRecDepth 100000 in
theorem m_S_firstMark (hst : l.stackTraces = false) (F : Nat) (p0 : Int32) (w : ga_W) : ga_M l S0 D gz_cl (gz_tA cT) base b gz_xn y_S_firstMark ws_S_firstMark 0 0 true [.int p0] w (f_S_firstMark F p0 w) := by
  refine ga_enter (cc := c_S_firstMark) (maxL := 1) (ret := (some .int)) hst (by decide) rfl (Nat.le_of_ble_eq_true rfl) ?_
  intro p e R s m args below meth c ad0
  refine ga_sub (lv2 := [(0, .int p0)]) [0] rfl ?_
  unfold f_S_firstMark
  refine ga_bipush (v := (7 : Int32)) d_S_firstMark_0 (by decide) ?_
  refine ga_iload_n (q := 0) d_S_firstMark_2 rfl rfl ?_
  refine ga_imul d_S_firstMark_3 ?_
  refine ga_iconst (v := (3 : Int32)) d_S_firstMark_4 (by decide) ?_
  refine ga_iadd d_S_firstMark_5 ?_
  refine ga_bipush (v := (16 : Int32)) d_S_firstMark_6 (by decide) ?_
  refine ga_irem d_S_firstMark_8 (by decide) ?_
  exact ga_iret rfl d_S_firstMark_9
noncomputable def f_S_secondMark (F : Nat) (p0 : Int32) (w : ga_W) : ga_O :=
  (some (.inl (some (.int ((((5 : Int32) * p0) + (1 : Int32)) - (((5 : Int32) * p0) + (1 : Int32)) / (16 : Int32) * (16 : Int32)))), w))
set_option maxHeartbeats 4000000 in
set_option maxRecDepth 100000 in
theorem m_S_secondMark (hst : l.stackTraces = false) (F : Nat) (p0 : Int32) (w : ga_W) : ga_M l S0 D gz_cl (gz_tA cT) base b gz_xn y_S_secondMark ws_S_secondMark 0 0 true [.int p0] w (f_S_secondMark F p0 w) := by
  refine ga_enter (cc := c_S_secondMark) (maxL := 1) (ret := (some .int)) hst (by decide) rfl (Nat.le_of_ble_eq_true rfl) ?_
  intro p e R s m args below meth c ad0
  refine ga_sub (lv2 := [(0, .int p0)]) [0] rfl ?_
  unfold f_S_secondMark
  refine ga_iconst (v := (5 : Int32)) d_S_secondMark_0 (by decide) ?_
  refine ga_iload_n (q := 0) d_S_secondMark_1 rfl rfl ?_
  refine ga_imul d_S_secondMark_2 ?_
  refine ga_iconst (v := (1 : Int32)) d_S_secondMark_3 (by decide) ?_
  refine ga_iadd d_S_secondMark_4 ?_
  refine ga_bipush (v := (16 : Int32)) d_S_secondMark_5 (by decide) ?_
  refine ga_irem d_S_secondMark_7 (by decide) ?_
  exact ga_iret rfl d_S_secondMark_8
noncomputable def f_S_passes_25 (F : Nat) (x0 : Nat) (x1 : Int32) (x3 : Int32) (x4 : Int32) : Nat → Int32 → Int32 → Int32 → ga_W → ga_O
  | 0, _, _, _, _ => none
  | n + 1, x5, x6, x7, w => ((ga_gr w 3 3 x0).bind fun r1 => ((ga_ai w 0 r1 (x1 + (1 : Int32))).bind fun v2 => (if v2 ≤ x7 then (if x5 = 0 then (some (.inl (some (.int (0 : Int32))), w)) else (if x6 = 0 then (some (.inl (some (.int (0 : Int32))), w)) else (some (.inl (some (.int (1 : Int32))), w)))) else ((ga_gr w 3 0 x0).bind fun r6 => ((ga_gr w 0 0 r6).bind fun r7 => ((ga_ai w 0 r7 x7).bind fun v8 => (ga_c (f_S_firstMark F v8 w) (ga_kI fun v10 w9 => ((ga_gr w9 3 0 x0).bind fun r11 => ((ga_gr w9 0 0 r11).bind fun r12 => ((ga_ai w9 0 r12 x7).bind fun v13 => (ga_c (f_S_secondMark F v13 w9) (ga_kI fun v15 w14 => (ga_jn (fun (y24 : Int32) (w25 : ga_W) => (if x6 = 0 then (if v10 = x4 then (f_S_passes_25 F x0 x1 x3 x4 n y24 (1 : Int32) (x7 + (1 : Int32)) w25) else (if v15 = x4 then (f_S_passes_25 F x0 x1 x3 x4 n y24 (1 : Int32) (x7 + (1 : Int32)) w25) else (f_S_passes_25 F x0 x1 x3 x4 n y24 (0 : Int32) (x7 + (1 : Int32)) w25))) else (f_S_passes_25 F x0 x1 x3 x4 n y24 (1 : Int32) (x7 + (1 : Int32)) w25))) (fun K26 => (ga_jn (fun  (w33 : ga_W) => (K26 (1 : Int32) w33)) (fun K34 => (if x5 = 0 then (if v10 = x3 then (K34 w14) else (if v15 = x3 then (K34 w14) else (K26 (0 : Int32) w14))) else (K34 w14))))))) ga_up))))) ga_up)))))))
noncomputable def f_S_passes (F : Nat) (p0 : Nat) (p1 : Int32) (p2 : Int32) (w : ga_W) : ga_O :=
  (ga_c (f_S_firstMark F p2 w) (ga_kI fun v2 w1 => (ga_c (f_S_secondMark F p2 w1) (ga_kI fun v4 w3 => ((ga_gr w3 3 3 p0).bind fun r5 => ((ga_ai w3 0 r5 p1).bind fun v6 => (f_S_passes_25 F p0 p1 v2 v4 F (0 : Int32) (0 : Int32) v6 w3)))) ga_up)) ga_up)
set_option maxHeartbeats 4000000 in
set_option maxRecDepth 100000 in
theorem h_S_passes_25 (hst : l.stackTraces = false) (F : Nat) (x0 : Nat) (x1 : Int32) (x3 : Int32) (x4 : Int32) : ∀ (n : Nat) (x5 : Int32) (x6 : Int32) (x7 : Int32) (w : ga_W), ga_J l S0 D gz_cl (gz_tA cT) base b gz_xn p e R s m args below meth c 10 ws_S_passes y_S_passes.cls c_S_passes (some .boolean) [] y_S_passes.name 1 20 true ad0 w0 (ga_MQ gz_xn D gz_cl (gz_tA cT) base b s args below ad0 w0) 25 [(0, .ref x0), (1, .int x1), (3, .int x3), (4, .int x4), (5, .int x5), (6, .int x6), (7, .int x7)] [] w (f_S_passes_25 F x0 x1 x3 x4 n x5 x6 x7 w) := by
  intro n
  induction n with
  | zero => intro x5 x6 x7 w; exact ga_no
  | succ n ih =>
    intro x5 x6 x7 w
    rw [f_S_passes_25]
    refine ga_iload (q := 6) d_S_passes_25 rfl ?_
    refine ga_aload_n (q := 0) d_S_passes_27 rfl rfl ?_
    refine ga_getR (C := "LevelStore$Shelf") (T := T_S) (N := 5) (k := 3) (ci := 3) (fun x h => List.mem_cons_of_mem _ (iw_S x h)) rfl (by decide) (List.mem_cons_of_mem _ gw_170) d_S_passes_28 (fun r1 => ?_)
    refine ga_iload_n (q := 1) d_S_passes_31 rfl rfl ?_
    refine ga_iconst (v := (1 : Int32)) d_S_passes_32 (by decide) ?_
    refine ga_iadd d_S_passes_33 ?_
    refine ga_ldI (t := 0) rfl d_S_passes_34 (fun v2 => ?_)
    refine ga_icmp_ge (tgt := 124) d_S_passes_35 (by decide) (fun h3 => ?_) (fun h3 => ?_)
    · refine ga_iload (q := 4) d_S_passes_124 rfl ?_
      refine ga_if_eq (tgt := 138) d_S_passes_126 (by decide) (fun h4 => ?_) (fun h4 => ?_)
      · refine ga_iconst (v := (0 : Int32)) d_S_passes_138 (by decide) ?_
        exact ga_zret rfl rfl d_S_passes_139
      · refine ga_iload (q := 5) d_S_passes_129 rfl ?_
        refine ga_if_eq (tgt := 138) d_S_passes_131 (by decide) (fun h5 => ?_) (fun h5 => ?_)
        · refine ga_iconst (v := (0 : Int32)) d_S_passes_138 (by decide) ?_
          exact ga_zret rfl rfl d_S_passes_139
        · refine ga_iconst (v := (1 : Int32)) d_S_passes_134 (by decide) ?_
          refine ga_goto (tgt := 139) d_S_passes_135 (by decide) ?_
          exact ga_zret rfl rfl d_S_passes_139
    · refine ga_aload_n (q := 0) d_S_passes_38 rfl rfl ?_
      refine ga_getR (C := "LevelStore$Shelf") (T := T_S) (N := 5) (k := 0) (ci := 3) (fun x h => List.mem_cons_of_mem _ (iw_S x h)) rfl (by decide) (List.mem_cons_of_mem _ gw_161) d_S_passes_39 (fun r6 => ?_)
      refine ga_getR (C := "LevelStore$Entries") (T := T_E) (N := 6) (k := 0) (ci := 0) (fun x h => List.mem_cons_of_mem _ (iw_E x h)) rfl (by decide) (List.mem_cons_of_mem _ gw_92) d_S_passes_42 (fun r7 => ?_)
      refine ga_iload (q := 6) d_S_passes_45 rfl ?_
      refine ga_ldI (t := 0) rfl d_S_passes_47 (fun v8 => ?_)
      refine ga_invS (nA := 1) (av := [.int v8]) (st := []) (m_S_firstMark hst F v8 w) (Or.inl rfl) (gz_gS gw_634 gw_635 gw_55 gw_636) rfl (by decide +kernel) rfl (by decide) (by decide) (Nat.le_of_ble_eq_true rfl) d_S_passes_48 (ga_vI (fun v10 w9 => ?_)) (fun _ _ => ga_thru rfl)
      refine ga_istore (lv2 := [(8, .int v10), (0, .ref x0), (1, .int x1), (3, .int x3), (4, .int x4), (5, .int x5), (6, .int x6), (7, .int x7)]) d_S_passes_51 (by decide) rfl ?_
      refine ga_aload_n (q := 1) d_S_passes_53 rfl rfl ?_
      refine ga_getR (C := "LevelStore$Shelf") (T := T_S) (N := 5) (k := 0) (ci := 3) (fun x h => List.mem_cons_of_mem _ (iw_S x h)) rfl (by decide) (List.mem_cons_of_mem _ gw_161) d_S_passes_54 (fun r11 => ?_)
      refine ga_getR (C := "LevelStore$Entries") (T := T_E) (N := 6) (k := 0) (ci := 0) (fun x h => List.mem_cons_of_mem _ (iw_E x h)) rfl (by decide) (List.mem_cons_of_mem _ gw_92) d_S_passes_57 (fun r12 => ?_)
      refine ga_iload (q := 7) d_S_passes_60 rfl ?_
      refine ga_ldI (t := 0) rfl d_S_passes_62 (fun v13 => ?_)
      refine ga_invS (nA := 1) (av := [.int v13]) (st := []) (m_S_secondMark hst F v13 w9) (Or.inl rfl) (gz_gS gw_637 gw_638 gw_55 gw_639) rfl (by decide +kernel) rfl (by decide) (by decide) (Nat.le_of_ble_eq_true rfl) d_S_passes_63 (ga_vI (fun v15 w14 => ?_)) (fun _ _ => ga_thru rfl)
      refine ga_istore (lv2 := [(9, .int v15), (8, .int v10), (0, .ref x0), (1, .int x1), (3, .int x3), (4, .int x4), (5, .int x5), (6, .int x6), (7, .int x7)]) d_S_passes_66 (by decide) rfl ?_
      refine ga_iload (q := 6) d_S_passes_68 rfl ?_
      refine ga_join (fun (K26 : Int32 → ga_W → ga_O) => ∀ (y24 : Int32) (w25 : ga_W), ga_J l S0 D gz_cl (gz_tA cT) base b gz_xn p e R s m args below meth c 10 ws_S_passes y_S_passes.cls c_S_passes (some .boolean) [] y_S_passes.name 1 20 true ad0 w0 (ga_MQ gz_xn D gz_cl (gz_tA cT) base b s args below ad0 w0) 90 [(0, .ref x0), (1, .int x1), (3, .int x3), (4, .int x4), (6, .int x6), (7, .int x7), (8, .int v10), (9, .int v15)] [.int y24] w25 (K26 y24 w25)) (fun y24 w25 => ?_) (fun K26 hK26 => ?_)
      · refine ga_istore (lv2 := [(5, .int y24), (0, .ref x0), (1, .int x1), (3, .int x3), (4, .int x4), (6, .int x6), (7, .int x7), (8, .int v10), (9, .int v15)]) d_S_passes_90 (by decide) rfl ?_
        refine ga_iload (q := 5) d_S_passes_92 rfl ?_
        refine ga_if_ne (tgt := 111) d_S_passes_94 (by decide) (fun h27 => ?_) (fun h27 => ?_)
        · refine ga_iload (q := 7) d_S_passes_97 rfl ?_
          refine ga_iload (q := 4) d_S_passes_99 rfl ?_
          refine ga_icmp_eq (tgt := 111) d_S_passes_101 (by decide) (fun h28 => ?_) (fun h28 => ?_)
          · refine ga_iconst (v := (1 : Int32)) d_S_passes_111 (by decide) ?_
            refine ga_goto (tgt := 116) d_S_passes_112 (by decide) ?_
            refine ga_istore (lv2 := [(6, .int (1 : Int32)), (5, .int y24), (0, .ref x0), (1, .int x1), (3, .int x3), (4, .int x4), (7, .int x7), (8, .int v10), (9, .int v15)]) d_S_passes_116 (by decide) rfl ?_
            refine ga_iinc (q := 6) (v := (x7 + (1 : Int32))) (lv2 := [(7, .int (x7 + (1 : Int32))), (6, .int (1 : Int32)), (5, .int y24), (0, .ref x0), (1, .int x1), (3, .int x3), (4, .int x4), (8, .int v10), (9, .int v15)]) d_S_passes_118 rfl rfl (by decide) rfl ?_
            refine ga_goto (tgt := 25) d_S_passes_121 (by decide) ?_
            refine ga_sub (lv2 := [(0, .ref x0), (1, .int x1), (3, .int x3), (4, .int x4), (5, .int y24), (6, .int (1 : Int32)), (7, .int (x7 + (1 : Int32)))]) [3, 4, 5, 6, 2, 1, 0] rfl ?_
            exact ih _ _ _ _
          · refine ga_iload (q := 8) d_S_passes_104 rfl ?_
            refine ga_iload (q := 4) d_S_passes_106 rfl ?_
            refine ga_icmp_ne (tgt := 115) d_S_passes_108 (by decide) (fun h29 => ?_) (fun h29 => ?_)
            · refine ga_iconst (v := (1 : Int32)) d_S_passes_111 (by decide) ?_
              refine ga_goto (tgt := 116) d_S_passes_112 (by decide) ?_
              refine ga_istore (lv2 := [(6, .int (1 : Int32)), (5, .int y24), (0, .ref x0), (1, .int x1), (3, .int x3), (4, .int x4), (7, .int x7), (8, .int v10), (9, .int v15)]) d_S_passes_116 (by decide) rfl ?_
              refine ga_iinc (q := 6) (v := (x7 + (1 : Int32))) (lv2 := [(7, .int (x7 + (1 : Int32))), (6, .int (1 : Int32)), (5, .int y24), (0, .ref x0), (1, .int x1), (3, .int x3), (4, .int x4), (8, .int v10), (9, .int v15)]) d_S_passes_118 rfl rfl (by decide) rfl ?_
              refine ga_goto (tgt := 25) d_S_passes_121 (by decide) ?_
              refine ga_sub (lv2 := [(0, .ref x0), (1, .int x1), (3, .int x3), (4, .int x4), (5, .int y24), (6, .int (1 : Int32)), (7, .int (x7 + (1 : Int32)))]) [3, 4, 5, 6, 2, 1, 0] rfl ?_
              exact ih _ _ _ _
            · refine ga_iconst (v := (0 : Int32)) d_S_passes_115 (by decide) ?_
              refine ga_istore (lv2 := [(6, .int (0 : Int32)), (5, .int y24), (0, .ref x0), (1, .int x1), (3, .int x3), (4, .int x4), (7, .int x7), (8, .int v10), (9, .int v15)]) d_S_passes_116 (by decide) rfl ?_
              refine ga_iinc (q := 6) (v := (x7 + (1 : Int32))) (lv2 := [(7, .int (x7 + (1 : Int32))), (6, .int (0 : Int32)), (5, .int y24), (0, .ref x0), (1, .int x1), (3, .int x3), (4, .int x4), (8, .int v10), (9, .int v15)]) d_S_passes_118 rfl rfl (by decide) rfl ?_
              refine ga_goto (tgt := 25) d_S_passes_121 (by decide) ?_
              refine ga_sub (lv2 := [(0, .ref x0), (1, .int x1), (3, .int x3), (4, .int x4), (5, .int y24), (6, .int (0 : Int32)), (7, .int (x7 + (1 : Int32)))]) [3, 4, 5, 6, 2, 1, 0] rfl ?_
              exact ih _ _ _ _
        · refine ga_iconst (v := (1 : Int32)) d_S_passes_111 (by decide) ?_
          refine ga_goto (tgt := 116) d_S_passes_112 (by decide) ?_
          refine ga_istore (lv2 := [(6, .int (1 : Int32)), (5, .int y24), (0, .ref x0), (1, .int x1), (3, .int x3), (4, .int x4), (7, .int x7), (8, .int v10), (9, .int v15)]) d_S_passes_116 (by decide) rfl ?_
          refine ga_iinc (q := 6) (v := (x7 + (1 : Int32))) (lv2 := [(7, .int (x7 + (1 : Int32))), (6, .int (1 : Int32)), (5, .int y24), (0, .ref x0), (1, .int x1), (3, .int x3), (4, .int x4), (8, .int v10), (9, .int v15)]) d_S_passes_118 rfl rfl (by decide) rfl ?_
          refine ga_goto (tgt := 25) d_S_passes_121 (by decide) ?_
          refine ga_sub (lv2 := [(0, .ref x0), (1, .int x1), (3, .int x3), (4, .int x4), (5, .int y24), (6, .int (1 : Int32)), (7, .int (x7 + (1 : Int32)))]) [3, 4, 5, 6, 2, 1, 0] rfl ?_
          exact ih _ _ _ _
      · refine ga_join (fun (K34 : ga_W → ga_O) => ∀  (w33 : ga_W), ga_J l S0 D gz_cl (gz_tA cT) base b gz_xn p e R s m args below meth c 10 ws_S_passes y_S_passes.cls c_S_passes (some .boolean) [] y_S_passes.name 1 20 true ad0 w0 (ga_MQ gz_xn D gz_cl (gz_tA cT) base b s args below ad0 w0) 85 [(0, .ref x0), (1, .int x1), (3, .int x3), (4, .int x4), (6, .int x6), (7, .int x7), (8, .int v10), (9, .int v15)] [] w33 (K34 w33)) (fun w33 => ?_) (fun K34 hK34 => ?_)
        · refine ga_iconst (v := (1 : Int32)) d_S_passes_85 (by decide) ?_
          refine ga_goto (tgt := 90) d_S_passes_86 (by decide) ?_
          exact hK26 _ _
        · refine ga_if_ne (tgt := 85) d_S_passes_70 (by decide) (fun h35 => ?_) (fun h35 => ?_)
          · refine ga_iload (q := 1) d_S_passes_73 rfl ?_
            refine ga_iload_n (q := 4) d_S_passes_75 rfl rfl ?_
            refine ga_icmp_eq (tgt := 85) d_S_passes_76 (by decide) (fun h36 => ?_) (fun h36 => ?_)
            · refine ga_sub (lv2 := [(0, .ref x0), (1, .int x1), (3, .int x3), (4, .int x4), (6, .int x6), (7, .int x7), (8, .int v10), (9, .int v15)]) [2, 3, 4, 5, 7, 8, 1, 0] rfl ?_
              exact hK34 _
            · refine ga_iload (q := 0) d_S_passes_79 rfl ?_
              refine ga_iload_n (q := 4) d_S_passes_81 rfl rfl ?_
              refine ga_icmp_ne (tgt := 89) d_S_passes_82 (by decide) (fun h37 => ?_) (fun h37 => ?_)
              · refine ga_sub (lv2 := [(0, .ref x0), (1, .int x1), (3, .int x3), (4, .int x4), (6, .int x6), (7, .int x7), (8, .int v10), (9, .int v15)]) [2, 3, 4, 5, 7, 8, 1, 0] rfl ?_
                exact hK34 _
              · refine ga_iconst (v := (0 : Int32)) d_S_passes_89 (by decide) ?_
                refine ga_sub (lv2 := [(0, .ref x0), (1, .int x1), (3, .int x3), (4, .int x4), (6, .int x6), (7, .int x7), (8, .int v10), (9, .int v15)]) [2, 3, 4, 5, 7, 8, 1, 0] rfl ?_
                exact hK26 _ _
          · refine ga_sub (lv2 := [(0, .ref x0), (1, .int x1), (3, .int x3), (4, .int x4), (6, .int x6), (7, .int x7), (8, .int v10), (9, .int v15)]) [2, 3, 4, 5, 7, 8, 1, 0] rfl ?_
            exact hK34 _
set_option maxHeartbeats 4000000 in
set_option maxRecDepth 100000 in
theorem m_S_passes (hst : l.stackTraces = false) (F : Nat) (p0 : Nat) (p1 : Int32) (p2 : Int32) (w : ga_W) : ga_M l S0 D gz_cl (gz_tA cT) base b gz_xn y_S_passes ws_S_passes 1 20 true [.ref p0, .int p1, .int p2] w (f_S_passes F p0 p1 p2 w) := by
  refine ga_enter (cc := c_S_passes) (maxL := 10) (ret := (some .boolean)) hst (by decide) rfl (Nat.le_of_ble_eq_true rfl) ?_
  intro p e R s m args below meth c ad0
  refine ga_sub (lv2 := [(0, .ref p0), (1, .int p1), (2, .int p2)]) [0, 1, 2] rfl ?_
  unfold f_S_passes
  refine ga_iload_n (q := 2) d_S_passes_0 rfl rfl ?_
  refine ga_invS (nA := 1) (av := [.int p2]) (st := []) (m_S_firstMark hst F p2 w) (Or.inl rfl) (gz_gS gw_634 gw_635 gw_55 gw_636) rfl (by decide +kernel) rfl (by decide) (by decide) (Nat.le_of_ble_eq_true rfl) d_S_passes_1 (ga_vI (fun v2 w1 => ?_)) (fun _ _ => ga_thru rfl)
  refine ga_istore_n (lv2 := [(3, .int v2), (0, .ref p0), (1, .int p1), (2, .int p2)]) d_S_passes_4 rfl (by decide) rfl ?_
  refine ga_iload_n (q := 3) d_S_passes_5 rfl rfl ?_
  refine ga_invS (nA := 1) (av := [.int p2]) (st := []) (m_S_secondMark hst F p2 w1) (Or.inl rfl) (gz_gS gw_637 gw_638 gw_55 gw_639) rfl (by decide +kernel) rfl (by decide) (by decide) (Nat.le_of_ble_eq_true rfl) d_S_passes_6 (ga_vI (fun v4 w3 => ?_)) (fun _ _ => ga_thru rfl)
  refine ga_istore (lv2 := [(4, .int v4), (3, .int v2), (0, .ref p0), (1, .int p1), (2, .int p2)]) d_S_passes_9 (by decide) rfl ?_
  refine ga_iconst (v := (0 : Int32)) d_S_passes_11 (by decide) ?_
  refine ga_istore (lv2 := [(5, .int (0 : Int32)), (4, .int v4), (3, .int v2), (0, .ref p0), (1, .int p1), (2, .int p2)]) d_S_passes_12 (by decide) rfl ?_
  refine ga_iconst (v := (0 : Int32)) d_S_passes_14 (by decide) ?_
  refine ga_istore (lv2 := [(6, .int (0 : Int32)), (5, .int (0 : Int32)), (4, .int v4), (3, .int v2), (0, .ref p0), (1, .int p1), (2, .int p2)]) d_S_passes_15 (by decide) rfl ?_
  refine ga_aload_n (q := 4) d_S_passes_17 rfl rfl ?_
  refine ga_getR (C := "LevelStore$Shelf") (T := T_S) (N := 5) (k := 3) (ci := 3) (fun x h => List.mem_cons_of_mem _ (iw_S x h)) rfl (by decide) (List.mem_cons_of_mem _ gw_170) d_S_passes_18 (fun r5 => ?_)
  refine ga_iload_n (q := 5) d_S_passes_21 rfl rfl ?_
  refine ga_ldI (t := 0) rfl d_S_passes_22 (fun v6 => ?_)
  refine ga_istore (lv2 := [(7, .int v6), (6, .int (0 : Int32)), (5, .int (0 : Int32)), (4, .int v4), (3, .int v2), (0, .ref p0), (1, .int p1), (2, .int p2)]) d_S_passes_23 (by decide) rfl ?_
  refine ga_sub (lv2 := [(0, .ref p0), (1, .int p1), (3, .int v2), (4, .int v4), (5, .int (0 : Int32)), (6, .int (0 : Int32)), (7, .int v6)]) [5, 6, 4, 3, 2, 1, 0] rfl ?_
  exact h_S_passes_25 hst F p0 p1 v2 v4 F (0 : Int32) (0 : Int32) v6 w3
noncomputable def f_S_firstBlockFor_7 (F : Nat) (x0 : Nat) (x1 : Int32) (x2 : Int32) : Nat → Int32 → ga_W → ga_O
  | 0, _, _ => none
  | n + 1, x3, w => ((ga_gr w 3 3 x0).bind fun r1 => ((ga_ai w 0 r1 (x1 + (1 : Int32))).bind fun v2 => (ga_jn (fun  (w8 : ga_W) => ((ga_gr w8 3 3 x0).bind fun r10 => ((ga_ai w8 0 r10 x1).bind fun v11 => (some (.inl (some (.int (x3 - ((x3 - v11) - (x3 - v11) / (4 : Int32) * (4 : Int32))))), w8))))) (fun K9 => (if v2 ≤ x3 then (K9 w) else ((ga_gr w 3 0 x0).bind fun r13 => ((ga_gr w 0 0 r13).bind fun r14 => ((ga_ai w 0 r14 x3).bind fun v15 => (if x2 ≤ v15 then (K9 w) else (f_S_firstBlockFor_7 F x0 x1 x2 n (x3 + (1 : Int32)) w))))))))))
noncomputable def f_S_firstBlockFor (F : Nat) (p0 : Nat) (p1 : Int32) (p2 : Int32) (w : ga_W) : ga_O :=
  ((ga_gr w 3 3 p0).bind fun r1 => ((ga_ai w 0 r1 p1).bind fun v2 => (f_S_firstBlockFor_7 F p0 p1 p2 F v2 w)))
set_option maxHeartbeats 4000000 in
set_option maxRecDepth 100000 in
theorem h_S_firstBlockFor_7 (hst : l.stackTraces = false) (F : Nat) (x0 : Nat) (x1 : Int32) (x2 : Int32) : ∀ (n : Nat) (x3 : Int32) (w : ga_W), ga_J l S0 D gz_cl (gz_tA cT) base b gz_xn p e R s m args below meth c 4 ws_S_firstBlockFor y_S_firstBlockFor.cls c_S_firstBlockFor (some .int) [] y_S_firstBlockFor.name 0 0 true ad0 w0 (ga_MQ gz_xn D gz_cl (gz_tA cT) base b s args below ad0 w0) 7 [(0, .ref x0), (1, .int x1), (2, .int x2), (3, .int x3)] [] w (f_S_firstBlockFor_7 F x0 x1 x2 n x3 w) := by
  intro n
  induction n with
  | zero => intro x3 w; exact ga_no
  | succ n ih =>
    intro x3 w
    rw [f_S_firstBlockFor_7]
    refine ga_iload_n (q := 3) d_S_firstBlockFor_7 rfl rfl ?_
    refine ga_aload_n (q := 0) d_S_firstBlockFor_8 rfl rfl ?_
    refine ga_getR (C := "LevelStore$Shelf") (T := T_S) (N := 5) (k := 3) (ci := 3) (fun x h => List.mem_cons_of_mem _ (iw_S x h)) rfl (by decide) (List.mem_cons_of_mem _ gw_170) d_S_firstBlockFor_9 (fun r1 => ?_)
    refine ga_iload_n (q := 1) d_S_firstBlockFor_12 rfl rfl ?_
    refine ga_iconst (v := (1 : Int32)) d_S_firstBlockFor_13 (by decide) ?_
    refine ga_iadd d_S_firstBlockFor_14 ?_
    refine ga_ldI (t := 0) rfl d_S_firstBlockFor_15 (fun v2 => ?_)
    refine ga_join (fun (K9 : ga_W → ga_O) => ∀  (w8 : ga_W), ga_J l S0 D gz_cl (gz_tA cT) base b gz_xn p e R s m args below meth c 4 ws_S_firstBlockFor y_S_firstBlockFor.cls c_S_firstBlockFor (some .int) [] y_S_firstBlockFor.name 0 0 true ad0 w0 (ga_MQ gz_xn D gz_cl (gz_tA cT) base b s args below ad0 w0) 38 [(0, .ref x0), (1, .int x1), (3, .int x3)] [] w8 (K9 w8)) (fun w8 => ?_) (fun K9 hK9 => ?_)
    · refine ga_iload_n (q := 2) d_S_firstBlockFor_38 rfl rfl ?_
      refine ga_iload_n (q := 2) d_S_firstBlockFor_39 rfl rfl ?_
      refine ga_aload_n (q := 0) d_S_firstBlockFor_40 rfl rfl ?_
      refine ga_getR (C := "LevelStore$Shelf") (T := T_S) (N := 5) (k := 3) (ci := 3) (fun x h => List.mem_cons_of_mem _ (iw_S x h)) rfl (by decide) (List.mem_cons_of_mem _ gw_170) d_S_firstBlockFor_41 (fun r10 => ?_)
      refine ga_iload_n (q := 1) d_S_firstBlockFor_44 rfl rfl ?_
      refine ga_ldI (t := 0) rfl d_S_firstBlockFor_45 (fun v11 => ?_)
      refine ga_isub d_S_firstBlockFor_46 ?_
      refine ga_iconst (v := (4 : Int32)) d_S_firstBlockFor_47 (by decide) ?_
      refine ga_irem d_S_firstBlockFor_48 (by decide) ?_
      refine ga_isub d_S_firstBlockFor_49 ?_
      exact ga_iret rfl d_S_firstBlockFor_50
    · refine ga_icmp_ge (tgt := 38) d_S_firstBlockFor_16 (by decide) (fun h12 => ?_) (fun h12 => ?_)
      · refine ga_sub (lv2 := [(0, .ref x0), (1, .int x1), (3, .int x3)]) [0, 1, 3] rfl ?_
        exact hK9 _
      · refine ga_aload_n (q := 0) d_S_firstBlockFor_19 rfl rfl ?_
        refine ga_getR (C := "LevelStore$Shelf") (T := T_S) (N := 5) (k := 0) (ci := 3) (fun x h => List.mem_cons_of_mem _ (iw_S x h)) rfl (by decide) (List.mem_cons_of_mem _ gw_161) d_S_firstBlockFor_20 (fun r13 => ?_)
        refine ga_getR (C := "LevelStore$Entries") (T := T_E) (N := 6) (k := 0) (ci := 0) (fun x h => List.mem_cons_of_mem _ (iw_E x h)) rfl (by decide) (List.mem_cons_of_mem _ gw_92) d_S_firstBlockFor_23 (fun r14 => ?_)
        refine ga_iload_n (q := 3) d_S_firstBlockFor_26 rfl rfl ?_
        refine ga_ldI (t := 0) rfl d_S_firstBlockFor_27 (fun v15 => ?_)
        refine ga_iload_n (q := 2) d_S_firstBlockFor_28 rfl rfl ?_
        refine ga_icmp_ge (tgt := 38) d_S_firstBlockFor_29 (by decide) (fun h16 => ?_) (fun h16 => ?_)
        · refine ga_sub (lv2 := [(0, .ref x0), (1, .int x1), (3, .int x3)]) [0, 1, 3] rfl ?_
          exact hK9 _
        · refine ga_iinc (q := 3) (v := (x3 + (1 : Int32))) (lv2 := [(3, .int (x3 + (1 : Int32))), (0, .ref x0), (1, .int x1), (2, .int x2)]) d_S_firstBlockFor_32 rfl rfl (by decide) rfl ?_
          refine ga_goto (tgt := 7) d_S_firstBlockFor_35 (by decide) ?_
          refine ga_sub (lv2 := [(0, .ref x0), (1, .int x1), (2, .int x2), (3, .int (x3 + (1 : Int32)))]) [1, 2, 3, 0] rfl ?_
          exact ih _ _
set_option maxHeartbeats 4000000 in
set_option maxRecDepth 100000 in
theorem m_S_firstBlockFor (hst : l.stackTraces = false) (F : Nat) (p0 : Nat) (p1 : Int32) (p2 : Int32) (w : ga_W) : ga_M l S0 D gz_cl (gz_tA cT) base b gz_xn y_S_firstBlockFor ws_S_firstBlockFor 0 0 true [.ref p0, .int p1, .int p2] w (f_S_firstBlockFor F p0 p1 p2 w) := by
  refine ga_enter (cc := c_S_firstBlockFor) (maxL := 4) (ret := (some .int)) hst (by decide) rfl (Nat.le_of_ble_eq_true rfl) ?_
  intro p e R s m args below meth c ad0
  refine ga_sub (lv2 := [(0, .ref p0), (1, .int p1), (2, .int p2)]) [0, 1, 2] rfl ?_
  unfold f_S_firstBlockFor
  refine ga_aload_n (q := 0) d_S_firstBlockFor_0 rfl rfl ?_
  refine ga_getR (C := "LevelStore$Shelf") (T := T_S) (N := 5) (k := 3) (ci := 3) (fun x h => List.mem_cons_of_mem _ (iw_S x h)) rfl (by decide) (List.mem_cons_of_mem _ gw_170) d_S_firstBlockFor_1 (fun r1 => ?_)
  refine ga_iload_n (q := 1) d_S_firstBlockFor_4 rfl rfl ?_
  refine ga_ldI (t := 0) rfl d_S_firstBlockFor_5 (fun v2 => ?_)
  refine ga_istore_n (lv2 := [(3, .int v2), (0, .ref p0), (1, .int p1), (2, .int p2)]) d_S_firstBlockFor_6 rfl (by decide) rfl ?_
  refine ga_sub (lv2 := [(0, .ref p0), (1, .int p1), (2, .int p2), (3, .int v2)]) [1, 2, 3, 0] rfl ?_
  exact h_S_firstBlockFor_7 hst F p0 p1 p2 F v2 w
noncomputable def f_E_rowOf_3 (F : Nat) (x0 : Nat) (x1 : Int32) (x2 : Int32) (x4 : Int32) : Nat → Int32 → ga_W → ga_O
  | 0, _, _ => none
  | n + 1, x5, w => (if x4 ≤ x5 then (some (.inl (some (.int (-1 : Int32))), w)) else ((ga_gr w 0 0 x0).bind fun r2 => ((ga_ai w 0 r2 x5).bind fun v3 => (if v3 = x1 then ((ga_gr w 0 1 x0).bind fun r5 => ((ga_ai w 0 r5 x5).bind fun v6 => (if x2 < v6 then (f_E_rowOf_3 F x0 x1 x2 x4 n (x5 + (1 : Int32)) w) else (some (.inl (some (.int x5)), w))))) else (f_E_rowOf_3 F x0 x1 x2 x4 n (x5 + (1 : Int32)) w)))))
noncomputable def f_E_rowOf (F : Nat) (p0 : Nat) (p1 : Int32) (p2 : Int32) (p3 : Int32) (p4 : Int32) (w : ga_W) : ga_O :=
  (f_E_rowOf_3 F p0 p1 p2 p4 F p3 w)
set_option maxHeartbeats 4000000 in
set_option maxRecDepth 100000 in
theorem h_E_rowOf_3 (hst : l.stackTraces = false) (F : Nat) (x0 : Nat) (x1 : Int32) (x2 : Int32) (x4 : Int32) : ∀ (n : Nat) (x5 : Int32) (w : ga_W), ga_J l S0 D gz_cl (gz_tA cT) base b gz_xn p e R s m args below meth c 6 ws_E_rowOf y_E_rowOf.cls c_E_rowOf (some .int) [] y_E_rowOf.name 0 0 true ad0 w0 (ga_MQ gz_xn D gz_cl (gz_tA cT) base b s args below ad0 w0) 3 [(0, .ref x0), (1, .int x1), (2, .int x2), (4, .int x4), (5, .int x5)] [] w (f_E_rowOf_3 F x0 x1 x2 x4 n x5 w) := by
  intro n
  induction n with
  | zero => intro x5 w; exact ga_no
  | succ n ih =>
    intro x5 w
    rw [f_E_rowOf_3]
    refine ga_iload (q := 4) d_E_rowOf_3 rfl ?_
    refine ga_iload (q := 3) d_E_rowOf_5 rfl ?_
    refine ga_icmp_ge (tgt := 41) d_E_rowOf_7 (by decide) (fun h1 => ?_) (fun h1 => ?_)
    · refine ga_iconst (v := (-1 : Int32)) d_E_rowOf_41 (by decide) ?_
      exact ga_iret rfl d_E_rowOf_42
    · refine ga_aload_n (q := 0) d_E_rowOf_10 rfl rfl ?_
      refine ga_getR (C := "LevelStore$Entries") (T := T_E) (N := 6) (k := 0) (ci := 0) (fun x h => List.mem_cons_of_mem _ (iw_E x h)) rfl (by decide) (List.mem_cons_of_mem _ gw_89) d_E_rowOf_11 (fun r2 => ?_)
      refine ga_iload (q := 4) d_E_rowOf_14 rfl ?_
      refine ga_ldI (t := 0) rfl d_E_rowOf_16 (fun v3 => ?_)
      refine ga_iload_n (q := 1) d_E_rowOf_17 rfl rfl ?_
      refine ga_icmp_ne (tgt := 35) d_E_rowOf_18 (by decide) (fun h4 => ?_) (fun h4 => ?_)
      · refine ga_aload_n (q := 0) d_E_rowOf_21 rfl rfl ?_
        refine ga_getR (C := "LevelStore$Entries") (T := T_E) (N := 6) (k := 1) (ci := 0) (fun x h => List.mem_cons_of_mem _ (iw_E x h)) rfl (by decide) (List.mem_cons_of_mem _ gw_95) d_E_rowOf_22 (fun r5 => ?_)
        refine ga_iload (q := 4) d_E_rowOf_25 rfl ?_
        refine ga_ldI (t := 0) rfl d_E_rowOf_27 (fun v6 => ?_)
        refine ga_iload_n (q := 2) d_E_rowOf_28 rfl rfl ?_
        refine ga_icmp_gt (tgt := 35) d_E_rowOf_29 (by decide) (fun h7 => ?_) (fun h7 => ?_)
        · refine ga_iinc (q := 4) (v := (x5 + (1 : Int32))) (lv2 := [(5, .int (x5 + (1 : Int32))), (0, .ref x0), (1, .int x1), (2, .int x2), (4, .int x4)]) d_E_rowOf_35 rfl rfl (by decide) rfl ?_
          refine ga_goto (tgt := 3) d_E_rowOf_38 (by decide) ?_
          refine ga_sub (lv2 := [(0, .ref x0), (1, .int x1), (2, .int x2), (4, .int x4), (5, .int (x5 + (1 : Int32)))]) [1, 2, 3, 4, 0] rfl ?_
          exact ih _ _
        · refine ga_iload (q := 4) d_E_rowOf_32 rfl ?_
          exact ga_iret rfl d_E_rowOf_34
      · refine ga_iinc (q := 4) (v := (x5 + (1 : Int32))) (lv2 := [(5, .int (x5 + (1 : Int32))), (0, .ref x0), (1, .int x1), (2, .int x2), (4, .int x4)]) d_E_rowOf_35 rfl rfl (by decide) rfl ?_
        refine ga_goto (tgt := 3) d_E_rowOf_38 (by decide) ?_
        refine ga_sub (lv2 := [(0, .ref x0), (1, .int x1), (2, .int x2), (4, .int x4), (5, .int (x5 + (1 : Int32)))]) [1, 2, 3, 4, 0] rfl ?_
        exact ih _ _
set_option maxHeartbeats 4000000 in
set_option maxRecDepth 100000 in
theorem m_E_rowOf (hst : l.stackTraces = false) (F : Nat) (p0 : Nat) (p1 : Int32) (p2 : Int32) (p3 : Int32) (p4 : Int32) (w : ga_W) : ga_M l S0 D gz_cl (gz_tA cT) base b gz_xn y_E_rowOf ws_E_rowOf 0 0 true [.ref p0, .int p1, .int p2, .int p3, .int p4] w (f_E_rowOf F p0 p1 p2 p3 p4 w) := by
  refine ga_enter (cc := c_E_rowOf) (maxL := 6) (ret := (some .int)) hst (by decide) rfl (Nat.le_of_ble_eq_true rfl) ?_
  intro p e R s m args below meth c ad0
  refine ga_sub (lv2 := [(0, .ref p0), (1, .int p1), (2, .int p2), (3, .int p3), (4, .int p4)]) [0, 1, 2, 3, 4] rfl ?_
  unfold f_E_rowOf
  refine ga_iload_n (q := 3) d_E_rowOf_0 rfl rfl ?_
  refine ga_istore (lv2 := [(5, .int p3), (0, .ref p0), (1, .int p1), (2, .int p2), (3, .int p3), (4, .int p4)]) d_E_rowOf_1 (by decide) rfl ?_
  refine ga_sub (lv2 := [(0, .ref p0), (1, .int p1), (2, .int p2), (4, .int p4), (5, .int p3)]) [1, 2, 3, 5, 0] rfl ?_
  exact h_E_rowOf_3 hst F p0 p1 p2 p4 F p3 w
noncomputable def f_L_lookInTable_51 (F : Nat) (x0 : Nat) (x2 : Int32) (x3 : Int32) (x4 : Nat) (x5 : Int32) : Nat → Int32 → ga_W → ga_O
  | 0, _, _ => none
  | n + 1, x6, w => (if x5 ≤ x6 then (some (.inl (some (.int (-1 : Int32))), w)) else ((ga_gi w 5 6 x0).bind fun v2 => ((ga_put w 5 6 x0 (.int (v2 + (1 : Int32)))).bind fun w3 => ((ga_gr w3 3 0 x4).bind fun r4 => ((ga_gr w3 0 4 r4).bind fun r5 => ((ga_az w3 1 r5 x6).bind fun v6 => (if v6 = 0 then ((ga_gr w3 3 0 x4).bind fun r8 => (if ga_is w3 0 r8 = true then ga_c (f_E_rowOf F r8 x2 x3 x6 (if x5 < (x6 + (4 : Int32)) then x5 else (x6 + (4 : Int32))) w3) (ga_kI fun v10 w9 => (if v10 = (-1 : Int32) then ((ga_gr w9 3 0 x4).bind fun r12 => ((ga_gr w9 0 0 r12).bind fun r13 => ((ga_ai w9 0 r13 ((if x5 < (x6 + (4 : Int32)) then x5 else (x6 + (4 : Int32))) - (1 : Int32))).bind fun v14 => (if v14 ≤ x2 then (f_L_lookInTable_51 F x0 x2 x3 x4 x5 n (x6 + (4 : Int32)) w9) else (some (.inl (some (.int v10)), w9)))))) else (some (.inl (some (.int v10)), w9)))) ga_up else none)) else (some (.inr 1, w3.1, w3.2.1 + 1, w3.2.2 + 6)))))))))
noncomputable def f_L_lookInTable (F : Nat) (p0 : Nat) (p1 : Int32) (p2 : Int32) (p3 : Int32) (w : ga_W) : ga_O :=
  ((ga_gr w 5 1 p0).bind fun r1 => ((ga_gr w 1 0 r1).bind fun r2 => (if ga_is w 3 r2 = true then ga_c (f_S_passes F r2 p1 p2 w) (ga_kI fun v4 w3 => (if v4 = 0 then ((ga_gi w3 5 7 p0).bind fun v6 => ((ga_put w3 5 7 p0 (.int (v6 + (1 : Int32)))).bind fun w7 => (some (.inl (some (.int (-1 : Int32))), w7)))) else ((ga_gr w3 3 3 r2).bind fun r8 => ((ga_ai w3 0 r8 (p1 + (1 : Int32))).bind fun v9 => (if ga_is w3 3 r2 = true then ga_c (f_S_firstBlockFor F r2 p1 p2 w3) (ga_kI fun v11 w10 => (f_L_lookInTable_51 F p0 p2 p3 r2 v9 F v11 w10)) ga_up else none))))) ga_up else none)))
set_option maxHeartbeats 4000000 in
set_option maxRecDepth 100000 in
theorem h_L_lookInTable_51 (hst : l.stackTraces = false) (F : Nat) (x0 : Nat) (x2 : Int32) (x3 : Int32) (x4 : Nat) (x5 : Int32) : ∀ (n : Nat) (x6 : Int32) (w : ga_W), ga_J l S0 D gz_cl (gz_tA cT) base b gz_xn p e R s m args below meth c 9 ws_L_lookInTable y_L_lookInTable.cls c_L_lookInTable (some .int) [] y_L_lookInTable.name 6 89 true ad0 w0 (ga_MQ gz_xn D gz_cl (gz_tA cT) base b s args below ad0 w0) 51 [(0, .ref x0), (2, .int x2), (3, .int x3), (4, .ref x4), (5, .int x5), (6, .int x6)] [] w (f_L_lookInTable_51 F x0 x2 x3 x4 x5 n x6 w) := by
  intro n
  induction n with
  | zero => intro x6 w; exact ga_no
  | succ n ih =>
    intro x6 w
    rw [f_L_lookInTable_51]
    refine ga_iload (q := 5) d_L_lookInTable_51 rfl ?_
    refine ga_iload (q := 4) d_L_lookInTable_53 rfl ?_
    refine ga_icmp_ge (tgt := 149) d_L_lookInTable_55 (by decide) (fun h1 => ?_) (fun h1 => ?_)
    · refine ga_iconst (v := (-1 : Int32)) d_L_lookInTable_149 (by decide) ?_
      exact ga_iret rfl d_L_lookInTable_150
    · refine ga_aload_n (q := 0) d_L_lookInTable_58 rfl rfl ?_
      refine ga_dup d_L_lookInTable_59 rfl ?_
      refine ga_getI (C := "LevelStore") (T := T_L) (N := 9) (k := 6) (ci := 5) (fun x h => List.mem_cons_of_mem _ (iw_L x h)) rfl (by decide) (List.mem_cons_of_mem _ gw_252) d_L_lookInTable_60 (fun v2 => ?_)
      refine ga_iconst (v := (1 : Int32)) d_L_lookInTable_63 (by decide) ?_
      refine ga_iadd d_L_lookInTable_64 ?_
      refine ga_putB (C := "LevelStore") (T := T_L) (N := 9) (k := 6) (ci := 5) (ty0 := ty_L) (fun x h => List.mem_cons_of_mem _ (iw_L x h)) ty_L_ok nm_L rfl (by decide) (List.mem_cons_of_mem _ gw_252) (Or.inl rfl) (fun _ => ⟨rfl, rfl⟩) d_L_lookInTable_65 (fun w3 => ?_)
      refine ga_aload (q := 3) d_L_lookInTable_68 rfl ?_
      refine ga_getR (C := "LevelStore$Shelf") (T := T_S) (N := 5) (k := 0) (ci := 3) (fun x h => List.mem_cons_of_mem _ (iw_S x h)) rfl (by decide) (List.mem_cons_of_mem _ gw_163) d_L_lookInTable_70 (fun r4 => ?_)
      refine ga_getR (C := "LevelStore$Entries") (T := T_E) (N := 6) (k := 4) (ci := 0) (fun x h => List.mem_cons_of_mem _ (iw_E x h)) rfl (by decide) (List.mem_cons_of_mem _ gw_109) d_L_lookInTable_73 (fun r5 => ?_)
      refine ga_iload (q := 5) d_L_lookInTable_76 rfl ?_
      refine ga_ldZ (t := 1) rfl d_L_lookInTable_78 (fun v6 => ?_)
      refine ga_if_eq (tgt := 90) d_L_lookInTable_79 (by decide) (fun h7 => ?_) (fun h7 => ?_)
      · refine ga_iload (q := 5) d_L_lookInTable_90 rfl ?_
        refine ga_iconst (v := (4 : Int32)) d_L_lookInTable_92 (by decide) ?_
        refine ga_iadd d_L_lookInTable_93 ?_
        refine ga_iload (q := 4) d_L_lookInTable_94 rfl ?_
        refine ga_min (List.mem_cons_of_mem _ gw_310) (List.mem_cons_of_mem _ gw_311) (List.mem_cons_of_mem _ gw_65) (List.mem_cons_of_mem _ gw_312) (Nat.le_of_ble_eq_true rfl) (by decide) (by decide) d_L_lookInTable_96 ?_
        refine ga_istore (lv2 := [(7, .int (if x5 < (x6 + (4 : Int32)) then x5 else (x6 + (4 : Int32)))), (0, .ref x0), (2, .int x2), (3, .int x3), (4, .ref x4), (5, .int x5), (6, .int x6)]) d_L_lookInTable_99 (by decide) rfl ?_
        refine ga_aload (q := 4) d_L_lookInTable_101 rfl ?_
        refine ga_getR (C := "LevelStore$Shelf") (T := T_S) (N := 5) (k := 0) (ci := 3) (fun x h => List.mem_cons_of_mem _ (iw_S x h)) rfl (by decide) (List.mem_cons_of_mem _ gw_163) d_L_lookInTable_103 (fun r8 => ?_)
        refine ga_iload_n (q := 2) d_L_lookInTable_106 rfl rfl ?_
        refine ga_iload_n (q := 3) d_L_lookInTable_107 rfl rfl ?_
        refine ga_iload (q := 6) d_L_lookInTable_108 rfl ?_
        refine ga_iload (q := 0) d_L_lookInTable_110 rfl ?_
        refine ga_invV (nA := 4) (ci := 0) (T := T_E) (N := 6) (av := [.int x2, .int x3, .int x6, .int (if x5 < (x6 + (4 : Int32)) then x5 else (x6 + (4 : Int32)))]) (a := r8) (st := []) (m_E_rowOf hst F r8 x2 x3 x6 (if x5 < (x6 + (4 : Int32)) then x5 else (x6 + (4 : Int32))) w3) (Or.inl rfl) (gz_gV gw_644 gw_645 gw_646 gw_53 gw_647) rfl ⟨rfl, by decide +kernel⟩ rfl (by decide) (by decide) (Nat.le_of_ble_eq_true rfl) rfl d_L_lookInTable_112 (ga_vI (fun v10 w9 => ?_)) (fun _ _ => ga_thru rfl)
        refine ga_istore (lv2 := [(8, .int v10), (7, .int (if x5 < (x6 + (4 : Int32)) then x5 else (x6 + (4 : Int32)))), (0, .ref x0), (2, .int x2), (3, .int x3), (4, .ref x4), (5, .int x5), (6, .int x6)]) d_L_lookInTable_115 (by decide) rfl ?_
        refine ga_iload (q := 0) d_L_lookInTable_117 rfl ?_
        refine ga_iconst (v := (-1 : Int32)) d_L_lookInTable_119 (by decide) ?_
        refine ga_icmp_ne (tgt := 140) d_L_lookInTable_120 (by decide) (fun h11 => ?_) (fun h11 => ?_)
        · refine ga_aload (q := 5) d_L_lookInTable_123 rfl ?_
          refine ga_getR (C := "LevelStore$Shelf") (T := T_S) (N := 5) (k := 0) (ci := 3) (fun x h => List.mem_cons_of_mem _ (iw_S x h)) rfl (by decide) (List.mem_cons_of_mem _ gw_163) d_L_lookInTable_125 (fun r12 => ?_)
          refine ga_getR (C := "LevelStore$Entries") (T := T_E) (N := 6) (k := 0) (ci := 0) (fun x h => List.mem_cons_of_mem _ (iw_E x h)) rfl (by decide) (List.mem_cons_of_mem _ gw_94) d_L_lookInTable_128 (fun r13 => ?_)
          refine ga_iload (q := 1) d_L_lookInTable_131 rfl ?_
          refine ga_iconst (v := (1 : Int32)) d_L_lookInTable_133 (by decide) ?_
          refine ga_isub d_L_lookInTable_134 ?_
          refine ga_ldI (t := 0) rfl d_L_lookInTable_135 (fun v14 => ?_)
          refine ga_iload_n (q := 3) d_L_lookInTable_136 rfl rfl ?_
          refine ga_icmp_le (tgt := 143) d_L_lookInTable_137 (by decide) (fun h15 => ?_) (fun h15 => ?_)
          · refine ga_iinc (q := 7) (v := (x6 + (4 : Int32))) (lv2 := [(6, .int (x6 + (4 : Int32))), (8, .int v10), (7, .int (if x5 < (x6 + (4 : Int32)) then x5 else (x6 + (4 : Int32)))), (0, .ref x0), (2, .int x2), (3, .int x3), (4, .ref x4), (5, .int x5)]) d_L_lookInTable_143 rfl rfl (by decide) rfl ?_
            refine ga_goto (tgt := 51) d_L_lookInTable_146 (by decide) ?_
            refine ga_sub (lv2 := [(0, .ref x0), (2, .int x2), (3, .int x3), (4, .ref x4), (5, .int x5), (6, .int (x6 + (4 : Int32)))]) [3, 4, 5, 6, 7, 0] rfl ?_
            exact ih _ _
          · refine ga_iload (q := 0) d_L_lookInTable_140 rfl ?_
            exact ga_iret rfl d_L_lookInTable_142
        · refine ga_iload (q := 0) d_L_lookInTable_140 rfl ?_
          exact ga_iret rfl d_L_lookInTable_142
      · exact ga_throw (x := 1) (names := gz_ch) rfl (by decide +kernel) gz_chf gl_509 gl_64 (gz_own1 gl_518) (by decide) (Nat.le_of_ble_eq_true rfl) d_L_lookInTable_82 d_L_lookInTable_85 d_L_lookInTable_86 d_L_lookInTable_89
set_option maxHeartbeats 4000000 in
set_option maxRecDepth 100000 in
theorem m_L_lookInTable (hst : l.stackTraces = false) (F : Nat) (p0 : Nat) (p1 : Int32) (p2 : Int32) (p3 : Int32) (w : ga_W) : ga_M l S0 D gz_cl (gz_tA cT) base b gz_xn y_L_lookInTable ws_L_lookInTable 6 89 true [.ref p0, .int p1, .int p2, .int p3] w (f_L_lookInTable F p0 p1 p2 p3 w) := by
  refine ga_enter (cc := c_L_lookInTable) (maxL := 9) (ret := (some .int)) hst (by decide) rfl (Nat.le_of_ble_eq_true rfl) ?_
  intro p e R s m args below meth c ad0
  refine ga_sub (lv2 := [(0, .ref p0), (1, .int p1), (2, .int p2), (3, .int p3)]) [0, 1, 2, 3] rfl ?_
  unfold f_L_lookInTable
  refine ga_aload_n (q := 0) d_L_lookInTable_0 rfl rfl ?_
  refine ga_getR (C := "LevelStore") (T := T_L) (N := 9) (k := 1) (ci := 5) (fun x h => List.mem_cons_of_mem _ (iw_L x h)) rfl (by decide) (List.mem_cons_of_mem _ gw_247) d_L_lookInTable_1 (fun r1 => ?_)
  refine ga_getR (C := "LevelStore$Levels") (T := T_V) (N := 9) (k := 0) (ci := 1) (fun x h => List.mem_cons_of_mem _ (iw_V x h)) rfl (by decide) (List.mem_cons_of_mem _ gw_209) d_L_lookInTable_4 (fun r2 => ?_)
  refine ga_astore (lv2 := [(4, .ref r2), (0, .ref p0), (1, .int p1), (2, .int p2), (3, .int p3)]) d_L_lookInTable_7 (by decide) rfl ?_
  refine ga_aload (q := 0) d_L_lookInTable_9 rfl ?_
  refine ga_iload_n (q := 2) d_L_lookInTable_11 rfl rfl ?_
  refine ga_iload_n (q := 3) d_L_lookInTable_12 rfl rfl ?_
  refine ga_invV (nA := 2) (ci := 3) (T := T_S) (N := 5) (av := [.int p1, .int p2]) (a := r2) (st := []) (m_S_passes hst F r2 p1 p2 w) (Or.inl rfl) (gz_gV gw_630 gw_631 gw_632 gw_55 gw_633) rfl ⟨rfl, by decide +kernel⟩ rfl (by decide) (by decide) (Nat.le_of_ble_eq_true rfl) rfl d_L_lookInTable_13 (ga_vI (fun v4 w3 => ?_)) (fun _ _ => ga_thru rfl)
  refine ga_if_ne (tgt := 31) d_L_lookInTable_16 (by decide) (fun h5 => ?_) (fun h5 => ?_)
  · refine ga_aload_n (q := 1) d_L_lookInTable_19 rfl rfl ?_
    refine ga_dup d_L_lookInTable_20 rfl ?_
    refine ga_getI (C := "LevelStore") (T := T_L) (N := 9) (k := 7) (ci := 5) (fun x h => List.mem_cons_of_mem _ (iw_L x h)) rfl (by decide) (List.mem_cons_of_mem _ gw_253) d_L_lookInTable_21 (fun v6 => ?_)
    refine ga_iconst (v := (1 : Int32)) d_L_lookInTable_24 (by decide) ?_
    refine ga_iadd d_L_lookInTable_25 ?_
    refine ga_putB (C := "LevelStore") (T := T_L) (N := 9) (k := 7) (ci := 5) (ty0 := ty_L) (fun x h => List.mem_cons_of_mem _ (iw_L x h)) ty_L_ok nm_L rfl (by decide) (List.mem_cons_of_mem _ gw_253) (Or.inl rfl) (fun _ => ⟨rfl, rfl⟩) d_L_lookInTable_26 (fun w7 => ?_)
    refine ga_iconst (v := (-1 : Int32)) d_L_lookInTable_29 (by decide) ?_
    exact ga_iret rfl d_L_lookInTable_30
  · refine ga_aload (q := 0) d_L_lookInTable_31 rfl ?_
    refine ga_getR (C := "LevelStore$Shelf") (T := T_S) (N := 5) (k := 3) (ci := 3) (fun x h => List.mem_cons_of_mem _ (iw_S x h)) rfl (by decide) (List.mem_cons_of_mem _ gw_172) d_L_lookInTable_33 (fun r8 => ?_)
    refine ga_iload_n (q := 2) d_L_lookInTable_36 rfl rfl ?_
    refine ga_iconst (v := (1 : Int32)) d_L_lookInTable_37 (by decide) ?_
    refine ga_iadd d_L_lookInTable_38 ?_
    refine ga_ldI (t := 0) rfl d_L_lookInTable_39 (fun v9 => ?_)
    refine ga_istore (lv2 := [(5, .int v9), (4, .ref r2), (0, .ref p0), (1, .int p1), (2, .int p2), (3, .int p3)]) d_L_lookInTable_40 (by decide) rfl ?_
    refine ga_aload (q := 1) d_L_lookInTable_42 rfl ?_
    refine ga_iload_n (q := 3) d_L_lookInTable_44 rfl rfl ?_
    refine ga_iload_n (q := 4) d_L_lookInTable_45 rfl rfl ?_
    refine ga_invV (nA := 2) (ci := 3) (T := T_S) (N := 5) (av := [.int p1, .int p2]) (a := r2) (st := []) (m_S_firstBlockFor hst F r2 p1 p2 w3) (Or.inl rfl) (gz_gV gw_640 gw_641 gw_642 gw_55 gw_643) rfl ⟨rfl, by decide +kernel⟩ rfl (by decide) (by decide) (Nat.le_of_ble_eq_true rfl) rfl d_L_lookInTable_46 (ga_vI (fun v11 w10 => ?_)) (fun _ _ => ga_thru rfl)
    refine ga_istore (lv2 := [(6, .int v11), (5, .int v9), (4, .ref r2), (0, .ref p0), (1, .int p1), (2, .int p2), (3, .int p3)]) d_L_lookInTable_49 (by decide) rfl ?_
    refine ga_sub (lv2 := [(0, .ref p0), (2, .int p2), (3, .int p3), (4, .ref r2), (5, .int v9), (6, .int v11)]) [3, 5, 6, 2, 1, 0] rfl ?_
    exact h_L_lookInTable_51 hst F p0 p2 p3 r2 v9 F v11 w10
noncomputable def f_L_lookInTables_2 (F : Nat) (x0 : Nat) (x1 : Int32) (x2 : Int32) : Nat → Int32 → ga_W → ga_O
  | 0, _, _ => none
  | n + 1, x3, w => ((ga_gr w 5 1 x0).bind fun r1 => ((ga_gr w 1 0 r1).bind fun r2 => ((ga_gi w 3 4 r2).bind fun v3 => (if v3 ≤ x3 then (some (.inl (some (.int (-1 : Int32))), w)) else ((ga_gr w 5 1 x0).bind fun r5 => ((ga_gr w 1 0 r5).bind fun r6 => (if ga_is w 3 r6 = true then ga_c (f_S_spans F r6 x3 x1 w) (ga_kI fun v8 w7 => (if v8 = 0 then (f_L_lookInTables_2 F x0 x1 x2 n (x3 + (1 : Int32)) w7) else (if ga_is w7 5 x0 = true then ga_c (f_L_lookInTable F x0 x3 x1 x2 w7) (ga_kI fun v11 w10 => (if v11 = (-1 : Int32) then (f_L_lookInTables_2 F x0 x1 x2 n (x3 + (1 : Int32)) w10) else (some (.inl (some (.int v11)), w10)))) ga_up else none))) ga_up else none)))))))
noncomputable def f_L_lookInTables (F : Nat) (p0 : Nat) (p1 : Int32) (p2 : Int32) (w : ga_W) : ga_O :=
  (f_L_lookInTables_2 F p0 p1 p2 F (0 : Int32) w)
set_option maxHeartbeats 4000000 in
set_option maxRecDepth 100000 in
theorem h_L_lookInTables_2 (hst : l.stackTraces = false) (F : Nat) (x0 : Nat) (x1 : Int32) (x2 : Int32) : ∀ (n : Nat) (x3 : Int32) (w : ga_W), ga_J l S0 D gz_cl (gz_tA cT) base b gz_xn p e R s m args below meth c 5 ws_L_lookInTables y_L_lookInTables.cls c_L_lookInTables (some .int) [] y_L_lookInTables.name 7 117 true ad0 w0 (ga_MQ gz_xn D gz_cl (gz_tA cT) base b s args below ad0 w0) 2 [(0, .ref x0), (1, .int x1), (2, .int x2), (3, .int x3)] [] w (f_L_lookInTables_2 F x0 x1 x2 n x3 w) := by
  intro n
  induction n with
  | zero => intro x3 w; exact ga_no
  | succ n ih =>
    intro x3 w
    rw [f_L_lookInTables_2]
    refine ga_iload_n (q := 3) d_L_lookInTables_2 rfl rfl ?_
    refine ga_aload_n (q := 0) d_L_lookInTables_3 rfl rfl ?_
    refine ga_getR (C := "LevelStore") (T := T_L) (N := 9) (k := 1) (ci := 5) (fun x h => List.mem_cons_of_mem _ (iw_L x h)) rfl (by decide) (List.mem_cons_of_mem _ gw_247) d_L_lookInTables_4 (fun r1 => ?_)
    refine ga_getR (C := "LevelStore$Levels") (T := T_V) (N := 9) (k := 0) (ci := 1) (fun x h => List.mem_cons_of_mem _ (iw_V x h)) rfl (by decide) (List.mem_cons_of_mem _ gw_209) d_L_lookInTables_7 (fun r2 => ?_)
    refine ga_getI (C := "LevelStore$Shelf") (T := T_S) (N := 5) (k := 4) (ci := 3) (fun x h => List.mem_cons_of_mem _ (iw_S x h)) rfl (by decide) (List.mem_cons_of_mem _ gw_175) d_L_lookInTables_10 (fun v3 => ?_)
    refine ga_icmp_ge (tgt := 55) d_L_lookInTables_13 (by decide) (fun h4 => ?_) (fun h4 => ?_)
    · refine ga_iconst (v := (-1 : Int32)) d_L_lookInTables_55 (by decide) ?_
      exact ga_iret rfl d_L_lookInTables_56
    · refine ga_aload_n (q := 0) d_L_lookInTables_16 rfl rfl ?_
      refine ga_getR (C := "LevelStore") (T := T_L) (N := 9) (k := 1) (ci := 5) (fun x h => List.mem_cons_of_mem _ (iw_L x h)) rfl (by decide) (List.mem_cons_of_mem _ gw_247) d_L_lookInTables_17 (fun r5 => ?_)
      refine ga_getR (C := "LevelStore$Levels") (T := T_V) (N := 9) (k := 0) (ci := 1) (fun x h => List.mem_cons_of_mem _ (iw_V x h)) rfl (by decide) (List.mem_cons_of_mem _ gw_209) d_L_lookInTables_20 (fun r6 => ?_)
      refine ga_iload_n (q := 3) d_L_lookInTables_23 rfl rfl ?_
      refine ga_iload_n (q := 1) d_L_lookInTables_24 rfl rfl ?_
      refine ga_invV (nA := 2) (ci := 3) (T := T_S) (N := 5) (av := [.int x3, .int x1]) (a := r6) (st := []) (m_S_spans hst F r6 x3 x1 w) (Or.inl rfl) (gz_gV gw_625 gw_392 gw_393 gw_55 gw_394) rfl ⟨rfl, by decide +kernel⟩ rfl (by decide) (by decide) (Nat.le_of_ble_eq_true rfl) rfl d_L_lookInTables_25 (ga_vI (fun v8 w7 => ?_)) (fun _ _ => ga_thru rfl)
      refine ga_if_eq (tgt := 49) d_L_lookInTables_28 (by decide) (fun h9 => ?_) (fun h9 => ?_)
      · refine ga_iinc (q := 3) (v := (x3 + (1 : Int32))) (lv2 := [(3, .int (x3 + (1 : Int32))), (0, .ref x0), (1, .int x1), (2, .int x2)]) d_L_lookInTables_49 rfl rfl (by decide) rfl ?_
        refine ga_goto (tgt := 2) d_L_lookInTables_52 (by decide) ?_
        refine ga_sub (lv2 := [(0, .ref x0), (1, .int x1), (2, .int x2), (3, .int (x3 + (1 : Int32)))]) [1, 2, 3, 0] rfl ?_
        exact ih _ _
      · refine ga_aload_n (q := 0) d_L_lookInTables_31 rfl rfl ?_
        refine ga_iload_n (q := 3) d_L_lookInTables_32 rfl rfl ?_
        refine ga_iload_n (q := 1) d_L_lookInTables_33 rfl rfl ?_
        refine ga_iload_n (q := 2) d_L_lookInTables_34 rfl rfl ?_
        refine ga_invV (nA := 3) (ci := 5) (T := T_L) (N := 9) (av := [.int x3, .int x1, .int x2]) (a := x0) (st := []) (m_L_lookInTable hst F x0 x3 x1 x2 w7) (Or.inl rfl) (gz_gV gw_626 gw_628 gw_16 gw_51 gw_629) rfl ⟨rfl, by decide +kernel⟩ rfl (by decide) (by decide) (Nat.le_of_ble_eq_true rfl) rfl d_L_lookInTables_35 (ga_vI (fun v11 w10 => ?_)) (fun _ _ => ga_thru rfl)
        refine ga_istore (lv2 := [(4, .int v11), (0, .ref x0), (1, .int x1), (2, .int x2), (3, .int x3)]) d_L_lookInTables_38 (by decide) rfl ?_
        refine ga_iload (q := 0) d_L_lookInTables_40 rfl ?_
        refine ga_iconst (v := (-1 : Int32)) d_L_lookInTables_42 (by decide) ?_
        refine ga_icmp_eq (tgt := 49) d_L_lookInTables_43 (by decide) (fun h12 => ?_) (fun h12 => ?_)
        · refine ga_iinc (q := 4) (v := (x3 + (1 : Int32))) (lv2 := [(3, .int (x3 + (1 : Int32))), (4, .int v11), (0, .ref x0), (1, .int x1), (2, .int x2)]) d_L_lookInTables_49 rfl rfl (by decide) rfl ?_
          refine ga_goto (tgt := 2) d_L_lookInTables_52 (by decide) ?_
          refine ga_sub (lv2 := [(0, .ref x0), (1, .int x1), (2, .int x2), (3, .int (x3 + (1 : Int32)))]) [2, 3, 4, 0] rfl ?_
          exact ih _ _
        · refine ga_iload (q := 0) d_L_lookInTables_46 rfl ?_
          exact ga_iret rfl d_L_lookInTables_48
set_option maxHeartbeats 4000000 in
set_option maxRecDepth 100000 in
theorem m_L_lookInTables (hst : l.stackTraces = false) (F : Nat) (p0 : Nat) (p1 : Int32) (p2 : Int32) (w : ga_W) : ga_M l S0 D gz_cl (gz_tA cT) base b gz_xn y_L_lookInTables ws_L_lookInTables 7 117 true [.ref p0, .int p1, .int p2] w (f_L_lookInTables F p0 p1 p2 w) := by
  refine ga_enter (cc := c_L_lookInTables) (maxL := 5) (ret := (some .int)) hst (by decide) rfl (Nat.le_of_ble_eq_true rfl) ?_
  intro p e R s m args below meth c ad0
  refine ga_sub (lv2 := [(0, .ref p0), (1, .int p1), (2, .int p2)]) [0, 1, 2] rfl ?_
  unfold f_L_lookInTables
  refine ga_iconst (v := (0 : Int32)) d_L_lookInTables_0 (by decide) ?_
  refine ga_istore_n (lv2 := [(3, .int (0 : Int32)), (0, .ref p0), (1, .int p1), (2, .int p2)]) d_L_lookInTables_1 rfl (by decide) rfl ?_
  refine ga_sub (lv2 := [(0, .ref p0), (1, .int p1), (2, .int p2), (3, .int (0 : Int32))]) [1, 2, 3, 0] rfl ?_
  exact h_L_lookInTables_2 hst F p0 p1 p2 F (0 : Int32) w
end GM7
