/-! WALKS: V_merge, V_tidy, L_giveUp, L_requireWithin, E_add -/
section GM4
variable {l : Launch} {S0 : State} {D : va_G} {cT : Nat → ClassId} {base b : Nat} {p : Program} {e : Env} {R : Room} {s : State} {m : MethodId} {args : Array Value} {below : List Frame} {meth : Method} {c : Code} {ad0 : Nat → Nat} {w0 : ga_W}
noncomputable def f_V_merge_10 (F : Nat) (x0 : Nat) (x1 : Int32) (x2 : Int32) (x3 : Int32) (x4 : Int32) (K54 : Int32 → Int32 → ga_W → ga_O) : Nat → Int32 → Int32 → Int32 → ga_W → ga_O
  | 0, _, _, _, _ => none
  | n + 1, x5, x6, x7, w => (if x2 ≤ x7 then (K54 x5 x6 w) else ((ga_gr w 1 0 x0).bind fun r2 => (if ga_is w 3 r2 = true then ga_c (f_S_leastKey F r2 x7 w) (ga_kI fun v4 w3 => ((ga_gr w3 1 0 x0).bind fun r5 => (if ga_is w3 3 r5 = true then ga_c (f_S_greatestKey F r5 x7 w3) (ga_kI fun v7 w6 => (f_V_merge_10 F x0 x1 x2 x3 x4 K54 n (if v4 < x5 then v4 else x5) (if x6 < v7 then v7 else x6) (x7 + (1 : Int32)) w6)) ga_up else none))) ga_up else none)))
noncomputable def f_V_merge_57 (F : Nat) (x0 : Nat) (x1 : Int32) (x2 : Int32) (x3 : Int32) (x4 : Int32) (x5 : Int32) (x6 : Int32) (K179 : ga_W → ga_O) : Nat → Int32 → ga_W → ga_O
  | 0, _, _ => none
  | n + 1, x7, w => ((ga_gr w 1 0 x0).bind fun r1 => ((ga_gi w 3 4 r1).bind fun v2 => (if v2 ≤ x7 then (K179 w) else ((ga_gr w 1 0 x0).bind fun r4 => ((ga_gr w 3 2 r4).bind fun r5 => ((ga_ai w 0 r5 x7).bind fun v6 => (ga_jn (fun (y19 : Int32) (w20 : ga_W) => ((ga_gr w20 1 4 x0).bind fun r22 => (ga_jn (fun (y31 : Int32) (w32 : ga_W) => ((ga_sz w32 1 r22 x7 y31).bind fun w34 => ((ga_gi w34 1 6 x0).bind fun v35 => (if v35 = 0 then ((ga_gr w34 1 4 x0).bind fun r37 => ((ga_az w34 1 r37 x7).bind fun v38 => (if v38 = 0 then ((ga_put w34 1 6 x0 (.int (0 : Int32))).bind fun w40 => (f_V_merge_57 F x0 x1 x2 x3 x4 x5 x6 K179 n (x7 + (1 : Int32)) w40)) else ((ga_gr w34 1 0 x0).bind fun r41 => (if ga_is w34 3 r41 = true then ga_c (f_S_spoiledBlocksOf F r41 x7 w34) (ga_kI fun v43 w42 => (if v43 ≤ 0 then ((ga_put w42 1 6 x0 (.int (0 : Int32))).bind fun w45 => (f_V_merge_57 F x0 x1 x2 x3 x4 x5 x6 K179 n (x7 + (1 : Int32)) w45)) else ((ga_put w42 1 6 x0 (.int (1 : Int32))).bind fun w46 => (f_V_merge_57 F x0 x1 x2 x3 x4 x5 x6 K179 n (x7 + (1 : Int32)) w46)))) ga_up else none))))) else ((ga_put w34 1 6 x0 (.int (1 : Int32))).bind fun w47 => (f_V_merge_57 F x0 x1 x2 x3 x4 x5 x6 K179 n (x7 + (1 : Int32)) w47)))))) (fun K33 => (ga_jn (fun  (w51 : ga_W) => (K33 (1 : Int32) w51)) (fun K52 => (if y19 = 0 then (if x7 < x1 then (K33 (0 : Int32) w20) else (if x2 ≤ x7 then (K33 (0 : Int32) w20) else (K52 w20))) else (K52 w20)))))))) (fun K21 => (ga_jn (fun  (w61 : ga_W) => (K21 (0 : Int32) w61)) (fun K62 => (if v6 = x3 then ((ga_gr w 1 0 x0).bind fun r64 => (if ga_is w 3 r64 = true then ga_c (f_S_meets F r64 x7 x5 x6 w) (ga_kI fun v66 w65 => (if v66 = 0 then (K62 w65) else (K21 (1 : Int32) w65))) ga_up else none)) else (K62 w))))))))))))
noncomputable def f_V_merge (F : Nat) (p0 : Nat) (p1 : Int32) (p2 : Int32) (p3 : Int32) (p4 : Int32) (w : ga_W) : ga_O :=
  (f_V_merge_10 F p0 p1 p2 p3 p4 (fun (z1 : Int32) (z2 : Int32) (w3 : ga_W) => (f_V_merge_57 F p0 p1 p2 p3 p4 z1 z2 (fun (w4 : ga_W) => ((ga_gi w4 1 6 p0).bind fun v5 => (if v5 = 0 then (if ga_is w4 1 p0 = true then ga_c (f_V_sortJoining F p0 w4) (ga_kV fun w7 => ((ga_gr w7 1 0 p0).bind fun r8 => (if ga_is w7 3 r8 = true then ga_c (f_S_placeBehind F r8 p3 z2 w7) (ga_kI fun v10 w9 => ((ga_gr w9 1 1 p0).bind fun r11 => (if ga_is w9 3 r11 = true then ga_c (f_S_clear F r11 w9) (ga_kV fun w12 => (if ga_is w12 1 p0 = true then ga_c (f_V_addStaying F p0 (0 : Int32) v10 w12) (ga_kV fun w13 => (if ga_is w13 1 p0 = true then ga_c (f_V_addMerged F p0 p3 p4 w13) (ga_kV fun w14 => ((ga_gr w14 1 0 p0).bind fun r15 => ((ga_gi w14 3 4 r15).bind fun v16 => (if ga_is w14 1 p0 = true then ga_c (f_V_addStaying F p0 v10 v16 w14) (ga_kV fun w17 => (if ga_is w17 1 p0 = true then ga_c (f_V_changeShelf F p0 w17) (ga_kV fun w18 => ((ga_gr w18 1 5 p0).bind fun r19 => ((ga_si w18 0 r19 (p3 - (1 : Int32)) z2).bind fun w20 => (some (.inl none, w20))))) ga_up else none)) ga_up else none)))) ga_up else none)) ga_up else none)) ga_up else none))) ga_up else none))) ga_up else none) else (some (.inl none, w4))))) F (0 : Int32) w3)) F (64 : Int32) (-1 : Int32) p1 w)
set_option maxHeartbeats 4000000 in
set_option maxRecDepth 100000 in
theorem h_V_merge_10 (hst : l.stackTraces = false) (F : Nat) (x0 : Nat) (x1 : Int32) (x2 : Int32) (x3 : Int32) (x4 : Int32) (K54 : Int32 → Int32 → ga_W → ga_O) (hK54 : ∀ (z5 : Int32) (z6 : Int32) (w : ga_W), ga_J l S0 D gz_cl (gz_tA cT) base b gz_xn p e R s m args below meth c 9 ws_V_merge y_V_merge.cls c_V_merge none [] y_V_merge.name 3 72 true ad0 w0 (ga_MQ gz_xn D gz_cl (gz_tA cT) base b s args below ad0 w0) 54 [(0, .ref x0), (1, .int x1), (2, .int x2), (3, .int x3), (4, .int x4), (5, .int z5), (6, .int z6)] [] w (K54 z5 z6 w)) : ∀ (n : Nat) (x5 : Int32) (x6 : Int32) (x7 : Int32) (w : ga_W), ga_J l S0 D gz_cl (gz_tA cT) base b gz_xn p e R s m args below meth c 9 ws_V_merge y_V_merge.cls c_V_merge none [] y_V_merge.name 3 72 true ad0 w0 (ga_MQ gz_xn D gz_cl (gz_tA cT) base b s args below ad0 w0) 10 [(0, .ref x0), (1, .int x1), (2, .int x2), (3, .int x3), (4, .int x4), (5, .int x5), (6, .int x6), (7, .int x7)] [] w (f_V_merge_10 F x0 x1 x2 x3 x4 K54 n x5 x6 x7 w) := by
  intro n
  induction n with
  | zero => intro x5 x6 x7 w; exact ga_no
  | succ n ih =>
    intro x5 x6 x7 w
    rw [f_V_merge_10]
    refine ga_iload (q := 7) d_V_merge_10 rfl ?_
    refine ga_iload_n (q := 2) d_V_merge_12 rfl rfl ?_
    refine ga_icmp_ge (tgt := 54) d_V_merge_13 (by decide) (fun h1 => ?_) (fun h1 => ?_)
    · refine ga_sub (lv2 := [(0, .ref x0), (1, .int x1), (2, .int x2), (3, .int x3), (4, .int x4), (5, .int x5), (6, .int x6)]) [0, 1, 2, 3, 4, 5, 6] rfl ?_
      exact hK54 _ _ _
    · refine ga_iload (q := 5) d_V_merge_16 rfl ?_
      refine ga_aload_n (q := 0) d_V_merge_18 rfl rfl ?_
      refine ga_getR (C := "LevelStore$Levels") (T := T_V) (N := 9) (k := 0) (ci := 1) (fun x h => List.mem_cons_of_mem _ (iw_V x h)) rfl (by decide) (List.mem_cons_of_mem _ gw_208) d_V_merge_19 (fun r2 => ?_)
      refine ga_iload (q := 7) d_V_merge_22 rfl ?_
      refine ga_invV (nA := 1) (ci := 3) (T := T_S) (N := 5) (av := [.int x7]) (a := r2) (st := [.int x5]) (m_S_leastKey hst F r2 x7 w) (Or.inl rfl) (gz_gV gw_337 gw_330 gw_331 gw_55 gw_332) rfl ⟨rfl, by decide +kernel⟩ rfl (by decide) (by decide) (Nat.le_of_ble_eq_true rfl) rfl d_V_merge_24 (ga_vI (fun v4 w3 => ?_)) (fun _ _ => ga_thru rfl)
      refine ga_min (List.mem_cons_of_mem _ gw_338) (List.mem_cons_of_mem _ gw_311) (List.mem_cons_of_mem _ gw_65) (List.mem_cons_of_mem _ gw_312) (Nat.le_of_ble_eq_true rfl) (by decide) (by decide) d_V_merge_27 ?_
      refine ga_istore (lv2 := [(5, .int (if v4 < x5 then v4 else x5)), (0, .ref x0), (1, .int x1), (2, .int x2), (3, .int x3), (4, .int x4), (6, .int x6), (7, .int x7)]) d_V_merge_30 (by decide) rfl ?_
      refine ga_iload (q := 6) d_V_merge_32 rfl ?_
      refine ga_aload_n (q := 1) d_V_merge_34 rfl rfl ?_
      refine ga_getR (C := "LevelStore$Levels") (T := T_V) (N := 9) (k := 0) (ci := 1) (fun x h => List.mem_cons_of_mem _ (iw_V x h)) rfl (by decide) (List.mem_cons_of_mem _ gw_208) d_V_merge_35 (fun r5 => ?_)
      refine ga_iload (q := 7) d_V_merge_38 rfl ?_
      refine ga_invV (nA := 1) (ci := 3) (T := T_S) (N := 5) (av := [.int x7]) (a := r5) (st := [.int x6]) (m_S_greatestKey hst F r5 x7 w3) (Or.inl rfl) (gz_gV gw_339 gw_340 gw_341 gw_55 gw_342) rfl ⟨rfl, by decide +kernel⟩ rfl (by decide) (by decide) (Nat.le_of_ble_eq_true rfl) rfl d_V_merge_40 (ga_vI (fun v7 w6 => ?_)) (fun _ _ => ga_thru rfl)
      refine ga_max (List.mem_cons_of_mem _ gw_343) (List.mem_cons_of_mem _ gw_344) (List.mem_cons_of_mem _ gw_65) (List.mem_cons_of_mem _ gw_345) (Nat.le_of_ble_eq_true rfl) (by decide) (by decide) d_V_merge_43 ?_
      refine ga_istore (lv2 := [(6, .int (if x6 < v7 then v7 else x6)), (5, .int (if v4 < x5 then v4 else x5)), (0, .ref x0), (1, .int x1), (2, .int x2), (3, .int x3), (4, .int x4), (7, .int x7)]) d_V_merge_46 (by decide) rfl ?_
      refine ga_iinc (q := 7) (v := (x7 + (1 : Int32))) (lv2 := [(7, .int (x7 + (1 : Int32))), (6, .int (if x6 < v7 then v7 else x6)), (5, .int (if v4 < x5 then v4 else x5)), (0, .ref x0), (1, .int x1), (2, .int x2), (3, .int x3), (4, .int x4)]) d_V_merge_48 rfl rfl (by decide) rfl ?_
      refine ga_goto (tgt := 10) d_V_merge_51 (by decide) ?_
      refine ga_sub (lv2 := [(0, .ref x0), (1, .int x1), (2, .int x2), (3, .int x3), (4, .int x4), (5, .int (if v4 < x5 then v4 else x5)), (6, .int (if x6 < v7 then v7 else x6)), (7, .int (x7 + (1 : Int32)))]) [3, 4, 5, 6, 7, 2, 1, 0] rfl ?_
      exact ih _ _ _ _
set_option maxHeartbeats 4000000 in
set_option maxRecDepth 100000 in
theorem h_V_merge_57 (hst : l.stackTraces = false) (F : Nat) (x0 : Nat) (x1 : Int32) (x2 : Int32) (x3 : Int32) (x4 : Int32) (x5 : Int32) (x6 : Int32) (K179 : ga_W → ga_O) (hK179 : ∀ (w : ga_W), ga_J l S0 D gz_cl (gz_tA cT) base b gz_xn p e R s m args below meth c 9 ws_V_merge y_V_merge.cls c_V_merge none [] y_V_merge.name 3 72 true ad0 w0 (ga_MQ gz_xn D gz_cl (gz_tA cT) base b s args below ad0 w0) 179 [(0, .ref x0), (3, .int x3), (4, .int x4), (6, .int x6)] [] w (K179 w)) : ∀ (n : Nat) (x7 : Int32) (w : ga_W), ga_J l S0 D gz_cl (gz_tA cT) base b gz_xn p e R s m args below meth c 9 ws_V_merge y_V_merge.cls c_V_merge none [] y_V_merge.name 3 72 true ad0 w0 (ga_MQ gz_xn D gz_cl (gz_tA cT) base b s args below ad0 w0) 57 [(0, .ref x0), (1, .int x1), (2, .int x2), (3, .int x3), (4, .int x4), (5, .int x5), (6, .int x6), (7, .int x7)] [] w (f_V_merge_57 F x0 x1 x2 x3 x4 x5 x6 K179 n x7 w) := by
  intro n
  induction n with
  | zero => intro x7 w; exact ga_no
  | succ n ih =>
    intro x7 w
    rw [f_V_merge_57]
    refine ga_iload (q := 7) d_V_merge_57 rfl ?_
    refine ga_aload_n (q := 0) d_V_merge_59 rfl rfl ?_
    refine ga_getR (C := "LevelStore$Levels") (T := T_V) (N := 9) (k := 0) (ci := 1) (fun x h => List.mem_cons_of_mem _ (iw_V x h)) rfl (by decide) (List.mem_cons_of_mem _ gw_208) d_V_merge_60 (fun r1 => ?_)
    refine ga_getI (C := "LevelStore$Shelf") (T := T_S) (N := 5) (k := 4) (ci := 3) (fun x h => List.mem_cons_of_mem _ (iw_S x h)) rfl (by decide) (List.mem_cons_of_mem _ gw_174) d_V_merge_63 (fun v2 => ?_)
    refine ga_icmp_ge (tgt := 179) d_V_merge_66 (by decide) (fun h3 => ?_) (fun h3 => ?_)
    · refine ga_sub (lv2 := [(0, .ref x0), (3, .int x3), (4, .int x4), (6, .int x6)]) [0, 3, 4, 6] rfl ?_
      exact hK179  _
    · refine ga_aload_n (q := 0) d_V_merge_69 rfl rfl ?_
      refine ga_getR (C := "LevelStore$Levels") (T := T_V) (N := 9) (k := 0) (ci := 1) (fun x h => List.mem_cons_of_mem _ (iw_V x h)) rfl (by decide) (List.mem_cons_of_mem _ gw_208) d_V_merge_70 (fun r4 => ?_)
      refine ga_getR (C := "LevelStore$Shelf") (T := T_S) (N := 5) (k := 2) (ci := 3) (fun x h => List.mem_cons_of_mem _ (iw_S x h)) rfl (by decide) (List.mem_cons_of_mem _ gw_168) d_V_merge_73 (fun r5 => ?_)
      refine ga_iload (q := 7) d_V_merge_76 rfl ?_
      refine ga_ldI (t := 0) rfl d_V_merge_78 (fun v6 => ?_)
      refine ga_iload_n (q := 3) d_V_merge_79 rfl rfl ?_
      refine ga_join (fun (K21 : Int32 → ga_W → ga_O) => ∀ (y19 : Int32) (w20 : ga_W), ga_J l S0 D gz_cl (gz_tA cT) base b gz_xn p e R s m args below meth c 9 ws_V_merge y_V_merge.cls c_V_merge none [] y_V_merge.name 3 72 true ad0 w0 (ga_MQ gz_xn D gz_cl (gz_tA cT) base b s args below ad0 w0) 104 [(0, .ref x0), (1, .int x1), (2, .int x2), (3, .int x3), (4, .int x4), (5, .int x5), (6, .int x6), (7, .int x7)] [.int y19] w20 (K21 y19 w20)) (fun y19 w20 => ?_) (fun K21 hK21 => ?_)
      · refine ga_istore (lv2 := [(8, .int y19), (0, .ref x0), (1, .int x1), (2, .int x2), (3, .int x3), (4, .int x4), (5, .int x5), (6, .int x6), (7, .int x7)]) d_V_merge_104 (by decide) rfl ?_
        refine ga_aload_n (q := 1) d_V_merge_106 rfl rfl ?_
        refine ga_getR (C := "LevelStore$Levels") (T := T_V) (N := 9) (k := 4) (ci := 1) (fun x h => List.mem_cons_of_mem _ (iw_V x h)) rfl (by decide) (List.mem_cons_of_mem _ gw_213) d_V_merge_107 (fun r22 => ?_)
        refine ga_iload (q := 8) d_V_merge_110 rfl ?_
        refine ga_iload (q := 0) d_V_merge_112 rfl ?_
        refine ga_join (fun (K33 : Int32 → ga_W → ga_O) => ∀ (y31 : Int32) (w32 : ga_W), ga_J l S0 D gz_cl (gz_tA cT) base b gz_xn p e R s m args below meth c 9 ws_V_merge y_V_merge.cls c_V_merge none [] y_V_merge.name 3 72 true ad0 w0 (ga_MQ gz_xn D gz_cl (gz_tA cT) base b s args below ad0 w0) 134 [(0, .ref x0), (1, .int x1), (2, .int x2), (3, .int x3), (4, .int x4), (5, .int x5), (6, .int x6), (7, .int x7)] [.int y31, .int x7, .ref r22] w32 (K33 y31 w32)) (fun y31 w32 => ?_) (fun K33 hK33 => ?_)
        · refine ga_stZ (t := 1) rfl d_V_merge_134 (fun w34 => ?_)
          refine ga_aload_n (q := 0) d_V_merge_135 rfl rfl ?_
          refine ga_aload_n (q := 0) d_V_merge_136 rfl rfl ?_
          refine ga_getI (C := "LevelStore$Levels") (T := T_V) (N := 9) (k := 6) (ci := 1) (fun x h => List.mem_cons_of_mem _ (iw_V x h)) rfl (by decide) (List.mem_cons_of_mem _ gw_216) d_V_merge_137 (fun v35 => ?_)
          refine ga_if_ne (tgt := 165) d_V_merge_140 (by decide) (fun h36 => ?_) (fun h36 => ?_)
          · refine ga_aload_n (q := 0) d_V_merge_143 rfl rfl ?_
            refine ga_getR (C := "LevelStore$Levels") (T := T_V) (N := 9) (k := 4) (ci := 1) (fun x h => List.mem_cons_of_mem _ (iw_V x h)) rfl (by decide) (List.mem_cons_of_mem _ gw_213) d_V_merge_144 (fun r37 => ?_)
            refine ga_iload (q := 7) d_V_merge_147 rfl ?_
            refine ga_ldZ (t := 1) rfl d_V_merge_149 (fun v38 => ?_)
            refine ga_if_eq (tgt := 169) d_V_merge_150 (by decide) (fun h39 => ?_) (fun h39 => ?_)
            · refine ga_iconst (v := (0 : Int32)) d_V_merge_169 (by decide) ?_
              refine ga_putB (C := "LevelStore$Levels") (T := T_V) (N := 9) (k := 6) (ci := 1) (ty0 := ty_V) (fun x h => List.mem_cons_of_mem _ (iw_V x h)) ty_V_ok nm_V rfl (by decide) (List.mem_cons_of_mem _ gw_216) (Or.inl rfl) (fun _ => ⟨rfl, rfl⟩) d_V_merge_170 (fun w40 => ?_)
              refine ga_iinc (q := 7) (v := (x7 + (1 : Int32))) (lv2 := [(7, .int (x7 + (1 : Int32))), (0, .ref x0), (1, .int x1), (2, .int x2), (3, .int x3), (4, .int x4), (5, .int x5), (6, .int x6)]) d_V_merge_173 rfl rfl (by decide) rfl ?_
              refine ga_goto (tgt := 57) d_V_merge_176 (by decide) ?_
              refine ga_sub (lv2 := [(0, .ref x0), (1, .int x1), (2, .int x2), (3, .int x3), (4, .int x4), (5, .int x5), (6, .int x6), (7, .int (x7 + (1 : Int32)))]) [1, 2, 3, 4, 5, 6, 7, 0] rfl ?_
              exact ih _ _
            · refine ga_aload_n (q := 0) d_V_merge_153 rfl rfl ?_
              refine ga_getR (C := "LevelStore$Levels") (T := T_V) (N := 9) (k := 0) (ci := 1) (fun x h => List.mem_cons_of_mem _ (iw_V x h)) rfl (by decide) (List.mem_cons_of_mem _ gw_208) d_V_merge_154 (fun r41 => ?_)
              refine ga_iload (q := 7) d_V_merge_157 rfl ?_
              refine ga_invV (nA := 1) (ci := 3) (T := T_S) (N := 5) (av := [.int x7]) (a := r41) (st := [.ref x0]) (m_S_spoiledBlocksOf hst F r41 x7 w34) (Or.inl rfl) (gz_gV gw_351 gw_352 gw_353 gw_55 gw_354) rfl ⟨rfl, by decide +kernel⟩ rfl (by decide) (by decide) (Nat.le_of_ble_eq_true rfl) rfl d_V_merge_159 (ga_vI (fun v43 w42 => ?_)) (fun _ _ => ga_thru rfl)
              refine ga_if_le (tgt := 169) d_V_merge_162 (by decide) (fun h44 => ?_) (fun h44 => ?_)
              · refine ga_iconst (v := (0 : Int32)) d_V_merge_169 (by decide) ?_
                refine ga_putB (C := "LevelStore$Levels") (T := T_V) (N := 9) (k := 6) (ci := 1) (ty0 := ty_V) (fun x h => List.mem_cons_of_mem _ (iw_V x h)) ty_V_ok nm_V rfl (by decide) (List.mem_cons_of_mem _ gw_216) (Or.inl rfl) (fun _ => ⟨rfl, rfl⟩) d_V_merge_170 (fun w45 => ?_)
                refine ga_iinc (q := 7) (v := (x7 + (1 : Int32))) (lv2 := [(7, .int (x7 + (1 : Int32))), (0, .ref x0), (1, .int x1), (2, .int x2), (3, .int x3), (4, .int x4), (5, .int x5), (6, .int x6)]) d_V_merge_173 rfl rfl (by decide) rfl ?_
                refine ga_goto (tgt := 57) d_V_merge_176 (by decide) ?_
                refine ga_sub (lv2 := [(0, .ref x0), (1, .int x1), (2, .int x2), (3, .int x3), (4, .int x4), (5, .int x5), (6, .int x6), (7, .int (x7 + (1 : Int32)))]) [1, 2, 3, 4, 5, 6, 7, 0] rfl ?_
                exact ih _ _
              · refine ga_iconst (v := (1 : Int32)) d_V_merge_165 (by decide) ?_
                refine ga_goto (tgt := 170) d_V_merge_166 (by decide) ?_
                refine ga_putB (C := "LevelStore$Levels") (T := T_V) (N := 9) (k := 6) (ci := 1) (ty0 := ty_V) (fun x h => List.mem_cons_of_mem _ (iw_V x h)) ty_V_ok nm_V rfl (by decide) (List.mem_cons_of_mem _ gw_216) (Or.inl rfl) (fun _ => ⟨rfl, rfl⟩) d_V_merge_170 (fun w46 => ?_)
                refine ga_iinc (q := 7) (v := (x7 + (1 : Int32))) (lv2 := [(7, .int (x7 + (1 : Int32))), (0, .ref x0), (1, .int x1), (2, .int x2), (3, .int x3), (4, .int x4), (5, .int x5), (6, .int x6)]) d_V_merge_173 rfl rfl (by decide) rfl ?_
                refine ga_goto (tgt := 57) d_V_merge_176 (by decide) ?_
                refine ga_sub (lv2 := [(0, .ref x0), (1, .int x1), (2, .int x2), (3, .int x3), (4, .int x4), (5, .int x5), (6, .int x6), (7, .int (x7 + (1 : Int32)))]) [1, 2, 3, 4, 5, 6, 7, 0] rfl ?_
                exact ih _ _
          · refine ga_iconst (v := (1 : Int32)) d_V_merge_165 (by decide) ?_
            refine ga_goto (tgt := 170) d_V_merge_166 (by decide) ?_
            refine ga_putB (C := "LevelStore$Levels") (T := T_V) (N := 9) (k := 6) (ci := 1) (ty0 := ty_V) (fun x h => List.mem_cons_of_mem _ (iw_V x h)) ty_V_ok nm_V rfl (by decide) (List.mem_cons_of_mem _ gw_216) (Or.inl rfl) (fun _ => ⟨rfl, rfl⟩) d_V_merge_170 (fun w47 => ?_)
            refine ga_iinc (q := 7) (v := (x7 + (1 : Int32))) (lv2 := [(7, .int (x7 + (1 : Int32))), (0, .ref x0), (1, .int x1), (2, .int x2), (3, .int x3), (4, .int x4), (5, .int x5), (6, .int x6)]) d_V_merge_173 rfl rfl (by decide) rfl ?_
            refine ga_goto (tgt := 57) d_V_merge_176 (by decide) ?_
            refine ga_sub (lv2 := [(0, .ref x0), (1, .int x1), (2, .int x2), (3, .int x3), (4, .int x4), (5, .int x5), (6, .int x6), (7, .int (x7 + (1 : Int32)))]) [1, 2, 3, 4, 5, 6, 7, 0] rfl ?_
            exact ih _ _
        · refine ga_join (fun (K52 : ga_W → ga_O) => ∀  (w51 : ga_W), ga_J l S0 D gz_cl (gz_tA cT) base b gz_xn p e R s m args below meth c 9 ws_V_merge y_V_merge.cls c_V_merge none [] y_V_merge.name 3 72 true ad0 w0 (ga_MQ gz_xn D gz_cl (gz_tA cT) base b s args below ad0 w0) 129 [(0, .ref x0), (1, .int x1), (2, .int x2), (3, .int x3), (4, .int x4), (5, .int x5), (6, .int x6), (7, .int x7)] [.int x7, .ref r22] w51 (K52 w51)) (fun w51 => ?_) (fun K52 hK52 => ?_)
          · refine ga_iconst (v := (1 : Int32)) d_V_merge_129 (by decide) ?_
            refine ga_goto (tgt := 134) d_V_merge_130 (by decide) ?_
            exact hK33 _ _
          · refine ga_if_ne (tgt := 129) d_V_merge_114 (by decide) (fun h53 => ?_) (fun h53 => ?_)
            · refine ga_iload (q := 8) d_V_merge_117 rfl ?_
              refine ga_iload_n (q := 2) d_V_merge_119 rfl rfl ?_
              refine ga_icmp_lt (tgt := 133) d_V_merge_120 (by decide) (fun h54 => ?_) (fun h54 => ?_)
              · refine ga_iconst (v := (0 : Int32)) d_V_merge_133 (by decide) ?_
                refine ga_sub (lv2 := [(0, .ref x0), (1, .int x1), (2, .int x2), (3, .int x3), (4, .int x4), (5, .int x5), (6, .int x6), (7, .int x7)]) [1, 2, 3, 4, 5, 6, 7, 8] rfl ?_
                exact hK33 _ _
              · refine ga_iload (q := 8) d_V_merge_123 rfl ?_
                refine ga_iload_n (q := 3) d_V_merge_125 rfl rfl ?_
                refine ga_icmp_ge (tgt := 133) d_V_merge_126 (by decide) (fun h55 => ?_) (fun h55 => ?_)
                · refine ga_iconst (v := (0 : Int32)) d_V_merge_133 (by decide) ?_
                  refine ga_sub (lv2 := [(0, .ref x0), (1, .int x1), (2, .int x2), (3, .int x3), (4, .int x4), (5, .int x5), (6, .int x6), (7, .int x7)]) [1, 2, 3, 4, 5, 6, 7, 8] rfl ?_
                  exact hK33 _ _
                · refine ga_sub (lv2 := [(0, .ref x0), (1, .int x1), (2, .int x2), (3, .int x3), (4, .int x4), (5, .int x5), (6, .int x6), (7, .int x7)]) [1, 2, 3, 4, 5, 6, 7, 8] rfl ?_
                  exact hK52 _
            · refine ga_sub (lv2 := [(0, .ref x0), (1, .int x1), (2, .int x2), (3, .int x3), (4, .int x4), (5, .int x5), (6, .int x6), (7, .int x7)]) [1, 2, 3, 4, 5, 6, 7, 8] rfl ?_
              exact hK52 _
      · refine ga_join (fun (K62 : ga_W → ga_O) => ∀  (w61 : ga_W), ga_J l S0 D gz_cl (gz_tA cT) base b gz_xn p e R s m args below meth c 9 ws_V_merge y_V_merge.cls c_V_merge none [] y_V_merge.name 3 72 true ad0 w0 (ga_MQ gz_xn D gz_cl (gz_tA cT) base b s args below ad0 w0) 103 [(0, .ref x0), (1, .int x1), (2, .int x2), (3, .int x3), (4, .int x4), (5, .int x5), (6, .int x6), (7, .int x7)] [] w61 (K62 w61)) (fun w61 => ?_) (fun K62 hK62 => ?_)
        · refine ga_iconst (v := (0 : Int32)) d_V_merge_103 (by decide) ?_
          exact hK21 _ _
        · refine ga_icmp_ne (tgt := 103) d_V_merge_80 (by decide) (fun h63 => ?_) (fun h63 => ?_)
          · refine ga_aload_n (q := 0) d_V_merge_83 rfl rfl ?_
            refine ga_getR (C := "LevelStore$Levels") (T := T_V) (N := 9) (k := 0) (ci := 1) (fun x h => List.mem_cons_of_mem _ (iw_V x h)) rfl (by decide) (List.mem_cons_of_mem _ gw_208) d_V_merge_84 (fun r64 => ?_)
            refine ga_iload (q := 7) d_V_merge_87 rfl ?_
            refine ga_iload (q := 5) d_V_merge_89 rfl ?_
            refine ga_iload (q := 6) d_V_merge_91 rfl ?_
            refine ga_invV (nA := 3) (ci := 3) (T := T_S) (N := 5) (av := [.int x7, .int x5, .int x6]) (a := r64) (st := []) (m_S_meets hst F r64 x7 x5 x6 w) (Or.inl rfl) (gz_gV gw_346 gw_347 gw_348 gw_55 gw_349) rfl ⟨rfl, by decide +kernel⟩ rfl (by decide) (by decide) (Nat.le_of_ble_eq_true rfl) rfl d_V_merge_93 (ga_vI (fun v66 w65 => ?_)) (fun _ _ => ga_thru rfl)
            refine ga_if_eq (tgt := 103) d_V_merge_96 (by decide) (fun h67 => ?_) (fun h67 => ?_)
            · exact hK62 _
            · refine ga_iconst (v := (1 : Int32)) d_V_merge_99 (by decide) ?_
              refine ga_goto (tgt := 104) d_V_merge_100 (by decide) ?_
              exact hK21 _ _
          · exact hK62 _
set_option maxHeartbeats 4000000 in
set_option maxRecDepth 100000 in
theorem m_V_merge (hst : l.stackTraces = false) (F : Nat) (p0 : Nat) (p1 : Int32) (p2 : Int32) (p3 : Int32) (p4 : Int32) (w : ga_W) : ga_M l S0 D gz_cl (gz_tA cT) base b gz_xn y_V_merge ws_V_merge 3 72 true [.ref p0, .int p1, .int p2, .int p3, .int p4] w (f_V_merge F p0 p1 p2 p3 p4 w) := by
  refine ga_enter (cc := c_V_merge) (maxL := 9) (ret := none) hst (by decide) rfl (Nat.le_of_ble_eq_true rfl) ?_
  intro p e R s m args below meth c ad0
  refine ga_sub (lv2 := [(0, .ref p0), (1, .int p1), (2, .int p2), (3, .int p3), (4, .int p4)]) [0, 1, 2, 3, 4] rfl ?_
  unfold f_V_merge
  refine ga_bipush (v := (64 : Int32)) d_V_merge_0 (by decide) ?_
  refine ga_istore (lv2 := [(5, .int (64 : Int32)), (0, .ref p0), (1, .int p1), (2, .int p2), (3, .int p3), (4, .int p4)]) d_V_merge_2 (by decide) rfl ?_
  refine ga_iconst (v := (-1 : Int32)) d_V_merge_4 (by decide) ?_
  refine ga_istore (lv2 := [(6, .int (-1 : Int32)), (5, .int (64 : Int32)), (0, .ref p0), (1, .int p1), (2, .int p2), (3, .int p3), (4, .int p4)]) d_V_merge_5 (by decide) rfl ?_
  refine ga_iload_n (q := 3) d_V_merge_7 rfl rfl ?_
  refine ga_istore (lv2 := [(7, .int p1), (6, .int (-1 : Int32)), (5, .int (64 : Int32)), (0, .ref p0), (1, .int p1), (2, .int p2), (3, .int p3), (4, .int p4)]) d_V_merge_8 (by decide) rfl ?_
  refine ga_sub (lv2 := [(0, .ref p0), (1, .int p1), (2, .int p2), (3, .int p3), (4, .int p4), (5, .int (64 : Int32)), (6, .int (-1 : Int32)), (7, .int p1)]) [3, 4, 5, 6, 7, 2, 1, 0] rfl ?_
  refine h_V_merge_10 hst F p0 p1 p2 p3 p4 _ (fun z1 z2 w3 => ?_) F (64 : Int32) (-1 : Int32) p1 w
  refine ga_iconst (v := (0 : Int32)) d_V_merge_54 (by decide) ?_
  refine ga_istore (lv2 := [(7, .int (0 : Int32)), (0, .ref p0), (1, .int p1), (2, .int p2), (3, .int p3), (4, .int p4), (5, .int z1), (6, .int z2)]) d_V_merge_55 (by decide) rfl ?_
  refine ga_sub (lv2 := [(0, .ref p0), (1, .int p1), (2, .int p2), (3, .int p3), (4, .int p4), (5, .int z1), (6, .int z2), (7, .int (0 : Int32))]) [1, 2, 3, 4, 5, 6, 7, 0] rfl ?_
  refine h_V_merge_57 hst F p0 p1 p2 p3 p4 z1 z2 _ (fun w4 => ?_) F (0 : Int32) w3
  refine ga_aload_n (q := 0) d_V_merge_179 rfl rfl ?_
  refine ga_getI (C := "LevelStore$Levels") (T := T_V) (N := 9) (k := 6) (ci := 1) (fun x h => List.mem_cons_of_mem _ (iw_V x h)) rfl (by decide) (List.mem_cons_of_mem _ gw_216) d_V_merge_180 (fun v5 => ?_)
  refine ga_if_eq (tgt := 187) d_V_merge_183 (by decide) (fun h6 => ?_) (fun h6 => ?_)
  · refine ga_aload_n (q := 0) d_V_merge_187 rfl rfl ?_
    refine ga_invV (nA := 0) (ci := 1) (T := T_V) (N := 9) (av := []) (a := p0) (st := []) (m_V_sortJoining hst F p0 w4) (Or.inl rfl) (gz_gV gw_355 gw_357 gw_4 gw_54 gw_358) rfl ⟨rfl, by decide +kernel⟩ rfl (by decide) (by decide) (Nat.le_of_ble_eq_true rfl) rfl d_V_merge_188 (ga_vV (fun w7 => ?_)) (fun _ _ => ga_thru rfl)
    refine ga_aload_n (q := 0) d_V_merge_191 rfl rfl ?_
    refine ga_getR (C := "LevelStore$Levels") (T := T_V) (N := 9) (k := 0) (ci := 1) (fun x h => List.mem_cons_of_mem _ (iw_V x h)) rfl (by decide) (List.mem_cons_of_mem _ gw_208) d_V_merge_192 (fun r8 => ?_)
    refine ga_iload_n (q := 1) d_V_merge_195 rfl rfl ?_
    refine ga_iload (q := 3) d_V_merge_196 rfl ?_
    refine ga_invV (nA := 2) (ci := 3) (T := T_S) (N := 5) (av := [.int p3, .int z2]) (a := r8) (st := []) (m_S_placeBehind hst F r8 p3 z2 w7) (Or.inl rfl) (gz_gV gw_365 gw_366 gw_367 gw_55 gw_368) rfl ⟨rfl, by decide +kernel⟩ rfl (by decide) (by decide) (Nat.le_of_ble_eq_true rfl) rfl d_V_merge_198 (ga_vI (fun v10 w9 => ?_)) (fun _ _ => ga_thru rfl)
    refine ga_istore (lv2 := [(7, .int v10), (0, .ref p0), (3, .int p3), (4, .int p4), (6, .int z2)]) d_V_merge_201 (by decide) rfl ?_
    refine ga_aload_n (q := 1) d_V_merge_203 rfl rfl ?_
    refine ga_getR (C := "LevelStore$Levels") (T := T_V) (N := 9) (k := 1) (ci := 1) (fun x h => List.mem_cons_of_mem _ (iw_V x h)) rfl (by decide) (List.mem_cons_of_mem _ gw_210) d_V_merge_204 (fun r11 => ?_)
    refine ga_invV (nA := 0) (ci := 3) (T := T_S) (N := 5) (av := []) (a := r11) (st := []) (m_S_clear hst F r11 w9) (Or.inl rfl) (gz_gV gw_286 gw_287 gw_288 gw_55 gw_289) rfl ⟨rfl, by decide +kernel⟩ rfl (by decide) (by decide) (Nat.le_of_ble_eq_true rfl) rfl d_V_merge_207 (ga_vV (fun w12 => ?_)) (fun _ _ => ga_thru rfl)
    refine ga_aload_n (q := 1) d_V_merge_210 rfl rfl ?_
    refine ga_iconst (v := (0 : Int32)) d_V_merge_211 (by decide) ?_
    refine ga_iload (q := 0) d_V_merge_212 rfl ?_
    refine ga_invV (nA := 2) (ci := 1) (T := T_V) (N := 9) (av := [.int (0 : Int32), .int v10]) (a := p0) (st := []) (m_V_addStaying hst F p0 (0 : Int32) v10 w12) (Or.inl rfl) (gz_gV gw_369 gw_371 gw_5 gw_54 gw_372) rfl ⟨rfl, by decide +kernel⟩ rfl (by decide) (by decide) (Nat.le_of_ble_eq_true rfl) rfl d_V_merge_214 (ga_vV (fun w13 => ?_)) (fun _ _ => ga_thru rfl)
    refine ga_aload_n (q := 1) d_V_merge_217 rfl rfl ?_
    refine ga_iload_n (q := 2) d_V_merge_218 rfl rfl ?_
    refine ga_iload (q := 3) d_V_merge_219 rfl ?_
    refine ga_invV (nA := 2) (ci := 1) (T := T_V) (N := 9) (av := [.int p3, .int p4]) (a := p0) (st := []) (m_V_addMerged hst F p0 p3 p4 w13) (Or.inl rfl) (gz_gV gw_379 gw_381 gw_6 gw_54 gw_382) rfl ⟨rfl, by decide +kernel⟩ rfl (by decide) (by decide) (Nat.le_of_ble_eq_true rfl) rfl d_V_merge_221 (ga_vV (fun w14 => ?_)) (fun _ _ => ga_thru rfl)
    refine ga_aload_n (q := 1) d_V_merge_224 rfl rfl ?_
    refine ga_iload (q := 0) d_V_merge_225 rfl ?_
    refine ga_aload_n (q := 1) d_V_merge_227 rfl rfl ?_
    refine ga_getR (C := "LevelStore$Levels") (T := T_V) (N := 9) (k := 0) (ci := 1) (fun x h => List.mem_cons_of_mem _ (iw_V x h)) rfl (by decide) (List.mem_cons_of_mem _ gw_208) d_V_merge_228 (fun r15 => ?_)
    refine ga_getI (C := "LevelStore$Shelf") (T := T_S) (N := 5) (k := 4) (ci := 3) (fun x h => List.mem_cons_of_mem _ (iw_S x h)) rfl (by decide) (List.mem_cons_of_mem _ gw_174) d_V_merge_231 (fun v16 => ?_)
    refine ga_invV (nA := 2) (ci := 1) (T := T_V) (N := 9) (av := [.int v10, .int v16]) (a := p0) (st := []) (m_V_addStaying hst F p0 v10 v16 w14) (Or.inl rfl) (gz_gV gw_369 gw_371 gw_5 gw_54 gw_372) rfl ⟨rfl, by decide +kernel⟩ rfl (by decide) (by decide) (Nat.le_of_ble_eq_true rfl) rfl d_V_merge_234 (ga_vV (fun w17 => ?_)) (fun _ _ => ga_thru rfl)
    refine ga_aload_n (q := 1) d_V_merge_237 rfl rfl ?_
    refine ga_invV (nA := 0) (ci := 1) (T := T_V) (N := 9) (av := []) (a := p0) (st := []) (m_V_changeShelf hst F p0 w17) (Or.inl rfl) (gz_gV gw_302 gw_304 gw_0 gw_54 gw_305) rfl ⟨rfl, by decide +kernel⟩ rfl (by decide) (by decide) (Nat.le_of_ble_eq_true rfl) rfl d_V_merge_238 (ga_vV (fun w18 => ?_)) (fun _ _ => ga_thru rfl)
    refine ga_aload_n (q := 1) d_V_merge_241 rfl rfl ?_
    refine ga_getR (C := "LevelStore$Levels") (T := T_V) (N := 9) (k := 5) (ci := 1) (fun x h => List.mem_cons_of_mem _ (iw_V x h)) rfl (by decide) (List.mem_cons_of_mem _ gw_214) d_V_merge_242 (fun r19 => ?_)
    refine ga_iload_n (q := 2) d_V_merge_245 rfl rfl ?_
    refine ga_iconst (v := (1 : Int32)) d_V_merge_246 (by decide) ?_
    refine ga_isub d_V_merge_247 ?_
    refine ga_iload (q := 4) d_V_merge_248 rfl ?_
    refine ga_stI (t := 0) rfl d_V_merge_250 (fun w20 => ?_)
    exact ga_vret rfl d_V_merge_251
  · exact ga_vret rfl d_V_merge_186
noncomputable def f_V_tidy_7 (F : Nat) (x0 : Nat) (x1 : Int32) : Nat → Int32 → Int32 → ga_W → ga_O
  | 0, _, _, _ => none
  | n + 1, x2, x3, w => (if (1000 : Int32) ≤ x3 then (some (.inl none, w)) else (if x2 = (-1 : Int32) then (some (.inl none, w)) else ((ga_gi w 1 6 x0).bind fun v3 => (if v3 = 0 then (ga_jn (fun (y11 : Int32) (w12 : ga_W) => (ga_jn (fun (y18 : Int32) (w19 : ga_W) => (if ga_is w19 1 x0 = true then ga_c (f_V_merge F x0 y11 y18 (x2 + (1 : Int32)) x1 w19) (ga_kV fun w21 => (if ga_is w21 1 x0 = true then ga_c (f_V_fullLevel F x0 w21) (ga_kI fun v23 w22 => (f_V_tidy_7 F x0 x1 n v23 (x3 + (1 : Int32)) w22)) ga_up else none)) ga_up else none)) (fun K20 => (if x2 = 0 then ((ga_gr w12 1 0 x0).bind fun r25 => (if ga_is w12 3 r25 = true then ga_c (f_S_tablesOn F r25 (0 : Int32) w12) (ga_kI fun v27 w26 => (K20 v27 w26)) ga_up else none)) else (K20 (y11 + (1 : Int32)) w12))))) (fun K13 => (if x2 = 0 then (K13 (0 : Int32) w) else ((ga_gr w 1 0 x0).bind fun r29 => ((ga_gr w 1 5 x0).bind fun r30 => ((ga_ai w 0 r30 x2).bind fun v31 => (if ga_is w 3 r29 = true then ga_c (f_S_firstAbove F r29 x2 v31 w) (ga_kI fun v33 w32 => (K13 v33 w32)) ga_up else none))))))) else (some (.inl none, w))))))
noncomputable def f_V_tidy (F : Nat) (p0 : Nat) (p1 : Int32) (w : ga_W) : ga_O :=
  (if ga_is w 1 p0 = true then ga_c (f_V_fullLevel F p0 w) (ga_kI fun v2 w1 => (f_V_tidy_7 F p0 p1 F v2 (0 : Int32) w1)) ga_up else none)
set_option maxHeartbeats 4000000 in
set_option maxRecDepth 100000 in
theorem h_V_tidy_7 (hst : l.stackTraces = false) (F : Nat) (x0 : Nat) (x1 : Int32) : ∀ (n : Nat) (x2 : Int32) (x3 : Int32) (w : ga_W), ga_J l S0 D gz_cl (gz_tA cT) base b gz_xn p e R s m args below meth c 6 ws_V_tidy y_V_tidy.cls c_V_tidy none [] y_V_tidy.name 4 100 true ad0 w0 (ga_MQ gz_xn D gz_cl (gz_tA cT) base b s args below ad0 w0) 7 [(0, .ref x0), (1, .int x1), (2, .int x2), (3, .int x3)] [] w (f_V_tidy_7 F x0 x1 n x2 x3 w) := by
  intro n
  induction n with
  | zero => intro x2 x3 w; exact ga_no
  | succ n ih =>
    intro x2 x3 w
    rw [f_V_tidy_7]
    refine ga_iload_n (q := 3) d_V_tidy_7 rfl rfl ?_
    refine ga_sipush (v := (1000 : Int32)) d_V_tidy_8 (by decide) ?_
    refine ga_icmp_ge (tgt := 94) d_V_tidy_11 (by decide) (fun h1 => ?_) (fun h1 => ?_)
    · exact ga_vret rfl d_V_tidy_94
    · refine ga_iload_n (q := 2) d_V_tidy_14 rfl rfl ?_
      refine ga_iconst (v := (-1 : Int32)) d_V_tidy_15 (by decide) ?_
      refine ga_icmp_eq (tgt := 94) d_V_tidy_16 (by decide) (fun h2 => ?_) (fun h2 => ?_)
      · exact ga_vret rfl d_V_tidy_94
      · refine ga_aload_n (q := 0) d_V_tidy_19 rfl rfl ?_
        refine ga_getI (C := "LevelStore$Levels") (T := T_V) (N := 9) (k := 6) (ci := 1) (fun x h => List.mem_cons_of_mem _ (iw_V x h)) rfl (by decide) (List.mem_cons_of_mem _ gw_216) d_V_tidy_20 (fun v3 => ?_)
        refine ga_if_ne (tgt := 94) d_V_tidy_23 (by decide) (fun h4 => ?_) (fun h4 => ?_)
        · refine ga_iload_n (q := 2) d_V_tidy_26 rfl rfl ?_
          refine ga_join (fun (K13 : Int32 → ga_W → ga_O) => ∀ (y11 : Int32) (w12 : ga_W), ga_J l S0 D gz_cl (gz_tA cT) base b gz_xn p e R s m args below meth c 6 ws_V_tidy y_V_tidy.cls c_V_tidy none [] y_V_tidy.name 4 100 true ad0 w0 (ga_MQ gz_xn D gz_cl (gz_tA cT) base b s args below ad0 w0) 48 [(0, .ref x0), (1, .int x1), (2, .int x2), (3, .int x3)] [.int y11] w12 (K13 y11 w12)) (fun y11 w12 => ?_) (fun K13 hK13 => ?_)
          · refine ga_istore (lv2 := [(4, .int y11), (0, .ref x0), (1, .int x1), (2, .int x2), (3, .int x3)]) d_V_tidy_48 (by decide) rfl ?_
            refine ga_iload_n (q := 3) d_V_tidy_50 rfl rfl ?_
            refine ga_join (fun (K20 : Int32 → ga_W → ga_O) => ∀ (y18 : Int32) (w19 : ga_W), ga_J l S0 D gz_cl (gz_tA cT) base b gz_xn p e R s m args below meth c 6 ws_V_tidy y_V_tidy.cls c_V_tidy none [] y_V_tidy.name 4 100 true ad0 w0 (ga_MQ gz_xn D gz_cl (gz_tA cT) base b s args below ad0 w0) 69 [(0, .ref x0), (1, .int x1), (2, .int x2), (3, .int x3), (4, .int y11)] [.int y18] w19 (K20 y18 w19)) (fun y18 w19 => ?_) (fun K20 hK20 => ?_)
            · refine ga_istore (lv2 := [(5, .int y18), (0, .ref x0), (1, .int x1), (2, .int x2), (3, .int x3), (4, .int y11)]) d_V_tidy_69 (by decide) rfl ?_
              refine ga_aload_n (q := 1) d_V_tidy_71 rfl rfl ?_
              refine ga_iload (q := 5) d_V_tidy_72 rfl ?_
              refine ga_iload (q := 0) d_V_tidy_74 rfl ?_
              refine ga_iload_n (q := 3) d_V_tidy_76 rfl rfl ?_
              refine ga_iconst (v := (1 : Int32)) d_V_tidy_77 (by decide) ?_
              refine ga_iadd d_V_tidy_78 ?_
              refine ga_iload_n (q := 2) d_V_tidy_79 rfl rfl ?_
              refine ga_invV (nA := 4) (ci := 1) (T := T_V) (N := 9) (av := [.int y11, .int y18, .int (x2 + (1 : Int32)), .int x1]) (a := x0) (st := []) (m_V_merge hst F x0 y11 y18 (x2 + (1 : Int32)) x1 w19) (Or.inl rfl) (gz_gV gw_333 gw_335 gw_3 gw_54 gw_336) rfl ⟨rfl, by decide +kernel⟩ rfl (by decide) (by decide) (Nat.le_of_ble_eq_true rfl) rfl d_V_tidy_80 (ga_vV (fun w21 => ?_)) (fun _ _ => ga_thru rfl)
              refine ga_aload_n (q := 1) d_V_tidy_83 rfl rfl ?_
              refine ga_invV (nA := 0) (ci := 1) (T := T_V) (N := 9) (av := []) (a := x0) (st := []) (m_V_fullLevel hst F x0 w21) (Or.inl rfl) (gz_gV gw_317 gw_319 gw_2 gw_54 gw_320) rfl ⟨rfl, by decide +kernel⟩ rfl (by decide) (by decide) (Nat.le_of_ble_eq_true rfl) rfl d_V_tidy_84 (ga_vI (fun v23 w22 => ?_)) (fun _ _ => ga_thru rfl)
              refine ga_istore_n (lv2 := [(2, .int v23), (5, .int y18), (0, .ref x0), (1, .int x1), (3, .int x3), (4, .int y11)]) d_V_tidy_87 rfl (by decide) rfl ?_
              refine ga_iinc (q := 4) (v := (x3 + (1 : Int32))) (lv2 := [(3, .int (x3 + (1 : Int32))), (2, .int v23), (5, .int y18), (0, .ref x0), (1, .int x1), (4, .int y11)]) d_V_tidy_88 rfl rfl (by decide) rfl ?_
              refine ga_goto (tgt := 7) d_V_tidy_91 (by decide) ?_
              refine ga_sub (lv2 := [(0, .ref x0), (1, .int x1), (2, .int v23), (3, .int (x3 + (1 : Int32)))]) [3, 4, 1, 0] rfl ?_
              exact ih _ _ _
            · refine ga_if_ne (tgt := 65) d_V_tidy_51 (by decide) (fun h24 => ?_) (fun h24 => ?_)
              · refine ga_aload_n (q := 1) d_V_tidy_54 rfl rfl ?_
                refine ga_getR (C := "LevelStore$Levels") (T := T_V) (N := 9) (k := 0) (ci := 1) (fun x h => List.mem_cons_of_mem _ (iw_V x h)) rfl (by decide) (List.mem_cons_of_mem _ gw_208) d_V_tidy_55 (fun r25 => ?_)
                refine ga_iconst (v := (0 : Int32)) d_V_tidy_58 (by decide) ?_
                refine ga_invV (nA := 1) (ci := 3) (T := T_S) (N := 5) (av := [.int (0 : Int32)]) (a := r25) (st := []) (m_S_tablesOn hst F r25 (0 : Int32) w12) (Or.inl rfl) (gz_gV gw_321 gw_322 gw_323 gw_55 gw_324) rfl ⟨rfl, by decide +kernel⟩ rfl (by decide) (by decide) (Nat.le_of_ble_eq_true rfl) rfl d_V_tidy_59 (ga_vI (fun v27 w26 => ?_)) (fun _ _ => ga_thru rfl)
                refine ga_goto (tgt := 69) d_V_tidy_62 (by decide) ?_
                refine ga_sub (lv2 := [(0, .ref x0), (1, .int x1), (2, .int x2), (3, .int x3), (4, .int y11)]) [1, 2, 3, 4, 0] rfl ?_
                exact hK20 _ _
              · refine ga_iload (q := 0) d_V_tidy_65 rfl ?_
                refine ga_iconst (v := (1 : Int32)) d_V_tidy_67 (by decide) ?_
                refine ga_iadd d_V_tidy_68 ?_
                refine ga_sub (lv2 := [(0, .ref x0), (1, .int x1), (2, .int x2), (3, .int x3), (4, .int y11)]) [1, 2, 3, 4, 0] rfl ?_
                exact hK20 _ _
          · refine ga_if_ne (tgt := 34) d_V_tidy_27 (by decide) (fun h28 => ?_) (fun h28 => ?_)
            · refine ga_iconst (v := (0 : Int32)) d_V_tidy_30 (by decide) ?_
              refine ga_goto (tgt := 48) d_V_tidy_31 (by decide) ?_
              exact hK13 _ _
            · refine ga_aload_n (q := 0) d_V_tidy_34 rfl rfl ?_
              refine ga_getR (C := "LevelStore$Levels") (T := T_V) (N := 9) (k := 0) (ci := 1) (fun x h => List.mem_cons_of_mem _ (iw_V x h)) rfl (by decide) (List.mem_cons_of_mem _ gw_208) d_V_tidy_35 (fun r29 => ?_)
              refine ga_iload_n (q := 2) d_V_tidy_38 rfl rfl ?_
              refine ga_aload_n (q := 0) d_V_tidy_39 rfl rfl ?_
              refine ga_getR (C := "LevelStore$Levels") (T := T_V) (N := 9) (k := 5) (ci := 1) (fun x h => List.mem_cons_of_mem _ (iw_V x h)) rfl (by decide) (List.mem_cons_of_mem _ gw_214) d_V_tidy_40 (fun r30 => ?_)
              refine ga_iload_n (q := 2) d_V_tidy_43 rfl rfl ?_
              refine ga_ldI (t := 0) rfl d_V_tidy_44 (fun v31 => ?_)
              refine ga_invV (nA := 2) (ci := 3) (T := T_S) (N := 5) (av := [.int x2, .int v31]) (a := r29) (st := []) (m_S_firstAbove hst F r29 x2 v31 w) (Or.inl rfl) (gz_gV gw_325 gw_326 gw_327 gw_55 gw_328) rfl ⟨rfl, by decide +kernel⟩ rfl (by decide) (by decide) (Nat.le_of_ble_eq_true rfl) rfl d_V_tidy_45 (ga_vI (fun v33 w32 => ?_)) (fun _ _ => ga_thru rfl)
              exact hK13 _ _
        · exact ga_vret rfl d_V_tidy_94
set_option maxHeartbeats 4000000 in
set_option maxRecDepth 100000 in
theorem m_V_tidy (hst : l.stackTraces = false) (F : Nat) (p0 : Nat) (p1 : Int32) (w : ga_W) : ga_M l S0 D gz_cl (gz_tA cT) base b gz_xn y_V_tidy ws_V_tidy 4 100 true [.ref p0, .int p1] w (f_V_tidy F p0 p1 w) := by
  refine ga_enter (cc := c_V_tidy) (maxL := 6) (ret := none) hst (by decide) rfl (Nat.le_of_ble_eq_true rfl) ?_
  intro p e R s m args below meth c ad0
  refine ga_sub (lv2 := [(0, .ref p0), (1, .int p1)]) [0, 1] rfl ?_
  unfold f_V_tidy
  refine ga_aload_n (q := 0) d_V_tidy_0 rfl rfl ?_
  refine ga_invV (nA := 0) (ci := 1) (T := T_V) (N := 9) (av := []) (a := p0) (st := []) (m_V_fullLevel hst F p0 w) (Or.inl rfl) (gz_gV gw_317 gw_319 gw_2 gw_54 gw_320) rfl ⟨rfl, by decide +kernel⟩ rfl (by decide) (by decide) (Nat.le_of_ble_eq_true rfl) rfl d_V_tidy_1 (ga_vI (fun v2 w1 => ?_)) (fun _ _ => ga_thru rfl)
  refine ga_istore_n (lv2 := [(2, .int v2), (0, .ref p0), (1, .int p1)]) d_V_tidy_4 rfl (by decide) rfl ?_
  refine ga_iconst (v := (0 : Int32)) d_V_tidy_5 (by decide) ?_
  refine ga_istore_n (lv2 := [(3, .int (0 : Int32)), (2, .int v2), (0, .ref p0), (1, .int p1)]) d_V_tidy_6 rfl (by decide) rfl ?_
  refine ga_sub (lv2 := [(0, .ref p0), (1, .int p1), (2, .int v2), (3, .int (0 : Int32))]) [2, 3, 1, 0] rfl ?_
  exact h_V_tidy_7 hst F p0 p1 F v2 (0 : Int32) w1
noncomputable def f_L_giveUp (F : Nat) (p0 : Nat) (w : ga_W) : ga_O :=
  ((ga_gr w 5 1 p0).bind fun r1 => (if ga_is w 1 r1 = true then ga_c (f_V_loseSpoiled F r1 w) (ga_kI fun v3 w2 => ((ga_gr w2 5 1 p0).bind fun r4 => (if ga_is w2 5 p0 = true then ga_c (f_L_oldest F p0 w2) (ga_kI fun v6 w5 => (if ga_is w5 1 r4 = true then ga_c (f_V_tidy F r4 v6 w5) (ga_kV fun w7 => (some (.inl (some (.int v3)), w7))) ga_up else none)) ga_up else none))) ga_up else none))
set_option maxHeartbeats 4000000 in
set_option maxRecDepth 100000 in
theorem m_L_giveUp (hst : l.stackTraces = false) (F : Nat) (p0 : Nat) (w : ga_W) : ga_M l S0 D gz_cl (gz_tA cT) base b gz_xn y_L_giveUp ws_L_giveUp 5 125 true [.ref p0] w (f_L_giveUp F p0 w) := by
  refine ga_enter (cc := c_L_giveUp) (maxL := 2) (ret := (some .int)) hst (by decide) rfl (Nat.le_of_ble_eq_true rfl) ?_
  intro p e R s m args below meth c ad0
  refine ga_sub (lv2 := [(0, .ref p0)]) [0] rfl ?_
  unfold f_L_giveUp
  refine ga_aload_n (q := 0) d_L_giveUp_0 rfl rfl ?_
  refine ga_getR (C := "LevelStore") (T := T_L) (N := 9) (k := 1) (ci := 5) (fun x h => List.mem_cons_of_mem _ (iw_L x h)) rfl (by decide) (List.mem_cons_of_mem _ gw_247) d_L_giveUp_1 (fun r1 => ?_)
  refine ga_invV (nA := 0) (ci := 1) (T := T_V) (N := 9) (av := []) (a := r1) (st := []) (m_V_loseSpoiled hst F r1 w) (Or.inl rfl) (gz_gV gw_282 gw_283 gw_284 gw_54 gw_285) rfl ⟨rfl, by decide +kernel⟩ rfl (by decide) (by decide) (Nat.le_of_ble_eq_true rfl) rfl d_L_giveUp_4 (ga_vI (fun v3 w2 => ?_)) (fun _ _ => ga_thru rfl)
  refine ga_istore_n (lv2 := [(1, .int v3), (0, .ref p0)]) d_L_giveUp_7 rfl (by decide) rfl ?_
  refine ga_aload_n (q := 1) d_L_giveUp_8 rfl rfl ?_
  refine ga_getR (C := "LevelStore") (T := T_L) (N := 9) (k := 1) (ci := 5) (fun x h => List.mem_cons_of_mem _ (iw_L x h)) rfl (by decide) (List.mem_cons_of_mem _ gw_247) d_L_giveUp_9 (fun r4 => ?_)
  refine ga_aload_n (q := 1) d_L_giveUp_12 rfl rfl ?_
  refine ga_invV (nA := 0) (ci := 5) (T := T_L) (N := 9) (av := []) (a := p0) (st := [.ref r4]) (m_L_oldest hst F p0 w2) (Or.inl rfl) (gz_gV gw_306 gw_308 gw_1 gw_51 gw_309) rfl ⟨rfl, by decide +kernel⟩ rfl (by decide) (by decide) (Nat.le_of_ble_eq_true rfl) rfl d_L_giveUp_13 (ga_vI (fun v6 w5 => ?_)) (fun _ _ => ga_thru rfl)
  refine ga_invV (nA := 1) (ci := 1) (T := T_V) (N := 9) (av := [.int v6]) (a := r4) (st := []) (m_V_tidy hst F r4 v6 w5) (Or.inl rfl) (gz_gV gw_313 gw_314 gw_315 gw_54 gw_316) rfl ⟨rfl, by decide +kernel⟩ rfl (by decide) (by decide) (Nat.le_of_ble_eq_true rfl) rfl d_L_giveUp_16 (ga_vV (fun w7 => ?_)) (fun _ _ => ga_thru rfl)
  refine ga_iload_n (q := 0) d_L_giveUp_19 rfl rfl ?_
  exact ga_iret rfl d_L_giveUp_20
noncomputable def f_L_requireWithin (F : Nat) (p0 : Int32) (p1 : Int32) (p2 : Int32) (w : ga_W) : ga_O :=
  (if p0 < p1 then (some (.inr 0, w.1, w.2.1 + 1, w.2.2 + 6)) else (if p0 ≤ p2 then (some (.inl none, w)) else (some (.inr 0, w.1, w.2.1 + 1, w.2.2 + 6))))
set_option maxHeartbeats 4000000 in
set_option maxRecDepth 100000 in
theorem m_L_requireWithin (hst : l.stackTraces = false) (F : Nat) (p0 : Int32) (p1 : Int32) (p2 : Int32) (w : ga_W) : ga_M l S0 D gz_cl (gz_tA cT) base b gz_xn y_L_requireWithin ws_L_requireWithin 6 89 true [.int p0, .int p1, .int p2] w (f_L_requireWithin F p0 p1 p2 w) := by
  refine ga_enter (cc := c_L_requireWithin) (maxL := 3) (ret := none) hst (by decide) rfl (Nat.le_of_ble_eq_true rfl) ?_
  intro p e R s m args below meth c ad0
  refine ga_sub (lv2 := [(0, .int p0), (1, .int p1), (2, .int p2)]) [0, 1, 2] rfl ?_
  unfold f_L_requireWithin
  refine ga_iload_n (q := 0) d_L_requireWithin_0 rfl rfl ?_
  refine ga_iload_n (q := 1) d_L_requireWithin_1 rfl rfl ?_
  refine ga_icmp_lt (tgt := 10) d_L_requireWithin_2 (by decide) (fun h1 => ?_) (fun h1 => ?_)
  · exact ga_throw (x := 0) (names := gz_ch) rfl (by decide +kernel) gz_chf gl_416 gl_62 (gz_own0 gl_460) (by decide) (Nat.le_of_ble_eq_true rfl) d_L_requireWithin_10 d_L_requireWithin_13 d_L_requireWithin_14 d_L_requireWithin_17
  · refine ga_iload_n (q := 0) d_L_requireWithin_5 rfl rfl ?_
    refine ga_iload_n (q := 2) d_L_requireWithin_6 rfl rfl ?_
    refine ga_icmp_le (tgt := 18) d_L_requireWithin_7 (by decide) (fun h2 => ?_) (fun h2 => ?_)
    · exact ga_vret rfl d_L_requireWithin_18
    · exact ga_throw (x := 0) (names := gz_ch) rfl (by decide +kernel) gz_chf gl_416 gl_62 (gz_own0 gl_460) (by decide) (Nat.le_of_ble_eq_true rfl) d_L_requireWithin_10 d_L_requireWithin_13 d_L_requireWithin_14 d_L_requireWithin_17
noncomputable def f_E_add (F : Nat) (p0 : Nat) (p1 : Int32) (p2 : Int32) (p3 : Int32) (p4 : Int32) (w : ga_W) : ga_O :=
  ((ga_gr w 0 0 p0).bind fun r1 => ((ga_gi w 0 5 p0).bind fun v2 => ((ga_si w 0 r1 v2 p1).bind fun w3 => ((ga_gr w3 0 1 p0).bind fun r4 => ((ga_gi w3 0 5 p0).bind fun v5 => ((ga_si w3 0 r4 v5 p2).bind fun w6 => ((ga_gr w6 0 2 p0).bind fun r7 => ((ga_gi w6 0 5 p0).bind fun v8 => ((ga_si w6 0 r7 v8 p3).bind fun w9 => ((ga_gr w9 0 3 p0).bind fun r10 => ((ga_gi w9 0 5 p0).bind fun v11 => ((ga_sz w9 1 r10 v11 p4).bind fun w12 => ((ga_gr w12 0 4 p0).bind fun r13 => ((ga_gi w12 0 5 p0).bind fun v14 => ((ga_sz w12 1 r13 v14 (0 : Int32)).bind fun w15 => ((ga_gi w15 0 5 p0).bind fun v16 => ((ga_put w15 0 5 p0 (.int (v16 + (1 : Int32)))).bind fun w17 => (some (.inl none, w17)))))))))))))))))))
set_option maxHeartbeats 4000000 in
set_option maxRecDepth 100000 in
theorem m_E_add (hst : l.stackTraces = false) (F : Nat) (p0 : Nat) (p1 : Int32) (p2 : Int32) (p3 : Int32) (p4 : Int32) (w : ga_W) : ga_M l S0 D gz_cl (gz_tA cT) base b gz_xn y_E_add ws_E_add 0 0 true [.ref p0, .int p1, .int p2, .int p3, .int p4] w (f_E_add F p0 p1 p2 p3 p4 w) := by
  refine ga_enter (cc := c_E_add) (maxL := 5) (ret := none) hst (by decide) rfl (Nat.le_of_ble_eq_true rfl) ?_
  intro p e R s m args below meth c ad0
  refine ga_sub (lv2 := [(0, .ref p0), (1, .int p1), (2, .int p2), (3, .int p3), (4, .int p4)]) [0, 1, 2, 3, 4] rfl ?_
  unfold f_E_add
  refine ga_aload_n (q := 0) d_E_add_0 rfl rfl ?_
  refine ga_getR (C := "LevelStore$Entries") (T := T_E) (N := 6) (k := 0) (ci := 0) (fun x h => List.mem_cons_of_mem _ (iw_E x h)) rfl (by decide) (List.mem_cons_of_mem _ gw_89) d_E_add_1 (fun r1 => ?_)
  refine ga_aload_n (q := 0) d_E_add_4 rfl rfl ?_
  refine ga_getI (C := "LevelStore$Entries") (T := T_E) (N := 6) (k := 5) (ci := 0) (fun x h => List.mem_cons_of_mem _ (iw_E x h)) rfl (by decide) (List.mem_cons_of_mem _ gw_111) d_E_add_5 (fun v2 => ?_)
  refine ga_iload_n (q := 1) d_E_add_8 rfl rfl ?_
  refine ga_stI (t := 0) rfl d_E_add_9 (fun w3 => ?_)
  refine ga_aload_n (q := 0) d_E_add_10 rfl rfl ?_
  refine ga_getR (C := "LevelStore$Entries") (T := T_E) (N := 6) (k := 1) (ci := 0) (fun x h => List.mem_cons_of_mem _ (iw_E x h)) rfl (by decide) (List.mem_cons_of_mem _ gw_95) d_E_add_11 (fun r4 => ?_)
  refine ga_aload_n (q := 0) d_E_add_14 rfl rfl ?_
  refine ga_getI (C := "LevelStore$Entries") (T := T_E) (N := 6) (k := 5) (ci := 0) (fun x h => List.mem_cons_of_mem _ (iw_E x h)) rfl (by decide) (List.mem_cons_of_mem _ gw_111) d_E_add_15 (fun v5 => ?_)
  refine ga_iload_n (q := 2) d_E_add_18 rfl rfl ?_
  refine ga_stI (t := 0) rfl d_E_add_19 (fun w6 => ?_)
  refine ga_aload_n (q := 0) d_E_add_20 rfl rfl ?_
  refine ga_getR (C := "LevelStore$Entries") (T := T_E) (N := 6) (k := 2) (ci := 0) (fun x h => List.mem_cons_of_mem _ (iw_E x h)) rfl (by decide) (List.mem_cons_of_mem _ gw_99) d_E_add_21 (fun r7 => ?_)
  refine ga_aload_n (q := 0) d_E_add_24 rfl rfl ?_
  refine ga_getI (C := "LevelStore$Entries") (T := T_E) (N := 6) (k := 5) (ci := 0) (fun x h => List.mem_cons_of_mem _ (iw_E x h)) rfl (by decide) (List.mem_cons_of_mem _ gw_111) d_E_add_25 (fun v8 => ?_)
  refine ga_iload_n (q := 3) d_E_add_28 rfl rfl ?_
  refine ga_stI (t := 0) rfl d_E_add_29 (fun w9 => ?_)
  refine ga_aload_n (q := 0) d_E_add_30 rfl rfl ?_
  refine ga_getR (C := "LevelStore$Entries") (T := T_E) (N := 6) (k := 3) (ci := 0) (fun x h => List.mem_cons_of_mem _ (iw_E x h)) rfl (by decide) (List.mem_cons_of_mem _ gw_102) d_E_add_31 (fun r10 => ?_)
  refine ga_aload_n (q := 0) d_E_add_34 rfl rfl ?_
  refine ga_getI (C := "LevelStore$Entries") (T := T_E) (N := 6) (k := 5) (ci := 0) (fun x h => List.mem_cons_of_mem _ (iw_E x h)) rfl (by decide) (List.mem_cons_of_mem _ gw_111) d_E_add_35 (fun v11 => ?_)
  refine ga_iload (q := 4) d_E_add_38 rfl ?_
  refine ga_stZ (t := 1) rfl d_E_add_40 (fun w12 => ?_)
  refine ga_aload_n (q := 0) d_E_add_41 rfl rfl ?_
  refine ga_getR (C := "LevelStore$Entries") (T := T_E) (N := 6) (k := 4) (ci := 0) (fun x h => List.mem_cons_of_mem _ (iw_E x h)) rfl (by decide) (List.mem_cons_of_mem _ gw_106) d_E_add_42 (fun r13 => ?_)
  refine ga_aload_n (q := 0) d_E_add_45 rfl rfl ?_
  refine ga_getI (C := "LevelStore$Entries") (T := T_E) (N := 6) (k := 5) (ci := 0) (fun x h => List.mem_cons_of_mem _ (iw_E x h)) rfl (by decide) (List.mem_cons_of_mem _ gw_111) d_E_add_46 (fun v14 => ?_)
  refine ga_iconst (v := (0 : Int32)) d_E_add_49 (by decide) ?_
  refine ga_stZ (t := 1) rfl d_E_add_50 (fun w15 => ?_)
  refine ga_aload_n (q := 0) d_E_add_51 rfl rfl ?_
  refine ga_dup d_E_add_52 rfl ?_
  refine ga_getI (C := "LevelStore$Entries") (T := T_E) (N := 6) (k := 5) (ci := 0) (fun x h => List.mem_cons_of_mem _ (iw_E x h)) rfl (by decide) (List.mem_cons_of_mem _ gw_111) d_E_add_53 (fun v16 => ?_)
  refine ga_iconst (v := (1 : Int32)) d_E_add_56 (by decide) ?_
  refine ga_iadd d_E_add_57 ?_
  refine ga_putB (C := "LevelStore$Entries") (T := T_E) (N := 6) (k := 5) (ci := 0) (ty0 := ty_E) (fun x h => List.mem_cons_of_mem _ (iw_E x h)) ty_E_ok nm_E rfl (by decide) (List.mem_cons_of_mem _ gw_111) (Or.inl rfl) (fun _ => ⟨rfl, rfl⟩) d_E_add_58 (fun w17 => ?_)
  exact ga_vret rfl d_E_add_61
end GM4
