/-! WALKS: V_changeShelf, V_loseSpoiled, L_oldest, S_tablesOn, V_fullLevel, S_leastKey, S_firstAbove, S_greatestKey, S_meets -/
section GM1
variable {l : Launch} {S0 : State} {D : va_G} {cT : Nat → ClassId} {base b : Nat} {p : Program} {e : Env} {R : Room} {s : State} {m : MethodId} {args : Array Value} {below : List Frame} {meth : Method} {c : Code} {ad0 : Nat → Nat} {w0 : ga_W}
noncomputable def f_V_changeShelf (F : Nat) (p0 : Nat) (w : ga_W) : ga_O :=
  ((ga_gr w 1 0 p0).bind fun r1 => ((ga_gr w 1 1 p0).bind fun r2 => ((ga_put w 1 0 p0 (.ref r2)).bind fun w3 => ((ga_put w3 1 1 p0 (.ref r1)).bind fun w4 => (some (.inl none, w4))))))
set_option maxHeartbeats 4000000 in
set_option maxRecDepth 100000 in
theorem m_V_changeShelf (hst : l.stackTraces = false) (F : Nat) (p0 : Nat) (w : ga_W) : ga_M l S0 D gz_cl (gz_tA cT) base b gz_xn y_V_changeShelf ws_V_changeShelf 0 0 true [.ref p0] w (f_V_changeShelf F p0 w) := by
  refine ga_enter (cc := c_V_changeShelf) (maxL := 2) (ret := none) hst (by decide) rfl (Nat.le_of_ble_eq_true rfl) ?_
  intro p e R s m args below meth c ad0
  refine ga_sub (lv2 := [(0, .ref p0)]) [0] rfl ?_
  unfold f_V_changeShelf
  refine ga_aload_n (q := 0) d_V_changeShelf_0 rfl rfl ?_
  refine ga_getR (C := "LevelStore$Levels") (T := T_V) (N := 9) (k := 0) (ci := 1) (fun x h => List.mem_cons_of_mem _ (iw_V x h)) rfl (by decide) (List.mem_cons_of_mem _ gw_208) d_V_changeShelf_1 (fun r1 => ?_)
  refine ga_astore_n (lv2 := [(1, .ref r1), (0, .ref p0)]) d_V_changeShelf_4 rfl (by decide) rfl ?_
  refine ga_aload_n (q := 1) d_V_changeShelf_5 rfl rfl ?_
  refine ga_aload_n (q := 1) d_V_changeShelf_6 rfl rfl ?_
  refine ga_getR (C := "LevelStore$Levels") (T := T_V) (N := 9) (k := 1) (ci := 1) (fun x h => List.mem_cons_of_mem _ (iw_V x h)) rfl (by decide) (List.mem_cons_of_mem _ gw_210) d_V_changeShelf_7 (fun r2 => ?_)
  refine ga_putB (C := "LevelStore$Levels") (T := T_V) (N := 9) (k := 0) (ci := 1) (ty0 := ty_V) (fun x h => List.mem_cons_of_mem _ (iw_V x h)) ty_V_ok nm_V rfl (by decide) (List.mem_cons_of_mem _ gw_208) (Or.inl rfl) (fun _ => ⟨rfl, rfl⟩) d_V_changeShelf_10 (fun w3 => ?_)
  refine ga_aload_n (q := 1) d_V_changeShelf_13 rfl rfl ?_
  refine ga_aload_n (q := 0) d_V_changeShelf_14 rfl rfl ?_
  refine ga_putB (C := "LevelStore$Levels") (T := T_V) (N := 9) (k := 1) (ci := 1) (ty0 := ty_V) (fun x h => List.mem_cons_of_mem _ (iw_V x h)) ty_V_ok nm_V rfl (by decide) (List.mem_cons_of_mem _ gw_210) (Or.inl rfl) (fun _ => ⟨rfl, rfl⟩) d_V_changeShelf_15 (fun w4 => ?_)
  exact ga_vret rfl d_V_changeShelf_18
noncomputable def f_V_loseSpoiled_30 (F : Nat) (x0 : Nat) (x1 : Int32) (K84 : ga_W → ga_O) : Nat → Int32 → ga_W → ga_O
  | 0, _, _ => none
  | n + 1, x2, w => ((ga_gr w 1 0 x0).bind fun r1 => ((ga_gr w 3 3 r1).bind fun r2 => ((ga_ai w 0 r2 (x1 + (1 : Int32))).bind fun v3 => (if v3 ≤ x2 then (K84 w) else ((ga_gr w 1 0 x0).bind fun r5 => ((ga_gr w 3 0 r5).bind fun r6 => ((ga_gr w 0 4 r6).bind fun r7 => ((ga_az w 1 r7 x2).bind fun v8 => (if v8 = 0 then ((ga_gr w 1 1 x0).bind fun r10 => ((ga_gr w 3 0 r10).bind fun r11 => ((ga_gr w 1 0 x0).bind fun r12 => ((ga_gr w 3 0 r12).bind fun r13 => (if ga_is w 0 r11 = true then ga_c (f_E_addFrom F r11 r13 x2 w) (ga_kV fun w14 => (f_V_loseSpoiled_30 F x0 x1 K84 n (x2 + (1 : Int32)) w14)) ga_up else none))))) else (f_V_loseSpoiled_30 F x0 x1 K84 n (x2 + (1 : Int32)) w))))))))))
noncomputable def f_V_loseSpoiled_9 (F : Nat) (x0 : Nat) (K125 : ga_W → ga_O) : Nat → Int32 → ga_W → ga_O
  | 0, _, _ => none
  | n + 1, x1, w => ((ga_gr w 1 0 x0).bind fun r1 => ((ga_gi w 3 4 r1).bind fun v2 => (if v2 ≤ x1 then (K125 w) else ((ga_gr w 1 0 x0).bind fun r4 => ((ga_gr w 3 3 r4).bind fun r5 => ((ga_ai w 0 r5 x1).bind fun v6 => (f_V_loseSpoiled_30 F x0 x1 (fun (w7 : ga_W) => ((ga_gr w7 1 1 x0).bind fun r8 => (if ga_is w7 3 r8 = true then ga_c (f_S_hasLooseRows F r8 w7) (ga_kI fun v10 w9 => (if v10 = 0 then (f_V_loseSpoiled_9 F x0 K125 n (x1 + (1 : Int32)) w9) else ((ga_gr w9 1 1 x0).bind fun r12 => ((ga_gr w9 1 0 x0).bind fun r13 => ((ga_gr w9 3 1 r13).bind fun r14 => ((ga_ai w9 0 r14 x1).bind fun v15 => ((ga_gr w9 1 0 x0).bind fun r16 => ((ga_gr w9 3 2 r16).bind fun r17 => ((ga_ai w9 0 r17 x1).bind fun v18 => (if ga_is w9 3 r12 = true then ga_c (f_S_endTable F r12 v15 v18 w9) (ga_kV fun w19 => (f_V_loseSpoiled_9 F x0 K125 n (x1 + (1 : Int32)) w19)) ga_up else none)))))))))) ga_up else none))) F v6 w)))))))
noncomputable def f_V_loseSpoiled (F : Nat) (p0 : Nat) (w : ga_W) : ga_O :=
  ((ga_gr w 1 1 p0).bind fun r1 => (if ga_is w 3 r1 = true then ga_c (f_S_clear F r1 w) (ga_kV fun w2 => (f_V_loseSpoiled_9 F p0 (fun (w3 : ga_W) => ((ga_gr w3 1 0 p0).bind fun r4 => ((ga_gr w3 3 0 r4).bind fun r5 => ((ga_gi w3 0 5 r5).bind fun v6 => ((ga_gr w3 1 1 p0).bind fun r7 => ((ga_gr w3 3 0 r7).bind fun r8 => ((ga_gi w3 0 5 r8).bind fun v9 => (if ga_is w3 1 p0 = true then ga_c (f_V_changeShelf F p0 w3) (ga_kV fun w10 => ((ga_put w10 1 6 p0 (.int (0 : Int32))).bind fun w11 => (some (.inl (some (.int (v6 - v9))), w11)))) ga_up else none)))))))) F (0 : Int32) w2)) ga_up else none))
set_option maxHeartbeats 4000000 in
set_option maxRecDepth 100000 in
theorem h_V_loseSpoiled_30 (hst : l.stackTraces = false) (F : Nat) (x0 : Nat) (x1 : Int32) (K84 : ga_W → ga_O) (hK84 : ∀ (w : ga_W), ga_J l S0 D gz_cl (gz_tA cT) base b gz_xn p e R s m args below meth c 3 ws_V_loseSpoiled y_V_loseSpoiled.cls c_V_loseSpoiled (some .int) [] y_V_loseSpoiled.name 1 22 true ad0 w0 (ga_MQ gz_xn D gz_cl (gz_tA cT) base b s args below ad0 w0) 84 [(0, .ref x0), (1, .int x1)] [] w (K84 w)) : ∀ (n : Nat) (x2 : Int32) (w : ga_W), ga_J l S0 D gz_cl (gz_tA cT) base b gz_xn p e R s m args below meth c 3 ws_V_loseSpoiled y_V_loseSpoiled.cls c_V_loseSpoiled (some .int) [] y_V_loseSpoiled.name 1 22 true ad0 w0 (ga_MQ gz_xn D gz_cl (gz_tA cT) base b s args below ad0 w0) 30 [(0, .ref x0), (1, .int x1), (2, .int x2)] [] w (f_V_loseSpoiled_30 F x0 x1 K84 n x2 w) := by
  intro n
  induction n with
  | zero => intro x2 w; exact ga_no
  | succ n ih =>
    intro x2 w
    rw [f_V_loseSpoiled_30]
    refine ga_iload_n (q := 2) d_V_loseSpoiled_30 rfl rfl ?_
    refine ga_aload_n (q := 0) d_V_loseSpoiled_31 rfl rfl ?_
    refine ga_getR (C := "LevelStore$Levels") (T := T_V) (N := 9) (k := 0) (ci := 1) (fun x h => List.mem_cons_of_mem _ (iw_V x h)) rfl (by decide) (List.mem_cons_of_mem _ gw_208) d_V_loseSpoiled_32 (fun r1 => ?_)
    refine ga_getR (C := "LevelStore$Shelf") (T := T_S) (N := 5) (k := 3) (ci := 3) (fun x h => List.mem_cons_of_mem _ (iw_S x h)) rfl (by decide) (List.mem_cons_of_mem _ gw_171) d_V_loseSpoiled_35 (fun r2 => ?_)
    refine ga_iload_n (q := 1) d_V_loseSpoiled_38 rfl rfl ?_
    refine ga_iconst (v := (1 : Int32)) d_V_loseSpoiled_39 (by decide) ?_
    refine ga_iadd d_V_loseSpoiled_40 ?_
    refine ga_ldI (t := 0) rfl d_V_loseSpoiled_41 (fun v3 => ?_)
    refine ga_icmp_ge (tgt := 84) d_V_loseSpoiled_42 (by decide) (fun h4 => ?_) (fun h4 => ?_)
    · refine ga_sub (lv2 := [(0, .ref x0), (1, .int x1)]) [0, 1] rfl ?_
      exact hK84  _
    · refine ga_aload_n (q := 0) d_V_loseSpoiled_45 rfl rfl ?_
      refine ga_getR (C := "LevelStore$Levels") (T := T_V) (N := 9) (k := 0) (ci := 1) (fun x h => List.mem_cons_of_mem _ (iw_V x h)) rfl (by decide) (List.mem_cons_of_mem _ gw_208) d_V_loseSpoiled_46 (fun r5 => ?_)
      refine ga_getR (C := "LevelStore$Shelf") (T := T_S) (N := 5) (k := 0) (ci := 3) (fun x h => List.mem_cons_of_mem _ (iw_S x h)) rfl (by decide) (List.mem_cons_of_mem _ gw_162) d_V_loseSpoiled_49 (fun r6 => ?_)
      refine ga_getR (C := "LevelStore$Entries") (T := T_E) (N := 6) (k := 4) (ci := 0) (fun x h => List.mem_cons_of_mem _ (iw_E x h)) rfl (by decide) (List.mem_cons_of_mem _ gw_107) d_V_loseSpoiled_52 (fun r7 => ?_)
      refine ga_iload_n (q := 2) d_V_loseSpoiled_55 rfl rfl ?_
      refine ga_ldZ (t := 1) rfl d_V_loseSpoiled_56 (fun v8 => ?_)
      refine ga_if_ne (tgt := 78) d_V_loseSpoiled_57 (by decide) (fun h9 => ?_) (fun h9 => ?_)
      · refine ga_aload_n (q := 0) d_V_loseSpoiled_60 rfl rfl ?_
        refine ga_getR (C := "LevelStore$Levels") (T := T_V) (N := 9) (k := 1) (ci := 1) (fun x h => List.mem_cons_of_mem _ (iw_V x h)) rfl (by decide) (List.mem_cons_of_mem _ gw_210) d_V_loseSpoiled_61 (fun r10 => ?_)
        refine ga_getR (C := "LevelStore$Shelf") (T := T_S) (N := 5) (k := 0) (ci := 3) (fun x h => List.mem_cons_of_mem _ (iw_S x h)) rfl (by decide) (List.mem_cons_of_mem _ gw_162) d_V_loseSpoiled_64 (fun r11 => ?_)
        refine ga_aload_n (q := 0) d_V_loseSpoiled_67 rfl rfl ?_
        refine ga_getR (C := "LevelStore$Levels") (T := T_V) (N := 9) (k := 0) (ci := 1) (fun x h => List.mem_cons_of_mem _ (iw_V x h)) rfl (by decide) (List.mem_cons_of_mem _ gw_208) d_V_loseSpoiled_68 (fun r12 => ?_)
        refine ga_getR (C := "LevelStore$Shelf") (T := T_S) (N := 5) (k := 0) (ci := 3) (fun x h => List.mem_cons_of_mem _ (iw_S x h)) rfl (by decide) (List.mem_cons_of_mem _ gw_162) d_V_loseSpoiled_71 (fun r13 => ?_)
        refine ga_iload_n (q := 2) d_V_loseSpoiled_74 rfl rfl ?_
        refine ga_invV (nA := 2) (ci := 0) (T := T_E) (N := 6) (av := [.ref r13, .int x2]) (a := r11) (st := []) (m_E_addFrom hst F r11 r13 x2 w) (Or.inl rfl) (gz_gV gw_290 gw_291 gw_292 gw_53 gw_293) rfl ⟨rfl, by decide +kernel⟩ rfl (by decide) (by decide) (Nat.le_of_ble_eq_true rfl) rfl d_V_loseSpoiled_75 (ga_vV (fun w14 => ?_)) (fun _ _ => ga_thru rfl)
        refine ga_iinc (q := 2) (v := (x2 + (1 : Int32))) (lv2 := [(2, .int (x2 + (1 : Int32))), (0, .ref x0), (1, .int x1)]) d_V_loseSpoiled_78 rfl rfl (by decide) rfl ?_
        refine ga_goto (tgt := 30) d_V_loseSpoiled_81 (by decide) ?_
        refine ga_sub (lv2 := [(0, .ref x0), (1, .int x1), (2, .int (x2 + (1 : Int32)))]) [1, 2, 0] rfl ?_
        exact ih _ _
      · refine ga_iinc (q := 2) (v := (x2 + (1 : Int32))) (lv2 := [(2, .int (x2 + (1 : Int32))), (0, .ref x0), (1, .int x1)]) d_V_loseSpoiled_78 rfl rfl (by decide) rfl ?_
        refine ga_goto (tgt := 30) d_V_loseSpoiled_81 (by decide) ?_
        refine ga_sub (lv2 := [(0, .ref x0), (1, .int x1), (2, .int (x2 + (1 : Int32)))]) [1, 2, 0] rfl ?_
        exact ih _ _
set_option maxHeartbeats 4000000 in
set_option maxRecDepth 100000 in
theorem h_V_loseSpoiled_9 (hst : l.stackTraces = false) (F : Nat) (x0 : Nat) (K125 : ga_W → ga_O) (hK125 : ∀ (w : ga_W), ga_J l S0 D gz_cl (gz_tA cT) base b gz_xn p e R s m args below meth c 3 ws_V_loseSpoiled y_V_loseSpoiled.cls c_V_loseSpoiled (some .int) [] y_V_loseSpoiled.name 1 22 true ad0 w0 (ga_MQ gz_xn D gz_cl (gz_tA cT) base b s args below ad0 w0) 125 [(0, .ref x0)] [] w (K125 w)) : ∀ (n : Nat) (x1 : Int32) (w : ga_W), ga_J l S0 D gz_cl (gz_tA cT) base b gz_xn p e R s m args below meth c 3 ws_V_loseSpoiled y_V_loseSpoiled.cls c_V_loseSpoiled (some .int) [] y_V_loseSpoiled.name 1 22 true ad0 w0 (ga_MQ gz_xn D gz_cl (gz_tA cT) base b s args below ad0 w0) 9 [(0, .ref x0), (1, .int x1)] [] w (f_V_loseSpoiled_9 F x0 K125 n x1 w) := by
  intro n
  induction n with
  | zero => intro x1 w; exact ga_no
  | succ n ih =>
    intro x1 w
    rw [f_V_loseSpoiled_9]
    refine ga_iload_n (q := 1) d_V_loseSpoiled_9 rfl rfl ?_
    refine ga_aload_n (q := 0) d_V_loseSpoiled_10 rfl rfl ?_
    refine ga_getR (C := "LevelStore$Levels") (T := T_V) (N := 9) (k := 0) (ci := 1) (fun x h => List.mem_cons_of_mem _ (iw_V x h)) rfl (by decide) (List.mem_cons_of_mem _ gw_208) d_V_loseSpoiled_11 (fun r1 => ?_)
    refine ga_getI (C := "LevelStore$Shelf") (T := T_S) (N := 5) (k := 4) (ci := 3) (fun x h => List.mem_cons_of_mem _ (iw_S x h)) rfl (by decide) (List.mem_cons_of_mem _ gw_174) d_V_loseSpoiled_14 (fun v2 => ?_)
    refine ga_icmp_ge (tgt := 125) d_V_loseSpoiled_17 (by decide) (fun h3 => ?_) (fun h3 => ?_)
    · refine ga_sub (lv2 := [(0, .ref x0)]) [0] rfl ?_
      exact hK125  _
    · refine ga_aload_n (q := 0) d_V_loseSpoiled_20 rfl rfl ?_
      refine ga_getR (C := "LevelStore$Levels") (T := T_V) (N := 9) (k := 0) (ci := 1) (fun x h => List.mem_cons_of_mem _ (iw_V x h)) rfl (by decide) (List.mem_cons_of_mem _ gw_208) d_V_loseSpoiled_21 (fun r4 => ?_)
      refine ga_getR (C := "LevelStore$Shelf") (T := T_S) (N := 5) (k := 3) (ci := 3) (fun x h => List.mem_cons_of_mem _ (iw_S x h)) rfl (by decide) (List.mem_cons_of_mem _ gw_171) d_V_loseSpoiled_24 (fun r5 => ?_)
      refine ga_iload_n (q := 1) d_V_loseSpoiled_27 rfl rfl ?_
      refine ga_ldI (t := 0) rfl d_V_loseSpoiled_28 (fun v6 => ?_)
      refine ga_istore_n (lv2 := [(2, .int v6), (0, .ref x0), (1, .int x1)]) d_V_loseSpoiled_29 rfl (by decide) rfl ?_
      refine ga_sub (lv2 := [(0, .ref x0), (1, .int x1), (2, .int v6)]) [1, 2, 0] rfl ?_
      refine h_V_loseSpoiled_30 hst F x0 x1 _ (fun w7 => ?_) F v6 w
      refine ga_aload_n (q := 0) d_V_loseSpoiled_84 rfl rfl ?_
      refine ga_getR (C := "LevelStore$Levels") (T := T_V) (N := 9) (k := 1) (ci := 1) (fun x h => List.mem_cons_of_mem _ (iw_V x h)) rfl (by decide) (List.mem_cons_of_mem _ gw_210) d_V_loseSpoiled_85 (fun r8 => ?_)
      refine ga_invV (nA := 0) (ci := 3) (T := T_S) (N := 5) (av := []) (a := r8) (st := []) (m_S_hasLooseRows hst F r8 w7) (Or.inl rfl) (gz_gV gw_294 gw_295 gw_296 gw_55 gw_297) rfl ⟨rfl, by decide +kernel⟩ rfl (by decide) (by decide) (Nat.le_of_ble_eq_true rfl) rfl d_V_loseSpoiled_88 (ga_vI (fun v10 w9 => ?_)) (fun _ _ => ga_thru rfl)
      refine ga_if_eq (tgt := 119) d_V_loseSpoiled_91 (by decide) (fun h11 => ?_) (fun h11 => ?_)
      · refine ga_iinc (q := 1) (v := (x1 + (1 : Int32))) (lv2 := [(1, .int (x1 + (1 : Int32))), (0, .ref x0)]) d_V_loseSpoiled_119 rfl rfl (by decide) rfl ?_
        refine ga_goto (tgt := 9) d_V_loseSpoiled_122 (by decide) ?_
        refine ga_sub (lv2 := [(0, .ref x0), (1, .int (x1 + (1 : Int32)))]) [1, 0] rfl ?_
        exact ih _ _
      · refine ga_aload_n (q := 0) d_V_loseSpoiled_94 rfl rfl ?_
        refine ga_getR (C := "LevelStore$Levels") (T := T_V) (N := 9) (k := 1) (ci := 1) (fun x h => List.mem_cons_of_mem _ (iw_V x h)) rfl (by decide) (List.mem_cons_of_mem _ gw_210) d_V_loseSpoiled_95 (fun r12 => ?_)
        refine ga_aload_n (q := 0) d_V_loseSpoiled_98 rfl rfl ?_
        refine ga_getR (C := "LevelStore$Levels") (T := T_V) (N := 9) (k := 0) (ci := 1) (fun x h => List.mem_cons_of_mem _ (iw_V x h)) rfl (by decide) (List.mem_cons_of_mem _ gw_208) d_V_loseSpoiled_99 (fun r13 => ?_)
        refine ga_getR (C := "LevelStore$Shelf") (T := T_S) (N := 5) (k := 1) (ci := 3) (fun x h => List.mem_cons_of_mem _ (iw_S x h)) rfl (by decide) (List.mem_cons_of_mem _ gw_165) d_V_loseSpoiled_102 (fun r14 => ?_)
        refine ga_iload_n (q := 1) d_V_loseSpoiled_105 rfl rfl ?_
        refine ga_ldI (t := 0) rfl d_V_loseSpoiled_106 (fun v15 => ?_)
        refine ga_aload_n (q := 0) d_V_loseSpoiled_107 rfl rfl ?_
        refine ga_getR (C := "LevelStore$Levels") (T := T_V) (N := 9) (k := 0) (ci := 1) (fun x h => List.mem_cons_of_mem _ (iw_V x h)) rfl (by decide) (List.mem_cons_of_mem _ gw_208) d_V_loseSpoiled_108 (fun r16 => ?_)
        refine ga_getR (C := "LevelStore$Shelf") (T := T_S) (N := 5) (k := 2) (ci := 3) (fun x h => List.mem_cons_of_mem _ (iw_S x h)) rfl (by decide) (List.mem_cons_of_mem _ gw_168) d_V_loseSpoiled_111 (fun r17 => ?_)
        refine ga_iload_n (q := 1) d_V_loseSpoiled_114 rfl rfl ?_
        refine ga_ldI (t := 0) rfl d_V_loseSpoiled_115 (fun v18 => ?_)
        refine ga_invV (nA := 2) (ci := 3) (T := T_S) (N := 5) (av := [.int v15, .int v18]) (a := r12) (st := []) (m_S_endTable hst F r12 v15 v18 w9) (Or.inl rfl) (gz_gV gw_298 gw_299 gw_300 gw_55 gw_301) rfl ⟨rfl, by decide +kernel⟩ rfl (by decide) (by decide) (Nat.le_of_ble_eq_true rfl) rfl d_V_loseSpoiled_116 (ga_vV (fun w19 => ?_)) (fun _ _ => ga_thru rfl)
        refine ga_iinc (q := 1) (v := (x1 + (1 : Int32))) (lv2 := [(1, .int (x1 + (1 : Int32))), (0, .ref x0)]) d_V_loseSpoiled_119 rfl rfl (by decide) rfl ?_
        refine ga_goto (tgt := 9) d_V_loseSpoiled_122 (by decide) ?_
        refine ga_sub (lv2 := [(0, .ref x0), (1, .int (x1 + (1 : Int32)))]) [1, 0] rfl ?_
        exact ih _ _
set_option maxHeartbeats 4000000 in
set_option maxRecDepth 100000 in
theorem m_V_loseSpoiled (hst : l.stackTraces = false) (F : Nat) (p0 : Nat) (w : ga_W) : ga_M l S0 D gz_cl (gz_tA cT) base b gz_xn y_V_loseSpoiled ws_V_loseSpoiled 1 22 true [.ref p0] w (f_V_loseSpoiled F p0 w) := by
  refine ga_enter (cc := c_V_loseSpoiled) (maxL := 3) (ret := (some .int)) hst (by decide) rfl (Nat.le_of_ble_eq_true rfl) ?_
  intro p e R s m args below meth c ad0
  refine ga_sub (lv2 := [(0, .ref p0)]) [0] rfl ?_
  unfold f_V_loseSpoiled
  refine ga_aload_n (q := 0) d_V_loseSpoiled_0 rfl rfl ?_
  refine ga_getR (C := "LevelStore$Levels") (T := T_V) (N := 9) (k := 1) (ci := 1) (fun x h => List.mem_cons_of_mem _ (iw_V x h)) rfl (by decide) (List.mem_cons_of_mem _ gw_210) d_V_loseSpoiled_1 (fun r1 => ?_)
  refine ga_invV (nA := 0) (ci := 3) (T := T_S) (N := 5) (av := []) (a := r1) (st := []) (m_S_clear hst F r1 w) (Or.inl rfl) (gz_gV gw_286 gw_287 gw_288 gw_55 gw_289) rfl ⟨rfl, by decide +kernel⟩ rfl (by decide) (by decide) (Nat.le_of_ble_eq_true rfl) rfl d_V_loseSpoiled_4 (ga_vV (fun w2 => ?_)) (fun _ _ => ga_thru rfl)
  refine ga_iconst (v := (0 : Int32)) d_V_loseSpoiled_7 (by decide) ?_
  refine ga_istore_n (lv2 := [(1, .int (0 : Int32)), (0, .ref p0)]) d_V_loseSpoiled_8 rfl (by decide) rfl ?_
  refine ga_sub (lv2 := [(0, .ref p0), (1, .int (0 : Int32))]) [1, 0] rfl ?_
  refine h_V_loseSpoiled_9 hst F p0 _ (fun w3 => ?_) F (0 : Int32) w2
  refine ga_aload_n (q := 0) d_V_loseSpoiled_125 rfl rfl ?_
  refine ga_getR (C := "LevelStore$Levels") (T := T_V) (N := 9) (k := 0) (ci := 1) (fun x h => List.mem_cons_of_mem _ (iw_V x h)) rfl (by decide) (List.mem_cons_of_mem _ gw_208) d_V_loseSpoiled_126 (fun r4 => ?_)
  refine ga_getR (C := "LevelStore$Shelf") (T := T_S) (N := 5) (k := 0) (ci := 3) (fun x h => List.mem_cons_of_mem _ (iw_S x h)) rfl (by decide) (List.mem_cons_of_mem _ gw_162) d_V_loseSpoiled_129 (fun r5 => ?_)
  refine ga_getI (C := "LevelStore$Entries") (T := T_E) (N := 6) (k := 5) (ci := 0) (fun x h => List.mem_cons_of_mem _ (iw_E x h)) rfl (by decide) (List.mem_cons_of_mem _ gw_115) d_V_loseSpoiled_132 (fun v6 => ?_)
  refine ga_aload_n (q := 0) d_V_loseSpoiled_135 rfl rfl ?_
  refine ga_getR (C := "LevelStore$Levels") (T := T_V) (N := 9) (k := 1) (ci := 1) (fun x h => List.mem_cons_of_mem _ (iw_V x h)) rfl (by decide) (List.mem_cons_of_mem _ gw_210) d_V_loseSpoiled_136 (fun r7 => ?_)
  refine ga_getR (C := "LevelStore$Shelf") (T := T_S) (N := 5) (k := 0) (ci := 3) (fun x h => List.mem_cons_of_mem _ (iw_S x h)) rfl (by decide) (List.mem_cons_of_mem _ gw_162) d_V_loseSpoiled_139 (fun r8 => ?_)
  refine ga_getI (C := "LevelStore$Entries") (T := T_E) (N := 6) (k := 5) (ci := 0) (fun x h => List.mem_cons_of_mem _ (iw_E x h)) rfl (by decide) (List.mem_cons_of_mem _ gw_115) d_V_loseSpoiled_142 (fun v9 => ?_)
  refine ga_isub d_V_loseSpoiled_145 ?_
  refine ga_istore_n (lv2 := [(1, .int (v6 - v9)), (0, .ref p0)]) d_V_loseSpoiled_146 rfl (by decide) rfl ?_
  refine ga_aload_n (q := 1) d_V_loseSpoiled_147 rfl rfl ?_
  refine ga_invV (nA := 0) (ci := 1) (T := T_V) (N := 9) (av := []) (a := p0) (st := []) (m_V_changeShelf hst F p0 w3) (Or.inl rfl) (gz_gV gw_302 gw_304 gw_0 gw_54 gw_305) rfl ⟨rfl, by decide +kernel⟩ rfl (by decide) (by decide) (Nat.le_of_ble_eq_true rfl) rfl d_V_loseSpoiled_148 (ga_vV (fun w10 => ?_)) (fun _ _ => ga_thru rfl)
  refine ga_aload_n (q := 1) d_V_loseSpoiled_151 rfl rfl ?_
  refine ga_iconst (v := (0 : Int32)) d_V_loseSpoiled_152 (by decide) ?_
  refine ga_putB (C := "LevelStore$Levels") (T := T_V) (N := 9) (k := 6) (ci := 1) (ty0 := ty_V) (fun x h => List.mem_cons_of_mem _ (iw_V x h)) ty_V_ok nm_V rfl (by decide) (List.mem_cons_of_mem _ gw_216) (Or.inl rfl) (fun _ => ⟨rfl, rfl⟩) d_V_loseSpoiled_153 (fun w11 => ?_)
  refine ga_iload_n (q := 0) d_V_loseSpoiled_156 rfl rfl ?_
  exact ga_iret rfl d_V_loseSpoiled_157
noncomputable def f_L_oldest_7 (F : Nat) (x0 : Nat) : Nat → Int32 → Int32 → ga_W → ga_O
  | 0, _, _, _ => none
  | n + 1, x1, x2, w => (if (4 : Int32) ≤ x2 then (some (.inl (some (.int x1)), w)) else ((ga_gr w 5 3 x0).bind fun r2 => ((ga_ai w 0 r2 x2).bind fun v3 => (if v3 = (-1 : Int32) then (f_L_oldest_7 F x0 n x1 (x2 + (1 : Int32)) w) else ((ga_gr w 5 3 x0).bind fun r5 => ((ga_ai w 0 r5 x2).bind fun v6 => (f_L_oldest_7 F x0 n (if v6 < x1 then v6 else x1) (x2 + (1 : Int32)) w)))))))
noncomputable def f_L_oldest (F : Nat) (p0 : Nat) (w : ga_W) : ga_O :=
  ((ga_gi w 5 5 p0).bind fun v1 => (f_L_oldest_7 F p0 F v1 (0 : Int32) w))
set_option maxHeartbeats 4000000 in
set_option maxRecDepth 100000 in
theorem h_L_oldest_7 (hst : l.stackTraces = false) (F : Nat) (x0 : Nat) : ∀ (n : Nat) (x1 : Int32) (x2 : Int32) (w : ga_W), ga_J l S0 D gz_cl (gz_tA cT) base b gz_xn p e R s m args below meth c 3 ws_L_oldest y_L_oldest.cls c_L_oldest (some .int) [] y_L_oldest.name 1 21 true ad0 w0 (ga_MQ gz_xn D gz_cl (gz_tA cT) base b s args below ad0 w0) 7 [(0, .ref x0), (1, .int x1), (2, .int x2)] [] w (f_L_oldest_7 F x0 n x1 x2 w) := by
  intro n
  induction n with
  | zero => intro x1 x2 w; exact ga_no
  | succ n ih =>
    intro x1 x2 w
    rw [f_L_oldest_7]
    refine ga_iload_n (q := 2) d_L_oldest_7 rfl rfl ?_
    refine ga_iconst (v := (4 : Int32)) d_L_oldest_8 (by decide) ?_
    refine ga_icmp_ge (tgt := 39) d_L_oldest_9 (by decide) (fun h1 => ?_) (fun h1 => ?_)
    · refine ga_iload_n (q := 1) d_L_oldest_39 rfl rfl ?_
      exact ga_iret rfl d_L_oldest_40
    · refine ga_aload_n (q := 0) d_L_oldest_12 rfl rfl ?_
      refine ga_getR (C := "LevelStore") (T := T_L) (N := 9) (k := 3) (ci := 5) (fun x h => List.mem_cons_of_mem _ (iw_L x h)) rfl (by decide) (List.mem_cons_of_mem _ gw_249) d_L_oldest_13 (fun r2 => ?_)
      refine ga_iload_n (q := 2) d_L_oldest_16 rfl rfl ?_
      refine ga_ldI (t := 0) rfl d_L_oldest_17 (fun v3 => ?_)
      refine ga_iconst (v := (-1 : Int32)) d_L_oldest_18 (by decide) ?_
      refine ga_icmp_eq (tgt := 33) d_L_oldest_19 (by decide) (fun h4 => ?_) (fun h4 => ?_)
      · refine ga_iinc (q := 2) (v := (x2 + (1 : Int32))) (lv2 := [(2, .int (x2 + (1 : Int32))), (0, .ref x0), (1, .int x1)]) d_L_oldest_33 rfl rfl (by decide) rfl ?_
        refine ga_goto (tgt := 7) d_L_oldest_36 (by decide) ?_
        refine ga_sub (lv2 := [(0, .ref x0), (1, .int x1), (2, .int (x2 + (1 : Int32)))]) [1, 2, 0] rfl ?_
        exact ih _ _ _
      · refine ga_iload_n (q := 1) d_L_oldest_22 rfl rfl ?_
        refine ga_aload_n (q := 0) d_L_oldest_23 rfl rfl ?_
        refine ga_getR (C := "LevelStore") (T := T_L) (N := 9) (k := 3) (ci := 5) (fun x h => List.mem_cons_of_mem _ (iw_L x h)) rfl (by decide) (List.mem_cons_of_mem _ gw_249) d_L_oldest_24 (fun r5 => ?_)
        refine ga_iload_n (q := 2) d_L_oldest_27 rfl rfl ?_
        refine ga_ldI (t := 0) rfl d_L_oldest_28 (fun v6 => ?_)
        refine ga_min (List.mem_cons_of_mem _ gw_310) (List.mem_cons_of_mem _ gw_311) (List.mem_cons_of_mem _ gw_65) (List.mem_cons_of_mem _ gw_312) (Nat.le_of_ble_eq_true rfl) (by decide) (by decide) d_L_oldest_29 ?_
        refine ga_istore_n (lv2 := [(1, .int (if v6 < x1 then v6 else x1)), (0, .ref x0), (2, .int x2)]) d_L_oldest_32 rfl (by decide) rfl ?_
        refine ga_iinc (q := 2) (v := (x2 + (1 : Int32))) (lv2 := [(2, .int (x2 + (1 : Int32))), (1, .int (if v6 < x1 then v6 else x1)), (0, .ref x0)]) d_L_oldest_33 rfl rfl (by decide) rfl ?_
        refine ga_goto (tgt := 7) d_L_oldest_36 (by decide) ?_
        refine ga_sub (lv2 := [(0, .ref x0), (1, .int (if v6 < x1 then v6 else x1)), (2, .int (x2 + (1 : Int32)))]) [2, 1, 0] rfl ?_
        exact ih _ _ _
set_option maxHeartbeats 4000000 in
set_option maxRecDepth 100000 in
theorem m_L_oldest (hst : l.stackTraces = false) (F : Nat) (p0 : Nat) (w : ga_W) : ga_M l S0 D gz_cl (gz_tA cT) base b gz_xn y_L_oldest ws_L_oldest 1 21 true [.ref p0] w (f_L_oldest F p0 w) := by
  refine ga_enter (cc := c_L_oldest) (maxL := 3) (ret := (some .int)) hst (by decide) rfl (Nat.le_of_ble_eq_true rfl) ?_
  intro p e R s m args below meth c ad0
  refine ga_sub (lv2 := [(0, .ref p0)]) [0] rfl ?_
  unfold f_L_oldest
  refine ga_aload_n (q := 0) d_L_oldest_0 rfl rfl ?_
  refine ga_getI (C := "LevelStore") (T := T_L) (N := 9) (k := 5) (ci := 5) (fun x h => List.mem_cons_of_mem _ (iw_L x h)) rfl (by decide) (List.mem_cons_of_mem _ gw_251) d_L_oldest_1 (fun v1 => ?_)
  refine ga_istore_n (lv2 := [(1, .int v1), (0, .ref p0)]) d_L_oldest_4 rfl (by decide) rfl ?_
  refine ga_iconst (v := (0 : Int32)) d_L_oldest_5 (by decide) ?_
  refine ga_istore_n (lv2 := [(2, .int (0 : Int32)), (1, .int v1), (0, .ref p0)]) d_L_oldest_6 rfl (by decide) rfl ?_
  refine ga_sub (lv2 := [(0, .ref p0), (1, .int v1), (2, .int (0 : Int32))]) [2, 1, 0] rfl ?_
  exact h_L_oldest_7 hst F p0 F v1 (0 : Int32) w
noncomputable def f_S_tablesOn_4 (F : Nat) (x0 : Nat) (x1 : Int32) : Nat → Int32 → Int32 → ga_W → ga_O
  | 0, _, _, _ => none
  | n + 1, x2, x3, w => ((ga_gi w 3 4 x0).bind fun v1 => (if v1 ≤ x3 then (some (.inl (some (.int x2)), w)) else ((ga_gr w 3 2 x0).bind fun r3 => ((ga_ai w 0 r3 x3).bind fun v4 => (if v4 = x1 then (f_S_tablesOn_4 F x0 x1 n (x2 + (1 : Int32)) (x3 + (1 : Int32)) w) else (f_S_tablesOn_4 F x0 x1 n x2 (x3 + (1 : Int32)) w))))))
noncomputable def f_S_tablesOn (F : Nat) (p0 : Nat) (p1 : Int32) (w : ga_W) : ga_O :=
  (f_S_tablesOn_4 F p0 p1 F (0 : Int32) (0 : Int32) w)
set_option maxHeartbeats 4000000 in
set_option maxRecDepth 100000 in
theorem h_S_tablesOn_4 (hst : l.stackTraces = false) (F : Nat) (x0 : Nat) (x1 : Int32) : ∀ (n : Nat) (x2 : Int32) (x3 : Int32) (w : ga_W), ga_J l S0 D gz_cl (gz_tA cT) base b gz_xn p e R s m args below meth c 4 ws_S_tablesOn y_S_tablesOn.cls c_S_tablesOn (some .int) [] y_S_tablesOn.name 0 0 true ad0 w0 (ga_MQ gz_xn D gz_cl (gz_tA cT) base b s args below ad0 w0) 4 [(0, .ref x0), (1, .int x1), (2, .int x2), (3, .int x3)] [] w (f_S_tablesOn_4 F x0 x1 n x2 x3 w) := by
  intro n
  induction n with
  | zero => intro x2 x3 w; exact ga_no
  | succ n ih =>
    intro x2 x3 w
    rw [f_S_tablesOn_4]
    refine ga_iload_n (q := 3) d_S_tablesOn_4 rfl rfl ?_
    refine ga_aload_n (q := 0) d_S_tablesOn_5 rfl rfl ?_
    refine ga_getI (C := "LevelStore$Shelf") (T := T_S) (N := 5) (k := 4) (ci := 3) (fun x h => List.mem_cons_of_mem _ (iw_S x h)) rfl (by decide) (List.mem_cons_of_mem _ gw_173) d_S_tablesOn_6 (fun v1 => ?_)
    refine ga_icmp_ge (tgt := 31) d_S_tablesOn_9 (by decide) (fun h2 => ?_) (fun h2 => ?_)
    · refine ga_iload_n (q := 2) d_S_tablesOn_31 rfl rfl ?_
      exact ga_iret rfl d_S_tablesOn_32
    · refine ga_aload_n (q := 0) d_S_tablesOn_12 rfl rfl ?_
      refine ga_getR (C := "LevelStore$Shelf") (T := T_S) (N := 5) (k := 2) (ci := 3) (fun x h => List.mem_cons_of_mem _ (iw_S x h)) rfl (by decide) (List.mem_cons_of_mem _ gw_167) d_S_tablesOn_13 (fun r3 => ?_)
      refine ga_iload_n (q := 3) d_S_tablesOn_16 rfl rfl ?_
      refine ga_ldI (t := 0) rfl d_S_tablesOn_17 (fun v4 => ?_)
      refine ga_iload_n (q := 1) d_S_tablesOn_18 rfl rfl ?_
      refine ga_icmp_ne (tgt := 25) d_S_tablesOn_19 (by decide) (fun h5 => ?_) (fun h5 => ?_)
      · refine ga_iinc (q := 2) (v := (x2 + (1 : Int32))) (lv2 := [(2, .int (x2 + (1 : Int32))), (0, .ref x0), (1, .int x1), (3, .int x3)]) d_S_tablesOn_22 rfl rfl (by decide) rfl ?_
        refine ga_iinc (q := 3) (v := (x3 + (1 : Int32))) (lv2 := [(3, .int (x3 + (1 : Int32))), (2, .int (x2 + (1 : Int32))), (0, .ref x0), (1, .int x1)]) d_S_tablesOn_25 rfl rfl (by decide) rfl ?_
        refine ga_goto (tgt := 4) d_S_tablesOn_28 (by decide) ?_
        refine ga_sub (lv2 := [(0, .ref x0), (1, .int x1), (2, .int (x2 + (1 : Int32))), (3, .int (x3 + (1 : Int32)))]) [2, 3, 1, 0] rfl ?_
        exact ih _ _ _
      · refine ga_iinc (q := 3) (v := (x3 + (1 : Int32))) (lv2 := [(3, .int (x3 + (1 : Int32))), (0, .ref x0), (1, .int x1), (2, .int x2)]) d_S_tablesOn_25 rfl rfl (by decide) rfl ?_
        refine ga_goto (tgt := 4) d_S_tablesOn_28 (by decide) ?_
        refine ga_sub (lv2 := [(0, .ref x0), (1, .int x1), (2, .int x2), (3, .int (x3 + (1 : Int32)))]) [1, 2, 3, 0] rfl ?_
        exact ih _ _ _
set_option maxHeartbeats 4000000 in
set_option maxRecDepth 100000 in
theorem m_S_tablesOn (hst : l.stackTraces = false) (F : Nat) (p0 : Nat) (p1 : Int32) (w : ga_W) : ga_M l S0 D gz_cl (gz_tA cT) base b gz_xn y_S_tablesOn ws_S_tablesOn 0 0 true [.ref p0, .int p1] w (f_S_tablesOn F p0 p1 w) := by
  refine ga_enter (cc := c_S_tablesOn) (maxL := 4) (ret := (some .int)) hst (by decide) rfl (Nat.le_of_ble_eq_true rfl) ?_
  intro p e R s m args below meth c ad0
  refine ga_sub (lv2 := [(0, .ref p0), (1, .int p1)]) [0, 1] rfl ?_
  unfold f_S_tablesOn
  refine ga_iconst (v := (0 : Int32)) d_S_tablesOn_0 (by decide) ?_
  refine ga_istore_n (lv2 := [(2, .int (0 : Int32)), (0, .ref p0), (1, .int p1)]) d_S_tablesOn_1 rfl (by decide) rfl ?_
  refine ga_iconst (v := (0 : Int32)) d_S_tablesOn_2 (by decide) ?_
  refine ga_istore_n (lv2 := [(3, .int (0 : Int32)), (2, .int (0 : Int32)), (0, .ref p0), (1, .int p1)]) d_S_tablesOn_3 rfl (by decide) rfl ?_
  refine ga_sub (lv2 := [(0, .ref p0), (1, .int p1), (2, .int (0 : Int32)), (3, .int (0 : Int32))]) [2, 3, 1, 0] rfl ?_
  exact h_S_tablesOn_4 hst F p0 p1 F (0 : Int32) (0 : Int32) w
noncomputable def f_V_fullLevel_16 (F : Nat) (x0 : Nat) : Nat → Int32 → ga_W → ga_O
  | 0, _, _ => none
  | n + 1, x1, w => (if (3 : Int32) ≤ x1 then (some (.inl (some (.int (-1 : Int32))), w)) else ((ga_gr w 1 0 x0).bind fun r2 => (if ga_is w 3 r2 = true then ga_c (f_S_tablesOn F r2 x1 w) (ga_kI fun v4 w3 => (if v4 ≤ (((2 : Int32) * x1) + (1 : Int32)) then (f_V_fullLevel_16 F x0 n (x1 + (1 : Int32)) w3) else (some (.inl (some (.int x1)), w3)))) ga_up else none)))
noncomputable def f_V_fullLevel (F : Nat) (p0 : Nat) (w : ga_W) : ga_O :=
  ((ga_gr w 1 0 p0).bind fun r1 => (if ga_is w 3 r1 = true then ga_c (f_S_tablesOn F r1 (0 : Int32) w) (ga_kI fun v3 w2 => (if v3 < (4 : Int32) then (f_V_fullLevel_16 F p0 F (1 : Int32) w2) else (some (.inl (some (.int (0 : Int32))), w2)))) ga_up else none))
set_option maxHeartbeats 4000000 in
set_option maxRecDepth 100000 in
theorem h_V_fullLevel_16 (hst : l.stackTraces = false) (F : Nat) (x0 : Nat) : ∀ (n : Nat) (x1 : Int32) (w : ga_W), ga_J l S0 D gz_cl (gz_tA cT) base b gz_xn p e R s m args below meth c 2 ws_V_fullLevel y_V_fullLevel.cls c_V_fullLevel (some .int) [] y_V_fullLevel.name 1 23 true ad0 w0 (ga_MQ gz_xn D gz_cl (gz_tA cT) base b s args below ad0 w0) 16 [(0, .ref x0), (1, .int x1)] [] w (f_V_fullLevel_16 F x0 n x1 w) := by
  intro n
  induction n with
  | zero => intro x1 w; exact ga_no
  | succ n ih =>
    intro x1 w
    rw [f_V_fullLevel_16]
    refine ga_iload_n (q := 1) d_V_fullLevel_16 rfl rfl ?_
    refine ga_iconst (v := (3 : Int32)) d_V_fullLevel_17 (by decide) ?_
    refine ga_icmp_ge (tgt := 45) d_V_fullLevel_18 (by decide) (fun h1 => ?_) (fun h1 => ?_)
    · refine ga_iconst (v := (-1 : Int32)) d_V_fullLevel_45 (by decide) ?_
      exact ga_iret rfl d_V_fullLevel_46
    · refine ga_aload_n (q := 0) d_V_fullLevel_21 rfl rfl ?_
      refine ga_getR (C := "LevelStore$Levels") (T := T_V) (N := 9) (k := 0) (ci := 1) (fun x h => List.mem_cons_of_mem _ (iw_V x h)) rfl (by decide) (List.mem_cons_of_mem _ gw_208) d_V_fullLevel_22 (fun r2 => ?_)
      refine ga_iload_n (q := 1) d_V_fullLevel_25 rfl rfl ?_
      refine ga_invV (nA := 1) (ci := 3) (T := T_S) (N := 5) (av := [.int x1]) (a := r2) (st := []) (m_S_tablesOn hst F r2 x1 w) (Or.inl rfl) (gz_gV gw_321 gw_322 gw_323 gw_55 gw_324) rfl ⟨rfl, by decide +kernel⟩ rfl (by decide) (by decide) (Nat.le_of_ble_eq_true rfl) rfl d_V_fullLevel_26 (ga_vI (fun v4 w3 => ?_)) (fun _ _ => ga_thru rfl)
      refine ga_iconst (v := (2 : Int32)) d_V_fullLevel_29 (by decide) ?_
      refine ga_iload_n (q := 1) d_V_fullLevel_30 rfl rfl ?_
      refine ga_imul d_V_fullLevel_31 ?_
      refine ga_iconst (v := (1 : Int32)) d_V_fullLevel_32 (by decide) ?_
      refine ga_iadd d_V_fullLevel_33 ?_
      refine ga_icmp_le (tgt := 39) d_V_fullLevel_34 (by decide) (fun h5 => ?_) (fun h5 => ?_)
      · refine ga_iinc (q := 1) (v := (x1 + (1 : Int32))) (lv2 := [(1, .int (x1 + (1 : Int32))), (0, .ref x0)]) d_V_fullLevel_39 rfl rfl (by decide) rfl ?_
        refine ga_goto (tgt := 16) d_V_fullLevel_42 (by decide) ?_
        refine ga_sub (lv2 := [(0, .ref x0), (1, .int (x1 + (1 : Int32)))]) [1, 0] rfl ?_
        exact ih _ _
      · refine ga_iload_n (q := 1) d_V_fullLevel_37 rfl rfl ?_
        exact ga_iret rfl d_V_fullLevel_38
set_option maxHeartbeats 4000000 in
set_option maxRecDepth 100000 in
theorem m_V_fullLevel (hst : l.stackTraces = false) (F : Nat) (p0 : Nat) (w : ga_W) : ga_M l S0 D gz_cl (gz_tA cT) base b gz_xn y_V_fullLevel ws_V_fullLevel 1 23 true [.ref p0] w (f_V_fullLevel F p0 w) := by
  refine ga_enter (cc := c_V_fullLevel) (maxL := 2) (ret := (some .int)) hst (by decide) rfl (Nat.le_of_ble_eq_true rfl) ?_
  intro p e R s m args below meth c ad0
  refine ga_sub (lv2 := [(0, .ref p0)]) [0] rfl ?_
  unfold f_V_fullLevel
  refine ga_aload_n (q := 0) d_V_fullLevel_0 rfl rfl ?_
  refine ga_getR (C := "LevelStore$Levels") (T := T_V) (N := 9) (k := 0) (ci := 1) (fun x h => List.mem_cons_of_mem _ (iw_V x h)) rfl (by decide) (List.mem_cons_of_mem _ gw_208) d_V_fullLevel_1 (fun r1 => ?_)
  refine ga_iconst (v := (0 : Int32)) d_V_fullLevel_4 (by decide) ?_
  refine ga_invV (nA := 1) (ci := 3) (T := T_S) (N := 5) (av := [.int (0 : Int32)]) (a := r1) (st := []) (m_S_tablesOn hst F r1 (0 : Int32) w) (Or.inl rfl) (gz_gV gw_321 gw_322 gw_323 gw_55 gw_324) rfl ⟨rfl, by decide +kernel⟩ rfl (by decide) (by decide) (Nat.le_of_ble_eq_true rfl) rfl d_V_fullLevel_5 (ga_vI (fun v3 w2 => ?_)) (fun _ _ => ga_thru rfl)
  refine ga_iconst (v := (4 : Int32)) d_V_fullLevel_8 (by decide) ?_
  refine ga_icmp_lt (tgt := 14) d_V_fullLevel_9 (by decide) (fun h4 => ?_) (fun h4 => ?_)
  · refine ga_iconst (v := (1 : Int32)) d_V_fullLevel_14 (by decide) ?_
    refine ga_istore_n (lv2 := [(1, .int (1 : Int32)), (0, .ref p0)]) d_V_fullLevel_15 rfl (by decide) rfl ?_
    refine ga_sub (lv2 := [(0, .ref p0), (1, .int (1 : Int32))]) [1, 0] rfl ?_
    exact h_V_fullLevel_16 hst F p0 F (1 : Int32) w2
  · refine ga_iconst (v := (0 : Int32)) d_V_fullLevel_12 (by decide) ?_
    exact ga_iret rfl d_V_fullLevel_13
noncomputable def f_S_leastKey (F : Nat) (p0 : Nat) (p1 : Int32) (w : ga_W) : ga_O :=
  ((ga_gr w 3 0 p0).bind fun r1 => ((ga_gr w 0 0 r1).bind fun r2 => ((ga_gr w 3 3 p0).bind fun r3 => ((ga_ai w 0 r3 p1).bind fun v4 => ((ga_ai w 0 r2 v4).bind fun v5 => (some (.inl (some (.int v5)), w)))))))
set_option maxHeartbeats 4000000 in
set_option maxRecDepth 100000 in
theorem m_S_leastKey (hst : l.stackTraces = false) (F : Nat) (p0 : Nat) (p1 : Int32) (w : ga_W) : ga_M l S0 D gz_cl (gz_tA cT) base b gz_xn y_S_leastKey ws_S_leastKey 0 0 true [.ref p0, .int p1] w (f_S_leastKey F p0 p1 w) := by
  refine ga_enter (cc := c_S_leastKey) (maxL := 2) (ret := (some .int)) hst (by decide) rfl (Nat.le_of_ble_eq_true rfl) ?_
  intro p e R s m args below meth c ad0
  refine ga_sub (lv2 := [(0, .ref p0), (1, .int p1)]) [0, 1] rfl ?_
  unfold f_S_leastKey
  refine ga_aload_n (q := 0) d_S_leastKey_0 rfl rfl ?_
  refine ga_getR (C := "LevelStore$Shelf") (T := T_S) (N := 5) (k := 0) (ci := 3) (fun x h => List.mem_cons_of_mem _ (iw_S x h)) rfl (by decide) (List.mem_cons_of_mem _ gw_161) d_S_leastKey_1 (fun r1 => ?_)
  refine ga_getR (C := "LevelStore$Entries") (T := T_E) (N := 6) (k := 0) (ci := 0) (fun x h => List.mem_cons_of_mem _ (iw_E x h)) rfl (by decide) (List.mem_cons_of_mem _ gw_92) d_S_leastKey_4 (fun r2 => ?_)
  refine ga_aload_n (q := 0) d_S_leastKey_7 rfl rfl ?_
  refine ga_getR (C := "LevelStore$Shelf") (T := T_S) (N := 5) (k := 3) (ci := 3) (fun x h => List.mem_cons_of_mem _ (iw_S x h)) rfl (by decide) (List.mem_cons_of_mem _ gw_170) d_S_leastKey_8 (fun r3 => ?_)
  refine ga_iload_n (q := 1) d_S_leastKey_11 rfl rfl ?_
  refine ga_ldI (t := 0) rfl d_S_leastKey_12 (fun v4 => ?_)
  refine ga_ldI (t := 0) rfl d_S_leastKey_13 (fun v5 => ?_)
  exact ga_iret rfl d_S_leastKey_14
noncomputable def f_S_firstAbove_5 (F : Nat) (x0 : Nat) (x1 : Int32) (x2 : Int32) : Nat → Int32 → Int32 → ga_W → ga_O
  | 0, _, _, _ => none
  | n + 1, x3, x4, w => ((ga_gi w 3 4 x0).bind fun v1 => (if v1 ≤ x4 then (some (.inl (some (.int x3)), w)) else ((ga_gr w 3 2 x0).bind fun r3 => ((ga_ai w 0 r3 x4).bind fun v4 => (if v4 = x1 then (if ga_is w 3 x0 = true then ga_c (f_S_leastKey F x0 x4 w) (ga_kI fun v7 w6 => (if v7 ≤ x2 then (if x3 = (-1 : Int32) then (f_S_firstAbove_5 F x0 x1 x2 n x4 (x4 + (1 : Int32)) w6) else (f_S_firstAbove_5 F x0 x1 x2 n x3 (x4 + (1 : Int32)) w6)) else (some (.inl (some (.int x4)), w6)))) ga_up else none) else (f_S_firstAbove_5 F x0 x1 x2 n x3 (x4 + (1 : Int32)) w))))))
noncomputable def f_S_firstAbove (F : Nat) (p0 : Nat) (p1 : Int32) (p2 : Int32) (w : ga_W) : ga_O :=
  (f_S_firstAbove_5 F p0 p1 p2 F (-1 : Int32) (0 : Int32) w)
set_option maxHeartbeats 4000000 in
set_option maxRecDepth 100000 in
theorem h_S_firstAbove_5 (hst : l.stackTraces = false) (F : Nat) (x0 : Nat) (x1 : Int32) (x2 : Int32) : ∀ (n : Nat) (x3 : Int32) (x4 : Int32) (w : ga_W), ga_J l S0 D gz_cl (gz_tA cT) base b gz_xn p e R s m args below meth c 5 ws_S_firstAbove y_S_firstAbove.cls c_S_firstAbove (some .int) [] y_S_firstAbove.name 1 21 true ad0 w0 (ga_MQ gz_xn D gz_cl (gz_tA cT) base b s args below ad0 w0) 5 [(0, .ref x0), (1, .int x1), (2, .int x2), (3, .int x3), (4, .int x4)] [] w (f_S_firstAbove_5 F x0 x1 x2 n x3 x4 w) := by
  intro n
  induction n with
  | zero => intro x3 x4 w; exact ga_no
  | succ n ih =>
    intro x3 x4 w
    rw [f_S_firstAbove_5]
    refine ga_iload (q := 4) d_S_firstAbove_5 rfl ?_
    refine ga_aload_n (q := 0) d_S_firstAbove_7 rfl rfl ?_
    refine ga_getI (C := "LevelStore$Shelf") (T := T_S) (N := 5) (k := 4) (ci := 3) (fun x h => List.mem_cons_of_mem _ (iw_S x h)) rfl (by decide) (List.mem_cons_of_mem _ gw_173) d_S_firstAbove_8 (fun v1 => ?_)
    refine ga_icmp_ge (tgt := 56) d_S_firstAbove_11 (by decide) (fun h2 => ?_) (fun h2 => ?_)
    · refine ga_iload_n (q := 3) d_S_firstAbove_56 rfl rfl ?_
      exact ga_iret rfl d_S_firstAbove_57
    · refine ga_aload_n (q := 0) d_S_firstAbove_14 rfl rfl ?_
      refine ga_getR (C := "LevelStore$Shelf") (T := T_S) (N := 5) (k := 2) (ci := 3) (fun x h => List.mem_cons_of_mem _ (iw_S x h)) rfl (by decide) (List.mem_cons_of_mem _ gw_167) d_S_firstAbove_15 (fun r3 => ?_)
      refine ga_iload (q := 4) d_S_firstAbove_18 rfl ?_
      refine ga_ldI (t := 0) rfl d_S_firstAbove_20 (fun v4 => ?_)
      refine ga_iload_n (q := 1) d_S_firstAbove_21 rfl rfl ?_
      refine ga_icmp_ne (tgt := 50) d_S_firstAbove_22 (by decide) (fun h5 => ?_) (fun h5 => ?_)
      · refine ga_aload_n (q := 0) d_S_firstAbove_25 rfl rfl ?_
        refine ga_iload (q := 4) d_S_firstAbove_26 rfl ?_
        refine ga_invV (nA := 1) (ci := 3) (T := T_S) (N := 5) (av := [.int x4]) (a := x0) (st := []) (m_S_leastKey hst F x0 x4 w) (Or.inl rfl) (gz_gV gw_329 gw_330 gw_331 gw_55 gw_332) rfl ⟨rfl, by decide +kernel⟩ rfl (by decide) (by decide) (Nat.le_of_ble_eq_true rfl) rfl d_S_firstAbove_28 (ga_vI (fun v7 w6 => ?_)) (fun _ _ => ga_thru rfl)
        refine ga_iload_n (q := 2) d_S_firstAbove_31 rfl rfl ?_
        refine ga_icmp_le (tgt := 38) d_S_firstAbove_32 (by decide) (fun h8 => ?_) (fun h8 => ?_)
        · refine ga_iload_n (q := 3) d_S_firstAbove_38 rfl rfl ?_
          refine ga_iconst (v := (-1 : Int32)) d_S_firstAbove_39 (by decide) ?_
          refine ga_icmp_ne (tgt := 48) d_S_firstAbove_40 (by decide) (fun h9 => ?_) (fun h9 => ?_)
          · refine ga_iload (q := 4) d_S_firstAbove_43 rfl ?_
            refine ga_goto (tgt := 49) d_S_firstAbove_45 (by decide) ?_
            refine ga_istore_n (lv2 := [(3, .int x4), (0, .ref x0), (1, .int x1), (2, .int x2), (4, .int x4)]) d_S_firstAbove_49 rfl (by decide) rfl ?_
            refine ga_iinc (q := 4) (v := (x4 + (1 : Int32))) (lv2 := [(4, .int (x4 + (1 : Int32))), (3, .int x4), (0, .ref x0), (1, .int x1), (2, .int x2)]) d_S_firstAbove_50 rfl rfl (by decide) rfl ?_
            refine ga_goto (tgt := 5) d_S_firstAbove_53 (by decide) ?_
            refine ga_sub (lv2 := [(0, .ref x0), (1, .int x1), (2, .int x2), (3, .int x4), (4, .int (x4 + (1 : Int32)))]) [2, 3, 4, 1, 0] rfl ?_
            exact ih _ _ _
          · refine ga_iload_n (q := 3) d_S_firstAbove_48 rfl rfl ?_
            refine ga_istore_n (lv2 := [(3, .int x3), (0, .ref x0), (1, .int x1), (2, .int x2), (4, .int x4)]) d_S_firstAbove_49 rfl (by decide) rfl ?_
            refine ga_iinc (q := 4) (v := (x4 + (1 : Int32))) (lv2 := [(4, .int (x4 + (1 : Int32))), (3, .int x3), (0, .ref x0), (1, .int x1), (2, .int x2)]) d_S_firstAbove_50 rfl rfl (by decide) rfl ?_
            refine ga_goto (tgt := 5) d_S_firstAbove_53 (by decide) ?_
            refine ga_sub (lv2 := [(0, .ref x0), (1, .int x1), (2, .int x2), (3, .int x3), (4, .int (x4 + (1 : Int32)))]) [2, 3, 4, 1, 0] rfl ?_
            exact ih _ _ _
        · refine ga_iload (q := 4) d_S_firstAbove_35 rfl ?_
          exact ga_iret rfl d_S_firstAbove_37
      · refine ga_iinc (q := 4) (v := (x4 + (1 : Int32))) (lv2 := [(4, .int (x4 + (1 : Int32))), (0, .ref x0), (1, .int x1), (2, .int x2), (3, .int x3)]) d_S_firstAbove_50 rfl rfl (by decide) rfl ?_
        refine ga_goto (tgt := 5) d_S_firstAbove_53 (by decide) ?_
        refine ga_sub (lv2 := [(0, .ref x0), (1, .int x1), (2, .int x2), (3, .int x3), (4, .int (x4 + (1 : Int32)))]) [1, 2, 3, 4, 0] rfl ?_
        exact ih _ _ _
set_option maxHeartbeats 4000000 in
set_option maxRecDepth 100000 in
theorem m_S_firstAbove (hst : l.stackTraces = false) (F : Nat) (p0 : Nat) (p1 : Int32) (p2 : Int32) (w : ga_W) : ga_M l S0 D gz_cl (gz_tA cT) base b gz_xn y_S_firstAbove ws_S_firstAbove 1 21 true [.ref p0, .int p1, .int p2] w (f_S_firstAbove F p0 p1 p2 w) := by
  refine ga_enter (cc := c_S_firstAbove) (maxL := 5) (ret := (some .int)) hst (by decide) rfl (Nat.le_of_ble_eq_true rfl) ?_
  intro p e R s m args below meth c ad0
  refine ga_sub (lv2 := [(0, .ref p0), (1, .int p1), (2, .int p2)]) [0, 1, 2] rfl ?_
  unfold f_S_firstAbove
  refine ga_iconst (v := (-1 : Int32)) d_S_firstAbove_0 (by decide) ?_
  refine ga_istore_n (lv2 := [(3, .int (-1 : Int32)), (0, .ref p0), (1, .int p1), (2, .int p2)]) d_S_firstAbove_1 rfl (by decide) rfl ?_
  refine ga_iconst (v := (0 : Int32)) d_S_firstAbove_2 (by decide) ?_
  refine ga_istore (lv2 := [(4, .int (0 : Int32)), (3, .int (-1 : Int32)), (0, .ref p0), (1, .int p1), (2, .int p2)]) d_S_firstAbove_3 (by decide) rfl ?_
  refine ga_sub (lv2 := [(0, .ref p0), (1, .int p1), (2, .int p2), (3, .int (-1 : Int32)), (4, .int (0 : Int32))]) [2, 3, 4, 1, 0] rfl ?_
  exact h_S_firstAbove_5 hst F p0 p1 p2 F (-1 : Int32) (0 : Int32) w
noncomputable def f_S_greatestKey (F : Nat) (p0 : Nat) (p1 : Int32) (w : ga_W) : ga_O :=
  ((ga_gr w 3 0 p0).bind fun r1 => ((ga_gr w 0 0 r1).bind fun r2 => ((ga_gr w 3 3 p0).bind fun r3 => ((ga_ai w 0 r3 (p1 + (1 : Int32))).bind fun v4 => ((ga_ai w 0 r2 (v4 - (1 : Int32))).bind fun v5 => (some (.inl (some (.int v5)), w)))))))
set_option maxHeartbeats 4000000 in
set_option maxRecDepth 100000 in
theorem m_S_greatestKey (hst : l.stackTraces = false) (F : Nat) (p0 : Nat) (p1 : Int32) (w : ga_W) : ga_M l S0 D gz_cl (gz_tA cT) base b gz_xn y_S_greatestKey ws_S_greatestKey 0 0 true [.ref p0, .int p1] w (f_S_greatestKey F p0 p1 w) := by
  refine ga_enter (cc := c_S_greatestKey) (maxL := 2) (ret := (some .int)) hst (by decide) rfl (Nat.le_of_ble_eq_true rfl) ?_
  intro p e R s m args below meth c ad0
  refine ga_sub (lv2 := [(0, .ref p0), (1, .int p1)]) [0, 1] rfl ?_
  unfold f_S_greatestKey
  refine ga_aload_n (q := 0) d_S_greatestKey_0 rfl rfl ?_
  refine ga_getR (C := "LevelStore$Shelf") (T := T_S) (N := 5) (k := 0) (ci := 3) (fun x h => List.mem_cons_of_mem _ (iw_S x h)) rfl (by decide) (List.mem_cons_of_mem _ gw_161) d_S_greatestKey_1 (fun r1 => ?_)
  refine ga_getR (C := "LevelStore$Entries") (T := T_E) (N := 6) (k := 0) (ci := 0) (fun x h => List.mem_cons_of_mem _ (iw_E x h)) rfl (by decide) (List.mem_cons_of_mem _ gw_92) d_S_greatestKey_4 (fun r2 => ?_)
  refine ga_aload_n (q := 0) d_S_greatestKey_7 rfl rfl ?_
  refine ga_getR (C := "LevelStore$Shelf") (T := T_S) (N := 5) (k := 3) (ci := 3) (fun x h => List.mem_cons_of_mem _ (iw_S x h)) rfl (by decide) (List.mem_cons_of_mem _ gw_170) d_S_greatestKey_8 (fun r3 => ?_)
  refine ga_iload_n (q := 1) d_S_greatestKey_11 rfl rfl ?_
  refine ga_iconst (v := (1 : Int32)) d_S_greatestKey_12 (by decide) ?_
  refine ga_iadd d_S_greatestKey_13 ?_
  refine ga_ldI (t := 0) rfl d_S_greatestKey_14 (fun v4 => ?_)
  refine ga_iconst (v := (1 : Int32)) d_S_greatestKey_15 (by decide) ?_
  refine ga_isub d_S_greatestKey_16 ?_
  refine ga_ldI (t := 0) rfl d_S_greatestKey_17 (fun v5 => ?_)
  exact ga_iret rfl d_S_greatestKey_18
noncomputable def f_S_meets (F : Nat) (p0 : Nat) (p1 : Int32) (p2 : Int32) (p3 : Int32) (w : ga_W) : ga_O :=
  (if ga_is w 3 p0 = true then ga_c (f_S_leastKey F p0 p1 w) (ga_kI fun v2 w1 => (if p3 < v2 then (some (.inl (some (.int (0 : Int32))), w1)) else (if ga_is w1 3 p0 = true then ga_c (f_S_greatestKey F p0 p1 w1) (ga_kI fun v5 w4 => (if v5 < p2 then (some (.inl (some (.int (0 : Int32))), w4)) else (some (.inl (some (.int (1 : Int32))), w4)))) ga_up else none))) ga_up else none)
set_option maxHeartbeats 4000000 in
set_option maxRecDepth 100000 in
theorem m_S_meets (hst : l.stackTraces = false) (F : Nat) (p0 : Nat) (p1 : Int32) (p2 : Int32) (p3 : Int32) (w : ga_W) : ga_M l S0 D gz_cl (gz_tA cT) base b gz_xn y_S_meets ws_S_meets 1 21 true [.ref p0, .int p1, .int p2, .int p3] w (f_S_meets F p0 p1 p2 p3 w) := by
  refine ga_enter (cc := c_S_meets) (maxL := 4) (ret := (some .boolean)) hst (by decide) rfl (Nat.le_of_ble_eq_true rfl) ?_
  intro p e R s m args below meth c ad0
  refine ga_sub (lv2 := [(0, .ref p0), (1, .int p1), (2, .int p2), (3, .int p3)]) [0, 1, 2, 3] rfl ?_
  unfold f_S_meets
  refine ga_aload_n (q := 0) d_S_meets_0 rfl rfl ?_
  refine ga_iload_n (q := 1) d_S_meets_1 rfl rfl ?_
  refine ga_invV (nA := 1) (ci := 3) (T := T_S) (N := 5) (av := [.int p1]) (a := p0) (st := []) (m_S_leastKey hst F p0 p1 w) (Or.inl rfl) (gz_gV gw_329 gw_330 gw_331 gw_55 gw_332) rfl ⟨rfl, by decide +kernel⟩ rfl (by decide) (by decide) (Nat.le_of_ble_eq_true rfl) rfl d_S_meets_2 (ga_vI (fun v2 w1 => ?_)) (fun _ _ => ga_thru rfl)
  refine ga_iload_n (q := 3) d_S_meets_5 rfl rfl ?_
  refine ga_icmp_gt (tgt := 22) d_S_meets_6 (by decide) (fun h3 => ?_) (fun h3 => ?_)
  · refine ga_iconst (v := (0 : Int32)) d_S_meets_22 (by decide) ?_
    exact ga_zret rfl rfl d_S_meets_23
  · refine ga_aload_n (q := 0) d_S_meets_9 rfl rfl ?_
    refine ga_iload_n (q := 1) d_S_meets_10 rfl rfl ?_
    refine ga_invV (nA := 1) (ci := 3) (T := T_S) (N := 5) (av := [.int p1]) (a := p0) (st := []) (m_S_greatestKey hst F p0 p1 w1) (Or.inl rfl) (gz_gV gw_350 gw_340 gw_341 gw_55 gw_342) rfl ⟨rfl, by decide +kernel⟩ rfl (by decide) (by decide) (Nat.le_of_ble_eq_true rfl) rfl d_S_meets_11 (ga_vI (fun v5 w4 => ?_)) (fun _ _ => ga_thru rfl)
    refine ga_iload_n (q := 2) d_S_meets_14 rfl rfl ?_
    refine ga_icmp_lt (tgt := 22) d_S_meets_15 (by decide) (fun h6 => ?_) (fun h6 => ?_)
    · refine ga_iconst (v := (0 : Int32)) d_S_meets_22 (by decide) ?_
      exact ga_zret rfl rfl d_S_meets_23
    · refine ga_iconst (v := (1 : Int32)) d_S_meets_18 (by decide) ?_
      refine ga_goto (tgt := 23) d_S_meets_19 (by decide) ?_
      exact ga_zret rfl rfl d_S_meets_23
end GM1
