/-! WALKS: V_isOutdated, S_spans, V_isNeedless, V_endNewTable, V_addMerged -/
section GM3
variable {l : Launch} {S0 : State} {D : va_G} {cT : Nat → ClassId} {base b : Nat} {p : Program} {e : Env} {R : Room} {s : State} {m : MethodId} {args : Array Value} {below : List Frame} {meth : Method} {c : Code} {ad0 : Nat → Nat} {w0 : ga_W}
noncomputable def f_V_isOutdated (F : Nat) (p0 : Nat) (p1 : Int32) (p2 : Int32) (w : ga_W) : ga_O :=
  (if p1 ≤ 0 then (some (.inl (some (.int (0 : Int32))), w)) else ((ga_gr w 1 3 p0).bind fun r2 => ((ga_gr w 0 0 r2).bind fun r3 => ((ga_ai w 0 r3 (p1 - (1 : Int32))).bind fun v4 => ((ga_gr w 1 3 p0).bind fun r5 => ((ga_gr w 0 0 r5).bind fun r6 => ((ga_ai w 0 r6 p1).bind fun v7 => (if v4 = v7 then ((ga_gr w 1 3 p0).bind fun r9 => ((ga_gr w 0 1 r9).bind fun r10 => ((ga_ai w 0 r10 (p1 - (1 : Int32))).bind fun v11 => (if p2 < v11 then (some (.inl (some (.int (0 : Int32))), w)) else (some (.inl (some (.int (1 : Int32))), w)))))) else (some (.inl (some (.int (0 : Int32))), w))))))))))
set_option maxHeartbeats 4000000 in
set_option maxRecDepth 100000 in
theorem m_V_isOutdated (hst : l.stackTraces = false) (F : Nat) (p0 : Nat) (p1 : Int32) (p2 : Int32) (w : ga_W) : ga_M l S0 D gz_cl (gz_tA cT) base b gz_xn y_V_isOutdated ws_V_isOutdated 0 0 true [.ref p0, .int p1, .int p2] w (f_V_isOutdated F p0 p1 p2 w) := by
  refine ga_enter (cc := c_V_isOutdated) (maxL := 3) (ret := (some .boolean)) hst (by decide) rfl (Nat.le_of_ble_eq_true rfl) ?_
  intro p e R s m args below meth c ad0
  refine ga_sub (lv2 := [(0, .ref p0), (1, .int p1), (2, .int p2)]) [0, 1, 2] rfl ?_
  unfold f_V_isOutdated
  refine ga_iload_n (q := 1) d_V_isOutdated_0 rfl rfl ?_
  refine ga_if_le (tgt := 46) d_V_isOutdated_1 (by decide) (fun h1 => ?_) (fun h1 => ?_)
  · refine ga_iconst (v := (0 : Int32)) d_V_isOutdated_46 (by decide) ?_
    exact ga_zret rfl rfl d_V_isOutdated_47
  · refine ga_aload_n (q := 0) d_V_isOutdated_4 rfl rfl ?_
    refine ga_getR (C := "LevelStore$Levels") (T := T_V) (N := 9) (k := 3) (ci := 1) (fun x h => List.mem_cons_of_mem _ (iw_V x h)) rfl (by decide) (List.mem_cons_of_mem _ gw_212) d_V_isOutdated_5 (fun r2 => ?_)
    refine ga_getR (C := "LevelStore$Entries") (T := T_E) (N := 6) (k := 0) (ci := 0) (fun x h => List.mem_cons_of_mem _ (iw_E x h)) rfl (by decide) (List.mem_cons_of_mem _ gw_93) d_V_isOutdated_8 (fun r3 => ?_)
    refine ga_iload_n (q := 1) d_V_isOutdated_11 rfl rfl ?_
    refine ga_iconst (v := (1 : Int32)) d_V_isOutdated_12 (by decide) ?_
    refine ga_isub d_V_isOutdated_13 ?_
    refine ga_ldI (t := 0) rfl d_V_isOutdated_14 (fun v4 => ?_)
    refine ga_aload_n (q := 0) d_V_isOutdated_15 rfl rfl ?_
    refine ga_getR (C := "LevelStore$Levels") (T := T_V) (N := 9) (k := 3) (ci := 1) (fun x h => List.mem_cons_of_mem _ (iw_V x h)) rfl (by decide) (List.mem_cons_of_mem _ gw_212) d_V_isOutdated_16 (fun r5 => ?_)
    refine ga_getR (C := "LevelStore$Entries") (T := T_E) (N := 6) (k := 0) (ci := 0) (fun x h => List.mem_cons_of_mem _ (iw_E x h)) rfl (by decide) (List.mem_cons_of_mem _ gw_93) d_V_isOutdated_19 (fun r6 => ?_)
    refine ga_iload_n (q := 1) d_V_isOutdated_22 rfl rfl ?_
    refine ga_ldI (t := 0) rfl d_V_isOutdated_23 (fun v7 => ?_)
    refine ga_icmp_ne (tgt := 46) d_V_isOutdated_24 (by decide) (fun h8 => ?_) (fun h8 => ?_)
    · refine ga_aload_n (q := 0) d_V_isOutdated_27 rfl rfl ?_
      refine ga_getR (C := "LevelStore$Levels") (T := T_V) (N := 9) (k := 3) (ci := 1) (fun x h => List.mem_cons_of_mem _ (iw_V x h)) rfl (by decide) (List.mem_cons_of_mem _ gw_212) d_V_isOutdated_28 (fun r9 => ?_)
      refine ga_getR (C := "LevelStore$Entries") (T := T_E) (N := 6) (k := 1) (ci := 0) (fun x h => List.mem_cons_of_mem _ (iw_E x h)) rfl (by decide) (List.mem_cons_of_mem _ gw_98) d_V_isOutdated_31 (fun r10 => ?_)
      refine ga_iload_n (q := 1) d_V_isOutdated_34 rfl rfl ?_
      refine ga_iconst (v := (1 : Int32)) d_V_isOutdated_35 (by decide) ?_
      refine ga_isub d_V_isOutdated_36 ?_
      refine ga_ldI (t := 0) rfl d_V_isOutdated_37 (fun v11 => ?_)
      refine ga_iload_n (q := 2) d_V_isOutdated_38 rfl rfl ?_
      refine ga_icmp_gt (tgt := 46) d_V_isOutdated_39 (by decide) (fun h12 => ?_) (fun h12 => ?_)
      · refine ga_iconst (v := (0 : Int32)) d_V_isOutdated_46 (by decide) ?_
        exact ga_zret rfl rfl d_V_isOutdated_47
      · refine ga_iconst (v := (1 : Int32)) d_V_isOutdated_42 (by decide) ?_
        refine ga_goto (tgt := 47) d_V_isOutdated_43 (by decide) ?_
        exact ga_zret rfl rfl d_V_isOutdated_47
    · refine ga_iconst (v := (0 : Int32)) d_V_isOutdated_46 (by decide) ?_
      exact ga_zret rfl rfl d_V_isOutdated_47
noncomputable def f_S_spans (F : Nat) (p0 : Nat) (p1 : Int32) (p2 : Int32) (w : ga_W) : ga_O :=
  ((ga_gr w 3 0 p0).bind fun r1 => ((ga_gr w 0 0 r1).bind fun r2 => ((ga_gr w 3 3 p0).bind fun r3 => ((ga_ai w 0 r3 p1).bind fun v4 => ((ga_ai w 0 r2 v4).bind fun v5 => (if p2 < v5 then (some (.inl (some (.int (0 : Int32))), w)) else ((ga_gr w 3 0 p0).bind fun r7 => ((ga_gr w 0 0 r7).bind fun r8 => ((ga_gr w 3 3 p0).bind fun r9 => ((ga_ai w 0 r9 (p1 + (1 : Int32))).bind fun v10 => ((ga_ai w 0 r8 (v10 - (1 : Int32))).bind fun v11 => (if v11 < p2 then (some (.inl (some (.int (0 : Int32))), w)) else (some (.inl (some (.int (1 : Int32))), w))))))))))))))
set_option maxHeartbeats 4000000 in
set_option maxRecDepth 100000 in
theorem m_S_spans (hst : l.stackTraces = false) (F : Nat) (p0 : Nat) (p1 : Int32) (p2 : Int32) (w : ga_W) : ga_M l S0 D gz_cl (gz_tA cT) base b gz_xn y_S_spans ws_S_spans 0 0 true [.ref p0, .int p1, .int p2] w (f_S_spans F p0 p1 p2 w) := by
  refine ga_enter (cc := c_S_spans) (maxL := 3) (ret := (some .boolean)) hst (by decide) rfl (Nat.le_of_ble_eq_true rfl) ?_
  intro p e R s m args below meth c ad0
  refine ga_sub (lv2 := [(0, .ref p0), (1, .int p1), (2, .int p2)]) [0, 1, 2] rfl ?_
  unfold f_S_spans
  refine ga_aload_n (q := 0) d_S_spans_0 rfl rfl ?_
  refine ga_getR (C := "LevelStore$Shelf") (T := T_S) (N := 5) (k := 0) (ci := 3) (fun x h => List.mem_cons_of_mem _ (iw_S x h)) rfl (by decide) (List.mem_cons_of_mem _ gw_161) d_S_spans_1 (fun r1 => ?_)
  refine ga_getR (C := "LevelStore$Entries") (T := T_E) (N := 6) (k := 0) (ci := 0) (fun x h => List.mem_cons_of_mem _ (iw_E x h)) rfl (by decide) (List.mem_cons_of_mem _ gw_92) d_S_spans_4 (fun r2 => ?_)
  refine ga_aload_n (q := 0) d_S_spans_7 rfl rfl ?_
  refine ga_getR (C := "LevelStore$Shelf") (T := T_S) (N := 5) (k := 3) (ci := 3) (fun x h => List.mem_cons_of_mem _ (iw_S x h)) rfl (by decide) (List.mem_cons_of_mem _ gw_170) d_S_spans_8 (fun r3 => ?_)
  refine ga_iload_n (q := 1) d_S_spans_11 rfl rfl ?_
  refine ga_ldI (t := 0) rfl d_S_spans_12 (fun v4 => ?_)
  refine ga_ldI (t := 0) rfl d_S_spans_13 (fun v5 => ?_)
  refine ga_iload_n (q := 2) d_S_spans_14 rfl rfl ?_
  refine ga_icmp_gt (tgt := 44) d_S_spans_15 (by decide) (fun h6 => ?_) (fun h6 => ?_)
  · refine ga_iconst (v := (0 : Int32)) d_S_spans_44 (by decide) ?_
    exact ga_zret rfl rfl d_S_spans_45
  · refine ga_aload_n (q := 0) d_S_spans_18 rfl rfl ?_
    refine ga_getR (C := "LevelStore$Shelf") (T := T_S) (N := 5) (k := 0) (ci := 3) (fun x h => List.mem_cons_of_mem _ (iw_S x h)) rfl (by decide) (List.mem_cons_of_mem _ gw_161) d_S_spans_19 (fun r7 => ?_)
    refine ga_getR (C := "LevelStore$Entries") (T := T_E) (N := 6) (k := 0) (ci := 0) (fun x h => List.mem_cons_of_mem _ (iw_E x h)) rfl (by decide) (List.mem_cons_of_mem _ gw_92) d_S_spans_22 (fun r8 => ?_)
    refine ga_aload_n (q := 0) d_S_spans_25 rfl rfl ?_
    refine ga_getR (C := "LevelStore$Shelf") (T := T_S) (N := 5) (k := 3) (ci := 3) (fun x h => List.mem_cons_of_mem _ (iw_S x h)) rfl (by decide) (List.mem_cons_of_mem _ gw_170) d_S_spans_26 (fun r9 => ?_)
    refine ga_iload_n (q := 1) d_S_spans_29 rfl rfl ?_
    refine ga_iconst (v := (1 : Int32)) d_S_spans_30 (by decide) ?_
    refine ga_iadd d_S_spans_31 ?_
    refine ga_ldI (t := 0) rfl d_S_spans_32 (fun v10 => ?_)
    refine ga_iconst (v := (1 : Int32)) d_S_spans_33 (by decide) ?_
    refine ga_isub d_S_spans_34 ?_
    refine ga_ldI (t := 0) rfl d_S_spans_35 (fun v11 => ?_)
    refine ga_iload_n (q := 2) d_S_spans_36 rfl rfl ?_
    refine ga_icmp_lt (tgt := 44) d_S_spans_37 (by decide) (fun h12 => ?_) (fun h12 => ?_)
    · refine ga_iconst (v := (0 : Int32)) d_S_spans_44 (by decide) ?_
      exact ga_zret rfl rfl d_S_spans_45
    · refine ga_iconst (v := (1 : Int32)) d_S_spans_40 (by decide) ?_
      refine ga_goto (tgt := 45) d_S_spans_41 (by decide) ?_
      exact ga_zret rfl rfl d_S_spans_45
noncomputable def f_V_isNeedless_30 (F : Nat) (x0 : Nat) (x1 : Int32) (x2 : Int32) : Nat → Int32 → ga_W → ga_O
  | 0, _, _ => none
  | n + 1, x4, w => ((ga_gr w 1 0 x0).bind fun r1 => ((ga_gi w 3 4 r1).bind fun v2 => (if v2 ≤ x4 then (some (.inl (some (.int (1 : Int32))), w)) else ((ga_gr w 1 0 x0).bind fun r4 => ((ga_gr w 3 2 r4).bind fun r5 => ((ga_ai w 0 r5 x4).bind fun v6 => (if v6 ≤ x2 then (f_V_isNeedless_30 F x0 x1 x2 n (x4 + (1 : Int32)) w) else ((ga_gr w 1 0 x0).bind fun r8 => ((ga_gr w 1 3 x0).bind fun r9 => ((ga_gr w 0 0 r9).bind fun r10 => ((ga_ai w 0 r10 x1).bind fun v11 => (if ga_is w 3 r8 = true then ga_c (f_S_spans F r8 x4 v11 w) (ga_kI fun v13 w12 => (if v13 = 0 then (f_V_isNeedless_30 F x0 x1 x2 n (x4 + (1 : Int32)) w12) else (some (.inl (some (.int (0 : Int32))), w12)))) ga_up else none))))))))))))
noncomputable def f_V_isNeedless (F : Nat) (p0 : Nat) (p1 : Int32) (p2 : Int32) (p3 : Int32) (w : ga_W) : ga_O :=
  ((ga_gr w 1 3 p0).bind fun r1 => ((ga_gr w 0 3 r1).bind fun r2 => ((ga_az w 1 r2 p1).bind fun v3 => (if v3 = 0 then (some (.inl (some (.int (0 : Int32))), w)) else ((ga_gr w 1 3 p0).bind fun r5 => ((ga_gr w 0 1 r5).bind fun r6 => ((ga_ai w 0 r6 p1).bind fun v7 => (if v7 ≤ p3 then (f_V_isNeedless_30 F p0 p1 p2 F (0 : Int32) w) else (some (.inl (some (.int (0 : Int32))), w))))))))))
set_option maxHeartbeats 4000000 in
set_option maxRecDepth 100000 in
theorem h_V_isNeedless_30 (hst : l.stackTraces = false) (F : Nat) (x0 : Nat) (x1 : Int32) (x2 : Int32) : ∀ (n : Nat) (x4 : Int32) (w : ga_W), ga_J l S0 D gz_cl (gz_tA cT) base b gz_xn p e R s m args below meth c 5 ws_V_isNeedless y_V_isNeedless.cls c_V_isNeedless (some .boolean) [] y_V_isNeedless.name 1 22 true ad0 w0 (ga_MQ gz_xn D gz_cl (gz_tA cT) base b s args below ad0 w0) 30 [(0, .ref x0), (1, .int x1), (2, .int x2), (4, .int x4)] [] w (f_V_isNeedless_30 F x0 x1 x2 n x4 w) := by
  intro n
  induction n with
  | zero => intro x4 w; exact ga_no
  | succ n ih =>
    intro x4 w
    rw [f_V_isNeedless_30]
    refine ga_iload (q := 3) d_V_isNeedless_30 rfl ?_
    refine ga_aload_n (q := 0) d_V_isNeedless_32 rfl rfl ?_
    refine ga_getR (C := "LevelStore$Levels") (T := T_V) (N := 9) (k := 0) (ci := 1) (fun x h => List.mem_cons_of_mem _ (iw_V x h)) rfl (by decide) (List.mem_cons_of_mem _ gw_208) d_V_isNeedless_33 (fun r1 => ?_)
    refine ga_getI (C := "LevelStore$Shelf") (T := T_S) (N := 5) (k := 4) (ci := 3) (fun x h => List.mem_cons_of_mem _ (iw_S x h)) rfl (by decide) (List.mem_cons_of_mem _ gw_174) d_V_isNeedless_36 (fun v2 => ?_)
    refine ga_icmp_ge (tgt := 85) d_V_isNeedless_39 (by decide) (fun h3 => ?_) (fun h3 => ?_)
    · refine ga_iconst (v := (1 : Int32)) d_V_isNeedless_85 (by decide) ?_
      exact ga_zret rfl rfl d_V_isNeedless_86
    · refine ga_aload_n (q := 0) d_V_isNeedless_42 rfl rfl ?_
      refine ga_getR (C := "LevelStore$Levels") (T := T_V) (N := 9) (k := 0) (ci := 1) (fun x h => List.mem_cons_of_mem _ (iw_V x h)) rfl (by decide) (List.mem_cons_of_mem _ gw_208) d_V_isNeedless_43 (fun r4 => ?_)
      refine ga_getR (C := "LevelStore$Shelf") (T := T_S) (N := 5) (k := 2) (ci := 3) (fun x h => List.mem_cons_of_mem _ (iw_S x h)) rfl (by decide) (List.mem_cons_of_mem _ gw_168) d_V_isNeedless_46 (fun r5 => ?_)
      refine ga_iload (q := 3) d_V_isNeedless_49 rfl ?_
      refine ga_ldI (t := 0) rfl d_V_isNeedless_51 (fun v6 => ?_)
      refine ga_iload_n (q := 2) d_V_isNeedless_52 rfl rfl ?_
      refine ga_icmp_le (tgt := 79) d_V_isNeedless_53 (by decide) (fun h7 => ?_) (fun h7 => ?_)
      · refine ga_iinc (q := 3) (v := (x4 + (1 : Int32))) (lv2 := [(4, .int (x4 + (1 : Int32))), (0, .ref x0), (1, .int x1), (2, .int x2)]) d_V_isNeedless_79 rfl rfl (by decide) rfl ?_
        refine ga_goto (tgt := 30) d_V_isNeedless_82 (by decide) ?_
        refine ga_sub (lv2 := [(0, .ref x0), (1, .int x1), (2, .int x2), (4, .int (x4 + (1 : Int32)))]) [1, 2, 3, 0] rfl ?_
        exact ih _ _
      · refine ga_aload_n (q := 0) d_V_isNeedless_56 rfl rfl ?_
        refine ga_getR (C := "LevelStore$Levels") (T := T_V) (N := 9) (k := 0) (ci := 1) (fun x h => List.mem_cons_of_mem _ (iw_V x h)) rfl (by decide) (List.mem_cons_of_mem _ gw_208) d_V_isNeedless_57 (fun r8 => ?_)
        refine ga_iload (q := 3) d_V_isNeedless_60 rfl ?_
        refine ga_aload_n (q := 0) d_V_isNeedless_62 rfl rfl ?_
        refine ga_getR (C := "LevelStore$Levels") (T := T_V) (N := 9) (k := 3) (ci := 1) (fun x h => List.mem_cons_of_mem _ (iw_V x h)) rfl (by decide) (List.mem_cons_of_mem _ gw_212) d_V_isNeedless_63 (fun r9 => ?_)
        refine ga_getR (C := "LevelStore$Entries") (T := T_E) (N := 6) (k := 0) (ci := 0) (fun x h => List.mem_cons_of_mem _ (iw_E x h)) rfl (by decide) (List.mem_cons_of_mem _ gw_93) d_V_isNeedless_66 (fun r10 => ?_)
        refine ga_iload_n (q := 1) d_V_isNeedless_69 rfl rfl ?_
        refine ga_ldI (t := 0) rfl d_V_isNeedless_70 (fun v11 => ?_)
        refine ga_invV (nA := 2) (ci := 3) (T := T_S) (N := 5) (av := [.int x4, .int v11]) (a := r8) (st := []) (m_S_spans hst F r8 x4 v11 w) (Or.inl rfl) (gz_gV gw_391 gw_392 gw_393 gw_55 gw_394) rfl ⟨rfl, by decide +kernel⟩ rfl (by decide) (by decide) (Nat.le_of_ble_eq_true rfl) rfl d_V_isNeedless_71 (ga_vI (fun v13 w12 => ?_)) (fun _ _ => ga_thru rfl)
        refine ga_if_eq (tgt := 79) d_V_isNeedless_74 (by decide) (fun h14 => ?_) (fun h14 => ?_)
        · refine ga_iinc (q := 3) (v := (x4 + (1 : Int32))) (lv2 := [(4, .int (x4 + (1 : Int32))), (0, .ref x0), (1, .int x1), (2, .int x2)]) d_V_isNeedless_79 rfl rfl (by decide) rfl ?_
          refine ga_goto (tgt := 30) d_V_isNeedless_82 (by decide) ?_
          refine ga_sub (lv2 := [(0, .ref x0), (1, .int x1), (2, .int x2), (4, .int (x4 + (1 : Int32)))]) [1, 2, 3, 0] rfl ?_
          exact ih _ _
        · refine ga_iconst (v := (0 : Int32)) d_V_isNeedless_77 (by decide) ?_
          exact ga_zret rfl rfl d_V_isNeedless_78
set_option maxHeartbeats 4000000 in
set_option maxRecDepth 100000 in
theorem m_V_isNeedless (hst : l.stackTraces = false) (F : Nat) (p0 : Nat) (p1 : Int32) (p2 : Int32) (p3 : Int32) (w : ga_W) : ga_M l S0 D gz_cl (gz_tA cT) base b gz_xn y_V_isNeedless ws_V_isNeedless 1 22 true [.ref p0, .int p1, .int p2, .int p3] w (f_V_isNeedless F p0 p1 p2 p3 w) := by
  refine ga_enter (cc := c_V_isNeedless) (maxL := 5) (ret := (some .boolean)) hst (by decide) rfl (Nat.le_of_ble_eq_true rfl) ?_
  intro p e R s m args below meth c ad0
  refine ga_sub (lv2 := [(0, .ref p0), (1, .int p1), (2, .int p2), (3, .int p3)]) [0, 1, 2, 3] rfl ?_
  unfold f_V_isNeedless
  refine ga_aload_n (q := 0) d_V_isNeedless_0 rfl rfl ?_
  refine ga_getR (C := "LevelStore$Levels") (T := T_V) (N := 9) (k := 3) (ci := 1) (fun x h => List.mem_cons_of_mem _ (iw_V x h)) rfl (by decide) (List.mem_cons_of_mem _ gw_212) d_V_isNeedless_1 (fun r1 => ?_)
  refine ga_getR (C := "LevelStore$Entries") (T := T_E) (N := 6) (k := 3) (ci := 0) (fun x h => List.mem_cons_of_mem _ (iw_E x h)) rfl (by decide) (List.mem_cons_of_mem _ gw_104) d_V_isNeedless_4 (fun r2 => ?_)
  refine ga_iload_n (q := 1) d_V_isNeedless_7 rfl rfl ?_
  refine ga_ldZ (t := 1) rfl d_V_isNeedless_8 (fun v3 => ?_)
  refine ga_if_eq (tgt := 25) d_V_isNeedless_9 (by decide) (fun h4 => ?_) (fun h4 => ?_)
  · refine ga_iconst (v := (0 : Int32)) d_V_isNeedless_25 (by decide) ?_
    exact ga_zret rfl rfl d_V_isNeedless_26
  · refine ga_aload_n (q := 0) d_V_isNeedless_12 rfl rfl ?_
    refine ga_getR (C := "LevelStore$Levels") (T := T_V) (N := 9) (k := 3) (ci := 1) (fun x h => List.mem_cons_of_mem _ (iw_V x h)) rfl (by decide) (List.mem_cons_of_mem _ gw_212) d_V_isNeedless_13 (fun r5 => ?_)
    refine ga_getR (C := "LevelStore$Entries") (T := T_E) (N := 6) (k := 1) (ci := 0) (fun x h => List.mem_cons_of_mem _ (iw_E x h)) rfl (by decide) (List.mem_cons_of_mem _ gw_98) d_V_isNeedless_16 (fun r6 => ?_)
    refine ga_iload_n (q := 1) d_V_isNeedless_19 rfl rfl ?_
    refine ga_ldI (t := 0) rfl d_V_isNeedless_20 (fun v7 => ?_)
    refine ga_iload_n (q := 3) d_V_isNeedless_21 rfl rfl ?_
    refine ga_icmp_le (tgt := 27) d_V_isNeedless_22 (by decide) (fun h8 => ?_) (fun h8 => ?_)
    · refine ga_iconst (v := (0 : Int32)) d_V_isNeedless_27 (by decide) ?_
      refine ga_istore (lv2 := [(4, .int (0 : Int32)), (0, .ref p0), (1, .int p1), (2, .int p2), (3, .int p3)]) d_V_isNeedless_28 (by decide) rfl ?_
      refine ga_sub (lv2 := [(0, .ref p0), (1, .int p1), (2, .int p2), (4, .int (0 : Int32))]) [1, 2, 3, 0] rfl ?_
      exact h_V_isNeedless_30 hst F p0 p1 p2 F (0 : Int32) w
    · refine ga_iconst (v := (0 : Int32)) d_V_isNeedless_25 (by decide) ?_
      exact ga_zret rfl rfl d_V_isNeedless_26
noncomputable def f_V_endNewTable (F : Nat) (p0 : Nat) (p1 : Int32) (w : ga_W) : ga_O :=
  ((ga_gr w 1 1 p0).bind fun r1 => ((ga_gi w 1 7 p0).bind fun v2 => (if ga_is w 3 r1 = true then ga_c (f_S_endTable F r1 v2 p1 w) (ga_kV fun w3 => ((ga_gi w3 1 7 p0).bind fun v4 => ((ga_put w3 1 7 p0 (.int (v4 + (1 : Int32)))).bind fun w5 => (some (.inl none, w5))))) ga_up else none)))
set_option maxHeartbeats 4000000 in
set_option maxRecDepth 100000 in
theorem m_V_endNewTable (hst : l.stackTraces = false) (F : Nat) (p0 : Nat) (p1 : Int32) (w : ga_W) : ga_M l S0 D gz_cl (gz_tA cT) base b gz_xn y_V_endNewTable ws_V_endNewTable 1 22 true [.ref p0, .int p1] w (f_V_endNewTable F p0 p1 w) := by
  refine ga_enter (cc := c_V_endNewTable) (maxL := 2) (ret := none) hst (by decide) rfl (Nat.le_of_ble_eq_true rfl) ?_
  intro p e R s m args below meth c ad0
  refine ga_sub (lv2 := [(0, .ref p0), (1, .int p1)]) [0, 1] rfl ?_
  unfold f_V_endNewTable
  refine ga_aload_n (q := 0) d_V_endNewTable_0 rfl rfl ?_
  refine ga_getR (C := "LevelStore$Levels") (T := T_V) (N := 9) (k := 1) (ci := 1) (fun x h => List.mem_cons_of_mem _ (iw_V x h)) rfl (by decide) (List.mem_cons_of_mem _ gw_210) d_V_endNewTable_1 (fun r1 => ?_)
  refine ga_aload_n (q := 0) d_V_endNewTable_4 rfl rfl ?_
  refine ga_getI (C := "LevelStore$Levels") (T := T_V) (N := 9) (k := 7) (ci := 1) (fun x h => List.mem_cons_of_mem _ (iw_V x h)) rfl (by decide) (List.mem_cons_of_mem _ gw_218) d_V_endNewTable_5 (fun v2 => ?_)
  refine ga_iload_n (q := 1) d_V_endNewTable_8 rfl rfl ?_
  refine ga_invV (nA := 2) (ci := 3) (T := T_S) (N := 5) (av := [.int v2, .int p1]) (a := r1) (st := []) (m_S_endTable hst F r1 v2 p1 w) (Or.inl rfl) (gz_gV gw_298 gw_299 gw_300 gw_55 gw_301) rfl ⟨rfl, by decide +kernel⟩ rfl (by decide) (by decide) (Nat.le_of_ble_eq_true rfl) rfl d_V_endNewTable_9 (ga_vV (fun w3 => ?_)) (fun _ _ => ga_thru rfl)
  refine ga_aload_n (q := 0) d_V_endNewTable_12 rfl rfl ?_
  refine ga_dup d_V_endNewTable_13 rfl ?_
  refine ga_getI (C := "LevelStore$Levels") (T := T_V) (N := 9) (k := 7) (ci := 1) (fun x h => List.mem_cons_of_mem _ (iw_V x h)) rfl (by decide) (List.mem_cons_of_mem _ gw_218) d_V_endNewTable_14 (fun v4 => ?_)
  refine ga_iconst (v := (1 : Int32)) d_V_endNewTable_17 (by decide) ?_
  refine ga_iadd d_V_endNewTable_18 ?_
  refine ga_putB (C := "LevelStore$Levels") (T := T_V) (N := 9) (k := 7) (ci := 1) (ty0 := ty_V) (fun x h => List.mem_cons_of_mem _ (iw_V x h)) ty_V_ok nm_V rfl (by decide) (List.mem_cons_of_mem _ gw_218) (Or.inl rfl) (fun _ => ⟨rfl, rfl⟩) d_V_endNewTable_19 (fun w5 => ?_)
  exact ga_vret rfl d_V_endNewTable_22
noncomputable def f_V_addMerged_5 (F : Nat) (x0 : Nat) (x1 : Int32) (x2 : Int32) : Nat → Int32 → Int32 → ga_W → ga_O
  | 0, _, _, _ => none
  | n + 1, x3, x4, w => ((ga_gr w 1 3 x0).bind fun r1 => ((ga_gi w 0 5 r1).bind fun v2 => (if v2 ≤ x4 then ((ga_gr w 1 1 x0).bind fun r4 => (if ga_is w 3 r4 = true then ga_c (f_S_hasLooseRows F r4 w) (ga_kI fun v6 w5 => (if v6 = 0 then (some (.inl none, w5)) else (if ga_is w5 1 x0 = true then ga_c (f_V_endNewTable F x0 x1 w5) (ga_kV fun w8 => (some (.inl none, w8))) ga_up else none))) ga_up else none)) else ((ga_gr w 1 3 x0).bind fun r9 => ((ga_gr w 0 0 r9).bind fun r10 => ((ga_ai w 0 r10 x4).bind fun v11 => (if ga_is w 1 x0 = true then ga_c (f_V_isOutdated F x0 x4 x2 w) (ga_kI fun v13 w12 => (ga_jn (fun  (w38 : ga_W) => ((ga_gi w38 1 8 x0).bind fun v40 => ((ga_put w38 1 8 x0 (.int (v40 + (1 : Int32)))).bind fun w41 => (f_V_addMerged_5 F x0 x1 x2 n x3 (x4 + (1 : Int32)) w41)))) (fun K39 => (if v13 = 0 then (if ga_is w12 1 x0 = true then ga_c (f_V_isNeedless F x0 x4 x1 x2 w12) (ga_kI fun v44 w43 => (if v44 = 0 then ((ga_gr w43 1 1 x0).bind fun r46 => ((ga_gr w43 3 0 r46).bind fun r47 => ((ga_gi w43 0 5 r47).bind fun v48 => ((ga_gr w43 1 1 x0).bind fun r49 => ((ga_gr w43 3 3 r49).bind fun r50 => ((ga_gr w43 1 1 x0).bind fun r51 => ((ga_gi w43 3 4 r51).bind fun v52 => ((ga_ai w43 0 r50 v52).bind fun v53 => (ga_jn (fun  (w57 : ga_W) => ((ga_gr w57 1 1 x0).bind fun r59 => ((ga_gr w57 3 0 r59).bind fun r60 => ((ga_gr w57 1 3 x0).bind fun r61 => (if ga_is w57 0 r60 = true then ga_c (f_E_addFrom F r60 r61 x4 w57) (ga_kV fun w62 => (f_V_addMerged_5 F x0 x1 x2 n v11 (x4 + (1 : Int32)) w62)) ga_up else none))))) (fun K58 => (if (v48 - v53) < (6 : Int32) then (K58 w43) else (if v11 = x3 then (K58 w43) else (if ga_is w43 1 x0 = true then ga_c (f_V_endNewTable F x0 x1 w43) (ga_kV fun w65 => (K58 w65)) ga_up else none))))))))))))) else (K39 w43))) ga_up else none) else (K39 w12))))) ga_up else none)))))))
noncomputable def f_V_addMerged (F : Nat) (p0 : Nat) (p1 : Int32) (p2 : Int32) (w : ga_W) : ga_O :=
  (f_V_addMerged_5 F p0 p1 p2 F (-1 : Int32) (0 : Int32) w)
set_option maxHeartbeats 4000000 in
set_option maxRecDepth 100000 in
theorem h_V_addMerged_5 (hst : l.stackTraces = false) (F : Nat) (x0 : Nat) (x1 : Int32) (x2 : Int32) : ∀ (n : Nat) (x3 : Int32) (x4 : Int32) (w : ga_W), ga_J l S0 D gz_cl (gz_tA cT) base b gz_xn p e R s m args below meth c 7 ws_V_addMerged y_V_addMerged.cls c_V_addMerged none [] y_V_addMerged.name 2 46 true ad0 w0 (ga_MQ gz_xn D gz_cl (gz_tA cT) base b s args below ad0 w0) 5 [(0, .ref x0), (1, .int x1), (2, .int x2), (3, .int x3), (4, .int x4)] [] w (f_V_addMerged_5 F x0 x1 x2 n x3 x4 w) := by
  intro n
  induction n with
  | zero => intro x3 x4 w; exact ga_no
  | succ n ih =>
    intro x3 x4 w
    rw [f_V_addMerged_5]
    refine ga_iload (q := 4) d_V_addMerged_5 rfl ?_
    refine ga_aload_n (q := 0) d_V_addMerged_7 rfl rfl ?_
    refine ga_getR (C := "LevelStore$Levels") (T := T_V) (N := 9) (k := 3) (ci := 1) (fun x h => List.mem_cons_of_mem _ (iw_V x h)) rfl (by decide) (List.mem_cons_of_mem _ gw_212) d_V_addMerged_8 (fun r1 => ?_)
    refine ga_getI (C := "LevelStore$Entries") (T := T_E) (N := 6) (k := 5) (ci := 0) (fun x h => List.mem_cons_of_mem _ (iw_E x h)) rfl (by decide) (List.mem_cons_of_mem _ gw_115) d_V_addMerged_11 (fun v2 => ?_)
    refine ga_icmp_ge (tgt := 134) d_V_addMerged_14 (by decide) (fun h3 => ?_) (fun h3 => ?_)
    · refine ga_aload_n (q := 0) d_V_addMerged_134 rfl rfl ?_
      refine ga_getR (C := "LevelStore$Levels") (T := T_V) (N := 9) (k := 1) (ci := 1) (fun x h => List.mem_cons_of_mem _ (iw_V x h)) rfl (by decide) (List.mem_cons_of_mem _ gw_210) d_V_addMerged_135 (fun r4 => ?_)
      refine ga_invV (nA := 0) (ci := 3) (T := T_S) (N := 5) (av := []) (a := r4) (st := []) (m_S_hasLooseRows hst F r4 w) (Or.inl rfl) (gz_gV gw_294 gw_295 gw_296 gw_55 gw_297) rfl ⟨rfl, by decide +kernel⟩ rfl (by decide) (by decide) (Nat.le_of_ble_eq_true rfl) rfl d_V_addMerged_138 (ga_vI (fun v6 w5 => ?_)) (fun _ _ => ga_thru rfl)
      refine ga_if_eq (tgt := 149) d_V_addMerged_141 (by decide) (fun h7 => ?_) (fun h7 => ?_)
      · exact ga_vret rfl d_V_addMerged_149
      · refine ga_aload_n (q := 0) d_V_addMerged_144 rfl rfl ?_
        refine ga_iload_n (q := 1) d_V_addMerged_145 rfl rfl ?_
        refine ga_invV (nA := 1) (ci := 1) (T := T_V) (N := 9) (av := [.int x1]) (a := x0) (st := []) (m_V_endNewTable hst F x0 x1 w5) (Or.inl rfl) (gz_gV gw_395 gw_397 gw_9 gw_54 gw_398) rfl ⟨rfl, by decide +kernel⟩ rfl (by decide) (by decide) (Nat.le_of_ble_eq_true rfl) rfl d_V_addMerged_146 (ga_vV (fun w8 => ?_)) (fun _ _ => ga_thru rfl)
        exact ga_vret rfl d_V_addMerged_149
    · refine ga_aload_n (q := 0) d_V_addMerged_17 rfl rfl ?_
      refine ga_getR (C := "LevelStore$Levels") (T := T_V) (N := 9) (k := 3) (ci := 1) (fun x h => List.mem_cons_of_mem _ (iw_V x h)) rfl (by decide) (List.mem_cons_of_mem _ gw_212) d_V_addMerged_18 (fun r9 => ?_)
      refine ga_getR (C := "LevelStore$Entries") (T := T_E) (N := 6) (k := 0) (ci := 0) (fun x h => List.mem_cons_of_mem _ (iw_E x h)) rfl (by decide) (List.mem_cons_of_mem _ gw_93) d_V_addMerged_21 (fun r10 => ?_)
      refine ga_iload (q := 4) d_V_addMerged_24 rfl ?_
      refine ga_ldI (t := 0) rfl d_V_addMerged_26 (fun v11 => ?_)
      refine ga_istore (lv2 := [(5, .int v11), (0, .ref x0), (1, .int x1), (2, .int x2), (3, .int x3), (4, .int x4)]) d_V_addMerged_27 (by decide) rfl ?_
      refine ga_aload_n (q := 1) d_V_addMerged_29 rfl rfl ?_
      refine ga_iload (q := 5) d_V_addMerged_30 rfl ?_
      refine ga_iload_n (q := 3) d_V_addMerged_32 rfl rfl ?_
      refine ga_invV (nA := 2) (ci := 1) (T := T_V) (N := 9) (av := [.int x4, .int x2]) (a := x0) (st := []) (m_V_isOutdated hst F x0 x4 x2 w) (Or.inl rfl) (gz_gV gw_383 gw_385 gw_7 gw_54 gw_386) rfl ⟨rfl, by decide +kernel⟩ rfl (by decide) (by decide) (Nat.le_of_ble_eq_true rfl) rfl d_V_addMerged_33 (ga_vI (fun v13 w12 => ?_)) (fun _ _ => ga_thru rfl)
      refine ga_join (fun (K39 : ga_W → ga_O) => ∀  (w38 : ga_W), ga_J l S0 D gz_cl (gz_tA cT) base b gz_xn p e R s m args below meth c 7 ws_V_addMerged y_V_addMerged.cls c_V_addMerged none [] y_V_addMerged.name 2 46 true ad0 w0 (ga_MQ gz_xn D gz_cl (gz_tA cT) base b s args below ad0 w0) 50 [(0, .ref x0), (1, .int x1), (2, .int x2), (3, .int x3), (4, .int x4)] [] w38 (K39 w38)) (fun w38 => ?_) (fun K39 hK39 => ?_)
      · refine ga_aload_n (q := 0) d_V_addMerged_50 rfl rfl ?_
        refine ga_dup d_V_addMerged_51 rfl ?_
        refine ga_getI (C := "LevelStore$Levels") (T := T_V) (N := 9) (k := 8) (ci := 1) (fun x h => List.mem_cons_of_mem _ (iw_V x h)) rfl (by decide) (List.mem_cons_of_mem _ gw_220) d_V_addMerged_52 (fun v40 => ?_)
        refine ga_iconst (v := (1 : Int32)) d_V_addMerged_55 (by decide) ?_
        refine ga_iadd d_V_addMerged_56 ?_
        refine ga_putB (C := "LevelStore$Levels") (T := T_V) (N := 9) (k := 8) (ci := 1) (ty0 := ty_V) (fun x h => List.mem_cons_of_mem _ (iw_V x h)) ty_V_ok nm_V rfl (by decide) (List.mem_cons_of_mem _ gw_220) (Or.inl rfl) (fun _ => ⟨rfl, rfl⟩) d_V_addMerged_57 (fun w41 => ?_)
        refine ga_goto (tgt := 128) d_V_addMerged_60 (by decide) ?_
        refine ga_iinc (q := 4) (v := (x4 + (1 : Int32))) (lv2 := [(4, .int (x4 + (1 : Int32))), (0, .ref x0), (1, .int x1), (2, .int x2), (3, .int x3)]) d_V_addMerged_128 rfl rfl (by decide) rfl ?_
        refine ga_goto (tgt := 5) d_V_addMerged_131 (by decide) ?_
        refine ga_sub (lv2 := [(0, .ref x0), (1, .int x1), (2, .int x2), (3, .int x3), (4, .int (x4 + (1 : Int32)))]) [1, 2, 3, 4, 0] rfl ?_
        exact ih _ _ _
      · refine ga_if_ne (tgt := 50) d_V_addMerged_36 (by decide) (fun h42 => ?_) (fun h42 => ?_)
        · refine ga_aload_n (q := 1) d_V_addMerged_39 rfl rfl ?_
          refine ga_iload (q := 5) d_V_addMerged_40 rfl ?_
          refine ga_iload_n (q := 2) d_V_addMerged_42 rfl rfl ?_
          refine ga_iload_n (q := 3) d_V_addMerged_43 rfl rfl ?_
          refine ga_invV (nA := 3) (ci := 1) (T := T_V) (N := 9) (av := [.int x4, .int x1, .int x2]) (a := x0) (st := []) (m_V_isNeedless hst F x0 x4 x1 x2 w12) (Or.inl rfl) (gz_gV gw_387 gw_389 gw_8 gw_54 gw_390) rfl ⟨rfl, by decide +kernel⟩ rfl (by decide) (by decide) (Nat.le_of_ble_eq_true rfl) rfl d_V_addMerged_44 (ga_vI (fun v44 w43 => ?_)) (fun _ _ => ga_thru rfl)
          refine ga_if_eq (tgt := 63) d_V_addMerged_47 (by decide) (fun h45 => ?_) (fun h45 => ?_)
          · refine ga_aload_n (q := 1) d_V_addMerged_63 rfl rfl ?_
            refine ga_getR (C := "LevelStore$Levels") (T := T_V) (N := 9) (k := 1) (ci := 1) (fun x h => List.mem_cons_of_mem _ (iw_V x h)) rfl (by decide) (List.mem_cons_of_mem _ gw_210) d_V_addMerged_64 (fun r46 => ?_)
            refine ga_getR (C := "LevelStore$Shelf") (T := T_S) (N := 5) (k := 0) (ci := 3) (fun x h => List.mem_cons_of_mem _ (iw_S x h)) rfl (by decide) (List.mem_cons_of_mem _ gw_162) d_V_addMerged_67 (fun r47 => ?_)
            refine ga_getI (C := "LevelStore$Entries") (T := T_E) (N := 6) (k := 5) (ci := 0) (fun x h => List.mem_cons_of_mem _ (iw_E x h)) rfl (by decide) (List.mem_cons_of_mem _ gw_115) d_V_addMerged_70 (fun v48 => ?_)
            refine ga_aload_n (q := 1) d_V_addMerged_73 rfl rfl ?_
            refine ga_getR (C := "LevelStore$Levels") (T := T_V) (N := 9) (k := 1) (ci := 1) (fun x h => List.mem_cons_of_mem _ (iw_V x h)) rfl (by decide) (List.mem_cons_of_mem _ gw_210) d_V_addMerged_74 (fun r49 => ?_)
            refine ga_getR (C := "LevelStore$Shelf") (T := T_S) (N := 5) (k := 3) (ci := 3) (fun x h => List.mem_cons_of_mem _ (iw_S x h)) rfl (by decide) (List.mem_cons_of_mem _ gw_171) d_V_addMerged_77 (fun r50 => ?_)
            refine ga_aload_n (q := 1) d_V_addMerged_80 rfl rfl ?_
            refine ga_getR (C := "LevelStore$Levels") (T := T_V) (N := 9) (k := 1) (ci := 1) (fun x h => List.mem_cons_of_mem _ (iw_V x h)) rfl (by decide) (List.mem_cons_of_mem _ gw_210) d_V_addMerged_81 (fun r51 => ?_)
            refine ga_getI (C := "LevelStore$Shelf") (T := T_S) (N := 5) (k := 4) (ci := 3) (fun x h => List.mem_cons_of_mem _ (iw_S x h)) rfl (by decide) (List.mem_cons_of_mem _ gw_174) d_V_addMerged_84 (fun v52 => ?_)
            refine ga_ldI (t := 0) rfl d_V_addMerged_87 (fun v53 => ?_)
            refine ga_isub d_V_addMerged_88 ?_
            refine ga_istore (lv2 := [(6, .int (v48 - v53)), (5, .int v11), (0, .ref x0), (1, .int x1), (2, .int x2), (3, .int x3), (4, .int x4)]) d_V_addMerged_89 (by decide) rfl ?_
            refine ga_iload (q := 0) d_V_addMerged_91 rfl ?_
            refine ga_bipush (v := (6 : Int32)) d_V_addMerged_93 (by decide) ?_
            refine ga_join (fun (K58 : ga_W → ga_O) => ∀  (w57 : ga_W), ga_J l S0 D gz_cl (gz_tA cT) base b gz_xn p e R s m args below meth c 7 ws_V_addMerged y_V_addMerged.cls c_V_addMerged none [] y_V_addMerged.name 2 46 true ad0 w0 (ga_MQ gz_xn D gz_cl (gz_tA cT) base b s args below ad0 w0) 109 [(0, .ref x0), (1, .int x1), (2, .int x2), (4, .int x4), (5, .int v11)] [] w57 (K58 w57)) (fun w57 => ?_) (fun K58 hK58 => ?_)
            · refine ga_aload_n (q := 0) d_V_addMerged_109 rfl rfl ?_
              refine ga_getR (C := "LevelStore$Levels") (T := T_V) (N := 9) (k := 1) (ci := 1) (fun x h => List.mem_cons_of_mem _ (iw_V x h)) rfl (by decide) (List.mem_cons_of_mem _ gw_210) d_V_addMerged_110 (fun r59 => ?_)
              refine ga_getR (C := "LevelStore$Shelf") (T := T_S) (N := 5) (k := 0) (ci := 3) (fun x h => List.mem_cons_of_mem _ (iw_S x h)) rfl (by decide) (List.mem_cons_of_mem _ gw_162) d_V_addMerged_113 (fun r60 => ?_)
              refine ga_aload_n (q := 0) d_V_addMerged_116 rfl rfl ?_
              refine ga_getR (C := "LevelStore$Levels") (T := T_V) (N := 9) (k := 3) (ci := 1) (fun x h => List.mem_cons_of_mem _ (iw_V x h)) rfl (by decide) (List.mem_cons_of_mem _ gw_212) d_V_addMerged_117 (fun r61 => ?_)
              refine ga_iload (q := 3) d_V_addMerged_120 rfl ?_
              refine ga_invV (nA := 2) (ci := 0) (T := T_E) (N := 6) (av := [.ref r61, .int x4]) (a := r60) (st := []) (m_E_addFrom hst F r60 r61 x4 w57) (Or.inl rfl) (gz_gV gw_290 gw_291 gw_292 gw_53 gw_293) rfl ⟨rfl, by decide +kernel⟩ rfl (by decide) (by decide) (Nat.le_of_ble_eq_true rfl) rfl d_V_addMerged_122 (ga_vV (fun w62 => ?_)) (fun _ _ => ga_thru rfl)
              refine ga_iload (q := 4) d_V_addMerged_125 rfl ?_
              refine ga_istore_n (lv2 := [(3, .int v11), (0, .ref x0), (1, .int x1), (2, .int x2), (4, .int x4), (5, .int v11)]) d_V_addMerged_127 rfl (by decide) rfl ?_
              refine ga_iinc (q := 4) (v := (x4 + (1 : Int32))) (lv2 := [(4, .int (x4 + (1 : Int32))), (3, .int v11), (0, .ref x0), (1, .int x1), (2, .int x2), (5, .int v11)]) d_V_addMerged_128 rfl rfl (by decide) rfl ?_
              refine ga_goto (tgt := 5) d_V_addMerged_131 (by decide) ?_
              refine ga_sub (lv2 := [(0, .ref x0), (1, .int x1), (2, .int x2), (3, .int v11), (4, .int (x4 + (1 : Int32)))]) [2, 3, 4, 1, 0] rfl ?_
              exact ih _ _ _
            · refine ga_icmp_lt (tgt := 109) d_V_addMerged_95 (by decide) (fun h63 => ?_) (fun h63 => ?_)
              · refine ga_sub (lv2 := [(0, .ref x0), (1, .int x1), (2, .int x2), (4, .int x4), (5, .int v11)]) [2, 3, 4, 6, 1] rfl ?_
                exact hK58 _
              · refine ga_iload (q := 1) d_V_addMerged_98 rfl ?_
                refine ga_iload_n (q := 5) d_V_addMerged_100 rfl rfl ?_
                refine ga_icmp_eq (tgt := 109) d_V_addMerged_101 (by decide) (fun h64 => ?_) (fun h64 => ?_)
                · refine ga_sub (lv2 := [(0, .ref x0), (1, .int x1), (2, .int x2), (4, .int x4), (5, .int v11)]) [2, 3, 4, 6, 1] rfl ?_
                  exact hK58 _
                · refine ga_aload_n (q := 2) d_V_addMerged_104 rfl rfl ?_
                  refine ga_iload_n (q := 3) d_V_addMerged_105 rfl rfl ?_
                  refine ga_invV (nA := 1) (ci := 1) (T := T_V) (N := 9) (av := [.int x1]) (a := x0) (st := []) (m_V_endNewTable hst F x0 x1 w43) (Or.inl rfl) (gz_gV gw_395 gw_397 gw_9 gw_54 gw_398) rfl ⟨rfl, by decide +kernel⟩ rfl (by decide) (by decide) (Nat.le_of_ble_eq_true rfl) rfl d_V_addMerged_106 (ga_vV (fun w65 => ?_)) (fun _ _ => ga_thru rfl)
                  refine ga_sub (lv2 := [(0, .ref x0), (1, .int x1), (2, .int x2), (4, .int x4), (5, .int v11)]) [2, 3, 4, 6, 1] rfl ?_
                  exact hK58 _
          · refine ga_sub (lv2 := [(0, .ref x0), (1, .int x1), (2, .int x2), (3, .int x3), (4, .int x4)]) [1, 2, 3, 4, 5] rfl ?_
            exact hK39 _
        · refine ga_sub (lv2 := [(0, .ref x0), (1, .int x1), (2, .int x2), (3, .int x3), (4, .int x4)]) [1, 2, 3, 4, 5] rfl ?_
          exact hK39 _
set_option maxHeartbeats 4000000 in
set_option maxRecDepth 100000 in
theorem m_V_addMerged (hst : l.stackTraces = false) (F : Nat) (p0 : Nat) (p1 : Int32) (p2 : Int32) (w : ga_W) : ga_M l S0 D gz_cl (gz_tA cT) base b gz_xn y_V_addMerged ws_V_addMerged 2 46 true [.ref p0, .int p1, .int p2] w (f_V_addMerged F p0 p1 p2 w) := by
  refine ga_enter (cc := c_V_addMerged) (maxL := 7) (ret := none) hst (by decide) rfl (Nat.le_of_ble_eq_true rfl) ?_
  intro p e R s m args below meth c ad0
  refine ga_sub (lv2 := [(0, .ref p0), (1, .int p1), (2, .int p2)]) [0, 1, 2] rfl ?_
  unfold f_V_addMerged
  refine ga_iconst (v := (-1 : Int32)) d_V_addMerged_0 (by decide) ?_
  refine ga_istore_n (lv2 := [(3, .int (-1 : Int32)), (0, .ref p0), (1, .int p1), (2, .int p2)]) d_V_addMerged_1 rfl (by decide) rfl ?_
  refine ga_iconst (v := (0 : Int32)) d_V_addMerged_2 (by decide) ?_
  refine ga_istore (lv2 := [(4, .int (0 : Int32)), (3, .int (-1 : Int32)), (0, .ref p0), (1, .int p1), (2, .int p2)]) d_V_addMerged_3 (by decide) rfl ?_
  refine ga_sub (lv2 := [(0, .ref p0), (1, .int p1), (2, .int p2), (3, .int (-1 : Int32)), (4, .int (0 : Int32))]) [2, 3, 4, 1, 0] rfl ?_
  exact h_V_addMerged_5 hst F p0 p1 p2 F (-1 : Int32) (0 : Int32) w
end GM3
