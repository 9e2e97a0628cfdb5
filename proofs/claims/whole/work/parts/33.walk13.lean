/-! WALKS: R_merge, R_pick -/
section GM13
variable {l : Launch} {S0 : State} {D : va_G} {cT : Nat → ClassId} {base b : Nat} {p : Program} {e : Env} {R : Room} {s : State} {m : MethodId} {args : Array Value} {below : List Frame} {meth : Method} {c : Code} {ad0 : Nat → Nat} {w0 : ga_W}
noncomputable def f_R_merge_8 (F : Nat) (x0 : Nat) (x1 : Int32) (K77 : Int32 → Int32 → ga_W → ga_O) : Nat → Int32 → Int32 → Int32 → ga_W → ga_O
  | 0, _, _, _, _ => none
  | n + 1, x2, x3, x4, w => ((ga_gi w 6 10 x0).bind fun v1 => (if v1 ≤ x4 then (K77 x2 x3 w) else ((ga_gr w 6 37 x0).bind fun r3 => ((ga_az w 1 r3 x4).bind fun v4 => (ga_jn (fun (y11 : Int32) (w12 : ga_W) => ((ga_gr w12 6 37 x0).bind fun r14 => ((ga_az w12 1 r14 x4).bind fun v15 => (if v15 = 0 then (f_R_merge_8 F x0 x1 K77 n y11 x3 (x4 + (1 : Int32)) w12) else (if ga_is w12 6 x0 = true then ga_c (f_R_high F x0 x4 w12) (ga_kI fun v18 w17 => (if v18 ≤ x3 then (f_R_merge_8 F x0 x1 K77 n y11 x3 (x4 + (1 : Int32)) w17) else (if ga_is w17 6 x0 = true then ga_c (f_R_high F x0 x4 w17) (ga_kI fun v21 w20 => (f_R_merge_8 F x0 x1 K77 n y11 v21 (x4 + (1 : Int32)) w20)) ga_up else none))) ga_up else none))))) (fun K13 => (if v4 = 0 then (K13 x2 w) else (if ga_is w 6 x0 = true then ga_c (f_R_low F x0 x4 w) (ga_kI fun v24 w23 => (if x2 ≤ v24 then (K13 x2 w23) else (if ga_is w23 6 x0 = true then ga_c (f_R_low F x0 x4 w23) (ga_kI fun v27 w26 => (K13 v27 w26)) ga_up else none))) ga_up else none))))))))
noncomputable def f_R_merge_80 (F : Nat) (x0 : Nat) (x1 : Int32) (x2 : Int32) (x3 : Int32) (K161 : ga_W → ga_O) : Nat → Int32 → ga_W → ga_O
  | 0, _, _ => none
  | n + 1, x4, w => ((ga_gi w 6 10 x0).bind fun v1 => (if v1 ≤ x4 then (K161 w) else ((ga_gr w 6 7 x0).bind fun r3 => ((ga_ai w 0 r3 x4).bind fun v4 => (ga_jn (fun  (w14 : ga_W) => ((ga_gr w14 6 37 x0).bind fun r16 => ((ga_az w14 1 r16 x4).bind fun v17 => (if v17 = 0 then (f_R_merge_80 F x0 x1 x2 x3 K161 n (x4 + (1 : Int32)) w14) else ((ga_gr w14 6 9 x0).bind fun r19 => ((ga_al w14 2 r19 x4).bind fun v20 => (if (lg_cmp v20 (0 : Int64)) = 0 then (f_R_merge_80 F x0 x1 x2 x3 K161 n (x4 + (1 : Int32)) w14) else ((ga_put w14 6 26 x0 (.int (1 : Int32))).bind fun w22 => (f_R_merge_80 F x0 x1 x2 x3 K161 n (x4 + (1 : Int32)) w22))))))))) (fun K15 => (if v4 = x1 then (if ga_is w 6 x0 = true then ga_c (f_R_low F x0 x4 w) (ga_kI fun v25 w24 => (if x3 < v25 then (K15 w24) else (if ga_is w24 6 x0 = true then ga_c (f_R_high F x0 x4 w24) (ga_kI fun v28 w27 => (if v28 < x2 then (K15 w27) else ((ga_gr w27 6 37 x0).bind fun r30 => ((ga_sz w27 1 r30 x4 (1 : Int32)).bind fun w31 => (K15 w31))))) ga_up else none))) ga_up else none) else (K15 w))))))))
noncomputable def f_R_merge_194 (F : Nat) (x0 : Nat) (x1 : Int32) (x4 : Int32) (x5 : Int32) (K257 : ga_W → ga_O) : Nat → Int32 → ga_W → ga_O
  | 0, _, _ => none
  | n + 1, x6, w => ((ga_gr w 6 8 x0).bind fun r1 => ((ga_ai w 0 r1 x5).bind fun v2 => (if (x4 + v2) ≤ x6 then (K257 w) else ((ga_gr w 6 37 x0).bind fun r4 => ((ga_az w 1 r4 x5).bind fun v5 => (if v5 = 0 then (K257 w) else ((ga_gr w 6 1 x0).bind fun r7 => ((ga_ai w 0 r7 x6).bind fun v8 => ((ga_gr w 6 2 x0).bind fun r9 => ((ga_ai w 0 r9 x6).bind fun v10 => ((ga_gr w 6 3 x0).bind fun r11 => ((ga_ai w 0 r11 x6).bind fun v12 => ((ga_gr w 6 4 x0).bind fun r13 => ((ga_az w 1 r13 x6).bind fun v14 => (if ga_is w 6 x0 = true then ga_c (f_R_enter F x0 v8 v10 v12 v14 w) (ga_kV fun w15 => (f_R_merge_194 F x0 x1 x4 x5 K257 n (x6 + (1 : Int32)) w15)) ga_up else none)))))))))))))))
noncomputable def f_R_merge_181 (F : Nat) (x0 : Nat) (x1 : Int32) (K275 : ga_W → ga_O) : Nat → Int32 → Int32 → ga_W → ga_O
  | 0, _, _, _ => none
  | n + 1, x4, x5, w => ((ga_gi w 6 10 x0).bind fun v1 => (if v1 ≤ x5 then (K275 w) else (f_R_merge_194 F x0 x1 x4 x5 (fun (w3 : ga_W) => ((ga_gr w3 6 8 x0).bind fun r4 => ((ga_ai w3 0 r4 x5).bind fun v5 => (f_R_merge_181 F x0 x1 K275 n (x4 + v5) (x5 + (1 : Int32)) w3)))) F x4 w)))
noncomputable def f_R_merge_288 (F : Nat) (x0 : Nat) (x1 : Int32) : Nat → Int32 → ga_W → ga_O
  | 0, _, _ => none
  | n + 1, x5, w => (if x5 < 0 then (if ga_is w 6 x0 = true then ga_c (f_R_place F x0 x1 w) (ga_kV fun w2 => (some (.inl (some (.int (1 : Int32))), w2))) ga_up else none) else ((ga_gr w 6 37 x0).bind fun r3 => ((ga_az w 1 r3 x5).bind fun v4 => (if v4 = 0 then (f_R_merge_288 F x0 x1 n (x5 + (-1 : Int32)) w) else (if ga_is w 6 x0 = true then ga_c (f_R_takeOut F x0 x5 w) (ga_kV fun w6 => (f_R_merge_288 F x0 x1 n (x5 + (-1 : Int32)) w6)) ga_up else none)))))
noncomputable def f_R_merge (F : Nat) (p0 : Nat) (p1 : Int32) (w : ga_W) : ga_O :=
  (f_R_merge_8 F p0 p1 (fun (z1 : Int32) (z2 : Int32) (w3 : ga_W) => (f_R_merge_80 F p0 p1 z1 z2 (fun (w4 : ga_W) => ((ga_gi w4 6 26 p0).bind fun v5 => (if v5 = 0 then ((ga_put w4 6 36 p0 (.int (0 : Int32))).bind fun w7 => (f_R_merge_181 F p0 p1 (fun (w8 : ga_W) => (if ga_is w8 6 p0 = true then ga_c (f_R_dropAll F p0 p1 w8) (ga_kV fun w9 => ((ga_gi w9 6 10 p0).bind fun v10 => (f_R_merge_288 F p0 p1 F (v10 - (1 : Int32)) w9))) ga_up else none)) F (0 : Int32) (0 : Int32) w7)) else (some (.inl (some (.int (0 : Int32))), w4))))) F (0 : Int32) w3)) F (64 : Int32) (-1 : Int32) (0 : Int32) w)
set_option maxHeartbeats 4000000 in
set_option maxRecDepth 100000 in
theorem h_R_merge_8 (hst : l.stackTraces = false) (F : Nat) (x0 : Nat) (x1 : Int32) (K77 : Int32 → Int32 → ga_W → ga_O) (hK77 : ∀ (z2 : Int32) (z3 : Int32) (w : ga_W), ga_J l S0 D gz_cl (gz_tA cT) base b gz_xn p e R s m args below meth c 7 ws_R_merge y_R_merge.cls c_R_merge (some .boolean) [] y_R_merge.name 4 94 true ad0 w0 (ga_MQ gz_xn D gz_cl (gz_tA cT) base b s args below ad0 w0) 77 [(0, .ref x0), (1, .int x1), (2, .int z2), (3, .int z3)] [] w (K77 z2 z3 w)) : ∀ (n : Nat) (x2 : Int32) (x3 : Int32) (x4 : Int32) (w : ga_W), ga_J l S0 D gz_cl (gz_tA cT) base b gz_xn p e R s m args below meth c 7 ws_R_merge y_R_merge.cls c_R_merge (some .boolean) [] y_R_merge.name 4 94 true ad0 w0 (ga_MQ gz_xn D gz_cl (gz_tA cT) base b s args below ad0 w0) 8 [(0, .ref x0), (1, .int x1), (2, .int x2), (3, .int x3), (4, .int x4)] [] w (f_R_merge_8 F x0 x1 K77 n x2 x3 x4 w) := by
  intro n
  induction n with
  | zero => intro x2 x3 x4 w; exact ga_no
  | succ n ih =>
    intro x2 x3 x4 w
    rw [f_R_merge_8]
    refine ga_iload (q := 4) d_R_merge_8 rfl ?_
    refine ga_aload_n (q := 0) d_R_merge_10 rfl rfl ?_
    refine ga_getI (C := "LevelStoreModel") (T := T_R) (N := 39) (k := 10) (ci := 6) (fun x h => List.mem_cons_of_mem _ (iw_R x h)) rfl (by decide) (List.mem_cons_of_mem _ gw_771) d_R_merge_11 (fun v1 => ?_)
    refine ga_icmp_ge (tgt := 77) d_R_merge_14 (by decide) (fun h2 => ?_) (fun h2 => ?_)
    · refine ga_sub (lv2 := [(0, .ref x0), (1, .int x1), (2, .int x2), (3, .int x3)]) [0, 1, 2, 3] rfl ?_
      exact hK77 _ _ _
    · refine ga_aload_n (q := 0) d_R_merge_17 rfl rfl ?_
      refine ga_getR (C := "LevelStoreModel") (T := T_R) (N := 39) (k := 37) (ci := 6) (fun x h => List.mem_cons_of_mem _ (iw_R x h)) rfl (by decide) (List.mem_cons_of_mem _ gw_798) d_R_merge_18 (fun r3 => ?_)
      refine ga_iload (q := 4) d_R_merge_21 rfl ?_
      refine ga_ldZ (t := 1) rfl d_R_merge_23 (fun v4 => ?_)
      refine ga_join (fun (K13 : Int32 → ga_W → ga_O) => ∀ (y11 : Int32) (w12 : ga_W), ga_J l S0 D gz_cl (gz_tA cT) base b gz_xn p e R s m args below meth c 7 ws_R_merge y_R_merge.cls c_R_merge (some .boolean) [] y_R_merge.name 4 94 true ad0 w0 (ga_MQ gz_xn D gz_cl (gz_tA cT) base b s args below ad0 w0) 44 [(0, .ref x0), (1, .int x1), (2, .int y11), (3, .int x3), (4, .int x4)] [] w12 (K13 y11 w12)) (fun y11 w12 => ?_) (fun K13 hK13 => ?_)
      · refine ga_aload_n (q := 0) d_R_merge_44 rfl rfl ?_
        refine ga_getR (C := "LevelStoreModel") (T := T_R) (N := 39) (k := 37) (ci := 6) (fun x h => List.mem_cons_of_mem _ (iw_R x h)) rfl (by decide) (List.mem_cons_of_mem _ gw_798) d_R_merge_45 (fun r14 => ?_)
        refine ga_iload (q := 4) d_R_merge_48 rfl ?_
        refine ga_ldZ (t := 1) rfl d_R_merge_50 (fun v15 => ?_)
        refine ga_if_eq (tgt := 71) d_R_merge_51 (by decide) (fun h16 => ?_) (fun h16 => ?_)
        · refine ga_iinc (q := 4) (v := (x4 + (1 : Int32))) (lv2 := [(4, .int (x4 + (1 : Int32))), (0, .ref x0), (1, .int x1), (2, .int y11), (3, .int x3)]) d_R_merge_71 rfl rfl (by decide) rfl ?_
          refine ga_goto (tgt := 8) d_R_merge_74 (by decide) ?_
          refine ga_sub (lv2 := [(0, .ref x0), (1, .int x1), (2, .int y11), (3, .int x3), (4, .int (x4 + (1 : Int32)))]) [1, 2, 3, 4, 0] rfl ?_
          exact ih _ _ _ _
        · refine ga_aload_n (q := 0) d_R_merge_54 rfl rfl ?_
          refine ga_iload (q := 4) d_R_merge_55 rfl ?_
          refine ga_invV (nA := 1) (ci := 6) (T := T_R) (N := 39) (av := [.int x4]) (a := x0) (st := []) (m_R_high hst F x0 x4 w12) (Or.inl rfl) (gz_gV gw_955 gw_957 gw_34 gw_58 gw_958) rfl ⟨rfl, by decide +kernel⟩ rfl (by decide) (by decide) (Nat.le_of_ble_eq_true rfl) rfl d_R_merge_57 (ga_vI (fun v18 w17 => ?_)) (fun _ _ => ga_thru rfl)
          refine ga_iload_n (q := 3) d_R_merge_60 rfl rfl ?_
          refine ga_icmp_le (tgt := 71) d_R_merge_61 (by decide) (fun h19 => ?_) (fun h19 => ?_)
          · refine ga_iinc (q := 4) (v := (x4 + (1 : Int32))) (lv2 := [(4, .int (x4 + (1 : Int32))), (0, .ref x0), (1, .int x1), (2, .int y11), (3, .int x3)]) d_R_merge_71 rfl rfl (by decide) rfl ?_
            refine ga_goto (tgt := 8) d_R_merge_74 (by decide) ?_
            refine ga_sub (lv2 := [(0, .ref x0), (1, .int x1), (2, .int y11), (3, .int x3), (4, .int (x4 + (1 : Int32)))]) [1, 2, 3, 4, 0] rfl ?_
            exact ih _ _ _ _
          · refine ga_aload_n (q := 0) d_R_merge_64 rfl rfl ?_
            refine ga_iload (q := 4) d_R_merge_65 rfl ?_
            refine ga_invV (nA := 1) (ci := 6) (T := T_R) (N := 39) (av := [.int x4]) (a := x0) (st := []) (m_R_high hst F x0 x4 w17) (Or.inl rfl) (gz_gV gw_955 gw_957 gw_34 gw_58 gw_958) rfl ⟨rfl, by decide +kernel⟩ rfl (by decide) (by decide) (Nat.le_of_ble_eq_true rfl) rfl d_R_merge_67 (ga_vI (fun v21 w20 => ?_)) (fun _ _ => ga_thru rfl)
            refine ga_istore_n (lv2 := [(3, .int v21), (0, .ref x0), (1, .int x1), (2, .int y11), (4, .int x4)]) d_R_merge_70 rfl (by decide) rfl ?_
            refine ga_iinc (q := 4) (v := (x4 + (1 : Int32))) (lv2 := [(4, .int (x4 + (1 : Int32))), (3, .int v21), (0, .ref x0), (1, .int x1), (2, .int y11)]) d_R_merge_71 rfl rfl (by decide) rfl ?_
            refine ga_goto (tgt := 8) d_R_merge_74 (by decide) ?_
            refine ga_sub (lv2 := [(0, .ref x0), (1, .int x1), (2, .int y11), (3, .int v21), (4, .int (x4 + (1 : Int32)))]) [2, 3, 4, 1, 0] rfl ?_
            exact ih _ _ _ _
      · refine ga_if_eq (tgt := 44) d_R_merge_24 (by decide) (fun h22 => ?_) (fun h22 => ?_)
        · exact hK13 _ _
        · refine ga_aload_n (q := 0) d_R_merge_27 rfl rfl ?_
          refine ga_iload (q := 4) d_R_merge_28 rfl ?_
          refine ga_invV (nA := 1) (ci := 6) (T := T_R) (N := 39) (av := [.int x4]) (a := x0) (st := []) (m_R_low hst F x0 x4 w) (Or.inl rfl) (gz_gV gw_951 gw_953 gw_33 gw_58 gw_954) rfl ⟨rfl, by decide +kernel⟩ rfl (by decide) (by decide) (Nat.le_of_ble_eq_true rfl) rfl d_R_merge_30 (ga_vI (fun v24 w23 => ?_)) (fun _ _ => ga_thru rfl)
          refine ga_iload_n (q := 2) d_R_merge_33 rfl rfl ?_
          refine ga_icmp_ge (tgt := 44) d_R_merge_34 (by decide) (fun h25 => ?_) (fun h25 => ?_)
          · exact hK13 _ _
          · refine ga_aload_n (q := 0) d_R_merge_37 rfl rfl ?_
            refine ga_iload (q := 4) d_R_merge_38 rfl ?_
            refine ga_invV (nA := 1) (ci := 6) (T := T_R) (N := 39) (av := [.int x4]) (a := x0) (st := []) (m_R_low hst F x0 x4 w23) (Or.inl rfl) (gz_gV gw_951 gw_953 gw_33 gw_58 gw_954) rfl ⟨rfl, by decide +kernel⟩ rfl (by decide) (by decide) (Nat.le_of_ble_eq_true rfl) rfl d_R_merge_40 (ga_vI (fun v27 w26 => ?_)) (fun _ _ => ga_thru rfl)
            refine ga_istore_n (lv2 := [(2, .int v27), (0, .ref x0), (1, .int x1), (3, .int x3), (4, .int x4)]) d_R_merge_43 rfl (by decide) rfl ?_
            refine ga_sub (lv2 := [(0, .ref x0), (1, .int x1), (2, .int v27), (3, .int x3), (4, .int x4)]) [1, 2, 0, 3, 4] rfl ?_
            exact hK13 _ _
set_option maxHeartbeats 4000000 in
set_option maxRecDepth 100000 in
theorem h_R_merge_80 (hst : l.stackTraces = false) (F : Nat) (x0 : Nat) (x1 : Int32) (x2 : Int32) (x3 : Int32) (K161 : ga_W → ga_O) (hK161 : ∀ (w : ga_W), ga_J l S0 D gz_cl (gz_tA cT) base b gz_xn p e R s m args below meth c 7 ws_R_merge y_R_merge.cls c_R_merge (some .boolean) [] y_R_merge.name 4 94 true ad0 w0 (ga_MQ gz_xn D gz_cl (gz_tA cT) base b s args below ad0 w0) 161 [(0, .ref x0), (1, .int x1)] [] w (K161 w)) : ∀ (n : Nat) (x4 : Int32) (w : ga_W), ga_J l S0 D gz_cl (gz_tA cT) base b gz_xn p e R s m args below meth c 7 ws_R_merge y_R_merge.cls c_R_merge (some .boolean) [] y_R_merge.name 4 94 true ad0 w0 (ga_MQ gz_xn D gz_cl (gz_tA cT) base b s args below ad0 w0) 80 [(0, .ref x0), (1, .int x1), (2, .int x2), (3, .int x3), (4, .int x4)] [] w (f_R_merge_80 F x0 x1 x2 x3 K161 n x4 w) := by
  intro n
  induction n with
  | zero => intro x4 w; exact ga_no
  | succ n ih =>
    intro x4 w
    rw [f_R_merge_80]
    refine ga_iload (q := 4) d_R_merge_80 rfl ?_
    refine ga_aload_n (q := 0) d_R_merge_82 rfl rfl ?_
    refine ga_getI (C := "LevelStoreModel") (T := T_R) (N := 39) (k := 10) (ci := 6) (fun x h => List.mem_cons_of_mem _ (iw_R x h)) rfl (by decide) (List.mem_cons_of_mem _ gw_771) d_R_merge_83 (fun v1 => ?_)
    refine ga_icmp_ge (tgt := 161) d_R_merge_86 (by decide) (fun h2 => ?_) (fun h2 => ?_)
    · refine ga_sub (lv2 := [(0, .ref x0), (1, .int x1)]) [0, 1] rfl ?_
      exact hK161  _
    · refine ga_aload_n (q := 0) d_R_merge_89 rfl rfl ?_
      refine ga_getR (C := "LevelStoreModel") (T := T_R) (N := 39) (k := 7) (ci := 6) (fun x h => List.mem_cons_of_mem _ (iw_R x h)) rfl (by decide) (List.mem_cons_of_mem _ gw_768) d_R_merge_90 (fun r3 => ?_)
      refine ga_iload (q := 4) d_R_merge_93 rfl ?_
      refine ga_ldI (t := 0) rfl d_R_merge_95 (fun v4 => ?_)
      refine ga_iload_n (q := 1) d_R_merge_96 rfl rfl ?_
      refine ga_join (fun (K15 : ga_W → ga_O) => ∀  (w14 : ga_W), ga_J l S0 D gz_cl (gz_tA cT) base b gz_xn p e R s m args below meth c 7 ws_R_merge y_R_merge.cls c_R_merge (some .boolean) [] y_R_merge.name 4 94 true ad0 w0 (ga_MQ gz_xn D gz_cl (gz_tA cT) base b s args below ad0 w0) 128 [(0, .ref x0), (1, .int x1), (2, .int x2), (3, .int x3), (4, .int x4)] [] w14 (K15 w14)) (fun w14 => ?_) (fun K15 hK15 => ?_)
      · refine ga_aload_n (q := 0) d_R_merge_128 rfl rfl ?_
        refine ga_getR (C := "LevelStoreModel") (T := T_R) (N := 39) (k := 37) (ci := 6) (fun x h => List.mem_cons_of_mem _ (iw_R x h)) rfl (by decide) (List.mem_cons_of_mem _ gw_798) d_R_merge_129 (fun r16 => ?_)
        refine ga_iload (q := 4) d_R_merge_132 rfl ?_
        refine ga_ldZ (t := 1) rfl d_R_merge_134 (fun v17 => ?_)
        refine ga_if_eq (tgt := 155) d_R_merge_135 (by decide) (fun h18 => ?_) (fun h18 => ?_)
        · refine ga_iinc (q := 4) (v := (x4 + (1 : Int32))) (lv2 := [(4, .int (x4 + (1 : Int32))), (0, .ref x0), (1, .int x1), (2, .int x2), (3, .int x3)]) d_R_merge_155 rfl rfl (by decide) rfl ?_
          refine ga_goto (tgt := 80) d_R_merge_158 (by decide) ?_
          refine ga_sub (lv2 := [(0, .ref x0), (1, .int x1), (2, .int x2), (3, .int x3), (4, .int (x4 + (1 : Int32)))]) [1, 2, 3, 4, 0] rfl ?_
          exact ih _ _
        · refine ga_aload_n (q := 0) d_R_merge_138 rfl rfl ?_
          refine ga_getR (C := "LevelStoreModel") (T := T_R) (N := 39) (k := 9) (ci := 6) (fun x h => List.mem_cons_of_mem _ (iw_R x h)) rfl (by decide) (List.mem_cons_of_mem _ gw_770) d_R_merge_139 (fun r19 => ?_)
          refine ga_iload (q := 4) d_R_merge_142 rfl ?_
          refine ga_ldL (t := 2) rfl d_R_merge_144 (fun v20 => ?_)
          refine ga_lconst (v := (0 : Int64)) d_R_merge_145 (by decide) ?_
          refine ga_lcmp d_R_merge_146 ?_
          refine ga_if_eq (tgt := 155) d_R_merge_147 (by decide) (fun h21 => ?_) (fun h21 => ?_)
          · refine ga_iinc (q := 4) (v := (x4 + (1 : Int32))) (lv2 := [(4, .int (x4 + (1 : Int32))), (0, .ref x0), (1, .int x1), (2, .int x2), (3, .int x3)]) d_R_merge_155 rfl rfl (by decide) rfl ?_
            refine ga_goto (tgt := 80) d_R_merge_158 (by decide) ?_
            refine ga_sub (lv2 := [(0, .ref x0), (1, .int x1), (2, .int x2), (3, .int x3), (4, .int (x4 + (1 : Int32)))]) [1, 2, 3, 4, 0] rfl ?_
            exact ih _ _
          · refine ga_aload_n (q := 0) d_R_merge_150 rfl rfl ?_
            refine ga_iconst (v := (1 : Int32)) d_R_merge_151 (by decide) ?_
            refine ga_putB (C := "LevelStoreModel") (T := T_R) (N := 39) (k := 26) (ci := 6) (ty0 := ty_R) (fun x h => List.mem_cons_of_mem _ (iw_R x h)) ty_R_ok nm_R rfl (by decide) (List.mem_cons_of_mem _ gw_787) (Or.inl rfl) (fun _ => ⟨rfl, rfl⟩) d_R_merge_152 (fun w22 => ?_)
            refine ga_iinc (q := 4) (v := (x4 + (1 : Int32))) (lv2 := [(4, .int (x4 + (1 : Int32))), (0, .ref x0), (1, .int x1), (2, .int x2), (3, .int x3)]) d_R_merge_155 rfl rfl (by decide) rfl ?_
            refine ga_goto (tgt := 80) d_R_merge_158 (by decide) ?_
            refine ga_sub (lv2 := [(0, .ref x0), (1, .int x1), (2, .int x2), (3, .int x3), (4, .int (x4 + (1 : Int32)))]) [1, 2, 3, 4, 0] rfl ?_
            exact ih _ _
      · refine ga_icmp_ne (tgt := 128) d_R_merge_97 (by decide) (fun h23 => ?_) (fun h23 => ?_)
        · refine ga_aload_n (q := 0) d_R_merge_100 rfl rfl ?_
          refine ga_iload (q := 4) d_R_merge_101 rfl ?_
          refine ga_invV (nA := 1) (ci := 6) (T := T_R) (N := 39) (av := [.int x4]) (a := x0) (st := []) (m_R_low hst F x0 x4 w) (Or.inl rfl) (gz_gV gw_951 gw_953 gw_33 gw_58 gw_954) rfl ⟨rfl, by decide +kernel⟩ rfl (by decide) (by decide) (Nat.le_of_ble_eq_true rfl) rfl d_R_merge_103 (ga_vI (fun v25 w24 => ?_)) (fun _ _ => ga_thru rfl)
          refine ga_iload_n (q := 3) d_R_merge_106 rfl rfl ?_
          refine ga_icmp_gt (tgt := 128) d_R_merge_107 (by decide) (fun h26 => ?_) (fun h26 => ?_)
          · exact hK15 _
          · refine ga_aload_n (q := 0) d_R_merge_110 rfl rfl ?_
            refine ga_iload (q := 4) d_R_merge_111 rfl ?_
            refine ga_invV (nA := 1) (ci := 6) (T := T_R) (N := 39) (av := [.int x4]) (a := x0) (st := []) (m_R_high hst F x0 x4 w24) (Or.inl rfl) (gz_gV gw_955 gw_957 gw_34 gw_58 gw_958) rfl ⟨rfl, by decide +kernel⟩ rfl (by decide) (by decide) (Nat.le_of_ble_eq_true rfl) rfl d_R_merge_113 (ga_vI (fun v28 w27 => ?_)) (fun _ _ => ga_thru rfl)
            refine ga_iload_n (q := 2) d_R_merge_116 rfl rfl ?_
            refine ga_icmp_lt (tgt := 128) d_R_merge_117 (by decide) (fun h29 => ?_) (fun h29 => ?_)
            · exact hK15 _
            · refine ga_aload_n (q := 0) d_R_merge_120 rfl rfl ?_
              refine ga_getR (C := "LevelStoreModel") (T := T_R) (N := 39) (k := 37) (ci := 6) (fun x h => List.mem_cons_of_mem _ (iw_R x h)) rfl (by decide) (List.mem_cons_of_mem _ gw_798) d_R_merge_121 (fun r30 => ?_)
              refine ga_iload (q := 4) d_R_merge_124 rfl ?_
              refine ga_iconst (v := (1 : Int32)) d_R_merge_126 (by decide) ?_
              refine ga_stZ (t := 1) rfl d_R_merge_127 (fun w31 => ?_)
              exact hK15 _
        · exact hK15 _
set_option maxHeartbeats 4000000 in
set_option maxRecDepth 100000 in
theorem h_R_merge_194 (hst : l.stackTraces = false) (F : Nat) (x0 : Nat) (x1 : Int32) (x4 : Int32) (x5 : Int32) (K257 : ga_W → ga_O) (hK257 : ∀ (w : ga_W), ga_J l S0 D gz_cl (gz_tA cT) base b gz_xn p e R s m args below meth c 7 ws_R_merge y_R_merge.cls c_R_merge (some .boolean) [] y_R_merge.name 4 94 true ad0 w0 (ga_MQ gz_xn D gz_cl (gz_tA cT) base b s args below ad0 w0) 257 [(0, .ref x0), (1, .int x1), (4, .int x4), (5, .int x5)] [] w (K257 w)) : ∀ (n : Nat) (x6 : Int32) (w : ga_W), ga_J l S0 D gz_cl (gz_tA cT) base b gz_xn p e R s m args below meth c 7 ws_R_merge y_R_merge.cls c_R_merge (some .boolean) [] y_R_merge.name 4 94 true ad0 w0 (ga_MQ gz_xn D gz_cl (gz_tA cT) base b s args below ad0 w0) 194 [(0, .ref x0), (1, .int x1), (4, .int x4), (5, .int x5), (6, .int x6)] [] w (f_R_merge_194 F x0 x1 x4 x5 K257 n x6 w) := by
  intro n
  induction n with
  | zero => intro x6 w; exact ga_no
  | succ n ih =>
    intro x6 w
    rw [f_R_merge_194]
    refine ga_iload (q := 4) d_R_merge_194 rfl ?_
    refine ga_iload (q := 2) d_R_merge_196 rfl ?_
    refine ga_aload_n (q := 0) d_R_merge_198 rfl rfl ?_
    refine ga_getR (C := "LevelStoreModel") (T := T_R) (N := 39) (k := 8) (ci := 6) (fun x h => List.mem_cons_of_mem _ (iw_R x h)) rfl (by decide) (List.mem_cons_of_mem _ gw_769) d_R_merge_199 (fun r1 => ?_)
    refine ga_iload (q := 3) d_R_merge_202 rfl ?_
    refine ga_ldI (t := 0) rfl d_R_merge_204 (fun v2 => ?_)
    refine ga_iadd d_R_merge_205 ?_
    refine ga_icmp_ge (tgt := 257) d_R_merge_206 (by decide) (fun h3 => ?_) (fun h3 => ?_)
    · refine ga_sub (lv2 := [(0, .ref x0), (1, .int x1), (4, .int x4), (5, .int x5)]) [0, 1, 2, 3] rfl ?_
      exact hK257  _
    · refine ga_aload_n (q := 0) d_R_merge_209 rfl rfl ?_
      refine ga_getR (C := "LevelStoreModel") (T := T_R) (N := 39) (k := 37) (ci := 6) (fun x h => List.mem_cons_of_mem _ (iw_R x h)) rfl (by decide) (List.mem_cons_of_mem _ gw_798) d_R_merge_210 (fun r4 => ?_)
      refine ga_iload (q := 3) d_R_merge_213 rfl ?_
      refine ga_ldZ (t := 1) rfl d_R_merge_215 (fun v5 => ?_)
      refine ga_if_eq (tgt := 257) d_R_merge_216 (by decide) (fun h6 => ?_) (fun h6 => ?_)
      · refine ga_sub (lv2 := [(0, .ref x0), (1, .int x1), (4, .int x4), (5, .int x5)]) [0, 1, 2, 3] rfl ?_
        exact hK257  _
      · refine ga_aload_n (q := 0) d_R_merge_219 rfl rfl ?_
        refine ga_aload_n (q := 0) d_R_merge_220 rfl rfl ?_
        refine ga_getR (C := "LevelStoreModel") (T := T_R) (N := 39) (k := 1) (ci := 6) (fun x h => List.mem_cons_of_mem _ (iw_R x h)) rfl (by decide) (List.mem_cons_of_mem _ gw_762) d_R_merge_221 (fun r7 => ?_)
        refine ga_iload (q := 4) d_R_merge_224 rfl ?_
        refine ga_ldI (t := 0) rfl d_R_merge_226 (fun v8 => ?_)
        refine ga_aload_n (q := 0) d_R_merge_227 rfl rfl ?_
        refine ga_getR (C := "LevelStoreModel") (T := T_R) (N := 39) (k := 2) (ci := 6) (fun x h => List.mem_cons_of_mem _ (iw_R x h)) rfl (by decide) (List.mem_cons_of_mem _ gw_763) d_R_merge_228 (fun r9 => ?_)
        refine ga_iload (q := 4) d_R_merge_231 rfl ?_
        refine ga_ldI (t := 0) rfl d_R_merge_233 (fun v10 => ?_)
        refine ga_aload_n (q := 0) d_R_merge_234 rfl rfl ?_
        refine ga_getR (C := "LevelStoreModel") (T := T_R) (N := 39) (k := 3) (ci := 6) (fun x h => List.mem_cons_of_mem _ (iw_R x h)) rfl (by decide) (List.mem_cons_of_mem _ gw_764) d_R_merge_235 (fun r11 => ?_)
        refine ga_iload (q := 4) d_R_merge_238 rfl ?_
        refine ga_ldI (t := 0) rfl d_R_merge_240 (fun v12 => ?_)
        refine ga_aload_n (q := 0) d_R_merge_241 rfl rfl ?_
        refine ga_getR (C := "LevelStoreModel") (T := T_R) (N := 39) (k := 4) (ci := 6) (fun x h => List.mem_cons_of_mem _ (iw_R x h)) rfl (by decide) (List.mem_cons_of_mem _ gw_765) d_R_merge_242 (fun r13 => ?_)
        refine ga_iload (q := 4) d_R_merge_245 rfl ?_
        refine ga_ldZ (t := 1) rfl d_R_merge_247 (fun v14 => ?_)
        refine ga_invV (nA := 4) (ci := 6) (T := T_R) (N := 39) (av := [.int v8, .int v10, .int v12, .int v14]) (a := x0) (st := []) (m_R_enter hst F x0 v8 v10 v12 v14 w) (Or.inl rfl) (gz_gV gw_919 gw_921 gw_25 gw_58 gw_922) rfl ⟨rfl, by decide +kernel⟩ rfl (by decide) (by decide) (Nat.le_of_ble_eq_true rfl) rfl d_R_merge_248 (ga_vV (fun w15 => ?_)) (fun _ _ => ga_thru rfl)
        refine ga_iinc (q := 4) (v := (x6 + (1 : Int32))) (lv2 := [(6, .int (x6 + (1 : Int32))), (0, .ref x0), (1, .int x1), (4, .int x4), (5, .int x5)]) d_R_merge_251 rfl rfl (by decide) rfl ?_
        refine ga_goto (tgt := 194) d_R_merge_254 (by decide) ?_
        refine ga_sub (lv2 := [(0, .ref x0), (1, .int x1), (4, .int x4), (5, .int x5), (6, .int (x6 + (1 : Int32)))]) [1, 2, 3, 4, 0] rfl ?_
        exact ih _ _
set_option maxHeartbeats 4000000 in
set_option maxRecDepth 100000 in
theorem h_R_merge_181 (hst : l.stackTraces = false) (F : Nat) (x0 : Nat) (x1 : Int32) (K275 : ga_W → ga_O) (hK275 : ∀ (w : ga_W), ga_J l S0 D gz_cl (gz_tA cT) base b gz_xn p e R s m args below meth c 7 ws_R_merge y_R_merge.cls c_R_merge (some .boolean) [] y_R_merge.name 4 94 true ad0 w0 (ga_MQ gz_xn D gz_cl (gz_tA cT) base b s args below ad0 w0) 275 [(0, .ref x0), (1, .int x1)] [] w (K275 w)) : ∀ (n : Nat) (x4 : Int32) (x5 : Int32) (w : ga_W), ga_J l S0 D gz_cl (gz_tA cT) base b gz_xn p e R s m args below meth c 7 ws_R_merge y_R_merge.cls c_R_merge (some .boolean) [] y_R_merge.name 4 94 true ad0 w0 (ga_MQ gz_xn D gz_cl (gz_tA cT) base b s args below ad0 w0) 181 [(0, .ref x0), (1, .int x1), (4, .int x4), (5, .int x5)] [] w (f_R_merge_181 F x0 x1 K275 n x4 x5 w) := by
  intro n
  induction n with
  | zero => intro x4 x5 w; exact ga_no
  | succ n ih =>
    intro x4 x5 w
    rw [f_R_merge_181]
    refine ga_iload (q := 3) d_R_merge_181 rfl ?_
    refine ga_aload_n (q := 0) d_R_merge_183 rfl rfl ?_
    refine ga_getI (C := "LevelStoreModel") (T := T_R) (N := 39) (k := 10) (ci := 6) (fun x h => List.mem_cons_of_mem _ (iw_R x h)) rfl (by decide) (List.mem_cons_of_mem _ gw_771) d_R_merge_184 (fun v1 => ?_)
    refine ga_icmp_ge (tgt := 275) d_R_merge_187 (by decide) (fun h2 => ?_) (fun h2 => ?_)
    · refine ga_sub (lv2 := [(0, .ref x0), (1, .int x1)]) [0, 1] rfl ?_
      exact hK275  _
    · refine ga_iload (q := 2) d_R_merge_190 rfl ?_
      refine ga_istore (lv2 := [(6, .int x4), (0, .ref x0), (1, .int x1), (4, .int x4), (5, .int x5)]) d_R_merge_192 (by decide) rfl ?_
      refine ga_sub (lv2 := [(0, .ref x0), (1, .int x1), (4, .int x4), (5, .int x5), (6, .int x4)]) [1, 2, 3, 4, 0] rfl ?_
      refine h_R_merge_194 hst F x0 x1 x4 x5 _ (fun w3 => ?_) F x4 w
      refine ga_iload (q := 2) d_R_merge_257 rfl ?_
      refine ga_aload_n (q := 0) d_R_merge_259 rfl rfl ?_
      refine ga_getR (C := "LevelStoreModel") (T := T_R) (N := 39) (k := 8) (ci := 6) (fun x h => List.mem_cons_of_mem _ (iw_R x h)) rfl (by decide) (List.mem_cons_of_mem _ gw_769) d_R_merge_260 (fun r4 => ?_)
      refine ga_iload (q := 3) d_R_merge_263 rfl ?_
      refine ga_ldI (t := 0) rfl d_R_merge_265 (fun v5 => ?_)
      refine ga_iadd d_R_merge_266 ?_
      refine ga_istore (lv2 := [(4, .int (x4 + v5)), (0, .ref x0), (1, .int x1), (5, .int x5)]) d_R_merge_267 (by decide) rfl ?_
      refine ga_iinc (q := 3) (v := (x5 + (1 : Int32))) (lv2 := [(5, .int (x5 + (1 : Int32))), (4, .int (x4 + v5)), (0, .ref x0), (1, .int x1)]) d_R_merge_269 rfl rfl (by decide) rfl ?_
      refine ga_goto (tgt := 181) d_R_merge_272 (by decide) ?_
      refine ga_sub (lv2 := [(0, .ref x0), (1, .int x1), (4, .int (x4 + v5)), (5, .int (x5 + (1 : Int32)))]) [2, 3, 1, 0] rfl ?_
      exact ih _ _ _
set_option maxHeartbeats 4000000 in
set_option maxRecDepth 100000 in
theorem h_R_merge_288 (hst : l.stackTraces = false) (F : Nat) (x0 : Nat) (x1 : Int32) : ∀ (n : Nat) (x5 : Int32) (w : ga_W), ga_J l S0 D gz_cl (gz_tA cT) base b gz_xn p e R s m args below meth c 7 ws_R_merge y_R_merge.cls c_R_merge (some .boolean) [] y_R_merge.name 4 94 true ad0 w0 (ga_MQ gz_xn D gz_cl (gz_tA cT) base b s args below ad0 w0) 288 [(0, .ref x0), (1, .int x1), (5, .int x5)] [] w (f_R_merge_288 F x0 x1 n x5 w) := by
  intro n
  induction n with
  | zero => intro x5 w; exact ga_no
  | succ n ih =>
    intro x5 w
    rw [f_R_merge_288]
    refine ga_iload (q := 2) d_R_merge_288 rfl ?_
    refine ga_if_lt (tgt := 315) d_R_merge_290 (by decide) (fun h1 => ?_) (fun h1 => ?_)
    · refine ga_aload_n (q := 0) d_R_merge_315 rfl rfl ?_
      refine ga_iload_n (q := 1) d_R_merge_316 rfl rfl ?_
      refine ga_invV (nA := 1) (ci := 6) (T := T_R) (N := 39) (av := [.int x1]) (a := x0) (st := []) (m_R_place hst F x0 x1 w) (Or.inl rfl) (gz_gV gw_975 gw_977 gw_39 gw_58 gw_978) rfl ⟨rfl, by decide +kernel⟩ rfl (by decide) (by decide) (Nat.le_of_ble_eq_true rfl) rfl d_R_merge_317 (ga_vV (fun w2 => ?_)) (fun _ _ => ga_thru rfl)
      refine ga_iconst (v := (1 : Int32)) d_R_merge_320 (by decide) ?_
      exact ga_zret rfl rfl d_R_merge_321
    · refine ga_aload_n (q := 0) d_R_merge_293 rfl rfl ?_
      refine ga_getR (C := "LevelStoreModel") (T := T_R) (N := 39) (k := 37) (ci := 6) (fun x h => List.mem_cons_of_mem _ (iw_R x h)) rfl (by decide) (List.mem_cons_of_mem _ gw_798) d_R_merge_294 (fun r3 => ?_)
      refine ga_iload (q := 2) d_R_merge_297 rfl ?_
      refine ga_ldZ (t := 1) rfl d_R_merge_299 (fun v4 => ?_)
      refine ga_if_eq (tgt := 309) d_R_merge_300 (by decide) (fun h5 => ?_) (fun h5 => ?_)
      · refine ga_iinc (q := 2) (v := (x5 + (-1 : Int32))) (lv2 := [(5, .int (x5 + (-1 : Int32))), (0, .ref x0), (1, .int x1)]) d_R_merge_309 rfl rfl (by decide) rfl ?_
        refine ga_goto (tgt := 288) d_R_merge_312 (by decide) ?_
        refine ga_sub (lv2 := [(0, .ref x0), (1, .int x1), (5, .int (x5 + (-1 : Int32)))]) [1, 2, 0] rfl ?_
        exact ih _ _
      · refine ga_aload_n (q := 0) d_R_merge_303 rfl rfl ?_
        refine ga_iload (q := 2) d_R_merge_304 rfl ?_
        refine ga_invV (nA := 1) (ci := 6) (T := T_R) (N := 39) (av := [.int x5]) (a := x0) (st := []) (m_R_takeOut hst F x0 x5 w) (Or.inl rfl) (gz_gV gw_971 gw_973 gw_38 gw_58 gw_974) rfl ⟨rfl, by decide +kernel⟩ rfl (by decide) (by decide) (Nat.le_of_ble_eq_true rfl) rfl d_R_merge_306 (ga_vV (fun w6 => ?_)) (fun _ _ => ga_thru rfl)
        refine ga_iinc (q := 2) (v := (x5 + (-1 : Int32))) (lv2 := [(5, .int (x5 + (-1 : Int32))), (0, .ref x0), (1, .int x1)]) d_R_merge_309 rfl rfl (by decide) rfl ?_
        refine ga_goto (tgt := 288) d_R_merge_312 (by decide) ?_
        refine ga_sub (lv2 := [(0, .ref x0), (1, .int x1), (5, .int (x5 + (-1 : Int32)))]) [1, 2, 0] rfl ?_
        exact ih _ _
set_option maxHeartbeats 4000000 in
set_option maxRecDepth 100000 in
theorem m_R_merge (hst : l.stackTraces = false) (F : Nat) (p0 : Nat) (p1 : Int32) (w : ga_W) : ga_M l S0 D gz_cl (gz_tA cT) base b gz_xn y_R_merge ws_R_merge 4 94 true [.ref p0, .int p1] w (f_R_merge F p0 p1 w) := by
  refine ga_enter (cc := c_R_merge) (maxL := 7) (ret := (some .boolean)) hst (by decide) rfl (Nat.le_of_ble_eq_true rfl) ?_
  intro p e R s m args below meth c ad0
  refine ga_sub (lv2 := [(0, .ref p0), (1, .int p1)]) [0, 1] rfl ?_
  unfold f_R_merge
  refine ga_bipush (v := (64 : Int32)) d_R_merge_0 (by decide) ?_
  refine ga_istore_n (lv2 := [(2, .int (64 : Int32)), (0, .ref p0), (1, .int p1)]) d_R_merge_2 rfl (by decide) rfl ?_
  refine ga_iconst (v := (-1 : Int32)) d_R_merge_3 (by decide) ?_
  refine ga_istore_n (lv2 := [(3, .int (-1 : Int32)), (2, .int (64 : Int32)), (0, .ref p0), (1, .int p1)]) d_R_merge_4 rfl (by decide) rfl ?_
  refine ga_iconst (v := (0 : Int32)) d_R_merge_5 (by decide) ?_
  refine ga_istore (lv2 := [(4, .int (0 : Int32)), (3, .int (-1 : Int32)), (2, .int (64 : Int32)), (0, .ref p0), (1, .int p1)]) d_R_merge_6 (by decide) rfl ?_
  refine ga_sub (lv2 := [(0, .ref p0), (1, .int p1), (2, .int (64 : Int32)), (3, .int (-1 : Int32)), (4, .int (0 : Int32))]) [3, 4, 2, 1, 0] rfl ?_
  refine h_R_merge_8 hst F p0 p1 _ (fun z1 z2 w3 => ?_) F (64 : Int32) (-1 : Int32) (0 : Int32) w
  refine ga_iconst (v := (0 : Int32)) d_R_merge_77 (by decide) ?_
  refine ga_istore (lv2 := [(4, .int (0 : Int32)), (0, .ref p0), (1, .int p1), (2, .int z1), (3, .int z2)]) d_R_merge_78 (by decide) rfl ?_
  refine ga_sub (lv2 := [(0, .ref p0), (1, .int p1), (2, .int z1), (3, .int z2), (4, .int (0 : Int32))]) [1, 2, 3, 4, 0] rfl ?_
  refine h_R_merge_80 hst F p0 p1 z1 z2 _ (fun w4 => ?_) F (0 : Int32) w3
  refine ga_aload_n (q := 0) d_R_merge_161 rfl rfl ?_
  refine ga_getI (C := "LevelStoreModel") (T := T_R) (N := 39) (k := 26) (ci := 6) (fun x h => List.mem_cons_of_mem _ (iw_R x h)) rfl (by decide) (List.mem_cons_of_mem _ gw_787) d_R_merge_162 (fun v5 => ?_)
  refine ga_if_eq (tgt := 170) d_R_merge_165 (by decide) (fun h6 => ?_) (fun h6 => ?_)
  · refine ga_aload_n (q := 0) d_R_merge_170 rfl rfl ?_
    refine ga_iconst (v := (0 : Int32)) d_R_merge_171 (by decide) ?_
    refine ga_putB (C := "LevelStoreModel") (T := T_R) (N := 39) (k := 36) (ci := 6) (ty0 := ty_R) (fun x h => List.mem_cons_of_mem _ (iw_R x h)) ty_R_ok nm_R rfl (by decide) (List.mem_cons_of_mem _ gw_797) (Or.inl rfl) (fun _ => ⟨rfl, rfl⟩) d_R_merge_172 (fun w7 => ?_)
    refine ga_iconst (v := (0 : Int32)) d_R_merge_175 (by decide) ?_
    refine ga_istore (lv2 := [(4, .int (0 : Int32)), (0, .ref p0), (1, .int p1)]) d_R_merge_176 (by decide) rfl ?_
    refine ga_iconst (v := (0 : Int32)) d_R_merge_178 (by decide) ?_
    refine ga_istore (lv2 := [(5, .int (0 : Int32)), (4, .int (0 : Int32)), (0, .ref p0), (1, .int p1)]) d_R_merge_179 (by decide) rfl ?_
    refine ga_sub (lv2 := [(0, .ref p0), (1, .int p1), (4, .int (0 : Int32)), (5, .int (0 : Int32))]) [2, 3, 1, 0] rfl ?_
    refine h_R_merge_181 hst F p0 p1 _ (fun w8 => ?_) F (0 : Int32) (0 : Int32) w7
    refine ga_aload_n (q := 0) d_R_merge_275 rfl rfl ?_
    refine ga_iload_n (q := 1) d_R_merge_276 rfl rfl ?_
    refine ga_invV (nA := 1) (ci := 6) (T := T_R) (N := 39) (av := [.int p1]) (a := p0) (st := []) (m_R_dropAll hst F p0 p1 w8) (Or.inl rfl) (gz_gV gw_959 gw_961 gw_35 gw_58 gw_962) rfl ⟨rfl, by decide +kernel⟩ rfl (by decide) (by decide) (Nat.le_of_ble_eq_true rfl) rfl d_R_merge_277 (ga_vV (fun w9 => ?_)) (fun _ _ => ga_thru rfl)
    refine ga_aload_n (q := 0) d_R_merge_280 rfl rfl ?_
    refine ga_getI (C := "LevelStoreModel") (T := T_R) (N := 39) (k := 10) (ci := 6) (fun x h => List.mem_cons_of_mem _ (iw_R x h)) rfl (by decide) (List.mem_cons_of_mem _ gw_771) d_R_merge_281 (fun v10 => ?_)
    refine ga_iconst (v := (1 : Int32)) d_R_merge_284 (by decide) ?_
    refine ga_isub d_R_merge_285 ?_
    refine ga_istore (lv2 := [(5, .int (v10 - (1 : Int32))), (0, .ref p0), (1, .int p1)]) d_R_merge_286 (by decide) rfl ?_
    refine ga_sub (lv2 := [(0, .ref p0), (1, .int p1), (5, .int (v10 - (1 : Int32)))]) [1, 2, 0] rfl ?_
    exact h_R_merge_288 hst F p0 p1 F (v10 - (1 : Int32)) w9
  · refine ga_iconst (v := (0 : Int32)) d_R_merge_168 (by decide) ?_
    exact ga_zret rfl rfl d_R_merge_169
noncomputable def f_R_pick_7 (F : Nat) (x0 : Nat) (x1 : Int32) : Nat → Int32 → Int32 → Int32 → ga_W → ga_O
  | 0, _, _, _, _ => none
  | n + 1, x2, x3, x4, w => ((ga_gi w 6 10 x0).bind fun v1 => (if v1 ≤ x4 then (ga_jn (fun (y4 : Int32) (w5 : ga_W) => ((ga_gr w5 6 37 x0).bind fun r7 => ((ga_sz w5 1 r7 y4 (1 : Int32)).bind fun w8 => (if ga_is w8 6 x0 = true then ga_c (f_R_high F x0 y4 w8) (ga_kI fun v10 w9 => (some (.inl (some (.int v10)), w9))) ga_up else none)))) (fun K6 => (if 0 ≤ x2 then (K6 x2 w) else (K6 x3 w)))) else ((ga_gr w 6 7 x0).bind fun r12 => ((ga_ai w 0 r12 x4).bind fun v13 => (if v13 = x1 then (ga_jn (fun (y16 : Int32) (w17 : ga_W) => (if 0 ≤ x2 then (f_R_pick_7 F x0 x1 n x2 y16 (x4 + (1 : Int32)) w17) else (if ga_is w17 6 x0 = true then ga_c (f_R_low F x0 x4 w17) (ga_kI fun v21 w20 => ((ga_gr w20 6 24 x0).bind fun r22 => ((ga_ai w20 0 r22 x1).bind fun v23 => (if v21 ≤ v23 then (f_R_pick_7 F x0 x1 n x2 y16 (x4 + (1 : Int32)) w20) else (f_R_pick_7 F x0 x1 n x4 y16 (x4 + (1 : Int32)) w20))))) ga_up else none))) (fun K18 => (if 0 ≤ x3 then (K18 x3 w) else (K18 x4 w)))) else (f_R_pick_7 F x0 x1 n x2 x3 (x4 + (1 : Int32)) w))))))
noncomputable def f_R_pick (F : Nat) (p0 : Nat) (p1 : Int32) (w : ga_W) : ga_O :=
  (f_R_pick_7 F p0 p1 F (-1 : Int32) (-1 : Int32) (0 : Int32) w)
set_option maxHeartbeats 4000000 in
set_option maxRecDepth 100000 in
theorem h_R_pick_7 (hst : l.stackTraces = false) (F : Nat) (x0 : Nat) (x1 : Int32) : ∀ (n : Nat) (x2 : Int32) (x3 : Int32) (x4 : Int32) (w : ga_W), ga_J l S0 D gz_cl (gz_tA cT) base b gz_xn p e R s m args below meth c 5 ws_R_pick y_R_pick.cls c_R_pick (some .int) [] y_R_pick.name 2 44 true ad0 w0 (ga_MQ gz_xn D gz_cl (gz_tA cT) base b s args below ad0 w0) 7 [(0, .ref x0), (1, .int x1), (2, .int x2), (3, .int x3), (4, .int x4)] [] w (f_R_pick_7 F x0 x1 n x2 x3 x4 w) := by
  intro n
  induction n with
  | zero => intro x2 x3 x4 w; exact ga_no
  | succ n ih =>
    intro x2 x3 x4 w
    rw [f_R_pick_7]
    refine ga_iload (q := 4) d_R_pick_7 rfl ?_
    refine ga_aload_n (q := 0) d_R_pick_9 rfl rfl ?_
    refine ga_getI (C := "LevelStoreModel") (T := T_R) (N := 39) (k := 10) (ci := 6) (fun x h => List.mem_cons_of_mem _ (iw_R x h)) rfl (by decide) (List.mem_cons_of_mem _ gw_771) d_R_pick_10 (fun v1 => ?_)
    refine ga_icmp_ge (tgt := 65) d_R_pick_13 (by decide) (fun h2 => ?_) (fun h2 => ?_)
    · refine ga_iload_n (q := 2) d_R_pick_65 rfl rfl ?_
      refine ga_join (fun (K6 : Int32 → ga_W → ga_O) => ∀ (y4 : Int32) (w5 : ga_W), ga_J l S0 D gz_cl (gz_tA cT) base b gz_xn p e R s m args below meth c 5 ws_R_pick y_R_pick.cls c_R_pick (some .int) [] y_R_pick.name 2 44 true ad0 w0 (ga_MQ gz_xn D gz_cl (gz_tA cT) base b s args below ad0 w0) 71 [(0, .ref x0), (2, .int y4)] [] w5 (K6 y4 w5)) (fun y4 w5 => ?_) (fun K6 hK6 => ?_)
      · refine ga_aload_n (q := 0) d_R_pick_71 rfl rfl ?_
        refine ga_getR (C := "LevelStoreModel") (T := T_R) (N := 39) (k := 37) (ci := 6) (fun x h => List.mem_cons_of_mem _ (iw_R x h)) rfl (by decide) (List.mem_cons_of_mem _ gw_798) d_R_pick_72 (fun r7 => ?_)
        refine ga_iload_n (q := 1) d_R_pick_75 rfl rfl ?_
        refine ga_iconst (v := (1 : Int32)) d_R_pick_76 (by decide) ?_
        refine ga_stZ (t := 1) rfl d_R_pick_77 (fun w8 => ?_)
        refine ga_aload_n (q := 0) d_R_pick_78 rfl rfl ?_
        refine ga_iload_n (q := 1) d_R_pick_79 rfl rfl ?_
        refine ga_invV (nA := 1) (ci := 6) (T := T_R) (N := 39) (av := [.int y4]) (a := x0) (st := []) (m_R_high hst F x0 y4 w8) (Or.inl rfl) (gz_gV gw_955 gw_957 gw_34 gw_58 gw_958) rfl ⟨rfl, by decide +kernel⟩ rfl (by decide) (by decide) (Nat.le_of_ble_eq_true rfl) rfl d_R_pick_80 (ga_vI (fun v10 w9 => ?_)) (fun _ _ => ga_thru rfl)
        exact ga_iret rfl d_R_pick_83
      · refine ga_if_ge (tgt := 71) d_R_pick_66 (by decide) (fun h11 => ?_) (fun h11 => ?_)
        · refine ga_sub (lv2 := [(0, .ref x0), (2, .int x2)]) [0, 2] rfl ?_
          exact hK6 _ _
        · refine ga_iload_n (q := 3) d_R_pick_69 rfl rfl ?_
          refine ga_istore_n (lv2 := [(2, .int x3), (0, .ref x0), (1, .int x1), (3, .int x3), (4, .int x4)]) d_R_pick_70 rfl (by decide) rfl ?_
          refine ga_sub (lv2 := [(0, .ref x0), (2, .int x3)]) [1, 0] rfl ?_
          exact hK6 _ _
    · refine ga_aload_n (q := 0) d_R_pick_16 rfl rfl ?_
      refine ga_getR (C := "LevelStoreModel") (T := T_R) (N := 39) (k := 7) (ci := 6) (fun x h => List.mem_cons_of_mem _ (iw_R x h)) rfl (by decide) (List.mem_cons_of_mem _ gw_768) d_R_pick_17 (fun r12 => ?_)
      refine ga_iload (q := 4) d_R_pick_20 rfl ?_
      refine ga_ldI (t := 0) rfl d_R_pick_22 (fun v13 => ?_)
      refine ga_iload_n (q := 1) d_R_pick_23 rfl rfl ?_
      refine ga_icmp_eq (tgt := 30) d_R_pick_24 (by decide) (fun h14 => ?_) (fun h14 => ?_)
      · refine ga_iload_n (q := 3) d_R_pick_30 rfl rfl ?_
        refine ga_join (fun (K18 : Int32 → ga_W → ga_O) => ∀ (y16 : Int32) (w17 : ga_W), ga_J l S0 D gz_cl (gz_tA cT) base b gz_xn p e R s m args below meth c 5 ws_R_pick y_R_pick.cls c_R_pick (some .int) [] y_R_pick.name 2 44 true ad0 w0 (ga_MQ gz_xn D gz_cl (gz_tA cT) base b s args below ad0 w0) 37 [(0, .ref x0), (1, .int x1), (2, .int x2), (3, .int y16), (4, .int x4)] [] w17 (K18 y16 w17)) (fun y16 w17 => ?_) (fun K18 hK18 => ?_)
        · refine ga_iload_n (q := 2) d_R_pick_37 rfl rfl ?_
          refine ga_if_ge (tgt := 59) d_R_pick_38 (by decide) (fun h19 => ?_) (fun h19 => ?_)
          · refine ga_iinc (q := 4) (v := (x4 + (1 : Int32))) (lv2 := [(4, .int (x4 + (1 : Int32))), (0, .ref x0), (1, .int x1), (2, .int x2), (3, .int y16)]) d_R_pick_59 rfl rfl (by decide) rfl ?_
            refine ga_goto (tgt := 7) d_R_pick_62 (by decide) ?_
            refine ga_sub (lv2 := [(0, .ref x0), (1, .int x1), (2, .int x2), (3, .int y16), (4, .int (x4 + (1 : Int32)))]) [1, 2, 3, 4, 0] rfl ?_
            exact ih _ _ _ _
          · refine ga_aload_n (q := 0) d_R_pick_41 rfl rfl ?_
            refine ga_iload (q := 4) d_R_pick_42 rfl ?_
            refine ga_invV (nA := 1) (ci := 6) (T := T_R) (N := 39) (av := [.int x4]) (a := x0) (st := []) (m_R_low hst F x0 x4 w17) (Or.inl rfl) (gz_gV gw_951 gw_953 gw_33 gw_58 gw_954) rfl ⟨rfl, by decide +kernel⟩ rfl (by decide) (by decide) (Nat.le_of_ble_eq_true rfl) rfl d_R_pick_44 (ga_vI (fun v21 w20 => ?_)) (fun _ _ => ga_thru rfl)
            refine ga_aload_n (q := 0) d_R_pick_47 rfl rfl ?_
            refine ga_getR (C := "LevelStoreModel") (T := T_R) (N := 39) (k := 24) (ci := 6) (fun x h => List.mem_cons_of_mem _ (iw_R x h)) rfl (by decide) (List.mem_cons_of_mem _ gw_785) d_R_pick_48 (fun r22 => ?_)
            refine ga_iload_n (q := 1) d_R_pick_51 rfl rfl ?_
            refine ga_ldI (t := 0) rfl d_R_pick_52 (fun v23 => ?_)
            refine ga_icmp_le (tgt := 59) d_R_pick_53 (by decide) (fun h24 => ?_) (fun h24 => ?_)
            · refine ga_iinc (q := 4) (v := (x4 + (1 : Int32))) (lv2 := [(4, .int (x4 + (1 : Int32))), (0, .ref x0), (1, .int x1), (2, .int x2), (3, .int y16)]) d_R_pick_59 rfl rfl (by decide) rfl ?_
              refine ga_goto (tgt := 7) d_R_pick_62 (by decide) ?_
              refine ga_sub (lv2 := [(0, .ref x0), (1, .int x1), (2, .int x2), (3, .int y16), (4, .int (x4 + (1 : Int32)))]) [1, 2, 3, 4, 0] rfl ?_
              exact ih _ _ _ _
            · refine ga_iload (q := 4) d_R_pick_56 rfl ?_
              refine ga_istore_n (lv2 := [(2, .int x4), (0, .ref x0), (1, .int x1), (3, .int y16), (4, .int x4)]) d_R_pick_58 rfl (by decide) rfl ?_
              refine ga_iinc (q := 4) (v := (x4 + (1 : Int32))) (lv2 := [(4, .int (x4 + (1 : Int32))), (2, .int x4), (0, .ref x0), (1, .int x1), (3, .int y16)]) d_R_pick_59 rfl rfl (by decide) rfl ?_
              refine ga_goto (tgt := 7) d_R_pick_62 (by decide) ?_
              refine ga_sub (lv2 := [(0, .ref x0), (1, .int x1), (2, .int x4), (3, .int y16), (4, .int (x4 + (1 : Int32)))]) [2, 3, 1, 4, 0] rfl ?_
              exact ih _ _ _ _
        · refine ga_if_ge (tgt := 37) d_R_pick_31 (by decide) (fun h25 => ?_) (fun h25 => ?_)
          · exact hK18 _ _
          · refine ga_iload (q := 4) d_R_pick_34 rfl ?_
            refine ga_istore_n (lv2 := [(3, .int x4), (0, .ref x0), (1, .int x1), (2, .int x2), (4, .int x4)]) d_R_pick_36 rfl (by decide) rfl ?_
            refine ga_sub (lv2 := [(0, .ref x0), (1, .int x1), (2, .int x2), (3, .int x4), (4, .int x4)]) [1, 2, 3, 0, 4] rfl ?_
            exact hK18 _ _
      · refine ga_goto (tgt := 59) d_R_pick_27 (by decide) ?_
        refine ga_iinc (q := 4) (v := (x4 + (1 : Int32))) (lv2 := [(4, .int (x4 + (1 : Int32))), (0, .ref x0), (1, .int x1), (2, .int x2), (3, .int x3)]) d_R_pick_59 rfl rfl (by decide) rfl ?_
        refine ga_goto (tgt := 7) d_R_pick_62 (by decide) ?_
        refine ga_sub (lv2 := [(0, .ref x0), (1, .int x1), (2, .int x2), (3, .int x3), (4, .int (x4 + (1 : Int32)))]) [1, 2, 3, 4, 0] rfl ?_
        exact ih _ _ _ _
set_option maxHeartbeats 4000000 in
set_option maxRecDepth 100000 in
theorem m_R_pick (hst : l.stackTraces = false) (F : Nat) (p0 : Nat) (p1 : Int32) (w : ga_W) : ga_M l S0 D gz_cl (gz_tA cT) base b gz_xn y_R_pick ws_R_pick 2 44 true [.ref p0, .int p1] w (f_R_pick F p0 p1 w) := by
  refine ga_enter (cc := c_R_pick) (maxL := 5) (ret := (some .int)) hst (by decide) rfl (Nat.le_of_ble_eq_true rfl) ?_
  intro p e R s m args below meth c ad0
  refine ga_sub (lv2 := [(0, .ref p0), (1, .int p1)]) [0, 1] rfl ?_
  unfold f_R_pick
  refine ga_iconst (v := (-1 : Int32)) d_R_pick_0 (by decide) ?_
  refine ga_istore_n (lv2 := [(2, .int (-1 : Int32)), (0, .ref p0), (1, .int p1)]) d_R_pick_1 rfl (by decide) rfl ?_
  refine ga_iconst (v := (-1 : Int32)) d_R_pick_2 (by decide) ?_
  refine ga_istore_n (lv2 := [(3, .int (-1 : Int32)), (2, .int (-1 : Int32)), (0, .ref p0), (1, .int p1)]) d_R_pick_3 rfl (by decide) rfl ?_
  refine ga_iconst (v := (0 : Int32)) d_R_pick_4 (by decide) ?_
  refine ga_istore (lv2 := [(4, .int (0 : Int32)), (3, .int (-1 : Int32)), (2, .int (-1 : Int32)), (0, .ref p0), (1, .int p1)]) d_R_pick_5 (by decide) rfl ?_
  refine ga_sub (lv2 := [(0, .ref p0), (1, .int p1), (2, .int (-1 : Int32)), (3, .int (-1 : Int32)), (4, .int (0 : Int32))]) [3, 4, 2, 1, 0] rfl ?_
  exact h_R_pick_7 hst F p0 p1 F (-1 : Int32) (-1 : Int32) (0 : Int32) w
end GM13
