/-! WALKS: R_deeper, R_dropAll, R_takeOut, R_place -/
section GM12
variable {l : Launch} {S0 : State} {D : va_G} {cT : Nat → ClassId} {base b : Nat} {p : Program} {e : Env} {R : Room} {s : State} {m : MethodId} {args : Array Value} {below : List Frame} {meth : Method} {c : Code} {ad0 : Nat → Nat} {w0 : ga_W}
noncomputable def f_R_deeper_2 (F : Nat) (x0 : Nat) (x1 : Int32) (x2 : Int32) : Nat → Int32 → ga_W → ga_O
  | 0, _, _ => none
  | n + 1, x3, w => ((ga_gi w 6 10 x0).bind fun v1 => (if v1 ≤ x3 then (some (.inl (some (.int (0 : Int32))), w)) else ((ga_gr w 6 37 x0).bind fun r3 => ((ga_az w 1 r3 x3).bind fun v4 => (if v4 = 0 then ((ga_gr w 6 7 x0).bind fun r6 => ((ga_ai w 0 r6 x3).bind fun v7 => (if v7 ≤ x2 then (f_R_deeper_2 F x0 x1 x2 n (x3 + (1 : Int32)) w) else (if ga_is w 6 x0 = true then ga_c (f_R_low F x0 x3 w) (ga_kI fun v10 w9 => (if x1 < v10 then (f_R_deeper_2 F x0 x1 x2 n (x3 + (1 : Int32)) w9) else (if ga_is w9 6 x0 = true then ga_c (f_R_high F x0 x3 w9) (ga_kI fun v13 w12 => (if v13 < x1 then (f_R_deeper_2 F x0 x1 x2 n (x3 + (1 : Int32)) w12) else (some (.inl (some (.int (1 : Int32))), w12)))) ga_up else none))) ga_up else none)))) else (f_R_deeper_2 F x0 x1 x2 n (x3 + (1 : Int32)) w))))))
noncomputable def f_R_deeper (F : Nat) (p0 : Nat) (p1 : Int32) (p2 : Int32) (w : ga_W) : ga_O :=
  (f_R_deeper_2 F p0 p1 p2 F (0 : Int32) w)
set_option maxHeartbeats 4000000 in
set_option maxRecDepth 100000 in
theorem h_R_deeper_2 (hst : l.stackTraces = false) (F : Nat) (x0 : Nat) (x1 : Int32) (x2 : Int32) : ∀ (n : Nat) (x3 : Int32) (w : ga_W), ga_J l S0 D gz_cl (gz_tA cT) base b gz_xn p e R s m args below meth c 4 ws_R_deeper y_R_deeper.cls c_R_deeper (some .boolean) [] y_R_deeper.name 2 44 true ad0 w0 (ga_MQ gz_xn D gz_cl (gz_tA cT) base b s args below ad0 w0) 2 [(0, .ref x0), (1, .int x1), (2, .int x2), (3, .int x3)] [] w (f_R_deeper_2 F x0 x1 x2 n x3 w) := by
  intro n
  induction n with
  | zero => intro x3 w; exact ga_no
  | succ n ih =>
    intro x3 w
    rw [f_R_deeper_2]
    refine ga_iload_n (q := 3) d_R_deeper_2 rfl rfl ?_
    refine ga_aload_n (q := 0) d_R_deeper_3 rfl rfl ?_
    refine ga_getI (C := "LevelStoreModel") (T := T_R) (N := 39) (k := 10) (ci := 6) (fun x h => List.mem_cons_of_mem _ (iw_R x h)) rfl (by decide) (List.mem_cons_of_mem _ gw_771) d_R_deeper_4 (fun v1 => ?_)
    refine ga_icmp_ge (tgt := 55) d_R_deeper_7 (by decide) (fun h2 => ?_) (fun h2 => ?_)
    · refine ga_iconst (v := (0 : Int32)) d_R_deeper_55 (by decide) ?_
      exact ga_zret rfl rfl d_R_deeper_56
    · refine ga_aload_n (q := 0) d_R_deeper_10 rfl rfl ?_
      refine ga_getR (C := "LevelStoreModel") (T := T_R) (N := 39) (k := 37) (ci := 6) (fun x h => List.mem_cons_of_mem _ (iw_R x h)) rfl (by decide) (List.mem_cons_of_mem _ gw_798) d_R_deeper_11 (fun r3 => ?_)
      refine ga_iload_n (q := 3) d_R_deeper_14 rfl rfl ?_
      refine ga_ldZ (t := 1) rfl d_R_deeper_15 (fun v4 => ?_)
      refine ga_if_ne (tgt := 49) d_R_deeper_16 (by decide) (fun h5 => ?_) (fun h5 => ?_)
      · refine ga_aload_n (q := 0) d_R_deeper_19 rfl rfl ?_
        refine ga_getR (C := "LevelStoreModel") (T := T_R) (N := 39) (k := 7) (ci := 6) (fun x h => List.mem_cons_of_mem _ (iw_R x h)) rfl (by decide) (List.mem_cons_of_mem _ gw_768) d_R_deeper_20 (fun r6 => ?_)
        refine ga_iload_n (q := 3) d_R_deeper_23 rfl rfl ?_
        refine ga_ldI (t := 0) rfl d_R_deeper_24 (fun v7 => ?_)
        refine ga_iload_n (q := 2) d_R_deeper_25 rfl rfl ?_
        refine ga_icmp_le (tgt := 49) d_R_deeper_26 (by decide) (fun h8 => ?_) (fun h8 => ?_)
        · refine ga_iinc (q := 3) (v := (x3 + (1 : Int32))) (lv2 := [(3, .int (x3 + (1 : Int32))), (0, .ref x0), (1, .int x1), (2, .int x2)]) d_R_deeper_49 rfl rfl (by decide) rfl ?_
          refine ga_goto (tgt := 2) d_R_deeper_52 (by decide) ?_
          refine ga_sub (lv2 := [(0, .ref x0), (1, .int x1), (2, .int x2), (3, .int (x3 + (1 : Int32)))]) [1, 2, 3, 0] rfl ?_
          exact ih _ _
        · refine ga_aload_n (q := 0) d_R_deeper_29 rfl rfl ?_
          refine ga_iload_n (q := 3) d_R_deeper_30 rfl rfl ?_
          refine ga_invV (nA := 1) (ci := 6) (T := T_R) (N := 39) (av := [.int x3]) (a := x0) (st := []) (m_R_low hst F x0 x3 w) (Or.inl rfl) (gz_gV gw_951 gw_953 gw_33 gw_58 gw_954) rfl ⟨rfl, by decide +kernel⟩ rfl (by decide) (by decide) (Nat.le_of_ble_eq_true rfl) rfl d_R_deeper_31 (ga_vI (fun v10 w9 => ?_)) (fun _ _ => ga_thru rfl)
          refine ga_iload_n (q := 1) d_R_deeper_34 rfl rfl ?_
          refine ga_icmp_gt (tgt := 49) d_R_deeper_35 (by decide) (fun h11 => ?_) (fun h11 => ?_)
          · refine ga_iinc (q := 3) (v := (x3 + (1 : Int32))) (lv2 := [(3, .int (x3 + (1 : Int32))), (0, .ref x0), (1, .int x1), (2, .int x2)]) d_R_deeper_49 rfl rfl (by decide) rfl ?_
            refine ga_goto (tgt := 2) d_R_deeper_52 (by decide) ?_
            refine ga_sub (lv2 := [(0, .ref x0), (1, .int x1), (2, .int x2), (3, .int (x3 + (1 : Int32)))]) [1, 2, 3, 0] rfl ?_
            exact ih _ _
          · refine ga_aload_n (q := 0) d_R_deeper_38 rfl rfl ?_
            refine ga_iload_n (q := 3) d_R_deeper_39 rfl rfl ?_
            refine ga_invV (nA := 1) (ci := 6) (T := T_R) (N := 39) (av := [.int x3]) (a := x0) (st := []) (m_R_high hst F x0 x3 w9) (Or.inl rfl) (gz_gV gw_955 gw_957 gw_34 gw_58 gw_958) rfl ⟨rfl, by decide +kernel⟩ rfl (by decide) (by decide) (Nat.le_of_ble_eq_true rfl) rfl d_R_deeper_40 (ga_vI (fun v13 w12 => ?_)) (fun _ _ => ga_thru rfl)
            refine ga_iload_n (q := 1) d_R_deeper_43 rfl rfl ?_
            refine ga_icmp_lt (tgt := 49) d_R_deeper_44 (by decide) (fun h14 => ?_) (fun h14 => ?_)
            · refine ga_iinc (q := 3) (v := (x3 + (1 : Int32))) (lv2 := [(3, .int (x3 + (1 : Int32))), (0, .ref x0), (1, .int x1), (2, .int x2)]) d_R_deeper_49 rfl rfl (by decide) rfl ?_
              refine ga_goto (tgt := 2) d_R_deeper_52 (by decide) ?_
              refine ga_sub (lv2 := [(0, .ref x0), (1, .int x1), (2, .int x2), (3, .int (x3 + (1 : Int32)))]) [1, 2, 3, 0] rfl ?_
              exact ih _ _
            · refine ga_iconst (v := (1 : Int32)) d_R_deeper_47 (by decide) ?_
              exact ga_zret rfl rfl d_R_deeper_48
      · refine ga_iinc (q := 3) (v := (x3 + (1 : Int32))) (lv2 := [(3, .int (x3 + (1 : Int32))), (0, .ref x0), (1, .int x1), (2, .int x2)]) d_R_deeper_49 rfl rfl (by decide) rfl ?_
        refine ga_goto (tgt := 2) d_R_deeper_52 (by decide) ?_
        refine ga_sub (lv2 := [(0, .ref x0), (1, .int x1), (2, .int x2), (3, .int (x3 + (1 : Int32)))]) [1, 2, 3, 0] rfl ?_
        exact ih _ _
set_option maxHeartbeats 4000000 in
set_option maxRecDepth 100000 in
theorem m_R_deeper (hst : l.stackTraces = false) (F : Nat) (p0 : Nat) (p1 : Int32) (p2 : Int32) (w : ga_W) : ga_M l S0 D gz_cl (gz_tA cT) base b gz_xn y_R_deeper ws_R_deeper 2 44 true [.ref p0, .int p1, .int p2] w (f_R_deeper F p0 p1 p2 w) := by
  refine ga_enter (cc := c_R_deeper) (maxL := 4) (ret := (some .boolean)) hst (by decide) rfl (Nat.le_of_ble_eq_true rfl) ?_
  intro p e R s m args below meth c ad0
  refine ga_sub (lv2 := [(0, .ref p0), (1, .int p1), (2, .int p2)]) [0, 1, 2] rfl ?_
  unfold f_R_deeper
  refine ga_iconst (v := (0 : Int32)) d_R_deeper_0 (by decide) ?_
  refine ga_istore_n (lv2 := [(3, .int (0 : Int32)), (0, .ref p0), (1, .int p1), (2, .int p2)]) d_R_deeper_1 rfl (by decide) rfl ?_
  refine ga_sub (lv2 := [(0, .ref p0), (1, .int p1), (2, .int p2), (3, .int (0 : Int32))]) [1, 2, 3, 0] rfl ?_
  exact h_R_deeper_2 hst F p0 p1 p2 F (0 : Int32) w
noncomputable def f_R_dropAll_16 (F : Nat) (x0 : Nat) (x1 : Int32) (x2 : Int32) : Nat → Int32 → Int32 → Int32 → Int32 → ga_W → ga_O
  | 0, _, _, _, _, _ => none
  | n + 1, x3, x4, x5, x6, w => ((ga_gi w 6 36 x0).bind fun v1 => (if v1 ≤ x6 then ((ga_put w 6 36 x0 (.int x3)).bind fun w3 => (some (.inl none, w3))) else ((ga_gr w 6 32 x0).bind fun r4 => ((ga_ai w 0 r4 x6).bind fun v5 => (ga_jn (fun (y7 : Int32) (w8 : ga_W) => ((ga_gr w8 6 32 x0).bind fun r10 => ((ga_ai w8 0 r10 x6).bind fun v11 => (ga_jn (fun (y34 : Int32) (w35 : ga_W) => ((ga_gr w35 6 33 x0).bind fun r37 => ((ga_ai w35 0 r37 x6).bind fun v38 => (ga_jn (fun (y42 : Int32) (w43 : ga_W) => (if y34 = 0 then (if ga_is w43 6 x0 = true then ga_c (f_R_copyWork F x0 x3 x6 w43) (ga_kV fun w46 => (f_R_dropAll_16 F x0 x1 x2 n (x3 + (1 : Int32)) y42 v11 (x6 + (1 : Int32)) w46)) ga_up else none) else ((ga_gi w43 6 31 x0).bind fun v47 => ((ga_put w43 6 31 x0 (.int (v47 + (1 : Int32)))).bind fun w48 => (f_R_dropAll_16 F x0 x1 x2 n x3 y42 v11 (x6 + (1 : Int32)) w48))))) (fun K44 => (if x2 < v38 then (K44 y7 w35) else ((ga_gr w35 6 33 x0).bind fun r50 => ((ga_ai w35 0 r50 x6).bind fun v51 => (K44 v51 w35))))))))) (fun K36 => (ga_jn (fun  (w62 : ga_W) => (K36 (1 : Int32) w62)) (fun K63 => (if 0 ≤ y7 then (K63 w8) else ((ga_gr w8 6 35 x0).bind fun r65 => ((ga_az w8 1 r65 x6).bind fun v66 => (if v66 = 0 then (K36 (0 : Int32) w8) else ((ga_gr w8 6 33 x0).bind fun r68 => ((ga_ai w8 0 r68 x6).bind fun v69 => (if x2 < v69 then (K36 (0 : Int32) w8) else (if ga_is w8 6 x0 = true then ga_c (f_R_deeper F x0 v11 x1 w8) (ga_kI fun v72 w71 => (if v72 = 0 then (K63 w71) else (K36 (0 : Int32) w71))) ga_up else none))))))))))))))) (fun K9 => (if v5 = x5 then (K9 x4 w) else (K9 (-1 : Int32) w))))))))
noncomputable def f_R_dropAll (F : Nat) (p0 : Nat) (p1 : Int32) (w : ga_W) : ga_O :=
  (if ga_is w 6 p0 = true then ga_c (f_R_oldest F p0 w) (ga_kI fun v2 w1 => (f_R_dropAll_16 F p0 p1 v2 F (0 : Int32) (-1 : Int32) (-1 : Int32) (0 : Int32) w1)) ga_up else none)
set_option maxHeartbeats 4000000 in
set_option maxRecDepth 100000 in
theorem h_R_dropAll_16 (hst : l.stackTraces = false) (F : Nat) (x0 : Nat) (x1 : Int32) (x2 : Int32) : ∀ (n : Nat) (x3 : Int32) (x4 : Int32) (x5 : Int32) (x6 : Int32) (w : ga_W), ga_J l S0 D gz_cl (gz_tA cT) base b gz_xn p e R s m args below meth c 8 ws_R_dropAll y_R_dropAll.cls c_R_dropAll none [] y_R_dropAll.name 3 67 true ad0 w0 (ga_MQ gz_xn D gz_cl (gz_tA cT) base b s args below ad0 w0) 16 [(0, .ref x0), (1, .int x1), (2, .int x2), (3, .int x3), (4, .int x4), (5, .int x5), (6, .int x6)] [] w (f_R_dropAll_16 F x0 x1 x2 n x3 x4 x5 x6 w) := by
  intro n
  induction n with
  | zero => intro x3 x4 x5 x6 w; exact ga_no
  | succ n ih =>
    intro x3 x4 x5 x6 w
    rw [f_R_dropAll_16]
    refine ga_iload (q := 6) d_R_dropAll_16 rfl ?_
    refine ga_aload_n (q := 0) d_R_dropAll_18 rfl rfl ?_
    refine ga_getI (C := "LevelStoreModel") (T := T_R) (N := 39) (k := 36) (ci := 6) (fun x h => List.mem_cons_of_mem _ (iw_R x h)) rfl (by decide) (List.mem_cons_of_mem _ gw_797) d_R_dropAll_19 (fun v1 => ?_)
    refine ga_icmp_ge (tgt := 146) d_R_dropAll_22 (by decide) (fun h2 => ?_) (fun h2 => ?_)
    · refine ga_aload_n (q := 0) d_R_dropAll_146 rfl rfl ?_
      refine ga_iload_n (q := 3) d_R_dropAll_147 rfl rfl ?_
      refine ga_putB (C := "LevelStoreModel") (T := T_R) (N := 39) (k := 36) (ci := 6) (ty0 := ty_R) (fun x h => List.mem_cons_of_mem _ (iw_R x h)) ty_R_ok nm_R rfl (by decide) (List.mem_cons_of_mem _ gw_797) (Or.inl rfl) (fun _ => ⟨rfl, rfl⟩) d_R_dropAll_148 (fun w3 => ?_)
      exact ga_vret rfl d_R_dropAll_151
    · refine ga_aload_n (q := 0) d_R_dropAll_25 rfl rfl ?_
      refine ga_getR (C := "LevelStoreModel") (T := T_R) (N := 39) (k := 32) (ci := 6) (fun x h => List.mem_cons_of_mem _ (iw_R x h)) rfl (by decide) (List.mem_cons_of_mem _ gw_793) d_R_dropAll_26 (fun r4 => ?_)
      refine ga_iload (q := 6) d_R_dropAll_29 rfl ?_
      refine ga_ldI (t := 0) rfl d_R_dropAll_31 (fun v5 => ?_)
      refine ga_iload (q := 5) d_R_dropAll_32 rfl ?_
      refine ga_join (fun (K9 : Int32 → ga_W → ga_O) => ∀ (y7 : Int32) (w8 : ga_W), ga_J l S0 D gz_cl (gz_tA cT) base b gz_xn p e R s m args below meth c 8 ws_R_dropAll y_R_dropAll.cls c_R_dropAll none [] y_R_dropAll.name 3 67 true ad0 w0 (ga_MQ gz_xn D gz_cl (gz_tA cT) base b s args below ad0 w0) 40 [(0, .ref x0), (1, .int x1), (2, .int x2), (3, .int x3), (4, .int y7), (6, .int x6)] [] w8 (K9 y7 w8)) (fun y7 w8 => ?_) (fun K9 hK9 => ?_)
      · refine ga_aload_n (q := 0) d_R_dropAll_40 rfl rfl ?_
        refine ga_getR (C := "LevelStoreModel") (T := T_R) (N := 39) (k := 32) (ci := 6) (fun x h => List.mem_cons_of_mem _ (iw_R x h)) rfl (by decide) (List.mem_cons_of_mem _ gw_793) d_R_dropAll_41 (fun r10 => ?_)
        refine ga_iload (q := 5) d_R_dropAll_44 rfl ?_
        refine ga_ldI (t := 0) rfl d_R_dropAll_46 (fun v11 => ?_)
        refine ga_istore (lv2 := [(5, .int v11), (0, .ref x0), (1, .int x1), (2, .int x2), (3, .int x3), (4, .int y7), (6, .int x6)]) d_R_dropAll_47 (by decide) rfl ?_
        refine ga_iload (q := 5) d_R_dropAll_49 rfl ?_
        refine ga_join (fun (K36 : Int32 → ga_W → ga_O) => ∀ (y34 : Int32) (w35 : ga_W), ga_J l S0 D gz_cl (gz_tA cT) base b gz_xn p e R s m args below meth c 8 ws_R_dropAll y_R_dropAll.cls c_R_dropAll none [] y_R_dropAll.name 3 67 true ad0 w0 (ga_MQ gz_xn D gz_cl (gz_tA cT) base b s args below ad0 w0) 90 [(0, .ref x0), (1, .int x1), (2, .int x2), (3, .int x3), (4, .int y7), (5, .int v11), (6, .int x6)] [.int y34] w35 (K36 y34 w35)) (fun y34 w35 => ?_) (fun K36 hK36 => ?_)
        · refine ga_istore (lv2 := [(7, .int y34), (0, .ref x0), (1, .int x1), (2, .int x2), (3, .int x3), (4, .int y7), (5, .int v11), (6, .int x6)]) d_R_dropAll_90 (by decide) rfl ?_
          refine ga_aload_n (q := 1) d_R_dropAll_92 rfl rfl ?_
          refine ga_getR (C := "LevelStoreModel") (T := T_R) (N := 39) (k := 33) (ci := 6) (fun x h => List.mem_cons_of_mem _ (iw_R x h)) rfl (by decide) (List.mem_cons_of_mem _ gw_794) d_R_dropAll_93 (fun r37 => ?_)
          refine ga_iload (q := 7) d_R_dropAll_96 rfl ?_
          refine ga_ldI (t := 0) rfl d_R_dropAll_98 (fun v38 => ?_)
          refine ga_iload_n (q := 3) d_R_dropAll_99 rfl rfl ?_
          refine ga_join (fun (K44 : Int32 → ga_W → ga_O) => ∀ (y42 : Int32) (w43 : ga_W), ga_J l S0 D gz_cl (gz_tA cT) base b gz_xn p e R s m args below meth c 8 ws_R_dropAll y_R_dropAll.cls c_R_dropAll none [] y_R_dropAll.name 3 67 true ad0 w0 (ga_MQ gz_xn D gz_cl (gz_tA cT) base b s args below ad0 w0) 112 [(0, .ref x0), (1, .int x1), (2, .int x2), (3, .int x3), (4, .int y42), (5, .int v11), (6, .int x6), (7, .int y34)] [] w43 (K44 y42 w43)) (fun y42 w43 => ?_) (fun K44 hK44 => ?_)
          · refine ga_iload (q := 7) d_R_dropAll_112 rfl ?_
            refine ga_if_eq (tgt := 130) d_R_dropAll_114 (by decide) (fun h45 => ?_) (fun h45 => ?_)
            · refine ga_aload_n (q := 0) d_R_dropAll_130 rfl rfl ?_
              refine ga_iload_n (q := 3) d_R_dropAll_131 rfl rfl ?_
              refine ga_iload (q := 6) d_R_dropAll_132 rfl ?_
              refine ga_invV (nA := 2) (ci := 6) (T := T_R) (N := 39) (av := [.int x3, .int x6]) (a := x0) (st := []) (m_R_copyWork hst F x0 x3 x6 w43) (Or.inl rfl) (gz_gV gw_923 gw_925 gw_26 gw_58 gw_926) rfl ⟨rfl, by decide +kernel⟩ rfl (by decide) (by decide) (Nat.le_of_ble_eq_true rfl) rfl d_R_dropAll_134 (ga_vV (fun w46 => ?_)) (fun _ _ => ga_thru rfl)
              refine ga_iinc (q := 3) (v := (x3 + (1 : Int32))) (lv2 := [(3, .int (x3 + (1 : Int32))), (0, .ref x0), (1, .int x1), (2, .int x2), (4, .int y42), (5, .int v11), (6, .int x6), (7, .int y34)]) d_R_dropAll_137 rfl rfl (by decide) rfl ?_
              refine ga_iinc (q := 6) (v := (x6 + (1 : Int32))) (lv2 := [(6, .int (x6 + (1 : Int32))), (3, .int (x3 + (1 : Int32))), (0, .ref x0), (1, .int x1), (2, .int x2), (4, .int y42), (5, .int v11), (7, .int y34)]) d_R_dropAll_140 rfl rfl (by decide) rfl ?_
              refine ga_goto (tgt := 16) d_R_dropAll_143 (by decide) ?_
              refine ga_sub (lv2 := [(0, .ref x0), (1, .int x1), (2, .int x2), (3, .int (x3 + (1 : Int32))), (4, .int y42), (5, .int v11), (6, .int (x6 + (1 : Int32)))]) [2, 3, 4, 1, 5, 6, 0] rfl ?_
              exact ih _ _ _ _ _
            · refine ga_aload_n (q := 0) d_R_dropAll_117 rfl rfl ?_
              refine ga_dup d_R_dropAll_118 rfl ?_
              refine ga_getI (C := "LevelStoreModel") (T := T_R) (N := 39) (k := 31) (ci := 6) (fun x h => List.mem_cons_of_mem _ (iw_R x h)) rfl (by decide) (List.mem_cons_of_mem _ gw_792) d_R_dropAll_119 (fun v47 => ?_)
              refine ga_iconst (v := (1 : Int32)) d_R_dropAll_122 (by decide) ?_
              refine ga_iadd d_R_dropAll_123 ?_
              refine ga_putB (C := "LevelStoreModel") (T := T_R) (N := 39) (k := 31) (ci := 6) (ty0 := ty_R) (fun x h => List.mem_cons_of_mem _ (iw_R x h)) ty_R_ok nm_R rfl (by decide) (List.mem_cons_of_mem _ gw_792) (Or.inl rfl) (fun _ => ⟨rfl, rfl⟩) d_R_dropAll_124 (fun w48 => ?_)
              refine ga_goto (tgt := 140) d_R_dropAll_127 (by decide) ?_
              refine ga_iinc (q := 6) (v := (x6 + (1 : Int32))) (lv2 := [(6, .int (x6 + (1 : Int32))), (0, .ref x0), (1, .int x1), (2, .int x2), (3, .int x3), (4, .int y42), (5, .int v11), (7, .int y34)]) d_R_dropAll_140 rfl rfl (by decide) rfl ?_
              refine ga_goto (tgt := 16) d_R_dropAll_143 (by decide) ?_
              refine ga_sub (lv2 := [(0, .ref x0), (1, .int x1), (2, .int x2), (3, .int x3), (4, .int y42), (5, .int v11), (6, .int (x6 + (1 : Int32)))]) [1, 2, 3, 4, 5, 6, 0] rfl ?_
              exact ih _ _ _ _ _
          · refine ga_icmp_gt (tgt := 112) d_R_dropAll_100 (by decide) (fun h49 => ?_) (fun h49 => ?_)
            · refine ga_sub (lv2 := [(0, .ref x0), (1, .int x1), (2, .int x2), (3, .int x3), (4, .int y7), (5, .int v11), (6, .int x6), (7, .int y34)]) [1, 2, 3, 4, 5, 6, 7, 0] rfl ?_
              exact hK44 _ _
            · refine ga_aload_n (q := 1) d_R_dropAll_103 rfl rfl ?_
              refine ga_getR (C := "LevelStoreModel") (T := T_R) (N := 39) (k := 33) (ci := 6) (fun x h => List.mem_cons_of_mem _ (iw_R x h)) rfl (by decide) (List.mem_cons_of_mem _ gw_794) d_R_dropAll_104 (fun r50 => ?_)
              refine ga_iload (q := 7) d_R_dropAll_107 rfl ?_
              refine ga_ldI (t := 0) rfl d_R_dropAll_109 (fun v51 => ?_)
              refine ga_istore (lv2 := [(4, .int v51), (7, .int y34), (0, .ref x0), (1, .int x1), (2, .int x2), (3, .int x3), (5, .int v11), (6, .int x6)]) d_R_dropAll_110 (by decide) rfl ?_
              refine ga_sub (lv2 := [(0, .ref x0), (1, .int x1), (2, .int x2), (3, .int x3), (4, .int v51), (5, .int v11), (6, .int x6), (7, .int y34)]) [2, 3, 4, 5, 0, 6, 7, 1] rfl ?_
              exact hK44 _ _
        · refine ga_join (fun (K63 : ga_W → ga_O) => ∀  (w62 : ga_W), ga_J l S0 D gz_cl (gz_tA cT) base b gz_xn p e R s m args below meth c 8 ws_R_dropAll y_R_dropAll.cls c_R_dropAll none [] y_R_dropAll.name 3 67 true ad0 w0 (ga_MQ gz_xn D gz_cl (gz_tA cT) base b s args below ad0 w0) 85 [(0, .ref x0), (1, .int x1), (2, .int x2), (3, .int x3), (4, .int y7), (5, .int v11), (6, .int x6)] [] w62 (K63 w62)) (fun w62 => ?_) (fun K63 hK63 => ?_)
          · refine ga_iconst (v := (1 : Int32)) d_R_dropAll_85 (by decide) ?_
            refine ga_goto (tgt := 90) d_R_dropAll_86 (by decide) ?_
            exact hK36 _ _
          · refine ga_if_ge (tgt := 85) d_R_dropAll_51 (by decide) (fun h64 => ?_) (fun h64 => ?_)
            · refine ga_sub (lv2 := [(0, .ref x0), (1, .int x1), (2, .int x2), (3, .int x3), (4, .int y7), (5, .int v11), (6, .int x6)]) [1, 2, 3, 4, 5, 0, 6] rfl ?_
              exact hK63 _
            · refine ga_aload_n (q := 1) d_R_dropAll_54 rfl rfl ?_
              refine ga_getR (C := "LevelStoreModel") (T := T_R) (N := 39) (k := 35) (ci := 6) (fun x h => List.mem_cons_of_mem _ (iw_R x h)) rfl (by decide) (List.mem_cons_of_mem _ gw_796) d_R_dropAll_55 (fun r65 => ?_)
              refine ga_iload (q := 6) d_R_dropAll_58 rfl ?_
              refine ga_ldZ (t := 1) rfl d_R_dropAll_60 (fun v66 => ?_)
              refine ga_if_eq (tgt := 89) d_R_dropAll_61 (by decide) (fun h67 => ?_) (fun h67 => ?_)
              · refine ga_iconst (v := (0 : Int32)) d_R_dropAll_89 (by decide) ?_
                refine ga_sub (lv2 := [(0, .ref x0), (1, .int x1), (2, .int x2), (3, .int x3), (4, .int y7), (5, .int v11), (6, .int x6)]) [1, 2, 3, 4, 5, 0, 6] rfl ?_
                exact hK36 _ _
              · refine ga_aload_n (q := 1) d_R_dropAll_64 rfl rfl ?_
                refine ga_getR (C := "LevelStoreModel") (T := T_R) (N := 39) (k := 33) (ci := 6) (fun x h => List.mem_cons_of_mem _ (iw_R x h)) rfl (by decide) (List.mem_cons_of_mem _ gw_794) d_R_dropAll_65 (fun r68 => ?_)
                refine ga_iload (q := 6) d_R_dropAll_68 rfl ?_
                refine ga_ldI (t := 0) rfl d_R_dropAll_70 (fun v69 => ?_)
                refine ga_iload_n (q := 3) d_R_dropAll_71 rfl rfl ?_
                refine ga_icmp_gt (tgt := 89) d_R_dropAll_72 (by decide) (fun h70 => ?_) (fun h70 => ?_)
                · refine ga_iconst (v := (0 : Int32)) d_R_dropAll_89 (by decide) ?_
                  refine ga_sub (lv2 := [(0, .ref x0), (1, .int x1), (2, .int x2), (3, .int x3), (4, .int y7), (5, .int v11), (6, .int x6)]) [1, 2, 3, 4, 5, 0, 6] rfl ?_
                  exact hK36 _ _
                · refine ga_aload_n (q := 1) d_R_dropAll_75 rfl rfl ?_
                  refine ga_iload (q := 0) d_R_dropAll_76 rfl ?_
                  refine ga_iload_n (q := 2) d_R_dropAll_78 rfl rfl ?_
                  refine ga_invV (nA := 2) (ci := 6) (T := T_R) (N := 39) (av := [.int v11, .int x1]) (a := x0) (st := []) (m_R_deeper hst F x0 v11 x1 w8) (Or.inl rfl) (gz_gV gw_967 gw_969 gw_37 gw_58 gw_970) rfl ⟨rfl, by decide +kernel⟩ rfl (by decide) (by decide) (Nat.le_of_ble_eq_true rfl) rfl d_R_dropAll_79 (ga_vI (fun v72 w71 => ?_)) (fun _ _ => ga_thru rfl)
                  refine ga_if_ne (tgt := 89) d_R_dropAll_82 (by decide) (fun h73 => ?_) (fun h73 => ?_)
                  · refine ga_sub (lv2 := [(0, .ref x0), (1, .int x1), (2, .int x2), (3, .int x3), (4, .int y7), (5, .int v11), (6, .int x6)]) [1, 2, 3, 4, 5, 0, 6] rfl ?_
                    exact hK63 _
                  · refine ga_iconst (v := (0 : Int32)) d_R_dropAll_89 (by decide) ?_
                    refine ga_sub (lv2 := [(0, .ref x0), (1, .int x1), (2, .int x2), (3, .int x3), (4, .int y7), (5, .int v11), (6, .int x6)]) [1, 2, 3, 4, 5, 0, 6] rfl ?_
                    exact hK36 _ _
      · refine ga_icmp_eq (tgt := 40) d_R_dropAll_34 (by decide) (fun h74 => ?_) (fun h74 => ?_)
        · refine ga_sub (lv2 := [(0, .ref x0), (1, .int x1), (2, .int x2), (3, .int x3), (4, .int x4), (6, .int x6)]) [0, 1, 2, 3, 4, 6] rfl ?_
          exact hK9 _ _
        · refine ga_iconst (v := (-1 : Int32)) d_R_dropAll_37 (by decide) ?_
          refine ga_istore (lv2 := [(4, .int (-1 : Int32)), (0, .ref x0), (1, .int x1), (2, .int x2), (3, .int x3), (5, .int x5), (6, .int x6)]) d_R_dropAll_38 (by decide) rfl ?_
          refine ga_sub (lv2 := [(0, .ref x0), (1, .int x1), (2, .int x2), (3, .int x3), (4, .int (-1 : Int32)), (6, .int x6)]) [1, 2, 3, 4, 0, 6] rfl ?_
          exact hK9 _ _
set_option maxHeartbeats 4000000 in
set_option maxRecDepth 100000 in
theorem m_R_dropAll (hst : l.stackTraces = false) (F : Nat) (p0 : Nat) (p1 : Int32) (w : ga_W) : ga_M l S0 D gz_cl (gz_tA cT) base b gz_xn y_R_dropAll ws_R_dropAll 3 67 true [.ref p0, .int p1] w (f_R_dropAll F p0 p1 w) := by
  refine ga_enter (cc := c_R_dropAll) (maxL := 8) (ret := none) hst (by decide) rfl (Nat.le_of_ble_eq_true rfl) ?_
  intro p e R s m args below meth c ad0
  refine ga_sub (lv2 := [(0, .ref p0), (1, .int p1)]) [0, 1] rfl ?_
  unfold f_R_dropAll
  refine ga_aload_n (q := 0) d_R_dropAll_0 rfl rfl ?_
  refine ga_invV (nA := 0) (ci := 6) (T := T_R) (N := 39) (av := []) (a := p0) (st := []) (m_R_oldest hst F p0 w) (Or.inl rfl) (gz_gV gw_963 gw_965 gw_36 gw_58 gw_966) rfl ⟨rfl, by decide +kernel⟩ rfl (by decide) (by decide) (Nat.le_of_ble_eq_true rfl) rfl d_R_dropAll_1 (ga_vI (fun v2 w1 => ?_)) (fun _ _ => ga_thru rfl)
  refine ga_istore_n (lv2 := [(2, .int v2), (0, .ref p0), (1, .int p1)]) d_R_dropAll_4 rfl (by decide) rfl ?_
  refine ga_iconst (v := (0 : Int32)) d_R_dropAll_5 (by decide) ?_
  refine ga_istore_n (lv2 := [(3, .int (0 : Int32)), (2, .int v2), (0, .ref p0), (1, .int p1)]) d_R_dropAll_6 rfl (by decide) rfl ?_
  refine ga_iconst (v := (-1 : Int32)) d_R_dropAll_7 (by decide) ?_
  refine ga_istore (lv2 := [(4, .int (-1 : Int32)), (3, .int (0 : Int32)), (2, .int v2), (0, .ref p0), (1, .int p1)]) d_R_dropAll_8 (by decide) rfl ?_
  refine ga_iconst (v := (-1 : Int32)) d_R_dropAll_10 (by decide) ?_
  refine ga_istore (lv2 := [(5, .int (-1 : Int32)), (4, .int (-1 : Int32)), (3, .int (0 : Int32)), (2, .int v2), (0, .ref p0), (1, .int p1)]) d_R_dropAll_11 (by decide) rfl ?_
  refine ga_iconst (v := (0 : Int32)) d_R_dropAll_13 (by decide) ?_
  refine ga_istore (lv2 := [(6, .int (0 : Int32)), (5, .int (-1 : Int32)), (4, .int (-1 : Int32)), (3, .int (0 : Int32)), (2, .int v2), (0, .ref p0), (1, .int p1)]) d_R_dropAll_14 (by decide) rfl ?_
  refine ga_sub (lv2 := [(0, .ref p0), (1, .int p1), (2, .int v2), (3, .int (0 : Int32)), (4, .int (-1 : Int32)), (5, .int (-1 : Int32)), (6, .int (0 : Int32))]) [5, 6, 4, 3, 2, 1, 0] rfl ?_
  exact h_R_dropAll_16 hst F p0 p1 v2 F (0 : Int32) (-1 : Int32) (-1 : Int32) (0 : Int32) w1
noncomputable def f_R_takeOut_16 (F : Nat) (x0 : Nat) (x1 : Int32) (x3 : Int32) (K43 : ga_W → ga_O) : Nat → Int32 → ga_W → ga_O
  | 0, _, _ => none
  | n + 1, x4, w => ((ga_gi w 6 5 x0).bind fun v1 => (if v1 ≤ (x4 + x3) then (K43 w) else (if ga_is w 6 x0 = true then ga_c (f_R_moveEntry F x0 x4 (x4 + x3) w) (ga_kV fun w3 => (f_R_takeOut_16 F x0 x1 x3 K43 n (x4 + (1 : Int32)) w3)) ga_up else none)))
noncomputable def f_R_takeOut_66 (F : Nat) (x0 : Nat) : Nat → Int32 → ga_W → ga_O
  | 0, _, _ => none
  | n + 1, x4, w => ((ga_gi w 6 10 x0).bind fun v1 => (if v1 ≤ x4 then (some (.inl none, w)) else (if ga_is w 6 x0 = true then ga_c (f_R_moveTable F x0 x4 (x4 + (1 : Int32)) w) (ga_kV fun w3 => (f_R_takeOut_66 F x0 n (x4 + (1 : Int32)) w3)) ga_up else none)))
noncomputable def f_R_takeOut (F : Nat) (p0 : Nat) (p1 : Int32) (w : ga_W) : ga_O :=
  (if ga_is w 6 p0 = true then ga_c (f_R_start F p0 p1 w) (ga_kI fun v2 w1 => ((ga_gr w1 6 8 p0).bind fun r3 => ((ga_ai w1 0 r3 p1).bind fun v4 => (f_R_takeOut_16 F p0 p1 v4 (fun (w5 : ga_W) => ((ga_gi w5 6 5 p0).bind fun v6 => ((ga_put w5 6 5 p0 (.int (v6 - v4))).bind fun w7 => ((ga_gi w7 6 10 p0).bind fun v8 => ((ga_put w7 6 10 p0 (.int (v8 - (1 : Int32)))).bind fun w9 => (f_R_takeOut_66 F p0 F p1 w9)))))) F v2 w1)))) ga_up else none)
set_option maxHeartbeats 4000000 in
set_option maxRecDepth 100000 in
theorem h_R_takeOut_16 (hst : l.stackTraces = false) (F : Nat) (x0 : Nat) (x1 : Int32) (x3 : Int32) (K43 : ga_W → ga_O) (hK43 : ∀ (w : ga_W), ga_J l S0 D gz_cl (gz_tA cT) base b gz_xn p e R s m args below meth c 5 ws_R_takeOut y_R_takeOut.cls c_R_takeOut none [] y_R_takeOut.name 1 23 true ad0 w0 (ga_MQ gz_xn D gz_cl (gz_tA cT) base b s args below ad0 w0) 43 [(0, .ref x0), (1, .int x1), (3, .int x3)] [] w (K43 w)) : ∀ (n : Nat) (x4 : Int32) (w : ga_W), ga_J l S0 D gz_cl (gz_tA cT) base b gz_xn p e R s m args below meth c 5 ws_R_takeOut y_R_takeOut.cls c_R_takeOut none [] y_R_takeOut.name 1 23 true ad0 w0 (ga_MQ gz_xn D gz_cl (gz_tA cT) base b s args below ad0 w0) 16 [(0, .ref x0), (1, .int x1), (3, .int x3), (4, .int x4)] [] w (f_R_takeOut_16 F x0 x1 x3 K43 n x4 w) := by
  intro n
  induction n with
  | zero => intro x4 w; exact ga_no
  | succ n ih =>
    intro x4 w
    rw [f_R_takeOut_16]
    refine ga_iload (q := 3) d_R_takeOut_16 rfl ?_
    refine ga_iload_n (q := 2) d_R_takeOut_18 rfl rfl ?_
    refine ga_iadd d_R_takeOut_19 ?_
    refine ga_aload_n (q := 0) d_R_takeOut_20 rfl rfl ?_
    refine ga_getI (C := "LevelStoreModel") (T := T_R) (N := 39) (k := 5) (ci := 6) (fun x h => List.mem_cons_of_mem _ (iw_R x h)) rfl (by decide) (List.mem_cons_of_mem _ gw_766) d_R_takeOut_21 (fun v1 => ?_)
    refine ga_icmp_ge (tgt := 43) d_R_takeOut_24 (by decide) (fun h2 => ?_) (fun h2 => ?_)
    · refine ga_sub (lv2 := [(0, .ref x0), (1, .int x1), (3, .int x3)]) [0, 1, 2] rfl ?_
      exact hK43  _
    · refine ga_aload_n (q := 0) d_R_takeOut_27 rfl rfl ?_
      refine ga_iload (q := 3) d_R_takeOut_28 rfl ?_
      refine ga_iload (q := 3) d_R_takeOut_30 rfl ?_
      refine ga_iload_n (q := 2) d_R_takeOut_32 rfl rfl ?_
      refine ga_iadd d_R_takeOut_33 ?_
      refine ga_invV (nA := 2) (ci := 6) (T := T_R) (N := 39) (av := [.int x4, .int (x4 + x3)]) (a := x0) (st := []) (m_R_moveEntry hst F x0 x4 (x4 + x3) w) (Or.inl rfl) (gz_gV gw_935 gw_937 gw_29 gw_58 gw_938) rfl ⟨rfl, by decide +kernel⟩ rfl (by decide) (by decide) (Nat.le_of_ble_eq_true rfl) rfl d_R_takeOut_34 (ga_vV (fun w3 => ?_)) (fun _ _ => ga_thru rfl)
      refine ga_iinc (q := 3) (v := (x4 + (1 : Int32))) (lv2 := [(4, .int (x4 + (1 : Int32))), (0, .ref x0), (1, .int x1), (3, .int x3)]) d_R_takeOut_37 rfl rfl (by decide) rfl ?_
      refine ga_goto (tgt := 16) d_R_takeOut_40 (by decide) ?_
      refine ga_sub (lv2 := [(0, .ref x0), (1, .int x1), (3, .int x3), (4, .int (x4 + (1 : Int32)))]) [1, 2, 3, 0] rfl ?_
      exact ih _ _
set_option maxHeartbeats 4000000 in
set_option maxRecDepth 100000 in
theorem h_R_takeOut_66 (hst : l.stackTraces = false) (F : Nat) (x0 : Nat) : ∀ (n : Nat) (x4 : Int32) (w : ga_W), ga_J l S0 D gz_cl (gz_tA cT) base b gz_xn p e R s m args below meth c 5 ws_R_takeOut y_R_takeOut.cls c_R_takeOut none [] y_R_takeOut.name 1 23 true ad0 w0 (ga_MQ gz_xn D gz_cl (gz_tA cT) base b s args below ad0 w0) 66 [(0, .ref x0), (4, .int x4)] [] w (f_R_takeOut_66 F x0 n x4 w) := by
  intro n
  induction n with
  | zero => intro x4 w; exact ga_no
  | succ n ih =>
    intro x4 w
    rw [f_R_takeOut_66]
    refine ga_iload (q := 1) d_R_takeOut_66 rfl ?_
    refine ga_aload_n (q := 0) d_R_takeOut_68 rfl rfl ?_
    refine ga_getI (C := "LevelStoreModel") (T := T_R) (N := 39) (k := 10) (ci := 6) (fun x h => List.mem_cons_of_mem _ (iw_R x h)) rfl (by decide) (List.mem_cons_of_mem _ gw_771) d_R_takeOut_69 (fun v1 => ?_)
    refine ga_icmp_ge (tgt := 91) d_R_takeOut_72 (by decide) (fun h2 => ?_) (fun h2 => ?_)
    · exact ga_vret rfl d_R_takeOut_91
    · refine ga_aload_n (q := 0) d_R_takeOut_75 rfl rfl ?_
      refine ga_iload (q := 1) d_R_takeOut_76 rfl ?_
      refine ga_iload (q := 1) d_R_takeOut_78 rfl ?_
      refine ga_iconst (v := (1 : Int32)) d_R_takeOut_80 (by decide) ?_
      refine ga_iadd d_R_takeOut_81 ?_
      refine ga_invV (nA := 2) (ci := 6) (T := T_R) (N := 39) (av := [.int x4, .int (x4 + (1 : Int32))]) (a := x0) (st := []) (m_R_moveTable hst F x0 x4 (x4 + (1 : Int32)) w) (Or.inl rfl) (gz_gV gw_939 gw_941 gw_30 gw_58 gw_942) rfl ⟨rfl, by decide +kernel⟩ rfl (by decide) (by decide) (Nat.le_of_ble_eq_true rfl) rfl d_R_takeOut_82 (ga_vV (fun w3 => ?_)) (fun _ _ => ga_thru rfl)
      refine ga_iinc (q := 1) (v := (x4 + (1 : Int32))) (lv2 := [(4, .int (x4 + (1 : Int32))), (0, .ref x0)]) d_R_takeOut_85 rfl rfl (by decide) rfl ?_
      refine ga_goto (tgt := 66) d_R_takeOut_88 (by decide) ?_
      refine ga_sub (lv2 := [(0, .ref x0), (4, .int (x4 + (1 : Int32)))]) [1, 0] rfl ?_
      exact ih _ _
set_option maxHeartbeats 4000000 in
set_option maxRecDepth 100000 in
theorem m_R_takeOut (hst : l.stackTraces = false) (F : Nat) (p0 : Nat) (p1 : Int32) (w : ga_W) : ga_M l S0 D gz_cl (gz_tA cT) base b gz_xn y_R_takeOut ws_R_takeOut 1 23 true [.ref p0, .int p1] w (f_R_takeOut F p0 p1 w) := by
  refine ga_enter (cc := c_R_takeOut) (maxL := 5) (ret := none) hst (by decide) rfl (Nat.le_of_ble_eq_true rfl) ?_
  intro p e R s m args below meth c ad0
  refine ga_sub (lv2 := [(0, .ref p0), (1, .int p1)]) [0, 1] rfl ?_
  unfold f_R_takeOut
  refine ga_aload_n (q := 0) d_R_takeOut_0 rfl rfl ?_
  refine ga_iload_n (q := 1) d_R_takeOut_1 rfl rfl ?_
  refine ga_invV (nA := 1) (ci := 6) (T := T_R) (N := 39) (av := [.int p1]) (a := p0) (st := []) (m_R_start hst F p0 p1 w) (Or.inl rfl) (gz_gV gw_931 gw_933 gw_28 gw_58 gw_934) rfl ⟨rfl, by decide +kernel⟩ rfl (by decide) (by decide) (Nat.le_of_ble_eq_true rfl) rfl d_R_takeOut_2 (ga_vI (fun v2 w1 => ?_)) (fun _ _ => ga_thru rfl)
  refine ga_istore_n (lv2 := [(2, .int v2), (0, .ref p0), (1, .int p1)]) d_R_takeOut_5 rfl (by decide) rfl ?_
  refine ga_aload_n (q := 1) d_R_takeOut_6 rfl rfl ?_
  refine ga_getR (C := "LevelStoreModel") (T := T_R) (N := 39) (k := 8) (ci := 6) (fun x h => List.mem_cons_of_mem _ (iw_R x h)) rfl (by decide) (List.mem_cons_of_mem _ gw_769) d_R_takeOut_7 (fun r3 => ?_)
  refine ga_iload_n (q := 2) d_R_takeOut_10 rfl rfl ?_
  refine ga_ldI (t := 0) rfl d_R_takeOut_11 (fun v4 => ?_)
  refine ga_istore_n (lv2 := [(3, .int v4), (2, .int v2), (0, .ref p0), (1, .int p1)]) d_R_takeOut_12 rfl (by decide) rfl ?_
  refine ga_iload_n (q := 1) d_R_takeOut_13 rfl rfl ?_
  refine ga_istore (lv2 := [(4, .int v2), (3, .int v4), (2, .int v2), (0, .ref p0), (1, .int p1)]) d_R_takeOut_14 (by decide) rfl ?_
  refine ga_sub (lv2 := [(0, .ref p0), (1, .int p1), (3, .int v4), (4, .int v2)]) [3, 4, 1, 0] rfl ?_
  refine h_R_takeOut_16 hst F p0 p1 v4 _ (fun w5 => ?_) F v2 w1
  refine ga_aload_n (q := 0) d_R_takeOut_43 rfl rfl ?_
  refine ga_dup d_R_takeOut_44 rfl ?_
  refine ga_getI (C := "LevelStoreModel") (T := T_R) (N := 39) (k := 5) (ci := 6) (fun x h => List.mem_cons_of_mem _ (iw_R x h)) rfl (by decide) (List.mem_cons_of_mem _ gw_766) d_R_takeOut_45 (fun v6 => ?_)
  refine ga_iload_n (q := 2) d_R_takeOut_48 rfl rfl ?_
  refine ga_isub d_R_takeOut_49 ?_
  refine ga_putB (C := "LevelStoreModel") (T := T_R) (N := 39) (k := 5) (ci := 6) (ty0 := ty_R) (fun x h => List.mem_cons_of_mem _ (iw_R x h)) ty_R_ok nm_R rfl (by decide) (List.mem_cons_of_mem _ gw_766) (Or.inl rfl) (fun _ => ⟨rfl, rfl⟩) d_R_takeOut_50 (fun w7 => ?_)
  refine ga_aload_n (q := 0) d_R_takeOut_53 rfl rfl ?_
  refine ga_dup d_R_takeOut_54 rfl ?_
  refine ga_getI (C := "LevelStoreModel") (T := T_R) (N := 39) (k := 10) (ci := 6) (fun x h => List.mem_cons_of_mem _ (iw_R x h)) rfl (by decide) (List.mem_cons_of_mem _ gw_771) d_R_takeOut_55 (fun v8 => ?_)
  refine ga_iconst (v := (1 : Int32)) d_R_takeOut_58 (by decide) ?_
  refine ga_isub d_R_takeOut_59 ?_
  refine ga_putB (C := "LevelStoreModel") (T := T_R) (N := 39) (k := 10) (ci := 6) (ty0 := ty_R) (fun x h => List.mem_cons_of_mem _ (iw_R x h)) ty_R_ok nm_R rfl (by decide) (List.mem_cons_of_mem _ gw_771) (Or.inl rfl) (fun _ => ⟨rfl, rfl⟩) d_R_takeOut_60 (fun w9 => ?_)
  refine ga_iload_n (q := 1) d_R_takeOut_63 rfl rfl ?_
  refine ga_istore (lv2 := [(4, .int p1), (0, .ref p0), (1, .int p1), (3, .int v4)]) d_R_takeOut_64 (by decide) rfl ?_
  refine ga_sub (lv2 := [(0, .ref p0), (4, .int p1)]) [1, 0] rfl ?_
  exact h_R_takeOut_66 hst F p0 F p1 w9
noncomputable def f_R_place_2 (F : Nat) (x0 : Nat) (x1 : Int32) (K57 : Int32 → ga_W → ga_O) : Nat → Int32 → ga_W → ga_O
  | 0, _, _ => none
  | n + 1, x2, w => ((ga_gi w 6 10 x0).bind fun v1 => (if v1 ≤ x2 then (K57 x2 w) else ((ga_gr w 6 7 x0).bind fun r3 => ((ga_ai w 0 r3 x2).bind fun v4 => (if v4 < x1 then (f_R_place_2 F x0 x1 K57 n (x2 + (1 : Int32)) w) else ((ga_gr w 6 7 x0).bind fun r6 => ((ga_ai w 0 r6 x2).bind fun v7 => (if v7 = x1 then ((ga_gi w 6 36 x0).bind fun v9 => (if v9 ≤ 0 then (K57 x2 w) else (if ga_is w 6 x0 = true then ga_c (f_R_low F x0 x2 w) (ga_kI fun v12 w11 => ((ga_gr w11 6 32 x0).bind fun r13 => ((ga_ai w11 0 r13 (0 : Int32)).bind fun v14 => (if v14 ≤ v12 then (K57 x2 w11) else (f_R_place_2 F x0 x1 K57 n (x2 + (1 : Int32)) w11))))) ga_up else none))) else (K57 x2 w)))))))))
noncomputable def f_R_place_62 (F : Nat) (x0 : Nat) (x1 : Int32) : Nat → Int32 → Int32 → Int32 → ga_W → ga_O
  | 0, _, _, _, _ => none
  | n + 1, x2, x3, x4, w => ((ga_gi w 6 36 x0).bind fun v1 => (if v1 ≤ x4 then (some (.inl none, w)) else ((ga_gi w 6 36 x0).bind fun v3 => (ga_jn (fun  (w11 : ga_W) => (if ga_is w11 6 x0 = true then ga_c (f_R_insert F x0 x2 x1 x3 ((x4 - x3) + (1 : Int32)) w11) (ga_kV fun w13 => (f_R_place_62 F x0 x1 n (x2 + (1 : Int32)) (x4 + (1 : Int32)) (x4 + (1 : Int32)) w13)) ga_up else none)) (fun K12 => (if v3 ≤ (x4 + (1 : Int32)) then (K12 w) else (if ((x4 - x3) + (1 : Int32)) < (6 : Int32) then (f_R_place_62 F x0 x1 n x2 x3 (x4 + (1 : Int32)) w) else ((ga_gr w 6 32 x0).bind fun r16 => ((ga_ai w 0 r16 (x4 + (1 : Int32))).bind fun v17 => ((ga_gr w 6 32 x0).bind fun r18 => ((ga_ai w 0 r18 x4).bind fun v19 => (if v17 = v19 then (f_R_place_62 F x0 x1 n x2 x3 (x4 + (1 : Int32)) w) else (K12 w)))))))))))))
noncomputable def f_R_place (F : Nat) (p0 : Nat) (p1 : Int32) (w : ga_W) : ga_O :=
  (f_R_place_2 F p0 p1 (fun (z1 : Int32) (w2 : ga_W) => (f_R_place_62 F p0 p1 F z1 (0 : Int32) (0 : Int32) w2)) F (0 : Int32) w)
set_option maxHeartbeats 4000000 in
set_option maxRecDepth 100000 in
theorem h_R_place_2 (hst : l.stackTraces = false) (F : Nat) (x0 : Nat) (x1 : Int32) (K57 : Int32 → ga_W → ga_O) (hK57 : ∀ (z2 : Int32) (w : ga_W), ga_J l S0 D gz_cl (gz_tA cT) base b gz_xn p e R s m args below meth c 6 ws_R_place y_R_place.cls c_R_place none [] y_R_place.name 2 49 true ad0 w0 (ga_MQ gz_xn D gz_cl (gz_tA cT) base b s args below ad0 w0) 57 [(0, .ref x0), (1, .int x1), (2, .int z2)] [] w (K57 z2 w)) : ∀ (n : Nat) (x2 : Int32) (w : ga_W), ga_J l S0 D gz_cl (gz_tA cT) base b gz_xn p e R s m args below meth c 6 ws_R_place y_R_place.cls c_R_place none [] y_R_place.name 2 49 true ad0 w0 (ga_MQ gz_xn D gz_cl (gz_tA cT) base b s args below ad0 w0) 2 [(0, .ref x0), (1, .int x1), (2, .int x2)] [] w (f_R_place_2 F x0 x1 K57 n x2 w) := by
  intro n
  induction n with
  | zero => intro x2 w; exact ga_no
  | succ n ih =>
    intro x2 w
    rw [f_R_place_2]
    refine ga_iload_n (q := 2) d_R_place_2 rfl rfl ?_
    refine ga_aload_n (q := 0) d_R_place_3 rfl rfl ?_
    refine ga_getI (C := "LevelStoreModel") (T := T_R) (N := 39) (k := 10) (ci := 6) (fun x h => List.mem_cons_of_mem _ (iw_R x h)) rfl (by decide) (List.mem_cons_of_mem _ gw_771) d_R_place_4 (fun v1 => ?_)
    refine ga_icmp_ge (tgt := 57) d_R_place_7 (by decide) (fun h2 => ?_) (fun h2 => ?_)
    · exact hK57 _ _
    · refine ga_aload_n (q := 0) d_R_place_10 rfl rfl ?_
      refine ga_getR (C := "LevelStoreModel") (T := T_R) (N := 39) (k := 7) (ci := 6) (fun x h => List.mem_cons_of_mem _ (iw_R x h)) rfl (by decide) (List.mem_cons_of_mem _ gw_768) d_R_place_11 (fun r3 => ?_)
      refine ga_iload_n (q := 2) d_R_place_14 rfl rfl ?_
      refine ga_ldI (t := 0) rfl d_R_place_15 (fun v4 => ?_)
      refine ga_iload_n (q := 1) d_R_place_16 rfl rfl ?_
      refine ga_icmp_lt (tgt := 51) d_R_place_17 (by decide) (fun h5 => ?_) (fun h5 => ?_)
      · refine ga_iinc (q := 2) (v := (x2 + (1 : Int32))) (lv2 := [(2, .int (x2 + (1 : Int32))), (0, .ref x0), (1, .int x1)]) d_R_place_51 rfl rfl (by decide) rfl ?_
        refine ga_goto (tgt := 2) d_R_place_54 (by decide) ?_
        refine ga_sub (lv2 := [(0, .ref x0), (1, .int x1), (2, .int (x2 + (1 : Int32)))]) [1, 2, 0] rfl ?_
        exact ih _ _
      · refine ga_aload_n (q := 0) d_R_place_20 rfl rfl ?_
        refine ga_getR (C := "LevelStoreModel") (T := T_R) (N := 39) (k := 7) (ci := 6) (fun x h => List.mem_cons_of_mem _ (iw_R x h)) rfl (by decide) (List.mem_cons_of_mem _ gw_768) d_R_place_21 (fun r6 => ?_)
        refine ga_iload_n (q := 2) d_R_place_24 rfl rfl ?_
        refine ga_ldI (t := 0) rfl d_R_place_25 (fun v7 => ?_)
        refine ga_iload_n (q := 1) d_R_place_26 rfl rfl ?_
        refine ga_icmp_ne (tgt := 57) d_R_place_27 (by decide) (fun h8 => ?_) (fun h8 => ?_)
        · refine ga_aload_n (q := 0) d_R_place_30 rfl rfl ?_
          refine ga_getI (C := "LevelStoreModel") (T := T_R) (N := 39) (k := 36) (ci := 6) (fun x h => List.mem_cons_of_mem _ (iw_R x h)) rfl (by decide) (List.mem_cons_of_mem _ gw_797) d_R_place_31 (fun v9 => ?_)
          refine ga_if_le (tgt := 57) d_R_place_34 (by decide) (fun h10 => ?_) (fun h10 => ?_)
          · exact hK57 _ _
          · refine ga_aload_n (q := 0) d_R_place_37 rfl rfl ?_
            refine ga_iload_n (q := 2) d_R_place_38 rfl rfl ?_
            refine ga_invV (nA := 1) (ci := 6) (T := T_R) (N := 39) (av := [.int x2]) (a := x0) (st := []) (m_R_low hst F x0 x2 w) (Or.inl rfl) (gz_gV gw_951 gw_953 gw_33 gw_58 gw_954) rfl ⟨rfl, by decide +kernel⟩ rfl (by decide) (by decide) (Nat.le_of_ble_eq_true rfl) rfl d_R_place_39 (ga_vI (fun v12 w11 => ?_)) (fun _ _ => ga_thru rfl)
            refine ga_aload_n (q := 0) d_R_place_42 rfl rfl ?_
            refine ga_getR (C := "LevelStoreModel") (T := T_R) (N := 39) (k := 32) (ci := 6) (fun x h => List.mem_cons_of_mem _ (iw_R x h)) rfl (by decide) (List.mem_cons_of_mem _ gw_793) d_R_place_43 (fun r13 => ?_)
            refine ga_iconst (v := (0 : Int32)) d_R_place_46 (by decide) ?_
            refine ga_ldI (t := 0) rfl d_R_place_47 (fun v14 => ?_)
            refine ga_icmp_ge (tgt := 57) d_R_place_48 (by decide) (fun h15 => ?_) (fun h15 => ?_)
            · exact hK57 _ _
            · refine ga_iinc (q := 2) (v := (x2 + (1 : Int32))) (lv2 := [(2, .int (x2 + (1 : Int32))), (0, .ref x0), (1, .int x1)]) d_R_place_51 rfl rfl (by decide) rfl ?_
              refine ga_goto (tgt := 2) d_R_place_54 (by decide) ?_
              refine ga_sub (lv2 := [(0, .ref x0), (1, .int x1), (2, .int (x2 + (1 : Int32)))]) [1, 2, 0] rfl ?_
              exact ih _ _
        · exact hK57 _ _
set_option maxHeartbeats 4000000 in
set_option maxRecDepth 100000 in
theorem h_R_place_62 (hst : l.stackTraces = false) (F : Nat) (x0 : Nat) (x1 : Int32) : ∀ (n : Nat) (x2 : Int32) (x3 : Int32) (x4 : Int32) (w : ga_W), ga_J l S0 D gz_cl (gz_tA cT) base b gz_xn p e R s m args below meth c 6 ws_R_place y_R_place.cls c_R_place none [] y_R_place.name 2 49 true ad0 w0 (ga_MQ gz_xn D gz_cl (gz_tA cT) base b s args below ad0 w0) 62 [(0, .ref x0), (1, .int x1), (2, .int x2), (3, .int x3), (4, .int x4)] [] w (f_R_place_62 F x0 x1 n x2 x3 x4 w) := by
  intro n
  induction n with
  | zero => intro x2 x3 x4 w; exact ga_no
  | succ n ih =>
    intro x2 x3 x4 w
    rw [f_R_place_62]
    refine ga_iload (q := 4) d_R_place_62 rfl ?_
    refine ga_aload_n (q := 0) d_R_place_64 rfl rfl ?_
    refine ga_getI (C := "LevelStoreModel") (T := T_R) (N := 39) (k := 36) (ci := 6) (fun x h => List.mem_cons_of_mem _ (iw_R x h)) rfl (by decide) (List.mem_cons_of_mem _ gw_797) d_R_place_65 (fun v1 => ?_)
    refine ga_icmp_ge (tgt := 142) d_R_place_68 (by decide) (fun h2 => ?_) (fun h2 => ?_)
    · exact ga_vret rfl d_R_place_142
    · refine ga_iload (q := 4) d_R_place_71 rfl ?_
      refine ga_iload_n (q := 3) d_R_place_73 rfl rfl ?_
      refine ga_isub d_R_place_74 ?_
      refine ga_iconst (v := (1 : Int32)) d_R_place_75 (by decide) ?_
      refine ga_iadd d_R_place_76 ?_
      refine ga_istore (lv2 := [(5, .int ((x4 - x3) + (1 : Int32))), (0, .ref x0), (1, .int x1), (2, .int x2), (3, .int x3), (4, .int x4)]) d_R_place_77 (by decide) rfl ?_
      refine ga_iload (q := 5) d_R_place_79 rfl ?_
      refine ga_iconst (v := (1 : Int32)) d_R_place_81 (by decide) ?_
      refine ga_iadd d_R_place_82 ?_
      refine ga_aload_n (q := 1) d_R_place_83 rfl rfl ?_
      refine ga_getI (C := "LevelStoreModel") (T := T_R) (N := 39) (k := 36) (ci := 6) (fun x h => List.mem_cons_of_mem _ (iw_R x h)) rfl (by decide) (List.mem_cons_of_mem _ gw_797) d_R_place_84 (fun v3 => ?_)
      refine ga_join (fun (K12 : ga_W → ga_O) => ∀  (w11 : ga_W), ga_J l S0 D gz_cl (gz_tA cT) base b gz_xn p e R s m args below meth c 6 ws_R_place y_R_place.cls c_R_place none [] y_R_place.name 2 49 true ad0 w0 (ga_MQ gz_xn D gz_cl (gz_tA cT) base b s args below ad0 w0) 119 [(0, .ref x0), (1, .int x1), (2, .int x2), (3, .int x3), (4, .int x4), (5, .int ((x4 - x3) + (1 : Int32)))] [] w11 (K12 w11)) (fun w11 => ?_) (fun K12 hK12 => ?_)
      · refine ga_aload_n (q := 0) d_R_place_119 rfl rfl ?_
        refine ga_iload_n (q := 2) d_R_place_120 rfl rfl ?_
        refine ga_iload_n (q := 1) d_R_place_121 rfl rfl ?_
        refine ga_iload_n (q := 3) d_R_place_122 rfl rfl ?_
        refine ga_iload (q := 5) d_R_place_123 rfl ?_
        refine ga_invV (nA := 4) (ci := 6) (T := T_R) (N := 39) (av := [.int x2, .int x1, .int x3, .int ((x4 - x3) + (1 : Int32))]) (a := x0) (st := []) (m_R_insert hst F x0 x2 x1 x3 ((x4 - x3) + (1 : Int32)) w11) (Or.inl rfl) (gz_gV gw_927 gw_929 gw_27 gw_58 gw_930) rfl ⟨rfl, by decide +kernel⟩ rfl (by decide) (by decide) (Nat.le_of_ble_eq_true rfl) rfl d_R_place_125 (ga_vV (fun w13 => ?_)) (fun _ _ => ga_thru rfl)
        refine ga_iinc (q := 2) (v := (x2 + (1 : Int32))) (lv2 := [(2, .int (x2 + (1 : Int32))), (0, .ref x0), (1, .int x1), (3, .int x3), (4, .int x4), (5, .int ((x4 - x3) + (1 : Int32)))]) d_R_place_128 rfl rfl (by decide) rfl ?_
        refine ga_iload (q := 4) d_R_place_131 rfl ?_
        refine ga_iconst (v := (1 : Int32)) d_R_place_133 (by decide) ?_
        refine ga_iadd d_R_place_134 ?_
        refine ga_istore_n (lv2 := [(3, .int (x4 + (1 : Int32))), (2, .int (x2 + (1 : Int32))), (0, .ref x0), (1, .int x1), (4, .int x4), (5, .int ((x4 - x3) + (1 : Int32)))]) d_R_place_135 rfl (by decide) rfl ?_
        refine ga_iinc (q := 4) (v := (x4 + (1 : Int32))) (lv2 := [(4, .int (x4 + (1 : Int32))), (3, .int (x4 + (1 : Int32))), (2, .int (x2 + (1 : Int32))), (0, .ref x0), (1, .int x1), (5, .int ((x4 - x3) + (1 : Int32)))]) d_R_place_136 rfl rfl (by decide) rfl ?_
        refine ga_goto (tgt := 62) d_R_place_139 (by decide) ?_
        refine ga_sub (lv2 := [(0, .ref x0), (1, .int x1), (2, .int (x2 + (1 : Int32))), (3, .int (x4 + (1 : Int32))), (4, .int (x4 + (1 : Int32)))]) [3, 4, 2, 1, 0] rfl ?_
        exact ih _ _ _ _
      · refine ga_icmp_ge (tgt := 119) d_R_place_87 (by decide) (fun h14 => ?_) (fun h14 => ?_)
        · refine ga_sub (lv2 := [(0, .ref x0), (1, .int x1), (2, .int x2), (3, .int x3), (4, .int x4), (5, .int ((x4 - x3) + (1 : Int32)))]) [1, 2, 3, 4, 5, 0] rfl ?_
          exact hK12 _
        · refine ga_iload (q := 0) d_R_place_90 rfl ?_
          refine ga_bipush (v := (6 : Int32)) d_R_place_92 (by decide) ?_
          refine ga_icmp_lt (tgt := 136) d_R_place_94 (by decide) (fun h15 => ?_) (fun h15 => ?_)
          · refine ga_iinc (q := 5) (v := (x4 + (1 : Int32))) (lv2 := [(4, .int (x4 + (1 : Int32))), (5, .int ((x4 - x3) + (1 : Int32))), (0, .ref x0), (1, .int x1), (2, .int x2), (3, .int x3)]) d_R_place_136 rfl rfl (by decide) rfl ?_
            refine ga_goto (tgt := 62) d_R_place_139 (by decide) ?_
            refine ga_sub (lv2 := [(0, .ref x0), (1, .int x1), (2, .int x2), (3, .int x3), (4, .int (x4 + (1 : Int32)))]) [2, 3, 4, 5, 0] rfl ?_
            exact ih _ _ _ _
          · refine ga_aload_n (q := 1) d_R_place_97 rfl rfl ?_
            refine ga_getR (C := "LevelStoreModel") (T := T_R) (N := 39) (k := 32) (ci := 6) (fun x h => List.mem_cons_of_mem _ (iw_R x h)) rfl (by decide) (List.mem_cons_of_mem _ gw_793) d_R_place_98 (fun r16 => ?_)
            refine ga_iload (q := 5) d_R_place_101 rfl ?_
            refine ga_iconst (v := (1 : Int32)) d_R_place_103 (by decide) ?_
            refine ga_iadd d_R_place_104 ?_
            refine ga_ldI (t := 0) rfl d_R_place_105 (fun v17 => ?_)
            refine ga_aload_n (q := 1) d_R_place_106 rfl rfl ?_
            refine ga_getR (C := "LevelStoreModel") (T := T_R) (N := 39) (k := 32) (ci := 6) (fun x h => List.mem_cons_of_mem _ (iw_R x h)) rfl (by decide) (List.mem_cons_of_mem _ gw_793) d_R_place_107 (fun r18 => ?_)
            refine ga_iload (q := 5) d_R_place_110 rfl ?_
            refine ga_ldI (t := 0) rfl d_R_place_112 (fun v19 => ?_)
            refine ga_icmp_ne (tgt := 119) d_R_place_113 (by decide) (fun h20 => ?_) (fun h20 => ?_)
            · refine ga_goto (tgt := 136) d_R_place_116 (by decide) ?_
              refine ga_iinc (q := 5) (v := (x4 + (1 : Int32))) (lv2 := [(4, .int (x4 + (1 : Int32))), (5, .int ((x4 - x3) + (1 : Int32))), (0, .ref x0), (1, .int x1), (2, .int x2), (3, .int x3)]) d_R_place_136 rfl rfl (by decide) rfl ?_
              refine ga_goto (tgt := 62) d_R_place_139 (by decide) ?_
              refine ga_sub (lv2 := [(0, .ref x0), (1, .int x1), (2, .int x2), (3, .int x3), (4, .int (x4 + (1 : Int32)))]) [2, 3, 4, 5, 0] rfl ?_
              exact ih _ _ _ _
            · refine ga_sub (lv2 := [(0, .ref x0), (1, .int x1), (2, .int x2), (3, .int x3), (4, .int x4), (5, .int ((x4 - x3) + (1 : Int32)))]) [1, 2, 3, 4, 5, 0] rfl ?_
              exact hK12 _
set_option maxHeartbeats 4000000 in
set_option maxRecDepth 100000 in
theorem m_R_place (hst : l.stackTraces = false) (F : Nat) (p0 : Nat) (p1 : Int32) (w : ga_W) : ga_M l S0 D gz_cl (gz_tA cT) base b gz_xn y_R_place ws_R_place 2 49 true [.ref p0, .int p1] w (f_R_place F p0 p1 w) := by
  refine ga_enter (cc := c_R_place) (maxL := 6) (ret := none) hst (by decide) rfl (Nat.le_of_ble_eq_true rfl) ?_
  intro p e R s m args below meth c ad0
  refine ga_sub (lv2 := [(0, .ref p0), (1, .int p1)]) [0, 1] rfl ?_
  unfold f_R_place
  refine ga_iconst (v := (0 : Int32)) d_R_place_0 (by decide) ?_
  refine ga_istore_n (lv2 := [(2, .int (0 : Int32)), (0, .ref p0), (1, .int p1)]) d_R_place_1 rfl (by decide) rfl ?_
  refine ga_sub (lv2 := [(0, .ref p0), (1, .int p1), (2, .int (0 : Int32))]) [1, 2, 0] rfl ?_
  refine h_R_place_2 hst F p0 p1 _ (fun z1 w2 => ?_) F (0 : Int32) w
  refine ga_iconst (v := (0 : Int32)) d_R_place_57 (by decide) ?_
  refine ga_istore_n (lv2 := [(3, .int (0 : Int32)), (0, .ref p0), (1, .int p1), (2, .int z1)]) d_R_place_58 rfl (by decide) rfl ?_
  refine ga_iconst (v := (0 : Int32)) d_R_place_59 (by decide) ?_
  refine ga_istore (lv2 := [(4, .int (0 : Int32)), (3, .int (0 : Int32)), (0, .ref p0), (1, .int p1), (2, .int z1)]) d_R_place_60 (by decide) rfl ?_
  refine ga_sub (lv2 := [(0, .ref p0), (1, .int p1), (2, .int z1), (3, .int (0 : Int32)), (4, .int (0 : Int32))]) [2, 3, 4, 1, 0] rfl ?_
  exact h_R_place_62 hst F p0 p1 F z1 (0 : Int32) (0 : Int32) w2
end GM12
