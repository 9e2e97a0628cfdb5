/-! WALKS: R_tidy, R_flushAll, R_logged, R_write, R_put, R_remove, R_open -/
section GM14
variable {l : Launch} {S0 : State} {D : va_G} {cT : Nat → ClassId} {base b : Nat} {p : Program} {e : Env} {R : Room} {s : State} {m : MethodId} {args : Array Value} {below : List Frame} {meth : Method} {c : Code} {ad0 : Nat → Nat} {w0 : ga_W}
noncomputable def f_R_tidy_15 (F : Nat) (x0 : Nat) (x1 : Int32) (K35 : ga_W → ga_O) : Nat → Int32 → ga_W → ga_O
  | 0, _, _ => none
  | n + 1, x2, w => (if (260 : Int32) ≤ x2 then (K35 w) else ((ga_gr w 6 37 x0).bind fun r2 => ((ga_sz w 1 r2 x2 (0 : Int32)).bind fun w3 => (f_R_tidy_15 F x0 x1 K35 n (x2 + (1 : Int32)) w3))))
noncomputable def f_R_tidy_46 (F : Nat) (x0 : Nat) (x1 : Int32) (K80 : ga_W → ga_O) : Nat → Int32 → ga_W → ga_O
  | 0, _, _ => none
  | n + 1, x2, w => ((ga_gi w 6 10 x0).bind fun v1 => (if v1 ≤ x2 then (K80 w) else ((ga_gr w 6 37 x0).bind fun r3 => ((ga_gr w 6 7 x0).bind fun r4 => ((ga_ai w 0 r4 x2).bind fun v5 => (if v5 = 0 then ((ga_sz w 1 r3 x2 (1 : Int32)).bind fun w7 => (f_R_tidy_46 F x0 x1 K80 n (x2 + (1 : Int32)) w7)) else ((ga_sz w 1 r3 x2 (0 : Int32)).bind fun w8 => (f_R_tidy_46 F x0 x1 K80 n (x2 + (1 : Int32)) w8))))))))
noncomputable def f_R_tidy_2 (F : Nat) (x0 : Nat) : Nat → Int32 → ga_W → ga_O
  | 0, _, _ => none
  | n + 1, x1, w => (if x1 = 0 then (some (.inl none, w)) else ((ga_gi w 6 26 x0).bind fun v2 => (if v2 = 0 then (f_R_tidy_15 F x0 x1 (fun (w4 : ga_W) => (if ga_is w4 6 x0 = true then ga_c (f_R_onLevel F x0 (0 : Int32) w4) (ga_kI fun v6 w5 => (if v6 < (4 : Int32) then (if ga_is w5 6 x0 = true then ga_c (f_R_onLevel F x0 (1 : Int32) w5) (ga_kI fun v9 w8 => (ga_jn (fun (y14 : Int32) (w15 : ga_W) => (ga_jn (fun (y18 : Int32) (w19 : ga_W) => (if y18 = 0 then (f_R_tidy_2 F x0 n y18 w19) else (if ga_is w19 6 x0 = true then ga_c (f_R_pick F x0 y14 w19) (ga_kI fun v23 w22 => (if ga_is w22 6 x0 = true then ga_c (f_R_merge F x0 (y14 + (1 : Int32)) w22) (ga_kI fun v25 w24 => (if v25 = 0 then (f_R_tidy_2 F x0 n y18 w24) else ((ga_gr w24 6 24 x0).bind fun r27 => ((ga_si w24 0 r27 y14 v23).bind fun w28 => (f_R_tidy_2 F x0 n y18 w28))))) ga_up else none)) ga_up else none))) (fun K20 => (if y14 ≤ 0 then (K20 (0 : Int32) w15) else (K20 (1 : Int32) w15))))) (fun K16 => (if v9 ≤ (3 : Int32) then (if ga_is w8 6 x0 = true then ga_c (f_R_onLevel F x0 (2 : Int32) w8) (ga_kI fun v32 w31 => (if v32 ≤ (5 : Int32) then (K16 (0 : Int32) w31) else (K16 (2 : Int32) w31))) ga_up else none) else (K16 (1 : Int32) w8))))) ga_up else none) else (f_R_tidy_46 F x0 x1 (fun (w34 : ga_W) => (if ga_is w34 6 x0 = true then ga_c (f_R_merge F x0 (1 : Int32) w34) (ga_kI fun v36 w35 => (f_R_tidy_2 F x0 n x1 w35)) ga_up else none)) F (0 : Int32) w5))) ga_up else none)) F (0 : Int32) w) else (some (.inl none, w)))))
noncomputable def f_R_tidy (F : Nat) (p0 : Nat) (w : ga_W) : ga_O :=
  (f_R_tidy_2 F p0 F (1 : Int32) w)
set_option maxHeartbeats 4000000 in
set_option maxRecDepth 100000 in
theorem h_R_tidy_15 (hst : l.stackTraces = false) (F : Nat) (x0 : Nat) (x1 : Int32) (K35 : ga_W → ga_O) (hK35 : ∀ (w : ga_W), ga_J l S0 D gz_cl (gz_tA cT) base b gz_xn p e R s m args below meth c 4 ws_R_tidy y_R_tidy.cls c_R_tidy none [] y_R_tidy.name 5 120 true ad0 w0 (ga_MQ gz_xn D gz_cl (gz_tA cT) base b s args below ad0 w0) 35 [(0, .ref x0), (1, .int x1)] [] w (K35 w)) : ∀ (n : Nat) (x2 : Int32) (w : ga_W), ga_J l S0 D gz_cl (gz_tA cT) base b gz_xn p e R s m args below meth c 4 ws_R_tidy y_R_tidy.cls c_R_tidy none [] y_R_tidy.name 5 120 true ad0 w0 (ga_MQ gz_xn D gz_cl (gz_tA cT) base b s args below ad0 w0) 15 [(0, .ref x0), (1, .int x1), (2, .int x2)] [] w (f_R_tidy_15 F x0 x1 K35 n x2 w) := by
  intro n
  induction n with
  | zero => intro x2 w; exact ga_no
  | succ n ih =>
    intro x2 w
    rw [f_R_tidy_15]
    refine ga_iload_n (q := 2) d_R_tidy_15 rfl rfl ?_
    refine ga_sipush (v := (260 : Int32)) d_R_tidy_16 (by decide) ?_
    refine ga_icmp_ge (tgt := 35) d_R_tidy_19 (by decide) (fun h1 => ?_) (fun h1 => ?_)
    · refine ga_sub (lv2 := [(0, .ref x0), (1, .int x1)]) [0, 1] rfl ?_
      exact hK35  _
    · refine ga_aload_n (q := 0) d_R_tidy_22 rfl rfl ?_
      refine ga_getR (C := "LevelStoreModel") (T := T_R) (N := 39) (k := 37) (ci := 6) (fun x h => List.mem_cons_of_mem _ (iw_R x h)) rfl (by decide) (List.mem_cons_of_mem _ gw_798) d_R_tidy_23 (fun r2 => ?_)
      refine ga_iload_n (q := 2) d_R_tidy_26 rfl rfl ?_
      refine ga_iconst (v := (0 : Int32)) d_R_tidy_27 (by decide) ?_
      refine ga_stZ (t := 1) rfl d_R_tidy_28 (fun w3 => ?_)
      refine ga_iinc (q := 2) (v := (x2 + (1 : Int32))) (lv2 := [(2, .int (x2 + (1 : Int32))), (0, .ref x0), (1, .int x1)]) d_R_tidy_29 rfl rfl (by decide) rfl ?_
      refine ga_goto (tgt := 15) d_R_tidy_32 (by decide) ?_
      refine ga_sub (lv2 := [(0, .ref x0), (1, .int x1), (2, .int (x2 + (1 : Int32)))]) [1, 2, 0] rfl ?_
      exact ih _ _
set_option maxHeartbeats 4000000 in
set_option maxRecDepth 100000 in
theorem h_R_tidy_46 (hst : l.stackTraces = false) (F : Nat) (x0 : Nat) (x1 : Int32) (K80 : ga_W → ga_O) (hK80 : ∀ (w : ga_W), ga_J l S0 D gz_cl (gz_tA cT) base b gz_xn p e R s m args below meth c 4 ws_R_tidy y_R_tidy.cls c_R_tidy none [] y_R_tidy.name 5 120 true ad0 w0 (ga_MQ gz_xn D gz_cl (gz_tA cT) base b s args below ad0 w0) 80 [(0, .ref x0), (1, .int x1)] [] w (K80 w)) : ∀ (n : Nat) (x2 : Int32) (w : ga_W), ga_J l S0 D gz_cl (gz_tA cT) base b gz_xn p e R s m args below meth c 4 ws_R_tidy y_R_tidy.cls c_R_tidy none [] y_R_tidy.name 5 120 true ad0 w0 (ga_MQ gz_xn D gz_cl (gz_tA cT) base b s args below ad0 w0) 46 [(0, .ref x0), (1, .int x1), (2, .int x2)] [] w (f_R_tidy_46 F x0 x1 K80 n x2 w) := by
  intro n
  induction n with
  | zero => intro x2 w; exact ga_no
  | succ n ih =>
    intro x2 w
    rw [f_R_tidy_46]
    refine ga_iload_n (q := 2) d_R_tidy_46 rfl rfl ?_
    refine ga_aload_n (q := 0) d_R_tidy_47 rfl rfl ?_
    refine ga_getI (C := "LevelStoreModel") (T := T_R) (N := 39) (k := 10) (ci := 6) (fun x h => List.mem_cons_of_mem _ (iw_R x h)) rfl (by decide) (List.mem_cons_of_mem _ gw_771) d_R_tidy_48 (fun v1 => ?_)
    refine ga_icmp_ge (tgt := 80) d_R_tidy_51 (by decide) (fun h2 => ?_) (fun h2 => ?_)
    · refine ga_sub (lv2 := [(0, .ref x0), (1, .int x1)]) [0, 1] rfl ?_
      exact hK80  _
    · refine ga_aload_n (q := 0) d_R_tidy_54 rfl rfl ?_
      refine ga_getR (C := "LevelStoreModel") (T := T_R) (N := 39) (k := 37) (ci := 6) (fun x h => List.mem_cons_of_mem _ (iw_R x h)) rfl (by decide) (List.mem_cons_of_mem _ gw_798) d_R_tidy_55 (fun r3 => ?_)
      refine ga_iload_n (q := 2) d_R_tidy_58 rfl rfl ?_
      refine ga_aload_n (q := 0) d_R_tidy_59 rfl rfl ?_
      refine ga_getR (C := "LevelStoreModel") (T := T_R) (N := 39) (k := 7) (ci := 6) (fun x h => List.mem_cons_of_mem _ (iw_R x h)) rfl (by decide) (List.mem_cons_of_mem _ gw_768) d_R_tidy_60 (fun r4 => ?_)
      refine ga_iload_n (q := 2) d_R_tidy_63 rfl rfl ?_
      refine ga_ldI (t := 0) rfl d_R_tidy_64 (fun v5 => ?_)
      refine ga_if_ne (tgt := 72) d_R_tidy_65 (by decide) (fun h6 => ?_) (fun h6 => ?_)
      · refine ga_iconst (v := (1 : Int32)) d_R_tidy_68 (by decide) ?_
        refine ga_goto (tgt := 73) d_R_tidy_69 (by decide) ?_
        refine ga_stZ (t := 1) rfl d_R_tidy_73 (fun w7 => ?_)
        refine ga_iinc (q := 2) (v := (x2 + (1 : Int32))) (lv2 := [(2, .int (x2 + (1 : Int32))), (0, .ref x0), (1, .int x1)]) d_R_tidy_74 rfl rfl (by decide) rfl ?_
        refine ga_goto (tgt := 46) d_R_tidy_77 (by decide) ?_
        refine ga_sub (lv2 := [(0, .ref x0), (1, .int x1), (2, .int (x2 + (1 : Int32)))]) [1, 2, 0] rfl ?_
        exact ih _ _
      · refine ga_iconst (v := (0 : Int32)) d_R_tidy_72 (by decide) ?_
        refine ga_stZ (t := 1) rfl d_R_tidy_73 (fun w8 => ?_)
        refine ga_iinc (q := 2) (v := (x2 + (1 : Int32))) (lv2 := [(2, .int (x2 + (1 : Int32))), (0, .ref x0), (1, .int x1)]) d_R_tidy_74 rfl rfl (by decide) rfl ?_
        refine ga_goto (tgt := 46) d_R_tidy_77 (by decide) ?_
        refine ga_sub (lv2 := [(0, .ref x0), (1, .int x1), (2, .int (x2 + (1 : Int32)))]) [1, 2, 0] rfl ?_
        exact ih _ _
set_option maxHeartbeats 4000000 in
set_option maxRecDepth 100000 in
theorem h_R_tidy_2 (hst : l.stackTraces = false) (F : Nat) (x0 : Nat) : ∀ (n : Nat) (x1 : Int32) (w : ga_W), ga_J l S0 D gz_cl (gz_tA cT) base b gz_xn p e R s m args below meth c 4 ws_R_tidy y_R_tidy.cls c_R_tidy none [] y_R_tidy.name 5 120 true ad0 w0 (ga_MQ gz_xn D gz_cl (gz_tA cT) base b s args below ad0 w0) 2 [(0, .ref x0), (1, .int x1)] [] w (f_R_tidy_2 F x0 n x1 w) := by
  intro n
  induction n with
  | zero => intro x1 w; exact ga_no
  | succ n ih =>
    intro x1 w
    rw [f_R_tidy_2]
    refine ga_iload_n (q := 1) d_R_tidy_2 rfl rfl ?_
    refine ga_if_eq (tgt := 160) d_R_tidy_3 (by decide) (fun h1 => ?_) (fun h1 => ?_)
    · exact ga_vret rfl d_R_tidy_160
    · refine ga_aload_n (q := 0) d_R_tidy_6 rfl rfl ?_
      refine ga_getI (C := "LevelStoreModel") (T := T_R) (N := 39) (k := 26) (ci := 6) (fun x h => List.mem_cons_of_mem _ (iw_R x h)) rfl (by decide) (List.mem_cons_of_mem _ gw_787) d_R_tidy_7 (fun v2 => ?_)
      refine ga_if_ne (tgt := 160) d_R_tidy_10 (by decide) (fun h3 => ?_) (fun h3 => ?_)
      · refine ga_iconst (v := (0 : Int32)) d_R_tidy_13 (by decide) ?_
        refine ga_istore_n (lv2 := [(2, .int (0 : Int32)), (0, .ref x0), (1, .int x1)]) d_R_tidy_14 rfl (by decide) rfl ?_
        refine ga_sub (lv2 := [(0, .ref x0), (1, .int x1), (2, .int (0 : Int32))]) [1, 2, 0] rfl ?_
        refine h_R_tidy_15 hst F x0 x1 _ (fun w4 => ?_) F (0 : Int32) w
        refine ga_aload_n (q := 0) d_R_tidy_35 rfl rfl ?_
        refine ga_iconst (v := (0 : Int32)) d_R_tidy_36 (by decide) ?_
        refine ga_invV (nA := 1) (ci := 6) (T := T_R) (N := 39) (av := [.int (0 : Int32)]) (a := x0) (st := []) (m_R_onLevel hst F x0 (0 : Int32) w4) (Or.inl rfl) (gz_gV gw_903 gw_905 gw_21 gw_58 gw_906) rfl ⟨rfl, by decide +kernel⟩ rfl (by decide) (by decide) (Nat.le_of_ble_eq_true rfl) rfl d_R_tidy_37 (ga_vI (fun v6 w5 => ?_)) (fun _ _ => ga_thru rfl)
        refine ga_iconst (v := (4 : Int32)) d_R_tidy_40 (by decide) ?_
        refine ga_icmp_lt (tgt := 89) d_R_tidy_41 (by decide) (fun h7 => ?_) (fun h7 => ?_)
        · refine ga_aload_n (q := 0) d_R_tidy_89 rfl rfl ?_
          refine ga_iconst (v := (1 : Int32)) d_R_tidy_90 (by decide) ?_
          refine ga_invV (nA := 1) (ci := 6) (T := T_R) (N := 39) (av := [.int (1 : Int32)]) (a := x0) (st := []) (m_R_onLevel hst F x0 (1 : Int32) w5) (Or.inl rfl) (gz_gV gw_903 gw_905 gw_21 gw_58 gw_906) rfl ⟨rfl, by decide +kernel⟩ rfl (by decide) (by decide) (Nat.le_of_ble_eq_true rfl) rfl d_R_tidy_91 (ga_vI (fun v9 w8 => ?_)) (fun _ _ => ga_thru rfl)
          refine ga_iconst (v := (3 : Int32)) d_R_tidy_94 (by decide) ?_
          refine ga_join (fun (K16 : Int32 → ga_W → ga_O) => ∀ (y14 : Int32) (w15 : ga_W), ga_J l S0 D gz_cl (gz_tA cT) base b gz_xn p e R s m args below meth c 4 ws_R_tidy y_R_tidy.cls c_R_tidy none [] y_R_tidy.name 5 120 true ad0 w0 (ga_MQ gz_xn D gz_cl (gz_tA cT) base b s args below ad0 w0) 116 [(0, .ref x0)] [.int y14] w15 (K16 y14 w15)) (fun y14 w15 => ?_) (fun K16 hK16 => ?_)
          · refine ga_istore_n (lv2 := [(2, .int y14), (0, .ref x0)]) d_R_tidy_116 rfl (by decide) rfl ?_
            refine ga_iload_n (q := 0) d_R_tidy_117 rfl rfl ?_
            refine ga_join (fun (K20 : Int32 → ga_W → ga_O) => ∀ (y18 : Int32) (w19 : ga_W), ga_J l S0 D gz_cl (gz_tA cT) base b gz_xn p e R s m args below meth c 4 ws_R_tidy y_R_tidy.cls c_R_tidy none [] y_R_tidy.name 5 120 true ad0 w0 (ga_MQ gz_xn D gz_cl (gz_tA cT) base b s args below ad0 w0) 126 [(0, .ref x0), (2, .int y14)] [.int y18] w19 (K20 y18 w19)) (fun y18 w19 => ?_) (fun K20 hK20 => ?_)
            · refine ga_istore_n (lv2 := [(1, .int y18), (0, .ref x0), (2, .int y14)]) d_R_tidy_126 rfl (by decide) rfl ?_
              refine ga_iload_n (q := 0) d_R_tidy_127 rfl rfl ?_
              refine ga_if_ne (tgt := 134) d_R_tidy_128 (by decide) (fun h21 => ?_) (fun h21 => ?_)
              · refine ga_goto (tgt := 2) d_R_tidy_131 (by decide) ?_
                refine ga_sub (lv2 := [(0, .ref x0), (1, .int y18)]) [1, 0] rfl ?_
                exact ih _ _
              · refine ga_aload_n (q := 1) d_R_tidy_134 rfl rfl ?_
                refine ga_iload_n (q := 2) d_R_tidy_135 rfl rfl ?_
                refine ga_invV (nA := 1) (ci := 6) (T := T_R) (N := 39) (av := [.int y14]) (a := x0) (st := []) (m_R_pick hst F x0 y14 w19) (Or.inl rfl) (gz_gV gw_979 gw_981 gw_40 gw_58 gw_982) rfl ⟨rfl, by decide +kernel⟩ rfl (by decide) (by decide) (Nat.le_of_ble_eq_true rfl) rfl d_R_tidy_136 (ga_vI (fun v23 w22 => ?_)) (fun _ _ => ga_thru rfl)
                refine ga_istore_n (lv2 := [(3, .int v23), (1, .int y18), (0, .ref x0), (2, .int y14)]) d_R_tidy_139 rfl (by decide) rfl ?_
                refine ga_aload_n (q := 2) d_R_tidy_140 rfl rfl ?_
                refine ga_iload_n (q := 3) d_R_tidy_141 rfl rfl ?_
                refine ga_iconst (v := (1 : Int32)) d_R_tidy_142 (by decide) ?_
                refine ga_iadd d_R_tidy_143 ?_
                refine ga_invV (nA := 1) (ci := 6) (T := T_R) (N := 39) (av := [.int (y14 + (1 : Int32))]) (a := x0) (st := []) (m_R_merge hst F x0 (y14 + (1 : Int32)) w22) (Or.inl rfl) (gz_gV gw_947 gw_949 gw_32 gw_58 gw_950) rfl ⟨rfl, by decide +kernel⟩ rfl (by decide) (by decide) (Nat.le_of_ble_eq_true rfl) rfl d_R_tidy_144 (ga_vI (fun v25 w24 => ?_)) (fun _ _ => ga_thru rfl)
                refine ga_if_eq (tgt := 157) d_R_tidy_147 (by decide) (fun h26 => ?_) (fun h26 => ?_)
                · refine ga_goto (tgt := 2) d_R_tidy_157 (by decide) ?_
                  refine ga_sub (lv2 := [(0, .ref x0), (1, .int y18)]) [2, 1] rfl ?_
                  exact ih _ _
                · refine ga_aload_n (q := 2) d_R_tidy_150 rfl rfl ?_
                  refine ga_getR (C := "LevelStoreModel") (T := T_R) (N := 39) (k := 24) (ci := 6) (fun x h => List.mem_cons_of_mem _ (iw_R x h)) rfl (by decide) (List.mem_cons_of_mem _ gw_785) d_R_tidy_151 (fun r27 => ?_)
                  refine ga_iload_n (q := 3) d_R_tidy_154 rfl rfl ?_
                  refine ga_iload_n (q := 0) d_R_tidy_155 rfl rfl ?_
                  refine ga_stI (t := 0) rfl d_R_tidy_156 (fun w28 => ?_)
                  refine ga_goto (tgt := 2) d_R_tidy_157 (by decide) ?_
                  refine ga_sub (lv2 := [(0, .ref x0), (1, .int y18)]) [2, 1] rfl ?_
                  exact ih _ _
            · refine ga_if_le (tgt := 125) d_R_tidy_118 (by decide) (fun h29 => ?_) (fun h29 => ?_)
              · refine ga_iconst (v := (0 : Int32)) d_R_tidy_125 (by decide) ?_
                refine ga_sub (lv2 := [(0, .ref x0), (2, .int y14)]) [1, 0] rfl ?_
                exact hK20 _ _
              · refine ga_iconst (v := (1 : Int32)) d_R_tidy_121 (by decide) ?_
                refine ga_goto (tgt := 126) d_R_tidy_122 (by decide) ?_
                refine ga_sub (lv2 := [(0, .ref x0), (2, .int y14)]) [1, 0] rfl ?_
                exact hK20 _ _
          · refine ga_icmp_le (tgt := 102) d_R_tidy_95 (by decide) (fun h30 => ?_) (fun h30 => ?_)
            · refine ga_aload_n (q := 0) d_R_tidy_102 rfl rfl ?_
              refine ga_iconst (v := (2 : Int32)) d_R_tidy_103 (by decide) ?_
              refine ga_invV (nA := 1) (ci := 6) (T := T_R) (N := 39) (av := [.int (2 : Int32)]) (a := x0) (st := []) (m_R_onLevel hst F x0 (2 : Int32) w8) (Or.inl rfl) (gz_gV gw_903 gw_905 gw_21 gw_58 gw_906) rfl ⟨rfl, by decide +kernel⟩ rfl (by decide) (by decide) (Nat.le_of_ble_eq_true rfl) rfl d_R_tidy_104 (ga_vI (fun v32 w31 => ?_)) (fun _ _ => ga_thru rfl)
              refine ga_iconst (v := (5 : Int32)) d_R_tidy_107 (by decide) ?_
              refine ga_icmp_le (tgt := 115) d_R_tidy_108 (by decide) (fun h33 => ?_) (fun h33 => ?_)
              · refine ga_iconst (v := (0 : Int32)) d_R_tidy_115 (by decide) ?_
                refine ga_sub (lv2 := [(0, .ref x0)]) [0] rfl ?_
                exact hK16 _ _
              · refine ga_iconst (v := (2 : Int32)) d_R_tidy_111 (by decide) ?_
                refine ga_goto (tgt := 116) d_R_tidy_112 (by decide) ?_
                refine ga_sub (lv2 := [(0, .ref x0)]) [0] rfl ?_
                exact hK16 _ _
            · refine ga_iconst (v := (1 : Int32)) d_R_tidy_98 (by decide) ?_
              refine ga_goto (tgt := 116) d_R_tidy_99 (by decide) ?_
              refine ga_sub (lv2 := [(0, .ref x0)]) [0] rfl ?_
              exact hK16 _ _
        · refine ga_iconst (v := (0 : Int32)) d_R_tidy_44 (by decide) ?_
          refine ga_istore_n (lv2 := [(2, .int (0 : Int32)), (0, .ref x0), (1, .int x1)]) d_R_tidy_45 rfl (by decide) rfl ?_
          refine ga_sub (lv2 := [(0, .ref x0), (1, .int x1), (2, .int (0 : Int32))]) [1, 2, 0] rfl ?_
          refine h_R_tidy_46 hst F x0 x1 _ (fun w34 => ?_) F (0 : Int32) w5
          refine ga_aload_n (q := 0) d_R_tidy_80 rfl rfl ?_
          refine ga_iconst (v := (1 : Int32)) d_R_tidy_81 (by decide) ?_
          refine ga_invV (nA := 1) (ci := 6) (T := T_R) (N := 39) (av := [.int (1 : Int32)]) (a := x0) (st := []) (m_R_merge hst F x0 (1 : Int32) w34) (Or.inl rfl) (gz_gV gw_947 gw_949 gw_32 gw_58 gw_950) rfl ⟨rfl, by decide +kernel⟩ rfl (by decide) (by decide) (Nat.le_of_ble_eq_true rfl) rfl d_R_tidy_82 (ga_vI (fun v36 w35 => ?_)) (fun _ _ => ga_thru rfl)
          refine ga_pop d_R_tidy_85 rfl ?_
          refine ga_goto (tgt := 2) d_R_tidy_86 (by decide) ?_
          exact ih _ _
      · exact ga_vret rfl d_R_tidy_160
set_option maxHeartbeats 4000000 in
set_option maxRecDepth 100000 in
theorem m_R_tidy (hst : l.stackTraces = false) (F : Nat) (p0 : Nat) (w : ga_W) : ga_M l S0 D gz_cl (gz_tA cT) base b gz_xn y_R_tidy ws_R_tidy 5 120 true [.ref p0] w (f_R_tidy F p0 w) := by
  refine ga_enter (cc := c_R_tidy) (maxL := 4) (ret := none) hst (by decide) rfl (Nat.le_of_ble_eq_true rfl) ?_
  intro p e R s m args below meth c ad0
  refine ga_sub (lv2 := [(0, .ref p0)]) [0] rfl ?_
  unfold f_R_tidy
  refine ga_iconst (v := (1 : Int32)) d_R_tidy_0 (by decide) ?_
  refine ga_istore_n (lv2 := [(1, .int (1 : Int32)), (0, .ref p0)]) d_R_tidy_1 rfl (by decide) rfl ?_
  refine ga_sub (lv2 := [(0, .ref p0), (1, .int (1 : Int32))]) [1, 0] rfl ?_
  exact h_R_tidy_2 hst F p0 F (1 : Int32) w
noncomputable def f_R_flushAll_7 (F : Nat) (x0 : Nat) (K49 : ga_W → ga_O) : Nat → Int32 → ga_W → ga_O
  | 0, _, _ => none
  | n + 1, x1, w => ((ga_gi w 6 15 x0).bind fun v1 => (if v1 ≤ x1 then (K49 w) else ((ga_gr w 6 11 x0).bind fun r3 => ((ga_ai w 0 r3 x1).bind fun v4 => ((ga_gr w 6 12 x0).bind fun r5 => ((ga_ai w 0 r5 x1).bind fun v6 => ((ga_gr w 6 13 x0).bind fun r7 => ((ga_ai w 0 r7 x1).bind fun v8 => ((ga_gr w 6 14 x0).bind fun r9 => ((ga_az w 1 r9 x1).bind fun v10 => (if ga_is w 6 x0 = true then ga_c (f_R_enter F x0 v4 v6 v8 v10 w) (ga_kV fun w11 => (f_R_flushAll_7 F x0 K49 n (x1 + (1 : Int32)) w11)) ga_up else none)))))))))))
noncomputable def f_R_flushAll (F : Nat) (p0 : Nat) (w : ga_W) : ga_O :=
  ((ga_put w 6 36 p0 (.int (0 : Int32))).bind fun w1 => (f_R_flushAll_7 F p0 (fun (w2 : ga_W) => ((ga_gi w2 6 36 p0).bind fun v3 => (if ga_is w2 6 p0 = true then ga_c (f_R_insert F p0 (0 : Int32) (0 : Int32) (0 : Int32) v3 w2) (ga_kV fun w4 => ((ga_put w4 6 15 p0 (.int (0 : Int32))).bind fun w5 => ((ga_put w5 6 17 p0 (.int (0 : Int32))).bind fun w6 => ((ga_put w6 6 18 p0 (.int (0 : Int32))).bind fun w7 => ((ga_gi w7 6 26 p0).bind fun v8 => (if v8 = 0 then (if ga_is w7 6 p0 = true then ga_c (f_R_tidy F p0 w7) (ga_kV fun w10 => (some (.inl none, w10))) ga_up else none) else (some (.inl none, w7)))))))) ga_up else none))) F (0 : Int32) w1))
set_option maxHeartbeats 4000000 in
set_option maxRecDepth 100000 in
theorem h_R_flushAll_7 (hst : l.stackTraces = false) (F : Nat) (x0 : Nat) (K49 : ga_W → ga_O) (hK49 : ∀ (w : ga_W), ga_J l S0 D gz_cl (gz_tA cT) base b gz_xn p e R s m args below meth c 2 ws_R_flushAll y_R_flushAll.cls c_R_flushAll none [] y_R_flushAll.name 6 143 true ad0 w0 (ga_MQ gz_xn D gz_cl (gz_tA cT) base b s args below ad0 w0) 49 [(0, .ref x0)] [] w (K49 w)) : ∀ (n : Nat) (x1 : Int32) (w : ga_W), ga_J l S0 D gz_cl (gz_tA cT) base b gz_xn p e R s m args below meth c 2 ws_R_flushAll y_R_flushAll.cls c_R_flushAll none [] y_R_flushAll.name 6 143 true ad0 w0 (ga_MQ gz_xn D gz_cl (gz_tA cT) base b s args below ad0 w0) 7 [(0, .ref x0), (1, .int x1)] [] w (f_R_flushAll_7 F x0 K49 n x1 w) := by
  intro n
  induction n with
  | zero => intro x1 w; exact ga_no
  | succ n ih =>
    intro x1 w
    rw [f_R_flushAll_7]
    refine ga_iload_n (q := 1) d_R_flushAll_7 rfl rfl ?_
    refine ga_aload_n (q := 0) d_R_flushAll_8 rfl rfl ?_
    refine ga_getI (C := "LevelStoreModel") (T := T_R) (N := 39) (k := 15) (ci := 6) (fun x h => List.mem_cons_of_mem _ (iw_R x h)) rfl (by decide) (List.mem_cons_of_mem _ gw_776) d_R_flushAll_9 (fun v1 => ?_)
    refine ga_icmp_ge (tgt := 49) d_R_flushAll_12 (by decide) (fun h2 => ?_) (fun h2 => ?_)
    · refine ga_sub (lv2 := [(0, .ref x0)]) [0] rfl ?_
      exact hK49  _
    · refine ga_aload_n (q := 0) d_R_flushAll_15 rfl rfl ?_
      refine ga_aload_n (q := 0) d_R_flushAll_16 rfl rfl ?_
      refine ga_getR (C := "LevelStoreModel") (T := T_R) (N := 39) (k := 11) (ci := 6) (fun x h => List.mem_cons_of_mem _ (iw_R x h)) rfl (by decide) (List.mem_cons_of_mem _ gw_772) d_R_flushAll_17 (fun r3 => ?_)
      refine ga_iload_n (q := 1) d_R_flushAll_20 rfl rfl ?_
      refine ga_ldI (t := 0) rfl d_R_flushAll_21 (fun v4 => ?_)
      refine ga_aload_n (q := 0) d_R_flushAll_22 rfl rfl ?_
      refine ga_getR (C := "LevelStoreModel") (T := T_R) (N := 39) (k := 12) (ci := 6) (fun x h => List.mem_cons_of_mem _ (iw_R x h)) rfl (by decide) (List.mem_cons_of_mem _ gw_773) d_R_flushAll_23 (fun r5 => ?_)
      refine ga_iload_n (q := 1) d_R_flushAll_26 rfl rfl ?_
      refine ga_ldI (t := 0) rfl d_R_flushAll_27 (fun v6 => ?_)
      refine ga_aload_n (q := 0) d_R_flushAll_28 rfl rfl ?_
      refine ga_getR (C := "LevelStoreModel") (T := T_R) (N := 39) (k := 13) (ci := 6) (fun x h => List.mem_cons_of_mem _ (iw_R x h)) rfl (by decide) (List.mem_cons_of_mem _ gw_774) d_R_flushAll_29 (fun r7 => ?_)
      refine ga_iload_n (q := 1) d_R_flushAll_32 rfl rfl ?_
      refine ga_ldI (t := 0) rfl d_R_flushAll_33 (fun v8 => ?_)
      refine ga_aload_n (q := 0) d_R_flushAll_34 rfl rfl ?_
      refine ga_getR (C := "LevelStoreModel") (T := T_R) (N := 39) (k := 14) (ci := 6) (fun x h => List.mem_cons_of_mem _ (iw_R x h)) rfl (by decide) (List.mem_cons_of_mem _ gw_775) d_R_flushAll_35 (fun r9 => ?_)
      refine ga_iload_n (q := 1) d_R_flushAll_38 rfl rfl ?_
      refine ga_ldZ (t := 1) rfl d_R_flushAll_39 (fun v10 => ?_)
      refine ga_invV (nA := 4) (ci := 6) (T := T_R) (N := 39) (av := [.int v4, .int v6, .int v8, .int v10]) (a := x0) (st := []) (m_R_enter hst F x0 v4 v6 v8 v10 w) (Or.inl rfl) (gz_gV gw_919 gw_921 gw_25 gw_58 gw_922) rfl ⟨rfl, by decide +kernel⟩ rfl (by decide) (by decide) (Nat.le_of_ble_eq_true rfl) rfl d_R_flushAll_40 (ga_vV (fun w11 => ?_)) (fun _ _ => ga_thru rfl)
      refine ga_iinc (q := 1) (v := (x1 + (1 : Int32))) (lv2 := [(1, .int (x1 + (1 : Int32))), (0, .ref x0)]) d_R_flushAll_43 rfl rfl (by decide) rfl ?_
      refine ga_goto (tgt := 7) d_R_flushAll_46 (by decide) ?_
      refine ga_sub (lv2 := [(0, .ref x0), (1, .int (x1 + (1 : Int32)))]) [1, 0] rfl ?_
      exact ih _ _
set_option maxHeartbeats 4000000 in
set_option maxRecDepth 100000 in
theorem m_R_flushAll (hst : l.stackTraces = false) (F : Nat) (p0 : Nat) (w : ga_W) : ga_M l S0 D gz_cl (gz_tA cT) base b gz_xn y_R_flushAll ws_R_flushAll 6 143 true [.ref p0] w (f_R_flushAll F p0 w) := by
  refine ga_enter (cc := c_R_flushAll) (maxL := 2) (ret := none) hst (by decide) rfl (Nat.le_of_ble_eq_true rfl) ?_
  intro p e R s m args below meth c ad0
  refine ga_sub (lv2 := [(0, .ref p0)]) [0] rfl ?_
  unfold f_R_flushAll
  refine ga_aload_n (q := 0) d_R_flushAll_0 rfl rfl ?_
  refine ga_iconst (v := (0 : Int32)) d_R_flushAll_1 (by decide) ?_
  refine ga_putB (C := "LevelStoreModel") (T := T_R) (N := 39) (k := 36) (ci := 6) (ty0 := ty_R) (fun x h => List.mem_cons_of_mem _ (iw_R x h)) ty_R_ok nm_R rfl (by decide) (List.mem_cons_of_mem _ gw_797) (Or.inl rfl) (fun _ => ⟨rfl, rfl⟩) d_R_flushAll_2 (fun w1 => ?_)
  refine ga_iconst (v := (0 : Int32)) d_R_flushAll_5 (by decide) ?_
  refine ga_istore_n (lv2 := [(1, .int (0 : Int32)), (0, .ref p0)]) d_R_flushAll_6 rfl (by decide) rfl ?_
  refine ga_sub (lv2 := [(0, .ref p0), (1, .int (0 : Int32))]) [1, 0] rfl ?_
  refine h_R_flushAll_7 hst F p0 _ (fun w2 => ?_) F (0 : Int32) w1
  refine ga_aload_n (q := 0) d_R_flushAll_49 rfl rfl ?_
  refine ga_iconst (v := (0 : Int32)) d_R_flushAll_50 (by decide) ?_
  refine ga_iconst (v := (0 : Int32)) d_R_flushAll_51 (by decide) ?_
  refine ga_iconst (v := (0 : Int32)) d_R_flushAll_52 (by decide) ?_
  refine ga_aload_n (q := 0) d_R_flushAll_53 rfl rfl ?_
  refine ga_getI (C := "LevelStoreModel") (T := T_R) (N := 39) (k := 36) (ci := 6) (fun x h => List.mem_cons_of_mem _ (iw_R x h)) rfl (by decide) (List.mem_cons_of_mem _ gw_797) d_R_flushAll_54 (fun v3 => ?_)
  refine ga_invV (nA := 4) (ci := 6) (T := T_R) (N := 39) (av := [.int (0 : Int32), .int (0 : Int32), .int (0 : Int32), .int v3]) (a := p0) (st := []) (m_R_insert hst F p0 (0 : Int32) (0 : Int32) (0 : Int32) v3 w2) (Or.inl rfl) (gz_gV gw_927 gw_929 gw_27 gw_58 gw_930) rfl ⟨rfl, by decide +kernel⟩ rfl (by decide) (by decide) (Nat.le_of_ble_eq_true rfl) rfl d_R_flushAll_57 (ga_vV (fun w4 => ?_)) (fun _ _ => ga_thru rfl)
  refine ga_aload_n (q := 0) d_R_flushAll_60 rfl rfl ?_
  refine ga_iconst (v := (0 : Int32)) d_R_flushAll_61 (by decide) ?_
  refine ga_putB (C := "LevelStoreModel") (T := T_R) (N := 39) (k := 15) (ci := 6) (ty0 := ty_R) (fun x h => List.mem_cons_of_mem _ (iw_R x h)) ty_R_ok nm_R rfl (by decide) (List.mem_cons_of_mem _ gw_776) (Or.inl rfl) (fun _ => ⟨rfl, rfl⟩) d_R_flushAll_62 (fun w5 => ?_)
  refine ga_aload_n (q := 0) d_R_flushAll_65 rfl rfl ?_
  refine ga_iconst (v := (0 : Int32)) d_R_flushAll_66 (by decide) ?_
  refine ga_putB (C := "LevelStoreModel") (T := T_R) (N := 39) (k := 17) (ci := 6) (ty0 := ty_R) (fun x h => List.mem_cons_of_mem _ (iw_R x h)) ty_R_ok nm_R rfl (by decide) (List.mem_cons_of_mem _ gw_778) (Or.inl rfl) (fun _ => ⟨rfl, rfl⟩) d_R_flushAll_67 (fun w6 => ?_)
  refine ga_aload_n (q := 0) d_R_flushAll_70 rfl rfl ?_
  refine ga_iconst (v := (0 : Int32)) d_R_flushAll_71 (by decide) ?_
  refine ga_putB (C := "LevelStoreModel") (T := T_R) (N := 39) (k := 18) (ci := 6) (ty0 := ty_R) (fun x h => List.mem_cons_of_mem _ (iw_R x h)) ty_R_ok nm_R rfl (by decide) (List.mem_cons_of_mem _ gw_779) (Or.inl rfl) (fun _ => ⟨rfl, rfl⟩) d_R_flushAll_72 (fun w7 => ?_)
  refine ga_aload_n (q := 0) d_R_flushAll_75 rfl rfl ?_
  refine ga_getI (C := "LevelStoreModel") (T := T_R) (N := 39) (k := 26) (ci := 6) (fun x h => List.mem_cons_of_mem _ (iw_R x h)) rfl (by decide) (List.mem_cons_of_mem _ gw_787) d_R_flushAll_76 (fun v8 => ?_)
  refine ga_if_ne (tgt := 86) d_R_flushAll_79 (by decide) (fun h9 => ?_) (fun h9 => ?_)
  · refine ga_aload_n (q := 0) d_R_flushAll_82 rfl rfl ?_
    refine ga_invV (nA := 0) (ci := 6) (T := T_R) (N := 39) (av := []) (a := p0) (st := []) (m_R_tidy hst F p0 w7) (Or.inl rfl) (gz_gV gw_943 gw_945 gw_31 gw_58 gw_946) rfl ⟨rfl, by decide +kernel⟩ rfl (by decide) (by decide) (Nat.le_of_ble_eq_true rfl) rfl d_R_flushAll_83 (ga_vV (fun w10 => ?_)) (fun _ _ => ga_thru rfl)
    exact ga_vret rfl d_R_flushAll_86
  · exact ga_vret rfl d_R_flushAll_86
noncomputable def f_R_logged (F : Nat) (p0 : Nat) (p1 : Int32) (w : ga_W) : ga_O :=
  ((ga_gr w 6 16 p0).bind fun r1 => ((ga_gi w 6 17 p0).bind fun v2 => ((ga_si w 0 r1 v2 p1).bind fun w3 => ((ga_gi w3 6 17 p0).bind fun v4 => ((ga_put w3 6 17 p0 (.int (v4 + (1 : Int32)))).bind fun w5 => ((ga_gi w5 6 15 p0).bind fun v6 => (if v6 < (8 : Int32) then (some (.inl none, w5)) else (if ga_is w5 6 p0 = true then ga_c (f_R_flushAll F p0 w5) (ga_kV fun w8 => (some (.inl none, w8))) ga_up else none))))))))
set_option maxHeartbeats 4000000 in
set_option maxRecDepth 100000 in
theorem m_R_logged (hst : l.stackTraces = false) (F : Nat) (p0 : Nat) (p1 : Int32) (w : ga_W) : ga_M l S0 D gz_cl (gz_tA cT) base b gz_xn y_R_logged ws_R_logged 7 164 true [.ref p0, .int p1] w (f_R_logged F p0 p1 w) := by
  refine ga_enter (cc := c_R_logged) (maxL := 2) (ret := none) hst (by decide) rfl (Nat.le_of_ble_eq_true rfl) ?_
  intro p e R s m args below meth c ad0
  refine ga_sub (lv2 := [(0, .ref p0), (1, .int p1)]) [0, 1] rfl ?_
  unfold f_R_logged
  refine ga_aload_n (q := 0) d_R_logged_0 rfl rfl ?_
  refine ga_getR (C := "LevelStoreModel") (T := T_R) (N := 39) (k := 16) (ci := 6) (fun x h => List.mem_cons_of_mem _ (iw_R x h)) rfl (by decide) (List.mem_cons_of_mem _ gw_777) d_R_logged_1 (fun r1 => ?_)
  refine ga_aload_n (q := 0) d_R_logged_4 rfl rfl ?_
  refine ga_getI (C := "LevelStoreModel") (T := T_R) (N := 39) (k := 17) (ci := 6) (fun x h => List.mem_cons_of_mem _ (iw_R x h)) rfl (by decide) (List.mem_cons_of_mem _ gw_778) d_R_logged_5 (fun v2 => ?_)
  refine ga_iload_n (q := 1) d_R_logged_8 rfl rfl ?_
  refine ga_stI (t := 0) rfl d_R_logged_9 (fun w3 => ?_)
  refine ga_aload_n (q := 0) d_R_logged_10 rfl rfl ?_
  refine ga_dup d_R_logged_11 rfl ?_
  refine ga_getI (C := "LevelStoreModel") (T := T_R) (N := 39) (k := 17) (ci := 6) (fun x h => List.mem_cons_of_mem _ (iw_R x h)) rfl (by decide) (List.mem_cons_of_mem _ gw_778) d_R_logged_12 (fun v4 => ?_)
  refine ga_iconst (v := (1 : Int32)) d_R_logged_15 (by decide) ?_
  refine ga_iadd d_R_logged_16 ?_
  refine ga_putB (C := "LevelStoreModel") (T := T_R) (N := 39) (k := 17) (ci := 6) (ty0 := ty_R) (fun x h => List.mem_cons_of_mem _ (iw_R x h)) ty_R_ok nm_R rfl (by decide) (List.mem_cons_of_mem _ gw_778) (Or.inl rfl) (fun _ => ⟨rfl, rfl⟩) d_R_logged_17 (fun w5 => ?_)
  refine ga_aload_n (q := 0) d_R_logged_20 rfl rfl ?_
  refine ga_getI (C := "LevelStoreModel") (T := T_R) (N := 39) (k := 15) (ci := 6) (fun x h => List.mem_cons_of_mem _ (iw_R x h)) rfl (by decide) (List.mem_cons_of_mem _ gw_776) d_R_logged_21 (fun v6 => ?_)
  refine ga_bipush (v := (8 : Int32)) d_R_logged_24 (by decide) ?_
  refine ga_icmp_lt (tgt := 33) d_R_logged_26 (by decide) (fun h7 => ?_) (fun h7 => ?_)
  · exact ga_vret rfl d_R_logged_33
  · refine ga_aload_n (q := 0) d_R_logged_29 rfl rfl ?_
    refine ga_invV (nA := 0) (ci := 6) (T := T_R) (N := 39) (av := []) (a := p0) (st := []) (m_R_flushAll hst F p0 w5) (Or.inl rfl) (gz_gV gw_915 gw_917 gw_24 gw_58 gw_918) rfl ⟨rfl, by decide +kernel⟩ rfl (by decide) (by decide) (Nat.le_of_ble_eq_true rfl) rfl d_R_logged_30 (ga_vV (fun w8 => ?_)) (fun _ _ => ga_thru rfl)
    exact ga_vret rfl d_R_logged_33
noncomputable def f_R_write (F : Nat) (p0 : Nat) (p1 : Int32) (p2 : Int32) (p3 : Int32) (w : ga_W) : ga_O :=
  ((ga_put w 6 0 p0 (.int (0 : Int32))).bind fun w1 => (ga_c (f_R_in F p1 (0 : Int32) (63 : Int32) w1) (ga_kI fun v3 w2 => (if v3 = 0 then (if ga_is w2 6 p0 = true then ga_c (f_R_raise F p0 (1 : Int32) w2) (ga_kI fun v6 w5 => (some (.inl (some (.int v6)), w5))) ga_up else none) else ((ga_gi w2 6 22 p0).bind fun v7 => (if v7 = (4 : Int32) then (if ga_is w2 6 p0 = true then ga_c (f_R_raise F p0 (3 : Int32) w2) (ga_kI fun v10 w9 => (some (.inl (some (.int v10)), w9))) ga_up else none) else ((ga_gi w2 6 22 p0).bind fun v11 => (if v11 < 0 then (if ga_is w2 6 p0 = true then ga_c (f_R_full F p0 (1 : Int32) w2) (ga_kI fun v14 w13 => (if v14 = 0 then (if ga_is w13 6 p0 = true then ga_c (f_R_remember F p0 p1 p2 p3 w13) (ga_kV fun w16 => ((ga_gi w16 6 25 p0).bind fun v17 => (if ga_is w16 6 p0 = true then ga_c (f_R_logged F p0 (1 : Int32) w16) (ga_kV fun w18 => (some (.inl (some (.int v17)), w18))) ga_up else none))) ga_up else none) else (if ga_is w13 6 p0 = true then ga_c (f_R_raise F p0 (2 : Int32) w13) (ga_kI fun v20 w19 => (some (.inl (some (.int v20)), w19))) ga_up else none))) ga_up else none) else ((ga_gr w2 6 19 p0).bind fun r21 => ((ga_gi w2 6 22 p0).bind fun v22 => ((ga_si w2 0 r21 v22 p1).bind fun w23 => ((ga_gr w23 6 20 p0).bind fun r24 => ((ga_gi w23 6 22 p0).bind fun v25 => ((ga_si w23 0 r24 v25 p2).bind fun w26 => ((ga_gr w26 6 21 p0).bind fun r27 => ((ga_gi w26 6 22 p0).bind fun v28 => ((ga_sz w26 1 r27 v28 p3).bind fun w29 => ((ga_gi w29 6 22 p0).bind fun v30 => ((ga_put w29 6 22 p0 (.int (v30 + (1 : Int32)))).bind fun w31 => ((ga_gi w31 6 22 p0).bind fun v32 => (some (.inl (some (.int v32)), w31)))))))))))))))))))) ga_up))
set_option maxHeartbeats 4000000 in
set_option maxRecDepth 100000 in
theorem m_R_write (hst : l.stackTraces = false) (F : Nat) (p0 : Nat) (p1 : Int32) (p2 : Int32) (p3 : Int32) (w : ga_W) : ga_M l S0 D gz_cl (gz_tA cT) base b gz_xn y_R_write ws_R_write 8 185 true [.ref p0, .int p1, .int p2, .int p3] w (f_R_write F p0 p1 p2 p3 w) := by
  refine ga_enter (cc := c_R_write) (maxL := 5) (ret := (some .int)) hst (by decide) rfl (Nat.le_of_ble_eq_true rfl) ?_
  intro p e R s m args below meth c ad0
  refine ga_sub (lv2 := [(0, .ref p0), (1, .int p1), (2, .int p2), (3, .int p3)]) [0, 1, 2, 3] rfl ?_
  unfold f_R_write
  refine ga_aload_n (q := 0) d_R_write_0 rfl rfl ?_
  refine ga_iconst (v := (0 : Int32)) d_R_write_1 (by decide) ?_
  refine ga_putB (C := "LevelStoreModel") (T := T_R) (N := 39) (k := 0) (ci := 6) (ty0 := ty_R) (fun x h => List.mem_cons_of_mem _ (iw_R x h)) ty_R_ok nm_R rfl (by decide) (List.mem_cons_of_mem _ gw_761) (Or.inl rfl) (fun _ => ⟨rfl, rfl⟩) d_R_write_2 (fun w1 => ?_)
  refine ga_iload_n (q := 1) d_R_write_5 rfl rfl ?_
  refine ga_iconst (v := (0 : Int32)) d_R_write_6 (by decide) ?_
  refine ga_bipush (v := (63 : Int32)) d_R_write_7 (by decide) ?_
  refine ga_invS (nA := 3) (av := [.int p1, .int (0 : Int32), .int (63 : Int32)]) (st := []) (m_R_in hst F p1 (0 : Int32) (63 : Int32) w1) (Or.inl rfl) (gz_gS gw_892 gw_893 gw_58 gw_894) rfl (by decide +kernel) rfl (by decide) (by decide) (Nat.le_of_ble_eq_true rfl) d_R_write_9 (ga_vI (fun v3 w2 => ?_)) (fun _ _ => ga_thru rfl)
  refine ga_if_ne (tgt := 21) d_R_write_12 (by decide) (fun h4 => ?_) (fun h4 => ?_)
  · refine ga_aload_n (q := 0) d_R_write_15 rfl rfl ?_
    refine ga_iconst (v := (1 : Int32)) d_R_write_16 (by decide) ?_
    refine ga_invV (nA := 1) (ci := 6) (T := T_R) (N := 39) (av := [.int (1 : Int32)]) (a := p0) (st := []) (m_R_raise hst F p0 (1 : Int32) w2) (Or.inl rfl) (gz_gV gw_895 gw_897 gw_19 gw_58 gw_898) rfl ⟨rfl, by decide +kernel⟩ rfl (by decide) (by decide) (Nat.le_of_ble_eq_true rfl) rfl d_R_write_17 (ga_vI (fun v6 w5 => ?_)) (fun _ _ => ga_thru rfl)
    exact ga_iret rfl d_R_write_20
  · refine ga_aload_n (q := 0) d_R_write_21 rfl rfl ?_
    refine ga_getI (C := "LevelStoreModel") (T := T_R) (N := 39) (k := 22) (ci := 6) (fun x h => List.mem_cons_of_mem _ (iw_R x h)) rfl (by decide) (List.mem_cons_of_mem _ gw_783) d_R_write_22 (fun v7 => ?_)
    refine ga_iconst (v := (4 : Int32)) d_R_write_25 (by decide) ?_
    refine ga_icmp_ne (tgt := 35) d_R_write_26 (by decide) (fun h8 => ?_) (fun h8 => ?_)
    · refine ga_aload_n (q := 0) d_R_write_29 rfl rfl ?_
      refine ga_iconst (v := (3 : Int32)) d_R_write_30 (by decide) ?_
      refine ga_invV (nA := 1) (ci := 6) (T := T_R) (N := 39) (av := [.int (3 : Int32)]) (a := p0) (st := []) (m_R_raise hst F p0 (3 : Int32) w2) (Or.inl rfl) (gz_gV gw_895 gw_897 gw_19 gw_58 gw_898) rfl ⟨rfl, by decide +kernel⟩ rfl (by decide) (by decide) (Nat.le_of_ble_eq_true rfl) rfl d_R_write_31 (ga_vI (fun v10 w9 => ?_)) (fun _ _ => ga_thru rfl)
      exact ga_iret rfl d_R_write_34
    · refine ga_aload_n (q := 0) d_R_write_35 rfl rfl ?_
      refine ga_getI (C := "LevelStoreModel") (T := T_R) (N := 39) (k := 22) (ci := 6) (fun x h => List.mem_cons_of_mem _ (iw_R x h)) rfl (by decide) (List.mem_cons_of_mem _ gw_783) d_R_write_36 (fun v11 => ?_)
      refine ga_if_lt (tgt := 87) d_R_write_39 (by decide) (fun h12 => ?_) (fun h12 => ?_)
      · refine ga_aload_n (q := 0) d_R_write_87 rfl rfl ?_
        refine ga_iconst (v := (1 : Int32)) d_R_write_88 (by decide) ?_
        refine ga_invV (nA := 1) (ci := 6) (T := T_R) (N := 39) (av := [.int (1 : Int32)]) (a := p0) (st := []) (m_R_full hst F p0 (1 : Int32) w2) (Or.inl rfl) (gz_gV gw_899 gw_901 gw_20 gw_58 gw_902) rfl ⟨rfl, by decide +kernel⟩ rfl (by decide) (by decide) (Nat.le_of_ble_eq_true rfl) rfl d_R_write_89 (ga_vI (fun v14 w13 => ?_)) (fun _ _ => ga_thru rfl)
        refine ga_if_eq (tgt := 101) d_R_write_92 (by decide) (fun h15 => ?_) (fun h15 => ?_)
        · refine ga_aload_n (q := 0) d_R_write_101 rfl rfl ?_
          refine ga_iload_n (q := 1) d_R_write_102 rfl rfl ?_
          refine ga_iload_n (q := 2) d_R_write_103 rfl rfl ?_
          refine ga_iload_n (q := 3) d_R_write_104 rfl rfl ?_
          refine ga_invV (nA := 3) (ci := 6) (T := T_R) (N := 39) (av := [.int p1, .int p2, .int p3]) (a := p0) (st := []) (m_R_remember hst F p0 p1 p2 p3 w13) (Or.inl rfl) (gz_gV gw_907 gw_909 gw_22 gw_58 gw_910) rfl ⟨rfl, by decide +kernel⟩ rfl (by decide) (by decide) (Nat.le_of_ble_eq_true rfl) rfl d_R_write_105 (ga_vV (fun w16 => ?_)) (fun _ _ => ga_thru rfl)
          refine ga_aload_n (q := 0) d_R_write_108 rfl rfl ?_
          refine ga_getI (C := "LevelStoreModel") (T := T_R) (N := 39) (k := 25) (ci := 6) (fun x h => List.mem_cons_of_mem _ (iw_R x h)) rfl (by decide) (List.mem_cons_of_mem _ gw_786) d_R_write_109 (fun v17 => ?_)
          refine ga_istore (lv2 := [(4, .int v17), (0, .ref p0), (1, .int p1), (2, .int p2), (3, .int p3)]) d_R_write_112 (by decide) rfl ?_
          refine ga_aload_n (q := 1) d_R_write_114 rfl rfl ?_
          refine ga_iconst (v := (1 : Int32)) d_R_write_115 (by decide) ?_
          refine ga_invV (nA := 1) (ci := 6) (T := T_R) (N := 39) (av := [.int (1 : Int32)]) (a := p0) (st := []) (m_R_logged hst F p0 (1 : Int32) w16) (Or.inl rfl) (gz_gV gw_911 gw_913 gw_23 gw_58 gw_914) rfl ⟨rfl, by decide +kernel⟩ rfl (by decide) (by decide) (Nat.le_of_ble_eq_true rfl) rfl d_R_write_116 (ga_vV (fun w18 => ?_)) (fun _ _ => ga_thru rfl)
          refine ga_iload (q := 0) d_R_write_119 rfl ?_
          exact ga_iret rfl d_R_write_121
        · refine ga_aload_n (q := 0) d_R_write_95 rfl rfl ?_
          refine ga_iconst (v := (2 : Int32)) d_R_write_96 (by decide) ?_
          refine ga_invV (nA := 1) (ci := 6) (T := T_R) (N := 39) (av := [.int (2 : Int32)]) (a := p0) (st := []) (m_R_raise hst F p0 (2 : Int32) w13) (Or.inl rfl) (gz_gV gw_895 gw_897 gw_19 gw_58 gw_898) rfl ⟨rfl, by decide +kernel⟩ rfl (by decide) (by decide) (Nat.le_of_ble_eq_true rfl) rfl d_R_write_97 (ga_vI (fun v20 w19 => ?_)) (fun _ _ => ga_thru rfl)
          exact ga_iret rfl d_R_write_100
      · refine ga_aload_n (q := 0) d_R_write_42 rfl rfl ?_
        refine ga_getR (C := "LevelStoreModel") (T := T_R) (N := 39) (k := 19) (ci := 6) (fun x h => List.mem_cons_of_mem _ (iw_R x h)) rfl (by decide) (List.mem_cons_of_mem _ gw_780) d_R_write_43 (fun r21 => ?_)
        refine ga_aload_n (q := 0) d_R_write_46 rfl rfl ?_
        refine ga_getI (C := "LevelStoreModel") (T := T_R) (N := 39) (k := 22) (ci := 6) (fun x h => List.mem_cons_of_mem _ (iw_R x h)) rfl (by decide) (List.mem_cons_of_mem _ gw_783) d_R_write_47 (fun v22 => ?_)
        refine ga_iload_n (q := 1) d_R_write_50 rfl rfl ?_
        refine ga_stI (t := 0) rfl d_R_write_51 (fun w23 => ?_)
        refine ga_aload_n (q := 0) d_R_write_52 rfl rfl ?_
        refine ga_getR (C := "LevelStoreModel") (T := T_R) (N := 39) (k := 20) (ci := 6) (fun x h => List.mem_cons_of_mem _ (iw_R x h)) rfl (by decide) (List.mem_cons_of_mem _ gw_781) d_R_write_53 (fun r24 => ?_)
        refine ga_aload_n (q := 0) d_R_write_56 rfl rfl ?_
        refine ga_getI (C := "LevelStoreModel") (T := T_R) (N := 39) (k := 22) (ci := 6) (fun x h => List.mem_cons_of_mem _ (iw_R x h)) rfl (by decide) (List.mem_cons_of_mem _ gw_783) d_R_write_57 (fun v25 => ?_)
        refine ga_iload_n (q := 2) d_R_write_60 rfl rfl ?_
        refine ga_stI (t := 0) rfl d_R_write_61 (fun w26 => ?_)
        refine ga_aload_n (q := 0) d_R_write_62 rfl rfl ?_
        refine ga_getR (C := "LevelStoreModel") (T := T_R) (N := 39) (k := 21) (ci := 6) (fun x h => List.mem_cons_of_mem _ (iw_R x h)) rfl (by decide) (List.mem_cons_of_mem _ gw_782) d_R_write_63 (fun r27 => ?_)
        refine ga_aload_n (q := 0) d_R_write_66 rfl rfl ?_
        refine ga_getI (C := "LevelStoreModel") (T := T_R) (N := 39) (k := 22) (ci := 6) (fun x h => List.mem_cons_of_mem _ (iw_R x h)) rfl (by decide) (List.mem_cons_of_mem _ gw_783) d_R_write_67 (fun v28 => ?_)
        refine ga_iload_n (q := 3) d_R_write_70 rfl rfl ?_
        refine ga_stZ (t := 1) rfl d_R_write_71 (fun w29 => ?_)
        refine ga_aload_n (q := 0) d_R_write_72 rfl rfl ?_
        refine ga_dup d_R_write_73 rfl ?_
        refine ga_getI (C := "LevelStoreModel") (T := T_R) (N := 39) (k := 22) (ci := 6) (fun x h => List.mem_cons_of_mem _ (iw_R x h)) rfl (by decide) (List.mem_cons_of_mem _ gw_783) d_R_write_74 (fun v30 => ?_)
        refine ga_iconst (v := (1 : Int32)) d_R_write_77 (by decide) ?_
        refine ga_iadd d_R_write_78 ?_
        refine ga_putB (C := "LevelStoreModel") (T := T_R) (N := 39) (k := 22) (ci := 6) (ty0 := ty_R) (fun x h => List.mem_cons_of_mem _ (iw_R x h)) ty_R_ok nm_R rfl (by decide) (List.mem_cons_of_mem _ gw_783) (Or.inl rfl) (fun _ => ⟨rfl, rfl⟩) d_R_write_79 (fun w31 => ?_)
        refine ga_aload_n (q := 0) d_R_write_82 rfl rfl ?_
        refine ga_getI (C := "LevelStoreModel") (T := T_R) (N := 39) (k := 22) (ci := 6) (fun x h => List.mem_cons_of_mem _ (iw_R x h)) rfl (by decide) (List.mem_cons_of_mem _ gw_783) d_R_write_83 (fun v32 => ?_)
        exact ga_iret rfl d_R_write_86
noncomputable def f_R_put (F : Nat) (p0 : Nat) (p1 : Int32) (p2 : Int32) (w : ga_W) : ga_O :=
  (if ga_is w 6 p0 = true then ga_c (f_R_write F p0 p1 p2 (0 : Int32) w) (ga_kI fun v2 w1 => (some (.inl (some (.int v2)), w1))) ga_up else none)
set_option maxHeartbeats 4000000 in
set_option maxRecDepth 100000 in
theorem m_R_put (hst : l.stackTraces = false) (F : Nat) (p0 : Nat) (p1 : Int32) (p2 : Int32) (w : ga_W) : ga_M l S0 D gz_cl (gz_tA cT) base b gz_xn y_R_put ws_R_put 9 209 true [.ref p0, .int p1, .int p2] w (f_R_put F p0 p1 p2 w) := by
  refine ga_enter (cc := c_R_put) (maxL := 3) (ret := (some .int)) hst (by decide) rfl (Nat.le_of_ble_eq_true rfl) ?_
  intro p e R s m args below meth c ad0
  refine ga_sub (lv2 := [(0, .ref p0), (1, .int p1), (2, .int p2)]) [0, 1, 2] rfl ?_
  unfold f_R_put
  refine ga_aload_n (q := 0) d_R_put_0 rfl rfl ?_
  refine ga_iload_n (q := 1) d_R_put_1 rfl rfl ?_
  refine ga_iload_n (q := 2) d_R_put_2 rfl rfl ?_
  refine ga_iconst (v := (0 : Int32)) d_R_put_3 (by decide) ?_
  refine ga_invV (nA := 3) (ci := 6) (T := T_R) (N := 39) (av := [.int p1, .int p2, .int (0 : Int32)]) (a := p0) (st := []) (m_R_write hst F p0 p1 p2 (0 : Int32) w) (Or.inl rfl) (gz_gV gw_888 gw_890 gw_18 gw_58 gw_891) rfl ⟨rfl, by decide +kernel⟩ rfl (by decide) (by decide) (Nat.le_of_ble_eq_true rfl) rfl d_R_put_4 (ga_vI (fun v2 w1 => ?_)) (fun _ _ => ga_thru rfl)
  exact ga_iret rfl d_R_put_7
noncomputable def f_R_remove (F : Nat) (p0 : Nat) (p1 : Int32) (w : ga_W) : ga_O :=
  (if ga_is w 6 p0 = true then ga_c (f_R_write F p0 p1 (0 : Int32) (1 : Int32) w) (ga_kI fun v2 w1 => (some (.inl (some (.int v2)), w1))) ga_up else none)
set_option maxHeartbeats 4000000 in
set_option maxRecDepth 100000 in
theorem m_R_remove (hst : l.stackTraces = false) (F : Nat) (p0 : Nat) (p1 : Int32) (w : ga_W) : ga_M l S0 D gz_cl (gz_tA cT) base b gz_xn y_R_remove ws_R_remove 9 209 true [.ref p0, .int p1] w (f_R_remove F p0 p1 w) := by
  refine ga_enter (cc := c_R_remove) (maxL := 2) (ret := (some .int)) hst (by decide) rfl (Nat.le_of_ble_eq_true rfl) ?_
  intro p e R s m args below meth c ad0
  refine ga_sub (lv2 := [(0, .ref p0), (1, .int p1)]) [0, 1] rfl ?_
  unfold f_R_remove
  refine ga_aload_n (q := 0) d_R_remove_0 rfl rfl ?_
  refine ga_iload_n (q := 1) d_R_remove_1 rfl rfl ?_
  refine ga_iconst (v := (0 : Int32)) d_R_remove_2 (by decide) ?_
  refine ga_iconst (v := (1 : Int32)) d_R_remove_3 (by decide) ?_
  refine ga_invV (nA := 3) (ci := 6) (T := T_R) (N := 39) (av := [.int p1, .int (0 : Int32), .int (1 : Int32)]) (a := p0) (st := []) (m_R_write hst F p0 p1 (0 : Int32) (1 : Int32) w) (Or.inl rfl) (gz_gV gw_888 gw_890 gw_18 gw_58 gw_891) rfl ⟨rfl, by decide +kernel⟩ rfl (by decide) (by decide) (Nat.le_of_ble_eq_true rfl) rfl d_R_remove_4 (ga_vI (fun v2 w1 => ?_)) (fun _ _ => ga_thru rfl)
  exact ga_iret rfl d_R_remove_7
noncomputable def f_R_open (F : Nat) (p0 : Nat) (w : ga_W) : ga_O :=
  ((ga_put w 6 0 p0 (.int (0 : Int32))).bind fun w1 => ((ga_gi w1 6 22 p0).bind fun v2 => (if v2 < 0 then ((ga_put w1 6 22 p0 (.int (0 : Int32))).bind fun w4 => ((ga_gi w4 6 25 p0).bind fun v5 => (some (.inl (some (.int v5)), w4)))) else (if ga_is w1 6 p0 = true then ga_c (f_R_raise F p0 (1 : Int32) w1) (ga_kI fun v7 w6 => (some (.inl (some (.int v7)), w6))) ga_up else none))))
set_option maxHeartbeats 4000000 in
set_option maxRecDepth 100000 in
theorem m_R_open (hst : l.stackTraces = false) (F : Nat) (p0 : Nat) (w : ga_W) : ga_M l S0 D gz_cl (gz_tA cT) base b gz_xn y_R_open ws_R_open 1 21 true [.ref p0] w (f_R_open F p0 w) := by
  refine ga_enter (cc := c_R_open) (maxL := 1) (ret := (some .int)) hst (by decide) rfl (Nat.le_of_ble_eq_true rfl) ?_
  intro p e R s m args below meth c ad0
  refine ga_sub (lv2 := [(0, .ref p0)]) [0] rfl ?_
  unfold f_R_open
  refine ga_aload_n (q := 0) d_R_open_0 rfl rfl ?_
  refine ga_iconst (v := (0 : Int32)) d_R_open_1 (by decide) ?_
  refine ga_putB (C := "LevelStoreModel") (T := T_R) (N := 39) (k := 0) (ci := 6) (ty0 := ty_R) (fun x h => List.mem_cons_of_mem _ (iw_R x h)) ty_R_ok nm_R rfl (by decide) (List.mem_cons_of_mem _ gw_761) (Or.inl rfl) (fun _ => ⟨rfl, rfl⟩) d_R_open_2 (fun w1 => ?_)
  refine ga_aload_n (q := 0) d_R_open_5 rfl rfl ?_
  refine ga_getI (C := "LevelStoreModel") (T := T_R) (N := 39) (k := 22) (ci := 6) (fun x h => List.mem_cons_of_mem _ (iw_R x h)) rfl (by decide) (List.mem_cons_of_mem _ gw_783) d_R_open_6 (fun v2 => ?_)
  refine ga_if_lt (tgt := 18) d_R_open_9 (by decide) (fun h3 => ?_) (fun h3 => ?_)
  · refine ga_aload_n (q := 0) d_R_open_18 rfl rfl ?_
    refine ga_iconst (v := (0 : Int32)) d_R_open_19 (by decide) ?_
    refine ga_putB (C := "LevelStoreModel") (T := T_R) (N := 39) (k := 22) (ci := 6) (ty0 := ty_R) (fun x h => List.mem_cons_of_mem _ (iw_R x h)) ty_R_ok nm_R rfl (by decide) (List.mem_cons_of_mem _ gw_783) (Or.inl rfl) (fun _ => ⟨rfl, rfl⟩) d_R_open_20 (fun w4 => ?_)
    refine ga_aload_n (q := 0) d_R_open_23 rfl rfl ?_
    refine ga_getI (C := "LevelStoreModel") (T := T_R) (N := 39) (k := 25) (ci := 6) (fun x h => List.mem_cons_of_mem _ (iw_R x h)) rfl (by decide) (List.mem_cons_of_mem _ gw_786) d_R_open_24 (fun v5 => ?_)
    exact ga_iret rfl d_R_open_27
  · refine ga_aload_n (q := 0) d_R_open_12 rfl rfl ?_
    refine ga_iconst (v := (1 : Int32)) d_R_open_13 (by decide) ?_
    refine ga_invV (nA := 1) (ci := 6) (T := T_R) (N := 39) (av := [.int (1 : Int32)]) (a := p0) (st := []) (m_R_raise hst F p0 (1 : Int32) w1) (Or.inl rfl) (gz_gV gw_895 gw_897 gw_19 gw_58 gw_898) rfl ⟨rfl, by decide +kernel⟩ rfl (by decide) (by decide) (Nat.le_of_ble_eq_true rfl) rfl d_R_open_14 (ga_vI (fun v7 w6 => ?_)) (fun _ _ => ga_thru rfl)
    exact ga_iret rfl d_R_open_17
end GM14
