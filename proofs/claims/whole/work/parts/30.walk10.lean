/-! WALKS: W_count, R_init, R_thrown, R_in, R_raise, R_onLevel, R_full, R_remember, R_copyWork -/
section GM10
variable {l : Launch} {S0 : State} {D : va_G} {cT : Nat → ClassId} {base b : Nat} {p : Program} {e : Env} {R : Room} {s : State} {m : MethodId} {args : Array Value} {below : List Frame} {meth : Method} {c : Code} {ad0 : Nat → Nat} {w0 : ga_W}
noncomputable def f_W_count (F : Nat) (p0 : Nat) (p1 : Int32) (p2 : Nat) (w : ga_W) : ga_O :=
  (if ga_is w 5 p0 = true then ga_c (f_L_count F p0 p1 w) (ga_kI fun v2 w1 => ((ga_sl w1 2 p2 (0 : Int32) (Int32.toInt64 v2)).bind fun w3 => (some (.inl (some (.int (0 : Int32))), w3)))) (fun x5 w4 => (if x5 = 0 then (some (.inl (some (.int (1 : Int32))), w4)) else none)) else none)
set_option maxHeartbeats 4000000 in
set_option maxRecDepth 100000 in
theorem m_W_count (hst : l.stackTraces = false) (F : Nat) (p0 : Nat) (p1 : Int32) (p2 : Nat) (w : ga_W) : ga_M l S0 D gz_cl (gz_tA cT) base b gz_xn y_W_count ws_W_count 8 132 true [.ref p0, .int p1, .ref p2] w (f_W_count F p0 p1 p2 w) := by
  refine ga_enterH (hh := [(0, 9, 12, 13)]) (cc := c_W_count) (maxL := 4) (ret := (some .int)) hst (by decide) rfl (Nat.le_of_ble_eq_true rfl) ?_
  intro p e R s m args below meth c ad0
  refine ga_sub (lv2 := [(0, .ref p0), (1, .int p1), (2, .ref p2)]) [0, 1, 2] rfl ?_
  unfold f_W_count
  refine ga_aload_n (q := 2) d_W_count_0 rfl rfl ?_
  refine ga_iconst (v := (0 : Int32)) d_W_count_1 (by decide) ?_
  refine ga_aload_n (q := 0) d_W_count_2 rfl rfl ?_
  refine ga_iload_n (q := 1) d_W_count_3 rfl rfl ?_
  refine ga_invV (nA := 1) (ci := 5) (T := T_L) (N := 9) (av := [.int p1]) (a := p0) (st := [.int (0 : Int32), .ref p2]) (m_L_count hst F p0 p1 w) (Or.inl rfl) (gz_gV gw_750 gw_751 gw_752 gw_51 gw_753) rfl ⟨rfl, by decide +kernel⟩ rfl (by decide) (by decide) (Nat.le_of_ble_eq_true rfl) rfl d_W_count_4 (ga_vI (fun v2 w1 => ?_)) ?_
  · refine ga_i2l d_W_count_7 ?_
    refine ga_stL (t := 2) rfl d_W_count_8 (fun w3 => ?_)
    refine ga_goto (tgt := 15) d_W_count_9 (by decide) ?_
    refine ga_iconst (v := (0 : Int32)) d_W_count_15 (by decide) ?_
    exact ga_iret rfl d_W_count_16
  · intro x5 w4
    refine ga_iteX (fun h6 => ?_) (fun h6 => ?_)
    · subst h6
      refine ga_catch (i := 3) (lv2 := [(0, .ref p0), (1, .int p1), (2, .ref p2)]) [] ⟨0, 9, 12, 13⟩ [] rfl (fun _ h => nomatch h) (by decide) (by decide) (List.mem_cons_of_mem _ gw_402) gl_418 d_W_count_12 rfl (by decide) rfl ?_
      refine ga_iconst (v := (1 : Int32)) d_W_count_13 (by decide) ?_
      exact ga_iret rfl d_W_count_14
    · exact (fun _ _ h => nomatch h)
noncomputable def f_R_init (F : Nat) (p0 : Nat) (w : ga_W) : ga_O :=
  (if ga_okA w [(0, .ref p0)] [.ref p0] = true then ga_at (w.1 ++ [.inl (0, 260, .inl (fun _ => 0))], w.2.1 + 1, w.2.2 + 260) (fun w1 => ((ga_put w1 6 1 p0 (.ref w.1.length)).bind fun w2 => (if ga_okA w2 [(0, .ref p0)] [.ref p0] = true then ga_at (w2.1 ++ [.inl (0, 260, .inl (fun _ => 0))], w2.2.1 + 1, w2.2.2 + 260) (fun w3 => ((ga_put w3 6 2 p0 (.ref w2.1.length)).bind fun w4 => (if ga_okA w4 [(0, .ref p0)] [.ref p0] = true then ga_at (w4.1 ++ [.inl (0, 260, .inl (fun _ => 0))], w4.2.1 + 1, w4.2.2 + 260) (fun w5 => ((ga_put w5 6 3 p0 (.ref w4.1.length)).bind fun w6 => (if ga_okA w6 [(0, .ref p0)] [.ref p0] = true then ga_at (w6.1 ++ [.inl (1, 260, .inl (fun _ => 0))], w6.2.1 + 1, w6.2.2 + 260) (fun w7 => ((ga_put w7 6 4 p0 (.ref w6.1.length)).bind fun w8 => (if ga_okA w8 [(0, .ref p0)] [.ref p0] = true then ga_at (w8.1 ++ [.inl (0, 260, .inl (fun _ => 0))], w8.2.1 + 1, w8.2.2 + 260) (fun w9 => ((ga_put w9 6 6 p0 (.ref w8.1.length)).bind fun w10 => (if ga_okA w10 [(0, .ref p0)] [.ref p0] = true then ga_at (w10.1 ++ [.inl (0, 260, .inl (fun _ => 0))], w10.2.1 + 1, w10.2.2 + 260) (fun w11 => ((ga_put w11 6 7 p0 (.ref w10.1.length)).bind fun w12 => (if ga_okA w12 [(0, .ref p0)] [.ref p0] = true then ga_at (w12.1 ++ [.inl (0, 260, .inl (fun _ => 0))], w12.2.1 + 1, w12.2.2 + 260) (fun w13 => ((ga_put w13 6 8 p0 (.ref w12.1.length)).bind fun w14 => (if ga_okA w14 [(0, .ref p0)] [.ref p0] = true then ga_at (w14.1 ++ [.inl (2, 260, .inr (.inl (fun _ => 0)))], w14.2.1 + 1, w14.2.2 + 260) (fun w15 => ((ga_put w15 6 9 p0 (.ref w14.1.length)).bind fun w16 => (if ga_okA w16 [(0, .ref p0)] [.ref p0] = true then ga_at (w16.1 ++ [.inl (0, 16, .inl (fun _ => 0))], w16.2.1 + 1, w16.2.2 + 16) (fun w17 => ((ga_put w17 6 11 p0 (.ref w16.1.length)).bind fun w18 => (if ga_okA w18 [(0, .ref p0)] [.ref p0] = true then ga_at (w18.1 ++ [.inl (0, 16, .inl (fun _ => 0))], w18.2.1 + 1, w18.2.2 + 16) (fun w19 => ((ga_put w19 6 12 p0 (.ref w18.1.length)).bind fun w20 => (if ga_okA w20 [(0, .ref p0)] [.ref p0] = true then ga_at (w20.1 ++ [.inl (0, 16, .inl (fun _ => 0))], w20.2.1 + 1, w20.2.2 + 16) (fun w21 => ((ga_put w21 6 13 p0 (.ref w20.1.length)).bind fun w22 => (if ga_okA w22 [(0, .ref p0)] [.ref p0] = true then ga_at (w22.1 ++ [.inl (1, 16, .inl (fun _ => 0))], w22.2.1 + 1, w22.2.2 + 16) (fun w23 => ((ga_put w23 6 14 p0 (.ref w22.1.length)).bind fun w24 => (if ga_okA w24 [(0, .ref p0)] [.ref p0] = true then ga_at (w24.1 ++ [.inl (0, 16, .inl (fun _ => 0))], w24.2.1 + 1, w24.2.2 + 16) (fun w25 => ((ga_put w25 6 16 p0 (.ref w24.1.length)).bind fun w26 => (if ga_okA w26 [(0, .ref p0)] [.ref p0] = true then ga_at (w26.1 ++ [.inl (0, 4, .inl (fun _ => 0))], w26.2.1 + 1, w26.2.2 + 4) (fun w27 => ((ga_put w27 6 19 p0 (.ref w26.1.length)).bind fun w28 => (if ga_okA w28 [(0, .ref p0)] [.ref p0] = true then ga_at (w28.1 ++ [.inl (0, 4, .inl (fun _ => 0))], w28.2.1 + 1, w28.2.2 + 4) (fun w29 => ((ga_put w29 6 20 p0 (.ref w28.1.length)).bind fun w30 => (if ga_okA w30 [(0, .ref p0)] [.ref p0] = true then ga_at (w30.1 ++ [.inl (1, 4, .inl (fun _ => 0))], w30.2.1 + 1, w30.2.2 + 4) (fun w31 => ((ga_put w31 6 21 p0 (.ref w30.1.length)).bind fun w32 => ((ga_put w32 6 22 p0 (.int (-1 : Int32))).bind fun w33 => (if ga_okA w33 [(0, .ref p0)] [.ref p0] = true then ga_at (w33.1 ++ [.inl (0, 4, .inl (fun _ => 0))], w33.2.1 + 1, w33.2.2 + 4) (fun w34 => ((ga_si w34 0 w33.1.length (0 : Int32) (-1 : Int32)).bind fun w35 => ((ga_si w35 0 w33.1.length (1 : Int32) (-1 : Int32)).bind fun w36 => ((ga_si w36 0 w33.1.length (2 : Int32) (-1 : Int32)).bind fun w37 => ((ga_si w37 0 w33.1.length (3 : Int32) (-1 : Int32)).bind fun w38 => ((ga_put w38 6 23 p0 (.ref w33.1.length)).bind fun w39 => (if ga_okA w39 [(0, .ref p0)] [.ref p0] = true then ga_at (w39.1 ++ [.inl (0, 4, .inl (fun _ => 0))], w39.2.1 + 1, w39.2.2 + 4) (fun w40 => ((ga_si w40 0 w39.1.length (0 : Int32) (-1 : Int32)).bind fun w41 => ((ga_si w41 0 w39.1.length (1 : Int32) (-1 : Int32)).bind fun w42 => ((ga_si w42 0 w39.1.length (2 : Int32) (-1 : Int32)).bind fun w43 => ((ga_si w43 0 w39.1.length (3 : Int32) (-1 : Int32)).bind fun w44 => ((ga_put w44 6 24 p0 (.ref w39.1.length)).bind fun w45 => (if ga_okA w45 [(0, .ref p0)] [.ref p0] = true then ga_at (w45.1 ++ [.inl (0, 260, .inl (fun _ => 0))], w45.2.1 + 1, w45.2.2 + 260) (fun w46 => ((ga_put w46 6 32 p0 (.ref w45.1.length)).bind fun w47 => (if ga_okA w47 [(0, .ref p0)] [.ref p0] = true then ga_at (w47.1 ++ [.inl (0, 260, .inl (fun _ => 0))], w47.2.1 + 1, w47.2.2 + 260) (fun w48 => ((ga_put w48 6 33 p0 (.ref w47.1.length)).bind fun w49 => (if ga_okA w49 [(0, .ref p0)] [.ref p0] = true then ga_at (w49.1 ++ [.inl (0, 260, .inl (fun _ => 0))], w49.2.1 + 1, w49.2.2 + 260) (fun w50 => ((ga_put w50 6 34 p0 (.ref w49.1.length)).bind fun w51 => (if ga_okA w51 [(0, .ref p0)] [.ref p0] = true then ga_at (w51.1 ++ [.inl (1, 260, .inl (fun _ => 0))], w51.2.1 + 1, w51.2.2 + 260) (fun w52 => ((ga_put w52 6 35 p0 (.ref w51.1.length)).bind fun w53 => (if ga_okA w53 [(0, .ref p0)] [.ref p0] = true then ga_at (w53.1 ++ [.inl (1, 260, .inl (fun _ => 0))], w53.2.1 + 1, w53.2.2 + 260) (fun w54 => ((ga_put w54 6 37 p0 (.ref w53.1.length)).bind fun w55 => (some (.inl none, w55)))) else none))) else none))) else none))) else none))) else none))))))) else none))))))) else none)))) else none))) else none))) else none))) else none))) else none))) else none))) else none))) else none))) else none))) else none))) else none))) else none))) else none))) else none))) else none))) else none)
set_option maxHeartbeats 4000000 in
set_option maxRecDepth 100000 in
theorem m_R_init (hst : l.stackTraces = false) (F : Nat) (p0 : Nat) (w : ga_W) : ga_M l S0 D gz_cl (gz_tA cT) base b gz_xn y_R_init ws_R_init 1 20 false [.ref p0] w (f_R_init F p0 w) := by
  refine ga_enter (cc := c_R_init) (maxL := 1) (ret := none) hst (by decide) rfl (Nat.le_of_ble_eq_true rfl) ?_
  intro p e R s m args below meth c ad0
  refine ga_sub (lv2 := [(0, .ref p0)]) [0] rfl ?_
  unfold f_R_init
  refine ga_aload_n (q := 0) d_R_init_0 rfl rfl ?_
  refine ga_objInit (List.mem_cons_of_mem _ gw_760) (List.mem_cons_of_mem _ gw_75) (List.mem_cons_of_mem _ gw_76) (Nat.le_of_ble_eq_true rfl) (by decide) (by decide) d_R_init_1 ?_
  refine ga_aload_n (q := 0) d_R_init_4 rfl rfl ?_
  refine ga_sipush (v := (260 : Int32)) d_R_init_5 (by decide) ?_
  refine ga_newa (atype := .int) (t := 0) (N := 260) (x := .inl (fun _ => 0)) rfl (List.mem_cons_of_mem _ gw_129) rfl (fun _ h => nomatch h) rfl (fun _ => ga_zr0 _ _) (by decide) (by decide) (by decide) d_R_init_8 ?_
  refine ga_namedW (fun w1 => ?_)
  refine ga_putB (C := "LevelStoreModel") (T := T_R) (N := 39) (k := 1) (ci := 6) (ty0 := ty_R) (fun x h => List.mem_cons_of_mem _ (iw_R x h)) ty_R_ok nm_R rfl (by decide) (List.mem_cons_of_mem _ gw_762) (Or.inr ⟨rfl, rfl, rfl⟩) (fun _ => ⟨rfl, rfl⟩) d_R_init_10 (fun w2 => ?_)
  refine ga_aload_n (q := 0) d_R_init_13 rfl rfl ?_
  refine ga_sipush (v := (260 : Int32)) d_R_init_14 (by decide) ?_
  refine ga_newa (atype := .int) (t := 0) (N := 260) (x := .inl (fun _ => 0)) rfl (List.mem_cons_of_mem _ gw_129) rfl (fun _ h => nomatch h) rfl (fun _ => ga_zr0 _ _) (by decide) (by decide) (by decide) d_R_init_17 ?_
  refine ga_namedW (fun w3 => ?_)
  refine ga_putB (C := "LevelStoreModel") (T := T_R) (N := 39) (k := 2) (ci := 6) (ty0 := ty_R) (fun x h => List.mem_cons_of_mem _ (iw_R x h)) ty_R_ok nm_R rfl (by decide) (List.mem_cons_of_mem _ gw_763) (Or.inr ⟨rfl, rfl, rfl⟩) (fun _ => ⟨rfl, rfl⟩) d_R_init_19 (fun w4 => ?_)
  refine ga_aload_n (q := 0) d_R_init_22 rfl rfl ?_
  refine ga_sipush (v := (260 : Int32)) d_R_init_23 (by decide) ?_
  refine ga_newa (atype := .int) (t := 0) (N := 260) (x := .inl (fun _ => 0)) rfl (List.mem_cons_of_mem _ gw_129) rfl (fun _ h => nomatch h) rfl (fun _ => ga_zr0 _ _) (by decide) (by decide) (by decide) d_R_init_26 ?_
  refine ga_namedW (fun w5 => ?_)
  refine ga_putB (C := "LevelStoreModel") (T := T_R) (N := 39) (k := 3) (ci := 6) (ty0 := ty_R) (fun x h => List.mem_cons_of_mem _ (iw_R x h)) ty_R_ok nm_R rfl (by decide) (List.mem_cons_of_mem _ gw_764) (Or.inr ⟨rfl, rfl, rfl⟩) (fun _ => ⟨rfl, rfl⟩) d_R_init_28 (fun w6 => ?_)
  refine ga_aload_n (q := 0) d_R_init_31 rfl rfl ?_
  refine ga_sipush (v := (260 : Int32)) d_R_init_32 (by decide) ?_
  refine ga_newa (atype := .boolean) (t := 1) (N := 260) (x := .inl (fun _ => 0)) rfl (List.mem_cons_of_mem _ gw_130) rfl (fun _ h => nomatch h) rfl (fun _ => ga_zr1 _ _) (by decide) (by decide) (by decide) d_R_init_35 ?_
  refine ga_namedW (fun w7 => ?_)
  refine ga_putB (C := "LevelStoreModel") (T := T_R) (N := 39) (k := 4) (ci := 6) (ty0 := ty_R) (fun x h => List.mem_cons_of_mem _ (iw_R x h)) ty_R_ok nm_R rfl (by decide) (List.mem_cons_of_mem _ gw_765) (Or.inr ⟨rfl, rfl, rfl⟩) (fun _ => ⟨rfl, rfl⟩) d_R_init_37 (fun w8 => ?_)
  refine ga_aload_n (q := 0) d_R_init_40 rfl rfl ?_
  refine ga_sipush (v := (260 : Int32)) d_R_init_41 (by decide) ?_
  refine ga_newa (atype := .int) (t := 0) (N := 260) (x := .inl (fun _ => 0)) rfl (List.mem_cons_of_mem _ gw_129) rfl (fun _ h => nomatch h) rfl (fun _ => ga_zr0 _ _) (by decide) (by decide) (by decide) d_R_init_44 ?_
  refine ga_namedW (fun w9 => ?_)
  refine ga_putB (C := "LevelStoreModel") (T := T_R) (N := 39) (k := 6) (ci := 6) (ty0 := ty_R) (fun x h => List.mem_cons_of_mem _ (iw_R x h)) ty_R_ok nm_R rfl (by decide) (List.mem_cons_of_mem _ gw_767) (Or.inr ⟨rfl, rfl, rfl⟩) (fun _ => ⟨rfl, rfl⟩) d_R_init_46 (fun w10 => ?_)
  refine ga_aload_n (q := 0) d_R_init_49 rfl rfl ?_
  refine ga_sipush (v := (260 : Int32)) d_R_init_50 (by decide) ?_
  refine ga_newa (atype := .int) (t := 0) (N := 260) (x := .inl (fun _ => 0)) rfl (List.mem_cons_of_mem _ gw_129) rfl (fun _ h => nomatch h) rfl (fun _ => ga_zr0 _ _) (by decide) (by decide) (by decide) d_R_init_53 ?_
  refine ga_namedW (fun w11 => ?_)
  refine ga_putB (C := "LevelStoreModel") (T := T_R) (N := 39) (k := 7) (ci := 6) (ty0 := ty_R) (fun x h => List.mem_cons_of_mem _ (iw_R x h)) ty_R_ok nm_R rfl (by decide) (List.mem_cons_of_mem _ gw_768) (Or.inr ⟨rfl, rfl, rfl⟩) (fun _ => ⟨rfl, rfl⟩) d_R_init_55 (fun w12 => ?_)
  refine ga_aload_n (q := 0) d_R_init_58 rfl rfl ?_
  refine ga_sipush (v := (260 : Int32)) d_R_init_59 (by decide) ?_
  refine ga_newa (atype := .int) (t := 0) (N := 260) (x := .inl (fun _ => 0)) rfl (List.mem_cons_of_mem _ gw_129) rfl (fun _ h => nomatch h) rfl (fun _ => ga_zr0 _ _) (by decide) (by decide) (by decide) d_R_init_62 ?_
  refine ga_namedW (fun w13 => ?_)
  refine ga_putB (C := "LevelStoreModel") (T := T_R) (N := 39) (k := 8) (ci := 6) (ty0 := ty_R) (fun x h => List.mem_cons_of_mem _ (iw_R x h)) ty_R_ok nm_R rfl (by decide) (List.mem_cons_of_mem _ gw_769) (Or.inr ⟨rfl, rfl, rfl⟩) (fun _ => ⟨rfl, rfl⟩) d_R_init_64 (fun w14 => ?_)
  refine ga_aload_n (q := 0) d_R_init_67 rfl rfl ?_
  refine ga_sipush (v := (260 : Int32)) d_R_init_68 (by decide) ?_
  refine ga_newa (atype := .long) (t := 2) (N := 260) (x := .inr (.inl (fun _ => 0))) rfl (List.mem_cons_of_mem _ gw_879) rfl (fun _ h => nomatch h) rfl (fun _ => ga_zr2 _ _) (by decide) (by decide) (by decide) d_R_init_71 ?_
  refine ga_namedW (fun w15 => ?_)
  refine ga_putB (C := "LevelStoreModel") (T := T_R) (N := 39) (k := 9) (ci := 6) (ty0 := ty_R) (fun x h => List.mem_cons_of_mem _ (iw_R x h)) ty_R_ok nm_R rfl (by decide) (List.mem_cons_of_mem _ gw_770) (Or.inr ⟨rfl, rfl, rfl⟩) (fun _ => ⟨rfl, rfl⟩) d_R_init_73 (fun w16 => ?_)
  refine ga_aload_n (q := 0) d_R_init_76 rfl rfl ?_
  refine ga_bipush (v := (16 : Int32)) d_R_init_77 (by decide) ?_
  refine ga_newa (atype := .int) (t := 0) (N := 16) (x := .inl (fun _ => 0)) rfl (List.mem_cons_of_mem _ gw_129) rfl (fun _ h => nomatch h) rfl (fun _ => ga_zr0 _ _) (by decide) (by decide) (by decide) d_R_init_79 ?_
  refine ga_namedW (fun w17 => ?_)
  refine ga_putB (C := "LevelStoreModel") (T := T_R) (N := 39) (k := 11) (ci := 6) (ty0 := ty_R) (fun x h => List.mem_cons_of_mem _ (iw_R x h)) ty_R_ok nm_R rfl (by decide) (List.mem_cons_of_mem _ gw_772) (Or.inr ⟨rfl, rfl, rfl⟩) (fun _ => ⟨rfl, rfl⟩) d_R_init_81 (fun w18 => ?_)
  refine ga_aload_n (q := 0) d_R_init_84 rfl rfl ?_
  refine ga_bipush (v := (16 : Int32)) d_R_init_85 (by decide) ?_
  refine ga_newa (atype := .int) (t := 0) (N := 16) (x := .inl (fun _ => 0)) rfl (List.mem_cons_of_mem _ gw_129) rfl (fun _ h => nomatch h) rfl (fun _ => ga_zr0 _ _) (by decide) (by decide) (by decide) d_R_init_87 ?_
  refine ga_namedW (fun w19 => ?_)
  refine ga_putB (C := "LevelStoreModel") (T := T_R) (N := 39) (k := 12) (ci := 6) (ty0 := ty_R) (fun x h => List.mem_cons_of_mem _ (iw_R x h)) ty_R_ok nm_R rfl (by decide) (List.mem_cons_of_mem _ gw_773) (Or.inr ⟨rfl, rfl, rfl⟩) (fun _ => ⟨rfl, rfl⟩) d_R_init_89 (fun w20 => ?_)
  refine ga_aload_n (q := 0) d_R_init_92 rfl rfl ?_
  refine ga_bipush (v := (16 : Int32)) d_R_init_93 (by decide) ?_
  refine ga_newa (atype := .int) (t := 0) (N := 16) (x := .inl (fun _ => 0)) rfl (List.mem_cons_of_mem _ gw_129) rfl (fun _ h => nomatch h) rfl (fun _ => ga_zr0 _ _) (by decide) (by decide) (by decide) d_R_init_95 ?_
  refine ga_namedW (fun w21 => ?_)
  refine ga_putB (C := "LevelStoreModel") (T := T_R) (N := 39) (k := 13) (ci := 6) (ty0 := ty_R) (fun x h => List.mem_cons_of_mem _ (iw_R x h)) ty_R_ok nm_R rfl (by decide) (List.mem_cons_of_mem _ gw_774) (Or.inr ⟨rfl, rfl, rfl⟩) (fun _ => ⟨rfl, rfl⟩) d_R_init_97 (fun w22 => ?_)
  refine ga_aload_n (q := 0) d_R_init_100 rfl rfl ?_
  refine ga_bipush (v := (16 : Int32)) d_R_init_101 (by decide) ?_
  refine ga_newa (atype := .boolean) (t := 1) (N := 16) (x := .inl (fun _ => 0)) rfl (List.mem_cons_of_mem _ gw_130) rfl (fun _ h => nomatch h) rfl (fun _ => ga_zr1 _ _) (by decide) (by decide) (by decide) d_R_init_103 ?_
  refine ga_namedW (fun w23 => ?_)
  refine ga_putB (C := "LevelStoreModel") (T := T_R) (N := 39) (k := 14) (ci := 6) (ty0 := ty_R) (fun x h => List.mem_cons_of_mem _ (iw_R x h)) ty_R_ok nm_R rfl (by decide) (List.mem_cons_of_mem _ gw_775) (Or.inr ⟨rfl, rfl, rfl⟩) (fun _ => ⟨rfl, rfl⟩) d_R_init_105 (fun w24 => ?_)
  refine ga_aload_n (q := 0) d_R_init_108 rfl rfl ?_
  refine ga_bipush (v := (16 : Int32)) d_R_init_109 (by decide) ?_
  refine ga_newa (atype := .int) (t := 0) (N := 16) (x := .inl (fun _ => 0)) rfl (List.mem_cons_of_mem _ gw_129) rfl (fun _ h => nomatch h) rfl (fun _ => ga_zr0 _ _) (by decide) (by decide) (by decide) d_R_init_111 ?_
  refine ga_namedW (fun w25 => ?_)
  refine ga_putB (C := "LevelStoreModel") (T := T_R) (N := 39) (k := 16) (ci := 6) (ty0 := ty_R) (fun x h => List.mem_cons_of_mem _ (iw_R x h)) ty_R_ok nm_R rfl (by decide) (List.mem_cons_of_mem _ gw_777) (Or.inr ⟨rfl, rfl, rfl⟩) (fun _ => ⟨rfl, rfl⟩) d_R_init_113 (fun w26 => ?_)
  refine ga_aload_n (q := 0) d_R_init_116 rfl rfl ?_
  refine ga_iconst (v := (4 : Int32)) d_R_init_117 (by decide) ?_
  refine ga_newa (atype := .int) (t := 0) (N := 4) (x := .inl (fun _ => 0)) rfl (List.mem_cons_of_mem _ gw_129) rfl (fun _ h => nomatch h) rfl (fun _ => ga_zr0 _ _) (by decide) (by decide) (by decide) d_R_init_118 ?_
  refine ga_namedW (fun w27 => ?_)
  refine ga_putB (C := "LevelStoreModel") (T := T_R) (N := 39) (k := 19) (ci := 6) (ty0 := ty_R) (fun x h => List.mem_cons_of_mem _ (iw_R x h)) ty_R_ok nm_R rfl (by decide) (List.mem_cons_of_mem _ gw_780) (Or.inr ⟨rfl, rfl, rfl⟩) (fun _ => ⟨rfl, rfl⟩) d_R_init_120 (fun w28 => ?_)
  refine ga_aload_n (q := 0) d_R_init_123 rfl rfl ?_
  refine ga_iconst (v := (4 : Int32)) d_R_init_124 (by decide) ?_
  refine ga_newa (atype := .int) (t := 0) (N := 4) (x := .inl (fun _ => 0)) rfl (List.mem_cons_of_mem _ gw_129) rfl (fun _ h => nomatch h) rfl (fun _ => ga_zr0 _ _) (by decide) (by decide) (by decide) d_R_init_125 ?_
  refine ga_namedW (fun w29 => ?_)
  refine ga_putB (C := "LevelStoreModel") (T := T_R) (N := 39) (k := 20) (ci := 6) (ty0 := ty_R) (fun x h => List.mem_cons_of_mem _ (iw_R x h)) ty_R_ok nm_R rfl (by decide) (List.mem_cons_of_mem _ gw_781) (Or.inr ⟨rfl, rfl, rfl⟩) (fun _ => ⟨rfl, rfl⟩) d_R_init_127 (fun w30 => ?_)
  refine ga_aload_n (q := 0) d_R_init_130 rfl rfl ?_
  refine ga_iconst (v := (4 : Int32)) d_R_init_131 (by decide) ?_
  refine ga_newa (atype := .boolean) (t := 1) (N := 4) (x := .inl (fun _ => 0)) rfl (List.mem_cons_of_mem _ gw_130) rfl (fun _ h => nomatch h) rfl (fun _ => ga_zr1 _ _) (by decide) (by decide) (by decide) d_R_init_132 ?_
  refine ga_namedW (fun w31 => ?_)
  refine ga_putB (C := "LevelStoreModel") (T := T_R) (N := 39) (k := 21) (ci := 6) (ty0 := ty_R) (fun x h => List.mem_cons_of_mem _ (iw_R x h)) ty_R_ok nm_R rfl (by decide) (List.mem_cons_of_mem _ gw_782) (Or.inr ⟨rfl, rfl, rfl⟩) (fun _ => ⟨rfl, rfl⟩) d_R_init_134 (fun w32 => ?_)
  refine ga_aload_n (q := 0) d_R_init_137 rfl rfl ?_
  refine ga_iconst (v := (-1 : Int32)) d_R_init_138 (by decide) ?_
  refine ga_putB (C := "LevelStoreModel") (T := T_R) (N := 39) (k := 22) (ci := 6) (ty0 := ty_R) (fun x h => List.mem_cons_of_mem _ (iw_R x h)) ty_R_ok nm_R rfl (by decide) (List.mem_cons_of_mem _ gw_783) (Or.inl rfl) (fun _ => ⟨rfl, rfl⟩) d_R_init_139 (fun w33 => ?_)
  refine ga_aload_n (q := 0) d_R_init_142 rfl rfl ?_
  refine ga_iconst (v := (4 : Int32)) d_R_init_143 (by decide) ?_
  refine ga_newa (atype := .int) (t := 0) (N := 4) (x := .inl (fun _ => 0)) rfl (List.mem_cons_of_mem _ gw_129) rfl (fun _ h => nomatch h) rfl (fun _ => ga_zr0 _ _) (by decide) (by decide) (by decide) d_R_init_144 ?_
  refine ga_namedW (fun w34 => ?_)
  refine ga_dup d_R_init_146 rfl ?_
  refine ga_iconst (v := (0 : Int32)) d_R_init_147 (by decide) ?_
  refine ga_iconst (v := (-1 : Int32)) d_R_init_148 (by decide) ?_
  refine ga_stI (t := 0) rfl d_R_init_149 (fun w35 => ?_)
  refine ga_dup d_R_init_150 rfl ?_
  refine ga_iconst (v := (1 : Int32)) d_R_init_151 (by decide) ?_
  refine ga_iconst (v := (-1 : Int32)) d_R_init_152 (by decide) ?_
  refine ga_stI (t := 0) rfl d_R_init_153 (fun w36 => ?_)
  refine ga_dup d_R_init_154 rfl ?_
  refine ga_iconst (v := (2 : Int32)) d_R_init_155 (by decide) ?_
  refine ga_iconst (v := (-1 : Int32)) d_R_init_156 (by decide) ?_
  refine ga_stI (t := 0) rfl d_R_init_157 (fun w37 => ?_)
  refine ga_dup d_R_init_158 rfl ?_
  refine ga_iconst (v := (3 : Int32)) d_R_init_159 (by decide) ?_
  refine ga_iconst (v := (-1 : Int32)) d_R_init_160 (by decide) ?_
  refine ga_stI (t := 0) rfl d_R_init_161 (fun w38 => ?_)
  refine ga_putB (C := "LevelStoreModel") (T := T_R) (N := 39) (k := 23) (ci := 6) (ty0 := ty_R) (fun x h => List.mem_cons_of_mem _ (iw_R x h)) ty_R_ok nm_R rfl (by decide) (List.mem_cons_of_mem _ gw_784) (Or.inr ⟨rfl, rfl, rfl⟩) (fun _ => ⟨rfl, rfl⟩) d_R_init_162 (fun w39 => ?_)
  refine ga_aload_n (q := 0) d_R_init_165 rfl rfl ?_
  refine ga_iconst (v := (4 : Int32)) d_R_init_166 (by decide) ?_
  refine ga_newa (atype := .int) (t := 0) (N := 4) (x := .inl (fun _ => 0)) rfl (List.mem_cons_of_mem _ gw_129) rfl (fun _ h => nomatch h) rfl (fun _ => ga_zr0 _ _) (by decide) (by decide) (by decide) d_R_init_167 ?_
  refine ga_namedW (fun w40 => ?_)
  refine ga_dup d_R_init_169 rfl ?_
  refine ga_iconst (v := (0 : Int32)) d_R_init_170 (by decide) ?_
  refine ga_iconst (v := (-1 : Int32)) d_R_init_171 (by decide) ?_
  refine ga_stI (t := 0) rfl d_R_init_172 (fun w41 => ?_)
  refine ga_dup d_R_init_173 rfl ?_
  refine ga_iconst (v := (1 : Int32)) d_R_init_174 (by decide) ?_
  refine ga_iconst (v := (-1 : Int32)) d_R_init_175 (by decide) ?_
  refine ga_stI (t := 0) rfl d_R_init_176 (fun w42 => ?_)
  refine ga_dup d_R_init_177 rfl ?_
  refine ga_iconst (v := (2 : Int32)) d_R_init_178 (by decide) ?_
  refine ga_iconst (v := (-1 : Int32)) d_R_init_179 (by decide) ?_
  refine ga_stI (t := 0) rfl d_R_init_180 (fun w43 => ?_)
  refine ga_dup d_R_init_181 rfl ?_
  refine ga_iconst (v := (3 : Int32)) d_R_init_182 (by decide) ?_
  refine ga_iconst (v := (-1 : Int32)) d_R_init_183 (by decide) ?_
  refine ga_stI (t := 0) rfl d_R_init_184 (fun w44 => ?_)
  refine ga_putB (C := "LevelStoreModel") (T := T_R) (N := 39) (k := 24) (ci := 6) (ty0 := ty_R) (fun x h => List.mem_cons_of_mem _ (iw_R x h)) ty_R_ok nm_R rfl (by decide) (List.mem_cons_of_mem _ gw_785) (Or.inr ⟨rfl, rfl, rfl⟩) (fun _ => ⟨rfl, rfl⟩) d_R_init_185 (fun w45 => ?_)
  refine ga_aload_n (q := 0) d_R_init_188 rfl rfl ?_
  refine ga_sipush (v := (260 : Int32)) d_R_init_189 (by decide) ?_
  refine ga_newa (atype := .int) (t := 0) (N := 260) (x := .inl (fun _ => 0)) rfl (List.mem_cons_of_mem _ gw_129) rfl (fun _ h => nomatch h) rfl (fun _ => ga_zr0 _ _) (by decide) (by decide) (by decide) d_R_init_192 ?_
  refine ga_namedW (fun w46 => ?_)
  refine ga_putB (C := "LevelStoreModel") (T := T_R) (N := 39) (k := 32) (ci := 6) (ty0 := ty_R) (fun x h => List.mem_cons_of_mem _ (iw_R x h)) ty_R_ok nm_R rfl (by decide) (List.mem_cons_of_mem _ gw_793) (Or.inr ⟨rfl, rfl, rfl⟩) (fun _ => ⟨rfl, rfl⟩) d_R_init_194 (fun w47 => ?_)
  refine ga_aload_n (q := 0) d_R_init_197 rfl rfl ?_
  refine ga_sipush (v := (260 : Int32)) d_R_init_198 (by decide) ?_
  refine ga_newa (atype := .int) (t := 0) (N := 260) (x := .inl (fun _ => 0)) rfl (List.mem_cons_of_mem _ gw_129) rfl (fun _ h => nomatch h) rfl (fun _ => ga_zr0 _ _) (by decide) (by decide) (by decide) d_R_init_201 ?_
  refine ga_namedW (fun w48 => ?_)
  refine ga_putB (C := "LevelStoreModel") (T := T_R) (N := 39) (k := 33) (ci := 6) (ty0 := ty_R) (fun x h => List.mem_cons_of_mem _ (iw_R x h)) ty_R_ok nm_R rfl (by decide) (List.mem_cons_of_mem _ gw_794) (Or.inr ⟨rfl, rfl, rfl⟩) (fun _ => ⟨rfl, rfl⟩) d_R_init_203 (fun w49 => ?_)
  refine ga_aload_n (q := 0) d_R_init_206 rfl rfl ?_
  refine ga_sipush (v := (260 : Int32)) d_R_init_207 (by decide) ?_
  refine ga_newa (atype := .int) (t := 0) (N := 260) (x := .inl (fun _ => 0)) rfl (List.mem_cons_of_mem _ gw_129) rfl (fun _ h => nomatch h) rfl (fun _ => ga_zr0 _ _) (by decide) (by decide) (by decide) d_R_init_210 ?_
  refine ga_namedW (fun w50 => ?_)
  refine ga_putB (C := "LevelStoreModel") (T := T_R) (N := 39) (k := 34) (ci := 6) (ty0 := ty_R) (fun x h => List.mem_cons_of_mem _ (iw_R x h)) ty_R_ok nm_R rfl (by decide) (List.mem_cons_of_mem _ gw_795) (Or.inr ⟨rfl, rfl, rfl⟩) (fun _ => ⟨rfl, rfl⟩) d_R_init_212 (fun w51 => ?_)
  refine ga_aload_n (q := 0) d_R_init_215 rfl rfl ?_
  refine ga_sipush (v := (260 : Int32)) d_R_init_216 (by decide) ?_
  refine ga_newa (atype := .boolean) (t := 1) (N := 260) (x := .inl (fun _ => 0)) rfl (List.mem_cons_of_mem _ gw_130) rfl (fun _ h => nomatch h) rfl (fun _ => ga_zr1 _ _) (by decide) (by decide) (by decide) d_R_init_219 ?_
  refine ga_namedW (fun w52 => ?_)
  refine ga_putB (C := "LevelStoreModel") (T := T_R) (N := 39) (k := 35) (ci := 6) (ty0 := ty_R) (fun x h => List.mem_cons_of_mem _ (iw_R x h)) ty_R_ok nm_R rfl (by decide) (List.mem_cons_of_mem _ gw_796) (Or.inr ⟨rfl, rfl, rfl⟩) (fun _ => ⟨rfl, rfl⟩) d_R_init_221 (fun w53 => ?_)
  refine ga_aload_n (q := 0) d_R_init_224 rfl rfl ?_
  refine ga_sipush (v := (260 : Int32)) d_R_init_225 (by decide) ?_
  refine ga_newa (atype := .boolean) (t := 1) (N := 260) (x := .inl (fun _ => 0)) rfl (List.mem_cons_of_mem _ gw_130) rfl (fun _ h => nomatch h) rfl (fun _ => ga_zr1 _ _) (by decide) (by decide) (by decide) d_R_init_228 ?_
  refine ga_namedW (fun w54 => ?_)
  refine ga_putB (C := "LevelStoreModel") (T := T_R) (N := 39) (k := 37) (ci := 6) (ty0 := ty_R) (fun x h => List.mem_cons_of_mem _ (iw_R x h)) ty_R_ok nm_R rfl (by decide) (List.mem_cons_of_mem _ gw_798) (Or.inr ⟨rfl, rfl, rfl⟩) (fun _ => ⟨rfl, rfl⟩) d_R_init_230 (fun w55 => ?_)
  exact ga_vret rfl d_R_init_233
noncomputable def f_R_thrown (F : Nat) (p0 : Nat) (w : ga_W) : ga_O :=
  ((ga_gi w 6 0 p0).bind fun v1 => (some (.inl (some (.int v1)), w)))
set_option maxHeartbeats 4000000 in
set_option maxRecDepth 100000 in
theorem m_R_thrown (hst : l.stackTraces = false) (F : Nat) (p0 : Nat) (w : ga_W) : ga_M l S0 D gz_cl (gz_tA cT) base b gz_xn y_R_thrown ws_R_thrown 0 0 true [.ref p0] w (f_R_thrown F p0 w) := by
  refine ga_enter (cc := c_R_thrown) (maxL := 1) (ret := (some .int)) hst (by decide) rfl (Nat.le_of_ble_eq_true rfl) ?_
  intro p e R s m args below meth c ad0
  refine ga_sub (lv2 := [(0, .ref p0)]) [0] rfl ?_
  unfold f_R_thrown
  refine ga_aload_n (q := 0) d_R_thrown_0 rfl rfl ?_
  refine ga_getI (C := "LevelStoreModel") (T := T_R) (N := 39) (k := 0) (ci := 6) (fun x h => List.mem_cons_of_mem _ (iw_R x h)) rfl (by decide) (List.mem_cons_of_mem _ gw_761) d_R_thrown_1 (fun v1 => ?_)
  exact ga_iret rfl d_R_thrown_4
noncomputable def f_R_in (F : Nat) (p0 : Int32) (p1 : Int32) (p2 : Int32) (w : ga_W) : ga_O :=
  (if p0 < p1 then (some (.inl (some (.int (0 : Int32))), w)) else (if p2 < p0 then (some (.inl (some (.int (0 : Int32))), w)) else (some (.inl (some (.int (1 : Int32))), w))))
set_option maxHeartbeats 4000000 in
set_option maxRecDepth 100000 in
theorem m_R_in (hst : l.stackTraces = false) (F : Nat) (p0 : Int32) (p1 : Int32) (p2 : Int32) (w : ga_W) : ga_M l S0 D gz_cl (gz_tA cT) base b gz_xn y_R_in ws_R_in 0 0 true [.int p0, .int p1, .int p2] w (f_R_in F p0 p1 p2 w) := by
  refine ga_enter (cc := c_R_in) (maxL := 3) (ret := (some .boolean)) hst (by decide) rfl (Nat.le_of_ble_eq_true rfl) ?_
  intro p e R s m args below meth c ad0
  refine ga_sub (lv2 := [(0, .int p0), (1, .int p1), (2, .int p2)]) [0, 1, 2] rfl ?_
  unfold f_R_in
  refine ga_iload_n (q := 0) d_R_in_0 rfl rfl ?_
  refine ga_iload_n (q := 1) d_R_in_1 rfl rfl ?_
  refine ga_icmp_lt (tgt := 14) d_R_in_2 (by decide) (fun h1 => ?_) (fun h1 => ?_)
  · refine ga_iconst (v := (0 : Int32)) d_R_in_14 (by decide) ?_
    exact ga_zret rfl rfl d_R_in_15
  · refine ga_iload_n (q := 0) d_R_in_5 rfl rfl ?_
    refine ga_iload_n (q := 2) d_R_in_6 rfl rfl ?_
    refine ga_icmp_gt (tgt := 14) d_R_in_7 (by decide) (fun h2 => ?_) (fun h2 => ?_)
    · refine ga_iconst (v := (0 : Int32)) d_R_in_14 (by decide) ?_
      exact ga_zret rfl rfl d_R_in_15
    · refine ga_iconst (v := (1 : Int32)) d_R_in_10 (by decide) ?_
      refine ga_goto (tgt := 15) d_R_in_11 (by decide) ?_
      exact ga_zret rfl rfl d_R_in_15
noncomputable def f_R_raise (F : Nat) (p0 : Nat) (p1 : Int32) (w : ga_W) : ga_O :=
  ((ga_put w 6 0 p0 (.int p1)).bind fun w1 => (some (.inl (some (.int (0 : Int32))), w1)))
set_option maxHeartbeats 4000000 in
set_option maxRecDepth 100000 in
theorem m_R_raise (hst : l.stackTraces = false) (F : Nat) (p0 : Nat) (p1 : Int32) (w : ga_W) : ga_M l S0 D gz_cl (gz_tA cT) base b gz_xn y_R_raise ws_R_raise 0 0 true [.ref p0, .int p1] w (f_R_raise F p0 p1 w) := by
  refine ga_enter (cc := c_R_raise) (maxL := 2) (ret := (some .int)) hst (by decide) rfl (Nat.le_of_ble_eq_true rfl) ?_
  intro p e R s m args below meth c ad0
  refine ga_sub (lv2 := [(0, .ref p0), (1, .int p1)]) [0, 1] rfl ?_
  unfold f_R_raise
  refine ga_aload_n (q := 0) d_R_raise_0 rfl rfl ?_
  refine ga_iload_n (q := 1) d_R_raise_1 rfl rfl ?_
  refine ga_putB (C := "LevelStoreModel") (T := T_R) (N := 39) (k := 0) (ci := 6) (ty0 := ty_R) (fun x h => List.mem_cons_of_mem _ (iw_R x h)) ty_R_ok nm_R rfl (by decide) (List.mem_cons_of_mem _ gw_761) (Or.inl rfl) (fun _ => ⟨rfl, rfl⟩) d_R_raise_2 (fun w1 => ?_)
  refine ga_iconst (v := (0 : Int32)) d_R_raise_5 (by decide) ?_
  exact ga_iret rfl d_R_raise_6
noncomputable def f_R_onLevel_4 (F : Nat) (x0 : Nat) (x1 : Int32) : Nat → Int32 → Int32 → ga_W → ga_O
  | 0, _, _, _ => none
  | n + 1, x2, x3, w => ((ga_gi w 6 10 x0).bind fun v1 => (if v1 ≤ x3 then (some (.inl (some (.int x2)), w)) else ((ga_gr w 6 7 x0).bind fun r3 => ((ga_ai w 0 r3 x3).bind fun v4 => (if v4 = x1 then (f_R_onLevel_4 F x0 x1 n (x2 + (1 : Int32)) (x3 + (1 : Int32)) w) else (f_R_onLevel_4 F x0 x1 n x2 (x3 + (1 : Int32)) w))))))
noncomputable def f_R_onLevel (F : Nat) (p0 : Nat) (p1 : Int32) (w : ga_W) : ga_O :=
  (f_R_onLevel_4 F p0 p1 F (0 : Int32) (0 : Int32) w)
set_option maxHeartbeats 4000000 in
set_option maxRecDepth 100000 in
theorem h_R_onLevel_4 (hst : l.stackTraces = false) (F : Nat) (x0 : Nat) (x1 : Int32) : ∀ (n : Nat) (x2 : Int32) (x3 : Int32) (w : ga_W), ga_J l S0 D gz_cl (gz_tA cT) base b gz_xn p e R s m args below meth c 4 ws_R_onLevel y_R_onLevel.cls c_R_onLevel (some .int) [] y_R_onLevel.name 0 0 true ad0 w0 (ga_MQ gz_xn D gz_cl (gz_tA cT) base b s args below ad0 w0) 4 [(0, .ref x0), (1, .int x1), (2, .int x2), (3, .int x3)] [] w (f_R_onLevel_4 F x0 x1 n x2 x3 w) := by
  intro n
  induction n with
  | zero => intro x2 x3 w; exact ga_no
  | succ n ih =>
    intro x2 x3 w
    rw [f_R_onLevel_4]
    refine ga_iload_n (q := 3) d_R_onLevel_4 rfl rfl ?_
    refine ga_aload_n (q := 0) d_R_onLevel_5 rfl rfl ?_
    refine ga_getI (C := "LevelStoreModel") (T := T_R) (N := 39) (k := 10) (ci := 6) (fun x h => List.mem_cons_of_mem _ (iw_R x h)) rfl (by decide) (List.mem_cons_of_mem _ gw_771) d_R_onLevel_6 (fun v1 => ?_)
    refine ga_icmp_ge (tgt := 31) d_R_onLevel_9 (by decide) (fun h2 => ?_) (fun h2 => ?_)
    · refine ga_iload_n (q := 2) d_R_onLevel_31 rfl rfl ?_
      exact ga_iret rfl d_R_onLevel_32
    · refine ga_aload_n (q := 0) d_R_onLevel_12 rfl rfl ?_
      refine ga_getR (C := "LevelStoreModel") (T := T_R) (N := 39) (k := 7) (ci := 6) (fun x h => List.mem_cons_of_mem _ (iw_R x h)) rfl (by decide) (List.mem_cons_of_mem _ gw_768) d_R_onLevel_13 (fun r3 => ?_)
      refine ga_iload_n (q := 3) d_R_onLevel_16 rfl rfl ?_
      refine ga_ldI (t := 0) rfl d_R_onLevel_17 (fun v4 => ?_)
      refine ga_iload_n (q := 1) d_R_onLevel_18 rfl rfl ?_
      refine ga_icmp_ne (tgt := 25) d_R_onLevel_19 (by decide) (fun h5 => ?_) (fun h5 => ?_)
      · refine ga_iinc (q := 2) (v := (x2 + (1 : Int32))) (lv2 := [(2, .int (x2 + (1 : Int32))), (0, .ref x0), (1, .int x1), (3, .int x3)]) d_R_onLevel_22 rfl rfl (by decide) rfl ?_
        refine ga_iinc (q := 3) (v := (x3 + (1 : Int32))) (lv2 := [(3, .int (x3 + (1 : Int32))), (2, .int (x2 + (1 : Int32))), (0, .ref x0), (1, .int x1)]) d_R_onLevel_25 rfl rfl (by decide) rfl ?_
        refine ga_goto (tgt := 4) d_R_onLevel_28 (by decide) ?_
        refine ga_sub (lv2 := [(0, .ref x0), (1, .int x1), (2, .int (x2 + (1 : Int32))), (3, .int (x3 + (1 : Int32)))]) [2, 3, 1, 0] rfl ?_
        exact ih _ _ _
      · refine ga_iinc (q := 3) (v := (x3 + (1 : Int32))) (lv2 := [(3, .int (x3 + (1 : Int32))), (0, .ref x0), (1, .int x1), (2, .int x2)]) d_R_onLevel_25 rfl rfl (by decide) rfl ?_
        refine ga_goto (tgt := 4) d_R_onLevel_28 (by decide) ?_
        refine ga_sub (lv2 := [(0, .ref x0), (1, .int x1), (2, .int x2), (3, .int (x3 + (1 : Int32)))]) [1, 2, 3, 0] rfl ?_
        exact ih _ _ _
set_option maxHeartbeats 4000000 in
set_option maxRecDepth 100000 in
theorem m_R_onLevel (hst : l.stackTraces = false) (F : Nat) (p0 : Nat) (p1 : Int32) (w : ga_W) : ga_M l S0 D gz_cl (gz_tA cT) base b gz_xn y_R_onLevel ws_R_onLevel 0 0 true [.ref p0, .int p1] w (f_R_onLevel F p0 p1 w) := by
  refine ga_enter (cc := c_R_onLevel) (maxL := 4) (ret := (some .int)) hst (by decide) rfl (Nat.le_of_ble_eq_true rfl) ?_
  intro p e R s m args below meth c ad0
  refine ga_sub (lv2 := [(0, .ref p0), (1, .int p1)]) [0, 1] rfl ?_
  unfold f_R_onLevel
  refine ga_iconst (v := (0 : Int32)) d_R_onLevel_0 (by decide) ?_
  refine ga_istore_n (lv2 := [(2, .int (0 : Int32)), (0, .ref p0), (1, .int p1)]) d_R_onLevel_1 rfl (by decide) rfl ?_
  refine ga_iconst (v := (0 : Int32)) d_R_onLevel_2 (by decide) ?_
  refine ga_istore_n (lv2 := [(3, .int (0 : Int32)), (2, .int (0 : Int32)), (0, .ref p0), (1, .int p1)]) d_R_onLevel_3 rfl (by decide) rfl ?_
  refine ga_sub (lv2 := [(0, .ref p0), (1, .int p1), (2, .int (0 : Int32)), (3, .int (0 : Int32))]) [2, 3, 1, 0] rfl ?_
  exact h_R_onLevel_4 hst F p0 p1 F (0 : Int32) (0 : Int32) w
noncomputable def f_R_full (F : Nat) (p0 : Nat) (p1 : Int32) (w : ga_W) : ga_O :=
  ((ga_gi w 6 5 p0).bind fun v1 => ((ga_gi w 6 15 p0).bind fun v2 => (if (240 : Int32) < ((v1 + v2) + p1) then (some (.inl (some (.int (1 : Int32))), w)) else ((ga_gi w 6 26 p0).bind fun v4 => (if v4 = 0 then (some (.inl (some (.int (0 : Int32))), w)) else (if ga_is w 6 p0 = true then ga_c (f_R_onLevel F p0 (0 : Int32) w) (ga_kI fun v7 w6 => (if v7 = (8 : Int32) then (some (.inl (some (.int (1 : Int32))), w6)) else (some (.inl (some (.int (0 : Int32))), w6)))) ga_up else none))))))
set_option maxHeartbeats 4000000 in
set_option maxRecDepth 100000 in
theorem m_R_full (hst : l.stackTraces = false) (F : Nat) (p0 : Nat) (p1 : Int32) (w : ga_W) : ga_M l S0 D gz_cl (gz_tA cT) base b gz_xn y_R_full ws_R_full 1 23 true [.ref p0, .int p1] w (f_R_full F p0 p1 w) := by
  refine ga_enter (cc := c_R_full) (maxL := 2) (ret := (some .boolean)) hst (by decide) rfl (Nat.le_of_ble_eq_true rfl) ?_
  intro p e R s m args below meth c ad0
  refine ga_sub (lv2 := [(0, .ref p0), (1, .int p1)]) [0, 1] rfl ?_
  unfold f_R_full
  refine ga_aload_n (q := 0) d_R_full_0 rfl rfl ?_
  refine ga_getI (C := "LevelStoreModel") (T := T_R) (N := 39) (k := 5) (ci := 6) (fun x h => List.mem_cons_of_mem _ (iw_R x h)) rfl (by decide) (List.mem_cons_of_mem _ gw_766) d_R_full_1 (fun v1 => ?_)
  refine ga_aload_n (q := 0) d_R_full_4 rfl rfl ?_
  refine ga_getI (C := "LevelStoreModel") (T := T_R) (N := 39) (k := 15) (ci := 6) (fun x h => List.mem_cons_of_mem _ (iw_R x h)) rfl (by decide) (List.mem_cons_of_mem _ gw_776) d_R_full_5 (fun v2 => ?_)
  refine ga_iadd d_R_full_8 ?_
  refine ga_iload_n (q := 1) d_R_full_9 rfl rfl ?_
  refine ga_iadd d_R_full_10 ?_
  refine ga_sipush (v := (240 : Int32)) d_R_full_11 (by decide) ?_
  refine ga_icmp_gt (tgt := 34) d_R_full_14 (by decide) (fun h3 => ?_) (fun h3 => ?_)
  · refine ga_iconst (v := (1 : Int32)) d_R_full_34 (by decide) ?_
    refine ga_goto (tgt := 39) d_R_full_35 (by decide) ?_
    exact ga_zret rfl rfl d_R_full_39
  · refine ga_aload_n (q := 0) d_R_full_17 rfl rfl ?_
    refine ga_getI (C := "LevelStoreModel") (T := T_R) (N := 39) (k := 26) (ci := 6) (fun x h => List.mem_cons_of_mem _ (iw_R x h)) rfl (by decide) (List.mem_cons_of_mem _ gw_787) d_R_full_18 (fun v4 => ?_)
    refine ga_if_eq (tgt := 38) d_R_full_21 (by decide) (fun h5 => ?_) (fun h5 => ?_)
    · refine ga_iconst (v := (0 : Int32)) d_R_full_38 (by decide) ?_
      exact ga_zret rfl rfl d_R_full_39
    · refine ga_aload_n (q := 0) d_R_full_24 rfl rfl ?_
      refine ga_iconst (v := (0 : Int32)) d_R_full_25 (by decide) ?_
      refine ga_invV (nA := 1) (ci := 6) (T := T_R) (N := 39) (av := [.int (0 : Int32)]) (a := p0) (st := []) (m_R_onLevel hst F p0 (0 : Int32) w) (Or.inl rfl) (gz_gV gw_903 gw_905 gw_21 gw_58 gw_906) rfl ⟨rfl, by decide +kernel⟩ rfl (by decide) (by decide) (Nat.le_of_ble_eq_true rfl) rfl d_R_full_26 (ga_vI (fun v7 w6 => ?_)) (fun _ _ => ga_thru rfl)
      refine ga_bipush (v := (8 : Int32)) d_R_full_29 (by decide) ?_
      refine ga_icmp_ne (tgt := 38) d_R_full_31 (by decide) (fun h8 => ?_) (fun h8 => ?_)
      · refine ga_iconst (v := (1 : Int32)) d_R_full_34 (by decide) ?_
        refine ga_goto (tgt := 39) d_R_full_35 (by decide) ?_
        exact ga_zret rfl rfl d_R_full_39
      · refine ga_iconst (v := (0 : Int32)) d_R_full_38 (by decide) ?_
        exact ga_zret rfl rfl d_R_full_39
noncomputable def f_R_remember (F : Nat) (p0 : Nat) (p1 : Int32) (p2 : Int32) (p3 : Int32) (w : ga_W) : ga_O :=
  ((ga_gi w 6 25 p0).bind fun v1 => ((ga_put w 6 25 p0 (.int (v1 + (1 : Int32)))).bind fun w2 => ((ga_gr w2 6 11 p0).bind fun r3 => ((ga_gi w2 6 15 p0).bind fun v4 => ((ga_si w2 0 r3 v4 p1).bind fun w5 => ((ga_gr w5 6 12 p0).bind fun r6 => ((ga_gi w5 6 15 p0).bind fun v7 => ((ga_gi w5 6 25 p0).bind fun v8 => ((ga_si w5 0 r6 v7 v8).bind fun w9 => ((ga_gr w9 6 13 p0).bind fun r10 => ((ga_gi w9 6 15 p0).bind fun v11 => ((ga_si w9 0 r10 v11 p2).bind fun w12 => ((ga_gr w12 6 14 p0).bind fun r13 => ((ga_gi w12 6 15 p0).bind fun v14 => ((ga_sz w12 1 r13 v14 p3).bind fun w15 => ((ga_gi w15 6 15 p0).bind fun v16 => ((ga_put w15 6 15 p0 (.int (v16 + (1 : Int32)))).bind fun w17 => (some (.inl none, w17)))))))))))))))))))
set_option maxHeartbeats 4000000 in
set_option maxRecDepth 100000 in
theorem m_R_remember (hst : l.stackTraces = false) (F : Nat) (p0 : Nat) (p1 : Int32) (p2 : Int32) (p3 : Int32) (w : ga_W) : ga_M l S0 D gz_cl (gz_tA cT) base b gz_xn y_R_remember ws_R_remember 0 0 true [.ref p0, .int p1, .int p2, .int p3] w (f_R_remember F p0 p1 p2 p3 w) := by
  refine ga_enter (cc := c_R_remember) (maxL := 4) (ret := none) hst (by decide) rfl (Nat.le_of_ble_eq_true rfl) ?_
  intro p e R s m args below meth c ad0
  refine ga_sub (lv2 := [(0, .ref p0), (1, .int p1), (2, .int p2), (3, .int p3)]) [0, 1, 2, 3] rfl ?_
  unfold f_R_remember
  refine ga_aload_n (q := 0) d_R_remember_0 rfl rfl ?_
  refine ga_dup d_R_remember_1 rfl ?_
  refine ga_getI (C := "LevelStoreModel") (T := T_R) (N := 39) (k := 25) (ci := 6) (fun x h => List.mem_cons_of_mem _ (iw_R x h)) rfl (by decide) (List.mem_cons_of_mem _ gw_786) d_R_remember_2 (fun v1 => ?_)
  refine ga_iconst (v := (1 : Int32)) d_R_remember_5 (by decide) ?_
  refine ga_iadd d_R_remember_6 ?_
  refine ga_putB (C := "LevelStoreModel") (T := T_R) (N := 39) (k := 25) (ci := 6) (ty0 := ty_R) (fun x h => List.mem_cons_of_mem _ (iw_R x h)) ty_R_ok nm_R rfl (by decide) (List.mem_cons_of_mem _ gw_786) (Or.inl rfl) (fun _ => ⟨rfl, rfl⟩) d_R_remember_7 (fun w2 => ?_)
  refine ga_aload_n (q := 0) d_R_remember_10 rfl rfl ?_
  refine ga_getR (C := "LevelStoreModel") (T := T_R) (N := 39) (k := 11) (ci := 6) (fun x h => List.mem_cons_of_mem _ (iw_R x h)) rfl (by decide) (List.mem_cons_of_mem _ gw_772) d_R_remember_11 (fun r3 => ?_)
  refine ga_aload_n (q := 0) d_R_remember_14 rfl rfl ?_
  refine ga_getI (C := "LevelStoreModel") (T := T_R) (N := 39) (k := 15) (ci := 6) (fun x h => List.mem_cons_of_mem _ (iw_R x h)) rfl (by decide) (List.mem_cons_of_mem _ gw_776) d_R_remember_15 (fun v4 => ?_)
  refine ga_iload_n (q := 1) d_R_remember_18 rfl rfl ?_
  refine ga_stI (t := 0) rfl d_R_remember_19 (fun w5 => ?_)
  refine ga_aload_n (q := 0) d_R_remember_20 rfl rfl ?_
  refine ga_getR (C := "LevelStoreModel") (T := T_R) (N := 39) (k := 12) (ci := 6) (fun x h => List.mem_cons_of_mem _ (iw_R x h)) rfl (by decide) (List.mem_cons_of_mem _ gw_773) d_R_remember_21 (fun r6 => ?_)
  refine ga_aload_n (q := 0) d_R_remember_24 rfl rfl ?_
  refine ga_getI (C := "LevelStoreModel") (T := T_R) (N := 39) (k := 15) (ci := 6) (fun x h => List.mem_cons_of_mem _ (iw_R x h)) rfl (by decide) (List.mem_cons_of_mem _ gw_776) d_R_remember_25 (fun v7 => ?_)
  refine ga_aload_n (q := 0) d_R_remember_28 rfl rfl ?_
  refine ga_getI (C := "LevelStoreModel") (T := T_R) (N := 39) (k := 25) (ci := 6) (fun x h => List.mem_cons_of_mem _ (iw_R x h)) rfl (by decide) (List.mem_cons_of_mem _ gw_786) d_R_remember_29 (fun v8 => ?_)
  refine ga_stI (t := 0) rfl d_R_remember_32 (fun w9 => ?_)
  refine ga_aload_n (q := 0) d_R_remember_33 rfl rfl ?_
  refine ga_getR (C := "LevelStoreModel") (T := T_R) (N := 39) (k := 13) (ci := 6) (fun x h => List.mem_cons_of_mem _ (iw_R x h)) rfl (by decide) (List.mem_cons_of_mem _ gw_774) d_R_remember_34 (fun r10 => ?_)
  refine ga_aload_n (q := 0) d_R_remember_37 rfl rfl ?_
  refine ga_getI (C := "LevelStoreModel") (T := T_R) (N := 39) (k := 15) (ci := 6) (fun x h => List.mem_cons_of_mem _ (iw_R x h)) rfl (by decide) (List.mem_cons_of_mem _ gw_776) d_R_remember_38 (fun v11 => ?_)
  refine ga_iload_n (q := 2) d_R_remember_41 rfl rfl ?_
  refine ga_stI (t := 0) rfl d_R_remember_42 (fun w12 => ?_)
  refine ga_aload_n (q := 0) d_R_remember_43 rfl rfl ?_
  refine ga_getR (C := "LevelStoreModel") (T := T_R) (N := 39) (k := 14) (ci := 6) (fun x h => List.mem_cons_of_mem _ (iw_R x h)) rfl (by decide) (List.mem_cons_of_mem _ gw_775) d_R_remember_44 (fun r13 => ?_)
  refine ga_aload_n (q := 0) d_R_remember_47 rfl rfl ?_
  refine ga_getI (C := "LevelStoreModel") (T := T_R) (N := 39) (k := 15) (ci := 6) (fun x h => List.mem_cons_of_mem _ (iw_R x h)) rfl (by decide) (List.mem_cons_of_mem _ gw_776) d_R_remember_48 (fun v14 => ?_)
  refine ga_iload_n (q := 3) d_R_remember_51 rfl rfl ?_
  refine ga_stZ (t := 1) rfl d_R_remember_52 (fun w15 => ?_)
  refine ga_aload_n (q := 0) d_R_remember_53 rfl rfl ?_
  refine ga_dup d_R_remember_54 rfl ?_
  refine ga_getI (C := "LevelStoreModel") (T := T_R) (N := 39) (k := 15) (ci := 6) (fun x h => List.mem_cons_of_mem _ (iw_R x h)) rfl (by decide) (List.mem_cons_of_mem _ gw_776) d_R_remember_55 (fun v16 => ?_)
  refine ga_iconst (v := (1 : Int32)) d_R_remember_58 (by decide) ?_
  refine ga_iadd d_R_remember_59 ?_
  refine ga_putB (C := "LevelStoreModel") (T := T_R) (N := 39) (k := 15) (ci := 6) (ty0 := ty_R) (fun x h => List.mem_cons_of_mem _ (iw_R x h)) ty_R_ok nm_R rfl (by decide) (List.mem_cons_of_mem _ gw_776) (Or.inl rfl) (fun _ => ⟨rfl, rfl⟩) d_R_remember_60 (fun w17 => ?_)
  exact ga_vret rfl d_R_remember_63
noncomputable def f_R_copyWork (F : Nat) (p0 : Nat) (p1 : Int32) (p2 : Int32) (w : ga_W) : ga_O :=
  ((ga_gr w 6 32 p0).bind fun r1 => ((ga_gr w 6 32 p0).bind fun r2 => ((ga_ai w 0 r2 p2).bind fun v3 => ((ga_si w 0 r1 p1 v3).bind fun w4 => ((ga_gr w4 6 33 p0).bind fun r5 => ((ga_gr w4 6 33 p0).bind fun r6 => ((ga_ai w4 0 r6 p2).bind fun v7 => ((ga_si w4 0 r5 p1 v7).bind fun w8 => ((ga_gr w8 6 34 p0).bind fun r9 => ((ga_gr w8 6 34 p0).bind fun r10 => ((ga_ai w8 0 r10 p2).bind fun v11 => ((ga_si w8 0 r9 p1 v11).bind fun w12 => ((ga_gr w12 6 35 p0).bind fun r13 => ((ga_gr w12 6 35 p0).bind fun r14 => ((ga_az w12 1 r14 p2).bind fun v15 => ((ga_sz w12 1 r13 p1 v15).bind fun w16 => (some (.inl none, w16))))))))))))))))))
set_option maxHeartbeats 4000000 in
set_option maxRecDepth 100000 in
theorem m_R_copyWork (hst : l.stackTraces = false) (F : Nat) (p0 : Nat) (p1 : Int32) (p2 : Int32) (w : ga_W) : ga_M l S0 D gz_cl (gz_tA cT) base b gz_xn y_R_copyWork ws_R_copyWork 0 0 true [.ref p0, .int p1, .int p2] w (f_R_copyWork F p0 p1 p2 w) := by
  refine ga_enter (cc := c_R_copyWork) (maxL := 3) (ret := none) hst (by decide) rfl (Nat.le_of_ble_eq_true rfl) ?_
  intro p e R s m args below meth c ad0
  refine ga_sub (lv2 := [(0, .ref p0), (1, .int p1), (2, .int p2)]) [0, 1, 2] rfl ?_
  unfold f_R_copyWork
  refine ga_aload_n (q := 0) d_R_copyWork_0 rfl rfl ?_
  refine ga_getR (C := "LevelStoreModel") (T := T_R) (N := 39) (k := 32) (ci := 6) (fun x h => List.mem_cons_of_mem _ (iw_R x h)) rfl (by decide) (List.mem_cons_of_mem _ gw_793) d_R_copyWork_1 (fun r1 => ?_)
  refine ga_iload_n (q := 1) d_R_copyWork_4 rfl rfl ?_
  refine ga_aload_n (q := 0) d_R_copyWork_5 rfl rfl ?_
  refine ga_getR (C := "LevelStoreModel") (T := T_R) (N := 39) (k := 32) (ci := 6) (fun x h => List.mem_cons_of_mem _ (iw_R x h)) rfl (by decide) (List.mem_cons_of_mem _ gw_793) d_R_copyWork_6 (fun r2 => ?_)
  refine ga_iload_n (q := 2) d_R_copyWork_9 rfl rfl ?_
  refine ga_ldI (t := 0) rfl d_R_copyWork_10 (fun v3 => ?_)
  refine ga_stI (t := 0) rfl d_R_copyWork_11 (fun w4 => ?_)
  refine ga_aload_n (q := 0) d_R_copyWork_12 rfl rfl ?_
  refine ga_getR (C := "LevelStoreModel") (T := T_R) (N := 39) (k := 33) (ci := 6) (fun x h => List.mem_cons_of_mem _ (iw_R x h)) rfl (by decide) (List.mem_cons_of_mem _ gw_794) d_R_copyWork_13 (fun r5 => ?_)
  refine ga_iload_n (q := 1) d_R_copyWork_16 rfl rfl ?_
  refine ga_aload_n (q := 0) d_R_copyWork_17 rfl rfl ?_
  refine ga_getR (C := "LevelStoreModel") (T := T_R) (N := 39) (k := 33) (ci := 6) (fun x h => List.mem_cons_of_mem _ (iw_R x h)) rfl (by decide) (List.mem_cons_of_mem _ gw_794) d_R_copyWork_18 (fun r6 => ?_)
  refine ga_iload_n (q := 2) d_R_copyWork_21 rfl rfl ?_
  refine ga_ldI (t := 0) rfl d_R_copyWork_22 (fun v7 => ?_)
  refine ga_stI (t := 0) rfl d_R_copyWork_23 (fun w8 => ?_)
  refine ga_aload_n (q := 0) d_R_copyWork_24 rfl rfl ?_
  refine ga_getR (C := "LevelStoreModel") (T := T_R) (N := 39) (k := 34) (ci := 6) (fun x h => List.mem_cons_of_mem _ (iw_R x h)) rfl (by decide) (List.mem_cons_of_mem _ gw_795) d_R_copyWork_25 (fun r9 => ?_)
  refine ga_iload_n (q := 1) d_R_copyWork_28 rfl rfl ?_
  refine ga_aload_n (q := 0) d_R_copyWork_29 rfl rfl ?_
  refine ga_getR (C := "LevelStoreModel") (T := T_R) (N := 39) (k := 34) (ci := 6) (fun x h => List.mem_cons_of_mem _ (iw_R x h)) rfl (by decide) (List.mem_cons_of_mem _ gw_795) d_R_copyWork_30 (fun r10 => ?_)
  refine ga_iload_n (q := 2) d_R_copyWork_33 rfl rfl ?_
  refine ga_ldI (t := 0) rfl d_R_copyWork_34 (fun v11 => ?_)
  refine ga_stI (t := 0) rfl d_R_copyWork_35 (fun w12 => ?_)
  refine ga_aload_n (q := 0) d_R_copyWork_36 rfl rfl ?_
  refine ga_getR (C := "LevelStoreModel") (T := T_R) (N := 39) (k := 35) (ci := 6) (fun x h => List.mem_cons_of_mem _ (iw_R x h)) rfl (by decide) (List.mem_cons_of_mem _ gw_796) d_R_copyWork_37 (fun r13 => ?_)
  refine ga_iload_n (q := 1) d_R_copyWork_40 rfl rfl ?_
  refine ga_aload_n (q := 0) d_R_copyWork_41 rfl rfl ?_
  refine ga_getR (C := "LevelStoreModel") (T := T_R) (N := 39) (k := 35) (ci := 6) (fun x h => List.mem_cons_of_mem _ (iw_R x h)) rfl (by decide) (List.mem_cons_of_mem _ gw_796) d_R_copyWork_42 (fun r14 => ?_)
  refine ga_iload_n (q := 2) d_R_copyWork_45 rfl rfl ?_
  refine ga_ldZ (t := 1) rfl d_R_copyWork_46 (fun v15 => ?_)
  refine ga_stZ (t := 1) rfl d_R_copyWork_47 (fun w16 => ?_)
  exact ga_vret rfl d_R_copyWork_48
end GM10
