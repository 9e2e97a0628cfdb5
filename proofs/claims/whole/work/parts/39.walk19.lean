/-! WALKS: R_count -/
section GM19
variable {l : Launch} {S0 : State} {D : va_G} {cT : Nat → ClassId} {base b : Nat} {p : Program} {e : Env} {R : Room} {s : State} {m : MethodId} {args : Array Value} {below : List Frame} {meth : Method} {c : Code} {ad0 : Nat → Nat} {w0 : ga_W}
noncomputable def f_R_count (F : Nat) (p0 : Nat) (p1 : Int32) (w : ga_W) : ga_O :=
  ((ga_put w 6 0 p0 (.int (0 : Int32))).bind fun w1 => (ga_c (f_R_in F p1 (11 : Int32) (14 : Int32) w1) (ga_kI fun v3 w2 => (if v3 = 0 then (ga_jn (fun  (w44 : ga_W) => ((ga_gr w44 6 24 p0).bind fun r46 => ((ga_ai w44 0 r46 (p1 - (14 : Int32))).bind fun v47 => (some (.inl (some (.int v47)), w44))))) (fun K45 => (if p1 = 0 then ((ga_gi w2 6 25 p0).bind fun v49 => (some (.inl (some (.int v49)), w2))) else (if p1 = 1 then ((ga_gi w2 6 15 p0).bind fun v51 => (some (.inl (some (.int v51)), w2))) else (if p1 = 2 then ((ga_gi w2 6 17 p0).bind fun v53 => (some (.inl (some (.int v53)), w2))) else (if p1 = 3 then ((ga_gi w2 6 18 p0).bind fun v55 => (some (.inl (some (.int v55)), w2))) else (if p1 = 4 then ((ga_gi w2 6 10 p0).bind fun v57 => (some (.inl (some (.int v57)), w2))) else (if p1 = 5 then ((ga_gi w2 6 26 p0).bind fun v59 => (if v59 = 0 then (some (.inl (some (.int (0 : Int32))), w2)) else (some (.inl (some (.int (1 : Int32))), w2)))) else (if p1 = 6 then ((ga_gi w2 6 27 p0).bind fun v62 => (some (.inl (some (.int v62)), w2))) else (if p1 = 7 then ((ga_gi w2 6 28 p0).bind fun v64 => (some (.inl (some (.int v64)), w2))) else (if p1 = 8 then ((ga_gi w2 6 29 p0).bind fun v66 => (some (.inl (some (.int v66)), w2))) else (if p1 = 9 then ((ga_gi w2 6 30 p0).bind fun v68 => (some (.inl (some (.int v68)), w2))) else (if p1 = 10 then ((ga_gi w2 6 31 p0).bind fun v70 => (some (.inl (some (.int v70)), w2))) else (if p1 = 11 then (if ga_is w2 6 p0 = true then ga_c (f_R_raise F p0 (1 : Int32) w2) (ga_kI fun v73 w72 => (some (.inl (some (.int v73)), w72))) ga_up else none) else (if p1 = 12 then (if ga_is w2 6 p0 = true then ga_c (f_R_raise F p0 (1 : Int32) w2) (ga_kI fun v76 w75 => (some (.inl (some (.int v76)), w75))) ga_up else none) else (if p1 = 13 then (if ga_is w2 6 p0 = true then ga_c (f_R_raise F p0 (1 : Int32) w2) (ga_kI fun v79 w78 => (some (.inl (some (.int v79)), w78))) ga_up else none) else (if p1 = 14 then (if ga_is w2 6 p0 = true then ga_c (f_R_raise F p0 (1 : Int32) w2) (ga_kI fun v82 w81 => (some (.inl (some (.int v82)), w81))) ga_up else none) else (if p1 = 15 then (K45 w2) else (if p1 = 16 then (K45 w2) else (if ga_is w2 6 p0 = true then ga_c (f_R_raise F p0 (1 : Int32) w2) (ga_kI fun v86 w85 => (some (.inl (some (.int v86)), w85))) ga_up else none)))))))))))))))))))) else (if ga_is w2 6 p0 = true then ga_c (f_R_onLevel F p0 (p1 - (11 : Int32)) w2) (ga_kI fun v88 w87 => (some (.inl (some (.int v88)), w87))) ga_up else none))) ga_up))
set_option maxHeartbeats 4000000 in
set_option maxRecDepth 100000 in
theorem m_R_count (hst : l.stackTraces = false) (F : Nat) (p0 : Nat) (p1 : Int32) (w : ga_W) : ga_M l S0 D gz_cl (gz_tA cT) base b gz_xn y_R_count ws_R_count 1 23 true [.ref p0, .int p1] w (f_R_count F p0 p1 w) := by
  refine ga_enter (cc := c_R_count) (maxL := 2) (ret := (some .int)) hst (by decide) rfl (Nat.le_of_ble_eq_true rfl) ?_
  intro p e R s m args below meth c ad0
  refine ga_sub (lv2 := [(0, .ref p0), (1, .int p1)]) [0, 1] rfl ?_
  unfold f_R_count
  refine ga_aload_n (q := 0) d_R_count_0 rfl rfl ?_
  refine ga_iconst (v := (0 : Int32)) d_R_count_1 (by decide) ?_
  refine ga_putB (C := "LevelStoreModel") (T := T_R) (N := 39) (k := 0) (ci := 6) (ty0 := ty_R) (fun x h => List.mem_cons_of_mem _ (iw_R x h)) ty_R_ok nm_R rfl (by decide) (List.mem_cons_of_mem _ gw_761) (Or.inl rfl) (fun _ => ⟨rfl, rfl⟩) d_R_count_2 (fun w1 => ?_)
  refine ga_iload_n (q := 1) d_R_count_5 rfl rfl ?_
  refine ga_bipush (v := (11 : Int32)) d_R_count_6 (by decide) ?_
  refine ga_bipush (v := (14 : Int32)) d_R_count_8 (by decide) ?_
  refine ga_invS (nA := 3) (av := [.int p1, .int (11 : Int32), .int (14 : Int32)]) (st := []) (m_R_in hst F p1 (11 : Int32) (14 : Int32) w1) (Or.inl rfl) (gz_gS gw_892 gw_893 gw_58 gw_894) rfl (by decide +kernel) rfl (by decide) (by decide) (Nat.le_of_ble_eq_true rfl) d_R_count_10 (ga_vI (fun v3 w2 => ?_)) (fun _ _ => ga_thru rfl)
  refine ga_if_eq (tgt := 25) d_R_count_13 (by decide) (fun h4 => ?_) (fun h4 => ?_)
  · refine ga_iload_n (q := 1) d_R_count_25 rfl rfl ?_
    refine ga_join (fun (K45 : ga_W → ga_O) => ∀  (w44 : ga_W), ga_J l S0 D gz_cl (gz_tA cT) base b gz_xn p e R s m args below meth c 2 ws_R_count y_R_count.cls c_R_count (some .int) [] y_R_count.name 1 23 true ad0 w (ga_MQ gz_xn D gz_cl (gz_tA cT) base b s args below ad0 w) 171 [(0, .ref p0), (1, .int p1)] [] w44 (K45 w44)) (fun w44 => ?_) (fun K45 hK45 => ?_)
    · refine ga_aload_n (q := 0) d_R_count_171 rfl rfl ?_
      refine ga_getR (C := "LevelStoreModel") (T := T_R) (N := 39) (k := 24) (ci := 6) (fun x h => List.mem_cons_of_mem _ (iw_R x h)) rfl (by decide) (List.mem_cons_of_mem _ gw_785) d_R_count_172 (fun r46 => ?_)
      refine ga_iload_n (q := 1) d_R_count_175 rfl rfl ?_
      refine ga_bipush (v := (14 : Int32)) d_R_count_176 (by decide) ?_
      refine ga_isub d_R_count_178 ?_
      refine ga_ldI (t := 0) rfl d_R_count_179 (fun v47 => ?_)
      exact ga_iret rfl d_R_count_180
    · refine ga_ite (fun h48 => ?_) (fun h48 => ?_)
      · refine ga_tabIn (x := p1) (off := 82) (tgt := 108) d_R_count_26 (by rw [h48]; decide) (by rw [h48]; decide) (by rw [h48]; rfl) (by decide) ?_
        refine ga_aload_n (q := 0) d_R_count_108 rfl rfl ?_
        refine ga_getI (C := "LevelStoreModel") (T := T_R) (N := 39) (k := 25) (ci := 6) (fun x h => List.mem_cons_of_mem _ (iw_R x h)) rfl (by decide) (List.mem_cons_of_mem _ gw_786) d_R_count_109 (fun v49 => ?_)
        exact ga_iret rfl d_R_count_112
      · refine ga_ite (fun h50 => ?_) (fun h50 => ?_)
        · refine ga_tabIn (x := p1) (off := 87) (tgt := 113) d_R_count_26 (by rw [h50]; decide) (by rw [h50]; decide) (by rw [h50]; rfl) (by decide) ?_
          refine ga_aload_n (q := 0) d_R_count_113 rfl rfl ?_
          refine ga_getI (C := "LevelStoreModel") (T := T_R) (N := 39) (k := 15) (ci := 6) (fun x h => List.mem_cons_of_mem _ (iw_R x h)) rfl (by decide) (List.mem_cons_of_mem _ gw_776) d_R_count_114 (fun v51 => ?_)
          exact ga_iret rfl d_R_count_117
        · refine ga_ite (fun h52 => ?_) (fun h52 => ?_)
          · refine ga_tabIn (x := p1) (off := 92) (tgt := 118) d_R_count_26 (by rw [h52]; decide) (by rw [h52]; decide) (by rw [h52]; rfl) (by decide) ?_
            refine ga_aload_n (q := 0) d_R_count_118 rfl rfl ?_
            refine ga_getI (C := "LevelStoreModel") (T := T_R) (N := 39) (k := 17) (ci := 6) (fun x h => List.mem_cons_of_mem _ (iw_R x h)) rfl (by decide) (List.mem_cons_of_mem _ gw_778) d_R_count_119 (fun v53 => ?_)
            exact ga_iret rfl d_R_count_122
          · refine ga_ite (fun h54 => ?_) (fun h54 => ?_)
            · refine ga_tabIn (x := p1) (off := 97) (tgt := 123) d_R_count_26 (by rw [h54]; decide) (by rw [h54]; decide) (by rw [h54]; rfl) (by decide) ?_
              refine ga_aload_n (q := 0) d_R_count_123 rfl rfl ?_
              refine ga_getI (C := "LevelStoreModel") (T := T_R) (N := 39) (k := 18) (ci := 6) (fun x h => List.mem_cons_of_mem _ (iw_R x h)) rfl (by decide) (List.mem_cons_of_mem _ gw_779) d_R_count_124 (fun v55 => ?_)
              exact ga_iret rfl d_R_count_127
            · refine ga_ite (fun h56 => ?_) (fun h56 => ?_)
              · refine ga_tabIn (x := p1) (off := 102) (tgt := 128) d_R_count_26 (by rw [h56]; decide) (by rw [h56]; decide) (by rw [h56]; rfl) (by decide) ?_
                refine ga_aload_n (q := 0) d_R_count_128 rfl rfl ?_
                refine ga_getI (C := "LevelStoreModel") (T := T_R) (N := 39) (k := 10) (ci := 6) (fun x h => List.mem_cons_of_mem _ (iw_R x h)) rfl (by decide) (List.mem_cons_of_mem _ gw_771) d_R_count_129 (fun v57 => ?_)
                exact ga_iret rfl d_R_count_132
              · refine ga_ite (fun h58 => ?_) (fun h58 => ?_)
                · refine ga_tabIn (x := p1) (off := 107) (tgt := 133) d_R_count_26 (by rw [h58]; decide) (by rw [h58]; decide) (by rw [h58]; rfl) (by decide) ?_
                  refine ga_aload_n (q := 0) d_R_count_133 rfl rfl ?_
                  refine ga_getI (C := "LevelStoreModel") (T := T_R) (N := 39) (k := 26) (ci := 6) (fun x h => List.mem_cons_of_mem _ (iw_R x h)) rfl (by decide) (List.mem_cons_of_mem _ gw_787) d_R_count_134 (fun v59 => ?_)
                  refine ga_if_eq (tgt := 144) d_R_count_137 (by decide) (fun h60 => ?_) (fun h60 => ?_)
                  · refine ga_iconst (v := (0 : Int32)) d_R_count_144 (by decide) ?_
                    exact ga_iret rfl d_R_count_145
                  · refine ga_iconst (v := (1 : Int32)) d_R_count_140 (by decide) ?_
                    refine ga_goto (tgt := 145) d_R_count_141 (by decide) ?_
                    exact ga_iret rfl d_R_count_145
                · refine ga_ite (fun h61 => ?_) (fun h61 => ?_)
                  · refine ga_tabIn (x := p1) (off := 120) (tgt := 146) d_R_count_26 (by rw [h61]; decide) (by rw [h61]; decide) (by rw [h61]; rfl) (by decide) ?_
                    refine ga_aload_n (q := 0) d_R_count_146 rfl rfl ?_
                    refine ga_getI (C := "LevelStoreModel") (T := T_R) (N := 39) (k := 27) (ci := 6) (fun x h => List.mem_cons_of_mem _ (iw_R x h)) rfl (by decide) (List.mem_cons_of_mem _ gw_788) d_R_count_147 (fun v62 => ?_)
                    exact ga_iret rfl d_R_count_150
                  · refine ga_ite (fun h63 => ?_) (fun h63 => ?_)
                    · refine ga_tabIn (x := p1) (off := 125) (tgt := 151) d_R_count_26 (by rw [h63]; decide) (by rw [h63]; decide) (by rw [h63]; rfl) (by decide) ?_
                      refine ga_aload_n (q := 0) d_R_count_151 rfl rfl ?_
                      refine ga_getI (C := "LevelStoreModel") (T := T_R) (N := 39) (k := 28) (ci := 6) (fun x h => List.mem_cons_of_mem _ (iw_R x h)) rfl (by decide) (List.mem_cons_of_mem _ gw_789) d_R_count_152 (fun v64 => ?_)
                      exact ga_iret rfl d_R_count_155
                    · refine ga_ite (fun h65 => ?_) (fun h65 => ?_)
                      · refine ga_tabIn (x := p1) (off := 130) (tgt := 156) d_R_count_26 (by rw [h65]; decide) (by rw [h65]; decide) (by rw [h65]; rfl) (by decide) ?_
                        refine ga_aload_n (q := 0) d_R_count_156 rfl rfl ?_
                        refine ga_getI (C := "LevelStoreModel") (T := T_R) (N := 39) (k := 29) (ci := 6) (fun x h => List.mem_cons_of_mem _ (iw_R x h)) rfl (by decide) (List.mem_cons_of_mem _ gw_790) d_R_count_157 (fun v66 => ?_)
                        exact ga_iret rfl d_R_count_160
                      · refine ga_ite (fun h67 => ?_) (fun h67 => ?_)
                        · refine ga_tabIn (x := p1) (off := 135) (tgt := 161) d_R_count_26 (by rw [h67]; decide) (by rw [h67]; decide) (by rw [h67]; rfl) (by decide) ?_
                          refine ga_aload_n (q := 0) d_R_count_161 rfl rfl ?_
                          refine ga_getI (C := "LevelStoreModel") (T := T_R) (N := 39) (k := 30) (ci := 6) (fun x h => List.mem_cons_of_mem _ (iw_R x h)) rfl (by decide) (List.mem_cons_of_mem _ gw_791) d_R_count_162 (fun v68 => ?_)
                          exact ga_iret rfl d_R_count_165
                        · refine ga_ite (fun h69 => ?_) (fun h69 => ?_)
                          · refine ga_tabIn (x := p1) (off := 140) (tgt := 166) d_R_count_26 (by rw [h69]; decide) (by rw [h69]; decide) (by rw [h69]; rfl) (by decide) ?_
                            refine ga_aload_n (q := 0) d_R_count_166 rfl rfl ?_
                            refine ga_getI (C := "LevelStoreModel") (T := T_R) (N := 39) (k := 31) (ci := 6) (fun x h => List.mem_cons_of_mem _ (iw_R x h)) rfl (by decide) (List.mem_cons_of_mem _ gw_792) d_R_count_167 (fun v70 => ?_)
                            exact ga_iret rfl d_R_count_170
                          · refine ga_ite (fun h71 => ?_) (fun h71 => ?_)
                            · refine ga_tabIn (x := p1) (off := 155) (tgt := 181) d_R_count_26 (by rw [h71]; decide) (by rw [h71]; decide) (by rw [h71]; rfl) (by decide) ?_
                              refine ga_aload_n (q := 0) d_R_count_181 rfl rfl ?_
                              refine ga_iconst (v := (1 : Int32)) d_R_count_182 (by decide) ?_
                              refine ga_invV (nA := 1) (ci := 6) (T := T_R) (N := 39) (av := [.int (1 : Int32)]) (a := p0) (st := []) (m_R_raise hst F p0 (1 : Int32) w2) (Or.inl rfl) (gz_gV gw_895 gw_897 gw_19 gw_58 gw_898) rfl ⟨rfl, by decide +kernel⟩ rfl (by decide) (by decide) (Nat.le_of_ble_eq_true rfl) rfl d_R_count_183 (ga_vI (fun v73 w72 => ?_)) (fun _ _ => ga_thru rfl)
                              exact ga_iret rfl d_R_count_186
                            · refine ga_ite (fun h74 => ?_) (fun h74 => ?_)
                              · refine ga_tabIn (x := p1) (off := 155) (tgt := 181) d_R_count_26 (by rw [h74]; decide) (by rw [h74]; decide) (by rw [h74]; rfl) (by decide) ?_
                                refine ga_aload_n (q := 0) d_R_count_181 rfl rfl ?_
                                refine ga_iconst (v := (1 : Int32)) d_R_count_182 (by decide) ?_
                                refine ga_invV (nA := 1) (ci := 6) (T := T_R) (N := 39) (av := [.int (1 : Int32)]) (a := p0) (st := []) (m_R_raise hst F p0 (1 : Int32) w2) (Or.inl rfl) (gz_gV gw_895 gw_897 gw_19 gw_58 gw_898) rfl ⟨rfl, by decide +kernel⟩ rfl (by decide) (by decide) (Nat.le_of_ble_eq_true rfl) rfl d_R_count_183 (ga_vI (fun v76 w75 => ?_)) (fun _ _ => ga_thru rfl)
                                exact ga_iret rfl d_R_count_186
                              · refine ga_ite (fun h77 => ?_) (fun h77 => ?_)
                                · refine ga_tabIn (x := p1) (off := 155) (tgt := 181) d_R_count_26 (by rw [h77]; decide) (by rw [h77]; decide) (by rw [h77]; rfl) (by decide) ?_
                                  refine ga_aload_n (q := 0) d_R_count_181 rfl rfl ?_
                                  refine ga_iconst (v := (1 : Int32)) d_R_count_182 (by decide) ?_
                                  refine ga_invV (nA := 1) (ci := 6) (T := T_R) (N := 39) (av := [.int (1 : Int32)]) (a := p0) (st := []) (m_R_raise hst F p0 (1 : Int32) w2) (Or.inl rfl) (gz_gV gw_895 gw_897 gw_19 gw_58 gw_898) rfl ⟨rfl, by decide +kernel⟩ rfl (by decide) (by decide) (Nat.le_of_ble_eq_true rfl) rfl d_R_count_183 (ga_vI (fun v79 w78 => ?_)) (fun _ _ => ga_thru rfl)
                                  exact ga_iret rfl d_R_count_186
                                · refine ga_ite (fun h80 => ?_) (fun h80 => ?_)
                                  · refine ga_tabIn (x := p1) (off := 155) (tgt := 181) d_R_count_26 (by rw [h80]; decide) (by rw [h80]; decide) (by rw [h80]; rfl) (by decide) ?_
                                    refine ga_aload_n (q := 0) d_R_count_181 rfl rfl ?_
                                    refine ga_iconst (v := (1 : Int32)) d_R_count_182 (by decide) ?_
                                    refine ga_invV (nA := 1) (ci := 6) (T := T_R) (N := 39) (av := [.int (1 : Int32)]) (a := p0) (st := []) (m_R_raise hst F p0 (1 : Int32) w2) (Or.inl rfl) (gz_gV gw_895 gw_897 gw_19 gw_58 gw_898) rfl ⟨rfl, by decide +kernel⟩ rfl (by decide) (by decide) (Nat.le_of_ble_eq_true rfl) rfl d_R_count_183 (ga_vI (fun v82 w81 => ?_)) (fun _ _ => ga_thru rfl)
                                    exact ga_iret rfl d_R_count_186
                                  · refine ga_ite (fun h83 => ?_) (fun h83 => ?_)
                                    · refine ga_tabIn (x := p1) (off := 145) (tgt := 171) d_R_count_26 (by rw [h83]; decide) (by rw [h83]; decide) (by rw [h83]; rfl) (by decide) ?_
                                      exact hK45 _
                                    · refine ga_ite (fun h84 => ?_) (fun h84 => ?_)
                                      · refine ga_tabIn (x := p1) (off := 145) (tgt := 171) d_R_count_26 (by rw [h84]; decide) (by rw [h84]; decide) (by rw [h84]; rfl) (by decide) ?_
                                        exact hK45 _
                                      · refine ga_tabOut (x := p1) (tgt := 181) d_R_count_26 (ga_out16 h48 h50 h52 h54 h56 h58 h61 h63 h65 h67 h69 h71 h74 h77 h80 h83 h84) (by decide) ?_
                                        refine ga_aload_n (q := 0) d_R_count_181 rfl rfl ?_
                                        refine ga_iconst (v := (1 : Int32)) d_R_count_182 (by decide) ?_
                                        refine ga_invV (nA := 1) (ci := 6) (T := T_R) (N := 39) (av := [.int (1 : Int32)]) (a := p0) (st := []) (m_R_raise hst F p0 (1 : Int32) w2) (Or.inl rfl) (gz_gV gw_895 gw_897 gw_19 gw_58 gw_898) rfl ⟨rfl, by decide +kernel⟩ rfl (by decide) (by decide) (Nat.le_of_ble_eq_true rfl) rfl d_R_count_183 (ga_vI (fun v86 w85 => ?_)) (fun _ _ => ga_thru rfl)
                                        exact ga_iret rfl d_R_count_186
  · refine ga_aload_n (q := 0) d_R_count_16 rfl rfl ?_
    refine ga_iload_n (q := 1) d_R_count_17 rfl rfl ?_
    refine ga_bipush (v := (11 : Int32)) d_R_count_18 (by decide) ?_
    refine ga_isub d_R_count_20 ?_
    refine ga_invV (nA := 1) (ci := 6) (T := T_R) (N := 39) (av := [.int (p1 - (11 : Int32))]) (a := p0) (st := []) (m_R_onLevel hst F p0 (p1 - (11 : Int32)) w2) (Or.inl rfl) (gz_gV gw_903 gw_905 gw_21 gw_58 gw_906) rfl ⟨rfl, by decide +kernel⟩ rfl (by decide) (by decide) (Nat.le_of_ble_eq_true rfl) rfl d_R_count_21 (ga_vI (fun v88 w87 => ?_)) (fun _ _ => ga_thru rfl)
    exact ga_iret rfl d_R_count_24
end GM19
