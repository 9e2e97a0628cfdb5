/-! THE LAW, WALKED -/
section GW
variable {l : Launch} {D : va_G} {cT : Nat → ClassId} {b L : Nat} {xs : Nat → Int32} {p : Program} {e : Env} {s : State} {m : MethodId} {below : List Frame} {meth : Method} {c : Code} {ad0 : Nat → Nat} {w0 : ga_W}
noncomputable def f_W_law_28 (F : Nat) (xs : Nat → Int32) (L : Nat) (x1 : Nat) (x2 : Nat) (x3 : Nat) (x4 : Nat) : Nat → Int32 → ga_W → ga_O
  | 0, _, _ => none
  | n + 1, x5, w => (if ((Int32.ofNat L) - (3 : Int32)) < x5 then (some (.inl (some (.int 1)), w)) else (if ¬ (x5 < 0 ∨ L ≤ (x5).toNatClampNeg) then ga_ati (xs (x5).toNatClampNeg) (fun v2 => (if (v2 &&& (15 : Int32)) = 0 then (if ¬ ((x5 + (1 : Int32)) < 0 ∨ L ≤ ((x5 + (1 : Int32))).toNatClampNeg) then ga_ati (xs ((x5 + (1 : Int32))).toNatClampNeg) (fun v5 => (if ¬ ((x5 + (2 : Int32)) < 0 ∨ L ≤ ((x5 + (2 : Int32))).toNatClampNeg) then ga_ati (xs ((x5 + (2 : Int32))).toNatClampNeg) (fun v7 => (ga_c (f_W_put F x1 v5 v7 x3 w) (ga_kI fun v10 w9 => (if ¬ ((x5 + (1 : Int32)) < 0 ∨ L ≤ ((x5 + (1 : Int32))).toNatClampNeg) then ga_ati (xs ((x5 + (1 : Int32))).toNatClampNeg) (fun v11 => (if ¬ ((x5 + (2 : Int32)) < 0 ∨ L ≤ ((x5 + (2 : Int32))).toNatClampNeg) then ga_ati (xs ((x5 + (2 : Int32))).toNatClampNeg) (fun v13 => (if ga_is w9 6 x2 = true then ga_c (f_R_put F x2 v11 v13 w9) (ga_kI fun v16 w15 => (if ga_is w15 6 x2 = true then ga_c (f_R_thrown F x2 w15) (ga_kI fun v18 w17 => (if v18 = v10 then (if v10 = 0 then ((ga_al w17 2 x3 (0 : Int32)).bind fun v21 => (if (lg_cmp v21 (Int32.toInt64 v16)) = 0 then (f_W_law_28 F xs L x1 x2 x3 x4 n (x5 + (3 : Int32)) w17) else none)) else (f_W_law_28 F xs L x1 x2 x3 x4 n (x5 + (3 : Int32)) w17)) else none)) (fun _ _ => none) else none)) (fun _ _ => none) else none)) else none)) else none)) (fun _ _ => none))) else none)) else none) else (if (v2 &&& (15 : Int32)) = 1 then (if ¬ ((x5 + (1 : Int32)) < 0 ∨ L ≤ ((x5 + (1 : Int32))).toNatClampNeg) then ga_ati (xs ((x5 + (1 : Int32))).toNatClampNeg) (fun v24 => (ga_c (f_W_remove F x1 v24 x3 w) (ga_kI fun v27 w26 => (if ¬ ((x5 + (1 : Int32)) < 0 ∨ L ≤ ((x5 + (1 : Int32))).toNatClampNeg) then ga_ati (xs ((x5 + (1 : Int32))).toNatClampNeg) (fun v28 => (if ga_is w26 6 x2 = true then ga_c (f_R_remove F x2 v28 w26) (ga_kI fun v31 w30 => (if ga_is w30 6 x2 = true then ga_c (f_R_thrown F x2 w30) (ga_kI fun v33 w32 => (if v33 = v27 then (if v27 = 0 then ((ga_al w32 2 x3 (0 : Int32)).bind fun v36 => (if (lg_cmp v36 (Int32.toInt64 v31)) = 0 then (f_W_law_28 F xs L x1 x2 x3 x4 n (x5 + (3 : Int32)) w32) else none)) else (f_W_law_28 F xs L x1 x2 x3 x4 n (x5 + (3 : Int32)) w32)) else none)) (fun _ _ => none) else none)) (fun _ _ => none) else none)) else none)) (fun _ _ => none))) else none) else (if (v2 &&& (15 : Int32)) = 2 then (ga_c (f_W_open F x1 x3 w) (ga_kI fun v40 w39 => (if ga_is w39 6 x2 = true then ga_c (f_R_open F x2 w39) (ga_kI fun v42 w41 => (if ga_is w41 6 x2 = true then ga_c (f_R_thrown F x2 w41) (ga_kI fun v44 w43 => (if v44 = v40 then (if v40 = 0 then ((ga_al w43 2 x3 (0 : Int32)).bind fun v47 => (if (lg_cmp v47 (Int32.toInt64 v42)) = 0 then (f_W_law_28 F xs L x1 x2 x3 x4 n (x5 + (3 : Int32)) w43) else none)) else (f_W_law_28 F xs L x1 x2 x3 x4 n (x5 + (3 : Int32)) w43)) else none)) (fun _ _ => none) else none)) (fun _ _ => none) else none)) (fun _ _ => none)) else (if (v2 &&& (15 : Int32)) = 3 then (if ¬ ((x5 + (1 : Int32)) < 0 ∨ L ≤ ((x5 + (1 : Int32))).toNatClampNeg) then ga_ati (xs ((x5 + (1 : Int32))).toNatClampNeg) (fun v50 => (ga_jn (fun (y53 : Int32) (w54 : ga_W) => (ga_c (f_W_close F x1 y53 x3 w54) (ga_kI fun v57 w56 => (if ¬ ((x5 + (1 : Int32)) < 0 ∨ L ≤ ((x5 + (1 : Int32))).toNatClampNeg) then ga_ati (xs ((x5 + (1 : Int32))).toNatClampNeg) (fun v58 => (ga_jn (fun (y61 : Int32) (w62 : ga_W) => (if ga_is w62 6 x2 = true then ga_c (f_R_close F x2 y61 w62) (ga_kI fun v65 w64 => (if ga_is w64 6 x2 = true then ga_c (f_R_thrown F x2 w64) (ga_kI fun v67 w66 => (if v67 = v57 then (if v57 = 0 then ((ga_al w66 2 x3 (0 : Int32)).bind fun v70 => (if (lg_cmp v70 (Int32.toInt64 v65)) = 0 then (f_W_law_28 F xs L x1 x2 x3 x4 n (x5 + (3 : Int32)) w66) else none)) else (f_W_law_28 F xs L x1 x2 x3 x4 n (x5 + (3 : Int32)) w66)) else none)) (fun _ _ => none) else none)) (fun _ _ => none) else none)) (fun K63 => (if v58 = 0 then (K63 (0 : Int32) w56) else (K63 (1 : Int32) w56))))) else none)) (fun _ _ => none))) (fun K55 => (if v50 = 0 then (K55 (0 : Int32) w) else (K55 (1 : Int32) w))))) else none) else (if (v2 &&& (15 : Int32)) = 4 then (if ga_is w 5 x1 = true then ga_c (f_L_sync F x1 w) (ga_kI fun v76 w75 => (if ga_is w75 6 x2 = true then ga_c (f_R_sync F x2 w75) (ga_kI fun v78 w77 => (if v76 = v78 then (f_W_law_28 F xs L x1 x2 x3 x4 n (x5 + (3 : Int32)) w77) else none)) (fun _ _ => none) else none)) (fun _ _ => none) else none) else (if (v2 &&& (15 : Int32)) = 5 then (if ¬ ((x5 + (1 : Int32)) < 0 ∨ L ≤ ((x5 + (1 : Int32))).toNatClampNeg) then ga_ati (xs ((x5 + (1 : Int32))).toNatClampNeg) (fun v81 => (ga_c (f_W_crash F x1 v81 x3 w) (ga_kI fun v84 w83 => (if ¬ ((x5 + (1 : Int32)) < 0 ∨ L ≤ ((x5 + (1 : Int32))).toNatClampNeg) then ga_ati (xs ((x5 + (1 : Int32))).toNatClampNeg) (fun v85 => (if ga_is w83 6 x2 = true then ga_c (f_R_crash F x2 v85 w83) (ga_kI fun v88 w87 => (if ga_is w87 6 x2 = true then ga_c (f_R_thrown F x2 w87) (ga_kI fun v90 w89 => (if v90 = v84 then (if v84 = 0 then ((ga_al w89 2 x3 (0 : Int32)).bind fun v93 => (if (lg_cmp v93 (Int32.toInt64 v88)) = 0 then (f_W_law_28 F xs L x1 x2 x3 x4 n (x5 + (3 : Int32)) w89) else none)) else (f_W_law_28 F xs L x1 x2 x3 x4 n (x5 + (3 : Int32)) w89)) else none)) (fun _ _ => none) else none)) (fun _ _ => none) else none)) else none)) (fun _ _ => none))) else none) else (if (v2 &&& (15 : Int32)) = 6 then (ga_c (f_W_flush F x1 x3 w) (ga_kI fun v97 w96 => (if ga_is w96 6 x2 = true then ga_c (f_R_flush F x2 w96) (ga_kI fun v99 w98 => (if ga_is w98 6 x2 = true then ga_c (f_R_thrown F x2 w98) (ga_kI fun v101 w100 => (if v101 = v97 then (if v97 = 0 then ((ga_al w100 2 x3 (0 : Int32)).bind fun v104 => (if (lg_cmp v104 (Int32.toInt64 v99)) = 0 then (f_W_law_28 F xs L x1 x2 x3 x4 n (x5 + (3 : Int32)) w100) else none)) else (f_W_law_28 F xs L x1 x2 x3 x4 n (x5 + (3 : Int32)) w100)) else none)) (fun _ _ => none) else none)) (fun _ _ => none) else none)) (fun _ _ => none)) else (if (v2 &&& (15 : Int32)) = 7 then (if ¬ ((x5 + (1 : Int32)) < 0 ∨ L ≤ ((x5 + (1 : Int32))).toNatClampNeg) then ga_ati (xs ((x5 + (1 : Int32))).toNatClampNeg) (fun v107 => (if ¬ ((x5 + (2 : Int32)) < 0 ∨ L ≤ ((x5 + (2 : Int32))).toNatClampNeg) then ga_ati (xs ((x5 + (2 : Int32))).toNatClampNeg) (fun v109 => (ga_c (f_W_get F x1 v107 v109 x3 w) (ga_kI fun v112 w111 => (if ¬ ((x5 + (1 : Int32)) < 0 ∨ L ≤ ((x5 + (1 : Int32))).toNatClampNeg) then ga_ati (xs ((x5 + (1 : Int32))).toNatClampNeg) (fun v113 => (if ¬ ((x5 + (2 : Int32)) < 0 ∨ L ≤ ((x5 + (2 : Int32))).toNatClampNeg) then ga_ati (xs ((x5 + (2 : Int32))).toNatClampNeg) (fun v115 => (if ga_is w111 6 x2 = true then ga_c (f_R_get F x2 v113 v115 w111) (ga_kI fun v118 w117 => (if ga_is w117 6 x2 = true then ga_c (f_R_thrown F x2 w117) (ga_kI fun v120 w119 => (if v120 = v112 then (if v112 = 0 then ((ga_al w119 2 x3 (0 : Int32)).bind fun v123 => (if (lg_cmp v123 (Int32.toInt64 v118)) = 0 then (f_W_law_28 F xs L x1 x2 x3 x4 n (x5 + (3 : Int32)) w119) else none)) else (f_W_law_28 F xs L x1 x2 x3 x4 n (x5 + (3 : Int32)) w119)) else none)) (fun _ _ => none) else none)) (fun _ _ => none) else none)) else none)) else none)) (fun _ _ => none))) else none)) else none) else (if (v2 &&& (15 : Int32)) = 8 then (if ¬ ((x5 + (1 : Int32)) < 0 ∨ L ≤ ((x5 + (1 : Int32))).toNatClampNeg) then ga_ati (xs ((x5 + (1 : Int32))).toNatClampNeg) (fun v126 => (if ¬ ((x5 + (2 : Int32)) < 0 ∨ L ≤ ((x5 + (2 : Int32))).toNatClampNeg) then ga_ati (xs ((x5 + (2 : Int32))).toNatClampNeg) (fun v128 => (ga_c (f_W_next F x1 v126 v128 x3 w) (ga_kI fun v131 w130 => (if ¬ ((x5 + (1 : Int32)) < 0 ∨ L ≤ ((x5 + (1 : Int32))).toNatClampNeg) then ga_ati (xs ((x5 + (1 : Int32))).toNatClampNeg) (fun v132 => (if ¬ ((x5 + (2 : Int32)) < 0 ∨ L ≤ ((x5 + (2 : Int32))).toNatClampNeg) then ga_ati (xs ((x5 + (2 : Int32))).toNatClampNeg) (fun v134 => (if ga_is w130 6 x2 = true then ga_c (f_R_next F x2 v132 v134 w130) (ga_kI fun v137 w136 => (if ga_is w136 6 x2 = true then ga_c (f_R_thrown F x2 w136) (ga_kI fun v139 w138 => (if v139 = v131 then (if v131 = 0 then ((ga_al w138 2 x3 (0 : Int32)).bind fun v142 => (if (lg_cmp v142 (Int32.toInt64 v137)) = 0 then (f_W_law_28 F xs L x1 x2 x3 x4 n (x5 + (3 : Int32)) w138) else none)) else (f_W_law_28 F xs L x1 x2 x3 x4 n (x5 + (3 : Int32)) w138)) else none)) (fun _ _ => none) else none)) (fun _ _ => none) else none)) else none)) else none)) (fun _ _ => none))) else none)) else none) else (if (v2 &&& (15 : Int32)) = 9 then (ga_c (f_W_snapshot F x1 x3 w) (ga_kI fun v146 w145 => (if ga_is w145 6 x2 = true then ga_c (f_R_snapshot F x2 w145) (ga_kI fun v148 w147 => (if ga_is w147 6 x2 = true then ga_c (f_R_thrown F x2 w147) (ga_kI fun v150 w149 => (if v150 = v146 then (if v146 = 0 then ((ga_al w149 2 x3 (0 : Int32)).bind fun v153 => (if (lg_cmp v153 (Int32.toInt64 v148)) = 0 then (f_W_law_28 F xs L x1 x2 x3 x4 n (x5 + (3 : Int32)) w149) else none)) else (f_W_law_28 F xs L x1 x2 x3 x4 n (x5 + (3 : Int32)) w149)) else none)) (fun _ _ => none) else none)) (fun _ _ => none) else none)) (fun _ _ => none)) else (if (v2 &&& (15 : Int32)) = 10 then (if ¬ ((x5 + (1 : Int32)) < 0 ∨ L ≤ ((x5 + (1 : Int32))).toNatClampNeg) then ga_ati (xs ((x5 + (1 : Int32))).toNatClampNeg) (fun v156 => (ga_c (f_W_release F x1 v156 x3 w) (ga_kI fun v159 w158 => (if ¬ ((x5 + (1 : Int32)) < 0 ∨ L ≤ ((x5 + (1 : Int32))).toNatClampNeg) then ga_ati (xs ((x5 + (1 : Int32))).toNatClampNeg) (fun v160 => (if ga_is w158 6 x2 = true then ga_c (f_R_release F x2 v160 w158) (ga_kI fun v163 w162 => (if ga_is w162 6 x2 = true then ga_c (f_R_thrown F x2 w162) (ga_kI fun v165 w164 => (if v165 = v159 then (if v159 = 0 then ((ga_al w164 2 x3 (0 : Int32)).bind fun v168 => (if (lg_cmp v168 (Int32.toInt64 v163)) = 0 then (f_W_law_28 F xs L x1 x2 x3 x4 n (x5 + (3 : Int32)) w164) else none)) else (f_W_law_28 F xs L x1 x2 x3 x4 n (x5 + (3 : Int32)) w164)) else none)) (fun _ _ => none) else none)) (fun _ _ => none) else none)) else none)) (fun _ _ => none))) else none) else (if (v2 &&& (15 : Int32)) = 11 then (if ¬ ((x5 + (1 : Int32)) < 0 ∨ L ≤ ((x5 + (1 : Int32))).toNatClampNeg) then ga_ati (xs ((x5 + (1 : Int32))).toNatClampNeg) (fun v171 => (if ¬ ((x5 + (2 : Int32)) < 0 ∨ L ≤ ((x5 + (2 : Int32))).toNatClampNeg) then ga_ati (xs ((x5 + (2 : Int32))).toNatClampNeg) (fun v173 => (ga_c (f_W_spoil F x1 v171 v173 x3 w) (ga_kI fun v176 w175 => (if ¬ ((x5 + (1 : Int32)) < 0 ∨ L ≤ ((x5 + (1 : Int32))).toNatClampNeg) then ga_ati (xs ((x5 + (1 : Int32))).toNatClampNeg) (fun v177 => (if ¬ ((x5 + (2 : Int32)) < 0 ∨ L ≤ ((x5 + (2 : Int32))).toNatClampNeg) then ga_ati (xs ((x5 + (2 : Int32))).toNatClampNeg) (fun v179 => (if ga_is w175 6 x2 = true then ga_c (f_R_spoil F x2 v177 v179 w175) (ga_kI fun v182 w181 => (if ga_is w181 6 x2 = true then ga_c (f_R_thrown F x2 w181) (ga_kI fun v184 w183 => (if v184 = v176 then (if v176 = 0 then ((ga_al w183 2 x3 (0 : Int32)).bind fun v187 => (if (lg_cmp v187 (Int32.toInt64 v182)) = 0 then (f_W_law_28 F xs L x1 x2 x3 x4 n (x5 + (3 : Int32)) w183) else none)) else (f_W_law_28 F xs L x1 x2 x3 x4 n (x5 + (3 : Int32)) w183)) else none)) (fun _ _ => none) else none)) (fun _ _ => none) else none)) else none)) else none)) (fun _ _ => none))) else none)) else none) else (if (v2 &&& (15 : Int32)) = 12 then (if ga_is w 5 x1 = true then ga_c (f_L_giveUp F x1 w) (ga_kI fun v191 w190 => (if ga_is w190 6 x2 = true then ga_c (f_R_giveUp F x2 w190) (ga_kI fun v193 w192 => (if v191 = v193 then (f_W_law_28 F xs L x1 x2 x3 x4 n (x5 + (3 : Int32)) w192) else none)) (fun _ _ => none) else none)) (fun _ _ => none) else none) else (if (v2 &&& (15 : Int32)) = 13 then (ga_c (f_W_effort F x1 x4 w) (ga_kI fun v197 w196 => (if ga_is w196 6 x2 = true then ga_c (f_R_effort F x2 w196) (ga_kD fun v199 w198 => (if ga_is w198 6 x2 = true then ga_c (f_R_thrown F x2 w198) (ga_kI fun v201 w200 => (if v201 = v197 then (if v197 = 0 then ((ga_ad w200 3 x4 (0 : Int32)).bind fun v204 => (if (Op.cmpValue (FP.dcmp v204 v199) .l) = 0 then (f_W_law_28 F xs L x1 x2 x3 x4 n (x5 + (3 : Int32)) w200) else ((ga_ad w200 3 x4 (0 : Int32)).bind fun v206 => ((ga_ad w200 3 x4 (0 : Int32)).bind fun v207 => (if (Op.cmpValue (FP.dcmp v206 v207) .l) = 0 then none else (if (Op.cmpValue (FP.dcmp v199 v199) .l) = 0 then none else (f_W_law_28 F xs L x1 x2 x3 x4 n (x5 + (3 : Int32)) w200))))))) else (f_W_law_28 F xs L x1 x2 x3 x4 n (x5 + (3 : Int32)) w200)) else none)) (fun _ _ => none) else none)) (fun _ _ => none) else none)) (fun _ _ => none)) else (if (v2 &&& (15 : Int32)) = 14 then (if ¬ ((x5 + (1 : Int32)) < 0 ∨ L ≤ ((x5 + (1 : Int32))).toNatClampNeg) then ga_ati (xs ((x5 + (1 : Int32))).toNatClampNeg) (fun v211 => (if ¬ ((x5 + (2 : Int32)) < 0 ∨ L ≤ ((x5 + (2 : Int32))).toNatClampNeg) then ga_ati (xs ((x5 + (2 : Int32))).toNatClampNeg) (fun v213 => (ga_c (f_W_table F x1 v211 v213 x3 w) (ga_kI fun v216 w215 => (if ¬ ((x5 + (1 : Int32)) < 0 ∨ L ≤ ((x5 + (1 : Int32))).toNatClampNeg) then ga_ati (xs ((x5 + (1 : Int32))).toNatClampNeg) (fun v217 => (if ¬ ((x5 + (2 : Int32)) < 0 ∨ L ≤ ((x5 + (2 : Int32))).toNatClampNeg) then ga_ati (xs ((x5 + (2 : Int32))).toNatClampNeg) (fun v219 => (if ga_is w215 6 x2 = true then ga_c (f_R_table F x2 v217 v219 w215) (ga_kI fun v222 w221 => (if ga_is w221 6 x2 = true then ga_c (f_R_thrown F x2 w221) (ga_kI fun v224 w223 => (if v224 = v216 then (if v216 = 0 then ((ga_al w223 2 x3 (0 : Int32)).bind fun v227 => (if (lg_cmp v227 (Int32.toInt64 v222)) = 0 then (f_W_law_28 F xs L x1 x2 x3 x4 n (x5 + (3 : Int32)) w223) else none)) else (f_W_law_28 F xs L x1 x2 x3 x4 n (x5 + (3 : Int32)) w223)) else none)) (fun _ _ => none) else none)) (fun _ _ => none) else none)) else none)) else none)) (fun _ _ => none))) else none)) else none) else (if (v2 &&& (15 : Int32)) = 15 then (if ¬ ((x5 + (1 : Int32)) < 0 ∨ L ≤ ((x5 + (1 : Int32))).toNatClampNeg) then ga_ati (xs ((x5 + (1 : Int32))).toNatClampNeg) (fun v230 => (ga_c (f_W_count F x1 v230 x3 w) (ga_kI fun v233 w232 => (if ¬ ((x5 + (1 : Int32)) < 0 ∨ L ≤ ((x5 + (1 : Int32))).toNatClampNeg) then ga_ati (xs ((x5 + (1 : Int32))).toNatClampNeg) (fun v234 => (if ga_is w232 6 x2 = true then ga_c (f_R_count F x2 v234 w232) (ga_kI fun v237 w236 => (if ga_is w236 6 x2 = true then ga_c (f_R_thrown F x2 w236) (ga_kI fun v239 w238 => (if v239 = v233 then (if v233 = 0 then ((ga_al w238 2 x3 (0 : Int32)).bind fun v242 => (if (lg_cmp v242 (Int32.toInt64 v237)) = 0 then (f_W_law_28 F xs L x1 x2 x3 x4 n (x5 + (3 : Int32)) w238) else none)) else (f_W_law_28 F xs L x1 x2 x3 x4 n (x5 + (3 : Int32)) w238)) else none)) (fun _ _ => none) else none)) (fun _ _ => none) else none)) else none)) (fun _ _ => none))) else none) else (f_W_law_28 F xs L x1 x2 x3 x4 n (x5 + (3 : Int32)) w)))))))))))))))))) else none))
noncomputable def f_W_law (F : Nat) (xs : Nat → Int32) (L : Nat) (w : ga_W) : ga_O :=
  (if ga_okA w [(0, .float 0)] [] = true then ga_at (w.1 ++ [.inr (5, [.null, .null, .null, .null, .int 0, .int 0, .int 0, .int 0, .int 0])], w.2.1 + 1, w.2.2 + 9) (fun w1 => (if (([(0, .float 0)] : List (Nat × Value)).all (fun q => ga_ok w1.1.length q.2)) = true ∧ (([.ref w.1.length] : List Value).all (ga_ok w1.1.length)) = true then (ga_c (f_L_init F w.1.length w1) (ga_kV fun w2 => (if ga_okA w2 [(1, .ref w.1.length), (0, .float 0)] [] = true then ga_at (w2.1 ++ [.inr (6, [.int 0, .null, .null, .null, .null, .int 0, .null, .null, .null, .null, .int 0, .null, .null, .null, .null, .int 0, .null, .int 0, .int 0, .null, .null, .null, .int 0, .null, .null, .int 0, .int 0, .int 0, .int 0, .int 0, .int 0, .int 0, .null, .null, .null, .null, .int 0, .null, .int 0])], w2.2.1 + 1, w2.2.2 + 39) (fun w4 => (if (([(1, .ref w.1.length), (0, .float 0)] : List (Nat × Value)).all (fun q => ga_ok w4.1.length q.2)) = true ∧ (([.ref w2.1.length] : List Value).all (ga_ok w4.1.length)) = true then (ga_c (f_R_init F w2.1.length w4) (ga_kV fun w5 => (if ga_okA w5 [(2, .ref w2.1.length), (1, .ref w.1.length), (0, .float 0)] [] = true then ga_at (w5.1 ++ [.inl (2, 1, .inr (.inl (fun _ => 0)))], w5.2.1 + 1, w5.2.2 + 1) (fun w7 => (if ga_okA w7 [(3, .ref w5.1.length), (2, .ref w2.1.length), (1, .ref w.1.length), (0, .float 0)] [] = true then ga_at (w7.1 ++ [.inl (3, 1, .inr (.inr (.inr (.inl (fun _ => 0)))))], w7.2.1 + 1, w7.2.2 + 1) (fun w8 => (f_W_law_28 F xs L w.1.length w2.1.length w5.1.length w7.1.length F (0 : Int32) w8)) else none)) else none)) (fun _ _ => none)) else none)) else none)) (fun _ _ => none)) else none)) else none)
set_option maxHeartbeats 4000000 in
set_option maxRecDepth 100000 in
theorem h_W_law_28 (hst : l.stackTraces = false) (hX : va_X b L xs s s.heap) (hbl : b < s.heap.size) (F : Nat) (x1 : Nat) (x2 : Nat) (x3 : Nat) (x4 : Nat) : ∀ (n : Nat) (x5 : Int32) (w : ga_W), ga_J l s D gz_cl (gz_tA cT) s.heap.size b gz_xn p e room_1 s m #[Value.ref b] below meth c 9 lw_tbl R_law code ret [] "law" 12 462 false ad0 w0 (gz_LQ below b s) 28 [(0, .float 0), (1, .ref x1), (2, .ref x2), (3, .ref x3), (4, .ref x4), (5, .int x5)] [] w (f_W_law_28 F xs L x1 x2 x3 x4 n x5 w) := by
  intro n
  induction n with
  | zero => intro x5 w; exact ga_no
  | succ n ih =>
    intro x5 w
    rw [f_W_law_28]
    refine ga_iload (q := 5) d_W_law_28 rfl ?_
    refine ga_sload_n (q := 0) d_W_law_30 rfl rfl ?_
    refine ga_slen hX hbl d_W_law_31 ?_
    refine ga_iconst (v := (3 : Int32)) d_W_law_32 (by decide) ?_
    refine ga_isub d_W_law_33 ?_
    refine ga_icmp_gt (tgt := 989) d_W_law_34 (by decide) (fun h1 => ?_) (fun h1 => ?_)
    · refine ga_iconst (v := (1 : Int32)) d_W_law_989 (by decide) ?_
      exact gz_lret d_W_law_990
    · refine ga_sload_n (q := 0) d_W_law_37 rfl rfl ?_
      refine ga_iload (q := 5) d_W_law_38 rfl ?_
      refine ga_guard (fun h3 => ?_)
      refine ga_sld hX hbl h3 d_W_law_40 ?_
      refine ga_named (fun v2 => ?_)
      refine ga_bipush (v := (15 : Int32)) d_W_law_41 (by decide) ?_
      refine ga_iand d_W_law_43 ?_
      refine ga_ite (fun h4 => ?_) (fun h4 => ?_)
      · refine ga_tabIn (x := (v2 &&& (15 : Int32))) (off := 80) (tgt := 124) d_W_law_44 (by rw [h4]; decide) (by rw [h4]; decide) (by rw [h4]; rfl) (by decide) ?_
        refine ga_aload_n (q := 1) d_W_law_124 rfl rfl ?_
        refine ga_sload_n (q := 0) d_W_law_125 rfl rfl ?_
        refine ga_iload (q := 5) d_W_law_126 rfl ?_
        refine ga_iconst (v := (1 : Int32)) d_W_law_128 (by decide) ?_
        refine ga_iadd d_W_law_129 ?_
        refine ga_guard (fun h6 => ?_)
        refine ga_sld hX hbl h6 d_W_law_130 ?_
        refine ga_named (fun v5 => ?_)
        refine ga_sload_n (q := 0) d_W_law_131 rfl rfl ?_
        refine ga_iload (q := 5) d_W_law_132 rfl ?_
        refine ga_iconst (v := (2 : Int32)) d_W_law_134 (by decide) ?_
        refine ga_iadd d_W_law_135 ?_
        refine ga_guard (fun h8 => ?_)
        refine ga_sld hX hbl h8 d_W_law_136 ?_
        refine ga_named (fun v7 => ?_)
        refine ga_aload_n (q := 3) d_W_law_137 rfl rfl ?_
        refine ga_invSW (nA := 4) (av := [.ref x1, .int v5, .int v7, .ref x3]) (st := []) (m_W_put hst F x1 v5 v7 x3 w) (Or.inl rfl) (gz_gSL gw_399 gw_400 gw_50 gw_401) rfl (by decide +kernel) rfl (by decide) (by decide) (Nat.le_of_ble_eq_true rfl) d_W_law_138 (ga_vI (fun v10 w9 => ?_))
        refine ga_istore (lv2 := [(6, .int v10), (0, .float 0), (1, .ref x1), (2, .ref x2), (3, .ref x3), (4, .ref x4), (5, .int x5)]) d_W_law_141 (by decide) rfl ?_
        refine ga_aload_n (q := 3) d_W_law_143 rfl rfl ?_
        refine ga_sload_n (q := 1) d_W_law_144 rfl rfl ?_
        refine ga_iload (q := 6) d_W_law_145 rfl ?_
        refine ga_iconst (v := (1 : Int32)) d_W_law_147 (by decide) ?_
        refine ga_iadd d_W_law_148 ?_
        refine ga_guard (fun h12 => ?_)
        refine ga_sld hX hbl h12 d_W_law_149 ?_
        refine ga_named (fun v11 => ?_)
        refine ga_sload_n (q := 1) d_W_law_150 rfl rfl ?_
        refine ga_iload (q := 6) d_W_law_151 rfl ?_
        refine ga_iconst (v := (2 : Int32)) d_W_law_153 (by decide) ?_
        refine ga_iadd d_W_law_154 ?_
        refine ga_guard (fun h14 => ?_)
        refine ga_sld hX hbl h14 d_W_law_155 ?_
        refine ga_named (fun v13 => ?_)
        refine ga_invV (nA := 2) (ci := 6) (T := T_R) (N := 39) (av := [.int v11, .int v13]) (a := x2) (st := []) (m_R_put hst F x2 v11 v13 w9) (Or.inl rfl) (gz_gVL gw_884 gw_885 gw_886 gw_58 gw_887) rfl ⟨rfl, by decide +kernel⟩ rfl (by decide) (by decide) (Nat.le_of_ble_eq_true rfl) rfl d_W_law_156 (ga_vI (fun v16 w15 => ?_)) (fun _ _ _ _ h => nomatch h)
        refine ga_istore (lv2 := [(7, .int v16), (6, .int v10), (0, .float 0), (1, .ref x1), (2, .ref x2), (3, .ref x3), (4, .ref x4), (5, .int x5)]) d_W_law_159 (by decide) rfl ?_
        refine ga_aload_n (q := 4) d_W_law_161 rfl rfl ?_
        refine ga_invV (nA := 0) (ci := 6) (T := T_R) (N := 39) (av := []) (a := x2) (st := []) (m_R_thrown hst F x2 w15) (Or.inl rfl) (gz_gVL gw_880 gw_881 gw_882 gw_58 gw_883) rfl ⟨rfl, by decide +kernel⟩ rfl (by decide) (by decide) (Nat.le_of_ble_eq_true rfl) rfl d_W_law_162 (ga_vI (fun v18 w17 => ?_)) (fun _ _ _ _ h => nomatch h)
        refine ga_iload (q := 1) d_W_law_165 rfl ?_
        refine ga_icmp_eq (tgt := 172) d_W_law_167 (by decide) (fun h19 => ?_) (fun h19 => ?_)
        · refine ga_iload (q := 1) d_W_law_172 rfl ?_
          refine ga_if_ne (tgt := 189) d_W_law_174 (by decide) (fun h20 => ?_) (fun h20 => ?_)
          · refine ga_aload_n (q := 5) d_W_law_177 rfl rfl ?_
            refine ga_iconst (v := (0 : Int32)) d_W_law_178 (by decide) ?_
            refine ga_ldL (t := 2) rfl d_W_law_179 (fun v21 => ?_)
            refine ga_iload (q := 0) d_W_law_180 rfl ?_
            refine ga_i2l d_W_law_182 ?_
            refine ga_lcmp d_W_law_183 ?_
            refine ga_if_eq (tgt := 189) d_W_law_184 (by decide) (fun h22 => ?_) (fun h22 => ?_)
            · refine ga_goto (tgt := 983) d_W_law_189 (by decide) ?_
              refine ga_iinc (q := 7) (v := (x5 + (3 : Int32))) (lv2 := [(5, .int (x5 + (3 : Int32))), (7, .int v16), (6, .int v10), (0, .float 0), (1, .ref x1), (2, .ref x2), (3, .ref x3), (4, .ref x4)]) d_W_law_983 rfl rfl (by decide) rfl ?_
              refine ga_goto (tgt := 28) d_W_law_986 (by decide) ?_
              refine ga_sub (lv2 := [(0, .float 0), (1, .ref x1), (2, .ref x2), (3, .ref x3), (4, .ref x4), (5, .int (x5 + (3 : Int32)))]) [3, 4, 5, 6, 7, 0] rfl ?_
              exact ih _ _
            · refine ga_iconst (v := (0 : Int32)) d_W_law_187 (by decide) ?_
              exact ga_no
          · refine ga_goto (tgt := 983) d_W_law_189 (by decide) ?_
            refine ga_iinc (q := 7) (v := (x5 + (3 : Int32))) (lv2 := [(5, .int (x5 + (3 : Int32))), (7, .int v16), (6, .int v10), (0, .float 0), (1, .ref x1), (2, .ref x2), (3, .ref x3), (4, .ref x4)]) d_W_law_983 rfl rfl (by decide) rfl ?_
            refine ga_goto (tgt := 28) d_W_law_986 (by decide) ?_
            refine ga_sub (lv2 := [(0, .float 0), (1, .ref x1), (2, .ref x2), (3, .ref x3), (4, .ref x4), (5, .int (x5 + (3 : Int32)))]) [3, 4, 5, 6, 7, 0] rfl ?_
            exact ih _ _
        · refine ga_iconst (v := (0 : Int32)) d_W_law_170 (by decide) ?_
          exact ga_no
      · refine ga_ite (fun h23 => ?_) (fun h23 => ?_)
        · refine ga_tabIn (x := (v2 &&& (15 : Int32))) (off := 148) (tgt := 192) d_W_law_44 (by rw [h23]; decide) (by rw [h23]; decide) (by rw [h23]; rfl) (by decide) ?_
          refine ga_aload_n (q := 1) d_W_law_192 rfl rfl ?_
          refine ga_sload_n (q := 0) d_W_law_193 rfl rfl ?_
          refine ga_iload (q := 5) d_W_law_194 rfl ?_
          refine ga_iconst (v := (1 : Int32)) d_W_law_196 (by decide) ?_
          refine ga_iadd d_W_law_197 ?_
          refine ga_guard (fun h25 => ?_)
          refine ga_sld hX hbl h25 d_W_law_198 ?_
          refine ga_named (fun v24 => ?_)
          refine ga_aload_n (q := 3) d_W_law_199 rfl rfl ?_
          refine ga_invSW (nA := 3) (av := [.ref x1, .int v24, .ref x3]) (st := []) (m_W_remove hst F x1 v24 x3 w) (Or.inl rfl) (gz_gSL gw_541 gw_542 gw_50 gw_543) rfl (by decide +kernel) rfl (by decide) (by decide) (Nat.le_of_ble_eq_true rfl) d_W_law_200 (ga_vI (fun v27 w26 => ?_))
          refine ga_istore (lv2 := [(6, .int v27), (0, .float 0), (1, .ref x1), (2, .ref x2), (3, .ref x3), (4, .ref x4), (5, .int x5)]) d_W_law_203 (by decide) rfl ?_
          refine ga_aload_n (q := 3) d_W_law_205 rfl rfl ?_
          refine ga_sload_n (q := 1) d_W_law_206 rfl rfl ?_
          refine ga_iload (q := 6) d_W_law_207 rfl ?_
          refine ga_iconst (v := (1 : Int32)) d_W_law_209 (by decide) ?_
          refine ga_iadd d_W_law_210 ?_
          refine ga_guard (fun h29 => ?_)
          refine ga_sld hX hbl h29 d_W_law_211 ?_
          refine ga_named (fun v28 => ?_)
          refine ga_invV (nA := 1) (ci := 6) (T := T_R) (N := 39) (av := [.int v28]) (a := x2) (st := []) (m_R_remove hst F x2 v28 w26) (Or.inl rfl) (gz_gVL gw_983 gw_984 gw_985 gw_58 gw_986) rfl ⟨rfl, by decide +kernel⟩ rfl (by decide) (by decide) (Nat.le_of_ble_eq_true rfl) rfl d_W_law_212 (ga_vI (fun v31 w30 => ?_)) (fun _ _ _ _ h => nomatch h)
          refine ga_istore (lv2 := [(7, .int v31), (6, .int v27), (0, .float 0), (1, .ref x1), (2, .ref x2), (3, .ref x3), (4, .ref x4), (5, .int x5)]) d_W_law_215 (by decide) rfl ?_
          refine ga_aload_n (q := 4) d_W_law_217 rfl rfl ?_
          refine ga_invV (nA := 0) (ci := 6) (T := T_R) (N := 39) (av := []) (a := x2) (st := []) (m_R_thrown hst F x2 w30) (Or.inl rfl) (gz_gVL gw_880 gw_881 gw_882 gw_58 gw_883) rfl ⟨rfl, by decide +kernel⟩ rfl (by decide) (by decide) (Nat.le_of_ble_eq_true rfl) rfl d_W_law_218 (ga_vI (fun v33 w32 => ?_)) (fun _ _ _ _ h => nomatch h)
          refine ga_iload (q := 1) d_W_law_221 rfl ?_
          refine ga_icmp_eq (tgt := 228) d_W_law_223 (by decide) (fun h34 => ?_) (fun h34 => ?_)
          · refine ga_iload (q := 1) d_W_law_228 rfl ?_
            refine ga_if_ne (tgt := 245) d_W_law_230 (by decide) (fun h35 => ?_) (fun h35 => ?_)
            · refine ga_aload_n (q := 5) d_W_law_233 rfl rfl ?_
              refine ga_iconst (v := (0 : Int32)) d_W_law_234 (by decide) ?_
              refine ga_ldL (t := 2) rfl d_W_law_235 (fun v36 => ?_)
              refine ga_iload (q := 0) d_W_law_236 rfl ?_
              refine ga_i2l d_W_law_238 ?_
              refine ga_lcmp d_W_law_239 ?_
              refine ga_if_eq (tgt := 245) d_W_law_240 (by decide) (fun h37 => ?_) (fun h37 => ?_)
              · refine ga_goto (tgt := 983) d_W_law_245 (by decide) ?_
                refine ga_iinc (q := 7) (v := (x5 + (3 : Int32))) (lv2 := [(5, .int (x5 + (3 : Int32))), (7, .int v31), (6, .int v27), (0, .float 0), (1, .ref x1), (2, .ref x2), (3, .ref x3), (4, .ref x4)]) d_W_law_983 rfl rfl (by decide) rfl ?_
                refine ga_goto (tgt := 28) d_W_law_986 (by decide) ?_
                refine ga_sub (lv2 := [(0, .float 0), (1, .ref x1), (2, .ref x2), (3, .ref x3), (4, .ref x4), (5, .int (x5 + (3 : Int32)))]) [3, 4, 5, 6, 7, 0] rfl ?_
                exact ih _ _
              · refine ga_iconst (v := (0 : Int32)) d_W_law_243 (by decide) ?_
                exact ga_no
            · refine ga_goto (tgt := 983) d_W_law_245 (by decide) ?_
              refine ga_iinc (q := 7) (v := (x5 + (3 : Int32))) (lv2 := [(5, .int (x5 + (3 : Int32))), (7, .int v31), (6, .int v27), (0, .float 0), (1, .ref x1), (2, .ref x2), (3, .ref x3), (4, .ref x4)]) d_W_law_983 rfl rfl (by decide) rfl ?_
              refine ga_goto (tgt := 28) d_W_law_986 (by decide) ?_
              refine ga_sub (lv2 := [(0, .float 0), (1, .ref x1), (2, .ref x2), (3, .ref x3), (4, .ref x4), (5, .int (x5 + (3 : Int32)))]) [3, 4, 5, 6, 7, 0] rfl ?_
              exact ih _ _
          · refine ga_iconst (v := (0 : Int32)) d_W_law_226 (by decide) ?_
            exact ga_no
        · refine ga_ite (fun h38 => ?_) (fun h38 => ?_)
          · refine ga_tabIn (x := (v2 &&& (15 : Int32))) (off := 204) (tgt := 248) d_W_law_44 (by rw [h38]; decide) (by rw [h38]; decide) (by rw [h38]; rfl) (by decide) ?_
            refine ga_aload_n (q := 1) d_W_law_248 rfl rfl ?_
            refine ga_aload_n (q := 3) d_W_law_249 rfl rfl ?_
            refine ga_invSW (nA := 2) (av := [.ref x1, .ref x3]) (st := []) (m_W_open hst F x1 x3 w) (Or.inl rfl) (gz_gSL gw_548 gw_549 gw_50 gw_550) rfl (by decide +kernel) rfl (by decide) (by decide) (Nat.le_of_ble_eq_true rfl) d_W_law_250 (ga_vI (fun v40 w39 => ?_))
            refine ga_istore (lv2 := [(6, .int v40), (0, .float 0), (1, .ref x1), (2, .ref x2), (3, .ref x3), (4, .ref x4), (5, .int x5)]) d_W_law_253 (by decide) rfl ?_
            refine ga_aload_n (q := 3) d_W_law_255 rfl rfl ?_
            refine ga_invV (nA := 0) (ci := 6) (T := T_R) (N := 39) (av := []) (a := x2) (st := []) (m_R_open hst F x2 w39) (Or.inl rfl) (gz_gVL gw_987 gw_988 gw_989 gw_58 gw_990) rfl ⟨rfl, by decide +kernel⟩ rfl (by decide) (by decide) (Nat.le_of_ble_eq_true rfl) rfl d_W_law_256 (ga_vI (fun v42 w41 => ?_)) (fun _ _ _ _ h => nomatch h)
            refine ga_istore (lv2 := [(7, .int v42), (6, .int v40), (0, .float 0), (1, .ref x1), (2, .ref x2), (3, .ref x3), (4, .ref x4), (5, .int x5)]) d_W_law_259 (by decide) rfl ?_
            refine ga_aload_n (q := 4) d_W_law_261 rfl rfl ?_
            refine ga_invV (nA := 0) (ci := 6) (T := T_R) (N := 39) (av := []) (a := x2) (st := []) (m_R_thrown hst F x2 w41) (Or.inl rfl) (gz_gVL gw_880 gw_881 gw_882 gw_58 gw_883) rfl ⟨rfl, by decide +kernel⟩ rfl (by decide) (by decide) (Nat.le_of_ble_eq_true rfl) rfl d_W_law_262 (ga_vI (fun v44 w43 => ?_)) (fun _ _ _ _ h => nomatch h)
            refine ga_iload (q := 1) d_W_law_265 rfl ?_
            refine ga_icmp_eq (tgt := 272) d_W_law_267 (by decide) (fun h45 => ?_) (fun h45 => ?_)
            · refine ga_iload (q := 1) d_W_law_272 rfl ?_
              refine ga_if_ne (tgt := 289) d_W_law_274 (by decide) (fun h46 => ?_) (fun h46 => ?_)
              · refine ga_aload_n (q := 5) d_W_law_277 rfl rfl ?_
                refine ga_iconst (v := (0 : Int32)) d_W_law_278 (by decide) ?_
                refine ga_ldL (t := 2) rfl d_W_law_279 (fun v47 => ?_)
                refine ga_iload (q := 0) d_W_law_280 rfl ?_
                refine ga_i2l d_W_law_282 ?_
                refine ga_lcmp d_W_law_283 ?_
                refine ga_if_eq (tgt := 289) d_W_law_284 (by decide) (fun h48 => ?_) (fun h48 => ?_)
                · refine ga_goto (tgt := 983) d_W_law_289 (by decide) ?_
                  refine ga_iinc (q := 7) (v := (x5 + (3 : Int32))) (lv2 := [(5, .int (x5 + (3 : Int32))), (7, .int v42), (6, .int v40), (0, .float 0), (1, .ref x1), (2, .ref x2), (3, .ref x3), (4, .ref x4)]) d_W_law_983 rfl rfl (by decide) rfl ?_
                  refine ga_goto (tgt := 28) d_W_law_986 (by decide) ?_
                  refine ga_sub (lv2 := [(0, .float 0), (1, .ref x1), (2, .ref x2), (3, .ref x3), (4, .ref x4), (5, .int (x5 + (3 : Int32)))]) [3, 4, 5, 6, 7, 0] rfl ?_
                  exact ih _ _
                · refine ga_iconst (v := (0 : Int32)) d_W_law_287 (by decide) ?_
                  exact ga_no
              · refine ga_goto (tgt := 983) d_W_law_289 (by decide) ?_
                refine ga_iinc (q := 7) (v := (x5 + (3 : Int32))) (lv2 := [(5, .int (x5 + (3 : Int32))), (7, .int v42), (6, .int v40), (0, .float 0), (1, .ref x1), (2, .ref x2), (3, .ref x3), (4, .ref x4)]) d_W_law_983 rfl rfl (by decide) rfl ?_
                refine ga_goto (tgt := 28) d_W_law_986 (by decide) ?_
                refine ga_sub (lv2 := [(0, .float 0), (1, .ref x1), (2, .ref x2), (3, .ref x3), (4, .ref x4), (5, .int (x5 + (3 : Int32)))]) [3, 4, 5, 6, 7, 0] rfl ?_
                exact ih _ _
            · refine ga_iconst (v := (0 : Int32)) d_W_law_270 (by decide) ?_
              exact ga_no
          · refine ga_ite (fun h49 => ?_) (fun h49 => ?_)
            · refine ga_tabIn (x := (v2 &&& (15 : Int32))) (off := 248) (tgt := 292) d_W_law_44 (by rw [h49]; decide) (by rw [h49]; decide) (by rw [h49]; rfl) (by decide) ?_
              refine ga_aload_n (q := 1) d_W_law_292 rfl rfl ?_
              refine ga_sload_n (q := 0) d_W_law_293 rfl rfl ?_
              refine ga_iload (q := 5) d_W_law_294 rfl ?_
              refine ga_iconst (v := (1 : Int32)) d_W_law_296 (by decide) ?_
              refine ga_iadd d_W_law_297 ?_
              refine ga_guard (fun h51 => ?_)
              refine ga_sld hX hbl h51 d_W_law_298 ?_
              refine ga_named (fun v50 => ?_)
              refine ga_join (fun (K55 : Int32 → ga_W → ga_O) => ∀ (y53 : Int32) (w54 : ga_W), ga_J l s D gz_cl (gz_tA cT) s.heap.size b gz_xn p e room_1 s m #[Value.ref b] below meth c 9 lw_tbl R_law code ret [] "law" 12 462 false ad0 w0 (gz_LQ below b s) 307 [(0, .float 0), (1, .ref x1), (2, .ref x2), (3, .ref x3), (4, .ref x4), (5, .int x5)] [.int y53, .ref x1] w54 (K55 y53 w54)) (fun y53 w54 => ?_) (fun K55 hK55 => ?_)
              · refine ga_aload_n (q := 3) d_W_law_307 rfl rfl ?_
                refine ga_invSW (nA := 3) (av := [.ref x1, .int y53, .ref x3]) (st := []) (m_W_close hst F x1 y53 x3 w54) (Or.inl rfl) (gz_gSL gw_555 gw_556 gw_50 gw_557) rfl (by decide +kernel) rfl (by decide) (by decide) (Nat.le_of_ble_eq_true rfl) d_W_law_308 (ga_vI (fun v57 w56 => ?_))
                refine ga_istore (lv2 := [(6, .int v57), (0, .float 0), (1, .ref x1), (2, .ref x2), (3, .ref x3), (4, .ref x4), (5, .int x5)]) d_W_law_311 (by decide) rfl ?_
                refine ga_aload_n (q := 3) d_W_law_313 rfl rfl ?_
                refine ga_sload_n (q := 1) d_W_law_314 rfl rfl ?_
                refine ga_iload (q := 6) d_W_law_315 rfl ?_
                refine ga_iconst (v := (1 : Int32)) d_W_law_317 (by decide) ?_
                refine ga_iadd d_W_law_318 ?_
                refine ga_guard (fun h59 => ?_)
                refine ga_sld hX hbl h59 d_W_law_319 ?_
                refine ga_named (fun v58 => ?_)
                refine ga_join (fun (K63 : Int32 → ga_W → ga_O) => ∀ (y61 : Int32) (w62 : ga_W), ga_J l s D gz_cl (gz_tA cT) s.heap.size b gz_xn p e room_1 s m #[Value.ref b] below meth c 9 lw_tbl R_law code ret [] "law" 12 462 false ad0 w0 (gz_LQ below b s) 328 [(0, .float 0), (1, .ref x1), (2, .ref x2), (3, .ref x3), (4, .ref x4), (5, .int x5), (6, .int v57)] [.int y61, .ref x2] w62 (K63 y61 w62)) (fun y61 w62 => ?_) (fun K63 hK63 => ?_)
                · refine ga_invV (nA := 1) (ci := 6) (T := T_R) (N := 39) (av := [.int y61]) (a := x2) (st := []) (m_R_close hst F x2 y61 w62) (Or.inl rfl) (gz_gVL gw_991 gw_992 gw_993 gw_58 gw_994) rfl ⟨rfl, by decide +kernel⟩ rfl (by decide) (by decide) (Nat.le_of_ble_eq_true rfl) rfl d_W_law_328 (ga_vI (fun v65 w64 => ?_)) (fun _ _ _ _ h => nomatch h)
                  refine ga_istore (lv2 := [(7, .int v65), (0, .float 0), (1, .ref x1), (2, .ref x2), (3, .ref x3), (4, .ref x4), (5, .int x5), (6, .int v57)]) d_W_law_331 (by decide) rfl ?_
                  refine ga_aload_n (q := 3) d_W_law_333 rfl rfl ?_
                  refine ga_invV (nA := 0) (ci := 6) (T := T_R) (N := 39) (av := []) (a := x2) (st := []) (m_R_thrown hst F x2 w64) (Or.inl rfl) (gz_gVL gw_880 gw_881 gw_882 gw_58 gw_883) rfl ⟨rfl, by decide +kernel⟩ rfl (by decide) (by decide) (Nat.le_of_ble_eq_true rfl) rfl d_W_law_334 (ga_vI (fun v67 w66 => ?_)) (fun _ _ _ _ h => nomatch h)
                  refine ga_iload (q := 7) d_W_law_337 rfl ?_
                  refine ga_icmp_eq (tgt := 344) d_W_law_339 (by decide) (fun h68 => ?_) (fun h68 => ?_)
                  · refine ga_iload (q := 7) d_W_law_344 rfl ?_
                    refine ga_if_ne (tgt := 361) d_W_law_346 (by decide) (fun h69 => ?_) (fun h69 => ?_)
                    · refine ga_aload_n (q := 4) d_W_law_349 rfl rfl ?_
                      refine ga_iconst (v := (0 : Int32)) d_W_law_350 (by decide) ?_
                      refine ga_ldL (t := 2) rfl d_W_law_351 (fun v70 => ?_)
                      refine ga_iload (q := 0) d_W_law_352 rfl ?_
                      refine ga_i2l d_W_law_354 ?_
                      refine ga_lcmp d_W_law_355 ?_
                      refine ga_if_eq (tgt := 361) d_W_law_356 (by decide) (fun h71 => ?_) (fun h71 => ?_)
                      · refine ga_goto (tgt := 983) d_W_law_361 (by decide) ?_
                        refine ga_iinc (q := 6) (v := (x5 + (3 : Int32))) (lv2 := [(5, .int (x5 + (3 : Int32))), (7, .int v65), (0, .float 0), (1, .ref x1), (2, .ref x2), (3, .ref x3), (4, .ref x4), (6, .int v57)]) d_W_law_983 rfl rfl (by decide) rfl ?_
                        refine ga_goto (tgt := 28) d_W_law_986 (by decide) ?_
                        refine ga_sub (lv2 := [(0, .float 0), (1, .ref x1), (2, .ref x2), (3, .ref x3), (4, .ref x4), (5, .int (x5 + (3 : Int32)))]) [2, 3, 4, 5, 6, 0] rfl ?_
                        exact ih _ _
                      · refine ga_iconst (v := (0 : Int32)) d_W_law_359 (by decide) ?_
                        exact ga_no
                    · refine ga_goto (tgt := 983) d_W_law_361 (by decide) ?_
                      refine ga_iinc (q := 6) (v := (x5 + (3 : Int32))) (lv2 := [(5, .int (x5 + (3 : Int32))), (7, .int v65), (0, .float 0), (1, .ref x1), (2, .ref x2), (3, .ref x3), (4, .ref x4), (6, .int v57)]) d_W_law_983 rfl rfl (by decide) rfl ?_
                      refine ga_goto (tgt := 28) d_W_law_986 (by decide) ?_
                      refine ga_sub (lv2 := [(0, .float 0), (1, .ref x1), (2, .ref x2), (3, .ref x3), (4, .ref x4), (5, .int (x5 + (3 : Int32)))]) [2, 3, 4, 5, 6, 0] rfl ?_
                      exact ih _ _
                  · refine ga_iconst (v := (0 : Int32)) d_W_law_342 (by decide) ?_
                    exact ga_no
                · refine ga_if_eq (tgt := 327) d_W_law_320 (by decide) (fun h72 => ?_) (fun h72 => ?_)
                  · refine ga_iconst (v := (0 : Int32)) d_W_law_327 (by decide) ?_
                    refine ga_sub (lv2 := [(0, .float 0), (1, .ref x1), (2, .ref x2), (3, .ref x3), (4, .ref x4), (5, .int x5), (6, .int v57)]) [1, 2, 3, 4, 5, 6, 0] rfl ?_
                    exact hK63 _ _
                  · refine ga_iconst (v := (1 : Int32)) d_W_law_323 (by decide) ?_
                    refine ga_goto (tgt := 328) d_W_law_324 (by decide) ?_
                    refine ga_sub (lv2 := [(0, .float 0), (1, .ref x1), (2, .ref x2), (3, .ref x3), (4, .ref x4), (5, .int x5), (6, .int v57)]) [1, 2, 3, 4, 5, 6, 0] rfl ?_
                    exact hK63 _ _
              · refine ga_if_eq (tgt := 306) d_W_law_299 (by decide) (fun h73 => ?_) (fun h73 => ?_)
                · refine ga_iconst (v := (0 : Int32)) d_W_law_306 (by decide) ?_
                  exact hK55 _ _
                · refine ga_iconst (v := (1 : Int32)) d_W_law_302 (by decide) ?_
                  refine ga_goto (tgt := 307) d_W_law_303 (by decide) ?_
                  exact hK55 _ _
            · refine ga_ite (fun h74 => ?_) (fun h74 => ?_)
              · refine ga_tabIn (x := (v2 &&& (15 : Int32))) (off := 320) (tgt := 364) d_W_law_44 (by rw [h74]; decide) (by rw [h74]; decide) (by rw [h74]; rfl) (by decide) ?_
                refine ga_aload_n (q := 1) d_W_law_364 rfl rfl ?_
                refine ga_invV (nA := 0) (ci := 5) (T := T_L) (N := 9) (av := []) (a := x1) (st := []) (m_L_sync hst F x1 w) (Or.inl rfl) (gz_gVL gw_274 gw_275 gw_276 gw_51 gw_277) rfl ⟨rfl, by decide +kernel⟩ rfl (by decide) (by decide) (Nat.le_of_ble_eq_true rfl) rfl d_W_law_365 (ga_vI (fun v76 w75 => ?_)) (fun _ _ _ _ h => nomatch h)
                refine ga_aload_n (q := 2) d_W_law_368 rfl rfl ?_
                refine ga_invV (nA := 0) (ci := 6) (T := T_R) (N := 39) (av := []) (a := x2) (st := [.int v76]) (m_R_sync hst F x2 w75) (Or.inl rfl) (gz_gVL gw_995 gw_996 gw_997 gw_58 gw_998) rfl ⟨rfl, by decide +kernel⟩ rfl (by decide) (by decide) (Nat.le_of_ble_eq_true rfl) rfl d_W_law_369 (ga_vI (fun v78 w77 => ?_)) (fun _ _ _ _ h => nomatch h)
                refine ga_icmp_eq (tgt := 983) d_W_law_372 (by decide) (fun h79 => ?_) (fun h79 => ?_)
                · refine ga_iinc (q := 5) (v := (x5 + (3 : Int32))) (lv2 := [(5, .int (x5 + (3 : Int32))), (0, .float 0), (1, .ref x1), (2, .ref x2), (3, .ref x3), (4, .ref x4)]) d_W_law_983 rfl rfl (by decide) rfl ?_
                  refine ga_goto (tgt := 28) d_W_law_986 (by decide) ?_
                  refine ga_sub (lv2 := [(0, .float 0), (1, .ref x1), (2, .ref x2), (3, .ref x3), (4, .ref x4), (5, .int (x5 + (3 : Int32)))]) [1, 2, 3, 4, 5, 0] rfl ?_
                  exact ih _ _
                · refine ga_iconst (v := (0 : Int32)) d_W_law_375 (by decide) ?_
                  exact ga_no
              · refine ga_ite (fun h80 => ?_) (fun h80 => ?_)
                · refine ga_tabIn (x := (v2 &&& (15 : Int32))) (off := 333) (tgt := 377) d_W_law_44 (by rw [h80]; decide) (by rw [h80]; decide) (by rw [h80]; rfl) (by decide) ?_
                  refine ga_aload_n (q := 1) d_W_law_377 rfl rfl ?_
                  refine ga_sload_n (q := 0) d_W_law_378 rfl rfl ?_
                  refine ga_iload (q := 5) d_W_law_379 rfl ?_
                  refine ga_iconst (v := (1 : Int32)) d_W_law_381 (by decide) ?_
                  refine ga_iadd d_W_law_382 ?_
                  refine ga_guard (fun h82 => ?_)
                  refine ga_sld hX hbl h82 d_W_law_383 ?_
                  refine ga_named (fun v81 => ?_)
                  refine ga_aload_n (q := 3) d_W_law_384 rfl rfl ?_
                  refine ga_invSW (nA := 3) (av := [.ref x1, .int v81, .ref x3]) (st := []) (m_W_crash hst F x1 v81 x3 w) (Or.inl rfl) (gz_gSL gw_562 gw_563 gw_50 gw_564) rfl (by decide +kernel) rfl (by decide) (by decide) (Nat.le_of_ble_eq_true rfl) d_W_law_385 (ga_vI (fun v84 w83 => ?_))
                  refine ga_istore (lv2 := [(6, .int v84), (0, .float 0), (1, .ref x1), (2, .ref x2), (3, .ref x3), (4, .ref x4), (5, .int x5)]) d_W_law_388 (by decide) rfl ?_
                  refine ga_aload_n (q := 3) d_W_law_390 rfl rfl ?_
                  refine ga_sload_n (q := 1) d_W_law_391 rfl rfl ?_
                  refine ga_iload (q := 6) d_W_law_392 rfl ?_
                  refine ga_iconst (v := (1 : Int32)) d_W_law_394 (by decide) ?_
                  refine ga_iadd d_W_law_395 ?_
                  refine ga_guard (fun h86 => ?_)
                  refine ga_sld hX hbl h86 d_W_law_396 ?_
                  refine ga_named (fun v85 => ?_)
                  refine ga_invV (nA := 1) (ci := 6) (T := T_R) (N := 39) (av := [.int v85]) (a := x2) (st := []) (m_R_crash hst F x2 v85 w83) (Or.inl rfl) (gz_gVL gw_999 gw_1000 gw_1001 gw_58 gw_1002) rfl ⟨rfl, by decide +kernel⟩ rfl (by decide) (by decide) (Nat.le_of_ble_eq_true rfl) rfl d_W_law_397 (ga_vI (fun v88 w87 => ?_)) (fun _ _ _ _ h => nomatch h)
                  refine ga_istore (lv2 := [(7, .int v88), (6, .int v84), (0, .float 0), (1, .ref x1), (2, .ref x2), (3, .ref x3), (4, .ref x4), (5, .int x5)]) d_W_law_400 (by decide) rfl ?_
                  refine ga_aload_n (q := 4) d_W_law_402 rfl rfl ?_
                  refine ga_invV (nA := 0) (ci := 6) (T := T_R) (N := 39) (av := []) (a := x2) (st := []) (m_R_thrown hst F x2 w87) (Or.inl rfl) (gz_gVL gw_880 gw_881 gw_882 gw_58 gw_883) rfl ⟨rfl, by decide +kernel⟩ rfl (by decide) (by decide) (Nat.le_of_ble_eq_true rfl) rfl d_W_law_403 (ga_vI (fun v90 w89 => ?_)) (fun _ _ _ _ h => nomatch h)
                  refine ga_iload (q := 1) d_W_law_406 rfl ?_
                  refine ga_icmp_eq (tgt := 413) d_W_law_408 (by decide) (fun h91 => ?_) (fun h91 => ?_)
                  · refine ga_iload (q := 1) d_W_law_413 rfl ?_
                    refine ga_if_ne (tgt := 430) d_W_law_415 (by decide) (fun h92 => ?_) (fun h92 => ?_)
                    · refine ga_aload_n (q := 5) d_W_law_418 rfl rfl ?_
                      refine ga_iconst (v := (0 : Int32)) d_W_law_419 (by decide) ?_
                      refine ga_ldL (t := 2) rfl d_W_law_420 (fun v93 => ?_)
                      refine ga_iload (q := 0) d_W_law_421 rfl ?_
                      refine ga_i2l d_W_law_423 ?_
                      refine ga_lcmp d_W_law_424 ?_
                      refine ga_if_eq (tgt := 430) d_W_law_425 (by decide) (fun h94 => ?_) (fun h94 => ?_)
                      · refine ga_goto (tgt := 983) d_W_law_430 (by decide) ?_
                        refine ga_iinc (q := 7) (v := (x5 + (3 : Int32))) (lv2 := [(5, .int (x5 + (3 : Int32))), (7, .int v88), (6, .int v84), (0, .float 0), (1, .ref x1), (2, .ref x2), (3, .ref x3), (4, .ref x4)]) d_W_law_983 rfl rfl (by decide) rfl ?_
                        refine ga_goto (tgt := 28) d_W_law_986 (by decide) ?_
                        refine ga_sub (lv2 := [(0, .float 0), (1, .ref x1), (2, .ref x2), (3, .ref x3), (4, .ref x4), (5, .int (x5 + (3 : Int32)))]) [3, 4, 5, 6, 7, 0] rfl ?_
                        exact ih _ _
                      · refine ga_iconst (v := (0 : Int32)) d_W_law_428 (by decide) ?_
                        exact ga_no
                    · refine ga_goto (tgt := 983) d_W_law_430 (by decide) ?_
                      refine ga_iinc (q := 7) (v := (x5 + (3 : Int32))) (lv2 := [(5, .int (x5 + (3 : Int32))), (7, .int v88), (6, .int v84), (0, .float 0), (1, .ref x1), (2, .ref x2), (3, .ref x3), (4, .ref x4)]) d_W_law_983 rfl rfl (by decide) rfl ?_
                      refine ga_goto (tgt := 28) d_W_law_986 (by decide) ?_
                      refine ga_sub (lv2 := [(0, .float 0), (1, .ref x1), (2, .ref x2), (3, .ref x3), (4, .ref x4), (5, .int (x5 + (3 : Int32)))]) [3, 4, 5, 6, 7, 0] rfl ?_
                      exact ih _ _
                  · refine ga_iconst (v := (0 : Int32)) d_W_law_411 (by decide) ?_
                    exact ga_no
                · refine ga_ite (fun h95 => ?_) (fun h95 => ?_)
                  · refine ga_tabIn (x := (v2 &&& (15 : Int32))) (off := 389) (tgt := 433) d_W_law_44 (by rw [h95]; decide) (by rw [h95]; decide) (by rw [h95]; rfl) (by decide) ?_
                    refine ga_aload_n (q := 1) d_W_law_433 rfl rfl ?_
                    refine ga_aload_n (q := 3) d_W_law_434 rfl rfl ?_
                    refine ga_invSW (nA := 2) (av := [.ref x1, .ref x3]) (st := []) (m_W_flush hst F x1 x3 w) (Or.inl rfl) (gz_gSL gw_580 gw_581 gw_50 gw_582) rfl (by decide +kernel) rfl (by decide) (by decide) (Nat.le_of_ble_eq_true rfl) d_W_law_435 (ga_vI (fun v97 w96 => ?_))
                    refine ga_istore (lv2 := [(6, .int v97), (0, .float 0), (1, .ref x1), (2, .ref x2), (3, .ref x3), (4, .ref x4), (5, .int x5)]) d_W_law_438 (by decide) rfl ?_
                    refine ga_aload_n (q := 3) d_W_law_440 rfl rfl ?_
                    refine ga_invV (nA := 0) (ci := 6) (T := T_R) (N := 39) (av := []) (a := x2) (st := []) (m_R_flush hst F x2 w96) (Or.inl rfl) (gz_gVL gw_1003 gw_1004 gw_1005 gw_58 gw_1006) rfl ⟨rfl, by decide +kernel⟩ rfl (by decide) (by decide) (Nat.le_of_ble_eq_true rfl) rfl d_W_law_441 (ga_vI (fun v99 w98 => ?_)) (fun _ _ _ _ h => nomatch h)
                    refine ga_istore (lv2 := [(7, .int v99), (6, .int v97), (0, .float 0), (1, .ref x1), (2, .ref x2), (3, .ref x3), (4, .ref x4), (5, .int x5)]) d_W_law_444 (by decide) rfl ?_
                    refine ga_aload_n (q := 4) d_W_law_446 rfl rfl ?_
                    refine ga_invV (nA := 0) (ci := 6) (T := T_R) (N := 39) (av := []) (a := x2) (st := []) (m_R_thrown hst F x2 w98) (Or.inl rfl) (gz_gVL gw_880 gw_881 gw_882 gw_58 gw_883) rfl ⟨rfl, by decide +kernel⟩ rfl (by decide) (by decide) (Nat.le_of_ble_eq_true rfl) rfl d_W_law_447 (ga_vI (fun v101 w100 => ?_)) (fun _ _ _ _ h => nomatch h)
                    refine ga_iload (q := 1) d_W_law_450 rfl ?_
                    refine ga_icmp_eq (tgt := 457) d_W_law_452 (by decide) (fun h102 => ?_) (fun h102 => ?_)
                    · refine ga_iload (q := 1) d_W_law_457 rfl ?_
                      refine ga_if_ne (tgt := 474) d_W_law_459 (by decide) (fun h103 => ?_) (fun h103 => ?_)
                      · refine ga_aload_n (q := 5) d_W_law_462 rfl rfl ?_
                        refine ga_iconst (v := (0 : Int32)) d_W_law_463 (by decide) ?_
                        refine ga_ldL (t := 2) rfl d_W_law_464 (fun v104 => ?_)
                        refine ga_iload (q := 0) d_W_law_465 rfl ?_
                        refine ga_i2l d_W_law_467 ?_
                        refine ga_lcmp d_W_law_468 ?_
                        refine ga_if_eq (tgt := 474) d_W_law_469 (by decide) (fun h105 => ?_) (fun h105 => ?_)
                        · refine ga_goto (tgt := 983) d_W_law_474 (by decide) ?_
                          refine ga_iinc (q := 7) (v := (x5 + (3 : Int32))) (lv2 := [(5, .int (x5 + (3 : Int32))), (7, .int v99), (6, .int v97), (0, .float 0), (1, .ref x1), (2, .ref x2), (3, .ref x3), (4, .ref x4)]) d_W_law_983 rfl rfl (by decide) rfl ?_
                          refine ga_goto (tgt := 28) d_W_law_986 (by decide) ?_
                          refine ga_sub (lv2 := [(0, .float 0), (1, .ref x1), (2, .ref x2), (3, .ref x3), (4, .ref x4), (5, .int (x5 + (3 : Int32)))]) [3, 4, 5, 6, 7, 0] rfl ?_
                          exact ih _ _
                        · refine ga_iconst (v := (0 : Int32)) d_W_law_472 (by decide) ?_
                          exact ga_no
                      · refine ga_goto (tgt := 983) d_W_law_474 (by decide) ?_
                        refine ga_iinc (q := 7) (v := (x5 + (3 : Int32))) (lv2 := [(5, .int (x5 + (3 : Int32))), (7, .int v99), (6, .int v97), (0, .float 0), (1, .ref x1), (2, .ref x2), (3, .ref x3), (4, .ref x4)]) d_W_law_983 rfl rfl (by decide) rfl ?_
                        refine ga_goto (tgt := 28) d_W_law_986 (by decide) ?_
                        refine ga_sub (lv2 := [(0, .float 0), (1, .ref x1), (2, .ref x2), (3, .ref x3), (4, .ref x4), (5, .int (x5 + (3 : Int32)))]) [3, 4, 5, 6, 7, 0] rfl ?_
                        exact ih _ _
                    · refine ga_iconst (v := (0 : Int32)) d_W_law_455 (by decide) ?_
                      exact ga_no
                  · refine ga_ite (fun h106 => ?_) (fun h106 => ?_)
                    · refine ga_tabIn (x := (v2 &&& (15 : Int32))) (off := 433) (tgt := 477) d_W_law_44 (by rw [h106]; decide) (by rw [h106]; decide) (by rw [h106]; rfl) (by decide) ?_
                      refine ga_aload_n (q := 1) d_W_law_477 rfl rfl ?_
                      refine ga_sload_n (q := 0) d_W_law_478 rfl rfl ?_
                      refine ga_iload (q := 5) d_W_law_479 rfl ?_
                      refine ga_iconst (v := (1 : Int32)) d_W_law_481 (by decide) ?_
                      refine ga_iadd d_W_law_482 ?_
                      refine ga_guard (fun h108 => ?_)
                      refine ga_sld hX hbl h108 d_W_law_483 ?_
                      refine ga_named (fun v107 => ?_)
                      refine ga_sload_n (q := 0) d_W_law_484 rfl rfl ?_
                      refine ga_iload (q := 5) d_W_law_485 rfl ?_
                      refine ga_iconst (v := (2 : Int32)) d_W_law_487 (by decide) ?_
                      refine ga_iadd d_W_law_488 ?_
                      refine ga_guard (fun h110 => ?_)
                      refine ga_sld hX hbl h110 d_W_law_489 ?_
                      refine ga_named (fun v109 => ?_)
                      refine ga_aload_n (q := 3) d_W_law_490 rfl rfl ?_
                      refine ga_invSW (nA := 4) (av := [.ref x1, .int v107, .int v109, .ref x3]) (st := []) (m_W_get hst F x1 v107 v109 x3 w) (Or.inl rfl) (gz_gSL gw_587 gw_588 gw_50 gw_589) rfl (by decide +kernel) rfl (by decide) (by decide) (Nat.le_of_ble_eq_true rfl) d_W_law_491 (ga_vI (fun v112 w111 => ?_))
                      refine ga_istore (lv2 := [(6, .int v112), (0, .float 0), (1, .ref x1), (2, .ref x2), (3, .ref x3), (4, .ref x4), (5, .int x5)]) d_W_law_494 (by decide) rfl ?_
                      refine ga_aload_n (q := 3) d_W_law_496 rfl rfl ?_
                      refine ga_sload_n (q := 1) d_W_law_497 rfl rfl ?_
                      refine ga_iload (q := 6) d_W_law_498 rfl ?_
                      refine ga_iconst (v := (1 : Int32)) d_W_law_500 (by decide) ?_
                      refine ga_iadd d_W_law_501 ?_
                      refine ga_guard (fun h114 => ?_)
                      refine ga_sld hX hbl h114 d_W_law_502 ?_
                      refine ga_named (fun v113 => ?_)
                      refine ga_sload_n (q := 1) d_W_law_503 rfl rfl ?_
                      refine ga_iload (q := 6) d_W_law_504 rfl ?_
                      refine ga_iconst (v := (2 : Int32)) d_W_law_506 (by decide) ?_
                      refine ga_iadd d_W_law_507 ?_
                      refine ga_guard (fun h116 => ?_)
                      refine ga_sld hX hbl h116 d_W_law_508 ?_
                      refine ga_named (fun v115 => ?_)
                      refine ga_invV (nA := 2) (ci := 6) (T := T_R) (N := 39) (av := [.int v113, .int v115]) (a := x2) (st := []) (m_R_get hst F x2 v113 v115 w111) (Or.inl rfl) (gz_gVL gw_1007 gw_1008 gw_1009 gw_58 gw_1010) rfl ⟨rfl, by decide +kernel⟩ rfl (by decide) (by decide) (Nat.le_of_ble_eq_true rfl) rfl d_W_law_509 (ga_vI (fun v118 w117 => ?_)) (fun _ _ _ _ h => nomatch h)
                      refine ga_istore (lv2 := [(7, .int v118), (6, .int v112), (0, .float 0), (1, .ref x1), (2, .ref x2), (3, .ref x3), (4, .ref x4), (5, .int x5)]) d_W_law_512 (by decide) rfl ?_
                      refine ga_aload_n (q := 4) d_W_law_514 rfl rfl ?_
                      refine ga_invV (nA := 0) (ci := 6) (T := T_R) (N := 39) (av := []) (a := x2) (st := []) (m_R_thrown hst F x2 w117) (Or.inl rfl) (gz_gVL gw_880 gw_881 gw_882 gw_58 gw_883) rfl ⟨rfl, by decide +kernel⟩ rfl (by decide) (by decide) (Nat.le_of_ble_eq_true rfl) rfl d_W_law_515 (ga_vI (fun v120 w119 => ?_)) (fun _ _ _ _ h => nomatch h)
                      refine ga_iload (q := 1) d_W_law_518 rfl ?_
                      refine ga_icmp_eq (tgt := 525) d_W_law_520 (by decide) (fun h121 => ?_) (fun h121 => ?_)
                      · refine ga_iload (q := 1) d_W_law_525 rfl ?_
                        refine ga_if_ne (tgt := 542) d_W_law_527 (by decide) (fun h122 => ?_) (fun h122 => ?_)
                        · refine ga_aload_n (q := 5) d_W_law_530 rfl rfl ?_
                          refine ga_iconst (v := (0 : Int32)) d_W_law_531 (by decide) ?_
                          refine ga_ldL (t := 2) rfl d_W_law_532 (fun v123 => ?_)
                          refine ga_iload (q := 0) d_W_law_533 rfl ?_
                          refine ga_i2l d_W_law_535 ?_
                          refine ga_lcmp d_W_law_536 ?_
                          refine ga_if_eq (tgt := 542) d_W_law_537 (by decide) (fun h124 => ?_) (fun h124 => ?_)
                          · refine ga_goto (tgt := 983) d_W_law_542 (by decide) ?_
                            refine ga_iinc (q := 7) (v := (x5 + (3 : Int32))) (lv2 := [(5, .int (x5 + (3 : Int32))), (7, .int v118), (6, .int v112), (0, .float 0), (1, .ref x1), (2, .ref x2), (3, .ref x3), (4, .ref x4)]) d_W_law_983 rfl rfl (by decide) rfl ?_
                            refine ga_goto (tgt := 28) d_W_law_986 (by decide) ?_
                            refine ga_sub (lv2 := [(0, .float 0), (1, .ref x1), (2, .ref x2), (3, .ref x3), (4, .ref x4), (5, .int (x5 + (3 : Int32)))]) [3, 4, 5, 6, 7, 0] rfl ?_
                            exact ih _ _
                          · refine ga_iconst (v := (0 : Int32)) d_W_law_540 (by decide) ?_
                            exact ga_no
                        · refine ga_goto (tgt := 983) d_W_law_542 (by decide) ?_
                          refine ga_iinc (q := 7) (v := (x5 + (3 : Int32))) (lv2 := [(5, .int (x5 + (3 : Int32))), (7, .int v118), (6, .int v112), (0, .float 0), (1, .ref x1), (2, .ref x2), (3, .ref x3), (4, .ref x4)]) d_W_law_983 rfl rfl (by decide) rfl ?_
                          refine ga_goto (tgt := 28) d_W_law_986 (by decide) ?_
                          refine ga_sub (lv2 := [(0, .float 0), (1, .ref x1), (2, .ref x2), (3, .ref x3), (4, .ref x4), (5, .int (x5 + (3 : Int32)))]) [3, 4, 5, 6, 7, 0] rfl ?_
                          exact ih _ _
                      · refine ga_iconst (v := (0 : Int32)) d_W_law_523 (by decide) ?_
                        exact ga_no
                    · refine ga_ite (fun h125 => ?_) (fun h125 => ?_)
                      · refine ga_tabIn (x := (v2 &&& (15 : Int32))) (off := 501) (tgt := 545) d_W_law_44 (by rw [h125]; decide) (by rw [h125]; decide) (by rw [h125]; rfl) (by decide) ?_
                        refine ga_aload_n (q := 1) d_W_law_545 rfl rfl ?_
                        refine ga_sload_n (q := 0) d_W_law_546 rfl rfl ?_
                        refine ga_iload (q := 5) d_W_law_547 rfl ?_
                        refine ga_iconst (v := (1 : Int32)) d_W_law_549 (by decide) ?_
                        refine ga_iadd d_W_law_550 ?_
                        refine ga_guard (fun h127 => ?_)
                        refine ga_sld hX hbl h127 d_W_law_551 ?_
                        refine ga_named (fun v126 => ?_)
                        refine ga_sload_n (q := 0) d_W_law_552 rfl rfl ?_
                        refine ga_iload (q := 5) d_W_law_553 rfl ?_
                        refine ga_iconst (v := (2 : Int32)) d_W_law_555 (by decide) ?_
                        refine ga_iadd d_W_law_556 ?_
                        refine ga_guard (fun h129 => ?_)
                        refine ga_sld hX hbl h129 d_W_law_557 ?_
                        refine ga_named (fun v128 => ?_)
                        refine ga_aload_n (q := 3) d_W_law_558 rfl rfl ?_
                        refine ga_invSW (nA := 4) (av := [.ref x1, .int v126, .int v128, .ref x3]) (st := []) (m_W_next hst F x1 v126 v128 x3 w) (Or.inl rfl) (gz_gSL gw_648 gw_649 gw_50 gw_650) rfl (by decide +kernel) rfl (by decide) (by decide) (Nat.le_of_ble_eq_true rfl) d_W_law_559 (ga_vI (fun v131 w130 => ?_))
                        refine ga_istore (lv2 := [(6, .int v131), (0, .float 0), (1, .ref x1), (2, .ref x2), (3, .ref x3), (4, .ref x4), (5, .int x5)]) d_W_law_562 (by decide) rfl ?_
                        refine ga_aload_n (q := 3) d_W_law_564 rfl rfl ?_
                        refine ga_sload_n (q := 1) d_W_law_565 rfl rfl ?_
                        refine ga_iload (q := 6) d_W_law_566 rfl ?_
                        refine ga_iconst (v := (1 : Int32)) d_W_law_568 (by decide) ?_
                        refine ga_iadd d_W_law_569 ?_
                        refine ga_guard (fun h133 => ?_)
                        refine ga_sld hX hbl h133 d_W_law_570 ?_
                        refine ga_named (fun v132 => ?_)
                        refine ga_sload_n (q := 1) d_W_law_571 rfl rfl ?_
                        refine ga_iload (q := 6) d_W_law_572 rfl ?_
                        refine ga_iconst (v := (2 : Int32)) d_W_law_574 (by decide) ?_
                        refine ga_iadd d_W_law_575 ?_
                        refine ga_guard (fun h135 => ?_)
                        refine ga_sld hX hbl h135 d_W_law_576 ?_
                        refine ga_named (fun v134 => ?_)
                        refine ga_invV (nA := 2) (ci := 6) (T := T_R) (N := 39) (av := [.int v132, .int v134]) (a := x2) (st := []) (m_R_next hst F x2 v132 v134 w130) (Or.inl rfl) (gz_gVL gw_1041 gw_1042 gw_1043 gw_58 gw_1044) rfl ⟨rfl, by decide +kernel⟩ rfl (by decide) (by decide) (Nat.le_of_ble_eq_true rfl) rfl d_W_law_577 (ga_vI (fun v137 w136 => ?_)) (fun _ _ _ _ h => nomatch h)
                        refine ga_istore (lv2 := [(7, .int v137), (6, .int v131), (0, .float 0), (1, .ref x1), (2, .ref x2), (3, .ref x3), (4, .ref x4), (5, .int x5)]) d_W_law_580 (by decide) rfl ?_
                        refine ga_aload_n (q := 4) d_W_law_582 rfl rfl ?_
                        refine ga_invV (nA := 0) (ci := 6) (T := T_R) (N := 39) (av := []) (a := x2) (st := []) (m_R_thrown hst F x2 w136) (Or.inl rfl) (gz_gVL gw_880 gw_881 gw_882 gw_58 gw_883) rfl ⟨rfl, by decide +kernel⟩ rfl (by decide) (by decide) (Nat.le_of_ble_eq_true rfl) rfl d_W_law_583 (ga_vI (fun v139 w138 => ?_)) (fun _ _ _ _ h => nomatch h)
                        refine ga_iload (q := 1) d_W_law_586 rfl ?_
                        refine ga_icmp_eq (tgt := 593) d_W_law_588 (by decide) (fun h140 => ?_) (fun h140 => ?_)
                        · refine ga_iload (q := 1) d_W_law_593 rfl ?_
                          refine ga_if_ne (tgt := 610) d_W_law_595 (by decide) (fun h141 => ?_) (fun h141 => ?_)
                          · refine ga_aload_n (q := 5) d_W_law_598 rfl rfl ?_
                            refine ga_iconst (v := (0 : Int32)) d_W_law_599 (by decide) ?_
                            refine ga_ldL (t := 2) rfl d_W_law_600 (fun v142 => ?_)
                            refine ga_iload (q := 0) d_W_law_601 rfl ?_
                            refine ga_i2l d_W_law_603 ?_
                            refine ga_lcmp d_W_law_604 ?_
                            refine ga_if_eq (tgt := 610) d_W_law_605 (by decide) (fun h143 => ?_) (fun h143 => ?_)
                            · refine ga_goto (tgt := 983) d_W_law_610 (by decide) ?_
                              refine ga_iinc (q := 7) (v := (x5 + (3 : Int32))) (lv2 := [(5, .int (x5 + (3 : Int32))), (7, .int v137), (6, .int v131), (0, .float 0), (1, .ref x1), (2, .ref x2), (3, .ref x3), (4, .ref x4)]) d_W_law_983 rfl rfl (by decide) rfl ?_
                              refine ga_goto (tgt := 28) d_W_law_986 (by decide) ?_
                              refine ga_sub (lv2 := [(0, .float 0), (1, .ref x1), (2, .ref x2), (3, .ref x3), (4, .ref x4), (5, .int (x5 + (3 : Int32)))]) [3, 4, 5, 6, 7, 0] rfl ?_
                              exact ih _ _
                            · refine ga_iconst (v := (0 : Int32)) d_W_law_608 (by decide) ?_
                              exact ga_no
                          · refine ga_goto (tgt := 983) d_W_law_610 (by decide) ?_
                            refine ga_iinc (q := 7) (v := (x5 + (3 : Int32))) (lv2 := [(5, .int (x5 + (3 : Int32))), (7, .int v137), (6, .int v131), (0, .float 0), (1, .ref x1), (2, .ref x2), (3, .ref x3), (4, .ref x4)]) d_W_law_983 rfl rfl (by decide) rfl ?_
                            refine ga_goto (tgt := 28) d_W_law_986 (by decide) ?_
                            refine ga_sub (lv2 := [(0, .float 0), (1, .ref x1), (2, .ref x2), (3, .ref x3), (4, .ref x4), (5, .int (x5 + (3 : Int32)))]) [3, 4, 5, 6, 7, 0] rfl ?_
                            exact ih _ _
                        · refine ga_iconst (v := (0 : Int32)) d_W_law_591 (by decide) ?_
                          exact ga_no
                      · refine ga_ite (fun h144 => ?_) (fun h144 => ?_)
                        · refine ga_tabIn (x := (v2 &&& (15 : Int32))) (off := 569) (tgt := 613) d_W_law_44 (by rw [h144]; decide) (by rw [h144]; decide) (by rw [h144]; rfl) (by decide) ?_
                          refine ga_aload_n (q := 1) d_W_law_613 rfl rfl ?_
                          refine ga_aload_n (q := 3) d_W_law_614 rfl rfl ?_
                          refine ga_invSW (nA := 2) (av := [.ref x1, .ref x3]) (st := []) (m_W_snapshot hst F x1 x3 w) (Or.inl rfl) (gz_gSL gw_659 gw_660 gw_50 gw_661) rfl (by decide +kernel) rfl (by decide) (by decide) (Nat.le_of_ble_eq_true rfl) d_W_law_615 (ga_vI (fun v146 w145 => ?_))
                          refine ga_istore (lv2 := [(6, .int v146), (0, .float 0), (1, .ref x1), (2, .ref x2), (3, .ref x3), (4, .ref x4), (5, .int x5)]) d_W_law_618 (by decide) rfl ?_
                          refine ga_aload_n (q := 3) d_W_law_620 rfl rfl ?_
                          refine ga_invV (nA := 0) (ci := 6) (T := T_R) (N := 39) (av := []) (a := x2) (st := []) (m_R_snapshot hst F x2 w145) (Or.inl rfl) (gz_gVL gw_1049 gw_1050 gw_1051 gw_58 gw_1052) rfl ⟨rfl, by decide +kernel⟩ rfl (by decide) (by decide) (Nat.le_of_ble_eq_true rfl) rfl d_W_law_621 (ga_vI (fun v148 w147 => ?_)) (fun _ _ _ _ h => nomatch h)
                          refine ga_istore (lv2 := [(7, .int v148), (6, .int v146), (0, .float 0), (1, .ref x1), (2, .ref x2), (3, .ref x3), (4, .ref x4), (5, .int x5)]) d_W_law_624 (by decide) rfl ?_
                          refine ga_aload_n (q := 4) d_W_law_626 rfl rfl ?_
                          refine ga_invV (nA := 0) (ci := 6) (T := T_R) (N := 39) (av := []) (a := x2) (st := []) (m_R_thrown hst F x2 w147) (Or.inl rfl) (gz_gVL gw_880 gw_881 gw_882 gw_58 gw_883) rfl ⟨rfl, by decide +kernel⟩ rfl (by decide) (by decide) (Nat.le_of_ble_eq_true rfl) rfl d_W_law_627 (ga_vI (fun v150 w149 => ?_)) (fun _ _ _ _ h => nomatch h)
                          refine ga_iload (q := 1) d_W_law_630 rfl ?_
                          refine ga_icmp_eq (tgt := 637) d_W_law_632 (by decide) (fun h151 => ?_) (fun h151 => ?_)
                          · refine ga_iload (q := 1) d_W_law_637 rfl ?_
                            refine ga_if_ne (tgt := 654) d_W_law_639 (by decide) (fun h152 => ?_) (fun h152 => ?_)
                            · refine ga_aload_n (q := 5) d_W_law_642 rfl rfl ?_
                              refine ga_iconst (v := (0 : Int32)) d_W_law_643 (by decide) ?_
                              refine ga_ldL (t := 2) rfl d_W_law_644 (fun v153 => ?_)
                              refine ga_iload (q := 0) d_W_law_645 rfl ?_
                              refine ga_i2l d_W_law_647 ?_
                              refine ga_lcmp d_W_law_648 ?_
                              refine ga_if_eq (tgt := 654) d_W_law_649 (by decide) (fun h154 => ?_) (fun h154 => ?_)
                              · refine ga_goto (tgt := 983) d_W_law_654 (by decide) ?_
                                refine ga_iinc (q := 7) (v := (x5 + (3 : Int32))) (lv2 := [(5, .int (x5 + (3 : Int32))), (7, .int v148), (6, .int v146), (0, .float 0), (1, .ref x1), (2, .ref x2), (3, .ref x3), (4, .ref x4)]) d_W_law_983 rfl rfl (by decide) rfl ?_
                                refine ga_goto (tgt := 28) d_W_law_986 (by decide) ?_
                                refine ga_sub (lv2 := [(0, .float 0), (1, .ref x1), (2, .ref x2), (3, .ref x3), (4, .ref x4), (5, .int (x5 + (3 : Int32)))]) [3, 4, 5, 6, 7, 0] rfl ?_
                                exact ih _ _
                              · refine ga_iconst (v := (0 : Int32)) d_W_law_652 (by decide) ?_
                                exact ga_no
                            · refine ga_goto (tgt := 983) d_W_law_654 (by decide) ?_
                              refine ga_iinc (q := 7) (v := (x5 + (3 : Int32))) (lv2 := [(5, .int (x5 + (3 : Int32))), (7, .int v148), (6, .int v146), (0, .float 0), (1, .ref x1), (2, .ref x2), (3, .ref x3), (4, .ref x4)]) d_W_law_983 rfl rfl (by decide) rfl ?_
                              refine ga_goto (tgt := 28) d_W_law_986 (by decide) ?_
                              refine ga_sub (lv2 := [(0, .float 0), (1, .ref x1), (2, .ref x2), (3, .ref x3), (4, .ref x4), (5, .int (x5 + (3 : Int32)))]) [3, 4, 5, 6, 7, 0] rfl ?_
                              exact ih _ _
                          · refine ga_iconst (v := (0 : Int32)) d_W_law_635 (by decide) ?_
                            exact ga_no
                        · refine ga_ite (fun h155 => ?_) (fun h155 => ?_)
                          · refine ga_tabIn (x := (v2 &&& (15 : Int32))) (off := 613) (tgt := 657) d_W_law_44 (by rw [h155]; decide) (by rw [h155]; decide) (by rw [h155]; rfl) (by decide) ?_
                            refine ga_aload_n (q := 1) d_W_law_657 rfl rfl ?_
                            refine ga_sload_n (q := 0) d_W_law_658 rfl rfl ?_
                            refine ga_iload (q := 5) d_W_law_659 rfl ?_
                            refine ga_iconst (v := (1 : Int32)) d_W_law_661 (by decide) ?_
                            refine ga_iadd d_W_law_662 ?_
                            refine ga_guard (fun h157 => ?_)
                            refine ga_sld hX hbl h157 d_W_law_663 ?_
                            refine ga_named (fun v156 => ?_)
                            refine ga_aload_n (q := 3) d_W_law_664 rfl rfl ?_
                            refine ga_invSW (nA := 3) (av := [.ref x1, .int v156, .ref x3]) (st := []) (m_W_release hst F x1 v156 x3 w) (Or.inl rfl) (gz_gSL gw_666 gw_667 gw_50 gw_668) rfl (by decide +kernel) rfl (by decide) (by decide) (Nat.le_of_ble_eq_true rfl) d_W_law_665 (ga_vI (fun v159 w158 => ?_))
                            refine ga_istore (lv2 := [(6, .int v159), (0, .float 0), (1, .ref x1), (2, .ref x2), (3, .ref x3), (4, .ref x4), (5, .int x5)]) d_W_law_668 (by decide) rfl ?_
                            refine ga_aload_n (q := 3) d_W_law_670 rfl rfl ?_
                            refine ga_sload_n (q := 1) d_W_law_671 rfl rfl ?_
                            refine ga_iload (q := 6) d_W_law_672 rfl ?_
                            refine ga_iconst (v := (1 : Int32)) d_W_law_674 (by decide) ?_
                            refine ga_iadd d_W_law_675 ?_
                            refine ga_guard (fun h161 => ?_)
                            refine ga_sld hX hbl h161 d_W_law_676 ?_
                            refine ga_named (fun v160 => ?_)
                            refine ga_invV (nA := 1) (ci := 6) (T := T_R) (N := 39) (av := [.int v160]) (a := x2) (st := []) (m_R_release hst F x2 v160 w158) (Or.inl rfl) (gz_gVL gw_1053 gw_1054 gw_1055 gw_58 gw_1056) rfl ⟨rfl, by decide +kernel⟩ rfl (by decide) (by decide) (Nat.le_of_ble_eq_true rfl) rfl d_W_law_677 (ga_vI (fun v163 w162 => ?_)) (fun _ _ _ _ h => nomatch h)
                            refine ga_istore (lv2 := [(7, .int v163), (6, .int v159), (0, .float 0), (1, .ref x1), (2, .ref x2), (3, .ref x3), (4, .ref x4), (5, .int x5)]) d_W_law_680 (by decide) rfl ?_
                            refine ga_aload_n (q := 4) d_W_law_682 rfl rfl ?_
                            refine ga_invV (nA := 0) (ci := 6) (T := T_R) (N := 39) (av := []) (a := x2) (st := []) (m_R_thrown hst F x2 w162) (Or.inl rfl) (gz_gVL gw_880 gw_881 gw_882 gw_58 gw_883) rfl ⟨rfl, by decide +kernel⟩ rfl (by decide) (by decide) (Nat.le_of_ble_eq_true rfl) rfl d_W_law_683 (ga_vI (fun v165 w164 => ?_)) (fun _ _ _ _ h => nomatch h)
                            refine ga_iload (q := 1) d_W_law_686 rfl ?_
                            refine ga_icmp_eq (tgt := 693) d_W_law_688 (by decide) (fun h166 => ?_) (fun h166 => ?_)
                            · refine ga_iload (q := 1) d_W_law_693 rfl ?_
                              refine ga_if_ne (tgt := 710) d_W_law_695 (by decide) (fun h167 => ?_) (fun h167 => ?_)
                              · refine ga_aload_n (q := 5) d_W_law_698 rfl rfl ?_
                                refine ga_iconst (v := (0 : Int32)) d_W_law_699 (by decide) ?_
                                refine ga_ldL (t := 2) rfl d_W_law_700 (fun v168 => ?_)
                                refine ga_iload (q := 0) d_W_law_701 rfl ?_
                                refine ga_i2l d_W_law_703 ?_
                                refine ga_lcmp d_W_law_704 ?_
                                refine ga_if_eq (tgt := 710) d_W_law_705 (by decide) (fun h169 => ?_) (fun h169 => ?_)
                                · refine ga_goto (tgt := 983) d_W_law_710 (by decide) ?_
                                  refine ga_iinc (q := 7) (v := (x5 + (3 : Int32))) (lv2 := [(5, .int (x5 + (3 : Int32))), (7, .int v163), (6, .int v159), (0, .float 0), (1, .ref x1), (2, .ref x2), (3, .ref x3), (4, .ref x4)]) d_W_law_983 rfl rfl (by decide) rfl ?_
                                  refine ga_goto (tgt := 28) d_W_law_986 (by decide) ?_
                                  refine ga_sub (lv2 := [(0, .float 0), (1, .ref x1), (2, .ref x2), (3, .ref x3), (4, .ref x4), (5, .int (x5 + (3 : Int32)))]) [3, 4, 5, 6, 7, 0] rfl ?_
                                  exact ih _ _
                                · refine ga_iconst (v := (0 : Int32)) d_W_law_708 (by decide) ?_
                                  exact ga_no
                              · refine ga_goto (tgt := 983) d_W_law_710 (by decide) ?_
                                refine ga_iinc (q := 7) (v := (x5 + (3 : Int32))) (lv2 := [(5, .int (x5 + (3 : Int32))), (7, .int v163), (6, .int v159), (0, .float 0), (1, .ref x1), (2, .ref x2), (3, .ref x3), (4, .ref x4)]) d_W_law_983 rfl rfl (by decide) rfl ?_
                                refine ga_goto (tgt := 28) d_W_law_986 (by decide) ?_
                                refine ga_sub (lv2 := [(0, .float 0), (1, .ref x1), (2, .ref x2), (3, .ref x3), (4, .ref x4), (5, .int (x5 + (3 : Int32)))]) [3, 4, 5, 6, 7, 0] rfl ?_
                                exact ih _ _
                            · refine ga_iconst (v := (0 : Int32)) d_W_law_691 (by decide) ?_
                              exact ga_no
                          · refine ga_ite (fun h170 => ?_) (fun h170 => ?_)
                            · refine ga_tabIn (x := (v2 &&& (15 : Int32))) (off := 669) (tgt := 713) d_W_law_44 (by rw [h170]; decide) (by rw [h170]; decide) (by rw [h170]; rfl) (by decide) ?_
                              refine ga_aload_n (q := 1) d_W_law_713 rfl rfl ?_
                              refine ga_sload_n (q := 0) d_W_law_714 rfl rfl ?_
                              refine ga_iload (q := 5) d_W_law_715 rfl ?_
                              refine ga_iconst (v := (1 : Int32)) d_W_law_717 (by decide) ?_
                              refine ga_iadd d_W_law_718 ?_
                              refine ga_guard (fun h172 => ?_)
                              refine ga_sld hX hbl h172 d_W_law_719 ?_
                              refine ga_named (fun v171 => ?_)
                              refine ga_sload_n (q := 0) d_W_law_720 rfl rfl ?_
                              refine ga_iload (q := 5) d_W_law_721 rfl ?_
                              refine ga_iconst (v := (2 : Int32)) d_W_law_723 (by decide) ?_
                              refine ga_iadd d_W_law_724 ?_
                              refine ga_guard (fun h174 => ?_)
                              refine ga_sld hX hbl h174 d_W_law_725 ?_
                              refine ga_named (fun v173 => ?_)
                              refine ga_aload_n (q := 3) d_W_law_726 rfl rfl ?_
                              refine ga_invSW (nA := 4) (av := [.ref x1, .int v171, .int v173, .ref x3]) (st := []) (m_W_spoil hst F x1 v171 v173 x3 w) (Or.inl rfl) (gz_gSL gw_673 gw_674 gw_50 gw_675) rfl (by decide +kernel) rfl (by decide) (by decide) (Nat.le_of_ble_eq_true rfl) d_W_law_727 (ga_vI (fun v176 w175 => ?_))
                              refine ga_istore (lv2 := [(6, .int v176), (0, .float 0), (1, .ref x1), (2, .ref x2), (3, .ref x3), (4, .ref x4), (5, .int x5)]) d_W_law_730 (by decide) rfl ?_
                              refine ga_aload_n (q := 3) d_W_law_732 rfl rfl ?_
                              refine ga_sload_n (q := 1) d_W_law_733 rfl rfl ?_
                              refine ga_iload (q := 6) d_W_law_734 rfl ?_
                              refine ga_iconst (v := (1 : Int32)) d_W_law_736 (by decide) ?_
                              refine ga_iadd d_W_law_737 ?_
                              refine ga_guard (fun h178 => ?_)
                              refine ga_sld hX hbl h178 d_W_law_738 ?_
                              refine ga_named (fun v177 => ?_)
                              refine ga_sload_n (q := 1) d_W_law_739 rfl rfl ?_
                              refine ga_iload (q := 6) d_W_law_740 rfl ?_
                              refine ga_iconst (v := (2 : Int32)) d_W_law_742 (by decide) ?_
                              refine ga_iadd d_W_law_743 ?_
                              refine ga_guard (fun h180 => ?_)
                              refine ga_sld hX hbl h180 d_W_law_744 ?_
                              refine ga_named (fun v179 => ?_)
                              refine ga_invV (nA := 2) (ci := 6) (T := T_R) (N := 39) (av := [.int v177, .int v179]) (a := x2) (st := []) (m_R_spoil hst F x2 v177 v179 w175) (Or.inl rfl) (gz_gVL gw_1057 gw_1058 gw_1059 gw_58 gw_1060) rfl ⟨rfl, by decide +kernel⟩ rfl (by decide) (by decide) (Nat.le_of_ble_eq_true rfl) rfl d_W_law_745 (ga_vI (fun v182 w181 => ?_)) (fun _ _ _ _ h => nomatch h)
                              refine ga_istore (lv2 := [(7, .int v182), (6, .int v176), (0, .float 0), (1, .ref x1), (2, .ref x2), (3, .ref x3), (4, .ref x4), (5, .int x5)]) d_W_law_748 (by decide) rfl ?_
                              refine ga_aload_n (q := 4) d_W_law_750 rfl rfl ?_
                              refine ga_invV (nA := 0) (ci := 6) (T := T_R) (N := 39) (av := []) (a := x2) (st := []) (m_R_thrown hst F x2 w181) (Or.inl rfl) (gz_gVL gw_880 gw_881 gw_882 gw_58 gw_883) rfl ⟨rfl, by decide +kernel⟩ rfl (by decide) (by decide) (Nat.le_of_ble_eq_true rfl) rfl d_W_law_751 (ga_vI (fun v184 w183 => ?_)) (fun _ _ _ _ h => nomatch h)
                              refine ga_iload (q := 1) d_W_law_754 rfl ?_
                              refine ga_icmp_eq (tgt := 761) d_W_law_756 (by decide) (fun h185 => ?_) (fun h185 => ?_)
                              · refine ga_iload (q := 1) d_W_law_761 rfl ?_
                                refine ga_if_ne (tgt := 778) d_W_law_763 (by decide) (fun h186 => ?_) (fun h186 => ?_)
                                · refine ga_aload_n (q := 5) d_W_law_766 rfl rfl ?_
                                  refine ga_iconst (v := (0 : Int32)) d_W_law_767 (by decide) ?_
                                  refine ga_ldL (t := 2) rfl d_W_law_768 (fun v187 => ?_)
                                  refine ga_iload (q := 0) d_W_law_769 rfl ?_
                                  refine ga_i2l d_W_law_771 ?_
                                  refine ga_lcmp d_W_law_772 ?_
                                  refine ga_if_eq (tgt := 778) d_W_law_773 (by decide) (fun h188 => ?_) (fun h188 => ?_)
                                  · refine ga_goto (tgt := 983) d_W_law_778 (by decide) ?_
                                    refine ga_iinc (q := 7) (v := (x5 + (3 : Int32))) (lv2 := [(5, .int (x5 + (3 : Int32))), (7, .int v182), (6, .int v176), (0, .float 0), (1, .ref x1), (2, .ref x2), (3, .ref x3), (4, .ref x4)]) d_W_law_983 rfl rfl (by decide) rfl ?_
                                    refine ga_goto (tgt := 28) d_W_law_986 (by decide) ?_
                                    refine ga_sub (lv2 := [(0, .float 0), (1, .ref x1), (2, .ref x2), (3, .ref x3), (4, .ref x4), (5, .int (x5 + (3 : Int32)))]) [3, 4, 5, 6, 7, 0] rfl ?_
                                    exact ih _ _
                                  · refine ga_iconst (v := (0 : Int32)) d_W_law_776 (by decide) ?_
                                    exact ga_no
                                · refine ga_goto (tgt := 983) d_W_law_778 (by decide) ?_
                                  refine ga_iinc (q := 7) (v := (x5 + (3 : Int32))) (lv2 := [(5, .int (x5 + (3 : Int32))), (7, .int v182), (6, .int v176), (0, .float 0), (1, .ref x1), (2, .ref x2), (3, .ref x3), (4, .ref x4)]) d_W_law_983 rfl rfl (by decide) rfl ?_
                                  refine ga_goto (tgt := 28) d_W_law_986 (by decide) ?_
                                  refine ga_sub (lv2 := [(0, .float 0), (1, .ref x1), (2, .ref x2), (3, .ref x3), (4, .ref x4), (5, .int (x5 + (3 : Int32)))]) [3, 4, 5, 6, 7, 0] rfl ?_
                                  exact ih _ _
                              · refine ga_iconst (v := (0 : Int32)) d_W_law_759 (by decide) ?_
                                exact ga_no
                            · refine ga_ite (fun h189 => ?_) (fun h189 => ?_)
                              · refine ga_tabIn (x := (v2 &&& (15 : Int32))) (off := 737) (tgt := 781) d_W_law_44 (by rw [h189]; decide) (by rw [h189]; decide) (by rw [h189]; rfl) (by decide) ?_
                                refine ga_aload_n (q := 1) d_W_law_781 rfl rfl ?_
                                refine ga_invV (nA := 0) (ci := 5) (T := T_L) (N := 9) (av := []) (a := x1) (st := []) (m_L_giveUp hst F x1 w) (Or.inl rfl) (gz_gVL gw_278 gw_279 gw_280 gw_51 gw_281) rfl ⟨rfl, by decide +kernel⟩ rfl (by decide) (by decide) (Nat.le_of_ble_eq_true rfl) rfl d_W_law_782 (ga_vI (fun v191 w190 => ?_)) (fun _ _ _ _ h => nomatch h)
                                refine ga_aload_n (q := 2) d_W_law_785 rfl rfl ?_
                                refine ga_invV (nA := 0) (ci := 6) (T := T_R) (N := 39) (av := []) (a := x2) (st := [.int v191]) (m_R_giveUp hst F x2 w190) (Or.inl rfl) (gz_gVL gw_1065 gw_1066 gw_1067 gw_58 gw_1068) rfl ⟨rfl, by decide +kernel⟩ rfl (by decide) (by decide) (Nat.le_of_ble_eq_true rfl) rfl d_W_law_786 (ga_vI (fun v193 w192 => ?_)) (fun _ _ _ _ h => nomatch h)
                                refine ga_icmp_eq (tgt := 983) d_W_law_789 (by decide) (fun h194 => ?_) (fun h194 => ?_)
                                · refine ga_iinc (q := 5) (v := (x5 + (3 : Int32))) (lv2 := [(5, .int (x5 + (3 : Int32))), (0, .float 0), (1, .ref x1), (2, .ref x2), (3, .ref x3), (4, .ref x4)]) d_W_law_983 rfl rfl (by decide) rfl ?_
                                  refine ga_goto (tgt := 28) d_W_law_986 (by decide) ?_
                                  refine ga_sub (lv2 := [(0, .float 0), (1, .ref x1), (2, .ref x2), (3, .ref x3), (4, .ref x4), (5, .int (x5 + (3 : Int32)))]) [1, 2, 3, 4, 5, 0] rfl ?_
                                  exact ih _ _
                                · refine ga_iconst (v := (0 : Int32)) d_W_law_792 (by decide) ?_
                                  exact ga_no
                              · refine ga_ite (fun h195 => ?_) (fun h195 => ?_)
                                · refine ga_tabIn (x := (v2 &&& (15 : Int32))) (off := 750) (tgt := 794) d_W_law_44 (by rw [h195]; decide) (by rw [h195]; decide) (by rw [h195]; rfl) (by decide) ?_
                                  refine ga_aload_n (q := 1) d_W_law_794 rfl rfl ?_
                                  refine ga_aload (q := 4) d_W_law_795 rfl ?_
                                  refine ga_invSW (nA := 2) (av := [.ref x1, .ref x4]) (st := []) (m_W_effort hst F x1 x4 w) (Or.inl rfl) (gz_gSL gw_709 gw_710 gw_50 gw_711) rfl (by decide +kernel) rfl (by decide) (by decide) (Nat.le_of_ble_eq_true rfl) d_W_law_797 (ga_vI (fun v197 w196 => ?_))
                                  refine ga_istore (lv2 := [(6, .int v197), (0, .float 0), (1, .ref x1), (2, .ref x2), (3, .ref x3), (4, .ref x4), (5, .int x5)]) d_W_law_800 (by decide) rfl ?_
                                  refine ga_aload_n (q := 3) d_W_law_802 rfl rfl ?_
                                  refine ga_invV (nA := 0) (ci := 6) (T := T_R) (N := 39) (av := []) (a := x2) (st := []) (m_R_effort hst F x2 w196) (Or.inl rfl) (gz_gVL gw_1073 gw_1074 gw_1075 gw_58 gw_1076) rfl ⟨rfl, by decide +kernel⟩ rfl (by decide) (by decide) (Nat.le_of_ble_eq_true rfl) rfl d_W_law_803 (ga_vD (fun v199 w198 => ?_)) (fun _ _ _ _ h => nomatch h)
                                  refine ga_dstore (lv2 := [(7, .double v199), (6, .int v197), (0, .float 0), (1, .ref x1), (2, .ref x2), (3, .ref x3), (4, .ref x4), (5, .int x5)]) d_W_law_806 (by decide) rfl ?_
                                  refine ga_aload_n (q := 4) d_W_law_808 rfl rfl ?_
                                  refine ga_invV (nA := 0) (ci := 6) (T := T_R) (N := 39) (av := []) (a := x2) (st := []) (m_R_thrown hst F x2 w198) (Or.inl rfl) (gz_gVL gw_880 gw_881 gw_882 gw_58 gw_883) rfl ⟨rfl, by decide +kernel⟩ rfl (by decide) (by decide) (Nat.le_of_ble_eq_true rfl) rfl d_W_law_809 (ga_vI (fun v201 w200 => ?_)) (fun _ _ _ _ h => nomatch h)
                                  refine ga_iload (q := 1) d_W_law_812 rfl ?_
                                  refine ga_icmp_eq (tgt := 819) d_W_law_814 (by decide) (fun h202 => ?_) (fun h202 => ?_)
                                  · refine ga_iload (q := 1) d_W_law_819 rfl ?_
                                    refine ga_if_ne (tgt := 856) d_W_law_821 (by decide) (fun h203 => ?_) (fun h203 => ?_)
                                    · refine ga_aload (q := 6) d_W_law_824 rfl ?_
                                      refine ga_iconst (v := (0 : Int32)) d_W_law_826 (by decide) ?_
                                      refine ga_ldD (t := 3) rfl d_W_law_827 (fun v204 => ?_)
                                      refine ga_dload (q := 0) d_W_law_828 rfl ?_
                                      refine ga_dcmp d_W_law_830 ?_
                                      refine ga_if_eq (tgt := 856) d_W_law_831 (by decide) (fun h205 => ?_) (fun h205 => ?_)
                                      · refine ga_goto (tgt := 983) d_W_law_856 (by decide) ?_
                                        refine ga_iinc (q := 7) (v := (x5 + (3 : Int32))) (lv2 := [(5, .int (x5 + (3 : Int32))), (7, .double v199), (6, .int v197), (0, .float 0), (1, .ref x1), (2, .ref x2), (3, .ref x3), (4, .ref x4)]) d_W_law_983 rfl rfl (by decide) rfl ?_
                                        refine ga_goto (tgt := 28) d_W_law_986 (by decide) ?_
                                        refine ga_sub (lv2 := [(0, .float 0), (1, .ref x1), (2, .ref x2), (3, .ref x3), (4, .ref x4), (5, .int (x5 + (3 : Int32)))]) [3, 4, 5, 6, 7, 0] rfl ?_
                                        exact ih _ _
                                      · refine ga_aload (q := 6) d_W_law_834 rfl ?_
                                        refine ga_iconst (v := (0 : Int32)) d_W_law_836 (by decide) ?_
                                        refine ga_ldD (t := 3) rfl d_W_law_837 (fun v206 => ?_)
                                        refine ga_aload (q := 6) d_W_law_838 rfl ?_
                                        refine ga_iconst (v := (0 : Int32)) d_W_law_840 (by decide) ?_
                                        refine ga_ldD (t := 3) rfl d_W_law_841 (fun v207 => ?_)
                                        refine ga_dcmp d_W_law_842 ?_
                                        refine ga_if_eq (tgt := 854) d_W_law_843 (by decide) (fun h208 => ?_) (fun h208 => ?_)
                                        · refine ga_iconst (v := (0 : Int32)) d_W_law_854 (by decide) ?_
                                          exact ga_no
                                        · refine ga_dload (q := 0) d_W_law_846 rfl ?_
                                          refine ga_dload (q := 0) d_W_law_848 rfl ?_
                                          refine ga_dcmp d_W_law_850 ?_
                                          refine ga_if_ne (tgt := 856) d_W_law_851 (by decide) (fun h209 => ?_) (fun h209 => ?_)
                                          · refine ga_iconst (v := (0 : Int32)) d_W_law_854 (by decide) ?_
                                            exact ga_no
                                          · refine ga_goto (tgt := 983) d_W_law_856 (by decide) ?_
                                            refine ga_iinc (q := 7) (v := (x5 + (3 : Int32))) (lv2 := [(5, .int (x5 + (3 : Int32))), (7, .double v199), (6, .int v197), (0, .float 0), (1, .ref x1), (2, .ref x2), (3, .ref x3), (4, .ref x4)]) d_W_law_983 rfl rfl (by decide) rfl ?_
                                            refine ga_goto (tgt := 28) d_W_law_986 (by decide) ?_
                                            refine ga_sub (lv2 := [(0, .float 0), (1, .ref x1), (2, .ref x2), (3, .ref x3), (4, .ref x4), (5, .int (x5 + (3 : Int32)))]) [3, 4, 5, 6, 7, 0] rfl ?_
                                            exact ih _ _
                                    · refine ga_goto (tgt := 983) d_W_law_856 (by decide) ?_
                                      refine ga_iinc (q := 7) (v := (x5 + (3 : Int32))) (lv2 := [(5, .int (x5 + (3 : Int32))), (7, .double v199), (6, .int v197), (0, .float 0), (1, .ref x1), (2, .ref x2), (3, .ref x3), (4, .ref x4)]) d_W_law_983 rfl rfl (by decide) rfl ?_
                                      refine ga_goto (tgt := 28) d_W_law_986 (by decide) ?_
                                      refine ga_sub (lv2 := [(0, .float 0), (1, .ref x1), (2, .ref x2), (3, .ref x3), (4, .ref x4), (5, .int (x5 + (3 : Int32)))]) [3, 4, 5, 6, 7, 0] rfl ?_
                                      exact ih _ _
                                  · refine ga_iconst (v := (0 : Int32)) d_W_law_817 (by decide) ?_
                                    exact ga_no
                                · refine ga_ite (fun h210 => ?_) (fun h210 => ?_)
                                  · refine ga_tabIn (x := (v2 &&& (15 : Int32))) (off := 815) (tgt := 859) d_W_law_44 (by rw [h210]; decide) (by rw [h210]; decide) (by rw [h210]; rfl) (by decide) ?_
                                    refine ga_aload_n (q := 1) d_W_law_859 rfl rfl ?_
                                    refine ga_sload_n (q := 0) d_W_law_860 rfl rfl ?_
                                    refine ga_iload (q := 5) d_W_law_861 rfl ?_
                                    refine ga_iconst (v := (1 : Int32)) d_W_law_863 (by decide) ?_
                                    refine ga_iadd d_W_law_864 ?_
                                    refine ga_guard (fun h212 => ?_)
                                    refine ga_sld hX hbl h212 d_W_law_865 ?_
                                    refine ga_named (fun v211 => ?_)
                                    refine ga_sload_n (q := 0) d_W_law_866 rfl rfl ?_
                                    refine ga_iload (q := 5) d_W_law_867 rfl ?_
                                    refine ga_iconst (v := (2 : Int32)) d_W_law_869 (by decide) ?_
                                    refine ga_iadd d_W_law_870 ?_
                                    refine ga_guard (fun h214 => ?_)
                                    refine ga_sld hX hbl h214 d_W_law_871 ?_
                                    refine ga_named (fun v213 => ?_)
                                    refine ga_aload_n (q := 3) d_W_law_872 rfl rfl ?_
                                    refine ga_invSW (nA := 4) (av := [.ref x1, .int v211, .int v213, .ref x3]) (st := []) (m_W_table hst F x1 v211 v213 x3 w) (Or.inl rfl) (gz_gSL gw_732 gw_733 gw_50 gw_734) rfl (by decide +kernel) rfl (by decide) (by decide) (Nat.le_of_ble_eq_true rfl) d_W_law_873 (ga_vI (fun v216 w215 => ?_))
                                    refine ga_istore (lv2 := [(6, .int v216), (0, .float 0), (1, .ref x1), (2, .ref x2), (3, .ref x3), (4, .ref x4), (5, .int x5)]) d_W_law_876 (by decide) rfl ?_
                                    refine ga_aload_n (q := 3) d_W_law_878 rfl rfl ?_
                                    refine ga_sload_n (q := 1) d_W_law_879 rfl rfl ?_
                                    refine ga_iload (q := 6) d_W_law_880 rfl ?_
                                    refine ga_iconst (v := (1 : Int32)) d_W_law_882 (by decide) ?_
                                    refine ga_iadd d_W_law_883 ?_
                                    refine ga_guard (fun h218 => ?_)
                                    refine ga_sld hX hbl h218 d_W_law_884 ?_
                                    refine ga_named (fun v217 => ?_)
                                    refine ga_sload_n (q := 1) d_W_law_885 rfl rfl ?_
                                    refine ga_iload (q := 6) d_W_law_886 rfl ?_
                                    refine ga_iconst (v := (2 : Int32)) d_W_law_888 (by decide) ?_
                                    refine ga_iadd d_W_law_889 ?_
                                    refine ga_guard (fun h220 => ?_)
                                    refine ga_sld hX hbl h220 d_W_law_890 ?_
                                    refine ga_named (fun v219 => ?_)
                                    refine ga_invV (nA := 2) (ci := 6) (T := T_R) (N := 39) (av := [.int v217, .int v219]) (a := x2) (st := []) (m_R_table hst F x2 v217 v219 w215) (Or.inl rfl) (gz_gVL gw_1077 gw_1078 gw_1079 gw_58 gw_1080) rfl ⟨rfl, by decide +kernel⟩ rfl (by decide) (by decide) (Nat.le_of_ble_eq_true rfl) rfl d_W_law_891 (ga_vI (fun v222 w221 => ?_)) (fun _ _ _ _ h => nomatch h)
                                    refine ga_istore (lv2 := [(7, .int v222), (6, .int v216), (0, .float 0), (1, .ref x1), (2, .ref x2), (3, .ref x3), (4, .ref x4), (5, .int x5)]) d_W_law_894 (by decide) rfl ?_
                                    refine ga_aload_n (q := 4) d_W_law_896 rfl rfl ?_
                                    refine ga_invV (nA := 0) (ci := 6) (T := T_R) (N := 39) (av := []) (a := x2) (st := []) (m_R_thrown hst F x2 w221) (Or.inl rfl) (gz_gVL gw_880 gw_881 gw_882 gw_58 gw_883) rfl ⟨rfl, by decide +kernel⟩ rfl (by decide) (by decide) (Nat.le_of_ble_eq_true rfl) rfl d_W_law_897 (ga_vI (fun v224 w223 => ?_)) (fun _ _ _ _ h => nomatch h)
                                    refine ga_iload (q := 1) d_W_law_900 rfl ?_
                                    refine ga_icmp_eq (tgt := 907) d_W_law_902 (by decide) (fun h225 => ?_) (fun h225 => ?_)
                                    · refine ga_iload (q := 1) d_W_law_907 rfl ?_
                                      refine ga_if_ne (tgt := 924) d_W_law_909 (by decide) (fun h226 => ?_) (fun h226 => ?_)
                                      · refine ga_aload_n (q := 5) d_W_law_912 rfl rfl ?_
                                        refine ga_iconst (v := (0 : Int32)) d_W_law_913 (by decide) ?_
                                        refine ga_ldL (t := 2) rfl d_W_law_914 (fun v227 => ?_)
                                        refine ga_iload (q := 0) d_W_law_915 rfl ?_
                                        refine ga_i2l d_W_law_917 ?_
                                        refine ga_lcmp d_W_law_918 ?_
                                        refine ga_if_eq (tgt := 924) d_W_law_919 (by decide) (fun h228 => ?_) (fun h228 => ?_)
                                        · refine ga_goto (tgt := 983) d_W_law_924 (by decide) ?_
                                          refine ga_iinc (q := 7) (v := (x5 + (3 : Int32))) (lv2 := [(5, .int (x5 + (3 : Int32))), (7, .int v222), (6, .int v216), (0, .float 0), (1, .ref x1), (2, .ref x2), (3, .ref x3), (4, .ref x4)]) d_W_law_983 rfl rfl (by decide) rfl ?_
                                          refine ga_goto (tgt := 28) d_W_law_986 (by decide) ?_
                                          refine ga_sub (lv2 := [(0, .float 0), (1, .ref x1), (2, .ref x2), (3, .ref x3), (4, .ref x4), (5, .int (x5 + (3 : Int32)))]) [3, 4, 5, 6, 7, 0] rfl ?_
                                          exact ih _ _
                                        · refine ga_iconst (v := (0 : Int32)) d_W_law_922 (by decide) ?_
                                          exact ga_no
                                      · refine ga_goto (tgt := 983) d_W_law_924 (by decide) ?_
                                        refine ga_iinc (q := 7) (v := (x5 + (3 : Int32))) (lv2 := [(5, .int (x5 + (3 : Int32))), (7, .int v222), (6, .int v216), (0, .float 0), (1, .ref x1), (2, .ref x2), (3, .ref x3), (4, .ref x4)]) d_W_law_983 rfl rfl (by decide) rfl ?_
                                        refine ga_goto (tgt := 28) d_W_law_986 (by decide) ?_
                                        refine ga_sub (lv2 := [(0, .float 0), (1, .ref x1), (2, .ref x2), (3, .ref x3), (4, .ref x4), (5, .int (x5 + (3 : Int32)))]) [3, 4, 5, 6, 7, 0] rfl ?_
                                        exact ih _ _
                                    · refine ga_iconst (v := (0 : Int32)) d_W_law_905 (by decide) ?_
                                      exact ga_no
                                  · refine ga_ite (fun h229 => ?_) (fun h229 => ?_)
                                    · refine ga_tabIn (x := (v2 &&& (15 : Int32))) (off := 883) (tgt := 927) d_W_law_44 (by rw [h229]; decide) (by rw [h229]; decide) (by rw [h229]; rfl) (by decide) ?_
                                      refine ga_aload_n (q := 1) d_W_law_927 rfl rfl ?_
                                      refine ga_sload_n (q := 0) d_W_law_928 rfl rfl ?_
                                      refine ga_iload (q := 5) d_W_law_929 rfl ?_
                                      refine ga_iconst (v := (1 : Int32)) d_W_law_931 (by decide) ?_
                                      refine ga_iadd d_W_law_932 ?_
                                      refine ga_guard (fun h231 => ?_)
                                      refine ga_sld hX hbl h231 d_W_law_933 ?_
                                      refine ga_named (fun v230 => ?_)
                                      refine ga_aload_n (q := 3) d_W_law_934 rfl rfl ?_
                                      refine ga_invSW (nA := 3) (av := [.ref x1, .int v230, .ref x3]) (st := []) (m_W_count hst F x1 v230 x3 w) (Or.inl rfl) (gz_gSL gw_747 gw_748 gw_50 gw_749) rfl (by decide +kernel) rfl (by decide) (by decide) (Nat.le_of_ble_eq_true rfl) d_W_law_935 (ga_vI (fun v233 w232 => ?_))
                                      refine ga_istore (lv2 := [(6, .int v233), (0, .float 0), (1, .ref x1), (2, .ref x2), (3, .ref x3), (4, .ref x4), (5, .int x5)]) d_W_law_938 (by decide) rfl ?_
                                      refine ga_aload_n (q := 3) d_W_law_940 rfl rfl ?_
                                      refine ga_sload_n (q := 1) d_W_law_941 rfl rfl ?_
                                      refine ga_iload (q := 6) d_W_law_942 rfl ?_
                                      refine ga_iconst (v := (1 : Int32)) d_W_law_944 (by decide) ?_
                                      refine ga_iadd d_W_law_945 ?_
                                      refine ga_guard (fun h235 => ?_)
                                      refine ga_sld hX hbl h235 d_W_law_946 ?_
                                      refine ga_named (fun v234 => ?_)
                                      refine ga_invV (nA := 1) (ci := 6) (T := T_R) (N := 39) (av := [.int v234]) (a := x2) (st := []) (m_R_count hst F x2 v234 w232) (Or.inl rfl) (gz_gVL gw_1084 gw_1085 gw_1086 gw_58 gw_1087) rfl ⟨rfl, by decide +kernel⟩ rfl (by decide) (by decide) (Nat.le_of_ble_eq_true rfl) rfl d_W_law_947 (ga_vI (fun v237 w236 => ?_)) (fun _ _ _ _ h => nomatch h)
                                      refine ga_istore (lv2 := [(7, .int v237), (6, .int v233), (0, .float 0), (1, .ref x1), (2, .ref x2), (3, .ref x3), (4, .ref x4), (5, .int x5)]) d_W_law_950 (by decide) rfl ?_
                                      refine ga_aload_n (q := 4) d_W_law_952 rfl rfl ?_
                                      refine ga_invV (nA := 0) (ci := 6) (T := T_R) (N := 39) (av := []) (a := x2) (st := []) (m_R_thrown hst F x2 w236) (Or.inl rfl) (gz_gVL gw_880 gw_881 gw_882 gw_58 gw_883) rfl ⟨rfl, by decide +kernel⟩ rfl (by decide) (by decide) (Nat.le_of_ble_eq_true rfl) rfl d_W_law_953 (ga_vI (fun v239 w238 => ?_)) (fun _ _ _ _ h => nomatch h)
                                      refine ga_iload (q := 1) d_W_law_956 rfl ?_
                                      refine ga_icmp_eq (tgt := 963) d_W_law_958 (by decide) (fun h240 => ?_) (fun h240 => ?_)
                                      · refine ga_iload (q := 1) d_W_law_963 rfl ?_
                                        refine ga_if_ne (tgt := 980) d_W_law_965 (by decide) (fun h241 => ?_) (fun h241 => ?_)
                                        · refine ga_aload_n (q := 5) d_W_law_968 rfl rfl ?_
                                          refine ga_iconst (v := (0 : Int32)) d_W_law_969 (by decide) ?_
                                          refine ga_ldL (t := 2) rfl d_W_law_970 (fun v242 => ?_)
                                          refine ga_iload (q := 0) d_W_law_971 rfl ?_
                                          refine ga_i2l d_W_law_973 ?_
                                          refine ga_lcmp d_W_law_974 ?_
                                          refine ga_if_eq (tgt := 980) d_W_law_975 (by decide) (fun h243 => ?_) (fun h243 => ?_)
                                          · refine ga_goto (tgt := 983) d_W_law_980 (by decide) ?_
                                            refine ga_iinc (q := 7) (v := (x5 + (3 : Int32))) (lv2 := [(5, .int (x5 + (3 : Int32))), (7, .int v237), (6, .int v233), (0, .float 0), (1, .ref x1), (2, .ref x2), (3, .ref x3), (4, .ref x4)]) d_W_law_983 rfl rfl (by decide) rfl ?_
                                            refine ga_goto (tgt := 28) d_W_law_986 (by decide) ?_
                                            refine ga_sub (lv2 := [(0, .float 0), (1, .ref x1), (2, .ref x2), (3, .ref x3), (4, .ref x4), (5, .int (x5 + (3 : Int32)))]) [3, 4, 5, 6, 7, 0] rfl ?_
                                            exact ih _ _
                                          · refine ga_iconst (v := (0 : Int32)) d_W_law_978 (by decide) ?_
                                            exact ga_no
                                        · refine ga_goto (tgt := 983) d_W_law_980 (by decide) ?_
                                          refine ga_iinc (q := 7) (v := (x5 + (3 : Int32))) (lv2 := [(5, .int (x5 + (3 : Int32))), (7, .int v237), (6, .int v233), (0, .float 0), (1, .ref x1), (2, .ref x2), (3, .ref x3), (4, .ref x4)]) d_W_law_983 rfl rfl (by decide) rfl ?_
                                          refine ga_goto (tgt := 28) d_W_law_986 (by decide) ?_
                                          refine ga_sub (lv2 := [(0, .float 0), (1, .ref x1), (2, .ref x2), (3, .ref x3), (4, .ref x4), (5, .int (x5 + (3 : Int32)))]) [3, 4, 5, 6, 7, 0] rfl ?_
                                          exact ih _ _
                                      · refine ga_iconst (v := (0 : Int32)) d_W_law_961 (by decide) ?_
                                        exact ga_no
                                    · refine ga_tabOut (x := (v2 &&& (15 : Int32))) (tgt := 983) d_W_law_44 (ga_out15 h4 h23 h38 h49 h74 h80 h95 h106 h125 h144 h155 h170 h189 h195 h210 h229) (by decide) ?_
                                      refine ga_iinc (q := 5) (v := (x5 + (3 : Int32))) (lv2 := [(5, .int (x5 + (3 : Int32))), (0, .float 0), (1, .ref x1), (2, .ref x2), (3, .ref x3), (4, .ref x4)]) d_W_law_983 rfl rfl (by decide) rfl ?_
                                      refine ga_goto (tgt := 28) d_W_law_986 (by decide) ?_
                                      refine ga_sub (lv2 := [(0, .float 0), (1, .ref x1), (2, .ref x2), (3, .ref x3), (4, .ref x4), (5, .int (x5 + (3 : Int32)))]) [1, 2, 3, 4, 5, 0] rfl ?_
                                      exact ih _ _
set_option maxHeartbeats 4000000 in
set_option maxRecDepth 100000 in
theorem m_W_law (hst : l.stackTraces = false) (hX : va_X b L xs s s.heap) (hbl : b < s.heap.size) (F : Nat) (w : ga_W) : ga_J l s D gz_cl (gz_tA cT) s.heap.size b gz_xn p e room_1 s m #[Value.ref b] below meth c 9 lw_tbl R_law code ret [] "law" 12 462 false ad0 w0 (gz_LQ below b s) 0 [(0, .float 0)] [] w (f_W_law F xs L w) := by
  unfold f_W_law
  refine ga_new (C := "LevelStore") (T := T_L) (N := 9) (ci := 5) (ty0 := ty_L) (fs := [.null, .null, .null, .null, .int 0, .int 0, .int 0, .int 0, .int 0]) rfl (fun x h => il_L x h) ty_L_ok rfl gl_69 gl_70 gl_51 (df_L) (fun _ _ => rfl) (fun _ => rfl) d_W_law_0 ?_
  refine ga_namedW (fun w1 => ?_)
  refine ga_dup d_W_law_3 rfl ?_
  refine ga_guard (fun h3 => ?_)
  refine ga_invI (nA := 0) (av := []) (a := w.1.length) (st := [.ref w.1.length]) (m_L_init hst F w.1.length w1) (Or.inr ⟨rfl, h3⟩) (gz_gIL gw_73) rfl gl_51 (Or.inl gl_71) gl_72 rfl (by decide +kernel) rfl (by decide) (by decide) (Nat.le_of_ble_eq_true rfl) d_W_law_4 (fun w2 => ?_)
  refine ga_astore_n (lv2 := [(1, .ref w.1.length), (0, .float 0)]) d_W_law_7 rfl (by decide) rfl ?_
  refine ga_new (C := "LevelStoreModel") (T := T_R) (N := 39) (ci := 6) (ty0 := ty_R) (fs := [.int 0, .null, .null, .null, .null, .int 0, .null, .null, .null, .null, .int 0, .null, .null, .null, .null, .int 0, .null, .int 0, .int 0, .null, .null, .null, .int 0, .null, .null, .int 0, .int 0, .int 0, .int 0, .int 0, .int 0, .int 0, .null, .null, .null, .null, .int 0, .null, .int 0]) rfl (fun x h => il_R x h) ty_R_ok rfl gl_755 gl_756 gl_58 (df_R) (fun _ _ => rfl) (fun _ => rfl) d_W_law_8 ?_
  refine ga_namedW (fun w4 => ?_)
  refine ga_dup d_W_law_11 rfl ?_
  refine ga_guard (fun h6 => ?_)
  refine ga_invI (nA := 0) (av := []) (a := w2.1.length) (st := [.ref w2.1.length]) (m_R_init hst F w2.1.length w4) (Or.inr ⟨rfl, h6⟩) (gz_gIL gw_759) rfl gl_58 (Or.inl gl_757) gl_758 rfl (by decide +kernel) rfl (by decide) (by decide) (Nat.le_of_ble_eq_true rfl) d_W_law_12 (fun w5 => ?_)
  refine ga_astore_n (lv2 := [(2, .ref w2.1.length), (1, .ref w.1.length), (0, .float 0)]) d_W_law_15 rfl (by decide) rfl ?_
  refine ga_iconst (v := (1 : Int32)) d_W_law_16 (by decide) ?_
  refine ga_newa (atype := .long) (t := 2) (N := 1) (x := .inr (.inl (fun _ => 0))) rfl gl_879 rfl (fun _ h => nomatch h) rfl (fun _ => ga_zr2 _ _) (by decide) (by decide) (by decide) d_W_law_17 ?_
  refine ga_namedW (fun w7 => ?_)
  refine ga_astore_n (lv2 := [(3, .ref w5.1.length), (2, .ref w2.1.length), (1, .ref w.1.length), (0, .float 0)]) d_W_law_19 rfl (by decide) rfl ?_
  refine ga_iconst (v := (1 : Int32)) d_W_law_20 (by decide) ?_
  refine ga_newa (atype := .double) (t := 3) (N := 1) (x := .inr (.inr (.inr (.inl (fun _ => 0))))) rfl gl_1088 rfl (fun _ h => nomatch h) rfl (fun _ => ga_zr3 _ _) (by decide) (by decide) (by decide) d_W_law_21 ?_
  refine ga_namedW (fun w8 => ?_)
  refine ga_astore (lv2 := [(4, .ref w7.1.length), (3, .ref w5.1.length), (2, .ref w2.1.length), (1, .ref w.1.length), (0, .float 0)]) d_W_law_23 (by decide) rfl ?_
  refine ga_iconst (v := (0 : Int32)) d_W_law_25 (by decide) ?_
  refine ga_istore (lv2 := [(5, .int (0 : Int32)), (4, .ref w7.1.length), (3, .ref w5.1.length), (2, .ref w2.1.length), (1, .ref w.1.length), (0, .float 0)]) d_W_law_26 (by decide) rfl ?_
  refine ga_sub (lv2 := [(0, .float 0), (1, .ref w.1.length), (2, .ref w2.1.length), (3, .ref w5.1.length), (4, .ref w7.1.length), (5, .int (0 : Int32))]) [5, 4, 3, 2, 1, 0] rfl ?_
  exact h_W_law_28 hst hX hbl F w.1.length w2.1.length w5.1.length w7.1.length F (0 : Int32) w8
end GW
