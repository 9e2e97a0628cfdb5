/-! DECODED INSTRUCTIONS -/
theorem d_E_init_0 : decode c_E_init 0 = .ok (.aload_n 0, 1) := by decide +kernel
theorem d_E_init_1 : decode c_E_init 1 = .ok (.invokespecial 3, 3) := by decide +kernel
theorem d_E_init_4 : decode c_E_init 4 = .ok (.aload_n 0, 1) := by decide +kernel
theorem d_E_init_5 : decode c_E_init 5 = .ok (.iload_n 1, 1) := by decide +kernel
theorem d_E_init_6 : decode c_E_init 6 = .ok (.newarray .int, 2) := by decide +kernel
theorem d_E_init_8 : decode c_E_init 8 = .ok (.putfield 9, 3) := by decide +kernel
theorem d_E_init_11 : decode c_E_init 11 = .ok (.aload_n 0, 1) := by decide +kernel
theorem d_E_init_12 : decode c_E_init 12 = .ok (.iload_n 1, 1) := by decide +kernel
theorem d_E_init_13 : decode c_E_init 13 = .ok (.newarray .int, 2) := by decide +kernel
theorem d_E_init_15 : decode c_E_init 15 = .ok (.putfield 15, 3) := by decide +kernel
theorem d_E_init_18 : decode c_E_init 18 = .ok (.aload_n 0, 1) := by decide +kernel
theorem d_E_init_19 : decode c_E_init 19 = .ok (.iload_n 1, 1) := by decide +kernel
theorem d_E_init_20 : decode c_E_init 20 = .ok (.newarray .int, 2) := by decide +kernel
theorem d_E_init_22 : decode c_E_init 22 = .ok (.putfield 18, 3) := by decide +kernel
theorem d_E_init_25 : decode c_E_init 25 = .ok (.aload_n 0, 1) := by decide +kernel
theorem d_E_init_26 : decode c_E_init 26 = .ok (.iload_n 1, 1) := by decide +kernel
theorem d_E_init_27 : decode c_E_init 27 = .ok (.newarray .boolean, 2) := by decide +kernel
theorem d_E_init_29 : decode c_E_init 29 = .ok (.putfield 21, 3) := by decide +kernel
theorem d_E_init_32 : decode c_E_init 32 = .ok (.aload_n 0, 1) := by decide +kernel
theorem d_E_init_33 : decode c_E_init 33 = .ok (.iload_n 1, 1) := by decide +kernel
theorem d_E_init_34 : decode c_E_init 34 = .ok (.newarray .boolean, 2) := by decide +kernel
theorem d_E_init_36 : decode c_E_init 36 = .ok (.putfield 25, 3) := by decide +kernel
theorem d_E_init_39 : decode c_E_init 39 = .ok (.return_, 1) := by decide +kernel
theorem d_M_init_0 : decode c_M_init 0 = .ok (.aload_n 0, 1) := by decide +kernel
theorem d_M_init_1 : decode c_M_init 1 = .ok (.invokespecial 3, 3) := by decide +kernel
theorem d_M_init_4 : decode c_M_init 4 = .ok (.aload_n 0, 1) := by decide +kernel
theorem d_M_init_5 : decode c_M_init 5 = .ok (.new 9, 3) := by decide +kernel
theorem d_M_init_8 : decode c_M_init 8 = .ok (.dup, 1) := by decide +kernel
theorem d_M_init_9 : decode c_M_init 9 = .ok (.bipush 12, 2) := by decide +kernel
theorem d_M_init_11 : decode c_M_init 11 = .ok (.invokespecial 11, 3) := by decide +kernel
theorem d_M_init_14 : decode c_M_init 14 = .ok (.putfield 14, 3) := by decide +kernel
theorem d_M_init_17 : decode c_M_init 17 = .ok (.aload_n 0, 1) := by decide +kernel
theorem d_M_init_18 : decode c_M_init 18 = .ok (.bipush 9, 2) := by decide +kernel
theorem d_M_init_20 : decode c_M_init 20 = .ok (.newarray .int, 2) := by decide +kernel
theorem d_M_init_22 : decode c_M_init 22 = .ok (.putfield 20, 3) := by decide +kernel
theorem d_M_init_25 : decode c_M_init 25 = .ok (.return_, 1) := by decide +kernel
theorem d_S_init_0 : decode c_S_init 0 = .ok (.aload_n 0, 1) := by decide +kernel
theorem d_S_init_1 : decode c_S_init 1 = .ok (.invokespecial 3, 3) := by decide +kernel
theorem d_S_init_4 : decode c_S_init 4 = .ok (.aload_n 0, 1) := by decide +kernel
theorem d_S_init_5 : decode c_S_init 5 = .ok (.new 9, 3) := by decide +kernel
theorem d_S_init_8 : decode c_S_init 8 = .ok (.dup, 1) := by decide +kernel
theorem d_S_init_9 : decode c_S_init 9 = .ok (.sipush 240, 3) := by decide +kernel
theorem d_S_init_12 : decode c_S_init 12 = .ok (.invokespecial 11, 3) := by decide +kernel
theorem d_S_init_15 : decode c_S_init 15 = .ok (.putfield 14, 3) := by decide +kernel
theorem d_S_init_18 : decode c_S_init 18 = .ok (.aload_n 0, 1) := by decide +kernel
theorem d_S_init_19 : decode c_S_init 19 = .ok (.sipush 240, 3) := by decide +kernel
theorem d_S_init_22 : decode c_S_init 22 = .ok (.newarray .int, 2) := by decide +kernel
theorem d_S_init_24 : decode c_S_init 24 = .ok (.putfield 20, 3) := by decide +kernel
theorem d_S_init_27 : decode c_S_init 27 = .ok (.aload_n 0, 1) := by decide +kernel
theorem d_S_init_28 : decode c_S_init 28 = .ok (.sipush 240, 3) := by decide +kernel
theorem d_S_init_31 : decode c_S_init 31 = .ok (.newarray .int, 2) := by decide +kernel
theorem d_S_init_33 : decode c_S_init 33 = .ok (.putfield 24, 3) := by decide +kernel
theorem d_S_init_36 : decode c_S_init 36 = .ok (.aload_n 0, 1) := by decide +kernel
theorem d_S_init_37 : decode c_S_init 37 = .ok (.sipush 241, 3) := by decide +kernel
theorem d_S_init_40 : decode c_S_init 40 = .ok (.newarray .int, 2) := by decide +kernel
theorem d_S_init_42 : decode c_S_init 42 = .ok (.putfield 27, 3) := by decide +kernel
theorem d_S_init_45 : decode c_S_init 45 = .ok (.return_, 1) := by decide +kernel
theorem d_O_init_0 : decode c_O_init 0 = .ok (.aload_n 0, 1) := by decide +kernel
theorem d_O_init_1 : decode c_O_init 1 = .ok (.invokespecial 3, 3) := by decide +kernel
theorem d_O_init_4 : decode c_O_init 4 = .ok (.aload_n 0, 1) := by decide +kernel
theorem d_O_init_5 : decode c_O_init 5 = .ok (.new 9, 3) := by decide +kernel
theorem d_O_init_8 : decode c_O_init 8 = .ok (.dup, 1) := by decide +kernel
theorem d_O_init_9 : decode c_O_init 9 = .ok (.sipush 240, 3) := by decide +kernel
theorem d_O_init_12 : decode c_O_init 12 = .ok (.invokespecial 11, 3) := by decide +kernel
theorem d_O_init_15 : decode c_O_init 15 = .ok (.putfield 14, 3) := by decide +kernel
theorem d_O_init_18 : decode c_O_init 18 = .ok (.aload_n 0, 1) := by decide +kernel
theorem d_O_init_19 : decode c_O_init 19 = .ok (.bipush 65, 2) := by decide +kernel
theorem d_O_init_21 : decode c_O_init 21 = .ok (.newarray .int, 2) := by decide +kernel
theorem d_O_init_23 : decode c_O_init 23 = .ok (.putfield 20, 3) := by decide +kernel
theorem d_O_init_26 : decode c_O_init 26 = .ok (.aload_n 0, 1) := by decide +kernel
theorem d_O_init_27 : decode c_O_init 27 = .ok (.sipush 240, 3) := by decide +kernel
theorem d_O_init_30 : decode c_O_init 30 = .ok (.newarray .int, 2) := by decide +kernel
theorem d_O_init_32 : decode c_O_init 32 = .ok (.putfield 24, 3) := by decide +kernel
theorem d_O_init_35 : decode c_O_init 35 = .ok (.return_, 1) := by decide +kernel
theorem d_V_init_0 : decode c_V_init 0 = .ok (.aload_n 0, 1) := by decide +kernel
theorem d_V_init_1 : decode c_V_init 1 = .ok (.invokespecial 3, 3) := by decide +kernel
theorem d_V_init_4 : decode c_V_init 4 = .ok (.aload_n 0, 1) := by decide +kernel
theorem d_V_init_5 : decode c_V_init 5 = .ok (.new 9, 3) := by decide +kernel
theorem d_V_init_8 : decode c_V_init 8 = .ok (.dup, 1) := by decide +kernel
theorem d_V_init_9 : decode c_V_init 9 = .ok (.invokespecial 11, 3) := by decide +kernel
theorem d_V_init_12 : decode c_V_init 12 = .ok (.putfield 12, 3) := by decide +kernel
theorem d_V_init_15 : decode c_V_init 15 = .ok (.aload_n 0, 1) := by decide +kernel
theorem d_V_init_16 : decode c_V_init 16 = .ok (.new 9, 3) := by decide +kernel
theorem d_V_init_19 : decode c_V_init 19 = .ok (.dup, 1) := by decide +kernel
theorem d_V_init_20 : decode c_V_init 20 = .ok (.invokespecial 11, 3) := by decide +kernel
theorem d_V_init_23 : decode c_V_init 23 = .ok (.putfield 18, 3) := by decide +kernel
theorem d_V_init_26 : decode c_V_init 26 = .ok (.aload_n 0, 1) := by decide +kernel
theorem d_V_init_27 : decode c_V_init 27 = .ok (.new 21, 3) := by decide +kernel
theorem d_V_init_30 : decode c_V_init 30 = .ok (.dup, 1) := by decide +kernel
theorem d_V_init_31 : decode c_V_init 31 = .ok (.invokespecial 23, 3) := by decide +kernel
theorem d_V_init_34 : decode c_V_init 34 = .ok (.putfield 24, 3) := by decide +kernel
theorem d_V_init_37 : decode c_V_init 37 = .ok (.aload_n 0, 1) := by decide +kernel
theorem d_V_init_38 : decode c_V_init 38 = .ok (.new 28, 3) := by decide +kernel
theorem d_V_init_41 : decode c_V_init 41 = .ok (.dup, 1) := by decide +kernel
theorem d_V_init_42 : decode c_V_init 42 = .ok (.sipush 240, 3) := by decide +kernel
theorem d_V_init_45 : decode c_V_init 45 = .ok (.invokespecial 30, 3) := by decide +kernel
theorem d_V_init_48 : decode c_V_init 48 = .ok (.putfield 33, 3) := by decide +kernel
theorem d_V_init_51 : decode c_V_init 51 = .ok (.aload_n 0, 1) := by decide +kernel
theorem d_V_init_52 : decode c_V_init 52 = .ok (.sipush 240, 3) := by decide +kernel
theorem d_V_init_55 : decode c_V_init 55 = .ok (.newarray .boolean, 2) := by decide +kernel
theorem d_V_init_57 : decode c_V_init 57 = .ok (.putfield 37, 3) := by decide +kernel
theorem d_V_init_60 : decode c_V_init 60 = .ok (.aload_n 0, 1) := by decide +kernel
theorem d_V_init_61 : decode c_V_init 61 = .ok (.iconst 3, 1) := by decide +kernel
theorem d_V_init_62 : decode c_V_init 62 = .ok (.newarray .int, 2) := by decide +kernel
theorem d_V_init_64 : decode c_V_init 64 = .ok (.dup, 1) := by decide +kernel
theorem d_V_init_65 : decode c_V_init 65 = .ok (.iconst 0, 1) := by decide +kernel
theorem d_V_init_66 : decode c_V_init 66 = .ok (.iconst (-1), 1) := by decide +kernel
theorem d_V_init_67 : decode c_V_init 67 = .ok (.iastore, 1) := by decide +kernel
theorem d_V_init_68 : decode c_V_init 68 = .ok (.dup, 1) := by decide +kernel
theorem d_V_init_69 : decode c_V_init 69 = .ok (.iconst 1, 1) := by decide +kernel
theorem d_V_init_70 : decode c_V_init 70 = .ok (.iconst (-1), 1) := by decide +kernel
theorem d_V_init_71 : decode c_V_init 71 = .ok (.iastore, 1) := by decide +kernel
theorem d_V_init_72 : decode c_V_init 72 = .ok (.dup, 1) := by decide +kernel
theorem d_V_init_73 : decode c_V_init 73 = .ok (.iconst 2, 1) := by decide +kernel
theorem d_V_init_74 : decode c_V_init 74 = .ok (.iconst (-1), 1) := by decide +kernel
theorem d_V_init_75 : decode c_V_init 75 = .ok (.iastore, 1) := by decide +kernel
theorem d_V_init_76 : decode c_V_init 76 = .ok (.putfield 41, 3) := by decide +kernel
theorem d_V_init_79 : decode c_V_init 79 = .ok (.return_, 1) := by decide +kernel
theorem d_J_fill_0 : decode c_J_fill 0 = .ok (.iconst 0, 1) := by decide +kernel
theorem d_J_fill_1 : decode c_J_fill 1 = .ok (.istore_n 2, 1) := by decide +kernel
theorem d_J_fill_2 : decode c_J_fill 2 = .ok (.aload_n 0, 1) := by decide +kernel
theorem d_J_fill_3 : decode c_J_fill 3 = .ok (.arraylength, 1) := by decide +kernel
theorem d_J_fill_4 : decode c_J_fill 4 = .ok (.istore_n 3, 1) := by decide +kernel
theorem d_J_fill_5 : decode c_J_fill 5 = .ok (.iload_n 2, 1) := by decide +kernel
theorem d_J_fill_6 : decode c_J_fill 6 = .ok (.iload_n 3, 1) := by decide +kernel
theorem d_J_fill_7 : decode c_J_fill 7 = .ok (.if_icmp .ge 13, 3) := by decide +kernel
theorem d_J_fill_10 : decode c_J_fill 10 = .ok (.aload_n 0, 1) := by decide +kernel
theorem d_J_fill_11 : decode c_J_fill 11 = .ok (.iload_n 2, 1) := by decide +kernel
theorem d_J_fill_12 : decode c_J_fill 12 = .ok (.iload_n 1, 1) := by decide +kernel
theorem d_J_fill_13 : decode c_J_fill 13 = .ok (.iastore, 1) := by decide +kernel
theorem d_J_fill_14 : decode c_J_fill 14 = .ok (.iinc 2 1, 3) := by decide +kernel
theorem d_J_fill_17 : decode c_J_fill 17 = .ok (.goto (-12), 3) := by decide +kernel
theorem d_J_fill_20 : decode c_J_fill 20 = .ok (.return_, 1) := by decide +kernel
theorem d_L_init_0 : decode c_L_init 0 = .ok (.aload_n 0, 1) := by decide +kernel
theorem d_L_init_1 : decode c_L_init 1 = .ok (.invokespecial 1, 3) := by decide +kernel
theorem d_L_init_4 : decode c_L_init 4 = .ok (.aload_n 0, 1) := by decide +kernel
theorem d_L_init_5 : decode c_L_init 5 = .ok (.new 7, 3) := by decide +kernel
theorem d_L_init_8 : decode c_L_init 8 = .ok (.dup, 1) := by decide +kernel
theorem d_L_init_9 : decode c_L_init 9 = .ok (.invokespecial 9, 3) := by decide +kernel
theorem d_L_init_12 : decode c_L_init 12 = .ok (.putfield 10, 3) := by decide +kernel
theorem d_L_init_15 : decode c_L_init 15 = .ok (.aload_n 0, 1) := by decide +kernel
theorem d_L_init_16 : decode c_L_init 16 = .ok (.new 16, 3) := by decide +kernel
theorem d_L_init_19 : decode c_L_init 19 = .ok (.dup, 1) := by decide +kernel
theorem d_L_init_20 : decode c_L_init 20 = .ok (.invokespecial 18, 3) := by decide +kernel
theorem d_L_init_23 : decode c_L_init 23 = .ok (.putfield 19, 3) := by decide +kernel
theorem d_L_init_26 : decode c_L_init 26 = .ok (.aload_n 0, 1) := by decide +kernel
theorem d_L_init_27 : decode c_L_init 27 = .ok (.new 23, 3) := by decide +kernel
theorem d_L_init_30 : decode c_L_init 30 = .ok (.dup, 1) := by decide +kernel
theorem d_L_init_31 : decode c_L_init 31 = .ok (.iconst 4, 1) := by decide +kernel
theorem d_L_init_32 : decode c_L_init 32 = .ok (.invokespecial 25, 3) := by decide +kernel
theorem d_L_init_35 : decode c_L_init 35 = .ok (.putfield 28, 3) := by decide +kernel
theorem d_L_init_38 : decode c_L_init 38 = .ok (.aload_n 0, 1) := by decide +kernel
theorem d_L_init_39 : decode c_L_init 39 = .ok (.iconst 4, 1) := by decide +kernel
theorem d_L_init_40 : decode c_L_init 40 = .ok (.newarray .int, 2) := by decide +kernel
theorem d_L_init_42 : decode c_L_init 42 = .ok (.putfield 32, 3) := by decide +kernel
theorem d_L_init_45 : decode c_L_init 45 = .ok (.aload_n 0, 1) := by decide +kernel
theorem d_L_init_46 : decode c_L_init 46 = .ok (.getfield 32, 3) := by decide +kernel
theorem d_L_init_49 : decode c_L_init 49 = .ok (.iconst (-1), 1) := by decide +kernel
theorem d_L_init_50 : decode c_L_init 50 = .ok (.invokestatic 36, 3) := by decide +kernel
theorem d_L_init_53 : decode c_L_init 53 = .ok (.return_, 1) := by decide +kernel
theorem d_L_sync_0 : decode c_L_sync 0 = .ok (.aload_n 0, 1) := by decide +kernel
theorem d_L_sync_1 : decode c_L_sync 1 = .ok (.getfield 10, 3) := by decide +kernel
theorem d_L_sync_4 : decode c_L_sync 4 = .ok (.aload_n 0, 1) := by decide +kernel
theorem d_L_sync_5 : decode c_L_sync 5 = .ok (.getfield 10, 3) := by decide +kernel
theorem d_L_sync_8 : decode c_L_sync 8 = .ok (.getfield 67, 3) := by decide +kernel
theorem d_L_sync_11 : decode c_L_sync 11 = .ok (.putfield 70, 3) := by decide +kernel
theorem d_L_sync_14 : decode c_L_sync 14 = .ok (.aload_n 0, 1) := by decide +kernel
theorem d_L_sync_15 : decode c_L_sync 15 = .ok (.getfield 10, 3) := by decide +kernel
theorem d_L_sync_18 : decode c_L_sync 18 = .ok (.getfield 70, 3) := by decide +kernel
theorem d_L_sync_21 : decode c_L_sync 21 = .ok (.ireturn, 1) := by decide +kernel
theorem d_S_clear_0 : decode c_S_clear 0 = .ok (.aload_n 0, 1) := by decide +kernel
theorem d_S_clear_1 : decode c_S_clear 1 = .ok (.getfield 14, 3) := by decide +kernel
theorem d_S_clear_4 : decode c_S_clear 4 = .ok (.iconst 0, 1) := by decide +kernel
theorem d_S_clear_5 : decode c_S_clear 5 = .ok (.putfield 30, 3) := by decide +kernel
theorem d_S_clear_8 : decode c_S_clear 8 = .ok (.aload_n 0, 1) := by decide +kernel
theorem d_S_clear_9 : decode c_S_clear 9 = .ok (.iconst 0, 1) := by decide +kernel
theorem d_S_clear_10 : decode c_S_clear 10 = .ok (.putfield 34, 3) := by decide +kernel
theorem d_S_clear_13 : decode c_S_clear 13 = .ok (.return_, 1) := by decide +kernel
theorem d_E_addFrom_0 : decode c_E_addFrom 0 = .ok (.aload_n 0, 1) := by decide +kernel
theorem d_E_addFrom_1 : decode c_E_addFrom 1 = .ok (.getfield 9, 3) := by decide +kernel
theorem d_E_addFrom_4 : decode c_E_addFrom 4 = .ok (.aload_n 0, 1) := by decide +kernel
theorem d_E_addFrom_5 : decode c_E_addFrom 5 = .ok (.getfield 28, 3) := by decide +kernel
theorem d_E_addFrom_8 : decode c_E_addFrom 8 = .ok (.aload_n 1, 1) := by decide +kernel
theorem d_E_addFrom_9 : decode c_E_addFrom 9 = .ok (.getfield 9, 3) := by decide +kernel
theorem d_E_addFrom_12 : decode c_E_addFrom 12 = .ok (.iload_n 2, 1) := by decide +kernel
theorem d_E_addFrom_13 : decode c_E_addFrom 13 = .ok (.iaload, 1) := by decide +kernel
theorem d_E_addFrom_14 : decode c_E_addFrom 14 = .ok (.iastore, 1) := by decide +kernel
theorem d_E_addFrom_15 : decode c_E_addFrom 15 = .ok (.aload_n 0, 1) := by decide +kernel
theorem d_E_addFrom_16 : decode c_E_addFrom 16 = .ok (.getfield 15, 3) := by decide +kernel
theorem d_E_addFrom_19 : decode c_E_addFrom 19 = .ok (.aload_n 0, 1) := by decide +kernel
theorem d_E_addFrom_20 : decode c_E_addFrom 20 = .ok (.getfield 28, 3) := by decide +kernel
theorem d_E_addFrom_23 : decode c_E_addFrom 23 = .ok (.aload_n 1, 1) := by decide +kernel
theorem d_E_addFrom_24 : decode c_E_addFrom 24 = .ok (.getfield 15, 3) := by decide +kernel
theorem d_E_addFrom_27 : decode c_E_addFrom 27 = .ok (.iload_n 2, 1) := by decide +kernel
theorem d_E_addFrom_28 : decode c_E_addFrom 28 = .ok (.iaload, 1) := by decide +kernel
theorem d_E_addFrom_29 : decode c_E_addFrom 29 = .ok (.iastore, 1) := by decide +kernel
theorem d_E_addFrom_30 : decode c_E_addFrom 30 = .ok (.aload_n 0, 1) := by decide +kernel
theorem d_E_addFrom_31 : decode c_E_addFrom 31 = .ok (.getfield 18, 3) := by decide +kernel
theorem d_E_addFrom_34 : decode c_E_addFrom 34 = .ok (.aload_n 0, 1) := by decide +kernel
theorem d_E_addFrom_35 : decode c_E_addFrom 35 = .ok (.getfield 28, 3) := by decide +kernel
theorem d_E_addFrom_38 : decode c_E_addFrom 38 = .ok (.aload_n 1, 1) := by decide +kernel
theorem d_E_addFrom_39 : decode c_E_addFrom 39 = .ok (.getfield 18, 3) := by decide +kernel
theorem d_E_addFrom_42 : decode c_E_addFrom 42 = .ok (.iload_n 2, 1) := by decide +kernel
theorem d_E_addFrom_43 : decode c_E_addFrom 43 = .ok (.iaload, 1) := by decide +kernel
theorem d_E_addFrom_44 : decode c_E_addFrom 44 = .ok (.iastore, 1) := by decide +kernel
theorem d_E_addFrom_45 : decode c_E_addFrom 45 = .ok (.aload_n 0, 1) := by decide +kernel
theorem d_E_addFrom_46 : decode c_E_addFrom 46 = .ok (.getfield 21, 3) := by decide +kernel
theorem d_E_addFrom_49 : decode c_E_addFrom 49 = .ok (.aload_n 0, 1) := by decide +kernel
theorem d_E_addFrom_50 : decode c_E_addFrom 50 = .ok (.getfield 28, 3) := by decide +kernel
theorem d_E_addFrom_53 : decode c_E_addFrom 53 = .ok (.aload_n 1, 1) := by decide +kernel
theorem d_E_addFrom_54 : decode c_E_addFrom 54 = .ok (.getfield 21, 3) := by decide +kernel
theorem d_E_addFrom_57 : decode c_E_addFrom 57 = .ok (.iload_n 2, 1) := by decide +kernel
theorem d_E_addFrom_58 : decode c_E_addFrom 58 = .ok (.baload, 1) := by decide +kernel
theorem d_E_addFrom_59 : decode c_E_addFrom 59 = .ok (.bastore, 1) := by decide +kernel
theorem d_E_addFrom_60 : decode c_E_addFrom 60 = .ok (.aload_n 0, 1) := by decide +kernel
theorem d_E_addFrom_61 : decode c_E_addFrom 61 = .ok (.getfield 25, 3) := by decide +kernel
theorem d_E_addFrom_64 : decode c_E_addFrom 64 = .ok (.aload_n 0, 1) := by decide +kernel
theorem d_E_addFrom_65 : decode c_E_addFrom 65 = .ok (.getfield 28, 3) := by decide +kernel
theorem d_E_addFrom_68 : decode c_E_addFrom 68 = .ok (.aload_n 1, 1) := by decide +kernel
theorem d_E_addFrom_69 : decode c_E_addFrom 69 = .ok (.getfield 25, 3) := by decide +kernel
theorem d_E_addFrom_72 : decode c_E_addFrom 72 = .ok (.iload_n 2, 1) := by decide +kernel
theorem d_E_addFrom_73 : decode c_E_addFrom 73 = .ok (.baload, 1) := by decide +kernel
theorem d_E_addFrom_74 : decode c_E_addFrom 74 = .ok (.bastore, 1) := by decide +kernel
theorem d_E_addFrom_75 : decode c_E_addFrom 75 = .ok (.aload_n 0, 1) := by decide +kernel
theorem d_E_addFrom_76 : decode c_E_addFrom 76 = .ok (.dup, 1) := by decide +kernel
theorem d_E_addFrom_77 : decode c_E_addFrom 77 = .ok (.getfield 28, 3) := by decide +kernel
theorem d_E_addFrom_80 : decode c_E_addFrom 80 = .ok (.iconst 1, 1) := by decide +kernel
theorem d_E_addFrom_81 : decode c_E_addFrom 81 = .ok (.iadd, 1) := by decide +kernel
theorem d_E_addFrom_82 : decode c_E_addFrom 82 = .ok (.putfield 28, 3) := by decide +kernel
theorem d_E_addFrom_85 : decode c_E_addFrom 85 = .ok (.return_, 1) := by decide +kernel
theorem d_S_hasLooseRows_0 : decode c_S_hasLooseRows 0 = .ok (.aload_n 0, 1) := by decide +kernel
theorem d_S_hasLooseRows_1 : decode c_S_hasLooseRows 1 = .ok (.getfield 14, 3) := by decide +kernel
theorem d_S_hasLooseRows_4 : decode c_S_hasLooseRows 4 = .ok (.getfield 30, 3) := by decide +kernel
theorem d_S_hasLooseRows_7 : decode c_S_hasLooseRows 7 = .ok (.aload_n 0, 1) := by decide +kernel
theorem d_S_hasLooseRows_8 : decode c_S_hasLooseRows 8 = .ok (.getfield 27, 3) := by decide +kernel
theorem d_S_hasLooseRows_11 : decode c_S_hasLooseRows 11 = .ok (.aload_n 0, 1) := by decide +kernel
theorem d_S_hasLooseRows_12 : decode c_S_hasLooseRows 12 = .ok (.getfield 34, 3) := by decide +kernel
theorem d_S_hasLooseRows_15 : decode c_S_hasLooseRows 15 = .ok (.iaload, 1) := by decide +kernel
theorem d_S_hasLooseRows_16 : decode c_S_hasLooseRows 16 = .ok (.if_icmp .le 7, 3) := by decide +kernel
theorem d_S_hasLooseRows_19 : decode c_S_hasLooseRows 19 = .ok (.iconst 1, 1) := by decide +kernel
theorem d_S_hasLooseRows_20 : decode c_S_hasLooseRows 20 = .ok (.goto 4, 3) := by decide +kernel
theorem d_S_hasLooseRows_23 : decode c_S_hasLooseRows 23 = .ok (.iconst 0, 1) := by decide +kernel
theorem d_S_hasLooseRows_24 : decode c_S_hasLooseRows 24 = .ok (.ireturn, 1) := by decide +kernel
theorem d_S_endTable_0 : decode c_S_endTable 0 = .ok (.aload_n 0, 1) := by decide +kernel
theorem d_S_endTable_1 : decode c_S_endTable 1 = .ok (.getfield 20, 3) := by decide +kernel
theorem d_S_endTable_4 : decode c_S_endTable 4 = .ok (.aload_n 0, 1) := by decide +kernel
theorem d_S_endTable_5 : decode c_S_endTable 5 = .ok (.getfield 34, 3) := by decide +kernel
theorem d_S_endTable_8 : decode c_S_endTable 8 = .ok (.iload_n 1, 1) := by decide +kernel
theorem d_S_endTable_9 : decode c_S_endTable 9 = .ok (.iastore, 1) := by decide +kernel
theorem d_S_endTable_10 : decode c_S_endTable 10 = .ok (.aload_n 0, 1) := by decide +kernel
theorem d_S_endTable_11 : decode c_S_endTable 11 = .ok (.getfield 24, 3) := by decide +kernel
theorem d_S_endTable_14 : decode c_S_endTable 14 = .ok (.aload_n 0, 1) := by decide +kernel
theorem d_S_endTable_15 : decode c_S_endTable 15 = .ok (.getfield 34, 3) := by decide +kernel
theorem d_S_endTable_18 : decode c_S_endTable 18 = .ok (.iload_n 2, 1) := by decide +kernel
theorem d_S_endTable_19 : decode c_S_endTable 19 = .ok (.iastore, 1) := by decide +kernel
theorem d_S_endTable_20 : decode c_S_endTable 20 = .ok (.aload_n 0, 1) := by decide +kernel
theorem d_S_endTable_21 : decode c_S_endTable 21 = .ok (.dup, 1) := by decide +kernel
theorem d_S_endTable_22 : decode c_S_endTable 22 = .ok (.getfield 34, 3) := by decide +kernel
theorem d_S_endTable_25 : decode c_S_endTable 25 = .ok (.iconst 1, 1) := by decide +kernel
theorem d_S_endTable_26 : decode c_S_endTable 26 = .ok (.iadd, 1) := by decide +kernel
theorem d_S_endTable_27 : decode c_S_endTable 27 = .ok (.putfield 34, 3) := by decide +kernel
theorem d_S_endTable_30 : decode c_S_endTable 30 = .ok (.aload_n 0, 1) := by decide +kernel
theorem d_S_endTable_31 : decode c_S_endTable 31 = .ok (.getfield 27, 3) := by decide +kernel
theorem d_S_endTable_34 : decode c_S_endTable 34 = .ok (.aload_n 0, 1) := by decide +kernel
theorem d_S_endTable_35 : decode c_S_endTable 35 = .ok (.getfield 34, 3) := by decide +kernel
theorem d_S_endTable_38 : decode c_S_endTable 38 = .ok (.aload_n 0, 1) := by decide +kernel
theorem d_S_endTable_39 : decode c_S_endTable 39 = .ok (.getfield 14, 3) := by decide +kernel
theorem d_S_endTable_42 : decode c_S_endTable 42 = .ok (.getfield 30, 3) := by decide +kernel
theorem d_S_endTable_45 : decode c_S_endTable 45 = .ok (.iastore, 1) := by decide +kernel
theorem d_S_endTable_46 : decode c_S_endTable 46 = .ok (.return_, 1) := by decide +kernel
theorem d_V_changeShelf_0 : decode c_V_changeShelf 0 = .ok (.aload_n 0, 1) := by decide +kernel
theorem d_V_changeShelf_1 : decode c_V_changeShelf 1 = .ok (.getfield 12, 3) := by decide +kernel
theorem d_V_changeShelf_4 : decode c_V_changeShelf 4 = .ok (.astore_n 1, 1) := by decide +kernel
theorem d_V_changeShelf_5 : decode c_V_changeShelf 5 = .ok (.aload_n 0, 1) := by decide +kernel
theorem d_V_changeShelf_6 : decode c_V_changeShelf 6 = .ok (.aload_n 0, 1) := by decide +kernel
theorem d_V_changeShelf_7 : decode c_V_changeShelf 7 = .ok (.getfield 18, 3) := by decide +kernel
theorem d_V_changeShelf_10 : decode c_V_changeShelf 10 = .ok (.putfield 12, 3) := by decide +kernel
theorem d_V_changeShelf_13 : decode c_V_changeShelf 13 = .ok (.aload_n 0, 1) := by decide +kernel
theorem d_V_changeShelf_14 : decode c_V_changeShelf 14 = .ok (.aload_n 1, 1) := by decide +kernel
theorem d_V_changeShelf_15 : decode c_V_changeShelf 15 = .ok (.putfield 18, 3) := by decide +kernel
theorem d_V_changeShelf_18 : decode c_V_changeShelf 18 = .ok (.return_, 1) := by decide +kernel
theorem d_V_loseSpoiled_0 : decode c_V_loseSpoiled 0 = .ok (.aload_n 0, 1) := by decide +kernel
theorem d_V_loseSpoiled_1 : decode c_V_loseSpoiled 1 = .ok (.getfield 18, 3) := by decide +kernel
theorem d_V_loseSpoiled_4 : decode c_V_loseSpoiled 4 = .ok (.invokevirtual 64, 3) := by decide +kernel
theorem d_V_loseSpoiled_7 : decode c_V_loseSpoiled 7 = .ok (.iconst 0, 1) := by decide +kernel
theorem d_V_loseSpoiled_8 : decode c_V_loseSpoiled 8 = .ok (.istore_n 1, 1) := by decide +kernel
theorem d_V_loseSpoiled_9 : decode c_V_loseSpoiled 9 = .ok (.iload_n 1, 1) := by decide +kernel
theorem d_V_loseSpoiled_10 : decode c_V_loseSpoiled 10 = .ok (.aload_n 0, 1) := by decide +kernel
theorem d_V_loseSpoiled_11 : decode c_V_loseSpoiled 11 = .ok (.getfield 12, 3) := by decide +kernel
theorem d_V_loseSpoiled_14 : decode c_V_loseSpoiled 14 = .ok (.getfield 77, 3) := by decide +kernel
theorem d_V_loseSpoiled_17 : decode c_V_loseSpoiled 17 = .ok (.if_icmp .ge 108, 3) := by decide +kernel
theorem d_V_loseSpoiled_20 : decode c_V_loseSpoiled 20 = .ok (.aload_n 0, 1) := by decide +kernel
theorem d_V_loseSpoiled_21 : decode c_V_loseSpoiled 21 = .ok (.getfield 12, 3) := by decide +kernel
theorem d_V_loseSpoiled_24 : decode c_V_loseSpoiled 24 = .ok (.getfield 87, 3) := by decide +kernel
theorem d_V_loseSpoiled_27 : decode c_V_loseSpoiled 27 = .ok (.iload_n 1, 1) := by decide +kernel
theorem d_V_loseSpoiled_28 : decode c_V_loseSpoiled 28 = .ok (.iaload, 1) := by decide +kernel
theorem d_V_loseSpoiled_29 : decode c_V_loseSpoiled 29 = .ok (.istore_n 2, 1) := by decide +kernel
theorem d_V_loseSpoiled_30 : decode c_V_loseSpoiled 30 = .ok (.iload_n 2, 1) := by decide +kernel
theorem d_V_loseSpoiled_31 : decode c_V_loseSpoiled 31 = .ok (.aload_n 0, 1) := by decide +kernel
theorem d_V_loseSpoiled_32 : decode c_V_loseSpoiled 32 = .ok (.getfield 12, 3) := by decide +kernel
theorem d_V_loseSpoiled_35 : decode c_V_loseSpoiled 35 = .ok (.getfield 87, 3) := by decide +kernel
theorem d_V_loseSpoiled_38 : decode c_V_loseSpoiled 38 = .ok (.iload_n 1, 1) := by decide +kernel
theorem d_V_loseSpoiled_39 : decode c_V_loseSpoiled 39 = .ok (.iconst 1, 1) := by decide +kernel
theorem d_V_loseSpoiled_40 : decode c_V_loseSpoiled 40 = .ok (.iadd, 1) := by decide +kernel
theorem d_V_loseSpoiled_41 : decode c_V_loseSpoiled 41 = .ok (.iaload, 1) := by decide +kernel
theorem d_V_loseSpoiled_42 : decode c_V_loseSpoiled 42 = .ok (.if_icmp .ge 42, 3) := by decide +kernel
theorem d_V_loseSpoiled_45 : decode c_V_loseSpoiled 45 = .ok (.aload_n 0, 1) := by decide +kernel
theorem d_V_loseSpoiled_46 : decode c_V_loseSpoiled 46 = .ok (.getfield 12, 3) := by decide +kernel
theorem d_V_loseSpoiled_49 : decode c_V_loseSpoiled 49 = .ok (.getfield 67, 3) := by decide +kernel
theorem d_V_loseSpoiled_52 : decode c_V_loseSpoiled 52 = .ok (.getfield 90, 3) := by decide +kernel
theorem d_V_loseSpoiled_55 : decode c_V_loseSpoiled 55 = .ok (.iload_n 2, 1) := by decide +kernel
theorem d_V_loseSpoiled_56 : decode c_V_loseSpoiled 56 = .ok (.baload, 1) := by decide +kernel
theorem d_V_loseSpoiled_57 : decode c_V_loseSpoiled 57 = .ok (.ifCond .ne 21, 3) := by decide +kernel
theorem d_V_loseSpoiled_60 : decode c_V_loseSpoiled 60 = .ok (.aload_n 0, 1) := by decide +kernel
theorem d_V_loseSpoiled_61 : decode c_V_loseSpoiled 61 = .ok (.getfield 18, 3) := by decide +kernel
theorem d_V_loseSpoiled_64 : decode c_V_loseSpoiled 64 = .ok (.getfield 67, 3) := by decide +kernel
theorem d_V_loseSpoiled_67 : decode c_V_loseSpoiled 67 = .ok (.aload_n 0, 1) := by decide +kernel
theorem d_V_loseSpoiled_68 : decode c_V_loseSpoiled 68 = .ok (.getfield 12, 3) := by decide +kernel
theorem d_V_loseSpoiled_71 : decode c_V_loseSpoiled 71 = .ok (.getfield 67, 3) := by decide +kernel
theorem d_V_loseSpoiled_74 : decode c_V_loseSpoiled 74 = .ok (.iload_n 2, 1) := by decide +kernel
theorem d_V_loseSpoiled_75 : decode c_V_loseSpoiled 75 = .ok (.invokevirtual 60, 3) := by decide +kernel
theorem d_V_loseSpoiled_78 : decode c_V_loseSpoiled 78 = .ok (.iinc 2 1, 3) := by decide +kernel
theorem d_V_loseSpoiled_81 : decode c_V_loseSpoiled 81 = .ok (.goto (-51), 3) := by decide +kernel
theorem d_V_loseSpoiled_84 : decode c_V_loseSpoiled 84 = .ok (.aload_n 0, 1) := by decide +kernel
theorem d_V_loseSpoiled_85 : decode c_V_loseSpoiled 85 = .ok (.getfield 18, 3) := by decide +kernel
theorem d_V_loseSpoiled_88 : decode c_V_loseSpoiled 88 = .ok (.invokevirtual 93, 3) := by decide +kernel
theorem d_V_loseSpoiled_91 : decode c_V_loseSpoiled 91 = .ok (.ifCond .eq 28, 3) := by decide +kernel
theorem d_V_loseSpoiled_94 : decode c_V_loseSpoiled 94 = .ok (.aload_n 0, 1) := by decide +kernel
theorem d_V_loseSpoiled_95 : decode c_V_loseSpoiled 95 = .ok (.getfield 18, 3) := by decide +kernel
theorem d_V_loseSpoiled_98 : decode c_V_loseSpoiled 98 = .ok (.aload_n 0, 1) := by decide +kernel
theorem d_V_loseSpoiled_99 : decode c_V_loseSpoiled 99 = .ok (.getfield 12, 3) := by decide +kernel
theorem d_V_loseSpoiled_102 : decode c_V_loseSpoiled 102 = .ok (.getfield 97, 3) := by decide +kernel
theorem d_V_loseSpoiled_105 : decode c_V_loseSpoiled 105 = .ok (.iload_n 1, 1) := by decide +kernel
theorem d_V_loseSpoiled_106 : decode c_V_loseSpoiled 106 = .ok (.iaload, 1) := by decide +kernel
theorem d_V_loseSpoiled_107 : decode c_V_loseSpoiled 107 = .ok (.aload_n 0, 1) := by decide +kernel
theorem d_V_loseSpoiled_108 : decode c_V_loseSpoiled 108 = .ok (.getfield 12, 3) := by decide +kernel
theorem d_V_loseSpoiled_111 : decode c_V_loseSpoiled 111 = .ok (.getfield 100, 3) := by decide +kernel
theorem d_V_loseSpoiled_114 : decode c_V_loseSpoiled 114 = .ok (.iload_n 1, 1) := by decide +kernel
theorem d_V_loseSpoiled_115 : decode c_V_loseSpoiled 115 = .ok (.iaload, 1) := by decide +kernel
theorem d_V_loseSpoiled_116 : decode c_V_loseSpoiled 116 = .ok (.invokevirtual 103, 3) := by decide +kernel
theorem d_V_loseSpoiled_119 : decode c_V_loseSpoiled 119 = .ok (.iinc 1 1, 3) := by decide +kernel
theorem d_V_loseSpoiled_122 : decode c_V_loseSpoiled 122 = .ok (.goto (-113), 3) := by decide +kernel
theorem d_V_loseSpoiled_125 : decode c_V_loseSpoiled 125 = .ok (.aload_n 0, 1) := by decide +kernel
theorem d_V_loseSpoiled_126 : decode c_V_loseSpoiled 126 = .ok (.getfield 12, 3) := by decide +kernel
theorem d_V_loseSpoiled_129 : decode c_V_loseSpoiled 129 = .ok (.getfield 67, 3) := by decide +kernel
theorem d_V_loseSpoiled_132 : decode c_V_loseSpoiled 132 = .ok (.getfield 56, 3) := by decide +kernel
theorem d_V_loseSpoiled_135 : decode c_V_loseSpoiled 135 = .ok (.aload_n 0, 1) := by decide +kernel
theorem d_V_loseSpoiled_136 : decode c_V_loseSpoiled 136 = .ok (.getfield 18, 3) := by decide +kernel
theorem d_V_loseSpoiled_139 : decode c_V_loseSpoiled 139 = .ok (.getfield 67, 3) := by decide +kernel
theorem d_V_loseSpoiled_142 : decode c_V_loseSpoiled 142 = .ok (.getfield 56, 3) := by decide +kernel
theorem d_V_loseSpoiled_145 : decode c_V_loseSpoiled 145 = .ok (.isub, 1) := by decide +kernel
theorem d_V_loseSpoiled_146 : decode c_V_loseSpoiled 146 = .ok (.istore_n 1, 1) := by decide +kernel
theorem d_V_loseSpoiled_147 : decode c_V_loseSpoiled 147 = .ok (.aload_n 0, 1) := by decide +kernel
theorem d_V_loseSpoiled_148 : decode c_V_loseSpoiled 148 = .ok (.invokevirtual 84, 3) := by decide +kernel
theorem d_V_loseSpoiled_151 : decode c_V_loseSpoiled 151 = .ok (.aload_n 0, 1) := by decide +kernel
theorem d_V_loseSpoiled_152 : decode c_V_loseSpoiled 152 = .ok (.iconst 0, 1) := by decide +kernel
theorem d_V_loseSpoiled_153 : decode c_V_loseSpoiled 153 = .ok (.putfield 45, 3) := by decide +kernel
theorem d_V_loseSpoiled_156 : decode c_V_loseSpoiled 156 = .ok (.iload_n 1, 1) := by decide +kernel
theorem d_V_loseSpoiled_157 : decode c_V_loseSpoiled 157 = .ok (.ireturn, 1) := by decide +kernel
theorem d_L_oldest_0 : decode c_L_oldest 0 = .ok (.aload_n 0, 1) := by decide +kernel
theorem d_L_oldest_1 : decode c_L_oldest 1 = .ok (.getfield 61, 3) := by decide +kernel
theorem d_L_oldest_4 : decode c_L_oldest 4 = .ok (.istore_n 1, 1) := by decide +kernel
theorem d_L_oldest_5 : decode c_L_oldest 5 = .ok (.iconst 0, 1) := by decide +kernel
theorem d_L_oldest_6 : decode c_L_oldest 6 = .ok (.istore_n 2, 1) := by decide +kernel
theorem d_L_oldest_7 : decode c_L_oldest 7 = .ok (.iload_n 2, 1) := by decide +kernel
theorem d_L_oldest_8 : decode c_L_oldest 8 = .ok (.iconst 4, 1) := by decide +kernel
theorem d_L_oldest_9 : decode c_L_oldest 9 = .ok (.if_icmp .ge 30, 3) := by decide +kernel
theorem d_L_oldest_12 : decode c_L_oldest 12 = .ok (.aload_n 0, 1) := by decide +kernel
theorem d_L_oldest_13 : decode c_L_oldest 13 = .ok (.getfield 32, 3) := by decide +kernel
theorem d_L_oldest_16 : decode c_L_oldest 16 = .ok (.iload_n 2, 1) := by decide +kernel
theorem d_L_oldest_17 : decode c_L_oldest 17 = .ok (.iaload, 1) := by decide +kernel
theorem d_L_oldest_18 : decode c_L_oldest 18 = .ok (.iconst (-1), 1) := by decide +kernel
theorem d_L_oldest_19 : decode c_L_oldest 19 = .ok (.if_icmp .eq 14, 3) := by decide +kernel
theorem d_L_oldest_22 : decode c_L_oldest 22 = .ok (.iload_n 1, 1) := by decide +kernel
theorem d_L_oldest_23 : decode c_L_oldest 23 = .ok (.aload_n 0, 1) := by decide +kernel
theorem d_L_oldest_24 : decode c_L_oldest 24 = .ok (.getfield 32, 3) := by decide +kernel
theorem d_L_oldest_27 : decode c_L_oldest 27 = .ok (.iload_n 2, 1) := by decide +kernel
theorem d_L_oldest_28 : decode c_L_oldest 28 = .ok (.iaload, 1) := by decide +kernel
theorem d_L_oldest_29 : decode c_L_oldest 29 = .ok (.invokestatic 199, 3) := by decide +kernel
theorem d_L_oldest_32 : decode c_L_oldest 32 = .ok (.istore_n 1, 1) := by decide +kernel
theorem d_L_oldest_33 : decode c_L_oldest 33 = .ok (.iinc 2 1, 3) := by decide +kernel
theorem d_L_oldest_36 : decode c_L_oldest 36 = .ok (.goto (-29), 3) := by decide +kernel
theorem d_L_oldest_39 : decode c_L_oldest 39 = .ok (.iload_n 1, 1) := by decide +kernel
theorem d_L_oldest_40 : decode c_L_oldest 40 = .ok (.ireturn, 1) := by decide +kernel
theorem d_S_tablesOn_0 : decode c_S_tablesOn 0 = .ok (.iconst 0, 1) := by decide +kernel
theorem d_S_tablesOn_1 : decode c_S_tablesOn 1 = .ok (.istore_n 2, 1) := by decide +kernel
theorem d_S_tablesOn_2 : decode c_S_tablesOn 2 = .ok (.iconst 0, 1) := by decide +kernel
theorem d_S_tablesOn_3 : decode c_S_tablesOn 3 = .ok (.istore_n 3, 1) := by decide +kernel
theorem d_S_tablesOn_4 : decode c_S_tablesOn 4 = .ok (.iload_n 3, 1) := by decide +kernel
theorem d_S_tablesOn_5 : decode c_S_tablesOn 5 = .ok (.aload_n 0, 1) := by decide +kernel
theorem d_S_tablesOn_6 : decode c_S_tablesOn 6 = .ok (.getfield 34, 3) := by decide +kernel
theorem d_S_tablesOn_9 : decode c_S_tablesOn 9 = .ok (.if_icmp .ge 22, 3) := by decide +kernel
theorem d_S_tablesOn_12 : decode c_S_tablesOn 12 = .ok (.aload_n 0, 1) := by decide +kernel
theorem d_S_tablesOn_13 : decode c_S_tablesOn 13 = .ok (.getfield 24, 3) := by decide +kernel
theorem d_S_tablesOn_16 : decode c_S_tablesOn 16 = .ok (.iload_n 3, 1) := by decide +kernel
theorem d_S_tablesOn_17 : decode c_S_tablesOn 17 = .ok (.iaload, 1) := by decide +kernel
theorem d_S_tablesOn_18 : decode c_S_tablesOn 18 = .ok (.iload_n 1, 1) := by decide +kernel
theorem d_S_tablesOn_19 : decode c_S_tablesOn 19 = .ok (.if_icmp .ne 6, 3) := by decide +kernel
theorem d_S_tablesOn_22 : decode c_S_tablesOn 22 = .ok (.iinc 2 1, 3) := by decide +kernel
theorem d_S_tablesOn_25 : decode c_S_tablesOn 25 = .ok (.iinc 3 1, 3) := by decide +kernel
theorem d_S_tablesOn_28 : decode c_S_tablesOn 28 = .ok (.goto (-24), 3) := by decide +kernel
theorem d_S_tablesOn_31 : decode c_S_tablesOn 31 = .ok (.iload_n 2, 1) := by decide +kernel
theorem d_S_tablesOn_32 : decode c_S_tablesOn 32 = .ok (.ireturn, 1) := by decide +kernel
theorem d_V_fullLevel_0 : decode c_V_fullLevel 0 = .ok (.aload_n 0, 1) := by decide +kernel
theorem d_V_fullLevel_1 : decode c_V_fullLevel 1 = .ok (.getfield 12, 3) := by decide +kernel
theorem d_V_fullLevel_4 : decode c_V_fullLevel 4 = .ok (.iconst 0, 1) := by decide +kernel
theorem d_V_fullLevel_5 : decode c_V_fullLevel 5 = .ok (.invokevirtual 49, 3) := by decide +kernel
theorem d_V_fullLevel_8 : decode c_V_fullLevel 8 = .ok (.iconst 4, 1) := by decide +kernel
theorem d_V_fullLevel_9 : decode c_V_fullLevel 9 = .ok (.if_icmp .lt 5, 3) := by decide +kernel
theorem d_V_fullLevel_12 : decode c_V_fullLevel 12 = .ok (.iconst 0, 1) := by decide +kernel
theorem d_V_fullLevel_13 : decode c_V_fullLevel 13 = .ok (.ireturn, 1) := by decide +kernel
theorem d_V_fullLevel_14 : decode c_V_fullLevel 14 = .ok (.iconst 1, 1) := by decide +kernel
theorem d_V_fullLevel_15 : decode c_V_fullLevel 15 = .ok (.istore_n 1, 1) := by decide +kernel
theorem d_V_fullLevel_16 : decode c_V_fullLevel 16 = .ok (.iload_n 1, 1) := by decide +kernel
theorem d_V_fullLevel_17 : decode c_V_fullLevel 17 = .ok (.iconst 3, 1) := by decide +kernel
theorem d_V_fullLevel_18 : decode c_V_fullLevel 18 = .ok (.if_icmp .ge 27, 3) := by decide +kernel
theorem d_V_fullLevel_21 : decode c_V_fullLevel 21 = .ok (.aload_n 0, 1) := by decide +kernel
theorem d_V_fullLevel_22 : decode c_V_fullLevel 22 = .ok (.getfield 12, 3) := by decide +kernel
theorem d_V_fullLevel_25 : decode c_V_fullLevel 25 = .ok (.iload_n 1, 1) := by decide +kernel
theorem d_V_fullLevel_26 : decode c_V_fullLevel 26 = .ok (.invokevirtual 49, 3) := by decide +kernel
theorem d_V_fullLevel_29 : decode c_V_fullLevel 29 = .ok (.iconst 2, 1) := by decide +kernel
theorem d_V_fullLevel_30 : decode c_V_fullLevel 30 = .ok (.iload_n 1, 1) := by decide +kernel
theorem d_V_fullLevel_31 : decode c_V_fullLevel 31 = .ok (.imul, 1) := by decide +kernel
theorem d_V_fullLevel_32 : decode c_V_fullLevel 32 = .ok (.iconst 1, 1) := by decide +kernel
theorem d_V_fullLevel_33 : decode c_V_fullLevel 33 = .ok (.iadd, 1) := by decide +kernel
theorem d_V_fullLevel_34 : decode c_V_fullLevel 34 = .ok (.if_icmp .le 5, 3) := by decide +kernel
theorem d_V_fullLevel_37 : decode c_V_fullLevel 37 = .ok (.iload_n 1, 1) := by decide +kernel
theorem d_V_fullLevel_38 : decode c_V_fullLevel 38 = .ok (.ireturn, 1) := by decide +kernel
theorem d_V_fullLevel_39 : decode c_V_fullLevel 39 = .ok (.iinc 1 1, 3) := by decide +kernel
theorem d_V_fullLevel_42 : decode c_V_fullLevel 42 = .ok (.goto (-26), 3) := by decide +kernel
theorem d_V_fullLevel_45 : decode c_V_fullLevel 45 = .ok (.iconst (-1), 1) := by decide +kernel
theorem d_V_fullLevel_46 : decode c_V_fullLevel 46 = .ok (.ireturn, 1) := by decide +kernel
theorem d_S_leastKey_0 : decode c_S_leastKey 0 = .ok (.aload_n 0, 1) := by decide +kernel
theorem d_S_leastKey_1 : decode c_S_leastKey 1 = .ok (.getfield 14, 3) := by decide +kernel
theorem d_S_leastKey_4 : decode c_S_leastKey 4 = .ok (.getfield 45, 3) := by decide +kernel
theorem d_S_leastKey_7 : decode c_S_leastKey 7 = .ok (.aload_n 0, 1) := by decide +kernel
theorem d_S_leastKey_8 : decode c_S_leastKey 8 = .ok (.getfield 27, 3) := by decide +kernel
theorem d_S_leastKey_11 : decode c_S_leastKey 11 = .ok (.iload_n 1, 1) := by decide +kernel
theorem d_S_leastKey_12 : decode c_S_leastKey 12 = .ok (.iaload, 1) := by decide +kernel
theorem d_S_leastKey_13 : decode c_S_leastKey 13 = .ok (.iaload, 1) := by decide +kernel
theorem d_S_leastKey_14 : decode c_S_leastKey 14 = .ok (.ireturn, 1) := by decide +kernel
theorem d_S_firstAbove_0 : decode c_S_firstAbove 0 = .ok (.iconst (-1), 1) := by decide +kernel
theorem d_S_firstAbove_1 : decode c_S_firstAbove 1 = .ok (.istore_n 3, 1) := by decide +kernel
theorem d_S_firstAbove_2 : decode c_S_firstAbove 2 = .ok (.iconst 0, 1) := by decide +kernel
theorem d_S_firstAbove_3 : decode c_S_firstAbove 3 = .ok (.istore 4, 2) := by decide +kernel
theorem d_S_firstAbove_5 : decode c_S_firstAbove 5 = .ok (.iload 4, 2) := by decide +kernel
theorem d_S_firstAbove_7 : decode c_S_firstAbove 7 = .ok (.aload_n 0, 1) := by decide +kernel
theorem d_S_firstAbove_8 : decode c_S_firstAbove 8 = .ok (.getfield 34, 3) := by decide +kernel
theorem d_S_firstAbove_11 : decode c_S_firstAbove 11 = .ok (.if_icmp .ge 45, 3) := by decide +kernel
theorem d_S_firstAbove_14 : decode c_S_firstAbove 14 = .ok (.aload_n 0, 1) := by decide +kernel
theorem d_S_firstAbove_15 : decode c_S_firstAbove 15 = .ok (.getfield 24, 3) := by decide +kernel
theorem d_S_firstAbove_18 : decode c_S_firstAbove 18 = .ok (.iload 4, 2) := by decide +kernel
theorem d_S_firstAbove_20 : decode c_S_firstAbove 20 = .ok (.iaload, 1) := by decide +kernel
theorem d_S_firstAbove_21 : decode c_S_firstAbove 21 = .ok (.iload_n 1, 1) := by decide +kernel
theorem d_S_firstAbove_22 : decode c_S_firstAbove 22 = .ok (.if_icmp .ne 28, 3) := by decide +kernel
theorem d_S_firstAbove_25 : decode c_S_firstAbove 25 = .ok (.aload_n 0, 1) := by decide +kernel
theorem d_S_firstAbove_26 : decode c_S_firstAbove 26 = .ok (.iload 4, 2) := by decide +kernel
theorem d_S_firstAbove_28 : decode c_S_firstAbove 28 = .ok (.invokevirtual 48, 3) := by decide +kernel
theorem d_S_firstAbove_31 : decode c_S_firstAbove 31 = .ok (.iload_n 2, 1) := by decide +kernel
theorem d_S_firstAbove_32 : decode c_S_firstAbove 32 = .ok (.if_icmp .le 6, 3) := by decide +kernel
theorem d_S_firstAbove_35 : decode c_S_firstAbove 35 = .ok (.iload 4, 2) := by decide +kernel
theorem d_S_firstAbove_37 : decode c_S_firstAbove 37 = .ok (.ireturn, 1) := by decide +kernel
theorem d_S_firstAbove_38 : decode c_S_firstAbove 38 = .ok (.iload_n 3, 1) := by decide +kernel
theorem d_S_firstAbove_39 : decode c_S_firstAbove 39 = .ok (.iconst (-1), 1) := by decide +kernel
theorem d_S_firstAbove_40 : decode c_S_firstAbove 40 = .ok (.if_icmp .ne 8, 3) := by decide +kernel
theorem d_S_firstAbove_43 : decode c_S_firstAbove 43 = .ok (.iload 4, 2) := by decide +kernel
theorem d_S_firstAbove_45 : decode c_S_firstAbove 45 = .ok (.goto 4, 3) := by decide +kernel
theorem d_S_firstAbove_48 : decode c_S_firstAbove 48 = .ok (.iload_n 3, 1) := by decide +kernel
theorem d_S_firstAbove_49 : decode c_S_firstAbove 49 = .ok (.istore_n 3, 1) := by decide +kernel
theorem d_S_firstAbove_50 : decode c_S_firstAbove 50 = .ok (.iinc 4 1, 3) := by decide +kernel
theorem d_S_firstAbove_53 : decode c_S_firstAbove 53 = .ok (.goto (-48), 3) := by decide +kernel
theorem d_S_firstAbove_56 : decode c_S_firstAbove 56 = .ok (.iload_n 3, 1) := by decide +kernel
theorem d_S_firstAbove_57 : decode c_S_firstAbove 57 = .ok (.ireturn, 1) := by decide +kernel
theorem d_S_greatestKey_0 : decode c_S_greatestKey 0 = .ok (.aload_n 0, 1) := by decide +kernel
theorem d_S_greatestKey_1 : decode c_S_greatestKey 1 = .ok (.getfield 14, 3) := by decide +kernel
theorem d_S_greatestKey_4 : decode c_S_greatestKey 4 = .ok (.getfield 45, 3) := by decide +kernel
theorem d_S_greatestKey_7 : decode c_S_greatestKey 7 = .ok (.aload_n 0, 1) := by decide +kernel
theorem d_S_greatestKey_8 : decode c_S_greatestKey 8 = .ok (.getfield 27, 3) := by decide +kernel
theorem d_S_greatestKey_11 : decode c_S_greatestKey 11 = .ok (.iload_n 1, 1) := by decide +kernel
theorem d_S_greatestKey_12 : decode c_S_greatestKey 12 = .ok (.iconst 1, 1) := by decide +kernel
theorem d_S_greatestKey_13 : decode c_S_greatestKey 13 = .ok (.iadd, 1) := by decide +kernel
theorem d_S_greatestKey_14 : decode c_S_greatestKey 14 = .ok (.iaload, 1) := by decide +kernel
theorem d_S_greatestKey_15 : decode c_S_greatestKey 15 = .ok (.iconst 1, 1) := by decide +kernel
theorem d_S_greatestKey_16 : decode c_S_greatestKey 16 = .ok (.isub, 1) := by decide +kernel
theorem d_S_greatestKey_17 : decode c_S_greatestKey 17 = .ok (.iaload, 1) := by decide +kernel
theorem d_S_greatestKey_18 : decode c_S_greatestKey 18 = .ok (.ireturn, 1) := by decide +kernel
theorem d_S_meets_0 : decode c_S_meets 0 = .ok (.aload_n 0, 1) := by decide +kernel
theorem d_S_meets_1 : decode c_S_meets 1 = .ok (.iload_n 1, 1) := by decide +kernel
theorem d_S_meets_2 : decode c_S_meets 2 = .ok (.invokevirtual 48, 3) := by decide +kernel
theorem d_S_meets_5 : decode c_S_meets 5 = .ok (.iload_n 3, 1) := by decide +kernel
theorem d_S_meets_6 : decode c_S_meets 6 = .ok (.if_icmp .gt 16, 3) := by decide +kernel
theorem d_S_meets_9 : decode c_S_meets 9 = .ok (.aload_n 0, 1) := by decide +kernel
theorem d_S_meets_10 : decode c_S_meets 10 = .ok (.iload_n 1, 1) := by decide +kernel
theorem d_S_meets_11 : decode c_S_meets 11 = .ok (.invokevirtual 52, 3) := by decide +kernel
theorem d_S_meets_14 : decode c_S_meets 14 = .ok (.iload_n 2, 1) := by decide +kernel
theorem d_S_meets_15 : decode c_S_meets 15 = .ok (.if_icmp .lt 7, 3) := by decide +kernel
theorem d_S_meets_18 : decode c_S_meets 18 = .ok (.iconst 1, 1) := by decide +kernel
theorem d_S_meets_19 : decode c_S_meets 19 = .ok (.goto 4, 3) := by decide +kernel
theorem d_S_meets_22 : decode c_S_meets 22 = .ok (.iconst 0, 1) := by decide +kernel
theorem d_S_meets_23 : decode c_S_meets 23 = .ok (.ireturn, 1) := by decide +kernel
theorem d_S_spoiledBlocksOf_0 : decode c_S_spoiledBlocksOf 0 = .ok (.iconst 0, 1) := by decide +kernel
theorem d_S_spoiledBlocksOf_1 : decode c_S_spoiledBlocksOf 1 = .ok (.istore_n 2, 1) := by decide +kernel
theorem d_S_spoiledBlocksOf_2 : decode c_S_spoiledBlocksOf 2 = .ok (.aload_n 0, 1) := by decide +kernel
theorem d_S_spoiledBlocksOf_3 : decode c_S_spoiledBlocksOf 3 = .ok (.getfield 27, 3) := by decide +kernel
theorem d_S_spoiledBlocksOf_6 : decode c_S_spoiledBlocksOf 6 = .ok (.iload_n 1, 1) := by decide +kernel
theorem d_S_spoiledBlocksOf_7 : decode c_S_spoiledBlocksOf 7 = .ok (.iaload, 1) := by decide +kernel
theorem d_S_spoiledBlocksOf_8 : decode c_S_spoiledBlocksOf 8 = .ok (.istore_n 3, 1) := by decide +kernel
theorem d_S_spoiledBlocksOf_9 : decode c_S_spoiledBlocksOf 9 = .ok (.iload_n 3, 1) := by decide +kernel
theorem d_S_spoiledBlocksOf_10 : decode c_S_spoiledBlocksOf 10 = .ok (.aload_n 0, 1) := by decide +kernel
theorem d_S_spoiledBlocksOf_11 : decode c_S_spoiledBlocksOf 11 = .ok (.getfield 27, 3) := by decide +kernel
theorem d_S_spoiledBlocksOf_14 : decode c_S_spoiledBlocksOf 14 = .ok (.iload_n 1, 1) := by decide +kernel
theorem d_S_spoiledBlocksOf_15 : decode c_S_spoiledBlocksOf 15 = .ok (.iconst 1, 1) := by decide +kernel
theorem d_S_spoiledBlocksOf_16 : decode c_S_spoiledBlocksOf 16 = .ok (.iadd, 1) := by decide +kernel
theorem d_S_spoiledBlocksOf_17 : decode c_S_spoiledBlocksOf 17 = .ok (.iaload, 1) := by decide +kernel
theorem d_S_spoiledBlocksOf_18 : decode c_S_spoiledBlocksOf 18 = .ok (.if_icmp .ge 24, 3) := by decide +kernel
theorem d_S_spoiledBlocksOf_21 : decode c_S_spoiledBlocksOf 21 = .ok (.aload_n 0, 1) := by decide +kernel
theorem d_S_spoiledBlocksOf_22 : decode c_S_spoiledBlocksOf 22 = .ok (.getfield 14, 3) := by decide +kernel
theorem d_S_spoiledBlocksOf_25 : decode c_S_spoiledBlocksOf 25 = .ok (.getfield 59, 3) := by decide +kernel
theorem d_S_spoiledBlocksOf_28 : decode c_S_spoiledBlocksOf 28 = .ok (.iload_n 3, 1) := by decide +kernel
theorem d_S_spoiledBlocksOf_29 : decode c_S_spoiledBlocksOf 29 = .ok (.baload, 1) := by decide +kernel
theorem d_S_spoiledBlocksOf_30 : decode c_S_spoiledBlocksOf 30 = .ok (.ifCond .eq 6, 3) := by decide +kernel
theorem d_S_spoiledBlocksOf_33 : decode c_S_spoiledBlocksOf 33 = .ok (.iinc 2 1, 3) := by decide +kernel
theorem d_S_spoiledBlocksOf_36 : decode c_S_spoiledBlocksOf 36 = .ok (.iinc 3 4, 3) := by decide +kernel
theorem d_S_spoiledBlocksOf_39 : decode c_S_spoiledBlocksOf 39 = .ok (.goto (-30), 3) := by decide +kernel
theorem d_S_spoiledBlocksOf_42 : decode c_S_spoiledBlocksOf 42 = .ok (.iload_n 2, 1) := by decide +kernel
theorem d_S_spoiledBlocksOf_43 : decode c_S_spoiledBlocksOf 43 = .ok (.ireturn, 1) := by decide +kernel
theorem d_O_addSorted_0 : decode c_O_addSorted 0 = .ok (.aload_n 0, 1) := by decide +kernel
theorem d_O_addSorted_1 : decode c_O_addSorted 1 = .ok (.getfield 20, 3) := by decide +kernel
theorem d_O_addSorted_4 : decode c_O_addSorted 4 = .ok (.iconst 0, 1) := by decide +kernel
theorem d_O_addSorted_5 : decode c_O_addSorted 5 = .ok (.invokestatic 27, 3) := by decide +kernel
theorem d_O_addSorted_8 : decode c_O_addSorted 8 = .ok (.iconst 0, 1) := by decide +kernel
theorem d_O_addSorted_9 : decode c_O_addSorted 9 = .ok (.istore_n 2, 1) := by decide +kernel
theorem d_O_addSorted_10 : decode c_O_addSorted 10 = .ok (.iload_n 2, 1) := by decide +kernel
theorem d_O_addSorted_11 : decode c_O_addSorted 11 = .ok (.aload_n 0, 1) := by decide +kernel
theorem d_O_addSorted_12 : decode c_O_addSorted 12 = .ok (.getfield 14, 3) := by decide +kernel
theorem d_O_addSorted_15 : decode c_O_addSorted 15 = .ok (.getfield 33, 3) := by decide +kernel
theorem d_O_addSorted_18 : decode c_O_addSorted 18 = .ok (.if_icmp .ge 29, 3) := by decide +kernel
theorem d_O_addSorted_21 : decode c_O_addSorted 21 = .ok (.aload_n 0, 1) := by decide +kernel
theorem d_O_addSorted_22 : decode c_O_addSorted 22 = .ok (.getfield 20, 3) := by decide +kernel
theorem d_O_addSorted_25 : decode c_O_addSorted 25 = .ok (.aload_n 0, 1) := by decide +kernel
theorem d_O_addSorted_26 : decode c_O_addSorted 26 = .ok (.getfield 14, 3) := by decide +kernel
theorem d_O_addSorted_29 : decode c_O_addSorted 29 = .ok (.getfield 37, 3) := by decide +kernel
theorem d_O_addSorted_32 : decode c_O_addSorted 32 = .ok (.iload_n 2, 1) := by decide +kernel
theorem d_O_addSorted_33 : decode c_O_addSorted 33 = .ok (.iaload, 1) := by decide +kernel
theorem d_O_addSorted_34 : decode c_O_addSorted 34 = .ok (.iconst 1, 1) := by decide +kernel
theorem d_O_addSorted_35 : decode c_O_addSorted 35 = .ok (.iadd, 1) := by decide +kernel
theorem d_O_addSorted_36 : decode c_O_addSorted 36 = .ok (.dup2, 1) := by decide +kernel
theorem d_O_addSorted_37 : decode c_O_addSorted 37 = .ok (.iaload, 1) := by decide +kernel
theorem d_O_addSorted_38 : decode c_O_addSorted 38 = .ok (.iconst 1, 1) := by decide +kernel
theorem d_O_addSorted_39 : decode c_O_addSorted 39 = .ok (.iadd, 1) := by decide +kernel
theorem d_O_addSorted_40 : decode c_O_addSorted 40 = .ok (.iastore, 1) := by decide +kernel
theorem d_O_addSorted_41 : decode c_O_addSorted 41 = .ok (.iinc 2 1, 3) := by decide +kernel
theorem d_O_addSorted_44 : decode c_O_addSorted 44 = .ok (.goto (-34), 3) := by decide +kernel
theorem d_O_addSorted_47 : decode c_O_addSorted 47 = .ok (.iconst 0, 1) := by decide +kernel
theorem d_O_addSorted_48 : decode c_O_addSorted 48 = .ok (.istore_n 2, 1) := by decide +kernel
theorem d_O_addSorted_49 : decode c_O_addSorted 49 = .ok (.iload_n 2, 1) := by decide +kernel
theorem d_O_addSorted_50 : decode c_O_addSorted 50 = .ok (.bipush 64, 2) := by decide +kernel
theorem d_O_addSorted_52 : decode c_O_addSorted 52 = .ok (.if_icmp .ge 26, 3) := by decide +kernel
theorem d_O_addSorted_55 : decode c_O_addSorted 55 = .ok (.aload_n 0, 1) := by decide +kernel
theorem d_O_addSorted_56 : decode c_O_addSorted 56 = .ok (.getfield 20, 3) := by decide +kernel
theorem d_O_addSorted_59 : decode c_O_addSorted 59 = .ok (.iload_n 2, 1) := by decide +kernel
theorem d_O_addSorted_60 : decode c_O_addSorted 60 = .ok (.iconst 1, 1) := by decide +kernel
theorem d_O_addSorted_61 : decode c_O_addSorted 61 = .ok (.iadd, 1) := by decide +kernel
theorem d_O_addSorted_62 : decode c_O_addSorted 62 = .ok (.dup2, 1) := by decide +kernel
theorem d_O_addSorted_63 : decode c_O_addSorted 63 = .ok (.iaload, 1) := by decide +kernel
theorem d_O_addSorted_64 : decode c_O_addSorted 64 = .ok (.aload_n 0, 1) := by decide +kernel
theorem d_O_addSorted_65 : decode c_O_addSorted 65 = .ok (.getfield 20, 3) := by decide +kernel
theorem d_O_addSorted_68 : decode c_O_addSorted 68 = .ok (.iload_n 2, 1) := by decide +kernel
theorem d_O_addSorted_69 : decode c_O_addSorted 69 = .ok (.iaload, 1) := by decide +kernel
theorem d_O_addSorted_70 : decode c_O_addSorted 70 = .ok (.iadd, 1) := by decide +kernel
theorem d_O_addSorted_71 : decode c_O_addSorted 71 = .ok (.iastore, 1) := by decide +kernel
theorem d_O_addSorted_72 : decode c_O_addSorted 72 = .ok (.iinc 2 1, 3) := by decide +kernel
theorem d_O_addSorted_75 : decode c_O_addSorted 75 = .ok (.goto (-26), 3) := by decide +kernel
theorem d_O_addSorted_78 : decode c_O_addSorted 78 = .ok (.iconst 0, 1) := by decide +kernel
theorem d_O_addSorted_79 : decode c_O_addSorted 79 = .ok (.istore_n 2, 1) := by decide +kernel
theorem d_O_addSorted_80 : decode c_O_addSorted 80 = .ok (.iload_n 2, 1) := by decide +kernel
theorem d_O_addSorted_81 : decode c_O_addSorted 81 = .ok (.aload_n 0, 1) := by decide +kernel
theorem d_O_addSorted_82 : decode c_O_addSorted 82 = .ok (.getfield 14, 3) := by decide +kernel
theorem d_O_addSorted_85 : decode c_O_addSorted 85 = .ok (.getfield 33, 3) := by decide +kernel
theorem d_O_addSorted_88 : decode c_O_addSorted 88 = .ok (.if_icmp .ge 41, 3) := by decide +kernel
theorem d_O_addSorted_91 : decode c_O_addSorted 91 = .ok (.aload_n 0, 1) := by decide +kernel
theorem d_O_addSorted_92 : decode c_O_addSorted 92 = .ok (.getfield 14, 3) := by decide +kernel
theorem d_O_addSorted_95 : decode c_O_addSorted 95 = .ok (.getfield 37, 3) := by decide +kernel
theorem d_O_addSorted_98 : decode c_O_addSorted 98 = .ok (.iload_n 2, 1) := by decide +kernel
theorem d_O_addSorted_99 : decode c_O_addSorted 99 = .ok (.iaload, 1) := by decide +kernel
theorem d_O_addSorted_100 : decode c_O_addSorted 100 = .ok (.istore_n 3, 1) := by decide +kernel
theorem d_O_addSorted_101 : decode c_O_addSorted 101 = .ok (.aload_n 0, 1) := by decide +kernel
theorem d_O_addSorted_102 : decode c_O_addSorted 102 = .ok (.getfield 24, 3) := by decide +kernel
theorem d_O_addSorted_105 : decode c_O_addSorted 105 = .ok (.aload_n 0, 1) := by decide +kernel
theorem d_O_addSorted_106 : decode c_O_addSorted 106 = .ok (.getfield 20, 3) := by decide +kernel
theorem d_O_addSorted_109 : decode c_O_addSorted 109 = .ok (.iload_n 3, 1) := by decide +kernel
theorem d_O_addSorted_110 : decode c_O_addSorted 110 = .ok (.iaload, 1) := by decide +kernel
theorem d_O_addSorted_111 : decode c_O_addSorted 111 = .ok (.iload_n 2, 1) := by decide +kernel
theorem d_O_addSorted_112 : decode c_O_addSorted 112 = .ok (.iastore, 1) := by decide +kernel
theorem d_O_addSorted_113 : decode c_O_addSorted 113 = .ok (.aload_n 0, 1) := by decide +kernel
theorem d_O_addSorted_114 : decode c_O_addSorted 114 = .ok (.getfield 20, 3) := by decide +kernel
theorem d_O_addSorted_117 : decode c_O_addSorted 117 = .ok (.iload_n 3, 1) := by decide +kernel
theorem d_O_addSorted_118 : decode c_O_addSorted 118 = .ok (.dup2, 1) := by decide +kernel
theorem d_O_addSorted_119 : decode c_O_addSorted 119 = .ok (.iaload, 1) := by decide +kernel
theorem d_O_addSorted_120 : decode c_O_addSorted 120 = .ok (.iconst 1, 1) := by decide +kernel
