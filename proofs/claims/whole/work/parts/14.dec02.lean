/-! DECODED INSTRUCTIONS -/
theorem d_L_addToPending_46 : decode c_L_addToPending 46 = .ok (.iconst 0, 1) := by decide +kernel
theorem d_L_addToPending_47 : decode c_L_addToPending 47 = .ok (.iload_n 2, 1) := by decide +kernel
theorem d_L_addToPending_48 : decode c_L_addToPending 48 = .ok (.iload_n 3, 1) := by decide +kernel
theorem d_L_addToPending_49 : decode c_L_addToPending 49 = .ok (.invokevirtual 202, 3) := by decide +kernel
theorem d_L_addToPending_52 : decode c_L_addToPending 52 = .ok (.return_, 1) := by decide +kernel
theorem d_V_isBlocked_0 : decode c_V_isBlocked 0 = .ok (.aload_n 0, 1) := by decide +kernel
theorem d_V_isBlocked_1 : decode c_V_isBlocked 1 = .ok (.getfield 45, 3) := by decide +kernel
theorem d_V_isBlocked_4 : decode c_V_isBlocked 4 = .ok (.ifCond .eq 20, 3) := by decide +kernel
theorem d_V_isBlocked_7 : decode c_V_isBlocked 7 = .ok (.aload_n 0, 1) := by decide +kernel
theorem d_V_isBlocked_8 : decode c_V_isBlocked 8 = .ok (.getfield 12, 3) := by decide +kernel
theorem d_V_isBlocked_11 : decode c_V_isBlocked 11 = .ok (.iconst 0, 1) := by decide +kernel
theorem d_V_isBlocked_12 : decode c_V_isBlocked 12 = .ok (.invokevirtual 49, 3) := by decide +kernel
theorem d_V_isBlocked_15 : decode c_V_isBlocked 15 = .ok (.bipush 8, 2) := by decide +kernel
theorem d_V_isBlocked_17 : decode c_V_isBlocked 17 = .ok (.if_icmp .lt 7, 3) := by decide +kernel
theorem d_V_isBlocked_20 : decode c_V_isBlocked 20 = .ok (.iconst 1, 1) := by decide +kernel
theorem d_V_isBlocked_21 : decode c_V_isBlocked 21 = .ok (.goto 4, 3) := by decide +kernel
theorem d_V_isBlocked_24 : decode c_V_isBlocked 24 = .ok (.iconst 0, 1) := by decide +kernel
theorem d_V_isBlocked_25 : decode c_V_isBlocked 25 = .ok (.ireturn, 1) := by decide +kernel
theorem d_M_addRecord_0 : decode c_M_addRecord 0 = .ok (.iconst 0, 1) := by decide +kernel
theorem d_M_addRecord_1 : decode c_M_addRecord 1 = .ok (.istore_n 3, 1) := by decide +kernel
theorem d_M_addRecord_2 : decode c_M_addRecord 2 = .ok (.iload_n 3, 1) := by decide +kernel
theorem d_M_addRecord_3 : decode c_M_addRecord 3 = .ok (.aload_n 1, 1) := by decide +kernel
theorem d_M_addRecord_4 : decode c_M_addRecord 4 = .ok (.getfield 24, 3) := by decide +kernel
theorem d_M_addRecord_7 : decode c_M_addRecord 7 = .ok (.if_icmp .ge 39, 3) := by decide +kernel
theorem d_M_addRecord_10 : decode c_M_addRecord 10 = .ok (.aload_n 0, 1) := by decide +kernel
theorem d_M_addRecord_11 : decode c_M_addRecord 11 = .ok (.getfield 14, 3) := by decide +kernel
theorem d_M_addRecord_14 : decode c_M_addRecord 14 = .ok (.aload_n 1, 1) := by decide +kernel
theorem d_M_addRecord_15 : decode c_M_addRecord 15 = .ok (.getfield 28, 3) := by decide +kernel
theorem d_M_addRecord_18 : decode c_M_addRecord 18 = .ok (.iload_n 3, 1) := by decide +kernel
theorem d_M_addRecord_19 : decode c_M_addRecord 19 = .ok (.iaload, 1) := by decide +kernel
theorem d_M_addRecord_20 : decode c_M_addRecord 20 = .ok (.iload_n 2, 1) := by decide +kernel
theorem d_M_addRecord_21 : decode c_M_addRecord 21 = .ok (.iconst 1, 1) := by decide +kernel
theorem d_M_addRecord_22 : decode c_M_addRecord 22 = .ok (.iadd, 1) := by decide +kernel
theorem d_M_addRecord_23 : decode c_M_addRecord 23 = .ok (.iload_n 3, 1) := by decide +kernel
theorem d_M_addRecord_24 : decode c_M_addRecord 24 = .ok (.iadd, 1) := by decide +kernel
theorem d_M_addRecord_25 : decode c_M_addRecord 25 = .ok (.aload_n 1, 1) := by decide +kernel
theorem d_M_addRecord_26 : decode c_M_addRecord 26 = .ok (.getfield 31, 3) := by decide +kernel
theorem d_M_addRecord_29 : decode c_M_addRecord 29 = .ok (.iload_n 3, 1) := by decide +kernel
theorem d_M_addRecord_30 : decode c_M_addRecord 30 = .ok (.iaload, 1) := by decide +kernel
theorem d_M_addRecord_31 : decode c_M_addRecord 31 = .ok (.aload_n 1, 1) := by decide +kernel
theorem d_M_addRecord_32 : decode c_M_addRecord 32 = .ok (.getfield 34, 3) := by decide +kernel
theorem d_M_addRecord_35 : decode c_M_addRecord 35 = .ok (.iload_n 3, 1) := by decide +kernel
theorem d_M_addRecord_36 : decode c_M_addRecord 36 = .ok (.baload, 1) := by decide +kernel
theorem d_M_addRecord_37 : decode c_M_addRecord 37 = .ok (.invokevirtual 38, 3) := by decide +kernel
theorem d_M_addRecord_40 : decode c_M_addRecord 40 = .ok (.iinc 3 1, 3) := by decide +kernel
theorem d_M_addRecord_43 : decode c_M_addRecord 43 = .ok (.goto (-41), 3) := by decide +kernel
theorem d_M_addRecord_46 : decode c_M_addRecord 46 = .ok (.aload_n 0, 1) := by decide +kernel
theorem d_M_addRecord_47 : decode c_M_addRecord 47 = .ok (.dup, 1) := by decide +kernel
theorem d_M_addRecord_48 : decode c_M_addRecord 48 = .ok (.getfield 42, 3) := by decide +kernel
theorem d_M_addRecord_51 : decode c_M_addRecord 51 = .ok (.iconst 1, 1) := by decide +kernel
theorem d_M_addRecord_52 : decode c_M_addRecord 52 = .ok (.iadd, 1) := by decide +kernel
theorem d_M_addRecord_53 : decode c_M_addRecord 53 = .ok (.putfield 42, 3) := by decide +kernel
theorem d_M_addRecord_56 : decode c_M_addRecord 56 = .ok (.aload_n 0, 1) := by decide +kernel
theorem d_M_addRecord_57 : decode c_M_addRecord 57 = .ok (.getfield 20, 3) := by decide +kernel
theorem d_M_addRecord_60 : decode c_M_addRecord 60 = .ok (.aload_n 0, 1) := by decide +kernel
theorem d_M_addRecord_61 : decode c_M_addRecord 61 = .ok (.getfield 42, 3) := by decide +kernel
theorem d_M_addRecord_64 : decode c_M_addRecord 64 = .ok (.aload_n 0, 1) := by decide +kernel
theorem d_M_addRecord_65 : decode c_M_addRecord 65 = .ok (.getfield 14, 3) := by decide +kernel
theorem d_M_addRecord_68 : decode c_M_addRecord 68 = .ok (.getfield 24, 3) := by decide +kernel
theorem d_M_addRecord_71 : decode c_M_addRecord 71 = .ok (.iastore, 1) := by decide +kernel
theorem d_M_addRecord_72 : decode c_M_addRecord 72 = .ok (.return_, 1) := by decide +kernel
theorem d_V_addToLevel0_0 : decode c_V_addToLevel0 0 = .ok (.aload_n 0, 1) := by decide +kernel
theorem d_V_addToLevel0_1 : decode c_V_addToLevel0 1 = .ok (.getfield 24, 3) := by decide +kernel
theorem d_V_addToLevel0_4 : decode c_V_addToLevel0 4 = .ok (.getfield 53, 3) := by decide +kernel
theorem d_V_addToLevel0_7 : decode c_V_addToLevel0 7 = .ok (.iconst 0, 1) := by decide +kernel
theorem d_V_addToLevel0_8 : decode c_V_addToLevel0 8 = .ok (.putfield 56, 3) := by decide +kernel
theorem d_V_addToLevel0_11 : decode c_V_addToLevel0 11 = .ok (.aload_n 1, 1) := by decide +kernel
theorem d_V_addToLevel0_12 : decode c_V_addToLevel0 12 = .ok (.getfield 56, 3) := by decide +kernel
theorem d_V_addToLevel0_15 : decode c_V_addToLevel0 15 = .ok (.iconst 1, 1) := by decide +kernel
theorem d_V_addToLevel0_16 : decode c_V_addToLevel0 16 = .ok (.isub, 1) := by decide +kernel
theorem d_V_addToLevel0_17 : decode c_V_addToLevel0 17 = .ok (.istore_n 2, 1) := by decide +kernel
theorem d_V_addToLevel0_18 : decode c_V_addToLevel0 18 = .ok (.iload_n 2, 1) := by decide +kernel
theorem d_V_addToLevel0_19 : decode c_V_addToLevel0 19 = .ok (.ifCond .lt 21, 3) := by decide +kernel
theorem d_V_addToLevel0_22 : decode c_V_addToLevel0 22 = .ok (.aload_n 0, 1) := by decide +kernel
theorem d_V_addToLevel0_23 : decode c_V_addToLevel0 23 = .ok (.getfield 24, 3) := by decide +kernel
theorem d_V_addToLevel0_26 : decode c_V_addToLevel0 26 = .ok (.getfield 53, 3) := by decide +kernel
theorem d_V_addToLevel0_29 : decode c_V_addToLevel0 29 = .ok (.aload_n 1, 1) := by decide +kernel
theorem d_V_addToLevel0_30 : decode c_V_addToLevel0 30 = .ok (.iload_n 2, 1) := by decide +kernel
theorem d_V_addToLevel0_31 : decode c_V_addToLevel0 31 = .ok (.invokevirtual 60, 3) := by decide +kernel
theorem d_V_addToLevel0_34 : decode c_V_addToLevel0 34 = .ok (.iinc 2 (-1), 3) := by decide +kernel
theorem d_V_addToLevel0_37 : decode c_V_addToLevel0 37 = .ok (.goto (-19), 3) := by decide +kernel
theorem d_V_addToLevel0_40 : decode c_V_addToLevel0 40 = .ok (.aload_n 0, 1) := by decide +kernel
theorem d_V_addToLevel0_41 : decode c_V_addToLevel0 41 = .ok (.getfield 18, 3) := by decide +kernel
theorem d_V_addToLevel0_44 : decode c_V_addToLevel0 44 = .ok (.invokevirtual 64, 3) := by decide +kernel
theorem d_V_addToLevel0_47 : decode c_V_addToLevel0 47 = .ok (.aload_n 0, 1) := by decide +kernel
theorem d_V_addToLevel0_48 : decode c_V_addToLevel0 48 = .ok (.getfield 24, 3) := by decide +kernel
theorem d_V_addToLevel0_51 : decode c_V_addToLevel0 51 = .ok (.aload_n 0, 1) := by decide +kernel
theorem d_V_addToLevel0_52 : decode c_V_addToLevel0 52 = .ok (.getfield 18, 3) := by decide +kernel
theorem d_V_addToLevel0_55 : decode c_V_addToLevel0 55 = .ok (.getfield 67, 3) := by decide +kernel
theorem d_V_addToLevel0_58 : decode c_V_addToLevel0 58 = .ok (.invokevirtual 70, 3) := by decide +kernel
theorem d_V_addToLevel0_61 : decode c_V_addToLevel0 61 = .ok (.aload_n 0, 1) := by decide +kernel
theorem d_V_addToLevel0_62 : decode c_V_addToLevel0 62 = .ok (.iconst 0, 1) := by decide +kernel
theorem d_V_addToLevel0_63 : decode c_V_addToLevel0 63 = .ok (.invokevirtual 74, 3) := by decide +kernel
theorem d_V_addToLevel0_66 : decode c_V_addToLevel0 66 = .ok (.iconst 0, 1) := by decide +kernel
theorem d_V_addToLevel0_67 : decode c_V_addToLevel0 67 = .ok (.istore_n 2, 1) := by decide +kernel
theorem d_V_addToLevel0_68 : decode c_V_addToLevel0 68 = .ok (.iload_n 2, 1) := by decide +kernel
theorem d_V_addToLevel0_69 : decode c_V_addToLevel0 69 = .ok (.aload_n 0, 1) := by decide +kernel
theorem d_V_addToLevel0_70 : decode c_V_addToLevel0 70 = .ok (.getfield 12, 3) := by decide +kernel
theorem d_V_addToLevel0_73 : decode c_V_addToLevel0 73 = .ok (.getfield 77, 3) := by decide +kernel
theorem d_V_addToLevel0_76 : decode c_V_addToLevel0 76 = .ok (.if_icmp .ge 21, 3) := by decide +kernel
theorem d_V_addToLevel0_79 : decode c_V_addToLevel0 79 = .ok (.aload_n 0, 1) := by decide +kernel
theorem d_V_addToLevel0_80 : decode c_V_addToLevel0 80 = .ok (.getfield 18, 3) := by decide +kernel
theorem d_V_addToLevel0_83 : decode c_V_addToLevel0 83 = .ok (.aload_n 0, 1) := by decide +kernel
theorem d_V_addToLevel0_84 : decode c_V_addToLevel0 84 = .ok (.getfield 12, 3) := by decide +kernel
theorem d_V_addToLevel0_87 : decode c_V_addToLevel0 87 = .ok (.iload_n 2, 1) := by decide +kernel
theorem d_V_addToLevel0_88 : decode c_V_addToLevel0 88 = .ok (.invokevirtual 80, 3) := by decide +kernel
theorem d_V_addToLevel0_91 : decode c_V_addToLevel0 91 = .ok (.iinc 2 1, 3) := by decide +kernel
theorem d_V_addToLevel0_94 : decode c_V_addToLevel0 94 = .ok (.goto (-26), 3) := by decide +kernel
theorem d_V_addToLevel0_97 : decode c_V_addToLevel0 97 = .ok (.aload_n 0, 1) := by decide +kernel
theorem d_V_addToLevel0_98 : decode c_V_addToLevel0 98 = .ok (.invokevirtual 84, 3) := by decide +kernel
theorem d_V_addToLevel0_101 : decode c_V_addToLevel0 101 = .ok (.return_, 1) := by decide +kernel
theorem d_M_clear_0 : decode c_M_clear 0 = .ok (.aload_n 0, 1) := by decide +kernel
theorem d_M_clear_1 : decode c_M_clear 1 = .ok (.getfield 14, 3) := by decide +kernel
theorem d_M_clear_4 : decode c_M_clear 4 = .ok (.iconst 0, 1) := by decide +kernel
theorem d_M_clear_5 : decode c_M_clear 5 = .ok (.putfield 24, 3) := by decide +kernel
theorem d_M_clear_8 : decode c_M_clear 8 = .ok (.aload_n 0, 1) := by decide +kernel
theorem d_M_clear_9 : decode c_M_clear 9 = .ok (.iconst 0, 1) := by decide +kernel
theorem d_M_clear_10 : decode c_M_clear 10 = .ok (.putfield 42, 3) := by decide +kernel
theorem d_M_clear_13 : decode c_M_clear 13 = .ok (.aload_n 0, 1) := by decide +kernel
theorem d_M_clear_14 : decode c_M_clear 14 = .ok (.iconst 0, 1) := by decide +kernel
theorem d_M_clear_15 : decode c_M_clear 15 = .ok (.putfield 45, 3) := by decide +kernel
theorem d_M_clear_18 : decode c_M_clear 18 = .ok (.return_, 1) := by decide +kernel
theorem d_L_moveMemoryToLevel0_0 : decode c_L_moveMemoryToLevel0 0 = .ok (.aload_n 0, 1) := by decide +kernel
theorem d_L_moveMemoryToLevel0_1 : decode c_L_moveMemoryToLevel0 1 = .ok (.getfield 19, 3) := by decide +kernel
theorem d_L_moveMemoryToLevel0_4 : decode c_L_moveMemoryToLevel0 4 = .ok (.aload_n 0, 1) := by decide +kernel
theorem d_L_moveMemoryToLevel0_5 : decode c_L_moveMemoryToLevel0 5 = .ok (.getfield 10, 3) := by decide +kernel
theorem d_L_moveMemoryToLevel0_8 : decode c_L_moveMemoryToLevel0 8 = .ok (.getfield 80, 3) := by decide +kernel
theorem d_L_moveMemoryToLevel0_11 : decode c_L_moveMemoryToLevel0 11 = .ok (.invokevirtual 210, 3) := by decide +kernel
theorem d_L_moveMemoryToLevel0_14 : decode c_L_moveMemoryToLevel0 14 = .ok (.aload_n 0, 1) := by decide +kernel
theorem d_L_moveMemoryToLevel0_15 : decode c_L_moveMemoryToLevel0 15 = .ok (.getfield 10, 3) := by decide +kernel
theorem d_L_moveMemoryToLevel0_18 : decode c_L_moveMemoryToLevel0 18 = .ok (.invokevirtual 214, 3) := by decide +kernel
theorem d_L_moveMemoryToLevel0_21 : decode c_L_moveMemoryToLevel0 21 = .ok (.return_, 1) := by decide +kernel
theorem d_L_write_0 : decode c_L_write 0 = .ok (.aload_n 0, 1) := by decide +kernel
theorem d_L_write_1 : decode c_L_write 1 = .ok (.getfield 10, 3) := by decide +kernel
theorem d_L_write_4 : decode c_L_write 4 = .ok (.getfield 80, 3) := by decide +kernel
theorem d_L_write_7 : decode c_L_write 7 = .ok (.getfield 50, 3) := by decide +kernel
theorem d_L_write_10 : decode c_L_write 10 = .ok (.aload_n 0, 1) := by decide +kernel
theorem d_L_write_11 : decode c_L_write 11 = .ok (.getfield 19, 3) := by decide +kernel
theorem d_L_write_14 : decode c_L_write 14 = .ok (.getfield 86, 3) := by decide +kernel
theorem d_L_write_17 : decode c_L_write 17 = .ok (.getfield 90, 3) := by decide +kernel
theorem d_L_write_20 : decode c_L_write 20 = .ok (.getfield 50, 3) := by decide +kernel
theorem d_L_write_23 : decode c_L_write 23 = .ok (.iadd, 1) := by decide +kernel
theorem d_L_write_24 : decode c_L_write 24 = .ok (.aload_n 0, 1) := by decide +kernel
theorem d_L_write_25 : decode c_L_write 25 = .ok (.getfield 28, 3) := by decide +kernel
theorem d_L_write_28 : decode c_L_write 28 = .ok (.getfield 50, 3) := by decide +kernel
theorem d_L_write_31 : decode c_L_write 31 = .ok (.iadd, 1) := by decide +kernel
theorem d_L_write_32 : decode c_L_write 32 = .ok (.istore_n 1, 1) := by decide +kernel
theorem d_L_write_33 : decode c_L_write 33 = .ok (.iload_n 1, 1) := by decide +kernel
theorem d_L_write_34 : decode c_L_write 34 = .ok (.sipush 240, 3) := by decide +kernel
theorem d_L_write_37 : decode c_L_write 37 = .ok (.if_icmp .gt 13, 3) := by decide +kernel
theorem d_L_write_40 : decode c_L_write 40 = .ok (.aload_n 0, 1) := by decide +kernel
theorem d_L_write_41 : decode c_L_write 41 = .ok (.getfield 19, 3) := by decide +kernel
theorem d_L_write_44 : decode c_L_write 44 = .ok (.invokevirtual 99, 3) := by decide +kernel
theorem d_L_write_47 : decode c_L_write 47 = .ok (.ifCond .eq 11, 3) := by decide +kernel
theorem d_L_write_50 : decode c_L_write 50 = .ok (.new 58, 3) := by decide +kernel
theorem d_L_write_53 : decode c_L_write 53 = .ok (.dup, 1) := by decide +kernel
theorem d_L_write_54 : decode c_L_write 54 = .ok (.invokespecial 60, 3) := by decide +kernel
theorem d_L_write_57 : decode c_L_write 57 = .ok (.athrow, 1) := by decide +kernel
theorem d_L_write_58 : decode c_L_write 58 = .ok (.aload_n 0, 1) := by decide +kernel
theorem d_L_write_59 : decode c_L_write 59 = .ok (.getfield 10, 3) := by decide +kernel
theorem d_L_write_62 : decode c_L_write 62 = .ok (.aload_n 0, 1) := by decide +kernel
theorem d_L_write_63 : decode c_L_write 63 = .ok (.getfield 28, 3) := by decide +kernel
theorem d_L_write_66 : decode c_L_write 66 = .ok (.aload_n 0, 1) := by decide +kernel
theorem d_L_write_67 : decode c_L_write 67 = .ok (.getfield 61, 3) := by decide +kernel
theorem d_L_write_70 : decode c_L_write 70 = .ok (.invokevirtual 206, 3) := by decide +kernel
theorem d_L_write_73 : decode c_L_write 73 = .ok (.aload_n 0, 1) := by decide +kernel
theorem d_L_write_74 : decode c_L_write 74 = .ok (.dup, 1) := by decide +kernel
theorem d_L_write_75 : decode c_L_write 75 = .ok (.getfield 61, 3) := by decide +kernel
theorem d_L_write_78 : decode c_L_write 78 = .ok (.aload_n 0, 1) := by decide +kernel
theorem d_L_write_79 : decode c_L_write 79 = .ok (.getfield 28, 3) := by decide +kernel
theorem d_L_write_82 : decode c_L_write 82 = .ok (.getfield 50, 3) := by decide +kernel
theorem d_L_write_85 : decode c_L_write 85 = .ok (.iadd, 1) := by decide +kernel
theorem d_L_write_86 : decode c_L_write 86 = .ok (.putfield 61, 3) := by decide +kernel
theorem d_L_write_89 : decode c_L_write 89 = .ok (.aload_n 0, 1) := by decide +kernel
theorem d_L_write_90 : decode c_L_write 90 = .ok (.getfield 10, 3) := by decide +kernel
theorem d_L_write_93 : decode c_L_write 93 = .ok (.getfield 80, 3) := by decide +kernel
theorem d_L_write_96 : decode c_L_write 96 = .ok (.getfield 50, 3) := by decide +kernel
theorem d_L_write_99 : decode c_L_write 99 = .ok (.bipush 8, 2) := by decide +kernel
theorem d_L_write_101 : decode c_L_write 101 = .ok (.if_icmp .lt 18, 3) := by decide +kernel
theorem d_L_write_104 : decode c_L_write 104 = .ok (.aload_n 0, 1) := by decide +kernel
theorem d_L_write_105 : decode c_L_write 105 = .ok (.invokevirtual 103, 3) := by decide +kernel
theorem d_L_write_108 : decode c_L_write 108 = .ok (.aload_n 0, 1) := by decide +kernel
theorem d_L_write_109 : decode c_L_write 109 = .ok (.getfield 19, 3) := by decide +kernel
theorem d_L_write_112 : decode c_L_write 112 = .ok (.aload_n 0, 1) := by decide +kernel
theorem d_L_write_113 : decode c_L_write 113 = .ok (.invokevirtual 106, 3) := by decide +kernel
theorem d_L_write_116 : decode c_L_write 116 = .ok (.invokevirtual 109, 3) := by decide +kernel
theorem d_L_write_119 : decode c_L_write 119 = .ok (.aload_n 0, 1) := by decide +kernel
theorem d_L_write_120 : decode c_L_write 120 = .ok (.getfield 61, 3) := by decide +kernel
theorem d_L_write_123 : decode c_L_write 123 = .ok (.ireturn, 1) := by decide +kernel
theorem d_L_put_0 : decode c_L_put 0 = .ok (.aload_n 0, 1) := by decide +kernel
theorem d_L_put_1 : decode c_L_put 1 = .ok (.iload_n 1, 1) := by decide +kernel
theorem d_L_put_2 : decode c_L_put 2 = .ok (.iload_n 2, 1) := by decide +kernel
theorem d_L_put_3 : decode c_L_put 3 = .ok (.iconst 0, 1) := by decide +kernel
theorem d_L_put_4 : decode c_L_put 4 = .ok (.invokevirtual 42, 3) := by decide +kernel
theorem d_L_put_7 : decode c_L_put 7 = .ok (.aload_n 0, 1) := by decide +kernel
theorem d_L_put_8 : decode c_L_put 8 = .ok (.getfield 46, 3) := by decide +kernel
theorem d_L_put_11 : decode c_L_put 11 = .ok (.ifCond .eq 13, 3) := by decide +kernel
theorem d_L_put_14 : decode c_L_put 14 = .ok (.aload_n 0, 1) := by decide +kernel
theorem d_L_put_15 : decode c_L_put 15 = .ok (.getfield 28, 3) := by decide +kernel
theorem d_L_put_18 : decode c_L_put 18 = .ok (.getfield 50, 3) := by decide +kernel
theorem d_L_put_21 : decode c_L_put 21 = .ok (.goto 7, 3) := by decide +kernel
theorem d_L_put_24 : decode c_L_put 24 = .ok (.aload_n 0, 1) := by decide +kernel
theorem d_L_put_25 : decode c_L_put 25 = .ok (.invokevirtual 54, 3) := by decide +kernel
theorem d_L_put_28 : decode c_L_put 28 = .ok (.ireturn, 1) := by decide +kernel
theorem d_W_put_0 : decode c_W_put 0 = .ok (.aload_n 3, 1) := by decide +kernel
theorem d_W_put_1 : decode c_W_put 1 = .ok (.iconst 0, 1) := by decide +kernel
theorem d_W_put_2 : decode c_W_put 2 = .ok (.aload_n 0, 1) := by decide +kernel
theorem d_W_put_3 : decode c_W_put 3 = .ok (.iload_n 1, 1) := by decide +kernel
theorem d_W_put_4 : decode c_W_put 4 = .ok (.iload_n 2, 1) := by decide +kernel
theorem d_W_put_5 : decode c_W_put 5 = .ok (.invokevirtual 7, 3) := by decide +kernel
theorem d_W_put_8 : decode c_W_put 8 = .ok (.i2l, 1) := by decide +kernel
theorem d_W_put_9 : decode c_W_put 9 = .ok (.lastore, 1) := by decide +kernel
theorem d_W_put_10 : decode c_W_put 10 = .ok (.goto 15, 3) := by decide +kernel
theorem d_W_put_13 : decode c_W_put 13 = .ok (.astore 4, 2) := by decide +kernel
theorem d_W_put_15 : decode c_W_put 15 = .ok (.iconst 1, 1) := by decide +kernel
theorem d_W_put_16 : decode c_W_put 16 = .ok (.ireturn, 1) := by decide +kernel
theorem d_W_put_17 : decode c_W_put 17 = .ok (.astore 4, 2) := by decide +kernel
theorem d_W_put_19 : decode c_W_put 19 = .ok (.iconst 2, 1) := by decide +kernel
theorem d_W_put_20 : decode c_W_put 20 = .ok (.ireturn, 1) := by decide +kernel
theorem d_W_put_21 : decode c_W_put 21 = .ok (.astore 4, 2) := by decide +kernel
theorem d_W_put_23 : decode c_W_put 23 = .ok (.iconst 3, 1) := by decide +kernel
theorem d_W_put_24 : decode c_W_put 24 = .ok (.ireturn, 1) := by decide +kernel
theorem d_W_put_25 : decode c_W_put 25 = .ok (.iconst 0, 1) := by decide +kernel
theorem d_W_put_26 : decode c_W_put 26 = .ok (.ireturn, 1) := by decide +kernel
theorem d_L_remove_0 : decode c_L_remove 0 = .ok (.aload_n 0, 1) := by decide +kernel
theorem d_L_remove_1 : decode c_L_remove 1 = .ok (.iload_n 1, 1) := by decide +kernel
theorem d_L_remove_2 : decode c_L_remove 2 = .ok (.iconst 0, 1) := by decide +kernel
theorem d_L_remove_3 : decode c_L_remove 3 = .ok (.iconst 1, 1) := by decide +kernel
theorem d_L_remove_4 : decode c_L_remove 4 = .ok (.invokevirtual 42, 3) := by decide +kernel
theorem d_L_remove_7 : decode c_L_remove 7 = .ok (.aload_n 0, 1) := by decide +kernel
theorem d_L_remove_8 : decode c_L_remove 8 = .ok (.getfield 46, 3) := by decide +kernel
theorem d_L_remove_11 : decode c_L_remove 11 = .ok (.ifCond .eq 13, 3) := by decide +kernel
theorem d_L_remove_14 : decode c_L_remove 14 = .ok (.aload_n 0, 1) := by decide +kernel
theorem d_L_remove_15 : decode c_L_remove 15 = .ok (.getfield 28, 3) := by decide +kernel
theorem d_L_remove_18 : decode c_L_remove 18 = .ok (.getfield 50, 3) := by decide +kernel
theorem d_L_remove_21 : decode c_L_remove 21 = .ok (.goto 7, 3) := by decide +kernel
theorem d_L_remove_24 : decode c_L_remove 24 = .ok (.aload_n 0, 1) := by decide +kernel
theorem d_L_remove_25 : decode c_L_remove 25 = .ok (.invokevirtual 54, 3) := by decide +kernel
theorem d_L_remove_28 : decode c_L_remove 28 = .ok (.ireturn, 1) := by decide +kernel
theorem d_W_remove_0 : decode c_W_remove 0 = .ok (.aload_n 2, 1) := by decide +kernel
theorem d_W_remove_1 : decode c_W_remove 1 = .ok (.iconst 0, 1) := by decide +kernel
theorem d_W_remove_2 : decode c_W_remove 2 = .ok (.aload_n 0, 1) := by decide +kernel
theorem d_W_remove_3 : decode c_W_remove 3 = .ok (.iload_n 1, 1) := by decide +kernel
theorem d_W_remove_4 : decode c_W_remove 4 = .ok (.invokevirtual 19, 3) := by decide +kernel
theorem d_W_remove_7 : decode c_W_remove 7 = .ok (.i2l, 1) := by decide +kernel
theorem d_W_remove_8 : decode c_W_remove 8 = .ok (.lastore, 1) := by decide +kernel
theorem d_W_remove_9 : decode c_W_remove 9 = .ok (.goto 12, 3) := by decide +kernel
theorem d_W_remove_12 : decode c_W_remove 12 = .ok (.astore_n 3, 1) := by decide +kernel
theorem d_W_remove_13 : decode c_W_remove 13 = .ok (.iconst 1, 1) := by decide +kernel
theorem d_W_remove_14 : decode c_W_remove 14 = .ok (.ireturn, 1) := by decide +kernel
theorem d_W_remove_15 : decode c_W_remove 15 = .ok (.astore_n 3, 1) := by decide +kernel
theorem d_W_remove_16 : decode c_W_remove 16 = .ok (.iconst 2, 1) := by decide +kernel
theorem d_W_remove_17 : decode c_W_remove 17 = .ok (.ireturn, 1) := by decide +kernel
theorem d_W_remove_18 : decode c_W_remove 18 = .ok (.astore_n 3, 1) := by decide +kernel
theorem d_W_remove_19 : decode c_W_remove 19 = .ok (.iconst 3, 1) := by decide +kernel
theorem d_W_remove_20 : decode c_W_remove 20 = .ok (.ireturn, 1) := by decide +kernel
theorem d_W_remove_21 : decode c_W_remove 21 = .ok (.iconst 0, 1) := by decide +kernel
theorem d_W_remove_22 : decode c_W_remove 22 = .ok (.ireturn, 1) := by decide +kernel
theorem d_L_open_0 : decode c_L_open 0 = .ok (.aload_n 0, 1) := by decide +kernel
theorem d_L_open_1 : decode c_L_open 1 = .ok (.getfield 46, 3) := by decide +kernel
theorem d_L_open_4 : decode c_L_open 4 = .ok (.ifCond .eq 11, 3) := by decide +kernel
theorem d_L_open_7 : decode c_L_open 7 = .ok (.new 58, 3) := by decide +kernel
theorem d_L_open_10 : decode c_L_open 10 = .ok (.dup, 1) := by decide +kernel
theorem d_L_open_11 : decode c_L_open 11 = .ok (.invokespecial 60, 3) := by decide +kernel
theorem d_L_open_14 : decode c_L_open 14 = .ok (.athrow, 1) := by decide +kernel
theorem d_L_open_15 : decode c_L_open 15 = .ok (.aload_n 0, 1) := by decide +kernel
theorem d_L_open_16 : decode c_L_open 16 = .ok (.getfield 28, 3) := by decide +kernel
theorem d_L_open_19 : decode c_L_open 19 = .ok (.iconst 0, 1) := by decide +kernel
theorem d_L_open_20 : decode c_L_open 20 = .ok (.putfield 50, 3) := by decide +kernel
theorem d_L_open_23 : decode c_L_open 23 = .ok (.aload_n 0, 1) := by decide +kernel
theorem d_L_open_24 : decode c_L_open 24 = .ok (.iconst 1, 1) := by decide +kernel
theorem d_L_open_25 : decode c_L_open 25 = .ok (.putfield 46, 3) := by decide +kernel
theorem d_L_open_28 : decode c_L_open 28 = .ok (.aload_n 0, 1) := by decide +kernel
theorem d_L_open_29 : decode c_L_open 29 = .ok (.getfield 61, 3) := by decide +kernel
theorem d_L_open_32 : decode c_L_open 32 = .ok (.ireturn, 1) := by decide +kernel
theorem d_W_open_0 : decode c_W_open 0 = .ok (.aload_n 1, 1) := by decide +kernel
theorem d_W_open_1 : decode c_W_open 1 = .ok (.iconst 0, 1) := by decide +kernel
theorem d_W_open_2 : decode c_W_open 2 = .ok (.aload_n 0, 1) := by decide +kernel
theorem d_W_open_3 : decode c_W_open 3 = .ok (.invokevirtual 23, 3) := by decide +kernel
theorem d_W_open_6 : decode c_W_open 6 = .ok (.i2l, 1) := by decide +kernel
theorem d_W_open_7 : decode c_W_open 7 = .ok (.lastore, 1) := by decide +kernel
theorem d_W_open_8 : decode c_W_open 8 = .ok (.goto 6, 3) := by decide +kernel
theorem d_W_open_11 : decode c_W_open 11 = .ok (.astore_n 2, 1) := by decide +kernel
theorem d_W_open_12 : decode c_W_open 12 = .ok (.iconst 1, 1) := by decide +kernel
theorem d_W_open_13 : decode c_W_open 13 = .ok (.ireturn, 1) := by decide +kernel
theorem d_W_open_14 : decode c_W_open 14 = .ok (.iconst 0, 1) := by decide +kernel
theorem d_W_open_15 : decode c_W_open 15 = .ok (.ireturn, 1) := by decide +kernel
theorem d_L_close_0 : decode c_L_close 0 = .ok (.aload_n 0, 1) := by decide +kernel
theorem d_L_close_1 : decode c_L_close 1 = .ok (.getfield 46, 3) := by decide +kernel
theorem d_L_close_4 : decode c_L_close 4 = .ok (.ifCond .ne 11, 3) := by decide +kernel
theorem d_L_close_7 : decode c_L_close 7 = .ok (.new 64, 3) := by decide +kernel
theorem d_L_close_10 : decode c_L_close 10 = .ok (.dup, 1) := by decide +kernel
theorem d_L_close_11 : decode c_L_close 11 = .ok (.invokespecial 66, 3) := by decide +kernel
theorem d_L_close_14 : decode c_L_close 14 = .ok (.athrow, 1) := by decide +kernel
theorem d_L_close_15 : decode c_L_close 15 = .ok (.iload_n 1, 1) := by decide +kernel
theorem d_L_close_16 : decode c_L_close 16 = .ok (.ifCond .eq 18, 3) := by decide +kernel
theorem d_L_close_19 : decode c_L_close 19 = .ok (.aload_n 0, 1) := by decide +kernel
theorem d_L_close_20 : decode c_L_close 20 = .ok (.getfield 28, 3) := by decide +kernel
theorem d_L_close_23 : decode c_L_close 23 = .ok (.getfield 50, 3) := by decide +kernel
theorem d_L_close_26 : decode c_L_close 26 = .ok (.ifCond .le 8, 3) := by decide +kernel
theorem d_L_close_29 : decode c_L_close 29 = .ok (.aload_n 0, 1) := by decide +kernel
theorem d_L_close_30 : decode c_L_close 30 = .ok (.invokevirtual 54, 3) := by decide +kernel
theorem d_L_close_33 : decode c_L_close 33 = .ok (.pop, 1) := by decide +kernel
theorem d_L_close_34 : decode c_L_close 34 = .ok (.aload_n 0, 1) := by decide +kernel
theorem d_L_close_35 : decode c_L_close 35 = .ok (.iconst 0, 1) := by decide +kernel
theorem d_L_close_36 : decode c_L_close 36 = .ok (.putfield 46, 3) := by decide +kernel
theorem d_L_close_39 : decode c_L_close 39 = .ok (.aload_n 0, 1) := by decide +kernel
theorem d_L_close_40 : decode c_L_close 40 = .ok (.getfield 61, 3) := by decide +kernel
theorem d_L_close_43 : decode c_L_close 43 = .ok (.ireturn, 1) := by decide +kernel
theorem d_W_close_0 : decode c_W_close 0 = .ok (.aload_n 2, 1) := by decide +kernel
theorem d_W_close_1 : decode c_W_close 1 = .ok (.iconst 0, 1) := by decide +kernel
theorem d_W_close_2 : decode c_W_close 2 = .ok (.aload_n 0, 1) := by decide +kernel
theorem d_W_close_3 : decode c_W_close 3 = .ok (.iload_n 1, 1) := by decide +kernel
theorem d_W_close_4 : decode c_W_close 4 = .ok (.invokevirtual 27, 3) := by decide +kernel
theorem d_W_close_7 : decode c_W_close 7 = .ok (.i2l, 1) := by decide +kernel
theorem d_W_close_8 : decode c_W_close 8 = .ok (.lastore, 1) := by decide +kernel
theorem d_W_close_9 : decode c_W_close 9 = .ok (.goto 9, 3) := by decide +kernel
theorem d_W_close_12 : decode c_W_close 12 = .ok (.astore_n 3, 1) := by decide +kernel
theorem d_W_close_13 : decode c_W_close 13 = .ok (.iconst 1, 1) := by decide +kernel
theorem d_W_close_14 : decode c_W_close 14 = .ok (.ireturn, 1) := by decide +kernel
theorem d_W_close_15 : decode c_W_close 15 = .ok (.astore_n 3, 1) := by decide +kernel
theorem d_W_close_16 : decode c_W_close 16 = .ok (.iconst 2, 1) := by decide +kernel
theorem d_W_close_17 : decode c_W_close 17 = .ok (.ireturn, 1) := by decide +kernel
theorem d_W_close_18 : decode c_W_close 18 = .ok (.iconst 0, 1) := by decide +kernel
theorem d_W_close_19 : decode c_W_close 19 = .ok (.ireturn, 1) := by decide +kernel
theorem d_M_loseAllBut_0 : decode c_M_loseAllBut 0 = .ok (.aload_n 0, 1) := by decide +kernel
theorem d_M_loseAllBut_1 : decode c_M_loseAllBut 1 = .ok (.aload_n 0, 1) := by decide +kernel
theorem d_M_loseAllBut_2 : decode c_M_loseAllBut 2 = .ok (.getfield 42, 3) := by decide +kernel
theorem d_M_loseAllBut_5 : decode c_M_loseAllBut 5 = .ok (.iload_n 1, 1) := by decide +kernel
theorem d_M_loseAllBut_6 : decode c_M_loseAllBut 6 = .ok (.invokestatic 48, 3) := by decide +kernel
theorem d_M_loseAllBut_9 : decode c_M_loseAllBut 9 = .ok (.putfield 42, 3) := by decide +kernel
theorem d_M_loseAllBut_12 : decode c_M_loseAllBut 12 = .ok (.aload_n 0, 1) := by decide +kernel
theorem d_M_loseAllBut_13 : decode c_M_loseAllBut 13 = .ok (.getfield 14, 3) := by decide +kernel
theorem d_M_loseAllBut_16 : decode c_M_loseAllBut 16 = .ok (.aload_n 0, 1) := by decide +kernel
theorem d_M_loseAllBut_17 : decode c_M_loseAllBut 17 = .ok (.getfield 20, 3) := by decide +kernel
theorem d_M_loseAllBut_20 : decode c_M_loseAllBut 20 = .ok (.aload_n 0, 1) := by decide +kernel
theorem d_M_loseAllBut_21 : decode c_M_loseAllBut 21 = .ok (.getfield 42, 3) := by decide +kernel
theorem d_M_loseAllBut_24 : decode c_M_loseAllBut 24 = .ok (.iaload, 1) := by decide +kernel
theorem d_M_loseAllBut_25 : decode c_M_loseAllBut 25 = .ok (.putfield 24, 3) := by decide +kernel
theorem d_M_loseAllBut_28 : decode c_M_loseAllBut 28 = .ok (.aload_n 0, 1) := by decide +kernel
theorem d_M_loseAllBut_29 : decode c_M_loseAllBut 29 = .ok (.aload_n 0, 1) := by decide +kernel
theorem d_M_loseAllBut_30 : decode c_M_loseAllBut 30 = .ok (.getfield 42, 3) := by decide +kernel
theorem d_M_loseAllBut_33 : decode c_M_loseAllBut 33 = .ok (.putfield 45, 3) := by decide +kernel
theorem d_M_loseAllBut_36 : decode c_M_loseAllBut 36 = .ok (.return_, 1) := by decide +kernel
theorem d_E_greatestNumber_0 : decode c_E_greatestNumber 0 = .ok (.iconst 0, 1) := by decide +kernel
theorem d_E_greatestNumber_1 : decode c_E_greatestNumber 1 = .ok (.istore_n 1, 1) := by decide +kernel
theorem d_E_greatestNumber_2 : decode c_E_greatestNumber 2 = .ok (.iconst 0, 1) := by decide +kernel
theorem d_E_greatestNumber_3 : decode c_E_greatestNumber 3 = .ok (.istore_n 2, 1) := by decide +kernel
theorem d_E_greatestNumber_4 : decode c_E_greatestNumber 4 = .ok (.iload_n 2, 1) := by decide +kernel
theorem d_E_greatestNumber_5 : decode c_E_greatestNumber 5 = .ok (.aload_n 0, 1) := by decide +kernel
theorem d_E_greatestNumber_6 : decode c_E_greatestNumber 6 = .ok (.getfield 28, 3) := by decide +kernel
theorem d_E_greatestNumber_9 : decode c_E_greatestNumber 9 = .ok (.if_icmp .ge 20, 3) := by decide +kernel
theorem d_E_greatestNumber_12 : decode c_E_greatestNumber 12 = .ok (.iload_n 1, 1) := by decide +kernel
theorem d_E_greatestNumber_13 : decode c_E_greatestNumber 13 = .ok (.aload_n 0, 1) := by decide +kernel
theorem d_E_greatestNumber_14 : decode c_E_greatestNumber 14 = .ok (.getfield 15, 3) := by decide +kernel
theorem d_E_greatestNumber_17 : decode c_E_greatestNumber 17 = .ok (.iload_n 2, 1) := by decide +kernel
theorem d_E_greatestNumber_18 : decode c_E_greatestNumber 18 = .ok (.iaload, 1) := by decide +kernel
theorem d_E_greatestNumber_19 : decode c_E_greatestNumber 19 = .ok (.invokestatic 32, 3) := by decide +kernel
theorem d_E_greatestNumber_22 : decode c_E_greatestNumber 22 = .ok (.istore_n 1, 1) := by decide +kernel
theorem d_E_greatestNumber_23 : decode c_E_greatestNumber 23 = .ok (.iinc 2 1, 3) := by decide +kernel
theorem d_E_greatestNumber_26 : decode c_E_greatestNumber 26 = .ok (.goto (-22), 3) := by decide +kernel
theorem d_E_greatestNumber_29 : decode c_E_greatestNumber 29 = .ok (.iload_n 1, 1) := by decide +kernel
theorem d_E_greatestNumber_30 : decode c_E_greatestNumber 30 = .ok (.ireturn, 1) := by decide +kernel
theorem d_L_crash_0 : decode c_L_crash 0 = .ok (.iload_n 1, 1) := by decide +kernel
theorem d_L_crash_1 : decode c_L_crash 1 = .ok (.iconst 0, 1) := by decide +kernel
theorem d_L_crash_2 : decode c_L_crash 2 = .ok (.bipush 100, 2) := by decide +kernel
theorem d_L_crash_4 : decode c_L_crash 4 = .ok (.invokestatic 73, 3) := by decide +kernel
theorem d_L_crash_7 : decode c_L_crash 7 = .ok (.aload_n 0, 1) := by decide +kernel
theorem d_L_crash_8 : decode c_L_crash 8 = .ok (.iconst 0, 1) := by decide +kernel
theorem d_L_crash_9 : decode c_L_crash 9 = .ok (.putfield 46, 3) := by decide +kernel
theorem d_L_crash_12 : decode c_L_crash 12 = .ok (.aload_n 0, 1) := by decide +kernel
theorem d_L_crash_13 : decode c_L_crash 13 = .ok (.getfield 32, 3) := by decide +kernel
theorem d_L_crash_16 : decode c_L_crash 16 = .ok (.iconst (-1), 1) := by decide +kernel
theorem d_L_crash_17 : decode c_L_crash 17 = .ok (.invokestatic 36, 3) := by decide +kernel
theorem d_L_crash_20 : decode c_L_crash 20 = .ok (.aload_n 0, 1) := by decide +kernel
theorem d_L_crash_21 : decode c_L_crash 21 = .ok (.getfield 10, 3) := by decide +kernel
theorem d_L_crash_24 : decode c_L_crash 24 = .ok (.aload_n 0, 1) := by decide +kernel
theorem d_L_crash_25 : decode c_L_crash 25 = .ok (.getfield 10, 3) := by decide +kernel
theorem d_L_crash_28 : decode c_L_crash 28 = .ok (.getfield 70, 3) := by decide +kernel
theorem d_L_crash_31 : decode c_L_crash 31 = .ok (.iload_n 1, 1) := by decide +kernel
theorem d_L_crash_32 : decode c_L_crash 32 = .ok (.iadd, 1) := by decide +kernel
theorem d_L_crash_33 : decode c_L_crash 33 = .ok (.invokevirtual 77, 3) := by decide +kernel
theorem d_L_crash_36 : decode c_L_crash 36 = .ok (.aload_n 0, 1) := by decide +kernel
theorem d_L_crash_37 : decode c_L_crash 37 = .ok (.aload_n 0, 1) := by decide +kernel
theorem d_L_crash_38 : decode c_L_crash 38 = .ok (.getfield 10, 3) := by decide +kernel
theorem d_L_crash_41 : decode c_L_crash 41 = .ok (.getfield 80, 3) := by decide +kernel
theorem d_L_crash_44 : decode c_L_crash 44 = .ok (.invokevirtual 83, 3) := by decide +kernel
theorem d_L_crash_47 : decode c_L_crash 47 = .ok (.aload_n 0, 1) := by decide +kernel
theorem d_L_crash_48 : decode c_L_crash 48 = .ok (.getfield 19, 3) := by decide +kernel
theorem d_L_crash_51 : decode c_L_crash 51 = .ok (.getfield 86, 3) := by decide +kernel
theorem d_L_crash_54 : decode c_L_crash 54 = .ok (.getfield 90, 3) := by decide +kernel
theorem d_L_crash_57 : decode c_L_crash 57 = .ok (.invokevirtual 83, 3) := by decide +kernel
theorem d_L_crash_60 : decode c_L_crash 60 = .ok (.invokestatic 93, 3) := by decide +kernel
theorem d_L_crash_63 : decode c_L_crash 63 = .ok (.putfield 61, 3) := by decide +kernel
theorem d_L_crash_66 : decode c_L_crash 66 = .ok (.aload_n 0, 1) := by decide +kernel
theorem d_L_crash_67 : decode c_L_crash 67 = .ok (.getfield 10, 3) := by decide +kernel
theorem d_L_crash_70 : decode c_L_crash 70 = .ok (.getfield 67, 3) := by decide +kernel
theorem d_L_crash_73 : decode c_L_crash 73 = .ok (.ireturn, 1) := by decide +kernel
theorem d_W_crash_0 : decode c_W_crash 0 = .ok (.aload_n 2, 1) := by decide +kernel
theorem d_W_crash_1 : decode c_W_crash 1 = .ok (.iconst 0, 1) := by decide +kernel
theorem d_W_crash_2 : decode c_W_crash 2 = .ok (.aload_n 0, 1) := by decide +kernel
theorem d_W_crash_3 : decode c_W_crash 3 = .ok (.iload_n 1, 1) := by decide +kernel
theorem d_W_crash_4 : decode c_W_crash 4 = .ok (.invokevirtual 31, 3) := by decide +kernel
theorem d_W_crash_7 : decode c_W_crash 7 = .ok (.i2l, 1) := by decide +kernel
theorem d_W_crash_8 : decode c_W_crash 8 = .ok (.lastore, 1) := by decide +kernel
theorem d_W_crash_9 : decode c_W_crash 9 = .ok (.goto 6, 3) := by decide +kernel
theorem d_W_crash_12 : decode c_W_crash 12 = .ok (.astore_n 3, 1) := by decide +kernel
theorem d_W_crash_13 : decode c_W_crash 13 = .ok (.iconst 1, 1) := by decide +kernel
theorem d_W_crash_14 : decode c_W_crash 14 = .ok (.ireturn, 1) := by decide +kernel
theorem d_W_crash_15 : decode c_W_crash 15 = .ok (.iconst 0, 1) := by decide +kernel
theorem d_W_crash_16 : decode c_W_crash 16 = .ok (.ireturn, 1) := by decide +kernel
theorem d_L_flush_0 : decode c_L_flush 0 = .ok (.aload_n 0, 1) := by decide +kernel
theorem d_L_flush_1 : decode c_L_flush 1 = .ok (.getfield 10, 3) := by decide +kernel
theorem d_L_flush_4 : decode c_L_flush 4 = .ok (.getfield 80, 3) := by decide +kernel
theorem d_L_flush_7 : decode c_L_flush 7 = .ok (.getfield 50, 3) := by decide +kernel
theorem d_L_flush_10 : decode c_L_flush 10 = .ok (.ifCond .ne 11, 3) := by decide +kernel
theorem d_L_flush_13 : decode c_L_flush 13 = .ok (.new 64, 3) := by decide +kernel
theorem d_L_flush_16 : decode c_L_flush 16 = .ok (.dup, 1) := by decide +kernel
theorem d_L_flush_17 : decode c_L_flush 17 = .ok (.invokespecial 66, 3) := by decide +kernel
theorem d_L_flush_20 : decode c_L_flush 20 = .ok (.athrow, 1) := by decide +kernel
theorem d_L_flush_21 : decode c_L_flush 21 = .ok (.aload_n 0, 1) := by decide +kernel
theorem d_L_flush_22 : decode c_L_flush 22 = .ok (.getfield 19, 3) := by decide +kernel
theorem d_L_flush_25 : decode c_L_flush 25 = .ok (.invokevirtual 99, 3) := by decide +kernel
theorem d_L_flush_28 : decode c_L_flush 28 = .ok (.ifCond .eq 11, 3) := by decide +kernel
theorem d_L_flush_31 : decode c_L_flush 31 = .ok (.new 58, 3) := by decide +kernel
theorem d_L_flush_34 : decode c_L_flush 34 = .ok (.dup, 1) := by decide +kernel
theorem d_L_flush_35 : decode c_L_flush 35 = .ok (.invokespecial 60, 3) := by decide +kernel
theorem d_L_flush_38 : decode c_L_flush 38 = .ok (.athrow, 1) := by decide +kernel
theorem d_L_flush_39 : decode c_L_flush 39 = .ok (.aload_n 0, 1) := by decide +kernel
theorem d_L_flush_40 : decode c_L_flush 40 = .ok (.invokevirtual 103, 3) := by decide +kernel
theorem d_L_flush_43 : decode c_L_flush 43 = .ok (.aload_n 0, 1) := by decide +kernel
theorem d_L_flush_44 : decode c_L_flush 44 = .ok (.getfield 19, 3) := by decide +kernel
theorem d_L_flush_47 : decode c_L_flush 47 = .ok (.aload_n 0, 1) := by decide +kernel
theorem d_L_flush_48 : decode c_L_flush 48 = .ok (.invokevirtual 106, 3) := by decide +kernel
theorem d_L_flush_51 : decode c_L_flush 51 = .ok (.invokevirtual 109, 3) := by decide +kernel
theorem d_L_flush_54 : decode c_L_flush 54 = .ok (.aload_n 0, 1) := by decide +kernel
theorem d_L_flush_55 : decode c_L_flush 55 = .ok (.getfield 19, 3) := by decide +kernel
theorem d_L_flush_58 : decode c_L_flush 58 = .ok (.getfield 86, 3) := by decide +kernel
theorem d_L_flush_61 : decode c_L_flush 61 = .ok (.getfield 112, 3) := by decide +kernel
theorem d_L_flush_64 : decode c_L_flush 64 = .ok (.ireturn, 1) := by decide +kernel
theorem d_W_flush_0 : decode c_W_flush 0 = .ok (.aload_n 1, 1) := by decide +kernel
theorem d_W_flush_1 : decode c_W_flush 1 = .ok (.iconst 0, 1) := by decide +kernel
theorem d_W_flush_2 : decode c_W_flush 2 = .ok (.aload_n 0, 1) := by decide +kernel
theorem d_W_flush_3 : decode c_W_flush 3 = .ok (.invokevirtual 34, 3) := by decide +kernel
theorem d_W_flush_6 : decode c_W_flush 6 = .ok (.i2l, 1) := by decide +kernel
theorem d_W_flush_7 : decode c_W_flush 7 = .ok (.lastore, 1) := by decide +kernel
theorem d_W_flush_8 : decode c_W_flush 8 = .ok (.goto 9, 3) := by decide +kernel
theorem d_W_flush_11 : decode c_W_flush 11 = .ok (.astore_n 2, 1) := by decide +kernel
theorem d_W_flush_12 : decode c_W_flush 12 = .ok (.iconst 1, 1) := by decide +kernel
theorem d_W_flush_13 : decode c_W_flush 13 = .ok (.ireturn, 1) := by decide +kernel
theorem d_W_flush_14 : decode c_W_flush 14 = .ok (.astore_n 2, 1) := by decide +kernel
theorem d_W_flush_15 : decode c_W_flush 15 = .ok (.iconst 2, 1) := by decide +kernel
theorem d_W_flush_16 : decode c_W_flush 16 = .ok (.ireturn, 1) := by decide +kernel
theorem d_W_flush_17 : decode c_W_flush 17 = .ok (.iconst 0, 1) := by decide +kernel
theorem d_W_flush_18 : decode c_W_flush 18 = .ok (.ireturn, 1) := by decide +kernel
theorem d_L_numberSeenBy_0 : decode c_L_numberSeenBy 0 = .ok (.iload_n 1, 1) := by decide +kernel
theorem d_L_numberSeenBy_1 : decode c_L_numberSeenBy 1 = .ok (.iconst (-1), 1) := by decide +kernel
theorem d_L_numberSeenBy_2 : decode c_L_numberSeenBy 2 = .ok (.iconst 3, 1) := by decide +kernel
theorem d_L_numberSeenBy_3 : decode c_L_numberSeenBy 3 = .ok (.invokestatic 73, 3) := by decide +kernel
theorem d_L_numberSeenBy_6 : decode c_L_numberSeenBy 6 = .ok (.iload_n 1, 1) := by decide +kernel
theorem d_L_numberSeenBy_7 : decode c_L_numberSeenBy 7 = .ok (.ifCond .ge 8, 3) := by decide +kernel
theorem d_L_numberSeenBy_10 : decode c_L_numberSeenBy 10 = .ok (.aload_n 0, 1) := by decide +kernel
theorem d_L_numberSeenBy_11 : decode c_L_numberSeenBy 11 = .ok (.getfield 61, 3) := by decide +kernel
theorem d_L_numberSeenBy_14 : decode c_L_numberSeenBy 14 = .ok (.ireturn, 1) := by decide +kernel
theorem d_L_numberSeenBy_15 : decode c_L_numberSeenBy 15 = .ok (.aload_n 0, 1) := by decide +kernel
theorem d_L_numberSeenBy_16 : decode c_L_numberSeenBy 16 = .ok (.getfield 32, 3) := by decide +kernel
theorem d_L_numberSeenBy_19 : decode c_L_numberSeenBy 19 = .ok (.iload_n 1, 1) := by decide +kernel
theorem d_L_numberSeenBy_20 : decode c_L_numberSeenBy 20 = .ok (.iaload, 1) := by decide +kernel
theorem d_L_numberSeenBy_21 : decode c_L_numberSeenBy 21 = .ok (.iconst (-1), 1) := by decide +kernel
theorem d_L_numberSeenBy_22 : decode c_L_numberSeenBy 22 = .ok (.if_icmp .ne 11, 3) := by decide +kernel
theorem d_L_numberSeenBy_25 : decode c_L_numberSeenBy 25 = .ok (.new 64, 3) := by decide +kernel
theorem d_L_numberSeenBy_28 : decode c_L_numberSeenBy 28 = .ok (.dup, 1) := by decide +kernel
theorem d_L_numberSeenBy_29 : decode c_L_numberSeenBy 29 = .ok (.invokespecial 66, 3) := by decide +kernel
theorem d_L_numberSeenBy_32 : decode c_L_numberSeenBy 32 = .ok (.athrow, 1) := by decide +kernel
theorem d_L_numberSeenBy_33 : decode c_L_numberSeenBy 33 = .ok (.aload_n 0, 1) := by decide +kernel
theorem d_L_numberSeenBy_34 : decode c_L_numberSeenBy 34 = .ok (.getfield 32, 3) := by decide +kernel
theorem d_L_numberSeenBy_37 : decode c_L_numberSeenBy 37 = .ok (.iload_n 1, 1) := by decide +kernel
theorem d_L_numberSeenBy_38 : decode c_L_numberSeenBy 38 = .ok (.iaload, 1) := by decide +kernel
theorem d_L_numberSeenBy_39 : decode c_L_numberSeenBy 39 = .ok (.ireturn, 1) := by decide +kernel
theorem d_M_rowOf_0 : decode c_M_rowOf 0 = .ok (.aload_n 0, 1) := by decide +kernel
theorem d_M_rowOf_1 : decode c_M_rowOf 1 = .ok (.getfield 14, 3) := by decide +kernel
theorem d_M_rowOf_4 : decode c_M_rowOf 4 = .ok (.getfield 24, 3) := by decide +kernel
theorem d_M_rowOf_7 : decode c_M_rowOf 7 = .ok (.iconst 1, 1) := by decide +kernel
theorem d_M_rowOf_8 : decode c_M_rowOf 8 = .ok (.isub, 1) := by decide +kernel
theorem d_M_rowOf_9 : decode c_M_rowOf 9 = .ok (.istore_n 3, 1) := by decide +kernel
theorem d_M_rowOf_10 : decode c_M_rowOf 10 = .ok (.iload_n 3, 1) := by decide +kernel
theorem d_M_rowOf_11 : decode c_M_rowOf 11 = .ok (.ifCond .lt 37, 3) := by decide +kernel
theorem d_M_rowOf_14 : decode c_M_rowOf 14 = .ok (.aload_n 0, 1) := by decide +kernel
theorem d_M_rowOf_15 : decode c_M_rowOf 15 = .ok (.getfield 14, 3) := by decide +kernel
theorem d_M_rowOf_18 : decode c_M_rowOf 18 = .ok (.getfield 28, 3) := by decide +kernel
theorem d_M_rowOf_21 : decode c_M_rowOf 21 = .ok (.iload_n 3, 1) := by decide +kernel
theorem d_M_rowOf_22 : decode c_M_rowOf 22 = .ok (.iaload, 1) := by decide +kernel
theorem d_M_rowOf_23 : decode c_M_rowOf 23 = .ok (.iload_n 1, 1) := by decide +kernel
theorem d_M_rowOf_24 : decode c_M_rowOf 24 = .ok (.if_icmp .ne 18, 3) := by decide +kernel
theorem d_M_rowOf_27 : decode c_M_rowOf 27 = .ok (.aload_n 0, 1) := by decide +kernel
theorem d_M_rowOf_28 : decode c_M_rowOf 28 = .ok (.getfield 14, 3) := by decide +kernel
theorem d_M_rowOf_31 : decode c_M_rowOf 31 = .ok (.getfield 54, 3) := by decide +kernel
theorem d_M_rowOf_34 : decode c_M_rowOf 34 = .ok (.iload_n 3, 1) := by decide +kernel
theorem d_M_rowOf_35 : decode c_M_rowOf 35 = .ok (.iaload, 1) := by decide +kernel
theorem d_M_rowOf_36 : decode c_M_rowOf 36 = .ok (.iload_n 2, 1) := by decide +kernel
theorem d_M_rowOf_37 : decode c_M_rowOf 37 = .ok (.if_icmp .gt 5, 3) := by decide +kernel
theorem d_M_rowOf_40 : decode c_M_rowOf 40 = .ok (.iload_n 3, 1) := by decide +kernel
theorem d_M_rowOf_41 : decode c_M_rowOf 41 = .ok (.ireturn, 1) := by decide +kernel
theorem d_M_rowOf_42 : decode c_M_rowOf 42 = .ok (.iinc 3 (-1), 3) := by decide +kernel
theorem d_M_rowOf_45 : decode c_M_rowOf 45 = .ok (.goto (-35), 3) := by decide +kernel
theorem d_M_rowOf_48 : decode c_M_rowOf 48 = .ok (.iconst (-1), 1) := by decide +kernel
theorem d_M_rowOf_49 : decode c_M_rowOf 49 = .ok (.ireturn, 1) := by decide +kernel
theorem d_L_valueIn_0 : decode c_L_valueIn 0 = .ok (.aload_n 0, 1) := by decide +kernel
theorem d_L_valueIn_1 : decode c_L_valueIn 1 = .ok (.getfield 217, 3) := by decide +kernel
theorem d_L_valueIn_4 : decode c_L_valueIn 4 = .ok (.iload_n 1, 1) := by decide +kernel
theorem d_L_valueIn_5 : decode c_L_valueIn 5 = .ok (.baload, 1) := by decide +kernel
theorem d_L_valueIn_6 : decode c_L_valueIn 6 = .ok (.ifCond .eq 11, 3) := by decide +kernel
theorem d_L_valueIn_9 : decode c_L_valueIn 9 = .ok (.new 132, 3) := by decide +kernel
theorem d_L_valueIn_12 : decode c_L_valueIn 12 = .ok (.dup, 1) := by decide +kernel
theorem d_L_valueIn_13 : decode c_L_valueIn 13 = .ok (.invokespecial 134, 3) := by decide +kernel
theorem d_L_valueIn_16 : decode c_L_valueIn 16 = .ok (.athrow, 1) := by decide +kernel
theorem d_L_valueIn_17 : decode c_L_valueIn 17 = .ok (.aload_n 0, 1) := by decide +kernel
theorem d_L_valueIn_18 : decode c_L_valueIn 18 = .ok (.getfield 221, 3) := by decide +kernel
theorem d_L_valueIn_21 : decode c_L_valueIn 21 = .ok (.iload_n 1, 1) := by decide +kernel
theorem d_L_valueIn_22 : decode c_L_valueIn 22 = .ok (.iaload, 1) := by decide +kernel
theorem d_L_valueIn_23 : decode c_L_valueIn 23 = .ok (.ireturn, 1) := by decide +kernel
theorem d_S_firstMark_0 : decode c_S_firstMark 0 = .ok (.bipush 7, 2) := by decide +kernel
theorem d_S_firstMark_2 : decode c_S_firstMark 2 = .ok (.iload_n 0, 1) := by decide +kernel
theorem d_S_firstMark_3 : decode c_S_firstMark 3 = .ok (.imul, 1) := by decide +kernel
theorem d_S_firstMark_4 : decode c_S_firstMark 4 = .ok (.iconst 3, 1) := by decide +kernel
theorem d_S_firstMark_5 : decode c_S_firstMark 5 = .ok (.iadd, 1) := by decide +kernel
theorem d_S_firstMark_6 : decode c_S_firstMark 6 = .ok (.bipush 16, 2) := by decide +kernel
theorem d_S_firstMark_8 : decode c_S_firstMark 8 = .ok (.irem, 1) := by decide +kernel
theorem d_S_firstMark_9 : decode c_S_firstMark 9 = .ok (.ireturn, 1) := by decide +kernel
theorem d_S_secondMark_0 : decode c_S_secondMark 0 = .ok (.iconst 5, 1) := by decide +kernel
theorem d_S_secondMark_1 : decode c_S_secondMark 1 = .ok (.iload_n 0, 1) := by decide +kernel
theorem d_S_secondMark_2 : decode c_S_secondMark 2 = .ok (.imul, 1) := by decide +kernel
theorem d_S_secondMark_3 : decode c_S_secondMark 3 = .ok (.iconst 1, 1) := by decide +kernel
theorem d_S_secondMark_4 : decode c_S_secondMark 4 = .ok (.iadd, 1) := by decide +kernel
theorem d_S_secondMark_5 : decode c_S_secondMark 5 = .ok (.bipush 16, 2) := by decide +kernel
theorem d_S_secondMark_7 : decode c_S_secondMark 7 = .ok (.irem, 1) := by decide +kernel
theorem d_S_secondMark_8 : decode c_S_secondMark 8 = .ok (.ireturn, 1) := by decide +kernel
theorem d_S_passes_0 : decode c_S_passes 0 = .ok (.iload_n 2, 1) := by decide +kernel
theorem d_S_passes_1 : decode c_S_passes 1 = .ok (.invokestatic 69, 3) := by decide +kernel
theorem d_S_passes_4 : decode c_S_passes 4 = .ok (.istore_n 3, 1) := by decide +kernel
theorem d_S_passes_5 : decode c_S_passes 5 = .ok (.iload_n 2, 1) := by decide +kernel
theorem d_S_passes_6 : decode c_S_passes 6 = .ok (.invokestatic 72, 3) := by decide +kernel
theorem d_S_passes_9 : decode c_S_passes 9 = .ok (.istore 4, 2) := by decide +kernel
theorem d_S_passes_11 : decode c_S_passes 11 = .ok (.iconst 0, 1) := by decide +kernel
theorem d_S_passes_12 : decode c_S_passes 12 = .ok (.istore 5, 2) := by decide +kernel
theorem d_S_passes_14 : decode c_S_passes 14 = .ok (.iconst 0, 1) := by decide +kernel
theorem d_S_passes_15 : decode c_S_passes 15 = .ok (.istore 6, 2) := by decide +kernel
theorem d_S_passes_17 : decode c_S_passes 17 = .ok (.aload_n 0, 1) := by decide +kernel
theorem d_S_passes_18 : decode c_S_passes 18 = .ok (.getfield 27, 3) := by decide +kernel
theorem d_S_passes_21 : decode c_S_passes 21 = .ok (.iload_n 1, 1) := by decide +kernel
theorem d_S_passes_22 : decode c_S_passes 22 = .ok (.iaload, 1) := by decide +kernel
theorem d_S_passes_23 : decode c_S_passes 23 = .ok (.istore 7, 2) := by decide +kernel
theorem d_S_passes_25 : decode c_S_passes 25 = .ok (.iload 7, 2) := by decide +kernel
theorem d_S_passes_27 : decode c_S_passes 27 = .ok (.aload_n 0, 1) := by decide +kernel
theorem d_S_passes_28 : decode c_S_passes 28 = .ok (.getfield 27, 3) := by decide +kernel
theorem d_S_passes_31 : decode c_S_passes 31 = .ok (.iload_n 1, 1) := by decide +kernel
theorem d_S_passes_32 : decode c_S_passes 32 = .ok (.iconst 1, 1) := by decide +kernel
theorem d_S_passes_33 : decode c_S_passes 33 = .ok (.iadd, 1) := by decide +kernel
theorem d_S_passes_34 : decode c_S_passes 34 = .ok (.iaload, 1) := by decide +kernel
theorem d_S_passes_35 : decode c_S_passes 35 = .ok (.if_icmp .ge 89, 3) := by decide +kernel
theorem d_S_passes_38 : decode c_S_passes 38 = .ok (.aload_n 0, 1) := by decide +kernel
theorem d_S_passes_39 : decode c_S_passes 39 = .ok (.getfield 14, 3) := by decide +kernel
theorem d_S_passes_42 : decode c_S_passes 42 = .ok (.getfield 45, 3) := by decide +kernel
theorem d_S_passes_45 : decode c_S_passes 45 = .ok (.iload 7, 2) := by decide +kernel
theorem d_S_passes_47 : decode c_S_passes 47 = .ok (.iaload, 1) := by decide +kernel
theorem d_S_passes_48 : decode c_S_passes 48 = .ok (.invokestatic 69, 3) := by decide +kernel
theorem d_S_passes_51 : decode c_S_passes 51 = .ok (.istore 8, 2) := by decide +kernel
theorem d_S_passes_53 : decode c_S_passes 53 = .ok (.aload_n 0, 1) := by decide +kernel
theorem d_S_passes_54 : decode c_S_passes 54 = .ok (.getfield 14, 3) := by decide +kernel
theorem d_S_passes_57 : decode c_S_passes 57 = .ok (.getfield 45, 3) := by decide +kernel
theorem d_S_passes_60 : decode c_S_passes 60 = .ok (.iload 7, 2) := by decide +kernel
theorem d_S_passes_62 : decode c_S_passes 62 = .ok (.iaload, 1) := by decide +kernel
theorem d_S_passes_63 : decode c_S_passes 63 = .ok (.invokestatic 72, 3) := by decide +kernel
theorem d_S_passes_66 : decode c_S_passes 66 = .ok (.istore 9, 2) := by decide +kernel
theorem d_S_passes_68 : decode c_S_passes 68 = .ok (.iload 5, 2) := by decide +kernel
theorem d_S_passes_70 : decode c_S_passes 70 = .ok (.ifCond .ne 15, 3) := by decide +kernel
theorem d_S_passes_73 : decode c_S_passes 73 = .ok (.iload 8, 2) := by decide +kernel
theorem d_S_passes_75 : decode c_S_passes 75 = .ok (.iload_n 3, 1) := by decide +kernel
theorem d_S_passes_76 : decode c_S_passes 76 = .ok (.if_icmp .eq 9, 3) := by decide +kernel
theorem d_S_passes_79 : decode c_S_passes 79 = .ok (.iload 9, 2) := by decide +kernel
theorem d_S_passes_81 : decode c_S_passes 81 = .ok (.iload_n 3, 1) := by decide +kernel
theorem d_S_passes_82 : decode c_S_passes 82 = .ok (.if_icmp .ne 7, 3) := by decide +kernel
theorem d_S_passes_85 : decode c_S_passes 85 = .ok (.iconst 1, 1) := by decide +kernel
theorem d_S_passes_86 : decode c_S_passes 86 = .ok (.goto 4, 3) := by decide +kernel
theorem d_S_passes_89 : decode c_S_passes 89 = .ok (.iconst 0, 1) := by decide +kernel
theorem d_S_passes_90 : decode c_S_passes 90 = .ok (.istore 5, 2) := by decide +kernel
theorem d_S_passes_92 : decode c_S_passes 92 = .ok (.iload 6, 2) := by decide +kernel
theorem d_S_passes_94 : decode c_S_passes 94 = .ok (.ifCond .ne 17, 3) := by decide +kernel
theorem d_S_passes_97 : decode c_S_passes 97 = .ok (.iload 8, 2) := by decide +kernel
theorem d_S_passes_99 : decode c_S_passes 99 = .ok (.iload 4, 2) := by decide +kernel
theorem d_S_passes_101 : decode c_S_passes 101 = .ok (.if_icmp .eq 10, 3) := by decide +kernel
theorem d_S_passes_104 : decode c_S_passes 104 = .ok (.iload 9, 2) := by decide +kernel
theorem d_S_passes_106 : decode c_S_passes 106 = .ok (.iload 4, 2) := by decide +kernel
theorem d_S_passes_108 : decode c_S_passes 108 = .ok (.if_icmp .ne 7, 3) := by decide +kernel
theorem d_S_passes_111 : decode c_S_passes 111 = .ok (.iconst 1, 1) := by decide +kernel
theorem d_S_passes_112 : decode c_S_passes 112 = .ok (.goto 4, 3) := by decide +kernel
theorem d_S_passes_115 : decode c_S_passes 115 = .ok (.iconst 0, 1) := by decide +kernel
theorem d_S_passes_116 : decode c_S_passes 116 = .ok (.istore 6, 2) := by decide +kernel
theorem d_S_passes_118 : decode c_S_passes 118 = .ok (.iinc 7 1, 3) := by decide +kernel
theorem d_S_passes_121 : decode c_S_passes 121 = .ok (.goto (-96), 3) := by decide +kernel
