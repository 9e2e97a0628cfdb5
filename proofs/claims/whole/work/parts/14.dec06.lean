/-! DECODED INSTRUCTIONS -/
theorem d_R_tidy_22 : decode c_R_tidy 22 = .ok (.aload_n 0, 1) := by decide +kernel
theorem d_R_tidy_23 : decode c_R_tidy 23 = .ok (.getfield 82, 3) := by decide +kernel
theorem d_R_tidy_26 : decode c_R_tidy 26 = .ok (.iload_n 2, 1) := by decide +kernel
theorem d_R_tidy_27 : decode c_R_tidy 27 = .ok (.iconst 0, 1) := by decide +kernel
theorem d_R_tidy_28 : decode c_R_tidy 28 = .ok (.bastore, 1) := by decide +kernel
theorem d_R_tidy_29 : decode c_R_tidy 29 = .ok (.iinc 2 1, 3) := by decide +kernel
theorem d_R_tidy_32 : decode c_R_tidy 32 = .ok (.goto (-17), 3) := by decide +kernel
theorem d_R_tidy_35 : decode c_R_tidy 35 = .ok (.aload_n 0, 1) := by decide +kernel
theorem d_R_tidy_36 : decode c_R_tidy 36 = .ok (.iconst 0, 1) := by decide +kernel
theorem d_R_tidy_37 : decode c_R_tidy 37 = .ok (.invokevirtual 156, 3) := by decide +kernel
theorem d_R_tidy_40 : decode c_R_tidy 40 = .ok (.iconst 4, 1) := by decide +kernel
theorem d_R_tidy_41 : decode c_R_tidy 41 = .ok (.if_icmp .lt 48, 3) := by decide +kernel
theorem d_R_tidy_44 : decode c_R_tidy 44 = .ok (.iconst 0, 1) := by decide +kernel
theorem d_R_tidy_45 : decode c_R_tidy 45 = .ok (.istore_n 2, 1) := by decide +kernel
theorem d_R_tidy_46 : decode c_R_tidy 46 = .ok (.iload_n 2, 1) := by decide +kernel
theorem d_R_tidy_47 : decode c_R_tidy 47 = .ok (.aload_n 0, 1) := by decide +kernel
theorem d_R_tidy_48 : decode c_R_tidy 48 = .ok (.getfield 92, 3) := by decide +kernel
theorem d_R_tidy_51 : decode c_R_tidy 51 = .ok (.if_icmp .ge 29, 3) := by decide +kernel
theorem d_R_tidy_54 : decode c_R_tidy 54 = .ok (.aload_n 0, 1) := by decide +kernel
theorem d_R_tidy_55 : decode c_R_tidy 55 = .ok (.getfield 82, 3) := by decide +kernel
theorem d_R_tidy_58 : decode c_R_tidy 58 = .ok (.iload_n 2, 1) := by decide +kernel
theorem d_R_tidy_59 : decode c_R_tidy 59 = .ok (.aload_n 0, 1) := by decide +kernel
theorem d_R_tidy_60 : decode c_R_tidy 60 = .ok (.getfield 26, 3) := by decide +kernel
theorem d_R_tidy_63 : decode c_R_tidy 63 = .ok (.iload_n 2, 1) := by decide +kernel
theorem d_R_tidy_64 : decode c_R_tidy 64 = .ok (.iaload, 1) := by decide +kernel
theorem d_R_tidy_65 : decode c_R_tidy 65 = .ok (.ifCond .ne 7, 3) := by decide +kernel
theorem d_R_tidy_68 : decode c_R_tidy 68 = .ok (.iconst 1, 1) := by decide +kernel
theorem d_R_tidy_69 : decode c_R_tidy 69 = .ok (.goto 4, 3) := by decide +kernel
theorem d_R_tidy_72 : decode c_R_tidy 72 = .ok (.iconst 0, 1) := by decide +kernel
theorem d_R_tidy_73 : decode c_R_tidy 73 = .ok (.bastore, 1) := by decide +kernel
theorem d_R_tidy_74 : decode c_R_tidy 74 = .ok (.iinc 2 1, 3) := by decide +kernel
theorem d_R_tidy_77 : decode c_R_tidy 77 = .ok (.goto (-31), 3) := by decide +kernel
theorem d_R_tidy_80 : decode c_R_tidy 80 = .ok (.aload_n 0, 1) := by decide +kernel
theorem d_R_tidy_81 : decode c_R_tidy 81 = .ok (.iconst 1, 1) := by decide +kernel
theorem d_R_tidy_82 : decode c_R_tidy 82 = .ok (.invokevirtual 159, 3) := by decide +kernel
theorem d_R_tidy_85 : decode c_R_tidy 85 = .ok (.pop, 1) := by decide +kernel
theorem d_R_tidy_86 : decode c_R_tidy 86 = .ok (.goto (-84), 3) := by decide +kernel
theorem d_R_tidy_89 : decode c_R_tidy 89 = .ok (.aload_n 0, 1) := by decide +kernel
theorem d_R_tidy_90 : decode c_R_tidy 90 = .ok (.iconst 1, 1) := by decide +kernel
theorem d_R_tidy_91 : decode c_R_tidy 91 = .ok (.invokevirtual 156, 3) := by decide +kernel
theorem d_R_tidy_94 : decode c_R_tidy 94 = .ok (.iconst 3, 1) := by decide +kernel
theorem d_R_tidy_95 : decode c_R_tidy 95 = .ok (.if_icmp .le 7, 3) := by decide +kernel
theorem d_R_tidy_98 : decode c_R_tidy 98 = .ok (.iconst 1, 1) := by decide +kernel
theorem d_R_tidy_99 : decode c_R_tidy 99 = .ok (.goto 17, 3) := by decide +kernel
theorem d_R_tidy_102 : decode c_R_tidy 102 = .ok (.aload_n 0, 1) := by decide +kernel
theorem d_R_tidy_103 : decode c_R_tidy 103 = .ok (.iconst 2, 1) := by decide +kernel
theorem d_R_tidy_104 : decode c_R_tidy 104 = .ok (.invokevirtual 156, 3) := by decide +kernel
theorem d_R_tidy_107 : decode c_R_tidy 107 = .ok (.iconst 5, 1) := by decide +kernel
theorem d_R_tidy_108 : decode c_R_tidy 108 = .ok (.if_icmp .le 7, 3) := by decide +kernel
theorem d_R_tidy_111 : decode c_R_tidy 111 = .ok (.iconst 2, 1) := by decide +kernel
theorem d_R_tidy_112 : decode c_R_tidy 112 = .ok (.goto 4, 3) := by decide +kernel
theorem d_R_tidy_115 : decode c_R_tidy 115 = .ok (.iconst 0, 1) := by decide +kernel
theorem d_R_tidy_116 : decode c_R_tidy 116 = .ok (.istore_n 2, 1) := by decide +kernel
theorem d_R_tidy_117 : decode c_R_tidy 117 = .ok (.iload_n 2, 1) := by decide +kernel
theorem d_R_tidy_118 : decode c_R_tidy 118 = .ok (.ifCond .le 7, 3) := by decide +kernel
theorem d_R_tidy_121 : decode c_R_tidy 121 = .ok (.iconst 1, 1) := by decide +kernel
theorem d_R_tidy_122 : decode c_R_tidy 122 = .ok (.goto 4, 3) := by decide +kernel
theorem d_R_tidy_125 : decode c_R_tidy 125 = .ok (.iconst 0, 1) := by decide +kernel
theorem d_R_tidy_126 : decode c_R_tidy 126 = .ok (.istore_n 1, 1) := by decide +kernel
theorem d_R_tidy_127 : decode c_R_tidy 127 = .ok (.iload_n 1, 1) := by decide +kernel
theorem d_R_tidy_128 : decode c_R_tidy 128 = .ok (.ifCond .ne 6, 3) := by decide +kernel
theorem d_R_tidy_131 : decode c_R_tidy 131 = .ok (.goto (-129), 3) := by decide +kernel
theorem d_R_tidy_134 : decode c_R_tidy 134 = .ok (.aload_n 0, 1) := by decide +kernel
theorem d_R_tidy_135 : decode c_R_tidy 135 = .ok (.iload_n 2, 1) := by decide +kernel
theorem d_R_tidy_136 : decode c_R_tidy 136 = .ok (.invokevirtual 163, 3) := by decide +kernel
theorem d_R_tidy_139 : decode c_R_tidy 139 = .ok (.istore_n 3, 1) := by decide +kernel
theorem d_R_tidy_140 : decode c_R_tidy 140 = .ok (.aload_n 0, 1) := by decide +kernel
theorem d_R_tidy_141 : decode c_R_tidy 141 = .ok (.iload_n 2, 1) := by decide +kernel
theorem d_R_tidy_142 : decode c_R_tidy 142 = .ok (.iconst 1, 1) := by decide +kernel
theorem d_R_tidy_143 : decode c_R_tidy 143 = .ok (.iadd, 1) := by decide +kernel
theorem d_R_tidy_144 : decode c_R_tidy 144 = .ok (.invokevirtual 159, 3) := by decide +kernel
theorem d_R_tidy_147 : decode c_R_tidy 147 = .ok (.ifCond .eq 10, 3) := by decide +kernel
theorem d_R_tidy_150 : decode c_R_tidy 150 = .ok (.aload_n 0, 1) := by decide +kernel
theorem d_R_tidy_151 : decode c_R_tidy 151 = .ok (.getfield 67, 3) := by decide +kernel
theorem d_R_tidy_154 : decode c_R_tidy 154 = .ok (.iload_n 2, 1) := by decide +kernel
theorem d_R_tidy_155 : decode c_R_tidy 155 = .ok (.iload_n 3, 1) := by decide +kernel
theorem d_R_tidy_156 : decode c_R_tidy 156 = .ok (.iastore, 1) := by decide +kernel
theorem d_R_tidy_157 : decode c_R_tidy 157 = .ok (.goto (-155), 3) := by decide +kernel
theorem d_R_tidy_160 : decode c_R_tidy 160 = .ok (.return_, 1) := by decide +kernel
theorem d_R_flushAll_0 : decode c_R_flushAll 0 = .ok (.aload_n 0, 1) := by decide +kernel
theorem d_R_flushAll_1 : decode c_R_flushAll 1 = .ok (.iconst 0, 1) := by decide +kernel
theorem d_R_flushAll_2 : decode c_R_flushAll 2 = .ok (.putfield 108, 3) := by decide +kernel
theorem d_R_flushAll_5 : decode c_R_flushAll 5 = .ok (.iconst 0, 1) := by decide +kernel
theorem d_R_flushAll_6 : decode c_R_flushAll 6 = .ok (.istore_n 1, 1) := by decide +kernel
theorem d_R_flushAll_7 : decode c_R_flushAll 7 = .ok (.iload_n 1, 1) := by decide +kernel
theorem d_R_flushAll_8 : decode c_R_flushAll 8 = .ok (.aload_n 0, 1) := by decide +kernel
theorem d_R_flushAll_9 : decode c_R_flushAll 9 = .ok (.getfield 166, 3) := by decide +kernel
theorem d_R_flushAll_12 : decode c_R_flushAll 12 = .ok (.if_icmp .ge 37, 3) := by decide +kernel
theorem d_R_flushAll_15 : decode c_R_flushAll 15 = .ok (.aload_n 0, 1) := by decide +kernel
theorem d_R_flushAll_16 : decode c_R_flushAll 16 = .ok (.aload_n 0, 1) := by decide +kernel
theorem d_R_flushAll_17 : decode c_R_flushAll 17 = .ok (.getfield 36, 3) := by decide +kernel
theorem d_R_flushAll_20 : decode c_R_flushAll 20 = .ok (.iload_n 1, 1) := by decide +kernel
theorem d_R_flushAll_21 : decode c_R_flushAll 21 = .ok (.iaload, 1) := by decide +kernel
theorem d_R_flushAll_22 : decode c_R_flushAll 22 = .ok (.aload_n 0, 1) := by decide +kernel
theorem d_R_flushAll_23 : decode c_R_flushAll 23 = .ok (.getfield 39, 3) := by decide +kernel
theorem d_R_flushAll_26 : decode c_R_flushAll 26 = .ok (.iload_n 1, 1) := by decide +kernel
theorem d_R_flushAll_27 : decode c_R_flushAll 27 = .ok (.iaload, 1) := by decide +kernel
theorem d_R_flushAll_28 : decode c_R_flushAll 28 = .ok (.aload_n 0, 1) := by decide +kernel
theorem d_R_flushAll_29 : decode c_R_flushAll 29 = .ok (.getfield 42, 3) := by decide +kernel
theorem d_R_flushAll_32 : decode c_R_flushAll 32 = .ok (.iload_n 1, 1) := by decide +kernel
theorem d_R_flushAll_33 : decode c_R_flushAll 33 = .ok (.iaload, 1) := by decide +kernel
theorem d_R_flushAll_34 : decode c_R_flushAll 34 = .ok (.aload_n 0, 1) := by decide +kernel
theorem d_R_flushAll_35 : decode c_R_flushAll 35 = .ok (.getfield 45, 3) := by decide +kernel
theorem d_R_flushAll_38 : decode c_R_flushAll 38 = .ok (.iload_n 1, 1) := by decide +kernel
theorem d_R_flushAll_39 : decode c_R_flushAll 39 = .ok (.baload, 1) := by decide +kernel
theorem d_R_flushAll_40 : decode c_R_flushAll 40 = .ok (.invokevirtual 138, 3) := by decide +kernel
theorem d_R_flushAll_43 : decode c_R_flushAll 43 = .ok (.iinc 1 1, 3) := by decide +kernel
theorem d_R_flushAll_46 : decode c_R_flushAll 46 = .ok (.goto (-39), 3) := by decide +kernel
theorem d_R_flushAll_49 : decode c_R_flushAll 49 = .ok (.aload_n 0, 1) := by decide +kernel
theorem d_R_flushAll_50 : decode c_R_flushAll 50 = .ok (.iconst 0, 1) := by decide +kernel
theorem d_R_flushAll_51 : decode c_R_flushAll 51 = .ok (.iconst 0, 1) := by decide +kernel
theorem d_R_flushAll_52 : decode c_R_flushAll 52 = .ok (.iconst 0, 1) := by decide +kernel
theorem d_R_flushAll_53 : decode c_R_flushAll 53 = .ok (.aload_n 0, 1) := by decide +kernel
theorem d_R_flushAll_54 : decode c_R_flushAll 54 = .ok (.getfield 108, 3) := by decide +kernel
theorem d_R_flushAll_57 : decode c_R_flushAll 57 = .ok (.invokevirtual 152, 3) := by decide +kernel
theorem d_R_flushAll_60 : decode c_R_flushAll 60 = .ok (.aload_n 0, 1) := by decide +kernel
theorem d_R_flushAll_61 : decode c_R_flushAll 61 = .ok (.iconst 0, 1) := by decide +kernel
theorem d_R_flushAll_62 : decode c_R_flushAll 62 = .ok (.putfield 166, 3) := by decide +kernel
theorem d_R_flushAll_65 : decode c_R_flushAll 65 = .ok (.aload_n 0, 1) := by decide +kernel
theorem d_R_flushAll_66 : decode c_R_flushAll 66 = .ok (.iconst 0, 1) := by decide +kernel
theorem d_R_flushAll_67 : decode c_R_flushAll 67 = .ok (.putfield 169, 3) := by decide +kernel
theorem d_R_flushAll_70 : decode c_R_flushAll 70 = .ok (.aload_n 0, 1) := by decide +kernel
theorem d_R_flushAll_71 : decode c_R_flushAll 71 = .ok (.iconst 0, 1) := by decide +kernel
theorem d_R_flushAll_72 : decode c_R_flushAll 72 = .ok (.putfield 172, 3) := by decide +kernel
theorem d_R_flushAll_75 : decode c_R_flushAll 75 = .ok (.aload_n 0, 1) := by decide +kernel
theorem d_R_flushAll_76 : decode c_R_flushAll 76 = .ok (.getfield 134, 3) := by decide +kernel
theorem d_R_flushAll_79 : decode c_R_flushAll 79 = .ok (.ifCond .ne 7, 3) := by decide +kernel
theorem d_R_flushAll_82 : decode c_R_flushAll 82 = .ok (.aload_n 0, 1) := by decide +kernel
theorem d_R_flushAll_83 : decode c_R_flushAll 83 = .ok (.invokevirtual 175, 3) := by decide +kernel
theorem d_R_flushAll_86 : decode c_R_flushAll 86 = .ok (.return_, 1) := by decide +kernel
theorem d_R_logged_0 : decode c_R_logged 0 = .ok (.aload_n 0, 1) := by decide +kernel
theorem d_R_logged_1 : decode c_R_logged 1 = .ok (.getfield 48, 3) := by decide +kernel
theorem d_R_logged_4 : decode c_R_logged 4 = .ok (.aload_n 0, 1) := by decide +kernel
theorem d_R_logged_5 : decode c_R_logged 5 = .ok (.getfield 169, 3) := by decide +kernel
theorem d_R_logged_8 : decode c_R_logged 8 = .ok (.iload_n 1, 1) := by decide +kernel
theorem d_R_logged_9 : decode c_R_logged 9 = .ok (.iastore, 1) := by decide +kernel
theorem d_R_logged_10 : decode c_R_logged 10 = .ok (.aload_n 0, 1) := by decide +kernel
theorem d_R_logged_11 : decode c_R_logged 11 = .ok (.dup, 1) := by decide +kernel
theorem d_R_logged_12 : decode c_R_logged 12 = .ok (.getfield 169, 3) := by decide +kernel
theorem d_R_logged_15 : decode c_R_logged 15 = .ok (.iconst 1, 1) := by decide +kernel
theorem d_R_logged_16 : decode c_R_logged 16 = .ok (.iadd, 1) := by decide +kernel
theorem d_R_logged_17 : decode c_R_logged 17 = .ok (.putfield 169, 3) := by decide +kernel
theorem d_R_logged_20 : decode c_R_logged 20 = .ok (.aload_n 0, 1) := by decide +kernel
theorem d_R_logged_21 : decode c_R_logged 21 = .ok (.getfield 166, 3) := by decide +kernel
theorem d_R_logged_24 : decode c_R_logged 24 = .ok (.bipush 8, 2) := by decide +kernel
theorem d_R_logged_26 : decode c_R_logged 26 = .ok (.if_icmp .lt 7, 3) := by decide +kernel
theorem d_R_logged_29 : decode c_R_logged 29 = .ok (.aload_n 0, 1) := by decide +kernel
theorem d_R_logged_30 : decode c_R_logged 30 = .ok (.invokevirtual 178, 3) := by decide +kernel
theorem d_R_logged_33 : decode c_R_logged 33 = .ok (.return_, 1) := by decide +kernel
theorem d_R_write_0 : decode c_R_write 0 = .ok (.aload_n 0, 1) := by decide +kernel
theorem d_R_write_1 : decode c_R_write 1 = .ok (.iconst 0, 1) := by decide +kernel
theorem d_R_write_2 : decode c_R_write 2 = .ok (.putfield 85, 3) := by decide +kernel
theorem d_R_write_5 : decode c_R_write 5 = .ok (.iload_n 1, 1) := by decide +kernel
theorem d_R_write_6 : decode c_R_write 6 = .ok (.iconst 0, 1) := by decide +kernel
theorem d_R_write_7 : decode c_R_write 7 = .ok (.bipush 63, 2) := by decide +kernel
theorem d_R_write_9 : decode c_R_write 9 = .ok (.invokestatic 181, 3) := by decide +kernel
theorem d_R_write_12 : decode c_R_write 12 = .ok (.ifCond .ne 9, 3) := by decide +kernel
theorem d_R_write_15 : decode c_R_write 15 = .ok (.aload_n 0, 1) := by decide +kernel
theorem d_R_write_16 : decode c_R_write 16 = .ok (.iconst 1, 1) := by decide +kernel
theorem d_R_write_17 : decode c_R_write 17 = .ok (.invokevirtual 185, 3) := by decide +kernel
theorem d_R_write_20 : decode c_R_write 20 = .ok (.ireturn, 1) := by decide +kernel
theorem d_R_write_21 : decode c_R_write 21 = .ok (.aload_n 0, 1) := by decide +kernel
theorem d_R_write_22 : decode c_R_write 22 = .ok (.getfield 60, 3) := by decide +kernel
theorem d_R_write_25 : decode c_R_write 25 = .ok (.iconst 4, 1) := by decide +kernel
theorem d_R_write_26 : decode c_R_write 26 = .ok (.if_icmp .ne 9, 3) := by decide +kernel
theorem d_R_write_29 : decode c_R_write 29 = .ok (.aload_n 0, 1) := by decide +kernel
theorem d_R_write_30 : decode c_R_write 30 = .ok (.iconst 3, 1) := by decide +kernel
theorem d_R_write_31 : decode c_R_write 31 = .ok (.invokevirtual 185, 3) := by decide +kernel
theorem d_R_write_34 : decode c_R_write 34 = .ok (.ireturn, 1) := by decide +kernel
theorem d_R_write_35 : decode c_R_write 35 = .ok (.aload_n 0, 1) := by decide +kernel
theorem d_R_write_36 : decode c_R_write 36 = .ok (.getfield 60, 3) := by decide +kernel
theorem d_R_write_39 : decode c_R_write 39 = .ok (.ifCond .lt 48, 3) := by decide +kernel
theorem d_R_write_42 : decode c_R_write 42 = .ok (.aload_n 0, 1) := by decide +kernel
theorem d_R_write_43 : decode c_R_write 43 = .ok (.getfield 51, 3) := by decide +kernel
theorem d_R_write_46 : decode c_R_write 46 = .ok (.aload_n 0, 1) := by decide +kernel
theorem d_R_write_47 : decode c_R_write 47 = .ok (.getfield 60, 3) := by decide +kernel
theorem d_R_write_50 : decode c_R_write 50 = .ok (.iload_n 1, 1) := by decide +kernel
theorem d_R_write_51 : decode c_R_write 51 = .ok (.iastore, 1) := by decide +kernel
theorem d_R_write_52 : decode c_R_write 52 = .ok (.aload_n 0, 1) := by decide +kernel
theorem d_R_write_53 : decode c_R_write 53 = .ok (.getfield 54, 3) := by decide +kernel
theorem d_R_write_56 : decode c_R_write 56 = .ok (.aload_n 0, 1) := by decide +kernel
theorem d_R_write_57 : decode c_R_write 57 = .ok (.getfield 60, 3) := by decide +kernel
theorem d_R_write_60 : decode c_R_write 60 = .ok (.iload_n 2, 1) := by decide +kernel
theorem d_R_write_61 : decode c_R_write 61 = .ok (.iastore, 1) := by decide +kernel
theorem d_R_write_62 : decode c_R_write 62 = .ok (.aload_n 0, 1) := by decide +kernel
theorem d_R_write_63 : decode c_R_write 63 = .ok (.getfield 57, 3) := by decide +kernel
theorem d_R_write_66 : decode c_R_write 66 = .ok (.aload_n 0, 1) := by decide +kernel
theorem d_R_write_67 : decode c_R_write 67 = .ok (.getfield 60, 3) := by decide +kernel
theorem d_R_write_70 : decode c_R_write 70 = .ok (.iload_n 3, 1) := by decide +kernel
theorem d_R_write_71 : decode c_R_write 71 = .ok (.bastore, 1) := by decide +kernel
theorem d_R_write_72 : decode c_R_write 72 = .ok (.aload_n 0, 1) := by decide +kernel
theorem d_R_write_73 : decode c_R_write 73 = .ok (.dup, 1) := by decide +kernel
theorem d_R_write_74 : decode c_R_write 74 = .ok (.getfield 60, 3) := by decide +kernel
theorem d_R_write_77 : decode c_R_write 77 = .ok (.iconst 1, 1) := by decide +kernel
theorem d_R_write_78 : decode c_R_write 78 = .ok (.iadd, 1) := by decide +kernel
theorem d_R_write_79 : decode c_R_write 79 = .ok (.putfield 60, 3) := by decide +kernel
theorem d_R_write_82 : decode c_R_write 82 = .ok (.aload_n 0, 1) := by decide +kernel
theorem d_R_write_83 : decode c_R_write 83 = .ok (.getfield 60, 3) := by decide +kernel
theorem d_R_write_86 : decode c_R_write 86 = .ok (.ireturn, 1) := by decide +kernel
theorem d_R_write_87 : decode c_R_write 87 = .ok (.aload_n 0, 1) := by decide +kernel
theorem d_R_write_88 : decode c_R_write 88 = .ok (.iconst 1, 1) := by decide +kernel
theorem d_R_write_89 : decode c_R_write 89 = .ok (.invokevirtual 188, 3) := by decide +kernel
theorem d_R_write_92 : decode c_R_write 92 = .ok (.ifCond .eq 9, 3) := by decide +kernel
theorem d_R_write_95 : decode c_R_write 95 = .ok (.aload_n 0, 1) := by decide +kernel
theorem d_R_write_96 : decode c_R_write 96 = .ok (.iconst 2, 1) := by decide +kernel
theorem d_R_write_97 : decode c_R_write 97 = .ok (.invokevirtual 185, 3) := by decide +kernel
theorem d_R_write_100 : decode c_R_write 100 = .ok (.ireturn, 1) := by decide +kernel
theorem d_R_write_101 : decode c_R_write 101 = .ok (.aload_n 0, 1) := by decide +kernel
theorem d_R_write_102 : decode c_R_write 102 = .ok (.iload_n 1, 1) := by decide +kernel
theorem d_R_write_103 : decode c_R_write 103 = .ok (.iload_n 2, 1) := by decide +kernel
theorem d_R_write_104 : decode c_R_write 104 = .ok (.iload_n 3, 1) := by decide +kernel
theorem d_R_write_105 : decode c_R_write 105 = .ok (.invokevirtual 191, 3) := by decide +kernel
theorem d_R_write_108 : decode c_R_write 108 = .ok (.aload_n 0, 1) := by decide +kernel
theorem d_R_write_109 : decode c_R_write 109 = .ok (.getfield 114, 3) := by decide +kernel
theorem d_R_write_112 : decode c_R_write 112 = .ok (.istore 4, 2) := by decide +kernel
theorem d_R_write_114 : decode c_R_write 114 = .ok (.aload_n 0, 1) := by decide +kernel
theorem d_R_write_115 : decode c_R_write 115 = .ok (.iconst 1, 1) := by decide +kernel
theorem d_R_write_116 : decode c_R_write 116 = .ok (.invokevirtual 195, 3) := by decide +kernel
theorem d_R_write_119 : decode c_R_write 119 = .ok (.iload 4, 2) := by decide +kernel
theorem d_R_write_121 : decode c_R_write 121 = .ok (.ireturn, 1) := by decide +kernel
theorem d_R_put_0 : decode c_R_put 0 = .ok (.aload_n 0, 1) := by decide +kernel
theorem d_R_put_1 : decode c_R_put 1 = .ok (.iload_n 1, 1) := by decide +kernel
theorem d_R_put_2 : decode c_R_put 2 = .ok (.iload_n 2, 1) := by decide +kernel
theorem d_R_put_3 : decode c_R_put 3 = .ok (.iconst 0, 1) := by decide +kernel
theorem d_R_put_4 : decode c_R_put 4 = .ok (.invokevirtual 198, 3) := by decide +kernel
theorem d_R_put_7 : decode c_R_put 7 = .ok (.ireturn, 1) := by decide +kernel
theorem d_R_remove_0 : decode c_R_remove 0 = .ok (.aload_n 0, 1) := by decide +kernel
theorem d_R_remove_1 : decode c_R_remove 1 = .ok (.iload_n 1, 1) := by decide +kernel
theorem d_R_remove_2 : decode c_R_remove 2 = .ok (.iconst 0, 1) := by decide +kernel
theorem d_R_remove_3 : decode c_R_remove 3 = .ok (.iconst 1, 1) := by decide +kernel
theorem d_R_remove_4 : decode c_R_remove 4 = .ok (.invokevirtual 198, 3) := by decide +kernel
theorem d_R_remove_7 : decode c_R_remove 7 = .ok (.ireturn, 1) := by decide +kernel
theorem d_R_open_0 : decode c_R_open 0 = .ok (.aload_n 0, 1) := by decide +kernel
theorem d_R_open_1 : decode c_R_open 1 = .ok (.iconst 0, 1) := by decide +kernel
theorem d_R_open_2 : decode c_R_open 2 = .ok (.putfield 85, 3) := by decide +kernel
theorem d_R_open_5 : decode c_R_open 5 = .ok (.aload_n 0, 1) := by decide +kernel
theorem d_R_open_6 : decode c_R_open 6 = .ok (.getfield 60, 3) := by decide +kernel
theorem d_R_open_9 : decode c_R_open 9 = .ok (.ifCond .lt 9, 3) := by decide +kernel
theorem d_R_open_12 : decode c_R_open 12 = .ok (.aload_n 0, 1) := by decide +kernel
theorem d_R_open_13 : decode c_R_open 13 = .ok (.iconst 1, 1) := by decide +kernel
theorem d_R_open_14 : decode c_R_open 14 = .ok (.invokevirtual 185, 3) := by decide +kernel
theorem d_R_open_17 : decode c_R_open 17 = .ok (.ireturn, 1) := by decide +kernel
theorem d_R_open_18 : decode c_R_open 18 = .ok (.aload_n 0, 1) := by decide +kernel
theorem d_R_open_19 : decode c_R_open 19 = .ok (.iconst 0, 1) := by decide +kernel
theorem d_R_open_20 : decode c_R_open 20 = .ok (.putfield 60, 3) := by decide +kernel
theorem d_R_open_23 : decode c_R_open 23 = .ok (.aload_n 0, 1) := by decide +kernel
theorem d_R_open_24 : decode c_R_open 24 = .ok (.getfield 114, 3) := by decide +kernel
theorem d_R_open_27 : decode c_R_open 27 = .ok (.ireturn, 1) := by decide +kernel
theorem d_R_close_0 : decode c_R_close 0 = .ok (.aload_n 0, 1) := by decide +kernel
theorem d_R_close_1 : decode c_R_close 1 = .ok (.iconst 0, 1) := by decide +kernel
theorem d_R_close_2 : decode c_R_close 2 = .ok (.putfield 85, 3) := by decide +kernel
theorem d_R_close_5 : decode c_R_close 5 = .ok (.aload_n 0, 1) := by decide +kernel
theorem d_R_close_6 : decode c_R_close 6 = .ok (.getfield 60, 3) := by decide +kernel
theorem d_R_close_9 : decode c_R_close 9 = .ok (.ifCond .ge 9, 3) := by decide +kernel
theorem d_R_close_12 : decode c_R_close 12 = .ok (.aload_n 0, 1) := by decide +kernel
theorem d_R_close_13 : decode c_R_close 13 = .ok (.iconst 2, 1) := by decide +kernel
theorem d_R_close_14 : decode c_R_close 14 = .ok (.invokevirtual 185, 3) := by decide +kernel
theorem d_R_close_17 : decode c_R_close 17 = .ok (.ireturn, 1) := by decide +kernel
theorem d_R_close_18 : decode c_R_close 18 = .ok (.iload_n 1, 1) := by decide +kernel
theorem d_R_close_19 : decode c_R_close 19 = .ok (.ifCond .eq 73, 3) := by decide +kernel
theorem d_R_close_22 : decode c_R_close 22 = .ok (.aload_n 0, 1) := by decide +kernel
theorem d_R_close_23 : decode c_R_close 23 = .ok (.getfield 60, 3) := by decide +kernel
theorem d_R_close_26 : decode c_R_close 26 = .ok (.ifCond .le 66, 3) := by decide +kernel
theorem d_R_close_29 : decode c_R_close 29 = .ok (.aload_n 0, 1) := by decide +kernel
theorem d_R_close_30 : decode c_R_close 30 = .ok (.aload_n 0, 1) := by decide +kernel
theorem d_R_close_31 : decode c_R_close 31 = .ok (.getfield 60, 3) := by decide +kernel
theorem d_R_close_34 : decode c_R_close 34 = .ok (.invokevirtual 188, 3) := by decide +kernel
theorem d_R_close_37 : decode c_R_close 37 = .ok (.ifCond .eq 9, 3) := by decide +kernel
theorem d_R_close_40 : decode c_R_close 40 = .ok (.aload_n 0, 1) := by decide +kernel
theorem d_R_close_41 : decode c_R_close 41 = .ok (.iconst 1, 1) := by decide +kernel
theorem d_R_close_42 : decode c_R_close 42 = .ok (.invokevirtual 185, 3) := by decide +kernel
theorem d_R_close_45 : decode c_R_close 45 = .ok (.ireturn, 1) := by decide +kernel
theorem d_R_close_46 : decode c_R_close 46 = .ok (.iconst 0, 1) := by decide +kernel
theorem d_R_close_47 : decode c_R_close 47 = .ok (.istore_n 2, 1) := by decide +kernel
theorem d_R_close_48 : decode c_R_close 48 = .ok (.iload_n 2, 1) := by decide +kernel
theorem d_R_close_49 : decode c_R_close 49 = .ok (.aload_n 0, 1) := by decide +kernel
theorem d_R_close_50 : decode c_R_close 50 = .ok (.getfield 60, 3) := by decide +kernel
theorem d_R_close_53 : decode c_R_close 53 = .ok (.if_icmp .ge 31, 3) := by decide +kernel
theorem d_R_close_56 : decode c_R_close 56 = .ok (.aload_n 0, 1) := by decide +kernel
theorem d_R_close_57 : decode c_R_close 57 = .ok (.aload_n 0, 1) := by decide +kernel
theorem d_R_close_58 : decode c_R_close 58 = .ok (.getfield 51, 3) := by decide +kernel
theorem d_R_close_61 : decode c_R_close 61 = .ok (.iload_n 2, 1) := by decide +kernel
theorem d_R_close_62 : decode c_R_close 62 = .ok (.iaload, 1) := by decide +kernel
theorem d_R_close_63 : decode c_R_close 63 = .ok (.aload_n 0, 1) := by decide +kernel
theorem d_R_close_64 : decode c_R_close 64 = .ok (.getfield 54, 3) := by decide +kernel
theorem d_R_close_67 : decode c_R_close 67 = .ok (.iload_n 2, 1) := by decide +kernel
theorem d_R_close_68 : decode c_R_close 68 = .ok (.iaload, 1) := by decide +kernel
theorem d_R_close_69 : decode c_R_close 69 = .ok (.aload_n 0, 1) := by decide +kernel
theorem d_R_close_70 : decode c_R_close 70 = .ok (.getfield 57, 3) := by decide +kernel
theorem d_R_close_73 : decode c_R_close 73 = .ok (.iload_n 2, 1) := by decide +kernel
theorem d_R_close_74 : decode c_R_close 74 = .ok (.baload, 1) := by decide +kernel
theorem d_R_close_75 : decode c_R_close 75 = .ok (.invokevirtual 191, 3) := by decide +kernel
theorem d_R_close_78 : decode c_R_close 78 = .ok (.iinc 2 1, 3) := by decide +kernel
theorem d_R_close_81 : decode c_R_close 81 = .ok (.goto (-33), 3) := by decide +kernel
theorem d_R_close_84 : decode c_R_close 84 = .ok (.aload_n 0, 1) := by decide +kernel
theorem d_R_close_85 : decode c_R_close 85 = .ok (.aload_n 0, 1) := by decide +kernel
theorem d_R_close_86 : decode c_R_close 86 = .ok (.getfield 60, 3) := by decide +kernel
theorem d_R_close_89 : decode c_R_close 89 = .ok (.invokevirtual 195, 3) := by decide +kernel
theorem d_R_close_92 : decode c_R_close 92 = .ok (.aload_n 0, 1) := by decide +kernel
theorem d_R_close_93 : decode c_R_close 93 = .ok (.iconst (-1), 1) := by decide +kernel
theorem d_R_close_94 : decode c_R_close 94 = .ok (.putfield 60, 3) := by decide +kernel
theorem d_R_close_97 : decode c_R_close 97 = .ok (.aload_n 0, 1) := by decide +kernel
theorem d_R_close_98 : decode c_R_close 98 = .ok (.getfield 114, 3) := by decide +kernel
theorem d_R_close_101 : decode c_R_close 101 = .ok (.ireturn, 1) := by decide +kernel
theorem d_R_sync_0 : decode c_R_sync 0 = .ok (.aload_n 0, 1) := by decide +kernel
theorem d_R_sync_1 : decode c_R_sync 1 = .ok (.iconst 0, 1) := by decide +kernel
theorem d_R_sync_2 : decode c_R_sync 2 = .ok (.putfield 85, 3) := by decide +kernel
theorem d_R_sync_5 : decode c_R_sync 5 = .ok (.aload_n 0, 1) := by decide +kernel
theorem d_R_sync_6 : decode c_R_sync 6 = .ok (.aload_n 0, 1) := by decide +kernel
theorem d_R_sync_7 : decode c_R_sync 7 = .ok (.getfield 169, 3) := by decide +kernel
theorem d_R_sync_10 : decode c_R_sync 10 = .ok (.putfield 172, 3) := by decide +kernel
theorem d_R_sync_13 : decode c_R_sync 13 = .ok (.aload_n 0, 1) := by decide +kernel
theorem d_R_sync_14 : decode c_R_sync 14 = .ok (.getfield 169, 3) := by decide +kernel
theorem d_R_sync_17 : decode c_R_sync 17 = .ok (.ireturn, 1) := by decide +kernel
theorem d_R_crash_0 : decode c_R_crash 0 = .ok (.aload_n 0, 1) := by decide +kernel
theorem d_R_crash_1 : decode c_R_crash 1 = .ok (.iconst 0, 1) := by decide +kernel
theorem d_R_crash_2 : decode c_R_crash 2 = .ok (.putfield 85, 3) := by decide +kernel
theorem d_R_crash_5 : decode c_R_crash 5 = .ok (.iload_n 1, 1) := by decide +kernel
theorem d_R_crash_6 : decode c_R_crash 6 = .ok (.iconst 0, 1) := by decide +kernel
theorem d_R_crash_7 : decode c_R_crash 7 = .ok (.bipush 100, 2) := by decide +kernel
theorem d_R_crash_9 : decode c_R_crash 9 = .ok (.invokestatic 181, 3) := by decide +kernel
theorem d_R_crash_12 : decode c_R_crash 12 = .ok (.ifCond .ne 9, 3) := by decide +kernel
theorem d_R_crash_15 : decode c_R_crash 15 = .ok (.aload_n 0, 1) := by decide +kernel
theorem d_R_crash_16 : decode c_R_crash 16 = .ok (.iconst 1, 1) := by decide +kernel
theorem d_R_crash_17 : decode c_R_crash 17 = .ok (.invokevirtual 185, 3) := by decide +kernel
theorem d_R_crash_20 : decode c_R_crash 20 = .ok (.ireturn, 1) := by decide +kernel
theorem d_R_crash_21 : decode c_R_crash 21 = .ok (.aload_n 0, 1) := by decide +kernel
theorem d_R_crash_22 : decode c_R_crash 22 = .ok (.iconst (-1), 1) := by decide +kernel
theorem d_R_crash_23 : decode c_R_crash 23 = .ok (.putfield 60, 3) := by decide +kernel
theorem d_R_crash_26 : decode c_R_crash 26 = .ok (.iconst 0, 1) := by decide +kernel
theorem d_R_crash_27 : decode c_R_crash 27 = .ok (.istore_n 2, 1) := by decide +kernel
theorem d_R_crash_28 : decode c_R_crash 28 = .ok (.iload_n 2, 1) := by decide +kernel
theorem d_R_crash_29 : decode c_R_crash 29 = .ok (.iconst 4, 1) := by decide +kernel
theorem d_R_crash_30 : decode c_R_crash 30 = .ok (.if_icmp .ge 16, 3) := by decide +kernel
theorem d_R_crash_33 : decode c_R_crash 33 = .ok (.aload_n 0, 1) := by decide +kernel
theorem d_R_crash_34 : decode c_R_crash 34 = .ok (.getfield 64, 3) := by decide +kernel
theorem d_R_crash_37 : decode c_R_crash 37 = .ok (.iload_n 2, 1) := by decide +kernel
theorem d_R_crash_38 : decode c_R_crash 38 = .ok (.iconst (-1), 1) := by decide +kernel
theorem d_R_crash_39 : decode c_R_crash 39 = .ok (.iastore, 1) := by decide +kernel
theorem d_R_crash_40 : decode c_R_crash 40 = .ok (.iinc 2 1, 3) := by decide +kernel
theorem d_R_crash_43 : decode c_R_crash 43 = .ok (.goto (-15), 3) := by decide +kernel
theorem d_R_crash_46 : decode c_R_crash 46 = .ok (.aload_n 0, 1) := by decide +kernel
theorem d_R_crash_47 : decode c_R_crash 47 = .ok (.getfield 172, 3) := by decide +kernel
theorem d_R_crash_50 : decode c_R_crash 50 = .ok (.iload_n 1, 1) := by decide +kernel
theorem d_R_crash_51 : decode c_R_crash 51 = .ok (.iadd, 1) := by decide +kernel
theorem d_R_crash_52 : decode c_R_crash 52 = .ok (.aload_n 0, 1) := by decide +kernel
theorem d_R_crash_53 : decode c_R_crash 53 = .ok (.getfield 169, 3) := by decide +kernel
theorem d_R_crash_56 : decode c_R_crash 56 = .ok (.if_icmp .ge 13, 3) := by decide +kernel
theorem d_R_crash_59 : decode c_R_crash 59 = .ok (.aload_n 0, 1) := by decide +kernel
theorem d_R_crash_60 : decode c_R_crash 60 = .ok (.aload_n 0, 1) := by decide +kernel
theorem d_R_crash_61 : decode c_R_crash 61 = .ok (.getfield 172, 3) := by decide +kernel
theorem d_R_crash_64 : decode c_R_crash 64 = .ok (.iload_n 1, 1) := by decide +kernel
theorem d_R_crash_65 : decode c_R_crash 65 = .ok (.iadd, 1) := by decide +kernel
theorem d_R_crash_66 : decode c_R_crash 66 = .ok (.putfield 169, 3) := by decide +kernel
theorem d_R_crash_69 : decode c_R_crash 69 = .ok (.aload_n 0, 1) := by decide +kernel
theorem d_R_crash_70 : decode c_R_crash 70 = .ok (.aload_n 0, 1) := by decide +kernel
theorem d_R_crash_71 : decode c_R_crash 71 = .ok (.getfield 169, 3) := by decide +kernel
theorem d_R_crash_74 : decode c_R_crash 74 = .ok (.putfield 172, 3) := by decide +kernel
theorem d_R_crash_77 : decode c_R_crash 77 = .ok (.aload_n 0, 1) := by decide +kernel
theorem d_R_crash_78 : decode c_R_crash 78 = .ok (.iconst 0, 1) := by decide +kernel
theorem d_R_crash_79 : decode c_R_crash 79 = .ok (.putfield 166, 3) := by decide +kernel
theorem d_R_crash_82 : decode c_R_crash 82 = .ok (.iconst 0, 1) := by decide +kernel
theorem d_R_crash_83 : decode c_R_crash 83 = .ok (.istore_n 2, 1) := by decide +kernel
theorem d_R_crash_84 : decode c_R_crash 84 = .ok (.iload_n 2, 1) := by decide +kernel
theorem d_R_crash_85 : decode c_R_crash 85 = .ok (.aload_n 0, 1) := by decide +kernel
theorem d_R_crash_86 : decode c_R_crash 86 = .ok (.getfield 169, 3) := by decide +kernel
theorem d_R_crash_89 : decode c_R_crash 89 = .ok (.if_icmp .ge 24, 3) := by decide +kernel
theorem d_R_crash_92 : decode c_R_crash 92 = .ok (.aload_n 0, 1) := by decide +kernel
theorem d_R_crash_93 : decode c_R_crash 93 = .ok (.dup, 1) := by decide +kernel
theorem d_R_crash_94 : decode c_R_crash 94 = .ok (.getfield 166, 3) := by decide +kernel
theorem d_R_crash_97 : decode c_R_crash 97 = .ok (.aload_n 0, 1) := by decide +kernel
theorem d_R_crash_98 : decode c_R_crash 98 = .ok (.getfield 48, 3) := by decide +kernel
theorem d_R_crash_101 : decode c_R_crash 101 = .ok (.iload_n 2, 1) := by decide +kernel
theorem d_R_crash_102 : decode c_R_crash 102 = .ok (.iaload, 1) := by decide +kernel
theorem d_R_crash_103 : decode c_R_crash 103 = .ok (.iadd, 1) := by decide +kernel
theorem d_R_crash_104 : decode c_R_crash 104 = .ok (.putfield 166, 3) := by decide +kernel
theorem d_R_crash_107 : decode c_R_crash 107 = .ok (.iinc 2 1, 3) := by decide +kernel
theorem d_R_crash_110 : decode c_R_crash 110 = .ok (.goto (-26), 3) := by decide +kernel
theorem d_R_crash_113 : decode c_R_crash 113 = .ok (.aload_n 0, 1) := by decide +kernel
theorem d_R_crash_114 : decode c_R_crash 114 = .ok (.iconst 0, 1) := by decide +kernel
theorem d_R_crash_115 : decode c_R_crash 115 = .ok (.putfield 114, 3) := by decide +kernel
theorem d_R_crash_118 : decode c_R_crash 118 = .ok (.iconst 0, 1) := by decide +kernel
theorem d_R_crash_119 : decode c_R_crash 119 = .ok (.istore_n 2, 1) := by decide +kernel
theorem d_R_crash_120 : decode c_R_crash 120 = .ok (.iload_n 2, 1) := by decide +kernel
theorem d_R_crash_121 : decode c_R_crash 121 = .ok (.aload_n 0, 1) := by decide +kernel
theorem d_R_crash_122 : decode c_R_crash 122 = .ok (.getfield 166, 3) := by decide +kernel
theorem d_R_crash_125 : decode c_R_crash 125 = .ok (.if_icmp .ge 32, 3) := by decide +kernel
theorem d_R_crash_128 : decode c_R_crash 128 = .ok (.aload_n 0, 1) := by decide +kernel
theorem d_R_crash_129 : decode c_R_crash 129 = .ok (.getfield 39, 3) := by decide +kernel
theorem d_R_crash_132 : decode c_R_crash 132 = .ok (.iload_n 2, 1) := by decide +kernel
theorem d_R_crash_133 : decode c_R_crash 133 = .ok (.iaload, 1) := by decide +kernel
theorem d_R_crash_134 : decode c_R_crash 134 = .ok (.aload_n 0, 1) := by decide +kernel
theorem d_R_crash_135 : decode c_R_crash 135 = .ok (.getfield 114, 3) := by decide +kernel
theorem d_R_crash_138 : decode c_R_crash 138 = .ok (.if_icmp .le 13, 3) := by decide +kernel
theorem d_R_crash_141 : decode c_R_crash 141 = .ok (.aload_n 0, 1) := by decide +kernel
theorem d_R_crash_142 : decode c_R_crash 142 = .ok (.aload_n 0, 1) := by decide +kernel
theorem d_R_crash_143 : decode c_R_crash 143 = .ok (.getfield 39, 3) := by decide +kernel
theorem d_R_crash_146 : decode c_R_crash 146 = .ok (.iload_n 2, 1) := by decide +kernel
theorem d_R_crash_147 : decode c_R_crash 147 = .ok (.iaload, 1) := by decide +kernel
theorem d_R_crash_148 : decode c_R_crash 148 = .ok (.putfield 114, 3) := by decide +kernel
theorem d_R_crash_151 : decode c_R_crash 151 = .ok (.iinc 2 1, 3) := by decide +kernel
theorem d_R_crash_154 : decode c_R_crash 154 = .ok (.goto (-34), 3) := by decide +kernel
theorem d_R_crash_157 : decode c_R_crash 157 = .ok (.iconst 0, 1) := by decide +kernel
theorem d_R_crash_158 : decode c_R_crash 158 = .ok (.istore_n 2, 1) := by decide +kernel
theorem d_R_crash_159 : decode c_R_crash 159 = .ok (.iload_n 2, 1) := by decide +kernel
theorem d_R_crash_160 : decode c_R_crash 160 = .ok (.aload_n 0, 1) := by decide +kernel
theorem d_R_crash_161 : decode c_R_crash 161 = .ok (.getfield 95, 3) := by decide +kernel
theorem d_R_crash_164 : decode c_R_crash 164 = .ok (.if_icmp .ge 32, 3) := by decide +kernel
theorem d_R_crash_167 : decode c_R_crash 167 = .ok (.aload_n 0, 1) := by decide +kernel
theorem d_R_crash_168 : decode c_R_crash 168 = .ok (.getfield 13, 3) := by decide +kernel
theorem d_R_crash_171 : decode c_R_crash 171 = .ok (.iload_n 2, 1) := by decide +kernel
theorem d_R_crash_172 : decode c_R_crash 172 = .ok (.iaload, 1) := by decide +kernel
theorem d_R_crash_173 : decode c_R_crash 173 = .ok (.aload_n 0, 1) := by decide +kernel
theorem d_R_crash_174 : decode c_R_crash 174 = .ok (.getfield 114, 3) := by decide +kernel
theorem d_R_crash_177 : decode c_R_crash 177 = .ok (.if_icmp .le 13, 3) := by decide +kernel
theorem d_R_crash_180 : decode c_R_crash 180 = .ok (.aload_n 0, 1) := by decide +kernel
theorem d_R_crash_181 : decode c_R_crash 181 = .ok (.aload_n 0, 1) := by decide +kernel
theorem d_R_crash_182 : decode c_R_crash 182 = .ok (.getfield 13, 3) := by decide +kernel
theorem d_R_crash_185 : decode c_R_crash 185 = .ok (.iload_n 2, 1) := by decide +kernel
theorem d_R_crash_186 : decode c_R_crash 186 = .ok (.iaload, 1) := by decide +kernel
theorem d_R_crash_187 : decode c_R_crash 187 = .ok (.putfield 114, 3) := by decide +kernel
theorem d_R_crash_190 : decode c_R_crash 190 = .ok (.iinc 2 1, 3) := by decide +kernel
theorem d_R_crash_193 : decode c_R_crash 193 = .ok (.goto (-34), 3) := by decide +kernel
theorem d_R_crash_196 : decode c_R_crash 196 = .ok (.aload_n 0, 1) := by decide +kernel
theorem d_R_crash_197 : decode c_R_crash 197 = .ok (.getfield 169, 3) := by decide +kernel
theorem d_R_crash_200 : decode c_R_crash 200 = .ok (.ireturn, 1) := by decide +kernel
theorem d_R_flush_0 : decode c_R_flush 0 = .ok (.aload_n 0, 1) := by decide +kernel
theorem d_R_flush_1 : decode c_R_flush 1 = .ok (.iconst 0, 1) := by decide +kernel
theorem d_R_flush_2 : decode c_R_flush 2 = .ok (.putfield 85, 3) := by decide +kernel
theorem d_R_flush_5 : decode c_R_flush 5 = .ok (.aload_n 0, 1) := by decide +kernel
theorem d_R_flush_6 : decode c_R_flush 6 = .ok (.getfield 166, 3) := by decide +kernel
theorem d_R_flush_9 : decode c_R_flush 9 = .ok (.ifCond .ne 9, 3) := by decide +kernel
theorem d_R_flush_12 : decode c_R_flush 12 = .ok (.aload_n 0, 1) := by decide +kernel
theorem d_R_flush_13 : decode c_R_flush 13 = .ok (.iconst 2, 1) := by decide +kernel
theorem d_R_flush_14 : decode c_R_flush 14 = .ok (.invokevirtual 185, 3) := by decide +kernel
theorem d_R_flush_17 : decode c_R_flush 17 = .ok (.ireturn, 1) := by decide +kernel
theorem d_R_flush_18 : decode c_R_flush 18 = .ok (.aload_n 0, 1) := by decide +kernel
theorem d_R_flush_19 : decode c_R_flush 19 = .ok (.getfield 134, 3) := by decide +kernel
theorem d_R_flush_22 : decode c_R_flush 22 = .ok (.ifCond .eq 19, 3) := by decide +kernel
theorem d_R_flush_25 : decode c_R_flush 25 = .ok (.aload_n 0, 1) := by decide +kernel
theorem d_R_flush_26 : decode c_R_flush 26 = .ok (.iconst 0, 1) := by decide +kernel
theorem d_R_flush_27 : decode c_R_flush 27 = .ok (.invokevirtual 156, 3) := by decide +kernel
theorem d_R_flush_30 : decode c_R_flush 30 = .ok (.bipush 8, 2) := by decide +kernel
theorem d_R_flush_32 : decode c_R_flush 32 = .ok (.if_icmp .ne 9, 3) := by decide +kernel
theorem d_R_flush_35 : decode c_R_flush 35 = .ok (.aload_n 0, 1) := by decide +kernel
theorem d_R_flush_36 : decode c_R_flush 36 = .ok (.iconst 1, 1) := by decide +kernel
theorem d_R_flush_37 : decode c_R_flush 37 = .ok (.invokevirtual 185, 3) := by decide +kernel
theorem d_R_flush_40 : decode c_R_flush 40 = .ok (.ireturn, 1) := by decide +kernel
theorem d_R_flush_41 : decode c_R_flush 41 = .ok (.aload_n 0, 1) := by decide +kernel
theorem d_R_flush_42 : decode c_R_flush 42 = .ok (.invokevirtual 178, 3) := by decide +kernel
theorem d_R_flush_45 : decode c_R_flush 45 = .ok (.aload_n 0, 1) := by decide +kernel
theorem d_R_flush_46 : decode c_R_flush 46 = .ok (.getfield 92, 3) := by decide +kernel
theorem d_R_flush_49 : decode c_R_flush 49 = .ok (.ireturn, 1) := by decide +kernel
theorem d_R_upTo_0 : decode c_R_upTo 0 = .ok (.iload_n 1, 1) := by decide +kernel
theorem d_R_upTo_1 : decode c_R_upTo 1 = .ok (.ifCond .ge 10, 3) := by decide +kernel
theorem d_R_upTo_4 : decode c_R_upTo 4 = .ok (.aload_n 0, 1) := by decide +kernel
theorem d_R_upTo_5 : decode c_R_upTo 5 = .ok (.getfield 114, 3) := by decide +kernel
theorem d_R_upTo_8 : decode c_R_upTo 8 = .ok (.goto 9, 3) := by decide +kernel
theorem d_R_upTo_11 : decode c_R_upTo 11 = .ok (.aload_n 0, 1) := by decide +kernel
theorem d_R_upTo_12 : decode c_R_upTo 12 = .ok (.getfield 64, 3) := by decide +kernel
theorem d_R_upTo_15 : decode c_R_upTo 15 = .ok (.iload_n 1, 1) := by decide +kernel
theorem d_R_upTo_16 : decode c_R_upTo 16 = .ok (.iaload, 1) := by decide +kernel
theorem d_R_upTo_17 : decode c_R_upTo 17 = .ok (.ireturn, 1) := by decide +kernel
theorem d_R_lookInMemory_0 : decode c_R_lookInMemory 0 = .ok (.iconst 0, 1) := by decide +kernel
theorem d_R_lookInMemory_1 : decode c_R_lookInMemory 1 = .ok (.istore_n 3, 1) := by decide +kernel
theorem d_R_lookInMemory_2 : decode c_R_lookInMemory 2 = .ok (.iload_n 3, 1) := by decide +kernel
theorem d_R_lookInMemory_3 : decode c_R_lookInMemory 3 = .ok (.aload_n 0, 1) := by decide +kernel
theorem d_R_lookInMemory_4 : decode c_R_lookInMemory 4 = .ok (.getfield 166, 3) := by decide +kernel
theorem d_R_lookInMemory_7 : decode c_R_lookInMemory 7 = .ok (.if_icmp .ge 38, 3) := by decide +kernel
theorem d_R_lookInMemory_10 : decode c_R_lookInMemory 10 = .ok (.aload_n 0, 1) := by decide +kernel
theorem d_R_lookInMemory_11 : decode c_R_lookInMemory 11 = .ok (.getfield 36, 3) := by decide +kernel
theorem d_R_lookInMemory_14 : decode c_R_lookInMemory 14 = .ok (.iload_n 3, 1) := by decide +kernel
theorem d_R_lookInMemory_15 : decode c_R_lookInMemory 15 = .ok (.iaload, 1) := by decide +kernel
theorem d_R_lookInMemory_16 : decode c_R_lookInMemory 16 = .ok (.iload_n 1, 1) := by decide +kernel
theorem d_R_lookInMemory_17 : decode c_R_lookInMemory 17 = .ok (.if_icmp .ne 22, 3) := by decide +kernel
theorem d_R_lookInMemory_20 : decode c_R_lookInMemory 20 = .ok (.aload_n 0, 1) := by decide +kernel
theorem d_R_lookInMemory_21 : decode c_R_lookInMemory 21 = .ok (.getfield 39, 3) := by decide +kernel
theorem d_R_lookInMemory_24 : decode c_R_lookInMemory 24 = .ok (.iload_n 3, 1) := by decide +kernel
theorem d_R_lookInMemory_25 : decode c_R_lookInMemory 25 = .ok (.iaload, 1) := by decide +kernel
theorem d_R_lookInMemory_26 : decode c_R_lookInMemory 26 = .ok (.iload_n 2, 1) := by decide +kernel
theorem d_R_lookInMemory_27 : decode c_R_lookInMemory 27 = .ok (.if_icmp .gt 12, 3) := by decide +kernel
theorem d_R_lookInMemory_30 : decode c_R_lookInMemory 30 = .ok (.aload_n 0, 1) := by decide +kernel
theorem d_R_lookInMemory_31 : decode c_R_lookInMemory 31 = .ok (.sipush 1000, 3) := by decide +kernel
theorem d_R_lookInMemory_34 : decode c_R_lookInMemory 34 = .ok (.iload_n 3, 1) := by decide +kernel
theorem d_R_lookInMemory_35 : decode c_R_lookInMemory 35 = .ok (.iadd, 1) := by decide +kernel
theorem d_R_lookInMemory_36 : decode c_R_lookInMemory 36 = .ok (.putfield 208, 3) := by decide +kernel
theorem d_R_lookInMemory_39 : decode c_R_lookInMemory 39 = .ok (.iinc 3 1, 3) := by decide +kernel
theorem d_R_lookInMemory_42 : decode c_R_lookInMemory 42 = .ok (.goto (-40), 3) := by decide +kernel
theorem d_R_lookInMemory_45 : decode c_R_lookInMemory 45 = .ok (.return_, 1) := by decide +kernel
theorem d_R_first_0 : decode c_R_first 0 = .ok (.bipush 7, 2) := by decide +kernel
theorem d_R_first_2 : decode c_R_first 2 = .ok (.iload_n 0, 1) := by decide +kernel
theorem d_R_first_3 : decode c_R_first 3 = .ok (.imul, 1) := by decide +kernel
theorem d_R_first_4 : decode c_R_first 4 = .ok (.iconst 3, 1) := by decide +kernel
theorem d_R_first_5 : decode c_R_first 5 = .ok (.iadd, 1) := by decide +kernel
theorem d_R_first_6 : decode c_R_first 6 = .ok (.bipush 16, 2) := by decide +kernel
theorem d_R_first_8 : decode c_R_first 8 = .ok (.irem, 1) := by decide +kernel
theorem d_R_first_9 : decode c_R_first 9 = .ok (.ireturn, 1) := by decide +kernel
theorem d_R_second_0 : decode c_R_second 0 = .ok (.iconst 5, 1) := by decide +kernel
theorem d_R_second_1 : decode c_R_second 1 = .ok (.iload_n 0, 1) := by decide +kernel
theorem d_R_second_2 : decode c_R_second 2 = .ok (.imul, 1) := by decide +kernel
theorem d_R_second_3 : decode c_R_second 3 = .ok (.iconst 1, 1) := by decide +kernel
theorem d_R_second_4 : decode c_R_second 4 = .ok (.iadd, 1) := by decide +kernel
theorem d_R_second_5 : decode c_R_second 5 = .ok (.bipush 16, 2) := by decide +kernel
theorem d_R_second_7 : decode c_R_second 7 = .ok (.irem, 1) := by decide +kernel
theorem d_R_second_8 : decode c_R_second 8 = .ok (.ireturn, 1) := by decide +kernel
theorem d_R_passes_0 : decode c_R_passes 0 = .ok (.iconst 0, 1) := by decide +kernel
theorem d_R_passes_1 : decode c_R_passes 1 = .ok (.istore_n 3, 1) := by decide +kernel
theorem d_R_passes_2 : decode c_R_passes 2 = .ok (.iconst 0, 1) := by decide +kernel
theorem d_R_passes_3 : decode c_R_passes 3 = .ok (.istore 4, 2) := by decide +kernel
theorem d_R_passes_5 : decode c_R_passes 5 = .ok (.aload_n 0, 1) := by decide +kernel
theorem d_R_passes_6 : decode c_R_passes 6 = .ok (.iload_n 1, 1) := by decide +kernel
theorem d_R_passes_7 : decode c_R_passes 7 = .ok (.invokevirtual 88, 3) := by decide +kernel
theorem d_R_passes_10 : decode c_R_passes 10 = .ok (.istore 5, 2) := by decide +kernel
theorem d_R_passes_12 : decode c_R_passes 12 = .ok (.iload 5, 2) := by decide +kernel
theorem d_R_passes_14 : decode c_R_passes 14 = .ok (.istore 6, 2) := by decide +kernel
theorem d_R_passes_16 : decode c_R_passes 16 = .ok (.iload 6, 2) := by decide +kernel
theorem d_R_passes_18 : decode c_R_passes 18 = .ok (.iload 5, 2) := by decide +kernel
theorem d_R_passes_20 : decode c_R_passes 20 = .ok (.aload_n 0, 1) := by decide +kernel
theorem d_R_passes_21 : decode c_R_passes 21 = .ok (.getfield 29, 3) := by decide +kernel
theorem d_R_passes_24 : decode c_R_passes 24 = .ok (.iload_n 1, 1) := by decide +kernel
theorem d_R_passes_25 : decode c_R_passes 25 = .ok (.iaload, 1) := by decide +kernel
theorem d_R_passes_26 : decode c_R_passes 26 = .ok (.iadd, 1) := by decide +kernel
theorem d_R_passes_27 : decode c_R_passes 27 = .ok (.if_icmp .ge 74, 3) := by decide +kernel
theorem d_R_passes_30 : decode c_R_passes 30 = .ok (.aload_n 0, 1) := by decide +kernel
theorem d_R_passes_31 : decode c_R_passes 31 = .ok (.getfield 7, 3) := by decide +kernel
theorem d_R_passes_34 : decode c_R_passes 34 = .ok (.iload 6, 2) := by decide +kernel
theorem d_R_passes_36 : decode c_R_passes 36 = .ok (.iaload, 1) := by decide +kernel
theorem d_R_passes_37 : decode c_R_passes 37 = .ok (.invokestatic 202, 3) := by decide +kernel
theorem d_R_passes_40 : decode c_R_passes 40 = .ok (.istore 7, 2) := by decide +kernel
theorem d_R_passes_42 : decode c_R_passes 42 = .ok (.aload_n 0, 1) := by decide +kernel
theorem d_R_passes_43 : decode c_R_passes 43 = .ok (.getfield 7, 3) := by decide +kernel
theorem d_R_passes_46 : decode c_R_passes 46 = .ok (.iload 6, 2) := by decide +kernel
theorem d_R_passes_48 : decode c_R_passes 48 = .ok (.iaload, 1) := by decide +kernel
theorem d_R_passes_49 : decode c_R_passes 49 = .ok (.invokestatic 205, 3) := by decide +kernel
theorem d_R_passes_52 : decode c_R_passes 52 = .ok (.istore 8, 2) := by decide +kernel
theorem d_R_passes_54 : decode c_R_passes 54 = .ok (.iload 7, 2) := by decide +kernel
theorem d_R_passes_56 : decode c_R_passes 56 = .ok (.iload_n 2, 1) := by decide +kernel
theorem d_R_passes_57 : decode c_R_passes 57 = .ok (.invokestatic 202, 3) := by decide +kernel
theorem d_R_passes_60 : decode c_R_passes 60 = .ok (.if_icmp .eq 12, 3) := by decide +kernel
theorem d_R_passes_63 : decode c_R_passes 63 = .ok (.iload 8, 2) := by decide +kernel
theorem d_R_passes_65 : decode c_R_passes 65 = .ok (.iload_n 2, 1) := by decide +kernel
theorem d_R_passes_66 : decode c_R_passes 66 = .ok (.invokestatic 202, 3) := by decide +kernel
theorem d_R_passes_69 : decode c_R_passes 69 = .ok (.if_icmp .ne 5, 3) := by decide +kernel
theorem d_R_passes_72 : decode c_R_passes 72 = .ok (.iconst 1, 1) := by decide +kernel
theorem d_R_passes_73 : decode c_R_passes 73 = .ok (.istore_n 3, 1) := by decide +kernel
theorem d_R_passes_74 : decode c_R_passes 74 = .ok (.iload 7, 2) := by decide +kernel
theorem d_R_passes_76 : decode c_R_passes 76 = .ok (.iload_n 2, 1) := by decide +kernel
theorem d_R_passes_77 : decode c_R_passes 77 = .ok (.invokestatic 205, 3) := by decide +kernel
theorem d_R_passes_80 : decode c_R_passes 80 = .ok (.if_icmp .eq 12, 3) := by decide +kernel
theorem d_R_passes_83 : decode c_R_passes 83 = .ok (.iload 8, 2) := by decide +kernel
theorem d_R_passes_85 : decode c_R_passes 85 = .ok (.iload_n 2, 1) := by decide +kernel
theorem d_R_passes_86 : decode c_R_passes 86 = .ok (.invokestatic 205, 3) := by decide +kernel
theorem d_R_passes_89 : decode c_R_passes 89 = .ok (.if_icmp .ne 6, 3) := by decide +kernel
theorem d_R_passes_92 : decode c_R_passes 92 = .ok (.iconst 1, 1) := by decide +kernel
theorem d_R_passes_93 : decode c_R_passes 93 = .ok (.istore 4, 2) := by decide +kernel
theorem d_R_passes_95 : decode c_R_passes 95 = .ok (.iinc 6 1, 3) := by decide +kernel
theorem d_R_passes_98 : decode c_R_passes 98 = .ok (.goto (-82), 3) := by decide +kernel
theorem d_R_passes_101 : decode c_R_passes 101 = .ok (.iload_n 3, 1) := by decide +kernel
theorem d_R_passes_102 : decode c_R_passes 102 = .ok (.ifCond .eq 12, 3) := by decide +kernel
theorem d_R_passes_105 : decode c_R_passes 105 = .ok (.iload 4, 2) := by decide +kernel
theorem d_R_passes_107 : decode c_R_passes 107 = .ok (.ifCond .eq 7, 3) := by decide +kernel
theorem d_R_passes_110 : decode c_R_passes 110 = .ok (.iconst 1, 1) := by decide +kernel
theorem d_R_passes_111 : decode c_R_passes 111 = .ok (.goto 4, 3) := by decide +kernel
theorem d_R_passes_114 : decode c_R_passes 114 = .ok (.iconst 0, 1) := by decide +kernel
theorem d_R_passes_115 : decode c_R_passes 115 = .ok (.ireturn, 1) := by decide +kernel
theorem d_R_readBlocks_0 : decode c_R_readBlocks 0 = .ok (.aload_n 0, 1) := by decide +kernel
theorem d_R_readBlocks_1 : decode c_R_readBlocks 1 = .ok (.iload_n 1, 1) := by decide +kernel
theorem d_R_readBlocks_2 : decode c_R_readBlocks 2 = .ok (.invokevirtual 88, 3) := by decide +kernel
theorem d_R_readBlocks_5 : decode c_R_readBlocks 5 = .ok (.istore 4, 2) := by decide +kernel
theorem d_R_readBlocks_7 : decode c_R_readBlocks 7 = .ok (.iload 4, 2) := by decide +kernel
theorem d_R_readBlocks_9 : decode c_R_readBlocks 9 = .ok (.aload_n 0, 1) := by decide +kernel
theorem d_R_readBlocks_10 : decode c_R_readBlocks 10 = .ok (.getfield 29, 3) := by decide +kernel
theorem d_R_readBlocks_13 : decode c_R_readBlocks 13 = .ok (.iload_n 1, 1) := by decide +kernel
theorem d_R_readBlocks_14 : decode c_R_readBlocks 14 = .ok (.iaload, 1) := by decide +kernel
theorem d_R_readBlocks_15 : decode c_R_readBlocks 15 = .ok (.iadd, 1) := by decide +kernel
theorem d_R_readBlocks_16 : decode c_R_readBlocks 16 = .ok (.istore 5, 2) := by decide +kernel
theorem d_R_readBlocks_18 : decode c_R_readBlocks 18 = .ok (.iload 4, 2) := by decide +kernel
theorem d_R_readBlocks_20 : decode c_R_readBlocks 20 = .ok (.istore 6, 2) := by decide +kernel
theorem d_R_readBlocks_22 : decode c_R_readBlocks 22 = .ok (.iload 6, 2) := by decide +kernel
theorem d_R_readBlocks_24 : decode c_R_readBlocks 24 = .ok (.iload 5, 2) := by decide +kernel
theorem d_R_readBlocks_26 : decode c_R_readBlocks 26 = .ok (.if_icmp .ge 134, 3) := by decide +kernel
theorem d_R_readBlocks_29 : decode c_R_readBlocks 29 = .ok (.iload 6, 2) := by decide +kernel
theorem d_R_readBlocks_31 : decode c_R_readBlocks 31 = .ok (.iconst 3, 1) := by decide +kernel
theorem d_R_readBlocks_32 : decode c_R_readBlocks 32 = .ok (.iadd, 1) := by decide +kernel
theorem d_R_readBlocks_33 : decode c_R_readBlocks 33 = .ok (.iload 5, 2) := by decide +kernel
theorem d_R_readBlocks_35 : decode c_R_readBlocks 35 = .ok (.if_icmp .ge 10, 3) := by decide +kernel
theorem d_R_readBlocks_38 : decode c_R_readBlocks 38 = .ok (.iload 6, 2) := by decide +kernel
theorem d_R_readBlocks_40 : decode c_R_readBlocks 40 = .ok (.iconst 3, 1) := by decide +kernel
theorem d_R_readBlocks_41 : decode c_R_readBlocks 41 = .ok (.iadd, 1) := by decide +kernel
theorem d_R_readBlocks_42 : decode c_R_readBlocks 42 = .ok (.goto 7, 3) := by decide +kernel
theorem d_R_readBlocks_45 : decode c_R_readBlocks 45 = .ok (.iload 5, 2) := by decide +kernel
theorem d_R_readBlocks_47 : decode c_R_readBlocks 47 = .ok (.iconst 1, 1) := by decide +kernel
theorem d_R_readBlocks_48 : decode c_R_readBlocks 48 = .ok (.isub, 1) := by decide +kernel
theorem d_R_readBlocks_49 : decode c_R_readBlocks 49 = .ok (.istore 7, 2) := by decide +kernel
theorem d_R_readBlocks_51 : decode c_R_readBlocks 51 = .ok (.aload_n 0, 1) := by decide +kernel
theorem d_R_readBlocks_52 : decode c_R_readBlocks 52 = .ok (.getfield 7, 3) := by decide +kernel
theorem d_R_readBlocks_55 : decode c_R_readBlocks 55 = .ok (.iload 7, 2) := by decide +kernel
theorem d_R_readBlocks_57 : decode c_R_readBlocks 57 = .ok (.iaload, 1) := by decide +kernel
theorem d_R_readBlocks_58 : decode c_R_readBlocks 58 = .ok (.iload_n 2, 1) := by decide +kernel
theorem d_R_readBlocks_59 : decode c_R_readBlocks 59 = .ok (.if_icmp .ge 6, 3) := by decide +kernel
