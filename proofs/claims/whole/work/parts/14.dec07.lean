/-! DECODED INSTRUCTIONS -/
theorem d_R_readBlocks_62 : decode c_R_readBlocks 62 = .ok (.goto 92, 3) := by decide +kernel
theorem d_R_readBlocks_65 : decode c_R_readBlocks 65 = .ok (.aload_n 0, 1) := by decide +kernel
theorem d_R_readBlocks_66 : decode c_R_readBlocks 66 = .ok (.dup, 1) := by decide +kernel
theorem d_R_readBlocks_67 : decode c_R_readBlocks 67 = .ok (.getfield 211, 3) := by decide +kernel
theorem d_R_readBlocks_70 : decode c_R_readBlocks 70 = .ok (.iconst 1, 1) := by decide +kernel
theorem d_R_readBlocks_71 : decode c_R_readBlocks 71 = .ok (.iadd, 1) := by decide +kernel
theorem d_R_readBlocks_72 : decode c_R_readBlocks 72 = .ok (.putfield 211, 3) := by decide +kernel
theorem d_R_readBlocks_75 : decode c_R_readBlocks 75 = .ok (.aload_n 0, 1) := by decide +kernel
theorem d_R_readBlocks_76 : decode c_R_readBlocks 76 = .ok (.getfield 32, 3) := by decide +kernel
theorem d_R_readBlocks_79 : decode c_R_readBlocks 79 = .ok (.iload_n 1, 1) := by decide +kernel
theorem d_R_readBlocks_80 : decode c_R_readBlocks 80 = .ok (.laload, 1) := by decide +kernel
theorem d_R_readBlocks_81 : decode c_R_readBlocks 81 = .ok (.iload 6, 2) := by decide +kernel
theorem d_R_readBlocks_83 : decode c_R_readBlocks 83 = .ok (.iload 4, 2) := by decide +kernel
theorem d_R_readBlocks_85 : decode c_R_readBlocks 85 = .ok (.isub, 1) := by decide +kernel
theorem d_R_readBlocks_86 : decode c_R_readBlocks 86 = .ok (.iconst 4, 1) := by decide +kernel
theorem d_R_readBlocks_87 : decode c_R_readBlocks 87 = .ok (.idiv, 1) := by decide +kernel
theorem d_R_readBlocks_88 : decode c_R_readBlocks 88 = .ok (.lshr, 1) := by decide +kernel
theorem d_R_readBlocks_89 : decode c_R_readBlocks 89 = .ok (.lconst 1, 1) := by decide +kernel
theorem d_R_readBlocks_90 : decode c_R_readBlocks 90 = .ok (.land, 1) := by decide +kernel
theorem d_R_readBlocks_91 : decode c_R_readBlocks 91 = .ok (.lconst 0, 1) := by decide +kernel
theorem d_R_readBlocks_92 : decode c_R_readBlocks 92 = .ok (.lcmp, 1) := by decide +kernel
theorem d_R_readBlocks_93 : decode c_R_readBlocks 93 = .ok (.ifCond .eq 6, 3) := by decide +kernel
theorem d_R_readBlocks_96 : decode c_R_readBlocks 96 = .ok (.bipush (-2), 2) := by decide +kernel
theorem d_R_readBlocks_98 : decode c_R_readBlocks 98 = .ok (.ireturn, 1) := by decide +kernel
theorem d_R_readBlocks_99 : decode c_R_readBlocks 99 = .ok (.iload 6, 2) := by decide +kernel
theorem d_R_readBlocks_101 : decode c_R_readBlocks 101 = .ok (.istore 8, 2) := by decide +kernel
theorem d_R_readBlocks_103 : decode c_R_readBlocks 103 = .ok (.iload 8, 2) := by decide +kernel
theorem d_R_readBlocks_105 : decode c_R_readBlocks 105 = .ok (.iload 7, 2) := by decide +kernel
theorem d_R_readBlocks_107 : decode c_R_readBlocks 107 = .ok (.if_icmp .gt 34, 3) := by decide +kernel
theorem d_R_readBlocks_110 : decode c_R_readBlocks 110 = .ok (.aload_n 0, 1) := by decide +kernel
theorem d_R_readBlocks_111 : decode c_R_readBlocks 111 = .ok (.getfield 7, 3) := by decide +kernel
theorem d_R_readBlocks_114 : decode c_R_readBlocks 114 = .ok (.iload 8, 2) := by decide +kernel
theorem d_R_readBlocks_116 : decode c_R_readBlocks 116 = .ok (.iaload, 1) := by decide +kernel
theorem d_R_readBlocks_117 : decode c_R_readBlocks 117 = .ok (.iload_n 2, 1) := by decide +kernel
theorem d_R_readBlocks_118 : decode c_R_readBlocks 118 = .ok (.if_icmp .ne 17, 3) := by decide +kernel
theorem d_R_readBlocks_121 : decode c_R_readBlocks 121 = .ok (.aload_n 0, 1) := by decide +kernel
theorem d_R_readBlocks_122 : decode c_R_readBlocks 122 = .ok (.getfield 13, 3) := by decide +kernel
theorem d_R_readBlocks_125 : decode c_R_readBlocks 125 = .ok (.iload 8, 2) := by decide +kernel
theorem d_R_readBlocks_127 : decode c_R_readBlocks 127 = .ok (.iaload, 1) := by decide +kernel
theorem d_R_readBlocks_128 : decode c_R_readBlocks 128 = .ok (.iload_n 3, 1) := by decide +kernel
theorem d_R_readBlocks_129 : decode c_R_readBlocks 129 = .ok (.if_icmp .gt 6, 3) := by decide +kernel
theorem d_R_readBlocks_132 : decode c_R_readBlocks 132 = .ok (.iload 8, 2) := by decide +kernel
theorem d_R_readBlocks_134 : decode c_R_readBlocks 134 = .ok (.ireturn, 1) := by decide +kernel
theorem d_R_readBlocks_135 : decode c_R_readBlocks 135 = .ok (.iinc 8 1, 3) := by decide +kernel
theorem d_R_readBlocks_138 : decode c_R_readBlocks 138 = .ok (.goto (-35), 3) := by decide +kernel
theorem d_R_readBlocks_141 : decode c_R_readBlocks 141 = .ok (.aload_n 0, 1) := by decide +kernel
theorem d_R_readBlocks_142 : decode c_R_readBlocks 142 = .ok (.getfield 7, 3) := by decide +kernel
theorem d_R_readBlocks_145 : decode c_R_readBlocks 145 = .ok (.iload 7, 2) := by decide +kernel
theorem d_R_readBlocks_147 : decode c_R_readBlocks 147 = .ok (.iaload, 1) := by decide +kernel
theorem d_R_readBlocks_148 : decode c_R_readBlocks 148 = .ok (.iload_n 2, 1) := by decide +kernel
theorem d_R_readBlocks_149 : decode c_R_readBlocks 149 = .ok (.if_icmp .le 5, 3) := by decide +kernel
theorem d_R_readBlocks_152 : decode c_R_readBlocks 152 = .ok (.iconst (-1), 1) := by decide +kernel
theorem d_R_readBlocks_153 : decode c_R_readBlocks 153 = .ok (.ireturn, 1) := by decide +kernel
theorem d_R_readBlocks_154 : decode c_R_readBlocks 154 = .ok (.iinc 6 4, 3) := by decide +kernel
theorem d_R_readBlocks_157 : decode c_R_readBlocks 157 = .ok (.goto (-135), 3) := by decide +kernel
theorem d_R_readBlocks_160 : decode c_R_readBlocks 160 = .ok (.iconst (-1), 1) := by decide +kernel
theorem d_R_readBlocks_161 : decode c_R_readBlocks 161 = .ok (.ireturn, 1) := by decide +kernel
theorem d_R_look_0 : decode c_R_look 0 = .ok (.aload_n 0, 1) := by decide +kernel
theorem d_R_look_1 : decode c_R_look 1 = .ok (.iconst (-1), 1) := by decide +kernel
theorem d_R_look_2 : decode c_R_look 2 = .ok (.putfield 208, 3) := by decide +kernel
theorem d_R_look_5 : decode c_R_look 5 = .ok (.aload_n 0, 1) := by decide +kernel
theorem d_R_look_6 : decode c_R_look 6 = .ok (.iload_n 1, 1) := by decide +kernel
theorem d_R_look_7 : decode c_R_look 7 = .ok (.iload_n 2, 1) := by decide +kernel
theorem d_R_look_8 : decode c_R_look 8 = .ok (.invokevirtual 214, 3) := by decide +kernel
theorem d_R_look_11 : decode c_R_look 11 = .ok (.iconst 0, 1) := by decide +kernel
theorem d_R_look_12 : decode c_R_look 12 = .ok (.istore_n 3, 1) := by decide +kernel
theorem d_R_look_13 : decode c_R_look 13 = .ok (.iload_n 3, 1) := by decide +kernel
theorem d_R_look_14 : decode c_R_look 14 = .ok (.aload_n 0, 1) := by decide +kernel
theorem d_R_look_15 : decode c_R_look 15 = .ok (.getfield 92, 3) := by decide +kernel
theorem d_R_look_18 : decode c_R_look 18 = .ok (.if_icmp .ge 71, 3) := by decide +kernel
theorem d_R_look_21 : decode c_R_look 21 = .ok (.aload_n 0, 1) := by decide +kernel
theorem d_R_look_22 : decode c_R_look 22 = .ok (.getfield 208, 3) := by decide +kernel
theorem d_R_look_25 : decode c_R_look 25 = .ok (.iconst (-1), 1) := by decide +kernel
theorem d_R_look_26 : decode c_R_look 26 = .ok (.if_icmp .ne 63, 3) := by decide +kernel
theorem d_R_look_29 : decode c_R_look 29 = .ok (.aload_n 0, 1) := by decide +kernel
theorem d_R_look_30 : decode c_R_look 30 = .ok (.iload_n 3, 1) := by decide +kernel
theorem d_R_look_31 : decode c_R_look 31 = .ok (.invokevirtual 117, 3) := by decide +kernel
theorem d_R_look_34 : decode c_R_look 34 = .ok (.iload_n 1, 1) := by decide +kernel
theorem d_R_look_35 : decode c_R_look 35 = .ok (.if_icmp .gt 48, 3) := by decide +kernel
theorem d_R_look_38 : decode c_R_look 38 = .ok (.aload_n 0, 1) := by decide +kernel
theorem d_R_look_39 : decode c_R_look 39 = .ok (.iload_n 3, 1) := by decide +kernel
theorem d_R_look_40 : decode c_R_look 40 = .ok (.invokevirtual 120, 3) := by decide +kernel
theorem d_R_look_43 : decode c_R_look 43 = .ok (.iload_n 1, 1) := by decide +kernel
theorem d_R_look_44 : decode c_R_look 44 = .ok (.if_icmp .ge 6, 3) := by decide +kernel
theorem d_R_look_47 : decode c_R_look 47 = .ok (.goto 36, 3) := by decide +kernel
theorem d_R_look_50 : decode c_R_look 50 = .ok (.aload_n 0, 1) := by decide +kernel
theorem d_R_look_51 : decode c_R_look 51 = .ok (.iload_n 3, 1) := by decide +kernel
theorem d_R_look_52 : decode c_R_look 52 = .ok (.iload_n 1, 1) := by decide +kernel
theorem d_R_look_53 : decode c_R_look 53 = .ok (.invokevirtual 217, 3) := by decide +kernel
theorem d_R_look_56 : decode c_R_look 56 = .ok (.ifCond .eq 17, 3) := by decide +kernel
theorem d_R_look_59 : decode c_R_look 59 = .ok (.aload_n 0, 1) := by decide +kernel
theorem d_R_look_60 : decode c_R_look 60 = .ok (.aload_n 0, 1) := by decide +kernel
theorem d_R_look_61 : decode c_R_look 61 = .ok (.iload_n 3, 1) := by decide +kernel
theorem d_R_look_62 : decode c_R_look 62 = .ok (.iload_n 1, 1) := by decide +kernel
theorem d_R_look_63 : decode c_R_look 63 = .ok (.iload_n 2, 1) := by decide +kernel
theorem d_R_look_64 : decode c_R_look 64 = .ok (.invokevirtual 220, 3) := by decide +kernel
theorem d_R_look_67 : decode c_R_look 67 = .ok (.putfield 208, 3) := by decide +kernel
theorem d_R_look_70 : decode c_R_look 70 = .ok (.goto 13, 3) := by decide +kernel
theorem d_R_look_73 : decode c_R_look 73 = .ok (.aload_n 0, 1) := by decide +kernel
theorem d_R_look_74 : decode c_R_look 74 = .ok (.dup, 1) := by decide +kernel
theorem d_R_look_75 : decode c_R_look 75 = .ok (.getfield 224, 3) := by decide +kernel
theorem d_R_look_78 : decode c_R_look 78 = .ok (.iconst 1, 1) := by decide +kernel
theorem d_R_look_79 : decode c_R_look 79 = .ok (.iadd, 1) := by decide +kernel
theorem d_R_look_80 : decode c_R_look 80 = .ok (.putfield 224, 3) := by decide +kernel
theorem d_R_look_83 : decode c_R_look 83 = .ok (.iinc 3 1, 3) := by decide +kernel
theorem d_R_look_86 : decode c_R_look 86 = .ok (.goto (-73), 3) := by decide +kernel
theorem d_R_look_89 : decode c_R_look 89 = .ok (.return_, 1) := by decide +kernel
theorem d_R_foundGone_0 : decode c_R_foundGone 0 = .ok (.aload_n 0, 1) := by decide +kernel
theorem d_R_foundGone_1 : decode c_R_foundGone 1 = .ok (.getfield 208, 3) := by decide +kernel
theorem d_R_foundGone_4 : decode c_R_foundGone 4 = .ok (.ifCond .lt 44, 3) := by decide +kernel
theorem d_R_foundGone_7 : decode c_R_foundGone 7 = .ok (.aload_n 0, 1) := by decide +kernel
theorem d_R_foundGone_8 : decode c_R_foundGone 8 = .ok (.getfield 208, 3) := by decide +kernel
theorem d_R_foundGone_11 : decode c_R_foundGone 11 = .ok (.sipush 1000, 3) := by decide +kernel
theorem d_R_foundGone_14 : decode c_R_foundGone 14 = .ok (.if_icmp .ge 18, 3) := by decide +kernel
theorem d_R_foundGone_17 : decode c_R_foundGone 17 = .ok (.aload_n 0, 1) := by decide +kernel
theorem d_R_foundGone_18 : decode c_R_foundGone 18 = .ok (.getfield 19, 3) := by decide +kernel
theorem d_R_foundGone_21 : decode c_R_foundGone 21 = .ok (.aload_n 0, 1) := by decide +kernel
theorem d_R_foundGone_22 : decode c_R_foundGone 22 = .ok (.getfield 208, 3) := by decide +kernel
theorem d_R_foundGone_25 : decode c_R_foundGone 25 = .ok (.baload, 1) := by decide +kernel
theorem d_R_foundGone_26 : decode c_R_foundGone 26 = .ok (.ifCond .eq 26, 3) := by decide +kernel
theorem d_R_foundGone_29 : decode c_R_foundGone 29 = .ok (.goto 19, 3) := by decide +kernel
theorem d_R_foundGone_32 : decode c_R_foundGone 32 = .ok (.aload_n 0, 1) := by decide +kernel
theorem d_R_foundGone_33 : decode c_R_foundGone 33 = .ok (.getfield 45, 3) := by decide +kernel
theorem d_R_foundGone_36 : decode c_R_foundGone 36 = .ok (.aload_n 0, 1) := by decide +kernel
theorem d_R_foundGone_37 : decode c_R_foundGone 37 = .ok (.getfield 208, 3) := by decide +kernel
theorem d_R_foundGone_40 : decode c_R_foundGone 40 = .ok (.sipush 1000, 3) := by decide +kernel
theorem d_R_foundGone_43 : decode c_R_foundGone 43 = .ok (.isub, 1) := by decide +kernel
theorem d_R_foundGone_44 : decode c_R_foundGone 44 = .ok (.baload, 1) := by decide +kernel
theorem d_R_foundGone_45 : decode c_R_foundGone 45 = .ok (.ifCond .eq 7, 3) := by decide +kernel
theorem d_R_foundGone_48 : decode c_R_foundGone 48 = .ok (.iconst 1, 1) := by decide +kernel
theorem d_R_foundGone_49 : decode c_R_foundGone 49 = .ok (.goto 4, 3) := by decide +kernel
theorem d_R_foundGone_52 : decode c_R_foundGone 52 = .ok (.iconst 0, 1) := by decide +kernel
theorem d_R_foundGone_53 : decode c_R_foundGone 53 = .ok (.ireturn, 1) := by decide +kernel
theorem d_R_get_0 : decode c_R_get 0 = .ok (.aload_n 0, 1) := by decide +kernel
theorem d_R_get_1 : decode c_R_get 1 = .ok (.iconst 0, 1) := by decide +kernel
theorem d_R_get_2 : decode c_R_get 2 = .ok (.putfield 85, 3) := by decide +kernel
theorem d_R_get_5 : decode c_R_get 5 = .ok (.iload_n 1, 1) := by decide +kernel
theorem d_R_get_6 : decode c_R_get 6 = .ok (.iconst 0, 1) := by decide +kernel
theorem d_R_get_7 : decode c_R_get 7 = .ok (.bipush 63, 2) := by decide +kernel
theorem d_R_get_9 : decode c_R_get 9 = .ok (.invokestatic 181, 3) := by decide +kernel
theorem d_R_get_12 : decode c_R_get 12 = .ok (.ifCond .eq 12, 3) := by decide +kernel
theorem d_R_get_15 : decode c_R_get 15 = .ok (.iload_n 2, 1) := by decide +kernel
theorem d_R_get_16 : decode c_R_get 16 = .ok (.iconst (-1), 1) := by decide +kernel
theorem d_R_get_17 : decode c_R_get 17 = .ok (.iconst 3, 1) := by decide +kernel
theorem d_R_get_18 : decode c_R_get 18 = .ok (.invokestatic 181, 3) := by decide +kernel
theorem d_R_get_21 : decode c_R_get 21 = .ok (.ifCond .ne 9, 3) := by decide +kernel
theorem d_R_get_24 : decode c_R_get 24 = .ok (.aload_n 0, 1) := by decide +kernel
theorem d_R_get_25 : decode c_R_get 25 = .ok (.iconst 1, 1) := by decide +kernel
theorem d_R_get_26 : decode c_R_get 26 = .ok (.invokevirtual 185, 3) := by decide +kernel
theorem d_R_get_29 : decode c_R_get 29 = .ok (.ireturn, 1) := by decide +kernel
theorem d_R_get_30 : decode c_R_get 30 = .ok (.iload_n 2, 1) := by decide +kernel
theorem d_R_get_31 : decode c_R_get 31 = .ok (.ifCond .lt 18, 3) := by decide +kernel
theorem d_R_get_34 : decode c_R_get 34 = .ok (.aload_n 0, 1) := by decide +kernel
theorem d_R_get_35 : decode c_R_get 35 = .ok (.getfield 64, 3) := by decide +kernel
theorem d_R_get_38 : decode c_R_get 38 = .ok (.iload_n 2, 1) := by decide +kernel
theorem d_R_get_39 : decode c_R_get 39 = .ok (.iaload, 1) := by decide +kernel
theorem d_R_get_40 : decode c_R_get 40 = .ok (.ifCond .ge 9, 3) := by decide +kernel
theorem d_R_get_43 : decode c_R_get 43 = .ok (.aload_n 0, 1) := by decide +kernel
theorem d_R_get_44 : decode c_R_get 44 = .ok (.iconst 3, 1) := by decide +kernel
theorem d_R_get_45 : decode c_R_get 45 = .ok (.invokevirtual 185, 3) := by decide +kernel
theorem d_R_get_48 : decode c_R_get 48 = .ok (.ireturn, 1) := by decide +kernel
theorem d_R_get_49 : decode c_R_get 49 = .ok (.aload_n 0, 1) := by decide +kernel
theorem d_R_get_50 : decode c_R_get 50 = .ok (.dup, 1) := by decide +kernel
theorem d_R_get_51 : decode c_R_get 51 = .ok (.getfield 227, 3) := by decide +kernel
theorem d_R_get_54 : decode c_R_get 54 = .ok (.iconst 1, 1) := by decide +kernel
theorem d_R_get_55 : decode c_R_get 55 = .ok (.iadd, 1) := by decide +kernel
theorem d_R_get_56 : decode c_R_get 56 = .ok (.putfield 227, 3) := by decide +kernel
theorem d_R_get_59 : decode c_R_get 59 = .ok (.aload_n 0, 1) := by decide +kernel
theorem d_R_get_60 : decode c_R_get 60 = .ok (.iload_n 1, 1) := by decide +kernel
theorem d_R_get_61 : decode c_R_get 61 = .ok (.aload_n 0, 1) := by decide +kernel
theorem d_R_get_62 : decode c_R_get 62 = .ok (.iload_n 2, 1) := by decide +kernel
theorem d_R_get_63 : decode c_R_get 63 = .ok (.invokevirtual 230, 3) := by decide +kernel
theorem d_R_get_66 : decode c_R_get 66 = .ok (.invokevirtual 233, 3) := by decide +kernel
theorem d_R_get_69 : decode c_R_get 69 = .ok (.aload_n 0, 1) := by decide +kernel
theorem d_R_get_70 : decode c_R_get 70 = .ok (.getfield 208, 3) := by decide +kernel
theorem d_R_get_73 : decode c_R_get 73 = .ok (.bipush (-2), 2) := by decide +kernel
theorem d_R_get_75 : decode c_R_get 75 = .ok (.if_icmp .ne 9, 3) := by decide +kernel
theorem d_R_get_78 : decode c_R_get 78 = .ok (.aload_n 0, 1) := by decide +kernel
theorem d_R_get_79 : decode c_R_get 79 = .ok (.iconst 2, 1) := by decide +kernel
theorem d_R_get_80 : decode c_R_get 80 = .ok (.invokevirtual 185, 3) := by decide +kernel
theorem d_R_get_83 : decode c_R_get 83 = .ok (.ireturn, 1) := by decide +kernel
theorem d_R_get_84 : decode c_R_get 84 = .ok (.aload_n 0, 1) := by decide +kernel
theorem d_R_get_85 : decode c_R_get 85 = .ok (.invokevirtual 236, 3) := by decide +kernel
theorem d_R_get_88 : decode c_R_get 88 = .ok (.ifCond .eq 9, 3) := by decide +kernel
theorem d_R_get_91 : decode c_R_get 91 = .ok (.aload_n 0, 1) := by decide +kernel
theorem d_R_get_92 : decode c_R_get 92 = .ok (.iconst 4, 1) := by decide +kernel
theorem d_R_get_93 : decode c_R_get 93 = .ok (.invokevirtual 185, 3) := by decide +kernel
theorem d_R_get_96 : decode c_R_get 96 = .ok (.ireturn, 1) := by decide +kernel
theorem d_R_get_97 : decode c_R_get 97 = .ok (.aload_n 0, 1) := by decide +kernel
theorem d_R_get_98 : decode c_R_get 98 = .ok (.getfield 208, 3) := by decide +kernel
theorem d_R_get_101 : decode c_R_get 101 = .ok (.sipush 1000, 3) := by decide +kernel
theorem d_R_get_104 : decode c_R_get 104 = .ok (.if_icmp .ge 15, 3) := by decide +kernel
theorem d_R_get_107 : decode c_R_get 107 = .ok (.aload_n 0, 1) := by decide +kernel
theorem d_R_get_108 : decode c_R_get 108 = .ok (.getfield 16, 3) := by decide +kernel
theorem d_R_get_111 : decode c_R_get 111 = .ok (.aload_n 0, 1) := by decide +kernel
theorem d_R_get_112 : decode c_R_get 112 = .ok (.getfield 208, 3) := by decide +kernel
theorem d_R_get_115 : decode c_R_get 115 = .ok (.iaload, 1) := by decide +kernel
theorem d_R_get_116 : decode c_R_get 116 = .ok (.goto 16, 3) := by decide +kernel
theorem d_R_get_119 : decode c_R_get 119 = .ok (.aload_n 0, 1) := by decide +kernel
theorem d_R_get_120 : decode c_R_get 120 = .ok (.getfield 42, 3) := by decide +kernel
theorem d_R_get_123 : decode c_R_get 123 = .ok (.aload_n 0, 1) := by decide +kernel
theorem d_R_get_124 : decode c_R_get 124 = .ok (.getfield 208, 3) := by decide +kernel
theorem d_R_get_127 : decode c_R_get 127 = .ok (.sipush 1000, 3) := by decide +kernel
theorem d_R_get_130 : decode c_R_get 130 = .ok (.isub, 1) := by decide +kernel
theorem d_R_get_131 : decode c_R_get 131 = .ok (.iaload, 1) := by decide +kernel
theorem d_R_get_132 : decode c_R_get 132 = .ok (.ireturn, 1) := by decide +kernel
theorem d_R_lookThrough_0 : decode c_R_lookThrough 0 = .ok (.aload_n 0, 1) := by decide +kernel
theorem d_R_lookThrough_1 : decode c_R_lookThrough 1 = .ok (.iconst (-1), 1) := by decide +kernel
theorem d_R_lookThrough_2 : decode c_R_lookThrough 2 = .ok (.putfield 208, 3) := by decide +kernel
theorem d_R_lookThrough_5 : decode c_R_lookThrough 5 = .ok (.aload_n 0, 1) := by decide +kernel
theorem d_R_lookThrough_6 : decode c_R_lookThrough 6 = .ok (.iload_n 1, 1) := by decide +kernel
theorem d_R_lookThrough_7 : decode c_R_lookThrough 7 = .ok (.iload_n 2, 1) := by decide +kernel
theorem d_R_lookThrough_8 : decode c_R_lookThrough 8 = .ok (.invokevirtual 214, 3) := by decide +kernel
theorem d_R_lookThrough_11 : decode c_R_lookThrough 11 = .ok (.iconst 0, 1) := by decide +kernel
theorem d_R_lookThrough_12 : decode c_R_lookThrough 12 = .ok (.istore_n 3, 1) := by decide +kernel
theorem d_R_lookThrough_13 : decode c_R_lookThrough 13 = .ok (.iload_n 3, 1) := by decide +kernel
theorem d_R_lookThrough_14 : decode c_R_lookThrough 14 = .ok (.aload_n 0, 1) := by decide +kernel
theorem d_R_lookThrough_15 : decode c_R_lookThrough 15 = .ok (.getfield 95, 3) := by decide +kernel
theorem d_R_lookThrough_18 : decode c_R_lookThrough 18 = .ok (.if_icmp .ge 42, 3) := by decide +kernel
theorem d_R_lookThrough_21 : decode c_R_lookThrough 21 = .ok (.aload_n 0, 1) := by decide +kernel
theorem d_R_lookThrough_22 : decode c_R_lookThrough 22 = .ok (.getfield 208, 3) := by decide +kernel
theorem d_R_lookThrough_25 : decode c_R_lookThrough 25 = .ok (.iconst (-1), 1) := by decide +kernel
theorem d_R_lookThrough_26 : decode c_R_lookThrough 26 = .ok (.if_icmp .ne 34, 3) := by decide +kernel
theorem d_R_lookThrough_29 : decode c_R_lookThrough 29 = .ok (.aload_n 0, 1) := by decide +kernel
theorem d_R_lookThrough_30 : decode c_R_lookThrough 30 = .ok (.getfield 7, 3) := by decide +kernel
theorem d_R_lookThrough_33 : decode c_R_lookThrough 33 = .ok (.iload_n 3, 1) := by decide +kernel
theorem d_R_lookThrough_34 : decode c_R_lookThrough 34 = .ok (.iaload, 1) := by decide +kernel
theorem d_R_lookThrough_35 : decode c_R_lookThrough 35 = .ok (.iload_n 1, 1) := by decide +kernel
theorem d_R_lookThrough_36 : decode c_R_lookThrough 36 = .ok (.if_icmp .ne 18, 3) := by decide +kernel
theorem d_R_lookThrough_39 : decode c_R_lookThrough 39 = .ok (.aload_n 0, 1) := by decide +kernel
theorem d_R_lookThrough_40 : decode c_R_lookThrough 40 = .ok (.getfield 13, 3) := by decide +kernel
theorem d_R_lookThrough_43 : decode c_R_lookThrough 43 = .ok (.iload_n 3, 1) := by decide +kernel
theorem d_R_lookThrough_44 : decode c_R_lookThrough 44 = .ok (.iaload, 1) := by decide +kernel
theorem d_R_lookThrough_45 : decode c_R_lookThrough 45 = .ok (.iload_n 2, 1) := by decide +kernel
theorem d_R_lookThrough_46 : decode c_R_lookThrough 46 = .ok (.if_icmp .gt 8, 3) := by decide +kernel
theorem d_R_lookThrough_49 : decode c_R_lookThrough 49 = .ok (.aload_n 0, 1) := by decide +kernel
theorem d_R_lookThrough_50 : decode c_R_lookThrough 50 = .ok (.iload_n 3, 1) := by decide +kernel
theorem d_R_lookThrough_51 : decode c_R_lookThrough 51 = .ok (.putfield 208, 3) := by decide +kernel
theorem d_R_lookThrough_54 : decode c_R_lookThrough 54 = .ok (.iinc 3 1, 3) := by decide +kernel
theorem d_R_lookThrough_57 : decode c_R_lookThrough 57 = .ok (.goto (-44), 3) := by decide +kernel
theorem d_R_lookThrough_60 : decode c_R_lookThrough 60 = .ok (.return_, 1) := by decide +kernel
theorem d_R_next_0 : decode c_R_next 0 = .ok (.aload_n 0, 1) := by decide +kernel
theorem d_R_next_1 : decode c_R_next 1 = .ok (.iconst 0, 1) := by decide +kernel
theorem d_R_next_2 : decode c_R_next 2 = .ok (.putfield 85, 3) := by decide +kernel
theorem d_R_next_5 : decode c_R_next 5 = .ok (.iload_n 1, 1) := by decide +kernel
theorem d_R_next_6 : decode c_R_next 6 = .ok (.iconst (-1), 1) := by decide +kernel
theorem d_R_next_7 : decode c_R_next 7 = .ok (.bipush 63, 2) := by decide +kernel
theorem d_R_next_9 : decode c_R_next 9 = .ok (.invokestatic 181, 3) := by decide +kernel
theorem d_R_next_12 : decode c_R_next 12 = .ok (.ifCond .eq 12, 3) := by decide +kernel
theorem d_R_next_15 : decode c_R_next 15 = .ok (.iload_n 2, 1) := by decide +kernel
theorem d_R_next_16 : decode c_R_next 16 = .ok (.iconst (-1), 1) := by decide +kernel
theorem d_R_next_17 : decode c_R_next 17 = .ok (.iconst 3, 1) := by decide +kernel
theorem d_R_next_18 : decode c_R_next 18 = .ok (.invokestatic 181, 3) := by decide +kernel
theorem d_R_next_21 : decode c_R_next 21 = .ok (.ifCond .ne 9, 3) := by decide +kernel
theorem d_R_next_24 : decode c_R_next 24 = .ok (.aload_n 0, 1) := by decide +kernel
theorem d_R_next_25 : decode c_R_next 25 = .ok (.iconst 1, 1) := by decide +kernel
theorem d_R_next_26 : decode c_R_next 26 = .ok (.invokevirtual 185, 3) := by decide +kernel
theorem d_R_next_29 : decode c_R_next 29 = .ok (.ireturn, 1) := by decide +kernel
theorem d_R_next_30 : decode c_R_next 30 = .ok (.iload_n 2, 1) := by decide +kernel
theorem d_R_next_31 : decode c_R_next 31 = .ok (.ifCond .lt 18, 3) := by decide +kernel
theorem d_R_next_34 : decode c_R_next 34 = .ok (.aload_n 0, 1) := by decide +kernel
theorem d_R_next_35 : decode c_R_next 35 = .ok (.getfield 64, 3) := by decide +kernel
theorem d_R_next_38 : decode c_R_next 38 = .ok (.iload_n 2, 1) := by decide +kernel
theorem d_R_next_39 : decode c_R_next 39 = .ok (.iaload, 1) := by decide +kernel
theorem d_R_next_40 : decode c_R_next 40 = .ok (.ifCond .ge 9, 3) := by decide +kernel
theorem d_R_next_43 : decode c_R_next 43 = .ok (.aload_n 0, 1) := by decide +kernel
theorem d_R_next_44 : decode c_R_next 44 = .ok (.iconst 2, 1) := by decide +kernel
theorem d_R_next_45 : decode c_R_next 45 = .ok (.invokevirtual 185, 3) := by decide +kernel
theorem d_R_next_48 : decode c_R_next 48 = .ok (.ireturn, 1) := by decide +kernel
theorem d_R_next_49 : decode c_R_next 49 = .ok (.iload_n 1, 1) := by decide +kernel
theorem d_R_next_50 : decode c_R_next 50 = .ok (.iconst 1, 1) := by decide +kernel
theorem d_R_next_51 : decode c_R_next 51 = .ok (.iadd, 1) := by decide +kernel
theorem d_R_next_52 : decode c_R_next 52 = .ok (.istore_n 3, 1) := by decide +kernel
theorem d_R_next_53 : decode c_R_next 53 = .ok (.iload_n 3, 1) := by decide +kernel
theorem d_R_next_54 : decode c_R_next 54 = .ok (.bipush 64, 2) := by decide +kernel
theorem d_R_next_56 : decode c_R_next 56 = .ok (.if_icmp .ge 28, 3) := by decide +kernel
theorem d_R_next_59 : decode c_R_next 59 = .ok (.aload_n 0, 1) := by decide +kernel
theorem d_R_next_60 : decode c_R_next 60 = .ok (.iload_n 3, 1) := by decide +kernel
theorem d_R_next_61 : decode c_R_next 61 = .ok (.aload_n 0, 1) := by decide +kernel
theorem d_R_next_62 : decode c_R_next 62 = .ok (.iload_n 2, 1) := by decide +kernel
theorem d_R_next_63 : decode c_R_next 63 = .ok (.invokevirtual 230, 3) := by decide +kernel
theorem d_R_next_66 : decode c_R_next 66 = .ok (.invokevirtual 240, 3) := by decide +kernel
theorem d_R_next_69 : decode c_R_next 69 = .ok (.aload_n 0, 1) := by decide +kernel
theorem d_R_next_70 : decode c_R_next 70 = .ok (.invokevirtual 236, 3) := by decide +kernel
theorem d_R_next_73 : decode c_R_next 73 = .ok (.ifCond .ne 5, 3) := by decide +kernel
theorem d_R_next_76 : decode c_R_next 76 = .ok (.iload_n 3, 1) := by decide +kernel
theorem d_R_next_77 : decode c_R_next 77 = .ok (.ireturn, 1) := by decide +kernel
theorem d_R_next_78 : decode c_R_next 78 = .ok (.iinc 3 1, 3) := by decide +kernel
theorem d_R_next_81 : decode c_R_next 81 = .ok (.goto (-28), 3) := by decide +kernel
theorem d_R_next_84 : decode c_R_next 84 = .ok (.aload_n 0, 1) := by decide +kernel
theorem d_R_next_85 : decode c_R_next 85 = .ok (.iconst 3, 1) := by decide +kernel
theorem d_R_next_86 : decode c_R_next 86 = .ok (.invokevirtual 185, 3) := by decide +kernel
theorem d_R_next_89 : decode c_R_next 89 = .ok (.ireturn, 1) := by decide +kernel
theorem d_R_snapshot_0 : decode c_R_snapshot 0 = .ok (.aload_n 0, 1) := by decide +kernel
theorem d_R_snapshot_1 : decode c_R_snapshot 1 = .ok (.iconst 0, 1) := by decide +kernel
theorem d_R_snapshot_2 : decode c_R_snapshot 2 = .ok (.putfield 85, 3) := by decide +kernel
theorem d_R_snapshot_5 : decode c_R_snapshot 5 = .ok (.iconst 0, 1) := by decide +kernel
theorem d_R_snapshot_6 : decode c_R_snapshot 6 = .ok (.istore_n 1, 1) := by decide +kernel
theorem d_R_snapshot_7 : decode c_R_snapshot 7 = .ok (.iload_n 1, 1) := by decide +kernel
theorem d_R_snapshot_8 : decode c_R_snapshot 8 = .ok (.iconst 4, 1) := by decide +kernel
theorem d_R_snapshot_9 : decode c_R_snapshot 9 = .ok (.if_icmp .ge 33, 3) := by decide +kernel
theorem d_R_snapshot_12 : decode c_R_snapshot 12 = .ok (.aload_n 0, 1) := by decide +kernel
theorem d_R_snapshot_13 : decode c_R_snapshot 13 = .ok (.getfield 64, 3) := by decide +kernel
theorem d_R_snapshot_16 : decode c_R_snapshot 16 = .ok (.iload_n 1, 1) := by decide +kernel
theorem d_R_snapshot_17 : decode c_R_snapshot 17 = .ok (.iaload, 1) := by decide +kernel
theorem d_R_snapshot_18 : decode c_R_snapshot 18 = .ok (.ifCond .lt 6, 3) := by decide +kernel
theorem d_R_snapshot_21 : decode c_R_snapshot 21 = .ok (.goto 15, 3) := by decide +kernel
theorem d_R_snapshot_24 : decode c_R_snapshot 24 = .ok (.aload_n 0, 1) := by decide +kernel
theorem d_R_snapshot_25 : decode c_R_snapshot 25 = .ok (.getfield 64, 3) := by decide +kernel
theorem d_R_snapshot_28 : decode c_R_snapshot 28 = .ok (.iload_n 1, 1) := by decide +kernel
theorem d_R_snapshot_29 : decode c_R_snapshot 29 = .ok (.aload_n 0, 1) := by decide +kernel
theorem d_R_snapshot_30 : decode c_R_snapshot 30 = .ok (.getfield 114, 3) := by decide +kernel
theorem d_R_snapshot_33 : decode c_R_snapshot 33 = .ok (.iastore, 1) := by decide +kernel
theorem d_R_snapshot_34 : decode c_R_snapshot 34 = .ok (.iload_n 1, 1) := by decide +kernel
theorem d_R_snapshot_35 : decode c_R_snapshot 35 = .ok (.ireturn, 1) := by decide +kernel
theorem d_R_snapshot_36 : decode c_R_snapshot 36 = .ok (.iinc 1 1, 3) := by decide +kernel
theorem d_R_snapshot_39 : decode c_R_snapshot 39 = .ok (.goto (-32), 3) := by decide +kernel
theorem d_R_snapshot_42 : decode c_R_snapshot 42 = .ok (.aload_n 0, 1) := by decide +kernel
theorem d_R_snapshot_43 : decode c_R_snapshot 43 = .ok (.iconst 1, 1) := by decide +kernel
theorem d_R_snapshot_44 : decode c_R_snapshot 44 = .ok (.invokevirtual 185, 3) := by decide +kernel
theorem d_R_snapshot_47 : decode c_R_snapshot 47 = .ok (.ireturn, 1) := by decide +kernel
theorem d_R_release_0 : decode c_R_release 0 = .ok (.aload_n 0, 1) := by decide +kernel
theorem d_R_release_1 : decode c_R_release 1 = .ok (.iconst 0, 1) := by decide +kernel
theorem d_R_release_2 : decode c_R_release 2 = .ok (.putfield 85, 3) := by decide +kernel
theorem d_R_release_5 : decode c_R_release 5 = .ok (.iload_n 1, 1) := by decide +kernel
theorem d_R_release_6 : decode c_R_release 6 = .ok (.iconst 0, 1) := by decide +kernel
theorem d_R_release_7 : decode c_R_release 7 = .ok (.iconst 3, 1) := by decide +kernel
theorem d_R_release_8 : decode c_R_release 8 = .ok (.invokestatic 181, 3) := by decide +kernel
theorem d_R_release_11 : decode c_R_release 11 = .ok (.ifCond .ne 9, 3) := by decide +kernel
theorem d_R_release_14 : decode c_R_release 14 = .ok (.aload_n 0, 1) := by decide +kernel
theorem d_R_release_15 : decode c_R_release 15 = .ok (.iconst 1, 1) := by decide +kernel
theorem d_R_release_16 : decode c_R_release 16 = .ok (.invokevirtual 185, 3) := by decide +kernel
theorem d_R_release_19 : decode c_R_release 19 = .ok (.ireturn, 1) := by decide +kernel
theorem d_R_release_20 : decode c_R_release 20 = .ok (.aload_n 0, 1) := by decide +kernel
theorem d_R_release_21 : decode c_R_release 21 = .ok (.getfield 64, 3) := by decide +kernel
theorem d_R_release_24 : decode c_R_release 24 = .ok (.iload_n 1, 1) := by decide +kernel
theorem d_R_release_25 : decode c_R_release 25 = .ok (.iaload, 1) := by decide +kernel
theorem d_R_release_26 : decode c_R_release 26 = .ok (.istore_n 2, 1) := by decide +kernel
theorem d_R_release_27 : decode c_R_release 27 = .ok (.iload_n 2, 1) := by decide +kernel
theorem d_R_release_28 : decode c_R_release 28 = .ok (.ifCond .ge 9, 3) := by decide +kernel
theorem d_R_release_31 : decode c_R_release 31 = .ok (.aload_n 0, 1) := by decide +kernel
theorem d_R_release_32 : decode c_R_release 32 = .ok (.iconst 2, 1) := by decide +kernel
theorem d_R_release_33 : decode c_R_release 33 = .ok (.invokevirtual 185, 3) := by decide +kernel
theorem d_R_release_36 : decode c_R_release 36 = .ok (.ireturn, 1) := by decide +kernel
theorem d_R_release_37 : decode c_R_release 37 = .ok (.aload_n 0, 1) := by decide +kernel
theorem d_R_release_38 : decode c_R_release 38 = .ok (.getfield 64, 3) := by decide +kernel
theorem d_R_release_41 : decode c_R_release 41 = .ok (.iload_n 1, 1) := by decide +kernel
theorem d_R_release_42 : decode c_R_release 42 = .ok (.iconst (-1), 1) := by decide +kernel
theorem d_R_release_43 : decode c_R_release 43 = .ok (.iastore, 1) := by decide +kernel
theorem d_R_release_44 : decode c_R_release 44 = .ok (.iload_n 2, 1) := by decide +kernel
theorem d_R_release_45 : decode c_R_release 45 = .ok (.ireturn, 1) := by decide +kernel
theorem d_R_blockSize_0 : decode c_R_blockSize 0 = .ok (.aload_n 0, 1) := by decide +kernel
theorem d_R_blockSize_1 : decode c_R_blockSize 1 = .ok (.getfield 29, 3) := by decide +kernel
theorem d_R_blockSize_4 : decode c_R_blockSize 4 = .ok (.iload_n 1, 1) := by decide +kernel
theorem d_R_blockSize_5 : decode c_R_blockSize 5 = .ok (.iaload, 1) := by decide +kernel
theorem d_R_blockSize_6 : decode c_R_blockSize 6 = .ok (.iconst 4, 1) := by decide +kernel
theorem d_R_blockSize_7 : decode c_R_blockSize 7 = .ok (.iload_n 2, 1) := by decide +kernel
theorem d_R_blockSize_8 : decode c_R_blockSize 8 = .ok (.imul, 1) := by decide +kernel
theorem d_R_blockSize_9 : decode c_R_blockSize 9 = .ok (.isub, 1) := by decide +kernel
theorem d_R_blockSize_10 : decode c_R_blockSize 10 = .ok (.iconst 4, 1) := by decide +kernel
theorem d_R_blockSize_11 : decode c_R_blockSize 11 = .ok (.if_icmp .ge 16, 3) := by decide +kernel
theorem d_R_blockSize_14 : decode c_R_blockSize 14 = .ok (.aload_n 0, 1) := by decide +kernel
theorem d_R_blockSize_15 : decode c_R_blockSize 15 = .ok (.getfield 29, 3) := by decide +kernel
theorem d_R_blockSize_18 : decode c_R_blockSize 18 = .ok (.iload_n 1, 1) := by decide +kernel
theorem d_R_blockSize_19 : decode c_R_blockSize 19 = .ok (.iaload, 1) := by decide +kernel
theorem d_R_blockSize_20 : decode c_R_blockSize 20 = .ok (.iconst 4, 1) := by decide +kernel
theorem d_R_blockSize_21 : decode c_R_blockSize 21 = .ok (.iload_n 2, 1) := by decide +kernel
theorem d_R_blockSize_22 : decode c_R_blockSize 22 = .ok (.imul, 1) := by decide +kernel
theorem d_R_blockSize_23 : decode c_R_blockSize 23 = .ok (.isub, 1) := by decide +kernel
theorem d_R_blockSize_24 : decode c_R_blockSize 24 = .ok (.goto 4, 3) := by decide +kernel
theorem d_R_blockSize_27 : decode c_R_blockSize 27 = .ok (.iconst 4, 1) := by decide +kernel
theorem d_R_blockSize_28 : decode c_R_blockSize 28 = .ok (.ireturn, 1) := by decide +kernel
theorem d_R_spoil_0 : decode c_R_spoil 0 = .ok (.aload_n 0, 1) := by decide +kernel
theorem d_R_spoil_1 : decode c_R_spoil 1 = .ok (.iconst 0, 1) := by decide +kernel
theorem d_R_spoil_2 : decode c_R_spoil 2 = .ok (.putfield 85, 3) := by decide +kernel
theorem d_R_spoil_5 : decode c_R_spoil 5 = .ok (.iload_n 1, 1) := by decide +kernel
theorem d_R_spoil_6 : decode c_R_spoil 6 = .ok (.iconst 0, 1) := by decide +kernel
theorem d_R_spoil_7 : decode c_R_spoil 7 = .ok (.bipush 59, 2) := by decide +kernel
theorem d_R_spoil_9 : decode c_R_spoil 9 = .ok (.invokestatic 181, 3) := by decide +kernel
theorem d_R_spoil_12 : decode c_R_spoil 12 = .ok (.ifCond .eq 13, 3) := by decide +kernel
theorem d_R_spoil_15 : decode c_R_spoil 15 = .ok (.iload_n 2, 1) := by decide +kernel
theorem d_R_spoil_16 : decode c_R_spoil 16 = .ok (.iconst 0, 1) := by decide +kernel
theorem d_R_spoil_17 : decode c_R_spoil 17 = .ok (.bipush 59, 2) := by decide +kernel
theorem d_R_spoil_19 : decode c_R_spoil 19 = .ok (.invokestatic 181, 3) := by decide +kernel
theorem d_R_spoil_22 : decode c_R_spoil 22 = .ok (.ifCond .ne 9, 3) := by decide +kernel
theorem d_R_spoil_25 : decode c_R_spoil 25 = .ok (.aload_n 0, 1) := by decide +kernel
theorem d_R_spoil_26 : decode c_R_spoil 26 = .ok (.iconst 1, 1) := by decide +kernel
theorem d_R_spoil_27 : decode c_R_spoil 27 = .ok (.invokevirtual 185, 3) := by decide +kernel
theorem d_R_spoil_30 : decode c_R_spoil 30 = .ok (.ireturn, 1) := by decide +kernel
theorem d_R_spoil_31 : decode c_R_spoil 31 = .ok (.iload_n 1, 1) := by decide +kernel
theorem d_R_spoil_32 : decode c_R_spoil 32 = .ok (.aload_n 0, 1) := by decide +kernel
theorem d_R_spoil_33 : decode c_R_spoil 33 = .ok (.getfield 92, 3) := by decide +kernel
theorem d_R_spoil_36 : decode c_R_spoil 36 = .ok (.if_icmp .ge 15, 3) := by decide +kernel
theorem d_R_spoil_39 : decode c_R_spoil 39 = .ok (.iconst 4, 1) := by decide +kernel
theorem d_R_spoil_40 : decode c_R_spoil 40 = .ok (.iload_n 2, 1) := by decide +kernel
theorem d_R_spoil_41 : decode c_R_spoil 41 = .ok (.imul, 1) := by decide +kernel
theorem d_R_spoil_42 : decode c_R_spoil 42 = .ok (.aload_n 0, 1) := by decide +kernel
theorem d_R_spoil_43 : decode c_R_spoil 43 = .ok (.getfield 29, 3) := by decide +kernel
theorem d_R_spoil_46 : decode c_R_spoil 46 = .ok (.iload_n 1, 1) := by decide +kernel
theorem d_R_spoil_47 : decode c_R_spoil 47 = .ok (.iaload, 1) := by decide +kernel
theorem d_R_spoil_48 : decode c_R_spoil 48 = .ok (.if_icmp .lt 9, 3) := by decide +kernel
theorem d_R_spoil_51 : decode c_R_spoil 51 = .ok (.aload_n 0, 1) := by decide +kernel
theorem d_R_spoil_52 : decode c_R_spoil 52 = .ok (.iconst 2, 1) := by decide +kernel
theorem d_R_spoil_53 : decode c_R_spoil 53 = .ok (.invokevirtual 185, 3) := by decide +kernel
theorem d_R_spoil_56 : decode c_R_spoil 56 = .ok (.ireturn, 1) := by decide +kernel
theorem d_R_spoil_57 : decode c_R_spoil 57 = .ok (.aload_n 0, 1) := by decide +kernel
theorem d_R_spoil_58 : decode c_R_spoil 58 = .ok (.getfield 32, 3) := by decide +kernel
theorem d_R_spoil_61 : decode c_R_spoil 61 = .ok (.iload_n 1, 1) := by decide +kernel
theorem d_R_spoil_62 : decode c_R_spoil 62 = .ok (.dup2, 1) := by decide +kernel
theorem d_R_spoil_63 : decode c_R_spoil 63 = .ok (.laload, 1) := by decide +kernel
theorem d_R_spoil_64 : decode c_R_spoil 64 = .ok (.lconst 1, 1) := by decide +kernel
theorem d_R_spoil_65 : decode c_R_spoil 65 = .ok (.iload_n 2, 1) := by decide +kernel
theorem d_R_spoil_66 : decode c_R_spoil 66 = .ok (.lshl, 1) := by decide +kernel
theorem d_R_spoil_67 : decode c_R_spoil 67 = .ok (.lor, 1) := by decide +kernel
theorem d_R_spoil_68 : decode c_R_spoil 68 = .ok (.lastore, 1) := by decide +kernel
theorem d_R_spoil_69 : decode c_R_spoil 69 = .ok (.aload_n 0, 1) := by decide +kernel
theorem d_R_spoil_70 : decode c_R_spoil 70 = .ok (.iload_n 1, 1) := by decide +kernel
theorem d_R_spoil_71 : decode c_R_spoil 71 = .ok (.iload_n 2, 1) := by decide +kernel
theorem d_R_spoil_72 : decode c_R_spoil 72 = .ok (.invokevirtual 243, 3) := by decide +kernel
theorem d_R_spoil_75 : decode c_R_spoil 75 = .ok (.ireturn, 1) := by decide +kernel
theorem d_R_lose_0 : decode c_R_lose 0 = .ok (.aload_n 0, 1) := by decide +kernel
theorem d_R_lose_1 : decode c_R_lose 1 = .ok (.iload_n 1, 1) := by decide +kernel
theorem d_R_lose_2 : decode c_R_lose 2 = .ok (.invokevirtual 88, 3) := by decide +kernel
theorem d_R_lose_5 : decode c_R_lose 5 = .ok (.istore_n 2, 1) := by decide +kernel
theorem d_R_lose_6 : decode c_R_lose 6 = .ok (.iload_n 2, 1) := by decide +kernel
theorem d_R_lose_7 : decode c_R_lose 7 = .ok (.istore_n 3, 1) := by decide +kernel
theorem d_R_lose_8 : decode c_R_lose 8 = .ok (.iconst 0, 1) := by decide +kernel
theorem d_R_lose_9 : decode c_R_lose 9 = .ok (.istore 4, 2) := by decide +kernel
theorem d_R_lose_11 : decode c_R_lose 11 = .ok (.iload 4, 2) := by decide +kernel
theorem d_R_lose_13 : decode c_R_lose 13 = .ok (.aload_n 0, 1) := by decide +kernel
theorem d_R_lose_14 : decode c_R_lose 14 = .ok (.getfield 29, 3) := by decide +kernel
theorem d_R_lose_17 : decode c_R_lose 17 = .ok (.iload_n 1, 1) := by decide +kernel
theorem d_R_lose_18 : decode c_R_lose 18 = .ok (.iaload, 1) := by decide +kernel
theorem d_R_lose_19 : decode c_R_lose 19 = .ok (.if_icmp .ge 42, 3) := by decide +kernel
theorem d_R_lose_22 : decode c_R_lose 22 = .ok (.aload_n 0, 1) := by decide +kernel
theorem d_R_lose_23 : decode c_R_lose 23 = .ok (.getfield 32, 3) := by decide +kernel
theorem d_R_lose_26 : decode c_R_lose 26 = .ok (.iload_n 1, 1) := by decide +kernel
theorem d_R_lose_27 : decode c_R_lose 27 = .ok (.laload, 1) := by decide +kernel
theorem d_R_lose_28 : decode c_R_lose 28 = .ok (.iload 4, 2) := by decide +kernel
theorem d_R_lose_30 : decode c_R_lose 30 = .ok (.iconst 4, 1) := by decide +kernel
theorem d_R_lose_31 : decode c_R_lose 31 = .ok (.idiv, 1) := by decide +kernel
theorem d_R_lose_32 : decode c_R_lose 32 = .ok (.lshr, 1) := by decide +kernel
theorem d_R_lose_33 : decode c_R_lose 33 = .ok (.lconst 1, 1) := by decide +kernel
theorem d_R_lose_34 : decode c_R_lose 34 = .ok (.land, 1) := by decide +kernel
theorem d_R_lose_35 : decode c_R_lose 35 = .ok (.lconst 0, 1) := by decide +kernel
theorem d_R_lose_36 : decode c_R_lose 36 = .ok (.lcmp, 1) := by decide +kernel
theorem d_R_lose_37 : decode c_R_lose 37 = .ok (.ifCond .eq 6, 3) := by decide +kernel
theorem d_R_lose_40 : decode c_R_lose 40 = .ok (.goto 15, 3) := by decide +kernel
theorem d_R_lose_43 : decode c_R_lose 43 = .ok (.aload_n 0, 1) := by decide +kernel
theorem d_R_lose_44 : decode c_R_lose 44 = .ok (.iload_n 3, 1) := by decide +kernel
theorem d_R_lose_45 : decode c_R_lose 45 = .ok (.iload_n 2, 1) := by decide +kernel
theorem d_R_lose_46 : decode c_R_lose 46 = .ok (.iload 4, 2) := by decide +kernel
theorem d_R_lose_48 : decode c_R_lose 48 = .ok (.iadd, 1) := by decide +kernel
theorem d_R_lose_49 : decode c_R_lose 49 = .ok (.invokevirtual 98, 3) := by decide +kernel
theorem d_R_lose_52 : decode c_R_lose 52 = .ok (.iinc 3 1, 3) := by decide +kernel
theorem d_R_lose_55 : decode c_R_lose 55 = .ok (.iinc 4 1, 3) := by decide +kernel
theorem d_R_lose_58 : decode c_R_lose 58 = .ok (.goto (-47), 3) := by decide +kernel
theorem d_R_lose_61 : decode c_R_lose 61 = .ok (.iload_n 2, 1) := by decide +kernel
theorem d_R_lose_62 : decode c_R_lose 62 = .ok (.aload_n 0, 1) := by decide +kernel
theorem d_R_lose_63 : decode c_R_lose 63 = .ok (.getfield 29, 3) := by decide +kernel
theorem d_R_lose_66 : decode c_R_lose 66 = .ok (.iload_n 1, 1) := by decide +kernel
theorem d_R_lose_67 : decode c_R_lose 67 = .ok (.iaload, 1) := by decide +kernel
theorem d_R_lose_68 : decode c_R_lose 68 = .ok (.iadd, 1) := by decide +kernel
theorem d_R_lose_69 : decode c_R_lose 69 = .ok (.iload_n 3, 1) := by decide +kernel
theorem d_R_lose_70 : decode c_R_lose 70 = .ok (.isub, 1) := by decide +kernel
theorem d_R_lose_71 : decode c_R_lose 71 = .ok (.istore 4, 2) := by decide +kernel
theorem d_R_lose_73 : decode c_R_lose 73 = .ok (.iload_n 3, 1) := by decide +kernel
theorem d_R_lose_74 : decode c_R_lose 74 = .ok (.istore 5, 2) := by decide +kernel
theorem d_R_lose_76 : decode c_R_lose 76 = .ok (.iload 5, 2) := by decide +kernel
theorem d_R_lose_78 : decode c_R_lose 78 = .ok (.iload 4, 2) := by decide +kernel
theorem d_R_lose_80 : decode c_R_lose 80 = .ok (.iadd, 1) := by decide +kernel
theorem d_R_lose_81 : decode c_R_lose 81 = .ok (.aload_n 0, 1) := by decide +kernel
theorem d_R_lose_82 : decode c_R_lose 82 = .ok (.getfield 95, 3) := by decide +kernel
theorem d_R_lose_85 : decode c_R_lose 85 = .ok (.if_icmp .ge 20, 3) := by decide +kernel
theorem d_R_lose_88 : decode c_R_lose 88 = .ok (.aload_n 0, 1) := by decide +kernel
theorem d_R_lose_89 : decode c_R_lose 89 = .ok (.iload 5, 2) := by decide +kernel
theorem d_R_lose_91 : decode c_R_lose 91 = .ok (.iload 5, 2) := by decide +kernel
theorem d_R_lose_93 : decode c_R_lose 93 = .ok (.iload 4, 2) := by decide +kernel
theorem d_R_lose_95 : decode c_R_lose 95 = .ok (.iadd, 1) := by decide +kernel
theorem d_R_lose_96 : decode c_R_lose 96 = .ok (.invokevirtual 98, 3) := by decide +kernel
theorem d_R_lose_99 : decode c_R_lose 99 = .ok (.iinc 5 1, 3) := by decide +kernel
theorem d_R_lose_102 : decode c_R_lose 102 = .ok (.goto (-26), 3) := by decide +kernel
theorem d_R_lose_105 : decode c_R_lose 105 = .ok (.aload_n 0, 1) := by decide +kernel
theorem d_R_lose_106 : decode c_R_lose 106 = .ok (.dup, 1) := by decide +kernel
theorem d_R_lose_107 : decode c_R_lose 107 = .ok (.getfield 95, 3) := by decide +kernel
theorem d_R_lose_110 : decode c_R_lose 110 = .ok (.iload 4, 2) := by decide +kernel
theorem d_R_lose_112 : decode c_R_lose 112 = .ok (.isub, 1) := by decide +kernel
theorem d_R_lose_113 : decode c_R_lose 113 = .ok (.putfield 95, 3) := by decide +kernel
theorem d_R_lose_116 : decode c_R_lose 116 = .ok (.aload_n 0, 1) := by decide +kernel
theorem d_R_lose_117 : decode c_R_lose 117 = .ok (.getfield 29, 3) := by decide +kernel
theorem d_R_lose_120 : decode c_R_lose 120 = .ok (.iload_n 1, 1) := by decide +kernel
theorem d_R_lose_121 : decode c_R_lose 121 = .ok (.dup2, 1) := by decide +kernel
theorem d_R_lose_122 : decode c_R_lose 122 = .ok (.iaload, 1) := by decide +kernel
theorem d_R_lose_123 : decode c_R_lose 123 = .ok (.iload 4, 2) := by decide +kernel
theorem d_R_lose_125 : decode c_R_lose 125 = .ok (.isub, 1) := by decide +kernel
theorem d_R_lose_126 : decode c_R_lose 126 = .ok (.iastore, 1) := by decide +kernel
theorem d_R_lose_127 : decode c_R_lose 127 = .ok (.aload_n 0, 1) := by decide +kernel
theorem d_R_lose_128 : decode c_R_lose 128 = .ok (.getfield 32, 3) := by decide +kernel
theorem d_R_lose_131 : decode c_R_lose 131 = .ok (.iload_n 1, 1) := by decide +kernel
theorem d_R_lose_132 : decode c_R_lose 132 = .ok (.lconst 0, 1) := by decide +kernel
theorem d_R_lose_133 : decode c_R_lose 133 = .ok (.lastore, 1) := by decide +kernel
theorem d_R_lose_134 : decode c_R_lose 134 = .ok (.iload 4, 2) := by decide +kernel
theorem d_R_lose_136 : decode c_R_lose 136 = .ok (.ireturn, 1) := by decide +kernel
theorem d_R_giveUp_0 : decode c_R_giveUp 0 = .ok (.aload_n 0, 1) := by decide +kernel
theorem d_R_giveUp_1 : decode c_R_giveUp 1 = .ok (.iconst 0, 1) := by decide +kernel
theorem d_R_giveUp_2 : decode c_R_giveUp 2 = .ok (.putfield 85, 3) := by decide +kernel
theorem d_R_giveUp_5 : decode c_R_giveUp 5 = .ok (.iconst 0, 1) := by decide +kernel
theorem d_R_giveUp_6 : decode c_R_giveUp 6 = .ok (.istore_n 1, 1) := by decide +kernel
theorem d_R_giveUp_7 : decode c_R_giveUp 7 = .ok (.aload_n 0, 1) := by decide +kernel
theorem d_R_giveUp_8 : decode c_R_giveUp 8 = .ok (.getfield 92, 3) := by decide +kernel
theorem d_R_giveUp_11 : decode c_R_giveUp 11 = .ok (.iconst 1, 1) := by decide +kernel
theorem d_R_giveUp_12 : decode c_R_giveUp 12 = .ok (.isub, 1) := by decide +kernel
theorem d_R_giveUp_13 : decode c_R_giveUp 13 = .ok (.istore_n 2, 1) := by decide +kernel
theorem d_R_giveUp_14 : decode c_R_giveUp 14 = .ok (.iload_n 2, 1) := by decide +kernel
theorem d_R_giveUp_15 : decode c_R_giveUp 15 = .ok (.ifCond .lt 31, 3) := by decide +kernel
theorem d_R_giveUp_18 : decode c_R_giveUp 18 = .ok (.iload_n 1, 1) := by decide +kernel
theorem d_R_giveUp_19 : decode c_R_giveUp 19 = .ok (.aload_n 0, 1) := by decide +kernel
theorem d_R_giveUp_20 : decode c_R_giveUp 20 = .ok (.iload_n 2, 1) := by decide +kernel
theorem d_R_giveUp_21 : decode c_R_giveUp 21 = .ok (.invokevirtual 247, 3) := by decide +kernel
theorem d_R_giveUp_24 : decode c_R_giveUp 24 = .ok (.iadd, 1) := by decide +kernel
theorem d_R_giveUp_25 : decode c_R_giveUp 25 = .ok (.istore_n 1, 1) := by decide +kernel
theorem d_R_giveUp_26 : decode c_R_giveUp 26 = .ok (.aload_n 0, 1) := by decide +kernel
theorem d_R_giveUp_27 : decode c_R_giveUp 27 = .ok (.getfield 29, 3) := by decide +kernel
theorem d_R_giveUp_30 : decode c_R_giveUp 30 = .ok (.iload_n 2, 1) := by decide +kernel
theorem d_R_giveUp_31 : decode c_R_giveUp 31 = .ok (.iaload, 1) := by decide +kernel
theorem d_R_giveUp_32 : decode c_R_giveUp 32 = .ok (.ifCond .ne 8, 3) := by decide +kernel
theorem d_R_giveUp_35 : decode c_R_giveUp 35 = .ok (.aload_n 0, 1) := by decide +kernel
theorem d_R_giveUp_36 : decode c_R_giveUp 36 = .ok (.iload_n 2, 1) := by decide +kernel
theorem d_R_giveUp_37 : decode c_R_giveUp 37 = .ok (.invokevirtual 146, 3) := by decide +kernel
theorem d_R_giveUp_40 : decode c_R_giveUp 40 = .ok (.iinc 2 (-1), 3) := by decide +kernel
theorem d_R_giveUp_43 : decode c_R_giveUp 43 = .ok (.goto (-29), 3) := by decide +kernel
theorem d_R_giveUp_46 : decode c_R_giveUp 46 = .ok (.aload_n 0, 1) := by decide +kernel
theorem d_R_giveUp_47 : decode c_R_giveUp 47 = .ok (.iconst 0, 1) := by decide +kernel
theorem d_R_giveUp_48 : decode c_R_giveUp 48 = .ok (.putfield 134, 3) := by decide +kernel
theorem d_R_giveUp_51 : decode c_R_giveUp 51 = .ok (.aload_n 0, 1) := by decide +kernel
theorem d_R_giveUp_52 : decode c_R_giveUp 52 = .ok (.invokevirtual 175, 3) := by decide +kernel
theorem d_R_giveUp_55 : decode c_R_giveUp 55 = .ok (.iload_n 1, 1) := by decide +kernel
theorem d_R_giveUp_56 : decode c_R_giveUp 56 = .ok (.ireturn, 1) := by decide +kernel
theorem d_R_effort_0 : decode c_R_effort 0 = .ok (.aload_n 0, 1) := by decide +kernel
theorem d_R_effort_1 : decode c_R_effort 1 = .ok (.iconst 0, 1) := by decide +kernel
theorem d_R_effort_2 : decode c_R_effort 2 = .ok (.putfield 85, 3) := by decide +kernel
theorem d_R_effort_5 : decode c_R_effort 5 = .ok (.aload_n 0, 1) := by decide +kernel
theorem d_R_effort_6 : decode c_R_effort 6 = .ok (.getfield 227, 3) := by decide +kernel
theorem d_R_effort_9 : decode c_R_effort 9 = .ok (.ifCond .ne 12, 3) := by decide +kernel
theorem d_R_effort_12 : decode c_R_effort 12 = .ok (.aload_n 0, 1) := by decide +kernel
theorem d_R_effort_13 : decode c_R_effort 13 = .ok (.iconst 1, 1) := by decide +kernel
theorem d_R_effort_14 : decode c_R_effort 14 = .ok (.invokevirtual 185, 3) := by decide +kernel
theorem d_R_effort_17 : decode c_R_effort 17 = .ok (.i2d, 1) := by decide +kernel
theorem d_R_effort_18 : decode c_R_effort 18 = .ok (.goto 14, 3) := by decide +kernel
theorem d_R_effort_21 : decode c_R_effort 21 = .ok (.aload_n 0, 1) := by decide +kernel
theorem d_R_effort_22 : decode c_R_effort 22 = .ok (.getfield 211, 3) := by decide +kernel
theorem d_R_effort_25 : decode c_R_effort 25 = .ok (.i2d, 1) := by decide +kernel
theorem d_R_effort_26 : decode c_R_effort 26 = .ok (.aload_n 0, 1) := by decide +kernel
theorem d_R_effort_27 : decode c_R_effort 27 = .ok (.getfield 227, 3) := by decide +kernel
theorem d_R_effort_30 : decode c_R_effort 30 = .ok (.i2d, 1) := by decide +kernel
theorem d_R_effort_31 : decode c_R_effort 31 = .ok (.ddiv, 1) := by decide +kernel
theorem d_R_effort_32 : decode c_R_effort 32 = .ok (.dreturn, 1) := by decide +kernel
theorem d_R_ones_0 : decode c_R_ones 0 = .ok (.iconst 0, 1) := by decide +kernel
theorem d_R_ones_1 : decode c_R_ones 1 = .ok (.istore_n 2, 1) := by decide +kernel
theorem d_R_ones_2 : decode c_R_ones 2 = .ok (.iconst 0, 1) := by decide +kernel
theorem d_R_ones_3 : decode c_R_ones 3 = .ok (.istore_n 3, 1) := by decide +kernel
theorem d_R_ones_4 : decode c_R_ones 4 = .ok (.iload_n 3, 1) := by decide +kernel
theorem d_R_ones_5 : decode c_R_ones 5 = .ok (.bipush 64, 2) := by decide +kernel
theorem d_R_ones_7 : decode c_R_ones 7 = .ok (.if_icmp .ge 22, 3) := by decide +kernel
theorem d_R_ones_10 : decode c_R_ones 10 = .ok (.lload_n 0, 1) := by decide +kernel
theorem d_R_ones_11 : decode c_R_ones 11 = .ok (.iload_n 3, 1) := by decide +kernel
theorem d_R_ones_12 : decode c_R_ones 12 = .ok (.lshr, 1) := by decide +kernel
theorem d_R_ones_13 : decode c_R_ones 13 = .ok (.lconst 1, 1) := by decide +kernel
theorem d_R_ones_14 : decode c_R_ones 14 = .ok (.land, 1) := by decide +kernel
theorem d_R_ones_15 : decode c_R_ones 15 = .ok (.lconst 0, 1) := by decide +kernel
theorem d_R_ones_16 : decode c_R_ones 16 = .ok (.lcmp, 1) := by decide +kernel
theorem d_R_ones_17 : decode c_R_ones 17 = .ok (.ifCond .eq 6, 3) := by decide +kernel
theorem d_R_ones_20 : decode c_R_ones 20 = .ok (.iinc 2 1, 3) := by decide +kernel
theorem d_R_ones_23 : decode c_R_ones 23 = .ok (.iinc 3 1, 3) := by decide +kernel
theorem d_R_ones_26 : decode c_R_ones 26 = .ok (.goto (-22), 3) := by decide +kernel
theorem d_R_ones_29 : decode c_R_ones 29 = .ok (.iload_n 2, 1) := by decide +kernel
theorem d_R_ones_30 : decode c_R_ones 30 = .ok (.ireturn, 1) := by decide +kernel
theorem d_R_table_0 : decode c_R_table 0 = .ok (.aload_n 0, 1) := by decide +kernel
theorem d_R_table_1 : decode c_R_table 1 = .ok (.iconst 0, 1) := by decide +kernel
theorem d_R_table_2 : decode c_R_table 2 = .ok (.putfield 85, 3) := by decide +kernel
theorem d_R_table_5 : decode c_R_table 5 = .ok (.iload_n 1, 1) := by decide +kernel
theorem d_R_table_6 : decode c_R_table 6 = .ok (.iconst 0, 1) := by decide +kernel
theorem d_R_table_7 : decode c_R_table 7 = .ok (.bipush 59, 2) := by decide +kernel
theorem d_R_table_9 : decode c_R_table 9 = .ok (.invokestatic 181, 3) := by decide +kernel
theorem d_R_table_12 : decode c_R_table 12 = .ok (.ifCond .eq 13, 3) := by decide +kernel
theorem d_R_table_15 : decode c_R_table 15 = .ok (.iload_n 2, 1) := by decide +kernel
theorem d_R_table_16 : decode c_R_table 16 = .ok (.iconst 0, 1) := by decide +kernel
theorem d_R_table_17 : decode c_R_table 17 = .ok (.bipush 15, 2) := by decide +kernel
theorem d_R_table_19 : decode c_R_table 19 = .ok (.invokestatic 181, 3) := by decide +kernel
theorem d_R_table_22 : decode c_R_table 22 = .ok (.ifCond .ne 9, 3) := by decide +kernel
theorem d_R_table_25 : decode c_R_table 25 = .ok (.aload_n 0, 1) := by decide +kernel
theorem d_R_table_26 : decode c_R_table 26 = .ok (.iconst 1, 1) := by decide +kernel
theorem d_R_table_27 : decode c_R_table 27 = .ok (.invokevirtual 185, 3) := by decide +kernel
theorem d_R_table_30 : decode c_R_table 30 = .ok (.ireturn, 1) := by decide +kernel
theorem d_R_table_31 : decode c_R_table 31 = .ok (.iload_n 1, 1) := by decide +kernel
theorem d_R_table_32 : decode c_R_table 32 = .ok (.aload_n 0, 1) := by decide +kernel
theorem d_R_table_33 : decode c_R_table 33 = .ok (.getfield 92, 3) := by decide +kernel
theorem d_R_table_36 : decode c_R_table 36 = .ok (.if_icmp .lt 9, 3) := by decide +kernel
theorem d_R_table_39 : decode c_R_table 39 = .ok (.aload_n 0, 1) := by decide +kernel
theorem d_R_table_40 : decode c_R_table 40 = .ok (.iconst 2, 1) := by decide +kernel
