/-! DECODED INSTRUCTIONS -/
theorem d_L_table_37 : decode c_L_table 37 = .ok (.athrow, 1) := by decide +kernel
theorem d_L_table_38 : decode c_L_table 38 = .ok (.iload_n 2, 1) := by decide +kernel
theorem d_L_table_39 : decode c_L_table 39 = .ok (.tableswitch 75 0 5 #[37, 44, 51, 57, 63, 69], 37) := by decide +kernel
theorem d_L_table_76 : decode c_L_table 76 = .ok (.aload_n 3, 1) := by decide +kernel
theorem d_L_table_77 : decode c_L_table 77 = .ok (.getfield 157, 3) := by decide +kernel
theorem d_L_table_80 : decode c_L_table 80 = .ok (.iload_n 1, 1) := by decide +kernel
theorem d_L_table_81 : decode c_L_table 81 = .ok (.iaload, 1) := by decide +kernel
theorem d_L_table_82 : decode c_L_table 82 = .ok (.ireturn, 1) := by decide +kernel
theorem d_L_table_83 : decode c_L_table 83 = .ok (.aload_n 3, 1) := by decide +kernel
theorem d_L_table_84 : decode c_L_table 84 = .ok (.getfield 160, 3) := by decide +kernel
theorem d_L_table_87 : decode c_L_table 87 = .ok (.iload_n 1, 1) := by decide +kernel
theorem d_L_table_88 : decode c_L_table 88 = .ok (.iaload, 1) := by decide +kernel
theorem d_L_table_89 : decode c_L_table 89 = .ok (.ireturn, 1) := by decide +kernel
theorem d_L_table_90 : decode c_L_table 90 = .ok (.aload_n 3, 1) := by decide +kernel
theorem d_L_table_91 : decode c_L_table 91 = .ok (.iload_n 1, 1) := by decide +kernel
theorem d_L_table_92 : decode c_L_table 92 = .ok (.invokevirtual 163, 3) := by decide +kernel
theorem d_L_table_95 : decode c_L_table 95 = .ok (.ireturn, 1) := by decide +kernel
theorem d_L_table_96 : decode c_L_table 96 = .ok (.aload_n 3, 1) := by decide +kernel
theorem d_L_table_97 : decode c_L_table 97 = .ok (.iload_n 1, 1) := by decide +kernel
theorem d_L_table_98 : decode c_L_table 98 = .ok (.invokevirtual 166, 3) := by decide +kernel
theorem d_L_table_101 : decode c_L_table 101 = .ok (.ireturn, 1) := by decide +kernel
theorem d_L_table_102 : decode c_L_table 102 = .ok (.aload_n 3, 1) := by decide +kernel
theorem d_L_table_103 : decode c_L_table 103 = .ok (.iload_n 1, 1) := by decide +kernel
theorem d_L_table_104 : decode c_L_table 104 = .ok (.invokevirtual 169, 3) := by decide +kernel
theorem d_L_table_107 : decode c_L_table 107 = .ok (.ireturn, 1) := by decide +kernel
theorem d_L_table_108 : decode c_L_table 108 = .ok (.aload_n 3, 1) := by decide +kernel
theorem d_L_table_109 : decode c_L_table 109 = .ok (.iload_n 1, 1) := by decide +kernel
theorem d_L_table_110 : decode c_L_table 110 = .ok (.invokevirtual 172, 3) := by decide +kernel
theorem d_L_table_113 : decode c_L_table 113 = .ok (.ireturn, 1) := by decide +kernel
theorem d_L_table_114 : decode c_L_table 114 = .ok (.aload_n 3, 1) := by decide +kernel
theorem d_L_table_115 : decode c_L_table 115 = .ok (.iload_n 1, 1) := by decide +kernel
theorem d_L_table_116 : decode c_L_table 116 = .ok (.iload_n 2, 1) := by decide +kernel
theorem d_L_table_117 : decode c_L_table 117 = .ok (.bipush 6, 2) := by decide +kernel
theorem d_L_table_119 : decode c_L_table 119 = .ok (.isub, 1) := by decide +kernel
theorem d_L_table_120 : decode c_L_table 120 = .ok (.invokevirtual 175, 3) := by decide +kernel
theorem d_L_table_123 : decode c_L_table 123 = .ok (.ireturn, 1) := by decide +kernel
theorem d_W_table_0 : decode c_W_table 0 = .ok (.aload_n 3, 1) := by decide +kernel
theorem d_W_table_1 : decode c_W_table 1 = .ok (.iconst 0, 1) := by decide +kernel
theorem d_W_table_2 : decode c_W_table 2 = .ok (.aload_n 0, 1) := by decide +kernel
theorem d_W_table_3 : decode c_W_table 3 = .ok (.iload_n 1, 1) := by decide +kernel
theorem d_W_table_4 : decode c_W_table 4 = .ok (.iload_n 2, 1) := by decide +kernel
theorem d_W_table_5 : decode c_W_table 5 = .ok (.invokevirtual 62, 3) := by decide +kernel
theorem d_W_table_8 : decode c_W_table 8 = .ok (.i2l, 1) := by decide +kernel
theorem d_W_table_9 : decode c_W_table 9 = .ok (.lastore, 1) := by decide +kernel
theorem d_W_table_10 : decode c_W_table 10 = .ok (.goto 11, 3) := by decide +kernel
theorem d_W_table_13 : decode c_W_table 13 = .ok (.astore 4, 2) := by decide +kernel
theorem d_W_table_15 : decode c_W_table 15 = .ok (.iconst 1, 1) := by decide +kernel
theorem d_W_table_16 : decode c_W_table 16 = .ok (.ireturn, 1) := by decide +kernel
theorem d_W_table_17 : decode c_W_table 17 = .ok (.astore 4, 2) := by decide +kernel
theorem d_W_table_19 : decode c_W_table 19 = .ok (.iconst 2, 1) := by decide +kernel
theorem d_W_table_20 : decode c_W_table 20 = .ok (.ireturn, 1) := by decide +kernel
theorem d_W_table_21 : decode c_W_table 21 = .ok (.iconst 0, 1) := by decide +kernel
theorem d_W_table_22 : decode c_W_table 22 = .ok (.ireturn, 1) := by decide +kernel
theorem d_L_count_0 : decode c_L_count 0 = .ok (.iload_n 1, 1) := by decide +kernel
theorem d_L_count_1 : decode c_L_count 1 = .ok (.iconst 0, 1) := by decide +kernel
theorem d_L_count_2 : decode c_L_count 2 = .ok (.bipush 16, 2) := by decide +kernel
theorem d_L_count_4 : decode c_L_count 4 = .ok (.invokestatic 73, 3) := by decide +kernel
theorem d_L_count_7 : decode c_L_count 7 = .ok (.iload_n 1, 1) := by decide +kernel
theorem d_L_count_8 : decode c_L_count 8 = .ok (.tableswitch 194 0 16 #[84, 89, 100, 108, 116, 127, 143, 148, 153, 158, 166, 194, 194, 194, 194, 174, 184], 84) := by decide +kernel
theorem d_L_count_92 : decode c_L_count 92 = .ok (.aload_n 0, 1) := by decide +kernel
theorem d_L_count_93 : decode c_L_count 93 = .ok (.getfield 61, 3) := by decide +kernel
theorem d_L_count_96 : decode c_L_count 96 = .ok (.ireturn, 1) := by decide +kernel
theorem d_L_count_97 : decode c_L_count 97 = .ok (.aload_n 0, 1) := by decide +kernel
theorem d_L_count_98 : decode c_L_count 98 = .ok (.getfield 10, 3) := by decide +kernel
theorem d_L_count_101 : decode c_L_count 101 = .ok (.getfield 80, 3) := by decide +kernel
theorem d_L_count_104 : decode c_L_count 104 = .ok (.getfield 50, 3) := by decide +kernel
theorem d_L_count_107 : decode c_L_count 107 = .ok (.ireturn, 1) := by decide +kernel
theorem d_L_count_108 : decode c_L_count 108 = .ok (.aload_n 0, 1) := by decide +kernel
theorem d_L_count_109 : decode c_L_count 109 = .ok (.getfield 10, 3) := by decide +kernel
theorem d_L_count_112 : decode c_L_count 112 = .ok (.getfield 67, 3) := by decide +kernel
theorem d_L_count_115 : decode c_L_count 115 = .ok (.ireturn, 1) := by decide +kernel
theorem d_L_count_116 : decode c_L_count 116 = .ok (.aload_n 0, 1) := by decide +kernel
theorem d_L_count_117 : decode c_L_count 117 = .ok (.getfield 10, 3) := by decide +kernel
theorem d_L_count_120 : decode c_L_count 120 = .ok (.getfield 70, 3) := by decide +kernel
theorem d_L_count_123 : decode c_L_count 123 = .ok (.ireturn, 1) := by decide +kernel
theorem d_L_count_124 : decode c_L_count 124 = .ok (.aload_n 0, 1) := by decide +kernel
theorem d_L_count_125 : decode c_L_count 125 = .ok (.getfield 19, 3) := by decide +kernel
theorem d_L_count_128 : decode c_L_count 128 = .ok (.getfield 86, 3) := by decide +kernel
theorem d_L_count_131 : decode c_L_count 131 = .ok (.getfield 112, 3) := by decide +kernel
theorem d_L_count_134 : decode c_L_count 134 = .ok (.ireturn, 1) := by decide +kernel
theorem d_L_count_135 : decode c_L_count 135 = .ok (.aload_n 0, 1) := by decide +kernel
theorem d_L_count_136 : decode c_L_count 136 = .ok (.getfield 19, 3) := by decide +kernel
theorem d_L_count_139 : decode c_L_count 139 = .ok (.getfield 178, 3) := by decide +kernel
theorem d_L_count_142 : decode c_L_count 142 = .ok (.ifCond .eq 7, 3) := by decide +kernel
theorem d_L_count_145 : decode c_L_count 145 = .ok (.iconst 1, 1) := by decide +kernel
theorem d_L_count_146 : decode c_L_count 146 = .ok (.goto 4, 3) := by decide +kernel
theorem d_L_count_149 : decode c_L_count 149 = .ok (.iconst 0, 1) := by decide +kernel
theorem d_L_count_150 : decode c_L_count 150 = .ok (.ireturn, 1) := by decide +kernel
theorem d_L_count_151 : decode c_L_count 151 = .ok (.aload_n 0, 1) := by decide +kernel
theorem d_L_count_152 : decode c_L_count 152 = .ok (.getfield 154, 3) := by decide +kernel
theorem d_L_count_155 : decode c_L_count 155 = .ok (.ireturn, 1) := by decide +kernel
theorem d_L_count_156 : decode c_L_count 156 = .ok (.aload_n 0, 1) := by decide +kernel
theorem d_L_count_157 : decode c_L_count 157 = .ok (.getfield 181, 3) := by decide +kernel
theorem d_L_count_160 : decode c_L_count 160 = .ok (.ireturn, 1) := by decide +kernel
theorem d_L_count_161 : decode c_L_count 161 = .ok (.aload_n 0, 1) := by decide +kernel
theorem d_L_count_162 : decode c_L_count 162 = .ok (.getfield 119, 3) := by decide +kernel
theorem d_L_count_165 : decode c_L_count 165 = .ok (.ireturn, 1) := by decide +kernel
theorem d_L_count_166 : decode c_L_count 166 = .ok (.aload_n 0, 1) := by decide +kernel
theorem d_L_count_167 : decode c_L_count 167 = .ok (.getfield 19, 3) := by decide +kernel
theorem d_L_count_170 : decode c_L_count 170 = .ok (.getfield 184, 3) := by decide +kernel
theorem d_L_count_173 : decode c_L_count 173 = .ok (.ireturn, 1) := by decide +kernel
theorem d_L_count_174 : decode c_L_count 174 = .ok (.aload_n 0, 1) := by decide +kernel
theorem d_L_count_175 : decode c_L_count 175 = .ok (.getfield 19, 3) := by decide +kernel
theorem d_L_count_178 : decode c_L_count 178 = .ok (.getfield 187, 3) := by decide +kernel
theorem d_L_count_181 : decode c_L_count 181 = .ok (.ireturn, 1) := by decide +kernel
theorem d_L_count_182 : decode c_L_count 182 = .ok (.aload_n 0, 1) := by decide +kernel
theorem d_L_count_183 : decode c_L_count 183 = .ok (.getfield 19, 3) := by decide +kernel
theorem d_L_count_186 : decode c_L_count 186 = .ok (.getfield 190, 3) := by decide +kernel
theorem d_L_count_189 : decode c_L_count 189 = .ok (.iconst 1, 1) := by decide +kernel
theorem d_L_count_190 : decode c_L_count 190 = .ok (.iaload, 1) := by decide +kernel
theorem d_L_count_191 : decode c_L_count 191 = .ok (.ireturn, 1) := by decide +kernel
theorem d_L_count_192 : decode c_L_count 192 = .ok (.aload_n 0, 1) := by decide +kernel
theorem d_L_count_193 : decode c_L_count 193 = .ok (.getfield 19, 3) := by decide +kernel
theorem d_L_count_196 : decode c_L_count 196 = .ok (.getfield 190, 3) := by decide +kernel
theorem d_L_count_199 : decode c_L_count 199 = .ok (.iconst 2, 1) := by decide +kernel
theorem d_L_count_200 : decode c_L_count 200 = .ok (.iaload, 1) := by decide +kernel
theorem d_L_count_201 : decode c_L_count 201 = .ok (.ireturn, 1) := by decide +kernel
theorem d_L_count_202 : decode c_L_count 202 = .ok (.aload_n 0, 1) := by decide +kernel
theorem d_L_count_203 : decode c_L_count 203 = .ok (.getfield 19, 3) := by decide +kernel
theorem d_L_count_206 : decode c_L_count 206 = .ok (.getfield 86, 3) := by decide +kernel
theorem d_L_count_209 : decode c_L_count 209 = .ok (.iload_n 1, 1) := by decide +kernel
theorem d_L_count_210 : decode c_L_count 210 = .ok (.bipush 11, 2) := by decide +kernel
theorem d_L_count_212 : decode c_L_count 212 = .ok (.isub, 1) := by decide +kernel
theorem d_L_count_213 : decode c_L_count 213 = .ok (.invokevirtual 193, 3) := by decide +kernel
theorem d_L_count_216 : decode c_L_count 216 = .ok (.ireturn, 1) := by decide +kernel
theorem d_W_count_0 : decode c_W_count 0 = .ok (.aload_n 2, 1) := by decide +kernel
theorem d_W_count_1 : decode c_W_count 1 = .ok (.iconst 0, 1) := by decide +kernel
theorem d_W_count_2 : decode c_W_count 2 = .ok (.aload_n 0, 1) := by decide +kernel
theorem d_W_count_3 : decode c_W_count 3 = .ok (.iload_n 1, 1) := by decide +kernel
theorem d_W_count_4 : decode c_W_count 4 = .ok (.invokevirtual 65, 3) := by decide +kernel
theorem d_W_count_7 : decode c_W_count 7 = .ok (.i2l, 1) := by decide +kernel
theorem d_W_count_8 : decode c_W_count 8 = .ok (.lastore, 1) := by decide +kernel
theorem d_W_count_9 : decode c_W_count 9 = .ok (.goto 6, 3) := by decide +kernel
theorem d_W_count_12 : decode c_W_count 12 = .ok (.astore_n 3, 1) := by decide +kernel
theorem d_W_count_13 : decode c_W_count 13 = .ok (.iconst 1, 1) := by decide +kernel
theorem d_W_count_14 : decode c_W_count 14 = .ok (.ireturn, 1) := by decide +kernel
theorem d_W_count_15 : decode c_W_count 15 = .ok (.iconst 0, 1) := by decide +kernel
theorem d_W_count_16 : decode c_W_count 16 = .ok (.ireturn, 1) := by decide +kernel
theorem d_R_init_0 : decode c_R_init 0 = .ok (.aload_n 0, 1) := by decide +kernel
theorem d_R_init_1 : decode c_R_init 1 = .ok (.invokespecial 1, 3) := by decide +kernel
theorem d_R_init_4 : decode c_R_init 4 = .ok (.aload_n 0, 1) := by decide +kernel
theorem d_R_init_5 : decode c_R_init 5 = .ok (.sipush 260, 3) := by decide +kernel
theorem d_R_init_8 : decode c_R_init 8 = .ok (.newarray .int, 2) := by decide +kernel
theorem d_R_init_10 : decode c_R_init 10 = .ok (.putfield 7, 3) := by decide +kernel
theorem d_R_init_13 : decode c_R_init 13 = .ok (.aload_n 0, 1) := by decide +kernel
theorem d_R_init_14 : decode c_R_init 14 = .ok (.sipush 260, 3) := by decide +kernel
theorem d_R_init_17 : decode c_R_init 17 = .ok (.newarray .int, 2) := by decide +kernel
theorem d_R_init_19 : decode c_R_init 19 = .ok (.putfield 13, 3) := by decide +kernel
theorem d_R_init_22 : decode c_R_init 22 = .ok (.aload_n 0, 1) := by decide +kernel
theorem d_R_init_23 : decode c_R_init 23 = .ok (.sipush 260, 3) := by decide +kernel
theorem d_R_init_26 : decode c_R_init 26 = .ok (.newarray .int, 2) := by decide +kernel
theorem d_R_init_28 : decode c_R_init 28 = .ok (.putfield 16, 3) := by decide +kernel
theorem d_R_init_31 : decode c_R_init 31 = .ok (.aload_n 0, 1) := by decide +kernel
theorem d_R_init_32 : decode c_R_init 32 = .ok (.sipush 260, 3) := by decide +kernel
theorem d_R_init_35 : decode c_R_init 35 = .ok (.newarray .boolean, 2) := by decide +kernel
theorem d_R_init_37 : decode c_R_init 37 = .ok (.putfield 19, 3) := by decide +kernel
theorem d_R_init_40 : decode c_R_init 40 = .ok (.aload_n 0, 1) := by decide +kernel
theorem d_R_init_41 : decode c_R_init 41 = .ok (.sipush 260, 3) := by decide +kernel
theorem d_R_init_44 : decode c_R_init 44 = .ok (.newarray .int, 2) := by decide +kernel
theorem d_R_init_46 : decode c_R_init 46 = .ok (.putfield 23, 3) := by decide +kernel
theorem d_R_init_49 : decode c_R_init 49 = .ok (.aload_n 0, 1) := by decide +kernel
theorem d_R_init_50 : decode c_R_init 50 = .ok (.sipush 260, 3) := by decide +kernel
theorem d_R_init_53 : decode c_R_init 53 = .ok (.newarray .int, 2) := by decide +kernel
theorem d_R_init_55 : decode c_R_init 55 = .ok (.putfield 26, 3) := by decide +kernel
theorem d_R_init_58 : decode c_R_init 58 = .ok (.aload_n 0, 1) := by decide +kernel
theorem d_R_init_59 : decode c_R_init 59 = .ok (.sipush 260, 3) := by decide +kernel
theorem d_R_init_62 : decode c_R_init 62 = .ok (.newarray .int, 2) := by decide +kernel
theorem d_R_init_64 : decode c_R_init 64 = .ok (.putfield 29, 3) := by decide +kernel
theorem d_R_init_67 : decode c_R_init 67 = .ok (.aload_n 0, 1) := by decide +kernel
theorem d_R_init_68 : decode c_R_init 68 = .ok (.sipush 260, 3) := by decide +kernel
theorem d_R_init_71 : decode c_R_init 71 = .ok (.newarray .long, 2) := by decide +kernel
theorem d_R_init_73 : decode c_R_init 73 = .ok (.putfield 32, 3) := by decide +kernel
theorem d_R_init_76 : decode c_R_init 76 = .ok (.aload_n 0, 1) := by decide +kernel
theorem d_R_init_77 : decode c_R_init 77 = .ok (.bipush 16, 2) := by decide +kernel
theorem d_R_init_79 : decode c_R_init 79 = .ok (.newarray .int, 2) := by decide +kernel
theorem d_R_init_81 : decode c_R_init 81 = .ok (.putfield 36, 3) := by decide +kernel
theorem d_R_init_84 : decode c_R_init 84 = .ok (.aload_n 0, 1) := by decide +kernel
theorem d_R_init_85 : decode c_R_init 85 = .ok (.bipush 16, 2) := by decide +kernel
theorem d_R_init_87 : decode c_R_init 87 = .ok (.newarray .int, 2) := by decide +kernel
theorem d_R_init_89 : decode c_R_init 89 = .ok (.putfield 39, 3) := by decide +kernel
theorem d_R_init_92 : decode c_R_init 92 = .ok (.aload_n 0, 1) := by decide +kernel
theorem d_R_init_93 : decode c_R_init 93 = .ok (.bipush 16, 2) := by decide +kernel
theorem d_R_init_95 : decode c_R_init 95 = .ok (.newarray .int, 2) := by decide +kernel
theorem d_R_init_97 : decode c_R_init 97 = .ok (.putfield 42, 3) := by decide +kernel
theorem d_R_init_100 : decode c_R_init 100 = .ok (.aload_n 0, 1) := by decide +kernel
theorem d_R_init_101 : decode c_R_init 101 = .ok (.bipush 16, 2) := by decide +kernel
theorem d_R_init_103 : decode c_R_init 103 = .ok (.newarray .boolean, 2) := by decide +kernel
theorem d_R_init_105 : decode c_R_init 105 = .ok (.putfield 45, 3) := by decide +kernel
theorem d_R_init_108 : decode c_R_init 108 = .ok (.aload_n 0, 1) := by decide +kernel
theorem d_R_init_109 : decode c_R_init 109 = .ok (.bipush 16, 2) := by decide +kernel
theorem d_R_init_111 : decode c_R_init 111 = .ok (.newarray .int, 2) := by decide +kernel
theorem d_R_init_113 : decode c_R_init 113 = .ok (.putfield 48, 3) := by decide +kernel
theorem d_R_init_116 : decode c_R_init 116 = .ok (.aload_n 0, 1) := by decide +kernel
theorem d_R_init_117 : decode c_R_init 117 = .ok (.iconst 4, 1) := by decide +kernel
theorem d_R_init_118 : decode c_R_init 118 = .ok (.newarray .int, 2) := by decide +kernel
theorem d_R_init_120 : decode c_R_init 120 = .ok (.putfield 51, 3) := by decide +kernel
theorem d_R_init_123 : decode c_R_init 123 = .ok (.aload_n 0, 1) := by decide +kernel
theorem d_R_init_124 : decode c_R_init 124 = .ok (.iconst 4, 1) := by decide +kernel
theorem d_R_init_125 : decode c_R_init 125 = .ok (.newarray .int, 2) := by decide +kernel
theorem d_R_init_127 : decode c_R_init 127 = .ok (.putfield 54, 3) := by decide +kernel
theorem d_R_init_130 : decode c_R_init 130 = .ok (.aload_n 0, 1) := by decide +kernel
theorem d_R_init_131 : decode c_R_init 131 = .ok (.iconst 4, 1) := by decide +kernel
theorem d_R_init_132 : decode c_R_init 132 = .ok (.newarray .boolean, 2) := by decide +kernel
theorem d_R_init_134 : decode c_R_init 134 = .ok (.putfield 57, 3) := by decide +kernel
theorem d_R_init_137 : decode c_R_init 137 = .ok (.aload_n 0, 1) := by decide +kernel
theorem d_R_init_138 : decode c_R_init 138 = .ok (.iconst (-1), 1) := by decide +kernel
theorem d_R_init_139 : decode c_R_init 139 = .ok (.putfield 60, 3) := by decide +kernel
theorem d_R_init_142 : decode c_R_init 142 = .ok (.aload_n 0, 1) := by decide +kernel
theorem d_R_init_143 : decode c_R_init 143 = .ok (.iconst 4, 1) := by decide +kernel
theorem d_R_init_144 : decode c_R_init 144 = .ok (.newarray .int, 2) := by decide +kernel
theorem d_R_init_146 : decode c_R_init 146 = .ok (.dup, 1) := by decide +kernel
theorem d_R_init_147 : decode c_R_init 147 = .ok (.iconst 0, 1) := by decide +kernel
theorem d_R_init_148 : decode c_R_init 148 = .ok (.iconst (-1), 1) := by decide +kernel
theorem d_R_init_149 : decode c_R_init 149 = .ok (.iastore, 1) := by decide +kernel
theorem d_R_init_150 : decode c_R_init 150 = .ok (.dup, 1) := by decide +kernel
theorem d_R_init_151 : decode c_R_init 151 = .ok (.iconst 1, 1) := by decide +kernel
theorem d_R_init_152 : decode c_R_init 152 = .ok (.iconst (-1), 1) := by decide +kernel
theorem d_R_init_153 : decode c_R_init 153 = .ok (.iastore, 1) := by decide +kernel
theorem d_R_init_154 : decode c_R_init 154 = .ok (.dup, 1) := by decide +kernel
theorem d_R_init_155 : decode c_R_init 155 = .ok (.iconst 2, 1) := by decide +kernel
theorem d_R_init_156 : decode c_R_init 156 = .ok (.iconst (-1), 1) := by decide +kernel
theorem d_R_init_157 : decode c_R_init 157 = .ok (.iastore, 1) := by decide +kernel
theorem d_R_init_158 : decode c_R_init 158 = .ok (.dup, 1) := by decide +kernel
theorem d_R_init_159 : decode c_R_init 159 = .ok (.iconst 3, 1) := by decide +kernel
theorem d_R_init_160 : decode c_R_init 160 = .ok (.iconst (-1), 1) := by decide +kernel
theorem d_R_init_161 : decode c_R_init 161 = .ok (.iastore, 1) := by decide +kernel
theorem d_R_init_162 : decode c_R_init 162 = .ok (.putfield 64, 3) := by decide +kernel
theorem d_R_init_165 : decode c_R_init 165 = .ok (.aload_n 0, 1) := by decide +kernel
theorem d_R_init_166 : decode c_R_init 166 = .ok (.iconst 4, 1) := by decide +kernel
theorem d_R_init_167 : decode c_R_init 167 = .ok (.newarray .int, 2) := by decide +kernel
theorem d_R_init_169 : decode c_R_init 169 = .ok (.dup, 1) := by decide +kernel
theorem d_R_init_170 : decode c_R_init 170 = .ok (.iconst 0, 1) := by decide +kernel
theorem d_R_init_171 : decode c_R_init 171 = .ok (.iconst (-1), 1) := by decide +kernel
theorem d_R_init_172 : decode c_R_init 172 = .ok (.iastore, 1) := by decide +kernel
theorem d_R_init_173 : decode c_R_init 173 = .ok (.dup, 1) := by decide +kernel
theorem d_R_init_174 : decode c_R_init 174 = .ok (.iconst 1, 1) := by decide +kernel
theorem d_R_init_175 : decode c_R_init 175 = .ok (.iconst (-1), 1) := by decide +kernel
theorem d_R_init_176 : decode c_R_init 176 = .ok (.iastore, 1) := by decide +kernel
theorem d_R_init_177 : decode c_R_init 177 = .ok (.dup, 1) := by decide +kernel
theorem d_R_init_178 : decode c_R_init 178 = .ok (.iconst 2, 1) := by decide +kernel
theorem d_R_init_179 : decode c_R_init 179 = .ok (.iconst (-1), 1) := by decide +kernel
theorem d_R_init_180 : decode c_R_init 180 = .ok (.iastore, 1) := by decide +kernel
theorem d_R_init_181 : decode c_R_init 181 = .ok (.dup, 1) := by decide +kernel
theorem d_R_init_182 : decode c_R_init 182 = .ok (.iconst 3, 1) := by decide +kernel
theorem d_R_init_183 : decode c_R_init 183 = .ok (.iconst (-1), 1) := by decide +kernel
theorem d_R_init_184 : decode c_R_init 184 = .ok (.iastore, 1) := by decide +kernel
theorem d_R_init_185 : decode c_R_init 185 = .ok (.putfield 67, 3) := by decide +kernel
theorem d_R_init_188 : decode c_R_init 188 = .ok (.aload_n 0, 1) := by decide +kernel
theorem d_R_init_189 : decode c_R_init 189 = .ok (.sipush 260, 3) := by decide +kernel
theorem d_R_init_192 : decode c_R_init 192 = .ok (.newarray .int, 2) := by decide +kernel
theorem d_R_init_194 : decode c_R_init 194 = .ok (.putfield 70, 3) := by decide +kernel
theorem d_R_init_197 : decode c_R_init 197 = .ok (.aload_n 0, 1) := by decide +kernel
theorem d_R_init_198 : decode c_R_init 198 = .ok (.sipush 260, 3) := by decide +kernel
theorem d_R_init_201 : decode c_R_init 201 = .ok (.newarray .int, 2) := by decide +kernel
theorem d_R_init_203 : decode c_R_init 203 = .ok (.putfield 73, 3) := by decide +kernel
theorem d_R_init_206 : decode c_R_init 206 = .ok (.aload_n 0, 1) := by decide +kernel
theorem d_R_init_207 : decode c_R_init 207 = .ok (.sipush 260, 3) := by decide +kernel
theorem d_R_init_210 : decode c_R_init 210 = .ok (.newarray .int, 2) := by decide +kernel
theorem d_R_init_212 : decode c_R_init 212 = .ok (.putfield 76, 3) := by decide +kernel
theorem d_R_init_215 : decode c_R_init 215 = .ok (.aload_n 0, 1) := by decide +kernel
theorem d_R_init_216 : decode c_R_init 216 = .ok (.sipush 260, 3) := by decide +kernel
theorem d_R_init_219 : decode c_R_init 219 = .ok (.newarray .boolean, 2) := by decide +kernel
theorem d_R_init_221 : decode c_R_init 221 = .ok (.putfield 79, 3) := by decide +kernel
theorem d_R_init_224 : decode c_R_init 224 = .ok (.aload_n 0, 1) := by decide +kernel
theorem d_R_init_225 : decode c_R_init 225 = .ok (.sipush 260, 3) := by decide +kernel
theorem d_R_init_228 : decode c_R_init 228 = .ok (.newarray .boolean, 2) := by decide +kernel
theorem d_R_init_230 : decode c_R_init 230 = .ok (.putfield 82, 3) := by decide +kernel
theorem d_R_init_233 : decode c_R_init 233 = .ok (.return_, 1) := by decide +kernel
theorem d_R_thrown_0 : decode c_R_thrown 0 = .ok (.aload_n 0, 1) := by decide +kernel
theorem d_R_thrown_1 : decode c_R_thrown 1 = .ok (.getfield 85, 3) := by decide +kernel
theorem d_R_thrown_4 : decode c_R_thrown 4 = .ok (.ireturn, 1) := by decide +kernel
theorem d_R_in_0 : decode c_R_in 0 = .ok (.iload_n 0, 1) := by decide +kernel
theorem d_R_in_1 : decode c_R_in 1 = .ok (.iload_n 1, 1) := by decide +kernel
theorem d_R_in_2 : decode c_R_in 2 = .ok (.if_icmp .lt 12, 3) := by decide +kernel
theorem d_R_in_5 : decode c_R_in 5 = .ok (.iload_n 0, 1) := by decide +kernel
theorem d_R_in_6 : decode c_R_in 6 = .ok (.iload_n 2, 1) := by decide +kernel
theorem d_R_in_7 : decode c_R_in 7 = .ok (.if_icmp .gt 7, 3) := by decide +kernel
theorem d_R_in_10 : decode c_R_in 10 = .ok (.iconst 1, 1) := by decide +kernel
theorem d_R_in_11 : decode c_R_in 11 = .ok (.goto 4, 3) := by decide +kernel
theorem d_R_in_14 : decode c_R_in 14 = .ok (.iconst 0, 1) := by decide +kernel
theorem d_R_in_15 : decode c_R_in 15 = .ok (.ireturn, 1) := by decide +kernel
theorem d_R_raise_0 : decode c_R_raise 0 = .ok (.aload_n 0, 1) := by decide +kernel
theorem d_R_raise_1 : decode c_R_raise 1 = .ok (.iload_n 1, 1) := by decide +kernel
theorem d_R_raise_2 : decode c_R_raise 2 = .ok (.putfield 85, 3) := by decide +kernel
theorem d_R_raise_5 : decode c_R_raise 5 = .ok (.iconst 0, 1) := by decide +kernel
theorem d_R_raise_6 : decode c_R_raise 6 = .ok (.ireturn, 1) := by decide +kernel
theorem d_R_onLevel_0 : decode c_R_onLevel 0 = .ok (.iconst 0, 1) := by decide +kernel
theorem d_R_onLevel_1 : decode c_R_onLevel 1 = .ok (.istore_n 2, 1) := by decide +kernel
theorem d_R_onLevel_2 : decode c_R_onLevel 2 = .ok (.iconst 0, 1) := by decide +kernel
theorem d_R_onLevel_3 : decode c_R_onLevel 3 = .ok (.istore_n 3, 1) := by decide +kernel
theorem d_R_onLevel_4 : decode c_R_onLevel 4 = .ok (.iload_n 3, 1) := by decide +kernel
theorem d_R_onLevel_5 : decode c_R_onLevel 5 = .ok (.aload_n 0, 1) := by decide +kernel
theorem d_R_onLevel_6 : decode c_R_onLevel 6 = .ok (.getfield 92, 3) := by decide +kernel
theorem d_R_onLevel_9 : decode c_R_onLevel 9 = .ok (.if_icmp .ge 22, 3) := by decide +kernel
theorem d_R_onLevel_12 : decode c_R_onLevel 12 = .ok (.aload_n 0, 1) := by decide +kernel
theorem d_R_onLevel_13 : decode c_R_onLevel 13 = .ok (.getfield 26, 3) := by decide +kernel
theorem d_R_onLevel_16 : decode c_R_onLevel 16 = .ok (.iload_n 3, 1) := by decide +kernel
theorem d_R_onLevel_17 : decode c_R_onLevel 17 = .ok (.iaload, 1) := by decide +kernel
theorem d_R_onLevel_18 : decode c_R_onLevel 18 = .ok (.iload_n 1, 1) := by decide +kernel
theorem d_R_onLevel_19 : decode c_R_onLevel 19 = .ok (.if_icmp .ne 6, 3) := by decide +kernel
theorem d_R_onLevel_22 : decode c_R_onLevel 22 = .ok (.iinc 2 1, 3) := by decide +kernel
theorem d_R_onLevel_25 : decode c_R_onLevel 25 = .ok (.iinc 3 1, 3) := by decide +kernel
theorem d_R_onLevel_28 : decode c_R_onLevel 28 = .ok (.goto (-24), 3) := by decide +kernel
theorem d_R_onLevel_31 : decode c_R_onLevel 31 = .ok (.iload_n 2, 1) := by decide +kernel
theorem d_R_onLevel_32 : decode c_R_onLevel 32 = .ok (.ireturn, 1) := by decide +kernel
theorem d_R_full_0 : decode c_R_full 0 = .ok (.aload_n 0, 1) := by decide +kernel
theorem d_R_full_1 : decode c_R_full 1 = .ok (.getfield 95, 3) := by decide +kernel
theorem d_R_full_4 : decode c_R_full 4 = .ok (.aload_n 0, 1) := by decide +kernel
theorem d_R_full_5 : decode c_R_full 5 = .ok (.getfield 166, 3) := by decide +kernel
theorem d_R_full_8 : decode c_R_full 8 = .ok (.iadd, 1) := by decide +kernel
theorem d_R_full_9 : decode c_R_full 9 = .ok (.iload_n 1, 1) := by decide +kernel
theorem d_R_full_10 : decode c_R_full 10 = .ok (.iadd, 1) := by decide +kernel
theorem d_R_full_11 : decode c_R_full 11 = .ok (.sipush 240, 3) := by decide +kernel
theorem d_R_full_14 : decode c_R_full 14 = .ok (.if_icmp .gt 20, 3) := by decide +kernel
theorem d_R_full_17 : decode c_R_full 17 = .ok (.aload_n 0, 1) := by decide +kernel
theorem d_R_full_18 : decode c_R_full 18 = .ok (.getfield 134, 3) := by decide +kernel
theorem d_R_full_21 : decode c_R_full 21 = .ok (.ifCond .eq 17, 3) := by decide +kernel
theorem d_R_full_24 : decode c_R_full 24 = .ok (.aload_n 0, 1) := by decide +kernel
theorem d_R_full_25 : decode c_R_full 25 = .ok (.iconst 0, 1) := by decide +kernel
theorem d_R_full_26 : decode c_R_full 26 = .ok (.invokevirtual 156, 3) := by decide +kernel
theorem d_R_full_29 : decode c_R_full 29 = .ok (.bipush 8, 2) := by decide +kernel
theorem d_R_full_31 : decode c_R_full 31 = .ok (.if_icmp .ne 7, 3) := by decide +kernel
theorem d_R_full_34 : decode c_R_full 34 = .ok (.iconst 1, 1) := by decide +kernel
theorem d_R_full_35 : decode c_R_full 35 = .ok (.goto 4, 3) := by decide +kernel
theorem d_R_full_38 : decode c_R_full 38 = .ok (.iconst 0, 1) := by decide +kernel
theorem d_R_full_39 : decode c_R_full 39 = .ok (.ireturn, 1) := by decide +kernel
theorem d_R_remember_0 : decode c_R_remember 0 = .ok (.aload_n 0, 1) := by decide +kernel
theorem d_R_remember_1 : decode c_R_remember 1 = .ok (.dup, 1) := by decide +kernel
theorem d_R_remember_2 : decode c_R_remember 2 = .ok (.getfield 114, 3) := by decide +kernel
theorem d_R_remember_5 : decode c_R_remember 5 = .ok (.iconst 1, 1) := by decide +kernel
theorem d_R_remember_6 : decode c_R_remember 6 = .ok (.iadd, 1) := by decide +kernel
theorem d_R_remember_7 : decode c_R_remember 7 = .ok (.putfield 114, 3) := by decide +kernel
theorem d_R_remember_10 : decode c_R_remember 10 = .ok (.aload_n 0, 1) := by decide +kernel
theorem d_R_remember_11 : decode c_R_remember 11 = .ok (.getfield 36, 3) := by decide +kernel
theorem d_R_remember_14 : decode c_R_remember 14 = .ok (.aload_n 0, 1) := by decide +kernel
theorem d_R_remember_15 : decode c_R_remember 15 = .ok (.getfield 166, 3) := by decide +kernel
theorem d_R_remember_18 : decode c_R_remember 18 = .ok (.iload_n 1, 1) := by decide +kernel
theorem d_R_remember_19 : decode c_R_remember 19 = .ok (.iastore, 1) := by decide +kernel
theorem d_R_remember_20 : decode c_R_remember 20 = .ok (.aload_n 0, 1) := by decide +kernel
theorem d_R_remember_21 : decode c_R_remember 21 = .ok (.getfield 39, 3) := by decide +kernel
theorem d_R_remember_24 : decode c_R_remember 24 = .ok (.aload_n 0, 1) := by decide +kernel
theorem d_R_remember_25 : decode c_R_remember 25 = .ok (.getfield 166, 3) := by decide +kernel
theorem d_R_remember_28 : decode c_R_remember 28 = .ok (.aload_n 0, 1) := by decide +kernel
theorem d_R_remember_29 : decode c_R_remember 29 = .ok (.getfield 114, 3) := by decide +kernel
theorem d_R_remember_32 : decode c_R_remember 32 = .ok (.iastore, 1) := by decide +kernel
theorem d_R_remember_33 : decode c_R_remember 33 = .ok (.aload_n 0, 1) := by decide +kernel
theorem d_R_remember_34 : decode c_R_remember 34 = .ok (.getfield 42, 3) := by decide +kernel
theorem d_R_remember_37 : decode c_R_remember 37 = .ok (.aload_n 0, 1) := by decide +kernel
theorem d_R_remember_38 : decode c_R_remember 38 = .ok (.getfield 166, 3) := by decide +kernel
theorem d_R_remember_41 : decode c_R_remember 41 = .ok (.iload_n 2, 1) := by decide +kernel
theorem d_R_remember_42 : decode c_R_remember 42 = .ok (.iastore, 1) := by decide +kernel
theorem d_R_remember_43 : decode c_R_remember 43 = .ok (.aload_n 0, 1) := by decide +kernel
theorem d_R_remember_44 : decode c_R_remember 44 = .ok (.getfield 45, 3) := by decide +kernel
theorem d_R_remember_47 : decode c_R_remember 47 = .ok (.aload_n 0, 1) := by decide +kernel
theorem d_R_remember_48 : decode c_R_remember 48 = .ok (.getfield 166, 3) := by decide +kernel
theorem d_R_remember_51 : decode c_R_remember 51 = .ok (.iload_n 3, 1) := by decide +kernel
theorem d_R_remember_52 : decode c_R_remember 52 = .ok (.bastore, 1) := by decide +kernel
theorem d_R_remember_53 : decode c_R_remember 53 = .ok (.aload_n 0, 1) := by decide +kernel
theorem d_R_remember_54 : decode c_R_remember 54 = .ok (.dup, 1) := by decide +kernel
theorem d_R_remember_55 : decode c_R_remember 55 = .ok (.getfield 166, 3) := by decide +kernel
theorem d_R_remember_58 : decode c_R_remember 58 = .ok (.iconst 1, 1) := by decide +kernel
theorem d_R_remember_59 : decode c_R_remember 59 = .ok (.iadd, 1) := by decide +kernel
theorem d_R_remember_60 : decode c_R_remember 60 = .ok (.putfield 166, 3) := by decide +kernel
theorem d_R_remember_63 : decode c_R_remember 63 = .ok (.return_, 1) := by decide +kernel
theorem d_R_copyWork_0 : decode c_R_copyWork 0 = .ok (.aload_n 0, 1) := by decide +kernel
theorem d_R_copyWork_1 : decode c_R_copyWork 1 = .ok (.getfield 70, 3) := by decide +kernel
theorem d_R_copyWork_4 : decode c_R_copyWork 4 = .ok (.iload_n 1, 1) := by decide +kernel
theorem d_R_copyWork_5 : decode c_R_copyWork 5 = .ok (.aload_n 0, 1) := by decide +kernel
theorem d_R_copyWork_6 : decode c_R_copyWork 6 = .ok (.getfield 70, 3) := by decide +kernel
theorem d_R_copyWork_9 : decode c_R_copyWork 9 = .ok (.iload_n 2, 1) := by decide +kernel
theorem d_R_copyWork_10 : decode c_R_copyWork 10 = .ok (.iaload, 1) := by decide +kernel
theorem d_R_copyWork_11 : decode c_R_copyWork 11 = .ok (.iastore, 1) := by decide +kernel
theorem d_R_copyWork_12 : decode c_R_copyWork 12 = .ok (.aload_n 0, 1) := by decide +kernel
theorem d_R_copyWork_13 : decode c_R_copyWork 13 = .ok (.getfield 73, 3) := by decide +kernel
theorem d_R_copyWork_16 : decode c_R_copyWork 16 = .ok (.iload_n 1, 1) := by decide +kernel
theorem d_R_copyWork_17 : decode c_R_copyWork 17 = .ok (.aload_n 0, 1) := by decide +kernel
theorem d_R_copyWork_18 : decode c_R_copyWork 18 = .ok (.getfield 73, 3) := by decide +kernel
theorem d_R_copyWork_21 : decode c_R_copyWork 21 = .ok (.iload_n 2, 1) := by decide +kernel
theorem d_R_copyWork_22 : decode c_R_copyWork 22 = .ok (.iaload, 1) := by decide +kernel
theorem d_R_copyWork_23 : decode c_R_copyWork 23 = .ok (.iastore, 1) := by decide +kernel
theorem d_R_copyWork_24 : decode c_R_copyWork 24 = .ok (.aload_n 0, 1) := by decide +kernel
theorem d_R_copyWork_25 : decode c_R_copyWork 25 = .ok (.getfield 76, 3) := by decide +kernel
theorem d_R_copyWork_28 : decode c_R_copyWork 28 = .ok (.iload_n 1, 1) := by decide +kernel
theorem d_R_copyWork_29 : decode c_R_copyWork 29 = .ok (.aload_n 0, 1) := by decide +kernel
theorem d_R_copyWork_30 : decode c_R_copyWork 30 = .ok (.getfield 76, 3) := by decide +kernel
theorem d_R_copyWork_33 : decode c_R_copyWork 33 = .ok (.iload_n 2, 1) := by decide +kernel
theorem d_R_copyWork_34 : decode c_R_copyWork 34 = .ok (.iaload, 1) := by decide +kernel
theorem d_R_copyWork_35 : decode c_R_copyWork 35 = .ok (.iastore, 1) := by decide +kernel
theorem d_R_copyWork_36 : decode c_R_copyWork 36 = .ok (.aload_n 0, 1) := by decide +kernel
theorem d_R_copyWork_37 : decode c_R_copyWork 37 = .ok (.getfield 79, 3) := by decide +kernel
theorem d_R_copyWork_40 : decode c_R_copyWork 40 = .ok (.iload_n 1, 1) := by decide +kernel
theorem d_R_copyWork_41 : decode c_R_copyWork 41 = .ok (.aload_n 0, 1) := by decide +kernel
theorem d_R_copyWork_42 : decode c_R_copyWork 42 = .ok (.getfield 79, 3) := by decide +kernel
theorem d_R_copyWork_45 : decode c_R_copyWork 45 = .ok (.iload_n 2, 1) := by decide +kernel
theorem d_R_copyWork_46 : decode c_R_copyWork 46 = .ok (.baload, 1) := by decide +kernel
theorem d_R_copyWork_47 : decode c_R_copyWork 47 = .ok (.bastore, 1) := by decide +kernel
theorem d_R_copyWork_48 : decode c_R_copyWork 48 = .ok (.return_, 1) := by decide +kernel
theorem d_R_enter_0 : decode c_R_enter 0 = .ok (.aload_n 0, 1) := by decide +kernel
theorem d_R_enter_1 : decode c_R_enter 1 = .ok (.getfield 108, 3) := by decide +kernel
theorem d_R_enter_4 : decode c_R_enter 4 = .ok (.istore 5, 2) := by decide +kernel
theorem d_R_enter_6 : decode c_R_enter 6 = .ok (.iload 5, 2) := by decide +kernel
theorem d_R_enter_8 : decode c_R_enter 8 = .ok (.ifCond .le 58, 3) := by decide +kernel
theorem d_R_enter_11 : decode c_R_enter 11 = .ok (.aload_n 0, 1) := by decide +kernel
theorem d_R_enter_12 : decode c_R_enter 12 = .ok (.getfield 70, 3) := by decide +kernel
theorem d_R_enter_15 : decode c_R_enter 15 = .ok (.iload 5, 2) := by decide +kernel
theorem d_R_enter_17 : decode c_R_enter 17 = .ok (.iconst 1, 1) := by decide +kernel
theorem d_R_enter_18 : decode c_R_enter 18 = .ok (.isub, 1) := by decide +kernel
theorem d_R_enter_19 : decode c_R_enter 19 = .ok (.iaload, 1) := by decide +kernel
theorem d_R_enter_20 : decode c_R_enter 20 = .ok (.iload_n 1, 1) := by decide +kernel
theorem d_R_enter_21 : decode c_R_enter 21 = .ok (.if_icmp .gt 29, 3) := by decide +kernel
theorem d_R_enter_24 : decode c_R_enter 24 = .ok (.aload_n 0, 1) := by decide +kernel
theorem d_R_enter_25 : decode c_R_enter 25 = .ok (.getfield 70, 3) := by decide +kernel
theorem d_R_enter_28 : decode c_R_enter 28 = .ok (.iload 5, 2) := by decide +kernel
theorem d_R_enter_30 : decode c_R_enter 30 = .ok (.iconst 1, 1) := by decide +kernel
theorem d_R_enter_31 : decode c_R_enter 31 = .ok (.isub, 1) := by decide +kernel
theorem d_R_enter_32 : decode c_R_enter 32 = .ok (.iaload, 1) := by decide +kernel
theorem d_R_enter_33 : decode c_R_enter 33 = .ok (.iload_n 1, 1) := by decide +kernel
theorem d_R_enter_34 : decode c_R_enter 34 = .ok (.if_icmp .ne 32, 3) := by decide +kernel
theorem d_R_enter_37 : decode c_R_enter 37 = .ok (.aload_n 0, 1) := by decide +kernel
theorem d_R_enter_38 : decode c_R_enter 38 = .ok (.getfield 73, 3) := by decide +kernel
theorem d_R_enter_41 : decode c_R_enter 41 = .ok (.iload 5, 2) := by decide +kernel
theorem d_R_enter_43 : decode c_R_enter 43 = .ok (.iconst 1, 1) := by decide +kernel
theorem d_R_enter_44 : decode c_R_enter 44 = .ok (.isub, 1) := by decide +kernel
theorem d_R_enter_45 : decode c_R_enter 45 = .ok (.iaload, 1) := by decide +kernel
theorem d_R_enter_46 : decode c_R_enter 46 = .ok (.iload_n 2, 1) := by decide +kernel
theorem d_R_enter_47 : decode c_R_enter 47 = .ok (.if_icmp .ge 19, 3) := by decide +kernel
theorem d_R_enter_50 : decode c_R_enter 50 = .ok (.aload_n 0, 1) := by decide +kernel
theorem d_R_enter_51 : decode c_R_enter 51 = .ok (.iload 5, 2) := by decide +kernel
theorem d_R_enter_53 : decode c_R_enter 53 = .ok (.iload 5, 2) := by decide +kernel
theorem d_R_enter_55 : decode c_R_enter 55 = .ok (.iconst 1, 1) := by decide +kernel
theorem d_R_enter_56 : decode c_R_enter 56 = .ok (.isub, 1) := by decide +kernel
theorem d_R_enter_57 : decode c_R_enter 57 = .ok (.invokevirtual 111, 3) := by decide +kernel
theorem d_R_enter_60 : decode c_R_enter 60 = .ok (.iinc 5 (-1), 3) := by decide +kernel
theorem d_R_enter_63 : decode c_R_enter 63 = .ok (.goto (-57), 3) := by decide +kernel
theorem d_R_enter_66 : decode c_R_enter 66 = .ok (.aload_n 0, 1) := by decide +kernel
theorem d_R_enter_67 : decode c_R_enter 67 = .ok (.getfield 70, 3) := by decide +kernel
theorem d_R_enter_70 : decode c_R_enter 70 = .ok (.iload 5, 2) := by decide +kernel
theorem d_R_enter_72 : decode c_R_enter 72 = .ok (.iload_n 1, 1) := by decide +kernel
theorem d_R_enter_73 : decode c_R_enter 73 = .ok (.iastore, 1) := by decide +kernel
theorem d_R_enter_74 : decode c_R_enter 74 = .ok (.aload_n 0, 1) := by decide +kernel
theorem d_R_enter_75 : decode c_R_enter 75 = .ok (.getfield 73, 3) := by decide +kernel
theorem d_R_enter_78 : decode c_R_enter 78 = .ok (.iload 5, 2) := by decide +kernel
theorem d_R_enter_80 : decode c_R_enter 80 = .ok (.iload_n 2, 1) := by decide +kernel
theorem d_R_enter_81 : decode c_R_enter 81 = .ok (.iastore, 1) := by decide +kernel
theorem d_R_enter_82 : decode c_R_enter 82 = .ok (.aload_n 0, 1) := by decide +kernel
theorem d_R_enter_83 : decode c_R_enter 83 = .ok (.getfield 76, 3) := by decide +kernel
theorem d_R_enter_86 : decode c_R_enter 86 = .ok (.iload 5, 2) := by decide +kernel
theorem d_R_enter_88 : decode c_R_enter 88 = .ok (.iload_n 3, 1) := by decide +kernel
theorem d_R_enter_89 : decode c_R_enter 89 = .ok (.iastore, 1) := by decide +kernel
theorem d_R_enter_90 : decode c_R_enter 90 = .ok (.aload_n 0, 1) := by decide +kernel
theorem d_R_enter_91 : decode c_R_enter 91 = .ok (.getfield 79, 3) := by decide +kernel
theorem d_R_enter_94 : decode c_R_enter 94 = .ok (.iload 5, 2) := by decide +kernel
theorem d_R_enter_96 : decode c_R_enter 96 = .ok (.iload 4, 2) := by decide +kernel
theorem d_R_enter_98 : decode c_R_enter 98 = .ok (.bastore, 1) := by decide +kernel
theorem d_R_enter_99 : decode c_R_enter 99 = .ok (.aload_n 0, 1) := by decide +kernel
theorem d_R_enter_100 : decode c_R_enter 100 = .ok (.dup, 1) := by decide +kernel
theorem d_R_enter_101 : decode c_R_enter 101 = .ok (.getfield 108, 3) := by decide +kernel
theorem d_R_enter_104 : decode c_R_enter 104 = .ok (.iconst 1, 1) := by decide +kernel
theorem d_R_enter_105 : decode c_R_enter 105 = .ok (.iadd, 1) := by decide +kernel
theorem d_R_enter_106 : decode c_R_enter 106 = .ok (.putfield 108, 3) := by decide +kernel
theorem d_R_enter_109 : decode c_R_enter 109 = .ok (.return_, 1) := by decide +kernel
theorem d_R_start_0 : decode c_R_start 0 = .ok (.iconst 0, 1) := by decide +kernel
theorem d_R_start_1 : decode c_R_start 1 = .ok (.istore_n 2, 1) := by decide +kernel
theorem d_R_start_2 : decode c_R_start 2 = .ok (.iconst 0, 1) := by decide +kernel
theorem d_R_start_3 : decode c_R_start 3 = .ok (.istore_n 3, 1) := by decide +kernel
theorem d_R_start_4 : decode c_R_start 4 = .ok (.iload_n 3, 1) := by decide +kernel
theorem d_R_start_5 : decode c_R_start 5 = .ok (.iload_n 1, 1) := by decide +kernel
theorem d_R_start_6 : decode c_R_start 6 = .ok (.if_icmp .ge 18, 3) := by decide +kernel
theorem d_R_start_9 : decode c_R_start 9 = .ok (.iload_n 2, 1) := by decide +kernel
theorem d_R_start_10 : decode c_R_start 10 = .ok (.aload_n 0, 1) := by decide +kernel
theorem d_R_start_11 : decode c_R_start 11 = .ok (.getfield 29, 3) := by decide +kernel
theorem d_R_start_14 : decode c_R_start 14 = .ok (.iload_n 3, 1) := by decide +kernel
theorem d_R_start_15 : decode c_R_start 15 = .ok (.iaload, 1) := by decide +kernel
theorem d_R_start_16 : decode c_R_start 16 = .ok (.iadd, 1) := by decide +kernel
theorem d_R_start_17 : decode c_R_start 17 = .ok (.istore_n 2, 1) := by decide +kernel
theorem d_R_start_18 : decode c_R_start 18 = .ok (.iinc 3 1, 3) := by decide +kernel
theorem d_R_start_21 : decode c_R_start 21 = .ok (.goto (-17), 3) := by decide +kernel
theorem d_R_start_24 : decode c_R_start 24 = .ok (.iload_n 2, 1) := by decide +kernel
theorem d_R_start_25 : decode c_R_start 25 = .ok (.ireturn, 1) := by decide +kernel
theorem d_R_moveEntry_0 : decode c_R_moveEntry 0 = .ok (.aload_n 0, 1) := by decide +kernel
theorem d_R_moveEntry_1 : decode c_R_moveEntry 1 = .ok (.getfield 7, 3) := by decide +kernel
theorem d_R_moveEntry_4 : decode c_R_moveEntry 4 = .ok (.iload_n 1, 1) := by decide +kernel
theorem d_R_moveEntry_5 : decode c_R_moveEntry 5 = .ok (.aload_n 0, 1) := by decide +kernel
theorem d_R_moveEntry_6 : decode c_R_moveEntry 6 = .ok (.getfield 7, 3) := by decide +kernel
theorem d_R_moveEntry_9 : decode c_R_moveEntry 9 = .ok (.iload_n 2, 1) := by decide +kernel
theorem d_R_moveEntry_10 : decode c_R_moveEntry 10 = .ok (.iaload, 1) := by decide +kernel
theorem d_R_moveEntry_11 : decode c_R_moveEntry 11 = .ok (.iastore, 1) := by decide +kernel
theorem d_R_moveEntry_12 : decode c_R_moveEntry 12 = .ok (.aload_n 0, 1) := by decide +kernel
theorem d_R_moveEntry_13 : decode c_R_moveEntry 13 = .ok (.getfield 13, 3) := by decide +kernel
theorem d_R_moveEntry_16 : decode c_R_moveEntry 16 = .ok (.iload_n 1, 1) := by decide +kernel
theorem d_R_moveEntry_17 : decode c_R_moveEntry 17 = .ok (.aload_n 0, 1) := by decide +kernel
theorem d_R_moveEntry_18 : decode c_R_moveEntry 18 = .ok (.getfield 13, 3) := by decide +kernel
theorem d_R_moveEntry_21 : decode c_R_moveEntry 21 = .ok (.iload_n 2, 1) := by decide +kernel
theorem d_R_moveEntry_22 : decode c_R_moveEntry 22 = .ok (.iaload, 1) := by decide +kernel
theorem d_R_moveEntry_23 : decode c_R_moveEntry 23 = .ok (.iastore, 1) := by decide +kernel
theorem d_R_moveEntry_24 : decode c_R_moveEntry 24 = .ok (.aload_n 0, 1) := by decide +kernel
theorem d_R_moveEntry_25 : decode c_R_moveEntry 25 = .ok (.getfield 16, 3) := by decide +kernel
theorem d_R_moveEntry_28 : decode c_R_moveEntry 28 = .ok (.iload_n 1, 1) := by decide +kernel
theorem d_R_moveEntry_29 : decode c_R_moveEntry 29 = .ok (.aload_n 0, 1) := by decide +kernel
theorem d_R_moveEntry_30 : decode c_R_moveEntry 30 = .ok (.getfield 16, 3) := by decide +kernel
theorem d_R_moveEntry_33 : decode c_R_moveEntry 33 = .ok (.iload_n 2, 1) := by decide +kernel
theorem d_R_moveEntry_34 : decode c_R_moveEntry 34 = .ok (.iaload, 1) := by decide +kernel
theorem d_R_moveEntry_35 : decode c_R_moveEntry 35 = .ok (.iastore, 1) := by decide +kernel
theorem d_R_moveEntry_36 : decode c_R_moveEntry 36 = .ok (.aload_n 0, 1) := by decide +kernel
theorem d_R_moveEntry_37 : decode c_R_moveEntry 37 = .ok (.getfield 19, 3) := by decide +kernel
theorem d_R_moveEntry_40 : decode c_R_moveEntry 40 = .ok (.iload_n 1, 1) := by decide +kernel
theorem d_R_moveEntry_41 : decode c_R_moveEntry 41 = .ok (.aload_n 0, 1) := by decide +kernel
theorem d_R_moveEntry_42 : decode c_R_moveEntry 42 = .ok (.getfield 19, 3) := by decide +kernel
theorem d_R_moveEntry_45 : decode c_R_moveEntry 45 = .ok (.iload_n 2, 1) := by decide +kernel
theorem d_R_moveEntry_46 : decode c_R_moveEntry 46 = .ok (.baload, 1) := by decide +kernel
theorem d_R_moveEntry_47 : decode c_R_moveEntry 47 = .ok (.bastore, 1) := by decide +kernel
theorem d_R_moveEntry_48 : decode c_R_moveEntry 48 = .ok (.return_, 1) := by decide +kernel
theorem d_R_moveTable_0 : decode c_R_moveTable 0 = .ok (.aload_n 0, 1) := by decide +kernel
theorem d_R_moveTable_1 : decode c_R_moveTable 1 = .ok (.getfield 23, 3) := by decide +kernel
theorem d_R_moveTable_4 : decode c_R_moveTable 4 = .ok (.iload_n 1, 1) := by decide +kernel
theorem d_R_moveTable_5 : decode c_R_moveTable 5 = .ok (.aload_n 0, 1) := by decide +kernel
theorem d_R_moveTable_6 : decode c_R_moveTable 6 = .ok (.getfield 23, 3) := by decide +kernel
theorem d_R_moveTable_9 : decode c_R_moveTable 9 = .ok (.iload_n 2, 1) := by decide +kernel
theorem d_R_moveTable_10 : decode c_R_moveTable 10 = .ok (.iaload, 1) := by decide +kernel
theorem d_R_moveTable_11 : decode c_R_moveTable 11 = .ok (.iastore, 1) := by decide +kernel
theorem d_R_moveTable_12 : decode c_R_moveTable 12 = .ok (.aload_n 0, 1) := by decide +kernel
theorem d_R_moveTable_13 : decode c_R_moveTable 13 = .ok (.getfield 26, 3) := by decide +kernel
theorem d_R_moveTable_16 : decode c_R_moveTable 16 = .ok (.iload_n 1, 1) := by decide +kernel
theorem d_R_moveTable_17 : decode c_R_moveTable 17 = .ok (.aload_n 0, 1) := by decide +kernel
theorem d_R_moveTable_18 : decode c_R_moveTable 18 = .ok (.getfield 26, 3) := by decide +kernel
theorem d_R_moveTable_21 : decode c_R_moveTable 21 = .ok (.iload_n 2, 1) := by decide +kernel
theorem d_R_moveTable_22 : decode c_R_moveTable 22 = .ok (.iaload, 1) := by decide +kernel
theorem d_R_moveTable_23 : decode c_R_moveTable 23 = .ok (.iastore, 1) := by decide +kernel
theorem d_R_moveTable_24 : decode c_R_moveTable 24 = .ok (.aload_n 0, 1) := by decide +kernel
theorem d_R_moveTable_25 : decode c_R_moveTable 25 = .ok (.getfield 29, 3) := by decide +kernel
theorem d_R_moveTable_28 : decode c_R_moveTable 28 = .ok (.iload_n 1, 1) := by decide +kernel
theorem d_R_moveTable_29 : decode c_R_moveTable 29 = .ok (.aload_n 0, 1) := by decide +kernel
theorem d_R_moveTable_30 : decode c_R_moveTable 30 = .ok (.getfield 29, 3) := by decide +kernel
theorem d_R_moveTable_33 : decode c_R_moveTable 33 = .ok (.iload_n 2, 1) := by decide +kernel
theorem d_R_moveTable_34 : decode c_R_moveTable 34 = .ok (.iaload, 1) := by decide +kernel
theorem d_R_moveTable_35 : decode c_R_moveTable 35 = .ok (.iastore, 1) := by decide +kernel
theorem d_R_moveTable_36 : decode c_R_moveTable 36 = .ok (.aload_n 0, 1) := by decide +kernel
theorem d_R_moveTable_37 : decode c_R_moveTable 37 = .ok (.getfield 32, 3) := by decide +kernel
theorem d_R_moveTable_40 : decode c_R_moveTable 40 = .ok (.iload_n 1, 1) := by decide +kernel
theorem d_R_moveTable_41 : decode c_R_moveTable 41 = .ok (.aload_n 0, 1) := by decide +kernel
theorem d_R_moveTable_42 : decode c_R_moveTable 42 = .ok (.getfield 32, 3) := by decide +kernel
theorem d_R_moveTable_45 : decode c_R_moveTable 45 = .ok (.iload_n 2, 1) := by decide +kernel
theorem d_R_moveTable_46 : decode c_R_moveTable 46 = .ok (.laload, 1) := by decide +kernel
theorem d_R_moveTable_47 : decode c_R_moveTable 47 = .ok (.lastore, 1) := by decide +kernel
theorem d_R_moveTable_48 : decode c_R_moveTable 48 = .ok (.return_, 1) := by decide +kernel
theorem d_R_insert_0 : decode c_R_insert 0 = .ok (.aload_n 0, 1) := by decide +kernel
theorem d_R_insert_1 : decode c_R_insert 1 = .ok (.iload_n 1, 1) := by decide +kernel
theorem d_R_insert_2 : decode c_R_insert 2 = .ok (.invokevirtual 88, 3) := by decide +kernel
theorem d_R_insert_5 : decode c_R_insert 5 = .ok (.istore 5, 2) := by decide +kernel
theorem d_R_insert_7 : decode c_R_insert 7 = .ok (.aload_n 0, 1) := by decide +kernel
theorem d_R_insert_8 : decode c_R_insert 8 = .ok (.getfield 95, 3) := by decide +kernel
theorem d_R_insert_11 : decode c_R_insert 11 = .ok (.iconst 1, 1) := by decide +kernel
theorem d_R_insert_12 : decode c_R_insert 12 = .ok (.isub, 1) := by decide +kernel
theorem d_R_insert_13 : decode c_R_insert 13 = .ok (.istore 6, 2) := by decide +kernel
theorem d_R_insert_15 : decode c_R_insert 15 = .ok (.iload 6, 2) := by decide +kernel
theorem d_R_insert_17 : decode c_R_insert 17 = .ok (.iload 5, 2) := by decide +kernel
theorem d_R_insert_19 : decode c_R_insert 19 = .ok (.if_icmp .lt 20, 3) := by decide +kernel
theorem d_R_insert_22 : decode c_R_insert 22 = .ok (.aload_n 0, 1) := by decide +kernel
theorem d_R_insert_23 : decode c_R_insert 23 = .ok (.iload 6, 2) := by decide +kernel
theorem d_R_insert_25 : decode c_R_insert 25 = .ok (.iload 4, 2) := by decide +kernel
theorem d_R_insert_27 : decode c_R_insert 27 = .ok (.iadd, 1) := by decide +kernel
theorem d_R_insert_28 : decode c_R_insert 28 = .ok (.iload 6, 2) := by decide +kernel
theorem d_R_insert_30 : decode c_R_insert 30 = .ok (.invokevirtual 98, 3) := by decide +kernel
theorem d_R_insert_33 : decode c_R_insert 33 = .ok (.iinc 6 (-1), 3) := by decide +kernel
theorem d_R_insert_36 : decode c_R_insert 36 = .ok (.goto (-21), 3) := by decide +kernel
theorem d_R_insert_39 : decode c_R_insert 39 = .ok (.iconst 0, 1) := by decide +kernel
theorem d_R_insert_40 : decode c_R_insert 40 = .ok (.istore 6, 2) := by decide +kernel
theorem d_R_insert_42 : decode c_R_insert 42 = .ok (.iload 6, 2) := by decide +kernel
theorem d_R_insert_44 : decode c_R_insert 44 = .ok (.iload 4, 2) := by decide +kernel
theorem d_R_insert_46 : decode c_R_insert 46 = .ok (.if_icmp .ge 85, 3) := by decide +kernel
theorem d_R_insert_49 : decode c_R_insert 49 = .ok (.aload_n 0, 1) := by decide +kernel
theorem d_R_insert_50 : decode c_R_insert 50 = .ok (.getfield 7, 3) := by decide +kernel
theorem d_R_insert_53 : decode c_R_insert 53 = .ok (.iload 5, 2) := by decide +kernel
theorem d_R_insert_55 : decode c_R_insert 55 = .ok (.iload 6, 2) := by decide +kernel
theorem d_R_insert_57 : decode c_R_insert 57 = .ok (.iadd, 1) := by decide +kernel
theorem d_R_insert_58 : decode c_R_insert 58 = .ok (.aload_n 0, 1) := by decide +kernel
theorem d_R_insert_59 : decode c_R_insert 59 = .ok (.getfield 70, 3) := by decide +kernel
theorem d_R_insert_62 : decode c_R_insert 62 = .ok (.iload_n 3, 1) := by decide +kernel
theorem d_R_insert_63 : decode c_R_insert 63 = .ok (.iload 6, 2) := by decide +kernel
theorem d_R_insert_65 : decode c_R_insert 65 = .ok (.iadd, 1) := by decide +kernel
theorem d_R_insert_66 : decode c_R_insert 66 = .ok (.iaload, 1) := by decide +kernel
theorem d_R_insert_67 : decode c_R_insert 67 = .ok (.iastore, 1) := by decide +kernel
theorem d_R_insert_68 : decode c_R_insert 68 = .ok (.aload_n 0, 1) := by decide +kernel
theorem d_R_insert_69 : decode c_R_insert 69 = .ok (.getfield 13, 3) := by decide +kernel
theorem d_R_insert_72 : decode c_R_insert 72 = .ok (.iload 5, 2) := by decide +kernel
theorem d_R_insert_74 : decode c_R_insert 74 = .ok (.iload 6, 2) := by decide +kernel
theorem d_R_insert_76 : decode c_R_insert 76 = .ok (.iadd, 1) := by decide +kernel
theorem d_R_insert_77 : decode c_R_insert 77 = .ok (.aload_n 0, 1) := by decide +kernel
theorem d_R_insert_78 : decode c_R_insert 78 = .ok (.getfield 73, 3) := by decide +kernel
theorem d_R_insert_81 : decode c_R_insert 81 = .ok (.iload_n 3, 1) := by decide +kernel
theorem d_R_insert_82 : decode c_R_insert 82 = .ok (.iload 6, 2) := by decide +kernel
theorem d_R_insert_84 : decode c_R_insert 84 = .ok (.iadd, 1) := by decide +kernel
theorem d_R_insert_85 : decode c_R_insert 85 = .ok (.iaload, 1) := by decide +kernel
theorem d_R_insert_86 : decode c_R_insert 86 = .ok (.iastore, 1) := by decide +kernel
theorem d_R_insert_87 : decode c_R_insert 87 = .ok (.aload_n 0, 1) := by decide +kernel
theorem d_R_insert_88 : decode c_R_insert 88 = .ok (.getfield 16, 3) := by decide +kernel
theorem d_R_insert_91 : decode c_R_insert 91 = .ok (.iload 5, 2) := by decide +kernel
theorem d_R_insert_93 : decode c_R_insert 93 = .ok (.iload 6, 2) := by decide +kernel
theorem d_R_insert_95 : decode c_R_insert 95 = .ok (.iadd, 1) := by decide +kernel
theorem d_R_insert_96 : decode c_R_insert 96 = .ok (.aload_n 0, 1) := by decide +kernel
