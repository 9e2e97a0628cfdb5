/-! DECODED INSTRUCTIONS -/
theorem d_R_insert_97 : decode c_R_insert 97 = .ok (.getfield 76, 3) := by decide +kernel
theorem d_R_insert_100 : decode c_R_insert 100 = .ok (.iload_n 3, 1) := by decide +kernel
theorem d_R_insert_101 : decode c_R_insert 101 = .ok (.iload 6, 2) := by decide +kernel
theorem d_R_insert_103 : decode c_R_insert 103 = .ok (.iadd, 1) := by decide +kernel
theorem d_R_insert_104 : decode c_R_insert 104 = .ok (.iaload, 1) := by decide +kernel
theorem d_R_insert_105 : decode c_R_insert 105 = .ok (.iastore, 1) := by decide +kernel
theorem d_R_insert_106 : decode c_R_insert 106 = .ok (.aload_n 0, 1) := by decide +kernel
theorem d_R_insert_107 : decode c_R_insert 107 = .ok (.getfield 19, 3) := by decide +kernel
theorem d_R_insert_110 : decode c_R_insert 110 = .ok (.iload 5, 2) := by decide +kernel
theorem d_R_insert_112 : decode c_R_insert 112 = .ok (.iload 6, 2) := by decide +kernel
theorem d_R_insert_114 : decode c_R_insert 114 = .ok (.iadd, 1) := by decide +kernel
theorem d_R_insert_115 : decode c_R_insert 115 = .ok (.aload_n 0, 1) := by decide +kernel
theorem d_R_insert_116 : decode c_R_insert 116 = .ok (.getfield 79, 3) := by decide +kernel
theorem d_R_insert_119 : decode c_R_insert 119 = .ok (.iload_n 3, 1) := by decide +kernel
theorem d_R_insert_120 : decode c_R_insert 120 = .ok (.iload 6, 2) := by decide +kernel
theorem d_R_insert_122 : decode c_R_insert 122 = .ok (.iadd, 1) := by decide +kernel
theorem d_R_insert_123 : decode c_R_insert 123 = .ok (.baload, 1) := by decide +kernel
theorem d_R_insert_124 : decode c_R_insert 124 = .ok (.bastore, 1) := by decide +kernel
theorem d_R_insert_125 : decode c_R_insert 125 = .ok (.iinc 6 1, 3) := by decide +kernel
theorem d_R_insert_128 : decode c_R_insert 128 = .ok (.goto (-86), 3) := by decide +kernel
theorem d_R_insert_131 : decode c_R_insert 131 = .ok (.aload_n 0, 1) := by decide +kernel
theorem d_R_insert_132 : decode c_R_insert 132 = .ok (.dup, 1) := by decide +kernel
theorem d_R_insert_133 : decode c_R_insert 133 = .ok (.getfield 95, 3) := by decide +kernel
theorem d_R_insert_136 : decode c_R_insert 136 = .ok (.iload 4, 2) := by decide +kernel
theorem d_R_insert_138 : decode c_R_insert 138 = .ok (.iadd, 1) := by decide +kernel
theorem d_R_insert_139 : decode c_R_insert 139 = .ok (.putfield 95, 3) := by decide +kernel
theorem d_R_insert_142 : decode c_R_insert 142 = .ok (.aload_n 0, 1) := by decide +kernel
theorem d_R_insert_143 : decode c_R_insert 143 = .ok (.getfield 92, 3) := by decide +kernel
theorem d_R_insert_146 : decode c_R_insert 146 = .ok (.iconst 1, 1) := by decide +kernel
theorem d_R_insert_147 : decode c_R_insert 147 = .ok (.isub, 1) := by decide +kernel
theorem d_R_insert_148 : decode c_R_insert 148 = .ok (.istore 6, 2) := by decide +kernel
theorem d_R_insert_150 : decode c_R_insert 150 = .ok (.iload 6, 2) := by decide +kernel
theorem d_R_insert_152 : decode c_R_insert 152 = .ok (.iload_n 1, 1) := by decide +kernel
theorem d_R_insert_153 : decode c_R_insert 153 = .ok (.if_icmp .lt 19, 3) := by decide +kernel
theorem d_R_insert_156 : decode c_R_insert 156 = .ok (.aload_n 0, 1) := by decide +kernel
theorem d_R_insert_157 : decode c_R_insert 157 = .ok (.iload 6, 2) := by decide +kernel
theorem d_R_insert_159 : decode c_R_insert 159 = .ok (.iconst 1, 1) := by decide +kernel
theorem d_R_insert_160 : decode c_R_insert 160 = .ok (.iadd, 1) := by decide +kernel
theorem d_R_insert_161 : decode c_R_insert 161 = .ok (.iload 6, 2) := by decide +kernel
theorem d_R_insert_163 : decode c_R_insert 163 = .ok (.invokevirtual 102, 3) := by decide +kernel
theorem d_R_insert_166 : decode c_R_insert 166 = .ok (.iinc 6 (-1), 3) := by decide +kernel
theorem d_R_insert_169 : decode c_R_insert 169 = .ok (.goto (-19), 3) := by decide +kernel
theorem d_R_insert_172 : decode c_R_insert 172 = .ok (.aload_n 0, 1) := by decide +kernel
theorem d_R_insert_173 : decode c_R_insert 173 = .ok (.getfield 23, 3) := by decide +kernel
theorem d_R_insert_176 : decode c_R_insert 176 = .ok (.iload_n 1, 1) := by decide +kernel
theorem d_R_insert_177 : decode c_R_insert 177 = .ok (.aload_n 0, 1) := by decide +kernel
theorem d_R_insert_178 : decode c_R_insert 178 = .ok (.getfield 105, 3) := by decide +kernel
theorem d_R_insert_181 : decode c_R_insert 181 = .ok (.iastore, 1) := by decide +kernel
theorem d_R_insert_182 : decode c_R_insert 182 = .ok (.aload_n 0, 1) := by decide +kernel
theorem d_R_insert_183 : decode c_R_insert 183 = .ok (.getfield 26, 3) := by decide +kernel
theorem d_R_insert_186 : decode c_R_insert 186 = .ok (.iload_n 1, 1) := by decide +kernel
theorem d_R_insert_187 : decode c_R_insert 187 = .ok (.iload_n 2, 1) := by decide +kernel
theorem d_R_insert_188 : decode c_R_insert 188 = .ok (.iastore, 1) := by decide +kernel
theorem d_R_insert_189 : decode c_R_insert 189 = .ok (.aload_n 0, 1) := by decide +kernel
theorem d_R_insert_190 : decode c_R_insert 190 = .ok (.getfield 29, 3) := by decide +kernel
theorem d_R_insert_193 : decode c_R_insert 193 = .ok (.iload_n 1, 1) := by decide +kernel
theorem d_R_insert_194 : decode c_R_insert 194 = .ok (.iload 4, 2) := by decide +kernel
theorem d_R_insert_196 : decode c_R_insert 196 = .ok (.iastore, 1) := by decide +kernel
theorem d_R_insert_197 : decode c_R_insert 197 = .ok (.aload_n 0, 1) := by decide +kernel
theorem d_R_insert_198 : decode c_R_insert 198 = .ok (.getfield 32, 3) := by decide +kernel
theorem d_R_insert_201 : decode c_R_insert 201 = .ok (.iload_n 1, 1) := by decide +kernel
theorem d_R_insert_202 : decode c_R_insert 202 = .ok (.lconst 0, 1) := by decide +kernel
theorem d_R_insert_203 : decode c_R_insert 203 = .ok (.lastore, 1) := by decide +kernel
theorem d_R_insert_204 : decode c_R_insert 204 = .ok (.aload_n 0, 1) := by decide +kernel
theorem d_R_insert_205 : decode c_R_insert 205 = .ok (.dup, 1) := by decide +kernel
theorem d_R_insert_206 : decode c_R_insert 206 = .ok (.getfield 105, 3) := by decide +kernel
theorem d_R_insert_209 : decode c_R_insert 209 = .ok (.iconst 1, 1) := by decide +kernel
theorem d_R_insert_210 : decode c_R_insert 210 = .ok (.iadd, 1) := by decide +kernel
theorem d_R_insert_211 : decode c_R_insert 211 = .ok (.putfield 105, 3) := by decide +kernel
theorem d_R_insert_214 : decode c_R_insert 214 = .ok (.aload_n 0, 1) := by decide +kernel
theorem d_R_insert_215 : decode c_R_insert 215 = .ok (.dup, 1) := by decide +kernel
theorem d_R_insert_216 : decode c_R_insert 216 = .ok (.getfield 92, 3) := by decide +kernel
theorem d_R_insert_219 : decode c_R_insert 219 = .ok (.iconst 1, 1) := by decide +kernel
theorem d_R_insert_220 : decode c_R_insert 220 = .ok (.iadd, 1) := by decide +kernel
theorem d_R_insert_221 : decode c_R_insert 221 = .ok (.putfield 92, 3) := by decide +kernel
theorem d_R_insert_224 : decode c_R_insert 224 = .ok (.return_, 1) := by decide +kernel
theorem d_R_low_0 : decode c_R_low 0 = .ok (.aload_n 0, 1) := by decide +kernel
theorem d_R_low_1 : decode c_R_low 1 = .ok (.getfield 7, 3) := by decide +kernel
theorem d_R_low_4 : decode c_R_low 4 = .ok (.aload_n 0, 1) := by decide +kernel
theorem d_R_low_5 : decode c_R_low 5 = .ok (.iload_n 1, 1) := by decide +kernel
theorem d_R_low_6 : decode c_R_low 6 = .ok (.invokevirtual 88, 3) := by decide +kernel
theorem d_R_low_9 : decode c_R_low 9 = .ok (.iaload, 1) := by decide +kernel
theorem d_R_low_10 : decode c_R_low 10 = .ok (.ireturn, 1) := by decide +kernel
theorem d_R_high_0 : decode c_R_high 0 = .ok (.aload_n 0, 1) := by decide +kernel
theorem d_R_high_1 : decode c_R_high 1 = .ok (.getfield 7, 3) := by decide +kernel
theorem d_R_high_4 : decode c_R_high 4 = .ok (.aload_n 0, 1) := by decide +kernel
theorem d_R_high_5 : decode c_R_high 5 = .ok (.iload_n 1, 1) := by decide +kernel
theorem d_R_high_6 : decode c_R_high 6 = .ok (.invokevirtual 88, 3) := by decide +kernel
theorem d_R_high_9 : decode c_R_high 9 = .ok (.aload_n 0, 1) := by decide +kernel
theorem d_R_high_10 : decode c_R_high 10 = .ok (.getfield 29, 3) := by decide +kernel
theorem d_R_high_13 : decode c_R_high 13 = .ok (.iload_n 1, 1) := by decide +kernel
theorem d_R_high_14 : decode c_R_high 14 = .ok (.iaload, 1) := by decide +kernel
theorem d_R_high_15 : decode c_R_high 15 = .ok (.iadd, 1) := by decide +kernel
theorem d_R_high_16 : decode c_R_high 16 = .ok (.iconst 1, 1) := by decide +kernel
theorem d_R_high_17 : decode c_R_high 17 = .ok (.isub, 1) := by decide +kernel
theorem d_R_high_18 : decode c_R_high 18 = .ok (.iaload, 1) := by decide +kernel
theorem d_R_high_19 : decode c_R_high 19 = .ok (.ireturn, 1) := by decide +kernel
theorem d_R_oldest_0 : decode c_R_oldest 0 = .ok (.aload_n 0, 1) := by decide +kernel
theorem d_R_oldest_1 : decode c_R_oldest 1 = .ok (.getfield 114, 3) := by decide +kernel
theorem d_R_oldest_4 : decode c_R_oldest 4 = .ok (.istore_n 1, 1) := by decide +kernel
theorem d_R_oldest_5 : decode c_R_oldest 5 = .ok (.iconst 0, 1) := by decide +kernel
theorem d_R_oldest_6 : decode c_R_oldest 6 = .ok (.istore_n 2, 1) := by decide +kernel
theorem d_R_oldest_7 : decode c_R_oldest 7 = .ok (.iload_n 2, 1) := by decide +kernel
theorem d_R_oldest_8 : decode c_R_oldest 8 = .ok (.iconst 4, 1) := by decide +kernel
theorem d_R_oldest_9 : decode c_R_oldest 9 = .ok (.if_icmp .ge 35, 3) := by decide +kernel
theorem d_R_oldest_12 : decode c_R_oldest 12 = .ok (.aload_n 0, 1) := by decide +kernel
theorem d_R_oldest_13 : decode c_R_oldest 13 = .ok (.getfield 64, 3) := by decide +kernel
theorem d_R_oldest_16 : decode c_R_oldest 16 = .ok (.iload_n 2, 1) := by decide +kernel
theorem d_R_oldest_17 : decode c_R_oldest 17 = .ok (.iaload, 1) := by decide +kernel
theorem d_R_oldest_18 : decode c_R_oldest 18 = .ok (.ifCond .lt 20, 3) := by decide +kernel
theorem d_R_oldest_21 : decode c_R_oldest 21 = .ok (.aload_n 0, 1) := by decide +kernel
theorem d_R_oldest_22 : decode c_R_oldest 22 = .ok (.getfield 64, 3) := by decide +kernel
theorem d_R_oldest_25 : decode c_R_oldest 25 = .ok (.iload_n 2, 1) := by decide +kernel
theorem d_R_oldest_26 : decode c_R_oldest 26 = .ok (.iaload, 1) := by decide +kernel
theorem d_R_oldest_27 : decode c_R_oldest 27 = .ok (.iload_n 1, 1) := by decide +kernel
theorem d_R_oldest_28 : decode c_R_oldest 28 = .ok (.if_icmp .ge 10, 3) := by decide +kernel
theorem d_R_oldest_31 : decode c_R_oldest 31 = .ok (.aload_n 0, 1) := by decide +kernel
theorem d_R_oldest_32 : decode c_R_oldest 32 = .ok (.getfield 64, 3) := by decide +kernel
theorem d_R_oldest_35 : decode c_R_oldest 35 = .ok (.iload_n 2, 1) := by decide +kernel
theorem d_R_oldest_36 : decode c_R_oldest 36 = .ok (.iaload, 1) := by decide +kernel
theorem d_R_oldest_37 : decode c_R_oldest 37 = .ok (.istore_n 1, 1) := by decide +kernel
theorem d_R_oldest_38 : decode c_R_oldest 38 = .ok (.iinc 2 1, 3) := by decide +kernel
theorem d_R_oldest_41 : decode c_R_oldest 41 = .ok (.goto (-34), 3) := by decide +kernel
theorem d_R_oldest_44 : decode c_R_oldest 44 = .ok (.iload_n 1, 1) := by decide +kernel
theorem d_R_oldest_45 : decode c_R_oldest 45 = .ok (.ireturn, 1) := by decide +kernel
theorem d_R_deeper_0 : decode c_R_deeper 0 = .ok (.iconst 0, 1) := by decide +kernel
theorem d_R_deeper_1 : decode c_R_deeper 1 = .ok (.istore_n 3, 1) := by decide +kernel
theorem d_R_deeper_2 : decode c_R_deeper 2 = .ok (.iload_n 3, 1) := by decide +kernel
theorem d_R_deeper_3 : decode c_R_deeper 3 = .ok (.aload_n 0, 1) := by decide +kernel
theorem d_R_deeper_4 : decode c_R_deeper 4 = .ok (.getfield 92, 3) := by decide +kernel
theorem d_R_deeper_7 : decode c_R_deeper 7 = .ok (.if_icmp .ge 48, 3) := by decide +kernel
theorem d_R_deeper_10 : decode c_R_deeper 10 = .ok (.aload_n 0, 1) := by decide +kernel
theorem d_R_deeper_11 : decode c_R_deeper 11 = .ok (.getfield 82, 3) := by decide +kernel
theorem d_R_deeper_14 : decode c_R_deeper 14 = .ok (.iload_n 3, 1) := by decide +kernel
theorem d_R_deeper_15 : decode c_R_deeper 15 = .ok (.baload, 1) := by decide +kernel
theorem d_R_deeper_16 : decode c_R_deeper 16 = .ok (.ifCond .ne 33, 3) := by decide +kernel
theorem d_R_deeper_19 : decode c_R_deeper 19 = .ok (.aload_n 0, 1) := by decide +kernel
theorem d_R_deeper_20 : decode c_R_deeper 20 = .ok (.getfield 26, 3) := by decide +kernel
theorem d_R_deeper_23 : decode c_R_deeper 23 = .ok (.iload_n 3, 1) := by decide +kernel
theorem d_R_deeper_24 : decode c_R_deeper 24 = .ok (.iaload, 1) := by decide +kernel
theorem d_R_deeper_25 : decode c_R_deeper 25 = .ok (.iload_n 2, 1) := by decide +kernel
theorem d_R_deeper_26 : decode c_R_deeper 26 = .ok (.if_icmp .le 23, 3) := by decide +kernel
theorem d_R_deeper_29 : decode c_R_deeper 29 = .ok (.aload_n 0, 1) := by decide +kernel
theorem d_R_deeper_30 : decode c_R_deeper 30 = .ok (.iload_n 3, 1) := by decide +kernel
theorem d_R_deeper_31 : decode c_R_deeper 31 = .ok (.invokevirtual 117, 3) := by decide +kernel
theorem d_R_deeper_34 : decode c_R_deeper 34 = .ok (.iload_n 1, 1) := by decide +kernel
theorem d_R_deeper_35 : decode c_R_deeper 35 = .ok (.if_icmp .gt 14, 3) := by decide +kernel
theorem d_R_deeper_38 : decode c_R_deeper 38 = .ok (.aload_n 0, 1) := by decide +kernel
theorem d_R_deeper_39 : decode c_R_deeper 39 = .ok (.iload_n 3, 1) := by decide +kernel
theorem d_R_deeper_40 : decode c_R_deeper 40 = .ok (.invokevirtual 120, 3) := by decide +kernel
theorem d_R_deeper_43 : decode c_R_deeper 43 = .ok (.iload_n 1, 1) := by decide +kernel
theorem d_R_deeper_44 : decode c_R_deeper 44 = .ok (.if_icmp .lt 5, 3) := by decide +kernel
theorem d_R_deeper_47 : decode c_R_deeper 47 = .ok (.iconst 1, 1) := by decide +kernel
theorem d_R_deeper_48 : decode c_R_deeper 48 = .ok (.ireturn, 1) := by decide +kernel
theorem d_R_deeper_49 : decode c_R_deeper 49 = .ok (.iinc 3 1, 3) := by decide +kernel
theorem d_R_deeper_52 : decode c_R_deeper 52 = .ok (.goto (-50), 3) := by decide +kernel
theorem d_R_deeper_55 : decode c_R_deeper 55 = .ok (.iconst 0, 1) := by decide +kernel
theorem d_R_deeper_56 : decode c_R_deeper 56 = .ok (.ireturn, 1) := by decide +kernel
theorem d_R_dropAll_0 : decode c_R_dropAll 0 = .ok (.aload_n 0, 1) := by decide +kernel
theorem d_R_dropAll_1 : decode c_R_dropAll 1 = .ok (.invokevirtual 123, 3) := by decide +kernel
theorem d_R_dropAll_4 : decode c_R_dropAll 4 = .ok (.istore_n 2, 1) := by decide +kernel
theorem d_R_dropAll_5 : decode c_R_dropAll 5 = .ok (.iconst 0, 1) := by decide +kernel
theorem d_R_dropAll_6 : decode c_R_dropAll 6 = .ok (.istore_n 3, 1) := by decide +kernel
theorem d_R_dropAll_7 : decode c_R_dropAll 7 = .ok (.iconst (-1), 1) := by decide +kernel
theorem d_R_dropAll_8 : decode c_R_dropAll 8 = .ok (.istore 4, 2) := by decide +kernel
theorem d_R_dropAll_10 : decode c_R_dropAll 10 = .ok (.iconst (-1), 1) := by decide +kernel
theorem d_R_dropAll_11 : decode c_R_dropAll 11 = .ok (.istore 5, 2) := by decide +kernel
theorem d_R_dropAll_13 : decode c_R_dropAll 13 = .ok (.iconst 0, 1) := by decide +kernel
theorem d_R_dropAll_14 : decode c_R_dropAll 14 = .ok (.istore 6, 2) := by decide +kernel
theorem d_R_dropAll_16 : decode c_R_dropAll 16 = .ok (.iload 6, 2) := by decide +kernel
theorem d_R_dropAll_18 : decode c_R_dropAll 18 = .ok (.aload_n 0, 1) := by decide +kernel
theorem d_R_dropAll_19 : decode c_R_dropAll 19 = .ok (.getfield 108, 3) := by decide +kernel
theorem d_R_dropAll_22 : decode c_R_dropAll 22 = .ok (.if_icmp .ge 124, 3) := by decide +kernel
theorem d_R_dropAll_25 : decode c_R_dropAll 25 = .ok (.aload_n 0, 1) := by decide +kernel
theorem d_R_dropAll_26 : decode c_R_dropAll 26 = .ok (.getfield 70, 3) := by decide +kernel
theorem d_R_dropAll_29 : decode c_R_dropAll 29 = .ok (.iload 6, 2) := by decide +kernel
theorem d_R_dropAll_31 : decode c_R_dropAll 31 = .ok (.iaload, 1) := by decide +kernel
theorem d_R_dropAll_32 : decode c_R_dropAll 32 = .ok (.iload 5, 2) := by decide +kernel
theorem d_R_dropAll_34 : decode c_R_dropAll 34 = .ok (.if_icmp .eq 6, 3) := by decide +kernel
theorem d_R_dropAll_37 : decode c_R_dropAll 37 = .ok (.iconst (-1), 1) := by decide +kernel
theorem d_R_dropAll_38 : decode c_R_dropAll 38 = .ok (.istore 4, 2) := by decide +kernel
theorem d_R_dropAll_40 : decode c_R_dropAll 40 = .ok (.aload_n 0, 1) := by decide +kernel
theorem d_R_dropAll_41 : decode c_R_dropAll 41 = .ok (.getfield 70, 3) := by decide +kernel
theorem d_R_dropAll_44 : decode c_R_dropAll 44 = .ok (.iload 6, 2) := by decide +kernel
theorem d_R_dropAll_46 : decode c_R_dropAll 46 = .ok (.iaload, 1) := by decide +kernel
theorem d_R_dropAll_47 : decode c_R_dropAll 47 = .ok (.istore 5, 2) := by decide +kernel
theorem d_R_dropAll_49 : decode c_R_dropAll 49 = .ok (.iload 4, 2) := by decide +kernel
theorem d_R_dropAll_51 : decode c_R_dropAll 51 = .ok (.ifCond .ge 34, 3) := by decide +kernel
theorem d_R_dropAll_54 : decode c_R_dropAll 54 = .ok (.aload_n 0, 1) := by decide +kernel
theorem d_R_dropAll_55 : decode c_R_dropAll 55 = .ok (.getfield 79, 3) := by decide +kernel
theorem d_R_dropAll_58 : decode c_R_dropAll 58 = .ok (.iload 6, 2) := by decide +kernel
theorem d_R_dropAll_60 : decode c_R_dropAll 60 = .ok (.baload, 1) := by decide +kernel
theorem d_R_dropAll_61 : decode c_R_dropAll 61 = .ok (.ifCond .eq 28, 3) := by decide +kernel
theorem d_R_dropAll_64 : decode c_R_dropAll 64 = .ok (.aload_n 0, 1) := by decide +kernel
theorem d_R_dropAll_65 : decode c_R_dropAll 65 = .ok (.getfield 73, 3) := by decide +kernel
theorem d_R_dropAll_68 : decode c_R_dropAll 68 = .ok (.iload 6, 2) := by decide +kernel
theorem d_R_dropAll_70 : decode c_R_dropAll 70 = .ok (.iaload, 1) := by decide +kernel
theorem d_R_dropAll_71 : decode c_R_dropAll 71 = .ok (.iload_n 2, 1) := by decide +kernel
theorem d_R_dropAll_72 : decode c_R_dropAll 72 = .ok (.if_icmp .gt 17, 3) := by decide +kernel
theorem d_R_dropAll_75 : decode c_R_dropAll 75 = .ok (.aload_n 0, 1) := by decide +kernel
theorem d_R_dropAll_76 : decode c_R_dropAll 76 = .ok (.iload 5, 2) := by decide +kernel
theorem d_R_dropAll_78 : decode c_R_dropAll 78 = .ok (.iload_n 1, 1) := by decide +kernel
theorem d_R_dropAll_79 : decode c_R_dropAll 79 = .ok (.invokevirtual 127, 3) := by decide +kernel
theorem d_R_dropAll_82 : decode c_R_dropAll 82 = .ok (.ifCond .ne 7, 3) := by decide +kernel
theorem d_R_dropAll_85 : decode c_R_dropAll 85 = .ok (.iconst 1, 1) := by decide +kernel
theorem d_R_dropAll_86 : decode c_R_dropAll 86 = .ok (.goto 4, 3) := by decide +kernel
theorem d_R_dropAll_89 : decode c_R_dropAll 89 = .ok (.iconst 0, 1) := by decide +kernel
theorem d_R_dropAll_90 : decode c_R_dropAll 90 = .ok (.istore 7, 2) := by decide +kernel
theorem d_R_dropAll_92 : decode c_R_dropAll 92 = .ok (.aload_n 0, 1) := by decide +kernel
theorem d_R_dropAll_93 : decode c_R_dropAll 93 = .ok (.getfield 73, 3) := by decide +kernel
theorem d_R_dropAll_96 : decode c_R_dropAll 96 = .ok (.iload 6, 2) := by decide +kernel
theorem d_R_dropAll_98 : decode c_R_dropAll 98 = .ok (.iaload, 1) := by decide +kernel
theorem d_R_dropAll_99 : decode c_R_dropAll 99 = .ok (.iload_n 2, 1) := by decide +kernel
theorem d_R_dropAll_100 : decode c_R_dropAll 100 = .ok (.if_icmp .gt 12, 3) := by decide +kernel
theorem d_R_dropAll_103 : decode c_R_dropAll 103 = .ok (.aload_n 0, 1) := by decide +kernel
theorem d_R_dropAll_104 : decode c_R_dropAll 104 = .ok (.getfield 73, 3) := by decide +kernel
theorem d_R_dropAll_107 : decode c_R_dropAll 107 = .ok (.iload 6, 2) := by decide +kernel
theorem d_R_dropAll_109 : decode c_R_dropAll 109 = .ok (.iaload, 1) := by decide +kernel
theorem d_R_dropAll_110 : decode c_R_dropAll 110 = .ok (.istore 4, 2) := by decide +kernel
theorem d_R_dropAll_112 : decode c_R_dropAll 112 = .ok (.iload 7, 2) := by decide +kernel
theorem d_R_dropAll_114 : decode c_R_dropAll 114 = .ok (.ifCond .eq 16, 3) := by decide +kernel
theorem d_R_dropAll_117 : decode c_R_dropAll 117 = .ok (.aload_n 0, 1) := by decide +kernel
theorem d_R_dropAll_118 : decode c_R_dropAll 118 = .ok (.dup, 1) := by decide +kernel
theorem d_R_dropAll_119 : decode c_R_dropAll 119 = .ok (.getfield 131, 3) := by decide +kernel
theorem d_R_dropAll_122 : decode c_R_dropAll 122 = .ok (.iconst 1, 1) := by decide +kernel
theorem d_R_dropAll_123 : decode c_R_dropAll 123 = .ok (.iadd, 1) := by decide +kernel
theorem d_R_dropAll_124 : decode c_R_dropAll 124 = .ok (.putfield 131, 3) := by decide +kernel
theorem d_R_dropAll_127 : decode c_R_dropAll 127 = .ok (.goto 13, 3) := by decide +kernel
theorem d_R_dropAll_130 : decode c_R_dropAll 130 = .ok (.aload_n 0, 1) := by decide +kernel
theorem d_R_dropAll_131 : decode c_R_dropAll 131 = .ok (.iload_n 3, 1) := by decide +kernel
theorem d_R_dropAll_132 : decode c_R_dropAll 132 = .ok (.iload 6, 2) := by decide +kernel
theorem d_R_dropAll_134 : decode c_R_dropAll 134 = .ok (.invokevirtual 111, 3) := by decide +kernel
theorem d_R_dropAll_137 : decode c_R_dropAll 137 = .ok (.iinc 3 1, 3) := by decide +kernel
theorem d_R_dropAll_140 : decode c_R_dropAll 140 = .ok (.iinc 6 1, 3) := by decide +kernel
theorem d_R_dropAll_143 : decode c_R_dropAll 143 = .ok (.goto (-127), 3) := by decide +kernel
theorem d_R_dropAll_146 : decode c_R_dropAll 146 = .ok (.aload_n 0, 1) := by decide +kernel
theorem d_R_dropAll_147 : decode c_R_dropAll 147 = .ok (.iload_n 3, 1) := by decide +kernel
theorem d_R_dropAll_148 : decode c_R_dropAll 148 = .ok (.putfield 108, 3) := by decide +kernel
theorem d_R_dropAll_151 : decode c_R_dropAll 151 = .ok (.return_, 1) := by decide +kernel
theorem d_R_takeOut_0 : decode c_R_takeOut 0 = .ok (.aload_n 0, 1) := by decide +kernel
theorem d_R_takeOut_1 : decode c_R_takeOut 1 = .ok (.iload_n 1, 1) := by decide +kernel
theorem d_R_takeOut_2 : decode c_R_takeOut 2 = .ok (.invokevirtual 88, 3) := by decide +kernel
theorem d_R_takeOut_5 : decode c_R_takeOut 5 = .ok (.istore_n 2, 1) := by decide +kernel
theorem d_R_takeOut_6 : decode c_R_takeOut 6 = .ok (.aload_n 0, 1) := by decide +kernel
theorem d_R_takeOut_7 : decode c_R_takeOut 7 = .ok (.getfield 29, 3) := by decide +kernel
theorem d_R_takeOut_10 : decode c_R_takeOut 10 = .ok (.iload_n 1, 1) := by decide +kernel
theorem d_R_takeOut_11 : decode c_R_takeOut 11 = .ok (.iaload, 1) := by decide +kernel
theorem d_R_takeOut_12 : decode c_R_takeOut 12 = .ok (.istore_n 3, 1) := by decide +kernel
theorem d_R_takeOut_13 : decode c_R_takeOut 13 = .ok (.iload_n 2, 1) := by decide +kernel
theorem d_R_takeOut_14 : decode c_R_takeOut 14 = .ok (.istore 4, 2) := by decide +kernel
theorem d_R_takeOut_16 : decode c_R_takeOut 16 = .ok (.iload 4, 2) := by decide +kernel
theorem d_R_takeOut_18 : decode c_R_takeOut 18 = .ok (.iload_n 3, 1) := by decide +kernel
theorem d_R_takeOut_19 : decode c_R_takeOut 19 = .ok (.iadd, 1) := by decide +kernel
theorem d_R_takeOut_20 : decode c_R_takeOut 20 = .ok (.aload_n 0, 1) := by decide +kernel
theorem d_R_takeOut_21 : decode c_R_takeOut 21 = .ok (.getfield 95, 3) := by decide +kernel
theorem d_R_takeOut_24 : decode c_R_takeOut 24 = .ok (.if_icmp .ge 19, 3) := by decide +kernel
theorem d_R_takeOut_27 : decode c_R_takeOut 27 = .ok (.aload_n 0, 1) := by decide +kernel
theorem d_R_takeOut_28 : decode c_R_takeOut 28 = .ok (.iload 4, 2) := by decide +kernel
theorem d_R_takeOut_30 : decode c_R_takeOut 30 = .ok (.iload 4, 2) := by decide +kernel
theorem d_R_takeOut_32 : decode c_R_takeOut 32 = .ok (.iload_n 3, 1) := by decide +kernel
theorem d_R_takeOut_33 : decode c_R_takeOut 33 = .ok (.iadd, 1) := by decide +kernel
theorem d_R_takeOut_34 : decode c_R_takeOut 34 = .ok (.invokevirtual 98, 3) := by decide +kernel
theorem d_R_takeOut_37 : decode c_R_takeOut 37 = .ok (.iinc 4 1, 3) := by decide +kernel
theorem d_R_takeOut_40 : decode c_R_takeOut 40 = .ok (.goto (-24), 3) := by decide +kernel
theorem d_R_takeOut_43 : decode c_R_takeOut 43 = .ok (.aload_n 0, 1) := by decide +kernel
theorem d_R_takeOut_44 : decode c_R_takeOut 44 = .ok (.dup, 1) := by decide +kernel
theorem d_R_takeOut_45 : decode c_R_takeOut 45 = .ok (.getfield 95, 3) := by decide +kernel
theorem d_R_takeOut_48 : decode c_R_takeOut 48 = .ok (.iload_n 3, 1) := by decide +kernel
theorem d_R_takeOut_49 : decode c_R_takeOut 49 = .ok (.isub, 1) := by decide +kernel
theorem d_R_takeOut_50 : decode c_R_takeOut 50 = .ok (.putfield 95, 3) := by decide +kernel
theorem d_R_takeOut_53 : decode c_R_takeOut 53 = .ok (.aload_n 0, 1) := by decide +kernel
theorem d_R_takeOut_54 : decode c_R_takeOut 54 = .ok (.dup, 1) := by decide +kernel
theorem d_R_takeOut_55 : decode c_R_takeOut 55 = .ok (.getfield 92, 3) := by decide +kernel
theorem d_R_takeOut_58 : decode c_R_takeOut 58 = .ok (.iconst 1, 1) := by decide +kernel
theorem d_R_takeOut_59 : decode c_R_takeOut 59 = .ok (.isub, 1) := by decide +kernel
theorem d_R_takeOut_60 : decode c_R_takeOut 60 = .ok (.putfield 92, 3) := by decide +kernel
theorem d_R_takeOut_63 : decode c_R_takeOut 63 = .ok (.iload_n 1, 1) := by decide +kernel
theorem d_R_takeOut_64 : decode c_R_takeOut 64 = .ok (.istore 4, 2) := by decide +kernel
theorem d_R_takeOut_66 : decode c_R_takeOut 66 = .ok (.iload 4, 2) := by decide +kernel
theorem d_R_takeOut_68 : decode c_R_takeOut 68 = .ok (.aload_n 0, 1) := by decide +kernel
theorem d_R_takeOut_69 : decode c_R_takeOut 69 = .ok (.getfield 92, 3) := by decide +kernel
theorem d_R_takeOut_72 : decode c_R_takeOut 72 = .ok (.if_icmp .ge 19, 3) := by decide +kernel
theorem d_R_takeOut_75 : decode c_R_takeOut 75 = .ok (.aload_n 0, 1) := by decide +kernel
theorem d_R_takeOut_76 : decode c_R_takeOut 76 = .ok (.iload 4, 2) := by decide +kernel
theorem d_R_takeOut_78 : decode c_R_takeOut 78 = .ok (.iload 4, 2) := by decide +kernel
theorem d_R_takeOut_80 : decode c_R_takeOut 80 = .ok (.iconst 1, 1) := by decide +kernel
theorem d_R_takeOut_81 : decode c_R_takeOut 81 = .ok (.iadd, 1) := by decide +kernel
theorem d_R_takeOut_82 : decode c_R_takeOut 82 = .ok (.invokevirtual 102, 3) := by decide +kernel
theorem d_R_takeOut_85 : decode c_R_takeOut 85 = .ok (.iinc 4 1, 3) := by decide +kernel
theorem d_R_takeOut_88 : decode c_R_takeOut 88 = .ok (.goto (-22), 3) := by decide +kernel
theorem d_R_takeOut_91 : decode c_R_takeOut 91 = .ok (.return_, 1) := by decide +kernel
theorem d_R_place_0 : decode c_R_place 0 = .ok (.iconst 0, 1) := by decide +kernel
theorem d_R_place_1 : decode c_R_place 1 = .ok (.istore_n 2, 1) := by decide +kernel
theorem d_R_place_2 : decode c_R_place 2 = .ok (.iload_n 2, 1) := by decide +kernel
theorem d_R_place_3 : decode c_R_place 3 = .ok (.aload_n 0, 1) := by decide +kernel
theorem d_R_place_4 : decode c_R_place 4 = .ok (.getfield 92, 3) := by decide +kernel
theorem d_R_place_7 : decode c_R_place 7 = .ok (.if_icmp .ge 50, 3) := by decide +kernel
theorem d_R_place_10 : decode c_R_place 10 = .ok (.aload_n 0, 1) := by decide +kernel
theorem d_R_place_11 : decode c_R_place 11 = .ok (.getfield 26, 3) := by decide +kernel
theorem d_R_place_14 : decode c_R_place 14 = .ok (.iload_n 2, 1) := by decide +kernel
theorem d_R_place_15 : decode c_R_place 15 = .ok (.iaload, 1) := by decide +kernel
theorem d_R_place_16 : decode c_R_place 16 = .ok (.iload_n 1, 1) := by decide +kernel
theorem d_R_place_17 : decode c_R_place 17 = .ok (.if_icmp .lt 34, 3) := by decide +kernel
theorem d_R_place_20 : decode c_R_place 20 = .ok (.aload_n 0, 1) := by decide +kernel
theorem d_R_place_21 : decode c_R_place 21 = .ok (.getfield 26, 3) := by decide +kernel
theorem d_R_place_24 : decode c_R_place 24 = .ok (.iload_n 2, 1) := by decide +kernel
theorem d_R_place_25 : decode c_R_place 25 = .ok (.iaload, 1) := by decide +kernel
theorem d_R_place_26 : decode c_R_place 26 = .ok (.iload_n 1, 1) := by decide +kernel
theorem d_R_place_27 : decode c_R_place 27 = .ok (.if_icmp .ne 30, 3) := by decide +kernel
theorem d_R_place_30 : decode c_R_place 30 = .ok (.aload_n 0, 1) := by decide +kernel
theorem d_R_place_31 : decode c_R_place 31 = .ok (.getfield 108, 3) := by decide +kernel
theorem d_R_place_34 : decode c_R_place 34 = .ok (.ifCond .le 23, 3) := by decide +kernel
theorem d_R_place_37 : decode c_R_place 37 = .ok (.aload_n 0, 1) := by decide +kernel
theorem d_R_place_38 : decode c_R_place 38 = .ok (.iload_n 2, 1) := by decide +kernel
theorem d_R_place_39 : decode c_R_place 39 = .ok (.invokevirtual 117, 3) := by decide +kernel
theorem d_R_place_42 : decode c_R_place 42 = .ok (.aload_n 0, 1) := by decide +kernel
theorem d_R_place_43 : decode c_R_place 43 = .ok (.getfield 70, 3) := by decide +kernel
theorem d_R_place_46 : decode c_R_place 46 = .ok (.iconst 0, 1) := by decide +kernel
theorem d_R_place_47 : decode c_R_place 47 = .ok (.iaload, 1) := by decide +kernel
theorem d_R_place_48 : decode c_R_place 48 = .ok (.if_icmp .ge 9, 3) := by decide +kernel
theorem d_R_place_51 : decode c_R_place 51 = .ok (.iinc 2 1, 3) := by decide +kernel
theorem d_R_place_54 : decode c_R_place 54 = .ok (.goto (-52), 3) := by decide +kernel
theorem d_R_place_57 : decode c_R_place 57 = .ok (.iconst 0, 1) := by decide +kernel
theorem d_R_place_58 : decode c_R_place 58 = .ok (.istore_n 3, 1) := by decide +kernel
theorem d_R_place_59 : decode c_R_place 59 = .ok (.iconst 0, 1) := by decide +kernel
theorem d_R_place_60 : decode c_R_place 60 = .ok (.istore 4, 2) := by decide +kernel
theorem d_R_place_62 : decode c_R_place 62 = .ok (.iload 4, 2) := by decide +kernel
theorem d_R_place_64 : decode c_R_place 64 = .ok (.aload_n 0, 1) := by decide +kernel
theorem d_R_place_65 : decode c_R_place 65 = .ok (.getfield 108, 3) := by decide +kernel
theorem d_R_place_68 : decode c_R_place 68 = .ok (.if_icmp .ge 74, 3) := by decide +kernel
theorem d_R_place_71 : decode c_R_place 71 = .ok (.iload 4, 2) := by decide +kernel
theorem d_R_place_73 : decode c_R_place 73 = .ok (.iload_n 3, 1) := by decide +kernel
theorem d_R_place_74 : decode c_R_place 74 = .ok (.isub, 1) := by decide +kernel
theorem d_R_place_75 : decode c_R_place 75 = .ok (.iconst 1, 1) := by decide +kernel
theorem d_R_place_76 : decode c_R_place 76 = .ok (.iadd, 1) := by decide +kernel
theorem d_R_place_77 : decode c_R_place 77 = .ok (.istore 5, 2) := by decide +kernel
theorem d_R_place_79 : decode c_R_place 79 = .ok (.iload 4, 2) := by decide +kernel
theorem d_R_place_81 : decode c_R_place 81 = .ok (.iconst 1, 1) := by decide +kernel
theorem d_R_place_82 : decode c_R_place 82 = .ok (.iadd, 1) := by decide +kernel
theorem d_R_place_83 : decode c_R_place 83 = .ok (.aload_n 0, 1) := by decide +kernel
theorem d_R_place_84 : decode c_R_place 84 = .ok (.getfield 108, 3) := by decide +kernel
theorem d_R_place_87 : decode c_R_place 87 = .ok (.if_icmp .ge 32, 3) := by decide +kernel
theorem d_R_place_90 : decode c_R_place 90 = .ok (.iload 5, 2) := by decide +kernel
theorem d_R_place_92 : decode c_R_place 92 = .ok (.bipush 6, 2) := by decide +kernel
theorem d_R_place_94 : decode c_R_place 94 = .ok (.if_icmp .lt 42, 3) := by decide +kernel
theorem d_R_place_97 : decode c_R_place 97 = .ok (.aload_n 0, 1) := by decide +kernel
theorem d_R_place_98 : decode c_R_place 98 = .ok (.getfield 70, 3) := by decide +kernel
theorem d_R_place_101 : decode c_R_place 101 = .ok (.iload 4, 2) := by decide +kernel
theorem d_R_place_103 : decode c_R_place 103 = .ok (.iconst 1, 1) := by decide +kernel
theorem d_R_place_104 : decode c_R_place 104 = .ok (.iadd, 1) := by decide +kernel
theorem d_R_place_105 : decode c_R_place 105 = .ok (.iaload, 1) := by decide +kernel
theorem d_R_place_106 : decode c_R_place 106 = .ok (.aload_n 0, 1) := by decide +kernel
theorem d_R_place_107 : decode c_R_place 107 = .ok (.getfield 70, 3) := by decide +kernel
theorem d_R_place_110 : decode c_R_place 110 = .ok (.iload 4, 2) := by decide +kernel
theorem d_R_place_112 : decode c_R_place 112 = .ok (.iaload, 1) := by decide +kernel
theorem d_R_place_113 : decode c_R_place 113 = .ok (.if_icmp .ne 6, 3) := by decide +kernel
theorem d_R_place_116 : decode c_R_place 116 = .ok (.goto 20, 3) := by decide +kernel
theorem d_R_place_119 : decode c_R_place 119 = .ok (.aload_n 0, 1) := by decide +kernel
theorem d_R_place_120 : decode c_R_place 120 = .ok (.iload_n 2, 1) := by decide +kernel
theorem d_R_place_121 : decode c_R_place 121 = .ok (.iload_n 1, 1) := by decide +kernel
theorem d_R_place_122 : decode c_R_place 122 = .ok (.iload_n 3, 1) := by decide +kernel
theorem d_R_place_123 : decode c_R_place 123 = .ok (.iload 5, 2) := by decide +kernel
theorem d_R_place_125 : decode c_R_place 125 = .ok (.invokevirtual 152, 3) := by decide +kernel
theorem d_R_place_128 : decode c_R_place 128 = .ok (.iinc 2 1, 3) := by decide +kernel
theorem d_R_place_131 : decode c_R_place 131 = .ok (.iload 4, 2) := by decide +kernel
theorem d_R_place_133 : decode c_R_place 133 = .ok (.iconst 1, 1) := by decide +kernel
theorem d_R_place_134 : decode c_R_place 134 = .ok (.iadd, 1) := by decide +kernel
theorem d_R_place_135 : decode c_R_place 135 = .ok (.istore_n 3, 1) := by decide +kernel
theorem d_R_place_136 : decode c_R_place 136 = .ok (.iinc 4 1, 3) := by decide +kernel
theorem d_R_place_139 : decode c_R_place 139 = .ok (.goto (-77), 3) := by decide +kernel
theorem d_R_place_142 : decode c_R_place 142 = .ok (.return_, 1) := by decide +kernel
theorem d_R_merge_0 : decode c_R_merge 0 = .ok (.bipush 64, 2) := by decide +kernel
theorem d_R_merge_2 : decode c_R_merge 2 = .ok (.istore_n 2, 1) := by decide +kernel
theorem d_R_merge_3 : decode c_R_merge 3 = .ok (.iconst (-1), 1) := by decide +kernel
theorem d_R_merge_4 : decode c_R_merge 4 = .ok (.istore_n 3, 1) := by decide +kernel
theorem d_R_merge_5 : decode c_R_merge 5 = .ok (.iconst 0, 1) := by decide +kernel
theorem d_R_merge_6 : decode c_R_merge 6 = .ok (.istore 4, 2) := by decide +kernel
theorem d_R_merge_8 : decode c_R_merge 8 = .ok (.iload 4, 2) := by decide +kernel
theorem d_R_merge_10 : decode c_R_merge 10 = .ok (.aload_n 0, 1) := by decide +kernel
theorem d_R_merge_11 : decode c_R_merge 11 = .ok (.getfield 92, 3) := by decide +kernel
theorem d_R_merge_14 : decode c_R_merge 14 = .ok (.if_icmp .ge 63, 3) := by decide +kernel
theorem d_R_merge_17 : decode c_R_merge 17 = .ok (.aload_n 0, 1) := by decide +kernel
theorem d_R_merge_18 : decode c_R_merge 18 = .ok (.getfield 82, 3) := by decide +kernel
theorem d_R_merge_21 : decode c_R_merge 21 = .ok (.iload 4, 2) := by decide +kernel
theorem d_R_merge_23 : decode c_R_merge 23 = .ok (.baload, 1) := by decide +kernel
theorem d_R_merge_24 : decode c_R_merge 24 = .ok (.ifCond .eq 20, 3) := by decide +kernel
theorem d_R_merge_27 : decode c_R_merge 27 = .ok (.aload_n 0, 1) := by decide +kernel
theorem d_R_merge_28 : decode c_R_merge 28 = .ok (.iload 4, 2) := by decide +kernel
theorem d_R_merge_30 : decode c_R_merge 30 = .ok (.invokevirtual 117, 3) := by decide +kernel
theorem d_R_merge_33 : decode c_R_merge 33 = .ok (.iload_n 2, 1) := by decide +kernel
theorem d_R_merge_34 : decode c_R_merge 34 = .ok (.if_icmp .ge 10, 3) := by decide +kernel
theorem d_R_merge_37 : decode c_R_merge 37 = .ok (.aload_n 0, 1) := by decide +kernel
theorem d_R_merge_38 : decode c_R_merge 38 = .ok (.iload 4, 2) := by decide +kernel
theorem d_R_merge_40 : decode c_R_merge 40 = .ok (.invokevirtual 117, 3) := by decide +kernel
theorem d_R_merge_43 : decode c_R_merge 43 = .ok (.istore_n 2, 1) := by decide +kernel
theorem d_R_merge_44 : decode c_R_merge 44 = .ok (.aload_n 0, 1) := by decide +kernel
theorem d_R_merge_45 : decode c_R_merge 45 = .ok (.getfield 82, 3) := by decide +kernel
theorem d_R_merge_48 : decode c_R_merge 48 = .ok (.iload 4, 2) := by decide +kernel
theorem d_R_merge_50 : decode c_R_merge 50 = .ok (.baload, 1) := by decide +kernel
theorem d_R_merge_51 : decode c_R_merge 51 = .ok (.ifCond .eq 20, 3) := by decide +kernel
theorem d_R_merge_54 : decode c_R_merge 54 = .ok (.aload_n 0, 1) := by decide +kernel
theorem d_R_merge_55 : decode c_R_merge 55 = .ok (.iload 4, 2) := by decide +kernel
theorem d_R_merge_57 : decode c_R_merge 57 = .ok (.invokevirtual 120, 3) := by decide +kernel
theorem d_R_merge_60 : decode c_R_merge 60 = .ok (.iload_n 3, 1) := by decide +kernel
theorem d_R_merge_61 : decode c_R_merge 61 = .ok (.if_icmp .le 10, 3) := by decide +kernel
theorem d_R_merge_64 : decode c_R_merge 64 = .ok (.aload_n 0, 1) := by decide +kernel
theorem d_R_merge_65 : decode c_R_merge 65 = .ok (.iload 4, 2) := by decide +kernel
theorem d_R_merge_67 : decode c_R_merge 67 = .ok (.invokevirtual 120, 3) := by decide +kernel
theorem d_R_merge_70 : decode c_R_merge 70 = .ok (.istore_n 3, 1) := by decide +kernel
theorem d_R_merge_71 : decode c_R_merge 71 = .ok (.iinc 4 1, 3) := by decide +kernel
theorem d_R_merge_74 : decode c_R_merge 74 = .ok (.goto (-66), 3) := by decide +kernel
theorem d_R_merge_77 : decode c_R_merge 77 = .ok (.iconst 0, 1) := by decide +kernel
theorem d_R_merge_78 : decode c_R_merge 78 = .ok (.istore 4, 2) := by decide +kernel
theorem d_R_merge_80 : decode c_R_merge 80 = .ok (.iload 4, 2) := by decide +kernel
theorem d_R_merge_82 : decode c_R_merge 82 = .ok (.aload_n 0, 1) := by decide +kernel
theorem d_R_merge_83 : decode c_R_merge 83 = .ok (.getfield 92, 3) := by decide +kernel
theorem d_R_merge_86 : decode c_R_merge 86 = .ok (.if_icmp .ge 75, 3) := by decide +kernel
theorem d_R_merge_89 : decode c_R_merge 89 = .ok (.aload_n 0, 1) := by decide +kernel
theorem d_R_merge_90 : decode c_R_merge 90 = .ok (.getfield 26, 3) := by decide +kernel
theorem d_R_merge_93 : decode c_R_merge 93 = .ok (.iload 4, 2) := by decide +kernel
theorem d_R_merge_95 : decode c_R_merge 95 = .ok (.iaload, 1) := by decide +kernel
theorem d_R_merge_96 : decode c_R_merge 96 = .ok (.iload_n 1, 1) := by decide +kernel
theorem d_R_merge_97 : decode c_R_merge 97 = .ok (.if_icmp .ne 31, 3) := by decide +kernel
theorem d_R_merge_100 : decode c_R_merge 100 = .ok (.aload_n 0, 1) := by decide +kernel
theorem d_R_merge_101 : decode c_R_merge 101 = .ok (.iload 4, 2) := by decide +kernel
theorem d_R_merge_103 : decode c_R_merge 103 = .ok (.invokevirtual 117, 3) := by decide +kernel
theorem d_R_merge_106 : decode c_R_merge 106 = .ok (.iload_n 3, 1) := by decide +kernel
theorem d_R_merge_107 : decode c_R_merge 107 = .ok (.if_icmp .gt 21, 3) := by decide +kernel
theorem d_R_merge_110 : decode c_R_merge 110 = .ok (.aload_n 0, 1) := by decide +kernel
theorem d_R_merge_111 : decode c_R_merge 111 = .ok (.iload 4, 2) := by decide +kernel
theorem d_R_merge_113 : decode c_R_merge 113 = .ok (.invokevirtual 120, 3) := by decide +kernel
theorem d_R_merge_116 : decode c_R_merge 116 = .ok (.iload_n 2, 1) := by decide +kernel
theorem d_R_merge_117 : decode c_R_merge 117 = .ok (.if_icmp .lt 11, 3) := by decide +kernel
theorem d_R_merge_120 : decode c_R_merge 120 = .ok (.aload_n 0, 1) := by decide +kernel
theorem d_R_merge_121 : decode c_R_merge 121 = .ok (.getfield 82, 3) := by decide +kernel
theorem d_R_merge_124 : decode c_R_merge 124 = .ok (.iload 4, 2) := by decide +kernel
theorem d_R_merge_126 : decode c_R_merge 126 = .ok (.iconst 1, 1) := by decide +kernel
theorem d_R_merge_127 : decode c_R_merge 127 = .ok (.bastore, 1) := by decide +kernel
theorem d_R_merge_128 : decode c_R_merge 128 = .ok (.aload_n 0, 1) := by decide +kernel
theorem d_R_merge_129 : decode c_R_merge 129 = .ok (.getfield 82, 3) := by decide +kernel
theorem d_R_merge_132 : decode c_R_merge 132 = .ok (.iload 4, 2) := by decide +kernel
theorem d_R_merge_134 : decode c_R_merge 134 = .ok (.baload, 1) := by decide +kernel
theorem d_R_merge_135 : decode c_R_merge 135 = .ok (.ifCond .eq 20, 3) := by decide +kernel
theorem d_R_merge_138 : decode c_R_merge 138 = .ok (.aload_n 0, 1) := by decide +kernel
theorem d_R_merge_139 : decode c_R_merge 139 = .ok (.getfield 32, 3) := by decide +kernel
theorem d_R_merge_142 : decode c_R_merge 142 = .ok (.iload 4, 2) := by decide +kernel
theorem d_R_merge_144 : decode c_R_merge 144 = .ok (.laload, 1) := by decide +kernel
theorem d_R_merge_145 : decode c_R_merge 145 = .ok (.lconst 0, 1) := by decide +kernel
theorem d_R_merge_146 : decode c_R_merge 146 = .ok (.lcmp, 1) := by decide +kernel
theorem d_R_merge_147 : decode c_R_merge 147 = .ok (.ifCond .eq 8, 3) := by decide +kernel
theorem d_R_merge_150 : decode c_R_merge 150 = .ok (.aload_n 0, 1) := by decide +kernel
theorem d_R_merge_151 : decode c_R_merge 151 = .ok (.iconst 1, 1) := by decide +kernel
theorem d_R_merge_152 : decode c_R_merge 152 = .ok (.putfield 134, 3) := by decide +kernel
theorem d_R_merge_155 : decode c_R_merge 155 = .ok (.iinc 4 1, 3) := by decide +kernel
theorem d_R_merge_158 : decode c_R_merge 158 = .ok (.goto (-78), 3) := by decide +kernel
theorem d_R_merge_161 : decode c_R_merge 161 = .ok (.aload_n 0, 1) := by decide +kernel
theorem d_R_merge_162 : decode c_R_merge 162 = .ok (.getfield 134, 3) := by decide +kernel
theorem d_R_merge_165 : decode c_R_merge 165 = .ok (.ifCond .eq 5, 3) := by decide +kernel
theorem d_R_merge_168 : decode c_R_merge 168 = .ok (.iconst 0, 1) := by decide +kernel
theorem d_R_merge_169 : decode c_R_merge 169 = .ok (.ireturn, 1) := by decide +kernel
theorem d_R_merge_170 : decode c_R_merge 170 = .ok (.aload_n 0, 1) := by decide +kernel
theorem d_R_merge_171 : decode c_R_merge 171 = .ok (.iconst 0, 1) := by decide +kernel
theorem d_R_merge_172 : decode c_R_merge 172 = .ok (.putfield 108, 3) := by decide +kernel
theorem d_R_merge_175 : decode c_R_merge 175 = .ok (.iconst 0, 1) := by decide +kernel
theorem d_R_merge_176 : decode c_R_merge 176 = .ok (.istore 4, 2) := by decide +kernel
theorem d_R_merge_178 : decode c_R_merge 178 = .ok (.iconst 0, 1) := by decide +kernel
theorem d_R_merge_179 : decode c_R_merge 179 = .ok (.istore 5, 2) := by decide +kernel
theorem d_R_merge_181 : decode c_R_merge 181 = .ok (.iload 5, 2) := by decide +kernel
theorem d_R_merge_183 : decode c_R_merge 183 = .ok (.aload_n 0, 1) := by decide +kernel
theorem d_R_merge_184 : decode c_R_merge 184 = .ok (.getfield 92, 3) := by decide +kernel
theorem d_R_merge_187 : decode c_R_merge 187 = .ok (.if_icmp .ge 88, 3) := by decide +kernel
theorem d_R_merge_190 : decode c_R_merge 190 = .ok (.iload 4, 2) := by decide +kernel
theorem d_R_merge_192 : decode c_R_merge 192 = .ok (.istore 6, 2) := by decide +kernel
theorem d_R_merge_194 : decode c_R_merge 194 = .ok (.iload 6, 2) := by decide +kernel
theorem d_R_merge_196 : decode c_R_merge 196 = .ok (.iload 4, 2) := by decide +kernel
theorem d_R_merge_198 : decode c_R_merge 198 = .ok (.aload_n 0, 1) := by decide +kernel
theorem d_R_merge_199 : decode c_R_merge 199 = .ok (.getfield 29, 3) := by decide +kernel
theorem d_R_merge_202 : decode c_R_merge 202 = .ok (.iload 5, 2) := by decide +kernel
theorem d_R_merge_204 : decode c_R_merge 204 = .ok (.iaload, 1) := by decide +kernel
theorem d_R_merge_205 : decode c_R_merge 205 = .ok (.iadd, 1) := by decide +kernel
theorem d_R_merge_206 : decode c_R_merge 206 = .ok (.if_icmp .ge 51, 3) := by decide +kernel
theorem d_R_merge_209 : decode c_R_merge 209 = .ok (.aload_n 0, 1) := by decide +kernel
theorem d_R_merge_210 : decode c_R_merge 210 = .ok (.getfield 82, 3) := by decide +kernel
theorem d_R_merge_213 : decode c_R_merge 213 = .ok (.iload 5, 2) := by decide +kernel
theorem d_R_merge_215 : decode c_R_merge 215 = .ok (.baload, 1) := by decide +kernel
theorem d_R_merge_216 : decode c_R_merge 216 = .ok (.ifCond .eq 41, 3) := by decide +kernel
theorem d_R_merge_219 : decode c_R_merge 219 = .ok (.aload_n 0, 1) := by decide +kernel
theorem d_R_merge_220 : decode c_R_merge 220 = .ok (.aload_n 0, 1) := by decide +kernel
theorem d_R_merge_221 : decode c_R_merge 221 = .ok (.getfield 7, 3) := by decide +kernel
theorem d_R_merge_224 : decode c_R_merge 224 = .ok (.iload 6, 2) := by decide +kernel
theorem d_R_merge_226 : decode c_R_merge 226 = .ok (.iaload, 1) := by decide +kernel
theorem d_R_merge_227 : decode c_R_merge 227 = .ok (.aload_n 0, 1) := by decide +kernel
theorem d_R_merge_228 : decode c_R_merge 228 = .ok (.getfield 13, 3) := by decide +kernel
theorem d_R_merge_231 : decode c_R_merge 231 = .ok (.iload 6, 2) := by decide +kernel
theorem d_R_merge_233 : decode c_R_merge 233 = .ok (.iaload, 1) := by decide +kernel
theorem d_R_merge_234 : decode c_R_merge 234 = .ok (.aload_n 0, 1) := by decide +kernel
theorem d_R_merge_235 : decode c_R_merge 235 = .ok (.getfield 16, 3) := by decide +kernel
theorem d_R_merge_238 : decode c_R_merge 238 = .ok (.iload 6, 2) := by decide +kernel
theorem d_R_merge_240 : decode c_R_merge 240 = .ok (.iaload, 1) := by decide +kernel
theorem d_R_merge_241 : decode c_R_merge 241 = .ok (.aload_n 0, 1) := by decide +kernel
theorem d_R_merge_242 : decode c_R_merge 242 = .ok (.getfield 19, 3) := by decide +kernel
theorem d_R_merge_245 : decode c_R_merge 245 = .ok (.iload 6, 2) := by decide +kernel
theorem d_R_merge_247 : decode c_R_merge 247 = .ok (.baload, 1) := by decide +kernel
theorem d_R_merge_248 : decode c_R_merge 248 = .ok (.invokevirtual 138, 3) := by decide +kernel
theorem d_R_merge_251 : decode c_R_merge 251 = .ok (.iinc 6 1, 3) := by decide +kernel
theorem d_R_merge_254 : decode c_R_merge 254 = .ok (.goto (-60), 3) := by decide +kernel
theorem d_R_merge_257 : decode c_R_merge 257 = .ok (.iload 4, 2) := by decide +kernel
theorem d_R_merge_259 : decode c_R_merge 259 = .ok (.aload_n 0, 1) := by decide +kernel
theorem d_R_merge_260 : decode c_R_merge 260 = .ok (.getfield 29, 3) := by decide +kernel
theorem d_R_merge_263 : decode c_R_merge 263 = .ok (.iload 5, 2) := by decide +kernel
theorem d_R_merge_265 : decode c_R_merge 265 = .ok (.iaload, 1) := by decide +kernel
theorem d_R_merge_266 : decode c_R_merge 266 = .ok (.iadd, 1) := by decide +kernel
theorem d_R_merge_267 : decode c_R_merge 267 = .ok (.istore 4, 2) := by decide +kernel
theorem d_R_merge_269 : decode c_R_merge 269 = .ok (.iinc 5 1, 3) := by decide +kernel
theorem d_R_merge_272 : decode c_R_merge 272 = .ok (.goto (-91), 3) := by decide +kernel
theorem d_R_merge_275 : decode c_R_merge 275 = .ok (.aload_n 0, 1) := by decide +kernel
theorem d_R_merge_276 : decode c_R_merge 276 = .ok (.iload_n 1, 1) := by decide +kernel
theorem d_R_merge_277 : decode c_R_merge 277 = .ok (.invokevirtual 142, 3) := by decide +kernel
theorem d_R_merge_280 : decode c_R_merge 280 = .ok (.aload_n 0, 1) := by decide +kernel
theorem d_R_merge_281 : decode c_R_merge 281 = .ok (.getfield 92, 3) := by decide +kernel
theorem d_R_merge_284 : decode c_R_merge 284 = .ok (.iconst 1, 1) := by decide +kernel
theorem d_R_merge_285 : decode c_R_merge 285 = .ok (.isub, 1) := by decide +kernel
theorem d_R_merge_286 : decode c_R_merge 286 = .ok (.istore 5, 2) := by decide +kernel
theorem d_R_merge_288 : decode c_R_merge 288 = .ok (.iload 5, 2) := by decide +kernel
theorem d_R_merge_290 : decode c_R_merge 290 = .ok (.ifCond .lt 25, 3) := by decide +kernel
theorem d_R_merge_293 : decode c_R_merge 293 = .ok (.aload_n 0, 1) := by decide +kernel
theorem d_R_merge_294 : decode c_R_merge 294 = .ok (.getfield 82, 3) := by decide +kernel
theorem d_R_merge_297 : decode c_R_merge 297 = .ok (.iload 5, 2) := by decide +kernel
theorem d_R_merge_299 : decode c_R_merge 299 = .ok (.baload, 1) := by decide +kernel
theorem d_R_merge_300 : decode c_R_merge 300 = .ok (.ifCond .eq 9, 3) := by decide +kernel
theorem d_R_merge_303 : decode c_R_merge 303 = .ok (.aload_n 0, 1) := by decide +kernel
theorem d_R_merge_304 : decode c_R_merge 304 = .ok (.iload 5, 2) := by decide +kernel
theorem d_R_merge_306 : decode c_R_merge 306 = .ok (.invokevirtual 146, 3) := by decide +kernel
theorem d_R_merge_309 : decode c_R_merge 309 = .ok (.iinc 5 (-1), 3) := by decide +kernel
theorem d_R_merge_312 : decode c_R_merge 312 = .ok (.goto (-24), 3) := by decide +kernel
theorem d_R_merge_315 : decode c_R_merge 315 = .ok (.aload_n 0, 1) := by decide +kernel
theorem d_R_merge_316 : decode c_R_merge 316 = .ok (.iload_n 1, 1) := by decide +kernel
theorem d_R_merge_317 : decode c_R_merge 317 = .ok (.invokevirtual 149, 3) := by decide +kernel
theorem d_R_merge_320 : decode c_R_merge 320 = .ok (.iconst 1, 1) := by decide +kernel
theorem d_R_merge_321 : decode c_R_merge 321 = .ok (.ireturn, 1) := by decide +kernel
theorem d_R_pick_0 : decode c_R_pick 0 = .ok (.iconst (-1), 1) := by decide +kernel
theorem d_R_pick_1 : decode c_R_pick 1 = .ok (.istore_n 2, 1) := by decide +kernel
theorem d_R_pick_2 : decode c_R_pick 2 = .ok (.iconst (-1), 1) := by decide +kernel
theorem d_R_pick_3 : decode c_R_pick 3 = .ok (.istore_n 3, 1) := by decide +kernel
theorem d_R_pick_4 : decode c_R_pick 4 = .ok (.iconst 0, 1) := by decide +kernel
theorem d_R_pick_5 : decode c_R_pick 5 = .ok (.istore 4, 2) := by decide +kernel
theorem d_R_pick_7 : decode c_R_pick 7 = .ok (.iload 4, 2) := by decide +kernel
theorem d_R_pick_9 : decode c_R_pick 9 = .ok (.aload_n 0, 1) := by decide +kernel
theorem d_R_pick_10 : decode c_R_pick 10 = .ok (.getfield 92, 3) := by decide +kernel
theorem d_R_pick_13 : decode c_R_pick 13 = .ok (.if_icmp .ge 52, 3) := by decide +kernel
theorem d_R_pick_16 : decode c_R_pick 16 = .ok (.aload_n 0, 1) := by decide +kernel
theorem d_R_pick_17 : decode c_R_pick 17 = .ok (.getfield 26, 3) := by decide +kernel
theorem d_R_pick_20 : decode c_R_pick 20 = .ok (.iload 4, 2) := by decide +kernel
theorem d_R_pick_22 : decode c_R_pick 22 = .ok (.iaload, 1) := by decide +kernel
theorem d_R_pick_23 : decode c_R_pick 23 = .ok (.iload_n 1, 1) := by decide +kernel
theorem d_R_pick_24 : decode c_R_pick 24 = .ok (.if_icmp .eq 6, 3) := by decide +kernel
theorem d_R_pick_27 : decode c_R_pick 27 = .ok (.goto 32, 3) := by decide +kernel
theorem d_R_pick_30 : decode c_R_pick 30 = .ok (.iload_n 3, 1) := by decide +kernel
theorem d_R_pick_31 : decode c_R_pick 31 = .ok (.ifCond .ge 6, 3) := by decide +kernel
theorem d_R_pick_34 : decode c_R_pick 34 = .ok (.iload 4, 2) := by decide +kernel
theorem d_R_pick_36 : decode c_R_pick 36 = .ok (.istore_n 3, 1) := by decide +kernel
theorem d_R_pick_37 : decode c_R_pick 37 = .ok (.iload_n 2, 1) := by decide +kernel
theorem d_R_pick_38 : decode c_R_pick 38 = .ok (.ifCond .ge 21, 3) := by decide +kernel
theorem d_R_pick_41 : decode c_R_pick 41 = .ok (.aload_n 0, 1) := by decide +kernel
theorem d_R_pick_42 : decode c_R_pick 42 = .ok (.iload 4, 2) := by decide +kernel
theorem d_R_pick_44 : decode c_R_pick 44 = .ok (.invokevirtual 117, 3) := by decide +kernel
theorem d_R_pick_47 : decode c_R_pick 47 = .ok (.aload_n 0, 1) := by decide +kernel
theorem d_R_pick_48 : decode c_R_pick 48 = .ok (.getfield 67, 3) := by decide +kernel
theorem d_R_pick_51 : decode c_R_pick 51 = .ok (.iload_n 1, 1) := by decide +kernel
theorem d_R_pick_52 : decode c_R_pick 52 = .ok (.iaload, 1) := by decide +kernel
theorem d_R_pick_53 : decode c_R_pick 53 = .ok (.if_icmp .le 6, 3) := by decide +kernel
theorem d_R_pick_56 : decode c_R_pick 56 = .ok (.iload 4, 2) := by decide +kernel
theorem d_R_pick_58 : decode c_R_pick 58 = .ok (.istore_n 2, 1) := by decide +kernel
theorem d_R_pick_59 : decode c_R_pick 59 = .ok (.iinc 4 1, 3) := by decide +kernel
theorem d_R_pick_62 : decode c_R_pick 62 = .ok (.goto (-55), 3) := by decide +kernel
theorem d_R_pick_65 : decode c_R_pick 65 = .ok (.iload_n 2, 1) := by decide +kernel
theorem d_R_pick_66 : decode c_R_pick 66 = .ok (.ifCond .ge 5, 3) := by decide +kernel
theorem d_R_pick_69 : decode c_R_pick 69 = .ok (.iload_n 3, 1) := by decide +kernel
theorem d_R_pick_70 : decode c_R_pick 70 = .ok (.istore_n 2, 1) := by decide +kernel
theorem d_R_pick_71 : decode c_R_pick 71 = .ok (.aload_n 0, 1) := by decide +kernel
theorem d_R_pick_72 : decode c_R_pick 72 = .ok (.getfield 82, 3) := by decide +kernel
theorem d_R_pick_75 : decode c_R_pick 75 = .ok (.iload_n 2, 1) := by decide +kernel
theorem d_R_pick_76 : decode c_R_pick 76 = .ok (.iconst 1, 1) := by decide +kernel
theorem d_R_pick_77 : decode c_R_pick 77 = .ok (.bastore, 1) := by decide +kernel
theorem d_R_pick_78 : decode c_R_pick 78 = .ok (.aload_n 0, 1) := by decide +kernel
theorem d_R_pick_79 : decode c_R_pick 79 = .ok (.iload_n 2, 1) := by decide +kernel
theorem d_R_pick_80 : decode c_R_pick 80 = .ok (.invokevirtual 120, 3) := by decide +kernel
theorem d_R_pick_83 : decode c_R_pick 83 = .ok (.ireturn, 1) := by decide +kernel
theorem d_R_tidy_0 : decode c_R_tidy 0 = .ok (.iconst 1, 1) := by decide +kernel
theorem d_R_tidy_1 : decode c_R_tidy 1 = .ok (.istore_n 1, 1) := by decide +kernel
theorem d_R_tidy_2 : decode c_R_tidy 2 = .ok (.iload_n 1, 1) := by decide +kernel
theorem d_R_tidy_3 : decode c_R_tidy 3 = .ok (.ifCond .eq 157, 3) := by decide +kernel
theorem d_R_tidy_6 : decode c_R_tidy 6 = .ok (.aload_n 0, 1) := by decide +kernel
theorem d_R_tidy_7 : decode c_R_tidy 7 = .ok (.getfield 134, 3) := by decide +kernel
theorem d_R_tidy_10 : decode c_R_tidy 10 = .ok (.ifCond .ne 150, 3) := by decide +kernel
theorem d_R_tidy_13 : decode c_R_tidy 13 = .ok (.iconst 0, 1) := by decide +kernel
theorem d_R_tidy_14 : decode c_R_tidy 14 = .ok (.istore_n 2, 1) := by decide +kernel
theorem d_R_tidy_15 : decode c_R_tidy 15 = .ok (.iload_n 2, 1) := by decide +kernel
theorem d_R_tidy_16 : decode c_R_tidy 16 = .ok (.sipush 260, 3) := by decide +kernel
theorem d_R_tidy_19 : decode c_R_tidy 19 = .ok (.if_icmp .ge 16, 3) := by decide +kernel
