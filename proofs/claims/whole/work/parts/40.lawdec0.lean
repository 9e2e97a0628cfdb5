/-! DECODED INSTRUCTIONS OF THE LAW -/
theorem d_W_law_0 : decode code 0 = .ok (.new 8, 3) := by decide +kernel
theorem d_W_law_3 : decode code 3 = .ok (.dup, 1) := by decide +kernel
theorem d_W_law_4 : decode code 4 = .ok (.invokespecial 68, 3) := by decide +kernel
theorem d_W_law_7 : decode code 7 = .ok (.astore_n 1, 1) := by decide +kernel
theorem d_W_law_8 : decode code 8 = .ok (.new 69, 3) := by decide +kernel
theorem d_W_law_11 : decode code 11 = .ok (.dup, 1) := by decide +kernel
theorem d_W_law_12 : decode code 12 = .ok (.invokespecial 71, 3) := by decide +kernel
theorem d_W_law_15 : decode code 15 = .ok (.astore_n 2, 1) := by decide +kernel
theorem d_W_law_16 : decode code 16 = .ok (.iconst 1, 1) := by decide +kernel
theorem d_W_law_17 : decode code 17 = .ok (.newarray .long, 2) := by decide +kernel
theorem d_W_law_19 : decode code 19 = .ok (.astore_n 3, 1) := by decide +kernel
theorem d_W_law_20 : decode code 20 = .ok (.iconst 1, 1) := by decide +kernel
theorem d_W_law_21 : decode code 21 = .ok (.newarray .double, 2) := by decide +kernel
theorem d_W_law_23 : decode code 23 = .ok (.astore 4, 2) := by decide +kernel
theorem d_W_law_25 : decode code 25 = .ok (.iconst 0, 1) := by decide +kernel
theorem d_W_law_26 : decode code 26 = .ok (.istore 5, 2) := by decide +kernel
theorem d_W_law_28 : decode code 28 = .ok (.iload 5, 2) := by decide +kernel
theorem d_W_law_30 : decode code 30 = .ok (.aload_n 0, 1) := by decide +kernel
theorem d_W_law_31 : decode code 31 = .ok (.arraylength, 1) := by decide +kernel
theorem d_W_law_32 : decode code 32 = .ok (.iconst 3, 1) := by decide +kernel
theorem d_W_law_33 : decode code 33 = .ok (.isub, 1) := by decide +kernel
theorem d_W_law_34 : decode code 34 = .ok (.if_icmp .gt 955, 3) := by decide +kernel
theorem d_W_law_37 : decode code 37 = .ok (.aload_n 0, 1) := by decide +kernel
theorem d_W_law_38 : decode code 38 = .ok (.iload 5, 2) := by decide +kernel
theorem d_W_law_40 : decode code 40 = .ok (.iaload, 1) := by decide +kernel
theorem d_W_law_41 : decode code 41 = .ok (.bipush 15, 2) := by decide +kernel
theorem d_W_law_43 : decode code 43 = .ok (.iand, 1) := by decide +kernel
theorem d_W_law_44 : decode code 44 = .ok (.tableswitch 939 0 15 #[80, 148, 204, 248, 320, 333, 389, 433, 501, 569, 613, 669, 737, 750, 815, 883], 80) := by decide +kernel
theorem d_W_law_124 : decode code 124 = .ok (.aload_n 1, 1) := by decide +kernel
theorem d_W_law_125 : decode code 125 = .ok (.aload_n 0, 1) := by decide +kernel
theorem d_W_law_126 : decode code 126 = .ok (.iload 5, 2) := by decide +kernel
theorem d_W_law_128 : decode code 128 = .ok (.iconst 1, 1) := by decide +kernel
theorem d_W_law_129 : decode code 129 = .ok (.iadd, 1) := by decide +kernel
theorem d_W_law_130 : decode code 130 = .ok (.iaload, 1) := by decide +kernel
theorem d_W_law_131 : decode code 131 = .ok (.aload_n 0, 1) := by decide +kernel
theorem d_W_law_132 : decode code 132 = .ok (.iload 5, 2) := by decide +kernel
theorem d_W_law_134 : decode code 134 = .ok (.iconst 2, 1) := by decide +kernel
theorem d_W_law_135 : decode code 135 = .ok (.iadd, 1) := by decide +kernel
theorem d_W_law_136 : decode code 136 = .ok (.iaload, 1) := by decide +kernel
theorem d_W_law_137 : decode code 137 = .ok (.aload_n 3, 1) := by decide +kernel
theorem d_W_law_138 : decode code 138 = .ok (.invokestatic 72, 3) := by decide +kernel
theorem d_W_law_141 : decode code 141 = .ok (.istore 6, 2) := by decide +kernel
theorem d_W_law_143 : decode code 143 = .ok (.aload_n 2, 1) := by decide +kernel
theorem d_W_law_144 : decode code 144 = .ok (.aload_n 0, 1) := by decide +kernel
theorem d_W_law_145 : decode code 145 = .ok (.iload 5, 2) := by decide +kernel
theorem d_W_law_147 : decode code 147 = .ok (.iconst 1, 1) := by decide +kernel
theorem d_W_law_148 : decode code 148 = .ok (.iadd, 1) := by decide +kernel
theorem d_W_law_149 : decode code 149 = .ok (.iaload, 1) := by decide +kernel
theorem d_W_law_150 : decode code 150 = .ok (.aload_n 0, 1) := by decide +kernel
theorem d_W_law_151 : decode code 151 = .ok (.iload 5, 2) := by decide +kernel
theorem d_W_law_153 : decode code 153 = .ok (.iconst 2, 1) := by decide +kernel
theorem d_W_law_154 : decode code 154 = .ok (.iadd, 1) := by decide +kernel
theorem d_W_law_155 : decode code 155 = .ok (.iaload, 1) := by decide +kernel
theorem d_W_law_156 : decode code 156 = .ok (.invokevirtual 77, 3) := by decide +kernel
theorem d_W_law_159 : decode code 159 = .ok (.istore 7, 2) := by decide +kernel
theorem d_W_law_161 : decode code 161 = .ok (.aload_n 2, 1) := by decide +kernel
theorem d_W_law_162 : decode code 162 = .ok (.invokevirtual 78, 3) := by decide +kernel
theorem d_W_law_165 : decode code 165 = .ok (.iload 6, 2) := by decide +kernel
theorem d_W_law_167 : decode code 167 = .ok (.if_icmp .eq 5, 3) := by decide +kernel
theorem d_W_law_170 : decode code 170 = .ok (.iconst 0, 1) := by decide +kernel
theorem d_W_law_171 : decode code 171 = .ok (.ireturn, 1) := by decide +kernel
theorem d_W_law_172 : decode code 172 = .ok (.iload 6, 2) := by decide +kernel
theorem d_W_law_174 : decode code 174 = .ok (.ifCond .ne 15, 3) := by decide +kernel
theorem d_W_law_177 : decode code 177 = .ok (.aload_n 3, 1) := by decide +kernel
theorem d_W_law_178 : decode code 178 = .ok (.iconst 0, 1) := by decide +kernel
theorem d_W_law_179 : decode code 179 = .ok (.laload, 1) := by decide +kernel
theorem d_W_law_180 : decode code 180 = .ok (.iload 7, 2) := by decide +kernel
theorem d_W_law_182 : decode code 182 = .ok (.i2l, 1) := by decide +kernel
theorem d_W_law_183 : decode code 183 = .ok (.lcmp, 1) := by decide +kernel
theorem d_W_law_184 : decode code 184 = .ok (.ifCond .eq 5, 3) := by decide +kernel
theorem d_W_law_187 : decode code 187 = .ok (.iconst 0, 1) := by decide +kernel
theorem d_W_law_188 : decode code 188 = .ok (.ireturn, 1) := by decide +kernel
theorem d_W_law_189 : decode code 189 = .ok (.goto 794, 3) := by decide +kernel
theorem d_W_law_192 : decode code 192 = .ok (.aload_n 1, 1) := by decide +kernel
theorem d_W_law_193 : decode code 193 = .ok (.aload_n 0, 1) := by decide +kernel
