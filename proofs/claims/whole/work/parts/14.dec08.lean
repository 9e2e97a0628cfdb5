/-! DECODED INSTRUCTIONS -/
theorem d_R_table_41 : decode c_R_table 41 = .ok (.invokevirtual 185, 3) := by decide +kernel
theorem d_R_table_44 : decode c_R_table 44 = .ok (.ireturn, 1) := by decide +kernel
theorem d_R_table_45 : decode c_R_table 45 = .ok (.iload_n 2, 1) := by decide +kernel
theorem d_R_table_46 : decode c_R_table 46 = .ok (.tableswitch 81 0 5 #[38, 45, 52, 59, 65, 71], 38) := by decide +kernel
theorem d_R_table_84 : decode c_R_table 84 = .ok (.aload_n 0, 1) := by decide +kernel
theorem d_R_table_85 : decode c_R_table 85 = .ok (.getfield 23, 3) := by decide +kernel
theorem d_R_table_88 : decode c_R_table 88 = .ok (.iload_n 1, 1) := by decide +kernel
theorem d_R_table_89 : decode c_R_table 89 = .ok (.iaload, 1) := by decide +kernel
theorem d_R_table_90 : decode c_R_table 90 = .ok (.ireturn, 1) := by decide +kernel
theorem d_R_table_91 : decode c_R_table 91 = .ok (.aload_n 0, 1) := by decide +kernel
theorem d_R_table_92 : decode c_R_table 92 = .ok (.getfield 26, 3) := by decide +kernel
theorem d_R_table_95 : decode c_R_table 95 = .ok (.iload_n 1, 1) := by decide +kernel
theorem d_R_table_96 : decode c_R_table 96 = .ok (.iaload, 1) := by decide +kernel
theorem d_R_table_97 : decode c_R_table 97 = .ok (.ireturn, 1) := by decide +kernel
theorem d_R_table_98 : decode c_R_table 98 = .ok (.aload_n 0, 1) := by decide +kernel
theorem d_R_table_99 : decode c_R_table 99 = .ok (.getfield 29, 3) := by decide +kernel
theorem d_R_table_102 : decode c_R_table 102 = .ok (.iload_n 1, 1) := by decide +kernel
theorem d_R_table_103 : decode c_R_table 103 = .ok (.iaload, 1) := by decide +kernel
theorem d_R_table_104 : decode c_R_table 104 = .ok (.ireturn, 1) := by decide +kernel
theorem d_R_table_105 : decode c_R_table 105 = .ok (.aload_n 0, 1) := by decide +kernel
theorem d_R_table_106 : decode c_R_table 106 = .ok (.iload_n 1, 1) := by decide +kernel
theorem d_R_table_107 : decode c_R_table 107 = .ok (.invokevirtual 117, 3) := by decide +kernel
theorem d_R_table_110 : decode c_R_table 110 = .ok (.ireturn, 1) := by decide +kernel
theorem d_R_table_111 : decode c_R_table 111 = .ok (.aload_n 0, 1) := by decide +kernel
theorem d_R_table_112 : decode c_R_table 112 = .ok (.iload_n 1, 1) := by decide +kernel
theorem d_R_table_113 : decode c_R_table 113 = .ok (.invokevirtual 120, 3) := by decide +kernel
theorem d_R_table_116 : decode c_R_table 116 = .ok (.ireturn, 1) := by decide +kernel
theorem d_R_table_117 : decode c_R_table 117 = .ok (.aload_n 0, 1) := by decide +kernel
theorem d_R_table_118 : decode c_R_table 118 = .ok (.getfield 32, 3) := by decide +kernel
theorem d_R_table_121 : decode c_R_table 121 = .ok (.iload_n 1, 1) := by decide +kernel
theorem d_R_table_122 : decode c_R_table 122 = .ok (.laload, 1) := by decide +kernel
theorem d_R_table_123 : decode c_R_table 123 = .ok (.invokestatic 250, 3) := by decide +kernel
theorem d_R_table_126 : decode c_R_table 126 = .ok (.ireturn, 1) := by decide +kernel
theorem d_R_table_127 : decode c_R_table 127 = .ok (.iload_n 2, 1) := by decide +kernel
theorem d_R_table_128 : decode c_R_table 128 = .ok (.bipush 6, 2) := by decide +kernel
theorem d_R_table_130 : decode c_R_table 130 = .ok (.isub, 1) := by decide +kernel
theorem d_R_table_131 : decode c_R_table 131 = .ok (.aload_n 0, 1) := by decide +kernel
theorem d_R_table_132 : decode c_R_table 132 = .ok (.getfield 29, 3) := by decide +kernel
theorem d_R_table_135 : decode c_R_table 135 = .ok (.iload_n 1, 1) := by decide +kernel
theorem d_R_table_136 : decode c_R_table 136 = .ok (.iaload, 1) := by decide +kernel
theorem d_R_table_137 : decode c_R_table 137 = .ok (.if_icmp .ge 21, 3) := by decide +kernel
theorem d_R_table_140 : decode c_R_table 140 = .ok (.aload_n 0, 1) := by decide +kernel
theorem d_R_table_141 : decode c_R_table 141 = .ok (.getfield 13, 3) := by decide +kernel
theorem d_R_table_144 : decode c_R_table 144 = .ok (.aload_n 0, 1) := by decide +kernel
theorem d_R_table_145 : decode c_R_table 145 = .ok (.iload_n 1, 1) := by decide +kernel
theorem d_R_table_146 : decode c_R_table 146 = .ok (.invokevirtual 88, 3) := by decide +kernel
theorem d_R_table_149 : decode c_R_table 149 = .ok (.iload_n 2, 1) := by decide +kernel
theorem d_R_table_150 : decode c_R_table 150 = .ok (.iadd, 1) := by decide +kernel
theorem d_R_table_151 : decode c_R_table 151 = .ok (.bipush 6, 2) := by decide +kernel
theorem d_R_table_153 : decode c_R_table 153 = .ok (.isub, 1) := by decide +kernel
theorem d_R_table_154 : decode c_R_table 154 = .ok (.iaload, 1) := by decide +kernel
theorem d_R_table_155 : decode c_R_table 155 = .ok (.goto 4, 3) := by decide +kernel
theorem d_R_table_158 : decode c_R_table 158 = .ok (.iconst 0, 1) := by decide +kernel
theorem d_R_table_159 : decode c_R_table 159 = .ok (.ireturn, 1) := by decide +kernel
theorem d_R_count_0 : decode c_R_count 0 = .ok (.aload_n 0, 1) := by decide +kernel
theorem d_R_count_1 : decode c_R_count 1 = .ok (.iconst 0, 1) := by decide +kernel
theorem d_R_count_2 : decode c_R_count 2 = .ok (.putfield 85, 3) := by decide +kernel
theorem d_R_count_5 : decode c_R_count 5 = .ok (.iload_n 1, 1) := by decide +kernel
theorem d_R_count_6 : decode c_R_count 6 = .ok (.bipush 11, 2) := by decide +kernel
theorem d_R_count_8 : decode c_R_count 8 = .ok (.bipush 14, 2) := by decide +kernel
theorem d_R_count_10 : decode c_R_count 10 = .ok (.invokestatic 181, 3) := by decide +kernel
theorem d_R_count_13 : decode c_R_count 13 = .ok (.ifCond .eq 12, 3) := by decide +kernel
theorem d_R_count_16 : decode c_R_count 16 = .ok (.aload_n 0, 1) := by decide +kernel
theorem d_R_count_17 : decode c_R_count 17 = .ok (.iload_n 1, 1) := by decide +kernel
theorem d_R_count_18 : decode c_R_count 18 = .ok (.bipush 11, 2) := by decide +kernel
theorem d_R_count_20 : decode c_R_count 20 = .ok (.isub, 1) := by decide +kernel
theorem d_R_count_21 : decode c_R_count 21 = .ok (.invokevirtual 156, 3) := by decide +kernel
theorem d_R_count_24 : decode c_R_count 24 = .ok (.ireturn, 1) := by decide +kernel
theorem d_R_count_25 : decode c_R_count 25 = .ok (.iload_n 1, 1) := by decide +kernel
theorem d_R_count_26 : decode c_R_count 26 = .ok (.tableswitch 155 0 16 #[82, 87, 92, 97, 102, 107, 120, 125, 130, 135, 140, 155, 155, 155, 155, 145, 145], 82) := by decide +kernel
theorem d_R_count_108 : decode c_R_count 108 = .ok (.aload_n 0, 1) := by decide +kernel
theorem d_R_count_109 : decode c_R_count 109 = .ok (.getfield 114, 3) := by decide +kernel
theorem d_R_count_112 : decode c_R_count 112 = .ok (.ireturn, 1) := by decide +kernel
theorem d_R_count_113 : decode c_R_count 113 = .ok (.aload_n 0, 1) := by decide +kernel
theorem d_R_count_114 : decode c_R_count 114 = .ok (.getfield 166, 3) := by decide +kernel
theorem d_R_count_117 : decode c_R_count 117 = .ok (.ireturn, 1) := by decide +kernel
theorem d_R_count_118 : decode c_R_count 118 = .ok (.aload_n 0, 1) := by decide +kernel
theorem d_R_count_119 : decode c_R_count 119 = .ok (.getfield 169, 3) := by decide +kernel
theorem d_R_count_122 : decode c_R_count 122 = .ok (.ireturn, 1) := by decide +kernel
theorem d_R_count_123 : decode c_R_count 123 = .ok (.aload_n 0, 1) := by decide +kernel
theorem d_R_count_124 : decode c_R_count 124 = .ok (.getfield 172, 3) := by decide +kernel
theorem d_R_count_127 : decode c_R_count 127 = .ok (.ireturn, 1) := by decide +kernel
theorem d_R_count_128 : decode c_R_count 128 = .ok (.aload_n 0, 1) := by decide +kernel
theorem d_R_count_129 : decode c_R_count 129 = .ok (.getfield 92, 3) := by decide +kernel
theorem d_R_count_132 : decode c_R_count 132 = .ok (.ireturn, 1) := by decide +kernel
theorem d_R_count_133 : decode c_R_count 133 = .ok (.aload_n 0, 1) := by decide +kernel
theorem d_R_count_134 : decode c_R_count 134 = .ok (.getfield 134, 3) := by decide +kernel
theorem d_R_count_137 : decode c_R_count 137 = .ok (.ifCond .eq 7, 3) := by decide +kernel
theorem d_R_count_140 : decode c_R_count 140 = .ok (.iconst 1, 1) := by decide +kernel
theorem d_R_count_141 : decode c_R_count 141 = .ok (.goto 4, 3) := by decide +kernel
theorem d_R_count_144 : decode c_R_count 144 = .ok (.iconst 0, 1) := by decide +kernel
theorem d_R_count_145 : decode c_R_count 145 = .ok (.ireturn, 1) := by decide +kernel
theorem d_R_count_146 : decode c_R_count 146 = .ok (.aload_n 0, 1) := by decide +kernel
theorem d_R_count_147 : decode c_R_count 147 = .ok (.getfield 211, 3) := by decide +kernel
theorem d_R_count_150 : decode c_R_count 150 = .ok (.ireturn, 1) := by decide +kernel
theorem d_R_count_151 : decode c_R_count 151 = .ok (.aload_n 0, 1) := by decide +kernel
theorem d_R_count_152 : decode c_R_count 152 = .ok (.getfield 224, 3) := by decide +kernel
theorem d_R_count_155 : decode c_R_count 155 = .ok (.ireturn, 1) := by decide +kernel
theorem d_R_count_156 : decode c_R_count 156 = .ok (.aload_n 0, 1) := by decide +kernel
theorem d_R_count_157 : decode c_R_count 157 = .ok (.getfield 227, 3) := by decide +kernel
theorem d_R_count_160 : decode c_R_count 160 = .ok (.ireturn, 1) := by decide +kernel
theorem d_R_count_161 : decode c_R_count 161 = .ok (.aload_n 0, 1) := by decide +kernel
theorem d_R_count_162 : decode c_R_count 162 = .ok (.getfield 105, 3) := by decide +kernel
theorem d_R_count_165 : decode c_R_count 165 = .ok (.ireturn, 1) := by decide +kernel
theorem d_R_count_166 : decode c_R_count 166 = .ok (.aload_n 0, 1) := by decide +kernel
theorem d_R_count_167 : decode c_R_count 167 = .ok (.getfield 131, 3) := by decide +kernel
theorem d_R_count_170 : decode c_R_count 170 = .ok (.ireturn, 1) := by decide +kernel
theorem d_R_count_171 : decode c_R_count 171 = .ok (.aload_n 0, 1) := by decide +kernel
theorem d_R_count_172 : decode c_R_count 172 = .ok (.getfield 67, 3) := by decide +kernel
theorem d_R_count_175 : decode c_R_count 175 = .ok (.iload_n 1, 1) := by decide +kernel
theorem d_R_count_176 : decode c_R_count 176 = .ok (.bipush 14, 2) := by decide +kernel
theorem d_R_count_178 : decode c_R_count 178 = .ok (.isub, 1) := by decide +kernel
theorem d_R_count_179 : decode c_R_count 179 = .ok (.iaload, 1) := by decide +kernel
theorem d_R_count_180 : decode c_R_count 180 = .ok (.ireturn, 1) := by decide +kernel
theorem d_R_count_181 : decode c_R_count 181 = .ok (.aload_n 0, 1) := by decide +kernel
theorem d_R_count_182 : decode c_R_count 182 = .ok (.iconst 1, 1) := by decide +kernel
theorem d_R_count_183 : decode c_R_count 183 = .ok (.invokevirtual 185, 3) := by decide +kernel
theorem d_R_count_186 : decode c_R_count 186 = .ok (.ireturn, 1) := by decide +kernel
