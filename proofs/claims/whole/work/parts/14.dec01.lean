/-! DECODED INSTRUCTIONS -/
theorem d_O_addSorted_121 : decode c_O_addSorted 121 = .ok (.iadd, 1) := by decide +kernel
theorem d_O_addSorted_122 : decode c_O_addSorted 122 = .ok (.iastore, 1) := by decide +kernel
theorem d_O_addSorted_123 : decode c_O_addSorted 123 = .ok (.iinc 2 1, 3) := by decide +kernel
theorem d_O_addSorted_126 : decode c_O_addSorted 126 = .ok (.goto (-46), 3) := by decide +kernel
theorem d_O_addSorted_129 : decode c_O_addSorted 129 = .ok (.iconst 0, 1) := by decide +kernel
theorem d_O_addSorted_130 : decode c_O_addSorted 130 = .ok (.istore_n 2, 1) := by decide +kernel
theorem d_O_addSorted_131 : decode c_O_addSorted 131 = .ok (.iload_n 2, 1) := by decide +kernel
theorem d_O_addSorted_132 : decode c_O_addSorted 132 = .ok (.aload_n 0, 1) := by decide +kernel
theorem d_O_addSorted_133 : decode c_O_addSorted 133 = .ok (.getfield 14, 3) := by decide +kernel
theorem d_O_addSorted_136 : decode c_O_addSorted 136 = .ok (.getfield 33, 3) := by decide +kernel
theorem d_O_addSorted_139 : decode c_O_addSorted 139 = .ok (.if_icmp .ge 23, 3) := by decide +kernel
theorem d_O_addSorted_142 : decode c_O_addSorted 142 = .ok (.aload_n 1, 1) := by decide +kernel
theorem d_O_addSorted_143 : decode c_O_addSorted 143 = .ok (.aload_n 0, 1) := by decide +kernel
theorem d_O_addSorted_144 : decode c_O_addSorted 144 = .ok (.getfield 14, 3) := by decide +kernel
theorem d_O_addSorted_147 : decode c_O_addSorted 147 = .ok (.aload_n 0, 1) := by decide +kernel
theorem d_O_addSorted_148 : decode c_O_addSorted 148 = .ok (.getfield 24, 3) := by decide +kernel
theorem d_O_addSorted_151 : decode c_O_addSorted 151 = .ok (.iload_n 2, 1) := by decide +kernel
theorem d_O_addSorted_152 : decode c_O_addSorted 152 = .ok (.iaload, 1) := by decide +kernel
theorem d_O_addSorted_153 : decode c_O_addSorted 153 = .ok (.invokevirtual 40, 3) := by decide +kernel
theorem d_O_addSorted_156 : decode c_O_addSorted 156 = .ok (.iinc 2 1, 3) := by decide +kernel
theorem d_O_addSorted_159 : decode c_O_addSorted 159 = .ok (.goto (-28), 3) := by decide +kernel
theorem d_O_addSorted_162 : decode c_O_addSorted 162 = .ok (.return_, 1) := by decide +kernel
theorem d_V_sortJoining_0 : decode c_V_sortJoining 0 = .ok (.aload_n 0, 1) := by decide +kernel
theorem d_V_sortJoining_1 : decode c_V_sortJoining 1 = .ok (.getfield 24, 3) := by decide +kernel
theorem d_V_sortJoining_4 : decode c_V_sortJoining 4 = .ok (.getfield 53, 3) := by decide +kernel
theorem d_V_sortJoining_7 : decode c_V_sortJoining 7 = .ok (.iconst 0, 1) := by decide +kernel
theorem d_V_sortJoining_8 : decode c_V_sortJoining 8 = .ok (.putfield 56, 3) := by decide +kernel
theorem d_V_sortJoining_11 : decode c_V_sortJoining 11 = .ok (.iconst 0, 1) := by decide +kernel
theorem d_V_sortJoining_12 : decode c_V_sortJoining 12 = .ok (.istore_n 1, 1) := by decide +kernel
theorem d_V_sortJoining_13 : decode c_V_sortJoining 13 = .ok (.iload_n 1, 1) := by decide +kernel
theorem d_V_sortJoining_14 : decode c_V_sortJoining 14 = .ok (.aload_n 0, 1) := by decide +kernel
theorem d_V_sortJoining_15 : decode c_V_sortJoining 15 = .ok (.getfield 12, 3) := by decide +kernel
theorem d_V_sortJoining_18 : decode c_V_sortJoining 18 = .ok (.getfield 77, 3) := by decide +kernel
theorem d_V_sortJoining_21 : decode c_V_sortJoining 21 = .ok (.if_icmp .ge 67, 3) := by decide +kernel
theorem d_V_sortJoining_24 : decode c_V_sortJoining 24 = .ok (.aload_n 0, 1) := by decide +kernel
theorem d_V_sortJoining_25 : decode c_V_sortJoining 25 = .ok (.getfield 12, 3) := by decide +kernel
theorem d_V_sortJoining_28 : decode c_V_sortJoining 28 = .ok (.getfield 87, 3) := by decide +kernel
theorem d_V_sortJoining_31 : decode c_V_sortJoining 31 = .ok (.iload_n 1, 1) := by decide +kernel
theorem d_V_sortJoining_32 : decode c_V_sortJoining 32 = .ok (.iaload, 1) := by decide +kernel
theorem d_V_sortJoining_33 : decode c_V_sortJoining 33 = .ok (.istore_n 2, 1) := by decide +kernel
theorem d_V_sortJoining_34 : decode c_V_sortJoining 34 = .ok (.aload_n 0, 1) := by decide +kernel
theorem d_V_sortJoining_35 : decode c_V_sortJoining 35 = .ok (.getfield 37, 3) := by decide +kernel
theorem d_V_sortJoining_38 : decode c_V_sortJoining 38 = .ok (.iload_n 1, 1) := by decide +kernel
theorem d_V_sortJoining_39 : decode c_V_sortJoining 39 = .ok (.baload, 1) := by decide +kernel
theorem d_V_sortJoining_40 : decode c_V_sortJoining 40 = .ok (.ifCond .eq 42, 3) := by decide +kernel
theorem d_V_sortJoining_43 : decode c_V_sortJoining 43 = .ok (.iload_n 2, 1) := by decide +kernel
theorem d_V_sortJoining_44 : decode c_V_sortJoining 44 = .ok (.aload_n 0, 1) := by decide +kernel
theorem d_V_sortJoining_45 : decode c_V_sortJoining 45 = .ok (.getfield 12, 3) := by decide +kernel
theorem d_V_sortJoining_48 : decode c_V_sortJoining 48 = .ok (.getfield 87, 3) := by decide +kernel
theorem d_V_sortJoining_51 : decode c_V_sortJoining 51 = .ok (.iload_n 1, 1) := by decide +kernel
theorem d_V_sortJoining_52 : decode c_V_sortJoining 52 = .ok (.iconst 1, 1) := by decide +kernel
theorem d_V_sortJoining_53 : decode c_V_sortJoining 53 = .ok (.iadd, 1) := by decide +kernel
theorem d_V_sortJoining_54 : decode c_V_sortJoining 54 = .ok (.iaload, 1) := by decide +kernel
theorem d_V_sortJoining_55 : decode c_V_sortJoining 55 = .ok (.if_icmp .ge 27, 3) := by decide +kernel
theorem d_V_sortJoining_58 : decode c_V_sortJoining 58 = .ok (.aload_n 0, 1) := by decide +kernel
theorem d_V_sortJoining_59 : decode c_V_sortJoining 59 = .ok (.getfield 24, 3) := by decide +kernel
theorem d_V_sortJoining_62 : decode c_V_sortJoining 62 = .ok (.getfield 53, 3) := by decide +kernel
theorem d_V_sortJoining_65 : decode c_V_sortJoining 65 = .ok (.aload_n 0, 1) := by decide +kernel
theorem d_V_sortJoining_66 : decode c_V_sortJoining 66 = .ok (.getfield 12, 3) := by decide +kernel
theorem d_V_sortJoining_69 : decode c_V_sortJoining 69 = .ok (.getfield 67, 3) := by decide +kernel
theorem d_V_sortJoining_72 : decode c_V_sortJoining 72 = .ok (.iload_n 2, 1) := by decide +kernel
theorem d_V_sortJoining_73 : decode c_V_sortJoining 73 = .ok (.invokevirtual 60, 3) := by decide +kernel
theorem d_V_sortJoining_76 : decode c_V_sortJoining 76 = .ok (.iinc 2 1, 3) := by decide +kernel
theorem d_V_sortJoining_79 : decode c_V_sortJoining 79 = .ok (.goto (-45), 3) := by decide +kernel
theorem d_V_sortJoining_82 : decode c_V_sortJoining 82 = .ok (.iinc 1 1, 3) := by decide +kernel
theorem d_V_sortJoining_85 : decode c_V_sortJoining 85 = .ok (.goto (-72), 3) := by decide +kernel
theorem d_V_sortJoining_88 : decode c_V_sortJoining 88 = .ok (.aload_n 0, 1) := by decide +kernel
theorem d_V_sortJoining_89 : decode c_V_sortJoining 89 = .ok (.getfield 33, 3) := by decide +kernel
theorem d_V_sortJoining_92 : decode c_V_sortJoining 92 = .ok (.iconst 0, 1) := by decide +kernel
theorem d_V_sortJoining_93 : decode c_V_sortJoining 93 = .ok (.putfield 56, 3) := by decide +kernel
theorem d_V_sortJoining_96 : decode c_V_sortJoining 96 = .ok (.aload_n 0, 1) := by decide +kernel
theorem d_V_sortJoining_97 : decode c_V_sortJoining 97 = .ok (.getfield 24, 3) := by decide +kernel
theorem d_V_sortJoining_100 : decode c_V_sortJoining 100 = .ok (.aload_n 0, 1) := by decide +kernel
theorem d_V_sortJoining_101 : decode c_V_sortJoining 101 = .ok (.getfield 33, 3) := by decide +kernel
theorem d_V_sortJoining_104 : decode c_V_sortJoining 104 = .ok (.invokevirtual 70, 3) := by decide +kernel
theorem d_V_sortJoining_107 : decode c_V_sortJoining 107 = .ok (.return_, 1) := by decide +kernel
theorem d_S_placeBehind_0 : decode c_S_placeBehind 0 = .ok (.iconst 0, 1) := by decide +kernel
theorem d_S_placeBehind_1 : decode c_S_placeBehind 1 = .ok (.istore_n 3, 1) := by decide +kernel
theorem d_S_placeBehind_2 : decode c_S_placeBehind 2 = .ok (.iload_n 3, 1) := by decide +kernel
theorem d_S_placeBehind_3 : decode c_S_placeBehind 3 = .ok (.aload_n 0, 1) := by decide +kernel
theorem d_S_placeBehind_4 : decode c_S_placeBehind 4 = .ok (.getfield 34, 3) := by decide +kernel
theorem d_S_placeBehind_7 : decode c_S_placeBehind 7 = .ok (.if_icmp .ge 38, 3) := by decide +kernel
theorem d_S_placeBehind_10 : decode c_S_placeBehind 10 = .ok (.aload_n 0, 1) := by decide +kernel
theorem d_S_placeBehind_11 : decode c_S_placeBehind 11 = .ok (.getfield 24, 3) := by decide +kernel
theorem d_S_placeBehind_14 : decode c_S_placeBehind 14 = .ok (.iload_n 3, 1) := by decide +kernel
theorem d_S_placeBehind_15 : decode c_S_placeBehind 15 = .ok (.iaload, 1) := by decide +kernel
theorem d_S_placeBehind_16 : decode c_S_placeBehind 16 = .ok (.iload_n 1, 1) := by decide +kernel
theorem d_S_placeBehind_17 : decode c_S_placeBehind 17 = .ok (.if_icmp .lt 22, 3) := by decide +kernel
theorem d_S_placeBehind_20 : decode c_S_placeBehind 20 = .ok (.aload_n 0, 1) := by decide +kernel
theorem d_S_placeBehind_21 : decode c_S_placeBehind 21 = .ok (.getfield 24, 3) := by decide +kernel
theorem d_S_placeBehind_24 : decode c_S_placeBehind 24 = .ok (.iload_n 3, 1) := by decide +kernel
theorem d_S_placeBehind_25 : decode c_S_placeBehind 25 = .ok (.iaload, 1) := by decide +kernel
theorem d_S_placeBehind_26 : decode c_S_placeBehind 26 = .ok (.iload_n 1, 1) := by decide +kernel
theorem d_S_placeBehind_27 : decode c_S_placeBehind 27 = .ok (.if_icmp .ne 18, 3) := by decide +kernel
theorem d_S_placeBehind_30 : decode c_S_placeBehind 30 = .ok (.aload_n 0, 1) := by decide +kernel
theorem d_S_placeBehind_31 : decode c_S_placeBehind 31 = .ok (.iload_n 3, 1) := by decide +kernel
theorem d_S_placeBehind_32 : decode c_S_placeBehind 32 = .ok (.invokevirtual 48, 3) := by decide +kernel
theorem d_S_placeBehind_35 : decode c_S_placeBehind 35 = .ok (.iload_n 2, 1) := by decide +kernel
theorem d_S_placeBehind_36 : decode c_S_placeBehind 36 = .ok (.if_icmp .gt 9, 3) := by decide +kernel
theorem d_S_placeBehind_39 : decode c_S_placeBehind 39 = .ok (.iinc 3 1, 3) := by decide +kernel
theorem d_S_placeBehind_42 : decode c_S_placeBehind 42 = .ok (.goto (-40), 3) := by decide +kernel
theorem d_S_placeBehind_45 : decode c_S_placeBehind 45 = .ok (.iload_n 3, 1) := by decide +kernel
theorem d_S_placeBehind_46 : decode c_S_placeBehind 46 = .ok (.ireturn, 1) := by decide +kernel
theorem d_S_addTable_0 : decode c_S_addTable 0 = .ok (.aload_n 1, 1) := by decide +kernel
theorem d_S_addTable_1 : decode c_S_addTable 1 = .ok (.getfield 27, 3) := by decide +kernel
theorem d_S_addTable_4 : decode c_S_addTable 4 = .ok (.iload_n 2, 1) := by decide +kernel
theorem d_S_addTable_5 : decode c_S_addTable 5 = .ok (.iaload, 1) := by decide +kernel
theorem d_S_addTable_6 : decode c_S_addTable 6 = .ok (.istore_n 3, 1) := by decide +kernel
theorem d_S_addTable_7 : decode c_S_addTable 7 = .ok (.iload_n 3, 1) := by decide +kernel
theorem d_S_addTable_8 : decode c_S_addTable 8 = .ok (.aload_n 1, 1) := by decide +kernel
theorem d_S_addTable_9 : decode c_S_addTable 9 = .ok (.getfield 27, 3) := by decide +kernel
theorem d_S_addTable_12 : decode c_S_addTable 12 = .ok (.iload_n 2, 1) := by decide +kernel
theorem d_S_addTable_13 : decode c_S_addTable 13 = .ok (.iconst 1, 1) := by decide +kernel
theorem d_S_addTable_14 : decode c_S_addTable 14 = .ok (.iadd, 1) := by decide +kernel
theorem d_S_addTable_15 : decode c_S_addTable 15 = .ok (.iaload, 1) := by decide +kernel
theorem d_S_addTable_16 : decode c_S_addTable 16 = .ok (.if_icmp .ge 21, 3) := by decide +kernel
theorem d_S_addTable_19 : decode c_S_addTable 19 = .ok (.aload_n 0, 1) := by decide +kernel
theorem d_S_addTable_20 : decode c_S_addTable 20 = .ok (.getfield 14, 3) := by decide +kernel
theorem d_S_addTable_23 : decode c_S_addTable 23 = .ok (.aload_n 1, 1) := by decide +kernel
theorem d_S_addTable_24 : decode c_S_addTable 24 = .ok (.getfield 14, 3) := by decide +kernel
theorem d_S_addTable_27 : decode c_S_addTable 27 = .ok (.iload_n 3, 1) := by decide +kernel
theorem d_S_addTable_28 : decode c_S_addTable 28 = .ok (.invokevirtual 37, 3) := by decide +kernel
theorem d_S_addTable_31 : decode c_S_addTable 31 = .ok (.iinc 3 1, 3) := by decide +kernel
theorem d_S_addTable_34 : decode c_S_addTable 34 = .ok (.goto (-27), 3) := by decide +kernel
theorem d_S_addTable_37 : decode c_S_addTable 37 = .ok (.aload_n 0, 1) := by decide +kernel
theorem d_S_addTable_38 : decode c_S_addTable 38 = .ok (.aload_n 1, 1) := by decide +kernel
theorem d_S_addTable_39 : decode c_S_addTable 39 = .ok (.getfield 20, 3) := by decide +kernel
theorem d_S_addTable_42 : decode c_S_addTable 42 = .ok (.iload_n 2, 1) := by decide +kernel
theorem d_S_addTable_43 : decode c_S_addTable 43 = .ok (.iaload, 1) := by decide +kernel
theorem d_S_addTable_44 : decode c_S_addTable 44 = .ok (.aload_n 1, 1) := by decide +kernel
theorem d_S_addTable_45 : decode c_S_addTable 45 = .ok (.getfield 24, 3) := by decide +kernel
theorem d_S_addTable_48 : decode c_S_addTable 48 = .ok (.iload_n 2, 1) := by decide +kernel
theorem d_S_addTable_49 : decode c_S_addTable 49 = .ok (.iaload, 1) := by decide +kernel
theorem d_S_addTable_50 : decode c_S_addTable 50 = .ok (.invokevirtual 41, 3) := by decide +kernel
theorem d_S_addTable_53 : decode c_S_addTable 53 = .ok (.return_, 1) := by decide +kernel
theorem d_V_addStaying_0 : decode c_V_addStaying 0 = .ok (.iload_n 1, 1) := by decide +kernel
theorem d_V_addStaying_1 : decode c_V_addStaying 1 = .ok (.istore_n 3, 1) := by decide +kernel
theorem d_V_addStaying_2 : decode c_V_addStaying 2 = .ok (.iload_n 3, 1) := by decide +kernel
theorem d_V_addStaying_3 : decode c_V_addStaying 3 = .ok (.iload_n 2, 1) := by decide +kernel
theorem d_V_addStaying_4 : decode c_V_addStaying 4 = .ok (.if_icmp .ge 30, 3) := by decide +kernel
theorem d_V_addStaying_7 : decode c_V_addStaying 7 = .ok (.aload_n 0, 1) := by decide +kernel
theorem d_V_addStaying_8 : decode c_V_addStaying 8 = .ok (.getfield 37, 3) := by decide +kernel
theorem d_V_addStaying_11 : decode c_V_addStaying 11 = .ok (.iload_n 3, 1) := by decide +kernel
theorem d_V_addStaying_12 : decode c_V_addStaying 12 = .ok (.baload, 1) := by decide +kernel
theorem d_V_addStaying_13 : decode c_V_addStaying 13 = .ok (.ifCond .ne 15, 3) := by decide +kernel
theorem d_V_addStaying_16 : decode c_V_addStaying 16 = .ok (.aload_n 0, 1) := by decide +kernel
theorem d_V_addStaying_17 : decode c_V_addStaying 17 = .ok (.getfield 18, 3) := by decide +kernel
theorem d_V_addStaying_20 : decode c_V_addStaying 20 = .ok (.aload_n 0, 1) := by decide +kernel
theorem d_V_addStaying_21 : decode c_V_addStaying 21 = .ok (.getfield 12, 3) := by decide +kernel
theorem d_V_addStaying_24 : decode c_V_addStaying 24 = .ok (.iload_n 3, 1) := by decide +kernel
theorem d_V_addStaying_25 : decode c_V_addStaying 25 = .ok (.invokevirtual 80, 3) := by decide +kernel
theorem d_V_addStaying_28 : decode c_V_addStaying 28 = .ok (.iinc 3 1, 3) := by decide +kernel
theorem d_V_addStaying_31 : decode c_V_addStaying 31 = .ok (.goto (-29), 3) := by decide +kernel
theorem d_V_addStaying_34 : decode c_V_addStaying 34 = .ok (.return_, 1) := by decide +kernel
theorem d_V_isOutdated_0 : decode c_V_isOutdated 0 = .ok (.iload_n 1, 1) := by decide +kernel
theorem d_V_isOutdated_1 : decode c_V_isOutdated 1 = .ok (.ifCond .le 45, 3) := by decide +kernel
theorem d_V_isOutdated_4 : decode c_V_isOutdated 4 = .ok (.aload_n 0, 1) := by decide +kernel
theorem d_V_isOutdated_5 : decode c_V_isOutdated 5 = .ok (.getfield 33, 3) := by decide +kernel
theorem d_V_isOutdated_8 : decode c_V_isOutdated 8 = .ok (.getfield 152, 3) := by decide +kernel
theorem d_V_isOutdated_11 : decode c_V_isOutdated 11 = .ok (.iload_n 1, 1) := by decide +kernel
theorem d_V_isOutdated_12 : decode c_V_isOutdated 12 = .ok (.iconst 1, 1) := by decide +kernel
theorem d_V_isOutdated_13 : decode c_V_isOutdated 13 = .ok (.isub, 1) := by decide +kernel
theorem d_V_isOutdated_14 : decode c_V_isOutdated 14 = .ok (.iaload, 1) := by decide +kernel
theorem d_V_isOutdated_15 : decode c_V_isOutdated 15 = .ok (.aload_n 0, 1) := by decide +kernel
theorem d_V_isOutdated_16 : decode c_V_isOutdated 16 = .ok (.getfield 33, 3) := by decide +kernel
theorem d_V_isOutdated_19 : decode c_V_isOutdated 19 = .ok (.getfield 152, 3) := by decide +kernel
theorem d_V_isOutdated_22 : decode c_V_isOutdated 22 = .ok (.iload_n 1, 1) := by decide +kernel
theorem d_V_isOutdated_23 : decode c_V_isOutdated 23 = .ok (.iaload, 1) := by decide +kernel
theorem d_V_isOutdated_24 : decode c_V_isOutdated 24 = .ok (.if_icmp .ne 22, 3) := by decide +kernel
theorem d_V_isOutdated_27 : decode c_V_isOutdated 27 = .ok (.aload_n 0, 1) := by decide +kernel
theorem d_V_isOutdated_28 : decode c_V_isOutdated 28 = .ok (.getfield 33, 3) := by decide +kernel
theorem d_V_isOutdated_31 : decode c_V_isOutdated 31 = .ok (.getfield 165, 3) := by decide +kernel
theorem d_V_isOutdated_34 : decode c_V_isOutdated 34 = .ok (.iload_n 1, 1) := by decide +kernel
theorem d_V_isOutdated_35 : decode c_V_isOutdated 35 = .ok (.iconst 1, 1) := by decide +kernel
theorem d_V_isOutdated_36 : decode c_V_isOutdated 36 = .ok (.isub, 1) := by decide +kernel
theorem d_V_isOutdated_37 : decode c_V_isOutdated 37 = .ok (.iaload, 1) := by decide +kernel
theorem d_V_isOutdated_38 : decode c_V_isOutdated 38 = .ok (.iload_n 2, 1) := by decide +kernel
theorem d_V_isOutdated_39 : decode c_V_isOutdated 39 = .ok (.if_icmp .gt 7, 3) := by decide +kernel
theorem d_V_isOutdated_42 : decode c_V_isOutdated 42 = .ok (.iconst 1, 1) := by decide +kernel
theorem d_V_isOutdated_43 : decode c_V_isOutdated 43 = .ok (.goto 4, 3) := by decide +kernel
theorem d_V_isOutdated_46 : decode c_V_isOutdated 46 = .ok (.iconst 0, 1) := by decide +kernel
theorem d_V_isOutdated_47 : decode c_V_isOutdated 47 = .ok (.ireturn, 1) := by decide +kernel
theorem d_S_spans_0 : decode c_S_spans 0 = .ok (.aload_n 0, 1) := by decide +kernel
theorem d_S_spans_1 : decode c_S_spans 1 = .ok (.getfield 14, 3) := by decide +kernel
theorem d_S_spans_4 : decode c_S_spans 4 = .ok (.getfield 45, 3) := by decide +kernel
theorem d_S_spans_7 : decode c_S_spans 7 = .ok (.aload_n 0, 1) := by decide +kernel
theorem d_S_spans_8 : decode c_S_spans 8 = .ok (.getfield 27, 3) := by decide +kernel
theorem d_S_spans_11 : decode c_S_spans 11 = .ok (.iload_n 1, 1) := by decide +kernel
theorem d_S_spans_12 : decode c_S_spans 12 = .ok (.iaload, 1) := by decide +kernel
theorem d_S_spans_13 : decode c_S_spans 13 = .ok (.iaload, 1) := by decide +kernel
theorem d_S_spans_14 : decode c_S_spans 14 = .ok (.iload_n 2, 1) := by decide +kernel
theorem d_S_spans_15 : decode c_S_spans 15 = .ok (.if_icmp .gt 29, 3) := by decide +kernel
theorem d_S_spans_18 : decode c_S_spans 18 = .ok (.aload_n 0, 1) := by decide +kernel
theorem d_S_spans_19 : decode c_S_spans 19 = .ok (.getfield 14, 3) := by decide +kernel
theorem d_S_spans_22 : decode c_S_spans 22 = .ok (.getfield 45, 3) := by decide +kernel
theorem d_S_spans_25 : decode c_S_spans 25 = .ok (.aload_n 0, 1) := by decide +kernel
theorem d_S_spans_26 : decode c_S_spans 26 = .ok (.getfield 27, 3) := by decide +kernel
theorem d_S_spans_29 : decode c_S_spans 29 = .ok (.iload_n 1, 1) := by decide +kernel
theorem d_S_spans_30 : decode c_S_spans 30 = .ok (.iconst 1, 1) := by decide +kernel
theorem d_S_spans_31 : decode c_S_spans 31 = .ok (.iadd, 1) := by decide +kernel
theorem d_S_spans_32 : decode c_S_spans 32 = .ok (.iaload, 1) := by decide +kernel
theorem d_S_spans_33 : decode c_S_spans 33 = .ok (.iconst 1, 1) := by decide +kernel
theorem d_S_spans_34 : decode c_S_spans 34 = .ok (.isub, 1) := by decide +kernel
theorem d_S_spans_35 : decode c_S_spans 35 = .ok (.iaload, 1) := by decide +kernel
theorem d_S_spans_36 : decode c_S_spans 36 = .ok (.iload_n 2, 1) := by decide +kernel
theorem d_S_spans_37 : decode c_S_spans 37 = .ok (.if_icmp .lt 7, 3) := by decide +kernel
theorem d_S_spans_40 : decode c_S_spans 40 = .ok (.iconst 1, 1) := by decide +kernel
theorem d_S_spans_41 : decode c_S_spans 41 = .ok (.goto 4, 3) := by decide +kernel
theorem d_S_spans_44 : decode c_S_spans 44 = .ok (.iconst 0, 1) := by decide +kernel
theorem d_S_spans_45 : decode c_S_spans 45 = .ok (.ireturn, 1) := by decide +kernel
theorem d_V_isNeedless_0 : decode c_V_isNeedless 0 = .ok (.aload_n 0, 1) := by decide +kernel
theorem d_V_isNeedless_1 : decode c_V_isNeedless 1 = .ok (.getfield 33, 3) := by decide +kernel
theorem d_V_isNeedless_4 : decode c_V_isNeedless 4 = .ok (.getfield 166, 3) := by decide +kernel
theorem d_V_isNeedless_7 : decode c_V_isNeedless 7 = .ok (.iload_n 1, 1) := by decide +kernel
theorem d_V_isNeedless_8 : decode c_V_isNeedless 8 = .ok (.baload, 1) := by decide +kernel
theorem d_V_isNeedless_9 : decode c_V_isNeedless 9 = .ok (.ifCond .eq 16, 3) := by decide +kernel
theorem d_V_isNeedless_12 : decode c_V_isNeedless 12 = .ok (.aload_n 0, 1) := by decide +kernel
theorem d_V_isNeedless_13 : decode c_V_isNeedless 13 = .ok (.getfield 33, 3) := by decide +kernel
theorem d_V_isNeedless_16 : decode c_V_isNeedless 16 = .ok (.getfield 165, 3) := by decide +kernel
theorem d_V_isNeedless_19 : decode c_V_isNeedless 19 = .ok (.iload_n 1, 1) := by decide +kernel
theorem d_V_isNeedless_20 : decode c_V_isNeedless 20 = .ok (.iaload, 1) := by decide +kernel
theorem d_V_isNeedless_21 : decode c_V_isNeedless 21 = .ok (.iload_n 3, 1) := by decide +kernel
theorem d_V_isNeedless_22 : decode c_V_isNeedless 22 = .ok (.if_icmp .le 5, 3) := by decide +kernel
theorem d_V_isNeedless_25 : decode c_V_isNeedless 25 = .ok (.iconst 0, 1) := by decide +kernel
theorem d_V_isNeedless_26 : decode c_V_isNeedless 26 = .ok (.ireturn, 1) := by decide +kernel
theorem d_V_isNeedless_27 : decode c_V_isNeedless 27 = .ok (.iconst 0, 1) := by decide +kernel
theorem d_V_isNeedless_28 : decode c_V_isNeedless 28 = .ok (.istore 4, 2) := by decide +kernel
theorem d_V_isNeedless_30 : decode c_V_isNeedless 30 = .ok (.iload 4, 2) := by decide +kernel
theorem d_V_isNeedless_32 : decode c_V_isNeedless 32 = .ok (.aload_n 0, 1) := by decide +kernel
theorem d_V_isNeedless_33 : decode c_V_isNeedless 33 = .ok (.getfield 12, 3) := by decide +kernel
theorem d_V_isNeedless_36 : decode c_V_isNeedless 36 = .ok (.getfield 77, 3) := by decide +kernel
theorem d_V_isNeedless_39 : decode c_V_isNeedless 39 = .ok (.if_icmp .ge 46, 3) := by decide +kernel
theorem d_V_isNeedless_42 : decode c_V_isNeedless 42 = .ok (.aload_n 0, 1) := by decide +kernel
theorem d_V_isNeedless_43 : decode c_V_isNeedless 43 = .ok (.getfield 12, 3) := by decide +kernel
theorem d_V_isNeedless_46 : decode c_V_isNeedless 46 = .ok (.getfield 100, 3) := by decide +kernel
theorem d_V_isNeedless_49 : decode c_V_isNeedless 49 = .ok (.iload 4, 2) := by decide +kernel
theorem d_V_isNeedless_51 : decode c_V_isNeedless 51 = .ok (.iaload, 1) := by decide +kernel
theorem d_V_isNeedless_52 : decode c_V_isNeedless 52 = .ok (.iload_n 2, 1) := by decide +kernel
theorem d_V_isNeedless_53 : decode c_V_isNeedless 53 = .ok (.if_icmp .le 26, 3) := by decide +kernel
theorem d_V_isNeedless_56 : decode c_V_isNeedless 56 = .ok (.aload_n 0, 1) := by decide +kernel
theorem d_V_isNeedless_57 : decode c_V_isNeedless 57 = .ok (.getfield 12, 3) := by decide +kernel
theorem d_V_isNeedless_60 : decode c_V_isNeedless 60 = .ok (.iload 4, 2) := by decide +kernel
theorem d_V_isNeedless_62 : decode c_V_isNeedless 62 = .ok (.aload_n 0, 1) := by decide +kernel
theorem d_V_isNeedless_63 : decode c_V_isNeedless 63 = .ok (.getfield 33, 3) := by decide +kernel
theorem d_V_isNeedless_66 : decode c_V_isNeedless 66 = .ok (.getfield 152, 3) := by decide +kernel
theorem d_V_isNeedless_69 : decode c_V_isNeedless 69 = .ok (.iload_n 1, 1) := by decide +kernel
theorem d_V_isNeedless_70 : decode c_V_isNeedless 70 = .ok (.iaload, 1) := by decide +kernel
theorem d_V_isNeedless_71 : decode c_V_isNeedless 71 = .ok (.invokevirtual 169, 3) := by decide +kernel
theorem d_V_isNeedless_74 : decode c_V_isNeedless 74 = .ok (.ifCond .eq 5, 3) := by decide +kernel
theorem d_V_isNeedless_77 : decode c_V_isNeedless 77 = .ok (.iconst 0, 1) := by decide +kernel
theorem d_V_isNeedless_78 : decode c_V_isNeedless 78 = .ok (.ireturn, 1) := by decide +kernel
theorem d_V_isNeedless_79 : decode c_V_isNeedless 79 = .ok (.iinc 4 1, 3) := by decide +kernel
theorem d_V_isNeedless_82 : decode c_V_isNeedless 82 = .ok (.goto (-52), 3) := by decide +kernel
theorem d_V_isNeedless_85 : decode c_V_isNeedless 85 = .ok (.iconst 1, 1) := by decide +kernel
theorem d_V_isNeedless_86 : decode c_V_isNeedless 86 = .ok (.ireturn, 1) := by decide +kernel
theorem d_V_endNewTable_0 : decode c_V_endNewTable 0 = .ok (.aload_n 0, 1) := by decide +kernel
theorem d_V_endNewTable_1 : decode c_V_endNewTable 1 = .ok (.getfield 18, 3) := by decide +kernel
theorem d_V_endNewTable_4 : decode c_V_endNewTable 4 = .ok (.aload_n 0, 1) := by decide +kernel
theorem d_V_endNewTable_5 : decode c_V_endNewTable 5 = .ok (.getfield 172, 3) := by decide +kernel
theorem d_V_endNewTable_8 : decode c_V_endNewTable 8 = .ok (.iload_n 1, 1) := by decide +kernel
theorem d_V_endNewTable_9 : decode c_V_endNewTable 9 = .ok (.invokevirtual 103, 3) := by decide +kernel
theorem d_V_endNewTable_12 : decode c_V_endNewTable 12 = .ok (.aload_n 0, 1) := by decide +kernel
theorem d_V_endNewTable_13 : decode c_V_endNewTable 13 = .ok (.dup, 1) := by decide +kernel
theorem d_V_endNewTable_14 : decode c_V_endNewTable 14 = .ok (.getfield 172, 3) := by decide +kernel
theorem d_V_endNewTable_17 : decode c_V_endNewTable 17 = .ok (.iconst 1, 1) := by decide +kernel
theorem d_V_endNewTable_18 : decode c_V_endNewTable 18 = .ok (.iadd, 1) := by decide +kernel
theorem d_V_endNewTable_19 : decode c_V_endNewTable 19 = .ok (.putfield 172, 3) := by decide +kernel
theorem d_V_endNewTable_22 : decode c_V_endNewTable 22 = .ok (.return_, 1) := by decide +kernel
theorem d_V_addMerged_0 : decode c_V_addMerged 0 = .ok (.iconst (-1), 1) := by decide +kernel
theorem d_V_addMerged_1 : decode c_V_addMerged 1 = .ok (.istore_n 3, 1) := by decide +kernel
theorem d_V_addMerged_2 : decode c_V_addMerged 2 = .ok (.iconst 0, 1) := by decide +kernel
theorem d_V_addMerged_3 : decode c_V_addMerged 3 = .ok (.istore 4, 2) := by decide +kernel
theorem d_V_addMerged_5 : decode c_V_addMerged 5 = .ok (.iload 4, 2) := by decide +kernel
theorem d_V_addMerged_7 : decode c_V_addMerged 7 = .ok (.aload_n 0, 1) := by decide +kernel
theorem d_V_addMerged_8 : decode c_V_addMerged 8 = .ok (.getfield 33, 3) := by decide +kernel
theorem d_V_addMerged_11 : decode c_V_addMerged 11 = .ok (.getfield 56, 3) := by decide +kernel
theorem d_V_addMerged_14 : decode c_V_addMerged 14 = .ok (.if_icmp .ge 120, 3) := by decide +kernel
theorem d_V_addMerged_17 : decode c_V_addMerged 17 = .ok (.aload_n 0, 1) := by decide +kernel
theorem d_V_addMerged_18 : decode c_V_addMerged 18 = .ok (.getfield 33, 3) := by decide +kernel
theorem d_V_addMerged_21 : decode c_V_addMerged 21 = .ok (.getfield 152, 3) := by decide +kernel
theorem d_V_addMerged_24 : decode c_V_addMerged 24 = .ok (.iload 4, 2) := by decide +kernel
theorem d_V_addMerged_26 : decode c_V_addMerged 26 = .ok (.iaload, 1) := by decide +kernel
theorem d_V_addMerged_27 : decode c_V_addMerged 27 = .ok (.istore 5, 2) := by decide +kernel
theorem d_V_addMerged_29 : decode c_V_addMerged 29 = .ok (.aload_n 0, 1) := by decide +kernel
theorem d_V_addMerged_30 : decode c_V_addMerged 30 = .ok (.iload 4, 2) := by decide +kernel
theorem d_V_addMerged_32 : decode c_V_addMerged 32 = .ok (.iload_n 2, 1) := by decide +kernel
theorem d_V_addMerged_33 : decode c_V_addMerged 33 = .ok (.invokevirtual 155, 3) := by decide +kernel
theorem d_V_addMerged_36 : decode c_V_addMerged 36 = .ok (.ifCond .ne 14, 3) := by decide +kernel
theorem d_V_addMerged_39 : decode c_V_addMerged 39 = .ok (.aload_n 0, 1) := by decide +kernel
theorem d_V_addMerged_40 : decode c_V_addMerged 40 = .ok (.iload 4, 2) := by decide +kernel
theorem d_V_addMerged_42 : decode c_V_addMerged 42 = .ok (.iload_n 1, 1) := by decide +kernel
theorem d_V_addMerged_43 : decode c_V_addMerged 43 = .ok (.iload_n 2, 1) := by decide +kernel
theorem d_V_addMerged_44 : decode c_V_addMerged 44 = .ok (.invokevirtual 159, 3) := by decide +kernel
theorem d_V_addMerged_47 : decode c_V_addMerged 47 = .ok (.ifCond .eq 16, 3) := by decide +kernel
theorem d_V_addMerged_50 : decode c_V_addMerged 50 = .ok (.aload_n 0, 1) := by decide +kernel
theorem d_V_addMerged_51 : decode c_V_addMerged 51 = .ok (.dup, 1) := by decide +kernel
theorem d_V_addMerged_52 : decode c_V_addMerged 52 = .ok (.getfield 162, 3) := by decide +kernel
theorem d_V_addMerged_55 : decode c_V_addMerged 55 = .ok (.iconst 1, 1) := by decide +kernel
theorem d_V_addMerged_56 : decode c_V_addMerged 56 = .ok (.iadd, 1) := by decide +kernel
theorem d_V_addMerged_57 : decode c_V_addMerged 57 = .ok (.putfield 162, 3) := by decide +kernel
theorem d_V_addMerged_60 : decode c_V_addMerged 60 = .ok (.goto 68, 3) := by decide +kernel
theorem d_V_addMerged_63 : decode c_V_addMerged 63 = .ok (.aload_n 0, 1) := by decide +kernel
theorem d_V_addMerged_64 : decode c_V_addMerged 64 = .ok (.getfield 18, 3) := by decide +kernel
theorem d_V_addMerged_67 : decode c_V_addMerged 67 = .ok (.getfield 67, 3) := by decide +kernel
theorem d_V_addMerged_70 : decode c_V_addMerged 70 = .ok (.getfield 56, 3) := by decide +kernel
theorem d_V_addMerged_73 : decode c_V_addMerged 73 = .ok (.aload_n 0, 1) := by decide +kernel
theorem d_V_addMerged_74 : decode c_V_addMerged 74 = .ok (.getfield 18, 3) := by decide +kernel
theorem d_V_addMerged_77 : decode c_V_addMerged 77 = .ok (.getfield 87, 3) := by decide +kernel
theorem d_V_addMerged_80 : decode c_V_addMerged 80 = .ok (.aload_n 0, 1) := by decide +kernel
theorem d_V_addMerged_81 : decode c_V_addMerged 81 = .ok (.getfield 18, 3) := by decide +kernel
theorem d_V_addMerged_84 : decode c_V_addMerged 84 = .ok (.getfield 77, 3) := by decide +kernel
theorem d_V_addMerged_87 : decode c_V_addMerged 87 = .ok (.iaload, 1) := by decide +kernel
theorem d_V_addMerged_88 : decode c_V_addMerged 88 = .ok (.isub, 1) := by decide +kernel
theorem d_V_addMerged_89 : decode c_V_addMerged 89 = .ok (.istore 6, 2) := by decide +kernel
theorem d_V_addMerged_91 : decode c_V_addMerged 91 = .ok (.iload 6, 2) := by decide +kernel
theorem d_V_addMerged_93 : decode c_V_addMerged 93 = .ok (.bipush 6, 2) := by decide +kernel
theorem d_V_addMerged_95 : decode c_V_addMerged 95 = .ok (.if_icmp .lt 14, 3) := by decide +kernel
theorem d_V_addMerged_98 : decode c_V_addMerged 98 = .ok (.iload 5, 2) := by decide +kernel
theorem d_V_addMerged_100 : decode c_V_addMerged 100 = .ok (.iload_n 3, 1) := by decide +kernel
theorem d_V_addMerged_101 : decode c_V_addMerged 101 = .ok (.if_icmp .eq 8, 3) := by decide +kernel
theorem d_V_addMerged_104 : decode c_V_addMerged 104 = .ok (.aload_n 0, 1) := by decide +kernel
theorem d_V_addMerged_105 : decode c_V_addMerged 105 = .ok (.iload_n 1, 1) := by decide +kernel
theorem d_V_addMerged_106 : decode c_V_addMerged 106 = .ok (.invokevirtual 74, 3) := by decide +kernel
theorem d_V_addMerged_109 : decode c_V_addMerged 109 = .ok (.aload_n 0, 1) := by decide +kernel
theorem d_V_addMerged_110 : decode c_V_addMerged 110 = .ok (.getfield 18, 3) := by decide +kernel
theorem d_V_addMerged_113 : decode c_V_addMerged 113 = .ok (.getfield 67, 3) := by decide +kernel
theorem d_V_addMerged_116 : decode c_V_addMerged 116 = .ok (.aload_n 0, 1) := by decide +kernel
theorem d_V_addMerged_117 : decode c_V_addMerged 117 = .ok (.getfield 33, 3) := by decide +kernel
theorem d_V_addMerged_120 : decode c_V_addMerged 120 = .ok (.iload 4, 2) := by decide +kernel
theorem d_V_addMerged_122 : decode c_V_addMerged 122 = .ok (.invokevirtual 60, 3) := by decide +kernel
theorem d_V_addMerged_125 : decode c_V_addMerged 125 = .ok (.iload 5, 2) := by decide +kernel
theorem d_V_addMerged_127 : decode c_V_addMerged 127 = .ok (.istore_n 3, 1) := by decide +kernel
theorem d_V_addMerged_128 : decode c_V_addMerged 128 = .ok (.iinc 4 1, 3) := by decide +kernel
theorem d_V_addMerged_131 : decode c_V_addMerged 131 = .ok (.goto (-126), 3) := by decide +kernel
theorem d_V_addMerged_134 : decode c_V_addMerged 134 = .ok (.aload_n 0, 1) := by decide +kernel
theorem d_V_addMerged_135 : decode c_V_addMerged 135 = .ok (.getfield 18, 3) := by decide +kernel
theorem d_V_addMerged_138 : decode c_V_addMerged 138 = .ok (.invokevirtual 93, 3) := by decide +kernel
theorem d_V_addMerged_141 : decode c_V_addMerged 141 = .ok (.ifCond .eq 8, 3) := by decide +kernel
theorem d_V_addMerged_144 : decode c_V_addMerged 144 = .ok (.aload_n 0, 1) := by decide +kernel
theorem d_V_addMerged_145 : decode c_V_addMerged 145 = .ok (.iload_n 1, 1) := by decide +kernel
theorem d_V_addMerged_146 : decode c_V_addMerged 146 = .ok (.invokevirtual 74, 3) := by decide +kernel
theorem d_V_addMerged_149 : decode c_V_addMerged 149 = .ok (.return_, 1) := by decide +kernel
theorem d_V_merge_0 : decode c_V_merge 0 = .ok (.bipush 64, 2) := by decide +kernel
theorem d_V_merge_2 : decode c_V_merge 2 = .ok (.istore 5, 2) := by decide +kernel
theorem d_V_merge_4 : decode c_V_merge 4 = .ok (.iconst (-1), 1) := by decide +kernel
theorem d_V_merge_5 : decode c_V_merge 5 = .ok (.istore 6, 2) := by decide +kernel
theorem d_V_merge_7 : decode c_V_merge 7 = .ok (.iload_n 1, 1) := by decide +kernel
theorem d_V_merge_8 : decode c_V_merge 8 = .ok (.istore 7, 2) := by decide +kernel
theorem d_V_merge_10 : decode c_V_merge 10 = .ok (.iload 7, 2) := by decide +kernel
theorem d_V_merge_12 : decode c_V_merge 12 = .ok (.iload_n 2, 1) := by decide +kernel
theorem d_V_merge_13 : decode c_V_merge 13 = .ok (.if_icmp .ge 41, 3) := by decide +kernel
theorem d_V_merge_16 : decode c_V_merge 16 = .ok (.iload 5, 2) := by decide +kernel
theorem d_V_merge_18 : decode c_V_merge 18 = .ok (.aload_n 0, 1) := by decide +kernel
theorem d_V_merge_19 : decode c_V_merge 19 = .ok (.getfield 12, 3) := by decide +kernel
theorem d_V_merge_22 : decode c_V_merge 22 = .ok (.iload 7, 2) := by decide +kernel
theorem d_V_merge_24 : decode c_V_merge 24 = .ok (.invokevirtual 119, 3) := by decide +kernel
theorem d_V_merge_27 : decode c_V_merge 27 = .ok (.invokestatic 122, 3) := by decide +kernel
theorem d_V_merge_30 : decode c_V_merge 30 = .ok (.istore 5, 2) := by decide +kernel
theorem d_V_merge_32 : decode c_V_merge 32 = .ok (.iload 6, 2) := by decide +kernel
theorem d_V_merge_34 : decode c_V_merge 34 = .ok (.aload_n 0, 1) := by decide +kernel
theorem d_V_merge_35 : decode c_V_merge 35 = .ok (.getfield 12, 3) := by decide +kernel
theorem d_V_merge_38 : decode c_V_merge 38 = .ok (.iload 7, 2) := by decide +kernel
theorem d_V_merge_40 : decode c_V_merge 40 = .ok (.invokevirtual 127, 3) := by decide +kernel
theorem d_V_merge_43 : decode c_V_merge 43 = .ok (.invokestatic 130, 3) := by decide +kernel
theorem d_V_merge_46 : decode c_V_merge 46 = .ok (.istore 6, 2) := by decide +kernel
theorem d_V_merge_48 : decode c_V_merge 48 = .ok (.iinc 7 1, 3) := by decide +kernel
theorem d_V_merge_51 : decode c_V_merge 51 = .ok (.goto (-41), 3) := by decide +kernel
theorem d_V_merge_54 : decode c_V_merge 54 = .ok (.iconst 0, 1) := by decide +kernel
theorem d_V_merge_55 : decode c_V_merge 55 = .ok (.istore 7, 2) := by decide +kernel
theorem d_V_merge_57 : decode c_V_merge 57 = .ok (.iload 7, 2) := by decide +kernel
theorem d_V_merge_59 : decode c_V_merge 59 = .ok (.aload_n 0, 1) := by decide +kernel
theorem d_V_merge_60 : decode c_V_merge 60 = .ok (.getfield 12, 3) := by decide +kernel
theorem d_V_merge_63 : decode c_V_merge 63 = .ok (.getfield 77, 3) := by decide +kernel
theorem d_V_merge_66 : decode c_V_merge 66 = .ok (.if_icmp .ge 113, 3) := by decide +kernel
theorem d_V_merge_69 : decode c_V_merge 69 = .ok (.aload_n 0, 1) := by decide +kernel
theorem d_V_merge_70 : decode c_V_merge 70 = .ok (.getfield 12, 3) := by decide +kernel
theorem d_V_merge_73 : decode c_V_merge 73 = .ok (.getfield 100, 3) := by decide +kernel
theorem d_V_merge_76 : decode c_V_merge 76 = .ok (.iload 7, 2) := by decide +kernel
theorem d_V_merge_78 : decode c_V_merge 78 = .ok (.iaload, 1) := by decide +kernel
theorem d_V_merge_79 : decode c_V_merge 79 = .ok (.iload_n 3, 1) := by decide +kernel
theorem d_V_merge_80 : decode c_V_merge 80 = .ok (.if_icmp .ne 23, 3) := by decide +kernel
theorem d_V_merge_83 : decode c_V_merge 83 = .ok (.aload_n 0, 1) := by decide +kernel
theorem d_V_merge_84 : decode c_V_merge 84 = .ok (.getfield 12, 3) := by decide +kernel
theorem d_V_merge_87 : decode c_V_merge 87 = .ok (.iload 7, 2) := by decide +kernel
theorem d_V_merge_89 : decode c_V_merge 89 = .ok (.iload 5, 2) := by decide +kernel
theorem d_V_merge_91 : decode c_V_merge 91 = .ok (.iload 6, 2) := by decide +kernel
theorem d_V_merge_93 : decode c_V_merge 93 = .ok (.invokevirtual 133, 3) := by decide +kernel
theorem d_V_merge_96 : decode c_V_merge 96 = .ok (.ifCond .eq 7, 3) := by decide +kernel
theorem d_V_merge_99 : decode c_V_merge 99 = .ok (.iconst 1, 1) := by decide +kernel
theorem d_V_merge_100 : decode c_V_merge 100 = .ok (.goto 4, 3) := by decide +kernel
theorem d_V_merge_103 : decode c_V_merge 103 = .ok (.iconst 0, 1) := by decide +kernel
theorem d_V_merge_104 : decode c_V_merge 104 = .ok (.istore 8, 2) := by decide +kernel
theorem d_V_merge_106 : decode c_V_merge 106 = .ok (.aload_n 0, 1) := by decide +kernel
theorem d_V_merge_107 : decode c_V_merge 107 = .ok (.getfield 37, 3) := by decide +kernel
theorem d_V_merge_110 : decode c_V_merge 110 = .ok (.iload 7, 2) := by decide +kernel
theorem d_V_merge_112 : decode c_V_merge 112 = .ok (.iload 8, 2) := by decide +kernel
theorem d_V_merge_114 : decode c_V_merge 114 = .ok (.ifCond .ne 15, 3) := by decide +kernel
theorem d_V_merge_117 : decode c_V_merge 117 = .ok (.iload 7, 2) := by decide +kernel
theorem d_V_merge_119 : decode c_V_merge 119 = .ok (.iload_n 1, 1) := by decide +kernel
theorem d_V_merge_120 : decode c_V_merge 120 = .ok (.if_icmp .lt 13, 3) := by decide +kernel
theorem d_V_merge_123 : decode c_V_merge 123 = .ok (.iload 7, 2) := by decide +kernel
theorem d_V_merge_125 : decode c_V_merge 125 = .ok (.iload_n 2, 1) := by decide +kernel
theorem d_V_merge_126 : decode c_V_merge 126 = .ok (.if_icmp .ge 7, 3) := by decide +kernel
theorem d_V_merge_129 : decode c_V_merge 129 = .ok (.iconst 1, 1) := by decide +kernel
theorem d_V_merge_130 : decode c_V_merge 130 = .ok (.goto 4, 3) := by decide +kernel
theorem d_V_merge_133 : decode c_V_merge 133 = .ok (.iconst 0, 1) := by decide +kernel
theorem d_V_merge_134 : decode c_V_merge 134 = .ok (.bastore, 1) := by decide +kernel
theorem d_V_merge_135 : decode c_V_merge 135 = .ok (.aload_n 0, 1) := by decide +kernel
theorem d_V_merge_136 : decode c_V_merge 136 = .ok (.aload_n 0, 1) := by decide +kernel
theorem d_V_merge_137 : decode c_V_merge 137 = .ok (.getfield 45, 3) := by decide +kernel
theorem d_V_merge_140 : decode c_V_merge 140 = .ok (.ifCond .ne 25, 3) := by decide +kernel
theorem d_V_merge_143 : decode c_V_merge 143 = .ok (.aload_n 0, 1) := by decide +kernel
theorem d_V_merge_144 : decode c_V_merge 144 = .ok (.getfield 37, 3) := by decide +kernel
theorem d_V_merge_147 : decode c_V_merge 147 = .ok (.iload 7, 2) := by decide +kernel
theorem d_V_merge_149 : decode c_V_merge 149 = .ok (.baload, 1) := by decide +kernel
theorem d_V_merge_150 : decode c_V_merge 150 = .ok (.ifCond .eq 19, 3) := by decide +kernel
theorem d_V_merge_153 : decode c_V_merge 153 = .ok (.aload_n 0, 1) := by decide +kernel
theorem d_V_merge_154 : decode c_V_merge 154 = .ok (.getfield 12, 3) := by decide +kernel
theorem d_V_merge_157 : decode c_V_merge 157 = .ok (.iload 7, 2) := by decide +kernel
theorem d_V_merge_159 : decode c_V_merge 159 = .ok (.invokevirtual 137, 3) := by decide +kernel
theorem d_V_merge_162 : decode c_V_merge 162 = .ok (.ifCond .le 7, 3) := by decide +kernel
theorem d_V_merge_165 : decode c_V_merge 165 = .ok (.iconst 1, 1) := by decide +kernel
theorem d_V_merge_166 : decode c_V_merge 166 = .ok (.goto 4, 3) := by decide +kernel
theorem d_V_merge_169 : decode c_V_merge 169 = .ok (.iconst 0, 1) := by decide +kernel
theorem d_V_merge_170 : decode c_V_merge 170 = .ok (.putfield 45, 3) := by decide +kernel
theorem d_V_merge_173 : decode c_V_merge 173 = .ok (.iinc 7 1, 3) := by decide +kernel
theorem d_V_merge_176 : decode c_V_merge 176 = .ok (.goto (-119), 3) := by decide +kernel
theorem d_V_merge_179 : decode c_V_merge 179 = .ok (.aload_n 0, 1) := by decide +kernel
theorem d_V_merge_180 : decode c_V_merge 180 = .ok (.getfield 45, 3) := by decide +kernel
theorem d_V_merge_183 : decode c_V_merge 183 = .ok (.ifCond .eq 4, 3) := by decide +kernel
theorem d_V_merge_186 : decode c_V_merge 186 = .ok (.return_, 1) := by decide +kernel
theorem d_V_merge_187 : decode c_V_merge 187 = .ok (.aload_n 0, 1) := by decide +kernel
theorem d_V_merge_188 : decode c_V_merge 188 = .ok (.invokevirtual 140, 3) := by decide +kernel
theorem d_V_merge_191 : decode c_V_merge 191 = .ok (.aload_n 0, 1) := by decide +kernel
theorem d_V_merge_192 : decode c_V_merge 192 = .ok (.getfield 12, 3) := by decide +kernel
theorem d_V_merge_195 : decode c_V_merge 195 = .ok (.iload_n 3, 1) := by decide +kernel
theorem d_V_merge_196 : decode c_V_merge 196 = .ok (.iload 6, 2) := by decide +kernel
theorem d_V_merge_198 : decode c_V_merge 198 = .ok (.invokevirtual 143, 3) := by decide +kernel
theorem d_V_merge_201 : decode c_V_merge 201 = .ok (.istore 7, 2) := by decide +kernel
theorem d_V_merge_203 : decode c_V_merge 203 = .ok (.aload_n 0, 1) := by decide +kernel
theorem d_V_merge_204 : decode c_V_merge 204 = .ok (.getfield 18, 3) := by decide +kernel
theorem d_V_merge_207 : decode c_V_merge 207 = .ok (.invokevirtual 64, 3) := by decide +kernel
theorem d_V_merge_210 : decode c_V_merge 210 = .ok (.aload_n 0, 1) := by decide +kernel
theorem d_V_merge_211 : decode c_V_merge 211 = .ok (.iconst 0, 1) := by decide +kernel
theorem d_V_merge_212 : decode c_V_merge 212 = .ok (.iload 7, 2) := by decide +kernel
theorem d_V_merge_214 : decode c_V_merge 214 = .ok (.invokevirtual 146, 3) := by decide +kernel
theorem d_V_merge_217 : decode c_V_merge 217 = .ok (.aload_n 0, 1) := by decide +kernel
theorem d_V_merge_218 : decode c_V_merge 218 = .ok (.iload_n 3, 1) := by decide +kernel
theorem d_V_merge_219 : decode c_V_merge 219 = .ok (.iload 4, 2) := by decide +kernel
theorem d_V_merge_221 : decode c_V_merge 221 = .ok (.invokevirtual 149, 3) := by decide +kernel
theorem d_V_merge_224 : decode c_V_merge 224 = .ok (.aload_n 0, 1) := by decide +kernel
theorem d_V_merge_225 : decode c_V_merge 225 = .ok (.iload 7, 2) := by decide +kernel
theorem d_V_merge_227 : decode c_V_merge 227 = .ok (.aload_n 0, 1) := by decide +kernel
theorem d_V_merge_228 : decode c_V_merge 228 = .ok (.getfield 12, 3) := by decide +kernel
theorem d_V_merge_231 : decode c_V_merge 231 = .ok (.getfield 77, 3) := by decide +kernel
theorem d_V_merge_234 : decode c_V_merge 234 = .ok (.invokevirtual 146, 3) := by decide +kernel
theorem d_V_merge_237 : decode c_V_merge 237 = .ok (.aload_n 0, 1) := by decide +kernel
theorem d_V_merge_238 : decode c_V_merge 238 = .ok (.invokevirtual 84, 3) := by decide +kernel
theorem d_V_merge_241 : decode c_V_merge 241 = .ok (.aload_n 0, 1) := by decide +kernel
theorem d_V_merge_242 : decode c_V_merge 242 = .ok (.getfield 41, 3) := by decide +kernel
theorem d_V_merge_245 : decode c_V_merge 245 = .ok (.iload_n 3, 1) := by decide +kernel
theorem d_V_merge_246 : decode c_V_merge 246 = .ok (.iconst 1, 1) := by decide +kernel
theorem d_V_merge_247 : decode c_V_merge 247 = .ok (.isub, 1) := by decide +kernel
theorem d_V_merge_248 : decode c_V_merge 248 = .ok (.iload 6, 2) := by decide +kernel
theorem d_V_merge_250 : decode c_V_merge 250 = .ok (.iastore, 1) := by decide +kernel
theorem d_V_merge_251 : decode c_V_merge 251 = .ok (.return_, 1) := by decide +kernel
theorem d_V_tidy_0 : decode c_V_tidy 0 = .ok (.aload_n 0, 1) := by decide +kernel
theorem d_V_tidy_1 : decode c_V_tidy 1 = .ok (.invokevirtual 107, 3) := by decide +kernel
theorem d_V_tidy_4 : decode c_V_tidy 4 = .ok (.istore_n 2, 1) := by decide +kernel
theorem d_V_tidy_5 : decode c_V_tidy 5 = .ok (.iconst 0, 1) := by decide +kernel
theorem d_V_tidy_6 : decode c_V_tidy 6 = .ok (.istore_n 3, 1) := by decide +kernel
theorem d_V_tidy_7 : decode c_V_tidy 7 = .ok (.iload_n 3, 1) := by decide +kernel
theorem d_V_tidy_8 : decode c_V_tidy 8 = .ok (.sipush 1000, 3) := by decide +kernel
theorem d_V_tidy_11 : decode c_V_tidy 11 = .ok (.if_icmp .ge 83, 3) := by decide +kernel
theorem d_V_tidy_14 : decode c_V_tidy 14 = .ok (.iload_n 2, 1) := by decide +kernel
theorem d_V_tidy_15 : decode c_V_tidy 15 = .ok (.iconst (-1), 1) := by decide +kernel
theorem d_V_tidy_16 : decode c_V_tidy 16 = .ok (.if_icmp .eq 78, 3) := by decide +kernel
theorem d_V_tidy_19 : decode c_V_tidy 19 = .ok (.aload_n 0, 1) := by decide +kernel
theorem d_V_tidy_20 : decode c_V_tidy 20 = .ok (.getfield 45, 3) := by decide +kernel
theorem d_V_tidy_23 : decode c_V_tidy 23 = .ok (.ifCond .ne 71, 3) := by decide +kernel
theorem d_V_tidy_26 : decode c_V_tidy 26 = .ok (.iload_n 2, 1) := by decide +kernel
theorem d_V_tidy_27 : decode c_V_tidy 27 = .ok (.ifCond .ne 7, 3) := by decide +kernel
theorem d_V_tidy_30 : decode c_V_tidy 30 = .ok (.iconst 0, 1) := by decide +kernel
theorem d_V_tidy_31 : decode c_V_tidy 31 = .ok (.goto 17, 3) := by decide +kernel
theorem d_V_tidy_34 : decode c_V_tidy 34 = .ok (.aload_n 0, 1) := by decide +kernel
theorem d_V_tidy_35 : decode c_V_tidy 35 = .ok (.getfield 12, 3) := by decide +kernel
theorem d_V_tidy_38 : decode c_V_tidy 38 = .ok (.iload_n 2, 1) := by decide +kernel
theorem d_V_tidy_39 : decode c_V_tidy 39 = .ok (.aload_n 0, 1) := by decide +kernel
theorem d_V_tidy_40 : decode c_V_tidy 40 = .ok (.getfield 41, 3) := by decide +kernel
theorem d_V_tidy_43 : decode c_V_tidy 43 = .ok (.iload_n 2, 1) := by decide +kernel
theorem d_V_tidy_44 : decode c_V_tidy 44 = .ok (.iaload, 1) := by decide +kernel
theorem d_V_tidy_45 : decode c_V_tidy 45 = .ok (.invokevirtual 111, 3) := by decide +kernel
theorem d_V_tidy_48 : decode c_V_tidy 48 = .ok (.istore 4, 2) := by decide +kernel
theorem d_V_tidy_50 : decode c_V_tidy 50 = .ok (.iload_n 2, 1) := by decide +kernel
theorem d_V_tidy_51 : decode c_V_tidy 51 = .ok (.ifCond .ne 14, 3) := by decide +kernel
theorem d_V_tidy_54 : decode c_V_tidy 54 = .ok (.aload_n 0, 1) := by decide +kernel
theorem d_V_tidy_55 : decode c_V_tidy 55 = .ok (.getfield 12, 3) := by decide +kernel
theorem d_V_tidy_58 : decode c_V_tidy 58 = .ok (.iconst 0, 1) := by decide +kernel
theorem d_V_tidy_59 : decode c_V_tidy 59 = .ok (.invokevirtual 49, 3) := by decide +kernel
theorem d_V_tidy_62 : decode c_V_tidy 62 = .ok (.goto 7, 3) := by decide +kernel
theorem d_V_tidy_65 : decode c_V_tidy 65 = .ok (.iload 4, 2) := by decide +kernel
theorem d_V_tidy_67 : decode c_V_tidy 67 = .ok (.iconst 1, 1) := by decide +kernel
theorem d_V_tidy_68 : decode c_V_tidy 68 = .ok (.iadd, 1) := by decide +kernel
theorem d_V_tidy_69 : decode c_V_tidy 69 = .ok (.istore 5, 2) := by decide +kernel
theorem d_V_tidy_71 : decode c_V_tidy 71 = .ok (.aload_n 0, 1) := by decide +kernel
theorem d_V_tidy_72 : decode c_V_tidy 72 = .ok (.iload 4, 2) := by decide +kernel
theorem d_V_tidy_74 : decode c_V_tidy 74 = .ok (.iload 5, 2) := by decide +kernel
theorem d_V_tidy_76 : decode c_V_tidy 76 = .ok (.iload_n 2, 1) := by decide +kernel
theorem d_V_tidy_77 : decode c_V_tidy 77 = .ok (.iconst 1, 1) := by decide +kernel
theorem d_V_tidy_78 : decode c_V_tidy 78 = .ok (.iadd, 1) := by decide +kernel
theorem d_V_tidy_79 : decode c_V_tidy 79 = .ok (.iload_n 1, 1) := by decide +kernel
theorem d_V_tidy_80 : decode c_V_tidy 80 = .ok (.invokevirtual 115, 3) := by decide +kernel
theorem d_V_tidy_83 : decode c_V_tidy 83 = .ok (.aload_n 0, 1) := by decide +kernel
theorem d_V_tidy_84 : decode c_V_tidy 84 = .ok (.invokevirtual 107, 3) := by decide +kernel
theorem d_V_tidy_87 : decode c_V_tidy 87 = .ok (.istore_n 2, 1) := by decide +kernel
theorem d_V_tidy_88 : decode c_V_tidy 88 = .ok (.iinc 3 1, 3) := by decide +kernel
theorem d_V_tidy_91 : decode c_V_tidy 91 = .ok (.goto (-84), 3) := by decide +kernel
theorem d_V_tidy_94 : decode c_V_tidy 94 = .ok (.return_, 1) := by decide +kernel
theorem d_L_giveUp_0 : decode c_L_giveUp 0 = .ok (.aload_n 0, 1) := by decide +kernel
theorem d_L_giveUp_1 : decode c_L_giveUp 1 = .ok (.getfield 19, 3) := by decide +kernel
theorem d_L_giveUp_4 : decode c_L_giveUp 4 = .ok (.invokevirtual 148, 3) := by decide +kernel
theorem d_L_giveUp_7 : decode c_L_giveUp 7 = .ok (.istore_n 1, 1) := by decide +kernel
theorem d_L_giveUp_8 : decode c_L_giveUp 8 = .ok (.aload_n 0, 1) := by decide +kernel
theorem d_L_giveUp_9 : decode c_L_giveUp 9 = .ok (.getfield 19, 3) := by decide +kernel
theorem d_L_giveUp_12 : decode c_L_giveUp 12 = .ok (.aload_n 0, 1) := by decide +kernel
theorem d_L_giveUp_13 : decode c_L_giveUp 13 = .ok (.invokevirtual 106, 3) := by decide +kernel
theorem d_L_giveUp_16 : decode c_L_giveUp 16 = .ok (.invokevirtual 109, 3) := by decide +kernel
theorem d_L_giveUp_19 : decode c_L_giveUp 19 = .ok (.iload_n 1, 1) := by decide +kernel
theorem d_L_giveUp_20 : decode c_L_giveUp 20 = .ok (.ireturn, 1) := by decide +kernel
theorem d_L_requireWithin_0 : decode c_L_requireWithin 0 = .ok (.iload_n 0, 1) := by decide +kernel
theorem d_L_requireWithin_1 : decode c_L_requireWithin 1 = .ok (.iload_n 1, 1) := by decide +kernel
theorem d_L_requireWithin_2 : decode c_L_requireWithin 2 = .ok (.if_icmp .lt 8, 3) := by decide +kernel
theorem d_L_requireWithin_5 : decode c_L_requireWithin 5 = .ok (.iload_n 0, 1) := by decide +kernel
theorem d_L_requireWithin_6 : decode c_L_requireWithin 6 = .ok (.iload_n 2, 1) := by decide +kernel
theorem d_L_requireWithin_7 : decode c_L_requireWithin 7 = .ok (.if_icmp .le 11, 3) := by decide +kernel
theorem d_L_requireWithin_10 : decode c_L_requireWithin 10 = .ok (.new 196, 3) := by decide +kernel
theorem d_L_requireWithin_13 : decode c_L_requireWithin 13 = .ok (.dup, 1) := by decide +kernel
theorem d_L_requireWithin_14 : decode c_L_requireWithin 14 = .ok (.invokespecial 198, 3) := by decide +kernel
theorem d_L_requireWithin_17 : decode c_L_requireWithin 17 = .ok (.athrow, 1) := by decide +kernel
theorem d_L_requireWithin_18 : decode c_L_requireWithin 18 = .ok (.return_, 1) := by decide +kernel
theorem d_E_add_0 : decode c_E_add 0 = .ok (.aload_n 0, 1) := by decide +kernel
theorem d_E_add_1 : decode c_E_add 1 = .ok (.getfield 9, 3) := by decide +kernel
theorem d_E_add_4 : decode c_E_add 4 = .ok (.aload_n 0, 1) := by decide +kernel
theorem d_E_add_5 : decode c_E_add 5 = .ok (.getfield 28, 3) := by decide +kernel
theorem d_E_add_8 : decode c_E_add 8 = .ok (.iload_n 1, 1) := by decide +kernel
theorem d_E_add_9 : decode c_E_add 9 = .ok (.iastore, 1) := by decide +kernel
theorem d_E_add_10 : decode c_E_add 10 = .ok (.aload_n 0, 1) := by decide +kernel
theorem d_E_add_11 : decode c_E_add 11 = .ok (.getfield 15, 3) := by decide +kernel
theorem d_E_add_14 : decode c_E_add 14 = .ok (.aload_n 0, 1) := by decide +kernel
theorem d_E_add_15 : decode c_E_add 15 = .ok (.getfield 28, 3) := by decide +kernel
theorem d_E_add_18 : decode c_E_add 18 = .ok (.iload_n 2, 1) := by decide +kernel
theorem d_E_add_19 : decode c_E_add 19 = .ok (.iastore, 1) := by decide +kernel
theorem d_E_add_20 : decode c_E_add 20 = .ok (.aload_n 0, 1) := by decide +kernel
theorem d_E_add_21 : decode c_E_add 21 = .ok (.getfield 18, 3) := by decide +kernel
theorem d_E_add_24 : decode c_E_add 24 = .ok (.aload_n 0, 1) := by decide +kernel
theorem d_E_add_25 : decode c_E_add 25 = .ok (.getfield 28, 3) := by decide +kernel
theorem d_E_add_28 : decode c_E_add 28 = .ok (.iload_n 3, 1) := by decide +kernel
theorem d_E_add_29 : decode c_E_add 29 = .ok (.iastore, 1) := by decide +kernel
theorem d_E_add_30 : decode c_E_add 30 = .ok (.aload_n 0, 1) := by decide +kernel
theorem d_E_add_31 : decode c_E_add 31 = .ok (.getfield 21, 3) := by decide +kernel
theorem d_E_add_34 : decode c_E_add 34 = .ok (.aload_n 0, 1) := by decide +kernel
theorem d_E_add_35 : decode c_E_add 35 = .ok (.getfield 28, 3) := by decide +kernel
theorem d_E_add_38 : decode c_E_add 38 = .ok (.iload 4, 2) := by decide +kernel
theorem d_E_add_40 : decode c_E_add 40 = .ok (.bastore, 1) := by decide +kernel
theorem d_E_add_41 : decode c_E_add 41 = .ok (.aload_n 0, 1) := by decide +kernel
theorem d_E_add_42 : decode c_E_add 42 = .ok (.getfield 25, 3) := by decide +kernel
theorem d_E_add_45 : decode c_E_add 45 = .ok (.aload_n 0, 1) := by decide +kernel
theorem d_E_add_46 : decode c_E_add 46 = .ok (.getfield 28, 3) := by decide +kernel
theorem d_E_add_49 : decode c_E_add 49 = .ok (.iconst 0, 1) := by decide +kernel
theorem d_E_add_50 : decode c_E_add 50 = .ok (.bastore, 1) := by decide +kernel
theorem d_E_add_51 : decode c_E_add 51 = .ok (.aload_n 0, 1) := by decide +kernel
theorem d_E_add_52 : decode c_E_add 52 = .ok (.dup, 1) := by decide +kernel
theorem d_E_add_53 : decode c_E_add 53 = .ok (.getfield 28, 3) := by decide +kernel
theorem d_E_add_56 : decode c_E_add 56 = .ok (.iconst 1, 1) := by decide +kernel
theorem d_E_add_57 : decode c_E_add 57 = .ok (.iadd, 1) := by decide +kernel
theorem d_E_add_58 : decode c_E_add 58 = .ok (.putfield 28, 3) := by decide +kernel
theorem d_E_add_61 : decode c_E_add 61 = .ok (.return_, 1) := by decide +kernel
theorem d_L_addToPending_0 : decode c_L_addToPending 0 = .ok (.iload_n 1, 1) := by decide +kernel
theorem d_L_addToPending_1 : decode c_L_addToPending 1 = .ok (.iconst 0, 1) := by decide +kernel
theorem d_L_addToPending_2 : decode c_L_addToPending 2 = .ok (.bipush 63, 2) := by decide +kernel
theorem d_L_addToPending_4 : decode c_L_addToPending 4 = .ok (.invokestatic 73, 3) := by decide +kernel
theorem d_L_addToPending_7 : decode c_L_addToPending 7 = .ok (.aload_n 0, 1) := by decide +kernel
theorem d_L_addToPending_8 : decode c_L_addToPending 8 = .ok (.getfield 46, 3) := by decide +kernel
theorem d_L_addToPending_11 : decode c_L_addToPending 11 = .ok (.ifCond .ne 11, 3) := by decide +kernel
theorem d_L_addToPending_14 : decode c_L_addToPending 14 = .ok (.aload_n 0, 1) := by decide +kernel
theorem d_L_addToPending_15 : decode c_L_addToPending 15 = .ok (.getfield 28, 3) := by decide +kernel
theorem d_L_addToPending_18 : decode c_L_addToPending 18 = .ok (.iconst 0, 1) := by decide +kernel
theorem d_L_addToPending_19 : decode c_L_addToPending 19 = .ok (.putfield 50, 3) := by decide +kernel
theorem d_L_addToPending_22 : decode c_L_addToPending 22 = .ok (.aload_n 0, 1) := by decide +kernel
theorem d_L_addToPending_23 : decode c_L_addToPending 23 = .ok (.getfield 28, 3) := by decide +kernel
theorem d_L_addToPending_26 : decode c_L_addToPending 26 = .ok (.getfield 50, 3) := by decide +kernel
theorem d_L_addToPending_29 : decode c_L_addToPending 29 = .ok (.iconst 4, 1) := by decide +kernel
theorem d_L_addToPending_30 : decode c_L_addToPending 30 = .ok (.if_icmp .lt 11, 3) := by decide +kernel
theorem d_L_addToPending_33 : decode c_L_addToPending 33 = .ok (.new 64, 3) := by decide +kernel
theorem d_L_addToPending_36 : decode c_L_addToPending 36 = .ok (.dup, 1) := by decide +kernel
theorem d_L_addToPending_37 : decode c_L_addToPending 37 = .ok (.invokespecial 66, 3) := by decide +kernel
theorem d_L_addToPending_40 : decode c_L_addToPending 40 = .ok (.athrow, 1) := by decide +kernel
theorem d_L_addToPending_41 : decode c_L_addToPending 41 = .ok (.aload_n 0, 1) := by decide +kernel
theorem d_L_addToPending_42 : decode c_L_addToPending 42 = .ok (.getfield 28, 3) := by decide +kernel
theorem d_L_addToPending_45 : decode c_L_addToPending 45 = .ok (.iload_n 1, 1) := by decide +kernel
