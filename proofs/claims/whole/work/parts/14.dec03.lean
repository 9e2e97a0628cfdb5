/-! DECODED INSTRUCTIONS -/
theorem d_S_passes_124 : decode c_S_passes 124 = .ok (.iload 5, 2) := by decide +kernel
theorem d_S_passes_126 : decode c_S_passes 126 = .ok (.ifCond .eq 12, 3) := by decide +kernel
theorem d_S_passes_129 : decode c_S_passes 129 = .ok (.iload 6, 2) := by decide +kernel
theorem d_S_passes_131 : decode c_S_passes 131 = .ok (.ifCond .eq 7, 3) := by decide +kernel
theorem d_S_passes_134 : decode c_S_passes 134 = .ok (.iconst 1, 1) := by decide +kernel
theorem d_S_passes_135 : decode c_S_passes 135 = .ok (.goto 4, 3) := by decide +kernel
theorem d_S_passes_138 : decode c_S_passes 138 = .ok (.iconst 0, 1) := by decide +kernel
theorem d_S_passes_139 : decode c_S_passes 139 = .ok (.ireturn, 1) := by decide +kernel
theorem d_S_firstBlockFor_0 : decode c_S_firstBlockFor 0 = .ok (.aload_n 0, 1) := by decide +kernel
theorem d_S_firstBlockFor_1 : decode c_S_firstBlockFor 1 = .ok (.getfield 27, 3) := by decide +kernel
theorem d_S_firstBlockFor_4 : decode c_S_firstBlockFor 4 = .ok (.iload_n 1, 1) := by decide +kernel
theorem d_S_firstBlockFor_5 : decode c_S_firstBlockFor 5 = .ok (.iaload, 1) := by decide +kernel
theorem d_S_firstBlockFor_6 : decode c_S_firstBlockFor 6 = .ok (.istore_n 3, 1) := by decide +kernel
theorem d_S_firstBlockFor_7 : decode c_S_firstBlockFor 7 = .ok (.iload_n 3, 1) := by decide +kernel
theorem d_S_firstBlockFor_8 : decode c_S_firstBlockFor 8 = .ok (.aload_n 0, 1) := by decide +kernel
theorem d_S_firstBlockFor_9 : decode c_S_firstBlockFor 9 = .ok (.getfield 27, 3) := by decide +kernel
theorem d_S_firstBlockFor_12 : decode c_S_firstBlockFor 12 = .ok (.iload_n 1, 1) := by decide +kernel
theorem d_S_firstBlockFor_13 : decode c_S_firstBlockFor 13 = .ok (.iconst 1, 1) := by decide +kernel
theorem d_S_firstBlockFor_14 : decode c_S_firstBlockFor 14 = .ok (.iadd, 1) := by decide +kernel
theorem d_S_firstBlockFor_15 : decode c_S_firstBlockFor 15 = .ok (.iaload, 1) := by decide +kernel
theorem d_S_firstBlockFor_16 : decode c_S_firstBlockFor 16 = .ok (.if_icmp .ge 22, 3) := by decide +kernel
theorem d_S_firstBlockFor_19 : decode c_S_firstBlockFor 19 = .ok (.aload_n 0, 1) := by decide +kernel
theorem d_S_firstBlockFor_20 : decode c_S_firstBlockFor 20 = .ok (.getfield 14, 3) := by decide +kernel
theorem d_S_firstBlockFor_23 : decode c_S_firstBlockFor 23 = .ok (.getfield 45, 3) := by decide +kernel
theorem d_S_firstBlockFor_26 : decode c_S_firstBlockFor 26 = .ok (.iload_n 3, 1) := by decide +kernel
theorem d_S_firstBlockFor_27 : decode c_S_firstBlockFor 27 = .ok (.iaload, 1) := by decide +kernel
theorem d_S_firstBlockFor_28 : decode c_S_firstBlockFor 28 = .ok (.iload_n 2, 1) := by decide +kernel
theorem d_S_firstBlockFor_29 : decode c_S_firstBlockFor 29 = .ok (.if_icmp .ge 9, 3) := by decide +kernel
theorem d_S_firstBlockFor_32 : decode c_S_firstBlockFor 32 = .ok (.iinc 3 1, 3) := by decide +kernel
theorem d_S_firstBlockFor_35 : decode c_S_firstBlockFor 35 = .ok (.goto (-28), 3) := by decide +kernel
theorem d_S_firstBlockFor_38 : decode c_S_firstBlockFor 38 = .ok (.iload_n 3, 1) := by decide +kernel
theorem d_S_firstBlockFor_39 : decode c_S_firstBlockFor 39 = .ok (.iload_n 3, 1) := by decide +kernel
theorem d_S_firstBlockFor_40 : decode c_S_firstBlockFor 40 = .ok (.aload_n 0, 1) := by decide +kernel
theorem d_S_firstBlockFor_41 : decode c_S_firstBlockFor 41 = .ok (.getfield 27, 3) := by decide +kernel
theorem d_S_firstBlockFor_44 : decode c_S_firstBlockFor 44 = .ok (.iload_n 1, 1) := by decide +kernel
theorem d_S_firstBlockFor_45 : decode c_S_firstBlockFor 45 = .ok (.iaload, 1) := by decide +kernel
theorem d_S_firstBlockFor_46 : decode c_S_firstBlockFor 46 = .ok (.isub, 1) := by decide +kernel
theorem d_S_firstBlockFor_47 : decode c_S_firstBlockFor 47 = .ok (.iconst 4, 1) := by decide +kernel
theorem d_S_firstBlockFor_48 : decode c_S_firstBlockFor 48 = .ok (.irem, 1) := by decide +kernel
theorem d_S_firstBlockFor_49 : decode c_S_firstBlockFor 49 = .ok (.isub, 1) := by decide +kernel
theorem d_S_firstBlockFor_50 : decode c_S_firstBlockFor 50 = .ok (.ireturn, 1) := by decide +kernel
theorem d_E_rowOf_0 : decode c_E_rowOf 0 = .ok (.iload_n 3, 1) := by decide +kernel
theorem d_E_rowOf_1 : decode c_E_rowOf 1 = .ok (.istore 5, 2) := by decide +kernel
theorem d_E_rowOf_3 : decode c_E_rowOf 3 = .ok (.iload 5, 2) := by decide +kernel
theorem d_E_rowOf_5 : decode c_E_rowOf 5 = .ok (.iload 4, 2) := by decide +kernel
theorem d_E_rowOf_7 : decode c_E_rowOf 7 = .ok (.if_icmp .ge 34, 3) := by decide +kernel
theorem d_E_rowOf_10 : decode c_E_rowOf 10 = .ok (.aload_n 0, 1) := by decide +kernel
theorem d_E_rowOf_11 : decode c_E_rowOf 11 = .ok (.getfield 9, 3) := by decide +kernel
theorem d_E_rowOf_14 : decode c_E_rowOf 14 = .ok (.iload 5, 2) := by decide +kernel
theorem d_E_rowOf_16 : decode c_E_rowOf 16 = .ok (.iaload, 1) := by decide +kernel
theorem d_E_rowOf_17 : decode c_E_rowOf 17 = .ok (.iload_n 1, 1) := by decide +kernel
theorem d_E_rowOf_18 : decode c_E_rowOf 18 = .ok (.if_icmp .ne 17, 3) := by decide +kernel
theorem d_E_rowOf_21 : decode c_E_rowOf 21 = .ok (.aload_n 0, 1) := by decide +kernel
theorem d_E_rowOf_22 : decode c_E_rowOf 22 = .ok (.getfield 15, 3) := by decide +kernel
theorem d_E_rowOf_25 : decode c_E_rowOf 25 = .ok (.iload 5, 2) := by decide +kernel
theorem d_E_rowOf_27 : decode c_E_rowOf 27 = .ok (.iaload, 1) := by decide +kernel
theorem d_E_rowOf_28 : decode c_E_rowOf 28 = .ok (.iload_n 2, 1) := by decide +kernel
theorem d_E_rowOf_29 : decode c_E_rowOf 29 = .ok (.if_icmp .gt 6, 3) := by decide +kernel
theorem d_E_rowOf_32 : decode c_E_rowOf 32 = .ok (.iload 5, 2) := by decide +kernel
theorem d_E_rowOf_34 : decode c_E_rowOf 34 = .ok (.ireturn, 1) := by decide +kernel
theorem d_E_rowOf_35 : decode c_E_rowOf 35 = .ok (.iinc 5 1, 3) := by decide +kernel
theorem d_E_rowOf_38 : decode c_E_rowOf 38 = .ok (.goto (-35), 3) := by decide +kernel
theorem d_E_rowOf_41 : decode c_E_rowOf 41 = .ok (.iconst (-1), 1) := by decide +kernel
theorem d_E_rowOf_42 : decode c_E_rowOf 42 = .ok (.ireturn, 1) := by decide +kernel
theorem d_L_lookInTable_0 : decode c_L_lookInTable 0 = .ok (.aload_n 0, 1) := by decide +kernel
theorem d_L_lookInTable_1 : decode c_L_lookInTable 1 = .ok (.getfield 19, 3) := by decide +kernel
theorem d_L_lookInTable_4 : decode c_L_lookInTable 4 = .ok (.getfield 86, 3) := by decide +kernel
theorem d_L_lookInTable_7 : decode c_L_lookInTable 7 = .ok (.astore 4, 2) := by decide +kernel
theorem d_L_lookInTable_9 : decode c_L_lookInTable 9 = .ok (.aload 4, 2) := by decide +kernel
theorem d_L_lookInTable_11 : decode c_L_lookInTable 11 = .ok (.iload_n 1, 1) := by decide +kernel
theorem d_L_lookInTable_12 : decode c_L_lookInTable 12 = .ok (.iload_n 2, 1) := by decide +kernel
theorem d_L_lookInTable_13 : decode c_L_lookInTable 13 = .ok (.invokevirtual 231, 3) := by decide +kernel
theorem d_L_lookInTable_16 : decode c_L_lookInTable 16 = .ok (.ifCond .ne 15, 3) := by decide +kernel
theorem d_L_lookInTable_19 : decode c_L_lookInTable 19 = .ok (.aload_n 0, 1) := by decide +kernel
theorem d_L_lookInTable_20 : decode c_L_lookInTable 20 = .ok (.dup, 1) := by decide +kernel
theorem d_L_lookInTable_21 : decode c_L_lookInTable 21 = .ok (.getfield 181, 3) := by decide +kernel
theorem d_L_lookInTable_24 : decode c_L_lookInTable 24 = .ok (.iconst 1, 1) := by decide +kernel
theorem d_L_lookInTable_25 : decode c_L_lookInTable 25 = .ok (.iadd, 1) := by decide +kernel
theorem d_L_lookInTable_26 : decode c_L_lookInTable 26 = .ok (.putfield 181, 3) := by decide +kernel
theorem d_L_lookInTable_29 : decode c_L_lookInTable 29 = .ok (.iconst (-1), 1) := by decide +kernel
theorem d_L_lookInTable_30 : decode c_L_lookInTable 30 = .ok (.ireturn, 1) := by decide +kernel
theorem d_L_lookInTable_31 : decode c_L_lookInTable 31 = .ok (.aload 4, 2) := by decide +kernel
theorem d_L_lookInTable_33 : decode c_L_lookInTable 33 = .ok (.getfield 234, 3) := by decide +kernel
theorem d_L_lookInTable_36 : decode c_L_lookInTable 36 = .ok (.iload_n 1, 1) := by decide +kernel
theorem d_L_lookInTable_37 : decode c_L_lookInTable 37 = .ok (.iconst 1, 1) := by decide +kernel
theorem d_L_lookInTable_38 : decode c_L_lookInTable 38 = .ok (.iadd, 1) := by decide +kernel
theorem d_L_lookInTable_39 : decode c_L_lookInTable 39 = .ok (.iaload, 1) := by decide +kernel
theorem d_L_lookInTable_40 : decode c_L_lookInTable 40 = .ok (.istore 5, 2) := by decide +kernel
theorem d_L_lookInTable_42 : decode c_L_lookInTable 42 = .ok (.aload 4, 2) := by decide +kernel
theorem d_L_lookInTable_44 : decode c_L_lookInTable 44 = .ok (.iload_n 1, 1) := by decide +kernel
theorem d_L_lookInTable_45 : decode c_L_lookInTable 45 = .ok (.iload_n 2, 1) := by decide +kernel
theorem d_L_lookInTable_46 : decode c_L_lookInTable 46 = .ok (.invokevirtual 237, 3) := by decide +kernel
theorem d_L_lookInTable_49 : decode c_L_lookInTable 49 = .ok (.istore 6, 2) := by decide +kernel
theorem d_L_lookInTable_51 : decode c_L_lookInTable 51 = .ok (.iload 6, 2) := by decide +kernel
theorem d_L_lookInTable_53 : decode c_L_lookInTable 53 = .ok (.iload 5, 2) := by decide +kernel
theorem d_L_lookInTable_55 : decode c_L_lookInTable 55 = .ok (.if_icmp .ge 94, 3) := by decide +kernel
theorem d_L_lookInTable_58 : decode c_L_lookInTable 58 = .ok (.aload_n 0, 1) := by decide +kernel
theorem d_L_lookInTable_59 : decode c_L_lookInTable 59 = .ok (.dup, 1) := by decide +kernel
theorem d_L_lookInTable_60 : decode c_L_lookInTable 60 = .ok (.getfield 154, 3) := by decide +kernel
theorem d_L_lookInTable_63 : decode c_L_lookInTable 63 = .ok (.iconst 1, 1) := by decide +kernel
theorem d_L_lookInTable_64 : decode c_L_lookInTable 64 = .ok (.iadd, 1) := by decide +kernel
theorem d_L_lookInTable_65 : decode c_L_lookInTable 65 = .ok (.putfield 154, 3) := by decide +kernel
theorem d_L_lookInTable_68 : decode c_L_lookInTable 68 = .ok (.aload 4, 2) := by decide +kernel
theorem d_L_lookInTable_70 : decode c_L_lookInTable 70 = .ok (.getfield 90, 3) := by decide +kernel
theorem d_L_lookInTable_73 : decode c_L_lookInTable 73 = .ok (.getfield 240, 3) := by decide +kernel
theorem d_L_lookInTable_76 : decode c_L_lookInTable 76 = .ok (.iload 6, 2) := by decide +kernel
theorem d_L_lookInTable_78 : decode c_L_lookInTable 78 = .ok (.baload, 1) := by decide +kernel
theorem d_L_lookInTable_79 : decode c_L_lookInTable 79 = .ok (.ifCond .eq 11, 3) := by decide +kernel
theorem d_L_lookInTable_82 : decode c_L_lookInTable 82 = .ok (.new 58, 3) := by decide +kernel
theorem d_L_lookInTable_85 : decode c_L_lookInTable 85 = .ok (.dup, 1) := by decide +kernel
theorem d_L_lookInTable_86 : decode c_L_lookInTable 86 = .ok (.invokespecial 60, 3) := by decide +kernel
theorem d_L_lookInTable_89 : decode c_L_lookInTable 89 = .ok (.athrow, 1) := by decide +kernel
theorem d_L_lookInTable_90 : decode c_L_lookInTable 90 = .ok (.iload 6, 2) := by decide +kernel
theorem d_L_lookInTable_92 : decode c_L_lookInTable 92 = .ok (.iconst 4, 1) := by decide +kernel
theorem d_L_lookInTable_93 : decode c_L_lookInTable 93 = .ok (.iadd, 1) := by decide +kernel
theorem d_L_lookInTable_94 : decode c_L_lookInTable 94 = .ok (.iload 5, 2) := by decide +kernel
theorem d_L_lookInTable_96 : decode c_L_lookInTable 96 = .ok (.invokestatic 199, 3) := by decide +kernel
theorem d_L_lookInTable_99 : decode c_L_lookInTable 99 = .ok (.istore 7, 2) := by decide +kernel
theorem d_L_lookInTable_101 : decode c_L_lookInTable 101 = .ok (.aload 4, 2) := by decide +kernel
theorem d_L_lookInTable_103 : decode c_L_lookInTable 103 = .ok (.getfield 90, 3) := by decide +kernel
theorem d_L_lookInTable_106 : decode c_L_lookInTable 106 = .ok (.iload_n 2, 1) := by decide +kernel
theorem d_L_lookInTable_107 : decode c_L_lookInTable 107 = .ok (.iload_n 3, 1) := by decide +kernel
theorem d_L_lookInTable_108 : decode c_L_lookInTable 108 = .ok (.iload 6, 2) := by decide +kernel
theorem d_L_lookInTable_110 : decode c_L_lookInTable 110 = .ok (.iload 7, 2) := by decide +kernel
theorem d_L_lookInTable_112 : decode c_L_lookInTable 112 = .ok (.invokevirtual 243, 3) := by decide +kernel
theorem d_L_lookInTable_115 : decode c_L_lookInTable 115 = .ok (.istore 8, 2) := by decide +kernel
theorem d_L_lookInTable_117 : decode c_L_lookInTable 117 = .ok (.iload 8, 2) := by decide +kernel
theorem d_L_lookInTable_119 : decode c_L_lookInTable 119 = .ok (.iconst (-1), 1) := by decide +kernel
theorem d_L_lookInTable_120 : decode c_L_lookInTable 120 = .ok (.if_icmp .ne 20, 3) := by decide +kernel
theorem d_L_lookInTable_123 : decode c_L_lookInTable 123 = .ok (.aload 4, 2) := by decide +kernel
theorem d_L_lookInTable_125 : decode c_L_lookInTable 125 = .ok (.getfield 90, 3) := by decide +kernel
theorem d_L_lookInTable_128 : decode c_L_lookInTable 128 = .ok (.getfield 246, 3) := by decide +kernel
theorem d_L_lookInTable_131 : decode c_L_lookInTable 131 = .ok (.iload 7, 2) := by decide +kernel
theorem d_L_lookInTable_133 : decode c_L_lookInTable 133 = .ok (.iconst 1, 1) := by decide +kernel
theorem d_L_lookInTable_134 : decode c_L_lookInTable 134 = .ok (.isub, 1) := by decide +kernel
theorem d_L_lookInTable_135 : decode c_L_lookInTable 135 = .ok (.iaload, 1) := by decide +kernel
theorem d_L_lookInTable_136 : decode c_L_lookInTable 136 = .ok (.iload_n 2, 1) := by decide +kernel
theorem d_L_lookInTable_137 : decode c_L_lookInTable 137 = .ok (.if_icmp .le 6, 3) := by decide +kernel
theorem d_L_lookInTable_140 : decode c_L_lookInTable 140 = .ok (.iload 8, 2) := by decide +kernel
theorem d_L_lookInTable_142 : decode c_L_lookInTable 142 = .ok (.ireturn, 1) := by decide +kernel
theorem d_L_lookInTable_143 : decode c_L_lookInTable 143 = .ok (.iinc 6 4, 3) := by decide +kernel
theorem d_L_lookInTable_146 : decode c_L_lookInTable 146 = .ok (.goto (-95), 3) := by decide +kernel
theorem d_L_lookInTable_149 : decode c_L_lookInTable 149 = .ok (.iconst (-1), 1) := by decide +kernel
theorem d_L_lookInTable_150 : decode c_L_lookInTable 150 = .ok (.ireturn, 1) := by decide +kernel
theorem d_L_lookInTables_0 : decode c_L_lookInTables 0 = .ok (.iconst 0, 1) := by decide +kernel
theorem d_L_lookInTables_1 : decode c_L_lookInTables 1 = .ok (.istore_n 3, 1) := by decide +kernel
theorem d_L_lookInTables_2 : decode c_L_lookInTables 2 = .ok (.iload_n 3, 1) := by decide +kernel
theorem d_L_lookInTables_3 : decode c_L_lookInTables 3 = .ok (.aload_n 0, 1) := by decide +kernel
theorem d_L_lookInTables_4 : decode c_L_lookInTables 4 = .ok (.getfield 19, 3) := by decide +kernel
theorem d_L_lookInTables_7 : decode c_L_lookInTables 7 = .ok (.getfield 86, 3) := by decide +kernel
theorem d_L_lookInTables_10 : decode c_L_lookInTables 10 = .ok (.getfield 112, 3) := by decide +kernel
theorem d_L_lookInTables_13 : decode c_L_lookInTables 13 = .ok (.if_icmp .ge 42, 3) := by decide +kernel
theorem d_L_lookInTables_16 : decode c_L_lookInTables 16 = .ok (.aload_n 0, 1) := by decide +kernel
theorem d_L_lookInTables_17 : decode c_L_lookInTables 17 = .ok (.getfield 19, 3) := by decide +kernel
theorem d_L_lookInTables_20 : decode c_L_lookInTables 20 = .ok (.getfield 86, 3) := by decide +kernel
theorem d_L_lookInTables_23 : decode c_L_lookInTables 23 = .ok (.iload_n 3, 1) := by decide +kernel
theorem d_L_lookInTables_24 : decode c_L_lookInTables 24 = .ok (.iload_n 1, 1) := by decide +kernel
theorem d_L_lookInTables_25 : decode c_L_lookInTables 25 = .ok (.invokevirtual 224, 3) := by decide +kernel
theorem d_L_lookInTables_28 : decode c_L_lookInTables 28 = .ok (.ifCond .eq 21, 3) := by decide +kernel
theorem d_L_lookInTables_31 : decode c_L_lookInTables 31 = .ok (.aload_n 0, 1) := by decide +kernel
theorem d_L_lookInTables_32 : decode c_L_lookInTables 32 = .ok (.iload_n 3, 1) := by decide +kernel
theorem d_L_lookInTables_33 : decode c_L_lookInTables 33 = .ok (.iload_n 1, 1) := by decide +kernel
theorem d_L_lookInTables_34 : decode c_L_lookInTables 34 = .ok (.iload_n 2, 1) := by decide +kernel
theorem d_L_lookInTables_35 : decode c_L_lookInTables 35 = .ok (.invokevirtual 227, 3) := by decide +kernel
theorem d_L_lookInTables_38 : decode c_L_lookInTables 38 = .ok (.istore 4, 2) := by decide +kernel
theorem d_L_lookInTables_40 : decode c_L_lookInTables 40 = .ok (.iload 4, 2) := by decide +kernel
theorem d_L_lookInTables_42 : decode c_L_lookInTables 42 = .ok (.iconst (-1), 1) := by decide +kernel
theorem d_L_lookInTables_43 : decode c_L_lookInTables 43 = .ok (.if_icmp .eq 6, 3) := by decide +kernel
theorem d_L_lookInTables_46 : decode c_L_lookInTables 46 = .ok (.iload 4, 2) := by decide +kernel
theorem d_L_lookInTables_48 : decode c_L_lookInTables 48 = .ok (.ireturn, 1) := by decide +kernel
theorem d_L_lookInTables_49 : decode c_L_lookInTables 49 = .ok (.iinc 3 1, 3) := by decide +kernel
theorem d_L_lookInTables_52 : decode c_L_lookInTables 52 = .ok (.goto (-50), 3) := by decide +kernel
theorem d_L_lookInTables_55 : decode c_L_lookInTables 55 = .ok (.iconst (-1), 1) := by decide +kernel
theorem d_L_lookInTables_56 : decode c_L_lookInTables 56 = .ok (.ireturn, 1) := by decide +kernel
theorem d_L_get_0 : decode c_L_get 0 = .ok (.iload_n 1, 1) := by decide +kernel
theorem d_L_get_1 : decode c_L_get 1 = .ok (.iconst 0, 1) := by decide +kernel
theorem d_L_get_2 : decode c_L_get 2 = .ok (.bipush 63, 2) := by decide +kernel
theorem d_L_get_4 : decode c_L_get 4 = .ok (.invokestatic 73, 3) := by decide +kernel
theorem d_L_get_7 : decode c_L_get 7 = .ok (.aload_n 0, 1) := by decide +kernel
theorem d_L_get_8 : decode c_L_get 8 = .ok (.iload_n 2, 1) := by decide +kernel
theorem d_L_get_9 : decode c_L_get 9 = .ok (.invokevirtual 115, 3) := by decide +kernel
theorem d_L_get_12 : decode c_L_get 12 = .ok (.istore_n 3, 1) := by decide +kernel
theorem d_L_get_13 : decode c_L_get 13 = .ok (.aload_n 0, 1) := by decide +kernel
theorem d_L_get_14 : decode c_L_get 14 = .ok (.dup, 1) := by decide +kernel
theorem d_L_get_15 : decode c_L_get 15 = .ok (.getfield 119, 3) := by decide +kernel
theorem d_L_get_18 : decode c_L_get 18 = .ok (.iconst 1, 1) := by decide +kernel
theorem d_L_get_19 : decode c_L_get 19 = .ok (.iadd, 1) := by decide +kernel
theorem d_L_get_20 : decode c_L_get 20 = .ok (.putfield 119, 3) := by decide +kernel
theorem d_L_get_23 : decode c_L_get 23 = .ok (.aload_n 0, 1) := by decide +kernel
theorem d_L_get_24 : decode c_L_get 24 = .ok (.getfield 10, 3) := by decide +kernel
theorem d_L_get_27 : decode c_L_get 27 = .ok (.iload_n 1, 1) := by decide +kernel
theorem d_L_get_28 : decode c_L_get 28 = .ok (.iload_n 3, 1) := by decide +kernel
theorem d_L_get_29 : decode c_L_get 29 = .ok (.invokevirtual 122, 3) := by decide +kernel
theorem d_L_get_32 : decode c_L_get 32 = .ok (.istore 4, 2) := by decide +kernel
theorem d_L_get_34 : decode c_L_get 34 = .ok (.iload 4, 2) := by decide +kernel
theorem d_L_get_36 : decode c_L_get 36 = .ok (.iconst (-1), 1) := by decide +kernel
theorem d_L_get_37 : decode c_L_get 37 = .ok (.if_icmp .eq 16, 3) := by decide +kernel
theorem d_L_get_40 : decode c_L_get 40 = .ok (.aload_n 0, 1) := by decide +kernel
theorem d_L_get_41 : decode c_L_get 41 = .ok (.getfield 10, 3) := by decide +kernel
theorem d_L_get_44 : decode c_L_get 44 = .ok (.getfield 80, 3) := by decide +kernel
theorem d_L_get_47 : decode c_L_get 47 = .ok (.iload 4, 2) := by decide +kernel
theorem d_L_get_49 : decode c_L_get 49 = .ok (.invokestatic 125, 3) := by decide +kernel
theorem d_L_get_52 : decode c_L_get 52 = .ok (.ireturn, 1) := by decide +kernel
theorem d_L_get_53 : decode c_L_get 53 = .ok (.aload_n 0, 1) := by decide +kernel
theorem d_L_get_54 : decode c_L_get 54 = .ok (.iload_n 1, 1) := by decide +kernel
theorem d_L_get_55 : decode c_L_get 55 = .ok (.iload_n 3, 1) := by decide +kernel
theorem d_L_get_56 : decode c_L_get 56 = .ok (.invokevirtual 129, 3) := by decide +kernel
theorem d_L_get_59 : decode c_L_get 59 = .ok (.istore 4, 2) := by decide +kernel
theorem d_L_get_61 : decode c_L_get 61 = .ok (.iload 4, 2) := by decide +kernel
theorem d_L_get_63 : decode c_L_get 63 = .ok (.iconst (-1), 1) := by decide +kernel
theorem d_L_get_64 : decode c_L_get 64 = .ok (.if_icmp .ne 11, 3) := by decide +kernel
theorem d_L_get_67 : decode c_L_get 67 = .ok (.new 132, 3) := by decide +kernel
theorem d_L_get_70 : decode c_L_get 70 = .ok (.dup, 1) := by decide +kernel
theorem d_L_get_71 : decode c_L_get 71 = .ok (.invokespecial 134, 3) := by decide +kernel
theorem d_L_get_74 : decode c_L_get 74 = .ok (.athrow, 1) := by decide +kernel
theorem d_L_get_75 : decode c_L_get 75 = .ok (.aload_n 0, 1) := by decide +kernel
theorem d_L_get_76 : decode c_L_get 76 = .ok (.getfield 19, 3) := by decide +kernel
theorem d_L_get_79 : decode c_L_get 79 = .ok (.getfield 86, 3) := by decide +kernel
theorem d_L_get_82 : decode c_L_get 82 = .ok (.getfield 90, 3) := by decide +kernel
theorem d_L_get_85 : decode c_L_get 85 = .ok (.iload 4, 2) := by decide +kernel
theorem d_L_get_87 : decode c_L_get 87 = .ok (.invokestatic 125, 3) := by decide +kernel
theorem d_L_get_90 : decode c_L_get 90 = .ok (.ireturn, 1) := by decide +kernel
theorem d_W_get_0 : decode c_W_get 0 = .ok (.aload_n 3, 1) := by decide +kernel
theorem d_W_get_1 : decode c_W_get 1 = .ok (.iconst 0, 1) := by decide +kernel
theorem d_W_get_2 : decode c_W_get 2 = .ok (.aload_n 0, 1) := by decide +kernel
theorem d_W_get_3 : decode c_W_get 3 = .ok (.iload_n 1, 1) := by decide +kernel
theorem d_W_get_4 : decode c_W_get 4 = .ok (.iload_n 2, 1) := by decide +kernel
theorem d_W_get_5 : decode c_W_get 5 = .ok (.invokevirtual 37, 3) := by decide +kernel
theorem d_W_get_8 : decode c_W_get 8 = .ok (.i2l, 1) := by decide +kernel
theorem d_W_get_9 : decode c_W_get 9 = .ok (.lastore, 1) := by decide +kernel
theorem d_W_get_10 : decode c_W_get 10 = .ok (.goto 19, 3) := by decide +kernel
theorem d_W_get_13 : decode c_W_get 13 = .ok (.astore 4, 2) := by decide +kernel
theorem d_W_get_15 : decode c_W_get 15 = .ok (.iconst 1, 1) := by decide +kernel
theorem d_W_get_16 : decode c_W_get 16 = .ok (.ireturn, 1) := by decide +kernel
theorem d_W_get_17 : decode c_W_get 17 = .ok (.astore 4, 2) := by decide +kernel
theorem d_W_get_19 : decode c_W_get 19 = .ok (.iconst 2, 1) := by decide +kernel
theorem d_W_get_20 : decode c_W_get 20 = .ok (.ireturn, 1) := by decide +kernel
theorem d_W_get_21 : decode c_W_get 21 = .ok (.astore 4, 2) := by decide +kernel
theorem d_W_get_23 : decode c_W_get 23 = .ok (.iconst 3, 1) := by decide +kernel
theorem d_W_get_24 : decode c_W_get 24 = .ok (.ireturn, 1) := by decide +kernel
theorem d_W_get_25 : decode c_W_get 25 = .ok (.astore 4, 2) := by decide +kernel
theorem d_W_get_27 : decode c_W_get 27 = .ok (.iconst 4, 1) := by decide +kernel
theorem d_W_get_28 : decode c_W_get 28 = .ok (.ireturn, 1) := by decide +kernel
theorem d_W_get_29 : decode c_W_get 29 = .ok (.iconst 0, 1) := by decide +kernel
theorem d_W_get_30 : decode c_W_get 30 = .ok (.ireturn, 1) := by decide +kernel
theorem d_L_hasValue_0 : decode c_L_hasValue 0 = .ok (.aload_n 0, 1) := by decide +kernel
theorem d_L_hasValue_1 : decode c_L_hasValue 1 = .ok (.getfield 10, 3) := by decide +kernel
theorem d_L_hasValue_4 : decode c_L_hasValue 4 = .ok (.iload_n 1, 1) := by decide +kernel
theorem d_L_hasValue_5 : decode c_L_hasValue 5 = .ok (.iload_n 2, 1) := by decide +kernel
theorem d_L_hasValue_6 : decode c_L_hasValue 6 = .ok (.invokevirtual 122, 3) := by decide +kernel
theorem d_L_hasValue_9 : decode c_L_hasValue 9 = .ok (.istore_n 3, 1) := by decide +kernel
theorem d_L_hasValue_10 : decode c_L_hasValue 10 = .ok (.iload_n 3, 1) := by decide +kernel
theorem d_L_hasValue_11 : decode c_L_hasValue 11 = .ok (.iconst (-1), 1) := by decide +kernel
theorem d_L_hasValue_12 : decode c_L_hasValue 12 = .ok (.if_icmp .eq 24, 3) := by decide +kernel
theorem d_L_hasValue_15 : decode c_L_hasValue 15 = .ok (.aload_n 0, 1) := by decide +kernel
theorem d_L_hasValue_16 : decode c_L_hasValue 16 = .ok (.getfield 10, 3) := by decide +kernel
theorem d_L_hasValue_19 : decode c_L_hasValue 19 = .ok (.getfield 80, 3) := by decide +kernel
theorem d_L_hasValue_22 : decode c_L_hasValue 22 = .ok (.getfield 217, 3) := by decide +kernel
theorem d_L_hasValue_25 : decode c_L_hasValue 25 = .ok (.iload_n 3, 1) := by decide +kernel
theorem d_L_hasValue_26 : decode c_L_hasValue 26 = .ok (.baload, 1) := by decide +kernel
theorem d_L_hasValue_27 : decode c_L_hasValue 27 = .ok (.ifCond .ne 7, 3) := by decide +kernel
theorem d_L_hasValue_30 : decode c_L_hasValue 30 = .ok (.iconst 1, 1) := by decide +kernel
theorem d_L_hasValue_31 : decode c_L_hasValue 31 = .ok (.goto 4, 3) := by decide +kernel
theorem d_L_hasValue_34 : decode c_L_hasValue 34 = .ok (.iconst 0, 1) := by decide +kernel
theorem d_L_hasValue_35 : decode c_L_hasValue 35 = .ok (.ireturn, 1) := by decide +kernel
theorem d_L_hasValue_36 : decode c_L_hasValue 36 = .ok (.aload_n 0, 1) := by decide +kernel
theorem d_L_hasValue_37 : decode c_L_hasValue 37 = .ok (.getfield 19, 3) := by decide +kernel
theorem d_L_hasValue_40 : decode c_L_hasValue 40 = .ok (.getfield 86, 3) := by decide +kernel
theorem d_L_hasValue_43 : decode c_L_hasValue 43 = .ok (.astore 4, 2) := by decide +kernel
theorem d_L_hasValue_45 : decode c_L_hasValue 45 = .ok (.iconst 0, 1) := by decide +kernel
theorem d_L_hasValue_46 : decode c_L_hasValue 46 = .ok (.istore 5, 2) := by decide +kernel
theorem d_L_hasValue_48 : decode c_L_hasValue 48 = .ok (.iload 5, 2) := by decide +kernel
theorem d_L_hasValue_50 : decode c_L_hasValue 50 = .ok (.aload 4, 2) := by decide +kernel
theorem d_L_hasValue_52 : decode c_L_hasValue 52 = .ok (.getfield 112, 3) := by decide +kernel
theorem d_L_hasValue_55 : decode c_L_hasValue 55 = .ok (.if_icmp .ge 73, 3) := by decide +kernel
theorem d_L_hasValue_58 : decode c_L_hasValue 58 = .ok (.aload 4, 2) := by decide +kernel
theorem d_L_hasValue_60 : decode c_L_hasValue 60 = .ok (.iload 5, 2) := by decide +kernel
theorem d_L_hasValue_62 : decode c_L_hasValue 62 = .ok (.iload_n 1, 1) := by decide +kernel
theorem d_L_hasValue_63 : decode c_L_hasValue 63 = .ok (.invokevirtual 224, 3) := by decide +kernel
theorem d_L_hasValue_66 : decode c_L_hasValue 66 = .ok (.ifCond .eq 56, 3) := by decide +kernel
theorem d_L_hasValue_69 : decode c_L_hasValue 69 = .ok (.aload 4, 2) := by decide +kernel
theorem d_L_hasValue_71 : decode c_L_hasValue 71 = .ok (.getfield 90, 3) := by decide +kernel
theorem d_L_hasValue_74 : decode c_L_hasValue 74 = .ok (.iload_n 1, 1) := by decide +kernel
theorem d_L_hasValue_75 : decode c_L_hasValue 75 = .ok (.iload_n 2, 1) := by decide +kernel
theorem d_L_hasValue_76 : decode c_L_hasValue 76 = .ok (.aload 4, 2) := by decide +kernel
theorem d_L_hasValue_78 : decode c_L_hasValue 78 = .ok (.getfield 234, 3) := by decide +kernel
theorem d_L_hasValue_81 : decode c_L_hasValue 81 = .ok (.iload 5, 2) := by decide +kernel
theorem d_L_hasValue_83 : decode c_L_hasValue 83 = .ok (.iaload, 1) := by decide +kernel
theorem d_L_hasValue_84 : decode c_L_hasValue 84 = .ok (.aload 4, 2) := by decide +kernel
theorem d_L_hasValue_86 : decode c_L_hasValue 86 = .ok (.getfield 234, 3) := by decide +kernel
theorem d_L_hasValue_89 : decode c_L_hasValue 89 = .ok (.iload 5, 2) := by decide +kernel
theorem d_L_hasValue_91 : decode c_L_hasValue 91 = .ok (.iconst 1, 1) := by decide +kernel
theorem d_L_hasValue_92 : decode c_L_hasValue 92 = .ok (.iadd, 1) := by decide +kernel
theorem d_L_hasValue_93 : decode c_L_hasValue 93 = .ok (.iaload, 1) := by decide +kernel
theorem d_L_hasValue_94 : decode c_L_hasValue 94 = .ok (.invokevirtual 243, 3) := by decide +kernel
theorem d_L_hasValue_97 : decode c_L_hasValue 97 = .ok (.istore_n 3, 1) := by decide +kernel
theorem d_L_hasValue_98 : decode c_L_hasValue 98 = .ok (.iload_n 3, 1) := by decide +kernel
theorem d_L_hasValue_99 : decode c_L_hasValue 99 = .ok (.iconst (-1), 1) := by decide +kernel
theorem d_L_hasValue_100 : decode c_L_hasValue 100 = .ok (.if_icmp .eq 22, 3) := by decide +kernel
theorem d_L_hasValue_103 : decode c_L_hasValue 103 = .ok (.aload 4, 2) := by decide +kernel
theorem d_L_hasValue_105 : decode c_L_hasValue 105 = .ok (.getfield 90, 3) := by decide +kernel
theorem d_L_hasValue_108 : decode c_L_hasValue 108 = .ok (.getfield 217, 3) := by decide +kernel
theorem d_L_hasValue_111 : decode c_L_hasValue 111 = .ok (.iload_n 3, 1) := by decide +kernel
theorem d_L_hasValue_112 : decode c_L_hasValue 112 = .ok (.baload, 1) := by decide +kernel
theorem d_L_hasValue_113 : decode c_L_hasValue 113 = .ok (.ifCond .ne 7, 3) := by decide +kernel
theorem d_L_hasValue_116 : decode c_L_hasValue 116 = .ok (.iconst 1, 1) := by decide +kernel
theorem d_L_hasValue_117 : decode c_L_hasValue 117 = .ok (.goto 4, 3) := by decide +kernel
theorem d_L_hasValue_120 : decode c_L_hasValue 120 = .ok (.iconst 0, 1) := by decide +kernel
theorem d_L_hasValue_121 : decode c_L_hasValue 121 = .ok (.ireturn, 1) := by decide +kernel
theorem d_L_hasValue_122 : decode c_L_hasValue 122 = .ok (.iinc 5 1, 3) := by decide +kernel
theorem d_L_hasValue_125 : decode c_L_hasValue 125 = .ok (.goto (-77), 3) := by decide +kernel
theorem d_L_hasValue_128 : decode c_L_hasValue 128 = .ok (.iconst 0, 1) := by decide +kernel
theorem d_L_hasValue_129 : decode c_L_hasValue 129 = .ok (.ireturn, 1) := by decide +kernel
theorem d_L_next_0 : decode c_L_next 0 = .ok (.iload_n 1, 1) := by decide +kernel
theorem d_L_next_1 : decode c_L_next 1 = .ok (.iconst (-1), 1) := by decide +kernel
theorem d_L_next_2 : decode c_L_next 2 = .ok (.bipush 63, 2) := by decide +kernel
theorem d_L_next_4 : decode c_L_next 4 = .ok (.invokestatic 73, 3) := by decide +kernel
theorem d_L_next_7 : decode c_L_next 7 = .ok (.aload_n 0, 1) := by decide +kernel
theorem d_L_next_8 : decode c_L_next 8 = .ok (.iload_n 2, 1) := by decide +kernel
theorem d_L_next_9 : decode c_L_next 9 = .ok (.invokevirtual 115, 3) := by decide +kernel
theorem d_L_next_12 : decode c_L_next 12 = .ok (.istore_n 3, 1) := by decide +kernel
theorem d_L_next_13 : decode c_L_next 13 = .ok (.iload_n 1, 1) := by decide +kernel
theorem d_L_next_14 : decode c_L_next 14 = .ok (.iconst 1, 1) := by decide +kernel
theorem d_L_next_15 : decode c_L_next 15 = .ok (.iadd, 1) := by decide +kernel
theorem d_L_next_16 : decode c_L_next 16 = .ok (.istore 4, 2) := by decide +kernel
theorem d_L_next_18 : decode c_L_next 18 = .ok (.iload 4, 2) := by decide +kernel
theorem d_L_next_20 : decode c_L_next 20 = .ok (.bipush 64, 2) := by decide +kernel
theorem d_L_next_22 : decode c_L_next 22 = .ok (.if_icmp .ge 22, 3) := by decide +kernel
theorem d_L_next_25 : decode c_L_next 25 = .ok (.aload_n 0, 1) := by decide +kernel
theorem d_L_next_26 : decode c_L_next 26 = .ok (.iload 4, 2) := by decide +kernel
theorem d_L_next_28 : decode c_L_next 28 = .ok (.iload_n 3, 1) := by decide +kernel
theorem d_L_next_29 : decode c_L_next 29 = .ok (.invokevirtual 135, 3) := by decide +kernel
theorem d_L_next_32 : decode c_L_next 32 = .ok (.ifCond .eq 6, 3) := by decide +kernel
theorem d_L_next_35 : decode c_L_next 35 = .ok (.iload 4, 2) := by decide +kernel
theorem d_L_next_37 : decode c_L_next 37 = .ok (.ireturn, 1) := by decide +kernel
theorem d_L_next_38 : decode c_L_next 38 = .ok (.iinc 4 1, 3) := by decide +kernel
theorem d_L_next_41 : decode c_L_next 41 = .ok (.goto (-23), 3) := by decide +kernel
theorem d_L_next_44 : decode c_L_next 44 = .ok (.new 132, 3) := by decide +kernel
theorem d_L_next_47 : decode c_L_next 47 = .ok (.dup, 1) := by decide +kernel
theorem d_L_next_48 : decode c_L_next 48 = .ok (.invokespecial 134, 3) := by decide +kernel
theorem d_L_next_51 : decode c_L_next 51 = .ok (.athrow, 1) := by decide +kernel
theorem d_W_next_0 : decode c_W_next 0 = .ok (.aload_n 3, 1) := by decide +kernel
theorem d_W_next_1 : decode c_W_next 1 = .ok (.iconst 0, 1) := by decide +kernel
theorem d_W_next_2 : decode c_W_next 2 = .ok (.aload_n 0, 1) := by decide +kernel
theorem d_W_next_3 : decode c_W_next 3 = .ok (.iload_n 1, 1) := by decide +kernel
theorem d_W_next_4 : decode c_W_next 4 = .ok (.iload_n 2, 1) := by decide +kernel
theorem d_W_next_5 : decode c_W_next 5 = .ok (.invokevirtual 42, 3) := by decide +kernel
theorem d_W_next_8 : decode c_W_next 8 = .ok (.i2l, 1) := by decide +kernel
theorem d_W_next_9 : decode c_W_next 9 = .ok (.lastore, 1) := by decide +kernel
theorem d_W_next_10 : decode c_W_next 10 = .ok (.goto 15, 3) := by decide +kernel
theorem d_W_next_13 : decode c_W_next 13 = .ok (.astore 4, 2) := by decide +kernel
theorem d_W_next_15 : decode c_W_next 15 = .ok (.iconst 1, 1) := by decide +kernel
theorem d_W_next_16 : decode c_W_next 16 = .ok (.ireturn, 1) := by decide +kernel
theorem d_W_next_17 : decode c_W_next 17 = .ok (.astore 4, 2) := by decide +kernel
theorem d_W_next_19 : decode c_W_next 19 = .ok (.iconst 2, 1) := by decide +kernel
theorem d_W_next_20 : decode c_W_next 20 = .ok (.ireturn, 1) := by decide +kernel
theorem d_W_next_21 : decode c_W_next 21 = .ok (.astore 4, 2) := by decide +kernel
theorem d_W_next_23 : decode c_W_next 23 = .ok (.iconst 3, 1) := by decide +kernel
theorem d_W_next_24 : decode c_W_next 24 = .ok (.ireturn, 1) := by decide +kernel
theorem d_W_next_25 : decode c_W_next 25 = .ok (.iconst 0, 1) := by decide +kernel
theorem d_W_next_26 : decode c_W_next 26 = .ok (.ireturn, 1) := by decide +kernel
theorem d_L_snapshot_0 : decode c_L_snapshot 0 = .ok (.iconst 0, 1) := by decide +kernel
theorem d_L_snapshot_1 : decode c_L_snapshot 1 = .ok (.istore_n 1, 1) := by decide +kernel
theorem d_L_snapshot_2 : decode c_L_snapshot 2 = .ok (.iload_n 1, 1) := by decide +kernel
theorem d_L_snapshot_3 : decode c_L_snapshot 3 = .ok (.iconst 4, 1) := by decide +kernel
theorem d_L_snapshot_4 : decode c_L_snapshot 4 = .ok (.if_icmp .ge 31, 3) := by decide +kernel
theorem d_L_snapshot_7 : decode c_L_snapshot 7 = .ok (.aload_n 0, 1) := by decide +kernel
theorem d_L_snapshot_8 : decode c_L_snapshot 8 = .ok (.getfield 32, 3) := by decide +kernel
theorem d_L_snapshot_11 : decode c_L_snapshot 11 = .ok (.iload_n 1, 1) := by decide +kernel
theorem d_L_snapshot_12 : decode c_L_snapshot 12 = .ok (.iaload, 1) := by decide +kernel
theorem d_L_snapshot_13 : decode c_L_snapshot 13 = .ok (.iconst (-1), 1) := by decide +kernel
theorem d_L_snapshot_14 : decode c_L_snapshot 14 = .ok (.if_icmp .ne 15, 3) := by decide +kernel
theorem d_L_snapshot_17 : decode c_L_snapshot 17 = .ok (.aload_n 0, 1) := by decide +kernel
theorem d_L_snapshot_18 : decode c_L_snapshot 18 = .ok (.getfield 32, 3) := by decide +kernel
theorem d_L_snapshot_21 : decode c_L_snapshot 21 = .ok (.iload_n 1, 1) := by decide +kernel
theorem d_L_snapshot_22 : decode c_L_snapshot 22 = .ok (.aload_n 0, 1) := by decide +kernel
theorem d_L_snapshot_23 : decode c_L_snapshot 23 = .ok (.getfield 61, 3) := by decide +kernel
theorem d_L_snapshot_26 : decode c_L_snapshot 26 = .ok (.iastore, 1) := by decide +kernel
theorem d_L_snapshot_27 : decode c_L_snapshot 27 = .ok (.iload_n 1, 1) := by decide +kernel
theorem d_L_snapshot_28 : decode c_L_snapshot 28 = .ok (.ireturn, 1) := by decide +kernel
theorem d_L_snapshot_29 : decode c_L_snapshot 29 = .ok (.iinc 1 1, 3) := by decide +kernel
theorem d_L_snapshot_32 : decode c_L_snapshot 32 = .ok (.goto (-30), 3) := by decide +kernel
theorem d_L_snapshot_35 : decode c_L_snapshot 35 = .ok (.new 58, 3) := by decide +kernel
theorem d_L_snapshot_38 : decode c_L_snapshot 38 = .ok (.dup, 1) := by decide +kernel
theorem d_L_snapshot_39 : decode c_L_snapshot 39 = .ok (.invokespecial 60, 3) := by decide +kernel
theorem d_L_snapshot_42 : decode c_L_snapshot 42 = .ok (.athrow, 1) := by decide +kernel
theorem d_W_snapshot_0 : decode c_W_snapshot 0 = .ok (.aload_n 1, 1) := by decide +kernel
theorem d_W_snapshot_1 : decode c_W_snapshot 1 = .ok (.iconst 0, 1) := by decide +kernel
theorem d_W_snapshot_2 : decode c_W_snapshot 2 = .ok (.aload_n 0, 1) := by decide +kernel
theorem d_W_snapshot_3 : decode c_W_snapshot 3 = .ok (.invokevirtual 45, 3) := by decide +kernel
theorem d_W_snapshot_6 : decode c_W_snapshot 6 = .ok (.i2l, 1) := by decide +kernel
theorem d_W_snapshot_7 : decode c_W_snapshot 7 = .ok (.lastore, 1) := by decide +kernel
theorem d_W_snapshot_8 : decode c_W_snapshot 8 = .ok (.goto 6, 3) := by decide +kernel
theorem d_W_snapshot_11 : decode c_W_snapshot 11 = .ok (.astore_n 2, 1) := by decide +kernel
theorem d_W_snapshot_12 : decode c_W_snapshot 12 = .ok (.iconst 1, 1) := by decide +kernel
theorem d_W_snapshot_13 : decode c_W_snapshot 13 = .ok (.ireturn, 1) := by decide +kernel
theorem d_W_snapshot_14 : decode c_W_snapshot 14 = .ok (.iconst 0, 1) := by decide +kernel
theorem d_W_snapshot_15 : decode c_W_snapshot 15 = .ok (.ireturn, 1) := by decide +kernel
theorem d_L_release_0 : decode c_L_release 0 = .ok (.iload_n 1, 1) := by decide +kernel
theorem d_L_release_1 : decode c_L_release 1 = .ok (.iconst 0, 1) := by decide +kernel
theorem d_L_release_2 : decode c_L_release 2 = .ok (.iconst 3, 1) := by decide +kernel
theorem d_L_release_3 : decode c_L_release 3 = .ok (.invokestatic 73, 3) := by decide +kernel
theorem d_L_release_6 : decode c_L_release 6 = .ok (.aload_n 0, 1) := by decide +kernel
theorem d_L_release_7 : decode c_L_release 7 = .ok (.iload_n 1, 1) := by decide +kernel
theorem d_L_release_8 : decode c_L_release 8 = .ok (.invokevirtual 115, 3) := by decide +kernel
theorem d_L_release_11 : decode c_L_release 11 = .ok (.istore_n 2, 1) := by decide +kernel
theorem d_L_release_12 : decode c_L_release 12 = .ok (.aload_n 0, 1) := by decide +kernel
theorem d_L_release_13 : decode c_L_release 13 = .ok (.getfield 32, 3) := by decide +kernel
theorem d_L_release_16 : decode c_L_release 16 = .ok (.iload_n 1, 1) := by decide +kernel
theorem d_L_release_17 : decode c_L_release 17 = .ok (.iconst (-1), 1) := by decide +kernel
theorem d_L_release_18 : decode c_L_release 18 = .ok (.iastore, 1) := by decide +kernel
theorem d_L_release_19 : decode c_L_release 19 = .ok (.iload_n 2, 1) := by decide +kernel
theorem d_L_release_20 : decode c_L_release 20 = .ok (.ireturn, 1) := by decide +kernel
theorem d_W_release_0 : decode c_W_release 0 = .ok (.aload_n 2, 1) := by decide +kernel
theorem d_W_release_1 : decode c_W_release 1 = .ok (.iconst 0, 1) := by decide +kernel
theorem d_W_release_2 : decode c_W_release 2 = .ok (.aload_n 0, 1) := by decide +kernel
theorem d_W_release_3 : decode c_W_release 3 = .ok (.iload_n 1, 1) := by decide +kernel
theorem d_W_release_4 : decode c_W_release 4 = .ok (.invokevirtual 48, 3) := by decide +kernel
theorem d_W_release_7 : decode c_W_release 7 = .ok (.i2l, 1) := by decide +kernel
theorem d_W_release_8 : decode c_W_release 8 = .ok (.lastore, 1) := by decide +kernel
theorem d_W_release_9 : decode c_W_release 9 = .ok (.goto 9, 3) := by decide +kernel
theorem d_W_release_12 : decode c_W_release 12 = .ok (.astore_n 3, 1) := by decide +kernel
theorem d_W_release_13 : decode c_W_release 13 = .ok (.iconst 1, 1) := by decide +kernel
theorem d_W_release_14 : decode c_W_release 14 = .ok (.ireturn, 1) := by decide +kernel
theorem d_W_release_15 : decode c_W_release 15 = .ok (.astore_n 3, 1) := by decide +kernel
theorem d_W_release_16 : decode c_W_release 16 = .ok (.iconst 2, 1) := by decide +kernel
theorem d_W_release_17 : decode c_W_release 17 = .ok (.ireturn, 1) := by decide +kernel
theorem d_W_release_18 : decode c_W_release 18 = .ok (.iconst 0, 1) := by decide +kernel
theorem d_W_release_19 : decode c_W_release 19 = .ok (.ireturn, 1) := by decide +kernel
theorem d_S_sizeOf_0 : decode c_S_sizeOf 0 = .ok (.aload_n 0, 1) := by decide +kernel
theorem d_S_sizeOf_1 : decode c_S_sizeOf 1 = .ok (.getfield 27, 3) := by decide +kernel
theorem d_S_sizeOf_4 : decode c_S_sizeOf 4 = .ok (.iload_n 1, 1) := by decide +kernel
theorem d_S_sizeOf_5 : decode c_S_sizeOf 5 = .ok (.iconst 1, 1) := by decide +kernel
theorem d_S_sizeOf_6 : decode c_S_sizeOf 6 = .ok (.iadd, 1) := by decide +kernel
theorem d_S_sizeOf_7 : decode c_S_sizeOf 7 = .ok (.iaload, 1) := by decide +kernel
theorem d_S_sizeOf_8 : decode c_S_sizeOf 8 = .ok (.aload_n 0, 1) := by decide +kernel
theorem d_S_sizeOf_9 : decode c_S_sizeOf 9 = .ok (.getfield 27, 3) := by decide +kernel
theorem d_S_sizeOf_12 : decode c_S_sizeOf 12 = .ok (.iload_n 1, 1) := by decide +kernel
theorem d_S_sizeOf_13 : decode c_S_sizeOf 13 = .ok (.iaload, 1) := by decide +kernel
theorem d_S_sizeOf_14 : decode c_S_sizeOf 14 = .ok (.isub, 1) := by decide +kernel
theorem d_S_sizeOf_15 : decode c_S_sizeOf 15 = .ok (.ireturn, 1) := by decide +kernel
theorem d_S_blocksOf_0 : decode c_S_blocksOf 0 = .ok (.aload_n 0, 1) := by decide +kernel
theorem d_S_blocksOf_1 : decode c_S_blocksOf 1 = .ok (.iload_n 1, 1) := by decide +kernel
theorem d_S_blocksOf_2 : decode c_S_blocksOf 2 = .ok (.invokevirtual 55, 3) := by decide +kernel
theorem d_S_blocksOf_5 : decode c_S_blocksOf 5 = .ok (.iconst 4, 1) := by decide +kernel
theorem d_S_blocksOf_6 : decode c_S_blocksOf 6 = .ok (.iadd, 1) := by decide +kernel
theorem d_S_blocksOf_7 : decode c_S_blocksOf 7 = .ok (.iconst 1, 1) := by decide +kernel
theorem d_S_blocksOf_8 : decode c_S_blocksOf 8 = .ok (.isub, 1) := by decide +kernel
theorem d_S_blocksOf_9 : decode c_S_blocksOf 9 = .ok (.iconst 4, 1) := by decide +kernel
theorem d_S_blocksOf_10 : decode c_S_blocksOf 10 = .ok (.idiv, 1) := by decide +kernel
theorem d_S_blocksOf_11 : decode c_S_blocksOf 11 = .ok (.ireturn, 1) := by decide +kernel
theorem d_S_spoilBlock_0 : decode c_S_spoilBlock 0 = .ok (.aload_n 0, 1) := by decide +kernel
theorem d_S_spoilBlock_1 : decode c_S_spoilBlock 1 = .ok (.getfield 27, 3) := by decide +kernel
theorem d_S_spoilBlock_4 : decode c_S_spoilBlock 4 = .ok (.iload_n 1, 1) := by decide +kernel
theorem d_S_spoilBlock_5 : decode c_S_spoilBlock 5 = .ok (.iaload, 1) := by decide +kernel
theorem d_S_spoilBlock_6 : decode c_S_spoilBlock 6 = .ok (.iload_n 2, 1) := by decide +kernel
theorem d_S_spoilBlock_7 : decode c_S_spoilBlock 7 = .ok (.iconst 4, 1) := by decide +kernel
theorem d_S_spoilBlock_8 : decode c_S_spoilBlock 8 = .ok (.imul, 1) := by decide +kernel
theorem d_S_spoilBlock_9 : decode c_S_spoilBlock 9 = .ok (.iadd, 1) := by decide +kernel
theorem d_S_spoilBlock_10 : decode c_S_spoilBlock 10 = .ok (.istore_n 3, 1) := by decide +kernel
theorem d_S_spoilBlock_11 : decode c_S_spoilBlock 11 = .ok (.iload_n 3, 1) := by decide +kernel
theorem d_S_spoilBlock_12 : decode c_S_spoilBlock 12 = .ok (.iconst 4, 1) := by decide +kernel
theorem d_S_spoilBlock_13 : decode c_S_spoilBlock 13 = .ok (.iadd, 1) := by decide +kernel
theorem d_S_spoilBlock_14 : decode c_S_spoilBlock 14 = .ok (.aload_n 0, 1) := by decide +kernel
theorem d_S_spoilBlock_15 : decode c_S_spoilBlock 15 = .ok (.getfield 27, 3) := by decide +kernel
theorem d_S_spoilBlock_18 : decode c_S_spoilBlock 18 = .ok (.iload_n 1, 1) := by decide +kernel
theorem d_S_spoilBlock_19 : decode c_S_spoilBlock 19 = .ok (.iconst 1, 1) := by decide +kernel
theorem d_S_spoilBlock_20 : decode c_S_spoilBlock 20 = .ok (.iadd, 1) := by decide +kernel
theorem d_S_spoilBlock_21 : decode c_S_spoilBlock 21 = .ok (.iaload, 1) := by decide +kernel
theorem d_S_spoilBlock_22 : decode c_S_spoilBlock 22 = .ok (.invokestatic 63, 3) := by decide +kernel
theorem d_S_spoilBlock_25 : decode c_S_spoilBlock 25 = .ok (.istore 4, 2) := by decide +kernel
theorem d_S_spoilBlock_27 : decode c_S_spoilBlock 27 = .ok (.iload_n 3, 1) := by decide +kernel
theorem d_S_spoilBlock_28 : decode c_S_spoilBlock 28 = .ok (.istore 5, 2) := by decide +kernel
theorem d_S_spoilBlock_30 : decode c_S_spoilBlock 30 = .ok (.iload 5, 2) := by decide +kernel
theorem d_S_spoilBlock_32 : decode c_S_spoilBlock 32 = .ok (.iload 4, 2) := by decide +kernel
theorem d_S_spoilBlock_34 : decode c_S_spoilBlock 34 = .ok (.if_icmp .ge 20, 3) := by decide +kernel
theorem d_S_spoilBlock_37 : decode c_S_spoilBlock 37 = .ok (.aload_n 0, 1) := by decide +kernel
theorem d_S_spoilBlock_38 : decode c_S_spoilBlock 38 = .ok (.getfield 14, 3) := by decide +kernel
theorem d_S_spoilBlock_41 : decode c_S_spoilBlock 41 = .ok (.getfield 59, 3) := by decide +kernel
theorem d_S_spoilBlock_44 : decode c_S_spoilBlock 44 = .ok (.iload 5, 2) := by decide +kernel
theorem d_S_spoilBlock_46 : decode c_S_spoilBlock 46 = .ok (.iconst 1, 1) := by decide +kernel
theorem d_S_spoilBlock_47 : decode c_S_spoilBlock 47 = .ok (.bastore, 1) := by decide +kernel
theorem d_S_spoilBlock_48 : decode c_S_spoilBlock 48 = .ok (.iinc 5 1, 3) := by decide +kernel
theorem d_S_spoilBlock_51 : decode c_S_spoilBlock 51 = .ok (.goto (-21), 3) := by decide +kernel
theorem d_S_spoilBlock_54 : decode c_S_spoilBlock 54 = .ok (.iload 4, 2) := by decide +kernel
theorem d_S_spoilBlock_56 : decode c_S_spoilBlock 56 = .ok (.iload_n 3, 1) := by decide +kernel
theorem d_S_spoilBlock_57 : decode c_S_spoilBlock 57 = .ok (.isub, 1) := by decide +kernel
theorem d_S_spoilBlock_58 : decode c_S_spoilBlock 58 = .ok (.ireturn, 1) := by decide +kernel
theorem d_L_spoil_0 : decode c_L_spoil 0 = .ok (.iload_n 1, 1) := by decide +kernel
theorem d_L_spoil_1 : decode c_L_spoil 1 = .ok (.iconst 0, 1) := by decide +kernel
theorem d_L_spoil_2 : decode c_L_spoil 2 = .ok (.bipush 59, 2) := by decide +kernel
theorem d_L_spoil_4 : decode c_L_spoil 4 = .ok (.invokestatic 73, 3) := by decide +kernel
theorem d_L_spoil_7 : decode c_L_spoil 7 = .ok (.iload_n 2, 1) := by decide +kernel
theorem d_L_spoil_8 : decode c_L_spoil 8 = .ok (.iconst 0, 1) := by decide +kernel
theorem d_L_spoil_9 : decode c_L_spoil 9 = .ok (.bipush 59, 2) := by decide +kernel
theorem d_L_spoil_11 : decode c_L_spoil 11 = .ok (.invokestatic 73, 3) := by decide +kernel
theorem d_L_spoil_14 : decode c_L_spoil 14 = .ok (.iload_n 1, 1) := by decide +kernel
theorem d_L_spoil_15 : decode c_L_spoil 15 = .ok (.aload_n 0, 1) := by decide +kernel
theorem d_L_spoil_16 : decode c_L_spoil 16 = .ok (.getfield 19, 3) := by decide +kernel
theorem d_L_spoil_19 : decode c_L_spoil 19 = .ok (.getfield 86, 3) := by decide +kernel
theorem d_L_spoil_22 : decode c_L_spoil 22 = .ok (.getfield 112, 3) := by decide +kernel
theorem d_L_spoil_25 : decode c_L_spoil 25 = .ok (.if_icmp .ge 18, 3) := by decide +kernel
theorem d_L_spoil_28 : decode c_L_spoil 28 = .ok (.iload_n 2, 1) := by decide +kernel
theorem d_L_spoil_29 : decode c_L_spoil 29 = .ok (.aload_n 0, 1) := by decide +kernel
theorem d_L_spoil_30 : decode c_L_spoil 30 = .ok (.getfield 19, 3) := by decide +kernel
theorem d_L_spoil_33 : decode c_L_spoil 33 = .ok (.getfield 86, 3) := by decide +kernel
theorem d_L_spoil_36 : decode c_L_spoil 36 = .ok (.iload_n 1, 1) := by decide +kernel
theorem d_L_spoil_37 : decode c_L_spoil 37 = .ok (.invokevirtual 139, 3) := by decide +kernel
theorem d_L_spoil_40 : decode c_L_spoil 40 = .ok (.if_icmp .lt 11, 3) := by decide +kernel
theorem d_L_spoil_43 : decode c_L_spoil 43 = .ok (.new 142, 3) := by decide +kernel
theorem d_L_spoil_46 : decode c_L_spoil 46 = .ok (.dup, 1) := by decide +kernel
theorem d_L_spoil_47 : decode c_L_spoil 47 = .ok (.invokespecial 144, 3) := by decide +kernel
theorem d_L_spoil_50 : decode c_L_spoil 50 = .ok (.athrow, 1) := by decide +kernel
theorem d_L_spoil_51 : decode c_L_spoil 51 = .ok (.aload_n 0, 1) := by decide +kernel
theorem d_L_spoil_52 : decode c_L_spoil 52 = .ok (.getfield 19, 3) := by decide +kernel
theorem d_L_spoil_55 : decode c_L_spoil 55 = .ok (.getfield 86, 3) := by decide +kernel
theorem d_L_spoil_58 : decode c_L_spoil 58 = .ok (.iload_n 1, 1) := by decide +kernel
theorem d_L_spoil_59 : decode c_L_spoil 59 = .ok (.iload_n 2, 1) := by decide +kernel
theorem d_L_spoil_60 : decode c_L_spoil 60 = .ok (.invokevirtual 145, 3) := by decide +kernel
theorem d_L_spoil_63 : decode c_L_spoil 63 = .ok (.ireturn, 1) := by decide +kernel
theorem d_W_spoil_0 : decode c_W_spoil 0 = .ok (.aload_n 3, 1) := by decide +kernel
theorem d_W_spoil_1 : decode c_W_spoil 1 = .ok (.iconst 0, 1) := by decide +kernel
theorem d_W_spoil_2 : decode c_W_spoil 2 = .ok (.aload_n 0, 1) := by decide +kernel
theorem d_W_spoil_3 : decode c_W_spoil 3 = .ok (.iload_n 1, 1) := by decide +kernel
theorem d_W_spoil_4 : decode c_W_spoil 4 = .ok (.iload_n 2, 1) := by decide +kernel
theorem d_W_spoil_5 : decode c_W_spoil 5 = .ok (.invokevirtual 51, 3) := by decide +kernel
theorem d_W_spoil_8 : decode c_W_spoil 8 = .ok (.i2l, 1) := by decide +kernel
theorem d_W_spoil_9 : decode c_W_spoil 9 = .ok (.lastore, 1) := by decide +kernel
theorem d_W_spoil_10 : decode c_W_spoil 10 = .ok (.goto 11, 3) := by decide +kernel
theorem d_W_spoil_13 : decode c_W_spoil 13 = .ok (.astore 4, 2) := by decide +kernel
theorem d_W_spoil_15 : decode c_W_spoil 15 = .ok (.iconst 1, 1) := by decide +kernel
theorem d_W_spoil_16 : decode c_W_spoil 16 = .ok (.ireturn, 1) := by decide +kernel
theorem d_W_spoil_17 : decode c_W_spoil 17 = .ok (.astore 4, 2) := by decide +kernel
theorem d_W_spoil_19 : decode c_W_spoil 19 = .ok (.iconst 2, 1) := by decide +kernel
theorem d_W_spoil_20 : decode c_W_spoil 20 = .ok (.ireturn, 1) := by decide +kernel
theorem d_W_spoil_21 : decode c_W_spoil 21 = .ok (.iconst 0, 1) := by decide +kernel
theorem d_W_spoil_22 : decode c_W_spoil 22 = .ok (.ireturn, 1) := by decide +kernel
theorem d_L_effort_0 : decode c_L_effort 0 = .ok (.aload_n 0, 1) := by decide +kernel
theorem d_L_effort_1 : decode c_L_effort 1 = .ok (.getfield 119, 3) := by decide +kernel
theorem d_L_effort_4 : decode c_L_effort 4 = .ok (.ifCond .ne 11, 3) := by decide +kernel
theorem d_L_effort_7 : decode c_L_effort 7 = .ok (.new 151, 3) := by decide +kernel
theorem d_L_effort_10 : decode c_L_effort 10 = .ok (.dup, 1) := by decide +kernel
theorem d_L_effort_11 : decode c_L_effort 11 = .ok (.invokespecial 153, 3) := by decide +kernel
theorem d_L_effort_14 : decode c_L_effort 14 = .ok (.athrow, 1) := by decide +kernel
theorem d_L_effort_15 : decode c_L_effort 15 = .ok (.aload_n 0, 1) := by decide +kernel
theorem d_L_effort_16 : decode c_L_effort 16 = .ok (.getfield 154, 3) := by decide +kernel
theorem d_L_effort_19 : decode c_L_effort 19 = .ok (.i2d, 1) := by decide +kernel
theorem d_L_effort_20 : decode c_L_effort 20 = .ok (.aload_n 0, 1) := by decide +kernel
theorem d_L_effort_21 : decode c_L_effort 21 = .ok (.getfield 119, 3) := by decide +kernel
theorem d_L_effort_24 : decode c_L_effort 24 = .ok (.i2d, 1) := by decide +kernel
theorem d_L_effort_25 : decode c_L_effort 25 = .ok (.ddiv, 1) := by decide +kernel
theorem d_L_effort_26 : decode c_L_effort 26 = .ok (.dreturn, 1) := by decide +kernel
theorem d_W_effort_0 : decode c_W_effort 0 = .ok (.aload_n 1, 1) := by decide +kernel
theorem d_W_effort_1 : decode c_W_effort 1 = .ok (.iconst 0, 1) := by decide +kernel
theorem d_W_effort_2 : decode c_W_effort 2 = .ok (.aload_n 0, 1) := by decide +kernel
theorem d_W_effort_3 : decode c_W_effort 3 = .ok (.invokevirtual 56, 3) := by decide +kernel
theorem d_W_effort_6 : decode c_W_effort 6 = .ok (.dastore, 1) := by decide +kernel
theorem d_W_effort_7 : decode c_W_effort 7 = .ok (.goto 6, 3) := by decide +kernel
theorem d_W_effort_10 : decode c_W_effort 10 = .ok (.astore_n 2, 1) := by decide +kernel
theorem d_W_effort_11 : decode c_W_effort 11 = .ok (.iconst 1, 1) := by decide +kernel
theorem d_W_effort_12 : decode c_W_effort 12 = .ok (.ireturn, 1) := by decide +kernel
theorem d_W_effort_13 : decode c_W_effort 13 = .ok (.iconst 0, 1) := by decide +kernel
theorem d_W_effort_14 : decode c_W_effort 14 = .ok (.ireturn, 1) := by decide +kernel
theorem d_S_entryNumber_0 : decode c_S_entryNumber 0 = .ok (.iload_n 2, 1) := by decide +kernel
theorem d_S_entryNumber_1 : decode c_S_entryNumber 1 = .ok (.aload_n 0, 1) := by decide +kernel
theorem d_S_entryNumber_2 : decode c_S_entryNumber 2 = .ok (.iload_n 1, 1) := by decide +kernel
theorem d_S_entryNumber_3 : decode c_S_entryNumber 3 = .ok (.invokevirtual 55, 3) := by decide +kernel
theorem d_S_entryNumber_6 : decode c_S_entryNumber 6 = .ok (.if_icmp .ge 22, 3) := by decide +kernel
theorem d_S_entryNumber_9 : decode c_S_entryNumber 9 = .ok (.aload_n 0, 1) := by decide +kernel
theorem d_S_entryNumber_10 : decode c_S_entryNumber 10 = .ok (.getfield 14, 3) := by decide +kernel
theorem d_S_entryNumber_13 : decode c_S_entryNumber 13 = .ok (.getfield 58, 3) := by decide +kernel
theorem d_S_entryNumber_16 : decode c_S_entryNumber 16 = .ok (.aload_n 0, 1) := by decide +kernel
theorem d_S_entryNumber_17 : decode c_S_entryNumber 17 = .ok (.getfield 27, 3) := by decide +kernel
theorem d_S_entryNumber_20 : decode c_S_entryNumber 20 = .ok (.iload_n 1, 1) := by decide +kernel
theorem d_S_entryNumber_21 : decode c_S_entryNumber 21 = .ok (.iaload, 1) := by decide +kernel
theorem d_S_entryNumber_22 : decode c_S_entryNumber 22 = .ok (.iload_n 2, 1) := by decide +kernel
theorem d_S_entryNumber_23 : decode c_S_entryNumber 23 = .ok (.iadd, 1) := by decide +kernel
theorem d_S_entryNumber_24 : decode c_S_entryNumber 24 = .ok (.iaload, 1) := by decide +kernel
theorem d_S_entryNumber_25 : decode c_S_entryNumber 25 = .ok (.goto 4, 3) := by decide +kernel
theorem d_S_entryNumber_28 : decode c_S_entryNumber 28 = .ok (.iconst 0, 1) := by decide +kernel
theorem d_S_entryNumber_29 : decode c_S_entryNumber 29 = .ok (.ireturn, 1) := by decide +kernel
theorem d_L_table_0 : decode c_L_table 0 = .ok (.iload_n 1, 1) := by decide +kernel
theorem d_L_table_1 : decode c_L_table 1 = .ok (.iconst 0, 1) := by decide +kernel
theorem d_L_table_2 : decode c_L_table 2 = .ok (.bipush 59, 2) := by decide +kernel
theorem d_L_table_4 : decode c_L_table 4 = .ok (.invokestatic 73, 3) := by decide +kernel
theorem d_L_table_7 : decode c_L_table 7 = .ok (.iload_n 2, 1) := by decide +kernel
theorem d_L_table_8 : decode c_L_table 8 = .ok (.iconst 0, 1) := by decide +kernel
theorem d_L_table_9 : decode c_L_table 9 = .ok (.bipush 15, 2) := by decide +kernel
theorem d_L_table_11 : decode c_L_table 11 = .ok (.invokestatic 73, 3) := by decide +kernel
theorem d_L_table_14 : decode c_L_table 14 = .ok (.aload_n 0, 1) := by decide +kernel
theorem d_L_table_15 : decode c_L_table 15 = .ok (.getfield 19, 3) := by decide +kernel
theorem d_L_table_18 : decode c_L_table 18 = .ok (.getfield 86, 3) := by decide +kernel
theorem d_L_table_21 : decode c_L_table 21 = .ok (.astore_n 3, 1) := by decide +kernel
theorem d_L_table_22 : decode c_L_table 22 = .ok (.iload_n 1, 1) := by decide +kernel
theorem d_L_table_23 : decode c_L_table 23 = .ok (.aload_n 3, 1) := by decide +kernel
theorem d_L_table_24 : decode c_L_table 24 = .ok (.getfield 112, 3) := by decide +kernel
theorem d_L_table_27 : decode c_L_table 27 = .ok (.if_icmp .lt 11, 3) := by decide +kernel
theorem d_L_table_30 : decode c_L_table 30 = .ok (.new 142, 3) := by decide +kernel
theorem d_L_table_33 : decode c_L_table 33 = .ok (.dup, 1) := by decide +kernel
theorem d_L_table_34 : decode c_L_table 34 = .ok (.invokespecial 144, 3) := by decide +kernel
