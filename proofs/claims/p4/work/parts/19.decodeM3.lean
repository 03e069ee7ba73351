theorem d_SqlReaderModel_isKind_1 : decode prog_11_method_14_code 1 = .ok (.aload_n 0, 1) := by decide +kernel
theorem d_SqlReaderModel_isKind_2 : decode prog_11_method_14_code 2 = .ok (.getfield 223, 3) := by decide +kernel
theorem d_SqlReaderModel_isKind_5 : decode prog_11_method_14_code 5 = .ok (.if_icmp .ge 17, 3) := by decide +kernel
theorem d_SqlReaderModel_isKind_8 : decode prog_11_method_14_code 8 = .ok (.aload_n 0, 1) := by decide +kernel
theorem d_SqlReaderModel_isKind_9 : decode prog_11_method_14_code 9 = .ok (.getfield 13, 3) := by decide +kernel
theorem d_SqlReaderModel_isKind_12 : decode prog_11_method_14_code 12 = .ok (.iload_n 1, 1) := by decide +kernel
theorem d_SqlReaderModel_isKind_13 : decode prog_11_method_14_code 13 = .ok (.iaload, 1) := by decide +kernel
theorem d_SqlReaderModel_isKind_14 : decode prog_11_method_14_code 14 = .ok (.iload_n 2, 1) := by decide +kernel
theorem d_SqlReaderModel_isKind_15 : decode prog_11_method_14_code 15 = .ok (.if_icmp .ne 7, 3) := by decide +kernel
theorem d_SqlReaderModel_isKind_18 : decode prog_11_method_14_code 18 = .ok (.iconst 1, 1) := by decide +kernel
theorem d_SqlReaderModel_isKind_19 : decode prog_11_method_14_code 19 = .ok (.goto 4, 3) := by decide +kernel
theorem d_SqlReaderModel_isKind_22 : decode prog_11_method_14_code 22 = .ok (.iconst 0, 1) := by decide +kernel
theorem d_SqlReaderModel_isKind_23 : decode prog_11_method_14_code 23 = .ok (.ireturn, 1) := by decide +kernel
theorem d_SqlReaderModel_isLoose_0 : decode prog_11_method_81_code 0 = .ok (.iconst 0, 1) := by decide +kernel
theorem d_SqlReaderModel_isLoose_1 : decode prog_11_method_81_code 1 = .ok (.istore_n 2, 1) := by decide +kernel
theorem d_SqlReaderModel_isLoose_2 : decode prog_11_method_81_code 2 = .ok (.iconst 0, 1) := by decide +kernel
theorem d_SqlReaderModel_isLoose_3 : decode prog_11_method_81_code 3 = .ok (.istore_n 3, 1) := by decide +kernel
theorem d_SqlReaderModel_isLoose_4 : decode prog_11_method_81_code 4 = .ok (.iload_n 3, 1) := by decide +kernel
theorem d_SqlReaderModel_isLoose_5 : decode prog_11_method_81_code 5 = .ok (.iload_n 1, 1) := by decide +kernel
theorem d_SqlReaderModel_isLoose_6 : decode prog_11_method_81_code 6 = .ok (.if_icmp .ge 16, 3) := by decide +kernel
theorem d_SqlReaderModel_isLoose_9 : decode prog_11_method_81_code 9 = .ok (.aload_n 0, 1) := by decide +kernel
theorem d_SqlReaderModel_isLoose_10 : decode prog_11_method_81_code 10 = .ok (.getfield 121, 3) := by decide +kernel
theorem d_SqlReaderModel_isLoose_13 : decode prog_11_method_81_code 13 = .ok (.iload_n 3, 1) := by decide +kernel
theorem d_SqlReaderModel_isLoose_14 : decode prog_11_method_81_code 14 = .ok (.iconst 0, 1) := by decide +kernel
theorem d_SqlReaderModel_isLoose_15 : decode prog_11_method_81_code 15 = .ok (.bastore, 1) := by decide +kernel
theorem d_SqlReaderModel_isLoose_16 : decode prog_11_method_81_code 16 = .ok (.iinc 3 1, 3) := by decide +kernel
theorem d_SqlReaderModel_isLoose_19 : decode prog_11_method_81_code 19 = .ok (.goto (-15), 3) := by decide +kernel
theorem d_SqlReaderModel_isLoose_22 : decode prog_11_method_81_code 22 = .ok (.aload_n 0, 1) := by decide +kernel
theorem d_SqlReaderModel_isLoose_23 : decode prog_11_method_81_code 23 = .ok (.getfield 121, 3) := by decide +kernel
theorem d_SqlReaderModel_isLoose_26 : decode prog_11_method_81_code 26 = .ok (.iload_n 1, 1) := by decide +kernel
theorem d_SqlReaderModel_isLoose_27 : decode prog_11_method_81_code 27 = .ok (.iconst 1, 1) := by decide +kernel
theorem d_SqlReaderModel_isLoose_28 : decode prog_11_method_81_code 28 = .ok (.bastore, 1) := by decide +kernel
theorem d_SqlReaderModel_isLoose_29 : decode prog_11_method_81_code 29 = .ok (.iload_n 1, 1) := by decide +kernel
theorem d_SqlReaderModel_isLoose_30 : decode prog_11_method_81_code 30 = .ok (.istore_n 3, 1) := by decide +kernel
theorem d_SqlReaderModel_isLoose_31 : decode prog_11_method_81_code 31 = .ok (.iload_n 3, 1) := by decide +kernel
theorem d_SqlReaderModel_isLoose_32 : decode prog_11_method_81_code 32 = .ok (.ifCond .lt 128, 3) := by decide +kernel
theorem d_SqlReaderModel_isLoose_35 : decode prog_11_method_81_code 35 = .ok (.aload_n 0, 1) := by decide +kernel
theorem d_SqlReaderModel_isLoose_36 : decode prog_11_method_81_code 36 = .ok (.getfield 121, 3) := by decide +kernel
theorem d_SqlReaderModel_isLoose_39 : decode prog_11_method_81_code 39 = .ok (.iload_n 3, 1) := by decide +kernel
theorem d_SqlReaderModel_isLoose_40 : decode prog_11_method_81_code 40 = .ok (.baload, 1) := by decide +kernel
theorem d_SqlReaderModel_isLoose_41 : decode prog_11_method_81_code 41 = .ok (.ifCond .eq 29, 3) := by decide +kernel
theorem d_SqlReaderModel_isLoose_44 : decode prog_11_method_81_code 44 = .ok (.aload_n 0, 1) := by decide +kernel
theorem d_SqlReaderModel_isLoose_45 : decode prog_11_method_81_code 45 = .ok (.getfield 41, 3) := by decide +kernel
theorem d_SqlReaderModel_isLoose_48 : decode prog_11_method_81_code 48 = .ok (.iload_n 3, 1) := by decide +kernel
theorem d_SqlReaderModel_isLoose_49 : decode prog_11_method_81_code 49 = .ok (.iaload, 1) := by decide +kernel
theorem d_SqlReaderModel_isLoose_50 : decode prog_11_method_81_code 50 = .ok (.bipush 9, 2) := by decide +kernel
theorem d_SqlReaderModel_isLoose_52 : decode prog_11_method_81_code 52 = .ok (.if_icmp .le 18, 3) := by decide +kernel
theorem d_SqlReaderModel_isLoose_55 : decode prog_11_method_81_code 55 = .ok (.aload_n 0, 1) := by decide +kernel
theorem d_SqlReaderModel_isLoose_56 : decode prog_11_method_81_code 56 = .ok (.getfield 41, 3) := by decide +kernel
theorem d_SqlReaderModel_isLoose_59 : decode prog_11_method_81_code 59 = .ok (.iload_n 3, 1) := by decide +kernel
theorem d_SqlReaderModel_isLoose_60 : decode prog_11_method_81_code 60 = .ok (.iaload, 1) := by decide +kernel
theorem d_SqlReaderModel_isLoose_61 : decode prog_11_method_81_code 61 = .ok (.bipush 28, 2) := by decide +kernel
theorem d_SqlReaderModel_isLoose_63 : decode prog_11_method_81_code 63 = .ok (.if_icmp .ge 7, 3) := by decide +kernel
theorem d_SqlReaderModel_isLoose_66 : decode prog_11_method_81_code 66 = .ok (.iconst 1, 1) := by decide +kernel
theorem d_SqlReaderModel_isLoose_67 : decode prog_11_method_81_code 67 = .ok (.goto 4, 3) := by decide +kernel
theorem d_SqlReaderModel_isLoose_70 : decode prog_11_method_81_code 70 = .ok (.iconst 0, 1) := by decide +kernel
theorem d_SqlReaderModel_isLoose_71 : decode prog_11_method_81_code 71 = .ok (.istore 4, 2) := by decide +kernel
theorem d_SqlReaderModel_isLoose_73 : decode prog_11_method_81_code 73 = .ok (.iload 4, 2) := by decide +kernel
theorem d_SqlReaderModel_isLoose_75 : decode prog_11_method_81_code 75 = .ok (.ifCond .eq 42, 3) := by decide +kernel
theorem d_SqlReaderModel_isLoose_78 : decode prog_11_method_81_code 78 = .ok (.aload_n 0, 1) := by decide +kernel
theorem d_SqlReaderModel_isLoose_79 : decode prog_11_method_81_code 79 = .ok (.getfield 121, 3) := by decide +kernel
theorem d_SqlReaderModel_isLoose_82 : decode prog_11_method_81_code 82 = .ok (.aload_n 0, 1) := by decide +kernel
theorem d_SqlReaderModel_isLoose_83 : decode prog_11_method_81_code 83 = .ok (.getfield 44, 3) := by decide +kernel
theorem d_SqlReaderModel_isLoose_86 : decode prog_11_method_81_code 86 = .ok (.iload_n 3, 1) := by decide +kernel
theorem d_SqlReaderModel_isLoose_87 : decode prog_11_method_81_code 87 = .ok (.iaload, 1) := by decide +kernel
theorem d_SqlReaderModel_isLoose_88 : decode prog_11_method_81_code 88 = .ok (.iconst 1, 1) := by decide +kernel
theorem d_SqlReaderModel_isLoose_89 : decode prog_11_method_81_code 89 = .ok (.bastore, 1) := by decide +kernel
theorem d_SqlReaderModel_isLoose_90 : decode prog_11_method_81_code 90 = .ok (.aload_n 0, 1) := by decide +kernel
theorem d_SqlReaderModel_isLoose_91 : decode prog_11_method_81_code 91 = .ok (.getfield 121, 3) := by decide +kernel
theorem d_SqlReaderModel_isLoose_94 : decode prog_11_method_81_code 94 = .ok (.aload_n 0, 1) := by decide +kernel
theorem d_SqlReaderModel_isLoose_95 : decode prog_11_method_81_code 95 = .ok (.getfield 47, 3) := by decide +kernel
theorem d_SqlReaderModel_isLoose_98 : decode prog_11_method_81_code 98 = .ok (.iload_n 3, 1) := by decide +kernel
theorem d_SqlReaderModel_isLoose_99 : decode prog_11_method_81_code 99 = .ok (.iaload, 1) := by decide +kernel
theorem d_SqlReaderModel_isLoose_100 : decode prog_11_method_81_code 100 = .ok (.ifCond .ge 9, 3) := by decide +kernel
theorem d_SqlReaderModel_isLoose_103 : decode prog_11_method_81_code 103 = .ok (.sipush 200, 3) := by decide +kernel
theorem d_SqlReaderModel_isLoose_106 : decode prog_11_method_81_code 106 = .ok (.goto 9, 3) := by decide +kernel
theorem d_SqlReaderModel_isLoose_109 : decode prog_11_method_81_code 109 = .ok (.aload_n 0, 1) := by decide +kernel
theorem d_SqlReaderModel_isLoose_110 : decode prog_11_method_81_code 110 = .ok (.getfield 47, 3) := by decide +kernel
theorem d_SqlReaderModel_isLoose_113 : decode prog_11_method_81_code 113 = .ok (.iload_n 3, 1) := by decide +kernel
theorem d_SqlReaderModel_isLoose_114 : decode prog_11_method_81_code 114 = .ok (.iaload, 1) := by decide +kernel
theorem d_SqlReaderModel_isLoose_115 : decode prog_11_method_81_code 115 = .ok (.iconst 1, 1) := by decide +kernel
theorem d_SqlReaderModel_isLoose_116 : decode prog_11_method_81_code 116 = .ok (.bastore, 1) := by decide +kernel
theorem d_SqlReaderModel_isLoose_117 : decode prog_11_method_81_code 117 = .ok (.iload_n 2, 1) := by decide +kernel
theorem d_SqlReaderModel_isLoose_118 : decode prog_11_method_81_code 118 = .ok (.ifCond .ne 30, 3) := by decide +kernel
theorem d_SqlReaderModel_isLoose_121 : decode prog_11_method_81_code 121 = .ok (.aload_n 0, 1) := by decide +kernel
theorem d_SqlReaderModel_isLoose_122 : decode prog_11_method_81_code 122 = .ok (.getfield 121, 3) := by decide +kernel
theorem d_SqlReaderModel_isLoose_125 : decode prog_11_method_81_code 125 = .ok (.iload_n 3, 1) := by decide +kernel
theorem d_SqlReaderModel_isLoose_126 : decode prog_11_method_81_code 126 = .ok (.baload, 1) := by decide +kernel
theorem d_SqlReaderModel_isLoose_127 : decode prog_11_method_81_code 127 = .ok (.ifCond .eq 25, 3) := by decide +kernel
theorem d_SqlReaderModel_isLoose_130 : decode prog_11_method_81_code 130 = .ok (.aload_n 0, 1) := by decide +kernel
theorem d_SqlReaderModel_isLoose_131 : decode prog_11_method_81_code 131 = .ok (.getfield 41, 3) := by decide +kernel
theorem d_SqlReaderModel_isLoose_134 : decode prog_11_method_81_code 134 = .ok (.iload_n 3, 1) := by decide +kernel
theorem d_SqlReaderModel_isLoose_135 : decode prog_11_method_81_code 135 = .ok (.iaload, 1) := by decide +kernel
theorem d_SqlReaderModel_isLoose_136 : decode prog_11_method_81_code 136 = .ok (.iconst 4, 1) := by decide +kernel
theorem d_SqlReaderModel_isLoose_137 : decode prog_11_method_81_code 137 = .ok (.if_icmp .ne 15, 3) := by decide +kernel
theorem d_SqlReaderModel_isLoose_140 : decode prog_11_method_81_code 140 = .ok (.aload_n 0, 1) := by decide +kernel
theorem d_SqlReaderModel_isLoose_141 : decode prog_11_method_81_code 141 = .ok (.iload_n 3, 1) := by decide +kernel
theorem d_SqlReaderModel_isLoose_142 : decode prog_11_method_81_code 142 = .ok (.invokevirtual 619, 3) := by decide +kernel
theorem d_SqlReaderModel_isLoose_145 : decode prog_11_method_81_code 145 = .ok (.ifCond .ne 7, 3) := by decide +kernel
theorem d_SqlReaderModel_isLoose_148 : decode prog_11_method_81_code 148 = .ok (.iconst 1, 1) := by decide +kernel
theorem d_SqlReaderModel_isLoose_149 : decode prog_11_method_81_code 149 = .ok (.goto 4, 3) := by decide +kernel
theorem d_SqlReaderModel_isLoose_152 : decode prog_11_method_81_code 152 = .ok (.iconst 0, 1) := by decide +kernel
theorem d_SqlReaderModel_isLoose_153 : decode prog_11_method_81_code 153 = .ok (.istore_n 2, 1) := by decide +kernel
theorem d_SqlReaderModel_isLoose_154 : decode prog_11_method_81_code 154 = .ok (.iinc 3 (-1), 3) := by decide +kernel
theorem d_SqlReaderModel_isLoose_157 : decode prog_11_method_81_code 157 = .ok (.goto (-126), 3) := by decide +kernel
theorem d_SqlReaderModel_isLoose_160 : decode prog_11_method_81_code 160 = .ok (.iload_n 2, 1) := by decide +kernel
theorem d_SqlReaderModel_isLoose_161 : decode prog_11_method_81_code 161 = .ok (.ireturn, 1) := by decide +kernel
theorem d_SqlReaderModel_isName_0 : decode prog_11_method_16_code 0 = .ok (.aload_n 0, 1) := by decide +kernel
theorem d_SqlReaderModel_isName_1 : decode prog_11_method_16_code 1 = .ok (.getfield 20, 3) := by decide +kernel
theorem d_SqlReaderModel_isName_4 : decode prog_11_method_16_code 4 = .ok (.iload_n 1, 1) := by decide +kernel
theorem d_SqlReaderModel_isName_5 : decode prog_11_method_16_code 5 = .ok (.iaload, 1) := by decide +kernel
theorem d_SqlReaderModel_isName_6 : decode prog_11_method_16_code 6 = .ok (.aload_n 0, 1) := by decide +kernel
theorem d_SqlReaderModel_isName_7 : decode prog_11_method_16_code 7 = .ok (.getfield 17, 3) := by decide +kernel
theorem d_SqlReaderModel_isName_10 : decode prog_11_method_16_code 10 = .ok (.iload_n 1, 1) := by decide +kernel
theorem d_SqlReaderModel_isName_11 : decode prog_11_method_16_code 11 = .ok (.iaload, 1) := by decide +kernel
theorem d_SqlReaderModel_isName_12 : decode prog_11_method_16_code 12 = .ok (.isub, 1) := by decide +kernel
theorem d_SqlReaderModel_isName_13 : decode prog_11_method_16_code 13 = .ok (.iload 4, 2) := by decide +kernel
theorem d_SqlReaderModel_isName_15 : decode prog_11_method_16_code 15 = .ok (.if_icmp .ne 7, 3) := by decide +kernel
theorem d_SqlReaderModel_isName_18 : decode prog_11_method_16_code 18 = .ok (.iconst 1, 1) := by decide +kernel
theorem d_SqlReaderModel_isName_19 : decode prog_11_method_16_code 19 = .ok (.goto 4, 3) := by decide +kernel
theorem d_SqlReaderModel_isName_22 : decode prog_11_method_16_code 22 = .ok (.iconst 0, 1) := by decide +kernel
theorem d_SqlReaderModel_isName_23 : decode prog_11_method_16_code 23 = .ok (.istore 5, 2) := by decide +kernel
theorem d_SqlReaderModel_isName_25 : decode prog_11_method_16_code 25 = .ok (.iconst 0, 1) := by decide +kernel
theorem d_SqlReaderModel_isName_26 : decode prog_11_method_16_code 26 = .ok (.istore 6, 2) := by decide +kernel
theorem d_SqlReaderModel_isName_28 : decode prog_11_method_16_code 28 = .ok (.iload 5, 2) := by decide +kernel
theorem d_SqlReaderModel_isName_30 : decode prog_11_method_16_code 30 = .ok (.ifCond .eq 46, 3) := by decide +kernel
theorem d_SqlReaderModel_isName_33 : decode prog_11_method_16_code 33 = .ok (.iload 6, 2) := by decide +kernel
theorem d_SqlReaderModel_isName_35 : decode prog_11_method_16_code 35 = .ok (.iload 4, 2) := by decide +kernel
theorem d_SqlReaderModel_isName_37 : decode prog_11_method_16_code 37 = .ok (.if_icmp .ge 39, 3) := by decide +kernel
theorem d_SqlReaderModel_isName_40 : decode prog_11_method_16_code 40 = .ok (.aload_n 0, 1) := by decide +kernel
theorem d_SqlReaderModel_isName_41 : decode prog_11_method_16_code 41 = .ok (.getfield 7, 3) := by decide +kernel
theorem d_SqlReaderModel_isName_44 : decode prog_11_method_16_code 44 = .ok (.aload_n 0, 1) := by decide +kernel
theorem d_SqlReaderModel_isName_45 : decode prog_11_method_16_code 45 = .ok (.getfield 17, 3) := by decide +kernel
theorem d_SqlReaderModel_isName_48 : decode prog_11_method_16_code 48 = .ok (.iload_n 1, 1) := by decide +kernel
theorem d_SqlReaderModel_isName_49 : decode prog_11_method_16_code 49 = .ok (.iaload, 1) := by decide +kernel
theorem d_SqlReaderModel_isName_50 : decode prog_11_method_16_code 50 = .ok (.iload 6, 2) := by decide +kernel
theorem d_SqlReaderModel_isName_52 : decode prog_11_method_16_code 52 = .ok (.iadd, 1) := by decide +kernel
theorem d_SqlReaderModel_isName_53 : decode prog_11_method_16_code 53 = .ok (.baload, 1) := by decide +kernel
theorem d_SqlReaderModel_isName_54 : decode prog_11_method_16_code 54 = .ok (.aload_n 2, 1) := by decide +kernel
theorem d_SqlReaderModel_isName_55 : decode prog_11_method_16_code 55 = .ok (.iload_n 3, 1) := by decide +kernel
theorem d_SqlReaderModel_isName_56 : decode prog_11_method_16_code 56 = .ok (.iload 6, 2) := by decide +kernel
theorem d_SqlReaderModel_isName_58 : decode prog_11_method_16_code 58 = .ok (.iadd, 1) := by decide +kernel
theorem d_SqlReaderModel_isName_59 : decode prog_11_method_16_code 59 = .ok (.baload, 1) := by decide +kernel
theorem d_SqlReaderModel_isName_60 : decode prog_11_method_16_code 60 = .ok (.if_icmp .ne 7, 3) := by decide +kernel
theorem d_SqlReaderModel_isName_63 : decode prog_11_method_16_code 63 = .ok (.iconst 1, 1) := by decide +kernel
theorem d_SqlReaderModel_isName_64 : decode prog_11_method_16_code 64 = .ok (.goto 4, 3) := by decide +kernel
theorem d_SqlReaderModel_isName_67 : decode prog_11_method_16_code 67 = .ok (.iconst 0, 1) := by decide +kernel
theorem d_SqlReaderModel_isName_68 : decode prog_11_method_16_code 68 = .ok (.istore 5, 2) := by decide +kernel
theorem d_SqlReaderModel_isName_70 : decode prog_11_method_16_code 70 = .ok (.iinc 6 1, 3) := by decide +kernel
theorem d_SqlReaderModel_isName_73 : decode prog_11_method_16_code 73 = .ok (.goto (-45), 3) := by decide +kernel
theorem d_SqlReaderModel_isName_76 : decode prog_11_method_16_code 76 = .ok (.iload 5, 2) := by decide +kernel
theorem d_SqlReaderModel_isName_78 : decode prog_11_method_16_code 78 = .ok (.ireturn, 1) := by decide +kernel
theorem d_SqlReaderModel_isSmall_0 : decode prog_11_method_5_code 0 = .ok (.iload_n 0, 1) := by decide +kernel
theorem d_SqlReaderModel_isSmall_1 : decode prog_11_method_5_code 1 = .ok (.bipush 97, 2) := by decide +kernel
theorem d_SqlReaderModel_isSmall_3 : decode prog_11_method_5_code 3 = .ok (.if_icmp .lt 13, 3) := by decide +kernel
theorem d_SqlReaderModel_isSmall_6 : decode prog_11_method_5_code 6 = .ok (.iload_n 0, 1) := by decide +kernel
theorem d_SqlReaderModel_isSmall_7 : decode prog_11_method_5_code 7 = .ok (.bipush 122, 2) := by decide +kernel
theorem d_SqlReaderModel_isSmall_9 : decode prog_11_method_5_code 9 = .ok (.if_icmp .gt 7, 3) := by decide +kernel
theorem d_SqlReaderModel_isSmall_12 : decode prog_11_method_5_code 12 = .ok (.iconst 1, 1) := by decide +kernel
theorem d_SqlReaderModel_isSmall_13 : decode prog_11_method_5_code 13 = .ok (.goto 4, 3) := by decide +kernel
theorem d_SqlReaderModel_isSmall_16 : decode prog_11_method_5_code 16 = .ok (.iconst 0, 1) := by decide +kernel
theorem d_SqlReaderModel_isSmall_17 : decode prog_11_method_5_code 17 = .ok (.ireturn, 1) := by decide +kernel
theorem d_SqlReaderModel_joins_0 : decode prog_11_method_28_code 0 = .ok (.iload_n 1, 1) := by decide +kernel
theorem d_SqlReaderModel_joins_1 : decode prog_11_method_28_code 1 = .ok (.ifCond .ne 21, 3) := by decide +kernel
theorem d_SqlReaderModel_joins_4 : decode prog_11_method_28_code 4 = .ok (.aload_n 0, 1) := by decide +kernel
theorem d_SqlReaderModel_joins_5 : decode prog_11_method_28_code 5 = .ok (.iload_n 2, 1) := by decide +kernel
theorem d_SqlReaderModel_joins_6 : decode prog_11_method_28_code 6 = .ok (.ldc_w 305, 3) := by decide +kernel
theorem d_SqlReaderModel_joins_9 : decode prog_11_method_28_code 9 = .ok (.invokevirtual 293, 3) := by decide +kernel
theorem d_SqlReaderModel_joins_12 : decode prog_11_method_28_code 12 = .ok (.ifCond .eq 8, 3) := by decide +kernel
theorem d_SqlReaderModel_joins_15 : decode prog_11_method_28_code 15 = .ok (.bipush 27, 2) := by decide +kernel
theorem d_SqlReaderModel_joins_17 : decode prog_11_method_28_code 17 = .ok (.goto 4, 3) := by decide +kernel
theorem d_SqlReaderModel_joins_20 : decode prog_11_method_28_code 20 = .ok (.iconst 0, 1) := by decide +kernel
theorem d_SqlReaderModel_joins_21 : decode prog_11_method_28_code 21 = .ok (.ireturn, 1) := by decide +kernel
theorem d_SqlReaderModel_joins_22 : decode prog_11_method_28_code 22 = .ok (.iload_n 1, 1) := by decide +kernel
theorem d_SqlReaderModel_joins_23 : decode prog_11_method_28_code 23 = .ok (.iconst 1, 1) := by decide +kernel
theorem d_SqlReaderModel_joins_24 : decode prog_11_method_28_code 24 = .ok (.if_icmp .ne 21, 3) := by decide +kernel
theorem d_SqlReaderModel_joins_27 : decode prog_11_method_28_code 27 = .ok (.aload_n 0, 1) := by decide +kernel
theorem d_SqlReaderModel_joins_28 : decode prog_11_method_28_code 28 = .ok (.iload_n 2, 1) := by decide +kernel
theorem d_SqlReaderModel_joins_29 : decode prog_11_method_28_code 29 = .ok (.ldc_w 307, 3) := by decide +kernel
theorem d_SqlReaderModel_joins_32 : decode prog_11_method_28_code 32 = .ok (.invokevirtual 293, 3) := by decide +kernel
theorem d_SqlReaderModel_joins_35 : decode prog_11_method_28_code 35 = .ok (.ifCond .eq 8, 3) := by decide +kernel
theorem d_SqlReaderModel_joins_38 : decode prog_11_method_28_code 38 = .ok (.bipush 26, 2) := by decide +kernel
theorem d_SqlReaderModel_joins_40 : decode prog_11_method_28_code 40 = .ok (.goto 4, 3) := by decide +kernel
theorem d_SqlReaderModel_joins_43 : decode prog_11_method_28_code 43 = .ok (.iconst 0, 1) := by decide +kernel
theorem d_SqlReaderModel_joins_44 : decode prog_11_method_28_code 44 = .ok (.ireturn, 1) := by decide +kernel
theorem d_SqlReaderModel_joins_45 : decode prog_11_method_28_code 45 = .ok (.iload_n 1, 1) := by decide +kernel
theorem d_SqlReaderModel_joins_46 : decode prog_11_method_28_code 46 = .ok (.iconst 4, 1) := by decide +kernel
theorem d_SqlReaderModel_joins_47 : decode prog_11_method_28_code 47 = .ok (.if_icmp .ne 21, 3) := by decide +kernel
theorem d_SqlReaderModel_joins_50 : decode prog_11_method_28_code 50 = .ok (.aload_n 0, 1) := by decide +kernel
theorem d_SqlReaderModel_joins_51 : decode prog_11_method_28_code 51 = .ok (.iload_n 2, 1) := by decide +kernel
theorem d_SqlReaderModel_joins_52 : decode prog_11_method_28_code 52 = .ok (.ldc_w 309, 3) := by decide +kernel
theorem d_SqlReaderModel_joins_55 : decode prog_11_method_28_code 55 = .ok (.invokevirtual 293, 3) := by decide +kernel
theorem d_SqlReaderModel_joins_58 : decode prog_11_method_28_code 58 = .ok (.ifCond .eq 8, 3) := by decide +kernel
theorem d_SqlReaderModel_joins_61 : decode prog_11_method_28_code 61 = .ok (.bipush 16, 2) := by decide +kernel
theorem d_SqlReaderModel_joins_63 : decode prog_11_method_28_code 63 = .ok (.goto 4, 3) := by decide +kernel
theorem d_SqlReaderModel_joins_66 : decode prog_11_method_28_code 66 = .ok (.iconst 0, 1) := by decide +kernel
theorem d_SqlReaderModel_joins_67 : decode prog_11_method_28_code 67 = .ok (.ireturn, 1) := by decide +kernel
theorem d_SqlReaderModel_joins_68 : decode prog_11_method_28_code 68 = .ok (.iload_n 1, 1) := by decide +kernel
theorem d_SqlReaderModel_joins_69 : decode prog_11_method_28_code 69 = .ok (.iconst 5, 1) := by decide +kernel
theorem d_SqlReaderModel_joins_70 : decode prog_11_method_28_code 70 = .ok (.if_icmp .ne 45, 3) := by decide +kernel
theorem d_SqlReaderModel_joins_73 : decode prog_11_method_28_code 73 = .ok (.iload_n 3, 1) := by decide +kernel
theorem d_SqlReaderModel_joins_74 : decode prog_11_method_28_code 74 = .ok (.ifCond .ne 7, 3) := by decide +kernel
theorem d_SqlReaderModel_joins_77 : decode prog_11_method_28_code 77 = .ok (.iconst 0, 1) := by decide +kernel
theorem d_SqlReaderModel_joins_78 : decode prog_11_method_28_code 78 = .ok (.goto 36, 3) := by decide +kernel
theorem d_SqlReaderModel_joins_81 : decode prog_11_method_28_code 81 = .ok (.aload_n 0, 1) := by decide +kernel
theorem d_SqlReaderModel_joins_82 : decode prog_11_method_28_code 82 = .ok (.iload_n 2, 1) := by decide +kernel
theorem d_SqlReaderModel_joins_83 : decode prog_11_method_28_code 83 = .ok (.ldc_w 311, 3) := by decide +kernel
theorem d_SqlReaderModel_joins_86 : decode prog_11_method_28_code 86 = .ok (.invokevirtual 293, 3) := by decide +kernel
theorem d_SqlReaderModel_joins_89 : decode prog_11_method_28_code 89 = .ok (.ifCond .eq 8, 3) := by decide +kernel
theorem d_SqlReaderModel_joins_92 : decode prog_11_method_28_code 92 = .ok (.bipush 11, 2) := by decide +kernel
theorem d_SqlReaderModel_joins_94 : decode prog_11_method_28_code 94 = .ok (.goto 20, 3) := by decide +kernel
theorem d_SqlReaderModel_joins_97 : decode prog_11_method_28_code 97 = .ok (.aload_n 0, 1) := by decide +kernel
theorem d_SqlReaderModel_joins_98 : decode prog_11_method_28_code 98 = .ok (.iload_n 2, 1) := by decide +kernel
theorem d_SqlReaderModel_joins_99 : decode prog_11_method_28_code 99 = .ok (.ldc_w 313, 3) := by decide +kernel
theorem d_SqlReaderModel_joins_102 : decode prog_11_method_28_code 102 = .ok (.invokevirtual 293, 3) := by decide +kernel
theorem d_SqlReaderModel_joins_105 : decode prog_11_method_28_code 105 = .ok (.ifCond .eq 8, 3) := by decide +kernel
theorem d_SqlReaderModel_joins_108 : decode prog_11_method_28_code 108 = .ok (.bipush 12, 2) := by decide +kernel
theorem d_SqlReaderModel_joins_110 : decode prog_11_method_28_code 110 = .ok (.goto 4, 3) := by decide +kernel
theorem d_SqlReaderModel_joins_113 : decode prog_11_method_28_code 113 = .ok (.iconst 0, 1) := by decide +kernel
theorem d_SqlReaderModel_joins_114 : decode prog_11_method_28_code 114 = .ok (.ireturn, 1) := by decide +kernel
theorem d_SqlReaderModel_joins_115 : decode prog_11_method_28_code 115 = .ok (.aload_n 0, 1) := by decide +kernel
theorem d_SqlReaderModel_joins_116 : decode prog_11_method_28_code 116 = .ok (.iload_n 2, 1) := by decide +kernel
theorem d_SqlReaderModel_joins_117 : decode prog_11_method_28_code 117 = .ok (.ldc_w 315, 3) := by decide +kernel
theorem d_SqlReaderModel_joins_120 : decode prog_11_method_28_code 120 = .ok (.invokevirtual 293, 3) := by decide +kernel
theorem d_SqlReaderModel_joins_123 : decode prog_11_method_28_code 123 = .ok (.ifCond .eq 8, 3) := by decide +kernel
theorem d_SqlReaderModel_joins_126 : decode prog_11_method_28_code 126 = .ok (.bipush 13, 2) := by decide +kernel
theorem d_SqlReaderModel_joins_128 : decode prog_11_method_28_code 128 = .ok (.goto 36, 3) := by decide +kernel
theorem d_SqlReaderModel_joins_131 : decode prog_11_method_28_code 131 = .ok (.aload_n 0, 1) := by decide +kernel
theorem d_SqlReaderModel_joins_132 : decode prog_11_method_28_code 132 = .ok (.iload_n 2, 1) := by decide +kernel
theorem d_SqlReaderModel_joins_133 : decode prog_11_method_28_code 133 = .ok (.ldc_w 317, 3) := by decide +kernel
theorem d_SqlReaderModel_joins_136 : decode prog_11_method_28_code 136 = .ok (.invokevirtual 293, 3) := by decide +kernel
theorem d_SqlReaderModel_joins_139 : decode prog_11_method_28_code 139 = .ok (.ifCond .eq 8, 3) := by decide +kernel
theorem d_SqlReaderModel_joins_142 : decode prog_11_method_28_code 142 = .ok (.bipush 14, 2) := by decide +kernel
theorem d_SqlReaderModel_joins_144 : decode prog_11_method_28_code 144 = .ok (.goto 20, 3) := by decide +kernel
theorem d_SqlReaderModel_joins_147 : decode prog_11_method_28_code 147 = .ok (.aload_n 0, 1) := by decide +kernel
theorem d_SqlReaderModel_joins_148 : decode prog_11_method_28_code 148 = .ok (.iload_n 2, 1) := by decide +kernel
theorem d_SqlReaderModel_joins_149 : decode prog_11_method_28_code 149 = .ok (.ldc_w 319, 3) := by decide +kernel
theorem d_SqlReaderModel_joins_152 : decode prog_11_method_28_code 152 = .ok (.invokevirtual 293, 3) := by decide +kernel
theorem d_SqlReaderModel_joins_155 : decode prog_11_method_28_code 155 = .ok (.ifCond .eq 8, 3) := by decide +kernel
theorem d_SqlReaderModel_joins_158 : decode prog_11_method_28_code 158 = .ok (.bipush 15, 2) := by decide +kernel
theorem d_SqlReaderModel_joins_160 : decode prog_11_method_28_code 160 = .ok (.goto 4, 3) := by decide +kernel
theorem d_SqlReaderModel_joins_163 : decode prog_11_method_28_code 163 = .ok (.iconst 0, 1) := by decide +kernel
theorem d_SqlReaderModel_joins_164 : decode prog_11_method_28_code 164 = .ok (.ireturn, 1) := by decide +kernel
theorem d_SqlReaderModel_keep_0 : decode prog_11_method_85_code 0 = .ok (.aload_n 0, 1) := by decide +kernel
theorem d_SqlReaderModel_keep_1 : decode prog_11_method_85_code 1 = .ok (.getfield 127, 3) := by decide +kernel
theorem d_SqlReaderModel_keep_4 : decode prog_11_method_85_code 4 = .ok (.iload_n 1, 1) := by decide +kernel
theorem d_SqlReaderModel_keep_5 : decode prog_11_method_85_code 5 = .ok (.iload_n 2, 1) := by decide +kernel
theorem d_SqlReaderModel_keep_6 : decode prog_11_method_85_code 6 = .ok (.ifCond .ge 7, 3) := by decide +kernel
theorem d_SqlReaderModel_keep_9 : decode prog_11_method_85_code 9 = .ok (.iconst 0, 1) := by decide +kernel
theorem d_SqlReaderModel_keep_10 : decode prog_11_method_85_code 10 = .ok (.goto 16, 3) := by decide +kernel
theorem d_SqlReaderModel_keep_13 : decode prog_11_method_85_code 13 = .ok (.aload_n 0, 1) := by decide +kernel
theorem d_SqlReaderModel_keep_14 : decode prog_11_method_85_code 14 = .ok (.getfield 20, 3) := by decide +kernel
theorem d_SqlReaderModel_keep_17 : decode prog_11_method_85_code 17 = .ok (.iload_n 2, 1) := by decide +kernel
theorem d_SqlReaderModel_keep_18 : decode prog_11_method_85_code 18 = .ok (.iaload, 1) := by decide +kernel
theorem d_SqlReaderModel_keep_19 : decode prog_11_method_85_code 19 = .ok (.aload_n 0, 1) := by decide +kernel
theorem d_SqlReaderModel_keep_20 : decode prog_11_method_85_code 20 = .ok (.getfield 17, 3) := by decide +kernel
theorem d_SqlReaderModel_keep_23 : decode prog_11_method_85_code 23 = .ok (.iload_n 2, 1) := by decide +kernel
theorem d_SqlReaderModel_keep_24 : decode prog_11_method_85_code 24 = .ok (.iaload, 1) := by decide +kernel
theorem d_SqlReaderModel_keep_25 : decode prog_11_method_85_code 25 = .ok (.isub, 1) := by decide +kernel
theorem d_SqlReaderModel_keep_26 : decode prog_11_method_85_code 26 = .ok (.iastore, 1) := by decide +kernel
theorem d_SqlReaderModel_keep_27 : decode prog_11_method_85_code 27 = .ok (.iconst 0, 1) := by decide +kernel
theorem d_SqlReaderModel_keep_28 : decode prog_11_method_85_code 28 = .ok (.istore_n 3, 1) := by decide +kernel
theorem d_SqlReaderModel_keep_29 : decode prog_11_method_85_code 29 = .ok (.iload_n 3, 1) := by decide +kernel
theorem d_SqlReaderModel_keep_30 : decode prog_11_method_85_code 30 = .ok (.aload_n 0, 1) := by decide +kernel
theorem d_SqlReaderModel_keep_31 : decode prog_11_method_85_code 31 = .ok (.getfield 127, 3) := by decide +kernel
theorem d_SqlReaderModel_keep_34 : decode prog_11_method_85_code 34 = .ok (.iload_n 1, 1) := by decide +kernel
theorem d_SqlReaderModel_keep_35 : decode prog_11_method_85_code 35 = .ok (.iaload, 1) := by decide +kernel
theorem d_SqlReaderModel_keep_36 : decode prog_11_method_85_code 36 = .ok (.if_icmp .ge 33, 3) := by decide +kernel
theorem d_SqlReaderModel_keep_39 : decode prog_11_method_85_code 39 = .ok (.aload_n 0, 1) := by decide +kernel
theorem d_SqlReaderModel_keep_40 : decode prog_11_method_85_code 40 = .ok (.getfield 124, 3) := by decide +kernel
theorem d_SqlReaderModel_keep_43 : decode prog_11_method_85_code 43 = .ok (.bipush 16, 2) := by decide +kernel
theorem d_SqlReaderModel_keep_45 : decode prog_11_method_85_code 45 = .ok (.iload_n 1, 1) := by decide +kernel
theorem d_SqlReaderModel_keep_46 : decode prog_11_method_85_code 46 = .ok (.imul, 1) := by decide +kernel
theorem d_SqlReaderModel_keep_47 : decode prog_11_method_85_code 47 = .ok (.iload_n 3, 1) := by decide +kernel
theorem d_SqlReaderModel_keep_48 : decode prog_11_method_85_code 48 = .ok (.iadd, 1) := by decide +kernel
theorem d_SqlReaderModel_keep_49 : decode prog_11_method_85_code 49 = .ok (.aload_n 0, 1) := by decide +kernel
theorem d_SqlReaderModel_keep_50 : decode prog_11_method_85_code 50 = .ok (.getfield 7, 3) := by decide +kernel
theorem d_SqlReaderModel_keep_53 : decode prog_11_method_85_code 53 = .ok (.aload_n 0, 1) := by decide +kernel
theorem d_SqlReaderModel_keep_54 : decode prog_11_method_85_code 54 = .ok (.getfield 17, 3) := by decide +kernel
theorem d_SqlReaderModel_keep_57 : decode prog_11_method_85_code 57 = .ok (.iload_n 2, 1) := by decide +kernel
theorem d_SqlReaderModel_keep_58 : decode prog_11_method_85_code 58 = .ok (.iaload, 1) := by decide +kernel
theorem d_SqlReaderModel_keep_59 : decode prog_11_method_85_code 59 = .ok (.iload_n 3, 1) := by decide +kernel
theorem d_SqlReaderModel_keep_60 : decode prog_11_method_85_code 60 = .ok (.iadd, 1) := by decide +kernel
theorem d_SqlReaderModel_keep_61 : decode prog_11_method_85_code 61 = .ok (.baload, 1) := by decide +kernel
theorem d_SqlReaderModel_keep_62 : decode prog_11_method_85_code 62 = .ok (.bastore, 1) := by decide +kernel
theorem d_SqlReaderModel_keep_63 : decode prog_11_method_85_code 63 = .ok (.iinc 3 1, 3) := by decide +kernel
theorem d_SqlReaderModel_keep_66 : decode prog_11_method_85_code 66 = .ok (.goto (-37), 3) := by decide +kernel
theorem d_SqlReaderModel_keep_69 : decode prog_11_method_85_code 69 = .ok (.return_, 1) := by decide +kernel
theorem d_SqlReaderModel_letter_0 : decode prog_11_method_89_code 0 = .ok (.iload_n 1, 1) := by decide +kernel
theorem d_SqlReaderModel_letter_1 : decode prog_11_method_89_code 1 = .ok (.ifCond .lt 35, 3) := by decide +kernel
theorem d_SqlReaderModel_letter_4 : decode prog_11_method_89_code 4 = .ok (.iload_n 1, 1) := by decide +kernel
theorem d_SqlReaderModel_letter_5 : decode prog_11_method_89_code 5 = .ok (.aload_n 0, 1) := by decide +kernel
theorem d_SqlReaderModel_letter_6 : decode prog_11_method_89_code 6 = .ok (.getfield 133, 3) := by decide +kernel
theorem d_SqlReaderModel_letter_9 : decode prog_11_method_89_code 9 = .ok (.if_icmp .ge 27, 3) := by decide +kernel
theorem d_SqlReaderModel_letter_12 : decode prog_11_method_89_code 12 = .ok (.aload_n 0, 1) := by decide +kernel
theorem d_SqlReaderModel_letter_13 : decode prog_11_method_89_code 13 = .ok (.getfield 41, 3) := by decide +kernel
theorem d_SqlReaderModel_letter_16 : decode prog_11_method_89_code 16 = .ok (.iload_n 1, 1) := by decide +kernel
theorem d_SqlReaderModel_letter_17 : decode prog_11_method_89_code 17 = .ok (.iaload, 1) := by decide +kernel
theorem d_SqlReaderModel_letter_18 : decode prog_11_method_89_code 18 = .ok (.iconst 2, 1) := by decide +kernel
theorem d_SqlReaderModel_letter_19 : decode prog_11_method_89_code 19 = .ok (.if_icmp .ne 17, 3) := by decide +kernel
theorem d_SqlReaderModel_letter_22 : decode prog_11_method_89_code 22 = .ok (.iload_n 2, 1) := by decide +kernel
theorem d_SqlReaderModel_letter_23 : decode prog_11_method_89_code 23 = .ok (.ifCond .lt 13, 3) := by decide +kernel
theorem d_SqlReaderModel_letter_26 : decode prog_11_method_89_code 26 = .ok (.iload_n 2, 1) := by decide +kernel
theorem d_SqlReaderModel_letter_27 : decode prog_11_method_89_code 27 = .ok (.aload_n 0, 1) := by decide +kernel
theorem d_SqlReaderModel_letter_28 : decode prog_11_method_89_code 28 = .ok (.getfield 66, 3) := by decide +kernel
theorem d_SqlReaderModel_letter_31 : decode prog_11_method_89_code 31 = .ok (.iload_n 1, 1) := by decide +kernel
theorem d_SqlReaderModel_letter_32 : decode prog_11_method_89_code 32 = .ok (.iaload, 1) := by decide +kernel
theorem d_SqlReaderModel_letter_33 : decode prog_11_method_89_code 33 = .ok (.if_icmp .lt 7, 3) := by decide +kernel
theorem d_SqlReaderModel_letter_36 : decode prog_11_method_89_code 36 = .ok (.iconst (-1), 1) := by decide +kernel
theorem d_SqlReaderModel_letter_37 : decode prog_11_method_89_code 37 = .ok (.goto 14, 3) := by decide +kernel
theorem d_SqlReaderModel_letter_40 : decode prog_11_method_89_code 40 = .ok (.aload_n 0, 1) := by decide +kernel
theorem d_SqlReaderModel_letter_41 : decode prog_11_method_89_code 41 = .ok (.getfield 63, 3) := by decide +kernel
theorem d_SqlReaderModel_letter_44 : decode prog_11_method_89_code 44 = .ok (.bipush 31, 2) := by decide +kernel
theorem d_SqlReaderModel_letter_46 : decode prog_11_method_89_code 46 = .ok (.iload_n 1, 1) := by decide +kernel
theorem d_SqlReaderModel_letter_47 : decode prog_11_method_89_code 47 = .ok (.imul, 1) := by decide +kernel
theorem d_SqlReaderModel_letter_48 : decode prog_11_method_89_code 48 = .ok (.iload_n 2, 1) := by decide +kernel
theorem d_SqlReaderModel_letter_49 : decode prog_11_method_89_code 49 = .ok (.iadd, 1) := by decide +kernel
theorem d_SqlReaderModel_letter_50 : decode prog_11_method_89_code 50 = .ok (.baload, 1) := by decide +kernel
theorem d_SqlReaderModel_letter_51 : decode prog_11_method_89_code 51 = .ok (.ireturn, 1) := by decide +kernel
theorem d_SqlReaderModel_list_0 : decode prog_11_method_92_code 0 = .ok (.iload_n 2, 1) := by decide +kernel
theorem d_SqlReaderModel_list_1 : decode prog_11_method_92_code 1 = .ok (.ifCond .lt 12, 3) := by decide +kernel
theorem d_SqlReaderModel_list_4 : decode prog_11_method_92_code 4 = .ok (.iload_n 2, 1) := by decide +kernel
theorem d_SqlReaderModel_list_5 : decode prog_11_method_92_code 5 = .ok (.aload_n 0, 1) := by decide +kernel
theorem d_SqlReaderModel_list_6 : decode prog_11_method_92_code 6 = .ok (.iload_n 1, 1) := by decide +kernel
theorem d_SqlReaderModel_list_7 : decode prog_11_method_92_code 7 = .ok (.invokevirtual 657, 3) := by decide +kernel
theorem d_SqlReaderModel_list_10 : decode prog_11_method_92_code 10 = .ok (.if_icmp .lt 5, 3) := by decide +kernel
theorem d_SqlReaderModel_list_13 : decode prog_11_method_92_code 13 = .ok (.iconst (-1), 1) := by decide +kernel
theorem d_SqlReaderModel_list_14 : decode prog_11_method_92_code 14 = .ok (.ireturn, 1) := by decide +kernel
theorem d_SqlReaderModel_list_15 : decode prog_11_method_92_code 15 = .ok (.iload_n 1, 1) := by decide +kernel
theorem d_SqlReaderModel_list_16 : decode prog_11_method_92_code 16 = .ok (.iconst 2, 1) := by decide +kernel
theorem d_SqlReaderModel_list_17 : decode prog_11_method_92_code 17 = .ok (.if_icmp .ne 33, 3) := by decide +kernel
theorem d_SqlReaderModel_list_20 : decode prog_11_method_92_code 20 = .ok (.aload_n 0, 1) := by decide +kernel
theorem d_SqlReaderModel_list_21 : decode prog_11_method_92_code 21 = .ok (.getfield 87, 3) := by decide +kernel
theorem d_SqlReaderModel_list_24 : decode prog_11_method_92_code 24 = .ok (.iload_n 2, 1) := by decide +kernel
theorem d_SqlReaderModel_list_25 : decode prog_11_method_92_code 25 = .ok (.baload, 1) := by decide +kernel
theorem d_SqlReaderModel_list_26 : decode prog_11_method_92_code 26 = .ok (.ifCond .eq 14, 3) := by decide +kernel
theorem d_SqlReaderModel_list_29 : decode prog_11_method_92_code 29 = .ok (.aload_n 0, 1) := by decide +kernel
theorem d_SqlReaderModel_list_30 : decode prog_11_method_92_code 30 = .ok (.getfield 84, 3) := by decide +kernel
theorem d_SqlReaderModel_list_33 : decode prog_11_method_92_code 33 = .ok (.iload_n 2, 1) := by decide +kernel
theorem d_SqlReaderModel_list_34 : decode prog_11_method_92_code 34 = .ok (.laload, 1) := by decide +kernel
theorem d_SqlReaderModel_list_35 : decode prog_11_method_92_code 35 = .ok (.lneg, 1) := by decide +kernel
theorem d_SqlReaderModel_list_36 : decode prog_11_method_92_code 36 = .ok (.l2i, 1) := by decide +kernel
theorem d_SqlReaderModel_list_37 : decode prog_11_method_92_code 37 = .ok (.goto 12, 3) := by decide +kernel
theorem d_SqlReaderModel_list_40 : decode prog_11_method_92_code 40 = .ok (.aload_n 0, 1) := by decide +kernel
theorem d_SqlReaderModel_list_41 : decode prog_11_method_92_code 41 = .ok (.getfield 84, 3) := by decide +kernel
theorem d_SqlReaderModel_list_44 : decode prog_11_method_92_code 44 = .ok (.iload_n 2, 1) := by decide +kernel
theorem d_SqlReaderModel_list_45 : decode prog_11_method_92_code 45 = .ok (.laload, 1) := by decide +kernel
theorem d_SqlReaderModel_list_46 : decode prog_11_method_92_code 46 = .ok (.l2i, 1) := by decide +kernel
theorem d_SqlReaderModel_list_47 : decode prog_11_method_92_code 47 = .ok (.iconst 1, 1) := by decide +kernel
theorem d_SqlReaderModel_list_48 : decode prog_11_method_92_code 48 = .ok (.isub, 1) := by decide +kernel
theorem d_SqlReaderModel_list_49 : decode prog_11_method_92_code 49 = .ok (.ireturn, 1) := by decide +kernel
theorem d_SqlReaderModel_list_50 : decode prog_11_method_92_code 50 = .ok (.iload_n 1, 1) := by decide +kernel
theorem d_SqlReaderModel_list_51 : decode prog_11_method_92_code 51 = .ok (.ifCond .ne 12, 3) := by decide +kernel
theorem d_SqlReaderModel_list_54 : decode prog_11_method_92_code 54 = .ok (.aload_n 0, 1) := by decide +kernel
theorem d_SqlReaderModel_list_55 : decode prog_11_method_92_code 55 = .ok (.getfield 78, 3) := by decide +kernel
theorem d_SqlReaderModel_list_58 : decode prog_11_method_92_code 58 = .ok (.iload_n 2, 1) := by decide +kernel
theorem d_SqlReaderModel_list_59 : decode prog_11_method_92_code 59 = .ok (.iaload, 1) := by decide +kernel
theorem d_SqlReaderModel_list_60 : decode prog_11_method_92_code 60 = .ok (.goto 97, 3) := by decide +kernel
theorem d_SqlReaderModel_list_63 : decode prog_11_method_92_code 63 = .ok (.iload_n 1, 1) := by decide +kernel
theorem d_SqlReaderModel_list_64 : decode prog_11_method_92_code 64 = .ok (.iconst 1, 1) := by decide +kernel
theorem d_SqlReaderModel_list_65 : decode prog_11_method_92_code 65 = .ok (.if_icmp .ne 12, 3) := by decide +kernel
theorem d_SqlReaderModel_list_68 : decode prog_11_method_92_code 68 = .ok (.aload_n 0, 1) := by decide +kernel
theorem d_SqlReaderModel_list_69 : decode prog_11_method_92_code 69 = .ok (.getfield 81, 3) := by decide +kernel
theorem d_SqlReaderModel_list_72 : decode prog_11_method_92_code 72 = .ok (.iload_n 2, 1) := by decide +kernel
theorem d_SqlReaderModel_list_73 : decode prog_11_method_92_code 73 = .ok (.iaload, 1) := by decide +kernel
theorem d_SqlReaderModel_list_74 : decode prog_11_method_92_code 74 = .ok (.goto 83, 3) := by decide +kernel
theorem d_SqlReaderModel_list_77 : decode prog_11_method_92_code 77 = .ok (.iload_n 1, 1) := by decide +kernel
theorem d_SqlReaderModel_list_78 : decode prog_11_method_92_code 78 = .ok (.iconst 3, 1) := by decide +kernel
theorem d_SqlReaderModel_list_79 : decode prog_11_method_92_code 79 = .ok (.if_icmp .ne 12, 3) := by decide +kernel
theorem d_SqlReaderModel_list_82 : decode prog_11_method_92_code 82 = .ok (.aload_n 0, 1) := by decide +kernel
theorem d_SqlReaderModel_list_83 : decode prog_11_method_92_code 83 = .ok (.getfield 91, 3) := by decide +kernel
theorem d_SqlReaderModel_list_86 : decode prog_11_method_92_code 86 = .ok (.iload_n 2, 1) := by decide +kernel
theorem d_SqlReaderModel_list_87 : decode prog_11_method_92_code 87 = .ok (.iaload, 1) := by decide +kernel
theorem d_SqlReaderModel_list_88 : decode prog_11_method_92_code 88 = .ok (.goto 69, 3) := by decide +kernel
theorem d_SqlReaderModel_list_91 : decode prog_11_method_92_code 91 = .ok (.iload_n 1, 1) := by decide +kernel
theorem d_SqlReaderModel_list_92 : decode prog_11_method_92_code 92 = .ok (.iconst 4, 1) := by decide +kernel
theorem d_SqlReaderModel_list_93 : decode prog_11_method_92_code 93 = .ok (.if_icmp .ne 12, 3) := by decide +kernel
theorem d_SqlReaderModel_list_96 : decode prog_11_method_92_code 96 = .ok (.aload_n 0, 1) := by decide +kernel
theorem d_SqlReaderModel_list_97 : decode prog_11_method_92_code 97 = .ok (.getfield 103, 3) := by decide +kernel
theorem d_SqlReaderModel_list_100 : decode prog_11_method_92_code 100 = .ok (.iload_n 2, 1) := by decide +kernel
theorem d_SqlReaderModel_list_101 : decode prog_11_method_92_code 101 = .ok (.iaload, 1) := by decide +kernel
theorem d_SqlReaderModel_list_102 : decode prog_11_method_92_code 102 = .ok (.goto 55, 3) := by decide +kernel
theorem d_SqlReaderModel_list_105 : decode prog_11_method_92_code 105 = .ok (.iload_n 1, 1) := by decide +kernel
theorem d_SqlReaderModel_list_106 : decode prog_11_method_92_code 106 = .ok (.iconst 5, 1) := by decide +kernel
theorem d_SqlReaderModel_list_107 : decode prog_11_method_92_code 107 = .ok (.if_icmp .ne 12, 3) := by decide +kernel
theorem d_SqlReaderModel_list_110 : decode prog_11_method_92_code 110 = .ok (.aload_n 0, 1) := by decide +kernel
theorem d_SqlReaderModel_list_111 : decode prog_11_method_92_code 111 = .ok (.getfield 106, 3) := by decide +kernel
theorem d_SqlReaderModel_list_114 : decode prog_11_method_92_code 114 = .ok (.iload_n 2, 1) := by decide +kernel
theorem d_SqlReaderModel_list_115 : decode prog_11_method_92_code 115 = .ok (.iaload, 1) := by decide +kernel
theorem d_SqlReaderModel_list_116 : decode prog_11_method_92_code 116 = .ok (.goto 41, 3) := by decide +kernel
theorem d_SqlReaderModel_list_119 : decode prog_11_method_92_code 119 = .ok (.iload_n 1, 1) := by decide +kernel
theorem d_SqlReaderModel_list_120 : decode prog_11_method_92_code 120 = .ok (.bipush 7, 2) := by decide +kernel
theorem d_SqlReaderModel_list_122 : decode prog_11_method_92_code 122 = .ok (.if_icmp .ne 12, 3) := by decide +kernel
theorem d_SqlReaderModel_list_125 : decode prog_11_method_92_code 125 = .ok (.aload_n 0, 1) := by decide +kernel
theorem d_SqlReaderModel_list_126 : decode prog_11_method_92_code 126 = .ok (.getfield 115, 3) := by decide +kernel
theorem d_SqlReaderModel_list_129 : decode prog_11_method_92_code 129 = .ok (.iload_n 2, 1) := by decide +kernel
theorem d_SqlReaderModel_list_130 : decode prog_11_method_92_code 130 = .ok (.iaload, 1) := by decide +kernel
theorem d_SqlReaderModel_list_131 : decode prog_11_method_92_code 131 = .ok (.goto 26, 3) := by decide +kernel
theorem d_SqlReaderModel_list_134 : decode prog_11_method_92_code 134 = .ok (.iload_n 1, 1) := by decide +kernel
theorem d_SqlReaderModel_list_135 : decode prog_11_method_92_code 135 = .ok (.bipush 8, 2) := by decide +kernel
theorem d_SqlReaderModel_list_137 : decode prog_11_method_92_code 137 = .ok (.if_icmp .ne 14, 3) := by decide +kernel
theorem d_SqlReaderModel_list_140 : decode prog_11_method_92_code 140 = .ok (.aload_n 0, 1) := by decide +kernel
theorem d_SqlReaderModel_list_141 : decode prog_11_method_92_code 141 = .ok (.getfield 118, 3) := by decide +kernel
theorem d_SqlReaderModel_list_144 : decode prog_11_method_92_code 144 = .ok (.iload_n 2, 1) := by decide +kernel
theorem d_SqlReaderModel_list_145 : decode prog_11_method_92_code 145 = .ok (.iconst 1, 1) := by decide +kernel
theorem d_SqlReaderModel_list_146 : decode prog_11_method_92_code 146 = .ok (.iadd, 1) := by decide +kernel
theorem d_SqlReaderModel_list_147 : decode prog_11_method_92_code 147 = .ok (.iaload, 1) := by decide +kernel
theorem d_SqlReaderModel_list_148 : decode prog_11_method_92_code 148 = .ok (.goto 9, 3) := by decide +kernel
theorem d_SqlReaderModel_list_151 : decode prog_11_method_92_code 151 = .ok (.aload_n 0, 1) := by decide +kernel
theorem d_SqlReaderModel_list_152 : decode prog_11_method_92_code 152 = .ok (.getfield 109, 3) := by decide +kernel
theorem d_SqlReaderModel_list_155 : decode prog_11_method_92_code 155 = .ok (.iload_n 2, 1) := by decide +kernel
theorem d_SqlReaderModel_list_156 : decode prog_11_method_92_code 156 = .ok (.iaload, 1) := by decide +kernel
theorem d_SqlReaderModel_list_157 : decode prog_11_method_92_code 157 = .ok (.ireturn, 1) := by decide +kernel
theorem d_SqlReaderModel_name_0 : decode prog_11_method_93_code 0 = .ok (.iload_n 1, 1) := by decide +kernel
theorem d_SqlReaderModel_name_1 : decode prog_11_method_93_code 1 = .ok (.iconst (-1), 1) := by decide +kernel
theorem d_SqlReaderModel_name_2 : decode prog_11_method_93_code 2 = .ok (.if_icmp .lt 29, 3) := by decide +kernel
theorem d_SqlReaderModel_name_5 : decode prog_11_method_93_code 5 = .ok (.iload_n 1, 1) := by decide +kernel
theorem d_SqlReaderModel_name_6 : decode prog_11_method_93_code 6 = .ok (.bipush 8, 2) := by decide +kernel
theorem d_SqlReaderModel_name_8 : decode prog_11_method_93_code 8 = .ok (.if_icmp .ge 23, 3) := by decide +kernel
theorem d_SqlReaderModel_name_11 : decode prog_11_method_93_code 11 = .ok (.iload_n 2, 1) := by decide +kernel
theorem d_SqlReaderModel_name_12 : decode prog_11_method_93_code 12 = .ok (.ifCond .lt 19, 3) := by decide +kernel
theorem d_SqlReaderModel_name_15 : decode prog_11_method_93_code 15 = .ok (.iload_n 2, 1) := by decide +kernel
theorem d_SqlReaderModel_name_16 : decode prog_11_method_93_code 16 = .ok (.aload_n 0, 1) := by decide +kernel
theorem d_SqlReaderModel_name_17 : decode prog_11_method_93_code 17 = .ok (.getfield 127, 3) := by decide +kernel
theorem d_SqlReaderModel_name_20 : decode prog_11_method_93_code 20 = .ok (.iload_n 1, 1) := by decide +kernel
theorem d_SqlReaderModel_name_21 : decode prog_11_method_93_code 21 = .ok (.iconst 1, 1) := by decide +kernel
theorem d_SqlReaderModel_name_22 : decode prog_11_method_93_code 22 = .ok (.iadd, 1) := by decide +kernel
theorem d_SqlReaderModel_name_23 : decode prog_11_method_93_code 23 = .ok (.iaload, 1) := by decide +kernel
theorem d_SqlReaderModel_name_24 : decode prog_11_method_93_code 24 = .ok (.if_icmp .ge 7, 3) := by decide +kernel
theorem d_SqlReaderModel_name_27 : decode prog_11_method_93_code 27 = .ok (.iconst 1, 1) := by decide +kernel
theorem d_SqlReaderModel_name_28 : decode prog_11_method_93_code 28 = .ok (.goto 4, 3) := by decide +kernel
theorem d_SqlReaderModel_name_31 : decode prog_11_method_93_code 31 = .ok (.iconst 0, 1) := by decide +kernel
theorem d_SqlReaderModel_name_32 : decode prog_11_method_93_code 32 = .ok (.istore_n 3, 1) := by decide +kernel
theorem d_SqlReaderModel_name_33 : decode prog_11_method_93_code 33 = .ok (.iload_n 3, 1) := by decide +kernel
theorem d_SqlReaderModel_name_34 : decode prog_11_method_93_code 34 = .ok (.ifCond .eq 19, 3) := by decide +kernel
theorem d_SqlReaderModel_name_37 : decode prog_11_method_93_code 37 = .ok (.aload_n 0, 1) := by decide +kernel
theorem d_SqlReaderModel_name_38 : decode prog_11_method_93_code 38 = .ok (.getfield 124, 3) := by decide +kernel
theorem d_SqlReaderModel_name_41 : decode prog_11_method_93_code 41 = .ok (.bipush 16, 2) := by decide +kernel
theorem d_SqlReaderModel_name_43 : decode prog_11_method_93_code 43 = .ok (.iload_n 1, 1) := by decide +kernel
theorem d_SqlReaderModel_name_44 : decode prog_11_method_93_code 44 = .ok (.iconst 1, 1) := by decide +kernel
theorem d_SqlReaderModel_name_45 : decode prog_11_method_93_code 45 = .ok (.iadd, 1) := by decide +kernel
theorem d_SqlReaderModel_name_46 : decode prog_11_method_93_code 46 = .ok (.imul, 1) := by decide +kernel
theorem d_SqlReaderModel_name_47 : decode prog_11_method_93_code 47 = .ok (.iload_n 2, 1) := by decide +kernel
theorem d_SqlReaderModel_name_48 : decode prog_11_method_93_code 48 = .ok (.iadd, 1) := by decide +kernel
theorem d_SqlReaderModel_name_49 : decode prog_11_method_93_code 49 = .ok (.baload, 1) := by decide +kernel
theorem d_SqlReaderModel_name_50 : decode prog_11_method_93_code 50 = .ok (.goto 4, 3) := by decide +kernel
theorem d_SqlReaderModel_name_53 : decode prog_11_method_93_code 53 = .ok (.iconst (-1), 1) := by decide +kernel
theorem d_SqlReaderModel_name_54 : decode prog_11_method_93_code 54 = .ok (.ireturn, 1) := by decide +kernel
theorem d_SqlReaderModel_need_0 : decode prog_11_method_43_code 0 = .ok (.aload_n 0, 1) := by decide +kernel
theorem d_SqlReaderModel_need_1 : decode prog_11_method_43_code 1 = .ok (.aload_n 0, 1) := by decide +kernel
theorem d_SqlReaderModel_need_2 : decode prog_11_method_43_code 2 = .ok (.aload_n 1, 1) := by decide +kernel
theorem d_SqlReaderModel_need_3 : decode prog_11_method_43_code 3 = .ok (.invokevirtual 421, 3) := by decide +kernel
theorem d_SqlReaderModel_need_6 : decode prog_11_method_43_code 6 = .ok (.ifCond .eq 10, 3) := by decide +kernel
theorem d_SqlReaderModel_need_9 : decode prog_11_method_43_code 9 = .ok (.aload_n 0, 1) := by decide +kernel
theorem d_SqlReaderModel_need_10 : decode prog_11_method_43_code 10 = .ok (.getfield 226, 3) := by decide +kernel
theorem d_SqlReaderModel_need_13 : decode prog_11_method_43_code 13 = .ok (.ifCond .eq 7, 3) := by decide +kernel
theorem d_SqlReaderModel_need_16 : decode prog_11_method_43_code 16 = .ok (.iconst 1, 1) := by decide +kernel
theorem d_SqlReaderModel_need_17 : decode prog_11_method_43_code 17 = .ok (.goto 4, 3) := by decide +kernel
theorem d_SqlReaderModel_need_20 : decode prog_11_method_43_code 20 = .ok (.iconst 0, 1) := by decide +kernel
theorem d_SqlReaderModel_need_21 : decode prog_11_method_43_code 21 = .ok (.putfield 226, 3) := by decide +kernel
theorem d_SqlReaderModel_need_24 : decode prog_11_method_43_code 24 = .ok (.return_, 1) := by decide +kernel
theorem d_SqlReaderModel_needName_0 : decode prog_11_method_44_code 0 = .ok (.aload_n 0, 1) := by decide +kernel
theorem d_SqlReaderModel_needName_1 : decode prog_11_method_44_code 1 = .ok (.aload_n 0, 1) := by decide +kernel
theorem d_SqlReaderModel_needName_2 : decode prog_11_method_44_code 2 = .ok (.getfield 226, 3) := by decide +kernel
theorem d_SqlReaderModel_needName_5 : decode prog_11_method_44_code 5 = .ok (.ifCond .ne 15, 3) := by decide +kernel
theorem d_SqlReaderModel_needName_8 : decode prog_11_method_44_code 8 = .ok (.aload_n 0, 1) := by decide +kernel
theorem d_SqlReaderModel_needName_9 : decode prog_11_method_44_code 9 = .ok (.aload_n 0, 1) := by decide +kernel
theorem d_SqlReaderModel_needName_10 : decode prog_11_method_44_code 10 = .ok (.getfield 419, 3) := by decide +kernel
theorem d_SqlReaderModel_needName_13 : decode prog_11_method_44_code 13 = .ok (.iconst 2, 1) := by decide +kernel
theorem d_SqlReaderModel_needName_14 : decode prog_11_method_44_code 14 = .ok (.invokevirtual 403, 3) := by decide +kernel
theorem d_SqlReaderModel_needName_17 : decode prog_11_method_44_code 17 = .ok (.ifCond .ne 7, 3) := by decide +kernel
theorem d_SqlReaderModel_needName_20 : decode prog_11_method_44_code 20 = .ok (.iconst 1, 1) := by decide +kernel
theorem d_SqlReaderModel_needName_21 : decode prog_11_method_44_code 21 = .ok (.goto 4, 3) := by decide +kernel
theorem d_SqlReaderModel_needName_24 : decode prog_11_method_44_code 24 = .ok (.iconst 0, 1) := by decide +kernel
theorem d_SqlReaderModel_needName_25 : decode prog_11_method_44_code 25 = .ok (.putfield 226, 3) := by decide +kernel
theorem d_SqlReaderModel_needName_28 : decode prog_11_method_44_code 28 = .ok (.aload_n 0, 1) := by decide +kernel
theorem d_SqlReaderModel_needName_29 : decode prog_11_method_44_code 29 = .ok (.dup, 1) := by decide +kernel
theorem d_SqlReaderModel_needName_30 : decode prog_11_method_44_code 30 = .ok (.getfield 419, 3) := by decide +kernel
theorem d_SqlReaderModel_needName_33 : decode prog_11_method_44_code 33 = .ok (.iconst 1, 1) := by decide +kernel
theorem d_SqlReaderModel_needName_34 : decode prog_11_method_44_code 34 = .ok (.iadd, 1) := by decide +kernel
theorem d_SqlReaderModel_needName_35 : decode prog_11_method_44_code 35 = .ok (.putfield 419, 3) := by decide +kernel
theorem d_SqlReaderModel_needName_38 : decode prog_11_method_44_code 38 = .ok (.aload_n 0, 1) := by decide +kernel
theorem d_SqlReaderModel_needName_39 : decode prog_11_method_44_code 39 = .ok (.getfield 419, 3) := by decide +kernel
theorem d_SqlReaderModel_needName_42 : decode prog_11_method_44_code 42 = .ok (.iconst 1, 1) := by decide +kernel
theorem d_SqlReaderModel_needName_43 : decode prog_11_method_44_code 43 = .ok (.isub, 1) := by decide +kernel
theorem d_SqlReaderModel_needName_44 : decode prog_11_method_44_code 44 = .ok (.ireturn, 1) := by decide +kernel
theorem d_SqlReaderModel_needNumber_0 : decode prog_11_method_55_code 0 = .ok (.aload_n 0, 1) := by decide +kernel
theorem d_SqlReaderModel_needNumber_1 : decode prog_11_method_55_code 1 = .ok (.aload_n 0, 1) := by decide +kernel
theorem d_SqlReaderModel_needNumber_2 : decode prog_11_method_55_code 2 = .ok (.getfield 226, 3) := by decide +kernel
theorem d_SqlReaderModel_needNumber_5 : decode prog_11_method_55_code 5 = .ok (.ifCond .ne 15, 3) := by decide +kernel
theorem d_SqlReaderModel_needNumber_8 : decode prog_11_method_55_code 8 = .ok (.aload_n 0, 1) := by decide +kernel
theorem d_SqlReaderModel_needNumber_9 : decode prog_11_method_55_code 9 = .ok (.aload_n 0, 1) := by decide +kernel
theorem d_SqlReaderModel_needNumber_10 : decode prog_11_method_55_code 10 = .ok (.getfield 419, 3) := by decide +kernel
theorem d_SqlReaderModel_needNumber_13 : decode prog_11_method_55_code 13 = .ok (.iconst 3, 1) := by decide +kernel
theorem d_SqlReaderModel_needNumber_14 : decode prog_11_method_55_code 14 = .ok (.invokevirtual 403, 3) := by decide +kernel
theorem d_SqlReaderModel_needNumber_17 : decode prog_11_method_55_code 17 = .ok (.ifCond .ne 7, 3) := by decide +kernel
theorem d_SqlReaderModel_needNumber_20 : decode prog_11_method_55_code 20 = .ok (.iconst 1, 1) := by decide +kernel
theorem d_SqlReaderModel_needNumber_21 : decode prog_11_method_55_code 21 = .ok (.goto 4, 3) := by decide +kernel
theorem d_SqlReaderModel_needNumber_24 : decode prog_11_method_55_code 24 = .ok (.iconst 0, 1) := by decide +kernel
theorem d_SqlReaderModel_needNumber_25 : decode prog_11_method_55_code 25 = .ok (.putfield 226, 3) := by decide +kernel
theorem d_SqlReaderModel_needNumber_28 : decode prog_11_method_55_code 28 = .ok (.aload_n 0, 1) := by decide +kernel
theorem d_SqlReaderModel_needNumber_29 : decode prog_11_method_55_code 29 = .ok (.dup, 1) := by decide +kernel
theorem d_SqlReaderModel_needNumber_30 : decode prog_11_method_55_code 30 = .ok (.getfield 419, 3) := by decide +kernel
theorem d_SqlReaderModel_needNumber_33 : decode prog_11_method_55_code 33 = .ok (.iconst 1, 1) := by decide +kernel
theorem d_SqlReaderModel_needNumber_34 : decode prog_11_method_55_code 34 = .ok (.iadd, 1) := by decide +kernel
theorem d_SqlReaderModel_needNumber_35 : decode prog_11_method_55_code 35 = .ok (.putfield 419, 3) := by decide +kernel
theorem d_SqlReaderModel_needNumber_38 : decode prog_11_method_55_code 38 = .ok (.aload_n 0, 1) := by decide +kernel
theorem d_SqlReaderModel_needNumber_39 : decode prog_11_method_55_code 39 = .ok (.getfield 226, 3) := by decide +kernel
theorem d_SqlReaderModel_needNumber_42 : decode prog_11_method_55_code 42 = .ok (.ifCond .eq 7, 3) := by decide +kernel
theorem d_SqlReaderModel_needNumber_45 : decode prog_11_method_55_code 45 = .ok (.lconst 0, 1) := by decide +kernel
theorem d_SqlReaderModel_needNumber_46 : decode prog_11_method_55_code 46 = .ok (.goto 13, 3) := by decide +kernel
theorem d_SqlReaderModel_needNumber_49 : decode prog_11_method_55_code 49 = .ok (.aload_n 0, 1) := by decide +kernel
theorem d_SqlReaderModel_needNumber_50 : decode prog_11_method_55_code 50 = .ok (.aload_n 0, 1) := by decide +kernel
theorem d_SqlReaderModel_needNumber_51 : decode prog_11_method_55_code 51 = .ok (.getfield 419, 3) := by decide +kernel
theorem d_SqlReaderModel_needNumber_54 : decode prog_11_method_55_code 54 = .ok (.iconst 1, 1) := by decide +kernel
theorem d_SqlReaderModel_needNumber_55 : decode prog_11_method_55_code 55 = .ok (.isub, 1) := by decide +kernel
theorem d_SqlReaderModel_needNumber_56 : decode prog_11_method_55_code 56 = .ok (.invokevirtual 415, 3) := by decide +kernel
theorem d_SqlReaderModel_needNumber_59 : decode prog_11_method_55_code 59 = .ok (.lreturn, 1) := by decide +kernel
theorem d_SqlReaderModel_node_0 : decode prog_11_method_87_code 0 = .ok (.iload_n 1, 1) := by decide +kernel
theorem d_SqlReaderModel_node_1 : decode prog_11_method_87_code 1 = .ok (.ifCond .lt 11, 3) := by decide +kernel
theorem d_SqlReaderModel_node_4 : decode prog_11_method_87_code 4 = .ok (.iload_n 1, 1) := by decide +kernel
theorem d_SqlReaderModel_node_5 : decode prog_11_method_87_code 5 = .ok (.aload_n 0, 1) := by decide +kernel
theorem d_SqlReaderModel_node_6 : decode prog_11_method_87_code 6 = .ok (.getfield 133, 3) := by decide +kernel
theorem d_SqlReaderModel_node_9 : decode prog_11_method_87_code 9 = .ok (.if_icmp .lt 5, 3) := by decide +kernel
theorem d_SqlReaderModel_node_12 : decode prog_11_method_87_code 12 = .ok (.iconst (-1), 1) := by decide +kernel
theorem d_SqlReaderModel_node_13 : decode prog_11_method_87_code 13 = .ok (.ireturn, 1) := by decide +kernel
theorem d_SqlReaderModel_node_14 : decode prog_11_method_87_code 14 = .ok (.iload_n 2, 1) := by decide +kernel
theorem d_SqlReaderModel_node_15 : decode prog_11_method_87_code 15 = .ok (.ifCond .ne 12, 3) := by decide +kernel
theorem d_SqlReaderModel_node_18 : decode prog_11_method_87_code 18 = .ok (.aload_n 0, 1) := by decide +kernel
theorem d_SqlReaderModel_node_19 : decode prog_11_method_87_code 19 = .ok (.getfield 41, 3) := by decide +kernel
theorem d_SqlReaderModel_node_22 : decode prog_11_method_87_code 22 = .ok (.iload_n 1, 1) := by decide +kernel
theorem d_SqlReaderModel_node_23 : decode prog_11_method_87_code 23 = .ok (.iaload, 1) := by decide +kernel
theorem d_SqlReaderModel_node_24 : decode prog_11_method_87_code 24 = .ok (.goto 45, 3) := by decide +kernel
theorem d_SqlReaderModel_node_27 : decode prog_11_method_87_code 27 = .ok (.iload_n 2, 1) := by decide +kernel
theorem d_SqlReaderModel_node_28 : decode prog_11_method_87_code 28 = .ok (.iconst 1, 1) := by decide +kernel
theorem d_SqlReaderModel_node_29 : decode prog_11_method_87_code 29 = .ok (.if_icmp .ne 12, 3) := by decide +kernel
theorem d_SqlReaderModel_node_32 : decode prog_11_method_87_code 32 = .ok (.aload_n 0, 1) := by decide +kernel
theorem d_SqlReaderModel_node_33 : decode prog_11_method_87_code 33 = .ok (.getfield 44, 3) := by decide +kernel
theorem d_SqlReaderModel_node_36 : decode prog_11_method_87_code 36 = .ok (.iload_n 1, 1) := by decide +kernel
theorem d_SqlReaderModel_node_37 : decode prog_11_method_87_code 37 = .ok (.iaload, 1) := by decide +kernel
theorem d_SqlReaderModel_node_38 : decode prog_11_method_87_code 38 = .ok (.goto 31, 3) := by decide +kernel
theorem d_SqlReaderModel_node_41 : decode prog_11_method_87_code 41 = .ok (.iload_n 2, 1) := by decide +kernel
theorem d_SqlReaderModel_node_42 : decode prog_11_method_87_code 42 = .ok (.iconst 2, 1) := by decide +kernel
theorem d_SqlReaderModel_node_43 : decode prog_11_method_87_code 43 = .ok (.if_icmp .ne 12, 3) := by decide +kernel
theorem d_SqlReaderModel_node_46 : decode prog_11_method_87_code 46 = .ok (.aload_n 0, 1) := by decide +kernel
theorem d_SqlReaderModel_node_47 : decode prog_11_method_87_code 47 = .ok (.getfield 47, 3) := by decide +kernel
theorem d_SqlReaderModel_node_50 : decode prog_11_method_87_code 50 = .ok (.iload_n 1, 1) := by decide +kernel
theorem d_SqlReaderModel_node_51 : decode prog_11_method_87_code 51 = .ok (.iaload, 1) := by decide +kernel
theorem d_SqlReaderModel_node_52 : decode prog_11_method_87_code 52 = .ok (.goto 17, 3) := by decide +kernel
theorem d_SqlReaderModel_node_55 : decode prog_11_method_87_code 55 = .ok (.iload_n 2, 1) := by decide +kernel
theorem d_SqlReaderModel_node_56 : decode prog_11_method_87_code 56 = .ok (.iconst 3, 1) := by decide +kernel
theorem d_SqlReaderModel_node_57 : decode prog_11_method_87_code 57 = .ok (.if_icmp .ne 11, 3) := by decide +kernel
theorem d_SqlReaderModel_node_60 : decode prog_11_method_87_code 60 = .ok (.aload_n 0, 1) := by decide +kernel
theorem d_SqlReaderModel_node_61 : decode prog_11_method_87_code 61 = .ok (.iload_n 1, 1) := by decide +kernel
theorem d_SqlReaderModel_node_62 : decode prog_11_method_87_code 62 = .ok (.invokevirtual 582, 3) := by decide +kernel
theorem d_SqlReaderModel_node_65 : decode prog_11_method_87_code 65 = .ok (.goto 4, 3) := by decide +kernel
theorem d_SqlReaderModel_node_68 : decode prog_11_method_87_code 68 = .ok (.iconst (-1), 1) := by decide +kernel
theorem d_SqlReaderModel_node_69 : decode prog_11_method_87_code 69 = .ok (.ireturn, 1) := by decide +kernel
theorem d_SqlReaderModel_note_0 : decode prog_11_method_23_code 0 = .ok (.aload_n 0, 1) := by decide +kernel
theorem d_SqlReaderModel_note_1 : decode prog_11_method_23_code 1 = .ok (.getfield 137, 3) := by decide +kernel
theorem d_SqlReaderModel_note_4 : decode prog_11_method_23_code 4 = .ok (.sipush 1200, 3) := by decide +kernel
theorem d_SqlReaderModel_note_7 : decode prog_11_method_23_code 7 = .ok (.if_icmp .ge 43, 3) := by decide +kernel
theorem d_SqlReaderModel_note_10 : decode prog_11_method_23_code 10 = .ok (.aload_n 0, 1) := by decide +kernel
theorem d_SqlReaderModel_note_11 : decode prog_11_method_23_code 11 = .ok (.getfield 69, 3) := by decide +kernel
theorem d_SqlReaderModel_note_14 : decode prog_11_method_23_code 14 = .ok (.aload_n 0, 1) := by decide +kernel
theorem d_SqlReaderModel_note_15 : decode prog_11_method_23_code 15 = .ok (.getfield 137, 3) := by decide +kernel
theorem d_SqlReaderModel_note_18 : decode prog_11_method_23_code 18 = .ok (.iload_n 1, 1) := by decide +kernel
theorem d_SqlReaderModel_note_19 : decode prog_11_method_23_code 19 = .ok (.iastore, 1) := by decide +kernel
theorem d_SqlReaderModel_note_20 : decode prog_11_method_23_code 20 = .ok (.aload_n 0, 1) := by decide +kernel
theorem d_SqlReaderModel_note_21 : decode prog_11_method_23_code 21 = .ok (.getfield 72, 3) := by decide +kernel
theorem d_SqlReaderModel_note_24 : decode prog_11_method_23_code 24 = .ok (.aload_n 0, 1) := by decide +kernel
theorem d_SqlReaderModel_note_25 : decode prog_11_method_23_code 25 = .ok (.getfield 137, 3) := by decide +kernel
theorem d_SqlReaderModel_note_28 : decode prog_11_method_23_code 28 = .ok (.iload_n 2, 1) := by decide +kernel
theorem d_SqlReaderModel_note_29 : decode prog_11_method_23_code 29 = .ok (.iastore, 1) := by decide +kernel
theorem d_SqlReaderModel_note_30 : decode prog_11_method_23_code 30 = .ok (.aload_n 0, 1) := by decide +kernel
theorem d_SqlReaderModel_note_31 : decode prog_11_method_23_code 31 = .ok (.getfield 75, 3) := by decide +kernel
theorem d_SqlReaderModel_note_34 : decode prog_11_method_23_code 34 = .ok (.aload_n 0, 1) := by decide +kernel
theorem d_SqlReaderModel_note_35 : decode prog_11_method_23_code 35 = .ok (.getfield 137, 3) := by decide +kernel
theorem d_SqlReaderModel_note_38 : decode prog_11_method_23_code 38 = .ok (.iload_n 3, 1) := by decide +kernel
theorem d_SqlReaderModel_note_39 : decode prog_11_method_23_code 39 = .ok (.iastore, 1) := by decide +kernel
theorem d_SqlReaderModel_note_40 : decode prog_11_method_23_code 40 = .ok (.aload_n 0, 1) := by decide +kernel
theorem d_SqlReaderModel_note_41 : decode prog_11_method_23_code 41 = .ok (.dup, 1) := by decide +kernel
theorem d_SqlReaderModel_note_42 : decode prog_11_method_23_code 42 = .ok (.getfield 137, 3) := by decide +kernel
theorem d_SqlReaderModel_note_45 : decode prog_11_method_23_code 45 = .ok (.iconst 1, 1) := by decide +kernel
theorem d_SqlReaderModel_note_46 : decode prog_11_method_23_code 46 = .ok (.iadd, 1) := by decide +kernel
theorem d_SqlReaderModel_note_47 : decode prog_11_method_23_code 47 = .ok (.putfield 137, 3) := by decide +kernel
theorem d_SqlReaderModel_note_50 : decode prog_11_method_23_code 50 = .ok (.return_, 1) := by decide +kernel
theorem d_SqlReaderModel_numberOf_0 : decode prog_11_method_17_code 0 = .ok (.lconst 0, 1) := by decide +kernel
theorem d_SqlReaderModel_numberOf_1 : decode prog_11_method_17_code 1 = .ok (.lstore_n 2, 1) := by decide +kernel
theorem d_SqlReaderModel_numberOf_2 : decode prog_11_method_17_code 2 = .ok (.aload_n 0, 1) := by decide +kernel
theorem d_SqlReaderModel_numberOf_3 : decode prog_11_method_17_code 3 = .ok (.getfield 17, 3) := by decide +kernel
theorem d_SqlReaderModel_numberOf_6 : decode prog_11_method_17_code 6 = .ok (.iload_n 1, 1) := by decide +kernel
theorem d_SqlReaderModel_numberOf_7 : decode prog_11_method_17_code 7 = .ok (.iaload, 1) := by decide +kernel
theorem d_SqlReaderModel_numberOf_8 : decode prog_11_method_17_code 8 = .ok (.istore 4, 2) := by decide +kernel
theorem d_SqlReaderModel_numberOf_10 : decode prog_11_method_17_code 10 = .ok (.iload 4, 2) := by decide +kernel
theorem d_SqlReaderModel_numberOf_12 : decode prog_11_method_17_code 12 = .ok (.aload_n 0, 1) := by decide +kernel
theorem d_SqlReaderModel_numberOf_13 : decode prog_11_method_17_code 13 = .ok (.getfield 20, 3) := by decide +kernel
theorem d_SqlReaderModel_numberOf_16 : decode prog_11_method_17_code 16 = .ok (.iload_n 1, 1) := by decide +kernel
theorem d_SqlReaderModel_numberOf_17 : decode prog_11_method_17_code 17 = .ok (.iaload, 1) := by decide +kernel
theorem d_SqlReaderModel_numberOf_18 : decode prog_11_method_17_code 18 = .ok (.if_icmp .ge 28, 3) := by decide +kernel
theorem d_SqlReaderModel_numberOf_21 : decode prog_11_method_17_code 21 = .ok (.ldc2_w 258, 3) := by decide +kernel
theorem d_SqlReaderModel_numberOf_24 : decode prog_11_method_17_code 24 = .ok (.lload_n 2, 1) := by decide +kernel
theorem d_SqlReaderModel_numberOf_25 : decode prog_11_method_17_code 25 = .ok (.lmul, 1) := by decide +kernel
theorem d_SqlReaderModel_numberOf_26 : decode prog_11_method_17_code 26 = .ok (.aload_n 0, 1) := by decide +kernel
theorem d_SqlReaderModel_numberOf_27 : decode prog_11_method_17_code 27 = .ok (.getfield 7, 3) := by decide +kernel
theorem d_SqlReaderModel_numberOf_30 : decode prog_11_method_17_code 30 = .ok (.iload 4, 2) := by decide +kernel
theorem d_SqlReaderModel_numberOf_32 : decode prog_11_method_17_code 32 = .ok (.baload, 1) := by decide +kernel
theorem d_SqlReaderModel_numberOf_33 : decode prog_11_method_17_code 33 = .ok (.i2l, 1) := by decide +kernel
theorem d_SqlReaderModel_numberOf_34 : decode prog_11_method_17_code 34 = .ok (.ladd, 1) := by decide +kernel
theorem d_SqlReaderModel_numberOf_35 : decode prog_11_method_17_code 35 = .ok (.ldc2_w 260, 3) := by decide +kernel
theorem d_SqlReaderModel_numberOf_38 : decode prog_11_method_17_code 38 = .ok (.lsub, 1) := by decide +kernel
theorem d_SqlReaderModel_numberOf_39 : decode prog_11_method_17_code 39 = .ok (.lstore_n 2, 1) := by decide +kernel
theorem d_SqlReaderModel_numberOf_40 : decode prog_11_method_17_code 40 = .ok (.iinc 4 1, 3) := by decide +kernel
theorem d_SqlReaderModel_numberOf_43 : decode prog_11_method_17_code 43 = .ok (.goto (-33), 3) := by decide +kernel
theorem d_SqlReaderModel_numberOf_46 : decode prog_11_method_17_code 46 = .ok (.lload_n 2, 1) := by decide +kernel
theorem d_SqlReaderModel_numberOf_47 : decode prog_11_method_17_code 47 = .ok (.lreturn, 1) := by decide +kernel
theorem d_SqlReaderModel_opens_0 : decode prog_11_method_26_code 0 = .ok (.aload_n 0, 1) := by decide +kernel
theorem d_SqlReaderModel_opens_1 : decode prog_11_method_26_code 1 = .ok (.iload_n 1, 1) := by decide +kernel
theorem d_SqlReaderModel_opens_2 : decode prog_11_method_26_code 2 = .ok (.ldc_w 291, 3) := by decide +kernel
theorem d_SqlReaderModel_opens_5 : decode prog_11_method_26_code 5 = .ok (.invokevirtual 293, 3) := by decide +kernel
theorem d_SqlReaderModel_opens_8 : decode prog_11_method_26_code 8 = .ok (.ifCond .eq 7, 3) := by decide +kernel
theorem d_SqlReaderModel_opens_11 : decode prog_11_method_26_code 11 = .ok (.iconst 1, 1) := by decide +kernel
theorem d_SqlReaderModel_opens_12 : decode prog_11_method_26_code 12 = .ok (.goto 19, 3) := by decide +kernel
theorem d_SqlReaderModel_opens_15 : decode prog_11_method_26_code 15 = .ok (.aload_n 0, 1) := by decide +kernel
theorem d_SqlReaderModel_opens_16 : decode prog_11_method_26_code 16 = .ok (.iload_n 1, 1) := by decide +kernel
theorem d_SqlReaderModel_opens_17 : decode prog_11_method_26_code 17 = .ok (.ldc_w 297, 3) := by decide +kernel
theorem d_SqlReaderModel_opens_20 : decode prog_11_method_26_code 20 = .ok (.invokevirtual 293, 3) := by decide +kernel
theorem d_SqlReaderModel_opens_23 : decode prog_11_method_26_code 23 = .ok (.ifCond .eq 7, 3) := by decide +kernel
theorem d_SqlReaderModel_opens_26 : decode prog_11_method_26_code 26 = .ok (.iconst (-1), 1) := by decide +kernel
theorem d_SqlReaderModel_opens_27 : decode prog_11_method_26_code 27 = .ok (.goto 4, 3) := by decide +kernel
theorem d_SqlReaderModel_opens_30 : decode prog_11_method_26_code 30 = .ok (.iconst 0, 1) := by decide +kernel
theorem d_SqlReaderModel_opens_31 : decode prog_11_method_26_code 31 = .ok (.ireturn, 1) := by decide +kernel
theorem d_SqlReaderModel_part_0 : decode prog_11_method_30_code 0 = .ok (.aload_n 0, 1) := by decide +kernel
theorem d_SqlReaderModel_part_1 : decode prog_11_method_30_code 1 = .ok (.getfield 226, 3) := by decide +kernel
theorem d_SqlReaderModel_part_4 : decode prog_11_method_30_code 4 = .ok (.ifCond .ne 15, 3) := by decide +kernel
theorem d_SqlReaderModel_part_7 : decode prog_11_method_30_code 7 = .ok (.iload_n 2, 1) := by decide +kernel
theorem d_SqlReaderModel_part_8 : decode prog_11_method_30_code 8 = .ok (.iload_n 3, 1) := by decide +kernel
theorem d_SqlReaderModel_part_9 : decode prog_11_method_30_code 9 = .ok (.if_icmp .ge 10, 3) := by decide +kernel
theorem d_SqlReaderModel_part_12 : decode prog_11_method_30_code 12 = .ok (.iload 4, 2) := by decide +kernel
theorem d_SqlReaderModel_part_14 : decode prog_11_method_30_code 14 = .ok (.bipush 20, 2) := by decide +kernel
theorem d_SqlReaderModel_part_16 : decode prog_11_method_30_code 16 = .ok (.if_icmp .le 10, 3) := by decide +kernel
theorem d_SqlReaderModel_part_19 : decode prog_11_method_30_code 19 = .ok (.aload_n 0, 1) := by decide +kernel
theorem d_SqlReaderModel_part_20 : decode prog_11_method_30_code 20 = .ok (.iconst 1, 1) := by decide +kernel
theorem d_SqlReaderModel_part_21 : decode prog_11_method_30_code 21 = .ok (.putfield 226, 3) := by decide +kernel
theorem d_SqlReaderModel_part_24 : decode prog_11_method_30_code 24 = .ok (.iconst 0, 1) := by decide +kernel
theorem d_SqlReaderModel_part_25 : decode prog_11_method_30_code 25 = .ok (.ireturn, 1) := by decide +kernel
theorem d_SqlReaderModel_part_26 : decode prog_11_method_30_code 26 = .ok (.iload_n 1, 1) := by decide +kernel
theorem d_SqlReaderModel_part_27 : decode prog_11_method_30_code 27 = .ok (.iconst 2, 1) := by decide +kernel
theorem d_SqlReaderModel_part_28 : decode prog_11_method_30_code 28 = .ok (.if_icmp .eq 9, 3) := by decide +kernel
theorem d_SqlReaderModel_part_31 : decode prog_11_method_30_code 31 = .ok (.iload_n 1, 1) := by decide +kernel
theorem d_SqlReaderModel_part_32 : decode prog_11_method_30_code 32 = .ok (.bipush 7, 2) := by decide +kernel
theorem d_SqlReaderModel_part_34 : decode prog_11_method_30_code 34 = .ok (.if_icmp .ne 13, 3) := by decide +kernel
theorem d_SqlReaderModel_part_37 : decode prog_11_method_30_code 37 = .ok (.aload_n 0, 1) := by decide +kernel
theorem d_SqlReaderModel_part_38 : decode prog_11_method_30_code 38 = .ok (.iload_n 1, 1) := by decide +kernel
theorem d_SqlReaderModel_part_39 : decode prog_11_method_30_code 39 = .ok (.iload_n 2, 1) := by decide +kernel
theorem d_SqlReaderModel_part_40 : decode prog_11_method_30_code 40 = .ok (.iload_n 3, 1) := by decide +kernel
theorem d_SqlReaderModel_part_41 : decode prog_11_method_30_code 41 = .ok (.iload 4, 2) := by decide +kernel
theorem d_SqlReaderModel_part_43 : decode prog_11_method_30_code 43 = .ok (.invokestatic 337, 3) := by decide +kernel
theorem d_SqlReaderModel_part_46 : decode prog_11_method_30_code 46 = .ok (.ireturn, 1) := by decide +kernel
theorem d_SqlReaderModel_part_47 : decode prog_11_method_30_code 47 = .ok (.iload_n 1, 1) := by decide +kernel
theorem d_SqlReaderModel_part_48 : decode prog_11_method_30_code 48 = .ok (.iconst 3, 1) := by decide +kernel
theorem d_SqlReaderModel_part_49 : decode prog_11_method_30_code 49 = .ok (.if_icmp .ne 12, 3) := by decide +kernel
theorem d_SqlReaderModel_part_52 : decode prog_11_method_30_code 52 = .ok (.aload_n 0, 1) := by decide +kernel
theorem d_SqlReaderModel_part_53 : decode prog_11_method_30_code 53 = .ok (.iload_n 2, 1) := by decide +kernel
theorem d_SqlReaderModel_part_54 : decode prog_11_method_30_code 54 = .ok (.iload_n 3, 1) := by decide +kernel
theorem d_SqlReaderModel_part_55 : decode prog_11_method_30_code 55 = .ok (.iload 4, 2) := by decide +kernel
theorem d_SqlReaderModel_part_57 : decode prog_11_method_30_code 57 = .ok (.invokestatic 340, 3) := by decide +kernel
theorem d_SqlReaderModel_part_60 : decode prog_11_method_30_code 60 = .ok (.ireturn, 1) := by decide +kernel
theorem d_SqlReaderModel_part_61 : decode prog_11_method_30_code 61 = .ok (.iload_n 1, 1) := by decide +kernel
theorem d_SqlReaderModel_part_62 : decode prog_11_method_30_code 62 = .ok (.bipush 8, 2) := by decide +kernel
theorem d_SqlReaderModel_part_64 : decode prog_11_method_30_code 64 = .ok (.if_icmp .ne 14, 3) := by decide +kernel
theorem d_SqlReaderModel_part_67 : decode prog_11_method_30_code 67 = .ok (.aload_n 0, 1) := by decide +kernel
theorem d_SqlReaderModel_part_68 : decode prog_11_method_30_code 68 = .ok (.iload_n 2, 1) := by decide +kernel
theorem d_SqlReaderModel_part_69 : decode prog_11_method_30_code 69 = .ok (.iload_n 3, 1) := by decide +kernel
theorem d_SqlReaderModel_part_70 : decode prog_11_method_30_code 70 = .ok (.iload 4, 2) := by decide +kernel
theorem d_SqlReaderModel_part_72 : decode prog_11_method_30_code 72 = .ok (.invokestatic 344, 3) := by decide +kernel
theorem d_SqlReaderModel_part_75 : decode prog_11_method_30_code 75 = .ok (.goto 12, 3) := by decide +kernel
theorem d_SqlReaderModel_part_78 : decode prog_11_method_30_code 78 = .ok (.aload_n 0, 1) := by decide +kernel
theorem d_SqlReaderModel_part_79 : decode prog_11_method_30_code 79 = .ok (.iload_n 1, 1) := by decide +kernel
theorem d_SqlReaderModel_part_80 : decode prog_11_method_30_code 80 = .ok (.iload_n 2, 1) := by decide +kernel
theorem d_SqlReaderModel_part_81 : decode prog_11_method_30_code 81 = .ok (.iload_n 3, 1) := by decide +kernel
theorem d_SqlReaderModel_part_82 : decode prog_11_method_30_code 82 = .ok (.iload 4, 2) := by decide +kernel
theorem d_SqlReaderModel_part_84 : decode prog_11_method_30_code 84 = .ok (.invokestatic 347, 3) := by decide +kernel
theorem d_SqlReaderModel_part_87 : decode prog_11_method_30_code 87 = .ok (.ireturn, 1) := by decide +kernel
theorem d_SqlReaderModel_place_0 : decode prog_11_method_40_code 0 = .ok (.aload_n 0, 1) := by decide +kernel
theorem d_SqlReaderModel_place_1 : decode prog_11_method_40_code 1 = .ok (.iconst 4, 1) := by decide +kernel
theorem d_SqlReaderModel_place_2 : decode prog_11_method_40_code 2 = .ok (.iconst (-1), 1) := by decide +kernel
theorem d_SqlReaderModel_place_3 : decode prog_11_method_40_code 3 = .ok (.iconst (-1), 1) := by decide +kernel
theorem d_SqlReaderModel_place_4 : decode prog_11_method_40_code 4 = .ok (.invokevirtual 287, 3) := by decide +kernel
theorem d_SqlReaderModel_place_7 : decode prog_11_method_40_code 7 = .ok (.istore_n 3, 1) := by decide +kernel
theorem d_SqlReaderModel_place_8 : decode prog_11_method_40_code 8 = .ok (.iload_n 3, 1) := by decide +kernel
theorem d_SqlReaderModel_place_9 : decode prog_11_method_40_code 9 = .ok (.sipush 200, 3) := by decide +kernel
theorem d_SqlReaderModel_place_12 : decode prog_11_method_40_code 12 = .ok (.if_icmp .ge 17, 3) := by decide +kernel
theorem d_SqlReaderModel_place_15 : decode prog_11_method_40_code 15 = .ok (.aload_n 0, 1) := by decide +kernel
theorem d_SqlReaderModel_place_16 : decode prog_11_method_40_code 16 = .ok (.getfield 53, 3) := by decide +kernel
theorem d_SqlReaderModel_place_19 : decode prog_11_method_40_code 19 = .ok (.iload_n 3, 1) := by decide +kernel
theorem d_SqlReaderModel_place_20 : decode prog_11_method_40_code 20 = .ok (.iload_n 1, 1) := by decide +kernel
theorem d_SqlReaderModel_place_21 : decode prog_11_method_40_code 21 = .ok (.iastore, 1) := by decide +kernel
theorem d_SqlReaderModel_place_22 : decode prog_11_method_40_code 22 = .ok (.aload_n 0, 1) := by decide +kernel
theorem d_SqlReaderModel_place_23 : decode prog_11_method_40_code 23 = .ok (.getfield 56, 3) := by decide +kernel
theorem d_SqlReaderModel_place_26 : decode prog_11_method_40_code 26 = .ok (.iload_n 3, 1) := by decide +kernel
theorem d_SqlReaderModel_place_27 : decode prog_11_method_40_code 27 = .ok (.iload_n 2, 1) := by decide +kernel
theorem d_SqlReaderModel_place_28 : decode prog_11_method_40_code 28 = .ok (.iastore, 1) := by decide +kernel
theorem d_SqlReaderModel_place_29 : decode prog_11_method_40_code 29 = .ok (.iload_n 3, 1) := by decide +kernel
theorem d_SqlReaderModel_place_30 : decode prog_11_method_40_code 30 = .ok (.ireturn, 1) := by decide +kernel
theorem d_SqlReaderModel_prefixed_0 : decode prog_11_method_31_code 0 = .ok (.iconst 0, 1) := by decide +kernel
theorem d_SqlReaderModel_prefixed_1 : decode prog_11_method_31_code 1 = .ok (.istore 5, 2) := by decide +kernel
theorem d_SqlReaderModel_prefixed_3 : decode prog_11_method_31_code 3 = .ok (.iload_n 2, 1) := by decide +kernel
theorem d_SqlReaderModel_prefixed_4 : decode prog_11_method_31_code 4 = .ok (.iload 5, 2) := by decide +kernel
theorem d_SqlReaderModel_prefixed_6 : decode prog_11_method_31_code 6 = .ok (.iadd, 1) := by decide +kernel
theorem d_SqlReaderModel_prefixed_7 : decode prog_11_method_31_code 7 = .ok (.iload_n 3, 1) := by decide +kernel
theorem d_SqlReaderModel_prefixed_8 : decode prog_11_method_31_code 8 = .ok (.if_icmp .ge 34, 3) := by decide +kernel
theorem d_SqlReaderModel_prefixed_11 : decode prog_11_method_31_code 11 = .ok (.aload_n 0, 1) := by decide +kernel
theorem d_SqlReaderModel_prefixed_12 : decode prog_11_method_31_code 12 = .ok (.iload_n 2, 1) := by decide +kernel
theorem d_SqlReaderModel_prefixed_13 : decode prog_11_method_31_code 13 = .ok (.iload 5, 2) := by decide +kernel
theorem d_SqlReaderModel_prefixed_15 : decode prog_11_method_31_code 15 = .ok (.iadd, 1) := by decide +kernel
theorem d_SqlReaderModel_prefixed_16 : decode prog_11_method_31_code 16 = .ok (.iload_n 1, 1) := by decide +kernel
theorem d_SqlReaderModel_prefixed_17 : decode prog_11_method_31_code 17 = .ok (.iconst 2, 1) := by decide +kernel
theorem d_SqlReaderModel_prefixed_18 : decode prog_11_method_31_code 18 = .ok (.if_icmp .ne 9, 3) := by decide +kernel
theorem d_SqlReaderModel_prefixed_21 : decode prog_11_method_31_code 21 = .ok (.ldc_w 350, 3) := by decide +kernel
theorem d_SqlReaderModel_prefixed_24 : decode prog_11_method_31_code 24 = .ok (.goto 6, 3) := by decide +kernel
theorem d_SqlReaderModel_prefixed_27 : decode prog_11_method_31_code 27 = .ok (.ldc_w 313, 3) := by decide +kernel
theorem d_SqlReaderModel_prefixed_30 : decode prog_11_method_31_code 30 = .ok (.invokevirtual 293, 3) := by decide +kernel
theorem d_SqlReaderModel_prefixed_33 : decode prog_11_method_31_code 33 = .ok (.ifCond .eq 9, 3) := by decide +kernel
theorem d_SqlReaderModel_prefixed_36 : decode prog_11_method_31_code 36 = .ok (.iinc 5 1, 3) := by decide +kernel
theorem d_SqlReaderModel_prefixed_39 : decode prog_11_method_31_code 39 = .ok (.goto (-36), 3) := by decide +kernel
theorem d_SqlReaderModel_prefixed_42 : decode prog_11_method_31_code 42 = .ok (.aload_n 0, 1) := by decide +kernel
theorem d_SqlReaderModel_prefixed_43 : decode prog_11_method_31_code 43 = .ok (.iload_n 1, 1) := by decide +kernel
theorem d_SqlReaderModel_prefixed_44 : decode prog_11_method_31_code 44 = .ok (.iconst 1, 1) := by decide +kernel
theorem d_SqlReaderModel_prefixed_45 : decode prog_11_method_31_code 45 = .ok (.iadd, 1) := by decide +kernel
theorem d_SqlReaderModel_prefixed_46 : decode prog_11_method_31_code 46 = .ok (.iload_n 2, 1) := by decide +kernel
theorem d_SqlReaderModel_prefixed_47 : decode prog_11_method_31_code 47 = .ok (.iload 5, 2) := by decide +kernel
theorem d_SqlReaderModel_prefixed_49 : decode prog_11_method_31_code 49 = .ok (.iadd, 1) := by decide +kernel
theorem d_SqlReaderModel_prefixed_50 : decode prog_11_method_31_code 50 = .ok (.iload_n 3, 1) := by decide +kernel
theorem d_SqlReaderModel_prefixed_51 : decode prog_11_method_31_code 51 = .ok (.iload 4, 2) := by decide +kernel
theorem d_SqlReaderModel_prefixed_53 : decode prog_11_method_31_code 53 = .ok (.iload 5, 2) := by decide +kernel
theorem d_SqlReaderModel_prefixed_55 : decode prog_11_method_31_code 55 = .ok (.iadd, 1) := by decide +kernel
theorem d_SqlReaderModel_prefixed_56 : decode prog_11_method_31_code 56 = .ok (.invokestatic 330, 3) := by decide +kernel
theorem d_SqlReaderModel_prefixed_59 : decode prog_11_method_31_code 59 = .ok (.istore 6, 2) := by decide +kernel
theorem d_SqlReaderModel_prefixed_61 : decode prog_11_method_31_code 61 = .ok (.iconst 0, 1) := by decide +kernel
theorem d_SqlReaderModel_prefixed_62 : decode prog_11_method_31_code 62 = .ok (.istore 7, 2) := by decide +kernel
theorem d_SqlReaderModel_prefixed_64 : decode prog_11_method_31_code 64 = .ok (.iload 7, 2) := by decide +kernel
theorem d_SqlReaderModel_prefixed_66 : decode prog_11_method_31_code 66 = .ok (.iload 5, 2) := by decide +kernel
theorem d_SqlReaderModel_prefixed_68 : decode prog_11_method_31_code 68 = .ok (.if_icmp .ge 30, 3) := by decide +kernel
theorem d_SqlReaderModel_prefixed_71 : decode prog_11_method_31_code 71 = .ok (.aload_n 0, 1) := by decide +kernel
theorem d_SqlReaderModel_prefixed_72 : decode prog_11_method_31_code 72 = .ok (.iload_n 1, 1) := by decide +kernel
theorem d_SqlReaderModel_prefixed_73 : decode prog_11_method_31_code 73 = .ok (.iconst 2, 1) := by decide +kernel
theorem d_SqlReaderModel_prefixed_74 : decode prog_11_method_31_code 74 = .ok (.if_icmp .ne 8, 3) := by decide +kernel
theorem d_SqlReaderModel_prefixed_77 : decode prog_11_method_31_code 77 = .ok (.bipush 25, 2) := by decide +kernel
theorem d_SqlReaderModel_prefixed_79 : decode prog_11_method_31_code 79 = .ok (.goto 5, 3) := by decide +kernel
theorem d_SqlReaderModel_prefixed_82 : decode prog_11_method_31_code 82 = .ok (.bipush 10, 2) := by decide +kernel
theorem d_SqlReaderModel_prefixed_84 : decode prog_11_method_31_code 84 = .ok (.iload 6, 2) := by decide +kernel
theorem d_SqlReaderModel_prefixed_86 : decode prog_11_method_31_code 86 = .ok (.iconst (-1), 1) := by decide +kernel
theorem d_SqlReaderModel_prefixed_87 : decode prog_11_method_31_code 87 = .ok (.invokevirtual 287, 3) := by decide +kernel
theorem d_SqlReaderModel_prefixed_90 : decode prog_11_method_31_code 90 = .ok (.istore 6, 2) := by decide +kernel
theorem d_SqlReaderModel_prefixed_92 : decode prog_11_method_31_code 92 = .ok (.iinc 7 1, 3) := by decide +kernel
theorem d_SqlReaderModel_prefixed_95 : decode prog_11_method_31_code 95 = .ok (.goto (-31), 3) := by decide +kernel
theorem d_SqlReaderModel_prefixed_98 : decode prog_11_method_31_code 98 = .ok (.iload 6, 2) := by decide +kernel
theorem d_SqlReaderModel_prefixed_100 : decode prog_11_method_31_code 100 = .ok (.ireturn, 1) := by decide +kernel
theorem d_SqlReaderModel_primary_0 : decode prog_11_method_39_code 0 = .ok (.aload_n 0, 1) := by decide +kernel
theorem d_SqlReaderModel_primary_1 : decode prog_11_method_39_code 1 = .ok (.iload_n 1, 1) := by decide +kernel
theorem d_SqlReaderModel_primary_2 : decode prog_11_method_39_code 2 = .ok (.invokevirtual 397, 3) := by decide +kernel
theorem d_SqlReaderModel_primary_5 : decode prog_11_method_39_code 5 = .ok (.istore 4, 2) := by decide +kernel
theorem d_SqlReaderModel_primary_7 : decode prog_11_method_39_code 7 = .ok (.iload 4, 2) := by decide +kernel
theorem d_SqlReaderModel_primary_9 : decode prog_11_method_39_code 9 = .ok (.ifCond .le 155, 3) := by decide +kernel
theorem d_SqlReaderModel_primary_12 : decode prog_11_method_39_code 12 = .ok (.iload 4, 2) := by decide +kernel
theorem d_SqlReaderModel_primary_14 : decode prog_11_method_39_code 14 = .ok (.bipush 6, 2) := by decide +kernel
theorem d_SqlReaderModel_primary_16 : decode prog_11_method_39_code 16 = .ok (.if_icmp .ne 53, 3) := by decide +kernel
theorem d_SqlReaderModel_primary_19 : decode prog_11_method_39_code 19 = .ok (.iload_n 2, 1) := by decide +kernel
theorem d_SqlReaderModel_primary_20 : decode prog_11_method_39_code 20 = .ok (.iload_n 1, 1) := by decide +kernel
theorem d_SqlReaderModel_primary_21 : decode prog_11_method_39_code 21 = .ok (.iconst 4, 1) := by decide +kernel
theorem d_SqlReaderModel_primary_22 : decode prog_11_method_39_code 22 = .ok (.iadd, 1) := by decide +kernel
theorem d_SqlReaderModel_primary_23 : decode prog_11_method_39_code 23 = .ok (.if_icmp .ne 46, 3) := by decide +kernel
theorem d_SqlReaderModel_primary_26 : decode prog_11_method_39_code 26 = .ok (.aload_n 0, 1) := by decide +kernel
theorem d_SqlReaderModel_primary_27 : decode prog_11_method_39_code 27 = .ok (.iload_n 1, 1) := by decide +kernel
theorem d_SqlReaderModel_primary_28 : decode prog_11_method_39_code 28 = .ok (.iconst 1, 1) := by decide +kernel
theorem d_SqlReaderModel_primary_29 : decode prog_11_method_39_code 29 = .ok (.iadd, 1) := by decide +kernel
theorem d_SqlReaderModel_primary_30 : decode prog_11_method_39_code 30 = .ok (.ldc_w 291, 3) := by decide +kernel
theorem d_SqlReaderModel_primary_33 : decode prog_11_method_39_code 33 = .ok (.invokevirtual 293, 3) := by decide +kernel
theorem d_SqlReaderModel_primary_36 : decode prog_11_method_39_code 36 = .ok (.ifCond .eq 33, 3) := by decide +kernel
theorem d_SqlReaderModel_primary_39 : decode prog_11_method_39_code 39 = .ok (.aload_n 0, 1) := by decide +kernel
theorem d_SqlReaderModel_primary_40 : decode prog_11_method_39_code 40 = .ok (.iload_n 1, 1) := by decide +kernel
theorem d_SqlReaderModel_primary_41 : decode prog_11_method_39_code 41 = .ok (.iconst 2, 1) := by decide +kernel
theorem d_SqlReaderModel_primary_42 : decode prog_11_method_39_code 42 = .ok (.iadd, 1) := by decide +kernel
theorem d_SqlReaderModel_primary_43 : decode prog_11_method_39_code 43 = .ok (.ldc_w 315, 3) := by decide +kernel
theorem d_SqlReaderModel_primary_46 : decode prog_11_method_39_code 46 = .ok (.invokevirtual 293, 3) := by decide +kernel
theorem d_SqlReaderModel_primary_49 : decode prog_11_method_39_code 49 = .ok (.ifCond .eq 20, 3) := by decide +kernel
theorem d_SqlReaderModel_primary_52 : decode prog_11_method_39_code 52 = .ok (.aload_n 0, 1) := by decide +kernel
theorem d_SqlReaderModel_primary_53 : decode prog_11_method_39_code 53 = .ok (.iload_n 1, 1) := by decide +kernel
theorem d_SqlReaderModel_primary_54 : decode prog_11_method_39_code 54 = .ok (.iconst 3, 1) := by decide +kernel
theorem d_SqlReaderModel_primary_55 : decode prog_11_method_39_code 55 = .ok (.iadd, 1) := by decide +kernel
theorem d_SqlReaderModel_primary_56 : decode prog_11_method_39_code 56 = .ok (.ldc_w 297, 3) := by decide +kernel
theorem d_SqlReaderModel_primary_59 : decode prog_11_method_39_code 59 = .ok (.invokevirtual 293, 3) := by decide +kernel
theorem d_SqlReaderModel_primary_62 : decode prog_11_method_39_code 62 = .ok (.ifCond .eq 7, 3) := by decide +kernel
theorem d_SqlReaderModel_primary_65 : decode prog_11_method_39_code 65 = .ok (.iconst 1, 1) := by decide +kernel
theorem d_SqlReaderModel_primary_66 : decode prog_11_method_39_code 66 = .ok (.goto 4, 3) := by decide +kernel
theorem d_SqlReaderModel_primary_69 : decode prog_11_method_39_code 69 = .ok (.iconst 0, 1) := by decide +kernel
theorem d_SqlReaderModel_primary_70 : decode prog_11_method_39_code 70 = .ok (.istore 5, 2) := by decide +kernel
theorem d_SqlReaderModel_primary_72 : decode prog_11_method_39_code 72 = .ok (.aload_n 0, 1) := by decide +kernel
theorem d_SqlReaderModel_primary_73 : decode prog_11_method_39_code 73 = .ok (.aload_n 0, 1) := by decide +kernel
theorem d_SqlReaderModel_primary_74 : decode prog_11_method_39_code 74 = .ok (.getfield 226, 3) := by decide +kernel
theorem d_SqlReaderModel_primary_77 : decode prog_11_method_39_code 77 = .ok (.ifCond .ne 37, 3) := by decide +kernel
theorem d_SqlReaderModel_primary_80 : decode prog_11_method_39_code 80 = .ok (.aload_n 0, 1) := by decide +kernel
theorem d_SqlReaderModel_primary_81 : decode prog_11_method_39_code 81 = .ok (.getfield 400, 3) := by decide +kernel
theorem d_SqlReaderModel_primary_84 : decode prog_11_method_39_code 84 = .ok (.ifCond .eq 30, 3) := by decide +kernel
theorem d_SqlReaderModel_primary_87 : decode prog_11_method_39_code 87 = .ok (.aload_n 0, 1) := by decide +kernel
theorem d_SqlReaderModel_primary_88 : decode prog_11_method_39_code 88 = .ok (.iload_n 1, 1) := by decide +kernel
theorem d_SqlReaderModel_primary_89 : decode prog_11_method_39_code 89 = .ok (.iconst 1, 1) := by decide +kernel
theorem d_SqlReaderModel_primary_90 : decode prog_11_method_39_code 90 = .ok (.iadd, 1) := by decide +kernel
theorem d_SqlReaderModel_primary_91 : decode prog_11_method_39_code 91 = .ok (.ldc_w 291, 3) := by decide +kernel
theorem d_SqlReaderModel_primary_94 : decode prog_11_method_39_code 94 = .ok (.invokevirtual 293, 3) := by decide +kernel
theorem d_SqlReaderModel_primary_97 : decode prog_11_method_39_code 97 = .ok (.ifCond .eq 17, 3) := by decide +kernel
theorem d_SqlReaderModel_primary_100 : decode prog_11_method_39_code 100 = .ok (.aload_n 0, 1) := by decide +kernel
theorem d_SqlReaderModel_primary_101 : decode prog_11_method_39_code 101 = .ok (.iload_n 1, 1) := by decide +kernel
theorem d_SqlReaderModel_primary_102 : decode prog_11_method_39_code 102 = .ok (.iconst 1, 1) := by decide +kernel
theorem d_SqlReaderModel_primary_103 : decode prog_11_method_39_code 103 = .ok (.iadd, 1) := by decide +kernel
theorem d_SqlReaderModel_primary_104 : decode prog_11_method_39_code 104 = .ok (.iload_n 2, 1) := by decide +kernel
theorem d_SqlReaderModel_primary_105 : decode prog_11_method_39_code 105 = .ok (.invokevirtual 384, 3) := by decide +kernel
theorem d_SqlReaderModel_primary_108 : decode prog_11_method_39_code 108 = .ok (.iload_n 2, 1) := by decide +kernel
theorem d_SqlReaderModel_primary_109 : decode prog_11_method_39_code 109 = .ok (.iconst 1, 1) := by decide +kernel
theorem d_SqlReaderModel_primary_110 : decode prog_11_method_39_code 110 = .ok (.isub, 1) := by decide +kernel
theorem d_SqlReaderModel_primary_111 : decode prog_11_method_39_code 111 = .ok (.if_icmp .eq 7, 3) := by decide +kernel
theorem d_SqlReaderModel_primary_114 : decode prog_11_method_39_code 114 = .ok (.iconst 1, 1) := by decide +kernel
theorem d_SqlReaderModel_primary_115 : decode prog_11_method_39_code 115 = .ok (.goto 4, 3) := by decide +kernel
theorem d_SqlReaderModel_primary_118 : decode prog_11_method_39_code 118 = .ok (.iconst 0, 1) := by decide +kernel
theorem d_SqlReaderModel_primary_119 : decode prog_11_method_39_code 119 = .ok (.putfield 226, 3) := by decide +kernel
theorem d_SqlReaderModel_primary_122 : decode prog_11_method_39_code 122 = .ok (.iload 5, 2) := by decide +kernel
theorem d_SqlReaderModel_primary_124 : decode prog_11_method_39_code 124 = .ok (.ifCond .ne 10, 3) := by decide +kernel
theorem d_SqlReaderModel_primary_127 : decode prog_11_method_39_code 127 = .ok (.aload_n 0, 1) := by decide +kernel
theorem d_SqlReaderModel_primary_128 : decode prog_11_method_39_code 128 = .ok (.getfield 226, 3) := by decide +kernel
theorem d_SqlReaderModel_primary_131 : decode prog_11_method_39_code 131 = .ok (.ifCond .eq 11, 3) := by decide +kernel
theorem d_SqlReaderModel_primary_134 : decode prog_11_method_39_code 134 = .ok (.aload_n 0, 1) := by decide +kernel
theorem d_SqlReaderModel_primary_135 : decode prog_11_method_39_code 135 = .ok (.iconst 5, 1) := by decide +kernel
theorem d_SqlReaderModel_primary_136 : decode prog_11_method_39_code 136 = .ok (.iconst (-1), 1) := by decide +kernel
theorem d_SqlReaderModel_primary_137 : decode prog_11_method_39_code 137 = .ok (.iconst (-1), 1) := by decide +kernel
theorem d_SqlReaderModel_primary_138 : decode prog_11_method_39_code 138 = .ok (.invokevirtual 287, 3) := by decide +kernel
theorem d_SqlReaderModel_primary_141 : decode prog_11_method_39_code 141 = .ok (.ireturn, 1) := by decide +kernel
theorem d_SqlReaderModel_primary_142 : decode prog_11_method_39_code 142 = .ok (.aload_n 0, 1) := by decide +kernel
theorem d_SqlReaderModel_primary_143 : decode prog_11_method_39_code 143 = .ok (.iload 4, 2) := by decide +kernel
theorem d_SqlReaderModel_primary_145 : decode prog_11_method_39_code 145 = .ok (.aload_n 0, 1) := by decide +kernel
theorem d_SqlReaderModel_primary_146 : decode prog_11_method_39_code 146 = .ok (.iconst 0, 1) := by decide +kernel
theorem d_SqlReaderModel_primary_147 : decode prog_11_method_39_code 147 = .ok (.iload_n 1, 1) := by decide +kernel
theorem d_SqlReaderModel_primary_148 : decode prog_11_method_39_code 148 = .ok (.iconst 2, 1) := by decide +kernel
theorem d_SqlReaderModel_primary_149 : decode prog_11_method_39_code 149 = .ok (.iadd, 1) := by decide +kernel
theorem d_SqlReaderModel_primary_150 : decode prog_11_method_39_code 150 = .ok (.iload_n 2, 1) := by decide +kernel
theorem d_SqlReaderModel_primary_151 : decode prog_11_method_39_code 151 = .ok (.iconst 1, 1) := by decide +kernel
theorem d_SqlReaderModel_primary_152 : decode prog_11_method_39_code 152 = .ok (.isub, 1) := by decide +kernel
theorem d_SqlReaderModel_primary_153 : decode prog_11_method_39_code 153 = .ok (.iload_n 3, 1) := by decide +kernel
theorem d_SqlReaderModel_primary_154 : decode prog_11_method_39_code 154 = .ok (.iconst 1, 1) := by decide +kernel
theorem d_SqlReaderModel_primary_155 : decode prog_11_method_39_code 155 = .ok (.iadd, 1) := by decide +kernel
theorem d_SqlReaderModel_primary_156 : decode prog_11_method_39_code 156 = .ok (.invokestatic 330, 3) := by decide +kernel
theorem d_SqlReaderModel_primary_159 : decode prog_11_method_39_code 159 = .ok (.iconst (-1), 1) := by decide +kernel
theorem d_SqlReaderModel_primary_160 : decode prog_11_method_39_code 160 = .ok (.invokevirtual 287, 3) := by decide +kernel
theorem d_SqlReaderModel_primary_163 : decode prog_11_method_39_code 163 = .ok (.ireturn, 1) := by decide +kernel
theorem d_SqlReaderModel_primary_164 : decode prog_11_method_39_code 164 = .ok (.aload_n 0, 1) := by decide +kernel
theorem d_SqlReaderModel_primary_165 : decode prog_11_method_39_code 165 = .ok (.iload_n 1, 1) := by decide +kernel
theorem d_SqlReaderModel_primary_166 : decode prog_11_method_39_code 166 = .ok (.ldc_w 291, 3) := by decide +kernel
theorem d_SqlReaderModel_primary_169 : decode prog_11_method_39_code 169 = .ok (.invokevirtual 293, 3) := by decide +kernel
theorem d_SqlReaderModel_primary_172 : decode prog_11_method_39_code 172 = .ok (.ifCond .eq 46, 3) := by decide +kernel
theorem d_SqlReaderModel_primary_175 : decode prog_11_method_39_code 175 = .ok (.aload_n 0, 1) := by decide +kernel
theorem d_SqlReaderModel_primary_176 : decode prog_11_method_39_code 176 = .ok (.aload_n 0, 1) := by decide +kernel
theorem d_SqlReaderModel_primary_177 : decode prog_11_method_39_code 177 = .ok (.getfield 226, 3) := by decide +kernel
theorem d_SqlReaderModel_primary_180 : decode prog_11_method_39_code 180 = .ok (.ifCond .ne 15, 3) := by decide +kernel
theorem d_SqlReaderModel_primary_183 : decode prog_11_method_39_code 183 = .ok (.aload_n 0, 1) := by decide +kernel
theorem d_SqlReaderModel_primary_184 : decode prog_11_method_39_code 184 = .ok (.iload_n 1, 1) := by decide +kernel
theorem d_SqlReaderModel_primary_185 : decode prog_11_method_39_code 185 = .ok (.iload_n 2, 1) := by decide +kernel
theorem d_SqlReaderModel_primary_186 : decode prog_11_method_39_code 186 = .ok (.invokevirtual 384, 3) := by decide +kernel
theorem d_SqlReaderModel_primary_189 : decode prog_11_method_39_code 189 = .ok (.iload_n 2, 1) := by decide +kernel
theorem d_SqlReaderModel_primary_190 : decode prog_11_method_39_code 190 = .ok (.iconst 1, 1) := by decide +kernel
theorem d_SqlReaderModel_primary_191 : decode prog_11_method_39_code 191 = .ok (.isub, 1) := by decide +kernel
theorem d_SqlReaderModel_primary_192 : decode prog_11_method_39_code 192 = .ok (.if_icmp .eq 7, 3) := by decide +kernel
theorem d_SqlReaderModel_primary_195 : decode prog_11_method_39_code 195 = .ok (.iconst 1, 1) := by decide +kernel
theorem d_SqlReaderModel_primary_196 : decode prog_11_method_39_code 196 = .ok (.goto 4, 3) := by decide +kernel
theorem d_SqlReaderModel_primary_199 : decode prog_11_method_39_code 199 = .ok (.iconst 0, 1) := by decide +kernel
theorem d_SqlReaderModel_primary_200 : decode prog_11_method_39_code 200 = .ok (.putfield 226, 3) := by decide +kernel
theorem d_SqlReaderModel_primary_203 : decode prog_11_method_39_code 203 = .ok (.aload_n 0, 1) := by decide +kernel
theorem d_SqlReaderModel_primary_204 : decode prog_11_method_39_code 204 = .ok (.iconst 0, 1) := by decide +kernel
theorem d_SqlReaderModel_primary_205 : decode prog_11_method_39_code 205 = .ok (.iload_n 1, 1) := by decide +kernel
theorem d_SqlReaderModel_primary_206 : decode prog_11_method_39_code 206 = .ok (.iconst 1, 1) := by decide +kernel
theorem d_SqlReaderModel_primary_207 : decode prog_11_method_39_code 207 = .ok (.iadd, 1) := by decide +kernel
theorem d_SqlReaderModel_primary_208 : decode prog_11_method_39_code 208 = .ok (.iload_n 2, 1) := by decide +kernel
theorem d_SqlReaderModel_primary_209 : decode prog_11_method_39_code 209 = .ok (.iconst 1, 1) := by decide +kernel
theorem d_SqlReaderModel_primary_210 : decode prog_11_method_39_code 210 = .ok (.isub, 1) := by decide +kernel
theorem d_SqlReaderModel_primary_211 : decode prog_11_method_39_code 211 = .ok (.iload_n 3, 1) := by decide +kernel
theorem d_SqlReaderModel_primary_212 : decode prog_11_method_39_code 212 = .ok (.iconst 1, 1) := by decide +kernel
theorem d_SqlReaderModel_primary_213 : decode prog_11_method_39_code 213 = .ok (.iadd, 1) := by decide +kernel
theorem d_SqlReaderModel_primary_214 : decode prog_11_method_39_code 214 = .ok (.invokestatic 330, 3) := by decide +kernel
theorem d_SqlReaderModel_primary_217 : decode prog_11_method_39_code 217 = .ok (.ireturn, 1) := by decide +kernel
theorem d_SqlReaderModel_primary_218 : decode prog_11_method_39_code 218 = .ok (.aload_n 0, 1) := by decide +kernel
theorem d_SqlReaderModel_primary_219 : decode prog_11_method_39_code 219 = .ok (.iload_n 1, 1) := by decide +kernel
theorem d_SqlReaderModel_primary_220 : decode prog_11_method_39_code 220 = .ok (.iconst 2, 1) := by decide +kernel
theorem d_SqlReaderModel_primary_221 : decode prog_11_method_39_code 221 = .ok (.invokevirtual 403, 3) := by decide +kernel
theorem d_SqlReaderModel_primary_224 : decode prog_11_method_39_code 224 = .ok (.ifCond .eq 96, 3) := by decide +kernel
theorem d_SqlReaderModel_primary_227 : decode prog_11_method_39_code 227 = .ok (.iload_n 2, 1) := by decide +kernel
theorem d_SqlReaderModel_primary_228 : decode prog_11_method_39_code 228 = .ok (.iload_n 1, 1) := by decide +kernel
theorem d_SqlReaderModel_primary_229 : decode prog_11_method_39_code 229 = .ok (.iconst 3, 1) := by decide +kernel
theorem d_SqlReaderModel_primary_230 : decode prog_11_method_39_code 230 = .ok (.iadd, 1) := by decide +kernel
theorem d_SqlReaderModel_primary_231 : decode prog_11_method_39_code 231 = .ok (.if_icmp .ne 31, 3) := by decide +kernel
theorem d_SqlReaderModel_primary_234 : decode prog_11_method_39_code 234 = .ok (.aload_n 0, 1) := by decide +kernel
theorem d_SqlReaderModel_primary_235 : decode prog_11_method_39_code 235 = .ok (.iload_n 1, 1) := by decide +kernel
theorem d_SqlReaderModel_primary_236 : decode prog_11_method_39_code 236 = .ok (.iconst 1, 1) := by decide +kernel
theorem d_SqlReaderModel_primary_237 : decode prog_11_method_39_code 237 = .ok (.iadd, 1) := by decide +kernel
theorem d_SqlReaderModel_primary_238 : decode prog_11_method_39_code 238 = .ok (.ldc_w 407, 3) := by decide +kernel
theorem d_SqlReaderModel_primary_241 : decode prog_11_method_39_code 241 = .ok (.invokevirtual 293, 3) := by decide +kernel
theorem d_SqlReaderModel_primary_244 : decode prog_11_method_39_code 244 = .ok (.ifCond .eq 18, 3) := by decide +kernel
theorem d_SqlReaderModel_primary_247 : decode prog_11_method_39_code 247 = .ok (.aload_n 0, 1) := by decide +kernel
theorem d_SqlReaderModel_primary_248 : decode prog_11_method_39_code 248 = .ok (.iload_n 1, 1) := by decide +kernel
theorem d_SqlReaderModel_primary_249 : decode prog_11_method_39_code 249 = .ok (.iconst 2, 1) := by decide +kernel
theorem d_SqlReaderModel_primary_250 : decode prog_11_method_39_code 250 = .ok (.iadd, 1) := by decide +kernel
theorem d_SqlReaderModel_primary_251 : decode prog_11_method_39_code 251 = .ok (.iconst 2, 1) := by decide +kernel
theorem d_SqlReaderModel_primary_252 : decode prog_11_method_39_code 252 = .ok (.invokevirtual 403, 3) := by decide +kernel
theorem d_SqlReaderModel_primary_255 : decode prog_11_method_39_code 255 = .ok (.ifCond .eq 7, 3) := by decide +kernel
theorem d_SqlReaderModel_primary_258 : decode prog_11_method_39_code 258 = .ok (.iconst 1, 1) := by decide +kernel
theorem d_SqlReaderModel_primary_259 : decode prog_11_method_39_code 259 = .ok (.goto 4, 3) := by decide +kernel
theorem d_SqlReaderModel_primary_262 : decode prog_11_method_39_code 262 = .ok (.iconst 0, 1) := by decide +kernel
theorem d_SqlReaderModel_primary_263 : decode prog_11_method_39_code 263 = .ok (.istore 5, 2) := by decide +kernel
theorem d_SqlReaderModel_primary_265 : decode prog_11_method_39_code 265 = .ok (.aload_n 0, 1) := by decide +kernel
theorem d_SqlReaderModel_primary_266 : decode prog_11_method_39_code 266 = .ok (.aload_n 0, 1) := by decide +kernel
theorem d_SqlReaderModel_primary_267 : decode prog_11_method_39_code 267 = .ok (.getfield 226, 3) := by decide +kernel
theorem d_SqlReaderModel_primary_270 : decode prog_11_method_39_code 270 = .ok (.ifCond .ne 15, 3) := by decide +kernel
theorem d_SqlReaderModel_primary_273 : decode prog_11_method_39_code 273 = .ok (.iload 5, 2) := by decide +kernel
theorem d_SqlReaderModel_primary_275 : decode prog_11_method_39_code 275 = .ok (.ifCond .ne 14, 3) := by decide +kernel
theorem d_SqlReaderModel_primary_278 : decode prog_11_method_39_code 278 = .ok (.iload_n 2, 1) := by decide +kernel
theorem d_SqlReaderModel_primary_279 : decode prog_11_method_39_code 279 = .ok (.iload_n 1, 1) := by decide +kernel
theorem d_SqlReaderModel_primary_280 : decode prog_11_method_39_code 280 = .ok (.iconst 1, 1) := by decide +kernel
theorem d_SqlReaderModel_primary_281 : decode prog_11_method_39_code 281 = .ok (.iadd, 1) := by decide +kernel
theorem d_SqlReaderModel_primary_282 : decode prog_11_method_39_code 282 = .ok (.if_icmp .eq 7, 3) := by decide +kernel
theorem d_SqlReaderModel_primary_285 : decode prog_11_method_39_code 285 = .ok (.iconst 1, 1) := by decide +kernel
theorem d_SqlReaderModel_primary_286 : decode prog_11_method_39_code 286 = .ok (.goto 4, 3) := by decide +kernel
theorem d_SqlReaderModel_primary_289 : decode prog_11_method_39_code 289 = .ok (.iconst 0, 1) := by decide +kernel
theorem d_SqlReaderModel_primary_290 : decode prog_11_method_39_code 290 = .ok (.putfield 226, 3) := by decide +kernel
theorem d_SqlReaderModel_primary_293 : decode prog_11_method_39_code 293 = .ok (.aload_n 0, 1) := by decide +kernel
theorem d_SqlReaderModel_primary_294 : decode prog_11_method_39_code 294 = .ok (.iload 5, 2) := by decide +kernel
theorem d_SqlReaderModel_primary_296 : decode prog_11_method_39_code 296 = .ok (.ifCond .eq 7, 3) := by decide +kernel
theorem d_SqlReaderModel_primary_299 : decode prog_11_method_39_code 299 = .ok (.iload_n 1, 1) := by decide +kernel
theorem d_SqlReaderModel_primary_300 : decode prog_11_method_39_code 300 = .ok (.goto 4, 3) := by decide +kernel
theorem d_SqlReaderModel_primary_303 : decode prog_11_method_39_code 303 = .ok (.iconst (-1), 1) := by decide +kernel
theorem d_SqlReaderModel_primary_304 : decode prog_11_method_39_code 304 = .ok (.iload 5, 2) := by decide +kernel
theorem d_SqlReaderModel_primary_306 : decode prog_11_method_39_code 306 = .ok (.ifCond .eq 9, 3) := by decide +kernel
theorem d_SqlReaderModel_primary_309 : decode prog_11_method_39_code 309 = .ok (.iload_n 1, 1) := by decide +kernel
theorem d_SqlReaderModel_primary_310 : decode prog_11_method_39_code 310 = .ok (.iconst 2, 1) := by decide +kernel
theorem d_SqlReaderModel_primary_311 : decode prog_11_method_39_code 311 = .ok (.iadd, 1) := by decide +kernel
theorem d_SqlReaderModel_primary_312 : decode prog_11_method_39_code 312 = .ok (.goto 4, 3) := by decide +kernel
theorem d_SqlReaderModel_primary_315 : decode prog_11_method_39_code 315 = .ok (.iload_n 1, 1) := by decide +kernel
theorem d_SqlReaderModel_primary_316 : decode prog_11_method_39_code 316 = .ok (.invokevirtual 409, 3) := by decide +kernel
theorem d_SqlReaderModel_primary_319 : decode prog_11_method_39_code 319 = .ok (.ireturn, 1) := by decide +kernel
theorem d_SqlReaderModel_primary_320 : decode prog_11_method_39_code 320 = .ok (.aload_n 0, 1) := by decide +kernel
theorem d_SqlReaderModel_primary_321 : decode prog_11_method_39_code 321 = .ok (.aload_n 0, 1) := by decide +kernel
theorem d_SqlReaderModel_primary_322 : decode prog_11_method_39_code 322 = .ok (.getfield 226, 3) := by decide +kernel
theorem d_SqlReaderModel_primary_325 : decode prog_11_method_39_code 325 = .ok (.ifCond .ne 10, 3) := by decide +kernel
theorem d_SqlReaderModel_primary_328 : decode prog_11_method_39_code 328 = .ok (.iload_n 2, 1) := by decide +kernel
theorem d_SqlReaderModel_primary_329 : decode prog_11_method_39_code 329 = .ok (.iload_n 1, 1) := by decide +kernel
theorem d_SqlReaderModel_primary_330 : decode prog_11_method_39_code 330 = .ok (.iconst 1, 1) := by decide +kernel
theorem d_SqlReaderModel_primary_331 : decode prog_11_method_39_code 331 = .ok (.iadd, 1) := by decide +kernel
theorem d_SqlReaderModel_primary_332 : decode prog_11_method_39_code 332 = .ok (.if_icmp .eq 7, 3) := by decide +kernel
theorem d_SqlReaderModel_primary_335 : decode prog_11_method_39_code 335 = .ok (.iconst 1, 1) := by decide +kernel
theorem d_SqlReaderModel_primary_336 : decode prog_11_method_39_code 336 = .ok (.goto 4, 3) := by decide +kernel
theorem d_SqlReaderModel_primary_339 : decode prog_11_method_39_code 339 = .ok (.iconst 0, 1) := by decide +kernel
theorem d_SqlReaderModel_primary_340 : decode prog_11_method_39_code 340 = .ok (.putfield 226, 3) := by decide +kernel
theorem d_SqlReaderModel_primary_343 : decode prog_11_method_39_code 343 = .ok (.aload_n 0, 1) := by decide +kernel
theorem d_SqlReaderModel_primary_344 : decode prog_11_method_39_code 344 = .ok (.iload_n 1, 1) := by decide +kernel
theorem d_SqlReaderModel_primary_345 : decode prog_11_method_39_code 345 = .ok (.invokevirtual 412, 3) := by decide +kernel
theorem d_SqlReaderModel_primary_348 : decode prog_11_method_39_code 348 = .ok (.ireturn, 1) := by decide +kernel
theorem d_SqlReaderModel_reach_0 : decode prog_11_method_45_code 0 = .ok (.iconst 0, 1) := by decide +kernel
theorem d_SqlReaderModel_reach_1 : decode prog_11_method_45_code 1 = .ok (.istore_n 1, 1) := by decide +kernel
theorem d_SqlReaderModel_reach_2 : decode prog_11_method_45_code 2 = .ok (.aload_n 0, 1) := by decide +kernel
theorem d_SqlReaderModel_reach_3 : decode prog_11_method_45_code 3 = .ok (.getfield 419, 3) := by decide +kernel
theorem d_SqlReaderModel_reach_6 : decode prog_11_method_45_code 6 = .ok (.istore_n 2, 1) := by decide +kernel
theorem d_SqlReaderModel_reach_7 : decode prog_11_method_45_code 7 = .ok (.iload_n 2, 1) := by decide +kernel
theorem d_SqlReaderModel_reach_8 : decode prog_11_method_45_code 8 = .ok (.aload_n 0, 1) := by decide +kernel
theorem d_SqlReaderModel_reach_9 : decode prog_11_method_45_code 9 = .ok (.getfield 223, 3) := by decide +kernel
theorem d_SqlReaderModel_reach_12 : decode prog_11_method_45_code 12 = .ok (.if_icmp .ge 132, 3) := by decide +kernel
theorem d_SqlReaderModel_reach_15 : decode prog_11_method_45_code 15 = .ok (.aload_n 0, 1) := by decide +kernel
theorem d_SqlReaderModel_reach_16 : decode prog_11_method_45_code 16 = .ok (.iload_n 2, 1) := by decide +kernel
theorem d_SqlReaderModel_reach_17 : decode prog_11_method_45_code 17 = .ok (.ldc_w 387, 3) := by decide +kernel
theorem d_SqlReaderModel_reach_20 : decode prog_11_method_45_code 20 = .ok (.invokevirtual 293, 3) := by decide +kernel
theorem d_SqlReaderModel_reach_23 : decode prog_11_method_45_code 23 = .ok (.ifCond .ne 91, 3) := by decide +kernel
theorem d_SqlReaderModel_reach_26 : decode prog_11_method_45_code 26 = .ok (.aload_n 0, 1) := by decide +kernel
theorem d_SqlReaderModel_reach_27 : decode prog_11_method_45_code 27 = .ok (.iload_n 2, 1) := by decide +kernel
theorem d_SqlReaderModel_reach_28 : decode prog_11_method_45_code 28 = .ok (.ldc_w 425, 3) := by decide +kernel
theorem d_SqlReaderModel_reach_31 : decode prog_11_method_45_code 31 = .ok (.invokevirtual 293, 3) := by decide +kernel
theorem d_SqlReaderModel_reach_34 : decode prog_11_method_45_code 34 = .ok (.ifCond .ne 80, 3) := by decide +kernel
theorem d_SqlReaderModel_reach_37 : decode prog_11_method_45_code 37 = .ok (.aload_n 0, 1) := by decide +kernel
theorem d_SqlReaderModel_reach_38 : decode prog_11_method_45_code 38 = .ok (.iload_n 2, 1) := by decide +kernel
theorem d_SqlReaderModel_reach_39 : decode prog_11_method_45_code 39 = .ok (.ldc_w 427, 3) := by decide +kernel
theorem d_SqlReaderModel_reach_42 : decode prog_11_method_45_code 42 = .ok (.invokevirtual 293, 3) := by decide +kernel
theorem d_SqlReaderModel_reach_45 : decode prog_11_method_45_code 45 = .ok (.ifCond .ne 69, 3) := by decide +kernel
theorem d_SqlReaderModel_reach_48 : decode prog_11_method_45_code 48 = .ok (.aload_n 0, 1) := by decide +kernel
theorem d_SqlReaderModel_reach_49 : decode prog_11_method_45_code 49 = .ok (.iload_n 2, 1) := by decide +kernel
theorem d_SqlReaderModel_reach_50 : decode prog_11_method_45_code 50 = .ok (.ldc_w 429, 3) := by decide +kernel
theorem d_SqlReaderModel_reach_53 : decode prog_11_method_45_code 53 = .ok (.invokevirtual 293, 3) := by decide +kernel
theorem d_SqlReaderModel_reach_56 : decode prog_11_method_45_code 56 = .ok (.ifCond .ne 58, 3) := by decide +kernel
theorem d_SqlReaderModel_reach_59 : decode prog_11_method_45_code 59 = .ok (.aload_n 0, 1) := by decide +kernel
theorem d_SqlReaderModel_reach_60 : decode prog_11_method_45_code 60 = .ok (.iload_n 2, 1) := by decide +kernel
theorem d_SqlReaderModel_reach_61 : decode prog_11_method_45_code 61 = .ok (.ldc_w 431, 3) := by decide +kernel
theorem d_SqlReaderModel_reach_64 : decode prog_11_method_45_code 64 = .ok (.invokevirtual 293, 3) := by decide +kernel
theorem d_SqlReaderModel_reach_67 : decode prog_11_method_45_code 67 = .ok (.ifCond .ne 47, 3) := by decide +kernel
theorem d_SqlReaderModel_reach_70 : decode prog_11_method_45_code 70 = .ok (.aload_n 0, 1) := by decide +kernel
theorem d_SqlReaderModel_reach_71 : decode prog_11_method_45_code 71 = .ok (.iload_n 2, 1) := by decide +kernel
theorem d_SqlReaderModel_reach_72 : decode prog_11_method_45_code 72 = .ok (.ldc_w 433, 3) := by decide +kernel
theorem d_SqlReaderModel_reach_75 : decode prog_11_method_45_code 75 = .ok (.invokevirtual 293, 3) := by decide +kernel
theorem d_SqlReaderModel_reach_78 : decode prog_11_method_45_code 78 = .ok (.ifCond .ne 36, 3) := by decide +kernel
theorem d_SqlReaderModel_reach_81 : decode prog_11_method_45_code 81 = .ok (.aload_n 0, 1) := by decide +kernel
theorem d_SqlReaderModel_reach_82 : decode prog_11_method_45_code 82 = .ok (.iload_n 2, 1) := by decide +kernel
theorem d_SqlReaderModel_reach_83 : decode prog_11_method_45_code 83 = .ok (.ldc_w 435, 3) := by decide +kernel
theorem d_SqlReaderModel_reach_86 : decode prog_11_method_45_code 86 = .ok (.invokevirtual 293, 3) := by decide +kernel
theorem d_SqlReaderModel_reach_89 : decode prog_11_method_45_code 89 = .ok (.ifCond .ne 25, 3) := by decide +kernel
theorem d_SqlReaderModel_reach_92 : decode prog_11_method_45_code 92 = .ok (.aload_n 0, 1) := by decide +kernel
theorem d_SqlReaderModel_reach_93 : decode prog_11_method_45_code 93 = .ok (.iload_n 2, 1) := by decide +kernel
theorem d_SqlReaderModel_reach_94 : decode prog_11_method_45_code 94 = .ok (.ldc_w 437, 3) := by decide +kernel
theorem d_SqlReaderModel_reach_97 : decode prog_11_method_45_code 97 = .ok (.invokevirtual 293, 3) := by decide +kernel
theorem d_SqlReaderModel_reach_100 : decode prog_11_method_45_code 100 = .ok (.ifCond .ne 14, 3) := by decide +kernel
theorem d_SqlReaderModel_reach_103 : decode prog_11_method_45_code 103 = .ok (.aload_n 0, 1) := by decide +kernel
theorem d_SqlReaderModel_reach_104 : decode prog_11_method_45_code 104 = .ok (.iload_n 2, 1) := by decide +kernel
theorem d_SqlReaderModel_reach_105 : decode prog_11_method_45_code 105 = .ok (.ldc_w 297, 3) := by decide +kernel
theorem d_SqlReaderModel_reach_108 : decode prog_11_method_45_code 108 = .ok (.invokevirtual 293, 3) := by decide +kernel
theorem d_SqlReaderModel_reach_111 : decode prog_11_method_45_code 111 = .ok (.ifCond .eq 7, 3) := by decide +kernel
theorem d_SqlReaderModel_reach_114 : decode prog_11_method_45_code 114 = .ok (.iconst 1, 1) := by decide +kernel
theorem d_SqlReaderModel_reach_115 : decode prog_11_method_45_code 115 = .ok (.goto 4, 3) := by decide +kernel
theorem d_SqlReaderModel_reach_118 : decode prog_11_method_45_code 118 = .ok (.iconst 0, 1) := by decide +kernel
theorem d_SqlReaderModel_reach_119 : decode prog_11_method_45_code 119 = .ok (.istore_n 3, 1) := by decide +kernel
theorem d_SqlReaderModel_reach_120 : decode prog_11_method_45_code 120 = .ok (.iload_n 1, 1) := by decide +kernel
theorem d_SqlReaderModel_reach_121 : decode prog_11_method_45_code 121 = .ok (.ifCond .ne 9, 3) := by decide +kernel
theorem d_SqlReaderModel_reach_124 : decode prog_11_method_45_code 124 = .ok (.iload_n 3, 1) := by decide +kernel
theorem d_SqlReaderModel_reach_125 : decode prog_11_method_45_code 125 = .ok (.ifCond .eq 5, 3) := by decide +kernel
theorem d_SqlReaderModel_reach_128 : decode prog_11_method_45_code 128 = .ok (.iload_n 2, 1) := by decide +kernel
theorem d_SqlReaderModel_reach_129 : decode prog_11_method_45_code 129 = .ok (.ireturn, 1) := by decide +kernel
theorem d_SqlReaderModel_reach_130 : decode prog_11_method_45_code 130 = .ok (.iload_n 1, 1) := by decide +kernel
theorem d_SqlReaderModel_reach_131 : decode prog_11_method_45_code 131 = .ok (.aload_n 0, 1) := by decide +kernel
theorem d_SqlReaderModel_reach_132 : decode prog_11_method_45_code 132 = .ok (.iload_n 2, 1) := by decide +kernel
theorem d_SqlReaderModel_reach_133 : decode prog_11_method_45_code 133 = .ok (.invokevirtual 334, 3) := by decide +kernel
theorem d_SqlReaderModel_reach_136 : decode prog_11_method_45_code 136 = .ok (.iadd, 1) := by decide +kernel
theorem d_SqlReaderModel_reach_137 : decode prog_11_method_45_code 137 = .ok (.istore_n 1, 1) := by decide +kernel
theorem d_SqlReaderModel_reach_138 : decode prog_11_method_45_code 138 = .ok (.iinc 2 1, 3) := by decide +kernel
theorem d_SqlReaderModel_reach_141 : decode prog_11_method_45_code 141 = .ok (.goto (-134), 3) := by decide +kernel
theorem d_SqlReaderModel_reach_144 : decode prog_11_method_45_code 144 = .ok (.aload_n 0, 1) := by decide +kernel
theorem d_SqlReaderModel_reach_145 : decode prog_11_method_45_code 145 = .ok (.getfield 223, 3) := by decide +kernel
theorem d_SqlReaderModel_reach_148 : decode prog_11_method_45_code 148 = .ok (.ireturn, 1) := by decide +kernel
theorem d_SqlReaderModel_read_0 : decode prog_11_method_86_code 0 = .ok (.aload_n 0, 1) := by decide +kernel
theorem d_SqlReaderModel_read_1 : decode prog_11_method_86_code 1 = .ok (.invokevirtual 130, 3) := by decide +kernel
theorem d_SqlReaderModel_read_4 : decode prog_11_method_86_code 4 = .ok (.aload_n 0, 1) := by decide +kernel
theorem d_SqlReaderModel_read_5 : decode prog_11_method_86_code 5 = .ok (.aload_n 0, 1) := by decide +kernel
theorem d_SqlReaderModel_read_6 : decode prog_11_method_86_code 6 = .ok (.invokevirtual 649, 3) := by decide +kernel
theorem d_SqlReaderModel_read_9 : decode prog_11_method_86_code 9 = .ok (.putfield 652, 3) := by decide +kernel
theorem d_SqlReaderModel_read_12 : decode prog_11_method_86_code 12 = .ok (.aload_n 0, 1) := by decide +kernel
theorem d_SqlReaderModel_read_13 : decode prog_11_method_86_code 13 = .ok (.iconst 0, 1) := by decide +kernel
theorem d_SqlReaderModel_read_14 : decode prog_11_method_86_code 14 = .ok (.putfield 213, 3) := by decide +kernel
theorem d_SqlReaderModel_read_17 : decode prog_11_method_86_code 17 = .ok (.aload_n 0, 1) := by decide +kernel
theorem d_SqlReaderModel_read_18 : decode prog_11_method_86_code 18 = .ok (.getfield 652, 3) := by decide +kernel
theorem d_SqlReaderModel_read_21 : decode prog_11_method_86_code 21 = .ok (.ifCond .le 7, 3) := by decide +kernel
theorem d_SqlReaderModel_read_24 : decode prog_11_method_86_code 24 = .ok (.aload_n 0, 1) := by decide +kernel
theorem d_SqlReaderModel_read_25 : decode prog_11_method_86_code 25 = .ok (.invokevirtual 130, 3) := by decide +kernel
theorem d_SqlReaderModel_read_28 : decode prog_11_method_86_code 28 = .ok (.aload_n 0, 1) := by decide +kernel
theorem d_SqlReaderModel_read_29 : decode prog_11_method_86_code 29 = .ok (.iconst 0, 1) := by decide +kernel
theorem d_SqlReaderModel_read_30 : decode prog_11_method_86_code 30 = .ok (.aload_n 0, 1) := by decide +kernel
theorem d_SqlReaderModel_read_31 : decode prog_11_method_86_code 31 = .ok (.getfield 155, 3) := by decide +kernel
theorem d_SqlReaderModel_read_34 : decode prog_11_method_86_code 34 = .ok (.invokevirtual 654, 3) := by decide +kernel
theorem d_SqlReaderModel_read_37 : decode prog_11_method_86_code 37 = .ok (.iconst 0, 1) := by decide +kernel
theorem d_SqlReaderModel_read_38 : decode prog_11_method_86_code 38 = .ok (.istore_n 1, 1) := by decide +kernel
theorem d_SqlReaderModel_read_39 : decode prog_11_method_86_code 39 = .ok (.iload_n 1, 1) := by decide +kernel
theorem d_SqlReaderModel_read_40 : decode prog_11_method_86_code 40 = .ok (.bipush 8, 2) := by decide +kernel
theorem d_SqlReaderModel_read_42 : decode prog_11_method_86_code 42 = .ok (.if_icmp .ge 34, 3) := by decide +kernel
theorem d_SqlReaderModel_read_45 : decode prog_11_method_86_code 45 = .ok (.aload_n 0, 1) := by decide +kernel
theorem d_SqlReaderModel_read_46 : decode prog_11_method_86_code 46 = .ok (.iload_n 1, 1) := by decide +kernel
theorem d_SqlReaderModel_read_47 : decode prog_11_method_86_code 47 = .ok (.iconst 1, 1) := by decide +kernel
theorem d_SqlReaderModel_read_48 : decode prog_11_method_86_code 48 = .ok (.iadd, 1) := by decide +kernel
theorem d_SqlReaderModel_read_49 : decode prog_11_method_86_code 49 = .ok (.iload_n 1, 1) := by decide +kernel
theorem d_SqlReaderModel_read_50 : decode prog_11_method_86_code 50 = .ok (.aload_n 0, 1) := by decide +kernel
theorem d_SqlReaderModel_read_51 : decode prog_11_method_86_code 51 = .ok (.getfield 198, 3) := by decide +kernel
theorem d_SqlReaderModel_read_54 : decode prog_11_method_86_code 54 = .ok (.if_icmp .ge 12, 3) := by decide +kernel
theorem d_SqlReaderModel_read_57 : decode prog_11_method_86_code 57 = .ok (.aload_n 0, 1) := by decide +kernel
theorem d_SqlReaderModel_read_58 : decode prog_11_method_86_code 58 = .ok (.getfield 112, 3) := by decide +kernel
theorem d_SqlReaderModel_read_61 : decode prog_11_method_86_code 61 = .ok (.iload_n 1, 1) := by decide +kernel
theorem d_SqlReaderModel_read_62 : decode prog_11_method_86_code 62 = .ok (.iaload, 1) := by decide +kernel
theorem d_SqlReaderModel_read_63 : decode prog_11_method_86_code 63 = .ok (.goto 4, 3) := by decide +kernel
theorem d_SqlReaderModel_read_66 : decode prog_11_method_86_code 66 = .ok (.iconst (-1), 1) := by decide +kernel
theorem d_SqlReaderModel_read_67 : decode prog_11_method_86_code 67 = .ok (.invokevirtual 654, 3) := by decide +kernel
theorem d_SqlReaderModel_read_70 : decode prog_11_method_86_code 70 = .ok (.iinc 1 1, 3) := by decide +kernel
theorem d_SqlReaderModel_read_73 : decode prog_11_method_86_code 73 = .ok (.goto (-34), 3) := by decide +kernel
theorem d_SqlReaderModel_read_76 : decode prog_11_method_86_code 76 = .ok (.aload_n 0, 1) := by decide +kernel
theorem d_SqlReaderModel_read_77 : decode prog_11_method_86_code 77 = .ok (.getfield 652, 3) := by decide +kernel
theorem d_SqlReaderModel_read_80 : decode prog_11_method_86_code 80 = .ok (.ifCond .le 11, 3) := by decide +kernel
theorem d_SqlReaderModel_read_83 : decode prog_11_method_86_code 83 = .ok (.aload_n 0, 1) := by decide +kernel
theorem d_SqlReaderModel_read_84 : decode prog_11_method_86_code 84 = .ok (.getfield 652, 3) := by decide +kernel
theorem d_SqlReaderModel_read_87 : decode prog_11_method_86_code 87 = .ok (.ineg, 1) := by decide +kernel
theorem d_SqlReaderModel_read_88 : decode prog_11_method_86_code 88 = .ok (.goto 7, 3) := by decide +kernel
theorem d_SqlReaderModel_read_91 : decode prog_11_method_86_code 91 = .ok (.aload_n 0, 1) := by decide +kernel
theorem d_SqlReaderModel_read_92 : decode prog_11_method_86_code 92 = .ok (.getfield 140, 3) := by decide +kernel
theorem d_SqlReaderModel_read_95 : decode prog_11_method_86_code 95 = .ok (.ireturn, 1) := by decide +kernel
theorem d_SqlReaderModel_readBegin_0 : decode prog_11_method_59_code 0 = .ok (.aload_n 0, 1) := by decide +kernel
theorem d_SqlReaderModel_readBegin_1 : decode prog_11_method_59_code 1 = .ok (.bipush 9, 2) := by decide +kernel
theorem d_SqlReaderModel_readBegin_3 : decode prog_11_method_59_code 3 = .ok (.putfield 140, 3) := by decide +kernel
theorem d_SqlReaderModel_readBegin_6 : decode prog_11_method_59_code 6 = .ok (.aload_n 0, 1) := by decide +kernel
theorem d_SqlReaderModel_readBegin_7 : decode prog_11_method_59_code 7 = .ok (.ldc_w 517, 3) := by decide +kernel
theorem d_SqlReaderModel_readBegin_10 : decode prog_11_method_59_code 10 = .ok (.invokevirtual 421, 3) := by decide +kernel
theorem d_SqlReaderModel_readBegin_13 : decode prog_11_method_59_code 13 = .ok (.ifCond .eq 13, 3) := by decide +kernel
theorem d_SqlReaderModel_readBegin_16 : decode prog_11_method_59_code 16 = .ok (.aload_n 0, 1) := by decide +kernel
theorem d_SqlReaderModel_readBegin_17 : decode prog_11_method_59_code 17 = .ok (.ldc_w 519, 3) := by decide +kernel
theorem d_SqlReaderModel_readBegin_20 : decode prog_11_method_59_code 20 = .ok (.invokevirtual 450, 3) := by decide +kernel
theorem d_SqlReaderModel_readBegin_23 : decode prog_11_method_59_code 23 = .ok (.goto 43, 3) := by decide +kernel
theorem d_SqlReaderModel_readBegin_26 : decode prog_11_method_59_code 26 = .ok (.aload_n 0, 1) := by decide +kernel
theorem d_SqlReaderModel_readBegin_27 : decode prog_11_method_59_code 27 = .ok (.ldc_w 521, 3) := by decide +kernel
theorem d_SqlReaderModel_readBegin_30 : decode prog_11_method_59_code 30 = .ok (.invokevirtual 421, 3) := by decide +kernel
theorem d_SqlReaderModel_readBegin_33 : decode prog_11_method_59_code 33 = .ok (.ifCond .eq 18, 3) := by decide +kernel
theorem d_SqlReaderModel_readBegin_36 : decode prog_11_method_59_code 36 = .ok (.aload_n 0, 1) := by decide +kernel
theorem d_SqlReaderModel_readBegin_37 : decode prog_11_method_59_code 37 = .ok (.ldc_w 517, 3) := by decide +kernel
theorem d_SqlReaderModel_readBegin_40 : decode prog_11_method_59_code 40 = .ok (.invokevirtual 450, 3) := by decide +kernel
theorem d_SqlReaderModel_readBegin_43 : decode prog_11_method_59_code 43 = .ok (.aload_n 0, 1) := by decide +kernel
theorem d_SqlReaderModel_readBegin_44 : decode prog_11_method_59_code 44 = .ok (.iconst 1, 1) := by decide +kernel
theorem d_SqlReaderModel_readBegin_45 : decode prog_11_method_59_code 45 = .ok (.putfield 152, 3) := by decide +kernel
theorem d_SqlReaderModel_readBegin_48 : decode prog_11_method_59_code 48 = .ok (.goto 18, 3) := by decide +kernel
theorem d_SqlReaderModel_readBegin_51 : decode prog_11_method_59_code 51 = .ok (.aload_n 0, 1) := by decide +kernel
theorem d_SqlReaderModel_readBegin_52 : decode prog_11_method_59_code 52 = .ok (.ldc_w 523, 3) := by decide +kernel
theorem d_SqlReaderModel_readBegin_55 : decode prog_11_method_59_code 55 = .ok (.invokevirtual 421, 3) := by decide +kernel
theorem d_SqlReaderModel_readBegin_58 : decode prog_11_method_59_code 58 = .ok (.ifCond .eq 8, 3) := by decide +kernel
theorem d_SqlReaderModel_readBegin_61 : decode prog_11_method_59_code 61 = .ok (.aload_n 0, 1) := by decide +kernel
theorem d_SqlReaderModel_readBegin_62 : decode prog_11_method_59_code 62 = .ok (.iconst 2, 1) := by decide +kernel
theorem d_SqlReaderModel_readBegin_63 : decode prog_11_method_59_code 63 = .ok (.putfield 152, 3) := by decide +kernel
theorem d_SqlReaderModel_readBegin_66 : decode prog_11_method_59_code 66 = .ok (.return_, 1) := by decide +kernel
theorem d_SqlReaderModel_readCreate_0 : decode prog_11_method_48_code 0 = .ok (.aload_n 0, 1) := by decide +kernel
theorem d_SqlReaderModel_readCreate_1 : decode prog_11_method_48_code 1 = .ok (.ldc_w 445, 3) := by decide +kernel
theorem d_SqlReaderModel_readCreate_4 : decode prog_11_method_48_code 4 = .ok (.invokevirtual 421, 3) := by decide +kernel
theorem d_SqlReaderModel_readCreate_7 : decode prog_11_method_48_code 7 = .ok (.ifCond .eq 191, 3) := by decide +kernel
theorem d_SqlReaderModel_readCreate_10 : decode prog_11_method_48_code 10 = .ok (.aload_n 0, 1) := by decide +kernel
theorem d_SqlReaderModel_readCreate_11 : decode prog_11_method_48_code 11 = .ok (.iconst 1, 1) := by decide +kernel
theorem d_SqlReaderModel_readCreate_12 : decode prog_11_method_48_code 12 = .ok (.putfield 140, 3) := by decide +kernel
theorem d_SqlReaderModel_readCreate_15 : decode prog_11_method_48_code 15 = .ok (.aload_n 0, 1) := by decide +kernel
theorem d_SqlReaderModel_readCreate_16 : decode prog_11_method_48_code 16 = .ok (.aload_n 0, 1) := by decide +kernel
theorem d_SqlReaderModel_readCreate_17 : decode prog_11_method_48_code 17 = .ok (.invokevirtual 447, 3) := by decide +kernel
theorem d_SqlReaderModel_readCreate_20 : decode prog_11_method_48_code 20 = .ok (.putfield 155, 3) := by decide +kernel
theorem d_SqlReaderModel_readCreate_23 : decode prog_11_method_48_code 23 = .ok (.aload_n 0, 1) := by decide +kernel
theorem d_SqlReaderModel_readCreate_24 : decode prog_11_method_48_code 24 = .ok (.ldc_w 291, 3) := by decide +kernel
theorem d_SqlReaderModel_readCreate_27 : decode prog_11_method_48_code 27 = .ok (.invokevirtual 450, 3) := by decide +kernel
theorem d_SqlReaderModel_readCreate_30 : decode prog_11_method_48_code 30 = .ok (.iconst 1, 1) := by decide +kernel
theorem d_SqlReaderModel_readCreate_31 : decode prog_11_method_48_code 31 = .ok (.istore_n 1, 1) := by decide +kernel
theorem d_SqlReaderModel_readCreate_32 : decode prog_11_method_48_code 32 = .ok (.iload_n 1, 1) := by decide +kernel
theorem d_SqlReaderModel_readCreate_33 : decode prog_11_method_48_code 33 = .ok (.ifCond .eq 157, 3) := by decide +kernel
theorem d_SqlReaderModel_readCreate_36 : decode prog_11_method_48_code 36 = .ok (.aload_n 0, 1) := by decide +kernel
theorem d_SqlReaderModel_readCreate_37 : decode prog_11_method_48_code 37 = .ok (.getfield 226, 3) := by decide +kernel
theorem d_SqlReaderModel_readCreate_40 : decode prog_11_method_48_code 40 = .ok (.ifCond .ne 150, 3) := by decide +kernel
theorem d_SqlReaderModel_readCreate_43 : decode prog_11_method_48_code 43 = .ok (.aload_n 0, 1) := by decide +kernel
theorem d_SqlReaderModel_readCreate_44 : decode prog_11_method_48_code 44 = .ok (.getfield 112, 3) := by decide +kernel
theorem d_SqlReaderModel_readCreate_47 : decode prog_11_method_48_code 47 = .ok (.aload_n 0, 1) := by decide +kernel
theorem d_SqlReaderModel_readCreate_48 : decode prog_11_method_48_code 48 = .ok (.getfield 198, 3) := by decide +kernel
theorem d_SqlReaderModel_readCreate_51 : decode prog_11_method_48_code 51 = .ok (.aload_n 0, 1) := by decide +kernel
theorem d_SqlReaderModel_readCreate_52 : decode prog_11_method_48_code 52 = .ok (.invokevirtual 447, 3) := by decide +kernel
theorem d_SqlReaderModel_readCreate_55 : decode prog_11_method_48_code 55 = .ok (.iastore, 1) := by decide +kernel
theorem d_SqlReaderModel_readCreate_56 : decode prog_11_method_48_code 56 = .ok (.aload_n 0, 1) := by decide +kernel
theorem d_SqlReaderModel_readCreate_57 : decode prog_11_method_48_code 57 = .ok (.ldc_w 454, 3) := by decide +kernel
theorem d_SqlReaderModel_readCreate_60 : decode prog_11_method_48_code 60 = .ok (.invokevirtual 421, 3) := by decide +kernel
theorem d_SqlReaderModel_readCreate_63 : decode prog_11_method_48_code 63 = .ok (.ifCond .eq 7, 3) := by decide +kernel
theorem d_SqlReaderModel_readCreate_66 : decode prog_11_method_48_code 66 = .ok (.iconst 1, 1) := by decide +kernel
theorem d_SqlReaderModel_readCreate_67 : decode prog_11_method_48_code 67 = .ok (.goto 32, 3) := by decide +kernel
theorem d_SqlReaderModel_readCreate_70 : decode prog_11_method_48_code 70 = .ok (.aload_n 0, 1) := by decide +kernel
theorem d_SqlReaderModel_readCreate_71 : decode prog_11_method_48_code 71 = .ok (.ldc_w 456, 3) := by decide +kernel
theorem d_SqlReaderModel_readCreate_74 : decode prog_11_method_48_code 74 = .ok (.invokevirtual 421, 3) := by decide +kernel
theorem d_SqlReaderModel_readCreate_77 : decode prog_11_method_48_code 77 = .ok (.ifCond .eq 7, 3) := by decide +kernel
theorem d_SqlReaderModel_readCreate_80 : decode prog_11_method_48_code 80 = .ok (.iconst 2, 1) := by decide +kernel
theorem d_SqlReaderModel_readCreate_81 : decode prog_11_method_48_code 81 = .ok (.goto 18, 3) := by decide +kernel
theorem d_SqlReaderModel_readCreate_84 : decode prog_11_method_48_code 84 = .ok (.aload_n 0, 1) := by decide +kernel
theorem d_SqlReaderModel_readCreate_85 : decode prog_11_method_48_code 85 = .ok (.ldc_w 458, 3) := by decide +kernel
theorem d_SqlReaderModel_readCreate_88 : decode prog_11_method_48_code 88 = .ok (.invokevirtual 421, 3) := by decide +kernel
theorem d_SqlReaderModel_readCreate_91 : decode prog_11_method_48_code 91 = .ok (.ifCond .eq 7, 3) := by decide +kernel
theorem d_SqlReaderModel_readCreate_94 : decode prog_11_method_48_code 94 = .ok (.iconst 3, 1) := by decide +kernel
theorem d_SqlReaderModel_readCreate_95 : decode prog_11_method_48_code 95 = .ok (.goto 4, 3) := by decide +kernel
theorem d_SqlReaderModel_readCreate_98 : decode prog_11_method_48_code 98 = .ok (.iconst 0, 1) := by decide +kernel
theorem d_SqlReaderModel_readCreate_99 : decode prog_11_method_48_code 99 = .ok (.istore_n 2, 1) := by decide +kernel
theorem d_SqlReaderModel_readCreate_100 : decode prog_11_method_48_code 100 = .ok (.aload_n 0, 1) := by decide +kernel
theorem d_SqlReaderModel_readCreate_101 : decode prog_11_method_48_code 101 = .ok (.aload_n 0, 1) := by decide +kernel
theorem d_SqlReaderModel_readCreate_102 : decode prog_11_method_48_code 102 = .ok (.getfield 226, 3) := by decide +kernel
theorem d_SqlReaderModel_readCreate_105 : decode prog_11_method_48_code 105 = .ok (.ifCond .ne 7, 3) := by decide +kernel
theorem d_SqlReaderModel_readCreate_108 : decode prog_11_method_48_code 108 = .ok (.iload_n 2, 1) := by decide +kernel
theorem d_SqlReaderModel_readCreate_109 : decode prog_11_method_48_code 109 = .ok (.ifCond .ne 7, 3) := by decide +kernel
theorem d_SqlReaderModel_readCreate_112 : decode prog_11_method_48_code 112 = .ok (.iconst 1, 1) := by decide +kernel
theorem d_SqlReaderModel_readCreate_113 : decode prog_11_method_48_code 113 = .ok (.goto 4, 3) := by decide +kernel
theorem d_SqlReaderModel_readCreate_116 : decode prog_11_method_48_code 116 = .ok (.iconst 0, 1) := by decide +kernel
theorem d_SqlReaderModel_readCreate_117 : decode prog_11_method_48_code 117 = .ok (.putfield 226, 3) := by decide +kernel
theorem d_SqlReaderModel_readCreate_120 : decode prog_11_method_48_code 120 = .ok (.aload_n 0, 1) := by decide +kernel
theorem d_SqlReaderModel_readCreate_121 : decode prog_11_method_48_code 121 = .ok (.ldc_w 350, 3) := by decide +kernel
theorem d_SqlReaderModel_readCreate_124 : decode prog_11_method_48_code 124 = .ok (.invokevirtual 421, 3) := by decide +kernel
theorem d_SqlReaderModel_readCreate_127 : decode prog_11_method_48_code 127 = .ok (.ifCond .eq 15, 3) := by decide +kernel
theorem d_SqlReaderModel_readCreate_130 : decode prog_11_method_48_code 130 = .ok (.aload_n 0, 1) := by decide +kernel
theorem d_SqlReaderModel_readCreate_131 : decode prog_11_method_48_code 131 = .ok (.ldc_w 303, 3) := by decide +kernel
theorem d_SqlReaderModel_readCreate_134 : decode prog_11_method_48_code 134 = .ok (.invokevirtual 450, 3) := by decide +kernel
theorem d_SqlReaderModel_readCreate_137 : decode prog_11_method_48_code 137 = .ok (.iload_n 2, 1) := by decide +kernel
theorem d_SqlReaderModel_readCreate_138 : decode prog_11_method_48_code 138 = .ok (.bipush 10, 2) := by decide +kernel
theorem d_SqlReaderModel_readCreate_140 : decode prog_11_method_48_code 140 = .ok (.iadd, 1) := by decide +kernel
theorem d_SqlReaderModel_readCreate_141 : decode prog_11_method_48_code 141 = .ok (.istore_n 2, 1) := by decide +kernel
theorem d_SqlReaderModel_readCreate_142 : decode prog_11_method_48_code 142 = .ok (.aload_n 0, 1) := by decide +kernel
theorem d_SqlReaderModel_readCreate_143 : decode prog_11_method_48_code 143 = .ok (.getfield 115, 3) := by decide +kernel
theorem d_SqlReaderModel_readCreate_146 : decode prog_11_method_48_code 146 = .ok (.aload_n 0, 1) := by decide +kernel
theorem d_SqlReaderModel_readCreate_147 : decode prog_11_method_48_code 147 = .ok (.getfield 198, 3) := by decide +kernel
theorem d_SqlReaderModel_readCreate_150 : decode prog_11_method_48_code 150 = .ok (.aload_n 0, 1) := by decide +kernel
theorem d_SqlReaderModel_readCreate_151 : decode prog_11_method_48_code 151 = .ok (.ldc_w 460, 3) := by decide +kernel
theorem d_SqlReaderModel_readCreate_154 : decode prog_11_method_48_code 154 = .ok (.invokevirtual 421, 3) := by decide +kernel
theorem d_SqlReaderModel_readCreate_157 : decode prog_11_method_48_code 157 = .ok (.ifCond .eq 10, 3) := by decide +kernel
theorem d_SqlReaderModel_readCreate_160 : decode prog_11_method_48_code 160 = .ok (.iload_n 2, 1) := by decide +kernel
theorem d_SqlReaderModel_readCreate_161 : decode prog_11_method_48_code 161 = .ok (.bipush 20, 2) := by decide +kernel
theorem d_SqlReaderModel_readCreate_163 : decode prog_11_method_48_code 163 = .ok (.iadd, 1) := by decide +kernel
theorem d_SqlReaderModel_readCreate_164 : decode prog_11_method_48_code 164 = .ok (.goto 4, 3) := by decide +kernel
theorem d_SqlReaderModel_readCreate_167 : decode prog_11_method_48_code 167 = .ok (.iload_n 2, 1) := by decide +kernel
theorem d_SqlReaderModel_readCreate_168 : decode prog_11_method_48_code 168 = .ok (.iastore, 1) := by decide +kernel
theorem d_SqlReaderModel_readCreate_169 : decode prog_11_method_48_code 169 = .ok (.aload_n 0, 1) := by decide +kernel
theorem d_SqlReaderModel_readCreate_170 : decode prog_11_method_48_code 170 = .ok (.dup, 1) := by decide +kernel
theorem d_SqlReaderModel_readCreate_171 : decode prog_11_method_48_code 171 = .ok (.getfield 198, 3) := by decide +kernel
theorem d_SqlReaderModel_readCreate_174 : decode prog_11_method_48_code 174 = .ok (.iconst 1, 1) := by decide +kernel
theorem d_SqlReaderModel_readCreate_175 : decode prog_11_method_48_code 175 = .ok (.iadd, 1) := by decide +kernel
theorem d_SqlReaderModel_readCreate_176 : decode prog_11_method_48_code 176 = .ok (.putfield 198, 3) := by decide +kernel
theorem d_SqlReaderModel_readCreate_179 : decode prog_11_method_48_code 179 = .ok (.aload_n 0, 1) := by decide +kernel
theorem d_SqlReaderModel_readCreate_180 : decode prog_11_method_48_code 180 = .ok (.ldc_w 387, 3) := by decide +kernel
theorem d_SqlReaderModel_readCreate_183 : decode prog_11_method_48_code 183 = .ok (.invokevirtual 421, 3) := by decide +kernel
theorem d_SqlReaderModel_readCreate_186 : decode prog_11_method_48_code 186 = .ok (.istore_n 1, 1) := by decide +kernel
theorem d_SqlReaderModel_readCreate_187 : decode prog_11_method_48_code 187 = .ok (.goto (-155), 3) := by decide +kernel
theorem d_SqlReaderModel_readCreate_190 : decode prog_11_method_48_code 190 = .ok (.aload_n 0, 1) := by decide +kernel
theorem d_SqlReaderModel_readCreate_191 : decode prog_11_method_48_code 191 = .ok (.ldc_w 297, 3) := by decide +kernel
theorem d_SqlReaderModel_readCreate_194 : decode prog_11_method_48_code 194 = .ok (.invokevirtual 450, 3) := by decide +kernel
theorem d_SqlReaderModel_readCreate_197 : decode prog_11_method_48_code 197 = .ok (.return_, 1) := by decide +kernel
theorem d_SqlReaderModel_readCreate_198 : decode prog_11_method_48_code 198 = .ok (.aload_n 0, 1) := by decide +kernel
theorem d_SqlReaderModel_readCreate_199 : decode prog_11_method_48_code 199 = .ok (.iconst 2, 1) := by decide +kernel
theorem d_SqlReaderModel_readCreate_200 : decode prog_11_method_48_code 200 = .ok (.putfield 140, 3) := by decide +kernel
theorem d_SqlReaderModel_readCreate_203 : decode prog_11_method_48_code 203 = .ok (.aload_n 0, 1) := by decide +kernel
theorem d_SqlReaderModel_readCreate_204 : decode prog_11_method_48_code 204 = .ok (.aload_n 0, 1) := by decide +kernel
theorem d_SqlReaderModel_readCreate_205 : decode prog_11_method_48_code 205 = .ok (.ldc_w 460, 3) := by decide +kernel
theorem d_SqlReaderModel_readCreate_208 : decode prog_11_method_48_code 208 = .ok (.invokevirtual 421, 3) := by decide +kernel
theorem d_SqlReaderModel_readCreate_211 : decode prog_11_method_48_code 211 = .ok (.putfield 207, 3) := by decide +kernel
theorem d_SqlReaderModel_readCreate_214 : decode prog_11_method_48_code 214 = .ok (.aload_n 0, 1) := by decide +kernel
theorem d_SqlReaderModel_readCreate_215 : decode prog_11_method_48_code 215 = .ok (.ldc_w 462, 3) := by decide +kernel
theorem d_SqlReaderModel_readCreate_218 : decode prog_11_method_48_code 218 = .ok (.invokevirtual 450, 3) := by decide +kernel
theorem d_SqlReaderModel_readCreate_221 : decode prog_11_method_48_code 221 = .ok (.aload_n 0, 1) := by decide +kernel
theorem d_SqlReaderModel_readCreate_222 : decode prog_11_method_48_code 222 = .ok (.ldc_w 464, 3) := by decide +kernel
theorem d_SqlReaderModel_readCreate_225 : decode prog_11_method_48_code 225 = .ok (.invokevirtual 450, 3) := by decide +kernel
theorem d_SqlReaderModel_readCreate_228 : decode prog_11_method_48_code 228 = .ok (.aload_n 0, 1) := by decide +kernel
theorem d_SqlReaderModel_readCreate_229 : decode prog_11_method_48_code 229 = .ok (.aload_n 0, 1) := by decide +kernel
theorem d_SqlReaderModel_readCreate_230 : decode prog_11_method_48_code 230 = .ok (.invokevirtual 447, 3) := by decide +kernel
theorem d_SqlReaderModel_readCreate_233 : decode prog_11_method_48_code 233 = .ok (.putfield 149, 3) := by decide +kernel
theorem d_SqlReaderModel_readCreate_236 : decode prog_11_method_48_code 236 = .ok (.aload_n 0, 1) := by decide +kernel
theorem d_SqlReaderModel_readCreate_237 : decode prog_11_method_48_code 237 = .ok (.ldc_w 291, 3) := by decide +kernel
theorem d_SqlReaderModel_readCreate_240 : decode prog_11_method_48_code 240 = .ok (.invokevirtual 450, 3) := by decide +kernel
theorem d_SqlReaderModel_readCreate_243 : decode prog_11_method_48_code 243 = .ok (.aload_n 0, 1) := by decide +kernel
theorem d_SqlReaderModel_readCreate_244 : decode prog_11_method_48_code 244 = .ok (.aload_n 0, 1) := by decide +kernel
theorem d_SqlReaderModel_readCreate_245 : decode prog_11_method_48_code 245 = .ok (.invokevirtual 447, 3) := by decide +kernel
theorem d_SqlReaderModel_readCreate_248 : decode prog_11_method_48_code 248 = .ok (.putfield 204, 3) := by decide +kernel
theorem d_SqlReaderModel_readCreate_251 : decode prog_11_method_48_code 251 = .ok (.aload_n 0, 1) := by decide +kernel
theorem d_SqlReaderModel_readCreate_252 : decode prog_11_method_48_code 252 = .ok (.bipush 9, 2) := by decide +kernel
theorem d_SqlReaderModel_readCreate_254 : decode prog_11_method_48_code 254 = .ok (.iconst 0, 1) := by decide +kernel
theorem d_SqlReaderModel_readCreate_255 : decode prog_11_method_48_code 255 = .ok (.iconst 0, 1) := by decide +kernel
theorem d_SqlReaderModel_readCreate_256 : decode prog_11_method_48_code 256 = .ok (.invokevirtual 283, 3) := by decide +kernel
theorem d_SqlReaderModel_readCreate_259 : decode prog_11_method_48_code 259 = .ok (.aload_n 0, 1) := by decide +kernel
theorem d_SqlReaderModel_readCreate_260 : decode prog_11_method_48_code 260 = .ok (.ldc_w 297, 3) := by decide +kernel
theorem d_SqlReaderModel_readCreate_263 : decode prog_11_method_48_code 263 = .ok (.invokevirtual 450, 3) := by decide +kernel
theorem d_SqlReaderModel_readCreate_266 : decode prog_11_method_48_code 266 = .ok (.return_, 1) := by decide +kernel
theorem d_SqlReaderModel_readDeed_0 : decode prog_11_method_60_code 0 = .ok (.aload_n 0, 1) := by decide +kernel
theorem d_SqlReaderModel_readDeed_1 : decode prog_11_method_60_code 1 = .ok (.ldc_w 525, 3) := by decide +kernel
theorem d_SqlReaderModel_readDeed_4 : decode prog_11_method_60_code 4 = .ok (.invokevirtual 421, 3) := by decide +kernel
theorem d_SqlReaderModel_readDeed_7 : decode prog_11_method_60_code 7 = .ok (.ifCond .eq 10, 3) := by decide +kernel
theorem d_SqlReaderModel_readDeed_10 : decode prog_11_method_60_code 10 = .ok (.aload_n 0, 1) := by decide +kernel
theorem d_SqlReaderModel_readDeed_11 : decode prog_11_method_60_code 11 = .ok (.invokevirtual 527, 3) := by decide +kernel
theorem d_SqlReaderModel_readDeed_14 : decode prog_11_method_60_code 14 = .ok (.goto 95, 3) := by decide +kernel
theorem d_SqlReaderModel_readDeed_17 : decode prog_11_method_60_code 17 = .ok (.aload_n 0, 1) := by decide +kernel
theorem d_SqlReaderModel_readDeed_18 : decode prog_11_method_60_code 18 = .ok (.ldc_w 507, 3) := by decide +kernel
theorem d_SqlReaderModel_readDeed_21 : decode prog_11_method_60_code 21 = .ok (.invokevirtual 421, 3) := by decide +kernel
theorem d_SqlReaderModel_readDeed_24 : decode prog_11_method_60_code 24 = .ok (.ifCond .eq 10, 3) := by decide +kernel
theorem d_SqlReaderModel_readDeed_27 : decode prog_11_method_60_code 27 = .ok (.aload_n 0, 1) := by decide +kernel
theorem d_SqlReaderModel_readDeed_28 : decode prog_11_method_60_code 28 = .ok (.invokevirtual 530, 3) := by decide +kernel
theorem d_SqlReaderModel_readDeed_31 : decode prog_11_method_60_code 31 = .ok (.goto 78, 3) := by decide +kernel
theorem d_SqlReaderModel_readDeed_34 : decode prog_11_method_60_code 34 = .ok (.aload_n 0, 1) := by decide +kernel
theorem d_SqlReaderModel_readDeed_35 : decode prog_11_method_60_code 35 = .ok (.ldc_w 533, 3) := by decide +kernel
theorem d_SqlReaderModel_readDeed_38 : decode prog_11_method_60_code 38 = .ok (.invokevirtual 421, 3) := by decide +kernel
theorem d_SqlReaderModel_readDeed_41 : decode prog_11_method_60_code 41 = .ok (.ifCond .eq 43, 3) := by decide +kernel
theorem d_SqlReaderModel_readDeed_44 : decode prog_11_method_60_code 44 = .ok (.aload_n 0, 1) := by decide +kernel
theorem d_SqlReaderModel_readDeed_45 : decode prog_11_method_60_code 45 = .ok (.bipush 7, 2) := by decide +kernel
theorem d_SqlReaderModel_readDeed_47 : decode prog_11_method_60_code 47 = .ok (.putfield 140, 3) := by decide +kernel
theorem d_SqlReaderModel_readDeed_50 : decode prog_11_method_60_code 50 = .ok (.aload_n 0, 1) := by decide +kernel
theorem d_SqlReaderModel_readDeed_51 : decode prog_11_method_60_code 51 = .ok (.ldc_w 427, 3) := by decide +kernel
theorem d_SqlReaderModel_readDeed_54 : decode prog_11_method_60_code 54 = .ok (.invokevirtual 450, 3) := by decide +kernel
theorem d_SqlReaderModel_readDeed_57 : decode prog_11_method_60_code 57 = .ok (.aload_n 0, 1) := by decide +kernel
theorem d_SqlReaderModel_readDeed_58 : decode prog_11_method_60_code 58 = .ok (.aload_n 0, 1) := by decide +kernel
theorem d_SqlReaderModel_readDeed_59 : decode prog_11_method_60_code 59 = .ok (.invokevirtual 447, 3) := by decide +kernel
theorem d_SqlReaderModel_readDeed_62 : decode prog_11_method_60_code 62 = .ok (.putfield 149, 3) := by decide +kernel
theorem d_SqlReaderModel_readDeed_65 : decode prog_11_method_60_code 65 = .ok (.aload_n 0, 1) := by decide +kernel
theorem d_SqlReaderModel_readDeed_66 : decode prog_11_method_60_code 66 = .ok (.aload_n 0, 1) := by decide +kernel
theorem d_SqlReaderModel_readDeed_67 : decode prog_11_method_60_code 67 = .ok (.getfield 149, 3) := by decide +kernel
theorem d_SqlReaderModel_readDeed_70 : decode prog_11_method_60_code 70 = .ok (.aload_n 0, 1) := by decide +kernel
theorem d_SqlReaderModel_readDeed_71 : decode prog_11_method_60_code 71 = .ok (.getfield 149, 3) := by decide +kernel
theorem d_SqlReaderModel_readDeed_74 : decode prog_11_method_60_code 74 = .ok (.invokevirtual 478, 3) := by decide +kernel
theorem d_SqlReaderModel_readDeed_77 : decode prog_11_method_60_code 77 = .ok (.aload_n 0, 1) := by decide +kernel
theorem d_SqlReaderModel_readDeed_78 : decode prog_11_method_60_code 78 = .ok (.invokevirtual 483, 3) := by decide +kernel
theorem d_SqlReaderModel_readDeed_81 : decode prog_11_method_60_code 81 = .ok (.goto 28, 3) := by decide +kernel
theorem d_SqlReaderModel_readDeed_84 : decode prog_11_method_60_code 84 = .ok (.aload_n 0, 1) := by decide +kernel
theorem d_SqlReaderModel_readDeed_85 : decode prog_11_method_60_code 85 = .ok (.ldc_w 473, 3) := by decide +kernel
theorem d_SqlReaderModel_readDeed_88 : decode prog_11_method_60_code 88 = .ok (.invokevirtual 421, 3) := by decide +kernel
theorem d_SqlReaderModel_readDeed_91 : decode prog_11_method_60_code 91 = .ok (.ifCond .eq 16, 3) := by decide +kernel
theorem d_SqlReaderModel_readDeed_94 : decode prog_11_method_60_code 94 = .ok (.aload_n 0, 1) := by decide +kernel
theorem d_SqlReaderModel_readDeed_95 : decode prog_11_method_60_code 95 = .ok (.bipush 8, 2) := by decide +kernel
theorem d_SqlReaderModel_readDeed_97 : decode prog_11_method_60_code 97 = .ok (.putfield 140, 3) := by decide +kernel
theorem d_SqlReaderModel_readDeed_100 : decode prog_11_method_60_code 100 = .ok (.aload_n 0, 1) := by decide +kernel
theorem d_SqlReaderModel_readDeed_101 : decode prog_11_method_60_code 101 = .ok (.invokevirtual 475, 3) := by decide +kernel
theorem d_SqlReaderModel_readDeed_104 : decode prog_11_method_60_code 104 = .ok (.goto 5, 3) := by decide +kernel
theorem d_SqlReaderModel_readDeed_107 : decode prog_11_method_60_code 107 = .ok (.iconst 0, 1) := by decide +kernel
theorem d_SqlReaderModel_readDeed_108 : decode prog_11_method_60_code 108 = .ok (.ireturn, 1) := by decide +kernel
theorem d_SqlReaderModel_readDeed_109 : decode prog_11_method_60_code 109 = .ok (.iconst 1, 1) := by decide +kernel
theorem d_SqlReaderModel_readDeed_110 : decode prog_11_method_60_code 110 = .ok (.ireturn, 1) := by decide +kernel
theorem d_SqlReaderModel_readGroups_0 : decode prog_11_method_54_code 0 = .ok (.aload_n 0, 1) := by decide +kernel
theorem d_SqlReaderModel_readGroups_1 : decode prog_11_method_54_code 1 = .ok (.ldc_w 486, 3) := by decide +kernel
theorem d_SqlReaderModel_readGroups_4 : decode prog_11_method_54_code 4 = .ok (.invokevirtual 450, 3) := by decide +kernel
theorem d_SqlReaderModel_readGroups_7 : decode prog_11_method_54_code 7 = .ok (.iconst 1, 1) := by decide +kernel
theorem d_SqlReaderModel_readGroups_8 : decode prog_11_method_54_code 8 = .ok (.istore_n 1, 1) := by decide +kernel
theorem d_SqlReaderModel_readGroups_9 : decode prog_11_method_54_code 9 = .ok (.iload_n 1, 1) := by decide +kernel
theorem d_SqlReaderModel_readGroups_10 : decode prog_11_method_54_code 10 = .ok (.ifCond .eq 122, 3) := by decide +kernel
theorem d_SqlReaderModel_readGroups_13 : decode prog_11_method_54_code 13 = .ok (.aload_n 0, 1) := by decide +kernel
theorem d_SqlReaderModel_readGroups_14 : decode prog_11_method_54_code 14 = .ok (.getfield 226, 3) := by decide +kernel
theorem d_SqlReaderModel_readGroups_17 : decode prog_11_method_54_code 17 = .ok (.ifCond .ne 115, 3) := by decide +kernel
theorem d_SqlReaderModel_readGroups_20 : decode prog_11_method_54_code 20 = .ok (.aload_n 0, 1) := by decide +kernel
theorem d_SqlReaderModel_readGroups_21 : decode prog_11_method_54_code 21 = .ok (.invokevirtual 439, 3) := by decide +kernel
theorem d_SqlReaderModel_readGroups_24 : decode prog_11_method_54_code 24 = .ok (.istore_n 2, 1) := by decide +kernel
theorem d_SqlReaderModel_readGroups_25 : decode prog_11_method_54_code 25 = .ok (.aload_n 0, 1) := by decide +kernel
theorem d_SqlReaderModel_readGroups_26 : decode prog_11_method_54_code 26 = .ok (.aload_n 0, 1) := by decide +kernel
theorem d_SqlReaderModel_readGroups_27 : decode prog_11_method_54_code 27 = .ok (.getfield 226, 3) := by decide +kernel
theorem d_SqlReaderModel_readGroups_30 : decode prog_11_method_54_code 30 = .ok (.ifCond .ne 35, 3) := by decide +kernel
theorem d_SqlReaderModel_readGroups_33 : decode prog_11_method_54_code 33 = .ok (.aload_n 0, 1) := by decide +kernel
theorem d_SqlReaderModel_readGroups_34 : decode prog_11_method_54_code 34 = .ok (.aload_n 0, 1) := by decide +kernel
theorem d_SqlReaderModel_readGroups_35 : decode prog_11_method_54_code 35 = .ok (.getfield 419, 3) := by decide +kernel
theorem d_SqlReaderModel_readGroups_38 : decode prog_11_method_54_code 38 = .ok (.iconst 2, 1) := by decide +kernel
theorem d_SqlReaderModel_readGroups_39 : decode prog_11_method_54_code 39 = .ok (.invokevirtual 403, 3) := by decide +kernel
theorem d_SqlReaderModel_readGroups_42 : decode prog_11_method_54_code 42 = .ok (.ifCond .eq 23, 3) := by decide +kernel
theorem d_SqlReaderModel_readGroups_45 : decode prog_11_method_54_code 45 = .ok (.iload_n 2, 1) := by decide +kernel
theorem d_SqlReaderModel_readGroups_46 : decode prog_11_method_54_code 46 = .ok (.aload_n 0, 1) := by decide +kernel
theorem d_SqlReaderModel_readGroups_47 : decode prog_11_method_54_code 47 = .ok (.getfield 419, 3) := by decide +kernel
theorem d_SqlReaderModel_readGroups_50 : decode prog_11_method_54_code 50 = .ok (.iconst 1, 1) := by decide +kernel
theorem d_SqlReaderModel_readGroups_51 : decode prog_11_method_54_code 51 = .ok (.iadd, 1) := by decide +kernel
theorem d_SqlReaderModel_readGroups_52 : decode prog_11_method_54_code 52 = .ok (.if_icmp .eq 17, 3) := by decide +kernel
theorem d_SqlReaderModel_readGroups_55 : decode prog_11_method_54_code 55 = .ok (.iload_n 2, 1) := by decide +kernel
theorem d_SqlReaderModel_readGroups_56 : decode prog_11_method_54_code 56 = .ok (.aload_n 0, 1) := by decide +kernel
theorem d_SqlReaderModel_readGroups_57 : decode prog_11_method_54_code 57 = .ok (.getfield 419, 3) := by decide +kernel
theorem d_SqlReaderModel_readGroups_60 : decode prog_11_method_54_code 60 = .ok (.iconst 3, 1) := by decide +kernel
theorem d_SqlReaderModel_readGroups_61 : decode prog_11_method_54_code 61 = .ok (.iadd, 1) := by decide +kernel
theorem d_SqlReaderModel_readGroups_62 : decode prog_11_method_54_code 62 = .ok (.if_icmp .eq 7, 3) := by decide +kernel
theorem d_SqlReaderModel_readGroups_65 : decode prog_11_method_54_code 65 = .ok (.iconst 1, 1) := by decide +kernel
theorem d_SqlReaderModel_readGroups_66 : decode prog_11_method_54_code 66 = .ok (.goto 4, 3) := by decide +kernel
theorem d_SqlReaderModel_readGroups_69 : decode prog_11_method_54_code 69 = .ok (.iconst 0, 1) := by decide +kernel
theorem d_SqlReaderModel_readGroups_70 : decode prog_11_method_54_code 70 = .ok (.putfield 226, 3) := by decide +kernel
theorem d_SqlReaderModel_readGroups_73 : decode prog_11_method_54_code 73 = .ok (.aload_n 0, 1) := by decide +kernel
theorem d_SqlReaderModel_readGroups_74 : decode prog_11_method_54_code 74 = .ok (.bipush 8, 2) := by decide +kernel
theorem d_SqlReaderModel_readGroups_76 : decode prog_11_method_54_code 76 = .ok (.aload_n 0, 1) := by decide +kernel
theorem d_SqlReaderModel_readGroups_77 : decode prog_11_method_54_code 77 = .ok (.getfield 419, 3) := by decide +kernel
theorem d_SqlReaderModel_readGroups_80 : decode prog_11_method_54_code 80 = .ok (.iload_n 2, 1) := by decide +kernel
theorem d_SqlReaderModel_readGroups_81 : decode prog_11_method_54_code 81 = .ok (.iconst 0, 1) := by decide +kernel
theorem d_SqlReaderModel_readGroups_82 : decode prog_11_method_54_code 82 = .ok (.invokestatic 330, 3) := by decide +kernel
theorem d_SqlReaderModel_readGroups_85 : decode prog_11_method_54_code 85 = .ok (.istore_n 3, 1) := by decide +kernel
theorem d_SqlReaderModel_readGroups_86 : decode prog_11_method_54_code 86 = .ok (.aload_n 0, 1) := by decide +kernel
theorem d_SqlReaderModel_readGroups_87 : decode prog_11_method_54_code 87 = .ok (.iload_n 2, 1) := by decide +kernel
theorem d_SqlReaderModel_readGroups_88 : decode prog_11_method_54_code 88 = .ok (.putfield 419, 3) := by decide +kernel
theorem d_SqlReaderModel_readGroups_91 : decode prog_11_method_54_code 91 = .ok (.aload_n 0, 1) := by decide +kernel
theorem d_SqlReaderModel_readGroups_92 : decode prog_11_method_54_code 92 = .ok (.getfield 177, 3) := by decide +kernel
theorem d_SqlReaderModel_readGroups_95 : decode prog_11_method_54_code 95 = .ok (.sipush 200, 3) := by decide +kernel
theorem d_SqlReaderModel_readGroups_98 : decode prog_11_method_54_code 98 = .ok (.if_icmp .ge 13, 3) := by decide +kernel
theorem d_SqlReaderModel_readGroups_101 : decode prog_11_method_54_code 101 = .ok (.aload_n 0, 1) := by decide +kernel
theorem d_SqlReaderModel_readGroups_102 : decode prog_11_method_54_code 102 = .ok (.getfield 81, 3) := by decide +kernel
theorem d_SqlReaderModel_readGroups_105 : decode prog_11_method_54_code 105 = .ok (.aload_n 0, 1) := by decide +kernel
theorem d_SqlReaderModel_readGroups_106 : decode prog_11_method_54_code 106 = .ok (.getfield 177, 3) := by decide +kernel
theorem d_SqlReaderModel_readGroups_109 : decode prog_11_method_54_code 109 = .ok (.iload_n 3, 1) := by decide +kernel
theorem d_SqlReaderModel_readGroups_110 : decode prog_11_method_54_code 110 = .ok (.iastore, 1) := by decide +kernel
theorem d_SqlReaderModel_readGroups_111 : decode prog_11_method_54_code 111 = .ok (.aload_n 0, 1) := by decide +kernel
theorem d_SqlReaderModel_readGroups_112 : decode prog_11_method_54_code 112 = .ok (.dup, 1) := by decide +kernel
theorem d_SqlReaderModel_readGroups_113 : decode prog_11_method_54_code 113 = .ok (.getfield 177, 3) := by decide +kernel
theorem d_SqlReaderModel_readGroups_116 : decode prog_11_method_54_code 116 = .ok (.iconst 1, 1) := by decide +kernel
theorem d_SqlReaderModel_readGroups_117 : decode prog_11_method_54_code 117 = .ok (.iadd, 1) := by decide +kernel
theorem d_SqlReaderModel_readGroups_118 : decode prog_11_method_54_code 118 = .ok (.putfield 177, 3) := by decide +kernel
theorem d_SqlReaderModel_readGroups_121 : decode prog_11_method_54_code 121 = .ok (.aload_n 0, 1) := by decide +kernel
theorem d_SqlReaderModel_readGroups_122 : decode prog_11_method_54_code 122 = .ok (.ldc_w 387, 3) := by decide +kernel
theorem d_SqlReaderModel_readGroups_125 : decode prog_11_method_54_code 125 = .ok (.invokevirtual 421, 3) := by decide +kernel
theorem d_SqlReaderModel_readGroups_128 : decode prog_11_method_54_code 128 = .ok (.istore_n 1, 1) := by decide +kernel
theorem d_SqlReaderModel_readGroups_129 : decode prog_11_method_54_code 129 = .ok (.goto (-120), 3) := by decide +kernel
theorem d_SqlReaderModel_readGroups_132 : decode prog_11_method_54_code 132 = .ok (.return_, 1) := by decide +kernel
theorem d_SqlReaderModel_readInsert_0 : decode prog_11_method_50_code 0 = .ok (.aload_n 0, 1) := by decide +kernel
theorem d_SqlReaderModel_readInsert_1 : decode prog_11_method_50_code 1 = .ok (.ldc_w 466, 3) := by decide +kernel
theorem d_SqlReaderModel_readInsert_4 : decode prog_11_method_50_code 4 = .ok (.invokevirtual 450, 3) := by decide +kernel
theorem d_SqlReaderModel_readInsert_7 : decode prog_11_method_50_code 7 = .ok (.aload_n 0, 1) := by decide +kernel
theorem d_SqlReaderModel_readInsert_8 : decode prog_11_method_50_code 8 = .ok (.aload_n 0, 1) := by decide +kernel
theorem d_SqlReaderModel_readInsert_9 : decode prog_11_method_50_code 9 = .ok (.invokevirtual 447, 3) := by decide +kernel
theorem d_SqlReaderModel_readInsert_12 : decode prog_11_method_50_code 12 = .ok (.putfield 149, 3) := by decide +kernel
theorem d_SqlReaderModel_readInsert_15 : decode prog_11_method_50_code 15 = .ok (.aload_n 0, 1) := by decide +kernel
theorem d_SqlReaderModel_readInsert_16 : decode prog_11_method_50_code 16 = .ok (.ldc_w 468, 3) := by decide +kernel
theorem d_SqlReaderModel_readInsert_19 : decode prog_11_method_50_code 19 = .ok (.invokevirtual 421, 3) := by decide +kernel
theorem d_SqlReaderModel_readInsert_22 : decode prog_11_method_50_code 22 = .ok (.ifCond .eq 13, 3) := by decide +kernel
theorem d_SqlReaderModel_readInsert_25 : decode prog_11_method_50_code 25 = .ok (.aload_n 0, 1) := by decide +kernel
theorem d_SqlReaderModel_readInsert_26 : decode prog_11_method_50_code 26 = .ok (.iconst 4, 1) := by decide +kernel
theorem d_SqlReaderModel_readInsert_27 : decode prog_11_method_50_code 27 = .ok (.putfield 140, 3) := by decide +kernel
theorem d_SqlReaderModel_readInsert_30 : decode prog_11_method_50_code 30 = .ok (.aload_n 0, 1) := by decide +kernel
theorem d_SqlReaderModel_readInsert_31 : decode prog_11_method_50_code 31 = .ok (.invokevirtual 470, 3) := by decide +kernel
theorem d_SqlReaderModel_readInsert_34 : decode prog_11_method_50_code 34 = .ok (.return_, 1) := by decide +kernel
theorem d_SqlReaderModel_readInsert_35 : decode prog_11_method_50_code 35 = .ok (.aload_n 0, 1) := by decide +kernel
theorem d_SqlReaderModel_readInsert_36 : decode prog_11_method_50_code 36 = .ok (.ldc_w 473, 3) := by decide +kernel
theorem d_SqlReaderModel_readInsert_39 : decode prog_11_method_50_code 39 = .ok (.invokevirtual 450, 3) := by decide +kernel
theorem d_SqlReaderModel_readInsert_42 : decode prog_11_method_50_code 42 = .ok (.aload_n 0, 1) := by decide +kernel
theorem d_SqlReaderModel_readInsert_43 : decode prog_11_method_50_code 43 = .ok (.iconst 5, 1) := by decide +kernel
theorem d_SqlReaderModel_readInsert_44 : decode prog_11_method_50_code 44 = .ok (.putfield 140, 3) := by decide +kernel
theorem d_SqlReaderModel_readInsert_47 : decode prog_11_method_50_code 47 = .ok (.aload_n 0, 1) := by decide +kernel
theorem d_SqlReaderModel_readInsert_48 : decode prog_11_method_50_code 48 = .ok (.invokevirtual 475, 3) := by decide +kernel
theorem d_SqlReaderModel_readInsert_51 : decode prog_11_method_50_code 51 = .ok (.return_, 1) := by decide +kernel
