theorem d_Parser_comparison_160 : decode prog_6_method_34_code 160 = .ok (.ifCond .eq 17, 3) := by decide +kernel
theorem d_Parser_comparison_163 : decode prog_6_method_34_code 163 = .ok (.aload_n 0, 1) := by decide +kernel
theorem d_Parser_comparison_164 : decode prog_6_method_34_code 164 = .ok (.getfield 15, 3) := by decide +kernel
theorem d_Parser_comparison_167 : decode prog_6_method_34_code 167 = .ok (.bipush 25, 2) := by decide +kernel
theorem d_Parser_comparison_169 : decode prog_6_method_34_code 169 = .ok (.iload 6, 2) := by decide +kernel
theorem d_Parser_comparison_171 : decode prog_6_method_34_code 171 = .ok (.invokevirtual 309, 3) := by decide +kernel
theorem d_Parser_comparison_174 : decode prog_6_method_34_code 174 = .ok (.goto 5, 3) := by decide +kernel
theorem d_Parser_comparison_177 : decode prog_6_method_34_code 177 = .ok (.iload 6, 2) := by decide +kernel
theorem d_Parser_comparison_179 : decode prog_6_method_34_code 179 = .ok (.ireturn, 1) := by decide +kernel
theorem d_Parser_create_0 : decode prog_6_method_9_code 0 = .ok (.aload_n 0, 1) := by decide +kernel
theorem d_Parser_create_1 : decode prog_6_method_9_code 1 = .ok (.getfield 9, 3) := by decide +kernel
theorem d_Parser_create_4 : decode prog_6_method_9_code 4 = .ok (.ldc 100, 2) := by decide +kernel
theorem d_Parser_create_6 : decode prog_6_method_9_code 6 = .ok (.invokevirtual 29, 3) := by decide +kernel
theorem d_Parser_create_9 : decode prog_6_method_9_code 9 = .ok (.ifCond .eq 31, 3) := by decide +kernel
theorem d_Parser_create_12 : decode prog_6_method_9_code 12 = .ok (.aload_n 0, 1) := by decide +kernel
theorem d_Parser_create_13 : decode prog_6_method_9_code 13 = .ok (.invokevirtual 39, 3) := by decide +kernel
theorem d_Parser_create_16 : decode prog_6_method_9_code 16 = .ok (.ifCond .eq 22, 3) := by decide +kernel
theorem d_Parser_create_19 : decode prog_6_method_9_code 19 = .ok (.aload_n 0, 1) := by decide +kernel
theorem d_Parser_create_20 : decode prog_6_method_9_code 20 = .ok (.invokevirtual 138, 3) := by decide +kernel
theorem d_Parser_create_23 : decode prog_6_method_9_code 23 = .ok (.ifCond .eq 15, 3) := by decide +kernel
theorem d_Parser_create_26 : decode prog_6_method_9_code 26 = .ok (.aload_n 0, 1) := by decide +kernel
theorem d_Parser_create_27 : decode prog_6_method_9_code 27 = .ok (.iconst 1, 1) := by decide +kernel
theorem d_Parser_create_28 : decode prog_6_method_9_code 28 = .ok (.invokevirtual 102, 3) := by decide +kernel
theorem d_Parser_create_31 : decode prog_6_method_9_code 31 = .ok (.ifCond .eq 7, 3) := by decide +kernel
theorem d_Parser_create_34 : decode prog_6_method_9_code 34 = .ok (.iconst 1, 1) := by decide +kernel
theorem d_Parser_create_35 : decode prog_6_method_9_code 35 = .ok (.goto 4, 3) := by decide +kernel
theorem d_Parser_create_38 : decode prog_6_method_9_code 38 = .ok (.iconst 0, 1) := by decide +kernel
theorem d_Parser_create_39 : decode prog_6_method_9_code 39 = .ok (.ireturn, 1) := by decide +kernel
theorem d_Parser_create_40 : decode prog_6_method_9_code 40 = .ok (.aload_n 0, 1) := by decide +kernel
theorem d_Parser_create_41 : decode prog_6_method_9_code 41 = .ok (.getfield 23, 3) := by decide +kernel
theorem d_Parser_create_44 : decode prog_6_method_9_code 44 = .ok (.aload_n 0, 1) := by decide +kernel
theorem d_Parser_create_45 : decode prog_6_method_9_code 45 = .ok (.getfield 9, 3) := by decide +kernel
theorem d_Parser_create_48 : decode prog_6_method_9_code 48 = .ok (.ldc 141, 2) := by decide +kernel
theorem d_Parser_create_50 : decode prog_6_method_9_code 50 = .ok (.invokevirtual 29, 3) := by decide +kernel
theorem d_Parser_create_53 : decode prog_6_method_9_code 53 = .ok (.putfield 143, 3) := by decide +kernel
theorem d_Parser_create_56 : decode prog_6_method_9_code 56 = .ok (.aload_n 0, 1) := by decide +kernel
theorem d_Parser_create_57 : decode prog_6_method_9_code 57 = .ok (.getfield 9, 3) := by decide +kernel
theorem d_Parser_create_60 : decode prog_6_method_9_code 60 = .ok (.ldc 146, 2) := by decide +kernel
theorem d_Parser_create_62 : decode prog_6_method_9_code 62 = .ok (.invokevirtual 29, 3) := by decide +kernel
theorem d_Parser_create_65 : decode prog_6_method_9_code 65 = .ok (.ifCond .eq 34, 3) := by decide +kernel
theorem d_Parser_create_68 : decode prog_6_method_9_code 68 = .ok (.aload_n 0, 1) := by decide +kernel
theorem d_Parser_create_69 : decode prog_6_method_9_code 69 = .ok (.getfield 9, 3) := by decide +kernel
theorem d_Parser_create_72 : decode prog_6_method_9_code 72 = .ok (.ldc 148, 2) := by decide +kernel
theorem d_Parser_create_74 : decode prog_6_method_9_code 74 = .ok (.invokevirtual 29, 3) := by decide +kernel
theorem d_Parser_create_77 : decode prog_6_method_9_code 77 = .ok (.ifCond .eq 22, 3) := by decide +kernel
theorem d_Parser_create_80 : decode prog_6_method_9_code 80 = .ok (.aload_n 0, 1) := by decide +kernel
theorem d_Parser_create_81 : decode prog_6_method_9_code 81 = .ok (.invokevirtual 55, 3) := by decide +kernel
theorem d_Parser_create_84 : decode prog_6_method_9_code 84 = .ok (.ifCond .eq 15, 3) := by decide +kernel
theorem d_Parser_create_87 : decode prog_6_method_9_code 87 = .ok (.aload_n 0, 1) := by decide +kernel
theorem d_Parser_create_88 : decode prog_6_method_9_code 88 = .ok (.getfield 9, 3) := by decide +kernel
theorem d_Parser_create_91 : decode prog_6_method_9_code 91 = .ok (.ldc 150, 2) := by decide +kernel
theorem d_Parser_create_93 : decode prog_6_method_9_code 93 = .ok (.invokevirtual 29, 3) := by decide +kernel
theorem d_Parser_create_96 : decode prog_6_method_9_code 96 = .ok (.ifCond .ne 5, 3) := by decide +kernel
theorem d_Parser_create_99 : decode prog_6_method_9_code 99 = .ok (.iconst 0, 1) := by decide +kernel
theorem d_Parser_create_100 : decode prog_6_method_9_code 100 = .ok (.ireturn, 1) := by decide +kernel
theorem d_Parser_create_101 : decode prog_6_method_9_code 101 = .ok (.aload_n 0, 1) := by decide +kernel
theorem d_Parser_create_102 : decode prog_6_method_9_code 102 = .ok (.getfield 23, 3) := by decide +kernel
theorem d_Parser_create_105 : decode prog_6_method_9_code 105 = .ok (.aload_n 0, 1) := by decide +kernel
theorem d_Parser_create_106 : decode prog_6_method_9_code 106 = .ok (.getfield 9, 3) := by decide +kernel
theorem d_Parser_create_109 : decode prog_6_method_9_code 109 = .ok (.iconst 1, 1) := by decide +kernel
theorem d_Parser_create_110 : decode prog_6_method_9_code 110 = .ok (.invokevirtual 129, 3) := by decide +kernel
theorem d_Parser_create_113 : decode prog_6_method_9_code 113 = .ok (.putfield 152, 3) := by decide +kernel
theorem d_Parser_create_116 : decode prog_6_method_9_code 116 = .ok (.aload_n 0, 1) := by decide +kernel
theorem d_Parser_create_117 : decode prog_6_method_9_code 117 = .ok (.getfield 23, 3) := by decide +kernel
theorem d_Parser_create_120 : decode prog_6_method_9_code 120 = .ok (.getfield 152, 3) := by decide +kernel
theorem d_Parser_create_123 : decode prog_6_method_9_code 123 = .ok (.ifCond .lt 27, 3) := by decide +kernel
theorem d_Parser_create_126 : decode prog_6_method_9_code 126 = .ok (.aload_n 0, 1) := by decide +kernel
theorem d_Parser_create_127 : decode prog_6_method_9_code 127 = .ok (.getfield 9, 3) := by decide +kernel
theorem d_Parser_create_130 : decode prog_6_method_9_code 130 = .ok (.ldc 155, 2) := by decide +kernel
theorem d_Parser_create_132 : decode prog_6_method_9_code 132 = .ok (.invokevirtual 29, 3) := by decide +kernel
theorem d_Parser_create_135 : decode prog_6_method_9_code 135 = .ok (.ifCond .eq 15, 3) := by decide +kernel
theorem d_Parser_create_138 : decode prog_6_method_9_code 138 = .ok (.aload_n 0, 1) := by decide +kernel
theorem d_Parser_create_139 : decode prog_6_method_9_code 139 = .ok (.iconst 2, 1) := by decide +kernel
theorem d_Parser_create_140 : decode prog_6_method_9_code 140 = .ok (.invokevirtual 102, 3) := by decide +kernel
theorem d_Parser_create_143 : decode prog_6_method_9_code 143 = .ok (.ifCond .eq 7, 3) := by decide +kernel
theorem d_Parser_create_146 : decode prog_6_method_9_code 146 = .ok (.iconst 1, 1) := by decide +kernel
theorem d_Parser_create_147 : decode prog_6_method_9_code 147 = .ok (.goto 4, 3) := by decide +kernel
theorem d_Parser_create_150 : decode prog_6_method_9_code 150 = .ok (.iconst 0, 1) := by decide +kernel
theorem d_Parser_create_151 : decode prog_6_method_9_code 151 = .ok (.ireturn, 1) := by decide +kernel
theorem d_Parser_deed_0 : decode prog_6_method_3_code 0 = .ok (.aload_n 0, 1) := by decide +kernel
theorem d_Parser_deed_1 : decode prog_6_method_3_code 1 = .ok (.getfield 9, 3) := by decide +kernel
theorem d_Parser_deed_4 : decode prog_6_method_3_code 4 = .ok (.ldc 45, 2) := by decide +kernel
theorem d_Parser_deed_6 : decode prog_6_method_3_code 6 = .ok (.invokevirtual 29, 3) := by decide +kernel
theorem d_Parser_deed_9 : decode prog_6_method_3_code 9 = .ok (.ifCond .eq 10, 3) := by decide +kernel
theorem d_Parser_deed_12 : decode prog_6_method_3_code 12 = .ok (.aload_n 0, 1) := by decide +kernel
theorem d_Parser_deed_13 : decode prog_6_method_3_code 13 = .ok (.bipush 8, 2) := by decide +kernel
theorem d_Parser_deed_15 : decode prog_6_method_3_code 15 = .ok (.invokevirtual 47, 3) := by decide +kernel
theorem d_Parser_deed_18 : decode prog_6_method_3_code 18 = .ok (.ireturn, 1) := by decide +kernel
theorem d_Parser_deed_19 : decode prog_6_method_3_code 19 = .ok (.aload_n 0, 1) := by decide +kernel
theorem d_Parser_deed_20 : decode prog_6_method_3_code 20 = .ok (.getfield 9, 3) := by decide +kernel
theorem d_Parser_deed_23 : decode prog_6_method_3_code 23 = .ok (.ldc 51, 2) := by decide +kernel
theorem d_Parser_deed_25 : decode prog_6_method_3_code 25 = .ok (.invokevirtual 29, 3) := by decide +kernel
theorem d_Parser_deed_28 : decode prog_6_method_3_code 28 = .ok (.ifCond .eq 49, 3) := by decide +kernel
theorem d_Parser_deed_31 : decode prog_6_method_3_code 31 = .ok (.aload_n 0, 1) := by decide +kernel
theorem d_Parser_deed_32 : decode prog_6_method_3_code 32 = .ok (.getfield 9, 3) := by decide +kernel
theorem d_Parser_deed_35 : decode prog_6_method_3_code 35 = .ok (.ldc 53, 2) := by decide +kernel
theorem d_Parser_deed_37 : decode prog_6_method_3_code 37 = .ok (.invokevirtual 29, 3) := by decide +kernel
theorem d_Parser_deed_40 : decode prog_6_method_3_code 40 = .ok (.ifCond .eq 10, 3) := by decide +kernel
theorem d_Parser_deed_43 : decode prog_6_method_3_code 43 = .ok (.aload_n 0, 1) := by decide +kernel
theorem d_Parser_deed_44 : decode prog_6_method_3_code 44 = .ok (.invokevirtual 55, 3) := by decide +kernel
theorem d_Parser_deed_47 : decode prog_6_method_3_code 47 = .ok (.ifCond .ne 5, 3) := by decide +kernel
theorem d_Parser_deed_50 : decode prog_6_method_3_code 50 = .ok (.iconst 0, 1) := by decide +kernel
theorem d_Parser_deed_51 : decode prog_6_method_3_code 51 = .ok (.ireturn, 1) := by decide +kernel
theorem d_Parser_deed_52 : decode prog_6_method_3_code 52 = .ok (.aload_n 0, 1) := by decide +kernel
theorem d_Parser_deed_53 : decode prog_6_method_3_code 53 = .ok (.getfield 9, 3) := by decide +kernel
theorem d_Parser_deed_56 : decode prog_6_method_3_code 56 = .ok (.ldc 45, 2) := by decide +kernel
theorem d_Parser_deed_58 : decode prog_6_method_3_code 58 = .ok (.invokevirtual 29, 3) := by decide +kernel
theorem d_Parser_deed_61 : decode prog_6_method_3_code 61 = .ok (.ifCond .eq 11, 3) := by decide +kernel
theorem d_Parser_deed_64 : decode prog_6_method_3_code 64 = .ok (.aload_n 0, 1) := by decide +kernel
theorem d_Parser_deed_65 : decode prog_6_method_3_code 65 = .ok (.iconst 5, 1) := by decide +kernel
theorem d_Parser_deed_66 : decode prog_6_method_3_code 66 = .ok (.invokevirtual 47, 3) := by decide +kernel
theorem d_Parser_deed_69 : decode prog_6_method_3_code 69 = .ok (.goto 7, 3) := by decide +kernel
theorem d_Parser_deed_72 : decode prog_6_method_3_code 72 = .ok (.aload_n 0, 1) := by decide +kernel
theorem d_Parser_deed_73 : decode prog_6_method_3_code 73 = .ok (.invokevirtual 58, 3) := by decide +kernel
theorem d_Parser_deed_76 : decode prog_6_method_3_code 76 = .ok (.ireturn, 1) := by decide +kernel
theorem d_Parser_deed_77 : decode prog_6_method_3_code 77 = .ok (.aload_n 0, 1) := by decide +kernel
theorem d_Parser_deed_78 : decode prog_6_method_3_code 78 = .ok (.getfield 9, 3) := by decide +kernel
theorem d_Parser_deed_81 : decode prog_6_method_3_code 81 = .ok (.ldc 61, 2) := by decide +kernel
theorem d_Parser_deed_83 : decode prog_6_method_3_code 83 = .ok (.invokevirtual 29, 3) := by decide +kernel
theorem d_Parser_deed_86 : decode prog_6_method_3_code 86 = .ok (.ifCond .eq 8, 3) := by decide +kernel
theorem d_Parser_deed_89 : decode prog_6_method_3_code 89 = .ok (.aload_n 0, 1) := by decide +kernel
theorem d_Parser_deed_90 : decode prog_6_method_3_code 90 = .ok (.invokevirtual 63, 3) := by decide +kernel
theorem d_Parser_deed_93 : decode prog_6_method_3_code 93 = .ok (.ireturn, 1) := by decide +kernel
theorem d_Parser_deed_94 : decode prog_6_method_3_code 94 = .ok (.aload_n 0, 1) := by decide +kernel
theorem d_Parser_deed_95 : decode prog_6_method_3_code 95 = .ok (.getfield 9, 3) := by decide +kernel
theorem d_Parser_deed_98 : decode prog_6_method_3_code 98 = .ok (.ldc 66, 2) := by decide +kernel
theorem d_Parser_deed_100 : decode prog_6_method_3_code 100 = .ok (.invokevirtual 29, 3) := by decide +kernel
theorem d_Parser_deed_103 : decode prog_6_method_3_code 103 = .ok (.ifCond .eq 8, 3) := by decide +kernel
theorem d_Parser_deed_106 : decode prog_6_method_3_code 106 = .ok (.aload_n 0, 1) := by decide +kernel
theorem d_Parser_deed_107 : decode prog_6_method_3_code 107 = .ok (.invokevirtual 68, 3) := by decide +kernel
theorem d_Parser_deed_110 : decode prog_6_method_3_code 110 = .ok (.ireturn, 1) := by decide +kernel
theorem d_Parser_deed_111 : decode prog_6_method_3_code 111 = .ok (.aload_n 0, 1) := by decide +kernel
theorem d_Parser_deed_112 : decode prog_6_method_3_code 112 = .ok (.getfield 35, 3) := by decide +kernel
theorem d_Parser_deed_115 : decode prog_6_method_3_code 115 = .ok (.ifCond .eq 5, 3) := by decide +kernel
theorem d_Parser_deed_118 : decode prog_6_method_3_code 118 = .ok (.iconst 0, 1) := by decide +kernel
theorem d_Parser_deed_119 : decode prog_6_method_3_code 119 = .ok (.ireturn, 1) := by decide +kernel
theorem d_Parser_deed_120 : decode prog_6_method_3_code 120 = .ok (.aload_n 0, 1) := by decide +kernel
theorem d_Parser_deed_121 : decode prog_6_method_3_code 121 = .ok (.getfield 9, 3) := by decide +kernel
theorem d_Parser_deed_124 : decode prog_6_method_3_code 124 = .ok (.ldc 71, 2) := by decide +kernel
theorem d_Parser_deed_126 : decode prog_6_method_3_code 126 = .ok (.invokevirtual 29, 3) := by decide +kernel
theorem d_Parser_deed_129 : decode prog_6_method_3_code 129 = .ok (.ifCond .eq 8, 3) := by decide +kernel
theorem d_Parser_deed_132 : decode prog_6_method_3_code 132 = .ok (.aload_n 0, 1) := by decide +kernel
theorem d_Parser_deed_133 : decode prog_6_method_3_code 133 = .ok (.invokevirtual 73, 3) := by decide +kernel
theorem d_Parser_deed_136 : decode prog_6_method_3_code 136 = .ok (.ireturn, 1) := by decide +kernel
theorem d_Parser_deed_137 : decode prog_6_method_3_code 137 = .ok (.aload_n 0, 1) := by decide +kernel
theorem d_Parser_deed_138 : decode prog_6_method_3_code 138 = .ok (.getfield 9, 3) := by decide +kernel
theorem d_Parser_deed_141 : decode prog_6_method_3_code 141 = .ok (.ldc 76, 2) := by decide +kernel
theorem d_Parser_deed_143 : decode prog_6_method_3_code 143 = .ok (.invokevirtual 29, 3) := by decide +kernel
theorem d_Parser_deed_146 : decode prog_6_method_3_code 146 = .ok (.ifCond .eq 10, 3) := by decide +kernel
theorem d_Parser_deed_149 : decode prog_6_method_3_code 149 = .ok (.aload_n 0, 1) := by decide +kernel
theorem d_Parser_deed_150 : decode prog_6_method_3_code 150 = .ok (.invokevirtual 78, 3) := by decide +kernel
theorem d_Parser_deed_153 : decode prog_6_method_3_code 153 = .ok (.goto 7, 3) := by decide +kernel
theorem d_Parser_deed_156 : decode prog_6_method_3_code 156 = .ok (.aload_n 0, 1) := by decide +kernel
theorem d_Parser_deed_157 : decode prog_6_method_3_code 157 = .ok (.invokevirtual 81, 3) := by decide +kernel
theorem d_Parser_deed_160 : decode prog_6_method_3_code 160 = .ok (.ireturn, 1) := by decide +kernel
theorem d_Parser_delete_0 : decode prog_6_method_18_code 0 = .ok (.aload_n 0, 1) := by decide +kernel
theorem d_Parser_delete_1 : decode prog_6_method_18_code 1 = .ok (.getfield 9, 3) := by decide +kernel
theorem d_Parser_delete_4 : decode prog_6_method_18_code 4 = .ok (.ldc 209, 2) := by decide +kernel
theorem d_Parser_delete_6 : decode prog_6_method_18_code 6 = .ok (.invokevirtual 29, 3) := by decide +kernel
theorem d_Parser_delete_9 : decode prog_6_method_18_code 9 = .ok (.ifCond .eq 14, 3) := by decide +kernel
theorem d_Parser_delete_12 : decode prog_6_method_18_code 12 = .ok (.aload_n 0, 1) := by decide +kernel
theorem d_Parser_delete_13 : decode prog_6_method_18_code 13 = .ok (.invokevirtual 55, 3) := by decide +kernel
theorem d_Parser_delete_16 : decode prog_6_method_18_code 16 = .ok (.ifCond .eq 7, 3) := by decide +kernel
theorem d_Parser_delete_19 : decode prog_6_method_18_code 19 = .ok (.iconst 1, 1) := by decide +kernel
theorem d_Parser_delete_20 : decode prog_6_method_18_code 20 = .ok (.goto 4, 3) := by decide +kernel
theorem d_Parser_delete_23 : decode prog_6_method_18_code 23 = .ok (.iconst 0, 1) := by decide +kernel
theorem d_Parser_delete_24 : decode prog_6_method_18_code 24 = .ok (.istore_n 1, 1) := by decide +kernel
theorem d_Parser_delete_25 : decode prog_6_method_18_code 25 = .ok (.aload_n 0, 1) := by decide +kernel
theorem d_Parser_delete_26 : decode prog_6_method_18_code 26 = .ok (.invokevirtual 201, 3) := by decide +kernel
theorem d_Parser_delete_29 : decode prog_6_method_18_code 29 = .ok (.iload_n 1, 1) := by decide +kernel
theorem d_Parser_delete_30 : decode prog_6_method_18_code 30 = .ok (.ifCond .eq 23, 3) := by decide +kernel
theorem d_Parser_delete_33 : decode prog_6_method_18_code 33 = .ok (.aload_n 0, 1) := by decide +kernel
theorem d_Parser_delete_34 : decode prog_6_method_18_code 34 = .ok (.invokevirtual 204, 3) := by decide +kernel
theorem d_Parser_delete_37 : decode prog_6_method_18_code 37 = .ok (.ifCond .eq 16, 3) := by decide +kernel
theorem d_Parser_delete_40 : decode prog_6_method_18_code 40 = .ok (.aload_n 0, 1) := by decide +kernel
theorem d_Parser_delete_41 : decode prog_6_method_18_code 41 = .ok (.bipush 7, 2) := by decide +kernel
theorem d_Parser_delete_43 : decode prog_6_method_18_code 43 = .ok (.invokevirtual 102, 3) := by decide +kernel
theorem d_Parser_delete_46 : decode prog_6_method_18_code 46 = .ok (.ifCond .eq 7, 3) := by decide +kernel
theorem d_Parser_delete_49 : decode prog_6_method_18_code 49 = .ok (.iconst 1, 1) := by decide +kernel
theorem d_Parser_delete_50 : decode prog_6_method_18_code 50 = .ok (.goto 4, 3) := by decide +kernel
theorem d_Parser_delete_53 : decode prog_6_method_18_code 53 = .ok (.iconst 0, 1) := by decide +kernel
theorem d_Parser_delete_54 : decode prog_6_method_18_code 54 = .ok (.ireturn, 1) := by decide +kernel
theorem d_Parser_ends_0 : decode prog_6_method_4_code 0 = .ok (.aload_n 0, 1) := by decide +kernel
theorem d_Parser_ends_1 : decode prog_6_method_4_code 1 = .ok (.getfield 9, 3) := by decide +kernel
theorem d_Parser_ends_4 : decode prog_6_method_4_code 4 = .ok (.ldc 84, 2) := by decide +kernel
theorem d_Parser_ends_6 : decode prog_6_method_4_code 6 = .ok (.invokevirtual 29, 3) := by decide +kernel
theorem d_Parser_ends_9 : decode prog_6_method_4_code 9 = .ok (.pop, 1) := by decide +kernel
theorem d_Parser_ends_10 : decode prog_6_method_4_code 10 = .ok (.aload_n 0, 1) := by decide +kernel
theorem d_Parser_ends_11 : decode prog_6_method_4_code 11 = .ok (.getfield 23, 3) := by decide +kernel
theorem d_Parser_ends_14 : decode prog_6_method_4_code 14 = .ok (.aload_n 0, 1) := by decide +kernel
theorem d_Parser_ends_15 : decode prog_6_method_4_code 15 = .ok (.getfield 35, 3) := by decide +kernel
theorem d_Parser_ends_18 : decode prog_6_method_4_code 18 = .ok (.ifCond .eq 8, 3) := by decide +kernel
theorem d_Parser_ends_21 : decode prog_6_method_4_code 21 = .ok (.bipush 16, 2) := by decide +kernel
theorem d_Parser_ends_23 : decode prog_6_method_4_code 23 = .ok (.goto 10, 3) := by decide +kernel
theorem d_Parser_ends_26 : decode prog_6_method_4_code 26 = .ok (.aload_n 0, 1) := by decide +kernel
theorem d_Parser_ends_27 : decode prog_6_method_4_code 27 = .ok (.getfield 23, 3) := by decide +kernel
theorem d_Parser_ends_30 : decode prog_6_method_4_code 30 = .ok (.getfield 86, 3) := by decide +kernel
theorem d_Parser_ends_33 : decode prog_6_method_4_code 33 = .ok (.putfield 92, 3) := by decide +kernel
theorem d_Parser_ends_36 : decode prog_6_method_4_code 36 = .ok (.aload_n 0, 1) := by decide +kernel
theorem d_Parser_ends_37 : decode prog_6_method_4_code 37 = .ok (.getfield 9, 3) := by decide +kernel
theorem d_Parser_ends_40 : decode prog_6_method_4_code 40 = .ok (.invokevirtual 95, 3) := by decide +kernel
theorem d_Parser_ends_43 : decode prog_6_method_4_code 43 = .ok (.ireturn, 1) := by decide +kernel
theorem d_Parser_execute_0 : decode prog_6_method_14_code 0 = .ok (.aload_n 0, 1) := by decide +kernel
theorem d_Parser_execute_1 : decode prog_6_method_14_code 1 = .ok (.invokevirtual 39, 3) := by decide +kernel
theorem d_Parser_execute_4 : decode prog_6_method_14_code 4 = .ok (.istore_n 1, 1) := by decide +kernel
theorem d_Parser_execute_5 : decode prog_6_method_14_code 5 = .ok (.iload_n 1, 1) := by decide +kernel
theorem d_Parser_execute_6 : decode prog_6_method_14_code 6 = .ok (.ifCond .eq 42, 3) := by decide +kernel
theorem d_Parser_execute_9 : decode prog_6_method_14_code 9 = .ok (.aload_n 0, 1) := by decide +kernel
theorem d_Parser_execute_10 : decode prog_6_method_14_code 10 = .ok (.getfield 9, 3) := by decide +kernel
theorem d_Parser_execute_13 : decode prog_6_method_14_code 13 = .ok (.ldc 150, 2) := by decide +kernel
theorem d_Parser_execute_15 : decode prog_6_method_14_code 15 = .ok (.invokevirtual 29, 3) := by decide +kernel
theorem d_Parser_execute_18 : decode prog_6_method_14_code 18 = .ok (.ifCond .eq 30, 3) := by decide +kernel
theorem d_Parser_execute_21 : decode prog_6_method_14_code 21 = .ok (.aload_n 0, 1) := by decide +kernel
theorem d_Parser_execute_22 : decode prog_6_method_14_code 22 = .ok (.bipush 9, 2) := by decide +kernel
theorem d_Parser_execute_24 : decode prog_6_method_14_code 24 = .ok (.invokevirtual 186, 3) := by decide +kernel
theorem d_Parser_execute_27 : decode prog_6_method_14_code 27 = .ok (.ifCond .eq 19, 3) := by decide +kernel
theorem d_Parser_execute_30 : decode prog_6_method_14_code 30 = .ok (.aload_n 0, 1) := by decide +kernel
theorem d_Parser_execute_31 : decode prog_6_method_14_code 31 = .ok (.getfield 9, 3) := by decide +kernel
theorem d_Parser_execute_34 : decode prog_6_method_14_code 34 = .ok (.ldc 155, 2) := by decide +kernel
theorem d_Parser_execute_36 : decode prog_6_method_14_code 36 = .ok (.invokevirtual 29, 3) := by decide +kernel
theorem d_Parser_execute_39 : decode prog_6_method_14_code 39 = .ok (.ifCond .eq 7, 3) := by decide +kernel
theorem d_Parser_execute_42 : decode prog_6_method_14_code 42 = .ok (.iconst 1, 1) := by decide +kernel
theorem d_Parser_execute_43 : decode prog_6_method_14_code 43 = .ok (.goto 4, 3) := by decide +kernel
theorem d_Parser_execute_46 : decode prog_6_method_14_code 46 = .ok (.iconst 0, 1) := by decide +kernel
theorem d_Parser_execute_47 : decode prog_6_method_14_code 47 = .ok (.istore_n 1, 1) := by decide +kernel
theorem d_Parser_execute_48 : decode prog_6_method_14_code 48 = .ok (.iload_n 1, 1) := by decide +kernel
theorem d_Parser_execute_49 : decode prog_6_method_14_code 49 = .ok (.ifCond .eq 16, 3) := by decide +kernel
theorem d_Parser_execute_52 : decode prog_6_method_14_code 52 = .ok (.aload_n 0, 1) := by decide +kernel
theorem d_Parser_execute_53 : decode prog_6_method_14_code 53 = .ok (.bipush 17, 2) := by decide +kernel
theorem d_Parser_execute_55 : decode prog_6_method_14_code 55 = .ok (.invokevirtual 102, 3) := by decide +kernel
theorem d_Parser_execute_58 : decode prog_6_method_14_code 58 = .ok (.ifCond .eq 7, 3) := by decide +kernel
theorem d_Parser_execute_61 : decode prog_6_method_14_code 61 = .ok (.iconst 1, 1) := by decide +kernel
theorem d_Parser_execute_62 : decode prog_6_method_14_code 62 = .ok (.goto 4, 3) := by decide +kernel
theorem d_Parser_execute_65 : decode prog_6_method_14_code 65 = .ok (.iconst 0, 1) := by decide +kernel
theorem d_Parser_execute_66 : decode prog_6_method_14_code 66 = .ok (.ireturn, 1) := by decide +kernel
theorem d_Parser_expression_0 : decode prog_6_method_33_code 0 = .ok (.iload_n 2, 1) := by decide +kernel
theorem d_Parser_expression_1 : decode prog_6_method_33_code 1 = .ok (.bipush 20, 2) := by decide +kernel
theorem d_Parser_expression_3 : decode prog_6_method_33_code 3 = .ok (.if_icmp .le 5, 3) := by decide +kernel
theorem d_Parser_expression_6 : decode prog_6_method_33_code 6 = .ok (.iconst (-1), 1) := by decide +kernel
theorem d_Parser_expression_7 : decode prog_6_method_33_code 7 = .ok (.ireturn, 1) := by decide +kernel
theorem d_Parser_expression_8 : decode prog_6_method_33_code 8 = .ok (.aload_n 0, 1) := by decide +kernel
theorem d_Parser_expression_9 : decode prog_6_method_33_code 9 = .ok (.getfield 15, 3) := by decide +kernel
theorem d_Parser_expression_12 : decode prog_6_method_33_code 12 = .ok (.invokevirtual 305, 3) := by decide +kernel
theorem d_Parser_expression_15 : decode prog_6_method_33_code 15 = .ok (.istore_n 3, 1) := by decide +kernel
theorem d_Parser_expression_16 : decode prog_6_method_33_code 16 = .ok (.iload_n 1, 1) := by decide +kernel
theorem d_Parser_expression_17 : decode prog_6_method_33_code 17 = .ok (.iconst 3, 1) := by decide +kernel
theorem d_Parser_expression_18 : decode prog_6_method_33_code 18 = .ok (.if_icmp .gt 19, 3) := by decide +kernel
theorem d_Parser_expression_21 : decode prog_6_method_33_code 21 = .ok (.aload_n 0, 1) := by decide +kernel
theorem d_Parser_expression_22 : decode prog_6_method_33_code 22 = .ok (.getfield 9, 3) := by decide +kernel
theorem d_Parser_expression_25 : decode prog_6_method_33_code 25 = .ok (.ldc 168, 2) := by decide +kernel
theorem d_Parser_expression_27 : decode prog_6_method_33_code 27 = .ok (.invokevirtual 29, 3) := by decide +kernel
theorem d_Parser_expression_30 : decode prog_6_method_33_code 30 = .ok (.ifCond .eq 7, 3) := by decide +kernel
theorem d_Parser_expression_33 : decode prog_6_method_33_code 33 = .ok (.iconst 1, 1) := by decide +kernel
theorem d_Parser_expression_34 : decode prog_6_method_33_code 34 = .ok (.goto 4, 3) := by decide +kernel
theorem d_Parser_expression_37 : decode prog_6_method_33_code 37 = .ok (.iconst 0, 1) := by decide +kernel
theorem d_Parser_expression_38 : decode prog_6_method_33_code 38 = .ok (.istore 4, 2) := by decide +kernel
theorem d_Parser_expression_40 : decode prog_6_method_33_code 40 = .ok (.iload 4, 2) := by decide +kernel
theorem d_Parser_expression_42 : decode prog_6_method_33_code 42 = .ok (.ifCond .eq 7, 3) := by decide +kernel
theorem d_Parser_expression_45 : decode prog_6_method_33_code 45 = .ok (.iconst 2, 1) := by decide +kernel
theorem d_Parser_expression_46 : decode prog_6_method_33_code 46 = .ok (.goto 5, 3) := by decide +kernel
theorem d_Parser_expression_49 : decode prog_6_method_33_code 49 = .ok (.bipush 7, 2) := by decide +kernel
theorem d_Parser_expression_51 : decode prog_6_method_33_code 51 = .ok (.istore 5, 2) := by decide +kernel
theorem d_Parser_expression_53 : decode prog_6_method_33_code 53 = .ok (.iload 4, 2) := by decide +kernel
theorem d_Parser_expression_55 : decode prog_6_method_33_code 55 = .ok (.ifCond .eq 23, 3) := by decide +kernel
theorem d_Parser_expression_58 : decode prog_6_method_33_code 58 = .ok (.aload_n 0, 1) := by decide +kernel
theorem d_Parser_expression_59 : decode prog_6_method_33_code 59 = .ok (.getfield 15, 3) := by decide +kernel
theorem d_Parser_expression_62 : decode prog_6_method_33_code 62 = .ok (.bipush 25, 2) := by decide +kernel
theorem d_Parser_expression_64 : decode prog_6_method_33_code 64 = .ok (.aload_n 0, 1) := by decide +kernel
theorem d_Parser_expression_65 : decode prog_6_method_33_code 65 = .ok (.iconst 3, 1) := by decide +kernel
theorem d_Parser_expression_66 : decode prog_6_method_33_code 66 = .ok (.iload_n 2, 1) := by decide +kernel
theorem d_Parser_expression_67 : decode prog_6_method_33_code 67 = .ok (.iconst 1, 1) := by decide +kernel
theorem d_Parser_expression_68 : decode prog_6_method_33_code 68 = .ok (.iadd, 1) := by decide +kernel
theorem d_Parser_expression_69 : decode prog_6_method_33_code 69 = .ok (.invokevirtual 192, 3) := by decide +kernel
theorem d_Parser_expression_72 : decode prog_6_method_33_code 72 = .ok (.invokevirtual 309, 3) := by decide +kernel
theorem d_Parser_expression_75 : decode prog_6_method_33_code 75 = .ok (.goto 8, 3) := by decide +kernel
theorem d_Parser_expression_78 : decode prog_6_method_33_code 78 = .ok (.aload_n 0, 1) := by decide +kernel
theorem d_Parser_expression_79 : decode prog_6_method_33_code 79 = .ok (.iload_n 2, 1) := by decide +kernel
theorem d_Parser_expression_80 : decode prog_6_method_33_code 80 = .ok (.invokevirtual 312, 3) := by decide +kernel
theorem d_Parser_expression_83 : decode prog_6_method_33_code 83 = .ok (.istore 6, 2) := by decide +kernel
theorem d_Parser_expression_85 : decode prog_6_method_33_code 85 = .ok (.iconst 0, 1) := by decide +kernel
theorem d_Parser_expression_86 : decode prog_6_method_33_code 86 = .ok (.istore 7, 2) := by decide +kernel
theorem d_Parser_expression_88 : decode prog_6_method_33_code 88 = .ok (.iload 7, 2) := by decide +kernel
theorem d_Parser_expression_90 : decode prog_6_method_33_code 90 = .ok (.sipush 2000, 3) := by decide +kernel
theorem d_Parser_expression_93 : decode prog_6_method_33_code 93 = .ok (.if_icmp .ge 127, 3) := by decide +kernel
theorem d_Parser_expression_96 : decode prog_6_method_33_code 96 = .ok (.iload 6, 2) := by decide +kernel
theorem d_Parser_expression_98 : decode prog_6_method_33_code 98 = .ok (.ifCond .lt 122, 3) := by decide +kernel
theorem d_Parser_expression_101 : decode prog_6_method_33_code 101 = .ok (.aload_n 0, 1) := by decide +kernel
theorem d_Parser_expression_102 : decode prog_6_method_33_code 102 = .ok (.getfield 9, 3) := by decide +kernel
theorem d_Parser_expression_105 : decode prog_6_method_33_code 105 = .ok (.invokevirtual 315, 3) := by decide +kernel
theorem d_Parser_expression_108 : decode prog_6_method_33_code 108 = .ok (.istore 8, 2) := by decide +kernel
theorem d_Parser_expression_110 : decode prog_6_method_33_code 110 = .ok (.aload_n 0, 1) := by decide +kernel
theorem d_Parser_expression_111 : decode prog_6_method_33_code 111 = .ok (.invokevirtual 318, 3) := by decide +kernel
theorem d_Parser_expression_114 : decode prog_6_method_33_code 114 = .ok (.istore 9, 2) := by decide +kernel
theorem d_Parser_expression_116 : decode prog_6_method_33_code 116 = .ok (.iload 9, 2) := by decide +kernel
theorem d_Parser_expression_118 : decode prog_6_method_33_code 118 = .ok (.ifCond .ge 10, 3) := by decide +kernel
theorem d_Parser_expression_121 : decode prog_6_method_33_code 121 = .ok (.aload_n 0, 1) := by decide +kernel
theorem d_Parser_expression_122 : decode prog_6_method_33_code 122 = .ok (.invokevirtual 321, 3) := by decide +kernel
theorem d_Parser_expression_125 : decode prog_6_method_33_code 125 = .ok (.goto 5, 3) := by decide +kernel
theorem d_Parser_expression_128 : decode prog_6_method_33_code 128 = .ok (.iload 9, 2) := by decide +kernel
theorem d_Parser_expression_130 : decode prog_6_method_33_code 130 = .ok (.istore 10, 2) := by decide +kernel
theorem d_Parser_expression_132 : decode prog_6_method_33_code 132 = .ok (.iload 10, 2) := by decide +kernel
theorem d_Parser_expression_134 : decode prog_6_method_33_code 134 = .ok (.invokestatic 324, 3) := by decide +kernel
theorem d_Parser_expression_137 : decode prog_6_method_33_code 137 = .ok (.istore 11, 2) := by decide +kernel
theorem d_Parser_expression_139 : decode prog_6_method_33_code 139 = .ok (.iload 11, 2) := by decide +kernel
theorem d_Parser_expression_141 : decode prog_6_method_33_code 141 = .ok (.iload_n 1, 1) := by decide +kernel
theorem d_Parser_expression_142 : decode prog_6_method_33_code 142 = .ok (.if_icmp .lt 10, 3) := by decide +kernel
theorem d_Parser_expression_145 : decode prog_6_method_33_code 145 = .ok (.iload 11, 2) := by decide +kernel
theorem d_Parser_expression_147 : decode prog_6_method_33_code 147 = .ok (.iload 5, 2) := by decide +kernel
theorem d_Parser_expression_149 : decode prog_6_method_33_code 149 = .ok (.if_icmp .le 15, 3) := by decide +kernel
theorem d_Parser_expression_152 : decode prog_6_method_33_code 152 = .ok (.aload_n 0, 1) := by decide +kernel
theorem d_Parser_expression_153 : decode prog_6_method_33_code 153 = .ok (.getfield 9, 3) := by decide +kernel
theorem d_Parser_expression_156 : decode prog_6_method_33_code 156 = .ok (.iload 8, 2) := by decide +kernel
theorem d_Parser_expression_158 : decode prog_6_method_33_code 158 = .ok (.invokevirtual 327, 3) := by decide +kernel
theorem d_Parser_expression_161 : decode prog_6_method_33_code 161 = .ok (.goto 59, 3) := by decide +kernel
theorem d_Parser_expression_164 : decode prog_6_method_33_code 164 = .ok (.iload 11, 2) := by decide +kernel
theorem d_Parser_expression_166 : decode prog_6_method_33_code 166 = .ok (.iconst 4, 1) := by decide +kernel
theorem d_Parser_expression_167 : decode prog_6_method_33_code 167 = .ok (.if_icmp .ne 21, 3) := by decide +kernel
theorem d_Parser_expression_170 : decode prog_6_method_33_code 170 = .ok (.aload_n 0, 1) := by decide +kernel
theorem d_Parser_expression_171 : decode prog_6_method_33_code 171 = .ok (.iload 10, 2) := by decide +kernel
theorem d_Parser_expression_173 : decode prog_6_method_33_code 173 = .ok (.iload_n 3, 1) := by decide +kernel
theorem d_Parser_expression_174 : decode prog_6_method_33_code 174 = .ok (.iload 6, 2) := by decide +kernel
theorem d_Parser_expression_176 : decode prog_6_method_33_code 176 = .ok (.iload_n 2, 1) := by decide +kernel
theorem d_Parser_expression_177 : decode prog_6_method_33_code 177 = .ok (.invokevirtual 331, 3) := by decide +kernel
theorem d_Parser_expression_180 : decode prog_6_method_33_code 180 = .ok (.istore 6, 2) := by decide +kernel
theorem d_Parser_expression_182 : decode prog_6_method_33_code 182 = .ok (.iconst 2, 1) := by decide +kernel
theorem d_Parser_expression_183 : decode prog_6_method_33_code 183 = .ok (.istore 5, 2) := by decide +kernel
theorem d_Parser_expression_185 : decode prog_6_method_33_code 185 = .ok (.goto 29, 3) := by decide +kernel
theorem d_Parser_expression_188 : decode prog_6_method_33_code 188 = .ok (.aload_n 0, 1) := by decide +kernel
theorem d_Parser_expression_189 : decode prog_6_method_33_code 189 = .ok (.getfield 15, 3) := by decide +kernel
theorem d_Parser_expression_192 : decode prog_6_method_33_code 192 = .ok (.iload 10, 2) := by decide +kernel
theorem d_Parser_expression_194 : decode prog_6_method_33_code 194 = .ok (.iload 6, 2) := by decide +kernel
theorem d_Parser_expression_196 : decode prog_6_method_33_code 196 = .ok (.aload_n 0, 1) := by decide +kernel
theorem d_Parser_expression_197 : decode prog_6_method_33_code 197 = .ok (.iload 11, 2) := by decide +kernel
theorem d_Parser_expression_199 : decode prog_6_method_33_code 199 = .ok (.iconst 1, 1) := by decide +kernel
theorem d_Parser_expression_200 : decode prog_6_method_33_code 200 = .ok (.iadd, 1) := by decide +kernel
theorem d_Parser_expression_201 : decode prog_6_method_33_code 201 = .ok (.iload_n 2, 1) := by decide +kernel
theorem d_Parser_expression_202 : decode prog_6_method_33_code 202 = .ok (.invokevirtual 192, 3) := by decide +kernel
theorem d_Parser_expression_205 : decode prog_6_method_33_code 205 = .ok (.invokevirtual 335, 3) := by decide +kernel
theorem d_Parser_expression_208 : decode prog_6_method_33_code 208 = .ok (.istore 6, 2) := by decide +kernel
theorem d_Parser_expression_210 : decode prog_6_method_33_code 210 = .ok (.iload 11, 2) := by decide +kernel
theorem d_Parser_expression_212 : decode prog_6_method_33_code 212 = .ok (.istore 5, 2) := by decide +kernel
theorem d_Parser_expression_214 : decode prog_6_method_33_code 214 = .ok (.iinc 7 1, 3) := by decide +kernel
theorem d_Parser_expression_217 : decode prog_6_method_33_code 217 = .ok (.goto (-129), 3) := by decide +kernel
theorem d_Parser_expression_220 : decode prog_6_method_33_code 220 = .ok (.iload 6, 2) := by decide +kernel
theorem d_Parser_expression_222 : decode prog_6_method_33_code 222 = .ok (.ireturn, 1) := by decide +kernel
theorem d_Parser_expressions_0 : decode prog_6_method_15_code 0 = .ok (.iconst 0, 1) := by decide +kernel
theorem d_Parser_expressions_1 : decode prog_6_method_15_code 1 = .ok (.istore_n 2, 1) := by decide +kernel
theorem d_Parser_expressions_2 : decode prog_6_method_15_code 2 = .ok (.iload_n 2, 1) := by decide +kernel
theorem d_Parser_expressions_3 : decode prog_6_method_15_code 3 = .ok (.sipush 2000, 3) := by decide +kernel
theorem d_Parser_expressions_6 : decode prog_6_method_15_code 6 = .ok (.if_icmp .ge 45, 3) := by decide +kernel
theorem d_Parser_expressions_9 : decode prog_6_method_15_code 9 = .ok (.aload_n 0, 1) := by decide +kernel
theorem d_Parser_expressions_10 : decode prog_6_method_15_code 10 = .ok (.iconst 1, 1) := by decide +kernel
theorem d_Parser_expressions_11 : decode prog_6_method_15_code 11 = .ok (.iconst 0, 1) := by decide +kernel
theorem d_Parser_expressions_12 : decode prog_6_method_15_code 12 = .ok (.invokevirtual 192, 3) := by decide +kernel
theorem d_Parser_expressions_15 : decode prog_6_method_15_code 15 = .ok (.istore_n 3, 1) := by decide +kernel
theorem d_Parser_expressions_16 : decode prog_6_method_15_code 16 = .ok (.iload_n 3, 1) := by decide +kernel
theorem d_Parser_expressions_17 : decode prog_6_method_15_code 17 = .ok (.ifCond .ge 5, 3) := by decide +kernel
theorem d_Parser_expressions_20 : decode prog_6_method_15_code 20 = .ok (.iconst 0, 1) := by decide +kernel
theorem d_Parser_expressions_21 : decode prog_6_method_15_code 21 = .ok (.ireturn, 1) := by decide +kernel
theorem d_Parser_expressions_22 : decode prog_6_method_15_code 22 = .ok (.aload_n 0, 1) := by decide +kernel
theorem d_Parser_expressions_23 : decode prog_6_method_15_code 23 = .ok (.getfield 19, 3) := by decide +kernel
theorem d_Parser_expressions_26 : decode prog_6_method_15_code 26 = .ok (.iload_n 1, 1) := by decide +kernel
theorem d_Parser_expressions_27 : decode prog_6_method_15_code 27 = .ok (.iload_n 3, 1) := by decide +kernel
theorem d_Parser_expressions_28 : decode prog_6_method_15_code 28 = .ok (.invokevirtual 174, 3) := by decide +kernel
theorem d_Parser_expressions_31 : decode prog_6_method_15_code 31 = .ok (.aload_n 0, 1) := by decide +kernel
theorem d_Parser_expressions_32 : decode prog_6_method_15_code 32 = .ok (.getfield 9, 3) := by decide +kernel
theorem d_Parser_expressions_35 : decode prog_6_method_15_code 35 = .ok (.ldc 162, 2) := by decide +kernel
theorem d_Parser_expressions_37 : decode prog_6_method_15_code 37 = .ok (.invokevirtual 29, 3) := by decide +kernel
theorem d_Parser_expressions_40 : decode prog_6_method_15_code 40 = .ok (.ifCond .ne 5, 3) := by decide +kernel
theorem d_Parser_expressions_43 : decode prog_6_method_15_code 43 = .ok (.iconst 1, 1) := by decide +kernel
theorem d_Parser_expressions_44 : decode prog_6_method_15_code 44 = .ok (.ireturn, 1) := by decide +kernel
theorem d_Parser_expressions_45 : decode prog_6_method_15_code 45 = .ok (.iinc 2 1, 3) := by decide +kernel
theorem d_Parser_expressions_48 : decode prog_6_method_15_code 48 = .ok (.goto (-46), 3) := by decide +kernel
theorem d_Parser_expressions_51 : decode prog_6_method_15_code 51 = .ok (.iconst 0, 1) := by decide +kernel
theorem d_Parser_expressions_52 : decode prog_6_method_15_code 52 = .ok (.ireturn, 1) := by decide +kernel
theorem d_Parser_from_0 : decode prog_6_method_21_code 0 = .ok (.aload_n 0, 1) := by decide +kernel
theorem d_Parser_from_1 : decode prog_6_method_21_code 1 = .ok (.getfield 9, 3) := by decide +kernel
theorem d_Parser_from_4 : decode prog_6_method_21_code 4 = .ok (.ldc 209, 2) := by decide +kernel
theorem d_Parser_from_6 : decode prog_6_method_21_code 6 = .ok (.invokevirtual 29, 3) := by decide +kernel
theorem d_Parser_from_9 : decode prog_6_method_21_code 9 = .ok (.ifCond .eq 14, 3) := by decide +kernel
theorem d_Parser_from_12 : decode prog_6_method_21_code 12 = .ok (.aload_n 0, 1) := by decide +kernel
theorem d_Parser_from_13 : decode prog_6_method_21_code 13 = .ok (.invokevirtual 239, 3) := by decide +kernel
theorem d_Parser_from_16 : decode prog_6_method_21_code 16 = .ok (.ifCond .eq 7, 3) := by decide +kernel
theorem d_Parser_from_19 : decode prog_6_method_21_code 19 = .ok (.iconst 1, 1) := by decide +kernel
theorem d_Parser_from_20 : decode prog_6_method_21_code 20 = .ok (.goto 4, 3) := by decide +kernel
theorem d_Parser_from_23 : decode prog_6_method_21_code 23 = .ok (.iconst 0, 1) := by decide +kernel
theorem d_Parser_from_24 : decode prog_6_method_21_code 24 = .ok (.istore_n 1, 1) := by decide +kernel
theorem d_Parser_from_25 : decode prog_6_method_21_code 25 = .ok (.iconst 0, 1) := by decide +kernel
theorem d_Parser_from_26 : decode prog_6_method_21_code 26 = .ok (.istore_n 2, 1) := by decide +kernel
theorem d_Parser_from_27 : decode prog_6_method_21_code 27 = .ok (.iload_n 2, 1) := by decide +kernel
theorem d_Parser_from_28 : decode prog_6_method_21_code 28 = .ok (.sipush 2000, 3) := by decide +kernel
theorem d_Parser_from_31 : decode prog_6_method_21_code 31 = .ok (.if_icmp .ge 30, 3) := by decide +kernel
theorem d_Parser_from_34 : decode prog_6_method_21_code 34 = .ok (.iload_n 1, 1) := by decide +kernel
theorem d_Parser_from_35 : decode prog_6_method_21_code 35 = .ok (.ifCond .eq 26, 3) := by decide +kernel
theorem d_Parser_from_38 : decode prog_6_method_21_code 38 = .ok (.aload_n 0, 1) := by decide +kernel
theorem d_Parser_from_39 : decode prog_6_method_21_code 39 = .ok (.getfield 9, 3) := by decide +kernel
theorem d_Parser_from_42 : decode prog_6_method_21_code 42 = .ok (.ldc 162, 2) := by decide +kernel
theorem d_Parser_from_44 : decode prog_6_method_21_code 44 = .ok (.invokevirtual 29, 3) := by decide +kernel
theorem d_Parser_from_47 : decode prog_6_method_21_code 47 = .ok (.ifCond .eq 14, 3) := by decide +kernel
theorem d_Parser_from_50 : decode prog_6_method_21_code 50 = .ok (.aload_n 0, 1) := by decide +kernel
theorem d_Parser_from_51 : decode prog_6_method_21_code 51 = .ok (.invokevirtual 239, 3) := by decide +kernel
theorem d_Parser_from_54 : decode prog_6_method_21_code 54 = .ok (.istore_n 1, 1) := by decide +kernel
theorem d_Parser_from_55 : decode prog_6_method_21_code 55 = .ok (.iinc 2 1, 3) := by decide +kernel
theorem d_Parser_from_58 : decode prog_6_method_21_code 58 = .ok (.goto (-31), 3) := by decide +kernel
theorem d_Parser_from_61 : decode prog_6_method_21_code 61 = .ok (.iload_n 1, 1) := by decide +kernel
theorem d_Parser_from_62 : decode prog_6_method_21_code 62 = .ok (.ireturn, 1) := by decide +kernel
theorem d_Parser_group_0 : decode prog_6_method_25_code 0 = .ok (.aload_n 0, 1) := by decide +kernel
theorem d_Parser_group_1 : decode prog_6_method_25_code 1 = .ok (.invokevirtual 253, 3) := by decide +kernel
theorem d_Parser_group_4 : decode prog_6_method_25_code 4 = .ok (.istore_n 1, 1) := by decide +kernel
theorem d_Parser_group_5 : decode prog_6_method_25_code 5 = .ok (.iload_n 1, 1) := by decide +kernel
theorem d_Parser_group_6 : decode prog_6_method_25_code 6 = .ok (.ifCond .lt 12, 3) := by decide +kernel
theorem d_Parser_group_9 : decode prog_6_method_25_code 9 = .ok (.aload_n 0, 1) := by decide +kernel
theorem d_Parser_group_10 : decode prog_6_method_25_code 10 = .ok (.getfield 19, 3) := by decide +kernel
theorem d_Parser_group_13 : decode prog_6_method_25_code 13 = .ok (.iconst 1, 1) := by decide +kernel
theorem d_Parser_group_14 : decode prog_6_method_25_code 14 = .ok (.iload_n 1, 1) := by decide +kernel
theorem d_Parser_group_15 : decode prog_6_method_25_code 15 = .ok (.invokevirtual 174, 3) := by decide +kernel
theorem d_Parser_group_18 : decode prog_6_method_25_code 18 = .ok (.iload_n 1, 1) := by decide +kernel
theorem d_Parser_group_19 : decode prog_6_method_25_code 19 = .ok (.ifCond .lt 7, 3) := by decide +kernel
theorem d_Parser_group_22 : decode prog_6_method_25_code 22 = .ok (.iconst 1, 1) := by decide +kernel
theorem d_Parser_group_23 : decode prog_6_method_25_code 23 = .ok (.goto 4, 3) := by decide +kernel
theorem d_Parser_group_26 : decode prog_6_method_25_code 26 = .ok (.iconst 0, 1) := by decide +kernel
theorem d_Parser_group_27 : decode prog_6_method_25_code 27 = .ok (.ireturn, 1) := by decide +kernel
theorem d_Parser_groups_0 : decode prog_6_method_24_code 0 = .ok (.aload_n 0, 1) := by decide +kernel
theorem d_Parser_groups_1 : decode prog_6_method_24_code 1 = .ok (.getfield 9, 3) := by decide +kernel
theorem d_Parser_groups_4 : decode prog_6_method_24_code 4 = .ok (.ldc 246, 2) := by decide +kernel
theorem d_Parser_groups_6 : decode prog_6_method_24_code 6 = .ok (.invokevirtual 29, 3) := by decide +kernel
theorem d_Parser_groups_9 : decode prog_6_method_24_code 9 = .ok (.ifCond .ne 5, 3) := by decide +kernel
theorem d_Parser_groups_12 : decode prog_6_method_24_code 12 = .ok (.iconst 1, 1) := by decide +kernel
theorem d_Parser_groups_13 : decode prog_6_method_24_code 13 = .ok (.ireturn, 1) := by decide +kernel
theorem d_Parser_groups_14 : decode prog_6_method_24_code 14 = .ok (.aload_n 0, 1) := by decide +kernel
theorem d_Parser_groups_15 : decode prog_6_method_24_code 15 = .ok (.getfield 9, 3) := by decide +kernel
theorem d_Parser_groups_18 : decode prog_6_method_24_code 18 = .ok (.ldc 248, 2) := by decide +kernel
theorem d_Parser_groups_20 : decode prog_6_method_24_code 20 = .ok (.invokevirtual 29, 3) := by decide +kernel
theorem d_Parser_groups_23 : decode prog_6_method_24_code 23 = .ok (.ifCond .eq 14, 3) := by decide +kernel
theorem d_Parser_groups_26 : decode prog_6_method_24_code 26 = .ok (.aload_n 0, 1) := by decide +kernel
theorem d_Parser_groups_27 : decode prog_6_method_24_code 27 = .ok (.invokevirtual 250, 3) := by decide +kernel
theorem d_Parser_groups_30 : decode prog_6_method_24_code 30 = .ok (.ifCond .eq 7, 3) := by decide +kernel
theorem d_Parser_groups_33 : decode prog_6_method_24_code 33 = .ok (.iconst 1, 1) := by decide +kernel
theorem d_Parser_groups_34 : decode prog_6_method_24_code 34 = .ok (.goto 4, 3) := by decide +kernel
theorem d_Parser_groups_37 : decode prog_6_method_24_code 37 = .ok (.iconst 0, 1) := by decide +kernel
theorem d_Parser_groups_38 : decode prog_6_method_24_code 38 = .ok (.istore_n 1, 1) := by decide +kernel
theorem d_Parser_groups_39 : decode prog_6_method_24_code 39 = .ok (.iconst 0, 1) := by decide +kernel
theorem d_Parser_groups_40 : decode prog_6_method_24_code 40 = .ok (.istore_n 2, 1) := by decide +kernel
theorem d_Parser_groups_41 : decode prog_6_method_24_code 41 = .ok (.iload_n 2, 1) := by decide +kernel
theorem d_Parser_groups_42 : decode prog_6_method_24_code 42 = .ok (.sipush 2000, 3) := by decide +kernel
theorem d_Parser_groups_45 : decode prog_6_method_24_code 45 = .ok (.if_icmp .ge 30, 3) := by decide +kernel
theorem d_Parser_groups_48 : decode prog_6_method_24_code 48 = .ok (.iload_n 1, 1) := by decide +kernel
theorem d_Parser_groups_49 : decode prog_6_method_24_code 49 = .ok (.ifCond .eq 26, 3) := by decide +kernel
theorem d_Parser_groups_52 : decode prog_6_method_24_code 52 = .ok (.aload_n 0, 1) := by decide +kernel
theorem d_Parser_groups_53 : decode prog_6_method_24_code 53 = .ok (.getfield 9, 3) := by decide +kernel
theorem d_Parser_groups_56 : decode prog_6_method_24_code 56 = .ok (.ldc 162, 2) := by decide +kernel
theorem d_Parser_groups_58 : decode prog_6_method_24_code 58 = .ok (.invokevirtual 29, 3) := by decide +kernel
theorem d_Parser_groups_61 : decode prog_6_method_24_code 61 = .ok (.ifCond .eq 14, 3) := by decide +kernel
theorem d_Parser_groups_64 : decode prog_6_method_24_code 64 = .ok (.aload_n 0, 1) := by decide +kernel
theorem d_Parser_groups_65 : decode prog_6_method_24_code 65 = .ok (.invokevirtual 250, 3) := by decide +kernel
theorem d_Parser_groups_68 : decode prog_6_method_24_code 68 = .ok (.istore_n 1, 1) := by decide +kernel
theorem d_Parser_groups_69 : decode prog_6_method_24_code 69 = .ok (.iinc 2 1, 3) := by decide +kernel
theorem d_Parser_groups_72 : decode prog_6_method_24_code 72 = .ok (.goto (-31), 3) := by decide +kernel
theorem d_Parser_groups_75 : decode prog_6_method_24_code 75 = .ok (.iload_n 1, 1) := by decide +kernel
theorem d_Parser_groups_76 : decode prog_6_method_24_code 76 = .ok (.ireturn, 1) := by decide +kernel
theorem d_Parser_is_0 : decode prog_6_method_6_code 0 = .ok (.aload_n 0, 1) := by decide +kernel
theorem d_Parser_is_1 : decode prog_6_method_6_code 1 = .ok (.getfield 23, 3) := by decide +kernel
theorem d_Parser_is_4 : decode prog_6_method_6_code 4 = .ok (.iload_n 1, 1) := by decide +kernel
theorem d_Parser_is_5 : decode prog_6_method_6_code 5 = .ok (.putfield 86, 3) := by decide +kernel
theorem d_Parser_is_8 : decode prog_6_method_6_code 8 = .ok (.iconst 1, 1) := by decide +kernel
theorem d_Parser_is_9 : decode prog_6_method_6_code 9 = .ok (.ireturn, 1) := by decide +kernel
theorem d_Parser_leaf_0 : decode prog_6_method_40_code 0 = .ok (.aload_n 0, 1) := by decide +kernel
theorem d_Parser_leaf_1 : decode prog_6_method_40_code 1 = .ok (.getfield 9, 3) := by decide +kernel
theorem d_Parser_leaf_4 : decode prog_6_method_40_code 4 = .ok (.iconst 2, 1) := by decide +kernel
theorem d_Parser_leaf_5 : decode prog_6_method_40_code 5 = .ok (.invokevirtual 129, 3) := by decide +kernel
theorem d_Parser_leaf_8 : decode prog_6_method_40_code 8 = .ok (.istore_n 1, 1) := by decide +kernel
theorem d_Parser_leaf_9 : decode prog_6_method_40_code 9 = .ok (.iload_n 1, 1) := by decide +kernel
theorem d_Parser_leaf_10 : decode prog_6_method_40_code 10 = .ok (.ifCond .lt 15, 3) := by decide +kernel
theorem d_Parser_leaf_13 : decode prog_6_method_40_code 13 = .ok (.aload_n 0, 1) := by decide +kernel
theorem d_Parser_leaf_14 : decode prog_6_method_40_code 14 = .ok (.getfield 15, 3) := by decide +kernel
theorem d_Parser_leaf_17 : decode prog_6_method_40_code 17 = .ok (.iconst 1, 1) := by decide +kernel
theorem d_Parser_leaf_18 : decode prog_6_method_40_code 18 = .ok (.iconst (-1), 1) := by decide +kernel
theorem d_Parser_leaf_19 : decode prog_6_method_40_code 19 = .ok (.iload_n 1, 1) := by decide +kernel
theorem d_Parser_leaf_20 : decode prog_6_method_40_code 20 = .ok (.iconst (-1), 1) := by decide +kernel
theorem d_Parser_leaf_21 : decode prog_6_method_40_code 21 = .ok (.invokevirtual 365, 3) := by decide +kernel
theorem d_Parser_leaf_24 : decode prog_6_method_40_code 24 = .ok (.ireturn, 1) := by decide +kernel
theorem d_Parser_leaf_25 : decode prog_6_method_40_code 25 = .ok (.aload_n 0, 1) := by decide +kernel
theorem d_Parser_leaf_26 : decode prog_6_method_40_code 26 = .ok (.getfield 9, 3) := by decide +kernel
theorem d_Parser_leaf_29 : decode prog_6_method_40_code 29 = .ok (.iconst 3, 1) := by decide +kernel
theorem d_Parser_leaf_30 : decode prog_6_method_40_code 30 = .ok (.invokevirtual 129, 3) := by decide +kernel
theorem d_Parser_leaf_33 : decode prog_6_method_40_code 33 = .ok (.istore_n 1, 1) := by decide +kernel
theorem d_Parser_leaf_34 : decode prog_6_method_40_code 34 = .ok (.iload_n 1, 1) := by decide +kernel
theorem d_Parser_leaf_35 : decode prog_6_method_40_code 35 = .ok (.ifCond .lt 15, 3) := by decide +kernel
theorem d_Parser_leaf_38 : decode prog_6_method_40_code 38 = .ok (.aload_n 0, 1) := by decide +kernel
theorem d_Parser_leaf_39 : decode prog_6_method_40_code 39 = .ok (.getfield 15, 3) := by decide +kernel
theorem d_Parser_leaf_42 : decode prog_6_method_40_code 42 = .ok (.iconst 2, 1) := by decide +kernel
theorem d_Parser_leaf_43 : decode prog_6_method_40_code 43 = .ok (.iconst (-1), 1) := by decide +kernel
theorem d_Parser_leaf_44 : decode prog_6_method_40_code 44 = .ok (.iload_n 1, 1) := by decide +kernel
theorem d_Parser_leaf_45 : decode prog_6_method_40_code 45 = .ok (.iconst (-1), 1) := by decide +kernel
theorem d_Parser_leaf_46 : decode prog_6_method_40_code 46 = .ok (.invokevirtual 365, 3) := by decide +kernel
theorem d_Parser_leaf_49 : decode prog_6_method_40_code 49 = .ok (.ireturn, 1) := by decide +kernel
theorem d_Parser_leaf_50 : decode prog_6_method_40_code 50 = .ok (.aload_n 0, 1) := by decide +kernel
theorem d_Parser_leaf_51 : decode prog_6_method_40_code 51 = .ok (.getfield 9, 3) := by decide +kernel
theorem d_Parser_leaf_54 : decode prog_6_method_40_code 54 = .ok (.iconst 4, 1) := by decide +kernel
theorem d_Parser_leaf_55 : decode prog_6_method_40_code 55 = .ok (.invokevirtual 129, 3) := by decide +kernel
theorem d_Parser_leaf_58 : decode prog_6_method_40_code 58 = .ok (.istore_n 1, 1) := by decide +kernel
theorem d_Parser_leaf_59 : decode prog_6_method_40_code 59 = .ok (.iload_n 1, 1) := by decide +kernel
theorem d_Parser_leaf_60 : decode prog_6_method_40_code 60 = .ok (.ifCond .lt 24, 3) := by decide +kernel
theorem d_Parser_leaf_63 : decode prog_6_method_40_code 63 = .ok (.aload_n 0, 1) := by decide +kernel
theorem d_Parser_leaf_64 : decode prog_6_method_40_code 64 = .ok (.getfield 15, 3) := by decide +kernel
theorem d_Parser_leaf_67 : decode prog_6_method_40_code 67 = .ok (.bipush 28, 2) := by decide +kernel
theorem d_Parser_leaf_69 : decode prog_6_method_40_code 69 = .ok (.aload_n 0, 1) := by decide +kernel
theorem d_Parser_leaf_70 : decode prog_6_method_40_code 70 = .ok (.getfield 9, 3) := by decide +kernel
theorem d_Parser_leaf_73 : decode prog_6_method_40_code 73 = .ok (.iload_n 1, 1) := by decide +kernel
theorem d_Parser_leaf_74 : decode prog_6_method_40_code 74 = .ok (.invokevirtual 261, 3) := by decide +kernel
theorem d_Parser_leaf_77 : decode prog_6_method_40_code 77 = .ok (.l2i, 1) := by decide +kernel
theorem d_Parser_leaf_78 : decode prog_6_method_40_code 78 = .ok (.iconst (-1), 1) := by decide +kernel
theorem d_Parser_leaf_79 : decode prog_6_method_40_code 79 = .ok (.iconst (-1), 1) := by decide +kernel
theorem d_Parser_leaf_80 : decode prog_6_method_40_code 80 = .ok (.invokevirtual 365, 3) := by decide +kernel
theorem d_Parser_leaf_83 : decode prog_6_method_40_code 83 = .ok (.ireturn, 1) := by decide +kernel
theorem d_Parser_leaf_84 : decode prog_6_method_40_code 84 = .ok (.aload_n 0, 1) := by decide +kernel
theorem d_Parser_leaf_85 : decode prog_6_method_40_code 85 = .ok (.getfield 9, 3) := by decide +kernel
theorem d_Parser_leaf_88 : decode prog_6_method_40_code 88 = .ok (.ldc 170, 2) := by decide +kernel
theorem d_Parser_leaf_90 : decode prog_6_method_40_code 90 = .ok (.invokevirtual 29, 3) := by decide +kernel
theorem d_Parser_leaf_93 : decode prog_6_method_40_code 93 = .ok (.ifCond .eq 15, 3) := by decide +kernel
theorem d_Parser_leaf_96 : decode prog_6_method_40_code 96 = .ok (.aload_n 0, 1) := by decide +kernel
theorem d_Parser_leaf_97 : decode prog_6_method_40_code 97 = .ok (.getfield 15, 3) := by decide +kernel
theorem d_Parser_leaf_100 : decode prog_6_method_40_code 100 = .ok (.iconst 0, 1) := by decide +kernel
theorem d_Parser_leaf_101 : decode prog_6_method_40_code 101 = .ok (.iconst (-1), 1) := by decide +kernel
theorem d_Parser_leaf_102 : decode prog_6_method_40_code 102 = .ok (.iconst (-1), 1) := by decide +kernel
theorem d_Parser_leaf_103 : decode prog_6_method_40_code 103 = .ok (.iconst (-1), 1) := by decide +kernel
theorem d_Parser_leaf_104 : decode prog_6_method_40_code 104 = .ok (.invokevirtual 365, 3) := by decide +kernel
theorem d_Parser_leaf_107 : decode prog_6_method_40_code 107 = .ok (.ireturn, 1) := by decide +kernel
theorem d_Parser_leaf_108 : decode prog_6_method_40_code 108 = .ok (.aload_n 0, 1) := by decide +kernel
theorem d_Parser_leaf_109 : decode prog_6_method_40_code 109 = .ok (.getfield 9, 3) := by decide +kernel
theorem d_Parser_leaf_112 : decode prog_6_method_40_code 112 = .ok (.ldc_w 375, 3) := by decide +kernel
theorem d_Parser_leaf_115 : decode prog_6_method_40_code 115 = .ok (.invokevirtual 29, 3) := by decide +kernel
theorem d_Parser_leaf_118 : decode prog_6_method_40_code 118 = .ok (.ifCond .eq 15, 3) := by decide +kernel
theorem d_Parser_leaf_121 : decode prog_6_method_40_code 121 = .ok (.aload_n 0, 1) := by decide +kernel
theorem d_Parser_leaf_122 : decode prog_6_method_40_code 122 = .ok (.getfield 15, 3) := by decide +kernel
theorem d_Parser_leaf_125 : decode prog_6_method_40_code 125 = .ok (.iconst 3, 1) := by decide +kernel
theorem d_Parser_leaf_126 : decode prog_6_method_40_code 126 = .ok (.iconst 1, 1) := by decide +kernel
theorem d_Parser_leaf_127 : decode prog_6_method_40_code 127 = .ok (.iconst (-1), 1) := by decide +kernel
theorem d_Parser_leaf_128 : decode prog_6_method_40_code 128 = .ok (.iconst (-1), 1) := by decide +kernel
theorem d_Parser_leaf_129 : decode prog_6_method_40_code 129 = .ok (.invokevirtual 365, 3) := by decide +kernel
theorem d_Parser_leaf_132 : decode prog_6_method_40_code 132 = .ok (.ireturn, 1) := by decide +kernel
theorem d_Parser_leaf_133 : decode prog_6_method_40_code 133 = .ok (.aload_n 0, 1) := by decide +kernel
theorem d_Parser_leaf_134 : decode prog_6_method_40_code 134 = .ok (.getfield 9, 3) := by decide +kernel
theorem d_Parser_leaf_137 : decode prog_6_method_40_code 137 = .ok (.ldc_w 377, 3) := by decide +kernel
theorem d_Parser_leaf_140 : decode prog_6_method_40_code 140 = .ok (.invokevirtual 29, 3) := by decide +kernel
theorem d_Parser_leaf_143 : decode prog_6_method_40_code 143 = .ok (.ifCond .eq 17, 3) := by decide +kernel
theorem d_Parser_leaf_146 : decode prog_6_method_40_code 146 = .ok (.aload_n 0, 1) := by decide +kernel
theorem d_Parser_leaf_147 : decode prog_6_method_40_code 147 = .ok (.getfield 15, 3) := by decide +kernel
theorem d_Parser_leaf_150 : decode prog_6_method_40_code 150 = .ok (.iconst 3, 1) := by decide +kernel
theorem d_Parser_leaf_151 : decode prog_6_method_40_code 151 = .ok (.iconst 0, 1) := by decide +kernel
theorem d_Parser_leaf_152 : decode prog_6_method_40_code 152 = .ok (.iconst (-1), 1) := by decide +kernel
theorem d_Parser_leaf_153 : decode prog_6_method_40_code 153 = .ok (.iconst (-1), 1) := by decide +kernel
theorem d_Parser_leaf_154 : decode prog_6_method_40_code 154 = .ok (.invokevirtual 365, 3) := by decide +kernel
theorem d_Parser_leaf_157 : decode prog_6_method_40_code 157 = .ok (.goto 4, 3) := by decide +kernel
theorem d_Parser_leaf_160 : decode prog_6_method_40_code 160 = .ok (.iconst (-1), 1) := by decide +kernel
theorem d_Parser_leaf_161 : decode prog_6_method_40_code 161 = .ok (.ireturn, 1) := by decide +kernel
theorem d_Parser_levelOf_0 : decode prog_6_method_44_code 0 = .ok (.iload_n 0, 1) := by decide +kernel
theorem d_Parser_levelOf_1 : decode prog_6_method_44_code 1 = .ok (.tableswitch 145 (-1) 27 #[143, 145, 145, 145, 145, 145, 145, 145, 145, 145, 145, 145, 137, 137, 140, 140, 140, 135, 145, 145, 145, 145, 145, 145, 145, 145, 145, 133, 131], 131) := by decide +kernel
theorem d_Parser_levelOf_132 : decode prog_6_method_44_code 132 = .ok (.iconst 1, 1) := by decide +kernel
theorem d_Parser_levelOf_133 : decode prog_6_method_44_code 133 = .ok (.ireturn, 1) := by decide +kernel
theorem d_Parser_levelOf_134 : decode prog_6_method_44_code 134 = .ok (.iconst 2, 1) := by decide +kernel
theorem d_Parser_levelOf_135 : decode prog_6_method_44_code 135 = .ok (.ireturn, 1) := by decide +kernel
theorem d_Parser_levelOf_136 : decode prog_6_method_44_code 136 = .ok (.iconst 5, 1) := by decide +kernel
theorem d_Parser_levelOf_137 : decode prog_6_method_44_code 137 = .ok (.ireturn, 1) := by decide +kernel
theorem d_Parser_levelOf_138 : decode prog_6_method_44_code 138 = .ok (.bipush 6, 2) := by decide +kernel
theorem d_Parser_levelOf_140 : decode prog_6_method_44_code 140 = .ok (.ireturn, 1) := by decide +kernel
theorem d_Parser_levelOf_141 : decode prog_6_method_44_code 141 = .ok (.bipush 7, 2) := by decide +kernel
theorem d_Parser_levelOf_143 : decode prog_6_method_44_code 143 = .ok (.ireturn, 1) := by decide +kernel
theorem d_Parser_levelOf_144 : decode prog_6_method_44_code 144 = .ok (.iconst 0, 1) := by decide +kernel
theorem d_Parser_levelOf_145 : decode prog_6_method_44_code 145 = .ok (.ireturn, 1) := by decide +kernel
theorem d_Parser_levelOf_146 : decode prog_6_method_44_code 146 = .ok (.iconst 4, 1) := by decide +kernel
theorem d_Parser_levelOf_147 : decode prog_6_method_44_code 147 = .ok (.ireturn, 1) := by decide +kernel
theorem d_Parser_limit_0 : decode prog_6_method_28_code 0 = .ok (.aload_n 0, 1) := by decide +kernel
theorem d_Parser_limit_1 : decode prog_6_method_28_code 1 = .ok (.getfield 9, 3) := by decide +kernel
theorem d_Parser_limit_4 : decode prog_6_method_28_code 4 = .ok (.ldc_w 269, 3) := by decide +kernel
theorem d_Parser_limit_7 : decode prog_6_method_28_code 7 = .ok (.invokevirtual 29, 3) := by decide +kernel
theorem d_Parser_limit_10 : decode prog_6_method_28_code 10 = .ok (.ifCond .ne 5, 3) := by decide +kernel
theorem d_Parser_limit_13 : decode prog_6_method_28_code 13 = .ok (.iconst 1, 1) := by decide +kernel
theorem d_Parser_limit_14 : decode prog_6_method_28_code 14 = .ok (.ireturn, 1) := by decide +kernel
theorem d_Parser_limit_15 : decode prog_6_method_28_code 15 = .ok (.aload_n 0, 1) := by decide +kernel
theorem d_Parser_limit_16 : decode prog_6_method_28_code 16 = .ok (.getfield 9, 3) := by decide +kernel
theorem d_Parser_limit_19 : decode prog_6_method_28_code 19 = .ok (.iconst 2, 1) := by decide +kernel
theorem d_Parser_limit_20 : decode prog_6_method_28_code 20 = .ok (.invokevirtual 129, 3) := by decide +kernel
theorem d_Parser_limit_23 : decode prog_6_method_28_code 23 = .ok (.istore_n 1, 1) := by decide +kernel
theorem d_Parser_limit_24 : decode prog_6_method_28_code 24 = .ok (.aload_n 0, 1) := by decide +kernel
theorem d_Parser_limit_25 : decode prog_6_method_28_code 25 = .ok (.getfield 23, 3) := by decide +kernel
theorem d_Parser_limit_28 : decode prog_6_method_28_code 28 = .ok (.aload_n 0, 1) := by decide +kernel
theorem d_Parser_limit_29 : decode prog_6_method_28_code 29 = .ok (.getfield 9, 3) := by decide +kernel
theorem d_Parser_limit_32 : decode prog_6_method_28_code 32 = .ok (.iload_n 1, 1) := by decide +kernel
theorem d_Parser_limit_33 : decode prog_6_method_28_code 33 = .ok (.invokevirtual 261, 3) := by decide +kernel
theorem d_Parser_limit_36 : decode prog_6_method_28_code 36 = .ok (.ldc2_w 271, 3) := by decide +kernel
theorem d_Parser_limit_39 : decode prog_6_method_28_code 39 = .ok (.invokestatic 273, 3) := by decide +kernel
theorem d_Parser_limit_42 : decode prog_6_method_28_code 42 = .ok (.l2i, 1) := by decide +kernel
theorem d_Parser_limit_43 : decode prog_6_method_28_code 43 = .ok (.putfield 279, 3) := by decide +kernel
theorem d_Parser_limit_46 : decode prog_6_method_28_code 46 = .ok (.iload_n 1, 1) := by decide +kernel
theorem d_Parser_limit_47 : decode prog_6_method_28_code 47 = .ok (.ifCond .lt 7, 3) := by decide +kernel
theorem d_Parser_limit_50 : decode prog_6_method_28_code 50 = .ok (.iconst 1, 1) := by decide +kernel
theorem d_Parser_limit_51 : decode prog_6_method_28_code 51 = .ok (.goto 4, 3) := by decide +kernel
theorem d_Parser_limit_54 : decode prog_6_method_28_code 54 = .ok (.iconst 0, 1) := by decide +kernel
theorem d_Parser_limit_55 : decode prog_6_method_28_code 55 = .ok (.ireturn, 1) := by decide +kernel
theorem d_Parser_lock_0 : decode prog_6_method_29_code 0 = .ok (.aload_n 0, 1) := by decide +kernel
theorem d_Parser_lock_1 : decode prog_6_method_29_code 1 = .ok (.getfield 9, 3) := by decide +kernel
theorem d_Parser_lock_4 : decode prog_6_method_29_code 4 = .ok (.ldc_w 281, 3) := by decide +kernel
theorem d_Parser_lock_7 : decode prog_6_method_29_code 7 = .ok (.invokevirtual 29, 3) := by decide +kernel
theorem d_Parser_lock_10 : decode prog_6_method_29_code 10 = .ok (.ifCond .ne 5, 3) := by decide +kernel
theorem d_Parser_lock_13 : decode prog_6_method_29_code 13 = .ok (.iconst 1, 1) := by decide +kernel
theorem d_Parser_lock_14 : decode prog_6_method_29_code 14 = .ok (.ireturn, 1) := by decide +kernel
theorem d_Parser_lock_15 : decode prog_6_method_29_code 15 = .ok (.aload_n 0, 1) := by decide +kernel
theorem d_Parser_lock_16 : decode prog_6_method_29_code 16 = .ok (.getfield 23, 3) := by decide +kernel
theorem d_Parser_lock_19 : decode prog_6_method_29_code 19 = .ok (.aload_n 0, 1) := by decide +kernel
theorem d_Parser_lock_20 : decode prog_6_method_29_code 20 = .ok (.getfield 9, 3) := by decide +kernel
theorem d_Parser_lock_23 : decode prog_6_method_29_code 23 = .ok (.ldc_w 283, 3) := by decide +kernel
theorem d_Parser_lock_26 : decode prog_6_method_29_code 26 = .ok (.invokevirtual 29, 3) := by decide +kernel
theorem d_Parser_lock_29 : decode prog_6_method_29_code 29 = .ok (.ifCond .eq 7, 3) := by decide +kernel
theorem d_Parser_lock_32 : decode prog_6_method_29_code 32 = .ok (.iconst 1, 1) := by decide +kernel
theorem d_Parser_lock_33 : decode prog_6_method_29_code 33 = .ok (.goto 20, 3) := by decide +kernel
theorem d_Parser_lock_36 : decode prog_6_method_29_code 36 = .ok (.aload_n 0, 1) := by decide +kernel
theorem d_Parser_lock_37 : decode prog_6_method_29_code 37 = .ok (.getfield 9, 3) := by decide +kernel
theorem d_Parser_lock_40 : decode prog_6_method_29_code 40 = .ok (.ldc 61, 2) := by decide +kernel
theorem d_Parser_lock_42 : decode prog_6_method_29_code 42 = .ok (.invokevirtual 29, 3) := by decide +kernel
theorem d_Parser_lock_45 : decode prog_6_method_29_code 45 = .ok (.ifCond .eq 7, 3) := by decide +kernel
theorem d_Parser_lock_48 : decode prog_6_method_29_code 48 = .ok (.iconst 2, 1) := by decide +kernel
theorem d_Parser_lock_49 : decode prog_6_method_29_code 49 = .ok (.goto 4, 3) := by decide +kernel
theorem d_Parser_lock_52 : decode prog_6_method_29_code 52 = .ok (.iconst 0, 1) := by decide +kernel
theorem d_Parser_lock_53 : decode prog_6_method_29_code 53 = .ok (.putfield 285, 3) := by decide +kernel
theorem d_Parser_lock_56 : decode prog_6_method_29_code 56 = .ok (.aload_n 0, 1) := by decide +kernel
theorem d_Parser_lock_57 : decode prog_6_method_29_code 57 = .ok (.getfield 23, 3) := by decide +kernel
theorem d_Parser_lock_60 : decode prog_6_method_29_code 60 = .ok (.getfield 285, 3) := by decide +kernel
theorem d_Parser_lock_63 : decode prog_6_method_29_code 63 = .ok (.ifCond .le 7, 3) := by decide +kernel
theorem d_Parser_lock_66 : decode prog_6_method_29_code 66 = .ok (.iconst 1, 1) := by decide +kernel
theorem d_Parser_lock_67 : decode prog_6_method_29_code 67 = .ok (.goto 4, 3) := by decide +kernel
theorem d_Parser_lock_70 : decode prog_6_method_29_code 70 = .ok (.iconst 0, 1) := by decide +kernel
theorem d_Parser_lock_71 : decode prog_6_method_29_code 71 = .ok (.ireturn, 1) := by decide +kernel
theorem d_Parser_lockMode_0 : decode prog_6_method_31_code 0 = .ok (.aload_n 0, 1) := by decide +kernel
theorem d_Parser_lockMode_1 : decode prog_6_method_31_code 1 = .ok (.getfield 9, 3) := by decide +kernel
theorem d_Parser_lockMode_4 : decode prog_6_method_31_code 4 = .ok (.ldc_w 296, 3) := by decide +kernel
theorem d_Parser_lockMode_7 : decode prog_6_method_31_code 7 = .ok (.invokevirtual 29, 3) := by decide +kernel
theorem d_Parser_lockMode_10 : decode prog_6_method_31_code 10 = .ok (.ifCond .eq 49, 3) := by decide +kernel
theorem d_Parser_lockMode_13 : decode prog_6_method_31_code 13 = .ok (.aload_n 0, 1) := by decide +kernel
theorem d_Parser_lockMode_14 : decode prog_6_method_31_code 14 = .ok (.getfield 23, 3) := by decide +kernel
theorem d_Parser_lockMode_17 : decode prog_6_method_31_code 17 = .ok (.aload_n 0, 1) := by decide +kernel
theorem d_Parser_lockMode_18 : decode prog_6_method_31_code 18 = .ok (.getfield 9, 3) := by decide +kernel
theorem d_Parser_lockMode_21 : decode prog_6_method_31_code 21 = .ok (.ldc_w 283, 3) := by decide +kernel
theorem d_Parser_lockMode_24 : decode prog_6_method_31_code 24 = .ok (.invokevirtual 29, 3) := by decide +kernel
theorem d_Parser_lockMode_27 : decode prog_6_method_31_code 27 = .ok (.ifCond .eq 7, 3) := by decide +kernel
theorem d_Parser_lockMode_30 : decode prog_6_method_31_code 30 = .ok (.iconst 1, 1) := by decide +kernel
theorem d_Parser_lockMode_31 : decode prog_6_method_31_code 31 = .ok (.goto 22, 3) := by decide +kernel
theorem d_Parser_lockMode_34 : decode prog_6_method_31_code 34 = .ok (.aload_n 0, 1) := by decide +kernel
theorem d_Parser_lockMode_35 : decode prog_6_method_31_code 35 = .ok (.getfield 9, 3) := by decide +kernel
theorem d_Parser_lockMode_38 : decode prog_6_method_31_code 38 = .ok (.ldc_w 298, 3) := by decide +kernel
theorem d_Parser_lockMode_41 : decode prog_6_method_31_code 41 = .ok (.invokevirtual 29, 3) := by decide +kernel
theorem d_Parser_lockMode_44 : decode prog_6_method_31_code 44 = .ok (.ifCond .eq 8, 3) := by decide +kernel
theorem d_Parser_lockMode_47 : decode prog_6_method_31_code 47 = .ok (.bipush 8, 2) := by decide +kernel
theorem d_Parser_lockMode_49 : decode prog_6_method_31_code 49 = .ok (.goto 4, 3) := by decide +kernel
theorem d_Parser_lockMode_52 : decode prog_6_method_31_code 52 = .ok (.iconst 0, 1) := by decide +kernel
theorem d_Parser_lockMode_53 : decode prog_6_method_31_code 53 = .ok (.putfield 285, 3) := by decide +kernel
theorem d_Parser_lockMode_56 : decode prog_6_method_31_code 56 = .ok (.goto 114, 3) := by decide +kernel
theorem d_Parser_lockMode_59 : decode prog_6_method_31_code 59 = .ok (.aload_n 0, 1) := by decide +kernel
theorem d_Parser_lockMode_60 : decode prog_6_method_31_code 60 = .ok (.getfield 9, 3) := by decide +kernel
theorem d_Parser_lockMode_63 : decode prog_6_method_31_code 63 = .ok (.ldc_w 300, 3) := by decide +kernel
theorem d_Parser_lockMode_66 : decode prog_6_method_31_code 66 = .ok (.invokevirtual 29, 3) := by decide +kernel
theorem d_Parser_lockMode_69 : decode prog_6_method_31_code 69 = .ok (.ifCond .eq 48, 3) := by decide +kernel
theorem d_Parser_lockMode_72 : decode prog_6_method_31_code 72 = .ok (.aload_n 0, 1) := by decide +kernel
theorem d_Parser_lockMode_73 : decode prog_6_method_31_code 73 = .ok (.getfield 23, 3) := by decide +kernel
theorem d_Parser_lockMode_76 : decode prog_6_method_31_code 76 = .ok (.aload_n 0, 1) := by decide +kernel
theorem d_Parser_lockMode_77 : decode prog_6_method_31_code 77 = .ok (.getfield 9, 3) := by decide +kernel
theorem d_Parser_lockMode_80 : decode prog_6_method_31_code 80 = .ok (.ldc_w 283, 3) := by decide +kernel
theorem d_Parser_lockMode_83 : decode prog_6_method_31_code 83 = .ok (.invokevirtual 29, 3) := by decide +kernel
theorem d_Parser_lockMode_86 : decode prog_6_method_31_code 86 = .ok (.ifCond .eq 7, 3) := by decide +kernel
theorem d_Parser_lockMode_89 : decode prog_6_method_31_code 89 = .ok (.iconst 2, 1) := by decide +kernel
theorem d_Parser_lockMode_90 : decode prog_6_method_31_code 90 = .ok (.goto 21, 3) := by decide +kernel
theorem d_Parser_lockMode_93 : decode prog_6_method_31_code 93 = .ok (.aload_n 0, 1) := by decide +kernel
theorem d_Parser_lockMode_94 : decode prog_6_method_31_code 94 = .ok (.getfield 9, 3) := by decide +kernel
theorem d_Parser_lockMode_97 : decode prog_6_method_31_code 97 = .ok (.ldc_w 298, 3) := by decide +kernel
theorem d_Parser_lockMode_100 : decode prog_6_method_31_code 100 = .ok (.invokevirtual 29, 3) := by decide +kernel
theorem d_Parser_lockMode_103 : decode prog_6_method_31_code 103 = .ok (.ifCond .eq 7, 3) := by decide +kernel
theorem d_Parser_lockMode_106 : decode prog_6_method_31_code 106 = .ok (.iconst 3, 1) := by decide +kernel
theorem d_Parser_lockMode_107 : decode prog_6_method_31_code 107 = .ok (.goto 4, 3) := by decide +kernel
theorem d_Parser_lockMode_110 : decode prog_6_method_31_code 110 = .ok (.iconst 0, 1) := by decide +kernel
theorem d_Parser_lockMode_111 : decode prog_6_method_31_code 111 = .ok (.putfield 285, 3) := by decide +kernel
theorem d_Parser_lockMode_114 : decode prog_6_method_31_code 114 = .ok (.goto 56, 3) := by decide +kernel
theorem d_Parser_lockMode_117 : decode prog_6_method_31_code 117 = .ok (.aload_n 0, 1) := by decide +kernel
theorem d_Parser_lockMode_118 : decode prog_6_method_31_code 118 = .ok (.getfield 9, 3) := by decide +kernel
theorem d_Parser_lockMode_121 : decode prog_6_method_31_code 121 = .ok (.ldc_w 283, 3) := by decide +kernel
theorem d_Parser_lockMode_124 : decode prog_6_method_31_code 124 = .ok (.invokevirtual 29, 3) := by decide +kernel
theorem d_Parser_lockMode_127 : decode prog_6_method_31_code 127 = .ok (.ifCond .eq 17, 3) := by decide +kernel
theorem d_Parser_lockMode_130 : decode prog_6_method_31_code 130 = .ok (.aload_n 0, 1) := by decide +kernel
theorem d_Parser_lockMode_131 : decode prog_6_method_31_code 131 = .ok (.getfield 23, 3) := by decide +kernel
theorem d_Parser_lockMode_134 : decode prog_6_method_31_code 134 = .ok (.aload_n 0, 1) := by decide +kernel
theorem d_Parser_lockMode_135 : decode prog_6_method_31_code 135 = .ok (.invokevirtual 302, 3) := by decide +kernel
theorem d_Parser_lockMode_138 : decode prog_6_method_31_code 138 = .ok (.putfield 285, 3) := by decide +kernel
theorem d_Parser_lockMode_141 : decode prog_6_method_31_code 141 = .ok (.goto 29, 3) := by decide +kernel
theorem d_Parser_lockMode_144 : decode prog_6_method_31_code 144 = .ok (.aload_n 0, 1) := by decide +kernel
theorem d_Parser_lockMode_145 : decode prog_6_method_31_code 145 = .ok (.getfield 23, 3) := by decide +kernel
theorem d_Parser_lockMode_148 : decode prog_6_method_31_code 148 = .ok (.aload_n 0, 1) := by decide +kernel
theorem d_Parser_lockMode_149 : decode prog_6_method_31_code 149 = .ok (.getfield 9, 3) := by decide +kernel
theorem d_Parser_lockMode_152 : decode prog_6_method_31_code 152 = .ok (.ldc_w 298, 3) := by decide +kernel
theorem d_Parser_lockMode_155 : decode prog_6_method_31_code 155 = .ok (.invokevirtual 29, 3) := by decide +kernel
theorem d_Parser_lockMode_158 : decode prog_6_method_31_code 158 = .ok (.ifCond .eq 8, 3) := by decide +kernel
theorem d_Parser_lockMode_161 : decode prog_6_method_31_code 161 = .ok (.bipush 7, 2) := by decide +kernel
theorem d_Parser_lockMode_163 : decode prog_6_method_31_code 163 = .ok (.goto 4, 3) := by decide +kernel
theorem d_Parser_lockMode_166 : decode prog_6_method_31_code 166 = .ok (.iconst 0, 1) := by decide +kernel
theorem d_Parser_lockMode_167 : decode prog_6_method_31_code 167 = .ok (.putfield 285, 3) := by decide +kernel
theorem d_Parser_lockMode_170 : decode prog_6_method_31_code 170 = .ok (.aload_n 0, 1) := by decide +kernel
theorem d_Parser_lockMode_171 : decode prog_6_method_31_code 171 = .ok (.getfield 23, 3) := by decide +kernel
theorem d_Parser_lockMode_174 : decode prog_6_method_31_code 174 = .ok (.getfield 285, 3) := by decide +kernel
theorem d_Parser_lockMode_177 : decode prog_6_method_31_code 177 = .ok (.ifCond .le 7, 3) := by decide +kernel
theorem d_Parser_lockMode_180 : decode prog_6_method_31_code 180 = .ok (.iconst 1, 1) := by decide +kernel
theorem d_Parser_lockMode_181 : decode prog_6_method_31_code 181 = .ok (.goto 4, 3) := by decide +kernel
theorem d_Parser_lockMode_184 : decode prog_6_method_31_code 184 = .ok (.iconst 0, 1) := by decide +kernel
theorem d_Parser_lockMode_185 : decode prog_6_method_31_code 185 = .ok (.ireturn, 1) := by decide +kernel
theorem d_Parser_newColumn_0 : decode prog_6_method_11_code 0 = .ok (.aload_n 0, 1) := by decide +kernel
theorem d_Parser_newColumn_1 : decode prog_6_method_11_code 1 = .ok (.getfield 9, 3) := by decide +kernel
theorem d_Parser_newColumn_4 : decode prog_6_method_11_code 4 = .ok (.iconst 1, 1) := by decide +kernel
theorem d_Parser_newColumn_5 : decode prog_6_method_11_code 5 = .ok (.invokevirtual 129, 3) := by decide +kernel
theorem d_Parser_newColumn_8 : decode prog_6_method_11_code 8 = .ok (.istore_n 1, 1) := by decide +kernel
theorem d_Parser_newColumn_9 : decode prog_6_method_11_code 9 = .ok (.aload_n 0, 1) := by decide +kernel
theorem d_Parser_newColumn_10 : decode prog_6_method_11_code 10 = .ok (.invokevirtual 164, 3) := by decide +kernel
theorem d_Parser_newColumn_13 : decode prog_6_method_11_code 13 = .ok (.istore_n 2, 1) := by decide +kernel
theorem d_Parser_newColumn_14 : decode prog_6_method_11_code 14 = .ok (.iload_n 1, 1) := by decide +kernel
theorem d_Parser_newColumn_15 : decode prog_6_method_11_code 15 = .ok (.ifCond .lt 7, 3) := by decide +kernel
theorem d_Parser_newColumn_18 : decode prog_6_method_11_code 18 = .ok (.iload_n 2, 1) := by decide +kernel
theorem d_Parser_newColumn_19 : decode prog_6_method_11_code 19 = .ok (.ifCond .ne 5, 3) := by decide +kernel
theorem d_Parser_newColumn_22 : decode prog_6_method_11_code 22 = .ok (.iconst 0, 1) := by decide +kernel
theorem d_Parser_newColumn_23 : decode prog_6_method_11_code 23 = .ok (.ireturn, 1) := by decide +kernel
theorem d_Parser_newColumn_24 : decode prog_6_method_11_code 24 = .ok (.aload_n 0, 1) := by decide +kernel
theorem d_Parser_newColumn_25 : decode prog_6_method_11_code 25 = .ok (.getfield 9, 3) := by decide +kernel
theorem d_Parser_newColumn_28 : decode prog_6_method_11_code 28 = .ok (.ldc 168, 2) := by decide +kernel
theorem d_Parser_newColumn_30 : decode prog_6_method_11_code 30 = .ok (.invokevirtual 29, 3) := by decide +kernel
theorem d_Parser_newColumn_33 : decode prog_6_method_11_code 33 = .ok (.istore_n 3, 1) := by decide +kernel
theorem d_Parser_newColumn_34 : decode prog_6_method_11_code 34 = .ok (.iload_n 3, 1) := by decide +kernel
theorem d_Parser_newColumn_35 : decode prog_6_method_11_code 35 = .ok (.ifCond .eq 17, 3) := by decide +kernel
theorem d_Parser_newColumn_38 : decode prog_6_method_11_code 38 = .ok (.aload_n 0, 1) := by decide +kernel
theorem d_Parser_newColumn_39 : decode prog_6_method_11_code 39 = .ok (.getfield 9, 3) := by decide +kernel
theorem d_Parser_newColumn_42 : decode prog_6_method_11_code 42 = .ok (.ldc 170, 2) := by decide +kernel
theorem d_Parser_newColumn_44 : decode prog_6_method_11_code 44 = .ok (.invokevirtual 29, 3) := by decide +kernel
theorem d_Parser_newColumn_47 : decode prog_6_method_11_code 47 = .ok (.ifCond .ne 5, 3) := by decide +kernel
theorem d_Parser_newColumn_50 : decode prog_6_method_11_code 50 = .ok (.iconst 0, 1) := by decide +kernel
theorem d_Parser_newColumn_51 : decode prog_6_method_11_code 51 = .ok (.ireturn, 1) := by decide +kernel
theorem d_Parser_newColumn_52 : decode prog_6_method_11_code 52 = .ok (.aload_n 0, 1) := by decide +kernel
theorem d_Parser_newColumn_53 : decode prog_6_method_11_code 53 = .ok (.getfield 9, 3) := by decide +kernel
theorem d_Parser_newColumn_56 : decode prog_6_method_11_code 56 = .ok (.ldc 141, 2) := by decide +kernel
theorem d_Parser_newColumn_58 : decode prog_6_method_11_code 58 = .ok (.invokevirtual 29, 3) := by decide +kernel
theorem d_Parser_newColumn_61 : decode prog_6_method_11_code 61 = .ok (.istore 4, 2) := by decide +kernel
theorem d_Parser_newColumn_63 : decode prog_6_method_11_code 63 = .ok (.aload_n 0, 1) := by decide +kernel
theorem d_Parser_newColumn_64 : decode prog_6_method_11_code 64 = .ok (.getfield 19, 3) := by decide +kernel
theorem d_Parser_newColumn_67 : decode prog_6_method_11_code 67 = .ok (.bipush 13, 2) := by decide +kernel
theorem d_Parser_newColumn_69 : decode prog_6_method_11_code 69 = .ok (.iload_n 1, 1) := by decide +kernel
theorem d_Parser_newColumn_70 : decode prog_6_method_11_code 70 = .ok (.invokevirtual 174, 3) := by decide +kernel
theorem d_Parser_newColumn_73 : decode prog_6_method_11_code 73 = .ok (.aload_n 0, 1) := by decide +kernel
theorem d_Parser_newColumn_74 : decode prog_6_method_11_code 74 = .ok (.getfield 19, 3) := by decide +kernel
theorem d_Parser_newColumn_77 : decode prog_6_method_11_code 77 = .ok (.bipush 7, 2) := by decide +kernel
theorem d_Parser_newColumn_79 : decode prog_6_method_11_code 79 = .ok (.iload_n 2, 1) := by decide +kernel
theorem d_Parser_newColumn_80 : decode prog_6_method_11_code 80 = .ok (.iload_n 3, 1) := by decide +kernel
theorem d_Parser_newColumn_81 : decode prog_6_method_11_code 81 = .ok (.ifCond .eq 8, 3) := by decide +kernel
theorem d_Parser_newColumn_84 : decode prog_6_method_11_code 84 = .ok (.bipush 10, 2) := by decide +kernel
theorem d_Parser_newColumn_86 : decode prog_6_method_11_code 86 = .ok (.goto 4, 3) := by decide +kernel
theorem d_Parser_newColumn_89 : decode prog_6_method_11_code 89 = .ok (.iconst 0, 1) := by decide +kernel
theorem d_Parser_newColumn_90 : decode prog_6_method_11_code 90 = .ok (.iadd, 1) := by decide +kernel
theorem d_Parser_newColumn_91 : decode prog_6_method_11_code 91 = .ok (.iload 4, 2) := by decide +kernel
theorem d_Parser_newColumn_93 : decode prog_6_method_11_code 93 = .ok (.ifCond .eq 8, 3) := by decide +kernel
theorem d_Parser_newColumn_96 : decode prog_6_method_11_code 96 = .ok (.bipush 20, 2) := by decide +kernel
theorem d_Parser_newColumn_98 : decode prog_6_method_11_code 98 = .ok (.goto 4, 3) := by decide +kernel
theorem d_Parser_newColumn_101 : decode prog_6_method_11_code 101 = .ok (.iconst 0, 1) := by decide +kernel
theorem d_Parser_newColumn_102 : decode prog_6_method_11_code 102 = .ok (.iadd, 1) := by decide +kernel
theorem d_Parser_newColumn_103 : decode prog_6_method_11_code 103 = .ok (.invokevirtual 174, 3) := by decide +kernel
theorem d_Parser_newColumn_106 : decode prog_6_method_11_code 106 = .ok (.iconst 1, 1) := by decide +kernel
theorem d_Parser_newColumn_107 : decode prog_6_method_11_code 107 = .ok (.ireturn, 1) := by decide +kernel
theorem d_Parser_operand_0 : decode prog_6_method_37_code 0 = .ok (.iload_n 1, 1) := by decide +kernel
theorem d_Parser_operand_1 : decode prog_6_method_37_code 1 = .ok (.bipush 20, 2) := by decide +kernel
theorem d_Parser_operand_3 : decode prog_6_method_37_code 3 = .ok (.if_icmp .le 5, 3) := by decide +kernel
theorem d_Parser_operand_6 : decode prog_6_method_37_code 6 = .ok (.iconst (-1), 1) := by decide +kernel
theorem d_Parser_operand_7 : decode prog_6_method_37_code 7 = .ok (.ireturn, 1) := by decide +kernel
theorem d_Parser_operand_8 : decode prog_6_method_37_code 8 = .ok (.aload_n 0, 1) := by decide +kernel
theorem d_Parser_operand_9 : decode prog_6_method_37_code 9 = .ok (.getfield 9, 3) := by decide +kernel
theorem d_Parser_operand_12 : decode prog_6_method_37_code 12 = .ok (.ldc_w 354, 3) := by decide +kernel
theorem d_Parser_operand_15 : decode prog_6_method_37_code 15 = .ok (.invokevirtual 29, 3) := by decide +kernel
theorem d_Parser_operand_18 : decode prog_6_method_37_code 18 = .ok (.ifCond .eq 20, 3) := by decide +kernel
theorem d_Parser_operand_21 : decode prog_6_method_37_code 21 = .ok (.aload_n 0, 1) := by decide +kernel
theorem d_Parser_operand_22 : decode prog_6_method_37_code 22 = .ok (.getfield 15, 3) := by decide +kernel
theorem d_Parser_operand_25 : decode prog_6_method_37_code 25 = .ok (.bipush 10, 2) := by decide +kernel
theorem d_Parser_operand_27 : decode prog_6_method_37_code 27 = .ok (.aload_n 0, 1) := by decide +kernel
theorem d_Parser_operand_28 : decode prog_6_method_37_code 28 = .ok (.iload_n 1, 1) := by decide +kernel
theorem d_Parser_operand_29 : decode prog_6_method_37_code 29 = .ok (.iconst 1, 1) := by decide +kernel
theorem d_Parser_operand_30 : decode prog_6_method_37_code 30 = .ok (.iadd, 1) := by decide +kernel
theorem d_Parser_operand_31 : decode prog_6_method_37_code 31 = .ok (.invokevirtual 312, 3) := by decide +kernel
theorem d_Parser_operand_34 : decode prog_6_method_37_code 34 = .ok (.invokevirtual 309, 3) := by decide +kernel
theorem d_Parser_operand_37 : decode prog_6_method_37_code 37 = .ok (.ireturn, 1) := by decide +kernel
theorem d_Parser_operand_38 : decode prog_6_method_37_code 38 = .ok (.aload_n 0, 1) := by decide +kernel
theorem d_Parser_operand_39 : decode prog_6_method_37_code 39 = .ok (.getfield 9, 3) := by decide +kernel
theorem d_Parser_operand_42 : decode prog_6_method_37_code 42 = .ok (.ldc 150, 2) := by decide +kernel
theorem d_Parser_operand_44 : decode prog_6_method_37_code 44 = .ok (.invokevirtual 29, 3) := by decide +kernel
theorem d_Parser_operand_47 : decode prog_6_method_37_code 47 = .ok (.ifCond .eq 30, 3) := by decide +kernel
theorem d_Parser_operand_50 : decode prog_6_method_37_code 50 = .ok (.aload_n 0, 1) := by decide +kernel
theorem d_Parser_operand_51 : decode prog_6_method_37_code 51 = .ok (.iconst 1, 1) := by decide +kernel
theorem d_Parser_operand_52 : decode prog_6_method_37_code 52 = .ok (.iload_n 1, 1) := by decide +kernel
theorem d_Parser_operand_53 : decode prog_6_method_37_code 53 = .ok (.iconst 1, 1) := by decide +kernel
theorem d_Parser_operand_54 : decode prog_6_method_37_code 54 = .ok (.iadd, 1) := by decide +kernel
theorem d_Parser_operand_55 : decode prog_6_method_37_code 55 = .ok (.invokevirtual 192, 3) := by decide +kernel
theorem d_Parser_operand_58 : decode prog_6_method_37_code 58 = .ok (.istore_n 2, 1) := by decide +kernel
theorem d_Parser_operand_59 : decode prog_6_method_37_code 59 = .ok (.aload_n 0, 1) := by decide +kernel
theorem d_Parser_operand_60 : decode prog_6_method_37_code 60 = .ok (.getfield 9, 3) := by decide +kernel
theorem d_Parser_operand_63 : decode prog_6_method_37_code 63 = .ok (.ldc 155, 2) := by decide +kernel
theorem d_Parser_operand_65 : decode prog_6_method_37_code 65 = .ok (.invokevirtual 29, 3) := by decide +kernel
theorem d_Parser_operand_68 : decode prog_6_method_37_code 68 = .ok (.ifCond .eq 7, 3) := by decide +kernel
theorem d_Parser_operand_71 : decode prog_6_method_37_code 71 = .ok (.iload_n 2, 1) := by decide +kernel
theorem d_Parser_operand_72 : decode prog_6_method_37_code 72 = .ok (.goto 4, 3) := by decide +kernel
theorem d_Parser_operand_75 : decode prog_6_method_37_code 75 = .ok (.iconst (-1), 1) := by decide +kernel
theorem d_Parser_operand_76 : decode prog_6_method_37_code 76 = .ok (.ireturn, 1) := by decide +kernel
theorem d_Parser_operand_77 : decode prog_6_method_37_code 77 = .ok (.aload_n 0, 1) := by decide +kernel
theorem d_Parser_operand_78 : decode prog_6_method_37_code 78 = .ok (.getfield 221, 3) := by decide +kernel
theorem d_Parser_operand_81 : decode prog_6_method_37_code 81 = .ok (.ifCond .eq 10, 3) := by decide +kernel
theorem d_Parser_operand_84 : decode prog_6_method_37_code 84 = .ok (.aload_n 0, 1) := by decide +kernel
theorem d_Parser_operand_85 : decode prog_6_method_37_code 85 = .ok (.invokevirtual 356, 3) := by decide +kernel
theorem d_Parser_operand_88 : decode prog_6_method_37_code 88 = .ok (.goto 4, 3) := by decide +kernel
theorem d_Parser_operand_91 : decode prog_6_method_37_code 91 = .ok (.iconst (-1), 1) := by decide +kernel
theorem d_Parser_operand_92 : decode prog_6_method_37_code 92 = .ok (.istore_n 2, 1) := by decide +kernel
theorem d_Parser_operand_93 : decode prog_6_method_37_code 93 = .ok (.iload_n 2, 1) := by decide +kernel
theorem d_Parser_operand_94 : decode prog_6_method_37_code 94 = .ok (.ifCond .lt 10, 3) := by decide +kernel
theorem d_Parser_operand_97 : decode prog_6_method_37_code 97 = .ok (.aload_n 0, 1) := by decide +kernel
theorem d_Parser_operand_98 : decode prog_6_method_37_code 98 = .ok (.iload_n 2, 1) := by decide +kernel
theorem d_Parser_operand_99 : decode prog_6_method_37_code 99 = .ok (.iload_n 1, 1) := by decide +kernel
theorem d_Parser_operand_100 : decode prog_6_method_37_code 100 = .ok (.invokevirtual 359, 3) := by decide +kernel
theorem d_Parser_operand_103 : decode prog_6_method_37_code 103 = .ok (.ireturn, 1) := by decide +kernel
theorem d_Parser_operand_104 : decode prog_6_method_37_code 104 = .ok (.aload_n 0, 1) := by decide +kernel
theorem d_Parser_operand_105 : decode prog_6_method_37_code 105 = .ok (.invokevirtual 362, 3) := by decide +kernel
theorem d_Parser_operand_108 : decode prog_6_method_37_code 108 = .ok (.istore_n 3, 1) := by decide +kernel
theorem d_Parser_operand_109 : decode prog_6_method_37_code 109 = .ok (.iload_n 3, 1) := by decide +kernel
theorem d_Parser_operand_110 : decode prog_6_method_37_code 110 = .ok (.ifCond .ge 10, 3) := by decide +kernel
theorem d_Parser_operand_113 : decode prog_6_method_37_code 113 = .ok (.aload_n 0, 1) := by decide +kernel
theorem d_Parser_operand_114 : decode prog_6_method_37_code 114 = .ok (.invokevirtual 253, 3) := by decide +kernel
theorem d_Parser_operand_117 : decode prog_6_method_37_code 117 = .ok (.goto 4, 3) := by decide +kernel
theorem d_Parser_operand_120 : decode prog_6_method_37_code 120 = .ok (.iload_n 3, 1) := by decide +kernel
theorem d_Parser_operand_121 : decode prog_6_method_37_code 121 = .ok (.ireturn, 1) := by decide +kernel
theorem d_Parser_order_0 : decode prog_6_method_27_code 0 = .ok (.aload_n 0, 1) := by decide +kernel
theorem d_Parser_order_1 : decode prog_6_method_27_code 1 = .ok (.getfield 9, 3) := by decide +kernel
theorem d_Parser_order_4 : decode prog_6_method_27_code 4 = .ok (.iconst 2, 1) := by decide +kernel
theorem d_Parser_order_5 : decode prog_6_method_27_code 5 = .ok (.invokevirtual 129, 3) := by decide +kernel
theorem d_Parser_order_8 : decode prog_6_method_27_code 8 = .ok (.istore_n 1, 1) := by decide +kernel
theorem d_Parser_order_9 : decode prog_6_method_27_code 9 = .ok (.iload_n 1, 1) := by decide +kernel
theorem d_Parser_order_10 : decode prog_6_method_27_code 10 = .ok (.ifCond .ge 5, 3) := by decide +kernel
theorem d_Parser_order_13 : decode prog_6_method_27_code 13 = .ok (.iconst 0, 1) := by decide +kernel
theorem d_Parser_order_14 : decode prog_6_method_27_code 14 = .ok (.ireturn, 1) := by decide +kernel
theorem d_Parser_order_15 : decode prog_6_method_27_code 15 = .ok (.aload_n 0, 1) := by decide +kernel
theorem d_Parser_order_16 : decode prog_6_method_27_code 16 = .ok (.getfield 9, 3) := by decide +kernel
theorem d_Parser_order_19 : decode prog_6_method_27_code 19 = .ok (.iload_n 1, 1) := by decide +kernel
theorem d_Parser_order_20 : decode prog_6_method_27_code 20 = .ok (.invokevirtual 261, 3) := by decide +kernel
theorem d_Parser_order_23 : decode prog_6_method_27_code 23 = .ok (.lstore_n 2, 1) := by decide +kernel
theorem d_Parser_order_24 : decode prog_6_method_27_code 24 = .ok (.lload_n 2, 1) := by decide +kernel
theorem d_Parser_order_25 : decode prog_6_method_27_code 25 = .ok (.lconst 1, 1) := by decide +kernel
theorem d_Parser_order_26 : decode prog_6_method_27_code 26 = .ok (.lcmp, 1) := by decide +kernel
theorem d_Parser_order_27 : decode prog_6_method_27_code 27 = .ok (.ifCond .lt 11, 3) := by decide +kernel
theorem d_Parser_order_30 : decode prog_6_method_27_code 30 = .ok (.lload_n 2, 1) := by decide +kernel
theorem d_Parser_order_31 : decode prog_6_method_27_code 31 = .ok (.ldc2_w 265, 3) := by decide +kernel
theorem d_Parser_order_34 : decode prog_6_method_27_code 34 = .ok (.lcmp, 1) := by decide +kernel
theorem d_Parser_order_35 : decode prog_6_method_27_code 35 = .ok (.ifCond .le 8, 3) := by decide +kernel
theorem d_Parser_order_38 : decode prog_6_method_27_code 38 = .ok (.bipush 8, 2) := by decide +kernel
theorem d_Parser_order_40 : decode prog_6_method_27_code 40 = .ok (.goto 7, 3) := by decide +kernel
theorem d_Parser_order_43 : decode prog_6_method_27_code 43 = .ok (.lload_n 2, 1) := by decide +kernel
theorem d_Parser_order_44 : decode prog_6_method_27_code 44 = .ok (.l2i, 1) := by decide +kernel
theorem d_Parser_order_45 : decode prog_6_method_27_code 45 = .ok (.iconst 1, 1) := by decide +kernel
theorem d_Parser_order_46 : decode prog_6_method_27_code 46 = .ok (.isub, 1) := by decide +kernel
theorem d_Parser_order_47 : decode prog_6_method_27_code 47 = .ok (.istore 4, 2) := by decide +kernel
theorem d_Parser_order_49 : decode prog_6_method_27_code 49 = .ok (.aload_n 0, 1) := by decide +kernel
theorem d_Parser_order_50 : decode prog_6_method_27_code 50 = .ok (.getfield 19, 3) := by decide +kernel
theorem d_Parser_order_53 : decode prog_6_method_27_code 53 = .ok (.iconst 2, 1) := by decide +kernel
theorem d_Parser_order_54 : decode prog_6_method_27_code 54 = .ok (.aload_n 0, 1) := by decide +kernel
theorem d_Parser_order_55 : decode prog_6_method_27_code 55 = .ok (.getfield 9, 3) := by decide +kernel
theorem d_Parser_order_58 : decode prog_6_method_27_code 58 = .ok (.ldc_w 267, 3) := by decide +kernel
theorem d_Parser_order_61 : decode prog_6_method_27_code 61 = .ok (.invokevirtual 29, 3) := by decide +kernel
theorem d_Parser_order_64 : decode prog_6_method_27_code 64 = .ok (.ifCond .eq 10, 3) := by decide +kernel
theorem d_Parser_order_67 : decode prog_6_method_27_code 67 = .ok (.iconst (-1), 1) := by decide +kernel
theorem d_Parser_order_68 : decode prog_6_method_27_code 68 = .ok (.iload 4, 2) := by decide +kernel
theorem d_Parser_order_70 : decode prog_6_method_27_code 70 = .ok (.isub, 1) := by decide +kernel
theorem d_Parser_order_71 : decode prog_6_method_27_code 71 = .ok (.goto 5, 3) := by decide +kernel
theorem d_Parser_order_74 : decode prog_6_method_27_code 74 = .ok (.iload 4, 2) := by decide +kernel
theorem d_Parser_order_76 : decode prog_6_method_27_code 76 = .ok (.invokevirtual 174, 3) := by decide +kernel
theorem d_Parser_order_79 : decode prog_6_method_27_code 79 = .ok (.iconst 1, 1) := by decide +kernel
theorem d_Parser_order_80 : decode prog_6_method_27_code 80 = .ok (.ireturn, 1) := by decide +kernel
theorem d_Parser_orders_0 : decode prog_6_method_26_code 0 = .ok (.aload_n 0, 1) := by decide +kernel
theorem d_Parser_orders_1 : decode prog_6_method_26_code 1 = .ok (.getfield 9, 3) := by decide +kernel
theorem d_Parser_orders_4 : decode prog_6_method_26_code 4 = .ok (.ldc_w 256, 3) := by decide +kernel
theorem d_Parser_orders_7 : decode prog_6_method_26_code 7 = .ok (.invokevirtual 29, 3) := by decide +kernel
theorem d_Parser_orders_10 : decode prog_6_method_26_code 10 = .ok (.ifCond .ne 5, 3) := by decide +kernel
theorem d_Parser_orders_13 : decode prog_6_method_26_code 13 = .ok (.iconst 1, 1) := by decide +kernel
theorem d_Parser_orders_14 : decode prog_6_method_26_code 14 = .ok (.ireturn, 1) := by decide +kernel
theorem d_Parser_orders_15 : decode prog_6_method_26_code 15 = .ok (.aload_n 0, 1) := by decide +kernel
theorem d_Parser_orders_16 : decode prog_6_method_26_code 16 = .ok (.getfield 9, 3) := by decide +kernel
theorem d_Parser_orders_19 : decode prog_6_method_26_code 19 = .ok (.ldc 248, 2) := by decide +kernel
theorem d_Parser_orders_21 : decode prog_6_method_26_code 21 = .ok (.invokevirtual 29, 3) := by decide +kernel
theorem d_Parser_orders_24 : decode prog_6_method_26_code 24 = .ok (.ifCond .eq 14, 3) := by decide +kernel
theorem d_Parser_orders_27 : decode prog_6_method_26_code 27 = .ok (.aload_n 0, 1) := by decide +kernel
theorem d_Parser_orders_28 : decode prog_6_method_26_code 28 = .ok (.invokevirtual 258, 3) := by decide +kernel
theorem d_Parser_orders_31 : decode prog_6_method_26_code 31 = .ok (.ifCond .eq 7, 3) := by decide +kernel
theorem d_Parser_orders_34 : decode prog_6_method_26_code 34 = .ok (.iconst 1, 1) := by decide +kernel
theorem d_Parser_orders_35 : decode prog_6_method_26_code 35 = .ok (.goto 4, 3) := by decide +kernel
theorem d_Parser_orders_38 : decode prog_6_method_26_code 38 = .ok (.iconst 0, 1) := by decide +kernel
theorem d_Parser_orders_39 : decode prog_6_method_26_code 39 = .ok (.istore_n 1, 1) := by decide +kernel
theorem d_Parser_orders_40 : decode prog_6_method_26_code 40 = .ok (.iconst 0, 1) := by decide +kernel
theorem d_Parser_orders_41 : decode prog_6_method_26_code 41 = .ok (.istore_n 2, 1) := by decide +kernel
theorem d_Parser_orders_42 : decode prog_6_method_26_code 42 = .ok (.iload_n 2, 1) := by decide +kernel
theorem d_Parser_orders_43 : decode prog_6_method_26_code 43 = .ok (.sipush 2000, 3) := by decide +kernel
theorem d_Parser_orders_46 : decode prog_6_method_26_code 46 = .ok (.if_icmp .ge 30, 3) := by decide +kernel
theorem d_Parser_orders_49 : decode prog_6_method_26_code 49 = .ok (.iload_n 1, 1) := by decide +kernel
theorem d_Parser_orders_50 : decode prog_6_method_26_code 50 = .ok (.ifCond .eq 26, 3) := by decide +kernel
theorem d_Parser_orders_53 : decode prog_6_method_26_code 53 = .ok (.aload_n 0, 1) := by decide +kernel
theorem d_Parser_orders_54 : decode prog_6_method_26_code 54 = .ok (.getfield 9, 3) := by decide +kernel
theorem d_Parser_orders_57 : decode prog_6_method_26_code 57 = .ok (.ldc 162, 2) := by decide +kernel
theorem d_Parser_orders_59 : decode prog_6_method_26_code 59 = .ok (.invokevirtual 29, 3) := by decide +kernel
theorem d_Parser_orders_62 : decode prog_6_method_26_code 62 = .ok (.ifCond .eq 14, 3) := by decide +kernel
theorem d_Parser_orders_65 : decode prog_6_method_26_code 65 = .ok (.aload_n 0, 1) := by decide +kernel
theorem d_Parser_orders_66 : decode prog_6_method_26_code 66 = .ok (.invokevirtual 258, 3) := by decide +kernel
theorem d_Parser_orders_69 : decode prog_6_method_26_code 69 = .ok (.istore_n 1, 1) := by decide +kernel
theorem d_Parser_orders_70 : decode prog_6_method_26_code 70 = .ok (.iinc 2 1, 3) := by decide +kernel
theorem d_Parser_orders_73 : decode prog_6_method_26_code 73 = .ok (.goto (-31), 3) := by decide +kernel
theorem d_Parser_orders_76 : decode prog_6_method_26_code 76 = .ok (.iload_n 1, 1) := by decide +kernel
theorem d_Parser_orders_77 : decode prog_6_method_26_code 77 = .ok (.ireturn, 1) := by decide +kernel
theorem d_Parser_otherDeed_0 : decode prog_6_method_5_code 0 = .ok (.aload_n 0, 1) := by decide +kernel
theorem d_Parser_otherDeed_1 : decode prog_6_method_5_code 1 = .ok (.getfield 9, 3) := by decide +kernel
theorem d_Parser_otherDeed_4 : decode prog_6_method_5_code 4 = .ok (.ldc 98, 2) := by decide +kernel
theorem d_Parser_otherDeed_6 : decode prog_6_method_5_code 6 = .ok (.invokevirtual 29, 3) := by decide +kernel
theorem d_Parser_otherDeed_9 : decode prog_6_method_5_code 9 = .ok (.ifCond .eq 36, 3) := by decide +kernel
theorem d_Parser_otherDeed_12 : decode prog_6_method_5_code 12 = .ok (.aload_n 0, 1) := by decide +kernel
theorem d_Parser_otherDeed_13 : decode prog_6_method_5_code 13 = .ok (.getfield 9, 3) := by decide +kernel
theorem d_Parser_otherDeed_16 : decode prog_6_method_5_code 16 = .ok (.ldc 100, 2) := by decide +kernel
theorem d_Parser_otherDeed_18 : decode prog_6_method_5_code 18 = .ok (.invokevirtual 29, 3) := by decide +kernel
theorem d_Parser_otherDeed_21 : decode prog_6_method_5_code 21 = .ok (.ifCond .eq 22, 3) := by decide +kernel
theorem d_Parser_otherDeed_24 : decode prog_6_method_5_code 24 = .ok (.aload_n 0, 1) := by decide +kernel
theorem d_Parser_otherDeed_25 : decode prog_6_method_5_code 25 = .ok (.invokevirtual 55, 3) := by decide +kernel
theorem d_Parser_otherDeed_28 : decode prog_6_method_5_code 28 = .ok (.ifCond .eq 15, 3) := by decide +kernel
theorem d_Parser_otherDeed_31 : decode prog_6_method_5_code 31 = .ok (.aload_n 0, 1) := by decide +kernel
theorem d_Parser_otherDeed_32 : decode prog_6_method_5_code 32 = .ok (.iconst 3, 1) := by decide +kernel
theorem d_Parser_otherDeed_33 : decode prog_6_method_5_code 33 = .ok (.invokevirtual 102, 3) := by decide +kernel
theorem d_Parser_otherDeed_36 : decode prog_6_method_5_code 36 = .ok (.ifCond .eq 7, 3) := by decide +kernel
theorem d_Parser_otherDeed_39 : decode prog_6_method_5_code 39 = .ok (.iconst 1, 1) := by decide +kernel
theorem d_Parser_otherDeed_40 : decode prog_6_method_5_code 40 = .ok (.goto 4, 3) := by decide +kernel
theorem d_Parser_otherDeed_43 : decode prog_6_method_5_code 43 = .ok (.iconst 0, 1) := by decide +kernel
theorem d_Parser_otherDeed_44 : decode prog_6_method_5_code 44 = .ok (.ireturn, 1) := by decide +kernel
theorem d_Parser_otherDeed_45 : decode prog_6_method_5_code 45 = .ok (.aload_n 0, 1) := by decide +kernel
theorem d_Parser_otherDeed_46 : decode prog_6_method_5_code 46 = .ok (.getfield 9, 3) := by decide +kernel
theorem d_Parser_otherDeed_49 : decode prog_6_method_5_code 49 = .ok (.ldc 105, 2) := by decide +kernel
theorem d_Parser_otherDeed_51 : decode prog_6_method_5_code 51 = .ok (.invokevirtual 29, 3) := by decide +kernel
theorem d_Parser_otherDeed_54 : decode prog_6_method_5_code 54 = .ok (.ifCond .eq 8, 3) := by decide +kernel
theorem d_Parser_otherDeed_57 : decode prog_6_method_5_code 57 = .ok (.aload_n 0, 1) := by decide +kernel
theorem d_Parser_otherDeed_58 : decode prog_6_method_5_code 58 = .ok (.invokevirtual 107, 3) := by decide +kernel
theorem d_Parser_otherDeed_61 : decode prog_6_method_5_code 61 = .ok (.ireturn, 1) := by decide +kernel
theorem d_Parser_otherDeed_62 : decode prog_6_method_5_code 62 = .ok (.aload_n 0, 1) := by decide +kernel
theorem d_Parser_otherDeed_63 : decode prog_6_method_5_code 63 = .ok (.getfield 9, 3) := by decide +kernel
theorem d_Parser_otherDeed_66 : decode prog_6_method_5_code 66 = .ok (.ldc 110, 2) := by decide +kernel
theorem d_Parser_otherDeed_68 : decode prog_6_method_5_code 68 = .ok (.invokevirtual 29, 3) := by decide +kernel
theorem d_Parser_otherDeed_71 : decode prog_6_method_5_code 71 = .ok (.ifCond .eq 10, 3) := by decide +kernel
theorem d_Parser_otherDeed_74 : decode prog_6_method_5_code 74 = .ok (.aload_n 0, 1) := by decide +kernel
theorem d_Parser_otherDeed_75 : decode prog_6_method_5_code 75 = .ok (.bipush 10, 2) := by decide +kernel
theorem d_Parser_otherDeed_77 : decode prog_6_method_5_code 77 = .ok (.invokevirtual 102, 3) := by decide +kernel
theorem d_Parser_otherDeed_80 : decode prog_6_method_5_code 80 = .ok (.ireturn, 1) := by decide +kernel
theorem d_Parser_otherDeed_81 : decode prog_6_method_5_code 81 = .ok (.aload_n 0, 1) := by decide +kernel
theorem d_Parser_otherDeed_82 : decode prog_6_method_5_code 82 = .ok (.getfield 9, 3) := by decide +kernel
theorem d_Parser_otherDeed_85 : decode prog_6_method_5_code 85 = .ok (.ldc 112, 2) := by decide +kernel
theorem d_Parser_otherDeed_87 : decode prog_6_method_5_code 87 = .ok (.invokevirtual 29, 3) := by decide +kernel
theorem d_Parser_otherDeed_90 : decode prog_6_method_5_code 90 = .ok (.ifCond .eq 46, 3) := by decide +kernel
theorem d_Parser_otherDeed_93 : decode prog_6_method_5_code 93 = .ok (.aload_n 0, 1) := by decide +kernel
theorem d_Parser_otherDeed_94 : decode prog_6_method_5_code 94 = .ok (.getfield 9, 3) := by decide +kernel
theorem d_Parser_otherDeed_97 : decode prog_6_method_5_code 97 = .ok (.ldc 114, 2) := by decide +kernel
theorem d_Parser_otherDeed_99 : decode prog_6_method_5_code 99 = .ok (.invokevirtual 29, 3) := by decide +kernel
theorem d_Parser_otherDeed_102 : decode prog_6_method_5_code 102 = .ok (.ifCond .eq 27, 3) := by decide +kernel
theorem d_Parser_otherDeed_105 : decode prog_6_method_5_code 105 = .ok (.aload_n 0, 1) := by decide +kernel
theorem d_Parser_otherDeed_106 : decode prog_6_method_5_code 106 = .ok (.invokevirtual 39, 3) := by decide +kernel
theorem d_Parser_otherDeed_109 : decode prog_6_method_5_code 109 = .ok (.ifCond .eq 16, 3) := by decide +kernel
theorem d_Parser_otherDeed_112 : decode prog_6_method_5_code 112 = .ok (.aload_n 0, 1) := by decide +kernel
theorem d_Parser_otherDeed_113 : decode prog_6_method_5_code 113 = .ok (.bipush 13, 2) := by decide +kernel
theorem d_Parser_otherDeed_115 : decode prog_6_method_5_code 115 = .ok (.invokevirtual 102, 3) := by decide +kernel
theorem d_Parser_otherDeed_118 : decode prog_6_method_5_code 118 = .ok (.ifCond .eq 7, 3) := by decide +kernel
theorem d_Parser_otherDeed_121 : decode prog_6_method_5_code 121 = .ok (.iconst 1, 1) := by decide +kernel
theorem d_Parser_otherDeed_122 : decode prog_6_method_5_code 122 = .ok (.goto 13, 3) := by decide +kernel
theorem d_Parser_otherDeed_125 : decode prog_6_method_5_code 125 = .ok (.iconst 0, 1) := by decide +kernel
theorem d_Parser_otherDeed_126 : decode prog_6_method_5_code 126 = .ok (.goto 9, 3) := by decide +kernel
theorem d_Parser_otherDeed_129 : decode prog_6_method_5_code 129 = .ok (.aload_n 0, 1) := by decide +kernel
theorem d_Parser_otherDeed_130 : decode prog_6_method_5_code 130 = .ok (.bipush 11, 2) := by decide +kernel
theorem d_Parser_otherDeed_132 : decode prog_6_method_5_code 132 = .ok (.invokevirtual 102, 3) := by decide +kernel
theorem d_Parser_otherDeed_135 : decode prog_6_method_5_code 135 = .ok (.ireturn, 1) := by decide +kernel
theorem d_Parser_otherDeed_136 : decode prog_6_method_5_code 136 = .ok (.aload_n 0, 1) := by decide +kernel
theorem d_Parser_otherDeed_137 : decode prog_6_method_5_code 137 = .ok (.getfield 9, 3) := by decide +kernel
theorem d_Parser_otherDeed_140 : decode prog_6_method_5_code 140 = .ok (.ldc 116, 2) := by decide +kernel
theorem d_Parser_otherDeed_142 : decode prog_6_method_5_code 142 = .ok (.invokevirtual 29, 3) := by decide +kernel
theorem d_Parser_otherDeed_145 : decode prog_6_method_5_code 145 = .ok (.ifCond .eq 25, 3) := by decide +kernel
theorem d_Parser_otherDeed_148 : decode prog_6_method_5_code 148 = .ok (.aload_n 0, 1) := by decide +kernel
theorem d_Parser_otherDeed_149 : decode prog_6_method_5_code 149 = .ok (.invokevirtual 39, 3) := by decide +kernel
theorem d_Parser_otherDeed_152 : decode prog_6_method_5_code 152 = .ok (.ifCond .eq 16, 3) := by decide +kernel
theorem d_Parser_otherDeed_155 : decode prog_6_method_5_code 155 = .ok (.aload_n 0, 1) := by decide +kernel
theorem d_Parser_otherDeed_156 : decode prog_6_method_5_code 156 = .ok (.bipush 12, 2) := by decide +kernel
theorem d_Parser_otherDeed_158 : decode prog_6_method_5_code 158 = .ok (.invokevirtual 102, 3) := by decide +kernel
theorem d_Parser_otherDeed_161 : decode prog_6_method_5_code 161 = .ok (.ifCond .eq 7, 3) := by decide +kernel
theorem d_Parser_otherDeed_164 : decode prog_6_method_5_code 164 = .ok (.iconst 1, 1) := by decide +kernel
theorem d_Parser_otherDeed_165 : decode prog_6_method_5_code 165 = .ok (.goto 4, 3) := by decide +kernel
theorem d_Parser_otherDeed_168 : decode prog_6_method_5_code 168 = .ok (.iconst 0, 1) := by decide +kernel
theorem d_Parser_otherDeed_169 : decode prog_6_method_5_code 169 = .ok (.ireturn, 1) := by decide +kernel
theorem d_Parser_otherDeed_170 : decode prog_6_method_5_code 170 = .ok (.aload_n 0, 1) := by decide +kernel
theorem d_Parser_otherDeed_171 : decode prog_6_method_5_code 171 = .ok (.getfield 9, 3) := by decide +kernel
theorem d_Parser_otherDeed_174 : decode prog_6_method_5_code 174 = .ok (.ldc 118, 2) := by decide +kernel
theorem d_Parser_otherDeed_176 : decode prog_6_method_5_code 176 = .ok (.invokevirtual 29, 3) := by decide +kernel
theorem d_Parser_otherDeed_179 : decode prog_6_method_5_code 179 = .ok (.ifCond .eq 25, 3) := by decide +kernel
theorem d_Parser_otherDeed_182 : decode prog_6_method_5_code 182 = .ok (.aload_n 0, 1) := by decide +kernel
theorem d_Parser_otherDeed_183 : decode prog_6_method_5_code 183 = .ok (.invokevirtual 39, 3) := by decide +kernel
theorem d_Parser_otherDeed_186 : decode prog_6_method_5_code 186 = .ok (.ifCond .eq 16, 3) := by decide +kernel
theorem d_Parser_otherDeed_189 : decode prog_6_method_5_code 189 = .ok (.aload_n 0, 1) := by decide +kernel
theorem d_Parser_otherDeed_190 : decode prog_6_method_5_code 190 = .ok (.bipush 14, 2) := by decide +kernel
theorem d_Parser_otherDeed_192 : decode prog_6_method_5_code 192 = .ok (.invokevirtual 102, 3) := by decide +kernel
theorem d_Parser_otherDeed_195 : decode prog_6_method_5_code 195 = .ok (.ifCond .eq 7, 3) := by decide +kernel
theorem d_Parser_otherDeed_198 : decode prog_6_method_5_code 198 = .ok (.iconst 1, 1) := by decide +kernel
theorem d_Parser_otherDeed_199 : decode prog_6_method_5_code 199 = .ok (.goto 4, 3) := by decide +kernel
theorem d_Parser_otherDeed_202 : decode prog_6_method_5_code 202 = .ok (.iconst 0, 1) := by decide +kernel
theorem d_Parser_otherDeed_203 : decode prog_6_method_5_code 203 = .ok (.ireturn, 1) := by decide +kernel
theorem d_Parser_otherDeed_204 : decode prog_6_method_5_code 204 = .ok (.aload_n 0, 1) := by decide +kernel
theorem d_Parser_otherDeed_205 : decode prog_6_method_5_code 205 = .ok (.getfield 9, 3) := by decide +kernel
theorem d_Parser_otherDeed_208 : decode prog_6_method_5_code 208 = .ok (.ldc 120, 2) := by decide +kernel
theorem d_Parser_otherDeed_210 : decode prog_6_method_5_code 210 = .ok (.invokevirtual 29, 3) := by decide +kernel
theorem d_Parser_otherDeed_213 : decode prog_6_method_5_code 213 = .ok (.ifCond .eq 32, 3) := by decide +kernel
theorem d_Parser_otherDeed_216 : decode prog_6_method_5_code 216 = .ok (.aload_n 0, 1) := by decide +kernel
theorem d_Parser_otherDeed_217 : decode prog_6_method_5_code 217 = .ok (.invokevirtual 55, 3) := by decide +kernel
theorem d_Parser_otherDeed_220 : decode prog_6_method_5_code 220 = .ok (.ifCond .eq 23, 3) := by decide +kernel
theorem d_Parser_otherDeed_223 : decode prog_6_method_5_code 223 = .ok (.aload_n 0, 1) := by decide +kernel
theorem d_Parser_otherDeed_224 : decode prog_6_method_5_code 224 = .ok (.invokevirtual 122, 3) := by decide +kernel
theorem d_Parser_otherDeed_227 : decode prog_6_method_5_code 227 = .ok (.ifCond .eq 16, 3) := by decide +kernel
theorem d_Parser_otherDeed_230 : decode prog_6_method_5_code 230 = .ok (.aload_n 0, 1) := by decide +kernel
theorem d_Parser_otherDeed_231 : decode prog_6_method_5_code 231 = .ok (.bipush 15, 2) := by decide +kernel
theorem d_Parser_otherDeed_233 : decode prog_6_method_5_code 233 = .ok (.invokevirtual 102, 3) := by decide +kernel
theorem d_Parser_otherDeed_236 : decode prog_6_method_5_code 236 = .ok (.ifCond .eq 7, 3) := by decide +kernel
theorem d_Parser_otherDeed_239 : decode prog_6_method_5_code 239 = .ok (.iconst 1, 1) := by decide +kernel
theorem d_Parser_otherDeed_240 : decode prog_6_method_5_code 240 = .ok (.goto 4, 3) := by decide +kernel
theorem d_Parser_otherDeed_243 : decode prog_6_method_5_code 243 = .ok (.iconst 0, 1) := by decide +kernel
theorem d_Parser_otherDeed_244 : decode prog_6_method_5_code 244 = .ok (.ireturn, 1) := by decide +kernel
theorem d_Parser_otherDeed_245 : decode prog_6_method_5_code 245 = .ok (.aload_n 0, 1) := by decide +kernel
theorem d_Parser_otherDeed_246 : decode prog_6_method_5_code 246 = .ok (.getfield 9, 3) := by decide +kernel
theorem d_Parser_otherDeed_249 : decode prog_6_method_5_code 249 = .ok (.ldc 125, 2) := by decide +kernel
theorem d_Parser_otherDeed_251 : decode prog_6_method_5_code 251 = .ok (.invokevirtual 29, 3) := by decide +kernel
theorem d_Parser_otherDeed_254 : decode prog_6_method_5_code 254 = .ok (.ifCond .eq 25, 3) := by decide +kernel
theorem d_Parser_otherDeed_257 : decode prog_6_method_5_code 257 = .ok (.aload_n 0, 1) := by decide +kernel
theorem d_Parser_otherDeed_258 : decode prog_6_method_5_code 258 = .ok (.invokevirtual 55, 3) := by decide +kernel
theorem d_Parser_otherDeed_261 : decode prog_6_method_5_code 261 = .ok (.ifCond .eq 16, 3) := by decide +kernel
theorem d_Parser_otherDeed_264 : decode prog_6_method_5_code 264 = .ok (.aload_n 0, 1) := by decide +kernel
theorem d_Parser_otherDeed_265 : decode prog_6_method_5_code 265 = .ok (.bipush 18, 2) := by decide +kernel
theorem d_Parser_otherDeed_267 : decode prog_6_method_5_code 267 = .ok (.invokevirtual 102, 3) := by decide +kernel
theorem d_Parser_otherDeed_270 : decode prog_6_method_5_code 270 = .ok (.ifCond .eq 7, 3) := by decide +kernel
theorem d_Parser_otherDeed_273 : decode prog_6_method_5_code 273 = .ok (.iconst 1, 1) := by decide +kernel
theorem d_Parser_otherDeed_274 : decode prog_6_method_5_code 274 = .ok (.goto 4, 3) := by decide +kernel
theorem d_Parser_otherDeed_277 : decode prog_6_method_5_code 277 = .ok (.iconst 0, 1) := by decide +kernel
theorem d_Parser_otherDeed_278 : decode prog_6_method_5_code 278 = .ok (.ireturn, 1) := by decide +kernel
theorem d_Parser_otherDeed_279 : decode prog_6_method_5_code 279 = .ok (.aload_n 0, 1) := by decide +kernel
theorem d_Parser_otherDeed_280 : decode prog_6_method_5_code 280 = .ok (.getfield 9, 3) := by decide +kernel
theorem d_Parser_otherDeed_283 : decode prog_6_method_5_code 283 = .ok (.ldc 127, 2) := by decide +kernel
theorem d_Parser_otherDeed_285 : decode prog_6_method_5_code 285 = .ok (.invokevirtual 29, 3) := by decide +kernel
theorem d_Parser_otherDeed_288 : decode prog_6_method_5_code 288 = .ok (.ifCond .eq 16, 3) := by decide +kernel
theorem d_Parser_otherDeed_291 : decode prog_6_method_5_code 291 = .ok (.aload_n 0, 1) := by decide +kernel
theorem d_Parser_otherDeed_292 : decode prog_6_method_5_code 292 = .ok (.bipush 19, 2) := by decide +kernel
theorem d_Parser_otherDeed_294 : decode prog_6_method_5_code 294 = .ok (.invokevirtual 102, 3) := by decide +kernel
theorem d_Parser_otherDeed_297 : decode prog_6_method_5_code 297 = .ok (.ifCond .eq 7, 3) := by decide +kernel
theorem d_Parser_otherDeed_300 : decode prog_6_method_5_code 300 = .ok (.iconst 1, 1) := by decide +kernel
theorem d_Parser_otherDeed_301 : decode prog_6_method_5_code 301 = .ok (.goto 4, 3) := by decide +kernel
theorem d_Parser_otherDeed_304 : decode prog_6_method_5_code 304 = .ok (.iconst 0, 1) := by decide +kernel
theorem d_Parser_otherDeed_305 : decode prog_6_method_5_code 305 = .ok (.ireturn, 1) := by decide +kernel
theorem d_Parser_ownTable_0 : decode prog_6_method_19_code 0 = .ok (.aload_n 0, 1) := by decide +kernel
theorem d_Parser_ownTable_1 : decode prog_6_method_19_code 1 = .ok (.getfield 19, 3) := by decide +kernel
theorem d_Parser_ownTable_4 : decode prog_6_method_19_code 4 = .ok (.bipush 10, 2) := by decide +kernel
theorem d_Parser_ownTable_6 : decode prog_6_method_19_code 6 = .ok (.aload_n 0, 1) := by decide +kernel
theorem d_Parser_ownTable_7 : decode prog_6_method_19_code 7 = .ok (.getfield 23, 3) := by decide +kernel
theorem d_Parser_ownTable_10 : decode prog_6_method_19_code 10 = .ok (.getfield 135, 3) := by decide +kernel
theorem d_Parser_ownTable_13 : decode prog_6_method_19_code 13 = .ok (.invokevirtual 174, 3) := by decide +kernel
theorem d_Parser_ownTable_16 : decode prog_6_method_19_code 16 = .ok (.aload_n 0, 1) := by decide +kernel
theorem d_Parser_ownTable_17 : decode prog_6_method_19_code 17 = .ok (.getfield 19, 3) := by decide +kernel
theorem d_Parser_ownTable_20 : decode prog_6_method_19_code 20 = .ok (.bipush 11, 2) := by decide +kernel
theorem d_Parser_ownTable_22 : decode prog_6_method_19_code 22 = .ok (.iconst (-1), 1) := by decide +kernel
theorem d_Parser_ownTable_23 : decode prog_6_method_19_code 23 = .ok (.invokevirtual 174, 3) := by decide +kernel
theorem d_Parser_ownTable_26 : decode prog_6_method_19_code 26 = .ok (.return_, 1) := by decide +kernel
theorem d_Parser_place_0 : decode prog_6_method_41_code 0 = .ok (.aload_n 0, 1) := by decide +kernel
theorem d_Parser_place_1 : decode prog_6_method_41_code 1 = .ok (.getfield 9, 3) := by decide +kernel
theorem d_Parser_place_4 : decode prog_6_method_41_code 4 = .ok (.iconst 1, 1) := by decide +kernel
theorem d_Parser_place_5 : decode prog_6_method_41_code 5 = .ok (.invokevirtual 129, 3) := by decide +kernel
theorem d_Parser_place_8 : decode prog_6_method_41_code 8 = .ok (.istore_n 1, 1) := by decide +kernel
theorem d_Parser_place_9 : decode prog_6_method_41_code 9 = .ok (.iload_n 1, 1) := by decide +kernel
theorem d_Parser_place_10 : decode prog_6_method_41_code 10 = .ok (.ifCond .lt 16, 3) := by decide +kernel
theorem d_Parser_place_13 : decode prog_6_method_41_code 13 = .ok (.aload_n 0, 1) := by decide +kernel
theorem d_Parser_place_14 : decode prog_6_method_41_code 14 = .ok (.getfield 9, 3) := by decide +kernel
theorem d_Parser_place_17 : decode prog_6_method_41_code 17 = .ok (.ldc_w 379, 3) := by decide +kernel
theorem d_Parser_place_20 : decode prog_6_method_41_code 20 = .ok (.invokevirtual 29, 3) := by decide +kernel
theorem d_Parser_place_23 : decode prog_6_method_41_code 23 = .ok (.ifCond .ne 23, 3) := by decide +kernel
theorem d_Parser_place_26 : decode prog_6_method_41_code 26 = .ok (.iload_n 1, 1) := by decide +kernel
theorem d_Parser_place_27 : decode prog_6_method_41_code 27 = .ok (.ifCond .ge 7, 3) := by decide +kernel
theorem d_Parser_place_30 : decode prog_6_method_41_code 30 = .ok (.iconst (-1), 1) := by decide +kernel
theorem d_Parser_place_31 : decode prog_6_method_41_code 31 = .ok (.goto 14, 3) := by decide +kernel
theorem d_Parser_place_34 : decode prog_6_method_41_code 34 = .ok (.aload_n 0, 1) := by decide +kernel
theorem d_Parser_place_35 : decode prog_6_method_41_code 35 = .ok (.getfield 15, 3) := by decide +kernel
theorem d_Parser_place_38 : decode prog_6_method_41_code 38 = .ok (.iconst 4, 1) := by decide +kernel
theorem d_Parser_place_39 : decode prog_6_method_41_code 39 = .ok (.iconst (-1), 1) := by decide +kernel
theorem d_Parser_place_40 : decode prog_6_method_41_code 40 = .ok (.iload_n 1, 1) := by decide +kernel
theorem d_Parser_place_41 : decode prog_6_method_41_code 41 = .ok (.iconst (-1), 1) := by decide +kernel
theorem d_Parser_place_42 : decode prog_6_method_41_code 42 = .ok (.invokevirtual 365, 3) := by decide +kernel
theorem d_Parser_place_45 : decode prog_6_method_41_code 45 = .ok (.ireturn, 1) := by decide +kernel
theorem d_Parser_place_46 : decode prog_6_method_41_code 46 = .ok (.aload_n 0, 1) := by decide +kernel
theorem d_Parser_place_47 : decode prog_6_method_41_code 47 = .ok (.getfield 9, 3) := by decide +kernel
theorem d_Parser_place_50 : decode prog_6_method_41_code 50 = .ok (.iconst 1, 1) := by decide +kernel
theorem d_Parser_place_51 : decode prog_6_method_41_code 51 = .ok (.invokevirtual 129, 3) := by decide +kernel
theorem d_Parser_place_54 : decode prog_6_method_41_code 54 = .ok (.istore_n 2, 1) := by decide +kernel
theorem d_Parser_place_55 : decode prog_6_method_41_code 55 = .ok (.iload_n 2, 1) := by decide +kernel
theorem d_Parser_place_56 : decode prog_6_method_41_code 56 = .ok (.ifCond .ge 7, 3) := by decide +kernel
theorem d_Parser_place_59 : decode prog_6_method_41_code 59 = .ok (.iconst (-1), 1) := by decide +kernel
theorem d_Parser_place_60 : decode prog_6_method_41_code 60 = .ok (.goto 14, 3) := by decide +kernel
theorem d_Parser_place_63 : decode prog_6_method_41_code 63 = .ok (.aload_n 0, 1) := by decide +kernel
theorem d_Parser_place_64 : decode prog_6_method_41_code 64 = .ok (.getfield 15, 3) := by decide +kernel
theorem d_Parser_place_67 : decode prog_6_method_41_code 67 = .ok (.iconst 4, 1) := by decide +kernel
theorem d_Parser_place_68 : decode prog_6_method_41_code 68 = .ok (.iconst (-1), 1) := by decide +kernel
theorem d_Parser_place_69 : decode prog_6_method_41_code 69 = .ok (.iload_n 2, 1) := by decide +kernel
theorem d_Parser_place_70 : decode prog_6_method_41_code 70 = .ok (.iload_n 1, 1) := by decide +kernel
theorem d_Parser_place_71 : decode prog_6_method_41_code 71 = .ok (.invokevirtual 365, 3) := by decide +kernel
theorem d_Parser_place_74 : decode prog_6_method_41_code 74 = .ok (.ireturn, 1) := by decide +kernel
theorem d_Parser_query_0 : decode prog_6_method_20_code 0 = .ok (.aload_n 0, 1) := by decide +kernel
theorem d_Parser_query_1 : decode prog_6_method_20_code 1 = .ok (.getfield 23, 3) := by decide +kernel
theorem d_Parser_query_4 : decode prog_6_method_20_code 4 = .ok (.aload_n 0, 1) := by decide +kernel
theorem d_Parser_query_5 : decode prog_6_method_20_code 5 = .ok (.getfield 9, 3) := by decide +kernel
theorem d_Parser_query_8 : decode prog_6_method_20_code 8 = .ok (.ldc 211, 2) := by decide +kernel
theorem d_Parser_query_10 : decode prog_6_method_20_code 10 = .ok (.invokevirtual 29, 3) := by decide +kernel
theorem d_Parser_query_13 : decode prog_6_method_20_code 13 = .ok (.putfield 213, 3) := by decide +kernel
theorem d_Parser_query_16 : decode prog_6_method_20_code 16 = .ok (.aload_n 0, 1) := by decide +kernel
theorem d_Parser_query_17 : decode prog_6_method_20_code 17 = .ok (.getfield 23, 3) := by decide +kernel
theorem d_Parser_query_20 : decode prog_6_method_20_code 20 = .ok (.aload_n 0, 1) := by decide +kernel
theorem d_Parser_query_21 : decode prog_6_method_20_code 21 = .ok (.getfield 9, 3) := by decide +kernel
theorem d_Parser_query_24 : decode prog_6_method_20_code 24 = .ok (.ldc 216, 2) := by decide +kernel
theorem d_Parser_query_26 : decode prog_6_method_20_code 26 = .ok (.invokevirtual 29, 3) := by decide +kernel
theorem d_Parser_query_29 : decode prog_6_method_20_code 29 = .ok (.putfield 218, 3) := by decide +kernel
theorem d_Parser_query_32 : decode prog_6_method_20_code 32 = .ok (.aload_n 0, 1) := by decide +kernel
theorem d_Parser_query_33 : decode prog_6_method_20_code 33 = .ok (.iconst 1, 1) := by decide +kernel
theorem d_Parser_query_34 : decode prog_6_method_20_code 34 = .ok (.putfield 221, 3) := by decide +kernel
theorem d_Parser_query_37 : decode prog_6_method_20_code 37 = .ok (.aload_n 0, 1) := by decide +kernel
theorem d_Parser_query_38 : decode prog_6_method_20_code 38 = .ok (.getfield 23, 3) := by decide +kernel
theorem d_Parser_query_41 : decode prog_6_method_20_code 41 = .ok (.getfield 218, 3) := by decide +kernel
theorem d_Parser_query_44 : decode prog_6_method_20_code 44 = .ok (.ifCond .ne 11, 3) := by decide +kernel
theorem d_Parser_query_47 : decode prog_6_method_20_code 47 = .ok (.aload_n 0, 1) := by decide +kernel
theorem d_Parser_query_48 : decode prog_6_method_20_code 48 = .ok (.iconst 0, 1) := by decide +kernel
theorem d_Parser_query_49 : decode prog_6_method_20_code 49 = .ok (.invokevirtual 186, 3) := by decide +kernel
theorem d_Parser_query_52 : decode prog_6_method_20_code 52 = .ok (.ifCond .eq 7, 3) := by decide +kernel
theorem d_Parser_query_55 : decode prog_6_method_20_code 55 = .ok (.iconst 1, 1) := by decide +kernel
theorem d_Parser_query_56 : decode prog_6_method_20_code 56 = .ok (.goto 4, 3) := by decide +kernel
theorem d_Parser_query_59 : decode prog_6_method_20_code 59 = .ok (.iconst 0, 1) := by decide +kernel
theorem d_Parser_query_60 : decode prog_6_method_20_code 60 = .ok (.istore_n 2, 1) := by decide +kernel
theorem d_Parser_query_61 : decode prog_6_method_20_code 61 = .ok (.aload_n 0, 1) := by decide +kernel
theorem d_Parser_query_62 : decode prog_6_method_20_code 62 = .ok (.iconst 0, 1) := by decide +kernel
theorem d_Parser_query_63 : decode prog_6_method_20_code 63 = .ok (.putfield 221, 3) := by decide +kernel
theorem d_Parser_query_66 : decode prog_6_method_20_code 66 = .ok (.iload_n 2, 1) := by decide +kernel
theorem d_Parser_query_67 : decode prog_6_method_20_code 67 = .ok (.ifCond .eq 57, 3) := by decide +kernel
theorem d_Parser_query_70 : decode prog_6_method_20_code 70 = .ok (.aload_n 0, 1) := by decide +kernel
theorem d_Parser_query_71 : decode prog_6_method_20_code 71 = .ok (.invokevirtual 224, 3) := by decide +kernel
theorem d_Parser_query_74 : decode prog_6_method_20_code 74 = .ok (.ifCond .eq 50, 3) := by decide +kernel
theorem d_Parser_query_77 : decode prog_6_method_20_code 77 = .ok (.aload_n 0, 1) := by decide +kernel
theorem d_Parser_query_78 : decode prog_6_method_20_code 78 = .ok (.invokevirtual 204, 3) := by decide +kernel
theorem d_Parser_query_81 : decode prog_6_method_20_code 81 = .ok (.ifCond .eq 43, 3) := by decide +kernel
theorem d_Parser_query_84 : decode prog_6_method_20_code 84 = .ok (.aload_n 0, 1) := by decide +kernel
theorem d_Parser_query_85 : decode prog_6_method_20_code 85 = .ok (.invokevirtual 227, 3) := by decide +kernel
theorem d_Parser_query_88 : decode prog_6_method_20_code 88 = .ok (.ifCond .eq 36, 3) := by decide +kernel
theorem d_Parser_query_91 : decode prog_6_method_20_code 91 = .ok (.aload_n 0, 1) := by decide +kernel
theorem d_Parser_query_92 : decode prog_6_method_20_code 92 = .ok (.invokevirtual 230, 3) := by decide +kernel
theorem d_Parser_query_95 : decode prog_6_method_20_code 95 = .ok (.ifCond .eq 29, 3) := by decide +kernel
theorem d_Parser_query_98 : decode prog_6_method_20_code 98 = .ok (.aload_n 0, 1) := by decide +kernel
theorem d_Parser_query_99 : decode prog_6_method_20_code 99 = .ok (.invokevirtual 233, 3) := by decide +kernel
theorem d_Parser_query_102 : decode prog_6_method_20_code 102 = .ok (.ifCond .eq 22, 3) := by decide +kernel
theorem d_Parser_query_105 : decode prog_6_method_20_code 105 = .ok (.aload_n 0, 1) := by decide +kernel
theorem d_Parser_query_106 : decode prog_6_method_20_code 106 = .ok (.invokevirtual 236, 3) := by decide +kernel
theorem d_Parser_query_109 : decode prog_6_method_20_code 109 = .ok (.ifCond .eq 15, 3) := by decide +kernel
theorem d_Parser_query_112 : decode prog_6_method_20_code 112 = .ok (.aload_n 0, 1) := by decide +kernel
theorem d_Parser_query_113 : decode prog_6_method_20_code 113 = .ok (.iload_n 1, 1) := by decide +kernel
theorem d_Parser_query_114 : decode prog_6_method_20_code 114 = .ok (.invokevirtual 102, 3) := by decide +kernel
theorem d_Parser_query_117 : decode prog_6_method_20_code 117 = .ok (.ifCond .eq 7, 3) := by decide +kernel
theorem d_Parser_query_120 : decode prog_6_method_20_code 120 = .ok (.iconst 1, 1) := by decide +kernel
theorem d_Parser_query_121 : decode prog_6_method_20_code 121 = .ok (.goto 4, 3) := by decide +kernel
theorem d_Parser_query_124 : decode prog_6_method_20_code 124 = .ok (.iconst 0, 1) := by decide +kernel
theorem d_Parser_query_125 : decode prog_6_method_20_code 125 = .ok (.ireturn, 1) := by decide +kernel
theorem d_Parser_rows_0 : decode prog_6_method_13_code 0 = .ok (.aload_n 0, 1) := by decide +kernel
theorem d_Parser_rows_1 : decode prog_6_method_13_code 1 = .ok (.getfield 9, 3) := by decide +kernel
theorem d_Parser_rows_4 : decode prog_6_method_13_code 4 = .ok (.ldc 184, 2) := by decide +kernel
theorem d_Parser_rows_6 : decode prog_6_method_13_code 6 = .ok (.invokevirtual 29, 3) := by decide +kernel
theorem d_Parser_rows_9 : decode prog_6_method_13_code 9 = .ok (.istore_n 1, 1) := by decide +kernel
theorem d_Parser_rows_10 : decode prog_6_method_13_code 10 = .ok (.iconst 0, 1) := by decide +kernel
theorem d_Parser_rows_11 : decode prog_6_method_13_code 11 = .ok (.istore_n 2, 1) := by decide +kernel
theorem d_Parser_rows_12 : decode prog_6_method_13_code 12 = .ok (.iload_n 2, 1) := by decide +kernel
theorem d_Parser_rows_13 : decode prog_6_method_13_code 13 = .ok (.sipush 2000, 3) := by decide +kernel
theorem d_Parser_rows_16 : decode prog_6_method_13_code 16 = .ok (.if_icmp .ge 85, 3) := by decide +kernel
theorem d_Parser_rows_19 : decode prog_6_method_13_code 19 = .ok (.iload_n 1, 1) := by decide +kernel
theorem d_Parser_rows_20 : decode prog_6_method_13_code 20 = .ok (.ifCond .eq 81, 3) := by decide +kernel
theorem d_Parser_rows_23 : decode prog_6_method_13_code 23 = .ok (.aload_n 0, 1) := by decide +kernel
theorem d_Parser_rows_24 : decode prog_6_method_13_code 24 = .ok (.getfield 9, 3) := by decide +kernel
theorem d_Parser_rows_27 : decode prog_6_method_13_code 27 = .ok (.ldc 150, 2) := by decide +kernel
theorem d_Parser_rows_29 : decode prog_6_method_13_code 29 = .ok (.invokevirtual 29, 3) := by decide +kernel
theorem d_Parser_rows_32 : decode prog_6_method_13_code 32 = .ok (.ifCond .eq 28, 3) := by decide +kernel
theorem d_Parser_rows_35 : decode prog_6_method_13_code 35 = .ok (.aload_n 0, 1) := by decide +kernel
theorem d_Parser_rows_36 : decode prog_6_method_13_code 36 = .ok (.bipush 6, 2) := by decide +kernel
theorem d_Parser_rows_38 : decode prog_6_method_13_code 38 = .ok (.invokevirtual 186, 3) := by decide +kernel
theorem d_Parser_rows_41 : decode prog_6_method_13_code 41 = .ok (.ifCond .eq 19, 3) := by decide +kernel
theorem d_Parser_rows_44 : decode prog_6_method_13_code 44 = .ok (.aload_n 0, 1) := by decide +kernel
theorem d_Parser_rows_45 : decode prog_6_method_13_code 45 = .ok (.getfield 9, 3) := by decide +kernel
theorem d_Parser_rows_48 : decode prog_6_method_13_code 48 = .ok (.ldc 155, 2) := by decide +kernel
theorem d_Parser_rows_50 : decode prog_6_method_13_code 50 = .ok (.invokevirtual 29, 3) := by decide +kernel
theorem d_Parser_rows_53 : decode prog_6_method_13_code 53 = .ok (.ifCond .eq 7, 3) := by decide +kernel
theorem d_Parser_rows_56 : decode prog_6_method_13_code 56 = .ok (.iconst 1, 1) := by decide +kernel
theorem d_Parser_rows_57 : decode prog_6_method_13_code 57 = .ok (.goto 4, 3) := by decide +kernel
theorem d_Parser_rows_60 : decode prog_6_method_13_code 60 = .ok (.iconst 0, 1) := by decide +kernel
theorem d_Parser_rows_61 : decode prog_6_method_13_code 61 = .ok (.istore_n 1, 1) := by decide +kernel
theorem d_Parser_rows_62 : decode prog_6_method_13_code 62 = .ok (.aload_n 0, 1) := by decide +kernel
theorem d_Parser_rows_63 : decode prog_6_method_13_code 63 = .ok (.getfield 19, 3) := by decide +kernel
theorem d_Parser_rows_66 : decode prog_6_method_13_code 66 = .ok (.bipush 12, 2) := by decide +kernel
theorem d_Parser_rows_68 : decode prog_6_method_13_code 68 = .ok (.aload_n 0, 1) := by decide +kernel
theorem d_Parser_rows_69 : decode prog_6_method_13_code 69 = .ok (.getfield 19, 3) := by decide +kernel
theorem d_Parser_rows_72 : decode prog_6_method_13_code 72 = .ok (.bipush 6, 2) := by decide +kernel
theorem d_Parser_rows_74 : decode prog_6_method_13_code 74 = .ok (.invokevirtual 189, 3) := by decide +kernel
theorem d_Parser_rows_77 : decode prog_6_method_13_code 77 = .ok (.invokevirtual 174, 3) := by decide +kernel
theorem d_Parser_rows_80 : decode prog_6_method_13_code 80 = .ok (.aload_n 0, 1) := by decide +kernel
theorem d_Parser_rows_81 : decode prog_6_method_13_code 81 = .ok (.getfield 9, 3) := by decide +kernel
theorem d_Parser_rows_84 : decode prog_6_method_13_code 84 = .ok (.ldc 162, 2) := by decide +kernel
theorem d_Parser_rows_86 : decode prog_6_method_13_code 86 = .ok (.invokevirtual 29, 3) := by decide +kernel
theorem d_Parser_rows_89 : decode prog_6_method_13_code 89 = .ok (.ifCond .ne 6, 3) := by decide +kernel
theorem d_Parser_rows_92 : decode prog_6_method_13_code 92 = .ok (.goto 9, 3) := by decide +kernel
theorem d_Parser_rows_95 : decode prog_6_method_13_code 95 = .ok (.iinc 2 1, 3) := by decide +kernel
theorem d_Parser_rows_98 : decode prog_6_method_13_code 98 = .ok (.goto (-86), 3) := by decide +kernel
theorem d_Parser_rows_101 : decode prog_6_method_13_code 101 = .ok (.iload_n 1, 1) := by decide +kernel
theorem d_Parser_rows_102 : decode prog_6_method_13_code 102 = .ok (.ifCond .eq 15, 3) := by decide +kernel
theorem d_Parser_rows_105 : decode prog_6_method_13_code 105 = .ok (.aload_n 0, 1) := by decide +kernel
theorem d_Parser_rows_106 : decode prog_6_method_13_code 106 = .ok (.iconst 4, 1) := by decide +kernel
theorem d_Parser_rows_107 : decode prog_6_method_13_code 107 = .ok (.invokevirtual 102, 3) := by decide +kernel
theorem d_Parser_rows_110 : decode prog_6_method_13_code 110 = .ok (.ifCond .eq 7, 3) := by decide +kernel
theorem d_Parser_rows_113 : decode prog_6_method_13_code 113 = .ok (.iconst 1, 1) := by decide +kernel
theorem d_Parser_rows_114 : decode prog_6_method_13_code 114 = .ok (.goto 4, 3) := by decide +kernel
theorem d_Parser_rows_117 : decode prog_6_method_13_code 117 = .ok (.iconst 0, 1) := by decide +kernel
theorem d_Parser_rows_118 : decode prog_6_method_13_code 118 = .ok (.ireturn, 1) := by decide +kernel
theorem d_Parser_setting_0 : decode prog_6_method_17_code 0 = .ok (.aload_n 0, 1) := by decide +kernel
theorem d_Parser_setting_1 : decode prog_6_method_17_code 1 = .ok (.getfield 9, 3) := by decide +kernel
theorem d_Parser_setting_4 : decode prog_6_method_17_code 4 = .ok (.iconst 1, 1) := by decide +kernel
theorem d_Parser_setting_5 : decode prog_6_method_17_code 5 = .ok (.invokevirtual 129, 3) := by decide +kernel
theorem d_Parser_setting_8 : decode prog_6_method_17_code 8 = .ok (.istore_n 1, 1) := by decide +kernel
theorem d_Parser_setting_9 : decode prog_6_method_17_code 9 = .ok (.iload_n 1, 1) := by decide +kernel
theorem d_Parser_setting_10 : decode prog_6_method_17_code 10 = .ok (.ifCond .lt 24, 3) := by decide +kernel
theorem d_Parser_setting_13 : decode prog_6_method_17_code 13 = .ok (.aload_n 0, 1) := by decide +kernel
theorem d_Parser_setting_14 : decode prog_6_method_17_code 14 = .ok (.getfield 9, 3) := by decide +kernel
theorem d_Parser_setting_17 : decode prog_6_method_17_code 17 = .ok (.ldc 207, 2) := by decide +kernel
theorem d_Parser_setting_19 : decode prog_6_method_17_code 19 = .ok (.invokevirtual 29, 3) := by decide +kernel
theorem d_Parser_setting_22 : decode prog_6_method_17_code 22 = .ok (.ifCond .eq 12, 3) := by decide +kernel
theorem d_Parser_setting_25 : decode prog_6_method_17_code 25 = .ok (.aload_n 0, 1) := by decide +kernel
theorem d_Parser_setting_26 : decode prog_6_method_17_code 26 = .ok (.iconst 1, 1) := by decide +kernel
theorem d_Parser_setting_27 : decode prog_6_method_17_code 27 = .ok (.iconst 0, 1) := by decide +kernel
theorem d_Parser_setting_28 : decode prog_6_method_17_code 28 = .ok (.invokevirtual 192, 3) := by decide +kernel
theorem d_Parser_setting_31 : decode prog_6_method_17_code 31 = .ok (.goto 4, 3) := by decide +kernel
theorem d_Parser_setting_34 : decode prog_6_method_17_code 34 = .ok (.iconst (-1), 1) := by decide +kernel
theorem d_Parser_setting_35 : decode prog_6_method_17_code 35 = .ok (.istore_n 2, 1) := by decide +kernel
theorem d_Parser_setting_36 : decode prog_6_method_17_code 36 = .ok (.aload_n 0, 1) := by decide +kernel
theorem d_Parser_setting_37 : decode prog_6_method_17_code 37 = .ok (.getfield 19, 3) := by decide +kernel
theorem d_Parser_setting_40 : decode prog_6_method_17_code 40 = .ok (.bipush 13, 2) := by decide +kernel
theorem d_Parser_setting_42 : decode prog_6_method_17_code 42 = .ok (.iload_n 1, 1) := by decide +kernel
theorem d_Parser_setting_43 : decode prog_6_method_17_code 43 = .ok (.invokevirtual 174, 3) := by decide +kernel
theorem d_Parser_setting_46 : decode prog_6_method_17_code 46 = .ok (.aload_n 0, 1) := by decide +kernel
theorem d_Parser_setting_47 : decode prog_6_method_17_code 47 = .ok (.getfield 19, 3) := by decide +kernel
theorem d_Parser_setting_50 : decode prog_6_method_17_code 50 = .ok (.iconst 5, 1) := by decide +kernel
theorem d_Parser_setting_51 : decode prog_6_method_17_code 51 = .ok (.iload_n 2, 1) := by decide +kernel
theorem d_Parser_setting_52 : decode prog_6_method_17_code 52 = .ok (.invokevirtual 174, 3) := by decide +kernel
theorem d_Parser_setting_55 : decode prog_6_method_17_code 55 = .ok (.iload_n 2, 1) := by decide +kernel
theorem d_Parser_setting_56 : decode prog_6_method_17_code 56 = .ok (.ifCond .lt 7, 3) := by decide +kernel
theorem d_Parser_setting_59 : decode prog_6_method_17_code 59 = .ok (.iconst 1, 1) := by decide +kernel
theorem d_Parser_setting_60 : decode prog_6_method_17_code 60 = .ok (.goto 4, 3) := by decide +kernel
theorem d_Parser_setting_63 : decode prog_6_method_17_code 63 = .ok (.iconst 0, 1) := by decide +kernel
theorem d_Parser_setting_64 : decode prog_6_method_17_code 64 = .ok (.ireturn, 1) := by decide +kernel
theorem d_Parser_shareMode_0 : decode prog_6_method_32_code 0 = .ok (.aload_n 0, 1) := by decide +kernel
theorem d_Parser_shareMode_1 : decode prog_6_method_32_code 1 = .ok (.getfield 9, 3) := by decide +kernel
theorem d_Parser_shareMode_4 : decode prog_6_method_32_code 4 = .ok (.ldc 61, 2) := by decide +kernel
theorem d_Parser_shareMode_6 : decode prog_6_method_32_code 6 = .ok (.invokevirtual 29, 3) := by decide +kernel
theorem d_Parser_shareMode_9 : decode prog_6_method_32_code 9 = .ok (.ifCond .eq 22, 3) := by decide +kernel
theorem d_Parser_shareMode_12 : decode prog_6_method_32_code 12 = .ok (.aload_n 0, 1) := by decide +kernel
theorem d_Parser_shareMode_13 : decode prog_6_method_32_code 13 = .ok (.getfield 9, 3) := by decide +kernel
theorem d_Parser_shareMode_16 : decode prog_6_method_32_code 16 = .ok (.ldc_w 298, 3) := by decide +kernel
theorem d_Parser_shareMode_19 : decode prog_6_method_32_code 19 = .ok (.invokevirtual 29, 3) := by decide +kernel
theorem d_Parser_shareMode_22 : decode prog_6_method_32_code 22 = .ok (.ifCond .eq 7, 3) := by decide +kernel
theorem d_Parser_shareMode_25 : decode prog_6_method_32_code 25 = .ok (.iconst 4, 1) := by decide +kernel
theorem d_Parser_shareMode_26 : decode prog_6_method_32_code 26 = .ok (.goto 4, 3) := by decide +kernel
theorem d_Parser_shareMode_29 : decode prog_6_method_32_code 29 = .ok (.iconst 0, 1) := by decide +kernel
theorem d_Parser_shareMode_30 : decode prog_6_method_32_code 30 = .ok (.ireturn, 1) := by decide +kernel
theorem d_Parser_shareMode_31 : decode prog_6_method_32_code 31 = .ok (.aload_n 0, 1) := by decide +kernel
theorem d_Parser_shareMode_32 : decode prog_6_method_32_code 32 = .ok (.getfield 9, 3) := by decide +kernel
theorem d_Parser_shareMode_35 : decode prog_6_method_32_code 35 = .ok (.ldc_w 300, 3) := by decide +kernel
theorem d_Parser_shareMode_38 : decode prog_6_method_32_code 38 = .ok (.invokevirtual 29, 3) := by decide +kernel
theorem d_Parser_shareMode_41 : decode prog_6_method_32_code 41 = .ok (.ifCond .eq 23, 3) := by decide +kernel
theorem d_Parser_shareMode_44 : decode prog_6_method_32_code 44 = .ok (.aload_n 0, 1) := by decide +kernel
theorem d_Parser_shareMode_45 : decode prog_6_method_32_code 45 = .ok (.getfield 9, 3) := by decide +kernel
theorem d_Parser_shareMode_48 : decode prog_6_method_32_code 48 = .ok (.ldc_w 298, 3) := by decide +kernel
theorem d_Parser_shareMode_51 : decode prog_6_method_32_code 51 = .ok (.invokevirtual 29, 3) := by decide +kernel
theorem d_Parser_shareMode_54 : decode prog_6_method_32_code 54 = .ok (.ifCond .eq 8, 3) := by decide +kernel
theorem d_Parser_shareMode_57 : decode prog_6_method_32_code 57 = .ok (.bipush 6, 2) := by decide +kernel
theorem d_Parser_shareMode_59 : decode prog_6_method_32_code 59 = .ok (.goto 4, 3) := by decide +kernel
theorem d_Parser_shareMode_62 : decode prog_6_method_32_code 62 = .ok (.iconst 0, 1) := by decide +kernel
theorem d_Parser_shareMode_63 : decode prog_6_method_32_code 63 = .ok (.ireturn, 1) := by decide +kernel
theorem d_Parser_shareMode_64 : decode prog_6_method_32_code 64 = .ok (.iconst 5, 1) := by decide +kernel
theorem d_Parser_shareMode_65 : decode prog_6_method_32_code 65 = .ok (.ireturn, 1) := by decide +kernel
theorem d_Parser_signBehind_0 : decode prog_6_method_43_code 0 = .ok (.aload_n 0, 1) := by decide +kernel
theorem d_Parser_signBehind_1 : decode prog_6_method_43_code 1 = .ok (.getfield 9, 3) := by decide +kernel
theorem d_Parser_signBehind_4 : decode prog_6_method_43_code 4 = .ok (.ldc 207, 2) := by decide +kernel
theorem d_Parser_signBehind_6 : decode prog_6_method_43_code 6 = .ok (.invokevirtual 29, 3) := by decide +kernel
theorem d_Parser_signBehind_9 : decode prog_6_method_43_code 9 = .ok (.ifCond .eq 6, 3) := by decide +kernel
theorem d_Parser_signBehind_12 : decode prog_6_method_43_code 12 = .ok (.bipush 17, 2) := by decide +kernel
theorem d_Parser_signBehind_14 : decode prog_6_method_43_code 14 = .ok (.ireturn, 1) := by decide +kernel
theorem d_Parser_signBehind_15 : decode prog_6_method_43_code 15 = .ok (.aload_n 0, 1) := by decide +kernel
theorem d_Parser_signBehind_16 : decode prog_6_method_43_code 16 = .ok (.getfield 9, 3) := by decide +kernel
theorem d_Parser_signBehind_19 : decode prog_6_method_43_code 19 = .ok (.ldc_w 385, 3) := by decide +kernel
theorem d_Parser_signBehind_22 : decode prog_6_method_43_code 22 = .ok (.invokevirtual 29, 3) := by decide +kernel
theorem d_Parser_signBehind_25 : decode prog_6_method_43_code 25 = .ok (.ifCond .eq 6, 3) := by decide +kernel
theorem d_Parser_signBehind_28 : decode prog_6_method_43_code 28 = .ok (.bipush 18, 2) := by decide +kernel
theorem d_Parser_signBehind_30 : decode prog_6_method_43_code 30 = .ok (.ireturn, 1) := by decide +kernel
theorem d_Parser_signBehind_31 : decode prog_6_method_43_code 31 = .ok (.aload_n 0, 1) := by decide +kernel
theorem d_Parser_signBehind_32 : decode prog_6_method_43_code 32 = .ok (.getfield 9, 3) := by decide +kernel
theorem d_Parser_signBehind_35 : decode prog_6_method_43_code 35 = .ok (.ldc_w 387, 3) := by decide +kernel
theorem d_Parser_signBehind_38 : decode prog_6_method_43_code 38 = .ok (.invokevirtual 29, 3) := by decide +kernel
theorem d_Parser_signBehind_41 : decode prog_6_method_43_code 41 = .ok (.ifCond .eq 6, 3) := by decide +kernel
theorem d_Parser_signBehind_44 : decode prog_6_method_43_code 44 = .ok (.bipush 19, 2) := by decide +kernel
theorem d_Parser_signBehind_46 : decode prog_6_method_43_code 46 = .ok (.ireturn, 1) := by decide +kernel
theorem d_Parser_signBehind_47 : decode prog_6_method_43_code 47 = .ok (.aload_n 0, 1) := by decide +kernel
theorem d_Parser_signBehind_48 : decode prog_6_method_43_code 48 = .ok (.getfield 9, 3) := by decide +kernel
theorem d_Parser_signBehind_51 : decode prog_6_method_43_code 51 = .ok (.ldc_w 389, 3) := by decide +kernel
theorem d_Parser_signBehind_54 : decode prog_6_method_43_code 54 = .ok (.invokevirtual 29, 3) := by decide +kernel
theorem d_Parser_signBehind_57 : decode prog_6_method_43_code 57 = .ok (.ifCond .eq 6, 3) := by decide +kernel
theorem d_Parser_signBehind_60 : decode prog_6_method_43_code 60 = .ok (.bipush 20, 2) := by decide +kernel
theorem d_Parser_signBehind_62 : decode prog_6_method_43_code 62 = .ok (.ireturn, 1) := by decide +kernel
theorem d_Parser_signBehind_63 : decode prog_6_method_43_code 63 = .ok (.aload_n 0, 1) := by decide +kernel
theorem d_Parser_signBehind_64 : decode prog_6_method_43_code 64 = .ok (.getfield 9, 3) := by decide +kernel
theorem d_Parser_signBehind_67 : decode prog_6_method_43_code 67 = .ok (.ldc_w 391, 3) := by decide +kernel
theorem d_Parser_signBehind_70 : decode prog_6_method_43_code 70 = .ok (.invokevirtual 29, 3) := by decide +kernel
theorem d_Parser_signBehind_73 : decode prog_6_method_43_code 73 = .ok (.ifCond .eq 6, 3) := by decide +kernel
theorem d_Parser_signBehind_76 : decode prog_6_method_43_code 76 = .ok (.bipush 21, 2) := by decide +kernel
theorem d_Parser_signBehind_78 : decode prog_6_method_43_code 78 = .ok (.ireturn, 1) := by decide +kernel
theorem d_Parser_signBehind_79 : decode prog_6_method_43_code 79 = .ok (.aload_n 0, 1) := by decide +kernel
theorem d_Parser_signBehind_80 : decode prog_6_method_43_code 80 = .ok (.getfield 9, 3) := by decide +kernel
theorem d_Parser_signBehind_83 : decode prog_6_method_43_code 83 = .ok (.ldc_w 393, 3) := by decide +kernel
theorem d_Parser_signBehind_86 : decode prog_6_method_43_code 86 = .ok (.invokevirtual 29, 3) := by decide +kernel
theorem d_Parser_signBehind_89 : decode prog_6_method_43_code 89 = .ok (.ifCond .eq 6, 3) := by decide +kernel
theorem d_Parser_signBehind_92 : decode prog_6_method_43_code 92 = .ok (.bipush 22, 2) := by decide +kernel
theorem d_Parser_signBehind_94 : decode prog_6_method_43_code 94 = .ok (.ireturn, 1) := by decide +kernel
theorem d_Parser_signBehind_95 : decode prog_6_method_43_code 95 = .ok (.aload_n 0, 1) := by decide +kernel
theorem d_Parser_signBehind_96 : decode prog_6_method_43_code 96 = .ok (.getfield 9, 3) := by decide +kernel
theorem d_Parser_signBehind_99 : decode prog_6_method_43_code 99 = .ok (.ldc_w 395, 3) := by decide +kernel
theorem d_Parser_signBehind_102 : decode prog_6_method_43_code 102 = .ok (.invokevirtual 29, 3) := by decide +kernel
theorem d_Parser_signBehind_105 : decode prog_6_method_43_code 105 = .ok (.ifCond .eq 6, 3) := by decide +kernel
theorem d_Parser_signBehind_108 : decode prog_6_method_43_code 108 = .ok (.bipush 11, 2) := by decide +kernel
theorem d_Parser_signBehind_110 : decode prog_6_method_43_code 110 = .ok (.ireturn, 1) := by decide +kernel
theorem d_Parser_signBehind_111 : decode prog_6_method_43_code 111 = .ok (.aload_n 0, 1) := by decide +kernel
theorem d_Parser_signBehind_112 : decode prog_6_method_43_code 112 = .ok (.getfield 9, 3) := by decide +kernel
theorem d_Parser_signBehind_115 : decode prog_6_method_43_code 115 = .ok (.ldc_w 354, 3) := by decide +kernel
theorem d_Parser_signBehind_118 : decode prog_6_method_43_code 118 = .ok (.invokevirtual 29, 3) := by decide +kernel
theorem d_Parser_signBehind_121 : decode prog_6_method_43_code 121 = .ok (.ifCond .eq 6, 3) := by decide +kernel
theorem d_Parser_signBehind_124 : decode prog_6_method_43_code 124 = .ok (.bipush 12, 2) := by decide +kernel
theorem d_Parser_signBehind_126 : decode prog_6_method_43_code 126 = .ok (.ireturn, 1) := by decide +kernel
theorem d_Parser_signBehind_127 : decode prog_6_method_43_code 127 = .ok (.aload_n 0, 1) := by decide +kernel
theorem d_Parser_signBehind_128 : decode prog_6_method_43_code 128 = .ok (.getfield 9, 3) := by decide +kernel
theorem d_Parser_signBehind_131 : decode prog_6_method_43_code 131 = .ok (.ldc 216, 2) := by decide +kernel
theorem d_Parser_signBehind_133 : decode prog_6_method_43_code 133 = .ok (.invokevirtual 29, 3) := by decide +kernel
theorem d_Parser_signBehind_136 : decode prog_6_method_43_code 136 = .ok (.ifCond .eq 6, 3) := by decide +kernel
theorem d_Parser_signBehind_139 : decode prog_6_method_43_code 139 = .ok (.bipush 13, 2) := by decide +kernel
theorem d_Parser_signBehind_141 : decode prog_6_method_43_code 141 = .ok (.ireturn, 1) := by decide +kernel
theorem d_Parser_signBehind_142 : decode prog_6_method_43_code 142 = .ok (.aload_n 0, 1) := by decide +kernel
theorem d_Parser_signBehind_143 : decode prog_6_method_43_code 143 = .ok (.getfield 9, 3) := by decide +kernel
theorem d_Parser_signBehind_146 : decode prog_6_method_43_code 146 = .ok (.ldc_w 397, 3) := by decide +kernel
theorem d_Parser_signBehind_149 : decode prog_6_method_43_code 149 = .ok (.invokevirtual 29, 3) := by decide +kernel
theorem d_Parser_signBehind_152 : decode prog_6_method_43_code 152 = .ok (.ifCond .eq 6, 3) := by decide +kernel
theorem d_Parser_signBehind_155 : decode prog_6_method_43_code 155 = .ok (.bipush 14, 2) := by decide +kernel
theorem d_Parser_signBehind_157 : decode prog_6_method_43_code 157 = .ok (.ireturn, 1) := by decide +kernel
theorem d_Parser_signBehind_158 : decode prog_6_method_43_code 158 = .ok (.aload_n 0, 1) := by decide +kernel
theorem d_Parser_signBehind_159 : decode prog_6_method_43_code 159 = .ok (.getfield 9, 3) := by decide +kernel
theorem d_Parser_signBehind_162 : decode prog_6_method_43_code 162 = .ok (.ldc_w 399, 3) := by decide +kernel
theorem d_Parser_signBehind_165 : decode prog_6_method_43_code 165 = .ok (.invokevirtual 29, 3) := by decide +kernel
theorem d_Parser_signBehind_168 : decode prog_6_method_43_code 168 = .ok (.ifCond .eq 6, 3) := by decide +kernel
theorem d_Parser_signBehind_171 : decode prog_6_method_43_code 171 = .ok (.bipush 15, 2) := by decide +kernel
theorem d_Parser_signBehind_173 : decode prog_6_method_43_code 173 = .ok (.ireturn, 1) := by decide +kernel
theorem d_Parser_signBehind_174 : decode prog_6_method_43_code 174 = .ok (.aload_n 0, 1) := by decide +kernel
theorem d_Parser_signBehind_175 : decode prog_6_method_43_code 175 = .ok (.getfield 9, 3) := by decide +kernel
theorem d_Parser_signBehind_178 : decode prog_6_method_43_code 178 = .ok (.ldc_w 401, 3) := by decide +kernel
theorem d_Parser_signBehind_181 : decode prog_6_method_43_code 181 = .ok (.invokevirtual 29, 3) := by decide +kernel
theorem d_Parser_signBehind_184 : decode prog_6_method_43_code 184 = .ok (.ifCond .eq 8, 3) := by decide +kernel
theorem d_Parser_signBehind_187 : decode prog_6_method_43_code 187 = .ok (.bipush 16, 2) := by decide +kernel
theorem d_Parser_signBehind_189 : decode prog_6_method_43_code 189 = .ok (.goto 4, 3) := by decide +kernel
theorem d_Parser_signBehind_192 : decode prog_6_method_43_code 192 = .ok (.iconst (-1), 1) := by decide +kernel
theorem d_Parser_signBehind_193 : decode prog_6_method_43_code 193 = .ok (.ireturn, 1) := by decide +kernel
theorem d_Parser_tableOfQuery_0 : decode prog_6_method_22_code 0 = .ok (.aload_n 0, 1) := by decide +kernel
theorem d_Parser_tableOfQuery_1 : decode prog_6_method_22_code 1 = .ok (.getfield 9, 3) := by decide +kernel
theorem d_Parser_tableOfQuery_4 : decode prog_6_method_22_code 4 = .ok (.iconst 1, 1) := by decide +kernel
theorem d_Parser_tableOfQuery_5 : decode prog_6_method_22_code 5 = .ok (.invokevirtual 129, 3) := by decide +kernel
theorem d_Parser_tableOfQuery_8 : decode prog_6_method_22_code 8 = .ok (.istore_n 1, 1) := by decide +kernel
theorem d_Parser_tableOfQuery_9 : decode prog_6_method_22_code 9 = .ok (.aload_n 0, 1) := by decide +kernel
theorem d_Parser_tableOfQuery_10 : decode prog_6_method_22_code 10 = .ok (.getfield 19, 3) := by decide +kernel
theorem d_Parser_tableOfQuery_13 : decode prog_6_method_22_code 13 = .ok (.bipush 10, 2) := by decide +kernel
theorem d_Parser_tableOfQuery_15 : decode prog_6_method_22_code 15 = .ok (.iload_n 1, 1) := by decide +kernel
theorem d_Parser_tableOfQuery_16 : decode prog_6_method_22_code 16 = .ok (.invokevirtual 174, 3) := by decide +kernel
theorem d_Parser_tableOfQuery_19 : decode prog_6_method_22_code 19 = .ok (.aload_n 0, 1) := by decide +kernel
theorem d_Parser_tableOfQuery_20 : decode prog_6_method_22_code 20 = .ok (.getfield 19, 3) := by decide +kernel
theorem d_Parser_tableOfQuery_23 : decode prog_6_method_22_code 23 = .ok (.bipush 11, 2) := by decide +kernel
theorem d_Parser_tableOfQuery_25 : decode prog_6_method_22_code 25 = .ok (.aload_n 0, 1) := by decide +kernel
theorem d_Parser_tableOfQuery_26 : decode prog_6_method_22_code 26 = .ok (.getfield 9, 3) := by decide +kernel
theorem d_Parser_tableOfQuery_29 : decode prog_6_method_22_code 29 = .ok (.iconst 1, 1) := by decide +kernel
theorem d_Parser_tableOfQuery_30 : decode prog_6_method_22_code 30 = .ok (.invokevirtual 129, 3) := by decide +kernel
theorem d_Parser_tableOfQuery_33 : decode prog_6_method_22_code 33 = .ok (.invokevirtual 174, 3) := by decide +kernel
theorem d_Parser_tableOfQuery_36 : decode prog_6_method_22_code 36 = .ok (.iload_n 1, 1) := by decide +kernel
