theorem d_SqlReader_column_0 : decode prog_1_method_4_code 0 = .ok (.aload_n 0, 1) := by decide +kernel
theorem d_SqlReader_column_1 : decode prog_1_method_4_code 1 = .ok (.getfield 19, 3) := by decide +kernel
theorem d_SqlReader_column_4 : decode prog_1_method_4_code 4 = .ok (.iload_n 1, 1) := by decide +kernel
theorem d_SqlReader_column_5 : decode prog_1_method_4_code 5 = .ok (.iload_n 2, 1) := by decide +kernel
theorem d_SqlReader_column_6 : decode prog_1_method_4_code 6 = .ok (.aload_n 0, 1) := by decide +kernel
theorem d_SqlReader_column_7 : decode prog_1_method_4_code 7 = .ok (.getfield 10, 3) := by decide +kernel
theorem d_SqlReader_column_10 : decode prog_1_method_4_code 10 = .ok (.invokevirtual 80, 3) := by decide +kernel
theorem d_SqlReader_column_13 : decode prog_1_method_4_code 13 = .ok (.istore_n 3, 1) := by decide +kernel
theorem d_SqlReader_column_14 : decode prog_1_method_4_code 14 = .ok (.aload_n 0, 1) := by decide +kernel
theorem d_SqlReader_column_15 : decode prog_1_method_4_code 15 = .ok (.getfield 10, 3) := by decide +kernel
theorem d_SqlReader_column_18 : decode prog_1_method_4_code 18 = .ok (.invokevirtual 77, 3) := by decide +kernel
theorem d_SqlReader_column_21 : decode prog_1_method_4_code 21 = .ok (.iload_n 3, 1) := by decide +kernel
theorem d_SqlReader_column_22 : decode prog_1_method_4_code 22 = .ok (.ireturn, 1) := by decide +kernel
theorem d_SqlReader_count_0 : decode prog_1_method_9_code 0 = .ok (.iload_n 1, 1) := by decide +kernel
theorem d_SqlReader_count_1 : decode prog_1_method_9_code 1 = .ok (.tableswitch 276 0 17 #[87, 95, 104, 113, 122, 131, 140, 150, 160, 170, 180, 188, 204, 212, 220, 244, 252, 260], 87) := by decide +kernel
theorem d_SqlReader_count_88 : decode prog_1_method_9_code 88 = .ok (.aload_n 0, 1) := by decide +kernel
theorem d_SqlReader_count_89 : decode prog_1_method_9_code 89 = .ok (.getfield 33, 3) := by decide +kernel
theorem d_SqlReader_count_92 : decode prog_1_method_9_code 92 = .ok (.invokevirtual 144, 3) := by decide +kernel
theorem d_SqlReader_count_95 : decode prog_1_method_9_code 95 = .ok (.ireturn, 1) := by decide +kernel
theorem d_SqlReader_count_96 : decode prog_1_method_9_code 96 = .ok (.aload_n 0, 1) := by decide +kernel
theorem d_SqlReader_count_97 : decode prog_1_method_9_code 97 = .ok (.getfield 40, 3) := by decide +kernel
theorem d_SqlReader_count_100 : decode prog_1_method_9_code 100 = .ok (.iconst 0, 1) := by decide +kernel
theorem d_SqlReader_count_101 : decode prog_1_method_9_code 101 = .ok (.invokevirtual 147, 3) := by decide +kernel
theorem d_SqlReader_count_104 : decode prog_1_method_9_code 104 = .ok (.ireturn, 1) := by decide +kernel
theorem d_SqlReader_count_105 : decode prog_1_method_9_code 105 = .ok (.aload_n 0, 1) := by decide +kernel
theorem d_SqlReader_count_106 : decode prog_1_method_9_code 106 = .ok (.getfield 40, 3) := by decide +kernel
theorem d_SqlReader_count_109 : decode prog_1_method_9_code 109 = .ok (.iconst 1, 1) := by decide +kernel
theorem d_SqlReader_count_110 : decode prog_1_method_9_code 110 = .ok (.invokevirtual 147, 3) := by decide +kernel
theorem d_SqlReader_count_113 : decode prog_1_method_9_code 113 = .ok (.ireturn, 1) := by decide +kernel
theorem d_SqlReader_count_114 : decode prog_1_method_9_code 114 = .ok (.aload_n 0, 1) := by decide +kernel
theorem d_SqlReader_count_115 : decode prog_1_method_9_code 115 = .ok (.getfield 40, 3) := by decide +kernel
theorem d_SqlReader_count_118 : decode prog_1_method_9_code 118 = .ok (.iconst 2, 1) := by decide +kernel
theorem d_SqlReader_count_119 : decode prog_1_method_9_code 119 = .ok (.invokevirtual 147, 3) := by decide +kernel
theorem d_SqlReader_count_122 : decode prog_1_method_9_code 122 = .ok (.ireturn, 1) := by decide +kernel
theorem d_SqlReader_count_123 : decode prog_1_method_9_code 123 = .ok (.aload_n 0, 1) := by decide +kernel
theorem d_SqlReader_count_124 : decode prog_1_method_9_code 124 = .ok (.getfield 40, 3) := by decide +kernel
theorem d_SqlReader_count_127 : decode prog_1_method_9_code 127 = .ok (.iconst 3, 1) := by decide +kernel
theorem d_SqlReader_count_128 : decode prog_1_method_9_code 128 = .ok (.invokevirtual 147, 3) := by decide +kernel
theorem d_SqlReader_count_131 : decode prog_1_method_9_code 131 = .ok (.ireturn, 1) := by decide +kernel
theorem d_SqlReader_count_132 : decode prog_1_method_9_code 132 = .ok (.aload_n 0, 1) := by decide +kernel
theorem d_SqlReader_count_133 : decode prog_1_method_9_code 133 = .ok (.getfield 40, 3) := by decide +kernel
theorem d_SqlReader_count_136 : decode prog_1_method_9_code 136 = .ok (.iconst 5, 1) := by decide +kernel
theorem d_SqlReader_count_137 : decode prog_1_method_9_code 137 = .ok (.invokevirtual 147, 3) := by decide +kernel
theorem d_SqlReader_count_140 : decode prog_1_method_9_code 140 = .ok (.ireturn, 1) := by decide +kernel
theorem d_SqlReader_count_141 : decode prog_1_method_9_code 141 = .ok (.aload_n 0, 1) := by decide +kernel
theorem d_SqlReader_count_142 : decode prog_1_method_9_code 142 = .ok (.getfield 40, 3) := by decide +kernel
theorem d_SqlReader_count_145 : decode prog_1_method_9_code 145 = .ok (.bipush 12, 2) := by decide +kernel
theorem d_SqlReader_count_147 : decode prog_1_method_9_code 147 = .ok (.invokevirtual 147, 3) := by decide +kernel
theorem d_SqlReader_count_150 : decode prog_1_method_9_code 150 = .ok (.ireturn, 1) := by decide +kernel
theorem d_SqlReader_count_151 : decode prog_1_method_9_code 151 = .ok (.aload_n 0, 1) := by decide +kernel
theorem d_SqlReader_count_152 : decode prog_1_method_9_code 152 = .ok (.getfield 40, 3) := by decide +kernel
theorem d_SqlReader_count_155 : decode prog_1_method_9_code 155 = .ok (.bipush 7, 2) := by decide +kernel
theorem d_SqlReader_count_157 : decode prog_1_method_9_code 157 = .ok (.invokevirtual 147, 3) := by decide +kernel
theorem d_SqlReader_count_160 : decode prog_1_method_9_code 160 = .ok (.ireturn, 1) := by decide +kernel
theorem d_SqlReader_count_161 : decode prog_1_method_9_code 161 = .ok (.aload_n 0, 1) := by decide +kernel
theorem d_SqlReader_count_162 : decode prog_1_method_9_code 162 = .ok (.getfield 40, 3) := by decide +kernel
theorem d_SqlReader_count_165 : decode prog_1_method_9_code 165 = .ok (.bipush 8, 2) := by decide +kernel
theorem d_SqlReader_count_167 : decode prog_1_method_9_code 167 = .ok (.invokevirtual 147, 3) := by decide +kernel
theorem d_SqlReader_count_170 : decode prog_1_method_9_code 170 = .ok (.ireturn, 1) := by decide +kernel
theorem d_SqlReader_count_171 : decode prog_1_method_9_code 171 = .ok (.aload_n 0, 1) := by decide +kernel
theorem d_SqlReader_count_172 : decode prog_1_method_9_code 172 = .ok (.getfield 40, 3) := by decide +kernel
theorem d_SqlReader_count_175 : decode prog_1_method_9_code 175 = .ok (.bipush 9, 2) := by decide +kernel
theorem d_SqlReader_count_177 : decode prog_1_method_9_code 177 = .ok (.invokevirtual 147, 3) := by decide +kernel
theorem d_SqlReader_count_180 : decode prog_1_method_9_code 180 = .ok (.ireturn, 1) := by decide +kernel
theorem d_SqlReader_count_181 : decode prog_1_method_9_code 181 = .ok (.aload_n 0, 1) := by decide +kernel
theorem d_SqlReader_count_182 : decode prog_1_method_9_code 182 = .ok (.getfield 47, 3) := by decide +kernel
theorem d_SqlReader_count_185 : decode prog_1_method_9_code 185 = .ok (.getfield 149, 3) := by decide +kernel
theorem d_SqlReader_count_188 : decode prog_1_method_9_code 188 = .ok (.ireturn, 1) := by decide +kernel
theorem d_SqlReader_count_189 : decode prog_1_method_9_code 189 = .ok (.aload_n 0, 1) := by decide +kernel
theorem d_SqlReader_count_190 : decode prog_1_method_9_code 190 = .ok (.getfield 47, 3) := by decide +kernel
theorem d_SqlReader_count_193 : decode prog_1_method_9_code 193 = .ok (.getfield 152, 3) := by decide +kernel
theorem d_SqlReader_count_196 : decode prog_1_method_9_code 196 = .ok (.ifCond .eq 7, 3) := by decide +kernel
theorem d_SqlReader_count_199 : decode prog_1_method_9_code 199 = .ok (.iconst 1, 1) := by decide +kernel
theorem d_SqlReader_count_200 : decode prog_1_method_9_code 200 = .ok (.goto 4, 3) := by decide +kernel
theorem d_SqlReader_count_203 : decode prog_1_method_9_code 203 = .ok (.iconst 0, 1) := by decide +kernel
theorem d_SqlReader_count_204 : decode prog_1_method_9_code 204 = .ok (.ireturn, 1) := by decide +kernel
theorem d_SqlReader_count_205 : decode prog_1_method_9_code 205 = .ok (.aload_n 0, 1) := by decide +kernel
theorem d_SqlReader_count_206 : decode prog_1_method_9_code 206 = .ok (.getfield 47, 3) := by decide +kernel
theorem d_SqlReader_count_209 : decode prog_1_method_9_code 209 = .ok (.getfield 156, 3) := by decide +kernel
theorem d_SqlReader_count_212 : decode prog_1_method_9_code 212 = .ok (.ireturn, 1) := by decide +kernel
theorem d_SqlReader_count_213 : decode prog_1_method_9_code 213 = .ok (.aload_n 0, 1) := by decide +kernel
theorem d_SqlReader_count_214 : decode prog_1_method_9_code 214 = .ok (.getfield 47, 3) := by decide +kernel
theorem d_SqlReader_count_217 : decode prog_1_method_9_code 217 = .ok (.getfield 159, 3) := by decide +kernel
theorem d_SqlReader_count_220 : decode prog_1_method_9_code 220 = .ok (.ireturn, 1) := by decide +kernel
theorem d_SqlReader_count_221 : decode prog_1_method_9_code 221 = .ok (.aload_n 0, 1) := by decide +kernel
theorem d_SqlReader_count_222 : decode prog_1_method_9_code 222 = .ok (.getfield 47, 3) := by decide +kernel
theorem d_SqlReader_count_225 : decode prog_1_method_9_code 225 = .ok (.getfield 109, 3) := by decide +kernel
theorem d_SqlReader_count_228 : decode prog_1_method_9_code 228 = .ok (.bipush 16, 2) := by decide +kernel
theorem d_SqlReader_count_230 : decode prog_1_method_9_code 230 = .ok (.if_icmp .ne 13, 3) := by decide +kernel
theorem d_SqlReader_count_233 : decode prog_1_method_9_code 233 = .ok (.aload_n 0, 1) := by decide +kernel
theorem d_SqlReader_count_234 : decode prog_1_method_9_code 234 = .ok (.getfield 47, 3) := by decide +kernel
theorem d_SqlReader_count_237 : decode prog_1_method_9_code 237 = .ok (.getfield 162, 3) := by decide +kernel
theorem d_SqlReader_count_240 : decode prog_1_method_9_code 240 = .ok (.goto 4, 3) := by decide +kernel
theorem d_SqlReader_count_243 : decode prog_1_method_9_code 243 = .ok (.iconst 0, 1) := by decide +kernel
theorem d_SqlReader_count_244 : decode prog_1_method_9_code 244 = .ok (.ireturn, 1) := by decide +kernel
theorem d_SqlReader_count_245 : decode prog_1_method_9_code 245 = .ok (.aload_n 0, 1) := by decide +kernel
theorem d_SqlReader_count_246 : decode prog_1_method_9_code 246 = .ok (.getfield 47, 3) := by decide +kernel
theorem d_SqlReader_count_249 : decode prog_1_method_9_code 249 = .ok (.getfield 164, 3) := by decide +kernel
theorem d_SqlReader_count_252 : decode prog_1_method_9_code 252 = .ok (.ireturn, 1) := by decide +kernel
theorem d_SqlReader_count_253 : decode prog_1_method_9_code 253 = .ok (.aload_n 0, 1) := by decide +kernel
theorem d_SqlReader_count_254 : decode prog_1_method_9_code 254 = .ok (.getfield 47, 3) := by decide +kernel
theorem d_SqlReader_count_257 : decode prog_1_method_9_code 257 = .ok (.getfield 167, 3) := by decide +kernel
theorem d_SqlReader_count_260 : decode prog_1_method_9_code 260 = .ok (.ireturn, 1) := by decide +kernel
theorem d_SqlReader_count_261 : decode prog_1_method_9_code 261 = .ok (.aload_n 0, 1) := by decide +kernel
theorem d_SqlReader_count_262 : decode prog_1_method_9_code 262 = .ok (.getfield 47, 3) := by decide +kernel
theorem d_SqlReader_count_265 : decode prog_1_method_9_code 265 = .ok (.getfield 170, 3) := by decide +kernel
theorem d_SqlReader_count_268 : decode prog_1_method_9_code 268 = .ok (.ifCond .eq 7, 3) := by decide +kernel
theorem d_SqlReader_count_271 : decode prog_1_method_9_code 271 = .ok (.iconst 1, 1) := by decide +kernel
theorem d_SqlReader_count_272 : decode prog_1_method_9_code 272 = .ok (.goto 4, 3) := by decide +kernel
theorem d_SqlReader_count_275 : decode prog_1_method_9_code 275 = .ok (.iconst 0, 1) := by decide +kernel
theorem d_SqlReader_count_276 : decode prog_1_method_9_code 276 = .ok (.ireturn, 1) := by decide +kernel
theorem d_SqlReader_count_277 : decode prog_1_method_9_code 277 = .ok (.iconst (-1), 1) := by decide +kernel
theorem d_SqlReader_count_278 : decode prog_1_method_9_code 278 = .ok (.ireturn, 1) := by decide +kernel
theorem d_SqlReader_forget_0 : decode prog_1_method_12_code 0 = .ok (.aload_n 0, 1) := by decide +kernel
theorem d_SqlReader_forget_1 : decode prog_1_method_12_code 1 = .ok (.getfield 33, 3) := by decide +kernel
theorem d_SqlReader_forget_4 : decode prog_1_method_12_code 4 = .ok (.invokevirtual 179, 3) := by decide +kernel
theorem d_SqlReader_forget_7 : decode prog_1_method_12_code 7 = .ok (.aload_n 0, 1) := by decide +kernel
theorem d_SqlReader_forget_8 : decode prog_1_method_12_code 8 = .ok (.getfield 40, 3) := by decide +kernel
theorem d_SqlReader_forget_11 : decode prog_1_method_12_code 11 = .ok (.invokevirtual 180, 3) := by decide +kernel
theorem d_SqlReader_forget_14 : decode prog_1_method_12_code 14 = .ok (.aload_n 0, 1) := by decide +kernel
theorem d_SqlReader_forget_15 : decode prog_1_method_12_code 15 = .ok (.getfield 47, 3) := by decide +kernel
theorem d_SqlReader_forget_18 : decode prog_1_method_12_code 18 = .ok (.invokevirtual 181, 3) := by decide +kernel
theorem d_SqlReader_forget_21 : decode prog_1_method_12_code 21 = .ok (.return_, 1) := by decide +kernel
theorem d_SqlReader_letter_0 : decode prog_1_method_8_code 0 = .ok (.aload_n 0, 1) := by decide +kernel
theorem d_SqlReader_letter_1 : decode prog_1_method_8_code 1 = .ok (.getfield 33, 3) := by decide +kernel
theorem d_SqlReader_letter_4 : decode prog_1_method_8_code 4 = .ok (.iload_n 1, 1) := by decide +kernel
theorem d_SqlReader_letter_5 : decode prog_1_method_8_code 5 = .ok (.invokevirtual 113, 3) := by decide +kernel
theorem d_SqlReader_letter_8 : decode prog_1_method_8_code 8 = .ok (.iconst 2, 1) := by decide +kernel
theorem d_SqlReader_letter_9 : decode prog_1_method_8_code 9 = .ok (.if_icmp .ne 25, 3) := by decide +kernel
theorem d_SqlReader_letter_12 : decode prog_1_method_8_code 12 = .ok (.aload_n 0, 1) := by decide +kernel
theorem d_SqlReader_letter_13 : decode prog_1_method_8_code 13 = .ok (.getfield 26, 3) := by decide +kernel
theorem d_SqlReader_letter_16 : decode prog_1_method_8_code 16 = .ok (.invokevirtual 136, 3) := by decide +kernel
theorem d_SqlReader_letter_19 : decode prog_1_method_8_code 19 = .ok (.aload_n 0, 1) := by decide +kernel
theorem d_SqlReader_letter_20 : decode prog_1_method_8_code 20 = .ok (.getfield 33, 3) := by decide +kernel
theorem d_SqlReader_letter_23 : decode prog_1_method_8_code 23 = .ok (.iload_n 1, 1) := by decide +kernel
theorem d_SqlReader_letter_24 : decode prog_1_method_8_code 24 = .ok (.invokevirtual 126, 3) := by decide +kernel
theorem d_SqlReader_letter_27 : decode prog_1_method_8_code 27 = .ok (.iload_n 2, 1) := by decide +kernel
theorem d_SqlReader_letter_28 : decode prog_1_method_8_code 28 = .ok (.invokevirtual 140, 3) := by decide +kernel
theorem d_SqlReader_letter_31 : decode prog_1_method_8_code 31 = .ok (.goto 4, 3) := by decide +kernel
theorem d_SqlReader_letter_34 : decode prog_1_method_8_code 34 = .ok (.iconst (-1), 1) := by decide +kernel
theorem d_SqlReader_letter_35 : decode prog_1_method_8_code 35 = .ok (.ireturn, 1) := by decide +kernel
theorem d_SqlReader_list_0 : decode prog_1_method_10_code 0 = .ok (.iload_n 1, 1) := by decide +kernel
theorem d_SqlReader_list_1 : decode prog_1_method_10_code 1 = .ok (.bipush 9, 2) := by decide +kernel
theorem d_SqlReader_list_3 : decode prog_1_method_10_code 3 = .ok (.if_icmp .gt 15, 3) := by decide +kernel
theorem d_SqlReader_list_6 : decode prog_1_method_10_code 6 = .ok (.aload_n 0, 1) := by decide +kernel
theorem d_SqlReader_list_7 : decode prog_1_method_10_code 7 = .ok (.getfield 40, 3) := by decide +kernel
theorem d_SqlReader_list_10 : decode prog_1_method_10_code 10 = .ok (.iload_n 1, 1) := by decide +kernel
theorem d_SqlReader_list_11 : decode prog_1_method_10_code 11 = .ok (.iload_n 2, 1) := by decide +kernel
theorem d_SqlReader_list_12 : decode prog_1_method_10_code 12 = .ok (.invokevirtual 173, 3) := by decide +kernel
theorem d_SqlReader_list_15 : decode prog_1_method_10_code 15 = .ok (.goto 4, 3) := by decide +kernel
theorem d_SqlReader_list_18 : decode prog_1_method_10_code 18 = .ok (.iconst (-1), 1) := by decide +kernel
theorem d_SqlReader_list_19 : decode prog_1_method_10_code 19 = .ok (.ireturn, 1) := by decide +kernel
theorem d_SqlReader_name_0 : decode prog_1_method_11_code 0 = .ok (.iload_n 1, 1) := by decide +kernel
theorem d_SqlReader_name_1 : decode prog_1_method_11_code 1 = .ok (.iconst (-1), 1) := by decide +kernel
theorem d_SqlReader_name_2 : decode prog_1_method_11_code 2 = .ok (.if_icmp .ne 22, 3) := by decide +kernel
theorem d_SqlReader_name_5 : decode prog_1_method_11_code 5 = .ok (.aload_n 0, 1) := by decide +kernel
theorem d_SqlReader_name_6 : decode prog_1_method_11_code 6 = .ok (.getfield 26, 3) := by decide +kernel
theorem d_SqlReader_name_9 : decode prog_1_method_11_code 9 = .ok (.invokevirtual 136, 3) := by decide +kernel
theorem d_SqlReader_name_12 : decode prog_1_method_11_code 12 = .ok (.aload_n 0, 1) := by decide +kernel
theorem d_SqlReader_name_13 : decode prog_1_method_11_code 13 = .ok (.getfield 47, 3) := by decide +kernel
theorem d_SqlReader_name_16 : decode prog_1_method_11_code 16 = .ok (.getfield 176, 3) := by decide +kernel
theorem d_SqlReader_name_19 : decode prog_1_method_11_code 19 = .ok (.iload_n 2, 1) := by decide +kernel
theorem d_SqlReader_name_20 : decode prog_1_method_11_code 20 = .ok (.invokevirtual 140, 3) := by decide +kernel
theorem d_SqlReader_name_23 : decode prog_1_method_11_code 23 = .ok (.ireturn, 1) := by decide +kernel
theorem d_SqlReader_name_24 : decode prog_1_method_11_code 24 = .ok (.aload_n 0, 1) := by decide +kernel
theorem d_SqlReader_name_25 : decode prog_1_method_11_code 25 = .ok (.getfield 47, 3) := by decide +kernel
theorem d_SqlReader_name_28 : decode prog_1_method_11_code 28 = .ok (.getfield 109, 3) := by decide +kernel
theorem d_SqlReader_name_31 : decode prog_1_method_11_code 31 = .ok (.iconst 1, 1) := by decide +kernel
theorem d_SqlReader_name_32 : decode prog_1_method_11_code 32 = .ok (.if_icmp .ne 7, 3) := by decide +kernel
theorem d_SqlReader_name_35 : decode prog_1_method_11_code 35 = .ok (.iconst 1, 1) := by decide +kernel
theorem d_SqlReader_name_36 : decode prog_1_method_11_code 36 = .ok (.goto 4, 3) := by decide +kernel
theorem d_SqlReader_name_39 : decode prog_1_method_11_code 39 = .ok (.iconst 0, 1) := by decide +kernel
theorem d_SqlReader_name_40 : decode prog_1_method_11_code 40 = .ok (.istore_n 3, 1) := by decide +kernel
theorem d_SqlReader_name_41 : decode prog_1_method_11_code 41 = .ok (.iload_n 3, 1) := by decide +kernel
theorem d_SqlReader_name_42 : decode prog_1_method_11_code 42 = .ok (.ifCond .eq 27, 3) := by decide +kernel
theorem d_SqlReader_name_45 : decode prog_1_method_11_code 45 = .ok (.aload_n 0, 1) := by decide +kernel
theorem d_SqlReader_name_46 : decode prog_1_method_11_code 46 = .ok (.getfield 26, 3) := by decide +kernel
theorem d_SqlReader_name_49 : decode prog_1_method_11_code 49 = .ok (.invokevirtual 136, 3) := by decide +kernel
theorem d_SqlReader_name_52 : decode prog_1_method_11_code 52 = .ok (.aload_n 0, 1) := by decide +kernel
theorem d_SqlReader_name_53 : decode prog_1_method_11_code 53 = .ok (.getfield 40, 3) := by decide +kernel
theorem d_SqlReader_name_56 : decode prog_1_method_11_code 56 = .ok (.bipush 13, 2) := by decide +kernel
theorem d_SqlReader_name_58 : decode prog_1_method_11_code 58 = .ok (.iload_n 1, 1) := by decide +kernel
theorem d_SqlReader_name_59 : decode prog_1_method_11_code 59 = .ok (.invokevirtual 173, 3) := by decide +kernel
theorem d_SqlReader_name_62 : decode prog_1_method_11_code 62 = .ok (.iload_n 2, 1) := by decide +kernel
theorem d_SqlReader_name_63 : decode prog_1_method_11_code 63 = .ok (.invokevirtual 140, 3) := by decide +kernel
theorem d_SqlReader_name_66 : decode prog_1_method_11_code 66 = .ok (.goto 4, 3) := by decide +kernel
theorem d_SqlReader_name_69 : decode prog_1_method_11_code 69 = .ok (.iconst (-1), 1) := by decide +kernel
theorem d_SqlReader_name_70 : decode prog_1_method_11_code 70 = .ok (.ireturn, 1) := by decide +kernel
theorem d_SqlReader_node_0 : decode prog_1_method_6_code 0 = .ok (.iload_n 2, 1) := by decide +kernel
theorem d_SqlReader_node_1 : decode prog_1_method_6_code 1 = .ok (.tableswitch 67 0 3 #[31, 40, 49, 58], 31) := by decide +kernel
theorem d_SqlReader_node_32 : decode prog_1_method_6_code 32 = .ok (.aload_n 0, 1) := by decide +kernel
theorem d_SqlReader_node_33 : decode prog_1_method_6_code 33 = .ok (.getfield 33, 3) := by decide +kernel
theorem d_SqlReader_node_36 : decode prog_1_method_6_code 36 = .ok (.iload_n 1, 1) := by decide +kernel
theorem d_SqlReader_node_37 : decode prog_1_method_6_code 37 = .ok (.invokevirtual 113, 3) := by decide +kernel
theorem d_SqlReader_node_40 : decode prog_1_method_6_code 40 = .ok (.ireturn, 1) := by decide +kernel
theorem d_SqlReader_node_41 : decode prog_1_method_6_code 41 = .ok (.aload_n 0, 1) := by decide +kernel
theorem d_SqlReader_node_42 : decode prog_1_method_6_code 42 = .ok (.getfield 33, 3) := by decide +kernel
theorem d_SqlReader_node_45 : decode prog_1_method_6_code 45 = .ok (.iload_n 1, 1) := by decide +kernel
theorem d_SqlReader_node_46 : decode prog_1_method_6_code 46 = .ok (.invokevirtual 117, 3) := by decide +kernel
theorem d_SqlReader_node_49 : decode prog_1_method_6_code 49 = .ok (.ireturn, 1) := by decide +kernel
theorem d_SqlReader_node_50 : decode prog_1_method_6_code 50 = .ok (.aload_n 0, 1) := by decide +kernel
theorem d_SqlReader_node_51 : decode prog_1_method_6_code 51 = .ok (.getfield 33, 3) := by decide +kernel
theorem d_SqlReader_node_54 : decode prog_1_method_6_code 54 = .ok (.iload_n 1, 1) := by decide +kernel
theorem d_SqlReader_node_55 : decode prog_1_method_6_code 55 = .ok (.invokevirtual 120, 3) := by decide +kernel
theorem d_SqlReader_node_58 : decode prog_1_method_6_code 58 = .ok (.ireturn, 1) := by decide +kernel
theorem d_SqlReader_node_59 : decode prog_1_method_6_code 59 = .ok (.aload_n 0, 1) := by decide +kernel
theorem d_SqlReader_node_60 : decode prog_1_method_6_code 60 = .ok (.getfield 33, 3) := by decide +kernel
theorem d_SqlReader_node_63 : decode prog_1_method_6_code 63 = .ok (.iload_n 1, 1) := by decide +kernel
theorem d_SqlReader_node_64 : decode prog_1_method_6_code 64 = .ok (.invokevirtual 123, 3) := by decide +kernel
theorem d_SqlReader_node_67 : decode prog_1_method_6_code 67 = .ok (.ireturn, 1) := by decide +kernel
theorem d_SqlReader_node_68 : decode prog_1_method_6_code 68 = .ok (.iconst (-1), 1) := by decide +kernel
theorem d_SqlReader_node_69 : decode prog_1_method_6_code 69 = .ok (.ireturn, 1) := by decide +kernel
theorem d_SqlReader_read_0 : decode prog_1_method_5_code 0 = .ok (.aload_n 0, 1) := by decide +kernel
theorem d_SqlReader_read_1 : decode prog_1_method_5_code 1 = .ok (.invokevirtual 84, 3) := by decide +kernel
theorem d_SqlReader_read_4 : decode prog_1_method_5_code 4 = .ok (.aload_n 0, 1) := by decide +kernel
theorem d_SqlReader_read_5 : decode prog_1_method_5_code 5 = .ok (.getfield 26, 3) := by decide +kernel
theorem d_SqlReader_read_8 : decode prog_1_method_5_code 8 = .ok (.aload_n 0, 1) := by decide +kernel
theorem d_SqlReader_read_9 : decode prog_1_method_5_code 9 = .ok (.getfield 10, 3) := by decide +kernel
theorem d_SqlReader_read_12 : decode prog_1_method_5_code 12 = .ok (.invokevirtual 87, 3) := by decide +kernel
theorem d_SqlReader_read_15 : decode prog_1_method_5_code 15 = .ok (.istore_n 1, 1) := by decide +kernel
theorem d_SqlReader_read_16 : decode prog_1_method_5_code 16 = .ok (.aload_n 0, 1) := by decide +kernel
theorem d_SqlReader_read_17 : decode prog_1_method_5_code 17 = .ok (.getfield 10, 3) := by decide +kernel
theorem d_SqlReader_read_20 : decode prog_1_method_5_code 20 = .ok (.invokevirtual 77, 3) := by decide +kernel
theorem d_SqlReader_read_23 : decode prog_1_method_5_code 23 = .ok (.iload_n 1, 1) := by decide +kernel
theorem d_SqlReader_read_24 : decode prog_1_method_5_code 24 = .ok (.ifCond .eq 37, 3) := by decide +kernel
theorem d_SqlReader_read_27 : decode prog_1_method_5_code 27 = .ok (.aload_n 0, 1) := by decide +kernel
theorem d_SqlReader_read_28 : decode prog_1_method_5_code 28 = .ok (.getfield 56, 3) := by decide +kernel
theorem d_SqlReader_read_31 : decode prog_1_method_5_code 31 = .ok (.invokevirtual 91, 3) := by decide +kernel
theorem d_SqlReader_read_34 : decode prog_1_method_5_code 34 = .ok (.ifCond .eq 27, 3) := by decide +kernel
theorem d_SqlReader_read_37 : decode prog_1_method_5_code 37 = .ok (.aload_n 0, 1) := by decide +kernel
theorem d_SqlReader_read_38 : decode prog_1_method_5_code 38 = .ok (.getfield 56, 3) := by decide +kernel
theorem d_SqlReader_read_41 : decode prog_1_method_5_code 41 = .ok (.invokevirtual 95, 3) := by decide +kernel
theorem d_SqlReader_read_44 : decode prog_1_method_5_code 44 = .ok (.ifCond .eq 17, 3) := by decide +kernel
theorem d_SqlReader_read_47 : decode prog_1_method_5_code 47 = .ok (.aload_n 0, 1) := by decide +kernel
theorem d_SqlReader_read_48 : decode prog_1_method_5_code 48 = .ok (.getfield 56, 3) := by decide +kernel
theorem d_SqlReader_read_51 : decode prog_1_method_5_code 51 = .ok (.invokevirtual 98, 3) := by decide +kernel
theorem d_SqlReader_read_54 : decode prog_1_method_5_code 54 = .ok (.ifCond .eq 7, 3) := by decide +kernel
theorem d_SqlReader_read_57 : decode prog_1_method_5_code 57 = .ok (.iconst 1, 1) := by decide +kernel
theorem d_SqlReader_read_58 : decode prog_1_method_5_code 58 = .ok (.goto 4, 3) := by decide +kernel
theorem d_SqlReader_read_61 : decode prog_1_method_5_code 61 = .ok (.iconst 0, 1) := by decide +kernel
theorem d_SqlReader_read_62 : decode prog_1_method_5_code 62 = .ok (.istore_n 2, 1) := by decide +kernel
theorem d_SqlReader_read_63 : decode prog_1_method_5_code 63 = .ok (.iload_n 2, 1) := by decide +kernel
theorem d_SqlReader_read_64 : decode prog_1_method_5_code 64 = .ok (.ifCond .ne 7, 3) := by decide +kernel
theorem d_SqlReader_read_67 : decode prog_1_method_5_code 67 = .ok (.iconst 1, 1) := by decide +kernel
theorem d_SqlReader_read_68 : decode prog_1_method_5_code 68 = .ok (.goto 38, 3) := by decide +kernel
theorem d_SqlReader_read_71 : decode prog_1_method_5_code 71 = .ok (.aload_n 0, 1) := by decide +kernel
theorem d_SqlReader_read_72 : decode prog_1_method_5_code 72 = .ok (.getfield 33, 3) := by decide +kernel
theorem d_SqlReader_read_75 : decode prog_1_method_5_code 75 = .ok (.invokevirtual 101, 3) := by decide +kernel
theorem d_SqlReader_read_78 : decode prog_1_method_5_code 78 = .ok (.ifCond .eq 7, 3) := by decide +kernel
theorem d_SqlReader_read_81 : decode prog_1_method_5_code 81 = .ok (.iconst 2, 1) := by decide +kernel
theorem d_SqlReader_read_82 : decode prog_1_method_5_code 82 = .ok (.goto 24, 3) := by decide +kernel
theorem d_SqlReader_read_85 : decode prog_1_method_5_code 85 = .ok (.aload_n 0, 1) := by decide +kernel
theorem d_SqlReader_read_86 : decode prog_1_method_5_code 86 = .ok (.getfield 40, 3) := by decide +kernel
theorem d_SqlReader_read_89 : decode prog_1_method_5_code 89 = .ok (.invokevirtual 104, 3) := by decide +kernel
theorem d_SqlReader_read_92 : decode prog_1_method_5_code 92 = .ok (.ifCond .eq 7, 3) := by decide +kernel
theorem d_SqlReader_read_95 : decode prog_1_method_5_code 95 = .ok (.iconst 3, 1) := by decide +kernel
theorem d_SqlReader_read_96 : decode prog_1_method_5_code 96 = .ok (.goto 10, 3) := by decide +kernel
theorem d_SqlReader_read_99 : decode prog_1_method_5_code 99 = .ok (.aload_n 0, 1) := by decide +kernel
theorem d_SqlReader_read_100 : decode prog_1_method_5_code 100 = .ok (.getfield 65, 3) := by decide +kernel
theorem d_SqlReader_read_103 : decode prog_1_method_5_code 103 = .ok (.invokevirtual 105, 3) := by decide +kernel
theorem d_SqlReader_read_106 : decode prog_1_method_5_code 106 = .ok (.istore_n 3, 1) := by decide +kernel
theorem d_SqlReader_read_107 : decode prog_1_method_5_code 107 = .ok (.iload_n 3, 1) := by decide +kernel
theorem d_SqlReader_read_108 : decode prog_1_method_5_code 108 = .ok (.ifCond .le 10, 3) := by decide +kernel
theorem d_SqlReader_read_111 : decode prog_1_method_5_code 111 = .ok (.aload_n 0, 1) := by decide +kernel
theorem d_SqlReader_read_112 : decode prog_1_method_5_code 112 = .ok (.invokevirtual 84, 3) := by decide +kernel
theorem d_SqlReader_read_115 : decode prog_1_method_5_code 115 = .ok (.iload_n 3, 1) := by decide +kernel
theorem d_SqlReader_read_116 : decode prog_1_method_5_code 116 = .ok (.ineg, 1) := by decide +kernel
theorem d_SqlReader_read_117 : decode prog_1_method_5_code 117 = .ok (.ireturn, 1) := by decide +kernel
theorem d_SqlReader_read_118 : decode prog_1_method_5_code 118 = .ok (.aload_n 0, 1) := by decide +kernel
theorem d_SqlReader_read_119 : decode prog_1_method_5_code 119 = .ok (.getfield 47, 3) := by decide +kernel
theorem d_SqlReader_read_122 : decode prog_1_method_5_code 122 = .ok (.getfield 109, 3) := by decide +kernel
theorem d_SqlReader_read_125 : decode prog_1_method_5_code 125 = .ok (.ireturn, 1) := by decide +kernel
theorem d_SqlReader_table_0 : decode prog_1_method_3_code 0 = .ok (.aload_n 0, 1) := by decide +kernel
theorem d_SqlReader_table_1 : decode prog_1_method_3_code 1 = .ok (.getfield 19, 3) := by decide +kernel
theorem d_SqlReader_table_4 : decode prog_1_method_3_code 4 = .ok (.aload_n 0, 1) := by decide +kernel
theorem d_SqlReader_table_5 : decode prog_1_method_3_code 5 = .ok (.getfield 10, 3) := by decide +kernel
theorem d_SqlReader_table_8 : decode prog_1_method_3_code 8 = .ok (.invokevirtual 73, 3) := by decide +kernel
theorem d_SqlReader_table_11 : decode prog_1_method_3_code 11 = .ok (.istore_n 1, 1) := by decide +kernel
theorem d_SqlReader_table_12 : decode prog_1_method_3_code 12 = .ok (.aload_n 0, 1) := by decide +kernel
theorem d_SqlReader_table_13 : decode prog_1_method_3_code 13 = .ok (.getfield 10, 3) := by decide +kernel
theorem d_SqlReader_table_16 : decode prog_1_method_3_code 16 = .ok (.invokevirtual 77, 3) := by decide +kernel
theorem d_SqlReader_table_19 : decode prog_1_method_3_code 19 = .ok (.iload_n 1, 1) := by decide +kernel
theorem d_SqlReader_table_20 : decode prog_1_method_3_code 20 = .ok (.ireturn, 1) := by decide +kernel
theorem d_SqlReader_type_0 : decode prog_1_method_2_code 0 = .ok (.aload_n 0, 1) := by decide +kernel
theorem d_SqlReader_type_1 : decode prog_1_method_2_code 1 = .ok (.getfield 10, 3) := by decide +kernel
theorem d_SqlReader_type_4 : decode prog_1_method_2_code 4 = .ok (.lload_n 1, 1) := by decide +kernel
theorem d_SqlReader_type_5 : decode prog_1_method_2_code 5 = .ok (.iload_n 3, 1) := by decide +kernel
theorem d_SqlReader_type_6 : decode prog_1_method_2_code 6 = .ok (.invokevirtual 69, 3) := by decide +kernel
theorem d_SqlReader_type_9 : decode prog_1_method_2_code 9 = .ok (.ireturn, 1) := by decide +kernel
theorem d_SqlReader_value_0 : decode prog_1_method_7_code 0 = .ok (.aload_n 0, 1) := by decide +kernel
theorem d_SqlReader_value_1 : decode prog_1_method_7_code 1 = .ok (.getfield 33, 3) := by decide +kernel
theorem d_SqlReader_value_4 : decode prog_1_method_7_code 4 = .ok (.iload_n 1, 1) := by decide +kernel
theorem d_SqlReader_value_5 : decode prog_1_method_7_code 5 = .ok (.invokevirtual 113, 3) := by decide +kernel
theorem d_SqlReader_value_8 : decode prog_1_method_7_code 8 = .ok (.istore_n 2, 1) := by decide +kernel
theorem d_SqlReader_value_9 : decode prog_1_method_7_code 9 = .ok (.iload_n 2, 1) := by decide +kernel
theorem d_SqlReader_value_10 : decode prog_1_method_7_code 10 = .ok (.iconst 1, 1) := by decide +kernel
theorem d_SqlReader_value_11 : decode prog_1_method_7_code 11 = .ok (.if_icmp .ne 19, 3) := by decide +kernel
theorem d_SqlReader_value_14 : decode prog_1_method_7_code 14 = .ok (.aload_n 0, 1) := by decide +kernel
theorem d_SqlReader_value_15 : decode prog_1_method_7_code 15 = .ok (.getfield 26, 3) := by decide +kernel
theorem d_SqlReader_value_18 : decode prog_1_method_7_code 18 = .ok (.aload_n 0, 1) := by decide +kernel
theorem d_SqlReader_value_19 : decode prog_1_method_7_code 19 = .ok (.getfield 33, 3) := by decide +kernel
theorem d_SqlReader_value_22 : decode prog_1_method_7_code 22 = .ok (.iload_n 1, 1) := by decide +kernel
theorem d_SqlReader_value_23 : decode prog_1_method_7_code 23 = .ok (.invokevirtual 126, 3) := by decide +kernel
theorem d_SqlReader_value_26 : decode prog_1_method_7_code 26 = .ok (.invokevirtual 129, 3) := by decide +kernel
theorem d_SqlReader_value_29 : decode prog_1_method_7_code 29 = .ok (.lreturn, 1) := by decide +kernel
theorem d_SqlReader_value_30 : decode prog_1_method_7_code 30 = .ok (.iload_n 2, 1) := by decide +kernel
theorem d_SqlReader_value_31 : decode prog_1_method_7_code 31 = .ok (.iconst 2, 1) := by decide +kernel
theorem d_SqlReader_value_32 : decode prog_1_method_7_code 32 = .ok (.if_icmp .ne 18, 3) := by decide +kernel
theorem d_SqlReader_value_35 : decode prog_1_method_7_code 35 = .ok (.aload_n 0, 1) := by decide +kernel
theorem d_SqlReader_value_36 : decode prog_1_method_7_code 36 = .ok (.getfield 33, 3) := by decide +kernel
theorem d_SqlReader_value_39 : decode prog_1_method_7_code 39 = .ok (.iload_n 1, 1) := by decide +kernel
theorem d_SqlReader_value_40 : decode prog_1_method_7_code 40 = .ok (.invokevirtual 126, 3) := by decide +kernel
theorem d_SqlReader_value_43 : decode prog_1_method_7_code 43 = .ok (.invokestatic 133, 3) := by decide +kernel
theorem d_SqlReader_value_46 : decode prog_1_method_7_code 46 = .ok (.i2l, 1) := by decide +kernel
theorem d_SqlReader_value_47 : decode prog_1_method_7_code 47 = .ok (.goto 4, 3) := by decide +kernel
theorem d_SqlReader_value_50 : decode prog_1_method_7_code 50 = .ok (.lconst 0, 1) := by decide +kernel
theorem d_SqlReader_value_51 : decode prog_1_method_7_code 51 = .ok (.lreturn, 1) := by decide +kernel
theorem d_Catalog_addColumn_0 : decode prog_2_method_3_code 0 = .ok (.aload_n 3, 1) := by decide +kernel
theorem d_Catalog_addColumn_1 : decode prog_2_method_3_code 1 = .ok (.invokevirtual 31, 3) := by decide +kernel
theorem d_Catalog_addColumn_4 : decode prog_2_method_3_code 4 = .ok (.ifCond .eq 21, 3) := by decide +kernel
theorem d_Catalog_addColumn_7 : decode prog_2_method_3_code 7 = .ok (.aload_n 0, 1) := by decide +kernel
theorem d_Catalog_addColumn_8 : decode prog_2_method_3_code 8 = .ok (.iload_n 1, 1) := by decide +kernel
theorem d_Catalog_addColumn_9 : decode prog_2_method_3_code 9 = .ok (.invokevirtual 55, 3) := by decide +kernel
theorem d_Catalog_addColumn_12 : decode prog_2_method_3_code 12 = .ok (.ifCond .eq 13, 3) := by decide +kernel
theorem d_Catalog_addColumn_15 : decode prog_2_method_3_code 15 = .ok (.iload_n 2, 1) := by decide +kernel
theorem d_Catalog_addColumn_16 : decode prog_2_method_3_code 16 = .ok (.iconst 1, 1) := by decide +kernel
theorem d_Catalog_addColumn_17 : decode prog_2_method_3_code 17 = .ok (.if_icmp .lt 8, 3) := by decide +kernel
theorem d_Catalog_addColumn_20 : decode prog_2_method_3_code 20 = .ok (.iload_n 2, 1) := by decide +kernel
theorem d_Catalog_addColumn_21 : decode prog_2_method_3_code 21 = .ok (.iconst 3, 1) := by decide +kernel
theorem d_Catalog_addColumn_22 : decode prog_2_method_3_code 22 = .ok (.if_icmp .le 5, 3) := by decide +kernel
theorem d_Catalog_addColumn_25 : decode prog_2_method_3_code 25 = .ok (.iconst (-1), 1) := by decide +kernel
theorem d_Catalog_addColumn_26 : decode prog_2_method_3_code 26 = .ok (.ireturn, 1) := by decide +kernel
theorem d_Catalog_addColumn_27 : decode prog_2_method_3_code 27 = .ok (.aload_n 0, 1) := by decide +kernel
theorem d_Catalog_addColumn_28 : decode prog_2_method_3_code 28 = .ok (.getfield 22, 3) := by decide +kernel
theorem d_Catalog_addColumn_31 : decode prog_2_method_3_code 31 = .ok (.iload_n 1, 1) := by decide +kernel
theorem d_Catalog_addColumn_32 : decode prog_2_method_3_code 32 = .ok (.iaload, 1) := by decide +kernel
theorem d_Catalog_addColumn_33 : decode prog_2_method_3_code 33 = .ok (.istore 4, 2) := by decide +kernel
theorem d_Catalog_addColumn_35 : decode prog_2_method_3_code 35 = .ok (.iload 4, 2) := by decide +kernel
theorem d_Catalog_addColumn_37 : decode prog_2_method_3_code 37 = .ok (.bipush 8, 2) := by decide +kernel
theorem d_Catalog_addColumn_39 : decode prog_2_method_3_code 39 = .ok (.if_icmp .lt 5, 3) := by decide +kernel
theorem d_Catalog_addColumn_42 : decode prog_2_method_3_code 42 = .ok (.iconst (-1), 1) := by decide +kernel
theorem d_Catalog_addColumn_43 : decode prog_2_method_3_code 43 = .ok (.ireturn, 1) := by decide +kernel
theorem d_Catalog_addColumn_44 : decode prog_2_method_3_code 44 = .ok (.aload_n 0, 1) := by decide +kernel
theorem d_Catalog_addColumn_45 : decode prog_2_method_3_code 45 = .ok (.iload_n 1, 1) := by decide +kernel
theorem d_Catalog_addColumn_46 : decode prog_2_method_3_code 46 = .ok (.aload_n 3, 1) := by decide +kernel
theorem d_Catalog_addColumn_47 : decode prog_2_method_3_code 47 = .ok (.iconst 0, 1) := by decide +kernel
theorem d_Catalog_addColumn_48 : decode prog_2_method_3_code 48 = .ok (.aload_n 3, 1) := by decide +kernel
theorem d_Catalog_addColumn_49 : decode prog_2_method_3_code 49 = .ok (.invokevirtual 39, 3) := by decide +kernel
theorem d_Catalog_addColumn_52 : decode prog_2_method_3_code 52 = .ok (.invokestatic 43, 3) := by decide +kernel
theorem d_Catalog_addColumn_55 : decode prog_2_method_3_code 55 = .ok (.invokevirtual 59, 3) := by decide +kernel
theorem d_Catalog_addColumn_58 : decode prog_2_method_3_code 58 = .ok (.ifCond .lt 6, 3) := by decide +kernel
theorem d_Catalog_addColumn_61 : decode prog_2_method_3_code 61 = .ok (.bipush (-2), 2) := by decide +kernel
theorem d_Catalog_addColumn_63 : decode prog_2_method_3_code 63 = .ok (.ireturn, 1) := by decide +kernel
theorem d_Catalog_addColumn_64 : decode prog_2_method_3_code 64 = .ok (.aload_n 0, 1) := by decide +kernel
theorem d_Catalog_addColumn_65 : decode prog_2_method_3_code 65 = .ok (.getfield 25, 3) := by decide +kernel
theorem d_Catalog_addColumn_68 : decode prog_2_method_3_code 68 = .ok (.iload_n 1, 1) := by decide +kernel
theorem d_Catalog_addColumn_69 : decode prog_2_method_3_code 69 = .ok (.bipush 8, 2) := by decide +kernel
theorem d_Catalog_addColumn_71 : decode prog_2_method_3_code 71 = .ok (.imul, 1) := by decide +kernel
theorem d_Catalog_addColumn_72 : decode prog_2_method_3_code 72 = .ok (.iload 4, 2) := by decide +kernel
theorem d_Catalog_addColumn_74 : decode prog_2_method_3_code 74 = .ok (.iadd, 1) := by decide +kernel
theorem d_Catalog_addColumn_75 : decode prog_2_method_3_code 75 = .ok (.aload_n 0, 1) := by decide +kernel
theorem d_Catalog_addColumn_76 : decode prog_2_method_3_code 76 = .ok (.getfield 12, 3) := by decide +kernel
theorem d_Catalog_addColumn_79 : decode prog_2_method_3_code 79 = .ok (.aload_n 3, 1) := by decide +kernel
theorem d_Catalog_addColumn_80 : decode prog_2_method_3_code 80 = .ok (.invokevirtual 51, 3) := by decide +kernel
theorem d_Catalog_addColumn_83 : decode prog_2_method_3_code 83 = .ok (.iastore, 1) := by decide +kernel
theorem d_Catalog_addColumn_84 : decode prog_2_method_3_code 84 = .ok (.aload_n 0, 1) := by decide +kernel
theorem d_Catalog_addColumn_85 : decode prog_2_method_3_code 85 = .ok (.getfield 28, 3) := by decide +kernel
theorem d_Catalog_addColumn_88 : decode prog_2_method_3_code 88 = .ok (.iload_n 1, 1) := by decide +kernel
theorem d_Catalog_addColumn_89 : decode prog_2_method_3_code 89 = .ok (.bipush 8, 2) := by decide +kernel
theorem d_Catalog_addColumn_91 : decode prog_2_method_3_code 91 = .ok (.imul, 1) := by decide +kernel
theorem d_Catalog_addColumn_92 : decode prog_2_method_3_code 92 = .ok (.iload 4, 2) := by decide +kernel
theorem d_Catalog_addColumn_94 : decode prog_2_method_3_code 94 = .ok (.iadd, 1) := by decide +kernel
theorem d_Catalog_addColumn_95 : decode prog_2_method_3_code 95 = .ok (.iload_n 2, 1) := by decide +kernel
theorem d_Catalog_addColumn_96 : decode prog_2_method_3_code 96 = .ok (.iastore, 1) := by decide +kernel
theorem d_Catalog_addColumn_97 : decode prog_2_method_3_code 97 = .ok (.aload_n 0, 1) := by decide +kernel
theorem d_Catalog_addColumn_98 : decode prog_2_method_3_code 98 = .ok (.getfield 22, 3) := by decide +kernel
theorem d_Catalog_addColumn_101 : decode prog_2_method_3_code 101 = .ok (.iload_n 1, 1) := by decide +kernel
theorem d_Catalog_addColumn_102 : decode prog_2_method_3_code 102 = .ok (.iload 4, 2) := by decide +kernel
theorem d_Catalog_addColumn_104 : decode prog_2_method_3_code 104 = .ok (.iconst 1, 1) := by decide +kernel
theorem d_Catalog_addColumn_105 : decode prog_2_method_3_code 105 = .ok (.iadd, 1) := by decide +kernel
theorem d_Catalog_addColumn_106 : decode prog_2_method_3_code 106 = .ok (.iastore, 1) := by decide +kernel
theorem d_Catalog_addColumn_107 : decode prog_2_method_3_code 107 = .ok (.iload 4, 2) := by decide +kernel
theorem d_Catalog_addColumn_109 : decode prog_2_method_3_code 109 = .ok (.ireturn, 1) := by decide +kernel
theorem d_Catalog_addTable_0 : decode prog_2_method_2_code 0 = .ok (.aload_n 1, 1) := by decide +kernel
theorem d_Catalog_addTable_1 : decode prog_2_method_2_code 1 = .ok (.invokevirtual 31, 3) := by decide +kernel
theorem d_Catalog_addTable_4 : decode prog_2_method_2_code 4 = .ok (.ifCond .eq 12, 3) := by decide +kernel
theorem d_Catalog_addTable_7 : decode prog_2_method_2_code 7 = .ok (.aload_n 0, 1) := by decide +kernel
theorem d_Catalog_addTable_8 : decode prog_2_method_2_code 8 = .ok (.getfield 35, 3) := by decide +kernel
theorem d_Catalog_addTable_11 : decode prog_2_method_2_code 11 = .ok (.bipush 8, 2) := by decide +kernel
theorem d_Catalog_addTable_13 : decode prog_2_method_2_code 13 = .ok (.if_icmp .lt 5, 3) := by decide +kernel
theorem d_Catalog_addTable_16 : decode prog_2_method_2_code 16 = .ok (.iconst (-1), 1) := by decide +kernel
theorem d_Catalog_addTable_17 : decode prog_2_method_2_code 17 = .ok (.ireturn, 1) := by decide +kernel
theorem d_Catalog_addTable_18 : decode prog_2_method_2_code 18 = .ok (.aload_n 0, 1) := by decide +kernel
theorem d_Catalog_addTable_19 : decode prog_2_method_2_code 19 = .ok (.aload_n 1, 1) := by decide +kernel
theorem d_Catalog_addTable_20 : decode prog_2_method_2_code 20 = .ok (.iconst 0, 1) := by decide +kernel
theorem d_Catalog_addTable_21 : decode prog_2_method_2_code 21 = .ok (.aload_n 1, 1) := by decide +kernel
theorem d_Catalog_addTable_22 : decode prog_2_method_2_code 22 = .ok (.invokevirtual 39, 3) := by decide +kernel
theorem d_Catalog_addTable_25 : decode prog_2_method_2_code 25 = .ok (.invokestatic 43, 3) := by decide +kernel
theorem d_Catalog_addTable_28 : decode prog_2_method_2_code 28 = .ok (.invokevirtual 47, 3) := by decide +kernel
theorem d_Catalog_addTable_31 : decode prog_2_method_2_code 31 = .ok (.ifCond .lt 6, 3) := by decide +kernel
theorem d_Catalog_addTable_34 : decode prog_2_method_2_code 34 = .ok (.bipush (-2), 2) := by decide +kernel
theorem d_Catalog_addTable_36 : decode prog_2_method_2_code 36 = .ok (.ireturn, 1) := by decide +kernel
theorem d_Catalog_addTable_37 : decode prog_2_method_2_code 37 = .ok (.aload_n 0, 1) := by decide +kernel
theorem d_Catalog_addTable_38 : decode prog_2_method_2_code 38 = .ok (.getfield 18, 3) := by decide +kernel
theorem d_Catalog_addTable_41 : decode prog_2_method_2_code 41 = .ok (.aload_n 0, 1) := by decide +kernel
theorem d_Catalog_addTable_42 : decode prog_2_method_2_code 42 = .ok (.getfield 35, 3) := by decide +kernel
theorem d_Catalog_addTable_45 : decode prog_2_method_2_code 45 = .ok (.aload_n 0, 1) := by decide +kernel
theorem d_Catalog_addTable_46 : decode prog_2_method_2_code 46 = .ok (.getfield 12, 3) := by decide +kernel
theorem d_Catalog_addTable_49 : decode prog_2_method_2_code 49 = .ok (.aload_n 1, 1) := by decide +kernel
theorem d_Catalog_addTable_50 : decode prog_2_method_2_code 50 = .ok (.invokevirtual 51, 3) := by decide +kernel
theorem d_Catalog_addTable_53 : decode prog_2_method_2_code 53 = .ok (.iastore, 1) := by decide +kernel
theorem d_Catalog_addTable_54 : decode prog_2_method_2_code 54 = .ok (.aload_n 0, 1) := by decide +kernel
theorem d_Catalog_addTable_55 : decode prog_2_method_2_code 55 = .ok (.dup, 1) := by decide +kernel
theorem d_Catalog_addTable_56 : decode prog_2_method_2_code 56 = .ok (.getfield 35, 3) := by decide +kernel
theorem d_Catalog_addTable_59 : decode prog_2_method_2_code 59 = .ok (.iconst 1, 1) := by decide +kernel
theorem d_Catalog_addTable_60 : decode prog_2_method_2_code 60 = .ok (.iadd, 1) := by decide +kernel
theorem d_Catalog_addTable_61 : decode prog_2_method_2_code 61 = .ok (.putfield 35, 3) := by decide +kernel
theorem d_Catalog_addTable_64 : decode prog_2_method_2_code 64 = .ok (.aload_n 0, 1) := by decide +kernel
theorem d_Catalog_addTable_65 : decode prog_2_method_2_code 65 = .ok (.getfield 35, 3) := by decide +kernel
theorem d_Catalog_addTable_68 : decode prog_2_method_2_code 68 = .ok (.iconst 1, 1) := by decide +kernel
theorem d_Catalog_addTable_69 : decode prog_2_method_2_code 69 = .ok (.isub, 1) := by decide +kernel
theorem d_Catalog_addTable_70 : decode prog_2_method_2_code 70 = .ok (.ireturn, 1) := by decide +kernel
theorem d_Catalog_columnsOf_0 : decode prog_2_method_6_code 0 = .ok (.aload_n 0, 1) := by decide +kernel
theorem d_Catalog_columnsOf_1 : decode prog_2_method_6_code 1 = .ok (.iload_n 1, 1) := by decide +kernel
theorem d_Catalog_columnsOf_2 : decode prog_2_method_6_code 2 = .ok (.invokevirtual 55, 3) := by decide +kernel
theorem d_Catalog_columnsOf_5 : decode prog_2_method_6_code 5 = .ok (.ifCond .eq 12, 3) := by decide +kernel
theorem d_Catalog_columnsOf_8 : decode prog_2_method_6_code 8 = .ok (.aload_n 0, 1) := by decide +kernel
theorem d_Catalog_columnsOf_9 : decode prog_2_method_6_code 9 = .ok (.getfield 22, 3) := by decide +kernel
theorem d_Catalog_columnsOf_12 : decode prog_2_method_6_code 12 = .ok (.iload_n 1, 1) := by decide +kernel
theorem d_Catalog_columnsOf_13 : decode prog_2_method_6_code 13 = .ok (.iaload, 1) := by decide +kernel
theorem d_Catalog_columnsOf_14 : decode prog_2_method_6_code 14 = .ok (.goto 4, 3) := by decide +kernel
theorem d_Catalog_columnsOf_17 : decode prog_2_method_6_code 17 = .ok (.iconst 0, 1) := by decide +kernel
theorem d_Catalog_columnsOf_18 : decode prog_2_method_6_code 18 = .ok (.ireturn, 1) := by decide +kernel
theorem d_Catalog_findColumn_0 : decode prog_2_method_5_code 0 = .ok (.iconst 0, 1) := by decide +kernel
theorem d_Catalog_findColumn_1 : decode prog_2_method_5_code 1 = .ok (.istore 4, 2) := by decide +kernel
theorem d_Catalog_findColumn_3 : decode prog_2_method_5_code 3 = .ok (.iload 4, 2) := by decide +kernel
theorem d_Catalog_findColumn_5 : decode prog_2_method_5_code 5 = .ok (.aload_n 0, 1) := by decide +kernel
theorem d_Catalog_findColumn_6 : decode prog_2_method_5_code 6 = .ok (.iload_n 1, 1) := by decide +kernel
theorem d_Catalog_findColumn_7 : decode prog_2_method_5_code 7 = .ok (.invokevirtual 67, 3) := by decide +kernel
theorem d_Catalog_findColumn_10 : decode prog_2_method_5_code 10 = .ok (.if_icmp .ge 36, 3) := by decide +kernel
theorem d_Catalog_findColumn_13 : decode prog_2_method_5_code 13 = .ok (.aload_n 0, 1) := by decide +kernel
theorem d_Catalog_findColumn_14 : decode prog_2_method_5_code 14 = .ok (.getfield 12, 3) := by decide +kernel
theorem d_Catalog_findColumn_17 : decode prog_2_method_5_code 17 = .ok (.aload_n 0, 1) := by decide +kernel
theorem d_Catalog_findColumn_18 : decode prog_2_method_5_code 18 = .ok (.getfield 25, 3) := by decide +kernel
theorem d_Catalog_findColumn_21 : decode prog_2_method_5_code 21 = .ok (.iload_n 1, 1) := by decide +kernel
theorem d_Catalog_findColumn_22 : decode prog_2_method_5_code 22 = .ok (.bipush 8, 2) := by decide +kernel
theorem d_Catalog_findColumn_24 : decode prog_2_method_5_code 24 = .ok (.imul, 1) := by decide +kernel
theorem d_Catalog_findColumn_25 : decode prog_2_method_5_code 25 = .ok (.iload 4, 2) := by decide +kernel
theorem d_Catalog_findColumn_27 : decode prog_2_method_5_code 27 = .ok (.iadd, 1) := by decide +kernel
theorem d_Catalog_findColumn_28 : decode prog_2_method_5_code 28 = .ok (.iaload, 1) := by decide +kernel
theorem d_Catalog_findColumn_29 : decode prog_2_method_5_code 29 = .ok (.aload_n 2, 1) := by decide +kernel
theorem d_Catalog_findColumn_30 : decode prog_2_method_5_code 30 = .ok (.iload_n 3, 1) := by decide +kernel
theorem d_Catalog_findColumn_31 : decode prog_2_method_5_code 31 = .ok (.invokevirtual 63, 3) := by decide +kernel
theorem d_Catalog_findColumn_34 : decode prog_2_method_5_code 34 = .ok (.ifCond .eq 6, 3) := by decide +kernel
theorem d_Catalog_findColumn_37 : decode prog_2_method_5_code 37 = .ok (.iload 4, 2) := by decide +kernel
theorem d_Catalog_findColumn_39 : decode prog_2_method_5_code 39 = .ok (.ireturn, 1) := by decide +kernel
theorem d_Catalog_findColumn_40 : decode prog_2_method_5_code 40 = .ok (.iinc 4 1, 3) := by decide +kernel
theorem d_Catalog_findColumn_43 : decode prog_2_method_5_code 43 = .ok (.goto (-40), 3) := by decide +kernel
theorem d_Catalog_findColumn_46 : decode prog_2_method_5_code 46 = .ok (.iconst (-1), 1) := by decide +kernel
theorem d_Catalog_findColumn_47 : decode prog_2_method_5_code 47 = .ok (.ireturn, 1) := by decide +kernel
theorem d_Catalog_findTable_0 : decode prog_2_method_4_code 0 = .ok (.iconst 0, 1) := by decide +kernel
theorem d_Catalog_findTable_1 : decode prog_2_method_4_code 1 = .ok (.istore_n 3, 1) := by decide +kernel
theorem d_Catalog_findTable_2 : decode prog_2_method_4_code 2 = .ok (.iload_n 3, 1) := by decide +kernel
theorem d_Catalog_findTable_3 : decode prog_2_method_4_code 3 = .ok (.aload_n 0, 1) := by decide +kernel
theorem d_Catalog_findTable_4 : decode prog_2_method_4_code 4 = .ok (.getfield 35, 3) := by decide +kernel
theorem d_Catalog_findTable_7 : decode prog_2_method_4_code 7 = .ok (.if_icmp .ge 29, 3) := by decide +kernel
theorem d_Catalog_findTable_10 : decode prog_2_method_4_code 10 = .ok (.aload_n 0, 1) := by decide +kernel
theorem d_Catalog_findTable_11 : decode prog_2_method_4_code 11 = .ok (.getfield 12, 3) := by decide +kernel
theorem d_Catalog_findTable_14 : decode prog_2_method_4_code 14 = .ok (.aload_n 0, 1) := by decide +kernel
theorem d_Catalog_findTable_15 : decode prog_2_method_4_code 15 = .ok (.getfield 18, 3) := by decide +kernel
theorem d_Catalog_findTable_18 : decode prog_2_method_4_code 18 = .ok (.iload_n 3, 1) := by decide +kernel
theorem d_Catalog_findTable_19 : decode prog_2_method_4_code 19 = .ok (.iaload, 1) := by decide +kernel
theorem d_Catalog_findTable_20 : decode prog_2_method_4_code 20 = .ok (.aload_n 1, 1) := by decide +kernel
theorem d_Catalog_findTable_21 : decode prog_2_method_4_code 21 = .ok (.iload_n 2, 1) := by decide +kernel
theorem d_Catalog_findTable_22 : decode prog_2_method_4_code 22 = .ok (.invokevirtual 63, 3) := by decide +kernel
theorem d_Catalog_findTable_25 : decode prog_2_method_4_code 25 = .ok (.ifCond .eq 5, 3) := by decide +kernel
theorem d_Catalog_findTable_28 : decode prog_2_method_4_code 28 = .ok (.iload_n 3, 1) := by decide +kernel
theorem d_Catalog_findTable_29 : decode prog_2_method_4_code 29 = .ok (.ireturn, 1) := by decide +kernel
theorem d_Catalog_findTable_30 : decode prog_2_method_4_code 30 = .ok (.iinc 3 1, 3) := by decide +kernel
theorem d_Catalog_findTable_33 : decode prog_2_method_4_code 33 = .ok (.goto (-31), 3) := by decide +kernel
theorem d_Catalog_findTable_36 : decode prog_2_method_4_code 36 = .ok (.iconst (-1), 1) := by decide +kernel
theorem d_Catalog_findTable_37 : decode prog_2_method_4_code 37 = .ok (.ireturn, 1) := by decide +kernel
theorem d_Catalog_has_0 : decode prog_2_method_8_code 0 = .ok (.iload_n 1, 1) := by decide +kernel
theorem d_Catalog_has_1 : decode prog_2_method_8_code 1 = .ok (.ifCond .lt 15, 3) := by decide +kernel
theorem d_Catalog_has_4 : decode prog_2_method_8_code 4 = .ok (.iload_n 1, 1) := by decide +kernel
theorem d_Catalog_has_5 : decode prog_2_method_8_code 5 = .ok (.aload_n 0, 1) := by decide +kernel
theorem d_Catalog_has_6 : decode prog_2_method_8_code 6 = .ok (.getfield 35, 3) := by decide +kernel
theorem d_Catalog_has_9 : decode prog_2_method_8_code 9 = .ok (.if_icmp .ge 7, 3) := by decide +kernel
theorem d_Catalog_has_12 : decode prog_2_method_8_code 12 = .ok (.iconst 1, 1) := by decide +kernel
theorem d_Catalog_has_13 : decode prog_2_method_8_code 13 = .ok (.goto 4, 3) := by decide +kernel
theorem d_Catalog_has_16 : decode prog_2_method_8_code 16 = .ok (.iconst 0, 1) := by decide +kernel
theorem d_Catalog_has_17 : decode prog_2_method_8_code 17 = .ok (.ireturn, 1) := by decide +kernel
theorem d_Catalog_typeOf_0 : decode prog_2_method_7_code 0 = .ok (.iload_n 2, 1) := by decide +kernel
theorem d_Catalog_typeOf_1 : decode prog_2_method_7_code 1 = .ok (.ifCond .lt 16, 3) := by decide +kernel
theorem d_Catalog_typeOf_4 : decode prog_2_method_7_code 4 = .ok (.iload_n 2, 1) := by decide +kernel
theorem d_Catalog_typeOf_5 : decode prog_2_method_7_code 5 = .ok (.aload_n 0, 1) := by decide +kernel
theorem d_Catalog_typeOf_6 : decode prog_2_method_7_code 6 = .ok (.iload_n 1, 1) := by decide +kernel
theorem d_Catalog_typeOf_7 : decode prog_2_method_7_code 7 = .ok (.invokevirtual 67, 3) := by decide +kernel
theorem d_Catalog_typeOf_10 : decode prog_2_method_7_code 10 = .ok (.if_icmp .ge 7, 3) := by decide +kernel
theorem d_Catalog_typeOf_13 : decode prog_2_method_7_code 13 = .ok (.iconst 1, 1) := by decide +kernel
theorem d_Catalog_typeOf_14 : decode prog_2_method_7_code 14 = .ok (.goto 4, 3) := by decide +kernel
theorem d_Catalog_typeOf_17 : decode prog_2_method_7_code 17 = .ok (.iconst 0, 1) := by decide +kernel
theorem d_Catalog_typeOf_18 : decode prog_2_method_7_code 18 = .ok (.istore_n 3, 1) := by decide +kernel
theorem d_Catalog_typeOf_19 : decode prog_2_method_7_code 19 = .ok (.iload_n 3, 1) := by decide +kernel
theorem d_Catalog_typeOf_20 : decode prog_2_method_7_code 20 = .ok (.ifCond .eq 17, 3) := by decide +kernel
theorem d_Catalog_typeOf_23 : decode prog_2_method_7_code 23 = .ok (.aload_n 0, 1) := by decide +kernel
theorem d_Catalog_typeOf_24 : decode prog_2_method_7_code 24 = .ok (.getfield 28, 3) := by decide +kernel
theorem d_Catalog_typeOf_27 : decode prog_2_method_7_code 27 = .ok (.iload_n 1, 1) := by decide +kernel
theorem d_Catalog_typeOf_28 : decode prog_2_method_7_code 28 = .ok (.bipush 8, 2) := by decide +kernel
theorem d_Catalog_typeOf_30 : decode prog_2_method_7_code 30 = .ok (.imul, 1) := by decide +kernel
theorem d_Catalog_typeOf_31 : decode prog_2_method_7_code 31 = .ok (.iload_n 2, 1) := by decide +kernel
theorem d_Catalog_typeOf_32 : decode prog_2_method_7_code 32 = .ok (.iadd, 1) := by decide +kernel
theorem d_Catalog_typeOf_33 : decode prog_2_method_7_code 33 = .ok (.iaload, 1) := by decide +kernel
theorem d_Catalog_typeOf_34 : decode prog_2_method_7_code 34 = .ok (.goto 4, 3) := by decide +kernel
theorem d_Catalog_typeOf_37 : decode prog_2_method_7_code 37 = .ok (.iconst 0, 1) := by decide +kernel
theorem d_Catalog_typeOf_38 : decode prog_2_method_7_code 38 = .ok (.ireturn, 1) := by decide +kernel
theorem d_Lists_add_0 : decode prog_3_method_5_code 0 = .ok (.iload_n 1, 1) := by decide +kernel
theorem d_Lists_add_1 : decode prog_3_method_5_code 1 = .ok (.ifCond .lt 23, 3) := by decide +kernel
theorem d_Lists_add_4 : decode prog_3_method_5_code 4 = .ok (.iload_n 1, 1) := by decide +kernel
theorem d_Lists_add_5 : decode prog_3_method_5_code 5 = .ok (.bipush 14, 2) := by decide +kernel
theorem d_Lists_add_7 : decode prog_3_method_5_code 7 = .ok (.if_icmp .ge 17, 3) := by decide +kernel
theorem d_Lists_add_10 : decode prog_3_method_5_code 10 = .ok (.aload_n 0, 1) := by decide +kernel
theorem d_Lists_add_11 : decode prog_3_method_5_code 11 = .ok (.getfield 9, 3) := by decide +kernel
theorem d_Lists_add_14 : decode prog_3_method_5_code 14 = .ok (.iload_n 1, 1) := by decide +kernel
theorem d_Lists_add_15 : decode prog_3_method_5_code 15 = .ok (.iaload, 1) := by decide +kernel
theorem d_Lists_add_16 : decode prog_3_method_5_code 16 = .ok (.getstatic 26, 3) := by decide +kernel
theorem d_Lists_add_19 : decode prog_3_method_5_code 19 = .ok (.iload_n 1, 1) := by decide +kernel
theorem d_Lists_add_20 : decode prog_3_method_5_code 20 = .ok (.iaload, 1) := by decide +kernel
theorem d_Lists_add_21 : decode prog_3_method_5_code 21 = .ok (.if_icmp .lt 9, 3) := by decide +kernel
theorem d_Lists_add_24 : decode prog_3_method_5_code 24 = .ok (.aload_n 0, 1) := by decide +kernel
theorem d_Lists_add_25 : decode prog_3_method_5_code 25 = .ok (.iconst 1, 1) := by decide +kernel
theorem d_Lists_add_26 : decode prog_3_method_5_code 26 = .ok (.putfield 22, 3) := by decide +kernel
theorem d_Lists_add_29 : decode prog_3_method_5_code 29 = .ok (.return_, 1) := by decide +kernel
theorem d_Lists_add_30 : decode prog_3_method_5_code 30 = .ok (.aload_n 0, 1) := by decide +kernel
theorem d_Lists_add_31 : decode prog_3_method_5_code 31 = .ok (.getfield 13, 3) := by decide +kernel
theorem d_Lists_add_34 : decode prog_3_method_5_code 34 = .ok (.getstatic 29, 3) := by decide +kernel
theorem d_Lists_add_37 : decode prog_3_method_5_code 37 = .ok (.iload_n 1, 1) := by decide +kernel
theorem d_Lists_add_38 : decode prog_3_method_5_code 38 = .ok (.iaload, 1) := by decide +kernel
theorem d_Lists_add_39 : decode prog_3_method_5_code 39 = .ok (.aload_n 0, 1) := by decide +kernel
theorem d_Lists_add_40 : decode prog_3_method_5_code 40 = .ok (.getfield 9, 3) := by decide +kernel
theorem d_Lists_add_43 : decode prog_3_method_5_code 43 = .ok (.iload_n 1, 1) := by decide +kernel
theorem d_Lists_add_44 : decode prog_3_method_5_code 44 = .ok (.iaload, 1) := by decide +kernel
theorem d_Lists_add_45 : decode prog_3_method_5_code 45 = .ok (.iadd, 1) := by decide +kernel
theorem d_Lists_add_46 : decode prog_3_method_5_code 46 = .ok (.iload_n 2, 1) := by decide +kernel
theorem d_Lists_add_47 : decode prog_3_method_5_code 47 = .ok (.iastore, 1) := by decide +kernel
theorem d_Lists_add_48 : decode prog_3_method_5_code 48 = .ok (.aload_n 0, 1) := by decide +kernel
theorem d_Lists_add_49 : decode prog_3_method_5_code 49 = .ok (.getfield 9, 3) := by decide +kernel
theorem d_Lists_add_52 : decode prog_3_method_5_code 52 = .ok (.iload_n 1, 1) := by decide +kernel
theorem d_Lists_add_53 : decode prog_3_method_5_code 53 = .ok (.dup2, 1) := by decide +kernel
theorem d_Lists_add_54 : decode prog_3_method_5_code 54 = .ok (.iaload, 1) := by decide +kernel
theorem d_Lists_add_55 : decode prog_3_method_5_code 55 = .ok (.iconst 1, 1) := by decide +kernel
theorem d_Lists_add_56 : decode prog_3_method_5_code 56 = .ok (.iadd, 1) := by decide +kernel
theorem d_Lists_add_57 : decode prog_3_method_5_code 57 = .ok (.iastore, 1) := by decide +kernel
theorem d_Lists_add_58 : decode prog_3_method_5_code 58 = .ok (.return_, 1) := by decide +kernel
theorem d_Lists_at_0 : decode prog_3_method_6_code 0 = .ok (.iload_n 1, 1) := by decide +kernel
theorem d_Lists_at_1 : decode prog_3_method_6_code 1 = .ok (.ifCond .lt 27, 3) := by decide +kernel
theorem d_Lists_at_4 : decode prog_3_method_6_code 4 = .ok (.iload_n 1, 1) := by decide +kernel
theorem d_Lists_at_5 : decode prog_3_method_6_code 5 = .ok (.bipush 14, 2) := by decide +kernel
theorem d_Lists_at_7 : decode prog_3_method_6_code 7 = .ok (.if_icmp .ge 21, 3) := by decide +kernel
theorem d_Lists_at_10 : decode prog_3_method_6_code 10 = .ok (.iload_n 2, 1) := by decide +kernel
theorem d_Lists_at_11 : decode prog_3_method_6_code 11 = .ok (.ifCond .lt 17, 3) := by decide +kernel
theorem d_Lists_at_14 : decode prog_3_method_6_code 14 = .ok (.iload_n 2, 1) := by decide +kernel
theorem d_Lists_at_15 : decode prog_3_method_6_code 15 = .ok (.aload_n 0, 1) := by decide +kernel
theorem d_Lists_at_16 : decode prog_3_method_6_code 16 = .ok (.getfield 9, 3) := by decide +kernel
theorem d_Lists_at_19 : decode prog_3_method_6_code 19 = .ok (.iload_n 1, 1) := by decide +kernel
theorem d_Lists_at_20 : decode prog_3_method_6_code 20 = .ok (.iaload, 1) := by decide +kernel
theorem d_Lists_at_21 : decode prog_3_method_6_code 21 = .ok (.if_icmp .ge 7, 3) := by decide +kernel
theorem d_Lists_at_24 : decode prog_3_method_6_code 24 = .ok (.iconst 1, 1) := by decide +kernel
theorem d_Lists_at_25 : decode prog_3_method_6_code 25 = .ok (.goto 4, 3) := by decide +kernel
theorem d_Lists_at_28 : decode prog_3_method_6_code 28 = .ok (.iconst 0, 1) := by decide +kernel
theorem d_Lists_at_29 : decode prog_3_method_6_code 29 = .ok (.istore_n 3, 1) := by decide +kernel
theorem d_Lists_at_30 : decode prog_3_method_6_code 30 = .ok (.iload_n 3, 1) := by decide +kernel
theorem d_Lists_at_31 : decode prog_3_method_6_code 31 = .ok (.ifCond .eq 18, 3) := by decide +kernel
theorem d_Lists_at_34 : decode prog_3_method_6_code 34 = .ok (.aload_n 0, 1) := by decide +kernel
theorem d_Lists_at_35 : decode prog_3_method_6_code 35 = .ok (.getfield 13, 3) := by decide +kernel
theorem d_Lists_at_38 : decode prog_3_method_6_code 38 = .ok (.getstatic 29, 3) := by decide +kernel
theorem d_Lists_at_41 : decode prog_3_method_6_code 41 = .ok (.iload_n 1, 1) := by decide +kernel
theorem d_Lists_at_42 : decode prog_3_method_6_code 42 = .ok (.iaload, 1) := by decide +kernel
theorem d_Lists_at_43 : decode prog_3_method_6_code 43 = .ok (.iload_n 2, 1) := by decide +kernel
theorem d_Lists_at_44 : decode prog_3_method_6_code 44 = .ok (.iadd, 1) := by decide +kernel
theorem d_Lists_at_45 : decode prog_3_method_6_code 45 = .ok (.iaload, 1) := by decide +kernel
theorem d_Lists_at_46 : decode prog_3_method_6_code 46 = .ok (.goto 4, 3) := by decide +kernel
theorem d_Lists_at_49 : decode prog_3_method_6_code 49 = .ok (.iconst (-1), 1) := by decide +kernel
theorem d_Lists_at_50 : decode prog_3_method_6_code 50 = .ok (.ireturn, 1) := by decide +kernel
theorem d_Lists_clear_0 : decode prog_3_method_2_code 0 = .ok (.aload_n 0, 1) := by decide +kernel
theorem d_Lists_clear_1 : decode prog_3_method_2_code 1 = .ok (.getfield 9, 3) := by decide +kernel
theorem d_Lists_clear_4 : decode prog_3_method_2_code 4 = .ok (.iconst 0, 1) := by decide +kernel
theorem d_Lists_clear_5 : decode prog_3_method_2_code 5 = .ok (.invokestatic 16, 3) := by decide +kernel
theorem d_Lists_clear_8 : decode prog_3_method_2_code 8 = .ok (.aload_n 0, 1) := by decide +kernel
theorem d_Lists_clear_9 : decode prog_3_method_2_code 9 = .ok (.iconst 0, 1) := by decide +kernel
theorem d_Lists_clear_10 : decode prog_3_method_2_code 10 = .ok (.putfield 22, 3) := by decide +kernel
theorem d_Lists_clear_13 : decode prog_3_method_2_code 13 = .ok (.return_, 1) := by decide +kernel
theorem d_Lists_isOver_0 : decode prog_3_method_3_code 0 = .ok (.aload_n 0, 1) := by decide +kernel
theorem d_Lists_isOver_1 : decode prog_3_method_3_code 1 = .ok (.getfield 22, 3) := by decide +kernel
theorem d_Lists_isOver_4 : decode prog_3_method_3_code 4 = .ok (.ireturn, 1) := by decide +kernel
theorem d_Lists_put_0 : decode prog_3_method_7_code 0 = .ok (.iload_n 1, 1) := by decide +kernel
theorem d_Lists_put_1 : decode prog_3_method_7_code 1 = .ok (.ifCond .lt 36, 3) := by decide +kernel
theorem d_Lists_put_4 : decode prog_3_method_7_code 4 = .ok (.iload_n 1, 1) := by decide +kernel
theorem d_Lists_put_5 : decode prog_3_method_7_code 5 = .ok (.bipush 14, 2) := by decide +kernel
theorem d_Lists_put_7 : decode prog_3_method_7_code 7 = .ok (.if_icmp .ge 30, 3) := by decide +kernel
theorem d_Lists_put_10 : decode prog_3_method_7_code 10 = .ok (.iload_n 2, 1) := by decide +kernel
theorem d_Lists_put_11 : decode prog_3_method_7_code 11 = .ok (.ifCond .lt 26, 3) := by decide +kernel
theorem d_Lists_put_14 : decode prog_3_method_7_code 14 = .ok (.iload_n 2, 1) := by decide +kernel
theorem d_Lists_put_15 : decode prog_3_method_7_code 15 = .ok (.aload_n 0, 1) := by decide +kernel
theorem d_Lists_put_16 : decode prog_3_method_7_code 16 = .ok (.getfield 9, 3) := by decide +kernel
theorem d_Lists_put_19 : decode prog_3_method_7_code 19 = .ok (.iload_n 1, 1) := by decide +kernel
theorem d_Lists_put_20 : decode prog_3_method_7_code 20 = .ok (.iaload, 1) := by decide +kernel
theorem d_Lists_put_21 : decode prog_3_method_7_code 21 = .ok (.if_icmp .ge 16, 3) := by decide +kernel
theorem d_Lists_put_24 : decode prog_3_method_7_code 24 = .ok (.aload_n 0, 1) := by decide +kernel
theorem d_Lists_put_25 : decode prog_3_method_7_code 25 = .ok (.getfield 13, 3) := by decide +kernel
theorem d_Lists_put_28 : decode prog_3_method_7_code 28 = .ok (.getstatic 29, 3) := by decide +kernel
theorem d_Lists_put_31 : decode prog_3_method_7_code 31 = .ok (.iload_n 1, 1) := by decide +kernel
theorem d_Lists_put_32 : decode prog_3_method_7_code 32 = .ok (.iaload, 1) := by decide +kernel
theorem d_Lists_put_33 : decode prog_3_method_7_code 33 = .ok (.iload_n 2, 1) := by decide +kernel
theorem d_Lists_put_34 : decode prog_3_method_7_code 34 = .ok (.iadd, 1) := by decide +kernel
theorem d_Lists_put_35 : decode prog_3_method_7_code 35 = .ok (.iload_n 3, 1) := by decide +kernel
theorem d_Lists_put_36 : decode prog_3_method_7_code 36 = .ok (.iastore, 1) := by decide +kernel
theorem d_Lists_put_37 : decode prog_3_method_7_code 37 = .ok (.return_, 1) := by decide +kernel
theorem d_Lists_size_0 : decode prog_3_method_4_code 0 = .ok (.iload_n 1, 1) := by decide +kernel
theorem d_Lists_size_1 : decode prog_3_method_4_code 1 = .ok (.ifCond .lt 9, 3) := by decide +kernel
theorem d_Lists_size_4 : decode prog_3_method_4_code 4 = .ok (.iload_n 1, 1) := by decide +kernel
theorem d_Lists_size_5 : decode prog_3_method_4_code 5 = .ok (.bipush 14, 2) := by decide +kernel
theorem d_Lists_size_7 : decode prog_3_method_4_code 7 = .ok (.if_icmp .lt 7, 3) := by decide +kernel
theorem d_Lists_size_10 : decode prog_3_method_4_code 10 = .ok (.iconst 0, 1) := by decide +kernel
theorem d_Lists_size_11 : decode prog_3_method_4_code 11 = .ok (.goto 9, 3) := by decide +kernel
theorem d_Lists_size_14 : decode prog_3_method_4_code 14 = .ok (.aload_n 0, 1) := by decide +kernel
theorem d_Lists_size_15 : decode prog_3_method_4_code 15 = .ok (.getfield 9, 3) := by decide +kernel
theorem d_Lists_size_18 : decode prog_3_method_4_code 18 = .ok (.iload_n 1, 1) := by decide +kernel
theorem d_Lists_size_19 : decode prog_3_method_4_code 19 = .ok (.iaload, 1) := by decide +kernel
theorem d_Lists_size_20 : decode prog_3_method_4_code 20 = .ok (.ireturn, 1) := by decide +kernel
theorem d_Meaning_columnsOfStar_0 : decode prog_4_method_26_code 0 = .ok (.iconst 0, 1) := by decide +kernel
theorem d_Meaning_columnsOfStar_1 : decode prog_4_method_26_code 1 = .ok (.istore_n 1, 1) := by decide +kernel
theorem d_Meaning_columnsOfStar_2 : decode prog_4_method_26_code 2 = .ok (.iconst 0, 1) := by decide +kernel
theorem d_Meaning_columnsOfStar_3 : decode prog_4_method_26_code 3 = .ok (.istore_n 2, 1) := by decide +kernel
theorem d_Meaning_columnsOfStar_4 : decode prog_4_method_26_code 4 = .ok (.iload_n 2, 1) := by decide +kernel
theorem d_Meaning_columnsOfStar_5 : decode prog_4_method_26_code 5 = .ok (.aload_n 0, 1) := by decide +kernel
theorem d_Meaning_columnsOfStar_6 : decode prog_4_method_26_code 6 = .ok (.getfield 28, 3) := by decide +kernel
theorem d_Meaning_columnsOfStar_9 : decode prog_4_method_26_code 9 = .ok (.iconst 3, 1) := by decide +kernel
theorem d_Meaning_columnsOfStar_10 : decode prog_4_method_26_code 10 = .ok (.invokevirtual 66, 3) := by decide +kernel
theorem d_Meaning_columnsOfStar_13 : decode prog_4_method_26_code 13 = .ok (.if_icmp .ge 28, 3) := by decide +kernel
theorem d_Meaning_columnsOfStar_16 : decode prog_4_method_26_code 16 = .ok (.iload_n 1, 1) := by decide +kernel
theorem d_Meaning_columnsOfStar_17 : decode prog_4_method_26_code 17 = .ok (.aload_n 0, 1) := by decide +kernel
theorem d_Meaning_columnsOfStar_18 : decode prog_4_method_26_code 18 = .ok (.getfield 9, 3) := by decide +kernel
theorem d_Meaning_columnsOfStar_21 : decode prog_4_method_26_code 21 = .ok (.aload_n 0, 1) := by decide +kernel
theorem d_Meaning_columnsOfStar_22 : decode prog_4_method_26_code 22 = .ok (.getfield 28, 3) := by decide +kernel
theorem d_Meaning_columnsOfStar_25 : decode prog_4_method_26_code 25 = .ok (.iconst 3, 1) := by decide +kernel
theorem d_Meaning_columnsOfStar_26 : decode prog_4_method_26_code 26 = .ok (.iload_n 2, 1) := by decide +kernel
theorem d_Meaning_columnsOfStar_27 : decode prog_4_method_26_code 27 = .ok (.invokevirtual 70, 3) := by decide +kernel
theorem d_Meaning_columnsOfStar_30 : decode prog_4_method_26_code 30 = .ok (.invokevirtual 172, 3) := by decide +kernel
theorem d_Meaning_columnsOfStar_33 : decode prog_4_method_26_code 33 = .ok (.iadd, 1) := by decide +kernel
theorem d_Meaning_columnsOfStar_34 : decode prog_4_method_26_code 34 = .ok (.istore_n 1, 1) := by decide +kernel
theorem d_Meaning_columnsOfStar_35 : decode prog_4_method_26_code 35 = .ok (.iinc 2 1, 3) := by decide +kernel
theorem d_Meaning_columnsOfStar_38 : decode prog_4_method_26_code 38 = .ok (.goto (-34), 3) := by decide +kernel
theorem d_Meaning_columnsOfStar_41 : decode prog_4_method_26_code 41 = .ok (.iload_n 1, 1) := by decide +kernel
theorem d_Meaning_columnsOfStar_42 : decode prog_4_method_26_code 42 = .ok (.ireturn, 1) := by decide +kernel
theorem d_Meaning_findColumnsSet_0 : decode prog_4_method_9_code 0 = .ok (.iconst 0, 1) := by decide +kernel
theorem d_Meaning_findColumnsSet_1 : decode prog_4_method_9_code 1 = .ok (.istore_n 1, 1) := by decide +kernel
theorem d_Meaning_findColumnsSet_2 : decode prog_4_method_9_code 2 = .ok (.iload_n 1, 1) := by decide +kernel
theorem d_Meaning_findColumnsSet_3 : decode prog_4_method_9_code 3 = .ok (.aload_n 0, 1) := by decide +kernel
theorem d_Meaning_findColumnsSet_4 : decode prog_4_method_9_code 4 = .ok (.getfield 28, 3) := by decide +kernel
theorem d_Meaning_findColumnsSet_7 : decode prog_4_method_9_code 7 = .ok (.iconst 5, 1) := by decide +kernel
theorem d_Meaning_findColumnsSet_8 : decode prog_4_method_9_code 8 = .ok (.invokevirtual 66, 3) := by decide +kernel
theorem d_Meaning_findColumnsSet_11 : decode prog_4_method_9_code 11 = .ok (.if_icmp .ge 47, 3) := by decide +kernel
theorem d_Meaning_findColumnsSet_14 : decode prog_4_method_9_code 14 = .ok (.aload_n 0, 1) := by decide +kernel
theorem d_Meaning_findColumnsSet_15 : decode prog_4_method_9_code 15 = .ok (.getfield 28, 3) := by decide +kernel
theorem d_Meaning_findColumnsSet_18 : decode prog_4_method_9_code 18 = .ok (.bipush 13, 2) := by decide +kernel
theorem d_Meaning_findColumnsSet_20 : decode prog_4_method_9_code 20 = .ok (.iload_n 1, 1) := by decide +kernel
theorem d_Meaning_findColumnsSet_21 : decode prog_4_method_9_code 21 = .ok (.invokevirtual 70, 3) := by decide +kernel
theorem d_Meaning_findColumnsSet_24 : decode prog_4_method_9_code 24 = .ok (.istore_n 2, 1) := by decide +kernel
theorem d_Meaning_findColumnsSet_25 : decode prog_4_method_9_code 25 = .ok (.aload_n 0, 1) := by decide +kernel
theorem d_Meaning_findColumnsSet_26 : decode prog_4_method_9_code 26 = .ok (.getfield 28, 3) := by decide +kernel
theorem d_Meaning_findColumnsSet_29 : decode prog_4_method_9_code 29 = .ok (.iconst 4, 1) := by decide +kernel
theorem d_Meaning_findColumnsSet_30 : decode prog_4_method_9_code 30 = .ok (.aload_n 0, 1) := by decide +kernel
theorem d_Meaning_findColumnsSet_31 : decode prog_4_method_9_code 31 = .ok (.getfield 9, 3) := by decide +kernel
theorem d_Meaning_findColumnsSet_34 : decode prog_4_method_9_code 34 = .ok (.aload_n 0, 1) := by decide +kernel
theorem d_Meaning_findColumnsSet_35 : decode prog_4_method_9_code 35 = .ok (.getfield 32, 3) := by decide +kernel
theorem d_Meaning_findColumnsSet_38 : decode prog_4_method_9_code 38 = .ok (.getfield 61, 3) := by decide +kernel
theorem d_Meaning_findColumnsSet_41 : decode prog_4_method_9_code 41 = .ok (.aload_n 0, 1) := by decide +kernel
theorem d_Meaning_findColumnsSet_42 : decode prog_4_method_9_code 42 = .ok (.getfield 21, 3) := by decide +kernel
theorem d_Meaning_findColumnsSet_45 : decode prog_4_method_9_code 45 = .ok (.iload_n 2, 1) := by decide +kernel
theorem d_Meaning_findColumnsSet_46 : decode prog_4_method_9_code 46 = .ok (.invokevirtual 143, 3) := by decide +kernel
theorem d_Meaning_findColumnsSet_49 : decode prog_4_method_9_code 49 = .ok (.invokevirtual 80, 3) := by decide +kernel
theorem d_Meaning_findColumnsSet_52 : decode prog_4_method_9_code 52 = .ok (.iinc 1 1, 3) := by decide +kernel
theorem d_Meaning_findColumnsSet_55 : decode prog_4_method_9_code 55 = .ok (.goto (-53), 3) := by decide +kernel
theorem d_Meaning_findColumnsSet_58 : decode prog_4_method_9_code 58 = .ok (.return_, 1) := by decide +kernel
theorem d_Meaning_findPlace_0 : decode prog_4_method_8_code 0 = .ok (.aload_n 0, 1) := by decide +kernel
theorem d_Meaning_findPlace_1 : decode prog_4_method_8_code 1 = .ok (.getfield 28, 3) := by decide +kernel
theorem d_Meaning_findPlace_4 : decode prog_4_method_8_code 4 = .ok (.iconst 3, 1) := by decide +kernel
theorem d_Meaning_findPlace_5 : decode prog_4_method_8_code 5 = .ok (.invokevirtual 66, 3) := by decide +kernel
theorem d_Meaning_findPlace_8 : decode prog_4_method_8_code 8 = .ok (.istore_n 2, 1) := by decide +kernel
theorem d_Meaning_findPlace_9 : decode prog_4_method_8_code 9 = .ok (.aload_n 0, 1) := by decide +kernel
theorem d_Meaning_findPlace_10 : decode prog_4_method_8_code 10 = .ok (.getfield 24, 3) := by decide +kernel
theorem d_Meaning_findPlace_13 : decode prog_4_method_8_code 13 = .ok (.iload_n 1, 1) := by decide +kernel
theorem d_Meaning_findPlace_14 : decode prog_4_method_8_code 14 = .ok (.invokevirtual 137, 3) := by decide +kernel
theorem d_Meaning_findPlace_17 : decode prog_4_method_8_code 17 = .ok (.istore_n 3, 1) := by decide +kernel
theorem d_Meaning_findPlace_18 : decode prog_4_method_8_code 18 = .ok (.iload_n 3, 1) := by decide +kernel
theorem d_Meaning_findPlace_19 : decode prog_4_method_8_code 19 = .ok (.ifCond .ge 7, 3) := by decide +kernel
theorem d_Meaning_findPlace_22 : decode prog_4_method_8_code 22 = .ok (.iconst (-1), 1) := by decide +kernel
theorem d_Meaning_findPlace_23 : decode prog_4_method_8_code 23 = .ok (.goto 8, 3) := by decide +kernel
theorem d_Meaning_findPlace_26 : decode prog_4_method_8_code 26 = .ok (.aload_n 0, 1) := by decide +kernel
theorem d_Meaning_findPlace_27 : decode prog_4_method_8_code 27 = .ok (.iload_n 3, 1) := by decide +kernel
theorem d_Meaning_findPlace_28 : decode prog_4_method_8_code 28 = .ok (.invokevirtual 77, 3) := by decide +kernel
theorem d_Meaning_findPlace_31 : decode prog_4_method_8_code 31 = .ok (.istore 4, 2) := by decide +kernel
theorem d_Meaning_findPlace_33 : decode prog_4_method_8_code 33 = .ok (.iconst 0, 1) := by decide +kernel
theorem d_Meaning_findPlace_34 : decode prog_4_method_8_code 34 = .ok (.istore 5, 2) := by decide +kernel
theorem d_Meaning_findPlace_36 : decode prog_4_method_8_code 36 = .ok (.iconst 0, 1) := by decide +kernel
theorem d_Meaning_findPlace_37 : decode prog_4_method_8_code 37 = .ok (.istore 6, 2) := by decide +kernel
theorem d_Meaning_findPlace_39 : decode prog_4_method_8_code 39 = .ok (.iload 6, 2) := by decide +kernel
theorem d_Meaning_findPlace_41 : decode prog_4_method_8_code 41 = .ok (.iload_n 2, 1) := by decide +kernel
theorem d_Meaning_findPlace_42 : decode prog_4_method_8_code 42 = .ok (.if_icmp .ge 95, 3) := by decide +kernel
theorem d_Meaning_findPlace_45 : decode prog_4_method_8_code 45 = .ok (.aload_n 0, 1) := by decide +kernel
theorem d_Meaning_findPlace_46 : decode prog_4_method_8_code 46 = .ok (.getfield 28, 3) := by decide +kernel
theorem d_Meaning_findPlace_49 : decode prog_4_method_8_code 49 = .ok (.iconst 3, 1) := by decide +kernel
theorem d_Meaning_findPlace_50 : decode prog_4_method_8_code 50 = .ok (.iload 6, 2) := by decide +kernel
theorem d_Meaning_findPlace_52 : decode prog_4_method_8_code 52 = .ok (.invokevirtual 70, 3) := by decide +kernel
theorem d_Meaning_findPlace_55 : decode prog_4_method_8_code 55 = .ok (.istore 7, 2) := by decide +kernel
theorem d_Meaning_findPlace_57 : decode prog_4_method_8_code 57 = .ok (.aload_n 0, 1) := by decide +kernel
theorem d_Meaning_findPlace_58 : decode prog_4_method_8_code 58 = .ok (.getfield 9, 3) := by decide +kernel
theorem d_Meaning_findPlace_61 : decode prog_4_method_8_code 61 = .ok (.iload 7, 2) := by decide +kernel
theorem d_Meaning_findPlace_63 : decode prog_4_method_8_code 63 = .ok (.aload_n 0, 1) := by decide +kernel
theorem d_Meaning_findPlace_64 : decode prog_4_method_8_code 64 = .ok (.getfield 21, 3) := by decide +kernel
theorem d_Meaning_findPlace_67 : decode prog_4_method_8_code 67 = .ok (.aload_n 0, 1) := by decide +kernel
theorem d_Meaning_findPlace_68 : decode prog_4_method_8_code 68 = .ok (.getfield 24, 3) := by decide +kernel
theorem d_Meaning_findPlace_71 : decode prog_4_method_8_code 71 = .ok (.iload_n 1, 1) := by decide +kernel
theorem d_Meaning_findPlace_72 : decode prog_4_method_8_code 72 = .ok (.invokevirtual 140, 3) := by decide +kernel
theorem d_Meaning_findPlace_75 : decode prog_4_method_8_code 75 = .ok (.invokevirtual 143, 3) := by decide +kernel
theorem d_Meaning_findPlace_78 : decode prog_4_method_8_code 78 = .ok (.istore 8, 2) := by decide +kernel
theorem d_Meaning_findPlace_80 : decode prog_4_method_8_code 80 = .ok (.iload 8, 2) := by decide +kernel
theorem d_Meaning_findPlace_82 : decode prog_4_method_8_code 82 = .ok (.ifCond .lt 49, 3) := by decide +kernel
theorem d_Meaning_findPlace_85 : decode prog_4_method_8_code 85 = .ok (.iload 4, 2) := by decide +kernel
theorem d_Meaning_findPlace_87 : decode prog_4_method_8_code 87 = .ok (.ifCond .lt 10, 3) := by decide +kernel
theorem d_Meaning_findPlace_90 : decode prog_4_method_8_code 90 = .ok (.iload 4, 2) := by decide +kernel
theorem d_Meaning_findPlace_92 : decode prog_4_method_8_code 92 = .ok (.iload 6, 2) := by decide +kernel
theorem d_Meaning_findPlace_94 : decode prog_4_method_8_code 94 = .ok (.if_icmp .ne 37, 3) := by decide +kernel
theorem d_Meaning_findPlace_97 : decode prog_4_method_8_code 97 = .ok (.aload_n 0, 1) := by decide +kernel
theorem d_Meaning_findPlace_98 : decode prog_4_method_8_code 98 = .ok (.getfield 24, 3) := by decide +kernel
theorem d_Meaning_findPlace_101 : decode prog_4_method_8_code 101 = .ok (.iload_n 1, 1) := by decide +kernel
theorem d_Meaning_findPlace_102 : decode prog_4_method_8_code 102 = .ok (.iload 6, 2) := by decide +kernel
theorem d_Meaning_findPlace_104 : decode prog_4_method_8_code 104 = .ok (.iload 8, 2) := by decide +kernel
theorem d_Meaning_findPlace_106 : decode prog_4_method_8_code 106 = .ok (.invokevirtual 147, 3) := by decide +kernel
theorem d_Meaning_findPlace_109 : decode prog_4_method_8_code 109 = .ok (.aload_n 0, 1) := by decide +kernel
theorem d_Meaning_findPlace_110 : decode prog_4_method_8_code 110 = .ok (.getfield 24, 3) := by decide +kernel
theorem d_Meaning_findPlace_113 : decode prog_4_method_8_code 113 = .ok (.iload_n 1, 1) := by decide +kernel
theorem d_Meaning_findPlace_114 : decode prog_4_method_8_code 114 = .ok (.aload_n 0, 1) := by decide +kernel
theorem d_Meaning_findPlace_115 : decode prog_4_method_8_code 115 = .ok (.getfield 9, 3) := by decide +kernel
theorem d_Meaning_findPlace_118 : decode prog_4_method_8_code 118 = .ok (.iload 7, 2) := by decide +kernel
theorem d_Meaning_findPlace_120 : decode prog_4_method_8_code 120 = .ok (.iload 8, 2) := by decide +kernel
theorem d_Meaning_findPlace_122 : decode prog_4_method_8_code 122 = .ok (.invokevirtual 151, 3) := by decide +kernel
theorem d_Meaning_findPlace_125 : decode prog_4_method_8_code 125 = .ok (.invokevirtual 154, 3) := by decide +kernel
theorem d_Meaning_findPlace_128 : decode prog_4_method_8_code 128 = .ok (.iinc 5 1, 3) := by decide +kernel
theorem d_Meaning_findPlace_131 : decode prog_4_method_8_code 131 = .ok (.iinc 6 1, 3) := by decide +kernel
theorem d_Meaning_findPlace_134 : decode prog_4_method_8_code 134 = .ok (.goto (-95), 3) := by decide +kernel
theorem d_Meaning_findPlace_137 : decode prog_4_method_8_code 137 = .ok (.iload 4, 2) := by decide +kernel
theorem d_Meaning_findPlace_139 : decode prog_4_method_8_code 139 = .ok (.iload_n 2, 1) := by decide +kernel
theorem d_Meaning_findPlace_140 : decode prog_4_method_8_code 140 = .ok (.if_icmp .lt 5, 3) := by decide +kernel
theorem d_Meaning_findPlace_143 : decode prog_4_method_8_code 143 = .ok (.iconst 4, 1) := by decide +kernel
theorem d_Meaning_findPlace_144 : decode prog_4_method_8_code 144 = .ok (.ireturn, 1) := by decide +kernel
theorem d_Meaning_findPlace_145 : decode prog_4_method_8_code 145 = .ok (.iload 5, 2) := by decide +kernel
theorem d_Meaning_findPlace_147 : decode prog_4_method_8_code 147 = .ok (.ifCond .ne 8, 3) := by decide +kernel
theorem d_Meaning_findPlace_150 : decode prog_4_method_8_code 150 = .ok (.bipush 6, 2) := by decide +kernel
theorem d_Meaning_findPlace_152 : decode prog_4_method_8_code 152 = .ok (.goto 15, 3) := by decide +kernel
theorem d_Meaning_findPlace_155 : decode prog_4_method_8_code 155 = .ok (.iload 5, 2) := by decide +kernel
theorem d_Meaning_findPlace_157 : decode prog_4_method_8_code 157 = .ok (.iconst 1, 1) := by decide +kernel
theorem d_Meaning_findPlace_158 : decode prog_4_method_8_code 158 = .ok (.if_icmp .le 8, 3) := by decide +kernel
theorem d_Meaning_findPlace_161 : decode prog_4_method_8_code 161 = .ok (.bipush 7, 2) := by decide +kernel
theorem d_Meaning_findPlace_163 : decode prog_4_method_8_code 163 = .ok (.goto 4, 3) := by decide +kernel
theorem d_Meaning_findPlace_166 : decode prog_4_method_8_code 166 = .ok (.iconst 0, 1) := by decide +kernel
theorem d_Meaning_findPlace_167 : decode prog_4_method_8_code 167 = .ok (.ireturn, 1) := by decide +kernel
theorem d_Meaning_findPlaces_0 : decode prog_4_method_7_code 0 = .ok (.iconst 0, 1) := by decide +kernel
theorem d_Meaning_findPlaces_1 : decode prog_4_method_7_code 1 = .ok (.istore_n 1, 1) := by decide +kernel
theorem d_Meaning_findPlaces_2 : decode prog_4_method_7_code 2 = .ok (.iload_n 1, 1) := by decide +kernel
theorem d_Meaning_findPlaces_3 : decode prog_4_method_7_code 3 = .ok (.aload_n 0, 1) := by decide +kernel
theorem d_Meaning_findPlaces_4 : decode prog_4_method_7_code 4 = .ok (.getfield 24, 3) := by decide +kernel
theorem d_Meaning_findPlaces_7 : decode prog_4_method_7_code 7 = .ok (.invokevirtual 121, 3) := by decide +kernel
theorem d_Meaning_findPlaces_10 : decode prog_4_method_7_code 10 = .ok (.if_icmp .ge 34, 3) := by decide +kernel
theorem d_Meaning_findPlaces_13 : decode prog_4_method_7_code 13 = .ok (.aload_n 0, 1) := by decide +kernel
theorem d_Meaning_findPlaces_14 : decode prog_4_method_7_code 14 = .ok (.getfield 24, 3) := by decide +kernel
theorem d_Meaning_findPlaces_17 : decode prog_4_method_7_code 17 = .ok (.iload_n 1, 1) := by decide +kernel
theorem d_Meaning_findPlaces_18 : decode prog_4_method_7_code 18 = .ok (.invokevirtual 128, 3) := by decide +kernel
theorem d_Meaning_findPlaces_21 : decode prog_4_method_7_code 21 = .ok (.iconst 4, 1) := by decide +kernel
theorem d_Meaning_findPlaces_22 : decode prog_4_method_7_code 22 = .ok (.if_icmp .ne 16, 3) := by decide +kernel
theorem d_Meaning_findPlaces_25 : decode prog_4_method_7_code 25 = .ok (.aload_n 0, 1) := by decide +kernel
theorem d_Meaning_findPlaces_26 : decode prog_4_method_7_code 26 = .ok (.getfield 24, 3) := by decide +kernel
theorem d_Meaning_findPlaces_29 : decode prog_4_method_7_code 29 = .ok (.iload_n 1, 1) := by decide +kernel
theorem d_Meaning_findPlaces_30 : decode prog_4_method_7_code 30 = .ok (.aload_n 0, 1) := by decide +kernel
theorem d_Meaning_findPlaces_31 : decode prog_4_method_7_code 31 = .ok (.iload_n 1, 1) := by decide +kernel
theorem d_Meaning_findPlaces_32 : decode prog_4_method_7_code 32 = .ok (.invokevirtual 131, 3) := by decide +kernel
theorem d_Meaning_findPlaces_35 : decode prog_4_method_7_code 35 = .ok (.invokevirtual 134, 3) := by decide +kernel
theorem d_Meaning_findPlaces_38 : decode prog_4_method_7_code 38 = .ok (.iinc 1 1, 3) := by decide +kernel
theorem d_Meaning_findPlaces_41 : decode prog_4_method_7_code 41 = .ok (.goto (-39), 3) := by decide +kernel
theorem d_Meaning_findPlaces_44 : decode prog_4_method_7_code 44 = .ok (.return_, 1) := by decide +kernel
theorem d_Meaning_firstError_0 : decode prog_4_method_2_code 0 = .ok (.aload_n 0, 1) := by decide +kernel
theorem d_Meaning_firstError_1 : decode prog_4_method_2_code 1 = .ok (.invokevirtual 36, 3) := by decide +kernel
theorem d_Meaning_firstError_4 : decode prog_4_method_2_code 4 = .ok (.istore_n 1, 1) := by decide +kernel
theorem d_Meaning_firstError_5 : decode prog_4_method_2_code 5 = .ok (.iload_n 1, 1) := by decide +kernel
theorem d_Meaning_firstError_6 : decode prog_4_method_2_code 6 = .ok (.ifCond .ne 8, 3) := by decide +kernel
theorem d_Meaning_firstError_9 : decode prog_4_method_2_code 9 = .ok (.aload_n 0, 1) := by decide +kernel
theorem d_Meaning_firstError_10 : decode prog_4_method_2_code 10 = .ok (.invokevirtual 40, 3) := by decide +kernel
theorem d_Meaning_firstError_13 : decode prog_4_method_2_code 13 = .ok (.istore_n 1, 1) := by decide +kernel
theorem d_Meaning_firstError_14 : decode prog_4_method_2_code 14 = .ok (.iload_n 1, 1) := by decide +kernel
theorem d_Meaning_firstError_15 : decode prog_4_method_2_code 15 = .ok (.ifCond .ne 8, 3) := by decide +kernel
theorem d_Meaning_firstError_18 : decode prog_4_method_2_code 18 = .ok (.aload_n 0, 1) := by decide +kernel
theorem d_Meaning_firstError_19 : decode prog_4_method_2_code 19 = .ok (.invokevirtual 43, 3) := by decide +kernel
theorem d_Meaning_firstError_22 : decode prog_4_method_2_code 22 = .ok (.istore_n 1, 1) := by decide +kernel
theorem d_Meaning_firstError_23 : decode prog_4_method_2_code 23 = .ok (.iload_n 1, 1) := by decide +kernel
theorem d_Meaning_firstError_24 : decode prog_4_method_2_code 24 = .ok (.ifCond .ne 10, 3) := by decide +kernel
theorem d_Meaning_firstError_27 : decode prog_4_method_2_code 27 = .ok (.aload_n 0, 1) := by decide +kernel
theorem d_Meaning_firstError_28 : decode prog_4_method_2_code 28 = .ok (.invokevirtual 46, 3) := by decide +kernel
theorem d_Meaning_firstError_31 : decode prog_4_method_2_code 31 = .ok (.goto 4, 3) := by decide +kernel
theorem d_Meaning_firstError_34 : decode prog_4_method_2_code 34 = .ok (.iload_n 1, 1) := by decide +kernel
theorem d_Meaning_firstError_35 : decode prog_4_method_2_code 35 = .ok (.ireturn, 1) := by decide +kernel
theorem d_Meaning_fits_0 : decode prog_4_method_18_code 0 = .ok (.iload_n 0, 1) := by decide +kernel
theorem d_Meaning_fits_1 : decode prog_4_method_18_code 1 = .ok (.ifCond .le 12, 3) := by decide +kernel
theorem d_Meaning_fits_4 : decode prog_4_method_18_code 4 = .ok (.iload_n 1, 1) := by decide +kernel
theorem d_Meaning_fits_5 : decode prog_4_method_18_code 5 = .ok (.ifCond .le 8, 3) := by decide +kernel
theorem d_Meaning_fits_8 : decode prog_4_method_18_code 8 = .ok (.iload_n 0, 1) := by decide +kernel
theorem d_Meaning_fits_9 : decode prog_4_method_18_code 9 = .ok (.iload_n 1, 1) := by decide +kernel
theorem d_Meaning_fits_10 : decode prog_4_method_18_code 10 = .ok (.if_icmp .ne 7, 3) := by decide +kernel
theorem d_Meaning_fits_13 : decode prog_4_method_18_code 13 = .ok (.iconst 1, 1) := by decide +kernel
theorem d_Meaning_fits_14 : decode prog_4_method_18_code 14 = .ok (.goto 4, 3) := by decide +kernel
theorem d_Meaning_fits_17 : decode prog_4_method_18_code 17 = .ok (.iconst 0, 1) := by decide +kernel
theorem d_Meaning_fits_18 : decode prog_4_method_18_code 18 = .ok (.ireturn, 1) := by decide +kernel
theorem d_Meaning_groupError_0 : decode prog_4_method_31_code 0 = .ok (.iconst 0, 1) := by decide +kernel
theorem d_Meaning_groupError_1 : decode prog_4_method_31_code 1 = .ok (.istore_n 1, 1) := by decide +kernel
theorem d_Meaning_groupError_2 : decode prog_4_method_31_code 2 = .ok (.iconst 0, 1) := by decide +kernel
theorem d_Meaning_groupError_3 : decode prog_4_method_31_code 3 = .ok (.istore_n 2, 1) := by decide +kernel
theorem d_Meaning_groupError_4 : decode prog_4_method_31_code 4 = .ok (.iload_n 2, 1) := by decide +kernel
theorem d_Meaning_groupError_5 : decode prog_4_method_31_code 5 = .ok (.aload_n 0, 1) := by decide +kernel
theorem d_Meaning_groupError_6 : decode prog_4_method_31_code 6 = .ok (.getfield 24, 3) := by decide +kernel
theorem d_Meaning_groupError_9 : decode prog_4_method_31_code 9 = .ok (.invokevirtual 121, 3) := by decide +kernel
theorem d_Meaning_groupError_12 : decode prog_4_method_31_code 12 = .ok (.if_icmp .ge 50, 3) := by decide +kernel
theorem d_Meaning_groupError_15 : decode prog_4_method_31_code 15 = .ok (.aload_n 0, 1) := by decide +kernel
theorem d_Meaning_groupError_16 : decode prog_4_method_31_code 16 = .ok (.getfield 24, 3) := by decide +kernel
theorem d_Meaning_groupError_19 : decode prog_4_method_31_code 19 = .ok (.iload_n 2, 1) := by decide +kernel
theorem d_Meaning_groupError_20 : decode prog_4_method_31_code 20 = .ok (.invokevirtual 128, 3) := by decide +kernel
theorem d_Meaning_groupError_23 : decode prog_4_method_31_code 23 = .ok (.invokestatic 262, 3) := by decide +kernel
theorem d_Meaning_groupError_26 : decode prog_4_method_31_code 26 = .ok (.istore_n 3, 1) := by decide +kernel
theorem d_Meaning_groupError_27 : decode prog_4_method_31_code 27 = .ok (.iload_n 3, 1) := by decide +kernel
theorem d_Meaning_groupError_28 : decode prog_4_method_31_code 28 = .ok (.ifCond .eq 14, 3) := by decide +kernel
theorem d_Meaning_groupError_31 : decode prog_4_method_31_code 31 = .ok (.aload_n 0, 1) := by decide +kernel
theorem d_Meaning_groupError_32 : decode prog_4_method_31_code 32 = .ok (.iload_n 2, 1) := by decide +kernel
theorem d_Meaning_groupError_33 : decode prog_4_method_31_code 33 = .ok (.invokevirtual 265, 3) := by decide +kernel
theorem d_Meaning_groupError_36 : decode prog_4_method_31_code 36 = .ok (.ifCond .eq 6, 3) := by decide +kernel
theorem d_Meaning_groupError_39 : decode prog_4_method_31_code 39 = .ok (.bipush 9, 2) := by decide +kernel
theorem d_Meaning_groupError_41 : decode prog_4_method_31_code 41 = .ok (.ireturn, 1) := by decide +kernel
theorem d_Meaning_groupError_42 : decode prog_4_method_31_code 42 = .ok (.iload_n 1, 1) := by decide +kernel
theorem d_Meaning_groupError_43 : decode prog_4_method_31_code 43 = .ok (.ifCond .ne 7, 3) := by decide +kernel
theorem d_Meaning_groupError_46 : decode prog_4_method_31_code 46 = .ok (.iload_n 3, 1) := by decide +kernel
theorem d_Meaning_groupError_47 : decode prog_4_method_31_code 47 = .ok (.ifCond .eq 7, 3) := by decide +kernel
theorem d_Meaning_groupError_50 : decode prog_4_method_31_code 50 = .ok (.iconst 1, 1) := by decide +kernel
theorem d_Meaning_groupError_51 : decode prog_4_method_31_code 51 = .ok (.goto 4, 3) := by decide +kernel
theorem d_Meaning_groupError_54 : decode prog_4_method_31_code 54 = .ok (.iconst 0, 1) := by decide +kernel
theorem d_Meaning_groupError_55 : decode prog_4_method_31_code 55 = .ok (.istore_n 1, 1) := by decide +kernel
theorem d_Meaning_groupError_56 : decode prog_4_method_31_code 56 = .ok (.iinc 2 1, 3) := by decide +kernel
theorem d_Meaning_groupError_59 : decode prog_4_method_31_code 59 = .ok (.goto (-55), 3) := by decide +kernel
theorem d_Meaning_groupError_62 : decode prog_4_method_31_code 62 = .ok (.aload_n 0, 1) := by decide +kernel
theorem d_Meaning_groupError_63 : decode prog_4_method_31_code 63 = .ok (.getfield 28, 3) := by decide +kernel
theorem d_Meaning_groupError_66 : decode prog_4_method_31_code 66 = .ok (.iconst 1, 1) := by decide +kernel
theorem d_Meaning_groupError_67 : decode prog_4_method_31_code 67 = .ok (.invokevirtual 66, 3) := by decide +kernel
theorem d_Meaning_groupError_70 : decode prog_4_method_31_code 70 = .ok (.ifCond .le 7, 3) := by decide +kernel
theorem d_Meaning_groupError_73 : decode prog_4_method_31_code 73 = .ok (.iconst 1, 1) := by decide +kernel
theorem d_Meaning_groupError_74 : decode prog_4_method_31_code 74 = .ok (.goto 4, 3) := by decide +kernel
theorem d_Meaning_groupError_77 : decode prog_4_method_31_code 77 = .ok (.iconst 0, 1) := by decide +kernel
theorem d_Meaning_groupError_78 : decode prog_4_method_31_code 78 = .ok (.istore_n 2, 1) := by decide +kernel
theorem d_Meaning_groupError_79 : decode prog_4_method_31_code 79 = .ok (.iload_n 1, 1) := by decide +kernel
theorem d_Meaning_groupError_80 : decode prog_4_method_31_code 80 = .ok (.ifCond .ne 7, 3) := by decide +kernel
theorem d_Meaning_groupError_83 : decode prog_4_method_31_code 83 = .ok (.iload_n 2, 1) := by decide +kernel
theorem d_Meaning_groupError_84 : decode prog_4_method_31_code 84 = .ok (.ifCond .eq 13, 3) := by decide +kernel
theorem d_Meaning_groupError_87 : decode prog_4_method_31_code 87 = .ok (.aload_n 0, 1) := by decide +kernel
theorem d_Meaning_groupError_88 : decode prog_4_method_31_code 88 = .ok (.invokevirtual 268, 3) := by decide +kernel
theorem d_Meaning_groupError_91 : decode prog_4_method_31_code 91 = .ok (.ifCond .ne 6, 3) := by decide +kernel
theorem d_Meaning_groupError_94 : decode prog_4_method_31_code 94 = .ok (.bipush 9, 2) := by decide +kernel
theorem d_Meaning_groupError_96 : decode prog_4_method_31_code 96 = .ok (.ireturn, 1) := by decide +kernel
theorem d_Meaning_groupError_97 : decode prog_4_method_31_code 97 = .ok (.aload_n 0, 1) := by decide +kernel
theorem d_Meaning_groupError_98 : decode prog_4_method_31_code 98 = .ok (.getfield 32, 3) := by decide +kernel
theorem d_Meaning_groupError_101 : decode prog_4_method_31_code 101 = .ok (.getfield 105, 3) := by decide +kernel
theorem d_Meaning_groupError_104 : decode prog_4_method_31_code 104 = .ok (.bipush 8, 2) := by decide +kernel
theorem d_Meaning_groupError_106 : decode prog_4_method_31_code 106 = .ok (.if_icmp .eq 14, 3) := by decide +kernel
theorem d_Meaning_groupError_109 : decode prog_4_method_31_code 109 = .ok (.aload_n 0, 1) := by decide +kernel
theorem d_Meaning_groupError_110 : decode prog_4_method_31_code 110 = .ok (.getfield 32, 3) := by decide +kernel
theorem d_Meaning_groupError_113 : decode prog_4_method_31_code 113 = .ok (.getfield 105, 3) := by decide +kernel
theorem d_Meaning_groupError_116 : decode prog_4_method_31_code 116 = .ok (.iconst 5, 1) := by decide +kernel
theorem d_Meaning_groupError_117 : decode prog_4_method_31_code 117 = .ok (.if_icmp .ne 7, 3) := by decide +kernel
theorem d_Meaning_groupError_120 : decode prog_4_method_31_code 120 = .ok (.iconst 1, 1) := by decide +kernel
theorem d_Meaning_groupError_121 : decode prog_4_method_31_code 121 = .ok (.goto 4, 3) := by decide +kernel
theorem d_Meaning_groupError_124 : decode prog_4_method_31_code 124 = .ok (.iconst 0, 1) := by decide +kernel
theorem d_Meaning_groupError_125 : decode prog_4_method_31_code 125 = .ok (.istore_n 3, 1) := by decide +kernel
theorem d_Meaning_groupError_126 : decode prog_4_method_31_code 126 = .ok (.aload_n 0, 1) := by decide +kernel
theorem d_Meaning_groupError_127 : decode prog_4_method_31_code 127 = .ok (.getfield 28, 3) := by decide +kernel
theorem d_Meaning_groupError_130 : decode prog_4_method_31_code 130 = .ok (.iconst 3, 1) := by decide +kernel
theorem d_Meaning_groupError_131 : decode prog_4_method_31_code 131 = .ok (.invokevirtual 66, 3) := by decide +kernel
theorem d_Meaning_groupError_134 : decode prog_4_method_31_code 134 = .ok (.iconst 1, 1) := by decide +kernel
theorem d_Meaning_groupError_135 : decode prog_4_method_31_code 135 = .ok (.if_icmp .ne 37, 3) := by decide +kernel
theorem d_Meaning_groupError_138 : decode prog_4_method_31_code 138 = .ok (.aload_n 0, 1) := by decide +kernel
theorem d_Meaning_groupError_139 : decode prog_4_method_31_code 139 = .ok (.getfield 32, 3) := by decide +kernel
theorem d_Meaning_groupError_142 : decode prog_4_method_31_code 142 = .ok (.getfield 271, 3) := by decide +kernel
theorem d_Meaning_groupError_145 : decode prog_4_method_31_code 145 = .ok (.ifCond .ne 27, 3) := by decide +kernel
theorem d_Meaning_groupError_148 : decode prog_4_method_31_code 148 = .ok (.iload_n 2, 1) := by decide +kernel
theorem d_Meaning_groupError_149 : decode prog_4_method_31_code 149 = .ok (.ifCond .ne 23, 3) := by decide +kernel
theorem d_Meaning_groupError_152 : decode prog_4_method_31_code 152 = .ok (.iload_n 1, 1) := by decide +kernel
theorem d_Meaning_groupError_153 : decode prog_4_method_31_code 153 = .ok (.ifCond .ne 19, 3) := by decide +kernel
theorem d_Meaning_groupError_156 : decode prog_4_method_31_code 156 = .ok (.aload_n 0, 1) := by decide +kernel
theorem d_Meaning_groupError_157 : decode prog_4_method_31_code 157 = .ok (.getfield 32, 3) := by decide +kernel
theorem d_Meaning_groupError_160 : decode prog_4_method_31_code 160 = .ok (.getfield 105, 3) := by decide +kernel
theorem d_Meaning_groupError_163 : decode prog_4_method_31_code 163 = .ok (.bipush 8, 2) := by decide +kernel
theorem d_Meaning_groupError_165 : decode prog_4_method_31_code 165 = .ok (.if_icmp .ne 7, 3) := by decide +kernel
theorem d_Meaning_groupError_168 : decode prog_4_method_31_code 168 = .ok (.iconst 1, 1) := by decide +kernel
theorem d_Meaning_groupError_169 : decode prog_4_method_31_code 169 = .ok (.goto 4, 3) := by decide +kernel
theorem d_Meaning_groupError_172 : decode prog_4_method_31_code 172 = .ok (.iconst 0, 1) := by decide +kernel
theorem d_Meaning_groupError_173 : decode prog_4_method_31_code 173 = .ok (.istore 4, 2) := by decide +kernel
theorem d_Meaning_groupError_175 : decode prog_4_method_31_code 175 = .ok (.iload_n 3, 1) := by decide +kernel
theorem d_Meaning_groupError_176 : decode prog_4_method_31_code 176 = .ok (.ifCond .eq 23, 3) := by decide +kernel
theorem d_Meaning_groupError_179 : decode prog_4_method_31_code 179 = .ok (.aload_n 0, 1) := by decide +kernel
theorem d_Meaning_groupError_180 : decode prog_4_method_31_code 180 = .ok (.getfield 32, 3) := by decide +kernel
theorem d_Meaning_groupError_183 : decode prog_4_method_31_code 183 = .ok (.getfield 274, 3) := by decide +kernel
theorem d_Meaning_groupError_186 : decode prog_4_method_31_code 186 = .ok (.ifCond .le 13, 3) := by decide +kernel
theorem d_Meaning_groupError_189 : decode prog_4_method_31_code 189 = .ok (.iload 4, 2) := by decide +kernel
theorem d_Meaning_groupError_191 : decode prog_4_method_31_code 191 = .ok (.ifCond .ne 8, 3) := by decide +kernel
theorem d_Meaning_groupError_194 : decode prog_4_method_31_code 194 = .ok (.bipush 10, 2) := by decide +kernel
theorem d_Meaning_groupError_196 : decode prog_4_method_31_code 196 = .ok (.goto 4, 3) := by decide +kernel
theorem d_Meaning_groupError_199 : decode prog_4_method_31_code 199 = .ok (.iconst 0, 1) := by decide +kernel
theorem d_Meaning_groupError_200 : decode prog_4_method_31_code 200 = .ok (.ireturn, 1) := by decide +kernel
theorem d_Meaning_indexError_0 : decode prog_4_method_12_code 0 = .ok (.aload_n 0, 1) := by decide +kernel
theorem d_Meaning_indexError_1 : decode prog_4_method_12_code 1 = .ok (.getfield 32, 3) := by decide +kernel
theorem d_Meaning_indexError_4 : decode prog_4_method_12_code 4 = .ok (.aload_n 0, 1) := by decide +kernel
theorem d_Meaning_indexError_5 : decode prog_4_method_12_code 5 = .ok (.getfield 9, 3) := by decide +kernel
theorem d_Meaning_indexError_8 : decode prog_4_method_12_code 8 = .ok (.aload_n 0, 1) := by decide +kernel
theorem d_Meaning_indexError_9 : decode prog_4_method_12_code 9 = .ok (.getfield 32, 3) := by decide +kernel
theorem d_Meaning_indexError_12 : decode prog_4_method_12_code 12 = .ok (.getfield 61, 3) := by decide +kernel
theorem d_Meaning_indexError_15 : decode prog_4_method_12_code 15 = .ok (.aload_n 0, 1) := by decide +kernel
theorem d_Meaning_indexError_16 : decode prog_4_method_12_code 16 = .ok (.getfield 21, 3) := by decide +kernel
theorem d_Meaning_indexError_19 : decode prog_4_method_12_code 19 = .ok (.aload_n 0, 1) := by decide +kernel
theorem d_Meaning_indexError_20 : decode prog_4_method_12_code 20 = .ok (.getfield 32, 3) := by decide +kernel
theorem d_Meaning_indexError_23 : decode prog_4_method_12_code 23 = .ok (.getfield 166, 3) := by decide +kernel
theorem d_Meaning_indexError_26 : decode prog_4_method_12_code 26 = .ok (.invokevirtual 143, 3) := by decide +kernel
theorem d_Meaning_indexError_29 : decode prog_4_method_12_code 29 = .ok (.putfield 169, 3) := by decide +kernel
theorem d_Meaning_indexError_32 : decode prog_4_method_12_code 32 = .ok (.aload_n 0, 1) := by decide +kernel
theorem d_Meaning_indexError_33 : decode prog_4_method_12_code 33 = .ok (.getfield 32, 3) := by decide +kernel
theorem d_Meaning_indexError_36 : decode prog_4_method_12_code 36 = .ok (.getfield 169, 3) := by decide +kernel
theorem d_Meaning_indexError_39 : decode prog_4_method_12_code 39 = .ok (.ifCond .ge 8, 3) := by decide +kernel
theorem d_Meaning_indexError_42 : decode prog_4_method_12_code 42 = .ok (.bipush 6, 2) := by decide +kernel
theorem d_Meaning_indexError_44 : decode prog_4_method_12_code 44 = .ok (.goto 4, 3) := by decide +kernel
theorem d_Meaning_indexError_47 : decode prog_4_method_12_code 47 = .ok (.iconst 0, 1) := by decide +kernel
theorem d_Meaning_indexError_48 : decode prog_4_method_12_code 48 = .ok (.ireturn, 1) := by decide +kernel
theorem d_Meaning_isAggregated_0 : decode prog_4_method_32_code 0 = .ok (.aload_n 0, 1) := by decide +kernel
theorem d_Meaning_isAggregated_1 : decode prog_4_method_32_code 1 = .ok (.getfield 24, 3) := by decide +kernel
theorem d_Meaning_isAggregated_4 : decode prog_4_method_32_code 4 = .ok (.iload_n 1, 1) := by decide +kernel
theorem d_Meaning_isAggregated_5 : decode prog_4_method_32_code 5 = .ok (.invokevirtual 228, 3) := by decide +kernel
theorem d_Meaning_isAggregated_8 : decode prog_4_method_32_code 8 = .ok (.istore_n 2, 1) := by decide +kernel
theorem d_Meaning_isAggregated_9 : decode prog_4_method_32_code 9 = .ok (.iconst 0, 1) := by decide +kernel
theorem d_Meaning_isAggregated_10 : decode prog_4_method_32_code 10 = .ok (.istore_n 3, 1) := by decide +kernel
theorem d_Meaning_isAggregated_11 : decode prog_4_method_32_code 11 = .ok (.iload_n 3, 1) := by decide +kernel
theorem d_Meaning_isAggregated_12 : decode prog_4_method_32_code 12 = .ok (.sipush 200, 3) := by decide +kernel
theorem d_Meaning_isAggregated_15 : decode prog_4_method_32_code 15 = .ok (.if_icmp .ge 38, 3) := by decide +kernel
theorem d_Meaning_isAggregated_18 : decode prog_4_method_32_code 18 = .ok (.iload_n 2, 1) := by decide +kernel
theorem d_Meaning_isAggregated_19 : decode prog_4_method_32_code 19 = .ok (.ifCond .lt 34, 3) := by decide +kernel
theorem d_Meaning_isAggregated_22 : decode prog_4_method_32_code 22 = .ok (.aload_n 0, 1) := by decide +kernel
theorem d_Meaning_isAggregated_23 : decode prog_4_method_32_code 23 = .ok (.getfield 24, 3) := by decide +kernel
theorem d_Meaning_isAggregated_26 : decode prog_4_method_32_code 26 = .ok (.iload_n 2, 1) := by decide +kernel
theorem d_Meaning_isAggregated_27 : decode prog_4_method_32_code 27 = .ok (.invokevirtual 128, 3) := by decide +kernel
theorem d_Meaning_isAggregated_30 : decode prog_4_method_32_code 30 = .ok (.invokestatic 262, 3) := by decide +kernel
theorem d_Meaning_isAggregated_33 : decode prog_4_method_32_code 33 = .ok (.ifCond .eq 5, 3) := by decide +kernel
theorem d_Meaning_isAggregated_36 : decode prog_4_method_32_code 36 = .ok (.iconst 1, 1) := by decide +kernel
theorem d_Meaning_isAggregated_37 : decode prog_4_method_32_code 37 = .ok (.ireturn, 1) := by decide +kernel
theorem d_Meaning_isAggregated_38 : decode prog_4_method_32_code 38 = .ok (.aload_n 0, 1) := by decide +kernel
theorem d_Meaning_isAggregated_39 : decode prog_4_method_32_code 39 = .ok (.getfield 24, 3) := by decide +kernel
theorem d_Meaning_isAggregated_42 : decode prog_4_method_32_code 42 = .ok (.iload_n 2, 1) := by decide +kernel
theorem d_Meaning_isAggregated_43 : decode prog_4_method_32_code 43 = .ok (.invokevirtual 228, 3) := by decide +kernel
theorem d_Meaning_isAggregated_46 : decode prog_4_method_32_code 46 = .ok (.istore_n 2, 1) := by decide +kernel
theorem d_Meaning_isAggregated_47 : decode prog_4_method_32_code 47 = .ok (.iinc 3 1, 3) := by decide +kernel
theorem d_Meaning_isAggregated_50 : decode prog_4_method_32_code 50 = .ok (.goto (-39), 3) := by decide +kernel
theorem d_Meaning_isAggregated_53 : decode prog_4_method_32_code 53 = .ok (.iconst 0, 1) := by decide +kernel
theorem d_Meaning_isAggregated_54 : decode prog_4_method_32_code 54 = .ok (.ireturn, 1) := by decide +kernel
theorem d_Meaning_isGrouped_0 : decode prog_4_method_34_code 0 = .ok (.iconst 0, 1) := by decide +kernel
theorem d_Meaning_isGrouped_1 : decode prog_4_method_34_code 1 = .ok (.istore_n 2, 1) := by decide +kernel
theorem d_Meaning_isGrouped_2 : decode prog_4_method_34_code 2 = .ok (.iload_n 2, 1) := by decide +kernel
theorem d_Meaning_isGrouped_3 : decode prog_4_method_34_code 3 = .ok (.aload_n 0, 1) := by decide +kernel
theorem d_Meaning_isGrouped_4 : decode prog_4_method_34_code 4 = .ok (.getfield 28, 3) := by decide +kernel
theorem d_Meaning_isGrouped_7 : decode prog_4_method_34_code 7 = .ok (.iconst 1, 1) := by decide +kernel
theorem d_Meaning_isGrouped_8 : decode prog_4_method_34_code 8 = .ok (.invokevirtual 66, 3) := by decide +kernel
theorem d_Meaning_isGrouped_11 : decode prog_4_method_34_code 11 = .ok (.if_icmp .ge 71, 3) := by decide +kernel
theorem d_Meaning_isGrouped_14 : decode prog_4_method_34_code 14 = .ok (.aload_n 0, 1) := by decide +kernel
theorem d_Meaning_isGrouped_15 : decode prog_4_method_34_code 15 = .ok (.getfield 28, 3) := by decide +kernel
theorem d_Meaning_isGrouped_18 : decode prog_4_method_34_code 18 = .ok (.iconst 1, 1) := by decide +kernel
theorem d_Meaning_isGrouped_19 : decode prog_4_method_34_code 19 = .ok (.iload_n 2, 1) := by decide +kernel
theorem d_Meaning_isGrouped_20 : decode prog_4_method_34_code 20 = .ok (.invokevirtual 70, 3) := by decide +kernel
theorem d_Meaning_isGrouped_23 : decode prog_4_method_34_code 23 = .ok (.istore_n 3, 1) := by decide +kernel
theorem d_Meaning_isGrouped_24 : decode prog_4_method_34_code 24 = .ok (.aload_n 0, 1) := by decide +kernel
theorem d_Meaning_isGrouped_25 : decode prog_4_method_34_code 25 = .ok (.getfield 24, 3) := by decide +kernel
theorem d_Meaning_isGrouped_28 : decode prog_4_method_34_code 28 = .ok (.iload_n 3, 1) := by decide +kernel
theorem d_Meaning_isGrouped_29 : decode prog_4_method_34_code 29 = .ok (.invokevirtual 198, 3) := by decide +kernel
theorem d_Meaning_isGrouped_32 : decode prog_4_method_34_code 32 = .ok (.aload_n 0, 1) := by decide +kernel
theorem d_Meaning_isGrouped_33 : decode prog_4_method_34_code 33 = .ok (.getfield 24, 3) := by decide +kernel
theorem d_Meaning_isGrouped_36 : decode prog_4_method_34_code 36 = .ok (.iload_n 1, 1) := by decide +kernel
theorem d_Meaning_isGrouped_37 : decode prog_4_method_34_code 37 = .ok (.invokevirtual 198, 3) := by decide +kernel
theorem d_Meaning_isGrouped_40 : decode prog_4_method_34_code 40 = .ok (.if_icmp .ne 7, 3) := by decide +kernel
theorem d_Meaning_isGrouped_43 : decode prog_4_method_34_code 43 = .ok (.iconst 1, 1) := by decide +kernel
theorem d_Meaning_isGrouped_44 : decode prog_4_method_34_code 44 = .ok (.goto 4, 3) := by decide +kernel
theorem d_Meaning_isGrouped_47 : decode prog_4_method_34_code 47 = .ok (.iconst 0, 1) := by decide +kernel
theorem d_Meaning_isGrouped_48 : decode prog_4_method_34_code 48 = .ok (.istore 4, 2) := by decide +kernel
theorem d_Meaning_isGrouped_50 : decode prog_4_method_34_code 50 = .ok (.iload 4, 2) := by decide +kernel
theorem d_Meaning_isGrouped_52 : decode prog_4_method_34_code 52 = .ok (.ifCond .eq 24, 3) := by decide +kernel
theorem d_Meaning_isGrouped_55 : decode prog_4_method_34_code 55 = .ok (.aload_n 0, 1) := by decide +kernel
theorem d_Meaning_isGrouped_56 : decode prog_4_method_34_code 56 = .ok (.getfield 24, 3) := by decide +kernel
theorem d_Meaning_isGrouped_59 : decode prog_4_method_34_code 59 = .ok (.iload_n 3, 1) := by decide +kernel
theorem d_Meaning_isGrouped_60 : decode prog_4_method_34_code 60 = .ok (.invokevirtual 203, 3) := by decide +kernel
theorem d_Meaning_isGrouped_63 : decode prog_4_method_34_code 63 = .ok (.aload_n 0, 1) := by decide +kernel
theorem d_Meaning_isGrouped_64 : decode prog_4_method_34_code 64 = .ok (.getfield 24, 3) := by decide +kernel
theorem d_Meaning_isGrouped_67 : decode prog_4_method_34_code 67 = .ok (.iload_n 1, 1) := by decide +kernel
theorem d_Meaning_isGrouped_68 : decode prog_4_method_34_code 68 = .ok (.invokevirtual 203, 3) := by decide +kernel
theorem d_Meaning_isGrouped_71 : decode prog_4_method_34_code 71 = .ok (.if_icmp .ne 5, 3) := by decide +kernel
theorem d_Meaning_isGrouped_74 : decode prog_4_method_34_code 74 = .ok (.iconst 1, 1) := by decide +kernel
theorem d_Meaning_isGrouped_75 : decode prog_4_method_34_code 75 = .ok (.ireturn, 1) := by decide +kernel
theorem d_Meaning_isGrouped_76 : decode prog_4_method_34_code 76 = .ok (.iinc 2 1, 3) := by decide +kernel
theorem d_Meaning_isGrouped_79 : decode prog_4_method_34_code 79 = .ok (.goto (-77), 3) := by decide +kernel
theorem d_Meaning_isGrouped_82 : decode prog_4_method_34_code 82 = .ok (.iconst 0, 1) := by decide +kernel
theorem d_Meaning_isGrouped_83 : decode prog_4_method_34_code 83 = .ok (.ireturn, 1) := by decide +kernel
theorem d_Meaning_itemsAreGrouped_0 : decode prog_4_method_33_code 0 = .ok (.aload_n 0, 1) := by decide +kernel
theorem d_Meaning_itemsAreGrouped_1 : decode prog_4_method_33_code 1 = .ok (.getfield 28, 3) := by decide +kernel
theorem d_Meaning_itemsAreGrouped_4 : decode prog_4_method_33_code 4 = .ok (.iconst 0, 1) := by decide +kernel
theorem d_Meaning_itemsAreGrouped_5 : decode prog_4_method_33_code 5 = .ok (.invokevirtual 66, 3) := by decide +kernel
theorem d_Meaning_itemsAreGrouped_8 : decode prog_4_method_33_code 8 = .ok (.istore_n 1, 1) := by decide +kernel
theorem d_Meaning_itemsAreGrouped_9 : decode prog_4_method_33_code 9 = .ok (.aload_n 0, 1) := by decide +kernel
theorem d_Meaning_itemsAreGrouped_10 : decode prog_4_method_33_code 10 = .ok (.getfield 32, 3) := by decide +kernel
theorem d_Meaning_itemsAreGrouped_13 : decode prog_4_method_33_code 13 = .ok (.getfield 111, 3) := by decide +kernel
theorem d_Meaning_itemsAreGrouped_16 : decode prog_4_method_33_code 16 = .ok (.ifCond .eq 15, 3) := by decide +kernel
theorem d_Meaning_itemsAreGrouped_19 : decode prog_4_method_33_code 19 = .ok (.aload_n 0, 1) := by decide +kernel
theorem d_Meaning_itemsAreGrouped_20 : decode prog_4_method_33_code 20 = .ok (.getfield 28, 3) := by decide +kernel
theorem d_Meaning_itemsAreGrouped_23 : decode prog_4_method_33_code 23 = .ok (.iconst 0, 1) := by decide +kernel
theorem d_Meaning_itemsAreGrouped_24 : decode prog_4_method_33_code 24 = .ok (.iconst 0, 1) := by decide +kernel
theorem d_Meaning_itemsAreGrouped_25 : decode prog_4_method_33_code 25 = .ok (.invokevirtual 70, 3) := by decide +kernel
theorem d_Meaning_itemsAreGrouped_28 : decode prog_4_method_33_code 28 = .ok (.goto 4, 3) := by decide +kernel
theorem d_Meaning_itemsAreGrouped_31 : decode prog_4_method_33_code 31 = .ok (.iconst 0, 1) := by decide +kernel
theorem d_Meaning_itemsAreGrouped_32 : decode prog_4_method_33_code 32 = .ok (.istore_n 2, 1) := by decide +kernel
theorem d_Meaning_itemsAreGrouped_33 : decode prog_4_method_33_code 33 = .ok (.aload_n 0, 1) := by decide +kernel
theorem d_Meaning_itemsAreGrouped_34 : decode prog_4_method_33_code 34 = .ok (.getfield 28, 3) := by decide +kernel
theorem d_Meaning_itemsAreGrouped_37 : decode prog_4_method_33_code 37 = .ok (.iconst 0, 1) := by decide +kernel
theorem d_Meaning_itemsAreGrouped_38 : decode prog_4_method_33_code 38 = .ok (.iload_n 1, 1) := by decide +kernel
theorem d_Meaning_itemsAreGrouped_39 : decode prog_4_method_33_code 39 = .ok (.iconst 1, 1) := by decide +kernel
theorem d_Meaning_itemsAreGrouped_40 : decode prog_4_method_33_code 40 = .ok (.isub, 1) := by decide +kernel
theorem d_Meaning_itemsAreGrouped_41 : decode prog_4_method_33_code 41 = .ok (.invokevirtual 70, 3) := by decide +kernel
theorem d_Meaning_itemsAreGrouped_44 : decode prog_4_method_33_code 44 = .ok (.istore_n 3, 1) := by decide +kernel
theorem d_Meaning_itemsAreGrouped_45 : decode prog_4_method_33_code 45 = .ok (.iload_n 2, 1) := by decide +kernel
theorem d_Meaning_itemsAreGrouped_46 : decode prog_4_method_33_code 46 = .ok (.iconst 0, 1) := by decide +kernel
theorem d_Meaning_itemsAreGrouped_47 : decode prog_4_method_33_code 47 = .ok (.invokestatic 234, 3) := by decide +kernel
theorem d_Meaning_itemsAreGrouped_50 : decode prog_4_method_33_code 50 = .ok (.istore 4, 2) := by decide +kernel
theorem d_Meaning_itemsAreGrouped_52 : decode prog_4_method_33_code 52 = .ok (.iload 4, 2) := by decide +kernel
theorem d_Meaning_itemsAreGrouped_54 : decode prog_4_method_33_code 54 = .ok (.iload_n 3, 1) := by decide +kernel
theorem d_Meaning_itemsAreGrouped_55 : decode prog_4_method_33_code 55 = .ok (.if_icmp .gt 54, 3) := by decide +kernel
theorem d_Meaning_itemsAreGrouped_58 : decode prog_4_method_33_code 58 = .ok (.aload_n 0, 1) := by decide +kernel
theorem d_Meaning_itemsAreGrouped_59 : decode prog_4_method_33_code 59 = .ok (.getfield 24, 3) := by decide +kernel
theorem d_Meaning_itemsAreGrouped_62 : decode prog_4_method_33_code 62 = .ok (.iload 4, 2) := by decide +kernel
theorem d_Meaning_itemsAreGrouped_64 : decode prog_4_method_33_code 64 = .ok (.invokevirtual 128, 3) := by decide +kernel
theorem d_Meaning_itemsAreGrouped_67 : decode prog_4_method_33_code 67 = .ok (.iconst 4, 1) := by decide +kernel
theorem d_Meaning_itemsAreGrouped_68 : decode prog_4_method_33_code 68 = .ok (.if_icmp .ne 16, 3) := by decide +kernel
theorem d_Meaning_itemsAreGrouped_71 : decode prog_4_method_33_code 71 = .ok (.aload_n 0, 1) := by decide +kernel
theorem d_Meaning_itemsAreGrouped_72 : decode prog_4_method_33_code 72 = .ok (.iload 4, 2) := by decide +kernel
theorem d_Meaning_itemsAreGrouped_74 : decode prog_4_method_33_code 74 = .ok (.invokevirtual 265, 3) := by decide +kernel
theorem d_Meaning_itemsAreGrouped_77 : decode prog_4_method_33_code 77 = .ok (.ifCond .ne 7, 3) := by decide +kernel
theorem d_Meaning_itemsAreGrouped_80 : decode prog_4_method_33_code 80 = .ok (.iconst 1, 1) := by decide +kernel
theorem d_Meaning_itemsAreGrouped_81 : decode prog_4_method_33_code 81 = .ok (.goto 4, 3) := by decide +kernel
theorem d_Meaning_itemsAreGrouped_84 : decode prog_4_method_33_code 84 = .ok (.iconst 0, 1) := by decide +kernel
theorem d_Meaning_itemsAreGrouped_85 : decode prog_4_method_33_code 85 = .ok (.istore 5, 2) := by decide +kernel
theorem d_Meaning_itemsAreGrouped_87 : decode prog_4_method_33_code 87 = .ok (.iload 5, 2) := by decide +kernel
theorem d_Meaning_itemsAreGrouped_89 : decode prog_4_method_33_code 89 = .ok (.ifCond .eq 14, 3) := by decide +kernel
theorem d_Meaning_itemsAreGrouped_92 : decode prog_4_method_33_code 92 = .ok (.aload_n 0, 1) := by decide +kernel
theorem d_Meaning_itemsAreGrouped_93 : decode prog_4_method_33_code 93 = .ok (.iload 4, 2) := by decide +kernel
theorem d_Meaning_itemsAreGrouped_95 : decode prog_4_method_33_code 95 = .ok (.invokevirtual 277, 3) := by decide +kernel
theorem d_Meaning_itemsAreGrouped_98 : decode prog_4_method_33_code 98 = .ok (.ifCond .ne 5, 3) := by decide +kernel
theorem d_Meaning_itemsAreGrouped_101 : decode prog_4_method_33_code 101 = .ok (.iconst 0, 1) := by decide +kernel
theorem d_Meaning_itemsAreGrouped_102 : decode prog_4_method_33_code 102 = .ok (.ireturn, 1) := by decide +kernel
theorem d_Meaning_itemsAreGrouped_103 : decode prog_4_method_33_code 103 = .ok (.iinc 4 1, 3) := by decide +kernel
theorem d_Meaning_itemsAreGrouped_106 : decode prog_4_method_33_code 106 = .ok (.goto (-54), 3) := by decide +kernel
theorem d_Meaning_itemsAreGrouped_109 : decode prog_4_method_33_code 109 = .ok (.iconst 1, 1) := by decide +kernel
theorem d_Meaning_itemsAreGrouped_110 : decode prog_4_method_33_code 110 = .ok (.ireturn, 1) := by decide +kernel
theorem d_Meaning_judge_0 : decode prog_4_method_16_code 0 = .ok (.aload_n 0, 1) := by decide +kernel
theorem d_Meaning_judge_1 : decode prog_4_method_16_code 1 = .ok (.getfield 24, 3) := by decide +kernel
theorem d_Meaning_judge_4 : decode prog_4_method_16_code 4 = .ok (.iload_n 1, 1) := by decide +kernel
theorem d_Meaning_judge_5 : decode prog_4_method_16_code 5 = .ok (.invokevirtual 182, 3) := by decide +kernel
theorem d_Meaning_judge_8 : decode prog_4_method_16_code 8 = .ok (.istore_n 2, 1) := by decide +kernel
theorem d_Meaning_judge_9 : decode prog_4_method_16_code 9 = .ok (.iload_n 2, 1) := by decide +kernel
theorem d_Meaning_judge_10 : decode prog_4_method_16_code 10 = .ok (.ifCond .eq 5, 3) := by decide +kernel
theorem d_Meaning_judge_13 : decode prog_4_method_16_code 13 = .ok (.iload_n 2, 1) := by decide +kernel
theorem d_Meaning_judge_14 : decode prog_4_method_16_code 14 = .ok (.ireturn, 1) := by decide +kernel
theorem d_Meaning_judge_15 : decode prog_4_method_16_code 15 = .ok (.aload_n 0, 1) := by decide +kernel
theorem d_Meaning_judge_16 : decode prog_4_method_16_code 16 = .ok (.iload_n 1, 1) := by decide +kernel
theorem d_Meaning_judge_17 : decode prog_4_method_16_code 17 = .ok (.invokevirtual 185, 3) := by decide +kernel
theorem d_Meaning_judge_20 : decode prog_4_method_16_code 20 = .ok (.ifCond .ne 6, 3) := by decide +kernel
theorem d_Meaning_judge_23 : decode prog_4_method_16_code 23 = .ok (.bipush 8, 2) := by decide +kernel
theorem d_Meaning_judge_25 : decode prog_4_method_16_code 25 = .ok (.ireturn, 1) := by decide +kernel
theorem d_Meaning_judge_26 : decode prog_4_method_16_code 26 = .ok (.aload_n 0, 1) := by decide +kernel
theorem d_Meaning_judge_27 : decode prog_4_method_16_code 27 = .ok (.iload_n 1, 1) := by decide +kernel
theorem d_Meaning_judge_28 : decode prog_4_method_16_code 28 = .ok (.invokevirtual 189, 3) := by decide +kernel
theorem d_Meaning_judge_31 : decode prog_4_method_16_code 31 = .ok (.istore_n 3, 1) := by decide +kernel
theorem d_Meaning_judge_32 : decode prog_4_method_16_code 32 = .ok (.aload_n 0, 1) := by decide +kernel
theorem d_Meaning_judge_33 : decode prog_4_method_16_code 33 = .ok (.getfield 24, 3) := by decide +kernel
theorem d_Meaning_judge_36 : decode prog_4_method_16_code 36 = .ok (.iload_n 1, 1) := by decide +kernel
theorem d_Meaning_judge_37 : decode prog_4_method_16_code 37 = .ok (.iload_n 3, 1) := by decide +kernel
theorem d_Meaning_judge_38 : decode prog_4_method_16_code 38 = .ok (.invokevirtual 154, 3) := by decide +kernel
theorem d_Meaning_judge_41 : decode prog_4_method_16_code 41 = .ok (.iload_n 3, 1) := by decide +kernel
theorem d_Meaning_judge_42 : decode prog_4_method_16_code 42 = .ok (.aload_n 0, 1) := by decide +kernel
theorem d_Meaning_judge_43 : decode prog_4_method_16_code 43 = .ok (.getfield 24, 3) := by decide +kernel
theorem d_Meaning_judge_46 : decode prog_4_method_16_code 46 = .ok (.iload_n 1, 1) := by decide +kernel
theorem d_Meaning_judge_47 : decode prog_4_method_16_code 47 = .ok (.invokevirtual 192, 3) := by decide +kernel
theorem d_Meaning_judge_50 : decode prog_4_method_16_code 50 = .ok (.invokestatic 175, 3) := by decide +kernel
theorem d_Meaning_judge_53 : decode prog_4_method_16_code 53 = .ok (.ifCond .eq 7, 3) := by decide +kernel
theorem d_Meaning_judge_56 : decode prog_4_method_16_code 56 = .ok (.iconst 0, 1) := by decide +kernel
theorem d_Meaning_judge_57 : decode prog_4_method_16_code 57 = .ok (.goto 5, 3) := by decide +kernel
theorem d_Meaning_judge_60 : decode prog_4_method_16_code 60 = .ok (.bipush 8, 2) := by decide +kernel
theorem d_Meaning_judge_62 : decode prog_4_method_16_code 62 = .ok (.ireturn, 1) := by decide +kernel
theorem d_Meaning_judgeTo_0 : decode prog_4_method_15_code 0 = .ok (.iconst 0, 1) := by decide +kernel
theorem d_Meaning_judgeTo_1 : decode prog_4_method_15_code 1 = .ok (.istore_n 2, 1) := by decide +kernel
theorem d_Meaning_judgeTo_2 : decode prog_4_method_15_code 2 = .ok (.aload_n 0, 1) := by decide +kernel
theorem d_Meaning_judgeTo_3 : decode prog_4_method_15_code 3 = .ok (.getfield 102, 3) := by decide +kernel
theorem d_Meaning_judgeTo_6 : decode prog_4_method_15_code 6 = .ok (.istore_n 3, 1) := by decide +kernel
theorem d_Meaning_judgeTo_7 : decode prog_4_method_15_code 7 = .ok (.iload_n 3, 1) := by decide +kernel
theorem d_Meaning_judgeTo_8 : decode prog_4_method_15_code 8 = .ok (.iload_n 1, 1) := by decide +kernel
theorem d_Meaning_judgeTo_9 : decode prog_4_method_15_code 9 = .ok (.if_icmp .ge 19, 3) := by decide +kernel
theorem d_Meaning_judgeTo_12 : decode prog_4_method_15_code 12 = .ok (.iload_n 2, 1) := by decide +kernel
theorem d_Meaning_judgeTo_13 : decode prog_4_method_15_code 13 = .ok (.ifCond .ne 15, 3) := by decide +kernel
theorem d_Meaning_judgeTo_16 : decode prog_4_method_15_code 16 = .ok (.aload_n 0, 1) := by decide +kernel
theorem d_Meaning_judgeTo_17 : decode prog_4_method_15_code 17 = .ok (.iload_n 3, 1) := by decide +kernel
theorem d_Meaning_judgeTo_18 : decode prog_4_method_15_code 18 = .ok (.invokevirtual 179, 3) := by decide +kernel
theorem d_Meaning_judgeTo_21 : decode prog_4_method_15_code 21 = .ok (.istore_n 2, 1) := by decide +kernel
theorem d_Meaning_judgeTo_22 : decode prog_4_method_15_code 22 = .ok (.iinc 3 1, 3) := by decide +kernel
theorem d_Meaning_judgeTo_25 : decode prog_4_method_15_code 25 = .ok (.goto (-18), 3) := by decide +kernel
theorem d_Meaning_judgeTo_28 : decode prog_4_method_15_code 28 = .ok (.aload_n 0, 1) := by decide +kernel
theorem d_Meaning_judgeTo_29 : decode prog_4_method_15_code 29 = .ok (.iload_n 1, 1) := by decide +kernel
theorem d_Meaning_judgeTo_30 : decode prog_4_method_15_code 30 = .ok (.putfield 102, 3) := by decide +kernel
theorem d_Meaning_judgeTo_33 : decode prog_4_method_15_code 33 = .ok (.iload_n 2, 1) := by decide +kernel
theorem d_Meaning_judgeTo_34 : decode prog_4_method_15_code 34 = .ok (.ireturn, 1) := by decide +kernel
theorem d_Meaning_measureError_0 : decode prog_4_method_25_code 0 = .ok (.aload_n 0, 1) := by decide +kernel
theorem d_Meaning_measureError_1 : decode prog_4_method_25_code 1 = .ok (.getfield 32, 3) := by decide +kernel
theorem d_Meaning_measureError_4 : decode prog_4_method_25_code 4 = .ok (.getfield 111, 3) := by decide +kernel
theorem d_Meaning_measureError_7 : decode prog_4_method_25_code 7 = .ok (.ifCond .eq 10, 3) := by decide +kernel
theorem d_Meaning_measureError_10 : decode prog_4_method_25_code 10 = .ok (.aload_n 0, 1) := by decide +kernel
theorem d_Meaning_measureError_11 : decode prog_4_method_25_code 11 = .ok (.invokevirtual 239, 3) := by decide +kernel
theorem d_Meaning_measureError_14 : decode prog_4_method_25_code 14 = .ok (.goto 4, 3) := by decide +kernel
theorem d_Meaning_measureError_17 : decode prog_4_method_25_code 17 = .ok (.iconst 0, 1) := by decide +kernel
theorem d_Meaning_measureError_18 : decode prog_4_method_25_code 18 = .ok (.istore_n 1, 1) := by decide +kernel
theorem d_Meaning_measureError_19 : decode prog_4_method_25_code 19 = .ok (.iload_n 1, 1) := by decide +kernel
theorem d_Meaning_measureError_20 : decode prog_4_method_25_code 20 = .ok (.bipush 8, 2) := by decide +kernel
theorem d_Meaning_measureError_22 : decode prog_4_method_25_code 22 = .ok (.if_icmp .le 5, 3) := by decide +kernel
theorem d_Meaning_measureError_25 : decode prog_4_method_25_code 25 = .ok (.iconst 3, 1) := by decide +kernel
theorem d_Meaning_measureError_26 : decode prog_4_method_25_code 26 = .ok (.ireturn, 1) := by decide +kernel
theorem d_Meaning_measureError_27 : decode prog_4_method_25_code 27 = .ok (.aload_n 0, 1) := by decide +kernel
theorem d_Meaning_measureError_28 : decode prog_4_method_25_code 28 = .ok (.getfield 24, 3) := by decide +kernel
theorem d_Meaning_measureError_31 : decode prog_4_method_25_code 31 = .ok (.invokevirtual 121, 3) := by decide +kernel
theorem d_Meaning_measureError_34 : decode prog_4_method_25_code 34 = .ok (.iload_n 1, 1) := by decide +kernel
theorem d_Meaning_measureError_35 : decode prog_4_method_25_code 35 = .ok (.iadd, 1) := by decide +kernel
theorem d_Meaning_measureError_36 : decode prog_4_method_25_code 36 = .ok (.sipush 200, 3) := by decide +kernel
theorem d_Meaning_measureError_39 : decode prog_4_method_25_code 39 = .ok (.if_icmp .le 5, 3) := by decide +kernel
theorem d_Meaning_measureError_42 : decode prog_4_method_25_code 42 = .ok (.iconst 2, 1) := by decide +kernel
theorem d_Meaning_measureError_43 : decode prog_4_method_25_code 43 = .ok (.ireturn, 1) := by decide +kernel
theorem d_Meaning_measureError_44 : decode prog_4_method_25_code 44 = .ok (.aload_n 0, 1) := by decide +kernel
theorem d_Meaning_measureError_45 : decode prog_4_method_25_code 45 = .ok (.getfield 32, 3) := by decide +kernel
theorem d_Meaning_measureError_48 : decode prog_4_method_25_code 48 = .ok (.getfield 111, 3) := by decide +kernel
theorem d_Meaning_measureError_51 : decode prog_4_method_25_code 51 = .ok (.ifCond .eq 7, 3) := by decide +kernel
theorem d_Meaning_measureError_54 : decode prog_4_method_25_code 54 = .ok (.aload_n 0, 1) := by decide +kernel
theorem d_Meaning_measureError_55 : decode prog_4_method_25_code 55 = .ok (.invokevirtual 242, 3) := by decide +kernel
theorem d_Meaning_measureError_58 : decode prog_4_method_25_code 58 = .ok (.aload_n 0, 1) := by decide +kernel
theorem d_Meaning_measureError_59 : decode prog_4_method_25_code 59 = .ok (.getfield 32, 3) := by decide +kernel
theorem d_Meaning_measureError_62 : decode prog_4_method_25_code 62 = .ok (.getfield 245, 3) := by decide +kernel
theorem d_Meaning_measureError_65 : decode prog_4_method_25_code 65 = .ok (.bipush 16, 2) := by decide +kernel
theorem d_Meaning_measureError_67 : decode prog_4_method_25_code 67 = .ok (.if_icmp .ne 7, 3) := by decide +kernel
theorem d_Meaning_measureError_70 : decode prog_4_method_25_code 70 = .ok (.iconst 1, 1) := by decide +kernel
theorem d_Meaning_measureError_71 : decode prog_4_method_25_code 71 = .ok (.goto 4, 3) := by decide +kernel
theorem d_Meaning_measureError_74 : decode prog_4_method_25_code 74 = .ok (.iconst 0, 1) := by decide +kernel
theorem d_Meaning_measureError_75 : decode prog_4_method_25_code 75 = .ok (.istore_n 2, 1) := by decide +kernel
theorem d_Meaning_measureError_76 : decode prog_4_method_25_code 76 = .ok (.aload_n 0, 1) := by decide +kernel
theorem d_Meaning_measureError_77 : decode prog_4_method_25_code 77 = .ok (.invokevirtual 248, 3) := by decide +kernel
theorem d_Meaning_measureError_80 : decode prog_4_method_25_code 80 = .ok (.ifCond .eq 37, 3) := by decide +kernel
theorem d_Meaning_measureError_83 : decode prog_4_method_25_code 83 = .ok (.aload_n 0, 1) := by decide +kernel
theorem d_Meaning_measureError_84 : decode prog_4_method_25_code 84 = .ok (.invokevirtual 252, 3) := by decide +kernel
theorem d_Meaning_measureError_87 : decode prog_4_method_25_code 87 = .ok (.ifCond .eq 30, 3) := by decide +kernel
theorem d_Meaning_measureError_90 : decode prog_4_method_25_code 90 = .ok (.aload_n 0, 1) := by decide +kernel
theorem d_Meaning_measureError_91 : decode prog_4_method_25_code 91 = .ok (.invokevirtual 255, 3) := by decide +kernel
theorem d_Meaning_measureError_94 : decode prog_4_method_25_code 94 = .ok (.ifCond .eq 23, 3) := by decide +kernel
theorem d_Meaning_measureError_97 : decode prog_4_method_25_code 97 = .ok (.iload_n 2, 1) := by decide +kernel
theorem d_Meaning_measureError_98 : decode prog_4_method_25_code 98 = .ok (.ifCond .ne 15, 3) := by decide +kernel
theorem d_Meaning_measureError_101 : decode prog_4_method_25_code 101 = .ok (.aload_n 0, 1) := by decide +kernel
theorem d_Meaning_measureError_102 : decode prog_4_method_25_code 102 = .ok (.getfield 28, 3) := by decide +kernel
theorem d_Meaning_measureError_105 : decode prog_4_method_25_code 105 = .ok (.bipush 8, 2) := by decide +kernel
theorem d_Meaning_measureError_107 : decode prog_4_method_25_code 107 = .ok (.invokevirtual 66, 3) := by decide +kernel
theorem d_Meaning_measureError_110 : decode prog_4_method_25_code 110 = .ok (.ifCond .ne 7, 3) := by decide +kernel
theorem d_Meaning_measureError_113 : decode prog_4_method_25_code 113 = .ok (.iconst 1, 1) := by decide +kernel
theorem d_Meaning_measureError_114 : decode prog_4_method_25_code 114 = .ok (.goto 4, 3) := by decide +kernel
theorem d_Meaning_measureError_117 : decode prog_4_method_25_code 117 = .ok (.iconst 0, 1) := by decide +kernel
theorem d_Meaning_measureError_118 : decode prog_4_method_25_code 118 = .ok (.istore_n 3, 1) := by decide +kernel
theorem d_Meaning_measureError_119 : decode prog_4_method_25_code 119 = .ok (.iload_n 3, 1) := by decide +kernel
theorem d_Meaning_measureError_120 : decode prog_4_method_25_code 120 = .ok (.ifCond .eq 7, 3) := by decide +kernel
theorem d_Meaning_measureError_123 : decode prog_4_method_25_code 123 = .ok (.iconst 0, 1) := by decide +kernel
theorem d_Meaning_measureError_124 : decode prog_4_method_25_code 124 = .ok (.goto 4, 3) := by decide +kernel
theorem d_Meaning_measureError_127 : decode prog_4_method_25_code 127 = .ok (.iconst 1, 1) := by decide +kernel
theorem d_Meaning_measureError_128 : decode prog_4_method_25_code 128 = .ok (.ireturn, 1) := by decide +kernel
theorem d_Meaning_nameOfTable_0 : decode prog_4_method_4_code 0 = .ok (.aload_n 0, 1) := by decide +kernel
theorem d_Meaning_nameOfTable_1 : decode prog_4_method_4_code 1 = .ok (.getfield 28, 3) := by decide +kernel
theorem d_Meaning_nameOfTable_4 : decode prog_4_method_4_code 4 = .ok (.bipush 11, 2) := by decide +kernel
theorem d_Meaning_nameOfTable_6 : decode prog_4_method_4_code 6 = .ok (.iload_n 1, 1) := by decide +kernel
theorem d_Meaning_nameOfTable_7 : decode prog_4_method_4_code 7 = .ok (.invokevirtual 70, 3) := by decide +kernel
theorem d_Meaning_nameOfTable_10 : decode prog_4_method_4_code 10 = .ok (.istore_n 2, 1) := by decide +kernel
theorem d_Meaning_nameOfTable_11 : decode prog_4_method_4_code 11 = .ok (.iload_n 2, 1) := by decide +kernel
theorem d_Meaning_nameOfTable_12 : decode prog_4_method_4_code 12 = .ok (.ifCond .lt 7, 3) := by decide +kernel
theorem d_Meaning_nameOfTable_15 : decode prog_4_method_4_code 15 = .ok (.iload_n 2, 1) := by decide +kernel
theorem d_Meaning_nameOfTable_16 : decode prog_4_method_4_code 16 = .ok (.goto 13, 3) := by decide +kernel
theorem d_Meaning_nameOfTable_19 : decode prog_4_method_4_code 19 = .ok (.aload_n 0, 1) := by decide +kernel
theorem d_Meaning_nameOfTable_20 : decode prog_4_method_4_code 20 = .ok (.getfield 28, 3) := by decide +kernel
theorem d_Meaning_nameOfTable_23 : decode prog_4_method_4_code 23 = .ok (.bipush 10, 2) := by decide +kernel
theorem d_Meaning_nameOfTable_25 : decode prog_4_method_4_code 25 = .ok (.iload_n 1, 1) := by decide +kernel
theorem d_Meaning_nameOfTable_26 : decode prog_4_method_4_code 26 = .ok (.invokevirtual 70, 3) := by decide +kernel
theorem d_Meaning_nameOfTable_29 : decode prog_4_method_4_code 29 = .ok (.ireturn, 1) := by decide +kernel
theorem d_Meaning_namesDiffer_0 : decode prog_4_method_29_code 0 = .ok (.iconst 0, 1) := by decide +kernel
theorem d_Meaning_namesDiffer_1 : decode prog_4_method_29_code 1 = .ok (.istore_n 1, 1) := by decide +kernel
theorem d_Meaning_namesDiffer_2 : decode prog_4_method_29_code 2 = .ok (.iload_n 1, 1) := by decide +kernel
theorem d_Meaning_namesDiffer_3 : decode prog_4_method_29_code 3 = .ok (.aload_n 0, 1) := by decide +kernel
theorem d_Meaning_namesDiffer_4 : decode prog_4_method_29_code 4 = .ok (.getfield 28, 3) := by decide +kernel
theorem d_Meaning_namesDiffer_7 : decode prog_4_method_29_code 7 = .ok (.bipush 13, 2) := by decide +kernel
theorem d_Meaning_namesDiffer_9 : decode prog_4_method_29_code 9 = .ok (.invokevirtual 66, 3) := by decide +kernel
theorem d_Meaning_namesDiffer_12 : decode prog_4_method_29_code 12 = .ok (.if_icmp .ge 60, 3) := by decide +kernel
theorem d_Meaning_namesDiffer_15 : decode prog_4_method_29_code 15 = .ok (.aload_n 0, 1) := by decide +kernel
theorem d_Meaning_namesDiffer_16 : decode prog_4_method_29_code 16 = .ok (.getfield 28, 3) := by decide +kernel
theorem d_Meaning_namesDiffer_19 : decode prog_4_method_29_code 19 = .ok (.bipush 13, 2) := by decide +kernel
theorem d_Meaning_namesDiffer_21 : decode prog_4_method_29_code 21 = .ok (.iload_n 1, 1) := by decide +kernel
theorem d_Meaning_namesDiffer_22 : decode prog_4_method_29_code 22 = .ok (.invokevirtual 70, 3) := by decide +kernel
theorem d_Meaning_namesDiffer_25 : decode prog_4_method_29_code 25 = .ok (.istore_n 2, 1) := by decide +kernel
theorem d_Meaning_namesDiffer_26 : decode prog_4_method_29_code 26 = .ok (.iconst 0, 1) := by decide +kernel
theorem d_Meaning_namesDiffer_27 : decode prog_4_method_29_code 27 = .ok (.istore_n 3, 1) := by decide +kernel
theorem d_Meaning_namesDiffer_28 : decode prog_4_method_29_code 28 = .ok (.iload_n 3, 1) := by decide +kernel
theorem d_Meaning_namesDiffer_29 : decode prog_4_method_29_code 29 = .ok (.iload_n 1, 1) := by decide +kernel
theorem d_Meaning_namesDiffer_30 : decode prog_4_method_29_code 30 = .ok (.if_icmp .ge 36, 3) := by decide +kernel
theorem d_Meaning_namesDiffer_33 : decode prog_4_method_29_code 33 = .ok (.aload_n 0, 1) := by decide +kernel
theorem d_Meaning_namesDiffer_34 : decode prog_4_method_29_code 34 = .ok (.getfield 21, 3) := by decide +kernel
theorem d_Meaning_namesDiffer_37 : decode prog_4_method_29_code 37 = .ok (.iload_n 2, 1) := by decide +kernel
theorem d_Meaning_namesDiffer_38 : decode prog_4_method_29_code 38 = .ok (.aload_n 0, 1) := by decide +kernel
theorem d_Meaning_namesDiffer_39 : decode prog_4_method_29_code 39 = .ok (.getfield 21, 3) := by decide +kernel
theorem d_Meaning_namesDiffer_42 : decode prog_4_method_29_code 42 = .ok (.aload_n 0, 1) := by decide +kernel
theorem d_Meaning_namesDiffer_43 : decode prog_4_method_29_code 43 = .ok (.getfield 28, 3) := by decide +kernel
theorem d_Meaning_namesDiffer_46 : decode prog_4_method_29_code 46 = .ok (.bipush 13, 2) := by decide +kernel
theorem d_Meaning_namesDiffer_48 : decode prog_4_method_29_code 48 = .ok (.iload_n 3, 1) := by decide +kernel
theorem d_Meaning_namesDiffer_49 : decode prog_4_method_29_code 49 = .ok (.invokevirtual 70, 3) := by decide +kernel
theorem d_Meaning_namesDiffer_52 : decode prog_4_method_29_code 52 = .ok (.invokevirtual 84, 3) := by decide +kernel
theorem d_Meaning_namesDiffer_55 : decode prog_4_method_29_code 55 = .ok (.ifCond .eq 5, 3) := by decide +kernel
theorem d_Meaning_namesDiffer_58 : decode prog_4_method_29_code 58 = .ok (.iconst 0, 1) := by decide +kernel
theorem d_Meaning_namesDiffer_59 : decode prog_4_method_29_code 59 = .ok (.ireturn, 1) := by decide +kernel
theorem d_Meaning_namesDiffer_60 : decode prog_4_method_29_code 60 = .ok (.iinc 3 1, 3) := by decide +kernel
theorem d_Meaning_namesDiffer_63 : decode prog_4_method_29_code 63 = .ok (.goto (-35), 3) := by decide +kernel
theorem d_Meaning_namesDiffer_66 : decode prog_4_method_29_code 66 = .ok (.iinc 1 1, 3) := by decide +kernel
theorem d_Meaning_namesDiffer_69 : decode prog_4_method_29_code 69 = .ok (.goto (-67), 3) := by decide +kernel
theorem d_Meaning_namesDiffer_72 : decode prog_4_method_29_code 72 = .ok (.iconst 1, 1) := by decide +kernel
theorem d_Meaning_namesDiffer_73 : decode prog_4_method_29_code 73 = .ok (.ireturn, 1) := by decide +kernel
theorem d_Meaning_neededAt_0 : decode prog_4_method_23_code 0 = .ok (.aload_n 0, 1) := by decide +kernel
theorem d_Meaning_neededAt_1 : decode prog_4_method_23_code 1 = .ok (.getfield 24, 3) := by decide +kernel
theorem d_Meaning_neededAt_4 : decode prog_4_method_23_code 4 = .ok (.iload_n 1, 1) := by decide +kernel
theorem d_Meaning_neededAt_5 : decode prog_4_method_23_code 5 = .ok (.invokevirtual 228, 3) := by decide +kernel
theorem d_Meaning_neededAt_8 : decode prog_4_method_23_code 8 = .ok (.istore_n 2, 1) := by decide +kernel
theorem d_Meaning_neededAt_9 : decode prog_4_method_23_code 9 = .ok (.aload_n 0, 1) := by decide +kernel
theorem d_Meaning_neededAt_10 : decode prog_4_method_23_code 10 = .ok (.getfield 24, 3) := by decide +kernel
theorem d_Meaning_neededAt_13 : decode prog_4_method_23_code 13 = .ok (.iload_n 2, 1) := by decide +kernel
theorem d_Meaning_neededAt_14 : decode prog_4_method_23_code 14 = .ok (.invokevirtual 128, 3) := by decide +kernel
theorem d_Meaning_neededAt_17 : decode prog_4_method_23_code 17 = .ok (.istore_n 3, 1) := by decide +kernel
theorem d_Meaning_neededAt_18 : decode prog_4_method_23_code 18 = .ok (.iload_n 3, 1) := by decide +kernel
theorem d_Meaning_neededAt_19 : decode prog_4_method_23_code 19 = .ok (.ifCond .lt 11, 3) := by decide +kernel
theorem d_Meaning_neededAt_22 : decode prog_4_method_23_code 22 = .ok (.iload_n 3, 1) := by decide +kernel
theorem d_Meaning_neededAt_23 : decode prog_4_method_23_code 23 = .ok (.getstatic 209, 3) := by decide +kernel
theorem d_Meaning_neededAt_26 : decode prog_4_method_23_code 26 = .ok (.arraylength, 1) := by decide +kernel
theorem d_Meaning_neededAt_27 : decode prog_4_method_23_code 27 = .ok (.if_icmp .lt 12, 3) := by decide +kernel
theorem d_Meaning_neededAt_30 : decode prog_4_method_23_code 30 = .ok (.aload_n 0, 1) := by decide +kernel
theorem d_Meaning_neededAt_31 : decode prog_4_method_23_code 31 = .ok (.getfield 24, 3) := by decide +kernel
theorem d_Meaning_neededAt_34 : decode prog_4_method_23_code 34 = .ok (.iload_n 1, 1) := by decide +kernel
theorem d_Meaning_neededAt_35 : decode prog_4_method_23_code 35 = .ok (.invokevirtual 192, 3) := by decide +kernel
theorem d_Meaning_neededAt_38 : decode prog_4_method_23_code 38 = .ok (.ireturn, 1) := by decide +kernel
theorem d_Meaning_neededAt_39 : decode prog_4_method_23_code 39 = .ok (.iload_n 3, 1) := by decide +kernel
theorem d_Meaning_neededAt_40 : decode prog_4_method_23_code 40 = .ok (.invokestatic 206, 3) := by decide +kernel
theorem d_Meaning_neededAt_43 : decode prog_4_method_23_code 43 = .ok (.ifCond .ne 9, 3) := by decide +kernel
theorem d_Meaning_neededAt_46 : decode prog_4_method_23_code 46 = .ok (.getstatic 209, 3) := by decide +kernel
theorem d_Meaning_neededAt_49 : decode prog_4_method_23_code 49 = .ok (.iload_n 3, 1) := by decide +kernel
theorem d_Meaning_neededAt_50 : decode prog_4_method_23_code 50 = .ok (.iaload, 1) := by decide +kernel
theorem d_Meaning_neededAt_51 : decode prog_4_method_23_code 51 = .ok (.ireturn, 1) := by decide +kernel
theorem d_Meaning_neededAt_52 : decode prog_4_method_23_code 52 = .ok (.aload_n 0, 1) := by decide +kernel
theorem d_Meaning_neededAt_53 : decode prog_4_method_23_code 53 = .ok (.getfield 24, 3) := by decide +kernel
theorem d_Meaning_neededAt_56 : decode prog_4_method_23_code 56 = .ok (.iload_n 2, 1) := by decide +kernel
theorem d_Meaning_neededAt_57 : decode prog_4_method_23_code 57 = .ok (.invokevirtual 198, 3) := by decide +kernel
theorem d_Meaning_neededAt_60 : decode prog_4_method_23_code 60 = .ok (.istore 4, 2) := by decide +kernel
theorem d_Meaning_neededAt_62 : decode prog_4_method_23_code 62 = .ok (.aload_n 0, 1) := by decide +kernel
theorem d_Meaning_neededAt_63 : decode prog_4_method_23_code 63 = .ok (.iload 4, 2) := by decide +kernel
theorem d_Meaning_neededAt_65 : decode prog_4_method_23_code 65 = .ok (.iload_n 1, 1) := by decide +kernel
theorem d_Meaning_neededAt_66 : decode prog_4_method_23_code 66 = .ok (.if_icmp .ne 14, 3) := by decide +kernel
theorem d_Meaning_neededAt_69 : decode prog_4_method_23_code 69 = .ok (.aload_n 0, 1) := by decide +kernel
theorem d_Meaning_neededAt_70 : decode prog_4_method_23_code 70 = .ok (.getfield 24, 3) := by decide +kernel
theorem d_Meaning_neededAt_73 : decode prog_4_method_23_code 73 = .ok (.iload_n 2, 1) := by decide +kernel
theorem d_Meaning_neededAt_74 : decode prog_4_method_23_code 74 = .ok (.invokevirtual 203, 3) := by decide +kernel
theorem d_Meaning_neededAt_77 : decode prog_4_method_23_code 77 = .ok (.goto 5, 3) := by decide +kernel
theorem d_Meaning_neededAt_80 : decode prog_4_method_23_code 80 = .ok (.iload 4, 2) := by decide +kernel
theorem d_Meaning_neededAt_82 : decode prog_4_method_23_code 82 = .ok (.invokevirtual 231, 3) := by decide +kernel
theorem d_Meaning_neededAt_85 : decode prog_4_method_23_code 85 = .ok (.ireturn, 1) := by decide +kernel
theorem d_Meaning_operandsFit_0 : decode prog_4_method_17_code 0 = .ok (.aload_n 0, 1) := by decide +kernel
theorem d_Meaning_operandsFit_1 : decode prog_4_method_17_code 1 = .ok (.getfield 24, 3) := by decide +kernel
theorem d_Meaning_operandsFit_4 : decode prog_4_method_17_code 4 = .ok (.iload_n 1, 1) := by decide +kernel
theorem d_Meaning_operandsFit_5 : decode prog_4_method_17_code 5 = .ok (.invokevirtual 128, 3) := by decide +kernel
theorem d_Meaning_operandsFit_8 : decode prog_4_method_17_code 8 = .ok (.istore_n 2, 1) := by decide +kernel
theorem d_Meaning_operandsFit_9 : decode prog_4_method_17_code 9 = .ok (.iload_n 2, 1) := by decide +kernel
theorem d_Meaning_operandsFit_10 : decode prog_4_method_17_code 10 = .ok (.invokestatic 195, 3) := by decide +kernel
theorem d_Meaning_operandsFit_13 : decode prog_4_method_17_code 13 = .ok (.ifCond .ne 5, 3) := by decide +kernel
theorem d_Meaning_operandsFit_16 : decode prog_4_method_17_code 16 = .ok (.iconst 1, 1) := by decide +kernel
theorem d_Meaning_operandsFit_17 : decode prog_4_method_17_code 17 = .ok (.ireturn, 1) := by decide +kernel
theorem d_Meaning_operandsFit_18 : decode prog_4_method_17_code 18 = .ok (.aload_n 0, 1) := by decide +kernel
theorem d_Meaning_operandsFit_19 : decode prog_4_method_17_code 19 = .ok (.getfield 24, 3) := by decide +kernel
theorem d_Meaning_operandsFit_22 : decode prog_4_method_17_code 22 = .ok (.aload_n 0, 1) := by decide +kernel
theorem d_Meaning_operandsFit_23 : decode prog_4_method_17_code 23 = .ok (.getfield 24, 3) := by decide +kernel
theorem d_Meaning_operandsFit_26 : decode prog_4_method_17_code 26 = .ok (.iload_n 1, 1) := by decide +kernel
theorem d_Meaning_operandsFit_27 : decode prog_4_method_17_code 27 = .ok (.invokevirtual 198, 3) := by decide +kernel
theorem d_Meaning_operandsFit_30 : decode prog_4_method_17_code 30 = .ok (.invokevirtual 201, 3) := by decide +kernel
theorem d_Meaning_operandsFit_33 : decode prog_4_method_17_code 33 = .ok (.istore_n 3, 1) := by decide +kernel
theorem d_Meaning_operandsFit_34 : decode prog_4_method_17_code 34 = .ok (.aload_n 0, 1) := by decide +kernel
theorem d_Meaning_operandsFit_35 : decode prog_4_method_17_code 35 = .ok (.getfield 24, 3) := by decide +kernel
theorem d_Meaning_operandsFit_38 : decode prog_4_method_17_code 38 = .ok (.aload_n 0, 1) := by decide +kernel
theorem d_Meaning_operandsFit_39 : decode prog_4_method_17_code 39 = .ok (.getfield 24, 3) := by decide +kernel
theorem d_Meaning_operandsFit_42 : decode prog_4_method_17_code 42 = .ok (.iload_n 1, 1) := by decide +kernel
theorem d_Meaning_operandsFit_43 : decode prog_4_method_17_code 43 = .ok (.invokevirtual 203, 3) := by decide +kernel
theorem d_Meaning_operandsFit_46 : decode prog_4_method_17_code 46 = .ok (.invokevirtual 201, 3) := by decide +kernel
theorem d_Meaning_operandsFit_49 : decode prog_4_method_17_code 49 = .ok (.istore 4, 2) := by decide +kernel
theorem d_Meaning_operandsFit_51 : decode prog_4_method_17_code 51 = .ok (.iload_n 2, 1) := by decide +kernel
theorem d_Meaning_operandsFit_52 : decode prog_4_method_17_code 52 = .ok (.bipush 8, 2) := by decide +kernel
theorem d_Meaning_operandsFit_54 : decode prog_4_method_17_code 54 = .ok (.if_icmp .eq 9, 3) := by decide +kernel
theorem d_Meaning_operandsFit_57 : decode prog_4_method_17_code 57 = .ok (.iload_n 2, 1) := by decide +kernel
theorem d_Meaning_operandsFit_58 : decode prog_4_method_17_code 58 = .ok (.bipush 9, 2) := by decide +kernel
theorem d_Meaning_operandsFit_60 : decode prog_4_method_17_code 60 = .ok (.if_icmp .ne 14, 3) := by decide +kernel
theorem d_Meaning_operandsFit_63 : decode prog_4_method_17_code 63 = .ok (.iload_n 3, 1) := by decide +kernel
theorem d_Meaning_operandsFit_64 : decode prog_4_method_17_code 64 = .ok (.iconst 3, 1) := by decide +kernel
theorem d_Meaning_operandsFit_65 : decode prog_4_method_17_code 65 = .ok (.if_icmp .eq 7, 3) := by decide +kernel
theorem d_Meaning_operandsFit_68 : decode prog_4_method_17_code 68 = .ok (.iconst 1, 1) := by decide +kernel
theorem d_Meaning_operandsFit_69 : decode prog_4_method_17_code 69 = .ok (.goto 4, 3) := by decide +kernel
theorem d_Meaning_operandsFit_72 : decode prog_4_method_17_code 72 = .ok (.iconst 0, 1) := by decide +kernel
theorem d_Meaning_operandsFit_73 : decode prog_4_method_17_code 73 = .ok (.ireturn, 1) := by decide +kernel
theorem d_Meaning_operandsFit_74 : decode prog_4_method_17_code 74 = .ok (.iload_n 2, 1) := by decide +kernel
theorem d_Meaning_operandsFit_75 : decode prog_4_method_17_code 75 = .ok (.invokestatic 206, 3) := by decide +kernel
theorem d_Meaning_operandsFit_78 : decode prog_4_method_17_code 78 = .ok (.ifCond .eq 10, 3) := by decide +kernel
theorem d_Meaning_operandsFit_81 : decode prog_4_method_17_code 81 = .ok (.iload_n 3, 1) := by decide +kernel
theorem d_Meaning_operandsFit_82 : decode prog_4_method_17_code 82 = .ok (.iload 4, 2) := by decide +kernel
theorem d_Meaning_operandsFit_84 : decode prog_4_method_17_code 84 = .ok (.invokestatic 175, 3) := by decide +kernel
theorem d_Meaning_operandsFit_87 : decode prog_4_method_17_code 87 = .ok (.ireturn, 1) := by decide +kernel
theorem d_Meaning_operandsFit_88 : decode prog_4_method_17_code 88 = .ok (.iload_n 3, 1) := by decide +kernel
theorem d_Meaning_operandsFit_89 : decode prog_4_method_17_code 89 = .ok (.getstatic 209, 3) := by decide +kernel
theorem d_Meaning_operandsFit_92 : decode prog_4_method_17_code 92 = .ok (.iload_n 2, 1) := by decide +kernel
theorem d_Meaning_operandsFit_93 : decode prog_4_method_17_code 93 = .ok (.iaload, 1) := by decide +kernel
theorem d_Meaning_operandsFit_94 : decode prog_4_method_17_code 94 = .ok (.invokestatic 175, 3) := by decide +kernel
theorem d_Meaning_operandsFit_97 : decode prog_4_method_17_code 97 = .ok (.ifCond .eq 20, 3) := by decide +kernel
theorem d_Meaning_operandsFit_100 : decode prog_4_method_17_code 100 = .ok (.iload 4, 2) := by decide +kernel
theorem d_Meaning_operandsFit_102 : decode prog_4_method_17_code 102 = .ok (.getstatic 209, 3) := by decide +kernel
theorem d_Meaning_operandsFit_105 : decode prog_4_method_17_code 105 = .ok (.iload_n 2, 1) := by decide +kernel
theorem d_Meaning_operandsFit_106 : decode prog_4_method_17_code 106 = .ok (.iaload, 1) := by decide +kernel
theorem d_Meaning_operandsFit_107 : decode prog_4_method_17_code 107 = .ok (.invokestatic 175, 3) := by decide +kernel
theorem d_Meaning_operandsFit_110 : decode prog_4_method_17_code 110 = .ok (.ifCond .eq 7, 3) := by decide +kernel
theorem d_Meaning_operandsFit_113 : decode prog_4_method_17_code 113 = .ok (.iconst 1, 1) := by decide +kernel
theorem d_Meaning_operandsFit_114 : decode prog_4_method_17_code 114 = .ok (.goto 4, 3) := by decide +kernel
theorem d_Meaning_operandsFit_117 : decode prog_4_method_17_code 117 = .ok (.iconst 0, 1) := by decide +kernel
theorem d_Meaning_operandsFit_118 : decode prog_4_method_17_code 118 = .ok (.ireturn, 1) := by decide +kernel
theorem d_Meaning_ordersMatch_0 : decode prog_4_method_30_code 0 = .ok (.iconst 0, 1) := by decide +kernel
theorem d_Meaning_ordersMatch_1 : decode prog_4_method_30_code 1 = .ok (.istore_n 1, 1) := by decide +kernel
theorem d_Meaning_ordersMatch_2 : decode prog_4_method_30_code 2 = .ok (.iload_n 1, 1) := by decide +kernel
theorem d_Meaning_ordersMatch_3 : decode prog_4_method_30_code 3 = .ok (.aload_n 0, 1) := by decide +kernel
theorem d_Meaning_ordersMatch_4 : decode prog_4_method_30_code 4 = .ok (.getfield 28, 3) := by decide +kernel
theorem d_Meaning_ordersMatch_7 : decode prog_4_method_30_code 7 = .ok (.iconst 2, 1) := by decide +kernel
theorem d_Meaning_ordersMatch_8 : decode prog_4_method_30_code 8 = .ok (.invokevirtual 66, 3) := by decide +kernel
theorem d_Meaning_ordersMatch_11 : decode prog_4_method_30_code 11 = .ok (.if_icmp .ge 43, 3) := by decide +kernel
theorem d_Meaning_ordersMatch_14 : decode prog_4_method_30_code 14 = .ok (.aload_n 0, 1) := by decide +kernel
theorem d_Meaning_ordersMatch_15 : decode prog_4_method_30_code 15 = .ok (.getfield 28, 3) := by decide +kernel
theorem d_Meaning_ordersMatch_18 : decode prog_4_method_30_code 18 = .ok (.iconst 2, 1) := by decide +kernel
theorem d_Meaning_ordersMatch_19 : decode prog_4_method_30_code 19 = .ok (.iload_n 1, 1) := by decide +kernel
theorem d_Meaning_ordersMatch_20 : decode prog_4_method_30_code 20 = .ok (.invokevirtual 70, 3) := by decide +kernel
theorem d_Meaning_ordersMatch_23 : decode prog_4_method_30_code 23 = .ok (.istore_n 2, 1) := by decide +kernel
theorem d_Meaning_ordersMatch_24 : decode prog_4_method_30_code 24 = .ok (.iload_n 2, 1) := by decide +kernel
theorem d_Meaning_ordersMatch_25 : decode prog_4_method_30_code 25 = .ok (.ifCond .ge 9, 3) := by decide +kernel
theorem d_Meaning_ordersMatch_28 : decode prog_4_method_30_code 28 = .ok (.iconst (-1), 1) := by decide +kernel
theorem d_Meaning_ordersMatch_29 : decode prog_4_method_30_code 29 = .ok (.iload_n 2, 1) := by decide +kernel
theorem d_Meaning_ordersMatch_30 : decode prog_4_method_30_code 30 = .ok (.isub, 1) := by decide +kernel
theorem d_Meaning_ordersMatch_31 : decode prog_4_method_30_code 31 = .ok (.goto 4, 3) := by decide +kernel
theorem d_Meaning_ordersMatch_34 : decode prog_4_method_30_code 34 = .ok (.iload_n 2, 1) := by decide +kernel
theorem d_Meaning_ordersMatch_35 : decode prog_4_method_30_code 35 = .ok (.aload_n 0, 1) := by decide +kernel
theorem d_Meaning_ordersMatch_36 : decode prog_4_method_30_code 36 = .ok (.getfield 28, 3) := by decide +kernel
theorem d_Meaning_ordersMatch_39 : decode prog_4_method_30_code 39 = .ok (.iconst 0, 1) := by decide +kernel
theorem d_Meaning_ordersMatch_40 : decode prog_4_method_30_code 40 = .ok (.invokevirtual 66, 3) := by decide +kernel
theorem d_Meaning_ordersMatch_43 : decode prog_4_method_30_code 43 = .ok (.if_icmp .lt 5, 3) := by decide +kernel
theorem d_Meaning_ordersMatch_46 : decode prog_4_method_30_code 46 = .ok (.iconst 0, 1) := by decide +kernel
theorem d_Meaning_ordersMatch_47 : decode prog_4_method_30_code 47 = .ok (.ireturn, 1) := by decide +kernel
theorem d_Meaning_ordersMatch_48 : decode prog_4_method_30_code 48 = .ok (.iinc 1 1, 3) := by decide +kernel
theorem d_Meaning_ordersMatch_51 : decode prog_4_method_30_code 51 = .ok (.goto (-49), 3) := by decide +kernel
theorem d_Meaning_ordersMatch_54 : decode prog_4_method_30_code 54 = .ok (.iconst 1, 1) := by decide +kernel
theorem d_Meaning_ordersMatch_55 : decode prog_4_method_30_code 55 = .ok (.ireturn, 1) := by decide +kernel
theorem d_Meaning_parameterType_0 : decode prog_4_method_22_code 0 = .ok (.aload_n 0, 1) := by decide +kernel
theorem d_Meaning_parameterType_1 : decode prog_4_method_22_code 1 = .ok (.getfield 24, 3) := by decide +kernel
theorem d_Meaning_parameterType_4 : decode prog_4_method_22_code 4 = .ok (.iload_n 1, 1) := by decide +kernel
theorem d_Meaning_parameterType_5 : decode prog_4_method_22_code 5 = .ok (.invokevirtual 198, 3) := by decide +kernel
theorem d_Meaning_parameterType_8 : decode prog_4_method_22_code 8 = .ok (.istore_n 2, 1) := by decide +kernel
theorem d_Meaning_parameterType_9 : decode prog_4_method_22_code 9 = .ok (.aload_n 0, 1) := by decide +kernel
theorem d_Meaning_parameterType_10 : decode prog_4_method_22_code 10 = .ok (.getfield 28, 3) := by decide +kernel
theorem d_Meaning_parameterType_13 : decode prog_4_method_22_code 13 = .ok (.bipush 8, 2) := by decide +kernel
theorem d_Meaning_parameterType_15 : decode prog_4_method_22_code 15 = .ok (.invokevirtual 66, 3) := by decide +kernel
theorem d_Meaning_parameterType_18 : decode prog_4_method_22_code 18 = .ok (.istore_n 3, 1) := by decide +kernel
theorem d_Meaning_parameterType_19 : decode prog_4_method_22_code 19 = .ok (.iload_n 3, 1) := by decide +kernel
