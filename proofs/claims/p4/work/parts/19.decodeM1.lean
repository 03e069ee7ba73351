theorem d_SqlReaderModel_add_0 : decode prog_11_method_24_code 0 = .ok (.aload_n 0, 1) := by decide +kernel
theorem d_SqlReaderModel_add_1 : decode prog_11_method_24_code 1 = .ok (.getfield 133, 3) := by decide +kernel
theorem d_SqlReaderModel_add_4 : decode prog_11_method_24_code 4 = .ok (.sipush 200, 3) := by decide +kernel
theorem d_SqlReaderModel_add_7 : decode prog_11_method_24_code 7 = .ok (.if_icmp .ge 53, 3) := by decide +kernel
theorem d_SqlReaderModel_add_10 : decode prog_11_method_24_code 10 = .ok (.aload_n 0, 1) := by decide +kernel
theorem d_SqlReaderModel_add_11 : decode prog_11_method_24_code 11 = .ok (.getfield 41, 3) := by decide +kernel
theorem d_SqlReaderModel_add_14 : decode prog_11_method_24_code 14 = .ok (.aload_n 0, 1) := by decide +kernel
theorem d_SqlReaderModel_add_15 : decode prog_11_method_24_code 15 = .ok (.getfield 133, 3) := by decide +kernel
theorem d_SqlReaderModel_add_18 : decode prog_11_method_24_code 18 = .ok (.iload_n 1, 1) := by decide +kernel
theorem d_SqlReaderModel_add_19 : decode prog_11_method_24_code 19 = .ok (.iastore, 1) := by decide +kernel
theorem d_SqlReaderModel_add_20 : decode prog_11_method_24_code 20 = .ok (.aload_n 0, 1) := by decide +kernel
theorem d_SqlReaderModel_add_21 : decode prog_11_method_24_code 21 = .ok (.getfield 44, 3) := by decide +kernel
theorem d_SqlReaderModel_add_24 : decode prog_11_method_24_code 24 = .ok (.aload_n 0, 1) := by decide +kernel
theorem d_SqlReaderModel_add_25 : decode prog_11_method_24_code 25 = .ok (.getfield 133, 3) := by decide +kernel
theorem d_SqlReaderModel_add_28 : decode prog_11_method_24_code 28 = .ok (.iload_n 2, 1) := by decide +kernel
theorem d_SqlReaderModel_add_29 : decode prog_11_method_24_code 29 = .ok (.iastore, 1) := by decide +kernel
theorem d_SqlReaderModel_add_30 : decode prog_11_method_24_code 30 = .ok (.aload_n 0, 1) := by decide +kernel
theorem d_SqlReaderModel_add_31 : decode prog_11_method_24_code 31 = .ok (.getfield 47, 3) := by decide +kernel
theorem d_SqlReaderModel_add_34 : decode prog_11_method_24_code 34 = .ok (.aload_n 0, 1) := by decide +kernel
theorem d_SqlReaderModel_add_35 : decode prog_11_method_24_code 35 = .ok (.getfield 133, 3) := by decide +kernel
theorem d_SqlReaderModel_add_38 : decode prog_11_method_24_code 38 = .ok (.iload_n 3, 1) := by decide +kernel
theorem d_SqlReaderModel_add_39 : decode prog_11_method_24_code 39 = .ok (.iastore, 1) := by decide +kernel
theorem d_SqlReaderModel_add_40 : decode prog_11_method_24_code 40 = .ok (.aload_n 0, 1) := by decide +kernel
theorem d_SqlReaderModel_add_41 : decode prog_11_method_24_code 41 = .ok (.getfield 50, 3) := by decide +kernel
theorem d_SqlReaderModel_add_44 : decode prog_11_method_24_code 44 = .ok (.aload_n 0, 1) := by decide +kernel
theorem d_SqlReaderModel_add_45 : decode prog_11_method_24_code 45 = .ok (.getfield 133, 3) := by decide +kernel
theorem d_SqlReaderModel_add_48 : decode prog_11_method_24_code 48 = .ok (.iconst 0, 1) := by decide +kernel
theorem d_SqlReaderModel_add_49 : decode prog_11_method_24_code 49 = .ok (.iastore, 1) := by decide +kernel
theorem d_SqlReaderModel_add_50 : decode prog_11_method_24_code 50 = .ok (.aload_n 0, 1) := by decide +kernel
theorem d_SqlReaderModel_add_51 : decode prog_11_method_24_code 51 = .ok (.iconst 1, 1) := by decide +kernel
theorem d_SqlReaderModel_add_52 : decode prog_11_method_24_code 52 = .ok (.aload_n 0, 1) := by decide +kernel
theorem d_SqlReaderModel_add_53 : decode prog_11_method_24_code 53 = .ok (.getfield 133, 3) := by decide +kernel
theorem d_SqlReaderModel_add_56 : decode prog_11_method_24_code 56 = .ok (.iconst 0, 1) := by decide +kernel
theorem d_SqlReaderModel_add_57 : decode prog_11_method_24_code 57 = .ok (.invokevirtual 283, 3) := by decide +kernel
theorem d_SqlReaderModel_add_60 : decode prog_11_method_24_code 60 = .ok (.aload_n 0, 1) := by decide +kernel
theorem d_SqlReaderModel_add_61 : decode prog_11_method_24_code 61 = .ok (.dup, 1) := by decide +kernel
theorem d_SqlReaderModel_add_62 : decode prog_11_method_24_code 62 = .ok (.getfield 133, 3) := by decide +kernel
theorem d_SqlReaderModel_add_65 : decode prog_11_method_24_code 65 = .ok (.iconst 1, 1) := by decide +kernel
theorem d_SqlReaderModel_add_66 : decode prog_11_method_24_code 66 = .ok (.iadd, 1) := by decide +kernel
theorem d_SqlReaderModel_add_67 : decode prog_11_method_24_code 67 = .ok (.putfield 133, 3) := by decide +kernel
theorem d_SqlReaderModel_add_70 : decode prog_11_method_24_code 70 = .ok (.aload_n 0, 1) := by decide +kernel
theorem d_SqlReaderModel_add_71 : decode prog_11_method_24_code 71 = .ok (.getfield 133, 3) := by decide +kernel
theorem d_SqlReaderModel_add_74 : decode prog_11_method_24_code 74 = .ok (.iconst 1, 1) := by decide +kernel
theorem d_SqlReaderModel_add_75 : decode prog_11_method_24_code 75 = .ok (.isub, 1) := by decide +kernel
theorem d_SqlReaderModel_add_76 : decode prog_11_method_24_code 76 = .ok (.ireturn, 1) := by decide +kernel
theorem d_SqlReaderModel_again_0 : decode prog_11_method_25_code 0 = .ok (.iload_n 2, 1) := by decide +kernel
theorem d_SqlReaderModel_again_1 : decode prog_11_method_25_code 1 = .ok (.iload_n 1, 1) := by decide +kernel
theorem d_SqlReaderModel_again_2 : decode prog_11_method_25_code 2 = .ok (.isub, 1) := by decide +kernel
theorem d_SqlReaderModel_again_3 : decode prog_11_method_25_code 3 = .ok (.istore_n 3, 1) := by decide +kernel
theorem d_SqlReaderModel_again_4 : decode prog_11_method_25_code 4 = .ok (.aload_n 0, 1) := by decide +kernel
theorem d_SqlReaderModel_again_5 : decode prog_11_method_25_code 5 = .ok (.getfield 133, 3) := by decide +kernel
theorem d_SqlReaderModel_again_8 : decode prog_11_method_25_code 8 = .ok (.iload_n 3, 1) := by decide +kernel
theorem d_SqlReaderModel_again_9 : decode prog_11_method_25_code 9 = .ok (.iadd, 1) := by decide +kernel
theorem d_SqlReaderModel_again_10 : decode prog_11_method_25_code 10 = .ok (.sipush 200, 3) := by decide +kernel
theorem d_SqlReaderModel_again_13 : decode prog_11_method_25_code 13 = .ok (.if_icmp .le 38, 3) := by decide +kernel
theorem d_SqlReaderModel_again_16 : decode prog_11_method_25_code 16 = .ok (.aload_n 0, 1) := by decide +kernel
theorem d_SqlReaderModel_again_17 : decode prog_11_method_25_code 17 = .ok (.aload_n 0, 1) := by decide +kernel
theorem d_SqlReaderModel_again_18 : decode prog_11_method_25_code 18 = .ok (.getfield 133, 3) := by decide +kernel
theorem d_SqlReaderModel_again_21 : decode prog_11_method_25_code 21 = .ok (.iload_n 3, 1) := by decide +kernel
theorem d_SqlReaderModel_again_22 : decode prog_11_method_25_code 22 = .ok (.iadd, 1) := by decide +kernel
theorem d_SqlReaderModel_again_23 : decode prog_11_method_25_code 23 = .ok (.ldc_w 286, 3) := by decide +kernel
theorem d_SqlReaderModel_again_26 : decode prog_11_method_25_code 26 = .ok (.if_icmp .le 9, 3) := by decide +kernel
theorem d_SqlReaderModel_again_29 : decode prog_11_method_25_code 29 = .ok (.ldc_w 286, 3) := by decide +kernel
theorem d_SqlReaderModel_again_32 : decode prog_11_method_25_code 32 = .ok (.goto 9, 3) := by decide +kernel
theorem d_SqlReaderModel_again_35 : decode prog_11_method_25_code 35 = .ok (.aload_n 0, 1) := by decide +kernel
theorem d_SqlReaderModel_again_36 : decode prog_11_method_25_code 36 = .ok (.getfield 133, 3) := by decide +kernel
theorem d_SqlReaderModel_again_39 : decode prog_11_method_25_code 39 = .ok (.iload_n 3, 1) := by decide +kernel
theorem d_SqlReaderModel_again_40 : decode prog_11_method_25_code 40 = .ok (.iadd, 1) := by decide +kernel
theorem d_SqlReaderModel_again_41 : decode prog_11_method_25_code 41 = .ok (.putfield 133, 3) := by decide +kernel
theorem d_SqlReaderModel_again_44 : decode prog_11_method_25_code 44 = .ok (.aload_n 0, 1) := by decide +kernel
theorem d_SqlReaderModel_again_45 : decode prog_11_method_25_code 45 = .ok (.getfield 133, 3) := by decide +kernel
theorem d_SqlReaderModel_again_48 : decode prog_11_method_25_code 48 = .ok (.iconst 1, 1) := by decide +kernel
theorem d_SqlReaderModel_again_49 : decode prog_11_method_25_code 49 = .ok (.isub, 1) := by decide +kernel
theorem d_SqlReaderModel_again_50 : decode prog_11_method_25_code 50 = .ok (.ireturn, 1) := by decide +kernel
theorem d_SqlReaderModel_again_51 : decode prog_11_method_25_code 51 = .ok (.aload_n 0, 1) := by decide +kernel
theorem d_SqlReaderModel_again_52 : decode prog_11_method_25_code 52 = .ok (.getfield 133, 3) := by decide +kernel
theorem d_SqlReaderModel_again_55 : decode prog_11_method_25_code 55 = .ok (.iload_n 1, 1) := by decide +kernel
theorem d_SqlReaderModel_again_56 : decode prog_11_method_25_code 56 = .ok (.isub, 1) := by decide +kernel
theorem d_SqlReaderModel_again_57 : decode prog_11_method_25_code 57 = .ok (.istore 4, 2) := by decide +kernel
theorem d_SqlReaderModel_again_59 : decode prog_11_method_25_code 59 = .ok (.iload_n 1, 1) := by decide +kernel
theorem d_SqlReaderModel_again_60 : decode prog_11_method_25_code 60 = .ok (.istore 5, 2) := by decide +kernel
theorem d_SqlReaderModel_again_62 : decode prog_11_method_25_code 62 = .ok (.iload 5, 2) := by decide +kernel
theorem d_SqlReaderModel_again_64 : decode prog_11_method_25_code 64 = .ok (.iload_n 2, 1) := by decide +kernel
theorem d_SqlReaderModel_again_65 : decode prog_11_method_25_code 65 = .ok (.if_icmp .ge 215, 3) := by decide +kernel
theorem d_SqlReaderModel_again_68 : decode prog_11_method_25_code 68 = .ok (.aload_n 0, 1) := by decide +kernel
theorem d_SqlReaderModel_again_69 : decode prog_11_method_25_code 69 = .ok (.getfield 41, 3) := by decide +kernel
theorem d_SqlReaderModel_again_72 : decode prog_11_method_25_code 72 = .ok (.iload 5, 2) := by decide +kernel
theorem d_SqlReaderModel_again_74 : decode prog_11_method_25_code 74 = .ok (.iaload, 1) := by decide +kernel
theorem d_SqlReaderModel_again_75 : decode prog_11_method_25_code 75 = .ok (.iconst 5, 1) := by decide +kernel
theorem d_SqlReaderModel_again_76 : decode prog_11_method_25_code 76 = .ok (.if_icmp .le 19, 3) := by decide +kernel
theorem d_SqlReaderModel_again_79 : decode prog_11_method_25_code 79 = .ok (.aload_n 0, 1) := by decide +kernel
theorem d_SqlReaderModel_again_80 : decode prog_11_method_25_code 80 = .ok (.getfield 41, 3) := by decide +kernel
theorem d_SqlReaderModel_again_83 : decode prog_11_method_25_code 83 = .ok (.iload 5, 2) := by decide +kernel
theorem d_SqlReaderModel_again_85 : decode prog_11_method_25_code 85 = .ok (.iaload, 1) := by decide +kernel
theorem d_SqlReaderModel_again_86 : decode prog_11_method_25_code 86 = .ok (.bipush 28, 2) := by decide +kernel
theorem d_SqlReaderModel_again_88 : decode prog_11_method_25_code 88 = .ok (.if_icmp .ge 7, 3) := by decide +kernel
theorem d_SqlReaderModel_again_91 : decode prog_11_method_25_code 91 = .ok (.iconst 1, 1) := by decide +kernel
theorem d_SqlReaderModel_again_92 : decode prog_11_method_25_code 92 = .ok (.goto 4, 3) := by decide +kernel
theorem d_SqlReaderModel_again_95 : decode prog_11_method_25_code 95 = .ok (.iconst 0, 1) := by decide +kernel
theorem d_SqlReaderModel_again_96 : decode prog_11_method_25_code 96 = .ok (.istore 6, 2) := by decide +kernel
theorem d_SqlReaderModel_again_98 : decode prog_11_method_25_code 98 = .ok (.aload_n 0, 1) := by decide +kernel
theorem d_SqlReaderModel_again_99 : decode prog_11_method_25_code 99 = .ok (.aload_n 0, 1) := by decide +kernel
theorem d_SqlReaderModel_again_100 : decode prog_11_method_25_code 100 = .ok (.getfield 41, 3) := by decide +kernel
theorem d_SqlReaderModel_again_103 : decode prog_11_method_25_code 103 = .ok (.iload 5, 2) := by decide +kernel
theorem d_SqlReaderModel_again_105 : decode prog_11_method_25_code 105 = .ok (.iaload, 1) := by decide +kernel
theorem d_SqlReaderModel_again_106 : decode prog_11_method_25_code 106 = .ok (.iload 6, 2) := by decide +kernel
theorem d_SqlReaderModel_again_108 : decode prog_11_method_25_code 108 = .ok (.ifCond .eq 16, 3) := by decide +kernel
theorem d_SqlReaderModel_again_111 : decode prog_11_method_25_code 111 = .ok (.aload_n 0, 1) := by decide +kernel
theorem d_SqlReaderModel_again_112 : decode prog_11_method_25_code 112 = .ok (.getfield 44, 3) := by decide +kernel
theorem d_SqlReaderModel_again_115 : decode prog_11_method_25_code 115 = .ok (.iload 5, 2) := by decide +kernel
theorem d_SqlReaderModel_again_117 : decode prog_11_method_25_code 117 = .ok (.iaload, 1) := by decide +kernel
theorem d_SqlReaderModel_again_118 : decode prog_11_method_25_code 118 = .ok (.iload 4, 2) := by decide +kernel
theorem d_SqlReaderModel_again_120 : decode prog_11_method_25_code 120 = .ok (.iadd, 1) := by decide +kernel
theorem d_SqlReaderModel_again_121 : decode prog_11_method_25_code 121 = .ok (.goto 10, 3) := by decide +kernel
theorem d_SqlReaderModel_again_124 : decode prog_11_method_25_code 124 = .ok (.aload_n 0, 1) := by decide +kernel
theorem d_SqlReaderModel_again_125 : decode prog_11_method_25_code 125 = .ok (.getfield 44, 3) := by decide +kernel
theorem d_SqlReaderModel_again_128 : decode prog_11_method_25_code 128 = .ok (.iload 5, 2) := by decide +kernel
theorem d_SqlReaderModel_again_130 : decode prog_11_method_25_code 130 = .ok (.iaload, 1) := by decide +kernel
theorem d_SqlReaderModel_again_131 : decode prog_11_method_25_code 131 = .ok (.iload 6, 2) := by decide +kernel
theorem d_SqlReaderModel_again_133 : decode prog_11_method_25_code 133 = .ok (.ifCond .eq 26, 3) := by decide +kernel
theorem d_SqlReaderModel_again_136 : decode prog_11_method_25_code 136 = .ok (.aload_n 0, 1) := by decide +kernel
theorem d_SqlReaderModel_again_137 : decode prog_11_method_25_code 137 = .ok (.getfield 47, 3) := by decide +kernel
theorem d_SqlReaderModel_again_140 : decode prog_11_method_25_code 140 = .ok (.iload 5, 2) := by decide +kernel
theorem d_SqlReaderModel_again_142 : decode prog_11_method_25_code 142 = .ok (.iaload, 1) := by decide +kernel
theorem d_SqlReaderModel_again_143 : decode prog_11_method_25_code 143 = .ok (.ifCond .lt 16, 3) := by decide +kernel
theorem d_SqlReaderModel_again_146 : decode prog_11_method_25_code 146 = .ok (.aload_n 0, 1) := by decide +kernel
theorem d_SqlReaderModel_again_147 : decode prog_11_method_25_code 147 = .ok (.getfield 47, 3) := by decide +kernel
theorem d_SqlReaderModel_again_150 : decode prog_11_method_25_code 150 = .ok (.iload 5, 2) := by decide +kernel
theorem d_SqlReaderModel_again_152 : decode prog_11_method_25_code 152 = .ok (.iaload, 1) := by decide +kernel
theorem d_SqlReaderModel_again_153 : decode prog_11_method_25_code 153 = .ok (.iload 4, 2) := by decide +kernel
theorem d_SqlReaderModel_again_155 : decode prog_11_method_25_code 155 = .ok (.iadd, 1) := by decide +kernel
theorem d_SqlReaderModel_again_156 : decode prog_11_method_25_code 156 = .ok (.goto 10, 3) := by decide +kernel
theorem d_SqlReaderModel_again_159 : decode prog_11_method_25_code 159 = .ok (.aload_n 0, 1) := by decide +kernel
theorem d_SqlReaderModel_again_160 : decode prog_11_method_25_code 160 = .ok (.getfield 47, 3) := by decide +kernel
theorem d_SqlReaderModel_again_163 : decode prog_11_method_25_code 163 = .ok (.iload 5, 2) := by decide +kernel
theorem d_SqlReaderModel_again_165 : decode prog_11_method_25_code 165 = .ok (.iaload, 1) := by decide +kernel
theorem d_SqlReaderModel_again_166 : decode prog_11_method_25_code 166 = .ok (.invokevirtual 287, 3) := by decide +kernel
theorem d_SqlReaderModel_again_169 : decode prog_11_method_25_code 169 = .ok (.istore 7, 2) := by decide +kernel
theorem d_SqlReaderModel_again_171 : decode prog_11_method_25_code 171 = .ok (.aload_n 0, 1) := by decide +kernel
theorem d_SqlReaderModel_again_172 : decode prog_11_method_25_code 172 = .ok (.getfield 53, 3) := by decide +kernel
theorem d_SqlReaderModel_again_175 : decode prog_11_method_25_code 175 = .ok (.iload 7, 2) := by decide +kernel
theorem d_SqlReaderModel_again_177 : decode prog_11_method_25_code 177 = .ok (.aload_n 0, 1) := by decide +kernel
theorem d_SqlReaderModel_again_178 : decode prog_11_method_25_code 178 = .ok (.getfield 53, 3) := by decide +kernel
theorem d_SqlReaderModel_again_181 : decode prog_11_method_25_code 181 = .ok (.iload 5, 2) := by decide +kernel
theorem d_SqlReaderModel_again_183 : decode prog_11_method_25_code 183 = .ok (.iaload, 1) := by decide +kernel
theorem d_SqlReaderModel_again_184 : decode prog_11_method_25_code 184 = .ok (.iastore, 1) := by decide +kernel
theorem d_SqlReaderModel_again_185 : decode prog_11_method_25_code 185 = .ok (.aload_n 0, 1) := by decide +kernel
theorem d_SqlReaderModel_again_186 : decode prog_11_method_25_code 186 = .ok (.getfield 56, 3) := by decide +kernel
theorem d_SqlReaderModel_again_189 : decode prog_11_method_25_code 189 = .ok (.iload 7, 2) := by decide +kernel
theorem d_SqlReaderModel_again_191 : decode prog_11_method_25_code 191 = .ok (.aload_n 0, 1) := by decide +kernel
theorem d_SqlReaderModel_again_192 : decode prog_11_method_25_code 192 = .ok (.getfield 56, 3) := by decide +kernel
theorem d_SqlReaderModel_again_195 : decode prog_11_method_25_code 195 = .ok (.iload 5, 2) := by decide +kernel
theorem d_SqlReaderModel_again_197 : decode prog_11_method_25_code 197 = .ok (.iaload, 1) := by decide +kernel
theorem d_SqlReaderModel_again_198 : decode prog_11_method_25_code 198 = .ok (.iastore, 1) := by decide +kernel
theorem d_SqlReaderModel_again_199 : decode prog_11_method_25_code 199 = .ok (.aload_n 0, 1) := by decide +kernel
theorem d_SqlReaderModel_again_200 : decode prog_11_method_25_code 200 = .ok (.getfield 59, 3) := by decide +kernel
theorem d_SqlReaderModel_again_203 : decode prog_11_method_25_code 203 = .ok (.iload 7, 2) := by decide +kernel
theorem d_SqlReaderModel_again_205 : decode prog_11_method_25_code 205 = .ok (.aload_n 0, 1) := by decide +kernel
theorem d_SqlReaderModel_again_206 : decode prog_11_method_25_code 206 = .ok (.getfield 59, 3) := by decide +kernel
theorem d_SqlReaderModel_again_209 : decode prog_11_method_25_code 209 = .ok (.iload 5, 2) := by decide +kernel
theorem d_SqlReaderModel_again_211 : decode prog_11_method_25_code 211 = .ok (.laload, 1) := by decide +kernel
theorem d_SqlReaderModel_again_212 : decode prog_11_method_25_code 212 = .ok (.lastore, 1) := by decide +kernel
theorem d_SqlReaderModel_again_213 : decode prog_11_method_25_code 213 = .ok (.aload_n 0, 1) := by decide +kernel
theorem d_SqlReaderModel_again_214 : decode prog_11_method_25_code 214 = .ok (.getfield 66, 3) := by decide +kernel
theorem d_SqlReaderModel_again_217 : decode prog_11_method_25_code 217 = .ok (.iload 7, 2) := by decide +kernel
theorem d_SqlReaderModel_again_219 : decode prog_11_method_25_code 219 = .ok (.aload_n 0, 1) := by decide +kernel
theorem d_SqlReaderModel_again_220 : decode prog_11_method_25_code 220 = .ok (.getfield 66, 3) := by decide +kernel
theorem d_SqlReaderModel_again_223 : decode prog_11_method_25_code 223 = .ok (.iload 5, 2) := by decide +kernel
theorem d_SqlReaderModel_again_225 : decode prog_11_method_25_code 225 = .ok (.iaload, 1) := by decide +kernel
theorem d_SqlReaderModel_again_226 : decode prog_11_method_25_code 226 = .ok (.iastore, 1) := by decide +kernel
theorem d_SqlReaderModel_again_227 : decode prog_11_method_25_code 227 = .ok (.iconst 0, 1) := by decide +kernel
theorem d_SqlReaderModel_again_228 : decode prog_11_method_25_code 228 = .ok (.istore 8, 2) := by decide +kernel
theorem d_SqlReaderModel_again_230 : decode prog_11_method_25_code 230 = .ok (.iload 8, 2) := by decide +kernel
theorem d_SqlReaderModel_again_232 : decode prog_11_method_25_code 232 = .ok (.aload_n 0, 1) := by decide +kernel
theorem d_SqlReaderModel_again_233 : decode prog_11_method_25_code 233 = .ok (.getfield 66, 3) := by decide +kernel
theorem d_SqlReaderModel_again_236 : decode prog_11_method_25_code 236 = .ok (.iload 5, 2) := by decide +kernel
theorem d_SqlReaderModel_again_238 : decode prog_11_method_25_code 238 = .ok (.iaload, 1) := by decide +kernel
theorem d_SqlReaderModel_again_239 : decode prog_11_method_25_code 239 = .ok (.if_icmp .ge 35, 3) := by decide +kernel
theorem d_SqlReaderModel_again_242 : decode prog_11_method_25_code 242 = .ok (.aload_n 0, 1) := by decide +kernel
theorem d_SqlReaderModel_again_243 : decode prog_11_method_25_code 243 = .ok (.getfield 63, 3) := by decide +kernel
theorem d_SqlReaderModel_again_246 : decode prog_11_method_25_code 246 = .ok (.bipush 31, 2) := by decide +kernel
theorem d_SqlReaderModel_again_248 : decode prog_11_method_25_code 248 = .ok (.iload 7, 2) := by decide +kernel
theorem d_SqlReaderModel_again_250 : decode prog_11_method_25_code 250 = .ok (.imul, 1) := by decide +kernel
theorem d_SqlReaderModel_again_251 : decode prog_11_method_25_code 251 = .ok (.iload 8, 2) := by decide +kernel
theorem d_SqlReaderModel_again_253 : decode prog_11_method_25_code 253 = .ok (.iadd, 1) := by decide +kernel
theorem d_SqlReaderModel_again_254 : decode prog_11_method_25_code 254 = .ok (.aload_n 0, 1) := by decide +kernel
theorem d_SqlReaderModel_again_255 : decode prog_11_method_25_code 255 = .ok (.getfield 63, 3) := by decide +kernel
theorem d_SqlReaderModel_again_258 : decode prog_11_method_25_code 258 = .ok (.bipush 31, 2) := by decide +kernel
theorem d_SqlReaderModel_again_260 : decode prog_11_method_25_code 260 = .ok (.iload 5, 2) := by decide +kernel
theorem d_SqlReaderModel_again_262 : decode prog_11_method_25_code 262 = .ok (.imul, 1) := by decide +kernel
theorem d_SqlReaderModel_again_263 : decode prog_11_method_25_code 263 = .ok (.iload 8, 2) := by decide +kernel
theorem d_SqlReaderModel_again_265 : decode prog_11_method_25_code 265 = .ok (.iadd, 1) := by decide +kernel
theorem d_SqlReaderModel_again_266 : decode prog_11_method_25_code 266 = .ok (.baload, 1) := by decide +kernel
theorem d_SqlReaderModel_again_267 : decode prog_11_method_25_code 267 = .ok (.bastore, 1) := by decide +kernel
theorem d_SqlReaderModel_again_268 : decode prog_11_method_25_code 268 = .ok (.iinc 8 1, 3) := by decide +kernel
theorem d_SqlReaderModel_again_271 : decode prog_11_method_25_code 271 = .ok (.goto (-41), 3) := by decide +kernel
theorem d_SqlReaderModel_again_274 : decode prog_11_method_25_code 274 = .ok (.iinc 5 1, 3) := by decide +kernel
theorem d_SqlReaderModel_again_277 : decode prog_11_method_25_code 277 = .ok (.goto (-215), 3) := by decide +kernel
theorem d_SqlReaderModel_again_280 : decode prog_11_method_25_code 280 = .ok (.aload_n 0, 1) := by decide +kernel
theorem d_SqlReaderModel_again_281 : decode prog_11_method_25_code 281 = .ok (.getfield 133, 3) := by decide +kernel
theorem d_SqlReaderModel_again_284 : decode prog_11_method_25_code 284 = .ok (.iconst 1, 1) := by decide +kernel
theorem d_SqlReaderModel_again_285 : decode prog_11_method_25_code 285 = .ok (.isub, 1) := by decide +kernel
theorem d_SqlReaderModel_again_286 : decode prog_11_method_25_code 286 = .ok (.ireturn, 1) := by decide +kernel
theorem d_SqlReaderModel_at_0 : decode prog_11_method_8_code 0 = .ok (.iload_n 1, 1) := by decide +kernel
theorem d_SqlReaderModel_at_1 : decode prog_11_method_8_code 1 = .ok (.aload_n 0, 1) := by decide +kernel
theorem d_SqlReaderModel_at_2 : decode prog_11_method_8_code 2 = .ok (.getfield 213, 3) := by decide +kernel
theorem d_SqlReaderModel_at_5 : decode prog_11_method_8_code 5 = .ok (.if_icmp .ge 12, 3) := by decide +kernel
theorem d_SqlReaderModel_at_8 : decode prog_11_method_8_code 8 = .ok (.aload_n 0, 1) := by decide +kernel
theorem d_SqlReaderModel_at_9 : decode prog_11_method_8_code 9 = .ok (.getfield 7, 3) := by decide +kernel
theorem d_SqlReaderModel_at_12 : decode prog_11_method_8_code 12 = .ok (.iload_n 1, 1) := by decide +kernel
theorem d_SqlReaderModel_at_13 : decode prog_11_method_8_code 13 = .ok (.baload, 1) := by decide +kernel
theorem d_SqlReaderModel_at_14 : decode prog_11_method_8_code 14 = .ok (.goto 4, 3) := by decide +kernel
theorem d_SqlReaderModel_at_17 : decode prog_11_method_8_code 17 = .ok (.iconst 0, 1) := by decide +kernel
theorem d_SqlReaderModel_at_18 : decode prog_11_method_8_code 18 = .ok (.ireturn, 1) := by decide +kernel
theorem d_SqlReaderModel_chain_0 : decode prog_11_method_29_code 0 = .ok (.iconst (-1), 1) := by decide +kernel
theorem d_SqlReaderModel_chain_1 : decode prog_11_method_29_code 1 = .ok (.istore 5, 2) := by decide +kernel
theorem d_SqlReaderModel_chain_3 : decode prog_11_method_29_code 3 = .ok (.iconst 0, 1) := by decide +kernel
theorem d_SqlReaderModel_chain_4 : decode prog_11_method_29_code 4 = .ok (.istore 6, 2) := by decide +kernel
theorem d_SqlReaderModel_chain_6 : decode prog_11_method_29_code 6 = .ok (.iload_n 2, 1) := by decide +kernel
theorem d_SqlReaderModel_chain_7 : decode prog_11_method_29_code 7 = .ok (.istore 7, 2) := by decide +kernel
theorem d_SqlReaderModel_chain_9 : decode prog_11_method_29_code 9 = .ok (.iconst 0, 1) := by decide +kernel
theorem d_SqlReaderModel_chain_10 : decode prog_11_method_29_code 10 = .ok (.istore 8, 2) := by decide +kernel
theorem d_SqlReaderModel_chain_12 : decode prog_11_method_29_code 12 = .ok (.iconst 0, 1) := by decide +kernel
theorem d_SqlReaderModel_chain_13 : decode prog_11_method_29_code 13 = .ok (.istore 9, 2) := by decide +kernel
theorem d_SqlReaderModel_chain_15 : decode prog_11_method_29_code 15 = .ok (.iload_n 1, 1) := by decide +kernel
theorem d_SqlReaderModel_chain_16 : decode prog_11_method_29_code 16 = .ok (.iconst 1, 1) := by decide +kernel
theorem d_SqlReaderModel_chain_17 : decode prog_11_method_29_code 17 = .ok (.if_icmp .ne 7, 3) := by decide +kernel
theorem d_SqlReaderModel_chain_20 : decode prog_11_method_29_code 20 = .ok (.iconst 2, 1) := by decide +kernel
theorem d_SqlReaderModel_chain_21 : decode prog_11_method_29_code 21 = .ok (.goto 6, 3) := by decide +kernel
theorem d_SqlReaderModel_chain_24 : decode prog_11_method_29_code 24 = .ok (.iload_n 1, 1) := by decide +kernel
theorem d_SqlReaderModel_chain_25 : decode prog_11_method_29_code 25 = .ok (.iconst 1, 1) := by decide +kernel
theorem d_SqlReaderModel_chain_26 : decode prog_11_method_29_code 26 = .ok (.iadd, 1) := by decide +kernel
theorem d_SqlReaderModel_chain_27 : decode prog_11_method_29_code 27 = .ok (.istore 10, 2) := by decide +kernel
theorem d_SqlReaderModel_chain_29 : decode prog_11_method_29_code 29 = .ok (.iload_n 2, 1) := by decide +kernel
theorem d_SqlReaderModel_chain_30 : decode prog_11_method_29_code 30 = .ok (.istore 11, 2) := by decide +kernel
theorem d_SqlReaderModel_chain_32 : decode prog_11_method_29_code 32 = .ok (.iload 11, 2) := by decide +kernel
theorem d_SqlReaderModel_chain_34 : decode prog_11_method_29_code 34 = .ok (.iload_n 3, 1) := by decide +kernel
theorem d_SqlReaderModel_chain_35 : decode prog_11_method_29_code 35 = .ok (.if_icmp .gt 198, 3) := by decide +kernel
theorem d_SqlReaderModel_chain_38 : decode prog_11_method_29_code 38 = .ok (.iload 11, 2) := by decide +kernel
theorem d_SqlReaderModel_chain_40 : decode prog_11_method_29_code 40 = .ok (.iload_n 3, 1) := by decide +kernel
theorem d_SqlReaderModel_chain_41 : decode prog_11_method_29_code 41 = .ok (.if_icmp .ge 12, 3) := by decide +kernel
theorem d_SqlReaderModel_chain_44 : decode prog_11_method_29_code 44 = .ok (.iload 8, 2) := by decide +kernel
theorem d_SqlReaderModel_chain_46 : decode prog_11_method_29_code 46 = .ok (.ifCond .ne 7, 3) := by decide +kernel
theorem d_SqlReaderModel_chain_49 : decode prog_11_method_29_code 49 = .ok (.iconst 1, 1) := by decide +kernel
theorem d_SqlReaderModel_chain_50 : decode prog_11_method_29_code 50 = .ok (.goto 4, 3) := by decide +kernel
theorem d_SqlReaderModel_chain_53 : decode prog_11_method_29_code 53 = .ok (.iconst 0, 1) := by decide +kernel
theorem d_SqlReaderModel_chain_54 : decode prog_11_method_29_code 54 = .ok (.istore 12, 2) := by decide +kernel
theorem d_SqlReaderModel_chain_56 : decode prog_11_method_29_code 56 = .ok (.iload 12, 2) := by decide +kernel
theorem d_SqlReaderModel_chain_58 : decode prog_11_method_29_code 58 = .ok (.ifCond .eq 36, 3) := by decide +kernel
theorem d_SqlReaderModel_chain_61 : decode prog_11_method_29_code 61 = .ok (.aload_n 0, 1) := by decide +kernel
theorem d_SqlReaderModel_chain_62 : decode prog_11_method_29_code 62 = .ok (.iload_n 1, 1) := by decide +kernel
theorem d_SqlReaderModel_chain_63 : decode prog_11_method_29_code 63 = .ok (.iload 11, 2) := by decide +kernel
theorem d_SqlReaderModel_chain_65 : decode prog_11_method_29_code 65 = .ok (.iload 11, 2) := by decide +kernel
theorem d_SqlReaderModel_chain_67 : decode prog_11_method_29_code 67 = .ok (.iload 7, 2) := by decide +kernel
theorem d_SqlReaderModel_chain_69 : decode prog_11_method_29_code 69 = .ok (.if_icmp .le 18, 3) := by decide +kernel
theorem d_SqlReaderModel_chain_72 : decode prog_11_method_29_code 72 = .ok (.aload_n 0, 1) := by decide +kernel
theorem d_SqlReaderModel_chain_73 : decode prog_11_method_29_code 73 = .ok (.iload 11, 2) := by decide +kernel
theorem d_SqlReaderModel_chain_75 : decode prog_11_method_29_code 75 = .ok (.iconst 1, 1) := by decide +kernel
theorem d_SqlReaderModel_chain_76 : decode prog_11_method_29_code 76 = .ok (.isub, 1) := by decide +kernel
theorem d_SqlReaderModel_chain_77 : decode prog_11_method_29_code 77 = .ok (.invokevirtual 321, 3) := by decide +kernel
theorem d_SqlReaderModel_chain_80 : decode prog_11_method_29_code 80 = .ok (.ifCond .eq 7, 3) := by decide +kernel
theorem d_SqlReaderModel_chain_83 : decode prog_11_method_29_code 83 = .ok (.iconst 1, 1) := by decide +kernel
theorem d_SqlReaderModel_chain_84 : decode prog_11_method_29_code 84 = .ok (.goto 4, 3) := by decide +kernel
theorem d_SqlReaderModel_chain_87 : decode prog_11_method_29_code 87 = .ok (.iconst 0, 1) := by decide +kernel
theorem d_SqlReaderModel_chain_88 : decode prog_11_method_29_code 88 = .ok (.invokevirtual 324, 3) := by decide +kernel
theorem d_SqlReaderModel_chain_91 : decode prog_11_method_29_code 91 = .ok (.goto 4, 3) := by decide +kernel
theorem d_SqlReaderModel_chain_94 : decode prog_11_method_29_code 94 = .ok (.iconst 0, 1) := by decide +kernel
theorem d_SqlReaderModel_chain_95 : decode prog_11_method_29_code 95 = .ok (.istore 13, 2) := by decide +kernel
theorem d_SqlReaderModel_chain_97 : decode prog_11_method_29_code 97 = .ok (.iload 12, 2) := by decide +kernel
theorem d_SqlReaderModel_chain_99 : decode prog_11_method_29_code 99 = .ok (.ifCond .eq 27, 3) := by decide +kernel
theorem d_SqlReaderModel_chain_102 : decode prog_11_method_29_code 102 = .ok (.iload_n 1, 1) := by decide +kernel
theorem d_SqlReaderModel_chain_103 : decode prog_11_method_29_code 103 = .ok (.iconst 1, 1) := by decide +kernel
theorem d_SqlReaderModel_chain_104 : decode prog_11_method_29_code 104 = .ok (.if_icmp .ne 22, 3) := by decide +kernel
theorem d_SqlReaderModel_chain_107 : decode prog_11_method_29_code 107 = .ok (.aload_n 0, 1) := by decide +kernel
theorem d_SqlReaderModel_chain_108 : decode prog_11_method_29_code 108 = .ok (.iload 11, 2) := by decide +kernel
theorem d_SqlReaderModel_chain_110 : decode prog_11_method_29_code 110 = .ok (.ldc_w 328, 3) := by decide +kernel
theorem d_SqlReaderModel_chain_113 : decode prog_11_method_29_code 113 = .ok (.invokevirtual 293, 3) := by decide +kernel
theorem d_SqlReaderModel_chain_116 : decode prog_11_method_29_code 116 = .ok (.ifCond .eq 10, 3) := by decide +kernel
theorem d_SqlReaderModel_chain_119 : decode prog_11_method_29_code 119 = .ok (.iload 9, 2) := by decide +kernel
theorem d_SqlReaderModel_chain_121 : decode prog_11_method_29_code 121 = .ok (.iconst 1, 1) := by decide +kernel
theorem d_SqlReaderModel_chain_122 : decode prog_11_method_29_code 122 = .ok (.iadd, 1) := by decide +kernel
theorem d_SqlReaderModel_chain_123 : decode prog_11_method_29_code 123 = .ok (.goto 5, 3) := by decide +kernel
theorem d_SqlReaderModel_chain_126 : decode prog_11_method_29_code 126 = .ok (.iload 9, 2) := by decide +kernel
theorem d_SqlReaderModel_chain_128 : decode prog_11_method_29_code 128 = .ok (.istore 9, 2) := by decide +kernel
theorem d_SqlReaderModel_chain_130 : decode prog_11_method_29_code 130 = .ok (.iload 13, 2) := by decide +kernel
theorem d_SqlReaderModel_chain_132 : decode prog_11_method_29_code 132 = .ok (.bipush 26, 2) := by decide +kernel
theorem d_SqlReaderModel_chain_134 : decode prog_11_method_29_code 134 = .ok (.if_icmp .ne 14, 3) := by decide +kernel
theorem d_SqlReaderModel_chain_137 : decode prog_11_method_29_code 137 = .ok (.iload 9, 2) := by decide +kernel
theorem d_SqlReaderModel_chain_139 : decode prog_11_method_29_code 139 = .ok (.ifCond .le 9, 3) := by decide +kernel
theorem d_SqlReaderModel_chain_142 : decode prog_11_method_29_code 142 = .ok (.iinc 9 (-1), 3) := by decide +kernel
theorem d_SqlReaderModel_chain_145 : decode prog_11_method_29_code 145 = .ok (.iconst 0, 1) := by decide +kernel
theorem d_SqlReaderModel_chain_146 : decode prog_11_method_29_code 146 = .ok (.istore 13, 2) := by decide +kernel
theorem d_SqlReaderModel_chain_148 : decode prog_11_method_29_code 148 = .ok (.iload 13, 2) := by decide +kernel
theorem d_SqlReaderModel_chain_150 : decode prog_11_method_29_code 150 = .ok (.ifCond .gt 9, 3) := by decide +kernel
theorem d_SqlReaderModel_chain_153 : decode prog_11_method_29_code 153 = .ok (.iload 11, 2) := by decide +kernel
theorem d_SqlReaderModel_chain_155 : decode prog_11_method_29_code 155 = .ok (.iload_n 3, 1) := by decide +kernel
theorem d_SqlReaderModel_chain_156 : decode prog_11_method_29_code 156 = .ok (.if_icmp .ne 49, 3) := by decide +kernel
theorem d_SqlReaderModel_chain_159 : decode prog_11_method_29_code 159 = .ok (.aload_n 0, 1) := by decide +kernel
theorem d_SqlReaderModel_chain_160 : decode prog_11_method_29_code 160 = .ok (.iload 10, 2) := by decide +kernel
theorem d_SqlReaderModel_chain_162 : decode prog_11_method_29_code 162 = .ok (.iload 7, 2) := by decide +kernel
theorem d_SqlReaderModel_chain_164 : decode prog_11_method_29_code 164 = .ok (.iload 11, 2) := by decide +kernel
theorem d_SqlReaderModel_chain_166 : decode prog_11_method_29_code 166 = .ok (.iload 4, 2) := by decide +kernel
theorem d_SqlReaderModel_chain_168 : decode prog_11_method_29_code 168 = .ok (.invokestatic 330, 3) := by decide +kernel
theorem d_SqlReaderModel_chain_171 : decode prog_11_method_29_code 171 = .ok (.istore 14, 2) := by decide +kernel
theorem d_SqlReaderModel_chain_173 : decode prog_11_method_29_code 173 = .ok (.iload 5, 2) := by decide +kernel
theorem d_SqlReaderModel_chain_175 : decode prog_11_method_29_code 175 = .ok (.ifCond .ge 8, 3) := by decide +kernel
theorem d_SqlReaderModel_chain_178 : decode prog_11_method_29_code 178 = .ok (.iload 14, 2) := by decide +kernel
theorem d_SqlReaderModel_chain_180 : decode prog_11_method_29_code 180 = .ok (.goto 13, 3) := by decide +kernel
theorem d_SqlReaderModel_chain_183 : decode prog_11_method_29_code 183 = .ok (.aload_n 0, 1) := by decide +kernel
theorem d_SqlReaderModel_chain_184 : decode prog_11_method_29_code 184 = .ok (.iload 6, 2) := by decide +kernel
theorem d_SqlReaderModel_chain_186 : decode prog_11_method_29_code 186 = .ok (.iload 5, 2) := by decide +kernel
theorem d_SqlReaderModel_chain_188 : decode prog_11_method_29_code 188 = .ok (.iload 14, 2) := by decide +kernel
theorem d_SqlReaderModel_chain_190 : decode prog_11_method_29_code 190 = .ok (.invokevirtual 287, 3) := by decide +kernel
theorem d_SqlReaderModel_chain_193 : decode prog_11_method_29_code 193 = .ok (.istore 5, 2) := by decide +kernel
theorem d_SqlReaderModel_chain_195 : decode prog_11_method_29_code 195 = .ok (.iload 13, 2) := by decide +kernel
theorem d_SqlReaderModel_chain_197 : decode prog_11_method_29_code 197 = .ok (.istore 6, 2) := by decide +kernel
theorem d_SqlReaderModel_chain_199 : decode prog_11_method_29_code 199 = .ok (.iload 11, 2) := by decide +kernel
theorem d_SqlReaderModel_chain_201 : decode prog_11_method_29_code 201 = .ok (.iconst 1, 1) := by decide +kernel
theorem d_SqlReaderModel_chain_202 : decode prog_11_method_29_code 202 = .ok (.iadd, 1) := by decide +kernel
theorem d_SqlReaderModel_chain_203 : decode prog_11_method_29_code 203 = .ok (.istore 7, 2) := by decide +kernel
theorem d_SqlReaderModel_chain_205 : decode prog_11_method_29_code 205 = .ok (.iload 11, 2) := by decide +kernel
theorem d_SqlReaderModel_chain_207 : decode prog_11_method_29_code 207 = .ok (.iload_n 3, 1) := by decide +kernel
theorem d_SqlReaderModel_chain_208 : decode prog_11_method_29_code 208 = .ok (.if_icmp .ge 15, 3) := by decide +kernel
theorem d_SqlReaderModel_chain_211 : decode prog_11_method_29_code 211 = .ok (.iload 8, 2) := by decide +kernel
theorem d_SqlReaderModel_chain_213 : decode prog_11_method_29_code 213 = .ok (.aload_n 0, 1) := by decide +kernel
theorem d_SqlReaderModel_chain_214 : decode prog_11_method_29_code 214 = .ok (.iload 11, 2) := by decide +kernel
theorem d_SqlReaderModel_chain_216 : decode prog_11_method_29_code 216 = .ok (.invokevirtual 334, 3) := by decide +kernel
theorem d_SqlReaderModel_chain_219 : decode prog_11_method_29_code 219 = .ok (.iadd, 1) := by decide +kernel
theorem d_SqlReaderModel_chain_220 : decode prog_11_method_29_code 220 = .ok (.goto 5, 3) := by decide +kernel
theorem d_SqlReaderModel_chain_223 : decode prog_11_method_29_code 223 = .ok (.iload 8, 2) := by decide +kernel
theorem d_SqlReaderModel_chain_225 : decode prog_11_method_29_code 225 = .ok (.istore 8, 2) := by decide +kernel
theorem d_SqlReaderModel_chain_227 : decode prog_11_method_29_code 227 = .ok (.iinc 11 1, 3) := by decide +kernel
theorem d_SqlReaderModel_chain_230 : decode prog_11_method_29_code 230 = .ok (.goto (-198), 3) := by decide +kernel
theorem d_SqlReaderModel_chain_233 : decode prog_11_method_29_code 233 = .ok (.iload 5, 2) := by decide +kernel
theorem d_SqlReaderModel_chain_235 : decode prog_11_method_29_code 235 = .ok (.ireturn, 1) := by decide +kernel
theorem d_SqlReaderModel_checkGroups_0 : decode prog_11_method_83_code 0 = .ok (.iconst 0, 1) := by decide +kernel
theorem d_SqlReaderModel_checkGroups_1 : decode prog_11_method_83_code 1 = .ok (.istore_n 1, 1) := by decide +kernel
theorem d_SqlReaderModel_checkGroups_2 : decode prog_11_method_83_code 2 = .ok (.iload_n 1, 1) := by decide +kernel
theorem d_SqlReaderModel_checkGroups_3 : decode prog_11_method_83_code 3 = .ok (.aload_n 0, 1) := by decide +kernel
theorem d_SqlReaderModel_checkGroups_4 : decode prog_11_method_83_code 4 = .ok (.getfield 133, 3) := by decide +kernel
theorem d_SqlReaderModel_checkGroups_7 : decode prog_11_method_83_code 7 = .ok (.if_icmp .ge 46, 3) := by decide +kernel
theorem d_SqlReaderModel_checkGroups_10 : decode prog_11_method_83_code 10 = .ok (.aload_n 0, 1) := by decide +kernel
theorem d_SqlReaderModel_checkGroups_11 : decode prog_11_method_83_code 11 = .ok (.getfield 41, 3) := by decide +kernel
theorem d_SqlReaderModel_checkGroups_14 : decode prog_11_method_83_code 14 = .ok (.iload_n 1, 1) := by decide +kernel
theorem d_SqlReaderModel_checkGroups_15 : decode prog_11_method_83_code 15 = .ok (.iaload, 1) := by decide +kernel
theorem d_SqlReaderModel_checkGroups_16 : decode prog_11_method_83_code 16 = .ok (.iconst 5, 1) := by decide +kernel
theorem d_SqlReaderModel_checkGroups_17 : decode prog_11_method_83_code 17 = .ok (.if_icmp .le 30, 3) := by decide +kernel
theorem d_SqlReaderModel_checkGroups_20 : decode prog_11_method_83_code 20 = .ok (.aload_n 0, 1) := by decide +kernel
theorem d_SqlReaderModel_checkGroups_21 : decode prog_11_method_83_code 21 = .ok (.getfield 41, 3) := by decide +kernel
theorem d_SqlReaderModel_checkGroups_24 : decode prog_11_method_83_code 24 = .ok (.iload_n 1, 1) := by decide +kernel
theorem d_SqlReaderModel_checkGroups_25 : decode prog_11_method_83_code 25 = .ok (.iaload, 1) := by decide +kernel
theorem d_SqlReaderModel_checkGroups_26 : decode prog_11_method_83_code 26 = .ok (.bipush 10, 2) := by decide +kernel
theorem d_SqlReaderModel_checkGroups_28 : decode prog_11_method_83_code 28 = .ok (.if_icmp .ge 19, 3) := by decide +kernel
theorem d_SqlReaderModel_checkGroups_31 : decode prog_11_method_83_code 31 = .ok (.aload_n 0, 1) := by decide +kernel
theorem d_SqlReaderModel_checkGroups_32 : decode prog_11_method_83_code 32 = .ok (.aload_n 0, 1) := by decide +kernel
theorem d_SqlReaderModel_checkGroups_33 : decode prog_11_method_83_code 33 = .ok (.getfield 44, 3) := by decide +kernel
theorem d_SqlReaderModel_checkGroups_36 : decode prog_11_method_83_code 36 = .ok (.iload_n 1, 1) := by decide +kernel
theorem d_SqlReaderModel_checkGroups_37 : decode prog_11_method_83_code 37 = .ok (.iaload, 1) := by decide +kernel
theorem d_SqlReaderModel_checkGroups_38 : decode prog_11_method_83_code 38 = .ok (.invokevirtual 622, 3) := by decide +kernel
theorem d_SqlReaderModel_checkGroups_41 : decode prog_11_method_83_code 41 = .ok (.ifCond .eq 6, 3) := by decide +kernel
theorem d_SqlReaderModel_checkGroups_44 : decode prog_11_method_83_code 44 = .ok (.bipush 9, 2) := by decide +kernel
theorem d_SqlReaderModel_checkGroups_46 : decode prog_11_method_83_code 46 = .ok (.ireturn, 1) := by decide +kernel
theorem d_SqlReaderModel_checkGroups_47 : decode prog_11_method_83_code 47 = .ok (.iinc 1 1, 3) := by decide +kernel
theorem d_SqlReaderModel_checkGroups_50 : decode prog_11_method_83_code 50 = .ok (.goto (-48), 3) := by decide +kernel
theorem d_SqlReaderModel_checkGroups_53 : decode prog_11_method_83_code 53 = .ok (.aload_n 0, 1) := by decide +kernel
theorem d_SqlReaderModel_checkGroups_54 : decode prog_11_method_83_code 54 = .ok (.invokevirtual 625, 3) := by decide +kernel
theorem d_SqlReaderModel_checkGroups_57 : decode prog_11_method_83_code 57 = .ok (.istore_n 1, 1) := by decide +kernel
theorem d_SqlReaderModel_checkGroups_58 : decode prog_11_method_83_code 58 = .ok (.iconst 0, 1) := by decide +kernel
theorem d_SqlReaderModel_checkGroups_59 : decode prog_11_method_83_code 59 = .ok (.istore_n 2, 1) := by decide +kernel
theorem d_SqlReaderModel_checkGroups_60 : decode prog_11_method_83_code 60 = .ok (.iload_n 2, 1) := by decide +kernel
theorem d_SqlReaderModel_checkGroups_61 : decode prog_11_method_83_code 61 = .ok (.aload_n 0, 1) := by decide +kernel
theorem d_SqlReaderModel_checkGroups_62 : decode prog_11_method_83_code 62 = .ok (.getfield 174, 3) := by decide +kernel
theorem d_SqlReaderModel_checkGroups_65 : decode prog_11_method_83_code 65 = .ok (.if_icmp .ge 29, 3) := by decide +kernel
theorem d_SqlReaderModel_checkGroups_68 : decode prog_11_method_83_code 68 = .ok (.iload_n 1, 1) := by decide +kernel
theorem d_SqlReaderModel_checkGroups_69 : decode prog_11_method_83_code 69 = .ok (.ifCond .eq 19, 3) := by decide +kernel
theorem d_SqlReaderModel_checkGroups_72 : decode prog_11_method_83_code 72 = .ok (.aload_n 0, 1) := by decide +kernel
theorem d_SqlReaderModel_checkGroups_73 : decode prog_11_method_83_code 73 = .ok (.aload_n 0, 1) := by decide +kernel
theorem d_SqlReaderModel_checkGroups_74 : decode prog_11_method_83_code 74 = .ok (.getfield 78, 3) := by decide +kernel
theorem d_SqlReaderModel_checkGroups_77 : decode prog_11_method_83_code 77 = .ok (.iload_n 2, 1) := by decide +kernel
theorem d_SqlReaderModel_checkGroups_78 : decode prog_11_method_83_code 78 = .ok (.iaload, 1) := by decide +kernel
theorem d_SqlReaderModel_checkGroups_79 : decode prog_11_method_83_code 79 = .ok (.invokevirtual 628, 3) := by decide +kernel
theorem d_SqlReaderModel_checkGroups_82 : decode prog_11_method_83_code 82 = .ok (.ifCond .eq 6, 3) := by decide +kernel
theorem d_SqlReaderModel_checkGroups_85 : decode prog_11_method_83_code 85 = .ok (.bipush 9, 2) := by decide +kernel
theorem d_SqlReaderModel_checkGroups_87 : decode prog_11_method_83_code 87 = .ok (.ireturn, 1) := by decide +kernel
theorem d_SqlReaderModel_checkGroups_88 : decode prog_11_method_83_code 88 = .ok (.iinc 2 1, 3) := by decide +kernel
theorem d_SqlReaderModel_checkGroups_91 : decode prog_11_method_83_code 91 = .ok (.goto (-31), 3) := by decide +kernel
theorem d_SqlReaderModel_checkGroups_94 : decode prog_11_method_83_code 94 = .ok (.aload_n 0, 1) := by decide +kernel
theorem d_SqlReaderModel_checkGroups_95 : decode prog_11_method_83_code 95 = .ok (.getfield 183, 3) := by decide +kernel
theorem d_SqlReaderModel_checkGroups_98 : decode prog_11_method_83_code 98 = .ok (.iconst 2, 1) := by decide +kernel
theorem d_SqlReaderModel_checkGroups_99 : decode prog_11_method_83_code 99 = .ok (.if_icmp .ge 27, 3) := by decide +kernel
theorem d_SqlReaderModel_checkGroups_102 : decode prog_11_method_83_code 102 = .ok (.aload_n 0, 1) := by decide +kernel
theorem d_SqlReaderModel_checkGroups_103 : decode prog_11_method_83_code 103 = .ok (.getfield 162, 3) := by decide +kernel
theorem d_SqlReaderModel_checkGroups_106 : decode prog_11_method_83_code 106 = .ok (.ifCond .ne 20, 3) := by decide +kernel
theorem d_SqlReaderModel_checkGroups_109 : decode prog_11_method_83_code 109 = .ok (.iload_n 1, 1) := by decide +kernel
theorem d_SqlReaderModel_checkGroups_110 : decode prog_11_method_83_code 110 = .ok (.ifCond .ne 16, 3) := by decide +kernel
theorem d_SqlReaderModel_checkGroups_113 : decode prog_11_method_83_code 113 = .ok (.aload_n 0, 1) := by decide +kernel
theorem d_SqlReaderModel_checkGroups_114 : decode prog_11_method_83_code 114 = .ok (.invokevirtual 607, 3) := by decide +kernel
theorem d_SqlReaderModel_checkGroups_117 : decode prog_11_method_83_code 117 = .ok (.bipush 8, 2) := by decide +kernel
theorem d_SqlReaderModel_checkGroups_119 : decode prog_11_method_83_code 119 = .ok (.if_icmp .ne 7, 3) := by decide +kernel
theorem d_SqlReaderModel_checkGroups_122 : decode prog_11_method_83_code 122 = .ok (.iconst 1, 1) := by decide +kernel
theorem d_SqlReaderModel_checkGroups_123 : decode prog_11_method_83_code 123 = .ok (.goto 4, 3) := by decide +kernel
theorem d_SqlReaderModel_checkGroups_126 : decode prog_11_method_83_code 126 = .ok (.iconst 0, 1) := by decide +kernel
theorem d_SqlReaderModel_checkGroups_127 : decode prog_11_method_83_code 127 = .ok (.istore_n 2, 1) := by decide +kernel
theorem d_SqlReaderModel_checkGroups_128 : decode prog_11_method_83_code 128 = .ok (.aload_n 0, 1) := by decide +kernel
theorem d_SqlReaderModel_checkGroups_129 : decode prog_11_method_83_code 129 = .ok (.getfield 152, 3) := by decide +kernel
theorem d_SqlReaderModel_checkGroups_132 : decode prog_11_method_83_code 132 = .ok (.ifCond .le 30, 3) := by decide +kernel
theorem d_SqlReaderModel_checkGroups_135 : decode prog_11_method_83_code 135 = .ok (.aload_n 0, 1) := by decide +kernel
theorem d_SqlReaderModel_checkGroups_136 : decode prog_11_method_83_code 136 = .ok (.invokevirtual 607, 3) := by decide +kernel
theorem d_SqlReaderModel_checkGroups_139 : decode prog_11_method_83_code 139 = .ok (.bipush 9, 2) := by decide +kernel
theorem d_SqlReaderModel_checkGroups_141 : decode prog_11_method_83_code 141 = .ok (.if_icmp .eq 21, 3) := by decide +kernel
theorem d_SqlReaderModel_checkGroups_144 : decode prog_11_method_83_code 144 = .ok (.aload_n 0, 1) := by decide +kernel
theorem d_SqlReaderModel_checkGroups_145 : decode prog_11_method_83_code 145 = .ok (.invokevirtual 607, 3) := by decide +kernel
theorem d_SqlReaderModel_checkGroups_148 : decode prog_11_method_83_code 148 = .ok (.bipush 15, 2) := by decide +kernel
theorem d_SqlReaderModel_checkGroups_150 : decode prog_11_method_83_code 150 = .ok (.if_icmp .eq 12, 3) := by decide +kernel
theorem d_SqlReaderModel_checkGroups_153 : decode prog_11_method_83_code 153 = .ok (.iload_n 2, 1) := by decide +kernel
theorem d_SqlReaderModel_checkGroups_154 : decode prog_11_method_83_code 154 = .ok (.ifCond .ne 8, 3) := by decide +kernel
theorem d_SqlReaderModel_checkGroups_157 : decode prog_11_method_83_code 157 = .ok (.bipush 10, 2) := by decide +kernel
theorem d_SqlReaderModel_checkGroups_159 : decode prog_11_method_83_code 159 = .ok (.goto 4, 3) := by decide +kernel
theorem d_SqlReaderModel_checkGroups_162 : decode prog_11_method_83_code 162 = .ok (.iconst 0, 1) := by decide +kernel
theorem d_SqlReaderModel_checkGroups_163 : decode prog_11_method_83_code 163 = .ok (.ireturn, 1) := by decide +kernel
theorem d_SqlReaderModel_checkNode_0 : decode prog_11_method_71_code 0 = .ok (.aload_n 0, 1) := by decide +kernel
theorem d_SqlReaderModel_checkNode_1 : decode prog_11_method_71_code 1 = .ok (.getfield 41, 3) := by decide +kernel
theorem d_SqlReaderModel_checkNode_4 : decode prog_11_method_71_code 4 = .ok (.iload_n 1, 1) := by decide +kernel
theorem d_SqlReaderModel_checkNode_5 : decode prog_11_method_71_code 5 = .ok (.iaload, 1) := by decide +kernel
theorem d_SqlReaderModel_checkNode_6 : decode prog_11_method_71_code 6 = .ok (.istore_n 2, 1) := by decide +kernel
theorem d_SqlReaderModel_checkNode_7 : decode prog_11_method_71_code 7 = .ok (.aload_n 0, 1) := by decide +kernel
theorem d_SqlReaderModel_checkNode_8 : decode prog_11_method_71_code 8 = .ok (.getfield 44, 3) := by decide +kernel
theorem d_SqlReaderModel_checkNode_11 : decode prog_11_method_71_code 11 = .ok (.iload_n 1, 1) := by decide +kernel
theorem d_SqlReaderModel_checkNode_12 : decode prog_11_method_71_code 12 = .ok (.iaload, 1) := by decide +kernel
theorem d_SqlReaderModel_checkNode_13 : decode prog_11_method_71_code 13 = .ok (.istore_n 3, 1) := by decide +kernel
theorem d_SqlReaderModel_checkNode_14 : decode prog_11_method_71_code 14 = .ok (.aload_n 0, 1) := by decide +kernel
theorem d_SqlReaderModel_checkNode_15 : decode prog_11_method_71_code 15 = .ok (.getfield 47, 3) := by decide +kernel
theorem d_SqlReaderModel_checkNode_18 : decode prog_11_method_71_code 18 = .ok (.iload_n 1, 1) := by decide +kernel
theorem d_SqlReaderModel_checkNode_19 : decode prog_11_method_71_code 19 = .ok (.iaload, 1) := by decide +kernel
theorem d_SqlReaderModel_checkNode_20 : decode prog_11_method_71_code 20 = .ok (.istore 4, 2) := by decide +kernel
theorem d_SqlReaderModel_checkNode_22 : decode prog_11_method_71_code 22 = .ok (.aload_n 0, 1) := by decide +kernel
theorem d_SqlReaderModel_checkNode_23 : decode prog_11_method_71_code 23 = .ok (.getfield 50, 3) := by decide +kernel
theorem d_SqlReaderModel_checkNode_26 : decode prog_11_method_71_code 26 = .ok (.iload_n 1, 1) := by decide +kernel
theorem d_SqlReaderModel_checkNode_27 : decode prog_11_method_71_code 27 = .ok (.iload_n 2, 1) := by decide +kernel
theorem d_SqlReaderModel_checkNode_28 : decode prog_11_method_71_code 28 = .ok (.iconst 1, 1) := by decide +kernel
theorem d_SqlReaderModel_checkNode_29 : decode prog_11_method_71_code 29 = .ok (.if_icmp .eq 26, 3) := by decide +kernel
theorem d_SqlReaderModel_checkNode_32 : decode prog_11_method_71_code 32 = .ok (.iload_n 2, 1) := by decide +kernel
theorem d_SqlReaderModel_checkNode_33 : decode prog_11_method_71_code 33 = .ok (.iconst 4, 1) := by decide +kernel
theorem d_SqlReaderModel_checkNode_34 : decode prog_11_method_71_code 34 = .ok (.if_icmp .le 9, 3) := by decide +kernel
theorem d_SqlReaderModel_checkNode_37 : decode prog_11_method_71_code 37 = .ok (.iload_n 2, 1) := by decide +kernel
theorem d_SqlReaderModel_checkNode_38 : decode prog_11_method_71_code 38 = .ok (.bipush 8, 2) := by decide +kernel
theorem d_SqlReaderModel_checkNode_40 : decode prog_11_method_71_code 40 = .ok (.if_icmp .lt 15, 3) := by decide +kernel
theorem d_SqlReaderModel_checkNode_43 : decode prog_11_method_71_code 43 = .ok (.iload_n 2, 1) := by decide +kernel
theorem d_SqlReaderModel_checkNode_44 : decode prog_11_method_71_code 44 = .ok (.bipush 9, 2) := by decide +kernel
theorem d_SqlReaderModel_checkNode_46 : decode prog_11_method_71_code 46 = .ok (.if_icmp .le 13, 3) := by decide +kernel
theorem d_SqlReaderModel_checkNode_49 : decode prog_11_method_71_code 49 = .ok (.iload_n 2, 1) := by decide +kernel
theorem d_SqlReaderModel_checkNode_50 : decode prog_11_method_71_code 50 = .ok (.bipush 16, 2) := by decide +kernel
theorem d_SqlReaderModel_checkNode_52 : decode prog_11_method_71_code 52 = .ok (.if_icmp .ge 7, 3) := by decide +kernel
theorem d_SqlReaderModel_checkNode_55 : decode prog_11_method_71_code 55 = .ok (.iconst 1, 1) := by decide +kernel
theorem d_SqlReaderModel_checkNode_56 : decode prog_11_method_71_code 56 = .ok (.goto 40, 3) := by decide +kernel
theorem d_SqlReaderModel_checkNode_59 : decode prog_11_method_71_code 59 = .ok (.iload_n 2, 1) := by decide +kernel
theorem d_SqlReaderModel_checkNode_60 : decode prog_11_method_71_code 60 = .ok (.iconst 2, 1) := by decide +kernel
theorem d_SqlReaderModel_checkNode_61 : decode prog_11_method_71_code 61 = .ok (.if_icmp .eq 9, 3) := by decide +kernel
theorem d_SqlReaderModel_checkNode_64 : decode prog_11_method_71_code 64 = .ok (.iload_n 2, 1) := by decide +kernel
theorem d_SqlReaderModel_checkNode_65 : decode prog_11_method_71_code 65 = .ok (.bipush 16, 2) := by decide +kernel
theorem d_SqlReaderModel_checkNode_67 : decode prog_11_method_71_code 67 = .ok (.if_icmp .ne 7, 3) := by decide +kernel
theorem d_SqlReaderModel_checkNode_70 : decode prog_11_method_71_code 70 = .ok (.iconst 2, 1) := by decide +kernel
theorem d_SqlReaderModel_checkNode_71 : decode prog_11_method_71_code 71 = .ok (.goto 25, 3) := by decide +kernel
theorem d_SqlReaderModel_checkNode_74 : decode prog_11_method_71_code 74 = .ok (.iload_n 2, 1) := by decide +kernel
theorem d_SqlReaderModel_checkNode_75 : decode prog_11_method_71_code 75 = .ok (.iconst 3, 1) := by decide +kernel
theorem d_SqlReaderModel_checkNode_76 : decode prog_11_method_71_code 76 = .ok (.if_icmp .eq 15, 3) := by decide +kernel
theorem d_SqlReaderModel_checkNode_79 : decode prog_11_method_71_code 79 = .ok (.iload_n 2, 1) := by decide +kernel
theorem d_SqlReaderModel_checkNode_80 : decode prog_11_method_71_code 80 = .ok (.bipush 16, 2) := by decide +kernel
theorem d_SqlReaderModel_checkNode_82 : decode prog_11_method_71_code 82 = .ok (.if_icmp .le 13, 3) := by decide +kernel
theorem d_SqlReaderModel_checkNode_85 : decode prog_11_method_71_code 85 = .ok (.iload_n 2, 1) := by decide +kernel
theorem d_SqlReaderModel_checkNode_86 : decode prog_11_method_71_code 86 = .ok (.bipush 28, 2) := by decide +kernel
theorem d_SqlReaderModel_checkNode_88 : decode prog_11_method_71_code 88 = .ok (.if_icmp .ge 7, 3) := by decide +kernel
theorem d_SqlReaderModel_checkNode_91 : decode prog_11_method_71_code 91 = .ok (.iconst 3, 1) := by decide +kernel
theorem d_SqlReaderModel_checkNode_92 : decode prog_11_method_71_code 92 = .ok (.goto 4, 3) := by decide +kernel
theorem d_SqlReaderModel_checkNode_95 : decode prog_11_method_71_code 95 = .ok (.iconst 0, 1) := by decide +kernel
theorem d_SqlReaderModel_checkNode_96 : decode prog_11_method_71_code 96 = .ok (.iastore, 1) := by decide +kernel
theorem d_SqlReaderModel_checkNode_97 : decode prog_11_method_71_code 97 = .ok (.iload_n 2, 1) := by decide +kernel
theorem d_SqlReaderModel_checkNode_98 : decode prog_11_method_71_code 98 = .ok (.iconst 4, 1) := by decide +kernel
theorem d_SqlReaderModel_checkNode_99 : decode prog_11_method_71_code 99 = .ok (.if_icmp .ne 9, 3) := by decide +kernel
theorem d_SqlReaderModel_checkNode_102 : decode prog_11_method_71_code 102 = .ok (.aload_n 0, 1) := by decide +kernel
theorem d_SqlReaderModel_checkNode_103 : decode prog_11_method_71_code 103 = .ok (.iload_n 1, 1) := by decide +kernel
theorem d_SqlReaderModel_checkNode_104 : decode prog_11_method_71_code 104 = .ok (.invokevirtual 595, 3) := by decide +kernel
theorem d_SqlReaderModel_checkNode_107 : decode prog_11_method_71_code 107 = .ok (.ireturn, 1) := by decide +kernel
theorem d_SqlReaderModel_checkNode_108 : decode prog_11_method_71_code 108 = .ok (.iload_n 2, 1) := by decide +kernel
theorem d_SqlReaderModel_checkNode_109 : decode prog_11_method_71_code 109 = .ok (.bipush 6, 2) := by decide +kernel
theorem d_SqlReaderModel_checkNode_111 : decode prog_11_method_71_code 111 = .ok (.if_icmp .eq 15, 3) := by decide +kernel
theorem d_SqlReaderModel_checkNode_114 : decode prog_11_method_71_code 114 = .ok (.iload_n 2, 1) := by decide +kernel
theorem d_SqlReaderModel_checkNode_115 : decode prog_11_method_71_code 115 = .ok (.bipush 23, 2) := by decide +kernel
theorem d_SqlReaderModel_checkNode_117 : decode prog_11_method_71_code 117 = .ok (.if_icmp .eq 9, 3) := by decide +kernel
theorem d_SqlReaderModel_checkNode_120 : decode prog_11_method_71_code 120 = .ok (.iload_n 2, 1) := by decide +kernel
theorem d_SqlReaderModel_checkNode_121 : decode prog_11_method_71_code 121 = .ok (.bipush 24, 2) := by decide +kernel
theorem d_SqlReaderModel_checkNode_123 : decode prog_11_method_71_code 123 = .ok (.if_icmp .ne 11, 3) := by decide +kernel
theorem d_SqlReaderModel_checkNode_126 : decode prog_11_method_71_code 126 = .ok (.aload_n 0, 1) := by decide +kernel
theorem d_SqlReaderModel_checkNode_127 : decode prog_11_method_71_code 127 = .ok (.iload_n 3, 1) := by decide +kernel
theorem d_SqlReaderModel_checkNode_128 : decode prog_11_method_71_code 128 = .ok (.iconst 2, 1) := by decide +kernel
theorem d_SqlReaderModel_checkNode_129 : decode prog_11_method_71_code 129 = .ok (.invokevirtual 588, 3) := by decide +kernel
theorem d_SqlReaderModel_checkNode_132 : decode prog_11_method_71_code 132 = .ok (.iconst 0, 1) := by decide +kernel
theorem d_SqlReaderModel_checkNode_133 : decode prog_11_method_71_code 133 = .ok (.ireturn, 1) := by decide +kernel
theorem d_SqlReaderModel_checkNode_134 : decode prog_11_method_71_code 134 = .ok (.iload_n 2, 1) := by decide +kernel
theorem d_SqlReaderModel_checkNode_135 : decode prog_11_method_71_code 135 = .ok (.bipush 8, 2) := by decide +kernel
theorem d_SqlReaderModel_checkNode_137 : decode prog_11_method_71_code 137 = .ok (.if_icmp .eq 9, 3) := by decide +kernel
theorem d_SqlReaderModel_checkNode_140 : decode prog_11_method_71_code 140 = .ok (.iload_n 2, 1) := by decide +kernel
theorem d_SqlReaderModel_checkNode_141 : decode prog_11_method_71_code 141 = .ok (.bipush 9, 2) := by decide +kernel
theorem d_SqlReaderModel_checkNode_143 : decode prog_11_method_71_code 143 = .ok (.if_icmp .ne 39, 3) := by decide +kernel
theorem d_SqlReaderModel_checkNode_146 : decode prog_11_method_71_code 146 = .ok (.aload_n 0, 1) := by decide +kernel
theorem d_SqlReaderModel_checkNode_147 : decode prog_11_method_71_code 147 = .ok (.iload_n 3, 1) := by decide +kernel
theorem d_SqlReaderModel_checkNode_148 : decode prog_11_method_71_code 148 = .ok (.iconst 2, 1) := by decide +kernel
theorem d_SqlReaderModel_checkNode_149 : decode prog_11_method_71_code 149 = .ok (.invokevirtual 588, 3) := by decide +kernel
theorem d_SqlReaderModel_checkNode_152 : decode prog_11_method_71_code 152 = .ok (.aload_n 0, 1) := by decide +kernel
theorem d_SqlReaderModel_checkNode_153 : decode prog_11_method_71_code 153 = .ok (.getfield 50, 3) := by decide +kernel
theorem d_SqlReaderModel_checkNode_156 : decode prog_11_method_71_code 156 = .ok (.iload_n 1, 1) := by decide +kernel
theorem d_SqlReaderModel_checkNode_157 : decode prog_11_method_71_code 157 = .ok (.aload_n 0, 1) := by decide +kernel
theorem d_SqlReaderModel_checkNode_158 : decode prog_11_method_71_code 158 = .ok (.iload_n 3, 1) := by decide +kernel
theorem d_SqlReaderModel_checkNode_159 : decode prog_11_method_71_code 159 = .ok (.invokevirtual 582, 3) := by decide +kernel
theorem d_SqlReaderModel_checkNode_162 : decode prog_11_method_71_code 162 = .ok (.iastore, 1) := by decide +kernel
theorem d_SqlReaderModel_checkNode_163 : decode prog_11_method_71_code 163 = .ok (.aload_n 0, 1) := by decide +kernel
theorem d_SqlReaderModel_checkNode_164 : decode prog_11_method_71_code 164 = .ok (.aload_n 0, 1) := by decide +kernel
theorem d_SqlReaderModel_checkNode_165 : decode prog_11_method_71_code 165 = .ok (.iload_n 3, 1) := by decide +kernel
theorem d_SqlReaderModel_checkNode_166 : decode prog_11_method_71_code 166 = .ok (.invokevirtual 582, 3) := by decide +kernel
theorem d_SqlReaderModel_checkNode_169 : decode prog_11_method_71_code 169 = .ok (.iconst 3, 1) := by decide +kernel
theorem d_SqlReaderModel_checkNode_170 : decode prog_11_method_71_code 170 = .ok (.if_icmp .eq 7, 3) := by decide +kernel
theorem d_SqlReaderModel_checkNode_173 : decode prog_11_method_71_code 173 = .ok (.iconst 1, 1) := by decide +kernel
theorem d_SqlReaderModel_checkNode_174 : decode prog_11_method_71_code 174 = .ok (.goto 4, 3) := by decide +kernel
theorem d_SqlReaderModel_checkNode_177 : decode prog_11_method_71_code 177 = .ok (.iconst 0, 1) := by decide +kernel
theorem d_SqlReaderModel_checkNode_178 : decode prog_11_method_71_code 178 = .ok (.invokevirtual 591, 3) := by decide +kernel
theorem d_SqlReaderModel_checkNode_181 : decode prog_11_method_71_code 181 = .ok (.ireturn, 1) := by decide +kernel
theorem d_SqlReaderModel_checkNode_182 : decode prog_11_method_71_code 182 = .ok (.iload_n 2, 1) := by decide +kernel
theorem d_SqlReaderModel_checkNode_183 : decode prog_11_method_71_code 183 = .ok (.bipush 16, 2) := by decide +kernel
theorem d_SqlReaderModel_checkNode_185 : decode prog_11_method_71_code 185 = .ok (.if_icmp .le 17, 3) := by decide +kernel
theorem d_SqlReaderModel_checkNode_188 : decode prog_11_method_71_code 188 = .ok (.iload_n 2, 1) := by decide +kernel
theorem d_SqlReaderModel_checkNode_189 : decode prog_11_method_71_code 189 = .ok (.bipush 23, 2) := by decide +kernel
theorem d_SqlReaderModel_checkNode_191 : decode prog_11_method_71_code 191 = .ok (.if_icmp .ge 11, 3) := by decide +kernel
theorem d_SqlReaderModel_checkNode_194 : decode prog_11_method_71_code 194 = .ok (.aload_n 0, 1) := by decide +kernel
theorem d_SqlReaderModel_checkNode_195 : decode prog_11_method_71_code 195 = .ok (.iload_n 3, 1) := by decide +kernel
theorem d_SqlReaderModel_checkNode_196 : decode prog_11_method_71_code 196 = .ok (.iload 4, 2) := by decide +kernel
theorem d_SqlReaderModel_checkNode_198 : decode prog_11_method_71_code 198 = .ok (.invokevirtual 598, 3) := by decide +kernel
theorem d_SqlReaderModel_checkNode_201 : decode prog_11_method_71_code 201 = .ok (.ireturn, 1) := by decide +kernel
theorem d_SqlReaderModel_checkNode_202 : decode prog_11_method_71_code 202 = .ok (.iload_n 2, 1) := by decide +kernel
theorem d_SqlReaderModel_checkNode_203 : decode prog_11_method_71_code 203 = .ok (.bipush 6, 2) := by decide +kernel
theorem d_SqlReaderModel_checkNode_205 : decode prog_11_method_71_code 205 = .ok (.if_icmp .lt 9, 3) := by decide +kernel
theorem d_SqlReaderModel_checkNode_208 : decode prog_11_method_71_code 208 = .ok (.iload_n 2, 1) := by decide +kernel
theorem d_SqlReaderModel_checkNode_209 : decode prog_11_method_71_code 209 = .ok (.bipush 28, 2) := by decide +kernel
theorem d_SqlReaderModel_checkNode_211 : decode prog_11_method_71_code 211 = .ok (.if_icmp .ne 5, 3) := by decide +kernel
theorem d_SqlReaderModel_checkNode_214 : decode prog_11_method_71_code 214 = .ok (.iconst 0, 1) := by decide +kernel
theorem d_SqlReaderModel_checkNode_215 : decode prog_11_method_71_code 215 = .ok (.ireturn, 1) := by decide +kernel
theorem d_SqlReaderModel_checkNode_216 : decode prog_11_method_71_code 216 = .ok (.iload_n 2, 1) := by decide +kernel
theorem d_SqlReaderModel_checkNode_217 : decode prog_11_method_71_code 217 = .ok (.bipush 16, 2) := by decide +kernel
theorem d_SqlReaderModel_checkNode_219 : decode prog_11_method_71_code 219 = .ok (.if_icmp .ge 7, 3) := by decide +kernel
theorem d_SqlReaderModel_checkNode_222 : decode prog_11_method_71_code 222 = .ok (.iconst 1, 1) := by decide +kernel
theorem d_SqlReaderModel_checkNode_223 : decode prog_11_method_71_code 223 = .ok (.goto 14, 3) := by decide +kernel
theorem d_SqlReaderModel_checkNode_226 : decode prog_11_method_71_code 226 = .ok (.iload_n 2, 1) := by decide +kernel
theorem d_SqlReaderModel_checkNode_227 : decode prog_11_method_71_code 227 = .ok (.bipush 16, 2) := by decide +kernel
theorem d_SqlReaderModel_checkNode_229 : decode prog_11_method_71_code 229 = .ok (.if_icmp .ne 7, 3) := by decide +kernel
theorem d_SqlReaderModel_checkNode_232 : decode prog_11_method_71_code 232 = .ok (.iconst 2, 1) := by decide +kernel
theorem d_SqlReaderModel_checkNode_233 : decode prog_11_method_71_code 233 = .ok (.goto 4, 3) := by decide +kernel
theorem d_SqlReaderModel_checkNode_236 : decode prog_11_method_71_code 236 = .ok (.iconst 3, 1) := by decide +kernel
theorem d_SqlReaderModel_checkNode_237 : decode prog_11_method_71_code 237 = .ok (.istore 5, 2) := by decide +kernel
theorem d_SqlReaderModel_checkNode_239 : decode prog_11_method_71_code 239 = .ok (.aload_n 0, 1) := by decide +kernel
theorem d_SqlReaderModel_checkNode_240 : decode prog_11_method_71_code 240 = .ok (.iload_n 3, 1) := by decide +kernel
theorem d_SqlReaderModel_checkNode_241 : decode prog_11_method_71_code 241 = .ok (.iload 5, 2) := by decide +kernel
theorem d_SqlReaderModel_checkNode_243 : decode prog_11_method_71_code 243 = .ok (.invokevirtual 601, 3) := by decide +kernel
theorem d_SqlReaderModel_checkNode_246 : decode prog_11_method_71_code 246 = .ok (.istore 6, 2) := by decide +kernel
theorem d_SqlReaderModel_checkNode_248 : decode prog_11_method_71_code 248 = .ok (.aload_n 0, 1) := by decide +kernel
theorem d_SqlReaderModel_checkNode_249 : decode prog_11_method_71_code 249 = .ok (.iload 6, 2) := by decide +kernel
theorem d_SqlReaderModel_checkNode_251 : decode prog_11_method_71_code 251 = .ok (.ifCond .eq 23, 3) := by decide +kernel
theorem d_SqlReaderModel_checkNode_254 : decode prog_11_method_71_code 254 = .ok (.iload 4, 2) := by decide +kernel
theorem d_SqlReaderModel_checkNode_256 : decode prog_11_method_71_code 256 = .ok (.ifCond .lt 14, 3) := by decide +kernel
theorem d_SqlReaderModel_checkNode_259 : decode prog_11_method_71_code 259 = .ok (.aload_n 0, 1) := by decide +kernel
theorem d_SqlReaderModel_checkNode_260 : decode prog_11_method_71_code 260 = .ok (.iload 4, 2) := by decide +kernel
theorem d_SqlReaderModel_checkNode_262 : decode prog_11_method_71_code 262 = .ok (.iload 5, 2) := by decide +kernel
theorem d_SqlReaderModel_checkNode_264 : decode prog_11_method_71_code 264 = .ok (.invokevirtual 601, 3) := by decide +kernel
theorem d_SqlReaderModel_checkNode_267 : decode prog_11_method_71_code 267 = .ok (.ifCond .eq 7, 3) := by decide +kernel
theorem d_SqlReaderModel_checkNode_270 : decode prog_11_method_71_code 270 = .ok (.iconst 1, 1) := by decide +kernel
theorem d_SqlReaderModel_checkNode_271 : decode prog_11_method_71_code 271 = .ok (.goto 4, 3) := by decide +kernel
theorem d_SqlReaderModel_checkNode_274 : decode prog_11_method_71_code 274 = .ok (.iconst 0, 1) := by decide +kernel
theorem d_SqlReaderModel_checkNode_275 : decode prog_11_method_71_code 275 = .ok (.invokevirtual 591, 3) := by decide +kernel
theorem d_SqlReaderModel_checkNode_278 : decode prog_11_method_71_code 278 = .ok (.ireturn, 1) := by decide +kernel
theorem d_SqlReaderModel_checkOne_0 : decode prog_11_method_75_code 0 = .ok (.aload_n 0, 1) := by decide +kernel
theorem d_SqlReaderModel_checkOne_1 : decode prog_11_method_75_code 1 = .ok (.getfield 72, 3) := by decide +kernel
theorem d_SqlReaderModel_checkOne_4 : decode prog_11_method_75_code 4 = .ok (.iload_n 1, 1) := by decide +kernel
theorem d_SqlReaderModel_checkOne_5 : decode prog_11_method_75_code 5 = .ok (.iaload, 1) := by decide +kernel
theorem d_SqlReaderModel_checkOne_6 : decode prog_11_method_75_code 6 = .ok (.istore_n 2, 1) := by decide +kernel
theorem d_SqlReaderModel_checkOne_7 : decode prog_11_method_75_code 7 = .ok (.aload_n 0, 1) := by decide +kernel
theorem d_SqlReaderModel_checkOne_8 : decode prog_11_method_75_code 8 = .ok (.getfield 69, 3) := by decide +kernel
theorem d_SqlReaderModel_checkOne_11 : decode prog_11_method_75_code 11 = .ok (.iload_n 1, 1) := by decide +kernel
theorem d_SqlReaderModel_checkOne_12 : decode prog_11_method_75_code 12 = .ok (.iaload, 1) := by decide +kernel
theorem d_SqlReaderModel_checkOne_13 : decode prog_11_method_75_code 13 = .ok (.iconst 1, 1) := by decide +kernel
theorem d_SqlReaderModel_checkOne_14 : decode prog_11_method_75_code 14 = .ok (.if_icmp .ne 9, 3) := by decide +kernel
theorem d_SqlReaderModel_checkOne_17 : decode prog_11_method_75_code 17 = .ok (.aload_n 0, 1) := by decide +kernel
theorem d_SqlReaderModel_checkOne_18 : decode prog_11_method_75_code 18 = .ok (.iload_n 2, 1) := by decide +kernel
theorem d_SqlReaderModel_checkOne_19 : decode prog_11_method_75_code 19 = .ok (.invokevirtual 610, 3) := by decide +kernel
theorem d_SqlReaderModel_checkOne_22 : decode prog_11_method_75_code 22 = .ok (.ireturn, 1) := by decide +kernel
theorem d_SqlReaderModel_checkOne_23 : decode prog_11_method_75_code 23 = .ok (.aload_n 0, 1) := by decide +kernel
theorem d_SqlReaderModel_checkOne_24 : decode prog_11_method_75_code 24 = .ok (.getfield 69, 3) := by decide +kernel
theorem d_SqlReaderModel_checkOne_27 : decode prog_11_method_75_code 27 = .ok (.iload_n 1, 1) := by decide +kernel
theorem d_SqlReaderModel_checkOne_28 : decode prog_11_method_75_code 28 = .ok (.iaload, 1) := by decide +kernel
theorem d_SqlReaderModel_checkOne_29 : decode prog_11_method_75_code 29 = .ok (.iconst 2, 1) := by decide +kernel
theorem d_SqlReaderModel_checkOne_30 : decode prog_11_method_75_code 30 = .ok (.if_icmp .ne 15, 3) := by decide +kernel
theorem d_SqlReaderModel_checkOne_33 : decode prog_11_method_75_code 33 = .ok (.aload_n 0, 1) := by decide +kernel
theorem d_SqlReaderModel_checkOne_34 : decode prog_11_method_75_code 34 = .ok (.iload_n 2, 1) := by decide +kernel
theorem d_SqlReaderModel_checkOne_35 : decode prog_11_method_75_code 35 = .ok (.aload_n 0, 1) := by decide +kernel
theorem d_SqlReaderModel_checkOne_36 : decode prog_11_method_75_code 36 = .ok (.getfield 75, 3) := by decide +kernel
theorem d_SqlReaderModel_checkOne_39 : decode prog_11_method_75_code 39 = .ok (.iload_n 1, 1) := by decide +kernel
theorem d_SqlReaderModel_checkOne_40 : decode prog_11_method_75_code 40 = .ok (.iaload, 1) := by decide +kernel
theorem d_SqlReaderModel_checkOne_41 : decode prog_11_method_75_code 41 = .ok (.invokevirtual 613, 3) := by decide +kernel
theorem d_SqlReaderModel_checkOne_44 : decode prog_11_method_75_code 44 = .ok (.ireturn, 1) := by decide +kernel
theorem d_SqlReaderModel_checkOne_45 : decode prog_11_method_75_code 45 = .ok (.aload_n 0, 1) := by decide +kernel
theorem d_SqlReaderModel_checkOne_46 : decode prog_11_method_75_code 46 = .ok (.getfield 69, 3) := by decide +kernel
theorem d_SqlReaderModel_checkOne_49 : decode prog_11_method_75_code 49 = .ok (.iload_n 1, 1) := by decide +kernel
theorem d_SqlReaderModel_checkOne_50 : decode prog_11_method_75_code 50 = .ok (.iaload, 1) := by decide +kernel
theorem d_SqlReaderModel_checkOne_51 : decode prog_11_method_75_code 51 = .ok (.iconst 3, 1) := by decide +kernel
theorem d_SqlReaderModel_checkOne_52 : decode prog_11_method_75_code 52 = .ok (.if_icmp .ne 14, 3) := by decide +kernel
theorem d_SqlReaderModel_checkOne_55 : decode prog_11_method_75_code 55 = .ok (.aload_n 0, 1) := by decide +kernel
theorem d_SqlReaderModel_checkOne_56 : decode prog_11_method_75_code 56 = .ok (.aload_n 0, 1) := by decide +kernel
theorem d_SqlReaderModel_checkOne_57 : decode prog_11_method_75_code 57 = .ok (.iload_n 2, 1) := by decide +kernel
theorem d_SqlReaderModel_checkOne_58 : decode prog_11_method_75_code 58 = .ok (.iconst 3, 1) := by decide +kernel
theorem d_SqlReaderModel_checkOne_59 : decode prog_11_method_75_code 59 = .ok (.invokevirtual 601, 3) := by decide +kernel
theorem d_SqlReaderModel_checkOne_62 : decode prog_11_method_75_code 62 = .ok (.invokevirtual 591, 3) := by decide +kernel
theorem d_SqlReaderModel_checkOne_65 : decode prog_11_method_75_code 65 = .ok (.ireturn, 1) := by decide +kernel
theorem d_SqlReaderModel_checkOne_66 : decode prog_11_method_75_code 66 = .ok (.aload_n 0, 1) := by decide +kernel
theorem d_SqlReaderModel_checkOne_67 : decode prog_11_method_75_code 67 = .ok (.getfield 69, 3) := by decide +kernel
theorem d_SqlReaderModel_checkOne_70 : decode prog_11_method_75_code 70 = .ok (.iload_n 1, 1) := by decide +kernel
theorem d_SqlReaderModel_checkOne_71 : decode prog_11_method_75_code 71 = .ok (.iaload, 1) := by decide +kernel
theorem d_SqlReaderModel_checkOne_72 : decode prog_11_method_75_code 72 = .ok (.iconst 4, 1) := by decide +kernel
theorem d_SqlReaderModel_checkOne_73 : decode prog_11_method_75_code 73 = .ok (.if_icmp .ne 39, 3) := by decide +kernel
theorem d_SqlReaderModel_checkOne_76 : decode prog_11_method_75_code 76 = .ok (.aload_n 0, 1) := by decide +kernel
theorem d_SqlReaderModel_checkOne_77 : decode prog_11_method_75_code 77 = .ok (.getfield 103, 3) := by decide +kernel
theorem d_SqlReaderModel_checkOne_80 : decode prog_11_method_75_code 80 = .ok (.iload_n 2, 1) := by decide +kernel
theorem d_SqlReaderModel_checkOne_81 : decode prog_11_method_75_code 81 = .ok (.aload_n 0, 1) := by decide +kernel
theorem d_SqlReaderModel_checkOne_82 : decode prog_11_method_75_code 82 = .ok (.aload_n 0, 1) := by decide +kernel
theorem d_SqlReaderModel_checkOne_83 : decode prog_11_method_75_code 83 = .ok (.getfield 146, 3) := by decide +kernel
theorem d_SqlReaderModel_checkOne_86 : decode prog_11_method_75_code 86 = .ok (.aload_n 0, 1) := by decide +kernel
theorem d_SqlReaderModel_checkOne_87 : decode prog_11_method_75_code 87 = .ok (.getfield 100, 3) := by decide +kernel
theorem d_SqlReaderModel_checkOne_90 : decode prog_11_method_75_code 90 = .ok (.iload_n 2, 1) := by decide +kernel
theorem d_SqlReaderModel_checkOne_91 : decode prog_11_method_75_code 91 = .ok (.iaload, 1) := by decide +kernel
theorem d_SqlReaderModel_checkOne_92 : decode prog_11_method_75_code 92 = .ok (.invokevirtual 279, 3) := by decide +kernel
theorem d_SqlReaderModel_checkOne_95 : decode prog_11_method_75_code 95 = .ok (.iastore, 1) := by decide +kernel
theorem d_SqlReaderModel_checkOne_96 : decode prog_11_method_75_code 96 = .ok (.aload_n 0, 1) := by decide +kernel
theorem d_SqlReaderModel_checkOne_97 : decode prog_11_method_75_code 97 = .ok (.getfield 103, 3) := by decide +kernel
theorem d_SqlReaderModel_checkOne_100 : decode prog_11_method_75_code 100 = .ok (.iload_n 2, 1) := by decide +kernel
theorem d_SqlReaderModel_checkOne_101 : decode prog_11_method_75_code 101 = .ok (.iaload, 1) := by decide +kernel
theorem d_SqlReaderModel_checkOne_102 : decode prog_11_method_75_code 102 = .ok (.ifCond .ge 8, 3) := by decide +kernel
theorem d_SqlReaderModel_checkOne_105 : decode prog_11_method_75_code 105 = .ok (.bipush 6, 2) := by decide +kernel
theorem d_SqlReaderModel_checkOne_107 : decode prog_11_method_75_code 107 = .ok (.goto 4, 3) := by decide +kernel
theorem d_SqlReaderModel_checkOne_110 : decode prog_11_method_75_code 110 = .ok (.iconst 0, 1) := by decide +kernel
theorem d_SqlReaderModel_checkOne_111 : decode prog_11_method_75_code 111 = .ok (.ireturn, 1) := by decide +kernel
theorem d_SqlReaderModel_checkOne_112 : decode prog_11_method_75_code 112 = .ok (.aload_n 0, 1) := by decide +kernel
theorem d_SqlReaderModel_checkOne_113 : decode prog_11_method_75_code 113 = .ok (.getfield 69, 3) := by decide +kernel
theorem d_SqlReaderModel_checkOne_116 : decode prog_11_method_75_code 116 = .ok (.iload_n 1, 1) := by decide +kernel
theorem d_SqlReaderModel_checkOne_117 : decode prog_11_method_75_code 117 = .ok (.iaload, 1) := by decide +kernel
theorem d_SqlReaderModel_checkOne_118 : decode prog_11_method_75_code 118 = .ok (.iconst 5, 1) := by decide +kernel
theorem d_SqlReaderModel_checkOne_119 : decode prog_11_method_75_code 119 = .ok (.if_icmp .ne 28, 3) := by decide +kernel
theorem d_SqlReaderModel_checkOne_122 : decode prog_11_method_75_code 122 = .ok (.aload_n 0, 1) := by decide +kernel
theorem d_SqlReaderModel_checkOne_123 : decode prog_11_method_75_code 123 = .ok (.aload_n 0, 1) := by decide +kernel
theorem d_SqlReaderModel_checkOne_124 : decode prog_11_method_75_code 124 = .ok (.aload_n 0, 1) := by decide +kernel
theorem d_SqlReaderModel_checkOne_125 : decode prog_11_method_75_code 125 = .ok (.getfield 106, 3) := by decide +kernel
theorem d_SqlReaderModel_checkOne_128 : decode prog_11_method_75_code 128 = .ok (.iload_n 2, 1) := by decide +kernel
theorem d_SqlReaderModel_checkOne_129 : decode prog_11_method_75_code 129 = .ok (.iaload, 1) := by decide +kernel
theorem d_SqlReaderModel_checkOne_130 : decode prog_11_method_75_code 130 = .ok (.aload_n 0, 1) := by decide +kernel
theorem d_SqlReaderModel_checkOne_131 : decode prog_11_method_75_code 131 = .ok (.aload_n 0, 1) := by decide +kernel
theorem d_SqlReaderModel_checkOne_132 : decode prog_11_method_75_code 132 = .ok (.getfield 103, 3) := by decide +kernel
theorem d_SqlReaderModel_checkOne_135 : decode prog_11_method_75_code 135 = .ok (.iload_n 2, 1) := by decide +kernel
theorem d_SqlReaderModel_checkOne_136 : decode prog_11_method_75_code 136 = .ok (.iaload, 1) := by decide +kernel
theorem d_SqlReaderModel_checkOne_137 : decode prog_11_method_75_code 137 = .ok (.invokevirtual 604, 3) := by decide +kernel
theorem d_SqlReaderModel_checkOne_140 : decode prog_11_method_75_code 140 = .ok (.invokevirtual 601, 3) := by decide +kernel
theorem d_SqlReaderModel_checkOne_143 : decode prog_11_method_75_code 143 = .ok (.invokevirtual 591, 3) := by decide +kernel
theorem d_SqlReaderModel_checkOne_146 : decode prog_11_method_75_code 146 = .ok (.ireturn, 1) := by decide +kernel
theorem d_SqlReaderModel_checkOne_147 : decode prog_11_method_75_code 147 = .ok (.aload_n 0, 1) := by decide +kernel
theorem d_SqlReaderModel_checkOne_148 : decode prog_11_method_75_code 148 = .ok (.getfield 69, 3) := by decide +kernel
theorem d_SqlReaderModel_checkOne_151 : decode prog_11_method_75_code 151 = .ok (.iload_n 1, 1) := by decide +kernel
theorem d_SqlReaderModel_checkOne_152 : decode prog_11_method_75_code 152 = .ok (.iaload, 1) := by decide +kernel
theorem d_SqlReaderModel_checkOne_153 : decode prog_11_method_75_code 153 = .ok (.bipush 6, 2) := by decide +kernel
theorem d_SqlReaderModel_checkOne_155 : decode prog_11_method_75_code 155 = .ok (.if_icmp .ne 31, 3) := by decide +kernel
theorem d_SqlReaderModel_checkOne_158 : decode prog_11_method_75_code 158 = .ok (.aload_n 0, 1) := by decide +kernel
theorem d_SqlReaderModel_checkOne_159 : decode prog_11_method_75_code 159 = .ok (.invokevirtual 607, 3) := by decide +kernel
theorem d_SqlReaderModel_checkOne_162 : decode prog_11_method_75_code 162 = .ok (.iconst 5, 1) := by decide +kernel
theorem d_SqlReaderModel_checkOne_163 : decode prog_11_method_75_code 163 = .ok (.if_icmp .ne 15, 3) := by decide +kernel
theorem d_SqlReaderModel_checkOne_166 : decode prog_11_method_75_code 166 = .ok (.aload_n 0, 1) := by decide +kernel
theorem d_SqlReaderModel_checkOne_167 : decode prog_11_method_75_code 167 = .ok (.iload_n 2, 1) := by decide +kernel
theorem d_SqlReaderModel_checkOne_168 : decode prog_11_method_75_code 168 = .ok (.aload_n 0, 1) := by decide +kernel
theorem d_SqlReaderModel_checkOne_169 : decode prog_11_method_75_code 169 = .ok (.getfield 75, 3) := by decide +kernel
theorem d_SqlReaderModel_checkOne_172 : decode prog_11_method_75_code 172 = .ok (.iload_n 1, 1) := by decide +kernel
theorem d_SqlReaderModel_checkOne_173 : decode prog_11_method_75_code 173 = .ok (.iaload, 1) := by decide +kernel
theorem d_SqlReaderModel_checkOne_174 : decode prog_11_method_75_code 174 = .ok (.invokevirtual 613, 3) := by decide +kernel
theorem d_SqlReaderModel_checkOne_177 : decode prog_11_method_75_code 177 = .ok (.ireturn, 1) := by decide +kernel
theorem d_SqlReaderModel_checkOne_178 : decode prog_11_method_75_code 178 = .ok (.aload_n 0, 1) := by decide +kernel
theorem d_SqlReaderModel_checkOne_179 : decode prog_11_method_75_code 179 = .ok (.iload_n 2, 1) := by decide +kernel
theorem d_SqlReaderModel_checkOne_180 : decode prog_11_method_75_code 180 = .ok (.iconst 2, 1) := by decide +kernel
theorem d_SqlReaderModel_checkOne_181 : decode prog_11_method_75_code 181 = .ok (.invokevirtual 588, 3) := by decide +kernel
theorem d_SqlReaderModel_checkOne_184 : decode prog_11_method_75_code 184 = .ok (.iconst 0, 1) := by decide +kernel
theorem d_SqlReaderModel_checkOne_185 : decode prog_11_method_75_code 185 = .ok (.ireturn, 1) := by decide +kernel
theorem d_SqlReaderModel_checkOne_186 : decode prog_11_method_75_code 186 = .ok (.aload_n 0, 1) := by decide +kernel
theorem d_SqlReaderModel_checkOne_187 : decode prog_11_method_75_code 187 = .ok (.getfield 69, 3) := by decide +kernel
theorem d_SqlReaderModel_checkOne_190 : decode prog_11_method_75_code 190 = .ok (.iload_n 1, 1) := by decide +kernel
theorem d_SqlReaderModel_checkOne_191 : decode prog_11_method_75_code 191 = .ok (.iaload, 1) := by decide +kernel
theorem d_SqlReaderModel_checkOne_192 : decode prog_11_method_75_code 192 = .ok (.bipush 7, 2) := by decide +kernel
theorem d_SqlReaderModel_checkOne_194 : decode prog_11_method_75_code 194 = .ok (.if_icmp .ne 8, 3) := by decide +kernel
theorem d_SqlReaderModel_checkOne_197 : decode prog_11_method_75_code 197 = .ok (.aload_n 0, 1) := by decide +kernel
theorem d_SqlReaderModel_checkOne_198 : decode prog_11_method_75_code 198 = .ok (.invokevirtual 616, 3) := by decide +kernel
theorem d_SqlReaderModel_checkOne_201 : decode prog_11_method_75_code 201 = .ok (.ireturn, 1) := by decide +kernel
theorem d_SqlReaderModel_checkOne_202 : decode prog_11_method_75_code 202 = .ok (.aload_n 0, 1) := by decide +kernel
theorem d_SqlReaderModel_checkOne_203 : decode prog_11_method_75_code 203 = .ok (.getfield 69, 3) := by decide +kernel
theorem d_SqlReaderModel_checkOne_206 : decode prog_11_method_75_code 206 = .ok (.iload_n 1, 1) := by decide +kernel
theorem d_SqlReaderModel_checkOne_207 : decode prog_11_method_75_code 207 = .ok (.iaload, 1) := by decide +kernel
theorem d_SqlReaderModel_checkOne_208 : decode prog_11_method_75_code 208 = .ok (.bipush 9, 2) := by decide +kernel
theorem d_SqlReaderModel_checkOne_210 : decode prog_11_method_75_code 210 = .ok (.if_icmp .ne 33, 3) := by decide +kernel
theorem d_SqlReaderModel_checkOne_213 : decode prog_11_method_75_code 213 = .ok (.aload_n 0, 1) := by decide +kernel
theorem d_SqlReaderModel_checkOne_214 : decode prog_11_method_75_code 214 = .ok (.aload_n 0, 1) := by decide +kernel
theorem d_SqlReaderModel_checkOne_215 : decode prog_11_method_75_code 215 = .ok (.aload_n 0, 1) := by decide +kernel
theorem d_SqlReaderModel_checkOne_216 : decode prog_11_method_75_code 216 = .ok (.getfield 146, 3) := by decide +kernel
theorem d_SqlReaderModel_checkOne_219 : decode prog_11_method_75_code 219 = .ok (.aload_n 0, 1) := by decide +kernel
theorem d_SqlReaderModel_checkOne_220 : decode prog_11_method_75_code 220 = .ok (.getfield 204, 3) := by decide +kernel
theorem d_SqlReaderModel_checkOne_223 : decode prog_11_method_75_code 223 = .ok (.invokevirtual 279, 3) := by decide +kernel
theorem d_SqlReaderModel_checkOne_226 : decode prog_11_method_75_code 226 = .ok (.putfield 201, 3) := by decide +kernel
theorem d_SqlReaderModel_checkOne_229 : decode prog_11_method_75_code 229 = .ok (.aload_n 0, 1) := by decide +kernel
theorem d_SqlReaderModel_checkOne_230 : decode prog_11_method_75_code 230 = .ok (.getfield 201, 3) := by decide +kernel
theorem d_SqlReaderModel_checkOne_233 : decode prog_11_method_75_code 233 = .ok (.ifCond .ge 8, 3) := by decide +kernel
theorem d_SqlReaderModel_checkOne_236 : decode prog_11_method_75_code 236 = .ok (.bipush 6, 2) := by decide +kernel
theorem d_SqlReaderModel_checkOne_238 : decode prog_11_method_75_code 238 = .ok (.goto 4, 3) := by decide +kernel
theorem d_SqlReaderModel_checkOne_241 : decode prog_11_method_75_code 241 = .ok (.iconst 0, 1) := by decide +kernel
theorem d_SqlReaderModel_checkOne_242 : decode prog_11_method_75_code 242 = .ok (.ireturn, 1) := by decide +kernel
theorem d_SqlReaderModel_checkOne_243 : decode prog_11_method_75_code 243 = .ok (.aload_n 0, 1) := by decide +kernel
theorem d_SqlReaderModel_checkOne_244 : decode prog_11_method_75_code 244 = .ok (.aload_n 0, 1) := by decide +kernel
theorem d_SqlReaderModel_checkOne_245 : decode prog_11_method_75_code 245 = .ok (.getfield 192, 3) := by decide +kernel
theorem d_SqlReaderModel_checkOne_248 : decode prog_11_method_75_code 248 = .ok (.ifCond .ne 16, 3) := by decide +kernel
theorem d_SqlReaderModel_checkOne_251 : decode prog_11_method_75_code 251 = .ok (.iload_n 2, 1) := by decide +kernel
theorem d_SqlReaderModel_checkOne_252 : decode prog_11_method_75_code 252 = .ok (.aload_n 0, 1) := by decide +kernel
theorem d_SqlReaderModel_checkOne_253 : decode prog_11_method_75_code 253 = .ok (.getfield 29, 3) := by decide +kernel
theorem d_SqlReaderModel_checkOne_256 : decode prog_11_method_75_code 256 = .ok (.aload_n 0, 1) := by decide +kernel
theorem d_SqlReaderModel_checkOne_257 : decode prog_11_method_75_code 257 = .ok (.getfield 146, 3) := by decide +kernel
theorem d_SqlReaderModel_checkOne_260 : decode prog_11_method_75_code 260 = .ok (.iaload, 1) := by decide +kernel
theorem d_SqlReaderModel_checkOne_261 : decode prog_11_method_75_code 261 = .ok (.if_icmp .eq 7, 3) := by decide +kernel
theorem d_SqlReaderModel_checkOne_264 : decode prog_11_method_75_code 264 = .ok (.iconst 1, 1) := by decide +kernel
theorem d_SqlReaderModel_checkOne_265 : decode prog_11_method_75_code 265 = .ok (.goto 4, 3) := by decide +kernel
theorem d_SqlReaderModel_checkOne_268 : decode prog_11_method_75_code 268 = .ok (.iconst 0, 1) := by decide +kernel
theorem d_SqlReaderModel_checkOne_269 : decode prog_11_method_75_code 269 = .ok (.putfield 192, 3) := by decide +kernel
theorem d_SqlReaderModel_checkOne_272 : decode prog_11_method_75_code 272 = .ok (.iconst 0, 1) := by decide +kernel
theorem d_SqlReaderModel_checkOne_273 : decode prog_11_method_75_code 273 = .ok (.ireturn, 1) := by decide +kernel
theorem d_SqlReaderModel_checkStar_0 : decode prog_11_method_74_code 0 = .ok (.iconst 0, 1) := by decide +kernel
theorem d_SqlReaderModel_checkStar_1 : decode prog_11_method_74_code 1 = .ok (.istore_n 1, 1) := by decide +kernel
theorem d_SqlReaderModel_checkStar_2 : decode prog_11_method_74_code 2 = .ok (.iconst 0, 1) := by decide +kernel
theorem d_SqlReaderModel_checkStar_3 : decode prog_11_method_74_code 3 = .ok (.istore_n 2, 1) := by decide +kernel
theorem d_SqlReaderModel_checkStar_4 : decode prog_11_method_74_code 4 = .ok (.iload_n 2, 1) := by decide +kernel
theorem d_SqlReaderModel_checkStar_5 : decode prog_11_method_74_code 5 = .ok (.aload_n 0, 1) := by decide +kernel
theorem d_SqlReaderModel_checkStar_6 : decode prog_11_method_74_code 6 = .ok (.getfield 183, 3) := by decide +kernel
theorem d_SqlReaderModel_checkStar_9 : decode prog_11_method_74_code 9 = .ok (.if_icmp .ge 83, 3) := by decide +kernel
theorem d_SqlReaderModel_checkStar_12 : decode prog_11_method_74_code 12 = .ok (.aload_n 0, 1) := by decide +kernel
theorem d_SqlReaderModel_checkStar_13 : decode prog_11_method_74_code 13 = .ok (.invokevirtual 607, 3) := by decide +kernel
theorem d_SqlReaderModel_checkStar_16 : decode prog_11_method_74_code 16 = .ok (.iconst 5, 1) := by decide +kernel
theorem d_SqlReaderModel_checkStar_17 : decode prog_11_method_74_code 17 = .ok (.if_icmp .ne 75, 3) := by decide +kernel
theorem d_SqlReaderModel_checkStar_20 : decode prog_11_method_74_code 20 = .ok (.iconst 0, 1) := by decide +kernel
theorem d_SqlReaderModel_checkStar_21 : decode prog_11_method_74_code 21 = .ok (.istore_n 3, 1) := by decide +kernel
theorem d_SqlReaderModel_checkStar_22 : decode prog_11_method_74_code 22 = .ok (.iload_n 3, 1) := by decide +kernel
theorem d_SqlReaderModel_checkStar_23 : decode prog_11_method_74_code 23 = .ok (.aload_n 0, 1) := by decide +kernel
theorem d_SqlReaderModel_checkStar_24 : decode prog_11_method_74_code 24 = .ok (.getfield 29, 3) := by decide +kernel
theorem d_SqlReaderModel_checkStar_27 : decode prog_11_method_74_code 27 = .ok (.aload_n 0, 1) := by decide +kernel
theorem d_SqlReaderModel_checkStar_28 : decode prog_11_method_74_code 28 = .ok (.getfield 91, 3) := by decide +kernel
theorem d_SqlReaderModel_checkStar_31 : decode prog_11_method_74_code 31 = .ok (.iload_n 2, 1) := by decide +kernel
theorem d_SqlReaderModel_checkStar_32 : decode prog_11_method_74_code 32 = .ok (.iaload, 1) := by decide +kernel
theorem d_SqlReaderModel_checkStar_33 : decode prog_11_method_74_code 33 = .ok (.iaload, 1) := by decide +kernel
theorem d_SqlReaderModel_checkStar_34 : decode prog_11_method_74_code 34 = .ok (.if_icmp .ge 52, 3) := by decide +kernel
theorem d_SqlReaderModel_checkStar_37 : decode prog_11_method_74_code 37 = .ok (.iload_n 1, 1) := by decide +kernel
theorem d_SqlReaderModel_checkStar_38 : decode prog_11_method_74_code 38 = .ok (.aload_n 0, 1) := by decide +kernel
theorem d_SqlReaderModel_checkStar_39 : decode prog_11_method_74_code 39 = .ok (.getfield 29, 3) := by decide +kernel
theorem d_SqlReaderModel_checkStar_42 : decode prog_11_method_74_code 42 = .ok (.aload_n 0, 1) := by decide +kernel
theorem d_SqlReaderModel_checkStar_43 : decode prog_11_method_74_code 43 = .ok (.getfield 146, 3) := by decide +kernel
theorem d_SqlReaderModel_checkStar_46 : decode prog_11_method_74_code 46 = .ok (.iaload, 1) := by decide +kernel
theorem d_SqlReaderModel_checkStar_47 : decode prog_11_method_74_code 47 = .ok (.if_icmp .ge 30, 3) := by decide +kernel
theorem d_SqlReaderModel_checkStar_50 : decode prog_11_method_74_code 50 = .ok (.aload_n 0, 1) := by decide +kernel
theorem d_SqlReaderModel_checkStar_51 : decode prog_11_method_74_code 51 = .ok (.getfield 38, 3) := by decide +kernel
theorem d_SqlReaderModel_checkStar_54 : decode prog_11_method_74_code 54 = .ok (.bipush 8, 2) := by decide +kernel
theorem d_SqlReaderModel_checkStar_56 : decode prog_11_method_74_code 56 = .ok (.aload_n 0, 1) := by decide +kernel
theorem d_SqlReaderModel_checkStar_57 : decode prog_11_method_74_code 57 = .ok (.getfield 91, 3) := by decide +kernel
theorem d_SqlReaderModel_checkStar_60 : decode prog_11_method_74_code 60 = .ok (.iload_n 2, 1) := by decide +kernel
theorem d_SqlReaderModel_checkStar_61 : decode prog_11_method_74_code 61 = .ok (.iaload, 1) := by decide +kernel
theorem d_SqlReaderModel_checkStar_62 : decode prog_11_method_74_code 62 = .ok (.imul, 1) := by decide +kernel
theorem d_SqlReaderModel_checkStar_63 : decode prog_11_method_74_code 63 = .ok (.iload_n 3, 1) := by decide +kernel
theorem d_SqlReaderModel_checkStar_64 : decode prog_11_method_74_code 64 = .ok (.iadd, 1) := by decide +kernel
theorem d_SqlReaderModel_checkStar_65 : decode prog_11_method_74_code 65 = .ok (.iaload, 1) := by decide +kernel
theorem d_SqlReaderModel_checkStar_66 : decode prog_11_method_74_code 66 = .ok (.aload_n 0, 1) := by decide +kernel
theorem d_SqlReaderModel_checkStar_67 : decode prog_11_method_74_code 67 = .ok (.iload_n 1, 1) := by decide +kernel
theorem d_SqlReaderModel_checkStar_68 : decode prog_11_method_74_code 68 = .ok (.invokevirtual 604, 3) := by decide +kernel
theorem d_SqlReaderModel_checkStar_71 : decode prog_11_method_74_code 71 = .ok (.if_icmp .eq 6, 3) := by decide +kernel
theorem d_SqlReaderModel_checkStar_74 : decode prog_11_method_74_code 74 = .ok (.bipush 8, 2) := by decide +kernel
theorem d_SqlReaderModel_checkStar_76 : decode prog_11_method_74_code 76 = .ok (.ireturn, 1) := by decide +kernel
theorem d_SqlReaderModel_checkStar_77 : decode prog_11_method_74_code 77 = .ok (.iinc 1 1, 3) := by decide +kernel
theorem d_SqlReaderModel_checkStar_80 : decode prog_11_method_74_code 80 = .ok (.iinc 3 1, 3) := by decide +kernel
theorem d_SqlReaderModel_checkStar_83 : decode prog_11_method_74_code 83 = .ok (.goto (-61), 3) := by decide +kernel
theorem d_SqlReaderModel_checkStar_86 : decode prog_11_method_74_code 86 = .ok (.iinc 2 1, 3) := by decide +kernel
theorem d_SqlReaderModel_checkStar_89 : decode prog_11_method_74_code 89 = .ok (.goto (-85), 3) := by decide +kernel
theorem d_SqlReaderModel_checkStar_92 : decode prog_11_method_74_code 92 = .ok (.iconst 0, 1) := by decide +kernel
theorem d_SqlReaderModel_checkStar_93 : decode prog_11_method_74_code 93 = .ok (.ireturn, 1) := by decide +kernel
theorem d_SqlReaderModel_checkTables_0 : decode prog_11_method_76_code 0 = .ok (.aload_n 0, 1) := by decide +kernel
theorem d_SqlReaderModel_checkTables_1 : decode prog_11_method_76_code 1 = .ok (.getfield 149, 3) := by decide +kernel
theorem d_SqlReaderModel_checkTables_4 : decode prog_11_method_76_code 4 = .ok (.ifCond .lt 24, 3) := by decide +kernel
theorem d_SqlReaderModel_checkTables_7 : decode prog_11_method_76_code 7 = .ok (.aload_n 0, 1) := by decide +kernel
theorem d_SqlReaderModel_checkTables_8 : decode prog_11_method_76_code 8 = .ok (.aload_n 0, 1) := by decide +kernel
theorem d_SqlReaderModel_checkTables_9 : decode prog_11_method_76_code 9 = .ok (.aload_n 0, 1) := by decide +kernel
theorem d_SqlReaderModel_checkTables_10 : decode prog_11_method_76_code 10 = .ok (.getfield 149, 3) := by decide +kernel
theorem d_SqlReaderModel_checkTables_13 : decode prog_11_method_76_code 13 = .ok (.invokevirtual 276, 3) := by decide +kernel
theorem d_SqlReaderModel_checkTables_16 : decode prog_11_method_76_code 16 = .ok (.putfield 146, 3) := by decide +kernel
theorem d_SqlReaderModel_checkTables_19 : decode prog_11_method_76_code 19 = .ok (.aload_n 0, 1) := by decide +kernel
theorem d_SqlReaderModel_checkTables_20 : decode prog_11_method_76_code 20 = .ok (.getfield 146, 3) := by decide +kernel
theorem d_SqlReaderModel_checkTables_23 : decode prog_11_method_76_code 23 = .ok (.ifCond .ge 5, 3) := by decide +kernel
theorem d_SqlReaderModel_checkTables_26 : decode prog_11_method_76_code 26 = .ok (.iconst 4, 1) := by decide +kernel
theorem d_SqlReaderModel_checkTables_27 : decode prog_11_method_76_code 27 = .ok (.ireturn, 1) := by decide +kernel
theorem d_SqlReaderModel_checkTables_28 : decode prog_11_method_76_code 28 = .ok (.iconst 0, 1) := by decide +kernel
theorem d_SqlReaderModel_checkTables_29 : decode prog_11_method_76_code 29 = .ok (.istore_n 1, 1) := by decide +kernel
theorem d_SqlReaderModel_checkTables_30 : decode prog_11_method_76_code 30 = .ok (.iload_n 1, 1) := by decide +kernel
theorem d_SqlReaderModel_checkTables_31 : decode prog_11_method_76_code 31 = .ok (.aload_n 0, 1) := by decide +kernel
theorem d_SqlReaderModel_checkTables_32 : decode prog_11_method_76_code 32 = .ok (.getfield 183, 3) := by decide +kernel
theorem d_SqlReaderModel_checkTables_35 : decode prog_11_method_76_code 35 = .ok (.if_icmp .ge 70, 3) := by decide +kernel
theorem d_SqlReaderModel_checkTables_38 : decode prog_11_method_76_code 38 = .ok (.aload_n 0, 1) := by decide +kernel
theorem d_SqlReaderModel_checkTables_39 : decode prog_11_method_76_code 39 = .ok (.getfield 91, 3) := by decide +kernel
theorem d_SqlReaderModel_checkTables_42 : decode prog_11_method_76_code 42 = .ok (.iload_n 1, 1) := by decide +kernel
theorem d_SqlReaderModel_checkTables_43 : decode prog_11_method_76_code 43 = .ok (.aload_n 0, 1) := by decide +kernel
theorem d_SqlReaderModel_checkTables_44 : decode prog_11_method_76_code 44 = .ok (.aload_n 0, 1) := by decide +kernel
theorem d_SqlReaderModel_checkTables_45 : decode prog_11_method_76_code 45 = .ok (.getfield 94, 3) := by decide +kernel
theorem d_SqlReaderModel_checkTables_48 : decode prog_11_method_76_code 48 = .ok (.iload_n 1, 1) := by decide +kernel
theorem d_SqlReaderModel_checkTables_49 : decode prog_11_method_76_code 49 = .ok (.iaload, 1) := by decide +kernel
theorem d_SqlReaderModel_checkTables_50 : decode prog_11_method_76_code 50 = .ok (.invokevirtual 276, 3) := by decide +kernel
theorem d_SqlReaderModel_checkTables_53 : decode prog_11_method_76_code 53 = .ok (.iastore, 1) := by decide +kernel
theorem d_SqlReaderModel_checkTables_54 : decode prog_11_method_76_code 54 = .ok (.aload_n 0, 1) := by decide +kernel
theorem d_SqlReaderModel_checkTables_55 : decode prog_11_method_76_code 55 = .ok (.getfield 91, 3) := by decide +kernel
theorem d_SqlReaderModel_checkTables_58 : decode prog_11_method_76_code 58 = .ok (.iload_n 1, 1) := by decide +kernel
theorem d_SqlReaderModel_checkTables_59 : decode prog_11_method_76_code 59 = .ok (.iaload, 1) := by decide +kernel
theorem d_SqlReaderModel_checkTables_60 : decode prog_11_method_76_code 60 = .ok (.ifCond .ge 5, 3) := by decide +kernel
theorem d_SqlReaderModel_checkTables_63 : decode prog_11_method_76_code 63 = .ok (.iconst 4, 1) := by decide +kernel
theorem d_SqlReaderModel_checkTables_64 : decode prog_11_method_76_code 64 = .ok (.ireturn, 1) := by decide +kernel
theorem d_SqlReaderModel_checkTables_65 : decode prog_11_method_76_code 65 = .ok (.iconst 0, 1) := by decide +kernel
theorem d_SqlReaderModel_checkTables_66 : decode prog_11_method_76_code 66 = .ok (.istore_n 2, 1) := by decide +kernel
theorem d_SqlReaderModel_checkTables_67 : decode prog_11_method_76_code 67 = .ok (.iload_n 2, 1) := by decide +kernel
theorem d_SqlReaderModel_checkTables_68 : decode prog_11_method_76_code 68 = .ok (.iload_n 1, 1) := by decide +kernel
theorem d_SqlReaderModel_checkTables_69 : decode prog_11_method_76_code 69 = .ok (.if_icmp .ge 30, 3) := by decide +kernel
theorem d_SqlReaderModel_checkTables_72 : decode prog_11_method_76_code 72 = .ok (.aload_n 0, 1) := by decide +kernel
theorem d_SqlReaderModel_checkTables_73 : decode prog_11_method_76_code 73 = .ok (.aload_n 0, 1) := by decide +kernel
theorem d_SqlReaderModel_checkTables_74 : decode prog_11_method_76_code 74 = .ok (.getfield 97, 3) := by decide +kernel
theorem d_SqlReaderModel_checkTables_77 : decode prog_11_method_76_code 77 = .ok (.iload_n 2, 1) := by decide +kernel
theorem d_SqlReaderModel_checkTables_78 : decode prog_11_method_76_code 78 = .ok (.iaload, 1) := by decide +kernel
theorem d_SqlReaderModel_checkTables_79 : decode prog_11_method_76_code 79 = .ok (.aload_n 0, 1) := by decide +kernel
theorem d_SqlReaderModel_checkTables_80 : decode prog_11_method_76_code 80 = .ok (.getfield 97, 3) := by decide +kernel
theorem d_SqlReaderModel_checkTables_83 : decode prog_11_method_76_code 83 = .ok (.iload_n 1, 1) := by decide +kernel
theorem d_SqlReaderModel_checkTables_84 : decode prog_11_method_76_code 84 = .ok (.iaload, 1) := by decide +kernel
theorem d_SqlReaderModel_checkTables_85 : decode prog_11_method_76_code 85 = .ok (.invokevirtual 585, 3) := by decide +kernel
theorem d_SqlReaderModel_checkTables_88 : decode prog_11_method_76_code 88 = .ok (.ifCond .eq 5, 3) := by decide +kernel
theorem d_SqlReaderModel_checkTables_91 : decode prog_11_method_76_code 91 = .ok (.iconst 5, 1) := by decide +kernel
theorem d_SqlReaderModel_checkTables_92 : decode prog_11_method_76_code 92 = .ok (.ireturn, 1) := by decide +kernel
theorem d_SqlReaderModel_checkTables_93 : decode prog_11_method_76_code 93 = .ok (.iinc 2 1, 3) := by decide +kernel
theorem d_SqlReaderModel_checkTables_96 : decode prog_11_method_76_code 96 = .ok (.goto (-29), 3) := by decide +kernel
theorem d_SqlReaderModel_checkTables_99 : decode prog_11_method_76_code 99 = .ok (.iinc 1 1, 3) := by decide +kernel
theorem d_SqlReaderModel_checkTables_102 : decode prog_11_method_76_code 102 = .ok (.goto (-72), 3) := by decide +kernel
theorem d_SqlReaderModel_checkTables_105 : decode prog_11_method_76_code 105 = .ok (.iconst 0, 1) := by decide +kernel
theorem d_SqlReaderModel_checkTables_106 : decode prog_11_method_76_code 106 = .ok (.ireturn, 1) := by decide +kernel
theorem d_SqlReaderModel_checkValue_0 : decode prog_11_method_73_code 0 = .ok (.iload_n 2, 1) := by decide +kernel
theorem d_SqlReaderModel_checkValue_1 : decode prog_11_method_73_code 1 = .ok (.aload_n 0, 1) := by decide +kernel
theorem d_SqlReaderModel_checkValue_2 : decode prog_11_method_73_code 2 = .ok (.getfield 29, 3) := by decide +kernel
theorem d_SqlReaderModel_checkValue_5 : decode prog_11_method_73_code 5 = .ok (.aload_n 0, 1) := by decide +kernel
theorem d_SqlReaderModel_checkValue_6 : decode prog_11_method_73_code 6 = .ok (.getfield 146, 3) := by decide +kernel
theorem d_SqlReaderModel_checkValue_9 : decode prog_11_method_73_code 9 = .ok (.iaload, 1) := by decide +kernel
theorem d_SqlReaderModel_checkValue_10 : decode prog_11_method_73_code 10 = .ok (.if_icmp .lt 11, 3) := by decide +kernel
theorem d_SqlReaderModel_checkValue_13 : decode prog_11_method_73_code 13 = .ok (.aload_n 0, 1) := by decide +kernel
theorem d_SqlReaderModel_checkValue_14 : decode prog_11_method_73_code 14 = .ok (.iload_n 1, 1) := by decide +kernel
theorem d_SqlReaderModel_checkValue_15 : decode prog_11_method_73_code 15 = .ok (.iconst 2, 1) := by decide +kernel
theorem d_SqlReaderModel_checkValue_16 : decode prog_11_method_73_code 16 = .ok (.invokevirtual 588, 3) := by decide +kernel
theorem d_SqlReaderModel_checkValue_19 : decode prog_11_method_73_code 19 = .ok (.iconst 0, 1) := by decide +kernel
theorem d_SqlReaderModel_checkValue_20 : decode prog_11_method_73_code 20 = .ok (.ireturn, 1) := by decide +kernel
theorem d_SqlReaderModel_checkValue_21 : decode prog_11_method_73_code 21 = .ok (.aload_n 0, 1) := by decide +kernel
theorem d_SqlReaderModel_checkValue_22 : decode prog_11_method_73_code 22 = .ok (.aload_n 0, 1) := by decide +kernel
theorem d_SqlReaderModel_checkValue_23 : decode prog_11_method_73_code 23 = .ok (.iload_n 1, 1) := by decide +kernel
theorem d_SqlReaderModel_checkValue_24 : decode prog_11_method_73_code 24 = .ok (.aload_n 0, 1) := by decide +kernel
theorem d_SqlReaderModel_checkValue_25 : decode prog_11_method_73_code 25 = .ok (.iload_n 2, 1) := by decide +kernel
theorem d_SqlReaderModel_checkValue_26 : decode prog_11_method_73_code 26 = .ok (.invokevirtual 604, 3) := by decide +kernel
theorem d_SqlReaderModel_checkValue_29 : decode prog_11_method_73_code 29 = .ok (.invokevirtual 601, 3) := by decide +kernel
theorem d_SqlReaderModel_checkValue_32 : decode prog_11_method_73_code 32 = .ok (.invokevirtual 591, 3) := by decide +kernel
theorem d_SqlReaderModel_checkValue_35 : decode prog_11_method_73_code 35 = .ok (.ireturn, 1) := by decide +kernel
theorem d_SqlReaderModel_closing_0 : decode prog_11_method_37_code 0 = .ok (.iconst 0, 1) := by decide +kernel
theorem d_SqlReaderModel_closing_1 : decode prog_11_method_37_code 1 = .ok (.istore_n 3, 1) := by decide +kernel
theorem d_SqlReaderModel_closing_2 : decode prog_11_method_37_code 2 = .ok (.iload_n 1, 1) := by decide +kernel
theorem d_SqlReaderModel_closing_3 : decode prog_11_method_37_code 3 = .ok (.istore 4, 2) := by decide +kernel
theorem d_SqlReaderModel_closing_5 : decode prog_11_method_37_code 5 = .ok (.iload 4, 2) := by decide +kernel
theorem d_SqlReaderModel_closing_7 : decode prog_11_method_37_code 7 = .ok (.iload_n 2, 1) := by decide +kernel
theorem d_SqlReaderModel_closing_8 : decode prog_11_method_37_code 8 = .ok (.if_icmp .ge 25, 3) := by decide +kernel
theorem d_SqlReaderModel_closing_11 : decode prog_11_method_37_code 11 = .ok (.iload_n 3, 1) := by decide +kernel
theorem d_SqlReaderModel_closing_12 : decode prog_11_method_37_code 12 = .ok (.aload_n 0, 1) := by decide +kernel
theorem d_SqlReaderModel_closing_13 : decode prog_11_method_37_code 13 = .ok (.iload 4, 2) := by decide +kernel
theorem d_SqlReaderModel_closing_15 : decode prog_11_method_37_code 15 = .ok (.invokevirtual 334, 3) := by decide +kernel
theorem d_SqlReaderModel_closing_18 : decode prog_11_method_37_code 18 = .ok (.iadd, 1) := by decide +kernel
theorem d_SqlReaderModel_closing_19 : decode prog_11_method_37_code 19 = .ok (.istore_n 3, 1) := by decide +kernel
theorem d_SqlReaderModel_closing_20 : decode prog_11_method_37_code 20 = .ok (.iload_n 3, 1) := by decide +kernel
theorem d_SqlReaderModel_closing_21 : decode prog_11_method_37_code 21 = .ok (.ifCond .ne 6, 3) := by decide +kernel
theorem d_SqlReaderModel_closing_24 : decode prog_11_method_37_code 24 = .ok (.iload 4, 2) := by decide +kernel
theorem d_SqlReaderModel_closing_26 : decode prog_11_method_37_code 26 = .ok (.ireturn, 1) := by decide +kernel
theorem d_SqlReaderModel_closing_27 : decode prog_11_method_37_code 27 = .ok (.iinc 4 1, 3) := by decide +kernel
theorem d_SqlReaderModel_closing_30 : decode prog_11_method_37_code 30 = .ok (.goto (-25), 3) := by decide +kernel
theorem d_SqlReaderModel_closing_33 : decode prog_11_method_37_code 33 = .ok (.iconst (-1), 1) := by decide +kernel
theorem d_SqlReaderModel_closing_34 : decode prog_11_method_37_code 34 = .ok (.ireturn, 1) := by decide +kernel
theorem d_SqlReaderModel_column_0 : decode prog_11_method_22_code 0 = .ok (.aload_n 0, 1) := by decide +kernel
theorem d_SqlReaderModel_column_1 : decode prog_11_method_22_code 1 = .ok (.invokevirtual 272, 3) := by decide +kernel
theorem d_SqlReaderModel_column_4 : decode prog_11_method_22_code 4 = .ok (.istore_n 3, 1) := by decide +kernel
theorem d_SqlReaderModel_column_5 : decode prog_11_method_22_code 5 = .ok (.iload_n 3, 1) := by decide +kernel
theorem d_SqlReaderModel_column_6 : decode prog_11_method_22_code 6 = .ok (.ifCond .eq 36, 3) := by decide +kernel
theorem d_SqlReaderModel_column_9 : decode prog_11_method_22_code 9 = .ok (.iload_n 1, 1) := by decide +kernel
theorem d_SqlReaderModel_column_10 : decode prog_11_method_22_code 10 = .ok (.ifCond .lt 32, 3) := by decide +kernel
theorem d_SqlReaderModel_column_13 : decode prog_11_method_22_code 13 = .ok (.iload_n 1, 1) := by decide +kernel
theorem d_SqlReaderModel_column_14 : decode prog_11_method_22_code 14 = .ok (.aload_n 0, 1) := by decide +kernel
theorem d_SqlReaderModel_column_15 : decode prog_11_method_22_code 15 = .ok (.getfield 265, 3) := by decide +kernel
theorem d_SqlReaderModel_column_18 : decode prog_11_method_22_code 18 = .ok (.if_icmp .ge 24, 3) := by decide +kernel
theorem d_SqlReaderModel_column_21 : decode prog_11_method_22_code 21 = .ok (.aload_n 0, 1) := by decide +kernel
theorem d_SqlReaderModel_column_22 : decode prog_11_method_22_code 22 = .ok (.getfield 29, 3) := by decide +kernel
theorem d_SqlReaderModel_column_25 : decode prog_11_method_22_code 25 = .ok (.iload_n 1, 1) := by decide +kernel
theorem d_SqlReaderModel_column_26 : decode prog_11_method_22_code 26 = .ok (.iaload, 1) := by decide +kernel
theorem d_SqlReaderModel_column_27 : decode prog_11_method_22_code 27 = .ok (.bipush 8, 2) := by decide +kernel
theorem d_SqlReaderModel_column_29 : decode prog_11_method_22_code 29 = .ok (.if_icmp .eq 13, 3) := by decide +kernel
theorem d_SqlReaderModel_column_32 : decode prog_11_method_22_code 32 = .ok (.iload_n 2, 1) := by decide +kernel
theorem d_SqlReaderModel_column_33 : decode prog_11_method_22_code 33 = .ok (.iconst 1, 1) := by decide +kernel
theorem d_SqlReaderModel_column_34 : decode prog_11_method_22_code 34 = .ok (.if_icmp .lt 8, 3) := by decide +kernel
theorem d_SqlReaderModel_column_37 : decode prog_11_method_22_code 37 = .ok (.iload_n 2, 1) := by decide +kernel
theorem d_SqlReaderModel_column_38 : decode prog_11_method_22_code 38 = .ok (.iconst 3, 1) := by decide +kernel
theorem d_SqlReaderModel_column_39 : decode prog_11_method_22_code 39 = .ok (.if_icmp .le 5, 3) := by decide +kernel
theorem d_SqlReaderModel_column_42 : decode prog_11_method_22_code 42 = .ok (.iconst (-1), 1) := by decide +kernel
theorem d_SqlReaderModel_column_43 : decode prog_11_method_22_code 43 = .ok (.ireturn, 1) := by decide +kernel
theorem d_SqlReaderModel_column_44 : decode prog_11_method_22_code 44 = .ok (.aload_n 0, 1) := by decide +kernel
theorem d_SqlReaderModel_column_45 : decode prog_11_method_22_code 45 = .ok (.iload_n 1, 1) := by decide +kernel
theorem d_SqlReaderModel_column_46 : decode prog_11_method_22_code 46 = .ok (.iconst 0, 1) := by decide +kernel
theorem d_SqlReaderModel_column_47 : decode prog_11_method_22_code 47 = .ok (.invokevirtual 279, 3) := by decide +kernel
theorem d_SqlReaderModel_column_50 : decode prog_11_method_22_code 50 = .ok (.ifCond .lt 6, 3) := by decide +kernel
theorem d_SqlReaderModel_column_53 : decode prog_11_method_22_code 53 = .ok (.bipush (-2), 2) := by decide +kernel
theorem d_SqlReaderModel_column_55 : decode prog_11_method_22_code 55 = .ok (.ireturn, 1) := by decide +kernel
theorem d_SqlReaderModel_column_56 : decode prog_11_method_22_code 56 = .ok (.bipush 8, 2) := by decide +kernel
theorem d_SqlReaderModel_column_58 : decode prog_11_method_22_code 58 = .ok (.iload_n 1, 1) := by decide +kernel
theorem d_SqlReaderModel_column_59 : decode prog_11_method_22_code 59 = .ok (.imul, 1) := by decide +kernel
theorem d_SqlReaderModel_column_60 : decode prog_11_method_22_code 60 = .ok (.aload_n 0, 1) := by decide +kernel
theorem d_SqlReaderModel_column_61 : decode prog_11_method_22_code 61 = .ok (.getfield 29, 3) := by decide +kernel
theorem d_SqlReaderModel_column_64 : decode prog_11_method_22_code 64 = .ok (.iload_n 1, 1) := by decide +kernel
theorem d_SqlReaderModel_column_65 : decode prog_11_method_22_code 65 = .ok (.iaload, 1) := by decide +kernel
theorem d_SqlReaderModel_column_66 : decode prog_11_method_22_code 66 = .ok (.iadd, 1) := by decide +kernel
theorem d_SqlReaderModel_column_67 : decode prog_11_method_22_code 67 = .ok (.istore 4, 2) := by decide +kernel
theorem d_SqlReaderModel_column_69 : decode prog_11_method_22_code 69 = .ok (.iconst 0, 1) := by decide +kernel
theorem d_SqlReaderModel_column_70 : decode prog_11_method_22_code 70 = .ok (.istore 5, 2) := by decide +kernel
theorem d_SqlReaderModel_column_72 : decode prog_11_method_22_code 72 = .ok (.iload 5, 2) := by decide +kernel
theorem d_SqlReaderModel_column_74 : decode prog_11_method_22_code 74 = .ok (.aload_n 0, 1) := by decide +kernel
theorem d_SqlReaderModel_column_75 : decode prog_11_method_22_code 75 = .ok (.getfield 20, 3) := by decide +kernel
theorem d_SqlReaderModel_column_78 : decode prog_11_method_22_code 78 = .ok (.iconst 0, 1) := by decide +kernel
theorem d_SqlReaderModel_column_79 : decode prog_11_method_22_code 79 = .ok (.iaload, 1) := by decide +kernel
theorem d_SqlReaderModel_column_80 : decode prog_11_method_22_code 80 = .ok (.if_icmp .ge 29, 3) := by decide +kernel
theorem d_SqlReaderModel_column_83 : decode prog_11_method_22_code 83 = .ok (.aload_n 0, 1) := by decide +kernel
theorem d_SqlReaderModel_column_84 : decode prog_11_method_22_code 84 = .ok (.getfield 32, 3) := by decide +kernel
theorem d_SqlReaderModel_column_87 : decode prog_11_method_22_code 87 = .ok (.bipush 16, 2) := by decide +kernel
theorem d_SqlReaderModel_column_89 : decode prog_11_method_22_code 89 = .ok (.iload 4, 2) := by decide +kernel
theorem d_SqlReaderModel_column_91 : decode prog_11_method_22_code 91 = .ok (.imul, 1) := by decide +kernel
theorem d_SqlReaderModel_column_92 : decode prog_11_method_22_code 92 = .ok (.iload 5, 2) := by decide +kernel
theorem d_SqlReaderModel_column_94 : decode prog_11_method_22_code 94 = .ok (.iadd, 1) := by decide +kernel
theorem d_SqlReaderModel_column_95 : decode prog_11_method_22_code 95 = .ok (.aload_n 0, 1) := by decide +kernel
theorem d_SqlReaderModel_column_96 : decode prog_11_method_22_code 96 = .ok (.getfield 7, 3) := by decide +kernel
theorem d_SqlReaderModel_column_99 : decode prog_11_method_22_code 99 = .ok (.iload 5, 2) := by decide +kernel
theorem d_SqlReaderModel_column_101 : decode prog_11_method_22_code 101 = .ok (.baload, 1) := by decide +kernel
theorem d_SqlReaderModel_column_102 : decode prog_11_method_22_code 102 = .ok (.bastore, 1) := by decide +kernel
theorem d_SqlReaderModel_column_103 : decode prog_11_method_22_code 103 = .ok (.iinc 5 1, 3) := by decide +kernel
theorem d_SqlReaderModel_column_106 : decode prog_11_method_22_code 106 = .ok (.goto (-34), 3) := by decide +kernel
theorem d_SqlReaderModel_column_109 : decode prog_11_method_22_code 109 = .ok (.aload_n 0, 1) := by decide +kernel
theorem d_SqlReaderModel_column_110 : decode prog_11_method_22_code 110 = .ok (.getfield 35, 3) := by decide +kernel
theorem d_SqlReaderModel_column_113 : decode prog_11_method_22_code 113 = .ok (.iload 4, 2) := by decide +kernel
theorem d_SqlReaderModel_column_115 : decode prog_11_method_22_code 115 = .ok (.aload_n 0, 1) := by decide +kernel
theorem d_SqlReaderModel_column_116 : decode prog_11_method_22_code 116 = .ok (.getfield 20, 3) := by decide +kernel
theorem d_SqlReaderModel_column_119 : decode prog_11_method_22_code 119 = .ok (.iconst 0, 1) := by decide +kernel
theorem d_SqlReaderModel_column_120 : decode prog_11_method_22_code 120 = .ok (.iaload, 1) := by decide +kernel
theorem d_SqlReaderModel_column_121 : decode prog_11_method_22_code 121 = .ok (.iastore, 1) := by decide +kernel
theorem d_SqlReaderModel_column_122 : decode prog_11_method_22_code 122 = .ok (.aload_n 0, 1) := by decide +kernel
theorem d_SqlReaderModel_column_123 : decode prog_11_method_22_code 123 = .ok (.getfield 38, 3) := by decide +kernel
theorem d_SqlReaderModel_column_126 : decode prog_11_method_22_code 126 = .ok (.iload 4, 2) := by decide +kernel
theorem d_SqlReaderModel_column_128 : decode prog_11_method_22_code 128 = .ok (.iload_n 2, 1) := by decide +kernel
theorem d_SqlReaderModel_column_129 : decode prog_11_method_22_code 129 = .ok (.iastore, 1) := by decide +kernel
theorem d_SqlReaderModel_column_130 : decode prog_11_method_22_code 130 = .ok (.aload_n 0, 1) := by decide +kernel
theorem d_SqlReaderModel_column_131 : decode prog_11_method_22_code 131 = .ok (.getfield 29, 3) := by decide +kernel
theorem d_SqlReaderModel_column_134 : decode prog_11_method_22_code 134 = .ok (.iload_n 1, 1) := by decide +kernel
theorem d_SqlReaderModel_column_135 : decode prog_11_method_22_code 135 = .ok (.dup2, 1) := by decide +kernel
theorem d_SqlReaderModel_column_136 : decode prog_11_method_22_code 136 = .ok (.iaload, 1) := by decide +kernel
theorem d_SqlReaderModel_column_137 : decode prog_11_method_22_code 137 = .ok (.iconst 1, 1) := by decide +kernel
theorem d_SqlReaderModel_column_138 : decode prog_11_method_22_code 138 = .ok (.iadd, 1) := by decide +kernel
theorem d_SqlReaderModel_column_139 : decode prog_11_method_22_code 139 = .ok (.iastore, 1) := by decide +kernel
theorem d_SqlReaderModel_column_140 : decode prog_11_method_22_code 140 = .ok (.aload_n 0, 1) := by decide +kernel
theorem d_SqlReaderModel_column_141 : decode prog_11_method_22_code 141 = .ok (.getfield 29, 3) := by decide +kernel
theorem d_SqlReaderModel_column_144 : decode prog_11_method_22_code 144 = .ok (.iload_n 1, 1) := by decide +kernel
theorem d_SqlReaderModel_column_145 : decode prog_11_method_22_code 145 = .ok (.iaload, 1) := by decide +kernel
theorem d_SqlReaderModel_column_146 : decode prog_11_method_22_code 146 = .ok (.iconst 1, 1) := by decide +kernel
theorem d_SqlReaderModel_column_147 : decode prog_11_method_22_code 147 = .ok (.isub, 1) := by decide +kernel
theorem d_SqlReaderModel_column_148 : decode prog_11_method_22_code 148 = .ok (.ireturn, 1) := by decide +kernel
theorem d_SqlReaderModel_columnOf_0 : decode prog_11_method_20_code 0 = .ok (.iconst (-1), 1) := by decide +kernel
theorem d_SqlReaderModel_columnOf_1 : decode prog_11_method_20_code 1 = .ok (.istore_n 3, 1) := by decide +kernel
theorem d_SqlReaderModel_columnOf_2 : decode prog_11_method_20_code 2 = .ok (.iconst 0, 1) := by decide +kernel
theorem d_SqlReaderModel_columnOf_3 : decode prog_11_method_20_code 3 = .ok (.istore 4, 2) := by decide +kernel
theorem d_SqlReaderModel_columnOf_5 : decode prog_11_method_20_code 5 = .ok (.iload 4, 2) := by decide +kernel
theorem d_SqlReaderModel_columnOf_7 : decode prog_11_method_20_code 7 = .ok (.aload_n 0, 1) := by decide +kernel
theorem d_SqlReaderModel_columnOf_8 : decode prog_11_method_20_code 8 = .ok (.getfield 29, 3) := by decide +kernel
theorem d_SqlReaderModel_columnOf_11 : decode prog_11_method_20_code 11 = .ok (.iload_n 1, 1) := by decide +kernel
theorem d_SqlReaderModel_columnOf_12 : decode prog_11_method_20_code 12 = .ok (.iaload, 1) := by decide +kernel
theorem d_SqlReaderModel_columnOf_13 : decode prog_11_method_20_code 13 = .ok (.if_icmp .ge 50, 3) := by decide +kernel
theorem d_SqlReaderModel_columnOf_16 : decode prog_11_method_20_code 16 = .ok (.aload_n 0, 1) := by decide +kernel
theorem d_SqlReaderModel_columnOf_17 : decode prog_11_method_20_code 17 = .ok (.iload_n 2, 1) := by decide +kernel
theorem d_SqlReaderModel_columnOf_18 : decode prog_11_method_20_code 18 = .ok (.aload_n 0, 1) := by decide +kernel
theorem d_SqlReaderModel_columnOf_19 : decode prog_11_method_20_code 19 = .ok (.getfield 32, 3) := by decide +kernel
theorem d_SqlReaderModel_columnOf_22 : decode prog_11_method_20_code 22 = .ok (.bipush 16, 2) := by decide +kernel
theorem d_SqlReaderModel_columnOf_24 : decode prog_11_method_20_code 24 = .ok (.bipush 8, 2) := by decide +kernel
theorem d_SqlReaderModel_columnOf_26 : decode prog_11_method_20_code 26 = .ok (.iload_n 1, 1) := by decide +kernel
theorem d_SqlReaderModel_columnOf_27 : decode prog_11_method_20_code 27 = .ok (.imul, 1) := by decide +kernel
theorem d_SqlReaderModel_columnOf_28 : decode prog_11_method_20_code 28 = .ok (.iload 4, 2) := by decide +kernel
theorem d_SqlReaderModel_columnOf_30 : decode prog_11_method_20_code 30 = .ok (.iadd, 1) := by decide +kernel
theorem d_SqlReaderModel_columnOf_31 : decode prog_11_method_20_code 31 = .ok (.imul, 1) := by decide +kernel
theorem d_SqlReaderModel_columnOf_32 : decode prog_11_method_20_code 32 = .ok (.aload_n 0, 1) := by decide +kernel
theorem d_SqlReaderModel_columnOf_33 : decode prog_11_method_20_code 33 = .ok (.getfield 35, 3) := by decide +kernel
theorem d_SqlReaderModel_columnOf_36 : decode prog_11_method_20_code 36 = .ok (.bipush 8, 2) := by decide +kernel
theorem d_SqlReaderModel_columnOf_38 : decode prog_11_method_20_code 38 = .ok (.iload_n 1, 1) := by decide +kernel
theorem d_SqlReaderModel_columnOf_39 : decode prog_11_method_20_code 39 = .ok (.imul, 1) := by decide +kernel
theorem d_SqlReaderModel_columnOf_40 : decode prog_11_method_20_code 40 = .ok (.iload 4, 2) := by decide +kernel
theorem d_SqlReaderModel_columnOf_42 : decode prog_11_method_20_code 42 = .ok (.iadd, 1) := by decide +kernel
theorem d_SqlReaderModel_columnOf_43 : decode prog_11_method_20_code 43 = .ok (.iaload, 1) := by decide +kernel
theorem d_SqlReaderModel_columnOf_44 : decode prog_11_method_20_code 44 = .ok (.invokevirtual 268, 3) := by decide +kernel
theorem d_SqlReaderModel_columnOf_47 : decode prog_11_method_20_code 47 = .ok (.ifCond .eq 8, 3) := by decide +kernel
theorem d_SqlReaderModel_columnOf_50 : decode prog_11_method_20_code 50 = .ok (.iload 4, 2) := by decide +kernel
theorem d_SqlReaderModel_columnOf_52 : decode prog_11_method_20_code 52 = .ok (.goto 4, 3) := by decide +kernel
theorem d_SqlReaderModel_columnOf_55 : decode prog_11_method_20_code 55 = .ok (.iload_n 3, 1) := by decide +kernel
theorem d_SqlReaderModel_columnOf_56 : decode prog_11_method_20_code 56 = .ok (.istore_n 3, 1) := by decide +kernel
theorem d_SqlReaderModel_columnOf_57 : decode prog_11_method_20_code 57 = .ok (.iinc 4 1, 3) := by decide +kernel
theorem d_SqlReaderModel_columnOf_60 : decode prog_11_method_20_code 60 = .ok (.goto (-55), 3) := by decide +kernel
theorem d_SqlReaderModel_columnOf_63 : decode prog_11_method_20_code 63 = .ok (.iload_n 3, 1) := by decide +kernel
theorem d_SqlReaderModel_columnOf_64 : decode prog_11_method_20_code 64 = .ok (.ireturn, 1) := by decide +kernel
theorem d_SqlReaderModel_compared_0 : decode prog_11_method_70_code 0 = .ok (.aload_n 0, 1) := by decide +kernel
theorem d_SqlReaderModel_compared_1 : decode prog_11_method_70_code 1 = .ok (.iload_n 1, 1) := by decide +kernel
theorem d_SqlReaderModel_compared_2 : decode prog_11_method_70_code 2 = .ok (.aload_n 0, 1) := by decide +kernel
theorem d_SqlReaderModel_compared_3 : decode prog_11_method_70_code 3 = .ok (.iload_n 2, 1) := by decide +kernel
theorem d_SqlReaderModel_compared_4 : decode prog_11_method_70_code 4 = .ok (.invokevirtual 582, 3) := by decide +kernel
theorem d_SqlReaderModel_compared_7 : decode prog_11_method_70_code 7 = .ok (.ifCond .ne 7, 3) := by decide +kernel
theorem d_SqlReaderModel_compared_10 : decode prog_11_method_70_code 10 = .ok (.iconst 2, 1) := by decide +kernel
theorem d_SqlReaderModel_compared_11 : decode prog_11_method_70_code 11 = .ok (.goto 8, 3) := by decide +kernel
theorem d_SqlReaderModel_compared_14 : decode prog_11_method_70_code 14 = .ok (.aload_n 0, 1) := by decide +kernel
theorem d_SqlReaderModel_compared_15 : decode prog_11_method_70_code 15 = .ok (.iload_n 2, 1) := by decide +kernel
theorem d_SqlReaderModel_compared_16 : decode prog_11_method_70_code 16 = .ok (.invokevirtual 582, 3) := by decide +kernel
theorem d_SqlReaderModel_compared_19 : decode prog_11_method_70_code 19 = .ok (.invokevirtual 588, 3) := by decide +kernel
theorem d_SqlReaderModel_compared_22 : decode prog_11_method_70_code 22 = .ok (.aload_n 0, 1) := by decide +kernel
theorem d_SqlReaderModel_compared_23 : decode prog_11_method_70_code 23 = .ok (.iload_n 2, 1) := by decide +kernel
theorem d_SqlReaderModel_compared_24 : decode prog_11_method_70_code 24 = .ok (.aload_n 0, 1) := by decide +kernel
theorem d_SqlReaderModel_compared_25 : decode prog_11_method_70_code 25 = .ok (.iload_n 1, 1) := by decide +kernel
theorem d_SqlReaderModel_compared_26 : decode prog_11_method_70_code 26 = .ok (.invokevirtual 582, 3) := by decide +kernel
theorem d_SqlReaderModel_compared_29 : decode prog_11_method_70_code 29 = .ok (.ifCond .ne 7, 3) := by decide +kernel
theorem d_SqlReaderModel_compared_32 : decode prog_11_method_70_code 32 = .ok (.iconst 2, 1) := by decide +kernel
theorem d_SqlReaderModel_compared_33 : decode prog_11_method_70_code 33 = .ok (.goto 8, 3) := by decide +kernel
theorem d_SqlReaderModel_compared_36 : decode prog_11_method_70_code 36 = .ok (.aload_n 0, 1) := by decide +kernel
theorem d_SqlReaderModel_compared_37 : decode prog_11_method_70_code 37 = .ok (.iload_n 1, 1) := by decide +kernel
theorem d_SqlReaderModel_compared_38 : decode prog_11_method_70_code 38 = .ok (.invokevirtual 582, 3) := by decide +kernel
theorem d_SqlReaderModel_compared_41 : decode prog_11_method_70_code 41 = .ok (.invokevirtual 588, 3) := by decide +kernel
theorem d_SqlReaderModel_compared_44 : decode prog_11_method_70_code 44 = .ok (.aload_n 0, 1) := by decide +kernel
theorem d_SqlReaderModel_compared_45 : decode prog_11_method_70_code 45 = .ok (.aload_n 0, 1) := by decide +kernel
theorem d_SqlReaderModel_compared_46 : decode prog_11_method_70_code 46 = .ok (.iload_n 1, 1) := by decide +kernel
theorem d_SqlReaderModel_compared_47 : decode prog_11_method_70_code 47 = .ok (.invokevirtual 582, 3) := by decide +kernel
theorem d_SqlReaderModel_compared_50 : decode prog_11_method_70_code 50 = .ok (.ifCond .eq 24, 3) := by decide +kernel
theorem d_SqlReaderModel_compared_53 : decode prog_11_method_70_code 53 = .ok (.aload_n 0, 1) := by decide +kernel
theorem d_SqlReaderModel_compared_54 : decode prog_11_method_70_code 54 = .ok (.iload_n 2, 1) := by decide +kernel
theorem d_SqlReaderModel_compared_55 : decode prog_11_method_70_code 55 = .ok (.invokevirtual 582, 3) := by decide +kernel
theorem d_SqlReaderModel_compared_58 : decode prog_11_method_70_code 58 = .ok (.ifCond .eq 16, 3) := by decide +kernel
theorem d_SqlReaderModel_compared_61 : decode prog_11_method_70_code 61 = .ok (.aload_n 0, 1) := by decide +kernel
theorem d_SqlReaderModel_compared_62 : decode prog_11_method_70_code 62 = .ok (.iload_n 1, 1) := by decide +kernel
theorem d_SqlReaderModel_compared_63 : decode prog_11_method_70_code 63 = .ok (.invokevirtual 582, 3) := by decide +kernel
theorem d_SqlReaderModel_compared_66 : decode prog_11_method_70_code 66 = .ok (.aload_n 0, 1) := by decide +kernel
theorem d_SqlReaderModel_compared_67 : decode prog_11_method_70_code 67 = .ok (.iload_n 2, 1) := by decide +kernel
theorem d_SqlReaderModel_compared_68 : decode prog_11_method_70_code 68 = .ok (.invokevirtual 582, 3) := by decide +kernel
theorem d_SqlReaderModel_compared_71 : decode prog_11_method_70_code 71 = .ok (.if_icmp .ne 7, 3) := by decide +kernel
theorem d_SqlReaderModel_compared_74 : decode prog_11_method_70_code 74 = .ok (.iconst 1, 1) := by decide +kernel
theorem d_SqlReaderModel_compared_75 : decode prog_11_method_70_code 75 = .ok (.goto 4, 3) := by decide +kernel
theorem d_SqlReaderModel_compared_78 : decode prog_11_method_70_code 78 = .ok (.iconst 0, 1) := by decide +kernel
theorem d_SqlReaderModel_compared_79 : decode prog_11_method_70_code 79 = .ok (.invokevirtual 591, 3) := by decide +kernel
theorem d_SqlReaderModel_compared_82 : decode prog_11_method_70_code 82 = .ok (.ireturn, 1) := by decide +kernel
theorem d_SqlReaderModel_compares_0 : decode prog_11_method_32_code 0 = .ok (.aload_n 0, 1) := by decide +kernel
theorem d_SqlReaderModel_compares_1 : decode prog_11_method_32_code 1 = .ok (.iload_n 1, 1) := by decide +kernel
theorem d_SqlReaderModel_compares_2 : decode prog_11_method_32_code 2 = .ok (.ldc_w 352, 3) := by decide +kernel
theorem d_SqlReaderModel_compares_5 : decode prog_11_method_32_code 5 = .ok (.invokevirtual 293, 3) := by decide +kernel
theorem d_SqlReaderModel_compares_8 : decode prog_11_method_32_code 8 = .ok (.ifCond .eq 8, 3) := by decide +kernel
theorem d_SqlReaderModel_compares_11 : decode prog_11_method_32_code 11 = .ok (.bipush 17, 2) := by decide +kernel
theorem d_SqlReaderModel_compares_13 : decode prog_11_method_32_code 13 = .ok (.goto 84, 3) := by decide +kernel
theorem d_SqlReaderModel_compares_16 : decode prog_11_method_32_code 16 = .ok (.aload_n 0, 1) := by decide +kernel
theorem d_SqlReaderModel_compares_17 : decode prog_11_method_32_code 17 = .ok (.iload_n 1, 1) := by decide +kernel
theorem d_SqlReaderModel_compares_18 : decode prog_11_method_32_code 18 = .ok (.ldc_w 354, 3) := by decide +kernel
theorem d_SqlReaderModel_compares_21 : decode prog_11_method_32_code 21 = .ok (.invokevirtual 293, 3) := by decide +kernel
theorem d_SqlReaderModel_compares_24 : decode prog_11_method_32_code 24 = .ok (.ifCond .eq 8, 3) := by decide +kernel
theorem d_SqlReaderModel_compares_27 : decode prog_11_method_32_code 27 = .ok (.bipush 18, 2) := by decide +kernel
theorem d_SqlReaderModel_compares_29 : decode prog_11_method_32_code 29 = .ok (.goto 68, 3) := by decide +kernel
theorem d_SqlReaderModel_compares_32 : decode prog_11_method_32_code 32 = .ok (.aload_n 0, 1) := by decide +kernel
theorem d_SqlReaderModel_compares_33 : decode prog_11_method_32_code 33 = .ok (.iload_n 1, 1) := by decide +kernel
theorem d_SqlReaderModel_compares_34 : decode prog_11_method_32_code 34 = .ok (.ldc_w 356, 3) := by decide +kernel
theorem d_SqlReaderModel_compares_37 : decode prog_11_method_32_code 37 = .ok (.invokevirtual 293, 3) := by decide +kernel
theorem d_SqlReaderModel_compares_40 : decode prog_11_method_32_code 40 = .ok (.ifCond .eq 8, 3) := by decide +kernel
theorem d_SqlReaderModel_compares_43 : decode prog_11_method_32_code 43 = .ok (.bipush 19, 2) := by decide +kernel
theorem d_SqlReaderModel_compares_45 : decode prog_11_method_32_code 45 = .ok (.goto 52, 3) := by decide +kernel
theorem d_SqlReaderModel_compares_48 : decode prog_11_method_32_code 48 = .ok (.aload_n 0, 1) := by decide +kernel
theorem d_SqlReaderModel_compares_49 : decode prog_11_method_32_code 49 = .ok (.iload_n 1, 1) := by decide +kernel
theorem d_SqlReaderModel_compares_50 : decode prog_11_method_32_code 50 = .ok (.ldc_w 358, 3) := by decide +kernel
theorem d_SqlReaderModel_compares_53 : decode prog_11_method_32_code 53 = .ok (.invokevirtual 293, 3) := by decide +kernel
theorem d_SqlReaderModel_compares_56 : decode prog_11_method_32_code 56 = .ok (.ifCond .eq 8, 3) := by decide +kernel
theorem d_SqlReaderModel_compares_59 : decode prog_11_method_32_code 59 = .ok (.bipush 20, 2) := by decide +kernel
theorem d_SqlReaderModel_compares_61 : decode prog_11_method_32_code 61 = .ok (.goto 36, 3) := by decide +kernel
theorem d_SqlReaderModel_compares_64 : decode prog_11_method_32_code 64 = .ok (.aload_n 0, 1) := by decide +kernel
theorem d_SqlReaderModel_compares_65 : decode prog_11_method_32_code 65 = .ok (.iload_n 1, 1) := by decide +kernel
theorem d_SqlReaderModel_compares_66 : decode prog_11_method_32_code 66 = .ok (.ldc_w 360, 3) := by decide +kernel
theorem d_SqlReaderModel_compares_69 : decode prog_11_method_32_code 69 = .ok (.invokevirtual 293, 3) := by decide +kernel
theorem d_SqlReaderModel_compares_72 : decode prog_11_method_32_code 72 = .ok (.ifCond .eq 8, 3) := by decide +kernel
theorem d_SqlReaderModel_compares_75 : decode prog_11_method_32_code 75 = .ok (.bipush 21, 2) := by decide +kernel
theorem d_SqlReaderModel_compares_77 : decode prog_11_method_32_code 77 = .ok (.goto 20, 3) := by decide +kernel
theorem d_SqlReaderModel_compares_80 : decode prog_11_method_32_code 80 = .ok (.aload_n 0, 1) := by decide +kernel
theorem d_SqlReaderModel_compares_81 : decode prog_11_method_32_code 81 = .ok (.iload_n 1, 1) := by decide +kernel
theorem d_SqlReaderModel_compares_82 : decode prog_11_method_32_code 82 = .ok (.ldc_w 362, 3) := by decide +kernel
theorem d_SqlReaderModel_compares_85 : decode prog_11_method_32_code 85 = .ok (.invokevirtual 293, 3) := by decide +kernel
theorem d_SqlReaderModel_compares_88 : decode prog_11_method_32_code 88 = .ok (.ifCond .eq 8, 3) := by decide +kernel
theorem d_SqlReaderModel_compares_91 : decode prog_11_method_32_code 91 = .ok (.bipush 22, 2) := by decide +kernel
theorem d_SqlReaderModel_compares_93 : decode prog_11_method_32_code 93 = .ok (.goto 4, 3) := by decide +kernel
theorem d_SqlReaderModel_compares_96 : decode prog_11_method_32_code 96 = .ok (.iconst 0, 1) := by decide +kernel
theorem d_SqlReaderModel_compares_97 : decode prog_11_method_32_code 97 = .ok (.ireturn, 1) := by decide +kernel
theorem d_SqlReaderModel_comparison_0 : decode prog_11_method_35_code 0 = .ok (.aload_n 0, 1) := by decide +kernel
theorem d_SqlReaderModel_comparison_1 : decode prog_11_method_35_code 1 = .ok (.iload_n 1, 1) := by decide +kernel
theorem d_SqlReaderModel_comparison_2 : decode prog_11_method_35_code 2 = .ok (.iload_n 2, 1) := by decide +kernel
theorem d_SqlReaderModel_comparison_3 : decode prog_11_method_35_code 3 = .ok (.invokevirtual 371, 3) := by decide +kernel
theorem d_SqlReaderModel_comparison_6 : decode prog_11_method_35_code 6 = .ok (.istore 4, 2) := by decide +kernel
theorem d_SqlReaderModel_comparison_8 : decode prog_11_method_35_code 8 = .ok (.iload 4, 2) := by decide +kernel
theorem d_SqlReaderModel_comparison_10 : decode prog_11_method_35_code 10 = .ok (.iload_n 2, 1) := by decide +kernel
theorem d_SqlReaderModel_comparison_11 : decode prog_11_method_35_code 11 = .ok (.if_icmp .ne 12, 3) := by decide +kernel
theorem d_SqlReaderModel_comparison_14 : decode prog_11_method_35_code 14 = .ok (.aload_n 0, 1) := by decide +kernel
theorem d_SqlReaderModel_comparison_15 : decode prog_11_method_35_code 15 = .ok (.iconst 4, 1) := by decide +kernel
theorem d_SqlReaderModel_comparison_16 : decode prog_11_method_35_code 16 = .ok (.iload_n 1, 1) := by decide +kernel
theorem d_SqlReaderModel_comparison_17 : decode prog_11_method_35_code 17 = .ok (.iload_n 2, 1) := by decide +kernel
theorem d_SqlReaderModel_comparison_18 : decode prog_11_method_35_code 18 = .ok (.iload_n 3, 1) := by decide +kernel
theorem d_SqlReaderModel_comparison_19 : decode prog_11_method_35_code 19 = .ok (.invokestatic 330, 3) := by decide +kernel
theorem d_SqlReaderModel_comparison_22 : decode prog_11_method_35_code 22 = .ok (.ireturn, 1) := by decide +kernel
theorem d_SqlReaderModel_comparison_23 : decode prog_11_method_35_code 23 = .ok (.aload_n 0, 1) := by decide +kernel
theorem d_SqlReaderModel_comparison_24 : decode prog_11_method_35_code 24 = .ok (.getfield 133, 3) := by decide +kernel
theorem d_SqlReaderModel_comparison_27 : decode prog_11_method_35_code 27 = .ok (.istore 5, 2) := by decide +kernel
theorem d_SqlReaderModel_comparison_29 : decode prog_11_method_35_code 29 = .ok (.aload_n 0, 1) := by decide +kernel
theorem d_SqlReaderModel_comparison_30 : decode prog_11_method_35_code 30 = .ok (.iconst 4, 1) := by decide +kernel
theorem d_SqlReaderModel_comparison_31 : decode prog_11_method_35_code 31 = .ok (.iload_n 1, 1) := by decide +kernel
theorem d_SqlReaderModel_comparison_32 : decode prog_11_method_35_code 32 = .ok (.iload 4, 2) := by decide +kernel
theorem d_SqlReaderModel_comparison_34 : decode prog_11_method_35_code 34 = .ok (.iload_n 3, 1) := by decide +kernel
theorem d_SqlReaderModel_comparison_35 : decode prog_11_method_35_code 35 = .ok (.invokestatic 330, 3) := by decide +kernel
theorem d_SqlReaderModel_comparison_38 : decode prog_11_method_35_code 38 = .ok (.istore 6, 2) := by decide +kernel
theorem d_SqlReaderModel_comparison_40 : decode prog_11_method_35_code 40 = .ok (.aload_n 0, 1) := by decide +kernel
theorem d_SqlReaderModel_comparison_41 : decode prog_11_method_35_code 41 = .ok (.getfield 133, 3) := by decide +kernel
theorem d_SqlReaderModel_comparison_44 : decode prog_11_method_35_code 44 = .ok (.istore 7, 2) := by decide +kernel
theorem d_SqlReaderModel_comparison_46 : decode prog_11_method_35_code 46 = .ok (.aload_n 0, 1) := by decide +kernel
theorem d_SqlReaderModel_comparison_47 : decode prog_11_method_35_code 47 = .ok (.iload 4, 2) := by decide +kernel
theorem d_SqlReaderModel_comparison_49 : decode prog_11_method_35_code 49 = .ok (.invokevirtual 364, 3) := by decide +kernel
theorem d_SqlReaderModel_comparison_52 : decode prog_11_method_35_code 52 = .ok (.istore 8, 2) := by decide +kernel
theorem d_SqlReaderModel_comparison_54 : decode prog_11_method_35_code 54 = .ok (.iload 8, 2) := by decide +kernel
theorem d_SqlReaderModel_comparison_56 : decode prog_11_method_35_code 56 = .ok (.ifCond .le 23, 3) := by decide +kernel
theorem d_SqlReaderModel_comparison_59 : decode prog_11_method_35_code 59 = .ok (.aload_n 0, 1) := by decide +kernel
theorem d_SqlReaderModel_comparison_60 : decode prog_11_method_35_code 60 = .ok (.iload 8, 2) := by decide +kernel
theorem d_SqlReaderModel_comparison_62 : decode prog_11_method_35_code 62 = .ok (.iload 6, 2) := by decide +kernel
theorem d_SqlReaderModel_comparison_64 : decode prog_11_method_35_code 64 = .ok (.aload_n 0, 1) := by decide +kernel
theorem d_SqlReaderModel_comparison_65 : decode prog_11_method_35_code 65 = .ok (.iconst 4, 1) := by decide +kernel
theorem d_SqlReaderModel_comparison_66 : decode prog_11_method_35_code 66 = .ok (.iload 4, 2) := by decide +kernel
theorem d_SqlReaderModel_comparison_68 : decode prog_11_method_35_code 68 = .ok (.iconst 1, 1) := by decide +kernel
theorem d_SqlReaderModel_comparison_69 : decode prog_11_method_35_code 69 = .ok (.iadd, 1) := by decide +kernel
theorem d_SqlReaderModel_comparison_70 : decode prog_11_method_35_code 70 = .ok (.iload_n 2, 1) := by decide +kernel
theorem d_SqlReaderModel_comparison_71 : decode prog_11_method_35_code 71 = .ok (.iload_n 3, 1) := by decide +kernel
theorem d_SqlReaderModel_comparison_72 : decode prog_11_method_35_code 72 = .ok (.invokestatic 330, 3) := by decide +kernel
theorem d_SqlReaderModel_comparison_75 : decode prog_11_method_35_code 75 = .ok (.invokevirtual 287, 3) := by decide +kernel
theorem d_SqlReaderModel_comparison_78 : decode prog_11_method_35_code 78 = .ok (.ireturn, 1) := by decide +kernel
theorem d_SqlReaderModel_comparison_79 : decode prog_11_method_35_code 79 = .ok (.aload_n 0, 1) := by decide +kernel
theorem d_SqlReaderModel_comparison_80 : decode prog_11_method_35_code 80 = .ok (.iload 4, 2) := by decide +kernel
theorem d_SqlReaderModel_comparison_82 : decode prog_11_method_35_code 82 = .ok (.ldc_w 367, 3) := by decide +kernel
theorem d_SqlReaderModel_comparison_85 : decode prog_11_method_35_code 85 = .ok (.invokevirtual 293, 3) := by decide +kernel
theorem d_SqlReaderModel_comparison_88 : decode prog_11_method_35_code 88 = .ok (.ifCond .eq 90, 3) := by decide +kernel
theorem d_SqlReaderModel_comparison_91 : decode prog_11_method_35_code 91 = .ok (.aload_n 0, 1) := by decide +kernel
theorem d_SqlReaderModel_comparison_92 : decode prog_11_method_35_code 92 = .ok (.iload 4, 2) := by decide +kernel
theorem d_SqlReaderModel_comparison_94 : decode prog_11_method_35_code 94 = .ok (.iconst 1, 1) := by decide +kernel
theorem d_SqlReaderModel_comparison_95 : decode prog_11_method_35_code 95 = .ok (.iadd, 1) := by decide +kernel
theorem d_SqlReaderModel_comparison_96 : decode prog_11_method_35_code 96 = .ok (.ldc_w 350, 3) := by decide +kernel
theorem d_SqlReaderModel_comparison_99 : decode prog_11_method_35_code 99 = .ok (.invokevirtual 293, 3) := by decide +kernel
theorem d_SqlReaderModel_comparison_102 : decode prog_11_method_35_code 102 = .ok (.istore 9, 2) := by decide +kernel
theorem d_SqlReaderModel_comparison_104 : decode prog_11_method_35_code 104 = .ok (.iload 9, 2) := by decide +kernel
theorem d_SqlReaderModel_comparison_106 : decode prog_11_method_35_code 106 = .ok (.ifCond .eq 10, 3) := by decide +kernel
theorem d_SqlReaderModel_comparison_109 : decode prog_11_method_35_code 109 = .ok (.iload 4, 2) := by decide +kernel
theorem d_SqlReaderModel_comparison_111 : decode prog_11_method_35_code 111 = .ok (.iconst 2, 1) := by decide +kernel
theorem d_SqlReaderModel_comparison_112 : decode prog_11_method_35_code 112 = .ok (.iadd, 1) := by decide +kernel
theorem d_SqlReaderModel_comparison_113 : decode prog_11_method_35_code 113 = .ok (.goto 7, 3) := by decide +kernel
theorem d_SqlReaderModel_comparison_116 : decode prog_11_method_35_code 116 = .ok (.iload 4, 2) := by decide +kernel
theorem d_SqlReaderModel_comparison_118 : decode prog_11_method_35_code 118 = .ok (.iconst 1, 1) := by decide +kernel
theorem d_SqlReaderModel_comparison_119 : decode prog_11_method_35_code 119 = .ok (.iadd, 1) := by decide +kernel
theorem d_SqlReaderModel_comparison_120 : decode prog_11_method_35_code 120 = .ok (.istore 10, 2) := by decide +kernel
theorem d_SqlReaderModel_comparison_122 : decode prog_11_method_35_code 122 = .ok (.aload_n 0, 1) := by decide +kernel
theorem d_SqlReaderModel_comparison_123 : decode prog_11_method_35_code 123 = .ok (.aload_n 0, 1) := by decide +kernel
theorem d_SqlReaderModel_comparison_124 : decode prog_11_method_35_code 124 = .ok (.getfield 226, 3) := by decide +kernel
theorem d_SqlReaderModel_comparison_127 : decode prog_11_method_35_code 127 = .ok (.ifCond .ne 23, 3) := by decide +kernel
theorem d_SqlReaderModel_comparison_130 : decode prog_11_method_35_code 130 = .ok (.iload 10, 2) := by decide +kernel
theorem d_SqlReaderModel_comparison_132 : decode prog_11_method_35_code 132 = .ok (.iload_n 2, 1) := by decide +kernel
theorem d_SqlReaderModel_comparison_133 : decode prog_11_method_35_code 133 = .ok (.iconst 1, 1) := by decide +kernel
theorem d_SqlReaderModel_comparison_134 : decode prog_11_method_35_code 134 = .ok (.isub, 1) := by decide +kernel
theorem d_SqlReaderModel_comparison_135 : decode prog_11_method_35_code 135 = .ok (.if_icmp .ne 15, 3) := by decide +kernel
theorem d_SqlReaderModel_comparison_138 : decode prog_11_method_35_code 138 = .ok (.aload_n 0, 1) := by decide +kernel
theorem d_SqlReaderModel_comparison_139 : decode prog_11_method_35_code 139 = .ok (.iload 10, 2) := by decide +kernel
theorem d_SqlReaderModel_comparison_141 : decode prog_11_method_35_code 141 = .ok (.ldc_w 303, 3) := by decide +kernel
theorem d_SqlReaderModel_comparison_144 : decode prog_11_method_35_code 144 = .ok (.invokevirtual 293, 3) := by decide +kernel
theorem d_SqlReaderModel_comparison_147 : decode prog_11_method_35_code 147 = .ok (.ifCond .ne 7, 3) := by decide +kernel
theorem d_SqlReaderModel_comparison_150 : decode prog_11_method_35_code 150 = .ok (.iconst 1, 1) := by decide +kernel
theorem d_SqlReaderModel_comparison_151 : decode prog_11_method_35_code 151 = .ok (.goto 4, 3) := by decide +kernel
theorem d_SqlReaderModel_comparison_154 : decode prog_11_method_35_code 154 = .ok (.iconst 0, 1) := by decide +kernel
theorem d_SqlReaderModel_comparison_155 : decode prog_11_method_35_code 155 = .ok (.putfield 226, 3) := by decide +kernel
theorem d_SqlReaderModel_comparison_158 : decode prog_11_method_35_code 158 = .ok (.aload_n 0, 1) := by decide +kernel
theorem d_SqlReaderModel_comparison_159 : decode prog_11_method_35_code 159 = .ok (.iload 9, 2) := by decide +kernel
theorem d_SqlReaderModel_comparison_161 : decode prog_11_method_35_code 161 = .ok (.ifCond .eq 8, 3) := by decide +kernel
theorem d_SqlReaderModel_comparison_164 : decode prog_11_method_35_code 164 = .ok (.bipush 24, 2) := by decide +kernel
theorem d_SqlReaderModel_comparison_166 : decode prog_11_method_35_code 166 = .ok (.goto 5, 3) := by decide +kernel
theorem d_SqlReaderModel_comparison_169 : decode prog_11_method_35_code 169 = .ok (.bipush 23, 2) := by decide +kernel
theorem d_SqlReaderModel_comparison_171 : decode prog_11_method_35_code 171 = .ok (.iload 6, 2) := by decide +kernel
theorem d_SqlReaderModel_comparison_173 : decode prog_11_method_35_code 173 = .ok (.iconst (-1), 1) := by decide +kernel
theorem d_SqlReaderModel_comparison_174 : decode prog_11_method_35_code 174 = .ok (.invokevirtual 287, 3) := by decide +kernel
theorem d_SqlReaderModel_comparison_177 : decode prog_11_method_35_code 177 = .ok (.ireturn, 1) := by decide +kernel
theorem d_SqlReaderModel_comparison_178 : decode prog_11_method_35_code 178 = .ok (.aload_n 0, 1) := by decide +kernel
theorem d_SqlReaderModel_comparison_179 : decode prog_11_method_35_code 179 = .ok (.iload 4, 2) := by decide +kernel
theorem d_SqlReaderModel_comparison_181 : decode prog_11_method_35_code 181 = .ok (.ldc_w 350, 3) := by decide +kernel
theorem d_SqlReaderModel_comparison_184 : decode prog_11_method_35_code 184 = .ok (.invokevirtual 293, 3) := by decide +kernel
theorem d_SqlReaderModel_comparison_187 : decode prog_11_method_35_code 187 = .ok (.istore 9, 2) := by decide +kernel
theorem d_SqlReaderModel_comparison_189 : decode prog_11_method_35_code 189 = .ok (.iload 9, 2) := by decide +kernel
theorem d_SqlReaderModel_comparison_191 : decode prog_11_method_35_code 191 = .ok (.ifCond .eq 10, 3) := by decide +kernel
theorem d_SqlReaderModel_comparison_194 : decode prog_11_method_35_code 194 = .ok (.iload 4, 2) := by decide +kernel
theorem d_SqlReaderModel_comparison_196 : decode prog_11_method_35_code 196 = .ok (.iconst 1, 1) := by decide +kernel
theorem d_SqlReaderModel_comparison_197 : decode prog_11_method_35_code 197 = .ok (.iadd, 1) := by decide +kernel
theorem d_SqlReaderModel_comparison_198 : decode prog_11_method_35_code 198 = .ok (.goto 5, 3) := by decide +kernel
theorem d_SqlReaderModel_comparison_201 : decode prog_11_method_35_code 201 = .ok (.iload 4, 2) := by decide +kernel
theorem d_SqlReaderModel_comparison_203 : decode prog_11_method_35_code 203 = .ok (.istore 10, 2) := by decide +kernel
theorem d_SqlReaderModel_comparison_205 : decode prog_11_method_35_code 205 = .ok (.iconst 0, 1) := by decide +kernel
theorem d_SqlReaderModel_comparison_206 : decode prog_11_method_35_code 206 = .ok (.istore 11, 2) := by decide +kernel
theorem d_SqlReaderModel_comparison_208 : decode prog_11_method_35_code 208 = .ok (.iload 10, 2) := by decide +kernel
theorem d_SqlReaderModel_comparison_210 : decode prog_11_method_35_code 210 = .ok (.iload_n 2, 1) := by decide +kernel
theorem d_SqlReaderModel_comparison_211 : decode prog_11_method_35_code 211 = .ok (.if_icmp .ge 97, 3) := by decide +kernel
theorem d_SqlReaderModel_comparison_214 : decode prog_11_method_35_code 214 = .ok (.aload_n 0, 1) := by decide +kernel
theorem d_SqlReaderModel_comparison_215 : decode prog_11_method_35_code 215 = .ok (.iload 10, 2) := by decide +kernel
theorem d_SqlReaderModel_comparison_217 : decode prog_11_method_35_code 217 = .ok (.ldc_w 328, 3) := by decide +kernel
theorem d_SqlReaderModel_comparison_220 : decode prog_11_method_35_code 220 = .ok (.invokevirtual 293, 3) := by decide +kernel
theorem d_SqlReaderModel_comparison_223 : decode prog_11_method_35_code 223 = .ok (.ifCond .eq 85, 3) := by decide +kernel
theorem d_SqlReaderModel_comparison_226 : decode prog_11_method_35_code 226 = .ok (.aload_n 0, 1) := by decide +kernel
theorem d_SqlReaderModel_comparison_227 : decode prog_11_method_35_code 227 = .ok (.ldc_w 307, 3) := by decide +kernel
theorem d_SqlReaderModel_comparison_230 : decode prog_11_method_35_code 230 = .ok (.iload 10, 2) := by decide +kernel
theorem d_SqlReaderModel_comparison_232 : decode prog_11_method_35_code 232 = .ok (.iconst 1, 1) := by decide +kernel
theorem d_SqlReaderModel_comparison_233 : decode prog_11_method_35_code 233 = .ok (.iadd, 1) := by decide +kernel
theorem d_SqlReaderModel_comparison_234 : decode prog_11_method_35_code 234 = .ok (.iload_n 2, 1) := by decide +kernel
theorem d_SqlReaderModel_comparison_235 : decode prog_11_method_35_code 235 = .ok (.invokevirtual 374, 3) := by decide +kernel
theorem d_SqlReaderModel_comparison_238 : decode prog_11_method_35_code 238 = .ok (.istore 12, 2) := by decide +kernel
theorem d_SqlReaderModel_comparison_240 : decode prog_11_method_35_code 240 = .ok (.aload_n 0, 1) := by decide +kernel
theorem d_SqlReaderModel_comparison_241 : decode prog_11_method_35_code 241 = .ok (.bipush 22, 2) := by decide +kernel
theorem d_SqlReaderModel_comparison_243 : decode prog_11_method_35_code 243 = .ok (.iload 6, 2) := by decide +kernel
theorem d_SqlReaderModel_comparison_245 : decode prog_11_method_35_code 245 = .ok (.aload_n 0, 1) := by decide +kernel
theorem d_SqlReaderModel_comparison_246 : decode prog_11_method_35_code 246 = .ok (.iconst 4, 1) := by decide +kernel
theorem d_SqlReaderModel_comparison_247 : decode prog_11_method_35_code 247 = .ok (.iload 10, 2) := by decide +kernel
theorem d_SqlReaderModel_comparison_249 : decode prog_11_method_35_code 249 = .ok (.iconst 1, 1) := by decide +kernel
theorem d_SqlReaderModel_comparison_250 : decode prog_11_method_35_code 250 = .ok (.iadd, 1) := by decide +kernel
theorem d_SqlReaderModel_comparison_251 : decode prog_11_method_35_code 251 = .ok (.iload 12, 2) := by decide +kernel
theorem d_SqlReaderModel_comparison_253 : decode prog_11_method_35_code 253 = .ok (.iload_n 3, 1) := by decide +kernel
theorem d_SqlReaderModel_comparison_254 : decode prog_11_method_35_code 254 = .ok (.invokestatic 330, 3) := by decide +kernel
theorem d_SqlReaderModel_comparison_257 : decode prog_11_method_35_code 257 = .ok (.invokevirtual 287, 3) := by decide +kernel
theorem d_SqlReaderModel_comparison_260 : decode prog_11_method_35_code 260 = .ok (.istore 13, 2) := by decide +kernel
theorem d_SqlReaderModel_comparison_262 : decode prog_11_method_35_code 262 = .ok (.aload_n 0, 1) := by decide +kernel
theorem d_SqlReaderModel_comparison_263 : decode prog_11_method_35_code 263 = .ok (.iload 5, 2) := by decide +kernel
theorem d_SqlReaderModel_comparison_265 : decode prog_11_method_35_code 265 = .ok (.iload 7, 2) := by decide +kernel
theorem d_SqlReaderModel_comparison_267 : decode prog_11_method_35_code 267 = .ok (.invokevirtual 378, 3) := by decide +kernel
theorem d_SqlReaderModel_comparison_270 : decode prog_11_method_35_code 270 = .ok (.istore 14, 2) := by decide +kernel
theorem d_SqlReaderModel_comparison_272 : decode prog_11_method_35_code 272 = .ok (.aload_n 0, 1) := by decide +kernel
theorem d_SqlReaderModel_comparison_273 : decode prog_11_method_35_code 273 = .ok (.bipush 20, 2) := by decide +kernel
theorem d_SqlReaderModel_comparison_275 : decode prog_11_method_35_code 275 = .ok (.iload 14, 2) := by decide +kernel
theorem d_SqlReaderModel_comparison_277 : decode prog_11_method_35_code 277 = .ok (.aload_n 0, 1) := by decide +kernel
theorem d_SqlReaderModel_comparison_278 : decode prog_11_method_35_code 278 = .ok (.iconst 4, 1) := by decide +kernel
theorem d_SqlReaderModel_comparison_279 : decode prog_11_method_35_code 279 = .ok (.iload 12, 2) := by decide +kernel
theorem d_SqlReaderModel_comparison_281 : decode prog_11_method_35_code 281 = .ok (.iconst 1, 1) := by decide +kernel
theorem d_SqlReaderModel_comparison_282 : decode prog_11_method_35_code 282 = .ok (.iadd, 1) := by decide +kernel
theorem d_SqlReaderModel_comparison_283 : decode prog_11_method_35_code 283 = .ok (.iload_n 2, 1) := by decide +kernel
theorem d_SqlReaderModel_comparison_284 : decode prog_11_method_35_code 284 = .ok (.iload_n 3, 1) := by decide +kernel
theorem d_SqlReaderModel_comparison_285 : decode prog_11_method_35_code 285 = .ok (.invokestatic 330, 3) := by decide +kernel
theorem d_SqlReaderModel_comparison_288 : decode prog_11_method_35_code 288 = .ok (.invokevirtual 287, 3) := by decide +kernel
theorem d_SqlReaderModel_comparison_291 : decode prog_11_method_35_code 291 = .ok (.istore 15, 2) := by decide +kernel
theorem d_SqlReaderModel_comparison_293 : decode prog_11_method_35_code 293 = .ok (.aload_n 0, 1) := by decide +kernel
theorem d_SqlReaderModel_comparison_294 : decode prog_11_method_35_code 294 = .ok (.bipush 26, 2) := by decide +kernel
theorem d_SqlReaderModel_comparison_296 : decode prog_11_method_35_code 296 = .ok (.iload 13, 2) := by decide +kernel
theorem d_SqlReaderModel_comparison_298 : decode prog_11_method_35_code 298 = .ok (.iload 15, 2) := by decide +kernel
theorem d_SqlReaderModel_comparison_300 : decode prog_11_method_35_code 300 = .ok (.invokevirtual 287, 3) := by decide +kernel
theorem d_SqlReaderModel_comparison_303 : decode prog_11_method_35_code 303 = .ok (.istore 11, 2) := by decide +kernel
theorem d_SqlReaderModel_comparison_305 : decode prog_11_method_35_code 305 = .ok (.goto 47, 3) := by decide +kernel
theorem d_SqlReaderModel_comparison_308 : decode prog_11_method_35_code 308 = .ok (.iload 10, 2) := by decide +kernel
theorem d_SqlReaderModel_comparison_310 : decode prog_11_method_35_code 310 = .ok (.iload_n 2, 1) := by decide +kernel
theorem d_SqlReaderModel_comparison_311 : decode prog_11_method_35_code 311 = .ok (.if_icmp .ge 36, 3) := by decide +kernel
theorem d_SqlReaderModel_comparison_314 : decode prog_11_method_35_code 314 = .ok (.aload_n 0, 1) := by decide +kernel
theorem d_SqlReaderModel_comparison_315 : decode prog_11_method_35_code 315 = .ok (.iload 10, 2) := by decide +kernel
theorem d_SqlReaderModel_comparison_317 : decode prog_11_method_35_code 317 = .ok (.ldc_w 369, 3) := by decide +kernel
theorem d_SqlReaderModel_comparison_320 : decode prog_11_method_35_code 320 = .ok (.invokevirtual 293, 3) := by decide +kernel
theorem d_SqlReaderModel_comparison_323 : decode prog_11_method_35_code 323 = .ok (.ifCond .eq 24, 3) := by decide +kernel
theorem d_SqlReaderModel_comparison_326 : decode prog_11_method_35_code 326 = .ok (.aload_n 0, 1) := by decide +kernel
theorem d_SqlReaderModel_comparison_327 : decode prog_11_method_35_code 327 = .ok (.iload 10, 2) := by decide +kernel
theorem d_SqlReaderModel_comparison_329 : decode prog_11_method_35_code 329 = .ok (.iconst 1, 1) := by decide +kernel
theorem d_SqlReaderModel_comparison_330 : decode prog_11_method_35_code 330 = .ok (.iadd, 1) := by decide +kernel
theorem d_SqlReaderModel_comparison_331 : decode prog_11_method_35_code 331 = .ok (.iload_n 2, 1) := by decide +kernel
theorem d_SqlReaderModel_comparison_332 : decode prog_11_method_35_code 332 = .ok (.iload_n 3, 1) := by decide +kernel
theorem d_SqlReaderModel_comparison_333 : decode prog_11_method_35_code 333 = .ok (.iload 6, 2) := by decide +kernel
theorem d_SqlReaderModel_comparison_335 : decode prog_11_method_35_code 335 = .ok (.iload 5, 2) := by decide +kernel
theorem d_SqlReaderModel_comparison_337 : decode prog_11_method_35_code 337 = .ok (.iload 7, 2) := by decide +kernel
theorem d_SqlReaderModel_comparison_339 : decode prog_11_method_35_code 339 = .ok (.invokestatic 381, 3) := by decide +kernel
theorem d_SqlReaderModel_comparison_342 : decode prog_11_method_35_code 342 = .ok (.istore 11, 2) := by decide +kernel
theorem d_SqlReaderModel_comparison_344 : decode prog_11_method_35_code 344 = .ok (.goto 8, 3) := by decide +kernel
theorem d_SqlReaderModel_comparison_347 : decode prog_11_method_35_code 347 = .ok (.aload_n 0, 1) := by decide +kernel
theorem d_SqlReaderModel_comparison_348 : decode prog_11_method_35_code 348 = .ok (.iconst 1, 1) := by decide +kernel
theorem d_SqlReaderModel_comparison_349 : decode prog_11_method_35_code 349 = .ok (.putfield 226, 3) := by decide +kernel
theorem d_SqlReaderModel_comparison_352 : decode prog_11_method_35_code 352 = .ok (.iload 9, 2) := by decide +kernel
theorem d_SqlReaderModel_comparison_354 : decode prog_11_method_35_code 354 = .ok (.ifCond .eq 15, 3) := by decide +kernel
theorem d_SqlReaderModel_comparison_357 : decode prog_11_method_35_code 357 = .ok (.aload_n 0, 1) := by decide +kernel
theorem d_SqlReaderModel_comparison_358 : decode prog_11_method_35_code 358 = .ok (.bipush 25, 2) := by decide +kernel
theorem d_SqlReaderModel_comparison_360 : decode prog_11_method_35_code 360 = .ok (.iload 11, 2) := by decide +kernel
theorem d_SqlReaderModel_comparison_362 : decode prog_11_method_35_code 362 = .ok (.iconst (-1), 1) := by decide +kernel
theorem d_SqlReaderModel_comparison_363 : decode prog_11_method_35_code 363 = .ok (.invokevirtual 287, 3) := by decide +kernel
theorem d_SqlReaderModel_comparison_366 : decode prog_11_method_35_code 366 = .ok (.goto 5, 3) := by decide +kernel
theorem d_SqlReaderModel_comparison_369 : decode prog_11_method_35_code 369 = .ok (.iload 11, 2) := by decide +kernel
theorem d_SqlReaderModel_comparison_371 : decode prog_11_method_35_code 371 = .ok (.ireturn, 1) := by decide +kernel
theorem d_SqlReaderModel_constant_0 : decode prog_11_method_41_code 0 = .ok (.aload_n 0, 1) := by decide +kernel
theorem d_SqlReaderModel_constant_1 : decode prog_11_method_41_code 1 = .ok (.getfield 13, 3) := by decide +kernel
theorem d_SqlReaderModel_constant_4 : decode prog_11_method_41_code 4 = .ok (.iload_n 1, 1) := by decide +kernel
theorem d_SqlReaderModel_constant_5 : decode prog_11_method_41_code 5 = .ok (.iaload, 1) := by decide +kernel
theorem d_SqlReaderModel_constant_6 : decode prog_11_method_41_code 6 = .ok (.istore_n 2, 1) := by decide +kernel
theorem d_SqlReaderModel_constant_7 : decode prog_11_method_41_code 7 = .ok (.aload_n 0, 1) := by decide +kernel
theorem d_SqlReaderModel_constant_8 : decode prog_11_method_41_code 8 = .ok (.iload_n 1, 1) := by decide +kernel
theorem d_SqlReaderModel_constant_9 : decode prog_11_method_41_code 9 = .ok (.ldc_w 299, 3) := by decide +kernel
theorem d_SqlReaderModel_constant_12 : decode prog_11_method_41_code 12 = .ok (.invokevirtual 293, 3) := by decide +kernel
theorem d_SqlReaderModel_constant_15 : decode prog_11_method_41_code 15 = .ok (.ifCond .ne 14, 3) := by decide +kernel
theorem d_SqlReaderModel_constant_18 : decode prog_11_method_41_code 18 = .ok (.aload_n 0, 1) := by decide +kernel
theorem d_SqlReaderModel_constant_19 : decode prog_11_method_41_code 19 = .ok (.iload_n 1, 1) := by decide +kernel
theorem d_SqlReaderModel_constant_20 : decode prog_11_method_41_code 20 = .ok (.ldc_w 301, 3) := by decide +kernel
theorem d_SqlReaderModel_constant_23 : decode prog_11_method_41_code 23 = .ok (.invokevirtual 293, 3) := by decide +kernel
theorem d_SqlReaderModel_constant_26 : decode prog_11_method_41_code 26 = .ok (.ifCond .eq 7, 3) := by decide +kernel
theorem d_SqlReaderModel_constant_29 : decode prog_11_method_41_code 29 = .ok (.iconst 1, 1) := by decide +kernel
theorem d_SqlReaderModel_constant_30 : decode prog_11_method_41_code 30 = .ok (.goto 4, 3) := by decide +kernel
theorem d_SqlReaderModel_constant_33 : decode prog_11_method_41_code 33 = .ok (.iconst 0, 1) := by decide +kernel
theorem d_SqlReaderModel_constant_34 : decode prog_11_method_41_code 34 = .ok (.istore_n 3, 1) := by decide +kernel
theorem d_SqlReaderModel_constant_35 : decode prog_11_method_41_code 35 = .ok (.aload_n 0, 1) := by decide +kernel
theorem d_SqlReaderModel_constant_36 : decode prog_11_method_41_code 36 = .ok (.aload_n 0, 1) := by decide +kernel
theorem d_SqlReaderModel_constant_37 : decode prog_11_method_41_code 37 = .ok (.getfield 226, 3) := by decide +kernel
theorem d_SqlReaderModel_constant_40 : decode prog_11_method_41_code 40 = .ok (.ifCond .ne 33, 3) := by decide +kernel
theorem d_SqlReaderModel_constant_43 : decode prog_11_method_41_code 43 = .ok (.iload_n 2, 1) := by decide +kernel
theorem d_SqlReaderModel_constant_44 : decode prog_11_method_41_code 44 = .ok (.iconst 3, 1) := by decide +kernel
theorem d_SqlReaderModel_constant_45 : decode prog_11_method_41_code 45 = .ok (.if_icmp .eq 32, 3) := by decide +kernel
theorem d_SqlReaderModel_constant_48 : decode prog_11_method_41_code 48 = .ok (.iload_n 2, 1) := by decide +kernel
theorem d_SqlReaderModel_constant_49 : decode prog_11_method_41_code 49 = .ok (.iconst 4, 1) := by decide +kernel
theorem d_SqlReaderModel_constant_50 : decode prog_11_method_41_code 50 = .ok (.if_icmp .eq 27, 3) := by decide +kernel
theorem d_SqlReaderModel_constant_53 : decode prog_11_method_41_code 53 = .ok (.iload_n 2, 1) := by decide +kernel
theorem d_SqlReaderModel_constant_54 : decode prog_11_method_41_code 54 = .ok (.iconst 5, 1) := by decide +kernel
theorem d_SqlReaderModel_constant_55 : decode prog_11_method_41_code 55 = .ok (.if_icmp .eq 22, 3) := by decide +kernel
theorem d_SqlReaderModel_constant_58 : decode prog_11_method_41_code 58 = .ok (.iload_n 3, 1) := by decide +kernel
theorem d_SqlReaderModel_constant_59 : decode prog_11_method_41_code 59 = .ok (.ifCond .ne 18, 3) := by decide +kernel
theorem d_SqlReaderModel_constant_62 : decode prog_11_method_41_code 62 = .ok (.aload_n 0, 1) := by decide +kernel
theorem d_SqlReaderModel_constant_63 : decode prog_11_method_41_code 63 = .ok (.iload_n 1, 1) := by decide +kernel
theorem d_SqlReaderModel_constant_64 : decode prog_11_method_41_code 64 = .ok (.ldc_w 303, 3) := by decide +kernel
theorem d_SqlReaderModel_constant_67 : decode prog_11_method_41_code 67 = .ok (.invokevirtual 293, 3) := by decide +kernel
theorem d_SqlReaderModel_constant_70 : decode prog_11_method_41_code 70 = .ok (.ifCond .ne 7, 3) := by decide +kernel
theorem d_SqlReaderModel_constant_73 : decode prog_11_method_41_code 73 = .ok (.iconst 1, 1) := by decide +kernel
theorem d_SqlReaderModel_constant_74 : decode prog_11_method_41_code 74 = .ok (.goto 4, 3) := by decide +kernel
theorem d_SqlReaderModel_constant_77 : decode prog_11_method_41_code 77 = .ok (.iconst 0, 1) := by decide +kernel
theorem d_SqlReaderModel_constant_78 : decode prog_11_method_41_code 78 = .ok (.putfield 226, 3) := by decide +kernel
theorem d_SqlReaderModel_constant_81 : decode prog_11_method_41_code 81 = .ok (.aload_n 0, 1) := by decide +kernel
theorem d_SqlReaderModel_constant_82 : decode prog_11_method_41_code 82 = .ok (.iload_n 2, 1) := by decide +kernel
theorem d_SqlReaderModel_constant_83 : decode prog_11_method_41_code 83 = .ok (.iconst 3, 1) := by decide +kernel
theorem d_SqlReaderModel_constant_84 : decode prog_11_method_41_code 84 = .ok (.if_icmp .ne 7, 3) := by decide +kernel
theorem d_SqlReaderModel_constant_87 : decode prog_11_method_41_code 87 = .ok (.iconst 1, 1) := by decide +kernel
theorem d_SqlReaderModel_constant_88 : decode prog_11_method_41_code 88 = .ok (.goto 31, 3) := by decide +kernel
theorem d_SqlReaderModel_constant_91 : decode prog_11_method_41_code 91 = .ok (.iload_n 2, 1) := by decide +kernel
theorem d_SqlReaderModel_constant_92 : decode prog_11_method_41_code 92 = .ok (.iconst 4, 1) := by decide +kernel
theorem d_SqlReaderModel_constant_93 : decode prog_11_method_41_code 93 = .ok (.if_icmp .ne 7, 3) := by decide +kernel
theorem d_SqlReaderModel_constant_96 : decode prog_11_method_41_code 96 = .ok (.iconst 2, 1) := by decide +kernel
theorem d_SqlReaderModel_constant_97 : decode prog_11_method_41_code 97 = .ok (.goto 22, 3) := by decide +kernel
theorem d_SqlReaderModel_constant_100 : decode prog_11_method_41_code 100 = .ok (.iload_n 2, 1) := by decide +kernel
theorem d_SqlReaderModel_constant_101 : decode prog_11_method_41_code 101 = .ok (.iconst 5, 1) := by decide +kernel
theorem d_SqlReaderModel_constant_102 : decode prog_11_method_41_code 102 = .ok (.if_icmp .ne 8, 3) := by decide +kernel
theorem d_SqlReaderModel_constant_105 : decode prog_11_method_41_code 105 = .ok (.bipush 28, 2) := by decide +kernel
theorem d_SqlReaderModel_constant_107 : decode prog_11_method_41_code 107 = .ok (.goto 12, 3) := by decide +kernel
theorem d_SqlReaderModel_constant_110 : decode prog_11_method_41_code 110 = .ok (.iload_n 3, 1) := by decide +kernel
theorem d_SqlReaderModel_constant_111 : decode prog_11_method_41_code 111 = .ok (.ifCond .eq 7, 3) := by decide +kernel
theorem d_SqlReaderModel_constant_114 : decode prog_11_method_41_code 114 = .ok (.iconst 3, 1) := by decide +kernel
theorem d_SqlReaderModel_constant_115 : decode prog_11_method_41_code 115 = .ok (.goto 4, 3) := by decide +kernel
theorem d_SqlReaderModel_constant_118 : decode prog_11_method_41_code 118 = .ok (.iconst 0, 1) := by decide +kernel
theorem d_SqlReaderModel_constant_119 : decode prog_11_method_41_code 119 = .ok (.iload_n 2, 1) := by decide +kernel
theorem d_SqlReaderModel_constant_120 : decode prog_11_method_41_code 120 = .ok (.iconst 5, 1) := by decide +kernel
theorem d_SqlReaderModel_constant_121 : decode prog_11_method_41_code 121 = .ok (.if_icmp .ne 22, 3) := by decide +kernel
theorem d_SqlReaderModel_constant_124 : decode prog_11_method_41_code 124 = .ok (.aload_n 0, 1) := by decide +kernel
theorem d_SqlReaderModel_constant_125 : decode prog_11_method_41_code 125 = .ok (.getfield 7, 3) := by decide +kernel
theorem d_SqlReaderModel_constant_128 : decode prog_11_method_41_code 128 = .ok (.aload_n 0, 1) := by decide +kernel
theorem d_SqlReaderModel_constant_129 : decode prog_11_method_41_code 129 = .ok (.getfield 17, 3) := by decide +kernel
theorem d_SqlReaderModel_constant_132 : decode prog_11_method_41_code 132 = .ok (.iload_n 1, 1) := by decide +kernel
theorem d_SqlReaderModel_constant_133 : decode prog_11_method_41_code 133 = .ok (.iaload, 1) := by decide +kernel
theorem d_SqlReaderModel_constant_134 : decode prog_11_method_41_code 134 = .ok (.iconst 1, 1) := by decide +kernel
theorem d_SqlReaderModel_constant_135 : decode prog_11_method_41_code 135 = .ok (.iadd, 1) := by decide +kernel
theorem d_SqlReaderModel_constant_136 : decode prog_11_method_41_code 136 = .ok (.baload, 1) := by decide +kernel
theorem d_SqlReaderModel_constant_137 : decode prog_11_method_41_code 137 = .ok (.bipush 48, 2) := by decide +kernel
theorem d_SqlReaderModel_constant_139 : decode prog_11_method_41_code 139 = .ok (.isub, 1) := by decide +kernel
theorem d_SqlReaderModel_constant_140 : decode prog_11_method_41_code 140 = .ok (.goto 31, 3) := by decide +kernel
theorem d_SqlReaderModel_constant_143 : decode prog_11_method_41_code 143 = .ok (.iload_n 3, 1) := by decide +kernel
theorem d_SqlReaderModel_constant_144 : decode prog_11_method_41_code 144 = .ok (.ifCond .eq 18, 3) := by decide +kernel
theorem d_SqlReaderModel_constant_147 : decode prog_11_method_41_code 147 = .ok (.aload_n 0, 1) := by decide +kernel
theorem d_SqlReaderModel_constant_148 : decode prog_11_method_41_code 148 = .ok (.iload_n 1, 1) := by decide +kernel
theorem d_SqlReaderModel_constant_149 : decode prog_11_method_41_code 149 = .ok (.ldc_w 299, 3) := by decide +kernel
theorem d_SqlReaderModel_constant_152 : decode prog_11_method_41_code 152 = .ok (.invokevirtual 293, 3) := by decide +kernel
theorem d_SqlReaderModel_constant_155 : decode prog_11_method_41_code 155 = .ok (.ifCond .eq 7, 3) := by decide +kernel
