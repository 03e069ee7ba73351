theorem d_SqlReaderModel_constant_158 : decode prog_11_method_41_code 158 = .ok (.iconst 1, 1) := by decide +kernel
theorem d_SqlReaderModel_constant_159 : decode prog_11_method_41_code 159 = .ok (.goto 12, 3) := by decide +kernel
theorem d_SqlReaderModel_constant_162 : decode prog_11_method_41_code 162 = .ok (.iload_n 3, 1) := by decide +kernel
theorem d_SqlReaderModel_constant_163 : decode prog_11_method_41_code 163 = .ok (.ifCond .eq 7, 3) := by decide +kernel
theorem d_SqlReaderModel_constant_166 : decode prog_11_method_41_code 166 = .ok (.iconst 0, 1) := by decide +kernel
theorem d_SqlReaderModel_constant_167 : decode prog_11_method_41_code 167 = .ok (.goto 4, 3) := by decide +kernel
theorem d_SqlReaderModel_constant_170 : decode prog_11_method_41_code 170 = .ok (.iconst (-1), 1) := by decide +kernel
theorem d_SqlReaderModel_constant_171 : decode prog_11_method_41_code 171 = .ok (.iconst (-1), 1) := by decide +kernel
theorem d_SqlReaderModel_constant_172 : decode prog_11_method_41_code 172 = .ok (.invokevirtual 287, 3) := by decide +kernel
theorem d_SqlReaderModel_constant_175 : decode prog_11_method_41_code 175 = .ok (.istore 4, 2) := by decide +kernel
theorem d_SqlReaderModel_constant_177 : decode prog_11_method_41_code 177 = .ok (.iload 4, 2) := by decide +kernel
theorem d_SqlReaderModel_constant_179 : decode prog_11_method_41_code 179 = .ok (.sipush 200, 3) := by decide +kernel
theorem d_SqlReaderModel_constant_182 : decode prog_11_method_41_code 182 = .ok (.if_icmp .ge 125, 3) := by decide +kernel
theorem d_SqlReaderModel_constant_185 : decode prog_11_method_41_code 185 = .ok (.aload_n 0, 1) := by decide +kernel
theorem d_SqlReaderModel_constant_186 : decode prog_11_method_41_code 186 = .ok (.getfield 59, 3) := by decide +kernel
theorem d_SqlReaderModel_constant_189 : decode prog_11_method_41_code 189 = .ok (.iload 4, 2) := by decide +kernel
theorem d_SqlReaderModel_constant_191 : decode prog_11_method_41_code 191 = .ok (.iload_n 2, 1) := by decide +kernel
theorem d_SqlReaderModel_constant_192 : decode prog_11_method_41_code 192 = .ok (.iconst 3, 1) := by decide +kernel
theorem d_SqlReaderModel_constant_193 : decode prog_11_method_41_code 193 = .ok (.if_icmp .ne 11, 3) := by decide +kernel
theorem d_SqlReaderModel_constant_196 : decode prog_11_method_41_code 196 = .ok (.aload_n 0, 1) := by decide +kernel
theorem d_SqlReaderModel_constant_197 : decode prog_11_method_41_code 197 = .ok (.iload_n 1, 1) := by decide +kernel
theorem d_SqlReaderModel_constant_198 : decode prog_11_method_41_code 198 = .ok (.invokevirtual 415, 3) := by decide +kernel
theorem d_SqlReaderModel_constant_201 : decode prog_11_method_41_code 201 = .ok (.goto 4, 3) := by decide +kernel
theorem d_SqlReaderModel_constant_204 : decode prog_11_method_41_code 204 = .ok (.lconst 0, 1) := by decide +kernel
theorem d_SqlReaderModel_constant_205 : decode prog_11_method_41_code 205 = .ok (.lastore, 1) := by decide +kernel
theorem d_SqlReaderModel_constant_206 : decode prog_11_method_41_code 206 = .ok (.aload_n 0, 1) := by decide +kernel
theorem d_SqlReaderModel_constant_207 : decode prog_11_method_41_code 207 = .ok (.getfield 66, 3) := by decide +kernel
theorem d_SqlReaderModel_constant_210 : decode prog_11_method_41_code 210 = .ok (.iload 4, 2) := by decide +kernel
theorem d_SqlReaderModel_constant_212 : decode prog_11_method_41_code 212 = .ok (.iconst 0, 1) := by decide +kernel
theorem d_SqlReaderModel_constant_213 : decode prog_11_method_41_code 213 = .ok (.iastore, 1) := by decide +kernel
theorem d_SqlReaderModel_constant_214 : decode prog_11_method_41_code 214 = .ok (.aload_n 0, 1) := by decide +kernel
theorem d_SqlReaderModel_constant_215 : decode prog_11_method_41_code 215 = .ok (.getfield 17, 3) := by decide +kernel
theorem d_SqlReaderModel_constant_218 : decode prog_11_method_41_code 218 = .ok (.iload_n 1, 1) := by decide +kernel
theorem d_SqlReaderModel_constant_219 : decode prog_11_method_41_code 219 = .ok (.iaload, 1) := by decide +kernel
theorem d_SqlReaderModel_constant_220 : decode prog_11_method_41_code 220 = .ok (.iconst 1, 1) := by decide +kernel
theorem d_SqlReaderModel_constant_221 : decode prog_11_method_41_code 221 = .ok (.iadd, 1) := by decide +kernel
theorem d_SqlReaderModel_constant_222 : decode prog_11_method_41_code 222 = .ok (.istore 5, 2) := by decide +kernel
theorem d_SqlReaderModel_constant_224 : decode prog_11_method_41_code 224 = .ok (.iload_n 2, 1) := by decide +kernel
theorem d_SqlReaderModel_constant_225 : decode prog_11_method_41_code 225 = .ok (.iconst 4, 1) := by decide +kernel
theorem d_SqlReaderModel_constant_226 : decode prog_11_method_41_code 226 = .ok (.if_icmp .ne 81, 3) := by decide +kernel
theorem d_SqlReaderModel_constant_229 : decode prog_11_method_41_code 229 = .ok (.iload 5, 2) := by decide +kernel
theorem d_SqlReaderModel_constant_231 : decode prog_11_method_41_code 231 = .ok (.aload_n 0, 1) := by decide +kernel
theorem d_SqlReaderModel_constant_232 : decode prog_11_method_41_code 232 = .ok (.getfield 20, 3) := by decide +kernel
theorem d_SqlReaderModel_constant_235 : decode prog_11_method_41_code 235 = .ok (.iload_n 1, 1) := by decide +kernel
theorem d_SqlReaderModel_constant_236 : decode prog_11_method_41_code 236 = .ok (.iaload, 1) := by decide +kernel
theorem d_SqlReaderModel_constant_237 : decode prog_11_method_41_code 237 = .ok (.iconst 1, 1) := by decide +kernel
theorem d_SqlReaderModel_constant_238 : decode prog_11_method_41_code 238 = .ok (.isub, 1) := by decide +kernel
theorem d_SqlReaderModel_constant_239 : decode prog_11_method_41_code 239 = .ok (.if_icmp .ge 68, 3) := by decide +kernel
theorem d_SqlReaderModel_constant_242 : decode prog_11_method_41_code 242 = .ok (.aload_n 0, 1) := by decide +kernel
theorem d_SqlReaderModel_constant_243 : decode prog_11_method_41_code 243 = .ok (.getfield 63, 3) := by decide +kernel
theorem d_SqlReaderModel_constant_246 : decode prog_11_method_41_code 246 = .ok (.bipush 31, 2) := by decide +kernel
theorem d_SqlReaderModel_constant_248 : decode prog_11_method_41_code 248 = .ok (.iload 4, 2) := by decide +kernel
theorem d_SqlReaderModel_constant_250 : decode prog_11_method_41_code 250 = .ok (.imul, 1) := by decide +kernel
theorem d_SqlReaderModel_constant_251 : decode prog_11_method_41_code 251 = .ok (.aload_n 0, 1) := by decide +kernel
theorem d_SqlReaderModel_constant_252 : decode prog_11_method_41_code 252 = .ok (.getfield 66, 3) := by decide +kernel
theorem d_SqlReaderModel_constant_255 : decode prog_11_method_41_code 255 = .ok (.iload 4, 2) := by decide +kernel
theorem d_SqlReaderModel_constant_257 : decode prog_11_method_41_code 257 = .ok (.iaload, 1) := by decide +kernel
theorem d_SqlReaderModel_constant_258 : decode prog_11_method_41_code 258 = .ok (.iadd, 1) := by decide +kernel
theorem d_SqlReaderModel_constant_259 : decode prog_11_method_41_code 259 = .ok (.aload_n 0, 1) := by decide +kernel
theorem d_SqlReaderModel_constant_260 : decode prog_11_method_41_code 260 = .ok (.getfield 7, 3) := by decide +kernel
theorem d_SqlReaderModel_constant_263 : decode prog_11_method_41_code 263 = .ok (.iload 5, 2) := by decide +kernel
theorem d_SqlReaderModel_constant_265 : decode prog_11_method_41_code 265 = .ok (.baload, 1) := by decide +kernel
theorem d_SqlReaderModel_constant_266 : decode prog_11_method_41_code 266 = .ok (.bastore, 1) := by decide +kernel
theorem d_SqlReaderModel_constant_267 : decode prog_11_method_41_code 267 = .ok (.aload_n 0, 1) := by decide +kernel
theorem d_SqlReaderModel_constant_268 : decode prog_11_method_41_code 268 = .ok (.getfield 66, 3) := by decide +kernel
theorem d_SqlReaderModel_constant_271 : decode prog_11_method_41_code 271 = .ok (.iload 4, 2) := by decide +kernel
theorem d_SqlReaderModel_constant_273 : decode prog_11_method_41_code 273 = .ok (.dup2, 1) := by decide +kernel
theorem d_SqlReaderModel_constant_274 : decode prog_11_method_41_code 274 = .ok (.iaload, 1) := by decide +kernel
theorem d_SqlReaderModel_constant_275 : decode prog_11_method_41_code 275 = .ok (.iconst 1, 1) := by decide +kernel
theorem d_SqlReaderModel_constant_276 : decode prog_11_method_41_code 276 = .ok (.iadd, 1) := by decide +kernel
theorem d_SqlReaderModel_constant_277 : decode prog_11_method_41_code 277 = .ok (.iastore, 1) := by decide +kernel
theorem d_SqlReaderModel_constant_278 : decode prog_11_method_41_code 278 = .ok (.aload_n 0, 1) := by decide +kernel
theorem d_SqlReaderModel_constant_279 : decode prog_11_method_41_code 279 = .ok (.getfield 7, 3) := by decide +kernel
theorem d_SqlReaderModel_constant_282 : decode prog_11_method_41_code 282 = .ok (.iload 5, 2) := by decide +kernel
theorem d_SqlReaderModel_constant_284 : decode prog_11_method_41_code 284 = .ok (.baload, 1) := by decide +kernel
theorem d_SqlReaderModel_constant_285 : decode prog_11_method_41_code 285 = .ok (.bipush 39, 2) := by decide +kernel
theorem d_SqlReaderModel_constant_287 : decode prog_11_method_41_code 287 = .ok (.if_icmp .ne 10, 3) := by decide +kernel
theorem d_SqlReaderModel_constant_290 : decode prog_11_method_41_code 290 = .ok (.iload 5, 2) := by decide +kernel
theorem d_SqlReaderModel_constant_292 : decode prog_11_method_41_code 292 = .ok (.iconst 1, 1) := by decide +kernel
theorem d_SqlReaderModel_constant_293 : decode prog_11_method_41_code 293 = .ok (.iadd, 1) := by decide +kernel
theorem d_SqlReaderModel_constant_294 : decode prog_11_method_41_code 294 = .ok (.goto 5, 3) := by decide +kernel
theorem d_SqlReaderModel_constant_297 : decode prog_11_method_41_code 297 = .ok (.iload 5, 2) := by decide +kernel
theorem d_SqlReaderModel_constant_299 : decode prog_11_method_41_code 299 = .ok (.istore 5, 2) := by decide +kernel
theorem d_SqlReaderModel_constant_301 : decode prog_11_method_41_code 301 = .ok (.iinc 5 1, 3) := by decide +kernel
theorem d_SqlReaderModel_constant_304 : decode prog_11_method_41_code 304 = .ok (.goto (-80), 3) := by decide +kernel
theorem d_SqlReaderModel_constant_307 : decode prog_11_method_41_code 307 = .ok (.aload_n 0, 1) := by decide +kernel
theorem d_SqlReaderModel_constant_308 : decode prog_11_method_41_code 308 = .ok (.iload_n 2, 1) := by decide +kernel
theorem d_SqlReaderModel_constant_309 : decode prog_11_method_41_code 309 = .ok (.iconst 5, 1) := by decide +kernel
theorem d_SqlReaderModel_constant_310 : decode prog_11_method_41_code 310 = .ok (.if_icmp .ne 45, 3) := by decide +kernel
theorem d_SqlReaderModel_constant_313 : decode prog_11_method_41_code 313 = .ok (.aload_n 0, 1) := by decide +kernel
theorem d_SqlReaderModel_constant_314 : decode prog_11_method_41_code 314 = .ok (.getfield 7, 3) := by decide +kernel
theorem d_SqlReaderModel_constant_317 : decode prog_11_method_41_code 317 = .ok (.aload_n 0, 1) := by decide +kernel
theorem d_SqlReaderModel_constant_318 : decode prog_11_method_41_code 318 = .ok (.getfield 17, 3) := by decide +kernel
theorem d_SqlReaderModel_constant_321 : decode prog_11_method_41_code 321 = .ok (.iload_n 1, 1) := by decide +kernel
theorem d_SqlReaderModel_constant_322 : decode prog_11_method_41_code 322 = .ok (.iaload, 1) := by decide +kernel
theorem d_SqlReaderModel_constant_323 : decode prog_11_method_41_code 323 = .ok (.iconst 1, 1) := by decide +kernel
theorem d_SqlReaderModel_constant_324 : decode prog_11_method_41_code 324 = .ok (.iadd, 1) := by decide +kernel
theorem d_SqlReaderModel_constant_325 : decode prog_11_method_41_code 325 = .ok (.baload, 1) := by decide +kernel
theorem d_SqlReaderModel_constant_326 : decode prog_11_method_41_code 326 = .ok (.bipush 48, 2) := by decide +kernel
theorem d_SqlReaderModel_constant_328 : decode prog_11_method_41_code 328 = .ok (.isub, 1) := by decide +kernel
theorem d_SqlReaderModel_constant_329 : decode prog_11_method_41_code 329 = .ok (.aload_n 0, 1) := by decide +kernel
theorem d_SqlReaderModel_constant_330 : decode prog_11_method_41_code 330 = .ok (.getfield 210, 3) := by decide +kernel
theorem d_SqlReaderModel_constant_333 : decode prog_11_method_41_code 333 = .ok (.if_icmp .le 22, 3) := by decide +kernel
theorem d_SqlReaderModel_constant_336 : decode prog_11_method_41_code 336 = .ok (.aload_n 0, 1) := by decide +kernel
theorem d_SqlReaderModel_constant_337 : decode prog_11_method_41_code 337 = .ok (.getfield 7, 3) := by decide +kernel
theorem d_SqlReaderModel_constant_340 : decode prog_11_method_41_code 340 = .ok (.aload_n 0, 1) := by decide +kernel
theorem d_SqlReaderModel_constant_341 : decode prog_11_method_41_code 341 = .ok (.getfield 17, 3) := by decide +kernel
theorem d_SqlReaderModel_constant_344 : decode prog_11_method_41_code 344 = .ok (.iload_n 1, 1) := by decide +kernel
theorem d_SqlReaderModel_constant_345 : decode prog_11_method_41_code 345 = .ok (.iaload, 1) := by decide +kernel
theorem d_SqlReaderModel_constant_346 : decode prog_11_method_41_code 346 = .ok (.iconst 1, 1) := by decide +kernel
theorem d_SqlReaderModel_constant_347 : decode prog_11_method_41_code 347 = .ok (.iadd, 1) := by decide +kernel
theorem d_SqlReaderModel_constant_348 : decode prog_11_method_41_code 348 = .ok (.baload, 1) := by decide +kernel
theorem d_SqlReaderModel_constant_349 : decode prog_11_method_41_code 349 = .ok (.bipush 48, 2) := by decide +kernel
theorem d_SqlReaderModel_constant_351 : decode prog_11_method_41_code 351 = .ok (.isub, 1) := by decide +kernel
theorem d_SqlReaderModel_constant_352 : decode prog_11_method_41_code 352 = .ok (.goto 7, 3) := by decide +kernel
theorem d_SqlReaderModel_constant_355 : decode prog_11_method_41_code 355 = .ok (.aload_n 0, 1) := by decide +kernel
theorem d_SqlReaderModel_constant_356 : decode prog_11_method_41_code 356 = .ok (.getfield 210, 3) := by decide +kernel
theorem d_SqlReaderModel_constant_359 : decode prog_11_method_41_code 359 = .ok (.putfield 210, 3) := by decide +kernel
theorem d_SqlReaderModel_constant_362 : decode prog_11_method_41_code 362 = .ok (.iload 4, 2) := by decide +kernel
theorem d_SqlReaderModel_constant_364 : decode prog_11_method_41_code 364 = .ok (.ireturn, 1) := by decide +kernel
theorem d_SqlReaderModel_count_0 : decode prog_11_method_90_code 0 = .ok (.iload_n 1, 1) := by decide +kernel
theorem d_SqlReaderModel_count_1 : decode prog_11_method_90_code 1 = .ok (.bipush 9, 2) := by decide +kernel
theorem d_SqlReaderModel_count_3 : decode prog_11_method_90_code 3 = .ok (.if_icmp .ge 115, 3) := by decide +kernel
theorem d_SqlReaderModel_count_6 : decode prog_11_method_90_code 6 = .ok (.iload_n 1, 1) := by decide +kernel
theorem d_SqlReaderModel_count_7 : decode prog_11_method_90_code 7 = .ok (.ifCond .ne 10, 3) := by decide +kernel
theorem d_SqlReaderModel_count_10 : decode prog_11_method_90_code 10 = .ok (.aload_n 0, 1) := by decide +kernel
theorem d_SqlReaderModel_count_11 : decode prog_11_method_90_code 11 = .ok (.getfield 133, 3) := by decide +kernel
theorem d_SqlReaderModel_count_14 : decode prog_11_method_90_code 14 = .ok (.goto 103, 3) := by decide +kernel
theorem d_SqlReaderModel_count_17 : decode prog_11_method_90_code 17 = .ok (.iload_n 1, 1) := by decide +kernel
theorem d_SqlReaderModel_count_18 : decode prog_11_method_90_code 18 = .ok (.iconst 1, 1) := by decide +kernel
theorem d_SqlReaderModel_count_19 : decode prog_11_method_90_code 19 = .ok (.if_icmp .ne 10, 3) := by decide +kernel
theorem d_SqlReaderModel_count_22 : decode prog_11_method_90_code 22 = .ok (.aload_n 0, 1) := by decide +kernel
theorem d_SqlReaderModel_count_23 : decode prog_11_method_90_code 23 = .ok (.getfield 174, 3) := by decide +kernel
theorem d_SqlReaderModel_count_26 : decode prog_11_method_90_code 26 = .ok (.goto 91, 3) := by decide +kernel
theorem d_SqlReaderModel_count_29 : decode prog_11_method_90_code 29 = .ok (.iload_n 1, 1) := by decide +kernel
theorem d_SqlReaderModel_count_30 : decode prog_11_method_90_code 30 = .ok (.iconst 2, 1) := by decide +kernel
theorem d_SqlReaderModel_count_31 : decode prog_11_method_90_code 31 = .ok (.if_icmp .ne 10, 3) := by decide +kernel
theorem d_SqlReaderModel_count_34 : decode prog_11_method_90_code 34 = .ok (.aload_n 0, 1) := by decide +kernel
theorem d_SqlReaderModel_count_35 : decode prog_11_method_90_code 35 = .ok (.getfield 177, 3) := by decide +kernel
theorem d_SqlReaderModel_count_38 : decode prog_11_method_90_code 38 = .ok (.goto 79, 3) := by decide +kernel
theorem d_SqlReaderModel_count_41 : decode prog_11_method_90_code 41 = .ok (.iload_n 1, 1) := by decide +kernel
theorem d_SqlReaderModel_count_42 : decode prog_11_method_90_code 42 = .ok (.iconst 3, 1) := by decide +kernel
theorem d_SqlReaderModel_count_43 : decode prog_11_method_90_code 43 = .ok (.if_icmp .ne 10, 3) := by decide +kernel
theorem d_SqlReaderModel_count_46 : decode prog_11_method_90_code 46 = .ok (.aload_n 0, 1) := by decide +kernel
theorem d_SqlReaderModel_count_47 : decode prog_11_method_90_code 47 = .ok (.getfield 180, 3) := by decide +kernel
theorem d_SqlReaderModel_count_50 : decode prog_11_method_90_code 50 = .ok (.goto 67, 3) := by decide +kernel
theorem d_SqlReaderModel_count_53 : decode prog_11_method_90_code 53 = .ok (.iload_n 1, 1) := by decide +kernel
theorem d_SqlReaderModel_count_54 : decode prog_11_method_90_code 54 = .ok (.iconst 4, 1) := by decide +kernel
theorem d_SqlReaderModel_count_55 : decode prog_11_method_90_code 55 = .ok (.if_icmp .ne 10, 3) := by decide +kernel
theorem d_SqlReaderModel_count_58 : decode prog_11_method_90_code 58 = .ok (.aload_n 0, 1) := by decide +kernel
theorem d_SqlReaderModel_count_59 : decode prog_11_method_90_code 59 = .ok (.getfield 183, 3) := by decide +kernel
theorem d_SqlReaderModel_count_62 : decode prog_11_method_90_code 62 = .ok (.goto 55, 3) := by decide +kernel
theorem d_SqlReaderModel_count_65 : decode prog_11_method_90_code 65 = .ok (.iload_n 1, 1) := by decide +kernel
theorem d_SqlReaderModel_count_66 : decode prog_11_method_90_code 66 = .ok (.iconst 5, 1) := by decide +kernel
theorem d_SqlReaderModel_count_67 : decode prog_11_method_90_code 67 = .ok (.if_icmp .ne 10, 3) := by decide +kernel
theorem d_SqlReaderModel_count_70 : decode prog_11_method_90_code 70 = .ok (.aload_n 0, 1) := by decide +kernel
theorem d_SqlReaderModel_count_71 : decode prog_11_method_90_code 71 = .ok (.getfield 186, 3) := by decide +kernel
theorem d_SqlReaderModel_count_74 : decode prog_11_method_90_code 74 = .ok (.goto 43, 3) := by decide +kernel
theorem d_SqlReaderModel_count_77 : decode prog_11_method_90_code 77 = .ok (.iload_n 1, 1) := by decide +kernel
theorem d_SqlReaderModel_count_78 : decode prog_11_method_90_code 78 = .ok (.bipush 6, 2) := by decide +kernel
theorem d_SqlReaderModel_count_80 : decode prog_11_method_90_code 80 = .ok (.if_icmp .ne 10, 3) := by decide +kernel
theorem d_SqlReaderModel_count_83 : decode prog_11_method_90_code 83 = .ok (.aload_n 0, 1) := by decide +kernel
theorem d_SqlReaderModel_count_84 : decode prog_11_method_90_code 84 = .ok (.getfield 189, 3) := by decide +kernel
theorem d_SqlReaderModel_count_87 : decode prog_11_method_90_code 87 = .ok (.goto 30, 3) := by decide +kernel
theorem d_SqlReaderModel_count_90 : decode prog_11_method_90_code 90 = .ok (.iload_n 1, 1) := by decide +kernel
theorem d_SqlReaderModel_count_91 : decode prog_11_method_90_code 91 = .ok (.bipush 7, 2) := by decide +kernel
theorem d_SqlReaderModel_count_93 : decode prog_11_method_90_code 93 = .ok (.if_icmp .ne 10, 3) := by decide +kernel
theorem d_SqlReaderModel_count_96 : decode prog_11_method_90_code 96 = .ok (.aload_n 0, 1) := by decide +kernel
theorem d_SqlReaderModel_count_97 : decode prog_11_method_90_code 97 = .ok (.getfield 198, 3) := by decide +kernel
theorem d_SqlReaderModel_count_100 : decode prog_11_method_90_code 100 = .ok (.goto 17, 3) := by decide +kernel
theorem d_SqlReaderModel_count_103 : decode prog_11_method_90_code 103 = .ok (.iload_n 1, 1) := by decide +kernel
theorem d_SqlReaderModel_count_104 : decode prog_11_method_90_code 104 = .ok (.bipush 8, 2) := by decide +kernel
theorem d_SqlReaderModel_count_106 : decode prog_11_method_90_code 106 = .ok (.if_icmp .ne 10, 3) := by decide +kernel
theorem d_SqlReaderModel_count_109 : decode prog_11_method_90_code 109 = .ok (.aload_n 0, 1) := by decide +kernel
theorem d_SqlReaderModel_count_110 : decode prog_11_method_90_code 110 = .ok (.getfield 210, 3) := by decide +kernel
theorem d_SqlReaderModel_count_113 : decode prog_11_method_90_code 113 = .ok (.goto 4, 3) := by decide +kernel
theorem d_SqlReaderModel_count_116 : decode prog_11_method_90_code 116 = .ok (.iconst (-1), 1) := by decide +kernel
theorem d_SqlReaderModel_count_117 : decode prog_11_method_90_code 117 = .ok (.ireturn, 1) := by decide +kernel
theorem d_SqlReaderModel_count_118 : decode prog_11_method_90_code 118 = .ok (.iload_n 1, 1) := by decide +kernel
theorem d_SqlReaderModel_count_119 : decode prog_11_method_90_code 119 = .ok (.bipush 14, 2) := by decide +kernel
theorem d_SqlReaderModel_count_121 : decode prog_11_method_90_code 121 = .ok (.if_icmp .ge 71, 3) := by decide +kernel
theorem d_SqlReaderModel_count_124 : decode prog_11_method_90_code 124 = .ok (.iload_n 1, 1) := by decide +kernel
theorem d_SqlReaderModel_count_125 : decode prog_11_method_90_code 125 = .ok (.bipush 9, 2) := by decide +kernel
theorem d_SqlReaderModel_count_127 : decode prog_11_method_90_code 127 = .ok (.if_icmp .ne 12, 3) := by decide +kernel
theorem d_SqlReaderModel_count_130 : decode prog_11_method_90_code 130 = .ok (.aload_n 0, 1) := by decide +kernel
theorem d_SqlReaderModel_count_131 : decode prog_11_method_90_code 131 = .ok (.bipush 9, 2) := by decide +kernel
theorem d_SqlReaderModel_count_133 : decode prog_11_method_90_code 133 = .ok (.invokevirtual 657, 3) := by decide +kernel
theorem d_SqlReaderModel_count_136 : decode prog_11_method_90_code 136 = .ok (.goto 55, 3) := by decide +kernel
theorem d_SqlReaderModel_count_139 : decode prog_11_method_90_code 139 = .ok (.iload_n 1, 1) := by decide +kernel
theorem d_SqlReaderModel_count_140 : decode prog_11_method_90_code 140 = .ok (.bipush 10, 2) := by decide +kernel
theorem d_SqlReaderModel_count_142 : decode prog_11_method_90_code 142 = .ok (.if_icmp .ne 10, 3) := by decide +kernel
theorem d_SqlReaderModel_count_145 : decode prog_11_method_90_code 145 = .ok (.aload_n 0, 1) := by decide +kernel
theorem d_SqlReaderModel_count_146 : decode prog_11_method_90_code 146 = .ok (.getfield 152, 3) := by decide +kernel
theorem d_SqlReaderModel_count_149 : decode prog_11_method_90_code 149 = .ok (.goto 42, 3) := by decide +kernel
theorem d_SqlReaderModel_count_152 : decode prog_11_method_90_code 152 = .ok (.iload_n 1, 1) := by decide +kernel
theorem d_SqlReaderModel_count_153 : decode prog_11_method_90_code 153 = .ok (.bipush 11, 2) := by decide +kernel
theorem d_SqlReaderModel_count_155 : decode prog_11_method_90_code 155 = .ok (.if_icmp .ne 18, 3) := by decide +kernel
theorem d_SqlReaderModel_count_158 : decode prog_11_method_90_code 158 = .ok (.aload_n 0, 1) := by decide +kernel
theorem d_SqlReaderModel_count_159 : decode prog_11_method_90_code 159 = .ok (.getfield 162, 3) := by decide +kernel
theorem d_SqlReaderModel_count_162 : decode prog_11_method_90_code 162 = .ok (.ifCond .eq 7, 3) := by decide +kernel
theorem d_SqlReaderModel_count_165 : decode prog_11_method_90_code 165 = .ok (.iconst 1, 1) := by decide +kernel
theorem d_SqlReaderModel_count_166 : decode prog_11_method_90_code 166 = .ok (.goto 25, 3) := by decide +kernel
theorem d_SqlReaderModel_count_169 : decode prog_11_method_90_code 169 = .ok (.iconst 0, 1) := by decide +kernel
theorem d_SqlReaderModel_count_170 : decode prog_11_method_90_code 170 = .ok (.goto 21, 3) := by decide +kernel
theorem d_SqlReaderModel_count_173 : decode prog_11_method_90_code 173 = .ok (.iload_n 1, 1) := by decide +kernel
theorem d_SqlReaderModel_count_174 : decode prog_11_method_90_code 174 = .ok (.bipush 12, 2) := by decide +kernel
theorem d_SqlReaderModel_count_176 : decode prog_11_method_90_code 176 = .ok (.if_icmp .ne 11, 3) := by decide +kernel
theorem d_SqlReaderModel_count_179 : decode prog_11_method_90_code 179 = .ok (.aload_n 0, 1) := by decide +kernel
theorem d_SqlReaderModel_count_180 : decode prog_11_method_90_code 180 = .ok (.getfield 167, 3) := by decide +kernel
theorem d_SqlReaderModel_count_183 : decode prog_11_method_90_code 183 = .ok (.l2i, 1) := by decide +kernel
theorem d_SqlReaderModel_count_184 : decode prog_11_method_90_code 184 = .ok (.goto 7, 3) := by decide +kernel
theorem d_SqlReaderModel_count_187 : decode prog_11_method_90_code 187 = .ok (.aload_n 0, 1) := by decide +kernel
theorem d_SqlReaderModel_count_188 : decode prog_11_method_90_code 188 = .ok (.getfield 171, 3) := by decide +kernel
theorem d_SqlReaderModel_count_191 : decode prog_11_method_90_code 191 = .ok (.ireturn, 1) := by decide +kernel
theorem d_SqlReaderModel_count_192 : decode prog_11_method_90_code 192 = .ok (.iload_n 1, 1) := by decide +kernel
theorem d_SqlReaderModel_count_193 : decode prog_11_method_90_code 193 = .ok (.bipush 14, 2) := by decide +kernel
theorem d_SqlReaderModel_count_195 : decode prog_11_method_90_code 195 = .ok (.if_icmp .ne 10, 3) := by decide +kernel
theorem d_SqlReaderModel_count_198 : decode prog_11_method_90_code 198 = .ok (.aload_n 0, 1) := by decide +kernel
theorem d_SqlReaderModel_count_199 : decode prog_11_method_90_code 199 = .ok (.getfield 143, 3) := by decide +kernel
theorem d_SqlReaderModel_count_202 : decode prog_11_method_90_code 202 = .ok (.goto 51, 3) := by decide +kernel
theorem d_SqlReaderModel_count_205 : decode prog_11_method_90_code 205 = .ok (.iload_n 1, 1) := by decide +kernel
theorem d_SqlReaderModel_count_206 : decode prog_11_method_90_code 206 = .ok (.bipush 15, 2) := by decide +kernel
theorem d_SqlReaderModel_count_208 : decode prog_11_method_90_code 208 = .ok (.if_icmp .ne 10, 3) := by decide +kernel
theorem d_SqlReaderModel_count_211 : decode prog_11_method_90_code 211 = .ok (.aload_n 0, 1) := by decide +kernel
theorem d_SqlReaderModel_count_212 : decode prog_11_method_90_code 212 = .ok (.getfield 146, 3) := by decide +kernel
theorem d_SqlReaderModel_count_215 : decode prog_11_method_90_code 215 = .ok (.goto 38, 3) := by decide +kernel
theorem d_SqlReaderModel_count_218 : decode prog_11_method_90_code 218 = .ok (.iload_n 1, 1) := by decide +kernel
theorem d_SqlReaderModel_count_219 : decode prog_11_method_90_code 219 = .ok (.bipush 16, 2) := by decide +kernel
theorem d_SqlReaderModel_count_221 : decode prog_11_method_90_code 221 = .ok (.if_icmp .ne 10, 3) := by decide +kernel
theorem d_SqlReaderModel_count_224 : decode prog_11_method_90_code 224 = .ok (.aload_n 0, 1) := by decide +kernel
theorem d_SqlReaderModel_count_225 : decode prog_11_method_90_code 225 = .ok (.getfield 201, 3) := by decide +kernel
theorem d_SqlReaderModel_count_228 : decode prog_11_method_90_code 228 = .ok (.goto 25, 3) := by decide +kernel
theorem d_SqlReaderModel_count_231 : decode prog_11_method_90_code 231 = .ok (.iload_n 1, 1) := by decide +kernel
theorem d_SqlReaderModel_count_232 : decode prog_11_method_90_code 232 = .ok (.bipush 17, 2) := by decide +kernel
theorem d_SqlReaderModel_count_234 : decode prog_11_method_90_code 234 = .ok (.if_icmp .ne 18, 3) := by decide +kernel
theorem d_SqlReaderModel_count_237 : decode prog_11_method_90_code 237 = .ok (.aload_n 0, 1) := by decide +kernel
theorem d_SqlReaderModel_count_238 : decode prog_11_method_90_code 238 = .ok (.getfield 207, 3) := by decide +kernel
theorem d_SqlReaderModel_count_241 : decode prog_11_method_90_code 241 = .ok (.ifCond .eq 7, 3) := by decide +kernel
theorem d_SqlReaderModel_count_244 : decode prog_11_method_90_code 244 = .ok (.iconst 1, 1) := by decide +kernel
theorem d_SqlReaderModel_count_245 : decode prog_11_method_90_code 245 = .ok (.goto 8, 3) := by decide +kernel
theorem d_SqlReaderModel_count_248 : decode prog_11_method_90_code 248 = .ok (.iconst 0, 1) := by decide +kernel
theorem d_SqlReaderModel_count_249 : decode prog_11_method_90_code 249 = .ok (.goto 4, 3) := by decide +kernel
theorem d_SqlReaderModel_count_252 : decode prog_11_method_90_code 252 = .ok (.iconst (-1), 1) := by decide +kernel
theorem d_SqlReaderModel_count_253 : decode prog_11_method_90_code 253 = .ok (.ireturn, 1) := by decide +kernel
theorem d_SqlReaderModel_counts_0 : decode prog_11_method_78_code 0 = .ok (.aload_n 0, 1) := by decide +kernel
theorem d_SqlReaderModel_counts_1 : decode prog_11_method_78_code 1 = .ok (.getfield 192, 3) := by decide +kernel
theorem d_SqlReaderModel_counts_4 : decode prog_11_method_78_code 4 = .ok (.ifCond .ne 47, 3) := by decide +kernel
theorem d_SqlReaderModel_counts_7 : decode prog_11_method_78_code 7 = .ok (.aload_n 0, 1) := by decide +kernel
theorem d_SqlReaderModel_counts_8 : decode prog_11_method_78_code 8 = .ok (.invokevirtual 607, 3) := by decide +kernel
theorem d_SqlReaderModel_counts_11 : decode prog_11_method_78_code 11 = .ok (.iconst 5, 1) := by decide +kernel
theorem d_SqlReaderModel_counts_12 : decode prog_11_method_78_code 12 = .ok (.if_icmp .ne 19, 3) := by decide +kernel
theorem d_SqlReaderModel_counts_15 : decode prog_11_method_78_code 15 = .ok (.aload_n 0, 1) := by decide +kernel
theorem d_SqlReaderModel_counts_16 : decode prog_11_method_78_code 16 = .ok (.getfield 174, 3) := by decide +kernel
theorem d_SqlReaderModel_counts_19 : decode prog_11_method_78_code 19 = .ok (.aload_n 0, 1) := by decide +kernel
theorem d_SqlReaderModel_counts_20 : decode prog_11_method_78_code 20 = .ok (.getfield 29, 3) := by decide +kernel
theorem d_SqlReaderModel_counts_23 : decode prog_11_method_78_code 23 = .ok (.aload_n 0, 1) := by decide +kernel
theorem d_SqlReaderModel_counts_24 : decode prog_11_method_78_code 24 = .ok (.getfield 146, 3) := by decide +kernel
theorem d_SqlReaderModel_counts_27 : decode prog_11_method_78_code 27 = .ok (.iaload, 1) := by decide +kernel
theorem d_SqlReaderModel_counts_28 : decode prog_11_method_78_code 28 = .ok (.if_icmp .ne 23, 3) := by decide +kernel
theorem d_SqlReaderModel_counts_31 : decode prog_11_method_78_code 31 = .ok (.aload_n 0, 1) := by decide +kernel
theorem d_SqlReaderModel_counts_32 : decode prog_11_method_78_code 32 = .ok (.getfield 210, 3) := by decide +kernel
theorem d_SqlReaderModel_counts_35 : decode prog_11_method_78_code 35 = .ok (.ifCond .eq 12, 3) := by decide +kernel
theorem d_SqlReaderModel_counts_38 : decode prog_11_method_78_code 38 = .ok (.aload_n 0, 1) := by decide +kernel
theorem d_SqlReaderModel_counts_39 : decode prog_11_method_78_code 39 = .ok (.getfield 140, 3) := by decide +kernel
theorem d_SqlReaderModel_counts_42 : decode prog_11_method_78_code 42 = .ok (.bipush 16, 2) := by decide +kernel
theorem d_SqlReaderModel_counts_44 : decode prog_11_method_78_code 44 = .ok (.if_icmp .ne 7, 3) := by decide +kernel
theorem d_SqlReaderModel_counts_47 : decode prog_11_method_78_code 47 = .ok (.iconst 1, 1) := by decide +kernel
theorem d_SqlReaderModel_counts_48 : decode prog_11_method_78_code 48 = .ok (.goto 4, 3) := by decide +kernel
theorem d_SqlReaderModel_counts_51 : decode prog_11_method_78_code 51 = .ok (.iconst 0, 1) := by decide +kernel
theorem d_SqlReaderModel_counts_52 : decode prog_11_method_78_code 52 = .ok (.istore_n 1, 1) := by decide +kernel
theorem d_SqlReaderModel_counts_53 : decode prog_11_method_78_code 53 = .ok (.iconst 0, 1) := by decide +kernel
theorem d_SqlReaderModel_counts_54 : decode prog_11_method_78_code 54 = .ok (.istore_n 2, 1) := by decide +kernel
theorem d_SqlReaderModel_counts_55 : decode prog_11_method_78_code 55 = .ok (.iload_n 2, 1) := by decide +kernel
theorem d_SqlReaderModel_counts_56 : decode prog_11_method_78_code 56 = .ok (.aload_n 0, 1) := by decide +kernel
theorem d_SqlReaderModel_counts_57 : decode prog_11_method_78_code 57 = .ok (.getfield 186, 3) := by decide +kernel
theorem d_SqlReaderModel_counts_60 : decode prog_11_method_78_code 60 = .ok (.if_icmp .ge 47, 3) := by decide +kernel
theorem d_SqlReaderModel_counts_63 : decode prog_11_method_78_code 63 = .ok (.iconst 0, 1) := by decide +kernel
theorem d_SqlReaderModel_counts_64 : decode prog_11_method_78_code 64 = .ok (.istore_n 3, 1) := by decide +kernel
theorem d_SqlReaderModel_counts_65 : decode prog_11_method_78_code 65 = .ok (.iload_n 3, 1) := by decide +kernel
theorem d_SqlReaderModel_counts_66 : decode prog_11_method_78_code 66 = .ok (.iload_n 2, 1) := by decide +kernel
theorem d_SqlReaderModel_counts_67 : decode prog_11_method_78_code 67 = .ok (.if_icmp .ge 34, 3) := by decide +kernel
theorem d_SqlReaderModel_counts_70 : decode prog_11_method_78_code 70 = .ok (.iload_n 1, 1) := by decide +kernel
theorem d_SqlReaderModel_counts_71 : decode prog_11_method_78_code 71 = .ok (.ifCond .eq 22, 3) := by decide +kernel
theorem d_SqlReaderModel_counts_74 : decode prog_11_method_78_code 74 = .ok (.aload_n 0, 1) := by decide +kernel
theorem d_SqlReaderModel_counts_75 : decode prog_11_method_78_code 75 = .ok (.getfield 103, 3) := by decide +kernel
theorem d_SqlReaderModel_counts_78 : decode prog_11_method_78_code 78 = .ok (.iload_n 2, 1) := by decide +kernel
theorem d_SqlReaderModel_counts_79 : decode prog_11_method_78_code 79 = .ok (.iaload, 1) := by decide +kernel
theorem d_SqlReaderModel_counts_80 : decode prog_11_method_78_code 80 = .ok (.aload_n 0, 1) := by decide +kernel
theorem d_SqlReaderModel_counts_81 : decode prog_11_method_78_code 81 = .ok (.getfield 103, 3) := by decide +kernel
theorem d_SqlReaderModel_counts_84 : decode prog_11_method_78_code 84 = .ok (.iload_n 3, 1) := by decide +kernel
theorem d_SqlReaderModel_counts_85 : decode prog_11_method_78_code 85 = .ok (.iaload, 1) := by decide +kernel
theorem d_SqlReaderModel_counts_86 : decode prog_11_method_78_code 86 = .ok (.if_icmp .eq 7, 3) := by decide +kernel
theorem d_SqlReaderModel_counts_89 : decode prog_11_method_78_code 89 = .ok (.iconst 1, 1) := by decide +kernel
theorem d_SqlReaderModel_counts_90 : decode prog_11_method_78_code 90 = .ok (.goto 4, 3) := by decide +kernel
theorem d_SqlReaderModel_counts_93 : decode prog_11_method_78_code 93 = .ok (.iconst 0, 1) := by decide +kernel
theorem d_SqlReaderModel_counts_94 : decode prog_11_method_78_code 94 = .ok (.istore_n 1, 1) := by decide +kernel
theorem d_SqlReaderModel_counts_95 : decode prog_11_method_78_code 95 = .ok (.iinc 3 1, 3) := by decide +kernel
theorem d_SqlReaderModel_counts_98 : decode prog_11_method_78_code 98 = .ok (.goto (-33), 3) := by decide +kernel
theorem d_SqlReaderModel_counts_101 : decode prog_11_method_78_code 101 = .ok (.iinc 2 1, 3) := by decide +kernel
theorem d_SqlReaderModel_counts_104 : decode prog_11_method_78_code 104 = .ok (.goto (-49), 3) := by decide +kernel
theorem d_SqlReaderModel_counts_107 : decode prog_11_method_78_code 107 = .ok (.iconst 0, 1) := by decide +kernel
theorem d_SqlReaderModel_counts_108 : decode prog_11_method_78_code 108 = .ok (.istore_n 2, 1) := by decide +kernel
theorem d_SqlReaderModel_counts_109 : decode prog_11_method_78_code 109 = .ok (.iload_n 2, 1) := by decide +kernel
theorem d_SqlReaderModel_counts_110 : decode prog_11_method_78_code 110 = .ok (.aload_n 0, 1) := by decide +kernel
theorem d_SqlReaderModel_counts_111 : decode prog_11_method_78_code 111 = .ok (.getfield 180, 3) := by decide +kernel
theorem d_SqlReaderModel_counts_114 : decode prog_11_method_78_code 114 = .ok (.if_icmp .ge 45, 3) := by decide +kernel
theorem d_SqlReaderModel_counts_117 : decode prog_11_method_78_code 117 = .ok (.iload_n 1, 1) := by decide +kernel
theorem d_SqlReaderModel_counts_118 : decode prog_11_method_78_code 118 = .ok (.ifCond .eq 33, 3) := by decide +kernel
theorem d_SqlReaderModel_counts_121 : decode prog_11_method_78_code 121 = .ok (.aload_n 0, 1) := by decide +kernel
theorem d_SqlReaderModel_counts_122 : decode prog_11_method_78_code 122 = .ok (.getfield 84, 3) := by decide +kernel
theorem d_SqlReaderModel_counts_125 : decode prog_11_method_78_code 125 = .ok (.iload_n 2, 1) := by decide +kernel
theorem d_SqlReaderModel_counts_126 : decode prog_11_method_78_code 126 = .ok (.laload, 1) := by decide +kernel
theorem d_SqlReaderModel_counts_127 : decode prog_11_method_78_code 127 = .ok (.lconst 1, 1) := by decide +kernel
theorem d_SqlReaderModel_counts_128 : decode prog_11_method_78_code 128 = .ok (.lcmp, 1) := by decide +kernel
theorem d_SqlReaderModel_counts_129 : decode prog_11_method_78_code 129 = .ok (.ifCond .lt 22, 3) := by decide +kernel
theorem d_SqlReaderModel_counts_132 : decode prog_11_method_78_code 132 = .ok (.aload_n 0, 1) := by decide +kernel
theorem d_SqlReaderModel_counts_133 : decode prog_11_method_78_code 133 = .ok (.getfield 84, 3) := by decide +kernel
theorem d_SqlReaderModel_counts_136 : decode prog_11_method_78_code 136 = .ok (.iload_n 2, 1) := by decide +kernel
theorem d_SqlReaderModel_counts_137 : decode prog_11_method_78_code 137 = .ok (.laload, 1) := by decide +kernel
theorem d_SqlReaderModel_counts_138 : decode prog_11_method_78_code 138 = .ok (.aload_n 0, 1) := by decide +kernel
theorem d_SqlReaderModel_counts_139 : decode prog_11_method_78_code 139 = .ok (.getfield 174, 3) := by decide +kernel
theorem d_SqlReaderModel_counts_142 : decode prog_11_method_78_code 142 = .ok (.i2l, 1) := by decide +kernel
theorem d_SqlReaderModel_counts_143 : decode prog_11_method_78_code 143 = .ok (.lcmp, 1) := by decide +kernel
theorem d_SqlReaderModel_counts_144 : decode prog_11_method_78_code 144 = .ok (.ifCond .gt 7, 3) := by decide +kernel
theorem d_SqlReaderModel_counts_147 : decode prog_11_method_78_code 147 = .ok (.iconst 1, 1) := by decide +kernel
theorem d_SqlReaderModel_counts_148 : decode prog_11_method_78_code 148 = .ok (.goto 4, 3) := by decide +kernel
theorem d_SqlReaderModel_counts_151 : decode prog_11_method_78_code 151 = .ok (.iconst 0, 1) := by decide +kernel
theorem d_SqlReaderModel_counts_152 : decode prog_11_method_78_code 152 = .ok (.istore_n 1, 1) := by decide +kernel
theorem d_SqlReaderModel_counts_153 : decode prog_11_method_78_code 153 = .ok (.iinc 2 1, 3) := by decide +kernel
theorem d_SqlReaderModel_counts_156 : decode prog_11_method_78_code 156 = .ok (.goto (-47), 3) := by decide +kernel
theorem d_SqlReaderModel_counts_159 : decode prog_11_method_78_code 159 = .ok (.iconst 0, 1) := by decide +kernel
theorem d_SqlReaderModel_counts_160 : decode prog_11_method_78_code 160 = .ok (.istore_n 2, 1) := by decide +kernel
theorem d_SqlReaderModel_counts_161 : decode prog_11_method_78_code 161 = .ok (.iload_n 2, 1) := by decide +kernel
theorem d_SqlReaderModel_counts_162 : decode prog_11_method_78_code 162 = .ok (.aload_n 0, 1) := by decide +kernel
theorem d_SqlReaderModel_counts_163 : decode prog_11_method_78_code 163 = .ok (.getfield 198, 3) := by decide +kernel
theorem d_SqlReaderModel_counts_166 : decode prog_11_method_78_code 166 = .ok (.if_icmp .ge 51, 3) := by decide +kernel
theorem d_SqlReaderModel_counts_169 : decode prog_11_method_78_code 169 = .ok (.iconst 0, 1) := by decide +kernel
theorem d_SqlReaderModel_counts_170 : decode prog_11_method_78_code 170 = .ok (.istore_n 3, 1) := by decide +kernel
theorem d_SqlReaderModel_counts_171 : decode prog_11_method_78_code 171 = .ok (.iload_n 3, 1) := by decide +kernel
theorem d_SqlReaderModel_counts_172 : decode prog_11_method_78_code 172 = .ok (.iload_n 2, 1) := by decide +kernel
theorem d_SqlReaderModel_counts_173 : decode prog_11_method_78_code 173 = .ok (.if_icmp .ge 38, 3) := by decide +kernel
theorem d_SqlReaderModel_counts_176 : decode prog_11_method_78_code 176 = .ok (.iload_n 1, 1) := by decide +kernel
theorem d_SqlReaderModel_counts_177 : decode prog_11_method_78_code 177 = .ok (.ifCond .eq 26, 3) := by decide +kernel
theorem d_SqlReaderModel_counts_180 : decode prog_11_method_78_code 180 = .ok (.aload_n 0, 1) := by decide +kernel
theorem d_SqlReaderModel_counts_181 : decode prog_11_method_78_code 181 = .ok (.aload_n 0, 1) := by decide +kernel
theorem d_SqlReaderModel_counts_182 : decode prog_11_method_78_code 182 = .ok (.getfield 112, 3) := by decide +kernel
theorem d_SqlReaderModel_counts_185 : decode prog_11_method_78_code 185 = .ok (.iload_n 2, 1) := by decide +kernel
theorem d_SqlReaderModel_counts_186 : decode prog_11_method_78_code 186 = .ok (.iaload, 1) := by decide +kernel
theorem d_SqlReaderModel_counts_187 : decode prog_11_method_78_code 187 = .ok (.aload_n 0, 1) := by decide +kernel
theorem d_SqlReaderModel_counts_188 : decode prog_11_method_78_code 188 = .ok (.getfield 112, 3) := by decide +kernel
theorem d_SqlReaderModel_counts_191 : decode prog_11_method_78_code 191 = .ok (.iload_n 3, 1) := by decide +kernel
theorem d_SqlReaderModel_counts_192 : decode prog_11_method_78_code 192 = .ok (.iaload, 1) := by decide +kernel
theorem d_SqlReaderModel_counts_193 : decode prog_11_method_78_code 193 = .ok (.invokevirtual 585, 3) := by decide +kernel
theorem d_SqlReaderModel_counts_196 : decode prog_11_method_78_code 196 = .ok (.ifCond .ne 7, 3) := by decide +kernel
theorem d_SqlReaderModel_counts_199 : decode prog_11_method_78_code 199 = .ok (.iconst 1, 1) := by decide +kernel
theorem d_SqlReaderModel_counts_200 : decode prog_11_method_78_code 200 = .ok (.goto 4, 3) := by decide +kernel
theorem d_SqlReaderModel_counts_203 : decode prog_11_method_78_code 203 = .ok (.iconst 0, 1) := by decide +kernel
theorem d_SqlReaderModel_counts_204 : decode prog_11_method_78_code 204 = .ok (.istore_n 1, 1) := by decide +kernel
theorem d_SqlReaderModel_counts_205 : decode prog_11_method_78_code 205 = .ok (.iinc 3 1, 3) := by decide +kernel
theorem d_SqlReaderModel_counts_208 : decode prog_11_method_78_code 208 = .ok (.goto (-37), 3) := by decide +kernel
theorem d_SqlReaderModel_counts_211 : decode prog_11_method_78_code 211 = .ok (.iinc 2 1, 3) := by decide +kernel
theorem d_SqlReaderModel_counts_214 : decode prog_11_method_78_code 214 = .ok (.goto (-53), 3) := by decide +kernel
theorem d_SqlReaderModel_counts_217 : decode prog_11_method_78_code 217 = .ok (.iload_n 1, 1) := by decide +kernel
theorem d_SqlReaderModel_counts_218 : decode prog_11_method_78_code 218 = .ok (.ireturn, 1) := by decide +kernel
theorem d_SqlReaderModel_cut_0 : decode prog_11_method_10_code 0 = .ok (.aload_n 0, 1) := by decide +kernel
theorem d_SqlReaderModel_cut_1 : decode prog_11_method_10_code 1 = .ok (.iconst 0, 1) := by decide +kernel
theorem d_SqlReaderModel_cut_2 : decode prog_11_method_10_code 2 = .ok (.putfield 223, 3) := by decide +kernel
theorem d_SqlReaderModel_cut_5 : decode prog_11_method_10_code 5 = .ok (.aload_n 0, 1) := by decide +kernel
theorem d_SqlReaderModel_cut_6 : decode prog_11_method_10_code 6 = .ok (.iconst 0, 1) := by decide +kernel
theorem d_SqlReaderModel_cut_7 : decode prog_11_method_10_code 7 = .ok (.putfield 226, 3) := by decide +kernel
theorem d_SqlReaderModel_cut_10 : decode prog_11_method_10_code 10 = .ok (.iconst 0, 1) := by decide +kernel
theorem d_SqlReaderModel_cut_11 : decode prog_11_method_10_code 11 = .ok (.istore_n 1, 1) := by decide +kernel
theorem d_SqlReaderModel_cut_12 : decode prog_11_method_10_code 12 = .ok (.iload_n 1, 1) := by decide +kernel
theorem d_SqlReaderModel_cut_13 : decode prog_11_method_10_code 13 = .ok (.aload_n 0, 1) := by decide +kernel
theorem d_SqlReaderModel_cut_14 : decode prog_11_method_10_code 14 = .ok (.getfield 213, 3) := by decide +kernel
theorem d_SqlReaderModel_cut_17 : decode prog_11_method_10_code 17 = .ok (.if_icmp .ge 260, 3) := by decide +kernel
theorem d_SqlReaderModel_cut_20 : decode prog_11_method_10_code 20 = .ok (.aload_n 0, 1) := by decide +kernel
theorem d_SqlReaderModel_cut_21 : decode prog_11_method_10_code 21 = .ok (.getfield 226, 3) := by decide +kernel
theorem d_SqlReaderModel_cut_24 : decode prog_11_method_10_code 24 = .ok (.ifCond .ne 253, 3) := by decide +kernel
theorem d_SqlReaderModel_cut_27 : decode prog_11_method_10_code 27 = .ok (.aload_n 0, 1) := by decide +kernel
theorem d_SqlReaderModel_cut_28 : decode prog_11_method_10_code 28 = .ok (.getfield 7, 3) := by decide +kernel
theorem d_SqlReaderModel_cut_31 : decode prog_11_method_10_code 31 = .ok (.iload_n 1, 1) := by decide +kernel
theorem d_SqlReaderModel_cut_32 : decode prog_11_method_10_code 32 = .ok (.baload, 1) := by decide +kernel
theorem d_SqlReaderModel_cut_33 : decode prog_11_method_10_code 33 = .ok (.istore_n 2, 1) := by decide +kernel
theorem d_SqlReaderModel_cut_34 : decode prog_11_method_10_code 34 = .ok (.iload_n 1, 1) := by decide +kernel
theorem d_SqlReaderModel_cut_35 : decode prog_11_method_10_code 35 = .ok (.iconst 1, 1) := by decide +kernel
theorem d_SqlReaderModel_cut_36 : decode prog_11_method_10_code 36 = .ok (.iadd, 1) := by decide +kernel
theorem d_SqlReaderModel_cut_37 : decode prog_11_method_10_code 37 = .ok (.istore_n 3, 1) := by decide +kernel
theorem d_SqlReaderModel_cut_38 : decode prog_11_method_10_code 38 = .ok (.iload_n 2, 1) := by decide +kernel
theorem d_SqlReaderModel_cut_39 : decode prog_11_method_10_code 39 = .ok (.bipush 32, 2) := by decide +kernel
theorem d_SqlReaderModel_cut_41 : decode prog_11_method_10_code 41 = .ok (.if_icmp .ne 9, 3) := by decide +kernel
theorem d_SqlReaderModel_cut_44 : decode prog_11_method_10_code 44 = .ok (.iinc 1 1, 3) := by decide +kernel
theorem d_SqlReaderModel_cut_47 : decode prog_11_method_10_code 47 = .ok (.goto 227, 3) := by decide +kernel
theorem d_SqlReaderModel_cut_50 : decode prog_11_method_10_code 50 = .ok (.iload_n 2, 1) := by decide +kernel
theorem d_SqlReaderModel_cut_51 : decode prog_11_method_10_code 51 = .ok (.bipush 39, 2) := by decide +kernel
theorem d_SqlReaderModel_cut_53 : decode prog_11_method_10_code 53 = .ok (.if_icmp .ne 12, 3) := by decide +kernel
theorem d_SqlReaderModel_cut_56 : decode prog_11_method_10_code 56 = .ok (.aload_n 0, 1) := by decide +kernel
theorem d_SqlReaderModel_cut_57 : decode prog_11_method_10_code 57 = .ok (.iload_n 1, 1) := by decide +kernel
theorem d_SqlReaderModel_cut_58 : decode prog_11_method_10_code 58 = .ok (.invokevirtual 229, 3) := by decide +kernel
theorem d_SqlReaderModel_cut_61 : decode prog_11_method_10_code 61 = .ok (.istore_n 1, 1) := by decide +kernel
theorem d_SqlReaderModel_cut_62 : decode prog_11_method_10_code 62 = .ok (.goto 212, 3) := by decide +kernel
theorem d_SqlReaderModel_cut_65 : decode prog_11_method_10_code 65 = .ok (.iload_n 2, 1) := by decide +kernel
theorem d_SqlReaderModel_cut_66 : decode prog_11_method_10_code 66 = .ok (.invokestatic 233, 3) := by decide +kernel
theorem d_SqlReaderModel_cut_69 : decode prog_11_method_10_code 69 = .ok (.ifCond .eq 7, 3) := by decide +kernel
theorem d_SqlReaderModel_cut_72 : decode prog_11_method_10_code 72 = .ok (.iconst 1, 1) := by decide +kernel
theorem d_SqlReaderModel_cut_73 : decode prog_11_method_10_code 73 = .ok (.goto 27, 3) := by decide +kernel
theorem d_SqlReaderModel_cut_76 : decode prog_11_method_10_code 76 = .ok (.iload_n 2, 1) := by decide +kernel
theorem d_SqlReaderModel_cut_77 : decode prog_11_method_10_code 77 = .ok (.invokestatic 216, 3) := by decide +kernel
theorem d_SqlReaderModel_cut_80 : decode prog_11_method_10_code 80 = .ok (.ifCond .eq 7, 3) := by decide +kernel
theorem d_SqlReaderModel_cut_83 : decode prog_11_method_10_code 83 = .ok (.iconst 2, 1) := by decide +kernel
theorem d_SqlReaderModel_cut_84 : decode prog_11_method_10_code 84 = .ok (.goto 16, 3) := by decide +kernel
theorem d_SqlReaderModel_cut_87 : decode prog_11_method_10_code 87 = .ok (.iload_n 2, 1) := by decide +kernel
theorem d_SqlReaderModel_cut_88 : decode prog_11_method_10_code 88 = .ok (.invokestatic 220, 3) := by decide +kernel
theorem d_SqlReaderModel_cut_91 : decode prog_11_method_10_code 91 = .ok (.ifCond .eq 7, 3) := by decide +kernel
theorem d_SqlReaderModel_cut_94 : decode prog_11_method_10_code 94 = .ok (.iconst 3, 1) := by decide +kernel
theorem d_SqlReaderModel_cut_95 : decode prog_11_method_10_code 95 = .ok (.goto 5, 3) := by decide +kernel
theorem d_SqlReaderModel_cut_98 : decode prog_11_method_10_code 98 = .ok (.bipush 6, 2) := by decide +kernel
theorem d_SqlReaderModel_cut_100 : decode prog_11_method_10_code 100 = .ok (.istore 4, 2) := by decide +kernel
theorem d_SqlReaderModel_cut_102 : decode prog_11_method_10_code 102 = .ok (.iload 4, 2) := by decide +kernel
theorem d_SqlReaderModel_cut_104 : decode prog_11_method_10_code 104 = .ok (.iconst 1, 1) := by decide +kernel
theorem d_SqlReaderModel_cut_105 : decode prog_11_method_10_code 105 = .ok (.if_icmp .ne 14, 3) := by decide +kernel
theorem d_SqlReaderModel_cut_108 : decode prog_11_method_10_code 108 = .ok (.aload_n 0, 1) := by decide +kernel
theorem d_SqlReaderModel_cut_109 : decode prog_11_method_10_code 109 = .ok (.iload_n 3, 1) := by decide +kernel
theorem d_SqlReaderModel_cut_110 : decode prog_11_method_10_code 110 = .ok (.invokevirtual 236, 3) := by decide +kernel
theorem d_SqlReaderModel_cut_113 : decode prog_11_method_10_code 113 = .ok (.invokestatic 233, 3) := by decide +kernel
theorem d_SqlReaderModel_cut_116 : decode prog_11_method_10_code 116 = .ok (.ifCond .ne 37, 3) := by decide +kernel
theorem d_SqlReaderModel_cut_119 : decode prog_11_method_10_code 119 = .ok (.iload 4, 2) := by decide +kernel
theorem d_SqlReaderModel_cut_121 : decode prog_11_method_10_code 121 = .ok (.iconst 2, 1) := by decide +kernel
theorem d_SqlReaderModel_cut_122 : decode prog_11_method_10_code 122 = .ok (.if_icmp .ne 14, 3) := by decide +kernel
theorem d_SqlReaderModel_cut_125 : decode prog_11_method_10_code 125 = .ok (.aload_n 0, 1) := by decide +kernel
theorem d_SqlReaderModel_cut_126 : decode prog_11_method_10_code 126 = .ok (.iload_n 3, 1) := by decide +kernel
theorem d_SqlReaderModel_cut_127 : decode prog_11_method_10_code 127 = .ok (.invokevirtual 236, 3) := by decide +kernel
theorem d_SqlReaderModel_cut_130 : decode prog_11_method_10_code 130 = .ok (.invokestatic 239, 3) := by decide +kernel
theorem d_SqlReaderModel_cut_133 : decode prog_11_method_10_code 133 = .ok (.ifCond .ne 20, 3) := by decide +kernel
theorem d_SqlReaderModel_cut_136 : decode prog_11_method_10_code 136 = .ok (.iload 4, 2) := by decide +kernel
theorem d_SqlReaderModel_cut_138 : decode prog_11_method_10_code 138 = .ok (.iconst 3, 1) := by decide +kernel
theorem d_SqlReaderModel_cut_139 : decode prog_11_method_10_code 139 = .ok (.if_icmp .ne 20, 3) := by decide +kernel
theorem d_SqlReaderModel_cut_142 : decode prog_11_method_10_code 142 = .ok (.aload_n 0, 1) := by decide +kernel
theorem d_SqlReaderModel_cut_143 : decode prog_11_method_10_code 143 = .ok (.iload_n 3, 1) := by decide +kernel
theorem d_SqlReaderModel_cut_144 : decode prog_11_method_10_code 144 = .ok (.invokevirtual 236, 3) := by decide +kernel
theorem d_SqlReaderModel_cut_147 : decode prog_11_method_10_code 147 = .ok (.invokestatic 220, 3) := by decide +kernel
theorem d_SqlReaderModel_cut_150 : decode prog_11_method_10_code 150 = .ok (.ifCond .eq 9, 3) := by decide +kernel
theorem d_SqlReaderModel_cut_153 : decode prog_11_method_10_code 153 = .ok (.iinc 3 1, 3) := by decide +kernel
theorem d_SqlReaderModel_cut_156 : decode prog_11_method_10_code 156 = .ok (.goto (-54), 3) := by decide +kernel
theorem d_SqlReaderModel_cut_159 : decode prog_11_method_10_code 159 = .ok (.iload_n 2, 1) := by decide +kernel
theorem d_SqlReaderModel_cut_160 : decode prog_11_method_10_code 160 = .ok (.bipush 36, 2) := by decide +kernel
theorem d_SqlReaderModel_cut_162 : decode prog_11_method_10_code 162 = .ok (.if_icmp .ne 41, 3) := by decide +kernel
theorem d_SqlReaderModel_cut_165 : decode prog_11_method_10_code 165 = .ok (.aload_n 0, 1) := by decide +kernel
theorem d_SqlReaderModel_cut_166 : decode prog_11_method_10_code 166 = .ok (.aload_n 0, 1) := by decide +kernel
theorem d_SqlReaderModel_cut_167 : decode prog_11_method_10_code 167 = .ok (.iload_n 3, 1) := by decide +kernel
theorem d_SqlReaderModel_cut_168 : decode prog_11_method_10_code 168 = .ok (.invokevirtual 236, 3) := by decide +kernel
theorem d_SqlReaderModel_cut_171 : decode prog_11_method_10_code 171 = .ok (.bipush 49, 2) := by decide +kernel
theorem d_SqlReaderModel_cut_173 : decode prog_11_method_10_code 173 = .ok (.if_icmp .lt 13, 3) := by decide +kernel
theorem d_SqlReaderModel_cut_176 : decode prog_11_method_10_code 176 = .ok (.aload_n 0, 1) := by decide +kernel
theorem d_SqlReaderModel_cut_177 : decode prog_11_method_10_code 177 = .ok (.iload_n 3, 1) := by decide +kernel
theorem d_SqlReaderModel_cut_178 : decode prog_11_method_10_code 178 = .ok (.invokevirtual 236, 3) := by decide +kernel
theorem d_SqlReaderModel_cut_181 : decode prog_11_method_10_code 181 = .ok (.bipush 57, 2) := by decide +kernel
theorem d_SqlReaderModel_cut_183 : decode prog_11_method_10_code 183 = .ok (.if_icmp .le 7, 3) := by decide +kernel
theorem d_SqlReaderModel_cut_186 : decode prog_11_method_10_code 186 = .ok (.iconst 1, 1) := by decide +kernel
theorem d_SqlReaderModel_cut_187 : decode prog_11_method_10_code 187 = .ok (.goto 4, 3) := by decide +kernel
theorem d_SqlReaderModel_cut_190 : decode prog_11_method_10_code 190 = .ok (.iconst 0, 1) := by decide +kernel
theorem d_SqlReaderModel_cut_191 : decode prog_11_method_10_code 191 = .ok (.putfield 226, 3) := by decide +kernel
theorem d_SqlReaderModel_cut_194 : decode prog_11_method_10_code 194 = .ok (.iconst 5, 1) := by decide +kernel
theorem d_SqlReaderModel_cut_195 : decode prog_11_method_10_code 195 = .ok (.istore 4, 2) := by decide +kernel
theorem d_SqlReaderModel_cut_197 : decode prog_11_method_10_code 197 = .ok (.iinc 3 1, 3) := by decide +kernel
theorem d_SqlReaderModel_cut_200 : decode prog_11_method_10_code 200 = .ok (.goto 16, 3) := by decide +kernel
theorem d_SqlReaderModel_cut_203 : decode prog_11_method_10_code 203 = .ok (.iload 4, 2) := by decide +kernel
theorem d_SqlReaderModel_cut_205 : decode prog_11_method_10_code 205 = .ok (.bipush 6, 2) := by decide +kernel
theorem d_SqlReaderModel_cut_207 : decode prog_11_method_10_code 207 = .ok (.if_icmp .ne 9, 3) := by decide +kernel
theorem d_SqlReaderModel_cut_210 : decode prog_11_method_10_code 210 = .ok (.aload_n 0, 1) := by decide +kernel
theorem d_SqlReaderModel_cut_211 : decode prog_11_method_10_code 211 = .ok (.iload_n 1, 1) := by decide +kernel
theorem d_SqlReaderModel_cut_212 : decode prog_11_method_10_code 212 = .ok (.invokevirtual 242, 3) := by decide +kernel
theorem d_SqlReaderModel_cut_215 : decode prog_11_method_10_code 215 = .ok (.istore_n 3, 1) := by decide +kernel
theorem d_SqlReaderModel_cut_216 : decode prog_11_method_10_code 216 = .ok (.aload_n 0, 1) := by decide +kernel
theorem d_SqlReaderModel_cut_217 : decode prog_11_method_10_code 217 = .ok (.aload_n 0, 1) := by decide +kernel
theorem d_SqlReaderModel_cut_218 : decode prog_11_method_10_code 218 = .ok (.getfield 226, 3) := by decide +kernel
theorem d_SqlReaderModel_cut_221 : decode prog_11_method_10_code 221 = .ok (.ifCond .ne 35, 3) := by decide +kernel
theorem d_SqlReaderModel_cut_224 : decode prog_11_method_10_code 224 = .ok (.iload_n 3, 1) := by decide +kernel
theorem d_SqlReaderModel_cut_225 : decode prog_11_method_10_code 225 = .ok (.ifCond .lt 31, 3) := by decide +kernel
theorem d_SqlReaderModel_cut_228 : decode prog_11_method_10_code 228 = .ok (.iload 4, 2) := by decide +kernel
theorem d_SqlReaderModel_cut_230 : decode prog_11_method_10_code 230 = .ok (.iconst 2, 1) := by decide +kernel
theorem d_SqlReaderModel_cut_231 : decode prog_11_method_10_code 231 = .ok (.if_icmp .ne 11, 3) := by decide +kernel
theorem d_SqlReaderModel_cut_234 : decode prog_11_method_10_code 234 = .ok (.iload_n 3, 1) := by decide +kernel
theorem d_SqlReaderModel_cut_235 : decode prog_11_method_10_code 235 = .ok (.iload_n 1, 1) := by decide +kernel
theorem d_SqlReaderModel_cut_236 : decode prog_11_method_10_code 236 = .ok (.isub, 1) := by decide +kernel
theorem d_SqlReaderModel_cut_237 : decode prog_11_method_10_code 237 = .ok (.bipush 16, 2) := by decide +kernel
theorem d_SqlReaderModel_cut_239 : decode prog_11_method_10_code 239 = .ok (.if_icmp .gt 17, 3) := by decide +kernel
theorem d_SqlReaderModel_cut_242 : decode prog_11_method_10_code 242 = .ok (.iload 4, 2) := by decide +kernel
theorem d_SqlReaderModel_cut_244 : decode prog_11_method_10_code 244 = .ok (.iconst 3, 1) := by decide +kernel
theorem d_SqlReaderModel_cut_245 : decode prog_11_method_10_code 245 = .ok (.if_icmp .ne 15, 3) := by decide +kernel
theorem d_SqlReaderModel_cut_248 : decode prog_11_method_10_code 248 = .ok (.iload_n 3, 1) := by decide +kernel
theorem d_SqlReaderModel_cut_249 : decode prog_11_method_10_code 249 = .ok (.iload_n 1, 1) := by decide +kernel
theorem d_SqlReaderModel_cut_250 : decode prog_11_method_10_code 250 = .ok (.isub, 1) := by decide +kernel
theorem d_SqlReaderModel_cut_251 : decode prog_11_method_10_code 251 = .ok (.bipush 18, 2) := by decide +kernel
theorem d_SqlReaderModel_cut_253 : decode prog_11_method_10_code 253 = .ok (.if_icmp .le 7, 3) := by decide +kernel
theorem d_SqlReaderModel_cut_256 : decode prog_11_method_10_code 256 = .ok (.iconst 1, 1) := by decide +kernel
theorem d_SqlReaderModel_cut_257 : decode prog_11_method_10_code 257 = .ok (.goto 4, 3) := by decide +kernel
theorem d_SqlReaderModel_cut_260 : decode prog_11_method_10_code 260 = .ok (.iconst 0, 1) := by decide +kernel
theorem d_SqlReaderModel_cut_261 : decode prog_11_method_10_code 261 = .ok (.putfield 226, 3) := by decide +kernel
theorem d_SqlReaderModel_cut_264 : decode prog_11_method_10_code 264 = .ok (.aload_n 0, 1) := by decide +kernel
theorem d_SqlReaderModel_cut_265 : decode prog_11_method_10_code 265 = .ok (.iload 4, 2) := by decide +kernel
theorem d_SqlReaderModel_cut_267 : decode prog_11_method_10_code 267 = .ok (.iload_n 1, 1) := by decide +kernel
theorem d_SqlReaderModel_cut_268 : decode prog_11_method_10_code 268 = .ok (.iload_n 3, 1) := by decide +kernel
theorem d_SqlReaderModel_cut_269 : decode prog_11_method_10_code 269 = .ok (.invokevirtual 245, 3) := by decide +kernel
theorem d_SqlReaderModel_cut_272 : decode prog_11_method_10_code 272 = .ok (.iload_n 3, 1) := by decide +kernel
theorem d_SqlReaderModel_cut_273 : decode prog_11_method_10_code 273 = .ok (.istore_n 1, 1) := by decide +kernel
theorem d_SqlReaderModel_cut_274 : decode prog_11_method_10_code 274 = .ok (.goto (-262), 3) := by decide +kernel
theorem d_SqlReaderModel_cut_277 : decode prog_11_method_10_code 277 = .ok (.return_, 1) := by decide +kernel
theorem d_SqlReaderModel_cutText_0 : decode prog_11_method_12_code 0 = .ok (.iconst 0, 1) := by decide +kernel
theorem d_SqlReaderModel_cutText_1 : decode prog_11_method_12_code 1 = .ok (.istore_n 2, 1) := by decide +kernel
theorem d_SqlReaderModel_cutText_2 : decode prog_11_method_12_code 2 = .ok (.iload_n 1, 1) := by decide +kernel
theorem d_SqlReaderModel_cutText_3 : decode prog_11_method_12_code 3 = .ok (.iconst 1, 1) := by decide +kernel
theorem d_SqlReaderModel_cutText_4 : decode prog_11_method_12_code 4 = .ok (.iadd, 1) := by decide +kernel
theorem d_SqlReaderModel_cutText_5 : decode prog_11_method_12_code 5 = .ok (.istore_n 3, 1) := by decide +kernel
theorem d_SqlReaderModel_cutText_6 : decode prog_11_method_12_code 6 = .ok (.iconst 1, 1) := by decide +kernel
theorem d_SqlReaderModel_cutText_7 : decode prog_11_method_12_code 7 = .ok (.istore 4, 2) := by decide +kernel
theorem d_SqlReaderModel_cutText_9 : decode prog_11_method_12_code 9 = .ok (.iload 4, 2) := by decide +kernel
theorem d_SqlReaderModel_cutText_11 : decode prog_11_method_12_code 11 = .ok (.ifCond .eq 124, 3) := by decide +kernel
theorem d_SqlReaderModel_cutText_14 : decode prog_11_method_12_code 14 = .ok (.aload_n 0, 1) := by decide +kernel
theorem d_SqlReaderModel_cutText_15 : decode prog_11_method_12_code 15 = .ok (.getfield 226, 3) := by decide +kernel
theorem d_SqlReaderModel_cutText_18 : decode prog_11_method_12_code 18 = .ok (.ifCond .ne 117, 3) := by decide +kernel
theorem d_SqlReaderModel_cutText_21 : decode prog_11_method_12_code 21 = .ok (.aload_n 0, 1) := by decide +kernel
theorem d_SqlReaderModel_cutText_22 : decode prog_11_method_12_code 22 = .ok (.iload_n 3, 1) := by decide +kernel
theorem d_SqlReaderModel_cutText_23 : decode prog_11_method_12_code 23 = .ok (.invokevirtual 236, 3) := by decide +kernel
theorem d_SqlReaderModel_cutText_26 : decode prog_11_method_12_code 26 = .ok (.bipush 39, 2) := by decide +kernel
theorem d_SqlReaderModel_cutText_28 : decode prog_11_method_12_code 28 = .ok (.if_icmp .ne 7, 3) := by decide +kernel
theorem d_SqlReaderModel_cutText_31 : decode prog_11_method_12_code 31 = .ok (.iconst 1, 1) := by decide +kernel
theorem d_SqlReaderModel_cutText_32 : decode prog_11_method_12_code 32 = .ok (.goto 4, 3) := by decide +kernel
theorem d_SqlReaderModel_cutText_35 : decode prog_11_method_12_code 35 = .ok (.iconst 0, 1) := by decide +kernel
theorem d_SqlReaderModel_cutText_36 : decode prog_11_method_12_code 36 = .ok (.istore 5, 2) := by decide +kernel
theorem d_SqlReaderModel_cutText_38 : decode prog_11_method_12_code 38 = .ok (.iload 5, 2) := by decide +kernel
theorem d_SqlReaderModel_cutText_40 : decode prog_11_method_12_code 40 = .ok (.ifCond .eq 15, 3) := by decide +kernel
theorem d_SqlReaderModel_cutText_43 : decode prog_11_method_12_code 43 = .ok (.aload_n 0, 1) := by decide +kernel
theorem d_SqlReaderModel_cutText_44 : decode prog_11_method_12_code 44 = .ok (.iload_n 3, 1) := by decide +kernel
theorem d_SqlReaderModel_cutText_45 : decode prog_11_method_12_code 45 = .ok (.iconst 1, 1) := by decide +kernel
theorem d_SqlReaderModel_cutText_46 : decode prog_11_method_12_code 46 = .ok (.iadd, 1) := by decide +kernel
theorem d_SqlReaderModel_cutText_47 : decode prog_11_method_12_code 47 = .ok (.invokevirtual 236, 3) := by decide +kernel
theorem d_SqlReaderModel_cutText_50 : decode prog_11_method_12_code 50 = .ok (.bipush 39, 2) := by decide +kernel
theorem d_SqlReaderModel_cutText_52 : decode prog_11_method_12_code 52 = .ok (.if_icmp .ne 7, 3) := by decide +kernel
theorem d_SqlReaderModel_cutText_55 : decode prog_11_method_12_code 55 = .ok (.iconst 1, 1) := by decide +kernel
theorem d_SqlReaderModel_cutText_56 : decode prog_11_method_12_code 56 = .ok (.goto 4, 3) := by decide +kernel
theorem d_SqlReaderModel_cutText_59 : decode prog_11_method_12_code 59 = .ok (.iconst 0, 1) := by decide +kernel
theorem d_SqlReaderModel_cutText_60 : decode prog_11_method_12_code 60 = .ok (.istore 4, 2) := by decide +kernel
theorem d_SqlReaderModel_cutText_62 : decode prog_11_method_12_code 62 = .ok (.aload_n 0, 1) := by decide +kernel
theorem d_SqlReaderModel_cutText_63 : decode prog_11_method_12_code 63 = .ok (.iload_n 3, 1) := by decide +kernel
theorem d_SqlReaderModel_cutText_64 : decode prog_11_method_12_code 64 = .ok (.aload_n 0, 1) := by decide +kernel
theorem d_SqlReaderModel_cutText_65 : decode prog_11_method_12_code 65 = .ok (.getfield 213, 3) := by decide +kernel
theorem d_SqlReaderModel_cutText_68 : decode prog_11_method_12_code 68 = .ok (.if_icmp .ge 23, 3) := by decide +kernel
theorem d_SqlReaderModel_cutText_71 : decode prog_11_method_12_code 71 = .ok (.aload_n 0, 1) := by decide +kernel
theorem d_SqlReaderModel_cutText_72 : decode prog_11_method_12_code 72 = .ok (.iload_n 3, 1) := by decide +kernel
theorem d_SqlReaderModel_cutText_73 : decode prog_11_method_12_code 73 = .ok (.invokevirtual 236, 3) := by decide +kernel
theorem d_SqlReaderModel_cutText_76 : decode prog_11_method_12_code 76 = .ok (.bipush 32, 2) := by decide +kernel
theorem d_SqlReaderModel_cutText_78 : decode prog_11_method_12_code 78 = .ok (.if_icmp .lt 13, 3) := by decide +kernel
theorem d_SqlReaderModel_cutText_81 : decode prog_11_method_12_code 81 = .ok (.aload_n 0, 1) := by decide +kernel
theorem d_SqlReaderModel_cutText_82 : decode prog_11_method_12_code 82 = .ok (.iload_n 3, 1) := by decide +kernel
theorem d_SqlReaderModel_cutText_83 : decode prog_11_method_12_code 83 = .ok (.invokevirtual 236, 3) := by decide +kernel
theorem d_SqlReaderModel_cutText_86 : decode prog_11_method_12_code 86 = .ok (.bipush 126, 2) := by decide +kernel
theorem d_SqlReaderModel_cutText_88 : decode prog_11_method_12_code 88 = .ok (.if_icmp .le 7, 3) := by decide +kernel
theorem d_SqlReaderModel_cutText_91 : decode prog_11_method_12_code 91 = .ok (.iconst 1, 1) := by decide +kernel
theorem d_SqlReaderModel_cutText_92 : decode prog_11_method_12_code 92 = .ok (.goto 4, 3) := by decide +kernel
theorem d_SqlReaderModel_cutText_95 : decode prog_11_method_12_code 95 = .ok (.iconst 0, 1) := by decide +kernel
theorem d_SqlReaderModel_cutText_96 : decode prog_11_method_12_code 96 = .ok (.putfield 226, 3) := by decide +kernel
theorem d_SqlReaderModel_cutText_99 : decode prog_11_method_12_code 99 = .ok (.iload 4, 2) := by decide +kernel
theorem d_SqlReaderModel_cutText_101 : decode prog_11_method_12_code 101 = .ok (.ifCond .eq 9, 3) := by decide +kernel
theorem d_SqlReaderModel_cutText_104 : decode prog_11_method_12_code 104 = .ok (.iload_n 2, 1) := by decide +kernel
theorem d_SqlReaderModel_cutText_105 : decode prog_11_method_12_code 105 = .ok (.iconst 1, 1) := by decide +kernel
theorem d_SqlReaderModel_cutText_106 : decode prog_11_method_12_code 106 = .ok (.iadd, 1) := by decide +kernel
theorem d_SqlReaderModel_cutText_107 : decode prog_11_method_12_code 107 = .ok (.goto 4, 3) := by decide +kernel
theorem d_SqlReaderModel_cutText_110 : decode prog_11_method_12_code 110 = .ok (.iload_n 2, 1) := by decide +kernel
theorem d_SqlReaderModel_cutText_111 : decode prog_11_method_12_code 111 = .ok (.istore_n 2, 1) := by decide +kernel
theorem d_SqlReaderModel_cutText_112 : decode prog_11_method_12_code 112 = .ok (.iload 5, 2) := by decide +kernel
theorem d_SqlReaderModel_cutText_114 : decode prog_11_method_12_code 114 = .ok (.ifCond .eq 14, 3) := by decide +kernel
theorem d_SqlReaderModel_cutText_117 : decode prog_11_method_12_code 117 = .ok (.iload 4, 2) := by decide +kernel
theorem d_SqlReaderModel_cutText_119 : decode prog_11_method_12_code 119 = .ok (.ifCond .eq 9, 3) := by decide +kernel
theorem d_SqlReaderModel_cutText_122 : decode prog_11_method_12_code 122 = .ok (.iload_n 3, 1) := by decide +kernel
theorem d_SqlReaderModel_cutText_123 : decode prog_11_method_12_code 123 = .ok (.iconst 2, 1) := by decide +kernel
theorem d_SqlReaderModel_cutText_124 : decode prog_11_method_12_code 124 = .ok (.iadd, 1) := by decide +kernel
theorem d_SqlReaderModel_cutText_125 : decode prog_11_method_12_code 125 = .ok (.goto 6, 3) := by decide +kernel
theorem d_SqlReaderModel_cutText_128 : decode prog_11_method_12_code 128 = .ok (.iload_n 3, 1) := by decide +kernel
theorem d_SqlReaderModel_cutText_129 : decode prog_11_method_12_code 129 = .ok (.iconst 1, 1) := by decide +kernel
theorem d_SqlReaderModel_cutText_130 : decode prog_11_method_12_code 130 = .ok (.iadd, 1) := by decide +kernel
theorem d_SqlReaderModel_cutText_131 : decode prog_11_method_12_code 131 = .ok (.istore_n 3, 1) := by decide +kernel
theorem d_SqlReaderModel_cutText_132 : decode prog_11_method_12_code 132 = .ok (.goto (-123), 3) := by decide +kernel
theorem d_SqlReaderModel_cutText_135 : decode prog_11_method_12_code 135 = .ok (.aload_n 0, 1) := by decide +kernel
theorem d_SqlReaderModel_cutText_136 : decode prog_11_method_12_code 136 = .ok (.aload_n 0, 1) := by decide +kernel
theorem d_SqlReaderModel_cutText_137 : decode prog_11_method_12_code 137 = .ok (.getfield 226, 3) := by decide +kernel
theorem d_SqlReaderModel_cutText_140 : decode prog_11_method_12_code 140 = .ok (.ifCond .ne 9, 3) := by decide +kernel
theorem d_SqlReaderModel_cutText_143 : decode prog_11_method_12_code 143 = .ok (.iload_n 2, 1) := by decide +kernel
theorem d_SqlReaderModel_cutText_144 : decode prog_11_method_12_code 144 = .ok (.bipush 31, 2) := by decide +kernel
theorem d_SqlReaderModel_cutText_146 : decode prog_11_method_12_code 146 = .ok (.if_icmp .le 7, 3) := by decide +kernel
theorem d_SqlReaderModel_cutText_149 : decode prog_11_method_12_code 149 = .ok (.iconst 1, 1) := by decide +kernel
theorem d_SqlReaderModel_cutText_150 : decode prog_11_method_12_code 150 = .ok (.goto 4, 3) := by decide +kernel
theorem d_SqlReaderModel_cutText_153 : decode prog_11_method_12_code 153 = .ok (.iconst 0, 1) := by decide +kernel
theorem d_SqlReaderModel_cutText_154 : decode prog_11_method_12_code 154 = .ok (.putfield 226, 3) := by decide +kernel
theorem d_SqlReaderModel_cutText_157 : decode prog_11_method_12_code 157 = .ok (.aload_n 0, 1) := by decide +kernel
theorem d_SqlReaderModel_cutText_158 : decode prog_11_method_12_code 158 = .ok (.iconst 4, 1) := by decide +kernel
theorem d_SqlReaderModel_cutText_159 : decode prog_11_method_12_code 159 = .ok (.iload_n 1, 1) := by decide +kernel
theorem d_SqlReaderModel_cutText_160 : decode prog_11_method_12_code 160 = .ok (.iload_n 3, 1) := by decide +kernel
theorem d_SqlReaderModel_cutText_161 : decode prog_11_method_12_code 161 = .ok (.invokevirtual 245, 3) := by decide +kernel
theorem d_SqlReaderModel_cutText_164 : decode prog_11_method_12_code 164 = .ok (.iload_n 3, 1) := by decide +kernel
theorem d_SqlReaderModel_cutText_165 : decode prog_11_method_12_code 165 = .ok (.ireturn, 1) := by decide +kernel
theorem d_SqlReaderModel_deed_0 : decode prog_11_method_64_code 0 = .ok (.aload_n 0, 1) := by decide +kernel
theorem d_SqlReaderModel_deed_1 : decode prog_11_method_64_code 1 = .ok (.getfield 140, 3) := by decide +kernel
theorem d_SqlReaderModel_deed_4 : decode prog_11_method_64_code 4 = .ok (.bipush 16, 2) := by decide +kernel
theorem d_SqlReaderModel_deed_6 : decode prog_11_method_64_code 6 = .ok (.if_icmp .ne 10, 3) := by decide +kernel
theorem d_SqlReaderModel_deed_9 : decode prog_11_method_64_code 9 = .ok (.aload_n 0, 1) := by decide +kernel
theorem d_SqlReaderModel_deed_10 : decode prog_11_method_64_code 10 = .ok (.getfield 143, 3) := by decide +kernel
theorem d_SqlReaderModel_deed_13 : decode prog_11_method_64_code 13 = .ok (.goto 7, 3) := by decide +kernel
theorem d_SqlReaderModel_deed_16 : decode prog_11_method_64_code 16 = .ok (.aload_n 0, 1) := by decide +kernel
theorem d_SqlReaderModel_deed_17 : decode prog_11_method_64_code 17 = .ok (.getfield 140, 3) := by decide +kernel
theorem d_SqlReaderModel_deed_20 : decode prog_11_method_64_code 20 = .ok (.ireturn, 1) := by decide +kernel
theorem d_SqlReaderModel_endsOperand_0 : decode prog_11_method_27_code 0 = .ok (.aload_n 0, 1) := by decide +kernel
theorem d_SqlReaderModel_endsOperand_1 : decode prog_11_method_27_code 1 = .ok (.getfield 13, 3) := by decide +kernel
theorem d_SqlReaderModel_endsOperand_4 : decode prog_11_method_27_code 4 = .ok (.iload_n 1, 1) := by decide +kernel
theorem d_SqlReaderModel_endsOperand_5 : decode prog_11_method_27_code 5 = .ok (.iaload, 1) := by decide +kernel
theorem d_SqlReaderModel_endsOperand_6 : decode prog_11_method_27_code 6 = .ok (.istore_n 2, 1) := by decide +kernel
theorem d_SqlReaderModel_endsOperand_7 : decode prog_11_method_27_code 7 = .ok (.iload_n 2, 1) := by decide +kernel
theorem d_SqlReaderModel_endsOperand_8 : decode prog_11_method_27_code 8 = .ok (.iconst 1, 1) := by decide +kernel
theorem d_SqlReaderModel_endsOperand_9 : decode prog_11_method_27_code 9 = .ok (.if_icmp .le 9, 3) := by decide +kernel
theorem d_SqlReaderModel_endsOperand_12 : decode prog_11_method_27_code 12 = .ok (.iload_n 2, 1) := by decide +kernel
theorem d_SqlReaderModel_endsOperand_13 : decode prog_11_method_27_code 13 = .ok (.bipush 6, 2) := by decide +kernel
theorem d_SqlReaderModel_endsOperand_15 : decode prog_11_method_27_code 15 = .ok (.if_icmp .lt 47, 3) := by decide +kernel
theorem d_SqlReaderModel_endsOperand_18 : decode prog_11_method_27_code 18 = .ok (.aload_n 0, 1) := by decide +kernel
theorem d_SqlReaderModel_endsOperand_19 : decode prog_11_method_27_code 19 = .ok (.iload_n 1, 1) := by decide +kernel
theorem d_SqlReaderModel_endsOperand_20 : decode prog_11_method_27_code 20 = .ok (.ldc_w 297, 3) := by decide +kernel
theorem d_SqlReaderModel_endsOperand_23 : decode prog_11_method_27_code 23 = .ok (.invokevirtual 293, 3) := by decide +kernel
theorem d_SqlReaderModel_endsOperand_26 : decode prog_11_method_27_code 26 = .ok (.ifCond .ne 36, 3) := by decide +kernel
theorem d_SqlReaderModel_endsOperand_29 : decode prog_11_method_27_code 29 = .ok (.aload_n 0, 1) := by decide +kernel
theorem d_SqlReaderModel_endsOperand_30 : decode prog_11_method_27_code 30 = .ok (.iload_n 1, 1) := by decide +kernel
theorem d_SqlReaderModel_endsOperand_31 : decode prog_11_method_27_code 31 = .ok (.ldc_w 299, 3) := by decide +kernel
theorem d_SqlReaderModel_endsOperand_34 : decode prog_11_method_27_code 34 = .ok (.invokevirtual 293, 3) := by decide +kernel
theorem d_SqlReaderModel_endsOperand_37 : decode prog_11_method_27_code 37 = .ok (.ifCond .ne 25, 3) := by decide +kernel
theorem d_SqlReaderModel_endsOperand_40 : decode prog_11_method_27_code 40 = .ok (.aload_n 0, 1) := by decide +kernel
theorem d_SqlReaderModel_endsOperand_41 : decode prog_11_method_27_code 41 = .ok (.iload_n 1, 1) := by decide +kernel
theorem d_SqlReaderModel_endsOperand_42 : decode prog_11_method_27_code 42 = .ok (.ldc_w 301, 3) := by decide +kernel
theorem d_SqlReaderModel_endsOperand_45 : decode prog_11_method_27_code 45 = .ok (.invokevirtual 293, 3) := by decide +kernel
theorem d_SqlReaderModel_endsOperand_48 : decode prog_11_method_27_code 48 = .ok (.ifCond .ne 14, 3) := by decide +kernel
theorem d_SqlReaderModel_endsOperand_51 : decode prog_11_method_27_code 51 = .ok (.aload_n 0, 1) := by decide +kernel
theorem d_SqlReaderModel_endsOperand_52 : decode prog_11_method_27_code 52 = .ok (.iload_n 1, 1) := by decide +kernel
theorem d_SqlReaderModel_endsOperand_53 : decode prog_11_method_27_code 53 = .ok (.ldc_w 303, 3) := by decide +kernel
theorem d_SqlReaderModel_endsOperand_56 : decode prog_11_method_27_code 56 = .ok (.invokevirtual 293, 3) := by decide +kernel
theorem d_SqlReaderModel_endsOperand_59 : decode prog_11_method_27_code 59 = .ok (.ifCond .eq 7, 3) := by decide +kernel
theorem d_SqlReaderModel_endsOperand_62 : decode prog_11_method_27_code 62 = .ok (.iconst 1, 1) := by decide +kernel
theorem d_SqlReaderModel_endsOperand_63 : decode prog_11_method_27_code 63 = .ok (.goto 4, 3) := by decide +kernel
theorem d_SqlReaderModel_endsOperand_66 : decode prog_11_method_27_code 66 = .ok (.iconst 0, 1) := by decide +kernel
theorem d_SqlReaderModel_endsOperand_67 : decode prog_11_method_27_code 67 = .ok (.ireturn, 1) := by decide +kernel
theorem d_SqlReaderModel_error_0 : decode prog_11_method_68_code 0 = .ok (.iload_n 1, 1) := by decide +kernel
theorem d_SqlReaderModel_error_1 : decode prog_11_method_68_code 1 = .ok (.ifCond .eq 7, 3) := by decide +kernel
theorem d_SqlReaderModel_error_4 : decode prog_11_method_68_code 4 = .ok (.iconst 0, 1) := by decide +kernel
theorem d_SqlReaderModel_error_5 : decode prog_11_method_68_code 5 = .ok (.goto 5, 3) := by decide +kernel
theorem d_SqlReaderModel_error_8 : decode prog_11_method_68_code 8 = .ok (.bipush 8, 2) := by decide +kernel
theorem d_SqlReaderModel_error_10 : decode prog_11_method_68_code 10 = .ok (.ireturn, 1) := by decide +kernel
theorem d_SqlReaderModel_expression_0 : decode prog_11_method_46_code 0 = .ok (.aload_n 0, 1) := by decide +kernel
theorem d_SqlReaderModel_expression_1 : decode prog_11_method_46_code 1 = .ok (.invokevirtual 439, 3) := by decide +kernel
theorem d_SqlReaderModel_expression_4 : decode prog_11_method_46_code 4 = .ok (.istore_n 1, 1) := by decide +kernel
theorem d_SqlReaderModel_expression_5 : decode prog_11_method_46_code 5 = .ok (.aload_n 0, 1) := by decide +kernel
theorem d_SqlReaderModel_expression_6 : decode prog_11_method_46_code 6 = .ok (.iconst 0, 1) := by decide +kernel
theorem d_SqlReaderModel_expression_7 : decode prog_11_method_46_code 7 = .ok (.aload_n 0, 1) := by decide +kernel
theorem d_SqlReaderModel_expression_8 : decode prog_11_method_46_code 8 = .ok (.getfield 419, 3) := by decide +kernel
theorem d_SqlReaderModel_expression_11 : decode prog_11_method_46_code 11 = .ok (.iload_n 1, 1) := by decide +kernel
theorem d_SqlReaderModel_expression_12 : decode prog_11_method_46_code 12 = .ok (.iconst 0, 1) := by decide +kernel
theorem d_SqlReaderModel_expression_13 : decode prog_11_method_46_code 13 = .ok (.invokestatic 330, 3) := by decide +kernel
theorem d_SqlReaderModel_expression_16 : decode prog_11_method_46_code 16 = .ok (.istore_n 2, 1) := by decide +kernel
theorem d_SqlReaderModel_expression_17 : decode prog_11_method_46_code 17 = .ok (.aload_n 0, 1) := by decide +kernel
theorem d_SqlReaderModel_expression_18 : decode prog_11_method_46_code 18 = .ok (.iload_n 1, 1) := by decide +kernel
theorem d_SqlReaderModel_expression_19 : decode prog_11_method_46_code 19 = .ok (.putfield 419, 3) := by decide +kernel
theorem d_SqlReaderModel_expression_22 : decode prog_11_method_46_code 22 = .ok (.iload_n 2, 1) := by decide +kernel
theorem d_SqlReaderModel_expression_23 : decode prog_11_method_46_code 23 = .ok (.ireturn, 1) := by decide +kernel
theorem d_SqlReaderModel_fault_0 : decode prog_11_method_84_code 0 = .ok (.aload_n 0, 1) := by decide +kernel
theorem d_SqlReaderModel_fault_1 : decode prog_11_method_84_code 1 = .ok (.invokevirtual 262, 3) := by decide +kernel
theorem d_SqlReaderModel_fault_4 : decode prog_11_method_84_code 4 = .ok (.aload_n 0, 1) := by decide +kernel
theorem d_SqlReaderModel_fault_5 : decode prog_11_method_84_code 5 = .ok (.iconst 0, 1) := by decide +kernel
theorem d_SqlReaderModel_fault_6 : decode prog_11_method_84_code 6 = .ok (.putfield 419, 3) := by decide +kernel
theorem d_SqlReaderModel_fault_9 : decode prog_11_method_84_code 9 = .ok (.aload_n 0, 1) := by decide +kernel
theorem d_SqlReaderModel_fault_10 : decode prog_11_method_84_code 10 = .ok (.getfield 226, 3) := by decide +kernel
theorem d_SqlReaderModel_fault_13 : decode prog_11_method_84_code 13 = .ok (.ifCond .ne 14, 3) := by decide +kernel
theorem d_SqlReaderModel_fault_16 : decode prog_11_method_84_code 16 = .ok (.aload_n 0, 1) := by decide +kernel
theorem d_SqlReaderModel_fault_17 : decode prog_11_method_84_code 17 = .ok (.invokevirtual 570, 3) := by decide +kernel
theorem d_SqlReaderModel_fault_20 : decode prog_11_method_84_code 20 = .ok (.ifCond .ne 7, 3) := by decide +kernel
theorem d_SqlReaderModel_fault_23 : decode prog_11_method_84_code 23 = .ok (.aload_n 0, 1) := by decide +kernel
theorem d_SqlReaderModel_fault_24 : decode prog_11_method_84_code 24 = .ok (.invokevirtual 631, 3) := by decide +kernel
theorem d_SqlReaderModel_fault_27 : decode prog_11_method_84_code 27 = .ok (.aload_n 0, 1) := by decide +kernel
theorem d_SqlReaderModel_fault_28 : decode prog_11_method_84_code 28 = .ok (.ldc_w 425, 3) := by decide +kernel
theorem d_SqlReaderModel_fault_31 : decode prog_11_method_84_code 31 = .ok (.invokevirtual 421, 3) := by decide +kernel
theorem d_SqlReaderModel_fault_34 : decode prog_11_method_84_code 34 = .ok (.istore_n 1, 1) := by decide +kernel
theorem d_SqlReaderModel_fault_35 : decode prog_11_method_84_code 35 = .ok (.aload_n 0, 1) := by decide +kernel
theorem d_SqlReaderModel_fault_36 : decode prog_11_method_84_code 36 = .ok (.getfield 226, 3) := by decide +kernel
theorem d_SqlReaderModel_fault_39 : decode prog_11_method_84_code 39 = .ok (.ifCond .ne 14, 3) := by decide +kernel
theorem d_SqlReaderModel_fault_42 : decode prog_11_method_84_code 42 = .ok (.aload_n 0, 1) := by decide +kernel
theorem d_SqlReaderModel_fault_43 : decode prog_11_method_84_code 43 = .ok (.getfield 419, 3) := by decide +kernel
theorem d_SqlReaderModel_fault_46 : decode prog_11_method_84_code 46 = .ok (.aload_n 0, 1) := by decide +kernel
theorem d_SqlReaderModel_fault_47 : decode prog_11_method_84_code 47 = .ok (.getfield 223, 3) := by decide +kernel
theorem d_SqlReaderModel_fault_50 : decode prog_11_method_84_code 50 = .ok (.if_icmp .eq 5, 3) := by decide +kernel
theorem d_SqlReaderModel_fault_53 : decode prog_11_method_84_code 53 = .ok (.iconst 1, 1) := by decide +kernel
theorem d_SqlReaderModel_fault_54 : decode prog_11_method_84_code 54 = .ok (.ireturn, 1) := by decide +kernel
theorem d_SqlReaderModel_fault_55 : decode prog_11_method_84_code 55 = .ok (.aload_n 0, 1) := by decide +kernel
theorem d_SqlReaderModel_fault_56 : decode prog_11_method_84_code 56 = .ok (.getfield 133, 3) := by decide +kernel
theorem d_SqlReaderModel_fault_59 : decode prog_11_method_84_code 59 = .ok (.sipush 200, 3) := by decide +kernel
theorem d_SqlReaderModel_fault_62 : decode prog_11_method_84_code 62 = .ok (.if_icmp .le 5, 3) := by decide +kernel
theorem d_SqlReaderModel_fault_65 : decode prog_11_method_84_code 65 = .ok (.iconst 2, 1) := by decide +kernel
theorem d_SqlReaderModel_fault_66 : decode prog_11_method_84_code 66 = .ok (.ireturn, 1) := by decide +kernel
theorem d_SqlReaderModel_fault_67 : decode prog_11_method_84_code 67 = .ok (.aload_n 0, 1) := by decide +kernel
theorem d_SqlReaderModel_fault_68 : decode prog_11_method_84_code 68 = .ok (.getfield 183, 3) := by decide +kernel
theorem d_SqlReaderModel_fault_71 : decode prog_11_method_84_code 71 = .ok (.iconst 3, 1) := by decide +kernel
theorem d_SqlReaderModel_fault_72 : decode prog_11_method_84_code 72 = .ok (.if_icmp .gt 46, 3) := by decide +kernel
theorem d_SqlReaderModel_fault_75 : decode prog_11_method_84_code 75 = .ok (.aload_n 0, 1) := by decide +kernel
theorem d_SqlReaderModel_fault_76 : decode prog_11_method_84_code 76 = .ok (.getfield 174, 3) := by decide +kernel
theorem d_SqlReaderModel_fault_79 : decode prog_11_method_84_code 79 = .ok (.bipush 8, 2) := by decide +kernel
theorem d_SqlReaderModel_fault_81 : decode prog_11_method_84_code 81 = .ok (.if_icmp .gt 37, 3) := by decide +kernel
theorem d_SqlReaderModel_fault_84 : decode prog_11_method_84_code 84 = .ok (.aload_n 0, 1) := by decide +kernel
theorem d_SqlReaderModel_fault_85 : decode prog_11_method_84_code 85 = .ok (.getfield 177, 3) := by decide +kernel
theorem d_SqlReaderModel_fault_88 : decode prog_11_method_84_code 88 = .ok (.iconst 4, 1) := by decide +kernel
theorem d_SqlReaderModel_fault_89 : decode prog_11_method_84_code 89 = .ok (.if_icmp .gt 29, 3) := by decide +kernel
theorem d_SqlReaderModel_fault_92 : decode prog_11_method_84_code 92 = .ok (.aload_n 0, 1) := by decide +kernel
theorem d_SqlReaderModel_fault_93 : decode prog_11_method_84_code 93 = .ok (.getfield 180, 3) := by decide +kernel
theorem d_SqlReaderModel_fault_96 : decode prog_11_method_84_code 96 = .ok (.iconst 4, 1) := by decide +kernel
theorem d_SqlReaderModel_fault_97 : decode prog_11_method_84_code 97 = .ok (.if_icmp .gt 21, 3) := by decide +kernel
theorem d_SqlReaderModel_fault_100 : decode prog_11_method_84_code 100 = .ok (.aload_n 0, 1) := by decide +kernel
theorem d_SqlReaderModel_fault_101 : decode prog_11_method_84_code 101 = .ok (.getfield 198, 3) := by decide +kernel
theorem d_SqlReaderModel_fault_104 : decode prog_11_method_84_code 104 = .ok (.bipush 8, 2) := by decide +kernel
theorem d_SqlReaderModel_fault_106 : decode prog_11_method_84_code 106 = .ok (.if_icmp .gt 12, 3) := by decide +kernel
theorem d_SqlReaderModel_fault_109 : decode prog_11_method_84_code 109 = .ok (.aload_n 0, 1) := by decide +kernel
theorem d_SqlReaderModel_fault_110 : decode prog_11_method_84_code 110 = .ok (.getfield 186, 3) := by decide +kernel
theorem d_SqlReaderModel_fault_113 : decode prog_11_method_84_code 113 = .ok (.bipush 8, 2) := by decide +kernel
theorem d_SqlReaderModel_fault_115 : decode prog_11_method_84_code 115 = .ok (.if_icmp .le 5, 3) := by decide +kernel
theorem d_SqlReaderModel_fault_118 : decode prog_11_method_84_code 118 = .ok (.iconst 3, 1) := by decide +kernel
theorem d_SqlReaderModel_fault_119 : decode prog_11_method_84_code 119 = .ok (.ireturn, 1) := by decide +kernel
theorem d_SqlReaderModel_fault_120 : decode prog_11_method_84_code 120 = .ok (.aload_n 0, 1) := by decide +kernel
theorem d_SqlReaderModel_fault_121 : decode prog_11_method_84_code 121 = .ok (.invokevirtual 634, 3) := by decide +kernel
theorem d_SqlReaderModel_fault_124 : decode prog_11_method_84_code 124 = .ok (.istore_n 2, 1) := by decide +kernel
theorem d_SqlReaderModel_fault_125 : decode prog_11_method_84_code 125 = .ok (.iconst 0, 1) := by decide +kernel
theorem d_SqlReaderModel_fault_126 : decode prog_11_method_84_code 126 = .ok (.istore_n 3, 1) := by decide +kernel
theorem d_SqlReaderModel_fault_127 : decode prog_11_method_84_code 127 = .ok (.iload_n 3, 1) := by decide +kernel
theorem d_SqlReaderModel_fault_128 : decode prog_11_method_84_code 128 = .ok (.aload_n 0, 1) := by decide +kernel
theorem d_SqlReaderModel_fault_129 : decode prog_11_method_84_code 129 = .ok (.getfield 137, 3) := by decide +kernel
theorem d_SqlReaderModel_fault_132 : decode prog_11_method_84_code 132 = .ok (.if_icmp .ge 19, 3) := by decide +kernel
theorem d_SqlReaderModel_fault_135 : decode prog_11_method_84_code 135 = .ok (.iload_n 2, 1) := by decide +kernel
theorem d_SqlReaderModel_fault_136 : decode prog_11_method_84_code 136 = .ok (.ifCond .ne 15, 3) := by decide +kernel
theorem d_SqlReaderModel_fault_139 : decode prog_11_method_84_code 139 = .ok (.aload_n 0, 1) := by decide +kernel
theorem d_SqlReaderModel_fault_140 : decode prog_11_method_84_code 140 = .ok (.iload_n 3, 1) := by decide +kernel
theorem d_SqlReaderModel_fault_141 : decode prog_11_method_84_code 141 = .ok (.invokevirtual 637, 3) := by decide +kernel
theorem d_SqlReaderModel_fault_144 : decode prog_11_method_84_code 144 = .ok (.istore_n 2, 1) := by decide +kernel
theorem d_SqlReaderModel_fault_145 : decode prog_11_method_84_code 145 = .ok (.iinc 3 1, 3) := by decide +kernel
theorem d_SqlReaderModel_fault_148 : decode prog_11_method_84_code 148 = .ok (.goto (-21), 3) := by decide +kernel
theorem d_SqlReaderModel_fault_151 : decode prog_11_method_84_code 151 = .ok (.iload_n 2, 1) := by decide +kernel
theorem d_SqlReaderModel_fault_152 : decode prog_11_method_84_code 152 = .ok (.ifCond .ne 17, 3) := by decide +kernel
theorem d_SqlReaderModel_fault_155 : decode prog_11_method_84_code 155 = .ok (.aload_n 0, 1) := by decide +kernel
theorem d_SqlReaderModel_fault_156 : decode prog_11_method_84_code 156 = .ok (.getfield 158, 3) := by decide +kernel
theorem d_SqlReaderModel_fault_159 : decode prog_11_method_84_code 159 = .ok (.ifCond .eq 10, 3) := by decide +kernel
theorem d_SqlReaderModel_fault_162 : decode prog_11_method_84_code 162 = .ok (.aload_n 0, 1) := by decide +kernel
theorem d_SqlReaderModel_fault_163 : decode prog_11_method_84_code 163 = .ok (.invokevirtual 640, 3) := by decide +kernel
theorem d_SqlReaderModel_fault_166 : decode prog_11_method_84_code 166 = .ok (.goto 4, 3) := by decide +kernel
theorem d_SqlReaderModel_fault_169 : decode prog_11_method_84_code 169 = .ok (.iload_n 2, 1) := by decide +kernel
theorem d_SqlReaderModel_fault_170 : decode prog_11_method_84_code 170 = .ok (.istore_n 2, 1) := by decide +kernel
theorem d_SqlReaderModel_fault_171 : decode prog_11_method_84_code 171 = .ok (.iload_n 2, 1) := by decide +kernel
theorem d_SqlReaderModel_fault_172 : decode prog_11_method_84_code 172 = .ok (.ifCond .eq 7, 3) := by decide +kernel
theorem d_SqlReaderModel_fault_175 : decode prog_11_method_84_code 175 = .ok (.iload_n 2, 1) := by decide +kernel
theorem d_SqlReaderModel_fault_176 : decode prog_11_method_84_code 176 = .ok (.goto 18, 3) := by decide +kernel
theorem d_SqlReaderModel_fault_179 : decode prog_11_method_84_code 179 = .ok (.aload_n 0, 1) := by decide +kernel
theorem d_SqlReaderModel_fault_180 : decode prog_11_method_84_code 180 = .ok (.invokevirtual 643, 3) := by decide +kernel
theorem d_SqlReaderModel_fault_183 : decode prog_11_method_84_code 183 = .ok (.ifCond .ne 7, 3) := by decide +kernel
theorem d_SqlReaderModel_fault_186 : decode prog_11_method_84_code 186 = .ok (.iconst 1, 1) := by decide +kernel
theorem d_SqlReaderModel_fault_187 : decode prog_11_method_84_code 187 = .ok (.goto 7, 3) := by decide +kernel
theorem d_SqlReaderModel_fault_190 : decode prog_11_method_84_code 190 = .ok (.aload_n 0, 1) := by decide +kernel
theorem d_SqlReaderModel_fault_191 : decode prog_11_method_84_code 191 = .ok (.invokevirtual 646, 3) := by decide +kernel
theorem d_SqlReaderModel_fault_194 : decode prog_11_method_84_code 194 = .ok (.ireturn, 1) := by decide +kernel
theorem d_SqlReaderModel_find_0 : decode prog_11_method_34_code 0 = .ok (.iconst 0, 1) := by decide +kernel
theorem d_SqlReaderModel_find_1 : decode prog_11_method_34_code 1 = .ok (.istore 4, 2) := by decide +kernel
theorem d_SqlReaderModel_find_3 : decode prog_11_method_34_code 3 = .ok (.iload_n 2, 1) := by decide +kernel
theorem d_SqlReaderModel_find_4 : decode prog_11_method_34_code 4 = .ok (.istore 5, 2) := by decide +kernel
theorem d_SqlReaderModel_find_6 : decode prog_11_method_34_code 6 = .ok (.iload 5, 2) := by decide +kernel
theorem d_SqlReaderModel_find_8 : decode prog_11_method_34_code 8 = .ok (.iload_n 3, 1) := by decide +kernel
theorem d_SqlReaderModel_find_9 : decode prog_11_method_34_code 9 = .ok (.if_icmp .ge 38, 3) := by decide +kernel
theorem d_SqlReaderModel_find_12 : decode prog_11_method_34_code 12 = .ok (.iload 4, 2) := by decide +kernel
theorem d_SqlReaderModel_find_14 : decode prog_11_method_34_code 14 = .ok (.ifCond .ne 16, 3) := by decide +kernel
theorem d_SqlReaderModel_find_17 : decode prog_11_method_34_code 17 = .ok (.aload_n 0, 1) := by decide +kernel
theorem d_SqlReaderModel_find_18 : decode prog_11_method_34_code 18 = .ok (.iload 5, 2) := by decide +kernel
theorem d_SqlReaderModel_find_20 : decode prog_11_method_34_code 20 = .ok (.aload_n 1, 1) := by decide +kernel
theorem d_SqlReaderModel_find_21 : decode prog_11_method_34_code 21 = .ok (.invokevirtual 293, 3) := by decide +kernel
theorem d_SqlReaderModel_find_24 : decode prog_11_method_34_code 24 = .ok (.ifCond .eq 6, 3) := by decide +kernel
theorem d_SqlReaderModel_find_27 : decode prog_11_method_34_code 27 = .ok (.iload 5, 2) := by decide +kernel
theorem d_SqlReaderModel_find_29 : decode prog_11_method_34_code 29 = .ok (.ireturn, 1) := by decide +kernel
theorem d_SqlReaderModel_find_30 : decode prog_11_method_34_code 30 = .ok (.iload 4, 2) := by decide +kernel
theorem d_SqlReaderModel_find_32 : decode prog_11_method_34_code 32 = .ok (.aload_n 0, 1) := by decide +kernel
theorem d_SqlReaderModel_find_33 : decode prog_11_method_34_code 33 = .ok (.iload 5, 2) := by decide +kernel
theorem d_SqlReaderModel_find_35 : decode prog_11_method_34_code 35 = .ok (.invokevirtual 334, 3) := by decide +kernel
theorem d_SqlReaderModel_find_38 : decode prog_11_method_34_code 38 = .ok (.iadd, 1) := by decide +kernel
theorem d_SqlReaderModel_find_39 : decode prog_11_method_34_code 39 = .ok (.istore 4, 2) := by decide +kernel
theorem d_SqlReaderModel_find_41 : decode prog_11_method_34_code 41 = .ok (.iinc 5 1, 3) := by decide +kernel
theorem d_SqlReaderModel_find_44 : decode prog_11_method_34_code 44 = .ok (.goto (-38), 3) := by decide +kernel
theorem d_SqlReaderModel_find_47 : decode prog_11_method_34_code 47 = .ok (.iload_n 3, 1) := by decide +kernel
theorem d_SqlReaderModel_find_48 : decode prog_11_method_34_code 48 = .ok (.ireturn, 1) := by decide +kernel
theorem d_SqlReaderModel_firstComparison_0 : decode prog_11_method_33_code 0 = .ok (.iconst 0, 1) := by decide +kernel
theorem d_SqlReaderModel_firstComparison_1 : decode prog_11_method_33_code 1 = .ok (.istore_n 3, 1) := by decide +kernel
theorem d_SqlReaderModel_firstComparison_2 : decode prog_11_method_33_code 2 = .ok (.iload_n 1, 1) := by decide +kernel
theorem d_SqlReaderModel_firstComparison_3 : decode prog_11_method_33_code 3 = .ok (.istore 4, 2) := by decide +kernel
theorem d_SqlReaderModel_firstComparison_5 : decode prog_11_method_33_code 5 = .ok (.iload 4, 2) := by decide +kernel
theorem d_SqlReaderModel_firstComparison_7 : decode prog_11_method_33_code 7 = .ok (.iload_n 2, 1) := by decide +kernel
theorem d_SqlReaderModel_firstComparison_8 : decode prog_11_method_33_code 8 = .ok (.if_icmp .ge 94, 3) := by decide +kernel
theorem d_SqlReaderModel_firstComparison_11 : decode prog_11_method_33_code 11 = .ok (.aload_n 0, 1) := by decide +kernel
theorem d_SqlReaderModel_firstComparison_12 : decode prog_11_method_33_code 12 = .ok (.iload 4, 2) := by decide +kernel
theorem d_SqlReaderModel_firstComparison_14 : decode prog_11_method_33_code 14 = .ok (.invokevirtual 364, 3) := by decide +kernel
theorem d_SqlReaderModel_firstComparison_17 : decode prog_11_method_33_code 17 = .ok (.ifCond .gt 51, 3) := by decide +kernel
theorem d_SqlReaderModel_firstComparison_20 : decode prog_11_method_33_code 20 = .ok (.aload_n 0, 1) := by decide +kernel
theorem d_SqlReaderModel_firstComparison_21 : decode prog_11_method_33_code 21 = .ok (.iload 4, 2) := by decide +kernel
theorem d_SqlReaderModel_firstComparison_23 : decode prog_11_method_33_code 23 = .ok (.ldc_w 367, 3) := by decide +kernel
theorem d_SqlReaderModel_firstComparison_26 : decode prog_11_method_33_code 26 = .ok (.invokevirtual 293, 3) := by decide +kernel
theorem d_SqlReaderModel_firstComparison_29 : decode prog_11_method_33_code 29 = .ok (.ifCond .ne 39, 3) := by decide +kernel
theorem d_SqlReaderModel_firstComparison_32 : decode prog_11_method_33_code 32 = .ok (.aload_n 0, 1) := by decide +kernel
theorem d_SqlReaderModel_firstComparison_33 : decode prog_11_method_33_code 33 = .ok (.iload 4, 2) := by decide +kernel
theorem d_SqlReaderModel_firstComparison_35 : decode prog_11_method_33_code 35 = .ok (.ldc_w 328, 3) := by decide +kernel
theorem d_SqlReaderModel_firstComparison_38 : decode prog_11_method_33_code 38 = .ok (.invokevirtual 293, 3) := by decide +kernel
theorem d_SqlReaderModel_firstComparison_41 : decode prog_11_method_33_code 41 = .ok (.ifCond .ne 27, 3) := by decide +kernel
theorem d_SqlReaderModel_firstComparison_44 : decode prog_11_method_33_code 44 = .ok (.aload_n 0, 1) := by decide +kernel
theorem d_SqlReaderModel_firstComparison_45 : decode prog_11_method_33_code 45 = .ok (.iload 4, 2) := by decide +kernel
theorem d_SqlReaderModel_firstComparison_47 : decode prog_11_method_33_code 47 = .ok (.ldc_w 369, 3) := by decide +kernel
theorem d_SqlReaderModel_firstComparison_50 : decode prog_11_method_33_code 50 = .ok (.invokevirtual 293, 3) := by decide +kernel
theorem d_SqlReaderModel_firstComparison_53 : decode prog_11_method_33_code 53 = .ok (.ifCond .ne 15, 3) := by decide +kernel
theorem d_SqlReaderModel_firstComparison_56 : decode prog_11_method_33_code 56 = .ok (.aload_n 0, 1) := by decide +kernel
theorem d_SqlReaderModel_firstComparison_57 : decode prog_11_method_33_code 57 = .ok (.iload 4, 2) := by decide +kernel
theorem d_SqlReaderModel_firstComparison_59 : decode prog_11_method_33_code 59 = .ok (.ldc_w 350, 3) := by decide +kernel
theorem d_SqlReaderModel_firstComparison_62 : decode prog_11_method_33_code 62 = .ok (.invokevirtual 293, 3) := by decide +kernel
theorem d_SqlReaderModel_firstComparison_65 : decode prog_11_method_33_code 65 = .ok (.ifCond .eq 7, 3) := by decide +kernel
theorem d_SqlReaderModel_firstComparison_68 : decode prog_11_method_33_code 68 = .ok (.iconst 1, 1) := by decide +kernel
theorem d_SqlReaderModel_firstComparison_69 : decode prog_11_method_33_code 69 = .ok (.goto 4, 3) := by decide +kernel
theorem d_SqlReaderModel_firstComparison_72 : decode prog_11_method_33_code 72 = .ok (.iconst 0, 1) := by decide +kernel
theorem d_SqlReaderModel_firstComparison_73 : decode prog_11_method_33_code 73 = .ok (.istore 5, 2) := by decide +kernel
theorem d_SqlReaderModel_firstComparison_75 : decode prog_11_method_33_code 75 = .ok (.iload 5, 2) := by decide +kernel
theorem d_SqlReaderModel_firstComparison_77 : decode prog_11_method_33_code 77 = .ok (.ifCond .eq 10, 3) := by decide +kernel
theorem d_SqlReaderModel_firstComparison_80 : decode prog_11_method_33_code 80 = .ok (.iload_n 3, 1) := by decide +kernel
theorem d_SqlReaderModel_firstComparison_81 : decode prog_11_method_33_code 81 = .ok (.ifCond .ne 6, 3) := by decide +kernel
theorem d_SqlReaderModel_firstComparison_84 : decode prog_11_method_33_code 84 = .ok (.iload 4, 2) := by decide +kernel
theorem d_SqlReaderModel_firstComparison_86 : decode prog_11_method_33_code 86 = .ok (.ireturn, 1) := by decide +kernel
theorem d_SqlReaderModel_firstComparison_87 : decode prog_11_method_33_code 87 = .ok (.iload_n 3, 1) := by decide +kernel
theorem d_SqlReaderModel_firstComparison_88 : decode prog_11_method_33_code 88 = .ok (.aload_n 0, 1) := by decide +kernel
theorem d_SqlReaderModel_firstComparison_89 : decode prog_11_method_33_code 89 = .ok (.iload 4, 2) := by decide +kernel
theorem d_SqlReaderModel_firstComparison_91 : decode prog_11_method_33_code 91 = .ok (.invokevirtual 334, 3) := by decide +kernel
theorem d_SqlReaderModel_firstComparison_94 : decode prog_11_method_33_code 94 = .ok (.iadd, 1) := by decide +kernel
theorem d_SqlReaderModel_firstComparison_95 : decode prog_11_method_33_code 95 = .ok (.istore_n 3, 1) := by decide +kernel
theorem d_SqlReaderModel_firstComparison_96 : decode prog_11_method_33_code 96 = .ok (.iinc 4 1, 3) := by decide +kernel
theorem d_SqlReaderModel_firstComparison_99 : decode prog_11_method_33_code 99 = .ok (.goto (-94), 3) := by decide +kernel
theorem d_SqlReaderModel_firstComparison_102 : decode prog_11_method_33_code 102 = .ok (.iload_n 2, 1) := by decide +kernel
theorem d_SqlReaderModel_firstComparison_103 : decode prog_11_method_33_code 103 = .ok (.ireturn, 1) := by decide +kernel
theorem d_SqlReaderModel_fits_0 : decode prog_11_method_66_code 0 = .ok (.aload_n 0, 1) := by decide +kernel
theorem d_SqlReaderModel_fits_1 : decode prog_11_method_66_code 1 = .ok (.getfield 41, 3) := by decide +kernel
theorem d_SqlReaderModel_fits_4 : decode prog_11_method_66_code 4 = .ok (.iload_n 1, 1) := by decide +kernel
theorem d_SqlReaderModel_fits_5 : decode prog_11_method_66_code 5 = .ok (.iaload, 1) := by decide +kernel
theorem d_SqlReaderModel_fits_6 : decode prog_11_method_66_code 6 = .ok (.bipush 28, 2) := by decide +kernel
theorem d_SqlReaderModel_fits_8 : decode prog_11_method_66_code 8 = .ok (.if_icmp .ne 29, 3) := by decide +kernel
theorem d_SqlReaderModel_fits_11 : decode prog_11_method_66_code 11 = .ok (.aload_n 0, 1) := by decide +kernel
theorem d_SqlReaderModel_fits_12 : decode prog_11_method_66_code 12 = .ok (.getfield 118, 3) := by decide +kernel
theorem d_SqlReaderModel_fits_15 : decode prog_11_method_66_code 15 = .ok (.aload_n 0, 1) := by decide +kernel
theorem d_SqlReaderModel_fits_16 : decode prog_11_method_66_code 16 = .ok (.getfield 44, 3) := by decide +kernel
theorem d_SqlReaderModel_fits_19 : decode prog_11_method_66_code 19 = .ok (.iload_n 1, 1) := by decide +kernel
theorem d_SqlReaderModel_fits_20 : decode prog_11_method_66_code 20 = .ok (.iaload, 1) := by decide +kernel
theorem d_SqlReaderModel_fits_21 : decode prog_11_method_66_code 21 = .ok (.iaload, 1) := by decide +kernel
theorem d_SqlReaderModel_fits_22 : decode prog_11_method_66_code 22 = .ok (.ifCond .ne 15, 3) := by decide +kernel
theorem d_SqlReaderModel_fits_25 : decode prog_11_method_66_code 25 = .ok (.aload_n 0, 1) := by decide +kernel
theorem d_SqlReaderModel_fits_26 : decode prog_11_method_66_code 26 = .ok (.getfield 118, 3) := by decide +kernel
theorem d_SqlReaderModel_fits_29 : decode prog_11_method_66_code 29 = .ok (.aload_n 0, 1) := by decide +kernel
theorem d_SqlReaderModel_fits_30 : decode prog_11_method_66_code 30 = .ok (.getfield 44, 3) := by decide +kernel
theorem d_SqlReaderModel_fits_33 : decode prog_11_method_66_code 33 = .ok (.iload_n 1, 1) := by decide +kernel
theorem d_SqlReaderModel_fits_34 : decode prog_11_method_66_code 34 = .ok (.iaload, 1) := by decide +kernel
theorem d_SqlReaderModel_fits_35 : decode prog_11_method_66_code 35 = .ok (.iload_n 2, 1) := by decide +kernel
theorem d_SqlReaderModel_fits_36 : decode prog_11_method_66_code 36 = .ok (.iastore, 1) := by decide +kernel
theorem d_SqlReaderModel_fits_37 : decode prog_11_method_66_code 37 = .ok (.aload_n 0, 1) := by decide +kernel
theorem d_SqlReaderModel_fits_38 : decode prog_11_method_66_code 38 = .ok (.iload_n 1, 1) := by decide +kernel
theorem d_SqlReaderModel_fits_39 : decode prog_11_method_66_code 39 = .ok (.invokevirtual 582, 3) := by decide +kernel
theorem d_SqlReaderModel_fits_42 : decode prog_11_method_66_code 42 = .ok (.ifCond .eq 12, 3) := by decide +kernel
theorem d_SqlReaderModel_fits_45 : decode prog_11_method_66_code 45 = .ok (.aload_n 0, 1) := by decide +kernel
theorem d_SqlReaderModel_fits_46 : decode prog_11_method_66_code 46 = .ok (.iload_n 1, 1) := by decide +kernel
theorem d_SqlReaderModel_fits_47 : decode prog_11_method_66_code 47 = .ok (.invokevirtual 582, 3) := by decide +kernel
theorem d_SqlReaderModel_fits_50 : decode prog_11_method_66_code 50 = .ok (.iload_n 2, 1) := by decide +kernel
theorem d_SqlReaderModel_fits_51 : decode prog_11_method_66_code 51 = .ok (.if_icmp .ne 7, 3) := by decide +kernel
theorem d_SqlReaderModel_fits_54 : decode prog_11_method_66_code 54 = .ok (.iconst 1, 1) := by decide +kernel
theorem d_SqlReaderModel_fits_55 : decode prog_11_method_66_code 55 = .ok (.goto 4, 3) := by decide +kernel
theorem d_SqlReaderModel_fits_58 : decode prog_11_method_66_code 58 = .ok (.iconst 0, 1) := by decide +kernel
theorem d_SqlReaderModel_fits_59 : decode prog_11_method_66_code 59 = .ok (.ireturn, 1) := by decide +kernel
theorem d_SqlReaderModel_forget_0 : decode prog_11_method_2_code 0 = .ok (.aload_n 0, 1) := by decide +kernel
theorem d_SqlReaderModel_forget_1 : decode prog_11_method_2_code 1 = .ok (.iconst 0, 1) := by decide +kernel
theorem d_SqlReaderModel_forget_2 : decode prog_11_method_2_code 2 = .ok (.putfield 133, 3) := by decide +kernel
theorem d_SqlReaderModel_forget_5 : decode prog_11_method_2_code 5 = .ok (.aload_n 0, 1) := by decide +kernel
theorem d_SqlReaderModel_forget_6 : decode prog_11_method_2_code 6 = .ok (.iconst 0, 1) := by decide +kernel
theorem d_SqlReaderModel_forget_7 : decode prog_11_method_2_code 7 = .ok (.putfield 137, 3) := by decide +kernel
theorem d_SqlReaderModel_forget_10 : decode prog_11_method_2_code 10 = .ok (.aload_n 0, 1) := by decide +kernel
theorem d_SqlReaderModel_forget_11 : decode prog_11_method_2_code 11 = .ok (.iconst 0, 1) := by decide +kernel
theorem d_SqlReaderModel_forget_12 : decode prog_11_method_2_code 12 = .ok (.putfield 140, 3) := by decide +kernel
theorem d_SqlReaderModel_forget_15 : decode prog_11_method_2_code 15 = .ok (.aload_n 0, 1) := by decide +kernel
theorem d_SqlReaderModel_forget_16 : decode prog_11_method_2_code 16 = .ok (.iconst 0, 1) := by decide +kernel
theorem d_SqlReaderModel_forget_17 : decode prog_11_method_2_code 17 = .ok (.putfield 143, 3) := by decide +kernel
theorem d_SqlReaderModel_forget_20 : decode prog_11_method_2_code 20 = .ok (.aload_n 0, 1) := by decide +kernel
theorem d_SqlReaderModel_forget_21 : decode prog_11_method_2_code 21 = .ok (.iconst (-1), 1) := by decide +kernel
theorem d_SqlReaderModel_forget_22 : decode prog_11_method_2_code 22 = .ok (.putfield 146, 3) := by decide +kernel
theorem d_SqlReaderModel_forget_25 : decode prog_11_method_2_code 25 = .ok (.aload_n 0, 1) := by decide +kernel
theorem d_SqlReaderModel_forget_26 : decode prog_11_method_2_code 26 = .ok (.iconst (-1), 1) := by decide +kernel
theorem d_SqlReaderModel_forget_27 : decode prog_11_method_2_code 27 = .ok (.putfield 149, 3) := by decide +kernel
theorem d_SqlReaderModel_forget_30 : decode prog_11_method_2_code 30 = .ok (.aload_n 0, 1) := by decide +kernel
theorem d_SqlReaderModel_forget_31 : decode prog_11_method_2_code 31 = .ok (.iconst 0, 1) := by decide +kernel
theorem d_SqlReaderModel_forget_32 : decode prog_11_method_2_code 32 = .ok (.putfield 152, 3) := by decide +kernel
theorem d_SqlReaderModel_forget_35 : decode prog_11_method_2_code 35 = .ok (.aload_n 0, 1) := by decide +kernel
theorem d_SqlReaderModel_forget_36 : decode prog_11_method_2_code 36 = .ok (.iconst (-1), 1) := by decide +kernel
theorem d_SqlReaderModel_forget_37 : decode prog_11_method_2_code 37 = .ok (.putfield 155, 3) := by decide +kernel
theorem d_SqlReaderModel_forget_40 : decode prog_11_method_2_code 40 = .ok (.aload_n 0, 1) := by decide +kernel
theorem d_SqlReaderModel_forget_41 : decode prog_11_method_2_code 41 = .ok (.iconst 0, 1) := by decide +kernel
theorem d_SqlReaderModel_forget_42 : decode prog_11_method_2_code 42 = .ok (.putfield 158, 3) := by decide +kernel
theorem d_SqlReaderModel_forget_45 : decode prog_11_method_2_code 45 = .ok (.aload_n 0, 1) := by decide +kernel
theorem d_SqlReaderModel_forget_46 : decode prog_11_method_2_code 46 = .ok (.iconst 0, 1) := by decide +kernel
theorem d_SqlReaderModel_forget_47 : decode prog_11_method_2_code 47 = .ok (.putfield 162, 3) := by decide +kernel
theorem d_SqlReaderModel_forget_50 : decode prog_11_method_2_code 50 = .ok (.aload_n 0, 1) := by decide +kernel
theorem d_SqlReaderModel_forget_51 : decode prog_11_method_2_code 51 = .ok (.ldc2_w 165, 3) := by decide +kernel
theorem d_SqlReaderModel_forget_54 : decode prog_11_method_2_code 54 = .ok (.putfield 167, 3) := by decide +kernel
theorem d_SqlReaderModel_forget_57 : decode prog_11_method_2_code 57 = .ok (.aload_n 0, 1) := by decide +kernel
theorem d_SqlReaderModel_forget_58 : decode prog_11_method_2_code 58 = .ok (.iconst (-1), 1) := by decide +kernel
theorem d_SqlReaderModel_forget_59 : decode prog_11_method_2_code 59 = .ok (.putfield 171, 3) := by decide +kernel
theorem d_SqlReaderModel_forget_62 : decode prog_11_method_2_code 62 = .ok (.aload_n 0, 1) := by decide +kernel
theorem d_SqlReaderModel_forget_63 : decode prog_11_method_2_code 63 = .ok (.iconst 0, 1) := by decide +kernel
theorem d_SqlReaderModel_forget_64 : decode prog_11_method_2_code 64 = .ok (.putfield 174, 3) := by decide +kernel
theorem d_SqlReaderModel_forget_67 : decode prog_11_method_2_code 67 = .ok (.aload_n 0, 1) := by decide +kernel
theorem d_SqlReaderModel_forget_68 : decode prog_11_method_2_code 68 = .ok (.iconst 0, 1) := by decide +kernel
theorem d_SqlReaderModel_forget_69 : decode prog_11_method_2_code 69 = .ok (.putfield 177, 3) := by decide +kernel
theorem d_SqlReaderModel_forget_72 : decode prog_11_method_2_code 72 = .ok (.aload_n 0, 1) := by decide +kernel
theorem d_SqlReaderModel_forget_73 : decode prog_11_method_2_code 73 = .ok (.iconst 0, 1) := by decide +kernel
theorem d_SqlReaderModel_forget_74 : decode prog_11_method_2_code 74 = .ok (.putfield 180, 3) := by decide +kernel
theorem d_SqlReaderModel_forget_77 : decode prog_11_method_2_code 77 = .ok (.aload_n 0, 1) := by decide +kernel
theorem d_SqlReaderModel_forget_78 : decode prog_11_method_2_code 78 = .ok (.iconst 0, 1) := by decide +kernel
theorem d_SqlReaderModel_forget_79 : decode prog_11_method_2_code 79 = .ok (.putfield 183, 3) := by decide +kernel
theorem d_SqlReaderModel_forget_82 : decode prog_11_method_2_code 82 = .ok (.aload_n 0, 1) := by decide +kernel
theorem d_SqlReaderModel_forget_83 : decode prog_11_method_2_code 83 = .ok (.iconst 0, 1) := by decide +kernel
theorem d_SqlReaderModel_forget_84 : decode prog_11_method_2_code 84 = .ok (.putfield 186, 3) := by decide +kernel
theorem d_SqlReaderModel_forget_87 : decode prog_11_method_2_code 87 = .ok (.aload_n 0, 1) := by decide +kernel
theorem d_SqlReaderModel_forget_88 : decode prog_11_method_2_code 88 = .ok (.iconst 0, 1) := by decide +kernel
theorem d_SqlReaderModel_forget_89 : decode prog_11_method_2_code 89 = .ok (.putfield 189, 3) := by decide +kernel
theorem d_SqlReaderModel_forget_92 : decode prog_11_method_2_code 92 = .ok (.aload_n 0, 1) := by decide +kernel
theorem d_SqlReaderModel_forget_93 : decode prog_11_method_2_code 93 = .ok (.iconst 0, 1) := by decide +kernel
theorem d_SqlReaderModel_forget_94 : decode prog_11_method_2_code 94 = .ok (.putfield 192, 3) := by decide +kernel
theorem d_SqlReaderModel_forget_97 : decode prog_11_method_2_code 97 = .ok (.aload_n 0, 1) := by decide +kernel
theorem d_SqlReaderModel_forget_98 : decode prog_11_method_2_code 98 = .ok (.iconst 0, 1) := by decide +kernel
theorem d_SqlReaderModel_forget_99 : decode prog_11_method_2_code 99 = .ok (.putfield 195, 3) := by decide +kernel
theorem d_SqlReaderModel_forget_102 : decode prog_11_method_2_code 102 = .ok (.aload_n 0, 1) := by decide +kernel
theorem d_SqlReaderModel_forget_103 : decode prog_11_method_2_code 103 = .ok (.iconst 0, 1) := by decide +kernel
theorem d_SqlReaderModel_forget_104 : decode prog_11_method_2_code 104 = .ok (.putfield 198, 3) := by decide +kernel
theorem d_SqlReaderModel_forget_107 : decode prog_11_method_2_code 107 = .ok (.aload_n 0, 1) := by decide +kernel
theorem d_SqlReaderModel_forget_108 : decode prog_11_method_2_code 108 = .ok (.iconst (-1), 1) := by decide +kernel
theorem d_SqlReaderModel_forget_109 : decode prog_11_method_2_code 109 = .ok (.putfield 201, 3) := by decide +kernel
theorem d_SqlReaderModel_forget_112 : decode prog_11_method_2_code 112 = .ok (.aload_n 0, 1) := by decide +kernel
theorem d_SqlReaderModel_forget_113 : decode prog_11_method_2_code 113 = .ok (.iconst (-1), 1) := by decide +kernel
theorem d_SqlReaderModel_forget_114 : decode prog_11_method_2_code 114 = .ok (.putfield 204, 3) := by decide +kernel
theorem d_SqlReaderModel_forget_117 : decode prog_11_method_2_code 117 = .ok (.aload_n 0, 1) := by decide +kernel
theorem d_SqlReaderModel_forget_118 : decode prog_11_method_2_code 118 = .ok (.iconst 0, 1) := by decide +kernel
theorem d_SqlReaderModel_forget_119 : decode prog_11_method_2_code 119 = .ok (.putfield 207, 3) := by decide +kernel
theorem d_SqlReaderModel_forget_122 : decode prog_11_method_2_code 122 = .ok (.aload_n 0, 1) := by decide +kernel
theorem d_SqlReaderModel_forget_123 : decode prog_11_method_2_code 123 = .ok (.iconst 0, 1) := by decide +kernel
theorem d_SqlReaderModel_forget_124 : decode prog_11_method_2_code 124 = .ok (.putfield 210, 3) := by decide +kernel
theorem d_SqlReaderModel_forget_127 : decode prog_11_method_2_code 127 = .ok (.iconst 0, 1) := by decide +kernel
theorem d_SqlReaderModel_forget_128 : decode prog_11_method_2_code 128 = .ok (.istore_n 1, 1) := by decide +kernel
theorem d_SqlReaderModel_forget_129 : decode prog_11_method_2_code 129 = .ok (.iload_n 1, 1) := by decide +kernel
theorem d_SqlReaderModel_forget_130 : decode prog_11_method_2_code 130 = .ok (.bipush 10, 2) := by decide +kernel
theorem d_SqlReaderModel_forget_132 : decode prog_11_method_2_code 132 = .ok (.if_icmp .ge 16, 3) := by decide +kernel
theorem d_SqlReaderModel_forget_135 : decode prog_11_method_2_code 135 = .ok (.aload_n 0, 1) := by decide +kernel
theorem d_SqlReaderModel_forget_136 : decode prog_11_method_2_code 136 = .ok (.getfield 118, 3) := by decide +kernel
theorem d_SqlReaderModel_forget_139 : decode prog_11_method_2_code 139 = .ok (.iload_n 1, 1) := by decide +kernel
theorem d_SqlReaderModel_forget_140 : decode prog_11_method_2_code 140 = .ok (.iconst 0, 1) := by decide +kernel
theorem d_SqlReaderModel_forget_141 : decode prog_11_method_2_code 141 = .ok (.iastore, 1) := by decide +kernel
theorem d_SqlReaderModel_forget_142 : decode prog_11_method_2_code 142 = .ok (.iinc 1 1, 3) := by decide +kernel
theorem d_SqlReaderModel_forget_145 : decode prog_11_method_2_code 145 = .ok (.goto (-16), 3) := by decide +kernel
theorem d_SqlReaderModel_forget_148 : decode prog_11_method_2_code 148 = .ok (.return_, 1) := by decide +kernel
theorem d_SqlReaderModel_from_0 : decode prog_11_method_51_code 0 = .ok (.aload_n 0, 1) := by decide +kernel
theorem d_SqlReaderModel_from_1 : decode prog_11_method_51_code 1 = .ok (.getfield 94, 3) := by decide +kernel
theorem d_SqlReaderModel_from_4 : decode prog_11_method_51_code 4 = .ok (.aload_n 0, 1) := by decide +kernel
theorem d_SqlReaderModel_from_5 : decode prog_11_method_51_code 5 = .ok (.getfield 183, 3) := by decide +kernel
theorem d_SqlReaderModel_from_8 : decode prog_11_method_51_code 8 = .ok (.iload_n 1, 1) := by decide +kernel
theorem d_SqlReaderModel_from_9 : decode prog_11_method_51_code 9 = .ok (.iastore, 1) := by decide +kernel
theorem d_SqlReaderModel_from_10 : decode prog_11_method_51_code 10 = .ok (.aload_n 0, 1) := by decide +kernel
theorem d_SqlReaderModel_from_11 : decode prog_11_method_51_code 11 = .ok (.getfield 97, 3) := by decide +kernel
theorem d_SqlReaderModel_from_14 : decode prog_11_method_51_code 14 = .ok (.aload_n 0, 1) := by decide +kernel
theorem d_SqlReaderModel_from_15 : decode prog_11_method_51_code 15 = .ok (.getfield 183, 3) := by decide +kernel
theorem d_SqlReaderModel_from_18 : decode prog_11_method_51_code 18 = .ok (.iload_n 2, 1) := by decide +kernel
theorem d_SqlReaderModel_from_19 : decode prog_11_method_51_code 19 = .ok (.iastore, 1) := by decide +kernel
theorem d_SqlReaderModel_from_20 : decode prog_11_method_51_code 20 = .ok (.aload_n 0, 1) := by decide +kernel
theorem d_SqlReaderModel_from_21 : decode prog_11_method_51_code 21 = .ok (.dup, 1) := by decide +kernel
theorem d_SqlReaderModel_from_22 : decode prog_11_method_51_code 22 = .ok (.getfield 183, 3) := by decide +kernel
theorem d_SqlReaderModel_from_25 : decode prog_11_method_51_code 25 = .ok (.iconst 1, 1) := by decide +kernel
theorem d_SqlReaderModel_from_26 : decode prog_11_method_51_code 26 = .ok (.iadd, 1) := by decide +kernel
theorem d_SqlReaderModel_from_27 : decode prog_11_method_51_code 27 = .ok (.putfield 183, 3) := by decide +kernel
theorem d_SqlReaderModel_from_30 : decode prog_11_method_51_code 30 = .ok (.return_, 1) := by decide +kernel
theorem d_SqlReaderModel_gathered_0 : decode prog_11_method_82_code 0 = .ok (.aload_n 0, 1) := by decide +kernel
theorem d_SqlReaderModel_gathered_1 : decode prog_11_method_82_code 1 = .ok (.getfield 177, 3) := by decide +kernel
theorem d_SqlReaderModel_gathered_4 : decode prog_11_method_82_code 4 = .ok (.ifCond .le 7, 3) := by decide +kernel
theorem d_SqlReaderModel_gathered_7 : decode prog_11_method_82_code 7 = .ok (.iconst 1, 1) := by decide +kernel
theorem d_SqlReaderModel_gathered_8 : decode prog_11_method_82_code 8 = .ok (.goto 4, 3) := by decide +kernel
theorem d_SqlReaderModel_gathered_11 : decode prog_11_method_82_code 11 = .ok (.iconst 0, 1) := by decide +kernel
theorem d_SqlReaderModel_gathered_12 : decode prog_11_method_82_code 12 = .ok (.istore_n 1, 1) := by decide +kernel
theorem d_SqlReaderModel_gathered_13 : decode prog_11_method_82_code 13 = .ok (.iconst 0, 1) := by decide +kernel
theorem d_SqlReaderModel_gathered_14 : decode prog_11_method_82_code 14 = .ok (.istore_n 2, 1) := by decide +kernel
theorem d_SqlReaderModel_gathered_15 : decode prog_11_method_82_code 15 = .ok (.iload_n 2, 1) := by decide +kernel
theorem d_SqlReaderModel_gathered_16 : decode prog_11_method_82_code 16 = .ok (.aload_n 0, 1) := by decide +kernel
theorem d_SqlReaderModel_gathered_17 : decode prog_11_method_82_code 17 = .ok (.getfield 174, 3) := by decide +kernel
theorem d_SqlReaderModel_gathered_20 : decode prog_11_method_82_code 20 = .ok (.if_icmp .ge 32, 3) := by decide +kernel
theorem d_SqlReaderModel_gathered_23 : decode prog_11_method_82_code 23 = .ok (.iload_n 1, 1) := by decide +kernel
theorem d_SqlReaderModel_gathered_24 : decode prog_11_method_82_code 24 = .ok (.ifCond .ne 16, 3) := by decide +kernel
theorem d_SqlReaderModel_gathered_27 : decode prog_11_method_82_code 27 = .ok (.aload_n 0, 1) := by decide +kernel
theorem d_SqlReaderModel_gathered_28 : decode prog_11_method_82_code 28 = .ok (.aload_n 0, 1) := by decide +kernel
theorem d_SqlReaderModel_gathered_29 : decode prog_11_method_82_code 29 = .ok (.getfield 78, 3) := by decide +kernel
theorem d_SqlReaderModel_gathered_32 : decode prog_11_method_82_code 32 = .ok (.iload_n 2, 1) := by decide +kernel
theorem d_SqlReaderModel_gathered_33 : decode prog_11_method_82_code 33 = .ok (.iaload, 1) := by decide +kernel
theorem d_SqlReaderModel_gathered_34 : decode prog_11_method_82_code 34 = .ok (.invokevirtual 622, 3) := by decide +kernel
theorem d_SqlReaderModel_gathered_37 : decode prog_11_method_82_code 37 = .ok (.ifCond .eq 7, 3) := by decide +kernel
theorem d_SqlReaderModel_gathered_40 : decode prog_11_method_82_code 40 = .ok (.iconst 1, 1) := by decide +kernel
theorem d_SqlReaderModel_gathered_41 : decode prog_11_method_82_code 41 = .ok (.goto 4, 3) := by decide +kernel
theorem d_SqlReaderModel_gathered_44 : decode prog_11_method_82_code 44 = .ok (.iconst 0, 1) := by decide +kernel
theorem d_SqlReaderModel_gathered_45 : decode prog_11_method_82_code 45 = .ok (.istore_n 1, 1) := by decide +kernel
theorem d_SqlReaderModel_gathered_46 : decode prog_11_method_82_code 46 = .ok (.iinc 2 1, 3) := by decide +kernel
theorem d_SqlReaderModel_gathered_49 : decode prog_11_method_82_code 49 = .ok (.goto (-34), 3) := by decide +kernel
theorem d_SqlReaderModel_gathered_52 : decode prog_11_method_82_code 52 = .ok (.iload_n 1, 1) := by decide +kernel
theorem d_SqlReaderModel_gathered_53 : decode prog_11_method_82_code 53 = .ok (.ireturn, 1) := by decide +kernel
theorem d_SqlReaderModel_gathers_0 : decode prog_11_method_38_code 0 = .ok (.aload_n 0, 1) := by decide +kernel
theorem d_SqlReaderModel_gathers_1 : decode prog_11_method_38_code 1 = .ok (.iload_n 1, 1) := by decide +kernel
theorem d_SqlReaderModel_gathers_2 : decode prog_11_method_38_code 2 = .ok (.ldc_w 389, 3) := by decide +kernel
theorem d_SqlReaderModel_gathers_5 : decode prog_11_method_38_code 5 = .ok (.invokevirtual 293, 3) := by decide +kernel
theorem d_SqlReaderModel_gathers_8 : decode prog_11_method_38_code 8 = .ok (.ifCond .eq 8, 3) := by decide +kernel
theorem d_SqlReaderModel_gathers_11 : decode prog_11_method_38_code 11 = .ok (.bipush 6, 2) := by decide +kernel
theorem d_SqlReaderModel_gathers_13 : decode prog_11_method_38_code 13 = .ok (.goto 52, 3) := by decide +kernel
theorem d_SqlReaderModel_gathers_16 : decode prog_11_method_38_code 16 = .ok (.aload_n 0, 1) := by decide +kernel
theorem d_SqlReaderModel_gathers_17 : decode prog_11_method_38_code 17 = .ok (.iload_n 1, 1) := by decide +kernel
theorem d_SqlReaderModel_gathers_18 : decode prog_11_method_38_code 18 = .ok (.ldc_w 391, 3) := by decide +kernel
theorem d_SqlReaderModel_gathers_21 : decode prog_11_method_38_code 21 = .ok (.invokevirtual 293, 3) := by decide +kernel
theorem d_SqlReaderModel_gathers_24 : decode prog_11_method_38_code 24 = .ok (.ifCond .eq 8, 3) := by decide +kernel
theorem d_SqlReaderModel_gathers_27 : decode prog_11_method_38_code 27 = .ok (.bipush 7, 2) := by decide +kernel
theorem d_SqlReaderModel_gathers_29 : decode prog_11_method_38_code 29 = .ok (.goto 36, 3) := by decide +kernel
theorem d_SqlReaderModel_gathers_32 : decode prog_11_method_38_code 32 = .ok (.aload_n 0, 1) := by decide +kernel
theorem d_SqlReaderModel_gathers_33 : decode prog_11_method_38_code 33 = .ok (.iload_n 1, 1) := by decide +kernel
theorem d_SqlReaderModel_gathers_34 : decode prog_11_method_38_code 34 = .ok (.ldc_w 393, 3) := by decide +kernel
theorem d_SqlReaderModel_gathers_37 : decode prog_11_method_38_code 37 = .ok (.invokevirtual 293, 3) := by decide +kernel
theorem d_SqlReaderModel_gathers_40 : decode prog_11_method_38_code 40 = .ok (.ifCond .eq 8, 3) := by decide +kernel
theorem d_SqlReaderModel_gathers_43 : decode prog_11_method_38_code 43 = .ok (.bipush 8, 2) := by decide +kernel
theorem d_SqlReaderModel_gathers_45 : decode prog_11_method_38_code 45 = .ok (.goto 20, 3) := by decide +kernel
theorem d_SqlReaderModel_gathers_48 : decode prog_11_method_38_code 48 = .ok (.aload_n 0, 1) := by decide +kernel
theorem d_SqlReaderModel_gathers_49 : decode prog_11_method_38_code 49 = .ok (.iload_n 1, 1) := by decide +kernel
theorem d_SqlReaderModel_gathers_50 : decode prog_11_method_38_code 50 = .ok (.ldc_w 395, 3) := by decide +kernel
theorem d_SqlReaderModel_gathers_53 : decode prog_11_method_38_code 53 = .ok (.invokevirtual 293, 3) := by decide +kernel
theorem d_SqlReaderModel_gathers_56 : decode prog_11_method_38_code 56 = .ok (.ifCond .eq 8, 3) := by decide +kernel
theorem d_SqlReaderModel_gathers_59 : decode prog_11_method_38_code 59 = .ok (.bipush 9, 2) := by decide +kernel
theorem d_SqlReaderModel_gathers_61 : decode prog_11_method_38_code 61 = .ok (.goto 4, 3) := by decide +kernel
theorem d_SqlReaderModel_gathers_64 : decode prog_11_method_38_code 64 = .ok (.iconst 0, 1) := by decide +kernel
theorem d_SqlReaderModel_gathers_65 : decode prog_11_method_38_code 65 = .ok (.ireturn, 1) := by decide +kernel
theorem d_SqlReaderModel_gives_0 : decode prog_11_method_67_code 0 = .ok (.aload_n 0, 1) := by decide +kernel
theorem d_SqlReaderModel_gives_1 : decode prog_11_method_67_code 1 = .ok (.getfield 41, 3) := by decide +kernel
theorem d_SqlReaderModel_gives_4 : decode prog_11_method_67_code 4 = .ok (.iload_n 1, 1) := by decide +kernel
theorem d_SqlReaderModel_gives_5 : decode prog_11_method_67_code 5 = .ok (.iaload, 1) := by decide +kernel
theorem d_SqlReaderModel_gives_6 : decode prog_11_method_67_code 6 = .ok (.bipush 28, 2) := by decide +kernel
theorem d_SqlReaderModel_gives_8 : decode prog_11_method_67_code 8 = .ok (.if_icmp .ne 29, 3) := by decide +kernel
theorem d_SqlReaderModel_gives_11 : decode prog_11_method_67_code 11 = .ok (.aload_n 0, 1) := by decide +kernel
theorem d_SqlReaderModel_gives_12 : decode prog_11_method_67_code 12 = .ok (.getfield 118, 3) := by decide +kernel
theorem d_SqlReaderModel_gives_15 : decode prog_11_method_67_code 15 = .ok (.aload_n 0, 1) := by decide +kernel
theorem d_SqlReaderModel_gives_16 : decode prog_11_method_67_code 16 = .ok (.getfield 44, 3) := by decide +kernel
theorem d_SqlReaderModel_gives_19 : decode prog_11_method_67_code 19 = .ok (.iload_n 1, 1) := by decide +kernel
theorem d_SqlReaderModel_gives_20 : decode prog_11_method_67_code 20 = .ok (.iaload, 1) := by decide +kernel
theorem d_SqlReaderModel_gives_21 : decode prog_11_method_67_code 21 = .ok (.iaload, 1) := by decide +kernel
theorem d_SqlReaderModel_gives_22 : decode prog_11_method_67_code 22 = .ok (.ifCond .ne 15, 3) := by decide +kernel
theorem d_SqlReaderModel_gives_25 : decode prog_11_method_67_code 25 = .ok (.aload_n 0, 1) := by decide +kernel
theorem d_SqlReaderModel_gives_26 : decode prog_11_method_67_code 26 = .ok (.getfield 118, 3) := by decide +kernel
theorem d_SqlReaderModel_gives_29 : decode prog_11_method_67_code 29 = .ok (.aload_n 0, 1) := by decide +kernel
theorem d_SqlReaderModel_gives_30 : decode prog_11_method_67_code 30 = .ok (.getfield 44, 3) := by decide +kernel
theorem d_SqlReaderModel_gives_33 : decode prog_11_method_67_code 33 = .ok (.iload_n 1, 1) := by decide +kernel
theorem d_SqlReaderModel_gives_34 : decode prog_11_method_67_code 34 = .ok (.iaload, 1) := by decide +kernel
theorem d_SqlReaderModel_gives_35 : decode prog_11_method_67_code 35 = .ok (.iload_n 2, 1) := by decide +kernel
theorem d_SqlReaderModel_gives_36 : decode prog_11_method_67_code 36 = .ok (.iastore, 1) := by decide +kernel
theorem d_SqlReaderModel_gives_37 : decode prog_11_method_67_code 37 = .ok (.return_, 1) := by decide +kernel
theorem d_SqlReaderModel_hasAggregate_0 : decode prog_11_method_79_code 0 = .ok (.iconst 0, 1) := by decide +kernel
theorem d_SqlReaderModel_hasAggregate_1 : decode prog_11_method_79_code 1 = .ok (.istore_n 2, 1) := by decide +kernel
theorem d_SqlReaderModel_hasAggregate_2 : decode prog_11_method_79_code 2 = .ok (.iconst 0, 1) := by decide +kernel
theorem d_SqlReaderModel_hasAggregate_3 : decode prog_11_method_79_code 3 = .ok (.istore_n 3, 1) := by decide +kernel
theorem d_SqlReaderModel_hasAggregate_4 : decode prog_11_method_79_code 4 = .ok (.iload_n 3, 1) := by decide +kernel
theorem d_SqlReaderModel_hasAggregate_5 : decode prog_11_method_79_code 5 = .ok (.iload_n 1, 1) := by decide +kernel
theorem d_SqlReaderModel_hasAggregate_6 : decode prog_11_method_79_code 6 = .ok (.if_icmp .ge 16, 3) := by decide +kernel
theorem d_SqlReaderModel_hasAggregate_9 : decode prog_11_method_79_code 9 = .ok (.aload_n 0, 1) := by decide +kernel
theorem d_SqlReaderModel_hasAggregate_10 : decode prog_11_method_79_code 10 = .ok (.getfield 121, 3) := by decide +kernel
theorem d_SqlReaderModel_hasAggregate_13 : decode prog_11_method_79_code 13 = .ok (.iload_n 3, 1) := by decide +kernel
theorem d_SqlReaderModel_hasAggregate_14 : decode prog_11_method_79_code 14 = .ok (.iconst 0, 1) := by decide +kernel
theorem d_SqlReaderModel_hasAggregate_15 : decode prog_11_method_79_code 15 = .ok (.bastore, 1) := by decide +kernel
theorem d_SqlReaderModel_hasAggregate_16 : decode prog_11_method_79_code 16 = .ok (.iinc 3 1, 3) := by decide +kernel
theorem d_SqlReaderModel_hasAggregate_19 : decode prog_11_method_79_code 19 = .ok (.goto (-15), 3) := by decide +kernel
theorem d_SqlReaderModel_hasAggregate_22 : decode prog_11_method_79_code 22 = .ok (.aload_n 0, 1) := by decide +kernel
theorem d_SqlReaderModel_hasAggregate_23 : decode prog_11_method_79_code 23 = .ok (.getfield 121, 3) := by decide +kernel
theorem d_SqlReaderModel_hasAggregate_26 : decode prog_11_method_79_code 26 = .ok (.iload_n 1, 1) := by decide +kernel
theorem d_SqlReaderModel_hasAggregate_27 : decode prog_11_method_79_code 27 = .ok (.iconst 1, 1) := by decide +kernel
theorem d_SqlReaderModel_hasAggregate_28 : decode prog_11_method_79_code 28 = .ok (.bastore, 1) := by decide +kernel
theorem d_SqlReaderModel_hasAggregate_29 : decode prog_11_method_79_code 29 = .ok (.iload_n 1, 1) := by decide +kernel
theorem d_SqlReaderModel_hasAggregate_30 : decode prog_11_method_79_code 30 = .ok (.istore_n 3, 1) := by decide +kernel
theorem d_SqlReaderModel_hasAggregate_31 : decode prog_11_method_79_code 31 = .ok (.iload_n 3, 1) := by decide +kernel
theorem d_SqlReaderModel_hasAggregate_32 : decode prog_11_method_79_code 32 = .ok (.ifCond .lt 130, 3) := by decide +kernel
theorem d_SqlReaderModel_hasAggregate_35 : decode prog_11_method_79_code 35 = .ok (.aload_n 0, 1) := by decide +kernel
theorem d_SqlReaderModel_hasAggregate_36 : decode prog_11_method_79_code 36 = .ok (.getfield 121, 3) := by decide +kernel
theorem d_SqlReaderModel_hasAggregate_39 : decode prog_11_method_79_code 39 = .ok (.iload_n 3, 1) := by decide +kernel
theorem d_SqlReaderModel_hasAggregate_40 : decode prog_11_method_79_code 40 = .ok (.baload, 1) := by decide +kernel
theorem d_SqlReaderModel_hasAggregate_41 : decode prog_11_method_79_code 41 = .ok (.ifCond .eq 28, 3) := by decide +kernel
theorem d_SqlReaderModel_hasAggregate_44 : decode prog_11_method_79_code 44 = .ok (.aload_n 0, 1) := by decide +kernel
theorem d_SqlReaderModel_hasAggregate_45 : decode prog_11_method_79_code 45 = .ok (.getfield 41, 3) := by decide +kernel
theorem d_SqlReaderModel_hasAggregate_48 : decode prog_11_method_79_code 48 = .ok (.iload_n 3, 1) := by decide +kernel
theorem d_SqlReaderModel_hasAggregate_49 : decode prog_11_method_79_code 49 = .ok (.iaload, 1) := by decide +kernel
theorem d_SqlReaderModel_hasAggregate_50 : decode prog_11_method_79_code 50 = .ok (.iconst 5, 1) := by decide +kernel
theorem d_SqlReaderModel_hasAggregate_51 : decode prog_11_method_79_code 51 = .ok (.if_icmp .le 18, 3) := by decide +kernel
theorem d_SqlReaderModel_hasAggregate_54 : decode prog_11_method_79_code 54 = .ok (.aload_n 0, 1) := by decide +kernel
theorem d_SqlReaderModel_hasAggregate_55 : decode prog_11_method_79_code 55 = .ok (.getfield 41, 3) := by decide +kernel
theorem d_SqlReaderModel_hasAggregate_58 : decode prog_11_method_79_code 58 = .ok (.iload_n 3, 1) := by decide +kernel
theorem d_SqlReaderModel_hasAggregate_59 : decode prog_11_method_79_code 59 = .ok (.iaload, 1) := by decide +kernel
theorem d_SqlReaderModel_hasAggregate_60 : decode prog_11_method_79_code 60 = .ok (.bipush 28, 2) := by decide +kernel
theorem d_SqlReaderModel_hasAggregate_62 : decode prog_11_method_79_code 62 = .ok (.if_icmp .ge 7, 3) := by decide +kernel
theorem d_SqlReaderModel_hasAggregate_65 : decode prog_11_method_79_code 65 = .ok (.iconst 1, 1) := by decide +kernel
theorem d_SqlReaderModel_hasAggregate_66 : decode prog_11_method_79_code 66 = .ok (.goto 4, 3) := by decide +kernel
theorem d_SqlReaderModel_hasAggregate_69 : decode prog_11_method_79_code 69 = .ok (.iconst 0, 1) := by decide +kernel
theorem d_SqlReaderModel_hasAggregate_70 : decode prog_11_method_79_code 70 = .ok (.istore 4, 2) := by decide +kernel
theorem d_SqlReaderModel_hasAggregate_72 : decode prog_11_method_79_code 72 = .ok (.iload 4, 2) := by decide +kernel
theorem d_SqlReaderModel_hasAggregate_74 : decode prog_11_method_79_code 74 = .ok (.ifCond .eq 42, 3) := by decide +kernel
theorem d_SqlReaderModel_hasAggregate_77 : decode prog_11_method_79_code 77 = .ok (.aload_n 0, 1) := by decide +kernel
theorem d_SqlReaderModel_hasAggregate_78 : decode prog_11_method_79_code 78 = .ok (.getfield 121, 3) := by decide +kernel
theorem d_SqlReaderModel_hasAggregate_81 : decode prog_11_method_79_code 81 = .ok (.aload_n 0, 1) := by decide +kernel
theorem d_SqlReaderModel_hasAggregate_82 : decode prog_11_method_79_code 82 = .ok (.getfield 44, 3) := by decide +kernel
theorem d_SqlReaderModel_hasAggregate_85 : decode prog_11_method_79_code 85 = .ok (.iload_n 3, 1) := by decide +kernel
theorem d_SqlReaderModel_hasAggregate_86 : decode prog_11_method_79_code 86 = .ok (.iaload, 1) := by decide +kernel
theorem d_SqlReaderModel_hasAggregate_87 : decode prog_11_method_79_code 87 = .ok (.iconst 1, 1) := by decide +kernel
theorem d_SqlReaderModel_hasAggregate_88 : decode prog_11_method_79_code 88 = .ok (.bastore, 1) := by decide +kernel
theorem d_SqlReaderModel_hasAggregate_89 : decode prog_11_method_79_code 89 = .ok (.aload_n 0, 1) := by decide +kernel
theorem d_SqlReaderModel_hasAggregate_90 : decode prog_11_method_79_code 90 = .ok (.getfield 121, 3) := by decide +kernel
theorem d_SqlReaderModel_hasAggregate_93 : decode prog_11_method_79_code 93 = .ok (.aload_n 0, 1) := by decide +kernel
theorem d_SqlReaderModel_hasAggregate_94 : decode prog_11_method_79_code 94 = .ok (.getfield 47, 3) := by decide +kernel
theorem d_SqlReaderModel_hasAggregate_97 : decode prog_11_method_79_code 97 = .ok (.iload_n 3, 1) := by decide +kernel
theorem d_SqlReaderModel_hasAggregate_98 : decode prog_11_method_79_code 98 = .ok (.iaload, 1) := by decide +kernel
theorem d_SqlReaderModel_hasAggregate_99 : decode prog_11_method_79_code 99 = .ok (.ifCond .ge 9, 3) := by decide +kernel
theorem d_SqlReaderModel_hasAggregate_102 : decode prog_11_method_79_code 102 = .ok (.sipush 200, 3) := by decide +kernel
theorem d_SqlReaderModel_hasAggregate_105 : decode prog_11_method_79_code 105 = .ok (.goto 9, 3) := by decide +kernel
theorem d_SqlReaderModel_hasAggregate_108 : decode prog_11_method_79_code 108 = .ok (.aload_n 0, 1) := by decide +kernel
theorem d_SqlReaderModel_hasAggregate_109 : decode prog_11_method_79_code 109 = .ok (.getfield 47, 3) := by decide +kernel
theorem d_SqlReaderModel_hasAggregate_112 : decode prog_11_method_79_code 112 = .ok (.iload_n 3, 1) := by decide +kernel
theorem d_SqlReaderModel_hasAggregate_113 : decode prog_11_method_79_code 113 = .ok (.iaload, 1) := by decide +kernel
theorem d_SqlReaderModel_hasAggregate_114 : decode prog_11_method_79_code 114 = .ok (.iconst 1, 1) := by decide +kernel
theorem d_SqlReaderModel_hasAggregate_115 : decode prog_11_method_79_code 115 = .ok (.bastore, 1) := by decide +kernel
theorem d_SqlReaderModel_hasAggregate_116 : decode prog_11_method_79_code 116 = .ok (.iload_n 2, 1) := by decide +kernel
theorem d_SqlReaderModel_hasAggregate_117 : decode prog_11_method_79_code 117 = .ok (.ifCond .ne 33, 3) := by decide +kernel
theorem d_SqlReaderModel_hasAggregate_120 : decode prog_11_method_79_code 120 = .ok (.aload_n 0, 1) := by decide +kernel
theorem d_SqlReaderModel_hasAggregate_121 : decode prog_11_method_79_code 121 = .ok (.getfield 121, 3) := by decide +kernel
theorem d_SqlReaderModel_hasAggregate_124 : decode prog_11_method_79_code 124 = .ok (.iload_n 3, 1) := by decide +kernel
theorem d_SqlReaderModel_hasAggregate_125 : decode prog_11_method_79_code 125 = .ok (.baload, 1) := by decide +kernel
theorem d_SqlReaderModel_hasAggregate_126 : decode prog_11_method_79_code 126 = .ok (.ifCond .eq 28, 3) := by decide +kernel
theorem d_SqlReaderModel_hasAggregate_129 : decode prog_11_method_79_code 129 = .ok (.aload_n 0, 1) := by decide +kernel
theorem d_SqlReaderModel_hasAggregate_130 : decode prog_11_method_79_code 130 = .ok (.getfield 41, 3) := by decide +kernel
theorem d_SqlReaderModel_hasAggregate_133 : decode prog_11_method_79_code 133 = .ok (.iload_n 3, 1) := by decide +kernel
theorem d_SqlReaderModel_hasAggregate_134 : decode prog_11_method_79_code 134 = .ok (.iaload, 1) := by decide +kernel
theorem d_SqlReaderModel_hasAggregate_135 : decode prog_11_method_79_code 135 = .ok (.iconst 4, 1) := by decide +kernel
theorem d_SqlReaderModel_hasAggregate_136 : decode prog_11_method_79_code 136 = .ok (.if_icmp .le 18, 3) := by decide +kernel
theorem d_SqlReaderModel_hasAggregate_139 : decode prog_11_method_79_code 139 = .ok (.aload_n 0, 1) := by decide +kernel
theorem d_SqlReaderModel_hasAggregate_140 : decode prog_11_method_79_code 140 = .ok (.getfield 41, 3) := by decide +kernel
theorem d_SqlReaderModel_hasAggregate_143 : decode prog_11_method_79_code 143 = .ok (.iload_n 3, 1) := by decide +kernel
theorem d_SqlReaderModel_hasAggregate_144 : decode prog_11_method_79_code 144 = .ok (.iaload, 1) := by decide +kernel
theorem d_SqlReaderModel_hasAggregate_145 : decode prog_11_method_79_code 145 = .ok (.bipush 10, 2) := by decide +kernel
theorem d_SqlReaderModel_hasAggregate_147 : decode prog_11_method_79_code 147 = .ok (.if_icmp .ge 7, 3) := by decide +kernel
theorem d_SqlReaderModel_hasAggregate_150 : decode prog_11_method_79_code 150 = .ok (.iconst 1, 1) := by decide +kernel
theorem d_SqlReaderModel_hasAggregate_151 : decode prog_11_method_79_code 151 = .ok (.goto 4, 3) := by decide +kernel
theorem d_SqlReaderModel_hasAggregate_154 : decode prog_11_method_79_code 154 = .ok (.iconst 0, 1) := by decide +kernel
theorem d_SqlReaderModel_hasAggregate_155 : decode prog_11_method_79_code 155 = .ok (.istore_n 2, 1) := by decide +kernel
theorem d_SqlReaderModel_hasAggregate_156 : decode prog_11_method_79_code 156 = .ok (.iinc 3 (-1), 3) := by decide +kernel
theorem d_SqlReaderModel_hasAggregate_159 : decode prog_11_method_79_code 159 = .ok (.goto (-128), 3) := by decide +kernel
theorem d_SqlReaderModel_hasAggregate_162 : decode prog_11_method_79_code 162 = .ok (.iload_n 2, 1) := by decide +kernel
theorem d_SqlReaderModel_hasAggregate_163 : decode prog_11_method_79_code 163 = .ok (.ireturn, 1) := by decide +kernel
theorem d_SqlReaderModel_in_0 : decode prog_11_method_36_code 0 = .ok (.aload_n 0, 1) := by decide +kernel
theorem d_SqlReaderModel_in_1 : decode prog_11_method_36_code 1 = .ok (.aload_n 0, 1) := by decide +kernel
theorem d_SqlReaderModel_in_2 : decode prog_11_method_36_code 2 = .ok (.getfield 226, 3) := by decide +kernel
theorem d_SqlReaderModel_in_5 : decode prog_11_method_36_code 5 = .ok (.ifCond .ne 26, 3) := by decide +kernel
theorem d_SqlReaderModel_in_8 : decode prog_11_method_36_code 8 = .ok (.aload_n 0, 1) := by decide +kernel
theorem d_SqlReaderModel_in_9 : decode prog_11_method_36_code 9 = .ok (.iload_n 1, 1) := by decide +kernel
theorem d_SqlReaderModel_in_10 : decode prog_11_method_36_code 10 = .ok (.ldc_w 291, 3) := by decide +kernel
theorem d_SqlReaderModel_in_13 : decode prog_11_method_36_code 13 = .ok (.invokevirtual 293, 3) := by decide +kernel
theorem d_SqlReaderModel_in_16 : decode prog_11_method_36_code 16 = .ok (.ifCond .eq 15, 3) := by decide +kernel
theorem d_SqlReaderModel_in_19 : decode prog_11_method_36_code 19 = .ok (.aload_n 0, 1) := by decide +kernel
theorem d_SqlReaderModel_in_20 : decode prog_11_method_36_code 20 = .ok (.iload_n 1, 1) := by decide +kernel
theorem d_SqlReaderModel_in_21 : decode prog_11_method_36_code 21 = .ok (.iload_n 2, 1) := by decide +kernel
theorem d_SqlReaderModel_in_22 : decode prog_11_method_36_code 22 = .ok (.invokevirtual 384, 3) := by decide +kernel
theorem d_SqlReaderModel_in_25 : decode prog_11_method_36_code 25 = .ok (.iload_n 2, 1) := by decide +kernel
theorem d_SqlReaderModel_in_26 : decode prog_11_method_36_code 26 = .ok (.iconst 1, 1) := by decide +kernel
theorem d_SqlReaderModel_in_27 : decode prog_11_method_36_code 27 = .ok (.isub, 1) := by decide +kernel
theorem d_SqlReaderModel_in_28 : decode prog_11_method_36_code 28 = .ok (.if_icmp .eq 7, 3) := by decide +kernel
theorem d_SqlReaderModel_in_31 : decode prog_11_method_36_code 31 = .ok (.iconst 1, 1) := by decide +kernel
theorem d_SqlReaderModel_in_32 : decode prog_11_method_36_code 32 = .ok (.goto 4, 3) := by decide +kernel
theorem d_SqlReaderModel_in_35 : decode prog_11_method_36_code 35 = .ok (.iconst 0, 1) := by decide +kernel
theorem d_SqlReaderModel_in_36 : decode prog_11_method_36_code 36 = .ok (.putfield 226, 3) := by decide +kernel
theorem d_SqlReaderModel_in_39 : decode prog_11_method_36_code 39 = .ok (.iconst (-1), 1) := by decide +kernel
theorem d_SqlReaderModel_in_40 : decode prog_11_method_36_code 40 = .ok (.istore 7, 2) := by decide +kernel
theorem d_SqlReaderModel_in_42 : decode prog_11_method_36_code 42 = .ok (.iload_n 1, 1) := by decide +kernel
theorem d_SqlReaderModel_in_43 : decode prog_11_method_36_code 43 = .ok (.iconst 1, 1) := by decide +kernel
theorem d_SqlReaderModel_in_44 : decode prog_11_method_36_code 44 = .ok (.iadd, 1) := by decide +kernel
theorem d_SqlReaderModel_in_45 : decode prog_11_method_36_code 45 = .ok (.istore 8, 2) := by decide +kernel
theorem d_SqlReaderModel_in_47 : decode prog_11_method_36_code 47 = .ok (.aload_n 0, 1) := by decide +kernel
theorem d_SqlReaderModel_in_48 : decode prog_11_method_36_code 48 = .ok (.getfield 226, 3) := by decide +kernel
theorem d_SqlReaderModel_in_51 : decode prog_11_method_36_code 51 = .ok (.ifCond .ne 7, 3) := by decide +kernel
theorem d_SqlReaderModel_in_54 : decode prog_11_method_36_code 54 = .ok (.iconst 1, 1) := by decide +kernel
theorem d_SqlReaderModel_in_55 : decode prog_11_method_36_code 55 = .ok (.goto 4, 3) := by decide +kernel
theorem d_SqlReaderModel_in_58 : decode prog_11_method_36_code 58 = .ok (.iconst 0, 1) := by decide +kernel
theorem d_SqlReaderModel_in_59 : decode prog_11_method_36_code 59 = .ok (.istore 9, 2) := by decide +kernel
theorem d_SqlReaderModel_in_61 : decode prog_11_method_36_code 61 = .ok (.iload 9, 2) := by decide +kernel
theorem d_SqlReaderModel_in_63 : decode prog_11_method_36_code 63 = .ok (.ifCond .eq 112, 3) := by decide +kernel
theorem d_SqlReaderModel_in_66 : decode prog_11_method_36_code 66 = .ok (.aload_n 0, 1) := by decide +kernel
theorem d_SqlReaderModel_in_67 : decode prog_11_method_36_code 67 = .ok (.getfield 226, 3) := by decide +kernel
theorem d_SqlReaderModel_in_70 : decode prog_11_method_36_code 70 = .ok (.ifCond .ne 105, 3) := by decide +kernel
theorem d_SqlReaderModel_in_73 : decode prog_11_method_36_code 73 = .ok (.aload_n 0, 1) := by decide +kernel
theorem d_SqlReaderModel_in_74 : decode prog_11_method_36_code 74 = .ok (.ldc_w 387, 3) := by decide +kernel
theorem d_SqlReaderModel_in_77 : decode prog_11_method_36_code 77 = .ok (.iload 8, 2) := by decide +kernel
theorem d_SqlReaderModel_in_79 : decode prog_11_method_36_code 79 = .ok (.iload_n 2, 1) := by decide +kernel
theorem d_SqlReaderModel_in_80 : decode prog_11_method_36_code 80 = .ok (.iconst 1, 1) := by decide +kernel
theorem d_SqlReaderModel_in_81 : decode prog_11_method_36_code 81 = .ok (.isub, 1) := by decide +kernel
theorem d_SqlReaderModel_in_82 : decode prog_11_method_36_code 82 = .ok (.invokevirtual 374, 3) := by decide +kernel
theorem d_SqlReaderModel_in_85 : decode prog_11_method_36_code 85 = .ok (.istore 10, 2) := by decide +kernel
theorem d_SqlReaderModel_in_87 : decode prog_11_method_36_code 87 = .ok (.iload 7, 2) := by decide +kernel
theorem d_SqlReaderModel_in_89 : decode prog_11_method_36_code 89 = .ok (.ifCond .ge 8, 3) := by decide +kernel
theorem d_SqlReaderModel_in_92 : decode prog_11_method_36_code 92 = .ok (.iload 4, 2) := by decide +kernel
theorem d_SqlReaderModel_in_94 : decode prog_11_method_36_code 94 = .ok (.goto 11, 3) := by decide +kernel
theorem d_SqlReaderModel_in_97 : decode prog_11_method_36_code 97 = .ok (.aload_n 0, 1) := by decide +kernel
theorem d_SqlReaderModel_in_98 : decode prog_11_method_36_code 98 = .ok (.iload 5, 2) := by decide +kernel
theorem d_SqlReaderModel_in_100 : decode prog_11_method_36_code 100 = .ok (.iload 6, 2) := by decide +kernel
theorem d_SqlReaderModel_in_102 : decode prog_11_method_36_code 102 = .ok (.invokevirtual 378, 3) := by decide +kernel
theorem d_SqlReaderModel_in_105 : decode prog_11_method_36_code 105 = .ok (.istore 11, 2) := by decide +kernel
theorem d_SqlReaderModel_in_107 : decode prog_11_method_36_code 107 = .ok (.aload_n 0, 1) := by decide +kernel
theorem d_SqlReaderModel_in_108 : decode prog_11_method_36_code 108 = .ok (.bipush 17, 2) := by decide +kernel
theorem d_SqlReaderModel_in_110 : decode prog_11_method_36_code 110 = .ok (.iload 11, 2) := by decide +kernel
theorem d_SqlReaderModel_in_112 : decode prog_11_method_36_code 112 = .ok (.aload_n 0, 1) := by decide +kernel
theorem d_SqlReaderModel_in_113 : decode prog_11_method_36_code 113 = .ok (.iconst 0, 1) := by decide +kernel
theorem d_SqlReaderModel_in_114 : decode prog_11_method_36_code 114 = .ok (.iload 8, 2) := by decide +kernel
theorem d_SqlReaderModel_in_116 : decode prog_11_method_36_code 116 = .ok (.iload 10, 2) := by decide +kernel
theorem d_SqlReaderModel_in_118 : decode prog_11_method_36_code 118 = .ok (.iload_n 3, 1) := by decide +kernel
theorem d_SqlReaderModel_in_119 : decode prog_11_method_36_code 119 = .ok (.iconst 1, 1) := by decide +kernel
theorem d_SqlReaderModel_in_120 : decode prog_11_method_36_code 120 = .ok (.iadd, 1) := by decide +kernel
theorem d_SqlReaderModel_in_121 : decode prog_11_method_36_code 121 = .ok (.invokestatic 330, 3) := by decide +kernel
theorem d_SqlReaderModel_in_124 : decode prog_11_method_36_code 124 = .ok (.invokevirtual 287, 3) := by decide +kernel
theorem d_SqlReaderModel_in_127 : decode prog_11_method_36_code 127 = .ok (.istore 12, 2) := by decide +kernel
theorem d_SqlReaderModel_in_129 : decode prog_11_method_36_code 129 = .ok (.iload 7, 2) := by decide +kernel
theorem d_SqlReaderModel_in_131 : decode prog_11_method_36_code 131 = .ok (.ifCond .ge 8, 3) := by decide +kernel
theorem d_SqlReaderModel_in_134 : decode prog_11_method_36_code 134 = .ok (.iload 12, 2) := by decide +kernel
theorem d_SqlReaderModel_in_136 : decode prog_11_method_36_code 136 = .ok (.goto 13, 3) := by decide +kernel
theorem d_SqlReaderModel_in_139 : decode prog_11_method_36_code 139 = .ok (.aload_n 0, 1) := by decide +kernel
theorem d_SqlReaderModel_in_140 : decode prog_11_method_36_code 140 = .ok (.bipush 27, 2) := by decide +kernel
theorem d_SqlReaderModel_in_142 : decode prog_11_method_36_code 142 = .ok (.iload 7, 2) := by decide +kernel
theorem d_SqlReaderModel_in_144 : decode prog_11_method_36_code 144 = .ok (.iload 12, 2) := by decide +kernel
theorem d_SqlReaderModel_in_146 : decode prog_11_method_36_code 146 = .ok (.invokevirtual 287, 3) := by decide +kernel
theorem d_SqlReaderModel_in_149 : decode prog_11_method_36_code 149 = .ok (.istore 7, 2) := by decide +kernel
theorem d_SqlReaderModel_in_151 : decode prog_11_method_36_code 151 = .ok (.iload 10, 2) := by decide +kernel
theorem d_SqlReaderModel_in_153 : decode prog_11_method_36_code 153 = .ok (.iload_n 2, 1) := by decide +kernel
theorem d_SqlReaderModel_in_154 : decode prog_11_method_36_code 154 = .ok (.iconst 1, 1) := by decide +kernel
theorem d_SqlReaderModel_in_155 : decode prog_11_method_36_code 155 = .ok (.isub, 1) := by decide +kernel
theorem d_SqlReaderModel_in_156 : decode prog_11_method_36_code 156 = .ok (.if_icmp .ge 7, 3) := by decide +kernel
theorem d_SqlReaderModel_in_159 : decode prog_11_method_36_code 159 = .ok (.iconst 1, 1) := by decide +kernel
theorem d_SqlReaderModel_in_160 : decode prog_11_method_36_code 160 = .ok (.goto 4, 3) := by decide +kernel
theorem d_SqlReaderModel_in_163 : decode prog_11_method_36_code 163 = .ok (.iconst 0, 1) := by decide +kernel
theorem d_SqlReaderModel_in_164 : decode prog_11_method_36_code 164 = .ok (.istore 9, 2) := by decide +kernel
theorem d_SqlReaderModel_in_166 : decode prog_11_method_36_code 166 = .ok (.iload 10, 2) := by decide +kernel
theorem d_SqlReaderModel_in_168 : decode prog_11_method_36_code 168 = .ok (.iconst 1, 1) := by decide +kernel
theorem d_SqlReaderModel_in_169 : decode prog_11_method_36_code 169 = .ok (.iadd, 1) := by decide +kernel
theorem d_SqlReaderModel_in_170 : decode prog_11_method_36_code 170 = .ok (.istore 8, 2) := by decide +kernel
theorem d_SqlReaderModel_in_172 : decode prog_11_method_36_code 172 = .ok (.goto (-111), 3) := by decide +kernel
theorem d_SqlReaderModel_in_175 : decode prog_11_method_36_code 175 = .ok (.iload 7, 2) := by decide +kernel
theorem d_SqlReaderModel_in_177 : decode prog_11_method_36_code 177 = .ok (.ifCond .ge 7, 3) := by decide +kernel
theorem d_SqlReaderModel_in_180 : decode prog_11_method_36_code 180 = .ok (.iconst 0, 1) := by decide +kernel
theorem d_SqlReaderModel_in_181 : decode prog_11_method_36_code 181 = .ok (.goto 5, 3) := by decide +kernel
theorem d_SqlReaderModel_in_184 : decode prog_11_method_36_code 184 = .ok (.iload 7, 2) := by decide +kernel
theorem d_SqlReaderModel_in_186 : decode prog_11_method_36_code 186 = .ok (.ireturn, 1) := by decide +kernel
theorem d_SqlReaderModel_is_0 : decode prog_11_method_13_code 0 = .ok (.iload_n 1, 1) := by decide +kernel
theorem d_SqlReaderModel_is_1 : decode prog_11_method_13_code 1 = .ok (.aload_n 0, 1) := by decide +kernel
theorem d_SqlReaderModel_is_2 : decode prog_11_method_13_code 2 = .ok (.getfield 223, 3) := by decide +kernel
theorem d_SqlReaderModel_is_5 : decode prog_11_method_13_code 5 = .ok (.if_icmp .ge 48, 3) := by decide +kernel
theorem d_SqlReaderModel_is_8 : decode prog_11_method_13_code 8 = .ok (.aload_n 0, 1) := by decide +kernel
theorem d_SqlReaderModel_is_9 : decode prog_11_method_13_code 9 = .ok (.getfield 13, 3) := by decide +kernel
theorem d_SqlReaderModel_is_12 : decode prog_11_method_13_code 12 = .ok (.iload_n 1, 1) := by decide +kernel
theorem d_SqlReaderModel_is_13 : decode prog_11_method_13_code 13 = .ok (.iaload, 1) := by decide +kernel
theorem d_SqlReaderModel_is_14 : decode prog_11_method_13_code 14 = .ok (.iconst 1, 1) := by decide +kernel
theorem d_SqlReaderModel_is_15 : decode prog_11_method_13_code 15 = .ok (.if_icmp .eq 14, 3) := by decide +kernel
theorem d_SqlReaderModel_is_18 : decode prog_11_method_13_code 18 = .ok (.aload_n 0, 1) := by decide +kernel
theorem d_SqlReaderModel_is_19 : decode prog_11_method_13_code 19 = .ok (.getfield 13, 3) := by decide +kernel
theorem d_SqlReaderModel_is_22 : decode prog_11_method_13_code 22 = .ok (.iload_n 1, 1) := by decide +kernel
theorem d_SqlReaderModel_is_23 : decode prog_11_method_13_code 23 = .ok (.iaload, 1) := by decide +kernel
theorem d_SqlReaderModel_is_24 : decode prog_11_method_13_code 24 = .ok (.bipush 6, 2) := by decide +kernel
theorem d_SqlReaderModel_is_26 : decode prog_11_method_13_code 26 = .ok (.if_icmp .ne 27, 3) := by decide +kernel
theorem d_SqlReaderModel_is_29 : decode prog_11_method_13_code 29 = .ok (.aload_n 0, 1) := by decide +kernel
theorem d_SqlReaderModel_is_30 : decode prog_11_method_13_code 30 = .ok (.getfield 20, 3) := by decide +kernel
theorem d_SqlReaderModel_is_33 : decode prog_11_method_13_code 33 = .ok (.iload_n 1, 1) := by decide +kernel
theorem d_SqlReaderModel_is_34 : decode prog_11_method_13_code 34 = .ok (.iaload, 1) := by decide +kernel
theorem d_SqlReaderModel_is_35 : decode prog_11_method_13_code 35 = .ok (.aload_n 0, 1) := by decide +kernel
theorem d_SqlReaderModel_is_36 : decode prog_11_method_13_code 36 = .ok (.getfield 17, 3) := by decide +kernel
theorem d_SqlReaderModel_is_39 : decode prog_11_method_13_code 39 = .ok (.iload_n 1, 1) := by decide +kernel
theorem d_SqlReaderModel_is_40 : decode prog_11_method_13_code 40 = .ok (.iaload, 1) := by decide +kernel
theorem d_SqlReaderModel_is_41 : decode prog_11_method_13_code 41 = .ok (.isub, 1) := by decide +kernel
theorem d_SqlReaderModel_is_42 : decode prog_11_method_13_code 42 = .ok (.aload_n 2, 1) := by decide +kernel
theorem d_SqlReaderModel_is_43 : decode prog_11_method_13_code 43 = .ok (.invokevirtual 249, 3) := by decide +kernel
theorem d_SqlReaderModel_is_46 : decode prog_11_method_13_code 46 = .ok (.if_icmp .ne 7, 3) := by decide +kernel
theorem d_SqlReaderModel_is_49 : decode prog_11_method_13_code 49 = .ok (.iconst 1, 1) := by decide +kernel
theorem d_SqlReaderModel_is_50 : decode prog_11_method_13_code 50 = .ok (.goto 4, 3) := by decide +kernel
theorem d_SqlReaderModel_is_53 : decode prog_11_method_13_code 53 = .ok (.iconst 0, 1) := by decide +kernel
theorem d_SqlReaderModel_is_54 : decode prog_11_method_13_code 54 = .ok (.istore_n 3, 1) := by decide +kernel
theorem d_SqlReaderModel_is_55 : decode prog_11_method_13_code 55 = .ok (.iconst 0, 1) := by decide +kernel
theorem d_SqlReaderModel_is_56 : decode prog_11_method_13_code 56 = .ok (.istore 4, 2) := by decide +kernel
theorem d_SqlReaderModel_is_58 : decode prog_11_method_13_code 58 = .ok (.iload_n 3, 1) := by decide +kernel
theorem d_SqlReaderModel_is_59 : decode prog_11_method_13_code 59 = .ok (.ifCond .eq 47, 3) := by decide +kernel
theorem d_SqlReaderModel_is_62 : decode prog_11_method_13_code 62 = .ok (.iload 4, 2) := by decide +kernel
theorem d_SqlReaderModel_is_64 : decode prog_11_method_13_code 64 = .ok (.aload_n 2, 1) := by decide +kernel
theorem d_SqlReaderModel_is_65 : decode prog_11_method_13_code 65 = .ok (.invokevirtual 249, 3) := by decide +kernel
theorem d_SqlReaderModel_is_68 : decode prog_11_method_13_code 68 = .ok (.if_icmp .ge 38, 3) := by decide +kernel
theorem d_SqlReaderModel_is_71 : decode prog_11_method_13_code 71 = .ok (.aload_n 0, 1) := by decide +kernel
theorem d_SqlReaderModel_is_72 : decode prog_11_method_13_code 72 = .ok (.getfield 7, 3) := by decide +kernel
theorem d_SqlReaderModel_is_75 : decode prog_11_method_13_code 75 = .ok (.aload_n 0, 1) := by decide +kernel
theorem d_SqlReaderModel_is_76 : decode prog_11_method_13_code 76 = .ok (.getfield 17, 3) := by decide +kernel
theorem d_SqlReaderModel_is_79 : decode prog_11_method_13_code 79 = .ok (.iload_n 1, 1) := by decide +kernel
theorem d_SqlReaderModel_is_80 : decode prog_11_method_13_code 80 = .ok (.iaload, 1) := by decide +kernel
theorem d_SqlReaderModel_is_81 : decode prog_11_method_13_code 81 = .ok (.iload 4, 2) := by decide +kernel
theorem d_SqlReaderModel_is_83 : decode prog_11_method_13_code 83 = .ok (.iadd, 1) := by decide +kernel
theorem d_SqlReaderModel_is_84 : decode prog_11_method_13_code 84 = .ok (.baload, 1) := by decide +kernel
theorem d_SqlReaderModel_is_85 : decode prog_11_method_13_code 85 = .ok (.aload_n 2, 1) := by decide +kernel
theorem d_SqlReaderModel_is_86 : decode prog_11_method_13_code 86 = .ok (.iload 4, 2) := by decide +kernel
theorem d_SqlReaderModel_is_88 : decode prog_11_method_13_code 88 = .ok (.invokevirtual 254, 3) := by decide +kernel
theorem d_SqlReaderModel_is_91 : decode prog_11_method_13_code 91 = .ok (.if_icmp .ne 7, 3) := by decide +kernel
theorem d_SqlReaderModel_is_94 : decode prog_11_method_13_code 94 = .ok (.iconst 1, 1) := by decide +kernel
theorem d_SqlReaderModel_is_95 : decode prog_11_method_13_code 95 = .ok (.goto 4, 3) := by decide +kernel
theorem d_SqlReaderModel_is_98 : decode prog_11_method_13_code 98 = .ok (.iconst 0, 1) := by decide +kernel
theorem d_SqlReaderModel_is_99 : decode prog_11_method_13_code 99 = .ok (.istore_n 3, 1) := by decide +kernel
theorem d_SqlReaderModel_is_100 : decode prog_11_method_13_code 100 = .ok (.iinc 4 1, 3) := by decide +kernel
theorem d_SqlReaderModel_is_103 : decode prog_11_method_13_code 103 = .ok (.goto (-45), 3) := by decide +kernel
theorem d_SqlReaderModel_is_106 : decode prog_11_method_13_code 106 = .ok (.iload_n 3, 1) := by decide +kernel
theorem d_SqlReaderModel_is_107 : decode prog_11_method_13_code 107 = .ok (.ireturn, 1) := by decide +kernel
theorem d_SqlReaderModel_isCapital_0 : decode prog_11_method_4_code 0 = .ok (.iload_n 0, 1) := by decide +kernel
theorem d_SqlReaderModel_isCapital_1 : decode prog_11_method_4_code 1 = .ok (.bipush 65, 2) := by decide +kernel
theorem d_SqlReaderModel_isCapital_3 : decode prog_11_method_4_code 3 = .ok (.if_icmp .lt 13, 3) := by decide +kernel
theorem d_SqlReaderModel_isCapital_6 : decode prog_11_method_4_code 6 = .ok (.iload_n 0, 1) := by decide +kernel
theorem d_SqlReaderModel_isCapital_7 : decode prog_11_method_4_code 7 = .ok (.bipush 90, 2) := by decide +kernel
theorem d_SqlReaderModel_isCapital_9 : decode prog_11_method_4_code 9 = .ok (.if_icmp .gt 7, 3) := by decide +kernel
theorem d_SqlReaderModel_isCapital_12 : decode prog_11_method_4_code 12 = .ok (.iconst 1, 1) := by decide +kernel
theorem d_SqlReaderModel_isCapital_13 : decode prog_11_method_4_code 13 = .ok (.goto 4, 3) := by decide +kernel
theorem d_SqlReaderModel_isCapital_16 : decode prog_11_method_4_code 16 = .ok (.iconst 0, 1) := by decide +kernel
theorem d_SqlReaderModel_isCapital_17 : decode prog_11_method_4_code 17 = .ok (.ireturn, 1) := by decide +kernel
theorem d_SqlReaderModel_isDigit_0 : decode prog_11_method_6_code 0 = .ok (.iload_n 0, 1) := by decide +kernel
theorem d_SqlReaderModel_isDigit_1 : decode prog_11_method_6_code 1 = .ok (.bipush 48, 2) := by decide +kernel
theorem d_SqlReaderModel_isDigit_3 : decode prog_11_method_6_code 3 = .ok (.if_icmp .lt 13, 3) := by decide +kernel
theorem d_SqlReaderModel_isDigit_6 : decode prog_11_method_6_code 6 = .ok (.iload_n 0, 1) := by decide +kernel
theorem d_SqlReaderModel_isDigit_7 : decode prog_11_method_6_code 7 = .ok (.bipush 57, 2) := by decide +kernel
theorem d_SqlReaderModel_isDigit_9 : decode prog_11_method_6_code 9 = .ok (.if_icmp .gt 7, 3) := by decide +kernel
theorem d_SqlReaderModel_isDigit_12 : decode prog_11_method_6_code 12 = .ok (.iconst 1, 1) := by decide +kernel
theorem d_SqlReaderModel_isDigit_13 : decode prog_11_method_6_code 13 = .ok (.goto 4, 3) := by decide +kernel
theorem d_SqlReaderModel_isDigit_16 : decode prog_11_method_6_code 16 = .ok (.iconst 0, 1) := by decide +kernel
theorem d_SqlReaderModel_isDigit_17 : decode prog_11_method_6_code 17 = .ok (.ireturn, 1) := by decide +kernel
theorem d_SqlReaderModel_isGrouped_0 : decode prog_11_method_80_code 0 = .ok (.iconst 0, 1) := by decide +kernel
theorem d_SqlReaderModel_isGrouped_1 : decode prog_11_method_80_code 1 = .ok (.istore_n 2, 1) := by decide +kernel
theorem d_SqlReaderModel_isGrouped_2 : decode prog_11_method_80_code 2 = .ok (.iconst 0, 1) := by decide +kernel
theorem d_SqlReaderModel_isGrouped_3 : decode prog_11_method_80_code 3 = .ok (.istore_n 3, 1) := by decide +kernel
theorem d_SqlReaderModel_isGrouped_4 : decode prog_11_method_80_code 4 = .ok (.iload_n 3, 1) := by decide +kernel
theorem d_SqlReaderModel_isGrouped_5 : decode prog_11_method_80_code 5 = .ok (.aload_n 0, 1) := by decide +kernel
theorem d_SqlReaderModel_isGrouped_6 : decode prog_11_method_80_code 6 = .ok (.getfield 177, 3) := by decide +kernel
theorem d_SqlReaderModel_isGrouped_9 : decode prog_11_method_80_code 9 = .ok (.if_icmp .ge 59, 3) := by decide +kernel
theorem d_SqlReaderModel_isGrouped_12 : decode prog_11_method_80_code 12 = .ok (.iload_n 2, 1) := by decide +kernel
theorem d_SqlReaderModel_isGrouped_13 : decode prog_11_method_80_code 13 = .ok (.ifCond .ne 43, 3) := by decide +kernel
theorem d_SqlReaderModel_isGrouped_16 : decode prog_11_method_80_code 16 = .ok (.aload_n 0, 1) := by decide +kernel
theorem d_SqlReaderModel_isGrouped_17 : decode prog_11_method_80_code 17 = .ok (.getfield 44, 3) := by decide +kernel
theorem d_SqlReaderModel_isGrouped_20 : decode prog_11_method_80_code 20 = .ok (.aload_n 0, 1) := by decide +kernel
theorem d_SqlReaderModel_isGrouped_21 : decode prog_11_method_80_code 21 = .ok (.getfield 81, 3) := by decide +kernel
theorem d_SqlReaderModel_isGrouped_24 : decode prog_11_method_80_code 24 = .ok (.iload_n 3, 1) := by decide +kernel
theorem d_SqlReaderModel_isGrouped_25 : decode prog_11_method_80_code 25 = .ok (.iaload, 1) := by decide +kernel
theorem d_SqlReaderModel_isGrouped_26 : decode prog_11_method_80_code 26 = .ok (.iaload, 1) := by decide +kernel
theorem d_SqlReaderModel_isGrouped_27 : decode prog_11_method_80_code 27 = .ok (.aload_n 0, 1) := by decide +kernel
theorem d_SqlReaderModel_isGrouped_28 : decode prog_11_method_80_code 28 = .ok (.getfield 44, 3) := by decide +kernel
theorem d_SqlReaderModel_isGrouped_31 : decode prog_11_method_80_code 31 = .ok (.iload_n 1, 1) := by decide +kernel
theorem d_SqlReaderModel_isGrouped_32 : decode prog_11_method_80_code 32 = .ok (.iaload, 1) := by decide +kernel
theorem d_SqlReaderModel_isGrouped_33 : decode prog_11_method_80_code 33 = .ok (.if_icmp .ne 27, 3) := by decide +kernel
theorem d_SqlReaderModel_isGrouped_36 : decode prog_11_method_80_code 36 = .ok (.aload_n 0, 1) := by decide +kernel
theorem d_SqlReaderModel_isGrouped_37 : decode prog_11_method_80_code 37 = .ok (.getfield 47, 3) := by decide +kernel
theorem d_SqlReaderModel_isGrouped_40 : decode prog_11_method_80_code 40 = .ok (.aload_n 0, 1) := by decide +kernel
theorem d_SqlReaderModel_isGrouped_41 : decode prog_11_method_80_code 41 = .ok (.getfield 81, 3) := by decide +kernel
theorem d_SqlReaderModel_isGrouped_44 : decode prog_11_method_80_code 44 = .ok (.iload_n 3, 1) := by decide +kernel
theorem d_SqlReaderModel_isGrouped_45 : decode prog_11_method_80_code 45 = .ok (.iaload, 1) := by decide +kernel
theorem d_SqlReaderModel_isGrouped_46 : decode prog_11_method_80_code 46 = .ok (.iaload, 1) := by decide +kernel
theorem d_SqlReaderModel_isGrouped_47 : decode prog_11_method_80_code 47 = .ok (.aload_n 0, 1) := by decide +kernel
theorem d_SqlReaderModel_isGrouped_48 : decode prog_11_method_80_code 48 = .ok (.getfield 47, 3) := by decide +kernel
theorem d_SqlReaderModel_isGrouped_51 : decode prog_11_method_80_code 51 = .ok (.iload_n 1, 1) := by decide +kernel
theorem d_SqlReaderModel_isGrouped_52 : decode prog_11_method_80_code 52 = .ok (.iaload, 1) := by decide +kernel
theorem d_SqlReaderModel_isGrouped_53 : decode prog_11_method_80_code 53 = .ok (.if_icmp .ne 7, 3) := by decide +kernel
theorem d_SqlReaderModel_isGrouped_56 : decode prog_11_method_80_code 56 = .ok (.iconst 1, 1) := by decide +kernel
theorem d_SqlReaderModel_isGrouped_57 : decode prog_11_method_80_code 57 = .ok (.goto 4, 3) := by decide +kernel
theorem d_SqlReaderModel_isGrouped_60 : decode prog_11_method_80_code 60 = .ok (.iconst 0, 1) := by decide +kernel
theorem d_SqlReaderModel_isGrouped_61 : decode prog_11_method_80_code 61 = .ok (.istore_n 2, 1) := by decide +kernel
theorem d_SqlReaderModel_isGrouped_62 : decode prog_11_method_80_code 62 = .ok (.iinc 3 1, 3) := by decide +kernel
theorem d_SqlReaderModel_isGrouped_65 : decode prog_11_method_80_code 65 = .ok (.goto (-61), 3) := by decide +kernel
theorem d_SqlReaderModel_isGrouped_68 : decode prog_11_method_80_code 68 = .ok (.iload_n 2, 1) := by decide +kernel
theorem d_SqlReaderModel_isGrouped_69 : decode prog_11_method_80_code 69 = .ok (.ireturn, 1) := by decide +kernel
theorem d_SqlReaderModel_isInName_0 : decode prog_11_method_7_code 0 = .ok (.iload_n 0, 1) := by decide +kernel
theorem d_SqlReaderModel_isInName_1 : decode prog_11_method_7_code 1 = .ok (.invokestatic 216, 3) := by decide +kernel
theorem d_SqlReaderModel_isInName_4 : decode prog_11_method_7_code 4 = .ok (.ifCond .ne 16, 3) := by decide +kernel
theorem d_SqlReaderModel_isInName_7 : decode prog_11_method_7_code 7 = .ok (.iload_n 0, 1) := by decide +kernel
theorem d_SqlReaderModel_isInName_8 : decode prog_11_method_7_code 8 = .ok (.invokestatic 220, 3) := by decide +kernel
theorem d_SqlReaderModel_isInName_11 : decode prog_11_method_7_code 11 = .ok (.ifCond .ne 9, 3) := by decide +kernel
theorem d_SqlReaderModel_isInName_14 : decode prog_11_method_7_code 14 = .ok (.iload_n 0, 1) := by decide +kernel
theorem d_SqlReaderModel_isInName_15 : decode prog_11_method_7_code 15 = .ok (.bipush 95, 2) := by decide +kernel
theorem d_SqlReaderModel_isInName_17 : decode prog_11_method_7_code 17 = .ok (.if_icmp .ne 7, 3) := by decide +kernel
theorem d_SqlReaderModel_isInName_20 : decode prog_11_method_7_code 20 = .ok (.iconst 1, 1) := by decide +kernel
theorem d_SqlReaderModel_isInName_21 : decode prog_11_method_7_code 21 = .ok (.goto 4, 3) := by decide +kernel
theorem d_SqlReaderModel_isInName_24 : decode prog_11_method_7_code 24 = .ok (.iconst 0, 1) := by decide +kernel
theorem d_SqlReaderModel_isInName_25 : decode prog_11_method_7_code 25 = .ok (.ireturn, 1) := by decide +kernel
theorem d_SqlReaderModel_isKind_0 : decode prog_11_method_14_code 0 = .ok (.iload_n 1, 1) := by decide +kernel
