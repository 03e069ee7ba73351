theorem d_SqlReaderLaw_law_0 : decode code 0 = .ok (.new 7, 3) := by decide +kernel
theorem d_SqlReaderLaw_law_3 : decode code 3 = .ok (.dup, 1) := by decide +kernel
theorem d_SqlReaderLaw_law_4 : decode code 4 = .ok (.invokespecial 9, 3) := by decide +kernel
theorem d_SqlReaderLaw_law_7 : decode code 7 = .ok (.astore_n 1, 1) := by decide +kernel
theorem d_SqlReaderLaw_law_8 : decode code 8 = .ok (.new 10, 3) := by decide +kernel
theorem d_SqlReaderLaw_law_11 : decode code 11 = .ok (.dup, 1) := by decide +kernel
theorem d_SqlReaderLaw_law_12 : decode code 12 = .ok (.invokespecial 12, 3) := by decide +kernel
theorem d_SqlReaderLaw_law_15 : decode code 15 = .ok (.astore_n 2, 1) := by decide +kernel
theorem d_SqlReaderLaw_law_16 : decode code 16 = .ok (.iconst 0, 1) := by decide +kernel
theorem d_SqlReaderLaw_law_17 : decode code 17 = .ok (.istore_n 3, 1) := by decide +kernel
theorem d_SqlReaderLaw_law_18 : decode code 18 = .ok (.iload_n 3, 1) := by decide +kernel
theorem d_SqlReaderLaw_law_19 : decode code 19 = .ok (.aload_n 0, 1) := by decide +kernel
theorem d_SqlReaderLaw_law_20 : decode code 20 = .ok (.arraylength, 1) := by decide +kernel
theorem d_SqlReaderLaw_law_21 : decode code 21 = .ok (.iconst 4, 1) := by decide +kernel
theorem d_SqlReaderLaw_law_22 : decode code 22 = .ok (.isub, 1) := by decide +kernel
theorem d_SqlReaderLaw_law_23 : decode code 23 = .ok (.if_icmp .gt 371, 3) := by decide +kernel
theorem d_SqlReaderLaw_law_26 : decode code 26 = .ok (.aload_n 0, 1) := by decide +kernel
theorem d_SqlReaderLaw_law_27 : decode code 27 = .ok (.iload_n 3, 1) := by decide +kernel
theorem d_SqlReaderLaw_law_28 : decode code 28 = .ok (.iaload, 1) := by decide +kernel
theorem d_SqlReaderLaw_law_29 : decode code 29 = .ok (.bipush 15, 2) := by decide +kernel
theorem d_SqlReaderLaw_law_31 : decode code 31 = .ok (.iand, 1) := by decide +kernel
theorem d_SqlReaderLaw_law_32 : decode code 32 = .ok (.tableswitch 356 0 9 #[56, 119, 132, 165, 178, 211, 234, 267, 290, 323], 56) := by decide +kernel
theorem d_SqlReaderLaw_law_88 : decode code 88 = .ok (.aload_n 1, 1) := by decide +kernel
theorem d_SqlReaderLaw_law_89 : decode code 89 = .ok (.aload_n 0, 1) := by decide +kernel
theorem d_SqlReaderLaw_law_90 : decode code 90 = .ok (.iload_n 3, 1) := by decide +kernel
theorem d_SqlReaderLaw_law_91 : decode code 91 = .ok (.iconst 1, 1) := by decide +kernel
theorem d_SqlReaderLaw_law_92 : decode code 92 = .ok (.iadd, 1) := by decide +kernel
theorem d_SqlReaderLaw_law_93 : decode code 93 = .ok (.iaload, 1) := by decide +kernel
theorem d_SqlReaderLaw_law_94 : decode code 94 = .ok (.i2l, 1) := by decide +kernel
theorem d_SqlReaderLaw_law_95 : decode code 95 = .ok (.bipush 32, 2) := by decide +kernel
theorem d_SqlReaderLaw_law_97 : decode code 97 = .ok (.lshl, 1) := by decide +kernel
theorem d_SqlReaderLaw_law_98 : decode code 98 = .ok (.aload_n 0, 1) := by decide +kernel
theorem d_SqlReaderLaw_law_99 : decode code 99 = .ok (.iload_n 3, 1) := by decide +kernel
theorem d_SqlReaderLaw_law_100 : decode code 100 = .ok (.iconst 2, 1) := by decide +kernel
theorem d_SqlReaderLaw_law_101 : decode code 101 = .ok (.iadd, 1) := by decide +kernel
theorem d_SqlReaderLaw_law_102 : decode code 102 = .ok (.iaload, 1) := by decide +kernel
theorem d_SqlReaderLaw_law_103 : decode code 103 = .ok (.i2l, 1) := by decide +kernel
theorem d_SqlReaderLaw_law_104 : decode code 104 = .ok (.ldc2_w 13, 3) := by decide +kernel
theorem d_SqlReaderLaw_law_107 : decode code 107 = .ok (.land, 1) := by decide +kernel
theorem d_SqlReaderLaw_law_108 : decode code 108 = .ok (.lor, 1) := by decide +kernel
theorem d_SqlReaderLaw_law_109 : decode code 109 = .ok (.aload_n 0, 1) := by decide +kernel
theorem d_SqlReaderLaw_law_110 : decode code 110 = .ok (.iload_n 3, 1) := by decide +kernel
theorem d_SqlReaderLaw_law_111 : decode code 111 = .ok (.iconst 3, 1) := by decide +kernel
theorem d_SqlReaderLaw_law_112 : decode code 112 = .ok (.iadd, 1) := by decide +kernel
theorem d_SqlReaderLaw_law_113 : decode code 113 = .ok (.iaload, 1) := by decide +kernel
theorem d_SqlReaderLaw_law_114 : decode code 114 = .ok (.invokevirtual 15, 3) := by decide +kernel
theorem d_SqlReaderLaw_law_117 : decode code 117 = .ok (.pop, 1) := by decide +kernel
theorem d_SqlReaderLaw_law_118 : decode code 118 = .ok (.aload_n 2, 1) := by decide +kernel
theorem d_SqlReaderLaw_law_119 : decode code 119 = .ok (.aload_n 0, 1) := by decide +kernel
theorem d_SqlReaderLaw_law_120 : decode code 120 = .ok (.iload_n 3, 1) := by decide +kernel
theorem d_SqlReaderLaw_law_121 : decode code 121 = .ok (.iconst 1, 1) := by decide +kernel
theorem d_SqlReaderLaw_law_122 : decode code 122 = .ok (.iadd, 1) := by decide +kernel
theorem d_SqlReaderLaw_law_123 : decode code 123 = .ok (.iaload, 1) := by decide +kernel
theorem d_SqlReaderLaw_law_124 : decode code 124 = .ok (.i2l, 1) := by decide +kernel
theorem d_SqlReaderLaw_law_125 : decode code 125 = .ok (.bipush 32, 2) := by decide +kernel
theorem d_SqlReaderLaw_law_127 : decode code 127 = .ok (.lshl, 1) := by decide +kernel
theorem d_SqlReaderLaw_law_128 : decode code 128 = .ok (.aload_n 0, 1) := by decide +kernel
theorem d_SqlReaderLaw_law_129 : decode code 129 = .ok (.iload_n 3, 1) := by decide +kernel
theorem d_SqlReaderLaw_law_130 : decode code 130 = .ok (.iconst 2, 1) := by decide +kernel
theorem d_SqlReaderLaw_law_131 : decode code 131 = .ok (.iadd, 1) := by decide +kernel
theorem d_SqlReaderLaw_law_132 : decode code 132 = .ok (.iaload, 1) := by decide +kernel
theorem d_SqlReaderLaw_law_133 : decode code 133 = .ok (.i2l, 1) := by decide +kernel
theorem d_SqlReaderLaw_law_134 : decode code 134 = .ok (.ldc2_w 13, 3) := by decide +kernel
theorem d_SqlReaderLaw_law_137 : decode code 137 = .ok (.land, 1) := by decide +kernel
theorem d_SqlReaderLaw_law_138 : decode code 138 = .ok (.lor, 1) := by decide +kernel
theorem d_SqlReaderLaw_law_139 : decode code 139 = .ok (.aload_n 0, 1) := by decide +kernel
theorem d_SqlReaderLaw_law_140 : decode code 140 = .ok (.iload_n 3, 1) := by decide +kernel
theorem d_SqlReaderLaw_law_141 : decode code 141 = .ok (.iconst 3, 1) := by decide +kernel
theorem d_SqlReaderLaw_law_142 : decode code 142 = .ok (.iadd, 1) := by decide +kernel
theorem d_SqlReaderLaw_law_143 : decode code 143 = .ok (.iaload, 1) := by decide +kernel
theorem d_SqlReaderLaw_law_144 : decode code 144 = .ok (.invokevirtual 19, 3) := by decide +kernel
theorem d_SqlReaderLaw_law_147 : decode code 147 = .ok (.pop, 1) := by decide +kernel
theorem d_SqlReaderLaw_law_148 : decode code 148 = .ok (.goto 240, 3) := by decide +kernel
theorem d_SqlReaderLaw_law_151 : decode code 151 = .ok (.aload_n 1, 1) := by decide +kernel
theorem d_SqlReaderLaw_law_152 : decode code 152 = .ok (.invokevirtual 20, 3) := by decide +kernel
theorem d_SqlReaderLaw_law_155 : decode code 155 = .ok (.aload_n 2, 1) := by decide +kernel
theorem d_SqlReaderLaw_law_156 : decode code 156 = .ok (.invokevirtual 24, 3) := by decide +kernel
theorem d_SqlReaderLaw_law_159 : decode code 159 = .ok (.if_icmp .eq 229, 3) := by decide +kernel
theorem d_SqlReaderLaw_law_162 : decode code 162 = .ok (.iconst 0, 1) := by decide +kernel
theorem d_SqlReaderLaw_law_163 : decode code 163 = .ok (.ireturn, 1) := by decide +kernel
theorem d_SqlReaderLaw_law_164 : decode code 164 = .ok (.aload_n 1, 1) := by decide +kernel
theorem d_SqlReaderLaw_law_165 : decode code 165 = .ok (.aload_n 0, 1) := by decide +kernel
theorem d_SqlReaderLaw_law_166 : decode code 166 = .ok (.iload_n 3, 1) := by decide +kernel
theorem d_SqlReaderLaw_law_167 : decode code 167 = .ok (.iconst 1, 1) := by decide +kernel
theorem d_SqlReaderLaw_law_168 : decode code 168 = .ok (.iadd, 1) := by decide +kernel
theorem d_SqlReaderLaw_law_169 : decode code 169 = .ok (.iaload, 1) := by decide +kernel
theorem d_SqlReaderLaw_law_170 : decode code 170 = .ok (.aload_n 0, 1) := by decide +kernel
theorem d_SqlReaderLaw_law_171 : decode code 171 = .ok (.iload_n 3, 1) := by decide +kernel
theorem d_SqlReaderLaw_law_172 : decode code 172 = .ok (.iconst 2, 1) := by decide +kernel
theorem d_SqlReaderLaw_law_173 : decode code 173 = .ok (.iadd, 1) := by decide +kernel
theorem d_SqlReaderLaw_law_174 : decode code 174 = .ok (.iaload, 1) := by decide +kernel
theorem d_SqlReaderLaw_law_175 : decode code 175 = .ok (.invokevirtual 25, 3) := by decide +kernel
theorem d_SqlReaderLaw_law_178 : decode code 178 = .ok (.pop, 1) := by decide +kernel
theorem d_SqlReaderLaw_law_179 : decode code 179 = .ok (.aload_n 2, 1) := by decide +kernel
theorem d_SqlReaderLaw_law_180 : decode code 180 = .ok (.aload_n 0, 1) := by decide +kernel
theorem d_SqlReaderLaw_law_181 : decode code 181 = .ok (.iload_n 3, 1) := by decide +kernel
theorem d_SqlReaderLaw_law_182 : decode code 182 = .ok (.iconst 1, 1) := by decide +kernel
theorem d_SqlReaderLaw_law_183 : decode code 183 = .ok (.iadd, 1) := by decide +kernel
theorem d_SqlReaderLaw_law_184 : decode code 184 = .ok (.iaload, 1) := by decide +kernel
theorem d_SqlReaderLaw_law_185 : decode code 185 = .ok (.aload_n 0, 1) := by decide +kernel
theorem d_SqlReaderLaw_law_186 : decode code 186 = .ok (.iload_n 3, 1) := by decide +kernel
theorem d_SqlReaderLaw_law_187 : decode code 187 = .ok (.iconst 2, 1) := by decide +kernel
theorem d_SqlReaderLaw_law_188 : decode code 188 = .ok (.iadd, 1) := by decide +kernel
theorem d_SqlReaderLaw_law_189 : decode code 189 = .ok (.iaload, 1) := by decide +kernel
theorem d_SqlReaderLaw_law_190 : decode code 190 = .ok (.invokevirtual 29, 3) := by decide +kernel
theorem d_SqlReaderLaw_law_193 : decode code 193 = .ok (.pop, 1) := by decide +kernel
theorem d_SqlReaderLaw_law_194 : decode code 194 = .ok (.goto 194, 3) := by decide +kernel
theorem d_SqlReaderLaw_law_197 : decode code 197 = .ok (.aload_n 1, 1) := by decide +kernel
theorem d_SqlReaderLaw_law_198 : decode code 198 = .ok (.invokevirtual 30, 3) := by decide +kernel
theorem d_SqlReaderLaw_law_201 : decode code 201 = .ok (.pop, 1) := by decide +kernel
theorem d_SqlReaderLaw_law_202 : decode code 202 = .ok (.aload_n 2, 1) := by decide +kernel
theorem d_SqlReaderLaw_law_203 : decode code 203 = .ok (.invokevirtual 33, 3) := by decide +kernel
theorem d_SqlReaderLaw_law_206 : decode code 206 = .ok (.pop, 1) := by decide +kernel
theorem d_SqlReaderLaw_law_207 : decode code 207 = .ok (.goto 181, 3) := by decide +kernel
theorem d_SqlReaderLaw_law_210 : decode code 210 = .ok (.aload_n 1, 1) := by decide +kernel
theorem d_SqlReaderLaw_law_211 : decode code 211 = .ok (.aload_n 0, 1) := by decide +kernel
theorem d_SqlReaderLaw_law_212 : decode code 212 = .ok (.iload_n 3, 1) := by decide +kernel
theorem d_SqlReaderLaw_law_213 : decode code 213 = .ok (.iconst 1, 1) := by decide +kernel
theorem d_SqlReaderLaw_law_214 : decode code 214 = .ok (.iadd, 1) := by decide +kernel
theorem d_SqlReaderLaw_law_215 : decode code 215 = .ok (.iaload, 1) := by decide +kernel
theorem d_SqlReaderLaw_law_216 : decode code 216 = .ok (.aload_n 0, 1) := by decide +kernel
theorem d_SqlReaderLaw_law_217 : decode code 217 = .ok (.iload_n 3, 1) := by decide +kernel
theorem d_SqlReaderLaw_law_218 : decode code 218 = .ok (.iconst 2, 1) := by decide +kernel
theorem d_SqlReaderLaw_law_219 : decode code 219 = .ok (.iadd, 1) := by decide +kernel
theorem d_SqlReaderLaw_law_220 : decode code 220 = .ok (.iaload, 1) := by decide +kernel
theorem d_SqlReaderLaw_law_221 : decode code 221 = .ok (.invokevirtual 34, 3) := by decide +kernel
theorem d_SqlReaderLaw_law_224 : decode code 224 = .ok (.pop, 1) := by decide +kernel
theorem d_SqlReaderLaw_law_225 : decode code 225 = .ok (.aload_n 2, 1) := by decide +kernel
theorem d_SqlReaderLaw_law_226 : decode code 226 = .ok (.aload_n 0, 1) := by decide +kernel
theorem d_SqlReaderLaw_law_227 : decode code 227 = .ok (.iload_n 3, 1) := by decide +kernel
theorem d_SqlReaderLaw_law_228 : decode code 228 = .ok (.iconst 1, 1) := by decide +kernel
theorem d_SqlReaderLaw_law_229 : decode code 229 = .ok (.iadd, 1) := by decide +kernel
theorem d_SqlReaderLaw_law_230 : decode code 230 = .ok (.iaload, 1) := by decide +kernel
theorem d_SqlReaderLaw_law_231 : decode code 231 = .ok (.aload_n 0, 1) := by decide +kernel
theorem d_SqlReaderLaw_law_232 : decode code 232 = .ok (.iload_n 3, 1) := by decide +kernel
theorem d_SqlReaderLaw_law_233 : decode code 233 = .ok (.iconst 2, 1) := by decide +kernel
theorem d_SqlReaderLaw_law_234 : decode code 234 = .ok (.iadd, 1) := by decide +kernel
theorem d_SqlReaderLaw_law_235 : decode code 235 = .ok (.iaload, 1) := by decide +kernel
theorem d_SqlReaderLaw_law_236 : decode code 236 = .ok (.invokevirtual 37, 3) := by decide +kernel
theorem d_SqlReaderLaw_law_239 : decode code 239 = .ok (.pop, 1) := by decide +kernel
theorem d_SqlReaderLaw_law_240 : decode code 240 = .ok (.goto 148, 3) := by decide +kernel
theorem d_SqlReaderLaw_law_243 : decode code 243 = .ok (.aload_n 1, 1) := by decide +kernel
theorem d_SqlReaderLaw_law_244 : decode code 244 = .ok (.aload_n 0, 1) := by decide +kernel
theorem d_SqlReaderLaw_law_245 : decode code 245 = .ok (.iload_n 3, 1) := by decide +kernel
theorem d_SqlReaderLaw_law_246 : decode code 246 = .ok (.iconst 1, 1) := by decide +kernel
theorem d_SqlReaderLaw_law_247 : decode code 247 = .ok (.iadd, 1) := by decide +kernel
theorem d_SqlReaderLaw_law_248 : decode code 248 = .ok (.iaload, 1) := by decide +kernel
theorem d_SqlReaderLaw_law_249 : decode code 249 = .ok (.invokevirtual 38, 3) := by decide +kernel
theorem d_SqlReaderLaw_law_252 : decode code 252 = .ok (.pop2, 1) := by decide +kernel
theorem d_SqlReaderLaw_law_253 : decode code 253 = .ok (.aload_n 2, 1) := by decide +kernel
theorem d_SqlReaderLaw_law_254 : decode code 254 = .ok (.aload_n 0, 1) := by decide +kernel
theorem d_SqlReaderLaw_law_255 : decode code 255 = .ok (.iload_n 3, 1) := by decide +kernel
theorem d_SqlReaderLaw_law_256 : decode code 256 = .ok (.iconst 1, 1) := by decide +kernel
theorem d_SqlReaderLaw_law_257 : decode code 257 = .ok (.iadd, 1) := by decide +kernel
theorem d_SqlReaderLaw_law_258 : decode code 258 = .ok (.iaload, 1) := by decide +kernel
theorem d_SqlReaderLaw_law_259 : decode code 259 = .ok (.invokevirtual 42, 3) := by decide +kernel
theorem d_SqlReaderLaw_law_262 : decode code 262 = .ok (.pop2, 1) := by decide +kernel
theorem d_SqlReaderLaw_law_263 : decode code 263 = .ok (.goto 125, 3) := by decide +kernel
theorem d_SqlReaderLaw_law_266 : decode code 266 = .ok (.aload_n 1, 1) := by decide +kernel
theorem d_SqlReaderLaw_law_267 : decode code 267 = .ok (.aload_n 0, 1) := by decide +kernel
theorem d_SqlReaderLaw_law_268 : decode code 268 = .ok (.iload_n 3, 1) := by decide +kernel
theorem d_SqlReaderLaw_law_269 : decode code 269 = .ok (.iconst 1, 1) := by decide +kernel
theorem d_SqlReaderLaw_law_270 : decode code 270 = .ok (.iadd, 1) := by decide +kernel
theorem d_SqlReaderLaw_law_271 : decode code 271 = .ok (.iaload, 1) := by decide +kernel
theorem d_SqlReaderLaw_law_272 : decode code 272 = .ok (.aload_n 0, 1) := by decide +kernel
theorem d_SqlReaderLaw_law_273 : decode code 273 = .ok (.iload_n 3, 1) := by decide +kernel
theorem d_SqlReaderLaw_law_274 : decode code 274 = .ok (.iconst 2, 1) := by decide +kernel
theorem d_SqlReaderLaw_law_275 : decode code 275 = .ok (.iadd, 1) := by decide +kernel
theorem d_SqlReaderLaw_law_276 : decode code 276 = .ok (.iaload, 1) := by decide +kernel
theorem d_SqlReaderLaw_law_277 : decode code 277 = .ok (.invokevirtual 43, 3) := by decide +kernel
theorem d_SqlReaderLaw_law_280 : decode code 280 = .ok (.pop, 1) := by decide +kernel
theorem d_SqlReaderLaw_law_281 : decode code 281 = .ok (.aload_n 2, 1) := by decide +kernel
theorem d_SqlReaderLaw_law_282 : decode code 282 = .ok (.aload_n 0, 1) := by decide +kernel
theorem d_SqlReaderLaw_law_283 : decode code 283 = .ok (.iload_n 3, 1) := by decide +kernel
theorem d_SqlReaderLaw_law_284 : decode code 284 = .ok (.iconst 1, 1) := by decide +kernel
theorem d_SqlReaderLaw_law_285 : decode code 285 = .ok (.iadd, 1) := by decide +kernel
theorem d_SqlReaderLaw_law_286 : decode code 286 = .ok (.iaload, 1) := by decide +kernel
theorem d_SqlReaderLaw_law_287 : decode code 287 = .ok (.aload_n 0, 1) := by decide +kernel
theorem d_SqlReaderLaw_law_288 : decode code 288 = .ok (.iload_n 3, 1) := by decide +kernel
theorem d_SqlReaderLaw_law_289 : decode code 289 = .ok (.iconst 2, 1) := by decide +kernel
theorem d_SqlReaderLaw_law_290 : decode code 290 = .ok (.iadd, 1) := by decide +kernel
theorem d_SqlReaderLaw_law_291 : decode code 291 = .ok (.iaload, 1) := by decide +kernel
theorem d_SqlReaderLaw_law_292 : decode code 292 = .ok (.invokevirtual 46, 3) := by decide +kernel
theorem d_SqlReaderLaw_law_295 : decode code 295 = .ok (.pop, 1) := by decide +kernel
theorem d_SqlReaderLaw_law_296 : decode code 296 = .ok (.goto 92, 3) := by decide +kernel
theorem d_SqlReaderLaw_law_299 : decode code 299 = .ok (.aload_n 1, 1) := by decide +kernel
theorem d_SqlReaderLaw_law_300 : decode code 300 = .ok (.aload_n 0, 1) := by decide +kernel
theorem d_SqlReaderLaw_law_301 : decode code 301 = .ok (.iload_n 3, 1) := by decide +kernel
theorem d_SqlReaderLaw_law_302 : decode code 302 = .ok (.iconst 1, 1) := by decide +kernel
theorem d_SqlReaderLaw_law_303 : decode code 303 = .ok (.iadd, 1) := by decide +kernel
theorem d_SqlReaderLaw_law_304 : decode code 304 = .ok (.iaload, 1) := by decide +kernel
theorem d_SqlReaderLaw_law_305 : decode code 305 = .ok (.invokevirtual 47, 3) := by decide +kernel
theorem d_SqlReaderLaw_law_308 : decode code 308 = .ok (.pop, 1) := by decide +kernel
theorem d_SqlReaderLaw_law_309 : decode code 309 = .ok (.aload_n 2, 1) := by decide +kernel
theorem d_SqlReaderLaw_law_310 : decode code 310 = .ok (.aload_n 0, 1) := by decide +kernel
theorem d_SqlReaderLaw_law_311 : decode code 311 = .ok (.iload_n 3, 1) := by decide +kernel
theorem d_SqlReaderLaw_law_312 : decode code 312 = .ok (.iconst 1, 1) := by decide +kernel
theorem d_SqlReaderLaw_law_313 : decode code 313 = .ok (.iadd, 1) := by decide +kernel
theorem d_SqlReaderLaw_law_314 : decode code 314 = .ok (.iaload, 1) := by decide +kernel
theorem d_SqlReaderLaw_law_315 : decode code 315 = .ok (.invokevirtual 51, 3) := by decide +kernel
theorem d_SqlReaderLaw_law_318 : decode code 318 = .ok (.pop, 1) := by decide +kernel
theorem d_SqlReaderLaw_law_319 : decode code 319 = .ok (.goto 69, 3) := by decide +kernel
theorem d_SqlReaderLaw_law_322 : decode code 322 = .ok (.aload_n 1, 1) := by decide +kernel
theorem d_SqlReaderLaw_law_323 : decode code 323 = .ok (.aload_n 0, 1) := by decide +kernel
theorem d_SqlReaderLaw_law_324 : decode code 324 = .ok (.iload_n 3, 1) := by decide +kernel
theorem d_SqlReaderLaw_law_325 : decode code 325 = .ok (.iconst 1, 1) := by decide +kernel
theorem d_SqlReaderLaw_law_326 : decode code 326 = .ok (.iadd, 1) := by decide +kernel
theorem d_SqlReaderLaw_law_327 : decode code 327 = .ok (.iaload, 1) := by decide +kernel
theorem d_SqlReaderLaw_law_328 : decode code 328 = .ok (.aload_n 0, 1) := by decide +kernel
theorem d_SqlReaderLaw_law_329 : decode code 329 = .ok (.iload_n 3, 1) := by decide +kernel
theorem d_SqlReaderLaw_law_330 : decode code 330 = .ok (.iconst 2, 1) := by decide +kernel
theorem d_SqlReaderLaw_law_331 : decode code 331 = .ok (.iadd, 1) := by decide +kernel
theorem d_SqlReaderLaw_law_332 : decode code 332 = .ok (.iaload, 1) := by decide +kernel
theorem d_SqlReaderLaw_law_333 : decode code 333 = .ok (.invokevirtual 52, 3) := by decide +kernel
theorem d_SqlReaderLaw_law_336 : decode code 336 = .ok (.pop, 1) := by decide +kernel
theorem d_SqlReaderLaw_law_337 : decode code 337 = .ok (.aload_n 2, 1) := by decide +kernel
theorem d_SqlReaderLaw_law_338 : decode code 338 = .ok (.aload_n 0, 1) := by decide +kernel
theorem d_SqlReaderLaw_law_339 : decode code 339 = .ok (.iload_n 3, 1) := by decide +kernel
theorem d_SqlReaderLaw_law_340 : decode code 340 = .ok (.iconst 1, 1) := by decide +kernel
theorem d_SqlReaderLaw_law_341 : decode code 341 = .ok (.iadd, 1) := by decide +kernel
theorem d_SqlReaderLaw_law_342 : decode code 342 = .ok (.iaload, 1) := by decide +kernel
theorem d_SqlReaderLaw_law_343 : decode code 343 = .ok (.aload_n 0, 1) := by decide +kernel
theorem d_SqlReaderLaw_law_344 : decode code 344 = .ok (.iload_n 3, 1) := by decide +kernel
theorem d_SqlReaderLaw_law_345 : decode code 345 = .ok (.iconst 2, 1) := by decide +kernel
theorem d_SqlReaderLaw_law_346 : decode code 346 = .ok (.iadd, 1) := by decide +kernel
theorem d_SqlReaderLaw_law_347 : decode code 347 = .ok (.iaload, 1) := by decide +kernel
theorem d_SqlReaderLaw_law_348 : decode code 348 = .ok (.invokevirtual 55, 3) := by decide +kernel
theorem d_SqlReaderLaw_law_351 : decode code 351 = .ok (.pop, 1) := by decide +kernel
theorem d_SqlReaderLaw_law_352 : decode code 352 = .ok (.goto 36, 3) := by decide +kernel
theorem d_SqlReaderLaw_law_355 : decode code 355 = .ok (.aload_n 1, 1) := by decide +kernel
theorem d_SqlReaderLaw_law_356 : decode code 356 = .ok (.aload_n 0, 1) := by decide +kernel
theorem d_SqlReaderLaw_law_357 : decode code 357 = .ok (.iload_n 3, 1) := by decide +kernel
theorem d_SqlReaderLaw_law_358 : decode code 358 = .ok (.iconst 1, 1) := by decide +kernel
theorem d_SqlReaderLaw_law_359 : decode code 359 = .ok (.iadd, 1) := by decide +kernel
theorem d_SqlReaderLaw_law_360 : decode code 360 = .ok (.iaload, 1) := by decide +kernel
theorem d_SqlReaderLaw_law_361 : decode code 361 = .ok (.aload_n 0, 1) := by decide +kernel
theorem d_SqlReaderLaw_law_362 : decode code 362 = .ok (.iload_n 3, 1) := by decide +kernel
theorem d_SqlReaderLaw_law_363 : decode code 363 = .ok (.iconst 2, 1) := by decide +kernel
theorem d_SqlReaderLaw_law_364 : decode code 364 = .ok (.iadd, 1) := by decide +kernel
theorem d_SqlReaderLaw_law_365 : decode code 365 = .ok (.iaload, 1) := by decide +kernel
theorem d_SqlReaderLaw_law_366 : decode code 366 = .ok (.invokevirtual 56, 3) := by decide +kernel
theorem d_SqlReaderLaw_law_369 : decode code 369 = .ok (.pop, 1) := by decide +kernel
theorem d_SqlReaderLaw_law_370 : decode code 370 = .ok (.aload_n 2, 1) := by decide +kernel
theorem d_SqlReaderLaw_law_371 : decode code 371 = .ok (.aload_n 0, 1) := by decide +kernel
theorem d_SqlReaderLaw_law_372 : decode code 372 = .ok (.iload_n 3, 1) := by decide +kernel
theorem d_SqlReaderLaw_law_373 : decode code 373 = .ok (.iconst 1, 1) := by decide +kernel
theorem d_SqlReaderLaw_law_374 : decode code 374 = .ok (.iadd, 1) := by decide +kernel
theorem d_SqlReaderLaw_law_375 : decode code 375 = .ok (.iaload, 1) := by decide +kernel
theorem d_SqlReaderLaw_law_376 : decode code 376 = .ok (.aload_n 0, 1) := by decide +kernel
theorem d_SqlReaderLaw_law_377 : decode code 377 = .ok (.iload_n 3, 1) := by decide +kernel
theorem d_SqlReaderLaw_law_378 : decode code 378 = .ok (.iconst 2, 1) := by decide +kernel
theorem d_SqlReaderLaw_law_379 : decode code 379 = .ok (.iadd, 1) := by decide +kernel
theorem d_SqlReaderLaw_law_380 : decode code 380 = .ok (.iaload, 1) := by decide +kernel
theorem d_SqlReaderLaw_law_381 : decode code 381 = .ok (.invokevirtual 59, 3) := by decide +kernel
theorem d_SqlReaderLaw_law_384 : decode code 384 = .ok (.pop, 1) := by decide +kernel
theorem d_SqlReaderLaw_law_385 : decode code 385 = .ok (.goto 3, 3) := by decide +kernel
theorem d_SqlReaderLaw_law_388 : decode code 388 = .ok (.iinc 3 4, 3) := by decide +kernel
theorem d_SqlReaderLaw_law_391 : decode code 391 = .ok (.goto (-373), 3) := by decide +kernel
theorem d_SqlReaderLaw_law_394 : decode code 394 = .ok (.iconst 1, 1) := by decide +kernel
theorem d_SqlReaderLaw_law_395 : decode code 395 = .ok (.ireturn, 1) := by decide +kernel
def mL_law_L18 (xv : Nat → Int32) (L : Nat) : Nat → Int32 → St × St → Option Int32
  | 0, _, _ => none
  | n + 1, x3, u =>
    if ((nI L) - 4) < x3 then
      some 1
    else
      gd (inb x3 L) <|
      if ((xv (Int32.toNatClampNeg x3)) &&& 15) = 0 then
        gd (inb (x3 + 1) L) <|
        gd (inb (x3 + 2) L) <|
        gd (inb (x3 + 3) L) <|
        bM (lfL (mC_SqlReader_type ((shlL (Int32.toInt64 (xv (Int32.toNatClampNeg (x3 + 1)))) 32) ||| ((Int32.toInt64 (xv (Int32.toNatClampNeg (x3 + 2)))) &&& 4294967295)) (xv (Int32.toNatClampNeg (x3 + 3))) u.1) u.2) fun r1 u2 =>
        gd (inb (x3 + 1) L) <|
        gd (inb (x3 + 2) L) <|
        gd (inb (x3 + 3) L) <|
        bM (lfR (mM_SqlReaderModel_type ((shlL (Int32.toInt64 (xv (Int32.toNatClampNeg (x3 + 1)))) 32) ||| ((Int32.toInt64 (xv (Int32.toNatClampNeg (x3 + 2)))) &&& 4294967295)) (xv (Int32.toNatClampNeg (x3 + 3))) u2.2) u2.1) fun r3 u4 =>
        seq (x3 + 4 : Int32) fun y5 =>
        (mL_law_L18 xv L n) y5 u4
      else
        if ((xv (Int32.toNatClampNeg x3)) &&& 15) = 1 then
          bM (lfL (mC_SqlReader_table u.1) u.2) fun r6 u7 =>
          bM (lfR (mM_SqlReaderModel_table u7.2) u7.1) fun r8 u9 =>
          if r6 = r8 then
            seq (x3 + 4 : Int32) fun y10 =>
            (mL_law_L18 xv L n) y10 u9
          else
            some 0
        else
          if ((xv (Int32.toNatClampNeg x3)) &&& 15) = 2 then
            gd (inb (x3 + 1) L) <|
            gd (inb (x3 + 2) L) <|
            bM (lfL (mC_SqlReader_column (xv (Int32.toNatClampNeg (x3 + 1))) (xv (Int32.toNatClampNeg (x3 + 2))) u.1) u.2) fun r11 u12 =>
            gd (inb (x3 + 1) L) <|
            gd (inb (x3 + 2) L) <|
            bM (lfR (mM_SqlReaderModel_column (xv (Int32.toNatClampNeg (x3 + 1))) (xv (Int32.toNatClampNeg (x3 + 2))) u12.2) u12.1) fun r13 u14 =>
            seq (x3 + 4 : Int32) fun y15 =>
            (mL_law_L18 xv L n) y15 u14
          else
            if ((xv (Int32.toNatClampNeg x3)) &&& 15) = 3 then
              bM (lfL (mC_SqlReader_read u.1) u.2) fun r16 u17 =>
              bM (lfR (mM_SqlReaderModel_read u17.2) u17.1) fun r18 u19 =>
              seq (x3 + 4 : Int32) fun y20 =>
              (mL_law_L18 xv L n) y20 u19
            else
              if ((xv (Int32.toNatClampNeg x3)) &&& 15) = 4 then
                gd (inb (x3 + 1) L) <|
                gd (inb (x3 + 2) L) <|
                bP (mC_SqlReader_node (xv (Int32.toNatClampNeg (x3 + 1))) (xv (Int32.toNatClampNeg (x3 + 2))) u.1) fun r21 =>
                gd (inb (x3 + 1) L) <|
                gd (inb (x3 + 2) L) <|
                bP (mM_SqlReaderModel_node (xv (Int32.toNatClampNeg (x3 + 1))) (xv (Int32.toNatClampNeg (x3 + 2))) u.2) fun r22 =>
                seq (x3 + 4 : Int32) fun y23 =>
                (mL_law_L18 xv L n) y23 u
              else
                if ((xv (Int32.toNatClampNeg x3)) &&& 15) = 5 then
                  gd (inb (x3 + 1) L) <|
                  bP (mC_SqlReader_value (xv (Int32.toNatClampNeg (x3 + 1))) u.1) fun r24 =>
                  gd (inb (x3 + 1) L) <|
                  bP (mM_SqlReaderModel_value (xv (Int32.toNatClampNeg (x3 + 1))) u.2) fun r25 =>
                  seq (x3 + 4 : Int32) fun y26 =>
                  (mL_law_L18 xv L n) y26 u
                else
                  if ((xv (Int32.toNatClampNeg x3)) &&& 15) = 6 then
                    gd (inb (x3 + 1) L) <|
                    gd (inb (x3 + 2) L) <|
                    bP (mC_SqlReader_letter (xv (Int32.toNatClampNeg (x3 + 1))) (xv (Int32.toNatClampNeg (x3 + 2))) u.1) fun r27 =>
                    gd (inb (x3 + 1) L) <|
                    gd (inb (x3 + 2) L) <|
                    bP (mM_SqlReaderModel_letter (xv (Int32.toNatClampNeg (x3 + 1))) (xv (Int32.toNatClampNeg (x3 + 2))) u.2) fun r28 =>
                    seq (x3 + 4 : Int32) fun y29 =>
                    (mL_law_L18 xv L n) y29 u
                  else
                    if ((xv (Int32.toNatClampNeg x3)) &&& 15) = 7 then
                      gd (inb (x3 + 1) L) <|
                      bP (mC_SqlReader_count (xv (Int32.toNatClampNeg (x3 + 1))) u.1) fun r30 =>
                      gd (inb (x3 + 1) L) <|
                      bP (mM_SqlReaderModel_count (xv (Int32.toNatClampNeg (x3 + 1))) u.2) fun r31 =>
                      seq (x3 + 4 : Int32) fun y32 =>
                      (mL_law_L18 xv L n) y32 u
                    else
                      if ((xv (Int32.toNatClampNeg x3)) &&& 15) = 8 then
                        gd (inb (x3 + 1) L) <|
                        gd (inb (x3 + 2) L) <|
                        bP (mC_SqlReader_list (xv (Int32.toNatClampNeg (x3 + 1))) (xv (Int32.toNatClampNeg (x3 + 2))) u.1) fun r33 =>
                        gd (inb (x3 + 1) L) <|
                        gd (inb (x3 + 2) L) <|
                        bP (mM_SqlReaderModel_list (xv (Int32.toNatClampNeg (x3 + 1))) (xv (Int32.toNatClampNeg (x3 + 2))) u.2) fun r34 =>
                        seq (x3 + 4 : Int32) fun y35 =>
                        (mL_law_L18 xv L n) y35 u
                      else
                        if ((xv (Int32.toNatClampNeg x3)) &&& 15) = 9 then
                          gd (inb (x3 + 1) L) <|
                          gd (inb (x3 + 2) L) <|
                          bP (mC_SqlReader_name (xv (Int32.toNatClampNeg (x3 + 1))) (xv (Int32.toNatClampNeg (x3 + 2))) u.1) fun r36 =>
                          gd (inb (x3 + 1) L) <|
                          gd (inb (x3 + 2) L) <|
                          bP (mM_SqlReaderModel_name (xv (Int32.toNatClampNeg (x3 + 1))) (xv (Int32.toNatClampNeg (x3 + 2))) u.2) fun r37 =>
                          seq (x3 + 4 : Int32) fun y38 =>
                          (mL_law_L18 xv L n) y38 u
                        else
                          seq (x3 + 4 : Int32) fun y39 =>
                          (mL_law_L18 xv L n) y39 u
abbrev EL (X : Cx) (G : Gx) : Prop := En X vwCl ALL code R_SqlReaderLaw 4 (tyW G) [] room_1 (exW G)
abbrev SL (X : Cx) (G : Gx) (mv : Option Int32) (u : St × St) (pc : Nat) (lv : List (Nat × Value)) (st : List Value) : Prop := Sm X vwCl (w12 (wC G) (wM G)) 4 (1 : Int32) mv u pc lv st
set_option maxRecDepth 100000 in
set_option maxHeartbeats 4000000 in
theorem tL_law_L18 {X : Cx} {G : Gx} {b L : Nat} {xv : Nat → Int32} (E : EL X G) (hR : RtL X code) (hX : Scr X b L xv) : ∀ (n : Nat) (x3 : Int32) (u : St × St), SL X G (mL_law_L18 xv L n x3 u) u 18 [(0, .ref b), (1, .ref (G.1 0)), (2, .ref (G.1 100)), (3, .int x3)] [] := by
  intro n
  induction n with
  | zero => intro x3 u; exact Sm_none
  | succ n h18 =>
    intro x3 u
    rw [mL_law_L18]
    refine Sm_iload_n E d_SqlReaderLaw_law_18 rfl 3 rfl ?_
    refine Sm_aload_n E d_SqlReaderLaw_law_19 rfl 0 rfl ?_
    refine Sm_slen E hX d_SqlReaderLaw_law_20 ?_
    refine Sm_iconst (v := 4) E d_SqlReaderLaw_law_21 (by decide) ?_
    refine Sm_isub E d_SqlReaderLaw_law_22 ?_
    refine Sm_icmp_gt (tgt := 394) E d_SqlReaderLaw_law_23 (by decide) (fun _ => ?_) (fun _ => ?_)
    · refine Sm_iconst (v := 1) E d_SqlReaderLaw_law_394 (by decide) ?_
      exact Sm_retL hR d_SqlReaderLaw_law_395
    · refine Sm_aload_n E d_SqlReaderLaw_law_26 rfl 0 rfl ?_
      refine Sm_iload_n E d_SqlReaderLaw_law_27 rfl 3 rfl ?_
      refine Sm_gd fun hi => Sm_sld E hX (inb_in hi) d_SqlReaderLaw_law_28 ?_
      refine Sm_bipush (v := 15) E d_SqlReaderLaw_law_29 (by decide) ?_
      refine Sm_iand E d_SqlReaderLaw_law_31 ?_
      refine Sm_ite (fun hk => Sm_tableIn (tgt := 88) (k := 0) hk E d_SqlReaderLaw_law_32 (by decide) (by decide) rfl (by decide) ?_) (fun hn0 => ?_)
      · refine Sm_aload_n E d_SqlReaderLaw_law_88 rfl 1 rfl ?_
        refine Sm_aload_n E d_SqlReaderLaw_law_89 rfl 0 rfl ?_
        refine Sm_iload_n E d_SqlReaderLaw_law_90 rfl 3 rfl ?_
        refine Sm_iconst (v := 1) E d_SqlReaderLaw_law_91 (by decide) ?_
        refine Sm_iadd E d_SqlReaderLaw_law_92 ?_
        refine Sm_gd fun hi => Sm_sld E hX (inb_in hi) d_SqlReaderLaw_law_93 ?_
        refine Sm_i2l E d_SqlReaderLaw_law_94 ?_
        refine Sm_bipush (v := 32) E d_SqlReaderLaw_law_95 (by decide) ?_
        refine Sm_lshl E d_SqlReaderLaw_law_97 ?_
        refine Sm_aload_n E d_SqlReaderLaw_law_98 rfl 0 rfl ?_
        refine Sm_iload_n E d_SqlReaderLaw_law_99 rfl 3 rfl ?_
        refine Sm_iconst (v := 2) E d_SqlReaderLaw_law_100 (by decide) ?_
        refine Sm_iadd E d_SqlReaderLaw_law_101 ?_
        refine Sm_gd fun hi => Sm_sld E hX (inb_in hi) d_SqlReaderLaw_law_102 ?_
        refine Sm_i2l E d_SqlReaderLaw_law_103 ?_
        refine Sm_ldc2 (v := 4294967295) E kc_SqlReaderLaw_13 d_SqlReaderLaw_law_104 ?_
        refine Sm_land E d_SqlReaderLaw_law_107 ?_
        refine Sm_lor E d_SqlReaderLaw_law_108 ?_
        refine Sm_aload_n E d_SqlReaderLaw_law_109 rfl 0 rfl ?_
        refine Sm_iload_n E d_SqlReaderLaw_law_110 rfl 3 rfl ?_
        refine Sm_iconst (v := 3) E d_SqlReaderLaw_law_111 (by decide) ?_
        refine Sm_iadd E d_SqlReaderLaw_law_112 ?_
        refine Sm_gd fun hi => Sm_sld E hX (inb_in hi) d_SqlReaderLaw_law_113 ?_
        refine Lx_cVI (As := [.long ((shlL (Int32.toInt64 (xv (Int32.toNatClampNeg (x3 + 1)))) 32) ||| ((Int32.toInt64 (xv (Int32.toNatClampNeg (x3 + 2)))) &&& 4294967295)), .int (xv (Int32.toNatClampNeg (x3 + 3)))]) (b := G.1 0) (st := []) (n := 2) (w := w12 (wC G) (wM G)) (u := u) E exOk (ex_of E) (w12_as wC_as wM_as) (lf_IL (u1 := u.1) (u2 := u.2) wC_as wM_as fun _ h => cC_SqlReader_type ((shlL (Int32.toInt64 (xv (Int32.toNatClampNeg (x3 + 1)))) 32) ||| ((Int32.toInt64 (xv (Int32.toNatClampNeg (x3 + 2)))) &&& 4294967295)) (xv (Int32.toNatClampNeg (x3 + 3))) u.1 h) gk_SqlReaderLaw_15 dk_SqlReader_type rfl ⟨rfl, rfl⟩ ⟨Nat.le_of_ble_eq_true rfl, Nat.le_of_ble_eq_true rfl⟩ (rvW (q0 := 0) (ci := 0) E rfl rfl rfl) rfl (Nat.le_of_ble_eq_true rfl) d_SqlReaderLaw_law_114 fun r1 u2 _ => ?_
        refine Sm_pop E d_SqlReaderLaw_law_117 rfl ?_
        refine Sm_aload_n E d_SqlReaderLaw_law_118 rfl 2 rfl ?_
        refine Sm_aload_n E d_SqlReaderLaw_law_119 rfl 0 rfl ?_
        refine Sm_iload_n E d_SqlReaderLaw_law_120 rfl 3 rfl ?_
        refine Sm_iconst (v := 1) E d_SqlReaderLaw_law_121 (by decide) ?_
        refine Sm_iadd E d_SqlReaderLaw_law_122 ?_
        refine Sm_gd fun hi => Sm_sld E hX (inb_in hi) d_SqlReaderLaw_law_123 ?_
        refine Sm_i2l E d_SqlReaderLaw_law_124 ?_
        refine Sm_bipush (v := 32) E d_SqlReaderLaw_law_125 (by decide) ?_
        refine Sm_lshl E d_SqlReaderLaw_law_127 ?_
        refine Sm_aload_n E d_SqlReaderLaw_law_128 rfl 0 rfl ?_
        refine Sm_iload_n E d_SqlReaderLaw_law_129 rfl 3 rfl ?_
        refine Sm_iconst (v := 2) E d_SqlReaderLaw_law_130 (by decide) ?_
        refine Sm_iadd E d_SqlReaderLaw_law_131 ?_
        refine Sm_gd fun hi => Sm_sld E hX (inb_in hi) d_SqlReaderLaw_law_132 ?_
        refine Sm_i2l E d_SqlReaderLaw_law_133 ?_
        refine Sm_ldc2 (v := 4294967295) E kc_SqlReaderLaw_13 d_SqlReaderLaw_law_134 ?_
        refine Sm_land E d_SqlReaderLaw_law_137 ?_
        refine Sm_lor E d_SqlReaderLaw_law_138 ?_
        refine Sm_aload_n E d_SqlReaderLaw_law_139 rfl 0 rfl ?_
        refine Sm_iload_n E d_SqlReaderLaw_law_140 rfl 3 rfl ?_
        refine Sm_iconst (v := 3) E d_SqlReaderLaw_law_141 (by decide) ?_
        refine Sm_iadd E d_SqlReaderLaw_law_142 ?_
        refine Sm_gd fun hi => Sm_sld E hX (inb_in hi) d_SqlReaderLaw_law_143 ?_
        refine Lx_cVI (As := [.long ((shlL (Int32.toInt64 (xv (Int32.toNatClampNeg (x3 + 1)))) 32) ||| ((Int32.toInt64 (xv (Int32.toNatClampNeg (x3 + 2)))) &&& 4294967295)), .int (xv (Int32.toNatClampNeg (x3 + 3)))]) (b := G.1 100) (st := []) (n := 2) (w := w12 (wC G) (wM G)) (u := u2) E exOk (ex_of E) (w12_as wC_as wM_as) (lf_IR (u1 := u2.1) (u2 := u2.2) wC_as wM_as fun _ h => cM_SqlReaderModel_type ((shlL (Int32.toInt64 (xv (Int32.toNatClampNeg (x3 + 1)))) 32) ||| ((Int32.toInt64 (xv (Int32.toNatClampNeg (x3 + 2)))) &&& 4294967295)) (xv (Int32.toNatClampNeg (x3 + 3))) u2.2 h) gk_SqlReaderLaw_19 dk_SqlReaderModel_type rfl ⟨rfl, rfl⟩ ⟨Nat.le_of_ble_eq_true rfl, Nat.le_of_ble_eq_true rfl⟩ (rvW (q0 := 30) (ci := 1) E rfl rfl rfl) rfl (Nat.le_of_ble_eq_true rfl) d_SqlReaderLaw_law_144 fun r3 u4 _ => ?_
        refine Sm_pop E d_SqlReaderLaw_law_147 rfl ?_
        refine Sm_goto (tgt := 388) E d_SqlReaderLaw_law_148 (by decide) ?_
        refine Sm_iinc (k := 3) (d := 4) E d_SqlReaderLaw_law_388 rfl rfl (by decide) fun y5 _ => Sm_lvs (lv' := [(3, .int y5), (0, .ref b), (1, .ref (G.1 0)), (2, .ref (G.1 100))]) rfl ?_
        refine Sm_goto (tgt := 18) E d_SqlReaderLaw_law_391 (by decide) ?_
        exact Sm_sub [1, 2, 3, 0] rfl (h18 _ _)
      refine Sm_ite (fun hk => Sm_tableIn (tgt := 151) (k := 1) hk E d_SqlReaderLaw_law_32 (by decide) (by decide) rfl (by decide) ?_) (fun hn1 => ?_)
      · refine Sm_aload_n E d_SqlReaderLaw_law_151 rfl 1 rfl ?_
        refine Lx_cVI (As := []) (b := G.1 0) (st := []) (n := 0) (w := w12 (wC G) (wM G)) (u := u) E exOk (ex_of E) (w12_as wC_as wM_as) (lf_IL (u1 := u.1) (u2 := u.2) wC_as wM_as fun _ h => cC_SqlReader_table u.1 h) gk_SqlReaderLaw_20 dk_SqlReader_table rfl ⟨rfl, rfl⟩ ⟨Nat.le_of_ble_eq_true rfl, Nat.le_of_ble_eq_true rfl⟩ (rvW (q0 := 0) (ci := 0) E rfl rfl rfl) rfl (Nat.le_of_ble_eq_true rfl) d_SqlReaderLaw_law_152 fun r6 u7 _ => ?_
        refine Sm_aload_n E d_SqlReaderLaw_law_155 rfl 2 rfl ?_
        refine Lx_cVI (As := []) (b := G.1 100) (st := [.int r6]) (n := 0) (w := w12 (wC G) (wM G)) (u := u7) E exOk (ex_of E) (w12_as wC_as wM_as) (lf_IR (u1 := u7.1) (u2 := u7.2) wC_as wM_as fun _ h => cM_SqlReaderModel_table u7.2 h) gk_SqlReaderLaw_24 dk_SqlReaderModel_table rfl ⟨rfl, rfl⟩ ⟨Nat.le_of_ble_eq_true rfl, Nat.le_of_ble_eq_true rfl⟩ (rvW (q0 := 30) (ci := 1) E rfl rfl rfl) rfl (Nat.le_of_ble_eq_true rfl) d_SqlReaderLaw_law_156 fun r8 u9 _ => ?_
        refine Sm_icmp_eq (tgt := 388) E d_SqlReaderLaw_law_159 (by decide) (fun _ => ?_) (fun _ => ?_)
        · refine Sm_iinc (k := 3) (d := 4) E d_SqlReaderLaw_law_388 rfl rfl (by decide) fun y10 _ => Sm_lvs (lv' := [(3, .int y10), (0, .ref b), (1, .ref (G.1 0)), (2, .ref (G.1 100))]) rfl ?_
          refine Sm_goto (tgt := 18) E d_SqlReaderLaw_law_391 (by decide) ?_
          exact Sm_sub [1, 2, 3, 0] rfl (h18 _ _)
        · refine Sm_iconst (v := 0) E d_SqlReaderLaw_law_162 (by decide) ?_
          exact Sm_retL hR d_SqlReaderLaw_law_163
      refine Sm_ite (fun hk => Sm_tableIn (tgt := 164) (k := 2) hk E d_SqlReaderLaw_law_32 (by decide) (by decide) rfl (by decide) ?_) (fun hn2 => ?_)
      · refine Sm_aload_n E d_SqlReaderLaw_law_164 rfl 1 rfl ?_
        refine Sm_aload_n E d_SqlReaderLaw_law_165 rfl 0 rfl ?_
        refine Sm_iload_n E d_SqlReaderLaw_law_166 rfl 3 rfl ?_
        refine Sm_iconst (v := 1) E d_SqlReaderLaw_law_167 (by decide) ?_
        refine Sm_iadd E d_SqlReaderLaw_law_168 ?_
        refine Sm_gd fun hi => Sm_sld E hX (inb_in hi) d_SqlReaderLaw_law_169 ?_
        refine Sm_aload_n E d_SqlReaderLaw_law_170 rfl 0 rfl ?_
        refine Sm_iload_n E d_SqlReaderLaw_law_171 rfl 3 rfl ?_
        refine Sm_iconst (v := 2) E d_SqlReaderLaw_law_172 (by decide) ?_
        refine Sm_iadd E d_SqlReaderLaw_law_173 ?_
        refine Sm_gd fun hi => Sm_sld E hX (inb_in hi) d_SqlReaderLaw_law_174 ?_
        refine Lx_cVI (As := [.int (xv (Int32.toNatClampNeg (x3 + 1))), .int (xv (Int32.toNatClampNeg (x3 + 2)))]) (b := G.1 0) (st := []) (n := 2) (w := w12 (wC G) (wM G)) (u := u) E exOk (ex_of E) (w12_as wC_as wM_as) (lf_IL (u1 := u.1) (u2 := u.2) wC_as wM_as fun _ h => cC_SqlReader_column (xv (Int32.toNatClampNeg (x3 + 1))) (xv (Int32.toNatClampNeg (x3 + 2))) u.1 h) gk_SqlReaderLaw_25 dk_SqlReader_column rfl ⟨rfl, rfl⟩ ⟨Nat.le_of_ble_eq_true rfl, Nat.le_of_ble_eq_true rfl⟩ (rvW (q0 := 0) (ci := 0) E rfl rfl rfl) rfl (Nat.le_of_ble_eq_true rfl) d_SqlReaderLaw_law_175 fun r11 u12 _ => ?_
        refine Sm_pop E d_SqlReaderLaw_law_178 rfl ?_
        refine Sm_aload_n E d_SqlReaderLaw_law_179 rfl 2 rfl ?_
        refine Sm_aload_n E d_SqlReaderLaw_law_180 rfl 0 rfl ?_
        refine Sm_iload_n E d_SqlReaderLaw_law_181 rfl 3 rfl ?_
        refine Sm_iconst (v := 1) E d_SqlReaderLaw_law_182 (by decide) ?_
        refine Sm_iadd E d_SqlReaderLaw_law_183 ?_
        refine Sm_gd fun hi => Sm_sld E hX (inb_in hi) d_SqlReaderLaw_law_184 ?_
        refine Sm_aload_n E d_SqlReaderLaw_law_185 rfl 0 rfl ?_
        refine Sm_iload_n E d_SqlReaderLaw_law_186 rfl 3 rfl ?_
        refine Sm_iconst (v := 2) E d_SqlReaderLaw_law_187 (by decide) ?_
        refine Sm_iadd E d_SqlReaderLaw_law_188 ?_
        refine Sm_gd fun hi => Sm_sld E hX (inb_in hi) d_SqlReaderLaw_law_189 ?_
        refine Lx_cVI (As := [.int (xv (Int32.toNatClampNeg (x3 + 1))), .int (xv (Int32.toNatClampNeg (x3 + 2)))]) (b := G.1 100) (st := []) (n := 2) (w := w12 (wC G) (wM G)) (u := u12) E exOk (ex_of E) (w12_as wC_as wM_as) (lf_IR (u1 := u12.1) (u2 := u12.2) wC_as wM_as fun _ h => cM_SqlReaderModel_column (xv (Int32.toNatClampNeg (x3 + 1))) (xv (Int32.toNatClampNeg (x3 + 2))) u12.2 h) gk_SqlReaderLaw_29 dk_SqlReaderModel_column rfl ⟨rfl, rfl⟩ ⟨Nat.le_of_ble_eq_true rfl, Nat.le_of_ble_eq_true rfl⟩ (rvW (q0 := 30) (ci := 1) E rfl rfl rfl) rfl (Nat.le_of_ble_eq_true rfl) d_SqlReaderLaw_law_190 fun r13 u14 _ => ?_
        refine Sm_pop E d_SqlReaderLaw_law_193 rfl ?_
        refine Sm_goto (tgt := 388) E d_SqlReaderLaw_law_194 (by decide) ?_
        refine Sm_iinc (k := 3) (d := 4) E d_SqlReaderLaw_law_388 rfl rfl (by decide) fun y15 _ => Sm_lvs (lv' := [(3, .int y15), (0, .ref b), (1, .ref (G.1 0)), (2, .ref (G.1 100))]) rfl ?_
        refine Sm_goto (tgt := 18) E d_SqlReaderLaw_law_391 (by decide) ?_
        exact Sm_sub [1, 2, 3, 0] rfl (h18 _ _)
      refine Sm_ite (fun hk => Sm_tableIn (tgt := 197) (k := 3) hk E d_SqlReaderLaw_law_32 (by decide) (by decide) rfl (by decide) ?_) (fun hn3 => ?_)
      · refine Sm_aload_n E d_SqlReaderLaw_law_197 rfl 1 rfl ?_
        refine Lx_cVI (As := []) (b := G.1 0) (st := []) (n := 0) (w := w12 (wC G) (wM G)) (u := u) E exOk (ex_of E) (w12_as wC_as wM_as) (lf_IL (u1 := u.1) (u2 := u.2) wC_as wM_as fun _ h => cC_SqlReader_read u.1 h) gk_SqlReaderLaw_30 dk_SqlReader_read rfl ⟨rfl, rfl⟩ ⟨Nat.le_of_ble_eq_true rfl, Nat.le_of_ble_eq_true rfl⟩ (rvW (q0 := 0) (ci := 0) E rfl rfl rfl) rfl (Nat.le_of_ble_eq_true rfl) d_SqlReaderLaw_law_198 fun r16 u17 _ => ?_
        refine Sm_pop E d_SqlReaderLaw_law_201 rfl ?_
        refine Sm_aload_n E d_SqlReaderLaw_law_202 rfl 2 rfl ?_
        refine Lx_cVI (As := []) (b := G.1 100) (st := []) (n := 0) (w := w12 (wC G) (wM G)) (u := u17) E exOk (ex_of E) (w12_as wC_as wM_as) (lf_IR (u1 := u17.1) (u2 := u17.2) wC_as wM_as fun _ h => cM_SqlReaderModel_read u17.2 h) gk_SqlReaderLaw_33 dk_SqlReaderModel_read rfl ⟨rfl, rfl⟩ ⟨Nat.le_of_ble_eq_true rfl, Nat.le_of_ble_eq_true rfl⟩ (rvW (q0 := 30) (ci := 1) E rfl rfl rfl) rfl (Nat.le_of_ble_eq_true rfl) d_SqlReaderLaw_law_203 fun r18 u19 _ => ?_
        refine Sm_pop E d_SqlReaderLaw_law_206 rfl ?_
        refine Sm_goto (tgt := 388) E d_SqlReaderLaw_law_207 (by decide) ?_
        refine Sm_iinc (k := 3) (d := 4) E d_SqlReaderLaw_law_388 rfl rfl (by decide) fun y20 _ => Sm_lvs (lv' := [(3, .int y20), (0, .ref b), (1, .ref (G.1 0)), (2, .ref (G.1 100))]) rfl ?_
        refine Sm_goto (tgt := 18) E d_SqlReaderLaw_law_391 (by decide) ?_
        exact Sm_sub [1, 2, 3, 0] rfl (h18 _ _)
      refine Sm_ite (fun hk => Sm_tableIn (tgt := 210) (k := 4) hk E d_SqlReaderLaw_law_32 (by decide) (by decide) rfl (by decide) ?_) (fun hn4 => ?_)
      · refine Sm_aload_n E d_SqlReaderLaw_law_210 rfl 1 rfl ?_
        refine Sm_aload_n E d_SqlReaderLaw_law_211 rfl 0 rfl ?_
        refine Sm_iload_n E d_SqlReaderLaw_law_212 rfl 3 rfl ?_
        refine Sm_iconst (v := 1) E d_SqlReaderLaw_law_213 (by decide) ?_
        refine Sm_iadd E d_SqlReaderLaw_law_214 ?_
        refine Sm_gd fun hi => Sm_sld E hX (inb_in hi) d_SqlReaderLaw_law_215 ?_
        refine Sm_aload_n E d_SqlReaderLaw_law_216 rfl 0 rfl ?_
        refine Sm_iload_n E d_SqlReaderLaw_law_217 rfl 3 rfl ?_
        refine Sm_iconst (v := 2) E d_SqlReaderLaw_law_218 (by decide) ?_
        refine Sm_iadd E d_SqlReaderLaw_law_219 ?_
        refine Sm_gd fun hi => Sm_sld E hX (inb_in hi) d_SqlReaderLaw_law_220 ?_
        refine Lx_cVi (As := [.int (xv (Int32.toNatClampNeg (x3 + 1))), .int (xv (Int32.toNatClampNeg (x3 + 2)))]) (b := G.1 0) (st := []) (n := 2) (w := w12 (wC G) (wM G)) (u := u) E exOk (ex_of E) (w12_as wC_as wM_as) (lf_iL (u1 := u.1) (u2 := u.2) wC_as wM_as fun _ h => cC_SqlReader_node (xv (Int32.toNatClampNeg (x3 + 1))) (xv (Int32.toNatClampNeg (x3 + 2))) u.1 h) gk_SqlReaderLaw_34 dk_SqlReader_node rfl ⟨rfl, rfl⟩ ⟨Nat.le_of_ble_eq_true rfl, Nat.le_of_ble_eq_true rfl⟩ (rvW (q0 := 0) (ci := 0) E rfl rfl rfl) rfl (Nat.le_of_ble_eq_true rfl) d_SqlReaderLaw_law_221 fun r21 _ => ?_
        refine Sm_pop E d_SqlReaderLaw_law_224 rfl ?_
        refine Sm_aload_n E d_SqlReaderLaw_law_225 rfl 2 rfl ?_
        refine Sm_aload_n E d_SqlReaderLaw_law_226 rfl 0 rfl ?_
        refine Sm_iload_n E d_SqlReaderLaw_law_227 rfl 3 rfl ?_
        refine Sm_iconst (v := 1) E d_SqlReaderLaw_law_228 (by decide) ?_
        refine Sm_iadd E d_SqlReaderLaw_law_229 ?_
        refine Sm_gd fun hi => Sm_sld E hX (inb_in hi) d_SqlReaderLaw_law_230 ?_
        refine Sm_aload_n E d_SqlReaderLaw_law_231 rfl 0 rfl ?_
        refine Sm_iload_n E d_SqlReaderLaw_law_232 rfl 3 rfl ?_
        refine Sm_iconst (v := 2) E d_SqlReaderLaw_law_233 (by decide) ?_
        refine Sm_iadd E d_SqlReaderLaw_law_234 ?_
        refine Sm_gd fun hi => Sm_sld E hX (inb_in hi) d_SqlReaderLaw_law_235 ?_
        refine Lx_cVi (As := [.int (xv (Int32.toNatClampNeg (x3 + 1))), .int (xv (Int32.toNatClampNeg (x3 + 2)))]) (b := G.1 100) (st := []) (n := 2) (w := w12 (wC G) (wM G)) (u := u) E exOk (ex_of E) (w12_as wC_as wM_as) (lf_iR (u1 := u.1) (u2 := u.2) wC_as wM_as fun _ h => cM_SqlReaderModel_node (xv (Int32.toNatClampNeg (x3 + 1))) (xv (Int32.toNatClampNeg (x3 + 2))) u.2 h) gk_SqlReaderLaw_37 dk_SqlReaderModel_node rfl ⟨rfl, rfl⟩ ⟨Nat.le_of_ble_eq_true rfl, Nat.le_of_ble_eq_true rfl⟩ (rvW (q0 := 30) (ci := 1) E rfl rfl rfl) rfl (Nat.le_of_ble_eq_true rfl) d_SqlReaderLaw_law_236 fun r22 _ => ?_
        refine Sm_pop E d_SqlReaderLaw_law_239 rfl ?_
        refine Sm_goto (tgt := 388) E d_SqlReaderLaw_law_240 (by decide) ?_
        refine Sm_iinc (k := 3) (d := 4) E d_SqlReaderLaw_law_388 rfl rfl (by decide) fun y23 _ => Sm_lvs (lv' := [(3, .int y23), (0, .ref b), (1, .ref (G.1 0)), (2, .ref (G.1 100))]) rfl ?_
        refine Sm_goto (tgt := 18) E d_SqlReaderLaw_law_391 (by decide) ?_
        exact Sm_sub [1, 2, 3, 0] rfl (h18 _ _)
      refine Sm_ite (fun hk => Sm_tableIn (tgt := 243) (k := 5) hk E d_SqlReaderLaw_law_32 (by decide) (by decide) rfl (by decide) ?_) (fun hn5 => ?_)
      · refine Sm_aload_n E d_SqlReaderLaw_law_243 rfl 1 rfl ?_
        refine Sm_aload_n E d_SqlReaderLaw_law_244 rfl 0 rfl ?_
        refine Sm_iload_n E d_SqlReaderLaw_law_245 rfl 3 rfl ?_
        refine Sm_iconst (v := 1) E d_SqlReaderLaw_law_246 (by decide) ?_
        refine Sm_iadd E d_SqlReaderLaw_law_247 ?_
        refine Sm_gd fun hi => Sm_sld E hX (inb_in hi) d_SqlReaderLaw_law_248 ?_
        refine Lx_cVj (As := [.int (xv (Int32.toNatClampNeg (x3 + 1)))]) (b := G.1 0) (st := []) (n := 1) (w := w12 (wC G) (wM G)) (u := u) E exOk (ex_of E) (w12_as wC_as wM_as) (lf_jL (u1 := u.1) (u2 := u.2) wC_as wM_as fun _ h => cC_SqlReader_value (xv (Int32.toNatClampNeg (x3 + 1))) u.1 h) gk_SqlReaderLaw_38 dk_SqlReader_value rfl ⟨rfl, rfl⟩ ⟨Nat.le_of_ble_eq_true rfl, Nat.le_of_ble_eq_true rfl⟩ (rvW (q0 := 0) (ci := 0) E rfl rfl rfl) rfl (Nat.le_of_ble_eq_true rfl) d_SqlReaderLaw_law_249 fun r24 _ => ?_
        refine Sm_pop2 E d_SqlReaderLaw_law_252 ?_
        refine Sm_aload_n E d_SqlReaderLaw_law_253 rfl 2 rfl ?_
        refine Sm_aload_n E d_SqlReaderLaw_law_254 rfl 0 rfl ?_
        refine Sm_iload_n E d_SqlReaderLaw_law_255 rfl 3 rfl ?_
        refine Sm_iconst (v := 1) E d_SqlReaderLaw_law_256 (by decide) ?_
        refine Sm_iadd E d_SqlReaderLaw_law_257 ?_
        refine Sm_gd fun hi => Sm_sld E hX (inb_in hi) d_SqlReaderLaw_law_258 ?_
        refine Lx_cVj (As := [.int (xv (Int32.toNatClampNeg (x3 + 1)))]) (b := G.1 100) (st := []) (n := 1) (w := w12 (wC G) (wM G)) (u := u) E exOk (ex_of E) (w12_as wC_as wM_as) (lf_jR (u1 := u.1) (u2 := u.2) wC_as wM_as fun _ h => cM_SqlReaderModel_value (xv (Int32.toNatClampNeg (x3 + 1))) u.2 h) gk_SqlReaderLaw_42 dk_SqlReaderModel_value rfl ⟨rfl, rfl⟩ ⟨Nat.le_of_ble_eq_true rfl, Nat.le_of_ble_eq_true rfl⟩ (rvW (q0 := 30) (ci := 1) E rfl rfl rfl) rfl (Nat.le_of_ble_eq_true rfl) d_SqlReaderLaw_law_259 fun r25 _ => ?_
        refine Sm_pop2 E d_SqlReaderLaw_law_262 ?_
        refine Sm_goto (tgt := 388) E d_SqlReaderLaw_law_263 (by decide) ?_
        refine Sm_iinc (k := 3) (d := 4) E d_SqlReaderLaw_law_388 rfl rfl (by decide) fun y26 _ => Sm_lvs (lv' := [(3, .int y26), (0, .ref b), (1, .ref (G.1 0)), (2, .ref (G.1 100))]) rfl ?_
        refine Sm_goto (tgt := 18) E d_SqlReaderLaw_law_391 (by decide) ?_
        exact Sm_sub [1, 2, 3, 0] rfl (h18 _ _)
      refine Sm_ite (fun hk => Sm_tableIn (tgt := 266) (k := 6) hk E d_SqlReaderLaw_law_32 (by decide) (by decide) rfl (by decide) ?_) (fun hn6 => ?_)
      · refine Sm_aload_n E d_SqlReaderLaw_law_266 rfl 1 rfl ?_
        refine Sm_aload_n E d_SqlReaderLaw_law_267 rfl 0 rfl ?_
        refine Sm_iload_n E d_SqlReaderLaw_law_268 rfl 3 rfl ?_
        refine Sm_iconst (v := 1) E d_SqlReaderLaw_law_269 (by decide) ?_
        refine Sm_iadd E d_SqlReaderLaw_law_270 ?_
        refine Sm_gd fun hi => Sm_sld E hX (inb_in hi) d_SqlReaderLaw_law_271 ?_
        refine Sm_aload_n E d_SqlReaderLaw_law_272 rfl 0 rfl ?_
        refine Sm_iload_n E d_SqlReaderLaw_law_273 rfl 3 rfl ?_
        refine Sm_iconst (v := 2) E d_SqlReaderLaw_law_274 (by decide) ?_
        refine Sm_iadd E d_SqlReaderLaw_law_275 ?_
        refine Sm_gd fun hi => Sm_sld E hX (inb_in hi) d_SqlReaderLaw_law_276 ?_
        refine Lx_cVi (As := [.int (xv (Int32.toNatClampNeg (x3 + 1))), .int (xv (Int32.toNatClampNeg (x3 + 2)))]) (b := G.1 0) (st := []) (n := 2) (w := w12 (wC G) (wM G)) (u := u) E exOk (ex_of E) (w12_as wC_as wM_as) (lf_iL (u1 := u.1) (u2 := u.2) wC_as wM_as fun _ h => cC_SqlReader_letter (xv (Int32.toNatClampNeg (x3 + 1))) (xv (Int32.toNatClampNeg (x3 + 2))) u.1 h) gk_SqlReaderLaw_43 dk_SqlReader_letter rfl ⟨rfl, rfl⟩ ⟨Nat.le_of_ble_eq_true rfl, Nat.le_of_ble_eq_true rfl⟩ (rvW (q0 := 0) (ci := 0) E rfl rfl rfl) rfl (Nat.le_of_ble_eq_true rfl) d_SqlReaderLaw_law_277 fun r27 _ => ?_
        refine Sm_pop E d_SqlReaderLaw_law_280 rfl ?_
        refine Sm_aload_n E d_SqlReaderLaw_law_281 rfl 2 rfl ?_
        refine Sm_aload_n E d_SqlReaderLaw_law_282 rfl 0 rfl ?_
        refine Sm_iload_n E d_SqlReaderLaw_law_283 rfl 3 rfl ?_
        refine Sm_iconst (v := 1) E d_SqlReaderLaw_law_284 (by decide) ?_
        refine Sm_iadd E d_SqlReaderLaw_law_285 ?_
        refine Sm_gd fun hi => Sm_sld E hX (inb_in hi) d_SqlReaderLaw_law_286 ?_
        refine Sm_aload_n E d_SqlReaderLaw_law_287 rfl 0 rfl ?_
        refine Sm_iload_n E d_SqlReaderLaw_law_288 rfl 3 rfl ?_
        refine Sm_iconst (v := 2) E d_SqlReaderLaw_law_289 (by decide) ?_
        refine Sm_iadd E d_SqlReaderLaw_law_290 ?_
        refine Sm_gd fun hi => Sm_sld E hX (inb_in hi) d_SqlReaderLaw_law_291 ?_
        refine Lx_cVi (As := [.int (xv (Int32.toNatClampNeg (x3 + 1))), .int (xv (Int32.toNatClampNeg (x3 + 2)))]) (b := G.1 100) (st := []) (n := 2) (w := w12 (wC G) (wM G)) (u := u) E exOk (ex_of E) (w12_as wC_as wM_as) (lf_iR (u1 := u.1) (u2 := u.2) wC_as wM_as fun _ h => cM_SqlReaderModel_letter (xv (Int32.toNatClampNeg (x3 + 1))) (xv (Int32.toNatClampNeg (x3 + 2))) u.2 h) gk_SqlReaderLaw_46 dk_SqlReaderModel_letter rfl ⟨rfl, rfl⟩ ⟨Nat.le_of_ble_eq_true rfl, Nat.le_of_ble_eq_true rfl⟩ (rvW (q0 := 30) (ci := 1) E rfl rfl rfl) rfl (Nat.le_of_ble_eq_true rfl) d_SqlReaderLaw_law_292 fun r28 _ => ?_
        refine Sm_pop E d_SqlReaderLaw_law_295 rfl ?_
        refine Sm_goto (tgt := 388) E d_SqlReaderLaw_law_296 (by decide) ?_
        refine Sm_iinc (k := 3) (d := 4) E d_SqlReaderLaw_law_388 rfl rfl (by decide) fun y29 _ => Sm_lvs (lv' := [(3, .int y29), (0, .ref b), (1, .ref (G.1 0)), (2, .ref (G.1 100))]) rfl ?_
        refine Sm_goto (tgt := 18) E d_SqlReaderLaw_law_391 (by decide) ?_
        exact Sm_sub [1, 2, 3, 0] rfl (h18 _ _)
      refine Sm_ite (fun hk => Sm_tableIn (tgt := 299) (k := 7) hk E d_SqlReaderLaw_law_32 (by decide) (by decide) rfl (by decide) ?_) (fun hn7 => ?_)
      · refine Sm_aload_n E d_SqlReaderLaw_law_299 rfl 1 rfl ?_
        refine Sm_aload_n E d_SqlReaderLaw_law_300 rfl 0 rfl ?_
        refine Sm_iload_n E d_SqlReaderLaw_law_301 rfl 3 rfl ?_
        refine Sm_iconst (v := 1) E d_SqlReaderLaw_law_302 (by decide) ?_
        refine Sm_iadd E d_SqlReaderLaw_law_303 ?_
        refine Sm_gd fun hi => Sm_sld E hX (inb_in hi) d_SqlReaderLaw_law_304 ?_
        refine Lx_cVi (As := [.int (xv (Int32.toNatClampNeg (x3 + 1)))]) (b := G.1 0) (st := []) (n := 1) (w := w12 (wC G) (wM G)) (u := u) E exOk (ex_of E) (w12_as wC_as wM_as) (lf_iL (u1 := u.1) (u2 := u.2) wC_as wM_as fun _ h => cC_SqlReader_count (xv (Int32.toNatClampNeg (x3 + 1))) u.1 h) gk_SqlReaderLaw_47 dk_SqlReader_count rfl ⟨rfl, rfl⟩ ⟨Nat.le_of_ble_eq_true rfl, Nat.le_of_ble_eq_true rfl⟩ (rvW (q0 := 0) (ci := 0) E rfl rfl rfl) rfl (Nat.le_of_ble_eq_true rfl) d_SqlReaderLaw_law_305 fun r30 _ => ?_
        refine Sm_pop E d_SqlReaderLaw_law_308 rfl ?_
        refine Sm_aload_n E d_SqlReaderLaw_law_309 rfl 2 rfl ?_
        refine Sm_aload_n E d_SqlReaderLaw_law_310 rfl 0 rfl ?_
        refine Sm_iload_n E d_SqlReaderLaw_law_311 rfl 3 rfl ?_
        refine Sm_iconst (v := 1) E d_SqlReaderLaw_law_312 (by decide) ?_
        refine Sm_iadd E d_SqlReaderLaw_law_313 ?_
        refine Sm_gd fun hi => Sm_sld E hX (inb_in hi) d_SqlReaderLaw_law_314 ?_
        refine Lx_cVi (As := [.int (xv (Int32.toNatClampNeg (x3 + 1)))]) (b := G.1 100) (st := []) (n := 1) (w := w12 (wC G) (wM G)) (u := u) E exOk (ex_of E) (w12_as wC_as wM_as) (lf_iR (u1 := u.1) (u2 := u.2) wC_as wM_as fun _ h => cM_SqlReaderModel_count (xv (Int32.toNatClampNeg (x3 + 1))) u.2 h) gk_SqlReaderLaw_51 dk_SqlReaderModel_count rfl ⟨rfl, rfl⟩ ⟨Nat.le_of_ble_eq_true rfl, Nat.le_of_ble_eq_true rfl⟩ (rvW (q0 := 30) (ci := 1) E rfl rfl rfl) rfl (Nat.le_of_ble_eq_true rfl) d_SqlReaderLaw_law_315 fun r31 _ => ?_
        refine Sm_pop E d_SqlReaderLaw_law_318 rfl ?_
        refine Sm_goto (tgt := 388) E d_SqlReaderLaw_law_319 (by decide) ?_
        refine Sm_iinc (k := 3) (d := 4) E d_SqlReaderLaw_law_388 rfl rfl (by decide) fun y32 _ => Sm_lvs (lv' := [(3, .int y32), (0, .ref b), (1, .ref (G.1 0)), (2, .ref (G.1 100))]) rfl ?_
        refine Sm_goto (tgt := 18) E d_SqlReaderLaw_law_391 (by decide) ?_
        exact Sm_sub [1, 2, 3, 0] rfl (h18 _ _)
      refine Sm_ite (fun hk => Sm_tableIn (tgt := 322) (k := 8) hk E d_SqlReaderLaw_law_32 (by decide) (by decide) rfl (by decide) ?_) (fun hn8 => ?_)
      · refine Sm_aload_n E d_SqlReaderLaw_law_322 rfl 1 rfl ?_
        refine Sm_aload_n E d_SqlReaderLaw_law_323 rfl 0 rfl ?_
        refine Sm_iload_n E d_SqlReaderLaw_law_324 rfl 3 rfl ?_
        refine Sm_iconst (v := 1) E d_SqlReaderLaw_law_325 (by decide) ?_
        refine Sm_iadd E d_SqlReaderLaw_law_326 ?_
        refine Sm_gd fun hi => Sm_sld E hX (inb_in hi) d_SqlReaderLaw_law_327 ?_
        refine Sm_aload_n E d_SqlReaderLaw_law_328 rfl 0 rfl ?_
        refine Sm_iload_n E d_SqlReaderLaw_law_329 rfl 3 rfl ?_
        refine Sm_iconst (v := 2) E d_SqlReaderLaw_law_330 (by decide) ?_
        refine Sm_iadd E d_SqlReaderLaw_law_331 ?_
        refine Sm_gd fun hi => Sm_sld E hX (inb_in hi) d_SqlReaderLaw_law_332 ?_
        refine Lx_cVi (As := [.int (xv (Int32.toNatClampNeg (x3 + 1))), .int (xv (Int32.toNatClampNeg (x3 + 2)))]) (b := G.1 0) (st := []) (n := 2) (w := w12 (wC G) (wM G)) (u := u) E exOk (ex_of E) (w12_as wC_as wM_as) (lf_iL (u1 := u.1) (u2 := u.2) wC_as wM_as fun _ h => cC_SqlReader_list (xv (Int32.toNatClampNeg (x3 + 1))) (xv (Int32.toNatClampNeg (x3 + 2))) u.1 h) gk_SqlReaderLaw_52 dk_SqlReader_list rfl ⟨rfl, rfl⟩ ⟨Nat.le_of_ble_eq_true rfl, Nat.le_of_ble_eq_true rfl⟩ (rvW (q0 := 0) (ci := 0) E rfl rfl rfl) rfl (Nat.le_of_ble_eq_true rfl) d_SqlReaderLaw_law_333 fun r33 _ => ?_
        refine Sm_pop E d_SqlReaderLaw_law_336 rfl ?_
        refine Sm_aload_n E d_SqlReaderLaw_law_337 rfl 2 rfl ?_
        refine Sm_aload_n E d_SqlReaderLaw_law_338 rfl 0 rfl ?_
        refine Sm_iload_n E d_SqlReaderLaw_law_339 rfl 3 rfl ?_
        refine Sm_iconst (v := 1) E d_SqlReaderLaw_law_340 (by decide) ?_
        refine Sm_iadd E d_SqlReaderLaw_law_341 ?_
        refine Sm_gd fun hi => Sm_sld E hX (inb_in hi) d_SqlReaderLaw_law_342 ?_
        refine Sm_aload_n E d_SqlReaderLaw_law_343 rfl 0 rfl ?_
        refine Sm_iload_n E d_SqlReaderLaw_law_344 rfl 3 rfl ?_
        refine Sm_iconst (v := 2) E d_SqlReaderLaw_law_345 (by decide) ?_
        refine Sm_iadd E d_SqlReaderLaw_law_346 ?_
        refine Sm_gd fun hi => Sm_sld E hX (inb_in hi) d_SqlReaderLaw_law_347 ?_
        refine Lx_cVi (As := [.int (xv (Int32.toNatClampNeg (x3 + 1))), .int (xv (Int32.toNatClampNeg (x3 + 2)))]) (b := G.1 100) (st := []) (n := 2) (w := w12 (wC G) (wM G)) (u := u) E exOk (ex_of E) (w12_as wC_as wM_as) (lf_iR (u1 := u.1) (u2 := u.2) wC_as wM_as fun _ h => cM_SqlReaderModel_list (xv (Int32.toNatClampNeg (x3 + 1))) (xv (Int32.toNatClampNeg (x3 + 2))) u.2 h) gk_SqlReaderLaw_55 dk_SqlReaderModel_list rfl ⟨rfl, rfl⟩ ⟨Nat.le_of_ble_eq_true rfl, Nat.le_of_ble_eq_true rfl⟩ (rvW (q0 := 30) (ci := 1) E rfl rfl rfl) rfl (Nat.le_of_ble_eq_true rfl) d_SqlReaderLaw_law_348 fun r34 _ => ?_
        refine Sm_pop E d_SqlReaderLaw_law_351 rfl ?_
        refine Sm_goto (tgt := 388) E d_SqlReaderLaw_law_352 (by decide) ?_
        refine Sm_iinc (k := 3) (d := 4) E d_SqlReaderLaw_law_388 rfl rfl (by decide) fun y35 _ => Sm_lvs (lv' := [(3, .int y35), (0, .ref b), (1, .ref (G.1 0)), (2, .ref (G.1 100))]) rfl ?_
        refine Sm_goto (tgt := 18) E d_SqlReaderLaw_law_391 (by decide) ?_
        exact Sm_sub [1, 2, 3, 0] rfl (h18 _ _)
      refine Sm_ite (fun hk => Sm_tableIn (tgt := 355) (k := 9) hk E d_SqlReaderLaw_law_32 (by decide) (by decide) rfl (by decide) ?_) (fun hn9 => ?_)
      · refine Sm_aload_n E d_SqlReaderLaw_law_355 rfl 1 rfl ?_
        refine Sm_aload_n E d_SqlReaderLaw_law_356 rfl 0 rfl ?_
        refine Sm_iload_n E d_SqlReaderLaw_law_357 rfl 3 rfl ?_
        refine Sm_iconst (v := 1) E d_SqlReaderLaw_law_358 (by decide) ?_
        refine Sm_iadd E d_SqlReaderLaw_law_359 ?_
        refine Sm_gd fun hi => Sm_sld E hX (inb_in hi) d_SqlReaderLaw_law_360 ?_
        refine Sm_aload_n E d_SqlReaderLaw_law_361 rfl 0 rfl ?_
        refine Sm_iload_n E d_SqlReaderLaw_law_362 rfl 3 rfl ?_
        refine Sm_iconst (v := 2) E d_SqlReaderLaw_law_363 (by decide) ?_
        refine Sm_iadd E d_SqlReaderLaw_law_364 ?_
        refine Sm_gd fun hi => Sm_sld E hX (inb_in hi) d_SqlReaderLaw_law_365 ?_
        refine Lx_cVi (As := [.int (xv (Int32.toNatClampNeg (x3 + 1))), .int (xv (Int32.toNatClampNeg (x3 + 2)))]) (b := G.1 0) (st := []) (n := 2) (w := w12 (wC G) (wM G)) (u := u) E exOk (ex_of E) (w12_as wC_as wM_as) (lf_iL (u1 := u.1) (u2 := u.2) wC_as wM_as fun _ h => cC_SqlReader_name (xv (Int32.toNatClampNeg (x3 + 1))) (xv (Int32.toNatClampNeg (x3 + 2))) u.1 h) gk_SqlReaderLaw_56 dk_SqlReader_name rfl ⟨rfl, rfl⟩ ⟨Nat.le_of_ble_eq_true rfl, Nat.le_of_ble_eq_true rfl⟩ (rvW (q0 := 0) (ci := 0) E rfl rfl rfl) rfl (Nat.le_of_ble_eq_true rfl) d_SqlReaderLaw_law_366 fun r36 _ => ?_
        refine Sm_pop E d_SqlReaderLaw_law_369 rfl ?_
        refine Sm_aload_n E d_SqlReaderLaw_law_370 rfl 2 rfl ?_
        refine Sm_aload_n E d_SqlReaderLaw_law_371 rfl 0 rfl ?_
        refine Sm_iload_n E d_SqlReaderLaw_law_372 rfl 3 rfl ?_
        refine Sm_iconst (v := 1) E d_SqlReaderLaw_law_373 (by decide) ?_
        refine Sm_iadd E d_SqlReaderLaw_law_374 ?_
        refine Sm_gd fun hi => Sm_sld E hX (inb_in hi) d_SqlReaderLaw_law_375 ?_
        refine Sm_aload_n E d_SqlReaderLaw_law_376 rfl 0 rfl ?_
        refine Sm_iload_n E d_SqlReaderLaw_law_377 rfl 3 rfl ?_
        refine Sm_iconst (v := 2) E d_SqlReaderLaw_law_378 (by decide) ?_
        refine Sm_iadd E d_SqlReaderLaw_law_379 ?_
        refine Sm_gd fun hi => Sm_sld E hX (inb_in hi) d_SqlReaderLaw_law_380 ?_
        refine Lx_cVi (As := [.int (xv (Int32.toNatClampNeg (x3 + 1))), .int (xv (Int32.toNatClampNeg (x3 + 2)))]) (b := G.1 100) (st := []) (n := 2) (w := w12 (wC G) (wM G)) (u := u) E exOk (ex_of E) (w12_as wC_as wM_as) (lf_iR (u1 := u.1) (u2 := u.2) wC_as wM_as fun _ h => cM_SqlReaderModel_name (xv (Int32.toNatClampNeg (x3 + 1))) (xv (Int32.toNatClampNeg (x3 + 2))) u.2 h) gk_SqlReaderLaw_59 dk_SqlReaderModel_name rfl ⟨rfl, rfl⟩ ⟨Nat.le_of_ble_eq_true rfl, Nat.le_of_ble_eq_true rfl⟩ (rvW (q0 := 30) (ci := 1) E rfl rfl rfl) rfl (Nat.le_of_ble_eq_true rfl) d_SqlReaderLaw_law_381 fun r37 _ => ?_
        refine Sm_pop E d_SqlReaderLaw_law_384 rfl ?_
        refine Sm_goto (tgt := 388) E d_SqlReaderLaw_law_385 (by decide) ?_
        refine Sm_iinc (k := 3) (d := 4) E d_SqlReaderLaw_law_388 rfl rfl (by decide) fun y38 _ => Sm_lvs (lv' := [(3, .int y38), (0, .ref b), (1, .ref (G.1 0)), (2, .ref (G.1 100))]) rfl ?_
        refine Sm_goto (tgt := 18) E d_SqlReaderLaw_law_391 (by decide) ?_
        exact Sm_sub [1, 2, 3, 0] rfl (h18 _ _)
      refine Sm_tableOut (tgt := 388) E d_SqlReaderLaw_law_32 (by have := lv_neT hn0 (a := 0) (by decide); have := lv_neT hn1 (a := 1) (by decide); have := lv_neT hn2 (a := 2) (by decide); have := lv_neT hn3 (a := 3) (by decide); have := lv_neT hn4 (a := 4) (by decide); have := lv_neT hn5 (a := 5) (by decide); have := lv_neT hn6 (a := 6) (by decide); have := lv_neT hn7 (a := 7) (by decide); have := lv_neT hn8 (a := 8) (by decide); have := lv_neT hn9 (a := 9) (by decide); omega) (by decide) ?_
      refine Sm_iinc (k := 3) (d := 4) E d_SqlReaderLaw_law_388 rfl rfl (by decide) fun y39 _ => Sm_lvs (lv' := [(3, .int y39), (0, .ref b), (1, .ref (G.1 0)), (2, .ref (G.1 100))]) rfl ?_
      refine Sm_goto (tgt := 18) E d_SqlReaderLaw_law_391 (by decide) ?_
      exact Sm_sub [1, 2, 3, 0] rfl (h18 _ _)
