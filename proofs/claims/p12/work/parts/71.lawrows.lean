/-! THE LAW: its rows of decoding -/
theorem d_LW_law_0 : decode code 0 = .ok (.new 7, 3) := by decide +kernel
theorem d_LW_law_3 : decode code 3 = .ok (.dup, 1) := by decide +kernel
theorem d_LW_law_4 : decode code 4 = .ok (.invokespecial 9, 3) := by decide +kernel
theorem d_LW_law_7 : decode code 7 = .ok (.astore_n 1, 1) := by decide +kernel
theorem d_LW_law_8 : decode code 8 = .ok (.new 10, 3) := by decide +kernel
theorem d_LW_law_11 : decode code 11 = .ok (.dup, 1) := by decide +kernel
theorem d_LW_law_12 : decode code 12 = .ok (.invokespecial 12, 3) := by decide +kernel
theorem d_LW_law_15 : decode code 15 = .ok (.astore_n 2, 1) := by decide +kernel
theorem d_LW_law_16 : decode code 16 = .ok (.iconst 0, 1) := by decide +kernel
theorem d_LW_law_17 : decode code 17 = .ok (.istore_n 3, 1) := by decide +kernel
theorem d_LW_law_18 : decode code 18 = .ok (.iload_n 3, 1) := by decide +kernel
theorem d_LW_law_19 : decode code 19 = .ok (.aload_n 0, 1) := by decide +kernel
theorem d_LW_law_20 : decode code 20 = .ok (.arraylength, 1) := by decide +kernel
theorem d_LW_law_21 : decode code 21 = .ok (.iconst 4, 1) := by decide +kernel
theorem d_LW_law_22 : decode code 22 = .ok (.isub, 1) := by decide +kernel
theorem d_LW_law_23 : decode code 23 = .ok (.if_icmp .gt 366, 3) := by decide +kernel
theorem d_LW_law_26 : decode code 26 = .ok (.aload_n 0, 1) := by decide +kernel
theorem d_LW_law_27 : decode code 27 = .ok (.iload_n 3, 1) := by decide +kernel
theorem d_LW_law_28 : decode code 28 = .ok (.iaload, 1) := by decide +kernel
theorem d_LW_law_29 : decode code 29 = .ok (.bipush 15, 2) := by decide +kernel
theorem d_LW_law_31 : decode code 31 = .ok (.iand, 1) := by decide +kernel
theorem d_LW_law_32 : decode code 32 = .ok (.tableswitch 351 0 11 #[64, 107, 150, 163, 186, 199, 212, 245, 268, 291, 314, 338], 64) := by decide +kernel
theorem d_LW_law_96 : decode code 96 = .ok (.aload_n 1, 1) := by decide +kernel
theorem d_LW_law_97 : decode code 97 = .ok (.aload_n 0, 1) := by decide +kernel
theorem d_LW_law_98 : decode code 98 = .ok (.iload_n 3, 1) := by decide +kernel
theorem d_LW_law_99 : decode code 99 = .ok (.iconst 1, 1) := by decide +kernel
theorem d_LW_law_100 : decode code 100 = .ok (.iadd, 1) := by decide +kernel
theorem d_LW_law_101 : decode code 101 = .ok (.iaload, 1) := by decide +kernel
theorem d_LW_law_102 : decode code 102 = .ok (.aload_n 0, 1) := by decide +kernel
theorem d_LW_law_103 : decode code 103 = .ok (.iload_n 3, 1) := by decide +kernel
theorem d_LW_law_104 : decode code 104 = .ok (.iconst 2, 1) := by decide +kernel
theorem d_LW_law_105 : decode code 105 = .ok (.iadd, 1) := by decide +kernel
theorem d_LW_law_106 : decode code 106 = .ok (.iaload, 1) := by decide +kernel
theorem d_LW_law_107 : decode code 107 = .ok (.aload_n 0, 1) := by decide +kernel
theorem d_LW_law_108 : decode code 108 = .ok (.iload_n 3, 1) := by decide +kernel
theorem d_LW_law_109 : decode code 109 = .ok (.iconst 3, 1) := by decide +kernel
theorem d_LW_law_110 : decode code 110 = .ok (.iadd, 1) := by decide +kernel
theorem d_LW_law_111 : decode code 111 = .ok (.iaload, 1) := by decide +kernel
theorem d_LW_law_112 : decode code 112 = .ok (.invokevirtual 13, 3) := by decide +kernel
theorem d_LW_law_115 : decode code 115 = .ok (.pop, 1) := by decide +kernel
theorem d_LW_law_116 : decode code 116 = .ok (.aload_n 2, 1) := by decide +kernel
theorem d_LW_law_117 : decode code 117 = .ok (.aload_n 0, 1) := by decide +kernel
theorem d_LW_law_118 : decode code 118 = .ok (.iload_n 3, 1) := by decide +kernel
theorem d_LW_law_119 : decode code 119 = .ok (.iconst 1, 1) := by decide +kernel
theorem d_LW_law_120 : decode code 120 = .ok (.iadd, 1) := by decide +kernel
theorem d_LW_law_121 : decode code 121 = .ok (.iaload, 1) := by decide +kernel
theorem d_LW_law_122 : decode code 122 = .ok (.aload_n 0, 1) := by decide +kernel
theorem d_LW_law_123 : decode code 123 = .ok (.iload_n 3, 1) := by decide +kernel
theorem d_LW_law_124 : decode code 124 = .ok (.iconst 2, 1) := by decide +kernel
theorem d_LW_law_125 : decode code 125 = .ok (.iadd, 1) := by decide +kernel
theorem d_LW_law_126 : decode code 126 = .ok (.iaload, 1) := by decide +kernel
theorem d_LW_law_127 : decode code 127 = .ok (.aload_n 0, 1) := by decide +kernel
theorem d_LW_law_128 : decode code 128 = .ok (.iload_n 3, 1) := by decide +kernel
theorem d_LW_law_129 : decode code 129 = .ok (.iconst 3, 1) := by decide +kernel
theorem d_LW_law_130 : decode code 130 = .ok (.iadd, 1) := by decide +kernel
theorem d_LW_law_131 : decode code 131 = .ok (.iaload, 1) := by decide +kernel
theorem d_LW_law_132 : decode code 132 = .ok (.invokevirtual 17, 3) := by decide +kernel
theorem d_LW_law_135 : decode code 135 = .ok (.pop, 1) := by decide +kernel
theorem d_LW_law_136 : decode code 136 = .ok (.goto 247, 3) := by decide +kernel
theorem d_LW_law_139 : decode code 139 = .ok (.aload_n 1, 1) := by decide +kernel
theorem d_LW_law_140 : decode code 140 = .ok (.aload_n 0, 1) := by decide +kernel
theorem d_LW_law_141 : decode code 141 = .ok (.iload_n 3, 1) := by decide +kernel
theorem d_LW_law_142 : decode code 142 = .ok (.iconst 1, 1) := by decide +kernel
theorem d_LW_law_143 : decode code 143 = .ok (.iadd, 1) := by decide +kernel
theorem d_LW_law_144 : decode code 144 = .ok (.iaload, 1) := by decide +kernel
theorem d_LW_law_145 : decode code 145 = .ok (.aload_n 0, 1) := by decide +kernel
theorem d_LW_law_146 : decode code 146 = .ok (.iload_n 3, 1) := by decide +kernel
theorem d_LW_law_147 : decode code 147 = .ok (.iconst 2, 1) := by decide +kernel
theorem d_LW_law_148 : decode code 148 = .ok (.iadd, 1) := by decide +kernel
theorem d_LW_law_149 : decode code 149 = .ok (.iaload, 1) := by decide +kernel
theorem d_LW_law_150 : decode code 150 = .ok (.aload_n 0, 1) := by decide +kernel
theorem d_LW_law_151 : decode code 151 = .ok (.iload_n 3, 1) := by decide +kernel
theorem d_LW_law_152 : decode code 152 = .ok (.iconst 3, 1) := by decide +kernel
theorem d_LW_law_153 : decode code 153 = .ok (.iadd, 1) := by decide +kernel
theorem d_LW_law_154 : decode code 154 = .ok (.iaload, 1) := by decide +kernel
theorem d_LW_law_155 : decode code 155 = .ok (.invokevirtual 18, 3) := by decide +kernel
theorem d_LW_law_158 : decode code 158 = .ok (.pop, 1) := by decide +kernel
theorem d_LW_law_159 : decode code 159 = .ok (.aload_n 2, 1) := by decide +kernel
theorem d_LW_law_160 : decode code 160 = .ok (.aload_n 0, 1) := by decide +kernel
theorem d_LW_law_161 : decode code 161 = .ok (.iload_n 3, 1) := by decide +kernel
theorem d_LW_law_162 : decode code 162 = .ok (.iconst 1, 1) := by decide +kernel
theorem d_LW_law_163 : decode code 163 = .ok (.iadd, 1) := by decide +kernel
theorem d_LW_law_164 : decode code 164 = .ok (.iaload, 1) := by decide +kernel
theorem d_LW_law_165 : decode code 165 = .ok (.aload_n 0, 1) := by decide +kernel
theorem d_LW_law_166 : decode code 166 = .ok (.iload_n 3, 1) := by decide +kernel
theorem d_LW_law_167 : decode code 167 = .ok (.iconst 2, 1) := by decide +kernel
theorem d_LW_law_168 : decode code 168 = .ok (.iadd, 1) := by decide +kernel
theorem d_LW_law_169 : decode code 169 = .ok (.iaload, 1) := by decide +kernel
theorem d_LW_law_170 : decode code 170 = .ok (.aload_n 0, 1) := by decide +kernel
theorem d_LW_law_171 : decode code 171 = .ok (.iload_n 3, 1) := by decide +kernel
theorem d_LW_law_172 : decode code 172 = .ok (.iconst 3, 1) := by decide +kernel
theorem d_LW_law_173 : decode code 173 = .ok (.iadd, 1) := by decide +kernel
theorem d_LW_law_174 : decode code 174 = .ok (.iaload, 1) := by decide +kernel
theorem d_LW_law_175 : decode code 175 = .ok (.invokevirtual 21, 3) := by decide +kernel
theorem d_LW_law_178 : decode code 178 = .ok (.pop, 1) := by decide +kernel
theorem d_LW_law_179 : decode code 179 = .ok (.goto 204, 3) := by decide +kernel
theorem d_LW_law_182 : decode code 182 = .ok (.aload_n 1, 1) := by decide +kernel
theorem d_LW_law_183 : decode code 183 = .ok (.invokevirtual 22, 3) := by decide +kernel
theorem d_LW_law_186 : decode code 186 = .ok (.pop, 1) := by decide +kernel
theorem d_LW_law_187 : decode code 187 = .ok (.aload_n 2, 1) := by decide +kernel
theorem d_LW_law_188 : decode code 188 = .ok (.invokevirtual 26, 3) := by decide +kernel
theorem d_LW_law_191 : decode code 191 = .ok (.pop, 1) := by decide +kernel
theorem d_LW_law_192 : decode code 192 = .ok (.goto 191, 3) := by decide +kernel
theorem d_LW_law_195 : decode code 195 = .ok (.aload_n 1, 1) := by decide +kernel
theorem d_LW_law_196 : decode code 196 = .ok (.aload_n 0, 1) := by decide +kernel
theorem d_LW_law_197 : decode code 197 = .ok (.iload_n 3, 1) := by decide +kernel
theorem d_LW_law_198 : decode code 198 = .ok (.iconst 1, 1) := by decide +kernel
theorem d_LW_law_199 : decode code 199 = .ok (.iadd, 1) := by decide +kernel
theorem d_LW_law_200 : decode code 200 = .ok (.iaload, 1) := by decide +kernel
theorem d_LW_law_201 : decode code 201 = .ok (.invokevirtual 27, 3) := by decide +kernel
theorem d_LW_law_204 : decode code 204 = .ok (.pop, 1) := by decide +kernel
theorem d_LW_law_205 : decode code 205 = .ok (.aload_n 2, 1) := by decide +kernel
theorem d_LW_law_206 : decode code 206 = .ok (.aload_n 0, 1) := by decide +kernel
theorem d_LW_law_207 : decode code 207 = .ok (.iload_n 3, 1) := by decide +kernel
theorem d_LW_law_208 : decode code 208 = .ok (.iconst 1, 1) := by decide +kernel
theorem d_LW_law_209 : decode code 209 = .ok (.iadd, 1) := by decide +kernel
theorem d_LW_law_210 : decode code 210 = .ok (.iaload, 1) := by decide +kernel
theorem d_LW_law_211 : decode code 211 = .ok (.invokevirtual 31, 3) := by decide +kernel
theorem d_LW_law_214 : decode code 214 = .ok (.pop, 1) := by decide +kernel
theorem d_LW_law_215 : decode code 215 = .ok (.goto 168, 3) := by decide +kernel
theorem d_LW_law_218 : decode code 218 = .ok (.aload_n 1, 1) := by decide +kernel
theorem d_LW_law_219 : decode code 219 = .ok (.invokevirtual 32, 3) := by decide +kernel
theorem d_LW_law_222 : decode code 222 = .ok (.pop, 1) := by decide +kernel
theorem d_LW_law_223 : decode code 223 = .ok (.aload_n 2, 1) := by decide +kernel
theorem d_LW_law_224 : decode code 224 = .ok (.invokevirtual 35, 3) := by decide +kernel
theorem d_LW_law_227 : decode code 227 = .ok (.pop, 1) := by decide +kernel
theorem d_LW_law_228 : decode code 228 = .ok (.goto 155, 3) := by decide +kernel
theorem d_LW_law_231 : decode code 231 = .ok (.aload_n 1, 1) := by decide +kernel
theorem d_LW_law_232 : decode code 232 = .ok (.invokevirtual 36, 3) := by decide +kernel
theorem d_LW_law_235 : decode code 235 = .ok (.pop, 1) := by decide +kernel
theorem d_LW_law_236 : decode code 236 = .ok (.aload_n 2, 1) := by decide +kernel
theorem d_LW_law_237 : decode code 237 = .ok (.invokevirtual 39, 3) := by decide +kernel
theorem d_LW_law_240 : decode code 240 = .ok (.pop, 1) := by decide +kernel
theorem d_LW_law_241 : decode code 241 = .ok (.goto 142, 3) := by decide +kernel
theorem d_LW_law_244 : decode code 244 = .ok (.aload_n 1, 1) := by decide +kernel
theorem d_LW_law_245 : decode code 245 = .ok (.aload_n 0, 1) := by decide +kernel
theorem d_LW_law_246 : decode code 246 = .ok (.iload_n 3, 1) := by decide +kernel
theorem d_LW_law_247 : decode code 247 = .ok (.iconst 1, 1) := by decide +kernel
theorem d_LW_law_248 : decode code 248 = .ok (.iadd, 1) := by decide +kernel
theorem d_LW_law_249 : decode code 249 = .ok (.iaload, 1) := by decide +kernel
theorem d_LW_law_250 : decode code 250 = .ok (.aload_n 0, 1) := by decide +kernel
theorem d_LW_law_251 : decode code 251 = .ok (.iload_n 3, 1) := by decide +kernel
theorem d_LW_law_252 : decode code 252 = .ok (.iconst 2, 1) := by decide +kernel
theorem d_LW_law_253 : decode code 253 = .ok (.iadd, 1) := by decide +kernel
theorem d_LW_law_254 : decode code 254 = .ok (.iaload, 1) := by decide +kernel
theorem d_LW_law_255 : decode code 255 = .ok (.invokevirtual 40, 3) := by decide +kernel
theorem d_LW_law_258 : decode code 258 = .ok (.pop2, 1) := by decide +kernel
theorem d_LW_law_259 : decode code 259 = .ok (.aload_n 2, 1) := by decide +kernel
theorem d_LW_law_260 : decode code 260 = .ok (.aload_n 0, 1) := by decide +kernel
theorem d_LW_law_261 : decode code 261 = .ok (.iload_n 3, 1) := by decide +kernel
theorem d_LW_law_262 : decode code 262 = .ok (.iconst 1, 1) := by decide +kernel
theorem d_LW_law_263 : decode code 263 = .ok (.iadd, 1) := by decide +kernel
theorem d_LW_law_264 : decode code 264 = .ok (.iaload, 1) := by decide +kernel
theorem d_LW_law_265 : decode code 265 = .ok (.aload_n 0, 1) := by decide +kernel
theorem d_LW_law_266 : decode code 266 = .ok (.iload_n 3, 1) := by decide +kernel
theorem d_LW_law_267 : decode code 267 = .ok (.iconst 2, 1) := by decide +kernel
theorem d_LW_law_268 : decode code 268 = .ok (.iadd, 1) := by decide +kernel
theorem d_LW_law_269 : decode code 269 = .ok (.iaload, 1) := by decide +kernel
theorem d_LW_law_270 : decode code 270 = .ok (.invokevirtual 44, 3) := by decide +kernel
theorem d_LW_law_273 : decode code 273 = .ok (.pop2, 1) := by decide +kernel
theorem d_LW_law_274 : decode code 274 = .ok (.goto 109, 3) := by decide +kernel
theorem d_LW_law_277 : decode code 277 = .ok (.aload_n 1, 1) := by decide +kernel
theorem d_LW_law_278 : decode code 278 = .ok (.aload_n 0, 1) := by decide +kernel
theorem d_LW_law_279 : decode code 279 = .ok (.iload_n 3, 1) := by decide +kernel
theorem d_LW_law_280 : decode code 280 = .ok (.iconst 1, 1) := by decide +kernel
theorem d_LW_law_281 : decode code 281 = .ok (.iadd, 1) := by decide +kernel
theorem d_LW_law_282 : decode code 282 = .ok (.iaload, 1) := by decide +kernel
theorem d_LW_law_283 : decode code 283 = .ok (.invokevirtual 45, 3) := by decide +kernel
theorem d_LW_law_286 : decode code 286 = .ok (.pop, 1) := by decide +kernel
theorem d_LW_law_287 : decode code 287 = .ok (.aload_n 2, 1) := by decide +kernel
theorem d_LW_law_288 : decode code 288 = .ok (.aload_n 0, 1) := by decide +kernel
theorem d_LW_law_289 : decode code 289 = .ok (.iload_n 3, 1) := by decide +kernel
theorem d_LW_law_290 : decode code 290 = .ok (.iconst 1, 1) := by decide +kernel
theorem d_LW_law_291 : decode code 291 = .ok (.iadd, 1) := by decide +kernel
theorem d_LW_law_292 : decode code 292 = .ok (.iaload, 1) := by decide +kernel
theorem d_LW_law_293 : decode code 293 = .ok (.invokevirtual 48, 3) := by decide +kernel
theorem d_LW_law_296 : decode code 296 = .ok (.pop, 1) := by decide +kernel
theorem d_LW_law_297 : decode code 297 = .ok (.goto 86, 3) := by decide +kernel
theorem d_LW_law_300 : decode code 300 = .ok (.aload_n 1, 1) := by decide +kernel
theorem d_LW_law_301 : decode code 301 = .ok (.aload_n 0, 1) := by decide +kernel
theorem d_LW_law_302 : decode code 302 = .ok (.iload_n 3, 1) := by decide +kernel
theorem d_LW_law_303 : decode code 303 = .ok (.iconst 1, 1) := by decide +kernel
theorem d_LW_law_304 : decode code 304 = .ok (.iadd, 1) := by decide +kernel
theorem d_LW_law_305 : decode code 305 = .ok (.iaload, 1) := by decide +kernel
theorem d_LW_law_306 : decode code 306 = .ok (.invokevirtual 49, 3) := by decide +kernel
theorem d_LW_law_309 : decode code 309 = .ok (.pop2, 1) := by decide +kernel
theorem d_LW_law_310 : decode code 310 = .ok (.aload_n 2, 1) := by decide +kernel
theorem d_LW_law_311 : decode code 311 = .ok (.aload_n 0, 1) := by decide +kernel
theorem d_LW_law_312 : decode code 312 = .ok (.iload_n 3, 1) := by decide +kernel
theorem d_LW_law_313 : decode code 313 = .ok (.iconst 1, 1) := by decide +kernel
theorem d_LW_law_314 : decode code 314 = .ok (.iadd, 1) := by decide +kernel
theorem d_LW_law_315 : decode code 315 = .ok (.iaload, 1) := by decide +kernel
theorem d_LW_law_316 : decode code 316 = .ok (.invokevirtual 53, 3) := by decide +kernel
theorem d_LW_law_319 : decode code 319 = .ok (.pop2, 1) := by decide +kernel
theorem d_LW_law_320 : decode code 320 = .ok (.goto 63, 3) := by decide +kernel
theorem d_LW_law_323 : decode code 323 = .ok (.aload_n 1, 1) := by decide +kernel
theorem d_LW_law_324 : decode code 324 = .ok (.aload_n 0, 1) := by decide +kernel
theorem d_LW_law_325 : decode code 325 = .ok (.iload_n 3, 1) := by decide +kernel
theorem d_LW_law_326 : decode code 326 = .ok (.iconst 1, 1) := by decide +kernel
theorem d_LW_law_327 : decode code 327 = .ok (.iadd, 1) := by decide +kernel
theorem d_LW_law_328 : decode code 328 = .ok (.iaload, 1) := by decide +kernel
theorem d_LW_law_329 : decode code 329 = .ok (.invokevirtual 54, 3) := by decide +kernel
theorem d_LW_law_332 : decode code 332 = .ok (.pop2, 1) := by decide +kernel
theorem d_LW_law_333 : decode code 333 = .ok (.aload_n 2, 1) := by decide +kernel
theorem d_LW_law_334 : decode code 334 = .ok (.aload_n 0, 1) := by decide +kernel
theorem d_LW_law_335 : decode code 335 = .ok (.iload_n 3, 1) := by decide +kernel
theorem d_LW_law_336 : decode code 336 = .ok (.iconst 1, 1) := by decide +kernel
theorem d_LW_law_337 : decode code 337 = .ok (.iadd, 1) := by decide +kernel
theorem d_LW_law_338 : decode code 338 = .ok (.iaload, 1) := by decide +kernel
theorem d_LW_law_339 : decode code 339 = .ok (.invokevirtual 57, 3) := by decide +kernel
theorem d_LW_law_342 : decode code 342 = .ok (.pop2, 1) := by decide +kernel
theorem d_LW_law_343 : decode code 343 = .ok (.goto 40, 3) := by decide +kernel
theorem d_LW_law_346 : decode code 346 = .ok (.aload_n 1, 1) := by decide +kernel
theorem d_LW_law_347 : decode code 347 = .ok (.aload_n 0, 1) := by decide +kernel
theorem d_LW_law_348 : decode code 348 = .ok (.iload_n 3, 1) := by decide +kernel
theorem d_LW_law_349 : decode code 349 = .ok (.iconst 1, 1) := by decide +kernel
theorem d_LW_law_350 : decode code 350 = .ok (.iadd, 1) := by decide +kernel
theorem d_LW_law_351 : decode code 351 = .ok (.iaload, 1) := by decide +kernel
theorem d_LW_law_352 : decode code 352 = .ok (.invokevirtual 58, 3) := by decide +kernel
theorem d_LW_law_355 : decode code 355 = .ok (.aload_n 2, 1) := by decide +kernel
theorem d_LW_law_356 : decode code 356 = .ok (.aload_n 0, 1) := by decide +kernel
theorem d_LW_law_357 : decode code 357 = .ok (.iload_n 3, 1) := by decide +kernel
theorem d_LW_law_358 : decode code 358 = .ok (.iconst 1, 1) := by decide +kernel
theorem d_LW_law_359 : decode code 359 = .ok (.iadd, 1) := by decide +kernel
theorem d_LW_law_360 : decode code 360 = .ok (.iaload, 1) := by decide +kernel
theorem d_LW_law_361 : decode code 361 = .ok (.invokevirtual 61, 3) := by decide +kernel
theorem d_LW_law_364 : decode code 364 = .ok (.lcmp, 1) := by decide +kernel
theorem d_LW_law_365 : decode code 365 = .ok (.ifCond .eq 18, 3) := by decide +kernel
theorem d_LW_law_368 : decode code 368 = .ok (.iconst 0, 1) := by decide +kernel
theorem d_LW_law_369 : decode code 369 = .ok (.ireturn, 1) := by decide +kernel
theorem d_LW_law_370 : decode code 370 = .ok (.aload_n 1, 1) := by decide +kernel
theorem d_LW_law_371 : decode code 371 = .ok (.invokevirtual 62, 3) := by decide +kernel
theorem d_LW_law_374 : decode code 374 = .ok (.pop, 1) := by decide +kernel
theorem d_LW_law_375 : decode code 375 = .ok (.aload_n 2, 1) := by decide +kernel
theorem d_LW_law_376 : decode code 376 = .ok (.invokevirtual 65, 3) := by decide +kernel
theorem d_LW_law_379 : decode code 379 = .ok (.pop, 1) := by decide +kernel
theorem d_LW_law_380 : decode code 380 = .ok (.goto 3, 3) := by decide +kernel
theorem d_LW_law_383 : decode code 383 = .ok (.iinc 3 4, 3) := by decide +kernel
theorem d_LW_law_386 : decode code 386 = .ok (.goto (-368), 3) := by decide +kernel
theorem d_LW_law_389 : decode code 389 = .ok (.iconst 1, 1) := by decide +kernel
theorem d_LW_law_390 : decode code 390 = .ok (.ireturn, 1) := by decide +kernel
/-- what both sides keep -/
theorem pf_of {X : Lay} {w w1 : Wd} {T : Nat → Nat → Int64} {ne : Int32} {wd : Nat → Int32} {n : Nat} (h : pf_st X w T ne wd n) (hf : ∀ g, g < 17 → w1 g = w g) : pf_st X w1 T ne wd n := by
  obtain ⟨parts, ks, ls, ss, rdy, R, st0, BF, AF, hS, hn, hp, hO⟩ := h
  refine ⟨parts, ks, ls, ss, rdy, R, st0, BF, AF, ?_, hn, hp, hO⟩
  unfold pf_sh g_rep at hS ⊢
  simp only [hf 0 (by omega), hf 1 (by omega), hf 2 (by omega), hf 3 (by omega), hf 4 (by omega), hf 5 (by omega), hf 6 (by omega), hf 7 (by omega), hf 8 (by omega), hf 9 (by omega), hf 10 (by omega), hf 11 (by omega), hf 12 (by omega), hf 13 (by omega), hf 14 (by omega), hf 15 (by omega), hf 16 (by omega)]
  exact hS
theorem mo_of {X : Lay} {w w1 : Wd} {T : Nat → Nat → Int64} {ne : Int32} {wd : Nat → Int32} {n : Nat} (h : mo_st X w T ne wd n) (hf : ∀ g, 16 < g → w1 g = w g) : mo_st X w1 T ne wd n := by
  obtain ⟨tE, st, pt, lk, tb, rk, sp, hmw, hn, hTE, hrk⟩ := h
  refine ⟨tE, st, pt, lk, tb, rk, sp, ?_, hn, hTE, hrk⟩
  funext g i
  by_cases hg : g < 20 ∨ 26 < g
  · exact congrFun (m_row hg) i
  · have e : m_w X w1 tE ne wd (nI n) st pt lk tb rk sp g i = m_w X w tE ne wd (nI n) st pt lk tb rk sp g i := by
      unfold m_w
      rw [hf g (by omega)]
    rw [e, hmw, hf g (by omega)]
def bo_f (X : Lay) (w : Wd) : Prop := ∃ T ne wd n, pf_st X w T ne wd n ∧ mo_st X w T ne wd n
theorem nI_64 {i j : Nat} (hi : i < 64) (hj : j < 64) (h : nI i = nI j) : i = j := (nI_eq (by omega) (by omega)).mp h
/-- one edge put or taken away, on both sides -/
theorem j_edge {X : Lay} {w1 w2 : Wd} {T : Nat → Nat → Int64} {ne d : Int32} {wd st lk : Nat → Int32} {n : Nat} {tE : Nat → Bool} {pt rk : Int32} {tb sp : Nat → Int64} {a b c r1 r2 : Int32} {v : Bool} {P : Prop} (hP : P ↔ (is_n a 64 ∧ is_n b 8 ∧ is_n c 64))
    (h1 : (¬ P ∧ r1 = -1 ∧ pf_st X w1 T ne wd n) ∨ ∃ i k j : Nat, i < 64 ∧ k < 8 ∧ j < 64 ∧ a = nI i ∧ b = nI k ∧ c = nI j ∧ ((bt_f (T k i) j = v ∧ r1 = 0 ∧ pf_st X w1 T ne wd n) ∨ (bt_f (T k i) j = !v ∧ r1 = 1 ∧ ∃ T1, pf_st X w1 T1 (ne + d) wd n ∧ ∀ k1 i1 j1, j1 < 64 → bt_f (T1 k1 i1) j1 = if k1 = k ∧ i1 = i ∧ j1 = j then v else bt_f (T k1 i1) j1)))
    (hmw : m_w X w1 tE ne wd (nI n) st pt lk tb rk sp = w1) (hn : n ≤ 60) (hTE : ∀ k, k < 8 → ∀ i, i < 64 → ∀ j, j < 64 → tE (ix_f k i j) = bt_f (T k i) j) (hrk : ¬ rk = 0 → lk_f wd n = 0 ∧ sv_f tb 0 (cn_f T wd 12 0))
    (h2 : (¬ P ∧ r2 = -1 ∧ w2 = m_w X w1 tE ne wd (nI n) st pt lk tb rk sp) ∨ ∃ i k j : Nat, i < 64 ∧ k < 8 ∧ j < 64 ∧ a = nI i ∧ b = nI k ∧ c = nI j ∧ ((tE (ix_f k i j) = v ∧ r2 = 0 ∧ w2 = m_w X w1 tE ne wd (nI n) st pt lk tb rk sp) ∨ (tE (ix_f k i j) = !v ∧ r2 = 1 ∧ w2 = m_w X w1 (va_up tE (ix_f k i j) v) (ne + d) wd (nI n) st pt lk tb 0 sp))) : r1 = r2 ∧ bo_f X w2 := by
  have hm1 : mo_st X w1 T ne wd n := ⟨tE, st, pt, lk, tb, rk, sp, hmw, hn, hTE, hrk⟩
  rcases h1 with ⟨hp, e1, hs⟩ | ⟨i, k, j, hi, hk, hj, ea, eb, ec, h1⟩
  · rcases h2 with ⟨-, e2, hw⟩ | ⟨i, k, j, hi, hk, hj, ea, eb, ec, -⟩
    · rw [hmw] at hw
      subst hw
      exact ⟨e1.trans e2.symm, T, ne, wd, n, hs, hm1⟩
    · exact absurd (hP.mpr ⟨⟨i, hi, ea⟩, ⟨k, hk, eb⟩, ⟨j, hj, ec⟩⟩) hp
  · rcases h2 with ⟨hp, -⟩ | ⟨i', k', j', hi', hk', hj', ea', eb', ec', h2⟩
    · exact absurd (hP.mpr ⟨⟨i, hi, ea⟩, ⟨k, hk, eb⟩, ⟨j, hj, ec⟩⟩) hp
    · have ei := nI_64 hi hi' (ea.symm.trans ea')
      have ek := nI_64 (by omega) (by omega) (eb.symm.trans eb')
      have ej := nI_64 hj hj' (ec.symm.trans ec')
      subst ei; subst ek; subst ej
      have ht := hTE k hk i hi j hj
      rcases h1 with ⟨q1, e1, hs⟩ | ⟨q1, e1, T1, hs, hT1⟩
      · rcases h2 with ⟨q2, e2, hw⟩ | ⟨q2, -, -⟩
        · rw [hmw] at hw
          subst hw
          exact ⟨e1.trans e2.symm, T, ne, wd, n, hs, hm1⟩
        · rw [ht, q1] at q2; cases v <;> cases q2
      · rcases h2 with ⟨q2, -, -⟩ | ⟨q2, e2, hw⟩
        · rw [ht, q1] at q2; cases v <;> cases q2
        · refine ⟨e1.trans e2.symm, T1, ne + d, wd, n, ?_, ?_⟩
          · rw [hw]; exact pf_of hs (fun g hg => m_row (Or.inl (by omega)))
          · rw [hw]
            refine ⟨_, st, pt, lk, tb, 0, sp, m_idem, hn, fun k1 hk1 i1 hi1 j1 hj1 => ?_, fun q => absurd rfl q⟩
            rw [hT1 k1 i1 j1 hj1]
            by_cases q : k1 = k ∧ i1 = i ∧ j1 = j
            · rw [if_pos q, q.1, q.2.1, q.2.2, vu_self]
            · rw [if_neg q, vu_ne (fun z => q (ix_inj hi1 hj1 hi hj z)), hTE k1 hk1 i1 hi1 j1 hj1]
theorem lw_t {i L : Nat} (hi : i ≤ 2052) (hL : L ≤ 2048) : (Int32.ofNat L - 4 < nI i ↔ L < i + 4) := by
  rw [Int32.lt_iff_toInt_lt, Int32.toInt_sub, show (Int32.ofNat L).toInt = (L : Int) from nI_toInt (n := L) (by omega), nI_toInt (n := i) (by omega), show (4 : Int32).toInt = 4 from rfl, Int.bmod_eq_of_le (by omega) (by omega)]
  omega
theorem lw_15 (x : Int32) : ∃ j : Nat, j < 16 ∧ x &&& 15 = nI j := by
  refine ⟨x.toBitVec.toNat &&& 15, Nat.lt_succ_of_le Nat.and_le_right, ?_⟩
  apply Int32.toBitVec_inj.mp
  apply BitVec.eq_of_toNat_eq
  rw [Int32.toBitVec_and, BitVec.toNat_and]
  show x.toBitVec.toNat &&& 15 = (BitVec.ofNat 32 (x.toBitVec.toNat &&& 15)).toNat
  rw [BitVec.toNat_ofNat, Nat.mod_eq_of_lt (Nat.lt_of_le_of_lt Nat.and_le_right (by decide))]
section PL
variable {p : Program} {l : Launch} {e : Env} {R : Room} {s : State} {m : MethodId} {args : Array Value} {below : List Frame} {meth : Method} {c : Code} {X : Lay} {cc : ByteArray} {nL cells slots : Nat} {Q : State → Prop} {own : String} {w : Wd} {pc : Nat} {lv : List (Option Value)} {st : List Value}
theorem pl_sld (C : Cx p s m args c cc nL own X) {bb L : Nat} {xs : Nat → Int32} (hX : va_X bb L xs s s.heap) (hbl : bb < s.heap.size) (hbz : ¬ pw_z X ≤ bb) (hL : L ≤ 2048) {x : Int32} (i : Nat) (hx : x = nI i) (hi : i < L) (hdg : decode cc pc = .ok (.iaload, 1)) (k : MW p l e R s m args below meth c X nL cells slots Q w (pc + 1) lv (.int (xs i) :: st)) : MW p l e R s m args below meth c X nL cells slots Q w pc lv (.int x :: .ref bb :: st) := fun H locs ls h1 h2 h3 => by
  subst hx
  refine va_sld C.1.1 C.1.2.1 hX hbl hbz h2 (vp_in_nI hi (by omega)) hdg ?_
  rw [nI_clamp (by omega)]
  exact k H locs ls h1 h2 h3
theorem pl_slen (C : Cx p s m args c cc nL own X) {bb L : Nat} {xs : Nat → Int32} (hX : va_X bb L xs s s.heap) (hbl : bb < s.heap.size) (hbz : ¬ pw_z X ≤ bb) (hdg : decode cc pc = .ok (.arraylength, 1)) (k : MW p l e R s m args below meth c X nL cells slots Q w (pc + 1) lv (.int (Int32.ofNat L) :: st)) : MW p l e R s m args below meth c X nL cells slots Q w pc lv (.ref bb :: st) := fun H locs ls h1 h2 h3 => va_slen C.1.1 C.1.2.1 hX hbl hbz h2 hdg (k H locs ls h1 h2 h3)
end PL
