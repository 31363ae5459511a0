/-! DECODE ROWS -/
theorem d_LA_law_0 : decode c_LA_law 0 = .ok (.new 7, 3) := by decide +kernel
theorem d_LA_law_3 : decode c_LA_law 3 = .ok (.dup, 1) := by decide +kernel
theorem d_LA_law_4 : decode c_LA_law 4 = .ok (.invokespecial 9, 3) := by decide +kernel
theorem d_LA_law_7 : decode c_LA_law 7 = .ok (.astore_n 1, 1) := by decide +kernel
theorem d_LA_law_8 : decode c_LA_law 8 = .ok (.new 10, 3) := by decide +kernel
theorem d_LA_law_11 : decode c_LA_law 11 = .ok (.dup, 1) := by decide +kernel
theorem d_LA_law_12 : decode c_LA_law 12 = .ok (.invokespecial 12, 3) := by decide +kernel
theorem d_LA_law_15 : decode c_LA_law 15 = .ok (.astore_n 2, 1) := by decide +kernel
theorem d_LA_law_16 : decode c_LA_law 16 = .ok (.iconst 0, 1) := by decide +kernel
theorem d_LA_law_17 : decode c_LA_law 17 = .ok (.istore_n 3, 1) := by decide +kernel
theorem d_LA_law_18 : decode c_LA_law 18 = .ok (.iload_n 3, 1) := by decide +kernel
theorem d_LA_law_19 : decode c_LA_law 19 = .ok (.aload_n 0, 1) := by decide +kernel
theorem d_LA_law_20 : decode c_LA_law 20 = .ok (.arraylength, 1) := by decide +kernel
theorem d_LA_law_21 : decode c_LA_law 21 = .ok (.iconst 4, 1) := by decide +kernel
theorem d_LA_law_22 : decode c_LA_law 22 = .ok (.isub, 1) := by decide +kernel
theorem d_LA_law_23 : decode c_LA_law 23 = .ok (.if_icmp .gt 366, 3) := by decide +kernel
theorem d_LA_law_26 : decode c_LA_law 26 = .ok (.aload_n 0, 1) := by decide +kernel
theorem d_LA_law_27 : decode c_LA_law 27 = .ok (.iload_n 3, 1) := by decide +kernel
theorem d_LA_law_28 : decode c_LA_law 28 = .ok (.iaload, 1) := by decide +kernel
theorem d_LA_law_29 : decode c_LA_law 29 = .ok (.bipush 15, 2) := by decide +kernel
theorem d_LA_law_31 : decode c_LA_law 31 = .ok (.iand, 1) := by decide +kernel
theorem d_LA_law_32 : decode c_LA_law 32 = .ok (.tableswitch 351 0 11 #[64, 107, 150, 163, 186, 199, 212, 245, 268, 291, 314, 338], 64) := by decide +kernel
theorem d_LA_law_96 : decode c_LA_law 96 = .ok (.aload_n 1, 1) := by decide +kernel
theorem d_LA_law_97 : decode c_LA_law 97 = .ok (.aload_n 0, 1) := by decide +kernel
theorem d_LA_law_98 : decode c_LA_law 98 = .ok (.iload_n 3, 1) := by decide +kernel
theorem d_LA_law_99 : decode c_LA_law 99 = .ok (.iconst 1, 1) := by decide +kernel
theorem d_LA_law_100 : decode c_LA_law 100 = .ok (.iadd, 1) := by decide +kernel
theorem d_LA_law_101 : decode c_LA_law 101 = .ok (.iaload, 1) := by decide +kernel
theorem d_LA_law_102 : decode c_LA_law 102 = .ok (.aload_n 0, 1) := by decide +kernel
theorem d_LA_law_103 : decode c_LA_law 103 = .ok (.iload_n 3, 1) := by decide +kernel
theorem d_LA_law_104 : decode c_LA_law 104 = .ok (.iconst 2, 1) := by decide +kernel
theorem d_LA_law_105 : decode c_LA_law 105 = .ok (.iadd, 1) := by decide +kernel
theorem d_LA_law_106 : decode c_LA_law 106 = .ok (.iaload, 1) := by decide +kernel
theorem d_LA_law_107 : decode c_LA_law 107 = .ok (.aload_n 0, 1) := by decide +kernel
theorem d_LA_law_108 : decode c_LA_law 108 = .ok (.iload_n 3, 1) := by decide +kernel
theorem d_LA_law_109 : decode c_LA_law 109 = .ok (.iconst 3, 1) := by decide +kernel
theorem d_LA_law_110 : decode c_LA_law 110 = .ok (.iadd, 1) := by decide +kernel
theorem d_LA_law_111 : decode c_LA_law 111 = .ok (.iaload, 1) := by decide +kernel
theorem d_LA_law_112 : decode c_LA_law 112 = .ok (.invokevirtual 13, 3) := by decide +kernel
theorem d_LA_law_115 : decode c_LA_law 115 = .ok (.pop, 1) := by decide +kernel
theorem d_LA_law_116 : decode c_LA_law 116 = .ok (.aload_n 2, 1) := by decide +kernel
theorem d_LA_law_117 : decode c_LA_law 117 = .ok (.aload_n 0, 1) := by decide +kernel
theorem d_LA_law_118 : decode c_LA_law 118 = .ok (.iload_n 3, 1) := by decide +kernel
theorem d_LA_law_119 : decode c_LA_law 119 = .ok (.iconst 1, 1) := by decide +kernel
theorem d_LA_law_120 : decode c_LA_law 120 = .ok (.iadd, 1) := by decide +kernel
theorem d_LA_law_121 : decode c_LA_law 121 = .ok (.iaload, 1) := by decide +kernel
theorem d_LA_law_122 : decode c_LA_law 122 = .ok (.aload_n 0, 1) := by decide +kernel
theorem d_LA_law_123 : decode c_LA_law 123 = .ok (.iload_n 3, 1) := by decide +kernel
theorem d_LA_law_124 : decode c_LA_law 124 = .ok (.iconst 2, 1) := by decide +kernel
theorem d_LA_law_125 : decode c_LA_law 125 = .ok (.iadd, 1) := by decide +kernel
theorem d_LA_law_126 : decode c_LA_law 126 = .ok (.iaload, 1) := by decide +kernel
theorem d_LA_law_127 : decode c_LA_law 127 = .ok (.aload_n 0, 1) := by decide +kernel
theorem d_LA_law_128 : decode c_LA_law 128 = .ok (.iload_n 3, 1) := by decide +kernel
theorem d_LA_law_129 : decode c_LA_law 129 = .ok (.iconst 3, 1) := by decide +kernel
theorem d_LA_law_130 : decode c_LA_law 130 = .ok (.iadd, 1) := by decide +kernel
theorem d_LA_law_131 : decode c_LA_law 131 = .ok (.iaload, 1) := by decide +kernel
theorem d_LA_law_132 : decode c_LA_law 132 = .ok (.invokevirtual 17, 3) := by decide +kernel
theorem d_LA_law_135 : decode c_LA_law 135 = .ok (.pop, 1) := by decide +kernel
theorem d_LA_law_136 : decode c_LA_law 136 = .ok (.goto 247, 3) := by decide +kernel
theorem d_LA_law_139 : decode c_LA_law 139 = .ok (.aload_n 1, 1) := by decide +kernel
theorem d_LA_law_140 : decode c_LA_law 140 = .ok (.aload_n 0, 1) := by decide +kernel
theorem d_LA_law_141 : decode c_LA_law 141 = .ok (.iload_n 3, 1) := by decide +kernel
theorem d_LA_law_142 : decode c_LA_law 142 = .ok (.iconst 1, 1) := by decide +kernel
theorem d_LA_law_143 : decode c_LA_law 143 = .ok (.iadd, 1) := by decide +kernel
theorem d_LA_law_144 : decode c_LA_law 144 = .ok (.iaload, 1) := by decide +kernel
theorem d_LA_law_145 : decode c_LA_law 145 = .ok (.aload_n 0, 1) := by decide +kernel
theorem d_LA_law_146 : decode c_LA_law 146 = .ok (.iload_n 3, 1) := by decide +kernel
theorem d_LA_law_147 : decode c_LA_law 147 = .ok (.iconst 2, 1) := by decide +kernel
theorem d_LA_law_148 : decode c_LA_law 148 = .ok (.iadd, 1) := by decide +kernel
theorem d_LA_law_149 : decode c_LA_law 149 = .ok (.iaload, 1) := by decide +kernel
theorem d_LA_law_150 : decode c_LA_law 150 = .ok (.aload_n 0, 1) := by decide +kernel
theorem d_LA_law_151 : decode c_LA_law 151 = .ok (.iload_n 3, 1) := by decide +kernel
theorem d_LA_law_152 : decode c_LA_law 152 = .ok (.iconst 3, 1) := by decide +kernel
theorem d_LA_law_153 : decode c_LA_law 153 = .ok (.iadd, 1) := by decide +kernel
theorem d_LA_law_154 : decode c_LA_law 154 = .ok (.iaload, 1) := by decide +kernel
theorem d_LA_law_155 : decode c_LA_law 155 = .ok (.invokevirtual 18, 3) := by decide +kernel
theorem d_LA_law_158 : decode c_LA_law 158 = .ok (.pop, 1) := by decide +kernel
theorem d_LA_law_159 : decode c_LA_law 159 = .ok (.aload_n 2, 1) := by decide +kernel
theorem d_LA_law_160 : decode c_LA_law 160 = .ok (.aload_n 0, 1) := by decide +kernel
theorem d_LA_law_161 : decode c_LA_law 161 = .ok (.iload_n 3, 1) := by decide +kernel
theorem d_LA_law_162 : decode c_LA_law 162 = .ok (.iconst 1, 1) := by decide +kernel
theorem d_LA_law_163 : decode c_LA_law 163 = .ok (.iadd, 1) := by decide +kernel
theorem d_LA_law_164 : decode c_LA_law 164 = .ok (.iaload, 1) := by decide +kernel
theorem d_LA_law_165 : decode c_LA_law 165 = .ok (.aload_n 0, 1) := by decide +kernel
theorem d_LA_law_166 : decode c_LA_law 166 = .ok (.iload_n 3, 1) := by decide +kernel
theorem d_LA_law_167 : decode c_LA_law 167 = .ok (.iconst 2, 1) := by decide +kernel
theorem d_LA_law_168 : decode c_LA_law 168 = .ok (.iadd, 1) := by decide +kernel
theorem d_LA_law_169 : decode c_LA_law 169 = .ok (.iaload, 1) := by decide +kernel
theorem d_LA_law_170 : decode c_LA_law 170 = .ok (.aload_n 0, 1) := by decide +kernel
theorem d_LA_law_171 : decode c_LA_law 171 = .ok (.iload_n 3, 1) := by decide +kernel
theorem d_LA_law_172 : decode c_LA_law 172 = .ok (.iconst 3, 1) := by decide +kernel
theorem d_LA_law_173 : decode c_LA_law 173 = .ok (.iadd, 1) := by decide +kernel
theorem d_LA_law_174 : decode c_LA_law 174 = .ok (.iaload, 1) := by decide +kernel
theorem d_LA_law_175 : decode c_LA_law 175 = .ok (.invokevirtual 21, 3) := by decide +kernel
theorem d_LA_law_178 : decode c_LA_law 178 = .ok (.pop, 1) := by decide +kernel
theorem d_LA_law_179 : decode c_LA_law 179 = .ok (.goto 204, 3) := by decide +kernel
theorem d_LA_law_182 : decode c_LA_law 182 = .ok (.aload_n 1, 1) := by decide +kernel
theorem d_LA_law_183 : decode c_LA_law 183 = .ok (.invokevirtual 22, 3) := by decide +kernel
theorem d_LA_law_186 : decode c_LA_law 186 = .ok (.pop, 1) := by decide +kernel
theorem d_LA_law_187 : decode c_LA_law 187 = .ok (.aload_n 2, 1) := by decide +kernel
theorem d_LA_law_188 : decode c_LA_law 188 = .ok (.invokevirtual 26, 3) := by decide +kernel
theorem d_LA_law_191 : decode c_LA_law 191 = .ok (.pop, 1) := by decide +kernel
theorem d_LA_law_192 : decode c_LA_law 192 = .ok (.goto 191, 3) := by decide +kernel
theorem d_LA_law_195 : decode c_LA_law 195 = .ok (.aload_n 1, 1) := by decide +kernel
theorem d_LA_law_196 : decode c_LA_law 196 = .ok (.aload_n 0, 1) := by decide +kernel
theorem d_LA_law_197 : decode c_LA_law 197 = .ok (.iload_n 3, 1) := by decide +kernel
theorem d_LA_law_198 : decode c_LA_law 198 = .ok (.iconst 1, 1) := by decide +kernel
theorem d_LA_law_199 : decode c_LA_law 199 = .ok (.iadd, 1) := by decide +kernel
theorem d_LA_law_200 : decode c_LA_law 200 = .ok (.iaload, 1) := by decide +kernel
theorem d_LA_law_201 : decode c_LA_law 201 = .ok (.invokevirtual 27, 3) := by decide +kernel
theorem d_LA_law_204 : decode c_LA_law 204 = .ok (.pop, 1) := by decide +kernel
theorem d_LA_law_205 : decode c_LA_law 205 = .ok (.aload_n 2, 1) := by decide +kernel
theorem d_LA_law_206 : decode c_LA_law 206 = .ok (.aload_n 0, 1) := by decide +kernel
theorem d_LA_law_207 : decode c_LA_law 207 = .ok (.iload_n 3, 1) := by decide +kernel
theorem d_LA_law_208 : decode c_LA_law 208 = .ok (.iconst 1, 1) := by decide +kernel
theorem d_LA_law_209 : decode c_LA_law 209 = .ok (.iadd, 1) := by decide +kernel
theorem d_LA_law_210 : decode c_LA_law 210 = .ok (.iaload, 1) := by decide +kernel
theorem d_LA_law_211 : decode c_LA_law 211 = .ok (.invokevirtual 31, 3) := by decide +kernel
theorem d_LA_law_214 : decode c_LA_law 214 = .ok (.pop, 1) := by decide +kernel
theorem d_LA_law_215 : decode c_LA_law 215 = .ok (.goto 168, 3) := by decide +kernel
theorem d_LA_law_218 : decode c_LA_law 218 = .ok (.aload_n 1, 1) := by decide +kernel
theorem d_LA_law_219 : decode c_LA_law 219 = .ok (.invokevirtual 32, 3) := by decide +kernel
theorem d_LA_law_222 : decode c_LA_law 222 = .ok (.pop, 1) := by decide +kernel
theorem d_LA_law_223 : decode c_LA_law 223 = .ok (.aload_n 2, 1) := by decide +kernel
theorem d_LA_law_224 : decode c_LA_law 224 = .ok (.invokevirtual 35, 3) := by decide +kernel
theorem d_LA_law_227 : decode c_LA_law 227 = .ok (.pop, 1) := by decide +kernel
theorem d_LA_law_228 : decode c_LA_law 228 = .ok (.goto 155, 3) := by decide +kernel
theorem d_LA_law_231 : decode c_LA_law 231 = .ok (.aload_n 1, 1) := by decide +kernel
theorem d_LA_law_232 : decode c_LA_law 232 = .ok (.invokevirtual 36, 3) := by decide +kernel
theorem d_LA_law_235 : decode c_LA_law 235 = .ok (.pop, 1) := by decide +kernel
theorem d_LA_law_236 : decode c_LA_law 236 = .ok (.aload_n 2, 1) := by decide +kernel
theorem d_LA_law_237 : decode c_LA_law 237 = .ok (.invokevirtual 39, 3) := by decide +kernel
theorem d_LA_law_240 : decode c_LA_law 240 = .ok (.pop, 1) := by decide +kernel
theorem d_LA_law_241 : decode c_LA_law 241 = .ok (.goto 142, 3) := by decide +kernel
theorem d_LA_law_244 : decode c_LA_law 244 = .ok (.aload_n 1, 1) := by decide +kernel
theorem d_LA_law_245 : decode c_LA_law 245 = .ok (.aload_n 0, 1) := by decide +kernel
theorem d_LA_law_246 : decode c_LA_law 246 = .ok (.iload_n 3, 1) := by decide +kernel
theorem d_LA_law_247 : decode c_LA_law 247 = .ok (.iconst 1, 1) := by decide +kernel
theorem d_LA_law_248 : decode c_LA_law 248 = .ok (.iadd, 1) := by decide +kernel
theorem d_LA_law_249 : decode c_LA_law 249 = .ok (.iaload, 1) := by decide +kernel
theorem d_LA_law_250 : decode c_LA_law 250 = .ok (.aload_n 0, 1) := by decide +kernel
theorem d_LA_law_251 : decode c_LA_law 251 = .ok (.iload_n 3, 1) := by decide +kernel
theorem d_LA_law_252 : decode c_LA_law 252 = .ok (.iconst 2, 1) := by decide +kernel
theorem d_LA_law_253 : decode c_LA_law 253 = .ok (.iadd, 1) := by decide +kernel
theorem d_LA_law_254 : decode c_LA_law 254 = .ok (.iaload, 1) := by decide +kernel
theorem d_LA_law_255 : decode c_LA_law 255 = .ok (.invokevirtual 40, 3) := by decide +kernel
theorem d_LA_law_258 : decode c_LA_law 258 = .ok (.pop2, 1) := by decide +kernel
theorem d_LA_law_259 : decode c_LA_law 259 = .ok (.aload_n 2, 1) := by decide +kernel
theorem d_LA_law_260 : decode c_LA_law 260 = .ok (.aload_n 0, 1) := by decide +kernel
theorem d_LA_law_261 : decode c_LA_law 261 = .ok (.iload_n 3, 1) := by decide +kernel
theorem d_LA_law_262 : decode c_LA_law 262 = .ok (.iconst 1, 1) := by decide +kernel
theorem d_LA_law_263 : decode c_LA_law 263 = .ok (.iadd, 1) := by decide +kernel
theorem d_LA_law_264 : decode c_LA_law 264 = .ok (.iaload, 1) := by decide +kernel
theorem d_LA_law_265 : decode c_LA_law 265 = .ok (.aload_n 0, 1) := by decide +kernel
theorem d_LA_law_266 : decode c_LA_law 266 = .ok (.iload_n 3, 1) := by decide +kernel
theorem d_LA_law_267 : decode c_LA_law 267 = .ok (.iconst 2, 1) := by decide +kernel
theorem d_LA_law_268 : decode c_LA_law 268 = .ok (.iadd, 1) := by decide +kernel
theorem d_LA_law_269 : decode c_LA_law 269 = .ok (.iaload, 1) := by decide +kernel
theorem d_LA_law_270 : decode c_LA_law 270 = .ok (.invokevirtual 44, 3) := by decide +kernel
theorem d_LA_law_273 : decode c_LA_law 273 = .ok (.pop2, 1) := by decide +kernel
theorem d_LA_law_274 : decode c_LA_law 274 = .ok (.goto 109, 3) := by decide +kernel
theorem d_LA_law_277 : decode c_LA_law 277 = .ok (.aload_n 1, 1) := by decide +kernel
theorem d_LA_law_278 : decode c_LA_law 278 = .ok (.aload_n 0, 1) := by decide +kernel
theorem d_LA_law_279 : decode c_LA_law 279 = .ok (.iload_n 3, 1) := by decide +kernel
theorem d_LA_law_280 : decode c_LA_law 280 = .ok (.iconst 1, 1) := by decide +kernel
theorem d_LA_law_281 : decode c_LA_law 281 = .ok (.iadd, 1) := by decide +kernel
theorem d_LA_law_282 : decode c_LA_law 282 = .ok (.iaload, 1) := by decide +kernel
theorem d_LA_law_283 : decode c_LA_law 283 = .ok (.invokevirtual 45, 3) := by decide +kernel
theorem d_LA_law_286 : decode c_LA_law 286 = .ok (.pop, 1) := by decide +kernel
theorem d_LA_law_287 : decode c_LA_law 287 = .ok (.aload_n 2, 1) := by decide +kernel
theorem d_LA_law_288 : decode c_LA_law 288 = .ok (.aload_n 0, 1) := by decide +kernel
theorem d_LA_law_289 : decode c_LA_law 289 = .ok (.iload_n 3, 1) := by decide +kernel
theorem d_LA_law_290 : decode c_LA_law 290 = .ok (.iconst 1, 1) := by decide +kernel
theorem d_LA_law_291 : decode c_LA_law 291 = .ok (.iadd, 1) := by decide +kernel
theorem d_LA_law_292 : decode c_LA_law 292 = .ok (.iaload, 1) := by decide +kernel
theorem d_LA_law_293 : decode c_LA_law 293 = .ok (.invokevirtual 48, 3) := by decide +kernel
theorem d_LA_law_296 : decode c_LA_law 296 = .ok (.pop, 1) := by decide +kernel
theorem d_LA_law_297 : decode c_LA_law 297 = .ok (.goto 86, 3) := by decide +kernel
theorem d_LA_law_300 : decode c_LA_law 300 = .ok (.aload_n 1, 1) := by decide +kernel
theorem d_LA_law_301 : decode c_LA_law 301 = .ok (.aload_n 0, 1) := by decide +kernel
theorem d_LA_law_302 : decode c_LA_law 302 = .ok (.iload_n 3, 1) := by decide +kernel
theorem d_LA_law_303 : decode c_LA_law 303 = .ok (.iconst 1, 1) := by decide +kernel
theorem d_LA_law_304 : decode c_LA_law 304 = .ok (.iadd, 1) := by decide +kernel
theorem d_LA_law_305 : decode c_LA_law 305 = .ok (.iaload, 1) := by decide +kernel
theorem d_LA_law_306 : decode c_LA_law 306 = .ok (.invokevirtual 49, 3) := by decide +kernel
theorem d_LA_law_309 : decode c_LA_law 309 = .ok (.pop2, 1) := by decide +kernel
theorem d_LA_law_310 : decode c_LA_law 310 = .ok (.aload_n 2, 1) := by decide +kernel
theorem d_LA_law_311 : decode c_LA_law 311 = .ok (.aload_n 0, 1) := by decide +kernel
theorem d_LA_law_312 : decode c_LA_law 312 = .ok (.iload_n 3, 1) := by decide +kernel
theorem d_LA_law_313 : decode c_LA_law 313 = .ok (.iconst 1, 1) := by decide +kernel
theorem d_LA_law_314 : decode c_LA_law 314 = .ok (.iadd, 1) := by decide +kernel
theorem d_LA_law_315 : decode c_LA_law 315 = .ok (.iaload, 1) := by decide +kernel
theorem d_LA_law_316 : decode c_LA_law 316 = .ok (.invokevirtual 53, 3) := by decide +kernel
theorem d_LA_law_319 : decode c_LA_law 319 = .ok (.pop2, 1) := by decide +kernel
theorem d_LA_law_320 : decode c_LA_law 320 = .ok (.goto 63, 3) := by decide +kernel
theorem d_LA_law_323 : decode c_LA_law 323 = .ok (.aload_n 1, 1) := by decide +kernel
theorem d_LA_law_324 : decode c_LA_law 324 = .ok (.aload_n 0, 1) := by decide +kernel
theorem d_LA_law_325 : decode c_LA_law 325 = .ok (.iload_n 3, 1) := by decide +kernel
theorem d_LA_law_326 : decode c_LA_law 326 = .ok (.iconst 1, 1) := by decide +kernel
theorem d_LA_law_327 : decode c_LA_law 327 = .ok (.iadd, 1) := by decide +kernel
theorem d_LA_law_328 : decode c_LA_law 328 = .ok (.iaload, 1) := by decide +kernel
theorem d_LA_law_329 : decode c_LA_law 329 = .ok (.invokevirtual 54, 3) := by decide +kernel
theorem d_LA_law_332 : decode c_LA_law 332 = .ok (.pop2, 1) := by decide +kernel
theorem d_LA_law_333 : decode c_LA_law 333 = .ok (.aload_n 2, 1) := by decide +kernel
theorem d_LA_law_334 : decode c_LA_law 334 = .ok (.aload_n 0, 1) := by decide +kernel
theorem d_LA_law_335 : decode c_LA_law 335 = .ok (.iload_n 3, 1) := by decide +kernel
theorem d_LA_law_336 : decode c_LA_law 336 = .ok (.iconst 1, 1) := by decide +kernel
theorem d_LA_law_337 : decode c_LA_law 337 = .ok (.iadd, 1) := by decide +kernel
theorem d_LA_law_338 : decode c_LA_law 338 = .ok (.iaload, 1) := by decide +kernel
theorem d_LA_law_339 : decode c_LA_law 339 = .ok (.invokevirtual 57, 3) := by decide +kernel
theorem d_LA_law_342 : decode c_LA_law 342 = .ok (.pop2, 1) := by decide +kernel
theorem d_LA_law_343 : decode c_LA_law 343 = .ok (.goto 40, 3) := by decide +kernel
theorem d_LA_law_346 : decode c_LA_law 346 = .ok (.aload_n 1, 1) := by decide +kernel
theorem d_LA_law_347 : decode c_LA_law 347 = .ok (.aload_n 0, 1) := by decide +kernel
theorem d_LA_law_348 : decode c_LA_law 348 = .ok (.iload_n 3, 1) := by decide +kernel
theorem d_LA_law_349 : decode c_LA_law 349 = .ok (.iconst 1, 1) := by decide +kernel
theorem d_LA_law_350 : decode c_LA_law 350 = .ok (.iadd, 1) := by decide +kernel
theorem d_LA_law_351 : decode c_LA_law 351 = .ok (.iaload, 1) := by decide +kernel
theorem d_LA_law_352 : decode c_LA_law 352 = .ok (.invokevirtual 58, 3) := by decide +kernel
theorem d_LA_law_355 : decode c_LA_law 355 = .ok (.aload_n 2, 1) := by decide +kernel
theorem d_LA_law_356 : decode c_LA_law 356 = .ok (.aload_n 0, 1) := by decide +kernel
theorem d_LA_law_357 : decode c_LA_law 357 = .ok (.iload_n 3, 1) := by decide +kernel
theorem d_LA_law_358 : decode c_LA_law 358 = .ok (.iconst 1, 1) := by decide +kernel
theorem d_LA_law_359 : decode c_LA_law 359 = .ok (.iadd, 1) := by decide +kernel
theorem d_LA_law_360 : decode c_LA_law 360 = .ok (.iaload, 1) := by decide +kernel
theorem d_LA_law_361 : decode c_LA_law 361 = .ok (.invokevirtual 61, 3) := by decide +kernel
theorem d_LA_law_364 : decode c_LA_law 364 = .ok (.lcmp, 1) := by decide +kernel
theorem d_LA_law_365 : decode c_LA_law 365 = .ok (.ifCond .eq 18, 3) := by decide +kernel
theorem d_LA_law_368 : decode c_LA_law 368 = .ok (.iconst 0, 1) := by decide +kernel
theorem d_LA_law_369 : decode c_LA_law 369 = .ok (.ireturn, 1) := by decide +kernel
theorem d_LA_law_370 : decode c_LA_law 370 = .ok (.aload_n 1, 1) := by decide +kernel
theorem d_LA_law_371 : decode c_LA_law 371 = .ok (.invokevirtual 62, 3) := by decide +kernel
theorem d_LA_law_374 : decode c_LA_law 374 = .ok (.pop, 1) := by decide +kernel
theorem d_LA_law_375 : decode c_LA_law 375 = .ok (.aload_n 2, 1) := by decide +kernel
theorem d_LA_law_376 : decode c_LA_law 376 = .ok (.invokevirtual 65, 3) := by decide +kernel
theorem d_LA_law_379 : decode c_LA_law 379 = .ok (.pop, 1) := by decide +kernel
theorem d_LA_law_380 : decode c_LA_law 380 = .ok (.goto 3, 3) := by decide +kernel
theorem d_LA_law_383 : decode c_LA_law 383 = .ok (.iinc 3 4, 3) := by decide +kernel
theorem d_LA_law_386 : decode c_LA_law 386 = .ok (.goto (-368), 3) := by decide +kernel
theorem d_LA_law_389 : decode c_LA_law 389 = .ok (.iconst 1, 1) := by decide +kernel
theorem d_LA_law_390 : decode c_LA_law 390 = .ok (.ireturn, 1) := by decide +kernel
