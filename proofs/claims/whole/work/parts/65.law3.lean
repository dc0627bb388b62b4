theorem d_L_law_0 : decode b_L_law 0 = .ok (.new 8, 3) := by decide +kernel
theorem d_L_law_3 : decode b_L_law 3 = .ok (.dup, 1) := by decide +kernel
theorem d_L_law_4 : decode b_L_law 4 = .ok (.invokespecial 19, 3) := by decide +kernel
theorem d_L_law_7 : decode b_L_law 7 = .ok (.astore_n 1, 1) := by decide +kernel
theorem d_L_law_8 : decode b_L_law 8 = .ok (.new 20, 3) := by decide +kernel
theorem d_L_law_11 : decode b_L_law 11 = .ok (.dup, 1) := by decide +kernel
theorem d_L_law_12 : decode b_L_law 12 = .ok (.invokespecial 22, 3) := by decide +kernel
theorem d_L_law_15 : decode b_L_law 15 = .ok (.astore_n 2, 1) := by decide +kernel
theorem d_L_law_16 : decode b_L_law 16 = .ok (.iconst 1, 1) := by decide +kernel
theorem d_L_law_17 : decode b_L_law 17 = .ok (.newarray .long, 2) := by decide +kernel
theorem d_L_law_19 : decode b_L_law 19 = .ok (.astore_n 3, 1) := by decide +kernel
theorem d_L_law_20 : decode b_L_law 20 = .ok (.iconst 0, 1) := by decide +kernel
theorem d_L_law_21 : decode b_L_law 21 = .ok (.istore 4, 2) := by decide +kernel
theorem d_L_law_23 : decode b_L_law 23 = .ok (.iload 4, 2) := by decide +kernel
theorem d_L_law_25 : decode b_L_law 25 = .ok (.aload_n 0, 1) := by decide +kernel
theorem d_L_law_26 : decode b_L_law 26 = .ok (.arraylength, 1) := by decide +kernel
theorem d_L_law_27 : decode b_L_law 27 = .ok (.iconst 5, 1) := by decide +kernel
theorem d_L_law_28 : decode b_L_law 28 = .ok (.isub, 1) := by decide +kernel
theorem d_L_law_29 : decode b_L_law 29 = .ok (.if_icmp .gt 724, 3) := by decide +kernel
theorem d_L_law_32 : decode b_L_law 32 = .ok (.aload_n 0, 1) := by decide +kernel
theorem d_L_law_33 : decode b_L_law 33 = .ok (.iload 4, 2) := by decide +kernel
theorem d_L_law_35 : decode b_L_law 35 = .ok (.iaload, 1) := by decide +kernel
theorem d_L_law_36 : decode b_L_law 36 = .ok (.bipush 15, 2) := by decide +kernel
theorem d_L_law_38 : decode b_L_law 38 = .ok (.iand, 1) := by decide +kernel
theorem d_L_law_39 : decode b_L_law 39 = .ok (.tableswitch 708 0 14 #[73, 126, 187, 236, 289, 342, 391, 435, 472, 485, 499, 556, 613, 669, 683], 73) := by decide +kernel
theorem d_L_law_112 : decode b_L_law 112 = .ok (.aload_n 1, 1) := by decide +kernel
theorem d_L_law_113 : decode b_L_law 113 = .ok (.aload_n 0, 1) := by decide +kernel
theorem d_L_law_114 : decode b_L_law 114 = .ok (.iload 4, 2) := by decide +kernel
theorem d_L_law_116 : decode b_L_law 116 = .ok (.iconst 1, 1) := by decide +kernel
theorem d_L_law_117 : decode b_L_law 117 = .ok (.iadd, 1) := by decide +kernel
theorem d_L_law_118 : decode b_L_law 118 = .ok (.iaload, 1) := by decide +kernel
theorem d_L_law_119 : decode b_L_law 119 = .ok (.ifCond .eq 7, 3) := by decide +kernel
theorem d_L_law_122 : decode b_L_law 122 = .ok (.iconst 1, 1) := by decide +kernel
theorem d_L_law_123 : decode b_L_law 123 = .ok (.goto 4, 3) := by decide +kernel
theorem d_L_law_126 : decode b_L_law 126 = .ok (.iconst 0, 1) := by decide +kernel
theorem d_L_law_127 : decode b_L_law 127 = .ok (.aload_n 0, 1) := by decide +kernel
theorem d_L_law_128 : decode b_L_law 128 = .ok (.iload 4, 2) := by decide +kernel
theorem d_L_law_130 : decode b_L_law 130 = .ok (.iconst 2, 1) := by decide +kernel
theorem d_L_law_131 : decode b_L_law 131 = .ok (.iadd, 1) := by decide +kernel
theorem d_L_law_132 : decode b_L_law 132 = .ok (.iaload, 1) := by decide +kernel
theorem d_L_law_133 : decode b_L_law 133 = .ok (.invokevirtual 23, 3) := by decide +kernel
theorem d_L_law_136 : decode b_L_law 136 = .ok (.aload_n 2, 1) := by decide +kernel
theorem d_L_law_137 : decode b_L_law 137 = .ok (.aload_n 0, 1) := by decide +kernel
theorem d_L_law_138 : decode b_L_law 138 = .ok (.iload 4, 2) := by decide +kernel
theorem d_L_law_140 : decode b_L_law 140 = .ok (.iconst 1, 1) := by decide +kernel
theorem d_L_law_141 : decode b_L_law 141 = .ok (.iadd, 1) := by decide +kernel
theorem d_L_law_142 : decode b_L_law 142 = .ok (.iaload, 1) := by decide +kernel
theorem d_L_law_143 : decode b_L_law 143 = .ok (.ifCond .eq 7, 3) := by decide +kernel
theorem d_L_law_146 : decode b_L_law 146 = .ok (.iconst 1, 1) := by decide +kernel
theorem d_L_law_147 : decode b_L_law 147 = .ok (.goto 4, 3) := by decide +kernel
theorem d_L_law_150 : decode b_L_law 150 = .ok (.iconst 0, 1) := by decide +kernel
theorem d_L_law_151 : decode b_L_law 151 = .ok (.aload_n 0, 1) := by decide +kernel
theorem d_L_law_152 : decode b_L_law 152 = .ok (.iload 4, 2) := by decide +kernel
theorem d_L_law_154 : decode b_L_law 154 = .ok (.iconst 2, 1) := by decide +kernel
theorem d_L_law_155 : decode b_L_law 155 = .ok (.iadd, 1) := by decide +kernel
theorem d_L_law_156 : decode b_L_law 156 = .ok (.iaload, 1) := by decide +kernel
theorem d_L_law_157 : decode b_L_law 157 = .ok (.invokevirtual 27, 3) := by decide +kernel
theorem d_L_law_160 : decode b_L_law 160 = .ok (.if_icmp .eq 587, 3) := by decide +kernel
theorem d_L_law_163 : decode b_L_law 163 = .ok (.iconst 0, 1) := by decide +kernel
theorem d_L_law_164 : decode b_L_law 164 = .ok (.ireturn, 1) := by decide +kernel
theorem d_L_law_165 : decode b_L_law 165 = .ok (.aload_n 1, 1) := by decide +kernel
theorem d_L_law_166 : decode b_L_law 166 = .ok (.aload_n 0, 1) := by decide +kernel
theorem d_L_law_167 : decode b_L_law 167 = .ok (.iload 4, 2) := by decide +kernel
theorem d_L_law_169 : decode b_L_law 169 = .ok (.iconst 1, 1) := by decide +kernel
theorem d_L_law_170 : decode b_L_law 170 = .ok (.iadd, 1) := by decide +kernel
theorem d_L_law_171 : decode b_L_law 171 = .ok (.iaload, 1) := by decide +kernel
theorem d_L_law_172 : decode b_L_law 172 = .ok (.aload_n 0, 1) := by decide +kernel
theorem d_L_law_173 : decode b_L_law 173 = .ok (.iload 4, 2) := by decide +kernel
theorem d_L_law_175 : decode b_L_law 175 = .ok (.iconst 2, 1) := by decide +kernel
theorem d_L_law_176 : decode b_L_law 176 = .ok (.iadd, 1) := by decide +kernel
theorem d_L_law_177 : decode b_L_law 177 = .ok (.iaload, 1) := by decide +kernel
theorem d_L_law_178 : decode b_L_law 178 = .ok (.aload_n 0, 1) := by decide +kernel
theorem d_L_law_179 : decode b_L_law 179 = .ok (.iload 4, 2) := by decide +kernel
theorem d_L_law_181 : decode b_L_law 181 = .ok (.iconst 3, 1) := by decide +kernel
theorem d_L_law_182 : decode b_L_law 182 = .ok (.iadd, 1) := by decide +kernel
theorem d_L_law_183 : decode b_L_law 183 = .ok (.iaload, 1) := by decide +kernel
theorem d_L_law_184 : decode b_L_law 184 = .ok (.aload_n 0, 1) := by decide +kernel
theorem d_L_law_185 : decode b_L_law 185 = .ok (.iload 4, 2) := by decide +kernel
theorem d_L_law_187 : decode b_L_law 187 = .ok (.iconst 4, 1) := by decide +kernel
theorem d_L_law_188 : decode b_L_law 188 = .ok (.iadd, 1) := by decide +kernel
theorem d_L_law_189 : decode b_L_law 189 = .ok (.iaload, 1) := by decide +kernel
theorem d_L_law_190 : decode b_L_law 190 = .ok (.invokevirtual 28, 3) := by decide +kernel
theorem d_L_law_193 : decode b_L_law 193 = .ok (.aload_n 2, 1) := by decide +kernel
theorem d_L_law_194 : decode b_L_law 194 = .ok (.aload_n 0, 1) := by decide +kernel
theorem d_L_law_195 : decode b_L_law 195 = .ok (.iload 4, 2) := by decide +kernel
theorem d_L_law_197 : decode b_L_law 197 = .ok (.iconst 1, 1) := by decide +kernel
theorem d_L_law_198 : decode b_L_law 198 = .ok (.iadd, 1) := by decide +kernel
theorem d_L_law_199 : decode b_L_law 199 = .ok (.iaload, 1) := by decide +kernel
theorem d_L_law_200 : decode b_L_law 200 = .ok (.aload_n 0, 1) := by decide +kernel
theorem d_L_law_201 : decode b_L_law 201 = .ok (.iload 4, 2) := by decide +kernel
theorem d_L_law_203 : decode b_L_law 203 = .ok (.iconst 2, 1) := by decide +kernel
theorem d_L_law_204 : decode b_L_law 204 = .ok (.iadd, 1) := by decide +kernel
theorem d_L_law_205 : decode b_L_law 205 = .ok (.iaload, 1) := by decide +kernel
theorem d_L_law_206 : decode b_L_law 206 = .ok (.aload_n 0, 1) := by decide +kernel
theorem d_L_law_207 : decode b_L_law 207 = .ok (.iload 4, 2) := by decide +kernel
theorem d_L_law_209 : decode b_L_law 209 = .ok (.iconst 3, 1) := by decide +kernel
theorem d_L_law_210 : decode b_L_law 210 = .ok (.iadd, 1) := by decide +kernel
theorem d_L_law_211 : decode b_L_law 211 = .ok (.iaload, 1) := by decide +kernel
theorem d_L_law_212 : decode b_L_law 212 = .ok (.aload_n 0, 1) := by decide +kernel
theorem d_L_law_213 : decode b_L_law 213 = .ok (.iload 4, 2) := by decide +kernel
theorem d_L_law_215 : decode b_L_law 215 = .ok (.iconst 4, 1) := by decide +kernel
theorem d_L_law_216 : decode b_L_law 216 = .ok (.iadd, 1) := by decide +kernel
theorem d_L_law_217 : decode b_L_law 217 = .ok (.iaload, 1) := by decide +kernel
theorem d_L_law_218 : decode b_L_law 218 = .ok (.invokevirtual 32, 3) := by decide +kernel
theorem d_L_law_221 : decode b_L_law 221 = .ok (.if_icmp .eq 526, 3) := by decide +kernel
theorem d_L_law_224 : decode b_L_law 224 = .ok (.iconst 0, 1) := by decide +kernel
theorem d_L_law_225 : decode b_L_law 225 = .ok (.ireturn, 1) := by decide +kernel
theorem d_L_law_226 : decode b_L_law 226 = .ok (.aload_n 1, 1) := by decide +kernel
theorem d_L_law_227 : decode b_L_law 227 = .ok (.aload_n 0, 1) := by decide +kernel
theorem d_L_law_228 : decode b_L_law 228 = .ok (.iload 4, 2) := by decide +kernel
theorem d_L_law_230 : decode b_L_law 230 = .ok (.iconst 1, 1) := by decide +kernel
theorem d_L_law_231 : decode b_L_law 231 = .ok (.iadd, 1) := by decide +kernel
theorem d_L_law_232 : decode b_L_law 232 = .ok (.iaload, 1) := by decide +kernel
theorem d_L_law_233 : decode b_L_law 233 = .ok (.aload_n 0, 1) := by decide +kernel
theorem d_L_law_234 : decode b_L_law 234 = .ok (.iload 4, 2) := by decide +kernel
theorem d_L_law_236 : decode b_L_law 236 = .ok (.iconst 2, 1) := by decide +kernel
theorem d_L_law_237 : decode b_L_law 237 = .ok (.iadd, 1) := by decide +kernel
theorem d_L_law_238 : decode b_L_law 238 = .ok (.iaload, 1) := by decide +kernel
theorem d_L_law_239 : decode b_L_law 239 = .ok (.aload_n 0, 1) := by decide +kernel
theorem d_L_law_240 : decode b_L_law 240 = .ok (.iload 4, 2) := by decide +kernel
theorem d_L_law_242 : decode b_L_law 242 = .ok (.iconst 3, 1) := by decide +kernel
theorem d_L_law_243 : decode b_L_law 243 = .ok (.iadd, 1) := by decide +kernel
theorem d_L_law_244 : decode b_L_law 244 = .ok (.iaload, 1) := by decide +kernel
theorem d_L_law_245 : decode b_L_law 245 = .ok (.invokevirtual 33, 3) := by decide +kernel
theorem d_L_law_248 : decode b_L_law 248 = .ok (.aload_n 2, 1) := by decide +kernel
theorem d_L_law_249 : decode b_L_law 249 = .ok (.aload_n 0, 1) := by decide +kernel
theorem d_L_law_250 : decode b_L_law 250 = .ok (.iload 4, 2) := by decide +kernel
theorem d_L_law_252 : decode b_L_law 252 = .ok (.iconst 1, 1) := by decide +kernel
theorem d_L_law_253 : decode b_L_law 253 = .ok (.iadd, 1) := by decide +kernel
theorem d_L_law_254 : decode b_L_law 254 = .ok (.iaload, 1) := by decide +kernel
theorem d_L_law_255 : decode b_L_law 255 = .ok (.aload_n 0, 1) := by decide +kernel
theorem d_L_law_256 : decode b_L_law 256 = .ok (.iload 4, 2) := by decide +kernel
theorem d_L_law_258 : decode b_L_law 258 = .ok (.iconst 2, 1) := by decide +kernel
theorem d_L_law_259 : decode b_L_law 259 = .ok (.iadd, 1) := by decide +kernel
theorem d_L_law_260 : decode b_L_law 260 = .ok (.iaload, 1) := by decide +kernel
theorem d_L_law_261 : decode b_L_law 261 = .ok (.aload_n 0, 1) := by decide +kernel
theorem d_L_law_262 : decode b_L_law 262 = .ok (.iload 4, 2) := by decide +kernel
theorem d_L_law_264 : decode b_L_law 264 = .ok (.iconst 3, 1) := by decide +kernel
theorem d_L_law_265 : decode b_L_law 265 = .ok (.iadd, 1) := by decide +kernel
theorem d_L_law_266 : decode b_L_law 266 = .ok (.iaload, 1) := by decide +kernel
theorem d_L_law_267 : decode b_L_law 267 = .ok (.invokevirtual 37, 3) := by decide +kernel
theorem d_L_law_270 : decode b_L_law 270 = .ok (.if_icmp .eq 477, 3) := by decide +kernel
theorem d_L_law_273 : decode b_L_law 273 = .ok (.iconst 0, 1) := by decide +kernel
theorem d_L_law_274 : decode b_L_law 274 = .ok (.ireturn, 1) := by decide +kernel
theorem d_L_law_275 : decode b_L_law 275 = .ok (.aload_n 1, 1) := by decide +kernel
theorem d_L_law_276 : decode b_L_law 276 = .ok (.aload_n 0, 1) := by decide +kernel
theorem d_L_law_277 : decode b_L_law 277 = .ok (.iload 4, 2) := by decide +kernel
theorem d_L_law_279 : decode b_L_law 279 = .ok (.iconst 1, 1) := by decide +kernel
theorem d_L_law_280 : decode b_L_law 280 = .ok (.iadd, 1) := by decide +kernel
theorem d_L_law_281 : decode b_L_law 281 = .ok (.iaload, 1) := by decide +kernel
theorem d_L_law_282 : decode b_L_law 282 = .ok (.aload_n 0, 1) := by decide +kernel
theorem d_L_law_283 : decode b_L_law 283 = .ok (.iload 4, 2) := by decide +kernel
theorem d_L_law_285 : decode b_L_law 285 = .ok (.iconst 2, 1) := by decide +kernel
theorem d_L_law_286 : decode b_L_law 286 = .ok (.iadd, 1) := by decide +kernel
theorem d_L_law_287 : decode b_L_law 287 = .ok (.iaload, 1) := by decide +kernel
theorem d_L_law_288 : decode b_L_law 288 = .ok (.ifCond .eq 7, 3) := by decide +kernel
theorem d_L_law_291 : decode b_L_law 291 = .ok (.iconst 1, 1) := by decide +kernel
theorem d_L_law_292 : decode b_L_law 292 = .ok (.goto 4, 3) := by decide +kernel
theorem d_L_law_295 : decode b_L_law 295 = .ok (.iconst 0, 1) := by decide +kernel
theorem d_L_law_296 : decode b_L_law 296 = .ok (.invokevirtual 38, 3) := by decide +kernel
theorem d_L_law_299 : decode b_L_law 299 = .ok (.aload_n 2, 1) := by decide +kernel
theorem d_L_law_300 : decode b_L_law 300 = .ok (.aload_n 0, 1) := by decide +kernel
theorem d_L_law_301 : decode b_L_law 301 = .ok (.iload 4, 2) := by decide +kernel
theorem d_L_law_303 : decode b_L_law 303 = .ok (.iconst 1, 1) := by decide +kernel
theorem d_L_law_304 : decode b_L_law 304 = .ok (.iadd, 1) := by decide +kernel
theorem d_L_law_305 : decode b_L_law 305 = .ok (.iaload, 1) := by decide +kernel
theorem d_L_law_306 : decode b_L_law 306 = .ok (.aload_n 0, 1) := by decide +kernel
theorem d_L_law_307 : decode b_L_law 307 = .ok (.iload 4, 2) := by decide +kernel
theorem d_L_law_309 : decode b_L_law 309 = .ok (.iconst 2, 1) := by decide +kernel
theorem d_L_law_310 : decode b_L_law 310 = .ok (.iadd, 1) := by decide +kernel
theorem d_L_law_311 : decode b_L_law 311 = .ok (.iaload, 1) := by decide +kernel
theorem d_L_law_312 : decode b_L_law 312 = .ok (.ifCond .eq 7, 3) := by decide +kernel
theorem d_L_law_315 : decode b_L_law 315 = .ok (.iconst 1, 1) := by decide +kernel
theorem d_L_law_316 : decode b_L_law 316 = .ok (.goto 4, 3) := by decide +kernel
theorem d_L_law_319 : decode b_L_law 319 = .ok (.iconst 0, 1) := by decide +kernel
theorem d_L_law_320 : decode b_L_law 320 = .ok (.invokevirtual 42, 3) := by decide +kernel
theorem d_L_law_323 : decode b_L_law 323 = .ok (.if_icmp .eq 424, 3) := by decide +kernel
theorem d_L_law_326 : decode b_L_law 326 = .ok (.iconst 0, 1) := by decide +kernel
theorem d_L_law_327 : decode b_L_law 327 = .ok (.ireturn, 1) := by decide +kernel
theorem d_L_law_328 : decode b_L_law 328 = .ok (.aload_n 1, 1) := by decide +kernel
theorem d_L_law_329 : decode b_L_law 329 = .ok (.aload_n 0, 1) := by decide +kernel
theorem d_L_law_330 : decode b_L_law 330 = .ok (.iload 4, 2) := by decide +kernel
theorem d_L_law_332 : decode b_L_law 332 = .ok (.iconst 1, 1) := by decide +kernel
theorem d_L_law_333 : decode b_L_law 333 = .ok (.iadd, 1) := by decide +kernel
theorem d_L_law_334 : decode b_L_law 334 = .ok (.iaload, 1) := by decide +kernel
theorem d_L_law_335 : decode b_L_law 335 = .ok (.aload_n 0, 1) := by decide +kernel
theorem d_L_law_336 : decode b_L_law 336 = .ok (.iload 4, 2) := by decide +kernel
theorem d_L_law_338 : decode b_L_law 338 = .ok (.iconst 2, 1) := by decide +kernel
theorem d_L_law_339 : decode b_L_law 339 = .ok (.iadd, 1) := by decide +kernel
theorem d_L_law_340 : decode b_L_law 340 = .ok (.iaload, 1) := by decide +kernel
theorem d_L_law_341 : decode b_L_law 341 = .ok (.ifCond .eq 7, 3) := by decide +kernel
theorem d_L_law_344 : decode b_L_law 344 = .ok (.iconst 1, 1) := by decide +kernel
theorem d_L_law_345 : decode b_L_law 345 = .ok (.goto 4, 3) := by decide +kernel
theorem d_L_law_348 : decode b_L_law 348 = .ok (.iconst 0, 1) := by decide +kernel
theorem d_L_law_349 : decode b_L_law 349 = .ok (.invokevirtual 43, 3) := by decide +kernel
theorem d_L_law_352 : decode b_L_law 352 = .ok (.aload_n 2, 1) := by decide +kernel
theorem d_L_law_353 : decode b_L_law 353 = .ok (.aload_n 0, 1) := by decide +kernel
theorem d_L_law_354 : decode b_L_law 354 = .ok (.iload 4, 2) := by decide +kernel
theorem d_L_law_356 : decode b_L_law 356 = .ok (.iconst 1, 1) := by decide +kernel
theorem d_L_law_357 : decode b_L_law 357 = .ok (.iadd, 1) := by decide +kernel
theorem d_L_law_358 : decode b_L_law 358 = .ok (.iaload, 1) := by decide +kernel
theorem d_L_law_359 : decode b_L_law 359 = .ok (.aload_n 0, 1) := by decide +kernel
theorem d_L_law_360 : decode b_L_law 360 = .ok (.iload 4, 2) := by decide +kernel
theorem d_L_law_362 : decode b_L_law 362 = .ok (.iconst 2, 1) := by decide +kernel
theorem d_L_law_363 : decode b_L_law 363 = .ok (.iadd, 1) := by decide +kernel
theorem d_L_law_364 : decode b_L_law 364 = .ok (.iaload, 1) := by decide +kernel
theorem d_L_law_365 : decode b_L_law 365 = .ok (.ifCond .eq 7, 3) := by decide +kernel
theorem d_L_law_368 : decode b_L_law 368 = .ok (.iconst 1, 1) := by decide +kernel
theorem d_L_law_369 : decode b_L_law 369 = .ok (.goto 4, 3) := by decide +kernel
theorem d_L_law_372 : decode b_L_law 372 = .ok (.iconst 0, 1) := by decide +kernel
theorem d_L_law_373 : decode b_L_law 373 = .ok (.invokevirtual 46, 3) := by decide +kernel
theorem d_L_law_376 : decode b_L_law 376 = .ok (.if_icmp .eq 371, 3) := by decide +kernel
theorem d_L_law_379 : decode b_L_law 379 = .ok (.iconst 0, 1) := by decide +kernel
theorem d_L_law_380 : decode b_L_law 380 = .ok (.ireturn, 1) := by decide +kernel
theorem d_L_law_381 : decode b_L_law 381 = .ok (.aload_n 1, 1) := by decide +kernel
theorem d_L_law_382 : decode b_L_law 382 = .ok (.aload_n 0, 1) := by decide +kernel
theorem d_L_law_383 : decode b_L_law 383 = .ok (.iload 4, 2) := by decide +kernel
theorem d_L_law_385 : decode b_L_law 385 = .ok (.iconst 1, 1) := by decide +kernel
theorem d_L_law_386 : decode b_L_law 386 = .ok (.iadd, 1) := by decide +kernel
theorem d_L_law_387 : decode b_L_law 387 = .ok (.iaload, 1) := by decide +kernel
theorem d_L_law_388 : decode b_L_law 388 = .ok (.aload_n 0, 1) := by decide +kernel
theorem d_L_law_389 : decode b_L_law 389 = .ok (.iload 4, 2) := by decide +kernel
theorem d_L_law_391 : decode b_L_law 391 = .ok (.iconst 2, 1) := by decide +kernel
theorem d_L_law_392 : decode b_L_law 392 = .ok (.iadd, 1) := by decide +kernel
theorem d_L_law_393 : decode b_L_law 393 = .ok (.iaload, 1) := by decide +kernel
theorem d_L_law_394 : decode b_L_law 394 = .ok (.aload_n 0, 1) := by decide +kernel
theorem d_L_law_395 : decode b_L_law 395 = .ok (.iload 4, 2) := by decide +kernel
theorem d_L_law_397 : decode b_L_law 397 = .ok (.iconst 3, 1) := by decide +kernel
theorem d_L_law_398 : decode b_L_law 398 = .ok (.iadd, 1) := by decide +kernel
theorem d_L_law_399 : decode b_L_law 399 = .ok (.iaload, 1) := by decide +kernel
theorem d_L_law_400 : decode b_L_law 400 = .ok (.invokevirtual 47, 3) := by decide +kernel
theorem d_L_law_403 : decode b_L_law 403 = .ok (.aload_n 2, 1) := by decide +kernel
theorem d_L_law_404 : decode b_L_law 404 = .ok (.aload_n 0, 1) := by decide +kernel
theorem d_L_law_405 : decode b_L_law 405 = .ok (.iload 4, 2) := by decide +kernel
theorem d_L_law_407 : decode b_L_law 407 = .ok (.iconst 1, 1) := by decide +kernel
theorem d_L_law_408 : decode b_L_law 408 = .ok (.iadd, 1) := by decide +kernel
theorem d_L_law_409 : decode b_L_law 409 = .ok (.iaload, 1) := by decide +kernel
theorem d_L_law_410 : decode b_L_law 410 = .ok (.aload_n 0, 1) := by decide +kernel
theorem d_L_law_411 : decode b_L_law 411 = .ok (.iload 4, 2) := by decide +kernel
theorem d_L_law_413 : decode b_L_law 413 = .ok (.iconst 2, 1) := by decide +kernel
theorem d_L_law_414 : decode b_L_law 414 = .ok (.iadd, 1) := by decide +kernel
theorem d_L_law_415 : decode b_L_law 415 = .ok (.iaload, 1) := by decide +kernel
theorem d_L_law_416 : decode b_L_law 416 = .ok (.aload_n 0, 1) := by decide +kernel
theorem d_L_law_417 : decode b_L_law 417 = .ok (.iload 4, 2) := by decide +kernel
theorem d_L_law_419 : decode b_L_law 419 = .ok (.iconst 3, 1) := by decide +kernel
theorem d_L_law_420 : decode b_L_law 420 = .ok (.iadd, 1) := by decide +kernel
theorem d_L_law_421 : decode b_L_law 421 = .ok (.iaload, 1) := by decide +kernel
theorem d_L_law_422 : decode b_L_law 422 = .ok (.invokevirtual 50, 3) := by decide +kernel
theorem d_L_law_425 : decode b_L_law 425 = .ok (.if_icmp .eq 322, 3) := by decide +kernel
theorem d_L_law_428 : decode b_L_law 428 = .ok (.iconst 0, 1) := by decide +kernel
theorem d_L_law_429 : decode b_L_law 429 = .ok (.ireturn, 1) := by decide +kernel
theorem d_L_law_430 : decode b_L_law 430 = .ok (.aload_n 1, 1) := by decide +kernel
theorem d_L_law_431 : decode b_L_law 431 = .ok (.aload_n 3, 1) := by decide +kernel
theorem d_L_law_432 : decode b_L_law 432 = .ok (.invokestatic 51, 3) := by decide +kernel
theorem d_L_law_435 : decode b_L_law 435 = .ok (.istore 5, 2) := by decide +kernel
theorem d_L_law_437 : decode b_L_law 437 = .ok (.aload_n 2, 1) := by decide +kernel
theorem d_L_law_438 : decode b_L_law 438 = .ok (.invokevirtual 56, 3) := by decide +kernel
theorem d_L_law_441 : decode b_L_law 441 = .ok (.istore 6, 2) := by decide +kernel
theorem d_L_law_443 : decode b_L_law 443 = .ok (.aload_n 2, 1) := by decide +kernel
theorem d_L_law_444 : decode b_L_law 444 = .ok (.invokevirtual 57, 3) := by decide +kernel
theorem d_L_law_447 : decode b_L_law 447 = .ok (.iload 5, 2) := by decide +kernel
theorem d_L_law_449 : decode b_L_law 449 = .ok (.if_icmp .eq 5, 3) := by decide +kernel
theorem d_L_law_452 : decode b_L_law 452 = .ok (.iconst 0, 1) := by decide +kernel
theorem d_L_law_453 : decode b_L_law 453 = .ok (.ireturn, 1) := by decide +kernel
theorem d_L_law_454 : decode b_L_law 454 = .ok (.iload 5, 2) := by decide +kernel
theorem d_L_law_456 : decode b_L_law 456 = .ok (.ifCond .ne 15, 3) := by decide +kernel
theorem d_L_law_459 : decode b_L_law 459 = .ok (.aload_n 3, 1) := by decide +kernel
theorem d_L_law_460 : decode b_L_law 460 = .ok (.iconst 0, 1) := by decide +kernel
theorem d_L_law_461 : decode b_L_law 461 = .ok (.laload, 1) := by decide +kernel
theorem d_L_law_462 : decode b_L_law 462 = .ok (.iload 6, 2) := by decide +kernel
theorem d_L_law_464 : decode b_L_law 464 = .ok (.i2l, 1) := by decide +kernel
theorem d_L_law_465 : decode b_L_law 465 = .ok (.lcmp, 1) := by decide +kernel
theorem d_L_law_466 : decode b_L_law 466 = .ok (.ifCond .eq 5, 3) := by decide +kernel
theorem d_L_law_469 : decode b_L_law 469 = .ok (.iconst 0, 1) := by decide +kernel
theorem d_L_law_470 : decode b_L_law 470 = .ok (.ireturn, 1) := by decide +kernel
theorem d_L_law_471 : decode b_L_law 471 = .ok (.goto 276, 3) := by decide +kernel
theorem d_L_law_474 : decode b_L_law 474 = .ok (.aload_n 1, 1) := by decide +kernel
theorem d_L_law_475 : decode b_L_law 475 = .ok (.aload_n 0, 1) := by decide +kernel
theorem d_L_law_476 : decode b_L_law 476 = .ok (.iload 4, 2) := by decide +kernel
theorem d_L_law_478 : decode b_L_law 478 = .ok (.iconst 1, 1) := by decide +kernel
theorem d_L_law_479 : decode b_L_law 479 = .ok (.iadd, 1) := by decide +kernel
theorem d_L_law_480 : decode b_L_law 480 = .ok (.iaload, 1) := by decide +kernel
theorem d_L_law_481 : decode b_L_law 481 = .ok (.aload_n 0, 1) := by decide +kernel
theorem d_L_law_482 : decode b_L_law 482 = .ok (.iload 4, 2) := by decide +kernel
theorem d_L_law_484 : decode b_L_law 484 = .ok (.iconst 2, 1) := by decide +kernel
theorem d_L_law_485 : decode b_L_law 485 = .ok (.iadd, 1) := by decide +kernel
theorem d_L_law_486 : decode b_L_law 486 = .ok (.iaload, 1) := by decide +kernel
theorem d_L_law_487 : decode b_L_law 487 = .ok (.invokevirtual 60, 3) := by decide +kernel
theorem d_L_law_490 : decode b_L_law 490 = .ok (.aload_n 2, 1) := by decide +kernel
theorem d_L_law_491 : decode b_L_law 491 = .ok (.aload_n 0, 1) := by decide +kernel
theorem d_L_law_492 : decode b_L_law 492 = .ok (.iload 4, 2) := by decide +kernel
theorem d_L_law_494 : decode b_L_law 494 = .ok (.iconst 1, 1) := by decide +kernel
theorem d_L_law_495 : decode b_L_law 495 = .ok (.iadd, 1) := by decide +kernel
theorem d_L_law_496 : decode b_L_law 496 = .ok (.iaload, 1) := by decide +kernel
theorem d_L_law_497 : decode b_L_law 497 = .ok (.aload_n 0, 1) := by decide +kernel
theorem d_L_law_498 : decode b_L_law 498 = .ok (.iload 4, 2) := by decide +kernel
theorem d_L_law_500 : decode b_L_law 500 = .ok (.iconst 2, 1) := by decide +kernel
theorem d_L_law_501 : decode b_L_law 501 = .ok (.iadd, 1) := by decide +kernel
theorem d_L_law_502 : decode b_L_law 502 = .ok (.iaload, 1) := by decide +kernel
theorem d_L_law_503 : decode b_L_law 503 = .ok (.invokevirtual 64, 3) := by decide +kernel
theorem d_L_law_506 : decode b_L_law 506 = .ok (.if_icmp .eq 241, 3) := by decide +kernel
theorem d_L_law_509 : decode b_L_law 509 = .ok (.iconst 0, 1) := by decide +kernel
theorem d_L_law_510 : decode b_L_law 510 = .ok (.ireturn, 1) := by decide +kernel
theorem d_L_law_511 : decode b_L_law 511 = .ok (.aload_n 1, 1) := by decide +kernel
theorem d_L_law_512 : decode b_L_law 512 = .ok (.invokevirtual 65, 3) := by decide +kernel
theorem d_L_law_515 : decode b_L_law 515 = .ok (.aload_n 2, 1) := by decide +kernel
theorem d_L_law_516 : decode b_L_law 516 = .ok (.invokevirtual 68, 3) := by decide +kernel
theorem d_L_law_519 : decode b_L_law 519 = .ok (.if_icmp .eq 228, 3) := by decide +kernel
theorem d_L_law_522 : decode b_L_law 522 = .ok (.iconst 0, 1) := by decide +kernel
theorem d_L_law_523 : decode b_L_law 523 = .ok (.ireturn, 1) := by decide +kernel
theorem d_L_law_524 : decode b_L_law 524 = .ok (.aload_n 1, 1) := by decide +kernel
theorem d_L_law_525 : decode b_L_law 525 = .ok (.invokevirtual 69, 3) := by decide +kernel
theorem d_L_law_528 : decode b_L_law 528 = .ok (.aload_n 2, 1) := by decide +kernel
theorem d_L_law_529 : decode b_L_law 529 = .ok (.invokevirtual 73, 3) := by decide +kernel
theorem d_L_law_532 : decode b_L_law 532 = .ok (.lcmp, 1) := by decide +kernel
theorem d_L_law_533 : decode b_L_law 533 = .ok (.ifCond .eq 214, 3) := by decide +kernel
theorem d_L_law_536 : decode b_L_law 536 = .ok (.iconst 0, 1) := by decide +kernel
theorem d_L_law_537 : decode b_L_law 537 = .ok (.ireturn, 1) := by decide +kernel
theorem d_L_law_538 : decode b_L_law 538 = .ok (.aload_n 1, 1) := by decide +kernel
theorem d_L_law_539 : decode b_L_law 539 = .ok (.aload_n 0, 1) := by decide +kernel
theorem d_L_law_540 : decode b_L_law 540 = .ok (.iload 4, 2) := by decide +kernel
theorem d_L_law_542 : decode b_L_law 542 = .ok (.iconst 1, 1) := by decide +kernel
theorem d_L_law_543 : decode b_L_law 543 = .ok (.iadd, 1) := by decide +kernel
theorem d_L_law_544 : decode b_L_law 544 = .ok (.iaload, 1) := by decide +kernel
theorem d_L_law_545 : decode b_L_law 545 = .ok (.i2l, 1) := by decide +kernel
theorem d_L_law_546 : decode b_L_law 546 = .ok (.bipush 32, 2) := by decide +kernel
theorem d_L_law_548 : decode b_L_law 548 = .ok (.lshl, 1) := by decide +kernel
theorem d_L_law_549 : decode b_L_law 549 = .ok (.aload_n 0, 1) := by decide +kernel
theorem d_L_law_550 : decode b_L_law 550 = .ok (.iload 4, 2) := by decide +kernel
theorem d_L_law_552 : decode b_L_law 552 = .ok (.iconst 2, 1) := by decide +kernel
theorem d_L_law_553 : decode b_L_law 553 = .ok (.iadd, 1) := by decide +kernel
theorem d_L_law_554 : decode b_L_law 554 = .ok (.iaload, 1) := by decide +kernel
theorem d_L_law_555 : decode b_L_law 555 = .ok (.i2l, 1) := by decide +kernel
theorem d_L_law_556 : decode b_L_law 556 = .ok (.ldc2_w 74, 3) := by decide +kernel
theorem d_L_law_559 : decode b_L_law 559 = .ok (.land, 1) := by decide +kernel
theorem d_L_law_560 : decode b_L_law 560 = .ok (.lor, 1) := by decide +kernel
theorem d_L_law_561 : decode b_L_law 561 = .ok (.invokevirtual 76, 3) := by decide +kernel
theorem d_L_law_564 : decode b_L_law 564 = .ok (.aload_n 2, 1) := by decide +kernel
theorem d_L_law_565 : decode b_L_law 565 = .ok (.aload_n 0, 1) := by decide +kernel
theorem d_L_law_566 : decode b_L_law 566 = .ok (.iload 4, 2) := by decide +kernel
theorem d_L_law_568 : decode b_L_law 568 = .ok (.iconst 1, 1) := by decide +kernel
theorem d_L_law_569 : decode b_L_law 569 = .ok (.iadd, 1) := by decide +kernel
theorem d_L_law_570 : decode b_L_law 570 = .ok (.iaload, 1) := by decide +kernel
theorem d_L_law_571 : decode b_L_law 571 = .ok (.i2l, 1) := by decide +kernel
theorem d_L_law_572 : decode b_L_law 572 = .ok (.bipush 32, 2) := by decide +kernel
theorem d_L_law_574 : decode b_L_law 574 = .ok (.lshl, 1) := by decide +kernel
theorem d_L_law_575 : decode b_L_law 575 = .ok (.aload_n 0, 1) := by decide +kernel
theorem d_L_law_576 : decode b_L_law 576 = .ok (.iload 4, 2) := by decide +kernel
theorem d_L_law_578 : decode b_L_law 578 = .ok (.iconst 2, 1) := by decide +kernel
theorem d_L_law_579 : decode b_L_law 579 = .ok (.iadd, 1) := by decide +kernel
theorem d_L_law_580 : decode b_L_law 580 = .ok (.iaload, 1) := by decide +kernel
theorem d_L_law_581 : decode b_L_law 581 = .ok (.i2l, 1) := by decide +kernel
theorem d_L_law_582 : decode b_L_law 582 = .ok (.ldc2_w 74, 3) := by decide +kernel
theorem d_L_law_585 : decode b_L_law 585 = .ok (.land, 1) := by decide +kernel
theorem d_L_law_586 : decode b_L_law 586 = .ok (.lor, 1) := by decide +kernel
theorem d_L_law_587 : decode b_L_law 587 = .ok (.invokevirtual 80, 3) := by decide +kernel
theorem d_L_law_590 : decode b_L_law 590 = .ok (.if_icmp .eq 157, 3) := by decide +kernel
theorem d_L_law_593 : decode b_L_law 593 = .ok (.iconst 0, 1) := by decide +kernel
theorem d_L_law_594 : decode b_L_law 594 = .ok (.ireturn, 1) := by decide +kernel
theorem d_L_law_595 : decode b_L_law 595 = .ok (.aload_n 1, 1) := by decide +kernel
theorem d_L_law_596 : decode b_L_law 596 = .ok (.aload_n 0, 1) := by decide +kernel
theorem d_L_law_597 : decode b_L_law 597 = .ok (.iload 4, 2) := by decide +kernel
theorem d_L_law_599 : decode b_L_law 599 = .ok (.iconst 1, 1) := by decide +kernel
theorem d_L_law_600 : decode b_L_law 600 = .ok (.iadd, 1) := by decide +kernel
theorem d_L_law_601 : decode b_L_law 601 = .ok (.iaload, 1) := by decide +kernel
theorem d_L_law_602 : decode b_L_law 602 = .ok (.i2l, 1) := by decide +kernel
theorem d_L_law_603 : decode b_L_law 603 = .ok (.bipush 32, 2) := by decide +kernel
theorem d_L_law_605 : decode b_L_law 605 = .ok (.lshl, 1) := by decide +kernel
theorem d_L_law_606 : decode b_L_law 606 = .ok (.aload_n 0, 1) := by decide +kernel
theorem d_L_law_607 : decode b_L_law 607 = .ok (.iload 4, 2) := by decide +kernel
theorem d_L_law_609 : decode b_L_law 609 = .ok (.iconst 2, 1) := by decide +kernel
theorem d_L_law_610 : decode b_L_law 610 = .ok (.iadd, 1) := by decide +kernel
theorem d_L_law_611 : decode b_L_law 611 = .ok (.iaload, 1) := by decide +kernel
theorem d_L_law_612 : decode b_L_law 612 = .ok (.i2l, 1) := by decide +kernel
theorem d_L_law_613 : decode b_L_law 613 = .ok (.ldc2_w 74, 3) := by decide +kernel
theorem d_L_law_616 : decode b_L_law 616 = .ok (.land, 1) := by decide +kernel
theorem d_L_law_617 : decode b_L_law 617 = .ok (.lor, 1) := by decide +kernel
theorem d_L_law_618 : decode b_L_law 618 = .ok (.invokevirtual 81, 3) := by decide +kernel
theorem d_L_law_621 : decode b_L_law 621 = .ok (.aload_n 2, 1) := by decide +kernel
theorem d_L_law_622 : decode b_L_law 622 = .ok (.aload_n 0, 1) := by decide +kernel
theorem d_L_law_623 : decode b_L_law 623 = .ok (.iload 4, 2) := by decide +kernel
theorem d_L_law_625 : decode b_L_law 625 = .ok (.iconst 1, 1) := by decide +kernel
theorem d_L_law_626 : decode b_L_law 626 = .ok (.iadd, 1) := by decide +kernel
theorem d_L_law_627 : decode b_L_law 627 = .ok (.iaload, 1) := by decide +kernel
theorem d_L_law_628 : decode b_L_law 628 = .ok (.i2l, 1) := by decide +kernel
theorem d_L_law_629 : decode b_L_law 629 = .ok (.bipush 32, 2) := by decide +kernel
theorem d_L_law_631 : decode b_L_law 631 = .ok (.lshl, 1) := by decide +kernel
theorem d_L_law_632 : decode b_L_law 632 = .ok (.aload_n 0, 1) := by decide +kernel
theorem d_L_law_633 : decode b_L_law 633 = .ok (.iload 4, 2) := by decide +kernel
theorem d_L_law_635 : decode b_L_law 635 = .ok (.iconst 2, 1) := by decide +kernel
theorem d_L_law_636 : decode b_L_law 636 = .ok (.iadd, 1) := by decide +kernel
theorem d_L_law_637 : decode b_L_law 637 = .ok (.iaload, 1) := by decide +kernel
theorem d_L_law_638 : decode b_L_law 638 = .ok (.i2l, 1) := by decide +kernel
theorem d_L_law_639 : decode b_L_law 639 = .ok (.ldc2_w 74, 3) := by decide +kernel
theorem d_L_law_642 : decode b_L_law 642 = .ok (.land, 1) := by decide +kernel
theorem d_L_law_643 : decode b_L_law 643 = .ok (.lor, 1) := by decide +kernel
theorem d_L_law_644 : decode b_L_law 644 = .ok (.invokevirtual 84, 3) := by decide +kernel
theorem d_L_law_647 : decode b_L_law 647 = .ok (.if_icmp .eq 100, 3) := by decide +kernel
theorem d_L_law_650 : decode b_L_law 650 = .ok (.iconst 0, 1) := by decide +kernel
theorem d_L_law_651 : decode b_L_law 651 = .ok (.ireturn, 1) := by decide +kernel
theorem d_L_law_652 : decode b_L_law 652 = .ok (.aload_n 1, 1) := by decide +kernel
theorem d_L_law_653 : decode b_L_law 653 = .ok (.aload_n 0, 1) := by decide +kernel
theorem d_L_law_654 : decode b_L_law 654 = .ok (.iload 4, 2) := by decide +kernel
theorem d_L_law_656 : decode b_L_law 656 = .ok (.iconst 1, 1) := by decide +kernel
theorem d_L_law_657 : decode b_L_law 657 = .ok (.iadd, 1) := by decide +kernel
theorem d_L_law_658 : decode b_L_law 658 = .ok (.iaload, 1) := by decide +kernel
theorem d_L_law_659 : decode b_L_law 659 = .ok (.aload_n 3, 1) := by decide +kernel
theorem d_L_law_660 : decode b_L_law 660 = .ok (.invokestatic 85, 3) := by decide +kernel
theorem d_L_law_663 : decode b_L_law 663 = .ok (.istore 5, 2) := by decide +kernel
theorem d_L_law_665 : decode b_L_law 665 = .ok (.aload_n 2, 1) := by decide +kernel
theorem d_L_law_666 : decode b_L_law 666 = .ok (.aload_n 0, 1) := by decide +kernel
theorem d_L_law_667 : decode b_L_law 667 = .ok (.iload 4, 2) := by decide +kernel
theorem d_L_law_669 : decode b_L_law 669 = .ok (.iconst 1, 1) := by decide +kernel
theorem d_L_law_670 : decode b_L_law 670 = .ok (.iadd, 1) := by decide +kernel
theorem d_L_law_671 : decode b_L_law 671 = .ok (.iaload, 1) := by decide +kernel
theorem d_L_law_672 : decode b_L_law 672 = .ok (.invokevirtual 88, 3) := by decide +kernel
theorem d_L_law_675 : decode b_L_law 675 = .ok (.istore 6, 2) := by decide +kernel
theorem d_L_law_677 : decode b_L_law 677 = .ok (.aload_n 2, 1) := by decide +kernel
theorem d_L_law_678 : decode b_L_law 678 = .ok (.invokevirtual 57, 3) := by decide +kernel
theorem d_L_law_681 : decode b_L_law 681 = .ok (.iload 5, 2) := by decide +kernel
theorem d_L_law_683 : decode b_L_law 683 = .ok (.if_icmp .eq 5, 3) := by decide +kernel
theorem d_L_law_686 : decode b_L_law 686 = .ok (.iconst 0, 1) := by decide +kernel
theorem d_L_law_687 : decode b_L_law 687 = .ok (.ireturn, 1) := by decide +kernel
theorem d_L_law_688 : decode b_L_law 688 = .ok (.iload 5, 2) := by decide +kernel
theorem d_L_law_690 : decode b_L_law 690 = .ok (.ifCond .ne 15, 3) := by decide +kernel
theorem d_L_law_693 : decode b_L_law 693 = .ok (.aload_n 3, 1) := by decide +kernel
theorem d_L_law_694 : decode b_L_law 694 = .ok (.iconst 0, 1) := by decide +kernel
theorem d_L_law_695 : decode b_L_law 695 = .ok (.laload, 1) := by decide +kernel
theorem d_L_law_696 : decode b_L_law 696 = .ok (.iload 6, 2) := by decide +kernel
theorem d_L_law_698 : decode b_L_law 698 = .ok (.i2l, 1) := by decide +kernel
theorem d_L_law_699 : decode b_L_law 699 = .ok (.lcmp, 1) := by decide +kernel
theorem d_L_law_700 : decode b_L_law 700 = .ok (.ifCond .eq 5, 3) := by decide +kernel
theorem d_L_law_703 : decode b_L_law 703 = .ok (.iconst 0, 1) := by decide +kernel
theorem d_L_law_704 : decode b_L_law 704 = .ok (.ireturn, 1) := by decide +kernel
theorem d_L_law_705 : decode b_L_law 705 = .ok (.goto 42, 3) := by decide +kernel
theorem d_L_law_708 : decode b_L_law 708 = .ok (.aload_n 1, 1) := by decide +kernel
theorem d_L_law_709 : decode b_L_law 709 = .ok (.invokevirtual 89, 3) := by decide +kernel
theorem d_L_law_712 : decode b_L_law 712 = .ok (.aload_n 2, 1) := by decide +kernel
theorem d_L_law_713 : decode b_L_law 713 = .ok (.invokevirtual 92, 3) := by decide +kernel
theorem d_L_law_716 : decode b_L_law 716 = .ok (.lcmp, 1) := by decide +kernel
theorem d_L_law_717 : decode b_L_law 717 = .ok (.ifCond .eq 30, 3) := by decide +kernel
theorem d_L_law_720 : decode b_L_law 720 = .ok (.iconst 0, 1) := by decide +kernel
theorem d_L_law_721 : decode b_L_law 721 = .ok (.ireturn, 1) := by decide +kernel
theorem d_L_law_722 : decode b_L_law 722 = .ok (.aload_n 1, 1) := by decide +kernel
theorem d_L_law_723 : decode b_L_law 723 = .ok (.aload_n 0, 1) := by decide +kernel
theorem d_L_law_724 : decode b_L_law 724 = .ok (.iload 4, 2) := by decide +kernel
theorem d_L_law_726 : decode b_L_law 726 = .ok (.iconst 1, 1) := by decide +kernel
theorem d_L_law_727 : decode b_L_law 727 = .ok (.iadd, 1) := by decide +kernel
theorem d_L_law_728 : decode b_L_law 728 = .ok (.iaload, 1) := by decide +kernel
theorem d_L_law_729 : decode b_L_law 729 = .ok (.invokevirtual 93, 3) := by decide +kernel
theorem d_L_law_732 : decode b_L_law 732 = .ok (.aload_n 2, 1) := by decide +kernel
theorem d_L_law_733 : decode b_L_law 733 = .ok (.aload_n 0, 1) := by decide +kernel
theorem d_L_law_734 : decode b_L_law 734 = .ok (.iload 4, 2) := by decide +kernel
theorem d_L_law_736 : decode b_L_law 736 = .ok (.iconst 1, 1) := by decide +kernel
theorem d_L_law_737 : decode b_L_law 737 = .ok (.iadd, 1) := by decide +kernel
theorem d_L_law_738 : decode b_L_law 738 = .ok (.iaload, 1) := by decide +kernel
theorem d_L_law_739 : decode b_L_law 739 = .ok (.invokevirtual 96, 3) := by decide +kernel
theorem d_L_law_742 : decode b_L_law 742 = .ok (.if_icmp .eq 5, 3) := by decide +kernel
theorem d_L_law_745 : decode b_L_law 745 = .ok (.iconst 0, 1) := by decide +kernel
theorem d_L_law_746 : decode b_L_law 746 = .ok (.ireturn, 1) := by decide +kernel
theorem d_L_law_747 : decode b_L_law 747 = .ok (.iinc 4 5, 3) := by decide +kernel
theorem d_L_law_750 : decode b_L_law 750 = .ok (.goto (-727), 3) := by decide +kernel
theorem d_L_law_753 : decode b_L_law 753 = .ok (.iconst 1, 1) := by decide +kernel
theorem d_L_law_754 : decode b_L_law 754 = .ok (.ireturn, 1) := by decide +kernel
abbrev ls_A : Type := Nat × Nat × Nat × Nat × Nat × Nat × Nat × Nat × Nat × Nat × Nat × Nat × Nat × Nat × Nat × Nat × Nat × Nat × Nat × Nat × Nat × Nat × Nat × Nat × Nat × Nat × Nat × Nat × Nat × Nat × Nat × Nat × Nat × Nat × Nat × Nat × Nat × Nat × Nat
abbrev ls_S : Type := (Nat) × (Nat) × (Int32) × (Int64) × (Nat) × (Int32) × (Int64) × (Int32) × (Nat) × (Nat) × (Nat) × (Nat) × (Nat) × (Int64) × (Nat → Nat) × (Nat → Nat) × (Nat → Nat) × (Nat → Nat) × (Nat → Nat) × (Nat → Nat) × (Nat → Nat) × (Nat → Nat) × (Nat → Nat) × (Nat → Nat) × (Nat → Nat) × (Nat → Nat) × (Nat → Nat) × (Nat → Option Nat) × (Nat → Int64) × (Nat) × (Nat) × (Nat) × (Nat) × (Nat) × (Nat) × (Nat → Bool) × (Nat → Bool) × (Nat → Option Nat) × (Nat → Option Nat) × (Nat → Option Nat) × (Nat → Option Nat) × (Nat → Option Nat) × (Nat → Option Nat) × (Nat → Nat) × (Nat → Nat) × (Nat → Nat) × (Nat → Nat) × (Nat → Nat) × (Nat → Nat) × (Nat → Bool) × (Nat → Int64)
def ls_W (cI cL cZ : ClassId) (pd dm oB : Nat) (a : ls_A) (S : ls_S) : va_W := match a, S with
  | (g, wy, mt, fo, tA, oA, uA, wA, sA, cA, rA, xA, nA, pA, qA, kA, lA, hA, iD, tD, oD, uD, wD, sD, eD, vD, yD, lD, xD, cD, zD, pD, bD, fD, gD, qD, rD, aD, kD), (np, ne, bd, er, vr, fi, kp, mv, tl, rl, sz, fw, fk, od, tm, oe, ot, wt, sg, ct, tr, row, pw, lw, lc, le, ho, nr, ou, th, ll, mn, bw, bs, wv, ib, ie, wo, eo, co, bo, pr, be, la, li, fs, td, po, pt, al, wz) => [cg_P pd g wy mt fo fi kp, cg_G g tA oA uA wA sA np ne bd er vr, cg_N tA cI 20 tm, cg_N oA cI 60 oe, cg_N uA cI 60 ot, cg_N wA cI 60 wt, cg_N sA cI 60 sg, cg_W wy g cA rA mv tl, cg_L cA cL 400 ct, cg_N rA cI 20 tr, cg_M mt g wy xA nA pA qA kA rl, cg_N xA cI 10 row, cg_O nA cI 10 nr, cg_N pA cI 100 pw, cg_N qA cI 1024 lw, cg_N kA cI 1024 lc, cg_F fo lA hA sz fw fk od, cg_N lA cI 10 le, cg_N hA cI 10 ho, cg_K oB cL 1 ou, cg_D dm th np ne fi kp iD tD oD uD wD sD eD vD yD lD ll mn xD cD zD pD bD fD gD bw bs sz qD rD aD kD fk wv od, cg_B iD cZ 20 ib, cg_N tD cI 20 tm, cg_N oD cI 60 oe, cg_N uD cI 60 ot, cg_N wD cI 60 wt, cg_N sD cI 60 sg, cg_B eD cZ 60 ie, cg_O vD cI 20 wo, cg_O yD cI 20 eo, cg_N lD cI 60 la, cg_N xD cI 10 li, cg_O cD cI 110 co, cg_O zD cI 10 bo, cg_O pD cI 10 pr, cg_O bD cI 10 be, cg_N fD cI 11 fs, cg_N gD cI 11 td, cg_N qD cI 10 po, cg_N rD cI 10 pt, cg_B aD cZ 10 al, cg_K kD cL 10 wz]
def ls_JS (v : Nat) (S : ls_S) : Prop := match S with
  | (np, ne, bd, er, vr, fi, _, mv, tl, _, sz, _, _, _, tm, oe, ot, wt, _, ct, _, _, pw, lw, _, le, ho, _, _, _, _, _, bw, _, _, ib, ie, _, _, co, _, _, _, _, _, _, _, po, pt, _, _) => ls_J v np ne bd er vr fi mv tl sz bw tm oe ot wt ct pw lw le ho ib ie co po pt
def lx_C (p : Program) (l : Launch) (s : State) (m : MethodId) (c : Code) (b L : Nat) (xs : Nat → Int32) (dC : Nat → ClassId) (dI : Nat → Nat → Nat) (cI cL cZ : ClassId) (A : Nat → Prop) : Prop :=
  (p.tables.exec = Jvm.exec) ∧ (c.code = b_L_law) ∧ (c.maxLocals = 7) ∧ (s.vm.findClass R_L = some m.cls) ∧ (∀ w ∈ Cond.arrayClass .int :: wg_all, w.before #[Value.ref b] s = true) ∧
  (va_K (dC, dI) classes [(cI, .int), (cL, .long), (cZ, .boolean)] s) ∧ (nz_U s) ∧ (tw_st s) ∧ (∀ q : Nat, q < s.heap.size → ¬ A q) ∧ (va_X b L xs s s.heap) ∧ (b < s.heap.size) ∧ (L ≤ 2560) ∧ (l.stackTraces = false)
section LWB
variable {p : Program} {l : Launch} {e : Env} {R : Room} {s : State} {m : MethodId} {args : Array Value} {below : List Frame} {meth : Method} {c : Code} {H : Heap} {locs : List Loc} {cells slots : Nat} {Q : State → Prop} {cc : ByteArray} {pc : Nat} {ls : Array Slot} {rest : List Value}
theorem lw_bool {x : Int32} {o1 o2 : Int} (hx : p.tables.exec = Jvm.exec) (hb : c.code = cc) (d1 : decode cc pc = .ok (.ifCond .eq o1, 3)) (d2 : decode cc (pc + 3) = .ok (.iconst 1, 1)) (d3 : decode cc (pc + 3 + 1) = .ok (.goto o2, 3)) (d4 : decode cc (pc + 7) = .ok (.iconst 0, 1)) (e1 : (pc : Int) + o1 = ((pc + 7 : Nat) : Int)) (e2 : ((pc + 3 + 1 : Nat) : Int) + o2 = ((pc + 8 : Nat) : Int))
    (k : W p l e R s m args below meth c H locs cells slots Q (F0 m (pc + 8) ls (.int (nb_i (!decide (x = 0))) :: rest))) : W p l e R s m args below meth c H locs cells slots Q (F0 m pc ls (.int x :: rest)) := by
  refine lv_if_eq (tgt := pc + 7) hx hb d1 e1 (fun q => ?_) (fun q => ?_)
  · refine lv_iconst (v := nI 0) hx hb d4 (by decide) ?_
    rw [show nb_i (!decide (x = 0)) = nI 0 by simp [q, nb_i]] at k
    exact k
  · refine lv_iconst (v := nI 1) hx hb d2 (by decide) ?_
    refine lv_goto (tgt := pc + 8) hx hb d3 e2 ?_
    rw [show nb_i (!decide (x = 0)) = nI 1 by simp [q, nb_i]] at k
    exact k
end LWB
