theorem d_W_law_0 : decode code 0 = .ok (.new 8, 3) := by decide +kernel
theorem d_W_law_3 : decode code 3 = .ok (.dup, 1) := by decide +kernel
theorem d_W_law_4 : decode code 4 = .ok (.invokespecial 21, 3) := by decide +kernel
theorem d_W_law_7 : decode code 7 = .ok (.astore_n 1, 1) := by decide +kernel
theorem d_W_law_8 : decode code 8 = .ok (.new 22, 3) := by decide +kernel
theorem d_W_law_11 : decode code 11 = .ok (.dup, 1) := by decide +kernel
theorem d_W_law_12 : decode code 12 = .ok (.invokespecial 24, 3) := by decide +kernel
theorem d_W_law_15 : decode code 15 = .ok (.astore_n 2, 1) := by decide +kernel
theorem d_W_law_16 : decode code 16 = .ok (.iconst 1, 1) := by decide +kernel
theorem d_W_law_17 : decode code 17 = .ok (.newarray .long, 2) := by decide +kernel
theorem d_W_law_19 : decode code 19 = .ok (.astore_n 3, 1) := by decide +kernel
theorem d_W_law_20 : decode code 20 = .ok (.iconst 0, 1) := by decide +kernel
theorem d_W_law_21 : decode code 21 = .ok (.istore 4, 2) := by decide +kernel
theorem d_W_law_23 : decode code 23 = .ok (.iload 4, 2) := by decide +kernel
theorem d_W_law_25 : decode code 25 = .ok (.aload_n 0, 1) := by decide +kernel
theorem d_W_law_26 : decode code 26 = .ok (.arraylength, 1) := by decide +kernel
theorem d_W_law_27 : decode code 27 = .ok (.bipush 9, 2) := by decide +kernel
theorem d_W_law_29 : decode code 29 = .ok (.isub, 1) := by decide +kernel
theorem d_W_law_30 : decode code 30 = .ok (.if_icmp .gt 880, 3) := by decide +kernel
theorem d_W_law_33 : decode code 33 = .ok (.aload_n 0, 1) := by decide +kernel
theorem d_W_law_34 : decode code 34 = .ok (.iload 4, 2) := by decide +kernel
theorem d_W_law_36 : decode code 36 = .ok (.iaload, 1) := by decide +kernel
theorem d_W_law_37 : decode code 37 = .ok (.bipush 15, 2) := by decide +kernel
theorem d_W_law_39 : decode code 39 = .ok (.iand, 1) := by decide +kernel
theorem d_W_law_40 : decode code 40 = .ok (.tableswitch 864 0 13 #[72, 83, 172, 265, 290, 411, 546, 583, 627, 652, 689, 714, 814, 839], 72) := by decide +kernel
theorem d_W_law_112 : decode code 112 = .ok (.aload_n 1, 1) := by decide +kernel
theorem d_W_law_113 : decode code 113 = .ok (.invokevirtual 25, 3) := by decide +kernel
theorem d_W_law_116 : decode code 116 = .ok (.aload_n 2, 1) := by decide +kernel
theorem d_W_law_117 : decode code 117 = .ok (.invokevirtual 28, 3) := by decide +kernel
theorem d_W_law_120 : decode code 120 = .ok (.goto 784, 3) := by decide +kernel
theorem d_W_law_123 : decode code 123 = .ok (.aload_n 1, 1) := by decide +kernel
theorem d_W_law_124 : decode code 124 = .ok (.aload_n 0, 1) := by decide +kernel
theorem d_W_law_125 : decode code 125 = .ok (.iload 4, 2) := by decide +kernel
theorem d_W_law_127 : decode code 127 = .ok (.iconst 1, 1) := by decide +kernel
theorem d_W_law_128 : decode code 128 = .ok (.iadd, 1) := by decide +kernel
theorem d_W_law_129 : decode code 129 = .ok (.iaload, 1) := by decide +kernel
theorem d_W_law_130 : decode code 130 = .ok (.ifCond .eq 7, 3) := by decide +kernel
theorem d_W_law_133 : decode code 133 = .ok (.iconst 1, 1) := by decide +kernel
theorem d_W_law_134 : decode code 134 = .ok (.goto 4, 3) := by decide +kernel
theorem d_W_law_137 : decode code 137 = .ok (.iconst 0, 1) := by decide +kernel
theorem d_W_law_138 : decode code 138 = .ok (.aload_n 0, 1) := by decide +kernel
theorem d_W_law_139 : decode code 139 = .ok (.iload 4, 2) := by decide +kernel
theorem d_W_law_141 : decode code 141 = .ok (.iconst 2, 1) := by decide +kernel
theorem d_W_law_142 : decode code 142 = .ok (.iadd, 1) := by decide +kernel
theorem d_W_law_143 : decode code 143 = .ok (.iaload, 1) := by decide +kernel
theorem d_W_law_144 : decode code 144 = .ok (.aload_n 0, 1) := by decide +kernel
theorem d_W_law_145 : decode code 145 = .ok (.iload 4, 2) := by decide +kernel
theorem d_W_law_147 : decode code 147 = .ok (.iconst 3, 1) := by decide +kernel
theorem d_W_law_148 : decode code 148 = .ok (.iadd, 1) := by decide +kernel
theorem d_W_law_149 : decode code 149 = .ok (.iaload, 1) := by decide +kernel
theorem d_W_law_150 : decode code 150 = .ok (.aload_n 0, 1) := by decide +kernel
theorem d_W_law_151 : decode code 151 = .ok (.iload 4, 2) := by decide +kernel
theorem d_W_law_153 : decode code 153 = .ok (.iconst 4, 1) := by decide +kernel
theorem d_W_law_154 : decode code 154 = .ok (.iadd, 1) := by decide +kernel
theorem d_W_law_155 : decode code 155 = .ok (.iaload, 1) := by decide +kernel
theorem d_W_law_156 : decode code 156 = .ok (.aload_n 0, 1) := by decide +kernel
theorem d_W_law_157 : decode code 157 = .ok (.iload 4, 2) := by decide +kernel
theorem d_W_law_159 : decode code 159 = .ok (.iconst 5, 1) := by decide +kernel
theorem d_W_law_160 : decode code 160 = .ok (.iadd, 1) := by decide +kernel
theorem d_W_law_161 : decode code 161 = .ok (.iaload, 1) := by decide +kernel
theorem d_W_law_162 : decode code 162 = .ok (.invokevirtual 29, 3) := by decide +kernel
theorem d_W_law_165 : decode code 165 = .ok (.aload_n 2, 1) := by decide +kernel
theorem d_W_law_166 : decode code 166 = .ok (.aload_n 0, 1) := by decide +kernel
theorem d_W_law_167 : decode code 167 = .ok (.iload 4, 2) := by decide +kernel
theorem d_W_law_169 : decode code 169 = .ok (.iconst 1, 1) := by decide +kernel
theorem d_W_law_170 : decode code 170 = .ok (.iadd, 1) := by decide +kernel
theorem d_W_law_171 : decode code 171 = .ok (.iaload, 1) := by decide +kernel
theorem d_W_law_172 : decode code 172 = .ok (.ifCond .eq 7, 3) := by decide +kernel
theorem d_W_law_175 : decode code 175 = .ok (.iconst 1, 1) := by decide +kernel
theorem d_W_law_176 : decode code 176 = .ok (.goto 4, 3) := by decide +kernel
theorem d_W_law_179 : decode code 179 = .ok (.iconst 0, 1) := by decide +kernel
theorem d_W_law_180 : decode code 180 = .ok (.aload_n 0, 1) := by decide +kernel
theorem d_W_law_181 : decode code 181 = .ok (.iload 4, 2) := by decide +kernel
theorem d_W_law_183 : decode code 183 = .ok (.iconst 2, 1) := by decide +kernel
theorem d_W_law_184 : decode code 184 = .ok (.iadd, 1) := by decide +kernel
theorem d_W_law_185 : decode code 185 = .ok (.iaload, 1) := by decide +kernel
theorem d_W_law_186 : decode code 186 = .ok (.aload_n 0, 1) := by decide +kernel
theorem d_W_law_187 : decode code 187 = .ok (.iload 4, 2) := by decide +kernel
theorem d_W_law_189 : decode code 189 = .ok (.iconst 3, 1) := by decide +kernel
theorem d_W_law_190 : decode code 190 = .ok (.iadd, 1) := by decide +kernel
theorem d_W_law_191 : decode code 191 = .ok (.iaload, 1) := by decide +kernel
theorem d_W_law_192 : decode code 192 = .ok (.aload_n 0, 1) := by decide +kernel
theorem d_W_law_193 : decode code 193 = .ok (.iload 4, 2) := by decide +kernel
theorem d_W_law_195 : decode code 195 = .ok (.iconst 4, 1) := by decide +kernel
theorem d_W_law_196 : decode code 196 = .ok (.iadd, 1) := by decide +kernel
theorem d_W_law_197 : decode code 197 = .ok (.iaload, 1) := by decide +kernel
theorem d_W_law_198 : decode code 198 = .ok (.aload_n 0, 1) := by decide +kernel
theorem d_W_law_199 : decode code 199 = .ok (.iload 4, 2) := by decide +kernel
theorem d_W_law_201 : decode code 201 = .ok (.iconst 5, 1) := by decide +kernel
theorem d_W_law_202 : decode code 202 = .ok (.iadd, 1) := by decide +kernel
theorem d_W_law_203 : decode code 203 = .ok (.iaload, 1) := by decide +kernel
theorem d_W_law_204 : decode code 204 = .ok (.invokevirtual 33, 3) := by decide +kernel
theorem d_W_law_207 : decode code 207 = .ok (.if_icmp .eq 697, 3) := by decide +kernel
theorem d_W_law_210 : decode code 210 = .ok (.iconst 0, 1) := by decide +kernel
theorem d_W_law_211 : decode code 211 = .ok (.ireturn, 1) := by decide +kernel
theorem d_W_law_212 : decode code 212 = .ok (.aload_n 1, 1) := by decide +kernel
theorem d_W_law_213 : decode code 213 = .ok (.aload_n 0, 1) := by decide +kernel
theorem d_W_law_214 : decode code 214 = .ok (.iload 4, 2) := by decide +kernel
theorem d_W_law_216 : decode code 216 = .ok (.iconst 1, 1) := by decide +kernel
theorem d_W_law_217 : decode code 217 = .ok (.iadd, 1) := by decide +kernel
theorem d_W_law_218 : decode code 218 = .ok (.iaload, 1) := by decide +kernel
theorem d_W_law_219 : decode code 219 = .ok (.aload_n 0, 1) := by decide +kernel
theorem d_W_law_220 : decode code 220 = .ok (.iload 4, 2) := by decide +kernel
theorem d_W_law_222 : decode code 222 = .ok (.iconst 2, 1) := by decide +kernel
theorem d_W_law_223 : decode code 223 = .ok (.iadd, 1) := by decide +kernel
theorem d_W_law_224 : decode code 224 = .ok (.iaload, 1) := by decide +kernel
theorem d_W_law_225 : decode code 225 = .ok (.aload_n 0, 1) := by decide +kernel
theorem d_W_law_226 : decode code 226 = .ok (.iload 4, 2) := by decide +kernel
theorem d_W_law_228 : decode code 228 = .ok (.iconst 3, 1) := by decide +kernel
theorem d_W_law_229 : decode code 229 = .ok (.iadd, 1) := by decide +kernel
theorem d_W_law_230 : decode code 230 = .ok (.iaload, 1) := by decide +kernel
theorem d_W_law_231 : decode code 231 = .ok (.i2l, 1) := by decide +kernel
theorem d_W_law_232 : decode code 232 = .ok (.bipush 32, 2) := by decide +kernel
theorem d_W_law_234 : decode code 234 = .ok (.lshl, 1) := by decide +kernel
theorem d_W_law_235 : decode code 235 = .ok (.aload_n 0, 1) := by decide +kernel
theorem d_W_law_236 : decode code 236 = .ok (.iload 4, 2) := by decide +kernel
theorem d_W_law_238 : decode code 238 = .ok (.iconst 4, 1) := by decide +kernel
theorem d_W_law_239 : decode code 239 = .ok (.iadd, 1) := by decide +kernel
theorem d_W_law_240 : decode code 240 = .ok (.iaload, 1) := by decide +kernel
theorem d_W_law_241 : decode code 241 = .ok (.i2l, 1) := by decide +kernel
theorem d_W_law_242 : decode code 242 = .ok (.ldc2_w 34, 3) := by decide +kernel
theorem d_W_law_245 : decode code 245 = .ok (.land, 1) := by decide +kernel
theorem d_W_law_246 : decode code 246 = .ok (.lor, 1) := by decide +kernel
theorem d_W_law_247 : decode code 247 = .ok (.aload_n 0, 1) := by decide +kernel
theorem d_W_law_248 : decode code 248 = .ok (.iload 4, 2) := by decide +kernel
theorem d_W_law_250 : decode code 250 = .ok (.iconst 5, 1) := by decide +kernel
theorem d_W_law_251 : decode code 251 = .ok (.iadd, 1) := by decide +kernel
theorem d_W_law_252 : decode code 252 = .ok (.iaload, 1) := by decide +kernel
theorem d_W_law_253 : decode code 253 = .ok (.invokevirtual 36, 3) := by decide +kernel
theorem d_W_law_256 : decode code 256 = .ok (.aload_n 2, 1) := by decide +kernel
theorem d_W_law_257 : decode code 257 = .ok (.aload_n 0, 1) := by decide +kernel
theorem d_W_law_258 : decode code 258 = .ok (.iload 4, 2) := by decide +kernel
theorem d_W_law_260 : decode code 260 = .ok (.iconst 1, 1) := by decide +kernel
theorem d_W_law_261 : decode code 261 = .ok (.iadd, 1) := by decide +kernel
theorem d_W_law_262 : decode code 262 = .ok (.iaload, 1) := by decide +kernel
theorem d_W_law_263 : decode code 263 = .ok (.aload_n 0, 1) := by decide +kernel
theorem d_W_law_264 : decode code 264 = .ok (.iload 4, 2) := by decide +kernel
theorem d_W_law_266 : decode code 266 = .ok (.iconst 2, 1) := by decide +kernel
theorem d_W_law_267 : decode code 267 = .ok (.iadd, 1) := by decide +kernel
theorem d_W_law_268 : decode code 268 = .ok (.iaload, 1) := by decide +kernel
theorem d_W_law_269 : decode code 269 = .ok (.aload_n 0, 1) := by decide +kernel
theorem d_W_law_270 : decode code 270 = .ok (.iload 4, 2) := by decide +kernel
theorem d_W_law_272 : decode code 272 = .ok (.iconst 3, 1) := by decide +kernel
theorem d_W_law_273 : decode code 273 = .ok (.iadd, 1) := by decide +kernel
theorem d_W_law_274 : decode code 274 = .ok (.iaload, 1) := by decide +kernel
theorem d_W_law_275 : decode code 275 = .ok (.i2l, 1) := by decide +kernel
theorem d_W_law_276 : decode code 276 = .ok (.bipush 32, 2) := by decide +kernel
theorem d_W_law_278 : decode code 278 = .ok (.lshl, 1) := by decide +kernel
theorem d_W_law_279 : decode code 279 = .ok (.aload_n 0, 1) := by decide +kernel
theorem d_W_law_280 : decode code 280 = .ok (.iload 4, 2) := by decide +kernel
theorem d_W_law_282 : decode code 282 = .ok (.iconst 4, 1) := by decide +kernel
theorem d_W_law_283 : decode code 283 = .ok (.iadd, 1) := by decide +kernel
theorem d_W_law_284 : decode code 284 = .ok (.iaload, 1) := by decide +kernel
theorem d_W_law_285 : decode code 285 = .ok (.i2l, 1) := by decide +kernel
theorem d_W_law_286 : decode code 286 = .ok (.ldc2_w 34, 3) := by decide +kernel
theorem d_W_law_289 : decode code 289 = .ok (.land, 1) := by decide +kernel
theorem d_W_law_290 : decode code 290 = .ok (.lor, 1) := by decide +kernel
theorem d_W_law_291 : decode code 291 = .ok (.aload_n 0, 1) := by decide +kernel
theorem d_W_law_292 : decode code 292 = .ok (.iload 4, 2) := by decide +kernel
theorem d_W_law_294 : decode code 294 = .ok (.iconst 5, 1) := by decide +kernel
theorem d_W_law_295 : decode code 295 = .ok (.iadd, 1) := by decide +kernel
theorem d_W_law_296 : decode code 296 = .ok (.iaload, 1) := by decide +kernel
theorem d_W_law_297 : decode code 297 = .ok (.invokevirtual 40, 3) := by decide +kernel
theorem d_W_law_300 : decode code 300 = .ok (.if_icmp .eq 604, 3) := by decide +kernel
theorem d_W_law_303 : decode code 303 = .ok (.iconst 0, 1) := by decide +kernel
theorem d_W_law_304 : decode code 304 = .ok (.ireturn, 1) := by decide +kernel
theorem d_W_law_305 : decode code 305 = .ok (.aload_n 1, 1) := by decide +kernel
theorem d_W_law_306 : decode code 306 = .ok (.aload_n 0, 1) := by decide +kernel
theorem d_W_law_307 : decode code 307 = .ok (.iload 4, 2) := by decide +kernel
theorem d_W_law_309 : decode code 309 = .ok (.iconst 1, 1) := by decide +kernel
theorem d_W_law_310 : decode code 310 = .ok (.iadd, 1) := by decide +kernel
theorem d_W_law_311 : decode code 311 = .ok (.iaload, 1) := by decide +kernel
theorem d_W_law_312 : decode code 312 = .ok (.invokevirtual 41, 3) := by decide +kernel
theorem d_W_law_315 : decode code 315 = .ok (.aload_n 2, 1) := by decide +kernel
theorem d_W_law_316 : decode code 316 = .ok (.aload_n 0, 1) := by decide +kernel
theorem d_W_law_317 : decode code 317 = .ok (.iload 4, 2) := by decide +kernel
theorem d_W_law_319 : decode code 319 = .ok (.iconst 1, 1) := by decide +kernel
theorem d_W_law_320 : decode code 320 = .ok (.iadd, 1) := by decide +kernel
theorem d_W_law_321 : decode code 321 = .ok (.iaload, 1) := by decide +kernel
theorem d_W_law_322 : decode code 322 = .ok (.invokevirtual 45, 3) := by decide +kernel
theorem d_W_law_325 : decode code 325 = .ok (.if_icmp .eq 579, 3) := by decide +kernel
theorem d_W_law_328 : decode code 328 = .ok (.iconst 0, 1) := by decide +kernel
theorem d_W_law_329 : decode code 329 = .ok (.ireturn, 1) := by decide +kernel
theorem d_W_law_330 : decode code 330 = .ok (.aload_n 1, 1) := by decide +kernel
theorem d_W_law_331 : decode code 331 = .ok (.aload_n 0, 1) := by decide +kernel
theorem d_W_law_332 : decode code 332 = .ok (.iload 4, 2) := by decide +kernel
theorem d_W_law_334 : decode code 334 = .ok (.iconst 1, 1) := by decide +kernel
theorem d_W_law_335 : decode code 335 = .ok (.iadd, 1) := by decide +kernel
theorem d_W_law_336 : decode code 336 = .ok (.iaload, 1) := by decide +kernel
theorem d_W_law_337 : decode code 337 = .ok (.i2l, 1) := by decide +kernel
theorem d_W_law_338 : decode code 338 = .ok (.bipush 32, 2) := by decide +kernel
theorem d_W_law_340 : decode code 340 = .ok (.lshl, 1) := by decide +kernel
theorem d_W_law_341 : decode code 341 = .ok (.aload_n 0, 1) := by decide +kernel
theorem d_W_law_342 : decode code 342 = .ok (.iload 4, 2) := by decide +kernel
theorem d_W_law_344 : decode code 344 = .ok (.iconst 2, 1) := by decide +kernel
theorem d_W_law_345 : decode code 345 = .ok (.iadd, 1) := by decide +kernel
theorem d_W_law_346 : decode code 346 = .ok (.iaload, 1) := by decide +kernel
theorem d_W_law_347 : decode code 347 = .ok (.i2l, 1) := by decide +kernel
theorem d_W_law_348 : decode code 348 = .ok (.ldc2_w 34, 3) := by decide +kernel
theorem d_W_law_351 : decode code 351 = .ok (.land, 1) := by decide +kernel
theorem d_W_law_352 : decode code 352 = .ok (.lor, 1) := by decide +kernel
theorem d_W_law_353 : decode code 353 = .ok (.aload_n 0, 1) := by decide +kernel
theorem d_W_law_354 : decode code 354 = .ok (.iload 4, 2) := by decide +kernel
theorem d_W_law_356 : decode code 356 = .ok (.iconst 3, 1) := by decide +kernel
theorem d_W_law_357 : decode code 357 = .ok (.iadd, 1) := by decide +kernel
theorem d_W_law_358 : decode code 358 = .ok (.iaload, 1) := by decide +kernel
theorem d_W_law_359 : decode code 359 = .ok (.aload_n 0, 1) := by decide +kernel
theorem d_W_law_360 : decode code 360 = .ok (.iload 4, 2) := by decide +kernel
theorem d_W_law_362 : decode code 362 = .ok (.iconst 4, 1) := by decide +kernel
theorem d_W_law_363 : decode code 363 = .ok (.iadd, 1) := by decide +kernel
theorem d_W_law_364 : decode code 364 = .ok (.iaload, 1) := by decide +kernel
theorem d_W_law_365 : decode code 365 = .ok (.aload_n 0, 1) := by decide +kernel
theorem d_W_law_366 : decode code 366 = .ok (.iload 4, 2) := by decide +kernel
theorem d_W_law_368 : decode code 368 = .ok (.iconst 5, 1) := by decide +kernel
theorem d_W_law_369 : decode code 369 = .ok (.iadd, 1) := by decide +kernel
theorem d_W_law_370 : decode code 370 = .ok (.iaload, 1) := by decide +kernel
theorem d_W_law_371 : decode code 371 = .ok (.aload_n 0, 1) := by decide +kernel
theorem d_W_law_372 : decode code 372 = .ok (.iload 4, 2) := by decide +kernel
theorem d_W_law_374 : decode code 374 = .ok (.bipush 6, 2) := by decide +kernel
theorem d_W_law_376 : decode code 376 = .ok (.iadd, 1) := by decide +kernel
theorem d_W_law_377 : decode code 377 = .ok (.iaload, 1) := by decide +kernel
theorem d_W_law_378 : decode code 378 = .ok (.aload_n 0, 1) := by decide +kernel
theorem d_W_law_379 : decode code 379 = .ok (.iload 4, 2) := by decide +kernel
theorem d_W_law_381 : decode code 381 = .ok (.bipush 7, 2) := by decide +kernel
theorem d_W_law_383 : decode code 383 = .ok (.iadd, 1) := by decide +kernel
theorem d_W_law_384 : decode code 384 = .ok (.iaload, 1) := by decide +kernel
theorem d_W_law_385 : decode code 385 = .ok (.invokevirtual 46, 3) := by decide +kernel
theorem d_W_law_388 : decode code 388 = .ok (.aload_n 2, 1) := by decide +kernel
theorem d_W_law_389 : decode code 389 = .ok (.aload_n 0, 1) := by decide +kernel
theorem d_W_law_390 : decode code 390 = .ok (.iload 4, 2) := by decide +kernel
theorem d_W_law_392 : decode code 392 = .ok (.iconst 1, 1) := by decide +kernel
theorem d_W_law_393 : decode code 393 = .ok (.iadd, 1) := by decide +kernel
theorem d_W_law_394 : decode code 394 = .ok (.iaload, 1) := by decide +kernel
theorem d_W_law_395 : decode code 395 = .ok (.i2l, 1) := by decide +kernel
theorem d_W_law_396 : decode code 396 = .ok (.bipush 32, 2) := by decide +kernel
theorem d_W_law_398 : decode code 398 = .ok (.lshl, 1) := by decide +kernel
theorem d_W_law_399 : decode code 399 = .ok (.aload_n 0, 1) := by decide +kernel
theorem d_W_law_400 : decode code 400 = .ok (.iload 4, 2) := by decide +kernel
theorem d_W_law_402 : decode code 402 = .ok (.iconst 2, 1) := by decide +kernel
theorem d_W_law_403 : decode code 403 = .ok (.iadd, 1) := by decide +kernel
theorem d_W_law_404 : decode code 404 = .ok (.iaload, 1) := by decide +kernel
theorem d_W_law_405 : decode code 405 = .ok (.i2l, 1) := by decide +kernel
theorem d_W_law_406 : decode code 406 = .ok (.ldc2_w 34, 3) := by decide +kernel
theorem d_W_law_409 : decode code 409 = .ok (.land, 1) := by decide +kernel
theorem d_W_law_410 : decode code 410 = .ok (.lor, 1) := by decide +kernel
theorem d_W_law_411 : decode code 411 = .ok (.aload_n 0, 1) := by decide +kernel
theorem d_W_law_412 : decode code 412 = .ok (.iload 4, 2) := by decide +kernel
theorem d_W_law_414 : decode code 414 = .ok (.iconst 3, 1) := by decide +kernel
theorem d_W_law_415 : decode code 415 = .ok (.iadd, 1) := by decide +kernel
theorem d_W_law_416 : decode code 416 = .ok (.iaload, 1) := by decide +kernel
theorem d_W_law_417 : decode code 417 = .ok (.aload_n 0, 1) := by decide +kernel
theorem d_W_law_418 : decode code 418 = .ok (.iload 4, 2) := by decide +kernel
theorem d_W_law_420 : decode code 420 = .ok (.iconst 4, 1) := by decide +kernel
theorem d_W_law_421 : decode code 421 = .ok (.iadd, 1) := by decide +kernel
theorem d_W_law_422 : decode code 422 = .ok (.iaload, 1) := by decide +kernel
theorem d_W_law_423 : decode code 423 = .ok (.aload_n 0, 1) := by decide +kernel
theorem d_W_law_424 : decode code 424 = .ok (.iload 4, 2) := by decide +kernel
theorem d_W_law_426 : decode code 426 = .ok (.iconst 5, 1) := by decide +kernel
theorem d_W_law_427 : decode code 427 = .ok (.iadd, 1) := by decide +kernel
theorem d_W_law_428 : decode code 428 = .ok (.iaload, 1) := by decide +kernel
theorem d_W_law_429 : decode code 429 = .ok (.aload_n 0, 1) := by decide +kernel
theorem d_W_law_430 : decode code 430 = .ok (.iload 4, 2) := by decide +kernel
theorem d_W_law_432 : decode code 432 = .ok (.bipush 6, 2) := by decide +kernel
theorem d_W_law_434 : decode code 434 = .ok (.iadd, 1) := by decide +kernel
theorem d_W_law_435 : decode code 435 = .ok (.iaload, 1) := by decide +kernel
theorem d_W_law_436 : decode code 436 = .ok (.aload_n 0, 1) := by decide +kernel
theorem d_W_law_437 : decode code 437 = .ok (.iload 4, 2) := by decide +kernel
theorem d_W_law_439 : decode code 439 = .ok (.bipush 7, 2) := by decide +kernel
theorem d_W_law_441 : decode code 441 = .ok (.iadd, 1) := by decide +kernel
theorem d_W_law_442 : decode code 442 = .ok (.iaload, 1) := by decide +kernel
theorem d_W_law_443 : decode code 443 = .ok (.invokevirtual 50, 3) := by decide +kernel
theorem d_W_law_446 : decode code 446 = .ok (.if_icmp .eq 458, 3) := by decide +kernel
theorem d_W_law_449 : decode code 449 = .ok (.iconst 0, 1) := by decide +kernel
theorem d_W_law_450 : decode code 450 = .ok (.ireturn, 1) := by decide +kernel
theorem d_W_law_451 : decode code 451 = .ok (.aload_n 1, 1) := by decide +kernel
theorem d_W_law_452 : decode code 452 = .ok (.aload_n 0, 1) := by decide +kernel
theorem d_W_law_453 : decode code 453 = .ok (.iload 4, 2) := by decide +kernel
theorem d_W_law_455 : decode code 455 = .ok (.iconst 1, 1) := by decide +kernel
theorem d_W_law_456 : decode code 456 = .ok (.iadd, 1) := by decide +kernel
theorem d_W_law_457 : decode code 457 = .ok (.iaload, 1) := by decide +kernel
theorem d_W_law_458 : decode code 458 = .ok (.aload_n 0, 1) := by decide +kernel
theorem d_W_law_459 : decode code 459 = .ok (.iload 4, 2) := by decide +kernel
theorem d_W_law_461 : decode code 461 = .ok (.iconst 2, 1) := by decide +kernel
theorem d_W_law_462 : decode code 462 = .ok (.iadd, 1) := by decide +kernel
theorem d_W_law_463 : decode code 463 = .ok (.iaload, 1) := by decide +kernel
theorem d_W_law_464 : decode code 464 = .ok (.aload_n 0, 1) := by decide +kernel
theorem d_W_law_465 : decode code 465 = .ok (.iload 4, 2) := by decide +kernel
theorem d_W_law_467 : decode code 467 = .ok (.iconst 3, 1) := by decide +kernel
theorem d_W_law_468 : decode code 468 = .ok (.iadd, 1) := by decide +kernel
theorem d_W_law_469 : decode code 469 = .ok (.iaload, 1) := by decide +kernel
theorem d_W_law_470 : decode code 470 = .ok (.aload_n 0, 1) := by decide +kernel
theorem d_W_law_471 : decode code 471 = .ok (.iload 4, 2) := by decide +kernel
theorem d_W_law_473 : decode code 473 = .ok (.iconst 4, 1) := by decide +kernel
theorem d_W_law_474 : decode code 474 = .ok (.iadd, 1) := by decide +kernel
theorem d_W_law_475 : decode code 475 = .ok (.iaload, 1) := by decide +kernel
theorem d_W_law_476 : decode code 476 = .ok (.aload_n 0, 1) := by decide +kernel
theorem d_W_law_477 : decode code 477 = .ok (.iload 4, 2) := by decide +kernel
theorem d_W_law_479 : decode code 479 = .ok (.iconst 5, 1) := by decide +kernel
theorem d_W_law_480 : decode code 480 = .ok (.iadd, 1) := by decide +kernel
theorem d_W_law_481 : decode code 481 = .ok (.iaload, 1) := by decide +kernel
theorem d_W_law_482 : decode code 482 = .ok (.aload_n 0, 1) := by decide +kernel
theorem d_W_law_483 : decode code 483 = .ok (.iload 4, 2) := by decide +kernel
theorem d_W_law_485 : decode code 485 = .ok (.bipush 6, 2) := by decide +kernel
theorem d_W_law_487 : decode code 487 = .ok (.iadd, 1) := by decide +kernel
theorem d_W_law_488 : decode code 488 = .ok (.iaload, 1) := by decide +kernel
theorem d_W_law_489 : decode code 489 = .ok (.i2l, 1) := by decide +kernel
theorem d_W_law_490 : decode code 490 = .ok (.bipush 32, 2) := by decide +kernel
theorem d_W_law_492 : decode code 492 = .ok (.lshl, 1) := by decide +kernel
theorem d_W_law_493 : decode code 493 = .ok (.aload_n 0, 1) := by decide +kernel
theorem d_W_law_494 : decode code 494 = .ok (.iload 4, 2) := by decide +kernel
theorem d_W_law_496 : decode code 496 = .ok (.bipush 7, 2) := by decide +kernel
theorem d_W_law_498 : decode code 498 = .ok (.iadd, 1) := by decide +kernel
theorem d_W_law_499 : decode code 499 = .ok (.iaload, 1) := by decide +kernel
theorem d_W_law_500 : decode code 500 = .ok (.i2l, 1) := by decide +kernel
theorem d_W_law_501 : decode code 501 = .ok (.ldc2_w 34, 3) := by decide +kernel
theorem d_W_law_504 : decode code 504 = .ok (.land, 1) := by decide +kernel
theorem d_W_law_505 : decode code 505 = .ok (.lor, 1) := by decide +kernel
theorem d_W_law_506 : decode code 506 = .ok (.aload_n 0, 1) := by decide +kernel
theorem d_W_law_507 : decode code 507 = .ok (.iload 4, 2) := by decide +kernel
theorem d_W_law_509 : decode code 509 = .ok (.bipush 8, 2) := by decide +kernel
theorem d_W_law_511 : decode code 511 = .ok (.iadd, 1) := by decide +kernel
theorem d_W_law_512 : decode code 512 = .ok (.iaload, 1) := by decide +kernel
theorem d_W_law_513 : decode code 513 = .ok (.invokevirtual 51, 3) := by decide +kernel
theorem d_W_law_516 : decode code 516 = .ok (.aload_n 2, 1) := by decide +kernel
theorem d_W_law_517 : decode code 517 = .ok (.aload_n 0, 1) := by decide +kernel
theorem d_W_law_518 : decode code 518 = .ok (.iload 4, 2) := by decide +kernel
theorem d_W_law_520 : decode code 520 = .ok (.iconst 1, 1) := by decide +kernel
theorem d_W_law_521 : decode code 521 = .ok (.iadd, 1) := by decide +kernel
theorem d_W_law_522 : decode code 522 = .ok (.iaload, 1) := by decide +kernel
theorem d_W_law_523 : decode code 523 = .ok (.aload_n 0, 1) := by decide +kernel
theorem d_W_law_524 : decode code 524 = .ok (.iload 4, 2) := by decide +kernel
theorem d_W_law_526 : decode code 526 = .ok (.iconst 2, 1) := by decide +kernel
theorem d_W_law_527 : decode code 527 = .ok (.iadd, 1) := by decide +kernel
theorem d_W_law_528 : decode code 528 = .ok (.iaload, 1) := by decide +kernel
theorem d_W_law_529 : decode code 529 = .ok (.aload_n 0, 1) := by decide +kernel
theorem d_W_law_530 : decode code 530 = .ok (.iload 4, 2) := by decide +kernel
theorem d_W_law_532 : decode code 532 = .ok (.iconst 3, 1) := by decide +kernel
theorem d_W_law_533 : decode code 533 = .ok (.iadd, 1) := by decide +kernel
theorem d_W_law_534 : decode code 534 = .ok (.iaload, 1) := by decide +kernel
theorem d_W_law_535 : decode code 535 = .ok (.aload_n 0, 1) := by decide +kernel
theorem d_W_law_536 : decode code 536 = .ok (.iload 4, 2) := by decide +kernel
theorem d_W_law_538 : decode code 538 = .ok (.iconst 4, 1) := by decide +kernel
theorem d_W_law_539 : decode code 539 = .ok (.iadd, 1) := by decide +kernel
theorem d_W_law_540 : decode code 540 = .ok (.iaload, 1) := by decide +kernel
theorem d_W_law_541 : decode code 541 = .ok (.aload_n 0, 1) := by decide +kernel
theorem d_W_law_542 : decode code 542 = .ok (.iload 4, 2) := by decide +kernel
theorem d_W_law_544 : decode code 544 = .ok (.iconst 5, 1) := by decide +kernel
theorem d_W_law_545 : decode code 545 = .ok (.iadd, 1) := by decide +kernel
theorem d_W_law_546 : decode code 546 = .ok (.iaload, 1) := by decide +kernel
theorem d_W_law_547 : decode code 547 = .ok (.aload_n 0, 1) := by decide +kernel
theorem d_W_law_548 : decode code 548 = .ok (.iload 4, 2) := by decide +kernel
theorem d_W_law_550 : decode code 550 = .ok (.bipush 6, 2) := by decide +kernel
theorem d_W_law_552 : decode code 552 = .ok (.iadd, 1) := by decide +kernel
theorem d_W_law_553 : decode code 553 = .ok (.iaload, 1) := by decide +kernel
theorem d_W_law_554 : decode code 554 = .ok (.i2l, 1) := by decide +kernel
theorem d_W_law_555 : decode code 555 = .ok (.bipush 32, 2) := by decide +kernel
theorem d_W_law_557 : decode code 557 = .ok (.lshl, 1) := by decide +kernel
theorem d_W_law_558 : decode code 558 = .ok (.aload_n 0, 1) := by decide +kernel
theorem d_W_law_559 : decode code 559 = .ok (.iload 4, 2) := by decide +kernel
theorem d_W_law_561 : decode code 561 = .ok (.bipush 7, 2) := by decide +kernel
theorem d_W_law_563 : decode code 563 = .ok (.iadd, 1) := by decide +kernel
theorem d_W_law_564 : decode code 564 = .ok (.iaload, 1) := by decide +kernel
theorem d_W_law_565 : decode code 565 = .ok (.i2l, 1) := by decide +kernel
theorem d_W_law_566 : decode code 566 = .ok (.ldc2_w 34, 3) := by decide +kernel
theorem d_W_law_569 : decode code 569 = .ok (.land, 1) := by decide +kernel
theorem d_W_law_570 : decode code 570 = .ok (.lor, 1) := by decide +kernel
theorem d_W_law_571 : decode code 571 = .ok (.aload_n 0, 1) := by decide +kernel
theorem d_W_law_572 : decode code 572 = .ok (.iload 4, 2) := by decide +kernel
theorem d_W_law_574 : decode code 574 = .ok (.bipush 8, 2) := by decide +kernel
theorem d_W_law_576 : decode code 576 = .ok (.iadd, 1) := by decide +kernel
theorem d_W_law_577 : decode code 577 = .ok (.iaload, 1) := by decide +kernel
theorem d_W_law_578 : decode code 578 = .ok (.invokevirtual 55, 3) := by decide +kernel
theorem d_W_law_581 : decode code 581 = .ok (.if_icmp .eq 323, 3) := by decide +kernel
theorem d_W_law_584 : decode code 584 = .ok (.iconst 0, 1) := by decide +kernel
theorem d_W_law_585 : decode code 585 = .ok (.ireturn, 1) := by decide +kernel
theorem d_W_law_586 : decode code 586 = .ok (.aload_n 1, 1) := by decide +kernel
theorem d_W_law_587 : decode code 587 = .ok (.aload_n 0, 1) := by decide +kernel
theorem d_W_law_588 : decode code 588 = .ok (.iload 4, 2) := by decide +kernel
theorem d_W_law_590 : decode code 590 = .ok (.iconst 1, 1) := by decide +kernel
theorem d_W_law_591 : decode code 591 = .ok (.iadd, 1) := by decide +kernel
theorem d_W_law_592 : decode code 592 = .ok (.iaload, 1) := by decide +kernel
theorem d_W_law_593 : decode code 593 = .ok (.aload_n 0, 1) := by decide +kernel
theorem d_W_law_594 : decode code 594 = .ok (.iload 4, 2) := by decide +kernel
theorem d_W_law_596 : decode code 596 = .ok (.iconst 2, 1) := by decide +kernel
theorem d_W_law_597 : decode code 597 = .ok (.iadd, 1) := by decide +kernel
theorem d_W_law_598 : decode code 598 = .ok (.iaload, 1) := by decide +kernel
theorem d_W_law_599 : decode code 599 = .ok (.invokevirtual 56, 3) := by decide +kernel
theorem d_W_law_602 : decode code 602 = .ok (.aload_n 2, 1) := by decide +kernel
theorem d_W_law_603 : decode code 603 = .ok (.aload_n 0, 1) := by decide +kernel
theorem d_W_law_604 : decode code 604 = .ok (.iload 4, 2) := by decide +kernel
theorem d_W_law_606 : decode code 606 = .ok (.iconst 1, 1) := by decide +kernel
theorem d_W_law_607 : decode code 607 = .ok (.iadd, 1) := by decide +kernel
theorem d_W_law_608 : decode code 608 = .ok (.iaload, 1) := by decide +kernel
theorem d_W_law_609 : decode code 609 = .ok (.aload_n 0, 1) := by decide +kernel
theorem d_W_law_610 : decode code 610 = .ok (.iload 4, 2) := by decide +kernel
theorem d_W_law_612 : decode code 612 = .ok (.iconst 2, 1) := by decide +kernel
theorem d_W_law_613 : decode code 613 = .ok (.iadd, 1) := by decide +kernel
theorem d_W_law_614 : decode code 614 = .ok (.iaload, 1) := by decide +kernel
theorem d_W_law_615 : decode code 615 = .ok (.invokevirtual 60, 3) := by decide +kernel
theorem d_W_law_618 : decode code 618 = .ok (.if_icmp .eq 286, 3) := by decide +kernel
theorem d_W_law_621 : decode code 621 = .ok (.iconst 0, 1) := by decide +kernel
theorem d_W_law_622 : decode code 622 = .ok (.ireturn, 1) := by decide +kernel
theorem d_W_law_623 : decode code 623 = .ok (.aload_n 1, 1) := by decide +kernel
theorem d_W_law_624 : decode code 624 = .ok (.aload_n 3, 1) := by decide +kernel
theorem d_W_law_625 : decode code 625 = .ok (.invokestatic 61, 3) := by decide +kernel
theorem d_W_law_628 : decode code 628 = .ok (.istore 5, 2) := by decide +kernel
theorem d_W_law_630 : decode code 630 = .ok (.aload_n 2, 1) := by decide +kernel
theorem d_W_law_631 : decode code 631 = .ok (.invokevirtual 66, 3) := by decide +kernel
theorem d_W_law_634 : decode code 634 = .ok (.istore 6, 2) := by decide +kernel
theorem d_W_law_636 : decode code 636 = .ok (.aload_n 2, 1) := by decide +kernel
theorem d_W_law_637 : decode code 637 = .ok (.invokevirtual 67, 3) := by decide +kernel
theorem d_W_law_640 : decode code 640 = .ok (.iload 5, 2) := by decide +kernel
theorem d_W_law_642 : decode code 642 = .ok (.if_icmp .eq 5, 3) := by decide +kernel
theorem d_W_law_645 : decode code 645 = .ok (.iconst 0, 1) := by decide +kernel
theorem d_W_law_646 : decode code 646 = .ok (.ireturn, 1) := by decide +kernel
theorem d_W_law_647 : decode code 647 = .ok (.iload 5, 2) := by decide +kernel
theorem d_W_law_649 : decode code 649 = .ok (.ifCond .ne 15, 3) := by decide +kernel
theorem d_W_law_652 : decode code 652 = .ok (.aload_n 3, 1) := by decide +kernel
theorem d_W_law_653 : decode code 653 = .ok (.iconst 0, 1) := by decide +kernel
theorem d_W_law_654 : decode code 654 = .ok (.laload, 1) := by decide +kernel
theorem d_W_law_655 : decode code 655 = .ok (.iload 6, 2) := by decide +kernel
theorem d_W_law_657 : decode code 657 = .ok (.i2l, 1) := by decide +kernel
theorem d_W_law_658 : decode code 658 = .ok (.lcmp, 1) := by decide +kernel
theorem d_W_law_659 : decode code 659 = .ok (.ifCond .eq 5, 3) := by decide +kernel
theorem d_W_law_662 : decode code 662 = .ok (.iconst 0, 1) := by decide +kernel
theorem d_W_law_663 : decode code 663 = .ok (.ireturn, 1) := by decide +kernel
theorem d_W_law_664 : decode code 664 = .ok (.goto 240, 3) := by decide +kernel
theorem d_W_law_667 : decode code 667 = .ok (.aload_n 1, 1) := by decide +kernel
theorem d_W_law_668 : decode code 668 = .ok (.aload_n 0, 1) := by decide +kernel
theorem d_W_law_669 : decode code 669 = .ok (.iload 4, 2) := by decide +kernel
theorem d_W_law_671 : decode code 671 = .ok (.iconst 1, 1) := by decide +kernel
theorem d_W_law_672 : decode code 672 = .ok (.iadd, 1) := by decide +kernel
theorem d_W_law_673 : decode code 673 = .ok (.iaload, 1) := by decide +kernel
theorem d_W_law_674 : decode code 674 = .ok (.invokevirtual 70, 3) := by decide +kernel
theorem d_W_law_677 : decode code 677 = .ok (.aload_n 2, 1) := by decide +kernel
theorem d_W_law_678 : decode code 678 = .ok (.aload_n 0, 1) := by decide +kernel
theorem d_W_law_679 : decode code 679 = .ok (.iload 4, 2) := by decide +kernel
theorem d_W_law_681 : decode code 681 = .ok (.iconst 1, 1) := by decide +kernel
theorem d_W_law_682 : decode code 682 = .ok (.iadd, 1) := by decide +kernel
theorem d_W_law_683 : decode code 683 = .ok (.iaload, 1) := by decide +kernel
theorem d_W_law_684 : decode code 684 = .ok (.invokevirtual 74, 3) := by decide +kernel
theorem d_W_law_687 : decode code 687 = .ok (.if_icmp .eq 217, 3) := by decide +kernel
theorem d_W_law_690 : decode code 690 = .ok (.iconst 0, 1) := by decide +kernel
theorem d_W_law_691 : decode code 691 = .ok (.ireturn, 1) := by decide +kernel
theorem d_W_law_692 : decode code 692 = .ok (.aload_n 1, 1) := by decide +kernel
theorem d_W_law_693 : decode code 693 = .ok (.aload_n 0, 1) := by decide +kernel
theorem d_W_law_694 : decode code 694 = .ok (.iload 4, 2) := by decide +kernel
theorem d_W_law_696 : decode code 696 = .ok (.iconst 1, 1) := by decide +kernel
theorem d_W_law_697 : decode code 697 = .ok (.iadd, 1) := by decide +kernel
theorem d_W_law_698 : decode code 698 = .ok (.iaload, 1) := by decide +kernel
theorem d_W_law_699 : decode code 699 = .ok (.aload_n 0, 1) := by decide +kernel
theorem d_W_law_700 : decode code 700 = .ok (.iload 4, 2) := by decide +kernel
theorem d_W_law_702 : decode code 702 = .ok (.iconst 2, 1) := by decide +kernel
theorem d_W_law_703 : decode code 703 = .ok (.iadd, 1) := by decide +kernel
theorem d_W_law_704 : decode code 704 = .ok (.iaload, 1) := by decide +kernel
theorem d_W_law_705 : decode code 705 = .ok (.invokevirtual 75, 3) := by decide +kernel
theorem d_W_law_708 : decode code 708 = .ok (.aload_n 2, 1) := by decide +kernel
theorem d_W_law_709 : decode code 709 = .ok (.aload_n 0, 1) := by decide +kernel
theorem d_W_law_710 : decode code 710 = .ok (.iload 4, 2) := by decide +kernel
theorem d_W_law_712 : decode code 712 = .ok (.iconst 1, 1) := by decide +kernel
theorem d_W_law_713 : decode code 713 = .ok (.iadd, 1) := by decide +kernel
theorem d_W_law_714 : decode code 714 = .ok (.iaload, 1) := by decide +kernel
theorem d_W_law_715 : decode code 715 = .ok (.aload_n 0, 1) := by decide +kernel
theorem d_W_law_716 : decode code 716 = .ok (.iload 4, 2) := by decide +kernel
theorem d_W_law_718 : decode code 718 = .ok (.iconst 2, 1) := by decide +kernel
theorem d_W_law_719 : decode code 719 = .ok (.iadd, 1) := by decide +kernel
theorem d_W_law_720 : decode code 720 = .ok (.iaload, 1) := by decide +kernel
theorem d_W_law_721 : decode code 721 = .ok (.invokevirtual 79, 3) := by decide +kernel
theorem d_W_law_724 : decode code 724 = .ok (.if_icmp .eq 180, 3) := by decide +kernel
theorem d_W_law_727 : decode code 727 = .ok (.iconst 0, 1) := by decide +kernel
theorem d_W_law_728 : decode code 728 = .ok (.ireturn, 1) := by decide +kernel
theorem d_W_law_729 : decode code 729 = .ok (.aload_n 1, 1) := by decide +kernel
theorem d_W_law_730 : decode code 730 = .ok (.aload_n 0, 1) := by decide +kernel
theorem d_W_law_731 : decode code 731 = .ok (.iload 4, 2) := by decide +kernel
theorem d_W_law_733 : decode code 733 = .ok (.iconst 1, 1) := by decide +kernel
theorem d_W_law_734 : decode code 734 = .ok (.iadd, 1) := by decide +kernel
theorem d_W_law_735 : decode code 735 = .ok (.iaload, 1) := by decide +kernel
theorem d_W_law_736 : decode code 736 = .ok (.invokevirtual 80, 3) := by decide +kernel
theorem d_W_law_739 : decode code 739 = .ok (.aload_n 2, 1) := by decide +kernel
theorem d_W_law_740 : decode code 740 = .ok (.aload_n 0, 1) := by decide +kernel
theorem d_W_law_741 : decode code 741 = .ok (.iload 4, 2) := by decide +kernel
theorem d_W_law_743 : decode code 743 = .ok (.iconst 1, 1) := by decide +kernel
theorem d_W_law_744 : decode code 744 = .ok (.iadd, 1) := by decide +kernel
theorem d_W_law_745 : decode code 745 = .ok (.iaload, 1) := by decide +kernel
theorem d_W_law_746 : decode code 746 = .ok (.invokevirtual 83, 3) := by decide +kernel
theorem d_W_law_749 : decode code 749 = .ok (.if_icmp .eq 155, 3) := by decide +kernel
theorem d_W_law_752 : decode code 752 = .ok (.iconst 0, 1) := by decide +kernel
theorem d_W_law_753 : decode code 753 = .ok (.ireturn, 1) := by decide +kernel
theorem d_W_law_754 : decode code 754 = .ok (.aload_n 1, 1) := by decide +kernel
theorem d_W_law_755 : decode code 755 = .ok (.aload_n 0, 1) := by decide +kernel
theorem d_W_law_756 : decode code 756 = .ok (.iload 4, 2) := by decide +kernel
theorem d_W_law_758 : decode code 758 = .ok (.iconst 1, 1) := by decide +kernel
theorem d_W_law_759 : decode code 759 = .ok (.iadd, 1) := by decide +kernel
theorem d_W_law_760 : decode code 760 = .ok (.iaload, 1) := by decide +kernel
theorem d_W_law_761 : decode code 761 = .ok (.i2l, 1) := by decide +kernel
theorem d_W_law_762 : decode code 762 = .ok (.bipush 32, 2) := by decide +kernel
theorem d_W_law_764 : decode code 764 = .ok (.lshl, 1) := by decide +kernel
theorem d_W_law_765 : decode code 765 = .ok (.aload_n 0, 1) := by decide +kernel
theorem d_W_law_766 : decode code 766 = .ok (.iload 4, 2) := by decide +kernel
theorem d_W_law_768 : decode code 768 = .ok (.iconst 2, 1) := by decide +kernel
theorem d_W_law_769 : decode code 769 = .ok (.iadd, 1) := by decide +kernel
theorem d_W_law_770 : decode code 770 = .ok (.iaload, 1) := by decide +kernel
theorem d_W_law_771 : decode code 771 = .ok (.i2l, 1) := by decide +kernel
theorem d_W_law_772 : decode code 772 = .ok (.ldc2_w 34, 3) := by decide +kernel
theorem d_W_law_775 : decode code 775 = .ok (.land, 1) := by decide +kernel
theorem d_W_law_776 : decode code 776 = .ok (.lor, 1) := by decide +kernel
theorem d_W_law_777 : decode code 777 = .ok (.aload_n 0, 1) := by decide +kernel
theorem d_W_law_778 : decode code 778 = .ok (.iload 4, 2) := by decide +kernel
theorem d_W_law_780 : decode code 780 = .ok (.iconst 3, 1) := by decide +kernel
theorem d_W_law_781 : decode code 781 = .ok (.iadd, 1) := by decide +kernel
theorem d_W_law_782 : decode code 782 = .ok (.iaload, 1) := by decide +kernel
theorem d_W_law_783 : decode code 783 = .ok (.aload_n 3, 1) := by decide +kernel
theorem d_W_law_784 : decode code 784 = .ok (.invokestatic 84, 3) := by decide +kernel
theorem d_W_law_787 : decode code 787 = .ok (.istore 5, 2) := by decide +kernel
theorem d_W_law_789 : decode code 789 = .ok (.aload_n 2, 1) := by decide +kernel
theorem d_W_law_790 : decode code 790 = .ok (.aload_n 0, 1) := by decide +kernel
theorem d_W_law_791 : decode code 791 = .ok (.iload 4, 2) := by decide +kernel
theorem d_W_law_793 : decode code 793 = .ok (.iconst 1, 1) := by decide +kernel
theorem d_W_law_794 : decode code 794 = .ok (.iadd, 1) := by decide +kernel
theorem d_W_law_795 : decode code 795 = .ok (.iaload, 1) := by decide +kernel
theorem d_W_law_796 : decode code 796 = .ok (.i2l, 1) := by decide +kernel
theorem d_W_law_797 : decode code 797 = .ok (.bipush 32, 2) := by decide +kernel
theorem d_W_law_799 : decode code 799 = .ok (.lshl, 1) := by decide +kernel
theorem d_W_law_800 : decode code 800 = .ok (.aload_n 0, 1) := by decide +kernel
theorem d_W_law_801 : decode code 801 = .ok (.iload 4, 2) := by decide +kernel
theorem d_W_law_803 : decode code 803 = .ok (.iconst 2, 1) := by decide +kernel
theorem d_W_law_804 : decode code 804 = .ok (.iadd, 1) := by decide +kernel
theorem d_W_law_805 : decode code 805 = .ok (.iaload, 1) := by decide +kernel
theorem d_W_law_806 : decode code 806 = .ok (.i2l, 1) := by decide +kernel
theorem d_W_law_807 : decode code 807 = .ok (.ldc2_w 34, 3) := by decide +kernel
theorem d_W_law_810 : decode code 810 = .ok (.land, 1) := by decide +kernel
theorem d_W_law_811 : decode code 811 = .ok (.lor, 1) := by decide +kernel
theorem d_W_law_812 : decode code 812 = .ok (.aload_n 0, 1) := by decide +kernel
theorem d_W_law_813 : decode code 813 = .ok (.iload 4, 2) := by decide +kernel
theorem d_W_law_815 : decode code 815 = .ok (.iconst 3, 1) := by decide +kernel
theorem d_W_law_816 : decode code 816 = .ok (.iadd, 1) := by decide +kernel
theorem d_W_law_817 : decode code 817 = .ok (.iaload, 1) := by decide +kernel
theorem d_W_law_818 : decode code 818 = .ok (.invokevirtual 87, 3) := by decide +kernel
theorem d_W_law_821 : decode code 821 = .ok (.istore 6, 2) := by decide +kernel
theorem d_W_law_823 : decode code 823 = .ok (.aload_n 2, 1) := by decide +kernel
theorem d_W_law_824 : decode code 824 = .ok (.invokevirtual 67, 3) := by decide +kernel
theorem d_W_law_827 : decode code 827 = .ok (.iload 5, 2) := by decide +kernel
theorem d_W_law_829 : decode code 829 = .ok (.if_icmp .eq 5, 3) := by decide +kernel
theorem d_W_law_832 : decode code 832 = .ok (.iconst 0, 1) := by decide +kernel
theorem d_W_law_833 : decode code 833 = .ok (.ireturn, 1) := by decide +kernel
theorem d_W_law_834 : decode code 834 = .ok (.iload 5, 2) := by decide +kernel
theorem d_W_law_836 : decode code 836 = .ok (.ifCond .ne 15, 3) := by decide +kernel
theorem d_W_law_839 : decode code 839 = .ok (.aload_n 3, 1) := by decide +kernel
theorem d_W_law_840 : decode code 840 = .ok (.iconst 0, 1) := by decide +kernel
theorem d_W_law_841 : decode code 841 = .ok (.laload, 1) := by decide +kernel
theorem d_W_law_842 : decode code 842 = .ok (.iload 6, 2) := by decide +kernel
theorem d_W_law_844 : decode code 844 = .ok (.i2l, 1) := by decide +kernel
theorem d_W_law_845 : decode code 845 = .ok (.lcmp, 1) := by decide +kernel
theorem d_W_law_846 : decode code 846 = .ok (.ifCond .eq 5, 3) := by decide +kernel
theorem d_W_law_849 : decode code 849 = .ok (.iconst 0, 1) := by decide +kernel
theorem d_W_law_850 : decode code 850 = .ok (.ireturn, 1) := by decide +kernel
theorem d_W_law_851 : decode code 851 = .ok (.goto 53, 3) := by decide +kernel
theorem d_W_law_854 : decode code 854 = .ok (.aload_n 1, 1) := by decide +kernel
theorem d_W_law_855 : decode code 855 = .ok (.aload_n 0, 1) := by decide +kernel
theorem d_W_law_856 : decode code 856 = .ok (.iload 4, 2) := by decide +kernel
theorem d_W_law_858 : decode code 858 = .ok (.iconst 1, 1) := by decide +kernel
theorem d_W_law_859 : decode code 859 = .ok (.iadd, 1) := by decide +kernel
theorem d_W_law_860 : decode code 860 = .ok (.iaload, 1) := by decide +kernel
theorem d_W_law_861 : decode code 861 = .ok (.invokevirtual 88, 3) := by decide +kernel
theorem d_W_law_864 : decode code 864 = .ok (.aload_n 2, 1) := by decide +kernel
theorem d_W_law_865 : decode code 865 = .ok (.aload_n 0, 1) := by decide +kernel
theorem d_W_law_866 : decode code 866 = .ok (.iload 4, 2) := by decide +kernel
theorem d_W_law_868 : decode code 868 = .ok (.iconst 1, 1) := by decide +kernel
theorem d_W_law_869 : decode code 869 = .ok (.iadd, 1) := by decide +kernel
theorem d_W_law_870 : decode code 870 = .ok (.iaload, 1) := by decide +kernel
theorem d_W_law_871 : decode code 871 = .ok (.invokevirtual 91, 3) := by decide +kernel
theorem d_W_law_874 : decode code 874 = .ok (.if_icmp .eq 30, 3) := by decide +kernel
theorem d_W_law_877 : decode code 877 = .ok (.iconst 0, 1) := by decide +kernel
theorem d_W_law_878 : decode code 878 = .ok (.ireturn, 1) := by decide +kernel
theorem d_W_law_879 : decode code 879 = .ok (.aload_n 1, 1) := by decide +kernel
theorem d_W_law_880 : decode code 880 = .ok (.aload_n 0, 1) := by decide +kernel
theorem d_W_law_881 : decode code 881 = .ok (.iload 4, 2) := by decide +kernel
theorem d_W_law_883 : decode code 883 = .ok (.iconst 1, 1) := by decide +kernel
theorem d_W_law_884 : decode code 884 = .ok (.iadd, 1) := by decide +kernel
theorem d_W_law_885 : decode code 885 = .ok (.iaload, 1) := by decide +kernel
theorem d_W_law_886 : decode code 886 = .ok (.invokevirtual 92, 3) := by decide +kernel
theorem d_W_law_889 : decode code 889 = .ok (.aload_n 2, 1) := by decide +kernel
theorem d_W_law_890 : decode code 890 = .ok (.aload_n 0, 1) := by decide +kernel
theorem d_W_law_891 : decode code 891 = .ok (.iload 4, 2) := by decide +kernel
theorem d_W_law_893 : decode code 893 = .ok (.iconst 1, 1) := by decide +kernel
theorem d_W_law_894 : decode code 894 = .ok (.iadd, 1) := by decide +kernel
theorem d_W_law_895 : decode code 895 = .ok (.iaload, 1) := by decide +kernel
theorem d_W_law_896 : decode code 896 = .ok (.invokevirtual 95, 3) := by decide +kernel
theorem d_W_law_899 : decode code 899 = .ok (.if_icmp .eq 5, 3) := by decide +kernel
theorem d_W_law_902 : decode code 902 = .ok (.iconst 0, 1) := by decide +kernel
theorem d_W_law_903 : decode code 903 = .ok (.ireturn, 1) := by decide +kernel
theorem d_W_law_904 : decode code 904 = .ok (.iinc 4 9, 3) := by decide +kernel
theorem d_W_law_907 : decode code 907 = .ok (.goto (-884), 3) := by decide +kernel
theorem d_W_law_910 : decode code 910 = .ok (.iconst 1, 1) := by decide +kernel
theorem d_W_law_911 : decode code 911 = .ok (.ireturn, 1) := by decide +kernel
