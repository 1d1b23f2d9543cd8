/-! decode rows of the law -/
theorem d_law_0 : decode code 0 = .ok (.new 8, 3) := by decide +kernel
theorem d_law_3 : decode code 3 = .ok (.dup, 1) := by decide +kernel
theorem d_law_4 : decode code 4 = .ok (.invokespecial 15, 3) := by decide +kernel
theorem d_law_7 : decode code 7 = .ok (.astore_n 1, 1) := by decide +kernel
theorem d_law_8 : decode code 8 = .ok (.new 16, 3) := by decide +kernel
theorem d_law_11 : decode code 11 = .ok (.dup, 1) := by decide +kernel
theorem d_law_12 : decode code 12 = .ok (.invokespecial 18, 3) := by decide +kernel
theorem d_law_15 : decode code 15 = .ok (.astore_n 2, 1) := by decide +kernel
theorem d_law_16 : decode code 16 = .ok (.iconst 1, 1) := by decide +kernel
theorem d_law_17 : decode code 17 = .ok (.newarray .long, 2) := by decide +kernel
theorem d_law_19 : decode code 19 = .ok (.astore_n 3, 1) := by decide +kernel
theorem d_law_20 : decode code 20 = .ok (.iconst 0, 1) := by decide +kernel
theorem d_law_21 : decode code 21 = .ok (.istore 4, 2) := by decide +kernel
theorem d_law_23 : decode code 23 = .ok (.iload 4, 2) := by decide +kernel
theorem d_law_25 : decode code 25 = .ok (.aload_n 0, 1) := by decide +kernel
theorem d_law_26 : decode code 26 = .ok (.arraylength, 1) := by decide +kernel
theorem d_law_27 : decode code 27 = .ok (.iconst 4, 1) := by decide +kernel
theorem d_law_28 : decode code 28 = .ok (.isub, 1) := by decide +kernel
theorem d_law_29 : decode code 29 = .ok (.if_icmp .gt 572, 3) := by decide +kernel
theorem d_law_32 : decode code 32 = .ok (.aload_n 0, 1) := by decide +kernel
theorem d_law_33 : decode code 33 = .ok (.iload 4, 2) := by decide +kernel
theorem d_law_35 : decode code 35 = .ok (.iaload, 1) := by decide +kernel
theorem d_law_36 : decode code 36 = .ok (.bipush 15, 2) := by decide +kernel
theorem d_law_38 : decode code 38 = .ok (.iand, 1) := by decide +kernel
theorem d_law_39 : decode code 39 = .ok (.tableswitch 556 0 13 #[69, 92, 105, 154, 191, 228, 253, 290, 315, 352, 389, 426, 451, 476], 69) := by decide +kernel
theorem d_law_108 : decode code 108 = .ok (.aload_n 1, 1) := by decide +kernel
theorem d_law_109 : decode code 109 = .ok (.aload_n 0, 1) := by decide +kernel
theorem d_law_110 : decode code 110 = .ok (.iload 4, 2) := by decide +kernel
theorem d_law_112 : decode code 112 = .ok (.iconst 1, 1) := by decide +kernel
theorem d_law_113 : decode code 113 = .ok (.iadd, 1) := by decide +kernel
theorem d_law_114 : decode code 114 = .ok (.iaload, 1) := by decide +kernel
theorem d_law_115 : decode code 115 = .ok (.invokevirtual 19, 3) := by decide +kernel
theorem d_law_118 : decode code 118 = .ok (.aload_n 2, 1) := by decide +kernel
theorem d_law_119 : decode code 119 = .ok (.aload_n 0, 1) := by decide +kernel
theorem d_law_120 : decode code 120 = .ok (.iload 4, 2) := by decide +kernel
theorem d_law_122 : decode code 122 = .ok (.iconst 1, 1) := by decide +kernel
theorem d_law_123 : decode code 123 = .ok (.iadd, 1) := by decide +kernel
theorem d_law_124 : decode code 124 = .ok (.iaload, 1) := by decide +kernel
theorem d_law_125 : decode code 125 = .ok (.invokevirtual 23, 3) := by decide +kernel
theorem d_law_128 : decode code 128 = .ok (.goto 467, 3) := by decide +kernel
theorem d_law_131 : decode code 131 = .ok (.aload_n 1, 1) := by decide +kernel
theorem d_law_132 : decode code 132 = .ok (.invokevirtual 24, 3) := by decide +kernel
theorem d_law_135 : decode code 135 = .ok (.pop, 1) := by decide +kernel
theorem d_law_136 : decode code 136 = .ok (.aload_n 2, 1) := by decide +kernel
theorem d_law_137 : decode code 137 = .ok (.invokevirtual 28, 3) := by decide +kernel
theorem d_law_140 : decode code 140 = .ok (.pop, 1) := by decide +kernel
theorem d_law_141 : decode code 141 = .ok (.goto 454, 3) := by decide +kernel
theorem d_law_144 : decode code 144 = .ok (.aload_n 1, 1) := by decide +kernel
theorem d_law_145 : decode code 145 = .ok (.aload_n 0, 1) := by decide +kernel
theorem d_law_146 : decode code 146 = .ok (.iload 4, 2) := by decide +kernel
theorem d_law_148 : decode code 148 = .ok (.iconst 1, 1) := by decide +kernel
theorem d_law_149 : decode code 149 = .ok (.iadd, 1) := by decide +kernel
theorem d_law_150 : decode code 150 = .ok (.iaload, 1) := by decide +kernel
theorem d_law_151 : decode code 151 = .ok (.aload_n 0, 1) := by decide +kernel
theorem d_law_152 : decode code 152 = .ok (.iload 4, 2) := by decide +kernel
theorem d_law_154 : decode code 154 = .ok (.iconst 2, 1) := by decide +kernel
theorem d_law_155 : decode code 155 = .ok (.iadd, 1) := by decide +kernel
theorem d_law_156 : decode code 156 = .ok (.iaload, 1) := by decide +kernel
theorem d_law_157 : decode code 157 = .ok (.aload_n 0, 1) := by decide +kernel
theorem d_law_158 : decode code 158 = .ok (.iload 4, 2) := by decide +kernel
theorem d_law_160 : decode code 160 = .ok (.iconst 3, 1) := by decide +kernel
theorem d_law_161 : decode code 161 = .ok (.iadd, 1) := by decide +kernel
theorem d_law_162 : decode code 162 = .ok (.iaload, 1) := by decide +kernel
theorem d_law_163 : decode code 163 = .ok (.invokevirtual 29, 3) := by decide +kernel
theorem d_law_166 : decode code 166 = .ok (.pop, 1) := by decide +kernel
theorem d_law_167 : decode code 167 = .ok (.aload_n 2, 1) := by decide +kernel
theorem d_law_168 : decode code 168 = .ok (.aload_n 0, 1) := by decide +kernel
theorem d_law_169 : decode code 169 = .ok (.iload 4, 2) := by decide +kernel
theorem d_law_171 : decode code 171 = .ok (.iconst 1, 1) := by decide +kernel
theorem d_law_172 : decode code 172 = .ok (.iadd, 1) := by decide +kernel
theorem d_law_173 : decode code 173 = .ok (.iaload, 1) := by decide +kernel
theorem d_law_174 : decode code 174 = .ok (.aload_n 0, 1) := by decide +kernel
theorem d_law_175 : decode code 175 = .ok (.iload 4, 2) := by decide +kernel
theorem d_law_177 : decode code 177 = .ok (.iconst 2, 1) := by decide +kernel
theorem d_law_178 : decode code 178 = .ok (.iadd, 1) := by decide +kernel
theorem d_law_179 : decode code 179 = .ok (.iaload, 1) := by decide +kernel
theorem d_law_180 : decode code 180 = .ok (.aload_n 0, 1) := by decide +kernel
theorem d_law_181 : decode code 181 = .ok (.iload 4, 2) := by decide +kernel
theorem d_law_183 : decode code 183 = .ok (.iconst 3, 1) := by decide +kernel
theorem d_law_184 : decode code 184 = .ok (.iadd, 1) := by decide +kernel
theorem d_law_185 : decode code 185 = .ok (.iaload, 1) := by decide +kernel
theorem d_law_186 : decode code 186 = .ok (.invokevirtual 32, 3) := by decide +kernel
theorem d_law_189 : decode code 189 = .ok (.pop, 1) := by decide +kernel
theorem d_law_190 : decode code 190 = .ok (.goto 405, 3) := by decide +kernel
theorem d_law_193 : decode code 193 = .ok (.aload_n 1, 1) := by decide +kernel
theorem d_law_194 : decode code 194 = .ok (.aload_n 0, 1) := by decide +kernel
theorem d_law_195 : decode code 195 = .ok (.iload 4, 2) := by decide +kernel
theorem d_law_197 : decode code 197 = .ok (.iconst 1, 1) := by decide +kernel
theorem d_law_198 : decode code 198 = .ok (.iadd, 1) := by decide +kernel
theorem d_law_199 : decode code 199 = .ok (.iaload, 1) := by decide +kernel
theorem d_law_200 : decode code 200 = .ok (.aload_n 0, 1) := by decide +kernel
theorem d_law_201 : decode code 201 = .ok (.iload 4, 2) := by decide +kernel
theorem d_law_203 : decode code 203 = .ok (.iconst 2, 1) := by decide +kernel
theorem d_law_204 : decode code 204 = .ok (.iadd, 1) := by decide +kernel
theorem d_law_205 : decode code 205 = .ok (.iaload, 1) := by decide +kernel
theorem d_law_206 : decode code 206 = .ok (.invokevirtual 33, 3) := by decide +kernel
theorem d_law_209 : decode code 209 = .ok (.pop, 1) := by decide +kernel
theorem d_law_210 : decode code 210 = .ok (.aload_n 2, 1) := by decide +kernel
theorem d_law_211 : decode code 211 = .ok (.aload_n 0, 1) := by decide +kernel
theorem d_law_212 : decode code 212 = .ok (.iload 4, 2) := by decide +kernel
theorem d_law_214 : decode code 214 = .ok (.iconst 1, 1) := by decide +kernel
theorem d_law_215 : decode code 215 = .ok (.iadd, 1) := by decide +kernel
theorem d_law_216 : decode code 216 = .ok (.iaload, 1) := by decide +kernel
theorem d_law_217 : decode code 217 = .ok (.aload_n 0, 1) := by decide +kernel
theorem d_law_218 : decode code 218 = .ok (.iload 4, 2) := by decide +kernel
theorem d_law_220 : decode code 220 = .ok (.iconst 2, 1) := by decide +kernel
theorem d_law_221 : decode code 221 = .ok (.iadd, 1) := by decide +kernel
theorem d_law_222 : decode code 222 = .ok (.iaload, 1) := by decide +kernel
theorem d_law_223 : decode code 223 = .ok (.invokevirtual 37, 3) := by decide +kernel
theorem d_law_226 : decode code 226 = .ok (.pop, 1) := by decide +kernel
theorem d_law_227 : decode code 227 = .ok (.goto 368, 3) := by decide +kernel
theorem d_law_230 : decode code 230 = .ok (.aload_n 1, 1) := by decide +kernel
theorem d_law_231 : decode code 231 = .ok (.aload_n 0, 1) := by decide +kernel
theorem d_law_232 : decode code 232 = .ok (.iload 4, 2) := by decide +kernel
theorem d_law_234 : decode code 234 = .ok (.iconst 1, 1) := by decide +kernel
theorem d_law_235 : decode code 235 = .ok (.iadd, 1) := by decide +kernel
theorem d_law_236 : decode code 236 = .ok (.iaload, 1) := by decide +kernel
theorem d_law_237 : decode code 237 = .ok (.aload_n 0, 1) := by decide +kernel
theorem d_law_238 : decode code 238 = .ok (.iload 4, 2) := by decide +kernel
theorem d_law_240 : decode code 240 = .ok (.iconst 2, 1) := by decide +kernel
theorem d_law_241 : decode code 241 = .ok (.iadd, 1) := by decide +kernel
theorem d_law_242 : decode code 242 = .ok (.iaload, 1) := by decide +kernel
theorem d_law_243 : decode code 243 = .ok (.invokevirtual 38, 3) := by decide +kernel
theorem d_law_246 : decode code 246 = .ok (.pop, 1) := by decide +kernel
theorem d_law_247 : decode code 247 = .ok (.aload_n 2, 1) := by decide +kernel
theorem d_law_248 : decode code 248 = .ok (.aload_n 0, 1) := by decide +kernel
theorem d_law_249 : decode code 249 = .ok (.iload 4, 2) := by decide +kernel
theorem d_law_251 : decode code 251 = .ok (.iconst 1, 1) := by decide +kernel
theorem d_law_252 : decode code 252 = .ok (.iadd, 1) := by decide +kernel
theorem d_law_253 : decode code 253 = .ok (.iaload, 1) := by decide +kernel
theorem d_law_254 : decode code 254 = .ok (.aload_n 0, 1) := by decide +kernel
theorem d_law_255 : decode code 255 = .ok (.iload 4, 2) := by decide +kernel
theorem d_law_257 : decode code 257 = .ok (.iconst 2, 1) := by decide +kernel
theorem d_law_258 : decode code 258 = .ok (.iadd, 1) := by decide +kernel
theorem d_law_259 : decode code 259 = .ok (.iaload, 1) := by decide +kernel
theorem d_law_260 : decode code 260 = .ok (.invokevirtual 41, 3) := by decide +kernel
theorem d_law_263 : decode code 263 = .ok (.pop, 1) := by decide +kernel
theorem d_law_264 : decode code 264 = .ok (.goto 331, 3) := by decide +kernel
theorem d_law_267 : decode code 267 = .ok (.aload_n 1, 1) := by decide +kernel
theorem d_law_268 : decode code 268 = .ok (.aload_n 0, 1) := by decide +kernel
theorem d_law_269 : decode code 269 = .ok (.iload 4, 2) := by decide +kernel
theorem d_law_271 : decode code 271 = .ok (.iconst 1, 1) := by decide +kernel
theorem d_law_272 : decode code 272 = .ok (.iadd, 1) := by decide +kernel
theorem d_law_273 : decode code 273 = .ok (.iaload, 1) := by decide +kernel
theorem d_law_274 : decode code 274 = .ok (.invokevirtual 42, 3) := by decide +kernel
theorem d_law_277 : decode code 277 = .ok (.pop2, 1) := by decide +kernel
theorem d_law_278 : decode code 278 = .ok (.aload_n 2, 1) := by decide +kernel
theorem d_law_279 : decode code 279 = .ok (.aload_n 0, 1) := by decide +kernel
theorem d_law_280 : decode code 280 = .ok (.iload 4, 2) := by decide +kernel
theorem d_law_282 : decode code 282 = .ok (.iconst 1, 1) := by decide +kernel
theorem d_law_283 : decode code 283 = .ok (.iadd, 1) := by decide +kernel
theorem d_law_284 : decode code 284 = .ok (.iaload, 1) := by decide +kernel
theorem d_law_285 : decode code 285 = .ok (.invokevirtual 46, 3) := by decide +kernel
theorem d_law_288 : decode code 288 = .ok (.pop2, 1) := by decide +kernel
theorem d_law_289 : decode code 289 = .ok (.goto 306, 3) := by decide +kernel
theorem d_law_292 : decode code 292 = .ok (.aload_n 1, 1) := by decide +kernel
theorem d_law_293 : decode code 293 = .ok (.aload_n 0, 1) := by decide +kernel
theorem d_law_294 : decode code 294 = .ok (.iload 4, 2) := by decide +kernel
theorem d_law_296 : decode code 296 = .ok (.iconst 1, 1) := by decide +kernel
theorem d_law_297 : decode code 297 = .ok (.iadd, 1) := by decide +kernel
theorem d_law_298 : decode code 298 = .ok (.iaload, 1) := by decide +kernel
theorem d_law_299 : decode code 299 = .ok (.aload_n 0, 1) := by decide +kernel
theorem d_law_300 : decode code 300 = .ok (.iload 4, 2) := by decide +kernel
theorem d_law_302 : decode code 302 = .ok (.iconst 2, 1) := by decide +kernel
theorem d_law_303 : decode code 303 = .ok (.iadd, 1) := by decide +kernel
theorem d_law_304 : decode code 304 = .ok (.iaload, 1) := by decide +kernel
theorem d_law_305 : decode code 305 = .ok (.invokevirtual 47, 3) := by decide +kernel
theorem d_law_308 : decode code 308 = .ok (.pop, 1) := by decide +kernel
theorem d_law_309 : decode code 309 = .ok (.aload_n 2, 1) := by decide +kernel
theorem d_law_310 : decode code 310 = .ok (.aload_n 0, 1) := by decide +kernel
theorem d_law_311 : decode code 311 = .ok (.iload 4, 2) := by decide +kernel
theorem d_law_313 : decode code 313 = .ok (.iconst 1, 1) := by decide +kernel
theorem d_law_314 : decode code 314 = .ok (.iadd, 1) := by decide +kernel
theorem d_law_315 : decode code 315 = .ok (.iaload, 1) := by decide +kernel
theorem d_law_316 : decode code 316 = .ok (.aload_n 0, 1) := by decide +kernel
theorem d_law_317 : decode code 317 = .ok (.iload 4, 2) := by decide +kernel
theorem d_law_319 : decode code 319 = .ok (.iconst 2, 1) := by decide +kernel
theorem d_law_320 : decode code 320 = .ok (.iadd, 1) := by decide +kernel
theorem d_law_321 : decode code 321 = .ok (.iaload, 1) := by decide +kernel
theorem d_law_322 : decode code 322 = .ok (.invokevirtual 50, 3) := by decide +kernel
theorem d_law_325 : decode code 325 = .ok (.pop, 1) := by decide +kernel
theorem d_law_326 : decode code 326 = .ok (.goto 269, 3) := by decide +kernel
theorem d_law_329 : decode code 329 = .ok (.aload_n 1, 1) := by decide +kernel
theorem d_law_330 : decode code 330 = .ok (.aload_n 0, 1) := by decide +kernel
theorem d_law_331 : decode code 331 = .ok (.iload 4, 2) := by decide +kernel
theorem d_law_333 : decode code 333 = .ok (.iconst 1, 1) := by decide +kernel
theorem d_law_334 : decode code 334 = .ok (.iadd, 1) := by decide +kernel
theorem d_law_335 : decode code 335 = .ok (.iaload, 1) := by decide +kernel
theorem d_law_336 : decode code 336 = .ok (.invokevirtual 51, 3) := by decide +kernel
theorem d_law_339 : decode code 339 = .ok (.pop, 1) := by decide +kernel
theorem d_law_340 : decode code 340 = .ok (.aload_n 2, 1) := by decide +kernel
theorem d_law_341 : decode code 341 = .ok (.aload_n 0, 1) := by decide +kernel
theorem d_law_342 : decode code 342 = .ok (.iload 4, 2) := by decide +kernel
theorem d_law_344 : decode code 344 = .ok (.iconst 1, 1) := by decide +kernel
theorem d_law_345 : decode code 345 = .ok (.iadd, 1) := by decide +kernel
theorem d_law_346 : decode code 346 = .ok (.iaload, 1) := by decide +kernel
theorem d_law_347 : decode code 347 = .ok (.invokevirtual 55, 3) := by decide +kernel
theorem d_law_350 : decode code 350 = .ok (.pop, 1) := by decide +kernel
theorem d_law_351 : decode code 351 = .ok (.goto 244, 3) := by decide +kernel
theorem d_law_354 : decode code 354 = .ok (.aload_n 1, 1) := by decide +kernel
theorem d_law_355 : decode code 355 = .ok (.aload_n 0, 1) := by decide +kernel
theorem d_law_356 : decode code 356 = .ok (.iload 4, 2) := by decide +kernel
theorem d_law_358 : decode code 358 = .ok (.iconst 1, 1) := by decide +kernel
theorem d_law_359 : decode code 359 = .ok (.iadd, 1) := by decide +kernel
theorem d_law_360 : decode code 360 = .ok (.iaload, 1) := by decide +kernel
theorem d_law_361 : decode code 361 = .ok (.aload_n 0, 1) := by decide +kernel
theorem d_law_362 : decode code 362 = .ok (.iload 4, 2) := by decide +kernel
theorem d_law_364 : decode code 364 = .ok (.iconst 2, 1) := by decide +kernel
theorem d_law_365 : decode code 365 = .ok (.iadd, 1) := by decide +kernel
theorem d_law_366 : decode code 366 = .ok (.iaload, 1) := by decide +kernel
theorem d_law_367 : decode code 367 = .ok (.invokevirtual 56, 3) := by decide +kernel
theorem d_law_370 : decode code 370 = .ok (.pop, 1) := by decide +kernel
theorem d_law_371 : decode code 371 = .ok (.aload_n 2, 1) := by decide +kernel
theorem d_law_372 : decode code 372 = .ok (.aload_n 0, 1) := by decide +kernel
theorem d_law_373 : decode code 373 = .ok (.iload 4, 2) := by decide +kernel
theorem d_law_375 : decode code 375 = .ok (.iconst 1, 1) := by decide +kernel
theorem d_law_376 : decode code 376 = .ok (.iadd, 1) := by decide +kernel
theorem d_law_377 : decode code 377 = .ok (.iaload, 1) := by decide +kernel
theorem d_law_378 : decode code 378 = .ok (.aload_n 0, 1) := by decide +kernel
theorem d_law_379 : decode code 379 = .ok (.iload 4, 2) := by decide +kernel
theorem d_law_381 : decode code 381 = .ok (.iconst 2, 1) := by decide +kernel
theorem d_law_382 : decode code 382 = .ok (.iadd, 1) := by decide +kernel
theorem d_law_383 : decode code 383 = .ok (.iaload, 1) := by decide +kernel
theorem d_law_384 : decode code 384 = .ok (.invokevirtual 59, 3) := by decide +kernel
theorem d_law_387 : decode code 387 = .ok (.pop, 1) := by decide +kernel
theorem d_law_388 : decode code 388 = .ok (.goto 207, 3) := by decide +kernel
theorem d_law_391 : decode code 391 = .ok (.aload_n 1, 1) := by decide +kernel
theorem d_law_392 : decode code 392 = .ok (.aload_n 0, 1) := by decide +kernel
theorem d_law_393 : decode code 393 = .ok (.iload 4, 2) := by decide +kernel
theorem d_law_395 : decode code 395 = .ok (.iconst 1, 1) := by decide +kernel
theorem d_law_396 : decode code 396 = .ok (.iadd, 1) := by decide +kernel
theorem d_law_397 : decode code 397 = .ok (.iaload, 1) := by decide +kernel
theorem d_law_398 : decode code 398 = .ok (.aload_n 0, 1) := by decide +kernel
theorem d_law_399 : decode code 399 = .ok (.iload 4, 2) := by decide +kernel
theorem d_law_401 : decode code 401 = .ok (.iconst 2, 1) := by decide +kernel
theorem d_law_402 : decode code 402 = .ok (.iadd, 1) := by decide +kernel
theorem d_law_403 : decode code 403 = .ok (.iaload, 1) := by decide +kernel
theorem d_law_404 : decode code 404 = .ok (.invokevirtual 60, 3) := by decide +kernel
theorem d_law_407 : decode code 407 = .ok (.pop, 1) := by decide +kernel
theorem d_law_408 : decode code 408 = .ok (.aload_n 2, 1) := by decide +kernel
theorem d_law_409 : decode code 409 = .ok (.aload_n 0, 1) := by decide +kernel
theorem d_law_410 : decode code 410 = .ok (.iload 4, 2) := by decide +kernel
theorem d_law_412 : decode code 412 = .ok (.iconst 1, 1) := by decide +kernel
theorem d_law_413 : decode code 413 = .ok (.iadd, 1) := by decide +kernel
theorem d_law_414 : decode code 414 = .ok (.iaload, 1) := by decide +kernel
theorem d_law_415 : decode code 415 = .ok (.aload_n 0, 1) := by decide +kernel
theorem d_law_416 : decode code 416 = .ok (.iload 4, 2) := by decide +kernel
theorem d_law_418 : decode code 418 = .ok (.iconst 2, 1) := by decide +kernel
theorem d_law_419 : decode code 419 = .ok (.iadd, 1) := by decide +kernel
theorem d_law_420 : decode code 420 = .ok (.iaload, 1) := by decide +kernel
theorem d_law_421 : decode code 421 = .ok (.invokevirtual 63, 3) := by decide +kernel
theorem d_law_424 : decode code 424 = .ok (.pop, 1) := by decide +kernel
theorem d_law_425 : decode code 425 = .ok (.goto 170, 3) := by decide +kernel
theorem d_law_428 : decode code 428 = .ok (.aload_n 1, 1) := by decide +kernel
theorem d_law_429 : decode code 429 = .ok (.aload_n 0, 1) := by decide +kernel
theorem d_law_430 : decode code 430 = .ok (.iload 4, 2) := by decide +kernel
theorem d_law_432 : decode code 432 = .ok (.iconst 1, 1) := by decide +kernel
theorem d_law_433 : decode code 433 = .ok (.iadd, 1) := by decide +kernel
theorem d_law_434 : decode code 434 = .ok (.iaload, 1) := by decide +kernel
theorem d_law_435 : decode code 435 = .ok (.aload_n 0, 1) := by decide +kernel
theorem d_law_436 : decode code 436 = .ok (.iload 4, 2) := by decide +kernel
theorem d_law_438 : decode code 438 = .ok (.iconst 2, 1) := by decide +kernel
theorem d_law_439 : decode code 439 = .ok (.iadd, 1) := by decide +kernel
theorem d_law_440 : decode code 440 = .ok (.iaload, 1) := by decide +kernel
theorem d_law_441 : decode code 441 = .ok (.invokevirtual 64, 3) := by decide +kernel
theorem d_law_444 : decode code 444 = .ok (.pop, 1) := by decide +kernel
theorem d_law_445 : decode code 445 = .ok (.aload_n 2, 1) := by decide +kernel
theorem d_law_446 : decode code 446 = .ok (.aload_n 0, 1) := by decide +kernel
theorem d_law_447 : decode code 447 = .ok (.iload 4, 2) := by decide +kernel
theorem d_law_449 : decode code 449 = .ok (.iconst 1, 1) := by decide +kernel
theorem d_law_450 : decode code 450 = .ok (.iadd, 1) := by decide +kernel
theorem d_law_451 : decode code 451 = .ok (.iaload, 1) := by decide +kernel
theorem d_law_452 : decode code 452 = .ok (.aload_n 0, 1) := by decide +kernel
theorem d_law_453 : decode code 453 = .ok (.iload 4, 2) := by decide +kernel
theorem d_law_455 : decode code 455 = .ok (.iconst 2, 1) := by decide +kernel
theorem d_law_456 : decode code 456 = .ok (.iadd, 1) := by decide +kernel
theorem d_law_457 : decode code 457 = .ok (.iaload, 1) := by decide +kernel
theorem d_law_458 : decode code 458 = .ok (.invokevirtual 67, 3) := by decide +kernel
theorem d_law_461 : decode code 461 = .ok (.pop, 1) := by decide +kernel
theorem d_law_462 : decode code 462 = .ok (.goto 133, 3) := by decide +kernel
theorem d_law_465 : decode code 465 = .ok (.aload_n 1, 1) := by decide +kernel
theorem d_law_466 : decode code 466 = .ok (.aload_n 0, 1) := by decide +kernel
theorem d_law_467 : decode code 467 = .ok (.iload 4, 2) := by decide +kernel
theorem d_law_469 : decode code 469 = .ok (.iconst 1, 1) := by decide +kernel
theorem d_law_470 : decode code 470 = .ok (.iadd, 1) := by decide +kernel
theorem d_law_471 : decode code 471 = .ok (.iaload, 1) := by decide +kernel
theorem d_law_472 : decode code 472 = .ok (.invokevirtual 68, 3) := by decide +kernel
theorem d_law_475 : decode code 475 = .ok (.pop, 1) := by decide +kernel
theorem d_law_476 : decode code 476 = .ok (.aload_n 2, 1) := by decide +kernel
theorem d_law_477 : decode code 477 = .ok (.aload_n 0, 1) := by decide +kernel
theorem d_law_478 : decode code 478 = .ok (.iload 4, 2) := by decide +kernel
theorem d_law_480 : decode code 480 = .ok (.iconst 1, 1) := by decide +kernel
theorem d_law_481 : decode code 481 = .ok (.iadd, 1) := by decide +kernel
theorem d_law_482 : decode code 482 = .ok (.iaload, 1) := by decide +kernel
theorem d_law_483 : decode code 483 = .ok (.invokevirtual 71, 3) := by decide +kernel
theorem d_law_486 : decode code 486 = .ok (.pop, 1) := by decide +kernel
theorem d_law_487 : decode code 487 = .ok (.goto 108, 3) := by decide +kernel
theorem d_law_490 : decode code 490 = .ok (.aload_n 1, 1) := by decide +kernel
theorem d_law_491 : decode code 491 = .ok (.aload_n 0, 1) := by decide +kernel
theorem d_law_492 : decode code 492 = .ok (.iload 4, 2) := by decide +kernel
theorem d_law_494 : decode code 494 = .ok (.iconst 1, 1) := by decide +kernel
theorem d_law_495 : decode code 495 = .ok (.iadd, 1) := by decide +kernel
theorem d_law_496 : decode code 496 = .ok (.iaload, 1) := by decide +kernel
theorem d_law_497 : decode code 497 = .ok (.invokevirtual 72, 3) := by decide +kernel
theorem d_law_500 : decode code 500 = .ok (.pop, 1) := by decide +kernel
theorem d_law_501 : decode code 501 = .ok (.aload_n 2, 1) := by decide +kernel
theorem d_law_502 : decode code 502 = .ok (.aload_n 0, 1) := by decide +kernel
theorem d_law_503 : decode code 503 = .ok (.iload 4, 2) := by decide +kernel
theorem d_law_505 : decode code 505 = .ok (.iconst 1, 1) := by decide +kernel
theorem d_law_506 : decode code 506 = .ok (.iadd, 1) := by decide +kernel
theorem d_law_507 : decode code 507 = .ok (.iaload, 1) := by decide +kernel
theorem d_law_508 : decode code 508 = .ok (.invokevirtual 75, 3) := by decide +kernel
theorem d_law_511 : decode code 511 = .ok (.pop, 1) := by decide +kernel
theorem d_law_512 : decode code 512 = .ok (.goto 83, 3) := by decide +kernel
theorem d_law_515 : decode code 515 = .ok (.aload_n 1, 1) := by decide +kernel
theorem d_law_516 : decode code 516 = .ok (.aload_n 0, 1) := by decide +kernel
theorem d_law_517 : decode code 517 = .ok (.iload 4, 2) := by decide +kernel
theorem d_law_519 : decode code 519 = .ok (.iconst 1, 1) := by decide +kernel
theorem d_law_520 : decode code 520 = .ok (.iadd, 1) := by decide +kernel
theorem d_law_521 : decode code 521 = .ok (.iaload, 1) := by decide +kernel
theorem d_law_522 : decode code 522 = .ok (.aload_n 0, 1) := by decide +kernel
theorem d_law_523 : decode code 523 = .ok (.iload 4, 2) := by decide +kernel
theorem d_law_525 : decode code 525 = .ok (.iconst 2, 1) := by decide +kernel
theorem d_law_526 : decode code 526 = .ok (.iadd, 1) := by decide +kernel
theorem d_law_527 : decode code 527 = .ok (.iaload, 1) := by decide +kernel
theorem d_law_528 : decode code 528 = .ok (.aload_n 0, 1) := by decide +kernel
theorem d_law_529 : decode code 529 = .ok (.iload 4, 2) := by decide +kernel
theorem d_law_531 : decode code 531 = .ok (.iconst 3, 1) := by decide +kernel
theorem d_law_532 : decode code 532 = .ok (.iadd, 1) := by decide +kernel
theorem d_law_533 : decode code 533 = .ok (.iaload, 1) := by decide +kernel
theorem d_law_534 : decode code 534 = .ok (.aload_n 3, 1) := by decide +kernel
theorem d_law_535 : decode code 535 = .ok (.invokestatic 76, 3) := by decide +kernel
theorem d_law_538 : decode code 538 = .ok (.istore 5, 2) := by decide +kernel
theorem d_law_540 : decode code 540 = .ok (.aload_n 2, 1) := by decide +kernel
theorem d_law_541 : decode code 541 = .ok (.aload_n 0, 1) := by decide +kernel
theorem d_law_542 : decode code 542 = .ok (.iload 4, 2) := by decide +kernel
theorem d_law_544 : decode code 544 = .ok (.iconst 1, 1) := by decide +kernel
theorem d_law_545 : decode code 545 = .ok (.iadd, 1) := by decide +kernel
theorem d_law_546 : decode code 546 = .ok (.iaload, 1) := by decide +kernel
theorem d_law_547 : decode code 547 = .ok (.aload_n 0, 1) := by decide +kernel
theorem d_law_548 : decode code 548 = .ok (.iload 4, 2) := by decide +kernel
theorem d_law_550 : decode code 550 = .ok (.iconst 2, 1) := by decide +kernel
theorem d_law_551 : decode code 551 = .ok (.iadd, 1) := by decide +kernel
theorem d_law_552 : decode code 552 = .ok (.iaload, 1) := by decide +kernel
theorem d_law_553 : decode code 553 = .ok (.aload_n 0, 1) := by decide +kernel
theorem d_law_554 : decode code 554 = .ok (.iload 4, 2) := by decide +kernel
theorem d_law_556 : decode code 556 = .ok (.iconst 3, 1) := by decide +kernel
theorem d_law_557 : decode code 557 = .ok (.iadd, 1) := by decide +kernel
theorem d_law_558 : decode code 558 = .ok (.iaload, 1) := by decide +kernel
theorem d_law_559 : decode code 559 = .ok (.invokevirtual 81, 3) := by decide +kernel
theorem d_law_562 : decode code 562 = .ok (.istore 6, 2) := by decide +kernel
theorem d_law_564 : decode code 564 = .ok (.aload_n 2, 1) := by decide +kernel
theorem d_law_565 : decode code 565 = .ok (.invokevirtual 82, 3) := by decide +kernel
theorem d_law_568 : decode code 568 = .ok (.iload 5, 2) := by decide +kernel
theorem d_law_570 : decode code 570 = .ok (.if_icmp .eq 5, 3) := by decide +kernel
theorem d_law_573 : decode code 573 = .ok (.iconst 0, 1) := by decide +kernel
theorem d_law_574 : decode code 574 = .ok (.ireturn, 1) := by decide +kernel
theorem d_law_575 : decode code 575 = .ok (.iload 5, 2) := by decide +kernel
theorem d_law_577 : decode code 577 = .ok (.ifCond .ne 15, 3) := by decide +kernel
theorem d_law_580 : decode code 580 = .ok (.aload_n 3, 1) := by decide +kernel
theorem d_law_581 : decode code 581 = .ok (.iconst 0, 1) := by decide +kernel
theorem d_law_582 : decode code 582 = .ok (.laload, 1) := by decide +kernel
theorem d_law_583 : decode code 583 = .ok (.iload 6, 2) := by decide +kernel
theorem d_law_585 : decode code 585 = .ok (.i2l, 1) := by decide +kernel
theorem d_law_586 : decode code 586 = .ok (.lcmp, 1) := by decide +kernel
theorem d_law_587 : decode code 587 = .ok (.ifCond .eq 5, 3) := by decide +kernel
theorem d_law_590 : decode code 590 = .ok (.iconst 0, 1) := by decide +kernel
theorem d_law_591 : decode code 591 = .ok (.ireturn, 1) := by decide +kernel
theorem d_law_592 : decode code 592 = .ok (.goto 3, 3) := by decide +kernel
theorem d_law_595 : decode code 595 = .ok (.iinc 4 4, 3) := by decide +kernel
theorem d_law_598 : decode code 598 = .ok (.goto (-575), 3) := by decide +kernel
theorem d_law_601 : decode code 601 = .ok (.iconst 1, 1) := by decide +kernel
theorem d_law_602 : decode code 602 = .ok (.ireturn, 1) := by decide +kernel
