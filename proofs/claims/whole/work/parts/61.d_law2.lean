theorem d_La_law_0 : decode code 0 = .ok (.new 8, 3) := by decide +kernel
theorem d_La_law_3 : decode code 3 = .ok (.dup, 1) := by decide +kernel
theorem d_La_law_4 : decode code 4 = .ok (.invokespecial 69, 3) := by decide +kernel
theorem d_La_law_7 : decode code 7 = .ok (.astore_n 1, 1) := by decide +kernel
theorem d_La_law_8 : decode code 8 = .ok (.new 70, 3) := by decide +kernel
theorem d_La_law_11 : decode code 11 = .ok (.dup, 1) := by decide +kernel
theorem d_La_law_12 : decode code 12 = .ok (.invokespecial 72, 3) := by decide +kernel
theorem d_La_law_15 : decode code 15 = .ok (.astore_n 2, 1) := by decide +kernel
theorem d_La_law_16 : decode code 16 = .ok (.iconst 1, 1) := by decide +kernel
theorem d_La_law_17 : decode code 17 = .ok (.newarray .long, 2) := by decide +kernel
theorem d_La_law_19 : decode code 19 = .ok (.astore_n 3, 1) := by decide +kernel
theorem d_La_law_20 : decode code 20 = .ok (.iconst 0, 1) := by decide +kernel
theorem d_La_law_21 : decode code 21 = .ok (.istore 4, 2) := by decide +kernel
theorem d_La_law_23 : decode code 23 = .ok (.iload 4, 2) := by decide +kernel
theorem d_La_law_25 : decode code 25 = .ok (.aload_n 0, 1) := by decide +kernel
theorem d_La_law_26 : decode code 26 = .ok (.arraylength, 1) := by decide +kernel
theorem d_La_law_27 : decode code 27 = .ok (.iconst 4, 1) := by decide +kernel
theorem d_La_law_28 : decode code 28 = .ok (.isub, 1) := by decide +kernel
theorem d_La_law_29 : decode code 29 = .ok (.if_icmp .gt 1011, 3) := by decide +kernel
theorem d_La_law_32 : decode code 32 = .ok (.aload_n 0, 1) := by decide +kernel
theorem d_La_law_33 : decode code 33 = .ok (.iload 4, 2) := by decide +kernel
theorem d_La_law_35 : decode code 35 = .ok (.iaload, 1) := by decide +kernel
theorem d_La_law_36 : decode code 36 = .ok (.bipush 15, 2) := by decide +kernel
theorem d_La_law_38 : decode code 38 = .ok (.iand, 1) := by decide +kernel
theorem d_La_law_39 : decode code 39 = .ok (.tableswitch 995 0 14 #[73, 153, 213, 273, 321, 384, 452, 500, 548, 604, 672, 740, 815, 871, 939], 73) := by decide +kernel
theorem d_La_law_112 : decode code 112 = .ok (.aload_n 1, 1) := by decide +kernel
theorem d_La_law_113 : decode code 113 = .ok (.aload_n 0, 1) := by decide +kernel
theorem d_La_law_114 : decode code 114 = .ok (.iload 4, 2) := by decide +kernel
theorem d_La_law_116 : decode code 116 = .ok (.iconst 1, 1) := by decide +kernel
theorem d_La_law_117 : decode code 117 = .ok (.iadd, 1) := by decide +kernel
theorem d_La_law_118 : decode code 118 = .ok (.iaload, 1) := by decide +kernel
theorem d_La_law_119 : decode code 119 = .ok (.aload_n 0, 1) := by decide +kernel
theorem d_La_law_120 : decode code 120 = .ok (.iload 4, 2) := by decide +kernel
theorem d_La_law_122 : decode code 122 = .ok (.iconst 2, 1) := by decide +kernel
theorem d_La_law_123 : decode code 123 = .ok (.iadd, 1) := by decide +kernel
theorem d_La_law_124 : decode code 124 = .ok (.iaload, 1) := by decide +kernel
theorem d_La_law_125 : decode code 125 = .ok (.aload_n 0, 1) := by decide +kernel
theorem d_La_law_126 : decode code 126 = .ok (.iload 4, 2) := by decide +kernel
theorem d_La_law_128 : decode code 128 = .ok (.iconst 3, 1) := by decide +kernel
theorem d_La_law_129 : decode code 129 = .ok (.iadd, 1) := by decide +kernel
theorem d_La_law_130 : decode code 130 = .ok (.iaload, 1) := by decide +kernel
theorem d_La_law_131 : decode code 131 = .ok (.aload_n 3, 1) := by decide +kernel
theorem d_La_law_132 : decode code 132 = .ok (.invokestatic 73, 3) := by decide +kernel
theorem d_La_law_135 : decode code 135 = .ok (.istore 5, 2) := by decide +kernel
theorem d_La_law_137 : decode code 137 = .ok (.aload_n 2, 1) := by decide +kernel
theorem d_La_law_138 : decode code 138 = .ok (.aload_n 0, 1) := by decide +kernel
theorem d_La_law_139 : decode code 139 = .ok (.iload 4, 2) := by decide +kernel
theorem d_La_law_141 : decode code 141 = .ok (.iconst 1, 1) := by decide +kernel
theorem d_La_law_142 : decode code 142 = .ok (.iadd, 1) := by decide +kernel
theorem d_La_law_143 : decode code 143 = .ok (.iaload, 1) := by decide +kernel
theorem d_La_law_144 : decode code 144 = .ok (.aload_n 0, 1) := by decide +kernel
theorem d_La_law_145 : decode code 145 = .ok (.iload 4, 2) := by decide +kernel
theorem d_La_law_147 : decode code 147 = .ok (.iconst 2, 1) := by decide +kernel
theorem d_La_law_148 : decode code 148 = .ok (.iadd, 1) := by decide +kernel
theorem d_La_law_149 : decode code 149 = .ok (.iaload, 1) := by decide +kernel
theorem d_La_law_150 : decode code 150 = .ok (.aload_n 0, 1) := by decide +kernel
theorem d_La_law_151 : decode code 151 = .ok (.iload 4, 2) := by decide +kernel
theorem d_La_law_153 : decode code 153 = .ok (.iconst 3, 1) := by decide +kernel
theorem d_La_law_154 : decode code 154 = .ok (.iadd, 1) := by decide +kernel
theorem d_La_law_155 : decode code 155 = .ok (.iaload, 1) := by decide +kernel
theorem d_La_law_156 : decode code 156 = .ok (.invokevirtual 78, 3) := by decide +kernel
theorem d_La_law_159 : decode code 159 = .ok (.istore 6, 2) := by decide +kernel
theorem d_La_law_161 : decode code 161 = .ok (.aload_n 2, 1) := by decide +kernel
theorem d_La_law_162 : decode code 162 = .ok (.invokevirtual 79, 3) := by decide +kernel
theorem d_La_law_165 : decode code 165 = .ok (.iload 5, 2) := by decide +kernel
theorem d_La_law_167 : decode code 167 = .ok (.if_icmp .eq 5, 3) := by decide +kernel
theorem d_La_law_170 : decode code 170 = .ok (.iconst 0, 1) := by decide +kernel
theorem d_La_law_171 : decode code 171 = .ok (.ireturn, 1) := by decide +kernel
theorem d_La_law_172 : decode code 172 = .ok (.iload 5, 2) := by decide +kernel
theorem d_La_law_174 : decode code 174 = .ok (.ifCond .ne 15, 3) := by decide +kernel
theorem d_La_law_177 : decode code 177 = .ok (.aload_n 3, 1) := by decide +kernel
theorem d_La_law_178 : decode code 178 = .ok (.iconst 0, 1) := by decide +kernel
theorem d_La_law_179 : decode code 179 = .ok (.laload, 1) := by decide +kernel
theorem d_La_law_180 : decode code 180 = .ok (.iload 6, 2) := by decide +kernel
theorem d_La_law_182 : decode code 182 = .ok (.i2l, 1) := by decide +kernel
theorem d_La_law_183 : decode code 183 = .ok (.lcmp, 1) := by decide +kernel
theorem d_La_law_184 : decode code 184 = .ok (.ifCond .eq 5, 3) := by decide +kernel
theorem d_La_law_187 : decode code 187 = .ok (.iconst 0, 1) := by decide +kernel
theorem d_La_law_188 : decode code 188 = .ok (.ireturn, 1) := by decide +kernel
theorem d_La_law_189 : decode code 189 = .ok (.goto 845, 3) := by decide +kernel
theorem d_La_law_192 : decode code 192 = .ok (.aload_n 1, 1) := by decide +kernel
theorem d_La_law_193 : decode code 193 = .ok (.aload_n 0, 1) := by decide +kernel
theorem d_La_law_194 : decode code 194 = .ok (.iload 4, 2) := by decide +kernel
theorem d_La_law_196 : decode code 196 = .ok (.iconst 1, 1) := by decide +kernel
theorem d_La_law_197 : decode code 197 = .ok (.iadd, 1) := by decide +kernel
theorem d_La_law_198 : decode code 198 = .ok (.iaload, 1) := by decide +kernel
theorem d_La_law_199 : decode code 199 = .ok (.aload_n 0, 1) := by decide +kernel
theorem d_La_law_200 : decode code 200 = .ok (.iload 4, 2) := by decide +kernel
theorem d_La_law_202 : decode code 202 = .ok (.iconst 2, 1) := by decide +kernel
theorem d_La_law_203 : decode code 203 = .ok (.iadd, 1) := by decide +kernel
theorem d_La_law_204 : decode code 204 = .ok (.iaload, 1) := by decide +kernel
theorem d_La_law_205 : decode code 205 = .ok (.aload_n 0, 1) := by decide +kernel
theorem d_La_law_206 : decode code 206 = .ok (.iload 4, 2) := by decide +kernel
theorem d_La_law_208 : decode code 208 = .ok (.iconst 3, 1) := by decide +kernel
theorem d_La_law_209 : decode code 209 = .ok (.iadd, 1) := by decide +kernel
theorem d_La_law_210 : decode code 210 = .ok (.iaload, 1) := by decide +kernel
theorem d_La_law_211 : decode code 211 = .ok (.invokestatic 83, 3) := by decide +kernel
theorem d_La_law_214 : decode code 214 = .ok (.istore 5, 2) := by decide +kernel
theorem d_La_law_216 : decode code 216 = .ok (.aload_n 2, 1) := by decide +kernel
theorem d_La_law_217 : decode code 217 = .ok (.aload_n 0, 1) := by decide +kernel
theorem d_La_law_218 : decode code 218 = .ok (.iload 4, 2) := by decide +kernel
theorem d_La_law_220 : decode code 220 = .ok (.iconst 1, 1) := by decide +kernel
theorem d_La_law_221 : decode code 221 = .ok (.iadd, 1) := by decide +kernel
theorem d_La_law_222 : decode code 222 = .ok (.iaload, 1) := by decide +kernel
theorem d_La_law_223 : decode code 223 = .ok (.aload_n 0, 1) := by decide +kernel
theorem d_La_law_224 : decode code 224 = .ok (.iload 4, 2) := by decide +kernel
theorem d_La_law_226 : decode code 226 = .ok (.iconst 2, 1) := by decide +kernel
theorem d_La_law_227 : decode code 227 = .ok (.iadd, 1) := by decide +kernel
theorem d_La_law_228 : decode code 228 = .ok (.iaload, 1) := by decide +kernel
theorem d_La_law_229 : decode code 229 = .ok (.aload_n 0, 1) := by decide +kernel
theorem d_La_law_230 : decode code 230 = .ok (.iload 4, 2) := by decide +kernel
theorem d_La_law_232 : decode code 232 = .ok (.iconst 3, 1) := by decide +kernel
theorem d_La_law_233 : decode code 233 = .ok (.iadd, 1) := by decide +kernel
theorem d_La_law_234 : decode code 234 = .ok (.iaload, 1) := by decide +kernel
theorem d_La_law_235 : decode code 235 = .ok (.invokevirtual 86, 3) := by decide +kernel
theorem d_La_law_238 : decode code 238 = .ok (.aload_n 2, 1) := by decide +kernel
theorem d_La_law_239 : decode code 239 = .ok (.invokevirtual 79, 3) := by decide +kernel
theorem d_La_law_242 : decode code 242 = .ok (.iload 5, 2) := by decide +kernel
theorem d_La_law_244 : decode code 244 = .ok (.if_icmp .eq 5, 3) := by decide +kernel
theorem d_La_law_247 : decode code 247 = .ok (.iconst 0, 1) := by decide +kernel
theorem d_La_law_248 : decode code 248 = .ok (.ireturn, 1) := by decide +kernel
theorem d_La_law_249 : decode code 249 = .ok (.goto 785, 3) := by decide +kernel
theorem d_La_law_252 : decode code 252 = .ok (.aload_n 1, 1) := by decide +kernel
theorem d_La_law_253 : decode code 253 = .ok (.aload_n 0, 1) := by decide +kernel
theorem d_La_law_254 : decode code 254 = .ok (.iload 4, 2) := by decide +kernel
theorem d_La_law_256 : decode code 256 = .ok (.iconst 1, 1) := by decide +kernel
theorem d_La_law_257 : decode code 257 = .ok (.iadd, 1) := by decide +kernel
theorem d_La_law_258 : decode code 258 = .ok (.iaload, 1) := by decide +kernel
theorem d_La_law_259 : decode code 259 = .ok (.aload_n 0, 1) := by decide +kernel
theorem d_La_law_260 : decode code 260 = .ok (.iload 4, 2) := by decide +kernel
theorem d_La_law_262 : decode code 262 = .ok (.iconst 2, 1) := by decide +kernel
theorem d_La_law_263 : decode code 263 = .ok (.iadd, 1) := by decide +kernel
theorem d_La_law_264 : decode code 264 = .ok (.iaload, 1) := by decide +kernel
theorem d_La_law_265 : decode code 265 = .ok (.aload_n 0, 1) := by decide +kernel
theorem d_La_law_266 : decode code 266 = .ok (.iload 4, 2) := by decide +kernel
theorem d_La_law_268 : decode code 268 = .ok (.iconst 3, 1) := by decide +kernel
theorem d_La_law_269 : decode code 269 = .ok (.iadd, 1) := by decide +kernel
theorem d_La_law_270 : decode code 270 = .ok (.iaload, 1) := by decide +kernel
theorem d_La_law_271 : decode code 271 = .ok (.invokestatic 87, 3) := by decide +kernel
theorem d_La_law_274 : decode code 274 = .ok (.istore 5, 2) := by decide +kernel
theorem d_La_law_276 : decode code 276 = .ok (.aload_n 2, 1) := by decide +kernel
theorem d_La_law_277 : decode code 277 = .ok (.aload_n 0, 1) := by decide +kernel
theorem d_La_law_278 : decode code 278 = .ok (.iload 4, 2) := by decide +kernel
theorem d_La_law_280 : decode code 280 = .ok (.iconst 1, 1) := by decide +kernel
theorem d_La_law_281 : decode code 281 = .ok (.iadd, 1) := by decide +kernel
theorem d_La_law_282 : decode code 282 = .ok (.iaload, 1) := by decide +kernel
theorem d_La_law_283 : decode code 283 = .ok (.aload_n 0, 1) := by decide +kernel
theorem d_La_law_284 : decode code 284 = .ok (.iload 4, 2) := by decide +kernel
theorem d_La_law_286 : decode code 286 = .ok (.iconst 2, 1) := by decide +kernel
theorem d_La_law_287 : decode code 287 = .ok (.iadd, 1) := by decide +kernel
theorem d_La_law_288 : decode code 288 = .ok (.iaload, 1) := by decide +kernel
theorem d_La_law_289 : decode code 289 = .ok (.aload_n 0, 1) := by decide +kernel
theorem d_La_law_290 : decode code 290 = .ok (.iload 4, 2) := by decide +kernel
theorem d_La_law_292 : decode code 292 = .ok (.iconst 3, 1) := by decide +kernel
theorem d_La_law_293 : decode code 293 = .ok (.iadd, 1) := by decide +kernel
theorem d_La_law_294 : decode code 294 = .ok (.iaload, 1) := by decide +kernel
theorem d_La_law_295 : decode code 295 = .ok (.invokevirtual 89, 3) := by decide +kernel
theorem d_La_law_298 : decode code 298 = .ok (.aload_n 2, 1) := by decide +kernel
theorem d_La_law_299 : decode code 299 = .ok (.invokevirtual 79, 3) := by decide +kernel
theorem d_La_law_302 : decode code 302 = .ok (.iload 5, 2) := by decide +kernel
theorem d_La_law_304 : decode code 304 = .ok (.if_icmp .eq 5, 3) := by decide +kernel
theorem d_La_law_307 : decode code 307 = .ok (.iconst 0, 1) := by decide +kernel
theorem d_La_law_308 : decode code 308 = .ok (.ireturn, 1) := by decide +kernel
theorem d_La_law_309 : decode code 309 = .ok (.goto 725, 3) := by decide +kernel
theorem d_La_law_312 : decode code 312 = .ok (.aload_n 1, 1) := by decide +kernel
theorem d_La_law_313 : decode code 313 = .ok (.aload_n 0, 1) := by decide +kernel
theorem d_La_law_314 : decode code 314 = .ok (.iload 4, 2) := by decide +kernel
theorem d_La_law_316 : decode code 316 = .ok (.iconst 1, 1) := by decide +kernel
theorem d_La_law_317 : decode code 317 = .ok (.iadd, 1) := by decide +kernel
theorem d_La_law_318 : decode code 318 = .ok (.iaload, 1) := by decide +kernel
theorem d_La_law_319 : decode code 319 = .ok (.aload_n 0, 1) := by decide +kernel
theorem d_La_law_320 : decode code 320 = .ok (.iload 4, 2) := by decide +kernel
theorem d_La_law_322 : decode code 322 = .ok (.iconst 2, 1) := by decide +kernel
theorem d_La_law_323 : decode code 323 = .ok (.iadd, 1) := by decide +kernel
theorem d_La_law_324 : decode code 324 = .ok (.iaload, 1) := by decide +kernel
theorem d_La_law_325 : decode code 325 = .ok (.invokestatic 90, 3) := by decide +kernel
theorem d_La_law_328 : decode code 328 = .ok (.istore 5, 2) := by decide +kernel
theorem d_La_law_330 : decode code 330 = .ok (.aload_n 2, 1) := by decide +kernel
theorem d_La_law_331 : decode code 331 = .ok (.aload_n 0, 1) := by decide +kernel
theorem d_La_law_332 : decode code 332 = .ok (.iload 4, 2) := by decide +kernel
theorem d_La_law_334 : decode code 334 = .ok (.iconst 1, 1) := by decide +kernel
theorem d_La_law_335 : decode code 335 = .ok (.iadd, 1) := by decide +kernel
theorem d_La_law_336 : decode code 336 = .ok (.iaload, 1) := by decide +kernel
theorem d_La_law_337 : decode code 337 = .ok (.aload_n 0, 1) := by decide +kernel
theorem d_La_law_338 : decode code 338 = .ok (.iload 4, 2) := by decide +kernel
theorem d_La_law_340 : decode code 340 = .ok (.iconst 2, 1) := by decide +kernel
theorem d_La_law_341 : decode code 341 = .ok (.iadd, 1) := by decide +kernel
theorem d_La_law_342 : decode code 342 = .ok (.iaload, 1) := by decide +kernel
theorem d_La_law_343 : decode code 343 = .ok (.invokevirtual 93, 3) := by decide +kernel
theorem d_La_law_346 : decode code 346 = .ok (.aload_n 2, 1) := by decide +kernel
theorem d_La_law_347 : decode code 347 = .ok (.invokevirtual 79, 3) := by decide +kernel
theorem d_La_law_350 : decode code 350 = .ok (.iload 5, 2) := by decide +kernel
theorem d_La_law_352 : decode code 352 = .ok (.if_icmp .eq 5, 3) := by decide +kernel
theorem d_La_law_355 : decode code 355 = .ok (.iconst 0, 1) := by decide +kernel
theorem d_La_law_356 : decode code 356 = .ok (.ireturn, 1) := by decide +kernel
theorem d_La_law_357 : decode code 357 = .ok (.goto 677, 3) := by decide +kernel
theorem d_La_law_360 : decode code 360 = .ok (.aload_n 1, 1) := by decide +kernel
theorem d_La_law_361 : decode code 361 = .ok (.aload_n 0, 1) := by decide +kernel
theorem d_La_law_362 : decode code 362 = .ok (.iload 4, 2) := by decide +kernel
theorem d_La_law_364 : decode code 364 = .ok (.iconst 1, 1) := by decide +kernel
theorem d_La_law_365 : decode code 365 = .ok (.iadd, 1) := by decide +kernel
theorem d_La_law_366 : decode code 366 = .ok (.iaload, 1) := by decide +kernel
theorem d_La_law_367 : decode code 367 = .ok (.aload_n 3, 1) := by decide +kernel
theorem d_La_law_368 : decode code 368 = .ok (.invokestatic 94, 3) := by decide +kernel
theorem d_La_law_371 : decode code 371 = .ok (.istore 5, 2) := by decide +kernel
theorem d_La_law_373 : decode code 373 = .ok (.aload_n 2, 1) := by decide +kernel
theorem d_La_law_374 : decode code 374 = .ok (.aload_n 0, 1) := by decide +kernel
theorem d_La_law_375 : decode code 375 = .ok (.iload 4, 2) := by decide +kernel
theorem d_La_law_377 : decode code 377 = .ok (.iconst 1, 1) := by decide +kernel
theorem d_La_law_378 : decode code 378 = .ok (.iadd, 1) := by decide +kernel
theorem d_La_law_379 : decode code 379 = .ok (.iaload, 1) := by decide +kernel
theorem d_La_law_380 : decode code 380 = .ok (.invokevirtual 97, 3) := by decide +kernel
theorem d_La_law_383 : decode code 383 = .ok (.istore 6, 2) := by decide +kernel
theorem d_La_law_385 : decode code 385 = .ok (.aload_n 2, 1) := by decide +kernel
theorem d_La_law_386 : decode code 386 = .ok (.invokevirtual 79, 3) := by decide +kernel
theorem d_La_law_389 : decode code 389 = .ok (.iload 5, 2) := by decide +kernel
theorem d_La_law_391 : decode code 391 = .ok (.if_icmp .eq 5, 3) := by decide +kernel
theorem d_La_law_394 : decode code 394 = .ok (.iconst 0, 1) := by decide +kernel
theorem d_La_law_395 : decode code 395 = .ok (.ireturn, 1) := by decide +kernel
theorem d_La_law_396 : decode code 396 = .ok (.iload 5, 2) := by decide +kernel
theorem d_La_law_398 : decode code 398 = .ok (.ifCond .ne 22, 3) := by decide +kernel
theorem d_La_law_401 : decode code 401 = .ok (.aload_n 3, 1) := by decide +kernel
theorem d_La_law_402 : decode code 402 = .ok (.iconst 0, 1) := by decide +kernel
theorem d_La_law_403 : decode code 403 = .ok (.laload, 1) := by decide +kernel
theorem d_La_law_404 : decode code 404 = .ok (.iload 6, 2) := by decide +kernel
theorem d_La_law_406 : decode code 406 = .ok (.ifCond .eq 7, 3) := by decide +kernel
theorem d_La_law_409 : decode code 409 = .ok (.lconst 1, 1) := by decide +kernel
theorem d_La_law_410 : decode code 410 = .ok (.goto 4, 3) := by decide +kernel
theorem d_La_law_413 : decode code 413 = .ok (.lconst 0, 1) := by decide +kernel
theorem d_La_law_414 : decode code 414 = .ok (.lcmp, 1) := by decide +kernel
theorem d_La_law_415 : decode code 415 = .ok (.ifCond .eq 5, 3) := by decide +kernel
theorem d_La_law_418 : decode code 418 = .ok (.iconst 0, 1) := by decide +kernel
theorem d_La_law_419 : decode code 419 = .ok (.ireturn, 1) := by decide +kernel
theorem d_La_law_420 : decode code 420 = .ok (.goto 614, 3) := by decide +kernel
theorem d_La_law_423 : decode code 423 = .ok (.aload_n 1, 1) := by decide +kernel
theorem d_La_law_424 : decode code 424 = .ok (.aload_n 0, 1) := by decide +kernel
theorem d_La_law_425 : decode code 425 = .ok (.iload 4, 2) := by decide +kernel
theorem d_La_law_427 : decode code 427 = .ok (.iconst 1, 1) := by decide +kernel
theorem d_La_law_428 : decode code 428 = .ok (.iadd, 1) := by decide +kernel
theorem d_La_law_429 : decode code 429 = .ok (.iaload, 1) := by decide +kernel
theorem d_La_law_430 : decode code 430 = .ok (.aload_n 0, 1) := by decide +kernel
theorem d_La_law_431 : decode code 431 = .ok (.iload 4, 2) := by decide +kernel
theorem d_La_law_433 : decode code 433 = .ok (.iconst 2, 1) := by decide +kernel
theorem d_La_law_434 : decode code 434 = .ok (.iadd, 1) := by decide +kernel
theorem d_La_law_435 : decode code 435 = .ok (.iaload, 1) := by decide +kernel
theorem d_La_law_436 : decode code 436 = .ok (.aload_n 3, 1) := by decide +kernel
theorem d_La_law_437 : decode code 437 = .ok (.invokestatic 98, 3) := by decide +kernel
theorem d_La_law_440 : decode code 440 = .ok (.istore 5, 2) := by decide +kernel
theorem d_La_law_442 : decode code 442 = .ok (.aload_n 2, 1) := by decide +kernel
theorem d_La_law_443 : decode code 443 = .ok (.aload_n 0, 1) := by decide +kernel
theorem d_La_law_444 : decode code 444 = .ok (.iload 4, 2) := by decide +kernel
theorem d_La_law_446 : decode code 446 = .ok (.iconst 1, 1) := by decide +kernel
theorem d_La_law_447 : decode code 447 = .ok (.iadd, 1) := by decide +kernel
theorem d_La_law_448 : decode code 448 = .ok (.iaload, 1) := by decide +kernel
theorem d_La_law_449 : decode code 449 = .ok (.aload_n 0, 1) := by decide +kernel
theorem d_La_law_450 : decode code 450 = .ok (.iload 4, 2) := by decide +kernel
theorem d_La_law_452 : decode code 452 = .ok (.iconst 2, 1) := by decide +kernel
theorem d_La_law_453 : decode code 453 = .ok (.iadd, 1) := by decide +kernel
theorem d_La_law_454 : decode code 454 = .ok (.iaload, 1) := by decide +kernel
theorem d_La_law_455 : decode code 455 = .ok (.invokevirtual 101, 3) := by decide +kernel
theorem d_La_law_458 : decode code 458 = .ok (.istore 6, 2) := by decide +kernel
theorem d_La_law_460 : decode code 460 = .ok (.aload_n 2, 1) := by decide +kernel
theorem d_La_law_461 : decode code 461 = .ok (.invokevirtual 79, 3) := by decide +kernel
theorem d_La_law_464 : decode code 464 = .ok (.iload 5, 2) := by decide +kernel
theorem d_La_law_466 : decode code 466 = .ok (.if_icmp .eq 5, 3) := by decide +kernel
theorem d_La_law_469 : decode code 469 = .ok (.iconst 0, 1) := by decide +kernel
theorem d_La_law_470 : decode code 470 = .ok (.ireturn, 1) := by decide +kernel
theorem d_La_law_471 : decode code 471 = .ok (.iload 5, 2) := by decide +kernel
theorem d_La_law_473 : decode code 473 = .ok (.ifCond .ne 15, 3) := by decide +kernel
theorem d_La_law_476 : decode code 476 = .ok (.aload_n 3, 1) := by decide +kernel
theorem d_La_law_477 : decode code 477 = .ok (.iconst 0, 1) := by decide +kernel
theorem d_La_law_478 : decode code 478 = .ok (.laload, 1) := by decide +kernel
theorem d_La_law_479 : decode code 479 = .ok (.iload 6, 2) := by decide +kernel
theorem d_La_law_481 : decode code 481 = .ok (.i2l, 1) := by decide +kernel
theorem d_La_law_482 : decode code 482 = .ok (.lcmp, 1) := by decide +kernel
theorem d_La_law_483 : decode code 483 = .ok (.ifCond .eq 5, 3) := by decide +kernel
theorem d_La_law_486 : decode code 486 = .ok (.iconst 0, 1) := by decide +kernel
theorem d_La_law_487 : decode code 487 = .ok (.ireturn, 1) := by decide +kernel
theorem d_La_law_488 : decode code 488 = .ok (.goto 546, 3) := by decide +kernel
theorem d_La_law_491 : decode code 491 = .ok (.aload_n 1, 1) := by decide +kernel
theorem d_La_law_492 : decode code 492 = .ok (.aload_n 0, 1) := by decide +kernel
theorem d_La_law_493 : decode code 493 = .ok (.iload 4, 2) := by decide +kernel
theorem d_La_law_495 : decode code 495 = .ok (.iconst 1, 1) := by decide +kernel
theorem d_La_law_496 : decode code 496 = .ok (.iadd, 1) := by decide +kernel
theorem d_La_law_497 : decode code 497 = .ok (.iaload, 1) := by decide +kernel
theorem d_La_law_498 : decode code 498 = .ok (.aload_n 0, 1) := by decide +kernel
theorem d_La_law_499 : decode code 499 = .ok (.iload 4, 2) := by decide +kernel
theorem d_La_law_501 : decode code 501 = .ok (.iconst 2, 1) := by decide +kernel
theorem d_La_law_502 : decode code 502 = .ok (.iadd, 1) := by decide +kernel
theorem d_La_law_503 : decode code 503 = .ok (.iaload, 1) := by decide +kernel
theorem d_La_law_504 : decode code 504 = .ok (.invokestatic 102, 3) := by decide +kernel
theorem d_La_law_507 : decode code 507 = .ok (.istore 5, 2) := by decide +kernel
theorem d_La_law_509 : decode code 509 = .ok (.aload_n 2, 1) := by decide +kernel
theorem d_La_law_510 : decode code 510 = .ok (.aload_n 0, 1) := by decide +kernel
theorem d_La_law_511 : decode code 511 = .ok (.iload 4, 2) := by decide +kernel
theorem d_La_law_513 : decode code 513 = .ok (.iconst 1, 1) := by decide +kernel
theorem d_La_law_514 : decode code 514 = .ok (.iadd, 1) := by decide +kernel
theorem d_La_law_515 : decode code 515 = .ok (.iaload, 1) := by decide +kernel
theorem d_La_law_516 : decode code 516 = .ok (.aload_n 0, 1) := by decide +kernel
theorem d_La_law_517 : decode code 517 = .ok (.iload 4, 2) := by decide +kernel
theorem d_La_law_519 : decode code 519 = .ok (.iconst 2, 1) := by decide +kernel
theorem d_La_law_520 : decode code 520 = .ok (.iadd, 1) := by decide +kernel
theorem d_La_law_521 : decode code 521 = .ok (.iaload, 1) := by decide +kernel
theorem d_La_law_522 : decode code 522 = .ok (.invokevirtual 104, 3) := by decide +kernel
theorem d_La_law_525 : decode code 525 = .ok (.aload_n 2, 1) := by decide +kernel
theorem d_La_law_526 : decode code 526 = .ok (.invokevirtual 79, 3) := by decide +kernel
theorem d_La_law_529 : decode code 529 = .ok (.iload 5, 2) := by decide +kernel
theorem d_La_law_531 : decode code 531 = .ok (.if_icmp .eq 5, 3) := by decide +kernel
theorem d_La_law_534 : decode code 534 = .ok (.iconst 0, 1) := by decide +kernel
theorem d_La_law_535 : decode code 535 = .ok (.ireturn, 1) := by decide +kernel
theorem d_La_law_536 : decode code 536 = .ok (.goto 498, 3) := by decide +kernel
theorem d_La_law_539 : decode code 539 = .ok (.aload_n 1, 1) := by decide +kernel
theorem d_La_law_540 : decode code 540 = .ok (.aload_n 0, 1) := by decide +kernel
theorem d_La_law_541 : decode code 541 = .ok (.iload 4, 2) := by decide +kernel
theorem d_La_law_543 : decode code 543 = .ok (.iconst 1, 1) := by decide +kernel
theorem d_La_law_544 : decode code 544 = .ok (.iadd, 1) := by decide +kernel
theorem d_La_law_545 : decode code 545 = .ok (.iaload, 1) := by decide +kernel
theorem d_La_law_546 : decode code 546 = .ok (.aload_n 0, 1) := by decide +kernel
