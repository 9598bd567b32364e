theorem nd_Law_law_0 : decode nC_Law_law 0 = .ok (.new 8, 3) := by decide +kernel
theorem nd_Law_law_3 : decode nC_Law_law 3 = .ok (.dup, 1) := by decide +kernel
theorem nd_Law_law_4 : decode nC_Law_law 4 = .ok (.invokespecial 82, 3) := by decide +kernel
theorem nd_Law_law_7 : decode nC_Law_law 7 = .ok (.astore_n 1, 1) := by decide +kernel
theorem nd_Law_law_8 : decode nC_Law_law 8 = .ok (.new 83, 3) := by decide +kernel
theorem nd_Law_law_11 : decode nC_Law_law 11 = .ok (.dup, 1) := by decide +kernel
theorem nd_Law_law_12 : decode nC_Law_law 12 = .ok (.invokespecial 85, 3) := by decide +kernel
theorem nd_Law_law_15 : decode nC_Law_law 15 = .ok (.astore_n 2, 1) := by decide +kernel
theorem nd_Law_law_16 : decode nC_Law_law 16 = .ok (.iconst 1, 1) := by decide +kernel
theorem nd_Law_law_17 : decode nC_Law_law 17 = .ok (.newarray .long, 2) := by decide +kernel
theorem nd_Law_law_19 : decode nC_Law_law 19 = .ok (.astore_n 3, 1) := by decide +kernel
theorem nd_Law_law_20 : decode nC_Law_law 20 = .ok (.iconst 0, 1) := by decide +kernel
theorem nd_Law_law_21 : decode nC_Law_law 21 = .ok (.istore 4, 2) := by decide +kernel
theorem nd_Law_law_23 : decode nC_Law_law 23 = .ok (.iload 4, 2) := by decide +kernel
theorem nd_Law_law_25 : decode nC_Law_law 25 = .ok (.aload_n 0, 1) := by decide +kernel
theorem nd_Law_law_26 : decode nC_Law_law 26 = .ok (.arraylength, 1) := by decide +kernel
theorem nd_Law_law_27 : decode nC_Law_law 27 = .ok (.iconst 5, 1) := by decide +kernel
theorem nd_Law_law_28 : decode nC_Law_law 28 = .ok (.isub, 1) := by decide +kernel
theorem nd_Law_law_29 : decode nC_Law_law 29 = .ok (.if_icmp .gt 1429, 3) := by decide +kernel
theorem nd_Law_law_32 : decode nC_Law_law 32 = .ok (.aload_n 0, 1) := by decide +kernel
theorem nd_Law_law_33 : decode nC_Law_law 33 = .ok (.iload 4, 2) := by decide +kernel
theorem nd_Law_law_35 : decode nC_Law_law 35 = .ok (.iaload, 1) := by decide +kernel
theorem nd_Law_law_36 : decode nC_Law_law 36 = .ok (.bipush 31, 2) := by decide +kernel
theorem nd_Law_law_38 : decode nC_Law_law 38 = .ok (.iand, 1) := by decide +kernel
theorem nd_Law_law_39 : decode nC_Law_law 39 = .ok (.tableswitch 1413 0 22 #[105, 153, 221, 277, 345, 417, 497, 510, 523, 579, 592, 655, 722, 785, 865, 921, 1001, 1069, 1117, 1165, 1221, 1277, 1357], 105) := by decide +kernel
theorem nd_Law_law_144 : decode nC_Law_law 144 = .ok (.aload_n 1, 1) := by decide +kernel
theorem nd_Law_law_145 : decode nC_Law_law 145 = .ok (.aload_n 0, 1) := by decide +kernel
theorem nd_Law_law_146 : decode nC_Law_law 146 = .ok (.iload 4, 2) := by decide +kernel
theorem nd_Law_law_148 : decode nC_Law_law 148 = .ok (.iconst 1, 1) := by decide +kernel
theorem nd_Law_law_149 : decode nC_Law_law 149 = .ok (.iadd, 1) := by decide +kernel
theorem nd_Law_law_150 : decode nC_Law_law 150 = .ok (.iaload, 1) := by decide +kernel
theorem nd_Law_law_151 : decode nC_Law_law 151 = .ok (.aload_n 0, 1) := by decide +kernel
theorem nd_Law_law_152 : decode nC_Law_law 152 = .ok (.iload 4, 2) := by decide +kernel
theorem nd_Law_law_154 : decode nC_Law_law 154 = .ok (.iconst 2, 1) := by decide +kernel
theorem nd_Law_law_155 : decode nC_Law_law 155 = .ok (.iadd, 1) := by decide +kernel
theorem nd_Law_law_156 : decode nC_Law_law 156 = .ok (.iaload, 1) := by decide +kernel
theorem nd_Law_law_157 : decode nC_Law_law 157 = .ok (.invokestatic 86, 3) := by decide +kernel
theorem nd_Law_law_160 : decode nC_Law_law 160 = .ok (.istore 5, 2) := by decide +kernel
theorem nd_Law_law_162 : decode nC_Law_law 162 = .ok (.aload_n 2, 1) := by decide +kernel
theorem nd_Law_law_163 : decode nC_Law_law 163 = .ok (.aload_n 0, 1) := by decide +kernel
theorem nd_Law_law_164 : decode nC_Law_law 164 = .ok (.iload 4, 2) := by decide +kernel
theorem nd_Law_law_166 : decode nC_Law_law 166 = .ok (.iconst 1, 1) := by decide +kernel
theorem nd_Law_law_167 : decode nC_Law_law 167 = .ok (.iadd, 1) := by decide +kernel
theorem nd_Law_law_168 : decode nC_Law_law 168 = .ok (.iaload, 1) := by decide +kernel
theorem nd_Law_law_169 : decode nC_Law_law 169 = .ok (.aload_n 0, 1) := by decide +kernel
theorem nd_Law_law_170 : decode nC_Law_law 170 = .ok (.iload 4, 2) := by decide +kernel
theorem nd_Law_law_172 : decode nC_Law_law 172 = .ok (.iconst 2, 1) := by decide +kernel
theorem nd_Law_law_173 : decode nC_Law_law 173 = .ok (.iadd, 1) := by decide +kernel
theorem nd_Law_law_174 : decode nC_Law_law 174 = .ok (.iaload, 1) := by decide +kernel
theorem nd_Law_law_175 : decode nC_Law_law 175 = .ok (.invokevirtual 91, 3) := by decide +kernel
theorem nd_Law_law_178 : decode nC_Law_law 178 = .ok (.aload_n 2, 1) := by decide +kernel
theorem nd_Law_law_179 : decode nC_Law_law 179 = .ok (.invokevirtual 92, 3) := by decide +kernel
theorem nd_Law_law_182 : decode nC_Law_law 182 = .ok (.iload 5, 2) := by decide +kernel
theorem nd_Law_law_184 : decode nC_Law_law 184 = .ok (.if_icmp .eq 5, 3) := by decide +kernel
theorem nd_Law_law_187 : decode nC_Law_law 187 = .ok (.iconst 0, 1) := by decide +kernel
theorem nd_Law_law_188 : decode nC_Law_law 188 = .ok (.ireturn, 1) := by decide +kernel
theorem nd_Law_law_189 : decode nC_Law_law 189 = .ok (.goto 1263, 3) := by decide +kernel
theorem nd_Law_law_192 : decode nC_Law_law 192 = .ok (.aload_n 1, 1) := by decide +kernel
theorem nd_Law_law_193 : decode nC_Law_law 193 = .ok (.aload_n 0, 1) := by decide +kernel
theorem nd_Law_law_194 : decode nC_Law_law 194 = .ok (.iload 4, 2) := by decide +kernel
theorem nd_Law_law_196 : decode nC_Law_law 196 = .ok (.iconst 1, 1) := by decide +kernel
theorem nd_Law_law_197 : decode nC_Law_law 197 = .ok (.iadd, 1) := by decide +kernel
theorem nd_Law_law_198 : decode nC_Law_law 198 = .ok (.iaload, 1) := by decide +kernel
theorem nd_Law_law_199 : decode nC_Law_law 199 = .ok (.aload_n 0, 1) := by decide +kernel
theorem nd_Law_law_200 : decode nC_Law_law 200 = .ok (.iload 4, 2) := by decide +kernel
theorem nd_Law_law_202 : decode nC_Law_law 202 = .ok (.iconst 2, 1) := by decide +kernel
theorem nd_Law_law_203 : decode nC_Law_law 203 = .ok (.iadd, 1) := by decide +kernel
theorem nd_Law_law_204 : decode nC_Law_law 204 = .ok (.iaload, 1) := by decide +kernel
theorem nd_Law_law_205 : decode nC_Law_law 205 = .ok (.aload_n 3, 1) := by decide +kernel
theorem nd_Law_law_206 : decode nC_Law_law 206 = .ok (.invokestatic 96, 3) := by decide +kernel
theorem nd_Law_law_209 : decode nC_Law_law 209 = .ok (.istore 5, 2) := by decide +kernel
theorem nd_Law_law_211 : decode nC_Law_law 211 = .ok (.aload_n 2, 1) := by decide +kernel
theorem nd_Law_law_212 : decode nC_Law_law 212 = .ok (.aload_n 0, 1) := by decide +kernel
theorem nd_Law_law_213 : decode nC_Law_law 213 = .ok (.iload 4, 2) := by decide +kernel
theorem nd_Law_law_215 : decode nC_Law_law 215 = .ok (.iconst 1, 1) := by decide +kernel
theorem nd_Law_law_216 : decode nC_Law_law 216 = .ok (.iadd, 1) := by decide +kernel
theorem nd_Law_law_217 : decode nC_Law_law 217 = .ok (.iaload, 1) := by decide +kernel
theorem nd_Law_law_218 : decode nC_Law_law 218 = .ok (.aload_n 0, 1) := by decide +kernel
theorem nd_Law_law_219 : decode nC_Law_law 219 = .ok (.iload 4, 2) := by decide +kernel
theorem nd_Law_law_221 : decode nC_Law_law 221 = .ok (.iconst 2, 1) := by decide +kernel
theorem nd_Law_law_222 : decode nC_Law_law 222 = .ok (.iadd, 1) := by decide +kernel
theorem nd_Law_law_223 : decode nC_Law_law 223 = .ok (.iaload, 1) := by decide +kernel
theorem nd_Law_law_224 : decode nC_Law_law 224 = .ok (.invokevirtual 99, 3) := by decide +kernel
theorem nd_Law_law_227 : decode nC_Law_law 227 = .ok (.istore 6, 2) := by decide +kernel
theorem nd_Law_law_229 : decode nC_Law_law 229 = .ok (.aload_n 2, 1) := by decide +kernel
theorem nd_Law_law_230 : decode nC_Law_law 230 = .ok (.invokevirtual 92, 3) := by decide +kernel
theorem nd_Law_law_233 : decode nC_Law_law 233 = .ok (.iload 5, 2) := by decide +kernel
theorem nd_Law_law_235 : decode nC_Law_law 235 = .ok (.if_icmp .eq 5, 3) := by decide +kernel
theorem nd_Law_law_238 : decode nC_Law_law 238 = .ok (.iconst 0, 1) := by decide +kernel
theorem nd_Law_law_239 : decode nC_Law_law 239 = .ok (.ireturn, 1) := by decide +kernel
theorem nd_Law_law_240 : decode nC_Law_law 240 = .ok (.iload 5, 2) := by decide +kernel
theorem nd_Law_law_242 : decode nC_Law_law 242 = .ok (.ifCond .ne 15, 3) := by decide +kernel
theorem nd_Law_law_245 : decode nC_Law_law 245 = .ok (.aload_n 3, 1) := by decide +kernel
theorem nd_Law_law_246 : decode nC_Law_law 246 = .ok (.iconst 0, 1) := by decide +kernel
theorem nd_Law_law_247 : decode nC_Law_law 247 = .ok (.laload, 1) := by decide +kernel
theorem nd_Law_law_248 : decode nC_Law_law 248 = .ok (.iload 6, 2) := by decide +kernel
theorem nd_Law_law_250 : decode nC_Law_law 250 = .ok (.i2l, 1) := by decide +kernel
theorem nd_Law_law_251 : decode nC_Law_law 251 = .ok (.lcmp, 1) := by decide +kernel
theorem nd_Law_law_252 : decode nC_Law_law 252 = .ok (.ifCond .eq 5, 3) := by decide +kernel
theorem nd_Law_law_255 : decode nC_Law_law 255 = .ok (.iconst 0, 1) := by decide +kernel
theorem nd_Law_law_256 : decode nC_Law_law 256 = .ok (.ireturn, 1) := by decide +kernel
theorem nd_Law_law_257 : decode nC_Law_law 257 = .ok (.goto 1195, 3) := by decide +kernel
theorem nd_Law_law_260 : decode nC_Law_law 260 = .ok (.aload_n 1, 1) := by decide +kernel
theorem nd_Law_law_261 : decode nC_Law_law 261 = .ok (.aload_n 0, 1) := by decide +kernel
theorem nd_Law_law_262 : decode nC_Law_law 262 = .ok (.iload 4, 2) := by decide +kernel
theorem nd_Law_law_264 : decode nC_Law_law 264 = .ok (.iconst 1, 1) := by decide +kernel
theorem nd_Law_law_265 : decode nC_Law_law 265 = .ok (.iadd, 1) := by decide +kernel
theorem nd_Law_law_266 : decode nC_Law_law 266 = .ok (.iaload, 1) := by decide +kernel
theorem nd_Law_law_267 : decode nC_Law_law 267 = .ok (.aload_n 3, 1) := by decide +kernel
theorem nd_Law_law_268 : decode nC_Law_law 268 = .ok (.invokestatic 100, 3) := by decide +kernel
theorem nd_Law_law_271 : decode nC_Law_law 271 = .ok (.istore 5, 2) := by decide +kernel
theorem nd_Law_law_273 : decode nC_Law_law 273 = .ok (.aload_n 2, 1) := by decide +kernel
theorem nd_Law_law_274 : decode nC_Law_law 274 = .ok (.aload_n 0, 1) := by decide +kernel
theorem nd_Law_law_275 : decode nC_Law_law 275 = .ok (.iload 4, 2) := by decide +kernel
theorem nd_Law_law_277 : decode nC_Law_law 277 = .ok (.iconst 1, 1) := by decide +kernel
theorem nd_Law_law_278 : decode nC_Law_law 278 = .ok (.iadd, 1) := by decide +kernel
theorem nd_Law_law_279 : decode nC_Law_law 279 = .ok (.iaload, 1) := by decide +kernel
theorem nd_Law_law_280 : decode nC_Law_law 280 = .ok (.invokevirtual 103, 3) := by decide +kernel
theorem nd_Law_law_283 : decode nC_Law_law 283 = .ok (.istore 6, 2) := by decide +kernel
theorem nd_Law_law_285 : decode nC_Law_law 285 = .ok (.aload_n 2, 1) := by decide +kernel
theorem nd_Law_law_286 : decode nC_Law_law 286 = .ok (.invokevirtual 92, 3) := by decide +kernel
theorem nd_Law_law_289 : decode nC_Law_law 289 = .ok (.iload 5, 2) := by decide +kernel
theorem nd_Law_law_291 : decode nC_Law_law 291 = .ok (.if_icmp .eq 5, 3) := by decide +kernel
theorem nd_Law_law_294 : decode nC_Law_law 294 = .ok (.iconst 0, 1) := by decide +kernel
theorem nd_Law_law_295 : decode nC_Law_law 295 = .ok (.ireturn, 1) := by decide +kernel
theorem nd_Law_law_296 : decode nC_Law_law 296 = .ok (.iload 5, 2) := by decide +kernel
theorem nd_Law_law_298 : decode nC_Law_law 298 = .ok (.ifCond .ne 15, 3) := by decide +kernel
theorem nd_Law_law_301 : decode nC_Law_law 301 = .ok (.aload_n 3, 1) := by decide +kernel
theorem nd_Law_law_302 : decode nC_Law_law 302 = .ok (.iconst 0, 1) := by decide +kernel
theorem nd_Law_law_303 : decode nC_Law_law 303 = .ok (.laload, 1) := by decide +kernel
theorem nd_Law_law_304 : decode nC_Law_law 304 = .ok (.iload 6, 2) := by decide +kernel
theorem nd_Law_law_306 : decode nC_Law_law 306 = .ok (.i2l, 1) := by decide +kernel
theorem nd_Law_law_307 : decode nC_Law_law 307 = .ok (.lcmp, 1) := by decide +kernel
theorem nd_Law_law_308 : decode nC_Law_law 308 = .ok (.ifCond .eq 5, 3) := by decide +kernel
theorem nd_Law_law_311 : decode nC_Law_law 311 = .ok (.iconst 0, 1) := by decide +kernel
theorem nd_Law_law_312 : decode nC_Law_law 312 = .ok (.ireturn, 1) := by decide +kernel
theorem nd_Law_law_313 : decode nC_Law_law 313 = .ok (.goto 1139, 3) := by decide +kernel
theorem nd_Law_law_316 : decode nC_Law_law 316 = .ok (.aload_n 1, 1) := by decide +kernel
theorem nd_Law_law_317 : decode nC_Law_law 317 = .ok (.aload_n 0, 1) := by decide +kernel
theorem nd_Law_law_318 : decode nC_Law_law 318 = .ok (.iload 4, 2) := by decide +kernel
theorem nd_Law_law_320 : decode nC_Law_law 320 = .ok (.iconst 1, 1) := by decide +kernel
theorem nd_Law_law_321 : decode nC_Law_law 321 = .ok (.iadd, 1) := by decide +kernel
theorem nd_Law_law_322 : decode nC_Law_law 322 = .ok (.iaload, 1) := by decide +kernel
theorem nd_Law_law_323 : decode nC_Law_law 323 = .ok (.aload_n 0, 1) := by decide +kernel
theorem nd_Law_law_324 : decode nC_Law_law 324 = .ok (.iload 4, 2) := by decide +kernel
theorem nd_Law_law_326 : decode nC_Law_law 326 = .ok (.iconst 2, 1) := by decide +kernel
theorem nd_Law_law_327 : decode nC_Law_law 327 = .ok (.iadd, 1) := by decide +kernel
theorem nd_Law_law_328 : decode nC_Law_law 328 = .ok (.iaload, 1) := by decide +kernel
theorem nd_Law_law_329 : decode nC_Law_law 329 = .ok (.aload_n 3, 1) := by decide +kernel
theorem nd_Law_law_330 : decode nC_Law_law 330 = .ok (.invokestatic 104, 3) := by decide +kernel
theorem nd_Law_law_333 : decode nC_Law_law 333 = .ok (.istore 5, 2) := by decide +kernel
theorem nd_Law_law_335 : decode nC_Law_law 335 = .ok (.aload_n 2, 1) := by decide +kernel
theorem nd_Law_law_336 : decode nC_Law_law 336 = .ok (.aload_n 0, 1) := by decide +kernel
theorem nd_Law_law_337 : decode nC_Law_law 337 = .ok (.iload 4, 2) := by decide +kernel
theorem nd_Law_law_339 : decode nC_Law_law 339 = .ok (.iconst 1, 1) := by decide +kernel
theorem nd_Law_law_340 : decode nC_Law_law 340 = .ok (.iadd, 1) := by decide +kernel
theorem nd_Law_law_341 : decode nC_Law_law 341 = .ok (.iaload, 1) := by decide +kernel
theorem nd_Law_law_342 : decode nC_Law_law 342 = .ok (.aload_n 0, 1) := by decide +kernel
theorem nd_Law_law_343 : decode nC_Law_law 343 = .ok (.iload 4, 2) := by decide +kernel
theorem nd_Law_law_345 : decode nC_Law_law 345 = .ok (.iconst 2, 1) := by decide +kernel
theorem nd_Law_law_346 : decode nC_Law_law 346 = .ok (.iadd, 1) := by decide +kernel
theorem nd_Law_law_347 : decode nC_Law_law 347 = .ok (.iaload, 1) := by decide +kernel
theorem nd_Law_law_348 : decode nC_Law_law 348 = .ok (.invokevirtual 106, 3) := by decide +kernel
theorem nd_Law_law_351 : decode nC_Law_law 351 = .ok (.istore 6, 2) := by decide +kernel
theorem nd_Law_law_353 : decode nC_Law_law 353 = .ok (.aload_n 2, 1) := by decide +kernel
theorem nd_Law_law_354 : decode nC_Law_law 354 = .ok (.invokevirtual 92, 3) := by decide +kernel
theorem nd_Law_law_357 : decode nC_Law_law 357 = .ok (.iload 5, 2) := by decide +kernel
theorem nd_Law_law_359 : decode nC_Law_law 359 = .ok (.if_icmp .eq 5, 3) := by decide +kernel
theorem nd_Law_law_362 : decode nC_Law_law 362 = .ok (.iconst 0, 1) := by decide +kernel
theorem nd_Law_law_363 : decode nC_Law_law 363 = .ok (.ireturn, 1) := by decide +kernel
theorem nd_Law_law_364 : decode nC_Law_law 364 = .ok (.iload 5, 2) := by decide +kernel
theorem nd_Law_law_366 : decode nC_Law_law 366 = .ok (.ifCond .ne 15, 3) := by decide +kernel
theorem nd_Law_law_369 : decode nC_Law_law 369 = .ok (.aload_n 3, 1) := by decide +kernel
theorem nd_Law_law_370 : decode nC_Law_law 370 = .ok (.iconst 0, 1) := by decide +kernel
theorem nd_Law_law_371 : decode nC_Law_law 371 = .ok (.laload, 1) := by decide +kernel
theorem nd_Law_law_372 : decode nC_Law_law 372 = .ok (.iload 6, 2) := by decide +kernel
theorem nd_Law_law_374 : decode nC_Law_law 374 = .ok (.i2l, 1) := by decide +kernel
theorem nd_Law_law_375 : decode nC_Law_law 375 = .ok (.lcmp, 1) := by decide +kernel
theorem nd_Law_law_376 : decode nC_Law_law 376 = .ok (.ifCond .eq 5, 3) := by decide +kernel
theorem nd_Law_law_379 : decode nC_Law_law 379 = .ok (.iconst 0, 1) := by decide +kernel
theorem nd_Law_law_380 : decode nC_Law_law 380 = .ok (.ireturn, 1) := by decide +kernel
theorem nd_Law_law_381 : decode nC_Law_law 381 = .ok (.goto 1071, 3) := by decide +kernel
theorem nd_Law_law_384 : decode nC_Law_law 384 = .ok (.aload_n 1, 1) := by decide +kernel
theorem nd_Law_law_385 : decode nC_Law_law 385 = .ok (.aload_n 0, 1) := by decide +kernel
theorem nd_Law_law_386 : decode nC_Law_law 386 = .ok (.iload 4, 2) := by decide +kernel
theorem nd_Law_law_388 : decode nC_Law_law 388 = .ok (.iconst 1, 1) := by decide +kernel
theorem nd_Law_law_389 : decode nC_Law_law 389 = .ok (.iadd, 1) := by decide +kernel
theorem nd_Law_law_390 : decode nC_Law_law 390 = .ok (.iaload, 1) := by decide +kernel
theorem nd_Law_law_391 : decode nC_Law_law 391 = .ok (.aload_n 0, 1) := by decide +kernel
theorem nd_Law_law_392 : decode nC_Law_law 392 = .ok (.iload 4, 2) := by decide +kernel
theorem nd_Law_law_394 : decode nC_Law_law 394 = .ok (.iconst 2, 1) := by decide +kernel
theorem nd_Law_law_395 : decode nC_Law_law 395 = .ok (.iadd, 1) := by decide +kernel
theorem nd_Law_law_396 : decode nC_Law_law 396 = .ok (.iaload, 1) := by decide +kernel
theorem nd_Law_law_397 : decode nC_Law_law 397 = .ok (.aload_n 0, 1) := by decide +kernel
theorem nd_Law_law_398 : decode nC_Law_law 398 = .ok (.iload 4, 2) := by decide +kernel
theorem nd_Law_law_400 : decode nC_Law_law 400 = .ok (.iconst 3, 1) := by decide +kernel
theorem nd_Law_law_401 : decode nC_Law_law 401 = .ok (.iadd, 1) := by decide +kernel
theorem nd_Law_law_402 : decode nC_Law_law 402 = .ok (.iaload, 1) := by decide +kernel
theorem nd_Law_law_403 : decode nC_Law_law 403 = .ok (.aload_n 0, 1) := by decide +kernel
theorem nd_Law_law_404 : decode nC_Law_law 404 = .ok (.iload 4, 2) := by decide +kernel
theorem nd_Law_law_406 : decode nC_Law_law 406 = .ok (.iconst 4, 1) := by decide +kernel
theorem nd_Law_law_407 : decode nC_Law_law 407 = .ok (.iadd, 1) := by decide +kernel
theorem nd_Law_law_408 : decode nC_Law_law 408 = .ok (.iaload, 1) := by decide +kernel
theorem nd_Law_law_409 : decode nC_Law_law 409 = .ok (.invokestatic 107, 3) := by decide +kernel
theorem nd_Law_law_412 : decode nC_Law_law 412 = .ok (.istore 5, 2) := by decide +kernel
theorem nd_Law_law_414 : decode nC_Law_law 414 = .ok (.aload_n 2, 1) := by decide +kernel
theorem nd_Law_law_415 : decode nC_Law_law 415 = .ok (.aload_n 0, 1) := by decide +kernel
theorem nd_Law_law_416 : decode nC_Law_law 416 = .ok (.iload 4, 2) := by decide +kernel
theorem nd_Law_law_418 : decode nC_Law_law 418 = .ok (.iconst 1, 1) := by decide +kernel
theorem nd_Law_law_419 : decode nC_Law_law 419 = .ok (.iadd, 1) := by decide +kernel
theorem nd_Law_law_420 : decode nC_Law_law 420 = .ok (.iaload, 1) := by decide +kernel
theorem nd_Law_law_421 : decode nC_Law_law 421 = .ok (.aload_n 0, 1) := by decide +kernel
theorem nd_Law_law_422 : decode nC_Law_law 422 = .ok (.iload 4, 2) := by decide +kernel
theorem nd_Law_law_424 : decode nC_Law_law 424 = .ok (.iconst 2, 1) := by decide +kernel
theorem nd_Law_law_425 : decode nC_Law_law 425 = .ok (.iadd, 1) := by decide +kernel
theorem nd_Law_law_426 : decode nC_Law_law 426 = .ok (.iaload, 1) := by decide +kernel
theorem nd_Law_law_427 : decode nC_Law_law 427 = .ok (.aload_n 0, 1) := by decide +kernel
theorem nd_Law_law_428 : decode nC_Law_law 428 = .ok (.iload 4, 2) := by decide +kernel
theorem nd_Law_law_430 : decode nC_Law_law 430 = .ok (.iconst 3, 1) := by decide +kernel
theorem nd_Law_law_431 : decode nC_Law_law 431 = .ok (.iadd, 1) := by decide +kernel
theorem nd_Law_law_432 : decode nC_Law_law 432 = .ok (.iaload, 1) := by decide +kernel
theorem nd_Law_law_433 : decode nC_Law_law 433 = .ok (.aload_n 0, 1) := by decide +kernel
theorem nd_Law_law_434 : decode nC_Law_law 434 = .ok (.iload 4, 2) := by decide +kernel
theorem nd_Law_law_436 : decode nC_Law_law 436 = .ok (.iconst 4, 1) := by decide +kernel
theorem nd_Law_law_437 : decode nC_Law_law 437 = .ok (.iadd, 1) := by decide +kernel
theorem nd_Law_law_438 : decode nC_Law_law 438 = .ok (.iaload, 1) := by decide +kernel
theorem nd_Law_law_439 : decode nC_Law_law 439 = .ok (.invokevirtual 110, 3) := by decide +kernel
theorem nd_Law_law_442 : decode nC_Law_law 442 = .ok (.aload_n 2, 1) := by decide +kernel
theorem nd_Law_law_443 : decode nC_Law_law 443 = .ok (.invokevirtual 92, 3) := by decide +kernel
theorem nd_Law_law_446 : decode nC_Law_law 446 = .ok (.iload 5, 2) := by decide +kernel
theorem nd_Law_law_448 : decode nC_Law_law 448 = .ok (.if_icmp .eq 5, 3) := by decide +kernel
theorem nd_Law_law_451 : decode nC_Law_law 451 = .ok (.iconst 0, 1) := by decide +kernel
theorem nd_Law_law_452 : decode nC_Law_law 452 = .ok (.ireturn, 1) := by decide +kernel
theorem nd_Law_law_453 : decode nC_Law_law 453 = .ok (.goto 999, 3) := by decide +kernel
theorem nd_Law_law_456 : decode nC_Law_law 456 = .ok (.aload_n 1, 1) := by decide +kernel
theorem nd_Law_law_457 : decode nC_Law_law 457 = .ok (.aload_n 0, 1) := by decide +kernel
theorem nd_Law_law_458 : decode nC_Law_law 458 = .ok (.iload 4, 2) := by decide +kernel
theorem nd_Law_law_460 : decode nC_Law_law 460 = .ok (.iconst 1, 1) := by decide +kernel
theorem nd_Law_law_461 : decode nC_Law_law 461 = .ok (.iadd, 1) := by decide +kernel
theorem nd_Law_law_462 : decode nC_Law_law 462 = .ok (.iaload, 1) := by decide +kernel
theorem nd_Law_law_463 : decode nC_Law_law 463 = .ok (.aload_n 0, 1) := by decide +kernel
theorem nd_Law_law_464 : decode nC_Law_law 464 = .ok (.iload 4, 2) := by decide +kernel
theorem nd_Law_law_466 : decode nC_Law_law 466 = .ok (.iconst 2, 1) := by decide +kernel
theorem nd_Law_law_467 : decode nC_Law_law 467 = .ok (.iadd, 1) := by decide +kernel
theorem nd_Law_law_468 : decode nC_Law_law 468 = .ok (.iaload, 1) := by decide +kernel
theorem nd_Law_law_469 : decode nC_Law_law 469 = .ok (.aload_n 0, 1) := by decide +kernel
theorem nd_Law_law_470 : decode nC_Law_law 470 = .ok (.iload 4, 2) := by decide +kernel
theorem nd_Law_law_472 : decode nC_Law_law 472 = .ok (.iconst 3, 1) := by decide +kernel
theorem nd_Law_law_473 : decode nC_Law_law 473 = .ok (.iadd, 1) := by decide +kernel
theorem nd_Law_law_474 : decode nC_Law_law 474 = .ok (.iaload, 1) := by decide +kernel
