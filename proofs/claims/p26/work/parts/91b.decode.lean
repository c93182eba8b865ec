theorem dL_minute_186 : decode cL_minute 186 = .ok (.iadd, 1) := by decide +kernel
theorem dL_minute_187 : decode cL_minute 187 = .ok (.iconst 4, 1) := by decide +kernel
theorem dL_minute_188 : decode cL_minute 188 = .ok (.iload 9, 2) := by decide +kernel
theorem dL_minute_190 : decode cL_minute 190 = .ok (.imul, 1) := by decide +kernel
theorem dL_minute_191 : decode cL_minute 191 = .ok (.iadd, 1) := by decide +kernel
theorem dL_minute_192 : decode cL_minute 192 = .ok (.istore 15, 2) := by decide +kernel
theorem dL_minute_194 : decode cL_minute 194 = .ok (.iload 15, 2) := by decide +kernel
theorem dL_minute_196 : decode cL_minute 196 = .ok (.sipush 400, 3) := by decide +kernel
theorem dL_minute_199 : decode cL_minute 199 = .ok (.if_icmp .le 9, 3) := by decide +kernel
theorem dL_minute_202 : decode cL_minute 202 = .ok (.sipush 400, 3) := by decide +kernel
theorem dL_minute_205 : decode cL_minute 205 = .ok (.goto 19, 3) := by decide +kernel
theorem dL_minute_208 : decode cL_minute 208 = .ok (.iload 15, 2) := by decide +kernel
theorem dL_minute_210 : decode cL_minute 210 = .ok (.sipush (-400), 3) := by decide +kernel
theorem dL_minute_213 : decode cL_minute 213 = .ok (.if_icmp .ge 9, 3) := by decide +kernel
theorem dL_minute_216 : decode cL_minute 216 = .ok (.sipush (-400), 3) := by decide +kernel
theorem dL_minute_219 : decode cL_minute 219 = .ok (.goto 5, 3) := by decide +kernel
theorem dL_minute_222 : decode cL_minute 222 = .ok (.iload 15, 2) := by decide +kernel
theorem dL_minute_224 : decode cL_minute 224 = .ok (.istore 15, 2) := by decide +kernel
theorem dL_minute_226 : decode cL_minute 226 = .ok (.iload 14, 2) := by decide +kernel
theorem dL_minute_228 : decode cL_minute 228 = .ok (.ifCond .eq 22, 3) := by decide +kernel
theorem dL_minute_231 : decode cL_minute 231 = .ok (.iload 7, 2) := by decide +kernel
theorem dL_minute_233 : decode cL_minute 233 = .ok (.bipush 10, 2) := by decide +kernel
theorem dL_minute_235 : decode cL_minute 235 = .ok (.if_icmp .le 11, 3) := by decide +kernel
theorem dL_minute_238 : decode cL_minute 238 = .ok (.iload 7, 2) := by decide +kernel
theorem dL_minute_240 : decode cL_minute 240 = .ok (.bipush 10, 2) := by decide +kernel
theorem dL_minute_242 : decode cL_minute 242 = .ok (.isub, 1) := by decide +kernel
theorem dL_minute_243 : decode cL_minute 243 = .ok (.goto 25, 3) := by decide +kernel
theorem dL_minute_246 : decode cL_minute 246 = .ok (.iconst 0, 1) := by decide +kernel
theorem dL_minute_247 : decode cL_minute 247 = .ok (.goto 21, 3) := by decide +kernel
theorem dL_minute_250 : decode cL_minute 250 = .ok (.iload 7, 2) := by decide +kernel
theorem dL_minute_252 : decode cL_minute 252 = .ok (.iload 13, 2) := by decide +kernel
theorem dL_minute_254 : decode cL_minute 254 = .ok (.ifCond .eq 7, 3) := by decide +kernel
theorem dL_minute_257 : decode cL_minute 257 = .ok (.iconst 1, 1) := by decide +kernel
theorem dL_minute_258 : decode cL_minute 258 = .ok (.goto 4, 3) := by decide +kernel
theorem dL_minute_261 : decode cL_minute 261 = .ok (.iconst 0, 1) := by decide +kernel
theorem dL_minute_262 : decode cL_minute 262 = .ok (.iadd, 1) := by decide +kernel
theorem dL_minute_263 : decode cL_minute 263 = .ok (.iconst 2, 1) := by decide +kernel
theorem dL_minute_264 : decode cL_minute 264 = .ok (.iload 9, 2) := by decide +kernel
theorem dL_minute_266 : decode cL_minute 266 = .ok (.imul, 1) := by decide +kernel
theorem dL_minute_267 : decode cL_minute 267 = .ok (.iadd, 1) := by decide +kernel
theorem dL_minute_268 : decode cL_minute 268 = .ok (.istore 16, 2) := by decide +kernel
theorem dL_minute_270 : decode cL_minute 270 = .ok (.aload_n 0, 1) := by decide +kernel
theorem dL_minute_271 : decode cL_minute 271 = .ok (.bipush 8, 2) := by decide +kernel
theorem dL_minute_273 : decode cL_minute 273 = .ok (.iconst 1, 1) := by decide +kernel
theorem dL_minute_274 : decode cL_minute 274 = .ok (.iconst 0, 1) := by decide +kernel
theorem dL_minute_275 : decode cL_minute 275 = .ok (.iconst 0, 1) := by decide +kernel
theorem dL_minute_276 : decode cL_minute 276 = .ok (.invokestatic 138, 3) := by decide +kernel
theorem dL_minute_279 : decode cL_minute 279 = .ok (.iload 10, 2) := by decide +kernel
theorem dL_minute_281 : decode cL_minute 281 = .ok (.if_icmp .ne 135, 3) := by decide +kernel
theorem dL_minute_284 : decode cL_minute 284 = .ok (.aload_n 1, 1) := by decide +kernel
theorem dL_minute_285 : decode cL_minute 285 = .ok (.bipush 8, 2) := by decide +kernel
theorem dL_minute_287 : decode cL_minute 287 = .ok (.iconst 1, 1) := by decide +kernel
theorem dL_minute_288 : decode cL_minute 288 = .ok (.iconst 0, 1) := by decide +kernel
theorem dL_minute_289 : decode cL_minute 289 = .ok (.iconst 0, 1) := by decide +kernel
theorem dL_minute_290 : decode cL_minute 290 = .ok (.invokestatic 138, 3) := by decide +kernel
theorem dL_minute_293 : decode cL_minute 293 = .ok (.iload 10, 2) := by decide +kernel
theorem dL_minute_295 : decode cL_minute 295 = .ok (.if_icmp .ne 121, 3) := by decide +kernel
theorem dL_minute_298 : decode cL_minute 298 = .ok (.aload_n 0, 1) := by decide +kernel
theorem dL_minute_299 : decode cL_minute 299 = .ok (.iconst 3, 1) := by decide +kernel
theorem dL_minute_300 : decode cL_minute 300 = .ok (.iload 4, 2) := by decide +kernel
theorem dL_minute_302 : decode cL_minute 302 = .ok (.iconst 3, 1) := by decide +kernel
theorem dL_minute_303 : decode cL_minute 303 = .ok (.iconst 0, 1) := by decide +kernel
theorem dL_minute_304 : decode cL_minute 304 = .ok (.invokestatic 138, 3) := by decide +kernel
theorem dL_minute_307 : decode cL_minute 307 = .ok (.iload 15, 2) := by decide +kernel
theorem dL_minute_309 : decode cL_minute 309 = .ok (.if_icmp .ne 107, 3) := by decide +kernel
theorem dL_minute_312 : decode cL_minute 312 = .ok (.aload_n 0, 1) := by decide +kernel
theorem dL_minute_313 : decode cL_minute 313 = .ok (.iconst 3, 1) := by decide +kernel
theorem dL_minute_314 : decode cL_minute 314 = .ok (.iload 4, 2) := by decide +kernel
theorem dL_minute_316 : decode cL_minute 316 = .ok (.iconst 5, 1) := by decide +kernel
theorem dL_minute_317 : decode cL_minute 317 = .ok (.iconst 0, 1) := by decide +kernel
theorem dL_minute_318 : decode cL_minute 318 = .ok (.invokestatic 138, 3) := by decide +kernel
theorem dL_minute_321 : decode cL_minute 321 = .ok (.iload 16, 2) := by decide +kernel
theorem dL_minute_323 : decode cL_minute 323 = .ok (.bipush 100, 2) := by decide +kernel
theorem dL_minute_325 : decode cL_minute 325 = .ok (.if_icmp .le 8, 3) := by decide +kernel
theorem dL_minute_328 : decode cL_minute 328 = .ok (.bipush 100, 2) := by decide +kernel
theorem dL_minute_330 : decode cL_minute 330 = .ok (.goto 5, 3) := by decide +kernel
theorem dL_minute_333 : decode cL_minute 333 = .ok (.iload 16, 2) := by decide +kernel
theorem dL_minute_335 : decode cL_minute 335 = .ok (.if_icmp .ne 81, 3) := by decide +kernel
theorem dL_minute_338 : decode cL_minute 338 = .ok (.aload_n 0, 1) := by decide +kernel
theorem dL_minute_339 : decode cL_minute 339 = .ok (.iconst 3, 1) := by decide +kernel
theorem dL_minute_340 : decode cL_minute 340 = .ok (.iload 4, 2) := by decide +kernel
theorem dL_minute_342 : decode cL_minute 342 = .ok (.bipush 7, 2) := by decide +kernel
theorem dL_minute_344 : decode cL_minute 344 = .ok (.iconst 0, 1) := by decide +kernel
theorem dL_minute_345 : decode cL_minute 345 = .ok (.invokestatic 138, 3) := by decide +kernel
theorem dL_minute_348 : decode cL_minute 348 = .ok (.iload 8, 2) := by decide +kernel
theorem dL_minute_350 : decode cL_minute 350 = .ok (.iload 13, 2) := by decide +kernel
theorem dL_minute_352 : decode cL_minute 352 = .ok (.ifCond .eq 7, 3) := by decide +kernel
theorem dL_minute_355 : decode cL_minute 355 = .ok (.iconst 1, 1) := by decide +kernel
theorem dL_minute_356 : decode cL_minute 356 = .ok (.goto 4, 3) := by decide +kernel
theorem dL_minute_359 : decode cL_minute 359 = .ok (.iconst 0, 1) := by decide +kernel
theorem dL_minute_360 : decode cL_minute 360 = .ok (.iadd, 1) := by decide +kernel
theorem dL_minute_361 : decode cL_minute 361 = .ok (.if_icmp .ne 55, 3) := by decide +kernel
theorem dL_minute_364 : decode cL_minute 364 = .ok (.aload_n 0, 1) := by decide +kernel
theorem dL_minute_365 : decode cL_minute 365 = .ok (.iconst 2, 1) := by decide +kernel
theorem dL_minute_366 : decode cL_minute 366 = .ok (.bipush 8, 2) := by decide +kernel
theorem dL_minute_368 : decode cL_minute 368 = .ok (.iconst 0, 1) := by decide +kernel
theorem dL_minute_369 : decode cL_minute 369 = .ok (.iconst 0, 1) := by decide +kernel
theorem dL_minute_370 : decode cL_minute 370 = .ok (.invokestatic 138, 3) := by decide +kernel
theorem dL_minute_373 : decode cL_minute 373 = .ok (.iload 11, 2) := by decide +kernel
theorem dL_minute_375 : decode cL_minute 375 = .ok (.if_icmp .ne 41, 3) := by decide +kernel
theorem dL_minute_378 : decode cL_minute 378 = .ok (.iload 15, 2) := by decide +kernel
theorem dL_minute_380 : decode cL_minute 380 = .ok (.aload_n 0, 1) := by decide +kernel
theorem dL_minute_381 : decode cL_minute 381 = .ok (.iconst 3, 1) := by decide +kernel
theorem dL_minute_382 : decode cL_minute 382 = .ok (.iload 4, 2) := by decide +kernel
theorem dL_minute_384 : decode cL_minute 384 = .ok (.iconst 2, 1) := by decide +kernel
theorem dL_minute_385 : decode cL_minute 385 = .ok (.iconst 0, 1) := by decide +kernel
theorem dL_minute_386 : decode cL_minute 386 = .ok (.invokestatic 138, 3) := by decide +kernel
theorem dL_minute_389 : decode cL_minute 389 = .ok (.if_icmp .lt 17, 3) := by decide +kernel
theorem dL_minute_392 : decode cL_minute 392 = .ok (.iload 12, 2) := by decide +kernel
theorem dL_minute_394 : decode cL_minute 394 = .ok (.ifCond .eq 18, 3) := by decide +kernel
