theorem dL_holds_168 : decode cL_holds 168 = .ok (.iconst 3, 1) := by decide +kernel
theorem dL_holds_169 : decode cL_holds 169 = .ok (.iload 9, 2) := by decide +kernel
theorem dL_holds_171 : decode cL_holds 171 = .ok (.bipush 6, 2) := by decide +kernel
theorem dL_holds_173 : decode cL_holds 173 = .ok (.iconst 0, 1) := by decide +kernel
theorem dL_holds_174 : decode cL_holds 174 = .ok (.invokestatic 138, 3) := by decide +kernel
theorem dL_holds_177 : decode cL_holds 177 = .ok (.istore 15, 2) := by decide +kernel
theorem dL_holds_179 : decode cL_holds 179 = .ok (.iload 10, 2) := by decide +kernel
theorem dL_holds_181 : decode cL_holds 181 = .ok (.iconst 1, 1) := by decide +kernel
theorem dL_holds_182 : decode cL_holds 182 = .ok (.if_icmp .eq 9, 3) := by decide +kernel
theorem dL_holds_185 : decode cL_holds 185 = .ok (.iload 10, 2) := by decide +kernel
theorem dL_holds_187 : decode cL_holds 187 = .ok (.iconst 3, 1) := by decide +kernel
theorem dL_holds_188 : decode cL_holds 188 = .ok (.if_icmp .ne 15, 3) := by decide +kernel
theorem dL_holds_191 : decode cL_holds 191 = .ok (.aload_n 0, 1) := by decide +kernel
theorem dL_holds_192 : decode cL_holds 192 = .ok (.iconst 3, 1) := by decide +kernel
theorem dL_holds_193 : decode cL_holds 193 = .ok (.iload 9, 2) := by decide +kernel
theorem dL_holds_195 : decode cL_holds 195 = .ok (.iconst 0, 1) := by decide +kernel
theorem dL_holds_196 : decode cL_holds 196 = .ok (.iconst 0, 1) := by decide +kernel
theorem dL_holds_197 : decode cL_holds 197 = .ok (.invokestatic 138, 3) := by decide +kernel
theorem dL_holds_200 : decode cL_holds 200 = .ok (.goto 32, 3) := by decide +kernel
theorem dL_holds_203 : decode cL_holds 203 = .ok (.iload 10, 2) := by decide +kernel
theorem dL_holds_205 : decode cL_holds 205 = .ok (.ifCond .eq 15, 3) := by decide +kernel
theorem dL_holds_208 : decode cL_holds 208 = .ok (.iload 10, 2) := by decide +kernel
theorem dL_holds_210 : decode cL_holds 210 = .ok (.iconst 2, 1) := by decide +kernel
theorem dL_holds_211 : decode cL_holds 211 = .ok (.if_icmp .eq 9, 3) := by decide +kernel
theorem dL_holds_214 : decode cL_holds 214 = .ok (.iload 10, 2) := by decide +kernel
theorem dL_holds_216 : decode cL_holds 216 = .ok (.iconst 5, 1) := by decide +kernel
theorem dL_holds_217 : decode cL_holds 217 = .ok (.if_icmp .ne 14, 3) := by decide +kernel
theorem dL_holds_220 : decode cL_holds 220 = .ok (.aload_n 0, 1) := by decide +kernel
theorem dL_holds_221 : decode cL_holds 221 = .ok (.iconst 5, 1) := by decide +kernel
theorem dL_holds_222 : decode cL_holds 222 = .ok (.iconst 3, 1) := by decide +kernel
theorem dL_holds_223 : decode cL_holds 223 = .ok (.iconst 0, 1) := by decide +kernel
theorem dL_holds_224 : decode cL_holds 224 = .ok (.iconst 0, 1) := by decide +kernel
theorem dL_holds_225 : decode cL_holds 225 = .ok (.invokestatic 138, 3) := by decide +kernel
theorem dL_holds_228 : decode cL_holds 228 = .ok (.goto 4, 3) := by decide +kernel
theorem dL_holds_231 : decode cL_holds 231 = .ok (.iconst 0, 1) := by decide +kernel
theorem dL_holds_232 : decode cL_holds 232 = .ok (.istore 16, 2) := by decide +kernel
theorem dL_holds_234 : decode cL_holds 234 = .ok (.iload 6, 2) := by decide +kernel
theorem dL_holds_236 : decode cL_holds 236 = .ok (.iload 16, 2) := by decide +kernel
theorem dL_holds_238 : decode cL_holds 238 = .ok (.iadd, 1) := by decide +kernel
theorem dL_holds_239 : decode cL_holds 239 = .ok (.istore 6, 2) := by decide +kernel
theorem dL_holds_241 : decode cL_holds 241 = .ok (.iload 7, 2) := by decide +kernel
theorem dL_holds_243 : decode cL_holds 243 = .ok (.iload 10, 2) := by decide +kernel
theorem dL_holds_245 : decode cL_holds 245 = .ok (.iconst 3, 1) := by decide +kernel
theorem dL_holds_246 : decode cL_holds 246 = .ok (.if_icmp .eq 9, 3) := by decide +kernel
theorem dL_holds_249 : decode cL_holds 249 = .ok (.iload 10, 2) := by decide +kernel
theorem dL_holds_251 : decode cL_holds 251 = .ok (.iconst 5, 1) := by decide +kernel
theorem dL_holds_252 : decode cL_holds 252 = .ok (.if_icmp .ne 7, 3) := by decide +kernel
theorem dL_holds_255 : decode cL_holds 255 = .ok (.iconst 1, 1) := by decide +kernel
theorem dL_holds_256 : decode cL_holds 256 = .ok (.goto 4, 3) := by decide +kernel
theorem dL_holds_259 : decode cL_holds 259 = .ok (.iconst 0, 1) := by decide +kernel
theorem dL_holds_260 : decode cL_holds 260 = .ok (.iadd, 1) := by decide +kernel
theorem dL_holds_261 : decode cL_holds 261 = .ok (.istore 7, 2) := by decide +kernel
theorem dL_holds_263 : decode cL_holds 263 = .ok (.iload 12, 2) := by decide +kernel
theorem dL_holds_265 : decode cL_holds 265 = .ok (.iload 13, 2) := by decide +kernel
theorem dL_holds_267 : decode cL_holds 267 = .ok (.if_icmp .ge 218, 3) := by decide +kernel
theorem dL_holds_270 : decode cL_holds 270 = .ok (.iload 11, 2) := by decide +kernel
theorem dL_holds_272 : decode cL_holds 272 = .ok (.sipush (-400), 3) := by decide +kernel
theorem dL_holds_275 : decode cL_holds 275 = .ok (.if_icmp .lt 210, 3) := by decide +kernel
theorem dL_holds_278 : decode cL_holds 278 = .ok (.iload 11, 2) := by decide +kernel
theorem dL_holds_280 : decode cL_holds 280 = .ok (.sipush 400, 3) := by decide +kernel
theorem dL_holds_283 : decode cL_holds 283 = .ok (.if_icmp .gt 202, 3) := by decide +kernel
theorem dL_holds_286 : decode cL_holds 286 = .ok (.iload 14, 2) := by decide +kernel
theorem dL_holds_288 : decode cL_holds 288 = .ok (.ifCond .lt 197, 3) := by decide +kernel
theorem dL_holds_291 : decode cL_holds 291 = .ok (.iload 14, 2) := by decide +kernel
theorem dL_holds_293 : decode cL_holds 293 = .ok (.bipush 100, 2) := by decide +kernel
theorem dL_holds_295 : decode cL_holds 295 = .ok (.if_icmp .gt 190, 3) := by decide +kernel
theorem dL_holds_298 : decode cL_holds 298 = .ok (.iload 15, 2) := by decide +kernel
theorem dL_holds_300 : decode cL_holds 300 = .ok (.ifCond .lt 185, 3) := by decide +kernel
theorem dL_holds_303 : decode cL_holds 303 = .ok (.iload 10, 2) := by decide +kernel
theorem dL_holds_305 : decode cL_holds 305 = .ok (.ifCond .ne 7, 3) := by decide +kernel
theorem dL_holds_308 : decode cL_holds 308 = .ok (.iconst 1, 1) := by decide +kernel
theorem dL_holds_309 : decode cL_holds 309 = .ok (.goto 4, 3) := by decide +kernel
theorem dL_holds_312 : decode cL_holds 312 = .ok (.iconst 0, 1) := by decide +kernel
theorem dL_holds_313 : decode cL_holds 313 = .ok (.iload 15, 2) := by decide +kernel
theorem dL_holds_315 : decode cL_holds 315 = .ok (.ifCond .le 7, 3) := by decide +kernel
theorem dL_holds_318 : decode cL_holds 318 = .ok (.iconst 1, 1) := by decide +kernel
theorem dL_holds_319 : decode cL_holds 319 = .ok (.goto 4, 3) := by decide +kernel
theorem dL_holds_322 : decode cL_holds 322 = .ok (.iconst 0, 1) := by decide +kernel
theorem dL_holds_323 : decode cL_holds 323 = .ok (.if_icmp .ne 162, 3) := by decide +kernel
theorem dL_holds_326 : decode cL_holds 326 = .ok (.iload 10, 2) := by decide +kernel
theorem dL_holds_328 : decode cL_holds 328 = .ok (.iconst 1, 1) := by decide +kernel
theorem dL_holds_329 : decode cL_holds 329 = .ok (.if_icmp .ne 7, 3) := by decide +kernel
theorem dL_holds_332 : decode cL_holds 332 = .ok (.iconst 1, 1) := by decide +kernel
theorem dL_holds_333 : decode cL_holds 333 = .ok (.goto 4, 3) := by decide +kernel
theorem dL_holds_336 : decode cL_holds 336 = .ok (.iconst 0, 1) := by decide +kernel
theorem dL_holds_337 : decode cL_holds 337 = .ok (.iload 15, 2) := by decide +kernel
theorem dL_holds_339 : decode cL_holds 339 = .ok (.ifCond .ne 14, 3) := by decide +kernel
theorem dL_holds_342 : decode cL_holds 342 = .ok (.iload 11, 2) := by decide +kernel
theorem dL_holds_344 : decode cL_holds 344 = .ok (.iload 13, 2) := by decide +kernel
theorem dL_holds_346 : decode cL_holds 346 = .ok (.if_icmp .lt 7, 3) := by decide +kernel
theorem dL_holds_349 : decode cL_holds 349 = .ok (.iconst 1, 1) := by decide +kernel
theorem dL_holds_350 : decode cL_holds 350 = .ok (.goto 4, 3) := by decide +kernel
theorem dL_holds_353 : decode cL_holds 353 = .ok (.iconst 0, 1) := by decide +kernel
theorem dL_holds_354 : decode cL_holds 354 = .ok (.if_icmp .ne 131, 3) := by decide +kernel
theorem dL_holds_357 : decode cL_holds 357 = .ok (.iload 10, 2) := by decide +kernel
theorem dL_holds_359 : decode cL_holds 359 = .ok (.iconst 2, 1) := by decide +kernel
theorem dL_holds_360 : decode cL_holds 360 = .ok (.if_icmp .ne 7, 3) := by decide +kernel
theorem dL_holds_363 : decode cL_holds 363 = .ok (.iconst 1, 1) := by decide +kernel
theorem dL_holds_364 : decode cL_holds 364 = .ok (.goto 4, 3) := by decide +kernel
theorem dL_holds_367 : decode cL_holds 367 = .ok (.iconst 0, 1) := by decide +kernel
theorem dL_holds_368 : decode cL_holds 368 = .ok (.iload 15, 2) := by decide +kernel
theorem dL_holds_370 : decode cL_holds 370 = .ok (.ifCond .ne 21, 3) := by decide +kernel
theorem dL_holds_373 : decode cL_holds 373 = .ok (.iload 11, 2) := by decide +kernel
theorem dL_holds_375 : decode cL_holds 375 = .ok (.iload 13, 2) := by decide +kernel
theorem dL_holds_377 : decode cL_holds 377 = .ok (.if_icmp .ge 14, 3) := by decide +kernel
theorem dL_holds_380 : decode cL_holds 380 = .ok (.iload 14, 2) := by decide +kernel
theorem dL_holds_382 : decode cL_holds 382 = .ok (.bipush 100, 2) := by decide +kernel
theorem dL_holds_384 : decode cL_holds 384 = .ok (.if_icmp .ne 7, 3) := by decide +kernel
theorem dL_holds_387 : decode cL_holds 387 = .ok (.iconst 1, 1) := by decide +kernel
theorem dL_holds_388 : decode cL_holds 388 = .ok (.goto 4, 3) := by decide +kernel
