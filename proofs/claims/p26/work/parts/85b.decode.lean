theorem dL_refuses_175 : decode cL_refuses 175 = .ok (.bipush 6, 2) := by decide +kernel
theorem dL_refuses_177 : decode cL_refuses 177 = .ok (.iconst 1, 1) := by decide +kernel
theorem dL_refuses_178 : decode cL_refuses 178 = .ok (.iload_n 1, 1) := by decide +kernel
theorem dL_refuses_179 : decode cL_refuses 179 = .ok (.bipush 50, 2) := by decide +kernel
theorem dL_refuses_181 : decode cL_refuses 181 = .ok (.irem, 1) := by decide +kernel
theorem dL_refuses_182 : decode cL_refuses 182 = .ok (.iadd, 1) := by decide +kernel
theorem dL_refuses_183 : decode cL_refuses 183 = .ok (.iload_n 3, 1) := by decide +kernel
theorem dL_refuses_184 : decode cL_refuses 184 = .ok (.iload_n 3, 1) := by decide +kernel
theorem dL_refuses_185 : decode cL_refuses 185 = .ok (.iload_n 1, 1) := by decide +kernel
theorem dL_refuses_186 : decode cL_refuses 186 = .ok (.bipush 9, 2) := by decide +kernel
theorem dL_refuses_188 : decode cL_refuses 188 = .ok (.irem, 1) := by decide +kernel
theorem dL_refuses_189 : decode cL_refuses 189 = .ok (.isub, 1) := by decide +kernel
theorem dL_refuses_190 : decode cL_refuses 190 = .ok (.invokestatic 138, 3) := by decide +kernel
theorem dL_refuses_193 : decode cL_refuses 193 = .ok (.ldc 22, 2) := by decide +kernel
theorem dL_refuses_195 : decode cL_refuses 195 = .ok (.if_icmp .ne 390, 3) := by decide +kernel
theorem dL_refuses_198 : decode cL_refuses 198 = .ok (.aload_n 0, 1) := by decide +kernel
theorem dL_refuses_199 : decode cL_refuses 199 = .ok (.bipush 6, 2) := by decide +kernel
theorem dL_refuses_201 : decode cL_refuses 201 = .ok (.iconst 1, 1) := by decide +kernel
theorem dL_refuses_202 : decode cL_refuses 202 = .ok (.iload_n 1, 1) := by decide +kernel
theorem dL_refuses_203 : decode cL_refuses 203 = .ok (.bipush 50, 2) := by decide +kernel
theorem dL_refuses_205 : decode cL_refuses 205 = .ok (.irem, 1) := by decide +kernel
theorem dL_refuses_206 : decode cL_refuses 206 = .ok (.iadd, 1) := by decide +kernel
theorem dL_refuses_207 : decode cL_refuses 207 = .ok (.iload_n 3, 1) := by decide +kernel
theorem dL_refuses_208 : decode cL_refuses 208 = .ok (.sipush 201, 3) := by decide +kernel
theorem dL_refuses_211 : decode cL_refuses 211 = .ok (.iload_n 1, 1) := by decide +kernel
theorem dL_refuses_212 : decode cL_refuses 212 = .ok (.bipush 9, 2) := by decide +kernel
theorem dL_refuses_214 : decode cL_refuses 214 = .ok (.irem, 1) := by decide +kernel
theorem dL_refuses_215 : decode cL_refuses 215 = .ok (.iadd, 1) := by decide +kernel
theorem dL_refuses_216 : decode cL_refuses 216 = .ok (.invokestatic 138, 3) := by decide +kernel
theorem dL_refuses_219 : decode cL_refuses 219 = .ok (.ldc 22, 2) := by decide +kernel
theorem dL_refuses_221 : decode cL_refuses 221 = .ok (.if_icmp .ne 364, 3) := by decide +kernel
theorem dL_refuses_224 : decode cL_refuses 224 = .ok (.aload_n 0, 1) := by decide +kernel
theorem dL_refuses_225 : decode cL_refuses 225 = .ok (.bipush 6, 2) := by decide +kernel
theorem dL_refuses_227 : decode cL_refuses 227 = .ok (.iconst 1, 1) := by decide +kernel
theorem dL_refuses_228 : decode cL_refuses 228 = .ok (.sipush (-301), 3) := by decide +kernel
theorem dL_refuses_231 : decode cL_refuses 231 = .ok (.iload_n 1, 1) := by decide +kernel
theorem dL_refuses_232 : decode cL_refuses 232 = .ok (.bipush 9, 2) := by decide +kernel
theorem dL_refuses_234 : decode cL_refuses 234 = .ok (.irem, 1) := by decide +kernel
theorem dL_refuses_235 : decode cL_refuses 235 = .ok (.isub, 1) := by decide +kernel
theorem dL_refuses_236 : decode cL_refuses 236 = .ok (.iconst 0, 1) := by decide +kernel
theorem dL_refuses_237 : decode cL_refuses 237 = .ok (.invokestatic 138, 3) := by decide +kernel
theorem dL_refuses_240 : decode cL_refuses 240 = .ok (.ldc 22, 2) := by decide +kernel
theorem dL_refuses_242 : decode cL_refuses 242 = .ok (.if_icmp .ne 343, 3) := by decide +kernel
theorem dL_refuses_245 : decode cL_refuses 245 = .ok (.aload_n 0, 1) := by decide +kernel
theorem dL_refuses_246 : decode cL_refuses 246 = .ok (.iload_n 2, 1) := by decide +kernel
theorem dL_refuses_247 : decode cL_refuses 247 = .ok (.iconst 1, 1) := by decide +kernel
theorem dL_refuses_248 : decode cL_refuses 248 = .ok (.invokestatic 142, 3) := by decide +kernel
theorem dL_refuses_251 : decode cL_refuses 251 = .ok (.ldc 15, 2) := by decide +kernel
theorem dL_refuses_253 : decode cL_refuses 253 = .ok (.if_icmp .ne 332, 3) := by decide +kernel
theorem dL_refuses_256 : decode cL_refuses 256 = .ok (.aload_n 0, 1) := by decide +kernel
theorem dL_refuses_257 : decode cL_refuses 257 = .ok (.bipush 7, 2) := by decide +kernel
theorem dL_refuses_259 : decode cL_refuses 259 = .ok (.iload_n 2, 1) := by decide +kernel
theorem dL_refuses_260 : decode cL_refuses 260 = .ok (.sipush 999, 3) := by decide +kernel
theorem dL_refuses_263 : decode cL_refuses 263 = .ok (.iconst 0, 1) := by decide +kernel
theorem dL_refuses_264 : decode cL_refuses 264 = .ok (.invokestatic 138, 3) := by decide +kernel
theorem dL_refuses_267 : decode cL_refuses 267 = .ok (.ldc 15, 2) := by decide +kernel
theorem dL_refuses_269 : decode cL_refuses 269 = .ok (.if_icmp .ne 316, 3) := by decide +kernel
theorem dL_refuses_272 : decode cL_refuses 272 = .ok (.aload_n 0, 1) := by decide +kernel
theorem dL_refuses_273 : decode cL_refuses 273 = .ok (.bipush 7, 2) := by decide +kernel
theorem dL_refuses_275 : decode cL_refuses 275 = .ok (.iconst 0, 1) := by decide +kernel
theorem dL_refuses_276 : decode cL_refuses 276 = .ok (.iload_n 1, 1) := by decide +kernel
theorem dL_refuses_277 : decode cL_refuses 277 = .ok (.iconst 2, 1) := by decide +kernel
theorem dL_refuses_278 : decode cL_refuses 278 = .ok (.irem, 1) := by decide +kernel
theorem dL_refuses_279 : decode cL_refuses 279 = .ok (.ifCond .ne 14, 3) := by decide +kernel
theorem dL_refuses_282 : decode cL_refuses 282 = .ok (.sipush (-401), 3) := by decide +kernel
theorem dL_refuses_285 : decode cL_refuses 285 = .ok (.iload_n 1, 1) := by decide +kernel
theorem dL_refuses_286 : decode cL_refuses 286 = .ok (.bipush 9, 2) := by decide +kernel
theorem dL_refuses_288 : decode cL_refuses 288 = .ok (.irem, 1) := by decide +kernel
theorem dL_refuses_289 : decode cL_refuses 289 = .ok (.isub, 1) := by decide +kernel
theorem dL_refuses_290 : decode cL_refuses 290 = .ok (.goto 11, 3) := by decide +kernel
theorem dL_refuses_293 : decode cL_refuses 293 = .ok (.sipush 401, 3) := by decide +kernel
theorem dL_refuses_296 : decode cL_refuses 296 = .ok (.iload_n 1, 1) := by decide +kernel
theorem dL_refuses_297 : decode cL_refuses 297 = .ok (.bipush 9, 2) := by decide +kernel
theorem dL_refuses_299 : decode cL_refuses 299 = .ok (.irem, 1) := by decide +kernel
theorem dL_refuses_300 : decode cL_refuses 300 = .ok (.iadd, 1) := by decide +kernel
theorem dL_refuses_301 : decode cL_refuses 301 = .ok (.iconst 0, 1) := by decide +kernel
theorem dL_refuses_302 : decode cL_refuses 302 = .ok (.invokestatic 138, 3) := by decide +kernel
theorem dL_refuses_305 : decode cL_refuses 305 = .ok (.ldc 22, 2) := by decide +kernel
theorem dL_refuses_307 : decode cL_refuses 307 = .ok (.if_icmp .ne 278, 3) := by decide +kernel
theorem dL_refuses_310 : decode cL_refuses 310 = .ok (.aload_n 0, 1) := by decide +kernel
theorem dL_refuses_311 : decode cL_refuses 311 = .ok (.bipush 8, 2) := by decide +kernel
theorem dL_refuses_313 : decode cL_refuses 313 = .ok (.bipush 61, 2) := by decide +kernel
theorem dL_refuses_315 : decode cL_refuses 315 = .ok (.iload_n 1, 1) := by decide +kernel
theorem dL_refuses_316 : decode cL_refuses 316 = .ok (.bipush 9, 2) := by decide +kernel
theorem dL_refuses_318 : decode cL_refuses 318 = .ok (.irem, 1) := by decide +kernel
theorem dL_refuses_319 : decode cL_refuses 319 = .ok (.iadd, 1) := by decide +kernel
theorem dL_refuses_320 : decode cL_refuses 320 = .ok (.iconst 0, 1) := by decide +kernel
theorem dL_refuses_321 : decode cL_refuses 321 = .ok (.iconst 0, 1) := by decide +kernel
theorem dL_refuses_322 : decode cL_refuses 322 = .ok (.invokestatic 138, 3) := by decide +kernel
theorem dL_refuses_325 : decode cL_refuses 325 = .ok (.ldc 22, 2) := by decide +kernel
theorem dL_refuses_327 : decode cL_refuses 327 = .ok (.if_icmp .ne 258, 3) := by decide +kernel
theorem dL_refuses_330 : decode cL_refuses 330 = .ok (.aload_n 0, 1) := by decide +kernel
theorem dL_refuses_331 : decode cL_refuses 331 = .ok (.bipush 9, 2) := by decide +kernel
theorem dL_refuses_333 : decode cL_refuses 333 = .ok (.iload_n 1, 1) := by decide +kernel
theorem dL_refuses_334 : decode cL_refuses 334 = .ok (.bipush 6, 2) := by decide +kernel
theorem dL_refuses_336 : decode cL_refuses 336 = .ok (.irem, 1) := by decide +kernel
theorem dL_refuses_337 : decode cL_refuses 337 = .ok (.sipush 10000, 3) := by decide +kernel
theorem dL_refuses_340 : decode cL_refuses 340 = .ok (.iload_n 1, 1) := by decide +kernel
theorem dL_refuses_341 : decode cL_refuses 341 = .ok (.bipush 9, 2) := by decide +kernel
theorem dL_refuses_343 : decode cL_refuses 343 = .ok (.irem, 1) := by decide +kernel
theorem dL_refuses_344 : decode cL_refuses 344 = .ok (.iadd, 1) := by decide +kernel
theorem dL_refuses_345 : decode cL_refuses 345 = .ok (.iconst 0, 1) := by decide +kernel
theorem dL_refuses_346 : decode cL_refuses 346 = .ok (.invokestatic 138, 3) := by decide +kernel
theorem dL_refuses_349 : decode cL_refuses 349 = .ok (.ldc 22, 2) := by decide +kernel
theorem dL_refuses_351 : decode cL_refuses 351 = .ok (.if_icmp .ne 234, 3) := by decide +kernel
theorem dL_refuses_354 : decode cL_refuses 354 = .ok (.aload_n 0, 1) := by decide +kernel
theorem dL_refuses_355 : decode cL_refuses 355 = .ok (.bipush 9, 2) := by decide +kernel
theorem dL_refuses_357 : decode cL_refuses 357 = .ok (.iload_n 1, 1) := by decide +kernel
theorem dL_refuses_358 : decode cL_refuses 358 = .ok (.bipush 6, 2) := by decide +kernel
theorem dL_refuses_360 : decode cL_refuses 360 = .ok (.irem, 1) := by decide +kernel
