theorem dL_act_222 : decode cL_act 222 = .ok (.iconst (-1), 1) := by decide +kernel
theorem dL_act_223 : decode cL_act 223 = .ok (.goto 12, 3) := by decide +kernel
theorem dL_act_226 : decode cL_act 226 = .ok (.aload_n 0, 1) := by decide +kernel
theorem dL_act_227 : decode cL_act 227 = .ok (.bipush 10, 2) := by decide +kernel
theorem dL_act_229 : decode cL_act 229 = .ok (.iconst 0, 1) := by decide +kernel
theorem dL_act_230 : decode cL_act 230 = .ok (.iconst 0, 1) := by decide +kernel
theorem dL_act_231 : decode cL_act 231 = .ok (.iconst 0, 1) := by decide +kernel
theorem dL_act_232 : decode cL_act 232 = .ok (.invokestatic 138, 3) := by decide +kernel
theorem dL_act_235 : decode cL_act 235 = .ok (.ireturn, 1) := by decide +kernel
theorem dL_act_236 : decode cL_act 236 = .ok (.aload_n 0, 1) := by decide +kernel
theorem dL_act_237 : decode cL_act 237 = .ok (.bipush 14, 2) := by decide +kernel
theorem dL_act_239 : decode cL_act 239 = .ok (.iload_n 1, 1) := by decide +kernel
theorem dL_act_240 : decode cL_act 240 = .ok (.bipush 16, 2) := by decide +kernel
theorem dL_act_242 : decode cL_act 242 = .ok (.idiv, 1) := by decide +kernel
theorem dL_act_243 : decode cL_act 243 = .ok (.iconst 2, 1) := by decide +kernel
theorem dL_act_244 : decode cL_act 244 = .ok (.irem, 1) := by decide +kernel
theorem dL_act_245 : decode cL_act 245 = .ok (.iconst 0, 1) := by decide +kernel
theorem dL_act_246 : decode cL_act 246 = .ok (.iconst 0, 1) := by decide +kernel
theorem dL_act_247 : decode cL_act 247 = .ok (.invokestatic 138, 3) := by decide +kernel
theorem dL_act_250 : decode cL_act 250 = .ok (.ireturn, 1) := by decide +kernel
theorem dL_act_251 : decode cL_act 251 = .ok (.aload_n 0, 1) := by decide +kernel
theorem dL_act_252 : decode cL_act 252 = .ok (.bipush 15, 2) := by decide +kernel
theorem dL_act_254 : decode cL_act 254 = .ok (.iload_n 1, 1) := by decide +kernel
theorem dL_act_255 : decode cL_act 255 = .ok (.bipush 16, 2) := by decide +kernel
theorem dL_act_257 : decode cL_act 257 = .ok (.idiv, 1) := by decide +kernel
theorem dL_act_258 : decode cL_act 258 = .ok (.iconst 2, 1) := by decide +kernel
theorem dL_act_259 : decode cL_act 259 = .ok (.irem, 1) := by decide +kernel
theorem dL_act_260 : decode cL_act 260 = .ok (.iconst 0, 1) := by decide +kernel
theorem dL_act_261 : decode cL_act 261 = .ok (.iconst 0, 1) := by decide +kernel
theorem dL_act_262 : decode cL_act 262 = .ok (.invokestatic 138, 3) := by decide +kernel
theorem dL_act_265 : decode cL_act 265 = .ok (.ireturn, 1) := by decide +kernel
theorem dL_act_266 : decode cL_act 266 = .ok (.aload_n 0, 1) := by decide +kernel
theorem dL_act_267 : decode cL_act 267 = .ok (.bipush 8, 2) := by decide +kernel
theorem dL_act_269 : decode cL_act 269 = .ok (.iconst 1, 1) := by decide +kernel
theorem dL_act_270 : decode cL_act 270 = .ok (.iload_n 1, 1) := by decide +kernel
theorem dL_act_271 : decode cL_act 271 = .ok (.bipush 16, 2) := by decide +kernel
theorem dL_act_273 : decode cL_act 273 = .ok (.idiv, 1) := by decide +kernel
theorem dL_act_274 : decode cL_act 274 = .ok (.bipush 30, 2) := by decide +kernel
theorem dL_act_276 : decode cL_act 276 = .ok (.irem, 1) := by decide +kernel
theorem dL_act_277 : decode cL_act 277 = .ok (.iadd, 1) := by decide +kernel
theorem dL_act_278 : decode cL_act 278 = .ok (.iconst 0, 1) := by decide +kernel
theorem dL_act_279 : decode cL_act 279 = .ok (.iconst 0, 1) := by decide +kernel
theorem dL_act_280 : decode cL_act 280 = .ok (.invokestatic 138, 3) := by decide +kernel
theorem dL_act_283 : decode cL_act 283 = .ok (.ireturn, 1) := by decide +kernel
