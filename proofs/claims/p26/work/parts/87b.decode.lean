theorem dL_alike_185 : decode cL_alike 185 = .ok (.invokestatic 138, 3) := by decide +kernel
theorem dL_alike_188 : decode cL_alike 188 = .ok (.if_icmp .ne 55, 3) := by decide +kernel
theorem dL_alike_191 : decode cL_alike 191 = .ok (.aload_n 0, 1) := by decide +kernel
theorem dL_alike_192 : decode cL_alike 192 = .ok (.iconst 3, 1) := by decide +kernel
theorem dL_alike_193 : decode cL_alike 193 = .ok (.iload 5, 2) := by decide +kernel
theorem dL_alike_195 : decode cL_alike 195 = .ok (.iload_n 2, 1) := by decide +kernel
theorem dL_alike_196 : decode cL_alike 196 = .ok (.bipush 8, 2) := by decide +kernel
theorem dL_alike_198 : decode cL_alike 198 = .ok (.irem, 1) := by decide +kernel
theorem dL_alike_199 : decode cL_alike 199 = .ok (.iconst 0, 1) := by decide +kernel
theorem dL_alike_200 : decode cL_alike 200 = .ok (.invokestatic 138, 3) := by decide +kernel
theorem dL_alike_203 : decode cL_alike 203 = .ok (.aload_n 1, 1) := by decide +kernel
theorem dL_alike_204 : decode cL_alike 204 = .ok (.iconst 3, 1) := by decide +kernel
theorem dL_alike_205 : decode cL_alike 205 = .ok (.iload 5, 2) := by decide +kernel
theorem dL_alike_207 : decode cL_alike 207 = .ok (.iload_n 2, 1) := by decide +kernel
theorem dL_alike_208 : decode cL_alike 208 = .ok (.bipush 8, 2) := by decide +kernel
theorem dL_alike_210 : decode cL_alike 210 = .ok (.irem, 1) := by decide +kernel
theorem dL_alike_211 : decode cL_alike 211 = .ok (.iconst 0, 1) := by decide +kernel
theorem dL_alike_212 : decode cL_alike 212 = .ok (.invokestatic 138, 3) := by decide +kernel
theorem dL_alike_215 : decode cL_alike 215 = .ok (.if_icmp .ne 28, 3) := by decide +kernel
theorem dL_alike_218 : decode cL_alike 218 = .ok (.aload_n 0, 1) := by decide +kernel
theorem dL_alike_219 : decode cL_alike 219 = .ok (.iconst 4, 1) := by decide +kernel
theorem dL_alike_220 : decode cL_alike 220 = .ok (.iload 5, 2) := by decide +kernel
theorem dL_alike_222 : decode cL_alike 222 = .ok (.iconst 0, 1) := by decide +kernel
theorem dL_alike_223 : decode cL_alike 223 = .ok (.iconst 0, 1) := by decide +kernel
theorem dL_alike_224 : decode cL_alike 224 = .ok (.invokestatic 138, 3) := by decide +kernel
theorem dL_alike_227 : decode cL_alike 227 = .ok (.aload_n 1, 1) := by decide +kernel
theorem dL_alike_228 : decode cL_alike 228 = .ok (.iconst 4, 1) := by decide +kernel
theorem dL_alike_229 : decode cL_alike 229 = .ok (.iload 5, 2) := by decide +kernel
theorem dL_alike_231 : decode cL_alike 231 = .ok (.iconst 0, 1) := by decide +kernel
theorem dL_alike_232 : decode cL_alike 232 = .ok (.iconst 0, 1) := by decide +kernel
theorem dL_alike_233 : decode cL_alike 233 = .ok (.invokestatic 138, 3) := by decide +kernel
theorem dL_alike_236 : decode cL_alike 236 = .ok (.if_icmp .ne 7, 3) := by decide +kernel
theorem dL_alike_239 : decode cL_alike 239 = .ok (.iconst 1, 1) := by decide +kernel
theorem dL_alike_240 : decode cL_alike 240 = .ok (.goto 4, 3) := by decide +kernel
theorem dL_alike_243 : decode cL_alike 243 = .ok (.iconst 0, 1) := by decide +kernel
theorem dL_alike_244 : decode cL_alike 244 = .ok (.istore 4, 2) := by decide +kernel
theorem dL_alike_246 : decode cL_alike 246 = .ok (.iinc 5 1, 3) := by decide +kernel
theorem dL_alike_249 : decode cL_alike 249 = .ok (.goto (-111), 3) := by decide +kernel
theorem dL_alike_252 : decode cL_alike 252 = .ok (.iload 4, 2) := by decide +kernel
theorem dL_alike_254 : decode cL_alike 254 = .ok (.ireturn, 1) := by decide +kernel
