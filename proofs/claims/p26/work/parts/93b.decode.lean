theorem dL_limit_197 : decode cL_limit 197 = .ok (.bipush 10, 2) := by decide +kernel
theorem dL_limit_199 : decode cL_limit 199 = .ok (.iconst 0, 1) := by decide +kernel
theorem dL_limit_200 : decode cL_limit 200 = .ok (.iconst 0, 1) := by decide +kernel
theorem dL_limit_201 : decode cL_limit 201 = .ok (.iconst 0, 1) := by decide +kernel
theorem dL_limit_202 : decode cL_limit 202 = .ok (.invokestatic 138, 3) := by decide +kernel
theorem dL_limit_205 : decode cL_limit 205 = .ok (.invokestatic 190, 3) := by decide +kernel
theorem dL_limit_208 : decode cL_limit 208 = .ok (.ifCond .ne 20, 3) := by decide +kernel
theorem dL_limit_211 : decode cL_limit 211 = .ok (.aload_n 0, 1) := by decide +kernel
theorem dL_limit_212 : decode cL_limit 212 = .ok (.iconst 2, 1) := by decide +kernel
theorem dL_limit_213 : decode cL_limit 213 = .ok (.iconst 4, 1) := by decide +kernel
theorem dL_limit_214 : decode cL_limit 214 = .ok (.iconst 0, 1) := by decide +kernel
theorem dL_limit_215 : decode cL_limit 215 = .ok (.iconst 0, 1) := by decide +kernel
theorem dL_limit_216 : decode cL_limit 216 = .ok (.invokestatic 138, 3) := by decide +kernel
theorem dL_limit_219 : decode cL_limit 219 = .ok (.iload 4, 2) := by decide +kernel
theorem dL_limit_221 : decode cL_limit 221 = .ok (.if_icmp .ne 7, 3) := by decide +kernel
theorem dL_limit_224 : decode cL_limit 224 = .ok (.iconst 1, 1) := by decide +kernel
theorem dL_limit_225 : decode cL_limit 225 = .ok (.goto 4, 3) := by decide +kernel
theorem dL_limit_228 : decode cL_limit 228 = .ok (.iconst 0, 1) := by decide +kernel
theorem dL_limit_229 : decode cL_limit 229 = .ok (.istore 5, 2) := by decide +kernel
theorem dL_limit_231 : decode cL_limit 231 = .ok (.iinc 6 1, 3) := by decide +kernel
theorem dL_limit_234 : decode cL_limit 234 = .ok (.goto (-208), 3) := by decide +kernel
theorem dL_limit_237 : decode cL_limit 237 = .ok (.iload 5, 2) := by decide +kernel
theorem dL_limit_239 : decode cL_limit 239 = .ok (.ireturn, 1) := by decide +kernel
