/-! The code of the law, instruction by instruction -/
theorem d_LW_law_224 : decode code 224 = .ok (.iadd, 1) := by decide +kernel
theorem d_LW_law_225 : decode code 225 = .ok (.iaload, 1) := by decide +kernel
theorem d_LW_law_226 : decode code 226 = .ok (.invokevirtual 40, 3) := by decide +kernel
theorem d_LW_law_229 : decode code 229 = .ok (.if_icmp .eq 420, 3) := by decide +kernel
theorem d_LW_law_232 : decode code 232 = .ok (.iconst 0, 1) := by decide +kernel
theorem d_LW_law_233 : decode code 233 = .ok (.ireturn, 1) := by decide +kernel
theorem d_LW_law_234 : decode code 234 = .ok (.aload_n 1, 1) := by decide +kernel
theorem d_LW_law_235 : decode code 235 = .ok (.aload_n 0, 1) := by decide +kernel
theorem d_LW_law_236 : decode code 236 = .ok (.iload_n 3, 1) := by decide +kernel
theorem d_LW_law_237 : decode code 237 = .ok (.iconst 1, 1) := by decide +kernel
theorem d_LW_law_238 : decode code 238 = .ok (.iadd, 1) := by decide +kernel
theorem d_LW_law_239 : decode code 239 = .ok (.iaload, 1) := by decide +kernel
theorem d_LW_law_240 : decode code 240 = .ok (.invokevirtual 41, 3) := by decide +kernel
theorem d_LW_law_243 : decode code 243 = .ok (.aload_n 2, 1) := by decide +kernel
theorem d_LW_law_244 : decode code 244 = .ok (.aload_n 0, 1) := by decide +kernel
theorem d_LW_law_245 : decode code 245 = .ok (.iload_n 3, 1) := by decide +kernel
theorem d_LW_law_246 : decode code 246 = .ok (.iconst 1, 1) := by decide +kernel
theorem d_LW_law_247 : decode code 247 = .ok (.iadd, 1) := by decide +kernel
theorem d_LW_law_248 : decode code 248 = .ok (.iaload, 1) := by decide +kernel
theorem d_LW_law_249 : decode code 249 = .ok (.invokevirtual 44, 3) := by decide +kernel
theorem d_LW_law_252 : decode code 252 = .ok (.if_icmp .eq 397, 3) := by decide +kernel
theorem d_LW_law_255 : decode code 255 = .ok (.iconst 0, 1) := by decide +kernel
theorem d_LW_law_256 : decode code 256 = .ok (.ireturn, 1) := by decide +kernel
theorem d_LW_law_257 : decode code 257 = .ok (.aload_n 1, 1) := by decide +kernel
theorem d_LW_law_258 : decode code 258 = .ok (.invokevirtual 45, 3) := by decide +kernel
theorem d_LW_law_261 : decode code 261 = .ok (.aload_n 2, 1) := by decide +kernel
theorem d_LW_law_262 : decode code 262 = .ok (.invokevirtual 48, 3) := by decide +kernel
theorem d_LW_law_265 : decode code 265 = .ok (.if_icmp .eq 384, 3) := by decide +kernel
theorem d_LW_law_268 : decode code 268 = .ok (.iconst 0, 1) := by decide +kernel
theorem d_LW_law_269 : decode code 269 = .ok (.ireturn, 1) := by decide +kernel
theorem d_LW_law_270 : decode code 270 = .ok (.aload_n 1, 1) := by decide +kernel
theorem d_LW_law_271 : decode code 271 = .ok (.aload_n 0, 1) := by decide +kernel
theorem d_LW_law_272 : decode code 272 = .ok (.iload_n 3, 1) := by decide +kernel
theorem d_LW_law_273 : decode code 273 = .ok (.iconst 1, 1) := by decide +kernel
theorem d_LW_law_274 : decode code 274 = .ok (.iadd, 1) := by decide +kernel
theorem d_LW_law_275 : decode code 275 = .ok (.iaload, 1) := by decide +kernel
theorem d_LW_law_276 : decode code 276 = .ok (.aload_n 0, 1) := by decide +kernel
theorem d_LW_law_277 : decode code 277 = .ok (.iload_n 3, 1) := by decide +kernel
theorem d_LW_law_278 : decode code 278 = .ok (.iconst 2, 1) := by decide +kernel
theorem d_LW_law_279 : decode code 279 = .ok (.iadd, 1) := by decide +kernel
theorem d_LW_law_280 : decode code 280 = .ok (.iaload, 1) := by decide +kernel
theorem d_LW_law_281 : decode code 281 = .ok (.invokevirtual 49, 3) := by decide +kernel
theorem d_LW_law_284 : decode code 284 = .ok (.aload_n 2, 1) := by decide +kernel
theorem d_LW_law_285 : decode code 285 = .ok (.aload_n 0, 1) := by decide +kernel
theorem d_LW_law_286 : decode code 286 = .ok (.iload_n 3, 1) := by decide +kernel
theorem d_LW_law_287 : decode code 287 = .ok (.iconst 1, 1) := by decide +kernel
theorem d_LW_law_288 : decode code 288 = .ok (.iadd, 1) := by decide +kernel
theorem d_LW_law_289 : decode code 289 = .ok (.iaload, 1) := by decide +kernel
theorem d_LW_law_290 : decode code 290 = .ok (.aload_n 0, 1) := by decide +kernel
theorem d_LW_law_291 : decode code 291 = .ok (.iload_n 3, 1) := by decide +kernel
