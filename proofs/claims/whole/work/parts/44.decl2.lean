theorem d_law_law_242 : decode code 242 = .ok (.aload_n 1, 1) := by decide +kernel
theorem d_law_law_243 : decode code 243 = .ok (.invokevirtual 32, 3) := by decide +kernel
theorem d_law_law_246 : decode code 246 = .ok (.aload_n 2, 1) := by decide +kernel
theorem d_law_law_247 : decode code 247 = .ok (.invokevirtual 36, 3) := by decide +kernel
theorem d_law_law_250 : decode code 250 = .ok (.if_icmp .eq 254, 3) := by decide +kernel
theorem d_law_law_253 : decode code 253 = .ok (.iconst 0, 1) := by decide +kernel
theorem d_law_law_254 : decode code 254 = .ok (.ireturn, 1) := by decide +kernel
theorem d_law_law_255 : decode code 255 = .ok (.aload_n 1, 1) := by decide +kernel
theorem d_law_law_256 : decode code 256 = .ok (.invokevirtual 37, 3) := by decide +kernel
theorem d_law_law_259 : decode code 259 = .ok (.aload_n 2, 1) := by decide +kernel
theorem d_law_law_260 : decode code 260 = .ok (.invokevirtual 40, 3) := by decide +kernel
theorem d_law_law_263 : decode code 263 = .ok (.if_icmp .eq 241, 3) := by decide +kernel
theorem d_law_law_266 : decode code 266 = .ok (.iconst 0, 1) := by decide +kernel
theorem d_law_law_267 : decode code 267 = .ok (.ireturn, 1) := by decide +kernel
theorem d_law_law_268 : decode code 268 = .ok (.aload_n 1, 1) := by decide +kernel
theorem d_law_law_269 : decode code 269 = .ok (.invokevirtual 41, 3) := by decide +kernel
theorem d_law_law_272 : decode code 272 = .ok (.aload_n 2, 1) := by decide +kernel
theorem d_law_law_273 : decode code 273 = .ok (.invokevirtual 44, 3) := by decide +kernel
theorem d_law_law_276 : decode code 276 = .ok (.if_icmp .eq 228, 3) := by decide +kernel
theorem d_law_law_279 : decode code 279 = .ok (.iconst 0, 1) := by decide +kernel
theorem d_law_law_280 : decode code 280 = .ok (.ireturn, 1) := by decide +kernel
theorem d_law_law_281 : decode code 281 = .ok (.aload_n 1, 1) := by decide +kernel
theorem d_law_law_282 : decode code 282 = .ok (.aload_n 0, 1) := by decide +kernel
theorem d_law_law_283 : decode code 283 = .ok (.iload_n 3, 1) := by decide +kernel
theorem d_law_law_284 : decode code 284 = .ok (.iconst 1, 1) := by decide +kernel
theorem d_law_law_285 : decode code 285 = .ok (.iadd, 1) := by decide +kernel
theorem d_law_law_286 : decode code 286 = .ok (.iaload, 1) := by decide +kernel
theorem d_law_law_287 : decode code 287 = .ok (.invokevirtual 45, 3) := by decide +kernel
theorem d_law_law_290 : decode code 290 = .ok (.aload_n 2, 1) := by decide +kernel
theorem d_law_law_291 : decode code 291 = .ok (.aload_n 0, 1) := by decide +kernel
theorem d_law_law_292 : decode code 292 = .ok (.iload_n 3, 1) := by decide +kernel
theorem d_law_law_293 : decode code 293 = .ok (.iconst 1, 1) := by decide +kernel
theorem d_law_law_294 : decode code 294 = .ok (.iadd, 1) := by decide +kernel
theorem d_law_law_295 : decode code 295 = .ok (.iaload, 1) := by decide +kernel
theorem d_law_law_296 : decode code 296 = .ok (.invokevirtual 48, 3) := by decide +kernel
theorem d_law_law_299 : decode code 299 = .ok (.if_icmp .eq 205, 3) := by decide +kernel
theorem d_law_law_302 : decode code 302 = .ok (.iconst 0, 1) := by decide +kernel
theorem d_law_law_303 : decode code 303 = .ok (.ireturn, 1) := by decide +kernel
theorem d_law_law_304 : decode code 304 = .ok (.aload_n 1, 1) := by decide +kernel
theorem d_law_law_305 : decode code 305 = .ok (.invokevirtual 49, 3) := by decide +kernel
theorem d_law_law_308 : decode code 308 = .ok (.aload_n 2, 1) := by decide +kernel
theorem d_law_law_309 : decode code 309 = .ok (.invokevirtual 52, 3) := by decide +kernel
theorem d_law_law_312 : decode code 312 = .ok (.if_icmp .eq 192, 3) := by decide +kernel
theorem d_law_law_315 : decode code 315 = .ok (.iconst 0, 1) := by decide +kernel
theorem d_law_law_316 : decode code 316 = .ok (.ireturn, 1) := by decide +kernel
theorem d_law_law_317 : decode code 317 = .ok (.aload_n 1, 1) := by decide +kernel
theorem d_law_law_318 : decode code 318 = .ok (.aload_n 0, 1) := by decide +kernel
theorem d_law_law_319 : decode code 319 = .ok (.iload_n 3, 1) := by decide +kernel
theorem d_law_law_320 : decode code 320 = .ok (.iconst 1, 1) := by decide +kernel
theorem d_law_law_321 : decode code 321 = .ok (.iadd, 1) := by decide +kernel
theorem d_law_law_322 : decode code 322 = .ok (.iaload, 1) := by decide +kernel
theorem d_law_law_323 : decode code 323 = .ok (.invokevirtual 53, 3) := by decide +kernel
theorem d_law_law_326 : decode code 326 = .ok (.aload_n 2, 1) := by decide +kernel
theorem d_law_law_327 : decode code 327 = .ok (.aload_n 0, 1) := by decide +kernel
theorem d_law_law_328 : decode code 328 = .ok (.iload_n 3, 1) := by decide +kernel
theorem d_law_law_329 : decode code 329 = .ok (.iconst 1, 1) := by decide +kernel
theorem d_law_law_330 : decode code 330 = .ok (.iadd, 1) := by decide +kernel
theorem d_law_law_331 : decode code 331 = .ok (.iaload, 1) := by decide +kernel
theorem d_law_law_332 : decode code 332 = .ok (.invokevirtual 56, 3) := by decide +kernel
theorem d_law_law_335 : decode code 335 = .ok (.if_icmp .eq 169, 3) := by decide +kernel
