theorem kc_270 : Cond.code y_X_make b_X_make 3 (some .int) ∈ zz_tb := List.mem_filter.mpr ⟨List.mem_of_getElem? (i := 97) rfl, rfl⟩
theorem kw_271 : Cond.methodLink R_law 13 y_X_make ∈ zz_tb := List.mem_filter.mpr ⟨List.mem_of_getElem? (i := 94) (by decide +kernel), rfl⟩
theorem kw_272 : Cond.instanceMethod y_X_make ∈ zz_tb := List.mem_filter.mpr ⟨List.mem_of_getElem? (i := 95) (by decide +kernel), rfl⟩
theorem kw_273 : Cond.selects R_X y_X_make y_X_make ∈ zz_tb := List.mem_filter.mpr ⟨List.mem_of_getElem? (i := 96) (by decide +kernel), rfl⟩
theorem kc_274 : Cond.code y_M_make b_M_make 4 (some .int) ∈ zz_tb := List.mem_filter.mpr ⟨List.mem_of_getElem? (i := 398) rfl, rfl⟩
theorem kw_275 : Cond.methodLink R_law 17 y_M_make ∈ zz_tb := List.mem_filter.mpr ⟨List.mem_of_getElem? (i := 395) (by decide +kernel), rfl⟩
theorem kw_276 : Cond.instanceMethod y_M_make ∈ zz_tb := List.mem_filter.mpr ⟨List.mem_of_getElem? (i := 396) (by decide +kernel), rfl⟩
theorem kw_277 : Cond.selects R_M y_M_make y_M_make ∈ zz_tb := List.mem_filter.mpr ⟨List.mem_of_getElem? (i := 397) (by decide +kernel), rfl⟩
theorem kc_278 : Cond.code y_X_copy b_X_copy 2 (some .int) ∈ zz_tb := List.mem_filter.mpr ⟨List.mem_of_getElem? (i := 189) rfl, rfl⟩
theorem kw_279 : Cond.methodLink R_law 18 y_X_copy ∈ zz_tb := List.mem_filter.mpr ⟨List.mem_of_getElem? (i := 186) (by decide +kernel), rfl⟩
theorem kw_280 : Cond.instanceMethod y_X_copy ∈ zz_tb := List.mem_filter.mpr ⟨List.mem_of_getElem? (i := 187) (by decide +kernel), rfl⟩
theorem kw_281 : Cond.selects R_X y_X_copy y_X_copy ∈ zz_tb := List.mem_filter.mpr ⟨List.mem_of_getElem? (i := 188) (by decide +kernel), rfl⟩
theorem kc_282 : Cond.code y_M_copy b_M_copy 2 (some .int) ∈ zz_tb := List.mem_filter.mpr ⟨List.mem_of_getElem? (i := 413) rfl, rfl⟩
theorem kw_283 : Cond.methodLink R_law 21 y_M_copy ∈ zz_tb := List.mem_filter.mpr ⟨List.mem_of_getElem? (i := 410) (by decide +kernel), rfl⟩
theorem kw_284 : Cond.instanceMethod y_M_copy ∈ zz_tb := List.mem_filter.mpr ⟨List.mem_of_getElem? (i := 411) (by decide +kernel), rfl⟩
theorem kw_285 : Cond.selects R_M y_M_copy y_M_copy ∈ zz_tb := List.mem_filter.mpr ⟨List.mem_of_getElem? (i := 412) (by decide +kernel), rfl⟩
theorem kc_286 : Cond.code y_X_load b_X_load 4 (some .int) ∈ zz_tb := List.mem_filter.mpr ⟨List.mem_of_getElem? (i := 201) rfl, rfl⟩
theorem kw_287 : Cond.methodLink R_law 22 y_X_load ∈ zz_tb := List.mem_filter.mpr ⟨List.mem_of_getElem? (i := 198) (by decide +kernel), rfl⟩
theorem kw_288 : Cond.instanceMethod y_X_load ∈ zz_tb := List.mem_filter.mpr ⟨List.mem_of_getElem? (i := 199) (by decide +kernel), rfl⟩
theorem kw_289 : Cond.selects R_X y_X_load y_X_load ∈ zz_tb := List.mem_filter.mpr ⟨List.mem_of_getElem? (i := 200) (by decide +kernel), rfl⟩
theorem kc_290 : Cond.code y_M_load b_M_load 4 (some .int) ∈ zz_tb := List.mem_filter.mpr ⟨List.mem_of_getElem? (i := 421) rfl, rfl⟩
theorem kw_291 : Cond.methodLink R_law 26 y_M_load ∈ zz_tb := List.mem_filter.mpr ⟨List.mem_of_getElem? (i := 418) (by decide +kernel), rfl⟩
theorem kw_292 : Cond.instanceMethod y_M_load ∈ zz_tb := List.mem_filter.mpr ⟨List.mem_of_getElem? (i := 419) (by decide +kernel), rfl⟩
theorem kw_293 : Cond.selects R_M y_M_load y_M_load ∈ zz_tb := List.mem_filter.mpr ⟨List.mem_of_getElem? (i := 420) (by decide +kernel), rfl⟩
theorem kc_294 : Cond.code y_X_store b_X_store 5 (some .boolean) ∈ zz_tb := List.mem_filter.mpr ⟨List.mem_of_getElem? (i := 213) rfl, rfl⟩
theorem kw_295 : Cond.methodLink R_law 27 y_X_store ∈ zz_tb := List.mem_filter.mpr ⟨List.mem_of_getElem? (i := 210) (by decide +kernel), rfl⟩
theorem kw_296 : Cond.instanceMethod y_X_store ∈ zz_tb := List.mem_filter.mpr ⟨List.mem_of_getElem? (i := 211) (by decide +kernel), rfl⟩
theorem kw_297 : Cond.selects R_X y_X_store y_X_store ∈ zz_tb := List.mem_filter.mpr ⟨List.mem_of_getElem? (i := 212) (by decide +kernel), rfl⟩
theorem kc_298 : Cond.code y_M_store b_M_store 6 (some .boolean) ∈ zz_tb := List.mem_filter.mpr ⟨List.mem_of_getElem? (i := 433) rfl, rfl⟩
theorem kw_299 : Cond.methodLink R_law 31 y_M_store ∈ zz_tb := List.mem_filter.mpr ⟨List.mem_of_getElem? (i := 430) (by decide +kernel), rfl⟩
theorem kw_300 : Cond.instanceMethod y_M_store ∈ zz_tb := List.mem_filter.mpr ⟨List.mem_of_getElem? (i := 431) (by decide +kernel), rfl⟩
theorem kw_301 : Cond.selects R_M y_M_store y_M_store ∈ zz_tb := List.mem_filter.mpr ⟨List.mem_of_getElem? (i := 432) (by decide +kernel), rfl⟩
theorem kc_302 : Cond.code y_X_drop b_X_drop 1 (some .int) ∈ zz_tb := List.mem_filter.mpr ⟨List.mem_of_getElem? (i := 241) rfl, rfl⟩
theorem kw_303 : Cond.methodLink R_law 32 y_X_drop ∈ zz_tb := List.mem_filter.mpr ⟨List.mem_of_getElem? (i := 238) (by decide +kernel), rfl⟩
theorem kw_304 : Cond.instanceMethod y_X_drop ∈ zz_tb := List.mem_filter.mpr ⟨List.mem_of_getElem? (i := 239) (by decide +kernel), rfl⟩
theorem kw_305 : Cond.selects R_X y_X_drop y_X_drop ∈ zz_tb := List.mem_filter.mpr ⟨List.mem_of_getElem? (i := 240) (by decide +kernel), rfl⟩
theorem kc_306 : Cond.code y_M_drop b_M_drop 1 (some .int) ∈ zz_tb := List.mem_filter.mpr ⟨List.mem_of_getElem? (i := 445) rfl, rfl⟩
theorem kw_307 : Cond.methodLink R_law 36 y_M_drop ∈ zz_tb := List.mem_filter.mpr ⟨List.mem_of_getElem? (i := 442) (by decide +kernel), rfl⟩
theorem kw_308 : Cond.instanceMethod y_M_drop ∈ zz_tb := List.mem_filter.mpr ⟨List.mem_of_getElem? (i := 443) (by decide +kernel), rfl⟩
theorem kw_309 : Cond.selects R_M y_M_drop y_M_drop ∈ zz_tb := List.mem_filter.mpr ⟨List.mem_of_getElem? (i := 444) (by decide +kernel), rfl⟩
theorem kc_310 : Cond.code y_X_reckon b_X_reckon 1 (some .int) ∈ zz_tb := List.mem_filter.mpr ⟨List.mem_of_getElem? (i := 253) rfl, rfl⟩
theorem kw_311 : Cond.methodLink R_law 37 y_X_reckon ∈ zz_tb := List.mem_filter.mpr ⟨List.mem_of_getElem? (i := 250) (by decide +kernel), rfl⟩
theorem kw_312 : Cond.instanceMethod y_X_reckon ∈ zz_tb := List.mem_filter.mpr ⟨List.mem_of_getElem? (i := 251) (by decide +kernel), rfl⟩
theorem kw_313 : Cond.selects R_X y_X_reckon y_X_reckon ∈ zz_tb := List.mem_filter.mpr ⟨List.mem_of_getElem? (i := 252) (by decide +kernel), rfl⟩
theorem kc_314 : Cond.code y_M_reckon b_M_reckon 2 (some .int) ∈ zz_tb := List.mem_filter.mpr ⟨List.mem_of_getElem? (i := 370) rfl, rfl⟩
theorem kw_315 : Cond.methodLink R_law 40 y_M_reckon ∈ zz_tb := List.mem_filter.mpr ⟨List.mem_of_getElem? (i := 367) (by decide +kernel), rfl⟩
theorem kw_316 : Cond.instanceMethod y_M_reckon ∈ zz_tb := List.mem_filter.mpr ⟨List.mem_of_getElem? (i := 368) (by decide +kernel), rfl⟩
theorem kw_317 : Cond.selects R_M y_M_reckon y_M_reckon ∈ zz_tb := List.mem_filter.mpr ⟨List.mem_of_getElem? (i := 369) (by decide +kernel), rfl⟩
theorem kc_318 : Cond.code y_X_stack b_X_stack 1 (some .int) ∈ zz_tb := List.mem_filter.mpr ⟨List.mem_of_getElem? (i := 257) rfl, rfl⟩
theorem kw_319 : Cond.methodLink R_law 41 y_X_stack ∈ zz_tb := List.mem_filter.mpr ⟨List.mem_of_getElem? (i := 254) (by decide +kernel), rfl⟩
theorem kw_320 : Cond.instanceMethod y_X_stack ∈ zz_tb := List.mem_filter.mpr ⟨List.mem_of_getElem? (i := 255) (by decide +kernel), rfl⟩
theorem kw_321 : Cond.selects R_X y_X_stack y_X_stack ∈ zz_tb := List.mem_filter.mpr ⟨List.mem_of_getElem? (i := 256) (by decide +kernel), rfl⟩
theorem kc_322 : Cond.code y_M_stack b_M_stack 1 (some .int) ∈ zz_tb := List.mem_filter.mpr ⟨List.mem_of_getElem? (i := 449) rfl, rfl⟩
theorem kw_323 : Cond.methodLink R_law 44 y_M_stack ∈ zz_tb := List.mem_filter.mpr ⟨List.mem_of_getElem? (i := 446) (by decide +kernel), rfl⟩
theorem kw_324 : Cond.instanceMethod y_M_stack ∈ zz_tb := List.mem_filter.mpr ⟨List.mem_of_getElem? (i := 447) (by decide +kernel), rfl⟩
theorem kw_325 : Cond.selects R_M y_M_stack y_M_stack ∈ zz_tb := List.mem_filter.mpr ⟨List.mem_of_getElem? (i := 448) (by decide +kernel), rfl⟩
theorem kc_326 : Cond.code y_X_held b_X_held 2 (some .int) ∈ zz_tb := List.mem_filter.mpr ⟨List.mem_of_getElem? (i := 261) rfl, rfl⟩
theorem kw_327 : Cond.methodLink R_law 45 y_X_held ∈ zz_tb := List.mem_filter.mpr ⟨List.mem_of_getElem? (i := 258) (by decide +kernel), rfl⟩
theorem kw_328 : Cond.instanceMethod y_X_held ∈ zz_tb := List.mem_filter.mpr ⟨List.mem_of_getElem? (i := 259) (by decide +kernel), rfl⟩
theorem kw_329 : Cond.selects R_X y_X_held y_X_held ∈ zz_tb := List.mem_filter.mpr ⟨List.mem_of_getElem? (i := 260) (by decide +kernel), rfl⟩
theorem kc_330 : Cond.code y_M_held b_M_held 2 (some .int) ∈ zz_tb := List.mem_filter.mpr ⟨List.mem_of_getElem? (i := 453) rfl, rfl⟩
theorem kw_331 : Cond.methodLink R_law 48 y_M_held ∈ zz_tb := List.mem_filter.mpr ⟨List.mem_of_getElem? (i := 450) (by decide +kernel), rfl⟩
theorem kw_332 : Cond.instanceMethod y_M_held ∈ zz_tb := List.mem_filter.mpr ⟨List.mem_of_getElem? (i := 451) (by decide +kernel), rfl⟩
theorem kw_333 : Cond.selects R_M y_M_held y_M_held ∈ zz_tb := List.mem_filter.mpr ⟨List.mem_of_getElem? (i := 452) (by decide +kernel), rfl⟩
theorem kc_334 : Cond.code y_X_alive b_X_alive 1 (some .int) ∈ zz_tb := List.mem_filter.mpr ⟨List.mem_of_getElem? (i := 265) rfl, rfl⟩
theorem kw_335 : Cond.methodLink R_law 49 y_X_alive ∈ zz_tb := List.mem_filter.mpr ⟨List.mem_of_getElem? (i := 262) (by decide +kernel), rfl⟩
theorem kw_336 : Cond.instanceMethod y_X_alive ∈ zz_tb := List.mem_filter.mpr ⟨List.mem_of_getElem? (i := 263) (by decide +kernel), rfl⟩
theorem kw_337 : Cond.selects R_X y_X_alive y_X_alive ∈ zz_tb := List.mem_filter.mpr ⟨List.mem_of_getElem? (i := 264) (by decide +kernel), rfl⟩
theorem kw_338 : Cond.methodLink R_law 52 y_M_alive ∈ zz_tb := List.mem_filter.mpr ⟨List.mem_of_getElem? (i := 454) (by decide +kernel), rfl⟩
theorem kc_339 : Cond.code y_X_count b_X_count 3 (some .int) ∈ zz_tb := List.mem_filter.mpr ⟨List.mem_of_getElem? (i := 273) rfl, rfl⟩
theorem kw_340 : Cond.methodLink R_law 53 y_X_count ∈ zz_tb := List.mem_filter.mpr ⟨List.mem_of_getElem? (i := 270) (by decide +kernel), rfl⟩
theorem kw_341 : Cond.instanceMethod y_X_count ∈ zz_tb := List.mem_filter.mpr ⟨List.mem_of_getElem? (i := 271) (by decide +kernel), rfl⟩
theorem kw_342 : Cond.selects R_X y_X_count y_X_count ∈ zz_tb := List.mem_filter.mpr ⟨List.mem_of_getElem? (i := 272) (by decide +kernel), rfl⟩
theorem kc_343 : Cond.code y_M_count b_M_count 3 (some .int) ∈ zz_tb := List.mem_filter.mpr ⟨List.mem_of_getElem? (i := 458) rfl, rfl⟩
theorem kw_344 : Cond.methodLink R_law 56 y_M_count ∈ zz_tb := List.mem_filter.mpr ⟨List.mem_of_getElem? (i := 455) (by decide +kernel), rfl⟩
theorem kw_345 : Cond.instanceMethod y_M_count ∈ zz_tb := List.mem_filter.mpr ⟨List.mem_of_getElem? (i := 456) (by decide +kernel), rfl⟩
theorem kw_346 : Cond.selects R_M y_M_count y_M_count ∈ zz_tb := List.mem_filter.mpr ⟨List.mem_of_getElem? (i := 457) (by decide +kernel), rfl⟩
theorem kc_347 : Cond.code y_X_cell b_X_cell 3 (some .int) ∈ zz_tb := List.mem_filter.mpr ⟨List.mem_of_getElem? (i := 281) rfl, rfl⟩
theorem kw_348 : Cond.methodLink R_law 57 y_X_cell ∈ zz_tb := List.mem_filter.mpr ⟨List.mem_of_getElem? (i := 278) (by decide +kernel), rfl⟩
theorem kw_349 : Cond.instanceMethod y_X_cell ∈ zz_tb := List.mem_filter.mpr ⟨List.mem_of_getElem? (i := 279) (by decide +kernel), rfl⟩
theorem kw_350 : Cond.selects R_X y_X_cell y_X_cell ∈ zz_tb := List.mem_filter.mpr ⟨List.mem_of_getElem? (i := 280) (by decide +kernel), rfl⟩
theorem kc_351 : Cond.code y_M_cell b_M_cell 3 (some .int) ∈ zz_tb := List.mem_filter.mpr ⟨List.mem_of_getElem? (i := 462) rfl, rfl⟩
theorem kw_352 : Cond.methodLink R_law 60 y_M_cell ∈ zz_tb := List.mem_filter.mpr ⟨List.mem_of_getElem? (i := 459) (by decide +kernel), rfl⟩
theorem kw_353 : Cond.instanceMethod y_M_cell ∈ zz_tb := List.mem_filter.mpr ⟨List.mem_of_getElem? (i := 460) (by decide +kernel), rfl⟩
theorem kw_354 : Cond.selects R_M y_M_cell y_M_cell ∈ zz_tb := List.mem_filter.mpr ⟨List.mem_of_getElem? (i := 461) (by decide +kernel), rfl⟩
theorem kc_355 : Cond.code y_X_slot b_X_slot 4 (some .int) ∈ zz_tb := List.mem_filter.mpr ⟨List.mem_of_getElem? (i := 285) rfl, rfl⟩
theorem kw_356 : Cond.methodLink R_law 61 y_X_slot ∈ zz_tb := List.mem_filter.mpr ⟨List.mem_of_getElem? (i := 282) (by decide +kernel), rfl⟩
theorem kw_357 : Cond.instanceMethod y_X_slot ∈ zz_tb := List.mem_filter.mpr ⟨List.mem_of_getElem? (i := 283) (by decide +kernel), rfl⟩
theorem kw_358 : Cond.selects R_X y_X_slot y_X_slot ∈ zz_tb := List.mem_filter.mpr ⟨List.mem_of_getElem? (i := 284) (by decide +kernel), rfl⟩
theorem kc_359 : Cond.code y_M_slot b_M_slot 4 (some .int) ∈ zz_tb := List.mem_filter.mpr ⟨List.mem_of_getElem? (i := 466) rfl, rfl⟩
theorem kw_360 : Cond.methodLink R_law 64 y_M_slot ∈ zz_tb := List.mem_filter.mpr ⟨List.mem_of_getElem? (i := 463) (by decide +kernel), rfl⟩
theorem kw_361 : Cond.instanceMethod y_M_slot ∈ zz_tb := List.mem_filter.mpr ⟨List.mem_of_getElem? (i := 464) (by decide +kernel), rfl⟩
theorem kw_362 : Cond.selects R_M y_M_slot y_M_slot ∈ zz_tb := List.mem_filter.mpr ⟨List.mem_of_getElem? (i := 465) (by decide +kernel), rfl⟩
theorem kc_363 : Cond.code y_X_table b_X_table 1 (some .int) ∈ zz_tb := List.mem_filter.mpr ⟨List.mem_of_getElem? (i := 289) rfl, rfl⟩
theorem kw_364 : Cond.methodLink R_law 65 y_X_table ∈ zz_tb := List.mem_filter.mpr ⟨List.mem_of_getElem? (i := 286) (by decide +kernel), rfl⟩
theorem kw_365 : Cond.instanceMethod y_X_table ∈ zz_tb := List.mem_filter.mpr ⟨List.mem_of_getElem? (i := 287) (by decide +kernel), rfl⟩
theorem kw_366 : Cond.selects R_X y_X_table y_X_table ∈ zz_tb := List.mem_filter.mpr ⟨List.mem_of_getElem? (i := 288) (by decide +kernel), rfl⟩
theorem kc_367 : Cond.code y_M_table b_M_table 3 (some .int) ∈ zz_tb := List.mem_filter.mpr ⟨List.mem_of_getElem? (i := 470) rfl, rfl⟩
theorem kw_368 : Cond.methodLink R_law 68 y_M_table ∈ zz_tb := List.mem_filter.mpr ⟨List.mem_of_getElem? (i := 467) (by decide +kernel), rfl⟩
theorem kw_369 : Cond.instanceMethod y_M_table ∈ zz_tb := List.mem_filter.mpr ⟨List.mem_of_getElem? (i := 468) (by decide +kernel), rfl⟩
theorem kw_370 : Cond.selects R_M y_M_table y_M_table ∈ zz_tb := List.mem_filter.mpr ⟨List.mem_of_getElem? (i := 469) (by decide +kernel), rfl⟩
theorem kc_371 : Cond.code y_X_state b_X_state 5 (some .int) ∈ zz_tb := List.mem_filter.mpr ⟨List.mem_of_getElem? (i := 298) rfl, rfl⟩
theorem kw_372 : Cond.methodLink R_law 69 y_X_state ∈ zz_tb := List.mem_filter.mpr ⟨List.mem_of_getElem? (i := 295) (by decide +kernel), rfl⟩
theorem kw_373 : Cond.instanceMethod y_X_state ∈ zz_tb := List.mem_filter.mpr ⟨List.mem_of_getElem? (i := 296) (by decide +kernel), rfl⟩
theorem kw_374 : Cond.selects R_X y_X_state y_X_state ∈ zz_tb := List.mem_filter.mpr ⟨List.mem_of_getElem? (i := 297) (by decide +kernel), rfl⟩
theorem kc_375 : Cond.code y_M_state b_M_state 3 (some .int) ∈ zz_tb := List.mem_filter.mpr ⟨List.mem_of_getElem? (i := 474) rfl, rfl⟩
theorem kw_376 : Cond.methodLink R_law 72 y_M_state ∈ zz_tb := List.mem_filter.mpr ⟨List.mem_of_getElem? (i := 471) (by decide +kernel), rfl⟩
theorem kw_377 : Cond.instanceMethod y_M_state ∈ zz_tb := List.mem_filter.mpr ⟨List.mem_of_getElem? (i := 472) (by decide +kernel), rfl⟩
theorem kw_378 : Cond.selects R_M y_M_state y_M_state ∈ zz_tb := List.mem_filter.mpr ⟨List.mem_of_getElem? (i := 473) (by decide +kernel), rfl⟩
theorem kc_379 : Cond.code y_X_log b_X_log 1 (some .int) ∈ zz_tb := List.mem_filter.mpr ⟨List.mem_of_getElem? (i := 302) rfl, rfl⟩
theorem kw_380 : Cond.methodLink R_law 73 y_X_log ∈ zz_tb := List.mem_filter.mpr ⟨List.mem_of_getElem? (i := 299) (by decide +kernel), rfl⟩
theorem kw_381 : Cond.instanceMethod y_X_log ∈ zz_tb := List.mem_filter.mpr ⟨List.mem_of_getElem? (i := 300) (by decide +kernel), rfl⟩
theorem kw_382 : Cond.selects R_X y_X_log y_X_log ∈ zz_tb := List.mem_filter.mpr ⟨List.mem_of_getElem? (i := 301) (by decide +kernel), rfl⟩
theorem kc_383 : Cond.code y_M_log b_M_log 1 (some .int) ∈ zz_tb := List.mem_filter.mpr ⟨List.mem_of_getElem? (i := 478) rfl, rfl⟩
theorem kw_384 : Cond.methodLink R_law 76 y_M_log ∈ zz_tb := List.mem_filter.mpr ⟨List.mem_of_getElem? (i := 475) (by decide +kernel), rfl⟩
theorem kw_385 : Cond.instanceMethod y_M_log ∈ zz_tb := List.mem_filter.mpr ⟨List.mem_of_getElem? (i := 476) (by decide +kernel), rfl⟩
theorem kw_386 : Cond.selects R_M y_M_log y_M_log ∈ zz_tb := List.mem_filter.mpr ⟨List.mem_of_getElem? (i := 477) (by decide +kernel), rfl⟩
theorem kc_387 : Cond.code y_X_entry b_X_entry 4 (some .int) ∈ zz_tb := List.mem_filter.mpr ⟨List.mem_of_getElem? (i := 306) rfl, rfl⟩
theorem kw_388 : Cond.methodLink R_law 77 y_X_entry ∈ zz_tb := List.mem_filter.mpr ⟨List.mem_of_getElem? (i := 303) (by decide +kernel), rfl⟩
theorem kw_389 : Cond.instanceMethod y_X_entry ∈ zz_tb := List.mem_filter.mpr ⟨List.mem_of_getElem? (i := 304) (by decide +kernel), rfl⟩
theorem kw_390 : Cond.selects R_X y_X_entry y_X_entry ∈ zz_tb := List.mem_filter.mpr ⟨List.mem_of_getElem? (i := 305) (by decide +kernel), rfl⟩
theorem kc_391 : Cond.code y_M_entry b_M_entry 3 (some .int) ∈ zz_tb := List.mem_filter.mpr ⟨List.mem_of_getElem? (i := 482) rfl, rfl⟩
theorem kw_392 : Cond.methodLink R_law 80 y_M_entry ∈ zz_tb := List.mem_filter.mpr ⟨List.mem_of_getElem? (i := 479) (by decide +kernel), rfl⟩
theorem kw_393 : Cond.instanceMethod y_M_entry ∈ zz_tb := List.mem_filter.mpr ⟨List.mem_of_getElem? (i := 480) (by decide +kernel), rfl⟩
theorem kw_394 : Cond.selects R_M y_M_entry y_M_entry ∈ zz_tb := List.mem_filter.mpr ⟨List.mem_of_getElem? (i := 481) (by decide +kernel), rfl⟩
theorem kc_395 : Cond.code y_X_free b_X_free 1 (some .int) ∈ zz_tb := List.mem_filter.mpr ⟨List.mem_of_getElem? (i := 314) rfl, rfl⟩
theorem kw_396 : Cond.methodLink R_law 81 y_X_free ∈ zz_tb := List.mem_filter.mpr ⟨List.mem_of_getElem? (i := 311) (by decide +kernel), rfl⟩
theorem kw_397 : Cond.instanceMethod y_X_free ∈ zz_tb := List.mem_filter.mpr ⟨List.mem_of_getElem? (i := 312) (by decide +kernel), rfl⟩
theorem kw_398 : Cond.selects R_X y_X_free y_X_free ∈ zz_tb := List.mem_filter.mpr ⟨List.mem_of_getElem? (i := 313) (by decide +kernel), rfl⟩
theorem kc_399 : Cond.code y_M_free b_M_free 3 (some .int) ∈ zz_tb := List.mem_filter.mpr ⟨List.mem_of_getElem? (i := 490) rfl, rfl⟩
theorem kw_400 : Cond.methodLink R_law 84 y_M_free ∈ zz_tb := List.mem_filter.mpr ⟨List.mem_of_getElem? (i := 487) (by decide +kernel), rfl⟩
theorem kw_401 : Cond.instanceMethod y_M_free ∈ zz_tb := List.mem_filter.mpr ⟨List.mem_of_getElem? (i := 488) (by decide +kernel), rfl⟩
theorem kw_402 : Cond.selects R_M y_M_free y_M_free ∈ zz_tb := List.mem_filter.mpr ⟨List.mem_of_getElem? (i := 489) (by decide +kernel), rfl⟩
theorem kc_403 : Cond.code y_X_reckonings b_X_reckonings 1 (some .int) ∈ zz_tb := List.mem_filter.mpr ⟨List.mem_of_getElem? (i := 322) rfl, rfl⟩
theorem kw_404 : Cond.methodLink R_law 85 y_X_reckonings ∈ zz_tb := List.mem_filter.mpr ⟨List.mem_of_getElem? (i := 319) (by decide +kernel), rfl⟩
theorem kw_405 : Cond.instanceMethod y_X_reckonings ∈ zz_tb := List.mem_filter.mpr ⟨List.mem_of_getElem? (i := 320) (by decide +kernel), rfl⟩
theorem kw_406 : Cond.selects R_X y_X_reckonings y_X_reckonings ∈ zz_tb := List.mem_filter.mpr ⟨List.mem_of_getElem? (i := 321) (by decide +kernel), rfl⟩
theorem kc_407 : Cond.code y_M_reckonings b_M_reckonings 1 (some .int) ∈ zz_tb := List.mem_filter.mpr ⟨List.mem_of_getElem? (i := 494) rfl, rfl⟩
theorem kw_408 : Cond.methodLink R_law 88 y_M_reckonings ∈ zz_tb := List.mem_filter.mpr ⟨List.mem_of_getElem? (i := 491) (by decide +kernel), rfl⟩
theorem kw_409 : Cond.instanceMethod y_M_reckonings ∈ zz_tb := List.mem_filter.mpr ⟨List.mem_of_getElem? (i := 492) (by decide +kernel), rfl⟩
theorem kw_410 : Cond.selects R_M y_M_reckonings y_M_reckonings ∈ zz_tb := List.mem_filter.mpr ⟨List.mem_of_getElem? (i := 493) (by decide +kernel), rfl⟩
theorem kw_411 : Cond.instantiable R_X 4 ∈ zz_tb := List.mem_filter.mpr ⟨List.mem_of_getElem? (i := 26) (by decide +kernel), rfl⟩
theorem kw_412 : Cond.instantiable R_M 12 ∈ zz_tb := List.mem_filter.mpr ⟨List.mem_of_getElem? (i := 324) (by decide +kernel), rfl⟩
theorem kw_413 : Cond.classLink R_law 7 R_X ∈ zz_tb := List.mem_filter.mpr ⟨List.mem_of_getElem? (i := 25) (by decide +kernel), rfl⟩
theorem kc_414 : Cond.code y_X_init b_X_init 1 none ∈ zz_tb := List.mem_filter.mpr ⟨List.mem_of_getElem? (i := 29) rfl, rfl⟩
theorem kw_415 : Cond.methodLink R_law 9 y_X_init ∈ zz_tb := List.mem_filter.mpr ⟨List.mem_of_getElem? (i := 27) (by decide +kernel), rfl⟩
theorem kw_416 : Cond.instanceMethod y_X_init ∈ zz_tb := List.mem_filter.mpr ⟨List.mem_of_getElem? (i := 28) (by decide +kernel), rfl⟩
theorem kw_417 : Cond.classLink R_law 10 R_M ∈ zz_tb := List.mem_filter.mpr ⟨List.mem_of_getElem? (i := 323) (by decide +kernel), rfl⟩
theorem kc_418 : Cond.code y_M_init b_M_init 1 none ∈ zz_tb := List.mem_filter.mpr ⟨List.mem_of_getElem? (i := 327) rfl, rfl⟩
theorem kw_419 : Cond.methodLink R_law 12 y_M_init ∈ zz_tb := List.mem_filter.mpr ⟨List.mem_of_getElem? (i := 325) (by decide +kernel), rfl⟩
theorem kw_420 : Cond.instanceMethod y_M_init ∈ zz_tb := List.mem_filter.mpr ⟨List.mem_of_getElem? (i := 326) (by decide +kernel), rfl⟩
