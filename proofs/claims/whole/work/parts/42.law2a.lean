theorem k_263 : (.code y_kr_add b_kr_add 5 (some .int) : Cond) ∈ kt_T := List.mem_filter.mpr ⟨List.mem_of_getElem? (i := 124) (by decide +kernel), by decide +kernel⟩
theorem k_264 : (.instanceMethod y_kr_add : Cond) ∈ kt_T := List.mem_filter.mpr ⟨List.mem_of_getElem? (i := 122) (by decide +kernel), by decide +kernel⟩
theorem k_265 : (.selects R_kr y_kr_add y_kr_add : Cond) ∈ kt_T := List.mem_filter.mpr ⟨List.mem_of_getElem? (i := 123) (by decide +kernel), by decide +kernel⟩
theorem k_266 : (.methodLink R_law 57 y_kr_add : Cond) ∈ kt_T := List.mem_filter.mpr ⟨List.mem_of_getElem? (i := 121) (by decide +kernel), by decide +kernel⟩
theorem k_267 : (.code y_mo_add b_mo_add 3 (some .int) : Cond) ∈ kt_T := List.mem_filter.mpr ⟨List.mem_of_getElem? (i := 494) (by decide +kernel), by decide +kernel⟩
theorem k_268 : (.instanceMethod y_mo_add : Cond) ∈ kt_T := List.mem_filter.mpr ⟨List.mem_of_getElem? (i := 492) (by decide +kernel), by decide +kernel⟩
theorem k_269 : (.selects R_mo y_mo_add y_mo_add : Cond) ∈ kt_T := List.mem_filter.mpr ⟨List.mem_of_getElem? (i := 493) (by decide +kernel), by decide +kernel⟩
theorem k_270 : (.methodLink R_law 60 y_mo_add : Cond) ∈ kt_T := List.mem_filter.mpr ⟨List.mem_of_getElem? (i := 491) (by decide +kernel), by decide +kernel⟩
theorem k_271 : (.code y_kr_less b_kr_less 5 (some .int) : Cond) ∈ kt_T := List.mem_filter.mpr ⟨List.mem_of_getElem? (i := 156) (by decide +kernel), by decide +kernel⟩
theorem k_272 : (.instanceMethod y_kr_less : Cond) ∈ kt_T := List.mem_filter.mpr ⟨List.mem_of_getElem? (i := 154) (by decide +kernel), by decide +kernel⟩
theorem k_273 : (.selects R_kr y_kr_less y_kr_less : Cond) ∈ kt_T := List.mem_filter.mpr ⟨List.mem_of_getElem? (i := 155) (by decide +kernel), by decide +kernel⟩
theorem k_274 : (.methodLink R_law 61 y_kr_less : Cond) ∈ kt_T := List.mem_filter.mpr ⟨List.mem_of_getElem? (i := 153) (by decide +kernel), by decide +kernel⟩
theorem k_275 : (.code y_mo_less b_mo_less 3 (some .int) : Cond) ∈ kt_T := List.mem_filter.mpr ⟨List.mem_of_getElem? (i := 498) (by decide +kernel), by decide +kernel⟩
theorem k_276 : (.instanceMethod y_mo_less : Cond) ∈ kt_T := List.mem_filter.mpr ⟨List.mem_of_getElem? (i := 496) (by decide +kernel), by decide +kernel⟩
theorem k_277 : (.selects R_mo y_mo_less y_mo_less : Cond) ∈ kt_T := List.mem_filter.mpr ⟨List.mem_of_getElem? (i := 497) (by decide +kernel), by decide +kernel⟩
theorem k_278 : (.methodLink R_law 64 y_mo_less : Cond) ∈ kt_T := List.mem_filter.mpr ⟨List.mem_of_getElem? (i := 495) (by decide +kernel), by decide +kernel⟩
theorem k_279 : (.code y_kr_times b_kr_times 3 (some .int) : Cond) ∈ kt_T := List.mem_filter.mpr ⟨List.mem_of_getElem? (i := 160) (by decide +kernel), by decide +kernel⟩
theorem k_280 : (.instanceMethod y_kr_times : Cond) ∈ kt_T := List.mem_filter.mpr ⟨List.mem_of_getElem? (i := 158) (by decide +kernel), by decide +kernel⟩
theorem k_281 : (.selects R_kr y_kr_times y_kr_times : Cond) ∈ kt_T := List.mem_filter.mpr ⟨List.mem_of_getElem? (i := 159) (by decide +kernel), by decide +kernel⟩
theorem k_282 : (.methodLink R_law 65 y_kr_times : Cond) ∈ kt_T := List.mem_filter.mpr ⟨List.mem_of_getElem? (i := 157) (by decide +kernel), by decide +kernel⟩
theorem k_283 : (.code y_mo_times b_mo_times 3 (some .int) : Cond) ∈ kt_T := List.mem_filter.mpr ⟨List.mem_of_getElem? (i := 502) (by decide +kernel), by decide +kernel⟩
theorem k_284 : (.instanceMethod y_mo_times : Cond) ∈ kt_T := List.mem_filter.mpr ⟨List.mem_of_getElem? (i := 500) (by decide +kernel), by decide +kernel⟩
theorem k_285 : (.selects R_mo y_mo_times y_mo_times : Cond) ∈ kt_T := List.mem_filter.mpr ⟨List.mem_of_getElem? (i := 501) (by decide +kernel), by decide +kernel⟩
theorem k_286 : (.methodLink R_law 68 y_mo_times : Cond) ∈ kt_T := List.mem_filter.mpr ⟨List.mem_of_getElem? (i := 499) (by decide +kernel), by decide +kernel⟩
theorem k_287 : (.code y_kr_order b_kr_order 7 (some .int) : Cond) ∈ kt_T := List.mem_filter.mpr ⟨List.mem_of_getElem? (i := 164) (by decide +kernel), by decide +kernel⟩
theorem k_288 : (.instanceMethod y_kr_order : Cond) ∈ kt_T := List.mem_filter.mpr ⟨List.mem_of_getElem? (i := 162) (by decide +kernel), by decide +kernel⟩
theorem k_289 : (.selects R_kr y_kr_order y_kr_order : Cond) ∈ kt_T := List.mem_filter.mpr ⟨List.mem_of_getElem? (i := 163) (by decide +kernel), by decide +kernel⟩
theorem k_290 : (.methodLink R_law 72 y_kr_order : Cond) ∈ kt_T := List.mem_filter.mpr ⟨List.mem_of_getElem? (i := 161) (by decide +kernel), by decide +kernel⟩
theorem k_291 : (.code y_mo_order b_mo_order 7 (some .int) : Cond) ∈ kt_T := List.mem_filter.mpr ⟨List.mem_of_getElem? (i := 510) (by decide +kernel), by decide +kernel⟩
theorem k_292 : (.instanceMethod y_mo_order : Cond) ∈ kt_T := List.mem_filter.mpr ⟨List.mem_of_getElem? (i := 508) (by decide +kernel), by decide +kernel⟩
theorem k_293 : (.selects R_mo y_mo_order y_mo_order : Cond) ∈ kt_T := List.mem_filter.mpr ⟨List.mem_of_getElem? (i := 509) (by decide +kernel), by decide +kernel⟩
theorem k_294 : (.methodLink R_law 75 y_mo_order : Cond) ∈ kt_T := List.mem_filter.mpr ⟨List.mem_of_getElem? (i := 507) (by decide +kernel), by decide +kernel⟩
theorem k_295 : (.constantLong R_law 43 4294967295 : Cond) ∈ kt_T := List.mem_filter.mpr ⟨List.mem_of_getElem? (i := 581) (by decide +kernel), by decide +kernel⟩
theorem k_296 : (.code y_kr_round b_kr_round 11 (some .long) : Cond) ∈ kt_T := List.mem_filter.mpr ⟨List.mem_of_getElem? (i := 168) (by decide +kernel), by decide +kernel⟩
theorem k_297 : (.instanceMethod y_kr_round : Cond) ∈ kt_T := List.mem_filter.mpr ⟨List.mem_of_getElem? (i := 166) (by decide +kernel), by decide +kernel⟩
theorem k_298 : (.selects R_kr y_kr_round y_kr_round : Cond) ∈ kt_T := List.mem_filter.mpr ⟨List.mem_of_getElem? (i := 167) (by decide +kernel), by decide +kernel⟩
theorem k_299 : (.methodLink R_law 76 y_kr_round : Cond) ∈ kt_T := List.mem_filter.mpr ⟨List.mem_of_getElem? (i := 165) (by decide +kernel), by decide +kernel⟩
theorem k_300 : (.code y_mo_round b_mo_round 17 (some .long) : Cond) ∈ kt_T := List.mem_filter.mpr ⟨List.mem_of_getElem? (i := 514) (by decide +kernel), by decide +kernel⟩
theorem k_301 : (.instanceMethod y_mo_round : Cond) ∈ kt_T := List.mem_filter.mpr ⟨List.mem_of_getElem? (i := 512) (by decide +kernel), by decide +kernel⟩
theorem k_302 : (.selects R_mo y_mo_round y_mo_round : Cond) ∈ kt_T := List.mem_filter.mpr ⟨List.mem_of_getElem? (i := 513) (by decide +kernel), by decide +kernel⟩
theorem k_303 : (.methodLink R_law 80 y_mo_round : Cond) ∈ kt_T := List.mem_filter.mpr ⟨List.mem_of_getElem? (i := 511) (by decide +kernel), by decide +kernel⟩
theorem k_304 : (.code y_kr_digit b_kr_digit 6 (some .int) : Cond) ∈ kt_T := List.mem_filter.mpr ⟨List.mem_of_getElem? (i := 185) (by decide +kernel), by decide +kernel⟩
theorem k_305 : (.instanceMethod y_kr_digit : Cond) ∈ kt_T := List.mem_filter.mpr ⟨List.mem_of_getElem? (i := 183) (by decide +kernel), by decide +kernel⟩
theorem k_306 : (.selects R_kr y_kr_digit y_kr_digit : Cond) ∈ kt_T := List.mem_filter.mpr ⟨List.mem_of_getElem? (i := 184) (by decide +kernel), by decide +kernel⟩
theorem k_307 : (.methodLink R_law 81 y_kr_digit : Cond) ∈ kt_T := List.mem_filter.mpr ⟨List.mem_of_getElem? (i := 182) (by decide +kernel), by decide +kernel⟩
theorem k_308 : (.code y_mo_digit b_mo_digit 7 (some .int) : Cond) ∈ kt_T := List.mem_filter.mpr ⟨List.mem_of_getElem? (i := 520) (by decide +kernel), by decide +kernel⟩
theorem k_309 : (.instanceMethod y_mo_digit : Cond) ∈ kt_T := List.mem_filter.mpr ⟨List.mem_of_getElem? (i := 518) (by decide +kernel), by decide +kernel⟩
theorem k_310 : (.selects R_mo y_mo_digit y_mo_digit : Cond) ∈ kt_T := List.mem_filter.mpr ⟨List.mem_of_getElem? (i := 519) (by decide +kernel), by decide +kernel⟩
theorem k_311 : (.methodLink R_law 85 y_mo_digit : Cond) ∈ kt_T := List.mem_filter.mpr ⟨List.mem_of_getElem? (i := 517) (by decide +kernel), by decide +kernel⟩
theorem k_312 : (.code y_kr_row b_kr_row 1 (some .int) : Cond) ∈ kt_T := List.mem_filter.mpr ⟨List.mem_of_getElem? (i := 199) (by decide +kernel), by decide +kernel⟩
theorem k_313 : (.instanceMethod y_kr_row : Cond) ∈ kt_T := List.mem_filter.mpr ⟨List.mem_of_getElem? (i := 197) (by decide +kernel), by decide +kernel⟩
theorem k_314 : (.selects R_kr y_kr_row y_kr_row : Cond) ∈ kt_T := List.mem_filter.mpr ⟨List.mem_of_getElem? (i := 198) (by decide +kernel), by decide +kernel⟩
theorem k_315 : (.methodLink R_law 86 y_kr_row : Cond) ∈ kt_T := List.mem_filter.mpr ⟨List.mem_of_getElem? (i := 196) (by decide +kernel), by decide +kernel⟩
theorem k_316 : (.code y_mo_row b_mo_row 1 (some .int) : Cond) ∈ kt_T := List.mem_filter.mpr ⟨List.mem_of_getElem? (i := 525) (by decide +kernel), by decide +kernel⟩
theorem k_317 : (.instanceMethod y_mo_row : Cond) ∈ kt_T := List.mem_filter.mpr ⟨List.mem_of_getElem? (i := 523) (by decide +kernel), by decide +kernel⟩
theorem k_318 : (.selects R_mo y_mo_row y_mo_row : Cond) ∈ kt_T := List.mem_filter.mpr ⟨List.mem_of_getElem? (i := 524) (by decide +kernel), by decide +kernel⟩
theorem k_319 : (.methodLink R_law 89 y_mo_row : Cond) ∈ kt_T := List.mem_filter.mpr ⟨List.mem_of_getElem? (i := 522) (by decide +kernel), by decide +kernel⟩
theorem k_320 : (.code y_kr_sum b_kr_sum 15 (some .int) : Cond) ∈ kt_T := List.mem_filter.mpr ⟨List.mem_of_getElem? (i := 203) (by decide +kernel), by decide +kernel⟩
theorem k_321 : (.instanceMethod y_kr_sum : Cond) ∈ kt_T := List.mem_filter.mpr ⟨List.mem_of_getElem? (i := 201) (by decide +kernel), by decide +kernel⟩
theorem k_322 : (.selects R_kr y_kr_sum y_kr_sum : Cond) ∈ kt_T := List.mem_filter.mpr ⟨List.mem_of_getElem? (i := 202) (by decide +kernel), by decide +kernel⟩
theorem k_323 : (.methodLink R_law 97 y_kr_sum : Cond) ∈ kt_T := List.mem_filter.mpr ⟨List.mem_of_getElem? (i := 200) (by decide +kernel), by decide +kernel⟩
theorem k_324 : (.code y_mo_sum b_mo_sum 9 (some .int) : Cond) ∈ kt_T := List.mem_filter.mpr ⟨List.mem_of_getElem? (i := 545) (by decide +kernel), by decide +kernel⟩
theorem k_325 : (.instanceMethod y_mo_sum : Cond) ∈ kt_T := List.mem_filter.mpr ⟨List.mem_of_getElem? (i := 543) (by decide +kernel), by decide +kernel⟩
theorem k_326 : (.selects R_mo y_mo_sum y_mo_sum : Cond) ∈ kt_T := List.mem_filter.mpr ⟨List.mem_of_getElem? (i := 544) (by decide +kernel), by decide +kernel⟩
theorem k_327 : (.methodLink R_law 101 y_mo_sum : Cond) ∈ kt_T := List.mem_filter.mpr ⟨List.mem_of_getElem? (i := 542) (by decide +kernel), by decide +kernel⟩
theorem k_328 : (.code y_kr_entry b_kr_entry 4 (some .boolean) : Cond) ∈ kt_T := List.mem_filter.mpr ⟨List.mem_of_getElem? (i := 213) (by decide +kernel), by decide +kernel⟩
theorem k_329 : (.instanceMethod y_kr_entry : Cond) ∈ kt_T := List.mem_filter.mpr ⟨List.mem_of_getElem? (i := 211) (by decide +kernel), by decide +kernel⟩
theorem k_330 : (.selects R_kr y_kr_entry y_kr_entry : Cond) ∈ kt_T := List.mem_filter.mpr ⟨List.mem_of_getElem? (i := 212) (by decide +kernel), by decide +kernel⟩
theorem k_331 : (.methodLink R_law 102 y_kr_entry : Cond) ∈ kt_T := List.mem_filter.mpr ⟨List.mem_of_getElem? (i := 210) (by decide +kernel), by decide +kernel⟩
theorem k_332 : (.code y_mo_entry b_mo_entry 4 (some .boolean) : Cond) ∈ kt_T := List.mem_filter.mpr ⟨List.mem_of_getElem? (i := 549) (by decide +kernel), by decide +kernel⟩
theorem k_333 : (.instanceMethod y_mo_entry : Cond) ∈ kt_T := List.mem_filter.mpr ⟨List.mem_of_getElem? (i := 547) (by decide +kernel), by decide +kernel⟩
theorem k_334 : (.selects R_mo y_mo_entry y_mo_entry : Cond) ∈ kt_T := List.mem_filter.mpr ⟨List.mem_of_getElem? (i := 548) (by decide +kernel), by decide +kernel⟩
theorem k_335 : (.methodLink R_law 105 y_mo_entry : Cond) ∈ kt_T := List.mem_filter.mpr ⟨List.mem_of_getElem? (i := 546) (by decide +kernel), by decide +kernel⟩
theorem k_336 : (.code y_kr_solve b_kr_solve 2 (some .int) : Cond) ∈ kt_T := List.mem_filter.mpr ⟨List.mem_of_getElem? (i := 221) (by decide +kernel), by decide +kernel⟩
theorem k_337 : (.instanceMethod y_kr_solve : Cond) ∈ kt_T := List.mem_filter.mpr ⟨List.mem_of_getElem? (i := 219) (by decide +kernel), by decide +kernel⟩
theorem k_338 : (.selects R_kr y_kr_solve y_kr_solve : Cond) ∈ kt_T := List.mem_filter.mpr ⟨List.mem_of_getElem? (i := 220) (by decide +kernel), by decide +kernel⟩
theorem k_339 : (.methodLink R_law 106 y_kr_solve : Cond) ∈ kt_T := List.mem_filter.mpr ⟨List.mem_of_getElem? (i := 218) (by decide +kernel), by decide +kernel⟩
theorem k_340 : (.code y_mo_solve b_mo_solve 13 (some .int) : Cond) ∈ kt_T := List.mem_filter.mpr ⟨List.mem_of_getElem? (i := 553) (by decide +kernel), by decide +kernel⟩
theorem k_341 : (.instanceMethod y_mo_solve : Cond) ∈ kt_T := List.mem_filter.mpr ⟨List.mem_of_getElem? (i := 551) (by decide +kernel), by decide +kernel⟩
theorem k_342 : (.selects R_mo y_mo_solve y_mo_solve : Cond) ∈ kt_T := List.mem_filter.mpr ⟨List.mem_of_getElem? (i := 552) (by decide +kernel), by decide +kernel⟩
theorem k_343 : (.methodLink R_law 109 y_mo_solve : Cond) ∈ kt_T := List.mem_filter.mpr ⟨List.mem_of_getElem? (i := 550) (by decide +kernel), by decide +kernel⟩
theorem k_344 : (.code y_kr_answer b_kr_answer 3 (some .long) : Cond) ∈ kt_T := List.mem_filter.mpr ⟨List.mem_of_getElem? (i := 246) (by decide +kernel), by decide +kernel⟩
theorem k_345 : (.instanceMethod y_kr_answer : Cond) ∈ kt_T := List.mem_filter.mpr ⟨List.mem_of_getElem? (i := 244) (by decide +kernel), by decide +kernel⟩
theorem k_346 : (.selects R_kr y_kr_answer y_kr_answer : Cond) ∈ kt_T := List.mem_filter.mpr ⟨List.mem_of_getElem? (i := 245) (by decide +kernel), by decide +kernel⟩
theorem k_347 : (.methodLink R_law 110 y_kr_answer : Cond) ∈ kt_T := List.mem_filter.mpr ⟨List.mem_of_getElem? (i := 243) (by decide +kernel), by decide +kernel⟩
theorem k_348 : (.code y_mo_answer b_mo_answer 3 (some .long) : Cond) ∈ kt_T := List.mem_filter.mpr ⟨List.mem_of_getElem? (i := 569) (by decide +kernel), by decide +kernel⟩
theorem k_349 : (.instanceMethod y_mo_answer : Cond) ∈ kt_T := List.mem_filter.mpr ⟨List.mem_of_getElem? (i := 567) (by decide +kernel), by decide +kernel⟩
theorem k_350 : (.selects R_mo y_mo_answer y_mo_answer : Cond) ∈ kt_T := List.mem_filter.mpr ⟨List.mem_of_getElem? (i := 568) (by decide +kernel), by decide +kernel⟩
theorem k_351 : (.methodLink R_law 114 y_mo_answer : Cond) ∈ kt_T := List.mem_filter.mpr ⟨List.mem_of_getElem? (i := 566) (by decide +kernel), by decide +kernel⟩
theorem k_352 : (.code y_kr_weight b_kr_weight 2 (some .int) : Cond) ∈ kt_T := List.mem_filter.mpr ⟨List.mem_of_getElem? (i := 258) (by decide +kernel), by decide +kernel⟩
theorem k_353 : (.instanceMethod y_kr_weight : Cond) ∈ kt_T := List.mem_filter.mpr ⟨List.mem_of_getElem? (i := 256) (by decide +kernel), by decide +kernel⟩
theorem k_354 : (.selects R_kr y_kr_weight y_kr_weight : Cond) ∈ kt_T := List.mem_filter.mpr ⟨List.mem_of_getElem? (i := 257) (by decide +kernel), by decide +kernel⟩
theorem k_355 : (.methodLink R_law 115 y_kr_weight : Cond) ∈ kt_T := List.mem_filter.mpr ⟨List.mem_of_getElem? (i := 255) (by decide +kernel), by decide +kernel⟩
theorem k_356 : (.code y_mo_weight b_mo_weight 2 (some .int) : Cond) ∈ kt_T := List.mem_filter.mpr ⟨List.mem_of_getElem? (i := 573) (by decide +kernel), by decide +kernel⟩
theorem k_357 : (.instanceMethod y_mo_weight : Cond) ∈ kt_T := List.mem_filter.mpr ⟨List.mem_of_getElem? (i := 571) (by decide +kernel), by decide +kernel⟩
theorem k_358 : (.selects R_mo y_mo_weight y_mo_weight : Cond) ∈ kt_T := List.mem_filter.mpr ⟨List.mem_of_getElem? (i := 572) (by decide +kernel), by decide +kernel⟩
theorem k_359 : (.methodLink R_law 118 y_mo_weight : Cond) ∈ kt_T := List.mem_filter.mpr ⟨List.mem_of_getElem? (i := 570) (by decide +kernel), by decide +kernel⟩
theorem k_360 : (.code y_kr_share b_kr_share 4 (some .long) : Cond) ∈ kt_T := List.mem_filter.mpr ⟨List.mem_of_getElem? (i := 267) (by decide +kernel), by decide +kernel⟩
theorem k_361 : (.instanceMethod y_kr_share : Cond) ∈ kt_T := List.mem_filter.mpr ⟨List.mem_of_getElem? (i := 265) (by decide +kernel), by decide +kernel⟩
theorem k_362 : (.selects R_kr y_kr_share y_kr_share : Cond) ∈ kt_T := List.mem_filter.mpr ⟨List.mem_of_getElem? (i := 266) (by decide +kernel), by decide +kernel⟩
theorem k_363 : (.methodLink R_law 119 y_kr_share : Cond) ∈ kt_T := List.mem_filter.mpr ⟨List.mem_of_getElem? (i := 264) (by decide +kernel), by decide +kernel⟩
theorem k_364 : (.code y_mo_share b_mo_share 11 (some .long) : Cond) ∈ kt_T := List.mem_filter.mpr ⟨List.mem_of_getElem? (i := 578) (by decide +kernel), by decide +kernel⟩
theorem k_365 : (.instanceMethod y_mo_share : Cond) ∈ kt_T := List.mem_filter.mpr ⟨List.mem_of_getElem? (i := 576) (by decide +kernel), by decide +kernel⟩
theorem k_366 : (.selects R_mo y_mo_share y_mo_share : Cond) ∈ kt_T := List.mem_filter.mpr ⟨List.mem_of_getElem? (i := 577) (by decide +kernel), by decide +kernel⟩
theorem k_367 : (.methodLink R_law 123 y_mo_share : Cond) ∈ kt_T := List.mem_filter.mpr ⟨List.mem_of_getElem? (i := 575) (by decide +kernel), by decide +kernel⟩
section KSL
variable {p : Program} {l : Launch} {e : Env} {R : Room} {s : State} {m : MethodId} {args : Array Value} {below : List Frame} {meth : Method} {c : Code} {H H0 : Heap} {locs : List Loc} {cells slots : Nat} {Q : State → Prop} {cc : ByteArray} {pc : Nat} {ls : Array Slot} {rest : List Value} {A : Nat → Prop}
/-- a place of the script, by its name -/
theorem kz_sld (hexec : p.tables.exec = Jvm.exec) (hb : c.code = cc) {b L : Nat} {xs : Nat → Int32} (hX : va_X b L xs s H0) (hbl : b < H0.size) (hbA : ¬ A b) (hS : va_S A H0 H locs) {i v : Int32} (hin : vp_in i L) (hv : xs i.toNatClampNeg = v) (hdg : decode cc pc = .ok (.iaload, 1))
    (kk : W p l e R s m args below meth c H locs cells slots Q (F0 m (pc + 1) ls (.int v :: rest))) : W p l e R s m args below meth c H locs cells slots Q (F0 m pc ls (.int i :: .ref b :: rest)) :=
  va_sld hexec hb hX hbl hbA hS hin hdg (by rw [hv]; exact kk)
end KSL
theorem lw_put_eq {kinds rowc cnt row kind v : Int32} {fc : Nat → Int32} {fo : Nat → Int64} : f_lw_put kinds rowc fc cnt fo row kind v = (0, (f_kr_put kinds rowc fc cnt row kind v).2, vp_updL fo 0 (if (f_kr_put kinds rowc fc cnt row kind v).1 = 0 then 0 else 1)) := by
  unfold f_lw_put
  by_cases h : (f_kr_put kinds rowc fc cnt row kind v).1 = 0
  · rw [if_pos h, if_pos h]
  · rw [if_neg h, if_neg h]
theorem round_hby {cnt mv : Int32} {fu fl : Nat → Int32} {gu gd : Nat → Int64} (h : RV cnt fu fl mv gu gd) {a : Int32} {unit : Int64} : ¬ f_mo_isValue mv a = 0 → ¬ unit < 1 → unit ≤ 1000000000 → ¬ (gd a.toNatClampNeg * unit) = 0 := by
  intro ha h3 h4
  rw [isValue_has, h.1] at ha
  obtain ⟨-, e1, -, p1⟩ := h.has ha
  rw [L_lt, show (1 : Int64).toInt = 1 by decide] at h3
  rw [L_le, show (1000000000 : Int64).toInt = 1000000000 by decide] at h4
  obtain ⟨m1, m2, -⟩ := prL_pos (x := (fl a.toNatClampNeg).toInt64) (by rw [L_i]; exact p1) (y := unit) (by omega)
  rw [e1]
  exact L_ne0.mpr (by omega)
/-- both sides between two calls: their cells, and how their numbers belong together -/
def LInv (dC : Nat → ClassId) (dI : Nat → Nat → Nat) (A : Nat → Prop) (s : State) (ak : Nat) (ac : Nat) (a0 : Nat) (a1 : Nat) (a2 : Nat) (a_w : Nat) (a_z : Nat) (a_s : Nat) (e0 : Nat) (w0 : Nat) (pv : Nat) (su : Nat) (sl : Nat) (er : Nat → Nat) (wr : Nat → Nat) (cC : ClassId) (cU : ClassId) (cL : ClassId) (cZ : ClassId) (cE : ClassId) (cW : ClassId) (cP : ClassId) (cSu : ClassId) (cSl : ClassId) (cI : ClassId) (cJ : ClassId) (m0 : Nat) (mu : Nat) (md : Nat) (mc : Nat) (me : Nat) (mau : Nat) (mad : Nat) (mwg : Nat) (mgv : Nat) (msq : Nat) (ao : Nat) (cmu : ClassId) (cmd : ClassId) (cmc : ClassId) (cme : ClassId) (cma : ClassId) (cmb : ClassId) (cmw : ClassId) (cmg : ClassId) (cms : ClassId) (cO : ClassId) (kinds : Int32) (nk : Nat) (mk : Int32) (H : Heap) (locs : List Loc) : Prop := ∃ (rowc : Int32) (fc : Nat → Int32) (cnt : Int32) (fu : Nat → Int32) (fl : Nat → Int32) (wc : Int32) (all : Int64) (fz : Nat → Int32) (ans : Int32) (fp : Nat → Int32) (fsu : Nat → Int64) (fsl : Nat → Int64) (E : Nat → Nat → Int32) (Wm : Nat → Nat → Int64) (th : Int32) (mv : Int32) (up : Int64) (dn : Int64) (mr : Int32) (so : Int32) (mw : Int32) (gu : Nat → Int64) (gd : Nat → Int64) (gc : Nat → Int32) (ge : Nat → Int32) (ga : Nat → Int64) (gb : Nat → Int64) (gw : Nat → Int64) (gg : Nat → Int32) (gs : Nat → Int64) (fo : Nat → Int64), va_P (dC, dI) classes ((m0, .inr (4, [.int th, .int mk, .int mv, .ref mu, .ref md, .long up, .long dn, .int mr, .ref mc, .ref me, .int so, .ref mau, .ref mad, .int mw, .ref mwg, .ref mgv, .ref msq])) :: (mu, .inl (cmu, 300, .inr (.inl gu))) :: (md, .inl (cmd, 300, .inr (.inl gd))) :: (mc, .inl (cmc, 320, .inl gc)) :: (me, .inl (cme, 20, .inl ge)) :: (mau, .inl (cma, 4, .inr (.inl ga))) :: (mad, .inl (cmb, 4, .inr (.inl gb))) :: (mwg, .inl (cmw, 12, .inr (.inl gw))) :: (mgv, .inl (cmg, 12, .inl gg)) :: (msq, .inl (cms, 16, .inr (.inl gs))) :: (ao, .inl (cO, 1, .inr (.inl fo))) :: (ak, .inr (0, [.int kinds, .ref ac, .int rowc, .ref a0, .ref a_s, .ref a_w])) :: (ac, .inl (cC, (20 * nk), .inl fc)) :: (a0, .inr (1, [.ref a1, .ref a2, .int cnt])) :: (a1, .inl (cU, 300, .inl fu)) :: (a2, .inl (cL, 300, .inl fl)) :: (a_w, .inr (3, [.ref a_z, .int wc, .long all])) :: (a_z, .inl (cZ, 12, .inl fz)) :: ks_ws a_s e0 w0 pv su sl er wr cE cW cP cSu cSl cI cJ fp fsu fsl E Wm ans) H ∧ va_D A ((m0, .inr (4, [.int th, .int mk, .int mv, .ref mu, .ref md, .long up, .long dn, .int mr, .ref mc, .ref me, .int so, .ref mau, .ref mad, .int mw, .ref mwg, .ref mgv, .ref msq])) :: (mu, .inl (cmu, 300, .inr (.inl gu))) :: (md, .inl (cmd, 300, .inr (.inl gd))) :: (mc, .inl (cmc, 320, .inl gc)) :: (me, .inl (cme, 20, .inl ge)) :: (mau, .inl (cma, 4, .inr (.inl ga))) :: (mad, .inl (cmb, 4, .inr (.inl gb))) :: (mwg, .inl (cmw, 12, .inr (.inl gw))) :: (mgv, .inl (cmg, 12, .inl gg)) :: (msq, .inl (cms, 16, .inr (.inl gs))) :: (ao, .inl (cO, 1, .inr (.inl fo))) :: (ak, .inr (0, [.int kinds, .ref ac, .int rowc, .ref a0, .ref a_s, .ref a_w])) :: (ac, .inl (cC, (20 * nk), .inl fc)) :: (a0, .inr (1, [.ref a1, .ref a2, .int cnt])) :: (a1, .inl (cU, 300, .inl fu)) :: (a2, .inl (cL, 300, .inl fl)) :: (a_w, .inr (3, [.ref a_z, .int wc, .long all])) :: (a_z, .inl (cZ, 12, .inl fz)) :: ks_ws a_s e0 w0 pv su sl er wr cE cW cP cSu cSl cI cJ fp fsu fsl E Wm ans) ∧ va_S A s.heap H locs ∧ RV cnt fu fl mv gu gd ∧ RC nk cnt rowc fc mr gc ∧ RE E ge ∧ RA ans fsu fsl so ga gb ∧ RW wc all fz mw gw
/-- what holds through the whole law -/
def LCtx (p : Program) (l : Launch) (m : MethodId) (c : Code) (b L : Nat) (xs : Nat → Int32) (dC : Nat → ClassId) (dI : Nat → Nat → Nat) (A : Nat → Prop) (s : State) (ak : Nat) (ac : Nat) (a0 : Nat) (a1 : Nat) (a2 : Nat) (a_w : Nat) (a_z : Nat) (a_s : Nat) (e0 : Nat) (w0 : Nat) (pv : Nat) (su : Nat) (sl : Nat) (er : Nat → Nat) (wr : Nat → Nat) (cC : ClassId) (cU : ClassId) (cL : ClassId) (cZ : ClassId) (cE : ClassId) (cW : ClassId) (cP : ClassId) (cSu : ClassId) (cSl : ClassId) (cI : ClassId) (cJ : ClassId) (m0 : Nat) (mu : Nat) (md : Nat) (mc : Nat) (me : Nat) (mau : Nat) (mad : Nat) (mwg : Nat) (mgv : Nat) (msq : Nat) (ao : Nat) (cmu : ClassId) (cmd : ClassId) (cmc : ClassId) (cme : ClassId) (cma : ClassId) (cmb : ClassId) (cmw : ClassId) (cmg : ClassId) (cms : ClassId) (cO : ClassId) (kinds : Int32) (nk : Nat) (mk : Int32) : Prop := p.tables.exec = Jvm.exec ∧ c.code = code ∧ c.maxLocals = 7 ∧ s.vm.findClass R_law = some m.cls ∧ (∀ w ∈ kt_T, w.before #[Value.ref b] s = true) ∧ kt_N s ∧ kt_N2 s ∧ l.stackTraces = false ∧ va_X b L xs s s.heap ∧ b < s.heap.size ∧ ¬ A b ∧ (∀ q : Nat, s.heap.size ≤ q → A q) ∧ kt_Z A s s.heap ∧ (∃ sa, vk_R R_kr 49 "the lower number is 0" sa s) ∧ (∃ sa, vk_R R_kr 67 "no such value or part" sa s) ∧ (∃ sa, vk_R R_kr 85 "the divisor is 0" sa s) ∧ (∃ sa, vk_R R_kr 114 "no such kind" sa s) ∧ va_K (dC, dI) classes [(cmu, .long), (cmd, .long), (cmc, .int), (cme, .int), (cma, .long), (cmb, .long), (cmw, .long), (cmg, .boolean), (cms, .long), (cO, .long), (cC, .int), (cU, .int), (cL, .int), (cZ, .int), (cE, .array .int), (cW, .array .long), (cP, .int), (cSu, .long), (cSl, .long), (cI, .int), (cJ, .long)] s ∧ (kinds = nI nk ∧ nk ≤ 16) ∧ mk = kinds
