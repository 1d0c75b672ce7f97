theorem mv_27 : (.initialized "BookingRows" : Cond) ∈ lw_g := List.mem_filter.mpr ⟨List.mem_of_getElem? (i := 27) (by decide +kernel), rfl⟩
theorem mv_33 : (.initialized "BookingRowsModel" : Cond) ∈ lw_g := List.mem_filter.mpr ⟨List.mem_of_getElem? (i := 33) (by decide +kernel), rfl⟩
theorem mv_34 : (.classLink "BookingRowsLaw" 7 "BookingRows" : Cond) ∈ lw_g := List.mem_filter.mpr ⟨List.mem_of_getElem? (i := 34) (by decide +kernel), rfl⟩
theorem mv_35 : (.instantiable "BookingRows" 6 : Cond) ∈ lw_g := List.mem_filter.mpr ⟨List.mem_of_getElem? (i := 35) (by decide +kernel), rfl⟩
theorem mv_36 : (.methodLink "BookingRowsLaw" 9 ⟨"BookingRows", "<init>", "()V"⟩ : Cond) ∈ lw_g := List.mem_filter.mpr ⟨List.mem_of_getElem? (i := 36) (by decide +kernel), rfl⟩
theorem mv_37 : (.instanceMethod ⟨"BookingRows", "<init>", "()V"⟩ : Cond) ∈ lw_g := List.mem_filter.mpr ⟨List.mem_of_getElem? (i := 37) (by decide +kernel), rfl⟩
set_option maxRecDepth 20000 in
theorem mv_38 : (.code ⟨"BookingRows", "<init>", "()V"⟩ prog_1_method_1_code 1 none : Cond) ∈ lw_g := List.mem_filter.mpr ⟨List.mem_of_getElem? (i := 38) rfl, rfl⟩
theorem mv_43 : (.instantiable "BookingRows$Calendar" 4 : Cond) ∈ lw_g := List.mem_filter.mpr ⟨List.mem_of_getElem? (i := 43) (by decide +kernel), rfl⟩
theorem mv_44 : (.methodLinkNest "BookingRows" 11 ⟨"BookingRows$Calendar", "<init>", "()V"⟩ "BookingRows" : Cond) ∈ lw_tbl := List.mem_of_getElem? (i := 44) (by decide +kernel)
theorem mv_64 : (.instantiable "BookingRows$Things" 6 : Cond) ∈ lw_g := List.mem_filter.mpr ⟨List.mem_of_getElem? (i := 64) (by decide +kernel), rfl⟩
theorem mv_65 : (.methodLinkNest "BookingRows" 18 ⟨"BookingRows$Things", "<init>", "()V"⟩ "BookingRows" : Cond) ∈ lw_tbl := List.mem_of_getElem? (i := 65) (by decide +kernel)
theorem mv_89 : (.instantiable "BookingRows$Bookings" 9 : Cond) ∈ lw_g := List.mem_filter.mpr ⟨List.mem_of_getElem? (i := 89) (by decide +kernel), rfl⟩
theorem mv_90 : (.methodLinkNest "BookingRows" 25 ⟨"BookingRows$Bookings", "<init>", "()V"⟩ "BookingRows" : Cond) ∈ lw_tbl := List.mem_of_getElem? (i := 90) (by decide +kernel)
theorem mv_123 : (.instantiable "BookingRows$Wishes" 6 : Cond) ∈ lw_g := List.mem_filter.mpr ⟨List.mem_of_getElem? (i := 123) (by decide +kernel), rfl⟩
theorem mv_124 : (.methodLinkNest "BookingRows" 32 ⟨"BookingRows$Wishes", "<init>", "()V"⟩ "BookingRows" : Cond) ∈ lw_tbl := List.mem_of_getElem? (i := 124) (by decide +kernel)
theorem mv_148 : (.instantiable "BookingRows$Penalties" 2 : Cond) ∈ lw_g := List.mem_filter.mpr ⟨List.mem_of_getElem? (i := 148) (by decide +kernel), rfl⟩
theorem mv_149 : (.methodLinkNest "BookingRows" 39 ⟨"BookingRows$Penalties", "<init>", "()V"⟩ "BookingRows" : Cond) ∈ lw_tbl := List.mem_of_getElem? (i := 149) (by decide +kernel)
theorem mv_179 : (.methodLink "BookingRowsLaw" 13 ⟨"BookingRows", "thing", "(IIIII)I"⟩ : Cond) ∈ lw_g := List.mem_filter.mpr ⟨List.mem_of_getElem? (i := 179) (by decide +kernel), rfl⟩
theorem mv_180 : (.instanceMethod ⟨"BookingRows", "thing", "(IIIII)I"⟩ : Cond) ∈ lw_g := List.mem_filter.mpr ⟨List.mem_of_getElem? (i := 180) (by decide +kernel), rfl⟩
theorem mv_181 : (.selects "BookingRows" ⟨"BookingRows", "thing", "(IIIII)I"⟩ ⟨"BookingRows", "thing", "(IIIII)I"⟩ : Cond) ∈ lw_g := List.mem_filter.mpr ⟨List.mem_of_getElem? (i := 181) (by decide +kernel), rfl⟩
set_option maxRecDepth 20000 in
theorem mv_182 : (.code ⟨"BookingRows", "thing", "(IIIII)I"⟩ prog_1_method_2_code 8 (some .int) : Cond) ∈ lw_g := List.mem_filter.mpr ⟨List.mem_of_getElem? (i := 182) rfl, rfl⟩
theorem mv_198 : (.methodLink "BookingRowsLaw" 18 ⟨"BookingRows", "hours", "(IIII)I"⟩ : Cond) ∈ lw_g := List.mem_filter.mpr ⟨List.mem_of_getElem? (i := 198) (by decide +kernel), rfl⟩
theorem mv_199 : (.instanceMethod ⟨"BookingRows", "hours", "(IIII)I"⟩ : Cond) ∈ lw_g := List.mem_filter.mpr ⟨List.mem_of_getElem? (i := 199) (by decide +kernel), rfl⟩
theorem mv_200 : (.selects "BookingRows" ⟨"BookingRows", "hours", "(IIII)I"⟩ ⟨"BookingRows", "hours", "(IIII)I"⟩ : Cond) ∈ lw_g := List.mem_filter.mpr ⟨List.mem_of_getElem? (i := 200) (by decide +kernel), rfl⟩
set_option maxRecDepth 20000 in
theorem mv_201 : (.code ⟨"BookingRows", "hours", "(IIII)I"⟩ prog_1_method_3_code 7 (some .int) : Cond) ∈ lw_g := List.mem_filter.mpr ⟨List.mem_of_getElem? (i := 201) rfl, rfl⟩
theorem mv_206 : (.methodLink "BookingRowsLaw" 23 ⟨"BookingRows", "holiday", "(I)I"⟩ : Cond) ∈ lw_g := List.mem_filter.mpr ⟨List.mem_of_getElem? (i := 206) (by decide +kernel), rfl⟩
theorem mv_207 : (.instanceMethod ⟨"BookingRows", "holiday", "(I)I"⟩ : Cond) ∈ lw_g := List.mem_filter.mpr ⟨List.mem_of_getElem? (i := 207) (by decide +kernel), rfl⟩
theorem mv_208 : (.selects "BookingRows" ⟨"BookingRows", "holiday", "(I)I"⟩ ⟨"BookingRows", "holiday", "(I)I"⟩ : Cond) ∈ lw_g := List.mem_filter.mpr ⟨List.mem_of_getElem? (i := 208) (by decide +kernel), rfl⟩
set_option maxRecDepth 20000 in
theorem mv_209 : (.code ⟨"BookingRows", "holiday", "(I)I"⟩ prog_1_method_4_code 2 (some .int) : Cond) ∈ lw_g := List.mem_filter.mpr ⟨List.mem_of_getElem? (i := 209) rfl, rfl⟩
theorem mv_222 : (.methodLink "BookingRowsLaw" 28 ⟨"BookingRows", "book", "(IIII)I"⟩ : Cond) ∈ lw_g := List.mem_filter.mpr ⟨List.mem_of_getElem? (i := 222) (by decide +kernel), rfl⟩
theorem mv_223 : (.instanceMethod ⟨"BookingRows", "book", "(IIII)I"⟩ : Cond) ∈ lw_g := List.mem_filter.mpr ⟨List.mem_of_getElem? (i := 223) (by decide +kernel), rfl⟩
theorem mv_224 : (.selects "BookingRows" ⟨"BookingRows", "book", "(IIII)I"⟩ ⟨"BookingRows", "book", "(IIII)I"⟩ : Cond) ∈ lw_g := List.mem_filter.mpr ⟨List.mem_of_getElem? (i := 224) (by decide +kernel), rfl⟩
set_option maxRecDepth 20000 in
theorem mv_225 : (.code ⟨"BookingRows", "book", "(IIII)I"⟩ prog_1_method_5_code 5 (some .int) : Cond) ∈ lw_g := List.mem_filter.mpr ⟨List.mem_of_getElem? (i := 225) rfl, rfl⟩
theorem mv_289 : (.methodLink "BookingRowsLaw" 32 ⟨"BookingRows", "recurring", "(III)I"⟩ : Cond) ∈ lw_g := List.mem_filter.mpr ⟨List.mem_of_getElem? (i := 289) (by decide +kernel), rfl⟩
theorem mv_290 : (.instanceMethod ⟨"BookingRows", "recurring", "(III)I"⟩ : Cond) ∈ lw_g := List.mem_filter.mpr ⟨List.mem_of_getElem? (i := 290) (by decide +kernel), rfl⟩
theorem mv_291 : (.selects "BookingRows" ⟨"BookingRows", "recurring", "(III)I"⟩ ⟨"BookingRows", "recurring", "(III)I"⟩ : Cond) ∈ lw_g := List.mem_filter.mpr ⟨List.mem_of_getElem? (i := 291) (by decide +kernel), rfl⟩
set_option maxRecDepth 20000 in
theorem mv_292 : (.code ⟨"BookingRows", "recurring", "(III)I"⟩ prog_1_method_6_code 10 (some .int) : Cond) ∈ lw_g := List.mem_filter.mpr ⟨List.mem_of_getElem? (i := 292) rfl, rfl⟩
theorem mv_314 : (.methodLink "BookingRowsLaw" 37 ⟨"BookingRows", "cancel", "(II)I"⟩ : Cond) ∈ lw_g := List.mem_filter.mpr ⟨List.mem_of_getElem? (i := 314) (by decide +kernel), rfl⟩
theorem mv_315 : (.instanceMethod ⟨"BookingRows", "cancel", "(II)I"⟩ : Cond) ∈ lw_g := List.mem_filter.mpr ⟨List.mem_of_getElem? (i := 315) (by decide +kernel), rfl⟩
theorem mv_316 : (.selects "BookingRows" ⟨"BookingRows", "cancel", "(II)I"⟩ ⟨"BookingRows", "cancel", "(II)I"⟩ : Cond) ∈ lw_g := List.mem_filter.mpr ⟨List.mem_of_getElem? (i := 316) (by decide +kernel), rfl⟩
set_option maxRecDepth 20000 in
theorem mv_317 : (.code ⟨"BookingRows", "cancel", "(II)I"⟩ prog_1_method_7_code 3 (some .int) : Cond) ∈ lw_g := List.mem_filter.mpr ⟨List.mem_of_getElem? (i := 317) rfl, rfl⟩
theorem mv_375 : (.methodLink "BookingRowsLaw" 42 ⟨"BookingRows", "checkIn", "(II)I"⟩ : Cond) ∈ lw_g := List.mem_filter.mpr ⟨List.mem_of_getElem? (i := 375) (by decide +kernel), rfl⟩
theorem mv_376 : (.instanceMethod ⟨"BookingRows", "checkIn", "(II)I"⟩ : Cond) ∈ lw_g := List.mem_filter.mpr ⟨List.mem_of_getElem? (i := 376) (by decide +kernel), rfl⟩
theorem mv_377 : (.selects "BookingRows" ⟨"BookingRows", "checkIn", "(II)I"⟩ ⟨"BookingRows", "checkIn", "(II)I"⟩ : Cond) ∈ lw_g := List.mem_filter.mpr ⟨List.mem_of_getElem? (i := 377) (by decide +kernel), rfl⟩
set_option maxRecDepth 20000 in
theorem mv_378 : (.code ⟨"BookingRows", "checkIn", "(II)I"⟩ prog_1_method_8_code 4 (some .int) : Cond) ∈ lw_g := List.mem_filter.mpr ⟨List.mem_of_getElem? (i := 378) rfl, rfl⟩
theorem mv_387 : (.methodLink "BookingRowsLaw" 46 ⟨"BookingRows", "edit", "(IIII)I"⟩ : Cond) ∈ lw_g := List.mem_filter.mpr ⟨List.mem_of_getElem? (i := 387) (by decide +kernel), rfl⟩
theorem mv_388 : (.instanceMethod ⟨"BookingRows", "edit", "(IIII)I"⟩ : Cond) ∈ lw_g := List.mem_filter.mpr ⟨List.mem_of_getElem? (i := 388) (by decide +kernel), rfl⟩
theorem mv_389 : (.selects "BookingRows" ⟨"BookingRows", "edit", "(IIII)I"⟩ ⟨"BookingRows", "edit", "(IIII)I"⟩ : Cond) ∈ lw_g := List.mem_filter.mpr ⟨List.mem_of_getElem? (i := 389) (by decide +kernel), rfl⟩
set_option maxRecDepth 20000 in
theorem mv_390 : (.code ⟨"BookingRows", "edit", "(IIII)I"⟩ prog_1_method_9_code 6 (some .int) : Cond) ∈ lw_g := List.mem_filter.mpr ⟨List.mem_of_getElem? (i := 390) rfl, rfl⟩
theorem mv_403 : (.methodLink "BookingRowsLaw" 50 ⟨"BookingRows", "equip", "(II)I"⟩ : Cond) ∈ lw_g := List.mem_filter.mpr ⟨List.mem_of_getElem? (i := 403) (by decide +kernel), rfl⟩
theorem mv_404 : (.instanceMethod ⟨"BookingRows", "equip", "(II)I"⟩ : Cond) ∈ lw_g := List.mem_filter.mpr ⟨List.mem_of_getElem? (i := 404) (by decide +kernel), rfl⟩
theorem mv_405 : (.selects "BookingRows" ⟨"BookingRows", "equip", "(II)I"⟩ ⟨"BookingRows", "equip", "(II)I"⟩ : Cond) ∈ lw_g := List.mem_filter.mpr ⟨List.mem_of_getElem? (i := 405) (by decide +kernel), rfl⟩
set_option maxRecDepth 20000 in
theorem mv_406 : (.code ⟨"BookingRows", "equip", "(II)I"⟩ prog_1_method_10_code 6 (some .int) : Cond) ∈ lw_g := List.mem_filter.mpr ⟨List.mem_of_getElem? (i := 406) rfl, rfl⟩
theorem mv_411 : (.methodLink "BookingRowsLaw" 54 ⟨"BookingRows", "wish", "(IIIII)I"⟩ : Cond) ∈ lw_g := List.mem_filter.mpr ⟨List.mem_of_getElem? (i := 411) (by decide +kernel), rfl⟩
theorem mv_412 : (.instanceMethod ⟨"BookingRows", "wish", "(IIIII)I"⟩ : Cond) ∈ lw_g := List.mem_filter.mpr ⟨List.mem_of_getElem? (i := 412) (by decide +kernel), rfl⟩
theorem mv_413 : (.selects "BookingRows" ⟨"BookingRows", "wish", "(IIIII)I"⟩ ⟨"BookingRows", "wish", "(IIIII)I"⟩ : Cond) ∈ lw_g := List.mem_filter.mpr ⟨List.mem_of_getElem? (i := 413) (by decide +kernel), rfl⟩
set_option maxRecDepth 20000 in
theorem mv_414 : (.code ⟨"BookingRows", "wish", "(IIIII)I"⟩ prog_1_method_11_code 6 (some .int) : Cond) ∈ lw_g := List.mem_filter.mpr ⟨List.mem_of_getElem? (i := 414) rfl, rfl⟩
theorem mv_423 : (.methodLink "BookingRowsLaw" 58 ⟨"BookingRows", "tick", "(I)I"⟩ : Cond) ∈ lw_g := List.mem_filter.mpr ⟨List.mem_of_getElem? (i := 423) (by decide +kernel), rfl⟩
theorem mv_424 : (.instanceMethod ⟨"BookingRows", "tick", "(I)I"⟩ : Cond) ∈ lw_g := List.mem_filter.mpr ⟨List.mem_of_getElem? (i := 424) (by decide +kernel), rfl⟩
theorem mv_425 : (.selects "BookingRows" ⟨"BookingRows", "tick", "(I)I"⟩ ⟨"BookingRows", "tick", "(I)I"⟩ : Cond) ∈ lw_g := List.mem_filter.mpr ⟨List.mem_of_getElem? (i := 425) (by decide +kernel), rfl⟩
set_option maxRecDepth 20000 in
theorem mv_426 : (.code ⟨"BookingRows", "tick", "(I)I"⟩ prog_1_method_12_code 5 (some .int) : Cond) ∈ lw_g := List.mem_filter.mpr ⟨List.mem_of_getElem? (i := 426) rfl, rfl⟩
theorem mv_443 : (.methodLink "BookingRowsLaw" 62 ⟨"BookingRows", "clash", "(II)Z"⟩ : Cond) ∈ lw_g := List.mem_filter.mpr ⟨List.mem_of_getElem? (i := 443) (by decide +kernel), rfl⟩
theorem mv_444 : (.instanceMethod ⟨"BookingRows", "clash", "(II)Z"⟩ : Cond) ∈ lw_g := List.mem_filter.mpr ⟨List.mem_of_getElem? (i := 444) (by decide +kernel), rfl⟩
theorem mv_445 : (.selects "BookingRows" ⟨"BookingRows", "clash", "(II)Z"⟩ ⟨"BookingRows", "clash", "(II)Z"⟩ : Cond) ∈ lw_g := List.mem_filter.mpr ⟨List.mem_of_getElem? (i := 445) (by decide +kernel), rfl⟩
set_option maxRecDepth 20000 in
theorem mv_446 : (.code ⟨"BookingRows", "clash", "(II)Z"⟩ prog_1_method_13_code 3 (some .boolean) : Cond) ∈ lw_g := List.mem_filter.mpr ⟨List.mem_of_getElem? (i := 446) rfl, rfl⟩
theorem mv_448 : (.methodLink "BookingRowsLaw" 67 ⟨"BookingRows", "booking", "(II)I"⟩ : Cond) ∈ lw_g := List.mem_filter.mpr ⟨List.mem_of_getElem? (i := 448) (by decide +kernel), rfl⟩
theorem mv_449 : (.instanceMethod ⟨"BookingRows", "booking", "(II)I"⟩ : Cond) ∈ lw_g := List.mem_filter.mpr ⟨List.mem_of_getElem? (i := 449) (by decide +kernel), rfl⟩
theorem mv_450 : (.selects "BookingRows" ⟨"BookingRows", "booking", "(II)I"⟩ ⟨"BookingRows", "booking", "(II)I"⟩ : Cond) ∈ lw_g := List.mem_filter.mpr ⟨List.mem_of_getElem? (i := 450) (by decide +kernel), rfl⟩
set_option maxRecDepth 20000 in
theorem mv_451 : (.code ⟨"BookingRows", "booking", "(II)I"⟩ prog_1_method_14_code 3 (some .int) : Cond) ∈ lw_g := List.mem_filter.mpr ⟨List.mem_of_getElem? (i := 451) rfl, rfl⟩
theorem mv_460 : (.methodLink "BookingRowsLaw" 71 ⟨"BookingRows", "list", "(II)I"⟩ : Cond) ∈ lw_g := List.mem_filter.mpr ⟨List.mem_of_getElem? (i := 460) (by decide +kernel), rfl⟩
theorem mv_461 : (.instanceMethod ⟨"BookingRows", "list", "(II)I"⟩ : Cond) ∈ lw_g := List.mem_filter.mpr ⟨List.mem_of_getElem? (i := 461) (by decide +kernel), rfl⟩
theorem mv_462 : (.selects "BookingRows" ⟨"BookingRows", "list", "(II)I"⟩ ⟨"BookingRows", "list", "(II)I"⟩ : Cond) ∈ lw_g := List.mem_filter.mpr ⟨List.mem_of_getElem? (i := 462) (by decide +kernel), rfl⟩
set_option maxRecDepth 20000 in
theorem mv_463 : (.code ⟨"BookingRows", "list", "(II)I"⟩ prog_1_method_15_code 3 (some .int) : Cond) ∈ lw_g := List.mem_filter.mpr ⟨List.mem_of_getElem? (i := 463) rfl, rfl⟩
theorem mv_472 : (.methodLink "BookingRowsLaw" 75 ⟨"BookingRows", "person", "(II)I"⟩ : Cond) ∈ lw_g := List.mem_filter.mpr ⟨List.mem_of_getElem? (i := 472) (by decide +kernel), rfl⟩
theorem mv_473 : (.instanceMethod ⟨"BookingRows", "person", "(II)I"⟩ : Cond) ∈ lw_g := List.mem_filter.mpr ⟨List.mem_of_getElem? (i := 473) (by decide +kernel), rfl⟩
theorem mv_474 : (.selects "BookingRows" ⟨"BookingRows", "person", "(II)I"⟩ ⟨"BookingRows", "person", "(II)I"⟩ : Cond) ∈ lw_g := List.mem_filter.mpr ⟨List.mem_of_getElem? (i := 474) (by decide +kernel), rfl⟩
set_option maxRecDepth 20000 in
theorem mv_475 : (.code ⟨"BookingRows", "person", "(II)I"⟩ prog_1_method_16_code 3 (some .int) : Cond) ∈ lw_g := List.mem_filter.mpr ⟨List.mem_of_getElem? (i := 475) rfl, rfl⟩
theorem mv_484 : (.methodLink "BookingRowsLaw" 79 ⟨"BookingRows", "used", "(I)I"⟩ : Cond) ∈ lw_g := List.mem_filter.mpr ⟨List.mem_of_getElem? (i := 484) (by decide +kernel), rfl⟩
theorem mv_485 : (.instanceMethod ⟨"BookingRows", "used", "(I)I"⟩ : Cond) ∈ lw_g := List.mem_filter.mpr ⟨List.mem_of_getElem? (i := 485) (by decide +kernel), rfl⟩
theorem mv_486 : (.selects "BookingRows" ⟨"BookingRows", "used", "(I)I"⟩ ⟨"BookingRows", "used", "(I)I"⟩ : Cond) ∈ lw_g := List.mem_filter.mpr ⟨List.mem_of_getElem? (i := 486) (by decide +kernel), rfl⟩
set_option maxRecDepth 20000 in
theorem mv_487 : (.code ⟨"BookingRows", "used", "(I)I"⟩ prog_1_method_17_code 2 (some .int) : Cond) ∈ lw_g := List.mem_filter.mpr ⟨List.mem_of_getElem? (i := 487) rfl, rfl⟩
theorem mv_492 : (.classLink "BookingRowsLaw" 10 "BookingRowsModel" : Cond) ∈ lw_g := List.mem_filter.mpr ⟨List.mem_of_getElem? (i := 492) (by decide +kernel), rfl⟩
theorem mv_493 : (.instantiable "BookingRowsModel" 15 : Cond) ∈ lw_g := List.mem_filter.mpr ⟨List.mem_of_getElem? (i := 493) (by decide +kernel), rfl⟩
theorem mv_494 : (.methodLink "BookingRowsLaw" 12 ⟨"BookingRowsModel", "<init>", "()V"⟩ : Cond) ∈ lw_g := List.mem_filter.mpr ⟨List.mem_of_getElem? (i := 494) (by decide +kernel), rfl⟩
theorem mv_495 : (.instanceMethod ⟨"BookingRowsModel", "<init>", "()V"⟩ : Cond) ∈ lw_g := List.mem_filter.mpr ⟨List.mem_of_getElem? (i := 495) (by decide +kernel), rfl⟩
set_option maxRecDepth 20000 in
theorem mv_496 : (.code ⟨"BookingRowsModel", "<init>", "()V"⟩ prog_8_method_1_code 1 none : Cond) ∈ lw_g := List.mem_filter.mpr ⟨List.mem_of_getElem? (i := 496) rfl, rfl⟩
theorem mv_544 : (.methodLink "BookingRowsLaw" 17 ⟨"BookingRowsModel", "thing", "(IIIII)I"⟩ : Cond) ∈ lw_g := List.mem_filter.mpr ⟨List.mem_of_getElem? (i := 544) (by decide +kernel), rfl⟩
theorem mv_545 : (.instanceMethod ⟨"BookingRowsModel", "thing", "(IIIII)I"⟩ : Cond) ∈ lw_g := List.mem_filter.mpr ⟨List.mem_of_getElem? (i := 545) (by decide +kernel), rfl⟩
theorem mv_546 : (.selects "BookingRowsModel" ⟨"BookingRowsModel", "thing", "(IIIII)I"⟩ ⟨"BookingRowsModel", "thing", "(IIIII)I"⟩ : Cond) ∈ lw_g := List.mem_filter.mpr ⟨List.mem_of_getElem? (i := 546) (by decide +kernel), rfl⟩
set_option maxRecDepth 20000 in
theorem mv_547 : (.code ⟨"BookingRowsModel", "thing", "(IIIII)I"⟩ prog_8_method_8_code 7 (some .int) : Cond) ∈ lw_g := List.mem_filter.mpr ⟨List.mem_of_getElem? (i := 547) rfl, rfl⟩
theorem mv_549 : (.methodLink "BookingRowsLaw" 22 ⟨"BookingRowsModel", "hours", "(IIII)I"⟩ : Cond) ∈ lw_g := List.mem_filter.mpr ⟨List.mem_of_getElem? (i := 549) (by decide +kernel), rfl⟩
theorem mv_550 : (.instanceMethod ⟨"BookingRowsModel", "hours", "(IIII)I"⟩ : Cond) ∈ lw_g := List.mem_filter.mpr ⟨List.mem_of_getElem? (i := 550) (by decide +kernel), rfl⟩
theorem mv_551 : (.selects "BookingRowsModel" ⟨"BookingRowsModel", "hours", "(IIII)I"⟩ ⟨"BookingRowsModel", "hours", "(IIII)I"⟩ : Cond) ∈ lw_g := List.mem_filter.mpr ⟨List.mem_of_getElem? (i := 551) (by decide +kernel), rfl⟩
set_option maxRecDepth 20000 in
theorem mv_552 : (.code ⟨"BookingRowsModel", "hours", "(IIII)I"⟩ prog_8_method_9_code 6 (some .int) : Cond) ∈ lw_g := List.mem_filter.mpr ⟨List.mem_of_getElem? (i := 552) rfl, rfl⟩
theorem mv_553 : (.methodLink "BookingRowsLaw" 27 ⟨"BookingRowsModel", "holiday", "(I)I"⟩ : Cond) ∈ lw_g := List.mem_filter.mpr ⟨List.mem_of_getElem? (i := 553) (by decide +kernel), rfl⟩
theorem mv_554 : (.instanceMethod ⟨"BookingRowsModel", "holiday", "(I)I"⟩ : Cond) ∈ lw_g := List.mem_filter.mpr ⟨List.mem_of_getElem? (i := 554) (by decide +kernel), rfl⟩
theorem mv_555 : (.selects "BookingRowsModel" ⟨"BookingRowsModel", "holiday", "(I)I"⟩ ⟨"BookingRowsModel", "holiday", "(I)I"⟩ : Cond) ∈ lw_g := List.mem_filter.mpr ⟨List.mem_of_getElem? (i := 555) (by decide +kernel), rfl⟩
set_option maxRecDepth 20000 in
theorem mv_556 : (.code ⟨"BookingRowsModel", "holiday", "(I)I"⟩ prog_8_method_11_code 2 (some .int) : Cond) ∈ lw_g := List.mem_filter.mpr ⟨List.mem_of_getElem? (i := 556) rfl, rfl⟩
theorem mv_561 : (.methodLink "BookingRowsLaw" 31 ⟨"BookingRowsModel", "book", "(IIII)I"⟩ : Cond) ∈ lw_g := List.mem_filter.mpr ⟨List.mem_of_getElem? (i := 561) (by decide +kernel), rfl⟩
theorem mv_562 : (.instanceMethod ⟨"BookingRowsModel", "book", "(IIII)I"⟩ : Cond) ∈ lw_g := List.mem_filter.mpr ⟨List.mem_of_getElem? (i := 562) (by decide +kernel), rfl⟩
theorem mv_563 : (.selects "BookingRowsModel" ⟨"BookingRowsModel", "book", "(IIII)I"⟩ ⟨"BookingRowsModel", "book", "(IIII)I"⟩ : Cond) ∈ lw_g := List.mem_filter.mpr ⟨List.mem_of_getElem? (i := 563) (by decide +kernel), rfl⟩
set_option maxRecDepth 20000 in
theorem mv_564 : (.code ⟨"BookingRowsModel", "book", "(IIII)I"⟩ prog_8_method_17_code 6 (some .int) : Cond) ∈ lw_g := List.mem_filter.mpr ⟨List.mem_of_getElem? (i := 564) rfl, rfl⟩
theorem mv_600 : (.methodLink "BookingRowsLaw" 36 ⟨"BookingRowsModel", "recurring", "(III)I"⟩ : Cond) ∈ lw_g := List.mem_filter.mpr ⟨List.mem_of_getElem? (i := 600) (by decide +kernel), rfl⟩
theorem mv_601 : (.instanceMethod ⟨"BookingRowsModel", "recurring", "(III)I"⟩ : Cond) ∈ lw_g := List.mem_filter.mpr ⟨List.mem_of_getElem? (i := 601) (by decide +kernel), rfl⟩
theorem mv_602 : (.selects "BookingRowsModel" ⟨"BookingRowsModel", "recurring", "(III)I"⟩ ⟨"BookingRowsModel", "recurring", "(III)I"⟩ : Cond) ∈ lw_g := List.mem_filter.mpr ⟨List.mem_of_getElem? (i := 602) (by decide +kernel), rfl⟩
set_option maxRecDepth 20000 in
theorem mv_603 : (.code ⟨"BookingRowsModel", "recurring", "(III)I"⟩ prog_8_method_18_code 10 (some .int) : Cond) ∈ lw_g := List.mem_filter.mpr ⟨List.mem_of_getElem? (i := 603) rfl, rfl⟩
theorem mv_608 : (.methodLink "BookingRowsLaw" 57 ⟨"BookingRowsModel", "wish", "(IIIII)I"⟩ : Cond) ∈ lw_g := List.mem_filter.mpr ⟨List.mem_of_getElem? (i := 608) (by decide +kernel), rfl⟩
theorem mv_609 : (.instanceMethod ⟨"BookingRowsModel", "wish", "(IIIII)I"⟩ : Cond) ∈ lw_g := List.mem_filter.mpr ⟨List.mem_of_getElem? (i := 609) (by decide +kernel), rfl⟩
theorem mv_610 : (.selects "BookingRowsModel" ⟨"BookingRowsModel", "wish", "(IIIII)I"⟩ ⟨"BookingRowsModel", "wish", "(IIIII)I"⟩ : Cond) ∈ lw_g := List.mem_filter.mpr ⟨List.mem_of_getElem? (i := 610) (by decide +kernel), rfl⟩
set_option maxRecDepth 20000 in
theorem mv_611 : (.code ⟨"BookingRowsModel", "wish", "(IIIII)I"⟩ prog_8_method_19_code 7 (some .int) : Cond) ∈ lw_g := List.mem_filter.mpr ⟨List.mem_of_getElem? (i := 611) rfl, rfl⟩
theorem mv_612 : (.methodLink "BookingRowsLaw" 41 ⟨"BookingRowsModel", "cancel", "(II)I"⟩ : Cond) ∈ lw_g := List.mem_filter.mpr ⟨List.mem_of_getElem? (i := 612) (by decide +kernel), rfl⟩
theorem mv_613 : (.instanceMethod ⟨"BookingRowsModel", "cancel", "(II)I"⟩ : Cond) ∈ lw_g := List.mem_filter.mpr ⟨List.mem_of_getElem? (i := 613) (by decide +kernel), rfl⟩
theorem mv_614 : (.selects "BookingRowsModel" ⟨"BookingRowsModel", "cancel", "(II)I"⟩ ⟨"BookingRowsModel", "cancel", "(II)I"⟩ : Cond) ∈ lw_g := List.mem_filter.mpr ⟨List.mem_of_getElem? (i := 614) (by decide +kernel), rfl⟩
set_option maxRecDepth 20000 in
theorem mv_615 : (.code ⟨"BookingRowsModel", "cancel", "(II)I"⟩ prog_8_method_26_code 3 (some .int) : Cond) ∈ lw_g := List.mem_filter.mpr ⟨List.mem_of_getElem? (i := 615) rfl, rfl⟩
theorem mv_640 : (.methodLink "BookingRowsLaw" 45 ⟨"BookingRowsModel", "checkIn", "(II)I"⟩ : Cond) ∈ lw_g := List.mem_filter.mpr ⟨List.mem_of_getElem? (i := 640) (by decide +kernel), rfl⟩
theorem mv_641 : (.instanceMethod ⟨"BookingRowsModel", "checkIn", "(II)I"⟩ : Cond) ∈ lw_g := List.mem_filter.mpr ⟨List.mem_of_getElem? (i := 641) (by decide +kernel), rfl⟩
theorem mv_642 : (.selects "BookingRowsModel" ⟨"BookingRowsModel", "checkIn", "(II)I"⟩ ⟨"BookingRowsModel", "checkIn", "(II)I"⟩ : Cond) ∈ lw_g := List.mem_filter.mpr ⟨List.mem_of_getElem? (i := 642) (by decide +kernel), rfl⟩
set_option maxRecDepth 20000 in
theorem mv_643 : (.code ⟨"BookingRowsModel", "checkIn", "(II)I"⟩ prog_8_method_27_code 5 (some .int) : Cond) ∈ lw_g := List.mem_filter.mpr ⟨List.mem_of_getElem? (i := 643) rfl, rfl⟩
theorem mv_644 : (.methodLink "BookingRowsLaw" 49 ⟨"BookingRowsModel", "edit", "(IIII)I"⟩ : Cond) ∈ lw_g := List.mem_filter.mpr ⟨List.mem_of_getElem? (i := 644) (by decide +kernel), rfl⟩
theorem mv_645 : (.instanceMethod ⟨"BookingRowsModel", "edit", "(IIII)I"⟩ : Cond) ∈ lw_g := List.mem_filter.mpr ⟨List.mem_of_getElem? (i := 645) (by decide +kernel), rfl⟩
theorem mv_646 : (.selects "BookingRowsModel" ⟨"BookingRowsModel", "edit", "(IIII)I"⟩ ⟨"BookingRowsModel", "edit", "(IIII)I"⟩ : Cond) ∈ lw_g := List.mem_filter.mpr ⟨List.mem_of_getElem? (i := 646) (by decide +kernel), rfl⟩
set_option maxRecDepth 20000 in
theorem mv_647 : (.code ⟨"BookingRowsModel", "edit", "(IIII)I"⟩ prog_8_method_29_code 6 (some .int) : Cond) ∈ lw_g := List.mem_filter.mpr ⟨List.mem_of_getElem? (i := 647) rfl, rfl⟩
theorem mv_652 : (.methodLink "BookingRowsLaw" 53 ⟨"BookingRowsModel", "equip", "(II)I"⟩ : Cond) ∈ lw_g := List.mem_filter.mpr ⟨List.mem_of_getElem? (i := 652) (by decide +kernel), rfl⟩
theorem mv_653 : (.instanceMethod ⟨"BookingRowsModel", "equip", "(II)I"⟩ : Cond) ∈ lw_g := List.mem_filter.mpr ⟨List.mem_of_getElem? (i := 653) (by decide +kernel), rfl⟩
theorem mv_654 : (.selects "BookingRowsModel" ⟨"BookingRowsModel", "equip", "(II)I"⟩ ⟨"BookingRowsModel", "equip", "(II)I"⟩ : Cond) ∈ lw_g := List.mem_filter.mpr ⟨List.mem_of_getElem? (i := 654) (by decide +kernel), rfl⟩
set_option maxRecDepth 20000 in
theorem mv_655 : (.code ⟨"BookingRowsModel", "equip", "(II)I"⟩ prog_8_method_30_code 4 (some .int) : Cond) ∈ lw_g := List.mem_filter.mpr ⟨List.mem_of_getElem? (i := 655) rfl, rfl⟩
theorem mv_656 : (.methodLink "BookingRowsLaw" 61 ⟨"BookingRowsModel", "tick", "(I)I"⟩ : Cond) ∈ lw_g := List.mem_filter.mpr ⟨List.mem_of_getElem? (i := 656) (by decide +kernel), rfl⟩
theorem mv_657 : (.instanceMethod ⟨"BookingRowsModel", "tick", "(I)I"⟩ : Cond) ∈ lw_g := List.mem_filter.mpr ⟨List.mem_of_getElem? (i := 657) (by decide +kernel), rfl⟩
theorem mv_658 : (.selects "BookingRowsModel" ⟨"BookingRowsModel", "tick", "(I)I"⟩ ⟨"BookingRowsModel", "tick", "(I)I"⟩ : Cond) ∈ lw_g := List.mem_filter.mpr ⟨List.mem_of_getElem? (i := 658) (by decide +kernel), rfl⟩
set_option maxRecDepth 20000 in
theorem mv_659 : (.code ⟨"BookingRowsModel", "tick", "(I)I"⟩ prog_8_method_31_code 8 (some .int) : Cond) ∈ lw_g := List.mem_filter.mpr ⟨List.mem_of_getElem? (i := 659) rfl, rfl⟩
theorem mv_660 : (.methodLink "BookingRowsLaw" 66 ⟨"BookingRowsModel", "clash", "(II)Z"⟩ : Cond) ∈ lw_g := List.mem_filter.mpr ⟨List.mem_of_getElem? (i := 660) (by decide +kernel), rfl⟩
theorem mv_661 : (.instanceMethod ⟨"BookingRowsModel", "clash", "(II)Z"⟩ : Cond) ∈ lw_g := List.mem_filter.mpr ⟨List.mem_of_getElem? (i := 661) (by decide +kernel), rfl⟩
theorem mv_662 : (.selects "BookingRowsModel" ⟨"BookingRowsModel", "clash", "(II)Z"⟩ ⟨"BookingRowsModel", "clash", "(II)Z"⟩ : Cond) ∈ lw_g := List.mem_filter.mpr ⟨List.mem_of_getElem? (i := 662) (by decide +kernel), rfl⟩
set_option maxRecDepth 20000 in
theorem mv_663 : (.code ⟨"BookingRowsModel", "clash", "(II)Z"⟩ prog_8_method_32_code 3 (some .boolean) : Cond) ∈ lw_g := List.mem_filter.mpr ⟨List.mem_of_getElem? (i := 663) rfl, rfl⟩
theorem mv_664 : (.methodLink "BookingRowsLaw" 70 ⟨"BookingRowsModel", "booking", "(II)I"⟩ : Cond) ∈ lw_g := List.mem_filter.mpr ⟨List.mem_of_getElem? (i := 664) (by decide +kernel), rfl⟩
theorem mv_665 : (.instanceMethod ⟨"BookingRowsModel", "booking", "(II)I"⟩ : Cond) ∈ lw_g := List.mem_filter.mpr ⟨List.mem_of_getElem? (i := 665) (by decide +kernel), rfl⟩
theorem mv_666 : (.selects "BookingRowsModel" ⟨"BookingRowsModel", "booking", "(II)I"⟩ ⟨"BookingRowsModel", "booking", "(II)I"⟩ : Cond) ∈ lw_g := List.mem_filter.mpr ⟨List.mem_of_getElem? (i := 666) (by decide +kernel), rfl⟩
set_option maxRecDepth 20000 in
theorem mv_667 : (.code ⟨"BookingRowsModel", "booking", "(II)I"⟩ prog_8_method_33_code 3 (some .int) : Cond) ∈ lw_g := List.mem_filter.mpr ⟨List.mem_of_getElem? (i := 667) rfl, rfl⟩
theorem mv_668 : (.methodLink "BookingRowsLaw" 74 ⟨"BookingRowsModel", "list", "(II)I"⟩ : Cond) ∈ lw_g := List.mem_filter.mpr ⟨List.mem_of_getElem? (i := 668) (by decide +kernel), rfl⟩
theorem mv_669 : (.instanceMethod ⟨"BookingRowsModel", "list", "(II)I"⟩ : Cond) ∈ lw_g := List.mem_filter.mpr ⟨List.mem_of_getElem? (i := 669) (by decide +kernel), rfl⟩
theorem mv_670 : (.selects "BookingRowsModel" ⟨"BookingRowsModel", "list", "(II)I"⟩ ⟨"BookingRowsModel", "list", "(II)I"⟩ : Cond) ∈ lw_g := List.mem_filter.mpr ⟨List.mem_of_getElem? (i := 670) (by decide +kernel), rfl⟩
set_option maxRecDepth 20000 in
theorem mv_671 : (.code ⟨"BookingRowsModel", "list", "(II)I"⟩ prog_8_method_35_code 8 (some .int) : Cond) ∈ lw_g := List.mem_filter.mpr ⟨List.mem_of_getElem? (i := 671) rfl, rfl⟩
theorem mv_676 : (.methodLink "BookingRowsLaw" 78 ⟨"BookingRowsModel", "person", "(II)I"⟩ : Cond) ∈ lw_g := List.mem_filter.mpr ⟨List.mem_of_getElem? (i := 676) (by decide +kernel), rfl⟩
theorem mv_677 : (.instanceMethod ⟨"BookingRowsModel", "person", "(II)I"⟩ : Cond) ∈ lw_g := List.mem_filter.mpr ⟨List.mem_of_getElem? (i := 677) (by decide +kernel), rfl⟩
theorem mv_678 : (.selects "BookingRowsModel" ⟨"BookingRowsModel", "person", "(II)I"⟩ ⟨"BookingRowsModel", "person", "(II)I"⟩ : Cond) ∈ lw_g := List.mem_filter.mpr ⟨List.mem_of_getElem? (i := 678) (by decide +kernel), rfl⟩
set_option maxRecDepth 20000 in
theorem mv_679 : (.code ⟨"BookingRowsModel", "person", "(II)I"⟩ prog_8_method_36_code 5 (some .int) : Cond) ∈ lw_g := List.mem_filter.mpr ⟨List.mem_of_getElem? (i := 679) rfl, rfl⟩
theorem mv_680 : (.methodLink "BookingRowsLaw" 82 ⟨"BookingRowsModel", "used", "(I)I"⟩ : Cond) ∈ lw_g := List.mem_filter.mpr ⟨List.mem_of_getElem? (i := 680) (by decide +kernel), rfl⟩
theorem mv_681 : (.instanceMethod ⟨"BookingRowsModel", "used", "(I)I"⟩ : Cond) ∈ lw_g := List.mem_filter.mpr ⟨List.mem_of_getElem? (i := 681) (by decide +kernel), rfl⟩
theorem mv_682 : (.selects "BookingRowsModel" ⟨"BookingRowsModel", "used", "(I)I"⟩ ⟨"BookingRowsModel", "used", "(I)I"⟩ : Cond) ∈ lw_g := List.mem_filter.mpr ⟨List.mem_of_getElem? (i := 682) (by decide +kernel), rfl⟩
set_option maxRecDepth 20000 in
theorem mv_683 : (.code ⟨"BookingRowsModel", "used", "(I)I"⟩ prog_8_method_37_code 4 (some .int) : Cond) ∈ lw_g := List.mem_filter.mpr ⟨List.mem_of_getElem? (i := 683) rfl, rfl⟩
