theorem mw_0 : (.selects "BookingRows" ⟨"BookingRows", "tryBooking", "(IIII)I"⟩ ⟨"BookingRows", "tryBooking", "(IIII)I"⟩ : Cond) ∈ lw_g := List.mem_filter.mpr ⟨List.mem_of_getElem? (i := 0) (by decide +kernel), rfl⟩
theorem mw_1 : (.selects "BookingRows" ⟨"BookingRows", "refusalOf", "(IIIII)I"⟩ ⟨"BookingRows", "refusalOf", "(IIIII)I"⟩ : Cond) ∈ lw_g := List.mem_filter.mpr ⟨List.mem_of_getElem? (i := 1) (by decide +kernel), rfl⟩
theorem mw_2 : (.selects "BookingRows" ⟨"BookingRows", "release", "(II)I"⟩ ⟨"BookingRows", "release", "(II)I"⟩ : Cond) ∈ lw_g := List.mem_filter.mpr ⟨List.mem_of_getElem? (i := 2) (by decide +kernel), rfl⟩
theorem mw_3 : (.selects "BookingRows$Bookings" ⟨"BookingRows$Bookings", "turnOne", "(II)V"⟩ ⟨"BookingRows$Bookings", "turnOne", "(II)V"⟩ : Cond) ∈ lw_g := List.mem_filter.mpr ⟨List.mem_of_getElem? (i := 3) (by decide +kernel), rfl⟩
theorem mw_4 : (.selects "BookingRows" ⟨"BookingRows", "serveWishes", "(I)I"⟩ ⟨"BookingRows", "serveWishes", "(I)I"⟩ : Cond) ∈ lw_g := List.mem_filter.mpr ⟨List.mem_of_getElem? (i := 4) (by decide +kernel), rfl⟩
theorem mw_5 : (.selects "BookingRows$Wishes" ⟨"BookingRows$Wishes", "move", "(II)V"⟩ ⟨"BookingRows$Wishes", "move", "(II)V"⟩ : Cond) ∈ lw_g := List.mem_filter.mpr ⟨List.mem_of_getElem? (i := 5) (by decide +kernel), rfl⟩
theorem mw_6 : (.selects "BookingRows" ⟨"BookingRows", "lastCheckIn", "(I)I"⟩ ⟨"BookingRows", "lastCheckIn", "(I)I"⟩ : Cond) ∈ lw_g := List.mem_filter.mpr ⟨List.mem_of_getElem? (i := 6) (by decide +kernel), rfl⟩
theorem mw_7 : (.selects "BookingRows" ⟨"BookingRows", "isMissed", "(I)Z"⟩ ⟨"BookingRows", "isMissed", "(I)Z"⟩ : Cond) ∈ lw_g := List.mem_filter.mpr ⟨List.mem_of_getElem? (i := 7) (by decide +kernel), rfl⟩
theorem mw_8 : (.selects "BookingRows$Bookings" ⟨"BookingRows$Bookings", "livingBefore", "(I)I"⟩ ⟨"BookingRows$Bookings", "livingBefore", "(I)I"⟩ : Cond) ∈ lw_g := List.mem_filter.mpr ⟨List.mem_of_getElem? (i := 8) (by decide +kernel), rfl⟩
theorem mw_9 : (.selects "BookingRowsModel" ⟨"BookingRowsModel", "isHoliday", "(I)Z"⟩ ⟨"BookingRowsModel", "isHoliday", "(I)Z"⟩ : Cond) ∈ lw_g := List.mem_filter.mpr ⟨List.mem_of_getElem? (i := 9) (by decide +kernel), rfl⟩
theorem mw_10 : (.selects "BookingRowsModel" ⟨"BookingRowsModel", "isThing", "(I)Z"⟩ ⟨"BookingRowsModel", "isThing", "(I)Z"⟩ : Cond) ∈ lw_g := List.mem_filter.mpr ⟨List.mem_of_getElem? (i := 10) (by decide +kernel), rfl⟩
theorem mw_11 : (.selects "BookingRowsModel" ⟨"BookingRowsModel", "against", "(IIIII)I"⟩ ⟨"BookingRowsModel", "against", "(IIIII)I"⟩ : Cond) ∈ lw_g := List.mem_filter.mpr ⟨List.mem_of_getElem? (i := 11) (by decide +kernel), rfl⟩
theorem mw_12 : (.selects "BookingRowsModel" ⟨"BookingRowsModel", "living", "(I)I"⟩ ⟨"BookingRowsModel", "living", "(I)I"⟩ : Cond) ∈ lw_g := List.mem_filter.mpr ⟨List.mem_of_getElem? (i := 12) (by decide +kernel), rfl⟩
theorem mw_13 : (.selects "BookingRowsModel" ⟨"BookingRowsModel", "lives", "(I)Z"⟩ ⟨"BookingRowsModel", "lives", "(I)Z"⟩ : Cond) ∈ lw_g := List.mem_filter.mpr ⟨List.mem_of_getElem? (i := 13) (by decide +kernel), rfl⟩
theorem mw_14 : (.selects "BookingRowsModel" ⟨"BookingRowsModel", "clashes", "(IIII)Z"⟩ ⟨"BookingRowsModel", "clashes", "(IIII)Z"⟩ : Cond) ∈ lw_g := List.mem_filter.mpr ⟨List.mem_of_getElem? (i := 14) (by decide +kernel), rfl⟩
theorem mw_15 : (.selects "BookingRowsModel" ⟨"BookingRowsModel", "meets", "(IIII)Z"⟩ ⟨"BookingRowsModel", "meets", "(IIII)Z"⟩ : Cond) ∈ lw_g := List.mem_filter.mpr ⟨List.mem_of_getElem? (i := 15) (by decide +kernel), rfl⟩
theorem mw_16 : (.selects "BookingRowsModel" ⟨"BookingRowsModel", "add", "(IIIII)I"⟩ ⟨"BookingRowsModel", "add", "(IIIII)I"⟩ : Cond) ∈ lw_g := List.mem_filter.mpr ⟨List.mem_of_getElem? (i := 16) (by decide +kernel), rfl⟩
theorem mw_17 : (.selects "BookingRowsModel" ⟨"BookingRowsModel", "isBooking", "(I)Z"⟩ ⟨"BookingRowsModel", "isBooking", "(I)Z"⟩ : Cond) ∈ lw_g := List.mem_filter.mpr ⟨List.mem_of_getElem? (i := 17) (by decide +kernel), rfl⟩
theorem mw_18 : (.selects "BookingRowsModel" ⟨"BookingRowsModel", "isOf", "(II)Z"⟩ ⟨"BookingRowsModel", "isOf", "(II)Z"⟩ : Cond) ∈ lw_g := List.mem_filter.mpr ⟨List.mem_of_getElem? (i := 18) (by decide +kernel), rfl⟩
theorem mw_19 : (.selects "BookingRowsModel" ⟨"BookingRowsModel", "ends", "(II)I"⟩ ⟨"BookingRowsModel", "ends", "(II)I"⟩ : Cond) ∈ lw_g := List.mem_filter.mpr ⟨List.mem_of_getElem? (i := 19) (by decide +kernel), rfl⟩
theorem mw_20 : (.selects "BookingRowsModel" ⟨"BookingRowsModel", "grantAll", "(II)I"⟩ ⟨"BookingRowsModel", "grantAll", "(II)I"⟩ : Cond) ∈ lw_g := List.mem_filter.mpr ⟨List.mem_of_getElem? (i := 20) (by decide +kernel), rfl⟩
theorem mw_21 : (.selects "BookingRowsModel" ⟨"BookingRowsModel", "grants", "(I)I"⟩ ⟨"BookingRowsModel", "grants", "(I)I"⟩ : Cond) ∈ lw_g := List.mem_filter.mpr ⟨List.mem_of_getElem? (i := 21) (by decide +kernel), rfl⟩
theorem mw_22 : (.selects "BookingRowsModel" ⟨"BookingRowsModel", "nextWish", "(I)I"⟩ ⟨"BookingRowsModel", "nextWish", "(I)I"⟩ : Cond) ∈ lw_g := List.mem_filter.mpr ⟨List.mem_of_getElem? (i := 22) (by decide +kernel), rfl⟩
theorem mw_23 : (.selects "BookingRowsModel" ⟨"BookingRowsModel", "dropWish", "(I)V"⟩ ⟨"BookingRowsModel", "dropWish", "(I)V"⟩ : Cond) ∈ lw_g := List.mem_filter.mpr ⟨List.mem_of_getElem? (i := 23) (by decide +kernel), rfl⟩
theorem mw_24 : (.selects "BookingRowsModel" ⟨"BookingRowsModel", "isMain", "(I)Z"⟩ ⟨"BookingRowsModel", "isMain", "(I)Z"⟩ : Cond) ∈ lw_g := List.mem_filter.mpr ⟨List.mem_of_getElem? (i := 24) (by decide +kernel), rfl⟩
theorem mw_25 : (.selects "BookingRowsModel" ⟨"BookingRowsModel", "isListed", "(II)Z"⟩ ⟨"BookingRowsModel", "isListed", "(II)Z"⟩ : Cond) ∈ lw_g := List.mem_filter.mpr ⟨List.mem_of_getElem? (i := 25) (by decide +kernel), rfl⟩
theorem mw_27 : (.initialized "BookingRows" : Cond) ∈ lw_g := List.mem_filter.mpr ⟨List.mem_of_getElem? (i := 27) (by decide +kernel), rfl⟩
theorem mw_28 : (.initialized "BookingRows$Calendar" : Cond) ∈ lw_g := List.mem_filter.mpr ⟨List.mem_of_getElem? (i := 28) (by decide +kernel), rfl⟩
theorem mw_29 : (.initialized "BookingRows$Things" : Cond) ∈ lw_g := List.mem_filter.mpr ⟨List.mem_of_getElem? (i := 29) (by decide +kernel), rfl⟩
theorem mw_30 : (.initialized "BookingRows$Bookings" : Cond) ∈ lw_g := List.mem_filter.mpr ⟨List.mem_of_getElem? (i := 30) (by decide +kernel), rfl⟩
theorem mw_31 : (.initialized "BookingRows$Wishes" : Cond) ∈ lw_g := List.mem_filter.mpr ⟨List.mem_of_getElem? (i := 31) (by decide +kernel), rfl⟩
theorem mw_32 : (.initialized "BookingRows$Penalties" : Cond) ∈ lw_g := List.mem_filter.mpr ⟨List.mem_of_getElem? (i := 32) (by decide +kernel), rfl⟩
theorem mw_33 : (.initialized "BookingRowsModel" : Cond) ∈ lw_g := List.mem_filter.mpr ⟨List.mem_of_getElem? (i := 33) (by decide +kernel), rfl⟩
theorem mw_39 : (.methodLink "BookingRows" 3 ⟨"java/lang/Object", "<init>", "()V"⟩ : Cond) ∈ lw_g := List.mem_filter.mpr ⟨List.mem_of_getElem? (i := 39) (by decide +kernel), rfl⟩
theorem mw_40 : (.instanceMethod ⟨"java/lang/Object", "<init>", "()V"⟩ : Cond) ∈ lw_g := List.mem_filter.mpr ⟨List.mem_of_getElem? (i := 40) (by decide +kernel), rfl⟩
theorem mw_42 : (.classLink "BookingRows" 9 "BookingRows$Calendar" : Cond) ∈ lw_g := List.mem_filter.mpr ⟨List.mem_of_getElem? (i := 42) (by decide +kernel), rfl⟩
theorem mw_43 : (.instantiable "BookingRows$Calendar" 4 : Cond) ∈ lw_g := List.mem_filter.mpr ⟨List.mem_of_getElem? (i := 43) (by decide +kernel), rfl⟩
theorem mw_45 : (.instanceMethod ⟨"BookingRows$Calendar", "<init>", "()V"⟩ : Cond) ∈ lw_g := List.mem_filter.mpr ⟨List.mem_of_getElem? (i := 45) (by decide +kernel), rfl⟩
set_option maxRecDepth 20000 in
theorem mw_46 : (.code ⟨"BookingRows$Calendar", "<init>", "()V"⟩ prog_3_method_1_code 1 none : Cond) ∈ lw_g := List.mem_filter.mpr ⟨List.mem_of_getElem? (i := 46) rfl, rfl⟩
theorem mw_47 : (.methodLink "BookingRows$Calendar" 3 ⟨"java/lang/Object", "<init>", "()V"⟩ : Cond) ∈ lw_g := List.mem_filter.mpr ⟨List.mem_of_getElem? (i := 47) (by decide +kernel), rfl⟩
theorem mw_48 : (.fieldLink "BookingRows$Calendar" 9 "BookingRows$Calendar" "opens" "[I" : Cond) ∈ lw_g := List.mem_filter.mpr ⟨List.mem_of_getElem? (i := 48) (by decide +kernel), rfl⟩
theorem mw_49 : (.fieldLink "BookingRows$Calendar" 15 "BookingRows$Calendar" "closes" "[I" : Cond) ∈ lw_g := List.mem_filter.mpr ⟨List.mem_of_getElem? (i := 49) (by decide +kernel), rfl⟩
theorem mw_50 : (.fieldLink "BookingRows$Calendar" 18 "BookingRows$Calendar" "holidays" "[Z" : Cond) ∈ lw_g := List.mem_filter.mpr ⟨List.mem_of_getElem? (i := 50) (by decide +kernel), rfl⟩
theorem mw_51 : (.fieldLink "BookingRows$Calendar" 22 "BookingRows$Calendar" "holidayCount" "I" : Cond) ∈ lw_g := List.mem_filter.mpr ⟨List.mem_of_getElem? (i := 51) (by decide +kernel), rfl⟩
theorem mw_61 : (.arrayClass .int : Cond) ∈ lw_g := List.mem_filter.mpr ⟨List.mem_of_getElem? (i := 61) (by decide +kernel), rfl⟩
theorem mw_62 : (.arrayClass .boolean : Cond) ∈ lw_g := List.mem_filter.mpr ⟨List.mem_of_getElem? (i := 62) (by decide +kernel), rfl⟩
theorem mw_63 : (.classLink "BookingRows" 16 "BookingRows$Things" : Cond) ∈ lw_g := List.mem_filter.mpr ⟨List.mem_of_getElem? (i := 63) (by decide +kernel), rfl⟩
theorem mw_64 : (.instantiable "BookingRows$Things" 6 : Cond) ∈ lw_g := List.mem_filter.mpr ⟨List.mem_of_getElem? (i := 64) (by decide +kernel), rfl⟩
theorem mw_66 : (.instanceMethod ⟨"BookingRows$Things", "<init>", "()V"⟩ : Cond) ∈ lw_g := List.mem_filter.mpr ⟨List.mem_of_getElem? (i := 66) (by decide +kernel), rfl⟩
set_option maxRecDepth 20000 in
theorem mw_67 : (.code ⟨"BookingRows$Things", "<init>", "()V"⟩ prog_5_method_1_code 1 none : Cond) ∈ lw_g := List.mem_filter.mpr ⟨List.mem_of_getElem? (i := 67) rfl, rfl⟩
theorem mw_68 : (.methodLink "BookingRows$Things" 3 ⟨"java/lang/Object", "<init>", "()V"⟩ : Cond) ∈ lw_g := List.mem_filter.mpr ⟨List.mem_of_getElem? (i := 68) (by decide +kernel), rfl⟩
theorem mw_69 : (.fieldLink "BookingRows$Things" 9 "BookingRows$Things" "places" "[I" : Cond) ∈ lw_g := List.mem_filter.mpr ⟨List.mem_of_getElem? (i := 69) (by decide +kernel), rfl⟩
theorem mw_70 : (.fieldLink "BookingRows$Things" 15 "BookingRows$Things" "leasts" "[I" : Cond) ∈ lw_g := List.mem_filter.mpr ⟨List.mem_of_getElem? (i := 70) (by decide +kernel), rfl⟩
theorem mw_71 : (.fieldLink "BookingRows$Things" 18 "BookingRows$Things" "mosts" "[I" : Cond) ∈ lw_g := List.mem_filter.mpr ⟨List.mem_of_getElem? (i := 71) (by decide +kernel), rfl⟩
theorem mw_72 : (.fieldLink "BookingRows$Things" 21 "BookingRows$Things" "aheads" "[I" : Cond) ∈ lw_g := List.mem_filter.mpr ⟨List.mem_of_getElem? (i := 72) (by decide +kernel), rfl⟩
theorem mw_73 : (.fieldLink "BookingRows$Things" 24 "BookingRows$Things" "graces" "[I" : Cond) ∈ lw_g := List.mem_filter.mpr ⟨List.mem_of_getElem? (i := 73) (by decide +kernel), rfl⟩
theorem mw_74 : (.fieldLink "BookingRows$Things" 27 "BookingRows$Things" "count" "I" : Cond) ∈ lw_g := List.mem_filter.mpr ⟨List.mem_of_getElem? (i := 74) (by decide +kernel), rfl⟩
theorem mw_88 : (.classLink "BookingRows" 23 "BookingRows$Bookings" : Cond) ∈ lw_g := List.mem_filter.mpr ⟨List.mem_of_getElem? (i := 88) (by decide +kernel), rfl⟩
theorem mw_89 : (.instantiable "BookingRows$Bookings" 9 : Cond) ∈ lw_g := List.mem_filter.mpr ⟨List.mem_of_getElem? (i := 89) (by decide +kernel), rfl⟩
theorem mw_91 : (.instanceMethod ⟨"BookingRows$Bookings", "<init>", "()V"⟩ : Cond) ∈ lw_g := List.mem_filter.mpr ⟨List.mem_of_getElem? (i := 91) (by decide +kernel), rfl⟩
set_option maxRecDepth 20000 in
theorem mw_92 : (.code ⟨"BookingRows$Bookings", "<init>", "()V"⟩ prog_2_method_1_code 1 none : Cond) ∈ lw_g := List.mem_filter.mpr ⟨List.mem_of_getElem? (i := 92) rfl, rfl⟩
theorem mw_93 : (.methodLink "BookingRows$Bookings" 3 ⟨"java/lang/Object", "<init>", "()V"⟩ : Cond) ∈ lw_g := List.mem_filter.mpr ⟨List.mem_of_getElem? (i := 93) (by decide +kernel), rfl⟩
theorem mw_94 : (.fieldLink "BookingRows$Bookings" 9 "BookingRows$Bookings" "persons" "[I" : Cond) ∈ lw_g := List.mem_filter.mpr ⟨List.mem_of_getElem? (i := 94) (by decide +kernel), rfl⟩
theorem mw_95 : (.fieldLink "BookingRows$Bookings" 15 "BookingRows$Bookings" "things" "[I" : Cond) ∈ lw_g := List.mem_filter.mpr ⟨List.mem_of_getElem? (i := 95) (by decide +kernel), rfl⟩
theorem mw_96 : (.fieldLink "BookingRows$Bookings" 18 "BookingRows$Bookings" "froms" "[I" : Cond) ∈ lw_g := List.mem_filter.mpr ⟨List.mem_of_getElem? (i := 96) (by decide +kernel), rfl⟩
theorem mw_97 : (.fieldLink "BookingRows$Bookings" 21 "BookingRows$Bookings" "tos" "[I" : Cond) ∈ lw_g := List.mem_filter.mpr ⟨List.mem_of_getElem? (i := 97) (by decide +kernel), rfl⟩
theorem mw_98 : (.fieldLink "BookingRows$Bookings" 24 "BookingRows$Bookings" "states" "[I" : Cond) ∈ lw_g := List.mem_filter.mpr ⟨List.mem_of_getElem? (i := 98) (by decide +kernel), rfl⟩
theorem mw_99 : (.fieldLink "BookingRows$Bookings" 27 "BookingRows$Bookings" "hosts" "[I" : Cond) ∈ lw_g := List.mem_filter.mpr ⟨List.mem_of_getElem? (i := 99) (by decide +kernel), rfl⟩
theorem mw_100 : (.fieldLink "BookingRows$Bookings" 30 "BookingRows$Bookings" "count" "I" : Cond) ∈ lw_g := List.mem_filter.mpr ⟨List.mem_of_getElem? (i := 100) (by decide +kernel), rfl⟩
theorem mw_101 : (.fieldLink "BookingRows$Bookings" 34 "BookingRows$Bookings" "turnedThings" "[I" : Cond) ∈ lw_g := List.mem_filter.mpr ⟨List.mem_of_getElem? (i := 101) (by decide +kernel), rfl⟩
theorem mw_102 : (.fieldLink "BookingRows$Bookings" 37 "BookingRows$Bookings" "turnedCount" "I" : Cond) ∈ lw_g := List.mem_filter.mpr ⟨List.mem_of_getElem? (i := 102) (by decide +kernel), rfl⟩
theorem mw_122 : (.classLink "BookingRows" 30 "BookingRows$Wishes" : Cond) ∈ lw_g := List.mem_filter.mpr ⟨List.mem_of_getElem? (i := 122) (by decide +kernel), rfl⟩
theorem mw_123 : (.instantiable "BookingRows$Wishes" 6 : Cond) ∈ lw_g := List.mem_filter.mpr ⟨List.mem_of_getElem? (i := 123) (by decide +kernel), rfl⟩
theorem mw_125 : (.instanceMethod ⟨"BookingRows$Wishes", "<init>", "()V"⟩ : Cond) ∈ lw_g := List.mem_filter.mpr ⟨List.mem_of_getElem? (i := 125) (by decide +kernel), rfl⟩
set_option maxRecDepth 20000 in
theorem mw_126 : (.code ⟨"BookingRows$Wishes", "<init>", "()V"⟩ prog_6_method_1_code 1 none : Cond) ∈ lw_g := List.mem_filter.mpr ⟨List.mem_of_getElem? (i := 126) rfl, rfl⟩
theorem mw_127 : (.methodLink "BookingRows$Wishes" 3 ⟨"java/lang/Object", "<init>", "()V"⟩ : Cond) ∈ lw_g := List.mem_filter.mpr ⟨List.mem_of_getElem? (i := 127) (by decide +kernel), rfl⟩
theorem mw_128 : (.fieldLink "BookingRows$Wishes" 9 "BookingRows$Wishes" "persons" "[I" : Cond) ∈ lw_g := List.mem_filter.mpr ⟨List.mem_of_getElem? (i := 128) (by decide +kernel), rfl⟩
theorem mw_129 : (.fieldLink "BookingRows$Wishes" 15 "BookingRows$Wishes" "things" "[I" : Cond) ∈ lw_g := List.mem_filter.mpr ⟨List.mem_of_getElem? (i := 129) (by decide +kernel), rfl⟩
theorem mw_130 : (.fieldLink "BookingRows$Wishes" 18 "BookingRows$Wishes" "froms" "[I" : Cond) ∈ lw_g := List.mem_filter.mpr ⟨List.mem_of_getElem? (i := 130) (by decide +kernel), rfl⟩
theorem mw_131 : (.fieldLink "BookingRows$Wishes" 21 "BookingRows$Wishes" "tos" "[I" : Cond) ∈ lw_g := List.mem_filter.mpr ⟨List.mem_of_getElem? (i := 131) (by decide +kernel), rfl⟩
theorem mw_132 : (.fieldLink "BookingRows$Wishes" 24 "BookingRows$Wishes" "ranks" "[I" : Cond) ∈ lw_g := List.mem_filter.mpr ⟨List.mem_of_getElem? (i := 132) (by decide +kernel), rfl⟩
theorem mw_133 : (.fieldLink "BookingRows$Wishes" 27 "BookingRows$Wishes" "count" "I" : Cond) ∈ lw_g := List.mem_filter.mpr ⟨List.mem_of_getElem? (i := 133) (by decide +kernel), rfl⟩
theorem mw_147 : (.classLink "BookingRows" 37 "BookingRows$Penalties" : Cond) ∈ lw_g := List.mem_filter.mpr ⟨List.mem_of_getElem? (i := 147) (by decide +kernel), rfl⟩
theorem mw_148 : (.instantiable "BookingRows$Penalties" 2 : Cond) ∈ lw_g := List.mem_filter.mpr ⟨List.mem_of_getElem? (i := 148) (by decide +kernel), rfl⟩
theorem mw_150 : (.instanceMethod ⟨"BookingRows$Penalties", "<init>", "()V"⟩ : Cond) ∈ lw_g := List.mem_filter.mpr ⟨List.mem_of_getElem? (i := 150) (by decide +kernel), rfl⟩
set_option maxRecDepth 20000 in
theorem mw_151 : (.code ⟨"BookingRows$Penalties", "<init>", "()V"⟩ prog_4_method_1_code 1 none : Cond) ∈ lw_g := List.mem_filter.mpr ⟨List.mem_of_getElem? (i := 151) rfl, rfl⟩
theorem mw_152 : (.methodLink "BookingRows$Penalties" 3 ⟨"java/lang/Object", "<init>", "()V"⟩ : Cond) ∈ lw_g := List.mem_filter.mpr ⟨List.mem_of_getElem? (i := 152) (by decide +kernel), rfl⟩
theorem mw_153 : (.fieldLink "BookingRows$Penalties" 9 "BookingRows$Penalties" "noShows" "[I" : Cond) ∈ lw_g := List.mem_filter.mpr ⟨List.mem_of_getElem? (i := 153) (by decide +kernel), rfl⟩
theorem mw_154 : (.fieldLink "BookingRows$Penalties" 15 "BookingRows$Penalties" "barredUntil" "[I" : Cond) ∈ lw_g := List.mem_filter.mpr ⟨List.mem_of_getElem? (i := 154) (by decide +kernel), rfl⟩
theorem mw_160 : (.fieldLink "BookingRows" 12 "BookingRows" "calendar" "LBookingRows$Calendar;" : Cond) ∈ lw_g := List.mem_filter.mpr ⟨List.mem_of_getElem? (i := 160) (by decide +kernel), rfl⟩
theorem mw_161 : (.fieldLink "BookingRows" 19 "BookingRows" "things" "LBookingRows$Things;" : Cond) ∈ lw_g := List.mem_filter.mpr ⟨List.mem_of_getElem? (i := 161) (by decide +kernel), rfl⟩
theorem mw_162 : (.fieldLink "BookingRows" 26 "BookingRows" "bookings" "LBookingRows$Bookings;" : Cond) ∈ lw_g := List.mem_filter.mpr ⟨List.mem_of_getElem? (i := 162) (by decide +kernel), rfl⟩
theorem mw_163 : (.fieldLink "BookingRows" 33 "BookingRows" "wishes" "LBookingRows$Wishes;" : Cond) ∈ lw_g := List.mem_filter.mpr ⟨List.mem_of_getElem? (i := 163) (by decide +kernel), rfl⟩
theorem mw_164 : (.fieldLink "BookingRows" 40 "BookingRows" "penalties" "LBookingRows$Penalties;" : Cond) ∈ lw_g := List.mem_filter.mpr ⟨List.mem_of_getElem? (i := 164) (by decide +kernel), rfl⟩
theorem mw_165 : (.fieldLink "BookingRows" 44 "BookingRows" "now" "I" : Cond) ∈ lw_g := List.mem_filter.mpr ⟨List.mem_of_getElem? (i := 165) (by decide +kernel), rfl⟩
theorem mw_183 : (.constant "BookingRows" 48 100000 : Cond) ∈ lw_g := List.mem_filter.mpr ⟨List.mem_of_getElem? (i := 183) (by decide +kernel), rfl⟩
theorem mw_184 : (.methodLink "BookingRows" 49 ⟨"BookingRows", "isWithin", "(III)Z"⟩ : Cond) ∈ lw_g := List.mem_filter.mpr ⟨List.mem_of_getElem? (i := 184) (by decide +kernel), rfl⟩
theorem mw_185 : (.static ⟨"BookingRows", "isWithin", "(III)Z"⟩ : Cond) ∈ lw_g := List.mem_filter.mpr ⟨List.mem_of_getElem? (i := 185) (by decide +kernel), rfl⟩
set_option maxRecDepth 20000 in
theorem mw_186 : (.code ⟨"BookingRows", "isWithin", "(III)Z"⟩ prog_1_method_18_code 3 (some .boolean) : Cond) ∈ lw_g := List.mem_filter.mpr ⟨List.mem_of_getElem? (i := 186) rfl, rfl⟩
theorem mw_187 : (.methodLink "BookingRows" 53 ⟨"BookingRows", "isPlace", "(I)Z"⟩ : Cond) ∈ lw_g := List.mem_filter.mpr ⟨List.mem_of_getElem? (i := 187) (by decide +kernel), rfl⟩
theorem mw_188 : (.static ⟨"BookingRows", "isPlace", "(I)Z"⟩ : Cond) ∈ lw_g := List.mem_filter.mpr ⟨List.mem_of_getElem? (i := 188) (by decide +kernel), rfl⟩
set_option maxRecDepth 20000 in
theorem mw_189 : (.code ⟨"BookingRows", "isPlace", "(I)Z"⟩ prog_1_method_19_code 1 (some .boolean) : Cond) ∈ lw_g := List.mem_filter.mpr ⟨List.mem_of_getElem? (i := 189) rfl, rfl⟩
theorem mw_190 : (.methodLink "BookingRows" 57 ⟨"BookingRows$Things", "isFull", "()Z"⟩ : Cond) ∈ lw_g := List.mem_filter.mpr ⟨List.mem_of_getElem? (i := 190) (by decide +kernel), rfl⟩
theorem mw_191 : (.instanceMethod ⟨"BookingRows$Things", "isFull", "()Z"⟩ : Cond) ∈ lw_g := List.mem_filter.mpr ⟨List.mem_of_getElem? (i := 191) (by decide +kernel), rfl⟩
theorem mw_192 : (.selects "BookingRows$Things" ⟨"BookingRows$Things", "isFull", "()Z"⟩ ⟨"BookingRows$Things", "isFull", "()Z"⟩ : Cond) ∈ lw_g := List.mem_filter.mpr ⟨List.mem_of_getElem? (i := 192) (by decide +kernel), rfl⟩
set_option maxRecDepth 20000 in
theorem mw_193 : (.code ⟨"BookingRows$Things", "isFull", "()Z"⟩ prog_5_method_3_code 1 (some .boolean) : Cond) ∈ lw_g := List.mem_filter.mpr ⟨List.mem_of_getElem? (i := 193) rfl, rfl⟩
theorem mw_194 : (.methodLink "BookingRows" 61 ⟨"BookingRows$Things", "add", "(IIIII)I"⟩ : Cond) ∈ lw_g := List.mem_filter.mpr ⟨List.mem_of_getElem? (i := 194) (by decide +kernel), rfl⟩
theorem mw_195 : (.instanceMethod ⟨"BookingRows$Things", "add", "(IIIII)I"⟩ : Cond) ∈ lw_g := List.mem_filter.mpr ⟨List.mem_of_getElem? (i := 195) (by decide +kernel), rfl⟩
theorem mw_196 : (.selects "BookingRows$Things" ⟨"BookingRows$Things", "add", "(IIIII)I"⟩ ⟨"BookingRows$Things", "add", "(IIIII)I"⟩ : Cond) ∈ lw_g := List.mem_filter.mpr ⟨List.mem_of_getElem? (i := 196) (by decide +kernel), rfl⟩
set_option maxRecDepth 20000 in
theorem mw_197 : (.code ⟨"BookingRows$Things", "add", "(IIIII)I"⟩ prog_5_method_4_code 7 (some .int) : Cond) ∈ lw_g := List.mem_filter.mpr ⟨List.mem_of_getElem? (i := 197) rfl, rfl⟩
theorem mw_202 : (.methodLink "BookingRows" 65 ⟨"BookingRows$Calendar", "setHours", "(IIII)V"⟩ : Cond) ∈ lw_g := List.mem_filter.mpr ⟨List.mem_of_getElem? (i := 202) (by decide +kernel), rfl⟩
theorem mw_203 : (.instanceMethod ⟨"BookingRows$Calendar", "setHours", "(IIII)V"⟩ : Cond) ∈ lw_g := List.mem_filter.mpr ⟨List.mem_of_getElem? (i := 203) (by decide +kernel), rfl⟩
theorem mw_204 : (.selects "BookingRows$Calendar" ⟨"BookingRows$Calendar", "setHours", "(IIII)V"⟩ ⟨"BookingRows$Calendar", "setHours", "(IIII)V"⟩ : Cond) ∈ lw_g := List.mem_filter.mpr ⟨List.mem_of_getElem? (i := 204) (by decide +kernel), rfl⟩
set_option maxRecDepth 20000 in
theorem mw_205 : (.code ⟨"BookingRows$Calendar", "setHours", "(IIII)V"⟩ prog_3_method_2_code 6 none : Cond) ∈ lw_g := List.mem_filter.mpr ⟨List.mem_of_getElem? (i := 205) rfl, rfl⟩
theorem mw_210 : (.methodLink "BookingRows" 69 ⟨"BookingRows$Calendar", "isHoliday", "(I)Z"⟩ : Cond) ∈ lw_g := List.mem_filter.mpr ⟨List.mem_of_getElem? (i := 210) (by decide +kernel), rfl⟩
theorem mw_211 : (.instanceMethod ⟨"BookingRows$Calendar", "isHoliday", "(I)Z"⟩ : Cond) ∈ lw_g := List.mem_filter.mpr ⟨List.mem_of_getElem? (i := 211) (by decide +kernel), rfl⟩
theorem mw_212 : (.selects "BookingRows$Calendar" ⟨"BookingRows$Calendar", "isHoliday", "(I)Z"⟩ ⟨"BookingRows$Calendar", "isHoliday", "(I)Z"⟩ : Cond) ∈ lw_g := List.mem_filter.mpr ⟨List.mem_of_getElem? (i := 212) (by decide +kernel), rfl⟩
set_option maxRecDepth 20000 in
theorem mw_213 : (.code ⟨"BookingRows$Calendar", "isHoliday", "(I)Z"⟩ prog_3_method_3_code 2 (some .boolean) : Cond) ∈ lw_g := List.mem_filter.mpr ⟨List.mem_of_getElem? (i := 213) rfl, rfl⟩
theorem mw_214 : (.methodLink "BookingRows" 72 ⟨"BookingRows$Calendar", "isFull", "()Z"⟩ : Cond) ∈ lw_g := List.mem_filter.mpr ⟨List.mem_of_getElem? (i := 214) (by decide +kernel), rfl⟩
theorem mw_215 : (.instanceMethod ⟨"BookingRows$Calendar", "isFull", "()Z"⟩ : Cond) ∈ lw_g := List.mem_filter.mpr ⟨List.mem_of_getElem? (i := 215) (by decide +kernel), rfl⟩
theorem mw_216 : (.selects "BookingRows$Calendar" ⟨"BookingRows$Calendar", "isFull", "()Z"⟩ ⟨"BookingRows$Calendar", "isFull", "()Z"⟩ : Cond) ∈ lw_g := List.mem_filter.mpr ⟨List.mem_of_getElem? (i := 216) (by decide +kernel), rfl⟩
set_option maxRecDepth 20000 in
theorem mw_217 : (.code ⟨"BookingRows$Calendar", "isFull", "()Z"⟩ prog_3_method_4_code 1 (some .boolean) : Cond) ∈ lw_g := List.mem_filter.mpr ⟨List.mem_of_getElem? (i := 217) rfl, rfl⟩
theorem mw_218 : (.methodLink "BookingRows" 73 ⟨"BookingRows$Calendar", "addHoliday", "(I)I"⟩ : Cond) ∈ lw_g := List.mem_filter.mpr ⟨List.mem_of_getElem? (i := 218) (by decide +kernel), rfl⟩
theorem mw_219 : (.instanceMethod ⟨"BookingRows$Calendar", "addHoliday", "(I)I"⟩ : Cond) ∈ lw_g := List.mem_filter.mpr ⟨List.mem_of_getElem? (i := 219) (by decide +kernel), rfl⟩
theorem mw_220 : (.selects "BookingRows$Calendar" ⟨"BookingRows$Calendar", "addHoliday", "(I)I"⟩ ⟨"BookingRows$Calendar", "addHoliday", "(I)I"⟩ : Cond) ∈ lw_g := List.mem_filter.mpr ⟨List.mem_of_getElem? (i := 220) (by decide +kernel), rfl⟩
set_option maxRecDepth 20000 in
theorem mw_221 : (.code ⟨"BookingRows$Calendar", "addHoliday", "(I)I"⟩ prog_3_method_5_code 2 (some .int) : Cond) ∈ lw_g := List.mem_filter.mpr ⟨List.mem_of_getElem? (i := 221) rfl, rfl⟩
theorem mw_226 : (.methodLink "BookingRows" 77 ⟨"BookingRows", "isPerson", "(I)Z"⟩ : Cond) ∈ lw_g := List.mem_filter.mpr ⟨List.mem_of_getElem? (i := 226) (by decide +kernel), rfl⟩
theorem mw_227 : (.static ⟨"BookingRows", "isPerson", "(I)Z"⟩ : Cond) ∈ lw_g := List.mem_filter.mpr ⟨List.mem_of_getElem? (i := 227) (by decide +kernel), rfl⟩
set_option maxRecDepth 20000 in
theorem mw_228 : (.code ⟨"BookingRows", "isPerson", "(I)Z"⟩ prog_1_method_20_code 1 (some .boolean) : Cond) ∈ lw_g := List.mem_filter.mpr ⟨List.mem_of_getElem? (i := 228) rfl, rfl⟩
theorem mw_229 : (.methodLink "BookingRows" 80 ⟨"BookingRows$Things", "has", "(I)Z"⟩ : Cond) ∈ lw_g := List.mem_filter.mpr ⟨List.mem_of_getElem? (i := 229) (by decide +kernel), rfl⟩
theorem mw_230 : (.instanceMethod ⟨"BookingRows$Things", "has", "(I)Z"⟩ : Cond) ∈ lw_g := List.mem_filter.mpr ⟨List.mem_of_getElem? (i := 230) (by decide +kernel), rfl⟩
theorem mw_231 : (.selects "BookingRows$Things" ⟨"BookingRows$Things", "has", "(I)Z"⟩ ⟨"BookingRows$Things", "has", "(I)Z"⟩ : Cond) ∈ lw_g := List.mem_filter.mpr ⟨List.mem_of_getElem? (i := 231) (by decide +kernel), rfl⟩
set_option maxRecDepth 20000 in
theorem mw_232 : (.code ⟨"BookingRows$Things", "has", "(I)Z"⟩ prog_5_method_2_code 2 (some .boolean) : Cond) ∈ lw_g := List.mem_filter.mpr ⟨List.mem_of_getElem? (i := 232) rfl, rfl⟩
theorem mw_233 : (.methodLink "BookingRows" 83 ⟨"BookingRows", "tryBooking", "(IIII)I"⟩ : Cond) ∈ lw_g := List.mem_filter.mpr ⟨List.mem_of_getElem? (i := 233) (by decide +kernel), rfl⟩
theorem mw_235 : (.instanceMethod ⟨"BookingRows", "tryBooking", "(IIII)I"⟩ : Cond) ∈ lw_g := List.mem_filter.mpr ⟨List.mem_of_getElem? (i := 235) (by decide +kernel), rfl⟩
set_option maxRecDepth 20000 in
theorem mw_236 : (.code ⟨"BookingRows", "tryBooking", "(IIII)I"⟩ prog_1_method_22_code 6 (some .int) : Cond) ∈ lw_g := List.mem_filter.mpr ⟨List.mem_of_getElem? (i := 236) rfl, rfl⟩
theorem mw_237 : (.methodLink "BookingRows" 134 ⟨"BookingRows$Bookings", "isFull", "()Z"⟩ : Cond) ∈ lw_g := List.mem_filter.mpr ⟨List.mem_of_getElem? (i := 237) (by decide +kernel), rfl⟩
theorem mw_238 : (.instanceMethod ⟨"BookingRows$Bookings", "isFull", "()Z"⟩ : Cond) ∈ lw_g := List.mem_filter.mpr ⟨List.mem_of_getElem? (i := 238) (by decide +kernel), rfl⟩
theorem mw_239 : (.selects "BookingRows$Bookings" ⟨"BookingRows$Bookings", "isFull", "()Z"⟩ ⟨"BookingRows$Bookings", "isFull", "()Z"⟩ : Cond) ∈ lw_g := List.mem_filter.mpr ⟨List.mem_of_getElem? (i := 239) (by decide +kernel), rfl⟩
set_option maxRecDepth 20000 in
theorem mw_240 : (.code ⟨"BookingRows$Bookings", "isFull", "()Z"⟩ prog_2_method_4_code 1 (some .boolean) : Cond) ∈ lw_g := List.mem_filter.mpr ⟨List.mem_of_getElem? (i := 240) rfl, rfl⟩
theorem mw_241 : (.methodLink "BookingRows" 124 ⟨"BookingRows", "refusalOf", "(IIIII)I"⟩ : Cond) ∈ lw_g := List.mem_filter.mpr ⟨List.mem_of_getElem? (i := 241) (by decide +kernel), rfl⟩
theorem mw_243 : (.instanceMethod ⟨"BookingRows", "refusalOf", "(IIIII)I"⟩ : Cond) ∈ lw_g := List.mem_filter.mpr ⟨List.mem_of_getElem? (i := 243) (by decide +kernel), rfl⟩
set_option maxRecDepth 20000 in
theorem mw_244 : (.code ⟨"BookingRows", "refusalOf", "(IIIII)I"⟩ prog_1_method_23_code 7 (some .int) : Cond) ∈ lw_g := List.mem_filter.mpr ⟨List.mem_of_getElem? (i := 244) rfl, rfl⟩
theorem mw_245 : (.methodLink "BookingRows" 184 ⟨"BookingRows", "isTime", "(I)Z"⟩ : Cond) ∈ lw_g := List.mem_filter.mpr ⟨List.mem_of_getElem? (i := 245) (by decide +kernel), rfl⟩
theorem mw_246 : (.static ⟨"BookingRows", "isTime", "(I)Z"⟩ : Cond) ∈ lw_g := List.mem_filter.mpr ⟨List.mem_of_getElem? (i := 246) (by decide +kernel), rfl⟩
set_option maxRecDepth 20000 in
theorem mw_247 : (.code ⟨"BookingRows", "isTime", "(I)Z"⟩ prog_1_method_21_code 1 (some .boolean) : Cond) ∈ lw_g := List.mem_filter.mpr ⟨List.mem_of_getElem? (i := 247) rfl, rfl⟩
theorem mw_248 : (.constant "BookingRows" 145 1000000 : Cond) ∈ lw_g := List.mem_filter.mpr ⟨List.mem_of_getElem? (i := 248) (by decide +kernel), rfl⟩
theorem mw_249 : (.methodLink "BookingRows" 187 ⟨"BookingRows$Things", "allowsLength", "(II)Z"⟩ : Cond) ∈ lw_g := List.mem_filter.mpr ⟨List.mem_of_getElem? (i := 249) (by decide +kernel), rfl⟩
theorem mw_250 : (.instanceMethod ⟨"BookingRows$Things", "allowsLength", "(II)Z"⟩ : Cond) ∈ lw_g := List.mem_filter.mpr ⟨List.mem_of_getElem? (i := 250) (by decide +kernel), rfl⟩
theorem mw_251 : (.selects "BookingRows$Things" ⟨"BookingRows$Things", "allowsLength", "(II)Z"⟩ ⟨"BookingRows$Things", "allowsLength", "(II)Z"⟩ : Cond) ∈ lw_g := List.mem_filter.mpr ⟨List.mem_of_getElem? (i := 251) (by decide +kernel), rfl⟩
set_option maxRecDepth 20000 in
theorem mw_252 : (.code ⟨"BookingRows$Things", "allowsLength", "(II)Z"⟩ prog_5_method_6_code 3 (some .boolean) : Cond) ∈ lw_g := List.mem_filter.mpr ⟨List.mem_of_getElem? (i := 252) rfl, rfl⟩
theorem mw_253 : (.methodLink "BookingRows" 190 ⟨"BookingRows$Things", "aheadOf", "(I)I"⟩ : Cond) ∈ lw_g := List.mem_filter.mpr ⟨List.mem_of_getElem? (i := 253) (by decide +kernel), rfl⟩
theorem mw_254 : (.instanceMethod ⟨"BookingRows$Things", "aheadOf", "(I)I"⟩ : Cond) ∈ lw_g := List.mem_filter.mpr ⟨List.mem_of_getElem? (i := 254) (by decide +kernel), rfl⟩
theorem mw_255 : (.selects "BookingRows$Things" ⟨"BookingRows$Things", "aheadOf", "(I)I"⟩ ⟨"BookingRows$Things", "aheadOf", "(I)I"⟩ : Cond) ∈ lw_g := List.mem_filter.mpr ⟨List.mem_of_getElem? (i := 255) (by decide +kernel), rfl⟩
set_option maxRecDepth 20000 in
theorem mw_256 : (.code ⟨"BookingRows$Things", "aheadOf", "(I)I"⟩ prog_5_method_7_code 2 (some .int) : Cond) ∈ lw_g := List.mem_filter.mpr ⟨List.mem_of_getElem? (i := 256) rfl, rfl⟩
theorem mw_257 : (.methodLink "BookingRows" 135 ⟨"BookingRows$Things", "placeOf", "(I)I"⟩ : Cond) ∈ lw_g := List.mem_filter.mpr ⟨List.mem_of_getElem? (i := 257) (by decide +kernel), rfl⟩
theorem mw_258 : (.instanceMethod ⟨"BookingRows$Things", "placeOf", "(I)I"⟩ : Cond) ∈ lw_g := List.mem_filter.mpr ⟨List.mem_of_getElem? (i := 258) (by decide +kernel), rfl⟩
theorem mw_259 : (.selects "BookingRows$Things" ⟨"BookingRows$Things", "placeOf", "(I)I"⟩ ⟨"BookingRows$Things", "placeOf", "(I)I"⟩ : Cond) ∈ lw_g := List.mem_filter.mpr ⟨List.mem_of_getElem? (i := 259) (by decide +kernel), rfl⟩
set_option maxRecDepth 20000 in
theorem mw_260 : (.code ⟨"BookingRows$Things", "placeOf", "(I)I"⟩ prog_5_method_5_code 2 (some .int) : Cond) ∈ lw_g := List.mem_filter.mpr ⟨List.mem_of_getElem? (i := 260) rfl, rfl⟩
theorem mw_261 : (.methodLink "BookingRows" 193 ⟨"BookingRows$Calendar", "isOpen", "(III)Z"⟩ : Cond) ∈ lw_g := List.mem_filter.mpr ⟨List.mem_of_getElem? (i := 261) (by decide +kernel), rfl⟩
theorem mw_262 : (.instanceMethod ⟨"BookingRows$Calendar", "isOpen", "(III)Z"⟩ : Cond) ∈ lw_g := List.mem_filter.mpr ⟨List.mem_of_getElem? (i := 262) (by decide +kernel), rfl⟩
theorem mw_263 : (.selects "BookingRows$Calendar" ⟨"BookingRows$Calendar", "isOpen", "(III)Z"⟩ ⟨"BookingRows$Calendar", "isOpen", "(III)Z"⟩ : Cond) ∈ lw_g := List.mem_filter.mpr ⟨List.mem_of_getElem? (i := 263) (by decide +kernel), rfl⟩
set_option maxRecDepth 20000 in
theorem mw_264 : (.code ⟨"BookingRows$Calendar", "isOpen", "(III)Z"⟩ prog_3_method_6_code 7 (some .boolean) : Cond) ∈ lw_g := List.mem_filter.mpr ⟨List.mem_of_getElem? (i := 264) rfl, rfl⟩
theorem mw_265 : (.methodLink "BookingRows" 175 ⟨"BookingRows$Penalties", "isBarred", "(II)Z"⟩ : Cond) ∈ lw_g := List.mem_filter.mpr ⟨List.mem_of_getElem? (i := 265) (by decide +kernel), rfl⟩
theorem mw_266 : (.instanceMethod ⟨"BookingRows$Penalties", "isBarred", "(II)Z"⟩ : Cond) ∈ lw_g := List.mem_filter.mpr ⟨List.mem_of_getElem? (i := 266) (by decide +kernel), rfl⟩
theorem mw_267 : (.selects "BookingRows$Penalties" ⟨"BookingRows$Penalties", "isBarred", "(II)Z"⟩ ⟨"BookingRows$Penalties", "isBarred", "(II)Z"⟩ : Cond) ∈ lw_g := List.mem_filter.mpr ⟨List.mem_of_getElem? (i := 267) (by decide +kernel), rfl⟩
set_option maxRecDepth 20000 in
theorem mw_268 : (.code ⟨"BookingRows$Penalties", "isBarred", "(II)Z"⟩ prog_4_method_3_code 3 (some .boolean) : Cond) ∈ lw_g := List.mem_filter.mpr ⟨List.mem_of_getElem? (i := 268) rfl, rfl⟩
theorem mw_269 : (.methodLink "BookingRows" 196 ⟨"BookingRows$Bookings", "livingOf", "(I)I"⟩ : Cond) ∈ lw_g := List.mem_filter.mpr ⟨List.mem_of_getElem? (i := 269) (by decide +kernel), rfl⟩
theorem mw_270 : (.instanceMethod ⟨"BookingRows$Bookings", "livingOf", "(I)I"⟩ : Cond) ∈ lw_g := List.mem_filter.mpr ⟨List.mem_of_getElem? (i := 270) (by decide +kernel), rfl⟩
theorem mw_271 : (.selects "BookingRows$Bookings" ⟨"BookingRows$Bookings", "livingOf", "(I)I"⟩ ⟨"BookingRows$Bookings", "livingOf", "(I)I"⟩ : Cond) ∈ lw_g := List.mem_filter.mpr ⟨List.mem_of_getElem? (i := 271) (by decide +kernel), rfl⟩
set_option maxRecDepth 20000 in
theorem mw_272 : (.code ⟨"BookingRows$Bookings", "livingOf", "(I)I"⟩ prog_2_method_20_code 4 (some .int) : Cond) ∈ lw_g := List.mem_filter.mpr ⟨List.mem_of_getElem? (i := 272) rfl, rfl⟩
theorem mw_273 : (.methodLink "BookingRows$Bookings" 44 ⟨"BookingRows$Bookings", "lives", "(I)Z"⟩ : Cond) ∈ lw_g := List.mem_filter.mpr ⟨List.mem_of_getElem? (i := 273) (by decide +kernel), rfl⟩
theorem mw_274 : (.instanceMethod ⟨"BookingRows$Bookings", "lives", "(I)Z"⟩ : Cond) ∈ lw_g := List.mem_filter.mpr ⟨List.mem_of_getElem? (i := 274) (by decide +kernel), rfl⟩
theorem mw_275 : (.selects "BookingRows$Bookings" ⟨"BookingRows$Bookings", "lives", "(I)Z"⟩ ⟨"BookingRows$Bookings", "lives", "(I)Z"⟩ : Cond) ∈ lw_g := List.mem_filter.mpr ⟨List.mem_of_getElem? (i := 275) (by decide +kernel), rfl⟩
set_option maxRecDepth 20000 in
theorem mw_276 : (.code ⟨"BookingRows$Bookings", "lives", "(I)Z"⟩ prog_2_method_15_code 2 (some .boolean) : Cond) ∈ lw_g := List.mem_filter.mpr ⟨List.mem_of_getElem? (i := 276) rfl, rfl⟩
theorem mw_277 : (.methodLink "BookingRows" 138 ⟨"BookingRows$Bookings", "isTaken", "(IIII)Z"⟩ : Cond) ∈ lw_g := List.mem_filter.mpr ⟨List.mem_of_getElem? (i := 277) (by decide +kernel), rfl⟩
theorem mw_278 : (.instanceMethod ⟨"BookingRows$Bookings", "isTaken", "(IIII)Z"⟩ : Cond) ∈ lw_g := List.mem_filter.mpr ⟨List.mem_of_getElem? (i := 278) (by decide +kernel), rfl⟩
theorem mw_279 : (.selects "BookingRows$Bookings" ⟨"BookingRows$Bookings", "isTaken", "(IIII)Z"⟩ ⟨"BookingRows$Bookings", "isTaken", "(IIII)Z"⟩ : Cond) ∈ lw_g := List.mem_filter.mpr ⟨List.mem_of_getElem? (i := 279) (by decide +kernel), rfl⟩
set_option maxRecDepth 20000 in
theorem mw_280 : (.code ⟨"BookingRows$Bookings", "isTaken", "(IIII)Z"⟩ prog_2_method_19_code 6 (some .boolean) : Cond) ∈ lw_g := List.mem_filter.mpr ⟨List.mem_of_getElem? (i := 280) rfl, rfl⟩
theorem mw_281 : (.methodLink "BookingRows$Bookings" 47 ⟨"BookingRows$Bookings", "meets", "(III)Z"⟩ : Cond) ∈ lw_g := List.mem_filter.mpr ⟨List.mem_of_getElem? (i := 281) (by decide +kernel), rfl⟩
theorem mw_282 : (.instanceMethod ⟨"BookingRows$Bookings", "meets", "(III)Z"⟩ : Cond) ∈ lw_g := List.mem_filter.mpr ⟨List.mem_of_getElem? (i := 282) (by decide +kernel), rfl⟩
theorem mw_283 : (.selects "BookingRows$Bookings" ⟨"BookingRows$Bookings", "meets", "(III)Z"⟩ ⟨"BookingRows$Bookings", "meets", "(III)Z"⟩ : Cond) ∈ lw_g := List.mem_filter.mpr ⟨List.mem_of_getElem? (i := 283) (by decide +kernel), rfl⟩
set_option maxRecDepth 20000 in
theorem mw_284 : (.code ⟨"BookingRows$Bookings", "meets", "(III)Z"⟩ prog_2_method_18_code 4 (some .boolean) : Cond) ∈ lw_g := List.mem_filter.mpr ⟨List.mem_of_getElem? (i := 284) rfl, rfl⟩
theorem mw_285 : (.methodLink "BookingRows" 142 ⟨"BookingRows$Bookings", "add", "(IIIII)I"⟩ : Cond) ∈ lw_g := List.mem_filter.mpr ⟨List.mem_of_getElem? (i := 285) (by decide +kernel), rfl⟩
theorem mw_286 : (.instanceMethod ⟨"BookingRows$Bookings", "add", "(IIIII)I"⟩ : Cond) ∈ lw_g := List.mem_filter.mpr ⟨List.mem_of_getElem? (i := 286) (by decide +kernel), rfl⟩
theorem mw_287 : (.selects "BookingRows$Bookings" ⟨"BookingRows$Bookings", "add", "(IIIII)I"⟩ ⟨"BookingRows$Bookings", "add", "(IIIII)I"⟩ : Cond) ∈ lw_g := List.mem_filter.mpr ⟨List.mem_of_getElem? (i := 287) (by decide +kernel), rfl⟩
set_option maxRecDepth 20000 in
theorem mw_288 : (.code ⟨"BookingRows$Bookings", "add", "(IIIII)I"⟩ prog_2_method_5_code 6 (some .int) : Cond) ∈ lw_g := List.mem_filter.mpr ⟨List.mem_of_getElem? (i := 288) rfl, rfl⟩
theorem mw_293 : (.methodLink "BookingRows" 87 ⟨"BookingRows$Bookings", "has", "(I)Z"⟩ : Cond) ∈ lw_g := List.mem_filter.mpr ⟨List.mem_of_getElem? (i := 293) (by decide +kernel), rfl⟩
theorem mw_294 : (.instanceMethod ⟨"BookingRows$Bookings", "has", "(I)Z"⟩ : Cond) ∈ lw_g := List.mem_filter.mpr ⟨List.mem_of_getElem? (i := 294) (by decide +kernel), rfl⟩
theorem mw_295 : (.selects "BookingRows$Bookings" ⟨"BookingRows$Bookings", "has", "(I)Z"⟩ ⟨"BookingRows$Bookings", "has", "(I)Z"⟩ : Cond) ∈ lw_g := List.mem_filter.mpr ⟨List.mem_of_getElem? (i := 295) (by decide +kernel), rfl⟩
set_option maxRecDepth 20000 in
theorem mw_296 : (.code ⟨"BookingRows$Bookings", "has", "(I)Z"⟩ prog_2_method_3_code 2 (some .boolean) : Cond) ∈ lw_g := List.mem_filter.mpr ⟨List.mem_of_getElem? (i := 296) rfl, rfl⟩
theorem mw_297 : (.methodLink "BookingRows" 88 ⟨"BookingRows$Bookings", "lives", "(I)Z"⟩ : Cond) ∈ lw_g := List.mem_filter.mpr ⟨List.mem_of_getElem? (i := 297) (by decide +kernel), rfl⟩
theorem mw_298 : (.methodLink "BookingRows" 91 ⟨"BookingRows$Bookings", "personOf", "(I)I"⟩ : Cond) ∈ lw_g := List.mem_filter.mpr ⟨List.mem_of_getElem? (i := 298) (by decide +kernel), rfl⟩
theorem mw_299 : (.instanceMethod ⟨"BookingRows$Bookings", "personOf", "(I)I"⟩ : Cond) ∈ lw_g := List.mem_filter.mpr ⟨List.mem_of_getElem? (i := 299) (by decide +kernel), rfl⟩
theorem mw_300 : (.selects "BookingRows$Bookings" ⟨"BookingRows$Bookings", "personOf", "(I)I"⟩ ⟨"BookingRows$Bookings", "personOf", "(I)I"⟩ : Cond) ∈ lw_g := List.mem_filter.mpr ⟨List.mem_of_getElem? (i := 300) (by decide +kernel), rfl⟩
set_option maxRecDepth 20000 in
theorem mw_301 : (.code ⟨"BookingRows$Bookings", "personOf", "(I)I"⟩ prog_2_method_6_code 2 (some .int) : Cond) ∈ lw_g := List.mem_filter.mpr ⟨List.mem_of_getElem? (i := 301) rfl, rfl⟩
theorem mw_302 : (.methodLink "BookingRows" 94 ⟨"BookingRows$Bookings", "thingOf", "(I)I"⟩ : Cond) ∈ lw_g := List.mem_filter.mpr ⟨List.mem_of_getElem? (i := 302) (by decide +kernel), rfl⟩
theorem mw_303 : (.instanceMethod ⟨"BookingRows$Bookings", "thingOf", "(I)I"⟩ : Cond) ∈ lw_g := List.mem_filter.mpr ⟨List.mem_of_getElem? (i := 303) (by decide +kernel), rfl⟩
theorem mw_304 : (.selects "BookingRows$Bookings" ⟨"BookingRows$Bookings", "thingOf", "(I)I"⟩ ⟨"BookingRows$Bookings", "thingOf", "(I)I"⟩ : Cond) ∈ lw_g := List.mem_filter.mpr ⟨List.mem_of_getElem? (i := 304) (by decide +kernel), rfl⟩
set_option maxRecDepth 20000 in
theorem mw_305 : (.code ⟨"BookingRows$Bookings", "thingOf", "(I)I"⟩ prog_2_method_7_code 2 (some .int) : Cond) ∈ lw_g := List.mem_filter.mpr ⟨List.mem_of_getElem? (i := 305) rfl, rfl⟩
theorem mw_306 : (.methodLink "BookingRows" 97 ⟨"BookingRows$Bookings", "fromOf", "(I)I"⟩ : Cond) ∈ lw_g := List.mem_filter.mpr ⟨List.mem_of_getElem? (i := 306) (by decide +kernel), rfl⟩
theorem mw_307 : (.instanceMethod ⟨"BookingRows$Bookings", "fromOf", "(I)I"⟩ : Cond) ∈ lw_g := List.mem_filter.mpr ⟨List.mem_of_getElem? (i := 307) (by decide +kernel), rfl⟩
theorem mw_308 : (.selects "BookingRows$Bookings" ⟨"BookingRows$Bookings", "fromOf", "(I)I"⟩ ⟨"BookingRows$Bookings", "fromOf", "(I)I"⟩ : Cond) ∈ lw_g := List.mem_filter.mpr ⟨List.mem_of_getElem? (i := 308) (by decide +kernel), rfl⟩
set_option maxRecDepth 20000 in
theorem mw_309 : (.code ⟨"BookingRows$Bookings", "fromOf", "(I)I"⟩ prog_2_method_8_code 2 (some .int) : Cond) ∈ lw_g := List.mem_filter.mpr ⟨List.mem_of_getElem? (i := 309) rfl, rfl⟩
theorem mw_310 : (.methodLink "BookingRows" 100 ⟨"BookingRows$Bookings", "toOf", "(I)I"⟩ : Cond) ∈ lw_g := List.mem_filter.mpr ⟨List.mem_of_getElem? (i := 310) (by decide +kernel), rfl⟩
theorem mw_311 : (.instanceMethod ⟨"BookingRows$Bookings", "toOf", "(I)I"⟩ : Cond) ∈ lw_g := List.mem_filter.mpr ⟨List.mem_of_getElem? (i := 311) (by decide +kernel), rfl⟩
theorem mw_312 : (.selects "BookingRows$Bookings" ⟨"BookingRows$Bookings", "toOf", "(I)I"⟩ ⟨"BookingRows$Bookings", "toOf", "(I)I"⟩ : Cond) ∈ lw_g := List.mem_filter.mpr ⟨List.mem_of_getElem? (i := 312) (by decide +kernel), rfl⟩
set_option maxRecDepth 20000 in
theorem mw_313 : (.code ⟨"BookingRows$Bookings", "toOf", "(I)I"⟩ prog_2_method_9_code 2 (some .int) : Cond) ∈ lw_g := List.mem_filter.mpr ⟨List.mem_of_getElem? (i := 313) rfl, rfl⟩
theorem mw_318 : (.methodLink "BookingRows" 103 ⟨"BookingRows$Bookings", "isBookedBy", "(II)Z"⟩ : Cond) ∈ lw_g := List.mem_filter.mpr ⟨List.mem_of_getElem? (i := 318) (by decide +kernel), rfl⟩
theorem mw_319 : (.instanceMethod ⟨"BookingRows$Bookings", "isBookedBy", "(II)Z"⟩ : Cond) ∈ lw_g := List.mem_filter.mpr ⟨List.mem_of_getElem? (i := 319) (by decide +kernel), rfl⟩
theorem mw_320 : (.selects "BookingRows$Bookings" ⟨"BookingRows$Bookings", "isBookedBy", "(II)Z"⟩ ⟨"BookingRows$Bookings", "isBookedBy", "(II)Z"⟩ : Cond) ∈ lw_g := List.mem_filter.mpr ⟨List.mem_of_getElem? (i := 320) (by decide +kernel), rfl⟩
set_option maxRecDepth 20000 in
theorem mw_321 : (.code ⟨"BookingRows$Bookings", "isBookedBy", "(II)Z"⟩ prog_2_method_14_code 3 (some .boolean) : Cond) ∈ lw_g := List.mem_filter.mpr ⟨List.mem_of_getElem? (i := 321) rfl, rfl⟩
theorem mw_322 : (.methodLink "BookingRows$Bookings" 40 ⟨"BookingRows$Bookings", "has", "(I)Z"⟩ : Cond) ∈ lw_g := List.mem_filter.mpr ⟨List.mem_of_getElem? (i := 322) (by decide +kernel), rfl⟩
theorem mw_323 : (.methodLink "BookingRows" 107 ⟨"BookingRows", "release", "(II)I"⟩ : Cond) ∈ lw_g := List.mem_filter.mpr ⟨List.mem_of_getElem? (i := 323) (by decide +kernel), rfl⟩
theorem mw_325 : (.instanceMethod ⟨"BookingRows", "release", "(II)I"⟩ : Cond) ∈ lw_g := List.mem_filter.mpr ⟨List.mem_of_getElem? (i := 325) (by decide +kernel), rfl⟩
set_option maxRecDepth 20000 in
theorem mw_326 : (.code ⟨"BookingRows", "release", "(II)I"⟩ prog_1_method_26_code 5 (some .int) : Cond) ∈ lw_g := List.mem_filter.mpr ⟨List.mem_of_getElem? (i := 326) rfl, rfl⟩
theorem mw_327 : (.methodLink "BookingRows" 114 ⟨"BookingRows$Bookings", "turn", "(II)V"⟩ : Cond) ∈ lw_g := List.mem_filter.mpr ⟨List.mem_of_getElem? (i := 327) (by decide +kernel), rfl⟩
theorem mw_328 : (.instanceMethod ⟨"BookingRows$Bookings", "turn", "(II)V"⟩ : Cond) ∈ lw_g := List.mem_filter.mpr ⟨List.mem_of_getElem? (i := 328) (by decide +kernel), rfl⟩
theorem mw_329 : (.selects "BookingRows$Bookings" ⟨"BookingRows$Bookings", "turn", "(II)V"⟩ ⟨"BookingRows$Bookings", "turn", "(II)V"⟩ : Cond) ∈ lw_g := List.mem_filter.mpr ⟨List.mem_of_getElem? (i := 329) (by decide +kernel), rfl⟩
set_option maxRecDepth 20000 in
theorem mw_330 : (.code ⟨"BookingRows$Bookings", "turn", "(II)V"⟩ prog_2_method_25_code 4 none : Cond) ∈ lw_g := List.mem_filter.mpr ⟨List.mem_of_getElem? (i := 330) rfl, rfl⟩
theorem mw_331 : (.methodLink "BookingRows$Bookings" 55 ⟨"BookingRows$Bookings", "turnOne", "(II)V"⟩ : Cond) ∈ lw_g := List.mem_filter.mpr ⟨List.mem_of_getElem? (i := 331) (by decide +kernel), rfl⟩
theorem mw_333 : (.instanceMethod ⟨"BookingRows$Bookings", "turnOne", "(II)V"⟩ : Cond) ∈ lw_g := List.mem_filter.mpr ⟨List.mem_of_getElem? (i := 333) (by decide +kernel), rfl⟩
set_option maxRecDepth 20000 in
theorem mw_334 : (.code ⟨"BookingRows$Bookings", "turnOne", "(II)V"⟩ prog_2_method_26_code 3 none : Cond) ∈ lw_g := List.mem_filter.mpr ⟨List.mem_of_getElem? (i := 334) rfl, rfl⟩
theorem mw_335 : (.methodLink "BookingRows" 202 ⟨"BookingRows$Bookings", "turnedSize", "()I"⟩ : Cond) ∈ lw_g := List.mem_filter.mpr ⟨List.mem_of_getElem? (i := 335) (by decide +kernel), rfl⟩
theorem mw_336 : (.instanceMethod ⟨"BookingRows$Bookings", "turnedSize", "()I"⟩ : Cond) ∈ lw_g := List.mem_filter.mpr ⟨List.mem_of_getElem? (i := 336) (by decide +kernel), rfl⟩
theorem mw_337 : (.selects "BookingRows$Bookings" ⟨"BookingRows$Bookings", "turnedSize", "()I"⟩ ⟨"BookingRows$Bookings", "turnedSize", "()I"⟩ : Cond) ∈ lw_g := List.mem_filter.mpr ⟨List.mem_of_getElem? (i := 337) (by decide +kernel), rfl⟩
set_option maxRecDepth 20000 in
theorem mw_338 : (.code ⟨"BookingRows$Bookings", "turnedSize", "()I"⟩ prog_2_method_27_code 1 (some .int) : Cond) ∈ lw_g := List.mem_filter.mpr ⟨List.mem_of_getElem? (i := 338) rfl, rfl⟩
theorem mw_339 : (.methodLink "BookingRows" 205 ⟨"BookingRows$Bookings", "turnedThing", "(I)I"⟩ : Cond) ∈ lw_g := List.mem_filter.mpr ⟨List.mem_of_getElem? (i := 339) (by decide +kernel), rfl⟩
theorem mw_340 : (.instanceMethod ⟨"BookingRows$Bookings", "turnedThing", "(I)I"⟩ : Cond) ∈ lw_g := List.mem_filter.mpr ⟨List.mem_of_getElem? (i := 340) (by decide +kernel), rfl⟩
theorem mw_341 : (.selects "BookingRows$Bookings" ⟨"BookingRows$Bookings", "turnedThing", "(I)I"⟩ ⟨"BookingRows$Bookings", "turnedThing", "(I)I"⟩ : Cond) ∈ lw_g := List.mem_filter.mpr ⟨List.mem_of_getElem? (i := 341) (by decide +kernel), rfl⟩
set_option maxRecDepth 20000 in
theorem mw_342 : (.code ⟨"BookingRows$Bookings", "turnedThing", "(I)I"⟩ prog_2_method_28_code 2 (some .int) : Cond) ∈ lw_g := List.mem_filter.mpr ⟨List.mem_of_getElem? (i := 342) rfl, rfl⟩
theorem mw_343 : (.methodLink "BookingRows" 208 ⟨"BookingRows", "serveWishes", "(I)I"⟩ : Cond) ∈ lw_g := List.mem_filter.mpr ⟨List.mem_of_getElem? (i := 343) (by decide +kernel), rfl⟩
theorem mw_345 : (.instanceMethod ⟨"BookingRows", "serveWishes", "(I)I"⟩ : Cond) ∈ lw_g := List.mem_filter.mpr ⟨List.mem_of_getElem? (i := 345) (by decide +kernel), rfl⟩
set_option maxRecDepth 20000 in
theorem mw_346 : (.code ⟨"BookingRows", "serveWishes", "(I)I"⟩ prog_1_method_27_code 5 (some .int) : Cond) ∈ lw_g := List.mem_filter.mpr ⟨List.mem_of_getElem? (i := 346) rfl, rfl⟩
theorem mw_347 : (.methodLink "BookingRows" 211 ⟨"BookingRows$Wishes", "size", "()I"⟩ : Cond) ∈ lw_g := List.mem_filter.mpr ⟨List.mem_of_getElem? (i := 347) (by decide +kernel), rfl⟩
theorem mw_348 : (.instanceMethod ⟨"BookingRows$Wishes", "size", "()I"⟩ : Cond) ∈ lw_g := List.mem_filter.mpr ⟨List.mem_of_getElem? (i := 348) (by decide +kernel), rfl⟩
theorem mw_349 : (.selects "BookingRows$Wishes" ⟨"BookingRows$Wishes", "size", "()I"⟩ ⟨"BookingRows$Wishes", "size", "()I"⟩ : Cond) ∈ lw_g := List.mem_filter.mpr ⟨List.mem_of_getElem? (i := 349) (by decide +kernel), rfl⟩
set_option maxRecDepth 20000 in
theorem mw_350 : (.code ⟨"BookingRows$Wishes", "size", "()I"⟩ prog_6_method_2_code 1 (some .int) : Cond) ∈ lw_g := List.mem_filter.mpr ⟨List.mem_of_getElem? (i := 350) rfl, rfl⟩
theorem mw_351 : (.methodLink "BookingRows" 212 ⟨"BookingRows$Wishes", "thingOf", "(I)I"⟩ : Cond) ∈ lw_g := List.mem_filter.mpr ⟨List.mem_of_getElem? (i := 351) (by decide +kernel), rfl⟩
theorem mw_352 : (.instanceMethod ⟨"BookingRows$Wishes", "thingOf", "(I)I"⟩ : Cond) ∈ lw_g := List.mem_filter.mpr ⟨List.mem_of_getElem? (i := 352) (by decide +kernel), rfl⟩
theorem mw_353 : (.selects "BookingRows$Wishes" ⟨"BookingRows$Wishes", "thingOf", "(I)I"⟩ ⟨"BookingRows$Wishes", "thingOf", "(I)I"⟩ : Cond) ∈ lw_g := List.mem_filter.mpr ⟨List.mem_of_getElem? (i := 353) (by decide +kernel), rfl⟩
set_option maxRecDepth 20000 in
theorem mw_354 : (.code ⟨"BookingRows$Wishes", "thingOf", "(I)I"⟩ prog_6_method_5_code 2 (some .int) : Cond) ∈ lw_g := List.mem_filter.mpr ⟨List.mem_of_getElem? (i := 354) rfl, rfl⟩
theorem mw_355 : (.methodLink "BookingRows" 213 ⟨"BookingRows$Wishes", "personOf", "(I)I"⟩ : Cond) ∈ lw_g := List.mem_filter.mpr ⟨List.mem_of_getElem? (i := 355) (by decide +kernel), rfl⟩
theorem mw_356 : (.instanceMethod ⟨"BookingRows$Wishes", "personOf", "(I)I"⟩ : Cond) ∈ lw_g := List.mem_filter.mpr ⟨List.mem_of_getElem? (i := 356) (by decide +kernel), rfl⟩
theorem mw_357 : (.selects "BookingRows$Wishes" ⟨"BookingRows$Wishes", "personOf", "(I)I"⟩ ⟨"BookingRows$Wishes", "personOf", "(I)I"⟩ : Cond) ∈ lw_g := List.mem_filter.mpr ⟨List.mem_of_getElem? (i := 357) (by decide +kernel), rfl⟩
set_option maxRecDepth 20000 in
theorem mw_358 : (.code ⟨"BookingRows$Wishes", "personOf", "(I)I"⟩ prog_6_method_4_code 2 (some .int) : Cond) ∈ lw_g := List.mem_filter.mpr ⟨List.mem_of_getElem? (i := 358) rfl, rfl⟩
theorem mw_359 : (.methodLink "BookingRows" 214 ⟨"BookingRows$Wishes", "fromOf", "(I)I"⟩ : Cond) ∈ lw_g := List.mem_filter.mpr ⟨List.mem_of_getElem? (i := 359) (by decide +kernel), rfl⟩
theorem mw_360 : (.instanceMethod ⟨"BookingRows$Wishes", "fromOf", "(I)I"⟩ : Cond) ∈ lw_g := List.mem_filter.mpr ⟨List.mem_of_getElem? (i := 360) (by decide +kernel), rfl⟩
theorem mw_361 : (.selects "BookingRows$Wishes" ⟨"BookingRows$Wishes", "fromOf", "(I)I"⟩ ⟨"BookingRows$Wishes", "fromOf", "(I)I"⟩ : Cond) ∈ lw_g := List.mem_filter.mpr ⟨List.mem_of_getElem? (i := 361) (by decide +kernel), rfl⟩
set_option maxRecDepth 20000 in
theorem mw_362 : (.code ⟨"BookingRows$Wishes", "fromOf", "(I)I"⟩ prog_6_method_6_code 2 (some .int) : Cond) ∈ lw_g := List.mem_filter.mpr ⟨List.mem_of_getElem? (i := 362) rfl, rfl⟩
theorem mw_363 : (.methodLink "BookingRows" 215 ⟨"BookingRows$Wishes", "toOf", "(I)I"⟩ : Cond) ∈ lw_g := List.mem_filter.mpr ⟨List.mem_of_getElem? (i := 363) (by decide +kernel), rfl⟩
theorem mw_364 : (.instanceMethod ⟨"BookingRows$Wishes", "toOf", "(I)I"⟩ : Cond) ∈ lw_g := List.mem_filter.mpr ⟨List.mem_of_getElem? (i := 364) (by decide +kernel), rfl⟩
theorem mw_365 : (.selects "BookingRows$Wishes" ⟨"BookingRows$Wishes", "toOf", "(I)I"⟩ ⟨"BookingRows$Wishes", "toOf", "(I)I"⟩ : Cond) ∈ lw_g := List.mem_filter.mpr ⟨List.mem_of_getElem? (i := 365) (by decide +kernel), rfl⟩
set_option maxRecDepth 20000 in
theorem mw_366 : (.code ⟨"BookingRows$Wishes", "toOf", "(I)I"⟩ prog_6_method_7_code 2 (some .int) : Cond) ∈ lw_g := List.mem_filter.mpr ⟨List.mem_of_getElem? (i := 366) rfl, rfl⟩
theorem mw_367 : (.methodLink "BookingRows" 216 ⟨"BookingRows$Wishes", "removeAt", "(I)V"⟩ : Cond) ∈ lw_g := List.mem_filter.mpr ⟨List.mem_of_getElem? (i := 367) (by decide +kernel), rfl⟩
theorem mw_368 : (.instanceMethod ⟨"BookingRows$Wishes", "removeAt", "(I)V"⟩ : Cond) ∈ lw_g := List.mem_filter.mpr ⟨List.mem_of_getElem? (i := 368) (by decide +kernel), rfl⟩
theorem mw_369 : (.selects "BookingRows$Wishes" ⟨"BookingRows$Wishes", "removeAt", "(I)V"⟩ ⟨"BookingRows$Wishes", "removeAt", "(I)V"⟩ : Cond) ∈ lw_g := List.mem_filter.mpr ⟨List.mem_of_getElem? (i := 369) (by decide +kernel), rfl⟩
set_option maxRecDepth 20000 in
theorem mw_370 : (.code ⟨"BookingRows$Wishes", "removeAt", "(I)V"⟩ prog_6_method_10_code 3 none : Cond) ∈ lw_g := List.mem_filter.mpr ⟨List.mem_of_getElem? (i := 370) rfl, rfl⟩
theorem mw_371 : (.methodLink "BookingRows$Wishes" 31 ⟨"BookingRows$Wishes", "move", "(II)V"⟩ : Cond) ∈ lw_g := List.mem_filter.mpr ⟨List.mem_of_getElem? (i := 371) (by decide +kernel), rfl⟩
theorem mw_373 : (.instanceMethod ⟨"BookingRows$Wishes", "move", "(II)V"⟩ : Cond) ∈ lw_g := List.mem_filter.mpr ⟨List.mem_of_getElem? (i := 373) (by decide +kernel), rfl⟩
set_option maxRecDepth 20000 in
theorem mw_374 : (.code ⟨"BookingRows$Wishes", "move", "(II)V"⟩ prog_6_method_11_code 3 none : Cond) ∈ lw_g := List.mem_filter.mpr ⟨List.mem_of_getElem? (i := 374) rfl, rfl⟩
theorem mw_379 : (.methodLink "BookingRows" 111 ⟨"BookingRows", "lastCheckIn", "(I)I"⟩ : Cond) ∈ lw_g := List.mem_filter.mpr ⟨List.mem_of_getElem? (i := 379) (by decide +kernel), rfl⟩
theorem mw_381 : (.instanceMethod ⟨"BookingRows", "lastCheckIn", "(I)I"⟩ : Cond) ∈ lw_g := List.mem_filter.mpr ⟨List.mem_of_getElem? (i := 381) (by decide +kernel), rfl⟩
set_option maxRecDepth 20000 in
theorem mw_382 : (.code ⟨"BookingRows", "lastCheckIn", "(I)I"⟩ prog_1_method_24_code 2 (some .int) : Cond) ∈ lw_g := List.mem_filter.mpr ⟨List.mem_of_getElem? (i := 382) rfl, rfl⟩
theorem mw_383 : (.methodLink "BookingRows" 199 ⟨"BookingRows$Things", "graceOf", "(I)I"⟩ : Cond) ∈ lw_g := List.mem_filter.mpr ⟨List.mem_of_getElem? (i := 383) (by decide +kernel), rfl⟩
theorem mw_384 : (.instanceMethod ⟨"BookingRows$Things", "graceOf", "(I)I"⟩ : Cond) ∈ lw_g := List.mem_filter.mpr ⟨List.mem_of_getElem? (i := 384) (by decide +kernel), rfl⟩
theorem mw_385 : (.selects "BookingRows$Things" ⟨"BookingRows$Things", "graceOf", "(I)I"⟩ ⟨"BookingRows$Things", "graceOf", "(I)I"⟩ : Cond) ∈ lw_g := List.mem_filter.mpr ⟨List.mem_of_getElem? (i := 385) (by decide +kernel), rfl⟩
set_option maxRecDepth 20000 in
theorem mw_386 : (.code ⟨"BookingRows$Things", "graceOf", "(I)I"⟩ prog_5_method_8_code 2 (some .int) : Cond) ∈ lw_g := List.mem_filter.mpr ⟨List.mem_of_getElem? (i := 386) rfl, rfl⟩
theorem mw_391 : (.methodLink "BookingRows" 118 ⟨"BookingRows$Bookings", "isEquipment", "(I)Z"⟩ : Cond) ∈ lw_g := List.mem_filter.mpr ⟨List.mem_of_getElem? (i := 391) (by decide +kernel), rfl⟩
theorem mw_392 : (.instanceMethod ⟨"BookingRows$Bookings", "isEquipment", "(I)Z"⟩ : Cond) ∈ lw_g := List.mem_filter.mpr ⟨List.mem_of_getElem? (i := 392) (by decide +kernel), rfl⟩
theorem mw_393 : (.selects "BookingRows$Bookings" ⟨"BookingRows$Bookings", "isEquipment", "(I)Z"⟩ ⟨"BookingRows$Bookings", "isEquipment", "(I)Z"⟩ : Cond) ∈ lw_g := List.mem_filter.mpr ⟨List.mem_of_getElem? (i := 393) (by decide +kernel), rfl⟩
set_option maxRecDepth 20000 in
theorem mw_394 : (.code ⟨"BookingRows$Bookings", "isEquipment", "(I)Z"⟩ prog_2_method_16_code 2 (some .boolean) : Cond) ∈ lw_g := List.mem_filter.mpr ⟨List.mem_of_getElem? (i := 394) rfl, rfl⟩
theorem mw_395 : (.methodLink "BookingRows" 121 ⟨"BookingRows$Bookings", "hasLivingEquipment", "(I)Z"⟩ : Cond) ∈ lw_g := List.mem_filter.mpr ⟨List.mem_of_getElem? (i := 395) (by decide +kernel), rfl⟩
theorem mw_396 : (.instanceMethod ⟨"BookingRows$Bookings", "hasLivingEquipment", "(I)Z"⟩ : Cond) ∈ lw_g := List.mem_filter.mpr ⟨List.mem_of_getElem? (i := 396) (by decide +kernel), rfl⟩
theorem mw_397 : (.selects "BookingRows$Bookings" ⟨"BookingRows$Bookings", "hasLivingEquipment", "(I)Z"⟩ ⟨"BookingRows$Bookings", "hasLivingEquipment", "(I)Z"⟩ : Cond) ∈ lw_g := List.mem_filter.mpr ⟨List.mem_of_getElem? (i := 397) (by decide +kernel), rfl⟩
set_option maxRecDepth 20000 in
theorem mw_398 : (.code ⟨"BookingRows$Bookings", "hasLivingEquipment", "(I)Z"⟩ prog_2_method_17_code 3 (some .boolean) : Cond) ∈ lw_g := List.mem_filter.mpr ⟨List.mem_of_getElem? (i := 398) rfl, rfl⟩
theorem mw_399 : (.methodLink "BookingRows" 127 ⟨"BookingRows$Bookings", "setTimes", "(III)V"⟩ : Cond) ∈ lw_g := List.mem_filter.mpr ⟨List.mem_of_getElem? (i := 399) (by decide +kernel), rfl⟩
theorem mw_400 : (.instanceMethod ⟨"BookingRows$Bookings", "setTimes", "(III)V"⟩ : Cond) ∈ lw_g := List.mem_filter.mpr ⟨List.mem_of_getElem? (i := 400) (by decide +kernel), rfl⟩
theorem mw_401 : (.selects "BookingRows$Bookings" ⟨"BookingRows$Bookings", "setTimes", "(III)V"⟩ ⟨"BookingRows$Bookings", "setTimes", "(III)V"⟩ : Cond) ∈ lw_g := List.mem_filter.mpr ⟨List.mem_of_getElem? (i := 401) (by decide +kernel), rfl⟩
set_option maxRecDepth 20000 in
theorem mw_402 : (.code ⟨"BookingRows$Bookings", "setTimes", "(III)V"⟩ prog_2_method_12_code 4 none : Cond) ∈ lw_g := List.mem_filter.mpr ⟨List.mem_of_getElem? (i := 402) rfl, rfl⟩
theorem mw_407 : (.methodLink "BookingRows" 131 ⟨"BookingRows$Bookings", "isBooked", "(I)Z"⟩ : Cond) ∈ lw_g := List.mem_filter.mpr ⟨List.mem_of_getElem? (i := 407) (by decide +kernel), rfl⟩
theorem mw_408 : (.instanceMethod ⟨"BookingRows$Bookings", "isBooked", "(I)Z"⟩ : Cond) ∈ lw_g := List.mem_filter.mpr ⟨List.mem_of_getElem? (i := 408) (by decide +kernel), rfl⟩
theorem mw_409 : (.selects "BookingRows$Bookings" ⟨"BookingRows$Bookings", "isBooked", "(I)Z"⟩ ⟨"BookingRows$Bookings", "isBooked", "(I)Z"⟩ : Cond) ∈ lw_g := List.mem_filter.mpr ⟨List.mem_of_getElem? (i := 409) (by decide +kernel), rfl⟩
set_option maxRecDepth 20000 in
theorem mw_410 : (.code ⟨"BookingRows$Bookings", "isBooked", "(I)Z"⟩ prog_2_method_13_code 2 (some .boolean) : Cond) ∈ lw_g := List.mem_filter.mpr ⟨List.mem_of_getElem? (i := 410) rfl, rfl⟩
theorem mw_415 : (.methodLink "BookingRows" 143 ⟨"BookingRows$Wishes", "isFull", "()Z"⟩ : Cond) ∈ lw_g := List.mem_filter.mpr ⟨List.mem_of_getElem? (i := 415) (by decide +kernel), rfl⟩
theorem mw_416 : (.instanceMethod ⟨"BookingRows$Wishes", "isFull", "()Z"⟩ : Cond) ∈ lw_g := List.mem_filter.mpr ⟨List.mem_of_getElem? (i := 416) (by decide +kernel), rfl⟩
theorem mw_417 : (.selects "BookingRows$Wishes" ⟨"BookingRows$Wishes", "isFull", "()Z"⟩ ⟨"BookingRows$Wishes", "isFull", "()Z"⟩ : Cond) ∈ lw_g := List.mem_filter.mpr ⟨List.mem_of_getElem? (i := 417) (by decide +kernel), rfl⟩
set_option maxRecDepth 20000 in
theorem mw_418 : (.code ⟨"BookingRows$Wishes", "isFull", "()Z"⟩ prog_6_method_3_code 1 (some .boolean) : Cond) ∈ lw_g := List.mem_filter.mpr ⟨List.mem_of_getElem? (i := 418) rfl, rfl⟩
theorem mw_419 : (.methodLink "BookingRows" 144 ⟨"BookingRows$Wishes", "add", "(IIIII)I"⟩ : Cond) ∈ lw_g := List.mem_filter.mpr ⟨List.mem_of_getElem? (i := 419) (by decide +kernel), rfl⟩
theorem mw_420 : (.instanceMethod ⟨"BookingRows$Wishes", "add", "(IIIII)I"⟩ : Cond) ∈ lw_g := List.mem_filter.mpr ⟨List.mem_of_getElem? (i := 420) (by decide +kernel), rfl⟩
theorem mw_421 : (.selects "BookingRows$Wishes" ⟨"BookingRows$Wishes", "add", "(IIIII)I"⟩ ⟨"BookingRows$Wishes", "add", "(IIIII)I"⟩ : Cond) ∈ lw_g := List.mem_filter.mpr ⟨List.mem_of_getElem? (i := 421) (by decide +kernel), rfl⟩
set_option maxRecDepth 20000 in
theorem mw_422 : (.code ⟨"BookingRows$Wishes", "add", "(IIIII)I"⟩ prog_6_method_9_code 7 (some .int) : Cond) ∈ lw_g := List.mem_filter.mpr ⟨List.mem_of_getElem? (i := 422) rfl, rfl⟩
theorem mw_427 : (.methodLink "BookingRows" 146 ⟨"BookingRows$Bookings", "finish", "(I)V"⟩ : Cond) ∈ lw_g := List.mem_filter.mpr ⟨List.mem_of_getElem? (i := 427) (by decide +kernel), rfl⟩
theorem mw_428 : (.instanceMethod ⟨"BookingRows$Bookings", "finish", "(I)V"⟩ : Cond) ∈ lw_g := List.mem_filter.mpr ⟨List.mem_of_getElem? (i := 428) (by decide +kernel), rfl⟩
theorem mw_429 : (.selects "BookingRows$Bookings" ⟨"BookingRows$Bookings", "finish", "(I)V"⟩ ⟨"BookingRows$Bookings", "finish", "(I)V"⟩ : Cond) ∈ lw_g := List.mem_filter.mpr ⟨List.mem_of_getElem? (i := 429) (by decide +kernel), rfl⟩
set_option maxRecDepth 20000 in
theorem mw_430 : (.code ⟨"BookingRows$Bookings", "finish", "(I)V"⟩ prog_2_method_24_code 3 none : Cond) ∈ lw_g := List.mem_filter.mpr ⟨List.mem_of_getElem? (i := 430) rfl, rfl⟩
theorem mw_431 : (.methodLink "BookingRows" 150 ⟨"BookingRows$Bookings", "size", "()I"⟩ : Cond) ∈ lw_g := List.mem_filter.mpr ⟨List.mem_of_getElem? (i := 431) (by decide +kernel), rfl⟩
theorem mw_432 : (.instanceMethod ⟨"BookingRows$Bookings", "size", "()I"⟩ : Cond) ∈ lw_g := List.mem_filter.mpr ⟨List.mem_of_getElem? (i := 432) (by decide +kernel), rfl⟩
theorem mw_433 : (.selects "BookingRows$Bookings" ⟨"BookingRows$Bookings", "size", "()I"⟩ ⟨"BookingRows$Bookings", "size", "()I"⟩ : Cond) ∈ lw_g := List.mem_filter.mpr ⟨List.mem_of_getElem? (i := 433) (by decide +kernel), rfl⟩
set_option maxRecDepth 20000 in
theorem mw_434 : (.code ⟨"BookingRows$Bookings", "size", "()I"⟩ prog_2_method_2_code 1 (some .int) : Cond) ∈ lw_g := List.mem_filter.mpr ⟨List.mem_of_getElem? (i := 434) rfl, rfl⟩
theorem mw_435 : (.methodLink "BookingRows" 154 ⟨"BookingRows", "isMissed", "(I)Z"⟩ : Cond) ∈ lw_g := List.mem_filter.mpr ⟨List.mem_of_getElem? (i := 435) (by decide +kernel), rfl⟩
theorem mw_437 : (.instanceMethod ⟨"BookingRows", "isMissed", "(I)Z"⟩ : Cond) ∈ lw_g := List.mem_filter.mpr ⟨List.mem_of_getElem? (i := 437) (by decide +kernel), rfl⟩
set_option maxRecDepth 20000 in
theorem mw_438 : (.code ⟨"BookingRows", "isMissed", "(I)Z"⟩ prog_1_method_25_code 2 (some .boolean) : Cond) ∈ lw_g := List.mem_filter.mpr ⟨List.mem_of_getElem? (i := 438) rfl, rfl⟩
theorem mw_439 : (.methodLink "BookingRows" 157 ⟨"BookingRows$Penalties", "countNoShow", "(II)V"⟩ : Cond) ∈ lw_g := List.mem_filter.mpr ⟨List.mem_of_getElem? (i := 439) (by decide +kernel), rfl⟩
theorem mw_440 : (.instanceMethod ⟨"BookingRows$Penalties", "countNoShow", "(II)V"⟩ : Cond) ∈ lw_g := List.mem_filter.mpr ⟨List.mem_of_getElem? (i := 440) (by decide +kernel), rfl⟩
theorem mw_441 : (.selects "BookingRows$Penalties" ⟨"BookingRows$Penalties", "countNoShow", "(II)V"⟩ ⟨"BookingRows$Penalties", "countNoShow", "(II)V"⟩ : Cond) ∈ lw_g := List.mem_filter.mpr ⟨List.mem_of_getElem? (i := 441) (by decide +kernel), rfl⟩
set_option maxRecDepth 20000 in
theorem mw_442 : (.code ⟨"BookingRows$Penalties", "countNoShow", "(II)V"⟩ prog_4_method_4_code 3 none : Cond) ∈ lw_g := List.mem_filter.mpr ⟨List.mem_of_getElem? (i := 442) rfl, rfl⟩
theorem mw_447 : (.methodLink "BookingRows" 160 ⟨"BookingRows$Bookings", "meets", "(III)Z"⟩ : Cond) ∈ lw_g := List.mem_filter.mpr ⟨List.mem_of_getElem? (i := 447) (by decide +kernel), rfl⟩
theorem mw_452 : (.methodLink "BookingRows" 163 ⟨"BookingRows$Bookings", "stateOf", "(I)I"⟩ : Cond) ∈ lw_g := List.mem_filter.mpr ⟨List.mem_of_getElem? (i := 452) (by decide +kernel), rfl⟩
theorem mw_453 : (.instanceMethod ⟨"BookingRows$Bookings", "stateOf", "(I)I"⟩ : Cond) ∈ lw_g := List.mem_filter.mpr ⟨List.mem_of_getElem? (i := 453) (by decide +kernel), rfl⟩
theorem mw_454 : (.selects "BookingRows$Bookings" ⟨"BookingRows$Bookings", "stateOf", "(I)I"⟩ ⟨"BookingRows$Bookings", "stateOf", "(I)I"⟩ : Cond) ∈ lw_g := List.mem_filter.mpr ⟨List.mem_of_getElem? (i := 454) (by decide +kernel), rfl⟩
set_option maxRecDepth 20000 in
theorem mw_455 : (.code ⟨"BookingRows$Bookings", "stateOf", "(I)I"⟩ prog_2_method_10_code 2 (some .int) : Cond) ∈ lw_g := List.mem_filter.mpr ⟨List.mem_of_getElem? (i := 455) rfl, rfl⟩
theorem mw_456 : (.methodLink "BookingRows" 166 ⟨"BookingRows$Bookings", "hostOf", "(I)I"⟩ : Cond) ∈ lw_g := List.mem_filter.mpr ⟨List.mem_of_getElem? (i := 456) (by decide +kernel), rfl⟩
theorem mw_457 : (.instanceMethod ⟨"BookingRows$Bookings", "hostOf", "(I)I"⟩ : Cond) ∈ lw_g := List.mem_filter.mpr ⟨List.mem_of_getElem? (i := 457) (by decide +kernel), rfl⟩
theorem mw_458 : (.selects "BookingRows$Bookings" ⟨"BookingRows$Bookings", "hostOf", "(I)I"⟩ ⟨"BookingRows$Bookings", "hostOf", "(I)I"⟩ : Cond) ∈ lw_g := List.mem_filter.mpr ⟨List.mem_of_getElem? (i := 458) (by decide +kernel), rfl⟩
set_option maxRecDepth 20000 in
theorem mw_459 : (.code ⟨"BookingRows$Bookings", "hostOf", "(I)I"⟩ prog_2_method_11_code 2 (some .int) : Cond) ∈ lw_g := List.mem_filter.mpr ⟨List.mem_of_getElem? (i := 459) rfl, rfl⟩
theorem mw_464 : (.methodLink "BookingRows" 169 ⟨"BookingRows$Bookings", "livingAt", "(II)I"⟩ : Cond) ∈ lw_g := List.mem_filter.mpr ⟨List.mem_of_getElem? (i := 464) (by decide +kernel), rfl⟩
theorem mw_465 : (.instanceMethod ⟨"BookingRows$Bookings", "livingAt", "(II)I"⟩ : Cond) ∈ lw_g := List.mem_filter.mpr ⟨List.mem_of_getElem? (i := 465) (by decide +kernel), rfl⟩
theorem mw_466 : (.selects "BookingRows$Bookings" ⟨"BookingRows$Bookings", "livingAt", "(II)I"⟩ ⟨"BookingRows$Bookings", "livingAt", "(II)I"⟩ : Cond) ∈ lw_g := List.mem_filter.mpr ⟨List.mem_of_getElem? (i := 466) (by decide +kernel), rfl⟩
set_option maxRecDepth 20000 in
theorem mw_467 : (.code ⟨"BookingRows$Bookings", "livingAt", "(II)I"⟩ prog_2_method_21_code 4 (some .int) : Cond) ∈ lw_g := List.mem_filter.mpr ⟨List.mem_of_getElem? (i := 467) rfl, rfl⟩
theorem mw_468 : (.methodLink "BookingRows$Bookings" 51 ⟨"BookingRows$Bookings", "livingBefore", "(I)I"⟩ : Cond) ∈ lw_g := List.mem_filter.mpr ⟨List.mem_of_getElem? (i := 468) (by decide +kernel), rfl⟩
theorem mw_470 : (.instanceMethod ⟨"BookingRows$Bookings", "livingBefore", "(I)I"⟩ : Cond) ∈ lw_g := List.mem_filter.mpr ⟨List.mem_of_getElem? (i := 470) (by decide +kernel), rfl⟩
set_option maxRecDepth 20000 in
theorem mw_471 : (.code ⟨"BookingRows$Bookings", "livingBefore", "(I)I"⟩ prog_2_method_22_code 5 (some .int) : Cond) ∈ lw_g := List.mem_filter.mpr ⟨List.mem_of_getElem? (i := 471) rfl, rfl⟩
theorem mw_476 : (.methodLink "BookingRows" 172 ⟨"BookingRows$Penalties", "noShowsOf", "(I)I"⟩ : Cond) ∈ lw_g := List.mem_filter.mpr ⟨List.mem_of_getElem? (i := 476) (by decide +kernel), rfl⟩
theorem mw_477 : (.instanceMethod ⟨"BookingRows$Penalties", "noShowsOf", "(I)I"⟩ : Cond) ∈ lw_g := List.mem_filter.mpr ⟨List.mem_of_getElem? (i := 477) (by decide +kernel), rfl⟩
theorem mw_478 : (.selects "BookingRows$Penalties" ⟨"BookingRows$Penalties", "noShowsOf", "(I)I"⟩ ⟨"BookingRows$Penalties", "noShowsOf", "(I)I"⟩ : Cond) ∈ lw_g := List.mem_filter.mpr ⟨List.mem_of_getElem? (i := 478) (by decide +kernel), rfl⟩
set_option maxRecDepth 20000 in
theorem mw_479 : (.code ⟨"BookingRows$Penalties", "noShowsOf", "(I)I"⟩ prog_4_method_2_code 2 (some .int) : Cond) ∈ lw_g := List.mem_filter.mpr ⟨List.mem_of_getElem? (i := 479) rfl, rfl⟩
theorem mw_480 : (.methodLink "BookingRows" 178 ⟨"BookingRows$Wishes", "countOf", "(I)I"⟩ : Cond) ∈ lw_g := List.mem_filter.mpr ⟨List.mem_of_getElem? (i := 480) (by decide +kernel), rfl⟩
theorem mw_481 : (.instanceMethod ⟨"BookingRows$Wishes", "countOf", "(I)I"⟩ : Cond) ∈ lw_g := List.mem_filter.mpr ⟨List.mem_of_getElem? (i := 481) (by decide +kernel), rfl⟩
theorem mw_482 : (.selects "BookingRows$Wishes" ⟨"BookingRows$Wishes", "countOf", "(I)I"⟩ ⟨"BookingRows$Wishes", "countOf", "(I)I"⟩ : Cond) ∈ lw_g := List.mem_filter.mpr ⟨List.mem_of_getElem? (i := 482) (by decide +kernel), rfl⟩
set_option maxRecDepth 20000 in
theorem mw_483 : (.code ⟨"BookingRows$Wishes", "countOf", "(I)I"⟩ prog_6_method_8_code 4 (some .int) : Cond) ∈ lw_g := List.mem_filter.mpr ⟨List.mem_of_getElem? (i := 483) rfl, rfl⟩
theorem mw_488 : (.methodLink "BookingRows" 181 ⟨"BookingRows$Bookings", "doneMinutes", "(I)I"⟩ : Cond) ∈ lw_g := List.mem_filter.mpr ⟨List.mem_of_getElem? (i := 488) (by decide +kernel), rfl⟩
theorem mw_489 : (.instanceMethod ⟨"BookingRows$Bookings", "doneMinutes", "(I)I"⟩ : Cond) ∈ lw_g := List.mem_filter.mpr ⟨List.mem_of_getElem? (i := 489) (by decide +kernel), rfl⟩
theorem mw_490 : (.selects "BookingRows$Bookings" ⟨"BookingRows$Bookings", "doneMinutes", "(I)I"⟩ ⟨"BookingRows$Bookings", "doneMinutes", "(I)I"⟩ : Cond) ∈ lw_g := List.mem_filter.mpr ⟨List.mem_of_getElem? (i := 490) (by decide +kernel), rfl⟩
set_option maxRecDepth 20000 in
theorem mw_491 : (.code ⟨"BookingRows$Bookings", "doneMinutes", "(I)I"⟩ prog_2_method_23_code 4 (some .int) : Cond) ∈ lw_g := List.mem_filter.mpr ⟨List.mem_of_getElem? (i := 491) rfl, rfl⟩
theorem mw_497 : (.methodLink "BookingRowsModel" 1 ⟨"java/lang/Object", "<init>", "()V"⟩ : Cond) ∈ lw_g := List.mem_filter.mpr ⟨List.mem_of_getElem? (i := 497) (by decide +kernel), rfl⟩
theorem mw_498 : (.fieldLink "BookingRowsModel" 38 "BookingRowsModel" "thrown" "I" : Cond) ∈ lw_g := List.mem_filter.mpr ⟨List.mem_of_getElem? (i := 498) (by decide +kernel), rfl⟩
theorem mw_499 : (.fieldLink "BookingRowsModel" 67 "BookingRowsModel" "now" "I" : Cond) ∈ lw_g := List.mem_filter.mpr ⟨List.mem_of_getElem? (i := 499) (by decide +kernel), rfl⟩
theorem mw_500 : (.fieldLink "BookingRowsModel" 7 "BookingRowsModel" "hours" "[I" : Cond) ∈ lw_g := List.mem_filter.mpr ⟨List.mem_of_getElem? (i := 500) (by decide +kernel), rfl⟩
theorem mw_501 : (.fieldLink "BookingRowsModel" 13 "BookingRowsModel" "holidays" "[I" : Cond) ∈ lw_g := List.mem_filter.mpr ⟨List.mem_of_getElem? (i := 501) (by decide +kernel), rfl⟩
theorem mw_502 : (.fieldLink "BookingRowsModel" 50 "BookingRowsModel" "holidayCount" "I" : Cond) ∈ lw_g := List.mem_filter.mpr ⟨List.mem_of_getElem? (i := 502) (by decide +kernel), rfl⟩
theorem mw_503 : (.fieldLink "BookingRowsModel" 16 "BookingRowsModel" "things" "[I" : Cond) ∈ lw_g := List.mem_filter.mpr ⟨List.mem_of_getElem? (i := 503) (by decide +kernel), rfl⟩
theorem mw_504 : (.fieldLink "BookingRowsModel" 43 "BookingRowsModel" "thingCount" "I" : Cond) ∈ lw_g := List.mem_filter.mpr ⟨List.mem_of_getElem? (i := 504) (by decide +kernel), rfl⟩
theorem mw_505 : (.fieldLink "BookingRowsModel" 19 "BookingRowsModel" "bookings" "[I" : Cond) ∈ lw_g := List.mem_filter.mpr ⟨List.mem_of_getElem? (i := 505) (by decide +kernel), rfl⟩
theorem mw_506 : (.fieldLink "BookingRowsModel" 46 "BookingRowsModel" "count" "I" : Cond) ∈ lw_g := List.mem_filter.mpr ⟨List.mem_of_getElem? (i := 506) (by decide +kernel), rfl⟩
theorem mw_507 : (.fieldLink "BookingRowsModel" 22 "BookingRowsModel" "wishes" "[I" : Cond) ∈ lw_g := List.mem_filter.mpr ⟨List.mem_of_getElem? (i := 507) (by decide +kernel), rfl⟩
theorem mw_508 : (.fieldLink "BookingRowsModel" 93 "BookingRowsModel" "wishCount" "I" : Cond) ∈ lw_g := List.mem_filter.mpr ⟨List.mem_of_getElem? (i := 508) (by decide +kernel), rfl⟩
theorem mw_509 : (.fieldLink "BookingRowsModel" 25 "BookingRowsModel" "noShows" "[I" : Cond) ∈ lw_g := List.mem_filter.mpr ⟨List.mem_of_getElem? (i := 509) (by decide +kernel), rfl⟩
theorem mw_510 : (.fieldLink "BookingRowsModel" 28 "BookingRowsModel" "barredUntil" "[I" : Cond) ∈ lw_g := List.mem_filter.mpr ⟨List.mem_of_getElem? (i := 510) (by decide +kernel), rfl⟩
theorem mw_511 : (.fieldLink "BookingRowsModel" 31 "BookingRowsModel" "freed" "[I" : Cond) ∈ lw_g := List.mem_filter.mpr ⟨List.mem_of_getElem? (i := 511) (by decide +kernel), rfl⟩
theorem mw_512 : (.fieldLink "BookingRowsModel" 34 "BookingRowsModel" "looked" "[Z" : Cond) ∈ lw_g := List.mem_filter.mpr ⟨List.mem_of_getElem? (i := 512) (by decide +kernel), rfl⟩
theorem mw_548 : (.constant "BookingRowsModel" 49 100000 : Cond) ∈ lw_g := List.mem_filter.mpr ⟨List.mem_of_getElem? (i := 548) (by decide +kernel), rfl⟩
theorem mw_557 : (.methodLink "BookingRowsModel" 53 ⟨"BookingRowsModel", "isHoliday", "(I)Z"⟩ : Cond) ∈ lw_g := List.mem_filter.mpr ⟨List.mem_of_getElem? (i := 557) (by decide +kernel), rfl⟩
theorem mw_559 : (.instanceMethod ⟨"BookingRowsModel", "isHoliday", "(I)Z"⟩ : Cond) ∈ lw_g := List.mem_filter.mpr ⟨List.mem_of_getElem? (i := 559) (by decide +kernel), rfl⟩
set_option maxRecDepth 20000 in
theorem mw_560 : (.code ⟨"BookingRowsModel", "isHoliday", "(I)Z"⟩ prog_8_method_10_code 4 (some .boolean) : Cond) ∈ lw_g := List.mem_filter.mpr ⟨List.mem_of_getElem? (i := 560) rfl, rfl⟩
theorem mw_565 : (.methodLink "BookingRowsModel" 77 ⟨"BookingRowsModel", "isPerson", "(I)Z"⟩ : Cond) ∈ lw_g := List.mem_filter.mpr ⟨List.mem_of_getElem? (i := 565) (by decide +kernel), rfl⟩
theorem mw_566 : (.static ⟨"BookingRowsModel", "isPerson", "(I)Z"⟩ : Cond) ∈ lw_g := List.mem_filter.mpr ⟨List.mem_of_getElem? (i := 566) (by decide +kernel), rfl⟩
set_option maxRecDepth 20000 in
theorem mw_567 : (.code ⟨"BookingRowsModel", "isPerson", "(I)Z"⟩ prog_8_method_4_code 1 (some .boolean) : Cond) ∈ lw_g := List.mem_filter.mpr ⟨List.mem_of_getElem? (i := 567) rfl, rfl⟩
theorem mw_568 : (.methodLink "BookingRowsModel" 80 ⟨"BookingRowsModel", "isThing", "(I)Z"⟩ : Cond) ∈ lw_g := List.mem_filter.mpr ⟨List.mem_of_getElem? (i := 568) (by decide +kernel), rfl⟩
theorem mw_570 : (.instanceMethod ⟨"BookingRowsModel", "isThing", "(I)Z"⟩ : Cond) ∈ lw_g := List.mem_filter.mpr ⟨List.mem_of_getElem? (i := 570) (by decide +kernel), rfl⟩
set_option maxRecDepth 20000 in
theorem mw_571 : (.code ⟨"BookingRowsModel", "isThing", "(I)Z"⟩ prog_8_method_5_code 2 (some .boolean) : Cond) ∈ lw_g := List.mem_filter.mpr ⟨List.mem_of_getElem? (i := 571) rfl, rfl⟩
theorem mw_572 : (.methodLink "BookingRowsModel" 83 ⟨"BookingRowsModel", "against", "(IIIII)I"⟩ : Cond) ∈ lw_g := List.mem_filter.mpr ⟨List.mem_of_getElem? (i := 572) (by decide +kernel), rfl⟩
theorem mw_574 : (.instanceMethod ⟨"BookingRowsModel", "against", "(IIIII)I"⟩ : Cond) ∈ lw_g := List.mem_filter.mpr ⟨List.mem_of_getElem? (i := 574) (by decide +kernel), rfl⟩
set_option maxRecDepth 20000 in
theorem mw_575 : (.code ⟨"BookingRowsModel", "against", "(IIIII)I"⟩ prog_8_method_15_code 9 (some .int) : Cond) ∈ lw_g := List.mem_filter.mpr ⟨List.mem_of_getElem? (i := 575) rfl, rfl⟩
theorem mw_576 : (.methodLink "BookingRowsModel" 64 ⟨"BookingRowsModel", "isTime", "(I)Z"⟩ : Cond) ∈ lw_g := List.mem_filter.mpr ⟨List.mem_of_getElem? (i := 576) (by decide +kernel), rfl⟩
theorem mw_577 : (.static ⟨"BookingRowsModel", "isTime", "(I)Z"⟩ : Cond) ∈ lw_g := List.mem_filter.mpr ⟨List.mem_of_getElem? (i := 577) (by decide +kernel), rfl⟩
set_option maxRecDepth 20000 in
theorem mw_578 : (.code ⟨"BookingRowsModel", "isTime", "(I)Z"⟩ prog_8_method_3_code 1 (some .boolean) : Cond) ∈ lw_g := List.mem_filter.mpr ⟨List.mem_of_getElem? (i := 578) rfl, rfl⟩
theorem mw_579 : (.constant "BookingRowsModel" 42 1000000 : Cond) ∈ lw_g := List.mem_filter.mpr ⟨List.mem_of_getElem? (i := 579) (by decide +kernel), rfl⟩
theorem mw_580 : (.methodLink "BookingRowsModel" 70 ⟨"BookingRowsModel", "living", "(I)I"⟩ : Cond) ∈ lw_g := List.mem_filter.mpr ⟨List.mem_of_getElem? (i := 580) (by decide +kernel), rfl⟩
theorem mw_582 : (.instanceMethod ⟨"BookingRowsModel", "living", "(I)I"⟩ : Cond) ∈ lw_g := List.mem_filter.mpr ⟨List.mem_of_getElem? (i := 582) (by decide +kernel), rfl⟩
set_option maxRecDepth 20000 in
theorem mw_583 : (.code ⟨"BookingRowsModel", "living", "(I)I"⟩ prog_8_method_14_code 4 (some .int) : Cond) ∈ lw_g := List.mem_filter.mpr ⟨List.mem_of_getElem? (i := 583) rfl, rfl⟩
theorem mw_584 : (.methodLink "BookingRowsModel" 57 ⟨"BookingRowsModel", "lives", "(I)Z"⟩ : Cond) ∈ lw_g := List.mem_filter.mpr ⟨List.mem_of_getElem? (i := 584) (by decide +kernel), rfl⟩
theorem mw_586 : (.instanceMethod ⟨"BookingRowsModel", "lives", "(I)Z"⟩ : Cond) ∈ lw_g := List.mem_filter.mpr ⟨List.mem_of_getElem? (i := 586) (by decide +kernel), rfl⟩
set_option maxRecDepth 20000 in
theorem mw_587 : (.code ⟨"BookingRowsModel", "lives", "(I)Z"⟩ prog_8_method_7_code 2 (some .boolean) : Cond) ∈ lw_g := List.mem_filter.mpr ⟨List.mem_of_getElem? (i := 587) rfl, rfl⟩
theorem mw_588 : (.methodLink "BookingRowsModel" 74 ⟨"BookingRowsModel", "clashes", "(IIII)Z"⟩ : Cond) ∈ lw_g := List.mem_filter.mpr ⟨List.mem_of_getElem? (i := 588) (by decide +kernel), rfl⟩
theorem mw_590 : (.instanceMethod ⟨"BookingRowsModel", "clashes", "(IIII)Z"⟩ : Cond) ∈ lw_g := List.mem_filter.mpr ⟨List.mem_of_getElem? (i := 590) (by decide +kernel), rfl⟩
set_option maxRecDepth 20000 in
theorem mw_591 : (.code ⟨"BookingRowsModel", "clashes", "(IIII)Z"⟩ prog_8_method_13_code 7 (some .boolean) : Cond) ∈ lw_g := List.mem_filter.mpr ⟨List.mem_of_getElem? (i := 591) rfl, rfl⟩
theorem mw_592 : (.methodLink "BookingRowsModel" 60 ⟨"BookingRowsModel", "meets", "(IIII)Z"⟩ : Cond) ∈ lw_g := List.mem_filter.mpr ⟨List.mem_of_getElem? (i := 592) (by decide +kernel), rfl⟩
theorem mw_594 : (.instanceMethod ⟨"BookingRowsModel", "meets", "(IIII)Z"⟩ : Cond) ∈ lw_g := List.mem_filter.mpr ⟨List.mem_of_getElem? (i := 594) (by decide +kernel), rfl⟩
set_option maxRecDepth 20000 in
theorem mw_595 : (.code ⟨"BookingRowsModel", "meets", "(IIII)Z"⟩ prog_8_method_12_code 5 (some .boolean) : Cond) ∈ lw_g := List.mem_filter.mpr ⟨List.mem_of_getElem? (i := 595) rfl, rfl⟩
theorem mw_596 : (.methodLink "BookingRowsModel" 87 ⟨"BookingRowsModel", "add", "(IIIII)I"⟩ : Cond) ∈ lw_g := List.mem_filter.mpr ⟨List.mem_of_getElem? (i := 596) (by decide +kernel), rfl⟩
theorem mw_598 : (.instanceMethod ⟨"BookingRowsModel", "add", "(IIIII)I"⟩ : Cond) ∈ lw_g := List.mem_filter.mpr ⟨List.mem_of_getElem? (i := 598) (by decide +kernel), rfl⟩
set_option maxRecDepth 20000 in
theorem mw_599 : (.code ⟨"BookingRowsModel", "add", "(IIIII)I"⟩ prog_8_method_16_code 7 (some .int) : Cond) ∈ lw_g := List.mem_filter.mpr ⟨List.mem_of_getElem? (i := 599) rfl, rfl⟩
theorem mw_604 : (.methodLink "BookingRowsModel" 90 ⟨"BookingRowsModel", "isBooking", "(I)Z"⟩ : Cond) ∈ lw_g := List.mem_filter.mpr ⟨List.mem_of_getElem? (i := 604) (by decide +kernel), rfl⟩
theorem mw_606 : (.instanceMethod ⟨"BookingRowsModel", "isBooking", "(I)Z"⟩ : Cond) ∈ lw_g := List.mem_filter.mpr ⟨List.mem_of_getElem? (i := 606) (by decide +kernel), rfl⟩
set_option maxRecDepth 20000 in
theorem mw_607 : (.code ⟨"BookingRowsModel", "isBooking", "(I)Z"⟩ prog_8_method_6_code 2 (some .boolean) : Cond) ∈ lw_g := List.mem_filter.mpr ⟨List.mem_of_getElem? (i := 607) rfl, rfl⟩
theorem mw_616 : (.methodLink "BookingRowsModel" 106 ⟨"BookingRowsModel", "isOf", "(II)Z"⟩ : Cond) ∈ lw_g := List.mem_filter.mpr ⟨List.mem_of_getElem? (i := 616) (by decide +kernel), rfl⟩
theorem mw_618 : (.instanceMethod ⟨"BookingRowsModel", "isOf", "(II)Z"⟩ : Cond) ∈ lw_g := List.mem_filter.mpr ⟨List.mem_of_getElem? (i := 618) (by decide +kernel), rfl⟩
set_option maxRecDepth 20000 in
theorem mw_619 : (.code ⟨"BookingRowsModel", "isOf", "(II)Z"⟩ prog_8_method_25_code 3 (some .boolean) : Cond) ∈ lw_g := List.mem_filter.mpr ⟨List.mem_of_getElem? (i := 619) rfl, rfl⟩
theorem mw_620 : (.methodLink "BookingRowsModel" 110 ⟨"BookingRowsModel", "ends", "(II)I"⟩ : Cond) ∈ lw_g := List.mem_filter.mpr ⟨List.mem_of_getElem? (i := 620) (by decide +kernel), rfl⟩
theorem mw_622 : (.instanceMethod ⟨"BookingRowsModel", "ends", "(II)I"⟩ : Cond) ∈ lw_g := List.mem_filter.mpr ⟨List.mem_of_getElem? (i := 622) (by decide +kernel), rfl⟩
set_option maxRecDepth 20000 in
theorem mw_623 : (.code ⟨"BookingRowsModel", "ends", "(II)I"⟩ prog_8_method_23_code 5 (some .int) : Cond) ∈ lw_g := List.mem_filter.mpr ⟨List.mem_of_getElem? (i := 623) rfl, rfl⟩
theorem mw_624 : (.methodLink "BookingRowsModel" 114 ⟨"BookingRowsModel", "grantAll", "(II)I"⟩ : Cond) ∈ lw_g := List.mem_filter.mpr ⟨List.mem_of_getElem? (i := 624) (by decide +kernel), rfl⟩
theorem mw_626 : (.instanceMethod ⟨"BookingRowsModel", "grantAll", "(II)I"⟩ : Cond) ∈ lw_g := List.mem_filter.mpr ⟨List.mem_of_getElem? (i := 626) (by decide +kernel), rfl⟩
set_option maxRecDepth 20000 in
theorem mw_627 : (.code ⟨"BookingRowsModel", "grantAll", "(II)I"⟩ prog_8_method_24_code 5 (some .int) : Cond) ∈ lw_g := List.mem_filter.mpr ⟨List.mem_of_getElem? (i := 627) rfl, rfl⟩
theorem mw_628 : (.methodLink "BookingRowsModel" 103 ⟨"BookingRowsModel", "grants", "(I)I"⟩ : Cond) ∈ lw_g := List.mem_filter.mpr ⟨List.mem_of_getElem? (i := 628) (by decide +kernel), rfl⟩
theorem mw_630 : (.instanceMethod ⟨"BookingRowsModel", "grants", "(I)I"⟩ : Cond) ∈ lw_g := List.mem_filter.mpr ⟨List.mem_of_getElem? (i := 630) (by decide +kernel), rfl⟩
set_option maxRecDepth 20000 in
theorem mw_631 : (.code ⟨"BookingRowsModel", "grants", "(I)I"⟩ prog_8_method_22_code 5 (some .int) : Cond) ∈ lw_g := List.mem_filter.mpr ⟨List.mem_of_getElem? (i := 631) rfl, rfl⟩
theorem mw_632 : (.methodLink "BookingRowsModel" 96 ⟨"BookingRowsModel", "nextWish", "(I)I"⟩ : Cond) ∈ lw_g := List.mem_filter.mpr ⟨List.mem_of_getElem? (i := 632) (by decide +kernel), rfl⟩
theorem mw_634 : (.instanceMethod ⟨"BookingRowsModel", "nextWish", "(I)I"⟩ : Cond) ∈ lw_g := List.mem_filter.mpr ⟨List.mem_of_getElem? (i := 634) (by decide +kernel), rfl⟩
set_option maxRecDepth 20000 in
theorem mw_635 : (.code ⟨"BookingRowsModel", "nextWish", "(I)I"⟩ prog_8_method_21_code 4 (some .int) : Cond) ∈ lw_g := List.mem_filter.mpr ⟨List.mem_of_getElem? (i := 635) rfl, rfl⟩
theorem mw_636 : (.methodLink "BookingRowsModel" 99 ⟨"BookingRowsModel", "dropWish", "(I)V"⟩ : Cond) ∈ lw_g := List.mem_filter.mpr ⟨List.mem_of_getElem? (i := 636) (by decide +kernel), rfl⟩
theorem mw_638 : (.instanceMethod ⟨"BookingRowsModel", "dropWish", "(I)V"⟩ : Cond) ∈ lw_g := List.mem_filter.mpr ⟨List.mem_of_getElem? (i := 638) (by decide +kernel), rfl⟩
set_option maxRecDepth 20000 in
theorem mw_639 : (.code ⟨"BookingRowsModel", "dropWish", "(I)V"⟩ prog_8_method_20_code 4 none : Cond) ∈ lw_g := List.mem_filter.mpr ⟨List.mem_of_getElem? (i := 639) rfl, rfl⟩
theorem mw_648 : (.methodLink "BookingRowsModel" 117 ⟨"BookingRowsModel", "isMain", "(I)Z"⟩ : Cond) ∈ lw_g := List.mem_filter.mpr ⟨List.mem_of_getElem? (i := 648) (by decide +kernel), rfl⟩
theorem mw_650 : (.instanceMethod ⟨"BookingRowsModel", "isMain", "(I)Z"⟩ : Cond) ∈ lw_g := List.mem_filter.mpr ⟨List.mem_of_getElem? (i := 650) (by decide +kernel), rfl⟩
set_option maxRecDepth 20000 in
theorem mw_651 : (.code ⟨"BookingRowsModel", "isMain", "(I)Z"⟩ prog_8_method_28_code 4 (some .boolean) : Cond) ∈ lw_g := List.mem_filter.mpr ⟨List.mem_of_getElem? (i := 651) rfl, rfl⟩
theorem mw_672 : (.methodLink "BookingRowsModel" 120 ⟨"BookingRowsModel", "isListed", "(II)Z"⟩ : Cond) ∈ lw_g := List.mem_filter.mpr ⟨List.mem_of_getElem? (i := 672) (by decide +kernel), rfl⟩
theorem mw_674 : (.instanceMethod ⟨"BookingRowsModel", "isListed", "(II)Z"⟩ : Cond) ∈ lw_g := List.mem_filter.mpr ⟨List.mem_of_getElem? (i := 674) (by decide +kernel), rfl⟩
set_option maxRecDepth 20000 in
theorem mw_675 : (.code ⟨"BookingRowsModel", "isListed", "(II)Z"⟩ prog_8_method_34_code 3 (some .boolean) : Cond) ∈ lw_g := List.mem_filter.mpr ⟨List.mem_of_getElem? (i := 675) rfl, rfl⟩
