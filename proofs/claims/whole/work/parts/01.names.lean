-- ===== PART A: goes FIRST, ahead of the names: the tables' words, and 'selects' of the private methods out of them =====
/-- a private method of a class that the tables say can be made, by its rows of tables_1 -/
def lw_okq (q : MethodName × Nat) : Prop := (q.1.cls ≠ "java/lang/invoke/MethodHandle" ∧ q.1.cls ≠ "java/lang/invoke/VarHandle") ∧ Cond.instantiable q.1.cls q.2 ∈ tables_1 ∧ Cond.privateMethod q.1 ∈ tables_1 ∧ Cond.instanceMethod q.1 ∈ tables_1
theorem lw_p0 : lw_okq (⟨"BookingRows", "tryBooking", "(IIII)I"⟩, 6) := ⟨⟨by decide +kernel, by decide +kernel⟩, List.mem_of_getElem? (i := 9) (by decide +kernel), List.mem_of_getElem? (i := 208) (by decide +kernel), List.mem_of_getElem? (i := 209) (by decide +kernel)⟩
theorem lw_p1 : lw_okq (⟨"BookingRows", "refusalOf", "(IIIII)I"⟩, 6) := ⟨⟨by decide +kernel, by decide +kernel⟩, List.mem_of_getElem? (i := 9) (by decide +kernel), List.mem_of_getElem? (i := 216) (by decide +kernel), List.mem_of_getElem? (i := 217) (by decide +kernel)⟩
theorem lw_p2 : lw_okq (⟨"BookingRows", "release", "(II)I"⟩, 6) := ⟨⟨by decide +kernel, by decide +kernel⟩, List.mem_of_getElem? (i := 9) (by decide +kernel), List.mem_of_getElem? (i := 298) (by decide +kernel), List.mem_of_getElem? (i := 299) (by decide +kernel)⟩
theorem lw_p3 : lw_okq (⟨"BookingRows$Bookings", "turnOne", "(II)V"⟩, 9) := ⟨⟨by decide +kernel, by decide +kernel⟩, List.mem_of_getElem? (i := 63) (by decide +kernel), List.mem_of_getElem? (i := 306) (by decide +kernel), List.mem_of_getElem? (i := 307) (by decide +kernel)⟩
theorem lw_p4 : lw_okq (⟨"BookingRows", "serveWishes", "(I)I"⟩, 6) := ⟨⟨by decide +kernel, by decide +kernel⟩, List.mem_of_getElem? (i := 9) (by decide +kernel), List.mem_of_getElem? (i := 318) (by decide +kernel), List.mem_of_getElem? (i := 319) (by decide +kernel)⟩
theorem lw_p5 : lw_okq (⟨"BookingRows$Wishes", "move", "(II)V"⟩, 6) := ⟨⟨by decide +kernel, by decide +kernel⟩, List.mem_of_getElem? (i := 97) (by decide +kernel), List.mem_of_getElem? (i := 346) (by decide +kernel), List.mem_of_getElem? (i := 347) (by decide +kernel)⟩
theorem lw_p6 : lw_okq (⟨"BookingRows", "lastCheckIn", "(I)I"⟩, 6) := ⟨⟨by decide +kernel, by decide +kernel⟩, List.mem_of_getElem? (i := 9) (by decide +kernel), List.mem_of_getElem? (i := 354) (by decide +kernel), List.mem_of_getElem? (i := 355) (by decide +kernel)⟩
theorem lw_p7 : lw_okq (⟨"BookingRows", "isMissed", "(I)Z"⟩, 6) := ⟨⟨by decide +kernel, by decide +kernel⟩, List.mem_of_getElem? (i := 9) (by decide +kernel), List.mem_of_getElem? (i := 410) (by decide +kernel), List.mem_of_getElem? (i := 411) (by decide +kernel)⟩
theorem lw_p8 : lw_okq (⟨"BookingRows$Bookings", "livingBefore", "(I)I"⟩, 9) := ⟨⟨by decide +kernel, by decide +kernel⟩, List.mem_of_getElem? (i := 63) (by decide +kernel), List.mem_of_getElem? (i := 443) (by decide +kernel), List.mem_of_getElem? (i := 444) (by decide +kernel)⟩
theorem lw_p9 : lw_okq (⟨"BookingRowsModel", "isHoliday", "(I)Z"⟩, 15) := ⟨⟨by decide +kernel, by decide +kernel⟩, List.mem_of_getElem? (i := 467) (by decide +kernel), List.mem_of_getElem? (i := 532) (by decide +kernel), List.mem_of_getElem? (i := 533) (by decide +kernel)⟩
theorem lw_p10 : lw_okq (⟨"BookingRowsModel", "isThing", "(I)Z"⟩, 15) := ⟨⟨by decide +kernel, by decide +kernel⟩, List.mem_of_getElem? (i := 467) (by decide +kernel), List.mem_of_getElem? (i := 543) (by decide +kernel), List.mem_of_getElem? (i := 544) (by decide +kernel)⟩
theorem lw_p11 : lw_okq (⟨"BookingRowsModel", "against", "(IIIII)I"⟩, 15) := ⟨⟨by decide +kernel, by decide +kernel⟩, List.mem_of_getElem? (i := 467) (by decide +kernel), List.mem_of_getElem? (i := 547) (by decide +kernel), List.mem_of_getElem? (i := 548) (by decide +kernel)⟩
theorem lw_p12 : lw_okq (⟨"BookingRowsModel", "living", "(I)I"⟩, 15) := ⟨⟨by decide +kernel, by decide +kernel⟩, List.mem_of_getElem? (i := 467) (by decide +kernel), List.mem_of_getElem? (i := 555) (by decide +kernel), List.mem_of_getElem? (i := 556) (by decide +kernel)⟩
theorem lw_p13 : lw_okq (⟨"BookingRowsModel", "lives", "(I)Z"⟩, 15) := ⟨⟨by decide +kernel, by decide +kernel⟩, List.mem_of_getElem? (i := 467) (by decide +kernel), List.mem_of_getElem? (i := 559) (by decide +kernel), List.mem_of_getElem? (i := 560) (by decide +kernel)⟩
theorem lw_p14 : lw_okq (⟨"BookingRowsModel", "clashes", "(IIII)Z"⟩, 15) := ⟨⟨by decide +kernel, by decide +kernel⟩, List.mem_of_getElem? (i := 467) (by decide +kernel), List.mem_of_getElem? (i := 563) (by decide +kernel), List.mem_of_getElem? (i := 564) (by decide +kernel)⟩
theorem lw_p15 : lw_okq (⟨"BookingRowsModel", "meets", "(IIII)Z"⟩, 15) := ⟨⟨by decide +kernel, by decide +kernel⟩, List.mem_of_getElem? (i := 467) (by decide +kernel), List.mem_of_getElem? (i := 567) (by decide +kernel), List.mem_of_getElem? (i := 568) (by decide +kernel)⟩
def lw_privs_1 : List (MethodName × Nat) := [(⟨"BookingRows", "tryBooking", "(IIII)I"⟩, 6), (⟨"BookingRows", "refusalOf", "(IIIII)I"⟩, 6), (⟨"BookingRows", "release", "(II)I"⟩, 6), (⟨"BookingRows$Bookings", "turnOne", "(II)V"⟩, 9), (⟨"BookingRows", "serveWishes", "(I)I"⟩, 6), (⟨"BookingRows$Wishes", "move", "(II)V"⟩, 6), (⟨"BookingRows", "lastCheckIn", "(I)I"⟩, 6), (⟨"BookingRows", "isMissed", "(I)Z"⟩, 6), (⟨"BookingRows$Bookings", "livingBefore", "(I)I"⟩, 9), (⟨"BookingRowsModel", "isHoliday", "(I)Z"⟩, 15), (⟨"BookingRowsModel", "isThing", "(I)Z"⟩, 15), (⟨"BookingRowsModel", "against", "(IIIII)I"⟩, 15), (⟨"BookingRowsModel", "living", "(I)I"⟩, 15), (⟨"BookingRowsModel", "lives", "(I)Z"⟩, 15), (⟨"BookingRowsModel", "clashes", "(IIII)Z"⟩, 15), (⟨"BookingRowsModel", "meets", "(IIII)Z"⟩, 15)]
theorem lw_r1 : ∀ q ∈ lw_privs_1, lw_okq q := List.forall_mem_cons.mpr ⟨lw_p0, List.forall_mem_cons.mpr ⟨lw_p1, List.forall_mem_cons.mpr ⟨lw_p2, List.forall_mem_cons.mpr ⟨lw_p3, List.forall_mem_cons.mpr ⟨lw_p4, List.forall_mem_cons.mpr ⟨lw_p5, List.forall_mem_cons.mpr ⟨lw_p6, List.forall_mem_cons.mpr ⟨lw_p7, List.forall_mem_cons.mpr ⟨lw_p8, List.forall_mem_cons.mpr ⟨lw_p9, List.forall_mem_cons.mpr ⟨lw_p10, List.forall_mem_cons.mpr ⟨lw_p11, List.forall_mem_cons.mpr ⟨lw_p12, List.forall_mem_cons.mpr ⟨lw_p13, List.forall_mem_cons.mpr ⟨lw_p14, List.forall_mem_cons.mpr ⟨lw_p15, fun _ h => absurd h List.not_mem_nil⟩⟩⟩⟩⟩⟩⟩⟩⟩⟩⟩⟩⟩⟩⟩⟩
theorem lw_p16 : lw_okq (⟨"BookingRowsModel", "add", "(IIIII)I"⟩, 15) := ⟨⟨by decide +kernel, by decide +kernel⟩, List.mem_of_getElem? (i := 467) (by decide +kernel), List.mem_of_getElem? (i := 571) (by decide +kernel), List.mem_of_getElem? (i := 572) (by decide +kernel)⟩
theorem lw_p17 : lw_okq (⟨"BookingRowsModel", "isBooking", "(I)Z"⟩, 15) := ⟨⟨by decide +kernel, by decide +kernel⟩, List.mem_of_getElem? (i := 467) (by decide +kernel), List.mem_of_getElem? (i := 579) (by decide +kernel), List.mem_of_getElem? (i := 580) (by decide +kernel)⟩
theorem lw_p18 : lw_okq (⟨"BookingRowsModel", "isOf", "(II)Z"⟩, 15) := ⟨⟨by decide +kernel, by decide +kernel⟩, List.mem_of_getElem? (i := 467) (by decide +kernel), List.mem_of_getElem? (i := 591) (by decide +kernel), List.mem_of_getElem? (i := 592) (by decide +kernel)⟩
theorem lw_p19 : lw_okq (⟨"BookingRowsModel", "ends", "(II)I"⟩, 15) := ⟨⟨by decide +kernel, by decide +kernel⟩, List.mem_of_getElem? (i := 467) (by decide +kernel), List.mem_of_getElem? (i := 595) (by decide +kernel), List.mem_of_getElem? (i := 596) (by decide +kernel)⟩
theorem lw_p20 : lw_okq (⟨"BookingRowsModel", "grantAll", "(II)I"⟩, 15) := ⟨⟨by decide +kernel, by decide +kernel⟩, List.mem_of_getElem? (i := 467) (by decide +kernel), List.mem_of_getElem? (i := 599) (by decide +kernel), List.mem_of_getElem? (i := 600) (by decide +kernel)⟩
theorem lw_p21 : lw_okq (⟨"BookingRowsModel", "grants", "(I)I"⟩, 15) := ⟨⟨by decide +kernel, by decide +kernel⟩, List.mem_of_getElem? (i := 467) (by decide +kernel), List.mem_of_getElem? (i := 603) (by decide +kernel), List.mem_of_getElem? (i := 604) (by decide +kernel)⟩
theorem lw_p22 : lw_okq (⟨"BookingRowsModel", "nextWish", "(I)I"⟩, 15) := ⟨⟨by decide +kernel, by decide +kernel⟩, List.mem_of_getElem? (i := 467) (by decide +kernel), List.mem_of_getElem? (i := 607) (by decide +kernel), List.mem_of_getElem? (i := 608) (by decide +kernel)⟩
theorem lw_p23 : lw_okq (⟨"BookingRowsModel", "dropWish", "(I)V"⟩, 15) := ⟨⟨by decide +kernel, by decide +kernel⟩, List.mem_of_getElem? (i := 467) (by decide +kernel), List.mem_of_getElem? (i := 611) (by decide +kernel), List.mem_of_getElem? (i := 612) (by decide +kernel)⟩
theorem lw_p24 : lw_okq (⟨"BookingRowsModel", "isMain", "(I)Z"⟩, 15) := ⟨⟨by decide +kernel, by decide +kernel⟩, List.mem_of_getElem? (i := 467) (by decide +kernel), List.mem_of_getElem? (i := 623) (by decide +kernel), List.mem_of_getElem? (i := 624) (by decide +kernel)⟩
theorem lw_p25 : lw_okq (⟨"BookingRowsModel", "isListed", "(II)Z"⟩, 15) := ⟨⟨by decide +kernel, by decide +kernel⟩, List.mem_of_getElem? (i := 467) (by decide +kernel), List.mem_of_getElem? (i := 647) (by decide +kernel), List.mem_of_getElem? (i := 648) (by decide +kernel)⟩
def lw_privs_2 : List (MethodName × Nat) := [(⟨"BookingRowsModel", "add", "(IIIII)I"⟩, 15), (⟨"BookingRowsModel", "isBooking", "(I)Z"⟩, 15), (⟨"BookingRowsModel", "isOf", "(II)Z"⟩, 15), (⟨"BookingRowsModel", "ends", "(II)I"⟩, 15), (⟨"BookingRowsModel", "grantAll", "(II)I"⟩, 15), (⟨"BookingRowsModel", "grants", "(I)I"⟩, 15), (⟨"BookingRowsModel", "nextWish", "(I)I"⟩, 15), (⟨"BookingRowsModel", "dropWish", "(I)V"⟩, 15), (⟨"BookingRowsModel", "isMain", "(I)Z"⟩, 15), (⟨"BookingRowsModel", "isListed", "(II)Z"⟩, 15)]
theorem lw_r2 : ∀ q ∈ lw_privs_2, lw_okq q := List.forall_mem_cons.mpr ⟨lw_p16, List.forall_mem_cons.mpr ⟨lw_p17, List.forall_mem_cons.mpr ⟨lw_p18, List.forall_mem_cons.mpr ⟨lw_p19, List.forall_mem_cons.mpr ⟨lw_p20, List.forall_mem_cons.mpr ⟨lw_p21, List.forall_mem_cons.mpr ⟨lw_p22, List.forall_mem_cons.mpr ⟨lw_p23, List.forall_mem_cons.mpr ⟨lw_p24, List.forall_mem_cons.mpr ⟨lw_p25, fun _ h => absurd h List.not_mem_nil⟩⟩⟩⟩⟩⟩⟩⟩⟩⟩
def lw_privs : List (MethodName × Nat) := lw_privs_1 ++ (lw_privs_2)
def lw_tbl : List Cond := k2_sels lw_privs ++ tables_1
theorem lw_privs_ok : ∀ q ∈ lw_privs, lw_okq q := by
  show ∀ q ∈ lw_privs_1 ++ (lw_privs_2), lw_okq q
  exact List.forall_mem_append.mpr ⟨lw_r1, lw_r2⟩

/-- the words of the tables that stay true at every call -/
def lw_g : List Cond := lw_tbl.filter goodWord
def R_Bk : String := "BookingRows$Bookings"
def F_Bk : u_T := fun k => match k with
  | 0 => ("BookingRows$Bookings", "persons", "[I", true)
  | 1 => ("BookingRows$Bookings", "things", "[I", true)
  | 2 => ("BookingRows$Bookings", "froms", "[I", true)
  | 3 => ("BookingRows$Bookings", "tos", "[I", true)
  | 4 => ("BookingRows$Bookings", "states", "[I", true)
  | 5 => ("BookingRows$Bookings", "hosts", "[I", true)
  | 6 => ("BookingRows$Bookings", "count", "I", false)
  | 7 => ("BookingRows$Bookings", "turnedThings", "[I", true)
  | _ => ("BookingRows$Bookings", "turnedCount", "I", false)
def t_Bk : Nat → FieldType := fun k => match k with
  | 0 => .array .int
  | 1 => .array .int
  | 2 => .array .int
  | 3 => .array .int
  | 4 => .array .int
  | 5 => .array .int
  | 6 => .int
  | 7 => .array .int
  | _ => .int
theorem n_Bk : ∀ a, a < 9 → ∀ b, b < 9 → a ≠ b → (F_Bk a).2.1 ≠ (F_Bk b).2.1 := by decide +kernel
theorem t_Bk_ok : ∀ k, k < 9 → parseFieldDescriptor (F_Bk k).2.2.1 = some (t_Bk k) := by decide +kernel
theorem i_uBk : ∀ w ∈ u_ws R_Bk F_Bk 9, w ∈ lw_g := by decide +kernel
def R_Ca : String := "BookingRows$Calendar"
def F_Ca : u_T := fun k => match k with
  | 0 => ("BookingRows$Calendar", "opens", "[I", true)
  | 1 => ("BookingRows$Calendar", "closes", "[I", true)
  | 2 => ("BookingRows$Calendar", "holidays", "[Z", true)
  | _ => ("BookingRows$Calendar", "holidayCount", "I", false)
def t_Ca : Nat → FieldType := fun k => match k with
  | 0 => .array .int
  | 1 => .array .int
  | 2 => .array .boolean
  | _ => .int
theorem n_Ca : ∀ a, a < 4 → ∀ b, b < 4 → a ≠ b → (F_Ca a).2.1 ≠ (F_Ca b).2.1 := by decide +kernel
theorem t_Ca_ok : ∀ k, k < 4 → parseFieldDescriptor (F_Ca k).2.2.1 = some (t_Ca k) := by decide +kernel
theorem i_uCa : ∀ w ∈ u_ws R_Ca F_Ca 4, w ∈ lw_g := by decide +kernel
def R_Pe : String := "BookingRows$Penalties"
def F_Pe : u_T := fun k => match k with
  | 0 => ("BookingRows$Penalties", "noShows", "[I", true)
  | _ => ("BookingRows$Penalties", "barredUntil", "[I", true)
def t_Pe : Nat → FieldType := fun k => match k with
  | 0 => .array .int
  | _ => .array .int
theorem n_Pe : ∀ a, a < 2 → ∀ b, b < 2 → a ≠ b → (F_Pe a).2.1 ≠ (F_Pe b).2.1 := by decide +kernel
theorem t_Pe_ok : ∀ k, k < 2 → parseFieldDescriptor (F_Pe k).2.2.1 = some (t_Pe k) := by decide +kernel
theorem i_uPe : ∀ w ∈ u_ws R_Pe F_Pe 2, w ∈ lw_g := by decide +kernel
def R_Th : String := "BookingRows$Things"
def F_Th : u_T := fun k => match k with
  | 0 => ("BookingRows$Things", "places", "[I", true)
  | 1 => ("BookingRows$Things", "leasts", "[I", true)
  | 2 => ("BookingRows$Things", "mosts", "[I", true)
  | 3 => ("BookingRows$Things", "aheads", "[I", true)
  | 4 => ("BookingRows$Things", "graces", "[I", true)
  | _ => ("BookingRows$Things", "count", "I", false)
def t_Th : Nat → FieldType := fun k => match k with
  | 0 => .array .int
  | 1 => .array .int
  | 2 => .array .int
  | 3 => .array .int
  | 4 => .array .int
  | _ => .int
theorem n_Th : ∀ a, a < 6 → ∀ b, b < 6 → a ≠ b → (F_Th a).2.1 ≠ (F_Th b).2.1 := by decide +kernel
theorem t_Th_ok : ∀ k, k < 6 → parseFieldDescriptor (F_Th k).2.2.1 = some (t_Th k) := by decide +kernel
theorem i_uTh : ∀ w ∈ u_ws R_Th F_Th 6, w ∈ lw_g := by decide +kernel
def R_Wi : String := "BookingRows$Wishes"
def F_Wi : u_T := fun k => match k with
  | 0 => ("BookingRows$Wishes", "persons", "[I", true)
  | 1 => ("BookingRows$Wishes", "things", "[I", true)
  | 2 => ("BookingRows$Wishes", "froms", "[I", true)
  | 3 => ("BookingRows$Wishes", "tos", "[I", true)
  | 4 => ("BookingRows$Wishes", "ranks", "[I", true)
  | _ => ("BookingRows$Wishes", "count", "I", false)
def t_Wi : Nat → FieldType := fun k => match k with
  | 0 => .array .int
  | 1 => .array .int
  | 2 => .array .int
  | 3 => .array .int
  | 4 => .array .int
  | _ => .int
theorem n_Wi : ∀ a, a < 6 → ∀ b, b < 6 → a ≠ b → (F_Wi a).2.1 ≠ (F_Wi b).2.1 := by decide +kernel
theorem t_Wi_ok : ∀ k, k < 6 → parseFieldDescriptor (F_Wi k).2.2.1 = some (t_Wi k) := by decide +kernel
theorem i_uWi : ∀ w ∈ u_ws R_Wi F_Wi 6, w ∈ lw_g := by decide +kernel
def R_Br : String := "BookingRows"
def F_Br : u_T := fun k => match k with
  | 0 => ("BookingRows", "calendar", "LBookingRows$Calendar;", true)
  | 1 => ("BookingRows", "things", "LBookingRows$Things;", true)
  | 2 => ("BookingRows", "bookings", "LBookingRows$Bookings;", true)
  | 3 => ("BookingRows", "wishes", "LBookingRows$Wishes;", true)
  | 4 => ("BookingRows", "penalties", "LBookingRows$Penalties;", true)
  | _ => ("BookingRows", "now", "I", false)
def t_Br : Nat → FieldType := fun k => match k with
  | 0 => .object "BookingRows$Calendar"
  | 1 => .object "BookingRows$Things"
  | 2 => .object "BookingRows$Bookings"
  | 3 => .object "BookingRows$Wishes"
  | 4 => .object "BookingRows$Penalties"
  | _ => .int
theorem n_Br : ∀ a, a < 6 → ∀ b, b < 6 → a ≠ b → (F_Br a).2.1 ≠ (F_Br b).2.1 := by decide +kernel
theorem t_Br_ok : ∀ k, k < 6 → parseFieldDescriptor (F_Br k).2.2.1 = some (t_Br k) := by decide +kernel
theorem i_uBr : ∀ w ∈ u_ws R_Br F_Br 6, w ∈ lw_g := by decide +kernel
def R_Mo : String := "BookingRowsModel"
def F_Mo : u_T := fun k => match k with
  | 0 => ("BookingRowsModel", "thrown", "I", false)
  | 1 => ("BookingRowsModel", "now", "I", false)
  | 2 => ("BookingRowsModel", "hours", "[I", true)
  | 3 => ("BookingRowsModel", "holidays", "[I", true)
  | 4 => ("BookingRowsModel", "holidayCount", "I", false)
  | 5 => ("BookingRowsModel", "things", "[I", true)
  | 6 => ("BookingRowsModel", "thingCount", "I", false)
  | 7 => ("BookingRowsModel", "bookings", "[I", true)
  | 8 => ("BookingRowsModel", "count", "I", false)
  | 9 => ("BookingRowsModel", "wishes", "[I", true)
  | 10 => ("BookingRowsModel", "wishCount", "I", false)
  | 11 => ("BookingRowsModel", "noShows", "[I", true)
  | 12 => ("BookingRowsModel", "barredUntil", "[I", true)
  | 13 => ("BookingRowsModel", "freed", "[I", true)
  | _ => ("BookingRowsModel", "looked", "[Z", true)
def t_Mo : Nat → FieldType := fun k => match k with
  | 0 => .int
  | 1 => .int
  | 2 => .array .int
  | 3 => .array .int
  | 4 => .int
  | 5 => .array .int
  | 6 => .int
  | 7 => .array .int
  | 8 => .int
  | 9 => .array .int
  | 10 => .int
  | 11 => .array .int
  | 12 => .array .int
  | 13 => .array .int
  | _ => .array .boolean
theorem n_Mo : ∀ a, a < 15 → ∀ b, b < 15 → a ≠ b → (F_Mo a).2.1 ≠ (F_Mo b).2.1 := by decide +kernel
theorem t_Mo_ok : ∀ k, k < 15 → parseFieldDescriptor (F_Mo k).2.2.1 = some (t_Mo k) := by decide +kernel
theorem i_uMo : ∀ w ∈ u_ws R_Mo F_Mo 15, w ∈ lw_g := by decide +kernel
abbrev cls : List vw_C := [(R_Bk, F_Bk, 9), (R_Ca, F_Ca, 4), (R_Pe, F_Pe, 2), (R_Th, F_Th, 6), (R_Wi, F_Wi, 6), (R_Br, F_Br, 6), (R_Mo, F_Mo, 15)]
abbrev b_Bk_init : ByteArray := prog_2_method_1_code
def y_Bk_init : MethodName := ⟨R_Bk, "<init>", "()V"⟩
def w_Bk_init : List Cond := .code y_Bk_init b_Bk_init 1 none :: lw_g
theorem hi_Bk_init : y_Bk_init.cls ≠ "java/lang/invoke/MethodHandle" ∧ y_Bk_init.cls ≠ "java/lang/invoke/VarHandle" ∧ (parseMethodDescriptor y_Bk_init.desc).map (fun d => d.parameters.length) = some 0 := by decide +kernel
abbrev b_Bk_size : ByteArray := prog_2_method_2_code
def y_Bk_size : MethodName := ⟨R_Bk, "size", "()I"⟩
def w_Bk_size : List Cond := .code y_Bk_size b_Bk_size 1 (some .int) :: lw_g
theorem hd_Bk_size : y_Bk_size.cls = R_Bk ∧ y_Bk_size.cls ≠ "java/lang/invoke/MethodHandle" ∧ y_Bk_size.cls ≠ "java/lang/invoke/VarHandle" ∧ (parseMethodDescriptor y_Bk_size.desc).map (fun d => d.parameters.length) = some 0 := by decide +kernel
abbrev b_Bk_has : ByteArray := prog_2_method_3_code
def y_Bk_has : MethodName := ⟨R_Bk, "has", "(I)Z"⟩
def w_Bk_has : List Cond := .code y_Bk_has b_Bk_has 2 (some .boolean) :: lw_g
theorem hd_Bk_has : y_Bk_has.cls = R_Bk ∧ y_Bk_has.cls ≠ "java/lang/invoke/MethodHandle" ∧ y_Bk_has.cls ≠ "java/lang/invoke/VarHandle" ∧ (parseMethodDescriptor y_Bk_has.desc).map (fun d => d.parameters.length) = some 1 := by decide +kernel
abbrev b_Bk_isFull : ByteArray := prog_2_method_4_code
def y_Bk_isFull : MethodName := ⟨R_Bk, "isFull", "()Z"⟩
def w_Bk_isFull : List Cond := .code y_Bk_isFull b_Bk_isFull 1 (some .boolean) :: lw_g
theorem hd_Bk_isFull : y_Bk_isFull.cls = R_Bk ∧ y_Bk_isFull.cls ≠ "java/lang/invoke/MethodHandle" ∧ y_Bk_isFull.cls ≠ "java/lang/invoke/VarHandle" ∧ (parseMethodDescriptor y_Bk_isFull.desc).map (fun d => d.parameters.length) = some 0 := by decide +kernel
abbrev b_Bk_add : ByteArray := prog_2_method_5_code
def y_Bk_add : MethodName := ⟨R_Bk, "add", "(IIIII)I"⟩
def w_Bk_add : List Cond := .code y_Bk_add b_Bk_add 6 (some .int) :: lw_g
theorem hd_Bk_add : y_Bk_add.cls = R_Bk ∧ y_Bk_add.cls ≠ "java/lang/invoke/MethodHandle" ∧ y_Bk_add.cls ≠ "java/lang/invoke/VarHandle" ∧ (parseMethodDescriptor y_Bk_add.desc).map (fun d => d.parameters.length) = some 5 := by decide +kernel
abbrev b_Bk_personOf : ByteArray := prog_2_method_6_code
def y_Bk_personOf : MethodName := ⟨R_Bk, "personOf", "(I)I"⟩
def w_Bk_personOf : List Cond := .code y_Bk_personOf b_Bk_personOf 2 (some .int) :: lw_g
theorem hd_Bk_personOf : y_Bk_personOf.cls = R_Bk ∧ y_Bk_personOf.cls ≠ "java/lang/invoke/MethodHandle" ∧ y_Bk_personOf.cls ≠ "java/lang/invoke/VarHandle" ∧ (parseMethodDescriptor y_Bk_personOf.desc).map (fun d => d.parameters.length) = some 1 := by decide +kernel
abbrev b_Bk_thingOf : ByteArray := prog_2_method_7_code
def y_Bk_thingOf : MethodName := ⟨R_Bk, "thingOf", "(I)I"⟩
def w_Bk_thingOf : List Cond := .code y_Bk_thingOf b_Bk_thingOf 2 (some .int) :: lw_g
theorem hd_Bk_thingOf : y_Bk_thingOf.cls = R_Bk ∧ y_Bk_thingOf.cls ≠ "java/lang/invoke/MethodHandle" ∧ y_Bk_thingOf.cls ≠ "java/lang/invoke/VarHandle" ∧ (parseMethodDescriptor y_Bk_thingOf.desc).map (fun d => d.parameters.length) = some 1 := by decide +kernel
abbrev b_Bk_fromOf : ByteArray := prog_2_method_8_code
def y_Bk_fromOf : MethodName := ⟨R_Bk, "fromOf", "(I)I"⟩
def w_Bk_fromOf : List Cond := .code y_Bk_fromOf b_Bk_fromOf 2 (some .int) :: lw_g
theorem hd_Bk_fromOf : y_Bk_fromOf.cls = R_Bk ∧ y_Bk_fromOf.cls ≠ "java/lang/invoke/MethodHandle" ∧ y_Bk_fromOf.cls ≠ "java/lang/invoke/VarHandle" ∧ (parseMethodDescriptor y_Bk_fromOf.desc).map (fun d => d.parameters.length) = some 1 := by decide +kernel
abbrev b_Bk_toOf : ByteArray := prog_2_method_9_code
def y_Bk_toOf : MethodName := ⟨R_Bk, "toOf", "(I)I"⟩
def w_Bk_toOf : List Cond := .code y_Bk_toOf b_Bk_toOf 2 (some .int) :: lw_g
theorem hd_Bk_toOf : y_Bk_toOf.cls = R_Bk ∧ y_Bk_toOf.cls ≠ "java/lang/invoke/MethodHandle" ∧ y_Bk_toOf.cls ≠ "java/lang/invoke/VarHandle" ∧ (parseMethodDescriptor y_Bk_toOf.desc).map (fun d => d.parameters.length) = some 1 := by decide +kernel
abbrev b_Bk_stateOf : ByteArray := prog_2_method_10_code
def y_Bk_stateOf : MethodName := ⟨R_Bk, "stateOf", "(I)I"⟩
def w_Bk_stateOf : List Cond := .code y_Bk_stateOf b_Bk_stateOf 2 (some .int) :: lw_g
theorem hd_Bk_stateOf : y_Bk_stateOf.cls = R_Bk ∧ y_Bk_stateOf.cls ≠ "java/lang/invoke/MethodHandle" ∧ y_Bk_stateOf.cls ≠ "java/lang/invoke/VarHandle" ∧ (parseMethodDescriptor y_Bk_stateOf.desc).map (fun d => d.parameters.length) = some 1 := by decide +kernel
abbrev b_Bk_hostOf : ByteArray := prog_2_method_11_code
def y_Bk_hostOf : MethodName := ⟨R_Bk, "hostOf", "(I)I"⟩
def w_Bk_hostOf : List Cond := .code y_Bk_hostOf b_Bk_hostOf 2 (some .int) :: lw_g
theorem hd_Bk_hostOf : y_Bk_hostOf.cls = R_Bk ∧ y_Bk_hostOf.cls ≠ "java/lang/invoke/MethodHandle" ∧ y_Bk_hostOf.cls ≠ "java/lang/invoke/VarHandle" ∧ (parseMethodDescriptor y_Bk_hostOf.desc).map (fun d => d.parameters.length) = some 1 := by decide +kernel
abbrev b_Bk_setTimes : ByteArray := prog_2_method_12_code
def y_Bk_setTimes : MethodName := ⟨R_Bk, "setTimes", "(III)V"⟩
def w_Bk_setTimes : List Cond := .code y_Bk_setTimes b_Bk_setTimes 4 none :: lw_g
theorem hd_Bk_setTimes : y_Bk_setTimes.cls = R_Bk ∧ y_Bk_setTimes.cls ≠ "java/lang/invoke/MethodHandle" ∧ y_Bk_setTimes.cls ≠ "java/lang/invoke/VarHandle" ∧ (parseMethodDescriptor y_Bk_setTimes.desc).map (fun d => d.parameters.length) = some 3 := by decide +kernel
abbrev b_Bk_isBooked : ByteArray := prog_2_method_13_code
def y_Bk_isBooked : MethodName := ⟨R_Bk, "isBooked", "(I)Z"⟩
def w_Bk_isBooked : List Cond := .code y_Bk_isBooked b_Bk_isBooked 2 (some .boolean) :: lw_g
theorem hd_Bk_isBooked : y_Bk_isBooked.cls = R_Bk ∧ y_Bk_isBooked.cls ≠ "java/lang/invoke/MethodHandle" ∧ y_Bk_isBooked.cls ≠ "java/lang/invoke/VarHandle" ∧ (parseMethodDescriptor y_Bk_isBooked.desc).map (fun d => d.parameters.length) = some 1 := by decide +kernel
abbrev b_Bk_isBookedBy : ByteArray := prog_2_method_14_code
def y_Bk_isBookedBy : MethodName := ⟨R_Bk, "isBookedBy", "(II)Z"⟩
def w_Bk_isBookedBy : List Cond := .code y_Bk_isBookedBy b_Bk_isBookedBy 3 (some .boolean) :: lw_g
theorem hd_Bk_isBookedBy : y_Bk_isBookedBy.cls = R_Bk ∧ y_Bk_isBookedBy.cls ≠ "java/lang/invoke/MethodHandle" ∧ y_Bk_isBookedBy.cls ≠ "java/lang/invoke/VarHandle" ∧ (parseMethodDescriptor y_Bk_isBookedBy.desc).map (fun d => d.parameters.length) = some 2 := by decide +kernel
abbrev b_Bk_lives : ByteArray := prog_2_method_15_code
def y_Bk_lives : MethodName := ⟨R_Bk, "lives", "(I)Z"⟩
def w_Bk_lives : List Cond := .code y_Bk_lives b_Bk_lives 2 (some .boolean) :: lw_g
theorem hd_Bk_lives : y_Bk_lives.cls = R_Bk ∧ y_Bk_lives.cls ≠ "java/lang/invoke/MethodHandle" ∧ y_Bk_lives.cls ≠ "java/lang/invoke/VarHandle" ∧ (parseMethodDescriptor y_Bk_lives.desc).map (fun d => d.parameters.length) = some 1 := by decide +kernel
abbrev b_Bk_isEquipment : ByteArray := prog_2_method_16_code
def y_Bk_isEquipment : MethodName := ⟨R_Bk, "isEquipment", "(I)Z"⟩
def w_Bk_isEquipment : List Cond := .code y_Bk_isEquipment b_Bk_isEquipment 2 (some .boolean) :: lw_g
theorem hd_Bk_isEquipment : y_Bk_isEquipment.cls = R_Bk ∧ y_Bk_isEquipment.cls ≠ "java/lang/invoke/MethodHandle" ∧ y_Bk_isEquipment.cls ≠ "java/lang/invoke/VarHandle" ∧ (parseMethodDescriptor y_Bk_isEquipment.desc).map (fun d => d.parameters.length) = some 1 := by decide +kernel
abbrev b_Bk_hasLivingEquipment : ByteArray := prog_2_method_17_code
def y_Bk_hasLivingEquipment : MethodName := ⟨R_Bk, "hasLivingEquipment", "(I)Z"⟩
def w_Bk_hasLivingEquipment : List Cond := .code y_Bk_hasLivingEquipment b_Bk_hasLivingEquipment 3 (some .boolean) :: lw_g
theorem hd_Bk_hasLivingEquipment : y_Bk_hasLivingEquipment.cls = R_Bk ∧ y_Bk_hasLivingEquipment.cls ≠ "java/lang/invoke/MethodHandle" ∧ y_Bk_hasLivingEquipment.cls ≠ "java/lang/invoke/VarHandle" ∧ (parseMethodDescriptor y_Bk_hasLivingEquipment.desc).map (fun d => d.parameters.length) = some 1 := by decide +kernel
abbrev b_Bk_meets : ByteArray := prog_2_method_18_code
def y_Bk_meets : MethodName := ⟨R_Bk, "meets", "(III)Z"⟩
def w_Bk_meets : List Cond := .code y_Bk_meets b_Bk_meets 4 (some .boolean) :: lw_g
theorem hd_Bk_meets : y_Bk_meets.cls = R_Bk ∧ y_Bk_meets.cls ≠ "java/lang/invoke/MethodHandle" ∧ y_Bk_meets.cls ≠ "java/lang/invoke/VarHandle" ∧ (parseMethodDescriptor y_Bk_meets.desc).map (fun d => d.parameters.length) = some 3 := by decide +kernel
abbrev b_Bk_isTaken : ByteArray := prog_2_method_19_code
def y_Bk_isTaken : MethodName := ⟨R_Bk, "isTaken", "(IIII)Z"⟩
def w_Bk_isTaken : List Cond := .code y_Bk_isTaken b_Bk_isTaken 6 (some .boolean) :: lw_g
theorem hd_Bk_isTaken : y_Bk_isTaken.cls = R_Bk ∧ y_Bk_isTaken.cls ≠ "java/lang/invoke/MethodHandle" ∧ y_Bk_isTaken.cls ≠ "java/lang/invoke/VarHandle" ∧ (parseMethodDescriptor y_Bk_isTaken.desc).map (fun d => d.parameters.length) = some 4 := by decide +kernel
abbrev b_Bk_livingOf : ByteArray := prog_2_method_20_code
def y_Bk_livingOf : MethodName := ⟨R_Bk, "livingOf", "(I)I"⟩
def w_Bk_livingOf : List Cond := .code y_Bk_livingOf b_Bk_livingOf 4 (some .int) :: lw_g
theorem hd_Bk_livingOf : y_Bk_livingOf.cls = R_Bk ∧ y_Bk_livingOf.cls ≠ "java/lang/invoke/MethodHandle" ∧ y_Bk_livingOf.cls ≠ "java/lang/invoke/VarHandle" ∧ (parseMethodDescriptor y_Bk_livingOf.desc).map (fun d => d.parameters.length) = some 1 := by decide +kernel
abbrev b_Bk_livingAt : ByteArray := prog_2_method_21_code
def y_Bk_livingAt : MethodName := ⟨R_Bk, "livingAt", "(II)I"⟩
def w_Bk_livingAt : List Cond := .code y_Bk_livingAt b_Bk_livingAt 4 (some .int) :: lw_g
theorem hd_Bk_livingAt : y_Bk_livingAt.cls = R_Bk ∧ y_Bk_livingAt.cls ≠ "java/lang/invoke/MethodHandle" ∧ y_Bk_livingAt.cls ≠ "java/lang/invoke/VarHandle" ∧ (parseMethodDescriptor y_Bk_livingAt.desc).map (fun d => d.parameters.length) = some 2 := by decide +kernel
abbrev b_Bk_livingBefore : ByteArray := prog_2_method_22_code
def y_Bk_livingBefore : MethodName := ⟨R_Bk, "livingBefore", "(I)I"⟩
def w_Bk_livingBefore : List Cond := .code y_Bk_livingBefore b_Bk_livingBefore 5 (some .int) :: lw_g
theorem hd_Bk_livingBefore : y_Bk_livingBefore.cls = R_Bk ∧ y_Bk_livingBefore.cls ≠ "java/lang/invoke/MethodHandle" ∧ y_Bk_livingBefore.cls ≠ "java/lang/invoke/VarHandle" ∧ (parseMethodDescriptor y_Bk_livingBefore.desc).map (fun d => d.parameters.length) = some 1 := by decide +kernel
abbrev b_Bk_doneMinutes : ByteArray := prog_2_method_23_code
def y_Bk_doneMinutes : MethodName := ⟨R_Bk, "doneMinutes", "(I)I"⟩
def w_Bk_doneMinutes : List Cond := .code y_Bk_doneMinutes b_Bk_doneMinutes 4 (some .int) :: lw_g
theorem hd_Bk_doneMinutes : y_Bk_doneMinutes.cls = R_Bk ∧ y_Bk_doneMinutes.cls ≠ "java/lang/invoke/MethodHandle" ∧ y_Bk_doneMinutes.cls ≠ "java/lang/invoke/VarHandle" ∧ (parseMethodDescriptor y_Bk_doneMinutes.desc).map (fun d => d.parameters.length) = some 1 := by decide +kernel
abbrev b_Bk_finish : ByteArray := prog_2_method_24_code
def y_Bk_finish : MethodName := ⟨R_Bk, "finish", "(I)V"⟩
def w_Bk_finish : List Cond := .code y_Bk_finish b_Bk_finish 3 none :: lw_g
theorem hd_Bk_finish : y_Bk_finish.cls = R_Bk ∧ y_Bk_finish.cls ≠ "java/lang/invoke/MethodHandle" ∧ y_Bk_finish.cls ≠ "java/lang/invoke/VarHandle" ∧ (parseMethodDescriptor y_Bk_finish.desc).map (fun d => d.parameters.length) = some 1 := by decide +kernel
abbrev b_Bk_turn : ByteArray := prog_2_method_25_code
def y_Bk_turn : MethodName := ⟨R_Bk, "turn", "(II)V"⟩
def w_Bk_turn : List Cond := .code y_Bk_turn b_Bk_turn 4 none :: lw_g
theorem hd_Bk_turn : y_Bk_turn.cls = R_Bk ∧ y_Bk_turn.cls ≠ "java/lang/invoke/MethodHandle" ∧ y_Bk_turn.cls ≠ "java/lang/invoke/VarHandle" ∧ (parseMethodDescriptor y_Bk_turn.desc).map (fun d => d.parameters.length) = some 2 := by decide +kernel
abbrev b_Bk_turnOne : ByteArray := prog_2_method_26_code
def y_Bk_turnOne : MethodName := ⟨R_Bk, "turnOne", "(II)V"⟩
def w_Bk_turnOne : List Cond := .code y_Bk_turnOne b_Bk_turnOne 3 none :: lw_g
theorem hd_Bk_turnOne : y_Bk_turnOne.cls = R_Bk ∧ y_Bk_turnOne.cls ≠ "java/lang/invoke/MethodHandle" ∧ y_Bk_turnOne.cls ≠ "java/lang/invoke/VarHandle" ∧ (parseMethodDescriptor y_Bk_turnOne.desc).map (fun d => d.parameters.length) = some 2 := by decide +kernel
abbrev b_Bk_turnedSize : ByteArray := prog_2_method_27_code
def y_Bk_turnedSize : MethodName := ⟨R_Bk, "turnedSize", "()I"⟩
def w_Bk_turnedSize : List Cond := .code y_Bk_turnedSize b_Bk_turnedSize 1 (some .int) :: lw_g
theorem hd_Bk_turnedSize : y_Bk_turnedSize.cls = R_Bk ∧ y_Bk_turnedSize.cls ≠ "java/lang/invoke/MethodHandle" ∧ y_Bk_turnedSize.cls ≠ "java/lang/invoke/VarHandle" ∧ (parseMethodDescriptor y_Bk_turnedSize.desc).map (fun d => d.parameters.length) = some 0 := by decide +kernel
abbrev b_Bk_turnedThing : ByteArray := prog_2_method_28_code
def y_Bk_turnedThing : MethodName := ⟨R_Bk, "turnedThing", "(I)I"⟩
def w_Bk_turnedThing : List Cond := .code y_Bk_turnedThing b_Bk_turnedThing 2 (some .int) :: lw_g
theorem hd_Bk_turnedThing : y_Bk_turnedThing.cls = R_Bk ∧ y_Bk_turnedThing.cls ≠ "java/lang/invoke/MethodHandle" ∧ y_Bk_turnedThing.cls ≠ "java/lang/invoke/VarHandle" ∧ (parseMethodDescriptor y_Bk_turnedThing.desc).map (fun d => d.parameters.length) = some 1 := by decide +kernel
abbrev b_Ca_init : ByteArray := prog_3_method_1_code
def y_Ca_init : MethodName := ⟨R_Ca, "<init>", "()V"⟩
def w_Ca_init : List Cond := .code y_Ca_init b_Ca_init 1 none :: lw_g
theorem hi_Ca_init : y_Ca_init.cls ≠ "java/lang/invoke/MethodHandle" ∧ y_Ca_init.cls ≠ "java/lang/invoke/VarHandle" ∧ (parseMethodDescriptor y_Ca_init.desc).map (fun d => d.parameters.length) = some 0 := by decide +kernel
abbrev b_Ca_setHours : ByteArray := prog_3_method_2_code
def y_Ca_setHours : MethodName := ⟨R_Ca, "setHours", "(IIII)V"⟩
def w_Ca_setHours : List Cond := .code y_Ca_setHours b_Ca_setHours 6 none :: lw_g
theorem hd_Ca_setHours : y_Ca_setHours.cls = R_Ca ∧ y_Ca_setHours.cls ≠ "java/lang/invoke/MethodHandle" ∧ y_Ca_setHours.cls ≠ "java/lang/invoke/VarHandle" ∧ (parseMethodDescriptor y_Ca_setHours.desc).map (fun d => d.parameters.length) = some 4 := by decide +kernel
abbrev b_Ca_isHoliday : ByteArray := prog_3_method_3_code
def y_Ca_isHoliday : MethodName := ⟨R_Ca, "isHoliday", "(I)Z"⟩
def w_Ca_isHoliday : List Cond := .code y_Ca_isHoliday b_Ca_isHoliday 2 (some .boolean) :: lw_g
theorem hd_Ca_isHoliday : y_Ca_isHoliday.cls = R_Ca ∧ y_Ca_isHoliday.cls ≠ "java/lang/invoke/MethodHandle" ∧ y_Ca_isHoliday.cls ≠ "java/lang/invoke/VarHandle" ∧ (parseMethodDescriptor y_Ca_isHoliday.desc).map (fun d => d.parameters.length) = some 1 := by decide +kernel
abbrev b_Ca_isFull : ByteArray := prog_3_method_4_code
def y_Ca_isFull : MethodName := ⟨R_Ca, "isFull", "()Z"⟩
def w_Ca_isFull : List Cond := .code y_Ca_isFull b_Ca_isFull 1 (some .boolean) :: lw_g
theorem hd_Ca_isFull : y_Ca_isFull.cls = R_Ca ∧ y_Ca_isFull.cls ≠ "java/lang/invoke/MethodHandle" ∧ y_Ca_isFull.cls ≠ "java/lang/invoke/VarHandle" ∧ (parseMethodDescriptor y_Ca_isFull.desc).map (fun d => d.parameters.length) = some 0 := by decide +kernel
abbrev b_Ca_addHoliday : ByteArray := prog_3_method_5_code
def y_Ca_addHoliday : MethodName := ⟨R_Ca, "addHoliday", "(I)I"⟩
def w_Ca_addHoliday : List Cond := .code y_Ca_addHoliday b_Ca_addHoliday 2 (some .int) :: lw_g
theorem hd_Ca_addHoliday : y_Ca_addHoliday.cls = R_Ca ∧ y_Ca_addHoliday.cls ≠ "java/lang/invoke/MethodHandle" ∧ y_Ca_addHoliday.cls ≠ "java/lang/invoke/VarHandle" ∧ (parseMethodDescriptor y_Ca_addHoliday.desc).map (fun d => d.parameters.length) = some 1 := by decide +kernel
abbrev b_Ca_isOpen : ByteArray := prog_3_method_6_code
def y_Ca_isOpen : MethodName := ⟨R_Ca, "isOpen", "(III)Z"⟩
def w_Ca_isOpen : List Cond := .code y_Ca_isOpen b_Ca_isOpen 7 (some .boolean) :: lw_g
theorem hd_Ca_isOpen : y_Ca_isOpen.cls = R_Ca ∧ y_Ca_isOpen.cls ≠ "java/lang/invoke/MethodHandle" ∧ y_Ca_isOpen.cls ≠ "java/lang/invoke/VarHandle" ∧ (parseMethodDescriptor y_Ca_isOpen.desc).map (fun d => d.parameters.length) = some 3 := by decide +kernel
abbrev b_Pe_init : ByteArray := prog_4_method_1_code
def y_Pe_init : MethodName := ⟨R_Pe, "<init>", "()V"⟩
def w_Pe_init : List Cond := .code y_Pe_init b_Pe_init 1 none :: lw_g
theorem hi_Pe_init : y_Pe_init.cls ≠ "java/lang/invoke/MethodHandle" ∧ y_Pe_init.cls ≠ "java/lang/invoke/VarHandle" ∧ (parseMethodDescriptor y_Pe_init.desc).map (fun d => d.parameters.length) = some 0 := by decide +kernel
abbrev b_Pe_noShowsOf : ByteArray := prog_4_method_2_code
def y_Pe_noShowsOf : MethodName := ⟨R_Pe, "noShowsOf", "(I)I"⟩
def w_Pe_noShowsOf : List Cond := .code y_Pe_noShowsOf b_Pe_noShowsOf 2 (some .int) :: lw_g
theorem hd_Pe_noShowsOf : y_Pe_noShowsOf.cls = R_Pe ∧ y_Pe_noShowsOf.cls ≠ "java/lang/invoke/MethodHandle" ∧ y_Pe_noShowsOf.cls ≠ "java/lang/invoke/VarHandle" ∧ (parseMethodDescriptor y_Pe_noShowsOf.desc).map (fun d => d.parameters.length) = some 1 := by decide +kernel
abbrev b_Pe_isBarred : ByteArray := prog_4_method_3_code
def y_Pe_isBarred : MethodName := ⟨R_Pe, "isBarred", "(II)Z"⟩
def w_Pe_isBarred : List Cond := .code y_Pe_isBarred b_Pe_isBarred 3 (some .boolean) :: lw_g
theorem hd_Pe_isBarred : y_Pe_isBarred.cls = R_Pe ∧ y_Pe_isBarred.cls ≠ "java/lang/invoke/MethodHandle" ∧ y_Pe_isBarred.cls ≠ "java/lang/invoke/VarHandle" ∧ (parseMethodDescriptor y_Pe_isBarred.desc).map (fun d => d.parameters.length) = some 2 := by decide +kernel
abbrev b_Pe_countNoShow : ByteArray := prog_4_method_4_code
def y_Pe_countNoShow : MethodName := ⟨R_Pe, "countNoShow", "(II)V"⟩
def w_Pe_countNoShow : List Cond := .code y_Pe_countNoShow b_Pe_countNoShow 3 none :: lw_g
theorem hd_Pe_countNoShow : y_Pe_countNoShow.cls = R_Pe ∧ y_Pe_countNoShow.cls ≠ "java/lang/invoke/MethodHandle" ∧ y_Pe_countNoShow.cls ≠ "java/lang/invoke/VarHandle" ∧ (parseMethodDescriptor y_Pe_countNoShow.desc).map (fun d => d.parameters.length) = some 2 := by decide +kernel
abbrev b_Th_init : ByteArray := prog_5_method_1_code
def y_Th_init : MethodName := ⟨R_Th, "<init>", "()V"⟩
def w_Th_init : List Cond := .code y_Th_init b_Th_init 1 none :: lw_g
theorem hi_Th_init : y_Th_init.cls ≠ "java/lang/invoke/MethodHandle" ∧ y_Th_init.cls ≠ "java/lang/invoke/VarHandle" ∧ (parseMethodDescriptor y_Th_init.desc).map (fun d => d.parameters.length) = some 0 := by decide +kernel
abbrev b_Th_has : ByteArray := prog_5_method_2_code
def y_Th_has : MethodName := ⟨R_Th, "has", "(I)Z"⟩
def w_Th_has : List Cond := .code y_Th_has b_Th_has 2 (some .boolean) :: lw_g
theorem hd_Th_has : y_Th_has.cls = R_Th ∧ y_Th_has.cls ≠ "java/lang/invoke/MethodHandle" ∧ y_Th_has.cls ≠ "java/lang/invoke/VarHandle" ∧ (parseMethodDescriptor y_Th_has.desc).map (fun d => d.parameters.length) = some 1 := by decide +kernel
abbrev b_Th_isFull : ByteArray := prog_5_method_3_code
def y_Th_isFull : MethodName := ⟨R_Th, "isFull", "()Z"⟩
def w_Th_isFull : List Cond := .code y_Th_isFull b_Th_isFull 1 (some .boolean) :: lw_g
theorem hd_Th_isFull : y_Th_isFull.cls = R_Th ∧ y_Th_isFull.cls ≠ "java/lang/invoke/MethodHandle" ∧ y_Th_isFull.cls ≠ "java/lang/invoke/VarHandle" ∧ (parseMethodDescriptor y_Th_isFull.desc).map (fun d => d.parameters.length) = some 0 := by decide +kernel
abbrev b_Th_add : ByteArray := prog_5_method_4_code
def y_Th_add : MethodName := ⟨R_Th, "add", "(IIIII)I"⟩
def w_Th_add : List Cond := .code y_Th_add b_Th_add 7 (some .int) :: lw_g
theorem hd_Th_add : y_Th_add.cls = R_Th ∧ y_Th_add.cls ≠ "java/lang/invoke/MethodHandle" ∧ y_Th_add.cls ≠ "java/lang/invoke/VarHandle" ∧ (parseMethodDescriptor y_Th_add.desc).map (fun d => d.parameters.length) = some 5 := by decide +kernel
abbrev b_Th_placeOf : ByteArray := prog_5_method_5_code
def y_Th_placeOf : MethodName := ⟨R_Th, "placeOf", "(I)I"⟩
def w_Th_placeOf : List Cond := .code y_Th_placeOf b_Th_placeOf 2 (some .int) :: lw_g
theorem hd_Th_placeOf : y_Th_placeOf.cls = R_Th ∧ y_Th_placeOf.cls ≠ "java/lang/invoke/MethodHandle" ∧ y_Th_placeOf.cls ≠ "java/lang/invoke/VarHandle" ∧ (parseMethodDescriptor y_Th_placeOf.desc).map (fun d => d.parameters.length) = some 1 := by decide +kernel
abbrev b_Th_allowsLength : ByteArray := prog_5_method_6_code
def y_Th_allowsLength : MethodName := ⟨R_Th, "allowsLength", "(II)Z"⟩
def w_Th_allowsLength : List Cond := .code y_Th_allowsLength b_Th_allowsLength 3 (some .boolean) :: lw_g
theorem hd_Th_allowsLength : y_Th_allowsLength.cls = R_Th ∧ y_Th_allowsLength.cls ≠ "java/lang/invoke/MethodHandle" ∧ y_Th_allowsLength.cls ≠ "java/lang/invoke/VarHandle" ∧ (parseMethodDescriptor y_Th_allowsLength.desc).map (fun d => d.parameters.length) = some 2 := by decide +kernel
abbrev b_Th_aheadOf : ByteArray := prog_5_method_7_code
def y_Th_aheadOf : MethodName := ⟨R_Th, "aheadOf", "(I)I"⟩
def w_Th_aheadOf : List Cond := .code y_Th_aheadOf b_Th_aheadOf 2 (some .int) :: lw_g
theorem hd_Th_aheadOf : y_Th_aheadOf.cls = R_Th ∧ y_Th_aheadOf.cls ≠ "java/lang/invoke/MethodHandle" ∧ y_Th_aheadOf.cls ≠ "java/lang/invoke/VarHandle" ∧ (parseMethodDescriptor y_Th_aheadOf.desc).map (fun d => d.parameters.length) = some 1 := by decide +kernel
abbrev b_Th_graceOf : ByteArray := prog_5_method_8_code
def y_Th_graceOf : MethodName := ⟨R_Th, "graceOf", "(I)I"⟩
def w_Th_graceOf : List Cond := .code y_Th_graceOf b_Th_graceOf 2 (some .int) :: lw_g
theorem hd_Th_graceOf : y_Th_graceOf.cls = R_Th ∧ y_Th_graceOf.cls ≠ "java/lang/invoke/MethodHandle" ∧ y_Th_graceOf.cls ≠ "java/lang/invoke/VarHandle" ∧ (parseMethodDescriptor y_Th_graceOf.desc).map (fun d => d.parameters.length) = some 1 := by decide +kernel
abbrev b_Wi_init : ByteArray := prog_6_method_1_code
def y_Wi_init : MethodName := ⟨R_Wi, "<init>", "()V"⟩
def w_Wi_init : List Cond := .code y_Wi_init b_Wi_init 1 none :: lw_g
theorem hi_Wi_init : y_Wi_init.cls ≠ "java/lang/invoke/MethodHandle" ∧ y_Wi_init.cls ≠ "java/lang/invoke/VarHandle" ∧ (parseMethodDescriptor y_Wi_init.desc).map (fun d => d.parameters.length) = some 0 := by decide +kernel
abbrev b_Wi_size : ByteArray := prog_6_method_2_code
def y_Wi_size : MethodName := ⟨R_Wi, "size", "()I"⟩
def w_Wi_size : List Cond := .code y_Wi_size b_Wi_size 1 (some .int) :: lw_g
theorem hd_Wi_size : y_Wi_size.cls = R_Wi ∧ y_Wi_size.cls ≠ "java/lang/invoke/MethodHandle" ∧ y_Wi_size.cls ≠ "java/lang/invoke/VarHandle" ∧ (parseMethodDescriptor y_Wi_size.desc).map (fun d => d.parameters.length) = some 0 := by decide +kernel
abbrev b_Wi_isFull : ByteArray := prog_6_method_3_code
def y_Wi_isFull : MethodName := ⟨R_Wi, "isFull", "()Z"⟩
def w_Wi_isFull : List Cond := .code y_Wi_isFull b_Wi_isFull 1 (some .boolean) :: lw_g
theorem hd_Wi_isFull : y_Wi_isFull.cls = R_Wi ∧ y_Wi_isFull.cls ≠ "java/lang/invoke/MethodHandle" ∧ y_Wi_isFull.cls ≠ "java/lang/invoke/VarHandle" ∧ (parseMethodDescriptor y_Wi_isFull.desc).map (fun d => d.parameters.length) = some 0 := by decide +kernel
abbrev b_Wi_personOf : ByteArray := prog_6_method_4_code
def y_Wi_personOf : MethodName := ⟨R_Wi, "personOf", "(I)I"⟩
def w_Wi_personOf : List Cond := .code y_Wi_personOf b_Wi_personOf 2 (some .int) :: lw_g
theorem hd_Wi_personOf : y_Wi_personOf.cls = R_Wi ∧ y_Wi_personOf.cls ≠ "java/lang/invoke/MethodHandle" ∧ y_Wi_personOf.cls ≠ "java/lang/invoke/VarHandle" ∧ (parseMethodDescriptor y_Wi_personOf.desc).map (fun d => d.parameters.length) = some 1 := by decide +kernel
abbrev b_Wi_thingOf : ByteArray := prog_6_method_5_code
def y_Wi_thingOf : MethodName := ⟨R_Wi, "thingOf", "(I)I"⟩
def w_Wi_thingOf : List Cond := .code y_Wi_thingOf b_Wi_thingOf 2 (some .int) :: lw_g
theorem hd_Wi_thingOf : y_Wi_thingOf.cls = R_Wi ∧ y_Wi_thingOf.cls ≠ "java/lang/invoke/MethodHandle" ∧ y_Wi_thingOf.cls ≠ "java/lang/invoke/VarHandle" ∧ (parseMethodDescriptor y_Wi_thingOf.desc).map (fun d => d.parameters.length) = some 1 := by decide +kernel
abbrev b_Wi_fromOf : ByteArray := prog_6_method_6_code
def y_Wi_fromOf : MethodName := ⟨R_Wi, "fromOf", "(I)I"⟩
def w_Wi_fromOf : List Cond := .code y_Wi_fromOf b_Wi_fromOf 2 (some .int) :: lw_g
theorem hd_Wi_fromOf : y_Wi_fromOf.cls = R_Wi ∧ y_Wi_fromOf.cls ≠ "java/lang/invoke/MethodHandle" ∧ y_Wi_fromOf.cls ≠ "java/lang/invoke/VarHandle" ∧ (parseMethodDescriptor y_Wi_fromOf.desc).map (fun d => d.parameters.length) = some 1 := by decide +kernel
abbrev b_Wi_toOf : ByteArray := prog_6_method_7_code
def y_Wi_toOf : MethodName := ⟨R_Wi, "toOf", "(I)I"⟩
def w_Wi_toOf : List Cond := .code y_Wi_toOf b_Wi_toOf 2 (some .int) :: lw_g
theorem hd_Wi_toOf : y_Wi_toOf.cls = R_Wi ∧ y_Wi_toOf.cls ≠ "java/lang/invoke/MethodHandle" ∧ y_Wi_toOf.cls ≠ "java/lang/invoke/VarHandle" ∧ (parseMethodDescriptor y_Wi_toOf.desc).map (fun d => d.parameters.length) = some 1 := by decide +kernel
abbrev b_Wi_countOf : ByteArray := prog_6_method_8_code
def y_Wi_countOf : MethodName := ⟨R_Wi, "countOf", "(I)I"⟩
def w_Wi_countOf : List Cond := .code y_Wi_countOf b_Wi_countOf 4 (some .int) :: lw_g
theorem hd_Wi_countOf : y_Wi_countOf.cls = R_Wi ∧ y_Wi_countOf.cls ≠ "java/lang/invoke/MethodHandle" ∧ y_Wi_countOf.cls ≠ "java/lang/invoke/VarHandle" ∧ (parseMethodDescriptor y_Wi_countOf.desc).map (fun d => d.parameters.length) = some 1 := by decide +kernel
abbrev b_Wi_add : ByteArray := prog_6_method_9_code
def y_Wi_add : MethodName := ⟨R_Wi, "add", "(IIIII)I"⟩
def w_Wi_add : List Cond := .code y_Wi_add b_Wi_add 7 (some .int) :: lw_g
theorem hd_Wi_add : y_Wi_add.cls = R_Wi ∧ y_Wi_add.cls ≠ "java/lang/invoke/MethodHandle" ∧ y_Wi_add.cls ≠ "java/lang/invoke/VarHandle" ∧ (parseMethodDescriptor y_Wi_add.desc).map (fun d => d.parameters.length) = some 5 := by decide +kernel
abbrev b_Wi_removeAt : ByteArray := prog_6_method_10_code
def y_Wi_removeAt : MethodName := ⟨R_Wi, "removeAt", "(I)V"⟩
def w_Wi_removeAt : List Cond := .code y_Wi_removeAt b_Wi_removeAt 3 none :: lw_g
theorem hd_Wi_removeAt : y_Wi_removeAt.cls = R_Wi ∧ y_Wi_removeAt.cls ≠ "java/lang/invoke/MethodHandle" ∧ y_Wi_removeAt.cls ≠ "java/lang/invoke/VarHandle" ∧ (parseMethodDescriptor y_Wi_removeAt.desc).map (fun d => d.parameters.length) = some 1 := by decide +kernel
abbrev b_Wi_move : ByteArray := prog_6_method_11_code
def y_Wi_move : MethodName := ⟨R_Wi, "move", "(II)V"⟩
def w_Wi_move : List Cond := .code y_Wi_move b_Wi_move 3 none :: lw_g
theorem hd_Wi_move : y_Wi_move.cls = R_Wi ∧ y_Wi_move.cls ≠ "java/lang/invoke/MethodHandle" ∧ y_Wi_move.cls ≠ "java/lang/invoke/VarHandle" ∧ (parseMethodDescriptor y_Wi_move.desc).map (fun d => d.parameters.length) = some 2 := by decide +kernel
abbrev b_Br_init : ByteArray := prog_1_method_1_code
def y_Br_init : MethodName := ⟨R_Br, "<init>", "()V"⟩
def w_Br_init : List Cond := .code y_Br_init b_Br_init 1 none :: lw_g
theorem hi_Br_init : y_Br_init.cls ≠ "java/lang/invoke/MethodHandle" ∧ y_Br_init.cls ≠ "java/lang/invoke/VarHandle" ∧ (parseMethodDescriptor y_Br_init.desc).map (fun d => d.parameters.length) = some 0 := by decide +kernel
abbrev b_Br_thing : ByteArray := prog_1_method_2_code
def y_Br_thing : MethodName := ⟨R_Br, "thing", "(IIIII)I"⟩
def w_Br_thing : List Cond := .code y_Br_thing b_Br_thing 8 (some .int) :: lw_g
theorem hd_Br_thing : y_Br_thing.cls = R_Br ∧ y_Br_thing.cls ≠ "java/lang/invoke/MethodHandle" ∧ y_Br_thing.cls ≠ "java/lang/invoke/VarHandle" ∧ (parseMethodDescriptor y_Br_thing.desc).map (fun d => d.parameters.length) = some 5 := by decide +kernel
abbrev b_Br_hours : ByteArray := prog_1_method_3_code
def y_Br_hours : MethodName := ⟨R_Br, "hours", "(IIII)I"⟩
def w_Br_hours : List Cond := .code y_Br_hours b_Br_hours 7 (some .int) :: lw_g
theorem hd_Br_hours : y_Br_hours.cls = R_Br ∧ y_Br_hours.cls ≠ "java/lang/invoke/MethodHandle" ∧ y_Br_hours.cls ≠ "java/lang/invoke/VarHandle" ∧ (parseMethodDescriptor y_Br_hours.desc).map (fun d => d.parameters.length) = some 4 := by decide +kernel
abbrev b_Br_holiday : ByteArray := prog_1_method_4_code
def y_Br_holiday : MethodName := ⟨R_Br, "holiday", "(I)I"⟩
def w_Br_holiday : List Cond := .code y_Br_holiday b_Br_holiday 2 (some .int) :: lw_g
theorem hd_Br_holiday : y_Br_holiday.cls = R_Br ∧ y_Br_holiday.cls ≠ "java/lang/invoke/MethodHandle" ∧ y_Br_holiday.cls ≠ "java/lang/invoke/VarHandle" ∧ (parseMethodDescriptor y_Br_holiday.desc).map (fun d => d.parameters.length) = some 1 := by decide +kernel
abbrev b_Br_book : ByteArray := prog_1_method_5_code
def y_Br_book : MethodName := ⟨R_Br, "book", "(IIII)I"⟩
def w_Br_book : List Cond := .code y_Br_book b_Br_book 5 (some .int) :: lw_g
theorem hd_Br_book : y_Br_book.cls = R_Br ∧ y_Br_book.cls ≠ "java/lang/invoke/MethodHandle" ∧ y_Br_book.cls ≠ "java/lang/invoke/VarHandle" ∧ (parseMethodDescriptor y_Br_book.desc).map (fun d => d.parameters.length) = some 4 := by decide +kernel
abbrev b_Br_recurring : ByteArray := prog_1_method_6_code
def y_Br_recurring : MethodName := ⟨R_Br, "recurring", "(III)I"⟩
def w_Br_recurring : List Cond := .code y_Br_recurring b_Br_recurring 10 (some .int) :: lw_g
theorem hd_Br_recurring : y_Br_recurring.cls = R_Br ∧ y_Br_recurring.cls ≠ "java/lang/invoke/MethodHandle" ∧ y_Br_recurring.cls ≠ "java/lang/invoke/VarHandle" ∧ (parseMethodDescriptor y_Br_recurring.desc).map (fun d => d.parameters.length) = some 3 := by decide +kernel
abbrev b_Br_cancel : ByteArray := prog_1_method_7_code
def y_Br_cancel : MethodName := ⟨R_Br, "cancel", "(II)I"⟩
def w_Br_cancel : List Cond := .code y_Br_cancel b_Br_cancel 3 (some .int) :: lw_g
theorem hd_Br_cancel : y_Br_cancel.cls = R_Br ∧ y_Br_cancel.cls ≠ "java/lang/invoke/MethodHandle" ∧ y_Br_cancel.cls ≠ "java/lang/invoke/VarHandle" ∧ (parseMethodDescriptor y_Br_cancel.desc).map (fun d => d.parameters.length) = some 2 := by decide +kernel
abbrev b_Br_checkIn : ByteArray := prog_1_method_8_code
def y_Br_checkIn : MethodName := ⟨R_Br, "checkIn", "(II)I"⟩
def w_Br_checkIn : List Cond := .code y_Br_checkIn b_Br_checkIn 4 (some .int) :: lw_g
theorem hd_Br_checkIn : y_Br_checkIn.cls = R_Br ∧ y_Br_checkIn.cls ≠ "java/lang/invoke/MethodHandle" ∧ y_Br_checkIn.cls ≠ "java/lang/invoke/VarHandle" ∧ (parseMethodDescriptor y_Br_checkIn.desc).map (fun d => d.parameters.length) = some 2 := by decide +kernel
abbrev b_Br_edit : ByteArray := prog_1_method_9_code
def y_Br_edit : MethodName := ⟨R_Br, "edit", "(IIII)I"⟩
def w_Br_edit : List Cond := .code y_Br_edit b_Br_edit 6 (some .int) :: lw_g
theorem hd_Br_edit : y_Br_edit.cls = R_Br ∧ y_Br_edit.cls ≠ "java/lang/invoke/MethodHandle" ∧ y_Br_edit.cls ≠ "java/lang/invoke/VarHandle" ∧ (parseMethodDescriptor y_Br_edit.desc).map (fun d => d.parameters.length) = some 4 := by decide +kernel
abbrev b_Br_equip : ByteArray := prog_1_method_10_code
def y_Br_equip : MethodName := ⟨R_Br, "equip", "(II)I"⟩
def w_Br_equip : List Cond := .code y_Br_equip b_Br_equip 6 (some .int) :: lw_g
theorem hd_Br_equip : y_Br_equip.cls = R_Br ∧ y_Br_equip.cls ≠ "java/lang/invoke/MethodHandle" ∧ y_Br_equip.cls ≠ "java/lang/invoke/VarHandle" ∧ (parseMethodDescriptor y_Br_equip.desc).map (fun d => d.parameters.length) = some 2 := by decide +kernel
abbrev b_Br_wish : ByteArray := prog_1_method_11_code
def y_Br_wish : MethodName := ⟨R_Br, "wish", "(IIIII)I"⟩
def w_Br_wish : List Cond := .code y_Br_wish b_Br_wish 6 (some .int) :: lw_g
theorem hd_Br_wish : y_Br_wish.cls = R_Br ∧ y_Br_wish.cls ≠ "java/lang/invoke/MethodHandle" ∧ y_Br_wish.cls ≠ "java/lang/invoke/VarHandle" ∧ (parseMethodDescriptor y_Br_wish.desc).map (fun d => d.parameters.length) = some 5 := by decide +kernel
abbrev b_Br_tick : ByteArray := prog_1_method_12_code
def y_Br_tick : MethodName := ⟨R_Br, "tick", "(I)I"⟩
def w_Br_tick : List Cond := .code y_Br_tick b_Br_tick 5 (some .int) :: lw_g
theorem hd_Br_tick : y_Br_tick.cls = R_Br ∧ y_Br_tick.cls ≠ "java/lang/invoke/MethodHandle" ∧ y_Br_tick.cls ≠ "java/lang/invoke/VarHandle" ∧ (parseMethodDescriptor y_Br_tick.desc).map (fun d => d.parameters.length) = some 1 := by decide +kernel
abbrev b_Br_clash : ByteArray := prog_1_method_13_code
def y_Br_clash : MethodName := ⟨R_Br, "clash", "(II)Z"⟩
def w_Br_clash : List Cond := .code y_Br_clash b_Br_clash 3 (some .boolean) :: lw_g
theorem hd_Br_clash : y_Br_clash.cls = R_Br ∧ y_Br_clash.cls ≠ "java/lang/invoke/MethodHandle" ∧ y_Br_clash.cls ≠ "java/lang/invoke/VarHandle" ∧ (parseMethodDescriptor y_Br_clash.desc).map (fun d => d.parameters.length) = some 2 := by decide +kernel
abbrev b_Br_booking : ByteArray := prog_1_method_14_code
def y_Br_booking : MethodName := ⟨R_Br, "booking", "(II)I"⟩
def w_Br_booking : List Cond := .code y_Br_booking b_Br_booking 3 (some .int) :: lw_g
theorem hd_Br_booking : y_Br_booking.cls = R_Br ∧ y_Br_booking.cls ≠ "java/lang/invoke/MethodHandle" ∧ y_Br_booking.cls ≠ "java/lang/invoke/VarHandle" ∧ (parseMethodDescriptor y_Br_booking.desc).map (fun d => d.parameters.length) = some 2 := by decide +kernel
abbrev b_Br_list : ByteArray := prog_1_method_15_code
def y_Br_list : MethodName := ⟨R_Br, "list", "(II)I"⟩
def w_Br_list : List Cond := .code y_Br_list b_Br_list 3 (some .int) :: lw_g
theorem hd_Br_list : y_Br_list.cls = R_Br ∧ y_Br_list.cls ≠ "java/lang/invoke/MethodHandle" ∧ y_Br_list.cls ≠ "java/lang/invoke/VarHandle" ∧ (parseMethodDescriptor y_Br_list.desc).map (fun d => d.parameters.length) = some 2 := by decide +kernel
abbrev b_Br_person : ByteArray := prog_1_method_16_code
def y_Br_person : MethodName := ⟨R_Br, "person", "(II)I"⟩
def w_Br_person : List Cond := .code y_Br_person b_Br_person 3 (some .int) :: lw_g
theorem hd_Br_person : y_Br_person.cls = R_Br ∧ y_Br_person.cls ≠ "java/lang/invoke/MethodHandle" ∧ y_Br_person.cls ≠ "java/lang/invoke/VarHandle" ∧ (parseMethodDescriptor y_Br_person.desc).map (fun d => d.parameters.length) = some 2 := by decide +kernel
abbrev b_Br_used : ByteArray := prog_1_method_17_code
def y_Br_used : MethodName := ⟨R_Br, "used", "(I)I"⟩
def w_Br_used : List Cond := .code y_Br_used b_Br_used 2 (some .int) :: lw_g
theorem hd_Br_used : y_Br_used.cls = R_Br ∧ y_Br_used.cls ≠ "java/lang/invoke/MethodHandle" ∧ y_Br_used.cls ≠ "java/lang/invoke/VarHandle" ∧ (parseMethodDescriptor y_Br_used.desc).map (fun d => d.parameters.length) = some 1 := by decide +kernel
abbrev b_Br_isWithin : ByteArray := prog_1_method_18_code
def y_Br_isWithin : MethodName := ⟨R_Br, "isWithin", "(III)Z"⟩
def w_Br_isWithin : List Cond := .code y_Br_isWithin b_Br_isWithin 3 (some .boolean) :: lw_g
theorem hd_Br_isWithin : y_Br_isWithin.cls = R_Br ∧ y_Br_isWithin.cls ≠ "java/lang/invoke/MethodHandle" ∧ y_Br_isWithin.cls ≠ "java/lang/invoke/VarHandle" ∧ (parseMethodDescriptor y_Br_isWithin.desc).map (fun d => d.parameters.length) = some 3 := by decide +kernel
abbrev b_Br_isPlace : ByteArray := prog_1_method_19_code
def y_Br_isPlace : MethodName := ⟨R_Br, "isPlace", "(I)Z"⟩
def w_Br_isPlace : List Cond := .code y_Br_isPlace b_Br_isPlace 1 (some .boolean) :: lw_g
theorem hd_Br_isPlace : y_Br_isPlace.cls = R_Br ∧ y_Br_isPlace.cls ≠ "java/lang/invoke/MethodHandle" ∧ y_Br_isPlace.cls ≠ "java/lang/invoke/VarHandle" ∧ (parseMethodDescriptor y_Br_isPlace.desc).map (fun d => d.parameters.length) = some 1 := by decide +kernel
abbrev b_Br_isPerson : ByteArray := prog_1_method_20_code
def y_Br_isPerson : MethodName := ⟨R_Br, "isPerson", "(I)Z"⟩
def w_Br_isPerson : List Cond := .code y_Br_isPerson b_Br_isPerson 1 (some .boolean) :: lw_g
theorem hd_Br_isPerson : y_Br_isPerson.cls = R_Br ∧ y_Br_isPerson.cls ≠ "java/lang/invoke/MethodHandle" ∧ y_Br_isPerson.cls ≠ "java/lang/invoke/VarHandle" ∧ (parseMethodDescriptor y_Br_isPerson.desc).map (fun d => d.parameters.length) = some 1 := by decide +kernel
abbrev b_Br_isTime : ByteArray := prog_1_method_21_code
def y_Br_isTime : MethodName := ⟨R_Br, "isTime", "(I)Z"⟩
def w_Br_isTime : List Cond := .code y_Br_isTime b_Br_isTime 1 (some .boolean) :: lw_g
theorem hd_Br_isTime : y_Br_isTime.cls = R_Br ∧ y_Br_isTime.cls ≠ "java/lang/invoke/MethodHandle" ∧ y_Br_isTime.cls ≠ "java/lang/invoke/VarHandle" ∧ (parseMethodDescriptor y_Br_isTime.desc).map (fun d => d.parameters.length) = some 1 := by decide +kernel
abbrev b_Br_tryBooking : ByteArray := prog_1_method_22_code
def y_Br_tryBooking : MethodName := ⟨R_Br, "tryBooking", "(IIII)I"⟩
def w_Br_tryBooking : List Cond := .code y_Br_tryBooking b_Br_tryBooking 6 (some .int) :: lw_g
theorem hd_Br_tryBooking : y_Br_tryBooking.cls = R_Br ∧ y_Br_tryBooking.cls ≠ "java/lang/invoke/MethodHandle" ∧ y_Br_tryBooking.cls ≠ "java/lang/invoke/VarHandle" ∧ (parseMethodDescriptor y_Br_tryBooking.desc).map (fun d => d.parameters.length) = some 4 := by decide +kernel
abbrev b_Br_refusalOf : ByteArray := prog_1_method_23_code
def y_Br_refusalOf : MethodName := ⟨R_Br, "refusalOf", "(IIIII)I"⟩
def w_Br_refusalOf : List Cond := .code y_Br_refusalOf b_Br_refusalOf 7 (some .int) :: lw_g
theorem hd_Br_refusalOf : y_Br_refusalOf.cls = R_Br ∧ y_Br_refusalOf.cls ≠ "java/lang/invoke/MethodHandle" ∧ y_Br_refusalOf.cls ≠ "java/lang/invoke/VarHandle" ∧ (parseMethodDescriptor y_Br_refusalOf.desc).map (fun d => d.parameters.length) = some 5 := by decide +kernel
abbrev b_Br_lastCheckIn : ByteArray := prog_1_method_24_code
def y_Br_lastCheckIn : MethodName := ⟨R_Br, "lastCheckIn", "(I)I"⟩
def w_Br_lastCheckIn : List Cond := .code y_Br_lastCheckIn b_Br_lastCheckIn 2 (some .int) :: lw_g
theorem hd_Br_lastCheckIn : y_Br_lastCheckIn.cls = R_Br ∧ y_Br_lastCheckIn.cls ≠ "java/lang/invoke/MethodHandle" ∧ y_Br_lastCheckIn.cls ≠ "java/lang/invoke/VarHandle" ∧ (parseMethodDescriptor y_Br_lastCheckIn.desc).map (fun d => d.parameters.length) = some 1 := by decide +kernel
abbrev b_Br_isMissed : ByteArray := prog_1_method_25_code
def y_Br_isMissed : MethodName := ⟨R_Br, "isMissed", "(I)Z"⟩
def w_Br_isMissed : List Cond := .code y_Br_isMissed b_Br_isMissed 2 (some .boolean) :: lw_g
theorem hd_Br_isMissed : y_Br_isMissed.cls = R_Br ∧ y_Br_isMissed.cls ≠ "java/lang/invoke/MethodHandle" ∧ y_Br_isMissed.cls ≠ "java/lang/invoke/VarHandle" ∧ (parseMethodDescriptor y_Br_isMissed.desc).map (fun d => d.parameters.length) = some 1 := by decide +kernel
abbrev b_Br_release : ByteArray := prog_1_method_26_code
def y_Br_release : MethodName := ⟨R_Br, "release", "(II)I"⟩
def w_Br_release : List Cond := .code y_Br_release b_Br_release 5 (some .int) :: lw_g
theorem hd_Br_release : y_Br_release.cls = R_Br ∧ y_Br_release.cls ≠ "java/lang/invoke/MethodHandle" ∧ y_Br_release.cls ≠ "java/lang/invoke/VarHandle" ∧ (parseMethodDescriptor y_Br_release.desc).map (fun d => d.parameters.length) = some 2 := by decide +kernel
abbrev b_Br_serveWishes : ByteArray := prog_1_method_27_code
def y_Br_serveWishes : MethodName := ⟨R_Br, "serveWishes", "(I)I"⟩
def w_Br_serveWishes : List Cond := .code y_Br_serveWishes b_Br_serveWishes 5 (some .int) :: lw_g
theorem hd_Br_serveWishes : y_Br_serveWishes.cls = R_Br ∧ y_Br_serveWishes.cls ≠ "java/lang/invoke/MethodHandle" ∧ y_Br_serveWishes.cls ≠ "java/lang/invoke/VarHandle" ∧ (parseMethodDescriptor y_Br_serveWishes.desc).map (fun d => d.parameters.length) = some 1 := by decide +kernel
abbrev b_Mo_init : ByteArray := prog_8_method_1_code
def y_Mo_init : MethodName := ⟨R_Mo, "<init>", "()V"⟩
def w_Mo_init : List Cond := .code y_Mo_init b_Mo_init 1 none :: lw_g
theorem hi_Mo_init : y_Mo_init.cls ≠ "java/lang/invoke/MethodHandle" ∧ y_Mo_init.cls ≠ "java/lang/invoke/VarHandle" ∧ (parseMethodDescriptor y_Mo_init.desc).map (fun d => d.parameters.length) = some 0 := by decide +kernel
abbrev b_Mo_isTime : ByteArray := prog_8_method_3_code
def y_Mo_isTime : MethodName := ⟨R_Mo, "isTime", "(I)Z"⟩
def w_Mo_isTime : List Cond := .code y_Mo_isTime b_Mo_isTime 1 (some .boolean) :: lw_g
theorem hd_Mo_isTime : y_Mo_isTime.cls = R_Mo ∧ y_Mo_isTime.cls ≠ "java/lang/invoke/MethodHandle" ∧ y_Mo_isTime.cls ≠ "java/lang/invoke/VarHandle" ∧ (parseMethodDescriptor y_Mo_isTime.desc).map (fun d => d.parameters.length) = some 1 := by decide +kernel
abbrev b_Mo_isPerson : ByteArray := prog_8_method_4_code
def y_Mo_isPerson : MethodName := ⟨R_Mo, "isPerson", "(I)Z"⟩
def w_Mo_isPerson : List Cond := .code y_Mo_isPerson b_Mo_isPerson 1 (some .boolean) :: lw_g
theorem hd_Mo_isPerson : y_Mo_isPerson.cls = R_Mo ∧ y_Mo_isPerson.cls ≠ "java/lang/invoke/MethodHandle" ∧ y_Mo_isPerson.cls ≠ "java/lang/invoke/VarHandle" ∧ (parseMethodDescriptor y_Mo_isPerson.desc).map (fun d => d.parameters.length) = some 1 := by decide +kernel
abbrev b_Mo_isThing : ByteArray := prog_8_method_5_code
def y_Mo_isThing : MethodName := ⟨R_Mo, "isThing", "(I)Z"⟩
def w_Mo_isThing : List Cond := .code y_Mo_isThing b_Mo_isThing 2 (some .boolean) :: lw_g
theorem hd_Mo_isThing : y_Mo_isThing.cls = R_Mo ∧ y_Mo_isThing.cls ≠ "java/lang/invoke/MethodHandle" ∧ y_Mo_isThing.cls ≠ "java/lang/invoke/VarHandle" ∧ (parseMethodDescriptor y_Mo_isThing.desc).map (fun d => d.parameters.length) = some 1 := by decide +kernel
abbrev b_Mo_isBooking : ByteArray := prog_8_method_6_code
def y_Mo_isBooking : MethodName := ⟨R_Mo, "isBooking", "(I)Z"⟩
def w_Mo_isBooking : List Cond := .code y_Mo_isBooking b_Mo_isBooking 2 (some .boolean) :: lw_g
theorem hd_Mo_isBooking : y_Mo_isBooking.cls = R_Mo ∧ y_Mo_isBooking.cls ≠ "java/lang/invoke/MethodHandle" ∧ y_Mo_isBooking.cls ≠ "java/lang/invoke/VarHandle" ∧ (parseMethodDescriptor y_Mo_isBooking.desc).map (fun d => d.parameters.length) = some 1 := by decide +kernel
abbrev b_Mo_lives : ByteArray := prog_8_method_7_code
def y_Mo_lives : MethodName := ⟨R_Mo, "lives", "(I)Z"⟩
def w_Mo_lives : List Cond := .code y_Mo_lives b_Mo_lives 2 (some .boolean) :: lw_g
theorem hd_Mo_lives : y_Mo_lives.cls = R_Mo ∧ y_Mo_lives.cls ≠ "java/lang/invoke/MethodHandle" ∧ y_Mo_lives.cls ≠ "java/lang/invoke/VarHandle" ∧ (parseMethodDescriptor y_Mo_lives.desc).map (fun d => d.parameters.length) = some 1 := by decide +kernel
abbrev b_Mo_thing : ByteArray := prog_8_method_8_code
def y_Mo_thing : MethodName := ⟨R_Mo, "thing", "(IIIII)I"⟩
def w_Mo_thing : List Cond := .code y_Mo_thing b_Mo_thing 7 (some .int) :: lw_g
theorem hd_Mo_thing : y_Mo_thing.cls = R_Mo ∧ y_Mo_thing.cls ≠ "java/lang/invoke/MethodHandle" ∧ y_Mo_thing.cls ≠ "java/lang/invoke/VarHandle" ∧ (parseMethodDescriptor y_Mo_thing.desc).map (fun d => d.parameters.length) = some 5 := by decide +kernel
abbrev b_Mo_hours : ByteArray := prog_8_method_9_code
def y_Mo_hours : MethodName := ⟨R_Mo, "hours", "(IIII)I"⟩
def w_Mo_hours : List Cond := .code y_Mo_hours b_Mo_hours 6 (some .int) :: lw_g
theorem hd_Mo_hours : y_Mo_hours.cls = R_Mo ∧ y_Mo_hours.cls ≠ "java/lang/invoke/MethodHandle" ∧ y_Mo_hours.cls ≠ "java/lang/invoke/VarHandle" ∧ (parseMethodDescriptor y_Mo_hours.desc).map (fun d => d.parameters.length) = some 4 := by decide +kernel
abbrev b_Mo_isHoliday : ByteArray := prog_8_method_10_code
def y_Mo_isHoliday : MethodName := ⟨R_Mo, "isHoliday", "(I)Z"⟩
def w_Mo_isHoliday : List Cond := .code y_Mo_isHoliday b_Mo_isHoliday 4 (some .boolean) :: lw_g
theorem hd_Mo_isHoliday : y_Mo_isHoliday.cls = R_Mo ∧ y_Mo_isHoliday.cls ≠ "java/lang/invoke/MethodHandle" ∧ y_Mo_isHoliday.cls ≠ "java/lang/invoke/VarHandle" ∧ (parseMethodDescriptor y_Mo_isHoliday.desc).map (fun d => d.parameters.length) = some 1 := by decide +kernel
abbrev b_Mo_holiday : ByteArray := prog_8_method_11_code
def y_Mo_holiday : MethodName := ⟨R_Mo, "holiday", "(I)I"⟩
def w_Mo_holiday : List Cond := .code y_Mo_holiday b_Mo_holiday 2 (some .int) :: lw_g
theorem hd_Mo_holiday : y_Mo_holiday.cls = R_Mo ∧ y_Mo_holiday.cls ≠ "java/lang/invoke/MethodHandle" ∧ y_Mo_holiday.cls ≠ "java/lang/invoke/VarHandle" ∧ (parseMethodDescriptor y_Mo_holiday.desc).map (fun d => d.parameters.length) = some 1 := by decide +kernel
abbrev b_Mo_meets : ByteArray := prog_8_method_12_code
def y_Mo_meets : MethodName := ⟨R_Mo, "meets", "(IIII)Z"⟩
def w_Mo_meets : List Cond := .code y_Mo_meets b_Mo_meets 5 (some .boolean) :: lw_g
theorem hd_Mo_meets : y_Mo_meets.cls = R_Mo ∧ y_Mo_meets.cls ≠ "java/lang/invoke/MethodHandle" ∧ y_Mo_meets.cls ≠ "java/lang/invoke/VarHandle" ∧ (parseMethodDescriptor y_Mo_meets.desc).map (fun d => d.parameters.length) = some 4 := by decide +kernel
abbrev b_Mo_clashes : ByteArray := prog_8_method_13_code
def y_Mo_clashes : MethodName := ⟨R_Mo, "clashes", "(IIII)Z"⟩
def w_Mo_clashes : List Cond := .code y_Mo_clashes b_Mo_clashes 7 (some .boolean) :: lw_g
theorem hd_Mo_clashes : y_Mo_clashes.cls = R_Mo ∧ y_Mo_clashes.cls ≠ "java/lang/invoke/MethodHandle" ∧ y_Mo_clashes.cls ≠ "java/lang/invoke/VarHandle" ∧ (parseMethodDescriptor y_Mo_clashes.desc).map (fun d => d.parameters.length) = some 4 := by decide +kernel
abbrev b_Mo_living : ByteArray := prog_8_method_14_code
def y_Mo_living : MethodName := ⟨R_Mo, "living", "(I)I"⟩
def w_Mo_living : List Cond := .code y_Mo_living b_Mo_living 4 (some .int) :: lw_g
theorem hd_Mo_living : y_Mo_living.cls = R_Mo ∧ y_Mo_living.cls ≠ "java/lang/invoke/MethodHandle" ∧ y_Mo_living.cls ≠ "java/lang/invoke/VarHandle" ∧ (parseMethodDescriptor y_Mo_living.desc).map (fun d => d.parameters.length) = some 1 := by decide +kernel
abbrev b_Mo_against : ByteArray := prog_8_method_15_code
def y_Mo_against : MethodName := ⟨R_Mo, "against", "(IIIII)I"⟩
def w_Mo_against : List Cond := .code y_Mo_against b_Mo_against 9 (some .int) :: lw_g
theorem hd_Mo_against : y_Mo_against.cls = R_Mo ∧ y_Mo_against.cls ≠ "java/lang/invoke/MethodHandle" ∧ y_Mo_against.cls ≠ "java/lang/invoke/VarHandle" ∧ (parseMethodDescriptor y_Mo_against.desc).map (fun d => d.parameters.length) = some 5 := by decide +kernel
abbrev b_Mo_add : ByteArray := prog_8_method_16_code
def y_Mo_add : MethodName := ⟨R_Mo, "add", "(IIIII)I"⟩
def w_Mo_add : List Cond := .code y_Mo_add b_Mo_add 7 (some .int) :: lw_g
theorem hd_Mo_add : y_Mo_add.cls = R_Mo ∧ y_Mo_add.cls ≠ "java/lang/invoke/MethodHandle" ∧ y_Mo_add.cls ≠ "java/lang/invoke/VarHandle" ∧ (parseMethodDescriptor y_Mo_add.desc).map (fun d => d.parameters.length) = some 5 := by decide +kernel
abbrev b_Mo_book : ByteArray := prog_8_method_17_code
def y_Mo_book : MethodName := ⟨R_Mo, "book", "(IIII)I"⟩
def w_Mo_book : List Cond := .code y_Mo_book b_Mo_book 6 (some .int) :: lw_g
theorem hd_Mo_book : y_Mo_book.cls = R_Mo ∧ y_Mo_book.cls ≠ "java/lang/invoke/MethodHandle" ∧ y_Mo_book.cls ≠ "java/lang/invoke/VarHandle" ∧ (parseMethodDescriptor y_Mo_book.desc).map (fun d => d.parameters.length) = some 4 := by decide +kernel
abbrev b_Mo_recurring : ByteArray := prog_8_method_18_code
def y_Mo_recurring : MethodName := ⟨R_Mo, "recurring", "(III)I"⟩
def w_Mo_recurring : List Cond := .code y_Mo_recurring b_Mo_recurring 10 (some .int) :: lw_g
theorem hd_Mo_recurring : y_Mo_recurring.cls = R_Mo ∧ y_Mo_recurring.cls ≠ "java/lang/invoke/MethodHandle" ∧ y_Mo_recurring.cls ≠ "java/lang/invoke/VarHandle" ∧ (parseMethodDescriptor y_Mo_recurring.desc).map (fun d => d.parameters.length) = some 3 := by decide +kernel
abbrev b_Mo_wish : ByteArray := prog_8_method_19_code
def y_Mo_wish : MethodName := ⟨R_Mo, "wish", "(IIIII)I"⟩
def w_Mo_wish : List Cond := .code y_Mo_wish b_Mo_wish 7 (some .int) :: lw_g
theorem hd_Mo_wish : y_Mo_wish.cls = R_Mo ∧ y_Mo_wish.cls ≠ "java/lang/invoke/MethodHandle" ∧ y_Mo_wish.cls ≠ "java/lang/invoke/VarHandle" ∧ (parseMethodDescriptor y_Mo_wish.desc).map (fun d => d.parameters.length) = some 5 := by decide +kernel
abbrev b_Mo_dropWish : ByteArray := prog_8_method_20_code
def y_Mo_dropWish : MethodName := ⟨R_Mo, "dropWish", "(I)V"⟩
def w_Mo_dropWish : List Cond := .code y_Mo_dropWish b_Mo_dropWish 4 none :: lw_g
theorem hd_Mo_dropWish : y_Mo_dropWish.cls = R_Mo ∧ y_Mo_dropWish.cls ≠ "java/lang/invoke/MethodHandle" ∧ y_Mo_dropWish.cls ≠ "java/lang/invoke/VarHandle" ∧ (parseMethodDescriptor y_Mo_dropWish.desc).map (fun d => d.parameters.length) = some 1 := by decide +kernel
abbrev b_Mo_nextWish : ByteArray := prog_8_method_21_code
def y_Mo_nextWish : MethodName := ⟨R_Mo, "nextWish", "(I)I"⟩
def w_Mo_nextWish : List Cond := .code y_Mo_nextWish b_Mo_nextWish 4 (some .int) :: lw_g
theorem hd_Mo_nextWish : y_Mo_nextWish.cls = R_Mo ∧ y_Mo_nextWish.cls ≠ "java/lang/invoke/MethodHandle" ∧ y_Mo_nextWish.cls ≠ "java/lang/invoke/VarHandle" ∧ (parseMethodDescriptor y_Mo_nextWish.desc).map (fun d => d.parameters.length) = some 1 := by decide +kernel
abbrev b_Mo_grants : ByteArray := prog_8_method_22_code
def y_Mo_grants : MethodName := ⟨R_Mo, "grants", "(I)I"⟩
def w_Mo_grants : List Cond := .code y_Mo_grants b_Mo_grants 5 (some .int) :: lw_g
theorem hd_Mo_grants : y_Mo_grants.cls = R_Mo ∧ y_Mo_grants.cls ≠ "java/lang/invoke/MethodHandle" ∧ y_Mo_grants.cls ≠ "java/lang/invoke/VarHandle" ∧ (parseMethodDescriptor y_Mo_grants.desc).map (fun d => d.parameters.length) = some 1 := by decide +kernel
abbrev b_Mo_ends : ByteArray := prog_8_method_23_code
def y_Mo_ends : MethodName := ⟨R_Mo, "ends", "(II)I"⟩
def w_Mo_ends : List Cond := .code y_Mo_ends b_Mo_ends 5 (some .int) :: lw_g
theorem hd_Mo_ends : y_Mo_ends.cls = R_Mo ∧ y_Mo_ends.cls ≠ "java/lang/invoke/MethodHandle" ∧ y_Mo_ends.cls ≠ "java/lang/invoke/VarHandle" ∧ (parseMethodDescriptor y_Mo_ends.desc).map (fun d => d.parameters.length) = some 2 := by decide +kernel
abbrev b_Mo_grantAll : ByteArray := prog_8_method_24_code
def y_Mo_grantAll : MethodName := ⟨R_Mo, "grantAll", "(II)I"⟩
def w_Mo_grantAll : List Cond := .code y_Mo_grantAll b_Mo_grantAll 5 (some .int) :: lw_g
theorem hd_Mo_grantAll : y_Mo_grantAll.cls = R_Mo ∧ y_Mo_grantAll.cls ≠ "java/lang/invoke/MethodHandle" ∧ y_Mo_grantAll.cls ≠ "java/lang/invoke/VarHandle" ∧ (parseMethodDescriptor y_Mo_grantAll.desc).map (fun d => d.parameters.length) = some 2 := by decide +kernel
abbrev b_Mo_isOf : ByteArray := prog_8_method_25_code
def y_Mo_isOf : MethodName := ⟨R_Mo, "isOf", "(II)Z"⟩
def w_Mo_isOf : List Cond := .code y_Mo_isOf b_Mo_isOf 3 (some .boolean) :: lw_g
theorem hd_Mo_isOf : y_Mo_isOf.cls = R_Mo ∧ y_Mo_isOf.cls ≠ "java/lang/invoke/MethodHandle" ∧ y_Mo_isOf.cls ≠ "java/lang/invoke/VarHandle" ∧ (parseMethodDescriptor y_Mo_isOf.desc).map (fun d => d.parameters.length) = some 2 := by decide +kernel
abbrev b_Mo_cancel : ByteArray := prog_8_method_26_code
def y_Mo_cancel : MethodName := ⟨R_Mo, "cancel", "(II)I"⟩
def w_Mo_cancel : List Cond := .code y_Mo_cancel b_Mo_cancel 3 (some .int) :: lw_g
theorem hd_Mo_cancel : y_Mo_cancel.cls = R_Mo ∧ y_Mo_cancel.cls ≠ "java/lang/invoke/MethodHandle" ∧ y_Mo_cancel.cls ≠ "java/lang/invoke/VarHandle" ∧ (parseMethodDescriptor y_Mo_cancel.desc).map (fun d => d.parameters.length) = some 2 := by decide +kernel
abbrev b_Mo_checkIn : ByteArray := prog_8_method_27_code
def y_Mo_checkIn : MethodName := ⟨R_Mo, "checkIn", "(II)I"⟩
def w_Mo_checkIn : List Cond := .code y_Mo_checkIn b_Mo_checkIn 5 (some .int) :: lw_g
theorem hd_Mo_checkIn : y_Mo_checkIn.cls = R_Mo ∧ y_Mo_checkIn.cls ≠ "java/lang/invoke/MethodHandle" ∧ y_Mo_checkIn.cls ≠ "java/lang/invoke/VarHandle" ∧ (parseMethodDescriptor y_Mo_checkIn.desc).map (fun d => d.parameters.length) = some 2 := by decide +kernel
abbrev b_Mo_isMain : ByteArray := prog_8_method_28_code
def y_Mo_isMain : MethodName := ⟨R_Mo, "isMain", "(I)Z"⟩
def w_Mo_isMain : List Cond := .code y_Mo_isMain b_Mo_isMain 4 (some .boolean) :: lw_g
theorem hd_Mo_isMain : y_Mo_isMain.cls = R_Mo ∧ y_Mo_isMain.cls ≠ "java/lang/invoke/MethodHandle" ∧ y_Mo_isMain.cls ≠ "java/lang/invoke/VarHandle" ∧ (parseMethodDescriptor y_Mo_isMain.desc).map (fun d => d.parameters.length) = some 1 := by decide +kernel
abbrev b_Mo_edit : ByteArray := prog_8_method_29_code
def y_Mo_edit : MethodName := ⟨R_Mo, "edit", "(IIII)I"⟩
def w_Mo_edit : List Cond := .code y_Mo_edit b_Mo_edit 6 (some .int) :: lw_g
theorem hd_Mo_edit : y_Mo_edit.cls = R_Mo ∧ y_Mo_edit.cls ≠ "java/lang/invoke/MethodHandle" ∧ y_Mo_edit.cls ≠ "java/lang/invoke/VarHandle" ∧ (parseMethodDescriptor y_Mo_edit.desc).map (fun d => d.parameters.length) = some 4 := by decide +kernel
abbrev b_Mo_equip : ByteArray := prog_8_method_30_code
def y_Mo_equip : MethodName := ⟨R_Mo, "equip", "(II)I"⟩
def w_Mo_equip : List Cond := .code y_Mo_equip b_Mo_equip 4 (some .int) :: lw_g
theorem hd_Mo_equip : y_Mo_equip.cls = R_Mo ∧ y_Mo_equip.cls ≠ "java/lang/invoke/MethodHandle" ∧ y_Mo_equip.cls ≠ "java/lang/invoke/VarHandle" ∧ (parseMethodDescriptor y_Mo_equip.desc).map (fun d => d.parameters.length) = some 2 := by decide +kernel
abbrev b_Mo_tick : ByteArray := prog_8_method_31_code
def y_Mo_tick : MethodName := ⟨R_Mo, "tick", "(I)I"⟩
def w_Mo_tick : List Cond := .code y_Mo_tick b_Mo_tick 8 (some .int) :: lw_g
theorem hd_Mo_tick : y_Mo_tick.cls = R_Mo ∧ y_Mo_tick.cls ≠ "java/lang/invoke/MethodHandle" ∧ y_Mo_tick.cls ≠ "java/lang/invoke/VarHandle" ∧ (parseMethodDescriptor y_Mo_tick.desc).map (fun d => d.parameters.length) = some 1 := by decide +kernel
abbrev b_Mo_clash : ByteArray := prog_8_method_32_code
def y_Mo_clash : MethodName := ⟨R_Mo, "clash", "(II)Z"⟩
def w_Mo_clash : List Cond := .code y_Mo_clash b_Mo_clash 3 (some .boolean) :: lw_g
theorem hd_Mo_clash : y_Mo_clash.cls = R_Mo ∧ y_Mo_clash.cls ≠ "java/lang/invoke/MethodHandle" ∧ y_Mo_clash.cls ≠ "java/lang/invoke/VarHandle" ∧ (parseMethodDescriptor y_Mo_clash.desc).map (fun d => d.parameters.length) = some 2 := by decide +kernel
abbrev b_Mo_booking : ByteArray := prog_8_method_33_code
def y_Mo_booking : MethodName := ⟨R_Mo, "booking", "(II)I"⟩
def w_Mo_booking : List Cond := .code y_Mo_booking b_Mo_booking 3 (some .int) :: lw_g
theorem hd_Mo_booking : y_Mo_booking.cls = R_Mo ∧ y_Mo_booking.cls ≠ "java/lang/invoke/MethodHandle" ∧ y_Mo_booking.cls ≠ "java/lang/invoke/VarHandle" ∧ (parseMethodDescriptor y_Mo_booking.desc).map (fun d => d.parameters.length) = some 2 := by decide +kernel
abbrev b_Mo_isListed : ByteArray := prog_8_method_34_code
def y_Mo_isListed : MethodName := ⟨R_Mo, "isListed", "(II)Z"⟩
def w_Mo_isListed : List Cond := .code y_Mo_isListed b_Mo_isListed 3 (some .boolean) :: lw_g
theorem hd_Mo_isListed : y_Mo_isListed.cls = R_Mo ∧ y_Mo_isListed.cls ≠ "java/lang/invoke/MethodHandle" ∧ y_Mo_isListed.cls ≠ "java/lang/invoke/VarHandle" ∧ (parseMethodDescriptor y_Mo_isListed.desc).map (fun d => d.parameters.length) = some 2 := by decide +kernel
abbrev b_Mo_list : ByteArray := prog_8_method_35_code
def y_Mo_list : MethodName := ⟨R_Mo, "list", "(II)I"⟩
def w_Mo_list : List Cond := .code y_Mo_list b_Mo_list 8 (some .int) :: lw_g
theorem hd_Mo_list : y_Mo_list.cls = R_Mo ∧ y_Mo_list.cls ≠ "java/lang/invoke/MethodHandle" ∧ y_Mo_list.cls ≠ "java/lang/invoke/VarHandle" ∧ (parseMethodDescriptor y_Mo_list.desc).map (fun d => d.parameters.length) = some 2 := by decide +kernel
abbrev b_Mo_person : ByteArray := prog_8_method_36_code
def y_Mo_person : MethodName := ⟨R_Mo, "person", "(II)I"⟩
def w_Mo_person : List Cond := .code y_Mo_person b_Mo_person 5 (some .int) :: lw_g
theorem hd_Mo_person : y_Mo_person.cls = R_Mo ∧ y_Mo_person.cls ≠ "java/lang/invoke/MethodHandle" ∧ y_Mo_person.cls ≠ "java/lang/invoke/VarHandle" ∧ (parseMethodDescriptor y_Mo_person.desc).map (fun d => d.parameters.length) = some 2 := by decide +kernel
abbrev b_Mo_used : ByteArray := prog_8_method_37_code
def y_Mo_used : MethodName := ⟨R_Mo, "used", "(I)I"⟩
def w_Mo_used : List Cond := .code y_Mo_used b_Mo_used 4 (some .int) :: lw_g
theorem hd_Mo_used : y_Mo_used.cls = R_Mo ∧ y_Mo_used.cls ≠ "java/lang/invoke/MethodHandle" ∧ y_Mo_used.cls ≠ "java/lang/invoke/VarHandle" ∧ (parseMethodDescriptor y_Mo_used.desc).map (fun d => d.parameters.length) = some 1 := by decide +kernel
theorem g_all : ∀ w ∈ lw_g, (w.onTables && w.keeps) = true ∨ ∃ ty, w = .arrayClass ty := fun w h => good_of_word (List.mem_filter.mp h).2
theorem gI {c1 : Cond} (h5 : c1 ∈ lw_g) : GoodIn lw_g (c1 :: lw_g) := fun w h => by
  rcases List.mem_cons.mp h with rfl | h
  · exact ⟨h5, g_all _ h5⟩
  · exact ⟨h, g_all _ h⟩
theorem gV {own C : String} {idx : Nat} {y : MethodName} {c1 : Cond} (h1 : Cond.methodLink own idx y ∈ lw_g) (h2 : Cond.instanceMethod y ∈ lw_g) (h3 : Cond.selects C y y ∈ lw_g) (h4 : Cond.initialized C ∈ lw_g) (h5 : c1 ∈ lw_g) : GoodIn lw_g (wsV own idx C y (c1 :: lw_g)) := fun w h => by
  rcases List.mem_append.mp h with h | h
  · simp only [List.mem_cons, List.not_mem_nil, or_false] at h
    rcases h with rfl | rfl | rfl | rfl
    · exact ⟨h1, g_all _ h1⟩
    · exact ⟨h2, g_all _ h2⟩
    · exact ⟨h3, g_all _ h3⟩
    · exact ⟨h4, g_all _ h4⟩
  · exact gI h5 w h
theorem gS {own : String} {idx : Nat} {y : MethodName} {c1 : Cond} (h1 : Cond.methodLink own idx y ∈ lw_g) (h2 : Cond.static y ∈ lw_g) (h3 : Cond.initialized own ∈ lw_g) (h5 : c1 ∈ lw_g) : GoodIn lw_g (wsS own idx y (c1 :: lw_g)) := fun w h => by
  rcases List.mem_append.mp h with h | h
  · simp only [List.mem_cons, List.not_mem_nil, or_false] at h
    rcases h with rfl | rfl | rfl
    · exact ⟨h1, g_all _ h1⟩
    · exact ⟨h2, g_all _ h2⟩
    · exact ⟨h3, g_all _ h3⟩
  · exact gI h5 w h
theorem mw_obj : Cond.code objectInit ⟨#[0xb1]⟩ 1 none ∈ lw_g := List.mem_filter.mpr ⟨List.mem_of_getElem? (i := 41) rfl, rfl⟩
