section
-- ===== PART A: goes FIRST, ahead of the names: the tables' words, and 'selects' of the private methods out of them =====
/-- a private method of a class that the tables say can be made, by its rows of tables_1 -/
def lw_okq (q : MethodName × Nat) : Prop := (q.1.cls ≠ "java/lang/invoke/MethodHandle" ∧ q.1.cls ≠ "java/lang/invoke/VarHandle") ∧ Cond.instantiable q.1.cls q.2 ∈ tables_1 ∧ Cond.privateMethod q.1 ∈ tables_1 ∧ Cond.instanceMethod q.1 ∈ tables_1
theorem lw_p0 : lw_okq (⟨"BookingRows", "tryBooking", "(IIII)I"⟩, 6) := ⟨⟨by decide +kernel, by decide +kernel⟩, List.mem_of_getElem? (i := 9) (by decide +kernel), List.mem_of_getElem? (i := 208) (by decide +kernel), List.mem_of_getElem? (i := 209) (by decide +kernel)⟩
theorem lw_p1 : lw_okq (⟨"BookingRows", "refusalOf", "(IIIII)I"⟩, 6) := ⟨⟨by decide +kernel, by decide +kernel⟩, List.mem_of_getElem? (i := 9) (by decide +kernel), List.mem_of_getElem? (i := 216) (by decide +kernel), List.mem_of_getElem? (i := 217) (by decide +kernel)⟩
theorem lw_p2 : lw_okq (⟨"BookingRows", "release", "(II)I"⟩, 6) := ⟨⟨by decide +kernel, by decide +kernel⟩, List.mem_of_getElem? (i := 9) (by decide +kernel), List.mem_of_getElem? (i := 298) (by decide +kernel), List.mem_of_getElem? (i := 299) (by decide +kernel)⟩
theorem lw_p3 : lw_okq (⟨"BookingRows$Bookings", "turnOne", "(II)V"⟩, 9) := ⟨⟨by decide +kernel, by decide +kernel⟩, List.mem_of_getElem? (i := 63) (by decide +kernel), List.mem_of_getElem? (i := 306) (by decide +kernel), List.mem_of_getElem? (i := 307) (by decide +kernel)⟩
theorem lw_p4 : lw_okq (⟨"BookingRows", "serveWishes", "(I)I"⟩, 6) := ⟨⟨by decide +kernel, by decide +kernel⟩, List.mem_of_getElem? (i := 9) (by decide +kernel), List.mem_of_getElem? (i := 318) (by decide +kernel), List.mem_of_getElem? (i := 319) (by decide +kernel)⟩
theorem lw_p5 : lw_okq (⟨"BookingRows$Wishes", "move", "(II)V"⟩, 6) := ⟨⟨by decide +kernel, by decide +kernel⟩, List.mem_of_getElem? (i := 97) (by decide +kernel), List.mem_of_getElem? (i := 346) (by decide +kernel), List.mem_of_getElem? (i := 347) (by decide +kernel)⟩
theorem lw_p6 : lw_okq (⟨"BookingRows", "lastCheckIn", "(I)I"⟩, 6) := ⟨⟨by decide +kernel, by decide +kernel⟩, List.mem_of_getElem? (i := 9) (by decide +kernel), List.mem_of_getElem? (i := 354) (by decide +kernel), List.mem_of_getElem? (i := 355) (by decide +kernel)⟩
theorem lw_p7 : lw_okq (⟨"BookingRows", "isMissed", "(I)Z"⟩, 6) := ⟨⟨by decide +kernel, by decide +kernel⟩, List.mem_of_getElem? (i := 9) (by decide +kernel), List.mem_of_getElem? (i := 410) (by decide +kernel), List.mem_of_getElem? (i := 411) (by decide +kernel)⟩
theorem lw_p8 : lw_okq (⟨"BookingRows$Bookings", "livingBefore", "(I)I"⟩, 9) := ⟨⟨by decide +kernel, by decide +kernel⟩, List.mem_of_getElem? (i := 63) (by decide +kernel), List.mem_of_getElem? (i := 443) (by decide +kernel), List.mem_of_getElem? (i := 444) (by decide +kernel)⟩
theorem lw_p9 : lw_okq (⟨"BookingRowsModel", "isHoliday", "(I)Z"⟩, 15) := ⟨⟨by decide +kernel, by decide +kernel⟩, List.mem_of_getElem? (i := 467) (by decide +kernel), List.mem_of_getElem? (i := 532) (by decide +kernel), List.mem_of_getElem? (i := 533) (by decide +kernel)⟩
theorem lw_p10 : lw_okq (⟨"BookingRowsModel", "isThing", "(I)Z"⟩, 15) := ⟨⟨by decide +kernel, by decide +kernel⟩, List.mem_of_getElem? (i := 467) (by decide +kernel), List.mem_of_getElem? (i := 543) (by decide +kernel), List.mem_of_getElem? (i := 544) (by decide +kernel)⟩
theorem lw_p11 : lw_okq (⟨"BookingRowsModel", "against", "(IIIII)I"⟩, 15) := ⟨⟨by decide +kernel, by decide +kernel⟩, List.mem_of_getElem? (i := 467) (by decide +kernel), List.mem_of_getElem? (i := 547) (by decide +kernel), List.mem_of_getElem? (i := 548) (by decide +kernel)⟩
theorem lw_p12 : lw_okq (⟨"BookingRowsModel", "living", "(I)I"⟩, 15) := ⟨⟨by decide +kernel, by decide +kernel⟩, List.mem_of_getElem? (i := 467) (by decide +kernel), List.mem_of_getElem? (i := 555) (by decide +kernel), List.mem_of_getElem? (i := 556) (by decide +kernel)⟩
theorem lw_p13 : lw_okq (⟨"BookingRowsModel", "lives", "(I)Z"⟩, 15) := ⟨⟨by decide +kernel, by decide +kernel⟩, List.mem_of_getElem? (i := 467) (by decide +kernel), List.mem_of_getElem? (i := 559) (by decide +kernel), List.mem_of_getElem? (i := 560) (by decide +kernel)⟩
theorem lw_p14 : lw_okq (⟨"BookingRowsModel", "clashes", "(IIII)Z"⟩, 15) := ⟨⟨by decide +kernel, by decide +kernel⟩, List.mem_of_getElem? (i := 467) (by decide +kernel), List.mem_of_getElem? (i := 563) (by decide +kernel), List.mem_of_getElem? (i := 564) (by decide +kernel)⟩
theorem lw_p15 : lw_okq (⟨"BookingRowsModel", "meets", "(IIII)Z"⟩, 15) := ⟨⟨by decide +kernel, by decide +kernel⟩, List.mem_of_getElem? (i := 467) (by decide +kernel), List.mem_of_getElem? (i := 567) (by decide +kernel), List.mem_of_getElem? (i := 568) (by decide +kernel)⟩
def lw_privs_1 : List (MethodName × Nat) := [(⟨"BookingRows", "tryBooking", "(IIII)I"⟩, 6), (⟨"BookingRows", "refusalOf", "(IIIII)I"⟩, 6), (⟨"BookingRows", "release", "(II)I"⟩, 6), (⟨"BookingRows$Bookings", "turnOne", "(II)V"⟩, 9), (⟨"BookingRows", "serveWishes", "(I)I"⟩, 6), (⟨"BookingRows$Wishes", "move", "(II)V"⟩, 6), (⟨"BookingRows", "lastCheckIn", "(I)I"⟩, 6), (⟨"BookingRows", "isMissed", "(I)Z"⟩, 6), (⟨"BookingRows$Bookings", "livingBefore", "(I)I"⟩, 9), (⟨"BookingRowsModel", "isHoliday", "(I)Z"⟩, 15), (⟨"BookingRowsModel", "isThing", "(I)Z"⟩, 15), (⟨"BookingRowsModel", "against", "(IIIII)I"⟩, 15), (⟨"BookingRowsModel", "living", "(I)I"⟩, 15), (⟨"BookingRowsModel", "lives", "(I)Z"⟩, 15), (⟨"BookingRowsModel", "clashes", "(IIII)Z"⟩, 15), (⟨"BookingRowsModel", "meets", "(IIII)Z"⟩, 15)]
theorem lw_r1 : ∀ q ∈ lw_privs_1, lw_okq q := List.forall_mem_cons.mpr ⟨lw_p0, List.forall_mem_cons.mpr ⟨lw_p1, List.forall_mem_cons.mpr ⟨lw_p2, List.forall_mem_cons.mpr ⟨lw_p3, List.forall_mem_cons.mpr ⟨lw_p4, List.forall_mem_cons.mpr ⟨lw_p5, List.forall_mem_cons.mpr ⟨lw_p6, List.forall_mem_cons.mpr ⟨lw_p7, List.forall_mem_cons.mpr ⟨lw_p8, List.forall_mem_cons.mpr ⟨lw_p9, List.forall_mem_cons.mpr ⟨lw_p10, List.forall_mem_cons.mpr ⟨lw_p11, List.forall_mem_cons.mpr ⟨lw_p12, List.forall_mem_cons.mpr ⟨lw_p13, List.forall_mem_cons.mpr ⟨lw_p14, List.forall_mem_cons.mpr ⟨lw_p15, fun _ h => absurd h List.not_mem_nil⟩⟩⟩⟩⟩⟩⟩⟩⟩⟩⟩⟩⟩⟩⟩⟩
theorem lw_p16 : lw_okq (⟨"BookingRowsModel", "add", "(IIIII)I"⟩, 15) := ⟨⟨by decide +kernel, by decide +kernel⟩, List.mem_of_getElem? (i := 467) (by decide +kernel), List.mem_of_getElem? (i := 571) (by decide +kernel), List.mem_of_getElem? (i := 572) (by decide +kernel)⟩
theorem lw_p17 : lw_okq (⟨"BookingRowsModel", "isBooking", "(I)Z"⟩, 15) := ⟨⟨by decide +kernel, by decide +kernel⟩, List.mem_of_getElem? (i := 467) (by decide +kernel), List.mem_of_getElem? (i := 579) (by decide +kernel), List.mem_of_getElem? (i := 580) (by decide +kernel)⟩
theorem lw_p18 : lw_okq (⟨"BookingRowsModel", "isOf", "(II)Z"⟩, 15) := ⟨⟨by decide +kernel, by decide +kernel⟩, List.mem_of_getElem? (i := 467) (by decide +kernel), List.mem_of_getElem? (i := 591) (by decide +kernel), List.mem_of_getElem? (i := 592) (by decide +kernel)⟩
theorem lw_p19 : lw_okq (⟨"BookingRowsModel", "ends", "(II)I"⟩, 15) := ⟨⟨by decide +kernel, by decide +kernel⟩, List.mem_of_getElem? (i := 467) (by decide +kernel), List.mem_of_getElem? (i := 595) (by decide +kernel), List.mem_of_getElem? (i := 596) (by decide +kernel)⟩
theorem lw_p20 : lw_okq (⟨"BookingRowsModel", "grantAll", "(II)I"⟩, 15) := ⟨⟨by decide +kernel, by decide +kernel⟩, List.mem_of_getElem? (i := 467) (by decide +kernel), List.mem_of_getElem? (i := 599) (by decide +kernel), List.mem_of_getElem? (i := 600) (by decide +kernel)⟩
theorem lw_p21 : lw_okq (⟨"BookingRowsModel", "grants", "(I)I"⟩, 15) := ⟨⟨by decide +kernel, by decide +kernel⟩, List.mem_of_getElem? (i := 467) (by decide +kernel), List.mem_of_getElem? (i := 603) (by decide +kernel), List.mem_of_getElem? (i := 604) (by decide +kernel)⟩
theorem lw_p22 : lw_okq (⟨"BookingRowsModel", "nextWish", "(I)I"⟩, 15) := ⟨⟨by decide +kernel, by decide +kernel⟩, List.mem_of_getElem? (i := 467) (by decide +kernel), List.mem_of_getElem? (i := 607) (by decide +kernel), List.mem_of_getElem? (i := 608) (by decide +kernel)⟩
theorem lw_p23 : lw_okq (⟨"BookingRowsModel", "dropWish", "(I)V"⟩, 15) := ⟨⟨by decide +kernel, by decide +kernel⟩, List.mem_of_getElem? (i := 467) (by decide +kernel), List.mem_of_getElem? (i := 611) (by decide +kernel), List.mem_of_getElem? (i := 612) (by decide +kernel)⟩
theorem lw_p24 : lw_okq (⟨"BookingRowsModel", "isMain", "(I)Z"⟩, 15) := ⟨⟨by decide +kernel, by decide +kernel⟩, List.mem_of_getElem? (i := 467) (by decide +kernel), List.mem_of_getElem? (i := 623) (by decide +kernel), List.mem_of_getElem? (i := 624) (by decide +kernel)⟩
theorem lw_p25 : lw_okq (⟨"BookingRowsModel", "isListed", "(II)Z"⟩, 15) := ⟨⟨by decide +kernel, by decide +kernel⟩, List.mem_of_getElem? (i := 467) (by decide +kernel), List.mem_of_getElem? (i := 647) (by decide +kernel), List.mem_of_getElem? (i := 648) (by decide +kernel)⟩
def lw_privs_2 : List (MethodName × Nat) := [(⟨"BookingRowsModel", "add", "(IIIII)I"⟩, 15), (⟨"BookingRowsModel", "isBooking", "(I)Z"⟩, 15), (⟨"BookingRowsModel", "isOf", "(II)Z"⟩, 15), (⟨"BookingRowsModel", "ends", "(II)I"⟩, 15), (⟨"BookingRowsModel", "grantAll", "(II)I"⟩, 15), (⟨"BookingRowsModel", "grants", "(I)I"⟩, 15), (⟨"BookingRowsModel", "nextWish", "(I)I"⟩, 15), (⟨"BookingRowsModel", "dropWish", "(I)V"⟩, 15), (⟨"BookingRowsModel", "isMain", "(I)Z"⟩, 15), (⟨"BookingRowsModel", "isListed", "(II)Z"⟩, 15)]
theorem lw_r2 : ∀ q ∈ lw_privs_2, lw_okq q := List.forall_mem_cons.mpr ⟨lw_p16, List.forall_mem_cons.mpr ⟨lw_p17, List.forall_mem_cons.mpr ⟨lw_p18, List.forall_mem_cons.mpr ⟨lw_p19, List.forall_mem_cons.mpr ⟨lw_p20, List.forall_mem_cons.mpr ⟨lw_p21, List.forall_mem_cons.mpr ⟨lw_p22, List.forall_mem_cons.mpr ⟨lw_p23, List.forall_mem_cons.mpr ⟨lw_p24, List.forall_mem_cons.mpr ⟨lw_p25, fun _ h => absurd h List.not_mem_nil⟩⟩⟩⟩⟩⟩⟩⟩⟩⟩
def lw_privs : List (MethodName × Nat) := lw_privs_1 ++ (lw_privs_2)
def lw_tbl : List Cond := k2_sels lw_privs ++ tables_1
theorem lw_privs_ok : ∀ q ∈ lw_privs, lw_okq q := by
  show ∀ q ∈ lw_privs_1 ++ (lw_privs_2), lw_okq q
  exact List.forall_mem_append.mpr ⟨lw_r1, lw_r2⟩

/-- the words of the tables that stay true at every call -/
def lw_g : List Cond := lw_tbl.filter goodWord
def R_Bk : String := "BookingRows$Bookings"
def F_Bk : u_T := fun k => match k with
  | 0 => ("BookingRows$Bookings", "persons", "[I", true)
  | 1 => ("BookingRows$Bookings", "things", "[I", true)
  | 2 => ("BookingRows$Bookings", "froms", "[I", true)
  | 3 => ("BookingRows$Bookings", "tos", "[I", true)
  | 4 => ("BookingRows$Bookings", "states", "[I", true)
  | 5 => ("BookingRows$Bookings", "hosts", "[I", true)
  | 6 => ("BookingRows$Bookings", "count", "I", false)
  | 7 => ("BookingRows$Bookings", "turnedThings", "[I", true)
  | _ => ("BookingRows$Bookings", "turnedCount", "I", false)
def t_Bk : Nat → FieldType := fun k => match k with
  | 0 => .array .int
  | 1 => .array .int
  | 2 => .array .int
  | 3 => .array .int
  | 4 => .array .int
  | 5 => .array .int
  | 6 => .int
  | 7 => .array .int
  | _ => .int
theorem n_Bk : ∀ a, a < 9 → ∀ b, b < 9 → a ≠ b → (F_Bk a).2.1 ≠ (F_Bk b).2.1 := by decide +kernel
theorem t_Bk_ok : ∀ k, k < 9 → parseFieldDescriptor (F_Bk k).2.2.1 = some (t_Bk k) := by decide +kernel
theorem i_uBk : ∀ w ∈ u_ws R_Bk F_Bk 9, w ∈ lw_g := by decide +kernel
def R_Ca : String := "BookingRows$Calendar"
def F_Ca : u_T := fun k => match k with
  | 0 => ("BookingRows$Calendar", "opens", "[I", true)
  | 1 => ("BookingRows$Calendar", "closes", "[I", true)
  | 2 => ("BookingRows$Calendar", "holidays", "[Z", true)
  | _ => ("BookingRows$Calendar", "holidayCount", "I", false)
def t_Ca : Nat → FieldType := fun k => match k with
  | 0 => .array .int
  | 1 => .array .int
  | 2 => .array .boolean
  | _ => .int
theorem n_Ca : ∀ a, a < 4 → ∀ b, b < 4 → a ≠ b → (F_Ca a).2.1 ≠ (F_Ca b).2.1 := by decide +kernel
theorem t_Ca_ok : ∀ k, k < 4 → parseFieldDescriptor (F_Ca k).2.2.1 = some (t_Ca k) := by decide +kernel
theorem i_uCa : ∀ w ∈ u_ws R_Ca F_Ca 4, w ∈ lw_g := by decide +kernel
def R_Pe : String := "BookingRows$Penalties"
def F_Pe : u_T := fun k => match k with
  | 0 => ("BookingRows$Penalties", "noShows", "[I", true)
  | _ => ("BookingRows$Penalties", "barredUntil", "[I", true)
def t_Pe : Nat → FieldType := fun k => match k with
  | 0 => .array .int
  | _ => .array .int
theorem n_Pe : ∀ a, a < 2 → ∀ b, b < 2 → a ≠ b → (F_Pe a).2.1 ≠ (F_Pe b).2.1 := by decide +kernel
theorem t_Pe_ok : ∀ k, k < 2 → parseFieldDescriptor (F_Pe k).2.2.1 = some (t_Pe k) := by decide +kernel
theorem i_uPe : ∀ w ∈ u_ws R_Pe F_Pe 2, w ∈ lw_g := by decide +kernel
def R_Th : String := "BookingRows$Things"
def F_Th : u_T := fun k => match k with
  | 0 => ("BookingRows$Things", "places", "[I", true)
  | 1 => ("BookingRows$Things", "leasts", "[I", true)
  | 2 => ("BookingRows$Things", "mosts", "[I", true)
  | 3 => ("BookingRows$Things", "aheads", "[I", true)
  | 4 => ("BookingRows$Things", "graces", "[I", true)
  | _ => ("BookingRows$Things", "count", "I", false)
def t_Th : Nat → FieldType := fun k => match k with
  | 0 => .array .int
  | 1 => .array .int
  | 2 => .array .int
  | 3 => .array .int
  | 4 => .array .int
  | _ => .int
theorem n_Th : ∀ a, a < 6 → ∀ b, b < 6 → a ≠ b → (F_Th a).2.1 ≠ (F_Th b).2.1 := by decide +kernel
theorem t_Th_ok : ∀ k, k < 6 → parseFieldDescriptor (F_Th k).2.2.1 = some (t_Th k) := by decide +kernel
theorem i_uTh : ∀ w ∈ u_ws R_Th F_Th 6, w ∈ lw_g := by decide +kernel
def R_Wi : String := "BookingRows$Wishes"
def F_Wi : u_T := fun k => match k with
  | 0 => ("BookingRows$Wishes", "persons", "[I", true)
  | 1 => ("BookingRows$Wishes", "things", "[I", true)
  | 2 => ("BookingRows$Wishes", "froms", "[I", true)
  | 3 => ("BookingRows$Wishes", "tos", "[I", true)
  | 4 => ("BookingRows$Wishes", "ranks", "[I", true)
  | _ => ("BookingRows$Wishes", "count", "I", false)
def t_Wi : Nat → FieldType := fun k => match k with
  | 0 => .array .int
  | 1 => .array .int
  | 2 => .array .int
  | 3 => .array .int
  | 4 => .array .int
  | _ => .int
theorem n_Wi : ∀ a, a < 6 → ∀ b, b < 6 → a ≠ b → (F_Wi a).2.1 ≠ (F_Wi b).2.1 := by decide +kernel
theorem t_Wi_ok : ∀ k, k < 6 → parseFieldDescriptor (F_Wi k).2.2.1 = some (t_Wi k) := by decide +kernel
theorem i_uWi : ∀ w ∈ u_ws R_Wi F_Wi 6, w ∈ lw_g := by decide +kernel
def R_Br : String := "BookingRows"
def F_Br : u_T := fun k => match k with
  | 0 => ("BookingRows", "calendar", "LBookingRows$Calendar;", true)
  | 1 => ("BookingRows", "things", "LBookingRows$Things;", true)
  | 2 => ("BookingRows", "bookings", "LBookingRows$Bookings;", true)
  | 3 => ("BookingRows", "wishes", "LBookingRows$Wishes;", true)
  | 4 => ("BookingRows", "penalties", "LBookingRows$Penalties;", true)
  | _ => ("BookingRows", "now", "I", false)
def t_Br : Nat → FieldType := fun k => match k with
  | 0 => .object "BookingRows$Calendar"
  | 1 => .object "BookingRows$Things"
  | 2 => .object "BookingRows$Bookings"
  | 3 => .object "BookingRows$Wishes"
  | 4 => .object "BookingRows$Penalties"
  | _ => .int
theorem n_Br : ∀ a, a < 6 → ∀ b, b < 6 → a ≠ b → (F_Br a).2.1 ≠ (F_Br b).2.1 := by decide +kernel
theorem t_Br_ok : ∀ k, k < 6 → parseFieldDescriptor (F_Br k).2.2.1 = some (t_Br k) := by decide +kernel
theorem i_uBr : ∀ w ∈ u_ws R_Br F_Br 6, w ∈ lw_g := by decide +kernel
def R_Mo : String := "BookingRowsModel"
def F_Mo : u_T := fun k => match k with
  | 0 => ("BookingRowsModel", "thrown", "I", false)
  | 1 => ("BookingRowsModel", "now", "I", false)
  | 2 => ("BookingRowsModel", "hours", "[I", true)
  | 3 => ("BookingRowsModel", "holidays", "[I", true)
  | 4 => ("BookingRowsModel", "holidayCount", "I", false)
  | 5 => ("BookingRowsModel", "things", "[I", true)
  | 6 => ("BookingRowsModel", "thingCount", "I", false)
  | 7 => ("BookingRowsModel", "bookings", "[I", true)
  | 8 => ("BookingRowsModel", "count", "I", false)
  | 9 => ("BookingRowsModel", "wishes", "[I", true)
  | 10 => ("BookingRowsModel", "wishCount", "I", false)
  | 11 => ("BookingRowsModel", "noShows", "[I", true)
  | 12 => ("BookingRowsModel", "barredUntil", "[I", true)
  | 13 => ("BookingRowsModel", "freed", "[I", true)
  | _ => ("BookingRowsModel", "looked", "[Z", true)
def t_Mo : Nat → FieldType := fun k => match k with
  | 0 => .int
  | 1 => .int
  | 2 => .array .int
  | 3 => .array .int
  | 4 => .int
  | 5 => .array .int
  | 6 => .int
  | 7 => .array .int
  | 8 => .int
  | 9 => .array .int
  | 10 => .int
  | 11 => .array .int
  | 12 => .array .int
  | 13 => .array .int
  | _ => .array .boolean
theorem n_Mo : ∀ a, a < 15 → ∀ b, b < 15 → a ≠ b → (F_Mo a).2.1 ≠ (F_Mo b).2.1 := by decide +kernel
theorem t_Mo_ok : ∀ k, k < 15 → parseFieldDescriptor (F_Mo k).2.2.1 = some (t_Mo k) := by decide +kernel
theorem i_uMo : ∀ w ∈ u_ws R_Mo F_Mo 15, w ∈ lw_g := by decide +kernel
abbrev cls : List vw_C := [(R_Bk, F_Bk, 9), (R_Ca, F_Ca, 4), (R_Pe, F_Pe, 2), (R_Th, F_Th, 6), (R_Wi, F_Wi, 6), (R_Br, F_Br, 6), (R_Mo, F_Mo, 15)]
abbrev b_Bk_init : ByteArray := prog_2_method_1_code
def y_Bk_init : MethodName := ⟨R_Bk, "<init>", "()V"⟩
def w_Bk_init : List Cond := .code y_Bk_init b_Bk_init 1 none :: lw_g
theorem hi_Bk_init : y_Bk_init.cls ≠ "java/lang/invoke/MethodHandle" ∧ y_Bk_init.cls ≠ "java/lang/invoke/VarHandle" ∧ (parseMethodDescriptor y_Bk_init.desc).map (fun d => d.parameters.length) = some 0 := by decide +kernel
abbrev b_Bk_size : ByteArray := prog_2_method_2_code
def y_Bk_size : MethodName := ⟨R_Bk, "size", "()I"⟩
def w_Bk_size : List Cond := .code y_Bk_size b_Bk_size 1 (some .int) :: lw_g
theorem hd_Bk_size : y_Bk_size.cls = R_Bk ∧ y_Bk_size.cls ≠ "java/lang/invoke/MethodHandle" ∧ y_Bk_size.cls ≠ "java/lang/invoke/VarHandle" ∧ (parseMethodDescriptor y_Bk_size.desc).map (fun d => d.parameters.length) = some 0 := by decide +kernel
abbrev b_Bk_has : ByteArray := prog_2_method_3_code
def y_Bk_has : MethodName := ⟨R_Bk, "has", "(I)Z"⟩
def w_Bk_has : List Cond := .code y_Bk_has b_Bk_has 2 (some .boolean) :: lw_g
theorem hd_Bk_has : y_Bk_has.cls = R_Bk ∧ y_Bk_has.cls ≠ "java/lang/invoke/MethodHandle" ∧ y_Bk_has.cls ≠ "java/lang/invoke/VarHandle" ∧ (parseMethodDescriptor y_Bk_has.desc).map (fun d => d.parameters.length) = some 1 := by decide +kernel
abbrev b_Bk_isFull : ByteArray := prog_2_method_4_code
def y_Bk_isFull : MethodName := ⟨R_Bk, "isFull", "()Z"⟩
def w_Bk_isFull : List Cond := .code y_Bk_isFull b_Bk_isFull 1 (some .boolean) :: lw_g
theorem hd_Bk_isFull : y_Bk_isFull.cls = R_Bk ∧ y_Bk_isFull.cls ≠ "java/lang/invoke/MethodHandle" ∧ y_Bk_isFull.cls ≠ "java/lang/invoke/VarHandle" ∧ (parseMethodDescriptor y_Bk_isFull.desc).map (fun d => d.parameters.length) = some 0 := by decide +kernel
abbrev b_Bk_add : ByteArray := prog_2_method_5_code
def y_Bk_add : MethodName := ⟨R_Bk, "add", "(IIIII)I"⟩
def w_Bk_add : List Cond := .code y_Bk_add b_Bk_add 6 (some .int) :: lw_g
theorem hd_Bk_add : y_Bk_add.cls = R_Bk ∧ y_Bk_add.cls ≠ "java/lang/invoke/MethodHandle" ∧ y_Bk_add.cls ≠ "java/lang/invoke/VarHandle" ∧ (parseMethodDescriptor y_Bk_add.desc).map (fun d => d.parameters.length) = some 5 := by decide +kernel
abbrev b_Bk_personOf : ByteArray := prog_2_method_6_code
def y_Bk_personOf : MethodName := ⟨R_Bk, "personOf", "(I)I"⟩
def w_Bk_personOf : List Cond := .code y_Bk_personOf b_Bk_personOf 2 (some .int) :: lw_g
theorem hd_Bk_personOf : y_Bk_personOf.cls = R_Bk ∧ y_Bk_personOf.cls ≠ "java/lang/invoke/MethodHandle" ∧ y_Bk_personOf.cls ≠ "java/lang/invoke/VarHandle" ∧ (parseMethodDescriptor y_Bk_personOf.desc).map (fun d => d.parameters.length) = some 1 := by decide +kernel
abbrev b_Bk_thingOf : ByteArray := prog_2_method_7_code
def y_Bk_thingOf : MethodName := ⟨R_Bk, "thingOf", "(I)I"⟩
def w_Bk_thingOf : List Cond := .code y_Bk_thingOf b_Bk_thingOf 2 (some .int) :: lw_g
theorem hd_Bk_thingOf : y_Bk_thingOf.cls = R_Bk ∧ y_Bk_thingOf.cls ≠ "java/lang/invoke/MethodHandle" ∧ y_Bk_thingOf.cls ≠ "java/lang/invoke/VarHandle" ∧ (parseMethodDescriptor y_Bk_thingOf.desc).map (fun d => d.parameters.length) = some 1 := by decide +kernel
abbrev b_Bk_fromOf : ByteArray := prog_2_method_8_code
def y_Bk_fromOf : MethodName := ⟨R_Bk, "fromOf", "(I)I"⟩
def w_Bk_fromOf : List Cond := .code y_Bk_fromOf b_Bk_fromOf 2 (some .int) :: lw_g
theorem hd_Bk_fromOf : y_Bk_fromOf.cls = R_Bk ∧ y_Bk_fromOf.cls ≠ "java/lang/invoke/MethodHandle" ∧ y_Bk_fromOf.cls ≠ "java/lang/invoke/VarHandle" ∧ (parseMethodDescriptor y_Bk_fromOf.desc).map (fun d => d.parameters.length) = some 1 := by decide +kernel
abbrev b_Bk_toOf : ByteArray := prog_2_method_9_code
def y_Bk_toOf : MethodName := ⟨R_Bk, "toOf", "(I)I"⟩
def w_Bk_toOf : List Cond := .code y_Bk_toOf b_Bk_toOf 2 (some .int) :: lw_g
theorem hd_Bk_toOf : y_Bk_toOf.cls = R_Bk ∧ y_Bk_toOf.cls ≠ "java/lang/invoke/MethodHandle" ∧ y_Bk_toOf.cls ≠ "java/lang/invoke/VarHandle" ∧ (parseMethodDescriptor y_Bk_toOf.desc).map (fun d => d.parameters.length) = some 1 := by decide +kernel
abbrev b_Bk_stateOf : ByteArray := prog_2_method_10_code
def y_Bk_stateOf : MethodName := ⟨R_Bk, "stateOf", "(I)I"⟩
def w_Bk_stateOf : List Cond := .code y_Bk_stateOf b_Bk_stateOf 2 (some .int) :: lw_g
theorem hd_Bk_stateOf : y_Bk_stateOf.cls = R_Bk ∧ y_Bk_stateOf.cls ≠ "java/lang/invoke/MethodHandle" ∧ y_Bk_stateOf.cls ≠ "java/lang/invoke/VarHandle" ∧ (parseMethodDescriptor y_Bk_stateOf.desc).map (fun d => d.parameters.length) = some 1 := by decide +kernel
abbrev b_Bk_hostOf : ByteArray := prog_2_method_11_code
def y_Bk_hostOf : MethodName := ⟨R_Bk, "hostOf", "(I)I"⟩
def w_Bk_hostOf : List Cond := .code y_Bk_hostOf b_Bk_hostOf 2 (some .int) :: lw_g
theorem hd_Bk_hostOf : y_Bk_hostOf.cls = R_Bk ∧ y_Bk_hostOf.cls ≠ "java/lang/invoke/MethodHandle" ∧ y_Bk_hostOf.cls ≠ "java/lang/invoke/VarHandle" ∧ (parseMethodDescriptor y_Bk_hostOf.desc).map (fun d => d.parameters.length) = some 1 := by decide +kernel
abbrev b_Bk_setTimes : ByteArray := prog_2_method_12_code
def y_Bk_setTimes : MethodName := ⟨R_Bk, "setTimes", "(III)V"⟩
def w_Bk_setTimes : List Cond := .code y_Bk_setTimes b_Bk_setTimes 4 none :: lw_g
theorem hd_Bk_setTimes : y_Bk_setTimes.cls = R_Bk ∧ y_Bk_setTimes.cls ≠ "java/lang/invoke/MethodHandle" ∧ y_Bk_setTimes.cls ≠ "java/lang/invoke/VarHandle" ∧ (parseMethodDescriptor y_Bk_setTimes.desc).map (fun d => d.parameters.length) = some 3 := by decide +kernel
abbrev b_Bk_isBooked : ByteArray := prog_2_method_13_code
def y_Bk_isBooked : MethodName := ⟨R_Bk, "isBooked", "(I)Z"⟩
def w_Bk_isBooked : List Cond := .code y_Bk_isBooked b_Bk_isBooked 2 (some .boolean) :: lw_g
theorem hd_Bk_isBooked : y_Bk_isBooked.cls = R_Bk ∧ y_Bk_isBooked.cls ≠ "java/lang/invoke/MethodHandle" ∧ y_Bk_isBooked.cls ≠ "java/lang/invoke/VarHandle" ∧ (parseMethodDescriptor y_Bk_isBooked.desc).map (fun d => d.parameters.length) = some 1 := by decide +kernel
abbrev b_Bk_isBookedBy : ByteArray := prog_2_method_14_code
def y_Bk_isBookedBy : MethodName := ⟨R_Bk, "isBookedBy", "(II)Z"⟩
def w_Bk_isBookedBy : List Cond := .code y_Bk_isBookedBy b_Bk_isBookedBy 3 (some .boolean) :: lw_g
theorem hd_Bk_isBookedBy : y_Bk_isBookedBy.cls = R_Bk ∧ y_Bk_isBookedBy.cls ≠ "java/lang/invoke/MethodHandle" ∧ y_Bk_isBookedBy.cls ≠ "java/lang/invoke/VarHandle" ∧ (parseMethodDescriptor y_Bk_isBookedBy.desc).map (fun d => d.parameters.length) = some 2 := by decide +kernel
abbrev b_Bk_lives : ByteArray := prog_2_method_15_code
def y_Bk_lives : MethodName := ⟨R_Bk, "lives", "(I)Z"⟩
def w_Bk_lives : List Cond := .code y_Bk_lives b_Bk_lives 2 (some .boolean) :: lw_g
theorem hd_Bk_lives : y_Bk_lives.cls = R_Bk ∧ y_Bk_lives.cls ≠ "java/lang/invoke/MethodHandle" ∧ y_Bk_lives.cls ≠ "java/lang/invoke/VarHandle" ∧ (parseMethodDescriptor y_Bk_lives.desc).map (fun d => d.parameters.length) = some 1 := by decide +kernel
abbrev b_Bk_isEquipment : ByteArray := prog_2_method_16_code
def y_Bk_isEquipment : MethodName := ⟨R_Bk, "isEquipment", "(I)Z"⟩
def w_Bk_isEquipment : List Cond := .code y_Bk_isEquipment b_Bk_isEquipment 2 (some .boolean) :: lw_g
theorem hd_Bk_isEquipment : y_Bk_isEquipment.cls = R_Bk ∧ y_Bk_isEquipment.cls ≠ "java/lang/invoke/MethodHandle" ∧ y_Bk_isEquipment.cls ≠ "java/lang/invoke/VarHandle" ∧ (parseMethodDescriptor y_Bk_isEquipment.desc).map (fun d => d.parameters.length) = some 1 := by decide +kernel
abbrev b_Bk_hasLivingEquipment : ByteArray := prog_2_method_17_code
def y_Bk_hasLivingEquipment : MethodName := ⟨R_Bk, "hasLivingEquipment", "(I)Z"⟩
def w_Bk_hasLivingEquipment : List Cond := .code y_Bk_hasLivingEquipment b_Bk_hasLivingEquipment 3 (some .boolean) :: lw_g
theorem hd_Bk_hasLivingEquipment : y_Bk_hasLivingEquipment.cls = R_Bk ∧ y_Bk_hasLivingEquipment.cls ≠ "java/lang/invoke/MethodHandle" ∧ y_Bk_hasLivingEquipment.cls ≠ "java/lang/invoke/VarHandle" ∧ (parseMethodDescriptor y_Bk_hasLivingEquipment.desc).map (fun d => d.parameters.length) = some 1 := by decide +kernel
abbrev b_Bk_meets : ByteArray := prog_2_method_18_code
def y_Bk_meets : MethodName := ⟨R_Bk, "meets", "(III)Z"⟩
def w_Bk_meets : List Cond := .code y_Bk_meets b_Bk_meets 4 (some .boolean) :: lw_g
theorem hd_Bk_meets : y_Bk_meets.cls = R_Bk ∧ y_Bk_meets.cls ≠ "java/lang/invoke/MethodHandle" ∧ y_Bk_meets.cls ≠ "java/lang/invoke/VarHandle" ∧ (parseMethodDescriptor y_Bk_meets.desc).map (fun d => d.parameters.length) = some 3 := by decide +kernel
abbrev b_Bk_isTaken : ByteArray := prog_2_method_19_code
def y_Bk_isTaken : MethodName := ⟨R_Bk, "isTaken", "(IIII)Z"⟩
def w_Bk_isTaken : List Cond := .code y_Bk_isTaken b_Bk_isTaken 6 (some .boolean) :: lw_g
theorem hd_Bk_isTaken : y_Bk_isTaken.cls = R_Bk ∧ y_Bk_isTaken.cls ≠ "java/lang/invoke/MethodHandle" ∧ y_Bk_isTaken.cls ≠ "java/lang/invoke/VarHandle" ∧ (parseMethodDescriptor y_Bk_isTaken.desc).map (fun d => d.parameters.length) = some 4 := by decide +kernel
abbrev b_Bk_livingOf : ByteArray := prog_2_method_20_code
def y_Bk_livingOf : MethodName := ⟨R_Bk, "livingOf", "(I)I"⟩
def w_Bk_livingOf : List Cond := .code y_Bk_livingOf b_Bk_livingOf 4 (some .int) :: lw_g
theorem hd_Bk_livingOf : y_Bk_livingOf.cls = R_Bk ∧ y_Bk_livingOf.cls ≠ "java/lang/invoke/MethodHandle" ∧ y_Bk_livingOf.cls ≠ "java/lang/invoke/VarHandle" ∧ (parseMethodDescriptor y_Bk_livingOf.desc).map (fun d => d.parameters.length) = some 1 := by decide +kernel
abbrev b_Bk_livingAt : ByteArray := prog_2_method_21_code
def y_Bk_livingAt : MethodName := ⟨R_Bk, "livingAt", "(II)I"⟩
def w_Bk_livingAt : List Cond := .code y_Bk_livingAt b_Bk_livingAt 4 (some .int) :: lw_g
theorem hd_Bk_livingAt : y_Bk_livingAt.cls = R_Bk ∧ y_Bk_livingAt.cls ≠ "java/lang/invoke/MethodHandle" ∧ y_Bk_livingAt.cls ≠ "java/lang/invoke/VarHandle" ∧ (parseMethodDescriptor y_Bk_livingAt.desc).map (fun d => d.parameters.length) = some 2 := by decide +kernel
abbrev b_Bk_livingBefore : ByteArray := prog_2_method_22_code
def y_Bk_livingBefore : MethodName := ⟨R_Bk, "livingBefore", "(I)I"⟩
def w_Bk_livingBefore : List Cond := .code y_Bk_livingBefore b_Bk_livingBefore 5 (some .int) :: lw_g
theorem hd_Bk_livingBefore : y_Bk_livingBefore.cls = R_Bk ∧ y_Bk_livingBefore.cls ≠ "java/lang/invoke/MethodHandle" ∧ y_Bk_livingBefore.cls ≠ "java/lang/invoke/VarHandle" ∧ (parseMethodDescriptor y_Bk_livingBefore.desc).map (fun d => d.parameters.length) = some 1 := by decide +kernel
abbrev b_Bk_doneMinutes : ByteArray := prog_2_method_23_code
def y_Bk_doneMinutes : MethodName := ⟨R_Bk, "doneMinutes", "(I)I"⟩
def w_Bk_doneMinutes : List Cond := .code y_Bk_doneMinutes b_Bk_doneMinutes 4 (some .int) :: lw_g
theorem hd_Bk_doneMinutes : y_Bk_doneMinutes.cls = R_Bk ∧ y_Bk_doneMinutes.cls ≠ "java/lang/invoke/MethodHandle" ∧ y_Bk_doneMinutes.cls ≠ "java/lang/invoke/VarHandle" ∧ (parseMethodDescriptor y_Bk_doneMinutes.desc).map (fun d => d.parameters.length) = some 1 := by decide +kernel
abbrev b_Bk_finish : ByteArray := prog_2_method_24_code
def y_Bk_finish : MethodName := ⟨R_Bk, "finish", "(I)V"⟩
def w_Bk_finish : List Cond := .code y_Bk_finish b_Bk_finish 3 none :: lw_g
theorem hd_Bk_finish : y_Bk_finish.cls = R_Bk ∧ y_Bk_finish.cls ≠ "java/lang/invoke/MethodHandle" ∧ y_Bk_finish.cls ≠ "java/lang/invoke/VarHandle" ∧ (parseMethodDescriptor y_Bk_finish.desc).map (fun d => d.parameters.length) = some 1 := by decide +kernel
abbrev b_Bk_turn : ByteArray := prog_2_method_25_code
def y_Bk_turn : MethodName := ⟨R_Bk, "turn", "(II)V"⟩
def w_Bk_turn : List Cond := .code y_Bk_turn b_Bk_turn 4 none :: lw_g
theorem hd_Bk_turn : y_Bk_turn.cls = R_Bk ∧ y_Bk_turn.cls ≠ "java/lang/invoke/MethodHandle" ∧ y_Bk_turn.cls ≠ "java/lang/invoke/VarHandle" ∧ (parseMethodDescriptor y_Bk_turn.desc).map (fun d => d.parameters.length) = some 2 := by decide +kernel
abbrev b_Bk_turnOne : ByteArray := prog_2_method_26_code
def y_Bk_turnOne : MethodName := ⟨R_Bk, "turnOne", "(II)V"⟩
def w_Bk_turnOne : List Cond := .code y_Bk_turnOne b_Bk_turnOne 3 none :: lw_g
theorem hd_Bk_turnOne : y_Bk_turnOne.cls = R_Bk ∧ y_Bk_turnOne.cls ≠ "java/lang/invoke/MethodHandle" ∧ y_Bk_turnOne.cls ≠ "java/lang/invoke/VarHandle" ∧ (parseMethodDescriptor y_Bk_turnOne.desc).map (fun d => d.parameters.length) = some 2 := by decide +kernel
abbrev b_Bk_turnedSize : ByteArray := prog_2_method_27_code
def y_Bk_turnedSize : MethodName := ⟨R_Bk, "turnedSize", "()I"⟩
def w_Bk_turnedSize : List Cond := .code y_Bk_turnedSize b_Bk_turnedSize 1 (some .int) :: lw_g
theorem hd_Bk_turnedSize : y_Bk_turnedSize.cls = R_Bk ∧ y_Bk_turnedSize.cls ≠ "java/lang/invoke/MethodHandle" ∧ y_Bk_turnedSize.cls ≠ "java/lang/invoke/VarHandle" ∧ (parseMethodDescriptor y_Bk_turnedSize.desc).map (fun d => d.parameters.length) = some 0 := by decide +kernel
abbrev b_Bk_turnedThing : ByteArray := prog_2_method_28_code
def y_Bk_turnedThing : MethodName := ⟨R_Bk, "turnedThing", "(I)I"⟩
def w_Bk_turnedThing : List Cond := .code y_Bk_turnedThing b_Bk_turnedThing 2 (some .int) :: lw_g
theorem hd_Bk_turnedThing : y_Bk_turnedThing.cls = R_Bk ∧ y_Bk_turnedThing.cls ≠ "java/lang/invoke/MethodHandle" ∧ y_Bk_turnedThing.cls ≠ "java/lang/invoke/VarHandle" ∧ (parseMethodDescriptor y_Bk_turnedThing.desc).map (fun d => d.parameters.length) = some 1 := by decide +kernel
abbrev b_Ca_init : ByteArray := prog_3_method_1_code
def y_Ca_init : MethodName := ⟨R_Ca, "<init>", "()V"⟩
def w_Ca_init : List Cond := .code y_Ca_init b_Ca_init 1 none :: lw_g
theorem hi_Ca_init : y_Ca_init.cls ≠ "java/lang/invoke/MethodHandle" ∧ y_Ca_init.cls ≠ "java/lang/invoke/VarHandle" ∧ (parseMethodDescriptor y_Ca_init.desc).map (fun d => d.parameters.length) = some 0 := by decide +kernel
abbrev b_Ca_setHours : ByteArray := prog_3_method_2_code
def y_Ca_setHours : MethodName := ⟨R_Ca, "setHours", "(IIII)V"⟩
def w_Ca_setHours : List Cond := .code y_Ca_setHours b_Ca_setHours 6 none :: lw_g
theorem hd_Ca_setHours : y_Ca_setHours.cls = R_Ca ∧ y_Ca_setHours.cls ≠ "java/lang/invoke/MethodHandle" ∧ y_Ca_setHours.cls ≠ "java/lang/invoke/VarHandle" ∧ (parseMethodDescriptor y_Ca_setHours.desc).map (fun d => d.parameters.length) = some 4 := by decide +kernel
abbrev b_Ca_isHoliday : ByteArray := prog_3_method_3_code
def y_Ca_isHoliday : MethodName := ⟨R_Ca, "isHoliday", "(I)Z"⟩
def w_Ca_isHoliday : List Cond := .code y_Ca_isHoliday b_Ca_isHoliday 2 (some .boolean) :: lw_g
theorem hd_Ca_isHoliday : y_Ca_isHoliday.cls = R_Ca ∧ y_Ca_isHoliday.cls ≠ "java/lang/invoke/MethodHandle" ∧ y_Ca_isHoliday.cls ≠ "java/lang/invoke/VarHandle" ∧ (parseMethodDescriptor y_Ca_isHoliday.desc).map (fun d => d.parameters.length) = some 1 := by decide +kernel
abbrev b_Ca_isFull : ByteArray := prog_3_method_4_code
def y_Ca_isFull : MethodName := ⟨R_Ca, "isFull", "()Z"⟩
def w_Ca_isFull : List Cond := .code y_Ca_isFull b_Ca_isFull 1 (some .boolean) :: lw_g
theorem hd_Ca_isFull : y_Ca_isFull.cls = R_Ca ∧ y_Ca_isFull.cls ≠ "java/lang/invoke/MethodHandle" ∧ y_Ca_isFull.cls ≠ "java/lang/invoke/VarHandle" ∧ (parseMethodDescriptor y_Ca_isFull.desc).map (fun d => d.parameters.length) = some 0 := by decide +kernel
abbrev b_Ca_addHoliday : ByteArray := prog_3_method_5_code
def y_Ca_addHoliday : MethodName := ⟨R_Ca, "addHoliday", "(I)I"⟩
def w_Ca_addHoliday : List Cond := .code y_Ca_addHoliday b_Ca_addHoliday 2 (some .int) :: lw_g
theorem hd_Ca_addHoliday : y_Ca_addHoliday.cls = R_Ca ∧ y_Ca_addHoliday.cls ≠ "java/lang/invoke/MethodHandle" ∧ y_Ca_addHoliday.cls ≠ "java/lang/invoke/VarHandle" ∧ (parseMethodDescriptor y_Ca_addHoliday.desc).map (fun d => d.parameters.length) = some 1 := by decide +kernel
abbrev b_Ca_isOpen : ByteArray := prog_3_method_6_code
def y_Ca_isOpen : MethodName := ⟨R_Ca, "isOpen", "(III)Z"⟩
def w_Ca_isOpen : List Cond := .code y_Ca_isOpen b_Ca_isOpen 7 (some .boolean) :: lw_g
theorem hd_Ca_isOpen : y_Ca_isOpen.cls = R_Ca ∧ y_Ca_isOpen.cls ≠ "java/lang/invoke/MethodHandle" ∧ y_Ca_isOpen.cls ≠ "java/lang/invoke/VarHandle" ∧ (parseMethodDescriptor y_Ca_isOpen.desc).map (fun d => d.parameters.length) = some 3 := by decide +kernel
abbrev b_Pe_init : ByteArray := prog_4_method_1_code
def y_Pe_init : MethodName := ⟨R_Pe, "<init>", "()V"⟩
def w_Pe_init : List Cond := .code y_Pe_init b_Pe_init 1 none :: lw_g
theorem hi_Pe_init : y_Pe_init.cls ≠ "java/lang/invoke/MethodHandle" ∧ y_Pe_init.cls ≠ "java/lang/invoke/VarHandle" ∧ (parseMethodDescriptor y_Pe_init.desc).map (fun d => d.parameters.length) = some 0 := by decide +kernel
abbrev b_Pe_noShowsOf : ByteArray := prog_4_method_2_code
def y_Pe_noShowsOf : MethodName := ⟨R_Pe, "noShowsOf", "(I)I"⟩
def w_Pe_noShowsOf : List Cond := .code y_Pe_noShowsOf b_Pe_noShowsOf 2 (some .int) :: lw_g
theorem hd_Pe_noShowsOf : y_Pe_noShowsOf.cls = R_Pe ∧ y_Pe_noShowsOf.cls ≠ "java/lang/invoke/MethodHandle" ∧ y_Pe_noShowsOf.cls ≠ "java/lang/invoke/VarHandle" ∧ (parseMethodDescriptor y_Pe_noShowsOf.desc).map (fun d => d.parameters.length) = some 1 := by decide +kernel
abbrev b_Pe_isBarred : ByteArray := prog_4_method_3_code
def y_Pe_isBarred : MethodName := ⟨R_Pe, "isBarred", "(II)Z"⟩
def w_Pe_isBarred : List Cond := .code y_Pe_isBarred b_Pe_isBarred 3 (some .boolean) :: lw_g
theorem hd_Pe_isBarred : y_Pe_isBarred.cls = R_Pe ∧ y_Pe_isBarred.cls ≠ "java/lang/invoke/MethodHandle" ∧ y_Pe_isBarred.cls ≠ "java/lang/invoke/VarHandle" ∧ (parseMethodDescriptor y_Pe_isBarred.desc).map (fun d => d.parameters.length) = some 2 := by decide +kernel
abbrev b_Pe_countNoShow : ByteArray := prog_4_method_4_code
def y_Pe_countNoShow : MethodName := ⟨R_Pe, "countNoShow", "(II)V"⟩
def w_Pe_countNoShow : List Cond := .code y_Pe_countNoShow b_Pe_countNoShow 3 none :: lw_g
theorem hd_Pe_countNoShow : y_Pe_countNoShow.cls = R_Pe ∧ y_Pe_countNoShow.cls ≠ "java/lang/invoke/MethodHandle" ∧ y_Pe_countNoShow.cls ≠ "java/lang/invoke/VarHandle" ∧ (parseMethodDescriptor y_Pe_countNoShow.desc).map (fun d => d.parameters.length) = some 2 := by decide +kernel
abbrev b_Th_init : ByteArray := prog_5_method_1_code
def y_Th_init : MethodName := ⟨R_Th, "<init>", "()V"⟩
def w_Th_init : List Cond := .code y_Th_init b_Th_init 1 none :: lw_g
theorem hi_Th_init : y_Th_init.cls ≠ "java/lang/invoke/MethodHandle" ∧ y_Th_init.cls ≠ "java/lang/invoke/VarHandle" ∧ (parseMethodDescriptor y_Th_init.desc).map (fun d => d.parameters.length) = some 0 := by decide +kernel
abbrev b_Th_has : ByteArray := prog_5_method_2_code
def y_Th_has : MethodName := ⟨R_Th, "has", "(I)Z"⟩
def w_Th_has : List Cond := .code y_Th_has b_Th_has 2 (some .boolean) :: lw_g
theorem hd_Th_has : y_Th_has.cls = R_Th ∧ y_Th_has.cls ≠ "java/lang/invoke/MethodHandle" ∧ y_Th_has.cls ≠ "java/lang/invoke/VarHandle" ∧ (parseMethodDescriptor y_Th_has.desc).map (fun d => d.parameters.length) = some 1 := by decide +kernel
abbrev b_Th_isFull : ByteArray := prog_5_method_3_code
def y_Th_isFull : MethodName := ⟨R_Th, "isFull", "()Z"⟩
def w_Th_isFull : List Cond := .code y_Th_isFull b_Th_isFull 1 (some .boolean) :: lw_g
theorem hd_Th_isFull : y_Th_isFull.cls = R_Th ∧ y_Th_isFull.cls ≠ "java/lang/invoke/MethodHandle" ∧ y_Th_isFull.cls ≠ "java/lang/invoke/VarHandle" ∧ (parseMethodDescriptor y_Th_isFull.desc).map (fun d => d.parameters.length) = some 0 := by decide +kernel
abbrev b_Th_add : ByteArray := prog_5_method_4_code
def y_Th_add : MethodName := ⟨R_Th, "add", "(IIIII)I"⟩
def w_Th_add : List Cond := .code y_Th_add b_Th_add 7 (some .int) :: lw_g
theorem hd_Th_add : y_Th_add.cls = R_Th ∧ y_Th_add.cls ≠ "java/lang/invoke/MethodHandle" ∧ y_Th_add.cls ≠ "java/lang/invoke/VarHandle" ∧ (parseMethodDescriptor y_Th_add.desc).map (fun d => d.parameters.length) = some 5 := by decide +kernel
abbrev b_Th_placeOf : ByteArray := prog_5_method_5_code
def y_Th_placeOf : MethodName := ⟨R_Th, "placeOf", "(I)I"⟩
def w_Th_placeOf : List Cond := .code y_Th_placeOf b_Th_placeOf 2 (some .int) :: lw_g
theorem hd_Th_placeOf : y_Th_placeOf.cls = R_Th ∧ y_Th_placeOf.cls ≠ "java/lang/invoke/MethodHandle" ∧ y_Th_placeOf.cls ≠ "java/lang/invoke/VarHandle" ∧ (parseMethodDescriptor y_Th_placeOf.desc).map (fun d => d.parameters.length) = some 1 := by decide +kernel
abbrev b_Th_allowsLength : ByteArray := prog_5_method_6_code
def y_Th_allowsLength : MethodName := ⟨R_Th, "allowsLength", "(II)Z"⟩
def w_Th_allowsLength : List Cond := .code y_Th_allowsLength b_Th_allowsLength 3 (some .boolean) :: lw_g
theorem hd_Th_allowsLength : y_Th_allowsLength.cls = R_Th ∧ y_Th_allowsLength.cls ≠ "java/lang/invoke/MethodHandle" ∧ y_Th_allowsLength.cls ≠ "java/lang/invoke/VarHandle" ∧ (parseMethodDescriptor y_Th_allowsLength.desc).map (fun d => d.parameters.length) = some 2 := by decide +kernel
abbrev b_Th_aheadOf : ByteArray := prog_5_method_7_code
def y_Th_aheadOf : MethodName := ⟨R_Th, "aheadOf", "(I)I"⟩
def w_Th_aheadOf : List Cond := .code y_Th_aheadOf b_Th_aheadOf 2 (some .int) :: lw_g
theorem hd_Th_aheadOf : y_Th_aheadOf.cls = R_Th ∧ y_Th_aheadOf.cls ≠ "java/lang/invoke/MethodHandle" ∧ y_Th_aheadOf.cls ≠ "java/lang/invoke/VarHandle" ∧ (parseMethodDescriptor y_Th_aheadOf.desc).map (fun d => d.parameters.length) = some 1 := by decide +kernel
abbrev b_Th_graceOf : ByteArray := prog_5_method_8_code
def y_Th_graceOf : MethodName := ⟨R_Th, "graceOf", "(I)I"⟩
def w_Th_graceOf : List Cond := .code y_Th_graceOf b_Th_graceOf 2 (some .int) :: lw_g
theorem hd_Th_graceOf : y_Th_graceOf.cls = R_Th ∧ y_Th_graceOf.cls ≠ "java/lang/invoke/MethodHandle" ∧ y_Th_graceOf.cls ≠ "java/lang/invoke/VarHandle" ∧ (parseMethodDescriptor y_Th_graceOf.desc).map (fun d => d.parameters.length) = some 1 := by decide +kernel
abbrev b_Wi_init : ByteArray := prog_6_method_1_code
def y_Wi_init : MethodName := ⟨R_Wi, "<init>", "()V"⟩
def w_Wi_init : List Cond := .code y_Wi_init b_Wi_init 1 none :: lw_g
theorem hi_Wi_init : y_Wi_init.cls ≠ "java/lang/invoke/MethodHandle" ∧ y_Wi_init.cls ≠ "java/lang/invoke/VarHandle" ∧ (parseMethodDescriptor y_Wi_init.desc).map (fun d => d.parameters.length) = some 0 := by decide +kernel
abbrev b_Wi_size : ByteArray := prog_6_method_2_code
def y_Wi_size : MethodName := ⟨R_Wi, "size", "()I"⟩
def w_Wi_size : List Cond := .code y_Wi_size b_Wi_size 1 (some .int) :: lw_g
theorem hd_Wi_size : y_Wi_size.cls = R_Wi ∧ y_Wi_size.cls ≠ "java/lang/invoke/MethodHandle" ∧ y_Wi_size.cls ≠ "java/lang/invoke/VarHandle" ∧ (parseMethodDescriptor y_Wi_size.desc).map (fun d => d.parameters.length) = some 0 := by decide +kernel
abbrev b_Wi_isFull : ByteArray := prog_6_method_3_code
def y_Wi_isFull : MethodName := ⟨R_Wi, "isFull", "()Z"⟩
def w_Wi_isFull : List Cond := .code y_Wi_isFull b_Wi_isFull 1 (some .boolean) :: lw_g
theorem hd_Wi_isFull : y_Wi_isFull.cls = R_Wi ∧ y_Wi_isFull.cls ≠ "java/lang/invoke/MethodHandle" ∧ y_Wi_isFull.cls ≠ "java/lang/invoke/VarHandle" ∧ (parseMethodDescriptor y_Wi_isFull.desc).map (fun d => d.parameters.length) = some 0 := by decide +kernel
abbrev b_Wi_personOf : ByteArray := prog_6_method_4_code
def y_Wi_personOf : MethodName := ⟨R_Wi, "personOf", "(I)I"⟩
def w_Wi_personOf : List Cond := .code y_Wi_personOf b_Wi_personOf 2 (some .int) :: lw_g
theorem hd_Wi_personOf : y_Wi_personOf.cls = R_Wi ∧ y_Wi_personOf.cls ≠ "java/lang/invoke/MethodHandle" ∧ y_Wi_personOf.cls ≠ "java/lang/invoke/VarHandle" ∧ (parseMethodDescriptor y_Wi_personOf.desc).map (fun d => d.parameters.length) = some 1 := by decide +kernel
abbrev b_Wi_thingOf : ByteArray := prog_6_method_5_code
def y_Wi_thingOf : MethodName := ⟨R_Wi, "thingOf", "(I)I"⟩
def w_Wi_thingOf : List Cond := .code y_Wi_thingOf b_Wi_thingOf 2 (some .int) :: lw_g
theorem hd_Wi_thingOf : y_Wi_thingOf.cls = R_Wi ∧ y_Wi_thingOf.cls ≠ "java/lang/invoke/MethodHandle" ∧ y_Wi_thingOf.cls ≠ "java/lang/invoke/VarHandle" ∧ (parseMethodDescriptor y_Wi_thingOf.desc).map (fun d => d.parameters.length) = some 1 := by decide +kernel
abbrev b_Wi_fromOf : ByteArray := prog_6_method_6_code
def y_Wi_fromOf : MethodName := ⟨R_Wi, "fromOf", "(I)I"⟩
def w_Wi_fromOf : List Cond := .code y_Wi_fromOf b_Wi_fromOf 2 (some .int) :: lw_g
theorem hd_Wi_fromOf : y_Wi_fromOf.cls = R_Wi ∧ y_Wi_fromOf.cls ≠ "java/lang/invoke/MethodHandle" ∧ y_Wi_fromOf.cls ≠ "java/lang/invoke/VarHandle" ∧ (parseMethodDescriptor y_Wi_fromOf.desc).map (fun d => d.parameters.length) = some 1 := by decide +kernel
abbrev b_Wi_toOf : ByteArray := prog_6_method_7_code
def y_Wi_toOf : MethodName := ⟨R_Wi, "toOf", "(I)I"⟩
def w_Wi_toOf : List Cond := .code y_Wi_toOf b_Wi_toOf 2 (some .int) :: lw_g
theorem hd_Wi_toOf : y_Wi_toOf.cls = R_Wi ∧ y_Wi_toOf.cls ≠ "java/lang/invoke/MethodHandle" ∧ y_Wi_toOf.cls ≠ "java/lang/invoke/VarHandle" ∧ (parseMethodDescriptor y_Wi_toOf.desc).map (fun d => d.parameters.length) = some 1 := by decide +kernel
abbrev b_Wi_countOf : ByteArray := prog_6_method_8_code
def y_Wi_countOf : MethodName := ⟨R_Wi, "countOf", "(I)I"⟩
def w_Wi_countOf : List Cond := .code y_Wi_countOf b_Wi_countOf 4 (some .int) :: lw_g
theorem hd_Wi_countOf : y_Wi_countOf.cls = R_Wi ∧ y_Wi_countOf.cls ≠ "java/lang/invoke/MethodHandle" ∧ y_Wi_countOf.cls ≠ "java/lang/invoke/VarHandle" ∧ (parseMethodDescriptor y_Wi_countOf.desc).map (fun d => d.parameters.length) = some 1 := by decide +kernel
abbrev b_Wi_add : ByteArray := prog_6_method_9_code
def y_Wi_add : MethodName := ⟨R_Wi, "add", "(IIIII)I"⟩
def w_Wi_add : List Cond := .code y_Wi_add b_Wi_add 7 (some .int) :: lw_g
theorem hd_Wi_add : y_Wi_add.cls = R_Wi ∧ y_Wi_add.cls ≠ "java/lang/invoke/MethodHandle" ∧ y_Wi_add.cls ≠ "java/lang/invoke/VarHandle" ∧ (parseMethodDescriptor y_Wi_add.desc).map (fun d => d.parameters.length) = some 5 := by decide +kernel
abbrev b_Wi_removeAt : ByteArray := prog_6_method_10_code
def y_Wi_removeAt : MethodName := ⟨R_Wi, "removeAt", "(I)V"⟩
def w_Wi_removeAt : List Cond := .code y_Wi_removeAt b_Wi_removeAt 3 none :: lw_g
theorem hd_Wi_removeAt : y_Wi_removeAt.cls = R_Wi ∧ y_Wi_removeAt.cls ≠ "java/lang/invoke/MethodHandle" ∧ y_Wi_removeAt.cls ≠ "java/lang/invoke/VarHandle" ∧ (parseMethodDescriptor y_Wi_removeAt.desc).map (fun d => d.parameters.length) = some 1 := by decide +kernel
abbrev b_Wi_move : ByteArray := prog_6_method_11_code
def y_Wi_move : MethodName := ⟨R_Wi, "move", "(II)V"⟩
def w_Wi_move : List Cond := .code y_Wi_move b_Wi_move 3 none :: lw_g
theorem hd_Wi_move : y_Wi_move.cls = R_Wi ∧ y_Wi_move.cls ≠ "java/lang/invoke/MethodHandle" ∧ y_Wi_move.cls ≠ "java/lang/invoke/VarHandle" ∧ (parseMethodDescriptor y_Wi_move.desc).map (fun d => d.parameters.length) = some 2 := by decide +kernel
abbrev b_Br_init : ByteArray := prog_1_method_1_code
def y_Br_init : MethodName := ⟨R_Br, "<init>", "()V"⟩
def w_Br_init : List Cond := .code y_Br_init b_Br_init 1 none :: lw_g
theorem hi_Br_init : y_Br_init.cls ≠ "java/lang/invoke/MethodHandle" ∧ y_Br_init.cls ≠ "java/lang/invoke/VarHandle" ∧ (parseMethodDescriptor y_Br_init.desc).map (fun d => d.parameters.length) = some 0 := by decide +kernel
abbrev b_Br_thing : ByteArray := prog_1_method_2_code
def y_Br_thing : MethodName := ⟨R_Br, "thing", "(IIIII)I"⟩
def w_Br_thing : List Cond := .code y_Br_thing b_Br_thing 8 (some .int) :: lw_g
theorem hd_Br_thing : y_Br_thing.cls = R_Br ∧ y_Br_thing.cls ≠ "java/lang/invoke/MethodHandle" ∧ y_Br_thing.cls ≠ "java/lang/invoke/VarHandle" ∧ (parseMethodDescriptor y_Br_thing.desc).map (fun d => d.parameters.length) = some 5 := by decide +kernel
abbrev b_Br_hours : ByteArray := prog_1_method_3_code
def y_Br_hours : MethodName := ⟨R_Br, "hours", "(IIII)I"⟩
def w_Br_hours : List Cond := .code y_Br_hours b_Br_hours 7 (some .int) :: lw_g
theorem hd_Br_hours : y_Br_hours.cls = R_Br ∧ y_Br_hours.cls ≠ "java/lang/invoke/MethodHandle" ∧ y_Br_hours.cls ≠ "java/lang/invoke/VarHandle" ∧ (parseMethodDescriptor y_Br_hours.desc).map (fun d => d.parameters.length) = some 4 := by decide +kernel
abbrev b_Br_holiday : ByteArray := prog_1_method_4_code
def y_Br_holiday : MethodName := ⟨R_Br, "holiday", "(I)I"⟩
def w_Br_holiday : List Cond := .code y_Br_holiday b_Br_holiday 2 (some .int) :: lw_g
theorem hd_Br_holiday : y_Br_holiday.cls = R_Br ∧ y_Br_holiday.cls ≠ "java/lang/invoke/MethodHandle" ∧ y_Br_holiday.cls ≠ "java/lang/invoke/VarHandle" ∧ (parseMethodDescriptor y_Br_holiday.desc).map (fun d => d.parameters.length) = some 1 := by decide +kernel
abbrev b_Br_book : ByteArray := prog_1_method_5_code
def y_Br_book : MethodName := ⟨R_Br, "book", "(IIII)I"⟩
def w_Br_book : List Cond := .code y_Br_book b_Br_book 5 (some .int) :: lw_g
theorem hd_Br_book : y_Br_book.cls = R_Br ∧ y_Br_book.cls ≠ "java/lang/invoke/MethodHandle" ∧ y_Br_book.cls ≠ "java/lang/invoke/VarHandle" ∧ (parseMethodDescriptor y_Br_book.desc).map (fun d => d.parameters.length) = some 4 := by decide +kernel
abbrev b_Br_recurring : ByteArray := prog_1_method_6_code
def y_Br_recurring : MethodName := ⟨R_Br, "recurring", "(III)I"⟩
def w_Br_recurring : List Cond := .code y_Br_recurring b_Br_recurring 10 (some .int) :: lw_g
theorem hd_Br_recurring : y_Br_recurring.cls = R_Br ∧ y_Br_recurring.cls ≠ "java/lang/invoke/MethodHandle" ∧ y_Br_recurring.cls ≠ "java/lang/invoke/VarHandle" ∧ (parseMethodDescriptor y_Br_recurring.desc).map (fun d => d.parameters.length) = some 3 := by decide +kernel
abbrev b_Br_cancel : ByteArray := prog_1_method_7_code
def y_Br_cancel : MethodName := ⟨R_Br, "cancel", "(II)I"⟩
def w_Br_cancel : List Cond := .code y_Br_cancel b_Br_cancel 3 (some .int) :: lw_g
theorem hd_Br_cancel : y_Br_cancel.cls = R_Br ∧ y_Br_cancel.cls ≠ "java/lang/invoke/MethodHandle" ∧ y_Br_cancel.cls ≠ "java/lang/invoke/VarHandle" ∧ (parseMethodDescriptor y_Br_cancel.desc).map (fun d => d.parameters.length) = some 2 := by decide +kernel
abbrev b_Br_checkIn : ByteArray := prog_1_method_8_code
def y_Br_checkIn : MethodName := ⟨R_Br, "checkIn", "(II)I"⟩
def w_Br_checkIn : List Cond := .code y_Br_checkIn b_Br_checkIn 4 (some .int) :: lw_g
theorem hd_Br_checkIn : y_Br_checkIn.cls = R_Br ∧ y_Br_checkIn.cls ≠ "java/lang/invoke/MethodHandle" ∧ y_Br_checkIn.cls ≠ "java/lang/invoke/VarHandle" ∧ (parseMethodDescriptor y_Br_checkIn.desc).map (fun d => d.parameters.length) = some 2 := by decide +kernel
abbrev b_Br_edit : ByteArray := prog_1_method_9_code
def y_Br_edit : MethodName := ⟨R_Br, "edit", "(IIII)I"⟩
def w_Br_edit : List Cond := .code y_Br_edit b_Br_edit 6 (some .int) :: lw_g
theorem hd_Br_edit : y_Br_edit.cls = R_Br ∧ y_Br_edit.cls ≠ "java/lang/invoke/MethodHandle" ∧ y_Br_edit.cls ≠ "java/lang/invoke/VarHandle" ∧ (parseMethodDescriptor y_Br_edit.desc).map (fun d => d.parameters.length) = some 4 := by decide +kernel
abbrev b_Br_equip : ByteArray := prog_1_method_10_code
def y_Br_equip : MethodName := ⟨R_Br, "equip", "(II)I"⟩
def w_Br_equip : List Cond := .code y_Br_equip b_Br_equip 6 (some .int) :: lw_g
theorem hd_Br_equip : y_Br_equip.cls = R_Br ∧ y_Br_equip.cls ≠ "java/lang/invoke/MethodHandle" ∧ y_Br_equip.cls ≠ "java/lang/invoke/VarHandle" ∧ (parseMethodDescriptor y_Br_equip.desc).map (fun d => d.parameters.length) = some 2 := by decide +kernel
abbrev b_Br_wish : ByteArray := prog_1_method_11_code
def y_Br_wish : MethodName := ⟨R_Br, "wish", "(IIIII)I"⟩
def w_Br_wish : List Cond := .code y_Br_wish b_Br_wish 6 (some .int) :: lw_g
theorem hd_Br_wish : y_Br_wish.cls = R_Br ∧ y_Br_wish.cls ≠ "java/lang/invoke/MethodHandle" ∧ y_Br_wish.cls ≠ "java/lang/invoke/VarHandle" ∧ (parseMethodDescriptor y_Br_wish.desc).map (fun d => d.parameters.length) = some 5 := by decide +kernel
abbrev b_Br_tick : ByteArray := prog_1_method_12_code
def y_Br_tick : MethodName := ⟨R_Br, "tick", "(I)I"⟩
def w_Br_tick : List Cond := .code y_Br_tick b_Br_tick 5 (some .int) :: lw_g
theorem hd_Br_tick : y_Br_tick.cls = R_Br ∧ y_Br_tick.cls ≠ "java/lang/invoke/MethodHandle" ∧ y_Br_tick.cls ≠ "java/lang/invoke/VarHandle" ∧ (parseMethodDescriptor y_Br_tick.desc).map (fun d => d.parameters.length) = some 1 := by decide +kernel
abbrev b_Br_clash : ByteArray := prog_1_method_13_code
def y_Br_clash : MethodName := ⟨R_Br, "clash", "(II)Z"⟩
def w_Br_clash : List Cond := .code y_Br_clash b_Br_clash 3 (some .boolean) :: lw_g
theorem hd_Br_clash : y_Br_clash.cls = R_Br ∧ y_Br_clash.cls ≠ "java/lang/invoke/MethodHandle" ∧ y_Br_clash.cls ≠ "java/lang/invoke/VarHandle" ∧ (parseMethodDescriptor y_Br_clash.desc).map (fun d => d.parameters.length) = some 2 := by decide +kernel
abbrev b_Br_booking : ByteArray := prog_1_method_14_code
def y_Br_booking : MethodName := ⟨R_Br, "booking", "(II)I"⟩
def w_Br_booking : List Cond := .code y_Br_booking b_Br_booking 3 (some .int) :: lw_g
theorem hd_Br_booking : y_Br_booking.cls = R_Br ∧ y_Br_booking.cls ≠ "java/lang/invoke/MethodHandle" ∧ y_Br_booking.cls ≠ "java/lang/invoke/VarHandle" ∧ (parseMethodDescriptor y_Br_booking.desc).map (fun d => d.parameters.length) = some 2 := by decide +kernel
abbrev b_Br_list : ByteArray := prog_1_method_15_code
def y_Br_list : MethodName := ⟨R_Br, "list", "(II)I"⟩
def w_Br_list : List Cond := .code y_Br_list b_Br_list 3 (some .int) :: lw_g
theorem hd_Br_list : y_Br_list.cls = R_Br ∧ y_Br_list.cls ≠ "java/lang/invoke/MethodHandle" ∧ y_Br_list.cls ≠ "java/lang/invoke/VarHandle" ∧ (parseMethodDescriptor y_Br_list.desc).map (fun d => d.parameters.length) = some 2 := by decide +kernel
abbrev b_Br_person : ByteArray := prog_1_method_16_code
def y_Br_person : MethodName := ⟨R_Br, "person", "(II)I"⟩
def w_Br_person : List Cond := .code y_Br_person b_Br_person 3 (some .int) :: lw_g
theorem hd_Br_person : y_Br_person.cls = R_Br ∧ y_Br_person.cls ≠ "java/lang/invoke/MethodHandle" ∧ y_Br_person.cls ≠ "java/lang/invoke/VarHandle" ∧ (parseMethodDescriptor y_Br_person.desc).map (fun d => d.parameters.length) = some 2 := by decide +kernel
abbrev b_Br_used : ByteArray := prog_1_method_17_code
def y_Br_used : MethodName := ⟨R_Br, "used", "(I)I"⟩
def w_Br_used : List Cond := .code y_Br_used b_Br_used 2 (some .int) :: lw_g
theorem hd_Br_used : y_Br_used.cls = R_Br ∧ y_Br_used.cls ≠ "java/lang/invoke/MethodHandle" ∧ y_Br_used.cls ≠ "java/lang/invoke/VarHandle" ∧ (parseMethodDescriptor y_Br_used.desc).map (fun d => d.parameters.length) = some 1 := by decide +kernel
abbrev b_Br_isWithin : ByteArray := prog_1_method_18_code
def y_Br_isWithin : MethodName := ⟨R_Br, "isWithin", "(III)Z"⟩
def w_Br_isWithin : List Cond := .code y_Br_isWithin b_Br_isWithin 3 (some .boolean) :: lw_g
theorem hd_Br_isWithin : y_Br_isWithin.cls = R_Br ∧ y_Br_isWithin.cls ≠ "java/lang/invoke/MethodHandle" ∧ y_Br_isWithin.cls ≠ "java/lang/invoke/VarHandle" ∧ (parseMethodDescriptor y_Br_isWithin.desc).map (fun d => d.parameters.length) = some 3 := by decide +kernel
abbrev b_Br_isPlace : ByteArray := prog_1_method_19_code
def y_Br_isPlace : MethodName := ⟨R_Br, "isPlace", "(I)Z"⟩
def w_Br_isPlace : List Cond := .code y_Br_isPlace b_Br_isPlace 1 (some .boolean) :: lw_g
theorem hd_Br_isPlace : y_Br_isPlace.cls = R_Br ∧ y_Br_isPlace.cls ≠ "java/lang/invoke/MethodHandle" ∧ y_Br_isPlace.cls ≠ "java/lang/invoke/VarHandle" ∧ (parseMethodDescriptor y_Br_isPlace.desc).map (fun d => d.parameters.length) = some 1 := by decide +kernel
abbrev b_Br_isPerson : ByteArray := prog_1_method_20_code
def y_Br_isPerson : MethodName := ⟨R_Br, "isPerson", "(I)Z"⟩
def w_Br_isPerson : List Cond := .code y_Br_isPerson b_Br_isPerson 1 (some .boolean) :: lw_g
theorem hd_Br_isPerson : y_Br_isPerson.cls = R_Br ∧ y_Br_isPerson.cls ≠ "java/lang/invoke/MethodHandle" ∧ y_Br_isPerson.cls ≠ "java/lang/invoke/VarHandle" ∧ (parseMethodDescriptor y_Br_isPerson.desc).map (fun d => d.parameters.length) = some 1 := by decide +kernel
abbrev b_Br_isTime : ByteArray := prog_1_method_21_code
def y_Br_isTime : MethodName := ⟨R_Br, "isTime", "(I)Z"⟩
def w_Br_isTime : List Cond := .code y_Br_isTime b_Br_isTime 1 (some .boolean) :: lw_g
theorem hd_Br_isTime : y_Br_isTime.cls = R_Br ∧ y_Br_isTime.cls ≠ "java/lang/invoke/MethodHandle" ∧ y_Br_isTime.cls ≠ "java/lang/invoke/VarHandle" ∧ (parseMethodDescriptor y_Br_isTime.desc).map (fun d => d.parameters.length) = some 1 := by decide +kernel
abbrev b_Br_tryBooking : ByteArray := prog_1_method_22_code
def y_Br_tryBooking : MethodName := ⟨R_Br, "tryBooking", "(IIII)I"⟩
def w_Br_tryBooking : List Cond := .code y_Br_tryBooking b_Br_tryBooking 6 (some .int) :: lw_g
theorem hd_Br_tryBooking : y_Br_tryBooking.cls = R_Br ∧ y_Br_tryBooking.cls ≠ "java/lang/invoke/MethodHandle" ∧ y_Br_tryBooking.cls ≠ "java/lang/invoke/VarHandle" ∧ (parseMethodDescriptor y_Br_tryBooking.desc).map (fun d => d.parameters.length) = some 4 := by decide +kernel
abbrev b_Br_refusalOf : ByteArray := prog_1_method_23_code
def y_Br_refusalOf : MethodName := ⟨R_Br, "refusalOf", "(IIIII)I"⟩
def w_Br_refusalOf : List Cond := .code y_Br_refusalOf b_Br_refusalOf 7 (some .int) :: lw_g
theorem hd_Br_refusalOf : y_Br_refusalOf.cls = R_Br ∧ y_Br_refusalOf.cls ≠ "java/lang/invoke/MethodHandle" ∧ y_Br_refusalOf.cls ≠ "java/lang/invoke/VarHandle" ∧ (parseMethodDescriptor y_Br_refusalOf.desc).map (fun d => d.parameters.length) = some 5 := by decide +kernel
abbrev b_Br_lastCheckIn : ByteArray := prog_1_method_24_code
def y_Br_lastCheckIn : MethodName := ⟨R_Br, "lastCheckIn", "(I)I"⟩
def w_Br_lastCheckIn : List Cond := .code y_Br_lastCheckIn b_Br_lastCheckIn 2 (some .int) :: lw_g
theorem hd_Br_lastCheckIn : y_Br_lastCheckIn.cls = R_Br ∧ y_Br_lastCheckIn.cls ≠ "java/lang/invoke/MethodHandle" ∧ y_Br_lastCheckIn.cls ≠ "java/lang/invoke/VarHandle" ∧ (parseMethodDescriptor y_Br_lastCheckIn.desc).map (fun d => d.parameters.length) = some 1 := by decide +kernel
abbrev b_Br_isMissed : ByteArray := prog_1_method_25_code
def y_Br_isMissed : MethodName := ⟨R_Br, "isMissed", "(I)Z"⟩
def w_Br_isMissed : List Cond := .code y_Br_isMissed b_Br_isMissed 2 (some .boolean) :: lw_g
theorem hd_Br_isMissed : y_Br_isMissed.cls = R_Br ∧ y_Br_isMissed.cls ≠ "java/lang/invoke/MethodHandle" ∧ y_Br_isMissed.cls ≠ "java/lang/invoke/VarHandle" ∧ (parseMethodDescriptor y_Br_isMissed.desc).map (fun d => d.parameters.length) = some 1 := by decide +kernel
abbrev b_Br_release : ByteArray := prog_1_method_26_code
def y_Br_release : MethodName := ⟨R_Br, "release", "(II)I"⟩
def w_Br_release : List Cond := .code y_Br_release b_Br_release 5 (some .int) :: lw_g
theorem hd_Br_release : y_Br_release.cls = R_Br ∧ y_Br_release.cls ≠ "java/lang/invoke/MethodHandle" ∧ y_Br_release.cls ≠ "java/lang/invoke/VarHandle" ∧ (parseMethodDescriptor y_Br_release.desc).map (fun d => d.parameters.length) = some 2 := by decide +kernel
abbrev b_Br_serveWishes : ByteArray := prog_1_method_27_code
def y_Br_serveWishes : MethodName := ⟨R_Br, "serveWishes", "(I)I"⟩
def w_Br_serveWishes : List Cond := .code y_Br_serveWishes b_Br_serveWishes 5 (some .int) :: lw_g
theorem hd_Br_serveWishes : y_Br_serveWishes.cls = R_Br ∧ y_Br_serveWishes.cls ≠ "java/lang/invoke/MethodHandle" ∧ y_Br_serveWishes.cls ≠ "java/lang/invoke/VarHandle" ∧ (parseMethodDescriptor y_Br_serveWishes.desc).map (fun d => d.parameters.length) = some 1 := by decide +kernel
abbrev b_Mo_init : ByteArray := prog_8_method_1_code
def y_Mo_init : MethodName := ⟨R_Mo, "<init>", "()V"⟩
def w_Mo_init : List Cond := .code y_Mo_init b_Mo_init 1 none :: lw_g
theorem hi_Mo_init : y_Mo_init.cls ≠ "java/lang/invoke/MethodHandle" ∧ y_Mo_init.cls ≠ "java/lang/invoke/VarHandle" ∧ (parseMethodDescriptor y_Mo_init.desc).map (fun d => d.parameters.length) = some 0 := by decide +kernel
abbrev b_Mo_isTime : ByteArray := prog_8_method_3_code
def y_Mo_isTime : MethodName := ⟨R_Mo, "isTime", "(I)Z"⟩
def w_Mo_isTime : List Cond := .code y_Mo_isTime b_Mo_isTime 1 (some .boolean) :: lw_g
theorem hd_Mo_isTime : y_Mo_isTime.cls = R_Mo ∧ y_Mo_isTime.cls ≠ "java/lang/invoke/MethodHandle" ∧ y_Mo_isTime.cls ≠ "java/lang/invoke/VarHandle" ∧ (parseMethodDescriptor y_Mo_isTime.desc).map (fun d => d.parameters.length) = some 1 := by decide +kernel
abbrev b_Mo_isPerson : ByteArray := prog_8_method_4_code
def y_Mo_isPerson : MethodName := ⟨R_Mo, "isPerson", "(I)Z"⟩
def w_Mo_isPerson : List Cond := .code y_Mo_isPerson b_Mo_isPerson 1 (some .boolean) :: lw_g
theorem hd_Mo_isPerson : y_Mo_isPerson.cls = R_Mo ∧ y_Mo_isPerson.cls ≠ "java/lang/invoke/MethodHandle" ∧ y_Mo_isPerson.cls ≠ "java/lang/invoke/VarHandle" ∧ (parseMethodDescriptor y_Mo_isPerson.desc).map (fun d => d.parameters.length) = some 1 := by decide +kernel
abbrev b_Mo_isThing : ByteArray := prog_8_method_5_code
def y_Mo_isThing : MethodName := ⟨R_Mo, "isThing", "(I)Z"⟩
def w_Mo_isThing : List Cond := .code y_Mo_isThing b_Mo_isThing 2 (some .boolean) :: lw_g
theorem hd_Mo_isThing : y_Mo_isThing.cls = R_Mo ∧ y_Mo_isThing.cls ≠ "java/lang/invoke/MethodHandle" ∧ y_Mo_isThing.cls ≠ "java/lang/invoke/VarHandle" ∧ (parseMethodDescriptor y_Mo_isThing.desc).map (fun d => d.parameters.length) = some 1 := by decide +kernel
abbrev b_Mo_isBooking : ByteArray := prog_8_method_6_code
def y_Mo_isBooking : MethodName := ⟨R_Mo, "isBooking", "(I)Z"⟩
def w_Mo_isBooking : List Cond := .code y_Mo_isBooking b_Mo_isBooking 2 (some .boolean) :: lw_g
theorem hd_Mo_isBooking : y_Mo_isBooking.cls = R_Mo ∧ y_Mo_isBooking.cls ≠ "java/lang/invoke/MethodHandle" ∧ y_Mo_isBooking.cls ≠ "java/lang/invoke/VarHandle" ∧ (parseMethodDescriptor y_Mo_isBooking.desc).map (fun d => d.parameters.length) = some 1 := by decide +kernel
abbrev b_Mo_lives : ByteArray := prog_8_method_7_code
def y_Mo_lives : MethodName := ⟨R_Mo, "lives", "(I)Z"⟩
def w_Mo_lives : List Cond := .code y_Mo_lives b_Mo_lives 2 (some .boolean) :: lw_g
theorem hd_Mo_lives : y_Mo_lives.cls = R_Mo ∧ y_Mo_lives.cls ≠ "java/lang/invoke/MethodHandle" ∧ y_Mo_lives.cls ≠ "java/lang/invoke/VarHandle" ∧ (parseMethodDescriptor y_Mo_lives.desc).map (fun d => d.parameters.length) = some 1 := by decide +kernel
abbrev b_Mo_thing : ByteArray := prog_8_method_8_code
def y_Mo_thing : MethodName := ⟨R_Mo, "thing", "(IIIII)I"⟩
def w_Mo_thing : List Cond := .code y_Mo_thing b_Mo_thing 7 (some .int) :: lw_g
theorem hd_Mo_thing : y_Mo_thing.cls = R_Mo ∧ y_Mo_thing.cls ≠ "java/lang/invoke/MethodHandle" ∧ y_Mo_thing.cls ≠ "java/lang/invoke/VarHandle" ∧ (parseMethodDescriptor y_Mo_thing.desc).map (fun d => d.parameters.length) = some 5 := by decide +kernel
abbrev b_Mo_hours : ByteArray := prog_8_method_9_code
def y_Mo_hours : MethodName := ⟨R_Mo, "hours", "(IIII)I"⟩
def w_Mo_hours : List Cond := .code y_Mo_hours b_Mo_hours 6 (some .int) :: lw_g
theorem hd_Mo_hours : y_Mo_hours.cls = R_Mo ∧ y_Mo_hours.cls ≠ "java/lang/invoke/MethodHandle" ∧ y_Mo_hours.cls ≠ "java/lang/invoke/VarHandle" ∧ (parseMethodDescriptor y_Mo_hours.desc).map (fun d => d.parameters.length) = some 4 := by decide +kernel
abbrev b_Mo_isHoliday : ByteArray := prog_8_method_10_code
def y_Mo_isHoliday : MethodName := ⟨R_Mo, "isHoliday", "(I)Z"⟩
def w_Mo_isHoliday : List Cond := .code y_Mo_isHoliday b_Mo_isHoliday 4 (some .boolean) :: lw_g
theorem hd_Mo_isHoliday : y_Mo_isHoliday.cls = R_Mo ∧ y_Mo_isHoliday.cls ≠ "java/lang/invoke/MethodHandle" ∧ y_Mo_isHoliday.cls ≠ "java/lang/invoke/VarHandle" ∧ (parseMethodDescriptor y_Mo_isHoliday.desc).map (fun d => d.parameters.length) = some 1 := by decide +kernel
abbrev b_Mo_holiday : ByteArray := prog_8_method_11_code
def y_Mo_holiday : MethodName := ⟨R_Mo, "holiday", "(I)I"⟩
def w_Mo_holiday : List Cond := .code y_Mo_holiday b_Mo_holiday 2 (some .int) :: lw_g
theorem hd_Mo_holiday : y_Mo_holiday.cls = R_Mo ∧ y_Mo_holiday.cls ≠ "java/lang/invoke/MethodHandle" ∧ y_Mo_holiday.cls ≠ "java/lang/invoke/VarHandle" ∧ (parseMethodDescriptor y_Mo_holiday.desc).map (fun d => d.parameters.length) = some 1 := by decide +kernel
abbrev b_Mo_meets : ByteArray := prog_8_method_12_code
def y_Mo_meets : MethodName := ⟨R_Mo, "meets", "(IIII)Z"⟩
def w_Mo_meets : List Cond := .code y_Mo_meets b_Mo_meets 5 (some .boolean) :: lw_g
theorem hd_Mo_meets : y_Mo_meets.cls = R_Mo ∧ y_Mo_meets.cls ≠ "java/lang/invoke/MethodHandle" ∧ y_Mo_meets.cls ≠ "java/lang/invoke/VarHandle" ∧ (parseMethodDescriptor y_Mo_meets.desc).map (fun d => d.parameters.length) = some 4 := by decide +kernel
abbrev b_Mo_clashes : ByteArray := prog_8_method_13_code
def y_Mo_clashes : MethodName := ⟨R_Mo, "clashes", "(IIII)Z"⟩
def w_Mo_clashes : List Cond := .code y_Mo_clashes b_Mo_clashes 7 (some .boolean) :: lw_g
theorem hd_Mo_clashes : y_Mo_clashes.cls = R_Mo ∧ y_Mo_clashes.cls ≠ "java/lang/invoke/MethodHandle" ∧ y_Mo_clashes.cls ≠ "java/lang/invoke/VarHandle" ∧ (parseMethodDescriptor y_Mo_clashes.desc).map (fun d => d.parameters.length) = some 4 := by decide +kernel
abbrev b_Mo_living : ByteArray := prog_8_method_14_code
def y_Mo_living : MethodName := ⟨R_Mo, "living", "(I)I"⟩
def w_Mo_living : List Cond := .code y_Mo_living b_Mo_living 4 (some .int) :: lw_g
theorem hd_Mo_living : y_Mo_living.cls = R_Mo ∧ y_Mo_living.cls ≠ "java/lang/invoke/MethodHandle" ∧ y_Mo_living.cls ≠ "java/lang/invoke/VarHandle" ∧ (parseMethodDescriptor y_Mo_living.desc).map (fun d => d.parameters.length) = some 1 := by decide +kernel
abbrev b_Mo_against : ByteArray := prog_8_method_15_code
def y_Mo_against : MethodName := ⟨R_Mo, "against", "(IIIII)I"⟩
def w_Mo_against : List Cond := .code y_Mo_against b_Mo_against 9 (some .int) :: lw_g
theorem hd_Mo_against : y_Mo_against.cls = R_Mo ∧ y_Mo_against.cls ≠ "java/lang/invoke/MethodHandle" ∧ y_Mo_against.cls ≠ "java/lang/invoke/VarHandle" ∧ (parseMethodDescriptor y_Mo_against.desc).map (fun d => d.parameters.length) = some 5 := by decide +kernel
abbrev b_Mo_add : ByteArray := prog_8_method_16_code
def y_Mo_add : MethodName := ⟨R_Mo, "add", "(IIIII)I"⟩
def w_Mo_add : List Cond := .code y_Mo_add b_Mo_add 7 (some .int) :: lw_g
theorem hd_Mo_add : y_Mo_add.cls = R_Mo ∧ y_Mo_add.cls ≠ "java/lang/invoke/MethodHandle" ∧ y_Mo_add.cls ≠ "java/lang/invoke/VarHandle" ∧ (parseMethodDescriptor y_Mo_add.desc).map (fun d => d.parameters.length) = some 5 := by decide +kernel
abbrev b_Mo_book : ByteArray := prog_8_method_17_code
def y_Mo_book : MethodName := ⟨R_Mo, "book", "(IIII)I"⟩
def w_Mo_book : List Cond := .code y_Mo_book b_Mo_book 6 (some .int) :: lw_g
theorem hd_Mo_book : y_Mo_book.cls = R_Mo ∧ y_Mo_book.cls ≠ "java/lang/invoke/MethodHandle" ∧ y_Mo_book.cls ≠ "java/lang/invoke/VarHandle" ∧ (parseMethodDescriptor y_Mo_book.desc).map (fun d => d.parameters.length) = some 4 := by decide +kernel
abbrev b_Mo_recurring : ByteArray := prog_8_method_18_code
def y_Mo_recurring : MethodName := ⟨R_Mo, "recurring", "(III)I"⟩
def w_Mo_recurring : List Cond := .code y_Mo_recurring b_Mo_recurring 10 (some .int) :: lw_g
theorem hd_Mo_recurring : y_Mo_recurring.cls = R_Mo ∧ y_Mo_recurring.cls ≠ "java/lang/invoke/MethodHandle" ∧ y_Mo_recurring.cls ≠ "java/lang/invoke/VarHandle" ∧ (parseMethodDescriptor y_Mo_recurring.desc).map (fun d => d.parameters.length) = some 3 := by decide +kernel
abbrev b_Mo_wish : ByteArray := prog_8_method_19_code
def y_Mo_wish : MethodName := ⟨R_Mo, "wish", "(IIIII)I"⟩
def w_Mo_wish : List Cond := .code y_Mo_wish b_Mo_wish 7 (some .int) :: lw_g
theorem hd_Mo_wish : y_Mo_wish.cls = R_Mo ∧ y_Mo_wish.cls ≠ "java/lang/invoke/MethodHandle" ∧ y_Mo_wish.cls ≠ "java/lang/invoke/VarHandle" ∧ (parseMethodDescriptor y_Mo_wish.desc).map (fun d => d.parameters.length) = some 5 := by decide +kernel
abbrev b_Mo_dropWish : ByteArray := prog_8_method_20_code
def y_Mo_dropWish : MethodName := ⟨R_Mo, "dropWish", "(I)V"⟩
def w_Mo_dropWish : List Cond := .code y_Mo_dropWish b_Mo_dropWish 4 none :: lw_g
theorem hd_Mo_dropWish : y_Mo_dropWish.cls = R_Mo ∧ y_Mo_dropWish.cls ≠ "java/lang/invoke/MethodHandle" ∧ y_Mo_dropWish.cls ≠ "java/lang/invoke/VarHandle" ∧ (parseMethodDescriptor y_Mo_dropWish.desc).map (fun d => d.parameters.length) = some 1 := by decide +kernel
abbrev b_Mo_nextWish : ByteArray := prog_8_method_21_code
def y_Mo_nextWish : MethodName := ⟨R_Mo, "nextWish", "(I)I"⟩
def w_Mo_nextWish : List Cond := .code y_Mo_nextWish b_Mo_nextWish 4 (some .int) :: lw_g
theorem hd_Mo_nextWish : y_Mo_nextWish.cls = R_Mo ∧ y_Mo_nextWish.cls ≠ "java/lang/invoke/MethodHandle" ∧ y_Mo_nextWish.cls ≠ "java/lang/invoke/VarHandle" ∧ (parseMethodDescriptor y_Mo_nextWish.desc).map (fun d => d.parameters.length) = some 1 := by decide +kernel
abbrev b_Mo_grants : ByteArray := prog_8_method_22_code
def y_Mo_grants : MethodName := ⟨R_Mo, "grants", "(I)I"⟩
def w_Mo_grants : List Cond := .code y_Mo_grants b_Mo_grants 5 (some .int) :: lw_g
theorem hd_Mo_grants : y_Mo_grants.cls = R_Mo ∧ y_Mo_grants.cls ≠ "java/lang/invoke/MethodHandle" ∧ y_Mo_grants.cls ≠ "java/lang/invoke/VarHandle" ∧ (parseMethodDescriptor y_Mo_grants.desc).map (fun d => d.parameters.length) = some 1 := by decide +kernel
abbrev b_Mo_ends : ByteArray := prog_8_method_23_code
def y_Mo_ends : MethodName := ⟨R_Mo, "ends", "(II)I"⟩
def w_Mo_ends : List Cond := .code y_Mo_ends b_Mo_ends 5 (some .int) :: lw_g
theorem hd_Mo_ends : y_Mo_ends.cls = R_Mo ∧ y_Mo_ends.cls ≠ "java/lang/invoke/MethodHandle" ∧ y_Mo_ends.cls ≠ "java/lang/invoke/VarHandle" ∧ (parseMethodDescriptor y_Mo_ends.desc).map (fun d => d.parameters.length) = some 2 := by decide +kernel
abbrev b_Mo_grantAll : ByteArray := prog_8_method_24_code
def y_Mo_grantAll : MethodName := ⟨R_Mo, "grantAll", "(II)I"⟩
def w_Mo_grantAll : List Cond := .code y_Mo_grantAll b_Mo_grantAll 5 (some .int) :: lw_g
theorem hd_Mo_grantAll : y_Mo_grantAll.cls = R_Mo ∧ y_Mo_grantAll.cls ≠ "java/lang/invoke/MethodHandle" ∧ y_Mo_grantAll.cls ≠ "java/lang/invoke/VarHandle" ∧ (parseMethodDescriptor y_Mo_grantAll.desc).map (fun d => d.parameters.length) = some 2 := by decide +kernel
abbrev b_Mo_isOf : ByteArray := prog_8_method_25_code
def y_Mo_isOf : MethodName := ⟨R_Mo, "isOf", "(II)Z"⟩
def w_Mo_isOf : List Cond := .code y_Mo_isOf b_Mo_isOf 3 (some .boolean) :: lw_g
theorem hd_Mo_isOf : y_Mo_isOf.cls = R_Mo ∧ y_Mo_isOf.cls ≠ "java/lang/invoke/MethodHandle" ∧ y_Mo_isOf.cls ≠ "java/lang/invoke/VarHandle" ∧ (parseMethodDescriptor y_Mo_isOf.desc).map (fun d => d.parameters.length) = some 2 := by decide +kernel
abbrev b_Mo_cancel : ByteArray := prog_8_method_26_code
def y_Mo_cancel : MethodName := ⟨R_Mo, "cancel", "(II)I"⟩
def w_Mo_cancel : List Cond := .code y_Mo_cancel b_Mo_cancel 3 (some .int) :: lw_g
theorem hd_Mo_cancel : y_Mo_cancel.cls = R_Mo ∧ y_Mo_cancel.cls ≠ "java/lang/invoke/MethodHandle" ∧ y_Mo_cancel.cls ≠ "java/lang/invoke/VarHandle" ∧ (parseMethodDescriptor y_Mo_cancel.desc).map (fun d => d.parameters.length) = some 2 := by decide +kernel
abbrev b_Mo_checkIn : ByteArray := prog_8_method_27_code
def y_Mo_checkIn : MethodName := ⟨R_Mo, "checkIn", "(II)I"⟩
def w_Mo_checkIn : List Cond := .code y_Mo_checkIn b_Mo_checkIn 5 (some .int) :: lw_g
theorem hd_Mo_checkIn : y_Mo_checkIn.cls = R_Mo ∧ y_Mo_checkIn.cls ≠ "java/lang/invoke/MethodHandle" ∧ y_Mo_checkIn.cls ≠ "java/lang/invoke/VarHandle" ∧ (parseMethodDescriptor y_Mo_checkIn.desc).map (fun d => d.parameters.length) = some 2 := by decide +kernel
abbrev b_Mo_isMain : ByteArray := prog_8_method_28_code
def y_Mo_isMain : MethodName := ⟨R_Mo, "isMain", "(I)Z"⟩
def w_Mo_isMain : List Cond := .code y_Mo_isMain b_Mo_isMain 4 (some .boolean) :: lw_g
theorem hd_Mo_isMain : y_Mo_isMain.cls = R_Mo ∧ y_Mo_isMain.cls ≠ "java/lang/invoke/MethodHandle" ∧ y_Mo_isMain.cls ≠ "java/lang/invoke/VarHandle" ∧ (parseMethodDescriptor y_Mo_isMain.desc).map (fun d => d.parameters.length) = some 1 := by decide +kernel
abbrev b_Mo_edit : ByteArray := prog_8_method_29_code
def y_Mo_edit : MethodName := ⟨R_Mo, "edit", "(IIII)I"⟩
def w_Mo_edit : List Cond := .code y_Mo_edit b_Mo_edit 6 (some .int) :: lw_g
theorem hd_Mo_edit : y_Mo_edit.cls = R_Mo ∧ y_Mo_edit.cls ≠ "java/lang/invoke/MethodHandle" ∧ y_Mo_edit.cls ≠ "java/lang/invoke/VarHandle" ∧ (parseMethodDescriptor y_Mo_edit.desc).map (fun d => d.parameters.length) = some 4 := by decide +kernel
abbrev b_Mo_equip : ByteArray := prog_8_method_30_code
def y_Mo_equip : MethodName := ⟨R_Mo, "equip", "(II)I"⟩
def w_Mo_equip : List Cond := .code y_Mo_equip b_Mo_equip 4 (some .int) :: lw_g
theorem hd_Mo_equip : y_Mo_equip.cls = R_Mo ∧ y_Mo_equip.cls ≠ "java/lang/invoke/MethodHandle" ∧ y_Mo_equip.cls ≠ "java/lang/invoke/VarHandle" ∧ (parseMethodDescriptor y_Mo_equip.desc).map (fun d => d.parameters.length) = some 2 := by decide +kernel
abbrev b_Mo_tick : ByteArray := prog_8_method_31_code
def y_Mo_tick : MethodName := ⟨R_Mo, "tick", "(I)I"⟩
def w_Mo_tick : List Cond := .code y_Mo_tick b_Mo_tick 8 (some .int) :: lw_g
theorem hd_Mo_tick : y_Mo_tick.cls = R_Mo ∧ y_Mo_tick.cls ≠ "java/lang/invoke/MethodHandle" ∧ y_Mo_tick.cls ≠ "java/lang/invoke/VarHandle" ∧ (parseMethodDescriptor y_Mo_tick.desc).map (fun d => d.parameters.length) = some 1 := by decide +kernel
abbrev b_Mo_clash : ByteArray := prog_8_method_32_code
def y_Mo_clash : MethodName := ⟨R_Mo, "clash", "(II)Z"⟩
def w_Mo_clash : List Cond := .code y_Mo_clash b_Mo_clash 3 (some .boolean) :: lw_g
theorem hd_Mo_clash : y_Mo_clash.cls = R_Mo ∧ y_Mo_clash.cls ≠ "java/lang/invoke/MethodHandle" ∧ y_Mo_clash.cls ≠ "java/lang/invoke/VarHandle" ∧ (parseMethodDescriptor y_Mo_clash.desc).map (fun d => d.parameters.length) = some 2 := by decide +kernel
abbrev b_Mo_booking : ByteArray := prog_8_method_33_code
def y_Mo_booking : MethodName := ⟨R_Mo, "booking", "(II)I"⟩
def w_Mo_booking : List Cond := .code y_Mo_booking b_Mo_booking 3 (some .int) :: lw_g
theorem hd_Mo_booking : y_Mo_booking.cls = R_Mo ∧ y_Mo_booking.cls ≠ "java/lang/invoke/MethodHandle" ∧ y_Mo_booking.cls ≠ "java/lang/invoke/VarHandle" ∧ (parseMethodDescriptor y_Mo_booking.desc).map (fun d => d.parameters.length) = some 2 := by decide +kernel
abbrev b_Mo_isListed : ByteArray := prog_8_method_34_code
def y_Mo_isListed : MethodName := ⟨R_Mo, "isListed", "(II)Z"⟩
def w_Mo_isListed : List Cond := .code y_Mo_isListed b_Mo_isListed 3 (some .boolean) :: lw_g
theorem hd_Mo_isListed : y_Mo_isListed.cls = R_Mo ∧ y_Mo_isListed.cls ≠ "java/lang/invoke/MethodHandle" ∧ y_Mo_isListed.cls ≠ "java/lang/invoke/VarHandle" ∧ (parseMethodDescriptor y_Mo_isListed.desc).map (fun d => d.parameters.length) = some 2 := by decide +kernel
abbrev b_Mo_list : ByteArray := prog_8_method_35_code
def y_Mo_list : MethodName := ⟨R_Mo, "list", "(II)I"⟩
def w_Mo_list : List Cond := .code y_Mo_list b_Mo_list 8 (some .int) :: lw_g
theorem hd_Mo_list : y_Mo_list.cls = R_Mo ∧ y_Mo_list.cls ≠ "java/lang/invoke/MethodHandle" ∧ y_Mo_list.cls ≠ "java/lang/invoke/VarHandle" ∧ (parseMethodDescriptor y_Mo_list.desc).map (fun d => d.parameters.length) = some 2 := by decide +kernel
abbrev b_Mo_person : ByteArray := prog_8_method_36_code
def y_Mo_person : MethodName := ⟨R_Mo, "person", "(II)I"⟩
def w_Mo_person : List Cond := .code y_Mo_person b_Mo_person 5 (some .int) :: lw_g
theorem hd_Mo_person : y_Mo_person.cls = R_Mo ∧ y_Mo_person.cls ≠ "java/lang/invoke/MethodHandle" ∧ y_Mo_person.cls ≠ "java/lang/invoke/VarHandle" ∧ (parseMethodDescriptor y_Mo_person.desc).map (fun d => d.parameters.length) = some 2 := by decide +kernel
abbrev b_Mo_used : ByteArray := prog_8_method_37_code
def y_Mo_used : MethodName := ⟨R_Mo, "used", "(I)I"⟩
def w_Mo_used : List Cond := .code y_Mo_used b_Mo_used 4 (some .int) :: lw_g
theorem hd_Mo_used : y_Mo_used.cls = R_Mo ∧ y_Mo_used.cls ≠ "java/lang/invoke/MethodHandle" ∧ y_Mo_used.cls ≠ "java/lang/invoke/VarHandle" ∧ (parseMethodDescriptor y_Mo_used.desc).map (fun d => d.parameters.length) = some 1 := by decide +kernel
theorem g_all : ∀ w ∈ lw_g, (w.onTables && w.keeps) = true ∨ ∃ ty, w = .arrayClass ty := fun w h => good_of_word (List.mem_filter.mp h).2
theorem gI {c1 : Cond} (h5 : c1 ∈ lw_g) : GoodIn lw_g (c1 :: lw_g) := fun w h => by
  rcases List.mem_cons.mp h with rfl | h
  · exact ⟨h5, g_all _ h5⟩
  · exact ⟨h, g_all _ h⟩
theorem gV {own C : String} {idx : Nat} {y : MethodName} {c1 : Cond} (h1 : Cond.methodLink own idx y ∈ lw_g) (h2 : Cond.instanceMethod y ∈ lw_g) (h3 : Cond.selects C y y ∈ lw_g) (h4 : Cond.initialized C ∈ lw_g) (h5 : c1 ∈ lw_g) : GoodIn lw_g (wsV own idx C y (c1 :: lw_g)) := fun w h => by
  rcases List.mem_append.mp h with h | h
  · simp only [List.mem_cons, List.not_mem_nil, or_false] at h
    rcases h with rfl | rfl | rfl | rfl
    · exact ⟨h1, g_all _ h1⟩
    · exact ⟨h2, g_all _ h2⟩
    · exact ⟨h3, g_all _ h3⟩
    · exact ⟨h4, g_all _ h4⟩
  · exact gI h5 w h
theorem gS {own : String} {idx : Nat} {y : MethodName} {c1 : Cond} (h1 : Cond.methodLink own idx y ∈ lw_g) (h2 : Cond.static y ∈ lw_g) (h3 : Cond.initialized own ∈ lw_g) (h5 : c1 ∈ lw_g) : GoodIn lw_g (wsS own idx y (c1 :: lw_g)) := fun w h => by
  rcases List.mem_append.mp h with h | h
  · simp only [List.mem_cons, List.not_mem_nil, or_false] at h
    rcases h with rfl | rfl | rfl
    · exact ⟨h1, g_all _ h1⟩
    · exact ⟨h2, g_all _ h2⟩
    · exact ⟨h3, g_all _ h3⟩
  · exact gI h5 w h
theorem mw_obj : Cond.code objectInit ⟨#[0xb1]⟩ 1 none ∈ lw_g := List.mem_filter.mpr ⟨List.mem_of_getElem? (i := 41) rfl, rfl⟩
end
section
/-! Own rows: the form of the contracts (kp_), calls (kc_), ends (kr_), joins of worlds (kd_, kj). -/
abbrev A32 : Type := Nat → Int32
def FU : Nat := 4000
theorem gd_in {α : Type} {c : Prop} [Decidable c] {e : Option α} {r : α} (h : (if c then none else e) = some r) : ¬ c ∧ e = some r := by
  by_cases hc : c
  · rw [if_pos hc] at h; cases h
  · rw [if_neg hc] at h; exact ⟨hc, h⟩
theorem br_p {α : Type} {c : Prop} [Decidable c] {x y r : α} (hc : c) (h : (if c then x else y) = r) : x = r := by
  rw [if_pos hc] at h; exact h
theorem br_n {α : Type} {c : Prop} [Decidable c] {x y r : α} (hc : ¬ c) (h : (if c then x else y) = r) : y = r := by
  rw [if_neg hc] at h; exact h
theorem ob_s {α β : Type} {x : Option α} {f : α → Option β} {b : β} (h : x.bind f = some b) : ∃ a, x = some a ∧ f a = some b := by
  cases x with
  | none => cases h
  | some a => exact ⟨a, rfl, h⟩
theorem kn_b {v : Int32} (h : ¬ ¬ (v &&& 1 = v)) : narrow .boolean (.int v) = .int v := by
  show Value.int (v &&& 1) = .int v
  rw [Decidable.of_not_not h]
theorem sw_ne {x : Int32} {n : Nat} (hn : n < 2 ^ 31) (h : ¬ x = nI n) : x.toInt ≠ (n : Int) := fun e => h (Int32.toInt_inj.mp (by rw [e, nI_toInt hn]))
theorem sw_out3 {x : Int32} (c0 : ¬ x = 0) (c1 : ¬ x = 1) (c2 : ¬ x = 2) : x.toInt < 0 ∨ 2 < x.toInt := by
  have h0 := sw_ne (n := 0) (by decide) c0
  have h1 := sw_ne (n := 1) (by decide) c1
  have h2 := sw_ne (n := 2) (by decide) c2
  omega
theorem sw_out6 {x : Int32} (c0 : ¬ x = 0) (c1 : ¬ x = 1) (c2 : ¬ x = 2) (c3 : ¬ x = 3) (c4 : ¬ x = 4) (c5 : ¬ x = 5) : x.toInt < 0 ∨ 5 < x.toInt := by
  have h0 := sw_ne (n := 0) (by decide) c0
  have h1 := sw_ne (n := 1) (by decide) c1
  have h2 := sw_ne (n := 2) (by decide) c2
  have h3 := sw_ne (n := 3) (by decide) c3
  have h4 := sw_ne (n := 4) (by decide) c4
  have h5 := sw_ne (n := 5) (by decide) c5
  omega
/-- the start of a contract: the cells ws, the array classes tys -/
def kp_P (D : va_G) (cl : List vw_C) (tys : List (ClassId × FieldType)) (ws : va_W) (av : List Value) (sz : Nat) : Array Value → State → Prop :=
  va_Pc av (fun U => U.heap.size = sz ∧ va_P D cl ws U.heap ∧ va_K D cl tys U ∧ va_D (fun _ => True) ws)
/-- the end of one that only reads -/
def kp_R (sz : Nat) (r0 : Int32) : Array Value → State → Outcome → State → Prop :=
  va_Qi (fun (r : Int32) (_ : Unit) => r = r0) (fun _ _ => True) (va_A [] sz)
/-- the end of one that writes, with an answer -/
def kp_M (D : va_G) (cl : List vw_C) (ws' ws : va_W) (sz : Nat) (r0 : Int32) : Array Value → State → Outcome → State → Prop :=
  va_Qi (fun (r : Int32) (_ : Unit) => r = r0) (fun _ t => va_P D cl ws' t.heap) (va_A ws sz)
/-- the end of one that writes, without -/
def kp_Mv (D : va_G) (cl : List vw_C) (ws' ws : va_W) (sz : Nat) : Array Value → State → Outcome → State → Prop :=
  va_Qv (fun (_ : Unit) => True) (fun _ t => va_P D cl ws' t.heap) (va_A ws sz)
theorem kp_fb {D : va_G} {cl : List vw_C} {tys : List (ClassId × FieldType)} {ws : va_W} {av : List Value} {sz : Nat} : FrameBlind (kp_P D cl tys ws av sz) := fun a U g mk q => by
  obtain ⟨q0, q1, qP, qK, qD⟩ := q
  exact ⟨q0, q1, qP, va_K.moved (u := U) (U := U.calling g mk a) (Vm.Alike.refl U.vm) qK, qD⟩
theorem kp_V {s : State} {H : Heap} {D : va_G} {cl : List vw_C} {tys : List (ClassId × FieldType)} {ws : va_W} {A : Nat → Prop} {b q0 ci : Nat} {q : vw_C} {fs As : List Value} (hK : va_K D cl tys s) (hP : va_P D cl ws H) (hD : va_D A ws) (hc : cl[ci]? = some q) (he : ws[q0]? = some (b, .inr (ci, fs))) : PreV s H q.1 b (kp_P D cl tys ws (.ref b :: As) H.size) As :=
  ⟨kp_fb, va_recv hK hP hc he, fun U hU hW => ⟨rfl, by rw [hU], by rw [hU]; exact hP, va_K.moved hW.alike hK, hD.weaken (fun _ _ _ _ => trivial)⟩⟩
theorem kp_S {s : State} {H : Heap} {D : va_G} {cl : List vw_C} {As : List Value} (hK : va_K D cl [] s) : PreS s H (kp_P D cl [] [] As H.size) As :=
  ⟨kp_fb, fun U hU hW => ⟨rfl, by rw [hU], fun k q h => by simp at h, va_K.moved hW.alike hK, ⟨fun i j p q h => by simp at h, fun k q h => by simp at h⟩⟩⟩
theorem kd_cg {A : Nat → Prop} {ws ws' : va_W} (h : va_D A ws) (e : ws'.map Prod.fst = ws.map Prod.fst) : va_D A ws' := by
  have key : ∀ (i : Nat) (q : Nat × va_E), ws'[i]? = some q → ∃ q', ws[i]? = some q' ∧ q'.1 = q.1 := by
    intro i q hq
    have h1 : (ws'.map Prod.fst)[i]? = some q.1 := by rw [List.getElem?_map, hq]; rfl
    rw [e, List.getElem?_map] at h1
    cases hw : ws[i]? with
    | none => rw [hw] at h1; cases h1
    | some q' => rw [hw] at h1; exact ⟨q', rfl, Option.some.inj h1⟩
  refine ⟨fun i j p q hp hq hpq => ?_, fun k q hk => ?_⟩
  · obtain ⟨p', hp', ep⟩ := key i p hp
    obtain ⟨q', hq', eq⟩ := key j q hq
    exact h.1 i j p' q' hp' hq' (by rw [ep, eq, hpq])
  · obtain ⟨q', hq', eq⟩ := key k q hk
    rw [← eq]; exact h.2 k q' hq'
theorem kA_nil {sz q : Nat} (h : va_A [] sz q) : sz ≤ q := by
  rcases h with ⟨k, e, h⟩ | h
  · simp at h
  · exact h
theorem kA_to {A : Nat → Prop} {ws : va_W} {H0 H : Heap} {locs : List Loc} (hD : va_D A ws) (hS : va_S A H0 H locs) (hA : ∀ q, H0.size ≤ q → A q) : ∀ q, va_A ws H.size q → A q := fun q h => by
  rcases h with ⟨k, e, h⟩ | h
  · exact hD.2 k _ h
  · exact hA q (Nat.le_trans hS.1 h)
/-- a world beside one that was written: cells before and behind it stay -/
theorem kj {D : va_G} {cl : List vw_C} {A : Nat → Prop} {pre ws ws' post : va_W} {H H1 : Heap} (hP : va_P D cl (pre ++ (ws ++ post)) H) (hD : va_D A (pre ++ (ws ++ post))) (hP1 : va_P D cl ws' H1) (hk : ∀ q : Nat, q < H.size → ¬ va_A ws H.size q → H1[q]? = H[q]?) : va_P D cl (pre ++ (ws' ++ post)) H1 := by
  have keep : ∀ (i : Nat) (q : Nat × va_E), (pre ++ (ws ++ post))[i]? = some q → (∀ j, j < ws.length → i ≠ pre.length + j) → va_at D cl q H1 := by
    intro i q hq hne
    have hat := hP i q hq
    refine hat.kept (hk q.1 hat.lt (fun h => ?_))
    rcases h with ⟨j, e, h⟩ | h
    · have hj : j < ws.length := (List.getElem?_eq_some_iff.mp h).1
      have h2 : (pre ++ (ws ++ post))[pre.length + j]? = some (q.1, e) := by
        rw [List.getElem?_append_right (Nat.le_add_right _ _), Nat.add_sub_cancel_left, List.getElem?_append_left hj]; exact h
      exact hne j hj (hD.1 i (pre.length + j) q (q.1, e) hq h2 rfl)
    · exact absurd hat.lt (Nat.not_lt.mpr h)
  intro i q hq
  rcases Nat.lt_or_ge i pre.length with hi | hi
  · rw [List.getElem?_append_left hi] at hq
    exact keep i q (by rw [List.getElem?_append_left hi]; exact hq) (fun j _ e => by omega)
  · rw [List.getElem?_append_right hi] at hq
    rcases Nat.lt_or_ge (i - pre.length) ws'.length with hj | hj
    · rw [List.getElem?_append_left hj] at hq
      exact hP1 _ q hq
    · rw [List.getElem?_append_right hj] at hq
      refine keep (pre.length + (ws.length + (i - pre.length - ws'.length))) q ?_ (fun j h e => by omega)
      rw [List.getElem?_append_right (Nat.le_add_right _ _), Nat.add_sub_cancel_left, List.getElem?_append_right (Nat.le_add_right _ _), Nat.add_sub_cancel_left]
      exact hq
section
variable {p : Program} {l : Launch} {e : Env} {R : Room} {s : State} {m : MethodId} {args : Array Value} {below : List Frame} {meth : Method} {c : Code} {H H0 : Heap} {locs : List Loc} {cells slots : Nat} {Q : State → Prop} {pc : Nat} {ls : Array Slot} {st0 rest : List Value} {a : Array Value} {A : Nat → Prop} {D : va_G} {cl : List vw_C}
theorem kc_R {r0 : Int32} {ws : va_W} (hr : va_Run p l e R s m args below meth c H locs cells slots 0 0 (F0 m pc ls st0) rest (kp_R H.size r0 a) (va_A [] H.size)) (hS : va_S A H0 H locs) (hA : ∀ q : Nat, H0.size ≤ q → A q) (hP : va_P D cl ws H)
    (kk : ∀ (H1 : Heap) (locs1 : List Loc), va_P D cl ws H1 → va_S A H0 H1 locs1 → W p l e R s m args below meth c H1 locs1 cells slots Q (F0 m (pc + 3) ls (.int r0 :: rest))) : W p l e R s m args below meth c H locs cells slots Q (F0 m pc ls st0) := by
  have hf : ∀ q, va_A [] H.size q → A q := fun q h => hA q (Nat.le_trans hS.1 (kA_nil h))
  refine va_calli hr hS (fun q _ h => hf q h) hf (fun r u t H1 locs1 ht hvm hw hB hz hk1 hS1 => ?_)
  have hw : r = r0 := hw
  subst hw
  exact kk H1 locs1 (hP.kept (fun k q hq => hk1 q.1 (hP k q hq).lt (fun h => absurd (hP k q hq).lt (Nat.not_lt.mpr (kA_nil h))))) hS1
theorem kc_M {r0 : Int32} {ws ws' wF : va_W} (hr : va_Run p l e R s m args below meth c H locs cells slots 0 0 (F0 m pc ls st0) rest (kp_M D cl ws' ws H.size r0 a) (va_A ws H.size)) (hS : va_S A H0 H locs) (hD : va_D A ws) (hA : ∀ q : Nat, H0.size ≤ q → A q) (hj : ∀ H1 : Heap, H.size ≤ H1.size → va_P D cl ws' H1 → (∀ q : Nat, q < H.size → ¬ va_A ws H.size q → H1[q]? = H[q]?) → va_P D cl wF H1)
    (kk : ∀ (H1 : Heap) (locs1 : List Loc), va_P D cl wF H1 → va_S A H0 H1 locs1 → W p l e R s m args below meth c H1 locs1 cells slots Q (F0 m (pc + 3) ls (.int r0 :: rest))) : W p l e R s m args below meth c H locs cells slots Q (F0 m pc ls st0) := by
  have hf := kA_to hD hS hA
  refine va_calli hr hS (fun q _ h => hf q h) hf (fun r u t H1 locs1 ht hvm hw hB hz hk1 hS1 => ?_)
  have hw : r = r0 := hw
  subst hw
  have hB : va_P D cl ws' t.heap := hB
  rw [ht] at hB
  exact kk H1 locs1 (hj H1 hz hB hk1) hS1
theorem kc_Mv {ws ws' wF : va_W} (hr : va_Run p l e R s m args below meth c H locs cells slots 0 0 (F0 m pc ls st0) rest (kp_Mv D cl ws' ws H.size a) (va_A ws H.size)) (hS : va_S A H0 H locs) (hD : va_D A ws) (hA : ∀ q : Nat, H0.size ≤ q → A q) (hj : ∀ H1 : Heap, H.size ≤ H1.size → va_P D cl ws' H1 → (∀ q : Nat, q < H.size → ¬ va_A ws H.size q → H1[q]? = H[q]?) → va_P D cl wF H1)
    (kk : ∀ (H1 : Heap) (locs1 : List Loc), va_P D cl wF H1 → va_S A H0 H1 locs1 → W p l e R s m args below meth c H1 locs1 cells slots Q (F0 m (pc + 3) ls rest)) : W p l e R s m args below meth c H locs cells slots Q (F0 m pc ls st0) := by
  have hf := kA_to hD hS hA
  refine va_callv hr hS (fun q _ h => hf q h) hf (fun u t H1 locs1 ht hvm hw hB hz hk1 hS1 => ?_)
  have hB : va_P D cl ws' t.heap := hB
  rw [ht] at hB
  exact kk H1 locs1 (hj H1 hz hB hk1) hS1
theorem kr_R {cc : ByteArray} {v r0 : Int32} {ty : FieldType} (hx : p.tables.exec = Jvm.exec) (hb : c.code = cc) (hr : meth.sig.returnType = some ty) (hn : narrow ty (.int v) = .int v) (hlocks : meth.locks = false) (hS : va_S (va_A [] s.heap.size) s.heap H locs) (hk : some v = some r0) (hdg : decode cc pc = .ok (.ireturn, 1)) : W p l e R s m args below meth c H locs cells slots (MQ below (kp_R s.heap.size r0) args s cells slots (va_A [] s.heap.size)) (F0 m pc ls [.int v]) :=
  W.zret hx hb hr hn (fun t ht hW => ⟨⟨v, (), rfl, Option.some.inj hk, trivial⟩, hS.F ht⟩) hS.2.2 hdg hlocks
theorem kr_M {cc : ByteArray} {S : Type} {v : Int32} {τ : S} {r0 : Int32 × S} {w : S → va_W} {ws : va_W} {ty : FieldType} (hx : p.tables.exec = Jvm.exec) (hb : c.code = cc) (hr : meth.sig.returnType = some ty) (hn : narrow ty (.int v) = .int v) (hlocks : meth.locks = false) (hS : va_S (va_A ws s.heap.size) s.heap H locs) (hP : va_P D cl (w τ) H) (hk : some (v, τ) = some r0) (hdg : decode cc pc = .ok (.ireturn, 1)) : W p l e R s m args below meth c H locs cells slots (MQ below (kp_M D cl (w r0.2) ws s.heap.size r0.1) args s cells slots (va_A ws s.heap.size)) (F0 m pc ls [.int v]) := by
  obtain rfl := Option.some.inj hk
  exact W.zret hx hb hr hn (fun t ht hW => ⟨⟨v, (), rfl, rfl, by show va_P D cl (w τ) t.heap; rw [ht]; exact hP⟩, hS.F ht⟩) hS.2.2 hdg hlocks
theorem kr_Mv {cc : ByteArray} {S : Type} {τ r0 : S} {w : S → va_W} {ws : va_W} (hx : p.tables.exec = Jvm.exec) (hb : c.code = cc) (hr : meth.sig.returnType = none) (hlocks : meth.locks = false) (hS : va_S (va_A ws s.heap.size) s.heap H locs) (hP : va_P D cl (w τ) H) (hk : some τ = some r0) (hdg : decode cc pc = .ok (.return_, 1)) : W p l e R s m args below meth c H locs cells slots (MQ below (kp_Mv D cl (w r0) ws s.heap.size) args s cells slots (va_A ws s.heap.size)) (F0 m pc ls []) := by
  obtain rfl := Option.some.inj hk
  exact W.vret hx hb hr (fun t ht hW => ⟨⟨(), rfl, trivial, by show va_P D cl (w τ) t.heap; rw [ht]; exact hP⟩, hS.F ht⟩) hS.2.2 hdg hlocks
end
end
section
abbrev S_Bk : Type := A32 × A32 × A32 × A32 × A32 × A32 × Int32 × A32 × Int32
def wl_Bk (a : Nat → Nat) (k : Nat → ClassId) (σ : S_Bk) : va_W := [(a 0, .inr (0, [.ref (a 1), .ref (a 2), .ref (a 3), .ref (a 4), .ref (a 5), .ref (a 6), .int σ.2.2.2.2.2.2.1, .ref (a 7), .int σ.2.2.2.2.2.2.2.2])), (a 1, .inl (k 1, 201, .inl σ.1)), (a 2, .inl (k 2, 201, .inl σ.2.1)), (a 3, .inl (k 3, 201, .inl σ.2.2.1)), (a 4, .inl (k 4, 201, .inl σ.2.2.2.1)), (a 5, .inl (k 5, 201, .inl σ.2.2.2.2.1)), (a 6, .inl (k 6, 201, .inl σ.2.2.2.2.2.1)), (a 7, .inl (k 7, 200, .inl σ.2.2.2.2.2.2.2.1))]
def ty_Bk (k : Nat → ClassId) : List (ClassId × FieldType) := [(k 1, .int), (k 2, .int), (k 3, .int), (k 4, .int), (k 5, .int), (k 6, .int), (k 7, .int)]
abbrev S_Ca : Type := A32 × A32 × A32 × Int32
def wl_Ca (a : Nat → Nat) (k : Nat → ClassId) (σ : S_Ca) : va_W := [(a 0, .inr (1, [.ref (a 1), .ref (a 2), .ref (a 3), .int σ.2.2.2])), (a 1, .inl (k 1, 28, .inl σ.1)), (a 2, .inl (k 2, 28, .inl σ.2.1)), (a 3, .inl (k 3, 695, .inl σ.2.2.1))]
def ty_Ca (k : Nat → ClassId) : List (ClassId × FieldType) := [(k 1, .int), (k 2, .int), (k 3, .boolean)]
abbrev S_Pe : Type := A32 × A32
def wl_Pe (a : Nat → Nat) (k : Nat → ClassId) (σ : S_Pe) : va_W := [(a 0, .inr (2, [.ref (a 1), .ref (a 2)])), (a 1, .inl (k 1, 40, .inl σ.1)), (a 2, .inl (k 2, 40, .inl σ.2))]
def ty_Pe (k : Nat → ClassId) : List (ClassId × FieldType) := [(k 1, .int), (k 2, .int)]
abbrev S_Th : Type := A32 × A32 × A32 × A32 × A32 × Int32
def wl_Th (a : Nat → Nat) (k : Nat → ClassId) (σ : S_Th) : va_W := [(a 0, .inr (3, [.ref (a 1), .ref (a 2), .ref (a 3), .ref (a 4), .ref (a 5), .int σ.2.2.2.2.2])), (a 1, .inl (k 1, 30, .inl σ.1)), (a 2, .inl (k 2, 30, .inl σ.2.1)), (a 3, .inl (k 3, 30, .inl σ.2.2.1)), (a 4, .inl (k 4, 30, .inl σ.2.2.2.1)), (a 5, .inl (k 5, 30, .inl σ.2.2.2.2.1))]
def ty_Th (k : Nat → ClassId) : List (ClassId × FieldType) := [(k 1, .int), (k 2, .int), (k 3, .int), (k 4, .int), (k 5, .int)]
abbrev S_Wi : Type := A32 × A32 × A32 × A32 × A32 × Int32
def wl_Wi (a : Nat → Nat) (k : Nat → ClassId) (σ : S_Wi) : va_W := [(a 0, .inr (4, [.ref (a 1), .ref (a 2), .ref (a 3), .ref (a 4), .ref (a 5), .int σ.2.2.2.2.2])), (a 1, .inl (k 1, 60, .inl σ.1)), (a 2, .inl (k 2, 60, .inl σ.2.1)), (a 3, .inl (k 3, 60, .inl σ.2.2.1)), (a 4, .inl (k 4, 60, .inl σ.2.2.2.1)), (a 5, .inl (k 5, 60, .inl σ.2.2.2.2.1))]
def ty_Wi (k : Nat → ClassId) : List (ClassId × FieldType) := [(k 1, .int), (k 2, .int), (k 3, .int), (k 4, .int), (k 5, .int)]
abbrev S_Br : Type := S_Ca × S_Th × S_Bk × S_Wi × S_Pe × Int32
def wl_Br (a : Nat → Nat → Nat) (k : Nat → Nat → ClassId) (σ : S_Br) : va_W := [(a 0 0, .inr (5, [.ref (a 1 0), .ref (a 2 0), .ref (a 3 0), .ref (a 4 0), .ref (a 5 0), .int σ.2.2.2.2.2]))] ++ (wl_Ca (a 1) (k 1) σ.1 ++ (wl_Th (a 2) (k 2) σ.2.1 ++ (wl_Bk (a 3) (k 3) σ.2.2.1 ++ (wl_Wi (a 4) (k 4) σ.2.2.2.1 ++ (wl_Pe (a 5) (k 5) σ.2.2.2.2.1)))))
def ty_Br (k : Nat → Nat → ClassId) : List (ClassId × FieldType) := ty_Ca (k 1) ++ (ty_Th (k 2) ++ (ty_Bk (k 3) ++ (ty_Wi (k 4) ++ (ty_Pe (k 5)))))
theorem sP_Br_Ca {D : va_G} {a : Nat → Nat → Nat} {k : Nat → Nat → ClassId} {σ : S_Br} {H : Heap} (h : va_P D cls (wl_Br a k σ) H) : va_P D cls (wl_Ca (a 1) (k 1) σ.1) H := h.sub [1, 2, 3, 4] rfl
theorem sD_Br_Ca {A : Nat → Prop} {a : Nat → Nat → Nat} {k : Nat → Nat → ClassId} {σ : S_Br} (h : va_D A (wl_Br a k σ)) : va_D A (wl_Ca (a 1) (k 1) σ.1) := h.sub [1, 2, 3, 4] (by decide) rfl
theorem sK_Br_Ca {D : va_G} {k : Nat → Nat → ClassId} {U : State} (h : va_K D cls (ty_Br k) U) : va_K D cls (ty_Ca (k 1)) U := h.sub [0, 1, 2] rfl
theorem jP_Br_Ca {D : va_G} {A : Nat → Prop} {a : Nat → Nat → Nat} {k : Nat → Nat → ClassId} (σ : S_Br) (x : S_Ca) {H H1 : Heap} (hP : va_P D cls (wl_Br a k σ) H) (hD : va_D A (wl_Br a k σ)) (h : va_P D cls (wl_Ca (a 1) (k 1) x) H1) (hk : ∀ q : Nat, q < H.size → ¬ va_A (wl_Ca (a 1) (k 1) σ.1) H.size q → H1[q]? = H[q]?) : va_P D cls (wl_Br a k (x, σ.2.1, σ.2.2.1, σ.2.2.2.1, σ.2.2.2.2.1, σ.2.2.2.2.2)) H1 :=
  kj (pre := [(a 0 0, .inr (5, [.ref (a 1 0), .ref (a 2 0), .ref (a 3 0), .ref (a 4 0), .ref (a 5 0), .int σ.2.2.2.2.2]))]) (post := wl_Th (a 2) (k 2) σ.2.1 ++ (wl_Bk (a 3) (k 3) σ.2.2.1 ++ (wl_Wi (a 4) (k 4) σ.2.2.2.1 ++ (wl_Pe (a 5) (k 5) σ.2.2.2.2.1)))) hP hD h hk
theorem sP_Br_Th {D : va_G} {a : Nat → Nat → Nat} {k : Nat → Nat → ClassId} {σ : S_Br} {H : Heap} (h : va_P D cls (wl_Br a k σ) H) : va_P D cls (wl_Th (a 2) (k 2) σ.2.1) H := h.sub [5, 6, 7, 8, 9, 10] rfl
theorem sD_Br_Th {A : Nat → Prop} {a : Nat → Nat → Nat} {k : Nat → Nat → ClassId} {σ : S_Br} (h : va_D A (wl_Br a k σ)) : va_D A (wl_Th (a 2) (k 2) σ.2.1) := h.sub [5, 6, 7, 8, 9, 10] (by decide) rfl
theorem sK_Br_Th {D : va_G} {k : Nat → Nat → ClassId} {U : State} (h : va_K D cls (ty_Br k) U) : va_K D cls (ty_Th (k 2)) U := h.sub [3, 4, 5, 6, 7] rfl
theorem jP_Br_Th {D : va_G} {A : Nat → Prop} {a : Nat → Nat → Nat} {k : Nat → Nat → ClassId} (σ : S_Br) (x : S_Th) {H H1 : Heap} (hP : va_P D cls (wl_Br a k σ) H) (hD : va_D A (wl_Br a k σ)) (h : va_P D cls (wl_Th (a 2) (k 2) x) H1) (hk : ∀ q : Nat, q < H.size → ¬ va_A (wl_Th (a 2) (k 2) σ.2.1) H.size q → H1[q]? = H[q]?) : va_P D cls (wl_Br a k (σ.1, x, σ.2.2.1, σ.2.2.2.1, σ.2.2.2.2.1, σ.2.2.2.2.2)) H1 :=
  kj (pre := [(a 0 0, .inr (5, [.ref (a 1 0), .ref (a 2 0), .ref (a 3 0), .ref (a 4 0), .ref (a 5 0), .int σ.2.2.2.2.2]))] ++ wl_Ca (a 1) (k 1) σ.1) (post := wl_Bk (a 3) (k 3) σ.2.2.1 ++ (wl_Wi (a 4) (k 4) σ.2.2.2.1 ++ (wl_Pe (a 5) (k 5) σ.2.2.2.2.1))) hP hD h hk
theorem sP_Br_Bk {D : va_G} {a : Nat → Nat → Nat} {k : Nat → Nat → ClassId} {σ : S_Br} {H : Heap} (h : va_P D cls (wl_Br a k σ) H) : va_P D cls (wl_Bk (a 3) (k 3) σ.2.2.1) H := h.sub [11, 12, 13, 14, 15, 16, 17, 18] rfl
theorem sD_Br_Bk {A : Nat → Prop} {a : Nat → Nat → Nat} {k : Nat → Nat → ClassId} {σ : S_Br} (h : va_D A (wl_Br a k σ)) : va_D A (wl_Bk (a 3) (k 3) σ.2.2.1) := h.sub [11, 12, 13, 14, 15, 16, 17, 18] (by decide) rfl
theorem sK_Br_Bk {D : va_G} {k : Nat → Nat → ClassId} {U : State} (h : va_K D cls (ty_Br k) U) : va_K D cls (ty_Bk (k 3)) U := h.sub [8, 9, 10, 11, 12, 13, 14] rfl
theorem jP_Br_Bk {D : va_G} {A : Nat → Prop} {a : Nat → Nat → Nat} {k : Nat → Nat → ClassId} (σ : S_Br) (x : S_Bk) {H H1 : Heap} (hP : va_P D cls (wl_Br a k σ) H) (hD : va_D A (wl_Br a k σ)) (h : va_P D cls (wl_Bk (a 3) (k 3) x) H1) (hk : ∀ q : Nat, q < H.size → ¬ va_A (wl_Bk (a 3) (k 3) σ.2.2.1) H.size q → H1[q]? = H[q]?) : va_P D cls (wl_Br a k (σ.1, σ.2.1, x, σ.2.2.2.1, σ.2.2.2.2.1, σ.2.2.2.2.2)) H1 :=
  kj (pre := [(a 0 0, .inr (5, [.ref (a 1 0), .ref (a 2 0), .ref (a 3 0), .ref (a 4 0), .ref (a 5 0), .int σ.2.2.2.2.2]))] ++ wl_Ca (a 1) (k 1) σ.1 ++ wl_Th (a 2) (k 2) σ.2.1) (post := wl_Wi (a 4) (k 4) σ.2.2.2.1 ++ (wl_Pe (a 5) (k 5) σ.2.2.2.2.1)) hP hD h hk
theorem sP_Br_Wi {D : va_G} {a : Nat → Nat → Nat} {k : Nat → Nat → ClassId} {σ : S_Br} {H : Heap} (h : va_P D cls (wl_Br a k σ) H) : va_P D cls (wl_Wi (a 4) (k 4) σ.2.2.2.1) H := h.sub [19, 20, 21, 22, 23, 24] rfl
theorem sD_Br_Wi {A : Nat → Prop} {a : Nat → Nat → Nat} {k : Nat → Nat → ClassId} {σ : S_Br} (h : va_D A (wl_Br a k σ)) : va_D A (wl_Wi (a 4) (k 4) σ.2.2.2.1) := h.sub [19, 20, 21, 22, 23, 24] (by decide) rfl
theorem sK_Br_Wi {D : va_G} {k : Nat → Nat → ClassId} {U : State} (h : va_K D cls (ty_Br k) U) : va_K D cls (ty_Wi (k 4)) U := h.sub [15, 16, 17, 18, 19] rfl
theorem jP_Br_Wi {D : va_G} {A : Nat → Prop} {a : Nat → Nat → Nat} {k : Nat → Nat → ClassId} (σ : S_Br) (x : S_Wi) {H H1 : Heap} (hP : va_P D cls (wl_Br a k σ) H) (hD : va_D A (wl_Br a k σ)) (h : va_P D cls (wl_Wi (a 4) (k 4) x) H1) (hk : ∀ q : Nat, q < H.size → ¬ va_A (wl_Wi (a 4) (k 4) σ.2.2.2.1) H.size q → H1[q]? = H[q]?) : va_P D cls (wl_Br a k (σ.1, σ.2.1, σ.2.2.1, x, σ.2.2.2.2.1, σ.2.2.2.2.2)) H1 :=
  kj (pre := [(a 0 0, .inr (5, [.ref (a 1 0), .ref (a 2 0), .ref (a 3 0), .ref (a 4 0), .ref (a 5 0), .int σ.2.2.2.2.2]))] ++ wl_Ca (a 1) (k 1) σ.1 ++ wl_Th (a 2) (k 2) σ.2.1 ++ wl_Bk (a 3) (k 3) σ.2.2.1) (post := wl_Pe (a 5) (k 5) σ.2.2.2.2.1) hP hD h hk
theorem sP_Br_Pe {D : va_G} {a : Nat → Nat → Nat} {k : Nat → Nat → ClassId} {σ : S_Br} {H : Heap} (h : va_P D cls (wl_Br a k σ) H) : va_P D cls (wl_Pe (a 5) (k 5) σ.2.2.2.2.1) H := h.sub [25, 26, 27] rfl
theorem sD_Br_Pe {A : Nat → Prop} {a : Nat → Nat → Nat} {k : Nat → Nat → ClassId} {σ : S_Br} (h : va_D A (wl_Br a k σ)) : va_D A (wl_Pe (a 5) (k 5) σ.2.2.2.2.1) := h.sub [25, 26, 27] (by decide) rfl
theorem sK_Br_Pe {D : va_G} {k : Nat → Nat → ClassId} {U : State} (h : va_K D cls (ty_Br k) U) : va_K D cls (ty_Pe (k 5)) U := h.sub [20, 21] rfl
theorem jP_Br_Pe {D : va_G} {A : Nat → Prop} {a : Nat → Nat → Nat} {k : Nat → Nat → ClassId} (σ : S_Br) (x : S_Pe) {H H1 : Heap} (hP : va_P D cls (wl_Br a k σ) H) (hD : va_D A (wl_Br a k σ)) (h : va_P D cls (wl_Pe (a 5) (k 5) x) H1) (hk : ∀ q : Nat, q < H.size → ¬ va_A (wl_Pe (a 5) (k 5) σ.2.2.2.2.1) H.size q → H1[q]? = H[q]?) : va_P D cls (wl_Br a k (σ.1, σ.2.1, σ.2.2.1, σ.2.2.2.1, x, σ.2.2.2.2.2)) H1 :=
  kj (pre := [(a 0 0, .inr (5, [.ref (a 1 0), .ref (a 2 0), .ref (a 3 0), .ref (a 4 0), .ref (a 5 0), .int σ.2.2.2.2.2]))] ++ wl_Ca (a 1) (k 1) σ.1 ++ wl_Th (a 2) (k 2) σ.2.1 ++ wl_Bk (a 3) (k 3) σ.2.2.1 ++ wl_Wi (a 4) (k 4) σ.2.2.2.1) (post := []) hP hD h hk
abbrev S_Mo : Type := Int32 × Int32 × A32 × A32 × Int32 × A32 × Int32 × A32 × Int32 × A32 × Int32 × A32 × A32 × A32 × A32
def wl_Mo (a : Nat → Nat) (k : Nat → ClassId) (σ : S_Mo) : va_W := [(a 0, .inr (6, [.int σ.1, .int σ.2.1, .ref (a 1), .ref (a 2), .int σ.2.2.2.2.1, .ref (a 3), .int σ.2.2.2.2.2.2.1, .ref (a 4), .int σ.2.2.2.2.2.2.2.2.1, .ref (a 5), .int σ.2.2.2.2.2.2.2.2.2.2.1, .ref (a 6), .ref (a 7), .ref (a 8), .ref (a 9)])), (a 1, .inl (k 1, 56, .inl σ.2.2.1)), (a 2, .inl (k 2, 40, .inl σ.2.2.2.1)), (a 3, .inl (k 3, 150, .inl σ.2.2.2.2.2.1)), (a 4, .inl (k 4, 1206, .inl σ.2.2.2.2.2.2.2.1)), (a 5, .inl (k 5, 300, .inl σ.2.2.2.2.2.2.2.2.2.1)), (a 6, .inl (k 6, 40, .inl σ.2.2.2.2.2.2.2.2.2.2.2.1)), (a 7, .inl (k 7, 40, .inl σ.2.2.2.2.2.2.2.2.2.2.2.2.1)), (a 8, .inl (k 8, 200, .inl σ.2.2.2.2.2.2.2.2.2.2.2.2.2.1)), (a 9, .inl (k 9, 61, .inl σ.2.2.2.2.2.2.2.2.2.2.2.2.2.2))]
def ty_Mo (k : Nat → ClassId) : List (ClassId × FieldType) := [(k 1, .int), (k 2, .int), (k 3, .int), (k 4, .int), (k 5, .int), (k 6, .int), (k 7, .int), (k 8, .int), (k 9, .boolean)]
end
section
theorem mw_40 : (.instanceMethod ⟨"java/lang/Object", "<init>", "()V"⟩ : Cond) ∈ lw_g := List.mem_filter.mpr ⟨List.mem_of_getElem? (i := 40) (by decide +kernel), rfl⟩
theorem mw_61 : (.arrayClass .int : Cond) ∈ lw_g := List.mem_filter.mpr ⟨List.mem_of_getElem? (i := 61) (by decide +kernel), rfl⟩
theorem mw_68 : (.methodLink "BookingRows$Things" 3 ⟨"java/lang/Object", "<init>", "()V"⟩ : Cond) ∈ lw_g := List.mem_filter.mpr ⟨List.mem_of_getElem? (i := 68) (by decide +kernel), rfl⟩
theorem mw_69 : (.fieldLink "BookingRows$Things" 9 "BookingRows$Things" "places" "[I" : Cond) ∈ lw_g := List.mem_filter.mpr ⟨List.mem_of_getElem? (i := 69) (by decide +kernel), rfl⟩
theorem mw_70 : (.fieldLink "BookingRows$Things" 15 "BookingRows$Things" "leasts" "[I" : Cond) ∈ lw_g := List.mem_filter.mpr ⟨List.mem_of_getElem? (i := 70) (by decide +kernel), rfl⟩
theorem mw_71 : (.fieldLink "BookingRows$Things" 18 "BookingRows$Things" "mosts" "[I" : Cond) ∈ lw_g := List.mem_filter.mpr ⟨List.mem_of_getElem? (i := 71) (by decide +kernel), rfl⟩
theorem mw_72 : (.fieldLink "BookingRows$Things" 21 "BookingRows$Things" "aheads" "[I" : Cond) ∈ lw_g := List.mem_filter.mpr ⟨List.mem_of_getElem? (i := 72) (by decide +kernel), rfl⟩
theorem mw_73 : (.fieldLink "BookingRows$Things" 24 "BookingRows$Things" "graces" "[I" : Cond) ∈ lw_g := List.mem_filter.mpr ⟨List.mem_of_getElem? (i := 73) (by decide +kernel), rfl⟩
theorem mw_74 : (.fieldLink "BookingRows$Things" 27 "BookingRows$Things" "count" "I" : Cond) ∈ lw_g := List.mem_filter.mpr ⟨List.mem_of_getElem? (i := 74) (by decide +kernel), rfl⟩
end
section
theorem d_Th_init_0 : decode b_Th_init 0 = .ok (.aload_n 0, 1) := by decide +kernel
theorem d_Th_init_1 : decode b_Th_init 1 = .ok (.invokespecial 3, 3) := by decide +kernel
theorem d_Th_init_4 : decode b_Th_init 4 = .ok (.aload_n 0, 1) := by decide +kernel
theorem d_Th_init_5 : decode b_Th_init 5 = .ok (.bipush 30, 2) := by decide +kernel
theorem d_Th_init_7 : decode b_Th_init 7 = .ok (.newarray .int, 2) := by decide +kernel
theorem d_Th_init_9 : decode b_Th_init 9 = .ok (.putfield 9, 3) := by decide +kernel
theorem d_Th_init_12 : decode b_Th_init 12 = .ok (.aload_n 0, 1) := by decide +kernel
theorem d_Th_init_13 : decode b_Th_init 13 = .ok (.bipush 30, 2) := by decide +kernel
theorem d_Th_init_15 : decode b_Th_init 15 = .ok (.newarray .int, 2) := by decide +kernel
theorem d_Th_init_17 : decode b_Th_init 17 = .ok (.putfield 15, 3) := by decide +kernel
theorem d_Th_init_20 : decode b_Th_init 20 = .ok (.aload_n 0, 1) := by decide +kernel
theorem d_Th_init_21 : decode b_Th_init 21 = .ok (.bipush 30, 2) := by decide +kernel
theorem d_Th_init_23 : decode b_Th_init 23 = .ok (.newarray .int, 2) := by decide +kernel
theorem d_Th_init_25 : decode b_Th_init 25 = .ok (.putfield 18, 3) := by decide +kernel
theorem d_Th_init_28 : decode b_Th_init 28 = .ok (.aload_n 0, 1) := by decide +kernel
theorem d_Th_init_29 : decode b_Th_init 29 = .ok (.bipush 30, 2) := by decide +kernel
theorem d_Th_init_31 : decode b_Th_init 31 = .ok (.newarray .int, 2) := by decide +kernel
theorem d_Th_init_33 : decode b_Th_init 33 = .ok (.putfield 21, 3) := by decide +kernel
theorem d_Th_init_36 : decode b_Th_init 36 = .ok (.aload_n 0, 1) := by decide +kernel
theorem d_Th_init_37 : decode b_Th_init 37 = .ok (.bipush 30, 2) := by decide +kernel
theorem d_Th_init_39 : decode b_Th_init 39 = .ok (.newarray .int, 2) := by decide +kernel
theorem d_Th_init_41 : decode b_Th_init 41 = .ok (.putfield 24, 3) := by decide +kernel
theorem d_Th_init_44 : decode b_Th_init 44 = .ok (.aload_n 0, 1) := by decide +kernel
theorem d_Th_init_45 : decode b_Th_init 45 = .ok (.iconst 0, 1) := by decide +kernel
theorem d_Th_init_46 : decode b_Th_init 46 = .ok (.putfield 27, 3) := by decide +kernel
theorem d_Th_init_49 : decode b_Th_init 49 = .ok (.return_, 1) := by decide +kernel
theorem d_Th_has_0 : decode b_Th_has 0 = .ok (.iload_n 1, 1) := by decide +kernel
theorem d_Th_has_1 : decode b_Th_has 1 = .ok (.ifCond .lt 15, 3) := by decide +kernel
theorem d_Th_has_4 : decode b_Th_has 4 = .ok (.iload_n 1, 1) := by decide +kernel
theorem d_Th_has_5 : decode b_Th_has 5 = .ok (.aload_n 0, 1) := by decide +kernel
theorem d_Th_has_6 : decode b_Th_has 6 = .ok (.getfield 27, 3) := by decide +kernel
theorem d_Th_has_9 : decode b_Th_has 9 = .ok (.if_icmp .ge 7, 3) := by decide +kernel
theorem d_Th_has_12 : decode b_Th_has 12 = .ok (.iconst 1, 1) := by decide +kernel
theorem d_Th_has_13 : decode b_Th_has 13 = .ok (.goto 4, 3) := by decide +kernel
theorem d_Th_has_16 : decode b_Th_has 16 = .ok (.iconst 0, 1) := by decide +kernel
theorem d_Th_has_17 : decode b_Th_has 17 = .ok (.ireturn, 1) := by decide +kernel
theorem d_Th_isFull_0 : decode b_Th_isFull 0 = .ok (.aload_n 0, 1) := by decide +kernel
theorem d_Th_isFull_1 : decode b_Th_isFull 1 = .ok (.getfield 27, 3) := by decide +kernel
theorem d_Th_isFull_4 : decode b_Th_isFull 4 = .ok (.bipush 30, 2) := by decide +kernel
theorem d_Th_isFull_6 : decode b_Th_isFull 6 = .ok (.if_icmp .lt 7, 3) := by decide +kernel
theorem d_Th_isFull_9 : decode b_Th_isFull 9 = .ok (.iconst 1, 1) := by decide +kernel
theorem d_Th_isFull_10 : decode b_Th_isFull 10 = .ok (.goto 4, 3) := by decide +kernel
theorem d_Th_isFull_13 : decode b_Th_isFull 13 = .ok (.iconst 0, 1) := by decide +kernel
theorem d_Th_isFull_14 : decode b_Th_isFull 14 = .ok (.ireturn, 1) := by decide +kernel
theorem d_Th_add_0 : decode b_Th_add 0 = .ok (.aload_n 0, 1) := by decide +kernel
theorem d_Th_add_1 : decode b_Th_add 1 = .ok (.getfield 27, 3) := by decide +kernel
theorem d_Th_add_4 : decode b_Th_add 4 = .ok (.istore 6, 2) := by decide +kernel
theorem d_Th_add_6 : decode b_Th_add 6 = .ok (.aload_n 0, 1) := by decide +kernel
theorem d_Th_add_7 : decode b_Th_add 7 = .ok (.getfield 9, 3) := by decide +kernel
theorem d_Th_add_10 : decode b_Th_add 10 = .ok (.iload 6, 2) := by decide +kernel
theorem d_Th_add_12 : decode b_Th_add 12 = .ok (.iload_n 1, 1) := by decide +kernel
theorem d_Th_add_13 : decode b_Th_add 13 = .ok (.iastore, 1) := by decide +kernel
theorem d_Th_add_14 : decode b_Th_add 14 = .ok (.aload_n 0, 1) := by decide +kernel
theorem d_Th_add_15 : decode b_Th_add 15 = .ok (.getfield 15, 3) := by decide +kernel
theorem d_Th_add_18 : decode b_Th_add 18 = .ok (.iload 6, 2) := by decide +kernel
theorem d_Th_add_20 : decode b_Th_add 20 = .ok (.iload_n 2, 1) := by decide +kernel
theorem d_Th_add_21 : decode b_Th_add 21 = .ok (.iastore, 1) := by decide +kernel
theorem d_Th_add_22 : decode b_Th_add 22 = .ok (.aload_n 0, 1) := by decide +kernel
theorem d_Th_add_23 : decode b_Th_add 23 = .ok (.getfield 18, 3) := by decide +kernel
theorem d_Th_add_26 : decode b_Th_add 26 = .ok (.iload 6, 2) := by decide +kernel
theorem d_Th_add_28 : decode b_Th_add 28 = .ok (.iload_n 3, 1) := by decide +kernel
theorem d_Th_add_29 : decode b_Th_add 29 = .ok (.iastore, 1) := by decide +kernel
theorem d_Th_add_30 : decode b_Th_add 30 = .ok (.aload_n 0, 1) := by decide +kernel
theorem d_Th_add_31 : decode b_Th_add 31 = .ok (.getfield 21, 3) := by decide +kernel
theorem d_Th_add_34 : decode b_Th_add 34 = .ok (.iload 6, 2) := by decide +kernel
theorem d_Th_add_36 : decode b_Th_add 36 = .ok (.iload 4, 2) := by decide +kernel
theorem d_Th_add_38 : decode b_Th_add 38 = .ok (.iastore, 1) := by decide +kernel
theorem d_Th_add_39 : decode b_Th_add 39 = .ok (.aload_n 0, 1) := by decide +kernel
theorem d_Th_add_40 : decode b_Th_add 40 = .ok (.getfield 24, 3) := by decide +kernel
theorem d_Th_add_43 : decode b_Th_add 43 = .ok (.iload 6, 2) := by decide +kernel
theorem d_Th_add_45 : decode b_Th_add 45 = .ok (.iload 5, 2) := by decide +kernel
theorem d_Th_add_47 : decode b_Th_add 47 = .ok (.iastore, 1) := by decide +kernel
theorem d_Th_add_48 : decode b_Th_add 48 = .ok (.aload_n 0, 1) := by decide +kernel
theorem d_Th_add_49 : decode b_Th_add 49 = .ok (.dup, 1) := by decide +kernel
theorem d_Th_add_50 : decode b_Th_add 50 = .ok (.getfield 27, 3) := by decide +kernel
theorem d_Th_add_53 : decode b_Th_add 53 = .ok (.iconst 1, 1) := by decide +kernel
theorem d_Th_add_54 : decode b_Th_add 54 = .ok (.iadd, 1) := by decide +kernel
theorem d_Th_add_55 : decode b_Th_add 55 = .ok (.putfield 27, 3) := by decide +kernel
theorem d_Th_add_58 : decode b_Th_add 58 = .ok (.iload 6, 2) := by decide +kernel
theorem d_Th_add_60 : decode b_Th_add 60 = .ok (.ireturn, 1) := by decide +kernel
theorem d_Th_placeOf_0 : decode b_Th_placeOf 0 = .ok (.aload_n 0, 1) := by decide +kernel
theorem d_Th_placeOf_1 : decode b_Th_placeOf 1 = .ok (.getfield 9, 3) := by decide +kernel
theorem d_Th_placeOf_4 : decode b_Th_placeOf 4 = .ok (.iload_n 1, 1) := by decide +kernel
theorem d_Th_placeOf_5 : decode b_Th_placeOf 5 = .ok (.iaload, 1) := by decide +kernel
theorem d_Th_placeOf_6 : decode b_Th_placeOf 6 = .ok (.ireturn, 1) := by decide +kernel
theorem d_Th_allowsLength_0 : decode b_Th_allowsLength 0 = .ok (.aload_n 0, 1) := by decide +kernel
theorem d_Th_allowsLength_1 : decode b_Th_allowsLength 1 = .ok (.getfield 15, 3) := by decide +kernel
theorem d_Th_allowsLength_4 : decode b_Th_allowsLength 4 = .ok (.iload_n 1, 1) := by decide +kernel
theorem d_Th_allowsLength_5 : decode b_Th_allowsLength 5 = .ok (.iaload, 1) := by decide +kernel
theorem d_Th_allowsLength_6 : decode b_Th_allowsLength 6 = .ok (.iload_n 2, 1) := by decide +kernel
theorem d_Th_allowsLength_7 : decode b_Th_allowsLength 7 = .ok (.if_icmp .gt 17, 3) := by decide +kernel
theorem d_Th_allowsLength_10 : decode b_Th_allowsLength 10 = .ok (.iload_n 2, 1) := by decide +kernel
theorem d_Th_allowsLength_11 : decode b_Th_allowsLength 11 = .ok (.aload_n 0, 1) := by decide +kernel
theorem d_Th_allowsLength_12 : decode b_Th_allowsLength 12 = .ok (.getfield 18, 3) := by decide +kernel
theorem d_Th_allowsLength_15 : decode b_Th_allowsLength 15 = .ok (.iload_n 1, 1) := by decide +kernel
theorem d_Th_allowsLength_16 : decode b_Th_allowsLength 16 = .ok (.iaload, 1) := by decide +kernel
theorem d_Th_allowsLength_17 : decode b_Th_allowsLength 17 = .ok (.if_icmp .gt 7, 3) := by decide +kernel
theorem d_Th_allowsLength_20 : decode b_Th_allowsLength 20 = .ok (.iconst 1, 1) := by decide +kernel
theorem d_Th_allowsLength_21 : decode b_Th_allowsLength 21 = .ok (.goto 4, 3) := by decide +kernel
theorem d_Th_allowsLength_24 : decode b_Th_allowsLength 24 = .ok (.iconst 0, 1) := by decide +kernel
theorem d_Th_allowsLength_25 : decode b_Th_allowsLength 25 = .ok (.ireturn, 1) := by decide +kernel
theorem d_Th_aheadOf_0 : decode b_Th_aheadOf 0 = .ok (.aload_n 0, 1) := by decide +kernel
theorem d_Th_aheadOf_1 : decode b_Th_aheadOf 1 = .ok (.getfield 21, 3) := by decide +kernel
theorem d_Th_aheadOf_4 : decode b_Th_aheadOf 4 = .ok (.iload_n 1, 1) := by decide +kernel
theorem d_Th_aheadOf_5 : decode b_Th_aheadOf 5 = .ok (.iaload, 1) := by decide +kernel
theorem d_Th_aheadOf_6 : decode b_Th_aheadOf 6 = .ok (.ireturn, 1) := by decide +kernel
theorem d_Th_graceOf_0 : decode b_Th_graceOf 0 = .ok (.aload_n 0, 1) := by decide +kernel
theorem d_Th_graceOf_1 : decode b_Th_graceOf 1 = .ok (.getfield 24, 3) := by decide +kernel
theorem d_Th_graceOf_4 : decode b_Th_graceOf 4 = .ok (.iload_n 1, 1) := by decide +kernel
theorem d_Th_graceOf_5 : decode b_Th_graceOf 5 = .ok (.iaload, 1) := by decide +kernel
theorem d_Th_graceOf_6 : decode b_Th_graceOf 6 = .ok (.ireturn, 1) := by decide +kernel
end
section
def i_Th : S_Th := ((fun _ => 0), (fun _ => 0), (fun _ => 0), (fun _ => 0), (fun _ => 0), 0)
def kf_Th_has (σ : S_Th) (p1 : Int32) : Option (Int32) :=
  (if p1 < 0 then (some 0) else
  (if σ.2.2.2.2.2 ≤ p1 then (some 0) else
  (some 1)))
def kf_Th_isFull (σ : S_Th) : Option (Int32) :=
  (if σ.2.2.2.2.2 < 30 then (some 0) else
  (some 1))
def kf_Th_add (σ : S_Th) (p1 p2 p3 p4 p5 : Int32) : Option (Int32 × S_Th) :=
  (if σ.2.2.2.2.2 < 0 ∨ 30 ≤ σ.2.2.2.2.2.toNatClampNeg then none else
  (some (σ.2.2.2.2.2, ((upd σ.1 σ.2.2.2.2.2.toNatClampNeg p1), (upd σ.2.1 σ.2.2.2.2.2.toNatClampNeg p2), (upd σ.2.2.1 σ.2.2.2.2.2.toNatClampNeg p3), (upd σ.2.2.2.1 σ.2.2.2.2.2.toNatClampNeg p4), (upd σ.2.2.2.2.1 σ.2.2.2.2.2.toNatClampNeg p5), (σ.2.2.2.2.2 + 1)))))
def kf_Th_placeOf (σ : S_Th) (p1 : Int32) : Option (Int32) :=
  (if p1 < 0 ∨ 30 ≤ p1.toNatClampNeg then none else
  (some (σ.1 p1.toNatClampNeg)))
def kf_Th_allowsLength (σ : S_Th) (p1 p2 : Int32) : Option (Int32) :=
  (if p1 < 0 ∨ 30 ≤ p1.toNatClampNeg then none else
  (if p2 < (σ.2.1 p1.toNatClampNeg) then (some 0) else
  (if (σ.2.2.1 p1.toNatClampNeg) < p2 then (some 0) else
  (some 1))))
def kf_Th_aheadOf (σ : S_Th) (p1 : Int32) : Option (Int32) :=
  (if p1 < 0 ∨ 30 ≤ p1.toNatClampNeg then none else
  (some (σ.2.2.2.1 p1.toNatClampNeg)))
def kf_Th_graceOf (σ : S_Th) (p1 : Int32) : Option (Int32) :=
  (if p1 < 0 ∨ 30 ≤ p1.toNatClampNeg then none else
  (some (σ.2.2.2.2.1 p1.toNatClampNeg)))
end
section
set_option maxHeartbeats 4000000 in
set_option maxRecDepth 100000 in
theorem c_Th_init (l : Launch) (D : va_G) (h0 sz : Nat) : Met l y_Th_init w_Th_init ({ frames := 1, cells := 5, slots := 150, locals := 12 }) (kp_P D cls [] [(h0, .inr (3, [.null, .null, .null, .null, .null, .int 0]))] [.ref h0] sz) (va_Qv (fun (_ : Unit) => True) (fun _ t => ∃ (a : Nat → Nat) (k : Nat → ClassId), a 0 = h0 ∧ va_P D cls (wl_Th a k i_Th) t.heap ∧ va_K D cls (ty_Th k) t ∧ va_D (va_A [(h0, .inr (3, [.null, .null, .null, .null, .null, .int 0]))] sz) (wl_Th a k i_Th)) (va_A [(h0, .inr (3, [.null, .null, .null, .null, .null, .int 0]))] sz)) 5 150 (va_A [(h0, .inr (3, [.null, .null, .null, .null, .null, .int 0]))] sz) := by
  refine Met.ofW (cc := b_Th_init) (maxL := 1) (ret := none) (by decide) rfl ?_
  intro p e s m args below meth c s₁ B hml hv
  obtain ⟨rfl, hsz, hP, hK, hD0⟩ := hv
  have hx := B.exec
  have hb := B.bytes
  have hr := B.returns
  have hts : ∀ w ∈ lw_g, w.before _ s = true := fun w h => atoms_spec (ws := w_Th_init) B.pre w (List.mem_cons_of_mem _ h)
  have hown : s.vm.findClass R_Th = some m.cls := findClass_of_methodNamed B.named
  have hlocks := B.notSynchronized
  have hin : meth.name = "<init>" := (name_of_methodNamed B.named B.method).1
  subst hsz
  have hD := hD0.self (sz := s.heap.size)
  generalize hAe : va_A [(h0, .inr (3, [.null, .null, .null, .null, .null, .int 0]))] s.heap.size = A at hD ⊢
  have hA : ∀ q : Nat, s.heap.size ≤ q → A q := fun q h => by rw [← hAe]; exact Or.inr h
  have hS : va_S A s.heap s.heap [] := va_S.rf
  have hP : va_P D cls [(h0, .inr (3, [.null, .null, .null, .null, .null, .int 0]))] s.heap := hP
  have hl := lv_entry ([.ref h0]) (n := 1) (Nat.le_of_ble_eq_true rfl)
  rw [lg_entry_eq]
  generalize (lg_sl ([.ref h0]) ++ List.replicate (1 - (lg_sl ([.ref h0])).length) Slot.unset).toArray = ls at hl ⊢
  have hl : lv_has ls 1 [(0, .ref h0)] := hl
  refine lv_aload_n hx hb d_Th_init_0 rfl (lv_at hl 0 rfl) ?_
  refine W.objInit hx hb hown (hts _ mw_68) (hts _ mw_40) (hts _ mw_obj) rfl (by rw [hml]; exact hl.1) rfl d_Th_init_1 (Nat.le_of_ble_eq_true rfl) (Nat.le_of_ble_eq_true rfl) ?_
  refine W.eq (g2 := F0 m 4 ls []) rfl ?_
  refine lv_aload_n hx hb d_Th_init_4 rfl (lv_at hl 0 rfl) ?_
  refine lv_bipush (v := 30) hx hb d_Th_init_5 (by decide) ?_
  refine va_newa (a0 := (30, .inl (fun _ => 0))) (N' := 30) (ty := .int) (atype := .int) hx hb (hts _ mw_61) rfl hK hP hD hS hA (fun _ => rfl) (by decide) (by decide) (by decide) (Nat.le_of_ble_eq_true rfl) (Nat.le_of_ble_eq_true rfl) d_Th_init_7 (fun q1 k1 H hK hP hD hS => ?_)
  have hK : va_K D cls [(k1, .int)] s := hK
  have hP : va_P D cls [(h0, .inr (3, [.null, .null, .null, .null, .null, .int 0])), (q1, .inl (k1, 30, .inl (fun _ => 0)))] H := hP
  have hD : va_D A [(h0, .inr (3, [.null, .null, .null, .null, .null, .int 0])), (q1, .inl (k1, 30, .inl (fun _ => 0)))] := hD
  refine W.widen (k := 1) (n := 30) (Nat.le_of_ble_eq_true rfl) (Nat.le_of_ble_eq_true rfl) ?_
  refine va_putF (D := D) (ci := 3) (v := .ref q1) (ty := (.array .int)) (C := R_Th) (T := F_Th) (N := 6) hx hb hts i_uTh t_Th t_Th_ok n_Th hown hK hP hD hS 0 rfl rfl 0 (by decide) (hts _ mw_69) (fun _ h9 => h9) rfl hin rfl (by decide +kernel) rfl rfl (Nat.le_of_ble_eq_true rfl) d_Th_init_9 (fun H locs hP hD hS => ?_)
  have hP : va_P D cls [(h0, .inr (3, [.ref q1, .null, .null, .null, .null, .int 0])), (q1, .inl (k1, 30, .inl (fun _ => 0)))] H := hP
  have hD : va_D A [(h0, .inr (3, [.ref q1, .null, .null, .null, .null, .int 0])), (q1, .inl (k1, 30, .inl (fun _ => 0)))] := hD
  refine lv_aload_n hx hb d_Th_init_12 rfl (lv_at hl 0 rfl) ?_
  refine lv_bipush (v := 30) hx hb d_Th_init_13 (by decide) ?_
  refine va_newa (a0 := (30, .inl (fun _ => 0))) (N' := 30) (ty := .int) (atype := .int) hx hb (hts _ mw_61) rfl hK hP hD hS hA (fun _ => rfl) (by decide) (by decide) (by decide) (Nat.le_of_ble_eq_true rfl) (Nat.le_of_ble_eq_true rfl) d_Th_init_15 (fun q2 k2 H hK hP hD hS => ?_)
  have hK : va_K D cls [(k1, .int), (k2, .int)] s := hK
  have hP : va_P D cls [(h0, .inr (3, [.ref q1, .null, .null, .null, .null, .int 0])), (q1, .inl (k1, 30, .inl (fun _ => 0))), (q2, .inl (k2, 30, .inl (fun _ => 0)))] H := hP
  have hD : va_D A [(h0, .inr (3, [.ref q1, .null, .null, .null, .null, .int 0])), (q1, .inl (k1, 30, .inl (fun _ => 0))), (q2, .inl (k2, 30, .inl (fun _ => 0)))] := hD
  refine W.widen (k := 2) (n := 60) (Nat.le_of_ble_eq_true rfl) (Nat.le_of_ble_eq_true rfl) ?_
  refine va_putF (D := D) (ci := 3) (v := .ref q2) (ty := (.array .int)) (C := R_Th) (T := F_Th) (N := 6) hx hb hts i_uTh t_Th t_Th_ok n_Th hown hK hP hD hS 0 rfl rfl 1 (by decide) (hts _ mw_70) (fun _ h9 => h9) rfl hin rfl (by decide +kernel) rfl rfl (Nat.le_of_ble_eq_true rfl) d_Th_init_17 (fun H locs hP hD hS => ?_)
  have hP : va_P D cls [(h0, .inr (3, [.ref q1, .ref q2, .null, .null, .null, .int 0])), (q1, .inl (k1, 30, .inl (fun _ => 0))), (q2, .inl (k2, 30, .inl (fun _ => 0)))] H := hP
  have hD : va_D A [(h0, .inr (3, [.ref q1, .ref q2, .null, .null, .null, .int 0])), (q1, .inl (k1, 30, .inl (fun _ => 0))), (q2, .inl (k2, 30, .inl (fun _ => 0)))] := hD
  refine lv_aload_n hx hb d_Th_init_20 rfl (lv_at hl 0 rfl) ?_
  refine lv_bipush (v := 30) hx hb d_Th_init_21 (by decide) ?_
  refine va_newa (a0 := (30, .inl (fun _ => 0))) (N' := 30) (ty := .int) (atype := .int) hx hb (hts _ mw_61) rfl hK hP hD hS hA (fun _ => rfl) (by decide) (by decide) (by decide) (Nat.le_of_ble_eq_true rfl) (Nat.le_of_ble_eq_true rfl) d_Th_init_23 (fun q3 k3 H hK hP hD hS => ?_)
  have hK : va_K D cls [(k1, .int), (k2, .int), (k3, .int)] s := hK
  have hP : va_P D cls [(h0, .inr (3, [.ref q1, .ref q2, .null, .null, .null, .int 0])), (q1, .inl (k1, 30, .inl (fun _ => 0))), (q2, .inl (k2, 30, .inl (fun _ => 0))), (q3, .inl (k3, 30, .inl (fun _ => 0)))] H := hP
  have hD : va_D A [(h0, .inr (3, [.ref q1, .ref q2, .null, .null, .null, .int 0])), (q1, .inl (k1, 30, .inl (fun _ => 0))), (q2, .inl (k2, 30, .inl (fun _ => 0))), (q3, .inl (k3, 30, .inl (fun _ => 0)))] := hD
  refine W.widen (k := 3) (n := 90) (Nat.le_of_ble_eq_true rfl) (Nat.le_of_ble_eq_true rfl) ?_
  refine va_putF (D := D) (ci := 3) (v := .ref q3) (ty := (.array .int)) (C := R_Th) (T := F_Th) (N := 6) hx hb hts i_uTh t_Th t_Th_ok n_Th hown hK hP hD hS 0 rfl rfl 2 (by decide) (hts _ mw_71) (fun _ h9 => h9) rfl hin rfl (by decide +kernel) rfl rfl (Nat.le_of_ble_eq_true rfl) d_Th_init_25 (fun H locs hP hD hS => ?_)
  have hP : va_P D cls [(h0, .inr (3, [.ref q1, .ref q2, .ref q3, .null, .null, .int 0])), (q1, .inl (k1, 30, .inl (fun _ => 0))), (q2, .inl (k2, 30, .inl (fun _ => 0))), (q3, .inl (k3, 30, .inl (fun _ => 0)))] H := hP
  have hD : va_D A [(h0, .inr (3, [.ref q1, .ref q2, .ref q3, .null, .null, .int 0])), (q1, .inl (k1, 30, .inl (fun _ => 0))), (q2, .inl (k2, 30, .inl (fun _ => 0))), (q3, .inl (k3, 30, .inl (fun _ => 0)))] := hD
  refine lv_aload_n hx hb d_Th_init_28 rfl (lv_at hl 0 rfl) ?_
  refine lv_bipush (v := 30) hx hb d_Th_init_29 (by decide) ?_
  refine va_newa (a0 := (30, .inl (fun _ => 0))) (N' := 30) (ty := .int) (atype := .int) hx hb (hts _ mw_61) rfl hK hP hD hS hA (fun _ => rfl) (by decide) (by decide) (by decide) (Nat.le_of_ble_eq_true rfl) (Nat.le_of_ble_eq_true rfl) d_Th_init_31 (fun q4 k4 H hK hP hD hS => ?_)
  have hK : va_K D cls [(k1, .int), (k2, .int), (k3, .int), (k4, .int)] s := hK
  have hP : va_P D cls [(h0, .inr (3, [.ref q1, .ref q2, .ref q3, .null, .null, .int 0])), (q1, .inl (k1, 30, .inl (fun _ => 0))), (q2, .inl (k2, 30, .inl (fun _ => 0))), (q3, .inl (k3, 30, .inl (fun _ => 0))), (q4, .inl (k4, 30, .inl (fun _ => 0)))] H := hP
  have hD : va_D A [(h0, .inr (3, [.ref q1, .ref q2, .ref q3, .null, .null, .int 0])), (q1, .inl (k1, 30, .inl (fun _ => 0))), (q2, .inl (k2, 30, .inl (fun _ => 0))), (q3, .inl (k3, 30, .inl (fun _ => 0))), (q4, .inl (k4, 30, .inl (fun _ => 0)))] := hD
  refine W.widen (k := 4) (n := 120) (Nat.le_of_ble_eq_true rfl) (Nat.le_of_ble_eq_true rfl) ?_
  refine va_putF (D := D) (ci := 3) (v := .ref q4) (ty := (.array .int)) (C := R_Th) (T := F_Th) (N := 6) hx hb hts i_uTh t_Th t_Th_ok n_Th hown hK hP hD hS 0 rfl rfl 3 (by decide) (hts _ mw_72) (fun _ h9 => h9) rfl hin rfl (by decide +kernel) rfl rfl (Nat.le_of_ble_eq_true rfl) d_Th_init_33 (fun H locs hP hD hS => ?_)
  have hP : va_P D cls [(h0, .inr (3, [.ref q1, .ref q2, .ref q3, .ref q4, .null, .int 0])), (q1, .inl (k1, 30, .inl (fun _ => 0))), (q2, .inl (k2, 30, .inl (fun _ => 0))), (q3, .inl (k3, 30, .inl (fun _ => 0))), (q4, .inl (k4, 30, .inl (fun _ => 0)))] H := hP
  have hD : va_D A [(h0, .inr (3, [.ref q1, .ref q2, .ref q3, .ref q4, .null, .int 0])), (q1, .inl (k1, 30, .inl (fun _ => 0))), (q2, .inl (k2, 30, .inl (fun _ => 0))), (q3, .inl (k3, 30, .inl (fun _ => 0))), (q4, .inl (k4, 30, .inl (fun _ => 0)))] := hD
  refine lv_aload_n hx hb d_Th_init_36 rfl (lv_at hl 0 rfl) ?_
  refine lv_bipush (v := 30) hx hb d_Th_init_37 (by decide) ?_
  refine va_newa (a0 := (30, .inl (fun _ => 0))) (N' := 30) (ty := .int) (atype := .int) hx hb (hts _ mw_61) rfl hK hP hD hS hA (fun _ => rfl) (by decide) (by decide) (by decide) (Nat.le_of_ble_eq_true rfl) (Nat.le_of_ble_eq_true rfl) d_Th_init_39 (fun q5 k5 H hK hP hD hS => ?_)
  have hK : va_K D cls [(k1, .int), (k2, .int), (k3, .int), (k4, .int), (k5, .int)] s := hK
  have hP : va_P D cls [(h0, .inr (3, [.ref q1, .ref q2, .ref q3, .ref q4, .null, .int 0])), (q1, .inl (k1, 30, .inl (fun _ => 0))), (q2, .inl (k2, 30, .inl (fun _ => 0))), (q3, .inl (k3, 30, .inl (fun _ => 0))), (q4, .inl (k4, 30, .inl (fun _ => 0))), (q5, .inl (k5, 30, .inl (fun _ => 0)))] H := hP
  have hD : va_D A [(h0, .inr (3, [.ref q1, .ref q2, .ref q3, .ref q4, .null, .int 0])), (q1, .inl (k1, 30, .inl (fun _ => 0))), (q2, .inl (k2, 30, .inl (fun _ => 0))), (q3, .inl (k3, 30, .inl (fun _ => 0))), (q4, .inl (k4, 30, .inl (fun _ => 0))), (q5, .inl (k5, 30, .inl (fun _ => 0)))] := hD
  refine W.widen (k := 5) (n := 150) (Nat.le_of_ble_eq_true rfl) (Nat.le_of_ble_eq_true rfl) ?_
  refine va_putF (D := D) (ci := 3) (v := .ref q5) (ty := (.array .int)) (C := R_Th) (T := F_Th) (N := 6) hx hb hts i_uTh t_Th t_Th_ok n_Th hown hK hP hD hS 0 rfl rfl 4 (by decide) (hts _ mw_73) (fun _ h9 => h9) rfl hin rfl (by decide +kernel) rfl rfl (Nat.le_of_ble_eq_true rfl) d_Th_init_41 (fun H locs hP hD hS => ?_)
  have hP : va_P D cls [(h0, .inr (3, [.ref q1, .ref q2, .ref q3, .ref q4, .ref q5, .int 0])), (q1, .inl (k1, 30, .inl (fun _ => 0))), (q2, .inl (k2, 30, .inl (fun _ => 0))), (q3, .inl (k3, 30, .inl (fun _ => 0))), (q4, .inl (k4, 30, .inl (fun _ => 0))), (q5, .inl (k5, 30, .inl (fun _ => 0)))] H := hP
  have hD : va_D A [(h0, .inr (3, [.ref q1, .ref q2, .ref q3, .ref q4, .ref q5, .int 0])), (q1, .inl (k1, 30, .inl (fun _ => 0))), (q2, .inl (k2, 30, .inl (fun _ => 0))), (q3, .inl (k3, 30, .inl (fun _ => 0))), (q4, .inl (k4, 30, .inl (fun _ => 0))), (q5, .inl (k5, 30, .inl (fun _ => 0)))] := hD
  refine lv_aload_n hx hb d_Th_init_44 rfl (lv_at hl 0 rfl) ?_
  refine lv_iconst (v := 0) hx hb d_Th_init_45 (by decide) ?_
  refine va_put (D := D) (ci := 3) (v := .int 0) (ty := .int) (C := R_Th) (T := F_Th) (N := 6) hx hb hts i_uTh t_Th t_Th_ok n_Th hown hK hP hD hS 0 rfl rfl 5 (by decide) (hts _ mw_74) (fun _ h9 => h9) rfl (by decide +kernel) rfl rfl (Nat.le_of_ble_eq_true rfl) d_Th_init_46 (fun H locs hP hD hS => ?_)
  have hP : va_P D cls [(h0, .inr (3, [.ref q1, .ref q2, .ref q3, .ref q4, .ref q5, .int 0])), (q1, .inl (k1, 30, .inl (fun _ => 0))), (q2, .inl (k2, 30, .inl (fun _ => 0))), (q3, .inl (k3, 30, .inl (fun _ => 0))), (q4, .inl (k4, 30, .inl (fun _ => 0))), (q5, .inl (k5, 30, .inl (fun _ => 0)))] H := hP
  have hD : va_D A [(h0, .inr (3, [.ref q1, .ref q2, .ref q3, .ref q4, .ref q5, .int 0])), (q1, .inl (k1, 30, .inl (fun _ => 0))), (q2, .inl (k2, 30, .inl (fun _ => 0))), (q3, .inl (k3, 30, .inl (fun _ => 0))), (q4, .inl (k4, 30, .inl (fun _ => 0))), (q5, .inl (k5, 30, .inl (fun _ => 0)))] := hD
  exact W.vret hx hb hr (fun t ht hW => ⟨⟨(), rfl, trivial, (fun j => ([h0, q1, q2, q3, q4, q5] : List Nat).getD j 0), (fun j => ([k1, k1, k2, k3, k4, k5] : List ClassId).getD j k1), rfl, by rw [ht]; exact hP, va_K.moved hW.alike hK, hD⟩, hS.F ht⟩) hS.2.2 d_Th_init_49
end
section
set_option maxHeartbeats 4000000 in
set_option maxRecDepth 100000 in
theorem c_Th_has (l : Launch) (D : va_G) (a : Nat → Nat) (k : Nat → ClassId) (sz : Nat) (σ : S_Th) (p1 : Int32) (r0 : Int32) (hk : kf_Th_has σ p1 = some r0) : Met l y_Th_has w_Th_has ({ frames := 0, cells := 0, slots := 0, locals := 0 }) (kp_P D cls (ty_Th k) (wl_Th a k σ) [.ref (a 0), .int p1] sz) (kp_R sz r0) 0 0 (va_A [] sz) := by
  refine Met.ofW (cc := b_Th_has) (maxL := 2) (ret := (some .boolean)) (by decide) rfl ?_
  intro p e s m args below meth c s₁ B hml hv
  obtain ⟨rfl, hsz, hP, hK, hD0⟩ := hv
  have hx := B.exec
  have hb := B.bytes
  have hr := B.returns
  have hts : ∀ w ∈ lw_g, w.before _ s = true := fun w h => atoms_spec (ws := w_Th_has) B.pre w (List.mem_cons_of_mem _ h)
  have hown : s.vm.findClass R_Th = some m.cls := findClass_of_methodNamed B.named
  have hlocks := B.notSynchronized
  subst hsz
  have hA : ∀ q : Nat, s.heap.size ≤ q → (va_A ([]) s.heap.size) q := fun _ h => Or.inr h
  have hDt : ∀ τ, va_D (fun _ => True) (wl_Th a k τ) := fun τ => kd_cg hD0 rfl
  have hS : va_S (va_A ([]) s.heap.size) s.heap s.heap [] := va_S.rf
  have hl := lv_entry ([.ref (a 0), .int p1]) (n := 2) (Nat.le_of_ble_eq_true rfl)
  rw [lg_entry_eq]
  generalize (lg_sl ([.ref (a 0), .int p1]) ++ List.replicate (2 - (lg_sl ([.ref (a 0), .int p1])).length) Slot.unset).toArray = ls at hl ⊢
  have hl : lv_has ls 2 [(0, .ref (a 0)), (1, .int p1)] := hl
  unfold kf_Th_has at hk
  refine lv_iload_n hx hb d_Th_has_0 rfl (lv_at hl 1 rfl) ?_
  refine lv_if_lt (tgt := 16) hx hb d_Th_has_1 (by decide) (fun c1 => ?_) (fun c1 => ?_)
  · have hk := br_p c1 hk
    refine lv_iconst (v := 0) hx hb d_Th_has_16 (by decide) ?_
    exact kr_R hx hb hr (by decide) hlocks hS hk d_Th_has_17
  · have hk := br_n c1 hk
    refine lv_iload_n hx hb d_Th_has_4 rfl (lv_at hl 1 rfl) ?_
    refine lv_aload_n hx hb d_Th_has_5 rfl (lv_at hl 0 rfl) ?_
    refine va_get (D := D) (ci := 3) (v := .int σ.2.2.2.2.2) (C := R_Th) (T := F_Th) (N := 6) hx hb hts i_uTh hown hK hP 0 rfl rfl 5 (by decide) (hts _ mw_74) (fun _ h9 => h9) rfl d_Th_has_6 ?_
    refine lv_icmp_ge (tgt := 16) hx hb d_Th_has_9 (by decide) (fun c2 => ?_) (fun c2 => ?_)
    · have hk := br_p c2 hk
      refine lv_iconst (v := 0) hx hb d_Th_has_16 (by decide) ?_
      exact kr_R hx hb hr (by decide) hlocks hS hk d_Th_has_17
    · have hk := br_n c2 hk
      refine lv_iconst (v := 1) hx hb d_Th_has_12 (by decide) ?_
      refine lv_goto (tgt := 17) hx hb d_Th_has_13 (by decide) ?_
      exact kr_R hx hb hr (by decide) hlocks hS hk d_Th_has_17
set_option maxHeartbeats 4000000 in
set_option maxRecDepth 100000 in
theorem c_Th_isFull (l : Launch) (D : va_G) (a : Nat → Nat) (k : Nat → ClassId) (sz : Nat) (σ : S_Th) (r0 : Int32) (hk : kf_Th_isFull σ = some r0) : Met l y_Th_isFull w_Th_isFull ({ frames := 0, cells := 0, slots := 0, locals := 0 }) (kp_P D cls (ty_Th k) (wl_Th a k σ) [.ref (a 0)] sz) (kp_R sz r0) 0 0 (va_A [] sz) := by
  refine Met.ofW (cc := b_Th_isFull) (maxL := 1) (ret := (some .boolean)) (by decide) rfl ?_
  intro p e s m args below meth c s₁ B hml hv
  obtain ⟨rfl, hsz, hP, hK, hD0⟩ := hv
  have hx := B.exec
  have hb := B.bytes
  have hr := B.returns
  have hts : ∀ w ∈ lw_g, w.before _ s = true := fun w h => atoms_spec (ws := w_Th_isFull) B.pre w (List.mem_cons_of_mem _ h)
  have hown : s.vm.findClass R_Th = some m.cls := findClass_of_methodNamed B.named
  have hlocks := B.notSynchronized
  subst hsz
  have hA : ∀ q : Nat, s.heap.size ≤ q → (va_A ([]) s.heap.size) q := fun _ h => Or.inr h
  have hDt : ∀ τ, va_D (fun _ => True) (wl_Th a k τ) := fun τ => kd_cg hD0 rfl
  have hS : va_S (va_A ([]) s.heap.size) s.heap s.heap [] := va_S.rf
  have hl := lv_entry ([.ref (a 0)]) (n := 1) (Nat.le_of_ble_eq_true rfl)
  rw [lg_entry_eq]
  generalize (lg_sl ([.ref (a 0)]) ++ List.replicate (1 - (lg_sl ([.ref (a 0)])).length) Slot.unset).toArray = ls at hl ⊢
  have hl : lv_has ls 1 [(0, .ref (a 0))] := hl
  unfold kf_Th_isFull at hk
  refine lv_aload_n hx hb d_Th_isFull_0 rfl (lv_at hl 0 rfl) ?_
  refine va_get (D := D) (ci := 3) (v := .int σ.2.2.2.2.2) (C := R_Th) (T := F_Th) (N := 6) hx hb hts i_uTh hown hK hP 0 rfl rfl 5 (by decide) (hts _ mw_74) (fun _ h9 => h9) rfl d_Th_isFull_1 ?_
  refine lv_bipush (v := 30) hx hb d_Th_isFull_4 (by decide) ?_
  refine lv_icmp_lt (tgt := 13) hx hb d_Th_isFull_6 (by decide) (fun c1 => ?_) (fun c1 => ?_)
  · have hk := br_p c1 hk
    refine lv_iconst (v := 0) hx hb d_Th_isFull_13 (by decide) ?_
    exact kr_R hx hb hr (by decide) hlocks hS hk d_Th_isFull_14
  · have hk := br_n c1 hk
    refine lv_iconst (v := 1) hx hb d_Th_isFull_9 (by decide) ?_
    refine lv_goto (tgt := 14) hx hb d_Th_isFull_10 (by decide) ?_
    exact kr_R hx hb hr (by decide) hlocks hS hk d_Th_isFull_14
set_option maxHeartbeats 4000000 in
set_option maxRecDepth 100000 in
theorem c_Th_add (l : Launch) (D : va_G) (a : Nat → Nat) (k : Nat → ClassId) (sz : Nat) (σ : S_Th) (p1 p2 p3 p4 p5 : Int32) (r0 : Int32 × S_Th) (hk : kf_Th_add σ p1 p2 p3 p4 p5 = some r0) : Met l y_Th_add w_Th_add ({ frames := 0, cells := 0, slots := 0, locals := 0 }) (kp_P D cls (ty_Th k) (wl_Th a k σ) [.ref (a 0), .int p1, .int p2, .int p3, .int p4, .int p5] sz) (kp_M D cls (wl_Th a k r0.2) (wl_Th a k σ) sz r0.1) 0 0 (va_A (wl_Th a k σ) sz) := by
  refine Met.ofW (cc := b_Th_add) (maxL := 7) (ret := (some .int)) (by decide) rfl ?_
  intro p e s m args below meth c s₁ B hml hv
  obtain ⟨rfl, hsz, hP, hK, hD0⟩ := hv
  have hx := B.exec
  have hb := B.bytes
  have hr := B.returns
  have hts : ∀ w ∈ lw_g, w.before _ s = true := fun w h => atoms_spec (ws := w_Th_add) B.pre w (List.mem_cons_of_mem _ h)
  have hown : s.vm.findClass R_Th = some m.cls := findClass_of_methodNamed B.named
  have hlocks := B.notSynchronized
  subst hsz
  have hA : ∀ q : Nat, s.heap.size ≤ q → (va_A (wl_Th a k σ) s.heap.size) q := fun _ h => Or.inr h
  have hDt : ∀ τ, va_D (fun _ => True) (wl_Th a k τ) := fun τ => kd_cg hD0 rfl
  have hDw : ∀ τ, va_D (va_A (wl_Th a k σ) s.heap.size) (wl_Th a k τ) := fun τ => kd_cg hD0.self rfl
  have hS : va_S (va_A (wl_Th a k σ) s.heap.size) s.heap s.heap [] := va_S.rf
  have hl := lv_entry ([.ref (a 0), .int p1, .int p2, .int p3, .int p4, .int p5]) (n := 7) (Nat.le_of_ble_eq_true rfl)
  rw [lg_entry_eq]
  generalize (lg_sl ([.ref (a 0), .int p1, .int p2, .int p3, .int p4, .int p5]) ++ List.replicate (7 - (lg_sl ([.ref (a 0), .int p1, .int p2, .int p3, .int p4, .int p5])).length) Slot.unset).toArray = ls at hl ⊢
  have hl : lv_has ls 7 [(0, .ref (a 0)), (1, .int p1), (2, .int p2), (3, .int p3), (4, .int p4), (5, .int p5)] := hl
  unfold kf_Th_add at hk
  refine lv_aload_n hx hb d_Th_add_0 rfl (lv_at hl 0 rfl) ?_
  refine va_get (D := D) (ci := 3) (v := .int σ.2.2.2.2.2) (C := R_Th) (T := F_Th) (N := 6) hx hb hts i_uTh hown hK hP 0 rfl rfl 5 (by decide) (hts _ mw_74) (fun _ h9 => h9) rfl d_Th_add_1 ?_
  refine lv_istore (lv' := [(6, .int σ.2.2.2.2.2), (0, .ref (a 0)), (1, .int p1), (2, .int p2), (3, .int p3), (4, .int p4), (5, .int p5)]) hx hb d_Th_add_4 hl (by decide) rfl (fun ls hl => ?_)
  refine lv_aload_n hx hb d_Th_add_6 rfl (lv_at hl 1 rfl) ?_
  refine va_get (D := D) (ci := 3) (v := .ref (a 1)) (C := R_Th) (T := F_Th) (N := 6) hx hb hts i_uTh hown hK hP 0 rfl rfl 0 (by decide) (hts _ mw_69) (fun _ h9 => h9) rfl d_Th_add_7 ?_
  refine lv_iload hx hb d_Th_add_10 (lv_at hl 0 rfl) ?_
  refine lv_iload_n hx hb d_Th_add_12 rfl (lv_at hl 2 rfl) ?_
  obtain ⟨h1, hk⟩ := gd_in hk
  refine va_iast hx hb hK hP (hDw _) hS 1 0 rfl rfl h1 d_Th_add_13 (fun H locs hP _ hS => ?_)
  have hP : va_P D cls (wl_Th a k ((upd σ.1 σ.2.2.2.2.2.toNatClampNeg p1), σ.2.1, σ.2.2.1, σ.2.2.2.1, σ.2.2.2.2.1, σ.2.2.2.2.2)) H := hP
  refine lv_aload_n hx hb d_Th_add_14 rfl (lv_at hl 1 rfl) ?_
  refine va_get (D := D) (ci := 3) (v := .ref (a 2)) (C := R_Th) (T := F_Th) (N := 6) hx hb hts i_uTh hown hK hP 0 rfl rfl 1 (by decide) (hts _ mw_70) (fun _ h9 => h9) rfl d_Th_add_15 ?_
  refine lv_iload hx hb d_Th_add_18 (lv_at hl 0 rfl) ?_
  refine lv_iload_n hx hb d_Th_add_20 rfl (lv_at hl 3 rfl) ?_
  refine va_iast hx hb hK hP (hDw _) hS 2 1 rfl rfl h1 d_Th_add_21 (fun H locs hP _ hS => ?_)
  have hP : va_P D cls (wl_Th a k ((upd σ.1 σ.2.2.2.2.2.toNatClampNeg p1), (upd σ.2.1 σ.2.2.2.2.2.toNatClampNeg p2), σ.2.2.1, σ.2.2.2.1, σ.2.2.2.2.1, σ.2.2.2.2.2)) H := hP
  refine lv_aload_n hx hb d_Th_add_22 rfl (lv_at hl 1 rfl) ?_
  refine va_get (D := D) (ci := 3) (v := .ref (a 3)) (C := R_Th) (T := F_Th) (N := 6) hx hb hts i_uTh hown hK hP 0 rfl rfl 2 (by decide) (hts _ mw_71) (fun _ h9 => h9) rfl d_Th_add_23 ?_
  refine lv_iload hx hb d_Th_add_26 (lv_at hl 0 rfl) ?_
  refine lv_iload_n hx hb d_Th_add_28 rfl (lv_at hl 4 rfl) ?_
  refine va_iast hx hb hK hP (hDw _) hS 3 2 rfl rfl h1 d_Th_add_29 (fun H locs hP _ hS => ?_)
  have hP : va_P D cls (wl_Th a k ((upd σ.1 σ.2.2.2.2.2.toNatClampNeg p1), (upd σ.2.1 σ.2.2.2.2.2.toNatClampNeg p2), (upd σ.2.2.1 σ.2.2.2.2.2.toNatClampNeg p3), σ.2.2.2.1, σ.2.2.2.2.1, σ.2.2.2.2.2)) H := hP
  refine lv_aload_n hx hb d_Th_add_30 rfl (lv_at hl 1 rfl) ?_
  refine va_get (D := D) (ci := 3) (v := .ref (a 4)) (C := R_Th) (T := F_Th) (N := 6) hx hb hts i_uTh hown hK hP 0 rfl rfl 3 (by decide) (hts _ mw_72) (fun _ h9 => h9) rfl d_Th_add_31 ?_
  refine lv_iload hx hb d_Th_add_34 (lv_at hl 0 rfl) ?_
  refine lv_iload hx hb d_Th_add_36 (lv_at hl 5 rfl) ?_
  refine va_iast hx hb hK hP (hDw _) hS 4 3 rfl rfl h1 d_Th_add_38 (fun H locs hP _ hS => ?_)
  have hP : va_P D cls (wl_Th a k ((upd σ.1 σ.2.2.2.2.2.toNatClampNeg p1), (upd σ.2.1 σ.2.2.2.2.2.toNatClampNeg p2), (upd σ.2.2.1 σ.2.2.2.2.2.toNatClampNeg p3), (upd σ.2.2.2.1 σ.2.2.2.2.2.toNatClampNeg p4), σ.2.2.2.2.1, σ.2.2.2.2.2)) H := hP
  refine lv_aload_n hx hb d_Th_add_39 rfl (lv_at hl 1 rfl) ?_
  refine va_get (D := D) (ci := 3) (v := .ref (a 5)) (C := R_Th) (T := F_Th) (N := 6) hx hb hts i_uTh hown hK hP 0 rfl rfl 4 (by decide) (hts _ mw_73) (fun _ h9 => h9) rfl d_Th_add_40 ?_
  refine lv_iload hx hb d_Th_add_43 (lv_at hl 0 rfl) ?_
  refine lv_iload hx hb d_Th_add_45 (lv_at hl 6 rfl) ?_
  refine va_iast hx hb hK hP (hDw _) hS 5 4 rfl rfl h1 d_Th_add_47 (fun H locs hP _ hS => ?_)
  have hP : va_P D cls (wl_Th a k ((upd σ.1 σ.2.2.2.2.2.toNatClampNeg p1), (upd σ.2.1 σ.2.2.2.2.2.toNatClampNeg p2), (upd σ.2.2.1 σ.2.2.2.2.2.toNatClampNeg p3), (upd σ.2.2.2.1 σ.2.2.2.2.2.toNatClampNeg p4), (upd σ.2.2.2.2.1 σ.2.2.2.2.2.toNatClampNeg p5), σ.2.2.2.2.2)) H := hP
  refine lv_aload_n hx hb d_Th_add_48 rfl (lv_at hl 1 rfl) ?_
  refine lv_dup hx hb d_Th_add_49 rfl ?_
  refine va_get (D := D) (ci := 3) (v := .int σ.2.2.2.2.2) (C := R_Th) (T := F_Th) (N := 6) hx hb hts i_uTh hown hK hP 0 rfl rfl 5 (by decide) (hts _ mw_74) (fun _ h9 => h9) rfl d_Th_add_50 ?_
  refine lv_iconst (v := 1) hx hb d_Th_add_53 (by decide) ?_
  refine lv_iadd hx hb d_Th_add_54 ?_
  refine va_put (D := D) (ci := 3) (v := .int (σ.2.2.2.2.2 + 1)) (ty := .int) (C := R_Th) (T := F_Th) (N := 6) hx hb hts i_uTh t_Th t_Th_ok n_Th hown hK hP (hDw _) hS 0 rfl rfl 5 (by decide) (hts _ mw_74) (fun _ h9 => h9) rfl (t_Th_ok 5 (by decide)) rfl rfl (Nat.le_of_ble_eq_true rfl) d_Th_add_55 (fun H locs hP _ hS => ?_)
  have hP : va_P D cls (wl_Th a k ((upd σ.1 σ.2.2.2.2.2.toNatClampNeg p1), (upd σ.2.1 σ.2.2.2.2.2.toNatClampNeg p2), (upd σ.2.2.1 σ.2.2.2.2.2.toNatClampNeg p3), (upd σ.2.2.2.1 σ.2.2.2.2.2.toNatClampNeg p4), (upd σ.2.2.2.2.1 σ.2.2.2.2.2.toNatClampNeg p5), (σ.2.2.2.2.2 + 1))) H := hP
  refine lv_iload hx hb d_Th_add_58 (lv_at hl 0 rfl) ?_
  exact kr_M (w := wl_Th a k) hx hb hr rfl hlocks hS hP hk d_Th_add_60
set_option maxHeartbeats 4000000 in
set_option maxRecDepth 100000 in
theorem c_Th_placeOf (l : Launch) (D : va_G) (a : Nat → Nat) (k : Nat → ClassId) (sz : Nat) (σ : S_Th) (p1 : Int32) (r0 : Int32) (hk : kf_Th_placeOf σ p1 = some r0) : Met l y_Th_placeOf w_Th_placeOf ({ frames := 0, cells := 0, slots := 0, locals := 0 }) (kp_P D cls (ty_Th k) (wl_Th a k σ) [.ref (a 0), .int p1] sz) (kp_R sz r0) 0 0 (va_A [] sz) := by
  refine Met.ofW (cc := b_Th_placeOf) (maxL := 2) (ret := (some .int)) (by decide) rfl ?_
  intro p e s m args below meth c s₁ B hml hv
  obtain ⟨rfl, hsz, hP, hK, hD0⟩ := hv
  have hx := B.exec
  have hb := B.bytes
  have hr := B.returns
  have hts : ∀ w ∈ lw_g, w.before _ s = true := fun w h => atoms_spec (ws := w_Th_placeOf) B.pre w (List.mem_cons_of_mem _ h)
  have hown : s.vm.findClass R_Th = some m.cls := findClass_of_methodNamed B.named
  have hlocks := B.notSynchronized
  subst hsz
  have hA : ∀ q : Nat, s.heap.size ≤ q → (va_A ([]) s.heap.size) q := fun _ h => Or.inr h
  have hDt : ∀ τ, va_D (fun _ => True) (wl_Th a k τ) := fun τ => kd_cg hD0 rfl
  have hS : va_S (va_A ([]) s.heap.size) s.heap s.heap [] := va_S.rf
  have hl := lv_entry ([.ref (a 0), .int p1]) (n := 2) (Nat.le_of_ble_eq_true rfl)
  rw [lg_entry_eq]
  generalize (lg_sl ([.ref (a 0), .int p1]) ++ List.replicate (2 - (lg_sl ([.ref (a 0), .int p1])).length) Slot.unset).toArray = ls at hl ⊢
  have hl : lv_has ls 2 [(0, .ref (a 0)), (1, .int p1)] := hl
  unfold kf_Th_placeOf at hk
  refine lv_aload_n hx hb d_Th_placeOf_0 rfl (lv_at hl 0 rfl) ?_
  refine va_get (D := D) (ci := 3) (v := .ref (a 1)) (C := R_Th) (T := F_Th) (N := 6) hx hb hts i_uTh hown hK hP 0 rfl rfl 0 (by decide) (hts _ mw_69) (fun _ h9 => h9) rfl d_Th_placeOf_1 ?_
  refine lv_iload_n hx hb d_Th_placeOf_4 rfl (lv_at hl 1 rfl) ?_
  obtain ⟨h1, hk⟩ := gd_in hk
  refine va_iald hx hb hK hP 1 0 rfl rfl h1 d_Th_placeOf_5 ?_
  exact kr_R hx hb hr rfl hlocks hS hk d_Th_placeOf_6
set_option maxHeartbeats 4000000 in
set_option maxRecDepth 100000 in
theorem c_Th_allowsLength (l : Launch) (D : va_G) (a : Nat → Nat) (k : Nat → ClassId) (sz : Nat) (σ : S_Th) (p1 p2 : Int32) (r0 : Int32) (hk : kf_Th_allowsLength σ p1 p2 = some r0) : Met l y_Th_allowsLength w_Th_allowsLength ({ frames := 0, cells := 0, slots := 0, locals := 0 }) (kp_P D cls (ty_Th k) (wl_Th a k σ) [.ref (a 0), .int p1, .int p2] sz) (kp_R sz r0) 0 0 (va_A [] sz) := by
  refine Met.ofW (cc := b_Th_allowsLength) (maxL := 3) (ret := (some .boolean)) (by decide) rfl ?_
  intro p e s m args below meth c s₁ B hml hv
  obtain ⟨rfl, hsz, hP, hK, hD0⟩ := hv
  have hx := B.exec
  have hb := B.bytes
  have hr := B.returns
  have hts : ∀ w ∈ lw_g, w.before _ s = true := fun w h => atoms_spec (ws := w_Th_allowsLength) B.pre w (List.mem_cons_of_mem _ h)
  have hown : s.vm.findClass R_Th = some m.cls := findClass_of_methodNamed B.named
  have hlocks := B.notSynchronized
  subst hsz
  have hA : ∀ q : Nat, s.heap.size ≤ q → (va_A ([]) s.heap.size) q := fun _ h => Or.inr h
  have hDt : ∀ τ, va_D (fun _ => True) (wl_Th a k τ) := fun τ => kd_cg hD0 rfl
  have hS : va_S (va_A ([]) s.heap.size) s.heap s.heap [] := va_S.rf
  have hl := lv_entry ([.ref (a 0), .int p1, .int p2]) (n := 3) (Nat.le_of_ble_eq_true rfl)
  rw [lg_entry_eq]
  generalize (lg_sl ([.ref (a 0), .int p1, .int p2]) ++ List.replicate (3 - (lg_sl ([.ref (a 0), .int p1, .int p2])).length) Slot.unset).toArray = ls at hl ⊢
  have hl : lv_has ls 3 [(0, .ref (a 0)), (1, .int p1), (2, .int p2)] := hl
  unfold kf_Th_allowsLength at hk
  refine lv_aload_n hx hb d_Th_allowsLength_0 rfl (lv_at hl 0 rfl) ?_
  refine va_get (D := D) (ci := 3) (v := .ref (a 2)) (C := R_Th) (T := F_Th) (N := 6) hx hb hts i_uTh hown hK hP 0 rfl rfl 1 (by decide) (hts _ mw_70) (fun _ h9 => h9) rfl d_Th_allowsLength_1 ?_
  refine lv_iload_n hx hb d_Th_allowsLength_4 rfl (lv_at hl 1 rfl) ?_
  obtain ⟨h1, hk⟩ := gd_in hk
  refine va_iald hx hb hK hP 2 1 rfl rfl h1 d_Th_allowsLength_5 ?_
  refine lv_iload_n hx hb d_Th_allowsLength_6 rfl (lv_at hl 2 rfl) ?_
  refine lv_icmp_gt (tgt := 24) hx hb d_Th_allowsLength_7 (by decide) (fun c2 => ?_) (fun c2 => ?_)
  · have hk := br_p c2 hk
    refine lv_iconst (v := 0) hx hb d_Th_allowsLength_24 (by decide) ?_
    exact kr_R hx hb hr (by decide) hlocks hS hk d_Th_allowsLength_25
  · have hk := br_n c2 hk
    refine lv_iload_n hx hb d_Th_allowsLength_10 rfl (lv_at hl 2 rfl) ?_
    refine lv_aload_n hx hb d_Th_allowsLength_11 rfl (lv_at hl 0 rfl) ?_
    refine va_get (D := D) (ci := 3) (v := .ref (a 3)) (C := R_Th) (T := F_Th) (N := 6) hx hb hts i_uTh hown hK hP 0 rfl rfl 2 (by decide) (hts _ mw_71) (fun _ h9 => h9) rfl d_Th_allowsLength_12 ?_
    refine lv_iload_n hx hb d_Th_allowsLength_15 rfl (lv_at hl 1 rfl) ?_
    refine va_iald hx hb hK hP 3 2 rfl rfl h1 d_Th_allowsLength_16 ?_
    refine lv_icmp_gt (tgt := 24) hx hb d_Th_allowsLength_17 (by decide) (fun c3 => ?_) (fun c3 => ?_)
    · have hk := br_p c3 hk
      refine lv_iconst (v := 0) hx hb d_Th_allowsLength_24 (by decide) ?_
      exact kr_R hx hb hr (by decide) hlocks hS hk d_Th_allowsLength_25
    · have hk := br_n c3 hk
      refine lv_iconst (v := 1) hx hb d_Th_allowsLength_20 (by decide) ?_
      refine lv_goto (tgt := 25) hx hb d_Th_allowsLength_21 (by decide) ?_
      exact kr_R hx hb hr (by decide) hlocks hS hk d_Th_allowsLength_25
set_option maxHeartbeats 4000000 in
set_option maxRecDepth 100000 in
theorem c_Th_aheadOf (l : Launch) (D : va_G) (a : Nat → Nat) (k : Nat → ClassId) (sz : Nat) (σ : S_Th) (p1 : Int32) (r0 : Int32) (hk : kf_Th_aheadOf σ p1 = some r0) : Met l y_Th_aheadOf w_Th_aheadOf ({ frames := 0, cells := 0, slots := 0, locals := 0 }) (kp_P D cls (ty_Th k) (wl_Th a k σ) [.ref (a 0), .int p1] sz) (kp_R sz r0) 0 0 (va_A [] sz) := by
  refine Met.ofW (cc := b_Th_aheadOf) (maxL := 2) (ret := (some .int)) (by decide) rfl ?_
  intro p e s m args below meth c s₁ B hml hv
  obtain ⟨rfl, hsz, hP, hK, hD0⟩ := hv
  have hx := B.exec
  have hb := B.bytes
  have hr := B.returns
  have hts : ∀ w ∈ lw_g, w.before _ s = true := fun w h => atoms_spec (ws := w_Th_aheadOf) B.pre w (List.mem_cons_of_mem _ h)
  have hown : s.vm.findClass R_Th = some m.cls := findClass_of_methodNamed B.named
  have hlocks := B.notSynchronized
  subst hsz
  have hA : ∀ q : Nat, s.heap.size ≤ q → (va_A ([]) s.heap.size) q := fun _ h => Or.inr h
  have hDt : ∀ τ, va_D (fun _ => True) (wl_Th a k τ) := fun τ => kd_cg hD0 rfl
  have hS : va_S (va_A ([]) s.heap.size) s.heap s.heap [] := va_S.rf
  have hl := lv_entry ([.ref (a 0), .int p1]) (n := 2) (Nat.le_of_ble_eq_true rfl)
  rw [lg_entry_eq]
  generalize (lg_sl ([.ref (a 0), .int p1]) ++ List.replicate (2 - (lg_sl ([.ref (a 0), .int p1])).length) Slot.unset).toArray = ls at hl ⊢
  have hl : lv_has ls 2 [(0, .ref (a 0)), (1, .int p1)] := hl
  unfold kf_Th_aheadOf at hk
  refine lv_aload_n hx hb d_Th_aheadOf_0 rfl (lv_at hl 0 rfl) ?_
  refine va_get (D := D) (ci := 3) (v := .ref (a 4)) (C := R_Th) (T := F_Th) (N := 6) hx hb hts i_uTh hown hK hP 0 rfl rfl 3 (by decide) (hts _ mw_72) (fun _ h9 => h9) rfl d_Th_aheadOf_1 ?_
  refine lv_iload_n hx hb d_Th_aheadOf_4 rfl (lv_at hl 1 rfl) ?_
  obtain ⟨h1, hk⟩ := gd_in hk
  refine va_iald hx hb hK hP 4 3 rfl rfl h1 d_Th_aheadOf_5 ?_
  exact kr_R hx hb hr rfl hlocks hS hk d_Th_aheadOf_6
set_option maxHeartbeats 4000000 in
set_option maxRecDepth 100000 in
theorem c_Th_graceOf (l : Launch) (D : va_G) (a : Nat → Nat) (k : Nat → ClassId) (sz : Nat) (σ : S_Th) (p1 : Int32) (r0 : Int32) (hk : kf_Th_graceOf σ p1 = some r0) : Met l y_Th_graceOf w_Th_graceOf ({ frames := 0, cells := 0, slots := 0, locals := 0 }) (kp_P D cls (ty_Th k) (wl_Th a k σ) [.ref (a 0), .int p1] sz) (kp_R sz r0) 0 0 (va_A [] sz) := by
  refine Met.ofW (cc := b_Th_graceOf) (maxL := 2) (ret := (some .int)) (by decide) rfl ?_
  intro p e s m args below meth c s₁ B hml hv
  obtain ⟨rfl, hsz, hP, hK, hD0⟩ := hv
  have hx := B.exec
  have hb := B.bytes
  have hr := B.returns
  have hts : ∀ w ∈ lw_g, w.before _ s = true := fun w h => atoms_spec (ws := w_Th_graceOf) B.pre w (List.mem_cons_of_mem _ h)
  have hown : s.vm.findClass R_Th = some m.cls := findClass_of_methodNamed B.named
  have hlocks := B.notSynchronized
  subst hsz
  have hA : ∀ q : Nat, s.heap.size ≤ q → (va_A ([]) s.heap.size) q := fun _ h => Or.inr h
  have hDt : ∀ τ, va_D (fun _ => True) (wl_Th a k τ) := fun τ => kd_cg hD0 rfl
  have hS : va_S (va_A ([]) s.heap.size) s.heap s.heap [] := va_S.rf
  have hl := lv_entry ([.ref (a 0), .int p1]) (n := 2) (Nat.le_of_ble_eq_true rfl)
  rw [lg_entry_eq]
  generalize (lg_sl ([.ref (a 0), .int p1]) ++ List.replicate (2 - (lg_sl ([.ref (a 0), .int p1])).length) Slot.unset).toArray = ls at hl ⊢
  have hl : lv_has ls 2 [(0, .ref (a 0)), (1, .int p1)] := hl
  unfold kf_Th_graceOf at hk
  refine lv_aload_n hx hb d_Th_graceOf_0 rfl (lv_at hl 0 rfl) ?_
  refine va_get (D := D) (ci := 3) (v := .ref (a 5)) (C := R_Th) (T := F_Th) (N := 6) hx hb hts i_uTh hown hK hP 0 rfl rfl 4 (by decide) (hts _ mw_73) (fun _ h9 => h9) rfl d_Th_graceOf_1 ?_
  refine lv_iload_n hx hb d_Th_graceOf_4 rfl (lv_at hl 1 rfl) ?_
  obtain ⟨h1, hk⟩ := gd_in hk
  refine va_iald hx hb hK hP 5 4 rfl rfl h1 d_Th_graceOf_5 ?_
  exact kr_R hx hb hr rfl hlocks hS hk d_Th_graceOf_6
end
