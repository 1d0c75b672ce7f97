def i_Br : S_Br := (i_Ca, i_Th, i_Bk, i_Wi, i_Pe, 0)
def kf_Br_isWithin (p0 p1 p2 : Int32) : Option (Int32) :=
  (if p0 < p1 then (some 0) else
  (if p2 < p0 then (some 0) else
  (some 1)))
def kf_Br_isPlace (p0 : Int32) : Option (Int32) :=
  ((kf_Br_isWithin p0 0 3).bind fun q1 =>
  (if ¬ (q1 &&& 1 = q1) then none else
  (some q1)))
def kf_Br_thing_51 (p1 p2 p3 p4 p5 : Int32) (x6 : Int32) (y0 : Int32) (τ : S_Br) : Option (Int32 × S_Br) :=
  ((kf_Br_isPlace p1).bind fun q1 =>
  (if q1 = 0 then (some ((-1), τ)) else
  (if x6 = 0 then (some ((-1), τ)) else
  (if y0 = 0 then (some ((-1), τ)) else
  ((kf_Th_isFull τ.2.1).bind fun q5 =>
  (if q5 = 0 then ((kf_Th_add τ.2.1 p1 p2 p3 p4 p5).bind fun q7 =>
  (some (q7.1, (τ.1, q7.2, τ.2.2.1, τ.2.2.2.1, τ.2.2.2.2.1, τ.2.2.2.2.2)))) else
  (some ((-1), τ))))))))
def kf_Br_thing_22 (p1 p2 p3 p4 p5 : Int32) (y0 : Int32) (τ : S_Br) : Option (Int32 × S_Br) :=
  ((kf_Br_isWithin p4 0 100000).bind fun q8 =>
  (if q8 = 0 then (kf_Br_thing_51 p1 p2 p3 p4 p5 y0 0 τ) else
  ((kf_Br_isWithin p5 0 120).bind fun q10 =>
  (if q10 = 0 then (kf_Br_thing_51 p1 p2 p3 p4 p5 y0 0 τ) else
  (kf_Br_thing_51 p1 p2 p3 p4 p5 y0 1 τ)))))
def kf_Br_thing (σ : S_Br) (p1 p2 p3 p4 p5 : Int32) : Option (Int32 × S_Br) :=
  (if p2 < 1 then (kf_Br_thing_22 p1 p2 p3 p4 p5 0 σ) else
  (if p3 < p2 then (kf_Br_thing_22 p1 p2 p3 p4 p5 0 σ) else
  (if 1440 < p3 then (kf_Br_thing_22 p1 p2 p3 p4 p5 0 σ) else
  (kf_Br_thing_22 p1 p2 p3 p4 p5 1 σ))))
def kf_Br_hours_71 (p1 p2 p3 p4 : Int32) (τ : S_Br) : Option (Int32 × S_Br) :=
  ((kf_Ca_setHours τ.1 p1 p2 p3 p4).bind fun q1 =>
  (some (1, (q1, τ.2.1, τ.2.2.1, τ.2.2.2.1, τ.2.2.2.2.1, τ.2.2.2.2.2))))
def kf_Br_hours_40 (p1 p2 p3 p4 : Int32) (x5 : Int32) (y0 : Int32) (τ : S_Br) : Option (Int32 × S_Br) :=
  ((kf_Br_isPlace p1).bind fun q2 =>
  (if q2 = 0 then (some (0, τ)) else
  ((kf_Br_isWithin p2 0 6).bind fun q4 =>
  (if q4 = 0 then (some (0, τ)) else
  (if x5 = 0 then (if y0 = 0 then (some (0, τ)) else
  (kf_Br_hours_71 p1 p2 p3 p4 τ)) else
  (kf_Br_hours_71 p1 p2 p3 p4 τ))))))
def kf_Br_hours_14 (p1 p2 p3 p4 : Int32) (y0 : Int32) (τ : S_Br) : Option (Int32 × S_Br) :=
  (if p3 < 0 then (kf_Br_hours_40 p1 p2 p3 p4 y0 0 τ) else
  (if p4 ≤ p3 then (kf_Br_hours_40 p1 p2 p3 p4 y0 0 τ) else
  (if 1440 < p4 then (kf_Br_hours_40 p1 p2 p3 p4 y0 0 τ) else
  (kf_Br_hours_40 p1 p2 p3 p4 y0 1 τ))))
def kf_Br_hours (σ : S_Br) (p1 p2 p3 p4 : Int32) : Option (Int32 × S_Br) :=
  (if p3 = 0 then (if p4 = 0 then (kf_Br_hours_14 p1 p2 p3 p4 1 σ) else
  (kf_Br_hours_14 p1 p2 p3 p4 0 σ)) else
  (kf_Br_hours_14 p1 p2 p3 p4 0 σ))
def kf_Br_holiday (σ : S_Br) (p1 : Int32) : Option (Int32 × S_Br) :=
  ((kf_Br_isWithin p1 0 694).bind fun q1 =>
  (if q1 = 0 then (some (0, σ)) else
  ((kf_Ca_isHoliday σ.1 p1).bind fun q3 =>
  (if q3 = 0 then ((kf_Ca_isFull σ.1).bind fun q5 =>
  (if q5 = 0 then ((kf_Ca_addHoliday σ.1 p1).bind fun q7 =>
  (some (q7.1, (q7.2, σ.2.1, σ.2.2.1, σ.2.2.2.1, σ.2.2.2.2.1, σ.2.2.2.2.2)))) else
  (some (0, σ)))) else
  (some (0, σ))))))
def kf_Br_isPerson (p0 : Int32) : Option (Int32) :=
  ((kf_Br_isWithin p0 0 39).bind fun q1 =>
  (if ¬ (q1 &&& 1 = q1) then none else
  (some q1)))
def kf_Br_isTime (p0 : Int32) : Option (Int32) :=
  ((kf_Br_isWithin p0 0 1000000).bind fun q1 =>
  (if ¬ (q1 &&& 1 = q1) then none else
  (some q1)))
def kf_Br_refusalOf_140 (σ : S_Br) (p1 p2 p3 p4 p5 : Int32) : Option (Int32) :=
  ((kf_Bk_isTaken σ.2.2.1 p2 p3 p4 p5).bind fun q1 =>
  (if q1 = 0 then (some 0) else
  (some (-6))))
def kf_Br_refusalOf_103 (σ : S_Br) (p1 p2 p3 p4 p5 : Int32) (y0 : Int32) : Option (Int32) :=
  (if y0 = 0 then ((kf_Pe_isBarred σ.2.2.2.2.1 p1 σ.2.2.2.2.2).bind fun q4 =>
  (if q4 = 0 then ((kf_Bk_livingOf σ.2.2.1 p1).bind fun q6 =>
  (if q6 < 5 then (kf_Br_refusalOf_140 σ p1 p2 p3 p4 p5 ) else
  (some (-5)))) else
  (some (-5)))) else
  (kf_Br_refusalOf_140 σ p1 p2 p3 p4 p5 ))
def kf_Br_refusalOf (σ : S_Br) (p1 p2 p3 p4 p5 : Int32) : Option (Int32) :=
  ((kf_Br_isTime p3).bind fun q8 =>
  (if q8 = 0 then (some (-1)) else
  ((kf_Br_isTime p4).bind fun q10 =>
  (if q10 = 0 then (some (-1)) else
  (if p3 < p4 then ((kf_Th_allowsLength σ.2.1 p2 (p4 - p3)).bind fun q13 =>
  (if q13 = 0 then (some (-2)) else
  (if p3 < σ.2.2.2.2.2 then (some (-3)) else
  ((kf_Th_aheadOf σ.2.1 p2).bind fun q16 =>
  (if (p3 - σ.2.2.2.2.2) ≤ q16 then ((kf_Th_placeOf σ.2.1 p2).bind fun q18 =>
  ((kf_Ca_isOpen σ.1 q18 p3 p4).bind fun q19 =>
  (if q19 = 0 then (some (-4)) else
  (if p5 = 0 then (kf_Br_refusalOf_103 σ p1 p2 p3 p4 p5 0) else
  (kf_Br_refusalOf_103 σ p1 p2 p3 p4 p5 1))))) else
  (some (-3))))))) else
  (some (-1)))))))
def kf_Br_tryBooking (σ : S_Br) (p1 p2 p3 p4 : Int32) : Option (Int32 × S_Br) :=
  ((kf_Bk_isFull σ.2.2.1).bind fun q1 =>
  (if q1 = 0 then ((kf_Br_refusalOf σ p1 p2 p3 p4 0).bind fun q3 =>
  (if q3 = 0 then ((kf_Bk_add σ.2.2.1 p1 p2 p3 p4 0).bind fun q5 =>
  (some (q5.1, (σ.1, σ.2.1, q5.2, σ.2.2.2.1, σ.2.2.2.2.1, σ.2.2.2.2.2)))) else
  (some (q3, σ)))) else
  (some (0, σ))))
def kf_Br_book (σ : S_Br) (p1 p2 p3 p4 : Int32) : Option (Int32 × S_Br) :=
  ((kf_Br_isPerson p1).bind fun q1 =>
  (if q1 = 0 then (some (0, σ)) else
  ((kf_Th_has σ.2.1 p2).bind fun q3 =>
  (if q3 = 0 then (some (0, σ)) else
  ((kf_Br_tryBooking σ p1 p2 p3 p4).bind fun q5 =>
  (some (q5.1, q5.2)))))))
def kf_Br_recurring_72 (p1 p2 p3 : Int32) : Nat → Int32 → Int32 → Int32 → Int32 → S_Br → Option (Int32 × S_Br)
  | 0, _, _, _, _, _ => none
  | n72 + 1, x4, x5, x6, x7, τ =>
  (if p3 < x7 then (some (x6, τ)) else
  ((kf_Bk_fromOf τ.2.2.1 p1).bind fun q2 =>
  ((kf_Bk_toOf τ.2.2.1 p1).bind fun q3 =>
  ((kf_Br_tryBooking τ x4 x5 (q2 + ((x7 * p2) * 1440)) (q3 + ((x7 * p2) * 1440))).bind fun q4 =>
  (if q4.1 = 0 then (some (x6, q4.2)) else
  (if q4.1 = (-3) then (some (x6, q4.2)) else
  (if q4.1 ≤ 0 then (kf_Br_recurring_72 p1 p2 p3 n72 x4 x5 x6 (x7 + 1) q4.2) else
  (kf_Br_recurring_72 p1 p2 p3 n72 x4 x5 (x6 + 1) (x7 + 1) q4.2))))))))
theorem kf_Br_recurring_72_s (p1 p2 p3 : Int32) (n72 : Nat) (x4 : Int32) (x5 : Int32) (x6 : Int32) (x7 : Int32) (τ : S_Br) : kf_Br_recurring_72 p1 p2 p3 (n72 + 1) x4 x5 x6 x7 τ =
  (if p3 < x7 then (some (x6, τ)) else
  ((kf_Bk_fromOf τ.2.2.1 p1).bind fun q2 =>
  ((kf_Bk_toOf τ.2.2.1 p1).bind fun q3 =>
  ((kf_Br_tryBooking τ x4 x5 (q2 + ((x7 * p2) * 1440)) (q3 + ((x7 * p2) * 1440))).bind fun q4 =>
  (if q4.1 = 0 then (some (x6, q4.2)) else
  (if q4.1 = (-3) then (some (x6, q4.2)) else
  (if q4.1 ≤ 0 then (kf_Br_recurring_72 p1 p2 p3 n72 x4 x5 x6 (x7 + 1) q4.2) else
  (kf_Br_recurring_72 p1 p2 p3 n72 x4 x5 (x6 + 1) (x7 + 1) q4.2)))))))) := rfl
def kf_Br_recurring (σ : S_Br) (p1 p2 p3 : Int32) : Option (Int32 × S_Br) :=
  ((kf_Bk_has σ.2.2.1 p1).bind fun q8 =>
  (if q8 = 0 then (some (0, σ)) else
  ((kf_Bk_lives σ.2.2.1 p1).bind fun q10 =>
  (if q10 = 0 then (some (0, σ)) else
  ((kf_Br_isWithin p2 1 60).bind fun q12 =>
  (if q12 = 0 then (some (0, σ)) else
  ((kf_Br_isWithin p3 1 20).bind fun q14 =>
  (if q14 = 0 then (some (0, σ)) else
  ((kf_Bk_personOf σ.2.2.1 p1).bind fun q16 =>
  ((kf_Bk_thingOf σ.2.2.1 p1).bind fun q17 =>
  (kf_Br_recurring_72 p1 p2 p3 FU q16 q17 0 1 σ)))))))))))
def kf_Br_serveWishes_13 (p1 : Int32) : Nat → Int32 → Int32 → Int32 → S_Br → Option (Int32 × S_Br)
  | 0, _, _, _, _ => none
  | n13 + 1, x2, x3, x4, τ =>
  (if x4 ≤ 0 then (some (x2, τ)) else
  ((kf_Wi_thingOf τ.2.2.2.1 x3).bind fun q2 =>
  (if q2 = p1 then ((kf_Wi_personOf τ.2.2.2.1 x3).bind fun q4 =>
  ((kf_Wi_fromOf τ.2.2.2.1 x3).bind fun q5 =>
  ((kf_Wi_toOf τ.2.2.2.1 x3).bind fun q6 =>
  ((kf_Br_tryBooking τ q4 p1 q5 q6).bind fun q7 =>
  (if q7.1 ≤ 0 then (kf_Br_serveWishes_13 p1 n13 x2 (x3 + 1) (x4 + (-1)) q7.2) else
  ((kf_Wi_removeAt q7.2.2.2.2.1 x3).bind fun q9 =>
  (kf_Br_serveWishes_13 p1 n13 (x2 + 1) x3 (x4 + (-1)) (q7.2.1, q7.2.2.1, q7.2.2.2.1, q9, q7.2.2.2.2.2.1, q7.2.2.2.2.2.2)))))))) else
  (kf_Br_serveWishes_13 p1 n13 x2 (x3 + 1) (x4 + (-1)) τ))))
theorem kf_Br_serveWishes_13_s (p1 : Int32) (n13 : Nat) (x2 : Int32) (x3 : Int32) (x4 : Int32) (τ : S_Br) : kf_Br_serveWishes_13 p1 (n13 + 1) x2 x3 x4 τ =
  (if x4 ≤ 0 then (some (x2, τ)) else
  ((kf_Wi_thingOf τ.2.2.2.1 x3).bind fun q2 =>
  (if q2 = p1 then ((kf_Wi_personOf τ.2.2.2.1 x3).bind fun q4 =>
  ((kf_Wi_fromOf τ.2.2.2.1 x3).bind fun q5 =>
  ((kf_Wi_toOf τ.2.2.2.1 x3).bind fun q6 =>
  ((kf_Br_tryBooking τ q4 p1 q5 q6).bind fun q7 =>
  (if q7.1 ≤ 0 then (kf_Br_serveWishes_13 p1 n13 x2 (x3 + 1) (x4 + (-1)) q7.2) else
  ((kf_Wi_removeAt q7.2.2.2.2.1 x3).bind fun q9 =>
  (kf_Br_serveWishes_13 p1 n13 (x2 + 1) x3 (x4 + (-1)) (q7.2.1, q7.2.2.1, q7.2.2.2.1, q9, q7.2.2.2.2.2.1, q7.2.2.2.2.2.2)))))))) else
  (kf_Br_serveWishes_13 p1 n13 x2 (x3 + 1) (x4 + (-1)) τ)))) := rfl
def kf_Br_serveWishes (σ : S_Br) (p1 : Int32) : Option (Int32 × S_Br) :=
  ((kf_Wi_size σ.2.2.2.1).bind fun q10 =>
  (kf_Br_serveWishes_13 p1 FU 0 0 q10 σ))
def kf_Br_release_14 (p1 p2 : Int32) : Nat → Int32 → Int32 → S_Br → Option (Int32 × S_Br)
  | 0, _, _, _ => none
  | n14 + 1, x3, x4, τ =>
  ((kf_Bk_turnedSize τ.2.2.1).bind fun q1 =>
  (if q1 ≤ x4 then (some (x3, τ)) else
  ((kf_Bk_turnedThing τ.2.2.1 x4).bind fun q3 =>
  ((kf_Br_serveWishes τ q3).bind fun q4 =>
  (kf_Br_release_14 p1 p2 n14 (x3 + q4.1) (x4 + 1) q4.2)))))
theorem kf_Br_release_14_s (p1 p2 : Int32) (n14 : Nat) (x3 : Int32) (x4 : Int32) (τ : S_Br) : kf_Br_release_14 p1 p2 (n14 + 1) x3 x4 τ =
  ((kf_Bk_turnedSize τ.2.2.1).bind fun q1 =>
  (if q1 ≤ x4 then (some (x3, τ)) else
  ((kf_Bk_turnedThing τ.2.2.1 x4).bind fun q3 =>
  ((kf_Br_serveWishes τ q3).bind fun q4 =>
  (kf_Br_release_14 p1 p2 n14 (x3 + q4.1) (x4 + 1) q4.2))))) := rfl
def kf_Br_release (σ : S_Br) (p1 p2 : Int32) : Option (Int32 × S_Br) :=
  ((kf_Bk_turn σ.2.2.1 p1 p2).bind fun q5 =>
  (kf_Br_release_14 p1 p2 FU 0 0 (σ.1, σ.2.1, q5, σ.2.2.2.1, σ.2.2.2.2.1, σ.2.2.2.2.2)))
def kf_Br_cancel (σ : S_Br) (p1 p2 : Int32) : Option (Int32 × S_Br) :=
  ((kf_Bk_isBookedBy σ.2.2.1 p1 p2).bind fun q1 =>
  (if q1 = 0 then (some (0, σ)) else
  ((kf_Bk_fromOf σ.2.2.1 p1).bind fun q3 =>
  (if σ.2.2.2.2.2 < q3 then ((kf_Br_release σ p1 3).bind fun q5 =>
  (some ((1 + q5.1), q5.2))) else
  (some ((-1), σ))))))
def kf_Br_lastCheckIn (σ : S_Br) (p1 : Int32) : Option (Int32) :=
  ((kf_Bk_fromOf σ.2.2.1 p1).bind fun q1 =>
  ((kf_Bk_thingOf σ.2.2.1 p1).bind fun q2 =>
  ((kf_Th_graceOf σ.2.1 q2).bind fun q3 =>
  (some (q1 + q3)))))
def kf_Br_checkIn (σ : S_Br) (p1 p2 : Int32) : Option (Int32 × S_Br) :=
  ((kf_Bk_isBookedBy σ.2.2.1 p1 p2).bind fun q1 =>
  (if q1 = 0 then (some (0, σ)) else
  ((kf_Bk_fromOf σ.2.2.1 p1).bind fun q3 =>
  (if σ.2.2.2.2.2 < (q3 - 15) then (some ((-1), σ)) else
  ((kf_Br_lastCheckIn σ p1).bind fun q5 =>
  (if σ.2.2.2.2.2 ≤ q5 then ((kf_Bk_turn σ.2.2.1 p1 1).bind fun q7 =>
  (some (1, (σ.1, σ.2.1, q7, σ.2.2.2.1, σ.2.2.2.2.1, σ.2.2.2.2.2)))) else
  (some ((-1), σ))))))))
def kf_Br_edit (σ : S_Br) (p1 p2 p3 p4 : Int32) : Option (Int32 × S_Br) :=
  ((kf_Bk_isBookedBy σ.2.2.1 p1 p2).bind fun q1 =>
  (if q1 = 0 then (some (0, σ)) else
  ((kf_Bk_isEquipment σ.2.2.1 p1).bind fun q3 =>
  (if q3 = 0 then ((kf_Bk_hasLivingEquipment σ.2.2.1 p1).bind fun q5 =>
  (if q5 = 0 then ((kf_Bk_thingOf σ.2.2.1 p1).bind fun q7 =>
  ((kf_Br_refusalOf σ p2 q7 p3 p4 p1).bind fun q8 =>
  (if q8 = 0 then ((kf_Bk_setTimes σ.2.2.1 p1 p3 p4).bind fun q10 =>
  (some (1, (σ.1, σ.2.1, q10, σ.2.2.2.1, σ.2.2.2.2.1, σ.2.2.2.2.2)))) else
  (some (q8, σ))))) else
  (some (0, σ)))) else
  (some (0, σ))))))
def kf_Br_equip (σ : S_Br) (p1 p2 : Int32) : Option (Int32 × S_Br) :=
  ((kf_Bk_has σ.2.2.1 p1).bind fun q1 =>
  (if q1 = 0 then (some (0, σ)) else
  ((kf_Bk_isBooked σ.2.2.1 p1).bind fun q3 =>
  (if q3 = 0 then (some (0, σ)) else
  ((kf_Bk_isEquipment σ.2.2.1 p1).bind fun q5 =>
  (if q5 = 0 then ((kf_Bk_isFull σ.2.2.1).bind fun q7 =>
  (if q7 = 0 then ((kf_Bk_thingOf σ.2.2.1 p1).bind fun q9 =>
  ((kf_Th_has σ.2.1 p2).bind fun q10 =>
  (if q10 = 0 then (some (0, σ)) else
  (if p2 = q9 then (some (0, σ)) else
  ((kf_Th_placeOf σ.2.1 p2).bind fun q13 =>
  ((kf_Th_placeOf σ.2.1 q9).bind fun q14 =>
  (if q13 = q14 then ((kf_Bk_fromOf σ.2.2.1 p1).bind fun q16 =>
  ((kf_Bk_toOf σ.2.2.1 p1).bind fun q17 =>
  ((kf_Bk_isTaken σ.2.2.1 p2 q16 q17 0).bind fun q18 =>
  (if q18 = 0 then ((kf_Bk_personOf σ.2.2.1 p1).bind fun q20 =>
  ((kf_Bk_add σ.2.2.1 q20 p2 q16 q17 p1).bind fun q21 =>
  (some (q21.1, (σ.1, σ.2.1, q21.2, σ.2.2.2.1, σ.2.2.2.2.1, σ.2.2.2.2.2))))) else
  (some ((-6), σ)))))) else
  (some (0, σ))))))))) else
  (some (0, σ)))) else
  (some (0, σ))))))))
def kf_Br_wish (σ : S_Br) (p1 p2 p3 p4 p5 : Int32) : Option (Int32 × S_Br) :=
  ((kf_Br_isPerson p1).bind fun q1 =>
  (if q1 = 0 then (some (0, σ)) else
  ((kf_Th_has σ.2.1 p2).bind fun q3 =>
  (if q3 = 0 then (some (0, σ)) else
  ((kf_Wi_isFull σ.2.2.2.1).bind fun q5 =>
  (if q5 = 0 then ((kf_Br_refusalOf σ p1 p2 p3 p4 0).bind fun q7 =>
  (if q7 = (-6) then ((kf_Wi_add σ.2.2.2.1 p1 p2 p3 p4 p5).bind fun q9 =>
  (some (q9.1, (σ.1, σ.2.1, σ.2.2.1, q9.2, σ.2.2.2.2.1, σ.2.2.2.2.2)))) else
  (some ((-1), σ)))) else
  (some (0, σ))))))))
def kf_Br_isMissed (σ : S_Br) (p1 : Int32) : Option (Int32) :=
  ((kf_Bk_isBooked σ.2.2.1 p1).bind fun q1 =>
  (if q1 = 0 then (some 0) else
  ((kf_Bk_isEquipment σ.2.2.1 p1).bind fun q3 =>
  (if q3 = 0 then ((kf_Br_lastCheckIn σ p1).bind fun q5 =>
  (if σ.2.2.2.2.2 ≤ q5 then (some 0) else
  (some 1))) else
  (some 0)))))
def kf_Br_tick_45 (p1 : Int32) : Nat → Int32 → Int32 → Int32 → S_Br → Option (Int32 × S_Br)
  | 0, _, _, _, _ => none
  | n45 + 1, x2, x3, x4, τ =>
  (if x3 < x4 then (some (x2, τ)) else
  ((kf_Br_isMissed τ x4).bind fun q2 =>
  (if q2 = 0 then (kf_Br_tick_45 p1 n45 x2 x3 (x4 + 1) τ) else
  ((kf_Bk_personOf τ.2.2.1 x4).bind fun q4 =>
  ((kf_Pe_countNoShow τ.2.2.2.2.1 q4 τ.2.2.2.2.2).bind fun q5 =>
  ((kf_Br_release (τ.1, τ.2.1, τ.2.2.1, τ.2.2.2.1, q5, τ.2.2.2.2.2) x4 4).bind fun q6 =>
  (kf_Br_tick_45 p1 n45 (x2 + 1) x3 (x4 + 1) q6.2)))))))
theorem kf_Br_tick_45_s (p1 : Int32) (n45 : Nat) (x2 : Int32) (x3 : Int32) (x4 : Int32) (τ : S_Br) : kf_Br_tick_45 p1 (n45 + 1) x2 x3 x4 τ =
  (if x3 < x4 then (some (x2, τ)) else
  ((kf_Br_isMissed τ x4).bind fun q2 =>
  (if q2 = 0 then (kf_Br_tick_45 p1 n45 x2 x3 (x4 + 1) τ) else
  ((kf_Bk_personOf τ.2.2.1 x4).bind fun q4 =>
  ((kf_Pe_countNoShow τ.2.2.2.2.1 q4 τ.2.2.2.2.2).bind fun q5 =>
  ((kf_Br_release (τ.1, τ.2.1, τ.2.2.1, τ.2.2.2.1, q5, τ.2.2.2.2.2) x4 4).bind fun q6 =>
  (kf_Br_tick_45 p1 n45 (x2 + 1) x3 (x4 + 1) q6.2))))))) := rfl
def kf_Br_tick (σ : S_Br) (p1 : Int32) : Option (Int32 × S_Br) :=
  (if p1 ≤ σ.2.2.2.2.2 then (some ((-1), σ)) else
  (if p1 ≤ 1000000 then ((kf_Bk_finish σ.2.2.1 p1).bind fun q9 =>
  ((kf_Bk_size q9).bind fun q10 =>
  (kf_Br_tick_45 p1 FU 0 q10 1 (σ.1, σ.2.1, q9, σ.2.2.2.1, σ.2.2.2.2.1, p1)))) else
  (some ((-1), σ))))
def kf_Br_clash (σ : S_Br) (p1 p2 : Int32) : Option (Int32) :=
  ((kf_Bk_has σ.2.2.1 p1).bind fun q1 =>
  (if q1 = 0 then (some 0) else
  ((kf_Bk_has σ.2.2.1 p2).bind fun q3 =>
  (if q3 = 0 then (some 0) else
  ((kf_Bk_thingOf σ.2.2.1 p1).bind fun q5 =>
  ((kf_Bk_thingOf σ.2.2.1 p2).bind fun q6 =>
  (if q5 = q6 then ((kf_Bk_fromOf σ.2.2.1 p2).bind fun q8 =>
  ((kf_Bk_toOf σ.2.2.1 p2).bind fun q9 =>
  ((kf_Bk_meets σ.2.2.1 p1 q8 q9).bind fun q10 =>
  (if q10 = 0 then (some 0) else
  (some 1))))) else
  (some 0))))))))
def kf_Br_booking (σ : S_Br) (p1 p2 : Int32) : Option (Int32) :=
  ((kf_Bk_has σ.2.2.1 p1).bind fun q1 =>
  (if q1 = 0 then (some (-1)) else
  (if p2 = 0 then ((kf_Bk_personOf σ.2.2.1 p1).bind fun q4 =>
  (some q4)) else
  (if p2 = 1 then ((kf_Bk_thingOf σ.2.2.1 p1).bind fun q6 =>
  (some q6)) else
  (if p2 = 2 then ((kf_Bk_fromOf σ.2.2.1 p1).bind fun q8 =>
  (some q8)) else
  (if p2 = 3 then ((kf_Bk_toOf σ.2.2.1 p1).bind fun q10 =>
  (some q10)) else
  (if p2 = 4 then ((kf_Bk_stateOf σ.2.2.1 p1).bind fun q12 =>
  (some q12)) else
  (if p2 = 5 then ((kf_Bk_hostOf σ.2.2.1 p1).bind fun q14 =>
  (some q14)) else
  (some (-1))))))))))
def kf_Br_list (σ : S_Br) (p1 p2 : Int32) : Option (Int32) :=
  ((kf_Bk_livingAt σ.2.2.1 p1 p2).bind fun q1 =>
  (some q1))
def kf_Br_person (σ : S_Br) (p1 p2 : Int32) : Option (Int32) :=
  ((kf_Br_isPerson p1).bind fun q1 =>
  (if q1 = 0 then (some (-1)) else
  (if p2 = 0 then ((kf_Pe_noShowsOf σ.2.2.2.2.1 p1).bind fun q4 =>
  (some q4)) else
  (if p2 = 1 then ((kf_Pe_isBarred σ.2.2.2.2.1 p1 σ.2.2.2.2.2).bind fun q6 =>
  (if q6 = 0 then (some 0) else
  (some 1))) else
  (if p2 = 2 then ((kf_Wi_countOf σ.2.2.2.1 p1).bind fun q9 =>
  (some q9)) else
  (some (-1)))))))
def kf_Br_used (σ : S_Br) (p1 : Int32) : Option (Int32) :=
  ((kf_Th_has σ.2.1 p1).bind fun q1 =>
  (if q1 = 0 then (some (-1)) else
  ((kf_Bk_doneMinutes σ.2.2.1 p1).bind fun q3 =>
  (some q3))))
