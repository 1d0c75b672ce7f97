def kg_Mo_thing (σ : S_Mo) (p1 p2 p3 p4 p5 : Int32) : Option (Int32 × S_Mo) :=
  (if p1 < 0 then (some ((-1), σ)) else
  (if 3 < p1 then (some ((-1), σ)) else
  (if p2 < 1 then (some ((-1), σ)) else
  (if 1440 < p3 then (some ((-1), σ)) else
  (if p3 < p2 then (some ((-1), σ)) else
  (if p4 < 0 then (some ((-1), σ)) else
  (if 100000 < p4 then (some ((-1), σ)) else
  (if p5 < 0 then (some ((-1), σ)) else
  (if 120 < p5 then (some ((-1), σ)) else
  (if σ.2.2.2.2.2.2.1 = 30 then (some ((-1), σ)) else
  (if (5 * σ.2.2.2.2.2.2.1) < 0 ∨ 150 ≤ (5 * σ.2.2.2.2.2.2.1).toNatClampNeg then none else
  (if ((5 * σ.2.2.2.2.2.2.1) + 1) < 0 ∨ 150 ≤ ((5 * σ.2.2.2.2.2.2.1) + 1).toNatClampNeg then none else
  (if ((5 * σ.2.2.2.2.2.2.1) + 2) < 0 ∨ 150 ≤ ((5 * σ.2.2.2.2.2.2.1) + 2).toNatClampNeg then none else
  (if ((5 * σ.2.2.2.2.2.2.1) + 3) < 0 ∨ 150 ≤ ((5 * σ.2.2.2.2.2.2.1) + 3).toNatClampNeg then none else
  (if ((5 * σ.2.2.2.2.2.2.1) + 4) < 0 ∨ 150 ≤ ((5 * σ.2.2.2.2.2.2.1) + 4).toNatClampNeg then none else
  (some (((σ.2.2.2.2.2.2.1 + 1) - 1), (0, σ.2.1, σ.2.2.1, σ.2.2.2.1, σ.2.2.2.2.1, (upd (upd (upd (upd (upd σ.2.2.2.2.2.1 (5 * σ.2.2.2.2.2.2.1).toNatClampNeg p1) ((5 * σ.2.2.2.2.2.2.1) + 1).toNatClampNeg p2) ((5 * σ.2.2.2.2.2.2.1) + 2).toNatClampNeg p3) ((5 * σ.2.2.2.2.2.2.1) + 3).toNatClampNeg p4) ((5 * σ.2.2.2.2.2.2.1) + 4).toNatClampNeg p5), (σ.2.2.2.2.2.2.1 + 1), σ.2.2.2.2.2.2.2.1, σ.2.2.2.2.2.2.2.2.1, σ.2.2.2.2.2.2.2.2.2.1, σ.2.2.2.2.2.2.2.2.2.2.1, σ.2.2.2.2.2.2.2.2.2.2.2.1, σ.2.2.2.2.2.2.2.2.2.2.2.2.1, σ.2.2.2.2.2.2.2.2.2.2.2.2.2.1, σ.2.2.2.2.2.2.2.2.2.2.2.2.2.2))))))))))))))))))
theorem kg_thing_e (σ : S_Mo) (p1 p2 p3 p4 p5 : Int32) : kf_Mo_thing σ p1 p2 p3 p4 p5 = kg_Mo_thing (0, σ.2) p1 p2 p3 p4 p5 := rfl
def kg_Mo_hours (σ : S_Mo) (p1 p2 p3 p4 : Int32) : Option (Int32 × S_Mo) :=
  (if p3 < 0 then (kf_Mo_hours_23 p1 p2 p3 p4 σ) else
  (if p4 ≤ p3 then (kf_Mo_hours_23 p1 p2 p3 p4 σ) else
  (if p4 ≤ 1440 then (kf_Mo_hours_37 p1 p2 p3 p4 1 σ) else
  (kf_Mo_hours_23 p1 p2 p3 p4 σ))))
theorem kg_hours_e (σ : S_Mo) (p1 p2 p3 p4 : Int32) : kf_Mo_hours σ p1 p2 p3 p4 = kg_Mo_hours (0, σ.2) p1 p2 p3 p4 := rfl
def kg_Mo_holiday (σ : S_Mo) (p1 : Int32) : Option (Int32 × S_Mo) :=
  (if p1 < 0 then (some (0, σ)) else
  (if 694 < p1 then (some (0, σ)) else
  ((kf_Mo_isHoliday σ p1).bind fun q3 =>
  (if q3 = 0 then (if σ.2.2.2.2.1 = 40 then (some (0, σ)) else
  (if σ.2.2.2.2.1 < 0 ∨ 40 ≤ σ.2.2.2.2.1.toNatClampNeg then none else
  (some ((σ.2.2.2.2.1 + 1), (0, σ.2.1, σ.2.2.1, (upd σ.2.2.2.1 σ.2.2.2.2.1.toNatClampNeg p1), (σ.2.2.2.2.1 + 1), σ.2.2.2.2.2.1, σ.2.2.2.2.2.2.1, σ.2.2.2.2.2.2.2.1, σ.2.2.2.2.2.2.2.2.1, σ.2.2.2.2.2.2.2.2.2.1, σ.2.2.2.2.2.2.2.2.2.2.1, σ.2.2.2.2.2.2.2.2.2.2.2.1, σ.2.2.2.2.2.2.2.2.2.2.2.2.1, σ.2.2.2.2.2.2.2.2.2.2.2.2.2.1, σ.2.2.2.2.2.2.2.2.2.2.2.2.2.2))))) else
  (some (0, σ))))))
theorem kg_holiday_e (σ : S_Mo) (p1 : Int32) : kf_Mo_holiday σ p1 = kg_Mo_holiday (0, σ.2) p1 := rfl
def kg_Mo_book (σ : S_Mo) (p1 p2 p3 p4 : Int32) : Option (Int32 × S_Mo) :=
  ((kf_Mo_isPerson p1).bind fun q1 =>
  (if q1 = 0 then (some (0, σ)) else
  ((kf_Mo_isThing σ p2).bind fun q3 =>
  (if q3 = 0 then (some (0, σ)) else
  (if σ.2.2.2.2.2.2.2.2.1 = 200 then (some (0, σ)) else
  ((kf_Mo_against σ p1 p2 p3 p4 0).bind fun q6 =>
  (if 0 ≤ q6 then ((kf_Mo_add σ p1 p2 p3 p4 0).bind fun q8 =>
  (some (q8.1, q8.2))) else
  (some (q6, σ)))))))))
theorem kg_book_e (σ : S_Mo) (p1 p2 p3 p4 : Int32) : kf_Mo_book σ p1 p2 p3 p4 = kg_Mo_book (0, σ.2) p1 p2 p3 p4 := rfl
def kg_Mo_recurring (σ : S_Mo) (p1 p2 p3 : Int32) : Option (Int32 × S_Mo) :=
  ((kf_Mo_isBooking σ p1).bind fun q16 =>
  (if q16 = 0 then (some (0, σ)) else
  ((kf_Mo_lives σ p1).bind fun q18 =>
  (if q18 = 0 then (some (0, σ)) else
  (if p2 < 1 then (some (0, σ)) else
  (if 60 < p2 then (some (0, σ)) else
  (if p3 < 1 then (some (0, σ)) else
  (if p3 ≤ 20 then (kf_Mo_recurring_60 p1 p2 p3 FU (6 * p1) 0 1 1 σ) else
  (some (0, σ))))))))))
theorem kg_recurring_e (σ : S_Mo) (p1 p2 p3 : Int32) : kf_Mo_recurring σ p1 p2 p3 = kg_Mo_recurring (0, σ.2) p1 p2 p3 := rfl
def kg_Mo_wish (σ : S_Mo) (p1 p2 p3 p4 p5 : Int32) : Option (Int32 × S_Mo) :=
  ((kf_Mo_isPerson p1).bind fun q1 =>
  (if q1 = 0 then (some (0, σ)) else
  ((kf_Mo_isThing σ p2).bind fun q3 =>
  (if q3 = 0 then (some (0, σ)) else
  (if σ.2.2.2.2.2.2.2.2.2.2.1 = 60 then (some (0, σ)) else
  ((kf_Mo_against σ p1 p2 p3 p4 0).bind fun q6 =>
  (if q6 = (-6) then (if (5 * σ.2.2.2.2.2.2.2.2.2.2.1) < 0 ∨ 300 ≤ (5 * σ.2.2.2.2.2.2.2.2.2.2.1).toNatClampNeg then none else
  (if ((5 * σ.2.2.2.2.2.2.2.2.2.2.1) + 1) < 0 ∨ 300 ≤ ((5 * σ.2.2.2.2.2.2.2.2.2.2.1) + 1).toNatClampNeg then none else
  (if ((5 * σ.2.2.2.2.2.2.2.2.2.2.1) + 2) < 0 ∨ 300 ≤ ((5 * σ.2.2.2.2.2.2.2.2.2.2.1) + 2).toNatClampNeg then none else
  (if ((5 * σ.2.2.2.2.2.2.2.2.2.2.1) + 3) < 0 ∨ 300 ≤ ((5 * σ.2.2.2.2.2.2.2.2.2.2.1) + 3).toNatClampNeg then none else
  (if ((5 * σ.2.2.2.2.2.2.2.2.2.2.1) + 4) < 0 ∨ 300 ≤ ((5 * σ.2.2.2.2.2.2.2.2.2.2.1) + 4).toNatClampNeg then none else
  (some ((σ.2.2.2.2.2.2.2.2.2.2.1 + 1), (0, σ.2.1, σ.2.2.1, σ.2.2.2.1, σ.2.2.2.2.1, σ.2.2.2.2.2.1, σ.2.2.2.2.2.2.1, σ.2.2.2.2.2.2.2.1, σ.2.2.2.2.2.2.2.2.1, (upd (upd (upd (upd (upd σ.2.2.2.2.2.2.2.2.2.1 (5 * σ.2.2.2.2.2.2.2.2.2.2.1).toNatClampNeg p1) ((5 * σ.2.2.2.2.2.2.2.2.2.2.1) + 1).toNatClampNeg p2) ((5 * σ.2.2.2.2.2.2.2.2.2.2.1) + 2).toNatClampNeg p3) ((5 * σ.2.2.2.2.2.2.2.2.2.2.1) + 3).toNatClampNeg p4) ((5 * σ.2.2.2.2.2.2.2.2.2.2.1) + 4).toNatClampNeg p5), (σ.2.2.2.2.2.2.2.2.2.2.1 + 1), σ.2.2.2.2.2.2.2.2.2.2.2.1, σ.2.2.2.2.2.2.2.2.2.2.2.2.1, σ.2.2.2.2.2.2.2.2.2.2.2.2.2.1, σ.2.2.2.2.2.2.2.2.2.2.2.2.2.2)))))))) else
  (some ((-1), σ)))))))))
theorem kg_wish_e (σ : S_Mo) (p1 p2 p3 p4 p5 : Int32) : kf_Mo_wish σ p1 p2 p3 p4 p5 = kg_Mo_wish (0, σ.2) p1 p2 p3 p4 p5 := rfl
def kg_Mo_cancel (σ : S_Mo) (p1 p2 : Int32) : Option (Int32 × S_Mo) :=
  ((kf_Mo_isOf σ p1 p2).bind fun q1 =>
  (if q1 = 0 then (some (0, σ)) else
  (if ((6 * p1) + 2) < 0 ∨ 1206 ≤ ((6 * p1) + 2).toNatClampNeg then none else
  (if σ.2.1 < (σ.2.2.2.2.2.2.2.1 ((6 * p1) + 2).toNatClampNeg) then ((kf_Mo_ends σ p1 3).bind fun q5 =>
  ((kf_Mo_grantAll q5.2 p1 q5.1).bind fun q6 =>
  (some ((1 + q6.1), q6.2)))) else
  (some ((-1), σ))))))
theorem kg_cancel_e (σ : S_Mo) (p1 p2 : Int32) : kf_Mo_cancel σ p1 p2 = kg_Mo_cancel (0, σ.2) p1 p2 := rfl
def kg_Mo_checkIn (σ : S_Mo) (p1 p2 : Int32) : Option (Int32 × S_Mo) :=
  ((kf_Mo_isOf σ p1 p2).bind fun q1 =>
  (if q1 = 0 then (some (0, σ)) else
  (if ((6 * p1) + 2) < 0 ∨ 1206 ≤ ((6 * p1) + 2).toNatClampNeg then none else
  (if σ.2.1 < ((σ.2.2.2.2.2.2.2.1 ((6 * p1) + 2).toNatClampNeg) - 15) then (some ((-1), σ)) else
  (if ((6 * p1) + 1) < 0 ∨ 1206 ≤ ((6 * p1) + 1).toNatClampNeg then none else
  (if ((5 * (σ.2.2.2.2.2.2.2.1 ((6 * p1) + 1).toNatClampNeg)) + 4) < 0 ∨ 150 ≤ ((5 * (σ.2.2.2.2.2.2.2.1 ((6 * p1) + 1).toNatClampNeg)) + 4).toNatClampNeg then none else
  (if σ.2.1 ≤ ((σ.2.2.2.2.2.2.2.1 ((6 * p1) + 2).toNatClampNeg) + (σ.2.2.2.2.2.1 ((5 * (σ.2.2.2.2.2.2.2.1 ((6 * p1) + 1).toNatClampNeg)) + 4).toNatClampNeg)) then ((kf_Mo_ends σ p1 1).bind fun q8 =>
  (if 0 ≤ q8.1 then (some (1, q8.2)) else
  (some (0, q8.2)))) else
  (some ((-1), σ)))))))))
theorem kg_checkIn_e (σ : S_Mo) (p1 p2 : Int32) : kf_Mo_checkIn σ p1 p2 = kg_Mo_checkIn (0, σ.2) p1 p2 := rfl
def kg_Mo_edit (σ : S_Mo) (p1 p2 p3 p4 : Int32) : Option (Int32 × S_Mo) :=
  ((kf_Mo_isOf σ p1 p2).bind fun q1 =>
  (if q1 = 0 then (some (0, σ)) else
  (if ((6 * p1) + 5) < 0 ∨ 1206 ≤ ((6 * p1) + 5).toNatClampNeg then none else
  (if (σ.2.2.2.2.2.2.2.1 ((6 * p1) + 5).toNatClampNeg) = 0 then ((kf_Mo_isMain σ p1).bind fun q5 =>
  (if q5 = 0 then (if ((6 * p1) + 1) < 0 ∨ 1206 ≤ ((6 * p1) + 1).toNatClampNeg then none else
  ((kf_Mo_against σ p2 (σ.2.2.2.2.2.2.2.1 ((6 * p1) + 1).toNatClampNeg) p3 p4 p1).bind fun q8 =>
  (if 0 ≤ q8 then (if ((6 * p1) + 2) < 0 ∨ 1206 ≤ ((6 * p1) + 2).toNatClampNeg then none else
  (if ((6 * p1) + 3) < 0 ∨ 1206 ≤ ((6 * p1) + 3).toNatClampNeg then none else
  (some (1, (0, σ.2.1, σ.2.2.1, σ.2.2.2.1, σ.2.2.2.2.1, σ.2.2.2.2.2.1, σ.2.2.2.2.2.2.1, (upd (upd σ.2.2.2.2.2.2.2.1 ((6 * p1) + 2).toNatClampNeg p3) ((6 * p1) + 3).toNatClampNeg p4), σ.2.2.2.2.2.2.2.2.1, σ.2.2.2.2.2.2.2.2.2.1, σ.2.2.2.2.2.2.2.2.2.2.1, σ.2.2.2.2.2.2.2.2.2.2.2.1, σ.2.2.2.2.2.2.2.2.2.2.2.2.1, σ.2.2.2.2.2.2.2.2.2.2.2.2.2.1, σ.2.2.2.2.2.2.2.2.2.2.2.2.2.2))))) else
  (some (q8, σ))))) else
  (some (0, σ)))) else
  (some (0, σ))))))
theorem kg_edit_e (σ : S_Mo) (p1 p2 p3 p4 : Int32) : kf_Mo_edit σ p1 p2 p3 p4 = kg_Mo_edit (0, σ.2) p1 p2 p3 p4 := rfl
def kg_Mo_equip (σ : S_Mo) (p1 p2 : Int32) : Option (Int32 × S_Mo) :=
  ((kf_Mo_isBooking σ p1).bind fun q1 =>
  (if q1 = 0 then (some (0, σ)) else
  (if ((6 * p1) + 4) < 0 ∨ 1206 ≤ ((6 * p1) + 4).toNatClampNeg then none else
  (if (σ.2.2.2.2.2.2.2.1 ((6 * p1) + 4).toNatClampNeg) = 0 then (if ((6 * p1) + 5) < 0 ∨ 1206 ≤ ((6 * p1) + 5).toNatClampNeg then none else
  (if (σ.2.2.2.2.2.2.2.1 ((6 * p1) + 5).toNatClampNeg) = 0 then ((kf_Mo_isThing σ p2).bind fun q7 =>
  (if q7 = 0 then (some (0, σ)) else
  (if σ.2.2.2.2.2.2.2.2.1 = 200 then (some (0, σ)) else
  (if ((6 * p1) + 1) < 0 ∨ 1206 ≤ ((6 * p1) + 1).toNatClampNeg then none else
  (if p2 = (σ.2.2.2.2.2.2.2.1 ((6 * p1) + 1).toNatClampNeg) then (some (0, σ)) else
  (if (5 * p2) < 0 ∨ 150 ≤ (5 * p2).toNatClampNeg then none else
  (if (5 * (σ.2.2.2.2.2.2.2.1 ((6 * p1) + 1).toNatClampNeg)) < 0 ∨ 150 ≤ (5 * (σ.2.2.2.2.2.2.2.1 ((6 * p1) + 1).toNatClampNeg)).toNatClampNeg then none else
  (if (σ.2.2.2.2.2.1 (5 * p2).toNatClampNeg) = (σ.2.2.2.2.2.1 (5 * (σ.2.2.2.2.2.2.2.1 ((6 * p1) + 1).toNatClampNeg)).toNatClampNeg) then (if ((6 * p1) + 2) < 0 ∨ 1206 ≤ ((6 * p1) + 2).toNatClampNeg then none else
  (if ((6 * p1) + 3) < 0 ∨ 1206 ≤ ((6 * p1) + 3).toNatClampNeg then none else
  ((kf_Mo_clashes σ p2 (σ.2.2.2.2.2.2.2.1 ((6 * p1) + 2).toNatClampNeg) (σ.2.2.2.2.2.2.2.1 ((6 * p1) + 3).toNatClampNeg) 0).bind fun q17 =>
  (if q17 = 0 then (if (6 * p1) < 0 ∨ 1206 ≤ (6 * p1).toNatClampNeg then none else
  ((kf_Mo_add σ (σ.2.2.2.2.2.2.2.1 (6 * p1).toNatClampNeg) p2 (σ.2.2.2.2.2.2.2.1 ((6 * p1) + 2).toNatClampNeg) (σ.2.2.2.2.2.2.2.1 ((6 * p1) + 3).toNatClampNeg) p1).bind fun q20 =>
  (some (q20.1, q20.2)))) else
  (some ((-6), σ)))))) else
  (some (0, σ)))))))))) else
  (some (0, σ)))) else
  (some (0, σ))))))
theorem kg_equip_e (σ : S_Mo) (p1 p2 : Int32) : kf_Mo_equip σ p1 p2 = kg_Mo_equip (0, σ.2) p1 p2 := rfl
def kg_Mo_tick (σ : S_Mo) (p1 : Int32) : Option (Int32 × S_Mo) :=
  (if p1 ≤ σ.2.1 then (some ((-1), σ)) else
  (if p1 ≤ 1000000 then (kf_Mo_tick_28 p1 FU 1 (0, p1, σ.2.2.1, σ.2.2.2.1, σ.2.2.2.2.1, σ.2.2.2.2.2.1, σ.2.2.2.2.2.2.1, σ.2.2.2.2.2.2.2.1, σ.2.2.2.2.2.2.2.2.1, σ.2.2.2.2.2.2.2.2.2.1, σ.2.2.2.2.2.2.2.2.2.2.1, σ.2.2.2.2.2.2.2.2.2.2.2.1, σ.2.2.2.2.2.2.2.2.2.2.2.2.1, σ.2.2.2.2.2.2.2.2.2.2.2.2.2.1, σ.2.2.2.2.2.2.2.2.2.2.2.2.2.2)) else
  (some ((-1), σ))))
theorem kg_tick_e (σ : S_Mo) (p1 : Int32) : kf_Mo_tick σ p1 = kg_Mo_tick (0, σ.2) p1 := rfl
def kg_Mo_clash (σ : S_Mo) (p1 p2 : Int32) : Option (Int32 × S_Mo) :=
  ((kf_Mo_isBooking σ p1).bind fun q1 =>
  (if q1 = 0 then (some (0, σ)) else
  ((kf_Mo_isBooking σ p2).bind fun q3 =>
  (if q3 = 0 then (some (0, σ)) else
  (if ((6 * p2) + 1) < 0 ∨ 1206 ≤ ((6 * p2) + 1).toNatClampNeg then none else
  (if ((6 * p2) + 2) < 0 ∨ 1206 ≤ ((6 * p2) + 2).toNatClampNeg then none else
  (if ((6 * p2) + 3) < 0 ∨ 1206 ≤ ((6 * p2) + 3).toNatClampNeg then none else
  ((kf_Mo_meets σ p1 (σ.2.2.2.2.2.2.2.1 ((6 * p2) + 1).toNatClampNeg) (σ.2.2.2.2.2.2.2.1 ((6 * p2) + 2).toNatClampNeg) (σ.2.2.2.2.2.2.2.1 ((6 * p2) + 3).toNatClampNeg)).bind fun q8 =>
  (if q8 = 0 then (some (0, σ)) else
  (some (1, σ)))))))))))
theorem kg_clash_e (σ : S_Mo) (p1 p2 : Int32) : kf_Mo_clash σ p1 p2 = kg_Mo_clash (0, σ.2) p1 p2 := rfl
def kg_Mo_booking (σ : S_Mo) (p1 p2 : Int32) : Option (Int32 × S_Mo) :=
  ((kf_Mo_isBooking σ p1).bind fun q1 =>
  (if q1 = 0 then (some ((-1), σ)) else
  (if p2 < 0 then (some ((-1), σ)) else
  (if p2 ≤ 5 then (if ((6 * p1) + p2) < 0 ∨ 1206 ≤ ((6 * p1) + p2).toNatClampNeg then none else
  (some ((σ.2.2.2.2.2.2.2.1 ((6 * p1) + p2).toNatClampNeg), σ))) else
  (some ((-1), σ))))))
theorem kg_booking_e (σ : S_Mo) (p1 p2 : Int32) : kf_Mo_booking σ p1 p2 = kg_Mo_booking (0, σ.2) p1 p2 := rfl
def kg_Mo_list (σ : S_Mo) (p1 p2 : Int32) : Option (Int32 × S_Mo) :=
  (kf_Mo_list_7 p1 p2 FU 1 σ)
theorem kg_list_e (σ : S_Mo) (p1 p2 : Int32) : kf_Mo_list σ p1 p2 = kg_Mo_list (0, σ.2) p1 p2 := rfl
def kg_Mo_person (σ : S_Mo) (p1 p2 : Int32) : Option (Int32 × S_Mo) :=
  ((kf_Mo_isPerson p1).bind fun q4 =>
  (if q4 = 0 then (some ((-1), σ)) else
  (if p2 < 0 then (some ((-1), σ)) else
  (if p2 ≤ 2 then (if 2 ≤ p2 then (kf_Mo_person_65 p1 p2 FU 0 0 σ) else
  (if p2 = 0 then (if p1 < 0 ∨ 40 ≤ p1.toNatClampNeg then none else
  (some ((σ.2.2.2.2.2.2.2.2.2.2.2.1 p1.toNatClampNeg), σ))) else
  (if p1 < 0 ∨ 40 ≤ p1.toNatClampNeg then none else
  (if (σ.2.2.2.2.2.2.2.2.2.2.2.2.1 p1.toNatClampNeg) ≤ σ.2.1 then (some (0, σ)) else
  (some (1, σ)))))) else
  (some ((-1), σ))))))
theorem kg_person_e (σ : S_Mo) (p1 p2 : Int32) : kf_Mo_person σ p1 p2 = kg_Mo_person (0, σ.2) p1 p2 := rfl
def kg_Mo_used (σ : S_Mo) (p1 : Int32) : Option (Int32 × S_Mo) :=
  ((kf_Mo_isThing σ p1).bind fun q8 =>
  (if q8 = 0 then (some ((-1), σ)) else
  (kf_Mo_used_19 p1 FU 0 1 σ)))
theorem kg_used_e (σ : S_Mo) (p1 : Int32) : kf_Mo_used σ p1 = kg_Mo_used (0, σ.2) p1 := rfl
