def i_Bk : S_Bk := ((fun _ => 0), (fun _ => 0), (fun _ => 0), (fun _ => 0), (fun _ => 0), (fun _ => 0), 0, (fun _ => 0), 0)
def kf_Bk_size (σ : S_Bk) : Option (Int32) :=
  (some σ.2.2.2.2.2.2.1)
def kf_Bk_has (σ : S_Bk) (p1 : Int32) : Option (Int32) :=
  (if p1 < 1 then (some 0) else
  (if σ.2.2.2.2.2.2.1 < p1 then (some 0) else
  (some 1)))
def kf_Bk_isFull (σ : S_Bk) : Option (Int32) :=
  (if σ.2.2.2.2.2.2.1 < 200 then (some 0) else
  (some 1))
def kf_Bk_add (σ : S_Bk) (p1 p2 p3 p4 p5 : Int32) : Option (Int32 × S_Bk) :=
  (if (σ.2.2.2.2.2.2.1 + 1) < 0 ∨ 201 ≤ (σ.2.2.2.2.2.2.1 + 1).toNatClampNeg then none else
  (some ((σ.2.2.2.2.2.2.1 + 1), ((upd σ.1 (σ.2.2.2.2.2.2.1 + 1).toNatClampNeg p1), (upd σ.2.1 (σ.2.2.2.2.2.2.1 + 1).toNatClampNeg p2), (upd σ.2.2.1 (σ.2.2.2.2.2.2.1 + 1).toNatClampNeg p3), (upd σ.2.2.2.1 (σ.2.2.2.2.2.2.1 + 1).toNatClampNeg p4), (upd σ.2.2.2.2.1 (σ.2.2.2.2.2.2.1 + 1).toNatClampNeg 0), (upd σ.2.2.2.2.2.1 (σ.2.2.2.2.2.2.1 + 1).toNatClampNeg p5), (σ.2.2.2.2.2.2.1 + 1), σ.2.2.2.2.2.2.2.1, σ.2.2.2.2.2.2.2.2))))
def kf_Bk_personOf (σ : S_Bk) (p1 : Int32) : Option (Int32) :=
  (if p1 < 0 ∨ 201 ≤ p1.toNatClampNeg then none else
  (some (σ.1 p1.toNatClampNeg)))
def kf_Bk_thingOf (σ : S_Bk) (p1 : Int32) : Option (Int32) :=
  (if p1 < 0 ∨ 201 ≤ p1.toNatClampNeg then none else
  (some (σ.2.1 p1.toNatClampNeg)))
def kf_Bk_fromOf (σ : S_Bk) (p1 : Int32) : Option (Int32) :=
  (if p1 < 0 ∨ 201 ≤ p1.toNatClampNeg then none else
  (some (σ.2.2.1 p1.toNatClampNeg)))
def kf_Bk_toOf (σ : S_Bk) (p1 : Int32) : Option (Int32) :=
  (if p1 < 0 ∨ 201 ≤ p1.toNatClampNeg then none else
  (some (σ.2.2.2.1 p1.toNatClampNeg)))
def kf_Bk_stateOf (σ : S_Bk) (p1 : Int32) : Option (Int32) :=
  (if p1 < 0 ∨ 201 ≤ p1.toNatClampNeg then none else
  (some (σ.2.2.2.2.1 p1.toNatClampNeg)))
def kf_Bk_hostOf (σ : S_Bk) (p1 : Int32) : Option (Int32) :=
  (if p1 < 0 ∨ 201 ≤ p1.toNatClampNeg then none else
  (some (σ.2.2.2.2.2.1 p1.toNatClampNeg)))
def kf_Bk_setTimes (σ : S_Bk) (p1 p2 p3 : Int32) : Option (S_Bk) :=
  (if p1 < 0 ∨ 201 ≤ p1.toNatClampNeg then none else
  (some (σ.1, σ.2.1, (upd σ.2.2.1 p1.toNatClampNeg p2), (upd σ.2.2.2.1 p1.toNatClampNeg p3), σ.2.2.2.2.1, σ.2.2.2.2.2.1, σ.2.2.2.2.2.2.1, σ.2.2.2.2.2.2.2.1, σ.2.2.2.2.2.2.2.2)))
def kf_Bk_isBooked (σ : S_Bk) (p1 : Int32) : Option (Int32) :=
  (if p1 < 0 ∨ 201 ≤ p1.toNatClampNeg then none else
  (if (σ.2.2.2.2.1 p1.toNatClampNeg) = 0 then (some 1) else
  (some 0)))
def kf_Bk_isBookedBy (σ : S_Bk) (p1 p2 : Int32) : Option (Int32) :=
  ((kf_Bk_has σ p1).bind fun q1 =>
  (if q1 = 0 then (some 0) else
  (if p1 < 0 ∨ 201 ≤ p1.toNatClampNeg then none else
  (if (σ.2.2.2.2.1 p1.toNatClampNeg) = 0 then (if (σ.1 p1.toNatClampNeg) = p2 then (some 1) else
  (some 0)) else
  (some 0)))))
def kf_Bk_lives (σ : S_Bk) (p1 : Int32) : Option (Int32) :=
  (if p1 < 0 ∨ 201 ≤ p1.toNatClampNeg then none else
  (if (σ.2.2.2.2.1 p1.toNatClampNeg) = 0 then (some 1) else
  (if (σ.2.2.2.2.1 p1.toNatClampNeg) = 1 then (some 1) else
  (some 0))))
def kf_Bk_isEquipment (σ : S_Bk) (p1 : Int32) : Option (Int32) :=
  (if p1 < 0 ∨ 201 ≤ p1.toNatClampNeg then none else
  (if (σ.2.2.2.2.2.1 p1.toNatClampNeg) = 0 then (some 0) else
  (some 1)))
def kf_Bk_hasLivingEquipment_2 (σ : S_Bk) (p1 : Int32) : Nat → Int32 → Option (Int32)
  | 0, _ => none
  | n2 + 1, x2 =>
  (if σ.2.2.2.2.2.2.1 < x2 then (some 0) else
  (if x2 < 0 ∨ 201 ≤ x2.toNatClampNeg then none else
  (if (σ.2.2.2.2.2.1 x2.toNatClampNeg) = p1 then ((kf_Bk_lives σ x2).bind fun q4 =>
  (if q4 = 0 then (kf_Bk_hasLivingEquipment_2 σ p1 n2 (x2 + 1)) else
  (some 1))) else
  (kf_Bk_hasLivingEquipment_2 σ p1 n2 (x2 + 1)))))
theorem kf_Bk_hasLivingEquipment_2_s (σ : S_Bk) (p1 : Int32) (n2 : Nat) (x2 : Int32) : kf_Bk_hasLivingEquipment_2 σ p1 (n2 + 1) x2 =
  (if σ.2.2.2.2.2.2.1 < x2 then (some 0) else
  (if x2 < 0 ∨ 201 ≤ x2.toNatClampNeg then none else
  (if (σ.2.2.2.2.2.1 x2.toNatClampNeg) = p1 then ((kf_Bk_lives σ x2).bind fun q4 =>
  (if q4 = 0 then (kf_Bk_hasLivingEquipment_2 σ p1 n2 (x2 + 1)) else
  (some 1))) else
  (kf_Bk_hasLivingEquipment_2 σ p1 n2 (x2 + 1))))) := rfl
def kf_Bk_hasLivingEquipment (σ : S_Bk) (p1 : Int32) : Option (Int32) :=
  (kf_Bk_hasLivingEquipment_2 σ p1 FU 1)
def kf_Bk_meets (σ : S_Bk) (p1 p2 p3 : Int32) : Option (Int32) :=
  (if p1 < 0 ∨ 201 ≤ p1.toNatClampNeg then none else
  (if p3 ≤ (σ.2.2.1 p1.toNatClampNeg) then (some 0) else
  (if (σ.2.2.2.1 p1.toNatClampNeg) ≤ p2 then (some 0) else
  (some 1))))
def kf_Bk_isTaken_3 (σ : S_Bk) (p1 p2 p3 p4 : Int32) : Nat → Int32 → Option (Int32)
  | 0, _ => none
  | n3 + 1, x5 =>
  (if σ.2.2.2.2.2.2.1 < x5 then (some 0) else
  (if x5 = p4 then (kf_Bk_isTaken_3 σ p1 p2 p3 p4 n3 (x5 + 1)) else
  (if x5 < 0 ∨ 201 ≤ x5.toNatClampNeg then none else
  (if (σ.2.1 x5.toNatClampNeg) = p1 then ((kf_Bk_lives σ x5).bind fun q5 =>
  (if q5 = 0 then (kf_Bk_isTaken_3 σ p1 p2 p3 p4 n3 (x5 + 1)) else
  ((kf_Bk_meets σ x5 p2 p3).bind fun q7 =>
  (if q7 = 0 then (kf_Bk_isTaken_3 σ p1 p2 p3 p4 n3 (x5 + 1)) else
  (some 1))))) else
  (kf_Bk_isTaken_3 σ p1 p2 p3 p4 n3 (x5 + 1))))))
theorem kf_Bk_isTaken_3_s (σ : S_Bk) (p1 p2 p3 p4 : Int32) (n3 : Nat) (x5 : Int32) : kf_Bk_isTaken_3 σ p1 p2 p3 p4 (n3 + 1) x5 =
  (if σ.2.2.2.2.2.2.1 < x5 then (some 0) else
  (if x5 = p4 then (kf_Bk_isTaken_3 σ p1 p2 p3 p4 n3 (x5 + 1)) else
  (if x5 < 0 ∨ 201 ≤ x5.toNatClampNeg then none else
  (if (σ.2.1 x5.toNatClampNeg) = p1 then ((kf_Bk_lives σ x5).bind fun q5 =>
  (if q5 = 0 then (kf_Bk_isTaken_3 σ p1 p2 p3 p4 n3 (x5 + 1)) else
  ((kf_Bk_meets σ x5 p2 p3).bind fun q7 =>
  (if q7 = 0 then (kf_Bk_isTaken_3 σ p1 p2 p3 p4 n3 (x5 + 1)) else
  (some 1))))) else
  (kf_Bk_isTaken_3 σ p1 p2 p3 p4 n3 (x5 + 1)))))) := rfl
def kf_Bk_isTaken (σ : S_Bk) (p1 p2 p3 p4 : Int32) : Option (Int32) :=
  (kf_Bk_isTaken_3 σ p1 p2 p3 p4 FU 1)
def kf_Bk_livingOf_4 (σ : S_Bk) (p1 : Int32) : Nat → Int32 → Int32 → Option (Int32)
  | 0, _, _ => none
  | n4 + 1, x2, x3 =>
  (if σ.2.2.2.2.2.2.1 < x3 then (some x2) else
  (if x3 < 0 ∨ 201 ≤ x3.toNatClampNeg then none else
  (if (σ.1 x3.toNatClampNeg) = p1 then ((kf_Bk_lives σ x3).bind fun q4 =>
  (if q4 = 0 then (kf_Bk_livingOf_4 σ p1 n4 x2 (x3 + 1)) else
  (kf_Bk_livingOf_4 σ p1 n4 (x2 + 1) (x3 + 1)))) else
  (kf_Bk_livingOf_4 σ p1 n4 x2 (x3 + 1)))))
theorem kf_Bk_livingOf_4_s (σ : S_Bk) (p1 : Int32) (n4 : Nat) (x2 : Int32) (x3 : Int32) : kf_Bk_livingOf_4 σ p1 (n4 + 1) x2 x3 =
  (if σ.2.2.2.2.2.2.1 < x3 then (some x2) else
  (if x3 < 0 ∨ 201 ≤ x3.toNatClampNeg then none else
  (if (σ.1 x3.toNatClampNeg) = p1 then ((kf_Bk_lives σ x3).bind fun q4 =>
  (if q4 = 0 then (kf_Bk_livingOf_4 σ p1 n4 x2 (x3 + 1)) else
  (kf_Bk_livingOf_4 σ p1 n4 (x2 + 1) (x3 + 1)))) else
  (kf_Bk_livingOf_4 σ p1 n4 x2 (x3 + 1))))) := rfl
def kf_Bk_livingOf (σ : S_Bk) (p1 : Int32) : Option (Int32) :=
  (kf_Bk_livingOf_4 σ p1 FU 0 1)
def kf_Bk_livingBefore_52 (σ : S_Bk) (p1 : Int32) (K4 : Int32 → Int32 → Option (Int32)) (x2 : Int32) (x3 : Int32) (y0 : Int32) : Option (Int32) :=
  (if y0 = 0 then (K4 x2 (x3 + 1)) else
  (if x3 < 0 ∨ 201 ≤ x3.toNatClampNeg then none else
  (if p1 < 0 ∨ 201 ≤ p1.toNatClampNeg then none else
  (if (σ.1 x3.toNatClampNeg) = (σ.1 p1.toNatClampNeg) then ((kf_Bk_lives σ x3).bind fun q5 =>
  (if q5 = 0 then (K4 x2 (x3 + 1)) else
  (K4 (x2 + 1) (x3 + 1)))) else
  (K4 x2 (x3 + 1))))))
def kf_Bk_livingBefore_4 (σ : S_Bk) (p1 : Int32) : Nat → Int32 → Int32 → Option (Int32)
  | 0, _, _ => none
  | n4 + 1, x2, x3 =>
  (if σ.2.2.2.2.2.2.1 < x3 then (some x2) else
  (if x3 < 0 ∨ 201 ≤ x3.toNatClampNeg then none else
  (if p1 < 0 ∨ 201 ≤ p1.toNatClampNeg then none else
  (if (σ.2.2.1 x3.toNatClampNeg) < (σ.2.2.1 p1.toNatClampNeg) then (kf_Bk_livingBefore_52 σ p1 (kf_Bk_livingBefore_4 σ p1 n4) x2 x3 1) else
  (if (σ.2.2.1 x3.toNatClampNeg) = (σ.2.2.1 p1.toNatClampNeg) then (if p1 ≤ x3 then (kf_Bk_livingBefore_52 σ p1 (kf_Bk_livingBefore_4 σ p1 n4) x2 x3 0) else
  (kf_Bk_livingBefore_52 σ p1 (kf_Bk_livingBefore_4 σ p1 n4) x2 x3 1)) else
  (kf_Bk_livingBefore_52 σ p1 (kf_Bk_livingBefore_4 σ p1 n4) x2 x3 0))))))
theorem kf_Bk_livingBefore_4_s (σ : S_Bk) (p1 : Int32) (n4 : Nat) (x2 : Int32) (x3 : Int32) : kf_Bk_livingBefore_4 σ p1 (n4 + 1) x2 x3 =
  (if σ.2.2.2.2.2.2.1 < x3 then (some x2) else
  (if x3 < 0 ∨ 201 ≤ x3.toNatClampNeg then none else
  (if p1 < 0 ∨ 201 ≤ p1.toNatClampNeg then none else
  (if (σ.2.2.1 x3.toNatClampNeg) < (σ.2.2.1 p1.toNatClampNeg) then (kf_Bk_livingBefore_52 σ p1 (kf_Bk_livingBefore_4 σ p1 n4) x2 x3 1) else
  (if (σ.2.2.1 x3.toNatClampNeg) = (σ.2.2.1 p1.toNatClampNeg) then (if p1 ≤ x3 then (kf_Bk_livingBefore_52 σ p1 (kf_Bk_livingBefore_4 σ p1 n4) x2 x3 0) else
  (kf_Bk_livingBefore_52 σ p1 (kf_Bk_livingBefore_4 σ p1 n4) x2 x3 1)) else
  (kf_Bk_livingBefore_52 σ p1 (kf_Bk_livingBefore_4 σ p1 n4) x2 x3 0)))))) := rfl
def kf_Bk_livingBefore (σ : S_Bk) (p1 : Int32) : Option (Int32) :=
  (kf_Bk_livingBefore_4 σ p1 FU 0 1)
def kf_Bk_livingAt_2 (σ : S_Bk) (p1 p2 : Int32) : Nat → Int32 → Option (Int32)
  | 0, _ => none
  | n2 + 1, x3 =>
  (if σ.2.2.2.2.2.2.1 < x3 then (some 0) else
  (if x3 < 0 ∨ 201 ≤ x3.toNatClampNeg then none else
  (if (σ.1 x3.toNatClampNeg) = p1 then ((kf_Bk_lives σ x3).bind fun q4 =>
  (if q4 = 0 then (kf_Bk_livingAt_2 σ p1 p2 n2 (x3 + 1)) else
  ((kf_Bk_livingBefore σ x3).bind fun q6 =>
  (if q6 = p2 then (some x3) else
  (kf_Bk_livingAt_2 σ p1 p2 n2 (x3 + 1)))))) else
  (kf_Bk_livingAt_2 σ p1 p2 n2 (x3 + 1)))))
theorem kf_Bk_livingAt_2_s (σ : S_Bk) (p1 p2 : Int32) (n2 : Nat) (x3 : Int32) : kf_Bk_livingAt_2 σ p1 p2 (n2 + 1) x3 =
  (if σ.2.2.2.2.2.2.1 < x3 then (some 0) else
  (if x3 < 0 ∨ 201 ≤ x3.toNatClampNeg then none else
  (if (σ.1 x3.toNatClampNeg) = p1 then ((kf_Bk_lives σ x3).bind fun q4 =>
  (if q4 = 0 then (kf_Bk_livingAt_2 σ p1 p2 n2 (x3 + 1)) else
  ((kf_Bk_livingBefore σ x3).bind fun q6 =>
  (if q6 = p2 then (some x3) else
  (kf_Bk_livingAt_2 σ p1 p2 n2 (x3 + 1)))))) else
  (kf_Bk_livingAt_2 σ p1 p2 n2 (x3 + 1))))) := rfl
def kf_Bk_livingAt (σ : S_Bk) (p1 p2 : Int32) : Option (Int32) :=
  (kf_Bk_livingAt_2 σ p1 p2 FU 1)
def kf_Bk_doneMinutes_4 (σ : S_Bk) (p1 : Int32) : Nat → Int32 → Int32 → Option (Int32)
  | 0, _, _ => none
  | n4 + 1, x2, x3 =>
  (if σ.2.2.2.2.2.2.1 < x3 then (some x2) else
  (if x3 < 0 ∨ 201 ≤ x3.toNatClampNeg then none else
  (if (σ.2.1 x3.toNatClampNeg) = p1 then (if (σ.2.2.2.2.1 x3.toNatClampNeg) = 2 then (kf_Bk_doneMinutes_4 σ p1 n4 (x2 + ((σ.2.2.2.1 x3.toNatClampNeg) - (σ.2.2.1 x3.toNatClampNeg))) (x3 + 1)) else
  (kf_Bk_doneMinutes_4 σ p1 n4 x2 (x3 + 1))) else
  (kf_Bk_doneMinutes_4 σ p1 n4 x2 (x3 + 1)))))
theorem kf_Bk_doneMinutes_4_s (σ : S_Bk) (p1 : Int32) (n4 : Nat) (x2 : Int32) (x3 : Int32) : kf_Bk_doneMinutes_4 σ p1 (n4 + 1) x2 x3 =
  (if σ.2.2.2.2.2.2.1 < x3 then (some x2) else
  (if x3 < 0 ∨ 201 ≤ x3.toNatClampNeg then none else
  (if (σ.2.1 x3.toNatClampNeg) = p1 then (if (σ.2.2.2.2.1 x3.toNatClampNeg) = 2 then (kf_Bk_doneMinutes_4 σ p1 n4 (x2 + ((σ.2.2.2.1 x3.toNatClampNeg) - (σ.2.2.1 x3.toNatClampNeg))) (x3 + 1)) else
  (kf_Bk_doneMinutes_4 σ p1 n4 x2 (x3 + 1))) else
  (kf_Bk_doneMinutes_4 σ p1 n4 x2 (x3 + 1))))) := rfl
def kf_Bk_doneMinutes (σ : S_Bk) (p1 : Int32) : Option (Int32) :=
  (kf_Bk_doneMinutes_4 σ p1 FU 0 1)
def kf_Bk_finish_2 (p1 : Int32) : Nat → Int32 → S_Bk → Option (S_Bk)
  | 0, _, _ => none
  | n2 + 1, x2, τ =>
  (if τ.2.2.2.2.2.2.1 < x2 then (some τ) else
  (if x2 < 0 ∨ 201 ≤ x2.toNatClampNeg then none else
  (if (τ.2.2.2.2.1 x2.toNatClampNeg) = 1 then (if p1 < (τ.2.2.2.1 x2.toNatClampNeg) then (kf_Bk_finish_2 p1 n2 (x2 + 1) τ) else
  (kf_Bk_finish_2 p1 n2 (x2 + 1) (τ.1, τ.2.1, τ.2.2.1, τ.2.2.2.1, (upd τ.2.2.2.2.1 x2.toNatClampNeg 2), τ.2.2.2.2.2.1, τ.2.2.2.2.2.2.1, τ.2.2.2.2.2.2.2.1, τ.2.2.2.2.2.2.2.2))) else
  (kf_Bk_finish_2 p1 n2 (x2 + 1) τ))))
theorem kf_Bk_finish_2_s (p1 : Int32) (n2 : Nat) (x2 : Int32) (τ : S_Bk) : kf_Bk_finish_2 p1 (n2 + 1) x2 τ =
  (if τ.2.2.2.2.2.2.1 < x2 then (some τ) else
  (if x2 < 0 ∨ 201 ≤ x2.toNatClampNeg then none else
  (if (τ.2.2.2.2.1 x2.toNatClampNeg) = 1 then (if p1 < (τ.2.2.2.1 x2.toNatClampNeg) then (kf_Bk_finish_2 p1 n2 (x2 + 1) τ) else
  (kf_Bk_finish_2 p1 n2 (x2 + 1) (τ.1, τ.2.1, τ.2.2.1, τ.2.2.2.1, (upd τ.2.2.2.2.1 x2.toNatClampNeg 2), τ.2.2.2.2.2.1, τ.2.2.2.2.2.2.1, τ.2.2.2.2.2.2.2.1, τ.2.2.2.2.2.2.2.2))) else
  (kf_Bk_finish_2 p1 n2 (x2 + 1) τ)))) := rfl
def kf_Bk_finish (σ : S_Bk) (p1 : Int32) : Option (S_Bk) :=
  (kf_Bk_finish_2 p1 FU 1 σ)
def kf_Bk_turnOne (σ : S_Bk) (p1 p2 : Int32) : Option (S_Bk) :=
  (if p1 < 0 ∨ 201 ≤ p1.toNatClampNeg then none else
  (if 200 ≤ σ.2.2.2.2.2.2.2.2 then (some (σ.1, σ.2.1, σ.2.2.1, σ.2.2.2.1, (upd σ.2.2.2.2.1 p1.toNatClampNeg p2), σ.2.2.2.2.2.1, σ.2.2.2.2.2.2.1, σ.2.2.2.2.2.2.2.1, σ.2.2.2.2.2.2.2.2)) else
  (if σ.2.2.2.2.2.2.2.2 < 0 ∨ 200 ≤ σ.2.2.2.2.2.2.2.2.toNatClampNeg then none else
  (some (σ.1, σ.2.1, σ.2.2.1, σ.2.2.2.1, (upd σ.2.2.2.2.1 p1.toNatClampNeg p2), σ.2.2.2.2.2.1, σ.2.2.2.2.2.2.1, (upd σ.2.2.2.2.2.2.2.1 σ.2.2.2.2.2.2.2.2.toNatClampNeg (σ.2.1 p1.toNatClampNeg)), (σ.2.2.2.2.2.2.2.2 + 1))))))
def kf_Bk_turn_13 (p1 p2 : Int32) : Nat → Int32 → S_Bk → Option (S_Bk)
  | 0, _, _ => none
  | n13 + 1, x3, τ =>
  (if τ.2.2.2.2.2.2.1 < x3 then (some τ) else
  (if x3 < 0 ∨ 201 ≤ x3.toNatClampNeg then none else
  (if (τ.2.2.2.2.2.1 x3.toNatClampNeg) = p1 then (if (τ.2.2.2.2.1 x3.toNatClampNeg) = 0 then ((kf_Bk_turnOne τ x3 p2).bind fun q5 =>
  (kf_Bk_turn_13 p1 p2 n13 (x3 + 1) q5)) else
  (kf_Bk_turn_13 p1 p2 n13 (x3 + 1) τ)) else
  (kf_Bk_turn_13 p1 p2 n13 (x3 + 1) τ))))
theorem kf_Bk_turn_13_s (p1 p2 : Int32) (n13 : Nat) (x3 : Int32) (τ : S_Bk) : kf_Bk_turn_13 p1 p2 (n13 + 1) x3 τ =
  (if τ.2.2.2.2.2.2.1 < x3 then (some τ) else
  (if x3 < 0 ∨ 201 ≤ x3.toNatClampNeg then none else
  (if (τ.2.2.2.2.2.1 x3.toNatClampNeg) = p1 then (if (τ.2.2.2.2.1 x3.toNatClampNeg) = 0 then ((kf_Bk_turnOne τ x3 p2).bind fun q5 =>
  (kf_Bk_turn_13 p1 p2 n13 (x3 + 1) q5)) else
  (kf_Bk_turn_13 p1 p2 n13 (x3 + 1) τ)) else
  (kf_Bk_turn_13 p1 p2 n13 (x3 + 1) τ)))) := rfl
def kf_Bk_turn (σ : S_Bk) (p1 p2 : Int32) : Option (S_Bk) :=
  ((kf_Bk_turnOne (σ.1, σ.2.1, σ.2.2.1, σ.2.2.2.1, σ.2.2.2.2.1, σ.2.2.2.2.2.1, σ.2.2.2.2.2.2.1, σ.2.2.2.2.2.2.2.1, 0) p1 p2).bind fun q6 =>
  (kf_Bk_turn_13 p1 p2 FU 1 q6))
def kf_Bk_turnedSize (σ : S_Bk) : Option (Int32) :=
  (some σ.2.2.2.2.2.2.2.2)
def kf_Bk_turnedThing (σ : S_Bk) (p1 : Int32) : Option (Int32) :=
  (if p1 < 0 ∨ 200 ≤ p1.toNatClampNeg then none else
  (some (σ.2.2.2.2.2.2.2.1 p1.toNatClampNeg)))
