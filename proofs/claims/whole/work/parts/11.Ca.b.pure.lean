def i_Ca : S_Ca := ((fun _ => 0), (fun _ => 0), (fun _ => 0), 0)
def kf_Ca_setHours (σ : S_Ca) (p1 p2 p3 p4 : Int32) : Option (S_Ca) :=
  (if ((p1 * 7) + p2) < 0 ∨ 28 ≤ ((p1 * 7) + p2).toNatClampNeg then none else
  (some ((upd σ.1 ((p1 * 7) + p2).toNatClampNeg p3), (upd σ.2.1 ((p1 * 7) + p2).toNatClampNeg p4), σ.2.2.1, σ.2.2.2)))
def kf_Ca_isHoliday (σ : S_Ca) (p1 : Int32) : Option (Int32) :=
  (if p1 < 0 ∨ 695 ≤ p1.toNatClampNeg then none else
  (if ¬ ((σ.2.2.1 p1.toNatClampNeg) &&& 1 = (σ.2.2.1 p1.toNatClampNeg)) then none else
  (some (σ.2.2.1 p1.toNatClampNeg))))
def kf_Ca_isFull (σ : S_Ca) : Option (Int32) :=
  (if σ.2.2.2 < 40 then (some 0) else
  (some 1))
def kf_Ca_addHoliday (σ : S_Ca) (p1 : Int32) : Option (Int32 × S_Ca) :=
  (if p1 < 0 ∨ 695 ≤ p1.toNatClampNeg then none else
  (some ((σ.2.2.2 + 1), (σ.1, σ.2.1, (upd σ.2.2.1 p1.toNatClampNeg (vp_nar .boolean 1)), (σ.2.2.2 + 1)))))
def kf_Ca_isOpen (σ : S_Ca) (p1 p2 p3 : Int32) : Option (Int32) :=
  (if (p2 / 1440) < 0 ∨ 695 ≤ (p2 / 1440).toNatClampNeg then none else
  (if (σ.2.2.1 (p2 / 1440).toNatClampNeg) = 0 then (if ((p1 * 7) + ((p2 / 1440) - (p2 / 1440) / 7 * 7)) < 0 ∨ 28 ≤ ((p1 * 7) + ((p2 / 1440) - (p2 / 1440) / 7 * 7)).toNatClampNeg then none else
  (if (p2 - ((p2 / 1440) * 1440)) < (σ.1 ((p1 * 7) + ((p2 / 1440) - (p2 / 1440) / 7 * 7)).toNatClampNeg) then (some 0) else
  (if (σ.2.1 ((p1 * 7) + ((p2 / 1440) - (p2 / 1440) / 7 * 7)).toNatClampNeg) < (p3 - ((p2 / 1440) * 1440)) then (some 0) else
  (some 1)))) else
  (some 0)))
