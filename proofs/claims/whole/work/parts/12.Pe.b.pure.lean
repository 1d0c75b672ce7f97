def i_Pe : S_Pe := ((fun _ => 0), (fun _ => 0))
def kf_Pe_noShowsOf (σ : S_Pe) (p1 : Int32) : Option (Int32) :=
  (if p1 < 0 ∨ 40 ≤ p1.toNatClampNeg then none else
  (some (σ.1 p1.toNatClampNeg)))
def kf_Pe_isBarred (σ : S_Pe) (p1 p2 : Int32) : Option (Int32) :=
  (if p1 < 0 ∨ 40 ≤ p1.toNatClampNeg then none else
  (if (σ.2 p1.toNatClampNeg) ≤ p2 then (some 0) else
  (some 1)))
def kf_Pe_countNoShow (σ : S_Pe) (p1 p2 : Int32) : Option (S_Pe) :=
  (if p1 < 0 ∨ 40 ≤ p1.toNatClampNeg then none else
  (if (((upd σ.1 p1.toNatClampNeg ((σ.1 p1.toNatClampNeg) + 1)) p1.toNatClampNeg) - ((upd σ.1 p1.toNatClampNeg ((σ.1 p1.toNatClampNeg) + 1)) p1.toNatClampNeg) / 3 * 3) = 0 then (some ((upd σ.1 p1.toNatClampNeg ((σ.1 p1.toNatClampNeg) + 1)), (upd σ.2 p1.toNatClampNeg (p2 + 10080)))) else
  (some ((upd σ.1 p1.toNatClampNeg ((σ.1 p1.toNatClampNeg) + 1)), σ.2))))
