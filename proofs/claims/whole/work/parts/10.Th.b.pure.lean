def i_Th : S_Th := ((fun _ => 0), (fun _ => 0), (fun _ => 0), (fun _ => 0), (fun _ => 0), 0)
def kf_Th_has (σ : S_Th) (p1 : Int32) : Option (Int32) :=
  (if p1 < 0 then (some 0) else
  (if σ.2.2.2.2.2 ≤ p1 then (some 0) else
  (some 1)))
def kf_Th_isFull (σ : S_Th) : Option (Int32) :=
  (if σ.2.2.2.2.2 < 30 then (some 0) else
  (some 1))
def kf_Th_add (σ : S_Th) (p1 p2 p3 p4 p5 : Int32) : Option (Int32 × S_Th) :=
  (if σ.2.2.2.2.2 < 0 ∨ 30 ≤ σ.2.2.2.2.2.toNatClampNeg then none else
  (some (σ.2.2.2.2.2, ((upd σ.1 σ.2.2.2.2.2.toNatClampNeg p1), (upd σ.2.1 σ.2.2.2.2.2.toNatClampNeg p2), (upd σ.2.2.1 σ.2.2.2.2.2.toNatClampNeg p3), (upd σ.2.2.2.1 σ.2.2.2.2.2.toNatClampNeg p4), (upd σ.2.2.2.2.1 σ.2.2.2.2.2.toNatClampNeg p5), (σ.2.2.2.2.2 + 1)))))
def kf_Th_placeOf (σ : S_Th) (p1 : Int32) : Option (Int32) :=
  (if p1 < 0 ∨ 30 ≤ p1.toNatClampNeg then none else
  (some (σ.1 p1.toNatClampNeg)))
def kf_Th_allowsLength (σ : S_Th) (p1 p2 : Int32) : Option (Int32) :=
  (if p1 < 0 ∨ 30 ≤ p1.toNatClampNeg then none else
  (if p2 < (σ.2.1 p1.toNatClampNeg) then (some 0) else
  (if (σ.2.2.1 p1.toNatClampNeg) < p2 then (some 0) else
  (some 1))))
def kf_Th_aheadOf (σ : S_Th) (p1 : Int32) : Option (Int32) :=
  (if p1 < 0 ∨ 30 ≤ p1.toNatClampNeg then none else
  (some (σ.2.2.2.1 p1.toNatClampNeg)))
def kf_Th_graceOf (σ : S_Th) (p1 : Int32) : Option (Int32) :=
  (if p1 < 0 ∨ 30 ≤ p1.toNatClampNeg then none else
  (some (σ.2.2.2.2.1 p1.toNatClampNeg)))
