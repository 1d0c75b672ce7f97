def i_Wi : S_Wi := ((fun _ => 0), (fun _ => 0), (fun _ => 0), (fun _ => 0), (fun _ => 0), 0)
def kf_Wi_size (σ : S_Wi) : Option (Int32) :=
  (some σ.2.2.2.2.2)
def kf_Wi_isFull (σ : S_Wi) : Option (Int32) :=
  (if σ.2.2.2.2.2 < 60 then (some 0) else
  (some 1))
def kf_Wi_personOf (σ : S_Wi) (p1 : Int32) : Option (Int32) :=
  (if p1 < 0 ∨ 60 ≤ p1.toNatClampNeg then none else
  (some (σ.1 p1.toNatClampNeg)))
def kf_Wi_thingOf (σ : S_Wi) (p1 : Int32) : Option (Int32) :=
  (if p1 < 0 ∨ 60 ≤ p1.toNatClampNeg then none else
  (some (σ.2.1 p1.toNatClampNeg)))
def kf_Wi_fromOf (σ : S_Wi) (p1 : Int32) : Option (Int32) :=
  (if p1 < 0 ∨ 60 ≤ p1.toNatClampNeg then none else
  (some (σ.2.2.1 p1.toNatClampNeg)))
def kf_Wi_toOf (σ : S_Wi) (p1 : Int32) : Option (Int32) :=
  (if p1 < 0 ∨ 60 ≤ p1.toNatClampNeg then none else
  (some (σ.2.2.2.1 p1.toNatClampNeg)))
def kf_Wi_countOf_4 (σ : S_Wi) (p1 : Int32) : Nat → Int32 → Int32 → Option (Int32)
  | 0, _, _ => none
  | n4 + 1, x2, x3 =>
  (if σ.2.2.2.2.2 ≤ x3 then (some x2) else
  (if x3 < 0 ∨ 60 ≤ x3.toNatClampNeg then none else
  (if (σ.1 x3.toNatClampNeg) = p1 then (kf_Wi_countOf_4 σ p1 n4 (x2 + 1) (x3 + 1)) else
  (kf_Wi_countOf_4 σ p1 n4 x2 (x3 + 1)))))
theorem kf_Wi_countOf_4_s (σ : S_Wi) (p1 : Int32) (n4 : Nat) (x2 : Int32) (x3 : Int32) : kf_Wi_countOf_4 σ p1 (n4 + 1) x2 x3 =
  (if σ.2.2.2.2.2 ≤ x3 then (some x2) else
  (if x3 < 0 ∨ 60 ≤ x3.toNatClampNeg then none else
  (if (σ.1 x3.toNatClampNeg) = p1 then (kf_Wi_countOf_4 σ p1 n4 (x2 + 1) (x3 + 1)) else
  (kf_Wi_countOf_4 σ p1 n4 x2 (x3 + 1))))) := rfl
def kf_Wi_countOf (σ : S_Wi) (p1 : Int32) : Option (Int32) :=
  (kf_Wi_countOf_4 σ p1 FU 0 0)
def kf_Wi_move (σ : S_Wi) (p1 p2 : Int32) : Option (S_Wi) :=
  (if p1 < 0 ∨ 60 ≤ p1.toNatClampNeg then none else
  (if p2 < 0 ∨ 60 ≤ p2.toNatClampNeg then none else
  (some ((upd σ.1 p2.toNatClampNeg (σ.1 p1.toNatClampNeg)), (upd σ.2.1 p2.toNatClampNeg (σ.2.1 p1.toNatClampNeg)), (upd σ.2.2.1 p2.toNatClampNeg (σ.2.2.1 p1.toNatClampNeg)), (upd σ.2.2.2.1 p2.toNatClampNeg (σ.2.2.2.1 p1.toNatClampNeg)), (upd σ.2.2.2.2.1 p2.toNatClampNeg (σ.2.2.2.2.1 p1.toNatClampNeg)), σ.2.2.2.2.2))))
def kf_Wi_add_41 (p1 p2 p3 p4 p5 : Int32) (x6 : Int32) (τ : S_Wi) : Option (Int32 × S_Wi) :=
  (if x6 < 0 ∨ 60 ≤ x6.toNatClampNeg then none else
  (some ((τ.2.2.2.2.2 + 1), ((upd τ.1 x6.toNatClampNeg p1), (upd τ.2.1 x6.toNatClampNeg p2), (upd τ.2.2.1 x6.toNatClampNeg p3), (upd τ.2.2.2.1 x6.toNatClampNeg p4), (upd τ.2.2.2.2.1 x6.toNatClampNeg p5), (τ.2.2.2.2.2 + 1)))))
def kf_Wi_add_6 (p1 p2 p3 p4 p5 : Int32) : Nat → Int32 → S_Wi → Option (Int32 × S_Wi)
  | 0, _, _ => none
  | n6 + 1, x6, τ =>
  (if x6 ≤ 0 then (kf_Wi_add_41 p1 p2 p3 p4 p5 x6 τ) else
  (if (x6 - 1) < 0 ∨ 60 ≤ (x6 - 1).toNatClampNeg then none else
  (if (τ.2.2.2.2.1 (x6 - 1).toNatClampNeg) ≤ p5 then (kf_Wi_add_41 p1 p2 p3 p4 p5 x6 τ) else
  ((kf_Wi_move τ (x6 - 1) x6).bind fun q5 =>
  (kf_Wi_add_6 p1 p2 p3 p4 p5 n6 (x6 + (-1)) q5)))))
theorem kf_Wi_add_6_s (p1 p2 p3 p4 p5 : Int32) (n6 : Nat) (x6 : Int32) (τ : S_Wi) : kf_Wi_add_6 p1 p2 p3 p4 p5 (n6 + 1) x6 τ =
  (if x6 ≤ 0 then (kf_Wi_add_41 p1 p2 p3 p4 p5 x6 τ) else
  (if (x6 - 1) < 0 ∨ 60 ≤ (x6 - 1).toNatClampNeg then none else
  (if (τ.2.2.2.2.1 (x6 - 1).toNatClampNeg) ≤ p5 then (kf_Wi_add_41 p1 p2 p3 p4 p5 x6 τ) else
  ((kf_Wi_move τ (x6 - 1) x6).bind fun q5 =>
  (kf_Wi_add_6 p1 p2 p3 p4 p5 n6 (x6 + (-1)) q5))))) := rfl
def kf_Wi_add (σ : S_Wi) (p1 p2 p3 p4 p5 : Int32) : Option (Int32 × S_Wi) :=
  (kf_Wi_add_6 p1 p2 p3 p4 p5 FU σ.2.2.2.2.2 σ)
def kf_Wi_removeAt_4 (p1 : Int32) : Nat → Int32 → S_Wi → Option (S_Wi)
  | 0, _, _ => none
  | n4 + 1, x2, τ =>
  (if τ.2.2.2.2.2 ≤ x2 then (some (τ.1, τ.2.1, τ.2.2.1, τ.2.2.2.1, τ.2.2.2.2.1, (τ.2.2.2.2.2 - 1))) else
  ((kf_Wi_move τ x2 (x2 - 1)).bind fun q2 =>
  (kf_Wi_removeAt_4 p1 n4 (x2 + 1) q2)))
theorem kf_Wi_removeAt_4_s (p1 : Int32) (n4 : Nat) (x2 : Int32) (τ : S_Wi) : kf_Wi_removeAt_4 p1 (n4 + 1) x2 τ =
  (if τ.2.2.2.2.2 ≤ x2 then (some (τ.1, τ.2.1, τ.2.2.1, τ.2.2.2.1, τ.2.2.2.2.1, (τ.2.2.2.2.2 - 1))) else
  ((kf_Wi_move τ x2 (x2 - 1)).bind fun q2 =>
  (kf_Wi_removeAt_4 p1 n4 (x2 + 1) q2))) := rfl
def kf_Wi_removeAt (σ : S_Wi) (p1 : Int32) : Option (S_Wi) :=
  (kf_Wi_removeAt_4 p1 FU (p1 + 1) σ)
