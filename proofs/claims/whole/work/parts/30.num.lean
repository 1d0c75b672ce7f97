theorem gdN {α : Type} {x : Int32} {N : Nat} {e : Option α} (m : Nat) (hx : x = nI m) (h : m < N) (hN : N < 2 ^ 31) : (if x < 0 ∨ N ≤ x.toNatClampNeg then none else e) = e := if_neg (by rw [hx]; exact nI_in h hN)
theorem six (a i c : Nat) : nI a * nI i + nI c = nI (a * i + c) := by rw [pk_mul, nI_add]
theorem ite01 {α : Type} {c : Prop} [Decidable c] {A B : α} : (if (if c then (0 : Int32) else 1) = 0 then A else B) = if c then A else B := by
  by_cases h : c
  · simp [h]
  · simp [h]
theorem ite10 {α : Type} {c : Prop} [Decidable c] {A B : α} : (if (if c then (1 : Int32) else 0) = 0 then A else B) = if c then B else A := by
  by_cases h : c
  · simp [h]
  · simp [h]
theorem b01 {c : Prop} [Decidable c] : (if c then (0 : Int32) else 1) &&& 1 = (if c then (0 : Int32) else 1) := by
  by_cases h : c
  · simp [h]
  · simp [h]
theorem b10 {c : Prop} [Decidable c] : (if c then (1 : Int32) else 0) &&& 1 = (if c then (1 : Int32) else 0) := by
  by_cases h : c
  · simp [h]
  · simp [h]
theorem nn_if {α : Type} {c : Prop} [Decidable c] {e : Option α} (h : c) : (if ¬ c then none else e) = e := if_neg (fun q => q h)
theorem iN_lt {a b : Nat} (ha : a < 2 ^ 31) (hb : b < 2 ^ 31) : (nI a < nI b) = (a < b) := propext (nI_ltI ha hb)
theorem iN_le {a b : Nat} (ha : a < 2 ^ 31) (hb : b < 2 ^ 31) : (nI a ≤ nI b) = (a ≤ b) := propext (nI_leI ha hb)
theorem iN_eq {a b : Nat} (ha : a < 2 ^ 31) (hb : b < 2 ^ 31) : (nI a = nI b) = (a = b) := propext (nI_eq ha hb)
theorem iN_c {n : Nat} (h : n < 2 ^ 31) : (nI n).toNatClampNeg = n := nI_clamp h
theorem nb_0 {i : Nat} : (6 * nI i) = nI (6 * i) := pk_mul 6 i
theorem gb_0 {i : Nat} (hi : i ≤ 200) {α : Type} {e : Option α} : (if (6 * nI i) < 0 ∨ 1206 ≤ (6 * nI i).toNatClampNeg then none else e) = e := gdN (6 * i) nb_0 (by omega) (by decide)
theorem xb_0 {i : Nat} (hi : i ≤ 200) : (6 * nI i).toNatClampNeg = 6 * i := by rw [nb_0]; exact nI_clamp (by omega)
theorem nb_1 {i : Nat} : ((6 * nI i) + 1) = nI (6 * i + 1) := six 6 i 1
theorem gb_1 {i : Nat} (hi : i ≤ 200) {α : Type} {e : Option α} : (if ((6 * nI i) + 1) < 0 ∨ 1206 ≤ ((6 * nI i) + 1).toNatClampNeg then none else e) = e := gdN (6 * i + 1) nb_1 (by omega) (by decide)
theorem xb_1 {i : Nat} (hi : i ≤ 200) : ((6 * nI i) + 1).toNatClampNeg = 6 * i + 1 := by rw [nb_1]; exact nI_clamp (by omega)
theorem nb_2 {i : Nat} : ((6 * nI i) + 2) = nI (6 * i + 2) := six 6 i 2
theorem gb_2 {i : Nat} (hi : i ≤ 200) {α : Type} {e : Option α} : (if ((6 * nI i) + 2) < 0 ∨ 1206 ≤ ((6 * nI i) + 2).toNatClampNeg then none else e) = e := gdN (6 * i + 2) nb_2 (by omega) (by decide)
theorem xb_2 {i : Nat} (hi : i ≤ 200) : ((6 * nI i) + 2).toNatClampNeg = 6 * i + 2 := by rw [nb_2]; exact nI_clamp (by omega)
theorem nb_3 {i : Nat} : ((6 * nI i) + 3) = nI (6 * i + 3) := six 6 i 3
theorem gb_3 {i : Nat} (hi : i ≤ 200) {α : Type} {e : Option α} : (if ((6 * nI i) + 3) < 0 ∨ 1206 ≤ ((6 * nI i) + 3).toNatClampNeg then none else e) = e := gdN (6 * i + 3) nb_3 (by omega) (by decide)
theorem xb_3 {i : Nat} (hi : i ≤ 200) : ((6 * nI i) + 3).toNatClampNeg = 6 * i + 3 := by rw [nb_3]; exact nI_clamp (by omega)
theorem nb_4 {i : Nat} : ((6 * nI i) + 4) = nI (6 * i + 4) := six 6 i 4
theorem gb_4 {i : Nat} (hi : i ≤ 200) {α : Type} {e : Option α} : (if ((6 * nI i) + 4) < 0 ∨ 1206 ≤ ((6 * nI i) + 4).toNatClampNeg then none else e) = e := gdN (6 * i + 4) nb_4 (by omega) (by decide)
theorem xb_4 {i : Nat} (hi : i ≤ 200) : ((6 * nI i) + 4).toNatClampNeg = 6 * i + 4 := by rw [nb_4]; exact nI_clamp (by omega)
theorem nb_5 {i : Nat} : ((6 * nI i) + 5) = nI (6 * i + 5) := six 6 i 5
theorem gb_5 {i : Nat} (hi : i ≤ 200) {α : Type} {e : Option α} : (if ((6 * nI i) + 5) < 0 ∨ 1206 ≤ ((6 * nI i) + 5).toNatClampNeg then none else e) = e := gdN (6 * i + 5) nb_5 (by omega) (by decide)
theorem xb_5 {i : Nat} (hi : i ≤ 200) : ((6 * nI i) + 5).toNatClampNeg = 6 * i + 5 := by rw [nb_5]; exact nI_clamp (by omega)
theorem nt_0 {i : Nat} : (5 * nI i) = nI (5 * i) := pk_mul 5 i
theorem gt_0 {i : Nat} (hi : i < 30) {α : Type} {e : Option α} : (if (5 * nI i) < 0 ∨ 150 ≤ (5 * nI i).toNatClampNeg then none else e) = e := gdN (5 * i) nt_0 (by omega) (by decide)
theorem xt_0 {i : Nat} (hi : i < 30) : (5 * nI i).toNatClampNeg = 5 * i := by rw [nt_0]; exact nI_clamp (by omega)
theorem nt_1 {i : Nat} : ((5 * nI i) + 1) = nI (5 * i + 1) := six 5 i 1
theorem gt_1 {i : Nat} (hi : i < 30) {α : Type} {e : Option α} : (if ((5 * nI i) + 1) < 0 ∨ 150 ≤ ((5 * nI i) + 1).toNatClampNeg then none else e) = e := gdN (5 * i + 1) nt_1 (by omega) (by decide)
theorem xt_1 {i : Nat} (hi : i < 30) : ((5 * nI i) + 1).toNatClampNeg = 5 * i + 1 := by rw [nt_1]; exact nI_clamp (by omega)
theorem nt_2 {i : Nat} : ((5 * nI i) + 2) = nI (5 * i + 2) := six 5 i 2
theorem gt_2 {i : Nat} (hi : i < 30) {α : Type} {e : Option α} : (if ((5 * nI i) + 2) < 0 ∨ 150 ≤ ((5 * nI i) + 2).toNatClampNeg then none else e) = e := gdN (5 * i + 2) nt_2 (by omega) (by decide)
theorem xt_2 {i : Nat} (hi : i < 30) : ((5 * nI i) + 2).toNatClampNeg = 5 * i + 2 := by rw [nt_2]; exact nI_clamp (by omega)
theorem nt_3 {i : Nat} : ((5 * nI i) + 3) = nI (5 * i + 3) := six 5 i 3
theorem gt_3 {i : Nat} (hi : i < 30) {α : Type} {e : Option α} : (if ((5 * nI i) + 3) < 0 ∨ 150 ≤ ((5 * nI i) + 3).toNatClampNeg then none else e) = e := gdN (5 * i + 3) nt_3 (by omega) (by decide)
theorem xt_3 {i : Nat} (hi : i < 30) : ((5 * nI i) + 3).toNatClampNeg = 5 * i + 3 := by rw [nt_3]; exact nI_clamp (by omega)
theorem nt_4 {i : Nat} : ((5 * nI i) + 4) = nI (5 * i + 4) := six 5 i 4
theorem gt_4 {i : Nat} (hi : i < 30) {α : Type} {e : Option α} : (if ((5 * nI i) + 4) < 0 ∨ 150 ≤ ((5 * nI i) + 4).toNatClampNeg then none else e) = e := gdN (5 * i + 4) nt_4 (by omega) (by decide)
theorem xt_4 {i : Nat} (hi : i < 30) : ((5 * nI i) + 4).toNatClampNeg = 5 * i + 4 := by rw [nt_4]; exact nI_clamp (by omega)
theorem nw_0 {i : Nat} : (5 * nI i) = nI (5 * i) := pk_mul 5 i
theorem gw_0 {i : Nat} (hi : i < 60) {α : Type} {e : Option α} : (if (5 * nI i) < 0 ∨ 300 ≤ (5 * nI i).toNatClampNeg then none else e) = e := gdN (5 * i) nw_0 (by omega) (by decide)
theorem xw_0 {i : Nat} (hi : i < 60) : (5 * nI i).toNatClampNeg = 5 * i := by rw [nw_0]; exact nI_clamp (by omega)
theorem nw_1 {i : Nat} : ((5 * nI i) + 1) = nI (5 * i + 1) := six 5 i 1
theorem gw_1 {i : Nat} (hi : i < 60) {α : Type} {e : Option α} : (if ((5 * nI i) + 1) < 0 ∨ 300 ≤ ((5 * nI i) + 1).toNatClampNeg then none else e) = e := gdN (5 * i + 1) nw_1 (by omega) (by decide)
theorem xw_1 {i : Nat} (hi : i < 60) : ((5 * nI i) + 1).toNatClampNeg = 5 * i + 1 := by rw [nw_1]; exact nI_clamp (by omega)
theorem nw_2 {i : Nat} : ((5 * nI i) + 2) = nI (5 * i + 2) := six 5 i 2
theorem gw_2 {i : Nat} (hi : i < 60) {α : Type} {e : Option α} : (if ((5 * nI i) + 2) < 0 ∨ 300 ≤ ((5 * nI i) + 2).toNatClampNeg then none else e) = e := gdN (5 * i + 2) nw_2 (by omega) (by decide)
theorem xw_2 {i : Nat} (hi : i < 60) : ((5 * nI i) + 2).toNatClampNeg = 5 * i + 2 := by rw [nw_2]; exact nI_clamp (by omega)
theorem nw_3 {i : Nat} : ((5 * nI i) + 3) = nI (5 * i + 3) := six 5 i 3
theorem gw_3 {i : Nat} (hi : i < 60) {α : Type} {e : Option α} : (if ((5 * nI i) + 3) < 0 ∨ 300 ≤ ((5 * nI i) + 3).toNatClampNeg then none else e) = e := gdN (5 * i + 3) nw_3 (by omega) (by decide)
theorem xw_3 {i : Nat} (hi : i < 60) : ((5 * nI i) + 3).toNatClampNeg = 5 * i + 3 := by rw [nw_3]; exact nI_clamp (by omega)
theorem nw_4 {i : Nat} : ((5 * nI i) + 4) = nI (5 * i + 4) := six 5 i 4
theorem gw_4 {i : Nat} (hi : i < 60) {α : Type} {e : Option α} : (if ((5 * nI i) + 4) < 0 ∨ 300 ≤ ((5 * nI i) + 4).toNatClampNeg then none else e) = e := gdN (5 * i + 4) nw_4 (by omega) (by decide)
theorem xw_4 {i : Nat} (hi : i < 60) : ((5 * nI i) + 4).toNatClampNeg = 5 * i + 4 := by rw [nw_4]; exact nI_clamp (by omega)
theorem gi {i N : Nat} (hi : i < N) (hN : N < 2 ^ 31) {α : Type} {e : Option α} : (if nI i < 0 ∨ N ≤ (nI i).toNatClampNeg then none else e) = e := gdN i rfl hi hN
-- the small ones
theorem kW (a b c : Int32) : kf_Br_isWithin a b c = some (if a < b ∨ c < a then 0 else 1) := by
  unfold kf_Br_isWithin
  by_cases h1 : a < b
  · simp [h1]
  · by_cases h2 : c < a
    · simp [h1, h2]
    · simp [h1, h2]
theorem kPl (a : Int32) : kf_Br_isPlace a = some (if a < 0 ∨ 3 < a then 0 else 1) := by
  unfold kf_Br_isPlace; rw [kW, Option.bind_some, nn_if b01]
theorem kPe (a : Int32) : kf_Br_isPerson a = some (if a < 0 ∨ 39 < a then 0 else 1) := by
  unfold kf_Br_isPerson; rw [kW, Option.bind_some, nn_if b01]
theorem kTi (a : Int32) : kf_Br_isTime a = some (if a < 0 ∨ 1000000 < a then 0 else 1) := by
  unfold kf_Br_isTime; rw [kW, Option.bind_some, nn_if b01]
theorem mTi (a : Int32) : kf_Mo_isTime a = some (if a < 0 ∨ 1000000 < a then 0 else 1) := by
  unfold kf_Mo_isTime
  by_cases h1 : a < 0
  · simp [h1]
  · by_cases h2 : 1000000 < a
    · simp [h1, h2]
    · simp [h1, h2]
theorem p39 (a : Int32) : (40 ≤ a) = (39 < a) := propext (by
  rw [Int32.le_iff_toInt_le, Int32.lt_iff_toInt_lt]
  have e1 : (40 : Int32).toInt = 40 := by decide
  have e2 : (39 : Int32).toInt = 39 := by decide
  rw [e1, e2]; omega)
theorem mPe (a : Int32) : kf_Mo_isPerson a = some (if a < 0 ∨ 39 < a then 0 else 1) := by
  unfold kf_Mo_isPerson
  simp only [p39]
  by_cases h1 : a < 0
  · simp [h1]
  · by_cases h2 : 39 < a
    · simp [h1, h2]
    · simp [h1, h2]
theorem oN {x : Int32} {n : Nat} (h0 : ¬ x < 0) (h1 : ¬ nI n < x) (hn : n < 2 ^ 31) : ∃ j : Nat, j ≤ n ∧ x = nI j := by
  obtain ⟨j, hj, rfl⟩ := nI_of h0
  exact ⟨j, by rw [nI_ltI hn hj] at h1; omega, rfl⟩
