-- the reference's state with other bookings
abbrev mB (ρ : S_Mo) (B : A32) (L : Int32) : S_Mo := (ρ.1, ρ.2.1, ρ.2.2.1, ρ.2.2.2.1, ρ.2.2.2.2.1, ρ.2.2.2.2.2.1, ρ.2.2.2.2.2.2.1, B, L, ρ.2.2.2.2.2.2.2.2.2.1, ρ.2.2.2.2.2.2.2.2.2.2.1, ρ.2.2.2.2.2.2.2.2.2.2.2.1, ρ.2.2.2.2.2.2.2.2.2.2.2.2.1, ρ.2.2.2.2.2.2.2.2.2.2.2.2.2.1, ρ.2.2.2.2.2.2.2.2.2.2.2.2.2.2)
theorem nb_s {n c : Nat} : (6 * (nI n + 1) + nI c) = nI (6 * (n + 1) + c) := by rw [nI_1]; exact six 6 (n + 1) c
theorem simAdd {b : S_Bk} {ρ : S_Mo} {tn bn p t : Nat} (hB : RBk b ρ tn bn) (hb : bn < 200) (hp : p < 40) (ht : t < tn) (f o x : Int32) :
    ∃ (b' : S_Bk) (B' : A32), kf_Bk_add b (nI p) (nI t) f o x = some (nI (bn + 1), b') ∧ kf_Mo_add ρ (nI p) (nI t) f o x = some (nI (bn + 1), mB ρ B' (nI (bn + 1))) ∧ RBk b' (mB ρ B' (nI (bn + 1))) tn (bn + 1) ∧ b'.2.2.2.2.2.2.2.1 = b.2.2.2.2.2.2.2.1 ∧ b'.2.2.2.2.2.2.2.2 = b.2.2.2.2.2.2.2.2 ∧ (∀ i, i ≤ bn → b'.2.2.1 i = b.2.2.1 i ∧ b'.1 i = b.1 i ∧ b'.2.1 i = b.2.1 i) ∧ b'.2.2.1 (bn + 1) = f := by
  obtain ⟨h1, hN, hL, hR, hV⟩ := hB
  have hk : bn + 1 ≤ 200 := by omega
  unfold kf_Bk_add kf_Mo_add
  rw [hN, hL, nI_1, gi (show bn + 1 < 201 by omega) (by decide), gb_0 hk, gb_1 hk, gb_2 hk, gb_3 hk, gb_4 hk, gb_5 hk, iN_c (by omega), xb_0 hk, xb_1 hk, xb_2 hk, xb_3 hk, xb_4 hk, xb_5 hk]
  refine ⟨_, _, rfl, rfl, ⟨hk, rfl, rfl, ?_, ?_⟩, rfl, rfl, fun i hi => ⟨pk_un (by omega), pk_un (by omega), pk_un (by omega)⟩, pk_us⟩
  · intro i hi
    by_cases c : i = bn + 1
    · subst c
      refine ⟨?_, ?_, ?_, ?_, ?_, ?_⟩
      · show upd (upd (upd (upd (upd (upd ρ.2.2.2.2.2.2.2.1 _ _) _ _) _ _) _ _) _ _) _ _ _ = upd _ _ _ _
        rw [pk_un (by omega), pk_un (by omega), pk_un (by omega), pk_un (by omega), pk_un (by omega), pk_us, pk_us]
      · show upd (upd (upd (upd (upd (upd ρ.2.2.2.2.2.2.2.1 _ _) _ _) _ _) _ _) _ _) _ _ _ = upd _ _ _ _
        rw [pk_un (by omega), pk_un (by omega), pk_un (by omega), pk_un (by omega), pk_us, pk_us]
      · show upd (upd (upd (upd (upd (upd ρ.2.2.2.2.2.2.2.1 _ _) _ _) _ _) _ _) _ _) _ _ _ = upd _ _ _ _
        rw [pk_un (by omega), pk_un (by omega), pk_un (by omega), pk_us, pk_us]
      · show upd (upd (upd (upd (upd (upd ρ.2.2.2.2.2.2.2.1 _ _) _ _) _ _) _ _) _ _) _ _ _ = upd _ _ _ _
        rw [pk_un (by omega), pk_un (by omega), pk_us, pk_us]
      · show upd (upd (upd (upd (upd (upd ρ.2.2.2.2.2.2.2.1 _ _) _ _) _ _) _ _) _ _) _ _ _ = upd _ _ _ _
        rw [pk_un (by omega), pk_us, pk_us]
      · show upd (upd (upd (upd (upd (upd ρ.2.2.2.2.2.2.2.1 _ _) _ _) _ _) _ _) _ _) _ _ _ = upd _ _ _ _
        rw [pk_us, pk_us]
    · obtain ⟨g0, g1, g2, g3, g4, g5⟩ := hR i hi
      refine ⟨?_, ?_, ?_, ?_, ?_, ?_⟩
      · show upd (upd (upd (upd (upd (upd ρ.2.2.2.2.2.2.2.1 _ _) _ _) _ _) _ _) _ _) _ _ _ = upd _ _ _ _
        rw [pk_un (by omega), pk_un (by omega), pk_un (by omega), pk_un (by omega), pk_un (by omega), pk_un (by omega), pk_un c, g0]
      · show upd (upd (upd (upd (upd (upd ρ.2.2.2.2.2.2.2.1 _ _) _ _) _ _) _ _) _ _) _ _ _ = upd _ _ _ _
        rw [pk_un (by omega), pk_un (by omega), pk_un (by omega), pk_un (by omega), pk_un (by omega), pk_un (by omega), pk_un c, g1]
      · show upd (upd (upd (upd (upd (upd ρ.2.2.2.2.2.2.2.1 _ _) _ _) _ _) _ _) _ _) _ _ _ = upd _ _ _ _
        rw [pk_un (by omega), pk_un (by omega), pk_un (by omega), pk_un (by omega), pk_un (by omega), pk_un (by omega), pk_un c, g2]
      · show upd (upd (upd (upd (upd (upd ρ.2.2.2.2.2.2.2.1 _ _) _ _) _ _) _ _) _ _) _ _ _ = upd _ _ _ _
        rw [pk_un (by omega), pk_un (by omega), pk_un (by omega), pk_un (by omega), pk_un (by omega), pk_un (by omega), pk_un c, g3]
      · show upd (upd (upd (upd (upd (upd ρ.2.2.2.2.2.2.2.1 _ _) _ _) _ _) _ _) _ _) _ _ _ = upd _ _ _ _
        rw [pk_un (by omega), pk_un (by omega), pk_un (by omega), pk_un (by omega), pk_un (by omega), pk_un (by omega), pk_un c, g4]
      · show upd (upd (upd (upd (upd (upd ρ.2.2.2.2.2.2.2.1 _ _) _ _) _ _) _ _) _ _) _ _ _ = upd _ _ _ _
        rw [pk_un (by omega), pk_un (by omega), pk_un (by omega), pk_un (by omega), pk_un (by omega), pk_un (by omega), pk_un c, g5]
  · intro i hi1 hi2
    by_cases c : i = bn + 1
    · subst c
      exact ⟨⟨p, hp, pk_us⟩, ⟨t, ht, pk_us⟩, ⟨0, by omega, pk_us⟩⟩
    · obtain ⟨⟨p', a1, a2⟩, ⟨t', a3, a4⟩, ⟨s', a5, a6⟩⟩ := hV i hi1 (by omega)
      exact ⟨⟨p', a1, (pk_un c).trans a2⟩, ⟨t', a3, (pk_un c).trans a4⟩, ⟨s', a5, (pk_un c).trans a6⟩⟩
/-- a booking is tried: full; may not be; or is added on both sides -/
theorem simTry {σ : S_Br} {ρ : S_Mo} {tn hn bn : Nat} (hT : RTh σ.2.1 ρ tn) (hC : RCa σ.1 ρ hn) (hB : RBk σ.2.2.1 ρ tn bn) (hP : RPe σ.2.2.2.2.1 ρ) (hN : RNo σ.2.2.2.2.2 ρ) {p t : Nat} (hp : p < 40) (ht : t < tn) (f o : Int32) :
    (bn = 200 ∧ kf_Br_tryBooking σ (nI p) (nI t) f o = some (0, σ)) ∨
    (bn < 200 ∧ ∃ r : Int32, kf_Mo_against ρ (nI p) (nI t) f o 0 = some r ∧ (r = -1 ∨ r = -2 ∨ r = -3 ∨ r = -4 ∨ r = -5 ∨ r = -6) ∧ kf_Br_tryBooking σ (nI p) (nI t) f o = some (r, σ)) ∨
    (bn < 200 ∧ kf_Mo_against ρ (nI p) (nI t) f o 0 = some 0 ∧ ∃ (b' : S_Bk) (B' : A32), kf_Br_tryBooking σ (nI p) (nI t) f o = some (nI (bn + 1), (σ.1, σ.2.1, b', σ.2.2.2.1, σ.2.2.2.2.1, σ.2.2.2.2.2)) ∧ kf_Mo_add ρ (nI p) (nI t) f o 0 = some (nI (bn + 1), mB ρ B' (nI (bn + 1))) ∧ RBk b' (mB ρ B' (nI (bn + 1))) tn (bn + 1) ∧ b'.2.2.2.2.2.2.2.1 = σ.2.2.1.2.2.2.2.2.2.2.1 ∧ b'.2.2.2.2.2.2.2.2 = σ.2.2.1.2.2.2.2.2.2.2.2 ∧ (∀ i, i ≤ bn → b'.2.2.1 i = σ.2.2.1.2.2.1 i ∧ b'.1 i = σ.2.2.1.1 i ∧ b'.2.1 i = σ.2.2.1.2.1 i) ∧ ∃ f' w : Nat, b'.2.2.1 (bn + 1) = nI f' ∧ f' ≤ 1000000 ∧ σ.2.2.2.2.2 = nI w ∧ w ≤ f') := by
  obtain ⟨r, k1, m1, e1, e2⟩ := simAgainst hT hC hB hP hN hp ht f o 0
  have hb := hB.1
  unfold kf_Br_tryBooking kf_Bk_isFull
  rw [hB.2.1, k1]
  by_cases c : bn = 200
  · left
    subst c
    exact ⟨rfl, rfl⟩
  · right
    have hlt : nI bn < 200 := nI_lt (b := 200) (by omega) (by decide)
    rw [if_pos hlt, Option.bind_some, if_pos rfl, Option.bind_some]
    by_cases c2 : r = 0
    · right
      obtain ⟨b', B', q1, q2, q3, q4, q5, q6, q7⟩ := simAdd hB (show bn < 200 by omega) hp ht f o 0
      obtain ⟨f', w, rfl, z1, z2, z3⟩ := e2 c2
      rw [q1, if_pos c2]
      exact ⟨by omega, c2 ▸ m1, b', B', rfl, q2, q3, q4, q5, q6, f', w, q7, z1, z2, z3⟩
    · left
      rw [if_neg c2]
      exact ⟨by omega, r, m1, e1.resolve_left c2, rfl⟩
theorem ng0 {r : Int32} (h : r = -1 ∨ r = -2 ∨ r = -3 ∨ r = -4 ∨ r = -5 ∨ r = -6) : ¬ 0 ≤ r ∧ ¬ r = 0 ∧ r ≤ 0 := by
  rcases h with rfl | rfl | rfl | rfl | rfl | rfl <;> exact ⟨by decide, by decide, by decide⟩
theorem kHasT {t : S_Th} {ρ : S_Mo} {tn : Nat} (hT : RTh t ρ tn) (x : Int32) : kf_Th_has t x = some (if x < 0 ∨ nI tn ≤ x then 0 else 1) ∧ kf_Mo_isThing ρ x = some (if x < 0 ∨ nI tn ≤ x then 0 else 1) := by
  unfold kf_Th_has kf_Mo_isThing
  rw [hT.2.1, hT.2.2.1]
  by_cases h1 : x < 0
  · simp [h1]
  · by_cases h2 : nI tn ≤ x
    · simp [h1, h2]
    · simp [h1, h2]
theorem isT {tn : Nat} {x : Int32} (htn : tn ≤ 30) (h : ¬ (x < 0 ∨ nI tn ≤ x)) : ∃ t, t < tn ∧ x = nI t := by
  obtain ⟨j, hj, rfl⟩ := nI_of (x := x) (fun q => h (Or.inl q))
  refine ⟨j, ?_, rfl⟩
  have h2 : ¬ nI tn ≤ nI j := fun q => h (Or.inr q)
  rw [nI_leI (by omega) hj] at h2
  omega
theorem isP {x : Int32} (h : ¬ (x < 0 ∨ 39 < x)) : ∃ p, p < 40 ∧ x = nI p := by
  obtain ⟨p, hp, e⟩ := oN (n := 39) (fun q => h (Or.inl q)) (fun q => h (Or.inr q)) (by decide)
  exact ⟨p, by omega, e⟩
theorem ne200 {bn : Nat} (h : bn < 200) : ¬ nI bn = 200 := fun x => by
  rw [show (200 : Int32) = nI 200 from rfl, nI_eq (by omega) (by decide)] at x; omega
theorem sim_book' {σ : S_Br} {ρ : S_Mo} (h : Rel σ ρ) (p1 p2 p3 p4 : Int32) : ∃ (r : Int32) (σ' : S_Br) (ρ' : S_Mo), kf_Br_book σ p1 p2 p3 p4 = some (r, σ') ∧ kg_Mo_book ρ p1 p2 p3 p4 = some (r, ρ') ∧ Rel σ' ρ' := by
  obtain ⟨tn, hn, bn, cl, rl, hT, hC, hB, hW, hP, hN⟩ := id h
  unfold kf_Br_book kg_Mo_book
  rw [kPe, mPe, (kHasT hT p2).1, (kHasT hT p2).2, hB.2.2.1]
  simp only [Option.bind_some, ite01]
  by_cases c1 : p1 < 0 ∨ 39 < p1
  · exact ⟨0, σ, ρ, by rw [if_pos c1], by rw [if_pos c1], h⟩
  by_cases c2 : p2 < 0 ∨ nI tn ≤ p2
  · exact ⟨0, σ, ρ, by rw [if_neg c1, if_pos c2], by rw [if_neg c1, if_pos c2], h⟩
  rw [if_neg c1, if_neg c1, if_neg c2, if_neg c2]
  obtain ⟨t, ht, rfl⟩ := isT hT.1 c2
  obtain ⟨p, hp, rfl⟩ := isP c1
  rcases simTry hT hC hB hP hN hp ht p3 p4 with ⟨e, k⟩ | ⟨e, r, m, z, k⟩ | ⟨e, m, b', B', k, a, q, q1, q2, q3, q4⟩
  · subst e
    rw [k]
    exact ⟨0, σ, ρ, rfl, by rw [if_pos (show nI 200 = 200 from rfl)], h⟩
  · rw [k, if_neg (ne200 e), m, Option.bind_some, Option.bind_some, if_neg (ng0 z).1]
    exact ⟨r, σ, ρ, rfl, rfl, h⟩
  · rw [k, if_neg (ne200 e), m, Option.bind_some, Option.bind_some, if_pos (by decide), a, Option.bind_some]
    exact ⟨nI (bn + 1), _, _, rfl, rfl, ⟨tn, hn, bn + 1, cl, rl, hT, hC, q, hW, hP, hN⟩⟩
theorem Rel.z {σ : S_Br} {ρ : S_Mo} (h : Rel σ ρ) : Rel σ (0, ρ.2) := h
