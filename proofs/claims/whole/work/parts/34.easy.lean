theorem lt30 {tn : Nat} (h : tn < 30) : nI tn < 30 := nI_lt (b := 30) h (by decide)
theorem ne30 {tn : Nat} (h : tn < 30) : ¬ nI tn = 30 := fun x => by
  rw [show (30 : Int32) = nI 30 from rfl, nI_eq (by omega) (by decide)] at x; omega
theorem sim_thing' {σ : S_Br} {ρ : S_Mo} (h : Rel σ ρ) (p1 p2 p3 p4 p5 : Int32) : ∃ (r : Int32) (σ' : S_Br) (ρ' : S_Mo), kf_Br_thing σ p1 p2 p3 p4 p5 = some (r, σ') ∧ kg_Mo_thing ρ p1 p2 p3 p4 p5 = some (r, ρ') ∧ Rel σ' ρ' := by
  obtain ⟨tn, hn, bn, cl, rl, hT, hC, hB, hW, hP, hN⟩ := id h
  by_cases bad : p1 < 0 ∨ 3 < p1 ∨ p2 < 1 ∨ 1440 < p3 ∨ p3 < p2 ∨ p4 < 0 ∨ 100000 < p4 ∨ p5 < 0 ∨ 120 < p5 ∨ tn = 30
  · refine ⟨-1, σ, ρ, ?_, ?_, h⟩
    · unfold kf_Br_thing kf_Br_thing_22 kf_Br_thing_51 kf_Th_isFull
      rw [hT.2.1]
      simp only [kW, kPl, Option.bind_some, ite01]
      rcases bad with b | b | b | b | b | b | b | b | b | b
      · simp [b]
      · simp [b]
      · simp [b]
      · simp [b]
      · simp [b]
      · simp [b]
      · simp [b]
      · simp [b]
      · simp [b]
      · subst b
        have q : ¬ nI 30 < 30 := by decide
        simp [q]
    · unfold kg_Mo_thing
      rw [hT.2.2.1]
      rcases bad with b | b | b | b | b | b | b | b | b | b
      · simp [b]
      · simp [b]
      · simp [b]
      · simp [b]
      · simp [b]
      · simp [b]
      · simp [b]
      · simp [b]
      · simp [b]
      · subst b
        have q : nI 30 = 30 := rfl
        simp [q]
  · simp only [not_or] at bad
    obtain ⟨b1, b2, b3, b4, b5, b6, b7, b8, b9, b10⟩ := bad
    obtain ⟨ht, hTN, hMK, hR⟩ := hT
    have htn : tn < 30 := by omega
    obtain ⟨pl, hpl, rfl⟩ := oN (n := 3) b1 b2 (by decide)
    obtain ⟨ah, hah, rfl⟩ := oN (n := 100000) b6 b7 (by decide)
    obtain ⟨gr, hgr, rfl⟩ := oN (n := 120) b8 b9 (by decide)
    unfold kf_Br_thing
    rw [if_neg b3, if_neg b5, if_neg b4]
    unfold kf_Br_thing_22
    rw [kW, Option.bind_some, ite01, if_neg (not_or.mpr ⟨b6, b7⟩), kW, Option.bind_some, ite01, if_neg (not_or.mpr ⟨b8, b9⟩)]
    unfold kf_Br_thing_51
    rw [kPl, Option.bind_some, ite01, if_neg (not_or.mpr ⟨b1, b2⟩), if_neg (show ¬ (1 : Int32) = 0 by decide), if_neg (show ¬ (1 : Int32) = 0 by decide)]
    unfold kf_Th_isFull kf_Th_add
    rw [hTN, if_pos (lt30 htn), Option.bind_some, if_pos rfl, gi htn (by decide), iN_c (by omega), Option.bind_some]
    unfold kg_Mo_thing
    rw [hMK, if_neg b1, if_neg b2, if_neg b3, if_neg b4, if_neg b5, if_neg b6, if_neg b7, if_neg b8, if_neg b9, if_neg (ne30 htn), gt_0 htn, gt_1 htn, gt_2 htn, gt_3 htn, gt_4 htn, xt_0 htn, xt_1 htn, xt_2 htn, xt_3 htn, xt_4 htn, nI_1, nI_pred]
    refine ⟨_, _, _, rfl, rfl, ?_⟩
    · refine ⟨tn + 1, hn, bn, cl, rl, ⟨by omega, rfl, rfl, ?_⟩, hC, ⟨hB.1, hB.2.1, hB.2.2.1, hB.2.2.2.1, fun i i1 i2 => ⟨(hB.2.2.2.2 i i1 i2).1, ⟨(hB.2.2.2.2 i i1 i2).2.1.choose, Nat.lt_succ_of_lt (hB.2.2.2.2 i i1 i2).2.1.choose_spec.1, (hB.2.2.2.2 i i1 i2).2.1.choose_spec.2⟩, (hB.2.2.2.2 i i1 i2).2.2⟩⟩, ?_, hP, hN⟩
      · intro i hi
        by_cases c : i = tn
        · subst c
          refine ⟨⟨?_, ?_, ?_, ?_, ?_⟩, ⟨pl, by omega, pk_us⟩, ⟨ah, hah, pk_us⟩, ⟨gr, hgr, pk_us⟩⟩
          · show upd (upd (upd (upd (upd ρ.2.2.2.2.2.1 _ _) _ _) _ _) _ _) _ _ _ = upd _ _ _ _
            rw [pk_un (by omega), pk_un (by omega), pk_un (by omega), pk_un (by omega), pk_us, pk_us]
          · show upd (upd (upd (upd (upd ρ.2.2.2.2.2.1 _ _) _ _) _ _) _ _) _ _ _ = upd _ _ _ _
            rw [pk_un (by omega), pk_un (by omega), pk_un (by omega), pk_us, pk_us]
          · show upd (upd (upd (upd (upd ρ.2.2.2.2.2.1 _ _) _ _) _ _) _ _) _ _ _ = upd _ _ _ _
            rw [pk_un (by omega), pk_un (by omega), pk_us, pk_us]
          · show upd (upd (upd (upd (upd ρ.2.2.2.2.2.1 _ _) _ _) _ _) _ _) _ _ _ = upd _ _ _ _
            rw [pk_un (by omega), pk_us, pk_us]
          · show upd (upd (upd (upd (upd ρ.2.2.2.2.2.1 _ _) _ _) _ _) _ _) _ _ _ = upd _ _ _ _
            rw [pk_us, pk_us]
        · obtain ⟨⟨g0, g1, g2, g3, g4⟩, ⟨a1, a2, a3⟩, ⟨a4, a5, a6⟩, ⟨a7, a8, a9⟩⟩ := hR i (by omega)
          refine ⟨⟨?_, ?_, ?_, ?_, ?_⟩, ⟨a1, a2, (pk_un c).trans a3⟩, ⟨a4, a5, (pk_un c).trans a6⟩, ⟨a7, a8, (pk_un c).trans a9⟩⟩
          · show upd (upd (upd (upd (upd ρ.2.2.2.2.2.1 _ _) _ _) _ _) _ _) _ _ _ = upd _ _ _ _
            rw [pk_un (by omega), pk_un (by omega), pk_un (by omega), pk_un (by omega), pk_un (by omega), pk_un c, g0]
          · show upd (upd (upd (upd (upd ρ.2.2.2.2.2.1 _ _) _ _) _ _) _ _) _ _ _ = upd _ _ _ _
            rw [pk_un (by omega), pk_un (by omega), pk_un (by omega), pk_un (by omega), pk_un (by omega), pk_un c, g1]
          · show upd (upd (upd (upd (upd ρ.2.2.2.2.2.1 _ _) _ _) _ _) _ _) _ _ _ = upd _ _ _ _
            rw [pk_un (by omega), pk_un (by omega), pk_un (by omega), pk_un (by omega), pk_un (by omega), pk_un c, g2]
          · show upd (upd (upd (upd (upd ρ.2.2.2.2.2.1 _ _) _ _) _ _) _ _) _ _ _ = upd _ _ _ _
            rw [pk_un (by omega), pk_un (by omega), pk_un (by omega), pk_un (by omega), pk_un (by omega), pk_un c, g3]
          · show upd (upd (upd (upd (upd ρ.2.2.2.2.2.1 _ _) _ _) _ _) _ _) _ _ _ = upd _ _ _ _
            rw [pk_un (by omega), pk_un (by omega), pk_un (by omega), pk_un (by omega), pk_un (by omega), pk_un c, g4]
      · obtain ⟨w1, w2, w3, w4, w5, w6, w7, w8, w9, w10⟩ := hW
        exact ⟨w1, w2, w3, w4, w5, w6, w7, w8, w9, fun x hx => ⟨(w10 x hx).1, (w10 x hx).2.choose, Nat.lt_succ_of_lt (w10 x hx).2.choose_spec.1, (w10 x hx).2.choose_spec.2⟩⟩
theorem sim_hours' {σ : S_Br} {ρ : S_Mo} (h : Rel σ ρ) (p1 p2 p3 p4 : Int32) : ∃ (r : Int32) (σ' : S_Br) (ρ' : S_Mo), kf_Br_hours σ p1 p2 p3 p4 = some (r, σ') ∧ kg_Mo_hours ρ p1 p2 p3 p4 = some (r, ρ') ∧ Rel σ' ρ' := by
  obtain ⟨tn, hn, bn, cl, rl, hT, hC, hB, hW, hP, hN⟩ := id h
  by_cases a1 : p1 < 0 ∨ 3 < p1
  · refine ⟨0, σ, ρ, ?_, ?_, h⟩
    · unfold kf_Br_hours kf_Br_hours_14 kf_Br_hours_40
      simp only [kW, kPl, Option.bind_some, ite01]
      simp [a1]
    · unfold kg_Mo_hours kf_Mo_hours_23 kf_Mo_hours_37
      rcases a1 with b | b <;> simp [b]
  by_cases a2 : p2 < 0 ∨ 6 < p2
  · refine ⟨0, σ, ρ, ?_, ?_, h⟩
    · unfold kf_Br_hours kf_Br_hours_14 kf_Br_hours_40
      simp only [kW, kPl, Option.bind_some, ite01]
      simp [a2]
    · unfold kg_Mo_hours kf_Mo_hours_23 kf_Mo_hours_37
      rcases a2 with b | b <;> simp [b]
  have hset : ∃ (σ' : S_Br) (ρ' : S_Mo), kf_Br_hours_71 p1 p2 p3 p4 σ = some (1, σ') ∧ kf_Mo_hours_37 p1 p2 p3 p4 1 ρ = some (1, ρ') ∧ Rel σ' ρ' := by
    obtain ⟨p, hp, rfl⟩ := oN (n := 3) (fun q => a1 (Or.inl q)) (fun q => a1 (Or.inr q)) (by decide)
    obtain ⟨w, hw, rfl⟩ := oN (n := 6) (fun q => a2 (Or.inl q)) (fun q => a2 (Or.inr q)) (by decide)
    have ew : w = w % 7 := by omega
    have hrow : 7 * p + w < 28 := by omega
    have r7 : (nI p * 7) + nI w = nI (7 * p + w) := by rw [ew]; exact row7 p w
    have r14 : (14 * nI p) + (2 * nI w) = nI (2 * (7 * p + w)) := by rw [ew]; exact row14 p w
    unfold kf_Br_hours_71 kf_Ca_setHours
    rw [r7, gi hrow (by decide), iN_c (show 7 * p + w < 2 ^ 31 by omega), Option.bind_some]
    unfold kf_Mo_hours_37
    rw [if_neg (fun q => a1 (Or.inl q)), if_neg (fun q => a1 (Or.inr q)), if_neg (fun q => a2 (Or.inl q)), if_neg (fun q => a2 (Or.inr q)), if_neg (by decide), r14, gi (show 2 * (7 * p + w) < 56 by omega) (by decide), nI_1, gi (show 2 * (7 * p + w) + 1 < 56 by omega) (by decide), iN_c (show 2 * (7 * p + w) < 2 ^ 31 by omega), iN_c (show 2 * (7 * p + w) + 1 < 2 ^ 31 by omega)]
    refine ⟨_, _, rfl, rfl, ?_⟩
    · refine ⟨tn, hn, bn, cl, rl, hT, ⟨hC.1, hC.2.1, hC.2.2.1, ?_, hC.2.2.2.2⟩, hB, hW, hP, hN⟩
      intro r hr
      by_cases c : r = 7 * p + w
      · subst c
        refine ⟨?_, ?_⟩
        · show upd (upd ρ.2.2.1 _ _) _ _ _ = upd _ _ _ _
          rw [pk_un (by omega), pk_us, pk_us]
        · show upd (upd ρ.2.2.1 _ _) _ _ _ = upd _ _ _ _
          rw [pk_us, pk_us]
      · obtain ⟨g0, g1⟩ := hC.2.2.2.1 r hr
        refine ⟨?_, ?_⟩
        · show upd (upd ρ.2.2.1 _ _) _ _ _ = upd _ _ _ _
          rw [pk_un (by omega), pk_un (by omega), pk_un c, g0]
        · show upd (upd ρ.2.2.1 _ _) _ _ _ = upd _ _ _ _
          rw [pk_un (by omega), pk_un (by omega), pk_un c, g1]
  obtain ⟨σ', ρ', e1, e2, e3⟩ := hset
  have e0 : kf_Mo_hours_37 p1 p2 p3 p4 0 ρ = some (0, ρ) := by
    unfold kf_Mo_hours_37
    rw [if_neg (fun q => a1 (Or.inl q)), if_neg (fun q => a1 (Or.inr q)), if_neg (fun q => a2 (Or.inl q)), if_neg (fun q => a2 (Or.inr q)), if_pos rfl]
  have f0 : ∀ x y : Int32, kf_Br_hours_40 p1 p2 p3 p4 x y σ = if x = 0 then (if y = 0 then some (0, σ) else some (1, σ')) else some (1, σ') := by
    intro x y
    unfold kf_Br_hours_40
    rw [kPl, Option.bind_some, ite01, if_neg a1, kW, Option.bind_some, ite01, if_neg a2, e1]
  unfold kf_Br_hours kf_Br_hours_14 kg_Mo_hours kf_Mo_hours_23
  simp only [f0, e0, e2]
  by_cases c1 : p3 < 0
  · have n1 : ¬ p3 = 0 := fun q => by rw [q] at c1; exact absurd c1 (by decide)
    exact ⟨0, σ, ρ, by simp [c1, n1], by simp [c1, n1], h⟩
  · by_cases c2 : p4 ≤ p3
    · by_cases c3 : p3 = 0
      · by_cases c4 : p4 = 0
        · exact ⟨1, σ', ρ', by simp [c3, c4], by simp [c3, c4], e3⟩
        · rw [c3] at c2
          exact ⟨0, σ, ρ, by simp [c2, c3, c4], by simp [c2, c3, c4], h⟩
      · exact ⟨0, σ, ρ, by simp [c1, c2, c3], by simp [c1, c2, c3], h⟩
    · by_cases c3 : 1440 < p4
      · have n3 : ¬ p4 ≤ 1440 := Int32.not_le.mpr c3
        by_cases c4 : p3 = 0
        · by_cases c5 : p4 = 0
          · rw [c5] at c3; exact absurd c3 (by decide)
          · exact ⟨0, σ, ρ, by simp only [c4, c5, c3, if_true, if_false, ite_self, ite_true, ite_false], by rw [if_neg c1, if_neg c2, if_neg n3, if_pos c4, if_neg c5], h⟩
        · exact ⟨0, σ, ρ, by simp only [c4, c3, if_true, if_false, ite_self, ite_true, ite_false], by rw [if_neg c1, if_neg c2, if_neg n3, if_neg c4], h⟩
      · have n3 : p4 ≤ 1440 := Int32.not_lt.mp c3
        refine ⟨1, σ', ρ', ?_, by rw [if_neg c1, if_neg c2, if_pos n3], e3⟩
        simp only [if_neg c1, if_neg c2, if_neg c3]
        simp
theorem lt40 {tn : Nat} (h : tn < 40) : nI tn < 40 := nI_lt (b := 40) h (by decide)
theorem ne40 {tn : Nat} (h : tn < 40) : ¬ nI tn = 40 := fun x => by
  rw [show (40 : Int32) = nI 40 from rfl, nI_eq (by omega) (by decide)] at x; omega
theorem sim_holiday' {σ : S_Br} {ρ : S_Mo} (h : Rel σ ρ) (p1 : Int32) : ∃ (r : Int32) (σ' : S_Br) (ρ' : S_Mo), kf_Br_holiday σ p1 = some (r, σ') ∧ kg_Mo_holiday ρ p1 = some (r, ρ') ∧ Rel σ' ρ' := by
  obtain ⟨tn, hn, bn, cl, rl, hT, hC, hB, hW, hP, hN⟩ := id h
  unfold kf_Br_holiday kg_Mo_holiday
  rw [kW, Option.bind_some, ite01]
  by_cases a1 : p1 < 0 ∨ 694 < p1
  · refine ⟨0, σ, ρ, by rw [if_pos a1], ?_, h⟩
    rcases a1 with b | b <;> simp [b]
  rw [if_neg a1, if_neg (fun q => a1 (Or.inl q)), if_neg (fun q => a1 (Or.inr q))]
  obtain ⟨d, hd, rfl⟩ := oN (n := 694) (fun q => a1 (Or.inl q)) (fun q => a1 (Or.inr q)) (by decide)
  have hd' : d < 695 := by omega
  obtain ⟨q1, q2⟩ := hC.2.2.2.2 d hd'
  rw [mHol hC hd']
  unfold kf_Ca_isHoliday
  have e1 : σ.1.2.2.1 d &&& 1 = σ.1.2.2.1 d := by rcases q1 with q | q <;> rw [q] <;> decide
  rw [gi hd' (by decide), iN_c (by omega), nn_if e1, Option.bind_some, Option.bind_some]
  by_cases c1 : σ.1.2.2.1 d = 0
  case neg => exact ⟨0, σ, ρ, by rw [if_neg c1], by rw [if_neg c1], h⟩
  rw [if_pos c1, if_pos c1]
  unfold kf_Ca_isFull
  rw [hC.2.1, hC.2.2.1]
  by_cases c2 : hn = 40
  · subst c2
    exact ⟨0, σ, ρ, rfl, rfl, h⟩
  have hlt : hn < 40 := by have := hC.1; omega
  rw [if_pos (lt40 hlt), Option.bind_some, if_pos rfl, if_neg (ne40 hlt), gi hlt (by decide), iN_c (by omega)]
  unfold kf_Ca_addHoliday
  rw [gi hd' (by decide), iN_c (by omega), Option.bind_some, hC.2.1, nI_1]
  refine ⟨_, _, _, rfl, rfl, ⟨tn, hn + 1, bn, cl, rl, hT, ⟨by omega, rfl, rfl, hC.2.2.2.1, ?_⟩, hB, hW, hP, hN⟩⟩
  intro x hx
  obtain ⟨z1, z2⟩ := hC.2.2.2.2 x hx
  by_cases c : x = d
  · subst c
    refine ⟨Or.inr pk_us, ⟨fun _ => ⟨hn, by omega, pk_us⟩, fun _ => pk_us⟩⟩
  · refine ⟨?_, ?_⟩
    · show upd _ _ _ _ = 0 ∨ upd _ _ _ _ = 1
      rw [pk_un c]; exact z1
    · show upd _ _ _ _ = 1 ↔ _
      rw [pk_un c]
      refine z2.trans ⟨fun ⟨k, k1, k2⟩ => ⟨k, by omega, (pk_un (by omega)).trans k2⟩, fun ⟨k, k1, k2⟩ => ?_⟩
      by_cases ck : k = hn
      · subst ck
        have : nI d = nI x := (pk_us (f := ρ.2.2.2.1)).symm.trans k2
        rw [nI_eq (by omega) (by omega)] at this
        exact absurd this.symm c
      · exact ⟨k, by omega, (pk_un ck).symm.trans k2⟩
