theorem kBP {b : S_Bk} {i : Nat} (hi : i ≤ 200) : kf_Bk_personOf b (nI i) = some (b.1 i) := by unfold kf_Bk_personOf; rw [gi (show i < 201 by omega) (by decide), iN_c (by omega)]
theorem kBT {b : S_Bk} {i : Nat} (hi : i ≤ 200) : kf_Bk_thingOf b (nI i) = some (b.2.1 i) := by unfold kf_Bk_thingOf; rw [gi (show i < 201 by omega) (by decide), iN_c (by omega)]
theorem kBF {b : S_Bk} {i : Nat} (hi : i ≤ 200) : kf_Bk_fromOf b (nI i) = some (b.2.2.1 i) := by unfold kf_Bk_fromOf; rw [gi (show i < 201 by omega) (by decide), iN_c (by omega)]
theorem kBO {b : S_Bk} {i : Nat} (hi : i ≤ 200) : kf_Bk_toOf b (nI i) = some (b.2.2.2.1 i) := by unfold kf_Bk_toOf; rw [gi (show i < 201 by omega) (by decide), iN_c (by omega)]
theorem kBS {b : S_Bk} {i : Nat} (hi : i ≤ 200) : kf_Bk_stateOf b (nI i) = some (b.2.2.2.2.1 i) := by unfold kf_Bk_stateOf; rw [gi (show i < 201 by omega) (by decide), iN_c (by omega)]
theorem kBX {b : S_Bk} {i : Nat} (hi : i ≤ 200) : kf_Bk_hostOf b (nI i) = some (b.2.2.2.2.2.1 i) := by unfold kf_Bk_hostOf; rw [gi (show i < 201 by omega) (by decide), iN_c (by omega)]
theorem kHasB {b : S_Bk} {ρ : S_Mo} {tn bn : Nat} (hB : RBk b ρ tn bn) (x : Int32) : kf_Bk_has b x = some (if x < 1 ∨ nI bn < x then 0 else 1) ∧ kf_Mo_isBooking ρ x = some (if x < 1 ∨ nI bn < x then 0 else 1) := by
  unfold kf_Bk_has kf_Mo_isBooking
  rw [hB.2.1, hB.2.2.1]
  have e : (x ≤ 0) ↔ (x < 1) := by
    rw [Int32.le_iff_toInt_le, Int32.lt_iff_toInt_lt]
    have e1 : (0 : Int32).toInt = 0 := by decide
    have e2 : (1 : Int32).toInt = 1 := by decide
    rw [e1, e2]; omega
  by_cases h1 : x < 1
  · have h1' := e.mpr h1
    simp [h1, h1']
  · have h1' := fun q => h1 (e.mp q)
    by_cases h2 : nI bn < x
    · exact ⟨by rw [if_neg h1, if_pos h2, if_pos (Or.inr h2)], by rw [if_neg h1', if_pos h2, if_pos (Or.inr h2)]⟩
    · exact ⟨by rw [if_neg h1, if_neg h2, if_neg (not_or.mpr ⟨h1, h2⟩)], by rw [if_neg h1', if_neg h2, if_neg (not_or.mpr ⟨h1, h2⟩)]⟩
theorem isB {bn : Nat} {x : Int32} (hbn : bn ≤ 200) (h : ¬ (x < 1 ∨ nI bn < x)) : ∃ i, 1 ≤ i ∧ i ≤ bn ∧ x = nI i := by
  obtain ⟨h1, h2⟩ := not_or.mp h
  have h0 : ¬ x < 0 := fun q => h1 (by
    rw [Int32.lt_iff_toInt_lt] at q ⊢
    have e1 : (0 : Int32).toInt = 0 := by decide
    have e2 : (1 : Int32).toInt = 1 := by decide
    rw [e1] at q; rw [e2]; omega)
  obtain ⟨j, hj, rfl⟩ := oN h0 h2 (by omega)
  refine ⟨j, ?_, hj, rfl⟩
  rw [show (1 : Int32) = nI 1 from rfl, nI_ltI (by omega) (by decide)] at h1
  omega
theorem sim_clash' {σ : S_Br} {ρ : S_Mo} (h : Rel σ ρ) (p1 p2 : Int32) : ∃ (r : Int32) (ρ' : S_Mo), kf_Br_clash σ p1 p2 = some r ∧ kg_Mo_clash ρ p1 p2 = some (r, ρ') ∧ Rel σ ρ' := by
  obtain ⟨tn, hn, bn, cl, rl, hT, hC, hB, hW, hP, hN⟩ := id h
  unfold kf_Br_clash kg_Mo_clash
  rw [(kHasB hB p1).1, (kHasB hB p1).2, (kHasB hB p2).1, (kHasB hB p2).2]
  simp only [Option.bind_some, ite01]
  by_cases c1 : p1 < 1 ∨ nI bn < p1
  · exact ⟨0, ρ, by rw [if_pos c1], by rw [if_pos c1], h⟩
  by_cases c2 : p2 < 1 ∨ nI bn < p2
  · exact ⟨0, ρ, by rw [if_neg c1, if_pos c2], by rw [if_neg c1, if_pos c2], h⟩
  rw [if_neg c1, if_neg c1, if_neg c2, if_neg c2]
  obtain ⟨i, i1, i2, rfl⟩ := isB hB.1 c1
  obtain ⟨j, j1, j2, rfl⟩ := isB hB.1 c2
  have hb := hB.1
  have hi : i ≤ 200 := by omega
  have hj : j ≤ 200 := by omega
  obtain ⟨g0, g1, g2, g3, g4, g5⟩ := hB.2.2.2.1 j hj
  unfold kf_Bk_thingOf kf_Bk_fromOf kf_Bk_toOf
  rw [gi (show i < 201 by omega) (by decide), gi (show j < 201 by omega) (by decide), gi (show j < 201 by omega) (by decide), gi (show j < 201 by omega) (by decide), iN_c (show i < 2 ^ 31 by omega), iN_c (show j < 2 ^ 31 by omega), gb_1 hj, gb_2 hj, gb_3 hj, xb_1 hj, xb_2 hj, xb_3 hj, g1, g2, g3, mMe hB hi]
  simp only [Option.bind_some, kMe hi, ite10, ite01]
  by_cases c3 : σ.2.2.1.2.1 i = σ.2.2.1.2.1 j
  · by_cases c4 : σ.2.2.1.2.2.2.1 j ≤ σ.2.2.1.2.2.1 i ∨ σ.2.2.1.2.2.2.1 i ≤ σ.2.2.1.2.2.1 j
    · exact ⟨0, ρ, by rw [if_pos c3, if_pos c4], by rw [if_neg (fun q => q.2 c4)], h⟩
    · exact ⟨1, ρ, by rw [if_pos c3, if_neg c4], by rw [if_pos ⟨c3, c4⟩], h⟩
  · exact ⟨0, ρ, by rw [if_neg c3], by rw [if_neg (fun q => c3 q.1)], h⟩
theorem sim_booking' {σ : S_Br} {ρ : S_Mo} (h : Rel σ ρ) (p1 p2 : Int32) : ∃ (r : Int32) (ρ' : S_Mo), kf_Br_booking σ p1 p2 = some r ∧ kg_Mo_booking ρ p1 p2 = some (r, ρ') ∧ Rel σ ρ' := by
  obtain ⟨tn, hn, bn, cl, rl, hT, hC, hB, hW, hP, hN⟩ := id h
  unfold kf_Br_booking kg_Mo_booking
  rw [(kHasB hB p1).1, (kHasB hB p1).2]
  simp only [Option.bind_some, ite01]
  by_cases c1 : p1 < 1 ∨ nI bn < p1
  · exact ⟨-1, ρ, by rw [if_pos c1], by rw [if_pos c1], h⟩
  rw [if_neg c1, if_neg c1]
  obtain ⟨i, i1, i2, rfl⟩ := isB hB.1 c1
  have hb := hB.1
  have hi : i ≤ 200 := by omega
  obtain ⟨g0, g1, g2, g3, g4, g5⟩ := hB.2.2.2.1 i hi
  rw [kBP hi, kBT hi, kBF hi, kBO hi, kBS hi, kBX hi]
  simp only [Option.bind_some]
  by_cases c0 : p2 = 0
  · subst c0
    refine ⟨_, ρ, by rw [if_pos rfl], ?_, h⟩
    rw [if_neg (by decide), if_pos (by decide), show (6 * nI i + 0 : Int32) = 6 * nI i from Int32.add_zero _, gb_0 hi, xb_0 hi, g0]
  by_cases c2 : p2 = 1
  · subst c2
    refine ⟨_, ρ, by rw [if_neg c0, if_pos rfl], ?_, h⟩
    rw [if_neg (by decide), if_pos (by decide), gb_1 hi, xb_1 hi, g1]
  by_cases c3 : p2 = 2
  · subst c3
    refine ⟨_, ρ, by rw [if_neg c0, if_neg c2, if_pos rfl], ?_, h⟩
    rw [if_neg (by decide), if_pos (by decide), gb_2 hi, xb_2 hi, g2]
  by_cases c4 : p2 = 3
  · subst c4
    refine ⟨_, ρ, by rw [if_neg c0, if_neg c2, if_neg c3, if_pos rfl], ?_, h⟩
    rw [if_neg (by decide), if_pos (by decide), gb_3 hi, xb_3 hi, g3]
  by_cases c5 : p2 = 4
  · subst c5
    refine ⟨_, ρ, by rw [if_neg c0, if_neg c2, if_neg c3, if_neg c4, if_pos rfl], ?_, h⟩
    rw [if_neg (by decide), if_pos (by decide), gb_4 hi, xb_4 hi, g4]
  by_cases c6 : p2 = 5
  · subst c6
    refine ⟨_, ρ, by rw [if_neg c0, if_neg c2, if_neg c3, if_neg c4, if_neg c5, if_pos rfl], ?_, h⟩
    rw [if_neg (by decide), if_pos (by decide), gb_5 hi, xb_5 hi, g5]
  refine ⟨-1, ρ, by rw [if_neg c0, if_neg c2, if_neg c3, if_neg c4, if_neg c5, if_neg c6], ?_, h⟩
  by_cases d1 : p2 < 0
  · rw [if_pos d1]
  · rw [if_neg d1]
    by_cases d2 : p2 ≤ 5
    · exfalso
      rcases sw_out6 c0 c2 c3 c4 c5 c6 with q | q
      · rw [Int32.lt_iff_toInt_lt] at d1
        have e1 : (0 : Int32).toInt = 0 := by decide
        rw [e1] at d1; omega
      · rw [Int32.le_iff_toInt_le] at d2
        have e1 : (5 : Int32).toInt = 5 := by decide
        rw [e1] at d2; omega
    · rw [if_neg d2]
-- used
theorem simUs {b : S_Bk} {ρ : S_Mo} {tn bn : Nat} (hB : RBk b ρ tn bn) (p : Int32) : ∀ (m i n n' : Nat) (c : Int32), 1 ≤ i → i + m = bn + 1 → m < n → m < n' → ∃ r : Int32, kf_Bk_doneMinutes_4 b p n c (nI i) = some r ∧ kf_Mo_used_19 p n' c (nI i) ρ = some (r, ρ) := by
  have hL := hB.2.2.1; have hb := hB.1; have hN := hB.2.1
  intro m
  induction m with
  | zero =>
    intro i n n' c h1 hi hn hn'
    obtain ⟨n, rfl⟩ : ∃ k, n = k + 1 := ⟨n - 1, by omega⟩
    obtain ⟨n', rfl⟩ : ∃ k, n' = k + 1 := ⟨n' - 1, by omega⟩
    refine ⟨c, ?_, ?_⟩
    · rw [kf_Bk_doneMinutes_4_s, hN, if_pos (nI_lt (by omega) (by omega))]
    · rw [kf_Mo_used_19_s, hL, if_pos (nI_lt (by omega) (by omega))]
  | succ m ih =>
    intro i n n' c h1 hi hn hn'
    obtain ⟨n, rfl⟩ : ∃ k, n = k + 1 := ⟨n - 1, by omega⟩
    obtain ⟨n', rfl⟩ : ∃ k, n' = k + 1 := ⟨n' - 1, by omega⟩
    have hi2 : i ≤ 200 := by omega
    obtain ⟨g0, g1, g2, g3, g4, g5⟩ := hB.2.2.2.1 i hi2
    obtain ⟨r, e1, e2⟩ := ih (i + 1) n n' c (by omega) (by omega) (by omega) (by omega)
    obtain ⟨r', e1', e2'⟩ := ih (i + 1) n n' (c + (b.2.2.2.1 i - b.2.2.1 i)) (by omega) (by omega) (by omega) (by omega)
    rw [kf_Bk_doneMinutes_4_s, kf_Mo_used_19_s, hL, hN, if_neg (nI_nlt (show i ≤ bn by omega) (by omega)), if_neg (nI_nlt (show i ≤ bn by omega) (by omega)), gi (show i < 201 by omega) (by decide), iN_c (by omega), gb_1 hi2, gb_2 hi2, gb_3 hi2, gb_4 hi2, xb_1 hi2, xb_2 hi2, xb_3 hi2, xb_4 hi2, g1, g2, g3, g4, nI_1, show c + 0 = c from Int32.add_zero c, e1, e2, e1', e2']
    by_cases c1 : b.2.1 i = p
    · by_cases c2 : b.2.2.2.2.1 i = 2
      · exact ⟨r', by rw [if_pos c1, if_pos c2], by rw [if_pos c1, if_pos c2]⟩
      · exact ⟨r, by rw [if_pos c1, if_neg c2], by rw [if_pos c1, if_neg c2]⟩
    · exact ⟨r, by rw [if_neg c1], by rw [if_neg c1]⟩
theorem sim_used' {σ : S_Br} {ρ : S_Mo} (h : Rel σ ρ) (p1 : Int32) : ∃ (r : Int32) (ρ' : S_Mo), kf_Br_used σ p1 = some r ∧ kg_Mo_used ρ p1 = some (r, ρ') ∧ Rel σ ρ' := by
  obtain ⟨tn, hn, bn, cl, rl, hT, hC, hB, hW, hP, hN⟩ := id h
  unfold kf_Br_used kg_Mo_used kf_Bk_doneMinutes
  rw [(kHasT hT p1).1, (kHasT hT p1).2]
  simp only [Option.bind_some, ite01]
  have hb := hB.1; have hF := FU_big
  obtain ⟨r, e1, e2⟩ := simUs hB p1 bn 1 FU FU 0 (by omega) (by omega) (by omega) (by omega)
  by_cases c1 : p1 < 0 ∨ nI tn ≤ p1
  · exact ⟨-1, ρ, by rw [if_pos c1], by rw [if_pos c1], h⟩
  · refine ⟨r, ρ, ?_, ?_, h⟩
    · rw [if_neg c1]
      show (kf_Bk_doneMinutes_4 σ.2.2.1 p1 FU 0 (nI 1)).bind _ = _
      rw [e1]; rfl
    · rw [if_neg c1]; exact e2
-- list
theorem mLi {b : S_Bk} {ρ : S_Mo} {tn bn i : Nat} (hB : RBk b ρ tn bn) (h1 : 1 ≤ i) (h2 : i ≤ bn) (p : Int32) : kf_Mo_isListed ρ (nI i) p = some (if (b.2.2.2.2.1 i = 0 ∨ b.2.2.2.2.1 i = 1) ∧ b.1 i = p then 1 else 0) := by
  have hi : i ≤ 200 := Nat.le_trans h2 hB.1
  unfold kf_Mo_isListed
  rw [mLv hB h1 h2, Option.bind_some, ite10, gb_0 hi, xb_0 hi, (hB.2.2.2.1 i hi).1]
  by_cases c1 : b.2.2.2.2.1 i = 0 ∨ b.2.2.2.2.1 i = 1
  · by_cases c2 : b.1 i = p
    · rw [if_pos c1, if_pos c2, if_pos ⟨c1, c2⟩]
    · rw [if_pos c1, if_neg c2, if_neg (fun q => c2 q.2)]
  · rw [if_neg c1, if_neg (fun q => c1 q.1)]
theorem simBef {b : S_Bk} {ρ : S_Mo} {tn bn i0 : Nat} (hB : RBk b ρ tn bn) (h0 : i0 ≤ bn) (p2 : Int32) (K : Int32 → S_Mo → Option (Int32 × S_Mo)) : ∀ (m i n n' k : Nat), 1 ≤ i → i + m = bn + 1 → m < n → m < n' →
    ∃ k' : Nat, k' ≤ k + m ∧ kf_Bk_livingBefore_4 b (nI i0) n (nI k) (nI i) = some (nI k') ∧ kf_Mo_list_34 (b.1 i0) p2 K n' (nI i0) (nI k) (nI i) ρ = (if nI k' = p2 then some (nI i0, ρ) else K (nI i0 + 1) ρ) := by
  have hL := hB.2.2.1; have hb := hB.1; have hN := hB.2.1
  intro m
  induction m with
  | zero =>
    intro i n n' k h1 hi hn hn'
    obtain ⟨n, rfl⟩ : ∃ k, n = k + 1 := ⟨n - 1, by omega⟩
    obtain ⟨n', rfl⟩ : ∃ k, n' = k + 1 := ⟨n' - 1, by omega⟩
    refine ⟨k, by omega, ?_, ?_⟩
    · rw [kf_Bk_livingBefore_4_s, hN, if_pos (nI_lt (by omega) (by omega))]
    · rw [kf_Mo_list_34_s, hL, if_pos (nI_lt (by omega) (by omega))]
  | succ m ih =>
    intro i n n' k h1 hi hn hn'
    obtain ⟨n, rfl⟩ : ∃ k, n = k + 1 := ⟨n - 1, by omega⟩
    obtain ⟨n', rfl⟩ : ∃ k, n' = k + 1 := ⟨n' - 1, by omega⟩
    have hi2 : i ≤ 200 := by omega
    have h02 : i0 ≤ 200 := by omega
    obtain ⟨g0, g1, g2, g3, g4, g5⟩ := hB.2.2.2.1 i hi2
    obtain ⟨f0, f1, f2, f3, f4, f5⟩ := hB.2.2.2.1 i0 h02
    obtain ⟨r, l1, e1, e2⟩ := ih (i + 1) n n' k (by omega) (by omega) (by omega) (by omega)
    obtain ⟨r', l1', e1', e2'⟩ := ih (i + 1) n n' (k + 1) (by omega) (by omega) (by omega) (by omega)
    unfold kf_Bk_livingBefore_4 kf_Mo_list_34
    unfold kf_Bk_livingBefore_52
    rw [hL, hN, if_neg (nI_nlt (show i ≤ bn by omega) (by omega)), if_neg (nI_nlt (show i ≤ bn by omega) (by omega))]
    simp only [gi (show i < 201 by omega) (show 201 < 2 ^ 31 by decide), gi (show i0 < 201 by omega) (show 201 < 2 ^ 31 by decide), gb_2 hi2, gb_2 h02]
    simp only [iN_c (show i < 2 ^ 31 by omega), iN_c (show i0 < 2 ^ 31 by omega), xb_2 hi2, xb_2 h02, g2, f2, kLv hi2, mLi hB h1 (show i ≤ bn by omega), Option.bind_some, ite10, nI_1, show nI k + 0 = nI k from Int32.add_zero _]
    simp only [nI_1] at e2 e2'
    rw [e1, e1', e2, e2']
    have n10 : ¬ (1 : Int32) = 0 := by decide
    simp only [if_neg n10, if_pos rfl]
    by_cases c5 : (b.2.2.2.2.1 i = 0 ∨ b.2.2.2.2.1 i = 1) ∧ b.1 i = b.1 i0
    · obtain ⟨c6, c7⟩ := c5
      by_cases c1 : b.2.2.1 i < b.2.2.1 i0
      · exact ⟨r', by omega, by simp [c1, c6, c7], by simp [c1, c6, c7]⟩
      · by_cases c2 : b.2.2.1 i = b.2.2.1 i0
        · by_cases c3 : nI i0 ≤ nI i
          · exact ⟨r, by omega, by simp [c2, c3], by simp [c2, c3, c6, c7]⟩
          · exact ⟨r', by omega, by simp [c2, c3, c6, c7], by simp [c2, c3, c6, c7]⟩
        · exact ⟨r, by omega, by simp [c1, c2], by simp [c1, c2, c6, c7]⟩
    · refine ⟨r, by omega, ?_, by rw [if_neg c5]⟩
      have c8 : (if b.1 i = b.1 i0 then (if b.2.2.2.2.1 i = 0 ∨ b.2.2.2.2.1 i = 1 then some (nI r') else some (nI r)) else some (nI r)) = some (nI r) := by
        by_cases c7 : b.1 i = b.1 i0
        · rw [if_pos c7, if_neg (fun q => c5 ⟨q, c7⟩)]
        · rw [if_neg c7]
      simp only [c8, ite_self]
theorem simAt {b : S_Bk} {ρ : S_Mo} {tn bn : Nat} (hB : RBk b ρ tn bn) (p1 p2 : Int32) (h2 : ¬ p2 < 0) : ∀ (m i n n' : Nat), 1 ≤ i → i + m = bn + 1 → m < n → m < n' → ∃ r : Int32, kf_Bk_livingAt_2 b p1 p2 n (nI i) = some r ∧ kf_Mo_list_7 p1 p2 n' (nI i) ρ = some (r, ρ) := by
  have hL := hB.2.2.1; have hb := hB.1; have hN := hB.2.1; have hF := FU_big
  intro m
  induction m with
  | zero =>
    intro i n n' h1 hi hn hn'
    obtain ⟨n, rfl⟩ : ∃ k, n = k + 1 := ⟨n - 1, by omega⟩
    obtain ⟨n', rfl⟩ : ∃ k, n' = k + 1 := ⟨n' - 1, by omega⟩
    refine ⟨0, ?_, ?_⟩
    · rw [kf_Bk_livingAt_2_s, hN, if_pos (nI_lt (by omega) (by omega))]
    · rw [kf_Mo_list_7_s, hL, if_pos (nI_lt (by omega) (by omega))]
  | succ m ih =>
    intro i n n' h1 hi hn hn'
    obtain ⟨n, rfl⟩ : ∃ k, n = k + 1 := ⟨n - 1, by omega⟩
    obtain ⟨n', rfl⟩ : ∃ k, n' = k + 1 := ⟨n' - 1, by omega⟩
    have hi2 : i ≤ 200 := by omega
    have hi3 : i ≤ bn := by omega
    obtain ⟨r, e1, e2⟩ := ih (i + 1) n n' (by omega) (by omega) (by omega) (by omega)
    rw [kf_Bk_livingAt_2_s, kf_Mo_list_7_s, hL, hN, if_neg (nI_nlt hi3 (by omega)), if_neg (nI_nlt hi3 (by omega)), gi (show i < 201 by omega) (by decide), iN_c (by omega), kLv hi2, mLi hB h1 hi3, nI_1, e1, e2, if_neg h2]
    simp only [Option.bind_some, ite10]
    by_cases c1 : b.1 i = p1
    · by_cases c2 : b.2.2.2.2.1 i = 0 ∨ b.2.2.2.2.1 i = 1
      · obtain ⟨k', l1, e3, e4⟩ := simBef hB hi3 p2 (kf_Mo_list_7 p1 p2 n') bn 1 FU FU 0 (by omega) (by omega) (by omega) (by omega)
        rw [if_pos c1, if_pos c2, if_pos ⟨c2, c1⟩]
        have e3' : kf_Bk_livingBefore b (nI i) = some (nI k') := e3
        have e4' : kf_Mo_list_34 p1 p2 (kf_Mo_list_7 p1 p2 n') FU (nI i) 0 1 ρ = (if nI k' = p2 then some (nI i, ρ) else kf_Mo_list_7 p1 p2 n' (nI i + 1) ρ) := by
          rw [c1] at e4; exact e4
        rw [e3', e4', Option.bind_some, nI_1, e2]
        by_cases c3 : nI k' = p2
        · exact ⟨nI i, by rw [if_pos c3], by rw [if_pos c3]⟩
        · exact ⟨r, by rw [if_neg c3], by rw [if_neg c3]⟩
      · exact ⟨r, by rw [if_pos c1, if_neg c2], by rw [if_neg (fun q => c2 q.1)]⟩
    · exact ⟨r, by rw [if_neg c1], by rw [if_neg (fun q => c1 q.2)]⟩
theorem atNeg {b : S_Bk} {ρ : S_Mo} {tn bn : Nat} (hB : RBk b ρ tn bn) (p1 p2 : Int32) (h2 : p2 < 0) : ∀ (m i n : Nat), 1 ≤ i → i + m = bn + 1 → m < n → kf_Bk_livingAt_2 b p1 p2 n (nI i) = some 0 := by
  have hb := hB.1; have hN := hB.2.1; have hF := FU_big
  intro m
  induction m with
  | zero =>
    intro i n h1 hi hn
    obtain ⟨n, rfl⟩ : ∃ k, n = k + 1 := ⟨n - 1, by omega⟩
    rw [kf_Bk_livingAt_2_s, hN, if_pos (nI_lt (by omega) (by omega))]
  | succ m ih =>
    intro i n h1 hi hn
    obtain ⟨n, rfl⟩ : ∃ k, n = k + 1 := ⟨n - 1, by omega⟩
    have hi2 : i ≤ 200 := by omega
    have hi3 : i ≤ bn := by omega
    have e1 := ih (i + 1) n (by omega) (by omega) (by omega)
    obtain ⟨k', l1, e3, -⟩ := simBef hB hi3 p2 (fun _ _ => none) bn 1 FU FU 0 (by omega) (by omega) (by omega) (by omega)
    have e3' : kf_Bk_livingBefore b (nI i) = some (nI k') := e3
    have hk : ¬ nI k' = p2 := fun q => by rw [← q] at h2; exact nI_pos (by omega) h2
    rw [kf_Bk_livingAt_2_s, hN, if_neg (nI_nlt hi3 (by omega)), gi (show i < 201 by omega) (by decide), iN_c (by omega), kLv hi2, nI_1, e1, e3']
    simp only [Option.bind_some, ite10, if_neg hk, ite_self]
theorem sim_list' {σ : S_Br} {ρ : S_Mo} (h : Rel σ ρ) (p1 p2 : Int32) : ∃ (r : Int32) (ρ' : S_Mo), kf_Br_list σ p1 p2 = some r ∧ kg_Mo_list ρ p1 p2 = some (r, ρ') ∧ Rel σ ρ' := by
  obtain ⟨tn, hn, bn, cl, rl, hT, hC, hB, hW, hP, hN⟩ := id h
  have hb := hB.1; have hF := FU_big
  by_cases c : p2 < 0
  · refine ⟨0, ρ, ?_, ?_, h⟩
    · unfold kf_Br_list kf_Bk_livingAt
      show (kf_Bk_livingAt_2 σ.2.2.1 p1 p2 FU (nI 1)).bind _ = _
      rw [atNeg hB p1 p2 c bn 1 FU (by omega) (by omega) (by omega)]; rfl
    · unfold kg_Mo_list
      obtain ⟨n, e, -⟩ := FU_pos
      rw [e, kf_Mo_list_7_s, if_pos c, ite_self]
  · obtain ⟨r, e1, e2⟩ := simAt hB p1 p2 c bn 1 FU FU (by omega) (by omega) (by omega) (by omega)
    refine ⟨r, ρ, ?_, e2, h⟩
    unfold kf_Br_list kf_Bk_livingAt
    show (kf_Bk_livingAt_2 σ.2.2.1 p1 p2 FU (nI 1)).bind _ = _
    rw [e1]; rfl
