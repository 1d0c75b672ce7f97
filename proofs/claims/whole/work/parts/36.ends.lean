abbrev mE (ρ : S_Mo) (B F : A32) : S_Mo := (ρ.1, ρ.2.1, ρ.2.2.1, ρ.2.2.2.1, ρ.2.2.2.2.1, ρ.2.2.2.2.2.1, ρ.2.2.2.2.2.2.1, B, ρ.2.2.2.2.2.2.2.2.1, ρ.2.2.2.2.2.2.2.2.2.1, ρ.2.2.2.2.2.2.2.2.2.2.1, ρ.2.2.2.2.2.2.2.2.2.2.2.1, ρ.2.2.2.2.2.2.2.2.2.2.2.2.1, F, ρ.2.2.2.2.2.2.2.2.2.2.2.2.2.2)
theorem kT1 {b : S_Bk} {i v : Nat} (hi : i ≤ 200) (hv : v < 200) (eV : b.2.2.2.2.2.2.2.2 = nI v) (x : Int32) : kf_Bk_turnOne b (nI i) x = some (b.1, b.2.1, b.2.2.1, b.2.2.2.1, upd b.2.2.2.2.1 i x, b.2.2.2.2.2.1, b.2.2.2.2.2.2.1, upd b.2.2.2.2.2.2.2.1 v (b.2.1 i), nI (v + 1)) := by
  unfold kf_Bk_turnOne
  rw [gi (show i < 201 by omega) (by decide), eV, if_neg (show ¬ (200 : Int32) ≤ nI v from nI_ge (b := 200) hv (by decide)), gi hv (by decide), iN_c (show i < 2 ^ 31 by omega), iN_c (show v < 2 ^ 31 by omega), nI_1]
theorem RBk_S {b : S_Bk} {ρ : S_Mo} {tn bn : Nat} (hB : RBk b ρ tn bn) {i s : Nat} (hi : i ≤ 200) (hs : s ≤ 4) (U : A32) (V : Int32) (F : A32) : RBk (b.1, b.2.1, b.2.2.1, b.2.2.2.1, upd b.2.2.2.2.1 i (nI s), b.2.2.2.2.2.1, b.2.2.2.2.2.2.1, U, V) (mE ρ (upd ρ.2.2.2.2.2.2.2.1 (6 * i + 4) (nI s)) F) tn bn := by
  obtain ⟨h1, hN, hL, hR, hV⟩ := hB
  refine ⟨h1, hN, hL, fun j hj => ?_, fun j j1 j2 => ?_⟩
  · obtain ⟨g0, g1, g2, g3, g4, g5⟩ := hR j hj
    refine ⟨(pk_un (by omega)).trans g0, (pk_un (by omega)).trans g1, (pk_un (by omega)).trans g2, (pk_un (by omega)).trans g3, ?_, (pk_un (by omega)).trans g5⟩
    by_cases c : j = i
    · subst c; exact pk_us.trans pk_us.symm
    · exact (pk_un (by omega)).trans (g4.trans (pk_un c).symm)
  · obtain ⟨a1, a2, ⟨s', a3, a4⟩⟩ := hV j j1 j2
    refine ⟨a1, a2, ?_⟩
    by_cases c : j = i
    · subst c; exact ⟨s, hs, pk_us⟩
    · exact ⟨s', a3, (pk_un c).trans a4⟩
theorem simEl {tn bn j s : Nat} (hj2 : j ≤ bn) (hs1 : 1 ≤ s) (hs2 : s ≤ 4) : ∀ (m i n n' k : Nat) (b : S_Bk) (ρ : S_Mo), RBk b ρ tn bn → 1 ≤ i → i + m = bn + 1 → m < n → m < n' → b.2.2.2.2.1 j = nI s → (j < i → k + 2 ≤ i) → k + 1 ≤ i → b.2.2.2.2.2.2.2.2 = nI (k + 1) → b.2.2.2.2.2.2.2.1 0 = b.2.1 j → (∀ q, q < k → b.2.2.2.2.2.2.2.1 (q + 1) = ρ.2.2.2.2.2.2.2.2.2.2.2.2.2.1 q ∧ ∃ t, t < tn ∧ ρ.2.2.2.2.2.2.2.2.2.2.2.2.2.1 q = nI t) →
    ∃ (b' : S_Bk) (B' F' : A32) (k' : Nat), kf_Bk_turn_13 (nI j) (nI s) n (nI i) b = some b' ∧ kf_Mo_ends_17 (nI j) (nI s) n' (nI k) (nI i) ρ = some (nI k', mE ρ B' F') ∧ RBk b' (mE ρ B' F') tn bn ∧ k' + 1 ≤ 200 ∧ b'.2.2.2.2.2.2.2.2 = nI (k' + 1) ∧ b'.2.2.2.2.2.2.2.1 0 = b'.2.1 j ∧ (∀ q, q < k' → b'.2.2.2.2.2.2.2.1 (q + 1) = F' q ∧ ∃ t, t < tn ∧ F' q = nI t) ∧ b'.2.2.1 = b.2.2.1 ∧ b'.2.1 = b.2.1 ∧ b'.1 = b.1 := by
  intro m
  induction m with
  | zero =>
    intro i n n' k b ρ hB h1 hi hn hn' hS hk hk1 eV eU eF
    obtain ⟨n, rfl⟩ : ∃ k, n = k + 1 := ⟨n - 1, by omega⟩
    obtain ⟨n', rfl⟩ : ∃ k, n' = k + 1 := ⟨n' - 1, by omega⟩
    have hb := hB.1
    refine ⟨b, ρ.2.2.2.2.2.2.2.1, ρ.2.2.2.2.2.2.2.2.2.2.2.2.2.1, k, ?_, ?_, hB, by have := hk (by omega); omega, eV, eU, eF, rfl, rfl, rfl⟩
    · rw [kf_Bk_turn_13_s, hB.2.1, if_pos (nI_lt (by omega) (by omega))]
    · rw [kf_Mo_ends_17_s, hB.2.2.1, if_pos (nI_lt (by omega) (by omega))]
  | succ m ih =>
    intro i n n' k b ρ hB h1 hi hn hn' hS hk hk1 eV eU eF
    obtain ⟨n, rfl⟩ : ∃ k, n = k + 1 := ⟨n - 1, by omega⟩
    obtain ⟨n', rfl⟩ : ∃ k, n' = k + 1 := ⟨n' - 1, by omega⟩
    have hb := hB.1
    have hi2 : i ≤ 200 := by omega
    have hi3 : i ≤ bn := by omega
    obtain ⟨g0, g1, g2, g3, g4, g5⟩ := hB.2.2.2.1 i hi2
    rw [kf_Bk_turn_13_s, kf_Mo_ends_17_s, hB.2.1, if_neg (nI_nlt hi3 (by omega)), gi (show i < 201 by omega) (by decide), iN_c (show i < 2 ^ 31 by omega)]
    rw [show (if ρ.2.2.2.2.2.2.2.2.1 < nI i then some (nI k, ρ) else _) = _ from if_neg (by rw [hB.2.2.1]; exact nI_nlt hi3 (by omega)), gb_5 hi2, gb_4 hi2, gb_1 hi2, xb_5 hi2, xb_4 hi2, xb_1 hi2, g5, g4, nI_1]
    by_cases c1 : b.2.2.2.2.2.1 i = nI j
    · by_cases c2 : b.2.2.2.2.1 i = 0
      · have hij : i ≠ j := fun q => by
          rw [q, hS] at c2
          rw [show (0 : Int32) = nI 0 from rfl, nI_eq (by omega) (by decide)] at c2; omega
        have hk200 : k + 1 < 200 := by
          rcases Nat.lt_or_ge j i with q | q
          · have := hk q; omega
          · omega
        rw [if_pos c1, if_pos c1, if_pos c2, if_pos c2, kT1 hi2 hk200 eV, Option.bind_some, gi (show k < 200 by omega) (by decide), iN_c (show k < 2 ^ 31 by omega), nI_1 k]
        have hkn : j < i + 1 → k + 1 + 2 ≤ i + 1 := by
          intro q
          rcases Nat.lt_or_ge j i with z | z
          · have := hk z; omega
          · omega
        have hT : (upd ρ.2.2.2.2.2.2.2.1 (6 * i + 4) (nI s)) (6 * i + 1) = b.2.1 i := (pk_un (by omega)).trans g1
        rw [hT]
        obtain ⟨b', B', F', k', q1, q2, q3, q4, q5, q6, q7, q8, q9, q10⟩ := ih (i + 1) n n' (k + 1) _ _ (RBk_S hB hi2 hs2 (upd b.2.2.2.2.2.2.2.1 (k + 1) (b.2.1 i)) (nI (k + 1 + 1)) (upd ρ.2.2.2.2.2.2.2.2.2.2.2.2.2.1 k (b.2.1 i))) (by omega) (by omega) (by omega) (by omega)
          ((pk_un (fun q => hij q.symm)).trans hS) hkn (by omega) rfl (show upd b.2.2.2.2.2.2.2.1 (k + 1) (b.2.1 i) 0 = b.2.1 j from (pk_un (by omega)).trans eU)
          (fun q hq => by
            by_cases c : q = k
            · subst c
              obtain ⟨t, z1, z2⟩ := (hB.2.2.2.2 i h1 hi3).2.1
              exact ⟨pk_us.trans pk_us.symm, t, z1, pk_us.trans z2⟩
            · obtain ⟨z1, t, z2, z3⟩ := eF q (by omega)
              exact ⟨(pk_un (by omega)).trans (z1.trans (pk_un c).symm), t, z2, (pk_un c).trans z3⟩)
        exact ⟨b', B', F', k', q1, q2, q3, q4, q5, q6, q7, q8, q9, q10⟩
      · rw [if_pos c1, if_pos c1, if_neg c2, if_neg c2]
        exact ih (i + 1) n n' k b ρ hB (by omega) (by omega) (by omega) (by omega) hS (fun q => by
          rcases Nat.lt_or_ge j i with z | z
          · have := hk z; omega
          · have : j = i := by omega
            omega) (by omega) eV eU eF
    · rw [if_neg c1, if_neg c1]
      exact ih (i + 1) n n' k b ρ hB (by omega) (by omega) (by omega) (by omega) hS (fun q => by
          rcases Nat.lt_or_ge j i with z | z
          · have := hk z; omega
          · have : j = i := by omega
            omega) (by omega) eV eU eF
theorem simEnds {b : S_Bk} {ρ : S_Mo} {tn bn j s : Nat} (hB : RBk b ρ tn bn) (hj1 : 1 ≤ j) (hj2 : j ≤ bn) (hs1 : 1 ≤ s) (hs2 : s ≤ 4) :
    ∃ (b' : S_Bk) (B' F' : A32) (k' : Nat), kf_Bk_turn b (nI j) (nI s) = some b' ∧ kf_Mo_ends ρ (nI j) (nI s) = some (nI k', mE ρ B' F') ∧ RBk b' (mE ρ B' F') tn bn ∧ k' + 1 ≤ 200 ∧ b'.2.2.2.2.2.2.2.2 = nI (k' + 1) ∧ b'.2.2.2.2.2.2.2.1 0 = b'.2.1 j ∧ (∀ q, q < k' → b'.2.2.2.2.2.2.2.1 (q + 1) = F' q ∧ ∃ t, t < tn ∧ F' q = nI t) ∧ b'.2.2.1 = b.2.2.1 ∧ b'.2.1 = b.2.1 ∧ b'.1 = b.1 := by
  have hb := hB.1; have hF := FU_big
  have hj : j ≤ 200 := by omega
  unfold kf_Bk_turn kf_Mo_ends
  rw [kT1 (b := (b.1, b.2.1, b.2.2.1, b.2.2.2.1, b.2.2.2.2.1, b.2.2.2.2.2.1, b.2.2.2.2.2.2.1, b.2.2.2.2.2.2.2.1, 0)) (v := 0) hj (by decide) rfl, Option.bind_some, gb_4 hj, xb_4 hj]
  obtain ⟨b', B', F', k', q1, q2, q3⟩ := simEl (tn := tn) hj2 hs1 hs2 bn 1 FU FU 0 _ _ (RBk_S hB hj hs2 (upd b.2.2.2.2.2.2.2.1 0 (b.2.1 j)) (nI (0 + 1)) ρ.2.2.2.2.2.2.2.2.2.2.2.2.2.1) (by omega) (by omega) (by omega) (by omega) (show upd b.2.2.2.2.1 j (nI s) j = nI s from pk_us) (fun q => by omega) (by omega) rfl (show upd b.2.2.2.2.2.2.2.1 0 (b.2.1 j) 0 = b.2.1 j from pk_us) (fun q hq => by omega)
  exact ⟨b', B', F', k', q1, q2, q3⟩
theorem kOf {b : S_Bk} {ρ : S_Mo} {tn bn : Nat} (hB : RBk b ρ tn bn) (p1 p2 : Int32) : ∃ r : Int32, kf_Bk_isBookedBy b p1 p2 = some r ∧ kf_Mo_isOf ρ p1 p2 = some r ∧ (r = 0 ∨ (r = 1 ∧ ∃ i, 1 ≤ i ∧ i ≤ bn ∧ p1 = nI i ∧ b.2.2.2.2.1 i = 0 ∧ b.1 i = p2)) := by
  unfold kf_Bk_isBookedBy kf_Mo_isOf
  rw [(kHasB hB p1).1, (kHasB hB p1).2]
  simp only [Option.bind_some, ite01]
  by_cases c1 : p1 < 1 ∨ nI bn < p1
  · exact ⟨0, by rw [if_pos c1], by rw [if_pos c1], Or.inl rfl⟩
  rw [if_neg c1, if_neg c1]
  obtain ⟨i, i1, i2, rfl⟩ := isB hB.1 c1
  have hb := hB.1
  have hi : i ≤ 200 := by omega
  obtain ⟨g0, g1, g2, g3, g4, g5⟩ := hB.2.2.2.1 i hi
  rw [gi (show i < 201 by omega) (by decide), iN_c (show i < 2 ^ 31 by omega), gb_4 hi, xb_4 hi, gb_0 hi, xb_0 hi, g0, g4]
  by_cases c2 : b.2.2.2.2.1 i = 0
  · by_cases c3 : b.1 i = p2
    · exact ⟨1, by rw [if_pos c2, if_pos c3], by rw [if_pos c2, if_pos c3], Or.inr ⟨rfl, i, i1, i2, rfl, c2, c3⟩⟩
    · exact ⟨0, by rw [if_pos c2, if_neg c3], by rw [if_pos c2, if_neg c3], Or.inl rfl⟩
  · exact ⟨0, by rw [if_neg c2], by rw [if_neg c2], Or.inl rfl⟩
theorem kGr {t : S_Th} {i : Nat} (hi : i < 30) : kf_Th_graceOf t (nI i) = some (t.2.2.2.2.1 i) := by
  unfold kf_Th_graceOf; rw [gi hi (by decide), iN_c (by omega)]
theorem kPlo {t : S_Th} {i : Nat} (hi : i < 30) : kf_Th_placeOf t (nI i) = some (t.1 i) := by
  unfold kf_Th_placeOf; rw [gi hi (by decide), iN_c (by omega)]
theorem sim_checkIn' {σ : S_Br} {ρ : S_Mo} (h : Rel σ ρ) (p1 p2 : Int32) : ∃ (r : Int32) (σ' : S_Br) (ρ' : S_Mo), kf_Br_checkIn σ p1 p2 = some (r, σ') ∧ kg_Mo_checkIn ρ p1 p2 = some (r, ρ') ∧ Rel σ' ρ' := by
  obtain ⟨tn, hn, bn, cl, rl, hT, hC, hB, hW, hP, hN⟩ := id h
  unfold kf_Br_checkIn kg_Mo_checkIn
  obtain ⟨r, k1, m1, z⟩ := kOf hB p1 p2
  rw [k1, m1, Option.bind_some, Option.bind_some]
  rcases z with rfl | ⟨rfl, i, i1, i2, rfl, zS, zP⟩
  · exact ⟨0, σ, ρ, by rw [if_pos rfl], by rw [if_pos rfl], h⟩
  have hb := hB.1
  have hi : i ≤ 200 := by omega
  obtain ⟨g0, g1, g2, g3, g4, g5⟩ := hB.2.2.2.1 i hi
  obtain ⟨-, ⟨t, ht, et⟩, -⟩ := hB.2.2.2.2 i i1 i2
  have ht30 : t < 30 := Nat.lt_of_lt_of_le ht hT.1
  obtain ⟨⟨t0, t1, t2, t3, t4⟩, -, -, -⟩ := hT.2.2.2 t ht
  obtain ⟨b', B', F', k', q1, q2, q3, q4, q5⟩ := simEnds (s := 1) hB i1 i2 (by omega) (by omega)
  unfold kf_Br_lastCheckIn
  rw [if_neg (show ¬ (1 : Int32) = 0 by decide), if_neg (show ¬ (1 : Int32) = 0 by decide), kBF hi, Option.bind_some, kBT hi, gb_2 hi, gb_1 hi, xb_1 hi, xb_2 hi, g1, g2, et, Option.bind_some, Option.bind_some, kGr ht30, Option.bind_some, Option.bind_some, gt_4 ht30, xt_4 ht30, t4, hN.1]
  by_cases c1 : σ.2.2.2.2.2 < σ.2.2.1.2.2.1 i - 15
  · exact ⟨-1, σ, ρ, by rw [if_pos c1], by rw [if_pos c1], h⟩
  rw [if_neg c1, if_neg c1]
  by_cases c2 : σ.2.2.2.2.2 ≤ σ.2.2.1.2.2.1 i + σ.2.1.2.2.2.2.1 t
  · rw [if_pos c2, if_pos c2, show (1 : Int32) = nI 1 from rfl, q1, q2, Option.bind_some, Option.bind_some, if_pos (nI_pos' (by omega))]
    exact ⟨_, _, _, rfl, rfl, ⟨tn, hn, bn, cl, rl, hT, hC, q3, hW, hP, hN⟩⟩
  · exact ⟨-1, σ, ρ, by rw [if_neg c2], by rw [if_neg c2], h⟩
theorem ng1 {r : Int32} (h : r = 0 ∨ r = -1 ∨ r = -2 ∨ r = -3 ∨ r = -4 ∨ r = -5 ∨ r = -6) : (r = 0 ∧ 0 ≤ r) ∨ (¬ r = 0 ∧ ¬ 0 ≤ r) := by
  rcases h with rfl | rfl | rfl | rfl | rfl | rfl | rfl
  · exact Or.inl ⟨rfl, by decide⟩
  all_goals exact Or.inr ⟨by decide, by decide⟩
theorem sim_edit' {σ : S_Br} {ρ : S_Mo} (h : Rel σ ρ) (p1 p2 p3 p4 : Int32) : ∃ (r : Int32) (σ' : S_Br) (ρ' : S_Mo), kf_Br_edit σ p1 p2 p3 p4 = some (r, σ') ∧ kg_Mo_edit ρ p1 p2 p3 p4 = some (r, ρ') ∧ Rel σ' ρ' := by
  obtain ⟨tn, hn, bn, cl, rl, hT, hC, hB, hW, hP, hN⟩ := id h
  unfold kf_Br_edit kg_Mo_edit
  obtain ⟨r, k1, m1, z⟩ := kOf hB p1 p2
  rw [k1, m1, Option.bind_some, Option.bind_some]
  rcases z with rfl | ⟨rfl, i, i1, i2, rfl, zS, zP⟩
  · exact ⟨0, σ, ρ, by rw [if_pos rfl], by rw [if_pos rfl], h⟩
  have hb := hB.1
  have hi : i ≤ 200 := by omega
  obtain ⟨g0, g1, g2, g3, g4, g5⟩ := hB.2.2.2.1 i hi
  obtain ⟨⟨p, hp, ep⟩, ⟨t, ht, et⟩, -⟩ := hB.2.2.2.2 i i1 i2
  obtain ⟨r2, k2, m2⟩ := simMain hB (nI i)
  obtain ⟨r3, k3, m3, e3, -⟩ := simAgainst hT hC hB hP hN hp ht p3 p4 (nI i)
  unfold kf_Bk_isEquipment kf_Bk_setTimes
  rw [if_neg (show ¬ (1 : Int32) = 0 by decide), if_neg (show ¬ (1 : Int32) = 0 by decide), gi (show i < 201 by omega) (by decide), gi (show i < 201 by omega) (by decide), iN_c (show i < 2 ^ 31 by omega), kBT hi, gb_5 hi, xb_5 hi, gb_1 hi, xb_1 hi, gb_2 hi, gb_3 hi, xb_2 hi, xb_3 hi, g5, g1, et, ← zP, ep, k2, m2]
  simp only [Option.bind_some]
  rw [k3, m3]
  simp only [Option.bind_some]
  by_cases c1 : σ.2.2.1.2.2.2.2.2.1 i = 0
  case neg => exact ⟨0, σ, ρ, by rw [if_neg c1, Option.bind_some, if_neg (show ¬ (1 : Int32) = 0 by decide)], by rw [if_neg c1], h⟩
  rw [if_pos c1, if_pos c1, Option.bind_some, if_pos rfl]
  by_cases c2 : r2 = 0
  case neg => exact ⟨0, σ, ρ, by rw [if_neg c2], by rw [if_neg c2], h⟩
  rw [if_pos c2, if_pos c2]
  rcases ng1 e3 with ⟨c3, c4⟩ | ⟨c3, c4⟩
  · rw [if_pos c3, if_pos c4]
    refine ⟨_, _, _, rfl, rfl, ⟨tn, hn, bn, cl, rl, hT, hC, ⟨hB.1, hB.2.1, hB.2.2.1, fun j hj => ?_, hB.2.2.2.2⟩, hW, hP, hN⟩⟩
    obtain ⟨f0, f1, f2, f3, f4, f5⟩ := hB.2.2.2.1 j hj
    by_cases c : j = i
    · subst c
      exact ⟨(pk_un (by omega)).trans ((pk_un (by omega)).trans f0), (pk_un (by omega)).trans ((pk_un (by omega)).trans f1), (pk_un (by omega)).trans (pk_us.trans pk_us.symm), pk_us.trans pk_us.symm, (pk_un (by omega)).trans ((pk_un (by omega)).trans f4), (pk_un (by omega)).trans ((pk_un (by omega)).trans f5)⟩
    · exact ⟨(pk_un (by omega)).trans ((pk_un (by omega)).trans f0), (pk_un (by omega)).trans ((pk_un (by omega)).trans f1), (pk_un (by omega)).trans ((pk_un (by omega)).trans (f2.trans (pk_un c).symm)), (pk_un (by omega)).trans ((pk_un (by omega)).trans (f3.trans (pk_un c).symm)), (pk_un (by omega)).trans ((pk_un (by omega)).trans f4), (pk_un (by omega)).trans ((pk_un (by omega)).trans f5)⟩
  · exact ⟨r3, σ, ρ, by rw [if_neg c3], by rw [if_neg c4], h⟩
theorem sim_equip' {σ : S_Br} {ρ : S_Mo} (h : Rel σ ρ) (p1 p2 : Int32) : ∃ (r : Int32) (σ' : S_Br) (ρ' : S_Mo), kf_Br_equip σ p1 p2 = some (r, σ') ∧ kg_Mo_equip ρ p1 p2 = some (r, ρ') ∧ Rel σ' ρ' := by
  obtain ⟨tn, hn, bn, cl, rl, hT, hC, hB, hW, hP, hN⟩ := id h
  unfold kf_Br_equip kg_Mo_equip
  rw [(kHasB hB p1).1, (kHasB hB p1).2, Option.bind_some, Option.bind_some, ite01, ite01]
  by_cases c1 : p1 < 1 ∨ nI bn < p1
  · exact ⟨0, σ, ρ, by rw [if_pos c1], by rw [if_pos c1], h⟩
  rw [if_neg c1, if_neg c1]
  obtain ⟨i, i1, i2, rfl⟩ := isB hB.1 c1
  have hb := hB.1
  have hi : i ≤ 200 := by omega
  obtain ⟨g0, g1, g2, g3, g4, g5⟩ := hB.2.2.2.1 i hi
  obtain ⟨⟨p, hp, ep⟩, ⟨t, ht, et⟩, -⟩ := hB.2.2.2.2 i i1 i2
  have ht30 : t < 30 := Nat.lt_of_lt_of_le ht hT.1
  obtain ⟨⟨t0, -⟩, -⟩ := hT.2.2.2 t ht
  unfold kf_Bk_isBooked kf_Bk_isEquipment kf_Bk_isFull
  rw [gi (show i < 201 by omega) (by decide), gi (show i < 201 by omega) (by decide), iN_c (show i < 2 ^ 31 by omega), gb_0 hi, gb_1 hi, gb_2 hi, gb_3 hi, gb_4 hi, gb_5 hi, xb_0 hi, xb_1 hi, xb_2 hi, xb_3 hi, xb_4 hi, xb_5 hi, g0, g1, g2, g3, g4, g5, (kHasT hT p2).1, (kHasT hT p2).2, kBT hi, kBF hi, kBO hi, kBP hi, et, ep, hB.2.1, hB.2.2.1]
  by_cases c2 : σ.2.2.1.2.2.2.2.1 i = 0
  case neg => exact ⟨0, σ, ρ, by rw [if_neg c2, Option.bind_some, if_pos rfl], by rw [if_neg c2], h⟩
  rw [if_pos c2, if_pos c2, Option.bind_some, if_neg (show ¬ (1 : Int32) = 0 by decide)]
  by_cases c3 : σ.2.2.1.2.2.2.2.2.1 i = 0
  case neg => exact ⟨0, σ, ρ, by rw [if_neg c3, Option.bind_some, if_neg (show ¬ (1 : Int32) = 0 by decide)], by rw [if_neg c3], h⟩
  rw [if_pos c3, if_pos c3, Option.bind_some, if_pos rfl]
  simp only [Option.bind_some, ite01]
  by_cases c4 : bn = 200
  · subst c4
    refine ⟨0, σ, ρ, rfl, ?_, h⟩
    rw [if_pos (show nI 200 = 200 from rfl), ite_self]
  have hlt : bn < 200 := by omega
  rw [if_pos (show nI bn < 200 from nI_lt (b := 200) hlt (by decide)), if_neg (ne200 hlt), Option.bind_some, if_pos rfl]
  by_cases c5 : p2 < 0 ∨ nI tn ≤ p2
  · exact ⟨0, σ, ρ, by rw [if_pos c5], by rw [if_pos c5], h⟩
  rw [if_neg c5, if_neg c5]
  obtain ⟨u, hu, rfl⟩ := isT hT.1 c5
  have hu30 : u < 30 := Nat.lt_of_lt_of_le hu hT.1
  obtain ⟨⟨u0, -⟩, -⟩ := hT.2.2.2 u hu
  by_cases c6 : nI u = nI t
  · exact ⟨0, σ, ρ, by rw [if_pos c6], by rw [if_pos c6], h⟩
  rw [if_neg c6, if_neg c6, kPlo hu30, kPlo ht30, gt_0 hu30, gt_0 ht30, xt_0 hu30, xt_0 ht30, t0, u0]
  simp only [Option.bind_some]
  by_cases c7 : σ.2.1.1 u = σ.2.1.1 t
  case neg => exact ⟨0, σ, ρ, by rw [if_neg c7], by rw [if_neg c7], h⟩
  obtain ⟨r2, k2, m2⟩ := simClash hB (nI u) (σ.2.2.1.2.2.1 i) (σ.2.2.1.2.2.2.1 i) 0
  rw [if_pos c7, if_pos c7, k2, m2]
  simp only [Option.bind_some]
  by_cases c8 : r2 = 0
  case neg => exact ⟨-6, σ, ρ, by rw [if_neg c8], by rw [if_neg c8], h⟩
  obtain ⟨b', B', q1, q2, q3, -⟩ := simAdd hB hlt hp hu (σ.2.2.1.2.2.1 i) (σ.2.2.1.2.2.2.1 i) (nI i)
  rw [if_pos c8, if_pos c8, q1, q2, Option.bind_some, Option.bind_some]
  exact ⟨_, _, _, rfl, rfl, ⟨tn, hn, bn + 1, cl, rl, hT, hC, q3, hW, hP, hN⟩⟩
