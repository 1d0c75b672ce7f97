-- living
theorem simLiv {b : S_Bk} {ρ : S_Mo} {tn bn : Nat} (hB : RBk b ρ tn bn) (p : Int32) : ∀ (m i n n' : Nat) (c : Int32), 1 ≤ i → i + m = bn + 1 → m < n → m < n' → ∃ r : Int32, kf_Bk_livingOf_4 b p n c (nI i) = some r ∧ kf_Mo_living_4 ρ p n' c (nI i) = some r := by
  have hL := hB.2.2.1; have hb := hB.1; have hN := hB.2.1
  intro m
  induction m with
  | zero =>
    intro i n n' c h1 hi hn hn'
    obtain ⟨n, rfl⟩ : ∃ k, n = k + 1 := ⟨n - 1, by omega⟩
    obtain ⟨n', rfl⟩ : ∃ k, n' = k + 1 := ⟨n' - 1, by omega⟩
    refine ⟨c, ?_, ?_⟩
    · rw [kf_Bk_livingOf_4_s, hN, if_pos (nI_lt (by omega) (by omega))]
    · rw [kf_Mo_living_4_s, hL, if_pos (nI_lt (by omega) (by omega))]
  | succ m ih =>
    intro i n n' c h1 hi hn hn'
    obtain ⟨n, rfl⟩ : ∃ k, n = k + 1 := ⟨n - 1, by omega⟩
    obtain ⟨n', rfl⟩ : ∃ k, n' = k + 1 := ⟨n' - 1, by omega⟩
    obtain ⟨r, e1, e2⟩ := ih (i + 1) n n' c (by omega) (by omega) (by omega) (by omega)
    obtain ⟨r', e1', e2'⟩ := ih (i + 1) n n' (c + 1) (by omega) (by omega) (by omega) (by omega)
    have hi2 : i ≤ 200 := by omega
    obtain ⟨g0, g1, g2, g3, g4, g5⟩ := hB.2.2.2.1 i hi2
    rw [kf_Bk_livingOf_4_s, kf_Mo_living_4_s, hL, hN, if_neg (nI_nlt (show i ≤ bn by omega) (by omega)), if_neg (nI_nlt (show i ≤ bn by omega) (by omega)), gi (show i < 201 by omega) (by decide), iN_c (by omega), kLv hi2, mLv hB h1 (by omega), gb_0 hi2, xb_0 hi2, g0, nI_1, show c + 0 = c from Int32.add_zero c, e1, e2, e1', e2']
    simp only [Option.bind_some, ite10]
    by_cases c2 : b.2.2.2.2.1 i = 0 ∨ b.2.2.2.2.1 i = 1
    · by_cases c3 : b.1 i = p
      · exact ⟨r', by simp [c2, c3], by simp [c2, c3]⟩
      · exact ⟨r, by simp [c3], by simp [c2, c3]⟩
    · exact ⟨r, by simp [c2], by simp [c2]⟩
theorem simLiving {b : S_Bk} {ρ : S_Mo} {tn bn : Nat} (hB : RBk b ρ tn bn) (p : Int32) : ∃ r : Int32, kf_Bk_livingOf b p = some r ∧ kf_Mo_living ρ p = some r := by
  have hb := hB.1; have hF := FU_big
  exact simLiv hB p bn 1 FU FU 0 (by omega) (by omega) (by omega) (by omega)
-- equipment that lives
theorem mMain1 {b : S_Bk} {ρ : S_Mo} {tn bn : Nat} (hB : RBk b ρ tn bn) (e : Int32) : ∀ (m i n : Nat), i + m = bn + 1 → m < n → kf_Mo_isMain_4 ρ e n 1 (nI i) = some 1 := by
  have hL := hB.2.2.1; have hb := hB.1
  intro m
  induction m with
  | zero =>
    intro i n hi hn
    obtain ⟨n, rfl⟩ : ∃ k, n = k + 1 := ⟨n - 1, by omega⟩
    rw [kf_Mo_isMain_4_s, hL, if_pos (nI_lt (by omega) (by omega)), if_neg (by decide)]
  | succ m ih =>
    intro i n hi hn
    obtain ⟨n, rfl⟩ : ∃ k, n = k + 1 := ⟨n - 1, by omega⟩
    rw [kf_Mo_isMain_4_s, hL, if_neg (nI_nlt (by omega) (by omega)), if_neg (by decide), nI_1]
    exact ih (i + 1) n (by omega) (by omega)
theorem simMn {b : S_Bk} {ρ : S_Mo} {tn bn : Nat} (hB : RBk b ρ tn bn) (e : Int32) : ∀ (m i n n' : Nat), 1 ≤ i → i + m = bn + 1 → m < n → m < n' → ∃ r : Int32, kf_Bk_hasLivingEquipment_2 b e n (nI i) = some r ∧ kf_Mo_isMain_4 ρ e n' 0 (nI i) = some r := by
  have hL := hB.2.2.1; have hb := hB.1; have hN := hB.2.1
  intro m
  induction m with
  | zero =>
    intro i n n' h1 hi hn hn'
    obtain ⟨n, rfl⟩ : ∃ k, n = k + 1 := ⟨n - 1, by omega⟩
    obtain ⟨n', rfl⟩ : ∃ k, n' = k + 1 := ⟨n' - 1, by omega⟩
    refine ⟨0, ?_, ?_⟩
    · rw [kf_Bk_hasLivingEquipment_2_s, hN, if_pos (nI_lt (by omega) (by omega))]
    · rw [kf_Mo_isMain_4_s, hL, if_pos (nI_lt (by omega) (by omega)), if_neg (by decide)]
  | succ m ih =>
    intro i n n' h1 hi hn hn'
    obtain ⟨n, rfl⟩ : ∃ k, n = k + 1 := ⟨n - 1, by omega⟩
    obtain ⟨n', rfl⟩ : ∃ k, n' = k + 1 := ⟨n' - 1, by omega⟩
    obtain ⟨r, e1, e2⟩ := ih (i + 1) n n' (by omega) (by omega) (by omega) (by omega)
    have hi2 : i ≤ 200 := by omega
    have e3 := mMain1 hB e m (i + 1) n' (by omega) (by omega)
    obtain ⟨g0, g1, g2, g3, g4, g5⟩ := hB.2.2.2.1 i hi2
    rw [kf_Bk_hasLivingEquipment_2_s, kf_Mo_isMain_4_s, hL, hN, if_neg (nI_nlt (show i ≤ bn by omega) (by omega)), if_neg (nI_nlt (show i ≤ bn by omega) (by omega)), if_pos rfl, gi (show i < 201 by omega) (by decide), iN_c (by omega), kLv hi2, mLv hB h1 (by omega), gb_5 hi2, xb_5 hi2, g5, nI_1, e1, e2, e3]
    simp only [Option.bind_some, ite10]
    by_cases c3 : b.2.2.2.2.2.1 i = e
    · by_cases c2 : b.2.2.2.2.1 i = 0 ∨ b.2.2.2.2.1 i = 1
      · exact ⟨1, by simp [c2, c3], by simp [c2, c3]⟩
      · exact ⟨r, by simp [c2, c3], by simp [c2, c3]⟩
    · exact ⟨r, by simp [c3], by simp [c3]⟩
theorem simMain {b : S_Bk} {ρ : S_Mo} {tn bn : Nat} (hB : RBk b ρ tn bn) (e : Int32) : ∃ r : Int32, kf_Bk_hasLivingEquipment b e = some r ∧ kf_Mo_isMain ρ e = some r := by
  have hb := hB.1; have hF := FU_big
  exact simMn hB e bn 1 FU FU (by omega) (by omega) (by omega) (by omega)
-- holidays
theorem mHol1 {c : S_Ca} {ρ : S_Mo} {hn : Nat} (hC : RCa c ρ hn) (d : Int32) : ∀ (m i n : Nat), i + m = hn → m < n → kf_Mo_isHoliday_4 ρ d n 1 (nI i) = some 1 := by
  have hL := hC.2.2.1; have hb := hC.1
  intro m
  induction m with
  | zero =>
    intro i n hi hn
    obtain ⟨n, rfl⟩ : ∃ k, n = k + 1 := ⟨n - 1, by omega⟩
    rw [kf_Mo_isHoliday_4_s, hL, if_pos (nI_le (by omega) (by omega)), if_neg (by decide)]
  | succ m ih =>
    intro i n hi hn
    obtain ⟨n, rfl⟩ : ∃ k, n = k + 1 := ⟨n - 1, by omega⟩
    rw [kf_Mo_isHoliday_4_s, hL, if_neg (nI_ge (by omega) (by omega)), if_neg (by decide), nI_1]
    exact ih (i + 1) n (by omega) (by omega)
theorem mHol0 {c : S_Ca} {ρ : S_Mo} {hn : Nat} (hC : RCa c ρ hn) (d : Int32) : ∀ (m i n : Nat), i + m = hn → m < n → ∃ r : Int32, kf_Mo_isHoliday_4 ρ d n 0 (nI i) = some r ∧ (r = 0 ∨ r = 1) ∧ (r = 1 ↔ ∃ k, i ≤ k ∧ k < hn ∧ ρ.2.2.2.1 k = d) := by
  have hL := hC.2.2.1; have hb := hC.1
  intro m
  induction m with
  | zero =>
    intro i n hi hn
    obtain ⟨n, rfl⟩ : ∃ k, n = k + 1 := ⟨n - 1, by omega⟩
    refine ⟨0, ?_, Or.inl rfl, ⟨fun h => absurd h (by decide), fun ⟨k, h1, h2, _⟩ => by omega⟩⟩
    rw [kf_Mo_isHoliday_4_s, hL, if_pos (nI_le (by omega) (by omega)), if_neg (by decide)]
  | succ m ih =>
    intro i n hi hn
    obtain ⟨n, rfl⟩ : ∃ k, n = k + 1 := ⟨n - 1, by omega⟩
    obtain ⟨r, e1, e2, e3⟩ := ih (i + 1) n (by omega) (by omega)
    have e4 := mHol1 hC d m (i + 1) n (by omega) (by omega)
    rw [kf_Mo_isHoliday_4_s, hL, if_neg (nI_ge (by omega) (by omega)), if_pos rfl, gi (show i < 40 by omega) (by decide), iN_c (by omega), nI_1, e1, e4]
    by_cases c1 : ρ.2.2.2.1 i = d
    · exact ⟨1, by rw [if_pos c1], Or.inr rfl, ⟨fun _ => ⟨i, Nat.le_refl i, by omega, c1⟩, fun _ => rfl⟩⟩
    · refine ⟨r, by rw [if_neg c1], e2, e3.trans ⟨fun ⟨k, h1, h2, h3⟩ => ⟨k, by omega, h2, h3⟩, fun ⟨k, h1, h2, h3⟩ => ⟨k, ?_, h2, h3⟩⟩⟩
      rcases Nat.eq_or_lt_of_le h1 with h | h
      · subst h; exact absurd h3 c1
      · exact h
theorem mHol {c : S_Ca} {ρ : S_Mo} {hn d : Nat} (hC : RCa c ρ hn) (hd : d < 695) : kf_Mo_isHoliday ρ (nI d) = some (c.2.2.1 d) := by
  have hb := hC.1; have hF := FU_big
  obtain ⟨r, e1, e2, e3⟩ := mHol0 hC (nI d) hn 0 FU (by omega) (by omega)
  obtain ⟨h1, h2⟩ := hC.2.2.2.2 d hd
  show kf_Mo_isHoliday_4 ρ (nI d) FU 0 (nI 0) = _
  rw [e1]
  congr 1
  rcases e2 with e2 | e2 <;> rcases h1 with h1 | h1
  · rw [e2, h1]
  · exfalso
    obtain ⟨k, hk, hk2⟩ := h2.mp h1
    rw [e3.mpr ⟨k, Nat.zero_le k, hk, hk2⟩] at e2
    exact absurd e2 (by decide)
  · exfalso
    obtain ⟨k, _, hk, hk2⟩ := e3.mp e2
    rw [h2.mpr ⟨k, hk, hk2⟩] at h1
    exact absurd h1 (by decide)
  · rw [e2, h1]
-- the days
theorem day_lt {f : Nat} (hf : f ≤ 1000000) : nI f / 1440 = nI (f / 1440) ∧ f / 1440 < 695 := ⟨pk_div (d := 1440) (by omega) (by decide) (by decide), by omega⟩
theorem rem7 {d : Nat} (hd : d < 695) : nI d - nI d / 7 * 7 = nI (d % 7) := pk_rem (d := 7) (by omega) (by decide) (by decide)
theorem row7 (p d : Nat) : (nI p * 7) + nI (d % 7) = nI (7 * p + d % 7) := by
  rw [show (7 : Int32) = nI 7 from rfl, pk_mul, nI_add, Nat.mul_comm p 7]
theorem row14 (p d : Nat) : (14 * nI p) + (2 * nI (d % 7)) = nI (2 * (7 * p + d % 7)) := by
  rw [show (14 : Int32) = nI 14 from rfl, show (2 : Int32) = nI 2 from rfl, pk_mul, pk_mul, nI_add]
  congr 1; omega
/-- what a booking may be: both alike, at a thing that is there and a person that is one -/
theorem simAgainst {σ : S_Br} {ρ : S_Mo} {tn hn bn : Nat} (hT : RTh σ.2.1 ρ tn) (hC : RCa σ.1 ρ hn) (hB : RBk σ.2.2.1 ρ tn bn) (hP : RPe σ.2.2.2.2.1 ρ) (hN : RNo σ.2.2.2.2.2 ρ) {p t : Nat} (hp : p < 40) (ht : t < tn) (f o e : Int32) :
    ∃ r : Int32, kf_Br_refusalOf σ (nI p) (nI t) f o e = some r ∧ kf_Mo_against ρ (nI p) (nI t) f o e = some r ∧ (r = 0 ∨ r = -1 ∨ r = -2 ∨ r = -3 ∨ r = -4 ∨ r = -5 ∨ r = -6) ∧ (r = 0 → ∃ f' w : Nat, f = nI f' ∧ f' ≤ 1000000 ∧ σ.2.2.2.2.2 = nI w ∧ w ≤ f') := by
  have ht30 : t < 30 := Nat.lt_of_lt_of_le ht hT.1
  obtain ⟨⟨t0, t1, t2, t3, t4⟩, ⟨pl, hpl, epl⟩, ⟨ah, hah, eah⟩, -⟩ := hT.2.2.2 t ht
  obtain ⟨enow, w, hw, ew⟩ := hN
  unfold kf_Br_refusalOf kf_Mo_against
  rw [kTi, mTi, kTi, mTi]
  simp only [Option.bind_some, ite01]
  by_cases c1 : f < 0 ∨ 1000000 < f
  · exact ⟨-1, by rw [if_pos c1], by rw [if_pos c1], by simp, fun h => absurd h (by decide)⟩
  by_cases c2 : o < 0 ∨ 1000000 < o
  · exact ⟨-1, by rw [if_neg c1, if_pos c2], by rw [if_neg c1, if_pos c2], by simp, fun h => absurd h (by decide)⟩
  by_cases c3 : f < o
  case neg => exact ⟨-1, by rw [if_neg c1, if_neg c2, if_neg c3], by rw [if_neg c1, if_neg c2, if_neg c3], by simp, fun h => absurd h (by decide)⟩
  rw [if_neg c1, if_neg c1, if_neg c2, if_neg c2, if_pos c3, if_pos c3]
  unfold kf_Th_allowsLength kf_Th_aheadOf kf_Th_placeOf
  rw [gi ht30 (by decide), gi ht30 (by decide), gi ht30 (by decide), iN_c (by omega), gt_1 ht30, gt_2 ht30, gt_3 ht30, gt_0 ht30, xt_0 ht30, xt_1 ht30, xt_2 ht30, xt_3 ht30, t0, t1, t2, t3, enow]
  by_cases c4 : (o - f) < σ.2.1.2.1 t
  · exact ⟨-2, by simp [c4], by simp [c4], by simp, fun h => absurd h (by decide)⟩
  by_cases c5 : σ.2.1.2.2.1 t < (o - f)
  · exact ⟨-2, by simp [c4, c5], by rw [if_neg c4, if_neg (Int32.not_le.mpr c5)], by simp, fun h => absurd h (by decide)⟩
  rw [if_neg c4, if_neg c4, if_neg c5, if_pos (Int32.not_lt.mp c5)]
  simp only [Option.bind_some]
  rw [if_neg (by decide)]
  by_cases c6 : f < σ.2.2.2.2.2
  · exact ⟨-3, by rw [if_pos c6], by rw [if_pos c6], by simp, fun h => absurd h (by decide)⟩
  rw [if_neg c6, if_neg c6]
  obtain ⟨f', hf', rfl⟩ := oN (n := 1000000) (fun q => c1 (Or.inl q)) (fun q => c1 (Or.inr q)) (by decide)
  have hwf : w ≤ f' := by
    rw [ew, nI_ltI (by omega) (by omega)] at c6; omega
  rw [ew, eah, pk_sub hwf, nI_add, epl]
  have hle : (nI (f' - w) ≤ nI ah) ↔ (nI f' ≤ nI (w + ah)) := by
    rw [nI_leI (by omega) (by omega), nI_leI (by omega) (by omega)]; omega
  by_cases c7 : nI (f' - w) ≤ nI ah
  case neg => exact ⟨-3, by rw [if_neg c7], by rw [if_neg (fun q => c7 (hle.mpr q))], by simp, fun h => absurd h (by decide)⟩
  rw [if_pos c7, if_pos (hle.mp c7)]
  obtain ⟨ed, hd⟩ := day_lt hf'
  have hrow : 7 * pl + f' / 1440 % 7 < 28 := by omega
  obtain ⟨h0, h1⟩ := hC.2.2.2.1 _ hrow
  obtain ⟨q1, q2⟩ := hC.2.2.2.2 (f' / 1440) hd
  unfold kf_Ca_isOpen
  rw [ed, rem7 hd, row7, row14, mHol hC hd, gi hd (by decide), gi hrow (by decide), iN_c (show f' / 1440 < 2 ^ 31 by omega), iN_c (show 7 * pl + f' / 1440 % 7 < 2 ^ 31 by omega), gi (show 2 * (7 * pl + f' / 1440 % 7) < 56 by omega) (by decide), iN_c (show 2 * (7 * pl + f' / 1440 % 7) < 2 ^ 31 by omega), nI_1, gi (show 2 * (7 * pl + f' / 1440 % 7) + 1 < 56 by omega) (by decide), iN_c (show 2 * (7 * pl + f' / 1440 % 7) + 1 < 2 ^ 31 by omega), h0, h1, Int32.mul_comm 1440 (nI (f' / 1440))]
  simp only [Option.bind_some]
  by_cases c8 : σ.1.2.2.1 (f' / 1440) = 0
  case neg => exact ⟨-4, by simp [c8], by simp [c8], by simp, fun h => absurd h (by decide)⟩
  rw [if_pos c8, if_pos c8]
  by_cases c9 : nI f' - nI (f' / 1440) * 1440 < σ.1.1 (7 * pl + f' / 1440 % 7)
  · exact ⟨-4, by simp [c9], by simp [c9], by simp, fun h => absurd h (by decide)⟩
  rw [if_neg c9, if_neg c9]
  by_cases c10 : σ.1.2.1 (7 * pl + f' / 1440 % 7) < o - nI (f' / 1440) * 1440
  · exact ⟨-4, by simp [c10], by rw [if_neg (Int32.not_le.mpr c10)], by simp, fun h => absurd h (by decide)⟩
  rw [if_neg c10, if_pos (Int32.not_lt.mp c10)]
  simp only [Option.bind_some]
  rw [if_neg (by decide)]
  obtain ⟨r1, k1, m1⟩ := simLiving hB (nI p)
  obtain ⟨r2, k2, m2⟩ := simClash hB (nI t) (nI f') o e
  obtain ⟨s0, s1⟩ := hP p hp
  have hend : ∃ r : Int32, kf_Br_refusalOf_140 σ (nI p) (nI t) (nI f') o e = some r ∧ kf_Mo_against_200 ρ (nI p) (nI t) (nI f') o e = some r ∧ (r = 0 ∨ r = -6) := by
    unfold kf_Br_refusalOf_140 kf_Mo_against_200
    rw [k2, m2]
    simp only [Option.bind_some]
    by_cases c : r2 = 0
    · exact ⟨0, by rw [if_pos c], by rw [if_pos c], Or.inl rfl⟩
    · exact ⟨-6, by rw [if_neg c], by rw [if_neg c], Or.inr rfl⟩
  obtain ⟨r3, k3, m3, e3⟩ := hend
  have e3' : r3 = 0 ∨ r3 = -1 ∨ r3 = -2 ∨ r3 = -3 ∨ r3 = -4 ∨ r3 = -5 ∨ r3 = -6 := by
    rcases e3 with h | h
    · exact Or.inl h
    · exact Or.inr (Or.inr (Or.inr (Or.inr (Or.inr (Or.inr h)))))
  unfold kf_Br_refusalOf_103 kf_Pe_isBarred
  rw [gi hp (by decide), gi hp (by decide), iN_c (show p < 2 ^ 31 by omega), s1, k1, m1, k3, m3, ew]
  by_cases c11 : e = 0
  case neg => exact ⟨r3, by simp [c11], by simp [c11], e3', fun _ => ⟨f', w, rfl, hf', ew ▸ rfl, hwf⟩⟩
  by_cases c12 : σ.2.2.2.2.1.2 p ≤ nI w
  case neg => exact ⟨-5, by simp [c11, c12], by simp [c11, c12], by simp, fun h => absurd h (by decide)⟩
  by_cases c13 : r1 < 5
  · exact ⟨r3, by simp [c11, c12, c13], by simp [c11, Int32.not_lt.mpr c12, c13], e3', fun _ => ⟨f', w, rfl, hf', ew ▸ rfl, hwf⟩⟩
  · exact ⟨-5, by simp [c11, c12, c13], by simp [c11, c12, c13], by simp, fun h => absurd h (by decide)⟩
