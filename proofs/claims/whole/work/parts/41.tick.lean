theorem kTt {b : S_Bk} {i : Nat} (hi : i < 200) : kf_Bk_turnedThing b (nI i) = some (b.2.2.2.2.2.2.2.1 i) := by
  unfold kf_Bk_turnedThing; rw [gi hi (by decide), iN_c (by omega)]
theorem simRelL {tn hn k : Nat} (hk : k + 1 ≤ 200) (p1 p2 p3 : Int32) : ∀ (m q n n' c : Nat) (σ : S_Br) (ρ : S_Mo) (bn : Nat) (cl rl : List WI), R6 σ ρ tn hn bn cl rl → q + m = k → m < n → m < n' → σ.2.2.1.2.2.2.2.2.2.2.2 = nI (k + 1) → (∀ x, x < k → σ.2.2.1.2.2.2.2.2.2.2.1 (x + 1) = ρ.2.2.2.2.2.2.2.2.2.2.2.2.2.1 x ∧ ∃ t, t < tn ∧ ρ.2.2.2.2.2.2.2.2.2.2.2.2.2.1 x = nI t) →
    ∃ (c' : Nat) (σ' : S_Br) (ρ' : S_Mo) (bn' : Nat) (cl' rl' : List WI), kf_Br_release_14 p1 p2 n (nI c) (nI (q + 1)) σ = some (nI c', σ') ∧ kf_Mo_grantAll_19 p3 (nI k) n' (nI c) (nI q) ρ = some (nI c', ρ') ∧ R6 σ' ρ' tn hn bn' cl' rl' ∧ FR σ σ' ρ ρ' bn bn' ∧ c' ≤ c + 60 * m := by
  intro m
  induction m with
  | zero =>
    intro q n n' c σ ρ bn cl rl h6 hq hn1 hn2 hV hU
    obtain ⟨n, rfl⟩ : ∃ k, n = k + 1 := ⟨n - 1, by omega⟩
    obtain ⟨n', rfl⟩ : ∃ k, n' = k + 1 := ⟨n' - 1, by omega⟩
    refine ⟨c, σ, ρ, bn, cl, rl, ?_, ?_, h6, FR.rf _ _ _, by omega⟩
    · rw [kf_Br_release_14_s]
      unfold kf_Bk_turnedSize
      rw [hV, Option.bind_some, if_pos (nI_le (by omega) (by omega))]
    · rw [kf_Mo_grantAll_19_s, if_pos (nI_le (by omega) (by omega))]
  | succ m ih =>
    intro q n n' c σ ρ bn cl rl h6 hq hn1 hn2 hV hU
    obtain ⟨n, rfl⟩ : ∃ k, n = k + 1 := ⟨n - 1, by omega⟩
    obtain ⟨n', rfl⟩ : ∃ k, n' = k + 1 := ⟨n' - 1, by omega⟩
    obtain ⟨u1, t, ht, u2⟩ := hU q (by omega)
    obtain ⟨c1, σ1, ρ1, bn1, cl1, rl1, g1, g2, g3, g4, g5⟩ := simGrants ht h6
    obtain ⟨f1, f2, f3, f4, f5, f6, f7, f8⟩ := id g4
    obtain ⟨c', σ', ρ', bn', cl', rl', r1, r2, r3, r4, r5⟩ := ih (q + 1) n n' (c + c1) σ1 ρ1 bn1 cl1 rl1 g3 (by omega) (by omega) (by omega) (f4.trans hV) (fun x hx => by rw [f3, f5]; exact hU x hx)
    refine ⟨c', σ', ρ', bn', cl', rl', ?_, ?_, r3, g4.tr r4, by omega⟩
    · rw [kf_Br_release_14_s]
      unfold kf_Bk_turnedSize
      rw [hV, Option.bind_some, if_neg (nI_ge (by omega) (by omega)), kTt (by omega), Option.bind_some, u1, u2, g1, Option.bind_some, nI_1]
      show kf_Br_release_14 p1 p2 n (nI c + nI c1) (nI (q + 1 + 1)) σ1 = _
      rw [nI_add]; exact r1
    · rw [kf_Mo_grantAll_19_s, if_neg (nI_ge (by omega) (by omega)), gi (show q < 200 by omega) (by decide), iN_c (by omega), u2, g2, Option.bind_some, nI_1]
      show kf_Mo_grantAll_19 p3 (nI k) n' (nI c + nI c1) (nI (q + 1)) ρ1 = _
      rw [nI_add]; exact r2
theorem simGA {tn hn k j bn : Nat} {σ : S_Br} {ρ : S_Mo} {cl rl : List WI} (h6 : R6 σ ρ tn hn bn cl rl) (hj1 : 1 ≤ j) (hj2 : j ≤ bn) (hk : k + 1 ≤ 200) (hV : σ.2.2.1.2.2.2.2.2.2.2.2 = nI (k + 1)) (hU0 : σ.2.2.1.2.2.2.2.2.2.2.1 0 = σ.2.2.1.2.1 j) (hU : ∀ x, x < k → σ.2.2.1.2.2.2.2.2.2.2.1 (x + 1) = ρ.2.2.2.2.2.2.2.2.2.2.2.2.2.1 x ∧ ∃ t, t < tn ∧ ρ.2.2.2.2.2.2.2.2.2.2.2.2.2.1 x = nI t) (p1 p2 : Int32) :
    ∃ (c' : Nat) (σ' : S_Br) (ρ' : S_Mo) (bn' : Nat) (cl' rl' : List WI), kf_Br_release_14 p1 p2 FU 0 0 σ = some (nI c', σ') ∧ kf_Mo_grantAll ρ (nI j) (nI k) = some (nI c', ρ') ∧ R6 σ' ρ' tn hn bn' cl' rl' ∧ FR σ σ' ρ ρ' bn bn' ∧ c' ≤ 20000 := by
  obtain ⟨hT, hC, hB, hW, hP, hN⟩ := id h6
  have hb := hB.1
  have hj : j ≤ 200 := by omega
  obtain ⟨g0, g1, -⟩ := hB.2.2.2.1 j hj
  obtain ⟨-, ⟨t, ht, et⟩, -⟩ := hB.2.2.2.2 j hj1 hj2
  obtain ⟨c1, σ1, ρ1, bn1, cl1, rl1, a1, a2, a3, a4, a5⟩ := simGrants ht h6
  obtain ⟨f1, f2, f3, f4, f5, f6, f7, f8⟩ := id a4
  obtain ⟨n, en, hn'⟩ := FU_pos
  have hF := FU_big
  obtain ⟨c', σ', ρ', bn', cl', rl', r1, r2, r3, r4, r5⟩ := simRelL (hn := hn) hk p1 p2 (nI j) k 0 n FU c1 σ1 ρ1 bn1 cl1 rl1 a3 (by omega) (by omega) (by omega) (f4.trans hV) (fun x hx => by rw [f3, f5]; exact hU x hx)
  refine ⟨c', σ', ρ', bn', cl', rl', ?_, ?_, r3, a4.tr r4, by omega⟩
  · rw [en, kf_Br_release_14_s]
    unfold kf_Bk_turnedSize
    rw [hV, Option.bind_some, if_neg (nI_nle (by omega) (by omega)), show (0 : Int32) = nI 0 from rfl, kTt (by omega), Option.bind_some, hU0, et, a1, Option.bind_some, nI_1]
    show kf_Br_release_14 p1 p2 n (nI 0 + nI c1) (nI (0 + 1)) σ1 = _
    rw [nI_add, Nat.zero_add]; exact r1
  · unfold kf_Mo_grantAll
    rw [gb_1 hj, xb_1 hj, g1, et, a2, Option.bind_some]
    exact r2
theorem sim_cancel' {σ : S_Br} {ρ : S_Mo} (h : Rel σ ρ) (p1 p2 : Int32) : ∃ (r : Int32) (σ' : S_Br) (ρ' : S_Mo), kf_Br_cancel σ p1 p2 = some (r, σ') ∧ kg_Mo_cancel ρ p1 p2 = some (r, ρ') ∧ Rel σ' ρ' := by
  obtain ⟨tn, hn, bn, cl, rl, hT, hC, hB, hW, hP, hN⟩ := id h
  unfold kf_Br_cancel kg_Mo_cancel kf_Br_release
  obtain ⟨r, k1, m1, z⟩ := kOf hB p1 p2
  rw [k1, m1, Option.bind_some, Option.bind_some]
  rcases z with rfl | ⟨rfl, i, i1, i2, rfl, zS, zP⟩
  · exact ⟨0, σ, ρ, by rw [if_pos rfl], by rw [if_pos rfl], h⟩
  have hb := hB.1
  have hi : i ≤ 200 := by omega
  obtain ⟨g0, g1, g2, g3, g4, g5⟩ := hB.2.2.2.1 i hi
  obtain ⟨b', B', F', k, q1, q2, q3, q4, q5, q6, q7, q8, q9, q10⟩ := simEnds (s := 3) hB i1 i2 (by omega) (by omega)
  have q1 : kf_Bk_turn σ.2.2.1 (nI i) 3 = some b' := q1
  have q2 : kf_Mo_ends ρ (nI i) 3 = _ := q2
  rw [if_neg (show ¬ (1 : Int32) = 0 by decide), if_neg (show ¬ (1 : Int32) = 0 by decide), kBF hi, Option.bind_some, gb_2 hi, xb_2 hi, g2, hN.1, q1, q2, Option.bind_some, Option.bind_some]
  by_cases c1 : σ.2.2.2.2.2 < σ.2.2.1.2.2.1 i
  case neg => exact ⟨-1, σ, ρ, by rw [if_neg c1], by rw [if_neg c1], h⟩
  rw [if_pos c1, if_pos c1]
  obtain ⟨c', σ', ρ', bn', cl', rl', r1, r2, r3, r4, r5⟩ := simGA (σ := (σ.1, σ.2.1, b', σ.2.2.2.1, σ.2.2.2.2.1, σ.2.2.2.2.2)) (ρ := mE ρ B' F') (hn := hn) (cl := cl) (rl := rl) ⟨hT, hC, q3, hW, hP, hN⟩ i1 i2 q4 q5 q6 q7 (nI i) 3
  rw [r1]
  refine ⟨1 + nI c', σ', ρ', rfl, ?_, ⟨tn, hn, bn', cl', rl', r3⟩⟩
  show (kf_Mo_grantAll (mE ρ B' F') (nI i) (nI k)).bind _ = _
  rw [r2]; rfl
-- tick: those IN that are DONE
theorem RBk_keep {b : S_Bk} {ρ : S_Mo} {tn bn : Nat} (hB : RBk b ρ tn bn) {i : Nat} : RBk b (mB ρ (upd ρ.2.2.2.2.2.2.2.1 (6 * i + 4) (b.2.2.2.2.1 i)) ρ.2.2.2.2.2.2.2.2.1) tn bn := by
  obtain ⟨h1, hN, hL, hR, hV⟩ := hB
  refine ⟨h1, hN, hL, fun j hj => ?_, hV⟩
  obtain ⟨g0, g1, g2, g3, g4, g5⟩ := hR j hj
  refine ⟨(pk_un (by omega)).trans g0, (pk_un (by omega)).trans g1, (pk_un (by omega)).trans g2, (pk_un (by omega)).trans g3, ?_, (pk_un (by omega)).trans g5⟩
  by_cases c : j = i
  · subst c; exact pk_us
  · exact (pk_un (by omega)).trans g4
theorem simFin {tn bn : Nat} (t : Int32) : ∀ (m i n n' : Nat) (b : S_Bk) (ρ : S_Mo), RBk b ρ tn bn → i + m = bn + 1 → m < n → m < n' → ∃ (b' : S_Bk) (B' : A32), kf_Bk_finish_2 t n (nI i) b = some b' ∧ kf_Mo_tick_28 t n' (nI i) ρ = kf_Mo_tick_102 t FU 0 1 (mB ρ B' ρ.2.2.2.2.2.2.2.2.1) ∧ RBk b' (mB ρ B' ρ.2.2.2.2.2.2.2.2.1) tn bn := by
  intro m
  induction m with
  | zero =>
    intro i n n' b ρ hB hi hn hn'
    obtain ⟨n, rfl⟩ : ∃ k, n = k + 1 := ⟨n - 1, by omega⟩
    obtain ⟨n', rfl⟩ : ∃ k, n' = k + 1 := ⟨n' - 1, by omega⟩
    have hb := hB.1
    refine ⟨b, ρ.2.2.2.2.2.2.2.1, ?_, ?_, hB⟩
    · rw [kf_Bk_finish_2_s, hB.2.1, if_pos (nI_lt (by omega) (by omega))]
    · rw [kf_Mo_tick_28_s, show (if ρ.2.2.2.2.2.2.2.2.1 < nI i then _ else _) = _ from if_pos (by rw [hB.2.2.1]; exact nI_lt (by omega) (by omega))]
  | succ m ih =>
    intro i n n' b ρ hB hi hn hn'
    obtain ⟨n, rfl⟩ : ∃ k, n = k + 1 := ⟨n - 1, by omega⟩
    obtain ⟨n', rfl⟩ : ∃ k, n' = k + 1 := ⟨n' - 1, by omega⟩
    have hb := hB.1
    have hi2 : i ≤ 200 := by omega
    have hi3 : i ≤ bn := by omega
    obtain ⟨g0, g1, g2, g3, g4, g5⟩ := hB.2.2.2.1 i hi2
    rw [kf_Bk_finish_2_s, show (if b.2.2.2.2.2.2.1 < nI i then some b else _) = _ from if_neg (by rw [hB.2.1]; exact nI_nlt hi3 (by omega)), gi (show i < 201 by omega) (by decide), iN_c (by omega)]
    rw [kf_Mo_tick_28_s, show (if ρ.2.2.2.2.2.2.2.2.1 < nI i then kf_Mo_tick_102 t FU 0 1 ρ else _) = _ from if_neg (by rw [hB.2.2.1]; exact nI_nlt hi3 (by omega))]
    unfold kf_Mo_tick_80 kf_Mo_tick_91
    simp only [gb_4 hi2, gb_3 hi2]
    rw [xb_4 hi2, xb_3 hi2, g4, g3, nI_1]
    by_cases c1 : b.2.2.2.2.1 i = 1
    · by_cases c2 : t < b.2.2.2.1 i
      · rw [if_pos c1, if_pos c1, if_pos c2, if_pos c2]
        exact ih (i + 1) n n' b (mB ρ (upd ρ.2.2.2.2.2.2.2.1 (6 * i + 4) (b.2.2.2.2.1 i)) ρ.2.2.2.2.2.2.2.2.1) (RBk_keep hB) (by omega) (by omega) (by omega)
      · rw [if_pos c1, if_pos c1, if_neg c2, if_neg c2]
        exact ih (i + 1) n n' _ (mE ρ (upd ρ.2.2.2.2.2.2.2.1 (6 * i + 4) 2) ρ.2.2.2.2.2.2.2.2.2.2.2.2.2.1) (RBk_S hB (s := 2) hi2 (by omega) b.2.2.2.2.2.2.2.1 b.2.2.2.2.2.2.2.2 ρ.2.2.2.2.2.2.2.2.2.2.2.2.2.1) (by omega) (by omega) (by omega)
    · rw [if_neg c1, if_neg c1]
      exact ih (i + 1) n n' b (mB ρ (upd ρ.2.2.2.2.2.2.2.1 (6 * i + 4) (b.2.2.2.2.1 i)) ρ.2.2.2.2.2.2.2.2.1) (RBk_keep hB) (by omega) (by omega) (by omega)
-- tick: those that come later aren't missed
theorem refSkip {t : Nat} (ht : t ≤ 1000000) {σ : S_Br} {ρ : S_Mo} {tn hn bn : Nat} {cl rl : List WI} (h6 : R6 σ ρ tn hn bn cl rl) (c : Int32) : ∀ (m i n : Nat), 1 ≤ i → i + m = bn + 1 → m < n → (∀ j, i ≤ j → j ≤ bn → ∃ f', σ.2.2.1.2.2.1 j = nI f' ∧ f' ≤ 1000000 ∧ t ≤ f') → kf_Mo_tick_102 (nI t) n c (nI i) ρ = some (c, ρ) := by
  obtain ⟨hT, hC, hB, hW, hP, hN⟩ := h6
  have hb := hB.1
  intro m
  induction m with
  | zero =>
    intro i n h1 hi hn hf
    obtain ⟨n, rfl⟩ : ∃ k, n = k + 1 := ⟨n - 1, by omega⟩
    rw [kf_Mo_tick_102_s, hB.2.2.1, if_pos (nI_lt (by omega) (by omega))]
  | succ m ih =>
    intro i n h1 hi hn hf
    obtain ⟨n, rfl⟩ : ∃ k, n = k + 1 := ⟨n - 1, by omega⟩
    have hi2 : i ≤ 200 := by omega
    have hi3 : i ≤ bn := by omega
    obtain ⟨g0, g1, g2, g3, g4, g5⟩ := hB.2.2.2.1 i hi2
    obtain ⟨-, ⟨u, hu, eu⟩, -⟩ := hB.2.2.2.2 i h1 hi3
    have hu30 : u < 30 := Nat.lt_of_lt_of_le hu hT.1
    obtain ⟨⟨-, -, -, -, t4⟩, -, -, ⟨gr, hgr, egr⟩⟩ := hT.2.2.2 u hu
    obtain ⟨f', ef, hf1, hf2⟩ := hf i (Nat.le_refl _) hi3
    have e := ih (i + 1) n (by omega) (by omega) (by omega) (fun j hj1 hj2 => hf j (by omega) hj2)
    rw [kf_Mo_tick_102_s, hB.2.2.1, if_neg (nI_nlt hi3 (by omega)), gb_4 hi2, gb_5 hi2, gb_2 hi2, gb_1 hi2, xb_4 hi2, xb_5 hi2, xb_2 hi2, xb_1 hi2, g4, g5, g2, g1, eu, gt_4 hu30, xt_4 hu30, t4, egr, ef, nI_add, if_pos (show nI t ≤ nI (f' + gr) from nI_le (by omega) (by omega)), nI_1, e]
    by_cases c1 : σ.2.2.1.2.2.2.2.1 i = 0
    · by_cases c2 : σ.2.2.1.2.2.2.2.2.1 i = 0
      · rw [if_pos c1, if_pos c2]
      · rw [if_pos c1, if_neg c2]
    · rw [if_neg c1]
