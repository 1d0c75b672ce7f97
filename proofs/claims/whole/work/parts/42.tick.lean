theorem kMiss {σ : S_Br} {i u : Nat} (hi : i ≤ 200) (hu : u < 30) (eu : σ.2.2.1.2.1 i = nI u) : kf_Br_isMissed σ (nI i) = some (if σ.2.2.1.2.2.2.2.1 i = 0 ∧ σ.2.2.1.2.2.2.2.2.1 i = 0 ∧ ¬ σ.2.2.2.2.2 ≤ σ.2.2.1.2.2.1 i + σ.2.1.2.2.2.2.1 u then 1 else 0) := by
  unfold kf_Br_isMissed kf_Br_lastCheckIn kf_Bk_isBooked kf_Bk_isEquipment
  rw [gi (show i < 201 by omega) (by decide), gi (show i < 201 by omega) (by decide), iN_c (show i < 2 ^ 31 by omega), kBF hi, kBT hi, eu]
  simp only [Option.bind_some, kGr hu]
  by_cases c1 : σ.2.2.1.2.2.2.2.1 i = 0
  case neg => rw [if_neg c1, Option.bind_some, if_pos rfl, if_neg (fun q => c1 q.1)]
  rw [if_pos c1, Option.bind_some, if_neg (show ¬ (1 : Int32) = 0 by decide)]
  by_cases c2 : σ.2.2.1.2.2.2.2.2.1 i = 0
  case neg => rw [if_neg c2, Option.bind_some, if_neg (show ¬ (1 : Int32) = 0 by decide), if_neg (fun q => c2 q.2.1)]
  rw [if_pos c2, Option.bind_some, if_pos rfl]
  by_cases c3 : σ.2.2.2.2.2 ≤ σ.2.2.1.2.2.1 i + σ.2.1.2.2.2.2.1 u
  · rw [if_pos c3, if_neg (fun q => q.2.2 c3)]
  · rw [if_neg c3, if_pos ⟨c1, c2, c3⟩]
abbrev mPn (ρ : S_Mo) (S U : A32) : S_Mo := (ρ.1, ρ.2.1, ρ.2.2.1, ρ.2.2.2.1, ρ.2.2.2.2.1, ρ.2.2.2.2.2.1, ρ.2.2.2.2.2.2.1, ρ.2.2.2.2.2.2.2.1, ρ.2.2.2.2.2.2.2.2.1, ρ.2.2.2.2.2.2.2.2.2.1, ρ.2.2.2.2.2.2.2.2.2.2.1, S, U, ρ.2.2.2.2.2.2.2.2.2.2.2.2.2.1, ρ.2.2.2.2.2.2.2.2.2.2.2.2.2.2)
theorem simCn {q : S_Pe} {ρ : S_Mo} {p : Nat} (hP : RPe q ρ) (hp : p < 40) (n : Int32) : ∃ (q' : S_Pe) (y : Int32), kf_Pe_countNoShow q (nI p) n = some q' ∧ RPe q' (mPn ρ (upd ρ.2.2.2.2.2.2.2.2.2.2.2.1 p (q.1 p + 1)) (upd ρ.2.2.2.2.2.2.2.2.2.2.2.2.1 p y)) ∧ ((q.1 p + 1) - (q.1 p + 1) / 3 * 3 = 0 → y = n + 10080) ∧ (¬ (q.1 p + 1) - (q.1 p + 1) / 3 * 3 = 0 → y = ρ.2.2.2.2.2.2.2.2.2.2.2.2.1 p) := by
  unfold kf_Pe_countNoShow
  rw [gi hp (by decide), iN_c (by omega), pk_us]
  by_cases c : (q.1 p + 1) - (q.1 p + 1) / 3 * 3 = 0
  · refine ⟨_, n + 10080, by rw [if_pos c], fun i hi => ?_, fun _ => rfl, fun h => absurd c h⟩
    by_cases ci : i = p
    · subst ci; exact ⟨pk_us.trans pk_us.symm, pk_us.trans pk_us.symm⟩
    · exact ⟨(pk_un ci).trans ((hP i hi).1.trans (pk_un ci).symm), (pk_un ci).trans ((hP i hi).2.trans (pk_un ci).symm)⟩
  · refine ⟨_, ρ.2.2.2.2.2.2.2.2.2.2.2.2.1 p, by rw [if_neg c], fun i hi => ?_, fun h => absurd h c, fun _ => rfl⟩
    by_cases ci : i = p
    · subst ci; exact ⟨pk_us.trans pk_us.symm, pk_us.trans (hP i hi).2⟩
    · exact ⟨(pk_un ci).trans ((hP i hi).1.trans (pk_un ci).symm), (pk_un ci).trans (hP i hi).2⟩
theorem simTk {tn hn t last : Nat} (ht : t ≤ 1000000) (p1 : Int32) : ∀ (m i n n' : Nat) (c : Int32) (σ : S_Br) (ρ : S_Mo) (bn : Nat) (cl rl : List WI), R6 σ ρ tn hn bn cl rl → σ.2.2.2.2.2 = nI t → 1 ≤ i → i + m = last + 1 → last ≤ bn → m < n → 202 ≤ n' + i → (∀ j, last < j → j ≤ bn → ∃ f', σ.2.2.1.2.2.1 j = nI f' ∧ f' ≤ 1000000 ∧ t ≤ f') →
    ∃ (r : Int32) (σ' : S_Br) (ρ' : S_Mo), kf_Br_tick_45 p1 n c (nI last) (nI i) σ = some (r, σ') ∧ kf_Mo_tick_102 (nI t) n' c (nI i) ρ = some (r, ρ') ∧ Rel σ' ρ' := by
  intro m
  induction m with
  | zero =>
    intro i n n' c σ ρ bn cl rl h6 hN hi1 hi hl hnn hnn' hf
    obtain ⟨n, rfl⟩ : ∃ k, n = k + 1 := ⟨n - 1, by omega⟩
    have hb := h6.2.2.1.1
    refine ⟨c, σ, ρ, ?_, ?_, ⟨tn, hn, bn, cl, rl, h6⟩⟩
    · rw [kf_Br_tick_45_s, if_pos (nI_lt (by omega) (by omega))]
    · exact refSkip ht h6 c (bn + 1 - i) i n' hi1 (by omega) (by omega) (fun j hj1 hj2 => hf j (by omega) hj2)
  | succ m ih =>
    intro i n n' c σ ρ bn cl rl h6 hN hi1 hi hl hnn hnn' hf
    obtain ⟨n, rfl⟩ : ∃ k, n = k + 1 := ⟨n - 1, by omega⟩
    obtain ⟨hT, hC, hB, hW, hP, hNo⟩ := id h6
    have hb := hB.1
    have hi2 : i ≤ 200 := by omega
    have hi3 : i ≤ bn := by omega
    obtain ⟨n', rfl⟩ : ∃ k, n' = k + 1 := ⟨n' - 1, by omega⟩
    obtain ⟨g0, g1, g2, g3, g4, g5⟩ := hB.2.2.2.1 i hi2
    obtain ⟨⟨p, hp, ep⟩, ⟨u, hu, eu⟩, -⟩ := hB.2.2.2.2 i hi1 hi3
    have hu30 : u < 30 := Nat.lt_of_lt_of_le hu hT.1
    obtain ⟨⟨-, -, -, -, t4⟩, -⟩ := hT.2.2.2 u hu
    rw [kf_Br_tick_45_s, if_neg (nI_nlt (show i ≤ last by omega) (by omega)), kMiss hi2 hu30 eu, kBP hi2, ep, hN, nI_1]
    simp only [Option.bind_some, ite10]
    rw [kf_Mo_tick_102_s, show (if ρ.2.2.2.2.2.2.2.2.1 < nI i then some (c, ρ) else _) = _ from if_neg (by rw [hB.2.2.1]; exact nI_nlt hi3 (by omega)), gb_4 hi2, gb_5 hi2, gb_2 hi2, gb_1 hi2, xb_4 hi2, xb_5 hi2, xb_2 hi2, xb_1 hi2, g4, g5, g2, g1, eu, gt_4 hu30, xt_4 hu30, t4, nI_1]
    have skip := ih (i + 1) n n' c σ ρ bn cl rl h6 hN (by omega) (by omega) hl (by omega) (by omega) hf
    by_cases c1 : σ.2.2.1.2.2.2.2.1 i = 0
    case neg => rw [if_neg (fun q => c1 q.1), if_neg c1]; exact skip
    by_cases c2 : σ.2.2.1.2.2.2.2.2.1 i = 0
    case neg => rw [if_neg (fun q => c2 q.2.1), if_pos c1, if_neg c2]; exact skip
    by_cases c3 : nI t ≤ σ.2.2.1.2.2.1 i + σ.2.1.2.2.2.2.1 u
    · rw [if_neg (fun q => q.2.2 c3), if_pos c1, if_pos c2, if_pos c3]; exact skip
    rw [if_pos ⟨c1, c2, c3⟩, if_pos c1, if_pos c2, if_neg c3]
    obtain ⟨b', B', F', k, q1, q2, q3, q4, q5, q6, q7, q8, q9, q10⟩ := simEnds (s := 4) hB hi1 hi3 (by omega) (by omega)
    have q1 : kf_Bk_turn σ.2.2.1 (nI i) 4 = some b' := q1
    have q2 : kf_Mo_ends ρ (nI i) 4 = some (nI k, mE ρ B' F') := q2
    have hNo' : RNo (nI t) ρ := hN ▸ hNo
    obtain ⟨pe, y, d1, d2, d3, d4⟩ := simCn hP hp (nI t)
    have eB : B' (6 * i) = nI p := ((q3.2.2.2.1 i hi2).1).trans ((congrFun q10 i).trans ep)
    obtain ⟨c', σ', ρ', bn', cl', rl', r1, r2, r3, r4, r5⟩ := simGA (σ := (σ.1, σ.2.1, b', σ.2.2.2.1, pe, nI t)) (ρ := mPn (mE ρ B' F') (upd ρ.2.2.2.2.2.2.2.2.2.2.2.1 p (σ.2.2.2.2.1.1 p + 1)) (upd ρ.2.2.2.2.2.2.2.2.2.2.2.2.1 p y)) (hn := hn) (cl := cl) (rl := rl) ⟨hT, hC, q3, hW, d2, hNo'⟩ hi1 hi3 q4 q5 q6 q7 (nI i) 4
    obtain ⟨f1, f2, f3, f4, f5, f6, f7, f8⟩ := id r4
    have nxt := ih (i + 1) n n' (c + 1) σ' ρ' bn' cl' rl' r3 f2 (by omega) (by omega) (by omega) (by omega) (by omega) (fun j hj1 hj2 => by
      rcases Nat.lt_or_ge bn j with z | z
      · obtain ⟨f', w, a1, a2, a3, a4⟩ := f8 j z hj2
        have a3 : nI t = nI w := a3
        have hw : w ≤ 1000000 := by omega
        rw [nI_eq (by omega) (by omega)] at a3
        exact ⟨f', a1, a2, by omega⟩
      · obtain ⟨f', a1, a2, a3⟩ := hf j hj1 z
        exact ⟨f', (f7 j z).1.trans ((congrFun q8 j).trans a1), a2, a3⟩)
    unfold kf_Br_release
    rw [q2, d1]
    simp only [Option.bind_some]
    rw [q1]
    simp only [Option.bind_some]
    rw [show kf_Br_release_14 (nI i) 4 FU 0 0 (σ.1, σ.2.1, b', σ.2.2.2.1, pe, nI t) = some (nI c', σ') from r1]
    simp only [Option.bind_some]
    rw [gb_0 hi2, xb_0 hi2]
    simp only [eB]
    rw [gi hp (by decide), iN_c (show p < 2 ^ 31 by omega)]
    simp only [pk_us, (hP p hp).1]
    have fin : ∀ yy : Int32, yy = y → kf_Mo_tick_233 (nI t) (kf_Mo_tick_102 (nI t) n') c (nI i) (nI k) yy (nI p) (ρ.1, ρ.2.1, ρ.2.2.1, ρ.2.2.2.1, ρ.2.2.2.2.1, ρ.2.2.2.2.2.1, ρ.2.2.2.2.2.2.1, B', ρ.2.2.2.2.2.2.2.2.1, ρ.2.2.2.2.2.2.2.2.2.1, ρ.2.2.2.2.2.2.2.2.2.2.1, upd ρ.2.2.2.2.2.2.2.2.2.2.2.1 p (σ.2.2.2.2.1.1 p + 1), ρ.2.2.2.2.2.2.2.2.2.2.2.2.1, F', ρ.2.2.2.2.2.2.2.2.2.2.2.2.2.2) = kf_Mo_tick_102 (nI t) n' (c + 1) (nI (i + 1)) ρ' := by
      intro yy e
      subst e
      unfold kf_Mo_tick_233
      rw [gi hp (by decide), iN_c (show p < 2 ^ 31 by omega)]
      show (kf_Mo_grantAll (mPn (mE ρ B' F') (upd ρ.2.2.2.2.2.2.2.2.2.2.2.1 p (σ.2.2.2.2.1.1 p + 1)) (upd ρ.2.2.2.2.2.2.2.2.2.2.2.2.1 p yy)) (nI i) (nI k)).bind _ = _
      rw [r2, Option.bind_some, if_pos (nI_pos' (by omega)), nI_1, Int32.add_zero]
    by_cases c4 : (σ.2.2.2.2.1.1 p + 1) - (σ.2.2.2.2.1.1 p + 1) / 3 * 3 = 0
    · rw [if_pos c4, fin _ (d3 c4).symm]
      exact nxt
    · rw [if_neg c4, fin _ (d4 c4).symm]
      exact nxt
theorem sim_tick' {σ : S_Br} {ρ : S_Mo} (h : Rel σ ρ) (p1 : Int32) : ∃ (r : Int32) (σ' : S_Br) (ρ' : S_Mo), kf_Br_tick σ p1 = some (r, σ') ∧ kg_Mo_tick ρ p1 = some (r, ρ') ∧ Rel σ' ρ' := by
  obtain ⟨tn, hn, bn, cl, rl, hT, hC, hB, hW, hP, hN⟩ := id h
  have hb := hB.1; have hF := FU_big
  unfold kf_Br_tick kg_Mo_tick
  rw [hN.1]
  by_cases c1 : p1 ≤ σ.2.2.2.2.2
  · exact ⟨-1, σ, ρ, by rw [if_pos c1], by rw [if_pos c1], h⟩
  by_cases c2 : p1 ≤ 1000000
  case neg => exact ⟨-1, σ, ρ, by rw [if_neg c1, if_neg c2], by rw [if_neg c1, if_neg c2], h⟩
  rw [if_neg c1, if_neg c1, if_pos c2, if_pos c2]
  obtain ⟨w, hw, ew⟩ := hN.2
  have h0 : ¬ p1 < 0 := fun q => c1 (by
    rw [ew]
    exact Int32.le_trans (Int32.le_of_lt q) (nI_pos' (by omega)))
  obtain ⟨t, ht, rfl⟩ := oN (n := 1000000) h0 (Int32.not_lt.mpr c2) (by decide)
  obtain ⟨b', B', q1, q2, q3⟩ := simFin (tn := tn) (bn := bn) (nI t) bn 1 FU FU σ.2.2.1 (0, nI t, ρ.2.2.1, ρ.2.2.2.1, ρ.2.2.2.2.1, ρ.2.2.2.2.2.1, ρ.2.2.2.2.2.2.1, ρ.2.2.2.2.2.2.2.1, ρ.2.2.2.2.2.2.2.2.1, ρ.2.2.2.2.2.2.2.2.2.1, ρ.2.2.2.2.2.2.2.2.2.2.1, ρ.2.2.2.2.2.2.2.2.2.2.2.1, ρ.2.2.2.2.2.2.2.2.2.2.2.2.1, ρ.2.2.2.2.2.2.2.2.2.2.2.2.2.1, ρ.2.2.2.2.2.2.2.2.2.2.2.2.2.2) hB (by omega) (by omega) (by omega)
  have q1 : kf_Bk_finish σ.2.2.1 (nI t) = some b' := q1
  have q2 : kf_Mo_tick_28 (nI t) FU 1 (0, nI t, ρ.2.2.1, ρ.2.2.2.1, ρ.2.2.2.2.1, ρ.2.2.2.2.2.1, ρ.2.2.2.2.2.2.1, ρ.2.2.2.2.2.2.2.1, ρ.2.2.2.2.2.2.2.2.1, ρ.2.2.2.2.2.2.2.2.2.1, ρ.2.2.2.2.2.2.2.2.2.2.1, ρ.2.2.2.2.2.2.2.2.2.2.2.1, ρ.2.2.2.2.2.2.2.2.2.2.2.2.1, ρ.2.2.2.2.2.2.2.2.2.2.2.2.2.1, ρ.2.2.2.2.2.2.2.2.2.2.2.2.2.2) = _ := q2
  rw [q1, q2]
  unfold kf_Bk_size
  simp only [Option.bind_some]
  rw [q3.2.1]
  exact simTk (tn := tn) (hn := hn) (last := bn) ht (nI t) bn 1 FU FU 0 (σ.1, σ.2.1, b', σ.2.2.2.1, σ.2.2.2.2.1, nI t) (mB (0, nI t, ρ.2.2.1, ρ.2.2.2.1, ρ.2.2.2.2.1, ρ.2.2.2.2.2.1, ρ.2.2.2.2.2.2.1, ρ.2.2.2.2.2.2.2.1, ρ.2.2.2.2.2.2.2.2.1, ρ.2.2.2.2.2.2.2.2.2.1, ρ.2.2.2.2.2.2.2.2.2.2.1, ρ.2.2.2.2.2.2.2.2.2.2.2.1, ρ.2.2.2.2.2.2.2.2.2.2.2.2.1, ρ.2.2.2.2.2.2.2.2.2.2.2.2.2.1, ρ.2.2.2.2.2.2.2.2.2.2.2.2.2.2) B' ρ.2.2.2.2.2.2.2.2.1) bn cl rl ⟨hT, hC, q3, hW, hP, ⟨rfl, t, ht, rfl⟩⟩ rfl (by omega) (by omega) (Nat.le_refl _) (by omega) (by omega) (fun j h1 h2 => by omega)
