theorem mvq (k p : Int32) : (1440 * p) * k = (k * p) * 1440 := by
  rw [Int32.mul_comm (1440 * p) k, Int32.mul_comm 1440 p, Int32.mul_assoc]
theorem recStop (p1 p2 p3 : Int32) (n : Nat) (hn : 0 < n) (x4 x5 x7 : Int32) (τ : S_Mo) : kf_Mo_recurring_60 p1 p2 p3 n x4 x5 0 x7 τ = some (x5, τ) := by
  obtain ⟨n, rfl⟩ : ∃ k, n = k + 1 := ⟨n - 1, by omega⟩
  rw [kf_Mo_recurring_60_s, if_pos (show (0 : Int32) = 0 from rfl), ite_self]
theorem nIneg {n : Nat} (h : n < 2 ^ 31) {x : Int32} (hx : x < 0) : ¬ nI n = x := fun q => by rw [← q] at hx; exact nI_pos h hx
theorem simRec {tn hn j p t T : Nat} {cl rl : List WI} {p2 : Int32} (hj1 : 1 ≤ j) (hp : p < 40) (ht : t < tn) (hTT : T ≤ 20) : ∀ (m k n n' : Nat) (c : Int32) (σ : S_Br) (ρ : S_Mo) (bn : Nat), RTh σ.2.1 ρ tn → RCa σ.1 ρ hn → RBk σ.2.2.1 ρ tn bn → RWi σ.2.2.2.1 ρ tn cl rl → RPe σ.2.2.2.2.1 ρ → RNo σ.2.2.2.2.2 ρ → j ≤ bn → σ.2.2.1.1 j = nI p → σ.2.2.1.2.1 j = nI t → k + m = T + 1 → m < n → m + 1 < n' →
    ∃ (r : Int32) (σ' : S_Br) (ρ' : S_Mo), kf_Br_recurring_72 (nI j) p2 (nI T) n (nI p) (nI t) c (nI k) σ = some (r, σ') ∧ kf_Mo_recurring_60 (nI j) p2 (nI T) n' (6 * nI j) c 1 (nI k) ρ = some (r, ρ') ∧ Rel σ' ρ' := by
  intro m
  induction m with
  | zero =>
    intro k n n' c σ ρ bn hT hC hB hW hP hN hj eP eT hk hn1 hn2
    obtain ⟨n, rfl⟩ : ∃ k, n = k + 1 := ⟨n - 1, by omega⟩
    obtain ⟨n', rfl⟩ : ∃ k, n' = k + 1 := ⟨n' - 1, by omega⟩
    refine ⟨c, σ, ρ, ?_, ?_, ⟨tn, hn, bn, cl, rl, hT, hC, hB, hW, hP, hN⟩⟩
    · rw [kf_Br_recurring_72_s, if_pos (nI_lt (by omega) (by omega))]
    · rw [kf_Mo_recurring_60_s, if_pos (nI_lt (by omega) (by omega))]
  | succ m ih =>
    intro k n n' c σ ρ bn hT hC hB hW hP hN hj eP eT hk hn1 hn2
    obtain ⟨n, rfl⟩ : ∃ k, n = k + 1 := ⟨n - 1, by omega⟩
    obtain ⟨n', rfl⟩ : ∃ k, n' = k + 1 := ⟨n' - 1, by omega⟩
    have hb := hB.1
    have hj2 : j ≤ 200 := by omega
    obtain ⟨g0, g1, g2, g3, g4, g5⟩ := hB.2.2.2.1 j hj2
    have hRel : Rel σ ρ := ⟨tn, hn, bn, cl, rl, hT, hC, hB, hW, hP, hN⟩
    have n10 : ¬ (1 : Int32) = 0 := by decide
    rw [kf_Br_recurring_72_s, kf_Mo_recurring_60_s, if_neg (nI_nlt (show k ≤ T by omega) (by omega)), if_neg (nI_nlt (show k ≤ T by omega) (by omega)), if_neg n10, kBF hj2, kBO hj2, gb_0 hj2, gb_1 hj2, gb_2 hj2, gb_3 hj2, xb_0 hj2, xb_1 hj2, xb_2 hj2, xb_3 hj2, g0, g1, g2, g3, eP, eT, mvq, hB.2.2.1]
    simp only [Option.bind_some]
    have stop := recStop (nI j) p2 (nI T) n' (by omega) (6 * nI j) c (nI k + 1) ρ
    rcases simTry hT hC hB hP hN hp ht (σ.2.2.1.2.2.1 j + nI k * p2 * 1440) (σ.2.2.1.2.2.2.1 j + nI k * p2 * 1440) with ⟨e, q⟩ | ⟨e, r, q1, q2, q3⟩ | ⟨e, q1, b', B', q2, q3, q4, q5, q6, q7, q8⟩
    · refine ⟨c, σ, ρ, ?_, ?_, hRel⟩
      · rw [q, Option.bind_some, if_pos rfl]
      · subst e
        rw [if_pos (show nI 200 = 200 from rfl)]
        unfold kf_Mo_recurring_141 kf_Mo_recurring_155
        rw [if_pos rfl, if_neg (show ¬ (-3 : Int32) = 0 by decide)]
        exact stop
    · rw [if_neg (ne200 e), q1, q3, Option.bind_some, Option.bind_some, if_neg (ng0 q2).2.1]
      unfold kf_Mo_recurring_141 kf_Mo_recurring_155
      by_cases c3 : r = -3
      · refine ⟨c, σ, ρ, by rw [if_pos c3], ?_, hRel⟩
        rw [if_pos c3, if_neg (ng0 q2).2.1]
        exact stop
      · rw [if_neg c3, if_neg c3, if_pos (ng0 q2).2.2, if_neg (ng0 q2).2.1, nI_1]
        exact ih (k + 1) n n' c σ ρ bn hT hC hB hW hP hN hj eP eT (by omega) (by omega) (by omega)
    · rw [if_neg (ne200 e), q1, q2, Option.bind_some, Option.bind_some, if_neg (nI_ne0 (by omega) (by omega)), if_neg (nIneg (by omega) (by decide)), if_neg (nI_nle (by omega) (by omega))]
      unfold kf_Mo_recurring_141 kf_Mo_recurring_155
      rw [if_neg (show ¬ (0 : Int32) = -3 by decide), if_pos rfl, gb_0 hj2, gb_1 hj2, gb_2 hj2, gb_3 hj2, xb_0 hj2, xb_1 hj2, xb_2 hj2, xb_3 hj2, g0, g1, g2, g3, eP, eT, q3, Option.bind_some, nI_1]
      exact ih (k + 1) n n' (c + 1) (σ.1, σ.2.1, b', σ.2.2.2.1, σ.2.2.2.2.1, σ.2.2.2.2.2) (mB ρ B' (nI (bn + 1))) (bn + 1) hT hC q4 hW hP hN (by omega) ((q7 j hj).2.1.trans eP) ((q7 j hj).2.2.trans eT) (by omega) (by omega) (by omega)
theorem le20 (x : Int32) : (x ≤ 20) ↔ ¬ (20 < x) := Int32.not_lt.symm
theorem sim_recurring' {σ : S_Br} {ρ : S_Mo} (h : Rel σ ρ) (p1 p2 p3 : Int32) : ∃ (r : Int32) (σ' : S_Br) (ρ' : S_Mo), kf_Br_recurring σ p1 p2 p3 = some (r, σ') ∧ kg_Mo_recurring ρ p1 p2 p3 = some (r, ρ') ∧ Rel σ' ρ' := by
  obtain ⟨tn, hn, bn, cl, rl, hT, hC, hB, hW, hP, hN⟩ := id h
  have hb := hB.1; have hF := FU_big
  unfold kf_Br_recurring kg_Mo_recurring
  rw [(kHasB hB p1).1, (kHasB hB p1).2, kW, kW]
  simp only [Option.bind_some, ite01]
  by_cases c1 : p1 < 1 ∨ nI bn < p1
  · exact ⟨0, σ, ρ, by rw [if_pos c1], by rw [if_pos c1], h⟩
  rw [if_neg c1, if_neg c1]
  obtain ⟨i, i1, i2, rfl⟩ := isB hB.1 c1
  have hi : i ≤ 200 := by omega
  obtain ⟨⟨p, hp, ep⟩, ⟨t, ht, et⟩, -⟩ := hB.2.2.2.2 i i1 i2
  rw [kLv hi, mLv hB i1 i2, kBP hi, kBT hi, ep, et]
  simp only [Option.bind_some, ite10, ite01]
  by_cases c2 : σ.2.2.1.2.2.2.2.1 i = 0 ∨ σ.2.2.1.2.2.2.2.1 i = 1
  case neg => exact ⟨0, σ, ρ, by rw [if_neg c2], by rw [if_neg c2], h⟩
  rw [if_pos c2, if_pos c2]
  by_cases c3 : p2 < 1 ∨ 60 < p2
  · refine ⟨0, σ, ρ, by rw [if_pos c3], ?_, h⟩
    rcases c3 with q | q
    · rw [if_pos q]
    · rw [if_pos q, ite_self]
  by_cases c4 : p3 < 1 ∨ 20 < p3
  · refine ⟨0, σ, ρ, by rw [if_neg c3, if_pos c4], ?_, h⟩
    rw [if_neg (fun q => c3 (Or.inl q)), if_neg (fun q => c3 (Or.inr q))]
    rcases c4 with q | q
    · rw [if_pos q]
    · rw [if_neg (fun z => (le20 p3).mp z q), ite_self]
  rw [if_neg c3, if_neg c4, if_neg (fun q => c3 (Or.inl q)), if_neg (fun q => c3 (Or.inr q)), if_neg (fun q => c4 (Or.inl q)), if_pos ((le20 p3).mpr (fun q => c4 (Or.inr q)))]
  have h0 : ¬ p3 < 0 := fun q => c4 (Or.inl (by
    rw [Int32.lt_iff_toInt_lt] at q ⊢
    have e1 : (0 : Int32).toInt = 0 := by decide
    have e2 : (1 : Int32).toInt = 1 := by decide
    rw [e1] at q; rw [e2]; omega))
  obtain ⟨T, hT20, rfl⟩ := oN (n := 20) h0 (fun q => c4 (Or.inr q)) (by decide)
  have hT1 : 1 ≤ T := by
    have : ¬ nI T < nI 1 := fun q => c4 (Or.inl q)
    rw [nI_ltI (by omega) (by decide)] at this; omega
  exact simRec (tn := tn) (hn := hn) (cl := cl) (rl := rl) i1 hp ht hT20 T 1 FU FU 0 σ ρ bn hT hC hB hW hP hN i2 ep et (by omega) (by omega) (by omega)
-- how many wishes of a person
theorem cntC {ω : S_Wi} {ρ : S_Mo} {tn : Nat} {cl rl : List WI} (hW : RWi ω ρ tn cl rl) (p : Int32) : ∀ (m i n k : Nat), i + m = cl.length → m < n → kf_Wi_countOf_4 ω p n (nI k) (nI i) = some (nI (k + (cl.drop i).countP (fun x => decide (x.1 = p)))) := by
  obtain ⟨w1, w2, w3, w4, w5, w6, w7, w8, w9, w10⟩ := hW
  intro m
  induction m with
  | zero =>
    intro i n k hi hn
    obtain ⟨n, rfl⟩ : ∃ k, n = k + 1 := ⟨n - 1, by omega⟩
    rw [kf_Wi_countOf_4_s, w3, if_pos (nI_le (by omega) (by omega)), List.drop_eq_nil_of_le (by omega)]; rfl
  | succ m ih =>
    intro i n k hi hn
    obtain ⟨n, rfl⟩ : ∃ k, n = k + 1 := ⟨n - 1, by omega⟩
    have hlt : i < cl.length := by omega
    rw [kf_Wi_countOf_4_s, w3, if_neg (nI_ge hlt (by omega)), gi (show i < 60 by omega) (by decide), iN_c (by omega), nI_1, nI_1, (w5 i _ (List.getElem?_eq_getElem hlt)).1, ih (i + 1) n (k + 1) (by omega) (by omega), ih (i + 1) n k (by omega) (by omega), List.drop_eq_getElem_cons hlt, List.countP_cons]
    by_cases c : cl[i].1 = p
    · rw [if_pos c, if_pos (by simpa using c), Nat.add_assoc, Nat.add_comm 1]
    · rw [if_neg c, if_neg (by simpa using c)]; rfl
theorem cntR {ω : S_Wi} {ρ : S_Mo} {tn : Nat} {cl rl : List WI} (hW : RWi ω ρ tn cl rl) (p p2 : Int32) : ∀ (m i n k : Nat), i + m = rl.length → m < n → kf_Mo_person_65 p p2 n (nI k) (nI i) ρ = some (nI (k + (rl.drop i).countP (fun x => decide (x.1 = p))), ρ) := by
  obtain ⟨w1, w2, w3, w4, w5, w6, w7, w8, w9, w10⟩ := hW
  intro m
  induction m with
  | zero =>
    intro i n k hi hn
    obtain ⟨n, rfl⟩ : ∃ k, n = k + 1 := ⟨n - 1, by omega⟩
    rw [kf_Mo_person_65_s, w4, if_pos (nI_le (by omega) (by omega)), List.drop_eq_nil_of_le (by omega)]; rfl
  | succ m ih =>
    intro i n k hi hn
    obtain ⟨n, rfl⟩ : ∃ k, n = k + 1 := ⟨n - 1, by omega⟩
    have hlt : i < rl.length := by omega
    have h60 : i < 60 := by omega
    rw [kf_Mo_person_65_s, w4, if_neg (nI_ge (show i < cl.length by omega) (by omega)), gw_0 h60, xw_0 h60, nI_1, nI_1, show nI k + 0 = nI k from Int32.add_zero _, (w6 i _ (List.getElem?_eq_getElem hlt)).1, ih (i + 1) n (k + 1) (by omega) (by omega), ih (i + 1) n k (by omega) (by omega), List.drop_eq_getElem_cons hlt, List.countP_cons]
    by_cases c : rl[i].1 = p
    · rw [if_pos c, if_pos (by simpa using c), Nat.add_assoc, Nat.add_comm 1]
    · rw [if_neg c, if_neg (by simpa using c)]; rfl
theorem lexne {x y : WI} (h : lexlt x y) : x ≠ y := fun e => by
  subst e
  rcases h with h | h
  · exact Int32.lt_irrefl h
  · exact Nat.lt_irrefl _ h.2
theorem wPerm {ω : S_Wi} {ρ : S_Mo} {tn : Nat} {cl rl : List WI} (hW : RWi ω ρ tn cl rl) : cl.Perm rl := by
  obtain ⟨w1, w2, w3, w4, w5, w6, w7, w8, w9, w10⟩ := hW
  exact (List.perm_ext_iff_of_nodup (w7.imp lexne) (w8.imp (fun h e => by subst e; exact Nat.lt_irrefl _ h))).mpr w9
theorem kNs {q : S_Pe} {i : Nat} (hi : i < 40) : kf_Pe_noShowsOf q (nI i) = some (q.1 i) := by
  unfold kf_Pe_noShowsOf; rw [gi hi (by decide), iN_c (by omega)]
theorem kBa {q : S_Pe} {i : Nat} (hi : i < 40) (n : Int32) : kf_Pe_isBarred q (nI i) n = some (if q.2 i ≤ n then 0 else 1) := by
  unfold kf_Pe_isBarred; rw [gi hi (by decide), iN_c (by omega)]
  by_cases c : q.2 i ≤ n
  · rw [if_pos c, if_pos c]
  · rw [if_neg c, if_neg c]
theorem sim_person' {σ : S_Br} {ρ : S_Mo} (h : Rel σ ρ) (p1 p2 : Int32) : ∃ (r : Int32) (ρ' : S_Mo), kf_Br_person σ p1 p2 = some r ∧ kg_Mo_person ρ p1 p2 = some (r, ρ') ∧ Rel σ ρ' := by
  obtain ⟨tn, hn, bn, cl, rl, hT, hC, hB, hW, hP, hN⟩ := id h
  have hF := FU_big
  unfold kf_Br_person kg_Mo_person kf_Wi_countOf
  rw [kPe, mPe, Option.bind_some, Option.bind_some, ite01, ite01]
  by_cases c1 : p1 < 0 ∨ 39 < p1
  · exact ⟨-1, ρ, by rw [if_pos c1], by rw [if_pos c1], h⟩
  rw [if_neg c1, if_neg c1]
  obtain ⟨p, hp, rfl⟩ := isP c1
  obtain ⟨s0, s1⟩ := hP p hp
  have hl1 := hW.1; have hl2 := hW.2.1
  have e1 := cntC hW (nI p) cl.length 0 FU 0 (by omega) (by omega)
  have e2 := cntR hW (nI p) p2 rl.length 0 FU 0 (by omega) (by omega)
  rw [List.drop_zero] at e1 e2
  have e1 : kf_Wi_countOf_4 σ.2.2.2.1 (nI p) FU 0 0 = _ := e1
  have e2 : kf_Mo_person_65 (nI p) p2 FU 0 0 ρ = _ := e2
  rw [kNs hp, kBa hp, e1, e2, gi hp (by decide), gi hp (by decide), iN_c (show p < 2 ^ 31 by omega), s0, s1, hN.1, (wPerm hW).countP_eq]
  simp only [Option.bind_some, ite01]
  by_cases c2 : p2 = 0
  · subst c2
    exact ⟨_, ρ, by rw [if_pos rfl], by rw [if_neg (show ¬ (0 : Int32) < 0 by decide), if_pos (show (0 : Int32) ≤ 2 by decide), if_neg (show ¬ (2 : Int32) ≤ 0 by decide), if_pos rfl], h⟩
  by_cases c3 : p2 = 1
  · subst c3
    rw [if_neg c2, if_pos rfl, if_neg (show ¬ (1 : Int32) < 0 by decide), if_pos (show (1 : Int32) ≤ 2 by decide), if_neg (show ¬ (2 : Int32) ≤ 1 by decide), if_neg c2]
    by_cases c5 : σ.2.2.2.2.1.2 p ≤ σ.2.2.2.2.2
    · exact ⟨0, ρ, by rw [if_pos c5], by rw [if_pos c5], h⟩
    · exact ⟨1, ρ, by rw [if_neg c5], by rw [if_neg c5], h⟩
  by_cases c4 : p2 = 2
  · subst c4
    exact ⟨_, ρ, by rw [if_neg c2, if_neg c3, if_pos rfl], by rw [if_neg (show ¬ (2 : Int32) < 0 by decide), if_pos (show (2 : Int32) ≤ 2 by decide), if_pos (show (2 : Int32) ≤ 2 by decide)], h⟩
  refine ⟨-1, ρ, by rw [if_neg c2, if_neg c3, if_neg c4], ?_, h⟩
  by_cases d1 : p2 < 0
  · rw [if_pos d1]
  · rw [if_neg d1]
    by_cases d2 : p2 ≤ 2
    · exfalso
      rcases sw_out3 c2 c3 c4 with q | q
      · rw [Int32.lt_iff_toInt_lt] at d1
        have e1 : (0 : Int32).toInt = 0 := by decide
        rw [e1] at d1; omega
      · rw [Int32.le_iff_toInt_le] at d2
        have e1 : (2 : Int32).toInt = 2 := by decide
        rw [e1] at d2; omega
    · rw [if_neg d2]
