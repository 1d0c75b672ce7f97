theorem vpn {x : Int32} (h : x = 0 ∨ x = 1) : vp_nar .boolean x = x := by rcases h with rfl | rfl <;> rfl
def repM (W : A32) (i : Nat) (x : WI) : Prop := W (5 * i) = x.1 ∧ W (5 * i + 1) = x.2.1 ∧ W (5 * i + 2) = x.2.2.1 ∧ W (5 * i + 3) = x.2.2.2.1 ∧ W (5 * i + 4) = x.2.2.2.2.1
theorem erLk (l : List WI) (a i : Nat) : (l.eraseIdx a)[i]? = if i < a then l[i]? else l[i + 1]? := List.getElem?_eraseIdx ..
-- a wish is taken out of rows
theorem remLoop {l : List WI} {a : Nat} {p : Int32} (ha : a < l.length) (hl : l.length ≤ 60) : ∀ (m i n : Nat) (τ : S_Wi), i + m = l.length → a + 1 ≤ i → m < n → τ.2.2.2.2.2 = nI l.length → (∀ j x, (l.eraseIdx a)[j]? = some x → j + 1 < i → repW τ j x) → (∀ j x, l[j]? = some x → i ≤ j → repW τ j x) →
    ∃ ω' : S_Wi, kf_Wi_removeAt_4 p n (nI i) τ = some ω' ∧ ω'.2.2.2.2.2 = nI (l.length - 1) ∧ ∀ j x, (l.eraseIdx a)[j]? = some x → repW ω' j x := by
  intro m
  induction m with
  | zero =>
    intro i n τ hi hai hn hN h1 h2
    obtain ⟨n, rfl⟩ : ∃ k, n = k + 1 := ⟨n - 1, by omega⟩
    refine ⟨(τ.1, τ.2.1, τ.2.2.1, τ.2.2.2.1, τ.2.2.2.2.1, nI (l.length - 1)), ?_, rfl, fun j x hx => ?_⟩
    · rw [kf_Wi_removeAt_4_s, hN, if_pos (nI_le (by omega) (by omega)), show nI l.length - 1 = nI (l.length - 1) from pk_sub (b := 1) (by omega)]
    · have hj : j < (l.eraseIdx a).length := (List.getElem?_eq_some_iff.mp hx).1
      rw [List.length_eraseIdx, if_pos ha] at hj
      exact h1 j x hx (by omega)
  | succ m ih =>
    intro i n τ hi hai hn hN h1 h2
    obtain ⟨n, rfl⟩ : ∃ k, n = k + 1 := ⟨n - 1, by omega⟩
    obtain ⟨i, rfl⟩ : ∃ k, i = k + 1 := ⟨i - 1, by omega⟩
    rw [kf_Wi_removeAt_4_s, hN, if_neg (nI_ge (by omega) (by omega)), nI_pred, kMv (by omega) (by omega), Option.bind_some, nI_1]
    refine ih (i + 1 + 1) n _ (by omega) (by omega) (by omega) hN (fun j x hx hj => ?_) (fun j x hx hj => ?_)
    · by_cases c : j = i
      · subst c
        have hx' := hx
        rw [erLk, if_neg (by omega)] at hx'
        obtain ⟨z1, z2, z3, z4, z5⟩ := h2 (j + 1) x hx' (by omega)
        exact ⟨pk_us.trans z1, pk_us.trans z2, pk_us.trans z3, pk_us.trans z4, pk_us.trans z5⟩
      · obtain ⟨z1, z2, z3, z4, z5⟩ := h1 j x hx (by omega)
        exact ⟨(pk_un c).trans z1, (pk_un c).trans z2, (pk_un c).trans z3, (pk_un c).trans z4, (pk_un c).trans z5⟩
    · obtain ⟨z1, z2, z3, z4, z5⟩ := h2 j x hx (by omega)
      exact ⟨(pk_un (by omega)).trans z1, (pk_un (by omega)).trans z2, (pk_un (by omega)).trans z3, (pk_un (by omega)).trans z4, (pk_un (by omega)).trans z5⟩
theorem kRem {ω : S_Wi} {l : List WI} {a : Nat} (ha : a < l.length) (hl : l.length ≤ 60) (hN : ω.2.2.2.2.2 = nI l.length) (hr : ∀ j x, l[j]? = some x → repW ω j x) :
    ∃ ω' : S_Wi, kf_Wi_removeAt ω (nI a) = some ω' ∧ ω'.2.2.2.2.2 = nI (l.length - 1) ∧ ∀ j x, (l.eraseIdx a)[j]? = some x → repW ω' j x := by
  have hF := FU_big
  unfold kf_Wi_removeAt
  rw [nI_1]
  refine remLoop ha hl (l.length - (a + 1)) (a + 1) FU ω (by omega) (by omega) (by omega) hN (fun j x hx hj => ?_) (fun j x hx _ => hr j x hx)
  rw [erLk, if_pos (by omega)] at hx
  exact hr j x hx
-- the reference drops a wish
theorem drop36 {k : Nat} (hk : k < 59) (p : Int32) (K : Int32 → S_Mo → Option S_Mo) : ∀ (m j n : Nat) (τ : S_Mo), j + m = 5 → m < n → ∃ W' : A32, kf_Mo_dropWish_36 p K n (nI k) (nI j) τ = K (nI (k + 1)) (mWs τ τ.1 W' τ.2.2.2.2.2.2.2.2.2.2.1 τ.2.2.2.2.2.2.2.2.2.2.2.2.2.2) ∧ (∀ q, 5 * k + j ≤ q → q < 5 * k + 5 → W' q = τ.2.2.2.2.2.2.2.2.2.1 (q + 5)) ∧ (∀ q, q < 5 * k + j ∨ 5 * k + 5 ≤ q → W' q = τ.2.2.2.2.2.2.2.2.2.1 q) := by
  intro m
  induction m with
  | zero =>
    intro j n τ hj hn
    obtain ⟨n, rfl⟩ : ∃ k, n = k + 1 := ⟨n - 1, by omega⟩
    refine ⟨τ.2.2.2.2.2.2.2.2.2.1, ?_, fun q _ _ => by omega, fun q _ => rfl⟩
    rw [kf_Mo_dropWish_36_s, if_pos (show (5 : Int32) ≤ nI j from nI_le (a := 5) (by omega) (by omega)), nI_1]
  | succ m ih =>
    intro j n τ hj hn
    obtain ⟨n, rfl⟩ : ∃ k, n = k + 1 := ⟨n - 1, by omega⟩
    have e1 : (5 * nI k + 5) + nI j = nI (5 * k + 5 + j) := by rw [show (5 * nI k + 5 : Int32) = nI (5 * k + 5) from six 5 k 5, nI_add]
    have e2 : (5 * nI k) + nI j = nI (5 * k + j) := six 5 k j
    rw [kf_Mo_dropWish_36_s, if_neg (show ¬ (5 : Int32) ≤ nI j from nI_ge (b := 5) (by omega) (by decide)), e1, e2, gi (show 5 * k + 5 + j < 300 by omega) (by decide), gi (show 5 * k + j < 300 by omega) (by decide), iN_c (show 5 * k + 5 + j < 2 ^ 31 by omega), iN_c (show 5 * k + j < 2 ^ 31 by omega), nI_1]
    obtain ⟨W', q1, q2, q3⟩ := ih (j + 1) n (mWs τ τ.1 (upd τ.2.2.2.2.2.2.2.2.2.1 (5 * k + j) (τ.2.2.2.2.2.2.2.2.2.1 (5 * k + 5 + j))) τ.2.2.2.2.2.2.2.2.2.2.1 τ.2.2.2.2.2.2.2.2.2.2.2.2.2.2) (by omega) (by omega)
    refine ⟨W', q1, fun q h1 h2 => ?_, fun q h => ?_⟩
    · by_cases c : q = 5 * k + j
      · subst c
        exact (q3 _ (Or.inl (by omega))).trans (pk_us.trans (congrArg τ.2.2.2.2.2.2.2.2.2.1 (by omega)))
      · rw [q2 q (by omega) h2]
        exact pk_un (by omega)
    · rw [q3 q (by omega)]
      exact pk_un (by omega)
theorem dropLoop {l : List WI} {w : Nat} {p : Int32} {O0 : A32} (hw : w < l.length) (hl : l.length ≤ 60) (hO : ∀ k, k < l.length → O0 k = 0 ∨ O0 k = 1) : ∀ (m k n : Nat) (τ : S_Mo), k + m = l.length - 1 → w ≤ k → m < n → τ.2.2.2.2.2.2.2.2.2.2.1 = nI (l.length - 1) → (∀ j x, (l.eraseIdx w)[j]? = some x → j < k → repM τ.2.2.2.2.2.2.2.2.2.1 j x) → (∀ j x, l[j]? = some x → k ≤ j → repM τ.2.2.2.2.2.2.2.2.2.1 j x) → (∀ j, j < k → τ.2.2.2.2.2.2.2.2.2.2.2.2.2.2 j = if j < w then O0 j else O0 (j + 1)) → (∀ j, k ≤ j → j < l.length → τ.2.2.2.2.2.2.2.2.2.2.2.2.2.2 j = O0 j) →
    ∃ W' O' : A32, kf_Mo_dropWish_12 p n (nI k) τ = some (mWs τ τ.1 W' τ.2.2.2.2.2.2.2.2.2.2.1 O') ∧ (∀ j x, (l.eraseIdx w)[j]? = some x → repM W' j x) ∧ (∀ j, j < l.length - 1 → O' j = if j < w then O0 j else O0 (j + 1)) := by
  intro m
  induction m with
  | zero =>
    intro k n τ hk hwk hn hV h1 h2 h3 h4
    obtain ⟨n, rfl⟩ : ∃ k, n = k + 1 := ⟨n - 1, by omega⟩
    refine ⟨τ.2.2.2.2.2.2.2.2.2.1, τ.2.2.2.2.2.2.2.2.2.2.2.2.2.2, ?_, fun j x hx => ?_, fun j hj => h3 j (by omega)⟩
    · rw [kf_Mo_dropWish_12_s, hV, if_pos (nI_le (by omega) (by omega)), ← hV]
    · have hj : j < (l.eraseIdx w).length := (List.getElem?_eq_some_iff.mp hx).1
      rw [List.length_eraseIdx, if_pos hw] at hj
      exact h1 j x hx (by omega)
  | succ m ih =>
    intro k n τ hk hwk hn hV h1 h2 h3 h4
    obtain ⟨n, rfl⟩ : ∃ k, n = k + 1 := ⟨n - 1, by omega⟩
    have hF := FU_big
    rw [kf_Mo_dropWish_12_s, show (if τ.2.2.2.2.2.2.2.2.2.2.1 ≤ nI k then some τ else _) = _ from if_neg (by rw [hV]; exact nI_ge (by omega) (by omega)), nI_1, gi (show k + 1 < 61 by omega) (by decide), gi (show k < 61 by omega) (by decide), iN_c (show k + 1 < 2 ^ 31 by omega), iN_c (show k < 2 ^ 31 by omega), h4 (k + 1) (by omega) (by omega), vpn (hO (k + 1) (by omega))]
    obtain ⟨W', q1, q2, q3⟩ := drop36 (k := k) (by omega) p (kf_Mo_dropWish_12 p n) 5 0 FU (mWs τ τ.1 τ.2.2.2.2.2.2.2.2.2.1 τ.2.2.2.2.2.2.2.2.2.2.1 (upd τ.2.2.2.2.2.2.2.2.2.2.2.2.2.2 k (O0 (k + 1)))) (by omega) (by omega)
    have q1 : kf_Mo_dropWish_36 p (kf_Mo_dropWish_12 p n) FU (nI k) 0 (mWs τ τ.1 τ.2.2.2.2.2.2.2.2.2.1 τ.2.2.2.2.2.2.2.2.2.2.1 (upd τ.2.2.2.2.2.2.2.2.2.2.2.2.2.2 k (O0 (k + 1)))) = _ := q1
    rw [q1]
    obtain ⟨W2, O2, z1, z2, z3⟩ := ih (k + 1) n (mWs τ τ.1 W' τ.2.2.2.2.2.2.2.2.2.2.1 (upd τ.2.2.2.2.2.2.2.2.2.2.2.2.2.2 k (O0 (k + 1)))) (by omega) (by omega) (by omega) hV (fun j x hx hj => by
        by_cases c : j = k
        · subst c
          have hx' := hx
          rw [erLk, if_neg (by omega)] at hx'
          obtain ⟨y1, y2, y3, y4, y5⟩ := h2 (j + 1) x hx' (by omega)
          refine ⟨(q2 _ (by omega) (by omega)).trans (Eq.trans (congrArg τ.2.2.2.2.2.2.2.2.2.1 (by omega)) y1), (q2 _ (by omega) (by omega)).trans (Eq.trans (congrArg τ.2.2.2.2.2.2.2.2.2.1 (by omega)) y2), (q2 _ (by omega) (by omega)).trans (Eq.trans (congrArg τ.2.2.2.2.2.2.2.2.2.1 (by omega)) y3), (q2 _ (by omega) (by omega)).trans (Eq.trans (congrArg τ.2.2.2.2.2.2.2.2.2.1 (by omega)) y4), (q2 _ (by omega) (by omega)).trans (Eq.trans (congrArg τ.2.2.2.2.2.2.2.2.2.1 (by omega)) y5)⟩
        · obtain ⟨y1, y2, y3, y4, y5⟩ := h1 j x hx (by omega)
          exact ⟨(q3 _ (by omega)).trans y1, (q3 _ (by omega)).trans y2, (q3 _ (by omega)).trans y3, (q3 _ (by omega)).trans y4, (q3 _ (by omega)).trans y5⟩)
      (fun j x hx hj => by
        obtain ⟨y1, y2, y3, y4, y5⟩ := h2 j x hx (by omega)
        exact ⟨(q3 _ (by omega)).trans y1, (q3 _ (by omega)).trans y2, (q3 _ (by omega)).trans y3, (q3 _ (by omega)).trans y4, (q3 _ (by omega)).trans y5⟩)
      (fun j hj => by
        by_cases c : j = k
        · subst c
          rw [if_neg (by omega)]; exact pk_us
        · exact (pk_un c).trans (h3 j (by omega)))
      (fun j hj hj2 => (pk_un (by omega)).trans (h4 j (by omega) hj2))
    exact ⟨W2, O2, z1, z2, z3⟩
theorem mDrop {ρ : S_Mo} {l : List WI} {w : Nat} (hw : w < l.length) (hl : l.length ≤ 60) (hV : ρ.2.2.2.2.2.2.2.2.2.2.1 = nI l.length) (hr : ∀ j x, l[j]? = some x → repM ρ.2.2.2.2.2.2.2.2.2.1 j x) (hO : ∀ k, k < l.length → ρ.2.2.2.2.2.2.2.2.2.2.2.2.2.2 k = 0 ∨ ρ.2.2.2.2.2.2.2.2.2.2.2.2.2.2 k = 1) :
    ∃ W' O' : A32, kf_Mo_dropWish ρ (nI w) = some (mWs ρ ρ.1 W' (nI (l.length - 1)) O') ∧ (∀ j x, (l.eraseIdx w)[j]? = some x → repM W' j x) ∧ (∀ j, j < l.length - 1 → O' j = if j < w then ρ.2.2.2.2.2.2.2.2.2.2.2.2.2.2 j else ρ.2.2.2.2.2.2.2.2.2.2.2.2.2.2 (j + 1)) := by
  have hF := FU_big
  unfold kf_Mo_dropWish
  rw [hV, show nI l.length - 1 = nI (l.length - 1) from pk_sub (b := 1) (by omega)]
  exact dropLoop (p := nI w) (O0 := ρ.2.2.2.2.2.2.2.2.2.2.2.2.2.2) hw hl hO (l.length - 1 - w) w FU (mWs ρ ρ.1 ρ.2.2.2.2.2.2.2.2.2.1 (nI (l.length - 1)) ρ.2.2.2.2.2.2.2.2.2.2.2.2.2.2) (by omega) (by omega) (by omega) rfl (fun j x hx hj => by
    rw [erLk, if_pos hj] at hx
    exact hr j x hx) (fun j x hx _ => hr j x hx) (fun j hj => by rw [if_pos hj]) (fun j _ _ => rfl)
-- the next wish of a thing
def bestOK (ρ : S_Mo) (th : Int32) (r : Int32) (i : Nat) : Prop :=
  (r = -1 ∧ ∀ k, k < i → ¬ (ρ.2.2.2.2.2.2.2.2.2.2.2.2.2.2 k = 0 ∧ ρ.2.2.2.2.2.2.2.2.2.1 (5 * k + 1) = th)) ∨ (∃ k, k < i ∧ r = nI k ∧ (ρ.2.2.2.2.2.2.2.2.2.2.2.2.2.2 k = 0 ∧ ρ.2.2.2.2.2.2.2.2.2.1 (5 * k + 1) = th) ∧ ∀ k', k' < i → (ρ.2.2.2.2.2.2.2.2.2.2.2.2.2.2 k' = 0 ∧ ρ.2.2.2.2.2.2.2.2.2.1 (5 * k' + 1) = th) → ρ.2.2.2.2.2.2.2.2.2.1 (5 * k + 4) ≤ ρ.2.2.2.2.2.2.2.2.2.1 (5 * k' + 4) ∧ (k' < k → ρ.2.2.2.2.2.2.2.2.2.1 (5 * k + 4) < ρ.2.2.2.2.2.2.2.2.2.1 (5 * k' + 4)))
theorem nextLoop {ρ : S_Mo} {L : Nat} (hL : L ≤ 60) (hV : ρ.2.2.2.2.2.2.2.2.2.2.1 = nI L) (th : Int32) : ∀ (m i n : Nat) (r : Int32), i + m = L → m < n → bestOK ρ th r i → ∃ r', kf_Mo_nextWish_4 ρ th n r (nI i) = some r' ∧ bestOK ρ th r' L := by
  intro m
  induction m with
  | zero =>
    intro i n r hi hn hb
    obtain ⟨n, rfl⟩ : ∃ k, n = k + 1 := ⟨n - 1, by omega⟩
    have : i = L := by omega
    subst this
    exact ⟨r, by rw [kf_Mo_nextWish_4_s, hV, if_pos (nI_le (by omega) (by omega))], hb⟩
  | succ m ih =>
    intro i n r hi hn hb
    obtain ⟨n, rfl⟩ : ∃ k, n = k + 1 := ⟨n - 1, by omega⟩
    have h60 : i < 60 := by omega
    rw [kf_Mo_nextWish_4_s, hV, if_neg (nI_ge (by omega) (by omega)), gi (show i < 61 by omega) (by decide), iN_c (by omega), gw_1 h60, gw_4 h60, xw_1 h60, xw_4 h60, nI_1]
    have keep : ¬ (ρ.2.2.2.2.2.2.2.2.2.2.2.2.2.2 i = 0 ∧ ρ.2.2.2.2.2.2.2.2.2.1 (5 * i + 1) = th) → bestOK ρ th r (i + 1) := fun hc => by
      rcases hb with ⟨h1, h2⟩ | ⟨k, h1, h2, h3, h4⟩
      · refine Or.inl ⟨h1, fun k hk => ?_⟩
        by_cases c : k = i
        · subst c; exact hc
        · exact h2 k (by omega)
      · refine Or.inr ⟨k, by omega, h2, h3, fun k' hk' hc' => ?_⟩
        by_cases c : k' = i
        · subst c; exact absurd hc' hc
        · exact h4 k' (by omega) hc'
    by_cases c1 : ρ.2.2.2.2.2.2.2.2.2.2.2.2.2.2 i = 0
    case neg =>
      rw [if_neg c1]
      exact ih (i + 1) n r (by omega) (by omega) (keep (fun q => c1 q.1))
    by_cases c2 : ρ.2.2.2.2.2.2.2.2.2.1 (5 * i + 1) = th
    case neg =>
      rw [if_pos c1, if_neg c2]
      exact ih (i + 1) n r (by omega) (by omega) (keep (fun q => c2 q.2))
    rw [if_pos c1, if_pos c2]
    rcases hb with ⟨h1, h2⟩ | ⟨k, h1, h2, h3, h4⟩
    · rw [if_pos h1]
      refine ih (i + 1) n (nI i) (by omega) (by omega) (Or.inr ⟨i, by omega, rfl, ⟨c1, c2⟩, fun k' hk' hc' => ?_⟩)
      by_cases c : k' = i
      · subst c; exact ⟨Int32.le_refl _, fun q => absurd q (Nat.lt_irrefl _)⟩
      · exact absurd hc' (h2 k' (by omega))
    · subst h2
      have hk60 : k < 60 := by omega
      rw [if_neg (nIneg (by omega) (by decide)), gw_4 hk60, xw_4 hk60]
      by_cases c3 : ρ.2.2.2.2.2.2.2.2.2.1 (5 * k + 4) ≤ ρ.2.2.2.2.2.2.2.2.2.1 (5 * i + 4)
      · rw [if_pos c3]
        refine ih (i + 1) n (nI k) (by omega) (by omega) (Or.inr ⟨k, by omega, rfl, h3, fun k' hk' hc' => ?_⟩)
        by_cases c : k' = i
        · subst c; exact ⟨c3, fun q => by omega⟩
        · exact h4 k' (by omega) hc'
      · rw [if_neg c3]
        have c3' := Int32.not_le.mp c3
        refine ih (i + 1) n (nI i) (by omega) (by omega) (Or.inr ⟨i, by omega, rfl, ⟨c1, c2⟩, fun k' hk' hc' => ?_⟩)
        by_cases c : k' = i
        · subst c; exact ⟨Int32.le_refl _, fun q => absurd q (Nat.lt_irrefl _)⟩
        · have z := (h4 k' (by omega) hc').1
          exact ⟨Int32.le_of_lt (Int32.lt_of_lt_of_le c3' z), fun _ => Int32.lt_of_lt_of_le c3' z⟩
theorem mNext {ρ : S_Mo} {L : Nat} (hL : L ≤ 60) (hV : ρ.2.2.2.2.2.2.2.2.2.2.1 = nI L) (th : Int32) : ∃ r', kf_Mo_nextWish ρ th = some r' ∧ bestOK ρ th r' L := by
  have hF := FU_big
  exact nextLoop hL hV th L 0 FU (-1) (by omega) (by omega) (Or.inl ⟨rfl, fun k hk => by omega⟩)
