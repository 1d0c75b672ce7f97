/-! The relation between the two states. -/
abbrev WI : Type := Int32 × Int32 × Int32 × Int32 × Int32 × Nat
def RTh (t : S_Th) (ρ : S_Mo) (tn : Nat) : Prop :=
  tn ≤ 30 ∧ t.2.2.2.2.2 = nI tn ∧ ρ.2.2.2.2.2.2.1 = nI tn ∧ ∀ i, i < tn → (ρ.2.2.2.2.2.1 (5 * i) = t.1 i ∧ ρ.2.2.2.2.2.1 (5 * i + 1) = t.2.1 i ∧ ρ.2.2.2.2.2.1 (5 * i + 2) = t.2.2.1 i ∧ ρ.2.2.2.2.2.1 (5 * i + 3) = t.2.2.2.1 i ∧ ρ.2.2.2.2.2.1 (5 * i + 4) = t.2.2.2.2.1 i) ∧ (∃ p, p < 4 ∧ t.1 i = nI p) ∧ (∃ a, a ≤ 100000 ∧ t.2.2.2.1 i = nI a) ∧ (∃ g, g ≤ 120 ∧ t.2.2.2.2.1 i = nI g)
def RCa (c : S_Ca) (ρ : S_Mo) (hn : Nat) : Prop :=
  hn ≤ 40 ∧ c.2.2.2 = nI hn ∧ ρ.2.2.2.2.1 = nI hn ∧ (∀ r, r < 28 → ρ.2.2.1 (2 * r) = c.1 r ∧ ρ.2.2.1 (2 * r + 1) = c.2.1 r) ∧ (∀ d, d < 695 → (c.2.2.1 d = 0 ∨ c.2.2.1 d = 1) ∧ (c.2.2.1 d = 1 ↔ ∃ k, k < hn ∧ ρ.2.2.2.1 k = nI d))
def RBk (b : S_Bk) (ρ : S_Mo) (tn bn : Nat) : Prop :=
  bn ≤ 200 ∧ b.2.2.2.2.2.2.1 = nI bn ∧ ρ.2.2.2.2.2.2.2.2.1 = nI bn ∧ (∀ i, i ≤ 200 → ρ.2.2.2.2.2.2.2.1 (6 * i) = b.1 i ∧ ρ.2.2.2.2.2.2.2.1 (6 * i + 1) = b.2.1 i ∧ ρ.2.2.2.2.2.2.2.1 (6 * i + 2) = b.2.2.1 i ∧ ρ.2.2.2.2.2.2.2.1 (6 * i + 3) = b.2.2.2.1 i ∧ ρ.2.2.2.2.2.2.2.1 (6 * i + 4) = b.2.2.2.2.1 i ∧ ρ.2.2.2.2.2.2.2.1 (6 * i + 5) = b.2.2.2.2.2.1 i) ∧ ∀ i, 1 ≤ i → i ≤ bn → (∃ p, p < 40 ∧ b.1 i = nI p) ∧ (∃ t, t < tn ∧ b.2.1 i = nI t) ∧ (∃ s, s ≤ 4 ∧ b.2.2.2.2.1 i = nI s)
def RPe (q : S_Pe) (ρ : S_Mo) : Prop := ∀ i, i < 40 → ρ.2.2.2.2.2.2.2.2.2.2.2.1 i = q.1 i ∧ ρ.2.2.2.2.2.2.2.2.2.2.2.2.1 i = q.2 i
def RNo (n : Int32) (ρ : S_Mo) : Prop := ρ.2.1 = n ∧ ∃ w, w ≤ 1000000 ∧ n = nI w
def lexlt (x y : WI) : Prop := x.2.2.2.2.1 < y.2.2.2.2.1 ∨ (x.2.2.2.2.1 = y.2.2.2.2.1 ∧ x.2.2.2.2.2 < y.2.2.2.2.2)
def RWi (ω : S_Wi) (ρ : S_Mo) (tn : Nat) (cl rl : List WI) : Prop :=
  cl.length ≤ 60 ∧ rl.length = cl.length ∧ ω.2.2.2.2.2 = nI cl.length ∧ ρ.2.2.2.2.2.2.2.2.2.2.1 = nI cl.length ∧
  (∀ i x, cl[i]? = some x → ω.1 i = x.1 ∧ ω.2.1 i = x.2.1 ∧ ω.2.2.1 i = x.2.2.1 ∧ ω.2.2.2.1 i = x.2.2.2.1 ∧ ω.2.2.2.2.1 i = x.2.2.2.2.1) ∧
  (∀ i x, rl[i]? = some x → ρ.2.2.2.2.2.2.2.2.2.1 (5 * i) = x.1 ∧ ρ.2.2.2.2.2.2.2.2.2.1 (5 * i + 1) = x.2.1 ∧ ρ.2.2.2.2.2.2.2.2.2.1 (5 * i + 2) = x.2.2.1 ∧ ρ.2.2.2.2.2.2.2.2.2.1 (5 * i + 3) = x.2.2.2.1 ∧ ρ.2.2.2.2.2.2.2.2.2.1 (5 * i + 4) = x.2.2.2.2.1) ∧
  cl.Pairwise lexlt ∧ rl.Pairwise (fun x y => x.2.2.2.2.2 < y.2.2.2.2.2) ∧ (∀ x, x ∈ cl ↔ x ∈ rl) ∧ ∀ x ∈ rl, (∃ p, p < 40 ∧ x.1 = nI p) ∧ (∃ t, t < tn ∧ x.2.1 = nI t)
def Rel (σ : S_Br) (ρ : S_Mo) : Prop := ∃ (tn hn bn : Nat) (cl rl : List WI), RTh σ.2.1 ρ tn ∧ RCa σ.1 ρ hn ∧ RBk σ.2.2.1 ρ tn bn ∧ RWi σ.2.2.2.1 ρ tn cl rl ∧ RPe σ.2.2.2.2.1 ρ ∧ RNo σ.2.2.2.2.2 ρ
-- single rows
theorem st2 {x : Int32} {s : Nat} (hs : s ≤ 4) (hx : x = nI s) : (2 ≤ x) ↔ ¬ (x = 0 ∨ x = 1) := by
  subst hx
  show nI 2 ≤ nI s ↔ ¬ (nI s = nI 0 ∨ nI s = nI 1)
  rw [nI_leI (by decide) (by omega), nI_eq (by omega) (by decide), nI_eq (by omega) (by decide)]
  omega
theorem kLv {b : S_Bk} {i : Nat} (hi : i ≤ 200) : kf_Bk_lives b (nI i) = some (if b.2.2.2.2.1 i = 0 ∨ b.2.2.2.2.1 i = 1 then 1 else 0) := by
  unfold kf_Bk_lives
  rw [gi (show i < 201 by omega) (by decide), iN_c (by omega)]
  by_cases h1 : b.2.2.2.2.1 i = 0
  · simp [h1]
  · by_cases h2 : b.2.2.2.2.1 i = 1
    · simp [h2]
    · simp [h1, h2]
theorem mLv {b : S_Bk} {ρ : S_Mo} {tn bn i : Nat} (hB : RBk b ρ tn bn) (h1 : 1 ≤ i) (h2 : i ≤ bn) : kf_Mo_lives ρ (nI i) = some (if b.2.2.2.2.1 i = 0 ∨ b.2.2.2.2.1 i = 1 then 1 else 0) := by
  have hi : i ≤ 200 := Nat.le_trans h2 hB.1
  unfold kf_Mo_lives
  rw [gb_4 hi, xb_4 hi, (hB.2.2.2.1 i hi).2.2.2.2.1]
  obtain ⟨s, hs, es⟩ := (hB.2.2.2.2 i h1 h2).2.2
  by_cases h : b.2.2.2.2.1 i = 0 ∨ b.2.2.2.2.1 i = 1
  · rw [if_neg (fun q => (st2 hs es).mp q h), if_pos h]
  · rw [if_pos ((st2 hs es).mpr h), if_neg h]
theorem kMe {b : S_Bk} {i : Nat} (hi : i ≤ 200) (f o : Int32) : kf_Bk_meets b (nI i) f o = some (if o ≤ b.2.2.1 i ∨ b.2.2.2.1 i ≤ f then 0 else 1) := by
  unfold kf_Bk_meets
  rw [gi (show i < 201 by omega) (by decide), iN_c (by omega)]
  by_cases h1 : o ≤ b.2.2.1 i
  · simp [h1]
  · by_cases h2 : b.2.2.2.1 i ≤ f
    · simp [h1, h2]
    · simp [h1, h2]
theorem mMe {b : S_Bk} {ρ : S_Mo} {tn bn i : Nat} (hB : RBk b ρ tn bn) (hi : i ≤ 200) (t f o : Int32) : kf_Mo_meets ρ (nI i) t f o = some (if b.2.1 i = t ∧ ¬ (o ≤ b.2.2.1 i ∨ b.2.2.2.1 i ≤ f) then 1 else 0) := by
  obtain ⟨e0, e1, e2, e3, e4, e5⟩ := hB.2.2.2.1 i hi
  unfold kf_Mo_meets
  rw [gb_1 hi, gb_2 hi, gb_3 hi, xb_1 hi, xb_2 hi, xb_3 hi, e1, e2, e3]
  by_cases h0 : b.2.1 i = t
  · by_cases h1 : o ≤ b.2.2.1 i
    · simp [h0, h1]
    · by_cases h2 : b.2.2.2.1 i ≤ f
      · simp [h0, h1, h2]
      · simp [h0, h1, h2]
  · simp [h0]
theorem FU_pos : ∃ n, FU = n + 1 ∧ 1000 < n := ⟨3999, rfl, by decide⟩
theorem FU_big : 1000 < FU := by decide
-- clashes
theorem mClash1 {b : S_Bk} {ρ : S_Mo} {tn bn : Nat} (hB : RBk b ρ tn bn) (t f o e : Int32) : ∀ (m i n : Nat), i + m = bn + 1 → m < n → kf_Mo_clashes_6 ρ t f o e n 1 (nI i) = some 1 := by
  have hL := hB.2.2.1; have hb := hB.1
  intro m
  induction m with
  | zero =>
    intro i n hi hn
    obtain ⟨n, rfl⟩ : ∃ k, n = k + 1 := ⟨n - 1, by omega⟩
    rw [kf_Mo_clashes_6_s, hL, if_pos (nI_lt (by omega) (by omega)), if_neg (by decide)]
  | succ m ih =>
    intro i n hi hn
    obtain ⟨n, rfl⟩ : ∃ k, n = k + 1 := ⟨n - 1, by omega⟩
    rw [kf_Mo_clashes_6_s, hL, if_neg (nI_nlt (by omega) (by omega)), if_neg (by decide), nI_1]
    exact ih (i + 1) n (by omega) (by omega)
theorem simTaken {b : S_Bk} {ρ : S_Mo} {tn bn : Nat} (hB : RBk b ρ tn bn) (t f o e : Int32) : ∀ (m i n n' : Nat), 1 ≤ i → i + m = bn + 1 → m < n → m < n' → ∃ r : Int32, kf_Bk_isTaken_3 b t f o e n (nI i) = some r ∧ kf_Mo_clashes_6 ρ t f o e n' 0 (nI i) = some r := by
  have hL := hB.2.2.1; have hb := hB.1; have hN := hB.2.1
  intro m
  induction m with
  | zero =>
    intro i n n' h1 hi hn hn'
    obtain ⟨n, rfl⟩ : ∃ k, n = k + 1 := ⟨n - 1, by omega⟩
    obtain ⟨n', rfl⟩ : ∃ k, n' = k + 1 := ⟨n' - 1, by omega⟩
    refine ⟨0, ?_, ?_⟩
    · rw [kf_Bk_isTaken_3_s, hN, if_pos (nI_lt (by omega) (by omega))]
    · rw [kf_Mo_clashes_6_s, hL, if_pos (nI_lt (by omega) (by omega)), if_neg (by decide)]
  | succ m ih =>
    intro i n n' h1 hi hn hn'
    obtain ⟨n, rfl⟩ : ∃ k, n = k + 1 := ⟨n - 1, by omega⟩
    obtain ⟨n', rfl⟩ : ∃ k, n' = k + 1 := ⟨n' - 1, by omega⟩
    obtain ⟨r, e1, e2⟩ := ih (i + 1) n n' (by omega) (by omega) (by omega) (by omega)
    have hi2 : i ≤ 200 := by omega
    have e3 := mClash1 hB t f o e m (i + 1) n' (by omega) (by omega)
    rw [kf_Bk_isTaken_3_s, kf_Mo_clashes_6_s, hL, hN, if_neg (nI_nlt (show i ≤ bn by omega) (by omega)), if_neg (nI_nlt (show i ≤ bn by omega) (by omega)), if_pos rfl, gi (show i < 201 by omega) (by decide), iN_c (by omega), kLv hi2, kMe hi2, mLv hB h1 (by omega), mMe hB hi2, nI_1, e1, e2, e3]
    simp only [Option.bind_some, ite10, ite01]
    by_cases c1 : nI i = e
    · exact ⟨r, by rw [if_pos c1], by rw [if_pos c1]⟩
    · by_cases c2 : b.2.2.2.2.1 i = 0 ∨ b.2.2.2.2.1 i = 1
      · by_cases c3 : b.2.1 i = t
        · by_cases c4 : o ≤ b.2.2.1 i ∨ b.2.2.2.1 i ≤ f
          · exact ⟨r, by simp [c1, c2, c3, c4], by simp [c1, c2, c3, c4]⟩
          · exact ⟨1, by simp [c1, c2, c3, c4], by simp [c1, c2, c3, c4]⟩
        · exact ⟨r, by simp [c1, c2, c3], by simp [c1, c2, c3]⟩
      · exact ⟨r, by simp [c1, c2], by simp [c1, c2]⟩
theorem simClash {b : S_Bk} {ρ : S_Mo} {tn bn : Nat} (hB : RBk b ρ tn bn) (t f o e : Int32) : ∃ r : Int32, kf_Bk_isTaken b t f o e = some r ∧ kf_Mo_clashes ρ t f o e = some r := by
  have hb := hB.1; have hF := FU_big
  exact simTaken hB t f o e bn 1 FU FU (by omega) (by omega) (by omega) (by omega)
