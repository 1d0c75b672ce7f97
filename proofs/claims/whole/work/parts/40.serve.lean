/-- what stays while wishes are served -/
def FR (σ σ' : S_Br) (ρ ρ' : S_Mo) (bn bn' : Nat) : Prop :=
  σ'.2.1 = σ.2.1 ∧ σ'.2.2.2.2.2 = σ.2.2.2.2.2 ∧ σ'.2.2.1.2.2.2.2.2.2.2.1 = σ.2.2.1.2.2.2.2.2.2.2.1 ∧ σ'.2.2.1.2.2.2.2.2.2.2.2 = σ.2.2.1.2.2.2.2.2.2.2.2 ∧ ρ'.2.2.2.2.2.2.2.2.2.2.2.2.2.1 = ρ.2.2.2.2.2.2.2.2.2.2.2.2.2.1 ∧ bn ≤ bn' ∧ (∀ i, i ≤ bn → σ'.2.2.1.2.2.1 i = σ.2.2.1.2.2.1 i ∧ σ'.2.2.1.1 i = σ.2.2.1.1 i ∧ σ'.2.2.1.2.1 i = σ.2.2.1.2.1 i) ∧ (∀ i, bn < i → i ≤ bn' → ∃ f' w : Nat, σ'.2.2.1.2.2.1 i = nI f' ∧ f' ≤ 1000000 ∧ σ.2.2.2.2.2 = nI w ∧ w ≤ f')
theorem FR.rf (σ : S_Br) (ρ : S_Mo) (bn : Nat) : FR σ σ ρ ρ bn bn := ⟨rfl, rfl, rfl, rfl, rfl, Nat.le_refl _, fun _ _ => ⟨rfl, rfl, rfl⟩, fun i h1 h2 => by omega⟩
theorem FR.tr {σ σ' σ'' : S_Br} {ρ ρ' ρ'' : S_Mo} {bn bn' bn'' : Nat} (h : FR σ σ' ρ ρ' bn bn') (g : FR σ' σ'' ρ' ρ'' bn' bn'') : FR σ σ'' ρ ρ'' bn bn'' := by
  obtain ⟨a1, a2, a3, a4, a5, a6, a7, a8⟩ := h
  obtain ⟨b1, b2, b3, b4, b5, b6, b7, b8⟩ := g
  refine ⟨b1.trans a1, b2.trans a2, b3.trans a3, b4.trans a4, b5.trans a5, by omega, fun i hi => ?_, fun i h1 h2 => ?_⟩
  · obtain ⟨x1, x2, x3⟩ := a7 i hi
    obtain ⟨y1, y2, y3⟩ := b7 i (by omega)
    exact ⟨y1.trans x1, y2.trans x2, y3.trans x3⟩
  · rcases Nat.lt_or_ge bn' i with c | c
    · obtain ⟨f', w, z1, z2, z3, z4⟩ := b8 i c h2
      exact ⟨f', w, z1, z2, a2 ▸ z3, z4⟩
    · obtain ⟨f', w, z1, z2, z3, z4⟩ := a8 i h1 c
      exact ⟨f', w, (b7 i c).1.trans z1, z2, z3, z4⟩
def R6 (σ : S_Br) (ρ : S_Mo) (tn hn bn : Nat) (cl rl : List WI) : Prop := RTh σ.2.1 ρ tn ∧ RCa σ.1 ρ hn ∧ RBk σ.2.2.1 ρ tn bn ∧ RWi σ.2.2.2.1 ρ tn cl rl ∧ RPe σ.2.2.2.2.1 ρ ∧ RNo σ.2.2.2.2.2 ρ
def LK (ρ : S_Mo) (rl pre : List WI) (th : Int32) : Prop := ∀ k x, rl[k]? = some x → (ρ.2.2.2.2.2.2.2.2.2.2.2.2.2.2 k = 0 ∨ ρ.2.2.2.2.2.2.2.2.2.2.2.2.2.2 k = 1) ∧ (ρ.2.2.2.2.2.2.2.2.2.2.2.2.2.2 k = 1 ↔ (x ∈ pre ∧ x.2.1 = th))
theorem rlIdx {rl : List WI} (h : rl.Pairwise (fun x y => x.2.2.2.2.2 < y.2.2.2.2.2)) {i j : Nat} {x y : WI} (hi : rl[i]? = some x) (hj : rl[j]? = some y) (hid : x.2.2.2.2.2 < y.2.2.2.2.2) : i < j := by
  obtain ⟨hi1, rfl⟩ := List.getElem?_eq_some_iff.mp hi
  obtain ⟨hj1, rfl⟩ := List.getElem?_eq_some_iff.mp hj
  rcases Nat.lt_trichotomy i j with c | c | c
  · exact c
  · subst c; exact absurd hid (Nat.lt_irrefl _)
  · have := List.pairwise_iff_getElem.mp h j i hj1 hi1 c
    omega
/-- the reference's next wish: the first of the rest that is for this thing -/
theorem nextIs {ω : S_Wi} {ρ : S_Mo} {tn : Nat} {pre rest rl : List WI} {y : WI} {th : Int32} (hW : RWi ω ρ tn (pre ++ y :: rest) rl) (hK : LK ρ rl pre th) (hy : y.2.1 = th) : ∃ k, k < rl.length ∧ rl[k]? = some y ∧ kf_Mo_nextWish ρ th = some (nI k) := by
  obtain ⟨w1, w2, w3, w4, w5, w6, w7, w8, w9, w10⟩ := hW
  obtain ⟨r, e1, e2⟩ := mNext (L := rl.length) (by omega) (by rw [w4, w2]) th
  have hyr : y ∈ rl := (w9 y).mp (by simp)
  obtain ⟨k, hk⟩ := List.mem_iff_getElem?.mp hyr
  have hkl : k < rl.length := (List.getElem?_eq_some_iff.mp hk).1
  have hpw := (List.pairwise_append.mp w7)
  have hyp : y ∉ pre := fun q => lexne (hpw.2.2 y q y (by simp)) rfl
  have candY : ρ.2.2.2.2.2.2.2.2.2.2.2.2.2.2 k = 0 ∧ ρ.2.2.2.2.2.2.2.2.2.1 (5 * k + 1) = th := by
    refine ⟨?_, ((w6 k y hk).2.1).trans hy⟩
    rcases (hK k y hk).1 with q | q
    · exact q
    · exact absurd ((hK k y hk).2.mp q).1 hyp
  rcases e2 with ⟨-, h2⟩ | ⟨k0, h1, h2, h3, h4⟩
  · exact absurd candY (h2 k hkl)
  · refine ⟨k, hkl, hk, ?_⟩
    rw [e1, h2]
    by_cases c : k0 = k
    · rw [c]
    exfalso
    obtain ⟨z, hz⟩ : ∃ z, rl[k0]? = some z := ⟨_, List.getElem?_eq_getElem h1⟩
    have hzt : z.2.1 = th := ((w6 k0 z hz).2.1).symm.trans h3.2
    have hzc : z ∈ pre ++ y :: rest := (w9 z).mpr (List.mem_of_getElem? hz)
    have hzp : z ∉ pre := fun q => by
      have := (hK k0 z hz).2.mpr ⟨q, hzt⟩
      rw [h3.1] at this; exact absurd this (by decide)
    have hzr : z ∈ y :: rest := (List.mem_append.mp hzc).resolve_left hzp
    have hzy : z ≠ y := fun q => by
      subst q
      obtain ⟨a1, a2⟩ := List.getElem?_eq_some_iff.mp hz
      obtain ⟨b1, b2⟩ := List.getElem?_eq_some_iff.mp hk
      rcases Nat.lt_trichotomy k0 k with d | d | d
      · have := List.pairwise_iff_getElem.mp w8 k0 k a1 b1 d
        rw [a2, b2] at this; exact Nat.lt_irrefl _ this
      · exact c d
      · have := List.pairwise_iff_getElem.mp w8 k k0 b1 a1 d
        rw [a2, b2] at this; exact Nat.lt_irrefl _ this
    have hzr2 : z ∈ rest := (List.mem_cons.mp hzr).resolve_left hzy
    have hlex := (List.pairwise_cons.mp hpw.2.1).1 z hzr2
    obtain ⟨g1, g2⟩ := h4 k hkl candY
    rw [(w6 k0 z hz).2.2.2.2, (w6 k y hk).2.2.2.2] at g1 g2
    rcases hlex with q | ⟨q1, q2⟩
    · exact Int32.not_le.mpr q g1
    · have := g2 (rlIdx w8 hk hz q2)
      rw [q1] at this
      exact Int32.lt_irrefl this
theorem nextNo {ω : S_Wi} {ρ : S_Mo} {tn : Nat} {pre rl : List WI} {th : Int32} (hW : RWi ω ρ tn pre rl) (hK : LK ρ rl pre th) : kf_Mo_nextWish ρ th = some (-1) := by
  obtain ⟨w1, w2, w3, w4, w5, w6, w7, w8, w9, w10⟩ := hW
  obtain ⟨r, e1, e2⟩ := mNext (L := rl.length) (by omega) (by rw [w4, w2]) th
  rcases e2 with ⟨h1, -⟩ | ⟨k0, h1, h2, h3, h4⟩
  · rw [e1, h1]
  · exfalso
    obtain ⟨z, hz⟩ : ∃ z, rl[k0]? = some z := ⟨_, List.getElem?_eq_getElem h1⟩
    have hzt : z.2.1 = th := ((w6 k0 z hz).2.1).symm.trans h3.2
    have := (hK k0 z hz).2.mpr ⟨(w9 z).mpr (List.mem_of_getElem? hz), hzt⟩
    rw [h3.1] at this; exact absurd this (by decide)
/-- a wish is taken out on both sides -/
theorem wDrop {ω : S_Wi} {ρ : S_Mo} {tn k : Nat} {pre rest rl : List WI} {y : WI} {th : Int32} (hW : RWi ω ρ tn (pre ++ y :: rest) rl) (hK : LK ρ rl pre th) (hk : rl[k]? = some y) :
    ∃ (ω' : S_Wi) (W' O' : A32), kf_Wi_removeAt ω (nI pre.length) = some ω' ∧ kf_Mo_dropWish ρ (nI k) = some (mWs ρ ρ.1 W' (nI (pre ++ rest).length) O') ∧ RWi ω' (mWs ρ ρ.1 W' (nI (pre ++ rest).length) O') tn (pre ++ rest) (rl.eraseIdx k) ∧ LK (mWs ρ ρ.1 W' (nI (pre ++ rest).length) O') (rl.eraseIdx k) pre th := by
  obtain ⟨w1, w2, w3, w4, w5, w6, w7, w8, w9, w10⟩ := hW
  have hkl : k < rl.length := (List.getElem?_eq_some_iff.mp hk).1
  have hlen : (pre ++ y :: rest).length = (pre ++ rest).length + 1 := by simp only [List.length_append, List.length_cons]; omega
  have her : (pre ++ y :: rest).eraseIdx pre.length = pre ++ rest := by
    rw [List.eraseIdx_append_of_length_le (Nat.le_refl _), Nat.sub_self, List.eraseIdx_cons_zero]
  obtain ⟨ω', q1, q2, q3⟩ := kRem (ω := ω) (l := pre ++ y :: rest) (a := pre.length) (by simp only [List.length_append, List.length_cons]; omega) w1 w3 w5
  obtain ⟨W', O', z1, z2, z3⟩ := mDrop (ρ := ρ) (l := rl) hkl (by omega) (by rw [w4, w2]) w6 (fun j hj => (hK j _ (List.getElem?_eq_getElem hj)).1)
  rw [her] at q3
  have hl2 : rl.length - 1 = (pre ++ rest).length := by omega
  have hl3 : (pre ++ y :: rest).length - 1 = (pre ++ rest).length := by omega
  rw [hl2] at z1 z3
  rw [hl3] at q2
  have hsub : (pre ++ rest).Sublist (pre ++ y :: rest) := (List.Sublist.refl pre).append (List.sublist_cons_self y rest)
  have hne : ∀ {x : WI}, x ∈ rl.eraseIdx k ↔ x ∈ rl ∧ x ≠ y := by
    intro x
    rw [List.mem_eraseIdx_iff_getElem?]
    constructor
    · rintro ⟨i, hi, hx⟩
      refine ⟨List.mem_of_getElem? hx, fun e => ?_⟩
      subst e
      obtain ⟨a1, a2⟩ := List.getElem?_eq_some_iff.mp hx
      obtain ⟨b1, b2⟩ := List.getElem?_eq_some_iff.mp hk
      rcases Nat.lt_trichotomy i k with d | d | d
      · have := List.pairwise_iff_getElem.mp w8 i k a1 b1 d
        rw [a2, b2] at this; exact Nat.lt_irrefl _ this
      · exact hi d
      · have := List.pairwise_iff_getElem.mp w8 k i b1 a1 d
        rw [a2, b2] at this; exact Nat.lt_irrefl _ this
    · rintro ⟨hx, e⟩
      obtain ⟨i, hi⟩ := List.mem_iff_getElem?.mp hx
      refine ⟨i, fun q => e ?_, hi⟩
      subst q
      rw [hk] at hi; cases hi; rfl
  have hpw := (List.pairwise_append.mp w7)
  have hyp : y ∉ pre := fun q => lexne (hpw.2.2 y q y (by simp)) rfl
  have hyr : y ∉ rest := fun q => lexne ((List.pairwise_cons.mp hpw.2.1).1 y q) rfl
  refine ⟨ω', W', O', q1, z1, ⟨by omega, ?_, q2, rfl, q3, z2, w7.sublist hsub, w8.sublist (List.eraseIdx_sublist _ _), fun x => ?_, fun x hx => w10 x (hne.mp hx).1⟩, fun j x hx => ?_⟩
  · rw [List.length_eraseIdx, if_pos hkl]; omega
  · rw [hne, ← w9 x]
    simp only [List.mem_append, List.mem_cons]
    constructor
    · rintro (q | q)
      · exact ⟨Or.inl q, fun e => hyp (e ▸ q)⟩
      · exact ⟨Or.inr (Or.inr q), fun e => hyr (e ▸ q)⟩
    · rintro ⟨q | q | q, e⟩
      · exact Or.inl q
      · exact absurd q e
      · exact Or.inr q
  · have hj : j < (rl.eraseIdx k).length := (List.getElem?_eq_some_iff.mp hx).1
    rw [List.length_eraseIdx, if_pos hkl] at hj
    show (O' j = 0 ∨ O' j = 1) ∧ (O' j = 1 ↔ _)
    rw [z3 j (by omega)]
    rw [erLk] at hx
    by_cases c : j < k
    · rw [if_pos c] at hx ⊢; exact hK j x hx
    · rw [if_neg c] at hx ⊢; exact hK (j + 1) x hx
theorem kW5 {ω : S_Wi} {i : Nat} (hi : i < 60) : kf_Wi_thingOf ω (nI i) = some (ω.2.1 i) ∧ kf_Wi_personOf ω (nI i) = some (ω.1 i) ∧ kf_Wi_fromOf ω (nI i) = some (ω.2.2.1 i) ∧ kf_Wi_toOf ω (nI i) = some (ω.2.2.2.1 i) := by
  unfold kf_Wi_thingOf kf_Wi_personOf kf_Wi_fromOf kf_Wi_toOf
  rw [gi hi (by decide), gi hi (by decide), gi hi (by decide), gi hi (by decide), iN_c (by omega)]
  exact ⟨rfl, rfl, rfl, rfl⟩
theorem simServe {tn hn th : Nat} (hth : th < tn) : ∀ (rest pre : List WI) (n n' c : Nat) (σ : S_Br) (ρ : S_Mo) (bn : Nat) (rl : List WI), R6 σ ρ tn hn bn (pre ++ rest) rl → LK ρ rl pre (nI th) → rest.length < n → rest.length < n' →
    ∃ (c' : Nat) (σ' : S_Br) (ρ' : S_Mo) (bn' : Nat) (cl' rl' : List WI), kf_Br_serveWishes_13 (nI th) n (nI c) (nI pre.length) (nI rest.length) σ = some (nI c', σ') ∧ kf_Mo_grants_133 (nI th) (kf_Mo_grants_29 (nI th) n') (nI c) ρ = some (nI c', ρ') ∧ R6 σ' ρ' tn hn bn' cl' rl' ∧ FR σ σ' ρ ρ' bn bn' ∧ c' ≤ c + rest.length := by
  intro rest
  induction rest with
  | nil =>
    intro pre n n' c σ ρ bn rl h6 hK hn1 hn2
    obtain ⟨n, rfl⟩ : ∃ k, n = k + 1 := ⟨n - 1, by omega⟩
    obtain ⟨n', rfl⟩ : ∃ k, n' = k + 1 := ⟨n' - 1, by omega⟩
    have h6' := h6
    rw [List.append_nil] at h6'
    refine ⟨c, σ, ρ, bn, pre, rl, ?_, ?_, h6', FR.rf _ _ _, by omega⟩
    · rw [kf_Br_serveWishes_13_s, if_pos (show nI ([] : List WI).length ≤ 0 by decide)]
    · unfold kf_Mo_grants_133
      rw [nextNo h6'.2.2.2.1 hK, Option.bind_some, kf_Mo_grants_29_s, if_pos rfl]
  | cons y rest ih =>
    intro pre n n' c σ ρ bn rl h6 hK hn1 hn2
    obtain ⟨n, rfl⟩ : ∃ k, n = k + 1 := ⟨n - 1, by omega⟩
    obtain ⟨n', rfl⟩ : ∃ k, n' = k + 1 := ⟨n' - 1, by omega⟩
    obtain ⟨hT, hC, hB, hW, hP, hN⟩ := id h6
    have hlen : pre.length + (rest.length + 1) ≤ 60 := by have := hW.1; simp only [List.length_append, List.length_cons] at this; omega
    have hat : (pre ++ y :: rest)[pre.length]? = some y := by rw [List.getElem?_append_right (Nat.le_refl _), Nat.sub_self]; rfl
    have happ : (pre ++ [y]) ++ rest = pre ++ y :: rest := by rw [List.append_assoc]; rfl
    have hapl : (pre ++ [y]).length = pre.length + 1 := by rw [List.length_append]; rfl
    obtain ⟨y1, y2, y3, y4, y5⟩ := hW.2.2.2.2.1 _ _ hat
    obtain ⟨k1, k2, k3, k4⟩ := kW5 (ω := σ.2.2.2.1) (show pre.length < 60 by omega)
    simp only [List.length_cons] at hn1 hn2 ⊢
    rw [kf_Br_serveWishes_13_s, if_neg (nI_nle (by omega) (by omega)), k1, k2, k3, k4, y1, y2, y3, y4, nI_1 pre.length, pk_m1]
    simp only [Option.bind_some]
    by_cases cT : y.2.1 = nI th
    case neg =>
      rw [if_neg cT]
      obtain ⟨c', σ', ρ', bn', cl', rl', q1, q2, q3, q4, q5⟩ := ih (pre ++ [y]) n (n' + 1) c σ ρ bn rl (by rw [happ]; exact h6) (fun k x hx => by
        refine ⟨(hK k x hx).1, (hK k x hx).2.trans ⟨fun q => ⟨List.mem_append_left _ q.1, q.2⟩, fun q => ⟨?_, q.2⟩⟩⟩
        rcases List.mem_append.mp q.1 with z | z
        · exact z
        · rw [List.mem_singleton] at z
          subst z; exact absurd q.2 cT) (by omega) (by omega)
      rw [hapl] at q1
      exact ⟨c', σ', ρ', bn', cl', rl', q1, q2, q3, q4, by omega⟩
    rw [if_pos cT]
    obtain ⟨k, hkl, hk, hnx⟩ := nextIs hW hK cT
    have hk60 : k < 60 := by have := hW.2.1; simp only [List.length_append, List.length_cons] at this; omega
    obtain ⟨v1, v2, v3, v4, v5⟩ := hW.2.2.2.2.2.1 k y hk
    obtain ⟨⟨p, hp, ep⟩, -⟩ := hW.2.2.2.2.2.2.2.2.2 y (List.mem_of_getElem? hk)
    have hyp : y ∉ pre := fun q => lexne ((List.pairwise_append.mp hW.2.2.2.2.2.2.1).2.2 y q y (by simp)) rfl
    -- the wish stays, and is looked at
    have stay : ∀ (m : Int32), ∃ (c' : Nat) (σ' : S_Br) (ρ' : S_Mo) (bn' : Nat) (cl' rl' : List WI), kf_Br_serveWishes_13 (nI th) n (nI c) (nI (pre.length + 1)) (nI rest.length) σ = some (nI c', σ') ∧ kf_Mo_grants_126 (nI th) (kf_Mo_grants_29 (nI th) n') (nI c) (nI k) ρ = some (nI c', ρ') ∧ R6 σ' ρ' tn hn bn' cl' rl' ∧ FR σ σ' ρ ρ' bn bn' ∧ c' ≤ c + (rest.length + 1) := by
      intro _
      have hLK : LK (mWs ρ ρ.1 ρ.2.2.2.2.2.2.2.2.2.1 ρ.2.2.2.2.2.2.2.2.2.2.1 (upd ρ.2.2.2.2.2.2.2.2.2.2.2.2.2.2 k (vp_nar .boolean 1))) rl (pre ++ [y]) (nI th) := by
        intro j x hx
        show (upd ρ.2.2.2.2.2.2.2.2.2.2.2.2.2.2 k (vp_nar .boolean 1) j = 0 ∨ upd ρ.2.2.2.2.2.2.2.2.2.2.2.2.2.2 k (vp_nar .boolean 1) j = 1) ∧ (upd ρ.2.2.2.2.2.2.2.2.2.2.2.2.2.2 k (vp_nar .boolean 1) j = 1 ↔ _)
        by_cases cj : j = k
        · subst cj
          rw [hk] at hx; cases hx
          rw [pk_us, vpn (Or.inr rfl)]
          exact ⟨Or.inr rfl, fun _ => ⟨by simp, cT⟩, fun _ => rfl⟩
        · rw [pk_un cj]
          refine ⟨(hK j x hx).1, (hK j x hx).2.trans ⟨fun q => ⟨List.mem_append_left _ q.1, q.2⟩, fun q => ⟨?_, q.2⟩⟩⟩
          rcases List.mem_append.mp q.1 with z | z
          · exact z
          · rw [List.mem_singleton] at z
            subst z
            obtain ⟨a1, a2⟩ := List.getElem?_eq_some_iff.mp hx
            obtain ⟨b1, b2⟩ := List.getElem?_eq_some_iff.mp hk
            exfalso
            rcases Nat.lt_trichotomy j k with d | d | d
            · have := List.pairwise_iff_getElem.mp hW.2.2.2.2.2.2.2.1 j k a1 b1 d
              rw [a2, b2] at this; exact Nat.lt_irrefl _ this
            · exact cj d
            · have := List.pairwise_iff_getElem.mp hW.2.2.2.2.2.2.2.1 k j b1 a1 d
              rw [a2, b2] at this; exact Nat.lt_irrefl _ this
      obtain ⟨c', σ', ρ', bn', cl', rl', q1, q2, q3, q4, q5⟩ := ih (pre ++ [y]) n n' c σ (mWs ρ ρ.1 ρ.2.2.2.2.2.2.2.2.2.1 ρ.2.2.2.2.2.2.2.2.2.2.1 (upd ρ.2.2.2.2.2.2.2.2.2.2.2.2.2.2 k (vp_nar .boolean 1))) bn rl (by rw [happ]; exact h6) hLK (by omega) (by omega)
      rw [hapl] at q1
      refine ⟨c', σ', ρ', bn', cl', rl', q1, ?_, q3, q4, by omega⟩
      unfold kf_Mo_grants_126
      rw [gi (show k < 61 by omega) (by decide), iN_c (show k < 2 ^ 31 by omega)]
      exact q2
    have hg : kf_Mo_grants_133 (nI th) (kf_Mo_grants_29 (nI th) (n' + 1)) (nI c) ρ = kf_Mo_grants_29 (nI th) (n' + 1) (nI c) (nI k) ρ := by
      unfold kf_Mo_grants_133; rw [hnx, Option.bind_some]
    rw [hg, kf_Mo_grants_29_s, if_neg (nIneg (by omega) (by decide)), gw_0 hk60, gw_2 hk60, gw_3 hk60, xw_0 hk60, xw_2 hk60, xw_3 hk60, v1, v3, v4, ep]
    rcases simTry hT hC hB hP hN hp hth (y.2.2.1) (y.2.2.2.1) with ⟨e, q⟩ | ⟨e, r, m1, m2, m3⟩ | ⟨e, m1, b', B', m2, m3, m4, m5, m6, m7, m8⟩
    · rw [q, Option.bind_some, if_pos (show (0 : Int32) ≤ 0 by decide), if_pos (show (200 : Int32) ≤ ρ.2.2.2.2.2.2.2.2.1 by rw [hB.2.2.1, e]; decide)]
      exact stay 0
    · rw [m3, m1, Option.bind_some, Option.bind_some, if_pos (ng0 m2).2.2, if_neg (ng0 m2).2.1, if_neg (show ¬ (200 : Int32) ≤ ρ.2.2.2.2.2.2.2.2.1 by rw [hB.2.2.1]; exact nI_ge (b := 200) e (by decide))]
      exact stay 0
    · obtain ⟨ω', W', O', d1, d2, d3, d4⟩ := wDrop (ρ := mB ρ B' (nI (bn + 1))) (th := nI th) hW hK hk
      rw [m2, m1, Option.bind_some, Option.bind_some, if_neg (nI_nle (by omega) (by omega)), if_neg (show ¬ (200 : Int32) ≤ ρ.2.2.2.2.2.2.2.2.1 by rw [hB.2.2.1]; exact nI_ge (b := 200) e (by decide)), if_pos rfl, m3, Option.bind_some]
      show ∃ (c' : Nat) (σ' : S_Br) (ρ' : S_Mo) (bn' : Nat) (cl' rl' : List WI), (kf_Wi_removeAt σ.2.2.2.1 (nI pre.length)).bind _ = _ ∧ _
      rw [d1, d2, Option.bind_some, Option.bind_some, nI_1 c]
      obtain ⟨c', σ', ρ', bn', cl', rl', q1, q2, q3, q4, q5⟩ := ih pre n n' (c + 1) (σ.1, σ.2.1, b', ω', σ.2.2.2.2.1, σ.2.2.2.2.2) (mWs (mB ρ B' (nI (bn + 1))) ρ.1 W' (nI (pre ++ rest).length) O') (bn + 1) (rl.eraseIdx k) ⟨hT, hC, m4, d3, hP, hN⟩ d4 (by omega) (by omega)
      refine ⟨c', σ', ρ', bn', cl', rl', q1, q2, q3, FR.tr (σ' := (σ.1, σ.2.1, b', ω', σ.2.2.2.2.1, σ.2.2.2.2.2)) (ρ' := mWs (mB ρ B' (nI (bn + 1))) ρ.1 W' (nI (pre ++ rest).length) O') (bn' := bn + 1) ⟨rfl, rfl, m5, m6, rfl, by omega, m7, fun i h1 h2 => ?_⟩ q4, by omega⟩
      have : i = bn + 1 := by omega
      subst this
      exact m8
theorem resetL {th : Int32} : ∀ (m i n : Nat) (τ : S_Mo), i + m = 60 → m < n → (∀ k, k < i → τ.2.2.2.2.2.2.2.2.2.2.2.2.2.2 k = 0) → ∃ O' : A32, (∀ k, k < 60 → O' k = 0) ∧ kf_Mo_grants_2 th n (nI i) τ = kf_Mo_grants_133 th (kf_Mo_grants_29 th FU) 0 (mWs τ τ.1 τ.2.2.2.2.2.2.2.2.2.1 τ.2.2.2.2.2.2.2.2.2.2.1 O') := by
  intro m
  induction m with
  | zero =>
    intro i n τ hi hn h
    obtain ⟨n, rfl⟩ : ∃ k, n = k + 1 := ⟨n - 1, by omega⟩
    refine ⟨τ.2.2.2.2.2.2.2.2.2.2.2.2.2.2, fun k hk => h k (by omega), ?_⟩
    rw [kf_Mo_grants_2_s, if_pos (show (60 : Int32) ≤ nI i from nI_le (a := 60) (by omega) (by omega))]; rfl
  | succ m ih =>
    intro i n τ hi hn h
    obtain ⟨n, rfl⟩ : ∃ k, n = k + 1 := ⟨n - 1, by omega⟩
    rw [kf_Mo_grants_2_s, if_neg (show ¬ (60 : Int32) ≤ nI i from nI_ge (b := 60) (by omega) (by decide)), gi (show i < 61 by omega) (by decide), iN_c (by omega), nI_1]
    exact ih (i + 1) n (mWs τ τ.1 τ.2.2.2.2.2.2.2.2.2.1 τ.2.2.2.2.2.2.2.2.2.2.1 (upd τ.2.2.2.2.2.2.2.2.2.2.2.2.2.2 i (vp_nar .boolean 0))) (by omega) (by omega) (fun k hk => by
      by_cases c : k = i
      · subst c; exact pk_us.trans (vpn (Or.inl rfl))
      · exact (pk_un c).trans (h k (by omega)))
theorem simGrants {σ : S_Br} {ρ : S_Mo} {tn hn bn th : Nat} {cl rl : List WI} (hth : th < tn) (h6 : R6 σ ρ tn hn bn cl rl) :
    ∃ (c' : Nat) (σ' : S_Br) (ρ' : S_Mo) (bn' : Nat) (cl' rl' : List WI), kf_Br_serveWishes σ (nI th) = some (nI c', σ') ∧ kf_Mo_grants ρ (nI th) = some (nI c', ρ') ∧ R6 σ' ρ' tn hn bn' cl' rl' ∧ FR σ σ' ρ ρ' bn bn' ∧ c' ≤ 60 := by
  have hF := FU_big
  obtain ⟨hT, hC, hB, hW, hP, hN⟩ := id h6
  have hl1 := hW.1
  obtain ⟨O', z1, z2⟩ := resetL (th := nI th) 60 0 FU ρ (by omega) (by omega) (fun k hk => by omega)
  obtain ⟨c', σ', ρ', bn', cl', rl', q1, q2, q3, q4, q5⟩ := simServe (hn := hn) hth cl [] FU FU 0 σ (mWs ρ ρ.1 ρ.2.2.2.2.2.2.2.2.2.1 ρ.2.2.2.2.2.2.2.2.2.2.1 O') bn rl h6 (fun k x hx => by
    have hk : k < rl.length := (List.getElem?_eq_some_iff.mp hx).1
    have e : O' k = 0 := z1 k (by have := hW.2.1; omega)
    show (O' k = 0 ∨ O' k = 1) ∧ (O' k = 1 ↔ _)
    rw [e]
    exact ⟨Or.inl rfl, fun q => absurd q (by decide), fun q => absurd q.1 List.not_mem_nil⟩) (by omega) (by omega)
  refine ⟨c', σ', ρ', bn', cl', rl', ?_, ?_, q3, q4, by omega⟩
  · unfold kf_Br_serveWishes kf_Wi_size
    rw [Option.bind_some, hW.2.2.1]
    exact q1
  · unfold kf_Mo_grants
    exact z2.trans q2
