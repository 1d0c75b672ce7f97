theorem lkIns (l : List WI) (x : WI) (a : Nat) (ha : a ≤ l.length) (i : Nat) : (l.take a ++ x :: l.drop a)[i]? = if i < a then l[i]? else if i = a then some x else l[i - 1]? := by
  by_cases h1 : i < a
  · rw [List.getElem?_append_left (by rw [List.length_take]; omega), List.getElem?_take, if_pos h1, if_pos h1]
  · rw [List.getElem?_append_right (by rw [List.length_take]; omega), List.length_take, Nat.min_eq_left ha, if_neg h1]
    by_cases h2 : i = a
    · subst h2
      rw [if_pos rfl, Nat.sub_self]; rfl
    · rw [if_neg h2, show i - a = (i - 1 - a) + 1 by omega, List.getElem?_cons_succ, List.getElem?_drop]
      congr 1; omega
def repW (ω : S_Wi) (i : Nat) (x : WI) : Prop := ω.1 i = x.1 ∧ ω.2.1 i = x.2.1 ∧ ω.2.2.1 i = x.2.2.1 ∧ ω.2.2.2.1 i = x.2.2.2.1 ∧ ω.2.2.2.2.1 i = x.2.2.2.2.1
theorem kMv {τ : S_Wi} {i j : Nat} (hi : i < 60) (hj : j < 60) : kf_Wi_move τ (nI i) (nI j) = some (upd τ.1 j (τ.1 i), upd τ.2.1 j (τ.2.1 i), upd τ.2.2.1 j (τ.2.2.1 i), upd τ.2.2.2.1 j (τ.2.2.2.1 i), upd τ.2.2.2.2.1 j (τ.2.2.2.2.1 i), τ.2.2.2.2.2) := by
  unfold kf_Wi_move
  rw [gi hi (by decide), gi hj (by decide), iN_c (by omega), iN_c (by omega)]
theorem kA41 {τ : S_Wi} {a L : Nat} (ha : a < 60) (hN : τ.2.2.2.2.2 = nI L) (p1 p2 p3 p4 p5 : Int32) : kf_Wi_add_41 p1 p2 p3 p4 p5 (nI a) τ = some (nI (L + 1), (upd τ.1 a p1, upd τ.2.1 a p2, upd τ.2.2.1 a p3, upd τ.2.2.2.1 a p4, upd τ.2.2.2.2.1 a p5, nI (L + 1))) := by
  unfold kf_Wi_add_41
  rw [gi ha (by decide), iN_c (by omega), hN, nI_1]
theorem insLoop {cl : List WI} {p1 p2 p3 p4 p5 : Int32} (hlen : cl.length < 60) : ∀ (a n : Nat) (τ : S_Wi), a ≤ cl.length → a < n → τ.2.2.2.2.2 = nI cl.length → (∀ i x, cl[i]? = some x → i < a → repW τ i x) → (∀ i x, cl[i]? = some x → a ≤ i → repW τ (i + 1) x ∧ p5 < x.2.2.2.2.1) →
    ∃ (a' : Nat) (ω' : S_Wi), kf_Wi_add_6 p1 p2 p3 p4 p5 n (nI a) τ = some (nI (cl.length + 1), ω') ∧ ω'.2.2.2.2.2 = nI (cl.length + 1) ∧ a' ≤ cl.length ∧ (∀ i x, cl[i]? = some x → i < a' → repW ω' i x) ∧ (∀ i x, cl[i]? = some x → a' ≤ i → repW ω' (i + 1) x ∧ p5 < x.2.2.2.2.1) ∧ (ω'.1 a' = p1 ∧ ω'.2.1 a' = p2 ∧ ω'.2.2.1 a' = p3 ∧ ω'.2.2.2.1 a' = p4 ∧ ω'.2.2.2.2.1 a' = p5) ∧ (∀ y, a' ≠ 0 → cl[a' - 1]? = some y → y.2.2.2.2.1 ≤ p5) := by
  have fin : ∀ (a : Nat) (τ : S_Wi), a ≤ cl.length → (∀ i x, cl[i]? = some x → i < a → repW τ i x) → (∀ i x, cl[i]? = some x → a ≤ i → repW τ (i + 1) x ∧ p5 < x.2.2.2.2.1) →
      (∀ i x, cl[i]? = some x → i < a → repW (upd τ.1 a p1, upd τ.2.1 a p2, upd τ.2.2.1 a p3, upd τ.2.2.2.1 a p4, upd τ.2.2.2.2.1 a p5, nI (cl.length + 1)) i x) ∧ (∀ i x, cl[i]? = some x → a ≤ i → repW (upd τ.1 a p1, upd τ.2.1 a p2, upd τ.2.2.1 a p3, upd τ.2.2.2.1 a p4, upd τ.2.2.2.2.1 a p5, nI (cl.length + 1)) (i + 1) x ∧ p5 < x.2.2.2.2.1) := by
    intro a τ ha h1 h2
    refine ⟨fun i x hx hi => ?_, fun i x hx hi => ?_⟩
    · obtain ⟨z1, z2, z3, z4, z5⟩ := h1 i x hx hi
      exact ⟨(pk_un (by omega)).trans z1, (pk_un (by omega)).trans z2, (pk_un (by omega)).trans z3, (pk_un (by omega)).trans z4, (pk_un (by omega)).trans z5⟩
    · obtain ⟨⟨z1, z2, z3, z4, z5⟩, z6⟩ := h2 i x hx hi
      exact ⟨⟨(pk_un (by omega)).trans z1, (pk_un (by omega)).trans z2, (pk_un (by omega)).trans z3, (pk_un (by omega)).trans z4, (pk_un (by omega)).trans z5⟩, z6⟩
  intro a
  induction a with
  | zero =>
    intro n τ ha hn hN h1 h2
    obtain ⟨n, rfl⟩ : ∃ k, n = k + 1 := ⟨n - 1, by omega⟩
    obtain ⟨f1, f2⟩ := fin 0 τ ha h1 h2
    refine ⟨0, _, ?_, rfl, by omega, f1, f2, ⟨show upd τ.1 0 p1 0 = p1 from pk_us, show upd τ.2.1 0 p2 0 = p2 from pk_us, show upd τ.2.2.1 0 p3 0 = p3 from pk_us, show upd τ.2.2.2.1 0 p4 0 = p4 from pk_us, show upd τ.2.2.2.2.1 0 p5 0 = p5 from pk_us⟩, fun y h => absurd rfl h⟩
    rw [kf_Wi_add_6_s, if_pos (show nI 0 ≤ 0 by decide), kA41 (by omega) hN]
  | succ a ih =>
    intro n τ ha hn hN h1 h2
    obtain ⟨n, rfl⟩ : ∃ k, n = k + 1 := ⟨n - 1, by omega⟩
    have hx := List.getElem?_eq_getElem (show a < cl.length by omega)
    obtain ⟨z1, z2, z3, z4, z5⟩ := h1 a _ hx (by omega)
    rw [kf_Wi_add_6_s, if_neg (nI_nle (by omega) (by omega)), nI_pred, gi (show a < 60 by omega) (by decide), iN_c (by omega), z5]
    by_cases c : cl[a].2.2.2.2.1 ≤ p5
    · obtain ⟨f1, f2⟩ := fin (a + 1) τ ha h1 h2
      refine ⟨a + 1, _, ?_, rfl, ha, f1, f2, ⟨pk_us, pk_us, pk_us, pk_us, pk_us⟩, fun y _ hy => ?_⟩
      · rw [if_pos c, kA41 (by omega) hN]
      · rw [Nat.add_sub_cancel, hx] at hy
        cases hy; exact c
    · rw [if_neg c, kMv (by omega) (by omega), Option.bind_some, pk_m1]
      refine ih n _ (by omega) (by omega) hN (fun i x hx hi => ?_) (fun i x hx' hi => ?_)
      · obtain ⟨y1, y2, y3, y4, y5⟩ := h1 i x hx (by omega)
        exact ⟨(pk_un (by omega)).trans y1, (pk_un (by omega)).trans y2, (pk_un (by omega)).trans y3, (pk_un (by omega)).trans y4, (pk_un (by omega)).trans y5⟩
      · by_cases ci : i = a
        · subst ci
          rw [hx] at hx'
          cases hx'
          exact ⟨⟨pk_us.trans z1, pk_us.trans z2, pk_us.trans z3, pk_us.trans z4, pk_us.trans z5⟩, Int32.not_le.mp c⟩
        · obtain ⟨⟨y1, y2, y3, y4, y5⟩, y6⟩ := h2 i x hx' (by omega)
          exact ⟨⟨(pk_un (by omega)).trans y1, (pk_un (by omega)).trans y2, (pk_un (by omega)).trans y3, (pk_un (by omega)).trans y4, (pk_un (by omega)).trans y5⟩, y6⟩
theorem exId : ∀ l : List WI, ∃ N : Nat, ∀ x ∈ l, x.2.2.2.2.2 < N
  | [] => ⟨0, fun _ h => absurd h List.not_mem_nil⟩
  | y :: l => by
    obtain ⟨N, hN⟩ := exId l
    refine ⟨max N (y.2.2.2.2.2 + 1), fun x hx => ?_⟩
    rcases List.mem_cons.mp hx with rfl | hx
    · omega
    · have := hN x hx; omega
abbrev mWs (ρ : S_Mo) (Z : Int32) (W : A32) (V : Int32) (O : A32) : S_Mo := (Z, ρ.2.1, ρ.2.2.1, ρ.2.2.2.1, ρ.2.2.2.2.1, ρ.2.2.2.2.2.1, ρ.2.2.2.2.2.2.1, ρ.2.2.2.2.2.2.2.1, ρ.2.2.2.2.2.2.2.2.1, W, V, ρ.2.2.2.2.2.2.2.2.2.2.2.1, ρ.2.2.2.2.2.2.2.2.2.2.2.2.1, ρ.2.2.2.2.2.2.2.2.2.2.2.2.2.1, O)
theorem simWadd {ω : S_Wi} {ρ : S_Mo} {tn p t : Nat} {cl rl : List WI} (hW : RWi ω ρ tn cl rl) (hlen : cl.length < 60) (hp : p < 40) (ht : t < tn) (f o r : Int32) :
    ∃ (ω' : S_Wi) (cl' rl' : List WI), kf_Wi_add ω (nI p) (nI t) f o r = some (nI (cl.length + 1), ω') ∧ RWi ω' (mWs ρ 0 (upd (upd (upd (upd (upd ρ.2.2.2.2.2.2.2.2.2.1 (5 * cl.length) (nI p)) (5 * cl.length + 1) (nI t)) (5 * cl.length + 2) f) (5 * cl.length + 3) o) (5 * cl.length + 4) r) (nI (cl.length + 1)) ρ.2.2.2.2.2.2.2.2.2.2.2.2.2.2) tn cl' rl' := by
  have hF := FU_big
  obtain ⟨w1, w2, w3, w4, w5, w6, w7, w8, w9, w10⟩ := hW
  obtain ⟨a, ω', q1, q2, q3, q4, q5, q6, q7⟩ := insLoop (p1 := nI p) (p2 := nI t) (p3 := f) (p4 := o) (p5 := r) hlen cl.length FU ω (Nat.le_refl _) (by omega) w3 (fun i x hx _ => w5 i x hx) (fun i x hx hi => by
    rw [List.getElem?_eq_none hi] at hx; cases hx)
  obtain ⟨N, hN⟩ := exId rl
  refine ⟨ω', cl.take a ++ (nI p, nI t, f, o, r, N) :: cl.drop a, rl ++ [(nI p, nI t, f, o, r, N)], ?_, ?_⟩
  · unfold kf_Wi_add; rw [w3]; exact q1
  have hsp : cl.take a ++ cl.drop a = cl := List.take_append_drop a cl
  have hmt : ∀ x, x ∈ cl.take a → x ∈ cl := fun x hx => List.mem_of_mem_take hx
  have hmd : ∀ x, x ∈ cl.drop a → x ∈ cl := fun x hx => List.mem_of_mem_drop hx
  have hpw := w7
  rw [← hsp, List.pairwise_append] at hpw
  obtain ⟨u1, u2, u3⟩ := hpw
  have htk : ∀ x ∈ cl.take a, x.2.2.2.2.1 ≤ r := by
    intro x hx
    obtain ⟨i, hi⟩ := List.mem_iff_getElem?.mp hx
    rw [List.getElem?_take] at hi
    by_cases ci : i < a
    · rw [if_pos ci] at hi
      have ha1 : a - 1 < cl.length := by omega
      have hy := q7 _ (by omega) (List.getElem?_eq_getElem ha1)
      by_cases ce : i = a - 1
      · subst ce
        rw [List.getElem?_eq_getElem ha1] at hi
        cases hi; exact hy
      · have hlt : i < cl.length := by omega
        rw [List.getElem?_eq_getElem hlt] at hi
        cases hi
        have := List.pairwise_iff_getElem.mp w7 i (a - 1) hlt ha1 (by omega)
        rcases this with z | z
        · exact Int32.le_trans (Int32.le_of_lt z) hy
        · rw [z.1]; exact hy
    · rw [if_neg ci] at hi; cases hi
  have hdk : ∀ x ∈ cl.drop a, r < x.2.2.2.2.1 := by
    intro x hx
    obtain ⟨i, hi⟩ := List.mem_iff_getElem?.mp hx
    rw [List.getElem?_drop] at hi
    exact (q5 _ x hi (by omega)).2
  have hlen' : (cl.take a ++ (nI p, nI t, f, o, r, N) :: cl.drop a).length = cl.length + 1 := by
    rw [List.length_append, List.length_cons, List.length_take, List.length_drop]; omega
  refine ⟨by omega, by rw [List.length_append, hlen', w2]; rfl, by rw [hlen']; exact q2, by rw [hlen'], ?_, ?_, ?_, ?_, ?_, ?_⟩
  · intro i x hx
    rw [lkIns cl _ a q3] at hx
    by_cases c1 : i < a
    · rw [if_pos c1] at hx; exact q4 i x hx c1
    · rw [if_neg c1] at hx
      by_cases c2 : i = a
      · rw [if_pos c2] at hx
        cases hx; subst c2; exact q6
      · rw [if_neg c2] at hx
        have := (q5 (i - 1) x hx (by omega)).1
        rw [show i - 1 + 1 = i by omega] at this
        exact this
  · intro i x hx
    by_cases c : i < rl.length
    · rw [List.getElem?_append_left c] at hx
      obtain ⟨z1, z2, z3, z4, z5⟩ := w6 i x hx
      have hne : i ≠ cl.length := by omega
      refine ⟨?_, ?_, ?_, ?_, ?_⟩
      · exact (pk_un (by omega)).trans ((pk_un (by omega)).trans ((pk_un (by omega)).trans ((pk_un (by omega)).trans ((pk_un (by omega)).trans z1))))
      · exact (pk_un (by omega)).trans ((pk_un (by omega)).trans ((pk_un (by omega)).trans ((pk_un (by omega)).trans ((pk_un (by omega)).trans z2))))
      · exact (pk_un (by omega)).trans ((pk_un (by omega)).trans ((pk_un (by omega)).trans ((pk_un (by omega)).trans ((pk_un (by omega)).trans z3))))
      · exact (pk_un (by omega)).trans ((pk_un (by omega)).trans ((pk_un (by omega)).trans ((pk_un (by omega)).trans ((pk_un (by omega)).trans z4))))
      · exact (pk_un (by omega)).trans ((pk_un (by omega)).trans ((pk_un (by omega)).trans ((pk_un (by omega)).trans ((pk_un (by omega)).trans z5))))
    · rw [List.getElem?_append_right (by omega)] at hx
      have hi : i = cl.length := by
        rcases Nat.eq_or_lt_of_le (show rl.length ≤ i by omega) with q | q
        · omega
        · rw [List.getElem?_eq_none (by simp; omega)] at hx; cases hx
      subst hi
      rw [w2, Nat.sub_self] at hx
      cases hx
      refine ⟨?_, ?_, ?_, ?_, ?_⟩
      · exact (pk_un (by omega)).trans ((pk_un (by omega)).trans ((pk_un (by omega)).trans ((pk_un (by omega)).trans pk_us)))
      · exact (pk_un (by omega)).trans ((pk_un (by omega)).trans ((pk_un (by omega)).trans pk_us))
      · exact (pk_un (by omega)).trans ((pk_un (by omega)).trans pk_us)
      · exact (pk_un (by omega)).trans pk_us
      · exact pk_us
  · rw [List.pairwise_append]
    refine ⟨u1, List.pairwise_cons.mpr ⟨fun y hy => Or.inl (hdk y hy), u2⟩, fun x hx y hy => ?_⟩
    rcases List.mem_cons.mp hy with rfl | hy
    · have hxN := hN x ((w9 x).mp (hmt x hx))
      rcases Int32.lt_or_eq_of_le (htk x hx) with z | z
      · exact Or.inl z
      · exact Or.inr ⟨z, hxN⟩
    · exact u3 x hx y hy
  · rw [List.pairwise_append]
    refine ⟨w8, List.pairwise_singleton _ _, fun x hx y hy => ?_⟩
    rw [List.mem_singleton] at hy
    subst hy
    exact hN x hx
  · intro x
    rw [List.mem_append, List.mem_append, List.mem_cons, List.mem_singleton, ← w9 x]
    have : x ∈ cl ↔ x ∈ cl.take a ∨ x ∈ cl.drop a := by rw [← List.mem_append, hsp]
    rw [this]
    constructor
    · rintro (z | z | z)
      · exact Or.inl (Or.inl z)
      · exact Or.inr z
      · exact Or.inl (Or.inr z)
    · rintro ((z | z) | z)
      · exact Or.inl z
      · exact Or.inr (Or.inr z)
      · exact Or.inr (Or.inl z)
  · intro x hx
    rcases List.mem_append.mp hx with z | z
    · exact w10 x z
    · rw [List.mem_singleton] at z
      subst z
      exact ⟨⟨p, hp, rfl⟩, ⟨t, ht, rfl⟩⟩
theorem ne60 {n : Nat} (h : n < 60) : ¬ nI n = 60 := fun x => by
  rw [show (60 : Int32) = nI 60 from rfl, nI_eq (by omega) (by decide)] at x; omega
theorem sim_wish' {σ : S_Br} {ρ : S_Mo} (h : Rel σ ρ) (p1 p2 p3 p4 p5 : Int32) : ∃ (r : Int32) (σ' : S_Br) (ρ' : S_Mo), kf_Br_wish σ p1 p2 p3 p4 p5 = some (r, σ') ∧ kg_Mo_wish ρ p1 p2 p3 p4 p5 = some (r, ρ') ∧ Rel σ' ρ' := by
  obtain ⟨tn, hn, bn, cl, rl, hT, hC, hB, hW, hP, hN⟩ := id h
  unfold kf_Br_wish kg_Mo_wish kf_Wi_isFull
  rw [kPe, mPe, (kHasT hT p2).1, (kHasT hT p2).2, hW.2.2.1, hW.2.2.2.1]
  simp only [Option.bind_some, ite01]
  by_cases c1 : p1 < 0 ∨ 39 < p1
  · exact ⟨0, σ, ρ, by rw [if_pos c1], by rw [if_pos c1], h⟩
  by_cases c2 : p2 < 0 ∨ nI tn ≤ p2
  · exact ⟨0, σ, ρ, by rw [if_neg c1, if_pos c2], by rw [if_neg c1, if_pos c2], h⟩
  rw [if_neg c1, if_neg c1, if_neg c2, if_neg c2]
  obtain ⟨t, ht, rfl⟩ := isT hT.1 c2
  obtain ⟨p, hp, rfl⟩ := isP c1
  by_cases c3 : cl.length = 60
  · rw [c3]
    exact ⟨0, σ, ρ, rfl, rfl, h⟩
  have hlt : cl.length < 60 := by have := hW.1; omega
  obtain ⟨r, k1, m1, -, -⟩ := simAgainst hT hC hB hP hN hp ht p3 p4 0
  rw [if_pos (show nI cl.length < 60 from nI_lt (b := 60) hlt (by decide)), Option.bind_some, if_pos rfl, if_neg (ne60 hlt), k1, m1, Option.bind_some, Option.bind_some]
  by_cases c4 : r = -6
  case neg => exact ⟨-1, σ, ρ, by rw [if_neg c4], by rw [if_neg c4], h⟩
  obtain ⟨ω', cl', rl', q1, q2⟩ := simWadd hW hlt hp ht p3 p4 p5
  rw [if_pos c4, if_pos c4, q1, Option.bind_some, gw_0 hlt, gw_1 hlt, gw_2 hlt, gw_3 hlt, gw_4 hlt, xw_0 hlt, xw_1 hlt, xw_2 hlt, xw_3 hlt, xw_4 hlt, nI_1]
  exact ⟨_, _, _, rfl, rfl, ⟨tn, hn, bn, cl', rl', hT, hC, hB, q2, hP, hN⟩⟩
