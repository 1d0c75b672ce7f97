set_option maxHeartbeats 4000000 in
set_option maxRecDepth 100000 in
theorem law_loop {p : Program} {l : Launch} {e : Env} {s : State} {m : MethodId} {below : List Frame} {meth : Method} {c : Code} {b L : Nat} {xs : Nat → Int32} {D : va_G} {a : Nat → Nat → Nat} {k : Nat → Nat → ClassId} {a2 : Nat → Nat} {k2 : Nat → ClassId} (hL : L ≤ 3072) (C0 : lw_At p s m meth c b L xs) (hK1 : va_K D cls (ty_Br k) s) (hK2 : va_K D cls (ty_Mo k2) s) (hD : ∀ σ ρ, va_D (fun q : Nat => s.heap.size ≤ q) (wl_Br a k σ ++ wl_Mo a2 k2 ρ)) : ∀ (n i : Nat) (σ : S_Br) (ρ : S_Mo) (H : Heap) (locs : List Loc) (ls : Array Slot), L < 6 * i + n → 6 * i ≤ L → LH s D a k a2 k2 b i σ ρ H locs ls → LW p l e s m below meth c b H locs 18 ls := by
  obtain ⟨hx, hb, hr, hml, hown, hts0, hX, hbl, hlocks, hgv⟩ := id C0
  have hbA : ¬ (fun q : Nat => s.heap.size ≤ q) b := Nat.not_le.mpr hbl
  intro n
  induction n with
  | zero => intro i σ ρ H locs ls h1 h2; exact absurd h1 (by omega)
  | succ n ih =>
    intro i σ ρ H locs ls h1 h2 h
    obtain ⟨hR, hP, hS, hl⟩ := id h
    refine lv_iload_n hx hb d_law_18 rfl (lv_at hl 3 rfl) ?_
    refine lv_aload_n hx hb d_law_19 rfl (lv_at hl 0 rfl) ?_
    refine va_slen hx hb hX hbl hbA hS d_law_20 ?_
    refine lv_bipush (v := 6) hx hb d_law_21 (by decide) ?_
    refine lv_isub hx hb d_law_23 ?_
    have hsub : (Int32.ofNat L - 6).toInt = (L : Int) - 6 := pk_sub_toInt (a := L) (b := 6) (by omega) (by decide)
    have hix : (nI (6 * i)).toInt = ((6 * i : Nat) : Int) := nI_toInt (by omega)
    refine lv_icmp_gt (tgt := 746) hx hb d_law_24 (by decide) (fun c1 => ?_) (fun c1 => ?_)
    · refine lv_iconst (v := 1) hx hb d_law_746 (by decide) ?_
      refine va_forget (fun q hq => hS.2.2 q hq) ?_
      exact lw_ret hx hb hr hlocks d_law_747
    · have hi : 6 * i + 6 ≤ L := by
        rw [Int32.lt_iff_toInt_lt, hsub, hix] at c1
        omega
      have J : ∀ σ ρ H locs ls, LH s D a k a2 k2 b i σ ρ H locs ls → LW p l e s m below meth c b H locs 740 ls := by
        intro σ ρ H locs ls h
        obtain ⟨hR, hP, hS, hl⟩ := h
        refine lv_iinc (v := nI (6 * (i + 1))) (lv' := [(3, .int (nI (6 * (i + 1)))), (0, .ref b), (1, .ref (a 0 0)), (2, .ref (a2 0))]) hx hb d_law_740 hl (k := 3) rfl (show nI (6 * i) + Int32.ofInt 6 = nI (6 * (i + 1)) from nI_add (6 * i) 6) (by decide) rfl (fun ls hl => ?_)
        refine lv_goto (tgt := 18) hx hb d_law_743 (by decide) ?_
        exact ih (i + 1) σ ρ H locs ls (by omega) (by omega) ⟨hR, hP, hS, lv_sub hl [1, 2, 3, 0] rfl⟩
      refine lv_aload_n hx hb d_law_27 rfl (lv_at hl 0 rfl) ?_
      refine lv_iload_n hx hb d_law_28 rfl (lv_at hl 3 rfl) ?_
      refine va_sld hx hb hX hbl hbA hS (vp_in_nI (show 6 * i < L by omega) (by omega)) d_law_29 ?_
      refine lv_bipush (v := 15) hx hb d_law_30 (by decide) ?_
      refine lv_iand hx hb d_law_32 ?_
      obtain ⟨v, hv, ev⟩ := pk_andE (xs (nI (6 * i)).toNatClampNeg) (m := 15) 4 (by decide)
      rw [ev]
      have hv : v = 0 ∨ v = 1 ∨ v = 2 ∨ v = 3 ∨ v = 4 ∨ v = 5 ∨ v = 6 ∨ v = 7 ∨ v = 8 ∨ v = 9 ∨ v = 10 ∨ v = 11 ∨ v = 12 ∨ v = 13 ∨ v = 14 ∨ v = 15 := by omega
      rcases hv with rfl | rfl | rfl | rfl | rfl | rfl | rfl | rfl | rfl | rfl | rfl | rfl | rfl | rfl | rfl | rfl
      · refine lv_tableIn (tgt := 112) hx hb d_law_33 (by decide) (by decide) rfl (by decide) ?_
        exact law_c0 hL C0 hK1 hK2 hD hi J h
      · refine lv_tableIn (tgt := 175) hx hb d_law_33 (by decide) (by decide) rfl (by decide) ?_
        exact law_c1 hL C0 hK1 hK2 hD hi J h
      · refine lv_tableIn (tgt := 228) hx hb d_law_33 (by decide) (by decide) rfl (by decide) ?_
        exact law_c2 hL C0 hK1 hK2 hD hi J h
      · refine lv_tableIn (tgt := 251) hx hb d_law_33 (by decide) (by decide) rfl (by decide) ?_
        exact law_c3 hL C0 hK1 hK2 hD hi J h
      · refine lv_tableIn (tgt := 304) hx hb d_law_33 (by decide) (by decide) rfl (by decide) ?_
        exact law_c4 hL C0 hK1 hK2 hD hi J h
      · refine lv_tableIn (tgt := 347) hx hb d_law_33 (by decide) (by decide) rfl (by decide) ?_
        exact law_c5 hL C0 hK1 hK2 hD hi J h
      · refine lv_tableIn (tgt := 380) hx hb d_law_33 (by decide) (by decide) rfl (by decide) ?_
        exact law_c6 hL C0 hK1 hK2 hD hi J h
      · refine lv_tableIn (tgt := 413) hx hb d_law_33 (by decide) (by decide) rfl (by decide) ?_
        exact law_c7 hL C0 hK1 hK2 hD hi J h
      · refine lv_tableIn (tgt := 466) hx hb d_law_33 (by decide) (by decide) rfl (by decide) ?_
        exact law_c8 hL C0 hK1 hK2 hD hi J h
      · refine lv_tableIn (tgt := 499) hx hb d_law_33 (by decide) (by decide) rfl (by decide) ?_
        exact law_c9 hL C0 hK1 hK2 hD hi J h
      · refine lv_tableIn (tgt := 562) hx hb d_law_33 (by decide) (by decide) rfl (by decide) ?_
        exact law_c10 hL C0 hK1 hK2 hD hi J h
      · refine lv_tableIn (tgt := 585) hx hb d_law_33 (by decide) (by decide) rfl (by decide) ?_
        exact law_c11 hL C0 hK1 hK2 hD hi J h
      · refine lv_tableIn (tgt := 618) hx hb d_law_33 (by decide) (by decide) rfl (by decide) ?_
        exact law_c12 hL C0 hK1 hK2 hD hi J h
      · refine lv_tableIn (tgt := 651) hx hb d_law_33 (by decide) (by decide) rfl (by decide) ?_
        exact law_c13 hL C0 hK1 hK2 hD hi J h
      · refine lv_tableIn (tgt := 684) hx hb d_law_33 (by decide) (by decide) rfl (by decide) ?_
        exact law_c14 hL C0 hK1 hK2 hD hi J h
      · refine lv_tableIn (tgt := 717) hx hb d_law_33 (by decide) (by decide) rfl (by decide) ?_
        exact law_c15 hL C0 hK1 hK2 hD hi J h
