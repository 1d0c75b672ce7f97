set_option maxHeartbeats 4000000 in
set_option maxRecDepth 100000 in
theorem whole_start {p : Program} {e : Env} {s : State} {m : MethodId} {below : List Frame} {meth : Method} {c : Code} (l : Launch) {b L : Nat} {xs : Nat → Int32} (hL : L ≤ 3072) (C0 : lw_At p s m meth c b L xs) : W p l e room_1 s m #[Value.ref b] below meth c s.heap [] 0 0 (lw_Z below #[Value.ref b] s) (entryFrame m ([Value.ref b] : List Value).toArray 4) := by
  obtain ⟨hx, hb, hr, hml, hown, hts0, hX, hbl, hlocks, hgv⟩ := id C0
  have hts : ∀ w ∈ lw_g, w.before #[Value.ref b] s = true := fun w h => hts0 w (List.mem_filter.mp h).1
  have hA : ∀ q : Nat, s.heap.size ≤ q → (fun q : Nat => s.heap.size ≤ q) q := fun _ h => h
  obtain ⟨c0, iS0, hKn0⟩ := u_known (C := R_Bk) (T := F_Bk) (N := 9) (n := 9) hts i_uBk (hts _ mv_89)
  obtain ⟨c1, iS1, hKn1⟩ := u_known (C := R_Ca) (T := F_Ca) (N := 4) (n := 4) hts i_uCa (hts _ mv_43)
  obtain ⟨c2, iS2, hKn2⟩ := u_known (C := R_Pe) (T := F_Pe) (N := 2) (n := 2) hts i_uPe (hts _ mv_148)
  obtain ⟨c3, iS3, hKn3⟩ := u_known (C := R_Th) (T := F_Th) (N := 6) (n := 6) hts i_uTh (hts _ mv_64)
  obtain ⟨c4, iS4, hKn4⟩ := u_known (C := R_Wi) (T := F_Wi) (N := 6) (n := 6) hts i_uWi (hts _ mv_123)
  obtain ⟨c5, iS5, hKn5⟩ := u_known (C := R_Br) (T := F_Br) (N := 6) (n := 6) hts i_uBr (hts _ mv_35)
  obtain ⟨c6, iS6, hKn6⟩ := u_known (C := R_Mo) (T := F_Mo) (N := 15) (n := 15) hts i_uMo (hts _ mv_493)
  obtain ⟨D, hKc⟩ : ∃ (D : va_G), ∀ (k : Nat) (q : vw_C), cls[k]? = some q → u_Kn s q.1 q.2.1 q.2.2 (D.1 k) (D.2 k) := by
    refine ⟨(fun k => if k = 0 then c0 else if k = 1 then c1 else if k = 2 then c2 else if k = 3 then c3 else if k = 4 then c4 else if k = 5 then c5 else c6, fun k => if k = 0 then iS0 else if k = 1 then iS1 else if k = 2 then iS2 else if k = 3 then iS3 else if k = 4 then iS4 else if k = 5 then iS5 else iS6), ?_⟩
    intro k q hq
    match k, hq with
    | 0, hq => cases hq; exact hKn0
    | 1, hq => cases hq; exact hKn1
    | 2, hq => cases hq; exact hKn2
    | 3, hq => cases hq; exact hKn3
    | 4, hq => cases hq; exact hKn4
    | 5, hq => cases hq; exact hKn5
    | 6, hq => cases hq; exact hKn6
    | k + 7, hq => simp [cls] at hq
  have hS : va_S (fun q : Nat => s.heap.size ≤ q) s.heap s.heap [] := va_S.rf
  have hK : va_K D cls [] s := ⟨hKc, fun k q h => by simp at h⟩
  have hP : va_P D cls [] s.heap := fun k q h => by simp at h
  have hD : va_D (fun q : Nat => s.heap.size ≤ q) [] := ⟨fun i j p q h => by simp at h, fun k q h => by simp at h⟩
  have hNest : ∀ q ∈ nestL, va_Nw (.methodLinkNest R_Br q.1 q.2 "BookingRows") s := by
    intro q hq
    simp only [nestL, List.mem_cons, List.not_mem_nil, or_false] at hq
    rcases hq with rfl | rfl | rfl | rfl | rfl
    · exact va_Nw.of rfl (hts0 _ mv_44)
    · exact va_Nw.of rfl (hts0 _ mv_65)
    · exact va_Nw.of rfl (hts0 _ mv_90)
    · exact va_Nw.of rfl (hts0 _ mv_124)
    · exact va_Nw.of rfl (hts0 _ mv_149)
  have hl := lv_entry ([.ref b]) (n := 4) (Nat.le_of_ble_eq_true rfl)
  rw [lg_entry_eq]
  generalize (lg_sl ([.ref b]) ++ List.replicate (4 - (lg_sl ([.ref b])).length) Slot.unset).toArray = ls at hl ⊢
  have hl : lv_has ls 4 [(0, .ref b)] := hl
  refine va_new (ci := 5) (fs := [.null, .null, .null, .null, .null, .int 0]) (C := R_Br) (T := F_Br) (N := 6) hx hb hts i_uBr t_Br t_Br_ok hown (hts _ mv_34) (hts _ mv_35) (hts _ mv_27) hK hP hD hS hA rfl (fun j hj => by rcases (show j = 0 ∨ j = 1 ∨ j = 2 ∨ j = 3 ∨ j = 4 ∨ j = 5 by omega) with rfl | rfl | rfl | rfl | rfl | rfl <;> rfl) (Nat.le_of_ble_eq_true rfl) (Nat.le_of_ble_eq_true rfl) d_law_0 (fun q0 H hP hD hS => ?_)
  have hP : va_P D cls [(q0, .inr (5, [.null, .null, .null, .null, .null, .int 0]))] H := hP
  have hD : va_D (fun q : Nat => s.heap.size ≤ q) [(q0, .inr (5, [.null, .null, .null, .null, .null, .int 0]))] := hD
  refine W.widen (k := 1) (n := 6) (Nat.le_of_ble_eq_true rfl) (Nat.le_of_ble_eq_true rfl) ?_
  refine lv_dup hx hb d_law_3 rfl ?_
  have hFc := va_free (wc := [(q0, .inr (5, [.null, .null, .null, .null, .null, .int 0]))]) hD hS hA [0] rfl
  refine va_callv (va_runI (As := []) (rest := [.ref q0]) ⟨hx, hb, hml, hown, hts⟩ (c_Br_init l D q0 H.size) (cwI 0 hts (gI mv_38) rfl rfl rfl (hts _ mv_27) (hts _ mv_36) (hts _ mv_37) rfl hi_Br_init ⟨Nat.le_of_ble_eq_true rfl, Nat.le_of_ble_eq_true rfl⟩) ⟨kp_Nfb, fun U hU hW => ⟨⟨rfl, by rw [hU], by rw [hU]; exact hP, va_K.moved hW.alike hK, hD.weaken (fun _ _ _ _ => trivial)⟩, fun q hq => va_Nw.warmM hW (hNest q hq)⟩⟩ rfl rfl hl.1 rfl (lv_room (Nat.le_of_ble_eq_true rfl)) d_law_4 ⟨Nat.le_of_ble_eq_true rfl, Nat.le_of_ble_eq_true rfl⟩) hS (fun q _ h => hFc q h) hFc (fun u t H1 locs ht hvm hw hB hz1 hk1 hS => ?_)
  obtain ⟨a, k, rfl, hP1, hK1, hD1⟩ := hB
  rw [ht] at hP1
  have hK1 := va_K.moved hvm.symm hK1
  obtain ⟨hP, hD⟩ := va_join (wr := []) (w1 := wl_Br a k i_Br) hP hD [0] [] rfl rfl (by decide) (by decide) hk1 hFc hP1 hD1
  generalize H1 = H at hP hS ⊢
  have hP : va_P D cls (wl_Br a k i_Br) H := hP
  have hD : va_D (fun q : Nat => s.heap.size ≤ q) (wl_Br a k i_Br) := hD
  refine W.widen (k := 28) (n := 2720) (Nat.le_of_ble_eq_true rfl) (Nat.le_of_ble_eq_true rfl) ?_
  refine lv_astore_n (lv' := [(1, .ref (a 0 0)), (0, .ref b)]) hx hb d_law_7 rfl hl (by decide) rfl (fun ls hl => ?_)
  refine va_new (ci := 6) (fs := [.int 0, .int 0, .null, .null, .int 0, .null, .int 0, .null, .int 0, .null, .int 0, .null, .null, .null, .null]) (C := R_Mo) (T := F_Mo) (N := 15) hx hb hts i_uMo t_Mo t_Mo_ok hown (hts _ mv_492) (hts _ mv_493) (hts _ mv_33) hK hP hD hS hA rfl (fun j hj => by rcases (show j = 0 ∨ j = 1 ∨ j = 2 ∨ j = 3 ∨ j = 4 ∨ j = 5 ∨ j = 6 ∨ j = 7 ∨ j = 8 ∨ j = 9 ∨ j = 10 ∨ j = 11 ∨ j = 12 ∨ j = 13 ∨ j = 14 by omega) with rfl | rfl | rfl | rfl | rfl | rfl | rfl | rfl | rfl | rfl | rfl | rfl | rfl | rfl | rfl <;> rfl) (Nat.le_of_ble_eq_true rfl) (Nat.le_of_ble_eq_true rfl) d_law_8 (fun q1 H hP hD hS => ?_)
  refine W.widen (k := 29) (n := 2735) (Nat.le_of_ble_eq_true rfl) (Nat.le_of_ble_eq_true rfl) ?_
  refine lv_dup hx hb d_law_11 rfl ?_
  have hPc : va_P D cls [(q1, .inr (6, [.int 0, .int 0, .null, .null, .int 0, .null, .int 0, .null, .int 0, .null, .int 0, .null, .null, .null, .null]))] H := pR hP
  have hDc : va_D (fun q : Nat => s.heap.size ≤ q) [(q1, .inr (6, [.int 0, .int 0, .null, .null, .int 0, .null, .int 0, .null, .int 0, .null, .int 0, .null, .null, .null, .null]))] := dR hD
  have hFc : ∀ q, va_A [(q1, .inr (6, [.int 0, .int 0, .null, .null, .int 0, .null, .int 0, .null, .int 0, .null, .int 0, .null, .null, .null, .null]))] H.size q → (fun q : Nat => s.heap.size ≤ q) q := kA_to hDc hS hA
  refine va_callv (va_runI (As := []) (rest := [.ref q1]) ⟨hx, hb, hml, hown, hts⟩ (c_Mo_init l D q1 H.size) (cwI 0 hts (gI mv_496) rfl rfl rfl (hts _ mv_33) (hts _ mv_494) (hts _ mv_495) rfl hi_Mo_init ⟨Nat.le_of_ble_eq_true rfl, Nat.le_of_ble_eq_true rfl⟩) ⟨kp_fb, fun U hU hW => ⟨rfl, by rw [hU], by rw [hU]; exact hPc, va_K.moved hW.alike hK, hDc.weaken (fun _ _ _ _ => trivial)⟩⟩ rfl rfl hl.1 rfl (lv_room (Nat.le_of_ble_eq_true rfl)) d_law_12 ⟨Nat.le_of_ble_eq_true rfl, Nat.le_of_ble_eq_true rfl⟩) hS (fun q _ h => hFc q h) hFc (fun u t H1 locs ht hvm hw hB hz1 hk1 hS => ?_)
  obtain ⟨a2, k2, rfl, hP2, hK2, hD2⟩ := hB
  rw [ht] at hP2
  have hK2 := va_K.moved hvm.symm hK2
  obtain ⟨hP, hD⟩ := va_join (wr := wl_Br a k i_Br) (w1 := wl_Mo a2 k2 i_Mo) hP hD [28] [0, 1, 2, 3, 4, 5, 6, 7, 8, 9, 10, 11, 12, 13, 14, 15, 16, 17, 18, 19, 20, 21, 22, 23, 24, 25, 26, 27] rfl rfl (by decide) (by decide) hk1 hFc hP2 hD2
  generalize H1 = H at hP hS ⊢
  refine W.widen (k := 38) (n := 4828) (Nat.le_of_ble_eq_true rfl) (Nat.le_of_ble_eq_true rfl) ?_
  refine lv_astore_n (lv' := [(2, .ref (a2 0)), (1, .ref (a 0 0)), (0, .ref b)]) hx hb d_law_15 rfl hl (by decide) rfl (fun ls hl => ?_)
  refine lv_iconst (v := 0) hx hb d_law_16 (by decide) ?_
  refine lv_istore_n (lv' := [(3, .int 0), (2, .ref (a2 0)), (1, .ref (a 0 0)), (0, .ref b)]) hx hb d_law_17 rfl hl (by decide) rfl (fun ls hl => ?_)
  exact law_loop hL C0 hK1 hK2 (fun σ ρ => kd_cg hD rfl) (L + 1) 0 i_Br i_Mo H locs ls (by omega) (by omega) ⟨Rel_0, hP, hS, lv_sub hl [3, 2, 1, 0] rfl⟩
