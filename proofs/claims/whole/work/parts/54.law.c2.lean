set_option maxHeartbeats 4000000 in
set_option maxRecDepth 100000 in
theorem law_c8 {p : Program} {l : Launch} {e : Env} {s : State} {m : MethodId} {below : List Frame} {meth : Method} {c : Code} {b L : Nat} {xs : Nat → Int32} {D : va_G} {a : Nat → Nat → Nat} {k : Nat → Nat → ClassId} {a2 : Nat → Nat} {k2 : Nat → ClassId} (hL : L ≤ 3072) (C0 : lw_At p s m meth c b L xs) (hK1 : va_K D cls (ty_Br k) s) (hK2 : va_K D cls (ty_Mo k2) s) (hD : ∀ σ ρ, va_D (fun q : Nat => s.heap.size ≤ q) (wl_Br a k σ ++ wl_Mo a2 k2 ρ)) {i : Nat} (hi : 6 * i + 6 ≤ L) (J : ∀ σ ρ H locs ls, LH s D a k a2 k2 b i σ ρ H locs ls → LW p l e s m below meth c b H locs 740 ls) {σ : S_Br} {ρ : S_Mo} {H : Heap} {locs : List Loc} {ls : Array Slot} (h : LH s D a k a2 k2 b i σ ρ H locs ls) : LW p l e s m below meth c b H locs 466 ls := by
  obtain ⟨hx, hb, hr, hml, hown, hts0, hX, hbl, hlocks, hgv⟩ := C0
  have hts : ∀ w ∈ lw_g, w.before #[Value.ref b] s = true := fun w h => hts0 w (List.mem_filter.mp h).1
  have hA : ∀ q : Nat, s.heap.size ≤ q → (fun q : Nat => s.heap.size ≤ q) q := fun _ h => h
  have hbA : ¬ (fun q : Nat => s.heap.size ≤ q) b := Nat.not_le.mpr hbl
  obtain ⟨hR, hP, hS, hl⟩ := h
  have hin1 : vp_in (nI (6 * i) + 1) L := by rw [show nI (6 * i) + 1 = nI (6 * i + 1) from nI_add _ 1]; exact vp_in_nI (by omega) (by omega)
  have hin2 : vp_in (nI (6 * i) + 2) L := by rw [show nI (6 * i) + 2 = nI (6 * i + 2) from nI_add _ 2]; exact vp_in_nI (by omega) (by omega)
  obtain ⟨r, σ', ρ', e1, e2, hR'⟩ := sim_equip hR (xs (nI (6 * i) + 1).toNatClampNeg) (xs (nI (6 * i) + 2).toNatClampNeg)
  refine lv_aload_n hx hb d_law_466 rfl (lv_at hl 1 rfl) ?_
  refine lv_aload_n hx hb d_law_467 rfl (lv_at hl 0 rfl) ?_
  refine lv_iload_n hx hb d_law_468 rfl (lv_at hl 3 rfl) ?_
  refine lv_iconst (v := 1) hx hb d_law_469 (by decide) ?_
  refine lv_iadd hx hb d_law_470 ?_
  refine va_sld hx hb hX hbl hbA hS hin1 d_law_471 ?_
  refine lv_aload_n hx hb d_law_472 rfl (lv_at hl 0 rfl) ?_
  refine lv_iload_n hx hb d_law_473 rfl (lv_at hl 3 rfl) ?_
  refine lv_iconst (v := 2) hx hb d_law_474 (by decide) ?_
  refine lv_iadd hx hb d_law_475 ?_
  refine va_sld hx hb hX hbl hbA hS hin2 d_law_476 ?_
  refine kc_M (wF := wl_Br a k σ' ++ wl_Mo a2 k2 ρ) (va_runV (As := [.int (xs (nI (6 * i) + 1).toNatClampNeg), .int (xs (nI (6 * i) + 2).toNatClampNeg)]) (rest := []) ⟨hx, hb, hml, hown, hts⟩ (c_Br_equip l D a k _ σ (xs (nI (6 * i) + 1).toNatClampNeg) (xs (nI (6 * i) + 2).toNatClampNeg) (r, σ') e1) (cwV 2 hts (gV mv_403 mv_404 mv_405 mv_27 mv_406) rfl rfl rfl hd_Br_equip ⟨Nat.le_of_ble_eq_true rfl, Nat.le_of_ble_eq_true rfl⟩) (kp_V (ci := 5) (q := (R_Br, F_Br, 6)) (q0 := 0) hK1 (pL hP) (dL (hD σ ρ)) rfl rfl) rfl rfl hl.1 rfl (lv_room (Nat.le_of_ble_eq_true rfl)) d_law_477 ⟨Nat.le_of_ble_eq_true rfl, Nat.le_of_ble_eq_true rfl⟩) hS (dL (hD σ ρ)) hA (fun _ _ h h9 => kjL hP (hD σ ρ) h h9) (fun H locs hP hS => ?_)
  refine lv_aload_n hx hb d_law_480 rfl (lv_at hl 2 rfl) ?_
  refine lv_aload_n hx hb d_law_481 rfl (lv_at hl 0 rfl) ?_
  refine lv_iload_n hx hb d_law_482 rfl (lv_at hl 3 rfl) ?_
  refine lv_iconst (v := 1) hx hb d_law_483 (by decide) ?_
  refine lv_iadd hx hb d_law_484 ?_
  refine va_sld hx hb hX hbl hbA hS hin1 d_law_485 ?_
  refine lv_aload_n hx hb d_law_486 rfl (lv_at hl 0 rfl) ?_
  refine lv_iload_n hx hb d_law_487 rfl (lv_at hl 3 rfl) ?_
  refine lv_iconst (v := 2) hx hb d_law_488 (by decide) ?_
  refine lv_iadd hx hb d_law_489 ?_
  refine va_sld hx hb hX hbl hbA hS hin2 d_law_490 ?_
  refine kc_M (wF := wl_Br a k σ' ++ wl_Mo a2 k2 ρ') (va_runV (As := [.int (xs (nI (6 * i) + 1).toNatClampNeg), .int (xs (nI (6 * i) + 2).toNatClampNeg)]) (rest := [.int r]) ⟨hx, hb, hml, hown, hts⟩ (c_Mo_equip l D a2 k2 _ ρ (xs (nI (6 * i) + 1).toNatClampNeg) (xs (nI (6 * i) + 2).toNatClampNeg) (r, ρ') e2) (cwV 2 hts (gV mv_652 mv_653 mv_654 mv_33 mv_655) rfl rfl rfl hd_Mo_equip ⟨Nat.le_of_ble_eq_true rfl, Nat.le_of_ble_eq_true rfl⟩) (kp_V (ci := 6) (q := (R_Mo, F_Mo, 15)) (q0 := 0) hK2 (pR hP) (dR (hD σ ρ)) rfl rfl) rfl rfl hl.1 rfl (lv_room (Nat.le_of_ble_eq_true rfl)) d_law_491 ⟨Nat.le_of_ble_eq_true rfl, Nat.le_of_ble_eq_true rfl⟩) hS (dR (hD σ ρ)) hA (fun _ _ h h9 => kjR hP (hD σ' ρ) h h9) (fun H locs hP hS => ?_)
  refine lv_icmp_eq (tgt := 740) hx hb d_law_494 (by decide) (fun _ => ?_) (fun q => absurd rfl q)
  exact J σ' ρ' H locs ls ⟨hR', hP, hS, hl⟩
set_option maxHeartbeats 4000000 in
set_option maxRecDepth 100000 in
theorem law_c9 {p : Program} {l : Launch} {e : Env} {s : State} {m : MethodId} {below : List Frame} {meth : Method} {c : Code} {b L : Nat} {xs : Nat → Int32} {D : va_G} {a : Nat → Nat → Nat} {k : Nat → Nat → ClassId} {a2 : Nat → Nat} {k2 : Nat → ClassId} (hL : L ≤ 3072) (C0 : lw_At p s m meth c b L xs) (hK1 : va_K D cls (ty_Br k) s) (hK2 : va_K D cls (ty_Mo k2) s) (hD : ∀ σ ρ, va_D (fun q : Nat => s.heap.size ≤ q) (wl_Br a k σ ++ wl_Mo a2 k2 ρ)) {i : Nat} (hi : 6 * i + 6 ≤ L) (J : ∀ σ ρ H locs ls, LH s D a k a2 k2 b i σ ρ H locs ls → LW p l e s m below meth c b H locs 740 ls) {σ : S_Br} {ρ : S_Mo} {H : Heap} {locs : List Loc} {ls : Array Slot} (h : LH s D a k a2 k2 b i σ ρ H locs ls) : LW p l e s m below meth c b H locs 499 ls := by
  obtain ⟨hx, hb, hr, hml, hown, hts0, hX, hbl, hlocks, hgv⟩ := C0
  have hts : ∀ w ∈ lw_g, w.before #[Value.ref b] s = true := fun w h => hts0 w (List.mem_filter.mp h).1
  have hA : ∀ q : Nat, s.heap.size ≤ q → (fun q : Nat => s.heap.size ≤ q) q := fun _ h => h
  have hbA : ¬ (fun q : Nat => s.heap.size ≤ q) b := Nat.not_le.mpr hbl
  obtain ⟨hR, hP, hS, hl⟩ := h
  have hin1 : vp_in (nI (6 * i) + 1) L := by rw [show nI (6 * i) + 1 = nI (6 * i + 1) from nI_add _ 1]; exact vp_in_nI (by omega) (by omega)
  have hin2 : vp_in (nI (6 * i) + 2) L := by rw [show nI (6 * i) + 2 = nI (6 * i + 2) from nI_add _ 2]; exact vp_in_nI (by omega) (by omega)
  have hin3 : vp_in (nI (6 * i) + 3) L := by rw [show nI (6 * i) + 3 = nI (6 * i + 3) from nI_add _ 3]; exact vp_in_nI (by omega) (by omega)
  have hin4 : vp_in (nI (6 * i) + 4) L := by rw [show nI (6 * i) + 4 = nI (6 * i + 4) from nI_add _ 4]; exact vp_in_nI (by omega) (by omega)
  have hin5 : vp_in (nI (6 * i) + 5) L := by rw [show nI (6 * i) + 5 = nI (6 * i + 5) from nI_add _ 5]; exact vp_in_nI (by omega) (by omega)
  obtain ⟨r, σ', ρ', e1, e2, hR'⟩ := sim_wish hR (xs (nI (6 * i) + 1).toNatClampNeg) (xs (nI (6 * i) + 2).toNatClampNeg) (xs (nI (6 * i) + 3).toNatClampNeg) (xs (nI (6 * i) + 4).toNatClampNeg) (xs (nI (6 * i) + 5).toNatClampNeg)
  refine lv_aload_n hx hb d_law_499 rfl (lv_at hl 1 rfl) ?_
  refine lv_aload_n hx hb d_law_500 rfl (lv_at hl 0 rfl) ?_
  refine lv_iload_n hx hb d_law_501 rfl (lv_at hl 3 rfl) ?_
  refine lv_iconst (v := 1) hx hb d_law_502 (by decide) ?_
  refine lv_iadd hx hb d_law_503 ?_
  refine va_sld hx hb hX hbl hbA hS hin1 d_law_504 ?_
  refine lv_aload_n hx hb d_law_505 rfl (lv_at hl 0 rfl) ?_
  refine lv_iload_n hx hb d_law_506 rfl (lv_at hl 3 rfl) ?_
  refine lv_iconst (v := 2) hx hb d_law_507 (by decide) ?_
  refine lv_iadd hx hb d_law_508 ?_
  refine va_sld hx hb hX hbl hbA hS hin2 d_law_509 ?_
  refine lv_aload_n hx hb d_law_510 rfl (lv_at hl 0 rfl) ?_
  refine lv_iload_n hx hb d_law_511 rfl (lv_at hl 3 rfl) ?_
  refine lv_iconst (v := 3) hx hb d_law_512 (by decide) ?_
  refine lv_iadd hx hb d_law_513 ?_
  refine va_sld hx hb hX hbl hbA hS hin3 d_law_514 ?_
  refine lv_aload_n hx hb d_law_515 rfl (lv_at hl 0 rfl) ?_
  refine lv_iload_n hx hb d_law_516 rfl (lv_at hl 3 rfl) ?_
  refine lv_iconst (v := 4) hx hb d_law_517 (by decide) ?_
  refine lv_iadd hx hb d_law_518 ?_
  refine va_sld hx hb hX hbl hbA hS hin4 d_law_519 ?_
  refine lv_aload_n hx hb d_law_520 rfl (lv_at hl 0 rfl) ?_
  refine lv_iload_n hx hb d_law_521 rfl (lv_at hl 3 rfl) ?_
  refine lv_iconst (v := 5) hx hb d_law_522 (by decide) ?_
  refine lv_iadd hx hb d_law_523 ?_
  refine va_sld hx hb hX hbl hbA hS hin5 d_law_524 ?_
  refine kc_M (wF := wl_Br a k σ' ++ wl_Mo a2 k2 ρ) (va_runV (As := [.int (xs (nI (6 * i) + 1).toNatClampNeg), .int (xs (nI (6 * i) + 2).toNatClampNeg), .int (xs (nI (6 * i) + 3).toNatClampNeg), .int (xs (nI (6 * i) + 4).toNatClampNeg), .int (xs (nI (6 * i) + 5).toNatClampNeg)]) (rest := []) ⟨hx, hb, hml, hown, hts⟩ (c_Br_wish l D a k _ σ (xs (nI (6 * i) + 1).toNatClampNeg) (xs (nI (6 * i) + 2).toNatClampNeg) (xs (nI (6 * i) + 3).toNatClampNeg) (xs (nI (6 * i) + 4).toNatClampNeg) (xs (nI (6 * i) + 5).toNatClampNeg) (r, σ') e1) (cwV 5 hts (gV mv_411 mv_412 mv_413 mv_27 mv_414) rfl rfl rfl hd_Br_wish ⟨Nat.le_of_ble_eq_true rfl, Nat.le_of_ble_eq_true rfl⟩) (kp_V (ci := 5) (q := (R_Br, F_Br, 6)) (q0 := 0) hK1 (pL hP) (dL (hD σ ρ)) rfl rfl) rfl rfl hl.1 rfl (lv_room (Nat.le_of_ble_eq_true rfl)) d_law_525 ⟨Nat.le_of_ble_eq_true rfl, Nat.le_of_ble_eq_true rfl⟩) hS (dL (hD σ ρ)) hA (fun _ _ h h9 => kjL hP (hD σ ρ) h h9) (fun H locs hP hS => ?_)
  refine lv_aload_n hx hb d_law_528 rfl (lv_at hl 2 rfl) ?_
  refine lv_aload_n hx hb d_law_529 rfl (lv_at hl 0 rfl) ?_
  refine lv_iload_n hx hb d_law_530 rfl (lv_at hl 3 rfl) ?_
  refine lv_iconst (v := 1) hx hb d_law_531 (by decide) ?_
  refine lv_iadd hx hb d_law_532 ?_
  refine va_sld hx hb hX hbl hbA hS hin1 d_law_533 ?_
  refine lv_aload_n hx hb d_law_534 rfl (lv_at hl 0 rfl) ?_
  refine lv_iload_n hx hb d_law_535 rfl (lv_at hl 3 rfl) ?_
  refine lv_iconst (v := 2) hx hb d_law_536 (by decide) ?_
  refine lv_iadd hx hb d_law_537 ?_
  refine va_sld hx hb hX hbl hbA hS hin2 d_law_538 ?_
  refine lv_aload_n hx hb d_law_539 rfl (lv_at hl 0 rfl) ?_
  refine lv_iload_n hx hb d_law_540 rfl (lv_at hl 3 rfl) ?_
  refine lv_iconst (v := 3) hx hb d_law_541 (by decide) ?_
  refine lv_iadd hx hb d_law_542 ?_
  refine va_sld hx hb hX hbl hbA hS hin3 d_law_543 ?_
  refine lv_aload_n hx hb d_law_544 rfl (lv_at hl 0 rfl) ?_
  refine lv_iload_n hx hb d_law_545 rfl (lv_at hl 3 rfl) ?_
  refine lv_iconst (v := 4) hx hb d_law_546 (by decide) ?_
  refine lv_iadd hx hb d_law_547 ?_
  refine va_sld hx hb hX hbl hbA hS hin4 d_law_548 ?_
  refine lv_aload_n hx hb d_law_549 rfl (lv_at hl 0 rfl) ?_
  refine lv_iload_n hx hb d_law_550 rfl (lv_at hl 3 rfl) ?_
  refine lv_iconst (v := 5) hx hb d_law_551 (by decide) ?_
  refine lv_iadd hx hb d_law_552 ?_
  refine va_sld hx hb hX hbl hbA hS hin5 d_law_553 ?_
  refine kc_M (wF := wl_Br a k σ' ++ wl_Mo a2 k2 ρ') (va_runV (As := [.int (xs (nI (6 * i) + 1).toNatClampNeg), .int (xs (nI (6 * i) + 2).toNatClampNeg), .int (xs (nI (6 * i) + 3).toNatClampNeg), .int (xs (nI (6 * i) + 4).toNatClampNeg), .int (xs (nI (6 * i) + 5).toNatClampNeg)]) (rest := [.int r]) ⟨hx, hb, hml, hown, hts⟩ (c_Mo_wish l D a2 k2 _ ρ (xs (nI (6 * i) + 1).toNatClampNeg) (xs (nI (6 * i) + 2).toNatClampNeg) (xs (nI (6 * i) + 3).toNatClampNeg) (xs (nI (6 * i) + 4).toNatClampNeg) (xs (nI (6 * i) + 5).toNatClampNeg) (r, ρ') e2) (cwV 5 hts (gV mv_608 mv_609 mv_610 mv_33 mv_611) rfl rfl rfl hd_Mo_wish ⟨Nat.le_of_ble_eq_true rfl, Nat.le_of_ble_eq_true rfl⟩) (kp_V (ci := 6) (q := (R_Mo, F_Mo, 15)) (q0 := 0) hK2 (pR hP) (dR (hD σ ρ)) rfl rfl) rfl rfl hl.1 rfl (lv_room (Nat.le_of_ble_eq_true rfl)) d_law_554 ⟨Nat.le_of_ble_eq_true rfl, Nat.le_of_ble_eq_true rfl⟩) hS (dR (hD σ ρ)) hA (fun _ _ h h9 => kjR hP (hD σ' ρ) h h9) (fun H locs hP hS => ?_)
  refine lv_icmp_eq (tgt := 740) hx hb d_law_557 (by decide) (fun _ => ?_) (fun q => absurd rfl q)
  exact J σ' ρ' H locs ls ⟨hR', hP, hS, hl⟩
set_option maxHeartbeats 4000000 in
set_option maxRecDepth 100000 in
theorem law_c10 {p : Program} {l : Launch} {e : Env} {s : State} {m : MethodId} {below : List Frame} {meth : Method} {c : Code} {b L : Nat} {xs : Nat → Int32} {D : va_G} {a : Nat → Nat → Nat} {k : Nat → Nat → ClassId} {a2 : Nat → Nat} {k2 : Nat → ClassId} (hL : L ≤ 3072) (C0 : lw_At p s m meth c b L xs) (hK1 : va_K D cls (ty_Br k) s) (hK2 : va_K D cls (ty_Mo k2) s) (hD : ∀ σ ρ, va_D (fun q : Nat => s.heap.size ≤ q) (wl_Br a k σ ++ wl_Mo a2 k2 ρ)) {i : Nat} (hi : 6 * i + 6 ≤ L) (J : ∀ σ ρ H locs ls, LH s D a k a2 k2 b i σ ρ H locs ls → LW p l e s m below meth c b H locs 740 ls) {σ : S_Br} {ρ : S_Mo} {H : Heap} {locs : List Loc} {ls : Array Slot} (h : LH s D a k a2 k2 b i σ ρ H locs ls) : LW p l e s m below meth c b H locs 562 ls := by
  obtain ⟨hx, hb, hr, hml, hown, hts0, hX, hbl, hlocks, hgv⟩ := C0
  have hts : ∀ w ∈ lw_g, w.before #[Value.ref b] s = true := fun w h => hts0 w (List.mem_filter.mp h).1
  have hA : ∀ q : Nat, s.heap.size ≤ q → (fun q : Nat => s.heap.size ≤ q) q := fun _ h => h
  have hbA : ¬ (fun q : Nat => s.heap.size ≤ q) b := Nat.not_le.mpr hbl
  obtain ⟨hR, hP, hS, hl⟩ := h
  have hin1 : vp_in (nI (6 * i) + 1) L := by rw [show nI (6 * i) + 1 = nI (6 * i + 1) from nI_add _ 1]; exact vp_in_nI (by omega) (by omega)
  obtain ⟨r, σ', ρ', e1, e2, hR'⟩ := sim_tick hR (xs (nI (6 * i) + 1).toNatClampNeg)
  refine lv_aload_n hx hb d_law_562 rfl (lv_at hl 1 rfl) ?_
  refine lv_aload_n hx hb d_law_563 rfl (lv_at hl 0 rfl) ?_
  refine lv_iload_n hx hb d_law_564 rfl (lv_at hl 3 rfl) ?_
  refine lv_iconst (v := 1) hx hb d_law_565 (by decide) ?_
  refine lv_iadd hx hb d_law_566 ?_
  refine va_sld hx hb hX hbl hbA hS hin1 d_law_567 ?_
  refine kc_M (wF := wl_Br a k σ' ++ wl_Mo a2 k2 ρ) (va_runV (As := [.int (xs (nI (6 * i) + 1).toNatClampNeg)]) (rest := []) ⟨hx, hb, hml, hown, hts⟩ (c_Br_tick l D a k _ σ (xs (nI (6 * i) + 1).toNatClampNeg) (r, σ') e1) (cwV 1 hts (gV mv_423 mv_424 mv_425 mv_27 mv_426) rfl rfl rfl hd_Br_tick ⟨Nat.le_of_ble_eq_true rfl, Nat.le_of_ble_eq_true rfl⟩) (kp_V (ci := 5) (q := (R_Br, F_Br, 6)) (q0 := 0) hK1 (pL hP) (dL (hD σ ρ)) rfl rfl) rfl rfl hl.1 rfl (lv_room (Nat.le_of_ble_eq_true rfl)) d_law_568 ⟨Nat.le_of_ble_eq_true rfl, Nat.le_of_ble_eq_true rfl⟩) hS (dL (hD σ ρ)) hA (fun _ _ h h9 => kjL hP (hD σ ρ) h h9) (fun H locs hP hS => ?_)
  refine lv_aload_n hx hb d_law_571 rfl (lv_at hl 2 rfl) ?_
  refine lv_aload_n hx hb d_law_572 rfl (lv_at hl 0 rfl) ?_
  refine lv_iload_n hx hb d_law_573 rfl (lv_at hl 3 rfl) ?_
  refine lv_iconst (v := 1) hx hb d_law_574 (by decide) ?_
  refine lv_iadd hx hb d_law_575 ?_
  refine va_sld hx hb hX hbl hbA hS hin1 d_law_576 ?_
  refine kc_M (wF := wl_Br a k σ' ++ wl_Mo a2 k2 ρ') (va_runV (As := [.int (xs (nI (6 * i) + 1).toNatClampNeg)]) (rest := [.int r]) ⟨hx, hb, hml, hown, hts⟩ (c_Mo_tick l D a2 k2 _ ρ (xs (nI (6 * i) + 1).toNatClampNeg) (r, ρ') e2) (cwV 1 hts (gV mv_656 mv_657 mv_658 mv_33 mv_659) rfl rfl rfl hd_Mo_tick ⟨Nat.le_of_ble_eq_true rfl, Nat.le_of_ble_eq_true rfl⟩) (kp_V (ci := 6) (q := (R_Mo, F_Mo, 15)) (q0 := 0) hK2 (pR hP) (dR (hD σ ρ)) rfl rfl) rfl rfl hl.1 rfl (lv_room (Nat.le_of_ble_eq_true rfl)) d_law_577 ⟨Nat.le_of_ble_eq_true rfl, Nat.le_of_ble_eq_true rfl⟩) hS (dR (hD σ ρ)) hA (fun _ _ h h9 => kjR hP (hD σ' ρ) h h9) (fun H locs hP hS => ?_)
  refine lv_icmp_eq (tgt := 740) hx hb d_law_580 (by decide) (fun _ => ?_) (fun q => absurd rfl q)
  exact J σ' ρ' H locs ls ⟨hR', hP, hS, hl⟩
set_option maxHeartbeats 4000000 in
set_option maxRecDepth 100000 in
theorem law_c11 {p : Program} {l : Launch} {e : Env} {s : State} {m : MethodId} {below : List Frame} {meth : Method} {c : Code} {b L : Nat} {xs : Nat → Int32} {D : va_G} {a : Nat → Nat → Nat} {k : Nat → Nat → ClassId} {a2 : Nat → Nat} {k2 : Nat → ClassId} (hL : L ≤ 3072) (C0 : lw_At p s m meth c b L xs) (hK1 : va_K D cls (ty_Br k) s) (hK2 : va_K D cls (ty_Mo k2) s) (hD : ∀ σ ρ, va_D (fun q : Nat => s.heap.size ≤ q) (wl_Br a k σ ++ wl_Mo a2 k2 ρ)) {i : Nat} (hi : 6 * i + 6 ≤ L) (J : ∀ σ ρ H locs ls, LH s D a k a2 k2 b i σ ρ H locs ls → LW p l e s m below meth c b H locs 740 ls) {σ : S_Br} {ρ : S_Mo} {H : Heap} {locs : List Loc} {ls : Array Slot} (h : LH s D a k a2 k2 b i σ ρ H locs ls) : LW p l e s m below meth c b H locs 585 ls := by
  obtain ⟨hx, hb, hr, hml, hown, hts0, hX, hbl, hlocks, hgv⟩ := C0
  have hts : ∀ w ∈ lw_g, w.before #[Value.ref b] s = true := fun w h => hts0 w (List.mem_filter.mp h).1
  have hA : ∀ q : Nat, s.heap.size ≤ q → (fun q : Nat => s.heap.size ≤ q) q := fun _ h => h
  have hbA : ¬ (fun q : Nat => s.heap.size ≤ q) b := Nat.not_le.mpr hbl
  obtain ⟨hR, hP, hS, hl⟩ := h
  have hin1 : vp_in (nI (6 * i) + 1) L := by rw [show nI (6 * i) + 1 = nI (6 * i + 1) from nI_add _ 1]; exact vp_in_nI (by omega) (by omega)
  have hin2 : vp_in (nI (6 * i) + 2) L := by rw [show nI (6 * i) + 2 = nI (6 * i + 2) from nI_add _ 2]; exact vp_in_nI (by omega) (by omega)
  obtain ⟨r, ρ', e1, e2, hR'⟩ := sim_clash hR (xs (nI (6 * i) + 1).toNatClampNeg) (xs (nI (6 * i) + 2).toNatClampNeg)
  refine lv_aload_n hx hb d_law_585 rfl (lv_at hl 1 rfl) ?_
  refine lv_aload_n hx hb d_law_586 rfl (lv_at hl 0 rfl) ?_
  refine lv_iload_n hx hb d_law_587 rfl (lv_at hl 3 rfl) ?_
  refine lv_iconst (v := 1) hx hb d_law_588 (by decide) ?_
  refine lv_iadd hx hb d_law_589 ?_
  refine va_sld hx hb hX hbl hbA hS hin1 d_law_590 ?_
  refine lv_aload_n hx hb d_law_591 rfl (lv_at hl 0 rfl) ?_
  refine lv_iload_n hx hb d_law_592 rfl (lv_at hl 3 rfl) ?_
  refine lv_iconst (v := 2) hx hb d_law_593 (by decide) ?_
  refine lv_iadd hx hb d_law_594 ?_
  refine va_sld hx hb hX hbl hbA hS hin2 d_law_595 ?_
  refine kc_R (va_runV (As := [.int (xs (nI (6 * i) + 1).toNatClampNeg), .int (xs (nI (6 * i) + 2).toNatClampNeg)]) (rest := []) ⟨hx, hb, hml, hown, hts⟩ (c_Br_clash l D a k _ σ (xs (nI (6 * i) + 1).toNatClampNeg) (xs (nI (6 * i) + 2).toNatClampNeg) r e1) (cwV 2 hts (gV mv_443 mv_444 mv_445 mv_27 mv_446) rfl rfl rfl hd_Br_clash ⟨Nat.le_of_ble_eq_true rfl, Nat.le_of_ble_eq_true rfl⟩) (kp_V (ci := 5) (q := (R_Br, F_Br, 6)) (q0 := 0) hK1 (pL hP) (dL (hD σ ρ)) rfl rfl) rfl rfl hl.1 rfl (lv_room (Nat.le_of_ble_eq_true rfl)) d_law_596 ⟨Nat.le_of_ble_eq_true rfl, Nat.le_of_ble_eq_true rfl⟩) hS hA hP (fun H locs hP hS => ?_)
  refine lv_aload_n hx hb d_law_599 rfl (lv_at hl 2 rfl) ?_
  refine lv_aload_n hx hb d_law_600 rfl (lv_at hl 0 rfl) ?_
  refine lv_iload_n hx hb d_law_601 rfl (lv_at hl 3 rfl) ?_
  refine lv_iconst (v := 1) hx hb d_law_602 (by decide) ?_
  refine lv_iadd hx hb d_law_603 ?_
  refine va_sld hx hb hX hbl hbA hS hin1 d_law_604 ?_
  refine lv_aload_n hx hb d_law_605 rfl (lv_at hl 0 rfl) ?_
  refine lv_iload_n hx hb d_law_606 rfl (lv_at hl 3 rfl) ?_
  refine lv_iconst (v := 2) hx hb d_law_607 (by decide) ?_
  refine lv_iadd hx hb d_law_608 ?_
  refine va_sld hx hb hX hbl hbA hS hin2 d_law_609 ?_
  refine kc_M (wF := wl_Br a k σ ++ wl_Mo a2 k2 ρ') (va_runV (As := [.int (xs (nI (6 * i) + 1).toNatClampNeg), .int (xs (nI (6 * i) + 2).toNatClampNeg)]) (rest := [.int r]) ⟨hx, hb, hml, hown, hts⟩ (c_Mo_clash l D a2 k2 _ ρ (xs (nI (6 * i) + 1).toNatClampNeg) (xs (nI (6 * i) + 2).toNatClampNeg) (r, ρ') e2) (cwV 2 hts (gV mv_660 mv_661 mv_662 mv_33 mv_663) rfl rfl rfl hd_Mo_clash ⟨Nat.le_of_ble_eq_true rfl, Nat.le_of_ble_eq_true rfl⟩) (kp_V (ci := 6) (q := (R_Mo, F_Mo, 15)) (q0 := 0) hK2 (pR hP) (dR (hD σ ρ)) rfl rfl) rfl rfl hl.1 rfl (lv_room (Nat.le_of_ble_eq_true rfl)) d_law_610 ⟨Nat.le_of_ble_eq_true rfl, Nat.le_of_ble_eq_true rfl⟩) hS (dR (hD σ ρ)) hA (fun _ _ h h9 => kjR hP (hD σ ρ) h h9) (fun H locs hP hS => ?_)
  refine lv_icmp_eq (tgt := 740) hx hb d_law_613 (by decide) (fun _ => ?_) (fun q => absurd rfl q)
  exact J σ ρ' H locs ls ⟨hR', hP, hS, hl⟩
