set_option maxHeartbeats 4000000 in
set_option maxRecDepth 100000 in
theorem law_c12 {p : Program} {l : Launch} {e : Env} {s : State} {m : MethodId} {below : List Frame} {meth : Method} {c : Code} {b L : Nat} {xs : Nat → Int32} {D : va_G} {a : Nat → Nat → Nat} {k : Nat → Nat → ClassId} {a2 : Nat → Nat} {k2 : Nat → ClassId} (hL : L ≤ 3072) (C0 : lw_At p s m meth c b L xs) (hK1 : va_K D cls (ty_Br k) s) (hK2 : va_K D cls (ty_Mo k2) s) (hD : ∀ σ ρ, va_D (fun q : Nat => s.heap.size ≤ q) (wl_Br a k σ ++ wl_Mo a2 k2 ρ)) {i : Nat} (hi : 6 * i + 6 ≤ L) (J : ∀ σ ρ H locs ls, LH s D a k a2 k2 b i σ ρ H locs ls → LW p l e s m below meth c b H locs 740 ls) {σ : S_Br} {ρ : S_Mo} {H : Heap} {locs : List Loc} {ls : Array Slot} (h : LH s D a k a2 k2 b i σ ρ H locs ls) : LW p l e s m below meth c b H locs 618 ls := by
  obtain ⟨hx, hb, hr, hml, hown, hts0, hX, hbl, hlocks, hgv⟩ := C0
  have hts : ∀ w ∈ lw_g, w.before #[Value.ref b] s = true := fun w h => hts0 w (List.mem_filter.mp h).1
  have hA : ∀ q : Nat, s.heap.size ≤ q → (fun q : Nat => s.heap.size ≤ q) q := fun _ h => h
  have hbA : ¬ (fun q : Nat => s.heap.size ≤ q) b := Nat.not_le.mpr hbl
  obtain ⟨hR, hP, hS, hl⟩ := h
  have hin1 : vp_in (nI (6 * i) + 1) L := by rw [show nI (6 * i) + 1 = nI (6 * i + 1) from nI_add _ 1]; exact vp_in_nI (by omega) (by omega)
  have hin2 : vp_in (nI (6 * i) + 2) L := by rw [show nI (6 * i) + 2 = nI (6 * i + 2) from nI_add _ 2]; exact vp_in_nI (by omega) (by omega)
  obtain ⟨r, ρ', e1, e2, hR'⟩ := sim_booking hR (xs (nI (6 * i) + 1).toNatClampNeg) (xs (nI (6 * i) + 2).toNatClampNeg)
  refine lv_aload_n hx hb d_law_618 rfl (lv_at hl 1 rfl) ?_
  refine lv_aload_n hx hb d_law_619 rfl (lv_at hl 0 rfl) ?_
  refine lv_iload_n hx hb d_law_620 rfl (lv_at hl 3 rfl) ?_
  refine lv_iconst (v := 1) hx hb d_law_621 (by decide) ?_
  refine lv_iadd hx hb d_law_622 ?_
  refine va_sld hx hb hX hbl hbA hS hin1 d_law_623 ?_
  refine lv_aload_n hx hb d_law_624 rfl (lv_at hl 0 rfl) ?_
  refine lv_iload_n hx hb d_law_625 rfl (lv_at hl 3 rfl) ?_
  refine lv_iconst (v := 2) hx hb d_law_626 (by decide) ?_
  refine lv_iadd hx hb d_law_627 ?_
  refine va_sld hx hb hX hbl hbA hS hin2 d_law_628 ?_
  refine kc_R (va_runV (As := [.int (xs (nI (6 * i) + 1).toNatClampNeg), .int (xs (nI (6 * i) + 2).toNatClampNeg)]) (rest := []) ⟨hx, hb, hml, hown, hts⟩ (c_Br_booking l D a k _ σ (xs (nI (6 * i) + 1).toNatClampNeg) (xs (nI (6 * i) + 2).toNatClampNeg) r e1) (cwV 2 hts (gV mv_448 mv_449 mv_450 mv_27 mv_451) rfl rfl rfl hd_Br_booking ⟨Nat.le_of_ble_eq_true rfl, Nat.le_of_ble_eq_true rfl⟩) (kp_V (ci := 5) (q := (R_Br, F_Br, 6)) (q0 := 0) hK1 (pL hP) (dL (hD σ ρ)) rfl rfl) rfl rfl hl.1 rfl (lv_room (Nat.le_of_ble_eq_true rfl)) d_law_629 ⟨Nat.le_of_ble_eq_true rfl, Nat.le_of_ble_eq_true rfl⟩) hS hA hP (fun H locs hP hS => ?_)
  refine lv_aload_n hx hb d_law_632 rfl (lv_at hl 2 rfl) ?_
  refine lv_aload_n hx hb d_law_633 rfl (lv_at hl 0 rfl) ?_
  refine lv_iload_n hx hb d_law_634 rfl (lv_at hl 3 rfl) ?_
  refine lv_iconst (v := 1) hx hb d_law_635 (by decide) ?_
  refine lv_iadd hx hb d_law_636 ?_
  refine va_sld hx hb hX hbl hbA hS hin1 d_law_637 ?_
  refine lv_aload_n hx hb d_law_638 rfl (lv_at hl 0 rfl) ?_
  refine lv_iload_n hx hb d_law_639 rfl (lv_at hl 3 rfl) ?_
  refine lv_iconst (v := 2) hx hb d_law_640 (by decide) ?_
  refine lv_iadd hx hb d_law_641 ?_
  refine va_sld hx hb hX hbl hbA hS hin2 d_law_642 ?_
  refine kc_M (wF := wl_Br a k σ ++ wl_Mo a2 k2 ρ') (va_runV (As := [.int (xs (nI (6 * i) + 1).toNatClampNeg), .int (xs (nI (6 * i) + 2).toNatClampNeg)]) (rest := [.int r]) ⟨hx, hb, hml, hown, hts⟩ (c_Mo_booking l D a2 k2 _ ρ (xs (nI (6 * i) + 1).toNatClampNeg) (xs (nI (6 * i) + 2).toNatClampNeg) (r, ρ') e2) (cwV 2 hts (gV mv_664 mv_665 mv_666 mv_33 mv_667) rfl rfl rfl hd_Mo_booking ⟨Nat.le_of_ble_eq_true rfl, Nat.le_of_ble_eq_true rfl⟩) (kp_V (ci := 6) (q := (R_Mo, F_Mo, 15)) (q0 := 0) hK2 (pR hP) (dR (hD σ ρ)) rfl rfl) rfl rfl hl.1 rfl (lv_room (Nat.le_of_ble_eq_true rfl)) d_law_643 ⟨Nat.le_of_ble_eq_true rfl, Nat.le_of_ble_eq_true rfl⟩) hS (dR (hD σ ρ)) hA (fun _ _ h h9 => kjR hP (hD σ ρ) h h9) (fun H locs hP hS => ?_)
  refine lv_icmp_eq (tgt := 740) hx hb d_law_646 (by decide) (fun _ => ?_) (fun q => absurd rfl q)
  exact J σ ρ' H locs ls ⟨hR', hP, hS, hl⟩
set_option maxHeartbeats 4000000 in
set_option maxRecDepth 100000 in
theorem law_c13 {p : Program} {l : Launch} {e : Env} {s : State} {m : MethodId} {below : List Frame} {meth : Method} {c : Code} {b L : Nat} {xs : Nat → Int32} {D : va_G} {a : Nat → Nat → Nat} {k : Nat → Nat → ClassId} {a2 : Nat → Nat} {k2 : Nat → ClassId} (hL : L ≤ 3072) (C0 : lw_At p s m meth c b L xs) (hK1 : va_K D cls (ty_Br k) s) (hK2 : va_K D cls (ty_Mo k2) s) (hD : ∀ σ ρ, va_D (fun q : Nat => s.heap.size ≤ q) (wl_Br a k σ ++ wl_Mo a2 k2 ρ)) {i : Nat} (hi : 6 * i + 6 ≤ L) (J : ∀ σ ρ H locs ls, LH s D a k a2 k2 b i σ ρ H locs ls → LW p l e s m below meth c b H locs 740 ls) {σ : S_Br} {ρ : S_Mo} {H : Heap} {locs : List Loc} {ls : Array Slot} (h : LH s D a k a2 k2 b i σ ρ H locs ls) : LW p l e s m below meth c b H locs 651 ls := by
  obtain ⟨hx, hb, hr, hml, hown, hts0, hX, hbl, hlocks, hgv⟩ := C0
  have hts : ∀ w ∈ lw_g, w.before #[Value.ref b] s = true := fun w h => hts0 w (List.mem_filter.mp h).1
  have hA : ∀ q : Nat, s.heap.size ≤ q → (fun q : Nat => s.heap.size ≤ q) q := fun _ h => h
  have hbA : ¬ (fun q : Nat => s.heap.size ≤ q) b := Nat.not_le.mpr hbl
  obtain ⟨hR, hP, hS, hl⟩ := h
  have hin1 : vp_in (nI (6 * i) + 1) L := by rw [show nI (6 * i) + 1 = nI (6 * i + 1) from nI_add _ 1]; exact vp_in_nI (by omega) (by omega)
  have hin2 : vp_in (nI (6 * i) + 2) L := by rw [show nI (6 * i) + 2 = nI (6 * i + 2) from nI_add _ 2]; exact vp_in_nI (by omega) (by omega)
  obtain ⟨r, ρ', e1, e2, hR'⟩ := sim_list hR (xs (nI (6 * i) + 1).toNatClampNeg) (xs (nI (6 * i) + 2).toNatClampNeg)
  refine lv_aload_n hx hb d_law_651 rfl (lv_at hl 1 rfl) ?_
  refine lv_aload_n hx hb d_law_652 rfl (lv_at hl 0 rfl) ?_
  refine lv_iload_n hx hb d_law_653 rfl (lv_at hl 3 rfl) ?_
  refine lv_iconst (v := 1) hx hb d_law_654 (by decide) ?_
  refine lv_iadd hx hb d_law_655 ?_
  refine va_sld hx hb hX hbl hbA hS hin1 d_law_656 ?_
  refine lv_aload_n hx hb d_law_657 rfl (lv_at hl 0 rfl) ?_
  refine lv_iload_n hx hb d_law_658 rfl (lv_at hl 3 rfl) ?_
  refine lv_iconst (v := 2) hx hb d_law_659 (by decide) ?_
  refine lv_iadd hx hb d_law_660 ?_
  refine va_sld hx hb hX hbl hbA hS hin2 d_law_661 ?_
  refine kc_R (va_runV (As := [.int (xs (nI (6 * i) + 1).toNatClampNeg), .int (xs (nI (6 * i) + 2).toNatClampNeg)]) (rest := []) ⟨hx, hb, hml, hown, hts⟩ (c_Br_list l D a k _ σ (xs (nI (6 * i) + 1).toNatClampNeg) (xs (nI (6 * i) + 2).toNatClampNeg) r e1) (cwV 2 hts (gV mv_460 mv_461 mv_462 mv_27 mv_463) rfl rfl rfl hd_Br_list ⟨Nat.le_of_ble_eq_true rfl, Nat.le_of_ble_eq_true rfl⟩) (kp_V (ci := 5) (q := (R_Br, F_Br, 6)) (q0 := 0) hK1 (pL hP) (dL (hD σ ρ)) rfl rfl) rfl rfl hl.1 rfl (lv_room (Nat.le_of_ble_eq_true rfl)) d_law_662 ⟨Nat.le_of_ble_eq_true rfl, Nat.le_of_ble_eq_true rfl⟩) hS hA hP (fun H locs hP hS => ?_)
  refine lv_aload_n hx hb d_law_665 rfl (lv_at hl 2 rfl) ?_
  refine lv_aload_n hx hb d_law_666 rfl (lv_at hl 0 rfl) ?_
  refine lv_iload_n hx hb d_law_667 rfl (lv_at hl 3 rfl) ?_
  refine lv_iconst (v := 1) hx hb d_law_668 (by decide) ?_
  refine lv_iadd hx hb d_law_669 ?_
  refine va_sld hx hb hX hbl hbA hS hin1 d_law_670 ?_
  refine lv_aload_n hx hb d_law_671 rfl (lv_at hl 0 rfl) ?_
  refine lv_iload_n hx hb d_law_672 rfl (lv_at hl 3 rfl) ?_
  refine lv_iconst (v := 2) hx hb d_law_673 (by decide) ?_
  refine lv_iadd hx hb d_law_674 ?_
  refine va_sld hx hb hX hbl hbA hS hin2 d_law_675 ?_
  refine kc_M (wF := wl_Br a k σ ++ wl_Mo a2 k2 ρ') (va_runV (As := [.int (xs (nI (6 * i) + 1).toNatClampNeg), .int (xs (nI (6 * i) + 2).toNatClampNeg)]) (rest := [.int r]) ⟨hx, hb, hml, hown, hts⟩ (c_Mo_list l D a2 k2 _ ρ (xs (nI (6 * i) + 1).toNatClampNeg) (xs (nI (6 * i) + 2).toNatClampNeg) (r, ρ') e2) (cwV 2 hts (gV mv_668 mv_669 mv_670 mv_33 mv_671) rfl rfl rfl hd_Mo_list ⟨Nat.le_of_ble_eq_true rfl, Nat.le_of_ble_eq_true rfl⟩) (kp_V (ci := 6) (q := (R_Mo, F_Mo, 15)) (q0 := 0) hK2 (pR hP) (dR (hD σ ρ)) rfl rfl) rfl rfl hl.1 rfl (lv_room (Nat.le_of_ble_eq_true rfl)) d_law_676 ⟨Nat.le_of_ble_eq_true rfl, Nat.le_of_ble_eq_true rfl⟩) hS (dR (hD σ ρ)) hA (fun _ _ h h9 => kjR hP (hD σ ρ) h h9) (fun H locs hP hS => ?_)
  refine lv_icmp_eq (tgt := 740) hx hb d_law_679 (by decide) (fun _ => ?_) (fun q => absurd rfl q)
  exact J σ ρ' H locs ls ⟨hR', hP, hS, hl⟩
set_option maxHeartbeats 4000000 in
set_option maxRecDepth 100000 in
theorem law_c14 {p : Program} {l : Launch} {e : Env} {s : State} {m : MethodId} {below : List Frame} {meth : Method} {c : Code} {b L : Nat} {xs : Nat → Int32} {D : va_G} {a : Nat → Nat → Nat} {k : Nat → Nat → ClassId} {a2 : Nat → Nat} {k2 : Nat → ClassId} (hL : L ≤ 3072) (C0 : lw_At p s m meth c b L xs) (hK1 : va_K D cls (ty_Br k) s) (hK2 : va_K D cls (ty_Mo k2) s) (hD : ∀ σ ρ, va_D (fun q : Nat => s.heap.size ≤ q) (wl_Br a k σ ++ wl_Mo a2 k2 ρ)) {i : Nat} (hi : 6 * i + 6 ≤ L) (J : ∀ σ ρ H locs ls, LH s D a k a2 k2 b i σ ρ H locs ls → LW p l e s m below meth c b H locs 740 ls) {σ : S_Br} {ρ : S_Mo} {H : Heap} {locs : List Loc} {ls : Array Slot} (h : LH s D a k a2 k2 b i σ ρ H locs ls) : LW p l e s m below meth c b H locs 684 ls := by
  obtain ⟨hx, hb, hr, hml, hown, hts0, hX, hbl, hlocks, hgv⟩ := C0
  have hts : ∀ w ∈ lw_g, w.before #[Value.ref b] s = true := fun w h => hts0 w (List.mem_filter.mp h).1
  have hA : ∀ q : Nat, s.heap.size ≤ q → (fun q : Nat => s.heap.size ≤ q) q := fun _ h => h
  have hbA : ¬ (fun q : Nat => s.heap.size ≤ q) b := Nat.not_le.mpr hbl
  obtain ⟨hR, hP, hS, hl⟩ := h
  have hin1 : vp_in (nI (6 * i) + 1) L := by rw [show nI (6 * i) + 1 = nI (6 * i + 1) from nI_add _ 1]; exact vp_in_nI (by omega) (by omega)
  have hin2 : vp_in (nI (6 * i) + 2) L := by rw [show nI (6 * i) + 2 = nI (6 * i + 2) from nI_add _ 2]; exact vp_in_nI (by omega) (by omega)
  obtain ⟨r, ρ', e1, e2, hR'⟩ := sim_person hR (xs (nI (6 * i) + 1).toNatClampNeg) (xs (nI (6 * i) + 2).toNatClampNeg)
  refine lv_aload_n hx hb d_law_684 rfl (lv_at hl 1 rfl) ?_
  refine lv_aload_n hx hb d_law_685 rfl (lv_at hl 0 rfl) ?_
  refine lv_iload_n hx hb d_law_686 rfl (lv_at hl 3 rfl) ?_
  refine lv_iconst (v := 1) hx hb d_law_687 (by decide) ?_
  refine lv_iadd hx hb d_law_688 ?_
  refine va_sld hx hb hX hbl hbA hS hin1 d_law_689 ?_
  refine lv_aload_n hx hb d_law_690 rfl (lv_at hl 0 rfl) ?_
  refine lv_iload_n hx hb d_law_691 rfl (lv_at hl 3 rfl) ?_
  refine lv_iconst (v := 2) hx hb d_law_692 (by decide) ?_
  refine lv_iadd hx hb d_law_693 ?_
  refine va_sld hx hb hX hbl hbA hS hin2 d_law_694 ?_
  refine kc_R (va_runV (As := [.int (xs (nI (6 * i) + 1).toNatClampNeg), .int (xs (nI (6 * i) + 2).toNatClampNeg)]) (rest := []) ⟨hx, hb, hml, hown, hts⟩ (c_Br_person l D a k _ σ (xs (nI (6 * i) + 1).toNatClampNeg) (xs (nI (6 * i) + 2).toNatClampNeg) r e1) (cwV 2 hts (gV mv_472 mv_473 mv_474 mv_27 mv_475) rfl rfl rfl hd_Br_person ⟨Nat.le_of_ble_eq_true rfl, Nat.le_of_ble_eq_true rfl⟩) (kp_V (ci := 5) (q := (R_Br, F_Br, 6)) (q0 := 0) hK1 (pL hP) (dL (hD σ ρ)) rfl rfl) rfl rfl hl.1 rfl (lv_room (Nat.le_of_ble_eq_true rfl)) d_law_695 ⟨Nat.le_of_ble_eq_true rfl, Nat.le_of_ble_eq_true rfl⟩) hS hA hP (fun H locs hP hS => ?_)
  refine lv_aload_n hx hb d_law_698 rfl (lv_at hl 2 rfl) ?_
  refine lv_aload_n hx hb d_law_699 rfl (lv_at hl 0 rfl) ?_
  refine lv_iload_n hx hb d_law_700 rfl (lv_at hl 3 rfl) ?_
  refine lv_iconst (v := 1) hx hb d_law_701 (by decide) ?_
  refine lv_iadd hx hb d_law_702 ?_
  refine va_sld hx hb hX hbl hbA hS hin1 d_law_703 ?_
  refine lv_aload_n hx hb d_law_704 rfl (lv_at hl 0 rfl) ?_
  refine lv_iload_n hx hb d_law_705 rfl (lv_at hl 3 rfl) ?_
  refine lv_iconst (v := 2) hx hb d_law_706 (by decide) ?_
  refine lv_iadd hx hb d_law_707 ?_
  refine va_sld hx hb hX hbl hbA hS hin2 d_law_708 ?_
  refine kc_M (wF := wl_Br a k σ ++ wl_Mo a2 k2 ρ') (va_runV (As := [.int (xs (nI (6 * i) + 1).toNatClampNeg), .int (xs (nI (6 * i) + 2).toNatClampNeg)]) (rest := [.int r]) ⟨hx, hb, hml, hown, hts⟩ (c_Mo_person l D a2 k2 _ ρ (xs (nI (6 * i) + 1).toNatClampNeg) (xs (nI (6 * i) + 2).toNatClampNeg) (r, ρ') e2) (cwV 2 hts (gV mv_676 mv_677 mv_678 mv_33 mv_679) rfl rfl rfl hd_Mo_person ⟨Nat.le_of_ble_eq_true rfl, Nat.le_of_ble_eq_true rfl⟩) (kp_V (ci := 6) (q := (R_Mo, F_Mo, 15)) (q0 := 0) hK2 (pR hP) (dR (hD σ ρ)) rfl rfl) rfl rfl hl.1 rfl (lv_room (Nat.le_of_ble_eq_true rfl)) d_law_709 ⟨Nat.le_of_ble_eq_true rfl, Nat.le_of_ble_eq_true rfl⟩) hS (dR (hD σ ρ)) hA (fun _ _ h h9 => kjR hP (hD σ ρ) h h9) (fun H locs hP hS => ?_)
  refine lv_icmp_eq (tgt := 740) hx hb d_law_712 (by decide) (fun _ => ?_) (fun q => absurd rfl q)
  exact J σ ρ' H locs ls ⟨hR', hP, hS, hl⟩
set_option maxHeartbeats 4000000 in
set_option maxRecDepth 100000 in
theorem law_c15 {p : Program} {l : Launch} {e : Env} {s : State} {m : MethodId} {below : List Frame} {meth : Method} {c : Code} {b L : Nat} {xs : Nat → Int32} {D : va_G} {a : Nat → Nat → Nat} {k : Nat → Nat → ClassId} {a2 : Nat → Nat} {k2 : Nat → ClassId} (hL : L ≤ 3072) (C0 : lw_At p s m meth c b L xs) (hK1 : va_K D cls (ty_Br k) s) (hK2 : va_K D cls (ty_Mo k2) s) (hD : ∀ σ ρ, va_D (fun q : Nat => s.heap.size ≤ q) (wl_Br a k σ ++ wl_Mo a2 k2 ρ)) {i : Nat} (hi : 6 * i + 6 ≤ L) (J : ∀ σ ρ H locs ls, LH s D a k a2 k2 b i σ ρ H locs ls → LW p l e s m below meth c b H locs 740 ls) {σ : S_Br} {ρ : S_Mo} {H : Heap} {locs : List Loc} {ls : Array Slot} (h : LH s D a k a2 k2 b i σ ρ H locs ls) : LW p l e s m below meth c b H locs 717 ls := by
  obtain ⟨hx, hb, hr, hml, hown, hts0, hX, hbl, hlocks, hgv⟩ := C0
  have hts : ∀ w ∈ lw_g, w.before #[Value.ref b] s = true := fun w h => hts0 w (List.mem_filter.mp h).1
  have hA : ∀ q : Nat, s.heap.size ≤ q → (fun q : Nat => s.heap.size ≤ q) q := fun _ h => h
  have hbA : ¬ (fun q : Nat => s.heap.size ≤ q) b := Nat.not_le.mpr hbl
  obtain ⟨hR, hP, hS, hl⟩ := h
  have hin1 : vp_in (nI (6 * i) + 1) L := by rw [show nI (6 * i) + 1 = nI (6 * i + 1) from nI_add _ 1]; exact vp_in_nI (by omega) (by omega)
  obtain ⟨r, ρ', e1, e2, hR'⟩ := sim_used hR (xs (nI (6 * i) + 1).toNatClampNeg)
  refine lv_aload_n hx hb d_law_717 rfl (lv_at hl 1 rfl) ?_
  refine lv_aload_n hx hb d_law_718 rfl (lv_at hl 0 rfl) ?_
  refine lv_iload_n hx hb d_law_719 rfl (lv_at hl 3 rfl) ?_
  refine lv_iconst (v := 1) hx hb d_law_720 (by decide) ?_
  refine lv_iadd hx hb d_law_721 ?_
  refine va_sld hx hb hX hbl hbA hS hin1 d_law_722 ?_
  refine kc_R (va_runV (As := [.int (xs (nI (6 * i) + 1).toNatClampNeg)]) (rest := []) ⟨hx, hb, hml, hown, hts⟩ (c_Br_used l D a k _ σ (xs (nI (6 * i) + 1).toNatClampNeg) r e1) (cwV 1 hts (gV mv_484 mv_485 mv_486 mv_27 mv_487) rfl rfl rfl hd_Br_used ⟨Nat.le_of_ble_eq_true rfl, Nat.le_of_ble_eq_true rfl⟩) (kp_V (ci := 5) (q := (R_Br, F_Br, 6)) (q0 := 0) hK1 (pL hP) (dL (hD σ ρ)) rfl rfl) rfl rfl hl.1 rfl (lv_room (Nat.le_of_ble_eq_true rfl)) d_law_723 ⟨Nat.le_of_ble_eq_true rfl, Nat.le_of_ble_eq_true rfl⟩) hS hA hP (fun H locs hP hS => ?_)
  refine lv_aload_n hx hb d_law_726 rfl (lv_at hl 2 rfl) ?_
  refine lv_aload_n hx hb d_law_727 rfl (lv_at hl 0 rfl) ?_
  refine lv_iload_n hx hb d_law_728 rfl (lv_at hl 3 rfl) ?_
  refine lv_iconst (v := 1) hx hb d_law_729 (by decide) ?_
  refine lv_iadd hx hb d_law_730 ?_
  refine va_sld hx hb hX hbl hbA hS hin1 d_law_731 ?_
  refine kc_M (wF := wl_Br a k σ ++ wl_Mo a2 k2 ρ') (va_runV (As := [.int (xs (nI (6 * i) + 1).toNatClampNeg)]) (rest := [.int r]) ⟨hx, hb, hml, hown, hts⟩ (c_Mo_used l D a2 k2 _ ρ (xs (nI (6 * i) + 1).toNatClampNeg) (r, ρ') e2) (cwV 1 hts (gV mv_680 mv_681 mv_682 mv_33 mv_683) rfl rfl rfl hd_Mo_used ⟨Nat.le_of_ble_eq_true rfl, Nat.le_of_ble_eq_true rfl⟩) (kp_V (ci := 6) (q := (R_Mo, F_Mo, 15)) (q0 := 0) hK2 (pR hP) (dR (hD σ ρ)) rfl rfl) rfl rfl hl.1 rfl (lv_room (Nat.le_of_ble_eq_true rfl)) d_law_732 ⟨Nat.le_of_ble_eq_true rfl, Nat.le_of_ble_eq_true rfl⟩) hS (dR (hD σ ρ)) hA (fun _ _ h h9 => kjR hP (hD σ ρ) h h9) (fun H locs hP hS => ?_)
  refine lv_icmp_eq (tgt := 740) hx hb d_law_735 (by decide) (fun _ => ?_) (fun q => absurd rfl q)
  exact J σ ρ' H locs ls ⟨hR', hP, hS, hl⟩
