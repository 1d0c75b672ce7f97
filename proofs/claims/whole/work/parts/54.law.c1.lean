set_option maxHeartbeats 4000000 in
set_option maxRecDepth 100000 in
theorem law_c4 {p : Program} {l : Launch} {e : Env} {s : State} {m : MethodId} {below : List Frame} {meth : Method} {c : Code} {b L : Nat} {xs : Nat → Int32} {D : va_G} {a : Nat → Nat → Nat} {k : Nat → Nat → ClassId} {a2 : Nat → Nat} {k2 : Nat → ClassId} (hL : L ≤ 3072) (C0 : lw_At p s m meth c b L xs) (hK1 : va_K D cls (ty_Br k) s) (hK2 : va_K D cls (ty_Mo k2) s) (hD : ∀ σ ρ, va_D (fun q : Nat => s.heap.size ≤ q) (wl_Br a k σ ++ wl_Mo a2 k2 ρ)) {i : Nat} (hi : 6 * i + 6 ≤ L) (J : ∀ σ ρ H locs ls, LH s D a k a2 k2 b i σ ρ H locs ls → LW p l e s m below meth c b H locs 740 ls) {σ : S_Br} {ρ : S_Mo} {H : Heap} {locs : List Loc} {ls : Array Slot} (h : LH s D a k a2 k2 b i σ ρ H locs ls) : LW p l e s m below meth c b H locs 304 ls := by
  obtain ⟨hx, hb, hr, hml, hown, hts0, hX, hbl, hlocks, hgv⟩ := C0
  have hts : ∀ w ∈ lw_g, w.before #[Value.ref b] s = true := fun w h => hts0 w (List.mem_filter.mp h).1
  have hA : ∀ q : Nat, s.heap.size ≤ q → (fun q : Nat => s.heap.size ≤ q) q := fun _ h => h
  have hbA : ¬ (fun q : Nat => s.heap.size ≤ q) b := Nat.not_le.mpr hbl
  obtain ⟨hR, hP, hS, hl⟩ := h
  have hin1 : vp_in (nI (6 * i) + 1) L := by rw [show nI (6 * i) + 1 = nI (6 * i + 1) from nI_add _ 1]; exact vp_in_nI (by omega) (by omega)
  have hin2 : vp_in (nI (6 * i) + 2) L := by rw [show nI (6 * i) + 2 = nI (6 * i + 2) from nI_add _ 2]; exact vp_in_nI (by omega) (by omega)
  have hin3 : vp_in (nI (6 * i) + 3) L := by rw [show nI (6 * i) + 3 = nI (6 * i + 3) from nI_add _ 3]; exact vp_in_nI (by omega) (by omega)
  obtain ⟨r, σ', ρ', e1, e2, hR'⟩ := sim_recurring hR (xs (nI (6 * i) + 1).toNatClampNeg) (xs (nI (6 * i) + 2).toNatClampNeg) (xs (nI (6 * i) + 3).toNatClampNeg)
  refine lv_aload_n hx hb d_law_304 rfl (lv_at hl 1 rfl) ?_
  refine lv_aload_n hx hb d_law_305 rfl (lv_at hl 0 rfl) ?_
  refine lv_iload_n hx hb d_law_306 rfl (lv_at hl 3 rfl) ?_
  refine lv_iconst (v := 1) hx hb d_law_307 (by decide) ?_
  refine lv_iadd hx hb d_law_308 ?_
  refine va_sld hx hb hX hbl hbA hS hin1 d_law_309 ?_
  refine lv_aload_n hx hb d_law_310 rfl (lv_at hl 0 rfl) ?_
  refine lv_iload_n hx hb d_law_311 rfl (lv_at hl 3 rfl) ?_
  refine lv_iconst (v := 2) hx hb d_law_312 (by decide) ?_
  refine lv_iadd hx hb d_law_313 ?_
  refine va_sld hx hb hX hbl hbA hS hin2 d_law_314 ?_
  refine lv_aload_n hx hb d_law_315 rfl (lv_at hl 0 rfl) ?_
  refine lv_iload_n hx hb d_law_316 rfl (lv_at hl 3 rfl) ?_
  refine lv_iconst (v := 3) hx hb d_law_317 (by decide) ?_
  refine lv_iadd hx hb d_law_318 ?_
  refine va_sld hx hb hX hbl hbA hS hin3 d_law_319 ?_
  refine kc_M (wF := wl_Br a k σ' ++ wl_Mo a2 k2 ρ) (va_runV (As := [.int (xs (nI (6 * i) + 1).toNatClampNeg), .int (xs (nI (6 * i) + 2).toNatClampNeg), .int (xs (nI (6 * i) + 3).toNatClampNeg)]) (rest := []) ⟨hx, hb, hml, hown, hts⟩ (c_Br_recurring l D a k _ σ (xs (nI (6 * i) + 1).toNatClampNeg) (xs (nI (6 * i) + 2).toNatClampNeg) (xs (nI (6 * i) + 3).toNatClampNeg) (r, σ') e1) (cwV 3 hts (gV mv_289 mv_290 mv_291 mv_27 mv_292) rfl rfl rfl hd_Br_recurring ⟨Nat.le_of_ble_eq_true rfl, Nat.le_of_ble_eq_true rfl⟩) (kp_V (ci := 5) (q := (R_Br, F_Br, 6)) (q0 := 0) hK1 (pL hP) (dL (hD σ ρ)) rfl rfl) rfl rfl hl.1 rfl (lv_room (Nat.le_of_ble_eq_true rfl)) d_law_320 ⟨Nat.le_of_ble_eq_true rfl, Nat.le_of_ble_eq_true rfl⟩) hS (dL (hD σ ρ)) hA (fun _ _ h h9 => kjL hP (hD σ ρ) h h9) (fun H locs hP hS => ?_)
  refine lv_aload_n hx hb d_law_323 rfl (lv_at hl 2 rfl) ?_
  refine lv_aload_n hx hb d_law_324 rfl (lv_at hl 0 rfl) ?_
  refine lv_iload_n hx hb d_law_325 rfl (lv_at hl 3 rfl) ?_
  refine lv_iconst (v := 1) hx hb d_law_326 (by decide) ?_
  refine lv_iadd hx hb d_law_327 ?_
  refine va_sld hx hb hX hbl hbA hS hin1 d_law_328 ?_
  refine lv_aload_n hx hb d_law_329 rfl (lv_at hl 0 rfl) ?_
  refine lv_iload_n hx hb d_law_330 rfl (lv_at hl 3 rfl) ?_
  refine lv_iconst (v := 2) hx hb d_law_331 (by decide) ?_
  refine lv_iadd hx hb d_law_332 ?_
  refine va_sld hx hb hX hbl hbA hS hin2 d_law_333 ?_
  refine lv_aload_n hx hb d_law_334 rfl (lv_at hl 0 rfl) ?_
  refine lv_iload_n hx hb d_law_335 rfl (lv_at hl 3 rfl) ?_
  refine lv_iconst (v := 3) hx hb d_law_336 (by decide) ?_
  refine lv_iadd hx hb d_law_337 ?_
  refine va_sld hx hb hX hbl hbA hS hin3 d_law_338 ?_
  refine kc_M (wF := wl_Br a k σ' ++ wl_Mo a2 k2 ρ') (va_runV (As := [.int (xs (nI (6 * i) + 1).toNatClampNeg), .int (xs (nI (6 * i) + 2).toNatClampNeg), .int (xs (nI (6 * i) + 3).toNatClampNeg)]) (rest := [.int r]) ⟨hx, hb, hml, hown, hts⟩ (c_Mo_recurring l D a2 k2 _ ρ (xs (nI (6 * i) + 1).toNatClampNeg) (xs (nI (6 * i) + 2).toNatClampNeg) (xs (nI (6 * i) + 3).toNatClampNeg) (r, ρ') e2) (cwV 3 hts (gV mv_600 mv_601 mv_602 mv_33 mv_603) rfl rfl rfl hd_Mo_recurring ⟨Nat.le_of_ble_eq_true rfl, Nat.le_of_ble_eq_true rfl⟩) (kp_V (ci := 6) (q := (R_Mo, F_Mo, 15)) (q0 := 0) hK2 (pR hP) (dR (hD σ ρ)) rfl rfl) rfl rfl hl.1 rfl (lv_room (Nat.le_of_ble_eq_true rfl)) d_law_339 ⟨Nat.le_of_ble_eq_true rfl, Nat.le_of_ble_eq_true rfl⟩) hS (dR (hD σ ρ)) hA (fun _ _ h h9 => kjR hP (hD σ' ρ) h h9) (fun H locs hP hS => ?_)
  refine lv_icmp_eq (tgt := 740) hx hb d_law_342 (by decide) (fun _ => ?_) (fun q => absurd rfl q)
  exact J σ' ρ' H locs ls ⟨hR', hP, hS, hl⟩
set_option maxHeartbeats 4000000 in
set_option maxRecDepth 100000 in
theorem law_c5 {p : Program} {l : Launch} {e : Env} {s : State} {m : MethodId} {below : List Frame} {meth : Method} {c : Code} {b L : Nat} {xs : Nat → Int32} {D : va_G} {a : Nat → Nat → Nat} {k : Nat → Nat → ClassId} {a2 : Nat → Nat} {k2 : Nat → ClassId} (hL : L ≤ 3072) (C0 : lw_At p s m meth c b L xs) (hK1 : va_K D cls (ty_Br k) s) (hK2 : va_K D cls (ty_Mo k2) s) (hD : ∀ σ ρ, va_D (fun q : Nat => s.heap.size ≤ q) (wl_Br a k σ ++ wl_Mo a2 k2 ρ)) {i : Nat} (hi : 6 * i + 6 ≤ L) (J : ∀ σ ρ H locs ls, LH s D a k a2 k2 b i σ ρ H locs ls → LW p l e s m below meth c b H locs 740 ls) {σ : S_Br} {ρ : S_Mo} {H : Heap} {locs : List Loc} {ls : Array Slot} (h : LH s D a k a2 k2 b i σ ρ H locs ls) : LW p l e s m below meth c b H locs 347 ls := by
  obtain ⟨hx, hb, hr, hml, hown, hts0, hX, hbl, hlocks, hgv⟩ := C0
  have hts : ∀ w ∈ lw_g, w.before #[Value.ref b] s = true := fun w h => hts0 w (List.mem_filter.mp h).1
  have hA : ∀ q : Nat, s.heap.size ≤ q → (fun q : Nat => s.heap.size ≤ q) q := fun _ h => h
  have hbA : ¬ (fun q : Nat => s.heap.size ≤ q) b := Nat.not_le.mpr hbl
  obtain ⟨hR, hP, hS, hl⟩ := h
  have hin1 : vp_in (nI (6 * i) + 1) L := by rw [show nI (6 * i) + 1 = nI (6 * i + 1) from nI_add _ 1]; exact vp_in_nI (by omega) (by omega)
  have hin2 : vp_in (nI (6 * i) + 2) L := by rw [show nI (6 * i) + 2 = nI (6 * i + 2) from nI_add _ 2]; exact vp_in_nI (by omega) (by omega)
  obtain ⟨r, σ', ρ', e1, e2, hR'⟩ := sim_cancel hR (xs (nI (6 * i) + 1).toNatClampNeg) (xs (nI (6 * i) + 2).toNatClampNeg)
  refine lv_aload_n hx hb d_law_347 rfl (lv_at hl 1 rfl) ?_
  refine lv_aload_n hx hb d_law_348 rfl (lv_at hl 0 rfl) ?_
  refine lv_iload_n hx hb d_law_349 rfl (lv_at hl 3 rfl) ?_
  refine lv_iconst (v := 1) hx hb d_law_350 (by decide) ?_
  refine lv_iadd hx hb d_law_351 ?_
  refine va_sld hx hb hX hbl hbA hS hin1 d_law_352 ?_
  refine lv_aload_n hx hb d_law_353 rfl (lv_at hl 0 rfl) ?_
  refine lv_iload_n hx hb d_law_354 rfl (lv_at hl 3 rfl) ?_
  refine lv_iconst (v := 2) hx hb d_law_355 (by decide) ?_
  refine lv_iadd hx hb d_law_356 ?_
  refine va_sld hx hb hX hbl hbA hS hin2 d_law_357 ?_
  refine kc_M (wF := wl_Br a k σ' ++ wl_Mo a2 k2 ρ) (va_runV (As := [.int (xs (nI (6 * i) + 1).toNatClampNeg), .int (xs (nI (6 * i) + 2).toNatClampNeg)]) (rest := []) ⟨hx, hb, hml, hown, hts⟩ (c_Br_cancel l D a k _ σ (xs (nI (6 * i) + 1).toNatClampNeg) (xs (nI (6 * i) + 2).toNatClampNeg) (r, σ') e1) (cwV 2 hts (gV mv_314 mv_315 mv_316 mv_27 mv_317) rfl rfl rfl hd_Br_cancel ⟨Nat.le_of_ble_eq_true rfl, Nat.le_of_ble_eq_true rfl⟩) (kp_V (ci := 5) (q := (R_Br, F_Br, 6)) (q0 := 0) hK1 (pL hP) (dL (hD σ ρ)) rfl rfl) rfl rfl hl.1 rfl (lv_room (Nat.le_of_ble_eq_true rfl)) d_law_358 ⟨Nat.le_of_ble_eq_true rfl, Nat.le_of_ble_eq_true rfl⟩) hS (dL (hD σ ρ)) hA (fun _ _ h h9 => kjL hP (hD σ ρ) h h9) (fun H locs hP hS => ?_)
  refine lv_aload_n hx hb d_law_361 rfl (lv_at hl 2 rfl) ?_
  refine lv_aload_n hx hb d_law_362 rfl (lv_at hl 0 rfl) ?_
  refine lv_iload_n hx hb d_law_363 rfl (lv_at hl 3 rfl) ?_
  refine lv_iconst (v := 1) hx hb d_law_364 (by decide) ?_
  refine lv_iadd hx hb d_law_365 ?_
  refine va_sld hx hb hX hbl hbA hS hin1 d_law_366 ?_
  refine lv_aload_n hx hb d_law_367 rfl (lv_at hl 0 rfl) ?_
  refine lv_iload_n hx hb d_law_368 rfl (lv_at hl 3 rfl) ?_
  refine lv_iconst (v := 2) hx hb d_law_369 (by decide) ?_
  refine lv_iadd hx hb d_law_370 ?_
  refine va_sld hx hb hX hbl hbA hS hin2 d_law_371 ?_
  refine kc_M (wF := wl_Br a k σ' ++ wl_Mo a2 k2 ρ') (va_runV (As := [.int (xs (nI (6 * i) + 1).toNatClampNeg), .int (xs (nI (6 * i) + 2).toNatClampNeg)]) (rest := [.int r]) ⟨hx, hb, hml, hown, hts⟩ (c_Mo_cancel l D a2 k2 _ ρ (xs (nI (6 * i) + 1).toNatClampNeg) (xs (nI (6 * i) + 2).toNatClampNeg) (r, ρ') e2) (cwV 2 hts (gV mv_612 mv_613 mv_614 mv_33 mv_615) rfl rfl rfl hd_Mo_cancel ⟨Nat.le_of_ble_eq_true rfl, Nat.le_of_ble_eq_true rfl⟩) (kp_V (ci := 6) (q := (R_Mo, F_Mo, 15)) (q0 := 0) hK2 (pR hP) (dR (hD σ ρ)) rfl rfl) rfl rfl hl.1 rfl (lv_room (Nat.le_of_ble_eq_true rfl)) d_law_372 ⟨Nat.le_of_ble_eq_true rfl, Nat.le_of_ble_eq_true rfl⟩) hS (dR (hD σ ρ)) hA (fun _ _ h h9 => kjR hP (hD σ' ρ) h h9) (fun H locs hP hS => ?_)
  refine lv_icmp_eq (tgt := 740) hx hb d_law_375 (by decide) (fun _ => ?_) (fun q => absurd rfl q)
  exact J σ' ρ' H locs ls ⟨hR', hP, hS, hl⟩
set_option maxHeartbeats 4000000 in
set_option maxRecDepth 100000 in
theorem law_c6 {p : Program} {l : Launch} {e : Env} {s : State} {m : MethodId} {below : List Frame} {meth : Method} {c : Code} {b L : Nat} {xs : Nat → Int32} {D : va_G} {a : Nat → Nat → Nat} {k : Nat → Nat → ClassId} {a2 : Nat → Nat} {k2 : Nat → ClassId} (hL : L ≤ 3072) (C0 : lw_At p s m meth c b L xs) (hK1 : va_K D cls (ty_Br k) s) (hK2 : va_K D cls (ty_Mo k2) s) (hD : ∀ σ ρ, va_D (fun q : Nat => s.heap.size ≤ q) (wl_Br a k σ ++ wl_Mo a2 k2 ρ)) {i : Nat} (hi : 6 * i + 6 ≤ L) (J : ∀ σ ρ H locs ls, LH s D a k a2 k2 b i σ ρ H locs ls → LW p l e s m below meth c b H locs 740 ls) {σ : S_Br} {ρ : S_Mo} {H : Heap} {locs : List Loc} {ls : Array Slot} (h : LH s D a k a2 k2 b i σ ρ H locs ls) : LW p l e s m below meth c b H locs 380 ls := by
  obtain ⟨hx, hb, hr, hml, hown, hts0, hX, hbl, hlocks, hgv⟩ := C0
  have hts : ∀ w ∈ lw_g, w.before #[Value.ref b] s = true := fun w h => hts0 w (List.mem_filter.mp h).1
  have hA : ∀ q : Nat, s.heap.size ≤ q → (fun q : Nat => s.heap.size ≤ q) q := fun _ h => h
  have hbA : ¬ (fun q : Nat => s.heap.size ≤ q) b := Nat.not_le.mpr hbl
  obtain ⟨hR, hP, hS, hl⟩ := h
  have hin1 : vp_in (nI (6 * i) + 1) L := by rw [show nI (6 * i) + 1 = nI (6 * i + 1) from nI_add _ 1]; exact vp_in_nI (by omega) (by omega)
  have hin2 : vp_in (nI (6 * i) + 2) L := by rw [show nI (6 * i) + 2 = nI (6 * i + 2) from nI_add _ 2]; exact vp_in_nI (by omega) (by omega)
  obtain ⟨r, σ', ρ', e1, e2, hR'⟩ := sim_checkIn hR (xs (nI (6 * i) + 1).toNatClampNeg) (xs (nI (6 * i) + 2).toNatClampNeg)
  refine lv_aload_n hx hb d_law_380 rfl (lv_at hl 1 rfl) ?_
  refine lv_aload_n hx hb d_law_381 rfl (lv_at hl 0 rfl) ?_
  refine lv_iload_n hx hb d_law_382 rfl (lv_at hl 3 rfl) ?_
  refine lv_iconst (v := 1) hx hb d_law_383 (by decide) ?_
  refine lv_iadd hx hb d_law_384 ?_
  refine va_sld hx hb hX hbl hbA hS hin1 d_law_385 ?_
  refine lv_aload_n hx hb d_law_386 rfl (lv_at hl 0 rfl) ?_
  refine lv_iload_n hx hb d_law_387 rfl (lv_at hl 3 rfl) ?_
  refine lv_iconst (v := 2) hx hb d_law_388 (by decide) ?_
  refine lv_iadd hx hb d_law_389 ?_
  refine va_sld hx hb hX hbl hbA hS hin2 d_law_390 ?_
  refine kc_M (wF := wl_Br a k σ' ++ wl_Mo a2 k2 ρ) (va_runV (As := [.int (xs (nI (6 * i) + 1).toNatClampNeg), .int (xs (nI (6 * i) + 2).toNatClampNeg)]) (rest := []) ⟨hx, hb, hml, hown, hts⟩ (c_Br_checkIn l D a k _ σ (xs (nI (6 * i) + 1).toNatClampNeg) (xs (nI (6 * i) + 2).toNatClampNeg) (r, σ') e1) (cwV 2 hts (gV mv_375 mv_376 mv_377 mv_27 mv_378) rfl rfl rfl hd_Br_checkIn ⟨Nat.le_of_ble_eq_true rfl, Nat.le_of_ble_eq_true rfl⟩) (kp_V (ci := 5) (q := (R_Br, F_Br, 6)) (q0 := 0) hK1 (pL hP) (dL (hD σ ρ)) rfl rfl) rfl rfl hl.1 rfl (lv_room (Nat.le_of_ble_eq_true rfl)) d_law_391 ⟨Nat.le_of_ble_eq_true rfl, Nat.le_of_ble_eq_true rfl⟩) hS (dL (hD σ ρ)) hA (fun _ _ h h9 => kjL hP (hD σ ρ) h h9) (fun H locs hP hS => ?_)
  refine lv_aload_n hx hb d_law_394 rfl (lv_at hl 2 rfl) ?_
  refine lv_aload_n hx hb d_law_395 rfl (lv_at hl 0 rfl) ?_
  refine lv_iload_n hx hb d_law_396 rfl (lv_at hl 3 rfl) ?_
  refine lv_iconst (v := 1) hx hb d_law_397 (by decide) ?_
  refine lv_iadd hx hb d_law_398 ?_
  refine va_sld hx hb hX hbl hbA hS hin1 d_law_399 ?_
  refine lv_aload_n hx hb d_law_400 rfl (lv_at hl 0 rfl) ?_
  refine lv_iload_n hx hb d_law_401 rfl (lv_at hl 3 rfl) ?_
  refine lv_iconst (v := 2) hx hb d_law_402 (by decide) ?_
  refine lv_iadd hx hb d_law_403 ?_
  refine va_sld hx hb hX hbl hbA hS hin2 d_law_404 ?_
  refine kc_M (wF := wl_Br a k σ' ++ wl_Mo a2 k2 ρ') (va_runV (As := [.int (xs (nI (6 * i) + 1).toNatClampNeg), .int (xs (nI (6 * i) + 2).toNatClampNeg)]) (rest := [.int r]) ⟨hx, hb, hml, hown, hts⟩ (c_Mo_checkIn l D a2 k2 _ ρ (xs (nI (6 * i) + 1).toNatClampNeg) (xs (nI (6 * i) + 2).toNatClampNeg) (r, ρ') e2) (cwV 2 hts (gV mv_640 mv_641 mv_642 mv_33 mv_643) rfl rfl rfl hd_Mo_checkIn ⟨Nat.le_of_ble_eq_true rfl, Nat.le_of_ble_eq_true rfl⟩) (kp_V (ci := 6) (q := (R_Mo, F_Mo, 15)) (q0 := 0) hK2 (pR hP) (dR (hD σ ρ)) rfl rfl) rfl rfl hl.1 rfl (lv_room (Nat.le_of_ble_eq_true rfl)) d_law_405 ⟨Nat.le_of_ble_eq_true rfl, Nat.le_of_ble_eq_true rfl⟩) hS (dR (hD σ ρ)) hA (fun _ _ h h9 => kjR hP (hD σ' ρ) h h9) (fun H locs hP hS => ?_)
  refine lv_icmp_eq (tgt := 740) hx hb d_law_408 (by decide) (fun _ => ?_) (fun q => absurd rfl q)
  exact J σ' ρ' H locs ls ⟨hR', hP, hS, hl⟩
set_option maxHeartbeats 4000000 in
set_option maxRecDepth 100000 in
theorem law_c7 {p : Program} {l : Launch} {e : Env} {s : State} {m : MethodId} {below : List Frame} {meth : Method} {c : Code} {b L : Nat} {xs : Nat → Int32} {D : va_G} {a : Nat → Nat → Nat} {k : Nat → Nat → ClassId} {a2 : Nat → Nat} {k2 : Nat → ClassId} (hL : L ≤ 3072) (C0 : lw_At p s m meth c b L xs) (hK1 : va_K D cls (ty_Br k) s) (hK2 : va_K D cls (ty_Mo k2) s) (hD : ∀ σ ρ, va_D (fun q : Nat => s.heap.size ≤ q) (wl_Br a k σ ++ wl_Mo a2 k2 ρ)) {i : Nat} (hi : 6 * i + 6 ≤ L) (J : ∀ σ ρ H locs ls, LH s D a k a2 k2 b i σ ρ H locs ls → LW p l e s m below meth c b H locs 740 ls) {σ : S_Br} {ρ : S_Mo} {H : Heap} {locs : List Loc} {ls : Array Slot} (h : LH s D a k a2 k2 b i σ ρ H locs ls) : LW p l e s m below meth c b H locs 413 ls := by
  obtain ⟨hx, hb, hr, hml, hown, hts0, hX, hbl, hlocks, hgv⟩ := C0
  have hts : ∀ w ∈ lw_g, w.before #[Value.ref b] s = true := fun w h => hts0 w (List.mem_filter.mp h).1
  have hA : ∀ q : Nat, s.heap.size ≤ q → (fun q : Nat => s.heap.size ≤ q) q := fun _ h => h
  have hbA : ¬ (fun q : Nat => s.heap.size ≤ q) b := Nat.not_le.mpr hbl
  obtain ⟨hR, hP, hS, hl⟩ := h
  have hin1 : vp_in (nI (6 * i) + 1) L := by rw [show nI (6 * i) + 1 = nI (6 * i + 1) from nI_add _ 1]; exact vp_in_nI (by omega) (by omega)
  have hin2 : vp_in (nI (6 * i) + 2) L := by rw [show nI (6 * i) + 2 = nI (6 * i + 2) from nI_add _ 2]; exact vp_in_nI (by omega) (by omega)
  have hin3 : vp_in (nI (6 * i) + 3) L := by rw [show nI (6 * i) + 3 = nI (6 * i + 3) from nI_add _ 3]; exact vp_in_nI (by omega) (by omega)
  have hin4 : vp_in (nI (6 * i) + 4) L := by rw [show nI (6 * i) + 4 = nI (6 * i + 4) from nI_add _ 4]; exact vp_in_nI (by omega) (by omega)
  obtain ⟨r, σ', ρ', e1, e2, hR'⟩ := sim_edit hR (xs (nI (6 * i) + 1).toNatClampNeg) (xs (nI (6 * i) + 2).toNatClampNeg) (xs (nI (6 * i) + 3).toNatClampNeg) (xs (nI (6 * i) + 4).toNatClampNeg)
  refine lv_aload_n hx hb d_law_413 rfl (lv_at hl 1 rfl) ?_
  refine lv_aload_n hx hb d_law_414 rfl (lv_at hl 0 rfl) ?_
  refine lv_iload_n hx hb d_law_415 rfl (lv_at hl 3 rfl) ?_
  refine lv_iconst (v := 1) hx hb d_law_416 (by decide) ?_
  refine lv_iadd hx hb d_law_417 ?_
  refine va_sld hx hb hX hbl hbA hS hin1 d_law_418 ?_
  refine lv_aload_n hx hb d_law_419 rfl (lv_at hl 0 rfl) ?_
  refine lv_iload_n hx hb d_law_420 rfl (lv_at hl 3 rfl) ?_
  refine lv_iconst (v := 2) hx hb d_law_421 (by decide) ?_
  refine lv_iadd hx hb d_law_422 ?_
  refine va_sld hx hb hX hbl hbA hS hin2 d_law_423 ?_
  refine lv_aload_n hx hb d_law_424 rfl (lv_at hl 0 rfl) ?_
  refine lv_iload_n hx hb d_law_425 rfl (lv_at hl 3 rfl) ?_
  refine lv_iconst (v := 3) hx hb d_law_426 (by decide) ?_
  refine lv_iadd hx hb d_law_427 ?_
  refine va_sld hx hb hX hbl hbA hS hin3 d_law_428 ?_
  refine lv_aload_n hx hb d_law_429 rfl (lv_at hl 0 rfl) ?_
  refine lv_iload_n hx hb d_law_430 rfl (lv_at hl 3 rfl) ?_
  refine lv_iconst (v := 4) hx hb d_law_431 (by decide) ?_
  refine lv_iadd hx hb d_law_432 ?_
  refine va_sld hx hb hX hbl hbA hS hin4 d_law_433 ?_
  refine kc_M (wF := wl_Br a k σ' ++ wl_Mo a2 k2 ρ) (va_runV (As := [.int (xs (nI (6 * i) + 1).toNatClampNeg), .int (xs (nI (6 * i) + 2).toNatClampNeg), .int (xs (nI (6 * i) + 3).toNatClampNeg), .int (xs (nI (6 * i) + 4).toNatClampNeg)]) (rest := []) ⟨hx, hb, hml, hown, hts⟩ (c_Br_edit l D a k _ σ (xs (nI (6 * i) + 1).toNatClampNeg) (xs (nI (6 * i) + 2).toNatClampNeg) (xs (nI (6 * i) + 3).toNatClampNeg) (xs (nI (6 * i) + 4).toNatClampNeg) (r, σ') e1) (cwV 4 hts (gV mv_387 mv_388 mv_389 mv_27 mv_390) rfl rfl rfl hd_Br_edit ⟨Nat.le_of_ble_eq_true rfl, Nat.le_of_ble_eq_true rfl⟩) (kp_V (ci := 5) (q := (R_Br, F_Br, 6)) (q0 := 0) hK1 (pL hP) (dL (hD σ ρ)) rfl rfl) rfl rfl hl.1 rfl (lv_room (Nat.le_of_ble_eq_true rfl)) d_law_434 ⟨Nat.le_of_ble_eq_true rfl, Nat.le_of_ble_eq_true rfl⟩) hS (dL (hD σ ρ)) hA (fun _ _ h h9 => kjL hP (hD σ ρ) h h9) (fun H locs hP hS => ?_)
  refine lv_aload_n hx hb d_law_437 rfl (lv_at hl 2 rfl) ?_
  refine lv_aload_n hx hb d_law_438 rfl (lv_at hl 0 rfl) ?_
  refine lv_iload_n hx hb d_law_439 rfl (lv_at hl 3 rfl) ?_
  refine lv_iconst (v := 1) hx hb d_law_440 (by decide) ?_
  refine lv_iadd hx hb d_law_441 ?_
  refine va_sld hx hb hX hbl hbA hS hin1 d_law_442 ?_
  refine lv_aload_n hx hb d_law_443 rfl (lv_at hl 0 rfl) ?_
  refine lv_iload_n hx hb d_law_444 rfl (lv_at hl 3 rfl) ?_
  refine lv_iconst (v := 2) hx hb d_law_445 (by decide) ?_
  refine lv_iadd hx hb d_law_446 ?_
  refine va_sld hx hb hX hbl hbA hS hin2 d_law_447 ?_
  refine lv_aload_n hx hb d_law_448 rfl (lv_at hl 0 rfl) ?_
  refine lv_iload_n hx hb d_law_449 rfl (lv_at hl 3 rfl) ?_
  refine lv_iconst (v := 3) hx hb d_law_450 (by decide) ?_
  refine lv_iadd hx hb d_law_451 ?_
  refine va_sld hx hb hX hbl hbA hS hin3 d_law_452 ?_
  refine lv_aload_n hx hb d_law_453 rfl (lv_at hl 0 rfl) ?_
  refine lv_iload_n hx hb d_law_454 rfl (lv_at hl 3 rfl) ?_
  refine lv_iconst (v := 4) hx hb d_law_455 (by decide) ?_
  refine lv_iadd hx hb d_law_456 ?_
  refine va_sld hx hb hX hbl hbA hS hin4 d_law_457 ?_
  refine kc_M (wF := wl_Br a k σ' ++ wl_Mo a2 k2 ρ') (va_runV (As := [.int (xs (nI (6 * i) + 1).toNatClampNeg), .int (xs (nI (6 * i) + 2).toNatClampNeg), .int (xs (nI (6 * i) + 3).toNatClampNeg), .int (xs (nI (6 * i) + 4).toNatClampNeg)]) (rest := [.int r]) ⟨hx, hb, hml, hown, hts⟩ (c_Mo_edit l D a2 k2 _ ρ (xs (nI (6 * i) + 1).toNatClampNeg) (xs (nI (6 * i) + 2).toNatClampNeg) (xs (nI (6 * i) + 3).toNatClampNeg) (xs (nI (6 * i) + 4).toNatClampNeg) (r, ρ') e2) (cwV 4 hts (gV mv_644 mv_645 mv_646 mv_33 mv_647) rfl rfl rfl hd_Mo_edit ⟨Nat.le_of_ble_eq_true rfl, Nat.le_of_ble_eq_true rfl⟩) (kp_V (ci := 6) (q := (R_Mo, F_Mo, 15)) (q0 := 0) hK2 (pR hP) (dR (hD σ ρ)) rfl rfl) rfl rfl hl.1 rfl (lv_room (Nat.le_of_ble_eq_true rfl)) d_law_458 ⟨Nat.le_of_ble_eq_true rfl, Nat.le_of_ble_eq_true rfl⟩) hS (dR (hD σ ρ)) hA (fun _ _ h h9 => kjR hP (hD σ' ρ) h h9) (fun H locs hP hS => ?_)
  refine lv_icmp_eq (tgt := 740) hx hb d_law_461 (by decide) (fun _ => ?_) (fun q => absurd rfl q)
  exact J σ' ρ' H locs ls ⟨hR', hP, hS, hl⟩
