set_option maxHeartbeats 4000000 in
set_option maxRecDepth 100000 in
theorem c_Th_has (l : Launch) (D : va_G) (a : Nat → Nat) (k : Nat → ClassId) (sz : Nat) (σ : S_Th) (p1 : Int32) (r0 : Int32) (hk : kf_Th_has σ p1 = some r0) : Met l y_Th_has w_Th_has ({ frames := 0, cells := 0, slots := 0, locals := 0 }) (kp_P D cls (ty_Th k) (wl_Th a k σ) [.ref (a 0), .int p1] sz) (kp_R sz r0) 0 0 (va_A [] sz) := by
  refine Met.ofW (cc := b_Th_has) (maxL := 2) (ret := (some .boolean)) (by decide) rfl ?_
  intro p e s m args below meth c s₁ B hml hv
  obtain ⟨rfl, hsz, hP, hK, hD0⟩ := hv
  have hx := B.exec
  have hb := B.bytes
  have hr := B.returns
  have hts : ∀ w ∈ lw_g, w.before _ s = true := fun w h => atoms_spec (ws := w_Th_has) B.pre w (List.mem_cons_of_mem _ h)
  have hown : s.vm.findClass R_Th = some m.cls := findClass_of_methodNamed B.named
  have hlocks := B.notSynchronized
  subst hsz
  have hA : ∀ q : Nat, s.heap.size ≤ q → (va_A ([]) s.heap.size) q := fun _ h => Or.inr h
  have hDt : ∀ τ, va_D (fun _ => True) (wl_Th a k τ) := fun τ => kd_cg hD0 rfl
  have hS : va_S (va_A ([]) s.heap.size) s.heap s.heap [] := va_S.rf
  have hl := lv_entry ([.ref (a 0), .int p1]) (n := 2) (Nat.le_of_ble_eq_true rfl)
  rw [lg_entry_eq]
  generalize (lg_sl ([.ref (a 0), .int p1]) ++ List.replicate (2 - (lg_sl ([.ref (a 0), .int p1])).length) Slot.unset).toArray = ls at hl ⊢
  have hl : lv_has ls 2 [(0, .ref (a 0)), (1, .int p1)] := hl
  unfold kf_Th_has at hk
  refine lv_iload_n hx hb d_Th_has_0 rfl (lv_at hl 1 rfl) ?_
  refine lv_if_lt (tgt := 16) hx hb d_Th_has_1 (by decide) (fun c1 => ?_) (fun c1 => ?_)
  · have hk := br_p c1 hk
    refine lv_iconst (v := 0) hx hb d_Th_has_16 (by decide) ?_
    exact kr_R hx hb hr (by decide) hlocks hS hk d_Th_has_17
  · have hk := br_n c1 hk
    refine lv_iload_n hx hb d_Th_has_4 rfl (lv_at hl 1 rfl) ?_
    refine lv_aload_n hx hb d_Th_has_5 rfl (lv_at hl 0 rfl) ?_
    refine va_get (D := D) (ci := 3) (v := .int σ.2.2.2.2.2) (C := R_Th) (T := F_Th) (N := 6) hx hb hts i_uTh hown hK hP 0 rfl rfl 5 (by decide) (hts _ mw_74) (fun _ h9 => h9) rfl d_Th_has_6 ?_
    refine lv_icmp_ge (tgt := 16) hx hb d_Th_has_9 (by decide) (fun c2 => ?_) (fun c2 => ?_)
    · have hk := br_p c2 hk
      refine lv_iconst (v := 0) hx hb d_Th_has_16 (by decide) ?_
      exact kr_R hx hb hr (by decide) hlocks hS hk d_Th_has_17
    · have hk := br_n c2 hk
      refine lv_iconst (v := 1) hx hb d_Th_has_12 (by decide) ?_
      refine lv_goto (tgt := 17) hx hb d_Th_has_13 (by decide) ?_
      exact kr_R hx hb hr (by decide) hlocks hS hk d_Th_has_17
set_option maxHeartbeats 4000000 in
set_option maxRecDepth 100000 in
theorem c_Th_isFull (l : Launch) (D : va_G) (a : Nat → Nat) (k : Nat → ClassId) (sz : Nat) (σ : S_Th) (r0 : Int32) (hk : kf_Th_isFull σ = some r0) : Met l y_Th_isFull w_Th_isFull ({ frames := 0, cells := 0, slots := 0, locals := 0 }) (kp_P D cls (ty_Th k) (wl_Th a k σ) [.ref (a 0)] sz) (kp_R sz r0) 0 0 (va_A [] sz) := by
  refine Met.ofW (cc := b_Th_isFull) (maxL := 1) (ret := (some .boolean)) (by decide) rfl ?_
  intro p e s m args below meth c s₁ B hml hv
  obtain ⟨rfl, hsz, hP, hK, hD0⟩ := hv
  have hx := B.exec
  have hb := B.bytes
  have hr := B.returns
  have hts : ∀ w ∈ lw_g, w.before _ s = true := fun w h => atoms_spec (ws := w_Th_isFull) B.pre w (List.mem_cons_of_mem _ h)
  have hown : s.vm.findClass R_Th = some m.cls := findClass_of_methodNamed B.named
  have hlocks := B.notSynchronized
  subst hsz
  have hA : ∀ q : Nat, s.heap.size ≤ q → (va_A ([]) s.heap.size) q := fun _ h => Or.inr h
  have hDt : ∀ τ, va_D (fun _ => True) (wl_Th a k τ) := fun τ => kd_cg hD0 rfl
  have hS : va_S (va_A ([]) s.heap.size) s.heap s.heap [] := va_S.rf
  have hl := lv_entry ([.ref (a 0)]) (n := 1) (Nat.le_of_ble_eq_true rfl)
  rw [lg_entry_eq]
  generalize (lg_sl ([.ref (a 0)]) ++ List.replicate (1 - (lg_sl ([.ref (a 0)])).length) Slot.unset).toArray = ls at hl ⊢
  have hl : lv_has ls 1 [(0, .ref (a 0))] := hl
  unfold kf_Th_isFull at hk
  refine lv_aload_n hx hb d_Th_isFull_0 rfl (lv_at hl 0 rfl) ?_
  refine va_get (D := D) (ci := 3) (v := .int σ.2.2.2.2.2) (C := R_Th) (T := F_Th) (N := 6) hx hb hts i_uTh hown hK hP 0 rfl rfl 5 (by decide) (hts _ mw_74) (fun _ h9 => h9) rfl d_Th_isFull_1 ?_
  refine lv_bipush (v := 30) hx hb d_Th_isFull_4 (by decide) ?_
  refine lv_icmp_lt (tgt := 13) hx hb d_Th_isFull_6 (by decide) (fun c1 => ?_) (fun c1 => ?_)
  · have hk := br_p c1 hk
    refine lv_iconst (v := 0) hx hb d_Th_isFull_13 (by decide) ?_
    exact kr_R hx hb hr (by decide) hlocks hS hk d_Th_isFull_14
  · have hk := br_n c1 hk
    refine lv_iconst (v := 1) hx hb d_Th_isFull_9 (by decide) ?_
    refine lv_goto (tgt := 14) hx hb d_Th_isFull_10 (by decide) ?_
    exact kr_R hx hb hr (by decide) hlocks hS hk d_Th_isFull_14
set_option maxHeartbeats 4000000 in
set_option maxRecDepth 100000 in
theorem c_Th_add (l : Launch) (D : va_G) (a : Nat → Nat) (k : Nat → ClassId) (sz : Nat) (σ : S_Th) (p1 p2 p3 p4 p5 : Int32) (r0 : Int32 × S_Th) (hk : kf_Th_add σ p1 p2 p3 p4 p5 = some r0) : Met l y_Th_add w_Th_add ({ frames := 0, cells := 0, slots := 0, locals := 0 }) (kp_P D cls (ty_Th k) (wl_Th a k σ) [.ref (a 0), .int p1, .int p2, .int p3, .int p4, .int p5] sz) (kp_M D cls (wl_Th a k r0.2) (wl_Th a k σ) sz r0.1) 0 0 (va_A (wl_Th a k σ) sz) := by
  refine Met.ofW (cc := b_Th_add) (maxL := 7) (ret := (some .int)) (by decide) rfl ?_
  intro p e s m args below meth c s₁ B hml hv
  obtain ⟨rfl, hsz, hP, hK, hD0⟩ := hv
  have hx := B.exec
  have hb := B.bytes
  have hr := B.returns
  have hts : ∀ w ∈ lw_g, w.before _ s = true := fun w h => atoms_spec (ws := w_Th_add) B.pre w (List.mem_cons_of_mem _ h)
  have hown : s.vm.findClass R_Th = some m.cls := findClass_of_methodNamed B.named
  have hlocks := B.notSynchronized
  subst hsz
  have hA : ∀ q : Nat, s.heap.size ≤ q → (va_A (wl_Th a k σ) s.heap.size) q := fun _ h => Or.inr h
  have hDt : ∀ τ, va_D (fun _ => True) (wl_Th a k τ) := fun τ => kd_cg hD0 rfl
  have hDw : ∀ τ, va_D (va_A (wl_Th a k σ) s.heap.size) (wl_Th a k τ) := fun τ => kd_cg hD0.self rfl
  have hS : va_S (va_A (wl_Th a k σ) s.heap.size) s.heap s.heap [] := va_S.rf
  have hl := lv_entry ([.ref (a 0), .int p1, .int p2, .int p3, .int p4, .int p5]) (n := 7) (Nat.le_of_ble_eq_true rfl)
  rw [lg_entry_eq]
  generalize (lg_sl ([.ref (a 0), .int p1, .int p2, .int p3, .int p4, .int p5]) ++ List.replicate (7 - (lg_sl ([.ref (a 0), .int p1, .int p2, .int p3, .int p4, .int p5])).length) Slot.unset).toArray = ls at hl ⊢
  have hl : lv_has ls 7 [(0, .ref (a 0)), (1, .int p1), (2, .int p2), (3, .int p3), (4, .int p4), (5, .int p5)] := hl
  unfold kf_Th_add at hk
  refine lv_aload_n hx hb d_Th_add_0 rfl (lv_at hl 0 rfl) ?_
  refine va_get (D := D) (ci := 3) (v := .int σ.2.2.2.2.2) (C := R_Th) (T := F_Th) (N := 6) hx hb hts i_uTh hown hK hP 0 rfl rfl 5 (by decide) (hts _ mw_74) (fun _ h9 => h9) rfl d_Th_add_1 ?_
  refine lv_istore (lv' := [(6, .int σ.2.2.2.2.2), (0, .ref (a 0)), (1, .int p1), (2, .int p2), (3, .int p3), (4, .int p4), (5, .int p5)]) hx hb d_Th_add_4 hl (by decide) rfl (fun ls hl => ?_)
  refine lv_aload_n hx hb d_Th_add_6 rfl (lv_at hl 1 rfl) ?_
  refine va_get (D := D) (ci := 3) (v := .ref (a 1)) (C := R_Th) (T := F_Th) (N := 6) hx hb hts i_uTh hown hK hP 0 rfl rfl 0 (by decide) (hts _ mw_69) (fun _ h9 => h9) rfl d_Th_add_7 ?_
  refine lv_iload hx hb d_Th_add_10 (lv_at hl 0 rfl) ?_
  refine lv_iload_n hx hb d_Th_add_12 rfl (lv_at hl 2 rfl) ?_
  obtain ⟨h1, hk⟩ := gd_in hk
  refine va_iast hx hb hK hP (hDw _) hS 1 0 rfl rfl h1 d_Th_add_13 (fun H locs hP _ hS => ?_)
  have hP : va_P D cls (wl_Th a k ((upd σ.1 σ.2.2.2.2.2.toNatClampNeg p1), σ.2.1, σ.2.2.1, σ.2.2.2.1, σ.2.2.2.2.1, σ.2.2.2.2.2)) H := hP
  refine lv_aload_n hx hb d_Th_add_14 rfl (lv_at hl 1 rfl) ?_
  refine va_get (D := D) (ci := 3) (v := .ref (a 2)) (C := R_Th) (T := F_Th) (N := 6) hx hb hts i_uTh hown hK hP 0 rfl rfl 1 (by decide) (hts _ mw_70) (fun _ h9 => h9) rfl d_Th_add_15 ?_
  refine lv_iload hx hb d_Th_add_18 (lv_at hl 0 rfl) ?_
  refine lv_iload_n hx hb d_Th_add_20 rfl (lv_at hl 3 rfl) ?_
  refine va_iast hx hb hK hP (hDw _) hS 2 1 rfl rfl h1 d_Th_add_21 (fun H locs hP _ hS => ?_)
  have hP : va_P D cls (wl_Th a k ((upd σ.1 σ.2.2.2.2.2.toNatClampNeg p1), (upd σ.2.1 σ.2.2.2.2.2.toNatClampNeg p2), σ.2.2.1, σ.2.2.2.1, σ.2.2.2.2.1, σ.2.2.2.2.2)) H := hP
  refine lv_aload_n hx hb d_Th_add_22 rfl (lv_at hl 1 rfl) ?_
  refine va_get (D := D) (ci := 3) (v := .ref (a 3)) (C := R_Th) (T := F_Th) (N := 6) hx hb hts i_uTh hown hK hP 0 rfl rfl 2 (by decide) (hts _ mw_71) (fun _ h9 => h9) rfl d_Th_add_23 ?_
  refine lv_iload hx hb d_Th_add_26 (lv_at hl 0 rfl) ?_
  refine lv_iload_n hx hb d_Th_add_28 rfl (lv_at hl 4 rfl) ?_
  refine va_iast hx hb hK hP (hDw _) hS 3 2 rfl rfl h1 d_Th_add_29 (fun H locs hP _ hS => ?_)
  have hP : va_P D cls (wl_Th a k ((upd σ.1 σ.2.2.2.2.2.toNatClampNeg p1), (upd σ.2.1 σ.2.2.2.2.2.toNatClampNeg p2), (upd σ.2.2.1 σ.2.2.2.2.2.toNatClampNeg p3), σ.2.2.2.1, σ.2.2.2.2.1, σ.2.2.2.2.2)) H := hP
  refine lv_aload_n hx hb d_Th_add_30 rfl (lv_at hl 1 rfl) ?_
  refine va_get (D := D) (ci := 3) (v := .ref (a 4)) (C := R_Th) (T := F_Th) (N := 6) hx hb hts i_uTh hown hK hP 0 rfl rfl 3 (by decide) (hts _ mw_72) (fun _ h9 => h9) rfl d_Th_add_31 ?_
  refine lv_iload hx hb d_Th_add_34 (lv_at hl 0 rfl) ?_
  refine lv_iload hx hb d_Th_add_36 (lv_at hl 5 rfl) ?_
  refine va_iast hx hb hK hP (hDw _) hS 4 3 rfl rfl h1 d_Th_add_38 (fun H locs hP _ hS => ?_)
  have hP : va_P D cls (wl_Th a k ((upd σ.1 σ.2.2.2.2.2.toNatClampNeg p1), (upd σ.2.1 σ.2.2.2.2.2.toNatClampNeg p2), (upd σ.2.2.1 σ.2.2.2.2.2.toNatClampNeg p3), (upd σ.2.2.2.1 σ.2.2.2.2.2.toNatClampNeg p4), σ.2.2.2.2.1, σ.2.2.2.2.2)) H := hP
  refine lv_aload_n hx hb d_Th_add_39 rfl (lv_at hl 1 rfl) ?_
  refine va_get (D := D) (ci := 3) (v := .ref (a 5)) (C := R_Th) (T := F_Th) (N := 6) hx hb hts i_uTh hown hK hP 0 rfl rfl 4 (by decide) (hts _ mw_73) (fun _ h9 => h9) rfl d_Th_add_40 ?_
  refine lv_iload hx hb d_Th_add_43 (lv_at hl 0 rfl) ?_
  refine lv_iload hx hb d_Th_add_45 (lv_at hl 6 rfl) ?_
  refine va_iast hx hb hK hP (hDw _) hS 5 4 rfl rfl h1 d_Th_add_47 (fun H locs hP _ hS => ?_)
  have hP : va_P D cls (wl_Th a k ((upd σ.1 σ.2.2.2.2.2.toNatClampNeg p1), (upd σ.2.1 σ.2.2.2.2.2.toNatClampNeg p2), (upd σ.2.2.1 σ.2.2.2.2.2.toNatClampNeg p3), (upd σ.2.2.2.1 σ.2.2.2.2.2.toNatClampNeg p4), (upd σ.2.2.2.2.1 σ.2.2.2.2.2.toNatClampNeg p5), σ.2.2.2.2.2)) H := hP
  refine lv_aload_n hx hb d_Th_add_48 rfl (lv_at hl 1 rfl) ?_
  refine lv_dup hx hb d_Th_add_49 rfl ?_
  refine va_get (D := D) (ci := 3) (v := .int σ.2.2.2.2.2) (C := R_Th) (T := F_Th) (N := 6) hx hb hts i_uTh hown hK hP 0 rfl rfl 5 (by decide) (hts _ mw_74) (fun _ h9 => h9) rfl d_Th_add_50 ?_
  refine lv_iconst (v := 1) hx hb d_Th_add_53 (by decide) ?_
  refine lv_iadd hx hb d_Th_add_54 ?_
  refine va_put (D := D) (ci := 3) (v := .int (σ.2.2.2.2.2 + 1)) (ty := .int) (C := R_Th) (T := F_Th) (N := 6) hx hb hts i_uTh t_Th t_Th_ok n_Th hown hK hP (hDw _) hS 0 rfl rfl 5 (by decide) (hts _ mw_74) (fun _ h9 => h9) rfl (t_Th_ok 5 (by decide)) rfl rfl (Nat.le_of_ble_eq_true rfl) d_Th_add_55 (fun H locs hP _ hS => ?_)
  have hP : va_P D cls (wl_Th a k ((upd σ.1 σ.2.2.2.2.2.toNatClampNeg p1), (upd σ.2.1 σ.2.2.2.2.2.toNatClampNeg p2), (upd σ.2.2.1 σ.2.2.2.2.2.toNatClampNeg p3), (upd σ.2.2.2.1 σ.2.2.2.2.2.toNatClampNeg p4), (upd σ.2.2.2.2.1 σ.2.2.2.2.2.toNatClampNeg p5), (σ.2.2.2.2.2 + 1))) H := hP
  refine lv_iload hx hb d_Th_add_58 (lv_at hl 0 rfl) ?_
  exact kr_M (w := wl_Th a k) hx hb hr rfl hlocks hS hP hk d_Th_add_60
set_option maxHeartbeats 4000000 in
set_option maxRecDepth 100000 in
theorem c_Th_placeOf (l : Launch) (D : va_G) (a : Nat → Nat) (k : Nat → ClassId) (sz : Nat) (σ : S_Th) (p1 : Int32) (r0 : Int32) (hk : kf_Th_placeOf σ p1 = some r0) : Met l y_Th_placeOf w_Th_placeOf ({ frames := 0, cells := 0, slots := 0, locals := 0 }) (kp_P D cls (ty_Th k) (wl_Th a k σ) [.ref (a 0), .int p1] sz) (kp_R sz r0) 0 0 (va_A [] sz) := by
  refine Met.ofW (cc := b_Th_placeOf) (maxL := 2) (ret := (some .int)) (by decide) rfl ?_
  intro p e s m args below meth c s₁ B hml hv
  obtain ⟨rfl, hsz, hP, hK, hD0⟩ := hv
  have hx := B.exec
  have hb := B.bytes
  have hr := B.returns
  have hts : ∀ w ∈ lw_g, w.before _ s = true := fun w h => atoms_spec (ws := w_Th_placeOf) B.pre w (List.mem_cons_of_mem _ h)
  have hown : s.vm.findClass R_Th = some m.cls := findClass_of_methodNamed B.named
  have hlocks := B.notSynchronized
  subst hsz
  have hA : ∀ q : Nat, s.heap.size ≤ q → (va_A ([]) s.heap.size) q := fun _ h => Or.inr h
  have hDt : ∀ τ, va_D (fun _ => True) (wl_Th a k τ) := fun τ => kd_cg hD0 rfl
  have hS : va_S (va_A ([]) s.heap.size) s.heap s.heap [] := va_S.rf
  have hl := lv_entry ([.ref (a 0), .int p1]) (n := 2) (Nat.le_of_ble_eq_true rfl)
  rw [lg_entry_eq]
  generalize (lg_sl ([.ref (a 0), .int p1]) ++ List.replicate (2 - (lg_sl ([.ref (a 0), .int p1])).length) Slot.unset).toArray = ls at hl ⊢
  have hl : lv_has ls 2 [(0, .ref (a 0)), (1, .int p1)] := hl
  unfold kf_Th_placeOf at hk
  refine lv_aload_n hx hb d_Th_placeOf_0 rfl (lv_at hl 0 rfl) ?_
  refine va_get (D := D) (ci := 3) (v := .ref (a 1)) (C := R_Th) (T := F_Th) (N := 6) hx hb hts i_uTh hown hK hP 0 rfl rfl 0 (by decide) (hts _ mw_69) (fun _ h9 => h9) rfl d_Th_placeOf_1 ?_
  refine lv_iload_n hx hb d_Th_placeOf_4 rfl (lv_at hl 1 rfl) ?_
  obtain ⟨h1, hk⟩ := gd_in hk
  refine va_iald hx hb hK hP 1 0 rfl rfl h1 d_Th_placeOf_5 ?_
  exact kr_R hx hb hr rfl hlocks hS hk d_Th_placeOf_6
set_option maxHeartbeats 4000000 in
set_option maxRecDepth 100000 in
theorem c_Th_allowsLength (l : Launch) (D : va_G) (a : Nat → Nat) (k : Nat → ClassId) (sz : Nat) (σ : S_Th) (p1 p2 : Int32) (r0 : Int32) (hk : kf_Th_allowsLength σ p1 p2 = some r0) : Met l y_Th_allowsLength w_Th_allowsLength ({ frames := 0, cells := 0, slots := 0, locals := 0 }) (kp_P D cls (ty_Th k) (wl_Th a k σ) [.ref (a 0), .int p1, .int p2] sz) (kp_R sz r0) 0 0 (va_A [] sz) := by
  refine Met.ofW (cc := b_Th_allowsLength) (maxL := 3) (ret := (some .boolean)) (by decide) rfl ?_
  intro p e s m args below meth c s₁ B hml hv
  obtain ⟨rfl, hsz, hP, hK, hD0⟩ := hv
  have hx := B.exec
  have hb := B.bytes
  have hr := B.returns
  have hts : ∀ w ∈ lw_g, w.before _ s = true := fun w h => atoms_spec (ws := w_Th_allowsLength) B.pre w (List.mem_cons_of_mem _ h)
  have hown : s.vm.findClass R_Th = some m.cls := findClass_of_methodNamed B.named
  have hlocks := B.notSynchronized
  subst hsz
  have hA : ∀ q : Nat, s.heap.size ≤ q → (va_A ([]) s.heap.size) q := fun _ h => Or.inr h
  have hDt : ∀ τ, va_D (fun _ => True) (wl_Th a k τ) := fun τ => kd_cg hD0 rfl
  have hS : va_S (va_A ([]) s.heap.size) s.heap s.heap [] := va_S.rf
  have hl := lv_entry ([.ref (a 0), .int p1, .int p2]) (n := 3) (Nat.le_of_ble_eq_true rfl)
  rw [lg_entry_eq]
  generalize (lg_sl ([.ref (a 0), .int p1, .int p2]) ++ List.replicate (3 - (lg_sl ([.ref (a 0), .int p1, .int p2])).length) Slot.unset).toArray = ls at hl ⊢
  have hl : lv_has ls 3 [(0, .ref (a 0)), (1, .int p1), (2, .int p2)] := hl
  unfold kf_Th_allowsLength at hk
  refine lv_aload_n hx hb d_Th_allowsLength_0 rfl (lv_at hl 0 rfl) ?_
  refine va_get (D := D) (ci := 3) (v := .ref (a 2)) (C := R_Th) (T := F_Th) (N := 6) hx hb hts i_uTh hown hK hP 0 rfl rfl 1 (by decide) (hts _ mw_70) (fun _ h9 => h9) rfl d_Th_allowsLength_1 ?_
  refine lv_iload_n hx hb d_Th_allowsLength_4 rfl (lv_at hl 1 rfl) ?_
  obtain ⟨h1, hk⟩ := gd_in hk
  refine va_iald hx hb hK hP 2 1 rfl rfl h1 d_Th_allowsLength_5 ?_
  refine lv_iload_n hx hb d_Th_allowsLength_6 rfl (lv_at hl 2 rfl) ?_
  refine lv_icmp_gt (tgt := 24) hx hb d_Th_allowsLength_7 (by decide) (fun c2 => ?_) (fun c2 => ?_)
  · have hk := br_p c2 hk
    refine lv_iconst (v := 0) hx hb d_Th_allowsLength_24 (by decide) ?_
    exact kr_R hx hb hr (by decide) hlocks hS hk d_Th_allowsLength_25
  · have hk := br_n c2 hk
    refine lv_iload_n hx hb d_Th_allowsLength_10 rfl (lv_at hl 2 rfl) ?_
    refine lv_aload_n hx hb d_Th_allowsLength_11 rfl (lv_at hl 0 rfl) ?_
    refine va_get (D := D) (ci := 3) (v := .ref (a 3)) (C := R_Th) (T := F_Th) (N := 6) hx hb hts i_uTh hown hK hP 0 rfl rfl 2 (by decide) (hts _ mw_71) (fun _ h9 => h9) rfl d_Th_allowsLength_12 ?_
    refine lv_iload_n hx hb d_Th_allowsLength_15 rfl (lv_at hl 1 rfl) ?_
    refine va_iald hx hb hK hP 3 2 rfl rfl h1 d_Th_allowsLength_16 ?_
    refine lv_icmp_gt (tgt := 24) hx hb d_Th_allowsLength_17 (by decide) (fun c3 => ?_) (fun c3 => ?_)
    · have hk := br_p c3 hk
      refine lv_iconst (v := 0) hx hb d_Th_allowsLength_24 (by decide) ?_
      exact kr_R hx hb hr (by decide) hlocks hS hk d_Th_allowsLength_25
    · have hk := br_n c3 hk
      refine lv_iconst (v := 1) hx hb d_Th_allowsLength_20 (by decide) ?_
      refine lv_goto (tgt := 25) hx hb d_Th_allowsLength_21 (by decide) ?_
      exact kr_R hx hb hr (by decide) hlocks hS hk d_Th_allowsLength_25
set_option maxHeartbeats 4000000 in
set_option maxRecDepth 100000 in
theorem c_Th_aheadOf (l : Launch) (D : va_G) (a : Nat → Nat) (k : Nat → ClassId) (sz : Nat) (σ : S_Th) (p1 : Int32) (r0 : Int32) (hk : kf_Th_aheadOf σ p1 = some r0) : Met l y_Th_aheadOf w_Th_aheadOf ({ frames := 0, cells := 0, slots := 0, locals := 0 }) (kp_P D cls (ty_Th k) (wl_Th a k σ) [.ref (a 0), .int p1] sz) (kp_R sz r0) 0 0 (va_A [] sz) := by
  refine Met.ofW (cc := b_Th_aheadOf) (maxL := 2) (ret := (some .int)) (by decide) rfl ?_
  intro p e s m args below meth c s₁ B hml hv
  obtain ⟨rfl, hsz, hP, hK, hD0⟩ := hv
  have hx := B.exec
  have hb := B.bytes
  have hr := B.returns
  have hts : ∀ w ∈ lw_g, w.before _ s = true := fun w h => atoms_spec (ws := w_Th_aheadOf) B.pre w (List.mem_cons_of_mem _ h)
  have hown : s.vm.findClass R_Th = some m.cls := findClass_of_methodNamed B.named
  have hlocks := B.notSynchronized
  subst hsz
  have hA : ∀ q : Nat, s.heap.size ≤ q → (va_A ([]) s.heap.size) q := fun _ h => Or.inr h
  have hDt : ∀ τ, va_D (fun _ => True) (wl_Th a k τ) := fun τ => kd_cg hD0 rfl
  have hS : va_S (va_A ([]) s.heap.size) s.heap s.heap [] := va_S.rf
  have hl := lv_entry ([.ref (a 0), .int p1]) (n := 2) (Nat.le_of_ble_eq_true rfl)
  rw [lg_entry_eq]
  generalize (lg_sl ([.ref (a 0), .int p1]) ++ List.replicate (2 - (lg_sl ([.ref (a 0), .int p1])).length) Slot.unset).toArray = ls at hl ⊢
  have hl : lv_has ls 2 [(0, .ref (a 0)), (1, .int p1)] := hl
  unfold kf_Th_aheadOf at hk
  refine lv_aload_n hx hb d_Th_aheadOf_0 rfl (lv_at hl 0 rfl) ?_
  refine va_get (D := D) (ci := 3) (v := .ref (a 4)) (C := R_Th) (T := F_Th) (N := 6) hx hb hts i_uTh hown hK hP 0 rfl rfl 3 (by decide) (hts _ mw_72) (fun _ h9 => h9) rfl d_Th_aheadOf_1 ?_
  refine lv_iload_n hx hb d_Th_aheadOf_4 rfl (lv_at hl 1 rfl) ?_
  obtain ⟨h1, hk⟩ := gd_in hk
  refine va_iald hx hb hK hP 4 3 rfl rfl h1 d_Th_aheadOf_5 ?_
  exact kr_R hx hb hr rfl hlocks hS hk d_Th_aheadOf_6
set_option maxHeartbeats 4000000 in
set_option maxRecDepth 100000 in
theorem c_Th_graceOf (l : Launch) (D : va_G) (a : Nat → Nat) (k : Nat → ClassId) (sz : Nat) (σ : S_Th) (p1 : Int32) (r0 : Int32) (hk : kf_Th_graceOf σ p1 = some r0) : Met l y_Th_graceOf w_Th_graceOf ({ frames := 0, cells := 0, slots := 0, locals := 0 }) (kp_P D cls (ty_Th k) (wl_Th a k σ) [.ref (a 0), .int p1] sz) (kp_R sz r0) 0 0 (va_A [] sz) := by
  refine Met.ofW (cc := b_Th_graceOf) (maxL := 2) (ret := (some .int)) (by decide) rfl ?_
  intro p e s m args below meth c s₁ B hml hv
  obtain ⟨rfl, hsz, hP, hK, hD0⟩ := hv
  have hx := B.exec
  have hb := B.bytes
  have hr := B.returns
  have hts : ∀ w ∈ lw_g, w.before _ s = true := fun w h => atoms_spec (ws := w_Th_graceOf) B.pre w (List.mem_cons_of_mem _ h)
  have hown : s.vm.findClass R_Th = some m.cls := findClass_of_methodNamed B.named
  have hlocks := B.notSynchronized
  subst hsz
  have hA : ∀ q : Nat, s.heap.size ≤ q → (va_A ([]) s.heap.size) q := fun _ h => Or.inr h
  have hDt : ∀ τ, va_D (fun _ => True) (wl_Th a k τ) := fun τ => kd_cg hD0 rfl
  have hS : va_S (va_A ([]) s.heap.size) s.heap s.heap [] := va_S.rf
  have hl := lv_entry ([.ref (a 0), .int p1]) (n := 2) (Nat.le_of_ble_eq_true rfl)
  rw [lg_entry_eq]
  generalize (lg_sl ([.ref (a 0), .int p1]) ++ List.replicate (2 - (lg_sl ([.ref (a 0), .int p1])).length) Slot.unset).toArray = ls at hl ⊢
  have hl : lv_has ls 2 [(0, .ref (a 0)), (1, .int p1)] := hl
  unfold kf_Th_graceOf at hk
  refine lv_aload_n hx hb d_Th_graceOf_0 rfl (lv_at hl 0 rfl) ?_
  refine va_get (D := D) (ci := 3) (v := .ref (a 5)) (C := R_Th) (T := F_Th) (N := 6) hx hb hts i_uTh hown hK hP 0 rfl rfl 4 (by decide) (hts _ mw_73) (fun _ h9 => h9) rfl d_Th_graceOf_1 ?_
  refine lv_iload_n hx hb d_Th_graceOf_4 rfl (lv_at hl 1 rfl) ?_
  obtain ⟨h1, hk⟩ := gd_in hk
  refine va_iald hx hb hK hP 5 4 rfl rfl h1 d_Th_graceOf_5 ?_
  exact kr_R hx hb hr rfl hlocks hS hk d_Th_graceOf_6
