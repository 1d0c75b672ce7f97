set_option maxHeartbeats 4000000 in
set_option maxRecDepth 100000 in
theorem c_Ca_setHours (l : Launch) (D : va_G) (a : Nat → Nat) (k : Nat → ClassId) (sz : Nat) (σ : S_Ca) (p1 p2 p3 p4 : Int32) (r0 : S_Ca) (hk : kf_Ca_setHours σ p1 p2 p3 p4 = some r0) : Met l y_Ca_setHours w_Ca_setHours ({ frames := 0, cells := 0, slots := 0, locals := 0 }) (kp_P D cls (ty_Ca k) (wl_Ca a k σ) [.ref (a 0), .int p1, .int p2, .int p3, .int p4] sz) (kp_Mv D cls (wl_Ca a k r0) (wl_Ca a k σ) sz) 0 0 (va_A (wl_Ca a k σ) sz) := by
  refine Met.ofW (cc := b_Ca_setHours) (maxL := 6) (ret := none) (by decide) rfl ?_
  intro p e s m args below meth c s₁ B hml hv
  obtain ⟨rfl, hsz, hP, hK, hD0⟩ := hv
  have hx := B.exec
  have hb := B.bytes
  have hr := B.returns
  have hts : ∀ w ∈ lw_g, w.before _ s = true := fun w h => atoms_spec (ws := w_Ca_setHours) B.pre w (List.mem_cons_of_mem _ h)
  have hown : s.vm.findClass R_Ca = some m.cls := findClass_of_methodNamed B.named
  have hlocks := B.notSynchronized
  subst hsz
  have hA : ∀ q : Nat, s.heap.size ≤ q → (va_A (wl_Ca a k σ) s.heap.size) q := fun _ h => Or.inr h
  have hDt : ∀ τ, va_D (fun _ => True) (wl_Ca a k τ) := fun τ => kd_cg hD0 rfl
  have hDw : ∀ τ, va_D (va_A (wl_Ca a k σ) s.heap.size) (wl_Ca a k τ) := fun τ => kd_cg hD0.self rfl
  have hS : va_S (va_A (wl_Ca a k σ) s.heap.size) s.heap s.heap [] := va_S.rf
  have hl := lv_entry ([.ref (a 0), .int p1, .int p2, .int p3, .int p4]) (n := 6) (Nat.le_of_ble_eq_true rfl)
  rw [lg_entry_eq]
  generalize (lg_sl ([.ref (a 0), .int p1, .int p2, .int p3, .int p4]) ++ List.replicate (6 - (lg_sl ([.ref (a 0), .int p1, .int p2, .int p3, .int p4])).length) Slot.unset).toArray = ls at hl ⊢
  have hl : lv_has ls 6 [(0, .ref (a 0)), (1, .int p1), (2, .int p2), (3, .int p3), (4, .int p4)] := hl
  unfold kf_Ca_setHours at hk
  refine lv_iload_n hx hb d_Ca_setHours_0 rfl (lv_at hl 1 rfl) ?_
  refine lv_bipush (v := 7) hx hb d_Ca_setHours_1 (by decide) ?_
  refine lv_imul hx hb d_Ca_setHours_3 ?_
  refine lv_iload_n hx hb d_Ca_setHours_4 rfl (lv_at hl 2 rfl) ?_
  refine lv_iadd hx hb d_Ca_setHours_5 ?_
  refine lv_istore (lv' := [(5, .int ((p1 * 7) + p2)), (0, .ref (a 0)), (1, .int p1), (2, .int p2), (3, .int p3), (4, .int p4)]) hx hb d_Ca_setHours_6 hl (by decide) rfl (fun ls hl => ?_)
  refine lv_aload_n hx hb d_Ca_setHours_8 rfl (lv_at hl 1 rfl) ?_
  refine va_get (D := D) (ci := 1) (v := .ref (a 1)) (C := R_Ca) (T := F_Ca) (N := 4) hx hb hts i_uCa hown hK hP 0 rfl rfl 0 (by decide) (hts _ mw_48) (fun _ h9 => h9) rfl d_Ca_setHours_9 ?_
  refine lv_iload hx hb d_Ca_setHours_12 (lv_at hl 0 rfl) ?_
  refine lv_iload_n hx hb d_Ca_setHours_14 rfl (lv_at hl 4 rfl) ?_
  obtain ⟨h1, hk⟩ := gd_in hk
  refine va_iast hx hb hK hP (hDw _) hS 1 0 rfl rfl h1 d_Ca_setHours_15 (fun H locs hP _ hS => ?_)
  have hP : va_P D cls (wl_Ca a k ((upd σ.1 ((p1 * 7) + p2).toNatClampNeg p3), σ.2.1, σ.2.2.1, σ.2.2.2)) H := hP
  refine lv_aload_n hx hb d_Ca_setHours_16 rfl (lv_at hl 1 rfl) ?_
  refine va_get (D := D) (ci := 1) (v := .ref (a 2)) (C := R_Ca) (T := F_Ca) (N := 4) hx hb hts i_uCa hown hK hP 0 rfl rfl 1 (by decide) (hts _ mw_49) (fun _ h9 => h9) rfl d_Ca_setHours_17 ?_
  refine lv_iload hx hb d_Ca_setHours_20 (lv_at hl 0 rfl) ?_
  refine lv_iload hx hb d_Ca_setHours_22 (lv_at hl 5 rfl) ?_
  refine va_iast hx hb hK hP (hDw _) hS 2 1 rfl rfl h1 d_Ca_setHours_24 (fun H locs hP _ hS => ?_)
  have hP : va_P D cls (wl_Ca a k ((upd σ.1 ((p1 * 7) + p2).toNatClampNeg p3), (upd σ.2.1 ((p1 * 7) + p2).toNatClampNeg p4), σ.2.2.1, σ.2.2.2)) H := hP
  exact kr_Mv (w := wl_Ca a k) hx hb hr hlocks hS hP hk d_Ca_setHours_25
set_option maxHeartbeats 4000000 in
set_option maxRecDepth 100000 in
theorem c_Ca_isHoliday (l : Launch) (D : va_G) (a : Nat → Nat) (k : Nat → ClassId) (sz : Nat) (σ : S_Ca) (p1 : Int32) (r0 : Int32) (hk : kf_Ca_isHoliday σ p1 = some r0) : Met l y_Ca_isHoliday w_Ca_isHoliday ({ frames := 0, cells := 0, slots := 0, locals := 0 }) (kp_P D cls (ty_Ca k) (wl_Ca a k σ) [.ref (a 0), .int p1] sz) (kp_R sz r0) 0 0 (va_A [] sz) := by
  refine Met.ofW (cc := b_Ca_isHoliday) (maxL := 2) (ret := (some .boolean)) (by decide) rfl ?_
  intro p e s m args below meth c s₁ B hml hv
  obtain ⟨rfl, hsz, hP, hK, hD0⟩ := hv
  have hx := B.exec
  have hb := B.bytes
  have hr := B.returns
  have hts : ∀ w ∈ lw_g, w.before _ s = true := fun w h => atoms_spec (ws := w_Ca_isHoliday) B.pre w (List.mem_cons_of_mem _ h)
  have hown : s.vm.findClass R_Ca = some m.cls := findClass_of_methodNamed B.named
  have hlocks := B.notSynchronized
  subst hsz
  have hA : ∀ q : Nat, s.heap.size ≤ q → (va_A ([]) s.heap.size) q := fun _ h => Or.inr h
  have hDt : ∀ τ, va_D (fun _ => True) (wl_Ca a k τ) := fun τ => kd_cg hD0 rfl
  have hS : va_S (va_A ([]) s.heap.size) s.heap s.heap [] := va_S.rf
  have hl := lv_entry ([.ref (a 0), .int p1]) (n := 2) (Nat.le_of_ble_eq_true rfl)
  rw [lg_entry_eq]
  generalize (lg_sl ([.ref (a 0), .int p1]) ++ List.replicate (2 - (lg_sl ([.ref (a 0), .int p1])).length) Slot.unset).toArray = ls at hl ⊢
  have hl : lv_has ls 2 [(0, .ref (a 0)), (1, .int p1)] := hl
  unfold kf_Ca_isHoliday at hk
  refine lv_aload_n hx hb d_Ca_isHoliday_0 rfl (lv_at hl 0 rfl) ?_
  refine va_get (D := D) (ci := 1) (v := .ref (a 3)) (C := R_Ca) (T := F_Ca) (N := 4) hx hb hts i_uCa hown hK hP 0 rfl rfl 2 (by decide) (hts _ mw_50) (fun _ h9 => h9) rfl d_Ca_isHoliday_1 ?_
  refine lv_iload_n hx hb d_Ca_isHoliday_4 rfl (lv_at hl 1 rfl) ?_
  obtain ⟨h1, hk⟩ := gd_in hk
  refine va_zald hx hb hK hP 3 2 rfl rfl h1 d_Ca_isHoliday_5 ?_
  obtain ⟨h2, hk⟩ := gd_in hk
  exact kr_R hx hb hr (kn_b h2) hlocks hS hk d_Ca_isHoliday_6
set_option maxHeartbeats 4000000 in
set_option maxRecDepth 100000 in
theorem c_Ca_isFull (l : Launch) (D : va_G) (a : Nat → Nat) (k : Nat → ClassId) (sz : Nat) (σ : S_Ca) (r0 : Int32) (hk : kf_Ca_isFull σ = some r0) : Met l y_Ca_isFull w_Ca_isFull ({ frames := 0, cells := 0, slots := 0, locals := 0 }) (kp_P D cls (ty_Ca k) (wl_Ca a k σ) [.ref (a 0)] sz) (kp_R sz r0) 0 0 (va_A [] sz) := by
  refine Met.ofW (cc := b_Ca_isFull) (maxL := 1) (ret := (some .boolean)) (by decide) rfl ?_
  intro p e s m args below meth c s₁ B hml hv
  obtain ⟨rfl, hsz, hP, hK, hD0⟩ := hv
  have hx := B.exec
  have hb := B.bytes
  have hr := B.returns
  have hts : ∀ w ∈ lw_g, w.before _ s = true := fun w h => atoms_spec (ws := w_Ca_isFull) B.pre w (List.mem_cons_of_mem _ h)
  have hown : s.vm.findClass R_Ca = some m.cls := findClass_of_methodNamed B.named
  have hlocks := B.notSynchronized
  subst hsz
  have hA : ∀ q : Nat, s.heap.size ≤ q → (va_A ([]) s.heap.size) q := fun _ h => Or.inr h
  have hDt : ∀ τ, va_D (fun _ => True) (wl_Ca a k τ) := fun τ => kd_cg hD0 rfl
  have hS : va_S (va_A ([]) s.heap.size) s.heap s.heap [] := va_S.rf
  have hl := lv_entry ([.ref (a 0)]) (n := 1) (Nat.le_of_ble_eq_true rfl)
  rw [lg_entry_eq]
  generalize (lg_sl ([.ref (a 0)]) ++ List.replicate (1 - (lg_sl ([.ref (a 0)])).length) Slot.unset).toArray = ls at hl ⊢
  have hl : lv_has ls 1 [(0, .ref (a 0))] := hl
  unfold kf_Ca_isFull at hk
  refine lv_aload_n hx hb d_Ca_isFull_0 rfl (lv_at hl 0 rfl) ?_
  refine va_get (D := D) (ci := 1) (v := .int σ.2.2.2) (C := R_Ca) (T := F_Ca) (N := 4) hx hb hts i_uCa hown hK hP 0 rfl rfl 3 (by decide) (hts _ mw_51) (fun _ h9 => h9) rfl d_Ca_isFull_1 ?_
  refine lv_bipush (v := 40) hx hb d_Ca_isFull_4 (by decide) ?_
  refine lv_icmp_lt (tgt := 13) hx hb d_Ca_isFull_6 (by decide) (fun c1 => ?_) (fun c1 => ?_)
  · have hk := br_p c1 hk
    refine lv_iconst (v := 0) hx hb d_Ca_isFull_13 (by decide) ?_
    exact kr_R hx hb hr (by decide) hlocks hS hk d_Ca_isFull_14
  · have hk := br_n c1 hk
    refine lv_iconst (v := 1) hx hb d_Ca_isFull_9 (by decide) ?_
    refine lv_goto (tgt := 14) hx hb d_Ca_isFull_10 (by decide) ?_
    exact kr_R hx hb hr (by decide) hlocks hS hk d_Ca_isFull_14
set_option maxHeartbeats 4000000 in
set_option maxRecDepth 100000 in
theorem c_Ca_addHoliday (l : Launch) (D : va_G) (a : Nat → Nat) (k : Nat → ClassId) (sz : Nat) (σ : S_Ca) (p1 : Int32) (r0 : Int32 × S_Ca) (hk : kf_Ca_addHoliday σ p1 = some r0) : Met l y_Ca_addHoliday w_Ca_addHoliday ({ frames := 0, cells := 0, slots := 0, locals := 0 }) (kp_P D cls (ty_Ca k) (wl_Ca a k σ) [.ref (a 0), .int p1] sz) (kp_M D cls (wl_Ca a k r0.2) (wl_Ca a k σ) sz r0.1) 0 0 (va_A (wl_Ca a k σ) sz) := by
  refine Met.ofW (cc := b_Ca_addHoliday) (maxL := 2) (ret := (some .int)) (by decide) rfl ?_
  intro p e s m args below meth c s₁ B hml hv
  obtain ⟨rfl, hsz, hP, hK, hD0⟩ := hv
  have hx := B.exec
  have hb := B.bytes
  have hr := B.returns
  have hts : ∀ w ∈ lw_g, w.before _ s = true := fun w h => atoms_spec (ws := w_Ca_addHoliday) B.pre w (List.mem_cons_of_mem _ h)
  have hown : s.vm.findClass R_Ca = some m.cls := findClass_of_methodNamed B.named
  have hlocks := B.notSynchronized
  subst hsz
  have hA : ∀ q : Nat, s.heap.size ≤ q → (va_A (wl_Ca a k σ) s.heap.size) q := fun _ h => Or.inr h
  have hDt : ∀ τ, va_D (fun _ => True) (wl_Ca a k τ) := fun τ => kd_cg hD0 rfl
  have hDw : ∀ τ, va_D (va_A (wl_Ca a k σ) s.heap.size) (wl_Ca a k τ) := fun τ => kd_cg hD0.self rfl
  have hS : va_S (va_A (wl_Ca a k σ) s.heap.size) s.heap s.heap [] := va_S.rf
  have hl := lv_entry ([.ref (a 0), .int p1]) (n := 2) (Nat.le_of_ble_eq_true rfl)
  rw [lg_entry_eq]
  generalize (lg_sl ([.ref (a 0), .int p1]) ++ List.replicate (2 - (lg_sl ([.ref (a 0), .int p1])).length) Slot.unset).toArray = ls at hl ⊢
  have hl : lv_has ls 2 [(0, .ref (a 0)), (1, .int p1)] := hl
  unfold kf_Ca_addHoliday at hk
  refine lv_aload_n hx hb d_Ca_addHoliday_0 rfl (lv_at hl 0 rfl) ?_
  refine va_get (D := D) (ci := 1) (v := .ref (a 3)) (C := R_Ca) (T := F_Ca) (N := 4) hx hb hts i_uCa hown hK hP 0 rfl rfl 2 (by decide) (hts _ mw_50) (fun _ h9 => h9) rfl d_Ca_addHoliday_1 ?_
  refine lv_iload_n hx hb d_Ca_addHoliday_4 rfl (lv_at hl 1 rfl) ?_
  refine lv_iconst (v := 1) hx hb d_Ca_addHoliday_5 (by decide) ?_
  obtain ⟨h1, hk⟩ := gd_in hk
  refine va_zast hx hb hK hP (hDw _) hS 3 2 rfl rfl h1 d_Ca_addHoliday_6 (fun H locs hP _ hS => ?_)
  have hP : va_P D cls (wl_Ca a k (σ.1, σ.2.1, (upd σ.2.2.1 p1.toNatClampNeg (vp_nar .boolean 1)), σ.2.2.2)) H := hP
  refine lv_aload_n hx hb d_Ca_addHoliday_7 rfl (lv_at hl 0 rfl) ?_
  refine lv_dup hx hb d_Ca_addHoliday_8 rfl ?_
  refine va_get (D := D) (ci := 1) (v := .int σ.2.2.2) (C := R_Ca) (T := F_Ca) (N := 4) hx hb hts i_uCa hown hK hP 0 rfl rfl 3 (by decide) (hts _ mw_51) (fun _ h9 => h9) rfl d_Ca_addHoliday_9 ?_
  refine lv_iconst (v := 1) hx hb d_Ca_addHoliday_12 (by decide) ?_
  refine lv_iadd hx hb d_Ca_addHoliday_13 ?_
  refine va_put (D := D) (ci := 1) (v := .int (σ.2.2.2 + 1)) (ty := .int) (C := R_Ca) (T := F_Ca) (N := 4) hx hb hts i_uCa t_Ca t_Ca_ok n_Ca hown hK hP (hDw _) hS 0 rfl rfl 3 (by decide) (hts _ mw_51) (fun _ h9 => h9) rfl (t_Ca_ok 3 (by decide)) rfl rfl (Nat.le_of_ble_eq_true rfl) d_Ca_addHoliday_14 (fun H locs hP _ hS => ?_)
  have hP : va_P D cls (wl_Ca a k (σ.1, σ.2.1, (upd σ.2.2.1 p1.toNatClampNeg (vp_nar .boolean 1)), (σ.2.2.2 + 1))) H := hP
  refine lv_aload_n hx hb d_Ca_addHoliday_17 rfl (lv_at hl 0 rfl) ?_
  refine va_get (D := D) (ci := 1) (v := .int (σ.2.2.2 + 1)) (C := R_Ca) (T := F_Ca) (N := 4) hx hb hts i_uCa hown hK hP 0 rfl rfl 3 (by decide) (hts _ mw_51) (fun _ h9 => h9) rfl d_Ca_addHoliday_18 ?_
  exact kr_M (w := wl_Ca a k) hx hb hr rfl hlocks hS hP hk d_Ca_addHoliday_21
set_option maxHeartbeats 4000000 in
set_option maxRecDepth 100000 in
theorem c_Ca_isOpen (l : Launch) (D : va_G) (a : Nat → Nat) (k : Nat → ClassId) (sz : Nat) (σ : S_Ca) (p1 p2 p3 : Int32) (r0 : Int32) (hk : kf_Ca_isOpen σ p1 p2 p3 = some r0) : Met l y_Ca_isOpen w_Ca_isOpen ({ frames := 0, cells := 0, slots := 0, locals := 0 }) (kp_P D cls (ty_Ca k) (wl_Ca a k σ) [.ref (a 0), .int p1, .int p2, .int p3] sz) (kp_R sz r0) 0 0 (va_A [] sz) := by
  refine Met.ofW (cc := b_Ca_isOpen) (maxL := 7) (ret := (some .boolean)) (by decide) rfl ?_
  intro p e s m args below meth c s₁ B hml hv
  obtain ⟨rfl, hsz, hP, hK, hD0⟩ := hv
  have hx := B.exec
  have hb := B.bytes
  have hr := B.returns
  have hts : ∀ w ∈ lw_g, w.before _ s = true := fun w h => atoms_spec (ws := w_Ca_isOpen) B.pre w (List.mem_cons_of_mem _ h)
  have hown : s.vm.findClass R_Ca = some m.cls := findClass_of_methodNamed B.named
  have hlocks := B.notSynchronized
  subst hsz
  have hA : ∀ q : Nat, s.heap.size ≤ q → (va_A ([]) s.heap.size) q := fun _ h => Or.inr h
  have hDt : ∀ τ, va_D (fun _ => True) (wl_Ca a k τ) := fun τ => kd_cg hD0 rfl
  have hS : va_S (va_A ([]) s.heap.size) s.heap s.heap [] := va_S.rf
  have hl := lv_entry ([.ref (a 0), .int p1, .int p2, .int p3]) (n := 7) (Nat.le_of_ble_eq_true rfl)
  rw [lg_entry_eq]
  generalize (lg_sl ([.ref (a 0), .int p1, .int p2, .int p3]) ++ List.replicate (7 - (lg_sl ([.ref (a 0), .int p1, .int p2, .int p3])).length) Slot.unset).toArray = ls at hl ⊢
  have hl : lv_has ls 7 [(0, .ref (a 0)), (1, .int p1), (2, .int p2), (3, .int p3)] := hl
  unfold kf_Ca_isOpen at hk
  refine lv_iload_n hx hb d_Ca_isOpen_0 rfl (lv_at hl 2 rfl) ?_
  refine lv_sipush (v := 1440) hx hb d_Ca_isOpen_1 (by decide) ?_
  refine lv_idiv hx hb d_Ca_isOpen_4 (by decide) ?_
  refine lv_istore (lv' := [(4, .int (p2 / 1440)), (0, .ref (a 0)), (1, .int p1), (2, .int p2), (3, .int p3)]) hx hb d_Ca_isOpen_5 hl (by decide) rfl (fun ls hl => ?_)
  refine lv_iload hx hb d_Ca_isOpen_7 (lv_at hl 0 rfl) ?_
  refine lv_sipush (v := 1440) hx hb d_Ca_isOpen_9 (by decide) ?_
  refine lv_imul hx hb d_Ca_isOpen_12 ?_
  refine lv_istore (lv' := [(5, .int ((p2 / 1440) * 1440)), (4, .int (p2 / 1440)), (0, .ref (a 0)), (1, .int p1), (2, .int p2), (3, .int p3)]) hx hb d_Ca_isOpen_13 hl (by decide) rfl (fun ls hl => ?_)
  refine lv_iload_n hx hb d_Ca_isOpen_15 rfl (lv_at hl 3 rfl) ?_
  refine lv_bipush (v := 7) hx hb d_Ca_isOpen_16 (by decide) ?_
  refine lv_imul hx hb d_Ca_isOpen_18 ?_
  refine lv_iload hx hb d_Ca_isOpen_19 (lv_at hl 1 rfl) ?_
  refine lv_bipush (v := 7) hx hb d_Ca_isOpen_21 (by decide) ?_
  refine lv_irem hx hb d_Ca_isOpen_23 (by decide) ?_
  refine lv_iadd hx hb d_Ca_isOpen_24 ?_
  refine lv_istore (lv' := [(6, .int ((p1 * 7) + ((p2 / 1440) - (p2 / 1440) / 7 * 7))), (5, .int ((p2 / 1440) * 1440)), (4, .int (p2 / 1440)), (0, .ref (a 0)), (1, .int p1), (2, .int p2), (3, .int p3)]) hx hb d_Ca_isOpen_25 hl (by decide) rfl (fun ls hl => ?_)
  refine lv_aload_n hx hb d_Ca_isOpen_27 rfl (lv_at hl 3 rfl) ?_
  refine va_get (D := D) (ci := 1) (v := .ref (a 3)) (C := R_Ca) (T := F_Ca) (N := 4) hx hb hts i_uCa hown hK hP 0 rfl rfl 2 (by decide) (hts _ mw_50) (fun _ h9 => h9) rfl d_Ca_isOpen_28 ?_
  refine lv_iload hx hb d_Ca_isOpen_31 (lv_at hl 2 rfl) ?_
  obtain ⟨h1, hk⟩ := gd_in hk
  refine va_zald hx hb hK hP 3 2 rfl rfl h1 d_Ca_isOpen_33 ?_
  refine lv_if_ne (tgt := 69) hx hb d_Ca_isOpen_34 (by decide) (fun c2 => ?_) (fun c2 => ?_)
  · have hk := br_n c2 hk
    refine lv_iconst (v := 0) hx hb d_Ca_isOpen_69 (by decide) ?_
    exact kr_R hx hb hr (by decide) hlocks hS hk d_Ca_isOpen_70
  · have hk := br_p c2 hk
    refine lv_iload_n hx hb d_Ca_isOpen_37 rfl (lv_at hl 5 rfl) ?_
    refine lv_iload hx hb d_Ca_isOpen_38 (lv_at hl 1 rfl) ?_
    refine lv_isub hx hb d_Ca_isOpen_40 ?_
    refine lv_aload_n hx hb d_Ca_isOpen_41 rfl (lv_at hl 3 rfl) ?_
    refine va_get (D := D) (ci := 1) (v := .ref (a 1)) (C := R_Ca) (T := F_Ca) (N := 4) hx hb hts i_uCa hown hK hP 0 rfl rfl 0 (by decide) (hts _ mw_48) (fun _ h9 => h9) rfl d_Ca_isOpen_42 ?_
    refine lv_iload hx hb d_Ca_isOpen_45 (lv_at hl 0 rfl) ?_
    obtain ⟨h3, hk⟩ := gd_in hk
    refine va_iald hx hb hK hP 1 0 rfl rfl h3 d_Ca_isOpen_47 ?_
    refine lv_icmp_lt (tgt := 69) hx hb d_Ca_isOpen_48 (by decide) (fun c4 => ?_) (fun c4 => ?_)
    · have hk := br_p c4 hk
      refine lv_iconst (v := 0) hx hb d_Ca_isOpen_69 (by decide) ?_
      exact kr_R hx hb hr (by decide) hlocks hS hk d_Ca_isOpen_70
    · have hk := br_n c4 hk
      refine lv_iload_n hx hb d_Ca_isOpen_51 rfl (lv_at hl 6 rfl) ?_
      refine lv_iload hx hb d_Ca_isOpen_52 (lv_at hl 1 rfl) ?_
      refine lv_isub hx hb d_Ca_isOpen_54 ?_
      refine lv_aload_n hx hb d_Ca_isOpen_55 rfl (lv_at hl 3 rfl) ?_
      refine va_get (D := D) (ci := 1) (v := .ref (a 2)) (C := R_Ca) (T := F_Ca) (N := 4) hx hb hts i_uCa hown hK hP 0 rfl rfl 1 (by decide) (hts _ mw_49) (fun _ h9 => h9) rfl d_Ca_isOpen_56 ?_
      refine lv_iload hx hb d_Ca_isOpen_59 (lv_at hl 0 rfl) ?_
      refine va_iald hx hb hK hP 2 1 rfl rfl h3 d_Ca_isOpen_61 ?_
      refine lv_icmp_gt (tgt := 69) hx hb d_Ca_isOpen_62 (by decide) (fun c5 => ?_) (fun c5 => ?_)
      · have hk := br_p c5 hk
        refine lv_iconst (v := 0) hx hb d_Ca_isOpen_69 (by decide) ?_
        exact kr_R hx hb hr (by decide) hlocks hS hk d_Ca_isOpen_70
      · have hk := br_n c5 hk
        refine lv_iconst (v := 1) hx hb d_Ca_isOpen_65 (by decide) ?_
        refine lv_goto (tgt := 70) hx hb d_Ca_isOpen_66 (by decide) ?_
        exact kr_R hx hb hr (by decide) hlocks hS hk d_Ca_isOpen_70
