set_option maxHeartbeats 4000000 in
set_option maxRecDepth 100000 in
theorem c_Pe_noShowsOf (l : Launch) (D : va_G) (a : Nat → Nat) (k : Nat → ClassId) (sz : Nat) (σ : S_Pe) (p1 : Int32) (r0 : Int32) (hk : kf_Pe_noShowsOf σ p1 = some r0) : Met l y_Pe_noShowsOf w_Pe_noShowsOf ({ frames := 0, cells := 0, slots := 0, locals := 0 }) (kp_P D cls (ty_Pe k) (wl_Pe a k σ) [.ref (a 0), .int p1] sz) (kp_R sz r0) 0 0 (va_A [] sz) := by
  refine Met.ofW (cc := b_Pe_noShowsOf) (maxL := 2) (ret := (some .int)) (by decide) rfl ?_
  intro p e s m args below meth c s₁ B hml hv
  obtain ⟨rfl, hsz, hP, hK, hD0⟩ := hv
  have hx := B.exec
  have hb := B.bytes
  have hr := B.returns
  have hts : ∀ w ∈ lw_g, w.before _ s = true := fun w h => atoms_spec (ws := w_Pe_noShowsOf) B.pre w (List.mem_cons_of_mem _ h)
  have hown : s.vm.findClass R_Pe = some m.cls := findClass_of_methodNamed B.named
  have hlocks := B.notSynchronized
  subst hsz
  have hA : ∀ q : Nat, s.heap.size ≤ q → (va_A ([]) s.heap.size) q := fun _ h => Or.inr h
  have hDt : ∀ τ, va_D (fun _ => True) (wl_Pe a k τ) := fun τ => kd_cg hD0 rfl
  have hS : va_S (va_A ([]) s.heap.size) s.heap s.heap [] := va_S.rf
  have hl := lv_entry ([.ref (a 0), .int p1]) (n := 2) (Nat.le_of_ble_eq_true rfl)
  rw [lg_entry_eq]
  generalize (lg_sl ([.ref (a 0), .int p1]) ++ List.replicate (2 - (lg_sl ([.ref (a 0), .int p1])).length) Slot.unset).toArray = ls at hl ⊢
  have hl : lv_has ls 2 [(0, .ref (a 0)), (1, .int p1)] := hl
  unfold kf_Pe_noShowsOf at hk
  refine lv_aload_n hx hb d_Pe_noShowsOf_0 rfl (lv_at hl 0 rfl) ?_
  refine va_get (D := D) (ci := 2) (v := .ref (a 1)) (C := R_Pe) (T := F_Pe) (N := 2) hx hb hts i_uPe hown hK hP 0 rfl rfl 0 (by decide) (hts _ mw_153) (fun _ h9 => h9) rfl d_Pe_noShowsOf_1 ?_
  refine lv_iload_n hx hb d_Pe_noShowsOf_4 rfl (lv_at hl 1 rfl) ?_
  obtain ⟨h1, hk⟩ := gd_in hk
  refine va_iald hx hb hK hP 1 0 rfl rfl h1 d_Pe_noShowsOf_5 ?_
  exact kr_R hx hb hr rfl hlocks hS hk d_Pe_noShowsOf_6
set_option maxHeartbeats 4000000 in
set_option maxRecDepth 100000 in
theorem c_Pe_isBarred (l : Launch) (D : va_G) (a : Nat → Nat) (k : Nat → ClassId) (sz : Nat) (σ : S_Pe) (p1 p2 : Int32) (r0 : Int32) (hk : kf_Pe_isBarred σ p1 p2 = some r0) : Met l y_Pe_isBarred w_Pe_isBarred ({ frames := 0, cells := 0, slots := 0, locals := 0 }) (kp_P D cls (ty_Pe k) (wl_Pe a k σ) [.ref (a 0), .int p1, .int p2] sz) (kp_R sz r0) 0 0 (va_A [] sz) := by
  refine Met.ofW (cc := b_Pe_isBarred) (maxL := 3) (ret := (some .boolean)) (by decide) rfl ?_
  intro p e s m args below meth c s₁ B hml hv
  obtain ⟨rfl, hsz, hP, hK, hD0⟩ := hv
  have hx := B.exec
  have hb := B.bytes
  have hr := B.returns
  have hts : ∀ w ∈ lw_g, w.before _ s = true := fun w h => atoms_spec (ws := w_Pe_isBarred) B.pre w (List.mem_cons_of_mem _ h)
  have hown : s.vm.findClass R_Pe = some m.cls := findClass_of_methodNamed B.named
  have hlocks := B.notSynchronized
  subst hsz
  have hA : ∀ q : Nat, s.heap.size ≤ q → (va_A ([]) s.heap.size) q := fun _ h => Or.inr h
  have hDt : ∀ τ, va_D (fun _ => True) (wl_Pe a k τ) := fun τ => kd_cg hD0 rfl
  have hS : va_S (va_A ([]) s.heap.size) s.heap s.heap [] := va_S.rf
  have hl := lv_entry ([.ref (a 0), .int p1, .int p2]) (n := 3) (Nat.le_of_ble_eq_true rfl)
  rw [lg_entry_eq]
  generalize (lg_sl ([.ref (a 0), .int p1, .int p2]) ++ List.replicate (3 - (lg_sl ([.ref (a 0), .int p1, .int p2])).length) Slot.unset).toArray = ls at hl ⊢
  have hl : lv_has ls 3 [(0, .ref (a 0)), (1, .int p1), (2, .int p2)] := hl
  unfold kf_Pe_isBarred at hk
  refine lv_iload_n hx hb d_Pe_isBarred_0 rfl (lv_at hl 2 rfl) ?_
  refine lv_aload_n hx hb d_Pe_isBarred_1 rfl (lv_at hl 0 rfl) ?_
  refine va_get (D := D) (ci := 2) (v := .ref (a 2)) (C := R_Pe) (T := F_Pe) (N := 2) hx hb hts i_uPe hown hK hP 0 rfl rfl 1 (by decide) (hts _ mw_154) (fun _ h9 => h9) rfl d_Pe_isBarred_2 ?_
  refine lv_iload_n hx hb d_Pe_isBarred_5 rfl (lv_at hl 1 rfl) ?_
  obtain ⟨h1, hk⟩ := gd_in hk
  refine va_iald hx hb hK hP 2 1 rfl rfl h1 d_Pe_isBarred_6 ?_
  refine lv_icmp_ge (tgt := 14) hx hb d_Pe_isBarred_7 (by decide) (fun c2 => ?_) (fun c2 => ?_)
  · have hk := br_p c2 hk
    refine lv_iconst (v := 0) hx hb d_Pe_isBarred_14 (by decide) ?_
    exact kr_R hx hb hr (by decide) hlocks hS hk d_Pe_isBarred_15
  · have hk := br_n c2 hk
    refine lv_iconst (v := 1) hx hb d_Pe_isBarred_10 (by decide) ?_
    refine lv_goto (tgt := 15) hx hb d_Pe_isBarred_11 (by decide) ?_
    exact kr_R hx hb hr (by decide) hlocks hS hk d_Pe_isBarred_15
set_option maxHeartbeats 4000000 in
set_option maxRecDepth 100000 in
theorem c_Pe_countNoShow (l : Launch) (D : va_G) (a : Nat → Nat) (k : Nat → ClassId) (sz : Nat) (σ : S_Pe) (p1 p2 : Int32) (r0 : S_Pe) (hk : kf_Pe_countNoShow σ p1 p2 = some r0) : Met l y_Pe_countNoShow w_Pe_countNoShow ({ frames := 0, cells := 0, slots := 0, locals := 0 }) (kp_P D cls (ty_Pe k) (wl_Pe a k σ) [.ref (a 0), .int p1, .int p2] sz) (kp_Mv D cls (wl_Pe a k r0) (wl_Pe a k σ) sz) 0 0 (va_A (wl_Pe a k σ) sz) := by
  refine Met.ofW (cc := b_Pe_countNoShow) (maxL := 3) (ret := none) (by decide) rfl ?_
  intro p e s m args below meth c s₁ B hml hv
  obtain ⟨rfl, hsz, hP, hK, hD0⟩ := hv
  have hx := B.exec
  have hb := B.bytes
  have hr := B.returns
  have hts : ∀ w ∈ lw_g, w.before _ s = true := fun w h => atoms_spec (ws := w_Pe_countNoShow) B.pre w (List.mem_cons_of_mem _ h)
  have hown : s.vm.findClass R_Pe = some m.cls := findClass_of_methodNamed B.named
  have hlocks := B.notSynchronized
  subst hsz
  have hA : ∀ q : Nat, s.heap.size ≤ q → (va_A (wl_Pe a k σ) s.heap.size) q := fun _ h => Or.inr h
  have hDt : ∀ τ, va_D (fun _ => True) (wl_Pe a k τ) := fun τ => kd_cg hD0 rfl
  have hDw : ∀ τ, va_D (va_A (wl_Pe a k σ) s.heap.size) (wl_Pe a k τ) := fun τ => kd_cg hD0.self rfl
  have hS : va_S (va_A (wl_Pe a k σ) s.heap.size) s.heap s.heap [] := va_S.rf
  have hl := lv_entry ([.ref (a 0), .int p1, .int p2]) (n := 3) (Nat.le_of_ble_eq_true rfl)
  rw [lg_entry_eq]
  generalize (lg_sl ([.ref (a 0), .int p1, .int p2]) ++ List.replicate (3 - (lg_sl ([.ref (a 0), .int p1, .int p2])).length) Slot.unset).toArray = ls at hl ⊢
  have hl : lv_has ls 3 [(0, .ref (a 0)), (1, .int p1), (2, .int p2)] := hl
  unfold kf_Pe_countNoShow at hk
  refine lv_aload_n hx hb d_Pe_countNoShow_0 rfl (lv_at hl 0 rfl) ?_
  refine va_get (D := D) (ci := 2) (v := .ref (a 1)) (C := R_Pe) (T := F_Pe) (N := 2) hx hb hts i_uPe hown hK hP 0 rfl rfl 0 (by decide) (hts _ mw_153) (fun _ h9 => h9) rfl d_Pe_countNoShow_1 ?_
  refine lv_iload_n hx hb d_Pe_countNoShow_4 rfl (lv_at hl 1 rfl) ?_
  refine lv_dup2_11 hx hb d_Pe_countNoShow_5 rfl rfl ?_
  obtain ⟨h1, hk⟩ := gd_in hk
  refine va_iald hx hb hK hP 1 0 rfl rfl h1 d_Pe_countNoShow_6 ?_
  refine lv_iconst (v := 1) hx hb d_Pe_countNoShow_7 (by decide) ?_
  refine lv_iadd hx hb d_Pe_countNoShow_8 ?_
  refine va_iast hx hb hK hP (hDw _) hS 1 0 rfl rfl h1 d_Pe_countNoShow_9 (fun H locs hP _ hS => ?_)
  have hP : va_P D cls (wl_Pe a k ((upd σ.1 p1.toNatClampNeg ((σ.1 p1.toNatClampNeg) + 1)), σ.2)) H := hP
  refine lv_aload_n hx hb d_Pe_countNoShow_10 rfl (lv_at hl 0 rfl) ?_
  refine va_get (D := D) (ci := 2) (v := .ref (a 1)) (C := R_Pe) (T := F_Pe) (N := 2) hx hb hts i_uPe hown hK hP 0 rfl rfl 0 (by decide) (hts _ mw_153) (fun _ h9 => h9) rfl d_Pe_countNoShow_11 ?_
  refine lv_iload_n hx hb d_Pe_countNoShow_14 rfl (lv_at hl 1 rfl) ?_
  refine va_iald hx hb hK hP 1 0 rfl rfl h1 d_Pe_countNoShow_15 ?_
  refine lv_iconst (v := 3) hx hb d_Pe_countNoShow_16 (by decide) ?_
  refine lv_irem hx hb d_Pe_countNoShow_17 (by decide) ?_
  refine lv_if_ne (tgt := 32) hx hb d_Pe_countNoShow_18 (by decide) (fun c2 => ?_) (fun c2 => ?_)
  · have hk := br_n c2 hk
    exact kr_Mv (w := wl_Pe a k) hx hb hr hlocks hS hP hk d_Pe_countNoShow_32
  · have hk := br_p c2 hk
    refine lv_aload_n hx hb d_Pe_countNoShow_21 rfl (lv_at hl 0 rfl) ?_
    refine va_get (D := D) (ci := 2) (v := .ref (a 2)) (C := R_Pe) (T := F_Pe) (N := 2) hx hb hts i_uPe hown hK hP 0 rfl rfl 1 (by decide) (hts _ mw_154) (fun _ h9 => h9) rfl d_Pe_countNoShow_22 ?_
    refine lv_iload_n hx hb d_Pe_countNoShow_25 rfl (lv_at hl 1 rfl) ?_
    refine lv_iload_n hx hb d_Pe_countNoShow_26 rfl (lv_at hl 2 rfl) ?_
    refine lv_sipush (v := 10080) hx hb d_Pe_countNoShow_27 (by decide) ?_
    refine lv_iadd hx hb d_Pe_countNoShow_30 ?_
    refine va_iast hx hb hK hP (hDw _) hS 2 1 rfl rfl h1 d_Pe_countNoShow_31 (fun H locs hP _ hS => ?_)
    have hP : va_P D cls (wl_Pe a k ((upd σ.1 p1.toNatClampNeg ((σ.1 p1.toNatClampNeg) + 1)), (upd σ.2 p1.toNatClampNeg (p2 + 10080)))) H := hP
    exact kr_Mv (w := wl_Pe a k) hx hb hr hlocks hS hP hk d_Pe_countNoShow_32
