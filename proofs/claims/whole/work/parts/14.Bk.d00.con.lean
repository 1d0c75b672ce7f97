set_option maxHeartbeats 4000000 in
set_option maxRecDepth 100000 in
theorem c_Bk_size (l : Launch) (D : va_G) (a : Nat → Nat) (k : Nat → ClassId) (sz : Nat) (σ : S_Bk) (r0 : Int32) (hk : kf_Bk_size σ = some r0) : Met l y_Bk_size w_Bk_size ({ frames := 0, cells := 0, slots := 0, locals := 0 }) (kp_P D cls (ty_Bk k) (wl_Bk a k σ) [.ref (a 0)] sz) (kp_R sz r0) 0 0 (va_A [] sz) := by
  refine Met.ofW (cc := b_Bk_size) (maxL := 1) (ret := (some .int)) (by decide) rfl ?_
  intro p e s m args below meth c s₁ B hml hv
  obtain ⟨rfl, hsz, hP, hK, hD0⟩ := hv
  have hx := B.exec
  have hb := B.bytes
  have hr := B.returns
  have hts : ∀ w ∈ lw_g, w.before _ s = true := fun w h => atoms_spec (ws := w_Bk_size) B.pre w (List.mem_cons_of_mem _ h)
  have hown : s.vm.findClass R_Bk = some m.cls := findClass_of_methodNamed B.named
  have hlocks := B.notSynchronized
  subst hsz
  have hA : ∀ q : Nat, s.heap.size ≤ q → (va_A ([]) s.heap.size) q := fun _ h => Or.inr h
  have hDt : ∀ τ, va_D (fun _ => True) (wl_Bk a k τ) := fun τ => kd_cg hD0 rfl
  have hS : va_S (va_A ([]) s.heap.size) s.heap s.heap [] := va_S.rf
  have hl := lv_entry ([.ref (a 0)]) (n := 1) (Nat.le_of_ble_eq_true rfl)
  rw [lg_entry_eq]
  generalize (lg_sl ([.ref (a 0)]) ++ List.replicate (1 - (lg_sl ([.ref (a 0)])).length) Slot.unset).toArray = ls at hl ⊢
  have hl : lv_has ls 1 [(0, .ref (a 0))] := hl
  unfold kf_Bk_size at hk
  refine lv_aload_n hx hb d_Bk_size_0 rfl (lv_at hl 0 rfl) ?_
  refine va_get (D := D) (ci := 0) (v := .int σ.2.2.2.2.2.2.1) (C := R_Bk) (T := F_Bk) (N := 9) hx hb hts i_uBk hown hK hP 0 rfl rfl 6 (by decide) (hts _ mw_100) (fun _ h9 => h9) rfl d_Bk_size_1 ?_
  exact kr_R hx hb hr rfl hlocks hS hk d_Bk_size_4
set_option maxHeartbeats 4000000 in
set_option maxRecDepth 100000 in
theorem c_Bk_has (l : Launch) (D : va_G) (a : Nat → Nat) (k : Nat → ClassId) (sz : Nat) (σ : S_Bk) (p1 : Int32) (r0 : Int32) (hk : kf_Bk_has σ p1 = some r0) : Met l y_Bk_has w_Bk_has ({ frames := 0, cells := 0, slots := 0, locals := 0 }) (kp_P D cls (ty_Bk k) (wl_Bk a k σ) [.ref (a 0), .int p1] sz) (kp_R sz r0) 0 0 (va_A [] sz) := by
  refine Met.ofW (cc := b_Bk_has) (maxL := 2) (ret := (some .boolean)) (by decide) rfl ?_
  intro p e s m args below meth c s₁ B hml hv
  obtain ⟨rfl, hsz, hP, hK, hD0⟩ := hv
  have hx := B.exec
  have hb := B.bytes
  have hr := B.returns
  have hts : ∀ w ∈ lw_g, w.before _ s = true := fun w h => atoms_spec (ws := w_Bk_has) B.pre w (List.mem_cons_of_mem _ h)
  have hown : s.vm.findClass R_Bk = some m.cls := findClass_of_methodNamed B.named
  have hlocks := B.notSynchronized
  subst hsz
  have hA : ∀ q : Nat, s.heap.size ≤ q → (va_A ([]) s.heap.size) q := fun _ h => Or.inr h
  have hDt : ∀ τ, va_D (fun _ => True) (wl_Bk a k τ) := fun τ => kd_cg hD0 rfl
  have hS : va_S (va_A ([]) s.heap.size) s.heap s.heap [] := va_S.rf
  have hl := lv_entry ([.ref (a 0), .int p1]) (n := 2) (Nat.le_of_ble_eq_true rfl)
  rw [lg_entry_eq]
  generalize (lg_sl ([.ref (a 0), .int p1]) ++ List.replicate (2 - (lg_sl ([.ref (a 0), .int p1])).length) Slot.unset).toArray = ls at hl ⊢
  have hl : lv_has ls 2 [(0, .ref (a 0)), (1, .int p1)] := hl
  unfold kf_Bk_has at hk
  refine lv_iload_n hx hb d_Bk_has_0 rfl (lv_at hl 1 rfl) ?_
  refine lv_iconst (v := 1) hx hb d_Bk_has_1 (by decide) ?_
  refine lv_icmp_lt (tgt := 17) hx hb d_Bk_has_2 (by decide) (fun c1 => ?_) (fun c1 => ?_)
  · have hk := br_p c1 hk
    refine lv_iconst (v := 0) hx hb d_Bk_has_17 (by decide) ?_
    exact kr_R hx hb hr (by decide) hlocks hS hk d_Bk_has_18
  · have hk := br_n c1 hk
    refine lv_iload_n hx hb d_Bk_has_5 rfl (lv_at hl 1 rfl) ?_
    refine lv_aload_n hx hb d_Bk_has_6 rfl (lv_at hl 0 rfl) ?_
    refine va_get (D := D) (ci := 0) (v := .int σ.2.2.2.2.2.2.1) (C := R_Bk) (T := F_Bk) (N := 9) hx hb hts i_uBk hown hK hP 0 rfl rfl 6 (by decide) (hts _ mw_100) (fun _ h9 => h9) rfl d_Bk_has_7 ?_
    refine lv_icmp_gt (tgt := 17) hx hb d_Bk_has_10 (by decide) (fun c2 => ?_) (fun c2 => ?_)
    · have hk := br_p c2 hk
      refine lv_iconst (v := 0) hx hb d_Bk_has_17 (by decide) ?_
      exact kr_R hx hb hr (by decide) hlocks hS hk d_Bk_has_18
    · have hk := br_n c2 hk
      refine lv_iconst (v := 1) hx hb d_Bk_has_13 (by decide) ?_
      refine lv_goto (tgt := 18) hx hb d_Bk_has_14 (by decide) ?_
      exact kr_R hx hb hr (by decide) hlocks hS hk d_Bk_has_18
set_option maxHeartbeats 4000000 in
set_option maxRecDepth 100000 in
theorem c_Bk_isFull (l : Launch) (D : va_G) (a : Nat → Nat) (k : Nat → ClassId) (sz : Nat) (σ : S_Bk) (r0 : Int32) (hk : kf_Bk_isFull σ = some r0) : Met l y_Bk_isFull w_Bk_isFull ({ frames := 0, cells := 0, slots := 0, locals := 0 }) (kp_P D cls (ty_Bk k) (wl_Bk a k σ) [.ref (a 0)] sz) (kp_R sz r0) 0 0 (va_A [] sz) := by
  refine Met.ofW (cc := b_Bk_isFull) (maxL := 1) (ret := (some .boolean)) (by decide) rfl ?_
  intro p e s m args below meth c s₁ B hml hv
  obtain ⟨rfl, hsz, hP, hK, hD0⟩ := hv
  have hx := B.exec
  have hb := B.bytes
  have hr := B.returns
  have hts : ∀ w ∈ lw_g, w.before _ s = true := fun w h => atoms_spec (ws := w_Bk_isFull) B.pre w (List.mem_cons_of_mem _ h)
  have hown : s.vm.findClass R_Bk = some m.cls := findClass_of_methodNamed B.named
  have hlocks := B.notSynchronized
  subst hsz
  have hA : ∀ q : Nat, s.heap.size ≤ q → (va_A ([]) s.heap.size) q := fun _ h => Or.inr h
  have hDt : ∀ τ, va_D (fun _ => True) (wl_Bk a k τ) := fun τ => kd_cg hD0 rfl
  have hS : va_S (va_A ([]) s.heap.size) s.heap s.heap [] := va_S.rf
  have hl := lv_entry ([.ref (a 0)]) (n := 1) (Nat.le_of_ble_eq_true rfl)
  rw [lg_entry_eq]
  generalize (lg_sl ([.ref (a 0)]) ++ List.replicate (1 - (lg_sl ([.ref (a 0)])).length) Slot.unset).toArray = ls at hl ⊢
  have hl : lv_has ls 1 [(0, .ref (a 0))] := hl
  unfold kf_Bk_isFull at hk
  refine lv_aload_n hx hb d_Bk_isFull_0 rfl (lv_at hl 0 rfl) ?_
  refine va_get (D := D) (ci := 0) (v := .int σ.2.2.2.2.2.2.1) (C := R_Bk) (T := F_Bk) (N := 9) hx hb hts i_uBk hown hK hP 0 rfl rfl 6 (by decide) (hts _ mw_100) (fun _ h9 => h9) rfl d_Bk_isFull_1 ?_
  refine lv_sipush (v := 200) hx hb d_Bk_isFull_4 (by decide) ?_
  refine lv_icmp_lt (tgt := 14) hx hb d_Bk_isFull_7 (by decide) (fun c1 => ?_) (fun c1 => ?_)
  · have hk := br_p c1 hk
    refine lv_iconst (v := 0) hx hb d_Bk_isFull_14 (by decide) ?_
    exact kr_R hx hb hr (by decide) hlocks hS hk d_Bk_isFull_15
  · have hk := br_n c1 hk
    refine lv_iconst (v := 1) hx hb d_Bk_isFull_10 (by decide) ?_
    refine lv_goto (tgt := 15) hx hb d_Bk_isFull_11 (by decide) ?_
    exact kr_R hx hb hr (by decide) hlocks hS hk d_Bk_isFull_15
set_option maxHeartbeats 4000000 in
set_option maxRecDepth 100000 in
theorem c_Bk_add (l : Launch) (D : va_G) (a : Nat → Nat) (k : Nat → ClassId) (sz : Nat) (σ : S_Bk) (p1 p2 p3 p4 p5 : Int32) (r0 : Int32 × S_Bk) (hk : kf_Bk_add σ p1 p2 p3 p4 p5 = some r0) : Met l y_Bk_add w_Bk_add ({ frames := 0, cells := 0, slots := 0, locals := 0 }) (kp_P D cls (ty_Bk k) (wl_Bk a k σ) [.ref (a 0), .int p1, .int p2, .int p3, .int p4, .int p5] sz) (kp_M D cls (wl_Bk a k r0.2) (wl_Bk a k σ) sz r0.1) 0 0 (va_A (wl_Bk a k σ) sz) := by
  refine Met.ofW (cc := b_Bk_add) (maxL := 6) (ret := (some .int)) (by decide) rfl ?_
  intro p e s m args below meth c s₁ B hml hv
  obtain ⟨rfl, hsz, hP, hK, hD0⟩ := hv
  have hx := B.exec
  have hb := B.bytes
  have hr := B.returns
  have hts : ∀ w ∈ lw_g, w.before _ s = true := fun w h => atoms_spec (ws := w_Bk_add) B.pre w (List.mem_cons_of_mem _ h)
  have hown : s.vm.findClass R_Bk = some m.cls := findClass_of_methodNamed B.named
  have hlocks := B.notSynchronized
  subst hsz
  have hA : ∀ q : Nat, s.heap.size ≤ q → (va_A (wl_Bk a k σ) s.heap.size) q := fun _ h => Or.inr h
  have hDt : ∀ τ, va_D (fun _ => True) (wl_Bk a k τ) := fun τ => kd_cg hD0 rfl
  have hDw : ∀ τ, va_D (va_A (wl_Bk a k σ) s.heap.size) (wl_Bk a k τ) := fun τ => kd_cg hD0.self rfl
  have hS : va_S (va_A (wl_Bk a k σ) s.heap.size) s.heap s.heap [] := va_S.rf
  have hl := lv_entry ([.ref (a 0), .int p1, .int p2, .int p3, .int p4, .int p5]) (n := 6) (Nat.le_of_ble_eq_true rfl)
  rw [lg_entry_eq]
  generalize (lg_sl ([.ref (a 0), .int p1, .int p2, .int p3, .int p4, .int p5]) ++ List.replicate (6 - (lg_sl ([.ref (a 0), .int p1, .int p2, .int p3, .int p4, .int p5])).length) Slot.unset).toArray = ls at hl ⊢
  have hl : lv_has ls 6 [(0, .ref (a 0)), (1, .int p1), (2, .int p2), (3, .int p3), (4, .int p4), (5, .int p5)] := hl
  unfold kf_Bk_add at hk
  refine lv_aload_n hx hb d_Bk_add_0 rfl (lv_at hl 0 rfl) ?_
  refine lv_dup hx hb d_Bk_add_1 rfl ?_
  refine va_get (D := D) (ci := 0) (v := .int σ.2.2.2.2.2.2.1) (C := R_Bk) (T := F_Bk) (N := 9) hx hb hts i_uBk hown hK hP 0 rfl rfl 6 (by decide) (hts _ mw_100) (fun _ h9 => h9) rfl d_Bk_add_2 ?_
  refine lv_iconst (v := 1) hx hb d_Bk_add_5 (by decide) ?_
  refine lv_iadd hx hb d_Bk_add_6 ?_
  refine va_put (D := D) (ci := 0) (v := .int (σ.2.2.2.2.2.2.1 + 1)) (ty := .int) (C := R_Bk) (T := F_Bk) (N := 9) hx hb hts i_uBk t_Bk t_Bk_ok n_Bk hown hK hP (hDw _) hS 0 rfl rfl 6 (by decide) (hts _ mw_100) (fun _ h9 => h9) rfl (t_Bk_ok 6 (by decide)) rfl rfl (Nat.le_of_ble_eq_true rfl) d_Bk_add_7 (fun H locs hP _ hS => ?_)
  have hP : va_P D cls (wl_Bk a k (σ.1, σ.2.1, σ.2.2.1, σ.2.2.2.1, σ.2.2.2.2.1, σ.2.2.2.2.2.1, (σ.2.2.2.2.2.2.1 + 1), σ.2.2.2.2.2.2.2.1, σ.2.2.2.2.2.2.2.2)) H := hP
  refine lv_aload_n hx hb d_Bk_add_10 rfl (lv_at hl 0 rfl) ?_
  refine va_get (D := D) (ci := 0) (v := .ref (a 1)) (C := R_Bk) (T := F_Bk) (N := 9) hx hb hts i_uBk hown hK hP 0 rfl rfl 0 (by decide) (hts _ mw_94) (fun _ h9 => h9) rfl d_Bk_add_11 ?_
  refine lv_aload_n hx hb d_Bk_add_14 rfl (lv_at hl 0 rfl) ?_
  refine va_get (D := D) (ci := 0) (v := .int (σ.2.2.2.2.2.2.1 + 1)) (C := R_Bk) (T := F_Bk) (N := 9) hx hb hts i_uBk hown hK hP 0 rfl rfl 6 (by decide) (hts _ mw_100) (fun _ h9 => h9) rfl d_Bk_add_15 ?_
  refine lv_iload_n hx hb d_Bk_add_18 rfl (lv_at hl 1 rfl) ?_
  obtain ⟨h1, hk⟩ := gd_in hk
  refine va_iast hx hb hK hP (hDw _) hS 1 0 rfl rfl h1 d_Bk_add_19 (fun H locs hP _ hS => ?_)
  have hP : va_P D cls (wl_Bk a k ((upd σ.1 (σ.2.2.2.2.2.2.1 + 1).toNatClampNeg p1), σ.2.1, σ.2.2.1, σ.2.2.2.1, σ.2.2.2.2.1, σ.2.2.2.2.2.1, (σ.2.2.2.2.2.2.1 + 1), σ.2.2.2.2.2.2.2.1, σ.2.2.2.2.2.2.2.2)) H := hP
  refine lv_aload_n hx hb d_Bk_add_20 rfl (lv_at hl 0 rfl) ?_
  refine va_get (D := D) (ci := 0) (v := .ref (a 2)) (C := R_Bk) (T := F_Bk) (N := 9) hx hb hts i_uBk hown hK hP 0 rfl rfl 1 (by decide) (hts _ mw_95) (fun _ h9 => h9) rfl d_Bk_add_21 ?_
  refine lv_aload_n hx hb d_Bk_add_24 rfl (lv_at hl 0 rfl) ?_
  refine va_get (D := D) (ci := 0) (v := .int (σ.2.2.2.2.2.2.1 + 1)) (C := R_Bk) (T := F_Bk) (N := 9) hx hb hts i_uBk hown hK hP 0 rfl rfl 6 (by decide) (hts _ mw_100) (fun _ h9 => h9) rfl d_Bk_add_25 ?_
  refine lv_iload_n hx hb d_Bk_add_28 rfl (lv_at hl 2 rfl) ?_
  refine va_iast hx hb hK hP (hDw _) hS 2 1 rfl rfl h1 d_Bk_add_29 (fun H locs hP _ hS => ?_)
  have hP : va_P D cls (wl_Bk a k ((upd σ.1 (σ.2.2.2.2.2.2.1 + 1).toNatClampNeg p1), (upd σ.2.1 (σ.2.2.2.2.2.2.1 + 1).toNatClampNeg p2), σ.2.2.1, σ.2.2.2.1, σ.2.2.2.2.1, σ.2.2.2.2.2.1, (σ.2.2.2.2.2.2.1 + 1), σ.2.2.2.2.2.2.2.1, σ.2.2.2.2.2.2.2.2)) H := hP
  refine lv_aload_n hx hb d_Bk_add_30 rfl (lv_at hl 0 rfl) ?_
  refine va_get (D := D) (ci := 0) (v := .ref (a 3)) (C := R_Bk) (T := F_Bk) (N := 9) hx hb hts i_uBk hown hK hP 0 rfl rfl 2 (by decide) (hts _ mw_96) (fun _ h9 => h9) rfl d_Bk_add_31 ?_
  refine lv_aload_n hx hb d_Bk_add_34 rfl (lv_at hl 0 rfl) ?_
  refine va_get (D := D) (ci := 0) (v := .int (σ.2.2.2.2.2.2.1 + 1)) (C := R_Bk) (T := F_Bk) (N := 9) hx hb hts i_uBk hown hK hP 0 rfl rfl 6 (by decide) (hts _ mw_100) (fun _ h9 => h9) rfl d_Bk_add_35 ?_
  refine lv_iload_n hx hb d_Bk_add_38 rfl (lv_at hl 3 rfl) ?_
  refine va_iast hx hb hK hP (hDw _) hS 3 2 rfl rfl h1 d_Bk_add_39 (fun H locs hP _ hS => ?_)
  have hP : va_P D cls (wl_Bk a k ((upd σ.1 (σ.2.2.2.2.2.2.1 + 1).toNatClampNeg p1), (upd σ.2.1 (σ.2.2.2.2.2.2.1 + 1).toNatClampNeg p2), (upd σ.2.2.1 (σ.2.2.2.2.2.2.1 + 1).toNatClampNeg p3), σ.2.2.2.1, σ.2.2.2.2.1, σ.2.2.2.2.2.1, (σ.2.2.2.2.2.2.1 + 1), σ.2.2.2.2.2.2.2.1, σ.2.2.2.2.2.2.2.2)) H := hP
  refine lv_aload_n hx hb d_Bk_add_40 rfl (lv_at hl 0 rfl) ?_
  refine va_get (D := D) (ci := 0) (v := .ref (a 4)) (C := R_Bk) (T := F_Bk) (N := 9) hx hb hts i_uBk hown hK hP 0 rfl rfl 3 (by decide) (hts _ mw_97) (fun _ h9 => h9) rfl d_Bk_add_41 ?_
  refine lv_aload_n hx hb d_Bk_add_44 rfl (lv_at hl 0 rfl) ?_
  refine va_get (D := D) (ci := 0) (v := .int (σ.2.2.2.2.2.2.1 + 1)) (C := R_Bk) (T := F_Bk) (N := 9) hx hb hts i_uBk hown hK hP 0 rfl rfl 6 (by decide) (hts _ mw_100) (fun _ h9 => h9) rfl d_Bk_add_45 ?_
  refine lv_iload hx hb d_Bk_add_48 (lv_at hl 4 rfl) ?_
  refine va_iast hx hb hK hP (hDw _) hS 4 3 rfl rfl h1 d_Bk_add_50 (fun H locs hP _ hS => ?_)
  have hP : va_P D cls (wl_Bk a k ((upd σ.1 (σ.2.2.2.2.2.2.1 + 1).toNatClampNeg p1), (upd σ.2.1 (σ.2.2.2.2.2.2.1 + 1).toNatClampNeg p2), (upd σ.2.2.1 (σ.2.2.2.2.2.2.1 + 1).toNatClampNeg p3), (upd σ.2.2.2.1 (σ.2.2.2.2.2.2.1 + 1).toNatClampNeg p4), σ.2.2.2.2.1, σ.2.2.2.2.2.1, (σ.2.2.2.2.2.2.1 + 1), σ.2.2.2.2.2.2.2.1, σ.2.2.2.2.2.2.2.2)) H := hP
  refine lv_aload_n hx hb d_Bk_add_51 rfl (lv_at hl 0 rfl) ?_
  refine va_get (D := D) (ci := 0) (v := .ref (a 5)) (C := R_Bk) (T := F_Bk) (N := 9) hx hb hts i_uBk hown hK hP 0 rfl rfl 4 (by decide) (hts _ mw_98) (fun _ h9 => h9) rfl d_Bk_add_52 ?_
  refine lv_aload_n hx hb d_Bk_add_55 rfl (lv_at hl 0 rfl) ?_
  refine va_get (D := D) (ci := 0) (v := .int (σ.2.2.2.2.2.2.1 + 1)) (C := R_Bk) (T := F_Bk) (N := 9) hx hb hts i_uBk hown hK hP 0 rfl rfl 6 (by decide) (hts _ mw_100) (fun _ h9 => h9) rfl d_Bk_add_56 ?_
  refine lv_iconst (v := 0) hx hb d_Bk_add_59 (by decide) ?_
  refine va_iast hx hb hK hP (hDw _) hS 5 4 rfl rfl h1 d_Bk_add_60 (fun H locs hP _ hS => ?_)
  have hP : va_P D cls (wl_Bk a k ((upd σ.1 (σ.2.2.2.2.2.2.1 + 1).toNatClampNeg p1), (upd σ.2.1 (σ.2.2.2.2.2.2.1 + 1).toNatClampNeg p2), (upd σ.2.2.1 (σ.2.2.2.2.2.2.1 + 1).toNatClampNeg p3), (upd σ.2.2.2.1 (σ.2.2.2.2.2.2.1 + 1).toNatClampNeg p4), (upd σ.2.2.2.2.1 (σ.2.2.2.2.2.2.1 + 1).toNatClampNeg 0), σ.2.2.2.2.2.1, (σ.2.2.2.2.2.2.1 + 1), σ.2.2.2.2.2.2.2.1, σ.2.2.2.2.2.2.2.2)) H := hP
  refine lv_aload_n hx hb d_Bk_add_61 rfl (lv_at hl 0 rfl) ?_
  refine va_get (D := D) (ci := 0) (v := .ref (a 6)) (C := R_Bk) (T := F_Bk) (N := 9) hx hb hts i_uBk hown hK hP 0 rfl rfl 5 (by decide) (hts _ mw_99) (fun _ h9 => h9) rfl d_Bk_add_62 ?_
  refine lv_aload_n hx hb d_Bk_add_65 rfl (lv_at hl 0 rfl) ?_
  refine va_get (D := D) (ci := 0) (v := .int (σ.2.2.2.2.2.2.1 + 1)) (C := R_Bk) (T := F_Bk) (N := 9) hx hb hts i_uBk hown hK hP 0 rfl rfl 6 (by decide) (hts _ mw_100) (fun _ h9 => h9) rfl d_Bk_add_66 ?_
  refine lv_iload hx hb d_Bk_add_69 (lv_at hl 5 rfl) ?_
  refine va_iast hx hb hK hP (hDw _) hS 6 5 rfl rfl h1 d_Bk_add_71 (fun H locs hP _ hS => ?_)
  have hP : va_P D cls (wl_Bk a k ((upd σ.1 (σ.2.2.2.2.2.2.1 + 1).toNatClampNeg p1), (upd σ.2.1 (σ.2.2.2.2.2.2.1 + 1).toNatClampNeg p2), (upd σ.2.2.1 (σ.2.2.2.2.2.2.1 + 1).toNatClampNeg p3), (upd σ.2.2.2.1 (σ.2.2.2.2.2.2.1 + 1).toNatClampNeg p4), (upd σ.2.2.2.2.1 (σ.2.2.2.2.2.2.1 + 1).toNatClampNeg 0), (upd σ.2.2.2.2.2.1 (σ.2.2.2.2.2.2.1 + 1).toNatClampNeg p5), (σ.2.2.2.2.2.2.1 + 1), σ.2.2.2.2.2.2.2.1, σ.2.2.2.2.2.2.2.2)) H := hP
  refine lv_aload_n hx hb d_Bk_add_72 rfl (lv_at hl 0 rfl) ?_
  refine va_get (D := D) (ci := 0) (v := .int (σ.2.2.2.2.2.2.1 + 1)) (C := R_Bk) (T := F_Bk) (N := 9) hx hb hts i_uBk hown hK hP 0 rfl rfl 6 (by decide) (hts _ mw_100) (fun _ h9 => h9) rfl d_Bk_add_73 ?_
  exact kr_M (w := wl_Bk a k) hx hb hr rfl hlocks hS hP hk d_Bk_add_76
set_option maxHeartbeats 4000000 in
set_option maxRecDepth 100000 in
theorem c_Bk_personOf (l : Launch) (D : va_G) (a : Nat → Nat) (k : Nat → ClassId) (sz : Nat) (σ : S_Bk) (p1 : Int32) (r0 : Int32) (hk : kf_Bk_personOf σ p1 = some r0) : Met l y_Bk_personOf w_Bk_personOf ({ frames := 0, cells := 0, slots := 0, locals := 0 }) (kp_P D cls (ty_Bk k) (wl_Bk a k σ) [.ref (a 0), .int p1] sz) (kp_R sz r0) 0 0 (va_A [] sz) := by
  refine Met.ofW (cc := b_Bk_personOf) (maxL := 2) (ret := (some .int)) (by decide) rfl ?_
  intro p e s m args below meth c s₁ B hml hv
  obtain ⟨rfl, hsz, hP, hK, hD0⟩ := hv
  have hx := B.exec
  have hb := B.bytes
  have hr := B.returns
  have hts : ∀ w ∈ lw_g, w.before _ s = true := fun w h => atoms_spec (ws := w_Bk_personOf) B.pre w (List.mem_cons_of_mem _ h)
  have hown : s.vm.findClass R_Bk = some m.cls := findClass_of_methodNamed B.named
  have hlocks := B.notSynchronized
  subst hsz
  have hA : ∀ q : Nat, s.heap.size ≤ q → (va_A ([]) s.heap.size) q := fun _ h => Or.inr h
  have hDt : ∀ τ, va_D (fun _ => True) (wl_Bk a k τ) := fun τ => kd_cg hD0 rfl
  have hS : va_S (va_A ([]) s.heap.size) s.heap s.heap [] := va_S.rf
  have hl := lv_entry ([.ref (a 0), .int p1]) (n := 2) (Nat.le_of_ble_eq_true rfl)
  rw [lg_entry_eq]
  generalize (lg_sl ([.ref (a 0), .int p1]) ++ List.replicate (2 - (lg_sl ([.ref (a 0), .int p1])).length) Slot.unset).toArray = ls at hl ⊢
  have hl : lv_has ls 2 [(0, .ref (a 0)), (1, .int p1)] := hl
  unfold kf_Bk_personOf at hk
  refine lv_aload_n hx hb d_Bk_personOf_0 rfl (lv_at hl 0 rfl) ?_
  refine va_get (D := D) (ci := 0) (v := .ref (a 1)) (C := R_Bk) (T := F_Bk) (N := 9) hx hb hts i_uBk hown hK hP 0 rfl rfl 0 (by decide) (hts _ mw_94) (fun _ h9 => h9) rfl d_Bk_personOf_1 ?_
  refine lv_iload_n hx hb d_Bk_personOf_4 rfl (lv_at hl 1 rfl) ?_
  obtain ⟨h1, hk⟩ := gd_in hk
  refine va_iald hx hb hK hP 1 0 rfl rfl h1 d_Bk_personOf_5 ?_
  exact kr_R hx hb hr rfl hlocks hS hk d_Bk_personOf_6
set_option maxHeartbeats 4000000 in
set_option maxRecDepth 100000 in
theorem c_Bk_thingOf (l : Launch) (D : va_G) (a : Nat → Nat) (k : Nat → ClassId) (sz : Nat) (σ : S_Bk) (p1 : Int32) (r0 : Int32) (hk : kf_Bk_thingOf σ p1 = some r0) : Met l y_Bk_thingOf w_Bk_thingOf ({ frames := 0, cells := 0, slots := 0, locals := 0 }) (kp_P D cls (ty_Bk k) (wl_Bk a k σ) [.ref (a 0), .int p1] sz) (kp_R sz r0) 0 0 (va_A [] sz) := by
  refine Met.ofW (cc := b_Bk_thingOf) (maxL := 2) (ret := (some .int)) (by decide) rfl ?_
  intro p e s m args below meth c s₁ B hml hv
  obtain ⟨rfl, hsz, hP, hK, hD0⟩ := hv
  have hx := B.exec
  have hb := B.bytes
  have hr := B.returns
  have hts : ∀ w ∈ lw_g, w.before _ s = true := fun w h => atoms_spec (ws := w_Bk_thingOf) B.pre w (List.mem_cons_of_mem _ h)
  have hown : s.vm.findClass R_Bk = some m.cls := findClass_of_methodNamed B.named
  have hlocks := B.notSynchronized
  subst hsz
  have hA : ∀ q : Nat, s.heap.size ≤ q → (va_A ([]) s.heap.size) q := fun _ h => Or.inr h
  have hDt : ∀ τ, va_D (fun _ => True) (wl_Bk a k τ) := fun τ => kd_cg hD0 rfl
  have hS : va_S (va_A ([]) s.heap.size) s.heap s.heap [] := va_S.rf
  have hl := lv_entry ([.ref (a 0), .int p1]) (n := 2) (Nat.le_of_ble_eq_true rfl)
  rw [lg_entry_eq]
  generalize (lg_sl ([.ref (a 0), .int p1]) ++ List.replicate (2 - (lg_sl ([.ref (a 0), .int p1])).length) Slot.unset).toArray = ls at hl ⊢
  have hl : lv_has ls 2 [(0, .ref (a 0)), (1, .int p1)] := hl
  unfold kf_Bk_thingOf at hk
  refine lv_aload_n hx hb d_Bk_thingOf_0 rfl (lv_at hl 0 rfl) ?_
  refine va_get (D := D) (ci := 0) (v := .ref (a 2)) (C := R_Bk) (T := F_Bk) (N := 9) hx hb hts i_uBk hown hK hP 0 rfl rfl 1 (by decide) (hts _ mw_95) (fun _ h9 => h9) rfl d_Bk_thingOf_1 ?_
  refine lv_iload_n hx hb d_Bk_thingOf_4 rfl (lv_at hl 1 rfl) ?_
  obtain ⟨h1, hk⟩ := gd_in hk
  refine va_iald hx hb hK hP 2 1 rfl rfl h1 d_Bk_thingOf_5 ?_
  exact kr_R hx hb hr rfl hlocks hS hk d_Bk_thingOf_6
set_option maxHeartbeats 4000000 in
set_option maxRecDepth 100000 in
theorem c_Bk_fromOf (l : Launch) (D : va_G) (a : Nat → Nat) (k : Nat → ClassId) (sz : Nat) (σ : S_Bk) (p1 : Int32) (r0 : Int32) (hk : kf_Bk_fromOf σ p1 = some r0) : Met l y_Bk_fromOf w_Bk_fromOf ({ frames := 0, cells := 0, slots := 0, locals := 0 }) (kp_P D cls (ty_Bk k) (wl_Bk a k σ) [.ref (a 0), .int p1] sz) (kp_R sz r0) 0 0 (va_A [] sz) := by
  refine Met.ofW (cc := b_Bk_fromOf) (maxL := 2) (ret := (some .int)) (by decide) rfl ?_
  intro p e s m args below meth c s₁ B hml hv
  obtain ⟨rfl, hsz, hP, hK, hD0⟩ := hv
  have hx := B.exec
  have hb := B.bytes
  have hr := B.returns
  have hts : ∀ w ∈ lw_g, w.before _ s = true := fun w h => atoms_spec (ws := w_Bk_fromOf) B.pre w (List.mem_cons_of_mem _ h)
  have hown : s.vm.findClass R_Bk = some m.cls := findClass_of_methodNamed B.named
  have hlocks := B.notSynchronized
  subst hsz
  have hA : ∀ q : Nat, s.heap.size ≤ q → (va_A ([]) s.heap.size) q := fun _ h => Or.inr h
  have hDt : ∀ τ, va_D (fun _ => True) (wl_Bk a k τ) := fun τ => kd_cg hD0 rfl
  have hS : va_S (va_A ([]) s.heap.size) s.heap s.heap [] := va_S.rf
  have hl := lv_entry ([.ref (a 0), .int p1]) (n := 2) (Nat.le_of_ble_eq_true rfl)
  rw [lg_entry_eq]
  generalize (lg_sl ([.ref (a 0), .int p1]) ++ List.replicate (2 - (lg_sl ([.ref (a 0), .int p1])).length) Slot.unset).toArray = ls at hl ⊢
  have hl : lv_has ls 2 [(0, .ref (a 0)), (1, .int p1)] := hl
  unfold kf_Bk_fromOf at hk
  refine lv_aload_n hx hb d_Bk_fromOf_0 rfl (lv_at hl 0 rfl) ?_
  refine va_get (D := D) (ci := 0) (v := .ref (a 3)) (C := R_Bk) (T := F_Bk) (N := 9) hx hb hts i_uBk hown hK hP 0 rfl rfl 2 (by decide) (hts _ mw_96) (fun _ h9 => h9) rfl d_Bk_fromOf_1 ?_
  refine lv_iload_n hx hb d_Bk_fromOf_4 rfl (lv_at hl 1 rfl) ?_
  obtain ⟨h1, hk⟩ := gd_in hk
  refine va_iald hx hb hK hP 3 2 rfl rfl h1 d_Bk_fromOf_5 ?_
  exact kr_R hx hb hr rfl hlocks hS hk d_Bk_fromOf_6
set_option maxHeartbeats 4000000 in
set_option maxRecDepth 100000 in
theorem c_Bk_toOf (l : Launch) (D : va_G) (a : Nat → Nat) (k : Nat → ClassId) (sz : Nat) (σ : S_Bk) (p1 : Int32) (r0 : Int32) (hk : kf_Bk_toOf σ p1 = some r0) : Met l y_Bk_toOf w_Bk_toOf ({ frames := 0, cells := 0, slots := 0, locals := 0 }) (kp_P D cls (ty_Bk k) (wl_Bk a k σ) [.ref (a 0), .int p1] sz) (kp_R sz r0) 0 0 (va_A [] sz) := by
  refine Met.ofW (cc := b_Bk_toOf) (maxL := 2) (ret := (some .int)) (by decide) rfl ?_
  intro p e s m args below meth c s₁ B hml hv
  obtain ⟨rfl, hsz, hP, hK, hD0⟩ := hv
  have hx := B.exec
  have hb := B.bytes
  have hr := B.returns
  have hts : ∀ w ∈ lw_g, w.before _ s = true := fun w h => atoms_spec (ws := w_Bk_toOf) B.pre w (List.mem_cons_of_mem _ h)
  have hown : s.vm.findClass R_Bk = some m.cls := findClass_of_methodNamed B.named
  have hlocks := B.notSynchronized
  subst hsz
  have hA : ∀ q : Nat, s.heap.size ≤ q → (va_A ([]) s.heap.size) q := fun _ h => Or.inr h
  have hDt : ∀ τ, va_D (fun _ => True) (wl_Bk a k τ) := fun τ => kd_cg hD0 rfl
  have hS : va_S (va_A ([]) s.heap.size) s.heap s.heap [] := va_S.rf
  have hl := lv_entry ([.ref (a 0), .int p1]) (n := 2) (Nat.le_of_ble_eq_true rfl)
  rw [lg_entry_eq]
  generalize (lg_sl ([.ref (a 0), .int p1]) ++ List.replicate (2 - (lg_sl ([.ref (a 0), .int p1])).length) Slot.unset).toArray = ls at hl ⊢
  have hl : lv_has ls 2 [(0, .ref (a 0)), (1, .int p1)] := hl
  unfold kf_Bk_toOf at hk
  refine lv_aload_n hx hb d_Bk_toOf_0 rfl (lv_at hl 0 rfl) ?_
  refine va_get (D := D) (ci := 0) (v := .ref (a 4)) (C := R_Bk) (T := F_Bk) (N := 9) hx hb hts i_uBk hown hK hP 0 rfl rfl 3 (by decide) (hts _ mw_97) (fun _ h9 => h9) rfl d_Bk_toOf_1 ?_
  refine lv_iload_n hx hb d_Bk_toOf_4 rfl (lv_at hl 1 rfl) ?_
  obtain ⟨h1, hk⟩ := gd_in hk
  refine va_iald hx hb hK hP 4 3 rfl rfl h1 d_Bk_toOf_5 ?_
  exact kr_R hx hb hr rfl hlocks hS hk d_Bk_toOf_6
set_option maxHeartbeats 4000000 in
set_option maxRecDepth 100000 in
theorem c_Bk_stateOf (l : Launch) (D : va_G) (a : Nat → Nat) (k : Nat → ClassId) (sz : Nat) (σ : S_Bk) (p1 : Int32) (r0 : Int32) (hk : kf_Bk_stateOf σ p1 = some r0) : Met l y_Bk_stateOf w_Bk_stateOf ({ frames := 0, cells := 0, slots := 0, locals := 0 }) (kp_P D cls (ty_Bk k) (wl_Bk a k σ) [.ref (a 0), .int p1] sz) (kp_R sz r0) 0 0 (va_A [] sz) := by
  refine Met.ofW (cc := b_Bk_stateOf) (maxL := 2) (ret := (some .int)) (by decide) rfl ?_
  intro p e s m args below meth c s₁ B hml hv
  obtain ⟨rfl, hsz, hP, hK, hD0⟩ := hv
  have hx := B.exec
  have hb := B.bytes
  have hr := B.returns
  have hts : ∀ w ∈ lw_g, w.before _ s = true := fun w h => atoms_spec (ws := w_Bk_stateOf) B.pre w (List.mem_cons_of_mem _ h)
  have hown : s.vm.findClass R_Bk = some m.cls := findClass_of_methodNamed B.named
  have hlocks := B.notSynchronized
  subst hsz
  have hA : ∀ q : Nat, s.heap.size ≤ q → (va_A ([]) s.heap.size) q := fun _ h => Or.inr h
  have hDt : ∀ τ, va_D (fun _ => True) (wl_Bk a k τ) := fun τ => kd_cg hD0 rfl
  have hS : va_S (va_A ([]) s.heap.size) s.heap s.heap [] := va_S.rf
  have hl := lv_entry ([.ref (a 0), .int p1]) (n := 2) (Nat.le_of_ble_eq_true rfl)
  rw [lg_entry_eq]
  generalize (lg_sl ([.ref (a 0), .int p1]) ++ List.replicate (2 - (lg_sl ([.ref (a 0), .int p1])).length) Slot.unset).toArray = ls at hl ⊢
  have hl : lv_has ls 2 [(0, .ref (a 0)), (1, .int p1)] := hl
  unfold kf_Bk_stateOf at hk
  refine lv_aload_n hx hb d_Bk_stateOf_0 rfl (lv_at hl 0 rfl) ?_
  refine va_get (D := D) (ci := 0) (v := .ref (a 5)) (C := R_Bk) (T := F_Bk) (N := 9) hx hb hts i_uBk hown hK hP 0 rfl rfl 4 (by decide) (hts _ mw_98) (fun _ h9 => h9) rfl d_Bk_stateOf_1 ?_
  refine lv_iload_n hx hb d_Bk_stateOf_4 rfl (lv_at hl 1 rfl) ?_
  obtain ⟨h1, hk⟩ := gd_in hk
  refine va_iald hx hb hK hP 5 4 rfl rfl h1 d_Bk_stateOf_5 ?_
  exact kr_R hx hb hr rfl hlocks hS hk d_Bk_stateOf_6
set_option maxHeartbeats 4000000 in
set_option maxRecDepth 100000 in
theorem c_Bk_hostOf (l : Launch) (D : va_G) (a : Nat → Nat) (k : Nat → ClassId) (sz : Nat) (σ : S_Bk) (p1 : Int32) (r0 : Int32) (hk : kf_Bk_hostOf σ p1 = some r0) : Met l y_Bk_hostOf w_Bk_hostOf ({ frames := 0, cells := 0, slots := 0, locals := 0 }) (kp_P D cls (ty_Bk k) (wl_Bk a k σ) [.ref (a 0), .int p1] sz) (kp_R sz r0) 0 0 (va_A [] sz) := by
  refine Met.ofW (cc := b_Bk_hostOf) (maxL := 2) (ret := (some .int)) (by decide) rfl ?_
  intro p e s m args below meth c s₁ B hml hv
  obtain ⟨rfl, hsz, hP, hK, hD0⟩ := hv
  have hx := B.exec
  have hb := B.bytes
  have hr := B.returns
  have hts : ∀ w ∈ lw_g, w.before _ s = true := fun w h => atoms_spec (ws := w_Bk_hostOf) B.pre w (List.mem_cons_of_mem _ h)
  have hown : s.vm.findClass R_Bk = some m.cls := findClass_of_methodNamed B.named
  have hlocks := B.notSynchronized
  subst hsz
  have hA : ∀ q : Nat, s.heap.size ≤ q → (va_A ([]) s.heap.size) q := fun _ h => Or.inr h
  have hDt : ∀ τ, va_D (fun _ => True) (wl_Bk a k τ) := fun τ => kd_cg hD0 rfl
  have hS : va_S (va_A ([]) s.heap.size) s.heap s.heap [] := va_S.rf
  have hl := lv_entry ([.ref (a 0), .int p1]) (n := 2) (Nat.le_of_ble_eq_true rfl)
  rw [lg_entry_eq]
  generalize (lg_sl ([.ref (a 0), .int p1]) ++ List.replicate (2 - (lg_sl ([.ref (a 0), .int p1])).length) Slot.unset).toArray = ls at hl ⊢
  have hl : lv_has ls 2 [(0, .ref (a 0)), (1, .int p1)] := hl
  unfold kf_Bk_hostOf at hk
  refine lv_aload_n hx hb d_Bk_hostOf_0 rfl (lv_at hl 0 rfl) ?_
  refine va_get (D := D) (ci := 0) (v := .ref (a 6)) (C := R_Bk) (T := F_Bk) (N := 9) hx hb hts i_uBk hown hK hP 0 rfl rfl 5 (by decide) (hts _ mw_99) (fun _ h9 => h9) rfl d_Bk_hostOf_1 ?_
  refine lv_iload_n hx hb d_Bk_hostOf_4 rfl (lv_at hl 1 rfl) ?_
  obtain ⟨h1, hk⟩ := gd_in hk
  refine va_iald hx hb hK hP 6 5 rfl rfl h1 d_Bk_hostOf_5 ?_
  exact kr_R hx hb hr rfl hlocks hS hk d_Bk_hostOf_6
set_option maxHeartbeats 4000000 in
set_option maxRecDepth 100000 in
theorem c_Bk_setTimes (l : Launch) (D : va_G) (a : Nat → Nat) (k : Nat → ClassId) (sz : Nat) (σ : S_Bk) (p1 p2 p3 : Int32) (r0 : S_Bk) (hk : kf_Bk_setTimes σ p1 p2 p3 = some r0) : Met l y_Bk_setTimes w_Bk_setTimes ({ frames := 0, cells := 0, slots := 0, locals := 0 }) (kp_P D cls (ty_Bk k) (wl_Bk a k σ) [.ref (a 0), .int p1, .int p2, .int p3] sz) (kp_Mv D cls (wl_Bk a k r0) (wl_Bk a k σ) sz) 0 0 (va_A (wl_Bk a k σ) sz) := by
  refine Met.ofW (cc := b_Bk_setTimes) (maxL := 4) (ret := none) (by decide) rfl ?_
  intro p e s m args below meth c s₁ B hml hv
  obtain ⟨rfl, hsz, hP, hK, hD0⟩ := hv
  have hx := B.exec
  have hb := B.bytes
  have hr := B.returns
  have hts : ∀ w ∈ lw_g, w.before _ s = true := fun w h => atoms_spec (ws := w_Bk_setTimes) B.pre w (List.mem_cons_of_mem _ h)
  have hown : s.vm.findClass R_Bk = some m.cls := findClass_of_methodNamed B.named
  have hlocks := B.notSynchronized
  subst hsz
  have hA : ∀ q : Nat, s.heap.size ≤ q → (va_A (wl_Bk a k σ) s.heap.size) q := fun _ h => Or.inr h
  have hDt : ∀ τ, va_D (fun _ => True) (wl_Bk a k τ) := fun τ => kd_cg hD0 rfl
  have hDw : ∀ τ, va_D (va_A (wl_Bk a k σ) s.heap.size) (wl_Bk a k τ) := fun τ => kd_cg hD0.self rfl
  have hS : va_S (va_A (wl_Bk a k σ) s.heap.size) s.heap s.heap [] := va_S.rf
  have hl := lv_entry ([.ref (a 0), .int p1, .int p2, .int p3]) (n := 4) (Nat.le_of_ble_eq_true rfl)
  rw [lg_entry_eq]
  generalize (lg_sl ([.ref (a 0), .int p1, .int p2, .int p3]) ++ List.replicate (4 - (lg_sl ([.ref (a 0), .int p1, .int p2, .int p3])).length) Slot.unset).toArray = ls at hl ⊢
  have hl : lv_has ls 4 [(0, .ref (a 0)), (1, .int p1), (2, .int p2), (3, .int p3)] := hl
  unfold kf_Bk_setTimes at hk
  refine lv_aload_n hx hb d_Bk_setTimes_0 rfl (lv_at hl 0 rfl) ?_
  refine va_get (D := D) (ci := 0) (v := .ref (a 3)) (C := R_Bk) (T := F_Bk) (N := 9) hx hb hts i_uBk hown hK hP 0 rfl rfl 2 (by decide) (hts _ mw_96) (fun _ h9 => h9) rfl d_Bk_setTimes_1 ?_
  refine lv_iload_n hx hb d_Bk_setTimes_4 rfl (lv_at hl 1 rfl) ?_
  refine lv_iload_n hx hb d_Bk_setTimes_5 rfl (lv_at hl 2 rfl) ?_
  obtain ⟨h1, hk⟩ := gd_in hk
  refine va_iast hx hb hK hP (hDw _) hS 3 2 rfl rfl h1 d_Bk_setTimes_6 (fun H locs hP _ hS => ?_)
  have hP : va_P D cls (wl_Bk a k (σ.1, σ.2.1, (upd σ.2.2.1 p1.toNatClampNeg p2), σ.2.2.2.1, σ.2.2.2.2.1, σ.2.2.2.2.2.1, σ.2.2.2.2.2.2.1, σ.2.2.2.2.2.2.2.1, σ.2.2.2.2.2.2.2.2)) H := hP
  refine lv_aload_n hx hb d_Bk_setTimes_7 rfl (lv_at hl 0 rfl) ?_
  refine va_get (D := D) (ci := 0) (v := .ref (a 4)) (C := R_Bk) (T := F_Bk) (N := 9) hx hb hts i_uBk hown hK hP 0 rfl rfl 3 (by decide) (hts _ mw_97) (fun _ h9 => h9) rfl d_Bk_setTimes_8 ?_
  refine lv_iload_n hx hb d_Bk_setTimes_11 rfl (lv_at hl 1 rfl) ?_
  refine lv_iload_n hx hb d_Bk_setTimes_12 rfl (lv_at hl 3 rfl) ?_
  refine va_iast hx hb hK hP (hDw _) hS 4 3 rfl rfl h1 d_Bk_setTimes_13 (fun H locs hP _ hS => ?_)
  have hP : va_P D cls (wl_Bk a k (σ.1, σ.2.1, (upd σ.2.2.1 p1.toNatClampNeg p2), (upd σ.2.2.2.1 p1.toNatClampNeg p3), σ.2.2.2.2.1, σ.2.2.2.2.2.1, σ.2.2.2.2.2.2.1, σ.2.2.2.2.2.2.2.1, σ.2.2.2.2.2.2.2.2)) H := hP
  exact kr_Mv (w := wl_Bk a k) hx hb hr hlocks hS hP hk d_Bk_setTimes_14
set_option maxHeartbeats 4000000 in
set_option maxRecDepth 100000 in
theorem c_Bk_isBooked (l : Launch) (D : va_G) (a : Nat → Nat) (k : Nat → ClassId) (sz : Nat) (σ : S_Bk) (p1 : Int32) (r0 : Int32) (hk : kf_Bk_isBooked σ p1 = some r0) : Met l y_Bk_isBooked w_Bk_isBooked ({ frames := 0, cells := 0, slots := 0, locals := 0 }) (kp_P D cls (ty_Bk k) (wl_Bk a k σ) [.ref (a 0), .int p1] sz) (kp_R sz r0) 0 0 (va_A [] sz) := by
  refine Met.ofW (cc := b_Bk_isBooked) (maxL := 2) (ret := (some .boolean)) (by decide) rfl ?_
  intro p e s m args below meth c s₁ B hml hv
  obtain ⟨rfl, hsz, hP, hK, hD0⟩ := hv
  have hx := B.exec
  have hb := B.bytes
  have hr := B.returns
  have hts : ∀ w ∈ lw_g, w.before _ s = true := fun w h => atoms_spec (ws := w_Bk_isBooked) B.pre w (List.mem_cons_of_mem _ h)
  have hown : s.vm.findClass R_Bk = some m.cls := findClass_of_methodNamed B.named
  have hlocks := B.notSynchronized
  subst hsz
  have hA : ∀ q : Nat, s.heap.size ≤ q → (va_A ([]) s.heap.size) q := fun _ h => Or.inr h
  have hDt : ∀ τ, va_D (fun _ => True) (wl_Bk a k τ) := fun τ => kd_cg hD0 rfl
  have hS : va_S (va_A ([]) s.heap.size) s.heap s.heap [] := va_S.rf
  have hl := lv_entry ([.ref (a 0), .int p1]) (n := 2) (Nat.le_of_ble_eq_true rfl)
  rw [lg_entry_eq]
  generalize (lg_sl ([.ref (a 0), .int p1]) ++ List.replicate (2 - (lg_sl ([.ref (a 0), .int p1])).length) Slot.unset).toArray = ls at hl ⊢
  have hl : lv_has ls 2 [(0, .ref (a 0)), (1, .int p1)] := hl
  unfold kf_Bk_isBooked at hk
  refine lv_aload_n hx hb d_Bk_isBooked_0 rfl (lv_at hl 0 rfl) ?_
  refine va_get (D := D) (ci := 0) (v := .ref (a 5)) (C := R_Bk) (T := F_Bk) (N := 9) hx hb hts i_uBk hown hK hP 0 rfl rfl 4 (by decide) (hts _ mw_98) (fun _ h9 => h9) rfl d_Bk_isBooked_1 ?_
  refine lv_iload_n hx hb d_Bk_isBooked_4 rfl (lv_at hl 1 rfl) ?_
  obtain ⟨h1, hk⟩ := gd_in hk
  refine va_iald hx hb hK hP 5 4 rfl rfl h1 d_Bk_isBooked_5 ?_
  refine lv_if_ne (tgt := 13) hx hb d_Bk_isBooked_6 (by decide) (fun c2 => ?_) (fun c2 => ?_)
  · have hk := br_n c2 hk
    refine lv_iconst (v := 0) hx hb d_Bk_isBooked_13 (by decide) ?_
    exact kr_R hx hb hr (by decide) hlocks hS hk d_Bk_isBooked_14
  · have hk := br_p c2 hk
    refine lv_iconst (v := 1) hx hb d_Bk_isBooked_9 (by decide) ?_
    refine lv_goto (tgt := 14) hx hb d_Bk_isBooked_10 (by decide) ?_
    exact kr_R hx hb hr (by decide) hlocks hS hk d_Bk_isBooked_14
set_option maxHeartbeats 4000000 in
set_option maxRecDepth 100000 in
theorem c_Bk_isBookedBy (l : Launch) (D : va_G) (a : Nat → Nat) (k : Nat → ClassId) (sz : Nat) (σ : S_Bk) (p1 p2 : Int32) (r0 : Int32) (hk : kf_Bk_isBookedBy σ p1 p2 = some r0) : Met l y_Bk_isBookedBy w_Bk_isBookedBy ({ frames := 1, cells := 0, slots := 0, locals := 21 }) (kp_P D cls (ty_Bk k) (wl_Bk a k σ) [.ref (a 0), .int p1, .int p2] sz) (kp_R sz r0) 0 0 (va_A [] sz) := by
  refine Met.ofW (cc := b_Bk_isBookedBy) (maxL := 3) (ret := (some .boolean)) (by decide) rfl ?_
  intro p e s m args below meth c s₁ B hml hv
  obtain ⟨rfl, hsz, hP, hK, hD0⟩ := hv
  have hx := B.exec
  have hb := B.bytes
  have hr := B.returns
  have hts : ∀ w ∈ lw_g, w.before _ s = true := fun w h => atoms_spec (ws := w_Bk_isBookedBy) B.pre w (List.mem_cons_of_mem _ h)
  have hown : s.vm.findClass R_Bk = some m.cls := findClass_of_methodNamed B.named
  have hlocks := B.notSynchronized
  subst hsz
  have hA : ∀ q : Nat, s.heap.size ≤ q → (va_A ([]) s.heap.size) q := fun _ h => Or.inr h
  have hDt : ∀ τ, va_D (fun _ => True) (wl_Bk a k τ) := fun τ => kd_cg hD0 rfl
  have hS : va_S (va_A ([]) s.heap.size) s.heap s.heap [] := va_S.rf
  have hl := lv_entry ([.ref (a 0), .int p1, .int p2]) (n := 3) (Nat.le_of_ble_eq_true rfl)
  rw [lg_entry_eq]
  generalize (lg_sl ([.ref (a 0), .int p1, .int p2]) ++ List.replicate (3 - (lg_sl ([.ref (a 0), .int p1, .int p2])).length) Slot.unset).toArray = ls at hl ⊢
  have hl : lv_has ls 3 [(0, .ref (a 0)), (1, .int p1), (2, .int p2)] := hl
  unfold kf_Bk_isBookedBy at hk
  refine lv_aload_n hx hb d_Bk_isBookedBy_0 rfl (lv_at hl 0 rfl) ?_
  refine lv_iload_n hx hb d_Bk_isBookedBy_1 rfl (lv_at hl 1 rfl) ?_
  obtain ⟨q1, e1, hk⟩ := ob_s hk
  refine kc_R (va_runV (As := [.int p1]) (rest := []) ⟨hx, hb, hml, hown, hts⟩ (c_Bk_has l D a k _ σ p1 q1 e1) (cwV 1 hts (gV mw_322 mw_294 mw_295 mw_30 mw_296) rfl rfl rfl hd_Bk_has ⟨Nat.le_of_ble_eq_true rfl, Nat.le_of_ble_eq_true rfl⟩) (kp_V (ci := 0) (q := (R_Bk, F_Bk, 9)) (q0 := 0) hK hP (hDt _) rfl rfl) rfl rfl hl.1 rfl (lv_room (Nat.le_of_ble_eq_true rfl)) d_Bk_isBookedBy_2 ⟨Nat.zero_le _, Nat.zero_le _⟩) hS hA hP (fun H locs hP hS => ?_)
  refine lv_if_eq (tgt := 31) hx hb d_Bk_isBookedBy_5 (by decide) (fun c2 => ?_) (fun c2 => ?_)
  · have hk := br_p c2 hk
    refine lv_iconst (v := 0) hx hb d_Bk_isBookedBy_31 (by decide) ?_
    exact kr_R hx hb hr (by decide) hlocks hS hk d_Bk_isBookedBy_32
  · have hk := br_n c2 hk
    refine lv_aload_n hx hb d_Bk_isBookedBy_8 rfl (lv_at hl 0 rfl) ?_
    refine va_get (D := D) (ci := 0) (v := .ref (a 5)) (C := R_Bk) (T := F_Bk) (N := 9) hx hb hts i_uBk hown hK hP 0 rfl rfl 4 (by decide) (hts _ mw_98) (fun _ h9 => h9) rfl d_Bk_isBookedBy_9 ?_
    refine lv_iload_n hx hb d_Bk_isBookedBy_12 rfl (lv_at hl 1 rfl) ?_
    obtain ⟨h3, hk⟩ := gd_in hk
    refine va_iald hx hb hK hP 5 4 rfl rfl h3 d_Bk_isBookedBy_13 ?_
    refine lv_if_ne (tgt := 31) hx hb d_Bk_isBookedBy_14 (by decide) (fun c4 => ?_) (fun c4 => ?_)
    · have hk := br_n c4 hk
      refine lv_iconst (v := 0) hx hb d_Bk_isBookedBy_31 (by decide) ?_
      exact kr_R hx hb hr (by decide) hlocks hS hk d_Bk_isBookedBy_32
    · have hk := br_p c4 hk
      refine lv_aload_n hx hb d_Bk_isBookedBy_17 rfl (lv_at hl 0 rfl) ?_
      refine va_get (D := D) (ci := 0) (v := .ref (a 1)) (C := R_Bk) (T := F_Bk) (N := 9) hx hb hts i_uBk hown hK hP 0 rfl rfl 0 (by decide) (hts _ mw_94) (fun _ h9 => h9) rfl d_Bk_isBookedBy_18 ?_
      refine lv_iload_n hx hb d_Bk_isBookedBy_21 rfl (lv_at hl 1 rfl) ?_
      refine va_iald hx hb hK hP 1 0 rfl rfl h3 d_Bk_isBookedBy_22 ?_
      refine lv_iload_n hx hb d_Bk_isBookedBy_23 rfl (lv_at hl 2 rfl) ?_
      refine lv_icmp_ne (tgt := 31) hx hb d_Bk_isBookedBy_24 (by decide) (fun c5 => ?_) (fun c5 => ?_)
      · have hk := br_n c5 hk
        refine lv_iconst (v := 0) hx hb d_Bk_isBookedBy_31 (by decide) ?_
        exact kr_R hx hb hr (by decide) hlocks hS hk d_Bk_isBookedBy_32
      · have hk := br_p c5 hk
        refine lv_iconst (v := 1) hx hb d_Bk_isBookedBy_27 (by decide) ?_
        refine lv_goto (tgt := 32) hx hb d_Bk_isBookedBy_28 (by decide) ?_
        exact kr_R hx hb hr (by decide) hlocks hS hk d_Bk_isBookedBy_32
set_option maxHeartbeats 4000000 in
set_option maxRecDepth 100000 in
theorem c_Bk_lives (l : Launch) (D : va_G) (a : Nat → Nat) (k : Nat → ClassId) (sz : Nat) (σ : S_Bk) (p1 : Int32) (r0 : Int32) (hk : kf_Bk_lives σ p1 = some r0) : Met l y_Bk_lives w_Bk_lives ({ frames := 0, cells := 0, slots := 0, locals := 0 }) (kp_P D cls (ty_Bk k) (wl_Bk a k σ) [.ref (a 0), .int p1] sz) (kp_R sz r0) 0 0 (va_A [] sz) := by
  refine Met.ofW (cc := b_Bk_lives) (maxL := 2) (ret := (some .boolean)) (by decide) rfl ?_
  intro p e s m args below meth c s₁ B hml hv
  obtain ⟨rfl, hsz, hP, hK, hD0⟩ := hv
  have hx := B.exec
  have hb := B.bytes
  have hr := B.returns
  have hts : ∀ w ∈ lw_g, w.before _ s = true := fun w h => atoms_spec (ws := w_Bk_lives) B.pre w (List.mem_cons_of_mem _ h)
  have hown : s.vm.findClass R_Bk = some m.cls := findClass_of_methodNamed B.named
  have hlocks := B.notSynchronized
  subst hsz
  have hA : ∀ q : Nat, s.heap.size ≤ q → (va_A ([]) s.heap.size) q := fun _ h => Or.inr h
  have hDt : ∀ τ, va_D (fun _ => True) (wl_Bk a k τ) := fun τ => kd_cg hD0 rfl
  have hS : va_S (va_A ([]) s.heap.size) s.heap s.heap [] := va_S.rf
  have hl := lv_entry ([.ref (a 0), .int p1]) (n := 2) (Nat.le_of_ble_eq_true rfl)
  rw [lg_entry_eq]
  generalize (lg_sl ([.ref (a 0), .int p1]) ++ List.replicate (2 - (lg_sl ([.ref (a 0), .int p1])).length) Slot.unset).toArray = ls at hl ⊢
  have hl : lv_has ls 2 [(0, .ref (a 0)), (1, .int p1)] := hl
  unfold kf_Bk_lives at hk
  refine lv_aload_n hx hb d_Bk_lives_0 rfl (lv_at hl 0 rfl) ?_
  refine va_get (D := D) (ci := 0) (v := .ref (a 5)) (C := R_Bk) (T := F_Bk) (N := 9) hx hb hts i_uBk hown hK hP 0 rfl rfl 4 (by decide) (hts _ mw_98) (fun _ h9 => h9) rfl d_Bk_lives_1 ?_
  refine lv_iload_n hx hb d_Bk_lives_4 rfl (lv_at hl 1 rfl) ?_
  obtain ⟨h1, hk⟩ := gd_in hk
  refine va_iald hx hb hK hP 5 4 rfl rfl h1 d_Bk_lives_5 ?_
  refine lv_if_eq (tgt := 19) hx hb d_Bk_lives_6 (by decide) (fun c2 => ?_) (fun c2 => ?_)
  · have hk := br_p c2 hk
    refine lv_iconst (v := 1) hx hb d_Bk_lives_19 (by decide) ?_
    refine lv_goto (tgt := 24) hx hb d_Bk_lives_20 (by decide) ?_
    exact kr_R hx hb hr (by decide) hlocks hS hk d_Bk_lives_24
  · have hk := br_n c2 hk
    refine lv_aload_n hx hb d_Bk_lives_9 rfl (lv_at hl 0 rfl) ?_
    refine va_get (D := D) (ci := 0) (v := .ref (a 5)) (C := R_Bk) (T := F_Bk) (N := 9) hx hb hts i_uBk hown hK hP 0 rfl rfl 4 (by decide) (hts _ mw_98) (fun _ h9 => h9) rfl d_Bk_lives_10 ?_
    refine lv_iload_n hx hb d_Bk_lives_13 rfl (lv_at hl 1 rfl) ?_
    refine va_iald hx hb hK hP 5 4 rfl rfl h1 d_Bk_lives_14 ?_
    refine lv_iconst (v := 1) hx hb d_Bk_lives_15 (by decide) ?_
    refine lv_icmp_ne (tgt := 23) hx hb d_Bk_lives_16 (by decide) (fun c3 => ?_) (fun c3 => ?_)
    · have hk := br_n c3 hk
      refine lv_iconst (v := 0) hx hb d_Bk_lives_23 (by decide) ?_
      exact kr_R hx hb hr (by decide) hlocks hS hk d_Bk_lives_24
    · have hk := br_p c3 hk
      refine lv_iconst (v := 1) hx hb d_Bk_lives_19 (by decide) ?_
      refine lv_goto (tgt := 24) hx hb d_Bk_lives_20 (by decide) ?_
      exact kr_R hx hb hr (by decide) hlocks hS hk d_Bk_lives_24
set_option maxHeartbeats 4000000 in
set_option maxRecDepth 100000 in
theorem c_Bk_isEquipment (l : Launch) (D : va_G) (a : Nat → Nat) (k : Nat → ClassId) (sz : Nat) (σ : S_Bk) (p1 : Int32) (r0 : Int32) (hk : kf_Bk_isEquipment σ p1 = some r0) : Met l y_Bk_isEquipment w_Bk_isEquipment ({ frames := 0, cells := 0, slots := 0, locals := 0 }) (kp_P D cls (ty_Bk k) (wl_Bk a k σ) [.ref (a 0), .int p1] sz) (kp_R sz r0) 0 0 (va_A [] sz) := by
  refine Met.ofW (cc := b_Bk_isEquipment) (maxL := 2) (ret := (some .boolean)) (by decide) rfl ?_
  intro p e s m args below meth c s₁ B hml hv
  obtain ⟨rfl, hsz, hP, hK, hD0⟩ := hv
  have hx := B.exec
  have hb := B.bytes
  have hr := B.returns
  have hts : ∀ w ∈ lw_g, w.before _ s = true := fun w h => atoms_spec (ws := w_Bk_isEquipment) B.pre w (List.mem_cons_of_mem _ h)
  have hown : s.vm.findClass R_Bk = some m.cls := findClass_of_methodNamed B.named
  have hlocks := B.notSynchronized
  subst hsz
  have hA : ∀ q : Nat, s.heap.size ≤ q → (va_A ([]) s.heap.size) q := fun _ h => Or.inr h
  have hDt : ∀ τ, va_D (fun _ => True) (wl_Bk a k τ) := fun τ => kd_cg hD0 rfl
  have hS : va_S (va_A ([]) s.heap.size) s.heap s.heap [] := va_S.rf
  have hl := lv_entry ([.ref (a 0), .int p1]) (n := 2) (Nat.le_of_ble_eq_true rfl)
  rw [lg_entry_eq]
  generalize (lg_sl ([.ref (a 0), .int p1]) ++ List.replicate (2 - (lg_sl ([.ref (a 0), .int p1])).length) Slot.unset).toArray = ls at hl ⊢
  have hl : lv_has ls 2 [(0, .ref (a 0)), (1, .int p1)] := hl
  unfold kf_Bk_isEquipment at hk
  refine lv_aload_n hx hb d_Bk_isEquipment_0 rfl (lv_at hl 0 rfl) ?_
  refine va_get (D := D) (ci := 0) (v := .ref (a 6)) (C := R_Bk) (T := F_Bk) (N := 9) hx hb hts i_uBk hown hK hP 0 rfl rfl 5 (by decide) (hts _ mw_99) (fun _ h9 => h9) rfl d_Bk_isEquipment_1 ?_
  refine lv_iload_n hx hb d_Bk_isEquipment_4 rfl (lv_at hl 1 rfl) ?_
  obtain ⟨h1, hk⟩ := gd_in hk
  refine va_iald hx hb hK hP 6 5 rfl rfl h1 d_Bk_isEquipment_5 ?_
  refine lv_if_eq (tgt := 13) hx hb d_Bk_isEquipment_6 (by decide) (fun c2 => ?_) (fun c2 => ?_)
  · have hk := br_p c2 hk
    refine lv_iconst (v := 0) hx hb d_Bk_isEquipment_13 (by decide) ?_
    exact kr_R hx hb hr (by decide) hlocks hS hk d_Bk_isEquipment_14
  · have hk := br_n c2 hk
    refine lv_iconst (v := 1) hx hb d_Bk_isEquipment_9 (by decide) ?_
    refine lv_goto (tgt := 14) hx hb d_Bk_isEquipment_10 (by decide) ?_
    exact kr_R hx hb hr (by decide) hlocks hS hk d_Bk_isEquipment_14
set_option maxHeartbeats 4000000 in
set_option maxRecDepth 100000 in
theorem c_Bk_hasLivingEquipment (l : Launch) (D : va_G) (a : Nat → Nat) (k : Nat → ClassId) (sz : Nat) (σ : S_Bk) (p1 : Int32) (r0 : Int32) (hk : kf_Bk_hasLivingEquipment σ p1 = some r0) : Met l y_Bk_hasLivingEquipment w_Bk_hasLivingEquipment ({ frames := 1, cells := 0, slots := 0, locals := 21 }) (kp_P D cls (ty_Bk k) (wl_Bk a k σ) [.ref (a 0), .int p1] sz) (kp_R sz r0) 0 0 (va_A [] sz) := by
  refine Met.ofW (cc := b_Bk_hasLivingEquipment) (maxL := 3) (ret := (some .boolean)) (by decide) rfl ?_
  intro p e s m args below meth c s₁ B hml hv
  obtain ⟨rfl, hsz, hP, hK, hD0⟩ := hv
  have hx := B.exec
  have hb := B.bytes
  have hr := B.returns
  have hts : ∀ w ∈ lw_g, w.before _ s = true := fun w h => atoms_spec (ws := w_Bk_hasLivingEquipment) B.pre w (List.mem_cons_of_mem _ h)
  have hown : s.vm.findClass R_Bk = some m.cls := findClass_of_methodNamed B.named
  have hlocks := B.notSynchronized
  subst hsz
  have hA : ∀ q : Nat, s.heap.size ≤ q → (va_A ([]) s.heap.size) q := fun _ h => Or.inr h
  have hDt : ∀ τ, va_D (fun _ => True) (wl_Bk a k τ) := fun τ => kd_cg hD0 rfl
  have hS : va_S (va_A ([]) s.heap.size) s.heap s.heap [] := va_S.rf
  have hl := lv_entry ([.ref (a 0), .int p1]) (n := 3) (Nat.le_of_ble_eq_true rfl)
  rw [lg_entry_eq]
  generalize (lg_sl ([.ref (a 0), .int p1]) ++ List.replicate (3 - (lg_sl ([.ref (a 0), .int p1])).length) Slot.unset).toArray = ls at hl ⊢
  have hl : lv_has ls 3 [(0, .ref (a 0)), (1, .int p1)] := hl
  unfold kf_Bk_hasLivingEquipment at hk
  have L2 : ∀ (n2 : Nat) (x2 : Int32) (H : Heap) (locs : List Loc) (ls : Array Slot), va_P D cls (wl_Bk a k σ) H → va_S (va_A ([]) s.heap.size) s.heap H locs → lv_has ls 3 [(0, .ref (a 0)), (1, .int p1), (2, .int x2)] → kf_Bk_hasLivingEquipment_2 σ p1 n2 x2 = some r0 → W p l e (headSpec w_Bk_hasLivingEquipment ({ frames := 1, cells := 0, slots := 0, locals := 21 })).room s m [.ref (a 0), .int p1].toArray below meth c H locs 0 0 (MQ below (kp_R s.heap.size r0) [.ref (a 0), .int p1].toArray s 0 0 (va_A [] s.heap.size)) (F0 m 2 ls []) := by
    intro n2
    induction n2 with
    | zero =>
      intro x2 H locs ls hP hS hl hk
      exact nomatch hk
    | succ n2 ih2 =>
      intro x2 H locs ls hP hS hl hk
      rw [kf_Bk_hasLivingEquipment_2_s] at hk
      refine lv_iload_n hx hb d_Bk_hasLivingEquipment_2 rfl (lv_at hl 2 rfl) ?_
      refine lv_aload_n hx hb d_Bk_hasLivingEquipment_3 rfl (lv_at hl 0 rfl) ?_
      refine va_get (D := D) (ci := 0) (v := .int σ.2.2.2.2.2.2.1) (C := R_Bk) (T := F_Bk) (N := 9) hx hb hts i_uBk hown hK hP 0 rfl rfl 6 (by decide) (hts _ mw_100) (fun _ h9 => h9) rfl d_Bk_hasLivingEquipment_4 ?_
      refine lv_icmp_gt (tgt := 36) hx hb d_Bk_hasLivingEquipment_7 (by decide) (fun c1 => ?_) (fun c1 => ?_)
      · have hk := br_p c1 hk
        refine lv_iconst (v := 0) hx hb d_Bk_hasLivingEquipment_36 (by decide) ?_
        exact kr_R hx hb hr (by decide) hlocks hS hk d_Bk_hasLivingEquipment_37
      · have hk := br_n c1 hk
        refine lv_aload_n hx hb d_Bk_hasLivingEquipment_10 rfl (lv_at hl 0 rfl) ?_
        refine va_get (D := D) (ci := 0) (v := .ref (a 6)) (C := R_Bk) (T := F_Bk) (N := 9) hx hb hts i_uBk hown hK hP 0 rfl rfl 5 (by decide) (hts _ mw_99) (fun _ h9 => h9) rfl d_Bk_hasLivingEquipment_11 ?_
        refine lv_iload_n hx hb d_Bk_hasLivingEquipment_14 rfl (lv_at hl 2 rfl) ?_
        obtain ⟨h2, hk⟩ := gd_in hk
        refine va_iald hx hb hK hP 6 5 rfl rfl h2 d_Bk_hasLivingEquipment_15 ?_
        refine lv_iload_n hx hb d_Bk_hasLivingEquipment_16 rfl (lv_at hl 1 rfl) ?_
        refine lv_icmp_ne (tgt := 30) hx hb d_Bk_hasLivingEquipment_17 (by decide) (fun c3 => ?_) (fun c3 => ?_)
        · have hk := br_n c3 hk
          refine lv_iinc (v := (x2 + 1)) (lv' := [(2, .int (x2 + 1)), (0, .ref (a 0)), (1, .int p1)]) hx hb d_Bk_hasLivingEquipment_30 hl (k := 2) rfl rfl (by decide) rfl (fun ls hl => ?_)
          refine lv_goto (tgt := 2) hx hb d_Bk_hasLivingEquipment_33 (by decide) ?_
          exact ih2 (x2 + 1) _ _ _ hP hS (lv_sub hl [1, 2, 0] rfl) hk
        · have hk := br_p c3 hk
          refine lv_aload_n hx hb d_Bk_hasLivingEquipment_20 rfl (lv_at hl 0 rfl) ?_
          refine lv_iload_n hx hb d_Bk_hasLivingEquipment_21 rfl (lv_at hl 2 rfl) ?_
          obtain ⟨q4, e4, hk⟩ := ob_s hk
          refine kc_R (va_runV (As := [.int x2]) (rest := []) ⟨hx, hb, hml, hown, hts⟩ (c_Bk_lives l D a k _ σ x2 q4 e4) (cwV 1 hts (gV mw_273 mw_274 mw_275 mw_30 mw_276) rfl rfl rfl hd_Bk_lives ⟨Nat.le_of_ble_eq_true rfl, Nat.le_of_ble_eq_true rfl⟩) (kp_V (ci := 0) (q := (R_Bk, F_Bk, 9)) (q0 := 0) hK hP (hDt _) rfl rfl) rfl rfl hl.1 rfl (lv_room (Nat.le_of_ble_eq_true rfl)) d_Bk_hasLivingEquipment_22 ⟨Nat.zero_le _, Nat.zero_le _⟩) hS hA hP (fun H locs hP hS => ?_)
          refine lv_if_eq (tgt := 30) hx hb d_Bk_hasLivingEquipment_25 (by decide) (fun c5 => ?_) (fun c5 => ?_)
          · have hk := br_p c5 hk
            refine lv_iinc (v := (x2 + 1)) (lv' := [(2, .int (x2 + 1)), (0, .ref (a 0)), (1, .int p1)]) hx hb d_Bk_hasLivingEquipment_30 hl (k := 2) rfl rfl (by decide) rfl (fun ls hl => ?_)
            refine lv_goto (tgt := 2) hx hb d_Bk_hasLivingEquipment_33 (by decide) ?_
            exact ih2 (x2 + 1) _ _ _ hP hS (lv_sub hl [1, 2, 0] rfl) hk
          · have hk := br_n c5 hk
            refine lv_iconst (v := 1) hx hb d_Bk_hasLivingEquipment_28 (by decide) ?_
            exact kr_R hx hb hr (by decide) hlocks hS hk d_Bk_hasLivingEquipment_29
  refine lv_iconst (v := 1) hx hb d_Bk_hasLivingEquipment_0 (by decide) ?_
  refine lv_istore_n (lv' := [(2, .int 1), (0, .ref (a 0)), (1, .int p1)]) hx hb d_Bk_hasLivingEquipment_1 rfl hl (by decide) rfl (fun ls hl => ?_)
  exact L2 FU 1 _ _ _ hP hS (lv_sub hl [1, 2, 0] rfl) hk
set_option maxHeartbeats 4000000 in
set_option maxRecDepth 100000 in
theorem c_Bk_meets (l : Launch) (D : va_G) (a : Nat → Nat) (k : Nat → ClassId) (sz : Nat) (σ : S_Bk) (p1 p2 p3 : Int32) (r0 : Int32) (hk : kf_Bk_meets σ p1 p2 p3 = some r0) : Met l y_Bk_meets w_Bk_meets ({ frames := 0, cells := 0, slots := 0, locals := 0 }) (kp_P D cls (ty_Bk k) (wl_Bk a k σ) [.ref (a 0), .int p1, .int p2, .int p3] sz) (kp_R sz r0) 0 0 (va_A [] sz) := by
  refine Met.ofW (cc := b_Bk_meets) (maxL := 4) (ret := (some .boolean)) (by decide) rfl ?_
  intro p e s m args below meth c s₁ B hml hv
  obtain ⟨rfl, hsz, hP, hK, hD0⟩ := hv
  have hx := B.exec
  have hb := B.bytes
  have hr := B.returns
  have hts : ∀ w ∈ lw_g, w.before _ s = true := fun w h => atoms_spec (ws := w_Bk_meets) B.pre w (List.mem_cons_of_mem _ h)
  have hown : s.vm.findClass R_Bk = some m.cls := findClass_of_methodNamed B.named
  have hlocks := B.notSynchronized
  subst hsz
  have hA : ∀ q : Nat, s.heap.size ≤ q → (va_A ([]) s.heap.size) q := fun _ h => Or.inr h
  have hDt : ∀ τ, va_D (fun _ => True) (wl_Bk a k τ) := fun τ => kd_cg hD0 rfl
  have hS : va_S (va_A ([]) s.heap.size) s.heap s.heap [] := va_S.rf
  have hl := lv_entry ([.ref (a 0), .int p1, .int p2, .int p3]) (n := 4) (Nat.le_of_ble_eq_true rfl)
  rw [lg_entry_eq]
  generalize (lg_sl ([.ref (a 0), .int p1, .int p2, .int p3]) ++ List.replicate (4 - (lg_sl ([.ref (a 0), .int p1, .int p2, .int p3])).length) Slot.unset).toArray = ls at hl ⊢
  have hl : lv_has ls 4 [(0, .ref (a 0)), (1, .int p1), (2, .int p2), (3, .int p3)] := hl
  unfold kf_Bk_meets at hk
  refine lv_aload_n hx hb d_Bk_meets_0 rfl (lv_at hl 0 rfl) ?_
  refine va_get (D := D) (ci := 0) (v := .ref (a 3)) (C := R_Bk) (T := F_Bk) (N := 9) hx hb hts i_uBk hown hK hP 0 rfl rfl 2 (by decide) (hts _ mw_96) (fun _ h9 => h9) rfl d_Bk_meets_1 ?_
  refine lv_iload_n hx hb d_Bk_meets_4 rfl (lv_at hl 1 rfl) ?_
  obtain ⟨h1, hk⟩ := gd_in hk
  refine va_iald hx hb hK hP 3 2 rfl rfl h1 d_Bk_meets_5 ?_
  refine lv_iload_n hx hb d_Bk_meets_6 rfl (lv_at hl 3 rfl) ?_
  refine lv_icmp_ge (tgt := 24) hx hb d_Bk_meets_7 (by decide) (fun c2 => ?_) (fun c2 => ?_)
  · have hk := br_p c2 hk
    refine lv_iconst (v := 0) hx hb d_Bk_meets_24 (by decide) ?_
    exact kr_R hx hb hr (by decide) hlocks hS hk d_Bk_meets_25
  · have hk := br_n c2 hk
    refine lv_iload_n hx hb d_Bk_meets_10 rfl (lv_at hl 2 rfl) ?_
    refine lv_aload_n hx hb d_Bk_meets_11 rfl (lv_at hl 0 rfl) ?_
    refine va_get (D := D) (ci := 0) (v := .ref (a 4)) (C := R_Bk) (T := F_Bk) (N := 9) hx hb hts i_uBk hown hK hP 0 rfl rfl 3 (by decide) (hts _ mw_97) (fun _ h9 => h9) rfl d_Bk_meets_12 ?_
    refine lv_iload_n hx hb d_Bk_meets_15 rfl (lv_at hl 1 rfl) ?_
    refine va_iald hx hb hK hP 4 3 rfl rfl h1 d_Bk_meets_16 ?_
    refine lv_icmp_ge (tgt := 24) hx hb d_Bk_meets_17 (by decide) (fun c3 => ?_) (fun c3 => ?_)
    · have hk := br_p c3 hk
      refine lv_iconst (v := 0) hx hb d_Bk_meets_24 (by decide) ?_
      exact kr_R hx hb hr (by decide) hlocks hS hk d_Bk_meets_25
    · have hk := br_n c3 hk
      refine lv_iconst (v := 1) hx hb d_Bk_meets_20 (by decide) ?_
      refine lv_goto (tgt := 25) hx hb d_Bk_meets_21 (by decide) ?_
      exact kr_R hx hb hr (by decide) hlocks hS hk d_Bk_meets_25
set_option maxHeartbeats 4000000 in
set_option maxRecDepth 100000 in
theorem c_Bk_isTaken (l : Launch) (D : va_G) (a : Nat → Nat) (k : Nat → ClassId) (sz : Nat) (σ : S_Bk) (p1 p2 p3 p4 : Int32) (r0 : Int32) (hk : kf_Bk_isTaken σ p1 p2 p3 p4 = some r0) : Met l y_Bk_isTaken w_Bk_isTaken ({ frames := 1, cells := 0, slots := 0, locals := 23 }) (kp_P D cls (ty_Bk k) (wl_Bk a k σ) [.ref (a 0), .int p1, .int p2, .int p3, .int p4] sz) (kp_R sz r0) 0 0 (va_A [] sz) := by
  refine Met.ofW (cc := b_Bk_isTaken) (maxL := 6) (ret := (some .boolean)) (by decide) rfl ?_
  intro p e s m args below meth c s₁ B hml hv
  obtain ⟨rfl, hsz, hP, hK, hD0⟩ := hv
  have hx := B.exec
  have hb := B.bytes
  have hr := B.returns
  have hts : ∀ w ∈ lw_g, w.before _ s = true := fun w h => atoms_spec (ws := w_Bk_isTaken) B.pre w (List.mem_cons_of_mem _ h)
  have hown : s.vm.findClass R_Bk = some m.cls := findClass_of_methodNamed B.named
  have hlocks := B.notSynchronized
  subst hsz
  have hA : ∀ q : Nat, s.heap.size ≤ q → (va_A ([]) s.heap.size) q := fun _ h => Or.inr h
  have hDt : ∀ τ, va_D (fun _ => True) (wl_Bk a k τ) := fun τ => kd_cg hD0 rfl
  have hS : va_S (va_A ([]) s.heap.size) s.heap s.heap [] := va_S.rf
  have hl := lv_entry ([.ref (a 0), .int p1, .int p2, .int p3, .int p4]) (n := 6) (Nat.le_of_ble_eq_true rfl)
  rw [lg_entry_eq]
  generalize (lg_sl ([.ref (a 0), .int p1, .int p2, .int p3, .int p4]) ++ List.replicate (6 - (lg_sl ([.ref (a 0), .int p1, .int p2, .int p3, .int p4])).length) Slot.unset).toArray = ls at hl ⊢
  have hl : lv_has ls 6 [(0, .ref (a 0)), (1, .int p1), (2, .int p2), (3, .int p3), (4, .int p4)] := hl
  unfold kf_Bk_isTaken at hk
  have L3 : ∀ (n3 : Nat) (x5 : Int32) (H : Heap) (locs : List Loc) (ls : Array Slot), va_P D cls (wl_Bk a k σ) H → va_S (va_A ([]) s.heap.size) s.heap H locs → lv_has ls 6 [(0, .ref (a 0)), (1, .int p1), (2, .int p2), (3, .int p3), (4, .int p4), (5, .int x5)] → kf_Bk_isTaken_3 σ p1 p2 p3 p4 n3 x5 = some r0 → W p l e (headSpec w_Bk_isTaken ({ frames := 1, cells := 0, slots := 0, locals := 23 })).room s m [.ref (a 0), .int p1, .int p2, .int p3, .int p4].toArray below meth c H locs 0 0 (MQ below (kp_R s.heap.size r0) [.ref (a 0), .int p1, .int p2, .int p3, .int p4].toArray s 0 0 (va_A [] s.heap.size)) (F0 m 3 ls []) := by
    intro n3
    induction n3 with
    | zero =>
      intro x5 H locs ls hP hS hl hk
      exact nomatch hk
    | succ n3 ih3 =>
      intro x5 H locs ls hP hS hl hk
      rw [kf_Bk_isTaken_3_s] at hk
      refine lv_iload hx hb d_Bk_isTaken_3 (lv_at hl 5 rfl) ?_
      refine lv_aload_n hx hb d_Bk_isTaken_5 rfl (lv_at hl 0 rfl) ?_
      refine va_get (D := D) (ci := 0) (v := .int σ.2.2.2.2.2.2.1) (C := R_Bk) (T := F_Bk) (N := 9) hx hb hts i_uBk hown hK hP 0 rfl rfl 6 (by decide) (hts _ mw_100) (fun _ h9 => h9) rfl d_Bk_isTaken_6 ?_
      refine lv_icmp_gt (tgt := 58) hx hb d_Bk_isTaken_9 (by decide) (fun c1 => ?_) (fun c1 => ?_)
      · have hk := br_p c1 hk
        refine lv_iconst (v := 0) hx hb d_Bk_isTaken_58 (by decide) ?_
        exact kr_R hx hb hr (by decide) hlocks hS hk d_Bk_isTaken_59
      · have hk := br_n c1 hk
        refine lv_iload hx hb d_Bk_isTaken_12 (lv_at hl 5 rfl) ?_
        refine lv_iload hx hb d_Bk_isTaken_14 (lv_at hl 4 rfl) ?_
        refine lv_icmp_eq (tgt := 52) hx hb d_Bk_isTaken_16 (by decide) (fun c2 => ?_) (fun c2 => ?_)
        · have hk := br_p c2 hk
          refine lv_iinc (v := (x5 + 1)) (lv' := [(5, .int (x5 + 1)), (0, .ref (a 0)), (1, .int p1), (2, .int p2), (3, .int p3), (4, .int p4)]) hx hb d_Bk_isTaken_52 hl (k := 5) rfl rfl (by decide) rfl (fun ls hl => ?_)
          refine lv_goto (tgt := 3) hx hb d_Bk_isTaken_55 (by decide) ?_
          exact ih3 (x5 + 1) _ _ _ hP hS (lv_sub hl [1, 2, 3, 4, 5, 0] rfl) hk
        · have hk := br_n c2 hk
          refine lv_aload_n hx hb d_Bk_isTaken_19 rfl (lv_at hl 0 rfl) ?_
          refine va_get (D := D) (ci := 0) (v := .ref (a 2)) (C := R_Bk) (T := F_Bk) (N := 9) hx hb hts i_uBk hown hK hP 0 rfl rfl 1 (by decide) (hts _ mw_95) (fun _ h9 => h9) rfl d_Bk_isTaken_20 ?_
          refine lv_iload hx hb d_Bk_isTaken_23 (lv_at hl 5 rfl) ?_
          obtain ⟨h3, hk⟩ := gd_in hk
          refine va_iald hx hb hK hP 2 1 rfl rfl h3 d_Bk_isTaken_25 ?_
          refine lv_iload_n hx hb d_Bk_isTaken_26 rfl (lv_at hl 1 rfl) ?_
          refine lv_icmp_ne (tgt := 52) hx hb d_Bk_isTaken_27 (by decide) (fun c4 => ?_) (fun c4 => ?_)
          · have hk := br_n c4 hk
            refine lv_iinc (v := (x5 + 1)) (lv' := [(5, .int (x5 + 1)), (0, .ref (a 0)), (1, .int p1), (2, .int p2), (3, .int p3), (4, .int p4)]) hx hb d_Bk_isTaken_52 hl (k := 5) rfl rfl (by decide) rfl (fun ls hl => ?_)
            refine lv_goto (tgt := 3) hx hb d_Bk_isTaken_55 (by decide) ?_
            exact ih3 (x5 + 1) _ _ _ hP hS (lv_sub hl [1, 2, 3, 4, 5, 0] rfl) hk
          · have hk := br_p c4 hk
            refine lv_aload_n hx hb d_Bk_isTaken_30 rfl (lv_at hl 0 rfl) ?_
            refine lv_iload hx hb d_Bk_isTaken_31 (lv_at hl 5 rfl) ?_
            obtain ⟨q5, e5, hk⟩ := ob_s hk
            refine kc_R (va_runV (As := [.int x5]) (rest := []) ⟨hx, hb, hml, hown, hts⟩ (c_Bk_lives l D a k _ σ x5 q5 e5) (cwV 1 hts (gV mw_273 mw_274 mw_275 mw_30 mw_276) rfl rfl rfl hd_Bk_lives ⟨Nat.le_of_ble_eq_true rfl, Nat.le_of_ble_eq_true rfl⟩) (kp_V (ci := 0) (q := (R_Bk, F_Bk, 9)) (q0 := 0) hK hP (hDt _) rfl rfl) rfl rfl hl.1 rfl (lv_room (Nat.le_of_ble_eq_true rfl)) d_Bk_isTaken_33 ⟨Nat.zero_le _, Nat.zero_le _⟩) hS hA hP (fun H locs hP hS => ?_)
            refine lv_if_eq (tgt := 52) hx hb d_Bk_isTaken_36 (by decide) (fun c6 => ?_) (fun c6 => ?_)
            · have hk := br_p c6 hk
              refine lv_iinc (v := (x5 + 1)) (lv' := [(5, .int (x5 + 1)), (0, .ref (a 0)), (1, .int p1), (2, .int p2), (3, .int p3), (4, .int p4)]) hx hb d_Bk_isTaken_52 hl (k := 5) rfl rfl (by decide) rfl (fun ls hl => ?_)
              refine lv_goto (tgt := 3) hx hb d_Bk_isTaken_55 (by decide) ?_
              exact ih3 (x5 + 1) _ _ _ hP hS (lv_sub hl [1, 2, 3, 4, 5, 0] rfl) hk
            · have hk := br_n c6 hk
              refine lv_aload_n hx hb d_Bk_isTaken_39 rfl (lv_at hl 0 rfl) ?_
              refine lv_iload hx hb d_Bk_isTaken_40 (lv_at hl 5 rfl) ?_
              refine lv_iload_n hx hb d_Bk_isTaken_42 rfl (lv_at hl 2 rfl) ?_
              refine lv_iload_n hx hb d_Bk_isTaken_43 rfl (lv_at hl 3 rfl) ?_
              obtain ⟨q7, e7, hk⟩ := ob_s hk
              refine kc_R (va_runV (As := [.int x5, .int p2, .int p3]) (rest := []) ⟨hx, hb, hml, hown, hts⟩ (c_Bk_meets l D a k _ σ x5 p2 p3 q7 e7) (cwV 3 hts (gV mw_281 mw_282 mw_283 mw_30 mw_284) rfl rfl rfl hd_Bk_meets ⟨Nat.le_of_ble_eq_true rfl, Nat.le_of_ble_eq_true rfl⟩) (kp_V (ci := 0) (q := (R_Bk, F_Bk, 9)) (q0 := 0) hK hP (hDt _) rfl rfl) rfl rfl hl.1 rfl (lv_room (Nat.le_of_ble_eq_true rfl)) d_Bk_isTaken_44 ⟨Nat.zero_le _, Nat.zero_le _⟩) hS hA hP (fun H locs hP hS => ?_)
              refine lv_if_eq (tgt := 52) hx hb d_Bk_isTaken_47 (by decide) (fun c8 => ?_) (fun c8 => ?_)
              · have hk := br_p c8 hk
                refine lv_iinc (v := (x5 + 1)) (lv' := [(5, .int (x5 + 1)), (0, .ref (a 0)), (1, .int p1), (2, .int p2), (3, .int p3), (4, .int p4)]) hx hb d_Bk_isTaken_52 hl (k := 5) rfl rfl (by decide) rfl (fun ls hl => ?_)
                refine lv_goto (tgt := 3) hx hb d_Bk_isTaken_55 (by decide) ?_
                exact ih3 (x5 + 1) _ _ _ hP hS (lv_sub hl [1, 2, 3, 4, 5, 0] rfl) hk
              · have hk := br_n c8 hk
                refine lv_iconst (v := 1) hx hb d_Bk_isTaken_50 (by decide) ?_
                exact kr_R hx hb hr (by decide) hlocks hS hk d_Bk_isTaken_51
  refine lv_iconst (v := 1) hx hb d_Bk_isTaken_0 (by decide) ?_
  refine lv_istore (lv' := [(5, .int 1), (0, .ref (a 0)), (1, .int p1), (2, .int p2), (3, .int p3), (4, .int p4)]) hx hb d_Bk_isTaken_1 hl (by decide) rfl (fun ls hl => ?_)
  exact L3 FU 1 _ _ _ hP hS (lv_sub hl [1, 2, 3, 4, 5, 0] rfl) hk
