set_option maxHeartbeats 4000000 in
set_option maxRecDepth 100000 in
theorem c_Mo_isTime (l : Launch) (D : va_G) (sz : Nat) (p0 : Int32) (r0 : Int32) (hk : kf_Mo_isTime p0 = some r0) : Met l y_Mo_isTime w_Mo_isTime ({ frames := 0, cells := 0, slots := 0, locals := 0 }) (kp_P D cls ([]) ([]) [.int p0] sz) (kp_R sz r0) 0 0 (va_A [] sz) := by
  refine Met.ofW (cc := b_Mo_isTime) (maxL := 1) (ret := (some .boolean)) (by decide) rfl ?_
  intro p e s m args below meth c s₁ B hml hv
  obtain ⟨rfl, hsz, hP, hK, hD0⟩ := hv
  have hx := B.exec
  have hb := B.bytes
  have hr := B.returns
  have hts : ∀ w ∈ lw_g, w.before _ s = true := fun w h => atoms_spec (ws := w_Mo_isTime) B.pre w (List.mem_cons_of_mem _ h)
  have hown : s.vm.findClass R_Mo = some m.cls := findClass_of_methodNamed B.named
  have hlocks := B.notSynchronized
  subst hsz
  have hA : ∀ q : Nat, s.heap.size ≤ q → (va_A ([]) s.heap.size) q := fun _ h => Or.inr h
  have hS : va_S (va_A ([]) s.heap.size) s.heap s.heap [] := va_S.rf
  have hl := lv_entry ([.int p0]) (n := 1) (Nat.le_of_ble_eq_true rfl)
  rw [lg_entry_eq]
  generalize (lg_sl ([.int p0]) ++ List.replicate (1 - (lg_sl ([.int p0])).length) Slot.unset).toArray = ls at hl ⊢
  have hl : lv_has ls 1 [(0, .int p0)] := hl
  unfold kf_Mo_isTime at hk
  refine lv_iload_n hx hb d_Mo_isTime_0 rfl (lv_at hl 0 rfl) ?_
  refine lv_if_lt (tgt := 14) hx hb d_Mo_isTime_1 (by decide) (fun c1 => ?_) (fun c1 => ?_)
  · have hk := br_p c1 hk
    refine lv_iconst (v := 0) hx hb d_Mo_isTime_14 (by decide) ?_
    exact kr_R hx hb hr (by decide) hlocks hS hk d_Mo_isTime_15
  · have hk := br_n c1 hk
    refine lv_iload_n hx hb d_Mo_isTime_4 rfl (lv_at hl 0 rfl) ?_
    refine lv_ldc (v := 1000000) hx hb hown (hts _ mw_579) d_Mo_isTime_5 ?_
    refine lv_icmp_gt (tgt := 14) hx hb d_Mo_isTime_7 (by decide) (fun c2 => ?_) (fun c2 => ?_)
    · have hk := br_p c2 hk
      refine lv_iconst (v := 0) hx hb d_Mo_isTime_14 (by decide) ?_
      exact kr_R hx hb hr (by decide) hlocks hS hk d_Mo_isTime_15
    · have hk := br_n c2 hk
      refine lv_iconst (v := 1) hx hb d_Mo_isTime_10 (by decide) ?_
      refine lv_goto (tgt := 15) hx hb d_Mo_isTime_11 (by decide) ?_
      exact kr_R hx hb hr (by decide) hlocks hS hk d_Mo_isTime_15
set_option maxHeartbeats 4000000 in
set_option maxRecDepth 100000 in
theorem c_Mo_isPerson (l : Launch) (D : va_G) (sz : Nat) (p0 : Int32) (r0 : Int32) (hk : kf_Mo_isPerson p0 = some r0) : Met l y_Mo_isPerson w_Mo_isPerson ({ frames := 0, cells := 0, slots := 0, locals := 0 }) (kp_P D cls ([]) ([]) [.int p0] sz) (kp_R sz r0) 0 0 (va_A [] sz) := by
  refine Met.ofW (cc := b_Mo_isPerson) (maxL := 1) (ret := (some .boolean)) (by decide) rfl ?_
  intro p e s m args below meth c s₁ B hml hv
  obtain ⟨rfl, hsz, hP, hK, hD0⟩ := hv
  have hx := B.exec
  have hb := B.bytes
  have hr := B.returns
  have hts : ∀ w ∈ lw_g, w.before _ s = true := fun w h => atoms_spec (ws := w_Mo_isPerson) B.pre w (List.mem_cons_of_mem _ h)
  have hown : s.vm.findClass R_Mo = some m.cls := findClass_of_methodNamed B.named
  have hlocks := B.notSynchronized
  subst hsz
  have hA : ∀ q : Nat, s.heap.size ≤ q → (va_A ([]) s.heap.size) q := fun _ h => Or.inr h
  have hS : va_S (va_A ([]) s.heap.size) s.heap s.heap [] := va_S.rf
  have hl := lv_entry ([.int p0]) (n := 1) (Nat.le_of_ble_eq_true rfl)
  rw [lg_entry_eq]
  generalize (lg_sl ([.int p0]) ++ List.replicate (1 - (lg_sl ([.int p0])).length) Slot.unset).toArray = ls at hl ⊢
  have hl : lv_has ls 1 [(0, .int p0)] := hl
  unfold kf_Mo_isPerson at hk
  refine lv_iload_n hx hb d_Mo_isPerson_0 rfl (lv_at hl 0 rfl) ?_
  refine lv_if_lt (tgt := 14) hx hb d_Mo_isPerson_1 (by decide) (fun c1 => ?_) (fun c1 => ?_)
  · have hk := br_p c1 hk
    refine lv_iconst (v := 0) hx hb d_Mo_isPerson_14 (by decide) ?_
    exact kr_R hx hb hr (by decide) hlocks hS hk d_Mo_isPerson_15
  · have hk := br_n c1 hk
    refine lv_iload_n hx hb d_Mo_isPerson_4 rfl (lv_at hl 0 rfl) ?_
    refine lv_bipush (v := 40) hx hb d_Mo_isPerson_5 (by decide) ?_
    refine lv_icmp_ge (tgt := 14) hx hb d_Mo_isPerson_7 (by decide) (fun c2 => ?_) (fun c2 => ?_)
    · have hk := br_p c2 hk
      refine lv_iconst (v := 0) hx hb d_Mo_isPerson_14 (by decide) ?_
      exact kr_R hx hb hr (by decide) hlocks hS hk d_Mo_isPerson_15
    · have hk := br_n c2 hk
      refine lv_iconst (v := 1) hx hb d_Mo_isPerson_10 (by decide) ?_
      refine lv_goto (tgt := 15) hx hb d_Mo_isPerson_11 (by decide) ?_
      exact kr_R hx hb hr (by decide) hlocks hS hk d_Mo_isPerson_15
set_option maxHeartbeats 4000000 in
set_option maxRecDepth 100000 in
theorem c_Mo_isThing (l : Launch) (D : va_G) (a : Nat → Nat) (k : Nat → ClassId) (sz : Nat) (σ : S_Mo) (p1 : Int32) (r0 : Int32) (hk : kf_Mo_isThing σ p1 = some r0) : Met l y_Mo_isThing w_Mo_isThing ({ frames := 0, cells := 0, slots := 0, locals := 0 }) (kp_P D cls (ty_Mo k) (wl_Mo a k σ) [.ref (a 0), .int p1] sz) (kp_R sz r0) 0 0 (va_A [] sz) := by
  refine Met.ofW (cc := b_Mo_isThing) (maxL := 2) (ret := (some .boolean)) (by decide) rfl ?_
  intro p e s m args below meth c s₁ B hml hv
  obtain ⟨rfl, hsz, hP, hK, hD0⟩ := hv
  have hx := B.exec
  have hb := B.bytes
  have hr := B.returns
  have hts : ∀ w ∈ lw_g, w.before _ s = true := fun w h => atoms_spec (ws := w_Mo_isThing) B.pre w (List.mem_cons_of_mem _ h)
  have hown : s.vm.findClass R_Mo = some m.cls := findClass_of_methodNamed B.named
  have hlocks := B.notSynchronized
  subst hsz
  have hA : ∀ q : Nat, s.heap.size ≤ q → (va_A ([]) s.heap.size) q := fun _ h => Or.inr h
  have hDt : ∀ τ, va_D (fun _ => True) (wl_Mo a k τ) := fun τ => kd_cg hD0 rfl
  have hS : va_S (va_A ([]) s.heap.size) s.heap s.heap [] := va_S.rf
  have hl := lv_entry ([.ref (a 0), .int p1]) (n := 2) (Nat.le_of_ble_eq_true rfl)
  rw [lg_entry_eq]
  generalize (lg_sl ([.ref (a 0), .int p1]) ++ List.replicate (2 - (lg_sl ([.ref (a 0), .int p1])).length) Slot.unset).toArray = ls at hl ⊢
  have hl : lv_has ls 2 [(0, .ref (a 0)), (1, .int p1)] := hl
  unfold kf_Mo_isThing at hk
  refine lv_iload_n hx hb d_Mo_isThing_0 rfl (lv_at hl 1 rfl) ?_
  refine lv_if_lt (tgt := 16) hx hb d_Mo_isThing_1 (by decide) (fun c1 => ?_) (fun c1 => ?_)
  · have hk := br_p c1 hk
    refine lv_iconst (v := 0) hx hb d_Mo_isThing_16 (by decide) ?_
    exact kr_R hx hb hr (by decide) hlocks hS hk d_Mo_isThing_17
  · have hk := br_n c1 hk
    refine lv_iload_n hx hb d_Mo_isThing_4 rfl (lv_at hl 1 rfl) ?_
    refine lv_aload_n hx hb d_Mo_isThing_5 rfl (lv_at hl 0 rfl) ?_
    refine va_get (D := D) (ci := 6) (v := .int σ.2.2.2.2.2.2.1) (C := R_Mo) (T := F_Mo) (N := 15) hx hb hts i_uMo hown hK hP 0 rfl rfl 6 (by decide) (hts _ mw_504) (fun _ h9 => h9) rfl d_Mo_isThing_6 ?_
    refine lv_icmp_ge (tgt := 16) hx hb d_Mo_isThing_9 (by decide) (fun c2 => ?_) (fun c2 => ?_)
    · have hk := br_p c2 hk
      refine lv_iconst (v := 0) hx hb d_Mo_isThing_16 (by decide) ?_
      exact kr_R hx hb hr (by decide) hlocks hS hk d_Mo_isThing_17
    · have hk := br_n c2 hk
      refine lv_iconst (v := 1) hx hb d_Mo_isThing_12 (by decide) ?_
      refine lv_goto (tgt := 17) hx hb d_Mo_isThing_13 (by decide) ?_
      exact kr_R hx hb hr (by decide) hlocks hS hk d_Mo_isThing_17
set_option maxHeartbeats 4000000 in
set_option maxRecDepth 100000 in
theorem c_Mo_isBooking (l : Launch) (D : va_G) (a : Nat → Nat) (k : Nat → ClassId) (sz : Nat) (σ : S_Mo) (p1 : Int32) (r0 : Int32) (hk : kf_Mo_isBooking σ p1 = some r0) : Met l y_Mo_isBooking w_Mo_isBooking ({ frames := 0, cells := 0, slots := 0, locals := 0 }) (kp_P D cls (ty_Mo k) (wl_Mo a k σ) [.ref (a 0), .int p1] sz) (kp_R sz r0) 0 0 (va_A [] sz) := by
  refine Met.ofW (cc := b_Mo_isBooking) (maxL := 2) (ret := (some .boolean)) (by decide) rfl ?_
  intro p e s m args below meth c s₁ B hml hv
  obtain ⟨rfl, hsz, hP, hK, hD0⟩ := hv
  have hx := B.exec
  have hb := B.bytes
  have hr := B.returns
  have hts : ∀ w ∈ lw_g, w.before _ s = true := fun w h => atoms_spec (ws := w_Mo_isBooking) B.pre w (List.mem_cons_of_mem _ h)
  have hown : s.vm.findClass R_Mo = some m.cls := findClass_of_methodNamed B.named
  have hlocks := B.notSynchronized
  subst hsz
  have hA : ∀ q : Nat, s.heap.size ≤ q → (va_A ([]) s.heap.size) q := fun _ h => Or.inr h
  have hDt : ∀ τ, va_D (fun _ => True) (wl_Mo a k τ) := fun τ => kd_cg hD0 rfl
  have hS : va_S (va_A ([]) s.heap.size) s.heap s.heap [] := va_S.rf
  have hl := lv_entry ([.ref (a 0), .int p1]) (n := 2) (Nat.le_of_ble_eq_true rfl)
  rw [lg_entry_eq]
  generalize (lg_sl ([.ref (a 0), .int p1]) ++ List.replicate (2 - (lg_sl ([.ref (a 0), .int p1])).length) Slot.unset).toArray = ls at hl ⊢
  have hl : lv_has ls 2 [(0, .ref (a 0)), (1, .int p1)] := hl
  unfold kf_Mo_isBooking at hk
  refine lv_iload_n hx hb d_Mo_isBooking_0 rfl (lv_at hl 1 rfl) ?_
  refine lv_if_le (tgt := 16) hx hb d_Mo_isBooking_1 (by decide) (fun c1 => ?_) (fun c1 => ?_)
  · have hk := br_p c1 hk
    refine lv_iconst (v := 0) hx hb d_Mo_isBooking_16 (by decide) ?_
    exact kr_R hx hb hr (by decide) hlocks hS hk d_Mo_isBooking_17
  · have hk := br_n c1 hk
    refine lv_iload_n hx hb d_Mo_isBooking_4 rfl (lv_at hl 1 rfl) ?_
    refine lv_aload_n hx hb d_Mo_isBooking_5 rfl (lv_at hl 0 rfl) ?_
    refine va_get (D := D) (ci := 6) (v := .int σ.2.2.2.2.2.2.2.2.1) (C := R_Mo) (T := F_Mo) (N := 15) hx hb hts i_uMo hown hK hP 0 rfl rfl 8 (by decide) (hts _ mw_506) (fun _ h9 => h9) rfl d_Mo_isBooking_6 ?_
    refine lv_icmp_gt (tgt := 16) hx hb d_Mo_isBooking_9 (by decide) (fun c2 => ?_) (fun c2 => ?_)
    · have hk := br_p c2 hk
      refine lv_iconst (v := 0) hx hb d_Mo_isBooking_16 (by decide) ?_
      exact kr_R hx hb hr (by decide) hlocks hS hk d_Mo_isBooking_17
    · have hk := br_n c2 hk
      refine lv_iconst (v := 1) hx hb d_Mo_isBooking_12 (by decide) ?_
      refine lv_goto (tgt := 17) hx hb d_Mo_isBooking_13 (by decide) ?_
      exact kr_R hx hb hr (by decide) hlocks hS hk d_Mo_isBooking_17
set_option maxHeartbeats 4000000 in
set_option maxRecDepth 100000 in
theorem c_Mo_lives (l : Launch) (D : va_G) (a : Nat → Nat) (k : Nat → ClassId) (sz : Nat) (σ : S_Mo) (p1 : Int32) (r0 : Int32) (hk : kf_Mo_lives σ p1 = some r0) : Met l y_Mo_lives w_Mo_lives ({ frames := 0, cells := 0, slots := 0, locals := 0 }) (kp_P D cls (ty_Mo k) (wl_Mo a k σ) [.ref (a 0), .int p1] sz) (kp_R sz r0) 0 0 (va_A [] sz) := by
  refine Met.ofW (cc := b_Mo_lives) (maxL := 2) (ret := (some .boolean)) (by decide) rfl ?_
  intro p e s m args below meth c s₁ B hml hv
  obtain ⟨rfl, hsz, hP, hK, hD0⟩ := hv
  have hx := B.exec
  have hb := B.bytes
  have hr := B.returns
  have hts : ∀ w ∈ lw_g, w.before _ s = true := fun w h => atoms_spec (ws := w_Mo_lives) B.pre w (List.mem_cons_of_mem _ h)
  have hown : s.vm.findClass R_Mo = some m.cls := findClass_of_methodNamed B.named
  have hlocks := B.notSynchronized
  subst hsz
  have hA : ∀ q : Nat, s.heap.size ≤ q → (va_A ([]) s.heap.size) q := fun _ h => Or.inr h
  have hDt : ∀ τ, va_D (fun _ => True) (wl_Mo a k τ) := fun τ => kd_cg hD0 rfl
  have hS : va_S (va_A ([]) s.heap.size) s.heap s.heap [] := va_S.rf
  have hl := lv_entry ([.ref (a 0), .int p1]) (n := 2) (Nat.le_of_ble_eq_true rfl)
  rw [lg_entry_eq]
  generalize (lg_sl ([.ref (a 0), .int p1]) ++ List.replicate (2 - (lg_sl ([.ref (a 0), .int p1])).length) Slot.unset).toArray = ls at hl ⊢
  have hl : lv_has ls 2 [(0, .ref (a 0)), (1, .int p1)] := hl
  unfold kf_Mo_lives at hk
  refine lv_aload_n hx hb d_Mo_lives_0 rfl (lv_at hl 0 rfl) ?_
  refine va_get (D := D) (ci := 6) (v := .ref (a 4)) (C := R_Mo) (T := F_Mo) (N := 15) hx hb hts i_uMo hown hK hP 0 rfl rfl 7 (by decide) (hts _ mw_505) (fun _ h9 => h9) rfl d_Mo_lives_1 ?_
  refine lv_bipush (v := 6) hx hb d_Mo_lives_4 (by decide) ?_
  refine lv_iload_n hx hb d_Mo_lives_6 rfl (lv_at hl 1 rfl) ?_
  refine lv_imul hx hb d_Mo_lives_7 ?_
  refine lv_iconst (v := 4) hx hb d_Mo_lives_8 (by decide) ?_
  refine lv_iadd hx hb d_Mo_lives_9 ?_
  obtain ⟨h1, hk⟩ := gd_in hk
  refine va_iald hx hb hK hP 4 3 rfl rfl h1 d_Mo_lives_10 ?_
  refine lv_iconst (v := 2) hx hb d_Mo_lives_11 (by decide) ?_
  refine lv_icmp_ge (tgt := 19) hx hb d_Mo_lives_12 (by decide) (fun c2 => ?_) (fun c2 => ?_)
  · have hk := br_p c2 hk
    refine lv_iconst (v := 0) hx hb d_Mo_lives_19 (by decide) ?_
    exact kr_R hx hb hr (by decide) hlocks hS hk d_Mo_lives_20
  · have hk := br_n c2 hk
    refine lv_iconst (v := 1) hx hb d_Mo_lives_15 (by decide) ?_
    refine lv_goto (tgt := 20) hx hb d_Mo_lives_16 (by decide) ?_
    exact kr_R hx hb hr (by decide) hlocks hS hk d_Mo_lives_20
set_option maxHeartbeats 4000000 in
set_option maxRecDepth 100000 in
theorem c_Mo_thing (l : Launch) (D : va_G) (a : Nat → Nat) (k : Nat → ClassId) (sz : Nat) (σ : S_Mo) (p1 p2 p3 p4 p5 : Int32) (r0 : Int32 × S_Mo) (hk : kf_Mo_thing σ p1 p2 p3 p4 p5 = some r0) : Met l y_Mo_thing w_Mo_thing ({ frames := 0, cells := 0, slots := 0, locals := 0 }) (kp_P D cls (ty_Mo k) (wl_Mo a k σ) [.ref (a 0), .int p1, .int p2, .int p3, .int p4, .int p5] sz) (kp_M D cls (wl_Mo a k r0.2) (wl_Mo a k σ) sz r0.1) 0 0 (va_A (wl_Mo a k σ) sz) := by
  refine Met.ofW (cc := b_Mo_thing) (maxL := 7) (ret := (some .int)) (by decide) rfl ?_
  intro p e s m args below meth c s₁ B hml hv
  obtain ⟨rfl, hsz, hP, hK, hD0⟩ := hv
  have hx := B.exec
  have hb := B.bytes
  have hr := B.returns
  have hts : ∀ w ∈ lw_g, w.before _ s = true := fun w h => atoms_spec (ws := w_Mo_thing) B.pre w (List.mem_cons_of_mem _ h)
  have hown : s.vm.findClass R_Mo = some m.cls := findClass_of_methodNamed B.named
  have hlocks := B.notSynchronized
  subst hsz
  have hA : ∀ q : Nat, s.heap.size ≤ q → (va_A (wl_Mo a k σ) s.heap.size) q := fun _ h => Or.inr h
  have hDt : ∀ τ, va_D (fun _ => True) (wl_Mo a k τ) := fun τ => kd_cg hD0 rfl
  have hDw : ∀ τ, va_D (va_A (wl_Mo a k σ) s.heap.size) (wl_Mo a k τ) := fun τ => kd_cg hD0.self rfl
  have hS : va_S (va_A (wl_Mo a k σ) s.heap.size) s.heap s.heap [] := va_S.rf
  have hl := lv_entry ([.ref (a 0), .int p1, .int p2, .int p3, .int p4, .int p5]) (n := 7) (Nat.le_of_ble_eq_true rfl)
  rw [lg_entry_eq]
  generalize (lg_sl ([.ref (a 0), .int p1, .int p2, .int p3, .int p4, .int p5]) ++ List.replicate (7 - (lg_sl ([.ref (a 0), .int p1, .int p2, .int p3, .int p4, .int p5])).length) Slot.unset).toArray = ls at hl ⊢
  have hl : lv_has ls 7 [(0, .ref (a 0)), (1, .int p1), (2, .int p2), (3, .int p3), (4, .int p4), (5, .int p5)] := hl
  unfold kf_Mo_thing at hk
  refine lv_aload_n hx hb d_Mo_thing_0 rfl (lv_at hl 0 rfl) ?_
  refine lv_iconst (v := 0) hx hb d_Mo_thing_1 (by decide) ?_
  refine va_put (D := D) (ci := 6) (v := .int 0) (ty := .int) (C := R_Mo) (T := F_Mo) (N := 15) hx hb hts i_uMo t_Mo t_Mo_ok n_Mo hown hK hP (hDw _) hS 0 rfl rfl 0 (by decide) (hts _ mw_498) (fun _ h9 => h9) rfl (t_Mo_ok 0 (by decide)) rfl rfl (Nat.le_of_ble_eq_true rfl) d_Mo_thing_2 (fun H locs hP _ hS => ?_)
  have hP : va_P D cls (wl_Mo a k (0, σ.2.1, σ.2.2.1, σ.2.2.2.1, σ.2.2.2.2.1, σ.2.2.2.2.2.1, σ.2.2.2.2.2.2.1, σ.2.2.2.2.2.2.2.1, σ.2.2.2.2.2.2.2.2.1, σ.2.2.2.2.2.2.2.2.2.1, σ.2.2.2.2.2.2.2.2.2.2.1, σ.2.2.2.2.2.2.2.2.2.2.2.1, σ.2.2.2.2.2.2.2.2.2.2.2.2.1, σ.2.2.2.2.2.2.2.2.2.2.2.2.2.1, σ.2.2.2.2.2.2.2.2.2.2.2.2.2.2)) H := hP
  refine lv_iload_n hx hb d_Mo_thing_5 rfl (lv_at hl 1 rfl) ?_
  refine lv_if_lt (tgt := 64) hx hb d_Mo_thing_6 (by decide) (fun c1 => ?_) (fun c1 => ?_)
  · have hk := br_p c1 hk
    refine lv_iconst (v := -1) hx hb d_Mo_thing_64 (by decide) ?_
    exact kr_M (w := wl_Mo a k) hx hb hr rfl hlocks hS hP hk d_Mo_thing_65
  · have hk := br_n c1 hk
    refine lv_iload_n hx hb d_Mo_thing_9 rfl (lv_at hl 1 rfl) ?_
    refine lv_iconst (v := 3) hx hb d_Mo_thing_10 (by decide) ?_
    refine lv_icmp_gt (tgt := 64) hx hb d_Mo_thing_11 (by decide) (fun c2 => ?_) (fun c2 => ?_)
    · have hk := br_p c2 hk
      refine lv_iconst (v := -1) hx hb d_Mo_thing_64 (by decide) ?_
      exact kr_M (w := wl_Mo a k) hx hb hr rfl hlocks hS hP hk d_Mo_thing_65
    · have hk := br_n c2 hk
      refine lv_iload_n hx hb d_Mo_thing_14 rfl (lv_at hl 2 rfl) ?_
      refine lv_iconst (v := 1) hx hb d_Mo_thing_15 (by decide) ?_
      refine lv_icmp_lt (tgt := 64) hx hb d_Mo_thing_16 (by decide) (fun c3 => ?_) (fun c3 => ?_)
      · have hk := br_p c3 hk
        refine lv_iconst (v := -1) hx hb d_Mo_thing_64 (by decide) ?_
        exact kr_M (w := wl_Mo a k) hx hb hr rfl hlocks hS hP hk d_Mo_thing_65
      · have hk := br_n c3 hk
        refine lv_iload_n hx hb d_Mo_thing_19 rfl (lv_at hl 3 rfl) ?_
        refine lv_sipush (v := 1440) hx hb d_Mo_thing_20 (by decide) ?_
        refine lv_icmp_gt (tgt := 64) hx hb d_Mo_thing_23 (by decide) (fun c4 => ?_) (fun c4 => ?_)
        · have hk := br_p c4 hk
          refine lv_iconst (v := -1) hx hb d_Mo_thing_64 (by decide) ?_
          exact kr_M (w := wl_Mo a k) hx hb hr rfl hlocks hS hP hk d_Mo_thing_65
        · have hk := br_n c4 hk
          refine lv_iload_n hx hb d_Mo_thing_26 rfl (lv_at hl 2 rfl) ?_
          refine lv_iload_n hx hb d_Mo_thing_27 rfl (lv_at hl 3 rfl) ?_
          refine lv_icmp_gt (tgt := 64) hx hb d_Mo_thing_28 (by decide) (fun c5 => ?_) (fun c5 => ?_)
          · have hk := br_p c5 hk
            refine lv_iconst (v := -1) hx hb d_Mo_thing_64 (by decide) ?_
            exact kr_M (w := wl_Mo a k) hx hb hr rfl hlocks hS hP hk d_Mo_thing_65
          · have hk := br_n c5 hk
            refine lv_iload hx hb d_Mo_thing_31 (lv_at hl 4 rfl) ?_
            refine lv_if_lt (tgt := 64) hx hb d_Mo_thing_33 (by decide) (fun c6 => ?_) (fun c6 => ?_)
            · have hk := br_p c6 hk
              refine lv_iconst (v := -1) hx hb d_Mo_thing_64 (by decide) ?_
              exact kr_M (w := wl_Mo a k) hx hb hr rfl hlocks hS hP hk d_Mo_thing_65
            · have hk := br_n c6 hk
              refine lv_iload hx hb d_Mo_thing_36 (lv_at hl 4 rfl) ?_
              refine lv_ldc (v := 100000) hx hb hown (hts _ mw_548) d_Mo_thing_38 ?_
              refine lv_icmp_gt (tgt := 64) hx hb d_Mo_thing_40 (by decide) (fun c7 => ?_) (fun c7 => ?_)
              · have hk := br_p c7 hk
                refine lv_iconst (v := -1) hx hb d_Mo_thing_64 (by decide) ?_
                exact kr_M (w := wl_Mo a k) hx hb hr rfl hlocks hS hP hk d_Mo_thing_65
              · have hk := br_n c7 hk
                refine lv_iload hx hb d_Mo_thing_43 (lv_at hl 5 rfl) ?_
                refine lv_if_lt (tgt := 64) hx hb d_Mo_thing_45 (by decide) (fun c8 => ?_) (fun c8 => ?_)
                · have hk := br_p c8 hk
                  refine lv_iconst (v := -1) hx hb d_Mo_thing_64 (by decide) ?_
                  exact kr_M (w := wl_Mo a k) hx hb hr rfl hlocks hS hP hk d_Mo_thing_65
                · have hk := br_n c8 hk
                  refine lv_iload hx hb d_Mo_thing_48 (lv_at hl 5 rfl) ?_
                  refine lv_bipush (v := 120) hx hb d_Mo_thing_50 (by decide) ?_
                  refine lv_icmp_gt (tgt := 64) hx hb d_Mo_thing_52 (by decide) (fun c9 => ?_) (fun c9 => ?_)
                  · have hk := br_p c9 hk
                    refine lv_iconst (v := -1) hx hb d_Mo_thing_64 (by decide) ?_
                    exact kr_M (w := wl_Mo a k) hx hb hr rfl hlocks hS hP hk d_Mo_thing_65
                  · have hk := br_n c9 hk
                    refine lv_aload_n hx hb d_Mo_thing_55 rfl (lv_at hl 0 rfl) ?_
                    refine va_get (D := D) (ci := 6) (v := .int σ.2.2.2.2.2.2.1) (C := R_Mo) (T := F_Mo) (N := 15) hx hb hts i_uMo hown hK hP 0 rfl rfl 6 (by decide) (hts _ mw_504) (fun _ h9 => h9) rfl d_Mo_thing_56 ?_
                    refine lv_bipush (v := 30) hx hb d_Mo_thing_59 (by decide) ?_
                    refine lv_icmp_ne (tgt := 66) hx hb d_Mo_thing_61 (by decide) (fun c10 => ?_) (fun c10 => ?_)
                    · have hk := br_n c10 hk
                      refine lv_iconst (v := 5) hx hb d_Mo_thing_66 (by decide) ?_
                      refine lv_aload_n hx hb d_Mo_thing_67 rfl (lv_at hl 0 rfl) ?_
                      refine va_get (D := D) (ci := 6) (v := .int σ.2.2.2.2.2.2.1) (C := R_Mo) (T := F_Mo) (N := 15) hx hb hts i_uMo hown hK hP 0 rfl rfl 6 (by decide) (hts _ mw_504) (fun _ h9 => h9) rfl d_Mo_thing_68 ?_
                      refine lv_imul hx hb d_Mo_thing_71 ?_
                      refine lv_istore (lv' := [(6, .int (5 * σ.2.2.2.2.2.2.1)), (0, .ref (a 0)), (1, .int p1), (2, .int p2), (3, .int p3), (4, .int p4), (5, .int p5)]) hx hb d_Mo_thing_72 hl (by decide) rfl (fun ls hl => ?_)
                      refine lv_aload_n hx hb d_Mo_thing_74 rfl (lv_at hl 1 rfl) ?_
                      refine va_get (D := D) (ci := 6) (v := .ref (a 3)) (C := R_Mo) (T := F_Mo) (N := 15) hx hb hts i_uMo hown hK hP 0 rfl rfl 5 (by decide) (hts _ mw_503) (fun _ h9 => h9) rfl d_Mo_thing_75 ?_
                      refine lv_iload hx hb d_Mo_thing_78 (lv_at hl 0 rfl) ?_
                      refine lv_iload_n hx hb d_Mo_thing_80 rfl (lv_at hl 2 rfl) ?_
                      obtain ⟨h11, hk⟩ := gd_in hk
                      refine va_iast hx hb hK hP (hDw _) hS 3 2 rfl rfl h11 d_Mo_thing_81 (fun H locs hP _ hS => ?_)
                      have hP : va_P D cls (wl_Mo a k (0, σ.2.1, σ.2.2.1, σ.2.2.2.1, σ.2.2.2.2.1, (upd σ.2.2.2.2.2.1 (5 * σ.2.2.2.2.2.2.1).toNatClampNeg p1), σ.2.2.2.2.2.2.1, σ.2.2.2.2.2.2.2.1, σ.2.2.2.2.2.2.2.2.1, σ.2.2.2.2.2.2.2.2.2.1, σ.2.2.2.2.2.2.2.2.2.2.1, σ.2.2.2.2.2.2.2.2.2.2.2.1, σ.2.2.2.2.2.2.2.2.2.2.2.2.1, σ.2.2.2.2.2.2.2.2.2.2.2.2.2.1, σ.2.2.2.2.2.2.2.2.2.2.2.2.2.2)) H := hP
                      refine lv_aload_n hx hb d_Mo_thing_82 rfl (lv_at hl 1 rfl) ?_
                      refine va_get (D := D) (ci := 6) (v := .ref (a 3)) (C := R_Mo) (T := F_Mo) (N := 15) hx hb hts i_uMo hown hK hP 0 rfl rfl 5 (by decide) (hts _ mw_503) (fun _ h9 => h9) rfl d_Mo_thing_83 ?_
                      refine lv_iload hx hb d_Mo_thing_86 (lv_at hl 0 rfl) ?_
                      refine lv_iconst (v := 1) hx hb d_Mo_thing_88 (by decide) ?_
                      refine lv_iadd hx hb d_Mo_thing_89 ?_
                      refine lv_iload_n hx hb d_Mo_thing_90 rfl (lv_at hl 3 rfl) ?_
                      obtain ⟨h12, hk⟩ := gd_in hk
                      refine va_iast hx hb hK hP (hDw _) hS 3 2 rfl rfl h12 d_Mo_thing_91 (fun H locs hP _ hS => ?_)
                      have hP : va_P D cls (wl_Mo a k (0, σ.2.1, σ.2.2.1, σ.2.2.2.1, σ.2.2.2.2.1, (upd (upd σ.2.2.2.2.2.1 (5 * σ.2.2.2.2.2.2.1).toNatClampNeg p1) ((5 * σ.2.2.2.2.2.2.1) + 1).toNatClampNeg p2), σ.2.2.2.2.2.2.1, σ.2.2.2.2.2.2.2.1, σ.2.2.2.2.2.2.2.2.1, σ.2.2.2.2.2.2.2.2.2.1, σ.2.2.2.2.2.2.2.2.2.2.1, σ.2.2.2.2.2.2.2.2.2.2.2.1, σ.2.2.2.2.2.2.2.2.2.2.2.2.1, σ.2.2.2.2.2.2.2.2.2.2.2.2.2.1, σ.2.2.2.2.2.2.2.2.2.2.2.2.2.2)) H := hP
                      refine lv_aload_n hx hb d_Mo_thing_92 rfl (lv_at hl 1 rfl) ?_
                      refine va_get (D := D) (ci := 6) (v := .ref (a 3)) (C := R_Mo) (T := F_Mo) (N := 15) hx hb hts i_uMo hown hK hP 0 rfl rfl 5 (by decide) (hts _ mw_503) (fun _ h9 => h9) rfl d_Mo_thing_93 ?_
                      refine lv_iload hx hb d_Mo_thing_96 (lv_at hl 0 rfl) ?_
                      refine lv_iconst (v := 2) hx hb d_Mo_thing_98 (by decide) ?_
                      refine lv_iadd hx hb d_Mo_thing_99 ?_
                      refine lv_iload_n hx hb d_Mo_thing_100 rfl (lv_at hl 4 rfl) ?_
                      obtain ⟨h13, hk⟩ := gd_in hk
                      refine va_iast hx hb hK hP (hDw _) hS 3 2 rfl rfl h13 d_Mo_thing_101 (fun H locs hP _ hS => ?_)
                      have hP : va_P D cls (wl_Mo a k (0, σ.2.1, σ.2.2.1, σ.2.2.2.1, σ.2.2.2.2.1, (upd (upd (upd σ.2.2.2.2.2.1 (5 * σ.2.2.2.2.2.2.1).toNatClampNeg p1) ((5 * σ.2.2.2.2.2.2.1) + 1).toNatClampNeg p2) ((5 * σ.2.2.2.2.2.2.1) + 2).toNatClampNeg p3), σ.2.2.2.2.2.2.1, σ.2.2.2.2.2.2.2.1, σ.2.2.2.2.2.2.2.2.1, σ.2.2.2.2.2.2.2.2.2.1, σ.2.2.2.2.2.2.2.2.2.2.1, σ.2.2.2.2.2.2.2.2.2.2.2.1, σ.2.2.2.2.2.2.2.2.2.2.2.2.1, σ.2.2.2.2.2.2.2.2.2.2.2.2.2.1, σ.2.2.2.2.2.2.2.2.2.2.2.2.2.2)) H := hP
                      refine lv_aload_n hx hb d_Mo_thing_102 rfl (lv_at hl 1 rfl) ?_
                      refine va_get (D := D) (ci := 6) (v := .ref (a 3)) (C := R_Mo) (T := F_Mo) (N := 15) hx hb hts i_uMo hown hK hP 0 rfl rfl 5 (by decide) (hts _ mw_503) (fun _ h9 => h9) rfl d_Mo_thing_103 ?_
                      refine lv_iload hx hb d_Mo_thing_106 (lv_at hl 0 rfl) ?_
                      refine lv_iconst (v := 3) hx hb d_Mo_thing_108 (by decide) ?_
                      refine lv_iadd hx hb d_Mo_thing_109 ?_
                      refine lv_iload hx hb d_Mo_thing_110 (lv_at hl 5 rfl) ?_
                      obtain ⟨h14, hk⟩ := gd_in hk
                      refine va_iast hx hb hK hP (hDw _) hS 3 2 rfl rfl h14 d_Mo_thing_112 (fun H locs hP _ hS => ?_)
                      have hP : va_P D cls (wl_Mo a k (0, σ.2.1, σ.2.2.1, σ.2.2.2.1, σ.2.2.2.2.1, (upd (upd (upd (upd σ.2.2.2.2.2.1 (5 * σ.2.2.2.2.2.2.1).toNatClampNeg p1) ((5 * σ.2.2.2.2.2.2.1) + 1).toNatClampNeg p2) ((5 * σ.2.2.2.2.2.2.1) + 2).toNatClampNeg p3) ((5 * σ.2.2.2.2.2.2.1) + 3).toNatClampNeg p4), σ.2.2.2.2.2.2.1, σ.2.2.2.2.2.2.2.1, σ.2.2.2.2.2.2.2.2.1, σ.2.2.2.2.2.2.2.2.2.1, σ.2.2.2.2.2.2.2.2.2.2.1, σ.2.2.2.2.2.2.2.2.2.2.2.1, σ.2.2.2.2.2.2.2.2.2.2.2.2.1, σ.2.2.2.2.2.2.2.2.2.2.2.2.2.1, σ.2.2.2.2.2.2.2.2.2.2.2.2.2.2)) H := hP
                      refine lv_aload_n hx hb d_Mo_thing_113 rfl (lv_at hl 1 rfl) ?_
                      refine va_get (D := D) (ci := 6) (v := .ref (a 3)) (C := R_Mo) (T := F_Mo) (N := 15) hx hb hts i_uMo hown hK hP 0 rfl rfl 5 (by decide) (hts _ mw_503) (fun _ h9 => h9) rfl d_Mo_thing_114 ?_
                      refine lv_iload hx hb d_Mo_thing_117 (lv_at hl 0 rfl) ?_
                      refine lv_iconst (v := 4) hx hb d_Mo_thing_119 (by decide) ?_
                      refine lv_iadd hx hb d_Mo_thing_120 ?_
                      refine lv_iload hx hb d_Mo_thing_121 (lv_at hl 6 rfl) ?_
                      obtain ⟨h15, hk⟩ := gd_in hk
                      refine va_iast hx hb hK hP (hDw _) hS 3 2 rfl rfl h15 d_Mo_thing_123 (fun H locs hP _ hS => ?_)
                      have hP : va_P D cls (wl_Mo a k (0, σ.2.1, σ.2.2.1, σ.2.2.2.1, σ.2.2.2.2.1, (upd (upd (upd (upd (upd σ.2.2.2.2.2.1 (5 * σ.2.2.2.2.2.2.1).toNatClampNeg p1) ((5 * σ.2.2.2.2.2.2.1) + 1).toNatClampNeg p2) ((5 * σ.2.2.2.2.2.2.1) + 2).toNatClampNeg p3) ((5 * σ.2.2.2.2.2.2.1) + 3).toNatClampNeg p4) ((5 * σ.2.2.2.2.2.2.1) + 4).toNatClampNeg p5), σ.2.2.2.2.2.2.1, σ.2.2.2.2.2.2.2.1, σ.2.2.2.2.2.2.2.2.1, σ.2.2.2.2.2.2.2.2.2.1, σ.2.2.2.2.2.2.2.2.2.2.1, σ.2.2.2.2.2.2.2.2.2.2.2.1, σ.2.2.2.2.2.2.2.2.2.2.2.2.1, σ.2.2.2.2.2.2.2.2.2.2.2.2.2.1, σ.2.2.2.2.2.2.2.2.2.2.2.2.2.2)) H := hP
                      refine lv_aload_n hx hb d_Mo_thing_124 rfl (lv_at hl 1 rfl) ?_
                      refine lv_dup hx hb d_Mo_thing_125 rfl ?_
                      refine va_get (D := D) (ci := 6) (v := .int σ.2.2.2.2.2.2.1) (C := R_Mo) (T := F_Mo) (N := 15) hx hb hts i_uMo hown hK hP 0 rfl rfl 6 (by decide) (hts _ mw_504) (fun _ h9 => h9) rfl d_Mo_thing_126 ?_
                      refine lv_iconst (v := 1) hx hb d_Mo_thing_129 (by decide) ?_
                      refine lv_iadd hx hb d_Mo_thing_130 ?_
                      refine va_put (D := D) (ci := 6) (v := .int (σ.2.2.2.2.2.2.1 + 1)) (ty := .int) (C := R_Mo) (T := F_Mo) (N := 15) hx hb hts i_uMo t_Mo t_Mo_ok n_Mo hown hK hP (hDw _) hS 0 rfl rfl 6 (by decide) (hts _ mw_504) (fun _ h9 => h9) rfl (t_Mo_ok 6 (by decide)) rfl rfl (Nat.le_of_ble_eq_true rfl) d_Mo_thing_131 (fun H locs hP _ hS => ?_)
                      have hP : va_P D cls (wl_Mo a k (0, σ.2.1, σ.2.2.1, σ.2.2.2.1, σ.2.2.2.2.1, (upd (upd (upd (upd (upd σ.2.2.2.2.2.1 (5 * σ.2.2.2.2.2.2.1).toNatClampNeg p1) ((5 * σ.2.2.2.2.2.2.1) + 1).toNatClampNeg p2) ((5 * σ.2.2.2.2.2.2.1) + 2).toNatClampNeg p3) ((5 * σ.2.2.2.2.2.2.1) + 3).toNatClampNeg p4) ((5 * σ.2.2.2.2.2.2.1) + 4).toNatClampNeg p5), (σ.2.2.2.2.2.2.1 + 1), σ.2.2.2.2.2.2.2.1, σ.2.2.2.2.2.2.2.2.1, σ.2.2.2.2.2.2.2.2.2.1, σ.2.2.2.2.2.2.2.2.2.2.1, σ.2.2.2.2.2.2.2.2.2.2.2.1, σ.2.2.2.2.2.2.2.2.2.2.2.2.1, σ.2.2.2.2.2.2.2.2.2.2.2.2.2.1, σ.2.2.2.2.2.2.2.2.2.2.2.2.2.2)) H := hP
                      refine lv_aload_n hx hb d_Mo_thing_134 rfl (lv_at hl 1 rfl) ?_
                      refine va_get (D := D) (ci := 6) (v := .int (σ.2.2.2.2.2.2.1 + 1)) (C := R_Mo) (T := F_Mo) (N := 15) hx hb hts i_uMo hown hK hP 0 rfl rfl 6 (by decide) (hts _ mw_504) (fun _ h9 => h9) rfl d_Mo_thing_135 ?_
                      refine lv_iconst (v := 1) hx hb d_Mo_thing_138 (by decide) ?_
                      refine lv_isub hx hb d_Mo_thing_139 ?_
                      exact kr_M (w := wl_Mo a k) hx hb hr rfl hlocks hS hP hk d_Mo_thing_140
                    · have hk := br_p c10 hk
                      refine lv_iconst (v := -1) hx hb d_Mo_thing_64 (by decide) ?_
                      exact kr_M (w := wl_Mo a k) hx hb hr rfl hlocks hS hP hk d_Mo_thing_65
set_option maxHeartbeats 4000000 in
set_option maxRecDepth 100000 in
theorem c_Mo_hours (l : Launch) (D : va_G) (a : Nat → Nat) (k : Nat → ClassId) (sz : Nat) (σ : S_Mo) (p1 p2 p3 p4 : Int32) (r0 : Int32 × S_Mo) (hk : kf_Mo_hours σ p1 p2 p3 p4 = some r0) : Met l y_Mo_hours w_Mo_hours ({ frames := 0, cells := 0, slots := 0, locals := 0 }) (kp_P D cls (ty_Mo k) (wl_Mo a k σ) [.ref (a 0), .int p1, .int p2, .int p3, .int p4] sz) (kp_M D cls (wl_Mo a k r0.2) (wl_Mo a k σ) sz r0.1) 0 0 (va_A (wl_Mo a k σ) sz) := by
  refine Met.ofW (cc := b_Mo_hours) (maxL := 6) (ret := (some .int)) (by decide) rfl ?_
  intro p e s m args below meth c s₁ B hml hv
  obtain ⟨rfl, hsz, hP, hK, hD0⟩ := hv
  have hx := B.exec
  have hb := B.bytes
  have hr := B.returns
  have hts : ∀ w ∈ lw_g, w.before _ s = true := fun w h => atoms_spec (ws := w_Mo_hours) B.pre w (List.mem_cons_of_mem _ h)
  have hown : s.vm.findClass R_Mo = some m.cls := findClass_of_methodNamed B.named
  have hlocks := B.notSynchronized
  subst hsz
  have hA : ∀ q : Nat, s.heap.size ≤ q → (va_A (wl_Mo a k σ) s.heap.size) q := fun _ h => Or.inr h
  have hDt : ∀ τ, va_D (fun _ => True) (wl_Mo a k τ) := fun τ => kd_cg hD0 rfl
  have hDw : ∀ τ, va_D (va_A (wl_Mo a k σ) s.heap.size) (wl_Mo a k τ) := fun τ => kd_cg hD0.self rfl
  have hS : va_S (va_A (wl_Mo a k σ) s.heap.size) s.heap s.heap [] := va_S.rf
  have hl := lv_entry ([.ref (a 0), .int p1, .int p2, .int p3, .int p4]) (n := 6) (Nat.le_of_ble_eq_true rfl)
  rw [lg_entry_eq]
  generalize (lg_sl ([.ref (a 0), .int p1, .int p2, .int p3, .int p4]) ++ List.replicate (6 - (lg_sl ([.ref (a 0), .int p1, .int p2, .int p3, .int p4])).length) Slot.unset).toArray = ls at hl ⊢
  have hl : lv_has ls 6 [(0, .ref (a 0)), (1, .int p1), (2, .int p2), (3, .int p3), (4, .int p4)] := hl
  unfold kf_Mo_hours at hk
  have J37 : ∀ (y0 : Int32) (τ : S_Mo) (H : Heap) (locs : List Loc) (ls : Array Slot), va_P D cls (wl_Mo a k τ) H → va_S (va_A (wl_Mo a k σ) s.heap.size) s.heap H locs → lv_has ls 6 [(0, .ref (a 0)), (1, .int p1), (2, .int p2), (3, .int p3), (4, .int p4)] → kf_Mo_hours_37 p1 p2 p3 p4 y0 τ = some r0 → W p l e (headSpec w_Mo_hours ({ frames := 0, cells := 0, slots := 0, locals := 0 })).room s m [.ref (a 0), .int p1, .int p2, .int p3, .int p4].toArray below meth c H locs 0 0 (MQ below (kp_M D cls (wl_Mo a k r0.2) (wl_Mo a k σ) s.heap.size r0.1) [.ref (a 0), .int p1, .int p2, .int p3, .int p4].toArray s 0 0 (va_A (wl_Mo a k σ) s.heap.size)) (F0 m 37 ls [.int y0]) := by
    intro y0 τ H locs ls hP hS hl hk
    unfold kf_Mo_hours_37 at hk
    refine lv_istore (lv' := [(5, .int y0), (0, .ref (a 0)), (1, .int p1), (2, .int p2), (3, .int p3), (4, .int p4)]) hx hb d_Mo_hours_37 hl (by decide) rfl (fun ls hl => ?_)
    refine lv_iload_n hx hb d_Mo_hours_39 rfl (lv_at hl 2 rfl) ?_
    refine lv_if_lt (tgt := 63) hx hb d_Mo_hours_40 (by decide) (fun c1 => ?_) (fun c1 => ?_)
    · have hk := br_p c1 hk
      refine lv_iconst (v := 0) hx hb d_Mo_hours_63 (by decide) ?_
      exact kr_M (w := wl_Mo a k) hx hb hr rfl hlocks hS hP hk d_Mo_hours_64
    · have hk := br_n c1 hk
      refine lv_iload_n hx hb d_Mo_hours_43 rfl (lv_at hl 2 rfl) ?_
      refine lv_iconst (v := 3) hx hb d_Mo_hours_44 (by decide) ?_
      refine lv_icmp_gt (tgt := 63) hx hb d_Mo_hours_45 (by decide) (fun c2 => ?_) (fun c2 => ?_)
      · have hk := br_p c2 hk
        refine lv_iconst (v := 0) hx hb d_Mo_hours_63 (by decide) ?_
        exact kr_M (w := wl_Mo a k) hx hb hr rfl hlocks hS hP hk d_Mo_hours_64
      · have hk := br_n c2 hk
        refine lv_iload_n hx hb d_Mo_hours_48 rfl (lv_at hl 3 rfl) ?_
        refine lv_if_lt (tgt := 63) hx hb d_Mo_hours_49 (by decide) (fun c3 => ?_) (fun c3 => ?_)
        · have hk := br_p c3 hk
          refine lv_iconst (v := 0) hx hb d_Mo_hours_63 (by decide) ?_
          exact kr_M (w := wl_Mo a k) hx hb hr rfl hlocks hS hP hk d_Mo_hours_64
        · have hk := br_n c3 hk
          refine lv_iload_n hx hb d_Mo_hours_52 rfl (lv_at hl 3 rfl) ?_
          refine lv_bipush (v := 6) hx hb d_Mo_hours_53 (by decide) ?_
          refine lv_icmp_gt (tgt := 63) hx hb d_Mo_hours_55 (by decide) (fun c4 => ?_) (fun c4 => ?_)
          · have hk := br_p c4 hk
            refine lv_iconst (v := 0) hx hb d_Mo_hours_63 (by decide) ?_
            exact kr_M (w := wl_Mo a k) hx hb hr rfl hlocks hS hP hk d_Mo_hours_64
          · have hk := br_n c4 hk
            refine lv_iload hx hb d_Mo_hours_58 (lv_at hl 0 rfl) ?_
            refine lv_if_ne (tgt := 65) hx hb d_Mo_hours_60 (by decide) (fun c5 => ?_) (fun c5 => ?_)
            · have hk := br_n c5 hk
              refine lv_aload_n hx hb d_Mo_hours_65 rfl (lv_at hl 1 rfl) ?_
              refine va_get (D := D) (ci := 6) (v := .ref (a 1)) (C := R_Mo) (T := F_Mo) (N := 15) hx hb hts i_uMo hown hK hP 0 rfl rfl 2 (by decide) (hts _ mw_500) (fun _ h9 => h9) rfl d_Mo_hours_66 ?_
              refine lv_bipush (v := 14) hx hb d_Mo_hours_69 (by decide) ?_
              refine lv_iload_n hx hb d_Mo_hours_71 rfl (lv_at hl 2 rfl) ?_
              refine lv_imul hx hb d_Mo_hours_72 ?_
              refine lv_iconst (v := 2) hx hb d_Mo_hours_73 (by decide) ?_
              refine lv_iload_n hx hb d_Mo_hours_74 rfl (lv_at hl 3 rfl) ?_
              refine lv_imul hx hb d_Mo_hours_75 ?_
              refine lv_iadd hx hb d_Mo_hours_76 ?_
              refine lv_iload_n hx hb d_Mo_hours_77 rfl (lv_at hl 4 rfl) ?_
              obtain ⟨h6, hk⟩ := gd_in hk
              refine va_iast hx hb hK hP (hDw _) hS 1 0 rfl rfl h6 d_Mo_hours_78 (fun H locs hP _ hS => ?_)
              have hP : va_P D cls (wl_Mo a k (τ.1, τ.2.1, (upd τ.2.2.1 ((14 * p1) + (2 * p2)).toNatClampNeg p3), τ.2.2.2.1, τ.2.2.2.2.1, τ.2.2.2.2.2.1, τ.2.2.2.2.2.2.1, τ.2.2.2.2.2.2.2.1, τ.2.2.2.2.2.2.2.2.1, τ.2.2.2.2.2.2.2.2.2.1, τ.2.2.2.2.2.2.2.2.2.2.1, τ.2.2.2.2.2.2.2.2.2.2.2.1, τ.2.2.2.2.2.2.2.2.2.2.2.2.1, τ.2.2.2.2.2.2.2.2.2.2.2.2.2.1, τ.2.2.2.2.2.2.2.2.2.2.2.2.2.2)) H := hP
              refine lv_aload_n hx hb d_Mo_hours_79 rfl (lv_at hl 1 rfl) ?_
              refine va_get (D := D) (ci := 6) (v := .ref (a 1)) (C := R_Mo) (T := F_Mo) (N := 15) hx hb hts i_uMo hown hK hP 0 rfl rfl 2 (by decide) (hts _ mw_500) (fun _ h9 => h9) rfl d_Mo_hours_80 ?_
              refine lv_bipush (v := 14) hx hb d_Mo_hours_83 (by decide) ?_
              refine lv_iload_n hx hb d_Mo_hours_85 rfl (lv_at hl 2 rfl) ?_
              refine lv_imul hx hb d_Mo_hours_86 ?_
              refine lv_iconst (v := 2) hx hb d_Mo_hours_87 (by decide) ?_
              refine lv_iload_n hx hb d_Mo_hours_88 rfl (lv_at hl 3 rfl) ?_
              refine lv_imul hx hb d_Mo_hours_89 ?_
              refine lv_iadd hx hb d_Mo_hours_90 ?_
              refine lv_iconst (v := 1) hx hb d_Mo_hours_91 (by decide) ?_
              refine lv_iadd hx hb d_Mo_hours_92 ?_
              refine lv_iload hx hb d_Mo_hours_93 (lv_at hl 5 rfl) ?_
              obtain ⟨h7, hk⟩ := gd_in hk
              refine va_iast hx hb hK hP (hDw _) hS 1 0 rfl rfl h7 d_Mo_hours_95 (fun H locs hP _ hS => ?_)
              have hP : va_P D cls (wl_Mo a k (τ.1, τ.2.1, (upd (upd τ.2.2.1 ((14 * p1) + (2 * p2)).toNatClampNeg p3) (((14 * p1) + (2 * p2)) + 1).toNatClampNeg p4), τ.2.2.2.1, τ.2.2.2.2.1, τ.2.2.2.2.2.1, τ.2.2.2.2.2.2.1, τ.2.2.2.2.2.2.2.1, τ.2.2.2.2.2.2.2.2.1, τ.2.2.2.2.2.2.2.2.2.1, τ.2.2.2.2.2.2.2.2.2.2.1, τ.2.2.2.2.2.2.2.2.2.2.2.1, τ.2.2.2.2.2.2.2.2.2.2.2.2.1, τ.2.2.2.2.2.2.2.2.2.2.2.2.2.1, τ.2.2.2.2.2.2.2.2.2.2.2.2.2.2)) H := hP
              refine lv_iconst (v := 1) hx hb d_Mo_hours_96 (by decide) ?_
              exact kr_M (w := wl_Mo a k) hx hb hr rfl hlocks hS hP hk d_Mo_hours_97
            · have hk := br_p c5 hk
              refine lv_iconst (v := 0) hx hb d_Mo_hours_63 (by decide) ?_
              exact kr_M (w := wl_Mo a k) hx hb hr rfl hlocks hS hP hk d_Mo_hours_64
  have J23 : ∀ (τ : S_Mo) (H : Heap) (locs : List Loc) (ls : Array Slot), va_P D cls (wl_Mo a k τ) H → va_S (va_A (wl_Mo a k σ) s.heap.size) s.heap H locs → lv_has ls 6 [(0, .ref (a 0)), (1, .int p1), (2, .int p2), (3, .int p3), (4, .int p4)] → kf_Mo_hours_23 p1 p2 p3 p4 τ = some r0 → W p l e (headSpec w_Mo_hours ({ frames := 0, cells := 0, slots := 0, locals := 0 })).room s m [.ref (a 0), .int p1, .int p2, .int p3, .int p4].toArray below meth c H locs 0 0 (MQ below (kp_M D cls (wl_Mo a k r0.2) (wl_Mo a k σ) s.heap.size r0.1) [.ref (a 0), .int p1, .int p2, .int p3, .int p4].toArray s 0 0 (va_A (wl_Mo a k σ) s.heap.size)) (F0 m 23 ls []) := by
    intro τ H locs ls hP hS hl hk
    unfold kf_Mo_hours_23 at hk
    refine lv_iload_n hx hb d_Mo_hours_23 rfl (lv_at hl 3 rfl) ?_
    refine lv_if_ne (tgt := 36) hx hb d_Mo_hours_24 (by decide) (fun c8 => ?_) (fun c8 => ?_)
    · have hk := br_n c8 hk
      refine lv_iconst (v := 0) hx hb d_Mo_hours_36 (by decide) ?_
      exact J37 0 τ _ _ _ hP hS (lv_sub hl [0, 1, 2, 3, 4] rfl) hk
    · have hk := br_p c8 hk
      refine lv_iload hx hb d_Mo_hours_27 (lv_at hl 4 rfl) ?_
      refine lv_if_ne (tgt := 36) hx hb d_Mo_hours_29 (by decide) (fun c9 => ?_) (fun c9 => ?_)
      · have hk := br_n c9 hk
        refine lv_iconst (v := 0) hx hb d_Mo_hours_36 (by decide) ?_
        exact J37 0 τ _ _ _ hP hS (lv_sub hl [0, 1, 2, 3, 4] rfl) hk
      · have hk := br_p c9 hk
        refine lv_iconst (v := 1) hx hb d_Mo_hours_32 (by decide) ?_
        refine lv_goto (tgt := 37) hx hb d_Mo_hours_33 (by decide) ?_
        exact J37 1 τ _ _ _ hP hS (lv_sub hl [0, 1, 2, 3, 4] rfl) hk
  refine lv_aload_n hx hb d_Mo_hours_0 rfl (lv_at hl 0 rfl) ?_
  refine lv_iconst (v := 0) hx hb d_Mo_hours_1 (by decide) ?_
  refine va_put (D := D) (ci := 6) (v := .int 0) (ty := .int) (C := R_Mo) (T := F_Mo) (N := 15) hx hb hts i_uMo t_Mo t_Mo_ok n_Mo hown hK hP (hDw _) hS 0 rfl rfl 0 (by decide) (hts _ mw_498) (fun _ h9 => h9) rfl (t_Mo_ok 0 (by decide)) rfl rfl (Nat.le_of_ble_eq_true rfl) d_Mo_hours_2 (fun H locs hP _ hS => ?_)
  have hP : va_P D cls (wl_Mo a k (0, σ.2.1, σ.2.2.1, σ.2.2.2.1, σ.2.2.2.2.1, σ.2.2.2.2.2.1, σ.2.2.2.2.2.2.1, σ.2.2.2.2.2.2.2.1, σ.2.2.2.2.2.2.2.2.1, σ.2.2.2.2.2.2.2.2.2.1, σ.2.2.2.2.2.2.2.2.2.2.1, σ.2.2.2.2.2.2.2.2.2.2.2.1, σ.2.2.2.2.2.2.2.2.2.2.2.2.1, σ.2.2.2.2.2.2.2.2.2.2.2.2.2.1, σ.2.2.2.2.2.2.2.2.2.2.2.2.2.2)) H := hP
  refine lv_iload_n hx hb d_Mo_hours_5 rfl (lv_at hl 3 rfl) ?_
  refine lv_if_lt (tgt := 23) hx hb d_Mo_hours_6 (by decide) (fun c10 => ?_) (fun c10 => ?_)
  · have hk := br_p c10 hk
    exact J23 (0, σ.2.1, σ.2.2.1, σ.2.2.2.1, σ.2.2.2.2.1, σ.2.2.2.2.2.1, σ.2.2.2.2.2.2.1, σ.2.2.2.2.2.2.2.1, σ.2.2.2.2.2.2.2.2.1, σ.2.2.2.2.2.2.2.2.2.1, σ.2.2.2.2.2.2.2.2.2.2.1, σ.2.2.2.2.2.2.2.2.2.2.2.1, σ.2.2.2.2.2.2.2.2.2.2.2.2.1, σ.2.2.2.2.2.2.2.2.2.2.2.2.2.1, σ.2.2.2.2.2.2.2.2.2.2.2.2.2.2) _ _ _ hP hS (lv_sub hl [0, 1, 2, 3, 4] rfl) hk
  · have hk := br_n c10 hk
    refine lv_iload_n hx hb d_Mo_hours_9 rfl (lv_at hl 3 rfl) ?_
    refine lv_iload hx hb d_Mo_hours_10 (lv_at hl 4 rfl) ?_
    refine lv_icmp_ge (tgt := 23) hx hb d_Mo_hours_12 (by decide) (fun c11 => ?_) (fun c11 => ?_)
    · have hk := br_p c11 hk
      exact J23 (0, σ.2.1, σ.2.2.1, σ.2.2.2.1, σ.2.2.2.2.1, σ.2.2.2.2.2.1, σ.2.2.2.2.2.2.1, σ.2.2.2.2.2.2.2.1, σ.2.2.2.2.2.2.2.2.1, σ.2.2.2.2.2.2.2.2.2.1, σ.2.2.2.2.2.2.2.2.2.2.1, σ.2.2.2.2.2.2.2.2.2.2.2.1, σ.2.2.2.2.2.2.2.2.2.2.2.2.1, σ.2.2.2.2.2.2.2.2.2.2.2.2.2.1, σ.2.2.2.2.2.2.2.2.2.2.2.2.2.2) _ _ _ hP hS (lv_sub hl [0, 1, 2, 3, 4] rfl) hk
    · have hk := br_n c11 hk
      refine lv_iload hx hb d_Mo_hours_15 (lv_at hl 4 rfl) ?_
      refine lv_sipush (v := 1440) hx hb d_Mo_hours_17 (by decide) ?_
      refine lv_icmp_le (tgt := 32) hx hb d_Mo_hours_20 (by decide) (fun c12 => ?_) (fun c12 => ?_)
      · have hk := br_p c12 hk
        refine lv_iconst (v := 1) hx hb d_Mo_hours_32 (by decide) ?_
        refine lv_goto (tgt := 37) hx hb d_Mo_hours_33 (by decide) ?_
        exact J37 1 (0, σ.2.1, σ.2.2.1, σ.2.2.2.1, σ.2.2.2.2.1, σ.2.2.2.2.2.1, σ.2.2.2.2.2.2.1, σ.2.2.2.2.2.2.2.1, σ.2.2.2.2.2.2.2.2.1, σ.2.2.2.2.2.2.2.2.2.1, σ.2.2.2.2.2.2.2.2.2.2.1, σ.2.2.2.2.2.2.2.2.2.2.2.1, σ.2.2.2.2.2.2.2.2.2.2.2.2.1, σ.2.2.2.2.2.2.2.2.2.2.2.2.2.1, σ.2.2.2.2.2.2.2.2.2.2.2.2.2.2) _ _ _ hP hS (lv_sub hl [0, 1, 2, 3, 4] rfl) hk
      · have hk := br_n c12 hk
        exact J23 (0, σ.2.1, σ.2.2.1, σ.2.2.2.1, σ.2.2.2.2.1, σ.2.2.2.2.2.1, σ.2.2.2.2.2.2.1, σ.2.2.2.2.2.2.2.1, σ.2.2.2.2.2.2.2.2.1, σ.2.2.2.2.2.2.2.2.2.1, σ.2.2.2.2.2.2.2.2.2.2.1, σ.2.2.2.2.2.2.2.2.2.2.2.1, σ.2.2.2.2.2.2.2.2.2.2.2.2.1, σ.2.2.2.2.2.2.2.2.2.2.2.2.2.1, σ.2.2.2.2.2.2.2.2.2.2.2.2.2.2) _ _ _ hP hS (lv_sub hl [0, 1, 2, 3, 4] rfl) hk
set_option maxHeartbeats 4000000 in
set_option maxRecDepth 100000 in
theorem c_Mo_isHoliday (l : Launch) (D : va_G) (a : Nat → Nat) (k : Nat → ClassId) (sz : Nat) (σ : S_Mo) (p1 : Int32) (r0 : Int32) (hk : kf_Mo_isHoliday σ p1 = some r0) : Met l y_Mo_isHoliday w_Mo_isHoliday ({ frames := 0, cells := 0, slots := 0, locals := 0 }) (kp_P D cls (ty_Mo k) (wl_Mo a k σ) [.ref (a 0), .int p1] sz) (kp_R sz r0) 0 0 (va_A [] sz) := by
  refine Met.ofW (cc := b_Mo_isHoliday) (maxL := 4) (ret := (some .boolean)) (by decide) rfl ?_
  intro p e s m args below meth c s₁ B hml hv
  obtain ⟨rfl, hsz, hP, hK, hD0⟩ := hv
  have hx := B.exec
  have hb := B.bytes
  have hr := B.returns
  have hts : ∀ w ∈ lw_g, w.before _ s = true := fun w h => atoms_spec (ws := w_Mo_isHoliday) B.pre w (List.mem_cons_of_mem _ h)
  have hown : s.vm.findClass R_Mo = some m.cls := findClass_of_methodNamed B.named
  have hlocks := B.notSynchronized
  subst hsz
  have hA : ∀ q : Nat, s.heap.size ≤ q → (va_A ([]) s.heap.size) q := fun _ h => Or.inr h
  have hDt : ∀ τ, va_D (fun _ => True) (wl_Mo a k τ) := fun τ => kd_cg hD0 rfl
  have hS : va_S (va_A ([]) s.heap.size) s.heap s.heap [] := va_S.rf
  have hl := lv_entry ([.ref (a 0), .int p1]) (n := 4) (Nat.le_of_ble_eq_true rfl)
  rw [lg_entry_eq]
  generalize (lg_sl ([.ref (a 0), .int p1]) ++ List.replicate (4 - (lg_sl ([.ref (a 0), .int p1])).length) Slot.unset).toArray = ls at hl ⊢
  have hl : lv_has ls 4 [(0, .ref (a 0)), (1, .int p1)] := hl
  unfold kf_Mo_isHoliday at hk
  have L4 : ∀ (n4 : Nat) (x2 : Int32) (x3 : Int32) (H : Heap) (locs : List Loc) (ls : Array Slot), va_P D cls (wl_Mo a k σ) H → va_S (va_A ([]) s.heap.size) s.heap H locs → lv_has ls 4 [(0, .ref (a 0)), (1, .int p1), (2, .int x2), (3, .int x3)] → kf_Mo_isHoliday_4 σ p1 n4 x2 x3 = some r0 → W p l e (headSpec w_Mo_isHoliday ({ frames := 0, cells := 0, slots := 0, locals := 0 })).room s m [.ref (a 0), .int p1].toArray below meth c H locs 0 0 (MQ below (kp_R s.heap.size r0) [.ref (a 0), .int p1].toArray s 0 0 (va_A [] s.heap.size)) (F0 m 4 ls []) := by
    intro n4
    induction n4 with
    | zero =>
      intro x2 x3 H locs ls hP hS hl hk
      exact nomatch hk
    | succ n4 ih4 =>
      intro x2 x3 H locs ls hP hS hl hk
      rw [kf_Mo_isHoliday_4_s] at hk
      refine lv_iload_n hx hb d_Mo_isHoliday_4 rfl (lv_at hl 3 rfl) ?_
      refine lv_aload_n hx hb d_Mo_isHoliday_5 rfl (lv_at hl 0 rfl) ?_
      refine va_get (D := D) (ci := 6) (v := .int σ.2.2.2.2.1) (C := R_Mo) (T := F_Mo) (N := 15) hx hb hts i_uMo hown hK hP 0 rfl rfl 4 (by decide) (hts _ mw_502) (fun _ h9 => h9) rfl d_Mo_isHoliday_6 ?_
      refine lv_icmp_ge (tgt := 38) hx hb d_Mo_isHoliday_9 (by decide) (fun c1 => ?_) (fun c1 => ?_)
      · have hk := br_p c1 hk
        refine lv_iload_n hx hb d_Mo_isHoliday_38 rfl (lv_at hl 2 rfl) ?_
        obtain ⟨h2, hk⟩ := gd_in hk
        exact kr_R hx hb hr (kn_b h2) hlocks hS hk d_Mo_isHoliday_39
      · have hk := br_n c1 hk
        refine lv_iload_n hx hb d_Mo_isHoliday_12 rfl (lv_at hl 2 rfl) ?_
        refine lv_if_ne (tgt := 26) hx hb d_Mo_isHoliday_13 (by decide) (fun c3 => ?_) (fun c3 => ?_)
        · have hk := br_n c3 hk
          refine lv_iconst (v := 1) hx hb d_Mo_isHoliday_26 (by decide) ?_
          refine lv_goto (tgt := 31) hx hb d_Mo_isHoliday_27 (by decide) ?_
          refine lv_istore_n (lv' := [(2, .int 1), (0, .ref (a 0)), (1, .int p1), (3, .int x3)]) hx hb d_Mo_isHoliday_31 rfl hl (by decide) rfl (fun ls hl => ?_)
          refine lv_iinc (v := (x3 + 1)) (lv' := [(3, .int (x3 + 1)), (2, .int 1), (0, .ref (a 0)), (1, .int p1)]) hx hb d_Mo_isHoliday_32 hl (k := 3) rfl rfl (by decide) rfl (fun ls hl => ?_)
          refine lv_goto (tgt := 4) hx hb d_Mo_isHoliday_35 (by decide) ?_
          exact ih4 1 (x3 + 1) _ _ _ hP hS (lv_sub hl [2, 3, 1, 0] rfl) hk
        · have hk := br_p c3 hk
          refine lv_aload_n hx hb d_Mo_isHoliday_16 rfl (lv_at hl 0 rfl) ?_
          refine va_get (D := D) (ci := 6) (v := .ref (a 2)) (C := R_Mo) (T := F_Mo) (N := 15) hx hb hts i_uMo hown hK hP 0 rfl rfl 3 (by decide) (hts _ mw_501) (fun _ h9 => h9) rfl d_Mo_isHoliday_17 ?_
          refine lv_iload_n hx hb d_Mo_isHoliday_20 rfl (lv_at hl 3 rfl) ?_
          obtain ⟨h4, hk⟩ := gd_in hk
          refine va_iald hx hb hK hP 2 1 rfl rfl h4 d_Mo_isHoliday_21 ?_
          refine lv_iload_n hx hb d_Mo_isHoliday_22 rfl (lv_at hl 1 rfl) ?_
          refine lv_icmp_ne (tgt := 30) hx hb d_Mo_isHoliday_23 (by decide) (fun c5 => ?_) (fun c5 => ?_)
          · have hk := br_n c5 hk
            refine lv_iconst (v := 0) hx hb d_Mo_isHoliday_30 (by decide) ?_
            refine lv_istore_n (lv' := [(2, .int 0), (0, .ref (a 0)), (1, .int p1), (3, .int x3)]) hx hb d_Mo_isHoliday_31 rfl hl (by decide) rfl (fun ls hl => ?_)
            refine lv_iinc (v := (x3 + 1)) (lv' := [(3, .int (x3 + 1)), (2, .int 0), (0, .ref (a 0)), (1, .int p1)]) hx hb d_Mo_isHoliday_32 hl (k := 3) rfl rfl (by decide) rfl (fun ls hl => ?_)
            refine lv_goto (tgt := 4) hx hb d_Mo_isHoliday_35 (by decide) ?_
            exact ih4 0 (x3 + 1) _ _ _ hP hS (lv_sub hl [2, 3, 1, 0] rfl) hk
          · have hk := br_p c5 hk
            refine lv_iconst (v := 1) hx hb d_Mo_isHoliday_26 (by decide) ?_
            refine lv_goto (tgt := 31) hx hb d_Mo_isHoliday_27 (by decide) ?_
            refine lv_istore_n (lv' := [(2, .int 1), (0, .ref (a 0)), (1, .int p1), (3, .int x3)]) hx hb d_Mo_isHoliday_31 rfl hl (by decide) rfl (fun ls hl => ?_)
            refine lv_iinc (v := (x3 + 1)) (lv' := [(3, .int (x3 + 1)), (2, .int 1), (0, .ref (a 0)), (1, .int p1)]) hx hb d_Mo_isHoliday_32 hl (k := 3) rfl rfl (by decide) rfl (fun ls hl => ?_)
            refine lv_goto (tgt := 4) hx hb d_Mo_isHoliday_35 (by decide) ?_
            exact ih4 1 (x3 + 1) _ _ _ hP hS (lv_sub hl [2, 3, 1, 0] rfl) hk
  refine lv_iconst (v := 0) hx hb d_Mo_isHoliday_0 (by decide) ?_
  refine lv_istore_n (lv' := [(2, .int 0), (0, .ref (a 0)), (1, .int p1)]) hx hb d_Mo_isHoliday_1 rfl hl (by decide) rfl (fun ls hl => ?_)
  refine lv_iconst (v := 0) hx hb d_Mo_isHoliday_2 (by decide) ?_
  refine lv_istore_n (lv' := [(3, .int 0), (2, .int 0), (0, .ref (a 0)), (1, .int p1)]) hx hb d_Mo_isHoliday_3 rfl hl (by decide) rfl (fun ls hl => ?_)
  exact L4 FU 0 0 _ _ _ hP hS (lv_sub hl [2, 3, 1, 0] rfl) hk
set_option maxHeartbeats 4000000 in
set_option maxRecDepth 100000 in
theorem c_Mo_holiday (l : Launch) (D : va_G) (a : Nat → Nat) (k : Nat → ClassId) (sz : Nat) (σ : S_Mo) (p1 : Int32) (r0 : Int32 × S_Mo) (hk : kf_Mo_holiday σ p1 = some r0) : Met l y_Mo_holiday w_Mo_holiday ({ frames := 1, cells := 0, slots := 0, locals := 23 }) (kp_P D cls (ty_Mo k) (wl_Mo a k σ) [.ref (a 0), .int p1] sz) (kp_M D cls (wl_Mo a k r0.2) (wl_Mo a k σ) sz r0.1) 0 0 (va_A (wl_Mo a k σ) sz) := by
  refine Met.ofW (cc := b_Mo_holiday) (maxL := 2) (ret := (some .int)) (by decide) rfl ?_
  intro p e s m args below meth c s₁ B hml hv
  obtain ⟨rfl, hsz, hP, hK, hD0⟩ := hv
  have hx := B.exec
  have hb := B.bytes
  have hr := B.returns
  have hts : ∀ w ∈ lw_g, w.before _ s = true := fun w h => atoms_spec (ws := w_Mo_holiday) B.pre w (List.mem_cons_of_mem _ h)
  have hown : s.vm.findClass R_Mo = some m.cls := findClass_of_methodNamed B.named
  have hlocks := B.notSynchronized
  subst hsz
  have hA : ∀ q : Nat, s.heap.size ≤ q → (va_A (wl_Mo a k σ) s.heap.size) q := fun _ h => Or.inr h
  have hDt : ∀ τ, va_D (fun _ => True) (wl_Mo a k τ) := fun τ => kd_cg hD0 rfl
  have hDw : ∀ τ, va_D (va_A (wl_Mo a k σ) s.heap.size) (wl_Mo a k τ) := fun τ => kd_cg hD0.self rfl
  have hS : va_S (va_A (wl_Mo a k σ) s.heap.size) s.heap s.heap [] := va_S.rf
  have hl := lv_entry ([.ref (a 0), .int p1]) (n := 2) (Nat.le_of_ble_eq_true rfl)
  rw [lg_entry_eq]
  generalize (lg_sl ([.ref (a 0), .int p1]) ++ List.replicate (2 - (lg_sl ([.ref (a 0), .int p1])).length) Slot.unset).toArray = ls at hl ⊢
  have hl : lv_has ls 2 [(0, .ref (a 0)), (1, .int p1)] := hl
  unfold kf_Mo_holiday at hk
  refine lv_aload_n hx hb d_Mo_holiday_0 rfl (lv_at hl 0 rfl) ?_
  refine lv_iconst (v := 0) hx hb d_Mo_holiday_1 (by decide) ?_
  refine va_put (D := D) (ci := 6) (v := .int 0) (ty := .int) (C := R_Mo) (T := F_Mo) (N := 15) hx hb hts i_uMo t_Mo t_Mo_ok n_Mo hown hK hP (hDw _) hS 0 rfl rfl 0 (by decide) (hts _ mw_498) (fun _ h9 => h9) rfl (t_Mo_ok 0 (by decide)) rfl rfl (Nat.le_of_ble_eq_true rfl) d_Mo_holiday_2 (fun H locs hP _ hS => ?_)
  have hP : va_P D cls (wl_Mo a k (0, σ.2.1, σ.2.2.1, σ.2.2.2.1, σ.2.2.2.2.1, σ.2.2.2.2.2.1, σ.2.2.2.2.2.2.1, σ.2.2.2.2.2.2.2.1, σ.2.2.2.2.2.2.2.2.1, σ.2.2.2.2.2.2.2.2.2.1, σ.2.2.2.2.2.2.2.2.2.2.1, σ.2.2.2.2.2.2.2.2.2.2.2.1, σ.2.2.2.2.2.2.2.2.2.2.2.2.1, σ.2.2.2.2.2.2.2.2.2.2.2.2.2.1, σ.2.2.2.2.2.2.2.2.2.2.2.2.2.2)) H := hP
  refine lv_iload_n hx hb d_Mo_holiday_5 rfl (lv_at hl 1 rfl) ?_
  refine lv_if_lt (tgt := 33) hx hb d_Mo_holiday_6 (by decide) (fun c1 => ?_) (fun c1 => ?_)
  · have hk := br_p c1 hk
    refine lv_iconst (v := 0) hx hb d_Mo_holiday_33 (by decide) ?_
    exact kr_M (w := wl_Mo a k) hx hb hr rfl hlocks hS hP hk d_Mo_holiday_34
  · have hk := br_n c1 hk
    refine lv_iload_n hx hb d_Mo_holiday_9 rfl (lv_at hl 1 rfl) ?_
    refine lv_sipush (v := 694) hx hb d_Mo_holiday_10 (by decide) ?_
    refine lv_icmp_gt (tgt := 33) hx hb d_Mo_holiday_13 (by decide) (fun c2 => ?_) (fun c2 => ?_)
    · have hk := br_p c2 hk
      refine lv_iconst (v := 0) hx hb d_Mo_holiday_33 (by decide) ?_
      exact kr_M (w := wl_Mo a k) hx hb hr rfl hlocks hS hP hk d_Mo_holiday_34
    · have hk := br_n c2 hk
      refine lv_aload_n hx hb d_Mo_holiday_16 rfl (lv_at hl 0 rfl) ?_
      refine lv_iload_n hx hb d_Mo_holiday_17 rfl (lv_at hl 1 rfl) ?_
      obtain ⟨q3, e3, hk⟩ := ob_s hk
      refine kc_R (va_runV (As := [.int p1]) (rest := []) ⟨hx, hb, hml, hown, hts⟩ (c_Mo_isHoliday l D a k _ (0, σ.2.1, σ.2.2.1, σ.2.2.2.1, σ.2.2.2.2.1, σ.2.2.2.2.2.1, σ.2.2.2.2.2.2.1, σ.2.2.2.2.2.2.2.1, σ.2.2.2.2.2.2.2.2.1, σ.2.2.2.2.2.2.2.2.2.1, σ.2.2.2.2.2.2.2.2.2.2.1, σ.2.2.2.2.2.2.2.2.2.2.2.1, σ.2.2.2.2.2.2.2.2.2.2.2.2.1, σ.2.2.2.2.2.2.2.2.2.2.2.2.2.1, σ.2.2.2.2.2.2.2.2.2.2.2.2.2.2) p1 q3 e3) (cwV 1 hts (gV mw_557 mw_559 mw_9 mw_33 mw_560) rfl rfl rfl hd_Mo_isHoliday ⟨Nat.le_of_ble_eq_true rfl, Nat.le_of_ble_eq_true rfl⟩) (kp_V (ci := 6) (q := (R_Mo, F_Mo, 15)) (q0 := 0) hK hP (hDt _) rfl rfl) rfl rfl hl.1 rfl (lv_room (Nat.le_of_ble_eq_true rfl)) d_Mo_holiday_18 ⟨Nat.zero_le _, Nat.zero_le _⟩) hS hA hP (fun H locs hP hS => ?_)
      refine lv_if_ne (tgt := 33) hx hb d_Mo_holiday_21 (by decide) (fun c4 => ?_) (fun c4 => ?_)
      · have hk := br_n c4 hk
        refine lv_iconst (v := 0) hx hb d_Mo_holiday_33 (by decide) ?_
        exact kr_M (w := wl_Mo a k) hx hb hr rfl hlocks hS hP hk d_Mo_holiday_34
      · have hk := br_p c4 hk
        refine lv_aload_n hx hb d_Mo_holiday_24 rfl (lv_at hl 0 rfl) ?_
        refine va_get (D := D) (ci := 6) (v := .int σ.2.2.2.2.1) (C := R_Mo) (T := F_Mo) (N := 15) hx hb hts i_uMo hown hK hP 0 rfl rfl 4 (by decide) (hts _ mw_502) (fun _ h9 => h9) rfl d_Mo_holiday_25 ?_
        refine lv_bipush (v := 40) hx hb d_Mo_holiday_28 (by decide) ?_
        refine lv_icmp_ne (tgt := 35) hx hb d_Mo_holiday_30 (by decide) (fun c5 => ?_) (fun c5 => ?_)
        · have hk := br_n c5 hk
          refine lv_aload_n hx hb d_Mo_holiday_35 rfl (lv_at hl 0 rfl) ?_
          refine va_get (D := D) (ci := 6) (v := .ref (a 2)) (C := R_Mo) (T := F_Mo) (N := 15) hx hb hts i_uMo hown hK hP 0 rfl rfl 3 (by decide) (hts _ mw_501) (fun _ h9 => h9) rfl d_Mo_holiday_36 ?_
          refine lv_aload_n hx hb d_Mo_holiday_39 rfl (lv_at hl 0 rfl) ?_
          refine va_get (D := D) (ci := 6) (v := .int σ.2.2.2.2.1) (C := R_Mo) (T := F_Mo) (N := 15) hx hb hts i_uMo hown hK hP 0 rfl rfl 4 (by decide) (hts _ mw_502) (fun _ h9 => h9) rfl d_Mo_holiday_40 ?_
          refine lv_iload_n hx hb d_Mo_holiday_43 rfl (lv_at hl 1 rfl) ?_
          obtain ⟨h6, hk⟩ := gd_in hk
          refine va_iast hx hb hK hP (hDw _) hS 2 1 rfl rfl h6 d_Mo_holiday_44 (fun H locs hP _ hS => ?_)
          have hP : va_P D cls (wl_Mo a k (0, σ.2.1, σ.2.2.1, (upd σ.2.2.2.1 σ.2.2.2.2.1.toNatClampNeg p1), σ.2.2.2.2.1, σ.2.2.2.2.2.1, σ.2.2.2.2.2.2.1, σ.2.2.2.2.2.2.2.1, σ.2.2.2.2.2.2.2.2.1, σ.2.2.2.2.2.2.2.2.2.1, σ.2.2.2.2.2.2.2.2.2.2.1, σ.2.2.2.2.2.2.2.2.2.2.2.1, σ.2.2.2.2.2.2.2.2.2.2.2.2.1, σ.2.2.2.2.2.2.2.2.2.2.2.2.2.1, σ.2.2.2.2.2.2.2.2.2.2.2.2.2.2)) H := hP
          refine lv_aload_n hx hb d_Mo_holiday_45 rfl (lv_at hl 0 rfl) ?_
          refine lv_dup hx hb d_Mo_holiday_46 rfl ?_
          refine va_get (D := D) (ci := 6) (v := .int σ.2.2.2.2.1) (C := R_Mo) (T := F_Mo) (N := 15) hx hb hts i_uMo hown hK hP 0 rfl rfl 4 (by decide) (hts _ mw_502) (fun _ h9 => h9) rfl d_Mo_holiday_47 ?_
          refine lv_iconst (v := 1) hx hb d_Mo_holiday_50 (by decide) ?_
          refine lv_iadd hx hb d_Mo_holiday_51 ?_
          refine va_put (D := D) (ci := 6) (v := .int (σ.2.2.2.2.1 + 1)) (ty := .int) (C := R_Mo) (T := F_Mo) (N := 15) hx hb hts i_uMo t_Mo t_Mo_ok n_Mo hown hK hP (hDw _) hS 0 rfl rfl 4 (by decide) (hts _ mw_502) (fun _ h9 => h9) rfl (t_Mo_ok 4 (by decide)) rfl rfl (Nat.le_of_ble_eq_true rfl) d_Mo_holiday_52 (fun H locs hP _ hS => ?_)
          have hP : va_P D cls (wl_Mo a k (0, σ.2.1, σ.2.2.1, (upd σ.2.2.2.1 σ.2.2.2.2.1.toNatClampNeg p1), (σ.2.2.2.2.1 + 1), σ.2.2.2.2.2.1, σ.2.2.2.2.2.2.1, σ.2.2.2.2.2.2.2.1, σ.2.2.2.2.2.2.2.2.1, σ.2.2.2.2.2.2.2.2.2.1, σ.2.2.2.2.2.2.2.2.2.2.1, σ.2.2.2.2.2.2.2.2.2.2.2.1, σ.2.2.2.2.2.2.2.2.2.2.2.2.1, σ.2.2.2.2.2.2.2.2.2.2.2.2.2.1, σ.2.2.2.2.2.2.2.2.2.2.2.2.2.2)) H := hP
          refine lv_aload_n hx hb d_Mo_holiday_55 rfl (lv_at hl 0 rfl) ?_
          refine va_get (D := D) (ci := 6) (v := .int (σ.2.2.2.2.1 + 1)) (C := R_Mo) (T := F_Mo) (N := 15) hx hb hts i_uMo hown hK hP 0 rfl rfl 4 (by decide) (hts _ mw_502) (fun _ h9 => h9) rfl d_Mo_holiday_56 ?_
          exact kr_M (w := wl_Mo a k) hx hb hr rfl hlocks hS hP hk d_Mo_holiday_59
        · have hk := br_p c5 hk
          refine lv_iconst (v := 0) hx hb d_Mo_holiday_33 (by decide) ?_
          exact kr_M (w := wl_Mo a k) hx hb hr rfl hlocks hS hP hk d_Mo_holiday_34
set_option maxHeartbeats 4000000 in
set_option maxRecDepth 100000 in
theorem c_Mo_meets (l : Launch) (D : va_G) (a : Nat → Nat) (k : Nat → ClassId) (sz : Nat) (σ : S_Mo) (p1 p2 p3 p4 : Int32) (r0 : Int32) (hk : kf_Mo_meets σ p1 p2 p3 p4 = some r0) : Met l y_Mo_meets w_Mo_meets ({ frames := 0, cells := 0, slots := 0, locals := 0 }) (kp_P D cls (ty_Mo k) (wl_Mo a k σ) [.ref (a 0), .int p1, .int p2, .int p3, .int p4] sz) (kp_R sz r0) 0 0 (va_A [] sz) := by
  refine Met.ofW (cc := b_Mo_meets) (maxL := 5) (ret := (some .boolean)) (by decide) rfl ?_
  intro p e s m args below meth c s₁ B hml hv
  obtain ⟨rfl, hsz, hP, hK, hD0⟩ := hv
  have hx := B.exec
  have hb := B.bytes
  have hr := B.returns
  have hts : ∀ w ∈ lw_g, w.before _ s = true := fun w h => atoms_spec (ws := w_Mo_meets) B.pre w (List.mem_cons_of_mem _ h)
  have hown : s.vm.findClass R_Mo = some m.cls := findClass_of_methodNamed B.named
  have hlocks := B.notSynchronized
  subst hsz
  have hA : ∀ q : Nat, s.heap.size ≤ q → (va_A ([]) s.heap.size) q := fun _ h => Or.inr h
  have hDt : ∀ τ, va_D (fun _ => True) (wl_Mo a k τ) := fun τ => kd_cg hD0 rfl
  have hS : va_S (va_A ([]) s.heap.size) s.heap s.heap [] := va_S.rf
  have hl := lv_entry ([.ref (a 0), .int p1, .int p2, .int p3, .int p4]) (n := 5) (Nat.le_of_ble_eq_true rfl)
  rw [lg_entry_eq]
  generalize (lg_sl ([.ref (a 0), .int p1, .int p2, .int p3, .int p4]) ++ List.replicate (5 - (lg_sl ([.ref (a 0), .int p1, .int p2, .int p3, .int p4])).length) Slot.unset).toArray = ls at hl ⊢
  have hl : lv_has ls 5 [(0, .ref (a 0)), (1, .int p1), (2, .int p2), (3, .int p3), (4, .int p4)] := hl
  unfold kf_Mo_meets at hk
  refine lv_aload_n hx hb d_Mo_meets_0 rfl (lv_at hl 0 rfl) ?_
  refine va_get (D := D) (ci := 6) (v := .ref (a 4)) (C := R_Mo) (T := F_Mo) (N := 15) hx hb hts i_uMo hown hK hP 0 rfl rfl 7 (by decide) (hts _ mw_505) (fun _ h9 => h9) rfl d_Mo_meets_1 ?_
  refine lv_bipush (v := 6) hx hb d_Mo_meets_4 (by decide) ?_
  refine lv_iload_n hx hb d_Mo_meets_6 rfl (lv_at hl 1 rfl) ?_
  refine lv_imul hx hb d_Mo_meets_7 ?_
  refine lv_iconst (v := 1) hx hb d_Mo_meets_8 (by decide) ?_
  refine lv_iadd hx hb d_Mo_meets_9 ?_
  obtain ⟨h1, hk⟩ := gd_in hk
  refine va_iald hx hb hK hP 4 3 rfl rfl h1 d_Mo_meets_10 ?_
  refine lv_iload_n hx hb d_Mo_meets_11 rfl (lv_at hl 2 rfl) ?_
  refine lv_icmp_ne (tgt := 50) hx hb d_Mo_meets_12 (by decide) (fun c2 => ?_) (fun c2 => ?_)
  · have hk := br_n c2 hk
    refine lv_iconst (v := 0) hx hb d_Mo_meets_50 (by decide) ?_
    exact kr_R hx hb hr (by decide) hlocks hS hk d_Mo_meets_51
  · have hk := br_p c2 hk
    refine lv_aload_n hx hb d_Mo_meets_15 rfl (lv_at hl 0 rfl) ?_
    refine va_get (D := D) (ci := 6) (v := .ref (a 4)) (C := R_Mo) (T := F_Mo) (N := 15) hx hb hts i_uMo hown hK hP 0 rfl rfl 7 (by decide) (hts _ mw_505) (fun _ h9 => h9) rfl d_Mo_meets_16 ?_
    refine lv_bipush (v := 6) hx hb d_Mo_meets_19 (by decide) ?_
    refine lv_iload_n hx hb d_Mo_meets_21 rfl (lv_at hl 1 rfl) ?_
    refine lv_imul hx hb d_Mo_meets_22 ?_
    refine lv_iconst (v := 2) hx hb d_Mo_meets_23 (by decide) ?_
    refine lv_iadd hx hb d_Mo_meets_24 ?_
    obtain ⟨h3, hk⟩ := gd_in hk
    refine va_iald hx hb hK hP 4 3 rfl rfl h3 d_Mo_meets_25 ?_
    refine lv_iload hx hb d_Mo_meets_26 (lv_at hl 4 rfl) ?_
    refine lv_icmp_ge (tgt := 50) hx hb d_Mo_meets_28 (by decide) (fun c4 => ?_) (fun c4 => ?_)
    · have hk := br_p c4 hk
      refine lv_iconst (v := 0) hx hb d_Mo_meets_50 (by decide) ?_
      exact kr_R hx hb hr (by decide) hlocks hS hk d_Mo_meets_51
    · have hk := br_n c4 hk
      refine lv_iload_n hx hb d_Mo_meets_31 rfl (lv_at hl 3 rfl) ?_
      refine lv_aload_n hx hb d_Mo_meets_32 rfl (lv_at hl 0 rfl) ?_
      refine va_get (D := D) (ci := 6) (v := .ref (a 4)) (C := R_Mo) (T := F_Mo) (N := 15) hx hb hts i_uMo hown hK hP 0 rfl rfl 7 (by decide) (hts _ mw_505) (fun _ h9 => h9) rfl d_Mo_meets_33 ?_
      refine lv_bipush (v := 6) hx hb d_Mo_meets_36 (by decide) ?_
      refine lv_iload_n hx hb d_Mo_meets_38 rfl (lv_at hl 1 rfl) ?_
      refine lv_imul hx hb d_Mo_meets_39 ?_
      refine lv_iconst (v := 3) hx hb d_Mo_meets_40 (by decide) ?_
      refine lv_iadd hx hb d_Mo_meets_41 ?_
      obtain ⟨h5, hk⟩ := gd_in hk
      refine va_iald hx hb hK hP 4 3 rfl rfl h5 d_Mo_meets_42 ?_
      refine lv_icmp_ge (tgt := 50) hx hb d_Mo_meets_43 (by decide) (fun c6 => ?_) (fun c6 => ?_)
      · have hk := br_p c6 hk
        refine lv_iconst (v := 0) hx hb d_Mo_meets_50 (by decide) ?_
        exact kr_R hx hb hr (by decide) hlocks hS hk d_Mo_meets_51
      · have hk := br_n c6 hk
        refine lv_iconst (v := 1) hx hb d_Mo_meets_46 (by decide) ?_
        refine lv_goto (tgt := 51) hx hb d_Mo_meets_47 (by decide) ?_
        exact kr_R hx hb hr (by decide) hlocks hS hk d_Mo_meets_51
set_option maxHeartbeats 4000000 in
set_option maxRecDepth 100000 in
theorem c_Mo_clashes (l : Launch) (D : va_G) (a : Nat → Nat) (k : Nat → ClassId) (sz : Nat) (σ : S_Mo) (p1 p2 p3 p4 : Int32) (r0 : Int32) (hk : kf_Mo_clashes σ p1 p2 p3 p4 = some r0) : Met l y_Mo_clashes w_Mo_clashes ({ frames := 1, cells := 0, slots := 0, locals := 24 }) (kp_P D cls (ty_Mo k) (wl_Mo a k σ) [.ref (a 0), .int p1, .int p2, .int p3, .int p4] sz) (kp_R sz r0) 0 0 (va_A [] sz) := by
  refine Met.ofW (cc := b_Mo_clashes) (maxL := 7) (ret := (some .boolean)) (by decide) rfl ?_
  intro p e s m args below meth c s₁ B hml hv
  obtain ⟨rfl, hsz, hP, hK, hD0⟩ := hv
  have hx := B.exec
  have hb := B.bytes
  have hr := B.returns
  have hts : ∀ w ∈ lw_g, w.before _ s = true := fun w h => atoms_spec (ws := w_Mo_clashes) B.pre w (List.mem_cons_of_mem _ h)
  have hown : s.vm.findClass R_Mo = some m.cls := findClass_of_methodNamed B.named
  have hlocks := B.notSynchronized
  subst hsz
  have hA : ∀ q : Nat, s.heap.size ≤ q → (va_A ([]) s.heap.size) q := fun _ h => Or.inr h
  have hDt : ∀ τ, va_D (fun _ => True) (wl_Mo a k τ) := fun τ => kd_cg hD0 rfl
  have hS : va_S (va_A ([]) s.heap.size) s.heap s.heap [] := va_S.rf
  have hl := lv_entry ([.ref (a 0), .int p1, .int p2, .int p3, .int p4]) (n := 7) (Nat.le_of_ble_eq_true rfl)
  rw [lg_entry_eq]
  generalize (lg_sl ([.ref (a 0), .int p1, .int p2, .int p3, .int p4]) ++ List.replicate (7 - (lg_sl ([.ref (a 0), .int p1, .int p2, .int p3, .int p4])).length) Slot.unset).toArray = ls at hl ⊢
  have hl : lv_has ls 7 [(0, .ref (a 0)), (1, .int p1), (2, .int p2), (3, .int p3), (4, .int p4)] := hl
  unfold kf_Mo_clashes at hk
  have L6 : ∀ (n6 : Nat) (x5 : Int32) (x6 : Int32) (H : Heap) (locs : List Loc) (ls : Array Slot), va_P D cls (wl_Mo a k σ) H → va_S (va_A ([]) s.heap.size) s.heap H locs → lv_has ls 7 [(0, .ref (a 0)), (1, .int p1), (2, .int p2), (3, .int p3), (4, .int p4), (5, .int x5), (6, .int x6)] → kf_Mo_clashes_6 σ p1 p2 p3 p4 n6 x5 x6 = some r0 → W p l e (headSpec w_Mo_clashes ({ frames := 1, cells := 0, slots := 0, locals := 24 })).room s m [.ref (a 0), .int p1, .int p2, .int p3, .int p4].toArray below meth c H locs 0 0 (MQ below (kp_R s.heap.size r0) [.ref (a 0), .int p1, .int p2, .int p3, .int p4].toArray s 0 0 (va_A [] s.heap.size)) (F0 m 6 ls []) := by
    intro n6
    induction n6 with
    | zero =>
      intro x5 x6 H locs ls hP hS hl hk
      exact nomatch hk
    | succ n6 ih6 =>
      intro x5 x6 H locs ls hP hS hl hk
      rw [kf_Mo_clashes_6_s] at hk
      refine lv_iload hx hb d_Mo_clashes_6 (lv_at hl 6 rfl) ?_
      refine lv_aload_n hx hb d_Mo_clashes_8 rfl (lv_at hl 0 rfl) ?_
      refine va_get (D := D) (ci := 6) (v := .int σ.2.2.2.2.2.2.2.2.1) (C := R_Mo) (T := F_Mo) (N := 15) hx hb hts i_uMo hown hK hP 0 rfl rfl 8 (by decide) (hts _ mw_506) (fun _ h9 => h9) rfl d_Mo_clashes_9 ?_
      refine lv_icmp_gt (tgt := 61) hx hb d_Mo_clashes_12 (by decide) (fun c1 => ?_) (fun c1 => ?_)
      · have hk := br_p c1 hk
        refine lv_iload hx hb d_Mo_clashes_61 (lv_at hl 5 rfl) ?_
        obtain ⟨h2, hk⟩ := gd_in hk
        exact kr_R hx hb hr (kn_b h2) hlocks hS hk d_Mo_clashes_63
      · have hk := br_n c1 hk
        refine lv_iload hx hb d_Mo_clashes_15 (lv_at hl 5 rfl) ?_
        refine lv_if_ne (tgt := 48) hx hb d_Mo_clashes_17 (by decide) (fun c3 => ?_) (fun c3 => ?_)
        · have hk := br_n c3 hk
          refine lv_iconst (v := 1) hx hb d_Mo_clashes_48 (by decide) ?_
          refine lv_goto (tgt := 53) hx hb d_Mo_clashes_49 (by decide) ?_
          refine lv_istore (lv' := [(5, .int 1), (0, .ref (a 0)), (1, .int p1), (2, .int p2), (3, .int p3), (4, .int p4), (6, .int x6)]) hx hb d_Mo_clashes_53 hl (by decide) rfl (fun ls hl => ?_)
          refine lv_iinc (v := (x6 + 1)) (lv' := [(6, .int (x6 + 1)), (5, .int 1), (0, .ref (a 0)), (1, .int p1), (2, .int p2), (3, .int p3), (4, .int p4)]) hx hb d_Mo_clashes_55 hl (k := 6) rfl rfl (by decide) rfl (fun ls hl => ?_)
          refine lv_goto (tgt := 6) hx hb d_Mo_clashes_58 (by decide) ?_
          exact ih6 1 (x6 + 1) _ _ _ hP hS (lv_sub hl [2, 3, 4, 5, 6, 1, 0] rfl) hk
        · have hk := br_p c3 hk
          refine lv_iload hx hb d_Mo_clashes_20 (lv_at hl 6 rfl) ?_
          refine lv_iload hx hb d_Mo_clashes_22 (lv_at hl 4 rfl) ?_
          refine lv_icmp_eq (tgt := 52) hx hb d_Mo_clashes_24 (by decide) (fun c4 => ?_) (fun c4 => ?_)
          · have hk := br_p c4 hk
            refine lv_iconst (v := 0) hx hb d_Mo_clashes_52 (by decide) ?_
            refine lv_istore (lv' := [(5, .int 0), (0, .ref (a 0)), (1, .int p1), (2, .int p2), (3, .int p3), (4, .int p4), (6, .int x6)]) hx hb d_Mo_clashes_53 hl (by decide) rfl (fun ls hl => ?_)
            refine lv_iinc (v := (x6 + 1)) (lv' := [(6, .int (x6 + 1)), (5, .int 0), (0, .ref (a 0)), (1, .int p1), (2, .int p2), (3, .int p3), (4, .int p4)]) hx hb d_Mo_clashes_55 hl (k := 6) rfl rfl (by decide) rfl (fun ls hl => ?_)
            refine lv_goto (tgt := 6) hx hb d_Mo_clashes_58 (by decide) ?_
            exact ih6 0 (x6 + 1) _ _ _ hP hS (lv_sub hl [2, 3, 4, 5, 6, 1, 0] rfl) hk
          · have hk := br_n c4 hk
            refine lv_aload_n hx hb d_Mo_clashes_27 rfl (lv_at hl 0 rfl) ?_
            refine lv_iload hx hb d_Mo_clashes_28 (lv_at hl 6 rfl) ?_
            obtain ⟨q5, e5, hk⟩ := ob_s hk
            refine kc_R (va_runV (As := [.int x6]) (rest := []) ⟨hx, hb, hml, hown, hts⟩ (c_Mo_lives l D a k _ σ x6 q5 e5) (cwV 1 hts (gV mw_584 mw_586 mw_13 mw_33 mw_587) rfl rfl rfl hd_Mo_lives ⟨Nat.le_of_ble_eq_true rfl, Nat.le_of_ble_eq_true rfl⟩) (kp_V (ci := 6) (q := (R_Mo, F_Mo, 15)) (q0 := 0) hK hP (hDt _) rfl rfl) rfl rfl hl.1 rfl (lv_room (Nat.le_of_ble_eq_true rfl)) d_Mo_clashes_30 ⟨Nat.zero_le _, Nat.zero_le _⟩) hS hA hP (fun H locs hP hS => ?_)
            refine lv_if_eq (tgt := 52) hx hb d_Mo_clashes_33 (by decide) (fun c6 => ?_) (fun c6 => ?_)
            · have hk := br_p c6 hk
              refine lv_iconst (v := 0) hx hb d_Mo_clashes_52 (by decide) ?_
              refine lv_istore (lv' := [(5, .int 0), (0, .ref (a 0)), (1, .int p1), (2, .int p2), (3, .int p3), (4, .int p4), (6, .int x6)]) hx hb d_Mo_clashes_53 hl (by decide) rfl (fun ls hl => ?_)
              refine lv_iinc (v := (x6 + 1)) (lv' := [(6, .int (x6 + 1)), (5, .int 0), (0, .ref (a 0)), (1, .int p1), (2, .int p2), (3, .int p3), (4, .int p4)]) hx hb d_Mo_clashes_55 hl (k := 6) rfl rfl (by decide) rfl (fun ls hl => ?_)
              refine lv_goto (tgt := 6) hx hb d_Mo_clashes_58 (by decide) ?_
              exact ih6 0 (x6 + 1) _ _ _ hP hS (lv_sub hl [2, 3, 4, 5, 6, 1, 0] rfl) hk
            · have hk := br_n c6 hk
              refine lv_aload_n hx hb d_Mo_clashes_36 rfl (lv_at hl 0 rfl) ?_
              refine lv_iload hx hb d_Mo_clashes_37 (lv_at hl 6 rfl) ?_
              refine lv_iload_n hx hb d_Mo_clashes_39 rfl (lv_at hl 1 rfl) ?_
              refine lv_iload_n hx hb d_Mo_clashes_40 rfl (lv_at hl 2 rfl) ?_
              refine lv_iload_n hx hb d_Mo_clashes_41 rfl (lv_at hl 3 rfl) ?_
              obtain ⟨q7, e7, hk⟩ := ob_s hk
              refine kc_R (va_runV (As := [.int x6, .int p1, .int p2, .int p3]) (rest := []) ⟨hx, hb, hml, hown, hts⟩ (c_Mo_meets l D a k _ σ x6 p1 p2 p3 q7 e7) (cwV 4 hts (gV mw_592 mw_594 mw_15 mw_33 mw_595) rfl rfl rfl hd_Mo_meets ⟨Nat.le_of_ble_eq_true rfl, Nat.le_of_ble_eq_true rfl⟩) (kp_V (ci := 6) (q := (R_Mo, F_Mo, 15)) (q0 := 0) hK hP (hDt _) rfl rfl) rfl rfl hl.1 rfl (lv_room (Nat.le_of_ble_eq_true rfl)) d_Mo_clashes_42 ⟨Nat.zero_le _, Nat.zero_le _⟩) hS hA hP (fun H locs hP hS => ?_)
              refine lv_if_eq (tgt := 52) hx hb d_Mo_clashes_45 (by decide) (fun c8 => ?_) (fun c8 => ?_)
              · have hk := br_p c8 hk
                refine lv_iconst (v := 0) hx hb d_Mo_clashes_52 (by decide) ?_
                refine lv_istore (lv' := [(5, .int 0), (0, .ref (a 0)), (1, .int p1), (2, .int p2), (3, .int p3), (4, .int p4), (6, .int x6)]) hx hb d_Mo_clashes_53 hl (by decide) rfl (fun ls hl => ?_)
                refine lv_iinc (v := (x6 + 1)) (lv' := [(6, .int (x6 + 1)), (5, .int 0), (0, .ref (a 0)), (1, .int p1), (2, .int p2), (3, .int p3), (4, .int p4)]) hx hb d_Mo_clashes_55 hl (k := 6) rfl rfl (by decide) rfl (fun ls hl => ?_)
                refine lv_goto (tgt := 6) hx hb d_Mo_clashes_58 (by decide) ?_
                exact ih6 0 (x6 + 1) _ _ _ hP hS (lv_sub hl [2, 3, 4, 5, 6, 1, 0] rfl) hk
              · have hk := br_n c8 hk
                refine lv_iconst (v := 1) hx hb d_Mo_clashes_48 (by decide) ?_
                refine lv_goto (tgt := 53) hx hb d_Mo_clashes_49 (by decide) ?_
                refine lv_istore (lv' := [(5, .int 1), (0, .ref (a 0)), (1, .int p1), (2, .int p2), (3, .int p3), (4, .int p4), (6, .int x6)]) hx hb d_Mo_clashes_53 hl (by decide) rfl (fun ls hl => ?_)
                refine lv_iinc (v := (x6 + 1)) (lv' := [(6, .int (x6 + 1)), (5, .int 1), (0, .ref (a 0)), (1, .int p1), (2, .int p2), (3, .int p3), (4, .int p4)]) hx hb d_Mo_clashes_55 hl (k := 6) rfl rfl (by decide) rfl (fun ls hl => ?_)
                refine lv_goto (tgt := 6) hx hb d_Mo_clashes_58 (by decide) ?_
                exact ih6 1 (x6 + 1) _ _ _ hP hS (lv_sub hl [2, 3, 4, 5, 6, 1, 0] rfl) hk
  refine lv_iconst (v := 0) hx hb d_Mo_clashes_0 (by decide) ?_
  refine lv_istore (lv' := [(5, .int 0), (0, .ref (a 0)), (1, .int p1), (2, .int p2), (3, .int p3), (4, .int p4)]) hx hb d_Mo_clashes_1 hl (by decide) rfl (fun ls hl => ?_)
  refine lv_iconst (v := 1) hx hb d_Mo_clashes_3 (by decide) ?_
  refine lv_istore (lv' := [(6, .int 1), (5, .int 0), (0, .ref (a 0)), (1, .int p1), (2, .int p2), (3, .int p3), (4, .int p4)]) hx hb d_Mo_clashes_4 hl (by decide) rfl (fun ls hl => ?_)
  exact L6 FU 0 1 _ _ _ hP hS (lv_sub hl [2, 3, 4, 5, 6, 1, 0] rfl) hk
