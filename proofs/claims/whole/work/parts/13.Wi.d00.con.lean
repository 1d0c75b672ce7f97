set_option maxHeartbeats 4000000 in
set_option maxRecDepth 100000 in
theorem c_Wi_size (l : Launch) (D : va_G) (a : Nat → Nat) (k : Nat → ClassId) (sz : Nat) (σ : S_Wi) (r0 : Int32) (hk : kf_Wi_size σ = some r0) : Met l y_Wi_size w_Wi_size ({ frames := 0, cells := 0, slots := 0, locals := 0 }) (kp_P D cls (ty_Wi k) (wl_Wi a k σ) [.ref (a 0)] sz) (kp_R sz r0) 0 0 (va_A [] sz) := by
  refine Met.ofW (cc := b_Wi_size) (maxL := 1) (ret := (some .int)) (by decide) rfl ?_
  intro p e s m args below meth c s₁ B hml hv
  obtain ⟨rfl, hsz, hP, hK, hD0⟩ := hv
  have hx := B.exec
  have hb := B.bytes
  have hr := B.returns
  have hts : ∀ w ∈ lw_g, w.before _ s = true := fun w h => atoms_spec (ws := w_Wi_size) B.pre w (List.mem_cons_of_mem _ h)
  have hown : s.vm.findClass R_Wi = some m.cls := findClass_of_methodNamed B.named
  have hlocks := B.notSynchronized
  subst hsz
  have hA : ∀ q : Nat, s.heap.size ≤ q → (va_A ([]) s.heap.size) q := fun _ h => Or.inr h
  have hDt : ∀ τ, va_D (fun _ => True) (wl_Wi a k τ) := fun τ => kd_cg hD0 rfl
  have hS : va_S (va_A ([]) s.heap.size) s.heap s.heap [] := va_S.rf
  have hl := lv_entry ([.ref (a 0)]) (n := 1) (Nat.le_of_ble_eq_true rfl)
  rw [lg_entry_eq]
  generalize (lg_sl ([.ref (a 0)]) ++ List.replicate (1 - (lg_sl ([.ref (a 0)])).length) Slot.unset).toArray = ls at hl ⊢
  have hl : lv_has ls 1 [(0, .ref (a 0))] := hl
  unfold kf_Wi_size at hk
  refine lv_aload_n hx hb d_Wi_size_0 rfl (lv_at hl 0 rfl) ?_
  refine va_get (D := D) (ci := 4) (v := .int σ.2.2.2.2.2) (C := R_Wi) (T := F_Wi) (N := 6) hx hb hts i_uWi hown hK hP 0 rfl rfl 5 (by decide) (hts _ mw_133) (fun _ h9 => h9) rfl d_Wi_size_1 ?_
  exact kr_R hx hb hr rfl hlocks hS hk d_Wi_size_4
set_option maxHeartbeats 4000000 in
set_option maxRecDepth 100000 in
theorem c_Wi_isFull (l : Launch) (D : va_G) (a : Nat → Nat) (k : Nat → ClassId) (sz : Nat) (σ : S_Wi) (r0 : Int32) (hk : kf_Wi_isFull σ = some r0) : Met l y_Wi_isFull w_Wi_isFull ({ frames := 0, cells := 0, slots := 0, locals := 0 }) (kp_P D cls (ty_Wi k) (wl_Wi a k σ) [.ref (a 0)] sz) (kp_R sz r0) 0 0 (va_A [] sz) := by
  refine Met.ofW (cc := b_Wi_isFull) (maxL := 1) (ret := (some .boolean)) (by decide) rfl ?_
  intro p e s m args below meth c s₁ B hml hv
  obtain ⟨rfl, hsz, hP, hK, hD0⟩ := hv
  have hx := B.exec
  have hb := B.bytes
  have hr := B.returns
  have hts : ∀ w ∈ lw_g, w.before _ s = true := fun w h => atoms_spec (ws := w_Wi_isFull) B.pre w (List.mem_cons_of_mem _ h)
  have hown : s.vm.findClass R_Wi = some m.cls := findClass_of_methodNamed B.named
  have hlocks := B.notSynchronized
  subst hsz
  have hA : ∀ q : Nat, s.heap.size ≤ q → (va_A ([]) s.heap.size) q := fun _ h => Or.inr h
  have hDt : ∀ τ, va_D (fun _ => True) (wl_Wi a k τ) := fun τ => kd_cg hD0 rfl
  have hS : va_S (va_A ([]) s.heap.size) s.heap s.heap [] := va_S.rf
  have hl := lv_entry ([.ref (a 0)]) (n := 1) (Nat.le_of_ble_eq_true rfl)
  rw [lg_entry_eq]
  generalize (lg_sl ([.ref (a 0)]) ++ List.replicate (1 - (lg_sl ([.ref (a 0)])).length) Slot.unset).toArray = ls at hl ⊢
  have hl : lv_has ls 1 [(0, .ref (a 0))] := hl
  unfold kf_Wi_isFull at hk
  refine lv_aload_n hx hb d_Wi_isFull_0 rfl (lv_at hl 0 rfl) ?_
  refine va_get (D := D) (ci := 4) (v := .int σ.2.2.2.2.2) (C := R_Wi) (T := F_Wi) (N := 6) hx hb hts i_uWi hown hK hP 0 rfl rfl 5 (by decide) (hts _ mw_133) (fun _ h9 => h9) rfl d_Wi_isFull_1 ?_
  refine lv_bipush (v := 60) hx hb d_Wi_isFull_4 (by decide) ?_
  refine lv_icmp_lt (tgt := 13) hx hb d_Wi_isFull_6 (by decide) (fun c1 => ?_) (fun c1 => ?_)
  · have hk := br_p c1 hk
    refine lv_iconst (v := 0) hx hb d_Wi_isFull_13 (by decide) ?_
    exact kr_R hx hb hr (by decide) hlocks hS hk d_Wi_isFull_14
  · have hk := br_n c1 hk
    refine lv_iconst (v := 1) hx hb d_Wi_isFull_9 (by decide) ?_
    refine lv_goto (tgt := 14) hx hb d_Wi_isFull_10 (by decide) ?_
    exact kr_R hx hb hr (by decide) hlocks hS hk d_Wi_isFull_14
set_option maxHeartbeats 4000000 in
set_option maxRecDepth 100000 in
theorem c_Wi_personOf (l : Launch) (D : va_G) (a : Nat → Nat) (k : Nat → ClassId) (sz : Nat) (σ : S_Wi) (p1 : Int32) (r0 : Int32) (hk : kf_Wi_personOf σ p1 = some r0) : Met l y_Wi_personOf w_Wi_personOf ({ frames := 0, cells := 0, slots := 0, locals := 0 }) (kp_P D cls (ty_Wi k) (wl_Wi a k σ) [.ref (a 0), .int p1] sz) (kp_R sz r0) 0 0 (va_A [] sz) := by
  refine Met.ofW (cc := b_Wi_personOf) (maxL := 2) (ret := (some .int)) (by decide) rfl ?_
  intro p e s m args below meth c s₁ B hml hv
  obtain ⟨rfl, hsz, hP, hK, hD0⟩ := hv
  have hx := B.exec
  have hb := B.bytes
  have hr := B.returns
  have hts : ∀ w ∈ lw_g, w.before _ s = true := fun w h => atoms_spec (ws := w_Wi_personOf) B.pre w (List.mem_cons_of_mem _ h)
  have hown : s.vm.findClass R_Wi = some m.cls := findClass_of_methodNamed B.named
  have hlocks := B.notSynchronized
  subst hsz
  have hA : ∀ q : Nat, s.heap.size ≤ q → (va_A ([]) s.heap.size) q := fun _ h => Or.inr h
  have hDt : ∀ τ, va_D (fun _ => True) (wl_Wi a k τ) := fun τ => kd_cg hD0 rfl
  have hS : va_S (va_A ([]) s.heap.size) s.heap s.heap [] := va_S.rf
  have hl := lv_entry ([.ref (a 0), .int p1]) (n := 2) (Nat.le_of_ble_eq_true rfl)
  rw [lg_entry_eq]
  generalize (lg_sl ([.ref (a 0), .int p1]) ++ List.replicate (2 - (lg_sl ([.ref (a 0), .int p1])).length) Slot.unset).toArray = ls at hl ⊢
  have hl : lv_has ls 2 [(0, .ref (a 0)), (1, .int p1)] := hl
  unfold kf_Wi_personOf at hk
  refine lv_aload_n hx hb d_Wi_personOf_0 rfl (lv_at hl 0 rfl) ?_
  refine va_get (D := D) (ci := 4) (v := .ref (a 1)) (C := R_Wi) (T := F_Wi) (N := 6) hx hb hts i_uWi hown hK hP 0 rfl rfl 0 (by decide) (hts _ mw_128) (fun _ h9 => h9) rfl d_Wi_personOf_1 ?_
  refine lv_iload_n hx hb d_Wi_personOf_4 rfl (lv_at hl 1 rfl) ?_
  obtain ⟨h1, hk⟩ := gd_in hk
  refine va_iald hx hb hK hP 1 0 rfl rfl h1 d_Wi_personOf_5 ?_
  exact kr_R hx hb hr rfl hlocks hS hk d_Wi_personOf_6
set_option maxHeartbeats 4000000 in
set_option maxRecDepth 100000 in
theorem c_Wi_thingOf (l : Launch) (D : va_G) (a : Nat → Nat) (k : Nat → ClassId) (sz : Nat) (σ : S_Wi) (p1 : Int32) (r0 : Int32) (hk : kf_Wi_thingOf σ p1 = some r0) : Met l y_Wi_thingOf w_Wi_thingOf ({ frames := 0, cells := 0, slots := 0, locals := 0 }) (kp_P D cls (ty_Wi k) (wl_Wi a k σ) [.ref (a 0), .int p1] sz) (kp_R sz r0) 0 0 (va_A [] sz) := by
  refine Met.ofW (cc := b_Wi_thingOf) (maxL := 2) (ret := (some .int)) (by decide) rfl ?_
  intro p e s m args below meth c s₁ B hml hv
  obtain ⟨rfl, hsz, hP, hK, hD0⟩ := hv
  have hx := B.exec
  have hb := B.bytes
  have hr := B.returns
  have hts : ∀ w ∈ lw_g, w.before _ s = true := fun w h => atoms_spec (ws := w_Wi_thingOf) B.pre w (List.mem_cons_of_mem _ h)
  have hown : s.vm.findClass R_Wi = some m.cls := findClass_of_methodNamed B.named
  have hlocks := B.notSynchronized
  subst hsz
  have hA : ∀ q : Nat, s.heap.size ≤ q → (va_A ([]) s.heap.size) q := fun _ h => Or.inr h
  have hDt : ∀ τ, va_D (fun _ => True) (wl_Wi a k τ) := fun τ => kd_cg hD0 rfl
  have hS : va_S (va_A ([]) s.heap.size) s.heap s.heap [] := va_S.rf
  have hl := lv_entry ([.ref (a 0), .int p1]) (n := 2) (Nat.le_of_ble_eq_true rfl)
  rw [lg_entry_eq]
  generalize (lg_sl ([.ref (a 0), .int p1]) ++ List.replicate (2 - (lg_sl ([.ref (a 0), .int p1])).length) Slot.unset).toArray = ls at hl ⊢
  have hl : lv_has ls 2 [(0, .ref (a 0)), (1, .int p1)] := hl
  unfold kf_Wi_thingOf at hk
  refine lv_aload_n hx hb d_Wi_thingOf_0 rfl (lv_at hl 0 rfl) ?_
  refine va_get (D := D) (ci := 4) (v := .ref (a 2)) (C := R_Wi) (T := F_Wi) (N := 6) hx hb hts i_uWi hown hK hP 0 rfl rfl 1 (by decide) (hts _ mw_129) (fun _ h9 => h9) rfl d_Wi_thingOf_1 ?_
  refine lv_iload_n hx hb d_Wi_thingOf_4 rfl (lv_at hl 1 rfl) ?_
  obtain ⟨h1, hk⟩ := gd_in hk
  refine va_iald hx hb hK hP 2 1 rfl rfl h1 d_Wi_thingOf_5 ?_
  exact kr_R hx hb hr rfl hlocks hS hk d_Wi_thingOf_6
set_option maxHeartbeats 4000000 in
set_option maxRecDepth 100000 in
theorem c_Wi_fromOf (l : Launch) (D : va_G) (a : Nat → Nat) (k : Nat → ClassId) (sz : Nat) (σ : S_Wi) (p1 : Int32) (r0 : Int32) (hk : kf_Wi_fromOf σ p1 = some r0) : Met l y_Wi_fromOf w_Wi_fromOf ({ frames := 0, cells := 0, slots := 0, locals := 0 }) (kp_P D cls (ty_Wi k) (wl_Wi a k σ) [.ref (a 0), .int p1] sz) (kp_R sz r0) 0 0 (va_A [] sz) := by
  refine Met.ofW (cc := b_Wi_fromOf) (maxL := 2) (ret := (some .int)) (by decide) rfl ?_
  intro p e s m args below meth c s₁ B hml hv
  obtain ⟨rfl, hsz, hP, hK, hD0⟩ := hv
  have hx := B.exec
  have hb := B.bytes
  have hr := B.returns
  have hts : ∀ w ∈ lw_g, w.before _ s = true := fun w h => atoms_spec (ws := w_Wi_fromOf) B.pre w (List.mem_cons_of_mem _ h)
  have hown : s.vm.findClass R_Wi = some m.cls := findClass_of_methodNamed B.named
  have hlocks := B.notSynchronized
  subst hsz
  have hA : ∀ q : Nat, s.heap.size ≤ q → (va_A ([]) s.heap.size) q := fun _ h => Or.inr h
  have hDt : ∀ τ, va_D (fun _ => True) (wl_Wi a k τ) := fun τ => kd_cg hD0 rfl
  have hS : va_S (va_A ([]) s.heap.size) s.heap s.heap [] := va_S.rf
  have hl := lv_entry ([.ref (a 0), .int p1]) (n := 2) (Nat.le_of_ble_eq_true rfl)
  rw [lg_entry_eq]
  generalize (lg_sl ([.ref (a 0), .int p1]) ++ List.replicate (2 - (lg_sl ([.ref (a 0), .int p1])).length) Slot.unset).toArray = ls at hl ⊢
  have hl : lv_has ls 2 [(0, .ref (a 0)), (1, .int p1)] := hl
  unfold kf_Wi_fromOf at hk
  refine lv_aload_n hx hb d_Wi_fromOf_0 rfl (lv_at hl 0 rfl) ?_
  refine va_get (D := D) (ci := 4) (v := .ref (a 3)) (C := R_Wi) (T := F_Wi) (N := 6) hx hb hts i_uWi hown hK hP 0 rfl rfl 2 (by decide) (hts _ mw_130) (fun _ h9 => h9) rfl d_Wi_fromOf_1 ?_
  refine lv_iload_n hx hb d_Wi_fromOf_4 rfl (lv_at hl 1 rfl) ?_
  obtain ⟨h1, hk⟩ := gd_in hk
  refine va_iald hx hb hK hP 3 2 rfl rfl h1 d_Wi_fromOf_5 ?_
  exact kr_R hx hb hr rfl hlocks hS hk d_Wi_fromOf_6
set_option maxHeartbeats 4000000 in
set_option maxRecDepth 100000 in
theorem c_Wi_toOf (l : Launch) (D : va_G) (a : Nat → Nat) (k : Nat → ClassId) (sz : Nat) (σ : S_Wi) (p1 : Int32) (r0 : Int32) (hk : kf_Wi_toOf σ p1 = some r0) : Met l y_Wi_toOf w_Wi_toOf ({ frames := 0, cells := 0, slots := 0, locals := 0 }) (kp_P D cls (ty_Wi k) (wl_Wi a k σ) [.ref (a 0), .int p1] sz) (kp_R sz r0) 0 0 (va_A [] sz) := by
  refine Met.ofW (cc := b_Wi_toOf) (maxL := 2) (ret := (some .int)) (by decide) rfl ?_
  intro p e s m args below meth c s₁ B hml hv
  obtain ⟨rfl, hsz, hP, hK, hD0⟩ := hv
  have hx := B.exec
  have hb := B.bytes
  have hr := B.returns
  have hts : ∀ w ∈ lw_g, w.before _ s = true := fun w h => atoms_spec (ws := w_Wi_toOf) B.pre w (List.mem_cons_of_mem _ h)
  have hown : s.vm.findClass R_Wi = some m.cls := findClass_of_methodNamed B.named
  have hlocks := B.notSynchronized
  subst hsz
  have hA : ∀ q : Nat, s.heap.size ≤ q → (va_A ([]) s.heap.size) q := fun _ h => Or.inr h
  have hDt : ∀ τ, va_D (fun _ => True) (wl_Wi a k τ) := fun τ => kd_cg hD0 rfl
  have hS : va_S (va_A ([]) s.heap.size) s.heap s.heap [] := va_S.rf
  have hl := lv_entry ([.ref (a 0), .int p1]) (n := 2) (Nat.le_of_ble_eq_true rfl)
  rw [lg_entry_eq]
  generalize (lg_sl ([.ref (a 0), .int p1]) ++ List.replicate (2 - (lg_sl ([.ref (a 0), .int p1])).length) Slot.unset).toArray = ls at hl ⊢
  have hl : lv_has ls 2 [(0, .ref (a 0)), (1, .int p1)] := hl
  unfold kf_Wi_toOf at hk
  refine lv_aload_n hx hb d_Wi_toOf_0 rfl (lv_at hl 0 rfl) ?_
  refine va_get (D := D) (ci := 4) (v := .ref (a 4)) (C := R_Wi) (T := F_Wi) (N := 6) hx hb hts i_uWi hown hK hP 0 rfl rfl 3 (by decide) (hts _ mw_131) (fun _ h9 => h9) rfl d_Wi_toOf_1 ?_
  refine lv_iload_n hx hb d_Wi_toOf_4 rfl (lv_at hl 1 rfl) ?_
  obtain ⟨h1, hk⟩ := gd_in hk
  refine va_iald hx hb hK hP 4 3 rfl rfl h1 d_Wi_toOf_5 ?_
  exact kr_R hx hb hr rfl hlocks hS hk d_Wi_toOf_6
set_option maxHeartbeats 4000000 in
set_option maxRecDepth 100000 in
theorem c_Wi_countOf (l : Launch) (D : va_G) (a : Nat → Nat) (k : Nat → ClassId) (sz : Nat) (σ : S_Wi) (p1 : Int32) (r0 : Int32) (hk : kf_Wi_countOf σ p1 = some r0) : Met l y_Wi_countOf w_Wi_countOf ({ frames := 0, cells := 0, slots := 0, locals := 0 }) (kp_P D cls (ty_Wi k) (wl_Wi a k σ) [.ref (a 0), .int p1] sz) (kp_R sz r0) 0 0 (va_A [] sz) := by
  refine Met.ofW (cc := b_Wi_countOf) (maxL := 4) (ret := (some .int)) (by decide) rfl ?_
  intro p e s m args below meth c s₁ B hml hv
  obtain ⟨rfl, hsz, hP, hK, hD0⟩ := hv
  have hx := B.exec
  have hb := B.bytes
  have hr := B.returns
  have hts : ∀ w ∈ lw_g, w.before _ s = true := fun w h => atoms_spec (ws := w_Wi_countOf) B.pre w (List.mem_cons_of_mem _ h)
  have hown : s.vm.findClass R_Wi = some m.cls := findClass_of_methodNamed B.named
  have hlocks := B.notSynchronized
  subst hsz
  have hA : ∀ q : Nat, s.heap.size ≤ q → (va_A ([]) s.heap.size) q := fun _ h => Or.inr h
  have hDt : ∀ τ, va_D (fun _ => True) (wl_Wi a k τ) := fun τ => kd_cg hD0 rfl
  have hS : va_S (va_A ([]) s.heap.size) s.heap s.heap [] := va_S.rf
  have hl := lv_entry ([.ref (a 0), .int p1]) (n := 4) (Nat.le_of_ble_eq_true rfl)
  rw [lg_entry_eq]
  generalize (lg_sl ([.ref (a 0), .int p1]) ++ List.replicate (4 - (lg_sl ([.ref (a 0), .int p1])).length) Slot.unset).toArray = ls at hl ⊢
  have hl : lv_has ls 4 [(0, .ref (a 0)), (1, .int p1)] := hl
  unfold kf_Wi_countOf at hk
  have L4 : ∀ (n4 : Nat) (x2 : Int32) (x3 : Int32) (H : Heap) (locs : List Loc) (ls : Array Slot), va_P D cls (wl_Wi a k σ) H → va_S (va_A ([]) s.heap.size) s.heap H locs → lv_has ls 4 [(0, .ref (a 0)), (1, .int p1), (2, .int x2), (3, .int x3)] → kf_Wi_countOf_4 σ p1 n4 x2 x3 = some r0 → W p l e (headSpec w_Wi_countOf ({ frames := 0, cells := 0, slots := 0, locals := 0 })).room s m [.ref (a 0), .int p1].toArray below meth c H locs 0 0 (MQ below (kp_R s.heap.size r0) [.ref (a 0), .int p1].toArray s 0 0 (va_A [] s.heap.size)) (F0 m 4 ls []) := by
    intro n4
    induction n4 with
    | zero =>
      intro x2 x3 H locs ls hP hS hl hk
      exact nomatch hk
    | succ n4 ih4 =>
      intro x2 x3 H locs ls hP hS hl hk
      rw [kf_Wi_countOf_4_s] at hk
      refine lv_iload_n hx hb d_Wi_countOf_4 rfl (lv_at hl 3 rfl) ?_
      refine lv_aload_n hx hb d_Wi_countOf_5 rfl (lv_at hl 0 rfl) ?_
      refine va_get (D := D) (ci := 4) (v := .int σ.2.2.2.2.2) (C := R_Wi) (T := F_Wi) (N := 6) hx hb hts i_uWi hown hK hP 0 rfl rfl 5 (by decide) (hts _ mw_133) (fun _ h9 => h9) rfl d_Wi_countOf_6 ?_
      refine lv_icmp_ge (tgt := 31) hx hb d_Wi_countOf_9 (by decide) (fun c1 => ?_) (fun c1 => ?_)
      · have hk := br_p c1 hk
        refine lv_iload_n hx hb d_Wi_countOf_31 rfl (lv_at hl 2 rfl) ?_
        exact kr_R hx hb hr rfl hlocks hS hk d_Wi_countOf_32
      · have hk := br_n c1 hk
        refine lv_aload_n hx hb d_Wi_countOf_12 rfl (lv_at hl 0 rfl) ?_
        refine va_get (D := D) (ci := 4) (v := .ref (a 1)) (C := R_Wi) (T := F_Wi) (N := 6) hx hb hts i_uWi hown hK hP 0 rfl rfl 0 (by decide) (hts _ mw_128) (fun _ h9 => h9) rfl d_Wi_countOf_13 ?_
        refine lv_iload_n hx hb d_Wi_countOf_16 rfl (lv_at hl 3 rfl) ?_
        obtain ⟨h2, hk⟩ := gd_in hk
        refine va_iald hx hb hK hP 1 0 rfl rfl h2 d_Wi_countOf_17 ?_
        refine lv_iload_n hx hb d_Wi_countOf_18 rfl (lv_at hl 1 rfl) ?_
        refine lv_icmp_ne (tgt := 25) hx hb d_Wi_countOf_19 (by decide) (fun c3 => ?_) (fun c3 => ?_)
        · have hk := br_n c3 hk
          refine lv_iinc (v := (x3 + 1)) (lv' := [(3, .int (x3 + 1)), (0, .ref (a 0)), (1, .int p1), (2, .int x2)]) hx hb d_Wi_countOf_25 hl (k := 3) rfl rfl (by decide) rfl (fun ls hl => ?_)
          refine lv_goto (tgt := 4) hx hb d_Wi_countOf_28 (by decide) ?_
          exact ih4 x2 (x3 + 1) _ _ _ hP hS (lv_sub hl [1, 2, 3, 0] rfl) hk
        · have hk := br_p c3 hk
          refine lv_iinc (v := (x2 + 1)) (lv' := [(2, .int (x2 + 1)), (0, .ref (a 0)), (1, .int p1), (3, .int x3)]) hx hb d_Wi_countOf_22 hl (k := 2) rfl rfl (by decide) rfl (fun ls hl => ?_)
          refine lv_iinc (v := (x3 + 1)) (lv' := [(3, .int (x3 + 1)), (2, .int (x2 + 1)), (0, .ref (a 0)), (1, .int p1)]) hx hb d_Wi_countOf_25 hl (k := 3) rfl rfl (by decide) rfl (fun ls hl => ?_)
          refine lv_goto (tgt := 4) hx hb d_Wi_countOf_28 (by decide) ?_
          exact ih4 (x2 + 1) (x3 + 1) _ _ _ hP hS (lv_sub hl [2, 3, 1, 0] rfl) hk
  refine lv_iconst (v := 0) hx hb d_Wi_countOf_0 (by decide) ?_
  refine lv_istore_n (lv' := [(2, .int 0), (0, .ref (a 0)), (1, .int p1)]) hx hb d_Wi_countOf_1 rfl hl (by decide) rfl (fun ls hl => ?_)
  refine lv_iconst (v := 0) hx hb d_Wi_countOf_2 (by decide) ?_
  refine lv_istore_n (lv' := [(3, .int 0), (2, .int 0), (0, .ref (a 0)), (1, .int p1)]) hx hb d_Wi_countOf_3 rfl hl (by decide) rfl (fun ls hl => ?_)
  exact L4 FU 0 0 _ _ _ hP hS (lv_sub hl [2, 3, 1, 0] rfl) hk
set_option maxHeartbeats 4000000 in
set_option maxRecDepth 100000 in
theorem c_Wi_move (l : Launch) (D : va_G) (a : Nat → Nat) (k : Nat → ClassId) (sz : Nat) (σ : S_Wi) (p1 p2 : Int32) (r0 : S_Wi) (hk : kf_Wi_move σ p1 p2 = some r0) : Met l y_Wi_move w_Wi_move ({ frames := 0, cells := 0, slots := 0, locals := 0 }) (kp_P D cls (ty_Wi k) (wl_Wi a k σ) [.ref (a 0), .int p1, .int p2] sz) (kp_Mv D cls (wl_Wi a k r0) (wl_Wi a k σ) sz) 0 0 (va_A (wl_Wi a k σ) sz) := by
  refine Met.ofW (cc := b_Wi_move) (maxL := 3) (ret := none) (by decide) rfl ?_
  intro p e s m args below meth c s₁ B hml hv
  obtain ⟨rfl, hsz, hP, hK, hD0⟩ := hv
  have hx := B.exec
  have hb := B.bytes
  have hr := B.returns
  have hts : ∀ w ∈ lw_g, w.before _ s = true := fun w h => atoms_spec (ws := w_Wi_move) B.pre w (List.mem_cons_of_mem _ h)
  have hown : s.vm.findClass R_Wi = some m.cls := findClass_of_methodNamed B.named
  have hlocks := B.notSynchronized
  subst hsz
  have hA : ∀ q : Nat, s.heap.size ≤ q → (va_A (wl_Wi a k σ) s.heap.size) q := fun _ h => Or.inr h
  have hDt : ∀ τ, va_D (fun _ => True) (wl_Wi a k τ) := fun τ => kd_cg hD0 rfl
  have hDw : ∀ τ, va_D (va_A (wl_Wi a k σ) s.heap.size) (wl_Wi a k τ) := fun τ => kd_cg hD0.self rfl
  have hS : va_S (va_A (wl_Wi a k σ) s.heap.size) s.heap s.heap [] := va_S.rf
  have hl := lv_entry ([.ref (a 0), .int p1, .int p2]) (n := 3) (Nat.le_of_ble_eq_true rfl)
  rw [lg_entry_eq]
  generalize (lg_sl ([.ref (a 0), .int p1, .int p2]) ++ List.replicate (3 - (lg_sl ([.ref (a 0), .int p1, .int p2])).length) Slot.unset).toArray = ls at hl ⊢
  have hl : lv_has ls 3 [(0, .ref (a 0)), (1, .int p1), (2, .int p2)] := hl
  unfold kf_Wi_move at hk
  refine lv_aload_n hx hb d_Wi_move_0 rfl (lv_at hl 0 rfl) ?_
  refine va_get (D := D) (ci := 4) (v := .ref (a 1)) (C := R_Wi) (T := F_Wi) (N := 6) hx hb hts i_uWi hown hK hP 0 rfl rfl 0 (by decide) (hts _ mw_128) (fun _ h9 => h9) rfl d_Wi_move_1 ?_
  refine lv_iload_n hx hb d_Wi_move_4 rfl (lv_at hl 2 rfl) ?_
  refine lv_aload_n hx hb d_Wi_move_5 rfl (lv_at hl 0 rfl) ?_
  refine va_get (D := D) (ci := 4) (v := .ref (a 1)) (C := R_Wi) (T := F_Wi) (N := 6) hx hb hts i_uWi hown hK hP 0 rfl rfl 0 (by decide) (hts _ mw_128) (fun _ h9 => h9) rfl d_Wi_move_6 ?_
  refine lv_iload_n hx hb d_Wi_move_9 rfl (lv_at hl 1 rfl) ?_
  obtain ⟨h1, hk⟩ := gd_in hk
  refine va_iald hx hb hK hP 1 0 rfl rfl h1 d_Wi_move_10 ?_
  obtain ⟨h2, hk⟩ := gd_in hk
  refine va_iast hx hb hK hP (hDw _) hS 1 0 rfl rfl h2 d_Wi_move_11 (fun H locs hP _ hS => ?_)
  have hP : va_P D cls (wl_Wi a k ((upd σ.1 p2.toNatClampNeg (σ.1 p1.toNatClampNeg)), σ.2.1, σ.2.2.1, σ.2.2.2.1, σ.2.2.2.2.1, σ.2.2.2.2.2)) H := hP
  refine lv_aload_n hx hb d_Wi_move_12 rfl (lv_at hl 0 rfl) ?_
  refine va_get (D := D) (ci := 4) (v := .ref (a 2)) (C := R_Wi) (T := F_Wi) (N := 6) hx hb hts i_uWi hown hK hP 0 rfl rfl 1 (by decide) (hts _ mw_129) (fun _ h9 => h9) rfl d_Wi_move_13 ?_
  refine lv_iload_n hx hb d_Wi_move_16 rfl (lv_at hl 2 rfl) ?_
  refine lv_aload_n hx hb d_Wi_move_17 rfl (lv_at hl 0 rfl) ?_
  refine va_get (D := D) (ci := 4) (v := .ref (a 2)) (C := R_Wi) (T := F_Wi) (N := 6) hx hb hts i_uWi hown hK hP 0 rfl rfl 1 (by decide) (hts _ mw_129) (fun _ h9 => h9) rfl d_Wi_move_18 ?_
  refine lv_iload_n hx hb d_Wi_move_21 rfl (lv_at hl 1 rfl) ?_
  refine va_iald hx hb hK hP 2 1 rfl rfl h1 d_Wi_move_22 ?_
  refine va_iast hx hb hK hP (hDw _) hS 2 1 rfl rfl h2 d_Wi_move_23 (fun H locs hP _ hS => ?_)
  have hP : va_P D cls (wl_Wi a k ((upd σ.1 p2.toNatClampNeg (σ.1 p1.toNatClampNeg)), (upd σ.2.1 p2.toNatClampNeg (σ.2.1 p1.toNatClampNeg)), σ.2.2.1, σ.2.2.2.1, σ.2.2.2.2.1, σ.2.2.2.2.2)) H := hP
  refine lv_aload_n hx hb d_Wi_move_24 rfl (lv_at hl 0 rfl) ?_
  refine va_get (D := D) (ci := 4) (v := .ref (a 3)) (C := R_Wi) (T := F_Wi) (N := 6) hx hb hts i_uWi hown hK hP 0 rfl rfl 2 (by decide) (hts _ mw_130) (fun _ h9 => h9) rfl d_Wi_move_25 ?_
  refine lv_iload_n hx hb d_Wi_move_28 rfl (lv_at hl 2 rfl) ?_
  refine lv_aload_n hx hb d_Wi_move_29 rfl (lv_at hl 0 rfl) ?_
  refine va_get (D := D) (ci := 4) (v := .ref (a 3)) (C := R_Wi) (T := F_Wi) (N := 6) hx hb hts i_uWi hown hK hP 0 rfl rfl 2 (by decide) (hts _ mw_130) (fun _ h9 => h9) rfl d_Wi_move_30 ?_
  refine lv_iload_n hx hb d_Wi_move_33 rfl (lv_at hl 1 rfl) ?_
  refine va_iald hx hb hK hP 3 2 rfl rfl h1 d_Wi_move_34 ?_
  refine va_iast hx hb hK hP (hDw _) hS 3 2 rfl rfl h2 d_Wi_move_35 (fun H locs hP _ hS => ?_)
  have hP : va_P D cls (wl_Wi a k ((upd σ.1 p2.toNatClampNeg (σ.1 p1.toNatClampNeg)), (upd σ.2.1 p2.toNatClampNeg (σ.2.1 p1.toNatClampNeg)), (upd σ.2.2.1 p2.toNatClampNeg (σ.2.2.1 p1.toNatClampNeg)), σ.2.2.2.1, σ.2.2.2.2.1, σ.2.2.2.2.2)) H := hP
  refine lv_aload_n hx hb d_Wi_move_36 rfl (lv_at hl 0 rfl) ?_
  refine va_get (D := D) (ci := 4) (v := .ref (a 4)) (C := R_Wi) (T := F_Wi) (N := 6) hx hb hts i_uWi hown hK hP 0 rfl rfl 3 (by decide) (hts _ mw_131) (fun _ h9 => h9) rfl d_Wi_move_37 ?_
  refine lv_iload_n hx hb d_Wi_move_40 rfl (lv_at hl 2 rfl) ?_
  refine lv_aload_n hx hb d_Wi_move_41 rfl (lv_at hl 0 rfl) ?_
  refine va_get (D := D) (ci := 4) (v := .ref (a 4)) (C := R_Wi) (T := F_Wi) (N := 6) hx hb hts i_uWi hown hK hP 0 rfl rfl 3 (by decide) (hts _ mw_131) (fun _ h9 => h9) rfl d_Wi_move_42 ?_
  refine lv_iload_n hx hb d_Wi_move_45 rfl (lv_at hl 1 rfl) ?_
  refine va_iald hx hb hK hP 4 3 rfl rfl h1 d_Wi_move_46 ?_
  refine va_iast hx hb hK hP (hDw _) hS 4 3 rfl rfl h2 d_Wi_move_47 (fun H locs hP _ hS => ?_)
  have hP : va_P D cls (wl_Wi a k ((upd σ.1 p2.toNatClampNeg (σ.1 p1.toNatClampNeg)), (upd σ.2.1 p2.toNatClampNeg (σ.2.1 p1.toNatClampNeg)), (upd σ.2.2.1 p2.toNatClampNeg (σ.2.2.1 p1.toNatClampNeg)), (upd σ.2.2.2.1 p2.toNatClampNeg (σ.2.2.2.1 p1.toNatClampNeg)), σ.2.2.2.2.1, σ.2.2.2.2.2)) H := hP
  refine lv_aload_n hx hb d_Wi_move_48 rfl (lv_at hl 0 rfl) ?_
  refine va_get (D := D) (ci := 4) (v := .ref (a 5)) (C := R_Wi) (T := F_Wi) (N := 6) hx hb hts i_uWi hown hK hP 0 rfl rfl 4 (by decide) (hts _ mw_132) (fun _ h9 => h9) rfl d_Wi_move_49 ?_
  refine lv_iload_n hx hb d_Wi_move_52 rfl (lv_at hl 2 rfl) ?_
  refine lv_aload_n hx hb d_Wi_move_53 rfl (lv_at hl 0 rfl) ?_
  refine va_get (D := D) (ci := 4) (v := .ref (a 5)) (C := R_Wi) (T := F_Wi) (N := 6) hx hb hts i_uWi hown hK hP 0 rfl rfl 4 (by decide) (hts _ mw_132) (fun _ h9 => h9) rfl d_Wi_move_54 ?_
  refine lv_iload_n hx hb d_Wi_move_57 rfl (lv_at hl 1 rfl) ?_
  refine va_iald hx hb hK hP 5 4 rfl rfl h1 d_Wi_move_58 ?_
  refine va_iast hx hb hK hP (hDw _) hS 5 4 rfl rfl h2 d_Wi_move_59 (fun H locs hP _ hS => ?_)
  have hP : va_P D cls (wl_Wi a k ((upd σ.1 p2.toNatClampNeg (σ.1 p1.toNatClampNeg)), (upd σ.2.1 p2.toNatClampNeg (σ.2.1 p1.toNatClampNeg)), (upd σ.2.2.1 p2.toNatClampNeg (σ.2.2.1 p1.toNatClampNeg)), (upd σ.2.2.2.1 p2.toNatClampNeg (σ.2.2.2.1 p1.toNatClampNeg)), (upd σ.2.2.2.2.1 p2.toNatClampNeg (σ.2.2.2.2.1 p1.toNatClampNeg)), σ.2.2.2.2.2)) H := hP
  exact kr_Mv (w := wl_Wi a k) hx hb hr hlocks hS hP hk d_Wi_move_60
set_option maxHeartbeats 4000000 in
set_option maxRecDepth 100000 in
theorem c_Wi_add (l : Launch) (D : va_G) (a : Nat → Nat) (k : Nat → ClassId) (sz : Nat) (σ : S_Wi) (p1 p2 p3 p4 p5 : Int32) (r0 : Int32 × S_Wi) (hk : kf_Wi_add σ p1 p2 p3 p4 p5 = some r0) : Met l y_Wi_add w_Wi_add ({ frames := 1, cells := 0, slots := 0, locals := 22 }) (kp_P D cls (ty_Wi k) (wl_Wi a k σ) [.ref (a 0), .int p1, .int p2, .int p3, .int p4, .int p5] sz) (kp_M D cls (wl_Wi a k r0.2) (wl_Wi a k σ) sz r0.1) 0 0 (va_A (wl_Wi a k σ) sz) := by
  refine Met.ofW (cc := b_Wi_add) (maxL := 7) (ret := (some .int)) (by decide) rfl ?_
  intro p e s m args below meth c s₁ B hml hv
  obtain ⟨rfl, hsz, hP, hK, hD0⟩ := hv
  have hx := B.exec
  have hb := B.bytes
  have hr := B.returns
  have hts : ∀ w ∈ lw_g, w.before _ s = true := fun w h => atoms_spec (ws := w_Wi_add) B.pre w (List.mem_cons_of_mem _ h)
  have hown : s.vm.findClass R_Wi = some m.cls := findClass_of_methodNamed B.named
  have hlocks := B.notSynchronized
  subst hsz
  have hA : ∀ q : Nat, s.heap.size ≤ q → (va_A (wl_Wi a k σ) s.heap.size) q := fun _ h => Or.inr h
  have hDt : ∀ τ, va_D (fun _ => True) (wl_Wi a k τ) := fun τ => kd_cg hD0 rfl
  have hDw : ∀ τ, va_D (va_A (wl_Wi a k σ) s.heap.size) (wl_Wi a k τ) := fun τ => kd_cg hD0.self rfl
  have hS : va_S (va_A (wl_Wi a k σ) s.heap.size) s.heap s.heap [] := va_S.rf
  have hl := lv_entry ([.ref (a 0), .int p1, .int p2, .int p3, .int p4, .int p5]) (n := 7) (Nat.le_of_ble_eq_true rfl)
  rw [lg_entry_eq]
  generalize (lg_sl ([.ref (a 0), .int p1, .int p2, .int p3, .int p4, .int p5]) ++ List.replicate (7 - (lg_sl ([.ref (a 0), .int p1, .int p2, .int p3, .int p4, .int p5])).length) Slot.unset).toArray = ls at hl ⊢
  have hl : lv_has ls 7 [(0, .ref (a 0)), (1, .int p1), (2, .int p2), (3, .int p3), (4, .int p4), (5, .int p5)] := hl
  unfold kf_Wi_add at hk
  have J41 : ∀ (x6 : Int32) (τ : S_Wi) (H : Heap) (locs : List Loc) (ls : Array Slot), va_P D cls (wl_Wi a k τ) H → va_S (va_A (wl_Wi a k σ) s.heap.size) s.heap H locs → lv_has ls 7 [(0, .ref (a 0)), (1, .int p1), (2, .int p2), (3, .int p3), (4, .int p4), (5, .int p5), (6, .int x6)] → kf_Wi_add_41 p1 p2 p3 p4 p5 x6 τ = some r0 → W p l e (headSpec w_Wi_add ({ frames := 1, cells := 0, slots := 0, locals := 22 })).room s m [.ref (a 0), .int p1, .int p2, .int p3, .int p4, .int p5].toArray below meth c H locs 0 0 (MQ below (kp_M D cls (wl_Wi a k r0.2) (wl_Wi a k σ) s.heap.size r0.1) [.ref (a 0), .int p1, .int p2, .int p3, .int p4, .int p5].toArray s 0 0 (va_A (wl_Wi a k σ) s.heap.size)) (F0 m 41 ls []) := by
    intro x6 τ H locs ls hP hS hl hk
    unfold kf_Wi_add_41 at hk
    refine lv_aload_n hx hb d_Wi_add_41 rfl (lv_at hl 0 rfl) ?_
    refine va_get (D := D) (ci := 4) (v := .ref (a 1)) (C := R_Wi) (T := F_Wi) (N := 6) hx hb hts i_uWi hown hK hP 0 rfl rfl 0 (by decide) (hts _ mw_128) (fun _ h9 => h9) rfl d_Wi_add_42 ?_
    refine lv_iload hx hb d_Wi_add_45 (lv_at hl 6 rfl) ?_
    refine lv_iload_n hx hb d_Wi_add_47 rfl (lv_at hl 1 rfl) ?_
    obtain ⟨h1, hk⟩ := gd_in hk
    refine va_iast hx hb hK hP (hDw _) hS 1 0 rfl rfl h1 d_Wi_add_48 (fun H locs hP _ hS => ?_)
    have hP : va_P D cls (wl_Wi a k ((upd τ.1 x6.toNatClampNeg p1), τ.2.1, τ.2.2.1, τ.2.2.2.1, τ.2.2.2.2.1, τ.2.2.2.2.2)) H := hP
    refine lv_aload_n hx hb d_Wi_add_49 rfl (lv_at hl 0 rfl) ?_
    refine va_get (D := D) (ci := 4) (v := .ref (a 2)) (C := R_Wi) (T := F_Wi) (N := 6) hx hb hts i_uWi hown hK hP 0 rfl rfl 1 (by decide) (hts _ mw_129) (fun _ h9 => h9) rfl d_Wi_add_50 ?_
    refine lv_iload hx hb d_Wi_add_53 (lv_at hl 6 rfl) ?_
    refine lv_iload_n hx hb d_Wi_add_55 rfl (lv_at hl 2 rfl) ?_
    refine va_iast hx hb hK hP (hDw _) hS 2 1 rfl rfl h1 d_Wi_add_56 (fun H locs hP _ hS => ?_)
    have hP : va_P D cls (wl_Wi a k ((upd τ.1 x6.toNatClampNeg p1), (upd τ.2.1 x6.toNatClampNeg p2), τ.2.2.1, τ.2.2.2.1, τ.2.2.2.2.1, τ.2.2.2.2.2)) H := hP
    refine lv_aload_n hx hb d_Wi_add_57 rfl (lv_at hl 0 rfl) ?_
    refine va_get (D := D) (ci := 4) (v := .ref (a 3)) (C := R_Wi) (T := F_Wi) (N := 6) hx hb hts i_uWi hown hK hP 0 rfl rfl 2 (by decide) (hts _ mw_130) (fun _ h9 => h9) rfl d_Wi_add_58 ?_
    refine lv_iload hx hb d_Wi_add_61 (lv_at hl 6 rfl) ?_
    refine lv_iload_n hx hb d_Wi_add_63 rfl (lv_at hl 3 rfl) ?_
    refine va_iast hx hb hK hP (hDw _) hS 3 2 rfl rfl h1 d_Wi_add_64 (fun H locs hP _ hS => ?_)
    have hP : va_P D cls (wl_Wi a k ((upd τ.1 x6.toNatClampNeg p1), (upd τ.2.1 x6.toNatClampNeg p2), (upd τ.2.2.1 x6.toNatClampNeg p3), τ.2.2.2.1, τ.2.2.2.2.1, τ.2.2.2.2.2)) H := hP
    refine lv_aload_n hx hb d_Wi_add_65 rfl (lv_at hl 0 rfl) ?_
    refine va_get (D := D) (ci := 4) (v := .ref (a 4)) (C := R_Wi) (T := F_Wi) (N := 6) hx hb hts i_uWi hown hK hP 0 rfl rfl 3 (by decide) (hts _ mw_131) (fun _ h9 => h9) rfl d_Wi_add_66 ?_
    refine lv_iload hx hb d_Wi_add_69 (lv_at hl 6 rfl) ?_
    refine lv_iload hx hb d_Wi_add_71 (lv_at hl 4 rfl) ?_
    refine va_iast hx hb hK hP (hDw _) hS 4 3 rfl rfl h1 d_Wi_add_73 (fun H locs hP _ hS => ?_)
    have hP : va_P D cls (wl_Wi a k ((upd τ.1 x6.toNatClampNeg p1), (upd τ.2.1 x6.toNatClampNeg p2), (upd τ.2.2.1 x6.toNatClampNeg p3), (upd τ.2.2.2.1 x6.toNatClampNeg p4), τ.2.2.2.2.1, τ.2.2.2.2.2)) H := hP
    refine lv_aload_n hx hb d_Wi_add_74 rfl (lv_at hl 0 rfl) ?_
    refine va_get (D := D) (ci := 4) (v := .ref (a 5)) (C := R_Wi) (T := F_Wi) (N := 6) hx hb hts i_uWi hown hK hP 0 rfl rfl 4 (by decide) (hts _ mw_132) (fun _ h9 => h9) rfl d_Wi_add_75 ?_
    refine lv_iload hx hb d_Wi_add_78 (lv_at hl 6 rfl) ?_
    refine lv_iload hx hb d_Wi_add_80 (lv_at hl 5 rfl) ?_
    refine va_iast hx hb hK hP (hDw _) hS 5 4 rfl rfl h1 d_Wi_add_82 (fun H locs hP _ hS => ?_)
    have hP : va_P D cls (wl_Wi a k ((upd τ.1 x6.toNatClampNeg p1), (upd τ.2.1 x6.toNatClampNeg p2), (upd τ.2.2.1 x6.toNatClampNeg p3), (upd τ.2.2.2.1 x6.toNatClampNeg p4), (upd τ.2.2.2.2.1 x6.toNatClampNeg p5), τ.2.2.2.2.2)) H := hP
    refine lv_aload_n hx hb d_Wi_add_83 rfl (lv_at hl 0 rfl) ?_
    refine lv_dup hx hb d_Wi_add_84 rfl ?_
    refine va_get (D := D) (ci := 4) (v := .int τ.2.2.2.2.2) (C := R_Wi) (T := F_Wi) (N := 6) hx hb hts i_uWi hown hK hP 0 rfl rfl 5 (by decide) (hts _ mw_133) (fun _ h9 => h9) rfl d_Wi_add_85 ?_
    refine lv_iconst (v := 1) hx hb d_Wi_add_88 (by decide) ?_
    refine lv_iadd hx hb d_Wi_add_89 ?_
    refine va_put (D := D) (ci := 4) (v := .int (τ.2.2.2.2.2 + 1)) (ty := .int) (C := R_Wi) (T := F_Wi) (N := 6) hx hb hts i_uWi t_Wi t_Wi_ok n_Wi hown hK hP (hDw _) hS 0 rfl rfl 5 (by decide) (hts _ mw_133) (fun _ h9 => h9) rfl (t_Wi_ok 5 (by decide)) rfl rfl (Nat.le_of_ble_eq_true rfl) d_Wi_add_90 (fun H locs hP _ hS => ?_)
    have hP : va_P D cls (wl_Wi a k ((upd τ.1 x6.toNatClampNeg p1), (upd τ.2.1 x6.toNatClampNeg p2), (upd τ.2.2.1 x6.toNatClampNeg p3), (upd τ.2.2.2.1 x6.toNatClampNeg p4), (upd τ.2.2.2.2.1 x6.toNatClampNeg p5), (τ.2.2.2.2.2 + 1))) H := hP
    refine lv_aload_n hx hb d_Wi_add_93 rfl (lv_at hl 0 rfl) ?_
    refine va_get (D := D) (ci := 4) (v := .int (τ.2.2.2.2.2 + 1)) (C := R_Wi) (T := F_Wi) (N := 6) hx hb hts i_uWi hown hK hP 0 rfl rfl 5 (by decide) (hts _ mw_133) (fun _ h9 => h9) rfl d_Wi_add_94 ?_
    exact kr_M (w := wl_Wi a k) hx hb hr rfl hlocks hS hP hk d_Wi_add_97
  have L6 : ∀ (n6 : Nat) (x6 : Int32) (τ : S_Wi) (H : Heap) (locs : List Loc) (ls : Array Slot), va_P D cls (wl_Wi a k τ) H → va_S (va_A (wl_Wi a k σ) s.heap.size) s.heap H locs → lv_has ls 7 [(0, .ref (a 0)), (1, .int p1), (2, .int p2), (3, .int p3), (4, .int p4), (5, .int p5), (6, .int x6)] → kf_Wi_add_6 p1 p2 p3 p4 p5 n6 x6 τ = some r0 → W p l e (headSpec w_Wi_add ({ frames := 1, cells := 0, slots := 0, locals := 22 })).room s m [.ref (a 0), .int p1, .int p2, .int p3, .int p4, .int p5].toArray below meth c H locs 0 0 (MQ below (kp_M D cls (wl_Wi a k r0.2) (wl_Wi a k σ) s.heap.size r0.1) [.ref (a 0), .int p1, .int p2, .int p3, .int p4, .int p5].toArray s 0 0 (va_A (wl_Wi a k σ) s.heap.size)) (F0 m 6 ls []) := by
    intro n6
    induction n6 with
    | zero =>
      intro x6 τ H locs ls hP hS hl hk
      exact nomatch hk
    | succ n6 ih6 =>
      intro x6 τ H locs ls hP hS hl hk
      rw [kf_Wi_add_6_s] at hk
      refine lv_iload hx hb d_Wi_add_6 (lv_at hl 6 rfl) ?_
      refine lv_if_le (tgt := 41) hx hb d_Wi_add_8 (by decide) (fun c2 => ?_) (fun c2 => ?_)
      · have hk := br_p c2 hk
        exact J41 x6 τ _ _ _ hP hS (lv_sub hl [0, 1, 2, 3, 4, 5, 6] rfl) hk
      · have hk := br_n c2 hk
        refine lv_aload_n hx hb d_Wi_add_11 rfl (lv_at hl 0 rfl) ?_
        refine va_get (D := D) (ci := 4) (v := .ref (a 5)) (C := R_Wi) (T := F_Wi) (N := 6) hx hb hts i_uWi hown hK hP 0 rfl rfl 4 (by decide) (hts _ mw_132) (fun _ h9 => h9) rfl d_Wi_add_12 ?_
        refine lv_iload hx hb d_Wi_add_15 (lv_at hl 6 rfl) ?_
        refine lv_iconst (v := 1) hx hb d_Wi_add_17 (by decide) ?_
        refine lv_isub hx hb d_Wi_add_18 ?_
        obtain ⟨h3, hk⟩ := gd_in hk
        refine va_iald hx hb hK hP 5 4 rfl rfl h3 d_Wi_add_19 ?_
        refine lv_iload hx hb d_Wi_add_20 (lv_at hl 5 rfl) ?_
        refine lv_icmp_le (tgt := 41) hx hb d_Wi_add_22 (by decide) (fun c4 => ?_) (fun c4 => ?_)
        · have hk := br_p c4 hk
          exact J41 x6 τ _ _ _ hP hS (lv_sub hl [0, 1, 2, 3, 4, 5, 6] rfl) hk
        · have hk := br_n c4 hk
          refine lv_aload_n hx hb d_Wi_add_25 rfl (lv_at hl 0 rfl) ?_
          refine lv_iload hx hb d_Wi_add_26 (lv_at hl 6 rfl) ?_
          refine lv_iconst (v := 1) hx hb d_Wi_add_28 (by decide) ?_
          refine lv_isub hx hb d_Wi_add_29 ?_
          refine lv_iload hx hb d_Wi_add_30 (lv_at hl 6 rfl) ?_
          obtain ⟨q5, e5, hk⟩ := ob_s hk
          refine kc_Mv (wF := wl_Wi a k q5) (va_runV (As := [.int (x6 - 1), .int x6]) (rest := []) ⟨hx, hb, hml, hown, hts⟩ (c_Wi_move l D a k _ τ (x6 - 1) x6 q5 e5) (cwV 2 hts (gV mw_371 mw_373 mw_5 mw_31 mw_374) rfl rfl rfl hd_Wi_move ⟨Nat.le_of_ble_eq_true rfl, Nat.le_of_ble_eq_true rfl⟩) (kp_V (ci := 4) (q := (R_Wi, F_Wi, 6)) (q0 := 0) hK hP (hDt _) rfl rfl) rfl rfl hl.1 rfl (lv_room (Nat.le_of_ble_eq_true rfl)) d_Wi_add_32 ⟨Nat.zero_le _, Nat.zero_le _⟩) hS (hDw _) hA (fun _ _ h _ => h) (fun H locs hP hS => ?_)
          refine lv_iinc (v := (x6 + (-1))) (lv' := [(6, .int (x6 + (-1))), (0, .ref (a 0)), (1, .int p1), (2, .int p2), (3, .int p3), (4, .int p4), (5, .int p5)]) hx hb d_Wi_add_35 hl (k := 6) rfl rfl (by decide) rfl (fun ls hl => ?_)
          refine lv_goto (tgt := 6) hx hb d_Wi_add_38 (by decide) ?_
          exact ih6 (x6 + (-1)) q5 _ _ _ hP hS (lv_sub hl [1, 2, 3, 4, 5, 6, 0] rfl) hk
  refine lv_aload_n hx hb d_Wi_add_0 rfl (lv_at hl 0 rfl) ?_
  refine va_get (D := D) (ci := 4) (v := .int σ.2.2.2.2.2) (C := R_Wi) (T := F_Wi) (N := 6) hx hb hts i_uWi hown hK hP 0 rfl rfl 5 (by decide) (hts _ mw_133) (fun _ h9 => h9) rfl d_Wi_add_1 ?_
  refine lv_istore (lv' := [(6, .int σ.2.2.2.2.2), (0, .ref (a 0)), (1, .int p1), (2, .int p2), (3, .int p3), (4, .int p4), (5, .int p5)]) hx hb d_Wi_add_4 hl (by decide) rfl (fun ls hl => ?_)
  exact L6 FU σ.2.2.2.2.2 σ _ _ _ hP hS (lv_sub hl [1, 2, 3, 4, 5, 6, 0] rfl) hk
set_option maxHeartbeats 4000000 in
set_option maxRecDepth 100000 in
theorem c_Wi_removeAt (l : Launch) (D : va_G) (a : Nat → Nat) (k : Nat → ClassId) (sz : Nat) (σ : S_Wi) (p1 : Int32) (r0 : S_Wi) (hk : kf_Wi_removeAt σ p1 = some r0) : Met l y_Wi_removeAt w_Wi_removeAt ({ frames := 1, cells := 0, slots := 0, locals := 22 }) (kp_P D cls (ty_Wi k) (wl_Wi a k σ) [.ref (a 0), .int p1] sz) (kp_Mv D cls (wl_Wi a k r0) (wl_Wi a k σ) sz) 0 0 (va_A (wl_Wi a k σ) sz) := by
  refine Met.ofW (cc := b_Wi_removeAt) (maxL := 3) (ret := none) (by decide) rfl ?_
  intro p e s m args below meth c s₁ B hml hv
  obtain ⟨rfl, hsz, hP, hK, hD0⟩ := hv
  have hx := B.exec
  have hb := B.bytes
  have hr := B.returns
  have hts : ∀ w ∈ lw_g, w.before _ s = true := fun w h => atoms_spec (ws := w_Wi_removeAt) B.pre w (List.mem_cons_of_mem _ h)
  have hown : s.vm.findClass R_Wi = some m.cls := findClass_of_methodNamed B.named
  have hlocks := B.notSynchronized
  subst hsz
  have hA : ∀ q : Nat, s.heap.size ≤ q → (va_A (wl_Wi a k σ) s.heap.size) q := fun _ h => Or.inr h
  have hDt : ∀ τ, va_D (fun _ => True) (wl_Wi a k τ) := fun τ => kd_cg hD0 rfl
  have hDw : ∀ τ, va_D (va_A (wl_Wi a k σ) s.heap.size) (wl_Wi a k τ) := fun τ => kd_cg hD0.self rfl
  have hS : va_S (va_A (wl_Wi a k σ) s.heap.size) s.heap s.heap [] := va_S.rf
  have hl := lv_entry ([.ref (a 0), .int p1]) (n := 3) (Nat.le_of_ble_eq_true rfl)
  rw [lg_entry_eq]
  generalize (lg_sl ([.ref (a 0), .int p1]) ++ List.replicate (3 - (lg_sl ([.ref (a 0), .int p1])).length) Slot.unset).toArray = ls at hl ⊢
  have hl : lv_has ls 3 [(0, .ref (a 0)), (1, .int p1)] := hl
  unfold kf_Wi_removeAt at hk
  have L4 : ∀ (n4 : Nat) (x2 : Int32) (τ : S_Wi) (H : Heap) (locs : List Loc) (ls : Array Slot), va_P D cls (wl_Wi a k τ) H → va_S (va_A (wl_Wi a k σ) s.heap.size) s.heap H locs → lv_has ls 3 [(0, .ref (a 0)), (2, .int x2)] → kf_Wi_removeAt_4 p1 n4 x2 τ = some r0 → W p l e (headSpec w_Wi_removeAt ({ frames := 1, cells := 0, slots := 0, locals := 22 })).room s m [.ref (a 0), .int p1].toArray below meth c H locs 0 0 (MQ below (kp_Mv D cls (wl_Wi a k r0) (wl_Wi a k σ) s.heap.size) [.ref (a 0), .int p1].toArray s 0 0 (va_A (wl_Wi a k σ) s.heap.size)) (F0 m 4 ls []) := by
    intro n4
    induction n4 with
    | zero =>
      intro x2 τ H locs ls hP hS hl hk
      exact nomatch hk
    | succ n4 ih4 =>
      intro x2 τ H locs ls hP hS hl hk
      rw [kf_Wi_removeAt_4_s] at hk
      refine lv_iload_n hx hb d_Wi_removeAt_4 rfl (lv_at hl 1 rfl) ?_
      refine lv_aload_n hx hb d_Wi_removeAt_5 rfl (lv_at hl 0 rfl) ?_
      refine va_get (D := D) (ci := 4) (v := .int τ.2.2.2.2.2) (C := R_Wi) (T := F_Wi) (N := 6) hx hb hts i_uWi hown hK hP 0 rfl rfl 5 (by decide) (hts _ mw_133) (fun _ h9 => h9) rfl d_Wi_removeAt_6 ?_
      refine lv_icmp_ge (tgt := 26) hx hb d_Wi_removeAt_9 (by decide) (fun c1 => ?_) (fun c1 => ?_)
      · have hk := br_p c1 hk
        refine lv_aload_n hx hb d_Wi_removeAt_26 rfl (lv_at hl 0 rfl) ?_
        refine lv_dup hx hb d_Wi_removeAt_27 rfl ?_
        refine va_get (D := D) (ci := 4) (v := .int τ.2.2.2.2.2) (C := R_Wi) (T := F_Wi) (N := 6) hx hb hts i_uWi hown hK hP 0 rfl rfl 5 (by decide) (hts _ mw_133) (fun _ h9 => h9) rfl d_Wi_removeAt_28 ?_
        refine lv_iconst (v := 1) hx hb d_Wi_removeAt_31 (by decide) ?_
        refine lv_isub hx hb d_Wi_removeAt_32 ?_
        refine va_put (D := D) (ci := 4) (v := .int (τ.2.2.2.2.2 - 1)) (ty := .int) (C := R_Wi) (T := F_Wi) (N := 6) hx hb hts i_uWi t_Wi t_Wi_ok n_Wi hown hK hP (hDw _) hS 0 rfl rfl 5 (by decide) (hts _ mw_133) (fun _ h9 => h9) rfl (t_Wi_ok 5 (by decide)) rfl rfl (Nat.le_of_ble_eq_true rfl) d_Wi_removeAt_33 (fun H locs hP _ hS => ?_)
        have hP : va_P D cls (wl_Wi a k (τ.1, τ.2.1, τ.2.2.1, τ.2.2.2.1, τ.2.2.2.2.1, (τ.2.2.2.2.2 - 1))) H := hP
        exact kr_Mv (w := wl_Wi a k) hx hb hr hlocks hS hP hk d_Wi_removeAt_36
      · have hk := br_n c1 hk
        refine lv_aload_n hx hb d_Wi_removeAt_12 rfl (lv_at hl 0 rfl) ?_
        refine lv_iload_n hx hb d_Wi_removeAt_13 rfl (lv_at hl 1 rfl) ?_
        refine lv_iload_n hx hb d_Wi_removeAt_14 rfl (lv_at hl 1 rfl) ?_
        refine lv_iconst (v := 1) hx hb d_Wi_removeAt_15 (by decide) ?_
        refine lv_isub hx hb d_Wi_removeAt_16 ?_
        obtain ⟨q2, e2, hk⟩ := ob_s hk
        refine kc_Mv (wF := wl_Wi a k q2) (va_runV (As := [.int x2, .int (x2 - 1)]) (rest := []) ⟨hx, hb, hml, hown, hts⟩ (c_Wi_move l D a k _ τ x2 (x2 - 1) q2 e2) (cwV 2 hts (gV mw_371 mw_373 mw_5 mw_31 mw_374) rfl rfl rfl hd_Wi_move ⟨Nat.le_of_ble_eq_true rfl, Nat.le_of_ble_eq_true rfl⟩) (kp_V (ci := 4) (q := (R_Wi, F_Wi, 6)) (q0 := 0) hK hP (hDt _) rfl rfl) rfl rfl hl.1 rfl (lv_room (Nat.le_of_ble_eq_true rfl)) d_Wi_removeAt_17 ⟨Nat.zero_le _, Nat.zero_le _⟩) hS (hDw _) hA (fun _ _ h _ => h) (fun H locs hP hS => ?_)
        refine lv_iinc (v := (x2 + 1)) (lv' := [(2, .int (x2 + 1)), (0, .ref (a 0))]) hx hb d_Wi_removeAt_20 hl (k := 1) rfl rfl (by decide) rfl (fun ls hl => ?_)
        refine lv_goto (tgt := 4) hx hb d_Wi_removeAt_23 (by decide) ?_
        exact ih4 (x2 + 1) q2 _ _ _ hP hS (lv_sub hl [1, 0] rfl) hk
  refine lv_iload_n hx hb d_Wi_removeAt_0 rfl (lv_at hl 1 rfl) ?_
  refine lv_iconst (v := 1) hx hb d_Wi_removeAt_1 (by decide) ?_
  refine lv_iadd hx hb d_Wi_removeAt_2 ?_
  refine lv_istore_n (lv' := [(2, .int (p1 + 1)), (0, .ref (a 0)), (1, .int p1)]) hx hb d_Wi_removeAt_3 rfl hl (by decide) rfl (fun ls hl => ?_)
  exact L4 FU (p1 + 1) σ _ _ _ hP hS (lv_sub hl [1, 0] rfl) hk
