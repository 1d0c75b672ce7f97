set_option maxHeartbeats 4000000 in
set_option maxRecDepth 100000 in
theorem c_Mo_booking (l : Launch) (D : va_G) (a : Nat → Nat) (k : Nat → ClassId) (sz : Nat) (σ : S_Mo) (p1 p2 : Int32) (r0 : Int32 × S_Mo) (hk : kf_Mo_booking σ p1 p2 = some r0) : Met l y_Mo_booking w_Mo_booking ({ frames := 1, cells := 0, slots := 0, locals := 21 }) (kp_P D cls (ty_Mo k) (wl_Mo a k σ) [.ref (a 0), .int p1, .int p2] sz) (kp_M D cls (wl_Mo a k r0.2) (wl_Mo a k σ) sz r0.1) 0 0 (va_A (wl_Mo a k σ) sz) := by
  refine Met.ofW (cc := b_Mo_booking) (maxL := 3) (ret := (some .int)) (by decide) rfl ?_
  intro p e s m args below meth c s₁ B hml hv
  obtain ⟨rfl, hsz, hP, hK, hD0⟩ := hv
  have hx := B.exec
  have hb := B.bytes
  have hr := B.returns
  have hts : ∀ w ∈ lw_g, w.before _ s = true := fun w h => atoms_spec (ws := w_Mo_booking) B.pre w (List.mem_cons_of_mem _ h)
  have hown : s.vm.findClass R_Mo = some m.cls := findClass_of_methodNamed B.named
  have hlocks := B.notSynchronized
  subst hsz
  have hA : ∀ q : Nat, s.heap.size ≤ q → (va_A (wl_Mo a k σ) s.heap.size) q := fun _ h => Or.inr h
  have hDt : ∀ τ, va_D (fun _ => True) (wl_Mo a k τ) := fun τ => kd_cg hD0 rfl
  have hDw : ∀ τ, va_D (va_A (wl_Mo a k σ) s.heap.size) (wl_Mo a k τ) := fun τ => kd_cg hD0.self rfl
  have hS : va_S (va_A (wl_Mo a k σ) s.heap.size) s.heap s.heap [] := va_S.rf
  have hl := lv_entry ([.ref (a 0), .int p1, .int p2]) (n := 3) (Nat.le_of_ble_eq_true rfl)
  rw [lg_entry_eq]
  generalize (lg_sl ([.ref (a 0), .int p1, .int p2]) ++ List.replicate (3 - (lg_sl ([.ref (a 0), .int p1, .int p2])).length) Slot.unset).toArray = ls at hl ⊢
  have hl : lv_has ls 3 [(0, .ref (a 0)), (1, .int p1), (2, .int p2)] := hl
  unfold kf_Mo_booking at hk
  refine lv_aload_n hx hb d_Mo_booking_0 rfl (lv_at hl 0 rfl) ?_
  refine lv_iconst (v := 0) hx hb d_Mo_booking_1 (by decide) ?_
  refine va_put (D := D) (ci := 6) (v := .int 0) (ty := .int) (C := R_Mo) (T := F_Mo) (N := 15) hx hb hts i_uMo t_Mo t_Mo_ok n_Mo hown hK hP (hDw _) hS 0 rfl rfl 0 (by decide) (hts _ mw_498) (fun _ h9 => h9) rfl (t_Mo_ok 0 (by decide)) rfl rfl (Nat.le_of_ble_eq_true rfl) d_Mo_booking_2 (fun H locs hP _ hS => ?_)
  have hP : va_P D cls (wl_Mo a k (0, σ.2.1, σ.2.2.1, σ.2.2.2.1, σ.2.2.2.2.1, σ.2.2.2.2.2.1, σ.2.2.2.2.2.2.1, σ.2.2.2.2.2.2.2.1, σ.2.2.2.2.2.2.2.2.1, σ.2.2.2.2.2.2.2.2.2.1, σ.2.2.2.2.2.2.2.2.2.2.1, σ.2.2.2.2.2.2.2.2.2.2.2.1, σ.2.2.2.2.2.2.2.2.2.2.2.2.1, σ.2.2.2.2.2.2.2.2.2.2.2.2.2.1, σ.2.2.2.2.2.2.2.2.2.2.2.2.2.2)) H := hP
  refine lv_aload_n hx hb d_Mo_booking_5 rfl (lv_at hl 0 rfl) ?_
  refine lv_iload_n hx hb d_Mo_booking_6 rfl (lv_at hl 1 rfl) ?_
  obtain ⟨q1, e1, hk⟩ := ob_s hk
  refine kc_R (va_runV (As := [.int p1]) (rest := []) ⟨hx, hb, hml, hown, hts⟩ (c_Mo_isBooking l D a k _ (0, σ.2.1, σ.2.2.1, σ.2.2.2.1, σ.2.2.2.2.1, σ.2.2.2.2.2.1, σ.2.2.2.2.2.2.1, σ.2.2.2.2.2.2.2.1, σ.2.2.2.2.2.2.2.2.1, σ.2.2.2.2.2.2.2.2.2.1, σ.2.2.2.2.2.2.2.2.2.2.1, σ.2.2.2.2.2.2.2.2.2.2.2.1, σ.2.2.2.2.2.2.2.2.2.2.2.2.1, σ.2.2.2.2.2.2.2.2.2.2.2.2.2.1, σ.2.2.2.2.2.2.2.2.2.2.2.2.2.2) p1 q1 e1) (cwV 1 hts (gV mw_604 mw_606 mw_17 mw_33 mw_607) rfl rfl rfl hd_Mo_isBooking ⟨Nat.le_of_ble_eq_true rfl, Nat.le_of_ble_eq_true rfl⟩) (kp_V (ci := 6) (q := (R_Mo, F_Mo, 15)) (q0 := 0) hK hP (hDt _) rfl rfl) rfl rfl hl.1 rfl (lv_room (Nat.le_of_ble_eq_true rfl)) d_Mo_booking_7 ⟨Nat.zero_le _, Nat.zero_le _⟩) hS hA hP (fun H locs hP hS => ?_)
  refine lv_if_eq (tgt := 22) hx hb d_Mo_booking_10 (by decide) (fun c2 => ?_) (fun c2 => ?_)
  · have hk := br_p c2 hk
    refine lv_iconst (v := -1) hx hb d_Mo_booking_22 (by decide) ?_
    refine lv_goto (tgt := 37) hx hb d_Mo_booking_23 (by decide) ?_
    exact kr_M (w := wl_Mo a k) hx hb hr rfl hlocks hS hP hk d_Mo_booking_37
  · have hk := br_n c2 hk
    refine lv_iload_n hx hb d_Mo_booking_13 rfl (lv_at hl 2 rfl) ?_
    refine lv_if_lt (tgt := 22) hx hb d_Mo_booking_14 (by decide) (fun c3 => ?_) (fun c3 => ?_)
    · have hk := br_p c3 hk
      refine lv_iconst (v := -1) hx hb d_Mo_booking_22 (by decide) ?_
      refine lv_goto (tgt := 37) hx hb d_Mo_booking_23 (by decide) ?_
      exact kr_M (w := wl_Mo a k) hx hb hr rfl hlocks hS hP hk d_Mo_booking_37
    · have hk := br_n c3 hk
      refine lv_iload_n hx hb d_Mo_booking_17 rfl (lv_at hl 2 rfl) ?_
      refine lv_iconst (v := 5) hx hb d_Mo_booking_18 (by decide) ?_
      refine lv_icmp_le (tgt := 26) hx hb d_Mo_booking_19 (by decide) (fun c4 => ?_) (fun c4 => ?_)
      · have hk := br_p c4 hk
        refine lv_aload_n hx hb d_Mo_booking_26 rfl (lv_at hl 0 rfl) ?_
        refine va_get (D := D) (ci := 6) (v := .ref (a 4)) (C := R_Mo) (T := F_Mo) (N := 15) hx hb hts i_uMo hown hK hP 0 rfl rfl 7 (by decide) (hts _ mw_505) (fun _ h9 => h9) rfl d_Mo_booking_27 ?_
        refine lv_bipush (v := 6) hx hb d_Mo_booking_30 (by decide) ?_
        refine lv_iload_n hx hb d_Mo_booking_32 rfl (lv_at hl 1 rfl) ?_
        refine lv_imul hx hb d_Mo_booking_33 ?_
        refine lv_iload_n hx hb d_Mo_booking_34 rfl (lv_at hl 2 rfl) ?_
        refine lv_iadd hx hb d_Mo_booking_35 ?_
        obtain ⟨h5, hk⟩ := gd_in hk
        refine va_iald hx hb hK hP 4 3 rfl rfl h5 d_Mo_booking_36 ?_
        exact kr_M (w := wl_Mo a k) hx hb hr rfl hlocks hS hP hk d_Mo_booking_37
      · have hk := br_n c4 hk
        refine lv_iconst (v := -1) hx hb d_Mo_booking_22 (by decide) ?_
        refine lv_goto (tgt := 37) hx hb d_Mo_booking_23 (by decide) ?_
        exact kr_M (w := wl_Mo a k) hx hb hr rfl hlocks hS hP hk d_Mo_booking_37
set_option maxHeartbeats 4000000 in
set_option maxRecDepth 100000 in
theorem c_Mo_isListed (l : Launch) (D : va_G) (a : Nat → Nat) (k : Nat → ClassId) (sz : Nat) (σ : S_Mo) (p1 p2 : Int32) (r0 : Int32) (hk : kf_Mo_isListed σ p1 p2 = some r0) : Met l y_Mo_isListed w_Mo_isListed ({ frames := 1, cells := 0, slots := 0, locals := 21 }) (kp_P D cls (ty_Mo k) (wl_Mo a k σ) [.ref (a 0), .int p1, .int p2] sz) (kp_R sz r0) 0 0 (va_A [] sz) := by
  refine Met.ofW (cc := b_Mo_isListed) (maxL := 3) (ret := (some .boolean)) (by decide) rfl ?_
  intro p e s m args below meth c s₁ B hml hv
  obtain ⟨rfl, hsz, hP, hK, hD0⟩ := hv
  have hx := B.exec
  have hb := B.bytes
  have hr := B.returns
  have hts : ∀ w ∈ lw_g, w.before _ s = true := fun w h => atoms_spec (ws := w_Mo_isListed) B.pre w (List.mem_cons_of_mem _ h)
  have hown : s.vm.findClass R_Mo = some m.cls := findClass_of_methodNamed B.named
  have hlocks := B.notSynchronized
  subst hsz
  have hA : ∀ q : Nat, s.heap.size ≤ q → (va_A ([]) s.heap.size) q := fun _ h => Or.inr h
  have hDt : ∀ τ, va_D (fun _ => True) (wl_Mo a k τ) := fun τ => kd_cg hD0 rfl
  have hS : va_S (va_A ([]) s.heap.size) s.heap s.heap [] := va_S.rf
  have hl := lv_entry ([.ref (a 0), .int p1, .int p2]) (n := 3) (Nat.le_of_ble_eq_true rfl)
  rw [lg_entry_eq]
  generalize (lg_sl ([.ref (a 0), .int p1, .int p2]) ++ List.replicate (3 - (lg_sl ([.ref (a 0), .int p1, .int p2])).length) Slot.unset).toArray = ls at hl ⊢
  have hl : lv_has ls 3 [(0, .ref (a 0)), (1, .int p1), (2, .int p2)] := hl
  unfold kf_Mo_isListed at hk
  refine lv_aload_n hx hb d_Mo_isListed_0 rfl (lv_at hl 0 rfl) ?_
  refine lv_iload_n hx hb d_Mo_isListed_1 rfl (lv_at hl 1 rfl) ?_
  obtain ⟨q1, e1, hk⟩ := ob_s hk
  refine kc_R (va_runV (As := [.int p1]) (rest := []) ⟨hx, hb, hml, hown, hts⟩ (c_Mo_lives l D a k _ σ p1 q1 e1) (cwV 1 hts (gV mw_584 mw_586 mw_13 mw_33 mw_587) rfl rfl rfl hd_Mo_lives ⟨Nat.le_of_ble_eq_true rfl, Nat.le_of_ble_eq_true rfl⟩) (kp_V (ci := 6) (q := (R_Mo, F_Mo, 15)) (q0 := 0) hK hP (hDt _) rfl rfl) rfl rfl hl.1 rfl (lv_room (Nat.le_of_ble_eq_true rfl)) d_Mo_isListed_2 ⟨Nat.zero_le _, Nat.zero_le _⟩) hS hA hP (fun H locs hP hS => ?_)
  refine lv_if_eq (tgt := 25) hx hb d_Mo_isListed_5 (by decide) (fun c2 => ?_) (fun c2 => ?_)
  · have hk := br_p c2 hk
    refine lv_iconst (v := 0) hx hb d_Mo_isListed_25 (by decide) ?_
    exact kr_R hx hb hr (by decide) hlocks hS hk d_Mo_isListed_26
  · have hk := br_n c2 hk
    refine lv_aload_n hx hb d_Mo_isListed_8 rfl (lv_at hl 0 rfl) ?_
    refine va_get (D := D) (ci := 6) (v := .ref (a 4)) (C := R_Mo) (T := F_Mo) (N := 15) hx hb hts i_uMo hown hK hP 0 rfl rfl 7 (by decide) (hts _ mw_505) (fun _ h9 => h9) rfl d_Mo_isListed_9 ?_
    refine lv_bipush (v := 6) hx hb d_Mo_isListed_12 (by decide) ?_
    refine lv_iload_n hx hb d_Mo_isListed_14 rfl (lv_at hl 1 rfl) ?_
    refine lv_imul hx hb d_Mo_isListed_15 ?_
    obtain ⟨h3, hk⟩ := gd_in hk
    refine va_iald hx hb hK hP 4 3 rfl rfl h3 d_Mo_isListed_16 ?_
    refine lv_iload_n hx hb d_Mo_isListed_17 rfl (lv_at hl 2 rfl) ?_
    refine lv_icmp_ne (tgt := 25) hx hb d_Mo_isListed_18 (by decide) (fun c4 => ?_) (fun c4 => ?_)
    · have hk := br_n c4 hk
      refine lv_iconst (v := 0) hx hb d_Mo_isListed_25 (by decide) ?_
      exact kr_R hx hb hr (by decide) hlocks hS hk d_Mo_isListed_26
    · have hk := br_p c4 hk
      refine lv_iconst (v := 1) hx hb d_Mo_isListed_21 (by decide) ?_
      refine lv_goto (tgt := 26) hx hb d_Mo_isListed_22 (by decide) ?_
      exact kr_R hx hb hr (by decide) hlocks hS hk d_Mo_isListed_26
set_option maxHeartbeats 4000000 in
set_option maxRecDepth 100000 in
theorem c_Mo_list (l : Launch) (D : va_G) (a : Nat → Nat) (k : Nat → ClassId) (sz : Nat) (σ : S_Mo) (p1 p2 : Int32) (r0 : Int32 × S_Mo) (hk : kf_Mo_list σ p1 p2 = some r0) : Met l y_Mo_list w_Mo_list ({ frames := 2, cells := 0, slots := 0, locals := 43 }) (kp_P D cls (ty_Mo k) (wl_Mo a k σ) [.ref (a 0), .int p1, .int p2] sz) (kp_M D cls (wl_Mo a k r0.2) (wl_Mo a k σ) sz r0.1) 0 0 (va_A (wl_Mo a k σ) sz) := by
  refine Met.ofW (cc := b_Mo_list) (maxL := 8) (ret := (some .int)) (by decide) rfl ?_
  intro p e s m args below meth c s₁ B hml hv
  obtain ⟨rfl, hsz, hP, hK, hD0⟩ := hv
  have hx := B.exec
  have hb := B.bytes
  have hr := B.returns
  have hts : ∀ w ∈ lw_g, w.before _ s = true := fun w h => atoms_spec (ws := w_Mo_list) B.pre w (List.mem_cons_of_mem _ h)
  have hown : s.vm.findClass R_Mo = some m.cls := findClass_of_methodNamed B.named
  have hlocks := B.notSynchronized
  subst hsz
  have hA : ∀ q : Nat, s.heap.size ≤ q → (va_A (wl_Mo a k σ) s.heap.size) q := fun _ h => Or.inr h
  have hDt : ∀ τ, va_D (fun _ => True) (wl_Mo a k τ) := fun τ => kd_cg hD0 rfl
  have hDw : ∀ τ, va_D (va_A (wl_Mo a k σ) s.heap.size) (wl_Mo a k τ) := fun τ => kd_cg hD0.self rfl
  have hS : va_S (va_A (wl_Mo a k σ) s.heap.size) s.heap s.heap [] := va_S.rf
  have hl := lv_entry ([.ref (a 0), .int p1, .int p2]) (n := 8) (Nat.le_of_ble_eq_true rfl)
  rw [lg_entry_eq]
  generalize (lg_sl ([.ref (a 0), .int p1, .int p2]) ++ List.replicate (8 - (lg_sl ([.ref (a 0), .int p1, .int p2])).length) Slot.unset).toArray = ls at hl ⊢
  have hl : lv_has ls 8 [(0, .ref (a 0)), (1, .int p1), (2, .int p2)] := hl
  unfold kf_Mo_list at hk
  have L7 : ∀ (n7 : Nat) (x3 : Int32) (τ : S_Mo) (H : Heap) (locs : List Loc) (ls : Array Slot), va_P D cls (wl_Mo a k τ) H → va_S (va_A (wl_Mo a k σ) s.heap.size) s.heap H locs → lv_has ls 8 [(0, .ref (a 0)), (1, .int p1), (2, .int p2), (3, .int x3)] → kf_Mo_list_7 p1 p2 n7 x3 τ = some r0 → W p l e (headSpec w_Mo_list ({ frames := 2, cells := 0, slots := 0, locals := 43 })).room s m [.ref (a 0), .int p1, .int p2].toArray below meth c H locs 0 0 (MQ below (kp_M D cls (wl_Mo a k r0.2) (wl_Mo a k σ) s.heap.size r0.1) [.ref (a 0), .int p1, .int p2].toArray s 0 0 (va_A (wl_Mo a k σ) s.heap.size)) (F0 m 7 ls []) := by
    intro n7
    induction n7 with
    | zero =>
      intro x3 τ H locs ls hP hS hl hk
      exact nomatch hk
    | succ n7 ih7 =>
      have L34 : ∀ (n34 : Nat) (x3 : Int32) (x4 : Int32) (x5 : Int32) (τ : S_Mo) (H : Heap) (locs : List Loc) (ls : Array Slot), va_P D cls (wl_Mo a k τ) H → va_S (va_A (wl_Mo a k σ) s.heap.size) s.heap H locs → lv_has ls 8 [(0, .ref (a 0)), (1, .int p1), (2, .int p2), (3, .int x3), (4, .int x4), (5, .int x5)] → kf_Mo_list_34 p1 p2 (kf_Mo_list_7 p1 p2 n7) n34 x3 x4 x5 τ = some r0 → W p l e (headSpec w_Mo_list ({ frames := 2, cells := 0, slots := 0, locals := 43 })).room s m [.ref (a 0), .int p1, .int p2].toArray below meth c H locs 0 0 (MQ below (kp_M D cls (wl_Mo a k r0.2) (wl_Mo a k σ) s.heap.size r0.1) [.ref (a 0), .int p1, .int p2].toArray s 0 0 (va_A (wl_Mo a k σ) s.heap.size)) (F0 m 34 ls []) := by
        intro n34
        induction n34 with
        | zero =>
          intro x3 x4 x5 τ H locs ls hP hS hl hk
          exact nomatch hk
        | succ n34 ih34 =>
          intro x3 x4 x5 τ H locs ls hP hS hl hk
          rw [kf_Mo_list_34_s] at hk
          refine lv_iload hx hb d_Mo_list_34 (lv_at hl 5 rfl) ?_
          refine lv_aload_n hx hb d_Mo_list_36 rfl (lv_at hl 0 rfl) ?_
          refine va_get (D := D) (ci := 6) (v := .int τ.2.2.2.2.2.2.2.2.1) (C := R_Mo) (T := F_Mo) (N := 15) hx hb hts i_uMo hown hK hP 0 rfl rfl 8 (by decide) (hts _ mw_506) (fun _ h9 => h9) rfl d_Mo_list_37 ?_
          refine lv_icmp_gt (tgt := 116) hx hb d_Mo_list_40 (by decide) (fun c1 => ?_) (fun c1 => ?_)
          · have hk := br_p c1 hk
            refine lv_iload hx hb d_Mo_list_116 (lv_at hl 4 rfl) ?_
            refine lv_iload_n hx hb d_Mo_list_118 rfl (lv_at hl 2 rfl) ?_
            refine lv_icmp_ne (tgt := 124) hx hb d_Mo_list_119 (by decide) (fun c2 => ?_) (fun c2 => ?_)
            · have hk := br_n c2 hk
              refine lv_iinc (v := (x3 + 1)) (lv' := [(3, .int (x3 + 1)), (0, .ref (a 0)), (1, .int p1), (2, .int p2), (4, .int x4), (5, .int x5)]) hx hb d_Mo_list_124 hl (k := 3) rfl rfl (by decide) rfl (fun ls hl => ?_)
              refine lv_goto (tgt := 7) hx hb d_Mo_list_127 (by decide) ?_
              exact ih7 (x3 + 1) τ _ _ _ hP hS (lv_sub hl [1, 2, 3, 0] rfl) hk
            · have hk := br_p c2 hk
              refine lv_iload_n hx hb d_Mo_list_122 rfl (lv_at hl 3 rfl) ?_
              exact kr_M (w := wl_Mo a k) hx hb hr rfl hlocks hS hP hk d_Mo_list_123
          · have hk := br_n c1 hk
            refine lv_aload_n hx hb d_Mo_list_43 rfl (lv_at hl 0 rfl) ?_
            refine va_get (D := D) (ci := 6) (v := .ref (a 4)) (C := R_Mo) (T := F_Mo) (N := 15) hx hb hts i_uMo hown hK hP 0 rfl rfl 7 (by decide) (hts _ mw_505) (fun _ h9 => h9) rfl d_Mo_list_44 ?_
            refine lv_bipush (v := 6) hx hb d_Mo_list_47 (by decide) ?_
            refine lv_iload hx hb d_Mo_list_49 (lv_at hl 5 rfl) ?_
            refine lv_imul hx hb d_Mo_list_51 ?_
            refine lv_iconst (v := 2) hx hb d_Mo_list_52 (by decide) ?_
            refine lv_iadd hx hb d_Mo_list_53 ?_
            obtain ⟨h3, hk⟩ := gd_in hk
            refine va_iald hx hb hK hP 4 3 rfl rfl h3 d_Mo_list_54 ?_
            refine lv_istore (lv' := [(6, .int (τ.2.2.2.2.2.2.2.1 ((6 * x5) + 2).toNatClampNeg)), (0, .ref (a 0)), (1, .int p1), (2, .int p2), (3, .int x3), (4, .int x4), (5, .int x5)]) hx hb d_Mo_list_55 hl (by decide) rfl (fun ls hl => ?_)
            refine lv_aload_n hx hb d_Mo_list_57 rfl (lv_at hl 1 rfl) ?_
            refine va_get (D := D) (ci := 6) (v := .ref (a 4)) (C := R_Mo) (T := F_Mo) (N := 15) hx hb hts i_uMo hown hK hP 0 rfl rfl 7 (by decide) (hts _ mw_505) (fun _ h9 => h9) rfl d_Mo_list_58 ?_
            refine lv_bipush (v := 6) hx hb d_Mo_list_61 (by decide) ?_
            refine lv_iload_n hx hb d_Mo_list_63 rfl (lv_at hl 4 rfl) ?_
            refine lv_imul hx hb d_Mo_list_64 ?_
            refine lv_iconst (v := 2) hx hb d_Mo_list_65 (by decide) ?_
            refine lv_iadd hx hb d_Mo_list_66 ?_
            obtain ⟨h4, hk⟩ := gd_in hk
            refine va_iald hx hb hK hP 4 3 rfl rfl h4 d_Mo_list_67 ?_
            refine lv_istore (lv' := [(7, .int (τ.2.2.2.2.2.2.2.1 ((6 * x3) + 2).toNatClampNeg)), (6, .int (τ.2.2.2.2.2.2.2.1 ((6 * x5) + 2).toNatClampNeg)), (0, .ref (a 0)), (1, .int p1), (2, .int p2), (3, .int x3), (4, .int x4), (5, .int x5)]) hx hb d_Mo_list_68 hl (by decide) rfl (fun ls hl => ?_)
            refine lv_iload hx hb d_Mo_list_70 (lv_at hl 6 rfl) ?_
            refine lv_aload_n hx hb d_Mo_list_72 rfl (lv_at hl 2 rfl) ?_
            refine lv_iload hx hb d_Mo_list_73 (lv_at hl 7 rfl) ?_
            refine lv_iload_n hx hb d_Mo_list_75 rfl (lv_at hl 3 rfl) ?_
            obtain ⟨q5, e5, hk⟩ := ob_s hk
            refine kc_R (va_runV (As := [.int x5, .int p1]) (rest := [.int x4]) ⟨hx, hb, hml, hown, hts⟩ (c_Mo_isListed l D a k _ τ x5 p1 q5 e5) (cwV 2 hts (gV mw_672 mw_674 mw_25 mw_33 mw_675) rfl rfl rfl hd_Mo_isListed ⟨Nat.le_of_ble_eq_true rfl, Nat.le_of_ble_eq_true rfl⟩) (kp_V (ci := 6) (q := (R_Mo, F_Mo, 15)) (q0 := 0) hK hP (hDt _) rfl rfl) rfl rfl hl.1 rfl (lv_room (Nat.le_of_ble_eq_true rfl)) d_Mo_list_76 ⟨Nat.zero_le _, Nat.zero_le _⟩) hS hA hP (fun H locs hP hS => ?_)
            refine lv_if_eq (tgt := 106) hx hb d_Mo_list_79 (by decide) (fun c6 => ?_) (fun c6 => ?_)
            · have hk := br_p c6 hk
              refine lv_iconst (v := 0) hx hb d_Mo_list_106 (by decide) ?_
              refine lv_iadd hx hb d_Mo_list_107 ?_
              refine lv_istore (lv' := [(4, .int (x4 + 0)), (7, .int (τ.2.2.2.2.2.2.2.1 ((6 * x3) + 2).toNatClampNeg)), (6, .int (τ.2.2.2.2.2.2.2.1 ((6 * x5) + 2).toNatClampNeg)), (0, .ref (a 0)), (1, .int p1), (2, .int p2), (3, .int x3), (5, .int x5)]) hx hb d_Mo_list_108 hl (by decide) rfl (fun ls hl => ?_)
              refine lv_iinc (v := (x5 + 1)) (lv' := [(5, .int (x5 + 1)), (4, .int (x4 + 0)), (7, .int (τ.2.2.2.2.2.2.2.1 ((6 * x3) + 2).toNatClampNeg)), (6, .int (τ.2.2.2.2.2.2.2.1 ((6 * x5) + 2).toNatClampNeg)), (0, .ref (a 0)), (1, .int p1), (2, .int p2), (3, .int x3)]) hx hb d_Mo_list_110 hl (k := 7) rfl rfl (by decide) rfl (fun ls hl => ?_)
              refine lv_goto (tgt := 34) hx hb d_Mo_list_113 (by decide) ?_
              exact ih34 x3 (x4 + 0) (x5 + 1) τ _ _ _ hP hS (lv_sub hl [4, 5, 6, 7, 1, 0] rfl) hk
            · have hk := br_n c6 hk
              refine lv_iload hx hb d_Mo_list_82 (lv_at hl 1 rfl) ?_
              refine lv_iload hx hb d_Mo_list_84 (lv_at hl 0 rfl) ?_
              refine lv_icmp_lt (tgt := 102) hx hb d_Mo_list_86 (by decide) (fun c7 => ?_) (fun c7 => ?_)
              · have hk := br_p c7 hk
                refine lv_iconst (v := 1) hx hb d_Mo_list_102 (by decide) ?_
                refine lv_goto (tgt := 107) hx hb d_Mo_list_103 (by decide) ?_
                refine lv_iadd hx hb d_Mo_list_107 ?_
                refine lv_istore (lv' := [(4, .int (x4 + 1)), (7, .int (τ.2.2.2.2.2.2.2.1 ((6 * x3) + 2).toNatClampNeg)), (6, .int (τ.2.2.2.2.2.2.2.1 ((6 * x5) + 2).toNatClampNeg)), (0, .ref (a 0)), (1, .int p1), (2, .int p2), (3, .int x3), (5, .int x5)]) hx hb d_Mo_list_108 hl (by decide) rfl (fun ls hl => ?_)
                refine lv_iinc (v := (x5 + 1)) (lv' := [(5, .int (x5 + 1)), (4, .int (x4 + 1)), (7, .int (τ.2.2.2.2.2.2.2.1 ((6 * x3) + 2).toNatClampNeg)), (6, .int (τ.2.2.2.2.2.2.2.1 ((6 * x5) + 2).toNatClampNeg)), (0, .ref (a 0)), (1, .int p1), (2, .int p2), (3, .int x3)]) hx hb d_Mo_list_110 hl (k := 7) rfl rfl (by decide) rfl (fun ls hl => ?_)
                refine lv_goto (tgt := 34) hx hb d_Mo_list_113 (by decide) ?_
                exact ih34 x3 (x4 + 1) (x5 + 1) τ _ _ _ hP hS (lv_sub hl [4, 5, 6, 7, 1, 0] rfl) hk
              · have hk := br_n c7 hk
                refine lv_iload hx hb d_Mo_list_89 (lv_at hl 1 rfl) ?_
                refine lv_iload hx hb d_Mo_list_91 (lv_at hl 0 rfl) ?_
                refine lv_icmp_ne (tgt := 106) hx hb d_Mo_list_93 (by decide) (fun c8 => ?_) (fun c8 => ?_)
                · have hk := br_n c8 hk
                  refine lv_iconst (v := 0) hx hb d_Mo_list_106 (by decide) ?_
                  refine lv_iadd hx hb d_Mo_list_107 ?_
                  refine lv_istore (lv' := [(4, .int (x4 + 0)), (7, .int (τ.2.2.2.2.2.2.2.1 ((6 * x3) + 2).toNatClampNeg)), (6, .int (τ.2.2.2.2.2.2.2.1 ((6 * x5) + 2).toNatClampNeg)), (0, .ref (a 0)), (1, .int p1), (2, .int p2), (3, .int x3), (5, .int x5)]) hx hb d_Mo_list_108 hl (by decide) rfl (fun ls hl => ?_)
                  refine lv_iinc (v := (x5 + 1)) (lv' := [(5, .int (x5 + 1)), (4, .int (x4 + 0)), (7, .int (τ.2.2.2.2.2.2.2.1 ((6 * x3) + 2).toNatClampNeg)), (6, .int (τ.2.2.2.2.2.2.2.1 ((6 * x5) + 2).toNatClampNeg)), (0, .ref (a 0)), (1, .int p1), (2, .int p2), (3, .int x3)]) hx hb d_Mo_list_110 hl (k := 7) rfl rfl (by decide) rfl (fun ls hl => ?_)
                  refine lv_goto (tgt := 34) hx hb d_Mo_list_113 (by decide) ?_
                  exact ih34 x3 (x4 + 0) (x5 + 1) τ _ _ _ hP hS (lv_sub hl [4, 5, 6, 7, 1, 0] rfl) hk
                · have hk := br_p c8 hk
                  refine lv_iload hx hb d_Mo_list_96 (lv_at hl 7 rfl) ?_
                  refine lv_iload_n hx hb d_Mo_list_98 rfl (lv_at hl 5 rfl) ?_
                  refine lv_icmp_ge (tgt := 106) hx hb d_Mo_list_99 (by decide) (fun c9 => ?_) (fun c9 => ?_)
                  · have hk := br_p c9 hk
                    refine lv_iconst (v := 0) hx hb d_Mo_list_106 (by decide) ?_
                    refine lv_iadd hx hb d_Mo_list_107 ?_
                    refine lv_istore (lv' := [(4, .int (x4 + 0)), (7, .int (τ.2.2.2.2.2.2.2.1 ((6 * x3) + 2).toNatClampNeg)), (6, .int (τ.2.2.2.2.2.2.2.1 ((6 * x5) + 2).toNatClampNeg)), (0, .ref (a 0)), (1, .int p1), (2, .int p2), (3, .int x3), (5, .int x5)]) hx hb d_Mo_list_108 hl (by decide) rfl (fun ls hl => ?_)
                    refine lv_iinc (v := (x5 + 1)) (lv' := [(5, .int (x5 + 1)), (4, .int (x4 + 0)), (7, .int (τ.2.2.2.2.2.2.2.1 ((6 * x3) + 2).toNatClampNeg)), (6, .int (τ.2.2.2.2.2.2.2.1 ((6 * x5) + 2).toNatClampNeg)), (0, .ref (a 0)), (1, .int p1), (2, .int p2), (3, .int x3)]) hx hb d_Mo_list_110 hl (k := 7) rfl rfl (by decide) rfl (fun ls hl => ?_)
                    refine lv_goto (tgt := 34) hx hb d_Mo_list_113 (by decide) ?_
                    exact ih34 x3 (x4 + 0) (x5 + 1) τ _ _ _ hP hS (lv_sub hl [4, 5, 6, 7, 1, 0] rfl) hk
                  · have hk := br_n c9 hk
                    refine lv_iconst (v := 1) hx hb d_Mo_list_102 (by decide) ?_
                    refine lv_goto (tgt := 107) hx hb d_Mo_list_103 (by decide) ?_
                    refine lv_iadd hx hb d_Mo_list_107 ?_
                    refine lv_istore (lv' := [(4, .int (x4 + 1)), (7, .int (τ.2.2.2.2.2.2.2.1 ((6 * x3) + 2).toNatClampNeg)), (6, .int (τ.2.2.2.2.2.2.2.1 ((6 * x5) + 2).toNatClampNeg)), (0, .ref (a 0)), (1, .int p1), (2, .int p2), (3, .int x3), (5, .int x5)]) hx hb d_Mo_list_108 hl (by decide) rfl (fun ls hl => ?_)
                    refine lv_iinc (v := (x5 + 1)) (lv' := [(5, .int (x5 + 1)), (4, .int (x4 + 1)), (7, .int (τ.2.2.2.2.2.2.2.1 ((6 * x3) + 2).toNatClampNeg)), (6, .int (τ.2.2.2.2.2.2.2.1 ((6 * x5) + 2).toNatClampNeg)), (0, .ref (a 0)), (1, .int p1), (2, .int p2), (3, .int x3)]) hx hb d_Mo_list_110 hl (k := 7) rfl rfl (by decide) rfl (fun ls hl => ?_)
                    refine lv_goto (tgt := 34) hx hb d_Mo_list_113 (by decide) ?_
                    exact ih34 x3 (x4 + 1) (x5 + 1) τ _ _ _ hP hS (lv_sub hl [4, 5, 6, 7, 1, 0] rfl) hk
      intro x3 τ H locs ls hP hS hl hk
      rw [kf_Mo_list_7_s] at hk
      refine lv_iload_n hx hb d_Mo_list_7 rfl (lv_at hl 3 rfl) ?_
      refine lv_aload_n hx hb d_Mo_list_8 rfl (lv_at hl 0 rfl) ?_
      refine va_get (D := D) (ci := 6) (v := .int τ.2.2.2.2.2.2.2.2.1) (C := R_Mo) (T := F_Mo) (N := 15) hx hb hts i_uMo hown hK hP 0 rfl rfl 8 (by decide) (hts _ mw_506) (fun _ h9 => h9) rfl d_Mo_list_9 ?_
      refine lv_icmp_gt (tgt := 130) hx hb d_Mo_list_12 (by decide) (fun c10 => ?_) (fun c10 => ?_)
      · have hk := br_p c10 hk
        refine lv_iconst (v := 0) hx hb d_Mo_list_130 (by decide) ?_
        exact kr_M (w := wl_Mo a k) hx hb hr rfl hlocks hS hP hk d_Mo_list_131
      · have hk := br_n c10 hk
        refine lv_iload_n hx hb d_Mo_list_15 rfl (lv_at hl 2 rfl) ?_
        refine lv_if_lt (tgt := 130) hx hb d_Mo_list_16 (by decide) (fun c11 => ?_) (fun c11 => ?_)
        · have hk := br_p c11 hk
          refine lv_iconst (v := 0) hx hb d_Mo_list_130 (by decide) ?_
          exact kr_M (w := wl_Mo a k) hx hb hr rfl hlocks hS hP hk d_Mo_list_131
        · have hk := br_n c11 hk
          refine lv_aload_n hx hb d_Mo_list_19 rfl (lv_at hl 0 rfl) ?_
          refine lv_iload_n hx hb d_Mo_list_20 rfl (lv_at hl 3 rfl) ?_
          refine lv_iload_n hx hb d_Mo_list_21 rfl (lv_at hl 1 rfl) ?_
          obtain ⟨q12, e12, hk⟩ := ob_s hk
          refine kc_R (va_runV (As := [.int x3, .int p1]) (rest := []) ⟨hx, hb, hml, hown, hts⟩ (c_Mo_isListed l D a k _ τ x3 p1 q12 e12) (cwV 2 hts (gV mw_672 mw_674 mw_25 mw_33 mw_675) rfl rfl rfl hd_Mo_isListed ⟨Nat.le_of_ble_eq_true rfl, Nat.le_of_ble_eq_true rfl⟩) (kp_V (ci := 6) (q := (R_Mo, F_Mo, 15)) (q0 := 0) hK hP (hDt _) rfl rfl) rfl rfl hl.1 rfl (lv_room (Nat.le_of_ble_eq_true rfl)) d_Mo_list_22 ⟨Nat.zero_le _, Nat.zero_le _⟩) hS hA hP (fun H locs hP hS => ?_)
          refine lv_if_eq (tgt := 124) hx hb d_Mo_list_25 (by decide) (fun c13 => ?_) (fun c13 => ?_)
          · have hk := br_p c13 hk
            refine lv_iinc (v := (x3 + 1)) (lv' := [(3, .int (x3 + 1)), (0, .ref (a 0)), (1, .int p1), (2, .int p2)]) hx hb d_Mo_list_124 hl (k := 3) rfl rfl (by decide) rfl (fun ls hl => ?_)
            refine lv_goto (tgt := 7) hx hb d_Mo_list_127 (by decide) ?_
            exact ih7 (x3 + 1) τ _ _ _ hP hS (lv_sub hl [1, 2, 3, 0] rfl) hk
          · have hk := br_n c13 hk
            refine lv_iconst (v := 0) hx hb d_Mo_list_28 (by decide) ?_
            refine lv_istore (lv' := [(4, .int 0), (0, .ref (a 0)), (1, .int p1), (2, .int p2), (3, .int x3)]) hx hb d_Mo_list_29 hl (by decide) rfl (fun ls hl => ?_)
            refine lv_iconst (v := 1) hx hb d_Mo_list_31 (by decide) ?_
            refine lv_istore (lv' := [(5, .int 1), (4, .int 0), (0, .ref (a 0)), (1, .int p1), (2, .int p2), (3, .int x3)]) hx hb d_Mo_list_32 hl (by decide) rfl (fun ls hl => ?_)
            exact L34 FU x3 0 1 τ _ _ _ hP hS (lv_sub hl [2, 3, 4, 5, 1, 0] rfl) hk
  refine lv_aload_n hx hb d_Mo_list_0 rfl (lv_at hl 0 rfl) ?_
  refine lv_iconst (v := 0) hx hb d_Mo_list_1 (by decide) ?_
  refine va_put (D := D) (ci := 6) (v := .int 0) (ty := .int) (C := R_Mo) (T := F_Mo) (N := 15) hx hb hts i_uMo t_Mo t_Mo_ok n_Mo hown hK hP (hDw _) hS 0 rfl rfl 0 (by decide) (hts _ mw_498) (fun _ h9 => h9) rfl (t_Mo_ok 0 (by decide)) rfl rfl (Nat.le_of_ble_eq_true rfl) d_Mo_list_2 (fun H locs hP _ hS => ?_)
  have hP : va_P D cls (wl_Mo a k (0, σ.2.1, σ.2.2.1, σ.2.2.2.1, σ.2.2.2.2.1, σ.2.2.2.2.2.1, σ.2.2.2.2.2.2.1, σ.2.2.2.2.2.2.2.1, σ.2.2.2.2.2.2.2.2.1, σ.2.2.2.2.2.2.2.2.2.1, σ.2.2.2.2.2.2.2.2.2.2.1, σ.2.2.2.2.2.2.2.2.2.2.2.1, σ.2.2.2.2.2.2.2.2.2.2.2.2.1, σ.2.2.2.2.2.2.2.2.2.2.2.2.2.1, σ.2.2.2.2.2.2.2.2.2.2.2.2.2.2)) H := hP
  refine lv_iconst (v := 1) hx hb d_Mo_list_5 (by decide) ?_
  refine lv_istore_n (lv' := [(3, .int 1), (0, .ref (a 0)), (1, .int p1), (2, .int p2)]) hx hb d_Mo_list_6 rfl hl (by decide) rfl (fun ls hl => ?_)
  exact L7 FU 1 (0, σ.2.1, σ.2.2.1, σ.2.2.2.1, σ.2.2.2.2.1, σ.2.2.2.2.2.1, σ.2.2.2.2.2.2.1, σ.2.2.2.2.2.2.2.1, σ.2.2.2.2.2.2.2.2.1, σ.2.2.2.2.2.2.2.2.2.1, σ.2.2.2.2.2.2.2.2.2.2.1, σ.2.2.2.2.2.2.2.2.2.2.2.1, σ.2.2.2.2.2.2.2.2.2.2.2.2.1, σ.2.2.2.2.2.2.2.2.2.2.2.2.2.1, σ.2.2.2.2.2.2.2.2.2.2.2.2.2.2) _ _ _ hP hS (lv_sub hl [1, 2, 3, 0] rfl) hk
set_option maxHeartbeats 4000000 in
set_option maxRecDepth 100000 in
theorem c_Mo_person (l : Launch) (D : va_G) (a : Nat → Nat) (k : Nat → ClassId) (sz : Nat) (σ : S_Mo) (p1 p2 : Int32) (r0 : Int32 × S_Mo) (hk : kf_Mo_person σ p1 p2 = some r0) : Met l y_Mo_person w_Mo_person ({ frames := 1, cells := 0, slots := 0, locals := 20 }) (kp_P D cls (ty_Mo k) (wl_Mo a k σ) [.ref (a 0), .int p1, .int p2] sz) (kp_M D cls (wl_Mo a k r0.2) (wl_Mo a k σ) sz r0.1) 0 0 (va_A (wl_Mo a k σ) sz) := by
  refine Met.ofW (cc := b_Mo_person) (maxL := 5) (ret := (some .int)) (by decide) rfl ?_
  intro p e s m args below meth c s₁ B hml hv
  obtain ⟨rfl, hsz, hP, hK, hD0⟩ := hv
  have hx := B.exec
  have hb := B.bytes
  have hr := B.returns
  have hts : ∀ w ∈ lw_g, w.before _ s = true := fun w h => atoms_spec (ws := w_Mo_person) B.pre w (List.mem_cons_of_mem _ h)
  have hown : s.vm.findClass R_Mo = some m.cls := findClass_of_methodNamed B.named
  have hlocks := B.notSynchronized
  subst hsz
  have hA : ∀ q : Nat, s.heap.size ≤ q → (va_A (wl_Mo a k σ) s.heap.size) q := fun _ h => Or.inr h
  have hDt : ∀ τ, va_D (fun _ => True) (wl_Mo a k τ) := fun τ => kd_cg hD0 rfl
  have hDw : ∀ τ, va_D (va_A (wl_Mo a k σ) s.heap.size) (wl_Mo a k τ) := fun τ => kd_cg hD0.self rfl
  have hK0 : va_K D cls [] s := hK.sub [] rfl
  have hS : va_S (va_A (wl_Mo a k σ) s.heap.size) s.heap s.heap [] := va_S.rf
  have hl := lv_entry ([.ref (a 0), .int p1, .int p2]) (n := 5) (Nat.le_of_ble_eq_true rfl)
  rw [lg_entry_eq]
  generalize (lg_sl ([.ref (a 0), .int p1, .int p2]) ++ List.replicate (5 - (lg_sl ([.ref (a 0), .int p1, .int p2])).length) Slot.unset).toArray = ls at hl ⊢
  have hl : lv_has ls 5 [(0, .ref (a 0)), (1, .int p1), (2, .int p2)] := hl
  unfold kf_Mo_person at hk
  have L65 : ∀ (n65 : Nat) (x3 : Int32) (x4 : Int32) (τ : S_Mo) (H : Heap) (locs : List Loc) (ls : Array Slot), va_P D cls (wl_Mo a k τ) H → va_S (va_A (wl_Mo a k σ) s.heap.size) s.heap H locs → lv_has ls 5 [(0, .ref (a 0)), (1, .int p1), (3, .int x3), (4, .int x4)] → kf_Mo_person_65 p1 p2 n65 x3 x4 τ = some r0 → W p l e (headSpec w_Mo_person ({ frames := 1, cells := 0, slots := 0, locals := 20 })).room s m [.ref (a 0), .int p1, .int p2].toArray below meth c H locs 0 0 (MQ below (kp_M D cls (wl_Mo a k r0.2) (wl_Mo a k σ) s.heap.size r0.1) [.ref (a 0), .int p1, .int p2].toArray s 0 0 (va_A (wl_Mo a k σ) s.heap.size)) (F0 m 65 ls []) := by
    intro n65
    induction n65 with
    | zero =>
      intro x3 x4 τ H locs ls hP hS hl hk
      exact nomatch hk
    | succ n65 ih65 =>
      intro x3 x4 τ H locs ls hP hS hl hk
      rw [kf_Mo_person_65_s] at hk
      refine lv_iload hx hb d_Mo_person_65 (lv_at hl 3 rfl) ?_
      refine lv_aload_n hx hb d_Mo_person_67 rfl (lv_at hl 0 rfl) ?_
      refine va_get (D := D) (ci := 6) (v := .int τ.2.2.2.2.2.2.2.2.2.2.1) (C := R_Mo) (T := F_Mo) (N := 15) hx hb hts i_uMo hown hK hP 0 rfl rfl 10 (by decide) (hts _ mw_508) (fun _ h9 => h9) rfl d_Mo_person_68 ?_
      refine lv_icmp_ge (tgt := 101) hx hb d_Mo_person_71 (by decide) (fun c1 => ?_) (fun c1 => ?_)
      · have hk := br_p c1 hk
        refine lv_iload_n hx hb d_Mo_person_101 rfl (lv_at hl 2 rfl) ?_
        exact kr_M (w := wl_Mo a k) hx hb hr rfl hlocks hS hP hk d_Mo_person_102
      · have hk := br_n c1 hk
        refine lv_iload_n hx hb d_Mo_person_74 rfl (lv_at hl 2 rfl) ?_
        refine lv_aload_n hx hb d_Mo_person_75 rfl (lv_at hl 0 rfl) ?_
        refine va_get (D := D) (ci := 6) (v := .ref (a 5)) (C := R_Mo) (T := F_Mo) (N := 15) hx hb hts i_uMo hown hK hP 0 rfl rfl 9 (by decide) (hts _ mw_507) (fun _ h9 => h9) rfl d_Mo_person_76 ?_
        refine lv_iconst (v := 5) hx hb d_Mo_person_79 (by decide) ?_
        refine lv_iload hx hb d_Mo_person_80 (lv_at hl 3 rfl) ?_
        refine lv_imul hx hb d_Mo_person_82 ?_
        obtain ⟨h2, hk⟩ := gd_in hk
        refine va_iald hx hb hK hP 5 4 rfl rfl h2 d_Mo_person_83 ?_
        refine lv_iload_n hx hb d_Mo_person_84 rfl (lv_at hl 1 rfl) ?_
        refine lv_icmp_ne (tgt := 92) hx hb d_Mo_person_85 (by decide) (fun c3 => ?_) (fun c3 => ?_)
        · have hk := br_n c3 hk
          refine lv_iconst (v := 0) hx hb d_Mo_person_92 (by decide) ?_
          refine lv_iadd hx hb d_Mo_person_93 ?_
          refine lv_istore_n (lv' := [(3, .int (x3 + 0)), (0, .ref (a 0)), (1, .int p1), (4, .int x4)]) hx hb d_Mo_person_94 rfl hl (by decide) rfl (fun ls hl => ?_)
          refine lv_iinc (v := (x4 + 1)) (lv' := [(4, .int (x4 + 1)), (3, .int (x3 + 0)), (0, .ref (a 0)), (1, .int p1)]) hx hb d_Mo_person_95 hl (k := 3) rfl rfl (by decide) rfl (fun ls hl => ?_)
          refine lv_goto (tgt := 65) hx hb d_Mo_person_98 (by decide) ?_
          exact ih65 (x3 + 0) (x4 + 1) τ _ _ _ hP hS (lv_sub hl [2, 3, 1, 0] rfl) hk
        · have hk := br_p c3 hk
          refine lv_iconst (v := 1) hx hb d_Mo_person_88 (by decide) ?_
          refine lv_goto (tgt := 93) hx hb d_Mo_person_89 (by decide) ?_
          refine lv_iadd hx hb d_Mo_person_93 ?_
          refine lv_istore_n (lv' := [(3, .int (x3 + 1)), (0, .ref (a 0)), (1, .int p1), (4, .int x4)]) hx hb d_Mo_person_94 rfl hl (by decide) rfl (fun ls hl => ?_)
          refine lv_iinc (v := (x4 + 1)) (lv' := [(4, .int (x4 + 1)), (3, .int (x3 + 1)), (0, .ref (a 0)), (1, .int p1)]) hx hb d_Mo_person_95 hl (k := 3) rfl rfl (by decide) rfl (fun ls hl => ?_)
          refine lv_goto (tgt := 65) hx hb d_Mo_person_98 (by decide) ?_
          exact ih65 (x3 + 1) (x4 + 1) τ _ _ _ hP hS (lv_sub hl [2, 3, 1, 0] rfl) hk
  refine lv_aload_n hx hb d_Mo_person_0 rfl (lv_at hl 0 rfl) ?_
  refine lv_iconst (v := 0) hx hb d_Mo_person_1 (by decide) ?_
  refine va_put (D := D) (ci := 6) (v := .int 0) (ty := .int) (C := R_Mo) (T := F_Mo) (N := 15) hx hb hts i_uMo t_Mo t_Mo_ok n_Mo hown hK hP (hDw _) hS 0 rfl rfl 0 (by decide) (hts _ mw_498) (fun _ h9 => h9) rfl (t_Mo_ok 0 (by decide)) rfl rfl (Nat.le_of_ble_eq_true rfl) d_Mo_person_2 (fun H locs hP _ hS => ?_)
  have hP : va_P D cls (wl_Mo a k (0, σ.2.1, σ.2.2.1, σ.2.2.2.1, σ.2.2.2.2.1, σ.2.2.2.2.2.1, σ.2.2.2.2.2.2.1, σ.2.2.2.2.2.2.2.1, σ.2.2.2.2.2.2.2.2.1, σ.2.2.2.2.2.2.2.2.2.1, σ.2.2.2.2.2.2.2.2.2.2.1, σ.2.2.2.2.2.2.2.2.2.2.2.1, σ.2.2.2.2.2.2.2.2.2.2.2.2.1, σ.2.2.2.2.2.2.2.2.2.2.2.2.2.1, σ.2.2.2.2.2.2.2.2.2.2.2.2.2.2)) H := hP
  refine lv_iload_n hx hb d_Mo_person_5 rfl (lv_at hl 1 rfl) ?_
  obtain ⟨q4, e4, hk⟩ := ob_s hk
  refine kc_R (va_runS (As := [.int p1]) (rest := []) ⟨hx, hb, hml, hown, hts⟩ (c_Mo_isPerson l D _ p1 q4 e4) (cwS 1 hts (gS mw_565 mw_566 mw_33 mw_567) rfl rfl rfl hd_Mo_isPerson ⟨Nat.le_of_ble_eq_true rfl, Nat.le_of_ble_eq_true rfl⟩) (kp_S hK0) rfl rfl hl.1 rfl (lv_room (Nat.le_of_ble_eq_true rfl)) d_Mo_person_6 ⟨Nat.zero_le _, Nat.zero_le _⟩) hS hA hP (fun H locs hP hS => ?_)
  refine lv_if_eq (tgt := 21) hx hb d_Mo_person_9 (by decide) (fun c5 => ?_) (fun c5 => ?_)
  · have hk := br_p c5 hk
    refine lv_iconst (v := -1) hx hb d_Mo_person_21 (by decide) ?_
    exact kr_M (w := wl_Mo a k) hx hb hr rfl hlocks hS hP hk d_Mo_person_22
  · have hk := br_n c5 hk
    refine lv_iload_n hx hb d_Mo_person_12 rfl (lv_at hl 2 rfl) ?_
    refine lv_if_lt (tgt := 21) hx hb d_Mo_person_13 (by decide) (fun c6 => ?_) (fun c6 => ?_)
    · have hk := br_p c6 hk
      refine lv_iconst (v := -1) hx hb d_Mo_person_21 (by decide) ?_
      exact kr_M (w := wl_Mo a k) hx hb hr rfl hlocks hS hP hk d_Mo_person_22
    · have hk := br_n c6 hk
      refine lv_iload_n hx hb d_Mo_person_16 rfl (lv_at hl 2 rfl) ?_
      refine lv_iconst (v := 2) hx hb d_Mo_person_17 (by decide) ?_
      refine lv_icmp_le (tgt := 23) hx hb d_Mo_person_18 (by decide) (fun c7 => ?_) (fun c7 => ?_)
      · have hk := br_p c7 hk
        refine lv_iload_n hx hb d_Mo_person_23 rfl (lv_at hl 2 rfl) ?_
        refine lv_iconst (v := 2) hx hb d_Mo_person_24 (by decide) ?_
        refine lv_icmp_ge (tgt := 60) hx hb d_Mo_person_25 (by decide) (fun c8 => ?_) (fun c8 => ?_)
        · have hk := br_p c8 hk
          refine lv_iconst (v := 0) hx hb d_Mo_person_60 (by decide) ?_
          refine lv_istore_n (lv' := [(3, .int 0), (0, .ref (a 0)), (1, .int p1), (2, .int p2)]) hx hb d_Mo_person_61 rfl hl (by decide) rfl (fun ls hl => ?_)
          refine lv_iconst (v := 0) hx hb d_Mo_person_62 (by decide) ?_
          refine lv_istore (lv' := [(4, .int 0), (3, .int 0), (0, .ref (a 0)), (1, .int p1), (2, .int p2)]) hx hb d_Mo_person_63 hl (by decide) rfl (fun ls hl => ?_)
          exact L65 FU 0 0 (0, σ.2.1, σ.2.2.1, σ.2.2.2.1, σ.2.2.2.2.1, σ.2.2.2.2.2.1, σ.2.2.2.2.2.2.1, σ.2.2.2.2.2.2.2.1, σ.2.2.2.2.2.2.2.2.1, σ.2.2.2.2.2.2.2.2.2.1, σ.2.2.2.2.2.2.2.2.2.2.1, σ.2.2.2.2.2.2.2.2.2.2.2.1, σ.2.2.2.2.2.2.2.2.2.2.2.2.1, σ.2.2.2.2.2.2.2.2.2.2.2.2.2.1, σ.2.2.2.2.2.2.2.2.2.2.2.2.2.2) _ _ _ hP hS (lv_sub hl [2, 3, 1, 0] rfl) hk
        · have hk := br_n c8 hk
          refine lv_iload_n hx hb d_Mo_person_28 rfl (lv_at hl 2 rfl) ?_
          refine lv_if_ne (tgt := 41) hx hb d_Mo_person_29 (by decide) (fun c9 => ?_) (fun c9 => ?_)
          · have hk := br_n c9 hk
            refine lv_aload_n hx hb d_Mo_person_41 rfl (lv_at hl 0 rfl) ?_
            refine va_get (D := D) (ci := 6) (v := .int σ.2.1) (C := R_Mo) (T := F_Mo) (N := 15) hx hb hts i_uMo hown hK hP 0 rfl rfl 1 (by decide) (hts _ mw_499) (fun _ h9 => h9) rfl d_Mo_person_42 ?_
            refine lv_aload_n hx hb d_Mo_person_45 rfl (lv_at hl 0 rfl) ?_
            refine va_get (D := D) (ci := 6) (v := .ref (a 7)) (C := R_Mo) (T := F_Mo) (N := 15) hx hb hts i_uMo hown hK hP 0 rfl rfl 12 (by decide) (hts _ mw_510) (fun _ h9 => h9) rfl d_Mo_person_46 ?_
            refine lv_iload_n hx hb d_Mo_person_49 rfl (lv_at hl 1 rfl) ?_
            obtain ⟨h10, hk⟩ := gd_in hk
            refine va_iald hx hb hK hP 7 6 rfl rfl h10 d_Mo_person_50 ?_
            refine lv_icmp_ge (tgt := 58) hx hb d_Mo_person_51 (by decide) (fun c11 => ?_) (fun c11 => ?_)
            · have hk := br_p c11 hk
              refine lv_iconst (v := 0) hx hb d_Mo_person_58 (by decide) ?_
              exact kr_M (w := wl_Mo a k) hx hb hr rfl hlocks hS hP hk d_Mo_person_59
            · have hk := br_n c11 hk
              refine lv_iconst (v := 1) hx hb d_Mo_person_54 (by decide) ?_
              refine lv_goto (tgt := 59) hx hb d_Mo_person_55 (by decide) ?_
              exact kr_M (w := wl_Mo a k) hx hb hr rfl hlocks hS hP hk d_Mo_person_59
          · have hk := br_p c9 hk
            refine lv_aload_n hx hb d_Mo_person_32 rfl (lv_at hl 0 rfl) ?_
            refine va_get (D := D) (ci := 6) (v := .ref (a 6)) (C := R_Mo) (T := F_Mo) (N := 15) hx hb hts i_uMo hown hK hP 0 rfl rfl 11 (by decide) (hts _ mw_509) (fun _ h9 => h9) rfl d_Mo_person_33 ?_
            refine lv_iload_n hx hb d_Mo_person_36 rfl (lv_at hl 1 rfl) ?_
            obtain ⟨h12, hk⟩ := gd_in hk
            refine va_iald hx hb hK hP 6 5 rfl rfl h12 d_Mo_person_37 ?_
            refine lv_goto (tgt := 59) hx hb d_Mo_person_38 (by decide) ?_
            exact kr_M (w := wl_Mo a k) hx hb hr rfl hlocks hS hP hk d_Mo_person_59
      · have hk := br_n c7 hk
        refine lv_iconst (v := -1) hx hb d_Mo_person_21 (by decide) ?_
        exact kr_M (w := wl_Mo a k) hx hb hr rfl hlocks hS hP hk d_Mo_person_22
set_option maxHeartbeats 4000000 in
set_option maxRecDepth 100000 in
theorem c_Mo_used (l : Launch) (D : va_G) (a : Nat → Nat) (k : Nat → ClassId) (sz : Nat) (σ : S_Mo) (p1 : Int32) (r0 : Int32 × S_Mo) (hk : kf_Mo_used σ p1 = some r0) : Met l y_Mo_used w_Mo_used ({ frames := 1, cells := 0, slots := 0, locals := 21 }) (kp_P D cls (ty_Mo k) (wl_Mo a k σ) [.ref (a 0), .int p1] sz) (kp_M D cls (wl_Mo a k r0.2) (wl_Mo a k σ) sz r0.1) 0 0 (va_A (wl_Mo a k σ) sz) := by
  refine Met.ofW (cc := b_Mo_used) (maxL := 4) (ret := (some .int)) (by decide) rfl ?_
  intro p e s m args below meth c s₁ B hml hv
  obtain ⟨rfl, hsz, hP, hK, hD0⟩ := hv
  have hx := B.exec
  have hb := B.bytes
  have hr := B.returns
  have hts : ∀ w ∈ lw_g, w.before _ s = true := fun w h => atoms_spec (ws := w_Mo_used) B.pre w (List.mem_cons_of_mem _ h)
  have hown : s.vm.findClass R_Mo = some m.cls := findClass_of_methodNamed B.named
  have hlocks := B.notSynchronized
  subst hsz
  have hA : ∀ q : Nat, s.heap.size ≤ q → (va_A (wl_Mo a k σ) s.heap.size) q := fun _ h => Or.inr h
  have hDt : ∀ τ, va_D (fun _ => True) (wl_Mo a k τ) := fun τ => kd_cg hD0 rfl
  have hDw : ∀ τ, va_D (va_A (wl_Mo a k σ) s.heap.size) (wl_Mo a k τ) := fun τ => kd_cg hD0.self rfl
  have hS : va_S (va_A (wl_Mo a k σ) s.heap.size) s.heap s.heap [] := va_S.rf
  have hl := lv_entry ([.ref (a 0), .int p1]) (n := 4) (Nat.le_of_ble_eq_true rfl)
  rw [lg_entry_eq]
  generalize (lg_sl ([.ref (a 0), .int p1]) ++ List.replicate (4 - (lg_sl ([.ref (a 0), .int p1])).length) Slot.unset).toArray = ls at hl ⊢
  have hl : lv_has ls 4 [(0, .ref (a 0)), (1, .int p1)] := hl
  unfold kf_Mo_used at hk
  have L19 : ∀ (n19 : Nat) (x2 : Int32) (x3 : Int32) (τ : S_Mo) (H : Heap) (locs : List Loc) (ls : Array Slot), va_P D cls (wl_Mo a k τ) H → va_S (va_A (wl_Mo a k σ) s.heap.size) s.heap H locs → lv_has ls 4 [(0, .ref (a 0)), (1, .int p1), (2, .int x2), (3, .int x3)] → kf_Mo_used_19 p1 n19 x2 x3 τ = some r0 → W p l e (headSpec w_Mo_used ({ frames := 1, cells := 0, slots := 0, locals := 21 })).room s m [.ref (a 0), .int p1].toArray below meth c H locs 0 0 (MQ below (kp_M D cls (wl_Mo a k r0.2) (wl_Mo a k σ) s.heap.size r0.1) [.ref (a 0), .int p1].toArray s 0 0 (va_A (wl_Mo a k σ) s.heap.size)) (F0 m 19 ls []) := by
    intro n19
    induction n19 with
    | zero =>
      intro x2 x3 τ H locs ls hP hS hl hk
      exact nomatch hk
    | succ n19 ih19 =>
      intro x2 x3 τ H locs ls hP hS hl hk
      rw [kf_Mo_used_19_s] at hk
      refine lv_iload_n hx hb d_Mo_used_19 rfl (lv_at hl 3 rfl) ?_
      refine lv_aload_n hx hb d_Mo_used_20 rfl (lv_at hl 0 rfl) ?_
      refine va_get (D := D) (ci := 6) (v := .int τ.2.2.2.2.2.2.2.2.1) (C := R_Mo) (T := F_Mo) (N := 15) hx hb hts i_uMo hown hK hP 0 rfl rfl 8 (by decide) (hts _ mw_506) (fun _ h9 => h9) rfl d_Mo_used_21 ?_
      refine lv_icmp_gt (tgt := 93) hx hb d_Mo_used_24 (by decide) (fun c1 => ?_) (fun c1 => ?_)
      · have hk := br_p c1 hk
        refine lv_iload_n hx hb d_Mo_used_93 rfl (lv_at hl 2 rfl) ?_
        exact kr_M (w := wl_Mo a k) hx hb hr rfl hlocks hS hP hk d_Mo_used_94
      · have hk := br_n c1 hk
        refine lv_iload_n hx hb d_Mo_used_27 rfl (lv_at hl 2 rfl) ?_
        refine lv_aload_n hx hb d_Mo_used_28 rfl (lv_at hl 0 rfl) ?_
        refine va_get (D := D) (ci := 6) (v := .ref (a 4)) (C := R_Mo) (T := F_Mo) (N := 15) hx hb hts i_uMo hown hK hP 0 rfl rfl 7 (by decide) (hts _ mw_505) (fun _ h9 => h9) rfl d_Mo_used_29 ?_
        refine lv_bipush (v := 6) hx hb d_Mo_used_32 (by decide) ?_
        refine lv_iload_n hx hb d_Mo_used_34 rfl (lv_at hl 3 rfl) ?_
        refine lv_imul hx hb d_Mo_used_35 ?_
        refine lv_iconst (v := 1) hx hb d_Mo_used_36 (by decide) ?_
        refine lv_iadd hx hb d_Mo_used_37 ?_
        obtain ⟨h2, hk⟩ := gd_in hk
        refine va_iald hx hb hK hP 4 3 rfl rfl h2 d_Mo_used_38 ?_
        refine lv_iload_n hx hb d_Mo_used_39 rfl (lv_at hl 1 rfl) ?_
        refine lv_icmp_ne (tgt := 84) hx hb d_Mo_used_40 (by decide) (fun c3 => ?_) (fun c3 => ?_)
        · have hk := br_n c3 hk
          refine lv_iconst (v := 0) hx hb d_Mo_used_84 (by decide) ?_
          refine lv_iadd hx hb d_Mo_used_85 ?_
          refine lv_istore_n (lv' := [(2, .int (x2 + 0)), (0, .ref (a 0)), (1, .int p1), (3, .int x3)]) hx hb d_Mo_used_86 rfl hl (by decide) rfl (fun ls hl => ?_)
          refine lv_iinc (v := (x3 + 1)) (lv' := [(3, .int (x3 + 1)), (2, .int (x2 + 0)), (0, .ref (a 0)), (1, .int p1)]) hx hb d_Mo_used_87 hl (k := 3) rfl rfl (by decide) rfl (fun ls hl => ?_)
          refine lv_goto (tgt := 19) hx hb d_Mo_used_90 (by decide) ?_
          exact ih19 (x2 + 0) (x3 + 1) τ _ _ _ hP hS (lv_sub hl [2, 3, 1, 0] rfl) hk
        · have hk := br_p c3 hk
          refine lv_aload_n hx hb d_Mo_used_43 rfl (lv_at hl 0 rfl) ?_
          refine va_get (D := D) (ci := 6) (v := .ref (a 4)) (C := R_Mo) (T := F_Mo) (N := 15) hx hb hts i_uMo hown hK hP 0 rfl rfl 7 (by decide) (hts _ mw_505) (fun _ h9 => h9) rfl d_Mo_used_44 ?_
          refine lv_bipush (v := 6) hx hb d_Mo_used_47 (by decide) ?_
          refine lv_iload_n hx hb d_Mo_used_49 rfl (lv_at hl 3 rfl) ?_
          refine lv_imul hx hb d_Mo_used_50 ?_
          refine lv_iconst (v := 4) hx hb d_Mo_used_51 (by decide) ?_
          refine lv_iadd hx hb d_Mo_used_52 ?_
          obtain ⟨h4, hk⟩ := gd_in hk
          refine va_iald hx hb hK hP 4 3 rfl rfl h4 d_Mo_used_53 ?_
          refine lv_iconst (v := 2) hx hb d_Mo_used_54 (by decide) ?_
          refine lv_icmp_ne (tgt := 84) hx hb d_Mo_used_55 (by decide) (fun c5 => ?_) (fun c5 => ?_)
          · have hk := br_n c5 hk
            refine lv_iconst (v := 0) hx hb d_Mo_used_84 (by decide) ?_
            refine lv_iadd hx hb d_Mo_used_85 ?_
            refine lv_istore_n (lv' := [(2, .int (x2 + 0)), (0, .ref (a 0)), (1, .int p1), (3, .int x3)]) hx hb d_Mo_used_86 rfl hl (by decide) rfl (fun ls hl => ?_)
            refine lv_iinc (v := (x3 + 1)) (lv' := [(3, .int (x3 + 1)), (2, .int (x2 + 0)), (0, .ref (a 0)), (1, .int p1)]) hx hb d_Mo_used_87 hl (k := 3) rfl rfl (by decide) rfl (fun ls hl => ?_)
            refine lv_goto (tgt := 19) hx hb d_Mo_used_90 (by decide) ?_
            exact ih19 (x2 + 0) (x3 + 1) τ _ _ _ hP hS (lv_sub hl [2, 3, 1, 0] rfl) hk
          · have hk := br_p c5 hk
            refine lv_aload_n hx hb d_Mo_used_58 rfl (lv_at hl 0 rfl) ?_
            refine va_get (D := D) (ci := 6) (v := .ref (a 4)) (C := R_Mo) (T := F_Mo) (N := 15) hx hb hts i_uMo hown hK hP 0 rfl rfl 7 (by decide) (hts _ mw_505) (fun _ h9 => h9) rfl d_Mo_used_59 ?_
            refine lv_bipush (v := 6) hx hb d_Mo_used_62 (by decide) ?_
            refine lv_iload_n hx hb d_Mo_used_64 rfl (lv_at hl 3 rfl) ?_
            refine lv_imul hx hb d_Mo_used_65 ?_
            refine lv_iconst (v := 3) hx hb d_Mo_used_66 (by decide) ?_
            refine lv_iadd hx hb d_Mo_used_67 ?_
            obtain ⟨h6, hk⟩ := gd_in hk
            refine va_iald hx hb hK hP 4 3 rfl rfl h6 d_Mo_used_68 ?_
            refine lv_aload_n hx hb d_Mo_used_69 rfl (lv_at hl 0 rfl) ?_
            refine va_get (D := D) (ci := 6) (v := .ref (a 4)) (C := R_Mo) (T := F_Mo) (N := 15) hx hb hts i_uMo hown hK hP 0 rfl rfl 7 (by decide) (hts _ mw_505) (fun _ h9 => h9) rfl d_Mo_used_70 ?_
            refine lv_bipush (v := 6) hx hb d_Mo_used_73 (by decide) ?_
            refine lv_iload_n hx hb d_Mo_used_75 rfl (lv_at hl 3 rfl) ?_
            refine lv_imul hx hb d_Mo_used_76 ?_
            refine lv_iconst (v := 2) hx hb d_Mo_used_77 (by decide) ?_
            refine lv_iadd hx hb d_Mo_used_78 ?_
            obtain ⟨h7, hk⟩ := gd_in hk
            refine va_iald hx hb hK hP 4 3 rfl rfl h7 d_Mo_used_79 ?_
            refine lv_isub hx hb d_Mo_used_80 ?_
            refine lv_goto (tgt := 85) hx hb d_Mo_used_81 (by decide) ?_
            refine lv_iadd hx hb d_Mo_used_85 ?_
            refine lv_istore_n (lv' := [(2, .int (x2 + ((τ.2.2.2.2.2.2.2.1 ((6 * x3) + 3).toNatClampNeg) - (τ.2.2.2.2.2.2.2.1 ((6 * x3) + 2).toNatClampNeg)))), (0, .ref (a 0)), (1, .int p1), (3, .int x3)]) hx hb d_Mo_used_86 rfl hl (by decide) rfl (fun ls hl => ?_)
            refine lv_iinc (v := (x3 + 1)) (lv' := [(3, .int (x3 + 1)), (2, .int (x2 + ((τ.2.2.2.2.2.2.2.1 ((6 * x3) + 3).toNatClampNeg) - (τ.2.2.2.2.2.2.2.1 ((6 * x3) + 2).toNatClampNeg)))), (0, .ref (a 0)), (1, .int p1)]) hx hb d_Mo_used_87 hl (k := 3) rfl rfl (by decide) rfl (fun ls hl => ?_)
            refine lv_goto (tgt := 19) hx hb d_Mo_used_90 (by decide) ?_
            exact ih19 (x2 + ((τ.2.2.2.2.2.2.2.1 ((6 * x3) + 3).toNatClampNeg) - (τ.2.2.2.2.2.2.2.1 ((6 * x3) + 2).toNatClampNeg))) (x3 + 1) τ _ _ _ hP hS (lv_sub hl [2, 3, 1, 0] rfl) hk
  refine lv_aload_n hx hb d_Mo_used_0 rfl (lv_at hl 0 rfl) ?_
  refine lv_iconst (v := 0) hx hb d_Mo_used_1 (by decide) ?_
  refine va_put (D := D) (ci := 6) (v := .int 0) (ty := .int) (C := R_Mo) (T := F_Mo) (N := 15) hx hb hts i_uMo t_Mo t_Mo_ok n_Mo hown hK hP (hDw _) hS 0 rfl rfl 0 (by decide) (hts _ mw_498) (fun _ h9 => h9) rfl (t_Mo_ok 0 (by decide)) rfl rfl (Nat.le_of_ble_eq_true rfl) d_Mo_used_2 (fun H locs hP _ hS => ?_)
  have hP : va_P D cls (wl_Mo a k (0, σ.2.1, σ.2.2.1, σ.2.2.2.1, σ.2.2.2.2.1, σ.2.2.2.2.2.1, σ.2.2.2.2.2.2.1, σ.2.2.2.2.2.2.2.1, σ.2.2.2.2.2.2.2.2.1, σ.2.2.2.2.2.2.2.2.2.1, σ.2.2.2.2.2.2.2.2.2.2.1, σ.2.2.2.2.2.2.2.2.2.2.2.1, σ.2.2.2.2.2.2.2.2.2.2.2.2.1, σ.2.2.2.2.2.2.2.2.2.2.2.2.2.1, σ.2.2.2.2.2.2.2.2.2.2.2.2.2.2)) H := hP
  refine lv_aload_n hx hb d_Mo_used_5 rfl (lv_at hl 0 rfl) ?_
  refine lv_iload_n hx hb d_Mo_used_6 rfl (lv_at hl 1 rfl) ?_
  obtain ⟨q8, e8, hk⟩ := ob_s hk
  refine kc_R (va_runV (As := [.int p1]) (rest := []) ⟨hx, hb, hml, hown, hts⟩ (c_Mo_isThing l D a k _ (0, σ.2.1, σ.2.2.1, σ.2.2.2.1, σ.2.2.2.2.1, σ.2.2.2.2.2.1, σ.2.2.2.2.2.2.1, σ.2.2.2.2.2.2.2.1, σ.2.2.2.2.2.2.2.2.1, σ.2.2.2.2.2.2.2.2.2.1, σ.2.2.2.2.2.2.2.2.2.2.1, σ.2.2.2.2.2.2.2.2.2.2.2.1, σ.2.2.2.2.2.2.2.2.2.2.2.2.1, σ.2.2.2.2.2.2.2.2.2.2.2.2.2.1, σ.2.2.2.2.2.2.2.2.2.2.2.2.2.2) p1 q8 e8) (cwV 1 hts (gV mw_568 mw_570 mw_10 mw_33 mw_571) rfl rfl rfl hd_Mo_isThing ⟨Nat.le_of_ble_eq_true rfl, Nat.le_of_ble_eq_true rfl⟩) (kp_V (ci := 6) (q := (R_Mo, F_Mo, 15)) (q0 := 0) hK hP (hDt _) rfl rfl) rfl rfl hl.1 rfl (lv_room (Nat.le_of_ble_eq_true rfl)) d_Mo_used_7 ⟨Nat.zero_le _, Nat.zero_le _⟩) hS hA hP (fun H locs hP hS => ?_)
  refine lv_if_ne (tgt := 15) hx hb d_Mo_used_10 (by decide) (fun c9 => ?_) (fun c9 => ?_)
  · have hk := br_n c9 hk
    refine lv_iconst (v := 0) hx hb d_Mo_used_15 (by decide) ?_
    refine lv_istore_n (lv' := [(2, .int 0), (0, .ref (a 0)), (1, .int p1)]) hx hb d_Mo_used_16 rfl hl (by decide) rfl (fun ls hl => ?_)
    refine lv_iconst (v := 1) hx hb d_Mo_used_17 (by decide) ?_
    refine lv_istore_n (lv' := [(3, .int 1), (2, .int 0), (0, .ref (a 0)), (1, .int p1)]) hx hb d_Mo_used_18 rfl hl (by decide) rfl (fun ls hl => ?_)
    exact L19 FU 0 1 (0, σ.2.1, σ.2.2.1, σ.2.2.2.1, σ.2.2.2.2.1, σ.2.2.2.2.2.1, σ.2.2.2.2.2.2.1, σ.2.2.2.2.2.2.2.1, σ.2.2.2.2.2.2.2.2.1, σ.2.2.2.2.2.2.2.2.2.1, σ.2.2.2.2.2.2.2.2.2.2.1, σ.2.2.2.2.2.2.2.2.2.2.2.1, σ.2.2.2.2.2.2.2.2.2.2.2.2.1, σ.2.2.2.2.2.2.2.2.2.2.2.2.2.1, σ.2.2.2.2.2.2.2.2.2.2.2.2.2.2) _ _ _ hP hS (lv_sub hl [2, 3, 1, 0] rfl) hk
  · have hk := br_p c9 hk
    refine lv_iconst (v := -1) hx hb d_Mo_used_13 (by decide) ?_
    exact kr_M (w := wl_Mo a k) hx hb hr rfl hlocks hS hP hk d_Mo_used_14
