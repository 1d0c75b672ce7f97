set_option maxHeartbeats 4000000 in
set_option maxRecDepth 100000 in
theorem c_Mo_isMain (l : Launch) (D : va_G) (a : Nat → Nat) (k : Nat → ClassId) (sz : Nat) (σ : S_Mo) (p1 : Int32) (r0 : Int32) (hk : kf_Mo_isMain σ p1 = some r0) : Met l y_Mo_isMain w_Mo_isMain ({ frames := 1, cells := 0, slots := 0, locals := 21 }) (kp_P D cls (ty_Mo k) (wl_Mo a k σ) [.ref (a 0), .int p1] sz) (kp_R sz r0) 0 0 (va_A [] sz) := by
  refine Met.ofW (cc := b_Mo_isMain) (maxL := 4) (ret := (some .boolean)) (by decide) rfl ?_
  intro p e s m args below meth c s₁ B hml hv
  obtain ⟨rfl, hsz, hP, hK, hD0⟩ := hv
  have hx := B.exec
  have hb := B.bytes
  have hr := B.returns
  have hts : ∀ w ∈ lw_g, w.before _ s = true := fun w h => atoms_spec (ws := w_Mo_isMain) B.pre w (List.mem_cons_of_mem _ h)
  have hown : s.vm.findClass R_Mo = some m.cls := findClass_of_methodNamed B.named
  have hlocks := B.notSynchronized
  subst hsz
  have hA : ∀ q : Nat, s.heap.size ≤ q → (va_A ([]) s.heap.size) q := fun _ h => Or.inr h
  have hDt : ∀ τ, va_D (fun _ => True) (wl_Mo a k τ) := fun τ => kd_cg hD0 rfl
  have hS : va_S (va_A ([]) s.heap.size) s.heap s.heap [] := va_S.rf
  have hl := lv_entry ([.ref (a 0), .int p1]) (n := 4) (Nat.le_of_ble_eq_true rfl)
  rw [lg_entry_eq]
  generalize (lg_sl ([.ref (a 0), .int p1]) ++ List.replicate (4 - (lg_sl ([.ref (a 0), .int p1])).length) Slot.unset).toArray = ls at hl ⊢
  have hl : lv_has ls 4 [(0, .ref (a 0)), (1, .int p1)] := hl
  unfold kf_Mo_isMain at hk
  have L4 : ∀ (n4 : Nat) (x2 : Int32) (x3 : Int32) (H : Heap) (locs : List Loc) (ls : Array Slot), va_P D cls (wl_Mo a k σ) H → va_S (va_A ([]) s.heap.size) s.heap H locs → lv_has ls 4 [(0, .ref (a 0)), (1, .int p1), (2, .int x2), (3, .int x3)] → kf_Mo_isMain_4 σ p1 n4 x2 x3 = some r0 → W p l e (headSpec w_Mo_isMain ({ frames := 1, cells := 0, slots := 0, locals := 21 })).room s m [.ref (a 0), .int p1].toArray below meth c H locs 0 0 (MQ below (kp_R s.heap.size r0) [.ref (a 0), .int p1].toArray s 0 0 (va_A [] s.heap.size)) (F0 m 4 ls []) := by
    intro n4
    induction n4 with
    | zero =>
      intro x2 x3 H locs ls hP hS hl hk
      exact nomatch hk
    | succ n4 ih4 =>
      intro x2 x3 H locs ls hP hS hl hk
      rw [kf_Mo_isMain_4_s] at hk
      refine lv_iload_n hx hb d_Mo_isMain_4 rfl (lv_at hl 3 rfl) ?_
      refine lv_aload_n hx hb d_Mo_isMain_5 rfl (lv_at hl 0 rfl) ?_
      refine va_get (D := D) (ci := 6) (v := .int σ.2.2.2.2.2.2.2.2.1) (C := R_Mo) (T := F_Mo) (N := 15) hx hb hts i_uMo hown hK hP 0 rfl rfl 8 (by decide) (hts _ mw_506) (fun _ h9 => h9) rfl d_Mo_isMain_6 ?_
      refine lv_icmp_gt (tgt := 51) hx hb d_Mo_isMain_9 (by decide) (fun c1 => ?_) (fun c1 => ?_)
      · have hk := br_p c1 hk
        refine lv_iload_n hx hb d_Mo_isMain_51 rfl (lv_at hl 2 rfl) ?_
        obtain ⟨h2, hk⟩ := gd_in hk
        exact kr_R hx hb hr (kn_b h2) hlocks hS hk d_Mo_isMain_52
      · have hk := br_n c1 hk
        refine lv_iload_n hx hb d_Mo_isMain_12 rfl (lv_at hl 2 rfl) ?_
        refine lv_if_ne (tgt := 39) hx hb d_Mo_isMain_13 (by decide) (fun c3 => ?_) (fun c3 => ?_)
        · have hk := br_n c3 hk
          refine lv_iconst (v := 1) hx hb d_Mo_isMain_39 (by decide) ?_
          refine lv_goto (tgt := 44) hx hb d_Mo_isMain_40 (by decide) ?_
          refine lv_istore_n (lv' := [(2, .int 1), (0, .ref (a 0)), (1, .int p1), (3, .int x3)]) hx hb d_Mo_isMain_44 rfl hl (by decide) rfl (fun ls hl => ?_)
          refine lv_iinc (v := (x3 + 1)) (lv' := [(3, .int (x3 + 1)), (2, .int 1), (0, .ref (a 0)), (1, .int p1)]) hx hb d_Mo_isMain_45 hl (k := 3) rfl rfl (by decide) rfl (fun ls hl => ?_)
          refine lv_goto (tgt := 4) hx hb d_Mo_isMain_48 (by decide) ?_
          exact ih4 1 (x3 + 1) _ _ _ hP hS (lv_sub hl [2, 3, 1, 0] rfl) hk
        · have hk := br_p c3 hk
          refine lv_aload_n hx hb d_Mo_isMain_16 rfl (lv_at hl 0 rfl) ?_
          refine va_get (D := D) (ci := 6) (v := .ref (a 4)) (C := R_Mo) (T := F_Mo) (N := 15) hx hb hts i_uMo hown hK hP 0 rfl rfl 7 (by decide) (hts _ mw_505) (fun _ h9 => h9) rfl d_Mo_isMain_17 ?_
          refine lv_bipush (v := 6) hx hb d_Mo_isMain_20 (by decide) ?_
          refine lv_iload_n hx hb d_Mo_isMain_22 rfl (lv_at hl 3 rfl) ?_
          refine lv_imul hx hb d_Mo_isMain_23 ?_
          refine lv_iconst (v := 5) hx hb d_Mo_isMain_24 (by decide) ?_
          refine lv_iadd hx hb d_Mo_isMain_25 ?_
          obtain ⟨h4, hk⟩ := gd_in hk
          refine va_iald hx hb hK hP 4 3 rfl rfl h4 d_Mo_isMain_26 ?_
          refine lv_iload_n hx hb d_Mo_isMain_27 rfl (lv_at hl 1 rfl) ?_
          refine lv_icmp_ne (tgt := 43) hx hb d_Mo_isMain_28 (by decide) (fun c5 => ?_) (fun c5 => ?_)
          · have hk := br_n c5 hk
            refine lv_iconst (v := 0) hx hb d_Mo_isMain_43 (by decide) ?_
            refine lv_istore_n (lv' := [(2, .int 0), (0, .ref (a 0)), (1, .int p1), (3, .int x3)]) hx hb d_Mo_isMain_44 rfl hl (by decide) rfl (fun ls hl => ?_)
            refine lv_iinc (v := (x3 + 1)) (lv' := [(3, .int (x3 + 1)), (2, .int 0), (0, .ref (a 0)), (1, .int p1)]) hx hb d_Mo_isMain_45 hl (k := 3) rfl rfl (by decide) rfl (fun ls hl => ?_)
            refine lv_goto (tgt := 4) hx hb d_Mo_isMain_48 (by decide) ?_
            exact ih4 0 (x3 + 1) _ _ _ hP hS (lv_sub hl [2, 3, 1, 0] rfl) hk
          · have hk := br_p c5 hk
            refine lv_aload_n hx hb d_Mo_isMain_31 rfl (lv_at hl 0 rfl) ?_
            refine lv_iload_n hx hb d_Mo_isMain_32 rfl (lv_at hl 3 rfl) ?_
            obtain ⟨q6, e6, hk⟩ := ob_s hk
            refine kc_R (va_runV (As := [.int x3]) (rest := []) ⟨hx, hb, hml, hown, hts⟩ (c_Mo_lives l D a k _ σ x3 q6 e6) (cwV 1 hts (gV mw_584 mw_586 mw_13 mw_33 mw_587) rfl rfl rfl hd_Mo_lives ⟨Nat.le_of_ble_eq_true rfl, Nat.le_of_ble_eq_true rfl⟩) (kp_V (ci := 6) (q := (R_Mo, F_Mo, 15)) (q0 := 0) hK hP (hDt _) rfl rfl) rfl rfl hl.1 rfl (lv_room (Nat.le_of_ble_eq_true rfl)) d_Mo_isMain_33 ⟨Nat.zero_le _, Nat.zero_le _⟩) hS hA hP (fun H locs hP hS => ?_)
            refine lv_if_eq (tgt := 43) hx hb d_Mo_isMain_36 (by decide) (fun c7 => ?_) (fun c7 => ?_)
            · have hk := br_p c7 hk
              refine lv_iconst (v := 0) hx hb d_Mo_isMain_43 (by decide) ?_
              refine lv_istore_n (lv' := [(2, .int 0), (0, .ref (a 0)), (1, .int p1), (3, .int x3)]) hx hb d_Mo_isMain_44 rfl hl (by decide) rfl (fun ls hl => ?_)
              refine lv_iinc (v := (x3 + 1)) (lv' := [(3, .int (x3 + 1)), (2, .int 0), (0, .ref (a 0)), (1, .int p1)]) hx hb d_Mo_isMain_45 hl (k := 3) rfl rfl (by decide) rfl (fun ls hl => ?_)
              refine lv_goto (tgt := 4) hx hb d_Mo_isMain_48 (by decide) ?_
              exact ih4 0 (x3 + 1) _ _ _ hP hS (lv_sub hl [2, 3, 1, 0] rfl) hk
            · have hk := br_n c7 hk
              refine lv_iconst (v := 1) hx hb d_Mo_isMain_39 (by decide) ?_
              refine lv_goto (tgt := 44) hx hb d_Mo_isMain_40 (by decide) ?_
              refine lv_istore_n (lv' := [(2, .int 1), (0, .ref (a 0)), (1, .int p1), (3, .int x3)]) hx hb d_Mo_isMain_44 rfl hl (by decide) rfl (fun ls hl => ?_)
              refine lv_iinc (v := (x3 + 1)) (lv' := [(3, .int (x3 + 1)), (2, .int 1), (0, .ref (a 0)), (1, .int p1)]) hx hb d_Mo_isMain_45 hl (k := 3) rfl rfl (by decide) rfl (fun ls hl => ?_)
              refine lv_goto (tgt := 4) hx hb d_Mo_isMain_48 (by decide) ?_
              exact ih4 1 (x3 + 1) _ _ _ hP hS (lv_sub hl [2, 3, 1, 0] rfl) hk
  refine lv_iconst (v := 0) hx hb d_Mo_isMain_0 (by decide) ?_
  refine lv_istore_n (lv' := [(2, .int 0), (0, .ref (a 0)), (1, .int p1)]) hx hb d_Mo_isMain_1 rfl hl (by decide) rfl (fun ls hl => ?_)
  refine lv_iconst (v := 1) hx hb d_Mo_isMain_2 (by decide) ?_
  refine lv_istore_n (lv' := [(3, .int 1), (2, .int 0), (0, .ref (a 0)), (1, .int p1)]) hx hb d_Mo_isMain_3 rfl hl (by decide) rfl (fun ls hl => ?_)
  exact L4 FU 0 1 _ _ _ hP hS (lv_sub hl [2, 3, 1, 0] rfl) hk
set_option maxHeartbeats 4000000 in
set_option maxRecDepth 100000 in
theorem c_Mo_edit (l : Launch) (D : va_G) (a : Nat → Nat) (k : Nat → ClassId) (sz : Nat) (σ : S_Mo) (p1 p2 p3 p4 : Int32) (r0 : Int32 × S_Mo) (hk : kf_Mo_edit σ p1 p2 p3 p4 = some r0) : Met l y_Mo_edit w_Mo_edit ({ frames := 3, cells := 0, slots := 0, locals := 78 }) (kp_P D cls (ty_Mo k) (wl_Mo a k σ) [.ref (a 0), .int p1, .int p2, .int p3, .int p4] sz) (kp_M D cls (wl_Mo a k r0.2) (wl_Mo a k σ) sz r0.1) 0 0 (va_A (wl_Mo a k σ) sz) := by
  refine Met.ofW (cc := b_Mo_edit) (maxL := 6) (ret := (some .int)) (by decide) rfl ?_
  intro p e s m args below meth c s₁ B hml hv
  obtain ⟨rfl, hsz, hP, hK, hD0⟩ := hv
  have hx := B.exec
  have hb := B.bytes
  have hr := B.returns
  have hts : ∀ w ∈ lw_g, w.before _ s = true := fun w h => atoms_spec (ws := w_Mo_edit) B.pre w (List.mem_cons_of_mem _ h)
  have hown : s.vm.findClass R_Mo = some m.cls := findClass_of_methodNamed B.named
  have hlocks := B.notSynchronized
  subst hsz
  have hA : ∀ q : Nat, s.heap.size ≤ q → (va_A (wl_Mo a k σ) s.heap.size) q := fun _ h => Or.inr h
  have hDt : ∀ τ, va_D (fun _ => True) (wl_Mo a k τ) := fun τ => kd_cg hD0 rfl
  have hDw : ∀ τ, va_D (va_A (wl_Mo a k σ) s.heap.size) (wl_Mo a k τ) := fun τ => kd_cg hD0.self rfl
  have hS : va_S (va_A (wl_Mo a k σ) s.heap.size) s.heap s.heap [] := va_S.rf
  have hl := lv_entry ([.ref (a 0), .int p1, .int p2, .int p3, .int p4]) (n := 6) (Nat.le_of_ble_eq_true rfl)
  rw [lg_entry_eq]
  generalize (lg_sl ([.ref (a 0), .int p1, .int p2, .int p3, .int p4]) ++ List.replicate (6 - (lg_sl ([.ref (a 0), .int p1, .int p2, .int p3, .int p4])).length) Slot.unset).toArray = ls at hl ⊢
  have hl : lv_has ls 6 [(0, .ref (a 0)), (1, .int p1), (2, .int p2), (3, .int p3), (4, .int p4)] := hl
  unfold kf_Mo_edit at hk
  refine lv_aload_n hx hb d_Mo_edit_0 rfl (lv_at hl 0 rfl) ?_
  refine lv_iconst (v := 0) hx hb d_Mo_edit_1 (by decide) ?_
  refine va_put (D := D) (ci := 6) (v := .int 0) (ty := .int) (C := R_Mo) (T := F_Mo) (N := 15) hx hb hts i_uMo t_Mo t_Mo_ok n_Mo hown hK hP (hDw _) hS 0 rfl rfl 0 (by decide) (hts _ mw_498) (fun _ h9 => h9) rfl (t_Mo_ok 0 (by decide)) rfl rfl (Nat.le_of_ble_eq_true rfl) d_Mo_edit_2 (fun H locs hP _ hS => ?_)
  have hP : va_P D cls (wl_Mo a k (0, σ.2.1, σ.2.2.1, σ.2.2.2.1, σ.2.2.2.2.1, σ.2.2.2.2.2.1, σ.2.2.2.2.2.2.1, σ.2.2.2.2.2.2.2.1, σ.2.2.2.2.2.2.2.2.1, σ.2.2.2.2.2.2.2.2.2.1, σ.2.2.2.2.2.2.2.2.2.2.1, σ.2.2.2.2.2.2.2.2.2.2.2.1, σ.2.2.2.2.2.2.2.2.2.2.2.2.1, σ.2.2.2.2.2.2.2.2.2.2.2.2.2.1, σ.2.2.2.2.2.2.2.2.2.2.2.2.2.2)) H := hP
  refine lv_aload_n hx hb d_Mo_edit_5 rfl (lv_at hl 0 rfl) ?_
  refine lv_iload_n hx hb d_Mo_edit_6 rfl (lv_at hl 1 rfl) ?_
  refine lv_iload_n hx hb d_Mo_edit_7 rfl (lv_at hl 2 rfl) ?_
  obtain ⟨q1, e1, hk⟩ := ob_s hk
  refine kc_R (va_runV (As := [.int p1, .int p2]) (rest := []) ⟨hx, hb, hml, hown, hts⟩ (c_Mo_isOf l D a k _ (0, σ.2.1, σ.2.2.1, σ.2.2.2.1, σ.2.2.2.2.1, σ.2.2.2.2.2.1, σ.2.2.2.2.2.2.1, σ.2.2.2.2.2.2.2.1, σ.2.2.2.2.2.2.2.2.1, σ.2.2.2.2.2.2.2.2.2.1, σ.2.2.2.2.2.2.2.2.2.2.1, σ.2.2.2.2.2.2.2.2.2.2.2.1, σ.2.2.2.2.2.2.2.2.2.2.2.2.1, σ.2.2.2.2.2.2.2.2.2.2.2.2.2.1, σ.2.2.2.2.2.2.2.2.2.2.2.2.2.2) p1 p2 q1 e1) (cwV 2 hts (gV mw_616 mw_618 mw_18 mw_33 mw_619) rfl rfl rfl hd_Mo_isOf ⟨Nat.le_of_ble_eq_true rfl, Nat.le_of_ble_eq_true rfl⟩) (kp_V (ci := 6) (q := (R_Mo, F_Mo, 15)) (q0 := 0) hK hP (hDt _) rfl rfl) rfl rfl hl.1 rfl (lv_room (Nat.le_of_ble_eq_true rfl)) d_Mo_edit_8 ⟨Nat.zero_le _, Nat.zero_le _⟩) hS hA hP (fun H locs hP hS => ?_)
  refine lv_if_eq (tgt := 36) hx hb d_Mo_edit_11 (by decide) (fun c2 => ?_) (fun c2 => ?_)
  · have hk := br_p c2 hk
    refine lv_iconst (v := 0) hx hb d_Mo_edit_36 (by decide) ?_
    exact kr_M (w := wl_Mo a k) hx hb hr rfl hlocks hS hP hk d_Mo_edit_37
  · have hk := br_n c2 hk
    refine lv_aload_n hx hb d_Mo_edit_14 rfl (lv_at hl 0 rfl) ?_
    refine va_get (D := D) (ci := 6) (v := .ref (a 4)) (C := R_Mo) (T := F_Mo) (N := 15) hx hb hts i_uMo hown hK hP 0 rfl rfl 7 (by decide) (hts _ mw_505) (fun _ h9 => h9) rfl d_Mo_edit_15 ?_
    refine lv_bipush (v := 6) hx hb d_Mo_edit_18 (by decide) ?_
    refine lv_iload_n hx hb d_Mo_edit_20 rfl (lv_at hl 1 rfl) ?_
    refine lv_imul hx hb d_Mo_edit_21 ?_
    refine lv_iconst (v := 5) hx hb d_Mo_edit_22 (by decide) ?_
    refine lv_iadd hx hb d_Mo_edit_23 ?_
    obtain ⟨h3, hk⟩ := gd_in hk
    refine va_iald hx hb hK hP 4 3 rfl rfl h3 d_Mo_edit_24 ?_
    refine lv_if_ne (tgt := 36) hx hb d_Mo_edit_25 (by decide) (fun c4 => ?_) (fun c4 => ?_)
    · have hk := br_n c4 hk
      refine lv_iconst (v := 0) hx hb d_Mo_edit_36 (by decide) ?_
      exact kr_M (w := wl_Mo a k) hx hb hr rfl hlocks hS hP hk d_Mo_edit_37
    · have hk := br_p c4 hk
      refine lv_aload_n hx hb d_Mo_edit_28 rfl (lv_at hl 0 rfl) ?_
      refine lv_iload_n hx hb d_Mo_edit_29 rfl (lv_at hl 1 rfl) ?_
      obtain ⟨q5, e5, hk⟩ := ob_s hk
      refine kc_R (va_runV (As := [.int p1]) (rest := []) ⟨hx, hb, hml, hown, hts⟩ (c_Mo_isMain l D a k _ (0, σ.2.1, σ.2.2.1, σ.2.2.2.1, σ.2.2.2.2.1, σ.2.2.2.2.2.1, σ.2.2.2.2.2.2.1, σ.2.2.2.2.2.2.2.1, σ.2.2.2.2.2.2.2.2.1, σ.2.2.2.2.2.2.2.2.2.1, σ.2.2.2.2.2.2.2.2.2.2.1, σ.2.2.2.2.2.2.2.2.2.2.2.1, σ.2.2.2.2.2.2.2.2.2.2.2.2.1, σ.2.2.2.2.2.2.2.2.2.2.2.2.2.1, σ.2.2.2.2.2.2.2.2.2.2.2.2.2.2) p1 q5 e5) (cwV 1 hts (gV mw_648 mw_650 mw_24 mw_33 mw_651) rfl rfl rfl hd_Mo_isMain ⟨Nat.le_of_ble_eq_true rfl, Nat.le_of_ble_eq_true rfl⟩) (kp_V (ci := 6) (q := (R_Mo, F_Mo, 15)) (q0 := 0) hK hP (hDt _) rfl rfl) rfl rfl hl.1 rfl (lv_room (Nat.le_of_ble_eq_true rfl)) d_Mo_edit_30 ⟨Nat.zero_le _, Nat.zero_le _⟩) hS hA hP (fun H locs hP hS => ?_)
      refine lv_if_eq (tgt := 38) hx hb d_Mo_edit_33 (by decide) (fun c6 => ?_) (fun c6 => ?_)
      · have hk := br_p c6 hk
        refine lv_aload_n hx hb d_Mo_edit_38 rfl (lv_at hl 0 rfl) ?_
        refine lv_iload_n hx hb d_Mo_edit_39 rfl (lv_at hl 2 rfl) ?_
        refine lv_aload_n hx hb d_Mo_edit_40 rfl (lv_at hl 0 rfl) ?_
        refine va_get (D := D) (ci := 6) (v := .ref (a 4)) (C := R_Mo) (T := F_Mo) (N := 15) hx hb hts i_uMo hown hK hP 0 rfl rfl 7 (by decide) (hts _ mw_505) (fun _ h9 => h9) rfl d_Mo_edit_41 ?_
        refine lv_bipush (v := 6) hx hb d_Mo_edit_44 (by decide) ?_
        refine lv_iload_n hx hb d_Mo_edit_46 rfl (lv_at hl 1 rfl) ?_
        refine lv_imul hx hb d_Mo_edit_47 ?_
        refine lv_iconst (v := 1) hx hb d_Mo_edit_48 (by decide) ?_
        refine lv_iadd hx hb d_Mo_edit_49 ?_
        obtain ⟨h7, hk⟩ := gd_in hk
        refine va_iald hx hb hK hP 4 3 rfl rfl h7 d_Mo_edit_50 ?_
        refine lv_iload_n hx hb d_Mo_edit_51 rfl (lv_at hl 3 rfl) ?_
        refine lv_iload hx hb d_Mo_edit_52 (lv_at hl 4 rfl) ?_
        refine lv_iload_n hx hb d_Mo_edit_54 rfl (lv_at hl 1 rfl) ?_
        obtain ⟨q8, e8, hk⟩ := ob_s hk
        refine kc_R (va_runV (As := [.int p2, .int (σ.2.2.2.2.2.2.2.1 ((6 * p1) + 1).toNatClampNeg), .int p3, .int p4, .int p1]) (rest := []) ⟨hx, hb, hml, hown, hts⟩ (c_Mo_against l D a k _ (0, σ.2.1, σ.2.2.1, σ.2.2.2.1, σ.2.2.2.2.1, σ.2.2.2.2.2.1, σ.2.2.2.2.2.2.1, σ.2.2.2.2.2.2.2.1, σ.2.2.2.2.2.2.2.2.1, σ.2.2.2.2.2.2.2.2.2.1, σ.2.2.2.2.2.2.2.2.2.2.1, σ.2.2.2.2.2.2.2.2.2.2.2.1, σ.2.2.2.2.2.2.2.2.2.2.2.2.1, σ.2.2.2.2.2.2.2.2.2.2.2.2.2.1, σ.2.2.2.2.2.2.2.2.2.2.2.2.2.2) p2 (σ.2.2.2.2.2.2.2.1 ((6 * p1) + 1).toNatClampNeg) p3 p4 p1 q8 e8) (cwV 5 hts (gV mw_572 mw_574 mw_11 mw_33 mw_575) rfl rfl rfl hd_Mo_against ⟨Nat.le_of_ble_eq_true rfl, Nat.le_of_ble_eq_true rfl⟩) (kp_V (ci := 6) (q := (R_Mo, F_Mo, 15)) (q0 := 0) hK hP (hDt _) rfl rfl) rfl rfl hl.1 rfl (lv_room (Nat.le_of_ble_eq_true rfl)) d_Mo_edit_55 ⟨Nat.zero_le _, Nat.zero_le _⟩) hS hA hP (fun H locs hP hS => ?_)
        refine lv_istore (lv' := [(5, .int q8), (0, .ref (a 0)), (1, .int p1), (2, .int p2), (3, .int p3), (4, .int p4)]) hx hb d_Mo_edit_58 hl (by decide) rfl (fun ls hl => ?_)
        refine lv_iload hx hb d_Mo_edit_60 (lv_at hl 0 rfl) ?_
        refine lv_if_ge (tgt := 68) hx hb d_Mo_edit_62 (by decide) (fun c9 => ?_) (fun c9 => ?_)
        · have hk := br_p c9 hk
          refine lv_aload_n hx hb d_Mo_edit_68 rfl (lv_at hl 1 rfl) ?_
          refine va_get (D := D) (ci := 6) (v := .ref (a 4)) (C := R_Mo) (T := F_Mo) (N := 15) hx hb hts i_uMo hown hK hP 0 rfl rfl 7 (by decide) (hts _ mw_505) (fun _ h9 => h9) rfl d_Mo_edit_69 ?_
          refine lv_bipush (v := 6) hx hb d_Mo_edit_72 (by decide) ?_
          refine lv_iload_n hx hb d_Mo_edit_74 rfl (lv_at hl 2 rfl) ?_
          refine lv_imul hx hb d_Mo_edit_75 ?_
          refine lv_iconst (v := 2) hx hb d_Mo_edit_76 (by decide) ?_
          refine lv_iadd hx hb d_Mo_edit_77 ?_
          refine lv_iload_n hx hb d_Mo_edit_78 rfl (lv_at hl 4 rfl) ?_
          obtain ⟨h10, hk⟩ := gd_in hk
          refine va_iast hx hb hK hP (hDw _) hS 4 3 rfl rfl h10 d_Mo_edit_79 (fun H locs hP _ hS => ?_)
          have hP : va_P D cls (wl_Mo a k (0, σ.2.1, σ.2.2.1, σ.2.2.2.1, σ.2.2.2.2.1, σ.2.2.2.2.2.1, σ.2.2.2.2.2.2.1, (upd σ.2.2.2.2.2.2.2.1 ((6 * p1) + 2).toNatClampNeg p3), σ.2.2.2.2.2.2.2.2.1, σ.2.2.2.2.2.2.2.2.2.1, σ.2.2.2.2.2.2.2.2.2.2.1, σ.2.2.2.2.2.2.2.2.2.2.2.1, σ.2.2.2.2.2.2.2.2.2.2.2.2.1, σ.2.2.2.2.2.2.2.2.2.2.2.2.2.1, σ.2.2.2.2.2.2.2.2.2.2.2.2.2.2)) H := hP
          refine lv_aload_n hx hb d_Mo_edit_80 rfl (lv_at hl 1 rfl) ?_
          refine va_get (D := D) (ci := 6) (v := .ref (a 4)) (C := R_Mo) (T := F_Mo) (N := 15) hx hb hts i_uMo hown hK hP 0 rfl rfl 7 (by decide) (hts _ mw_505) (fun _ h9 => h9) rfl d_Mo_edit_81 ?_
          refine lv_bipush (v := 6) hx hb d_Mo_edit_84 (by decide) ?_
          refine lv_iload_n hx hb d_Mo_edit_86 rfl (lv_at hl 2 rfl) ?_
          refine lv_imul hx hb d_Mo_edit_87 ?_
          refine lv_iconst (v := 3) hx hb d_Mo_edit_88 (by decide) ?_
          refine lv_iadd hx hb d_Mo_edit_89 ?_
          refine lv_iload hx hb d_Mo_edit_90 (lv_at hl 5 rfl) ?_
          obtain ⟨h11, hk⟩ := gd_in hk
          refine va_iast hx hb hK hP (hDw _) hS 4 3 rfl rfl h11 d_Mo_edit_92 (fun H locs hP _ hS => ?_)
          have hP : va_P D cls (wl_Mo a k (0, σ.2.1, σ.2.2.1, σ.2.2.2.1, σ.2.2.2.2.1, σ.2.2.2.2.2.1, σ.2.2.2.2.2.2.1, (upd (upd σ.2.2.2.2.2.2.2.1 ((6 * p1) + 2).toNatClampNeg p3) ((6 * p1) + 3).toNatClampNeg p4), σ.2.2.2.2.2.2.2.2.1, σ.2.2.2.2.2.2.2.2.2.1, σ.2.2.2.2.2.2.2.2.2.2.1, σ.2.2.2.2.2.2.2.2.2.2.2.1, σ.2.2.2.2.2.2.2.2.2.2.2.2.1, σ.2.2.2.2.2.2.2.2.2.2.2.2.2.1, σ.2.2.2.2.2.2.2.2.2.2.2.2.2.2)) H := hP
          refine lv_iconst (v := 1) hx hb d_Mo_edit_93 (by decide) ?_
          exact kr_M (w := wl_Mo a k) hx hb hr rfl hlocks hS hP hk d_Mo_edit_94
        · have hk := br_n c9 hk
          refine lv_iload hx hb d_Mo_edit_65 (lv_at hl 0 rfl) ?_
          exact kr_M (w := wl_Mo a k) hx hb hr rfl hlocks hS hP hk d_Mo_edit_67
      · have hk := br_n c6 hk
        refine lv_iconst (v := 0) hx hb d_Mo_edit_36 (by decide) ?_
        exact kr_M (w := wl_Mo a k) hx hb hr rfl hlocks hS hP hk d_Mo_edit_37
set_option maxHeartbeats 4000000 in
set_option maxRecDepth 100000 in
theorem c_Mo_equip (l : Launch) (D : va_G) (a : Nat → Nat) (k : Nat → ClassId) (sz : Nat) (σ : S_Mo) (p1 p2 : Int32) (r0 : Int32 × S_Mo) (hk : kf_Mo_equip σ p1 p2 = some r0) : Met l y_Mo_equip w_Mo_equip ({ frames := 2, cells := 0, slots := 0, locals := 50 }) (kp_P D cls (ty_Mo k) (wl_Mo a k σ) [.ref (a 0), .int p1, .int p2] sz) (kp_M D cls (wl_Mo a k r0.2) (wl_Mo a k σ) sz r0.1) 0 0 (va_A (wl_Mo a k σ) sz) := by
  refine Met.ofW (cc := b_Mo_equip) (maxL := 4) (ret := (some .int)) (by decide) rfl ?_
  intro p e s m args below meth c s₁ B hml hv
  obtain ⟨rfl, hsz, hP, hK, hD0⟩ := hv
  have hx := B.exec
  have hb := B.bytes
  have hr := B.returns
  have hts : ∀ w ∈ lw_g, w.before _ s = true := fun w h => atoms_spec (ws := w_Mo_equip) B.pre w (List.mem_cons_of_mem _ h)
  have hown : s.vm.findClass R_Mo = some m.cls := findClass_of_methodNamed B.named
  have hlocks := B.notSynchronized
  subst hsz
  have hA : ∀ q : Nat, s.heap.size ≤ q → (va_A (wl_Mo a k σ) s.heap.size) q := fun _ h => Or.inr h
  have hDt : ∀ τ, va_D (fun _ => True) (wl_Mo a k τ) := fun τ => kd_cg hD0 rfl
  have hDw : ∀ τ, va_D (va_A (wl_Mo a k σ) s.heap.size) (wl_Mo a k τ) := fun τ => kd_cg hD0.self rfl
  have hS : va_S (va_A (wl_Mo a k σ) s.heap.size) s.heap s.heap [] := va_S.rf
  have hl := lv_entry ([.ref (a 0), .int p1, .int p2]) (n := 4) (Nat.le_of_ble_eq_true rfl)
  rw [lg_entry_eq]
  generalize (lg_sl ([.ref (a 0), .int p1, .int p2]) ++ List.replicate (4 - (lg_sl ([.ref (a 0), .int p1, .int p2])).length) Slot.unset).toArray = ls at hl ⊢
  have hl : lv_has ls 4 [(0, .ref (a 0)), (1, .int p1), (2, .int p2)] := hl
  unfold kf_Mo_equip at hk
  refine lv_aload_n hx hb d_Mo_equip_0 rfl (lv_at hl 0 rfl) ?_
  refine lv_iconst (v := 0) hx hb d_Mo_equip_1 (by decide) ?_
  refine va_put (D := D) (ci := 6) (v := .int 0) (ty := .int) (C := R_Mo) (T := F_Mo) (N := 15) hx hb hts i_uMo t_Mo t_Mo_ok n_Mo hown hK hP (hDw _) hS 0 rfl rfl 0 (by decide) (hts _ mw_498) (fun _ h9 => h9) rfl (t_Mo_ok 0 (by decide)) rfl rfl (Nat.le_of_ble_eq_true rfl) d_Mo_equip_2 (fun H locs hP _ hS => ?_)
  have hP : va_P D cls (wl_Mo a k (0, σ.2.1, σ.2.2.1, σ.2.2.2.1, σ.2.2.2.2.1, σ.2.2.2.2.2.1, σ.2.2.2.2.2.2.1, σ.2.2.2.2.2.2.2.1, σ.2.2.2.2.2.2.2.2.1, σ.2.2.2.2.2.2.2.2.2.1, σ.2.2.2.2.2.2.2.2.2.2.1, σ.2.2.2.2.2.2.2.2.2.2.2.1, σ.2.2.2.2.2.2.2.2.2.2.2.2.1, σ.2.2.2.2.2.2.2.2.2.2.2.2.2.1, σ.2.2.2.2.2.2.2.2.2.2.2.2.2.2)) H := hP
  refine lv_aload_n hx hb d_Mo_equip_5 rfl (lv_at hl 0 rfl) ?_
  refine lv_iload_n hx hb d_Mo_equip_6 rfl (lv_at hl 1 rfl) ?_
  obtain ⟨q1, e1, hk⟩ := ob_s hk
  refine kc_R (va_runV (As := [.int p1]) (rest := []) ⟨hx, hb, hml, hown, hts⟩ (c_Mo_isBooking l D a k _ (0, σ.2.1, σ.2.2.1, σ.2.2.2.1, σ.2.2.2.2.1, σ.2.2.2.2.2.1, σ.2.2.2.2.2.2.1, σ.2.2.2.2.2.2.2.1, σ.2.2.2.2.2.2.2.2.1, σ.2.2.2.2.2.2.2.2.2.1, σ.2.2.2.2.2.2.2.2.2.2.1, σ.2.2.2.2.2.2.2.2.2.2.2.1, σ.2.2.2.2.2.2.2.2.2.2.2.2.1, σ.2.2.2.2.2.2.2.2.2.2.2.2.2.1, σ.2.2.2.2.2.2.2.2.2.2.2.2.2.2) p1 q1 e1) (cwV 1 hts (gV mw_604 mw_606 mw_17 mw_33 mw_607) rfl rfl rfl hd_Mo_isBooking ⟨Nat.le_of_ble_eq_true rfl, Nat.le_of_ble_eq_true rfl⟩) (kp_V (ci := 6) (q := (R_Mo, F_Mo, 15)) (q0 := 0) hK hP (hDt _) rfl rfl) rfl rfl hl.1 rfl (lv_room (Nat.le_of_ble_eq_true rfl)) d_Mo_equip_7 ⟨Nat.zero_le _, Nat.zero_le _⟩) hS hA hP (fun H locs hP hS => ?_)
  refine lv_if_eq (tgt := 59) hx hb d_Mo_equip_10 (by decide) (fun c2 => ?_) (fun c2 => ?_)
  · have hk := br_p c2 hk
    refine lv_iconst (v := 0) hx hb d_Mo_equip_59 (by decide) ?_
    exact kr_M (w := wl_Mo a k) hx hb hr rfl hlocks hS hP hk d_Mo_equip_60
  · have hk := br_n c2 hk
    refine lv_aload_n hx hb d_Mo_equip_13 rfl (lv_at hl 0 rfl) ?_
    refine va_get (D := D) (ci := 6) (v := .ref (a 4)) (C := R_Mo) (T := F_Mo) (N := 15) hx hb hts i_uMo hown hK hP 0 rfl rfl 7 (by decide) (hts _ mw_505) (fun _ h9 => h9) rfl d_Mo_equip_14 ?_
    refine lv_bipush (v := 6) hx hb d_Mo_equip_17 (by decide) ?_
    refine lv_iload_n hx hb d_Mo_equip_19 rfl (lv_at hl 1 rfl) ?_
    refine lv_imul hx hb d_Mo_equip_20 ?_
    refine lv_iconst (v := 4) hx hb d_Mo_equip_21 (by decide) ?_
    refine lv_iadd hx hb d_Mo_equip_22 ?_
    obtain ⟨h3, hk⟩ := gd_in hk
    refine va_iald hx hb hK hP 4 3 rfl rfl h3 d_Mo_equip_23 ?_
    refine lv_if_ne (tgt := 59) hx hb d_Mo_equip_24 (by decide) (fun c4 => ?_) (fun c4 => ?_)
    · have hk := br_n c4 hk
      refine lv_iconst (v := 0) hx hb d_Mo_equip_59 (by decide) ?_
      exact kr_M (w := wl_Mo a k) hx hb hr rfl hlocks hS hP hk d_Mo_equip_60
    · have hk := br_p c4 hk
      refine lv_aload_n hx hb d_Mo_equip_27 rfl (lv_at hl 0 rfl) ?_
      refine va_get (D := D) (ci := 6) (v := .ref (a 4)) (C := R_Mo) (T := F_Mo) (N := 15) hx hb hts i_uMo hown hK hP 0 rfl rfl 7 (by decide) (hts _ mw_505) (fun _ h9 => h9) rfl d_Mo_equip_28 ?_
      refine lv_bipush (v := 6) hx hb d_Mo_equip_31 (by decide) ?_
      refine lv_iload_n hx hb d_Mo_equip_33 rfl (lv_at hl 1 rfl) ?_
      refine lv_imul hx hb d_Mo_equip_34 ?_
      refine lv_iconst (v := 5) hx hb d_Mo_equip_35 (by decide) ?_
      refine lv_iadd hx hb d_Mo_equip_36 ?_
      obtain ⟨h5, hk⟩ := gd_in hk
      refine va_iald hx hb hK hP 4 3 rfl rfl h5 d_Mo_equip_37 ?_
      refine lv_if_ne (tgt := 59) hx hb d_Mo_equip_38 (by decide) (fun c6 => ?_) (fun c6 => ?_)
      · have hk := br_n c6 hk
        refine lv_iconst (v := 0) hx hb d_Mo_equip_59 (by decide) ?_
        exact kr_M (w := wl_Mo a k) hx hb hr rfl hlocks hS hP hk d_Mo_equip_60
      · have hk := br_p c6 hk
        refine lv_aload_n hx hb d_Mo_equip_41 rfl (lv_at hl 0 rfl) ?_
        refine lv_iload_n hx hb d_Mo_equip_42 rfl (lv_at hl 2 rfl) ?_
        obtain ⟨q7, e7, hk⟩ := ob_s hk
        refine kc_R (va_runV (As := [.int p2]) (rest := []) ⟨hx, hb, hml, hown, hts⟩ (c_Mo_isThing l D a k _ (0, σ.2.1, σ.2.2.1, σ.2.2.2.1, σ.2.2.2.2.1, σ.2.2.2.2.2.1, σ.2.2.2.2.2.2.1, σ.2.2.2.2.2.2.2.1, σ.2.2.2.2.2.2.2.2.1, σ.2.2.2.2.2.2.2.2.2.1, σ.2.2.2.2.2.2.2.2.2.2.1, σ.2.2.2.2.2.2.2.2.2.2.2.1, σ.2.2.2.2.2.2.2.2.2.2.2.2.1, σ.2.2.2.2.2.2.2.2.2.2.2.2.2.1, σ.2.2.2.2.2.2.2.2.2.2.2.2.2.2) p2 q7 e7) (cwV 1 hts (gV mw_568 mw_570 mw_10 mw_33 mw_571) rfl rfl rfl hd_Mo_isThing ⟨Nat.le_of_ble_eq_true rfl, Nat.le_of_ble_eq_true rfl⟩) (kp_V (ci := 6) (q := (R_Mo, F_Mo, 15)) (q0 := 0) hK hP (hDt _) rfl rfl) rfl rfl hl.1 rfl (lv_room (Nat.le_of_ble_eq_true rfl)) d_Mo_equip_43 ⟨Nat.zero_le _, Nat.zero_le _⟩) hS hA hP (fun H locs hP hS => ?_)
        refine lv_if_eq (tgt := 59) hx hb d_Mo_equip_46 (by decide) (fun c8 => ?_) (fun c8 => ?_)
        · have hk := br_p c8 hk
          refine lv_iconst (v := 0) hx hb d_Mo_equip_59 (by decide) ?_
          exact kr_M (w := wl_Mo a k) hx hb hr rfl hlocks hS hP hk d_Mo_equip_60
        · have hk := br_n c8 hk
          refine lv_aload_n hx hb d_Mo_equip_49 rfl (lv_at hl 0 rfl) ?_
          refine va_get (D := D) (ci := 6) (v := .int σ.2.2.2.2.2.2.2.2.1) (C := R_Mo) (T := F_Mo) (N := 15) hx hb hts i_uMo hown hK hP 0 rfl rfl 8 (by decide) (hts _ mw_506) (fun _ h9 => h9) rfl d_Mo_equip_50 ?_
          refine lv_sipush (v := 200) hx hb d_Mo_equip_53 (by decide) ?_
          refine lv_icmp_ne (tgt := 61) hx hb d_Mo_equip_56 (by decide) (fun c9 => ?_) (fun c9 => ?_)
          · have hk := br_n c9 hk
            refine lv_bipush (v := 6) hx hb d_Mo_equip_61 (by decide) ?_
            refine lv_iload_n hx hb d_Mo_equip_63 rfl (lv_at hl 1 rfl) ?_
            refine lv_imul hx hb d_Mo_equip_64 ?_
            refine lv_istore_n (lv' := [(3, .int (6 * p1)), (0, .ref (a 0)), (1, .int p1), (2, .int p2)]) hx hb d_Mo_equip_65 rfl hl (by decide) rfl (fun ls hl => ?_)
            refine lv_iload_n hx hb d_Mo_equip_66 rfl (lv_at hl 3 rfl) ?_
            refine lv_aload_n hx hb d_Mo_equip_67 rfl (lv_at hl 1 rfl) ?_
            refine va_get (D := D) (ci := 6) (v := .ref (a 4)) (C := R_Mo) (T := F_Mo) (N := 15) hx hb hts i_uMo hown hK hP 0 rfl rfl 7 (by decide) (hts _ mw_505) (fun _ h9 => h9) rfl d_Mo_equip_68 ?_
            refine lv_iload_n hx hb d_Mo_equip_71 rfl (lv_at hl 0 rfl) ?_
            refine lv_iconst (v := 1) hx hb d_Mo_equip_72 (by decide) ?_
            refine lv_iadd hx hb d_Mo_equip_73 ?_
            obtain ⟨h10, hk⟩ := gd_in hk
            refine va_iald hx hb hK hP 4 3 rfl rfl h10 d_Mo_equip_74 ?_
            refine lv_icmp_eq (tgt := 104) hx hb d_Mo_equip_75 (by decide) (fun c11 => ?_) (fun c11 => ?_)
            · have hk := br_p c11 hk
              refine lv_iconst (v := 0) hx hb d_Mo_equip_104 (by decide) ?_
              exact kr_M (w := wl_Mo a k) hx hb hr rfl hlocks hS hP hk d_Mo_equip_105
            · have hk := br_n c11 hk
              refine lv_aload_n hx hb d_Mo_equip_78 rfl (lv_at hl 1 rfl) ?_
              refine va_get (D := D) (ci := 6) (v := .ref (a 3)) (C := R_Mo) (T := F_Mo) (N := 15) hx hb hts i_uMo hown hK hP 0 rfl rfl 5 (by decide) (hts _ mw_503) (fun _ h9 => h9) rfl d_Mo_equip_79 ?_
              refine lv_iconst (v := 5) hx hb d_Mo_equip_82 (by decide) ?_
              refine lv_iload_n hx hb d_Mo_equip_83 rfl (lv_at hl 3 rfl) ?_
              refine lv_imul hx hb d_Mo_equip_84 ?_
              obtain ⟨h12, hk⟩ := gd_in hk
              refine va_iald hx hb hK hP 3 2 rfl rfl h12 d_Mo_equip_85 ?_
              refine lv_aload_n hx hb d_Mo_equip_86 rfl (lv_at hl 1 rfl) ?_
              refine va_get (D := D) (ci := 6) (v := .ref (a 3)) (C := R_Mo) (T := F_Mo) (N := 15) hx hb hts i_uMo hown hK hP 0 rfl rfl 5 (by decide) (hts _ mw_503) (fun _ h9 => h9) rfl d_Mo_equip_87 ?_
              refine lv_iconst (v := 5) hx hb d_Mo_equip_90 (by decide) ?_
              refine lv_aload_n hx hb d_Mo_equip_91 rfl (lv_at hl 1 rfl) ?_
              refine va_get (D := D) (ci := 6) (v := .ref (a 4)) (C := R_Mo) (T := F_Mo) (N := 15) hx hb hts i_uMo hown hK hP 0 rfl rfl 7 (by decide) (hts _ mw_505) (fun _ h9 => h9) rfl d_Mo_equip_92 ?_
              refine lv_iload_n hx hb d_Mo_equip_95 rfl (lv_at hl 0 rfl) ?_
              refine lv_iconst (v := 1) hx hb d_Mo_equip_96 (by decide) ?_
              refine lv_iadd hx hb d_Mo_equip_97 ?_
              refine va_iald hx hb hK hP 4 3 rfl rfl h10 d_Mo_equip_98 ?_
              refine lv_imul hx hb d_Mo_equip_99 ?_
              obtain ⟨h13, hk⟩ := gd_in hk
              refine va_iald hx hb hK hP 3 2 rfl rfl h13 d_Mo_equip_100 ?_
              refine lv_icmp_eq (tgt := 106) hx hb d_Mo_equip_101 (by decide) (fun c14 => ?_) (fun c14 => ?_)
              · have hk := br_p c14 hk
                refine lv_aload_n hx hb d_Mo_equip_106 rfl (lv_at hl 1 rfl) ?_
                refine lv_iload_n hx hb d_Mo_equip_107 rfl (lv_at hl 3 rfl) ?_
                refine lv_aload_n hx hb d_Mo_equip_108 rfl (lv_at hl 1 rfl) ?_
                refine va_get (D := D) (ci := 6) (v := .ref (a 4)) (C := R_Mo) (T := F_Mo) (N := 15) hx hb hts i_uMo hown hK hP 0 rfl rfl 7 (by decide) (hts _ mw_505) (fun _ h9 => h9) rfl d_Mo_equip_109 ?_
                refine lv_iload_n hx hb d_Mo_equip_112 rfl (lv_at hl 0 rfl) ?_
                refine lv_iconst (v := 2) hx hb d_Mo_equip_113 (by decide) ?_
                refine lv_iadd hx hb d_Mo_equip_114 ?_
                obtain ⟨h15, hk⟩ := gd_in hk
                refine va_iald hx hb hK hP 4 3 rfl rfl h15 d_Mo_equip_115 ?_
                refine lv_aload_n hx hb d_Mo_equip_116 rfl (lv_at hl 1 rfl) ?_
                refine va_get (D := D) (ci := 6) (v := .ref (a 4)) (C := R_Mo) (T := F_Mo) (N := 15) hx hb hts i_uMo hown hK hP 0 rfl rfl 7 (by decide) (hts _ mw_505) (fun _ h9 => h9) rfl d_Mo_equip_117 ?_
                refine lv_iload_n hx hb d_Mo_equip_120 rfl (lv_at hl 0 rfl) ?_
                refine lv_iconst (v := 3) hx hb d_Mo_equip_121 (by decide) ?_
                refine lv_iadd hx hb d_Mo_equip_122 ?_
                obtain ⟨h16, hk⟩ := gd_in hk
                refine va_iald hx hb hK hP 4 3 rfl rfl h16 d_Mo_equip_123 ?_
                refine lv_iconst (v := 0) hx hb d_Mo_equip_124 (by decide) ?_
                obtain ⟨q17, e17, hk⟩ := ob_s hk
                refine kc_R (va_runV (As := [.int p2, .int (σ.2.2.2.2.2.2.2.1 ((6 * p1) + 2).toNatClampNeg), .int (σ.2.2.2.2.2.2.2.1 ((6 * p1) + 3).toNatClampNeg), .int 0]) (rest := []) ⟨hx, hb, hml, hown, hts⟩ (c_Mo_clashes l D a k _ (0, σ.2.1, σ.2.2.1, σ.2.2.2.1, σ.2.2.2.2.1, σ.2.2.2.2.2.1, σ.2.2.2.2.2.2.1, σ.2.2.2.2.2.2.2.1, σ.2.2.2.2.2.2.2.2.1, σ.2.2.2.2.2.2.2.2.2.1, σ.2.2.2.2.2.2.2.2.2.2.1, σ.2.2.2.2.2.2.2.2.2.2.2.1, σ.2.2.2.2.2.2.2.2.2.2.2.2.1, σ.2.2.2.2.2.2.2.2.2.2.2.2.2.1, σ.2.2.2.2.2.2.2.2.2.2.2.2.2.2) p2 (σ.2.2.2.2.2.2.2.1 ((6 * p1) + 2).toNatClampNeg) (σ.2.2.2.2.2.2.2.1 ((6 * p1) + 3).toNatClampNeg) 0 q17 e17) (cwV 4 hts (gV mw_588 mw_590 mw_14 mw_33 mw_591) rfl rfl rfl hd_Mo_clashes ⟨Nat.le_of_ble_eq_true rfl, Nat.le_of_ble_eq_true rfl⟩) (kp_V (ci := 6) (q := (R_Mo, F_Mo, 15)) (q0 := 0) hK hP (hDt _) rfl rfl) rfl rfl hl.1 rfl (lv_room (Nat.le_of_ble_eq_true rfl)) d_Mo_equip_125 ⟨Nat.zero_le _, Nat.zero_le _⟩) hS hA hP (fun H locs hP hS => ?_)
                refine lv_if_eq (tgt := 136) hx hb d_Mo_equip_128 (by decide) (fun c18 => ?_) (fun c18 => ?_)
                · have hk := br_p c18 hk
                  refine lv_aload_n hx hb d_Mo_equip_136 rfl (lv_at hl 1 rfl) ?_
                  refine lv_aload_n hx hb d_Mo_equip_137 rfl (lv_at hl 1 rfl) ?_
                  refine va_get (D := D) (ci := 6) (v := .ref (a 4)) (C := R_Mo) (T := F_Mo) (N := 15) hx hb hts i_uMo hown hK hP 0 rfl rfl 7 (by decide) (hts _ mw_505) (fun _ h9 => h9) rfl d_Mo_equip_138 ?_
                  refine lv_iload_n hx hb d_Mo_equip_141 rfl (lv_at hl 0 rfl) ?_
                  obtain ⟨h19, hk⟩ := gd_in hk
                  refine va_iald hx hb hK hP 4 3 rfl rfl h19 d_Mo_equip_142 ?_
                  refine lv_iload_n hx hb d_Mo_equip_143 rfl (lv_at hl 3 rfl) ?_
                  refine lv_aload_n hx hb d_Mo_equip_144 rfl (lv_at hl 1 rfl) ?_
                  refine va_get (D := D) (ci := 6) (v := .ref (a 4)) (C := R_Mo) (T := F_Mo) (N := 15) hx hb hts i_uMo hown hK hP 0 rfl rfl 7 (by decide) (hts _ mw_505) (fun _ h9 => h9) rfl d_Mo_equip_145 ?_
                  refine lv_iload_n hx hb d_Mo_equip_148 rfl (lv_at hl 0 rfl) ?_
                  refine lv_iconst (v := 2) hx hb d_Mo_equip_149 (by decide) ?_
                  refine lv_iadd hx hb d_Mo_equip_150 ?_
                  refine va_iald hx hb hK hP 4 3 rfl rfl h15 d_Mo_equip_151 ?_
                  refine lv_aload_n hx hb d_Mo_equip_152 rfl (lv_at hl 1 rfl) ?_
                  refine va_get (D := D) (ci := 6) (v := .ref (a 4)) (C := R_Mo) (T := F_Mo) (N := 15) hx hb hts i_uMo hown hK hP 0 rfl rfl 7 (by decide) (hts _ mw_505) (fun _ h9 => h9) rfl d_Mo_equip_153 ?_
                  refine lv_iload_n hx hb d_Mo_equip_156 rfl (lv_at hl 0 rfl) ?_
                  refine lv_iconst (v := 3) hx hb d_Mo_equip_157 (by decide) ?_
                  refine lv_iadd hx hb d_Mo_equip_158 ?_
                  refine va_iald hx hb hK hP 4 3 rfl rfl h16 d_Mo_equip_159 ?_
                  refine lv_iload_n hx hb d_Mo_equip_160 rfl (lv_at hl 2 rfl) ?_
                  obtain ⟨q20, e20, hk⟩ := ob_s hk
                  refine kc_M (wF := wl_Mo a k q20.2) (va_runV (As := [.int (σ.2.2.2.2.2.2.2.1 (6 * p1).toNatClampNeg), .int p2, .int (σ.2.2.2.2.2.2.2.1 ((6 * p1) + 2).toNatClampNeg), .int (σ.2.2.2.2.2.2.2.1 ((6 * p1) + 3).toNatClampNeg), .int p1]) (rest := []) ⟨hx, hb, hml, hown, hts⟩ (c_Mo_add l D a k _ (0, σ.2.1, σ.2.2.1, σ.2.2.2.1, σ.2.2.2.2.1, σ.2.2.2.2.2.1, σ.2.2.2.2.2.2.1, σ.2.2.2.2.2.2.2.1, σ.2.2.2.2.2.2.2.2.1, σ.2.2.2.2.2.2.2.2.2.1, σ.2.2.2.2.2.2.2.2.2.2.1, σ.2.2.2.2.2.2.2.2.2.2.2.1, σ.2.2.2.2.2.2.2.2.2.2.2.2.1, σ.2.2.2.2.2.2.2.2.2.2.2.2.2.1, σ.2.2.2.2.2.2.2.2.2.2.2.2.2.2) (σ.2.2.2.2.2.2.2.1 (6 * p1).toNatClampNeg) p2 (σ.2.2.2.2.2.2.2.1 ((6 * p1) + 2).toNatClampNeg) (σ.2.2.2.2.2.2.2.1 ((6 * p1) + 3).toNatClampNeg) p1 q20 e20) (cwV 5 hts (gV mw_596 mw_598 mw_16 mw_33 mw_599) rfl rfl rfl hd_Mo_add ⟨Nat.le_of_ble_eq_true rfl, Nat.le_of_ble_eq_true rfl⟩) (kp_V (ci := 6) (q := (R_Mo, F_Mo, 15)) (q0 := 0) hK hP (hDt _) rfl rfl) rfl rfl hl.1 rfl (lv_room (Nat.le_of_ble_eq_true rfl)) d_Mo_equip_161 ⟨Nat.zero_le _, Nat.zero_le _⟩) hS (hDw _) hA (fun _ _ h _ => h) (fun H locs hP hS => ?_)
                  exact kr_M (w := wl_Mo a k) hx hb hr rfl hlocks hS hP hk d_Mo_equip_164
                · have hk := br_n c18 hk
                  refine lv_bipush (v := -6) hx hb d_Mo_equip_131 (by decide) ?_
                  refine lv_goto (tgt := 164) hx hb d_Mo_equip_133 (by decide) ?_
                  exact kr_M (w := wl_Mo a k) hx hb hr rfl hlocks hS hP hk d_Mo_equip_164
              · have hk := br_n c14 hk
                refine lv_iconst (v := 0) hx hb d_Mo_equip_104 (by decide) ?_
                exact kr_M (w := wl_Mo a k) hx hb hr rfl hlocks hS hP hk d_Mo_equip_105
          · have hk := br_p c9 hk
            refine lv_iconst (v := 0) hx hb d_Mo_equip_59 (by decide) ?_
            exact kr_M (w := wl_Mo a k) hx hb hr rfl hlocks hS hP hk d_Mo_equip_60
set_option maxHeartbeats 4000000 in
set_option maxRecDepth 100000 in
theorem c_Mo_tick (l : Launch) (D : va_G) (a : Nat → Nat) (k : Nat → ClassId) (sz : Nat) (σ : S_Mo) (p1 : Int32) (r0 : Int32 × S_Mo) (hk : kf_Mo_tick σ p1 = some r0) : Met l y_Mo_tick w_Mo_tick ({ frames := 5, cells := 0, slots := 0, locals := 126 }) (kp_P D cls (ty_Mo k) (wl_Mo a k σ) [.ref (a 0), .int p1] sz) (kp_M D cls (wl_Mo a k r0.2) (wl_Mo a k σ) sz r0.1) 0 0 (va_A (wl_Mo a k σ) sz) := by
  refine Met.ofW (cc := b_Mo_tick) (maxL := 8) (ret := (some .int)) (by decide) rfl ?_
  intro p e s m args below meth c s₁ B hml hv
  obtain ⟨rfl, hsz, hP, hK, hD0⟩ := hv
  have hx := B.exec
  have hb := B.bytes
  have hr := B.returns
  have hts : ∀ w ∈ lw_g, w.before _ s = true := fun w h => atoms_spec (ws := w_Mo_tick) B.pre w (List.mem_cons_of_mem _ h)
  have hown : s.vm.findClass R_Mo = some m.cls := findClass_of_methodNamed B.named
  have hlocks := B.notSynchronized
  subst hsz
  have hA : ∀ q : Nat, s.heap.size ≤ q → (va_A (wl_Mo a k σ) s.heap.size) q := fun _ h => Or.inr h
  have hDt : ∀ τ, va_D (fun _ => True) (wl_Mo a k τ) := fun τ => kd_cg hD0 rfl
  have hDw : ∀ τ, va_D (va_A (wl_Mo a k σ) s.heap.size) (wl_Mo a k τ) := fun τ => kd_cg hD0.self rfl
  have hS : va_S (va_A (wl_Mo a k σ) s.heap.size) s.heap s.heap [] := va_S.rf
  have hl := lv_entry ([.ref (a 0), .int p1]) (n := 8) (Nat.le_of_ble_eq_true rfl)
  rw [lg_entry_eq]
  generalize (lg_sl ([.ref (a 0), .int p1]) ++ List.replicate (8 - (lg_sl ([.ref (a 0), .int p1])).length) Slot.unset).toArray = ls at hl ⊢
  have hl : lv_has ls 8 [(0, .ref (a 0)), (1, .int p1)] := hl
  unfold kf_Mo_tick at hk
  have L102 : ∀ (n102 : Nat) (x2 : Int32) (x3 : Int32) (τ : S_Mo) (H : Heap) (locs : List Loc) (ls : Array Slot), va_P D cls (wl_Mo a k τ) H → va_S (va_A (wl_Mo a k σ) s.heap.size) s.heap H locs → lv_has ls 8 [(0, .ref (a 0)), (1, .int p1), (2, .int x2), (3, .int x3)] → kf_Mo_tick_102 p1 n102 x2 x3 τ = some r0 → W p l e (headSpec w_Mo_tick ({ frames := 5, cells := 0, slots := 0, locals := 126 })).room s m [.ref (a 0), .int p1].toArray below meth c H locs 0 0 (MQ below (kp_M D cls (wl_Mo a k r0.2) (wl_Mo a k σ) s.heap.size r0.1) [.ref (a 0), .int p1].toArray s 0 0 (va_A (wl_Mo a k σ) s.heap.size)) (F0 m 102 ls []) := by
    intro n102
    induction n102 with
    | zero =>
      intro x2 x3 τ H locs ls hP hS hl hk
      exact nomatch hk
    | succ n102 ih102 =>
      have J233 : ∀ (x2 : Int32) (x3 : Int32) (x5 : Int32) (y0 : Int32) (y1 : Int32) (τ : S_Mo) (H : Heap) (locs : List Loc) (ls : Array Slot), va_P D cls (wl_Mo a k τ) H → va_S (va_A (wl_Mo a k σ) s.heap.size) s.heap H locs → lv_has ls 8 [(0, .ref (a 0)), (1, .int p1), (2, .int x2), (3, .int x3), (5, .int x5)] → kf_Mo_tick_233 p1 (kf_Mo_tick_102 p1 n102) x2 x3 x5 y0 y1 τ = some r0 → W p l e (headSpec w_Mo_tick ({ frames := 5, cells := 0, slots := 0, locals := 126 })).room s m [.ref (a 0), .int p1].toArray below meth c H locs 0 0 (MQ below (kp_M D cls (wl_Mo a k r0.2) (wl_Mo a k σ) s.heap.size r0.1) [.ref (a 0), .int p1].toArray s 0 0 (va_A (wl_Mo a k σ) s.heap.size)) (F0 m 233 ls [.int y0, .int y1, .ref (a 7)]) := by
        intro x2 x3 x5 y0 y1 τ H locs ls hP hS hl hk
        unfold kf_Mo_tick_233 at hk
        obtain ⟨h1, hk⟩ := gd_in hk
        refine va_iast hx hb hK hP (hDw _) hS 7 6 rfl rfl h1 d_Mo_tick_233 (fun H locs hP _ hS => ?_)
        have hP : va_P D cls (wl_Mo a k (τ.1, τ.2.1, τ.2.2.1, τ.2.2.2.1, τ.2.2.2.2.1, τ.2.2.2.2.2.1, τ.2.2.2.2.2.2.1, τ.2.2.2.2.2.2.2.1, τ.2.2.2.2.2.2.2.2.1, τ.2.2.2.2.2.2.2.2.2.1, τ.2.2.2.2.2.2.2.2.2.2.1, τ.2.2.2.2.2.2.2.2.2.2.2.1, (upd τ.2.2.2.2.2.2.2.2.2.2.2.2.1 y1.toNatClampNeg y0), τ.2.2.2.2.2.2.2.2.2.2.2.2.2.1, τ.2.2.2.2.2.2.2.2.2.2.2.2.2.2)) H := hP
        refine lv_iinc (v := (x2 + 1)) (lv' := [(2, .int (x2 + 1)), (0, .ref (a 0)), (1, .int p1), (3, .int x3), (5, .int x5)]) hx hb d_Mo_tick_234 hl (k := 2) rfl rfl (by decide) rfl (fun ls hl => ?_)
        refine lv_aload_n hx hb d_Mo_tick_237 rfl (lv_at hl 1 rfl) ?_
        refine lv_iload_n hx hb d_Mo_tick_238 rfl (lv_at hl 3 rfl) ?_
        refine lv_iload hx hb d_Mo_tick_239 (lv_at hl 4 rfl) ?_
        obtain ⟨q2, e2, hk⟩ := ob_s hk
        refine kc_M (wF := wl_Mo a k q2.2) (va_runV (As := [.int x3, .int x5]) (rest := []) ⟨hx, hb, hml, hown, hts⟩ (c_Mo_grantAll l D a k _ (τ.1, τ.2.1, τ.2.2.1, τ.2.2.2.1, τ.2.2.2.2.1, τ.2.2.2.2.2.1, τ.2.2.2.2.2.2.1, τ.2.2.2.2.2.2.2.1, τ.2.2.2.2.2.2.2.2.1, τ.2.2.2.2.2.2.2.2.2.1, τ.2.2.2.2.2.2.2.2.2.2.1, τ.2.2.2.2.2.2.2.2.2.2.2.1, (upd τ.2.2.2.2.2.2.2.2.2.2.2.2.1 y1.toNatClampNeg y0), τ.2.2.2.2.2.2.2.2.2.2.2.2.2.1, τ.2.2.2.2.2.2.2.2.2.2.2.2.2.2) x3 x5 q2 e2) (cwV 2 hts (gV mw_624 mw_626 mw_20 mw_33 mw_627) rfl rfl rfl hd_Mo_grantAll ⟨Nat.le_of_ble_eq_true rfl, Nat.le_of_ble_eq_true rfl⟩) (kp_V (ci := 6) (q := (R_Mo, F_Mo, 15)) (q0 := 0) hK hP (hDt _) rfl rfl) rfl rfl hl.1 rfl (lv_room (Nat.le_of_ble_eq_true rfl)) d_Mo_tick_241 ⟨Nat.zero_le _, Nat.zero_le _⟩) hS (hDw _) hA (fun _ _ h _ => h) (fun H locs hP hS => ?_)
        refine lv_istore (lv' := [(7, .int q2.1), (2, .int (x2 + 1)), (0, .ref (a 0)), (1, .int p1), (3, .int x3), (5, .int x5)]) hx hb d_Mo_tick_244 hl (by decide) rfl (fun ls hl => ?_)
        refine lv_iload_n hx hb d_Mo_tick_246 rfl (lv_at hl 1 rfl) ?_
        refine lv_iload hx hb d_Mo_tick_247 (lv_at hl 0 rfl) ?_
        refine lv_if_ge (tgt := 256) hx hb d_Mo_tick_249 (by decide) (fun c3 => ?_) (fun c3 => ?_)
        · have hk := br_p c3 hk
          refine lv_iconst (v := 0) hx hb d_Mo_tick_256 (by decide) ?_
          refine lv_iadd hx hb d_Mo_tick_257 ?_
          refine lv_istore_n (lv' := [(2, .int ((x2 + 1) + 0)), (7, .int q2.1), (0, .ref (a 0)), (1, .int p1), (3, .int x3), (5, .int x5)]) hx hb d_Mo_tick_258 rfl hl (by decide) rfl (fun ls hl => ?_)
          refine lv_iinc (v := (x3 + 1)) (lv' := [(3, .int (x3 + 1)), (2, .int ((x2 + 1) + 0)), (7, .int q2.1), (0, .ref (a 0)), (1, .int p1), (5, .int x5)]) hx hb d_Mo_tick_259 hl (k := 4) rfl rfl (by decide) rfl (fun ls hl => ?_)
          refine lv_goto (tgt := 102) hx hb d_Mo_tick_262 (by decide) ?_
          exact ih102 ((x2 + 1) + 0) (x3 + 1) q2.2 _ _ _ hP hS (lv_sub hl [3, 4, 1, 0] rfl) hk
        · have hk := br_n c3 hk
          refine lv_iconst (v := 1) hx hb d_Mo_tick_252 (by decide) ?_
          refine lv_goto (tgt := 257) hx hb d_Mo_tick_253 (by decide) ?_
          refine lv_iadd hx hb d_Mo_tick_257 ?_
          refine lv_istore_n (lv' := [(2, .int ((x2 + 1) + 1)), (7, .int q2.1), (0, .ref (a 0)), (1, .int p1), (3, .int x3), (5, .int x5)]) hx hb d_Mo_tick_258 rfl hl (by decide) rfl (fun ls hl => ?_)
          refine lv_iinc (v := (x3 + 1)) (lv' := [(3, .int (x3 + 1)), (2, .int ((x2 + 1) + 1)), (7, .int q2.1), (0, .ref (a 0)), (1, .int p1), (5, .int x5)]) hx hb d_Mo_tick_259 hl (k := 4) rfl rfl (by decide) rfl (fun ls hl => ?_)
          refine lv_goto (tgt := 102) hx hb d_Mo_tick_262 (by decide) ?_
          exact ih102 ((x2 + 1) + 1) (x3 + 1) q2.2 _ _ _ hP hS (lv_sub hl [3, 4, 1, 0] rfl) hk
      intro x2 x3 τ H locs ls hP hS hl hk
      rw [kf_Mo_tick_102_s] at hk
      refine lv_iload_n hx hb d_Mo_tick_102 rfl (lv_at hl 3 rfl) ?_
      refine lv_aload_n hx hb d_Mo_tick_103 rfl (lv_at hl 0 rfl) ?_
      refine va_get (D := D) (ci := 6) (v := .int τ.2.2.2.2.2.2.2.2.1) (C := R_Mo) (T := F_Mo) (N := 15) hx hb hts i_uMo hown hK hP 0 rfl rfl 8 (by decide) (hts _ mw_506) (fun _ h9 => h9) rfl d_Mo_tick_104 ?_
      refine lv_icmp_gt (tgt := 265) hx hb d_Mo_tick_107 (by decide) (fun c4 => ?_) (fun c4 => ?_)
      · have hk := br_p c4 hk
        refine lv_iload_n hx hb d_Mo_tick_265 rfl (lv_at hl 2 rfl) ?_
        exact kr_M (w := wl_Mo a k) hx hb hr rfl hlocks hS hP hk d_Mo_tick_266
      · have hk := br_n c4 hk
        refine lv_bipush (v := 6) hx hb d_Mo_tick_110 (by decide) ?_
        refine lv_iload_n hx hb d_Mo_tick_112 rfl (lv_at hl 3 rfl) ?_
        refine lv_imul hx hb d_Mo_tick_113 ?_
        refine lv_istore (lv' := [(4, .int (6 * x3)), (0, .ref (a 0)), (1, .int p1), (2, .int x2), (3, .int x3)]) hx hb d_Mo_tick_114 hl (by decide) rfl (fun ls hl => ?_)
        refine lv_aload_n hx hb d_Mo_tick_116 rfl (lv_at hl 1 rfl) ?_
        refine va_get (D := D) (ci := 6) (v := .ref (a 4)) (C := R_Mo) (T := F_Mo) (N := 15) hx hb hts i_uMo hown hK hP 0 rfl rfl 7 (by decide) (hts _ mw_505) (fun _ h9 => h9) rfl d_Mo_tick_117 ?_
        refine lv_iload hx hb d_Mo_tick_120 (lv_at hl 0 rfl) ?_
        refine lv_iconst (v := 4) hx hb d_Mo_tick_122 (by decide) ?_
        refine lv_iadd hx hb d_Mo_tick_123 ?_
        obtain ⟨h5, hk⟩ := gd_in hk
        refine va_iald hx hb hK hP 4 3 rfl rfl h5 d_Mo_tick_124 ?_
        refine lv_if_ne (tgt := 259) hx hb d_Mo_tick_125 (by decide) (fun c6 => ?_) (fun c6 => ?_)
        · have hk := br_n c6 hk
          refine lv_iinc (v := (x3 + 1)) (lv' := [(3, .int (x3 + 1)), (4, .int (6 * x3)), (0, .ref (a 0)), (1, .int p1), (2, .int x2)]) hx hb d_Mo_tick_259 hl (k := 4) rfl rfl (by decide) rfl (fun ls hl => ?_)
          refine lv_goto (tgt := 102) hx hb d_Mo_tick_262 (by decide) ?_
          exact ih102 x2 (x3 + 1) τ _ _ _ hP hS (lv_sub hl [2, 3, 4, 0] rfl) hk
        · have hk := br_p c6 hk
          refine lv_aload_n hx hb d_Mo_tick_128 rfl (lv_at hl 1 rfl) ?_
          refine va_get (D := D) (ci := 6) (v := .ref (a 4)) (C := R_Mo) (T := F_Mo) (N := 15) hx hb hts i_uMo hown hK hP 0 rfl rfl 7 (by decide) (hts _ mw_505) (fun _ h9 => h9) rfl d_Mo_tick_129 ?_
          refine lv_iload hx hb d_Mo_tick_132 (lv_at hl 0 rfl) ?_
          refine lv_iconst (v := 5) hx hb d_Mo_tick_134 (by decide) ?_
          refine lv_iadd hx hb d_Mo_tick_135 ?_
          obtain ⟨h7, hk⟩ := gd_in hk
          refine va_iald hx hb hK hP 4 3 rfl rfl h7 d_Mo_tick_136 ?_
          refine lv_if_ne (tgt := 259) hx hb d_Mo_tick_137 (by decide) (fun c8 => ?_) (fun c8 => ?_)
          · have hk := br_n c8 hk
            refine lv_iinc (v := (x3 + 1)) (lv' := [(3, .int (x3 + 1)), (4, .int (6 * x3)), (0, .ref (a 0)), (1, .int p1), (2, .int x2)]) hx hb d_Mo_tick_259 hl (k := 4) rfl rfl (by decide) rfl (fun ls hl => ?_)
            refine lv_goto (tgt := 102) hx hb d_Mo_tick_262 (by decide) ?_
            exact ih102 x2 (x3 + 1) τ _ _ _ hP hS (lv_sub hl [2, 3, 4, 0] rfl) hk
          · have hk := br_p c8 hk
            refine lv_aload_n hx hb d_Mo_tick_140 rfl (lv_at hl 1 rfl) ?_
            refine va_get (D := D) (ci := 6) (v := .ref (a 4)) (C := R_Mo) (T := F_Mo) (N := 15) hx hb hts i_uMo hown hK hP 0 rfl rfl 7 (by decide) (hts _ mw_505) (fun _ h9 => h9) rfl d_Mo_tick_141 ?_
            refine lv_iload hx hb d_Mo_tick_144 (lv_at hl 0 rfl) ?_
            refine lv_iconst (v := 2) hx hb d_Mo_tick_146 (by decide) ?_
            refine lv_iadd hx hb d_Mo_tick_147 ?_
            obtain ⟨h9, hk⟩ := gd_in hk
            refine va_iald hx hb hK hP 4 3 rfl rfl h9 d_Mo_tick_148 ?_
            refine lv_aload_n hx hb d_Mo_tick_149 rfl (lv_at hl 1 rfl) ?_
            refine va_get (D := D) (ci := 6) (v := .ref (a 3)) (C := R_Mo) (T := F_Mo) (N := 15) hx hb hts i_uMo hown hK hP 0 rfl rfl 5 (by decide) (hts _ mw_503) (fun _ h9 => h9) rfl d_Mo_tick_150 ?_
            refine lv_iconst (v := 5) hx hb d_Mo_tick_153 (by decide) ?_
            refine lv_aload_n hx hb d_Mo_tick_154 rfl (lv_at hl 1 rfl) ?_
            refine va_get (D := D) (ci := 6) (v := .ref (a 4)) (C := R_Mo) (T := F_Mo) (N := 15) hx hb hts i_uMo hown hK hP 0 rfl rfl 7 (by decide) (hts _ mw_505) (fun _ h9 => h9) rfl d_Mo_tick_155 ?_
            refine lv_iload hx hb d_Mo_tick_158 (lv_at hl 0 rfl) ?_
            refine lv_iconst (v := 1) hx hb d_Mo_tick_160 (by decide) ?_
            refine lv_iadd hx hb d_Mo_tick_161 ?_
            obtain ⟨h10, hk⟩ := gd_in hk
            refine va_iald hx hb hK hP 4 3 rfl rfl h10 d_Mo_tick_162 ?_
            refine lv_imul hx hb d_Mo_tick_163 ?_
            refine lv_iconst (v := 4) hx hb d_Mo_tick_164 (by decide) ?_
            refine lv_iadd hx hb d_Mo_tick_165 ?_
            obtain ⟨h11, hk⟩ := gd_in hk
            refine va_iald hx hb hK hP 3 2 rfl rfl h11 d_Mo_tick_166 ?_
            refine lv_iadd hx hb d_Mo_tick_167 ?_
            refine lv_iload_n hx hb d_Mo_tick_168 rfl (lv_at hl 2 rfl) ?_
            refine lv_icmp_ge (tgt := 259) hx hb d_Mo_tick_169 (by decide) (fun c12 => ?_) (fun c12 => ?_)
            · have hk := br_p c12 hk
              refine lv_iinc (v := (x3 + 1)) (lv' := [(3, .int (x3 + 1)), (4, .int (6 * x3)), (0, .ref (a 0)), (1, .int p1), (2, .int x2)]) hx hb d_Mo_tick_259 hl (k := 4) rfl rfl (by decide) rfl (fun ls hl => ?_)
              refine lv_goto (tgt := 102) hx hb d_Mo_tick_262 (by decide) ?_
              exact ih102 x2 (x3 + 1) τ _ _ _ hP hS (lv_sub hl [2, 3, 4, 0] rfl) hk
            · have hk := br_n c12 hk
              refine lv_aload_n hx hb d_Mo_tick_172 rfl (lv_at hl 1 rfl) ?_
              refine lv_iload_n hx hb d_Mo_tick_173 rfl (lv_at hl 4 rfl) ?_
              refine lv_iconst (v := 4) hx hb d_Mo_tick_174 (by decide) ?_
              obtain ⟨q13, e13, hk⟩ := ob_s hk
              refine kc_M (wF := wl_Mo a k q13.2) (va_runV (As := [.int x3, .int 4]) (rest := []) ⟨hx, hb, hml, hown, hts⟩ (c_Mo_ends l D a k _ τ x3 4 q13 e13) (cwV 2 hts (gV mw_620 mw_622 mw_19 mw_33 mw_623) rfl rfl rfl hd_Mo_ends ⟨Nat.le_of_ble_eq_true rfl, Nat.le_of_ble_eq_true rfl⟩) (kp_V (ci := 6) (q := (R_Mo, F_Mo, 15)) (q0 := 0) hK hP (hDt _) rfl rfl) rfl rfl hl.1 rfl (lv_room (Nat.le_of_ble_eq_true rfl)) d_Mo_tick_175 ⟨Nat.zero_le _, Nat.zero_le _⟩) hS (hDw _) hA (fun _ _ h _ => h) (fun H locs hP hS => ?_)
              refine lv_istore (lv' := [(5, .int q13.1), (4, .int (6 * x3)), (0, .ref (a 0)), (1, .int p1), (2, .int x2), (3, .int x3)]) hx hb d_Mo_tick_178 hl (by decide) rfl (fun ls hl => ?_)
              refine lv_aload_n hx hb d_Mo_tick_180 rfl (lv_at hl 2 rfl) ?_
              refine va_get (D := D) (ci := 6) (v := .ref (a 4)) (C := R_Mo) (T := F_Mo) (N := 15) hx hb hts i_uMo hown hK hP 0 rfl rfl 7 (by decide) (hts _ mw_505) (fun _ h9 => h9) rfl d_Mo_tick_181 ?_
              refine lv_iload hx hb d_Mo_tick_184 (lv_at hl 1 rfl) ?_
              obtain ⟨h14, hk⟩ := gd_in hk
              refine va_iald hx hb hK hP 4 3 rfl rfl h14 d_Mo_tick_186 ?_
              refine lv_istore (lv' := [(6, .int (q13.2.2.2.2.2.2.2.2.1 (6 * x3).toNatClampNeg)), (5, .int q13.1), (4, .int (6 * x3)), (0, .ref (a 0)), (1, .int p1), (2, .int x2), (3, .int x3)]) hx hb d_Mo_tick_187 hl (by decide) rfl (fun ls hl => ?_)
              refine lv_aload_n hx hb d_Mo_tick_189 rfl (lv_at hl 3 rfl) ?_
              refine va_get (D := D) (ci := 6) (v := .ref (a 6)) (C := R_Mo) (T := F_Mo) (N := 15) hx hb hts i_uMo hown hK hP 0 rfl rfl 11 (by decide) (hts _ mw_509) (fun _ h9 => h9) rfl d_Mo_tick_190 ?_
              refine lv_iload hx hb d_Mo_tick_193 (lv_at hl 0 rfl) ?_
              refine lv_dup2_11 hx hb d_Mo_tick_195 rfl rfl ?_
              obtain ⟨h15, hk⟩ := gd_in hk
              refine va_iald hx hb hK hP 6 5 rfl rfl h15 d_Mo_tick_196 ?_
              refine lv_iconst (v := 1) hx hb d_Mo_tick_197 (by decide) ?_
              refine lv_iadd hx hb d_Mo_tick_198 ?_
              refine va_iast hx hb hK hP (hDw _) hS 6 5 rfl rfl h15 d_Mo_tick_199 (fun H locs hP _ hS => ?_)
              have hP : va_P D cls (wl_Mo a k (q13.2.1, q13.2.2.1, q13.2.2.2.1, q13.2.2.2.2.1, q13.2.2.2.2.2.1, q13.2.2.2.2.2.2.1, q13.2.2.2.2.2.2.2.1, q13.2.2.2.2.2.2.2.2.1, q13.2.2.2.2.2.2.2.2.2.1, q13.2.2.2.2.2.2.2.2.2.2.1, q13.2.2.2.2.2.2.2.2.2.2.2.1, (upd q13.2.2.2.2.2.2.2.2.2.2.2.2.1 (q13.2.2.2.2.2.2.2.2.1 (6 * x3).toNatClampNeg).toNatClampNeg ((q13.2.2.2.2.2.2.2.2.2.2.2.2.1 (q13.2.2.2.2.2.2.2.2.1 (6 * x3).toNatClampNeg).toNatClampNeg) + 1)), q13.2.2.2.2.2.2.2.2.2.2.2.2.2.1, q13.2.2.2.2.2.2.2.2.2.2.2.2.2.2.1, q13.2.2.2.2.2.2.2.2.2.2.2.2.2.2.2)) H := hP
              refine lv_aload_n hx hb d_Mo_tick_200 rfl (lv_at hl 3 rfl) ?_
              refine va_get (D := D) (ci := 6) (v := .ref (a 7)) (C := R_Mo) (T := F_Mo) (N := 15) hx hb hts i_uMo hown hK hP 0 rfl rfl 12 (by decide) (hts _ mw_510) (fun _ h9 => h9) rfl d_Mo_tick_201 ?_
              refine lv_iload hx hb d_Mo_tick_204 (lv_at hl 0 rfl) ?_
              refine lv_aload_n hx hb d_Mo_tick_206 rfl (lv_at hl 3 rfl) ?_
              refine va_get (D := D) (ci := 6) (v := .ref (a 6)) (C := R_Mo) (T := F_Mo) (N := 15) hx hb hts i_uMo hown hK hP 0 rfl rfl 11 (by decide) (hts _ mw_509) (fun _ h9 => h9) rfl d_Mo_tick_207 ?_
              refine lv_iload hx hb d_Mo_tick_210 (lv_at hl 0 rfl) ?_
              refine va_iald hx hb hK hP 6 5 rfl rfl h15 d_Mo_tick_212 ?_
              refine lv_iconst (v := 3) hx hb d_Mo_tick_213 (by decide) ?_
              refine lv_irem hx hb d_Mo_tick_214 (by decide) ?_
              refine lv_if_ne (tgt := 226) hx hb d_Mo_tick_215 (by decide) (fun c16 => ?_) (fun c16 => ?_)
              · have hk := br_n c16 hk
                refine lv_aload_n hx hb d_Mo_tick_226 rfl (lv_at hl 3 rfl) ?_
                refine va_get (D := D) (ci := 6) (v := .ref (a 7)) (C := R_Mo) (T := F_Mo) (N := 15) hx hb hts i_uMo hown hK hP 0 rfl rfl 12 (by decide) (hts _ mw_510) (fun _ h9 => h9) rfl d_Mo_tick_227 ?_
                refine lv_iload hx hb d_Mo_tick_230 (lv_at hl 0 rfl) ?_
                refine va_iald hx hb hK hP 7 6 rfl rfl h15 d_Mo_tick_232 ?_
                exact J233 x2 x3 q13.1 (q13.2.2.2.2.2.2.2.2.2.2.2.2.2.1 (q13.2.2.2.2.2.2.2.2.1 (6 * x3).toNatClampNeg).toNatClampNeg) (q13.2.2.2.2.2.2.2.2.1 (6 * x3).toNatClampNeg) (q13.2.1, q13.2.2.1, q13.2.2.2.1, q13.2.2.2.2.1, q13.2.2.2.2.2.1, q13.2.2.2.2.2.2.1, q13.2.2.2.2.2.2.2.1, q13.2.2.2.2.2.2.2.2.1, q13.2.2.2.2.2.2.2.2.2.1, q13.2.2.2.2.2.2.2.2.2.2.1, q13.2.2.2.2.2.2.2.2.2.2.2.1, (upd q13.2.2.2.2.2.2.2.2.2.2.2.2.1 (q13.2.2.2.2.2.2.2.2.1 (6 * x3).toNatClampNeg).toNatClampNeg ((q13.2.2.2.2.2.2.2.2.2.2.2.2.1 (q13.2.2.2.2.2.2.2.2.1 (6 * x3).toNatClampNeg).toNatClampNeg) + 1)), q13.2.2.2.2.2.2.2.2.2.2.2.2.2.1, q13.2.2.2.2.2.2.2.2.2.2.2.2.2.2.1, q13.2.2.2.2.2.2.2.2.2.2.2.2.2.2.2) _ _ _ hP hS (lv_sub hl [3, 4, 5, 6, 1] rfl) hk
              · have hk := br_p c16 hk
                refine lv_iload_n hx hb d_Mo_tick_218 rfl (lv_at hl 4 rfl) ?_
                refine lv_sipush (v := 10080) hx hb d_Mo_tick_219 (by decide) ?_
                refine lv_iadd hx hb d_Mo_tick_222 ?_
                refine lv_goto (tgt := 233) hx hb d_Mo_tick_223 (by decide) ?_
                exact J233 x2 x3 q13.1 (p1 + 10080) (q13.2.2.2.2.2.2.2.2.1 (6 * x3).toNatClampNeg) (q13.2.1, q13.2.2.1, q13.2.2.2.1, q13.2.2.2.2.1, q13.2.2.2.2.2.1, q13.2.2.2.2.2.2.1, q13.2.2.2.2.2.2.2.1, q13.2.2.2.2.2.2.2.2.1, q13.2.2.2.2.2.2.2.2.2.1, q13.2.2.2.2.2.2.2.2.2.2.1, q13.2.2.2.2.2.2.2.2.2.2.2.1, (upd q13.2.2.2.2.2.2.2.2.2.2.2.2.1 (q13.2.2.2.2.2.2.2.2.1 (6 * x3).toNatClampNeg).toNatClampNeg ((q13.2.2.2.2.2.2.2.2.2.2.2.2.1 (q13.2.2.2.2.2.2.2.2.1 (6 * x3).toNatClampNeg).toNatClampNeg) + 1)), q13.2.2.2.2.2.2.2.2.2.2.2.2.2.1, q13.2.2.2.2.2.2.2.2.2.2.2.2.2.2.1, q13.2.2.2.2.2.2.2.2.2.2.2.2.2.2.2) _ _ _ hP hS (lv_sub hl [3, 4, 5, 6, 1] rfl) hk
  have L28 : ∀ (n28 : Nat) (x2 : Int32) (τ : S_Mo) (H : Heap) (locs : List Loc) (ls : Array Slot), va_P D cls (wl_Mo a k τ) H → va_S (va_A (wl_Mo a k σ) s.heap.size) s.heap H locs → lv_has ls 8 [(0, .ref (a 0)), (1, .int p1), (2, .int x2)] → kf_Mo_tick_28 p1 n28 x2 τ = some r0 → W p l e (headSpec w_Mo_tick ({ frames := 5, cells := 0, slots := 0, locals := 126 })).room s m [.ref (a 0), .int p1].toArray below meth c H locs 0 0 (MQ below (kp_M D cls (wl_Mo a k r0.2) (wl_Mo a k σ) s.heap.size r0.1) [.ref (a 0), .int p1].toArray s 0 0 (va_A (wl_Mo a k σ) s.heap.size)) (F0 m 28 ls []) := by
    intro n28
    induction n28 with
    | zero =>
      intro x2 τ H locs ls hP hS hl hk
      exact nomatch hk
    | succ n28 ih28 =>
      have J91 : ∀ (x2 : Int32) (y0 : Int32) (y1 : Int32) (τ : S_Mo) (H : Heap) (locs : List Loc) (ls : Array Slot), va_P D cls (wl_Mo a k τ) H → va_S (va_A (wl_Mo a k σ) s.heap.size) s.heap H locs → lv_has ls 8 [(0, .ref (a 0)), (1, .int p1), (2, .int x2)] → kf_Mo_tick_91 p1 (kf_Mo_tick_28 p1 n28) x2 y0 y1 τ = some r0 → W p l e (headSpec w_Mo_tick ({ frames := 5, cells := 0, slots := 0, locals := 126 })).room s m [.ref (a 0), .int p1].toArray below meth c H locs 0 0 (MQ below (kp_M D cls (wl_Mo a k r0.2) (wl_Mo a k σ) s.heap.size r0.1) [.ref (a 0), .int p1].toArray s 0 0 (va_A (wl_Mo a k σ) s.heap.size)) (F0 m 91 ls [.int y0, .int y1, .ref (a 4)]) := by
        intro x2 y0 y1 τ H locs ls hP hS hl hk
        unfold kf_Mo_tick_91 at hk
        obtain ⟨h17, hk⟩ := gd_in hk
        refine va_iast hx hb hK hP (hDw _) hS 4 3 rfl rfl h17 d_Mo_tick_91 (fun H locs hP _ hS => ?_)
        have hP : va_P D cls (wl_Mo a k (τ.1, τ.2.1, τ.2.2.1, τ.2.2.2.1, τ.2.2.2.2.1, τ.2.2.2.2.2.1, τ.2.2.2.2.2.2.1, (upd τ.2.2.2.2.2.2.2.1 y1.toNatClampNeg y0), τ.2.2.2.2.2.2.2.2.1, τ.2.2.2.2.2.2.2.2.2.1, τ.2.2.2.2.2.2.2.2.2.2.1, τ.2.2.2.2.2.2.2.2.2.2.2.1, τ.2.2.2.2.2.2.2.2.2.2.2.2.1, τ.2.2.2.2.2.2.2.2.2.2.2.2.2.1, τ.2.2.2.2.2.2.2.2.2.2.2.2.2.2)) H := hP
        refine lv_iinc (v := (x2 + 1)) (lv' := [(2, .int (x2 + 1)), (0, .ref (a 0)), (1, .int p1)]) hx hb d_Mo_tick_92 hl (k := 2) rfl rfl (by decide) rfl (fun ls hl => ?_)
        refine lv_goto (tgt := 28) hx hb d_Mo_tick_95 (by decide) ?_
        exact ih28 (x2 + 1) (τ.1, τ.2.1, τ.2.2.1, τ.2.2.2.1, τ.2.2.2.2.1, τ.2.2.2.2.2.1, τ.2.2.2.2.2.2.1, (upd τ.2.2.2.2.2.2.2.1 y1.toNatClampNeg y0), τ.2.2.2.2.2.2.2.2.1, τ.2.2.2.2.2.2.2.2.2.1, τ.2.2.2.2.2.2.2.2.2.2.1, τ.2.2.2.2.2.2.2.2.2.2.2.1, τ.2.2.2.2.2.2.2.2.2.2.2.2.1, τ.2.2.2.2.2.2.2.2.2.2.2.2.2.1, τ.2.2.2.2.2.2.2.2.2.2.2.2.2.2) _ _ _ hP hS (lv_sub hl [1, 2, 0] rfl) hk
      have J80 : ∀ (x2 : Int32) (y0 : Int32) (τ : S_Mo) (H : Heap) (locs : List Loc) (ls : Array Slot), va_P D cls (wl_Mo a k τ) H → va_S (va_A (wl_Mo a k σ) s.heap.size) s.heap H locs → lv_has ls 8 [(0, .ref (a 0)), (1, .int p1), (2, .int x2)] → kf_Mo_tick_80 p1 (kf_Mo_tick_28 p1 n28) x2 y0 τ = some r0 → W p l e (headSpec w_Mo_tick ({ frames := 5, cells := 0, slots := 0, locals := 126 })).room s m [.ref (a 0), .int p1].toArray below meth c H locs 0 0 (MQ below (kp_M D cls (wl_Mo a k r0.2) (wl_Mo a k σ) s.heap.size r0.1) [.ref (a 0), .int p1].toArray s 0 0 (va_A (wl_Mo a k σ) s.heap.size)) (F0 m 80 ls [.int y0, .ref (a 4)]) := by
        intro x2 y0 τ H locs ls hP hS hl hk
        unfold kf_Mo_tick_80 at hk
        refine lv_aload_n hx hb d_Mo_tick_80 rfl (lv_at hl 0 rfl) ?_
        refine va_get (D := D) (ci := 6) (v := .ref (a 4)) (C := R_Mo) (T := F_Mo) (N := 15) hx hb hts i_uMo hown hK hP 0 rfl rfl 7 (by decide) (hts _ mw_505) (fun _ h9 => h9) rfl d_Mo_tick_81 ?_
        refine lv_bipush (v := 6) hx hb d_Mo_tick_84 (by decide) ?_
        refine lv_iload_n hx hb d_Mo_tick_86 rfl (lv_at hl 2 rfl) ?_
        refine lv_imul hx hb d_Mo_tick_87 ?_
        refine lv_iconst (v := 4) hx hb d_Mo_tick_88 (by decide) ?_
        refine lv_iadd hx hb d_Mo_tick_89 ?_
        obtain ⟨h18, hk⟩ := gd_in hk
        refine va_iald hx hb hK hP 4 3 rfl rfl h18 d_Mo_tick_90 ?_
        exact J91 x2 (τ.2.2.2.2.2.2.2.1 ((6 * x2) + 4).toNatClampNeg) y0 τ _ _ _ hP hS (lv_sub hl [0, 1, 2] rfl) hk
      intro x2 τ H locs ls hP hS hl hk
      rw [kf_Mo_tick_28_s] at hk
      refine lv_iload_n hx hb d_Mo_tick_28 rfl (lv_at hl 2 rfl) ?_
      refine lv_aload_n hx hb d_Mo_tick_29 rfl (lv_at hl 0 rfl) ?_
      refine va_get (D := D) (ci := 6) (v := .int τ.2.2.2.2.2.2.2.2.1) (C := R_Mo) (T := F_Mo) (N := 15) hx hb hts i_uMo hown hK hP 0 rfl rfl 8 (by decide) (hts _ mw_506) (fun _ h9 => h9) rfl d_Mo_tick_30 ?_
      refine lv_icmp_gt (tgt := 98) hx hb d_Mo_tick_33 (by decide) (fun c19 => ?_) (fun c19 => ?_)
      · have hk := br_p c19 hk
        refine lv_iconst (v := 0) hx hb d_Mo_tick_98 (by decide) ?_
        refine lv_istore_n (lv' := [(2, .int 0), (0, .ref (a 0)), (1, .int p1)]) hx hb d_Mo_tick_99 rfl hl (by decide) rfl (fun ls hl => ?_)
        refine lv_iconst (v := 1) hx hb d_Mo_tick_100 (by decide) ?_
        refine lv_istore_n (lv' := [(3, .int 1), (2, .int 0), (0, .ref (a 0)), (1, .int p1)]) hx hb d_Mo_tick_101 rfl hl (by decide) rfl (fun ls hl => ?_)
        exact L102 FU 0 1 τ _ _ _ hP hS (lv_sub hl [2, 3, 1, 0] rfl) hk
      · have hk := br_n c19 hk
        refine lv_aload_n hx hb d_Mo_tick_36 rfl (lv_at hl 0 rfl) ?_
        refine va_get (D := D) (ci := 6) (v := .ref (a 4)) (C := R_Mo) (T := F_Mo) (N := 15) hx hb hts i_uMo hown hK hP 0 rfl rfl 7 (by decide) (hts _ mw_505) (fun _ h9 => h9) rfl d_Mo_tick_37 ?_
        refine lv_bipush (v := 6) hx hb d_Mo_tick_40 (by decide) ?_
        refine lv_iload_n hx hb d_Mo_tick_42 rfl (lv_at hl 2 rfl) ?_
        refine lv_imul hx hb d_Mo_tick_43 ?_
        refine lv_iconst (v := 4) hx hb d_Mo_tick_44 (by decide) ?_
        refine lv_iadd hx hb d_Mo_tick_45 ?_
        refine lv_aload_n hx hb d_Mo_tick_46 rfl (lv_at hl 0 rfl) ?_
        refine va_get (D := D) (ci := 6) (v := .ref (a 4)) (C := R_Mo) (T := F_Mo) (N := 15) hx hb hts i_uMo hown hK hP 0 rfl rfl 7 (by decide) (hts _ mw_505) (fun _ h9 => h9) rfl d_Mo_tick_47 ?_
        refine lv_bipush (v := 6) hx hb d_Mo_tick_50 (by decide) ?_
        refine lv_iload_n hx hb d_Mo_tick_52 rfl (lv_at hl 2 rfl) ?_
        refine lv_imul hx hb d_Mo_tick_53 ?_
        refine lv_iconst (v := 4) hx hb d_Mo_tick_54 (by decide) ?_
        refine lv_iadd hx hb d_Mo_tick_55 ?_
        obtain ⟨h20, hk⟩ := gd_in hk
        refine va_iald hx hb hK hP 4 3 rfl rfl h20 d_Mo_tick_56 ?_
        refine lv_iconst (v := 1) hx hb d_Mo_tick_57 (by decide) ?_
        refine lv_icmp_ne (tgt := 80) hx hb d_Mo_tick_58 (by decide) (fun c21 => ?_) (fun c21 => ?_)
        · have hk := br_n c21 hk
          exact J80 x2 ((6 * x2) + 4) τ _ _ _ hP hS (lv_sub hl [0, 1, 2] rfl) hk
        · have hk := br_p c21 hk
          refine lv_aload_n hx hb d_Mo_tick_61 rfl (lv_at hl 0 rfl) ?_
          refine va_get (D := D) (ci := 6) (v := .ref (a 4)) (C := R_Mo) (T := F_Mo) (N := 15) hx hb hts i_uMo hown hK hP 0 rfl rfl 7 (by decide) (hts _ mw_505) (fun _ h9 => h9) rfl d_Mo_tick_62 ?_
          refine lv_bipush (v := 6) hx hb d_Mo_tick_65 (by decide) ?_
          refine lv_iload_n hx hb d_Mo_tick_67 rfl (lv_at hl 2 rfl) ?_
          refine lv_imul hx hb d_Mo_tick_68 ?_
          refine lv_iconst (v := 3) hx hb d_Mo_tick_69 (by decide) ?_
          refine lv_iadd hx hb d_Mo_tick_70 ?_
          obtain ⟨h22, hk⟩ := gd_in hk
          refine va_iald hx hb hK hP 4 3 rfl rfl h22 d_Mo_tick_71 ?_
          refine lv_iload_n hx hb d_Mo_tick_72 rfl (lv_at hl 1 rfl) ?_
          refine lv_icmp_gt (tgt := 80) hx hb d_Mo_tick_73 (by decide) (fun c23 => ?_) (fun c23 => ?_)
          · have hk := br_p c23 hk
            exact J80 x2 ((6 * x2) + 4) τ _ _ _ hP hS (lv_sub hl [0, 1, 2] rfl) hk
          · have hk := br_n c23 hk
            refine lv_iconst (v := 2) hx hb d_Mo_tick_76 (by decide) ?_
            refine lv_goto (tgt := 91) hx hb d_Mo_tick_77 (by decide) ?_
            exact J91 x2 2 ((6 * x2) + 4) τ _ _ _ hP hS (lv_sub hl [0, 1, 2] rfl) hk
  refine lv_aload_n hx hb d_Mo_tick_0 rfl (lv_at hl 0 rfl) ?_
  refine lv_iconst (v := 0) hx hb d_Mo_tick_1 (by decide) ?_
  refine va_put (D := D) (ci := 6) (v := .int 0) (ty := .int) (C := R_Mo) (T := F_Mo) (N := 15) hx hb hts i_uMo t_Mo t_Mo_ok n_Mo hown hK hP (hDw _) hS 0 rfl rfl 0 (by decide) (hts _ mw_498) (fun _ h9 => h9) rfl (t_Mo_ok 0 (by decide)) rfl rfl (Nat.le_of_ble_eq_true rfl) d_Mo_tick_2 (fun H locs hP _ hS => ?_)
  have hP : va_P D cls (wl_Mo a k (0, σ.2.1, σ.2.2.1, σ.2.2.2.1, σ.2.2.2.2.1, σ.2.2.2.2.2.1, σ.2.2.2.2.2.2.1, σ.2.2.2.2.2.2.2.1, σ.2.2.2.2.2.2.2.2.1, σ.2.2.2.2.2.2.2.2.2.1, σ.2.2.2.2.2.2.2.2.2.2.1, σ.2.2.2.2.2.2.2.2.2.2.2.1, σ.2.2.2.2.2.2.2.2.2.2.2.2.1, σ.2.2.2.2.2.2.2.2.2.2.2.2.2.1, σ.2.2.2.2.2.2.2.2.2.2.2.2.2.2)) H := hP
  refine lv_iload_n hx hb d_Mo_tick_5 rfl (lv_at hl 1 rfl) ?_
  refine lv_aload_n hx hb d_Mo_tick_6 rfl (lv_at hl 0 rfl) ?_
  refine va_get (D := D) (ci := 6) (v := .int σ.2.1) (C := R_Mo) (T := F_Mo) (N := 15) hx hb hts i_uMo hown hK hP 0 rfl rfl 1 (by decide) (hts _ mw_499) (fun _ h9 => h9) rfl d_Mo_tick_7 ?_
  refine lv_icmp_le (tgt := 19) hx hb d_Mo_tick_10 (by decide) (fun c24 => ?_) (fun c24 => ?_)
  · have hk := br_p c24 hk
    refine lv_iconst (v := -1) hx hb d_Mo_tick_19 (by decide) ?_
    exact kr_M (w := wl_Mo a k) hx hb hr rfl hlocks hS hP hk d_Mo_tick_20
  · have hk := br_n c24 hk
    refine lv_iload_n hx hb d_Mo_tick_13 rfl (lv_at hl 1 rfl) ?_
    refine lv_ldc (v := 1000000) hx hb hown (hts _ mw_579) d_Mo_tick_14 ?_
    refine lv_icmp_le (tgt := 21) hx hb d_Mo_tick_16 (by decide) (fun c25 => ?_) (fun c25 => ?_)
    · have hk := br_p c25 hk
      refine lv_aload_n hx hb d_Mo_tick_21 rfl (lv_at hl 0 rfl) ?_
      refine lv_iload_n hx hb d_Mo_tick_22 rfl (lv_at hl 1 rfl) ?_
      refine va_put (D := D) (ci := 6) (v := .int p1) (ty := .int) (C := R_Mo) (T := F_Mo) (N := 15) hx hb hts i_uMo t_Mo t_Mo_ok n_Mo hown hK hP (hDw _) hS 0 rfl rfl 1 (by decide) (hts _ mw_499) (fun _ h9 => h9) rfl (t_Mo_ok 1 (by decide)) rfl rfl (Nat.le_of_ble_eq_true rfl) d_Mo_tick_23 (fun H locs hP _ hS => ?_)
      have hP : va_P D cls (wl_Mo a k (0, p1, σ.2.2.1, σ.2.2.2.1, σ.2.2.2.2.1, σ.2.2.2.2.2.1, σ.2.2.2.2.2.2.1, σ.2.2.2.2.2.2.2.1, σ.2.2.2.2.2.2.2.2.1, σ.2.2.2.2.2.2.2.2.2.1, σ.2.2.2.2.2.2.2.2.2.2.1, σ.2.2.2.2.2.2.2.2.2.2.2.1, σ.2.2.2.2.2.2.2.2.2.2.2.2.1, σ.2.2.2.2.2.2.2.2.2.2.2.2.2.1, σ.2.2.2.2.2.2.2.2.2.2.2.2.2.2)) H := hP
      refine lv_iconst (v := 1) hx hb d_Mo_tick_26 (by decide) ?_
      refine lv_istore_n (lv' := [(2, .int 1), (0, .ref (a 0)), (1, .int p1)]) hx hb d_Mo_tick_27 rfl hl (by decide) rfl (fun ls hl => ?_)
      exact L28 FU 1 (0, p1, σ.2.2.1, σ.2.2.2.1, σ.2.2.2.2.1, σ.2.2.2.2.2.1, σ.2.2.2.2.2.2.1, σ.2.2.2.2.2.2.2.1, σ.2.2.2.2.2.2.2.2.1, σ.2.2.2.2.2.2.2.2.2.1, σ.2.2.2.2.2.2.2.2.2.2.1, σ.2.2.2.2.2.2.2.2.2.2.2.1, σ.2.2.2.2.2.2.2.2.2.2.2.2.1, σ.2.2.2.2.2.2.2.2.2.2.2.2.2.1, σ.2.2.2.2.2.2.2.2.2.2.2.2.2.2) _ _ _ hP hS (lv_sub hl [1, 2, 0] rfl) hk
    · have hk := br_n c25 hk
      refine lv_iconst (v := -1) hx hb d_Mo_tick_19 (by decide) ?_
      exact kr_M (w := wl_Mo a k) hx hb hr rfl hlocks hS hP hk d_Mo_tick_20
set_option maxHeartbeats 4000000 in
set_option maxRecDepth 100000 in
theorem c_Mo_clash (l : Launch) (D : va_G) (a : Nat → Nat) (k : Nat → ClassId) (sz : Nat) (σ : S_Mo) (p1 p2 : Int32) (r0 : Int32 × S_Mo) (hk : kf_Mo_clash σ p1 p2 = some r0) : Met l y_Mo_clash w_Mo_clash ({ frames := 1, cells := 0, slots := 0, locals := 24 }) (kp_P D cls (ty_Mo k) (wl_Mo a k σ) [.ref (a 0), .int p1, .int p2] sz) (kp_M D cls (wl_Mo a k r0.2) (wl_Mo a k σ) sz r0.1) 0 0 (va_A (wl_Mo a k σ) sz) := by
  refine Met.ofW (cc := b_Mo_clash) (maxL := 3) (ret := (some .boolean)) (by decide) rfl ?_
  intro p e s m args below meth c s₁ B hml hv
  obtain ⟨rfl, hsz, hP, hK, hD0⟩ := hv
  have hx := B.exec
  have hb := B.bytes
  have hr := B.returns
  have hts : ∀ w ∈ lw_g, w.before _ s = true := fun w h => atoms_spec (ws := w_Mo_clash) B.pre w (List.mem_cons_of_mem _ h)
  have hown : s.vm.findClass R_Mo = some m.cls := findClass_of_methodNamed B.named
  have hlocks := B.notSynchronized
  subst hsz
  have hA : ∀ q : Nat, s.heap.size ≤ q → (va_A (wl_Mo a k σ) s.heap.size) q := fun _ h => Or.inr h
  have hDt : ∀ τ, va_D (fun _ => True) (wl_Mo a k τ) := fun τ => kd_cg hD0 rfl
  have hDw : ∀ τ, va_D (va_A (wl_Mo a k σ) s.heap.size) (wl_Mo a k τ) := fun τ => kd_cg hD0.self rfl
  have hS : va_S (va_A (wl_Mo a k σ) s.heap.size) s.heap s.heap [] := va_S.rf
  have hl := lv_entry ([.ref (a 0), .int p1, .int p2]) (n := 3) (Nat.le_of_ble_eq_true rfl)
  rw [lg_entry_eq]
  generalize (lg_sl ([.ref (a 0), .int p1, .int p2]) ++ List.replicate (3 - (lg_sl ([.ref (a 0), .int p1, .int p2])).length) Slot.unset).toArray = ls at hl ⊢
  have hl : lv_has ls 3 [(0, .ref (a 0)), (1, .int p1), (2, .int p2)] := hl
  unfold kf_Mo_clash at hk
  refine lv_aload_n hx hb d_Mo_clash_0 rfl (lv_at hl 0 rfl) ?_
  refine lv_iconst (v := 0) hx hb d_Mo_clash_1 (by decide) ?_
  refine va_put (D := D) (ci := 6) (v := .int 0) (ty := .int) (C := R_Mo) (T := F_Mo) (N := 15) hx hb hts i_uMo t_Mo t_Mo_ok n_Mo hown hK hP (hDw _) hS 0 rfl rfl 0 (by decide) (hts _ mw_498) (fun _ h9 => h9) rfl (t_Mo_ok 0 (by decide)) rfl rfl (Nat.le_of_ble_eq_true rfl) d_Mo_clash_2 (fun H locs hP _ hS => ?_)
  have hP : va_P D cls (wl_Mo a k (0, σ.2.1, σ.2.2.1, σ.2.2.2.1, σ.2.2.2.2.1, σ.2.2.2.2.2.1, σ.2.2.2.2.2.2.1, σ.2.2.2.2.2.2.2.1, σ.2.2.2.2.2.2.2.2.1, σ.2.2.2.2.2.2.2.2.2.1, σ.2.2.2.2.2.2.2.2.2.2.1, σ.2.2.2.2.2.2.2.2.2.2.2.1, σ.2.2.2.2.2.2.2.2.2.2.2.2.1, σ.2.2.2.2.2.2.2.2.2.2.2.2.2.1, σ.2.2.2.2.2.2.2.2.2.2.2.2.2.2)) H := hP
  refine lv_aload_n hx hb d_Mo_clash_5 rfl (lv_at hl 0 rfl) ?_
  refine lv_iload_n hx hb d_Mo_clash_6 rfl (lv_at hl 1 rfl) ?_
  obtain ⟨q1, e1, hk⟩ := ob_s hk
  refine kc_R (va_runV (As := [.int p1]) (rest := []) ⟨hx, hb, hml, hown, hts⟩ (c_Mo_isBooking l D a k _ (0, σ.2.1, σ.2.2.1, σ.2.2.2.1, σ.2.2.2.2.1, σ.2.2.2.2.2.1, σ.2.2.2.2.2.2.1, σ.2.2.2.2.2.2.2.1, σ.2.2.2.2.2.2.2.2.1, σ.2.2.2.2.2.2.2.2.2.1, σ.2.2.2.2.2.2.2.2.2.2.1, σ.2.2.2.2.2.2.2.2.2.2.2.1, σ.2.2.2.2.2.2.2.2.2.2.2.2.1, σ.2.2.2.2.2.2.2.2.2.2.2.2.2.1, σ.2.2.2.2.2.2.2.2.2.2.2.2.2.2) p1 q1 e1) (cwV 1 hts (gV mw_604 mw_606 mw_17 mw_33 mw_607) rfl rfl rfl hd_Mo_isBooking ⟨Nat.le_of_ble_eq_true rfl, Nat.le_of_ble_eq_true rfl⟩) (kp_V (ci := 6) (q := (R_Mo, F_Mo, 15)) (q0 := 0) hK hP (hDt _) rfl rfl) rfl rfl hl.1 rfl (lv_room (Nat.le_of_ble_eq_true rfl)) d_Mo_clash_7 ⟨Nat.zero_le _, Nat.zero_le _⟩) hS hA hP (fun H locs hP hS => ?_)
  refine lv_if_eq (tgt := 66) hx hb d_Mo_clash_10 (by decide) (fun c2 => ?_) (fun c2 => ?_)
  · have hk := br_p c2 hk
    refine lv_iconst (v := 0) hx hb d_Mo_clash_66 (by decide) ?_
    exact kr_M (w := wl_Mo a k) hx hb hr (by decide) hlocks hS hP hk d_Mo_clash_67
  · have hk := br_n c2 hk
    refine lv_aload_n hx hb d_Mo_clash_13 rfl (lv_at hl 0 rfl) ?_
    refine lv_iload_n hx hb d_Mo_clash_14 rfl (lv_at hl 2 rfl) ?_
    obtain ⟨q3, e3, hk⟩ := ob_s hk
    refine kc_R (va_runV (As := [.int p2]) (rest := []) ⟨hx, hb, hml, hown, hts⟩ (c_Mo_isBooking l D a k _ (0, σ.2.1, σ.2.2.1, σ.2.2.2.1, σ.2.2.2.2.1, σ.2.2.2.2.2.1, σ.2.2.2.2.2.2.1, σ.2.2.2.2.2.2.2.1, σ.2.2.2.2.2.2.2.2.1, σ.2.2.2.2.2.2.2.2.2.1, σ.2.2.2.2.2.2.2.2.2.2.1, σ.2.2.2.2.2.2.2.2.2.2.2.1, σ.2.2.2.2.2.2.2.2.2.2.2.2.1, σ.2.2.2.2.2.2.2.2.2.2.2.2.2.1, σ.2.2.2.2.2.2.2.2.2.2.2.2.2.2) p2 q3 e3) (cwV 1 hts (gV mw_604 mw_606 mw_17 mw_33 mw_607) rfl rfl rfl hd_Mo_isBooking ⟨Nat.le_of_ble_eq_true rfl, Nat.le_of_ble_eq_true rfl⟩) (kp_V (ci := 6) (q := (R_Mo, F_Mo, 15)) (q0 := 0) hK hP (hDt _) rfl rfl) rfl rfl hl.1 rfl (lv_room (Nat.le_of_ble_eq_true rfl)) d_Mo_clash_15 ⟨Nat.zero_le _, Nat.zero_le _⟩) hS hA hP (fun H locs hP hS => ?_)
    refine lv_if_eq (tgt := 66) hx hb d_Mo_clash_18 (by decide) (fun c4 => ?_) (fun c4 => ?_)
    · have hk := br_p c4 hk
      refine lv_iconst (v := 0) hx hb d_Mo_clash_66 (by decide) ?_
      exact kr_M (w := wl_Mo a k) hx hb hr (by decide) hlocks hS hP hk d_Mo_clash_67
    · have hk := br_n c4 hk
      refine lv_aload_n hx hb d_Mo_clash_21 rfl (lv_at hl 0 rfl) ?_
      refine lv_iload_n hx hb d_Mo_clash_22 rfl (lv_at hl 1 rfl) ?_
      refine lv_aload_n hx hb d_Mo_clash_23 rfl (lv_at hl 0 rfl) ?_
      refine va_get (D := D) (ci := 6) (v := .ref (a 4)) (C := R_Mo) (T := F_Mo) (N := 15) hx hb hts i_uMo hown hK hP 0 rfl rfl 7 (by decide) (hts _ mw_505) (fun _ h9 => h9) rfl d_Mo_clash_24 ?_
      refine lv_bipush (v := 6) hx hb d_Mo_clash_27 (by decide) ?_
      refine lv_iload_n hx hb d_Mo_clash_29 rfl (lv_at hl 2 rfl) ?_
      refine lv_imul hx hb d_Mo_clash_30 ?_
      refine lv_iconst (v := 1) hx hb d_Mo_clash_31 (by decide) ?_
      refine lv_iadd hx hb d_Mo_clash_32 ?_
      obtain ⟨h5, hk⟩ := gd_in hk
      refine va_iald hx hb hK hP 4 3 rfl rfl h5 d_Mo_clash_33 ?_
      refine lv_aload_n hx hb d_Mo_clash_34 rfl (lv_at hl 0 rfl) ?_
      refine va_get (D := D) (ci := 6) (v := .ref (a 4)) (C := R_Mo) (T := F_Mo) (N := 15) hx hb hts i_uMo hown hK hP 0 rfl rfl 7 (by decide) (hts _ mw_505) (fun _ h9 => h9) rfl d_Mo_clash_35 ?_
      refine lv_bipush (v := 6) hx hb d_Mo_clash_38 (by decide) ?_
      refine lv_iload_n hx hb d_Mo_clash_40 rfl (lv_at hl 2 rfl) ?_
      refine lv_imul hx hb d_Mo_clash_41 ?_
      refine lv_iconst (v := 2) hx hb d_Mo_clash_42 (by decide) ?_
      refine lv_iadd hx hb d_Mo_clash_43 ?_
      obtain ⟨h6, hk⟩ := gd_in hk
      refine va_iald hx hb hK hP 4 3 rfl rfl h6 d_Mo_clash_44 ?_
      refine lv_aload_n hx hb d_Mo_clash_45 rfl (lv_at hl 0 rfl) ?_
      refine va_get (D := D) (ci := 6) (v := .ref (a 4)) (C := R_Mo) (T := F_Mo) (N := 15) hx hb hts i_uMo hown hK hP 0 rfl rfl 7 (by decide) (hts _ mw_505) (fun _ h9 => h9) rfl d_Mo_clash_46 ?_
      refine lv_bipush (v := 6) hx hb d_Mo_clash_49 (by decide) ?_
      refine lv_iload_n hx hb d_Mo_clash_51 rfl (lv_at hl 2 rfl) ?_
      refine lv_imul hx hb d_Mo_clash_52 ?_
      refine lv_iconst (v := 3) hx hb d_Mo_clash_53 (by decide) ?_
      refine lv_iadd hx hb d_Mo_clash_54 ?_
      obtain ⟨h7, hk⟩ := gd_in hk
      refine va_iald hx hb hK hP 4 3 rfl rfl h7 d_Mo_clash_55 ?_
      obtain ⟨q8, e8, hk⟩ := ob_s hk
      refine kc_R (va_runV (As := [.int p1, .int (σ.2.2.2.2.2.2.2.1 ((6 * p2) + 1).toNatClampNeg), .int (σ.2.2.2.2.2.2.2.1 ((6 * p2) + 2).toNatClampNeg), .int (σ.2.2.2.2.2.2.2.1 ((6 * p2) + 3).toNatClampNeg)]) (rest := []) ⟨hx, hb, hml, hown, hts⟩ (c_Mo_meets l D a k _ (0, σ.2.1, σ.2.2.1, σ.2.2.2.1, σ.2.2.2.2.1, σ.2.2.2.2.2.1, σ.2.2.2.2.2.2.1, σ.2.2.2.2.2.2.2.1, σ.2.2.2.2.2.2.2.2.1, σ.2.2.2.2.2.2.2.2.2.1, σ.2.2.2.2.2.2.2.2.2.2.1, σ.2.2.2.2.2.2.2.2.2.2.2.1, σ.2.2.2.2.2.2.2.2.2.2.2.2.1, σ.2.2.2.2.2.2.2.2.2.2.2.2.2.1, σ.2.2.2.2.2.2.2.2.2.2.2.2.2.2) p1 (σ.2.2.2.2.2.2.2.1 ((6 * p2) + 1).toNatClampNeg) (σ.2.2.2.2.2.2.2.1 ((6 * p2) + 2).toNatClampNeg) (σ.2.2.2.2.2.2.2.1 ((6 * p2) + 3).toNatClampNeg) q8 e8) (cwV 4 hts (gV mw_592 mw_594 mw_15 mw_33 mw_595) rfl rfl rfl hd_Mo_meets ⟨Nat.le_of_ble_eq_true rfl, Nat.le_of_ble_eq_true rfl⟩) (kp_V (ci := 6) (q := (R_Mo, F_Mo, 15)) (q0 := 0) hK hP (hDt _) rfl rfl) rfl rfl hl.1 rfl (lv_room (Nat.le_of_ble_eq_true rfl)) d_Mo_clash_56 ⟨Nat.zero_le _, Nat.zero_le _⟩) hS hA hP (fun H locs hP hS => ?_)
      refine lv_if_eq (tgt := 66) hx hb d_Mo_clash_59 (by decide) (fun c9 => ?_) (fun c9 => ?_)
      · have hk := br_p c9 hk
        refine lv_iconst (v := 0) hx hb d_Mo_clash_66 (by decide) ?_
        exact kr_M (w := wl_Mo a k) hx hb hr (by decide) hlocks hS hP hk d_Mo_clash_67
      · have hk := br_n c9 hk
        refine lv_iconst (v := 1) hx hb d_Mo_clash_62 (by decide) ?_
        refine lv_goto (tgt := 67) hx hb d_Mo_clash_63 (by decide) ?_
        exact kr_M (w := wl_Mo a k) hx hb hr (by decide) hlocks hS hP hk d_Mo_clash_67
