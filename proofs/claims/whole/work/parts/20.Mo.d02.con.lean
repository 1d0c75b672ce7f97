set_option maxHeartbeats 4000000 in
set_option maxRecDepth 100000 in
theorem c_Mo_dropWish (l : Launch) (D : va_G) (a : Nat → Nat) (k : Nat → ClassId) (sz : Nat) (σ : S_Mo) (p1 : Int32) (r0 : S_Mo) (hk : kf_Mo_dropWish σ p1 = some r0) : Met l y_Mo_dropWish w_Mo_dropWish ({ frames := 0, cells := 0, slots := 0, locals := 0 }) (kp_P D cls (ty_Mo k) (wl_Mo a k σ) [.ref (a 0), .int p1] sz) (kp_Mv D cls (wl_Mo a k r0) (wl_Mo a k σ) sz) 0 0 (va_A (wl_Mo a k σ) sz) := by
  refine Met.ofW (cc := b_Mo_dropWish) (maxL := 4) (ret := none) (by decide) rfl ?_
  intro p e s m args below meth c s₁ B hml hv
  obtain ⟨rfl, hsz, hP, hK, hD0⟩ := hv
  have hx := B.exec
  have hb := B.bytes
  have hr := B.returns
  have hts : ∀ w ∈ lw_g, w.before _ s = true := fun w h => atoms_spec (ws := w_Mo_dropWish) B.pre w (List.mem_cons_of_mem _ h)
  have hown : s.vm.findClass R_Mo = some m.cls := findClass_of_methodNamed B.named
  have hlocks := B.notSynchronized
  subst hsz
  have hA : ∀ q : Nat, s.heap.size ≤ q → (va_A (wl_Mo a k σ) s.heap.size) q := fun _ h => Or.inr h
  have hDt : ∀ τ, va_D (fun _ => True) (wl_Mo a k τ) := fun τ => kd_cg hD0 rfl
  have hDw : ∀ τ, va_D (va_A (wl_Mo a k σ) s.heap.size) (wl_Mo a k τ) := fun τ => kd_cg hD0.self rfl
  have hS : va_S (va_A (wl_Mo a k σ) s.heap.size) s.heap s.heap [] := va_S.rf
  have hl := lv_entry ([.ref (a 0), .int p1]) (n := 4) (Nat.le_of_ble_eq_true rfl)
  rw [lg_entry_eq]
  generalize (lg_sl ([.ref (a 0), .int p1]) ++ List.replicate (4 - (lg_sl ([.ref (a 0), .int p1])).length) Slot.unset).toArray = ls at hl ⊢
  have hl : lv_has ls 4 [(0, .ref (a 0)), (1, .int p1)] := hl
  unfold kf_Mo_dropWish at hk
  have L12 : ∀ (n12 : Nat) (x2 : Int32) (τ : S_Mo) (H : Heap) (locs : List Loc) (ls : Array Slot), va_P D cls (wl_Mo a k τ) H → va_S (va_A (wl_Mo a k σ) s.heap.size) s.heap H locs → lv_has ls 4 [(0, .ref (a 0)), (2, .int x2)] → kf_Mo_dropWish_12 p1 n12 x2 τ = some r0 → W p l e (headSpec w_Mo_dropWish ({ frames := 0, cells := 0, slots := 0, locals := 0 })).room s m [.ref (a 0), .int p1].toArray below meth c H locs 0 0 (MQ below (kp_Mv D cls (wl_Mo a k r0) (wl_Mo a k σ) s.heap.size) [.ref (a 0), .int p1].toArray s 0 0 (va_A (wl_Mo a k σ) s.heap.size)) (F0 m 12 ls []) := by
    intro n12
    induction n12 with
    | zero =>
      intro x2 τ H locs ls hP hS hl hk
      exact nomatch hk
    | succ n12 ih12 =>
      have L36 : ∀ (n36 : Nat) (x2 : Int32) (x3 : Int32) (τ : S_Mo) (H : Heap) (locs : List Loc) (ls : Array Slot), va_P D cls (wl_Mo a k τ) H → va_S (va_A (wl_Mo a k σ) s.heap.size) s.heap H locs → lv_has ls 4 [(0, .ref (a 0)), (2, .int x2), (3, .int x3)] → kf_Mo_dropWish_36 p1 (kf_Mo_dropWish_12 p1 n12) n36 x2 x3 τ = some r0 → W p l e (headSpec w_Mo_dropWish ({ frames := 0, cells := 0, slots := 0, locals := 0 })).room s m [.ref (a 0), .int p1].toArray below meth c H locs 0 0 (MQ below (kp_Mv D cls (wl_Mo a k r0) (wl_Mo a k σ) s.heap.size) [.ref (a 0), .int p1].toArray s 0 0 (va_A (wl_Mo a k σ) s.heap.size)) (F0 m 36 ls []) := by
        intro n36
        induction n36 with
        | zero =>
          intro x2 x3 τ H locs ls hP hS hl hk
          exact nomatch hk
        | succ n36 ih36 =>
          intro x2 x3 τ H locs ls hP hS hl hk
          rw [kf_Mo_dropWish_36_s] at hk
          refine lv_iload_n hx hb d_Mo_dropWish_36 rfl (lv_at hl 2 rfl) ?_
          refine lv_iconst (v := 5) hx hb d_Mo_dropWish_37 (by decide) ?_
          refine lv_icmp_ge (tgt := 69) hx hb d_Mo_dropWish_38 (by decide) (fun c1 => ?_) (fun c1 => ?_)
          · have hk := br_p c1 hk
            refine lv_iinc (v := (x2 + 1)) (lv' := [(2, .int (x2 + 1)), (0, .ref (a 0)), (3, .int x3)]) hx hb d_Mo_dropWish_69 hl (k := 1) rfl rfl (by decide) rfl (fun ls hl => ?_)
            refine lv_goto (tgt := 12) hx hb d_Mo_dropWish_72 (by decide) ?_
            exact ih12 (x2 + 1) τ _ _ _ hP hS (lv_sub hl [1, 0] rfl) hk
          · have hk := br_n c1 hk
            refine lv_aload_n hx hb d_Mo_dropWish_41 rfl (lv_at hl 0 rfl) ?_
            refine va_get (D := D) (ci := 6) (v := .ref (a 5)) (C := R_Mo) (T := F_Mo) (N := 15) hx hb hts i_uMo hown hK hP 0 rfl rfl 9 (by decide) (hts _ mw_507) (fun _ h9 => h9) rfl d_Mo_dropWish_42 ?_
            refine lv_iconst (v := 5) hx hb d_Mo_dropWish_45 (by decide) ?_
            refine lv_iload_n hx hb d_Mo_dropWish_46 rfl (lv_at hl 1 rfl) ?_
            refine lv_imul hx hb d_Mo_dropWish_47 ?_
            refine lv_iload_n hx hb d_Mo_dropWish_48 rfl (lv_at hl 2 rfl) ?_
            refine lv_iadd hx hb d_Mo_dropWish_49 ?_
            refine lv_aload_n hx hb d_Mo_dropWish_50 rfl (lv_at hl 0 rfl) ?_
            refine va_get (D := D) (ci := 6) (v := .ref (a 5)) (C := R_Mo) (T := F_Mo) (N := 15) hx hb hts i_uMo hown hK hP 0 rfl rfl 9 (by decide) (hts _ mw_507) (fun _ h9 => h9) rfl d_Mo_dropWish_51 ?_
            refine lv_iconst (v := 5) hx hb d_Mo_dropWish_54 (by decide) ?_
            refine lv_iload_n hx hb d_Mo_dropWish_55 rfl (lv_at hl 1 rfl) ?_
            refine lv_imul hx hb d_Mo_dropWish_56 ?_
            refine lv_iconst (v := 5) hx hb d_Mo_dropWish_57 (by decide) ?_
            refine lv_iadd hx hb d_Mo_dropWish_58 ?_
            refine lv_iload_n hx hb d_Mo_dropWish_59 rfl (lv_at hl 2 rfl) ?_
            refine lv_iadd hx hb d_Mo_dropWish_60 ?_
            obtain ⟨h2, hk⟩ := gd_in hk
            refine va_iald hx hb hK hP 5 4 rfl rfl h2 d_Mo_dropWish_61 ?_
            obtain ⟨h3, hk⟩ := gd_in hk
            refine va_iast hx hb hK hP (hDw _) hS 5 4 rfl rfl h3 d_Mo_dropWish_62 (fun H locs hP _ hS => ?_)
            have hP : va_P D cls (wl_Mo a k (τ.1, τ.2.1, τ.2.2.1, τ.2.2.2.1, τ.2.2.2.2.1, τ.2.2.2.2.2.1, τ.2.2.2.2.2.2.1, τ.2.2.2.2.2.2.2.1, τ.2.2.2.2.2.2.2.2.1, (upd τ.2.2.2.2.2.2.2.2.2.1 ((5 * x2) + x3).toNatClampNeg (τ.2.2.2.2.2.2.2.2.2.1 (((5 * x2) + 5) + x3).toNatClampNeg)), τ.2.2.2.2.2.2.2.2.2.2.1, τ.2.2.2.2.2.2.2.2.2.2.2.1, τ.2.2.2.2.2.2.2.2.2.2.2.2.1, τ.2.2.2.2.2.2.2.2.2.2.2.2.2.1, τ.2.2.2.2.2.2.2.2.2.2.2.2.2.2)) H := hP
            refine lv_iinc (v := (x3 + 1)) (lv' := [(3, .int (x3 + 1)), (0, .ref (a 0)), (2, .int x2)]) hx hb d_Mo_dropWish_63 hl (k := 2) rfl rfl (by decide) rfl (fun ls hl => ?_)
            refine lv_goto (tgt := 36) hx hb d_Mo_dropWish_66 (by decide) ?_
            exact ih36 x2 (x3 + 1) (τ.1, τ.2.1, τ.2.2.1, τ.2.2.2.1, τ.2.2.2.2.1, τ.2.2.2.2.2.1, τ.2.2.2.2.2.2.1, τ.2.2.2.2.2.2.2.1, τ.2.2.2.2.2.2.2.2.1, (upd τ.2.2.2.2.2.2.2.2.2.1 ((5 * x2) + x3).toNatClampNeg (τ.2.2.2.2.2.2.2.2.2.1 (((5 * x2) + 5) + x3).toNatClampNeg)), τ.2.2.2.2.2.2.2.2.2.2.1, τ.2.2.2.2.2.2.2.2.2.2.2.1, τ.2.2.2.2.2.2.2.2.2.2.2.2.1, τ.2.2.2.2.2.2.2.2.2.2.2.2.2.1, τ.2.2.2.2.2.2.2.2.2.2.2.2.2.2) _ _ _ hP hS (lv_sub hl [1, 2, 0] rfl) hk
      intro x2 τ H locs ls hP hS hl hk
      rw [kf_Mo_dropWish_12_s] at hk
      refine lv_iload_n hx hb d_Mo_dropWish_12 rfl (lv_at hl 1 rfl) ?_
      refine lv_aload_n hx hb d_Mo_dropWish_13 rfl (lv_at hl 0 rfl) ?_
      refine va_get (D := D) (ci := 6) (v := .int τ.2.2.2.2.2.2.2.2.2.2.1) (C := R_Mo) (T := F_Mo) (N := 15) hx hb hts i_uMo hown hK hP 0 rfl rfl 10 (by decide) (hts _ mw_508) (fun _ h9 => h9) rfl d_Mo_dropWish_14 ?_
      refine lv_icmp_ge (tgt := 75) hx hb d_Mo_dropWish_17 (by decide) (fun c4 => ?_) (fun c4 => ?_)
      · have hk := br_p c4 hk
        exact kr_Mv (w := wl_Mo a k) hx hb hr hlocks hS hP hk d_Mo_dropWish_75
      · have hk := br_n c4 hk
        refine lv_aload_n hx hb d_Mo_dropWish_20 rfl (lv_at hl 0 rfl) ?_
        refine va_get (D := D) (ci := 6) (v := .ref (a 9)) (C := R_Mo) (T := F_Mo) (N := 15) hx hb hts i_uMo hown hK hP 0 rfl rfl 14 (by decide) (hts _ mw_512) (fun _ h9 => h9) rfl d_Mo_dropWish_21 ?_
        refine lv_iload_n hx hb d_Mo_dropWish_24 rfl (lv_at hl 1 rfl) ?_
        refine lv_aload_n hx hb d_Mo_dropWish_25 rfl (lv_at hl 0 rfl) ?_
        refine va_get (D := D) (ci := 6) (v := .ref (a 9)) (C := R_Mo) (T := F_Mo) (N := 15) hx hb hts i_uMo hown hK hP 0 rfl rfl 14 (by decide) (hts _ mw_512) (fun _ h9 => h9) rfl d_Mo_dropWish_26 ?_
        refine lv_iload_n hx hb d_Mo_dropWish_29 rfl (lv_at hl 1 rfl) ?_
        refine lv_iconst (v := 1) hx hb d_Mo_dropWish_30 (by decide) ?_
        refine lv_iadd hx hb d_Mo_dropWish_31 ?_
        obtain ⟨h5, hk⟩ := gd_in hk
        refine va_zald hx hb hK hP 9 8 rfl rfl h5 d_Mo_dropWish_32 ?_
        obtain ⟨h6, hk⟩ := gd_in hk
        refine va_zast hx hb hK hP (hDw _) hS 9 8 rfl rfl h6 d_Mo_dropWish_33 (fun H locs hP _ hS => ?_)
        have hP : va_P D cls (wl_Mo a k (τ.1, τ.2.1, τ.2.2.1, τ.2.2.2.1, τ.2.2.2.2.1, τ.2.2.2.2.2.1, τ.2.2.2.2.2.2.1, τ.2.2.2.2.2.2.2.1, τ.2.2.2.2.2.2.2.2.1, τ.2.2.2.2.2.2.2.2.2.1, τ.2.2.2.2.2.2.2.2.2.2.1, τ.2.2.2.2.2.2.2.2.2.2.2.1, τ.2.2.2.2.2.2.2.2.2.2.2.2.1, τ.2.2.2.2.2.2.2.2.2.2.2.2.2.1, (upd τ.2.2.2.2.2.2.2.2.2.2.2.2.2.2 x2.toNatClampNeg (vp_nar .boolean (τ.2.2.2.2.2.2.2.2.2.2.2.2.2.2 (x2 + 1).toNatClampNeg))))) H := hP
        refine lv_iconst (v := 0) hx hb d_Mo_dropWish_34 (by decide) ?_
        refine lv_istore_n (lv' := [(3, .int 0), (0, .ref (a 0)), (2, .int x2)]) hx hb d_Mo_dropWish_35 rfl hl (by decide) rfl (fun ls hl => ?_)
        exact L36 FU x2 0 (τ.1, τ.2.1, τ.2.2.1, τ.2.2.2.1, τ.2.2.2.2.1, τ.2.2.2.2.2.1, τ.2.2.2.2.2.2.1, τ.2.2.2.2.2.2.2.1, τ.2.2.2.2.2.2.2.2.1, τ.2.2.2.2.2.2.2.2.2.1, τ.2.2.2.2.2.2.2.2.2.2.1, τ.2.2.2.2.2.2.2.2.2.2.2.1, τ.2.2.2.2.2.2.2.2.2.2.2.2.1, τ.2.2.2.2.2.2.2.2.2.2.2.2.2.1, (upd τ.2.2.2.2.2.2.2.2.2.2.2.2.2.2 x2.toNatClampNeg (vp_nar .boolean (τ.2.2.2.2.2.2.2.2.2.2.2.2.2.2 (x2 + 1).toNatClampNeg)))) _ _ _ hP hS (lv_sub hl [1, 2, 0] rfl) hk
  refine lv_aload_n hx hb d_Mo_dropWish_0 rfl (lv_at hl 0 rfl) ?_
  refine lv_dup hx hb d_Mo_dropWish_1 rfl ?_
  refine va_get (D := D) (ci := 6) (v := .int σ.2.2.2.2.2.2.2.2.2.2.1) (C := R_Mo) (T := F_Mo) (N := 15) hx hb hts i_uMo hown hK hP 0 rfl rfl 10 (by decide) (hts _ mw_508) (fun _ h9 => h9) rfl d_Mo_dropWish_2 ?_
  refine lv_iconst (v := 1) hx hb d_Mo_dropWish_5 (by decide) ?_
  refine lv_isub hx hb d_Mo_dropWish_6 ?_
  refine va_put (D := D) (ci := 6) (v := .int (σ.2.2.2.2.2.2.2.2.2.2.1 - 1)) (ty := .int) (C := R_Mo) (T := F_Mo) (N := 15) hx hb hts i_uMo t_Mo t_Mo_ok n_Mo hown hK hP (hDw _) hS 0 rfl rfl 10 (by decide) (hts _ mw_508) (fun _ h9 => h9) rfl (t_Mo_ok 10 (by decide)) rfl rfl (Nat.le_of_ble_eq_true rfl) d_Mo_dropWish_7 (fun H locs hP _ hS => ?_)
  have hP : va_P D cls (wl_Mo a k (σ.1, σ.2.1, σ.2.2.1, σ.2.2.2.1, σ.2.2.2.2.1, σ.2.2.2.2.2.1, σ.2.2.2.2.2.2.1, σ.2.2.2.2.2.2.2.1, σ.2.2.2.2.2.2.2.2.1, σ.2.2.2.2.2.2.2.2.2.1, (σ.2.2.2.2.2.2.2.2.2.2.1 - 1), σ.2.2.2.2.2.2.2.2.2.2.2.1, σ.2.2.2.2.2.2.2.2.2.2.2.2.1, σ.2.2.2.2.2.2.2.2.2.2.2.2.2.1, σ.2.2.2.2.2.2.2.2.2.2.2.2.2.2)) H := hP
  refine lv_iload_n hx hb d_Mo_dropWish_10 rfl (lv_at hl 1 rfl) ?_
  refine lv_istore_n (lv' := [(2, .int p1), (0, .ref (a 0)), (1, .int p1)]) hx hb d_Mo_dropWish_11 rfl hl (by decide) rfl (fun ls hl => ?_)
  exact L12 FU p1 (σ.1, σ.2.1, σ.2.2.1, σ.2.2.2.1, σ.2.2.2.2.1, σ.2.2.2.2.2.1, σ.2.2.2.2.2.2.1, σ.2.2.2.2.2.2.2.1, σ.2.2.2.2.2.2.2.2.1, σ.2.2.2.2.2.2.2.2.2.1, (σ.2.2.2.2.2.2.2.2.2.2.1 - 1), σ.2.2.2.2.2.2.2.2.2.2.2.1, σ.2.2.2.2.2.2.2.2.2.2.2.2.1, σ.2.2.2.2.2.2.2.2.2.2.2.2.2.1, σ.2.2.2.2.2.2.2.2.2.2.2.2.2.2) _ _ _ hP hS (lv_sub hl [1, 0] rfl) hk
set_option maxHeartbeats 4000000 in
set_option maxRecDepth 100000 in
theorem c_Mo_nextWish (l : Launch) (D : va_G) (a : Nat → Nat) (k : Nat → ClassId) (sz : Nat) (σ : S_Mo) (p1 : Int32) (r0 : Int32) (hk : kf_Mo_nextWish σ p1 = some r0) : Met l y_Mo_nextWish w_Mo_nextWish ({ frames := 0, cells := 0, slots := 0, locals := 0 }) (kp_P D cls (ty_Mo k) (wl_Mo a k σ) [.ref (a 0), .int p1] sz) (kp_R sz r0) 0 0 (va_A [] sz) := by
  refine Met.ofW (cc := b_Mo_nextWish) (maxL := 4) (ret := (some .int)) (by decide) rfl ?_
  intro p e s m args below meth c s₁ B hml hv
  obtain ⟨rfl, hsz, hP, hK, hD0⟩ := hv
  have hx := B.exec
  have hb := B.bytes
  have hr := B.returns
  have hts : ∀ w ∈ lw_g, w.before _ s = true := fun w h => atoms_spec (ws := w_Mo_nextWish) B.pre w (List.mem_cons_of_mem _ h)
  have hown : s.vm.findClass R_Mo = some m.cls := findClass_of_methodNamed B.named
  have hlocks := B.notSynchronized
  subst hsz
  have hA : ∀ q : Nat, s.heap.size ≤ q → (va_A ([]) s.heap.size) q := fun _ h => Or.inr h
  have hDt : ∀ τ, va_D (fun _ => True) (wl_Mo a k τ) := fun τ => kd_cg hD0 rfl
  have hS : va_S (va_A ([]) s.heap.size) s.heap s.heap [] := va_S.rf
  have hl := lv_entry ([.ref (a 0), .int p1]) (n := 4) (Nat.le_of_ble_eq_true rfl)
  rw [lg_entry_eq]
  generalize (lg_sl ([.ref (a 0), .int p1]) ++ List.replicate (4 - (lg_sl ([.ref (a 0), .int p1])).length) Slot.unset).toArray = ls at hl ⊢
  have hl : lv_has ls 4 [(0, .ref (a 0)), (1, .int p1)] := hl
  unfold kf_Mo_nextWish at hk
  have L4 : ∀ (n4 : Nat) (x2 : Int32) (x3 : Int32) (H : Heap) (locs : List Loc) (ls : Array Slot), va_P D cls (wl_Mo a k σ) H → va_S (va_A ([]) s.heap.size) s.heap H locs → lv_has ls 4 [(0, .ref (a 0)), (1, .int p1), (2, .int x2), (3, .int x3)] → kf_Mo_nextWish_4 σ p1 n4 x2 x3 = some r0 → W p l e (headSpec w_Mo_nextWish ({ frames := 0, cells := 0, slots := 0, locals := 0 })).room s m [.ref (a 0), .int p1].toArray below meth c H locs 0 0 (MQ below (kp_R s.heap.size r0) [.ref (a 0), .int p1].toArray s 0 0 (va_A [] s.heap.size)) (F0 m 4 ls []) := by
    intro n4
    induction n4 with
    | zero =>
      intro x2 x3 H locs ls hP hS hl hk
      exact nomatch hk
    | succ n4 ih4 =>
      intro x2 x3 H locs ls hP hS hl hk
      rw [kf_Mo_nextWish_4_s] at hk
      refine lv_iload_n hx hb d_Mo_nextWish_4 rfl (lv_at hl 3 rfl) ?_
      refine lv_aload_n hx hb d_Mo_nextWish_5 rfl (lv_at hl 0 rfl) ?_
      refine va_get (D := D) (ci := 6) (v := .int σ.2.2.2.2.2.2.2.2.2.2.1) (C := R_Mo) (T := F_Mo) (N := 15) hx hb hts i_uMo hown hK hP 0 rfl rfl 10 (by decide) (hts _ mw_508) (fun _ h9 => h9) rfl d_Mo_nextWish_6 ?_
      refine lv_icmp_ge (tgt := 71) hx hb d_Mo_nextWish_9 (by decide) (fun c1 => ?_) (fun c1 => ?_)
      · have hk := br_p c1 hk
        refine lv_iload_n hx hb d_Mo_nextWish_71 rfl (lv_at hl 2 rfl) ?_
        exact kr_R hx hb hr rfl hlocks hS hk d_Mo_nextWish_72
      · have hk := br_n c1 hk
        refine lv_aload_n hx hb d_Mo_nextWish_12 rfl (lv_at hl 0 rfl) ?_
        refine va_get (D := D) (ci := 6) (v := .ref (a 9)) (C := R_Mo) (T := F_Mo) (N := 15) hx hb hts i_uMo hown hK hP 0 rfl rfl 14 (by decide) (hts _ mw_512) (fun _ h9 => h9) rfl d_Mo_nextWish_13 ?_
        refine lv_iload_n hx hb d_Mo_nextWish_16 rfl (lv_at hl 3 rfl) ?_
        obtain ⟨h2, hk⟩ := gd_in hk
        refine va_zald hx hb hK hP 9 8 rfl rfl h2 d_Mo_nextWish_17 ?_
        refine lv_if_ne (tgt := 65) hx hb d_Mo_nextWish_18 (by decide) (fun c3 => ?_) (fun c3 => ?_)
        · have hk := br_n c3 hk
          refine lv_iinc (v := (x3 + 1)) (lv' := [(3, .int (x3 + 1)), (0, .ref (a 0)), (1, .int p1), (2, .int x2)]) hx hb d_Mo_nextWish_65 hl (k := 3) rfl rfl (by decide) rfl (fun ls hl => ?_)
          refine lv_goto (tgt := 4) hx hb d_Mo_nextWish_68 (by decide) ?_
          exact ih4 x2 (x3 + 1) _ _ _ hP hS (lv_sub hl [1, 2, 3, 0] rfl) hk
        · have hk := br_p c3 hk
          refine lv_aload_n hx hb d_Mo_nextWish_21 rfl (lv_at hl 0 rfl) ?_
          refine va_get (D := D) (ci := 6) (v := .ref (a 5)) (C := R_Mo) (T := F_Mo) (N := 15) hx hb hts i_uMo hown hK hP 0 rfl rfl 9 (by decide) (hts _ mw_507) (fun _ h9 => h9) rfl d_Mo_nextWish_22 ?_
          refine lv_iconst (v := 5) hx hb d_Mo_nextWish_25 (by decide) ?_
          refine lv_iload_n hx hb d_Mo_nextWish_26 rfl (lv_at hl 3 rfl) ?_
          refine lv_imul hx hb d_Mo_nextWish_27 ?_
          refine lv_iconst (v := 1) hx hb d_Mo_nextWish_28 (by decide) ?_
          refine lv_iadd hx hb d_Mo_nextWish_29 ?_
          obtain ⟨h4, hk⟩ := gd_in hk
          refine va_iald hx hb hK hP 5 4 rfl rfl h4 d_Mo_nextWish_30 ?_
          refine lv_iload_n hx hb d_Mo_nextWish_31 rfl (lv_at hl 1 rfl) ?_
          refine lv_icmp_ne (tgt := 65) hx hb d_Mo_nextWish_32 (by decide) (fun c5 => ?_) (fun c5 => ?_)
          · have hk := br_n c5 hk
            refine lv_iinc (v := (x3 + 1)) (lv' := [(3, .int (x3 + 1)), (0, .ref (a 0)), (1, .int p1), (2, .int x2)]) hx hb d_Mo_nextWish_65 hl (k := 3) rfl rfl (by decide) rfl (fun ls hl => ?_)
            refine lv_goto (tgt := 4) hx hb d_Mo_nextWish_68 (by decide) ?_
            exact ih4 x2 (x3 + 1) _ _ _ hP hS (lv_sub hl [1, 2, 3, 0] rfl) hk
          · have hk := br_p c5 hk
            refine lv_iload_n hx hb d_Mo_nextWish_35 rfl (lv_at hl 2 rfl) ?_
            refine lv_iconst (v := -1) hx hb d_Mo_nextWish_36 (by decide) ?_
            refine lv_icmp_eq (tgt := 63) hx hb d_Mo_nextWish_37 (by decide) (fun c6 => ?_) (fun c6 => ?_)
            · have hk := br_p c6 hk
              refine lv_iload_n hx hb d_Mo_nextWish_63 rfl (lv_at hl 3 rfl) ?_
              refine lv_istore_n (lv' := [(2, .int x3), (0, .ref (a 0)), (1, .int p1), (3, .int x3)]) hx hb d_Mo_nextWish_64 rfl hl (by decide) rfl (fun ls hl => ?_)
              refine lv_iinc (v := (x3 + 1)) (lv' := [(3, .int (x3 + 1)), (2, .int x3), (0, .ref (a 0)), (1, .int p1)]) hx hb d_Mo_nextWish_65 hl (k := 3) rfl rfl (by decide) rfl (fun ls hl => ?_)
              refine lv_goto (tgt := 4) hx hb d_Mo_nextWish_68 (by decide) ?_
              exact ih4 x3 (x3 + 1) _ _ _ hP hS (lv_sub hl [2, 3, 1, 0] rfl) hk
            · have hk := br_n c6 hk
              refine lv_aload_n hx hb d_Mo_nextWish_40 rfl (lv_at hl 0 rfl) ?_
              refine va_get (D := D) (ci := 6) (v := .ref (a 5)) (C := R_Mo) (T := F_Mo) (N := 15) hx hb hts i_uMo hown hK hP 0 rfl rfl 9 (by decide) (hts _ mw_507) (fun _ h9 => h9) rfl d_Mo_nextWish_41 ?_
              refine lv_iconst (v := 5) hx hb d_Mo_nextWish_44 (by decide) ?_
              refine lv_iload_n hx hb d_Mo_nextWish_45 rfl (lv_at hl 3 rfl) ?_
              refine lv_imul hx hb d_Mo_nextWish_46 ?_
              refine lv_iconst (v := 4) hx hb d_Mo_nextWish_47 (by decide) ?_
              refine lv_iadd hx hb d_Mo_nextWish_48 ?_
              obtain ⟨h7, hk⟩ := gd_in hk
              refine va_iald hx hb hK hP 5 4 rfl rfl h7 d_Mo_nextWish_49 ?_
              refine lv_aload_n hx hb d_Mo_nextWish_50 rfl (lv_at hl 0 rfl) ?_
              refine va_get (D := D) (ci := 6) (v := .ref (a 5)) (C := R_Mo) (T := F_Mo) (N := 15) hx hb hts i_uMo hown hK hP 0 rfl rfl 9 (by decide) (hts _ mw_507) (fun _ h9 => h9) rfl d_Mo_nextWish_51 ?_
              refine lv_iconst (v := 5) hx hb d_Mo_nextWish_54 (by decide) ?_
              refine lv_iload_n hx hb d_Mo_nextWish_55 rfl (lv_at hl 2 rfl) ?_
              refine lv_imul hx hb d_Mo_nextWish_56 ?_
              refine lv_iconst (v := 4) hx hb d_Mo_nextWish_57 (by decide) ?_
              refine lv_iadd hx hb d_Mo_nextWish_58 ?_
              obtain ⟨h8, hk⟩ := gd_in hk
              refine va_iald hx hb hK hP 5 4 rfl rfl h8 d_Mo_nextWish_59 ?_
              refine lv_icmp_ge (tgt := 65) hx hb d_Mo_nextWish_60 (by decide) (fun c9 => ?_) (fun c9 => ?_)
              · have hk := br_p c9 hk
                refine lv_iinc (v := (x3 + 1)) (lv' := [(3, .int (x3 + 1)), (0, .ref (a 0)), (1, .int p1), (2, .int x2)]) hx hb d_Mo_nextWish_65 hl (k := 3) rfl rfl (by decide) rfl (fun ls hl => ?_)
                refine lv_goto (tgt := 4) hx hb d_Mo_nextWish_68 (by decide) ?_
                exact ih4 x2 (x3 + 1) _ _ _ hP hS (lv_sub hl [1, 2, 3, 0] rfl) hk
              · have hk := br_n c9 hk
                refine lv_iload_n hx hb d_Mo_nextWish_63 rfl (lv_at hl 3 rfl) ?_
                refine lv_istore_n (lv' := [(2, .int x3), (0, .ref (a 0)), (1, .int p1), (3, .int x3)]) hx hb d_Mo_nextWish_64 rfl hl (by decide) rfl (fun ls hl => ?_)
                refine lv_iinc (v := (x3 + 1)) (lv' := [(3, .int (x3 + 1)), (2, .int x3), (0, .ref (a 0)), (1, .int p1)]) hx hb d_Mo_nextWish_65 hl (k := 3) rfl rfl (by decide) rfl (fun ls hl => ?_)
                refine lv_goto (tgt := 4) hx hb d_Mo_nextWish_68 (by decide) ?_
                exact ih4 x3 (x3 + 1) _ _ _ hP hS (lv_sub hl [2, 3, 1, 0] rfl) hk
  refine lv_iconst (v := -1) hx hb d_Mo_nextWish_0 (by decide) ?_
  refine lv_istore_n (lv' := [(2, .int (-1)), (0, .ref (a 0)), (1, .int p1)]) hx hb d_Mo_nextWish_1 rfl hl (by decide) rfl (fun ls hl => ?_)
  refine lv_iconst (v := 0) hx hb d_Mo_nextWish_2 (by decide) ?_
  refine lv_istore_n (lv' := [(3, .int 0), (2, .int (-1)), (0, .ref (a 0)), (1, .int p1)]) hx hb d_Mo_nextWish_3 rfl hl (by decide) rfl (fun ls hl => ?_)
  exact L4 FU (-1) 0 _ _ _ hP hS (lv_sub hl [2, 3, 1, 0] rfl) hk
set_option maxHeartbeats 4000000 in
set_option maxRecDepth 100000 in
theorem c_Mo_grants (l : Launch) (D : va_G) (a : Nat → Nat) (k : Nat → ClassId) (sz : Nat) (σ : S_Mo) (p1 : Int32) (r0 : Int32 × S_Mo) (hk : kf_Mo_grants σ p1 = some r0) : Met l y_Mo_grants w_Mo_grants ({ frames := 3, cells := 0, slots := 0, locals := 78 }) (kp_P D cls (ty_Mo k) (wl_Mo a k σ) [.ref (a 0), .int p1] sz) (kp_M D cls (wl_Mo a k r0.2) (wl_Mo a k σ) sz r0.1) 0 0 (va_A (wl_Mo a k σ) sz) := by
  refine Met.ofW (cc := b_Mo_grants) (maxL := 5) (ret := (some .int)) (by decide) rfl ?_
  intro p e s m args below meth c s₁ B hml hv
  obtain ⟨rfl, hsz, hP, hK, hD0⟩ := hv
  have hx := B.exec
  have hb := B.bytes
  have hr := B.returns
  have hts : ∀ w ∈ lw_g, w.before _ s = true := fun w h => atoms_spec (ws := w_Mo_grants) B.pre w (List.mem_cons_of_mem _ h)
  have hown : s.vm.findClass R_Mo = some m.cls := findClass_of_methodNamed B.named
  have hlocks := B.notSynchronized
  subst hsz
  have hA : ∀ q : Nat, s.heap.size ≤ q → (va_A (wl_Mo a k σ) s.heap.size) q := fun _ h => Or.inr h
  have hDt : ∀ τ, va_D (fun _ => True) (wl_Mo a k τ) := fun τ => kd_cg hD0 rfl
  have hDw : ∀ τ, va_D (va_A (wl_Mo a k σ) s.heap.size) (wl_Mo a k τ) := fun τ => kd_cg hD0.self rfl
  have hS : va_S (va_A (wl_Mo a k σ) s.heap.size) s.heap s.heap [] := va_S.rf
  have hl := lv_entry ([.ref (a 0), .int p1]) (n := 5) (Nat.le_of_ble_eq_true rfl)
  rw [lg_entry_eq]
  generalize (lg_sl ([.ref (a 0), .int p1]) ++ List.replicate (5 - (lg_sl ([.ref (a 0), .int p1])).length) Slot.unset).toArray = ls at hl ⊢
  have hl : lv_has ls 5 [(0, .ref (a 0)), (1, .int p1)] := hl
  unfold kf_Mo_grants at hk
  have L29 : ∀ (n29 : Nat) (x2 : Int32) (x3 : Int32) (τ : S_Mo) (H : Heap) (locs : List Loc) (ls : Array Slot), va_P D cls (wl_Mo a k τ) H → va_S (va_A (wl_Mo a k σ) s.heap.size) s.heap H locs → lv_has ls 5 [(0, .ref (a 0)), (1, .int p1), (2, .int x2), (3, .int x3)] → kf_Mo_grants_29 p1 n29 x2 x3 τ = some r0 → W p l e (headSpec w_Mo_grants ({ frames := 3, cells := 0, slots := 0, locals := 78 })).room s m [.ref (a 0), .int p1].toArray below meth c H locs 0 0 (MQ below (kp_M D cls (wl_Mo a k r0.2) (wl_Mo a k σ) s.heap.size r0.1) [.ref (a 0), .int p1].toArray s 0 0 (va_A (wl_Mo a k σ) s.heap.size)) (F0 m 29 ls []) := by
    intro n29
    induction n29 with
    | zero =>
      intro x2 x3 τ H locs ls hP hS hl hk
      exact nomatch hk
    | succ n29 ih29 =>
      have J133 : ∀ (x2 : Int32) (τ : S_Mo) (H : Heap) (locs : List Loc) (ls : Array Slot), va_P D cls (wl_Mo a k τ) H → va_S (va_A (wl_Mo a k σ) s.heap.size) s.heap H locs → lv_has ls 5 [(0, .ref (a 0)), (1, .int p1), (2, .int x2)] → kf_Mo_grants_133 p1 (kf_Mo_grants_29 p1 n29) x2 τ = some r0 → W p l e (headSpec w_Mo_grants ({ frames := 3, cells := 0, slots := 0, locals := 78 })).room s m [.ref (a 0), .int p1].toArray below meth c H locs 0 0 (MQ below (kp_M D cls (wl_Mo a k r0.2) (wl_Mo a k σ) s.heap.size r0.1) [.ref (a 0), .int p1].toArray s 0 0 (va_A (wl_Mo a k σ) s.heap.size)) (F0 m 133 ls []) := by
        intro x2 τ H locs ls hP hS hl hk
        unfold kf_Mo_grants_133 at hk
        refine lv_aload_n hx hb d_Mo_grants_133 rfl (lv_at hl 0 rfl) ?_
        refine lv_iload_n hx hb d_Mo_grants_134 rfl (lv_at hl 1 rfl) ?_
        obtain ⟨q1, e1, hk⟩ := ob_s hk
        refine kc_R (va_runV (As := [.int p1]) (rest := []) ⟨hx, hb, hml, hown, hts⟩ (c_Mo_nextWish l D a k _ τ p1 q1 e1) (cwV 1 hts (gV mw_632 mw_634 mw_22 mw_33 mw_635) rfl rfl rfl hd_Mo_nextWish ⟨Nat.le_of_ble_eq_true rfl, Nat.le_of_ble_eq_true rfl⟩) (kp_V (ci := 6) (q := (R_Mo, F_Mo, 15)) (q0 := 0) hK hP (hDt _) rfl rfl) rfl rfl hl.1 rfl (lv_room (Nat.le_of_ble_eq_true rfl)) d_Mo_grants_135 ⟨Nat.zero_le _, Nat.zero_le _⟩) hS hA hP (fun H locs hP hS => ?_)
        refine lv_istore_n (lv' := [(3, .int q1), (0, .ref (a 0)), (1, .int p1), (2, .int x2)]) hx hb d_Mo_grants_138 rfl hl (by decide) rfl (fun ls hl => ?_)
        refine lv_goto (tgt := 29) hx hb d_Mo_grants_139 (by decide) ?_
        exact ih29 x2 q1 τ _ _ _ hP hS (lv_sub hl [1, 2, 3, 0] rfl) hk
      have J126 : ∀ (x2 : Int32) (x3 : Int32) (τ : S_Mo) (H : Heap) (locs : List Loc) (ls : Array Slot), va_P D cls (wl_Mo a k τ) H → va_S (va_A (wl_Mo a k σ) s.heap.size) s.heap H locs → lv_has ls 5 [(0, .ref (a 0)), (1, .int p1), (2, .int x2), (3, .int x3)] → kf_Mo_grants_126 p1 (kf_Mo_grants_29 p1 n29) x2 x3 τ = some r0 → W p l e (headSpec w_Mo_grants ({ frames := 3, cells := 0, slots := 0, locals := 78 })).room s m [.ref (a 0), .int p1].toArray below meth c H locs 0 0 (MQ below (kp_M D cls (wl_Mo a k r0.2) (wl_Mo a k σ) s.heap.size r0.1) [.ref (a 0), .int p1].toArray s 0 0 (va_A (wl_Mo a k σ) s.heap.size)) (F0 m 126 ls []) := by
        intro x2 x3 τ H locs ls hP hS hl hk
        unfold kf_Mo_grants_126 at hk
        refine lv_aload_n hx hb d_Mo_grants_126 rfl (lv_at hl 0 rfl) ?_
        refine va_get (D := D) (ci := 6) (v := .ref (a 9)) (C := R_Mo) (T := F_Mo) (N := 15) hx hb hts i_uMo hown hK hP 0 rfl rfl 14 (by decide) (hts _ mw_512) (fun _ h9 => h9) rfl d_Mo_grants_127 ?_
        refine lv_iload_n hx hb d_Mo_grants_130 rfl (lv_at hl 3 rfl) ?_
        refine lv_iconst (v := 1) hx hb d_Mo_grants_131 (by decide) ?_
        obtain ⟨h2, hk⟩ := gd_in hk
        refine va_zast hx hb hK hP (hDw _) hS 9 8 rfl rfl h2 d_Mo_grants_132 (fun H locs hP _ hS => ?_)
        have hP : va_P D cls (wl_Mo a k (τ.1, τ.2.1, τ.2.2.1, τ.2.2.2.1, τ.2.2.2.2.1, τ.2.2.2.2.2.1, τ.2.2.2.2.2.2.1, τ.2.2.2.2.2.2.2.1, τ.2.2.2.2.2.2.2.2.1, τ.2.2.2.2.2.2.2.2.2.1, τ.2.2.2.2.2.2.2.2.2.2.1, τ.2.2.2.2.2.2.2.2.2.2.2.1, τ.2.2.2.2.2.2.2.2.2.2.2.2.1, τ.2.2.2.2.2.2.2.2.2.2.2.2.2.1, (upd τ.2.2.2.2.2.2.2.2.2.2.2.2.2.2 x3.toNatClampNeg (vp_nar .boolean 1)))) H := hP
        exact J133 x2 (τ.1, τ.2.1, τ.2.2.1, τ.2.2.2.1, τ.2.2.2.2.1, τ.2.2.2.2.2.1, τ.2.2.2.2.2.2.1, τ.2.2.2.2.2.2.2.1, τ.2.2.2.2.2.2.2.2.1, τ.2.2.2.2.2.2.2.2.2.1, τ.2.2.2.2.2.2.2.2.2.2.1, τ.2.2.2.2.2.2.2.2.2.2.2.1, τ.2.2.2.2.2.2.2.2.2.2.2.2.1, τ.2.2.2.2.2.2.2.2.2.2.2.2.2.1, (upd τ.2.2.2.2.2.2.2.2.2.2.2.2.2.2 x3.toNatClampNeg (vp_nar .boolean 1))) _ _ _ hP hS (lv_sub hl [0, 1, 2] rfl) hk
      intro x2 x3 τ H locs ls hP hS hl hk
      rw [kf_Mo_grants_29_s] at hk
      refine lv_iload_n hx hb d_Mo_grants_29 rfl (lv_at hl 3 rfl) ?_
      refine lv_iconst (v := -1) hx hb d_Mo_grants_30 (by decide) ?_
      refine lv_icmp_eq (tgt := 142) hx hb d_Mo_grants_31 (by decide) (fun c3 => ?_) (fun c3 => ?_)
      · have hk := br_p c3 hk
        refine lv_iload_n hx hb d_Mo_grants_142 rfl (lv_at hl 2 rfl) ?_
        exact kr_M (w := wl_Mo a k) hx hb hr rfl hlocks hS hP hk d_Mo_grants_143
      · have hk := br_n c3 hk
        refine lv_iconst (v := 5) hx hb d_Mo_grants_34 (by decide) ?_
        refine lv_iload_n hx hb d_Mo_grants_35 rfl (lv_at hl 3 rfl) ?_
        refine lv_imul hx hb d_Mo_grants_36 ?_
        refine lv_istore (lv' := [(4, .int (5 * x3)), (0, .ref (a 0)), (1, .int p1), (2, .int x2), (3, .int x3)]) hx hb d_Mo_grants_37 hl (by decide) rfl (fun ls hl => ?_)
        refine lv_aload_n hx hb d_Mo_grants_39 rfl (lv_at hl 1 rfl) ?_
        refine va_get (D := D) (ci := 6) (v := .int τ.2.2.2.2.2.2.2.2.1) (C := R_Mo) (T := F_Mo) (N := 15) hx hb hts i_uMo hown hK hP 0 rfl rfl 8 (by decide) (hts _ mw_506) (fun _ h9 => h9) rfl d_Mo_grants_40 ?_
        refine lv_sipush (v := 200) hx hb d_Mo_grants_43 (by decide) ?_
        refine lv_icmp_ge (tgt := 126) hx hb d_Mo_grants_46 (by decide) (fun c4 => ?_) (fun c4 => ?_)
        · have hk := br_p c4 hk
          exact J126 x2 x3 τ _ _ _ hP hS (lv_sub hl [1, 2, 3, 4] rfl) hk
        · have hk := br_n c4 hk
          refine lv_aload_n hx hb d_Mo_grants_49 rfl (lv_at hl 1 rfl) ?_
          refine lv_aload_n hx hb d_Mo_grants_50 rfl (lv_at hl 1 rfl) ?_
          refine va_get (D := D) (ci := 6) (v := .ref (a 5)) (C := R_Mo) (T := F_Mo) (N := 15) hx hb hts i_uMo hown hK hP 0 rfl rfl 9 (by decide) (hts _ mw_507) (fun _ h9 => h9) rfl d_Mo_grants_51 ?_
          refine lv_iload hx hb d_Mo_grants_54 (lv_at hl 0 rfl) ?_
          obtain ⟨h5, hk⟩ := gd_in hk
          refine va_iald hx hb hK hP 5 4 rfl rfl h5 d_Mo_grants_56 ?_
          refine lv_iload_n hx hb d_Mo_grants_57 rfl (lv_at hl 2 rfl) ?_
          refine lv_aload_n hx hb d_Mo_grants_58 rfl (lv_at hl 1 rfl) ?_
          refine va_get (D := D) (ci := 6) (v := .ref (a 5)) (C := R_Mo) (T := F_Mo) (N := 15) hx hb hts i_uMo hown hK hP 0 rfl rfl 9 (by decide) (hts _ mw_507) (fun _ h9 => h9) rfl d_Mo_grants_59 ?_
          refine lv_iload hx hb d_Mo_grants_62 (lv_at hl 0 rfl) ?_
          refine lv_iconst (v := 2) hx hb d_Mo_grants_64 (by decide) ?_
          refine lv_iadd hx hb d_Mo_grants_65 ?_
          obtain ⟨h6, hk⟩ := gd_in hk
          refine va_iald hx hb hK hP 5 4 rfl rfl h6 d_Mo_grants_66 ?_
          refine lv_aload_n hx hb d_Mo_grants_67 rfl (lv_at hl 1 rfl) ?_
          refine va_get (D := D) (ci := 6) (v := .ref (a 5)) (C := R_Mo) (T := F_Mo) (N := 15) hx hb hts i_uMo hown hK hP 0 rfl rfl 9 (by decide) (hts _ mw_507) (fun _ h9 => h9) rfl d_Mo_grants_68 ?_
          refine lv_iload hx hb d_Mo_grants_71 (lv_at hl 0 rfl) ?_
          refine lv_iconst (v := 3) hx hb d_Mo_grants_73 (by decide) ?_
          refine lv_iadd hx hb d_Mo_grants_74 ?_
          obtain ⟨h7, hk⟩ := gd_in hk
          refine va_iald hx hb hK hP 5 4 rfl rfl h7 d_Mo_grants_75 ?_
          refine lv_iconst (v := 0) hx hb d_Mo_grants_76 (by decide) ?_
          obtain ⟨q8, e8, hk⟩ := ob_s hk
          refine kc_R (va_runV (As := [.int (τ.2.2.2.2.2.2.2.2.2.1 (5 * x3).toNatClampNeg), .int p1, .int (τ.2.2.2.2.2.2.2.2.2.1 ((5 * x3) + 2).toNatClampNeg), .int (τ.2.2.2.2.2.2.2.2.2.1 ((5 * x3) + 3).toNatClampNeg), .int 0]) (rest := []) ⟨hx, hb, hml, hown, hts⟩ (c_Mo_against l D a k _ τ (τ.2.2.2.2.2.2.2.2.2.1 (5 * x3).toNatClampNeg) p1 (τ.2.2.2.2.2.2.2.2.2.1 ((5 * x3) + 2).toNatClampNeg) (τ.2.2.2.2.2.2.2.2.2.1 ((5 * x3) + 3).toNatClampNeg) 0 q8 e8) (cwV 5 hts (gV mw_572 mw_574 mw_11 mw_33 mw_575) rfl rfl rfl hd_Mo_against ⟨Nat.le_of_ble_eq_true rfl, Nat.le_of_ble_eq_true rfl⟩) (kp_V (ci := 6) (q := (R_Mo, F_Mo, 15)) (q0 := 0) hK hP (hDt _) rfl rfl) rfl rfl hl.1 rfl (lv_room (Nat.le_of_ble_eq_true rfl)) d_Mo_grants_77 ⟨Nat.zero_le _, Nat.zero_le _⟩) hS hA hP (fun H locs hP hS => ?_)
          refine lv_if_ne (tgt := 126) hx hb d_Mo_grants_80 (by decide) (fun c9 => ?_) (fun c9 => ?_)
          · have hk := br_n c9 hk
            exact J126 x2 x3 τ _ _ _ hP hS (lv_sub hl [1, 2, 3, 4] rfl) hk
          · have hk := br_p c9 hk
            refine lv_aload_n hx hb d_Mo_grants_83 rfl (lv_at hl 1 rfl) ?_
            refine lv_aload_n hx hb d_Mo_grants_84 rfl (lv_at hl 1 rfl) ?_
            refine va_get (D := D) (ci := 6) (v := .ref (a 5)) (C := R_Mo) (T := F_Mo) (N := 15) hx hb hts i_uMo hown hK hP 0 rfl rfl 9 (by decide) (hts _ mw_507) (fun _ h9 => h9) rfl d_Mo_grants_85 ?_
            refine lv_iload hx hb d_Mo_grants_88 (lv_at hl 0 rfl) ?_
            refine va_iald hx hb hK hP 5 4 rfl rfl h5 d_Mo_grants_90 ?_
            refine lv_iload_n hx hb d_Mo_grants_91 rfl (lv_at hl 2 rfl) ?_
            refine lv_aload_n hx hb d_Mo_grants_92 rfl (lv_at hl 1 rfl) ?_
            refine va_get (D := D) (ci := 6) (v := .ref (a 5)) (C := R_Mo) (T := F_Mo) (N := 15) hx hb hts i_uMo hown hK hP 0 rfl rfl 9 (by decide) (hts _ mw_507) (fun _ h9 => h9) rfl d_Mo_grants_93 ?_
            refine lv_iload hx hb d_Mo_grants_96 (lv_at hl 0 rfl) ?_
            refine lv_iconst (v := 2) hx hb d_Mo_grants_98 (by decide) ?_
            refine lv_iadd hx hb d_Mo_grants_99 ?_
            refine va_iald hx hb hK hP 5 4 rfl rfl h6 d_Mo_grants_100 ?_
            refine lv_aload_n hx hb d_Mo_grants_101 rfl (lv_at hl 1 rfl) ?_
            refine va_get (D := D) (ci := 6) (v := .ref (a 5)) (C := R_Mo) (T := F_Mo) (N := 15) hx hb hts i_uMo hown hK hP 0 rfl rfl 9 (by decide) (hts _ mw_507) (fun _ h9 => h9) rfl d_Mo_grants_102 ?_
            refine lv_iload hx hb d_Mo_grants_105 (lv_at hl 0 rfl) ?_
            refine lv_iconst (v := 3) hx hb d_Mo_grants_107 (by decide) ?_
            refine lv_iadd hx hb d_Mo_grants_108 ?_
            refine va_iald hx hb hK hP 5 4 rfl rfl h7 d_Mo_grants_109 ?_
            refine lv_iconst (v := 0) hx hb d_Mo_grants_110 (by decide) ?_
            obtain ⟨q10, e10, hk⟩ := ob_s hk
            refine kc_M (wF := wl_Mo a k q10.2) (va_runV (As := [.int (τ.2.2.2.2.2.2.2.2.2.1 (5 * x3).toNatClampNeg), .int p1, .int (τ.2.2.2.2.2.2.2.2.2.1 ((5 * x3) + 2).toNatClampNeg), .int (τ.2.2.2.2.2.2.2.2.2.1 ((5 * x3) + 3).toNatClampNeg), .int 0]) (rest := []) ⟨hx, hb, hml, hown, hts⟩ (c_Mo_add l D a k _ τ (τ.2.2.2.2.2.2.2.2.2.1 (5 * x3).toNatClampNeg) p1 (τ.2.2.2.2.2.2.2.2.2.1 ((5 * x3) + 2).toNatClampNeg) (τ.2.2.2.2.2.2.2.2.2.1 ((5 * x3) + 3).toNatClampNeg) 0 q10 e10) (cwV 5 hts (gV mw_596 mw_598 mw_16 mw_33 mw_599) rfl rfl rfl hd_Mo_add ⟨Nat.le_of_ble_eq_true rfl, Nat.le_of_ble_eq_true rfl⟩) (kp_V (ci := 6) (q := (R_Mo, F_Mo, 15)) (q0 := 0) hK hP (hDt _) rfl rfl) rfl rfl hl.1 rfl (lv_room (Nat.le_of_ble_eq_true rfl)) d_Mo_grants_111 ⟨Nat.zero_le _, Nat.zero_le _⟩) hS (hDw _) hA (fun _ _ h _ => h) (fun H locs hP hS => ?_)
            refine lv_pop hx hb d_Mo_grants_114 rfl ?_
            refine lv_aload_n hx hb d_Mo_grants_115 rfl (lv_at hl 1 rfl) ?_
            refine lv_iload_n hx hb d_Mo_grants_116 rfl (lv_at hl 4 rfl) ?_
            obtain ⟨q11, e11, hk⟩ := ob_s hk
            refine kc_Mv (wF := wl_Mo a k q11) (va_runV (As := [.int x3]) (rest := []) ⟨hx, hb, hml, hown, hts⟩ (c_Mo_dropWish l D a k _ q10.2 x3 q11 e11) (cwV 1 hts (gV mw_636 mw_638 mw_23 mw_33 mw_639) rfl rfl rfl hd_Mo_dropWish ⟨Nat.le_of_ble_eq_true rfl, Nat.le_of_ble_eq_true rfl⟩) (kp_V (ci := 6) (q := (R_Mo, F_Mo, 15)) (q0 := 0) hK hP (hDt _) rfl rfl) rfl rfl hl.1 rfl (lv_room (Nat.le_of_ble_eq_true rfl)) d_Mo_grants_117 ⟨Nat.zero_le _, Nat.zero_le _⟩) hS (hDw _) hA (fun _ _ h _ => h) (fun H locs hP hS => ?_)
            refine lv_iinc (v := (x2 + 1)) (lv' := [(2, .int (x2 + 1)), (4, .int (5 * x3)), (0, .ref (a 0)), (1, .int p1), (3, .int x3)]) hx hb d_Mo_grants_120 hl (k := 3) rfl rfl (by decide) rfl (fun ls hl => ?_)
            refine lv_goto (tgt := 133) hx hb d_Mo_grants_123 (by decide) ?_
            exact J133 (x2 + 1) q11 _ _ _ hP hS (lv_sub hl [2, 3, 0] rfl) hk
  have L2 : ∀ (n2 : Nat) (x2 : Int32) (τ : S_Mo) (H : Heap) (locs : List Loc) (ls : Array Slot), va_P D cls (wl_Mo a k τ) H → va_S (va_A (wl_Mo a k σ) s.heap.size) s.heap H locs → lv_has ls 5 [(0, .ref (a 0)), (1, .int p1), (2, .int x2)] → kf_Mo_grants_2 p1 n2 x2 τ = some r0 → W p l e (headSpec w_Mo_grants ({ frames := 3, cells := 0, slots := 0, locals := 78 })).room s m [.ref (a 0), .int p1].toArray below meth c H locs 0 0 (MQ below (kp_M D cls (wl_Mo a k r0.2) (wl_Mo a k σ) s.heap.size r0.1) [.ref (a 0), .int p1].toArray s 0 0 (va_A (wl_Mo a k σ) s.heap.size)) (F0 m 2 ls []) := by
    intro n2
    induction n2 with
    | zero =>
      intro x2 τ H locs ls hP hS hl hk
      exact nomatch hk
    | succ n2 ih2 =>
      intro x2 τ H locs ls hP hS hl hk
      rw [kf_Mo_grants_2_s] at hk
      refine lv_iload_n hx hb d_Mo_grants_2 rfl (lv_at hl 2 rfl) ?_
      refine lv_bipush (v := 60) hx hb d_Mo_grants_3 (by decide) ?_
      refine lv_icmp_ge (tgt := 21) hx hb d_Mo_grants_5 (by decide) (fun c12 => ?_) (fun c12 => ?_)
      · have hk := br_p c12 hk
        refine lv_iconst (v := 0) hx hb d_Mo_grants_21 (by decide) ?_
        refine lv_istore_n (lv' := [(2, .int 0), (0, .ref (a 0)), (1, .int p1)]) hx hb d_Mo_grants_22 rfl hl (by decide) rfl (fun ls hl => ?_)
        refine lv_aload_n hx hb d_Mo_grants_23 rfl (lv_at hl 1 rfl) ?_
        refine lv_iload_n hx hb d_Mo_grants_24 rfl (lv_at hl 2 rfl) ?_
        obtain ⟨q13, e13, hk⟩ := ob_s hk
        refine kc_R (va_runV (As := [.int p1]) (rest := []) ⟨hx, hb, hml, hown, hts⟩ (c_Mo_nextWish l D a k _ τ p1 q13 e13) (cwV 1 hts (gV mw_632 mw_634 mw_22 mw_33 mw_635) rfl rfl rfl hd_Mo_nextWish ⟨Nat.le_of_ble_eq_true rfl, Nat.le_of_ble_eq_true rfl⟩) (kp_V (ci := 6) (q := (R_Mo, F_Mo, 15)) (q0 := 0) hK hP (hDt _) rfl rfl) rfl rfl hl.1 rfl (lv_room (Nat.le_of_ble_eq_true rfl)) d_Mo_grants_25 ⟨Nat.zero_le _, Nat.zero_le _⟩) hS hA hP (fun H locs hP hS => ?_)
        refine lv_istore_n (lv' := [(3, .int q13), (2, .int 0), (0, .ref (a 0)), (1, .int p1)]) hx hb d_Mo_grants_28 rfl hl (by decide) rfl (fun ls hl => ?_)
        exact L29 FU 0 q13 τ _ _ _ hP hS (lv_sub hl [2, 3, 1, 0] rfl) hk
      · have hk := br_n c12 hk
        refine lv_aload_n hx hb d_Mo_grants_8 rfl (lv_at hl 0 rfl) ?_
        refine va_get (D := D) (ci := 6) (v := .ref (a 9)) (C := R_Mo) (T := F_Mo) (N := 15) hx hb hts i_uMo hown hK hP 0 rfl rfl 14 (by decide) (hts _ mw_512) (fun _ h9 => h9) rfl d_Mo_grants_9 ?_
        refine lv_iload_n hx hb d_Mo_grants_12 rfl (lv_at hl 2 rfl) ?_
        refine lv_iconst (v := 0) hx hb d_Mo_grants_13 (by decide) ?_
        obtain ⟨h14, hk⟩ := gd_in hk
        refine va_zast hx hb hK hP (hDw _) hS 9 8 rfl rfl h14 d_Mo_grants_14 (fun H locs hP _ hS => ?_)
        have hP : va_P D cls (wl_Mo a k (τ.1, τ.2.1, τ.2.2.1, τ.2.2.2.1, τ.2.2.2.2.1, τ.2.2.2.2.2.1, τ.2.2.2.2.2.2.1, τ.2.2.2.2.2.2.2.1, τ.2.2.2.2.2.2.2.2.1, τ.2.2.2.2.2.2.2.2.2.1, τ.2.2.2.2.2.2.2.2.2.2.1, τ.2.2.2.2.2.2.2.2.2.2.2.1, τ.2.2.2.2.2.2.2.2.2.2.2.2.1, τ.2.2.2.2.2.2.2.2.2.2.2.2.2.1, (upd τ.2.2.2.2.2.2.2.2.2.2.2.2.2.2 x2.toNatClampNeg (vp_nar .boolean 0)))) H := hP
        refine lv_iinc (v := (x2 + 1)) (lv' := [(2, .int (x2 + 1)), (0, .ref (a 0)), (1, .int p1)]) hx hb d_Mo_grants_15 hl (k := 2) rfl rfl (by decide) rfl (fun ls hl => ?_)
        refine lv_goto (tgt := 2) hx hb d_Mo_grants_18 (by decide) ?_
        exact ih2 (x2 + 1) (τ.1, τ.2.1, τ.2.2.1, τ.2.2.2.1, τ.2.2.2.2.1, τ.2.2.2.2.2.1, τ.2.2.2.2.2.2.1, τ.2.2.2.2.2.2.2.1, τ.2.2.2.2.2.2.2.2.1, τ.2.2.2.2.2.2.2.2.2.1, τ.2.2.2.2.2.2.2.2.2.2.1, τ.2.2.2.2.2.2.2.2.2.2.2.1, τ.2.2.2.2.2.2.2.2.2.2.2.2.1, τ.2.2.2.2.2.2.2.2.2.2.2.2.2.1, (upd τ.2.2.2.2.2.2.2.2.2.2.2.2.2.2 x2.toNatClampNeg (vp_nar .boolean 0))) _ _ _ hP hS (lv_sub hl [1, 2, 0] rfl) hk
  refine lv_iconst (v := 0) hx hb d_Mo_grants_0 (by decide) ?_
  refine lv_istore_n (lv' := [(2, .int 0), (0, .ref (a 0)), (1, .int p1)]) hx hb d_Mo_grants_1 rfl hl (by decide) rfl (fun ls hl => ?_)
  exact L2 FU 0 σ _ _ _ hP hS (lv_sub hl [1, 2, 0] rfl) hk
set_option maxHeartbeats 4000000 in
set_option maxRecDepth 100000 in
theorem c_Mo_ends (l : Launch) (D : va_G) (a : Nat → Nat) (k : Nat → ClassId) (sz : Nat) (σ : S_Mo) (p1 p2 : Int32) (r0 : Int32 × S_Mo) (hk : kf_Mo_ends σ p1 p2 = some r0) : Met l y_Mo_ends w_Mo_ends ({ frames := 0, cells := 0, slots := 0, locals := 0 }) (kp_P D cls (ty_Mo k) (wl_Mo a k σ) [.ref (a 0), .int p1, .int p2] sz) (kp_M D cls (wl_Mo a k r0.2) (wl_Mo a k σ) sz r0.1) 0 0 (va_A (wl_Mo a k σ) sz) := by
  refine Met.ofW (cc := b_Mo_ends) (maxL := 5) (ret := (some .int)) (by decide) rfl ?_
  intro p e s m args below meth c s₁ B hml hv
  obtain ⟨rfl, hsz, hP, hK, hD0⟩ := hv
  have hx := B.exec
  have hb := B.bytes
  have hr := B.returns
  have hts : ∀ w ∈ lw_g, w.before _ s = true := fun w h => atoms_spec (ws := w_Mo_ends) B.pre w (List.mem_cons_of_mem _ h)
  have hown : s.vm.findClass R_Mo = some m.cls := findClass_of_methodNamed B.named
  have hlocks := B.notSynchronized
  subst hsz
  have hA : ∀ q : Nat, s.heap.size ≤ q → (va_A (wl_Mo a k σ) s.heap.size) q := fun _ h => Or.inr h
  have hDt : ∀ τ, va_D (fun _ => True) (wl_Mo a k τ) := fun τ => kd_cg hD0 rfl
  have hDw : ∀ τ, va_D (va_A (wl_Mo a k σ) s.heap.size) (wl_Mo a k τ) := fun τ => kd_cg hD0.self rfl
  have hS : va_S (va_A (wl_Mo a k σ) s.heap.size) s.heap s.heap [] := va_S.rf
  have hl := lv_entry ([.ref (a 0), .int p1, .int p2]) (n := 5) (Nat.le_of_ble_eq_true rfl)
  rw [lg_entry_eq]
  generalize (lg_sl ([.ref (a 0), .int p1, .int p2]) ++ List.replicate (5 - (lg_sl ([.ref (a 0), .int p1, .int p2])).length) Slot.unset).toArray = ls at hl ⊢
  have hl : lv_has ls 5 [(0, .ref (a 0)), (1, .int p1), (2, .int p2)] := hl
  unfold kf_Mo_ends at hk
  have L17 : ∀ (n17 : Nat) (x3 : Int32) (x4 : Int32) (τ : S_Mo) (H : Heap) (locs : List Loc) (ls : Array Slot), va_P D cls (wl_Mo a k τ) H → va_S (va_A (wl_Mo a k σ) s.heap.size) s.heap H locs → lv_has ls 5 [(0, .ref (a 0)), (1, .int p1), (2, .int p2), (3, .int x3), (4, .int x4)] → kf_Mo_ends_17 p1 p2 n17 x3 x4 τ = some r0 → W p l e (headSpec w_Mo_ends ({ frames := 0, cells := 0, slots := 0, locals := 0 })).room s m [.ref (a 0), .int p1, .int p2].toArray below meth c H locs 0 0 (MQ below (kp_M D cls (wl_Mo a k r0.2) (wl_Mo a k σ) s.heap.size r0.1) [.ref (a 0), .int p1, .int p2].toArray s 0 0 (va_A (wl_Mo a k σ) s.heap.size)) (F0 m 17 ls []) := by
    intro n17
    induction n17 with
    | zero =>
      intro x3 x4 τ H locs ls hP hS hl hk
      exact nomatch hk
    | succ n17 ih17 =>
      intro x3 x4 τ H locs ls hP hS hl hk
      rw [kf_Mo_ends_17_s] at hk
      refine lv_iload hx hb d_Mo_ends_17 (lv_at hl 4 rfl) ?_
      refine lv_aload_n hx hb d_Mo_ends_19 rfl (lv_at hl 0 rfl) ?_
      refine va_get (D := D) (ci := 6) (v := .int τ.2.2.2.2.2.2.2.2.1) (C := R_Mo) (T := F_Mo) (N := 15) hx hb hts i_uMo hown hK hP 0 rfl rfl 8 (by decide) (hts _ mw_506) (fun _ h9 => h9) rfl d_Mo_ends_20 ?_
      refine lv_icmp_gt (tgt := 97) hx hb d_Mo_ends_23 (by decide) (fun c1 => ?_) (fun c1 => ?_)
      · have hk := br_p c1 hk
        refine lv_iload_n hx hb d_Mo_ends_97 rfl (lv_at hl 3 rfl) ?_
        exact kr_M (w := wl_Mo a k) hx hb hr rfl hlocks hS hP hk d_Mo_ends_98
      · have hk := br_n c1 hk
        refine lv_aload_n hx hb d_Mo_ends_26 rfl (lv_at hl 0 rfl) ?_
        refine va_get (D := D) (ci := 6) (v := .ref (a 4)) (C := R_Mo) (T := F_Mo) (N := 15) hx hb hts i_uMo hown hK hP 0 rfl rfl 7 (by decide) (hts _ mw_505) (fun _ h9 => h9) rfl d_Mo_ends_27 ?_
        refine lv_bipush (v := 6) hx hb d_Mo_ends_30 (by decide) ?_
        refine lv_iload hx hb d_Mo_ends_32 (lv_at hl 4 rfl) ?_
        refine lv_imul hx hb d_Mo_ends_34 ?_
        refine lv_iconst (v := 5) hx hb d_Mo_ends_35 (by decide) ?_
        refine lv_iadd hx hb d_Mo_ends_36 ?_
        obtain ⟨h2, hk⟩ := gd_in hk
        refine va_iald hx hb hK hP 4 3 rfl rfl h2 d_Mo_ends_37 ?_
        refine lv_iload_n hx hb d_Mo_ends_38 rfl (lv_at hl 1 rfl) ?_
        refine lv_icmp_ne (tgt := 91) hx hb d_Mo_ends_39 (by decide) (fun c3 => ?_) (fun c3 => ?_)
        · have hk := br_n c3 hk
          refine lv_iinc (v := (x4 + 1)) (lv' := [(4, .int (x4 + 1)), (0, .ref (a 0)), (1, .int p1), (2, .int p2), (3, .int x3)]) hx hb d_Mo_ends_91 hl (k := 4) rfl rfl (by decide) rfl (fun ls hl => ?_)
          refine lv_goto (tgt := 17) hx hb d_Mo_ends_94 (by decide) ?_
          exact ih17 x3 (x4 + 1) τ _ _ _ hP hS (lv_sub hl [1, 2, 3, 4, 0] rfl) hk
        · have hk := br_p c3 hk
          refine lv_aload_n hx hb d_Mo_ends_42 rfl (lv_at hl 0 rfl) ?_
          refine va_get (D := D) (ci := 6) (v := .ref (a 4)) (C := R_Mo) (T := F_Mo) (N := 15) hx hb hts i_uMo hown hK hP 0 rfl rfl 7 (by decide) (hts _ mw_505) (fun _ h9 => h9) rfl d_Mo_ends_43 ?_
          refine lv_bipush (v := 6) hx hb d_Mo_ends_46 (by decide) ?_
          refine lv_iload hx hb d_Mo_ends_48 (lv_at hl 4 rfl) ?_
          refine lv_imul hx hb d_Mo_ends_50 ?_
          refine lv_iconst (v := 4) hx hb d_Mo_ends_51 (by decide) ?_
          refine lv_iadd hx hb d_Mo_ends_52 ?_
          obtain ⟨h4, hk⟩ := gd_in hk
          refine va_iald hx hb hK hP 4 3 rfl rfl h4 d_Mo_ends_53 ?_
          refine lv_if_ne (tgt := 91) hx hb d_Mo_ends_54 (by decide) (fun c5 => ?_) (fun c5 => ?_)
          · have hk := br_n c5 hk
            refine lv_iinc (v := (x4 + 1)) (lv' := [(4, .int (x4 + 1)), (0, .ref (a 0)), (1, .int p1), (2, .int p2), (3, .int x3)]) hx hb d_Mo_ends_91 hl (k := 4) rfl rfl (by decide) rfl (fun ls hl => ?_)
            refine lv_goto (tgt := 17) hx hb d_Mo_ends_94 (by decide) ?_
            exact ih17 x3 (x4 + 1) τ _ _ _ hP hS (lv_sub hl [1, 2, 3, 4, 0] rfl) hk
          · have hk := br_p c5 hk
            refine lv_aload_n hx hb d_Mo_ends_57 rfl (lv_at hl 0 rfl) ?_
            refine va_get (D := D) (ci := 6) (v := .ref (a 4)) (C := R_Mo) (T := F_Mo) (N := 15) hx hb hts i_uMo hown hK hP 0 rfl rfl 7 (by decide) (hts _ mw_505) (fun _ h9 => h9) rfl d_Mo_ends_58 ?_
            refine lv_bipush (v := 6) hx hb d_Mo_ends_61 (by decide) ?_
            refine lv_iload hx hb d_Mo_ends_63 (lv_at hl 4 rfl) ?_
            refine lv_imul hx hb d_Mo_ends_65 ?_
            refine lv_iconst (v := 4) hx hb d_Mo_ends_66 (by decide) ?_
            refine lv_iadd hx hb d_Mo_ends_67 ?_
            refine lv_iload_n hx hb d_Mo_ends_68 rfl (lv_at hl 2 rfl) ?_
            refine va_iast hx hb hK hP (hDw _) hS 4 3 rfl rfl h4 d_Mo_ends_69 (fun H locs hP _ hS => ?_)
            have hP : va_P D cls (wl_Mo a k (τ.1, τ.2.1, τ.2.2.1, τ.2.2.2.1, τ.2.2.2.2.1, τ.2.2.2.2.2.1, τ.2.2.2.2.2.2.1, (upd τ.2.2.2.2.2.2.2.1 ((6 * x4) + 4).toNatClampNeg p2), τ.2.2.2.2.2.2.2.2.1, τ.2.2.2.2.2.2.2.2.2.1, τ.2.2.2.2.2.2.2.2.2.2.1, τ.2.2.2.2.2.2.2.2.2.2.2.1, τ.2.2.2.2.2.2.2.2.2.2.2.2.1, τ.2.2.2.2.2.2.2.2.2.2.2.2.2.1, τ.2.2.2.2.2.2.2.2.2.2.2.2.2.2)) H := hP
            refine lv_aload_n hx hb d_Mo_ends_70 rfl (lv_at hl 0 rfl) ?_
            refine va_get (D := D) (ci := 6) (v := .ref (a 8)) (C := R_Mo) (T := F_Mo) (N := 15) hx hb hts i_uMo hown hK hP 0 rfl rfl 13 (by decide) (hts _ mw_511) (fun _ h9 => h9) rfl d_Mo_ends_71 ?_
            refine lv_iload_n hx hb d_Mo_ends_74 rfl (lv_at hl 3 rfl) ?_
            refine lv_aload_n hx hb d_Mo_ends_75 rfl (lv_at hl 0 rfl) ?_
            refine va_get (D := D) (ci := 6) (v := .ref (a 4)) (C := R_Mo) (T := F_Mo) (N := 15) hx hb hts i_uMo hown hK hP 0 rfl rfl 7 (by decide) (hts _ mw_505) (fun _ h9 => h9) rfl d_Mo_ends_76 ?_
            refine lv_bipush (v := 6) hx hb d_Mo_ends_79 (by decide) ?_
            refine lv_iload hx hb d_Mo_ends_81 (lv_at hl 4 rfl) ?_
            refine lv_imul hx hb d_Mo_ends_83 ?_
            refine lv_iconst (v := 1) hx hb d_Mo_ends_84 (by decide) ?_
            refine lv_iadd hx hb d_Mo_ends_85 ?_
            obtain ⟨h6, hk⟩ := gd_in hk
            refine va_iald hx hb hK hP 4 3 rfl rfl h6 d_Mo_ends_86 ?_
            obtain ⟨h7, hk⟩ := gd_in hk
            refine va_iast hx hb hK hP (hDw _) hS 8 7 rfl rfl h7 d_Mo_ends_87 (fun H locs hP _ hS => ?_)
            have hP : va_P D cls (wl_Mo a k (τ.1, τ.2.1, τ.2.2.1, τ.2.2.2.1, τ.2.2.2.2.1, τ.2.2.2.2.2.1, τ.2.2.2.2.2.2.1, (upd τ.2.2.2.2.2.2.2.1 ((6 * x4) + 4).toNatClampNeg p2), τ.2.2.2.2.2.2.2.2.1, τ.2.2.2.2.2.2.2.2.2.1, τ.2.2.2.2.2.2.2.2.2.2.1, τ.2.2.2.2.2.2.2.2.2.2.2.1, τ.2.2.2.2.2.2.2.2.2.2.2.2.1, (upd τ.2.2.2.2.2.2.2.2.2.2.2.2.2.1 x3.toNatClampNeg ((upd τ.2.2.2.2.2.2.2.1 ((6 * x4) + 4).toNatClampNeg p2) ((6 * x4) + 1).toNatClampNeg)), τ.2.2.2.2.2.2.2.2.2.2.2.2.2.2)) H := hP
            refine lv_iinc (v := (x3 + 1)) (lv' := [(3, .int (x3 + 1)), (0, .ref (a 0)), (1, .int p1), (2, .int p2), (4, .int x4)]) hx hb d_Mo_ends_88 hl (k := 3) rfl rfl (by decide) rfl (fun ls hl => ?_)
            refine lv_iinc (v := (x4 + 1)) (lv' := [(4, .int (x4 + 1)), (3, .int (x3 + 1)), (0, .ref (a 0)), (1, .int p1), (2, .int p2)]) hx hb d_Mo_ends_91 hl (k := 4) rfl rfl (by decide) rfl (fun ls hl => ?_)
            refine lv_goto (tgt := 17) hx hb d_Mo_ends_94 (by decide) ?_
            exact ih17 (x3 + 1) (x4 + 1) (τ.1, τ.2.1, τ.2.2.1, τ.2.2.2.1, τ.2.2.2.2.1, τ.2.2.2.2.2.1, τ.2.2.2.2.2.2.1, (upd τ.2.2.2.2.2.2.2.1 ((6 * x4) + 4).toNatClampNeg p2), τ.2.2.2.2.2.2.2.2.1, τ.2.2.2.2.2.2.2.2.2.1, τ.2.2.2.2.2.2.2.2.2.2.1, τ.2.2.2.2.2.2.2.2.2.2.2.1, τ.2.2.2.2.2.2.2.2.2.2.2.2.1, (upd τ.2.2.2.2.2.2.2.2.2.2.2.2.2.1 x3.toNatClampNeg ((upd τ.2.2.2.2.2.2.2.1 ((6 * x4) + 4).toNatClampNeg p2) ((6 * x4) + 1).toNatClampNeg)), τ.2.2.2.2.2.2.2.2.2.2.2.2.2.2) _ _ _ hP hS (lv_sub hl [2, 3, 4, 1, 0] rfl) hk
  refine lv_iconst (v := 0) hx hb d_Mo_ends_0 (by decide) ?_
  refine lv_istore_n (lv' := [(3, .int 0), (0, .ref (a 0)), (1, .int p1), (2, .int p2)]) hx hb d_Mo_ends_1 rfl hl (by decide) rfl (fun ls hl => ?_)
  refine lv_aload_n hx hb d_Mo_ends_2 rfl (lv_at hl 1 rfl) ?_
  refine va_get (D := D) (ci := 6) (v := .ref (a 4)) (C := R_Mo) (T := F_Mo) (N := 15) hx hb hts i_uMo hown hK hP 0 rfl rfl 7 (by decide) (hts _ mw_505) (fun _ h9 => h9) rfl d_Mo_ends_3 ?_
  refine lv_bipush (v := 6) hx hb d_Mo_ends_6 (by decide) ?_
  refine lv_iload_n hx hb d_Mo_ends_8 rfl (lv_at hl 2 rfl) ?_
  refine lv_imul hx hb d_Mo_ends_9 ?_
  refine lv_iconst (v := 4) hx hb d_Mo_ends_10 (by decide) ?_
  refine lv_iadd hx hb d_Mo_ends_11 ?_
  refine lv_iload_n hx hb d_Mo_ends_12 rfl (lv_at hl 3 rfl) ?_
  obtain ⟨h8, hk⟩ := gd_in hk
  refine va_iast hx hb hK hP (hDw _) hS 4 3 rfl rfl h8 d_Mo_ends_13 (fun H locs hP _ hS => ?_)
  have hP : va_P D cls (wl_Mo a k (σ.1, σ.2.1, σ.2.2.1, σ.2.2.2.1, σ.2.2.2.2.1, σ.2.2.2.2.2.1, σ.2.2.2.2.2.2.1, (upd σ.2.2.2.2.2.2.2.1 ((6 * p1) + 4).toNatClampNeg p2), σ.2.2.2.2.2.2.2.2.1, σ.2.2.2.2.2.2.2.2.2.1, σ.2.2.2.2.2.2.2.2.2.2.1, σ.2.2.2.2.2.2.2.2.2.2.2.1, σ.2.2.2.2.2.2.2.2.2.2.2.2.1, σ.2.2.2.2.2.2.2.2.2.2.2.2.2.1, σ.2.2.2.2.2.2.2.2.2.2.2.2.2.2)) H := hP
  refine lv_iconst (v := 1) hx hb d_Mo_ends_14 (by decide) ?_
  refine lv_istore (lv' := [(4, .int 1), (3, .int 0), (0, .ref (a 0)), (1, .int p1), (2, .int p2)]) hx hb d_Mo_ends_15 hl (by decide) rfl (fun ls hl => ?_)
  exact L17 FU 0 1 (σ.1, σ.2.1, σ.2.2.1, σ.2.2.2.1, σ.2.2.2.2.1, σ.2.2.2.2.2.1, σ.2.2.2.2.2.2.1, (upd σ.2.2.2.2.2.2.2.1 ((6 * p1) + 4).toNatClampNeg p2), σ.2.2.2.2.2.2.2.2.1, σ.2.2.2.2.2.2.2.2.2.1, σ.2.2.2.2.2.2.2.2.2.2.1, σ.2.2.2.2.2.2.2.2.2.2.2.1, σ.2.2.2.2.2.2.2.2.2.2.2.2.1, σ.2.2.2.2.2.2.2.2.2.2.2.2.2.1, σ.2.2.2.2.2.2.2.2.2.2.2.2.2.2) _ _ _ hP hS (lv_sub hl [2, 3, 4, 1, 0] rfl) hk
set_option maxHeartbeats 4000000 in
set_option maxRecDepth 100000 in
theorem c_Mo_grantAll (l : Launch) (D : va_G) (a : Nat → Nat) (k : Nat → ClassId) (sz : Nat) (σ : S_Mo) (p1 p2 : Int32) (r0 : Int32 × S_Mo) (hk : kf_Mo_grantAll σ p1 p2 = some r0) : Met l y_Mo_grantAll w_Mo_grantAll ({ frames := 4, cells := 0, slots := 0, locals := 102 }) (kp_P D cls (ty_Mo k) (wl_Mo a k σ) [.ref (a 0), .int p1, .int p2] sz) (kp_M D cls (wl_Mo a k r0.2) (wl_Mo a k σ) sz r0.1) 0 0 (va_A (wl_Mo a k σ) sz) := by
  refine Met.ofW (cc := b_Mo_grantAll) (maxL := 5) (ret := (some .int)) (by decide) rfl ?_
  intro p e s m args below meth c s₁ B hml hv
  obtain ⟨rfl, hsz, hP, hK, hD0⟩ := hv
  have hx := B.exec
  have hb := B.bytes
  have hr := B.returns
  have hts : ∀ w ∈ lw_g, w.before _ s = true := fun w h => atoms_spec (ws := w_Mo_grantAll) B.pre w (List.mem_cons_of_mem _ h)
  have hown : s.vm.findClass R_Mo = some m.cls := findClass_of_methodNamed B.named
  have hlocks := B.notSynchronized
  subst hsz
  have hA : ∀ q : Nat, s.heap.size ≤ q → (va_A (wl_Mo a k σ) s.heap.size) q := fun _ h => Or.inr h
  have hDt : ∀ τ, va_D (fun _ => True) (wl_Mo a k τ) := fun τ => kd_cg hD0 rfl
  have hDw : ∀ τ, va_D (va_A (wl_Mo a k σ) s.heap.size) (wl_Mo a k τ) := fun τ => kd_cg hD0.self rfl
  have hS : va_S (va_A (wl_Mo a k σ) s.heap.size) s.heap s.heap [] := va_S.rf
  have hl := lv_entry ([.ref (a 0), .int p1, .int p2]) (n := 5) (Nat.le_of_ble_eq_true rfl)
  rw [lg_entry_eq]
  generalize (lg_sl ([.ref (a 0), .int p1, .int p2]) ++ List.replicate (5 - (lg_sl ([.ref (a 0), .int p1, .int p2])).length) Slot.unset).toArray = ls at hl ⊢
  have hl : lv_has ls 5 [(0, .ref (a 0)), (1, .int p1), (2, .int p2)] := hl
  unfold kf_Mo_grantAll at hk
  have L19 : ∀ (n19 : Nat) (x3 : Int32) (x4 : Int32) (τ : S_Mo) (H : Heap) (locs : List Loc) (ls : Array Slot), va_P D cls (wl_Mo a k τ) H → va_S (va_A (wl_Mo a k σ) s.heap.size) s.heap H locs → lv_has ls 5 [(0, .ref (a 0)), (2, .int p2), (3, .int x3), (4, .int x4)] → kf_Mo_grantAll_19 p1 p2 n19 x3 x4 τ = some r0 → W p l e (headSpec w_Mo_grantAll ({ frames := 4, cells := 0, slots := 0, locals := 102 })).room s m [.ref (a 0), .int p1, .int p2].toArray below meth c H locs 0 0 (MQ below (kp_M D cls (wl_Mo a k r0.2) (wl_Mo a k σ) s.heap.size r0.1) [.ref (a 0), .int p1, .int p2].toArray s 0 0 (va_A (wl_Mo a k σ) s.heap.size)) (F0 m 19 ls []) := by
    intro n19
    induction n19 with
    | zero =>
      intro x3 x4 τ H locs ls hP hS hl hk
      exact nomatch hk
    | succ n19 ih19 =>
      intro x3 x4 τ H locs ls hP hS hl hk
      rw [kf_Mo_grantAll_19_s] at hk
      refine lv_iload hx hb d_Mo_grantAll_19 (lv_at hl 3 rfl) ?_
      refine lv_iload_n hx hb d_Mo_grantAll_21 rfl (lv_at hl 1 rfl) ?_
      refine lv_icmp_ge (tgt := 45) hx hb d_Mo_grantAll_22 (by decide) (fun c1 => ?_) (fun c1 => ?_)
      · have hk := br_p c1 hk
        refine lv_iload_n hx hb d_Mo_grantAll_45 rfl (lv_at hl 2 rfl) ?_
        exact kr_M (w := wl_Mo a k) hx hb hr rfl hlocks hS hP hk d_Mo_grantAll_46
      · have hk := br_n c1 hk
        refine lv_iload_n hx hb d_Mo_grantAll_25 rfl (lv_at hl 2 rfl) ?_
        refine lv_aload_n hx hb d_Mo_grantAll_26 rfl (lv_at hl 0 rfl) ?_
        refine lv_aload_n hx hb d_Mo_grantAll_27 rfl (lv_at hl 0 rfl) ?_
        refine va_get (D := D) (ci := 6) (v := .ref (a 8)) (C := R_Mo) (T := F_Mo) (N := 15) hx hb hts i_uMo hown hK hP 0 rfl rfl 13 (by decide) (hts _ mw_511) (fun _ h9 => h9) rfl d_Mo_grantAll_28 ?_
        refine lv_iload hx hb d_Mo_grantAll_31 (lv_at hl 3 rfl) ?_
        obtain ⟨h2, hk⟩ := gd_in hk
        refine va_iald hx hb hK hP 8 7 rfl rfl h2 d_Mo_grantAll_33 ?_
        obtain ⟨q3, e3, hk⟩ := ob_s hk
        refine kc_M (wF := wl_Mo a k q3.2) (va_runV (As := [.int (τ.2.2.2.2.2.2.2.2.2.2.2.2.2.1 x4.toNatClampNeg)]) (rest := [.int x3]) ⟨hx, hb, hml, hown, hts⟩ (c_Mo_grants l D a k _ τ (τ.2.2.2.2.2.2.2.2.2.2.2.2.2.1 x4.toNatClampNeg) q3 e3) (cwV 1 hts (gV mw_628 mw_630 mw_21 mw_33 mw_631) rfl rfl rfl hd_Mo_grants ⟨Nat.le_of_ble_eq_true rfl, Nat.le_of_ble_eq_true rfl⟩) (kp_V (ci := 6) (q := (R_Mo, F_Mo, 15)) (q0 := 0) hK hP (hDt _) rfl rfl) rfl rfl hl.1 rfl (lv_room (Nat.le_of_ble_eq_true rfl)) d_Mo_grantAll_34 ⟨Nat.zero_le _, Nat.zero_le _⟩) hS (hDw _) hA (fun _ _ h _ => h) (fun H locs hP hS => ?_)
        refine lv_iadd hx hb d_Mo_grantAll_37 ?_
        refine lv_istore_n (lv' := [(3, .int (x3 + q3.1)), (0, .ref (a 0)), (2, .int p2), (4, .int x4)]) hx hb d_Mo_grantAll_38 rfl hl (by decide) rfl (fun ls hl => ?_)
        refine lv_iinc (v := (x4 + 1)) (lv' := [(4, .int (x4 + 1)), (3, .int (x3 + q3.1)), (0, .ref (a 0)), (2, .int p2)]) hx hb d_Mo_grantAll_39 hl (k := 3) rfl rfl (by decide) rfl (fun ls hl => ?_)
        refine lv_goto (tgt := 19) hx hb d_Mo_grantAll_42 (by decide) ?_
        exact ih19 (x3 + q3.1) (x4 + 1) q3.2 _ _ _ hP hS (lv_sub hl [2, 3, 1, 0] rfl) hk
  refine lv_aload_n hx hb d_Mo_grantAll_0 rfl (lv_at hl 0 rfl) ?_
  refine lv_aload_n hx hb d_Mo_grantAll_1 rfl (lv_at hl 0 rfl) ?_
  refine va_get (D := D) (ci := 6) (v := .ref (a 4)) (C := R_Mo) (T := F_Mo) (N := 15) hx hb hts i_uMo hown hK hP 0 rfl rfl 7 (by decide) (hts _ mw_505) (fun _ h9 => h9) rfl d_Mo_grantAll_2 ?_
  refine lv_bipush (v := 6) hx hb d_Mo_grantAll_5 (by decide) ?_
  refine lv_iload_n hx hb d_Mo_grantAll_7 rfl (lv_at hl 1 rfl) ?_
  refine lv_imul hx hb d_Mo_grantAll_8 ?_
  refine lv_iconst (v := 1) hx hb d_Mo_grantAll_9 (by decide) ?_
  refine lv_iadd hx hb d_Mo_grantAll_10 ?_
  obtain ⟨h4, hk⟩ := gd_in hk
  refine va_iald hx hb hK hP 4 3 rfl rfl h4 d_Mo_grantAll_11 ?_
  obtain ⟨q5, e5, hk⟩ := ob_s hk
  refine kc_M (wF := wl_Mo a k q5.2) (va_runV (As := [.int (σ.2.2.2.2.2.2.2.1 ((6 * p1) + 1).toNatClampNeg)]) (rest := []) ⟨hx, hb, hml, hown, hts⟩ (c_Mo_grants l D a k _ σ (σ.2.2.2.2.2.2.2.1 ((6 * p1) + 1).toNatClampNeg) q5 e5) (cwV 1 hts (gV mw_628 mw_630 mw_21 mw_33 mw_631) rfl rfl rfl hd_Mo_grants ⟨Nat.le_of_ble_eq_true rfl, Nat.le_of_ble_eq_true rfl⟩) (kp_V (ci := 6) (q := (R_Mo, F_Mo, 15)) (q0 := 0) hK hP (hDt _) rfl rfl) rfl rfl hl.1 rfl (lv_room (Nat.le_of_ble_eq_true rfl)) d_Mo_grantAll_12 ⟨Nat.zero_le _, Nat.zero_le _⟩) hS (hDw _) hA (fun _ _ h _ => h) (fun H locs hP hS => ?_)
  refine lv_istore_n (lv' := [(3, .int q5.1), (0, .ref (a 0)), (1, .int p1), (2, .int p2)]) hx hb d_Mo_grantAll_15 rfl hl (by decide) rfl (fun ls hl => ?_)
  refine lv_iconst (v := 0) hx hb d_Mo_grantAll_16 (by decide) ?_
  refine lv_istore (lv' := [(4, .int 0), (3, .int q5.1), (0, .ref (a 0)), (1, .int p1), (2, .int p2)]) hx hb d_Mo_grantAll_17 hl (by decide) rfl (fun ls hl => ?_)
  exact L19 FU q5.1 0 q5.2 _ _ _ hP hS (lv_sub hl [2, 4, 1, 0] rfl) hk
set_option maxHeartbeats 4000000 in
set_option maxRecDepth 100000 in
theorem c_Mo_isOf (l : Launch) (D : va_G) (a : Nat → Nat) (k : Nat → ClassId) (sz : Nat) (σ : S_Mo) (p1 p2 : Int32) (r0 : Int32) (hk : kf_Mo_isOf σ p1 p2 = some r0) : Met l y_Mo_isOf w_Mo_isOf ({ frames := 1, cells := 0, slots := 0, locals := 21 }) (kp_P D cls (ty_Mo k) (wl_Mo a k σ) [.ref (a 0), .int p1, .int p2] sz) (kp_R sz r0) 0 0 (va_A [] sz) := by
  refine Met.ofW (cc := b_Mo_isOf) (maxL := 3) (ret := (some .boolean)) (by decide) rfl ?_
  intro p e s m args below meth c s₁ B hml hv
  obtain ⟨rfl, hsz, hP, hK, hD0⟩ := hv
  have hx := B.exec
  have hb := B.bytes
  have hr := B.returns
  have hts : ∀ w ∈ lw_g, w.before _ s = true := fun w h => atoms_spec (ws := w_Mo_isOf) B.pre w (List.mem_cons_of_mem _ h)
  have hown : s.vm.findClass R_Mo = some m.cls := findClass_of_methodNamed B.named
  have hlocks := B.notSynchronized
  subst hsz
  have hA : ∀ q : Nat, s.heap.size ≤ q → (va_A ([]) s.heap.size) q := fun _ h => Or.inr h
  have hDt : ∀ τ, va_D (fun _ => True) (wl_Mo a k τ) := fun τ => kd_cg hD0 rfl
  have hS : va_S (va_A ([]) s.heap.size) s.heap s.heap [] := va_S.rf
  have hl := lv_entry ([.ref (a 0), .int p1, .int p2]) (n := 3) (Nat.le_of_ble_eq_true rfl)
  rw [lg_entry_eq]
  generalize (lg_sl ([.ref (a 0), .int p1, .int p2]) ++ List.replicate (3 - (lg_sl ([.ref (a 0), .int p1, .int p2])).length) Slot.unset).toArray = ls at hl ⊢
  have hl : lv_has ls 3 [(0, .ref (a 0)), (1, .int p1), (2, .int p2)] := hl
  unfold kf_Mo_isOf at hk
  refine lv_aload_n hx hb d_Mo_isOf_0 rfl (lv_at hl 0 rfl) ?_
  refine lv_iload_n hx hb d_Mo_isOf_1 rfl (lv_at hl 1 rfl) ?_
  obtain ⟨q1, e1, hk⟩ := ob_s hk
  refine kc_R (va_runV (As := [.int p1]) (rest := []) ⟨hx, hb, hml, hown, hts⟩ (c_Mo_isBooking l D a k _ σ p1 q1 e1) (cwV 1 hts (gV mw_604 mw_606 mw_17 mw_33 mw_607) rfl rfl rfl hd_Mo_isBooking ⟨Nat.le_of_ble_eq_true rfl, Nat.le_of_ble_eq_true rfl⟩) (kp_V (ci := 6) (q := (R_Mo, F_Mo, 15)) (q0 := 0) hK hP (hDt _) rfl rfl) rfl rfl hl.1 rfl (lv_room (Nat.le_of_ble_eq_true rfl)) d_Mo_isOf_2 ⟨Nat.zero_le _, Nat.zero_le _⟩) hS hA hP (fun H locs hP hS => ?_)
  refine lv_if_eq (tgt := 39) hx hb d_Mo_isOf_5 (by decide) (fun c2 => ?_) (fun c2 => ?_)
  · have hk := br_p c2 hk
    refine lv_iconst (v := 0) hx hb d_Mo_isOf_39 (by decide) ?_
    exact kr_R hx hb hr (by decide) hlocks hS hk d_Mo_isOf_40
  · have hk := br_n c2 hk
    refine lv_aload_n hx hb d_Mo_isOf_8 rfl (lv_at hl 0 rfl) ?_
    refine va_get (D := D) (ci := 6) (v := .ref (a 4)) (C := R_Mo) (T := F_Mo) (N := 15) hx hb hts i_uMo hown hK hP 0 rfl rfl 7 (by decide) (hts _ mw_505) (fun _ h9 => h9) rfl d_Mo_isOf_9 ?_
    refine lv_bipush (v := 6) hx hb d_Mo_isOf_12 (by decide) ?_
    refine lv_iload_n hx hb d_Mo_isOf_14 rfl (lv_at hl 1 rfl) ?_
    refine lv_imul hx hb d_Mo_isOf_15 ?_
    refine lv_iconst (v := 4) hx hb d_Mo_isOf_16 (by decide) ?_
    refine lv_iadd hx hb d_Mo_isOf_17 ?_
    obtain ⟨h3, hk⟩ := gd_in hk
    refine va_iald hx hb hK hP 4 3 rfl rfl h3 d_Mo_isOf_18 ?_
    refine lv_if_ne (tgt := 39) hx hb d_Mo_isOf_19 (by decide) (fun c4 => ?_) (fun c4 => ?_)
    · have hk := br_n c4 hk
      refine lv_iconst (v := 0) hx hb d_Mo_isOf_39 (by decide) ?_
      exact kr_R hx hb hr (by decide) hlocks hS hk d_Mo_isOf_40
    · have hk := br_p c4 hk
      refine lv_aload_n hx hb d_Mo_isOf_22 rfl (lv_at hl 0 rfl) ?_
      refine va_get (D := D) (ci := 6) (v := .ref (a 4)) (C := R_Mo) (T := F_Mo) (N := 15) hx hb hts i_uMo hown hK hP 0 rfl rfl 7 (by decide) (hts _ mw_505) (fun _ h9 => h9) rfl d_Mo_isOf_23 ?_
      refine lv_bipush (v := 6) hx hb d_Mo_isOf_26 (by decide) ?_
      refine lv_iload_n hx hb d_Mo_isOf_28 rfl (lv_at hl 1 rfl) ?_
      refine lv_imul hx hb d_Mo_isOf_29 ?_
      obtain ⟨h5, hk⟩ := gd_in hk
      refine va_iald hx hb hK hP 4 3 rfl rfl h5 d_Mo_isOf_30 ?_
      refine lv_iload_n hx hb d_Mo_isOf_31 rfl (lv_at hl 2 rfl) ?_
      refine lv_icmp_ne (tgt := 39) hx hb d_Mo_isOf_32 (by decide) (fun c6 => ?_) (fun c6 => ?_)
      · have hk := br_n c6 hk
        refine lv_iconst (v := 0) hx hb d_Mo_isOf_39 (by decide) ?_
        exact kr_R hx hb hr (by decide) hlocks hS hk d_Mo_isOf_40
      · have hk := br_p c6 hk
        refine lv_iconst (v := 1) hx hb d_Mo_isOf_35 (by decide) ?_
        refine lv_goto (tgt := 40) hx hb d_Mo_isOf_36 (by decide) ?_
        exact kr_R hx hb hr (by decide) hlocks hS hk d_Mo_isOf_40
set_option maxHeartbeats 4000000 in
set_option maxRecDepth 100000 in
theorem c_Mo_cancel (l : Launch) (D : va_G) (a : Nat → Nat) (k : Nat → ClassId) (sz : Nat) (σ : S_Mo) (p1 p2 : Int32) (r0 : Int32 × S_Mo) (hk : kf_Mo_cancel σ p1 p2 = some r0) : Met l y_Mo_cancel w_Mo_cancel ({ frames := 5, cells := 0, slots := 0, locals := 126 }) (kp_P D cls (ty_Mo k) (wl_Mo a k σ) [.ref (a 0), .int p1, .int p2] sz) (kp_M D cls (wl_Mo a k r0.2) (wl_Mo a k σ) sz r0.1) 0 0 (va_A (wl_Mo a k σ) sz) := by
  refine Met.ofW (cc := b_Mo_cancel) (maxL := 3) (ret := (some .int)) (by decide) rfl ?_
  intro p e s m args below meth c s₁ B hml hv
  obtain ⟨rfl, hsz, hP, hK, hD0⟩ := hv
  have hx := B.exec
  have hb := B.bytes
  have hr := B.returns
  have hts : ∀ w ∈ lw_g, w.before _ s = true := fun w h => atoms_spec (ws := w_Mo_cancel) B.pre w (List.mem_cons_of_mem _ h)
  have hown : s.vm.findClass R_Mo = some m.cls := findClass_of_methodNamed B.named
  have hlocks := B.notSynchronized
  subst hsz
  have hA : ∀ q : Nat, s.heap.size ≤ q → (va_A (wl_Mo a k σ) s.heap.size) q := fun _ h => Or.inr h
  have hDt : ∀ τ, va_D (fun _ => True) (wl_Mo a k τ) := fun τ => kd_cg hD0 rfl
  have hDw : ∀ τ, va_D (va_A (wl_Mo a k σ) s.heap.size) (wl_Mo a k τ) := fun τ => kd_cg hD0.self rfl
  have hS : va_S (va_A (wl_Mo a k σ) s.heap.size) s.heap s.heap [] := va_S.rf
  have hl := lv_entry ([.ref (a 0), .int p1, .int p2]) (n := 3) (Nat.le_of_ble_eq_true rfl)
  rw [lg_entry_eq]
  generalize (lg_sl ([.ref (a 0), .int p1, .int p2]) ++ List.replicate (3 - (lg_sl ([.ref (a 0), .int p1, .int p2])).length) Slot.unset).toArray = ls at hl ⊢
  have hl : lv_has ls 3 [(0, .ref (a 0)), (1, .int p1), (2, .int p2)] := hl
  unfold kf_Mo_cancel at hk
  refine lv_aload_n hx hb d_Mo_cancel_0 rfl (lv_at hl 0 rfl) ?_
  refine lv_iconst (v := 0) hx hb d_Mo_cancel_1 (by decide) ?_
  refine va_put (D := D) (ci := 6) (v := .int 0) (ty := .int) (C := R_Mo) (T := F_Mo) (N := 15) hx hb hts i_uMo t_Mo t_Mo_ok n_Mo hown hK hP (hDw _) hS 0 rfl rfl 0 (by decide) (hts _ mw_498) (fun _ h9 => h9) rfl (t_Mo_ok 0 (by decide)) rfl rfl (Nat.le_of_ble_eq_true rfl) d_Mo_cancel_2 (fun H locs hP _ hS => ?_)
  have hP : va_P D cls (wl_Mo a k (0, σ.2.1, σ.2.2.1, σ.2.2.2.1, σ.2.2.2.2.1, σ.2.2.2.2.2.1, σ.2.2.2.2.2.2.1, σ.2.2.2.2.2.2.2.1, σ.2.2.2.2.2.2.2.2.1, σ.2.2.2.2.2.2.2.2.2.1, σ.2.2.2.2.2.2.2.2.2.2.1, σ.2.2.2.2.2.2.2.2.2.2.2.1, σ.2.2.2.2.2.2.2.2.2.2.2.2.1, σ.2.2.2.2.2.2.2.2.2.2.2.2.2.1, σ.2.2.2.2.2.2.2.2.2.2.2.2.2.2)) H := hP
  refine lv_aload_n hx hb d_Mo_cancel_5 rfl (lv_at hl 0 rfl) ?_
  refine lv_iload_n hx hb d_Mo_cancel_6 rfl (lv_at hl 1 rfl) ?_
  refine lv_iload_n hx hb d_Mo_cancel_7 rfl (lv_at hl 2 rfl) ?_
  obtain ⟨q1, e1, hk⟩ := ob_s hk
  refine kc_R (va_runV (As := [.int p1, .int p2]) (rest := []) ⟨hx, hb, hml, hown, hts⟩ (c_Mo_isOf l D a k _ (0, σ.2.1, σ.2.2.1, σ.2.2.2.1, σ.2.2.2.2.1, σ.2.2.2.2.2.1, σ.2.2.2.2.2.2.1, σ.2.2.2.2.2.2.2.1, σ.2.2.2.2.2.2.2.2.1, σ.2.2.2.2.2.2.2.2.2.1, σ.2.2.2.2.2.2.2.2.2.2.1, σ.2.2.2.2.2.2.2.2.2.2.2.1, σ.2.2.2.2.2.2.2.2.2.2.2.2.1, σ.2.2.2.2.2.2.2.2.2.2.2.2.2.1, σ.2.2.2.2.2.2.2.2.2.2.2.2.2.2) p1 p2 q1 e1) (cwV 2 hts (gV mw_616 mw_618 mw_18 mw_33 mw_619) rfl rfl rfl hd_Mo_isOf ⟨Nat.le_of_ble_eq_true rfl, Nat.le_of_ble_eq_true rfl⟩) (kp_V (ci := 6) (q := (R_Mo, F_Mo, 15)) (q0 := 0) hK hP (hDt _) rfl rfl) rfl rfl hl.1 rfl (lv_room (Nat.le_of_ble_eq_true rfl)) d_Mo_cancel_8 ⟨Nat.zero_le _, Nat.zero_le _⟩) hS hA hP (fun H locs hP hS => ?_)
  refine lv_if_ne (tgt := 16) hx hb d_Mo_cancel_11 (by decide) (fun c2 => ?_) (fun c2 => ?_)
  · have hk := br_n c2 hk
    refine lv_aload_n hx hb d_Mo_cancel_16 rfl (lv_at hl 0 rfl) ?_
    refine va_get (D := D) (ci := 6) (v := .ref (a 4)) (C := R_Mo) (T := F_Mo) (N := 15) hx hb hts i_uMo hown hK hP 0 rfl rfl 7 (by decide) (hts _ mw_505) (fun _ h9 => h9) rfl d_Mo_cancel_17 ?_
    refine lv_bipush (v := 6) hx hb d_Mo_cancel_20 (by decide) ?_
    refine lv_iload_n hx hb d_Mo_cancel_22 rfl (lv_at hl 1 rfl) ?_
    refine lv_imul hx hb d_Mo_cancel_23 ?_
    refine lv_iconst (v := 2) hx hb d_Mo_cancel_24 (by decide) ?_
    refine lv_iadd hx hb d_Mo_cancel_25 ?_
    obtain ⟨h3, hk⟩ := gd_in hk
    refine va_iald hx hb hK hP 4 3 rfl rfl h3 d_Mo_cancel_26 ?_
    refine lv_aload_n hx hb d_Mo_cancel_27 rfl (lv_at hl 0 rfl) ?_
    refine va_get (D := D) (ci := 6) (v := .int σ.2.1) (C := R_Mo) (T := F_Mo) (N := 15) hx hb hts i_uMo hown hK hP 0 rfl rfl 1 (by decide) (hts _ mw_499) (fun _ h9 => h9) rfl d_Mo_cancel_28 ?_
    refine lv_icmp_gt (tgt := 36) hx hb d_Mo_cancel_31 (by decide) (fun c4 => ?_) (fun c4 => ?_)
    · have hk := br_p c4 hk
      refine lv_iconst (v := 1) hx hb d_Mo_cancel_36 (by decide) ?_
      refine lv_aload_n hx hb d_Mo_cancel_37 rfl (lv_at hl 0 rfl) ?_
      refine lv_iload_n hx hb d_Mo_cancel_38 rfl (lv_at hl 1 rfl) ?_
      refine lv_aload_n hx hb d_Mo_cancel_39 rfl (lv_at hl 0 rfl) ?_
      refine lv_iload_n hx hb d_Mo_cancel_40 rfl (lv_at hl 1 rfl) ?_
      refine lv_iconst (v := 3) hx hb d_Mo_cancel_41 (by decide) ?_
      obtain ⟨q5, e5, hk⟩ := ob_s hk
      refine kc_M (wF := wl_Mo a k q5.2) (va_runV (As := [.int p1, .int 3]) (rest := [.int p1, .ref (a 0), .int 1]) ⟨hx, hb, hml, hown, hts⟩ (c_Mo_ends l D a k _ (0, σ.2.1, σ.2.2.1, σ.2.2.2.1, σ.2.2.2.2.1, σ.2.2.2.2.2.1, σ.2.2.2.2.2.2.1, σ.2.2.2.2.2.2.2.1, σ.2.2.2.2.2.2.2.2.1, σ.2.2.2.2.2.2.2.2.2.1, σ.2.2.2.2.2.2.2.2.2.2.1, σ.2.2.2.2.2.2.2.2.2.2.2.1, σ.2.2.2.2.2.2.2.2.2.2.2.2.1, σ.2.2.2.2.2.2.2.2.2.2.2.2.2.1, σ.2.2.2.2.2.2.2.2.2.2.2.2.2.2) p1 3 q5 e5) (cwV 2 hts (gV mw_620 mw_622 mw_19 mw_33 mw_623) rfl rfl rfl hd_Mo_ends ⟨Nat.le_of_ble_eq_true rfl, Nat.le_of_ble_eq_true rfl⟩) (kp_V (ci := 6) (q := (R_Mo, F_Mo, 15)) (q0 := 0) hK hP (hDt _) rfl rfl) rfl rfl hl.1 rfl (lv_room (Nat.le_of_ble_eq_true rfl)) d_Mo_cancel_42 ⟨Nat.zero_le _, Nat.zero_le _⟩) hS (hDw _) hA (fun _ _ h _ => h) (fun H locs hP hS => ?_)
      obtain ⟨q6, e6, hk⟩ := ob_s hk
      refine kc_M (wF := wl_Mo a k q6.2) (va_runV (As := [.int p1, .int q5.1]) (rest := [.int 1]) ⟨hx, hb, hml, hown, hts⟩ (c_Mo_grantAll l D a k _ q5.2 p1 q5.1 q6 e6) (cwV 2 hts (gV mw_624 mw_626 mw_20 mw_33 mw_627) rfl rfl rfl hd_Mo_grantAll ⟨Nat.le_of_ble_eq_true rfl, Nat.le_of_ble_eq_true rfl⟩) (kp_V (ci := 6) (q := (R_Mo, F_Mo, 15)) (q0 := 0) hK hP (hDt _) rfl rfl) rfl rfl hl.1 rfl (lv_room (Nat.le_of_ble_eq_true rfl)) d_Mo_cancel_45 ⟨Nat.zero_le _, Nat.zero_le _⟩) hS (hDw _) hA (fun _ _ h _ => h) (fun H locs hP hS => ?_)
      refine lv_iadd hx hb d_Mo_cancel_48 ?_
      exact kr_M (w := wl_Mo a k) hx hb hr rfl hlocks hS hP hk d_Mo_cancel_49
    · have hk := br_n c4 hk
      refine lv_iconst (v := -1) hx hb d_Mo_cancel_34 (by decide) ?_
      exact kr_M (w := wl_Mo a k) hx hb hr rfl hlocks hS hP hk d_Mo_cancel_35
  · have hk := br_p c2 hk
    refine lv_iconst (v := 0) hx hb d_Mo_cancel_14 (by decide) ?_
    exact kr_M (w := wl_Mo a k) hx hb hr rfl hlocks hS hP hk d_Mo_cancel_15
set_option maxHeartbeats 4000000 in
set_option maxRecDepth 100000 in
theorem c_Mo_checkIn (l : Launch) (D : va_G) (a : Nat → Nat) (k : Nat → ClassId) (sz : Nat) (σ : S_Mo) (p1 p2 : Int32) (r0 : Int32 × S_Mo) (hk : kf_Mo_checkIn σ p1 p2 = some r0) : Met l y_Mo_checkIn w_Mo_checkIn ({ frames := 2, cells := 0, slots := 0, locals := 43 }) (kp_P D cls (ty_Mo k) (wl_Mo a k σ) [.ref (a 0), .int p1, .int p2] sz) (kp_M D cls (wl_Mo a k r0.2) (wl_Mo a k σ) sz r0.1) 0 0 (va_A (wl_Mo a k σ) sz) := by
  refine Met.ofW (cc := b_Mo_checkIn) (maxL := 5) (ret := (some .int)) (by decide) rfl ?_
  intro p e s m args below meth c s₁ B hml hv
  obtain ⟨rfl, hsz, hP, hK, hD0⟩ := hv
  have hx := B.exec
  have hb := B.bytes
  have hr := B.returns
  have hts : ∀ w ∈ lw_g, w.before _ s = true := fun w h => atoms_spec (ws := w_Mo_checkIn) B.pre w (List.mem_cons_of_mem _ h)
  have hown : s.vm.findClass R_Mo = some m.cls := findClass_of_methodNamed B.named
  have hlocks := B.notSynchronized
  subst hsz
  have hA : ∀ q : Nat, s.heap.size ≤ q → (va_A (wl_Mo a k σ) s.heap.size) q := fun _ h => Or.inr h
  have hDt : ∀ τ, va_D (fun _ => True) (wl_Mo a k τ) := fun τ => kd_cg hD0 rfl
  have hDw : ∀ τ, va_D (va_A (wl_Mo a k σ) s.heap.size) (wl_Mo a k τ) := fun τ => kd_cg hD0.self rfl
  have hS : va_S (va_A (wl_Mo a k σ) s.heap.size) s.heap s.heap [] := va_S.rf
  have hl := lv_entry ([.ref (a 0), .int p1, .int p2]) (n := 5) (Nat.le_of_ble_eq_true rfl)
  rw [lg_entry_eq]
  generalize (lg_sl ([.ref (a 0), .int p1, .int p2]) ++ List.replicate (5 - (lg_sl ([.ref (a 0), .int p1, .int p2])).length) Slot.unset).toArray = ls at hl ⊢
  have hl : lv_has ls 5 [(0, .ref (a 0)), (1, .int p1), (2, .int p2)] := hl
  unfold kf_Mo_checkIn at hk
  refine lv_aload_n hx hb d_Mo_checkIn_0 rfl (lv_at hl 0 rfl) ?_
  refine lv_iconst (v := 0) hx hb d_Mo_checkIn_1 (by decide) ?_
  refine va_put (D := D) (ci := 6) (v := .int 0) (ty := .int) (C := R_Mo) (T := F_Mo) (N := 15) hx hb hts i_uMo t_Mo t_Mo_ok n_Mo hown hK hP (hDw _) hS 0 rfl rfl 0 (by decide) (hts _ mw_498) (fun _ h9 => h9) rfl (t_Mo_ok 0 (by decide)) rfl rfl (Nat.le_of_ble_eq_true rfl) d_Mo_checkIn_2 (fun H locs hP _ hS => ?_)
  have hP : va_P D cls (wl_Mo a k (0, σ.2.1, σ.2.2.1, σ.2.2.2.1, σ.2.2.2.2.1, σ.2.2.2.2.2.1, σ.2.2.2.2.2.2.1, σ.2.2.2.2.2.2.2.1, σ.2.2.2.2.2.2.2.2.1, σ.2.2.2.2.2.2.2.2.2.1, σ.2.2.2.2.2.2.2.2.2.2.1, σ.2.2.2.2.2.2.2.2.2.2.2.1, σ.2.2.2.2.2.2.2.2.2.2.2.2.1, σ.2.2.2.2.2.2.2.2.2.2.2.2.2.1, σ.2.2.2.2.2.2.2.2.2.2.2.2.2.2)) H := hP
  refine lv_aload_n hx hb d_Mo_checkIn_5 rfl (lv_at hl 0 rfl) ?_
  refine lv_iload_n hx hb d_Mo_checkIn_6 rfl (lv_at hl 1 rfl) ?_
  refine lv_iload_n hx hb d_Mo_checkIn_7 rfl (lv_at hl 2 rfl) ?_
  obtain ⟨q1, e1, hk⟩ := ob_s hk
  refine kc_R (va_runV (As := [.int p1, .int p2]) (rest := []) ⟨hx, hb, hml, hown, hts⟩ (c_Mo_isOf l D a k _ (0, σ.2.1, σ.2.2.1, σ.2.2.2.1, σ.2.2.2.2.1, σ.2.2.2.2.2.1, σ.2.2.2.2.2.2.1, σ.2.2.2.2.2.2.2.1, σ.2.2.2.2.2.2.2.2.1, σ.2.2.2.2.2.2.2.2.2.1, σ.2.2.2.2.2.2.2.2.2.2.1, σ.2.2.2.2.2.2.2.2.2.2.2.1, σ.2.2.2.2.2.2.2.2.2.2.2.2.1, σ.2.2.2.2.2.2.2.2.2.2.2.2.2.1, σ.2.2.2.2.2.2.2.2.2.2.2.2.2.2) p1 p2 q1 e1) (cwV 2 hts (gV mw_616 mw_618 mw_18 mw_33 mw_619) rfl rfl rfl hd_Mo_isOf ⟨Nat.le_of_ble_eq_true rfl, Nat.le_of_ble_eq_true rfl⟩) (kp_V (ci := 6) (q := (R_Mo, F_Mo, 15)) (q0 := 0) hK hP (hDt _) rfl rfl) rfl rfl hl.1 rfl (lv_room (Nat.le_of_ble_eq_true rfl)) d_Mo_checkIn_8 ⟨Nat.zero_le _, Nat.zero_le _⟩) hS hA hP (fun H locs hP hS => ?_)
  refine lv_if_ne (tgt := 16) hx hb d_Mo_checkIn_11 (by decide) (fun c2 => ?_) (fun c2 => ?_)
  · have hk := br_n c2 hk
    refine lv_aload_n hx hb d_Mo_checkIn_16 rfl (lv_at hl 0 rfl) ?_
    refine va_get (D := D) (ci := 6) (v := .ref (a 4)) (C := R_Mo) (T := F_Mo) (N := 15) hx hb hts i_uMo hown hK hP 0 rfl rfl 7 (by decide) (hts _ mw_505) (fun _ h9 => h9) rfl d_Mo_checkIn_17 ?_
    refine lv_bipush (v := 6) hx hb d_Mo_checkIn_20 (by decide) ?_
    refine lv_iload_n hx hb d_Mo_checkIn_22 rfl (lv_at hl 1 rfl) ?_
    refine lv_imul hx hb d_Mo_checkIn_23 ?_
    refine lv_iconst (v := 2) hx hb d_Mo_checkIn_24 (by decide) ?_
    refine lv_iadd hx hb d_Mo_checkIn_25 ?_
    obtain ⟨h3, hk⟩ := gd_in hk
    refine va_iald hx hb hK hP 4 3 rfl rfl h3 d_Mo_checkIn_26 ?_
    refine lv_istore_n (lv' := [(3, .int (σ.2.2.2.2.2.2.2.1 ((6 * p1) + 2).toNatClampNeg)), (0, .ref (a 0)), (1, .int p1), (2, .int p2)]) hx hb d_Mo_checkIn_27 rfl hl (by decide) rfl (fun ls hl => ?_)
    refine lv_aload_n hx hb d_Mo_checkIn_28 rfl (lv_at hl 1 rfl) ?_
    refine va_get (D := D) (ci := 6) (v := .int σ.2.1) (C := R_Mo) (T := F_Mo) (N := 15) hx hb hts i_uMo hown hK hP 0 rfl rfl 1 (by decide) (hts _ mw_499) (fun _ h9 => h9) rfl d_Mo_checkIn_29 ?_
    refine lv_iload_n hx hb d_Mo_checkIn_32 rfl (lv_at hl 0 rfl) ?_
    refine lv_bipush (v := 15) hx hb d_Mo_checkIn_33 (by decide) ?_
    refine lv_isub hx hb d_Mo_checkIn_35 ?_
    refine lv_icmp_lt (tgt := 68) hx hb d_Mo_checkIn_36 (by decide) (fun c4 => ?_) (fun c4 => ?_)
    · have hk := br_p c4 hk
      refine lv_iconst (v := -1) hx hb d_Mo_checkIn_68 (by decide) ?_
      exact kr_M (w := wl_Mo a k) hx hb hr rfl hlocks hS hP hk d_Mo_checkIn_69
    · have hk := br_n c4 hk
      refine lv_aload_n hx hb d_Mo_checkIn_39 rfl (lv_at hl 1 rfl) ?_
      refine va_get (D := D) (ci := 6) (v := .int σ.2.1) (C := R_Mo) (T := F_Mo) (N := 15) hx hb hts i_uMo hown hK hP 0 rfl rfl 1 (by decide) (hts _ mw_499) (fun _ h9 => h9) rfl d_Mo_checkIn_40 ?_
      refine lv_iload_n hx hb d_Mo_checkIn_43 rfl (lv_at hl 0 rfl) ?_
      refine lv_aload_n hx hb d_Mo_checkIn_44 rfl (lv_at hl 1 rfl) ?_
      refine va_get (D := D) (ci := 6) (v := .ref (a 3)) (C := R_Mo) (T := F_Mo) (N := 15) hx hb hts i_uMo hown hK hP 0 rfl rfl 5 (by decide) (hts _ mw_503) (fun _ h9 => h9) rfl d_Mo_checkIn_45 ?_
      refine lv_iconst (v := 5) hx hb d_Mo_checkIn_48 (by decide) ?_
      refine lv_aload_n hx hb d_Mo_checkIn_49 rfl (lv_at hl 1 rfl) ?_
      refine va_get (D := D) (ci := 6) (v := .ref (a 4)) (C := R_Mo) (T := F_Mo) (N := 15) hx hb hts i_uMo hown hK hP 0 rfl rfl 7 (by decide) (hts _ mw_505) (fun _ h9 => h9) rfl d_Mo_checkIn_50 ?_
      refine lv_bipush (v := 6) hx hb d_Mo_checkIn_53 (by decide) ?_
      refine lv_iload_n hx hb d_Mo_checkIn_55 rfl (lv_at hl 2 rfl) ?_
      refine lv_imul hx hb d_Mo_checkIn_56 ?_
      refine lv_iconst (v := 1) hx hb d_Mo_checkIn_57 (by decide) ?_
      refine lv_iadd hx hb d_Mo_checkIn_58 ?_
      obtain ⟨h5, hk⟩ := gd_in hk
      refine va_iald hx hb hK hP 4 3 rfl rfl h5 d_Mo_checkIn_59 ?_
      refine lv_imul hx hb d_Mo_checkIn_60 ?_
      refine lv_iconst (v := 4) hx hb d_Mo_checkIn_61 (by decide) ?_
      refine lv_iadd hx hb d_Mo_checkIn_62 ?_
      obtain ⟨h6, hk⟩ := gd_in hk
      refine va_iald hx hb hK hP 3 2 rfl rfl h6 d_Mo_checkIn_63 ?_
      refine lv_iadd hx hb d_Mo_checkIn_64 ?_
      refine lv_icmp_le (tgt := 70) hx hb d_Mo_checkIn_65 (by decide) (fun c7 => ?_) (fun c7 => ?_)
      · have hk := br_p c7 hk
        refine lv_aload_n hx hb d_Mo_checkIn_70 rfl (lv_at hl 1 rfl) ?_
        refine lv_iload_n hx hb d_Mo_checkIn_71 rfl (lv_at hl 2 rfl) ?_
        refine lv_iconst (v := 1) hx hb d_Mo_checkIn_72 (by decide) ?_
        obtain ⟨q8, e8, hk⟩ := ob_s hk
        refine kc_M (wF := wl_Mo a k q8.2) (va_runV (As := [.int p1, .int 1]) (rest := []) ⟨hx, hb, hml, hown, hts⟩ (c_Mo_ends l D a k _ (0, σ.2.1, σ.2.2.1, σ.2.2.2.1, σ.2.2.2.2.1, σ.2.2.2.2.2.1, σ.2.2.2.2.2.2.1, σ.2.2.2.2.2.2.2.1, σ.2.2.2.2.2.2.2.2.1, σ.2.2.2.2.2.2.2.2.2.1, σ.2.2.2.2.2.2.2.2.2.2.1, σ.2.2.2.2.2.2.2.2.2.2.2.1, σ.2.2.2.2.2.2.2.2.2.2.2.2.1, σ.2.2.2.2.2.2.2.2.2.2.2.2.2.1, σ.2.2.2.2.2.2.2.2.2.2.2.2.2.2) p1 1 q8 e8) (cwV 2 hts (gV mw_620 mw_622 mw_19 mw_33 mw_623) rfl rfl rfl hd_Mo_ends ⟨Nat.le_of_ble_eq_true rfl, Nat.le_of_ble_eq_true rfl⟩) (kp_V (ci := 6) (q := (R_Mo, F_Mo, 15)) (q0 := 0) hK hP (hDt _) rfl rfl) rfl rfl hl.1 rfl (lv_room (Nat.le_of_ble_eq_true rfl)) d_Mo_checkIn_73 ⟨Nat.zero_le _, Nat.zero_le _⟩) hS (hDw _) hA (fun _ _ h _ => h) (fun H locs hP hS => ?_)
        refine lv_istore (lv' := [(4, .int q8.1), (3, .int (σ.2.2.2.2.2.2.2.1 ((6 * p1) + 2).toNatClampNeg)), (0, .ref (a 0)), (1, .int p1), (2, .int p2)]) hx hb d_Mo_checkIn_76 hl (by decide) rfl (fun ls hl => ?_)
        refine lv_iload hx hb d_Mo_checkIn_78 (lv_at hl 0 rfl) ?_
        refine lv_if_ge (tgt := 87) hx hb d_Mo_checkIn_80 (by decide) (fun c9 => ?_) (fun c9 => ?_)
        · have hk := br_p c9 hk
          refine lv_iconst (v := 1) hx hb d_Mo_checkIn_87 (by decide) ?_
          exact kr_M (w := wl_Mo a k) hx hb hr rfl hlocks hS hP hk d_Mo_checkIn_88
        · have hk := br_n c9 hk
          refine lv_iconst (v := 0) hx hb d_Mo_checkIn_83 (by decide) ?_
          refine lv_goto (tgt := 88) hx hb d_Mo_checkIn_84 (by decide) ?_
          exact kr_M (w := wl_Mo a k) hx hb hr rfl hlocks hS hP hk d_Mo_checkIn_88
      · have hk := br_n c7 hk
        refine lv_iconst (v := -1) hx hb d_Mo_checkIn_68 (by decide) ?_
        exact kr_M (w := wl_Mo a k) hx hb hr rfl hlocks hS hP hk d_Mo_checkIn_69
  · have hk := br_p c2 hk
    refine lv_iconst (v := 0) hx hb d_Mo_checkIn_14 (by decide) ?_
    exact kr_M (w := wl_Mo a k) hx hb hr rfl hlocks hS hP hk d_Mo_checkIn_15
