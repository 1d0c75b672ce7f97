set_option maxHeartbeats 4000000 in
set_option maxRecDepth 100000 in
theorem c_Mo_living (l : Launch) (D : va_G) (a : Nat → Nat) (k : Nat → ClassId) (sz : Nat) (σ : S_Mo) (p1 : Int32) (r0 : Int32) (hk : kf_Mo_living σ p1 = some r0) : Met l y_Mo_living w_Mo_living ({ frames := 1, cells := 0, slots := 0, locals := 21 }) (kp_P D cls (ty_Mo k) (wl_Mo a k σ) [.ref (a 0), .int p1] sz) (kp_R sz r0) 0 0 (va_A [] sz) := by
  refine Met.ofW (cc := b_Mo_living) (maxL := 4) (ret := (some .int)) (by decide) rfl ?_
  intro p e s m args below meth c s₁ B hml hv
  obtain ⟨rfl, hsz, hP, hK, hD0⟩ := hv
  have hx := B.exec
  have hb := B.bytes
  have hr := B.returns
  have hts : ∀ w ∈ lw_g, w.before _ s = true := fun w h => atoms_spec (ws := w_Mo_living) B.pre w (List.mem_cons_of_mem _ h)
  have hown : s.vm.findClass R_Mo = some m.cls := findClass_of_methodNamed B.named
  have hlocks := B.notSynchronized
  subst hsz
  have hA : ∀ q : Nat, s.heap.size ≤ q → (va_A ([]) s.heap.size) q := fun _ h => Or.inr h
  have hDt : ∀ τ, va_D (fun _ => True) (wl_Mo a k τ) := fun τ => kd_cg hD0 rfl
  have hS : va_S (va_A ([]) s.heap.size) s.heap s.heap [] := va_S.rf
  have hl := lv_entry ([.ref (a 0), .int p1]) (n := 4) (Nat.le_of_ble_eq_true rfl)
  rw [lg_entry_eq]
  generalize (lg_sl ([.ref (a 0), .int p1]) ++ List.replicate (4 - (lg_sl ([.ref (a 0), .int p1])).length) Slot.unset).toArray = ls at hl ⊢
  have hl : lv_has ls 4 [(0, .ref (a 0)), (1, .int p1)] := hl
  unfold kf_Mo_living at hk
  have L4 : ∀ (n4 : Nat) (x2 : Int32) (x3 : Int32) (H : Heap) (locs : List Loc) (ls : Array Slot), va_P D cls (wl_Mo a k σ) H → va_S (va_A ([]) s.heap.size) s.heap H locs → lv_has ls 4 [(0, .ref (a 0)), (1, .int p1), (2, .int x2), (3, .int x3)] → kf_Mo_living_4 σ p1 n4 x2 x3 = some r0 → W p l e (headSpec w_Mo_living ({ frames := 1, cells := 0, slots := 0, locals := 21 })).room s m [.ref (a 0), .int p1].toArray below meth c H locs 0 0 (MQ below (kp_R s.heap.size r0) [.ref (a 0), .int p1].toArray s 0 0 (va_A [] s.heap.size)) (F0 m 4 ls []) := by
    intro n4
    induction n4 with
    | zero =>
      intro x2 x3 H locs ls hP hS hl hk
      exact nomatch hk
    | succ n4 ih4 =>
      intro x2 x3 H locs ls hP hS hl hk
      rw [kf_Mo_living_4_s] at hk
      refine lv_iload_n hx hb d_Mo_living_4 rfl (lv_at hl 3 rfl) ?_
      refine lv_aload_n hx hb d_Mo_living_5 rfl (lv_at hl 0 rfl) ?_
      refine va_get (D := D) (ci := 6) (v := .int σ.2.2.2.2.2.2.2.2.1) (C := R_Mo) (T := F_Mo) (N := 15) hx hb hts i_uMo hown hK hP 0 rfl rfl 8 (by decide) (hts _ mw_506) (fun _ h9 => h9) rfl d_Mo_living_6 ?_
      refine lv_icmp_gt (tgt := 47) hx hb d_Mo_living_9 (by decide) (fun c1 => ?_) (fun c1 => ?_)
      · have hk := br_p c1 hk
        refine lv_iload_n hx hb d_Mo_living_47 rfl (lv_at hl 2 rfl) ?_
        exact kr_R hx hb hr rfl hlocks hS hk d_Mo_living_48
      · have hk := br_n c1 hk
        refine lv_iload_n hx hb d_Mo_living_12 rfl (lv_at hl 2 rfl) ?_
        refine lv_aload_n hx hb d_Mo_living_13 rfl (lv_at hl 0 rfl) ?_
        refine lv_iload_n hx hb d_Mo_living_14 rfl (lv_at hl 3 rfl) ?_
        obtain ⟨q2, e2, hk⟩ := ob_s hk
        refine kc_R (va_runV (As := [.int x3]) (rest := [.int x2]) ⟨hx, hb, hml, hown, hts⟩ (c_Mo_lives l D a k _ σ x3 q2 e2) (cwV 1 hts (gV mw_584 mw_586 mw_13 mw_33 mw_587) rfl rfl rfl hd_Mo_lives ⟨Nat.le_of_ble_eq_true rfl, Nat.le_of_ble_eq_true rfl⟩) (kp_V (ci := 6) (q := (R_Mo, F_Mo, 15)) (q0 := 0) hK hP (hDt _) rfl rfl) rfl rfl hl.1 rfl (lv_room (Nat.le_of_ble_eq_true rfl)) d_Mo_living_15 ⟨Nat.zero_le _, Nat.zero_le _⟩) hS hA hP (fun H locs hP hS => ?_)
        refine lv_if_eq (tgt := 38) hx hb d_Mo_living_18 (by decide) (fun c3 => ?_) (fun c3 => ?_)
        · have hk := br_p c3 hk
          refine lv_iconst (v := 0) hx hb d_Mo_living_38 (by decide) ?_
          refine lv_iadd hx hb d_Mo_living_39 ?_
          refine lv_istore_n (lv' := [(2, .int (x2 + 0)), (0, .ref (a 0)), (1, .int p1), (3, .int x3)]) hx hb d_Mo_living_40 rfl hl (by decide) rfl (fun ls hl => ?_)
          refine lv_iinc (v := (x3 + 1)) (lv' := [(3, .int (x3 + 1)), (2, .int (x2 + 0)), (0, .ref (a 0)), (1, .int p1)]) hx hb d_Mo_living_41 hl (k := 3) rfl rfl (by decide) rfl (fun ls hl => ?_)
          refine lv_goto (tgt := 4) hx hb d_Mo_living_44 (by decide) ?_
          exact ih4 (x2 + 0) (x3 + 1) _ _ _ hP hS (lv_sub hl [2, 3, 1, 0] rfl) hk
        · have hk := br_n c3 hk
          refine lv_aload_n hx hb d_Mo_living_21 rfl (lv_at hl 0 rfl) ?_
          refine va_get (D := D) (ci := 6) (v := .ref (a 4)) (C := R_Mo) (T := F_Mo) (N := 15) hx hb hts i_uMo hown hK hP 0 rfl rfl 7 (by decide) (hts _ mw_505) (fun _ h9 => h9) rfl d_Mo_living_22 ?_
          refine lv_bipush (v := 6) hx hb d_Mo_living_25 (by decide) ?_
          refine lv_iload_n hx hb d_Mo_living_27 rfl (lv_at hl 3 rfl) ?_
          refine lv_imul hx hb d_Mo_living_28 ?_
          obtain ⟨h4, hk⟩ := gd_in hk
          refine va_iald hx hb hK hP 4 3 rfl rfl h4 d_Mo_living_29 ?_
          refine lv_iload_n hx hb d_Mo_living_30 rfl (lv_at hl 1 rfl) ?_
          refine lv_icmp_ne (tgt := 38) hx hb d_Mo_living_31 (by decide) (fun c5 => ?_) (fun c5 => ?_)
          · have hk := br_n c5 hk
            refine lv_iconst (v := 0) hx hb d_Mo_living_38 (by decide) ?_
            refine lv_iadd hx hb d_Mo_living_39 ?_
            refine lv_istore_n (lv' := [(2, .int (x2 + 0)), (0, .ref (a 0)), (1, .int p1), (3, .int x3)]) hx hb d_Mo_living_40 rfl hl (by decide) rfl (fun ls hl => ?_)
            refine lv_iinc (v := (x3 + 1)) (lv' := [(3, .int (x3 + 1)), (2, .int (x2 + 0)), (0, .ref (a 0)), (1, .int p1)]) hx hb d_Mo_living_41 hl (k := 3) rfl rfl (by decide) rfl (fun ls hl => ?_)
            refine lv_goto (tgt := 4) hx hb d_Mo_living_44 (by decide) ?_
            exact ih4 (x2 + 0) (x3 + 1) _ _ _ hP hS (lv_sub hl [2, 3, 1, 0] rfl) hk
          · have hk := br_p c5 hk
            refine lv_iconst (v := 1) hx hb d_Mo_living_34 (by decide) ?_
            refine lv_goto (tgt := 39) hx hb d_Mo_living_35 (by decide) ?_
            refine lv_iadd hx hb d_Mo_living_39 ?_
            refine lv_istore_n (lv' := [(2, .int (x2 + 1)), (0, .ref (a 0)), (1, .int p1), (3, .int x3)]) hx hb d_Mo_living_40 rfl hl (by decide) rfl (fun ls hl => ?_)
            refine lv_iinc (v := (x3 + 1)) (lv' := [(3, .int (x3 + 1)), (2, .int (x2 + 1)), (0, .ref (a 0)), (1, .int p1)]) hx hb d_Mo_living_41 hl (k := 3) rfl rfl (by decide) rfl (fun ls hl => ?_)
            refine lv_goto (tgt := 4) hx hb d_Mo_living_44 (by decide) ?_
            exact ih4 (x2 + 1) (x3 + 1) _ _ _ hP hS (lv_sub hl [2, 3, 1, 0] rfl) hk
  refine lv_iconst (v := 0) hx hb d_Mo_living_0 (by decide) ?_
  refine lv_istore_n (lv' := [(2, .int 0), (0, .ref (a 0)), (1, .int p1)]) hx hb d_Mo_living_1 rfl hl (by decide) rfl (fun ls hl => ?_)
  refine lv_iconst (v := 1) hx hb d_Mo_living_2 (by decide) ?_
  refine lv_istore_n (lv' := [(3, .int 1), (2, .int 0), (0, .ref (a 0)), (1, .int p1)]) hx hb d_Mo_living_3 rfl hl (by decide) rfl (fun ls hl => ?_)
  exact L4 FU 0 1 _ _ _ hP hS (lv_sub hl [2, 3, 1, 0] rfl) hk
set_option maxHeartbeats 4000000 in
set_option maxRecDepth 100000 in
theorem c_Mo_against (l : Launch) (D : va_G) (a : Nat → Nat) (k : Nat → ClassId) (sz : Nat) (σ : S_Mo) (p1 p2 p3 p4 p5 : Int32) (r0 : Int32) (hk : kf_Mo_against σ p1 p2 p3 p4 p5 = some r0) : Met l y_Mo_against w_Mo_against ({ frames := 2, cells := 0, slots := 0, locals := 50 }) (kp_P D cls (ty_Mo k) (wl_Mo a k σ) [.ref (a 0), .int p1, .int p2, .int p3, .int p4, .int p5] sz) (kp_R sz r0) 0 0 (va_A [] sz) := by
  refine Met.ofW (cc := b_Mo_against) (maxL := 9) (ret := (some .int)) (by decide) rfl ?_
  intro p e s m args below meth c s₁ B hml hv
  obtain ⟨rfl, hsz, hP, hK, hD0⟩ := hv
  have hx := B.exec
  have hb := B.bytes
  have hr := B.returns
  have hts : ∀ w ∈ lw_g, w.before _ s = true := fun w h => atoms_spec (ws := w_Mo_against) B.pre w (List.mem_cons_of_mem _ h)
  have hown : s.vm.findClass R_Mo = some m.cls := findClass_of_methodNamed B.named
  have hlocks := B.notSynchronized
  subst hsz
  have hA : ∀ q : Nat, s.heap.size ≤ q → (va_A ([]) s.heap.size) q := fun _ h => Or.inr h
  have hDt : ∀ τ, va_D (fun _ => True) (wl_Mo a k τ) := fun τ => kd_cg hD0 rfl
  have hK0 : va_K D cls [] s := hK.sub [] rfl
  have hS : va_S (va_A ([]) s.heap.size) s.heap s.heap [] := va_S.rf
  have hl := lv_entry ([.ref (a 0), .int p1, .int p2, .int p3, .int p4, .int p5]) (n := 9) (Nat.le_of_ble_eq_true rfl)
  rw [lg_entry_eq]
  generalize (lg_sl ([.ref (a 0), .int p1, .int p2, .int p3, .int p4, .int p5]) ++ List.replicate (9 - (lg_sl ([.ref (a 0), .int p1, .int p2, .int p3, .int p4, .int p5])).length) Slot.unset).toArray = ls at hl ⊢
  have hl : lv_has ls 9 [(0, .ref (a 0)), (1, .int p1), (2, .int p2), (3, .int p3), (4, .int p4), (5, .int p5)] := hl
  unfold kf_Mo_against at hk
  have J200 : ∀ (H : Heap) (locs : List Loc) (ls : Array Slot), va_P D cls (wl_Mo a k σ) H → va_S (va_A ([]) s.heap.size) s.heap H locs → lv_has ls 9 [(0, .ref (a 0)), (2, .int p2), (3, .int p3), (4, .int p4), (5, .int p5)] → kf_Mo_against_200 σ p1 p2 p3 p4 p5 = some r0 → W p l e (headSpec w_Mo_against ({ frames := 2, cells := 0, slots := 0, locals := 50 })).room s m [.ref (a 0), .int p1, .int p2, .int p3, .int p4, .int p5].toArray below meth c H locs 0 0 (MQ below (kp_R s.heap.size r0) [.ref (a 0), .int p1, .int p2, .int p3, .int p4, .int p5].toArray s 0 0 (va_A [] s.heap.size)) (F0 m 200 ls []) := by
    intro  H locs ls hP hS hl hk
    unfold kf_Mo_against_200 at hk
    refine lv_aload_n hx hb d_Mo_against_200 rfl (lv_at hl 0 rfl) ?_
    refine lv_iload_n hx hb d_Mo_against_201 rfl (lv_at hl 1 rfl) ?_
    refine lv_iload_n hx hb d_Mo_against_202 rfl (lv_at hl 2 rfl) ?_
    refine lv_iload hx hb d_Mo_against_203 (lv_at hl 3 rfl) ?_
    refine lv_iload hx hb d_Mo_against_205 (lv_at hl 4 rfl) ?_
    obtain ⟨q1, e1, hk⟩ := ob_s hk
    refine kc_R (va_runV (As := [.int p2, .int p3, .int p4, .int p5]) (rest := []) ⟨hx, hb, hml, hown, hts⟩ (c_Mo_clashes l D a k _ σ p2 p3 p4 p5 q1 e1) (cwV 4 hts (gV mw_588 mw_590 mw_14 mw_33 mw_591) rfl rfl rfl hd_Mo_clashes ⟨Nat.le_of_ble_eq_true rfl, Nat.le_of_ble_eq_true rfl⟩) (kp_V (ci := 6) (q := (R_Mo, F_Mo, 15)) (q0 := 0) hK hP (hDt _) rfl rfl) rfl rfl hl.1 rfl (lv_room (Nat.le_of_ble_eq_true rfl)) d_Mo_against_207 ⟨Nat.zero_le _, Nat.zero_le _⟩) hS hA hP (fun H locs hP hS => ?_)
    refine lv_if_eq (tgt := 218) hx hb d_Mo_against_210 (by decide) (fun c2 => ?_) (fun c2 => ?_)
    · have hk := br_p c2 hk
      refine lv_iconst (v := 0) hx hb d_Mo_against_218 (by decide) ?_
      exact kr_R hx hb hr rfl hlocks hS hk d_Mo_against_219
    · have hk := br_n c2 hk
      refine lv_bipush (v := -6) hx hb d_Mo_against_213 (by decide) ?_
      refine lv_goto (tgt := 219) hx hb d_Mo_against_215 (by decide) ?_
      exact kr_R hx hb hr rfl hlocks hS hk d_Mo_against_219
  refine lv_iload_n hx hb d_Mo_against_0 rfl (lv_at hl 3 rfl) ?_
  obtain ⟨q3, e3, hk⟩ := ob_s hk
  refine kc_R (va_runS (As := [.int p3]) (rest := []) ⟨hx, hb, hml, hown, hts⟩ (c_Mo_isTime l D _ p3 q3 e3) (cwS 1 hts (gS mw_576 mw_577 mw_33 mw_578) rfl rfl rfl hd_Mo_isTime ⟨Nat.le_of_ble_eq_true rfl, Nat.le_of_ble_eq_true rfl⟩) (kp_S hK0) rfl rfl hl.1 rfl (lv_room (Nat.le_of_ble_eq_true rfl)) d_Mo_against_1 ⟨Nat.zero_le _, Nat.zero_le _⟩) hS hA hP (fun H locs hP hS => ?_)
  refine lv_if_eq (tgt := 21) hx hb d_Mo_against_4 (by decide) (fun c4 => ?_) (fun c4 => ?_)
  · have hk := br_p c4 hk
    refine lv_iconst (v := -1) hx hb d_Mo_against_21 (by decide) ?_
    exact kr_R hx hb hr rfl hlocks hS hk d_Mo_against_22
  · have hk := br_n c4 hk
    refine lv_iload hx hb d_Mo_against_7 (lv_at hl 4 rfl) ?_
    obtain ⟨q5, e5, hk⟩ := ob_s hk
    refine kc_R (va_runS (As := [.int p4]) (rest := []) ⟨hx, hb, hml, hown, hts⟩ (c_Mo_isTime l D _ p4 q5 e5) (cwS 1 hts (gS mw_576 mw_577 mw_33 mw_578) rfl rfl rfl hd_Mo_isTime ⟨Nat.le_of_ble_eq_true rfl, Nat.le_of_ble_eq_true rfl⟩) (kp_S hK0) rfl rfl hl.1 rfl (lv_room (Nat.le_of_ble_eq_true rfl)) d_Mo_against_9 ⟨Nat.zero_le _, Nat.zero_le _⟩) hS hA hP (fun H locs hP hS => ?_)
    refine lv_if_eq (tgt := 21) hx hb d_Mo_against_12 (by decide) (fun c6 => ?_) (fun c6 => ?_)
    · have hk := br_p c6 hk
      refine lv_iconst (v := -1) hx hb d_Mo_against_21 (by decide) ?_
      exact kr_R hx hb hr rfl hlocks hS hk d_Mo_against_22
    · have hk := br_n c6 hk
      refine lv_iload_n hx hb d_Mo_against_15 rfl (lv_at hl 3 rfl) ?_
      refine lv_iload hx hb d_Mo_against_16 (lv_at hl 4 rfl) ?_
      refine lv_icmp_lt (tgt := 23) hx hb d_Mo_against_18 (by decide) (fun c7 => ?_) (fun c7 => ?_)
      · have hk := br_p c7 hk
        refine lv_iconst (v := 5) hx hb d_Mo_against_23 (by decide) ?_
        refine lv_iload_n hx hb d_Mo_against_24 rfl (lv_at hl 2 rfl) ?_
        refine lv_imul hx hb d_Mo_against_25 ?_
        refine lv_istore (lv' := [(6, .int (5 * p2)), (0, .ref (a 0)), (1, .int p1), (2, .int p2), (3, .int p3), (4, .int p4), (5, .int p5)]) hx hb d_Mo_against_26 hl (by decide) rfl (fun ls hl => ?_)
        refine lv_iload hx hb d_Mo_against_28 (lv_at hl 5 rfl) ?_
        refine lv_iload_n hx hb d_Mo_against_30 rfl (lv_at hl 4 rfl) ?_
        refine lv_isub hx hb d_Mo_against_31 ?_
        refine lv_aload_n hx hb d_Mo_against_32 rfl (lv_at hl 1 rfl) ?_
        refine va_get (D := D) (ci := 6) (v := .ref (a 3)) (C := R_Mo) (T := F_Mo) (N := 15) hx hb hts i_uMo hown hK hP 0 rfl rfl 5 (by decide) (hts _ mw_503) (fun _ h9 => h9) rfl d_Mo_against_33 ?_
        refine lv_iload hx hb d_Mo_against_36 (lv_at hl 0 rfl) ?_
        refine lv_iconst (v := 1) hx hb d_Mo_against_38 (by decide) ?_
        refine lv_iadd hx hb d_Mo_against_39 ?_
        obtain ⟨h8, hk⟩ := gd_in hk
        refine va_iald hx hb hK hP 3 2 rfl rfl h8 d_Mo_against_40 ?_
        refine lv_icmp_lt (tgt := 60) hx hb d_Mo_against_41 (by decide) (fun c9 => ?_) (fun c9 => ?_)
        · have hk := br_p c9 hk
          refine lv_bipush (v := -2) hx hb d_Mo_against_60 (by decide) ?_
          exact kr_R hx hb hr rfl hlocks hS hk d_Mo_against_62
        · have hk := br_n c9 hk
          refine lv_iload hx hb d_Mo_against_44 (lv_at hl 5 rfl) ?_
          refine lv_iload_n hx hb d_Mo_against_46 rfl (lv_at hl 4 rfl) ?_
          refine lv_isub hx hb d_Mo_against_47 ?_
          refine lv_aload_n hx hb d_Mo_against_48 rfl (lv_at hl 1 rfl) ?_
          refine va_get (D := D) (ci := 6) (v := .ref (a 3)) (C := R_Mo) (T := F_Mo) (N := 15) hx hb hts i_uMo hown hK hP 0 rfl rfl 5 (by decide) (hts _ mw_503) (fun _ h9 => h9) rfl d_Mo_against_49 ?_
          refine lv_iload hx hb d_Mo_against_52 (lv_at hl 0 rfl) ?_
          refine lv_iconst (v := 2) hx hb d_Mo_against_54 (by decide) ?_
          refine lv_iadd hx hb d_Mo_against_55 ?_
          obtain ⟨h10, hk⟩ := gd_in hk
          refine va_iald hx hb hK hP 3 2 rfl rfl h10 d_Mo_against_56 ?_
          refine lv_icmp_le (tgt := 63) hx hb d_Mo_against_57 (by decide) (fun c11 => ?_) (fun c11 => ?_)
          · have hk := br_p c11 hk
            refine lv_iload_n hx hb d_Mo_against_63 rfl (lv_at hl 4 rfl) ?_
            refine lv_aload_n hx hb d_Mo_against_64 rfl (lv_at hl 1 rfl) ?_
            refine va_get (D := D) (ci := 6) (v := .int σ.2.1) (C := R_Mo) (T := F_Mo) (N := 15) hx hb hts i_uMo hown hK hP 0 rfl rfl 1 (by decide) (hts _ mw_499) (fun _ h9 => h9) rfl d_Mo_against_65 ?_
            refine lv_icmp_lt (tgt := 89) hx hb d_Mo_against_68 (by decide) (fun c12 => ?_) (fun c12 => ?_)
            · have hk := br_p c12 hk
              refine lv_bipush (v := -3) hx hb d_Mo_against_89 (by decide) ?_
              exact kr_R hx hb hr rfl hlocks hS hk d_Mo_against_91
            · have hk := br_n c12 hk
              refine lv_iload_n hx hb d_Mo_against_71 rfl (lv_at hl 4 rfl) ?_
              refine lv_aload_n hx hb d_Mo_against_72 rfl (lv_at hl 1 rfl) ?_
              refine va_get (D := D) (ci := 6) (v := .int σ.2.1) (C := R_Mo) (T := F_Mo) (N := 15) hx hb hts i_uMo hown hK hP 0 rfl rfl 1 (by decide) (hts _ mw_499) (fun _ h9 => h9) rfl d_Mo_against_73 ?_
              refine lv_aload_n hx hb d_Mo_against_76 rfl (lv_at hl 1 rfl) ?_
              refine va_get (D := D) (ci := 6) (v := .ref (a 3)) (C := R_Mo) (T := F_Mo) (N := 15) hx hb hts i_uMo hown hK hP 0 rfl rfl 5 (by decide) (hts _ mw_503) (fun _ h9 => h9) rfl d_Mo_against_77 ?_
              refine lv_iload hx hb d_Mo_against_80 (lv_at hl 0 rfl) ?_
              refine lv_iconst (v := 3) hx hb d_Mo_against_82 (by decide) ?_
              refine lv_iadd hx hb d_Mo_against_83 ?_
              obtain ⟨h13, hk⟩ := gd_in hk
              refine va_iald hx hb hK hP 3 2 rfl rfl h13 d_Mo_against_84 ?_
              refine lv_iadd hx hb d_Mo_against_85 ?_
              refine lv_icmp_le (tgt := 92) hx hb d_Mo_against_86 (by decide) (fun c14 => ?_) (fun c14 => ?_)
              · have hk := br_p c14 hk
                refine lv_iload_n hx hb d_Mo_against_92 rfl (lv_at hl 4 rfl) ?_
                refine lv_sipush (v := 1440) hx hb d_Mo_against_93 (by decide) ?_
                refine lv_idiv hx hb d_Mo_against_96 (by decide) ?_
                refine lv_istore (lv' := [(7, .int (p3 / 1440)), (6, .int (5 * p2)), (0, .ref (a 0)), (1, .int p1), (2, .int p2), (3, .int p3), (4, .int p4), (5, .int p5)]) hx hb d_Mo_against_97 hl (by decide) rfl (fun ls hl => ?_)
                refine lv_bipush (v := 14) hx hb d_Mo_against_99 (by decide) ?_
                refine lv_aload_n hx hb d_Mo_against_101 rfl (lv_at hl 2 rfl) ?_
                refine va_get (D := D) (ci := 6) (v := .ref (a 3)) (C := R_Mo) (T := F_Mo) (N := 15) hx hb hts i_uMo hown hK hP 0 rfl rfl 5 (by decide) (hts _ mw_503) (fun _ h9 => h9) rfl d_Mo_against_102 ?_
                refine lv_iload hx hb d_Mo_against_105 (lv_at hl 1 rfl) ?_
                obtain ⟨h15, hk⟩ := gd_in hk
                refine va_iald hx hb hK hP 3 2 rfl rfl h15 d_Mo_against_107 ?_
                refine lv_imul hx hb d_Mo_against_108 ?_
                refine lv_iconst (v := 2) hx hb d_Mo_against_109 (by decide) ?_
                refine lv_iload hx hb d_Mo_against_110 (lv_at hl 0 rfl) ?_
                refine lv_bipush (v := 7) hx hb d_Mo_against_112 (by decide) ?_
                refine lv_irem hx hb d_Mo_against_114 (by decide) ?_
                refine lv_imul hx hb d_Mo_against_115 ?_
                refine lv_iadd hx hb d_Mo_against_116 ?_
                refine lv_istore (lv' := [(8, .int ((14 * (σ.2.2.2.2.2.1 (5 * p2).toNatClampNeg)) + (2 * ((p3 / 1440) - (p3 / 1440) / 7 * 7)))), (7, .int (p3 / 1440)), (6, .int (5 * p2)), (0, .ref (a 0)), (1, .int p1), (2, .int p2), (3, .int p3), (4, .int p4), (5, .int p5)]) hx hb d_Mo_against_117 hl (by decide) rfl (fun ls hl => ?_)
                refine lv_aload_n hx hb d_Mo_against_119 rfl (lv_at hl 3 rfl) ?_
                refine lv_iload hx hb d_Mo_against_120 (lv_at hl 1 rfl) ?_
                obtain ⟨q16, e16, hk⟩ := ob_s hk
                refine kc_R (va_runV (As := [.int (p3 / 1440)]) (rest := []) ⟨hx, hb, hml, hown, hts⟩ (c_Mo_isHoliday l D a k _ σ (p3 / 1440) q16 e16) (cwV 1 hts (gV mw_557 mw_559 mw_9 mw_33 mw_560) rfl rfl rfl hd_Mo_isHoliday ⟨Nat.le_of_ble_eq_true rfl, Nat.le_of_ble_eq_true rfl⟩) (kp_V (ci := 6) (q := (R_Mo, F_Mo, 15)) (q0 := 0) hK hP (hDt _) rfl rfl) rfl rfl hl.1 rfl (lv_room (Nat.le_of_ble_eq_true rfl)) d_Mo_against_122 ⟨Nat.zero_le _, Nat.zero_le _⟩) hS hA hP (fun H locs hP hS => ?_)
                refine lv_if_ne (tgt := 167) hx hb d_Mo_against_125 (by decide) (fun c17 => ?_) (fun c17 => ?_)
                · have hk := br_n c17 hk
                  refine lv_bipush (v := -4) hx hb d_Mo_against_167 (by decide) ?_
                  exact kr_R hx hb hr rfl hlocks hS hk d_Mo_against_169
                · have hk := br_p c17 hk
                  refine lv_iload_n hx hb d_Mo_against_128 rfl (lv_at hl 6 rfl) ?_
                  refine lv_sipush (v := 1440) hx hb d_Mo_against_129 (by decide) ?_
                  refine lv_iload hx hb d_Mo_against_132 (lv_at hl 1 rfl) ?_
                  refine lv_imul hx hb d_Mo_against_134 ?_
                  refine lv_isub hx hb d_Mo_against_135 ?_
                  refine lv_aload_n hx hb d_Mo_against_136 rfl (lv_at hl 3 rfl) ?_
                  refine va_get (D := D) (ci := 6) (v := .ref (a 1)) (C := R_Mo) (T := F_Mo) (N := 15) hx hb hts i_uMo hown hK hP 0 rfl rfl 2 (by decide) (hts _ mw_500) (fun _ h9 => h9) rfl d_Mo_against_137 ?_
                  refine lv_iload hx hb d_Mo_against_140 (lv_at hl 0 rfl) ?_
                  obtain ⟨h18, hk⟩ := gd_in hk
                  refine va_iald hx hb hK hP 1 0 rfl rfl h18 d_Mo_against_142 ?_
                  refine lv_icmp_lt (tgt := 167) hx hb d_Mo_against_143 (by decide) (fun c19 => ?_) (fun c19 => ?_)
                  · have hk := br_p c19 hk
                    refine lv_bipush (v := -4) hx hb d_Mo_against_167 (by decide) ?_
                    exact kr_R hx hb hr rfl hlocks hS hk d_Mo_against_169
                  · have hk := br_n c19 hk
                    refine lv_iload hx hb d_Mo_against_146 (lv_at hl 7 rfl) ?_
                    refine lv_sipush (v := 1440) hx hb d_Mo_against_148 (by decide) ?_
                    refine lv_iload hx hb d_Mo_against_151 (lv_at hl 1 rfl) ?_
                    refine lv_imul hx hb d_Mo_against_153 ?_
                    refine lv_isub hx hb d_Mo_against_154 ?_
                    refine lv_aload_n hx hb d_Mo_against_155 rfl (lv_at hl 3 rfl) ?_
                    refine va_get (D := D) (ci := 6) (v := .ref (a 1)) (C := R_Mo) (T := F_Mo) (N := 15) hx hb hts i_uMo hown hK hP 0 rfl rfl 2 (by decide) (hts _ mw_500) (fun _ h9 => h9) rfl d_Mo_against_156 ?_
                    refine lv_iload hx hb d_Mo_against_159 (lv_at hl 0 rfl) ?_
                    refine lv_iconst (v := 1) hx hb d_Mo_against_161 (by decide) ?_
                    refine lv_iadd hx hb d_Mo_against_162 ?_
                    obtain ⟨h20, hk⟩ := gd_in hk
                    refine va_iald hx hb hK hP 1 0 rfl rfl h20 d_Mo_against_163 ?_
                    refine lv_icmp_le (tgt := 170) hx hb d_Mo_against_164 (by decide) (fun c21 => ?_) (fun c21 => ?_)
                    · have hk := br_p c21 hk
                      refine lv_iload hx hb d_Mo_against_170 (lv_at hl 8 rfl) ?_
                      refine lv_if_ne (tgt := 200) hx hb d_Mo_against_172 (by decide) (fun c22 => ?_) (fun c22 => ?_)
                      · have hk := br_n c22 hk
                        exact J200  _ _ _ hP hS (lv_sub hl [3, 5, 6, 7, 8] rfl) hk
                      · have hk := br_p c22 hk
                        refine lv_aload_n hx hb d_Mo_against_175 rfl (lv_at hl 3 rfl) ?_
                        refine va_get (D := D) (ci := 6) (v := .int σ.2.1) (C := R_Mo) (T := F_Mo) (N := 15) hx hb hts i_uMo hown hK hP 0 rfl rfl 1 (by decide) (hts _ mw_499) (fun _ h9 => h9) rfl d_Mo_against_176 ?_
                        refine lv_aload_n hx hb d_Mo_against_179 rfl (lv_at hl 3 rfl) ?_
                        refine va_get (D := D) (ci := 6) (v := .ref (a 7)) (C := R_Mo) (T := F_Mo) (N := 15) hx hb hts i_uMo hown hK hP 0 rfl rfl 12 (by decide) (hts _ mw_510) (fun _ h9 => h9) rfl d_Mo_against_180 ?_
                        refine lv_iload_n hx hb d_Mo_against_183 rfl (lv_at hl 4 rfl) ?_
                        obtain ⟨h23, hk⟩ := gd_in hk
                        refine va_iald hx hb hK hP 7 6 rfl rfl h23 d_Mo_against_184 ?_
                        refine lv_icmp_lt (tgt := 197) hx hb d_Mo_against_185 (by decide) (fun c24 => ?_) (fun c24 => ?_)
                        · have hk := br_p c24 hk
                          refine lv_bipush (v := -5) hx hb d_Mo_against_197 (by decide) ?_
                          exact kr_R hx hb hr rfl hlocks hS hk d_Mo_against_199
                        · have hk := br_n c24 hk
                          refine lv_aload_n hx hb d_Mo_against_188 rfl (lv_at hl 3 rfl) ?_
                          refine lv_iload_n hx hb d_Mo_against_189 rfl (lv_at hl 4 rfl) ?_
                          obtain ⟨q25, e25, hk⟩ := ob_s hk
                          refine kc_R (va_runV (As := [.int p1]) (rest := []) ⟨hx, hb, hml, hown, hts⟩ (c_Mo_living l D a k _ σ p1 q25 e25) (cwV 1 hts (gV mw_580 mw_582 mw_12 mw_33 mw_583) rfl rfl rfl hd_Mo_living ⟨Nat.le_of_ble_eq_true rfl, Nat.le_of_ble_eq_true rfl⟩) (kp_V (ci := 6) (q := (R_Mo, F_Mo, 15)) (q0 := 0) hK hP (hDt _) rfl rfl) rfl rfl hl.1 rfl (lv_room (Nat.le_of_ble_eq_true rfl)) d_Mo_against_190 ⟨Nat.zero_le _, Nat.zero_le _⟩) hS hA hP (fun H locs hP hS => ?_)
                          refine lv_iconst (v := 5) hx hb d_Mo_against_193 (by decide) ?_
                          refine lv_icmp_lt (tgt := 200) hx hb d_Mo_against_194 (by decide) (fun c26 => ?_) (fun c26 => ?_)
                          · have hk := br_p c26 hk
                            exact J200  _ _ _ hP hS (lv_sub hl [3, 5, 6, 7, 8] rfl) hk
                          · have hk := br_n c26 hk
                            refine lv_bipush (v := -5) hx hb d_Mo_against_197 (by decide) ?_
                            exact kr_R hx hb hr rfl hlocks hS hk d_Mo_against_199
                    · have hk := br_n c21 hk
                      refine lv_bipush (v := -4) hx hb d_Mo_against_167 (by decide) ?_
                      exact kr_R hx hb hr rfl hlocks hS hk d_Mo_against_169
              · have hk := br_n c14 hk
                refine lv_bipush (v := -3) hx hb d_Mo_against_89 (by decide) ?_
                exact kr_R hx hb hr rfl hlocks hS hk d_Mo_against_91
          · have hk := br_n c11 hk
            refine lv_bipush (v := -2) hx hb d_Mo_against_60 (by decide) ?_
            exact kr_R hx hb hr rfl hlocks hS hk d_Mo_against_62
      · have hk := br_n c7 hk
        refine lv_iconst (v := -1) hx hb d_Mo_against_21 (by decide) ?_
        exact kr_R hx hb hr rfl hlocks hS hk d_Mo_against_22
set_option maxHeartbeats 4000000 in
set_option maxRecDepth 100000 in
theorem c_Mo_add (l : Launch) (D : va_G) (a : Nat → Nat) (k : Nat → ClassId) (sz : Nat) (σ : S_Mo) (p1 p2 p3 p4 p5 : Int32) (r0 : Int32 × S_Mo) (hk : kf_Mo_add σ p1 p2 p3 p4 p5 = some r0) : Met l y_Mo_add w_Mo_add ({ frames := 0, cells := 0, slots := 0, locals := 0 }) (kp_P D cls (ty_Mo k) (wl_Mo a k σ) [.ref (a 0), .int p1, .int p2, .int p3, .int p4, .int p5] sz) (kp_M D cls (wl_Mo a k r0.2) (wl_Mo a k σ) sz r0.1) 0 0 (va_A (wl_Mo a k σ) sz) := by
  refine Met.ofW (cc := b_Mo_add) (maxL := 7) (ret := (some .int)) (by decide) rfl ?_
  intro p e s m args below meth c s₁ B hml hv
  obtain ⟨rfl, hsz, hP, hK, hD0⟩ := hv
  have hx := B.exec
  have hb := B.bytes
  have hr := B.returns
  have hts : ∀ w ∈ lw_g, w.before _ s = true := fun w h => atoms_spec (ws := w_Mo_add) B.pre w (List.mem_cons_of_mem _ h)
  have hown : s.vm.findClass R_Mo = some m.cls := findClass_of_methodNamed B.named
  have hlocks := B.notSynchronized
  subst hsz
  have hA : ∀ q : Nat, s.heap.size ≤ q → (va_A (wl_Mo a k σ) s.heap.size) q := fun _ h => Or.inr h
  have hDt : ∀ τ, va_D (fun _ => True) (wl_Mo a k τ) := fun τ => kd_cg hD0 rfl
  have hDw : ∀ τ, va_D (va_A (wl_Mo a k σ) s.heap.size) (wl_Mo a k τ) := fun τ => kd_cg hD0.self rfl
  have hS : va_S (va_A (wl_Mo a k σ) s.heap.size) s.heap s.heap [] := va_S.rf
  have hl := lv_entry ([.ref (a 0), .int p1, .int p2, .int p3, .int p4, .int p5]) (n := 7) (Nat.le_of_ble_eq_true rfl)
  rw [lg_entry_eq]
  generalize (lg_sl ([.ref (a 0), .int p1, .int p2, .int p3, .int p4, .int p5]) ++ List.replicate (7 - (lg_sl ([.ref (a 0), .int p1, .int p2, .int p3, .int p4, .int p5])).length) Slot.unset).toArray = ls at hl ⊢
  have hl : lv_has ls 7 [(0, .ref (a 0)), (1, .int p1), (2, .int p2), (3, .int p3), (4, .int p4), (5, .int p5)] := hl
  unfold kf_Mo_add at hk
  refine lv_aload_n hx hb d_Mo_add_0 rfl (lv_at hl 0 rfl) ?_
  refine lv_dup hx hb d_Mo_add_1 rfl ?_
  refine va_get (D := D) (ci := 6) (v := .int σ.2.2.2.2.2.2.2.2.1) (C := R_Mo) (T := F_Mo) (N := 15) hx hb hts i_uMo hown hK hP 0 rfl rfl 8 (by decide) (hts _ mw_506) (fun _ h9 => h9) rfl d_Mo_add_2 ?_
  refine lv_iconst (v := 1) hx hb d_Mo_add_5 (by decide) ?_
  refine lv_iadd hx hb d_Mo_add_6 ?_
  refine va_put (D := D) (ci := 6) (v := .int (σ.2.2.2.2.2.2.2.2.1 + 1)) (ty := .int) (C := R_Mo) (T := F_Mo) (N := 15) hx hb hts i_uMo t_Mo t_Mo_ok n_Mo hown hK hP (hDw _) hS 0 rfl rfl 8 (by decide) (hts _ mw_506) (fun _ h9 => h9) rfl (t_Mo_ok 8 (by decide)) rfl rfl (Nat.le_of_ble_eq_true rfl) d_Mo_add_7 (fun H locs hP _ hS => ?_)
  have hP : va_P D cls (wl_Mo a k (σ.1, σ.2.1, σ.2.2.1, σ.2.2.2.1, σ.2.2.2.2.1, σ.2.2.2.2.2.1, σ.2.2.2.2.2.2.1, σ.2.2.2.2.2.2.2.1, (σ.2.2.2.2.2.2.2.2.1 + 1), σ.2.2.2.2.2.2.2.2.2.1, σ.2.2.2.2.2.2.2.2.2.2.1, σ.2.2.2.2.2.2.2.2.2.2.2.1, σ.2.2.2.2.2.2.2.2.2.2.2.2.1, σ.2.2.2.2.2.2.2.2.2.2.2.2.2.1, σ.2.2.2.2.2.2.2.2.2.2.2.2.2.2)) H := hP
  refine lv_bipush (v := 6) hx hb d_Mo_add_10 (by decide) ?_
  refine lv_aload_n hx hb d_Mo_add_12 rfl (lv_at hl 0 rfl) ?_
  refine va_get (D := D) (ci := 6) (v := .int (σ.2.2.2.2.2.2.2.2.1 + 1)) (C := R_Mo) (T := F_Mo) (N := 15) hx hb hts i_uMo hown hK hP 0 rfl rfl 8 (by decide) (hts _ mw_506) (fun _ h9 => h9) rfl d_Mo_add_13 ?_
  refine lv_imul hx hb d_Mo_add_16 ?_
  refine lv_istore (lv' := [(6, .int (6 * (σ.2.2.2.2.2.2.2.2.1 + 1))), (0, .ref (a 0)), (1, .int p1), (2, .int p2), (3, .int p3), (4, .int p4), (5, .int p5)]) hx hb d_Mo_add_17 hl (by decide) rfl (fun ls hl => ?_)
  refine lv_aload_n hx hb d_Mo_add_19 rfl (lv_at hl 1 rfl) ?_
  refine va_get (D := D) (ci := 6) (v := .ref (a 4)) (C := R_Mo) (T := F_Mo) (N := 15) hx hb hts i_uMo hown hK hP 0 rfl rfl 7 (by decide) (hts _ mw_505) (fun _ h9 => h9) rfl d_Mo_add_20 ?_
  refine lv_iload hx hb d_Mo_add_23 (lv_at hl 0 rfl) ?_
  refine lv_iload_n hx hb d_Mo_add_25 rfl (lv_at hl 2 rfl) ?_
  obtain ⟨h1, hk⟩ := gd_in hk
  refine va_iast hx hb hK hP (hDw _) hS 4 3 rfl rfl h1 d_Mo_add_26 (fun H locs hP _ hS => ?_)
  have hP : va_P D cls (wl_Mo a k (σ.1, σ.2.1, σ.2.2.1, σ.2.2.2.1, σ.2.2.2.2.1, σ.2.2.2.2.2.1, σ.2.2.2.2.2.2.1, (upd σ.2.2.2.2.2.2.2.1 (6 * (σ.2.2.2.2.2.2.2.2.1 + 1)).toNatClampNeg p1), (σ.2.2.2.2.2.2.2.2.1 + 1), σ.2.2.2.2.2.2.2.2.2.1, σ.2.2.2.2.2.2.2.2.2.2.1, σ.2.2.2.2.2.2.2.2.2.2.2.1, σ.2.2.2.2.2.2.2.2.2.2.2.2.1, σ.2.2.2.2.2.2.2.2.2.2.2.2.2.1, σ.2.2.2.2.2.2.2.2.2.2.2.2.2.2)) H := hP
  refine lv_aload_n hx hb d_Mo_add_27 rfl (lv_at hl 1 rfl) ?_
  refine va_get (D := D) (ci := 6) (v := .ref (a 4)) (C := R_Mo) (T := F_Mo) (N := 15) hx hb hts i_uMo hown hK hP 0 rfl rfl 7 (by decide) (hts _ mw_505) (fun _ h9 => h9) rfl d_Mo_add_28 ?_
  refine lv_iload hx hb d_Mo_add_31 (lv_at hl 0 rfl) ?_
  refine lv_iconst (v := 1) hx hb d_Mo_add_33 (by decide) ?_
  refine lv_iadd hx hb d_Mo_add_34 ?_
  refine lv_iload_n hx hb d_Mo_add_35 rfl (lv_at hl 3 rfl) ?_
  obtain ⟨h2, hk⟩ := gd_in hk
  refine va_iast hx hb hK hP (hDw _) hS 4 3 rfl rfl h2 d_Mo_add_36 (fun H locs hP _ hS => ?_)
  have hP : va_P D cls (wl_Mo a k (σ.1, σ.2.1, σ.2.2.1, σ.2.2.2.1, σ.2.2.2.2.1, σ.2.2.2.2.2.1, σ.2.2.2.2.2.2.1, (upd (upd σ.2.2.2.2.2.2.2.1 (6 * (σ.2.2.2.2.2.2.2.2.1 + 1)).toNatClampNeg p1) ((6 * (σ.2.2.2.2.2.2.2.2.1 + 1)) + 1).toNatClampNeg p2), (σ.2.2.2.2.2.2.2.2.1 + 1), σ.2.2.2.2.2.2.2.2.2.1, σ.2.2.2.2.2.2.2.2.2.2.1, σ.2.2.2.2.2.2.2.2.2.2.2.1, σ.2.2.2.2.2.2.2.2.2.2.2.2.1, σ.2.2.2.2.2.2.2.2.2.2.2.2.2.1, σ.2.2.2.2.2.2.2.2.2.2.2.2.2.2)) H := hP
  refine lv_aload_n hx hb d_Mo_add_37 rfl (lv_at hl 1 rfl) ?_
  refine va_get (D := D) (ci := 6) (v := .ref (a 4)) (C := R_Mo) (T := F_Mo) (N := 15) hx hb hts i_uMo hown hK hP 0 rfl rfl 7 (by decide) (hts _ mw_505) (fun _ h9 => h9) rfl d_Mo_add_38 ?_
  refine lv_iload hx hb d_Mo_add_41 (lv_at hl 0 rfl) ?_
  refine lv_iconst (v := 2) hx hb d_Mo_add_43 (by decide) ?_
  refine lv_iadd hx hb d_Mo_add_44 ?_
  refine lv_iload_n hx hb d_Mo_add_45 rfl (lv_at hl 4 rfl) ?_
  obtain ⟨h3, hk⟩ := gd_in hk
  refine va_iast hx hb hK hP (hDw _) hS 4 3 rfl rfl h3 d_Mo_add_46 (fun H locs hP _ hS => ?_)
  have hP : va_P D cls (wl_Mo a k (σ.1, σ.2.1, σ.2.2.1, σ.2.2.2.1, σ.2.2.2.2.1, σ.2.2.2.2.2.1, σ.2.2.2.2.2.2.1, (upd (upd (upd σ.2.2.2.2.2.2.2.1 (6 * (σ.2.2.2.2.2.2.2.2.1 + 1)).toNatClampNeg p1) ((6 * (σ.2.2.2.2.2.2.2.2.1 + 1)) + 1).toNatClampNeg p2) ((6 * (σ.2.2.2.2.2.2.2.2.1 + 1)) + 2).toNatClampNeg p3), (σ.2.2.2.2.2.2.2.2.1 + 1), σ.2.2.2.2.2.2.2.2.2.1, σ.2.2.2.2.2.2.2.2.2.2.1, σ.2.2.2.2.2.2.2.2.2.2.2.1, σ.2.2.2.2.2.2.2.2.2.2.2.2.1, σ.2.2.2.2.2.2.2.2.2.2.2.2.2.1, σ.2.2.2.2.2.2.2.2.2.2.2.2.2.2)) H := hP
  refine lv_aload_n hx hb d_Mo_add_47 rfl (lv_at hl 1 rfl) ?_
  refine va_get (D := D) (ci := 6) (v := .ref (a 4)) (C := R_Mo) (T := F_Mo) (N := 15) hx hb hts i_uMo hown hK hP 0 rfl rfl 7 (by decide) (hts _ mw_505) (fun _ h9 => h9) rfl d_Mo_add_48 ?_
  refine lv_iload hx hb d_Mo_add_51 (lv_at hl 0 rfl) ?_
  refine lv_iconst (v := 3) hx hb d_Mo_add_53 (by decide) ?_
  refine lv_iadd hx hb d_Mo_add_54 ?_
  refine lv_iload hx hb d_Mo_add_55 (lv_at hl 5 rfl) ?_
  obtain ⟨h4, hk⟩ := gd_in hk
  refine va_iast hx hb hK hP (hDw _) hS 4 3 rfl rfl h4 d_Mo_add_57 (fun H locs hP _ hS => ?_)
  have hP : va_P D cls (wl_Mo a k (σ.1, σ.2.1, σ.2.2.1, σ.2.2.2.1, σ.2.2.2.2.1, σ.2.2.2.2.2.1, σ.2.2.2.2.2.2.1, (upd (upd (upd (upd σ.2.2.2.2.2.2.2.1 (6 * (σ.2.2.2.2.2.2.2.2.1 + 1)).toNatClampNeg p1) ((6 * (σ.2.2.2.2.2.2.2.2.1 + 1)) + 1).toNatClampNeg p2) ((6 * (σ.2.2.2.2.2.2.2.2.1 + 1)) + 2).toNatClampNeg p3) ((6 * (σ.2.2.2.2.2.2.2.2.1 + 1)) + 3).toNatClampNeg p4), (σ.2.2.2.2.2.2.2.2.1 + 1), σ.2.2.2.2.2.2.2.2.2.1, σ.2.2.2.2.2.2.2.2.2.2.1, σ.2.2.2.2.2.2.2.2.2.2.2.1, σ.2.2.2.2.2.2.2.2.2.2.2.2.1, σ.2.2.2.2.2.2.2.2.2.2.2.2.2.1, σ.2.2.2.2.2.2.2.2.2.2.2.2.2.2)) H := hP
  refine lv_aload_n hx hb d_Mo_add_58 rfl (lv_at hl 1 rfl) ?_
  refine va_get (D := D) (ci := 6) (v := .ref (a 4)) (C := R_Mo) (T := F_Mo) (N := 15) hx hb hts i_uMo hown hK hP 0 rfl rfl 7 (by decide) (hts _ mw_505) (fun _ h9 => h9) rfl d_Mo_add_59 ?_
  refine lv_iload hx hb d_Mo_add_62 (lv_at hl 0 rfl) ?_
  refine lv_iconst (v := 4) hx hb d_Mo_add_64 (by decide) ?_
  refine lv_iadd hx hb d_Mo_add_65 ?_
  refine lv_iconst (v := 0) hx hb d_Mo_add_66 (by decide) ?_
  obtain ⟨h5, hk⟩ := gd_in hk
  refine va_iast hx hb hK hP (hDw _) hS 4 3 rfl rfl h5 d_Mo_add_67 (fun H locs hP _ hS => ?_)
  have hP : va_P D cls (wl_Mo a k (σ.1, σ.2.1, σ.2.2.1, σ.2.2.2.1, σ.2.2.2.2.1, σ.2.2.2.2.2.1, σ.2.2.2.2.2.2.1, (upd (upd (upd (upd (upd σ.2.2.2.2.2.2.2.1 (6 * (σ.2.2.2.2.2.2.2.2.1 + 1)).toNatClampNeg p1) ((6 * (σ.2.2.2.2.2.2.2.2.1 + 1)) + 1).toNatClampNeg p2) ((6 * (σ.2.2.2.2.2.2.2.2.1 + 1)) + 2).toNatClampNeg p3) ((6 * (σ.2.2.2.2.2.2.2.2.1 + 1)) + 3).toNatClampNeg p4) ((6 * (σ.2.2.2.2.2.2.2.2.1 + 1)) + 4).toNatClampNeg 0), (σ.2.2.2.2.2.2.2.2.1 + 1), σ.2.2.2.2.2.2.2.2.2.1, σ.2.2.2.2.2.2.2.2.2.2.1, σ.2.2.2.2.2.2.2.2.2.2.2.1, σ.2.2.2.2.2.2.2.2.2.2.2.2.1, σ.2.2.2.2.2.2.2.2.2.2.2.2.2.1, σ.2.2.2.2.2.2.2.2.2.2.2.2.2.2)) H := hP
  refine lv_aload_n hx hb d_Mo_add_68 rfl (lv_at hl 1 rfl) ?_
  refine va_get (D := D) (ci := 6) (v := .ref (a 4)) (C := R_Mo) (T := F_Mo) (N := 15) hx hb hts i_uMo hown hK hP 0 rfl rfl 7 (by decide) (hts _ mw_505) (fun _ h9 => h9) rfl d_Mo_add_69 ?_
  refine lv_iload hx hb d_Mo_add_72 (lv_at hl 0 rfl) ?_
  refine lv_iconst (v := 5) hx hb d_Mo_add_74 (by decide) ?_
  refine lv_iadd hx hb d_Mo_add_75 ?_
  refine lv_iload hx hb d_Mo_add_76 (lv_at hl 6 rfl) ?_
  obtain ⟨h6, hk⟩ := gd_in hk
  refine va_iast hx hb hK hP (hDw _) hS 4 3 rfl rfl h6 d_Mo_add_78 (fun H locs hP _ hS => ?_)
  have hP : va_P D cls (wl_Mo a k (σ.1, σ.2.1, σ.2.2.1, σ.2.2.2.1, σ.2.2.2.2.1, σ.2.2.2.2.2.1, σ.2.2.2.2.2.2.1, (upd (upd (upd (upd (upd (upd σ.2.2.2.2.2.2.2.1 (6 * (σ.2.2.2.2.2.2.2.2.1 + 1)).toNatClampNeg p1) ((6 * (σ.2.2.2.2.2.2.2.2.1 + 1)) + 1).toNatClampNeg p2) ((6 * (σ.2.2.2.2.2.2.2.2.1 + 1)) + 2).toNatClampNeg p3) ((6 * (σ.2.2.2.2.2.2.2.2.1 + 1)) + 3).toNatClampNeg p4) ((6 * (σ.2.2.2.2.2.2.2.2.1 + 1)) + 4).toNatClampNeg 0) ((6 * (σ.2.2.2.2.2.2.2.2.1 + 1)) + 5).toNatClampNeg p5), (σ.2.2.2.2.2.2.2.2.1 + 1), σ.2.2.2.2.2.2.2.2.2.1, σ.2.2.2.2.2.2.2.2.2.2.1, σ.2.2.2.2.2.2.2.2.2.2.2.1, σ.2.2.2.2.2.2.2.2.2.2.2.2.1, σ.2.2.2.2.2.2.2.2.2.2.2.2.2.1, σ.2.2.2.2.2.2.2.2.2.2.2.2.2.2)) H := hP
  refine lv_aload_n hx hb d_Mo_add_79 rfl (lv_at hl 1 rfl) ?_
  refine va_get (D := D) (ci := 6) (v := .int (σ.2.2.2.2.2.2.2.2.1 + 1)) (C := R_Mo) (T := F_Mo) (N := 15) hx hb hts i_uMo hown hK hP 0 rfl rfl 8 (by decide) (hts _ mw_506) (fun _ h9 => h9) rfl d_Mo_add_80 ?_
  exact kr_M (w := wl_Mo a k) hx hb hr rfl hlocks hS hP hk d_Mo_add_83
set_option maxHeartbeats 4000000 in
set_option maxRecDepth 100000 in
theorem c_Mo_book (l : Launch) (D : va_G) (a : Nat → Nat) (k : Nat → ClassId) (sz : Nat) (σ : S_Mo) (p1 p2 p3 p4 : Int32) (r0 : Int32 × S_Mo) (hk : kf_Mo_book σ p1 p2 p3 p4 = some r0) : Met l y_Mo_book w_Mo_book ({ frames := 3, cells := 0, slots := 0, locals := 78 }) (kp_P D cls (ty_Mo k) (wl_Mo a k σ) [.ref (a 0), .int p1, .int p2, .int p3, .int p4] sz) (kp_M D cls (wl_Mo a k r0.2) (wl_Mo a k σ) sz r0.1) 0 0 (va_A (wl_Mo a k σ) sz) := by
  refine Met.ofW (cc := b_Mo_book) (maxL := 6) (ret := (some .int)) (by decide) rfl ?_
  intro p e s m args below meth c s₁ B hml hv
  obtain ⟨rfl, hsz, hP, hK, hD0⟩ := hv
  have hx := B.exec
  have hb := B.bytes
  have hr := B.returns
  have hts : ∀ w ∈ lw_g, w.before _ s = true := fun w h => atoms_spec (ws := w_Mo_book) B.pre w (List.mem_cons_of_mem _ h)
  have hown : s.vm.findClass R_Mo = some m.cls := findClass_of_methodNamed B.named
  have hlocks := B.notSynchronized
  subst hsz
  have hA : ∀ q : Nat, s.heap.size ≤ q → (va_A (wl_Mo a k σ) s.heap.size) q := fun _ h => Or.inr h
  have hDt : ∀ τ, va_D (fun _ => True) (wl_Mo a k τ) := fun τ => kd_cg hD0 rfl
  have hDw : ∀ τ, va_D (va_A (wl_Mo a k σ) s.heap.size) (wl_Mo a k τ) := fun τ => kd_cg hD0.self rfl
  have hK0 : va_K D cls [] s := hK.sub [] rfl
  have hS : va_S (va_A (wl_Mo a k σ) s.heap.size) s.heap s.heap [] := va_S.rf
  have hl := lv_entry ([.ref (a 0), .int p1, .int p2, .int p3, .int p4]) (n := 6) (Nat.le_of_ble_eq_true rfl)
  rw [lg_entry_eq]
  generalize (lg_sl ([.ref (a 0), .int p1, .int p2, .int p3, .int p4]) ++ List.replicate (6 - (lg_sl ([.ref (a 0), .int p1, .int p2, .int p3, .int p4])).length) Slot.unset).toArray = ls at hl ⊢
  have hl : lv_has ls 6 [(0, .ref (a 0)), (1, .int p1), (2, .int p2), (3, .int p3), (4, .int p4)] := hl
  unfold kf_Mo_book at hk
  refine lv_aload_n hx hb d_Mo_book_0 rfl (lv_at hl 0 rfl) ?_
  refine lv_iconst (v := 0) hx hb d_Mo_book_1 (by decide) ?_
  refine va_put (D := D) (ci := 6) (v := .int 0) (ty := .int) (C := R_Mo) (T := F_Mo) (N := 15) hx hb hts i_uMo t_Mo t_Mo_ok n_Mo hown hK hP (hDw _) hS 0 rfl rfl 0 (by decide) (hts _ mw_498) (fun _ h9 => h9) rfl (t_Mo_ok 0 (by decide)) rfl rfl (Nat.le_of_ble_eq_true rfl) d_Mo_book_2 (fun H locs hP _ hS => ?_)
  have hP : va_P D cls (wl_Mo a k (0, σ.2.1, σ.2.2.1, σ.2.2.2.1, σ.2.2.2.2.1, σ.2.2.2.2.2.1, σ.2.2.2.2.2.2.1, σ.2.2.2.2.2.2.2.1, σ.2.2.2.2.2.2.2.2.1, σ.2.2.2.2.2.2.2.2.2.1, σ.2.2.2.2.2.2.2.2.2.2.1, σ.2.2.2.2.2.2.2.2.2.2.2.1, σ.2.2.2.2.2.2.2.2.2.2.2.2.1, σ.2.2.2.2.2.2.2.2.2.2.2.2.2.1, σ.2.2.2.2.2.2.2.2.2.2.2.2.2.2)) H := hP
  refine lv_iload_n hx hb d_Mo_book_5 rfl (lv_at hl 1 rfl) ?_
  obtain ⟨q1, e1, hk⟩ := ob_s hk
  refine kc_R (va_runS (As := [.int p1]) (rest := []) ⟨hx, hb, hml, hown, hts⟩ (c_Mo_isPerson l D _ p1 q1 e1) (cwS 1 hts (gS mw_565 mw_566 mw_33 mw_567) rfl rfl rfl hd_Mo_isPerson ⟨Nat.le_of_ble_eq_true rfl, Nat.le_of_ble_eq_true rfl⟩) (kp_S hK0) rfl rfl hl.1 rfl (lv_room (Nat.le_of_ble_eq_true rfl)) d_Mo_book_6 ⟨Nat.zero_le _, Nat.zero_le _⟩) hS hA hP (fun H locs hP hS => ?_)
  refine lv_if_eq (tgt := 30) hx hb d_Mo_book_9 (by decide) (fun c2 => ?_) (fun c2 => ?_)
  · have hk := br_p c2 hk
    refine lv_iconst (v := 0) hx hb d_Mo_book_30 (by decide) ?_
    exact kr_M (w := wl_Mo a k) hx hb hr rfl hlocks hS hP hk d_Mo_book_31
  · have hk := br_n c2 hk
    refine lv_aload_n hx hb d_Mo_book_12 rfl (lv_at hl 0 rfl) ?_
    refine lv_iload_n hx hb d_Mo_book_13 rfl (lv_at hl 2 rfl) ?_
    obtain ⟨q3, e3, hk⟩ := ob_s hk
    refine kc_R (va_runV (As := [.int p2]) (rest := []) ⟨hx, hb, hml, hown, hts⟩ (c_Mo_isThing l D a k _ (0, σ.2.1, σ.2.2.1, σ.2.2.2.1, σ.2.2.2.2.1, σ.2.2.2.2.2.1, σ.2.2.2.2.2.2.1, σ.2.2.2.2.2.2.2.1, σ.2.2.2.2.2.2.2.2.1, σ.2.2.2.2.2.2.2.2.2.1, σ.2.2.2.2.2.2.2.2.2.2.1, σ.2.2.2.2.2.2.2.2.2.2.2.1, σ.2.2.2.2.2.2.2.2.2.2.2.2.1, σ.2.2.2.2.2.2.2.2.2.2.2.2.2.1, σ.2.2.2.2.2.2.2.2.2.2.2.2.2.2) p2 q3 e3) (cwV 1 hts (gV mw_568 mw_570 mw_10 mw_33 mw_571) rfl rfl rfl hd_Mo_isThing ⟨Nat.le_of_ble_eq_true rfl, Nat.le_of_ble_eq_true rfl⟩) (kp_V (ci := 6) (q := (R_Mo, F_Mo, 15)) (q0 := 0) hK hP (hDt _) rfl rfl) rfl rfl hl.1 rfl (lv_room (Nat.le_of_ble_eq_true rfl)) d_Mo_book_14 ⟨Nat.zero_le _, Nat.zero_le _⟩) hS hA hP (fun H locs hP hS => ?_)
    refine lv_if_eq (tgt := 30) hx hb d_Mo_book_17 (by decide) (fun c4 => ?_) (fun c4 => ?_)
    · have hk := br_p c4 hk
      refine lv_iconst (v := 0) hx hb d_Mo_book_30 (by decide) ?_
      exact kr_M (w := wl_Mo a k) hx hb hr rfl hlocks hS hP hk d_Mo_book_31
    · have hk := br_n c4 hk
      refine lv_aload_n hx hb d_Mo_book_20 rfl (lv_at hl 0 rfl) ?_
      refine va_get (D := D) (ci := 6) (v := .int σ.2.2.2.2.2.2.2.2.1) (C := R_Mo) (T := F_Mo) (N := 15) hx hb hts i_uMo hown hK hP 0 rfl rfl 8 (by decide) (hts _ mw_506) (fun _ h9 => h9) rfl d_Mo_book_21 ?_
      refine lv_sipush (v := 200) hx hb d_Mo_book_24 (by decide) ?_
      refine lv_icmp_ne (tgt := 32) hx hb d_Mo_book_27 (by decide) (fun c5 => ?_) (fun c5 => ?_)
      · have hk := br_n c5 hk
        refine lv_aload_n hx hb d_Mo_book_32 rfl (lv_at hl 0 rfl) ?_
        refine lv_iload_n hx hb d_Mo_book_33 rfl (lv_at hl 1 rfl) ?_
        refine lv_iload_n hx hb d_Mo_book_34 rfl (lv_at hl 2 rfl) ?_
        refine lv_iload_n hx hb d_Mo_book_35 rfl (lv_at hl 3 rfl) ?_
        refine lv_iload hx hb d_Mo_book_36 (lv_at hl 4 rfl) ?_
        refine lv_iconst (v := 0) hx hb d_Mo_book_38 (by decide) ?_
        obtain ⟨q6, e6, hk⟩ := ob_s hk
        refine kc_R (va_runV (As := [.int p1, .int p2, .int p3, .int p4, .int 0]) (rest := []) ⟨hx, hb, hml, hown, hts⟩ (c_Mo_against l D a k _ (0, σ.2.1, σ.2.2.1, σ.2.2.2.1, σ.2.2.2.2.1, σ.2.2.2.2.2.1, σ.2.2.2.2.2.2.1, σ.2.2.2.2.2.2.2.1, σ.2.2.2.2.2.2.2.2.1, σ.2.2.2.2.2.2.2.2.2.1, σ.2.2.2.2.2.2.2.2.2.2.1, σ.2.2.2.2.2.2.2.2.2.2.2.1, σ.2.2.2.2.2.2.2.2.2.2.2.2.1, σ.2.2.2.2.2.2.2.2.2.2.2.2.2.1, σ.2.2.2.2.2.2.2.2.2.2.2.2.2.2) p1 p2 p3 p4 0 q6 e6) (cwV 5 hts (gV mw_572 mw_574 mw_11 mw_33 mw_575) rfl rfl rfl hd_Mo_against ⟨Nat.le_of_ble_eq_true rfl, Nat.le_of_ble_eq_true rfl⟩) (kp_V (ci := 6) (q := (R_Mo, F_Mo, 15)) (q0 := 0) hK hP (hDt _) rfl rfl) rfl rfl hl.1 rfl (lv_room (Nat.le_of_ble_eq_true rfl)) d_Mo_book_39 ⟨Nat.zero_le _, Nat.zero_le _⟩) hS hA hP (fun H locs hP hS => ?_)
        refine lv_istore (lv' := [(5, .int q6), (0, .ref (a 0)), (1, .int p1), (2, .int p2), (3, .int p3), (4, .int p4)]) hx hb d_Mo_book_42 hl (by decide) rfl (fun ls hl => ?_)
        refine lv_iload hx hb d_Mo_book_44 (lv_at hl 0 rfl) ?_
        refine lv_if_ge (tgt := 54) hx hb d_Mo_book_46 (by decide) (fun c7 => ?_) (fun c7 => ?_)
        · have hk := br_p c7 hk
          refine lv_aload_n hx hb d_Mo_book_54 rfl (lv_at hl 1 rfl) ?_
          refine lv_iload_n hx hb d_Mo_book_55 rfl (lv_at hl 2 rfl) ?_
          refine lv_iload_n hx hb d_Mo_book_56 rfl (lv_at hl 3 rfl) ?_
          refine lv_iload_n hx hb d_Mo_book_57 rfl (lv_at hl 4 rfl) ?_
          refine lv_iload hx hb d_Mo_book_58 (lv_at hl 5 rfl) ?_
          refine lv_iconst (v := 0) hx hb d_Mo_book_60 (by decide) ?_
          obtain ⟨q8, e8, hk⟩ := ob_s hk
          refine kc_M (wF := wl_Mo a k q8.2) (va_runV (As := [.int p1, .int p2, .int p3, .int p4, .int 0]) (rest := []) ⟨hx, hb, hml, hown, hts⟩ (c_Mo_add l D a k _ (0, σ.2.1, σ.2.2.1, σ.2.2.2.1, σ.2.2.2.2.1, σ.2.2.2.2.2.1, σ.2.2.2.2.2.2.1, σ.2.2.2.2.2.2.2.1, σ.2.2.2.2.2.2.2.2.1, σ.2.2.2.2.2.2.2.2.2.1, σ.2.2.2.2.2.2.2.2.2.2.1, σ.2.2.2.2.2.2.2.2.2.2.2.1, σ.2.2.2.2.2.2.2.2.2.2.2.2.1, σ.2.2.2.2.2.2.2.2.2.2.2.2.2.1, σ.2.2.2.2.2.2.2.2.2.2.2.2.2.2) p1 p2 p3 p4 0 q8 e8) (cwV 5 hts (gV mw_596 mw_598 mw_16 mw_33 mw_599) rfl rfl rfl hd_Mo_add ⟨Nat.le_of_ble_eq_true rfl, Nat.le_of_ble_eq_true rfl⟩) (kp_V (ci := 6) (q := (R_Mo, F_Mo, 15)) (q0 := 0) hK hP (hDt _) rfl rfl) rfl rfl hl.1 rfl (lv_room (Nat.le_of_ble_eq_true rfl)) d_Mo_book_61 ⟨Nat.zero_le _, Nat.zero_le _⟩) hS (hDw _) hA (fun _ _ h _ => h) (fun H locs hP hS => ?_)
          exact kr_M (w := wl_Mo a k) hx hb hr rfl hlocks hS hP hk d_Mo_book_64
        · have hk := br_n c7 hk
          refine lv_iload hx hb d_Mo_book_49 (lv_at hl 0 rfl) ?_
          refine lv_goto (tgt := 64) hx hb d_Mo_book_51 (by decide) ?_
          exact kr_M (w := wl_Mo a k) hx hb hr rfl hlocks hS hP hk d_Mo_book_64
      · have hk := br_p c5 hk
        refine lv_iconst (v := 0) hx hb d_Mo_book_30 (by decide) ?_
        exact kr_M (w := wl_Mo a k) hx hb hr rfl hlocks hS hP hk d_Mo_book_31
set_option maxHeartbeats 4000000 in
set_option maxRecDepth 100000 in
theorem c_Mo_recurring (l : Launch) (D : va_G) (a : Nat → Nat) (k : Nat → ClassId) (sz : Nat) (σ : S_Mo) (p1 p2 p3 : Int32) (r0 : Int32 × S_Mo) (hk : kf_Mo_recurring σ p1 p2 p3 = some r0) : Met l y_Mo_recurring w_Mo_recurring ({ frames := 3, cells := 0, slots := 0, locals := 78 }) (kp_P D cls (ty_Mo k) (wl_Mo a k σ) [.ref (a 0), .int p1, .int p2, .int p3] sz) (kp_M D cls (wl_Mo a k r0.2) (wl_Mo a k σ) sz r0.1) 0 0 (va_A (wl_Mo a k σ) sz) := by
  refine Met.ofW (cc := b_Mo_recurring) (maxL := 10) (ret := (some .int)) (by decide) rfl ?_
  intro p e s m args below meth c s₁ B hml hv
  obtain ⟨rfl, hsz, hP, hK, hD0⟩ := hv
  have hx := B.exec
  have hb := B.bytes
  have hr := B.returns
  have hts : ∀ w ∈ lw_g, w.before _ s = true := fun w h => atoms_spec (ws := w_Mo_recurring) B.pre w (List.mem_cons_of_mem _ h)
  have hown : s.vm.findClass R_Mo = some m.cls := findClass_of_methodNamed B.named
  have hlocks := B.notSynchronized
  subst hsz
  have hA : ∀ q : Nat, s.heap.size ≤ q → (va_A (wl_Mo a k σ) s.heap.size) q := fun _ h => Or.inr h
  have hDt : ∀ τ, va_D (fun _ => True) (wl_Mo a k τ) := fun τ => kd_cg hD0 rfl
  have hDw : ∀ τ, va_D (va_A (wl_Mo a k σ) s.heap.size) (wl_Mo a k τ) := fun τ => kd_cg hD0.self rfl
  have hS : va_S (va_A (wl_Mo a k σ) s.heap.size) s.heap s.heap [] := va_S.rf
  have hl := lv_entry ([.ref (a 0), .int p1, .int p2, .int p3]) (n := 10) (Nat.le_of_ble_eq_true rfl)
  rw [lg_entry_eq]
  generalize (lg_sl ([.ref (a 0), .int p1, .int p2, .int p3]) ++ List.replicate (10 - (lg_sl ([.ref (a 0), .int p1, .int p2, .int p3])).length) Slot.unset).toArray = ls at hl ⊢
  have hl : lv_has ls 10 [(0, .ref (a 0)), (1, .int p1), (2, .int p2), (3, .int p3)] := hl
  unfold kf_Mo_recurring at hk
  have L60 : ∀ (n60 : Nat) (x4 : Int32) (x5 : Int32) (x6 : Int32) (x7 : Int32) (τ : S_Mo) (H : Heap) (locs : List Loc) (ls : Array Slot), va_P D cls (wl_Mo a k τ) H → va_S (va_A (wl_Mo a k σ) s.heap.size) s.heap H locs → lv_has ls 10 [(0, .ref (a 0)), (2, .int p2), (3, .int p3), (4, .int x4), (5, .int x5), (6, .int x6), (7, .int x7)] → kf_Mo_recurring_60 p1 p2 p3 n60 x4 x5 x6 x7 τ = some r0 → W p l e (headSpec w_Mo_recurring ({ frames := 3, cells := 0, slots := 0, locals := 78 })).room s m [.ref (a 0), .int p1, .int p2, .int p3].toArray below meth c H locs 0 0 (MQ below (kp_M D cls (wl_Mo a k r0.2) (wl_Mo a k σ) s.heap.size r0.1) [.ref (a 0), .int p1, .int p2, .int p3].toArray s 0 0 (va_A (wl_Mo a k σ) s.heap.size)) (F0 m 60 ls []) := by
    intro n60
    induction n60 with
    | zero =>
      intro x4 x5 x6 x7 τ H locs ls hP hS hl hk
      exact nomatch hk
    | succ n60 ih60 =>
      have J155 : ∀ (x4 : Int32) (x5 : Int32) (x7 : Int32) (x8 : Int32) (x9 : Int32) (y0 : Int32) (τ : S_Mo) (H : Heap) (locs : List Loc) (ls : Array Slot), va_P D cls (wl_Mo a k τ) H → va_S (va_A (wl_Mo a k σ) s.heap.size) s.heap H locs → lv_has ls 10 [(0, .ref (a 0)), (2, .int p2), (3, .int p3), (4, .int x4), (5, .int x5), (7, .int x7), (8, .int x8), (9, .int x9)] → kf_Mo_recurring_155 p1 p2 p3 (kf_Mo_recurring_60 p1 p2 p3 n60) x4 x5 x7 x8 x9 y0 τ = some r0 → W p l e (headSpec w_Mo_recurring ({ frames := 3, cells := 0, slots := 0, locals := 78 })).room s m [.ref (a 0), .int p1, .int p2, .int p3].toArray below meth c H locs 0 0 (MQ below (kp_M D cls (wl_Mo a k r0.2) (wl_Mo a k σ) s.heap.size r0.1) [.ref (a 0), .int p1, .int p2, .int p3].toArray s 0 0 (va_A (wl_Mo a k σ) s.heap.size)) (F0 m 155 ls [.int y0]) := by
        intro x4 x5 x7 x8 x9 y0 τ H locs ls hP hS hl hk
        unfold kf_Mo_recurring_155 at hk
        refine lv_istore (lv' := [(6, .int y0), (0, .ref (a 0)), (2, .int p2), (3, .int p3), (4, .int x4), (5, .int x5), (7, .int x7), (8, .int x8), (9, .int x9)]) hx hb d_Mo_recurring_155 hl (by decide) rfl (fun ls hl => ?_)
        refine lv_iload hx hb d_Mo_recurring_157 (lv_at hl 8 rfl) ?_
        refine lv_if_ne (tgt := 211) hx hb d_Mo_recurring_159 (by decide) (fun c1 => ?_) (fun c1 => ?_)
        · have hk := br_n c1 hk
          refine lv_iinc (v := (x7 + 1)) (lv' := [(7, .int (x7 + 1)), (6, .int y0), (0, .ref (a 0)), (2, .int p2), (3, .int p3), (4, .int x4), (5, .int x5), (8, .int x8), (9, .int x9)]) hx hb d_Mo_recurring_211 hl (k := 6) rfl rfl (by decide) rfl (fun ls hl => ?_)
          refine lv_goto (tgt := 60) hx hb d_Mo_recurring_214 (by decide) ?_
          exact ih60 x4 x5 y0 (x7 + 1) τ _ _ _ hP hS (lv_sub hl [2, 3, 4, 5, 6, 1, 0] rfl) hk
        · have hk := br_p c1 hk
          refine lv_aload_n hx hb d_Mo_recurring_162 rfl (lv_at hl 1 rfl) ?_
          refine lv_aload_n hx hb d_Mo_recurring_163 rfl (lv_at hl 1 rfl) ?_
          refine va_get (D := D) (ci := 6) (v := .ref (a 4)) (C := R_Mo) (T := F_Mo) (N := 15) hx hb hts i_uMo hown hK hP 0 rfl rfl 7 (by decide) (hts _ mw_505) (fun _ h9 => h9) rfl d_Mo_recurring_164 ?_
          refine lv_iload hx hb d_Mo_recurring_167 (lv_at hl 4 rfl) ?_
          obtain ⟨h2, hk⟩ := gd_in hk
          refine va_iald hx hb hK hP 4 3 rfl rfl h2 d_Mo_recurring_169 ?_
          refine lv_aload_n hx hb d_Mo_recurring_170 rfl (lv_at hl 1 rfl) ?_
          refine va_get (D := D) (ci := 6) (v := .ref (a 4)) (C := R_Mo) (T := F_Mo) (N := 15) hx hb hts i_uMo hown hK hP 0 rfl rfl 7 (by decide) (hts _ mw_505) (fun _ h9 => h9) rfl d_Mo_recurring_171 ?_
          refine lv_iload hx hb d_Mo_recurring_174 (lv_at hl 4 rfl) ?_
          refine lv_iconst (v := 1) hx hb d_Mo_recurring_176 (by decide) ?_
          refine lv_iadd hx hb d_Mo_recurring_177 ?_
          obtain ⟨h3, hk⟩ := gd_in hk
          refine va_iald hx hb hK hP 4 3 rfl rfl h3 d_Mo_recurring_178 ?_
          refine lv_aload_n hx hb d_Mo_recurring_179 rfl (lv_at hl 1 rfl) ?_
          refine va_get (D := D) (ci := 6) (v := .ref (a 4)) (C := R_Mo) (T := F_Mo) (N := 15) hx hb hts i_uMo hown hK hP 0 rfl rfl 7 (by decide) (hts _ mw_505) (fun _ h9 => h9) rfl d_Mo_recurring_180 ?_
          refine lv_iload hx hb d_Mo_recurring_183 (lv_at hl 4 rfl) ?_
          refine lv_iconst (v := 2) hx hb d_Mo_recurring_185 (by decide) ?_
          refine lv_iadd hx hb d_Mo_recurring_186 ?_
          obtain ⟨h4, hk⟩ := gd_in hk
          refine va_iald hx hb hK hP 4 3 rfl rfl h4 d_Mo_recurring_187 ?_
          refine lv_iload hx hb d_Mo_recurring_188 (lv_at hl 7 rfl) ?_
          refine lv_iadd hx hb d_Mo_recurring_190 ?_
          refine lv_aload_n hx hb d_Mo_recurring_191 rfl (lv_at hl 1 rfl) ?_
          refine va_get (D := D) (ci := 6) (v := .ref (a 4)) (C := R_Mo) (T := F_Mo) (N := 15) hx hb hts i_uMo hown hK hP 0 rfl rfl 7 (by decide) (hts _ mw_505) (fun _ h9 => h9) rfl d_Mo_recurring_192 ?_
          refine lv_iload hx hb d_Mo_recurring_195 (lv_at hl 4 rfl) ?_
          refine lv_iconst (v := 3) hx hb d_Mo_recurring_197 (by decide) ?_
          refine lv_iadd hx hb d_Mo_recurring_198 ?_
          obtain ⟨h5, hk⟩ := gd_in hk
          refine va_iald hx hb hK hP 4 3 rfl rfl h5 d_Mo_recurring_199 ?_
          refine lv_iload hx hb d_Mo_recurring_200 (lv_at hl 7 rfl) ?_
          refine lv_iadd hx hb d_Mo_recurring_202 ?_
          refine lv_iconst (v := 0) hx hb d_Mo_recurring_203 (by decide) ?_
          obtain ⟨q6, e6, hk⟩ := ob_s hk
          refine kc_M (wF := wl_Mo a k q6.2) (va_runV (As := [.int (τ.2.2.2.2.2.2.2.1 x4.toNatClampNeg), .int (τ.2.2.2.2.2.2.2.1 (x4 + 1).toNatClampNeg), .int ((τ.2.2.2.2.2.2.2.1 (x4 + 2).toNatClampNeg) + x8), .int ((τ.2.2.2.2.2.2.2.1 (x4 + 3).toNatClampNeg) + x8), .int 0]) (rest := []) ⟨hx, hb, hml, hown, hts⟩ (c_Mo_add l D a k _ τ (τ.2.2.2.2.2.2.2.1 x4.toNatClampNeg) (τ.2.2.2.2.2.2.2.1 (x4 + 1).toNatClampNeg) ((τ.2.2.2.2.2.2.2.1 (x4 + 2).toNatClampNeg) + x8) ((τ.2.2.2.2.2.2.2.1 (x4 + 3).toNatClampNeg) + x8) 0 q6 e6) (cwV 5 hts (gV mw_596 mw_598 mw_16 mw_33 mw_599) rfl rfl rfl hd_Mo_add ⟨Nat.le_of_ble_eq_true rfl, Nat.le_of_ble_eq_true rfl⟩) (kp_V (ci := 6) (q := (R_Mo, F_Mo, 15)) (q0 := 0) hK hP (hDt _) rfl rfl) rfl rfl hl.1 rfl (lv_room (Nat.le_of_ble_eq_true rfl)) d_Mo_recurring_204 ⟨Nat.zero_le _, Nat.zero_le _⟩) hS (hDw _) hA (fun _ _ h _ => h) (fun H locs hP hS => ?_)
          refine lv_pop hx hb d_Mo_recurring_207 rfl ?_
          refine lv_iinc (v := (x5 + 1)) (lv' := [(5, .int (x5 + 1)), (6, .int y0), (0, .ref (a 0)), (2, .int p2), (3, .int p3), (4, .int x4), (7, .int x7), (8, .int x8), (9, .int x9)]) hx hb d_Mo_recurring_208 hl (k := 5) rfl rfl (by decide) rfl (fun ls hl => ?_)
          refine lv_iinc (v := (x7 + 1)) (lv' := [(7, .int (x7 + 1)), (5, .int (x5 + 1)), (6, .int y0), (0, .ref (a 0)), (2, .int p2), (3, .int p3), (4, .int x4), (8, .int x8), (9, .int x9)]) hx hb d_Mo_recurring_211 hl (k := 6) rfl rfl (by decide) rfl (fun ls hl => ?_)
          refine lv_goto (tgt := 60) hx hb d_Mo_recurring_214 (by decide) ?_
          exact ih60 x4 (x5 + 1) y0 (x7 + 1) q6.2 _ _ _ hP hS (lv_sub hl [3, 4, 5, 6, 1, 2, 0] rfl) hk
      have J141 : ∀ (x4 : Int32) (x5 : Int32) (x7 : Int32) (x8 : Int32) (y0 : Int32) (τ : S_Mo) (H : Heap) (locs : List Loc) (ls : Array Slot), va_P D cls (wl_Mo a k τ) H → va_S (va_A (wl_Mo a k σ) s.heap.size) s.heap H locs → lv_has ls 10 [(0, .ref (a 0)), (2, .int p2), (3, .int p3), (4, .int x4), (5, .int x5), (7, .int x7), (8, .int x8)] → kf_Mo_recurring_141 p1 p2 p3 (kf_Mo_recurring_60 p1 p2 p3 n60) x4 x5 x7 x8 y0 τ = some r0 → W p l e (headSpec w_Mo_recurring ({ frames := 3, cells := 0, slots := 0, locals := 78 })).room s m [.ref (a 0), .int p1, .int p2, .int p3].toArray below meth c H locs 0 0 (MQ below (kp_M D cls (wl_Mo a k r0.2) (wl_Mo a k σ) s.heap.size r0.1) [.ref (a 0), .int p1, .int p2, .int p3].toArray s 0 0 (va_A (wl_Mo a k σ) s.heap.size)) (F0 m 141 ls [.int y0]) := by
        intro x4 x5 x7 x8 y0 τ H locs ls hP hS hl hk
        unfold kf_Mo_recurring_141 at hk
        refine lv_istore (lv' := [(9, .int y0), (0, .ref (a 0)), (2, .int p2), (3, .int p3), (4, .int x4), (5, .int x5), (7, .int x7), (8, .int x8)]) hx hb d_Mo_recurring_141 hl (by decide) rfl (fun ls hl => ?_)
        refine lv_iload hx hb d_Mo_recurring_143 (lv_at hl 0 rfl) ?_
        refine lv_bipush (v := -3) hx hb d_Mo_recurring_145 (by decide) ?_
        refine lv_icmp_eq (tgt := 154) hx hb d_Mo_recurring_147 (by decide) (fun c7 => ?_) (fun c7 => ?_)
        · have hk := br_p c7 hk
          refine lv_iconst (v := 0) hx hb d_Mo_recurring_154 (by decide) ?_
          exact J155 x4 x5 x7 x8 y0 0 τ _ _ _ hP hS (lv_sub hl [1, 2, 3, 4, 5, 6, 7, 0] rfl) hk
        · have hk := br_n c7 hk
          refine lv_iconst (v := 1) hx hb d_Mo_recurring_150 (by decide) ?_
          refine lv_goto (tgt := 155) hx hb d_Mo_recurring_151 (by decide) ?_
          exact J155 x4 x5 x7 x8 y0 1 τ _ _ _ hP hS (lv_sub hl [1, 2, 3, 4, 5, 6, 7, 0] rfl) hk
      intro x4 x5 x6 x7 τ H locs ls hP hS hl hk
      rw [kf_Mo_recurring_60_s] at hk
      refine lv_iload hx hb d_Mo_recurring_60 (lv_at hl 6 rfl) ?_
      refine lv_iload_n hx hb d_Mo_recurring_62 rfl (lv_at hl 2 rfl) ?_
      refine lv_icmp_gt (tgt := 217) hx hb d_Mo_recurring_63 (by decide) (fun c8 => ?_) (fun c8 => ?_)
      · have hk := br_p c8 hk
        refine lv_iload hx hb d_Mo_recurring_217 (lv_at hl 4 rfl) ?_
        exact kr_M (w := wl_Mo a k) hx hb hr rfl hlocks hS hP hk d_Mo_recurring_219
      · have hk := br_n c8 hk
        refine lv_iload hx hb d_Mo_recurring_66 (lv_at hl 5 rfl) ?_
        refine lv_if_eq (tgt := 217) hx hb d_Mo_recurring_68 (by decide) (fun c9 => ?_) (fun c9 => ?_)
        · have hk := br_p c9 hk
          refine lv_iload hx hb d_Mo_recurring_217 (lv_at hl 4 rfl) ?_
          exact kr_M (w := wl_Mo a k) hx hb hr rfl hlocks hS hP hk d_Mo_recurring_219
        · have hk := br_n c9 hk
          refine lv_sipush (v := 1440) hx hb d_Mo_recurring_71 (by decide) ?_
          refine lv_iload_n hx hb d_Mo_recurring_74 rfl (lv_at hl 1 rfl) ?_
          refine lv_imul hx hb d_Mo_recurring_75 ?_
          refine lv_iload hx hb d_Mo_recurring_76 (lv_at hl 6 rfl) ?_
          refine lv_imul hx hb d_Mo_recurring_78 ?_
          refine lv_istore (lv' := [(8, .int ((1440 * p2) * x7)), (0, .ref (a 0)), (2, .int p2), (3, .int p3), (4, .int x4), (5, .int x5), (6, .int x6), (7, .int x7)]) hx hb d_Mo_recurring_79 hl (by decide) rfl (fun ls hl => ?_)
          refine lv_aload_n hx hb d_Mo_recurring_81 rfl (lv_at hl 1 rfl) ?_
          refine va_get (D := D) (ci := 6) (v := .int τ.2.2.2.2.2.2.2.2.1) (C := R_Mo) (T := F_Mo) (N := 15) hx hb hts i_uMo hown hK hP 0 rfl rfl 8 (by decide) (hts _ mw_506) (fun _ h9 => h9) rfl d_Mo_recurring_82 ?_
          refine lv_sipush (v := 200) hx hb d_Mo_recurring_85 (by decide) ?_
          refine lv_icmp_ne (tgt := 96) hx hb d_Mo_recurring_88 (by decide) (fun c10 => ?_) (fun c10 => ?_)
          · have hk := br_n c10 hk
            refine lv_aload_n hx hb d_Mo_recurring_96 rfl (lv_at hl 1 rfl) ?_
            refine lv_aload_n hx hb d_Mo_recurring_97 rfl (lv_at hl 1 rfl) ?_
            refine va_get (D := D) (ci := 6) (v := .ref (a 4)) (C := R_Mo) (T := F_Mo) (N := 15) hx hb hts i_uMo hown hK hP 0 rfl rfl 7 (by decide) (hts _ mw_505) (fun _ h9 => h9) rfl d_Mo_recurring_98 ?_
            refine lv_iload hx hb d_Mo_recurring_101 (lv_at hl 4 rfl) ?_
            obtain ⟨h11, hk⟩ := gd_in hk
            refine va_iald hx hb hK hP 4 3 rfl rfl h11 d_Mo_recurring_103 ?_
            refine lv_aload_n hx hb d_Mo_recurring_104 rfl (lv_at hl 1 rfl) ?_
            refine va_get (D := D) (ci := 6) (v := .ref (a 4)) (C := R_Mo) (T := F_Mo) (N := 15) hx hb hts i_uMo hown hK hP 0 rfl rfl 7 (by decide) (hts _ mw_505) (fun _ h9 => h9) rfl d_Mo_recurring_105 ?_
            refine lv_iload hx hb d_Mo_recurring_108 (lv_at hl 4 rfl) ?_
            refine lv_iconst (v := 1) hx hb d_Mo_recurring_110 (by decide) ?_
            refine lv_iadd hx hb d_Mo_recurring_111 ?_
            obtain ⟨h12, hk⟩ := gd_in hk
            refine va_iald hx hb hK hP 4 3 rfl rfl h12 d_Mo_recurring_112 ?_
            refine lv_aload_n hx hb d_Mo_recurring_113 rfl (lv_at hl 1 rfl) ?_
            refine va_get (D := D) (ci := 6) (v := .ref (a 4)) (C := R_Mo) (T := F_Mo) (N := 15) hx hb hts i_uMo hown hK hP 0 rfl rfl 7 (by decide) (hts _ mw_505) (fun _ h9 => h9) rfl d_Mo_recurring_114 ?_
            refine lv_iload hx hb d_Mo_recurring_117 (lv_at hl 4 rfl) ?_
            refine lv_iconst (v := 2) hx hb d_Mo_recurring_119 (by decide) ?_
            refine lv_iadd hx hb d_Mo_recurring_120 ?_
            obtain ⟨h13, hk⟩ := gd_in hk
            refine va_iald hx hb hK hP 4 3 rfl rfl h13 d_Mo_recurring_121 ?_
            refine lv_iload hx hb d_Mo_recurring_122 (lv_at hl 0 rfl) ?_
            refine lv_iadd hx hb d_Mo_recurring_124 ?_
            refine lv_aload_n hx hb d_Mo_recurring_125 rfl (lv_at hl 1 rfl) ?_
            refine va_get (D := D) (ci := 6) (v := .ref (a 4)) (C := R_Mo) (T := F_Mo) (N := 15) hx hb hts i_uMo hown hK hP 0 rfl rfl 7 (by decide) (hts _ mw_505) (fun _ h9 => h9) rfl d_Mo_recurring_126 ?_
            refine lv_iload hx hb d_Mo_recurring_129 (lv_at hl 4 rfl) ?_
            refine lv_iconst (v := 3) hx hb d_Mo_recurring_131 (by decide) ?_
            refine lv_iadd hx hb d_Mo_recurring_132 ?_
            obtain ⟨h14, hk⟩ := gd_in hk
            refine va_iald hx hb hK hP 4 3 rfl rfl h14 d_Mo_recurring_133 ?_
            refine lv_iload hx hb d_Mo_recurring_134 (lv_at hl 0 rfl) ?_
            refine lv_iadd hx hb d_Mo_recurring_136 ?_
            refine lv_iconst (v := 0) hx hb d_Mo_recurring_137 (by decide) ?_
            obtain ⟨q15, e15, hk⟩ := ob_s hk
            refine kc_R (va_runV (As := [.int (τ.2.2.2.2.2.2.2.1 x4.toNatClampNeg), .int (τ.2.2.2.2.2.2.2.1 (x4 + 1).toNatClampNeg), .int ((τ.2.2.2.2.2.2.2.1 (x4 + 2).toNatClampNeg) + ((1440 * p2) * x7)), .int ((τ.2.2.2.2.2.2.2.1 (x4 + 3).toNatClampNeg) + ((1440 * p2) * x7)), .int 0]) (rest := []) ⟨hx, hb, hml, hown, hts⟩ (c_Mo_against l D a k _ τ (τ.2.2.2.2.2.2.2.1 x4.toNatClampNeg) (τ.2.2.2.2.2.2.2.1 (x4 + 1).toNatClampNeg) ((τ.2.2.2.2.2.2.2.1 (x4 + 2).toNatClampNeg) + ((1440 * p2) * x7)) ((τ.2.2.2.2.2.2.2.1 (x4 + 3).toNatClampNeg) + ((1440 * p2) * x7)) 0 q15 e15) (cwV 5 hts (gV mw_572 mw_574 mw_11 mw_33 mw_575) rfl rfl rfl hd_Mo_against ⟨Nat.le_of_ble_eq_true rfl, Nat.le_of_ble_eq_true rfl⟩) (kp_V (ci := 6) (q := (R_Mo, F_Mo, 15)) (q0 := 0) hK hP (hDt _) rfl rfl) rfl rfl hl.1 rfl (lv_room (Nat.le_of_ble_eq_true rfl)) d_Mo_recurring_138 ⟨Nat.zero_le _, Nat.zero_le _⟩) hS hA hP (fun H locs hP hS => ?_)
            exact J141 x4 x5 x7 ((1440 * p2) * x7) q15 τ _ _ _ hP hS (lv_sub hl [1, 2, 3, 4, 5, 7, 0] rfl) hk
          · have hk := br_p c10 hk
            refine lv_bipush (v := -3) hx hb d_Mo_recurring_91 (by decide) ?_
            refine lv_goto (tgt := 141) hx hb d_Mo_recurring_93 (by decide) ?_
            exact J141 x4 x5 x7 ((1440 * p2) * x7) (-3) τ _ _ _ hP hS (lv_sub hl [1, 2, 3, 4, 5, 7, 0] rfl) hk
  refine lv_aload_n hx hb d_Mo_recurring_0 rfl (lv_at hl 0 rfl) ?_
  refine lv_iconst (v := 0) hx hb d_Mo_recurring_1 (by decide) ?_
  refine va_put (D := D) (ci := 6) (v := .int 0) (ty := .int) (C := R_Mo) (T := F_Mo) (N := 15) hx hb hts i_uMo t_Mo t_Mo_ok n_Mo hown hK hP (hDw _) hS 0 rfl rfl 0 (by decide) (hts _ mw_498) (fun _ h9 => h9) rfl (t_Mo_ok 0 (by decide)) rfl rfl (Nat.le_of_ble_eq_true rfl) d_Mo_recurring_2 (fun H locs hP _ hS => ?_)
  have hP : va_P D cls (wl_Mo a k (0, σ.2.1, σ.2.2.1, σ.2.2.2.1, σ.2.2.2.2.1, σ.2.2.2.2.2.1, σ.2.2.2.2.2.2.1, σ.2.2.2.2.2.2.2.1, σ.2.2.2.2.2.2.2.2.1, σ.2.2.2.2.2.2.2.2.2.1, σ.2.2.2.2.2.2.2.2.2.2.1, σ.2.2.2.2.2.2.2.2.2.2.2.1, σ.2.2.2.2.2.2.2.2.2.2.2.2.1, σ.2.2.2.2.2.2.2.2.2.2.2.2.2.1, σ.2.2.2.2.2.2.2.2.2.2.2.2.2.2)) H := hP
  refine lv_aload_n hx hb d_Mo_recurring_5 rfl (lv_at hl 0 rfl) ?_
  refine lv_iload_n hx hb d_Mo_recurring_6 rfl (lv_at hl 1 rfl) ?_
  obtain ⟨q16, e16, hk⟩ := ob_s hk
  refine kc_R (va_runV (As := [.int p1]) (rest := []) ⟨hx, hb, hml, hown, hts⟩ (c_Mo_isBooking l D a k _ (0, σ.2.1, σ.2.2.1, σ.2.2.2.1, σ.2.2.2.2.1, σ.2.2.2.2.2.1, σ.2.2.2.2.2.2.1, σ.2.2.2.2.2.2.2.1, σ.2.2.2.2.2.2.2.2.1, σ.2.2.2.2.2.2.2.2.2.1, σ.2.2.2.2.2.2.2.2.2.2.1, σ.2.2.2.2.2.2.2.2.2.2.2.1, σ.2.2.2.2.2.2.2.2.2.2.2.2.1, σ.2.2.2.2.2.2.2.2.2.2.2.2.2.1, σ.2.2.2.2.2.2.2.2.2.2.2.2.2.2) p1 q16 e16) (cwV 1 hts (gV mw_604 mw_606 mw_17 mw_33 mw_607) rfl rfl rfl hd_Mo_isBooking ⟨Nat.le_of_ble_eq_true rfl, Nat.le_of_ble_eq_true rfl⟩) (kp_V (ci := 6) (q := (R_Mo, F_Mo, 15)) (q0 := 0) hK hP (hDt _) rfl rfl) rfl rfl hl.1 rfl (lv_room (Nat.le_of_ble_eq_true rfl)) d_Mo_recurring_7 ⟨Nat.zero_le _, Nat.zero_le _⟩) hS hA hP (fun H locs hP hS => ?_)
  refine lv_if_eq (tgt := 43) hx hb d_Mo_recurring_10 (by decide) (fun c17 => ?_) (fun c17 => ?_)
  · have hk := br_p c17 hk
    refine lv_iconst (v := 0) hx hb d_Mo_recurring_43 (by decide) ?_
    exact kr_M (w := wl_Mo a k) hx hb hr rfl hlocks hS hP hk d_Mo_recurring_44
  · have hk := br_n c17 hk
    refine lv_aload_n hx hb d_Mo_recurring_13 rfl (lv_at hl 0 rfl) ?_
    refine lv_iload_n hx hb d_Mo_recurring_14 rfl (lv_at hl 1 rfl) ?_
    obtain ⟨q18, e18, hk⟩ := ob_s hk
    refine kc_R (va_runV (As := [.int p1]) (rest := []) ⟨hx, hb, hml, hown, hts⟩ (c_Mo_lives l D a k _ (0, σ.2.1, σ.2.2.1, σ.2.2.2.1, σ.2.2.2.2.1, σ.2.2.2.2.2.1, σ.2.2.2.2.2.2.1, σ.2.2.2.2.2.2.2.1, σ.2.2.2.2.2.2.2.2.1, σ.2.2.2.2.2.2.2.2.2.1, σ.2.2.2.2.2.2.2.2.2.2.1, σ.2.2.2.2.2.2.2.2.2.2.2.1, σ.2.2.2.2.2.2.2.2.2.2.2.2.1, σ.2.2.2.2.2.2.2.2.2.2.2.2.2.1, σ.2.2.2.2.2.2.2.2.2.2.2.2.2.2) p1 q18 e18) (cwV 1 hts (gV mw_584 mw_586 mw_13 mw_33 mw_587) rfl rfl rfl hd_Mo_lives ⟨Nat.le_of_ble_eq_true rfl, Nat.le_of_ble_eq_true rfl⟩) (kp_V (ci := 6) (q := (R_Mo, F_Mo, 15)) (q0 := 0) hK hP (hDt _) rfl rfl) rfl rfl hl.1 rfl (lv_room (Nat.le_of_ble_eq_true rfl)) d_Mo_recurring_15 ⟨Nat.zero_le _, Nat.zero_le _⟩) hS hA hP (fun H locs hP hS => ?_)
    refine lv_if_eq (tgt := 43) hx hb d_Mo_recurring_18 (by decide) (fun c19 => ?_) (fun c19 => ?_)
    · have hk := br_p c19 hk
      refine lv_iconst (v := 0) hx hb d_Mo_recurring_43 (by decide) ?_
      exact kr_M (w := wl_Mo a k) hx hb hr rfl hlocks hS hP hk d_Mo_recurring_44
    · have hk := br_n c19 hk
      refine lv_iload_n hx hb d_Mo_recurring_21 rfl (lv_at hl 2 rfl) ?_
      refine lv_iconst (v := 1) hx hb d_Mo_recurring_22 (by decide) ?_
      refine lv_icmp_lt (tgt := 43) hx hb d_Mo_recurring_23 (by decide) (fun c20 => ?_) (fun c20 => ?_)
      · have hk := br_p c20 hk
        refine lv_iconst (v := 0) hx hb d_Mo_recurring_43 (by decide) ?_
        exact kr_M (w := wl_Mo a k) hx hb hr rfl hlocks hS hP hk d_Mo_recurring_44
      · have hk := br_n c20 hk
        refine lv_iload_n hx hb d_Mo_recurring_26 rfl (lv_at hl 2 rfl) ?_
        refine lv_bipush (v := 60) hx hb d_Mo_recurring_27 (by decide) ?_
        refine lv_icmp_gt (tgt := 43) hx hb d_Mo_recurring_29 (by decide) (fun c21 => ?_) (fun c21 => ?_)
        · have hk := br_p c21 hk
          refine lv_iconst (v := 0) hx hb d_Mo_recurring_43 (by decide) ?_
          exact kr_M (w := wl_Mo a k) hx hb hr rfl hlocks hS hP hk d_Mo_recurring_44
        · have hk := br_n c21 hk
          refine lv_iload_n hx hb d_Mo_recurring_32 rfl (lv_at hl 3 rfl) ?_
          refine lv_iconst (v := 1) hx hb d_Mo_recurring_33 (by decide) ?_
          refine lv_icmp_lt (tgt := 43) hx hb d_Mo_recurring_34 (by decide) (fun c22 => ?_) (fun c22 => ?_)
          · have hk := br_p c22 hk
            refine lv_iconst (v := 0) hx hb d_Mo_recurring_43 (by decide) ?_
            exact kr_M (w := wl_Mo a k) hx hb hr rfl hlocks hS hP hk d_Mo_recurring_44
          · have hk := br_n c22 hk
            refine lv_iload_n hx hb d_Mo_recurring_37 rfl (lv_at hl 3 rfl) ?_
            refine lv_bipush (v := 20) hx hb d_Mo_recurring_38 (by decide) ?_
            refine lv_icmp_le (tgt := 45) hx hb d_Mo_recurring_40 (by decide) (fun c23 => ?_) (fun c23 => ?_)
            · have hk := br_p c23 hk
              refine lv_bipush (v := 6) hx hb d_Mo_recurring_45 (by decide) ?_
              refine lv_iload_n hx hb d_Mo_recurring_47 rfl (lv_at hl 1 rfl) ?_
              refine lv_imul hx hb d_Mo_recurring_48 ?_
              refine lv_istore (lv' := [(4, .int (6 * p1)), (0, .ref (a 0)), (1, .int p1), (2, .int p2), (3, .int p3)]) hx hb d_Mo_recurring_49 hl (by decide) rfl (fun ls hl => ?_)
              refine lv_iconst (v := 0) hx hb d_Mo_recurring_51 (by decide) ?_
              refine lv_istore (lv' := [(5, .int 0), (4, .int (6 * p1)), (0, .ref (a 0)), (1, .int p1), (2, .int p2), (3, .int p3)]) hx hb d_Mo_recurring_52 hl (by decide) rfl (fun ls hl => ?_)
              refine lv_iconst (v := 1) hx hb d_Mo_recurring_54 (by decide) ?_
              refine lv_istore (lv' := [(6, .int 1), (5, .int 0), (4, .int (6 * p1)), (0, .ref (a 0)), (1, .int p1), (2, .int p2), (3, .int p3)]) hx hb d_Mo_recurring_55 hl (by decide) rfl (fun ls hl => ?_)
              refine lv_iconst (v := 1) hx hb d_Mo_recurring_57 (by decide) ?_
              refine lv_istore (lv' := [(7, .int 1), (6, .int 1), (5, .int 0), (4, .int (6 * p1)), (0, .ref (a 0)), (1, .int p1), (2, .int p2), (3, .int p3)]) hx hb d_Mo_recurring_58 hl (by decide) rfl (fun ls hl => ?_)
              exact L60 FU (6 * p1) 0 1 1 (0, σ.2.1, σ.2.2.1, σ.2.2.2.1, σ.2.2.2.2.1, σ.2.2.2.2.2.1, σ.2.2.2.2.2.2.1, σ.2.2.2.2.2.2.2.1, σ.2.2.2.2.2.2.2.2.1, σ.2.2.2.2.2.2.2.2.2.1, σ.2.2.2.2.2.2.2.2.2.2.1, σ.2.2.2.2.2.2.2.2.2.2.2.1, σ.2.2.2.2.2.2.2.2.2.2.2.2.1, σ.2.2.2.2.2.2.2.2.2.2.2.2.2.1, σ.2.2.2.2.2.2.2.2.2.2.2.2.2.2) _ _ _ hP hS (lv_sub hl [4, 6, 7, 3, 2, 1, 0] rfl) hk
            · have hk := br_n c23 hk
              refine lv_iconst (v := 0) hx hb d_Mo_recurring_43 (by decide) ?_
              exact kr_M (w := wl_Mo a k) hx hb hr rfl hlocks hS hP hk d_Mo_recurring_44
set_option maxHeartbeats 4000000 in
set_option maxRecDepth 100000 in
theorem c_Mo_wish (l : Launch) (D : va_G) (a : Nat → Nat) (k : Nat → ClassId) (sz : Nat) (σ : S_Mo) (p1 p2 p3 p4 p5 : Int32) (r0 : Int32 × S_Mo) (hk : kf_Mo_wish σ p1 p2 p3 p4 p5 = some r0) : Met l y_Mo_wish w_Mo_wish ({ frames := 3, cells := 0, slots := 0, locals := 78 }) (kp_P D cls (ty_Mo k) (wl_Mo a k σ) [.ref (a 0), .int p1, .int p2, .int p3, .int p4, .int p5] sz) (kp_M D cls (wl_Mo a k r0.2) (wl_Mo a k σ) sz r0.1) 0 0 (va_A (wl_Mo a k σ) sz) := by
  refine Met.ofW (cc := b_Mo_wish) (maxL := 7) (ret := (some .int)) (by decide) rfl ?_
  intro p e s m args below meth c s₁ B hml hv
  obtain ⟨rfl, hsz, hP, hK, hD0⟩ := hv
  have hx := B.exec
  have hb := B.bytes
  have hr := B.returns
  have hts : ∀ w ∈ lw_g, w.before _ s = true := fun w h => atoms_spec (ws := w_Mo_wish) B.pre w (List.mem_cons_of_mem _ h)
  have hown : s.vm.findClass R_Mo = some m.cls := findClass_of_methodNamed B.named
  have hlocks := B.notSynchronized
  subst hsz
  have hA : ∀ q : Nat, s.heap.size ≤ q → (va_A (wl_Mo a k σ) s.heap.size) q := fun _ h => Or.inr h
  have hDt : ∀ τ, va_D (fun _ => True) (wl_Mo a k τ) := fun τ => kd_cg hD0 rfl
  have hDw : ∀ τ, va_D (va_A (wl_Mo a k σ) s.heap.size) (wl_Mo a k τ) := fun τ => kd_cg hD0.self rfl
  have hK0 : va_K D cls [] s := hK.sub [] rfl
  have hS : va_S (va_A (wl_Mo a k σ) s.heap.size) s.heap s.heap [] := va_S.rf
  have hl := lv_entry ([.ref (a 0), .int p1, .int p2, .int p3, .int p4, .int p5]) (n := 7) (Nat.le_of_ble_eq_true rfl)
  rw [lg_entry_eq]
  generalize (lg_sl ([.ref (a 0), .int p1, .int p2, .int p3, .int p4, .int p5]) ++ List.replicate (7 - (lg_sl ([.ref (a 0), .int p1, .int p2, .int p3, .int p4, .int p5])).length) Slot.unset).toArray = ls at hl ⊢
  have hl : lv_has ls 7 [(0, .ref (a 0)), (1, .int p1), (2, .int p2), (3, .int p3), (4, .int p4), (5, .int p5)] := hl
  unfold kf_Mo_wish at hk
  refine lv_aload_n hx hb d_Mo_wish_0 rfl (lv_at hl 0 rfl) ?_
  refine lv_iconst (v := 0) hx hb d_Mo_wish_1 (by decide) ?_
  refine va_put (D := D) (ci := 6) (v := .int 0) (ty := .int) (C := R_Mo) (T := F_Mo) (N := 15) hx hb hts i_uMo t_Mo t_Mo_ok n_Mo hown hK hP (hDw _) hS 0 rfl rfl 0 (by decide) (hts _ mw_498) (fun _ h9 => h9) rfl (t_Mo_ok 0 (by decide)) rfl rfl (Nat.le_of_ble_eq_true rfl) d_Mo_wish_2 (fun H locs hP _ hS => ?_)
  have hP : va_P D cls (wl_Mo a k (0, σ.2.1, σ.2.2.1, σ.2.2.2.1, σ.2.2.2.2.1, σ.2.2.2.2.2.1, σ.2.2.2.2.2.2.1, σ.2.2.2.2.2.2.2.1, σ.2.2.2.2.2.2.2.2.1, σ.2.2.2.2.2.2.2.2.2.1, σ.2.2.2.2.2.2.2.2.2.2.1, σ.2.2.2.2.2.2.2.2.2.2.2.1, σ.2.2.2.2.2.2.2.2.2.2.2.2.1, σ.2.2.2.2.2.2.2.2.2.2.2.2.2.1, σ.2.2.2.2.2.2.2.2.2.2.2.2.2.2)) H := hP
  refine lv_iload_n hx hb d_Mo_wish_5 rfl (lv_at hl 1 rfl) ?_
  obtain ⟨q1, e1, hk⟩ := ob_s hk
  refine kc_R (va_runS (As := [.int p1]) (rest := []) ⟨hx, hb, hml, hown, hts⟩ (c_Mo_isPerson l D _ p1 q1 e1) (cwS 1 hts (gS mw_565 mw_566 mw_33 mw_567) rfl rfl rfl hd_Mo_isPerson ⟨Nat.le_of_ble_eq_true rfl, Nat.le_of_ble_eq_true rfl⟩) (kp_S hK0) rfl rfl hl.1 rfl (lv_room (Nat.le_of_ble_eq_true rfl)) d_Mo_wish_6 ⟨Nat.zero_le _, Nat.zero_le _⟩) hS hA hP (fun H locs hP hS => ?_)
  refine lv_if_eq (tgt := 29) hx hb d_Mo_wish_9 (by decide) (fun c2 => ?_) (fun c2 => ?_)
  · have hk := br_p c2 hk
    refine lv_iconst (v := 0) hx hb d_Mo_wish_29 (by decide) ?_
    exact kr_M (w := wl_Mo a k) hx hb hr rfl hlocks hS hP hk d_Mo_wish_30
  · have hk := br_n c2 hk
    refine lv_aload_n hx hb d_Mo_wish_12 rfl (lv_at hl 0 rfl) ?_
    refine lv_iload_n hx hb d_Mo_wish_13 rfl (lv_at hl 2 rfl) ?_
    obtain ⟨q3, e3, hk⟩ := ob_s hk
    refine kc_R (va_runV (As := [.int p2]) (rest := []) ⟨hx, hb, hml, hown, hts⟩ (c_Mo_isThing l D a k _ (0, σ.2.1, σ.2.2.1, σ.2.2.2.1, σ.2.2.2.2.1, σ.2.2.2.2.2.1, σ.2.2.2.2.2.2.1, σ.2.2.2.2.2.2.2.1, σ.2.2.2.2.2.2.2.2.1, σ.2.2.2.2.2.2.2.2.2.1, σ.2.2.2.2.2.2.2.2.2.2.1, σ.2.2.2.2.2.2.2.2.2.2.2.1, σ.2.2.2.2.2.2.2.2.2.2.2.2.1, σ.2.2.2.2.2.2.2.2.2.2.2.2.2.1, σ.2.2.2.2.2.2.2.2.2.2.2.2.2.2) p2 q3 e3) (cwV 1 hts (gV mw_568 mw_570 mw_10 mw_33 mw_571) rfl rfl rfl hd_Mo_isThing ⟨Nat.le_of_ble_eq_true rfl, Nat.le_of_ble_eq_true rfl⟩) (kp_V (ci := 6) (q := (R_Mo, F_Mo, 15)) (q0 := 0) hK hP (hDt _) rfl rfl) rfl rfl hl.1 rfl (lv_room (Nat.le_of_ble_eq_true rfl)) d_Mo_wish_14 ⟨Nat.zero_le _, Nat.zero_le _⟩) hS hA hP (fun H locs hP hS => ?_)
    refine lv_if_eq (tgt := 29) hx hb d_Mo_wish_17 (by decide) (fun c4 => ?_) (fun c4 => ?_)
    · have hk := br_p c4 hk
      refine lv_iconst (v := 0) hx hb d_Mo_wish_29 (by decide) ?_
      exact kr_M (w := wl_Mo a k) hx hb hr rfl hlocks hS hP hk d_Mo_wish_30
    · have hk := br_n c4 hk
      refine lv_aload_n hx hb d_Mo_wish_20 rfl (lv_at hl 0 rfl) ?_
      refine va_get (D := D) (ci := 6) (v := .int σ.2.2.2.2.2.2.2.2.2.2.1) (C := R_Mo) (T := F_Mo) (N := 15) hx hb hts i_uMo hown hK hP 0 rfl rfl 10 (by decide) (hts _ mw_508) (fun _ h9 => h9) rfl d_Mo_wish_21 ?_
      refine lv_bipush (v := 60) hx hb d_Mo_wish_24 (by decide) ?_
      refine lv_icmp_ne (tgt := 31) hx hb d_Mo_wish_26 (by decide) (fun c5 => ?_) (fun c5 => ?_)
      · have hk := br_n c5 hk
        refine lv_aload_n hx hb d_Mo_wish_31 rfl (lv_at hl 0 rfl) ?_
        refine lv_iload_n hx hb d_Mo_wish_32 rfl (lv_at hl 1 rfl) ?_
        refine lv_iload_n hx hb d_Mo_wish_33 rfl (lv_at hl 2 rfl) ?_
        refine lv_iload_n hx hb d_Mo_wish_34 rfl (lv_at hl 3 rfl) ?_
        refine lv_iload hx hb d_Mo_wish_35 (lv_at hl 4 rfl) ?_
        refine lv_iconst (v := 0) hx hb d_Mo_wish_37 (by decide) ?_
        obtain ⟨q6, e6, hk⟩ := ob_s hk
        refine kc_R (va_runV (As := [.int p1, .int p2, .int p3, .int p4, .int 0]) (rest := []) ⟨hx, hb, hml, hown, hts⟩ (c_Mo_against l D a k _ (0, σ.2.1, σ.2.2.1, σ.2.2.2.1, σ.2.2.2.2.1, σ.2.2.2.2.2.1, σ.2.2.2.2.2.2.1, σ.2.2.2.2.2.2.2.1, σ.2.2.2.2.2.2.2.2.1, σ.2.2.2.2.2.2.2.2.2.1, σ.2.2.2.2.2.2.2.2.2.2.1, σ.2.2.2.2.2.2.2.2.2.2.2.1, σ.2.2.2.2.2.2.2.2.2.2.2.2.1, σ.2.2.2.2.2.2.2.2.2.2.2.2.2.1, σ.2.2.2.2.2.2.2.2.2.2.2.2.2.2) p1 p2 p3 p4 0 q6 e6) (cwV 5 hts (gV mw_572 mw_574 mw_11 mw_33 mw_575) rfl rfl rfl hd_Mo_against ⟨Nat.le_of_ble_eq_true rfl, Nat.le_of_ble_eq_true rfl⟩) (kp_V (ci := 6) (q := (R_Mo, F_Mo, 15)) (q0 := 0) hK hP (hDt _) rfl rfl) rfl rfl hl.1 rfl (lv_room (Nat.le_of_ble_eq_true rfl)) d_Mo_wish_38 ⟨Nat.zero_le _, Nat.zero_le _⟩) hS hA hP (fun H locs hP hS => ?_)
        refine lv_bipush (v := -6) hx hb d_Mo_wish_41 (by decide) ?_
        refine lv_icmp_eq (tgt := 48) hx hb d_Mo_wish_43 (by decide) (fun c7 => ?_) (fun c7 => ?_)
        · have hk := br_p c7 hk
          refine lv_iconst (v := 5) hx hb d_Mo_wish_48 (by decide) ?_
          refine lv_aload_n hx hb d_Mo_wish_49 rfl (lv_at hl 0 rfl) ?_
          refine va_get (D := D) (ci := 6) (v := .int σ.2.2.2.2.2.2.2.2.2.2.1) (C := R_Mo) (T := F_Mo) (N := 15) hx hb hts i_uMo hown hK hP 0 rfl rfl 10 (by decide) (hts _ mw_508) (fun _ h9 => h9) rfl d_Mo_wish_50 ?_
          refine lv_imul hx hb d_Mo_wish_53 ?_
          refine lv_istore (lv' := [(6, .int (5 * σ.2.2.2.2.2.2.2.2.2.2.1)), (0, .ref (a 0)), (1, .int p1), (2, .int p2), (3, .int p3), (4, .int p4), (5, .int p5)]) hx hb d_Mo_wish_54 hl (by decide) rfl (fun ls hl => ?_)
          refine lv_aload_n hx hb d_Mo_wish_56 rfl (lv_at hl 1 rfl) ?_
          refine va_get (D := D) (ci := 6) (v := .ref (a 5)) (C := R_Mo) (T := F_Mo) (N := 15) hx hb hts i_uMo hown hK hP 0 rfl rfl 9 (by decide) (hts _ mw_507) (fun _ h9 => h9) rfl d_Mo_wish_57 ?_
          refine lv_iload hx hb d_Mo_wish_60 (lv_at hl 0 rfl) ?_
          refine lv_iload_n hx hb d_Mo_wish_62 rfl (lv_at hl 2 rfl) ?_
          obtain ⟨h8, hk⟩ := gd_in hk
          refine va_iast hx hb hK hP (hDw _) hS 5 4 rfl rfl h8 d_Mo_wish_63 (fun H locs hP _ hS => ?_)
          have hP : va_P D cls (wl_Mo a k (0, σ.2.1, σ.2.2.1, σ.2.2.2.1, σ.2.2.2.2.1, σ.2.2.2.2.2.1, σ.2.2.2.2.2.2.1, σ.2.2.2.2.2.2.2.1, σ.2.2.2.2.2.2.2.2.1, (upd σ.2.2.2.2.2.2.2.2.2.1 (5 * σ.2.2.2.2.2.2.2.2.2.2.1).toNatClampNeg p1), σ.2.2.2.2.2.2.2.2.2.2.1, σ.2.2.2.2.2.2.2.2.2.2.2.1, σ.2.2.2.2.2.2.2.2.2.2.2.2.1, σ.2.2.2.2.2.2.2.2.2.2.2.2.2.1, σ.2.2.2.2.2.2.2.2.2.2.2.2.2.2)) H := hP
          refine lv_aload_n hx hb d_Mo_wish_64 rfl (lv_at hl 1 rfl) ?_
          refine va_get (D := D) (ci := 6) (v := .ref (a 5)) (C := R_Mo) (T := F_Mo) (N := 15) hx hb hts i_uMo hown hK hP 0 rfl rfl 9 (by decide) (hts _ mw_507) (fun _ h9 => h9) rfl d_Mo_wish_65 ?_
          refine lv_iload hx hb d_Mo_wish_68 (lv_at hl 0 rfl) ?_
          refine lv_iconst (v := 1) hx hb d_Mo_wish_70 (by decide) ?_
          refine lv_iadd hx hb d_Mo_wish_71 ?_
          refine lv_iload_n hx hb d_Mo_wish_72 rfl (lv_at hl 3 rfl) ?_
          obtain ⟨h9, hk⟩ := gd_in hk
          refine va_iast hx hb hK hP (hDw _) hS 5 4 rfl rfl h9 d_Mo_wish_73 (fun H locs hP _ hS => ?_)
          have hP : va_P D cls (wl_Mo a k (0, σ.2.1, σ.2.2.1, σ.2.2.2.1, σ.2.2.2.2.1, σ.2.2.2.2.2.1, σ.2.2.2.2.2.2.1, σ.2.2.2.2.2.2.2.1, σ.2.2.2.2.2.2.2.2.1, (upd (upd σ.2.2.2.2.2.2.2.2.2.1 (5 * σ.2.2.2.2.2.2.2.2.2.2.1).toNatClampNeg p1) ((5 * σ.2.2.2.2.2.2.2.2.2.2.1) + 1).toNatClampNeg p2), σ.2.2.2.2.2.2.2.2.2.2.1, σ.2.2.2.2.2.2.2.2.2.2.2.1, σ.2.2.2.2.2.2.2.2.2.2.2.2.1, σ.2.2.2.2.2.2.2.2.2.2.2.2.2.1, σ.2.2.2.2.2.2.2.2.2.2.2.2.2.2)) H := hP
          refine lv_aload_n hx hb d_Mo_wish_74 rfl (lv_at hl 1 rfl) ?_
          refine va_get (D := D) (ci := 6) (v := .ref (a 5)) (C := R_Mo) (T := F_Mo) (N := 15) hx hb hts i_uMo hown hK hP 0 rfl rfl 9 (by decide) (hts _ mw_507) (fun _ h9 => h9) rfl d_Mo_wish_75 ?_
          refine lv_iload hx hb d_Mo_wish_78 (lv_at hl 0 rfl) ?_
          refine lv_iconst (v := 2) hx hb d_Mo_wish_80 (by decide) ?_
          refine lv_iadd hx hb d_Mo_wish_81 ?_
          refine lv_iload_n hx hb d_Mo_wish_82 rfl (lv_at hl 4 rfl) ?_
          obtain ⟨h10, hk⟩ := gd_in hk
          refine va_iast hx hb hK hP (hDw _) hS 5 4 rfl rfl h10 d_Mo_wish_83 (fun H locs hP _ hS => ?_)
          have hP : va_P D cls (wl_Mo a k (0, σ.2.1, σ.2.2.1, σ.2.2.2.1, σ.2.2.2.2.1, σ.2.2.2.2.2.1, σ.2.2.2.2.2.2.1, σ.2.2.2.2.2.2.2.1, σ.2.2.2.2.2.2.2.2.1, (upd (upd (upd σ.2.2.2.2.2.2.2.2.2.1 (5 * σ.2.2.2.2.2.2.2.2.2.2.1).toNatClampNeg p1) ((5 * σ.2.2.2.2.2.2.2.2.2.2.1) + 1).toNatClampNeg p2) ((5 * σ.2.2.2.2.2.2.2.2.2.2.1) + 2).toNatClampNeg p3), σ.2.2.2.2.2.2.2.2.2.2.1, σ.2.2.2.2.2.2.2.2.2.2.2.1, σ.2.2.2.2.2.2.2.2.2.2.2.2.1, σ.2.2.2.2.2.2.2.2.2.2.2.2.2.1, σ.2.2.2.2.2.2.2.2.2.2.2.2.2.2)) H := hP
          refine lv_aload_n hx hb d_Mo_wish_84 rfl (lv_at hl 1 rfl) ?_
          refine va_get (D := D) (ci := 6) (v := .ref (a 5)) (C := R_Mo) (T := F_Mo) (N := 15) hx hb hts i_uMo hown hK hP 0 rfl rfl 9 (by decide) (hts _ mw_507) (fun _ h9 => h9) rfl d_Mo_wish_85 ?_
          refine lv_iload hx hb d_Mo_wish_88 (lv_at hl 0 rfl) ?_
          refine lv_iconst (v := 3) hx hb d_Mo_wish_90 (by decide) ?_
          refine lv_iadd hx hb d_Mo_wish_91 ?_
          refine lv_iload hx hb d_Mo_wish_92 (lv_at hl 5 rfl) ?_
          obtain ⟨h11, hk⟩ := gd_in hk
          refine va_iast hx hb hK hP (hDw _) hS 5 4 rfl rfl h11 d_Mo_wish_94 (fun H locs hP _ hS => ?_)
          have hP : va_P D cls (wl_Mo a k (0, σ.2.1, σ.2.2.1, σ.2.2.2.1, σ.2.2.2.2.1, σ.2.2.2.2.2.1, σ.2.2.2.2.2.2.1, σ.2.2.2.2.2.2.2.1, σ.2.2.2.2.2.2.2.2.1, (upd (upd (upd (upd σ.2.2.2.2.2.2.2.2.2.1 (5 * σ.2.2.2.2.2.2.2.2.2.2.1).toNatClampNeg p1) ((5 * σ.2.2.2.2.2.2.2.2.2.2.1) + 1).toNatClampNeg p2) ((5 * σ.2.2.2.2.2.2.2.2.2.2.1) + 2).toNatClampNeg p3) ((5 * σ.2.2.2.2.2.2.2.2.2.2.1) + 3).toNatClampNeg p4), σ.2.2.2.2.2.2.2.2.2.2.1, σ.2.2.2.2.2.2.2.2.2.2.2.1, σ.2.2.2.2.2.2.2.2.2.2.2.2.1, σ.2.2.2.2.2.2.2.2.2.2.2.2.2.1, σ.2.2.2.2.2.2.2.2.2.2.2.2.2.2)) H := hP
          refine lv_aload_n hx hb d_Mo_wish_95 rfl (lv_at hl 1 rfl) ?_
          refine va_get (D := D) (ci := 6) (v := .ref (a 5)) (C := R_Mo) (T := F_Mo) (N := 15) hx hb hts i_uMo hown hK hP 0 rfl rfl 9 (by decide) (hts _ mw_507) (fun _ h9 => h9) rfl d_Mo_wish_96 ?_
          refine lv_iload hx hb d_Mo_wish_99 (lv_at hl 0 rfl) ?_
          refine lv_iconst (v := 4) hx hb d_Mo_wish_101 (by decide) ?_
          refine lv_iadd hx hb d_Mo_wish_102 ?_
          refine lv_iload hx hb d_Mo_wish_103 (lv_at hl 6 rfl) ?_
          obtain ⟨h12, hk⟩ := gd_in hk
          refine va_iast hx hb hK hP (hDw _) hS 5 4 rfl rfl h12 d_Mo_wish_105 (fun H locs hP _ hS => ?_)
          have hP : va_P D cls (wl_Mo a k (0, σ.2.1, σ.2.2.1, σ.2.2.2.1, σ.2.2.2.2.1, σ.2.2.2.2.2.1, σ.2.2.2.2.2.2.1, σ.2.2.2.2.2.2.2.1, σ.2.2.2.2.2.2.2.2.1, (upd (upd (upd (upd (upd σ.2.2.2.2.2.2.2.2.2.1 (5 * σ.2.2.2.2.2.2.2.2.2.2.1).toNatClampNeg p1) ((5 * σ.2.2.2.2.2.2.2.2.2.2.1) + 1).toNatClampNeg p2) ((5 * σ.2.2.2.2.2.2.2.2.2.2.1) + 2).toNatClampNeg p3) ((5 * σ.2.2.2.2.2.2.2.2.2.2.1) + 3).toNatClampNeg p4) ((5 * σ.2.2.2.2.2.2.2.2.2.2.1) + 4).toNatClampNeg p5), σ.2.2.2.2.2.2.2.2.2.2.1, σ.2.2.2.2.2.2.2.2.2.2.2.1, σ.2.2.2.2.2.2.2.2.2.2.2.2.1, σ.2.2.2.2.2.2.2.2.2.2.2.2.2.1, σ.2.2.2.2.2.2.2.2.2.2.2.2.2.2)) H := hP
          refine lv_aload_n hx hb d_Mo_wish_106 rfl (lv_at hl 1 rfl) ?_
          refine lv_dup hx hb d_Mo_wish_107 rfl ?_
          refine va_get (D := D) (ci := 6) (v := .int σ.2.2.2.2.2.2.2.2.2.2.1) (C := R_Mo) (T := F_Mo) (N := 15) hx hb hts i_uMo hown hK hP 0 rfl rfl 10 (by decide) (hts _ mw_508) (fun _ h9 => h9) rfl d_Mo_wish_108 ?_
          refine lv_iconst (v := 1) hx hb d_Mo_wish_111 (by decide) ?_
          refine lv_iadd hx hb d_Mo_wish_112 ?_
          refine va_put (D := D) (ci := 6) (v := .int (σ.2.2.2.2.2.2.2.2.2.2.1 + 1)) (ty := .int) (C := R_Mo) (T := F_Mo) (N := 15) hx hb hts i_uMo t_Mo t_Mo_ok n_Mo hown hK hP (hDw _) hS 0 rfl rfl 10 (by decide) (hts _ mw_508) (fun _ h9 => h9) rfl (t_Mo_ok 10 (by decide)) rfl rfl (Nat.le_of_ble_eq_true rfl) d_Mo_wish_113 (fun H locs hP _ hS => ?_)
          have hP : va_P D cls (wl_Mo a k (0, σ.2.1, σ.2.2.1, σ.2.2.2.1, σ.2.2.2.2.1, σ.2.2.2.2.2.1, σ.2.2.2.2.2.2.1, σ.2.2.2.2.2.2.2.1, σ.2.2.2.2.2.2.2.2.1, (upd (upd (upd (upd (upd σ.2.2.2.2.2.2.2.2.2.1 (5 * σ.2.2.2.2.2.2.2.2.2.2.1).toNatClampNeg p1) ((5 * σ.2.2.2.2.2.2.2.2.2.2.1) + 1).toNatClampNeg p2) ((5 * σ.2.2.2.2.2.2.2.2.2.2.1) + 2).toNatClampNeg p3) ((5 * σ.2.2.2.2.2.2.2.2.2.2.1) + 3).toNatClampNeg p4) ((5 * σ.2.2.2.2.2.2.2.2.2.2.1) + 4).toNatClampNeg p5), (σ.2.2.2.2.2.2.2.2.2.2.1 + 1), σ.2.2.2.2.2.2.2.2.2.2.2.1, σ.2.2.2.2.2.2.2.2.2.2.2.2.1, σ.2.2.2.2.2.2.2.2.2.2.2.2.2.1, σ.2.2.2.2.2.2.2.2.2.2.2.2.2.2)) H := hP
          refine lv_aload_n hx hb d_Mo_wish_116 rfl (lv_at hl 1 rfl) ?_
          refine va_get (D := D) (ci := 6) (v := .int (σ.2.2.2.2.2.2.2.2.2.2.1 + 1)) (C := R_Mo) (T := F_Mo) (N := 15) hx hb hts i_uMo hown hK hP 0 rfl rfl 10 (by decide) (hts _ mw_508) (fun _ h9 => h9) rfl d_Mo_wish_117 ?_
          exact kr_M (w := wl_Mo a k) hx hb hr rfl hlocks hS hP hk d_Mo_wish_120
        · have hk := br_n c7 hk
          refine lv_iconst (v := -1) hx hb d_Mo_wish_46 (by decide) ?_
          exact kr_M (w := wl_Mo a k) hx hb hr rfl hlocks hS hP hk d_Mo_wish_47
      · have hk := br_p c5 hk
        refine lv_iconst (v := 0) hx hb d_Mo_wish_29 (by decide) ?_
        exact kr_M (w := wl_Mo a k) hx hb hr rfl hlocks hS hP hk d_Mo_wish_30
