set_option maxHeartbeats 4000000 in
set_option maxRecDepth 100000 in
theorem c_Bk_livingOf (l : Launch) (D : va_G) (a : Nat → Nat) (k : Nat → ClassId) (sz : Nat) (σ : S_Bk) (p1 : Int32) (r0 : Int32) (hk : kf_Bk_livingOf σ p1 = some r0) : Met l y_Bk_livingOf w_Bk_livingOf ({ frames := 1, cells := 0, slots := 0, locals := 21 }) (kp_P D cls (ty_Bk k) (wl_Bk a k σ) [.ref (a 0), .int p1] sz) (kp_R sz r0) 0 0 (va_A [] sz) := by
  refine Met.ofW (cc := b_Bk_livingOf) (maxL := 4) (ret := (some .int)) (by decide) rfl ?_
  intro p e s m args below meth c s₁ B hml hv
  obtain ⟨rfl, hsz, hP, hK, hD0⟩ := hv
  have hx := B.exec
  have hb := B.bytes
  have hr := B.returns
  have hts : ∀ w ∈ lw_g, w.before _ s = true := fun w h => atoms_spec (ws := w_Bk_livingOf) B.pre w (List.mem_cons_of_mem _ h)
  have hown : s.vm.findClass R_Bk = some m.cls := findClass_of_methodNamed B.named
  have hlocks := B.notSynchronized
  subst hsz
  have hA : ∀ q : Nat, s.heap.size ≤ q → (va_A ([]) s.heap.size) q := fun _ h => Or.inr h
  have hDt : ∀ τ, va_D (fun _ => True) (wl_Bk a k τ) := fun τ => kd_cg hD0 rfl
  have hS : va_S (va_A ([]) s.heap.size) s.heap s.heap [] := va_S.rf
  have hl := lv_entry ([.ref (a 0), .int p1]) (n := 4) (Nat.le_of_ble_eq_true rfl)
  rw [lg_entry_eq]
  generalize (lg_sl ([.ref (a 0), .int p1]) ++ List.replicate (4 - (lg_sl ([.ref (a 0), .int p1])).length) Slot.unset).toArray = ls at hl ⊢
  have hl : lv_has ls 4 [(0, .ref (a 0)), (1, .int p1)] := hl
  unfold kf_Bk_livingOf at hk
  have L4 : ∀ (n4 : Nat) (x2 : Int32) (x3 : Int32) (H : Heap) (locs : List Loc) (ls : Array Slot), va_P D cls (wl_Bk a k σ) H → va_S (va_A ([]) s.heap.size) s.heap H locs → lv_has ls 4 [(0, .ref (a 0)), (1, .int p1), (2, .int x2), (3, .int x3)] → kf_Bk_livingOf_4 σ p1 n4 x2 x3 = some r0 → W p l e (headSpec w_Bk_livingOf ({ frames := 1, cells := 0, slots := 0, locals := 21 })).room s m [.ref (a 0), .int p1].toArray below meth c H locs 0 0 (MQ below (kp_R s.heap.size r0) [.ref (a 0), .int p1].toArray s 0 0 (va_A [] s.heap.size)) (F0 m 4 ls []) := by
    intro n4
    induction n4 with
    | zero =>
      intro x2 x3 H locs ls hP hS hl hk
      exact nomatch hk
    | succ n4 ih4 =>
      intro x2 x3 H locs ls hP hS hl hk
      rw [kf_Bk_livingOf_4_s] at hk
      refine lv_iload_n hx hb d_Bk_livingOf_4 rfl (lv_at hl 3 rfl) ?_
      refine lv_aload_n hx hb d_Bk_livingOf_5 rfl (lv_at hl 0 rfl) ?_
      refine va_get (D := D) (ci := 0) (v := .int σ.2.2.2.2.2.2.1) (C := R_Bk) (T := F_Bk) (N := 9) hx hb hts i_uBk hown hK hP 0 rfl rfl 6 (by decide) (hts _ mw_100) (fun _ h9 => h9) rfl d_Bk_livingOf_6 ?_
      refine lv_icmp_gt (tgt := 39) hx hb d_Bk_livingOf_9 (by decide) (fun c1 => ?_) (fun c1 => ?_)
      · have hk := br_p c1 hk
        refine lv_iload_n hx hb d_Bk_livingOf_39 rfl (lv_at hl 2 rfl) ?_
        exact kr_R hx hb hr rfl hlocks hS hk d_Bk_livingOf_40
      · have hk := br_n c1 hk
        refine lv_aload_n hx hb d_Bk_livingOf_12 rfl (lv_at hl 0 rfl) ?_
        refine va_get (D := D) (ci := 0) (v := .ref (a 1)) (C := R_Bk) (T := F_Bk) (N := 9) hx hb hts i_uBk hown hK hP 0 rfl rfl 0 (by decide) (hts _ mw_94) (fun _ h9 => h9) rfl d_Bk_livingOf_13 ?_
        refine lv_iload_n hx hb d_Bk_livingOf_16 rfl (lv_at hl 3 rfl) ?_
        obtain ⟨h2, hk⟩ := gd_in hk
        refine va_iald hx hb hK hP 1 0 rfl rfl h2 d_Bk_livingOf_17 ?_
        refine lv_iload_n hx hb d_Bk_livingOf_18 rfl (lv_at hl 1 rfl) ?_
        refine lv_icmp_ne (tgt := 33) hx hb d_Bk_livingOf_19 (by decide) (fun c3 => ?_) (fun c3 => ?_)
        · have hk := br_n c3 hk
          refine lv_iinc (v := (x3 + 1)) (lv' := [(3, .int (x3 + 1)), (0, .ref (a 0)), (1, .int p1), (2, .int x2)]) hx hb d_Bk_livingOf_33 hl (k := 3) rfl rfl (by decide) rfl (fun ls hl => ?_)
          refine lv_goto (tgt := 4) hx hb d_Bk_livingOf_36 (by decide) ?_
          exact ih4 x2 (x3 + 1) _ _ _ hP hS (lv_sub hl [1, 2, 3, 0] rfl) hk
        · have hk := br_p c3 hk
          refine lv_aload_n hx hb d_Bk_livingOf_22 rfl (lv_at hl 0 rfl) ?_
          refine lv_iload_n hx hb d_Bk_livingOf_23 rfl (lv_at hl 3 rfl) ?_
          obtain ⟨q4, e4, hk⟩ := ob_s hk
          refine kc_R (va_runV (As := [.int x3]) (rest := []) ⟨hx, hb, hml, hown, hts⟩ (c_Bk_lives l D a k _ σ x3 q4 e4) (cwV 1 hts (gV mw_273 mw_274 mw_275 mw_30 mw_276) rfl rfl rfl hd_Bk_lives ⟨Nat.le_of_ble_eq_true rfl, Nat.le_of_ble_eq_true rfl⟩) (kp_V (ci := 0) (q := (R_Bk, F_Bk, 9)) (q0 := 0) hK hP (hDt _) rfl rfl) rfl rfl hl.1 rfl (lv_room (Nat.le_of_ble_eq_true rfl)) d_Bk_livingOf_24 ⟨Nat.zero_le _, Nat.zero_le _⟩) hS hA hP (fun H locs hP hS => ?_)
          refine lv_if_eq (tgt := 33) hx hb d_Bk_livingOf_27 (by decide) (fun c5 => ?_) (fun c5 => ?_)
          · have hk := br_p c5 hk
            refine lv_iinc (v := (x3 + 1)) (lv' := [(3, .int (x3 + 1)), (0, .ref (a 0)), (1, .int p1), (2, .int x2)]) hx hb d_Bk_livingOf_33 hl (k := 3) rfl rfl (by decide) rfl (fun ls hl => ?_)
            refine lv_goto (tgt := 4) hx hb d_Bk_livingOf_36 (by decide) ?_
            exact ih4 x2 (x3 + 1) _ _ _ hP hS (lv_sub hl [1, 2, 3, 0] rfl) hk
          · have hk := br_n c5 hk
            refine lv_iinc (v := (x2 + 1)) (lv' := [(2, .int (x2 + 1)), (0, .ref (a 0)), (1, .int p1), (3, .int x3)]) hx hb d_Bk_livingOf_30 hl (k := 2) rfl rfl (by decide) rfl (fun ls hl => ?_)
            refine lv_iinc (v := (x3 + 1)) (lv' := [(3, .int (x3 + 1)), (2, .int (x2 + 1)), (0, .ref (a 0)), (1, .int p1)]) hx hb d_Bk_livingOf_33 hl (k := 3) rfl rfl (by decide) rfl (fun ls hl => ?_)
            refine lv_goto (tgt := 4) hx hb d_Bk_livingOf_36 (by decide) ?_
            exact ih4 (x2 + 1) (x3 + 1) _ _ _ hP hS (lv_sub hl [2, 3, 1, 0] rfl) hk
  refine lv_iconst (v := 0) hx hb d_Bk_livingOf_0 (by decide) ?_
  refine lv_istore_n (lv' := [(2, .int 0), (0, .ref (a 0)), (1, .int p1)]) hx hb d_Bk_livingOf_1 rfl hl (by decide) rfl (fun ls hl => ?_)
  refine lv_iconst (v := 1) hx hb d_Bk_livingOf_2 (by decide) ?_
  refine lv_istore_n (lv' := [(3, .int 1), (2, .int 0), (0, .ref (a 0)), (1, .int p1)]) hx hb d_Bk_livingOf_3 rfl hl (by decide) rfl (fun ls hl => ?_)
  exact L4 FU 0 1 _ _ _ hP hS (lv_sub hl [2, 3, 1, 0] rfl) hk
set_option maxHeartbeats 4000000 in
set_option maxRecDepth 100000 in
theorem c_Bk_livingBefore (l : Launch) (D : va_G) (a : Nat → Nat) (k : Nat → ClassId) (sz : Nat) (σ : S_Bk) (p1 : Int32) (r0 : Int32) (hk : kf_Bk_livingBefore σ p1 = some r0) : Met l y_Bk_livingBefore w_Bk_livingBefore ({ frames := 1, cells := 0, slots := 0, locals := 21 }) (kp_P D cls (ty_Bk k) (wl_Bk a k σ) [.ref (a 0), .int p1] sz) (kp_R sz r0) 0 0 (va_A [] sz) := by
  refine Met.ofW (cc := b_Bk_livingBefore) (maxL := 5) (ret := (some .int)) (by decide) rfl ?_
  intro p e s m args below meth c s₁ B hml hv
  obtain ⟨rfl, hsz, hP, hK, hD0⟩ := hv
  have hx := B.exec
  have hb := B.bytes
  have hr := B.returns
  have hts : ∀ w ∈ lw_g, w.before _ s = true := fun w h => atoms_spec (ws := w_Bk_livingBefore) B.pre w (List.mem_cons_of_mem _ h)
  have hown : s.vm.findClass R_Bk = some m.cls := findClass_of_methodNamed B.named
  have hlocks := B.notSynchronized
  subst hsz
  have hA : ∀ q : Nat, s.heap.size ≤ q → (va_A ([]) s.heap.size) q := fun _ h => Or.inr h
  have hDt : ∀ τ, va_D (fun _ => True) (wl_Bk a k τ) := fun τ => kd_cg hD0 rfl
  have hS : va_S (va_A ([]) s.heap.size) s.heap s.heap [] := va_S.rf
  have hl := lv_entry ([.ref (a 0), .int p1]) (n := 5) (Nat.le_of_ble_eq_true rfl)
  rw [lg_entry_eq]
  generalize (lg_sl ([.ref (a 0), .int p1]) ++ List.replicate (5 - (lg_sl ([.ref (a 0), .int p1])).length) Slot.unset).toArray = ls at hl ⊢
  have hl : lv_has ls 5 [(0, .ref (a 0)), (1, .int p1)] := hl
  unfold kf_Bk_livingBefore at hk
  have L4 : ∀ (n4 : Nat) (x2 : Int32) (x3 : Int32) (H : Heap) (locs : List Loc) (ls : Array Slot), va_P D cls (wl_Bk a k σ) H → va_S (va_A ([]) s.heap.size) s.heap H locs → lv_has ls 5 [(0, .ref (a 0)), (1, .int p1), (2, .int x2), (3, .int x3)] → kf_Bk_livingBefore_4 σ p1 n4 x2 x3 = some r0 → W p l e (headSpec w_Bk_livingBefore ({ frames := 1, cells := 0, slots := 0, locals := 21 })).room s m [.ref (a 0), .int p1].toArray below meth c H locs 0 0 (MQ below (kp_R s.heap.size r0) [.ref (a 0), .int p1].toArray s 0 0 (va_A [] s.heap.size)) (F0 m 4 ls []) := by
    intro n4
    induction n4 with
    | zero =>
      intro x2 x3 H locs ls hP hS hl hk
      exact nomatch hk
    | succ n4 ih4 =>
      have J52 : ∀ (x2 : Int32) (x3 : Int32) (y0 : Int32) (H : Heap) (locs : List Loc) (ls : Array Slot), va_P D cls (wl_Bk a k σ) H → va_S (va_A ([]) s.heap.size) s.heap H locs → lv_has ls 5 [(0, .ref (a 0)), (1, .int p1), (2, .int x2), (3, .int x3)] → kf_Bk_livingBefore_52 σ p1 (kf_Bk_livingBefore_4 σ p1 n4) x2 x3 y0 = some r0 → W p l e (headSpec w_Bk_livingBefore ({ frames := 1, cells := 0, slots := 0, locals := 21 })).room s m [.ref (a 0), .int p1].toArray below meth c H locs 0 0 (MQ below (kp_R s.heap.size r0) [.ref (a 0), .int p1].toArray s 0 0 (va_A [] s.heap.size)) (F0 m 52 ls [.int y0]) := by
        intro x2 x3 y0 H locs ls hP hS hl hk
        unfold kf_Bk_livingBefore_52 at hk
        refine lv_istore (lv' := [(4, .int y0), (0, .ref (a 0)), (1, .int p1), (2, .int x2), (3, .int x3)]) hx hb d_Bk_livingBefore_52 hl (by decide) rfl (fun ls hl => ?_)
        refine lv_iload hx hb d_Bk_livingBefore_54 (lv_at hl 0 rfl) ?_
        refine lv_if_eq (tgt := 85) hx hb d_Bk_livingBefore_56 (by decide) (fun c1 => ?_) (fun c1 => ?_)
        · have hk := br_p c1 hk
          refine lv_iinc (v := (x3 + 1)) (lv' := [(3, .int (x3 + 1)), (4, .int y0), (0, .ref (a 0)), (1, .int p1), (2, .int x2)]) hx hb d_Bk_livingBefore_85 hl (k := 4) rfl rfl (by decide) rfl (fun ls hl => ?_)
          refine lv_goto (tgt := 4) hx hb d_Bk_livingBefore_88 (by decide) ?_
          exact ih4 x2 (x3 + 1) _ _ _ hP hS (lv_sub hl [2, 3, 4, 0] rfl) hk
        · have hk := br_n c1 hk
          refine lv_aload_n hx hb d_Bk_livingBefore_59 rfl (lv_at hl 1 rfl) ?_
          refine va_get (D := D) (ci := 0) (v := .ref (a 1)) (C := R_Bk) (T := F_Bk) (N := 9) hx hb hts i_uBk hown hK hP 0 rfl rfl 0 (by decide) (hts _ mw_94) (fun _ h9 => h9) rfl d_Bk_livingBefore_60 ?_
          refine lv_iload_n hx hb d_Bk_livingBefore_63 rfl (lv_at hl 4 rfl) ?_
          obtain ⟨h2, hk⟩ := gd_in hk
          refine va_iald hx hb hK hP 1 0 rfl rfl h2 d_Bk_livingBefore_64 ?_
          refine lv_aload_n hx hb d_Bk_livingBefore_65 rfl (lv_at hl 1 rfl) ?_
          refine va_get (D := D) (ci := 0) (v := .ref (a 1)) (C := R_Bk) (T := F_Bk) (N := 9) hx hb hts i_uBk hown hK hP 0 rfl rfl 0 (by decide) (hts _ mw_94) (fun _ h9 => h9) rfl d_Bk_livingBefore_66 ?_
          refine lv_iload_n hx hb d_Bk_livingBefore_69 rfl (lv_at hl 2 rfl) ?_
          obtain ⟨h3, hk⟩ := gd_in hk
          refine va_iald hx hb hK hP 1 0 rfl rfl h3 d_Bk_livingBefore_70 ?_
          refine lv_icmp_ne (tgt := 85) hx hb d_Bk_livingBefore_71 (by decide) (fun c4 => ?_) (fun c4 => ?_)
          · have hk := br_n c4 hk
            refine lv_iinc (v := (x3 + 1)) (lv' := [(3, .int (x3 + 1)), (4, .int y0), (0, .ref (a 0)), (1, .int p1), (2, .int x2)]) hx hb d_Bk_livingBefore_85 hl (k := 4) rfl rfl (by decide) rfl (fun ls hl => ?_)
            refine lv_goto (tgt := 4) hx hb d_Bk_livingBefore_88 (by decide) ?_
            exact ih4 x2 (x3 + 1) _ _ _ hP hS (lv_sub hl [2, 3, 4, 0] rfl) hk
          · have hk := br_p c4 hk
            refine lv_aload_n hx hb d_Bk_livingBefore_74 rfl (lv_at hl 1 rfl) ?_
            refine lv_iload_n hx hb d_Bk_livingBefore_75 rfl (lv_at hl 4 rfl) ?_
            obtain ⟨q5, e5, hk⟩ := ob_s hk
            refine kc_R (va_runV (As := [.int x3]) (rest := []) ⟨hx, hb, hml, hown, hts⟩ (c_Bk_lives l D a k _ σ x3 q5 e5) (cwV 1 hts (gV mw_273 mw_274 mw_275 mw_30 mw_276) rfl rfl rfl hd_Bk_lives ⟨Nat.le_of_ble_eq_true rfl, Nat.le_of_ble_eq_true rfl⟩) (kp_V (ci := 0) (q := (R_Bk, F_Bk, 9)) (q0 := 0) hK hP (hDt _) rfl rfl) rfl rfl hl.1 rfl (lv_room (Nat.le_of_ble_eq_true rfl)) d_Bk_livingBefore_76 ⟨Nat.zero_le _, Nat.zero_le _⟩) hS hA hP (fun H locs hP hS => ?_)
            refine lv_if_eq (tgt := 85) hx hb d_Bk_livingBefore_79 (by decide) (fun c6 => ?_) (fun c6 => ?_)
            · have hk := br_p c6 hk
              refine lv_iinc (v := (x3 + 1)) (lv' := [(3, .int (x3 + 1)), (4, .int y0), (0, .ref (a 0)), (1, .int p1), (2, .int x2)]) hx hb d_Bk_livingBefore_85 hl (k := 4) rfl rfl (by decide) rfl (fun ls hl => ?_)
              refine lv_goto (tgt := 4) hx hb d_Bk_livingBefore_88 (by decide) ?_
              exact ih4 x2 (x3 + 1) _ _ _ hP hS (lv_sub hl [2, 3, 4, 0] rfl) hk
            · have hk := br_n c6 hk
              refine lv_iinc (v := (x2 + 1)) (lv' := [(2, .int (x2 + 1)), (4, .int y0), (0, .ref (a 0)), (1, .int p1), (3, .int x3)]) hx hb d_Bk_livingBefore_82 hl (k := 3) rfl rfl (by decide) rfl (fun ls hl => ?_)
              refine lv_iinc (v := (x3 + 1)) (lv' := [(3, .int (x3 + 1)), (2, .int (x2 + 1)), (4, .int y0), (0, .ref (a 0)), (1, .int p1)]) hx hb d_Bk_livingBefore_85 hl (k := 4) rfl rfl (by decide) rfl (fun ls hl => ?_)
              refine lv_goto (tgt := 4) hx hb d_Bk_livingBefore_88 (by decide) ?_
              exact ih4 (x2 + 1) (x3 + 1) _ _ _ hP hS (lv_sub hl [3, 4, 1, 0] rfl) hk
      intro x2 x3 H locs ls hP hS hl hk
      rw [kf_Bk_livingBefore_4_s] at hk
      refine lv_iload_n hx hb d_Bk_livingBefore_4 rfl (lv_at hl 3 rfl) ?_
      refine lv_aload_n hx hb d_Bk_livingBefore_5 rfl (lv_at hl 0 rfl) ?_
      refine va_get (D := D) (ci := 0) (v := .int σ.2.2.2.2.2.2.1) (C := R_Bk) (T := F_Bk) (N := 9) hx hb hts i_uBk hown hK hP 0 rfl rfl 6 (by decide) (hts _ mw_100) (fun _ h9 => h9) rfl d_Bk_livingBefore_6 ?_
      refine lv_icmp_gt (tgt := 91) hx hb d_Bk_livingBefore_9 (by decide) (fun c7 => ?_) (fun c7 => ?_)
      · have hk := br_p c7 hk
        refine lv_iload_n hx hb d_Bk_livingBefore_91 rfl (lv_at hl 2 rfl) ?_
        exact kr_R hx hb hr rfl hlocks hS hk d_Bk_livingBefore_92
      · have hk := br_n c7 hk
        refine lv_aload_n hx hb d_Bk_livingBefore_12 rfl (lv_at hl 0 rfl) ?_
        refine va_get (D := D) (ci := 0) (v := .ref (a 3)) (C := R_Bk) (T := F_Bk) (N := 9) hx hb hts i_uBk hown hK hP 0 rfl rfl 2 (by decide) (hts _ mw_96) (fun _ h9 => h9) rfl d_Bk_livingBefore_13 ?_
        refine lv_iload_n hx hb d_Bk_livingBefore_16 rfl (lv_at hl 3 rfl) ?_
        obtain ⟨h8, hk⟩ := gd_in hk
        refine va_iald hx hb hK hP 3 2 rfl rfl h8 d_Bk_livingBefore_17 ?_
        refine lv_aload_n hx hb d_Bk_livingBefore_18 rfl (lv_at hl 0 rfl) ?_
        refine va_get (D := D) (ci := 0) (v := .ref (a 3)) (C := R_Bk) (T := F_Bk) (N := 9) hx hb hts i_uBk hown hK hP 0 rfl rfl 2 (by decide) (hts _ mw_96) (fun _ h9 => h9) rfl d_Bk_livingBefore_19 ?_
        refine lv_iload_n hx hb d_Bk_livingBefore_22 rfl (lv_at hl 1 rfl) ?_
        obtain ⟨h9, hk⟩ := gd_in hk
        refine va_iald hx hb hK hP 3 2 rfl rfl h9 d_Bk_livingBefore_23 ?_
        refine lv_icmp_lt (tgt := 47) hx hb d_Bk_livingBefore_24 (by decide) (fun c10 => ?_) (fun c10 => ?_)
        · have hk := br_p c10 hk
          refine lv_iconst (v := 1) hx hb d_Bk_livingBefore_47 (by decide) ?_
          refine lv_goto (tgt := 52) hx hb d_Bk_livingBefore_48 (by decide) ?_
          exact J52 x2 x3 1 _ _ _ hP hS (lv_sub hl [0, 1, 2, 3] rfl) hk
        · have hk := br_n c10 hk
          refine lv_aload_n hx hb d_Bk_livingBefore_27 rfl (lv_at hl 0 rfl) ?_
          refine va_get (D := D) (ci := 0) (v := .ref (a 3)) (C := R_Bk) (T := F_Bk) (N := 9) hx hb hts i_uBk hown hK hP 0 rfl rfl 2 (by decide) (hts _ mw_96) (fun _ h9 => h9) rfl d_Bk_livingBefore_28 ?_
          refine lv_iload_n hx hb d_Bk_livingBefore_31 rfl (lv_at hl 3 rfl) ?_
          refine va_iald hx hb hK hP 3 2 rfl rfl h8 d_Bk_livingBefore_32 ?_
          refine lv_aload_n hx hb d_Bk_livingBefore_33 rfl (lv_at hl 0 rfl) ?_
          refine va_get (D := D) (ci := 0) (v := .ref (a 3)) (C := R_Bk) (T := F_Bk) (N := 9) hx hb hts i_uBk hown hK hP 0 rfl rfl 2 (by decide) (hts _ mw_96) (fun _ h9 => h9) rfl d_Bk_livingBefore_34 ?_
          refine lv_iload_n hx hb d_Bk_livingBefore_37 rfl (lv_at hl 1 rfl) ?_
          refine va_iald hx hb hK hP 3 2 rfl rfl h9 d_Bk_livingBefore_38 ?_
          refine lv_icmp_ne (tgt := 51) hx hb d_Bk_livingBefore_39 (by decide) (fun c11 => ?_) (fun c11 => ?_)
          · have hk := br_n c11 hk
            refine lv_iconst (v := 0) hx hb d_Bk_livingBefore_51 (by decide) ?_
            exact J52 x2 x3 0 _ _ _ hP hS (lv_sub hl [0, 1, 2, 3] rfl) hk
          · have hk := br_p c11 hk
            refine lv_iload_n hx hb d_Bk_livingBefore_42 rfl (lv_at hl 3 rfl) ?_
            refine lv_iload_n hx hb d_Bk_livingBefore_43 rfl (lv_at hl 1 rfl) ?_
            refine lv_icmp_ge (tgt := 51) hx hb d_Bk_livingBefore_44 (by decide) (fun c12 => ?_) (fun c12 => ?_)
            · have hk := br_p c12 hk
              refine lv_iconst (v := 0) hx hb d_Bk_livingBefore_51 (by decide) ?_
              exact J52 x2 x3 0 _ _ _ hP hS (lv_sub hl [0, 1, 2, 3] rfl) hk
            · have hk := br_n c12 hk
              refine lv_iconst (v := 1) hx hb d_Bk_livingBefore_47 (by decide) ?_
              refine lv_goto (tgt := 52) hx hb d_Bk_livingBefore_48 (by decide) ?_
              exact J52 x2 x3 1 _ _ _ hP hS (lv_sub hl [0, 1, 2, 3] rfl) hk
  refine lv_iconst (v := 0) hx hb d_Bk_livingBefore_0 (by decide) ?_
  refine lv_istore_n (lv' := [(2, .int 0), (0, .ref (a 0)), (1, .int p1)]) hx hb d_Bk_livingBefore_1 rfl hl (by decide) rfl (fun ls hl => ?_)
  refine lv_iconst (v := 1) hx hb d_Bk_livingBefore_2 (by decide) ?_
  refine lv_istore_n (lv' := [(3, .int 1), (2, .int 0), (0, .ref (a 0)), (1, .int p1)]) hx hb d_Bk_livingBefore_3 rfl hl (by decide) rfl (fun ls hl => ?_)
  exact L4 FU 0 1 _ _ _ hP hS (lv_sub hl [2, 3, 1, 0] rfl) hk
set_option maxHeartbeats 4000000 in
set_option maxRecDepth 100000 in
theorem c_Bk_livingAt (l : Launch) (D : va_G) (a : Nat → Nat) (k : Nat → ClassId) (sz : Nat) (σ : S_Bk) (p1 p2 : Int32) (r0 : Int32) (hk : kf_Bk_livingAt σ p1 p2 = some r0) : Met l y_Bk_livingAt w_Bk_livingAt ({ frames := 2, cells := 0, slots := 0, locals := 45 }) (kp_P D cls (ty_Bk k) (wl_Bk a k σ) [.ref (a 0), .int p1, .int p2] sz) (kp_R sz r0) 0 0 (va_A [] sz) := by
  refine Met.ofW (cc := b_Bk_livingAt) (maxL := 4) (ret := (some .int)) (by decide) rfl ?_
  intro p e s m args below meth c s₁ B hml hv
  obtain ⟨rfl, hsz, hP, hK, hD0⟩ := hv
  have hx := B.exec
  have hb := B.bytes
  have hr := B.returns
  have hts : ∀ w ∈ lw_g, w.before _ s = true := fun w h => atoms_spec (ws := w_Bk_livingAt) B.pre w (List.mem_cons_of_mem _ h)
  have hown : s.vm.findClass R_Bk = some m.cls := findClass_of_methodNamed B.named
  have hlocks := B.notSynchronized
  subst hsz
  have hA : ∀ q : Nat, s.heap.size ≤ q → (va_A ([]) s.heap.size) q := fun _ h => Or.inr h
  have hDt : ∀ τ, va_D (fun _ => True) (wl_Bk a k τ) := fun τ => kd_cg hD0 rfl
  have hS : va_S (va_A ([]) s.heap.size) s.heap s.heap [] := va_S.rf
  have hl := lv_entry ([.ref (a 0), .int p1, .int p2]) (n := 4) (Nat.le_of_ble_eq_true rfl)
  rw [lg_entry_eq]
  generalize (lg_sl ([.ref (a 0), .int p1, .int p2]) ++ List.replicate (4 - (lg_sl ([.ref (a 0), .int p1, .int p2])).length) Slot.unset).toArray = ls at hl ⊢
  have hl : lv_has ls 4 [(0, .ref (a 0)), (1, .int p1), (2, .int p2)] := hl
  unfold kf_Bk_livingAt at hk
  have L2 : ∀ (n2 : Nat) (x3 : Int32) (H : Heap) (locs : List Loc) (ls : Array Slot), va_P D cls (wl_Bk a k σ) H → va_S (va_A ([]) s.heap.size) s.heap H locs → lv_has ls 4 [(0, .ref (a 0)), (1, .int p1), (2, .int p2), (3, .int x3)] → kf_Bk_livingAt_2 σ p1 p2 n2 x3 = some r0 → W p l e (headSpec w_Bk_livingAt ({ frames := 2, cells := 0, slots := 0, locals := 45 })).room s m [.ref (a 0), .int p1, .int p2].toArray below meth c H locs 0 0 (MQ below (kp_R s.heap.size r0) [.ref (a 0), .int p1, .int p2].toArray s 0 0 (va_A [] s.heap.size)) (F0 m 2 ls []) := by
    intro n2
    induction n2 with
    | zero =>
      intro x3 H locs ls hP hS hl hk
      exact nomatch hk
    | succ n2 ih2 =>
      intro x3 H locs ls hP hS hl hk
      rw [kf_Bk_livingAt_2_s] at hk
      refine lv_iload_n hx hb d_Bk_livingAt_2 rfl (lv_at hl 3 rfl) ?_
      refine lv_aload_n hx hb d_Bk_livingAt_3 rfl (lv_at hl 0 rfl) ?_
      refine va_get (D := D) (ci := 0) (v := .int σ.2.2.2.2.2.2.1) (C := R_Bk) (T := F_Bk) (N := 9) hx hb hts i_uBk hown hK hP 0 rfl rfl 6 (by decide) (hts _ mw_100) (fun _ h9 => h9) rfl d_Bk_livingAt_4 ?_
      refine lv_icmp_gt (tgt := 45) hx hb d_Bk_livingAt_7 (by decide) (fun c1 => ?_) (fun c1 => ?_)
      · have hk := br_p c1 hk
        refine lv_iconst (v := 0) hx hb d_Bk_livingAt_45 (by decide) ?_
        exact kr_R hx hb hr rfl hlocks hS hk d_Bk_livingAt_46
      · have hk := br_n c1 hk
        refine lv_aload_n hx hb d_Bk_livingAt_10 rfl (lv_at hl 0 rfl) ?_
        refine va_get (D := D) (ci := 0) (v := .ref (a 1)) (C := R_Bk) (T := F_Bk) (N := 9) hx hb hts i_uBk hown hK hP 0 rfl rfl 0 (by decide) (hts _ mw_94) (fun _ h9 => h9) rfl d_Bk_livingAt_11 ?_
        refine lv_iload_n hx hb d_Bk_livingAt_14 rfl (lv_at hl 3 rfl) ?_
        obtain ⟨h2, hk⟩ := gd_in hk
        refine va_iald hx hb hK hP 1 0 rfl rfl h2 d_Bk_livingAt_15 ?_
        refine lv_iload_n hx hb d_Bk_livingAt_16 rfl (lv_at hl 1 rfl) ?_
        refine lv_icmp_ne (tgt := 39) hx hb d_Bk_livingAt_17 (by decide) (fun c3 => ?_) (fun c3 => ?_)
        · have hk := br_n c3 hk
          refine lv_iinc (v := (x3 + 1)) (lv' := [(3, .int (x3 + 1)), (0, .ref (a 0)), (1, .int p1), (2, .int p2)]) hx hb d_Bk_livingAt_39 hl (k := 3) rfl rfl (by decide) rfl (fun ls hl => ?_)
          refine lv_goto (tgt := 2) hx hb d_Bk_livingAt_42 (by decide) ?_
          exact ih2 (x3 + 1) _ _ _ hP hS (lv_sub hl [1, 2, 3, 0] rfl) hk
        · have hk := br_p c3 hk
          refine lv_aload_n hx hb d_Bk_livingAt_20 rfl (lv_at hl 0 rfl) ?_
          refine lv_iload_n hx hb d_Bk_livingAt_21 rfl (lv_at hl 3 rfl) ?_
          obtain ⟨q4, e4, hk⟩ := ob_s hk
          refine kc_R (va_runV (As := [.int x3]) (rest := []) ⟨hx, hb, hml, hown, hts⟩ (c_Bk_lives l D a k _ σ x3 q4 e4) (cwV 1 hts (gV mw_273 mw_274 mw_275 mw_30 mw_276) rfl rfl rfl hd_Bk_lives ⟨Nat.le_of_ble_eq_true rfl, Nat.le_of_ble_eq_true rfl⟩) (kp_V (ci := 0) (q := (R_Bk, F_Bk, 9)) (q0 := 0) hK hP (hDt _) rfl rfl) rfl rfl hl.1 rfl (lv_room (Nat.le_of_ble_eq_true rfl)) d_Bk_livingAt_22 ⟨Nat.zero_le _, Nat.zero_le _⟩) hS hA hP (fun H locs hP hS => ?_)
          refine lv_if_eq (tgt := 39) hx hb d_Bk_livingAt_25 (by decide) (fun c5 => ?_) (fun c5 => ?_)
          · have hk := br_p c5 hk
            refine lv_iinc (v := (x3 + 1)) (lv' := [(3, .int (x3 + 1)), (0, .ref (a 0)), (1, .int p1), (2, .int p2)]) hx hb d_Bk_livingAt_39 hl (k := 3) rfl rfl (by decide) rfl (fun ls hl => ?_)
            refine lv_goto (tgt := 2) hx hb d_Bk_livingAt_42 (by decide) ?_
            exact ih2 (x3 + 1) _ _ _ hP hS (lv_sub hl [1, 2, 3, 0] rfl) hk
          · have hk := br_n c5 hk
            refine lv_aload_n hx hb d_Bk_livingAt_28 rfl (lv_at hl 0 rfl) ?_
            refine lv_iload_n hx hb d_Bk_livingAt_29 rfl (lv_at hl 3 rfl) ?_
            obtain ⟨q6, e6, hk⟩ := ob_s hk
            refine kc_R (va_runV (As := [.int x3]) (rest := []) ⟨hx, hb, hml, hown, hts⟩ (c_Bk_livingBefore l D a k _ σ x3 q6 e6) (cwV 1 hts (gV mw_468 mw_470 mw_8 mw_30 mw_471) rfl rfl rfl hd_Bk_livingBefore ⟨Nat.le_of_ble_eq_true rfl, Nat.le_of_ble_eq_true rfl⟩) (kp_V (ci := 0) (q := (R_Bk, F_Bk, 9)) (q0 := 0) hK hP (hDt _) rfl rfl) rfl rfl hl.1 rfl (lv_room (Nat.le_of_ble_eq_true rfl)) d_Bk_livingAt_30 ⟨Nat.zero_le _, Nat.zero_le _⟩) hS hA hP (fun H locs hP hS => ?_)
            refine lv_iload_n hx hb d_Bk_livingAt_33 rfl (lv_at hl 2 rfl) ?_
            refine lv_icmp_ne (tgt := 39) hx hb d_Bk_livingAt_34 (by decide) (fun c7 => ?_) (fun c7 => ?_)
            · have hk := br_n c7 hk
              refine lv_iinc (v := (x3 + 1)) (lv' := [(3, .int (x3 + 1)), (0, .ref (a 0)), (1, .int p1), (2, .int p2)]) hx hb d_Bk_livingAt_39 hl (k := 3) rfl rfl (by decide) rfl (fun ls hl => ?_)
              refine lv_goto (tgt := 2) hx hb d_Bk_livingAt_42 (by decide) ?_
              exact ih2 (x3 + 1) _ _ _ hP hS (lv_sub hl [1, 2, 3, 0] rfl) hk
            · have hk := br_p c7 hk
              refine lv_iload_n hx hb d_Bk_livingAt_37 rfl (lv_at hl 3 rfl) ?_
              exact kr_R hx hb hr rfl hlocks hS hk d_Bk_livingAt_38
  refine lv_iconst (v := 1) hx hb d_Bk_livingAt_0 (by decide) ?_
  refine lv_istore_n (lv' := [(3, .int 1), (0, .ref (a 0)), (1, .int p1), (2, .int p2)]) hx hb d_Bk_livingAt_1 rfl hl (by decide) rfl (fun ls hl => ?_)
  exact L2 FU 1 _ _ _ hP hS (lv_sub hl [1, 2, 3, 0] rfl) hk
set_option maxHeartbeats 4000000 in
set_option maxRecDepth 100000 in
theorem c_Bk_doneMinutes (l : Launch) (D : va_G) (a : Nat → Nat) (k : Nat → ClassId) (sz : Nat) (σ : S_Bk) (p1 : Int32) (r0 : Int32) (hk : kf_Bk_doneMinutes σ p1 = some r0) : Met l y_Bk_doneMinutes w_Bk_doneMinutes ({ frames := 0, cells := 0, slots := 0, locals := 0 }) (kp_P D cls (ty_Bk k) (wl_Bk a k σ) [.ref (a 0), .int p1] sz) (kp_R sz r0) 0 0 (va_A [] sz) := by
  refine Met.ofW (cc := b_Bk_doneMinutes) (maxL := 4) (ret := (some .int)) (by decide) rfl ?_
  intro p e s m args below meth c s₁ B hml hv
  obtain ⟨rfl, hsz, hP, hK, hD0⟩ := hv
  have hx := B.exec
  have hb := B.bytes
  have hr := B.returns
  have hts : ∀ w ∈ lw_g, w.before _ s = true := fun w h => atoms_spec (ws := w_Bk_doneMinutes) B.pre w (List.mem_cons_of_mem _ h)
  have hown : s.vm.findClass R_Bk = some m.cls := findClass_of_methodNamed B.named
  have hlocks := B.notSynchronized
  subst hsz
  have hA : ∀ q : Nat, s.heap.size ≤ q → (va_A ([]) s.heap.size) q := fun _ h => Or.inr h
  have hDt : ∀ τ, va_D (fun _ => True) (wl_Bk a k τ) := fun τ => kd_cg hD0 rfl
  have hS : va_S (va_A ([]) s.heap.size) s.heap s.heap [] := va_S.rf
  have hl := lv_entry ([.ref (a 0), .int p1]) (n := 4) (Nat.le_of_ble_eq_true rfl)
  rw [lg_entry_eq]
  generalize (lg_sl ([.ref (a 0), .int p1]) ++ List.replicate (4 - (lg_sl ([.ref (a 0), .int p1])).length) Slot.unset).toArray = ls at hl ⊢
  have hl : lv_has ls 4 [(0, .ref (a 0)), (1, .int p1)] := hl
  unfold kf_Bk_doneMinutes at hk
  have L4 : ∀ (n4 : Nat) (x2 : Int32) (x3 : Int32) (H : Heap) (locs : List Loc) (ls : Array Slot), va_P D cls (wl_Bk a k σ) H → va_S (va_A ([]) s.heap.size) s.heap H locs → lv_has ls 4 [(0, .ref (a 0)), (1, .int p1), (2, .int x2), (3, .int x3)] → kf_Bk_doneMinutes_4 σ p1 n4 x2 x3 = some r0 → W p l e (headSpec w_Bk_doneMinutes ({ frames := 0, cells := 0, slots := 0, locals := 0 })).room s m [.ref (a 0), .int p1].toArray below meth c H locs 0 0 (MQ below (kp_R s.heap.size r0) [.ref (a 0), .int p1].toArray s 0 0 (va_A [] s.heap.size)) (F0 m 4 ls []) := by
    intro n4
    induction n4 with
    | zero =>
      intro x2 x3 H locs ls hP hS hl hk
      exact nomatch hk
    | succ n4 ih4 =>
      intro x2 x3 H locs ls hP hS hl hk
      rw [kf_Bk_doneMinutes_4_s] at hk
      refine lv_iload_n hx hb d_Bk_doneMinutes_4 rfl (lv_at hl 3 rfl) ?_
      refine lv_aload_n hx hb d_Bk_doneMinutes_5 rfl (lv_at hl 0 rfl) ?_
      refine va_get (D := D) (ci := 0) (v := .int σ.2.2.2.2.2.2.1) (C := R_Bk) (T := F_Bk) (N := 9) hx hb hts i_uBk hown hK hP 0 rfl rfl 6 (by decide) (hts _ mw_100) (fun _ h9 => h9) rfl d_Bk_doneMinutes_6 ?_
      refine lv_icmp_gt (tgt := 54) hx hb d_Bk_doneMinutes_9 (by decide) (fun c1 => ?_) (fun c1 => ?_)
      · have hk := br_p c1 hk
        refine lv_iload_n hx hb d_Bk_doneMinutes_54 rfl (lv_at hl 2 rfl) ?_
        exact kr_R hx hb hr rfl hlocks hS hk d_Bk_doneMinutes_55
      · have hk := br_n c1 hk
        refine lv_aload_n hx hb d_Bk_doneMinutes_12 rfl (lv_at hl 0 rfl) ?_
        refine va_get (D := D) (ci := 0) (v := .ref (a 2)) (C := R_Bk) (T := F_Bk) (N := 9) hx hb hts i_uBk hown hK hP 0 rfl rfl 1 (by decide) (hts _ mw_95) (fun _ h9 => h9) rfl d_Bk_doneMinutes_13 ?_
        refine lv_iload_n hx hb d_Bk_doneMinutes_16 rfl (lv_at hl 3 rfl) ?_
        obtain ⟨h2, hk⟩ := gd_in hk
        refine va_iald hx hb hK hP 2 1 rfl rfl h2 d_Bk_doneMinutes_17 ?_
        refine lv_iload_n hx hb d_Bk_doneMinutes_18 rfl (lv_at hl 1 rfl) ?_
        refine lv_icmp_ne (tgt := 48) hx hb d_Bk_doneMinutes_19 (by decide) (fun c3 => ?_) (fun c3 => ?_)
        · have hk := br_n c3 hk
          refine lv_iinc (v := (x3 + 1)) (lv' := [(3, .int (x3 + 1)), (0, .ref (a 0)), (1, .int p1), (2, .int x2)]) hx hb d_Bk_doneMinutes_48 hl (k := 3) rfl rfl (by decide) rfl (fun ls hl => ?_)
          refine lv_goto (tgt := 4) hx hb d_Bk_doneMinutes_51 (by decide) ?_
          exact ih4 x2 (x3 + 1) _ _ _ hP hS (lv_sub hl [1, 2, 3, 0] rfl) hk
        · have hk := br_p c3 hk
          refine lv_aload_n hx hb d_Bk_doneMinutes_22 rfl (lv_at hl 0 rfl) ?_
          refine va_get (D := D) (ci := 0) (v := .ref (a 5)) (C := R_Bk) (T := F_Bk) (N := 9) hx hb hts i_uBk hown hK hP 0 rfl rfl 4 (by decide) (hts _ mw_98) (fun _ h9 => h9) rfl d_Bk_doneMinutes_23 ?_
          refine lv_iload_n hx hb d_Bk_doneMinutes_26 rfl (lv_at hl 3 rfl) ?_
          refine va_iald hx hb hK hP 5 4 rfl rfl h2 d_Bk_doneMinutes_27 ?_
          refine lv_iconst (v := 2) hx hb d_Bk_doneMinutes_28 (by decide) ?_
          refine lv_icmp_ne (tgt := 48) hx hb d_Bk_doneMinutes_29 (by decide) (fun c4 => ?_) (fun c4 => ?_)
          · have hk := br_n c4 hk
            refine lv_iinc (v := (x3 + 1)) (lv' := [(3, .int (x3 + 1)), (0, .ref (a 0)), (1, .int p1), (2, .int x2)]) hx hb d_Bk_doneMinutes_48 hl (k := 3) rfl rfl (by decide) rfl (fun ls hl => ?_)
            refine lv_goto (tgt := 4) hx hb d_Bk_doneMinutes_51 (by decide) ?_
            exact ih4 x2 (x3 + 1) _ _ _ hP hS (lv_sub hl [1, 2, 3, 0] rfl) hk
          · have hk := br_p c4 hk
            refine lv_iload_n hx hb d_Bk_doneMinutes_32 rfl (lv_at hl 2 rfl) ?_
            refine lv_aload_n hx hb d_Bk_doneMinutes_33 rfl (lv_at hl 0 rfl) ?_
            refine va_get (D := D) (ci := 0) (v := .ref (a 4)) (C := R_Bk) (T := F_Bk) (N := 9) hx hb hts i_uBk hown hK hP 0 rfl rfl 3 (by decide) (hts _ mw_97) (fun _ h9 => h9) rfl d_Bk_doneMinutes_34 ?_
            refine lv_iload_n hx hb d_Bk_doneMinutes_37 rfl (lv_at hl 3 rfl) ?_
            refine va_iald hx hb hK hP 4 3 rfl rfl h2 d_Bk_doneMinutes_38 ?_
            refine lv_aload_n hx hb d_Bk_doneMinutes_39 rfl (lv_at hl 0 rfl) ?_
            refine va_get (D := D) (ci := 0) (v := .ref (a 3)) (C := R_Bk) (T := F_Bk) (N := 9) hx hb hts i_uBk hown hK hP 0 rfl rfl 2 (by decide) (hts _ mw_96) (fun _ h9 => h9) rfl d_Bk_doneMinutes_40 ?_
            refine lv_iload_n hx hb d_Bk_doneMinutes_43 rfl (lv_at hl 3 rfl) ?_
            refine va_iald hx hb hK hP 3 2 rfl rfl h2 d_Bk_doneMinutes_44 ?_
            refine lv_isub hx hb d_Bk_doneMinutes_45 ?_
            refine lv_iadd hx hb d_Bk_doneMinutes_46 ?_
            refine lv_istore_n (lv' := [(2, .int (x2 + ((σ.2.2.2.1 x3.toNatClampNeg) - (σ.2.2.1 x3.toNatClampNeg)))), (0, .ref (a 0)), (1, .int p1), (3, .int x3)]) hx hb d_Bk_doneMinutes_47 rfl hl (by decide) rfl (fun ls hl => ?_)
            refine lv_iinc (v := (x3 + 1)) (lv' := [(3, .int (x3 + 1)), (2, .int (x2 + ((σ.2.2.2.1 x3.toNatClampNeg) - (σ.2.2.1 x3.toNatClampNeg)))), (0, .ref (a 0)), (1, .int p1)]) hx hb d_Bk_doneMinutes_48 hl (k := 3) rfl rfl (by decide) rfl (fun ls hl => ?_)
            refine lv_goto (tgt := 4) hx hb d_Bk_doneMinutes_51 (by decide) ?_
            exact ih4 (x2 + ((σ.2.2.2.1 x3.toNatClampNeg) - (σ.2.2.1 x3.toNatClampNeg))) (x3 + 1) _ _ _ hP hS (lv_sub hl [2, 3, 1, 0] rfl) hk
  refine lv_iconst (v := 0) hx hb d_Bk_doneMinutes_0 (by decide) ?_
  refine lv_istore_n (lv' := [(2, .int 0), (0, .ref (a 0)), (1, .int p1)]) hx hb d_Bk_doneMinutes_1 rfl hl (by decide) rfl (fun ls hl => ?_)
  refine lv_iconst (v := 1) hx hb d_Bk_doneMinutes_2 (by decide) ?_
  refine lv_istore_n (lv' := [(3, .int 1), (2, .int 0), (0, .ref (a 0)), (1, .int p1)]) hx hb d_Bk_doneMinutes_3 rfl hl (by decide) rfl (fun ls hl => ?_)
  exact L4 FU 0 1 _ _ _ hP hS (lv_sub hl [2, 3, 1, 0] rfl) hk
set_option maxHeartbeats 4000000 in
set_option maxRecDepth 100000 in
theorem c_Bk_finish (l : Launch) (D : va_G) (a : Nat → Nat) (k : Nat → ClassId) (sz : Nat) (σ : S_Bk) (p1 : Int32) (r0 : S_Bk) (hk : kf_Bk_finish σ p1 = some r0) : Met l y_Bk_finish w_Bk_finish ({ frames := 0, cells := 0, slots := 0, locals := 0 }) (kp_P D cls (ty_Bk k) (wl_Bk a k σ) [.ref (a 0), .int p1] sz) (kp_Mv D cls (wl_Bk a k r0) (wl_Bk a k σ) sz) 0 0 (va_A (wl_Bk a k σ) sz) := by
  refine Met.ofW (cc := b_Bk_finish) (maxL := 3) (ret := none) (by decide) rfl ?_
  intro p e s m args below meth c s₁ B hml hv
  obtain ⟨rfl, hsz, hP, hK, hD0⟩ := hv
  have hx := B.exec
  have hb := B.bytes
  have hr := B.returns
  have hts : ∀ w ∈ lw_g, w.before _ s = true := fun w h => atoms_spec (ws := w_Bk_finish) B.pre w (List.mem_cons_of_mem _ h)
  have hown : s.vm.findClass R_Bk = some m.cls := findClass_of_methodNamed B.named
  have hlocks := B.notSynchronized
  subst hsz
  have hA : ∀ q : Nat, s.heap.size ≤ q → (va_A (wl_Bk a k σ) s.heap.size) q := fun _ h => Or.inr h
  have hDt : ∀ τ, va_D (fun _ => True) (wl_Bk a k τ) := fun τ => kd_cg hD0 rfl
  have hDw : ∀ τ, va_D (va_A (wl_Bk a k σ) s.heap.size) (wl_Bk a k τ) := fun τ => kd_cg hD0.self rfl
  have hS : va_S (va_A (wl_Bk a k σ) s.heap.size) s.heap s.heap [] := va_S.rf
  have hl := lv_entry ([.ref (a 0), .int p1]) (n := 3) (Nat.le_of_ble_eq_true rfl)
  rw [lg_entry_eq]
  generalize (lg_sl ([.ref (a 0), .int p1]) ++ List.replicate (3 - (lg_sl ([.ref (a 0), .int p1])).length) Slot.unset).toArray = ls at hl ⊢
  have hl : lv_has ls 3 [(0, .ref (a 0)), (1, .int p1)] := hl
  unfold kf_Bk_finish at hk
  have L2 : ∀ (n2 : Nat) (x2 : Int32) (τ : S_Bk) (H : Heap) (locs : List Loc) (ls : Array Slot), va_P D cls (wl_Bk a k τ) H → va_S (va_A (wl_Bk a k σ) s.heap.size) s.heap H locs → lv_has ls 3 [(0, .ref (a 0)), (1, .int p1), (2, .int x2)] → kf_Bk_finish_2 p1 n2 x2 τ = some r0 → W p l e (headSpec w_Bk_finish ({ frames := 0, cells := 0, slots := 0, locals := 0 })).room s m [.ref (a 0), .int p1].toArray below meth c H locs 0 0 (MQ below (kp_Mv D cls (wl_Bk a k r0) (wl_Bk a k σ) s.heap.size) [.ref (a 0), .int p1].toArray s 0 0 (va_A (wl_Bk a k σ) s.heap.size)) (F0 m 2 ls []) := by
    intro n2
    induction n2 with
    | zero =>
      intro x2 τ H locs ls hP hS hl hk
      exact nomatch hk
    | succ n2 ih2 =>
      intro x2 τ H locs ls hP hS hl hk
      rw [kf_Bk_finish_2_s] at hk
      refine lv_iload_n hx hb d_Bk_finish_2 rfl (lv_at hl 2 rfl) ?_
      refine lv_aload_n hx hb d_Bk_finish_3 rfl (lv_at hl 0 rfl) ?_
      refine va_get (D := D) (ci := 0) (v := .int τ.2.2.2.2.2.2.1) (C := R_Bk) (T := F_Bk) (N := 9) hx hb hts i_uBk hown hK hP 0 rfl rfl 6 (by decide) (hts _ mw_100) (fun _ h9 => h9) rfl d_Bk_finish_4 ?_
      refine lv_icmp_gt (tgt := 43) hx hb d_Bk_finish_7 (by decide) (fun c1 => ?_) (fun c1 => ?_)
      · have hk := br_p c1 hk
        exact kr_Mv (w := wl_Bk a k) hx hb hr hlocks hS hP hk d_Bk_finish_43
      · have hk := br_n c1 hk
        refine lv_aload_n hx hb d_Bk_finish_10 rfl (lv_at hl 0 rfl) ?_
        refine va_get (D := D) (ci := 0) (v := .ref (a 5)) (C := R_Bk) (T := F_Bk) (N := 9) hx hb hts i_uBk hown hK hP 0 rfl rfl 4 (by decide) (hts _ mw_98) (fun _ h9 => h9) rfl d_Bk_finish_11 ?_
        refine lv_iload_n hx hb d_Bk_finish_14 rfl (lv_at hl 2 rfl) ?_
        obtain ⟨h2, hk⟩ := gd_in hk
        refine va_iald hx hb hK hP 5 4 rfl rfl h2 d_Bk_finish_15 ?_
        refine lv_iconst (v := 1) hx hb d_Bk_finish_16 (by decide) ?_
        refine lv_icmp_ne (tgt := 37) hx hb d_Bk_finish_17 (by decide) (fun c3 => ?_) (fun c3 => ?_)
        · have hk := br_n c3 hk
          refine lv_iinc (v := (x2 + 1)) (lv' := [(2, .int (x2 + 1)), (0, .ref (a 0)), (1, .int p1)]) hx hb d_Bk_finish_37 hl (k := 2) rfl rfl (by decide) rfl (fun ls hl => ?_)
          refine lv_goto (tgt := 2) hx hb d_Bk_finish_40 (by decide) ?_
          exact ih2 (x2 + 1) τ _ _ _ hP hS (lv_sub hl [1, 2, 0] rfl) hk
        · have hk := br_p c3 hk
          refine lv_aload_n hx hb d_Bk_finish_20 rfl (lv_at hl 0 rfl) ?_
          refine va_get (D := D) (ci := 0) (v := .ref (a 4)) (C := R_Bk) (T := F_Bk) (N := 9) hx hb hts i_uBk hown hK hP 0 rfl rfl 3 (by decide) (hts _ mw_97) (fun _ h9 => h9) rfl d_Bk_finish_21 ?_
          refine lv_iload_n hx hb d_Bk_finish_24 rfl (lv_at hl 2 rfl) ?_
          refine va_iald hx hb hK hP 4 3 rfl rfl h2 d_Bk_finish_25 ?_
          refine lv_iload_n hx hb d_Bk_finish_26 rfl (lv_at hl 1 rfl) ?_
          refine lv_icmp_gt (tgt := 37) hx hb d_Bk_finish_27 (by decide) (fun c4 => ?_) (fun c4 => ?_)
          · have hk := br_p c4 hk
            refine lv_iinc (v := (x2 + 1)) (lv' := [(2, .int (x2 + 1)), (0, .ref (a 0)), (1, .int p1)]) hx hb d_Bk_finish_37 hl (k := 2) rfl rfl (by decide) rfl (fun ls hl => ?_)
            refine lv_goto (tgt := 2) hx hb d_Bk_finish_40 (by decide) ?_
            exact ih2 (x2 + 1) τ _ _ _ hP hS (lv_sub hl [1, 2, 0] rfl) hk
          · have hk := br_n c4 hk
            refine lv_aload_n hx hb d_Bk_finish_30 rfl (lv_at hl 0 rfl) ?_
            refine va_get (D := D) (ci := 0) (v := .ref (a 5)) (C := R_Bk) (T := F_Bk) (N := 9) hx hb hts i_uBk hown hK hP 0 rfl rfl 4 (by decide) (hts _ mw_98) (fun _ h9 => h9) rfl d_Bk_finish_31 ?_
            refine lv_iload_n hx hb d_Bk_finish_34 rfl (lv_at hl 2 rfl) ?_
            refine lv_iconst (v := 2) hx hb d_Bk_finish_35 (by decide) ?_
            refine va_iast hx hb hK hP (hDw _) hS 5 4 rfl rfl h2 d_Bk_finish_36 (fun H locs hP _ hS => ?_)
            have hP : va_P D cls (wl_Bk a k (τ.1, τ.2.1, τ.2.2.1, τ.2.2.2.1, (upd τ.2.2.2.2.1 x2.toNatClampNeg 2), τ.2.2.2.2.2.1, τ.2.2.2.2.2.2.1, τ.2.2.2.2.2.2.2.1, τ.2.2.2.2.2.2.2.2)) H := hP
            refine lv_iinc (v := (x2 + 1)) (lv' := [(2, .int (x2 + 1)), (0, .ref (a 0)), (1, .int p1)]) hx hb d_Bk_finish_37 hl (k := 2) rfl rfl (by decide) rfl (fun ls hl => ?_)
            refine lv_goto (tgt := 2) hx hb d_Bk_finish_40 (by decide) ?_
            exact ih2 (x2 + 1) (τ.1, τ.2.1, τ.2.2.1, τ.2.2.2.1, (upd τ.2.2.2.2.1 x2.toNatClampNeg 2), τ.2.2.2.2.2.1, τ.2.2.2.2.2.2.1, τ.2.2.2.2.2.2.2.1, τ.2.2.2.2.2.2.2.2) _ _ _ hP hS (lv_sub hl [1, 2, 0] rfl) hk
  refine lv_iconst (v := 1) hx hb d_Bk_finish_0 (by decide) ?_
  refine lv_istore_n (lv' := [(2, .int 1), (0, .ref (a 0)), (1, .int p1)]) hx hb d_Bk_finish_1 rfl hl (by decide) rfl (fun ls hl => ?_)
  exact L2 FU 1 σ _ _ _ hP hS (lv_sub hl [1, 2, 0] rfl) hk
set_option maxHeartbeats 4000000 in
set_option maxRecDepth 100000 in
theorem c_Bk_turnOne (l : Launch) (D : va_G) (a : Nat → Nat) (k : Nat → ClassId) (sz : Nat) (σ : S_Bk) (p1 p2 : Int32) (r0 : S_Bk) (hk : kf_Bk_turnOne σ p1 p2 = some r0) : Met l y_Bk_turnOne w_Bk_turnOne ({ frames := 0, cells := 0, slots := 0, locals := 0 }) (kp_P D cls (ty_Bk k) (wl_Bk a k σ) [.ref (a 0), .int p1, .int p2] sz) (kp_Mv D cls (wl_Bk a k r0) (wl_Bk a k σ) sz) 0 0 (va_A (wl_Bk a k σ) sz) := by
  refine Met.ofW (cc := b_Bk_turnOne) (maxL := 3) (ret := none) (by decide) rfl ?_
  intro p e s m args below meth c s₁ B hml hv
  obtain ⟨rfl, hsz, hP, hK, hD0⟩ := hv
  have hx := B.exec
  have hb := B.bytes
  have hr := B.returns
  have hts : ∀ w ∈ lw_g, w.before _ s = true := fun w h => atoms_spec (ws := w_Bk_turnOne) B.pre w (List.mem_cons_of_mem _ h)
  have hown : s.vm.findClass R_Bk = some m.cls := findClass_of_methodNamed B.named
  have hlocks := B.notSynchronized
  subst hsz
  have hA : ∀ q : Nat, s.heap.size ≤ q → (va_A (wl_Bk a k σ) s.heap.size) q := fun _ h => Or.inr h
  have hDt : ∀ τ, va_D (fun _ => True) (wl_Bk a k τ) := fun τ => kd_cg hD0 rfl
  have hDw : ∀ τ, va_D (va_A (wl_Bk a k σ) s.heap.size) (wl_Bk a k τ) := fun τ => kd_cg hD0.self rfl
  have hS : va_S (va_A (wl_Bk a k σ) s.heap.size) s.heap s.heap [] := va_S.rf
  have hl := lv_entry ([.ref (a 0), .int p1, .int p2]) (n := 3) (Nat.le_of_ble_eq_true rfl)
  rw [lg_entry_eq]
  generalize (lg_sl ([.ref (a 0), .int p1, .int p2]) ++ List.replicate (3 - (lg_sl ([.ref (a 0), .int p1, .int p2])).length) Slot.unset).toArray = ls at hl ⊢
  have hl : lv_has ls 3 [(0, .ref (a 0)), (1, .int p1), (2, .int p2)] := hl
  unfold kf_Bk_turnOne at hk
  refine lv_aload_n hx hb d_Bk_turnOne_0 rfl (lv_at hl 0 rfl) ?_
  refine va_get (D := D) (ci := 0) (v := .ref (a 5)) (C := R_Bk) (T := F_Bk) (N := 9) hx hb hts i_uBk hown hK hP 0 rfl rfl 4 (by decide) (hts _ mw_98) (fun _ h9 => h9) rfl d_Bk_turnOne_1 ?_
  refine lv_iload_n hx hb d_Bk_turnOne_4 rfl (lv_at hl 1 rfl) ?_
  refine lv_iload_n hx hb d_Bk_turnOne_5 rfl (lv_at hl 2 rfl) ?_
  obtain ⟨h1, hk⟩ := gd_in hk
  refine va_iast hx hb hK hP (hDw _) hS 5 4 rfl rfl h1 d_Bk_turnOne_6 (fun H locs hP _ hS => ?_)
  have hP : va_P D cls (wl_Bk a k (σ.1, σ.2.1, σ.2.2.1, σ.2.2.2.1, (upd σ.2.2.2.2.1 p1.toNatClampNeg p2), σ.2.2.2.2.2.1, σ.2.2.2.2.2.2.1, σ.2.2.2.2.2.2.2.1, σ.2.2.2.2.2.2.2.2)) H := hP
  refine lv_aload_n hx hb d_Bk_turnOne_7 rfl (lv_at hl 0 rfl) ?_
  refine va_get (D := D) (ci := 0) (v := .int σ.2.2.2.2.2.2.2.2) (C := R_Bk) (T := F_Bk) (N := 9) hx hb hts i_uBk hown hK hP 0 rfl rfl 8 (by decide) (hts _ mw_102) (fun _ h9 => h9) rfl d_Bk_turnOne_8 ?_
  refine lv_aload_n hx hb d_Bk_turnOne_11 rfl (lv_at hl 0 rfl) ?_
  refine va_get (D := D) (ci := 0) (v := .ref (a 7)) (C := R_Bk) (T := F_Bk) (N := 9) hx hb hts i_uBk hown hK hP 0 rfl rfl 7 (by decide) (hts _ mw_101) (fun _ h9 => h9) rfl d_Bk_turnOne_12 ?_
  refine va_alen (v := 200) hx hb hK hP 7 6 rfl rfl rfl d_Bk_turnOne_15 ?_
  refine lv_icmp_ge (tgt := 44) hx hb d_Bk_turnOne_16 (by decide) (fun c2 => ?_) (fun c2 => ?_)
  · have hk := br_p c2 hk
    exact kr_Mv (w := wl_Bk a k) hx hb hr hlocks hS hP hk d_Bk_turnOne_44
  · have hk := br_n c2 hk
    refine lv_aload_n hx hb d_Bk_turnOne_19 rfl (lv_at hl 0 rfl) ?_
    refine va_get (D := D) (ci := 0) (v := .ref (a 7)) (C := R_Bk) (T := F_Bk) (N := 9) hx hb hts i_uBk hown hK hP 0 rfl rfl 7 (by decide) (hts _ mw_101) (fun _ h9 => h9) rfl d_Bk_turnOne_20 ?_
    refine lv_aload_n hx hb d_Bk_turnOne_23 rfl (lv_at hl 0 rfl) ?_
    refine va_get (D := D) (ci := 0) (v := .int σ.2.2.2.2.2.2.2.2) (C := R_Bk) (T := F_Bk) (N := 9) hx hb hts i_uBk hown hK hP 0 rfl rfl 8 (by decide) (hts _ mw_102) (fun _ h9 => h9) rfl d_Bk_turnOne_24 ?_
    refine lv_aload_n hx hb d_Bk_turnOne_27 rfl (lv_at hl 0 rfl) ?_
    refine va_get (D := D) (ci := 0) (v := .ref (a 2)) (C := R_Bk) (T := F_Bk) (N := 9) hx hb hts i_uBk hown hK hP 0 rfl rfl 1 (by decide) (hts _ mw_95) (fun _ h9 => h9) rfl d_Bk_turnOne_28 ?_
    refine lv_iload_n hx hb d_Bk_turnOne_31 rfl (lv_at hl 1 rfl) ?_
    refine va_iald hx hb hK hP 2 1 rfl rfl h1 d_Bk_turnOne_32 ?_
    obtain ⟨h3, hk⟩ := gd_in hk
    refine va_iast hx hb hK hP (hDw _) hS 7 6 rfl rfl h3 d_Bk_turnOne_33 (fun H locs hP _ hS => ?_)
    have hP : va_P D cls (wl_Bk a k (σ.1, σ.2.1, σ.2.2.1, σ.2.2.2.1, (upd σ.2.2.2.2.1 p1.toNatClampNeg p2), σ.2.2.2.2.2.1, σ.2.2.2.2.2.2.1, (upd σ.2.2.2.2.2.2.2.1 σ.2.2.2.2.2.2.2.2.toNatClampNeg (σ.2.1 p1.toNatClampNeg)), σ.2.2.2.2.2.2.2.2)) H := hP
    refine lv_aload_n hx hb d_Bk_turnOne_34 rfl (lv_at hl 0 rfl) ?_
    refine lv_dup hx hb d_Bk_turnOne_35 rfl ?_
    refine va_get (D := D) (ci := 0) (v := .int σ.2.2.2.2.2.2.2.2) (C := R_Bk) (T := F_Bk) (N := 9) hx hb hts i_uBk hown hK hP 0 rfl rfl 8 (by decide) (hts _ mw_102) (fun _ h9 => h9) rfl d_Bk_turnOne_36 ?_
    refine lv_iconst (v := 1) hx hb d_Bk_turnOne_39 (by decide) ?_
    refine lv_iadd hx hb d_Bk_turnOne_40 ?_
    refine va_put (D := D) (ci := 0) (v := .int (σ.2.2.2.2.2.2.2.2 + 1)) (ty := .int) (C := R_Bk) (T := F_Bk) (N := 9) hx hb hts i_uBk t_Bk t_Bk_ok n_Bk hown hK hP (hDw _) hS 0 rfl rfl 8 (by decide) (hts _ mw_102) (fun _ h9 => h9) rfl (t_Bk_ok 8 (by decide)) rfl rfl (Nat.le_of_ble_eq_true rfl) d_Bk_turnOne_41 (fun H locs hP _ hS => ?_)
    have hP : va_P D cls (wl_Bk a k (σ.1, σ.2.1, σ.2.2.1, σ.2.2.2.1, (upd σ.2.2.2.2.1 p1.toNatClampNeg p2), σ.2.2.2.2.2.1, σ.2.2.2.2.2.2.1, (upd σ.2.2.2.2.2.2.2.1 σ.2.2.2.2.2.2.2.2.toNatClampNeg (σ.2.1 p1.toNatClampNeg)), (σ.2.2.2.2.2.2.2.2 + 1))) H := hP
    exact kr_Mv (w := wl_Bk a k) hx hb hr hlocks hS hP hk d_Bk_turnOne_44
set_option maxHeartbeats 4000000 in
set_option maxRecDepth 100000 in
theorem c_Bk_turn (l : Launch) (D : va_G) (a : Nat → Nat) (k : Nat → ClassId) (sz : Nat) (σ : S_Bk) (p1 p2 : Int32) (r0 : S_Bk) (hk : kf_Bk_turn σ p1 p2 = some r0) : Met l y_Bk_turn w_Bk_turn ({ frames := 1, cells := 0, slots := 0, locals := 22 }) (kp_P D cls (ty_Bk k) (wl_Bk a k σ) [.ref (a 0), .int p1, .int p2] sz) (kp_Mv D cls (wl_Bk a k r0) (wl_Bk a k σ) sz) 0 0 (va_A (wl_Bk a k σ) sz) := by
  refine Met.ofW (cc := b_Bk_turn) (maxL := 4) (ret := none) (by decide) rfl ?_
  intro p e s m args below meth c s₁ B hml hv
  obtain ⟨rfl, hsz, hP, hK, hD0⟩ := hv
  have hx := B.exec
  have hb := B.bytes
  have hr := B.returns
  have hts : ∀ w ∈ lw_g, w.before _ s = true := fun w h => atoms_spec (ws := w_Bk_turn) B.pre w (List.mem_cons_of_mem _ h)
  have hown : s.vm.findClass R_Bk = some m.cls := findClass_of_methodNamed B.named
  have hlocks := B.notSynchronized
  subst hsz
  have hA : ∀ q : Nat, s.heap.size ≤ q → (va_A (wl_Bk a k σ) s.heap.size) q := fun _ h => Or.inr h
  have hDt : ∀ τ, va_D (fun _ => True) (wl_Bk a k τ) := fun τ => kd_cg hD0 rfl
  have hDw : ∀ τ, va_D (va_A (wl_Bk a k σ) s.heap.size) (wl_Bk a k τ) := fun τ => kd_cg hD0.self rfl
  have hS : va_S (va_A (wl_Bk a k σ) s.heap.size) s.heap s.heap [] := va_S.rf
  have hl := lv_entry ([.ref (a 0), .int p1, .int p2]) (n := 4) (Nat.le_of_ble_eq_true rfl)
  rw [lg_entry_eq]
  generalize (lg_sl ([.ref (a 0), .int p1, .int p2]) ++ List.replicate (4 - (lg_sl ([.ref (a 0), .int p1, .int p2])).length) Slot.unset).toArray = ls at hl ⊢
  have hl : lv_has ls 4 [(0, .ref (a 0)), (1, .int p1), (2, .int p2)] := hl
  unfold kf_Bk_turn at hk
  have L13 : ∀ (n13 : Nat) (x3 : Int32) (τ : S_Bk) (H : Heap) (locs : List Loc) (ls : Array Slot), va_P D cls (wl_Bk a k τ) H → va_S (va_A (wl_Bk a k σ) s.heap.size) s.heap H locs → lv_has ls 4 [(0, .ref (a 0)), (1, .int p1), (2, .int p2), (3, .int x3)] → kf_Bk_turn_13 p1 p2 n13 x3 τ = some r0 → W p l e (headSpec w_Bk_turn ({ frames := 1, cells := 0, slots := 0, locals := 22 })).room s m [.ref (a 0), .int p1, .int p2].toArray below meth c H locs 0 0 (MQ below (kp_Mv D cls (wl_Bk a k r0) (wl_Bk a k σ) s.heap.size) [.ref (a 0), .int p1, .int p2].toArray s 0 0 (va_A (wl_Bk a k σ) s.heap.size)) (F0 m 13 ls []) := by
    intro n13
    induction n13 with
    | zero =>
      intro x3 τ H locs ls hP hS hl hk
      exact nomatch hk
    | succ n13 ih13 =>
      intro x3 τ H locs ls hP hS hl hk
      rw [kf_Bk_turn_13_s] at hk
      refine lv_iload_n hx hb d_Bk_turn_13 rfl (lv_at hl 3 rfl) ?_
      refine lv_aload_n hx hb d_Bk_turn_14 rfl (lv_at hl 0 rfl) ?_
      refine va_get (D := D) (ci := 0) (v := .int τ.2.2.2.2.2.2.1) (C := R_Bk) (T := F_Bk) (N := 9) hx hb hts i_uBk hown hK hP 0 rfl rfl 6 (by decide) (hts _ mw_100) (fun _ h9 => h9) rfl d_Bk_turn_15 ?_
      refine lv_icmp_gt (tgt := 52) hx hb d_Bk_turn_18 (by decide) (fun c1 => ?_) (fun c1 => ?_)
      · have hk := br_p c1 hk
        exact kr_Mv (w := wl_Bk a k) hx hb hr hlocks hS hP hk d_Bk_turn_52
      · have hk := br_n c1 hk
        refine lv_aload_n hx hb d_Bk_turn_21 rfl (lv_at hl 0 rfl) ?_
        refine va_get (D := D) (ci := 0) (v := .ref (a 6)) (C := R_Bk) (T := F_Bk) (N := 9) hx hb hts i_uBk hown hK hP 0 rfl rfl 5 (by decide) (hts _ mw_99) (fun _ h9 => h9) rfl d_Bk_turn_22 ?_
        refine lv_iload_n hx hb d_Bk_turn_25 rfl (lv_at hl 3 rfl) ?_
        obtain ⟨h2, hk⟩ := gd_in hk
        refine va_iald hx hb hK hP 6 5 rfl rfl h2 d_Bk_turn_26 ?_
        refine lv_iload_n hx hb d_Bk_turn_27 rfl (lv_at hl 1 rfl) ?_
        refine lv_icmp_ne (tgt := 46) hx hb d_Bk_turn_28 (by decide) (fun c3 => ?_) (fun c3 => ?_)
        · have hk := br_n c3 hk
          refine lv_iinc (v := (x3 + 1)) (lv' := [(3, .int (x3 + 1)), (0, .ref (a 0)), (1, .int p1), (2, .int p2)]) hx hb d_Bk_turn_46 hl (k := 3) rfl rfl (by decide) rfl (fun ls hl => ?_)
          refine lv_goto (tgt := 13) hx hb d_Bk_turn_49 (by decide) ?_
          exact ih13 (x3 + 1) τ _ _ _ hP hS (lv_sub hl [1, 2, 3, 0] rfl) hk
        · have hk := br_p c3 hk
          refine lv_aload_n hx hb d_Bk_turn_31 rfl (lv_at hl 0 rfl) ?_
          refine va_get (D := D) (ci := 0) (v := .ref (a 5)) (C := R_Bk) (T := F_Bk) (N := 9) hx hb hts i_uBk hown hK hP 0 rfl rfl 4 (by decide) (hts _ mw_98) (fun _ h9 => h9) rfl d_Bk_turn_32 ?_
          refine lv_iload_n hx hb d_Bk_turn_35 rfl (lv_at hl 3 rfl) ?_
          refine va_iald hx hb hK hP 5 4 rfl rfl h2 d_Bk_turn_36 ?_
          refine lv_if_ne (tgt := 46) hx hb d_Bk_turn_37 (by decide) (fun c4 => ?_) (fun c4 => ?_)
          · have hk := br_n c4 hk
            refine lv_iinc (v := (x3 + 1)) (lv' := [(3, .int (x3 + 1)), (0, .ref (a 0)), (1, .int p1), (2, .int p2)]) hx hb d_Bk_turn_46 hl (k := 3) rfl rfl (by decide) rfl (fun ls hl => ?_)
            refine lv_goto (tgt := 13) hx hb d_Bk_turn_49 (by decide) ?_
            exact ih13 (x3 + 1) τ _ _ _ hP hS (lv_sub hl [1, 2, 3, 0] rfl) hk
          · have hk := br_p c4 hk
            refine lv_aload_n hx hb d_Bk_turn_40 rfl (lv_at hl 0 rfl) ?_
            refine lv_iload_n hx hb d_Bk_turn_41 rfl (lv_at hl 3 rfl) ?_
            refine lv_iload_n hx hb d_Bk_turn_42 rfl (lv_at hl 2 rfl) ?_
            obtain ⟨q5, e5, hk⟩ := ob_s hk
            refine kc_Mv (wF := wl_Bk a k q5) (va_runV (As := [.int x3, .int p2]) (rest := []) ⟨hx, hb, hml, hown, hts⟩ (c_Bk_turnOne l D a k _ τ x3 p2 q5 e5) (cwV 2 hts (gV mw_331 mw_333 mw_3 mw_30 mw_334) rfl rfl rfl hd_Bk_turnOne ⟨Nat.le_of_ble_eq_true rfl, Nat.le_of_ble_eq_true rfl⟩) (kp_V (ci := 0) (q := (R_Bk, F_Bk, 9)) (q0 := 0) hK hP (hDt _) rfl rfl) rfl rfl hl.1 rfl (lv_room (Nat.le_of_ble_eq_true rfl)) d_Bk_turn_43 ⟨Nat.zero_le _, Nat.zero_le _⟩) hS (hDw _) hA (fun _ _ h _ => h) (fun H locs hP hS => ?_)
            refine lv_iinc (v := (x3 + 1)) (lv' := [(3, .int (x3 + 1)), (0, .ref (a 0)), (1, .int p1), (2, .int p2)]) hx hb d_Bk_turn_46 hl (k := 3) rfl rfl (by decide) rfl (fun ls hl => ?_)
            refine lv_goto (tgt := 13) hx hb d_Bk_turn_49 (by decide) ?_
            exact ih13 (x3 + 1) q5 _ _ _ hP hS (lv_sub hl [1, 2, 3, 0] rfl) hk
  refine lv_aload_n hx hb d_Bk_turn_0 rfl (lv_at hl 0 rfl) ?_
  refine lv_iconst (v := 0) hx hb d_Bk_turn_1 (by decide) ?_
  refine va_put (D := D) (ci := 0) (v := .int 0) (ty := .int) (C := R_Bk) (T := F_Bk) (N := 9) hx hb hts i_uBk t_Bk t_Bk_ok n_Bk hown hK hP (hDw _) hS 0 rfl rfl 8 (by decide) (hts _ mw_102) (fun _ h9 => h9) rfl (t_Bk_ok 8 (by decide)) rfl rfl (Nat.le_of_ble_eq_true rfl) d_Bk_turn_2 (fun H locs hP _ hS => ?_)
  have hP : va_P D cls (wl_Bk a k (σ.1, σ.2.1, σ.2.2.1, σ.2.2.2.1, σ.2.2.2.2.1, σ.2.2.2.2.2.1, σ.2.2.2.2.2.2.1, σ.2.2.2.2.2.2.2.1, 0)) H := hP
  refine lv_aload_n hx hb d_Bk_turn_5 rfl (lv_at hl 0 rfl) ?_
  refine lv_iload_n hx hb d_Bk_turn_6 rfl (lv_at hl 1 rfl) ?_
  refine lv_iload_n hx hb d_Bk_turn_7 rfl (lv_at hl 2 rfl) ?_
  obtain ⟨q6, e6, hk⟩ := ob_s hk
  refine kc_Mv (wF := wl_Bk a k q6) (va_runV (As := [.int p1, .int p2]) (rest := []) ⟨hx, hb, hml, hown, hts⟩ (c_Bk_turnOne l D a k _ (σ.1, σ.2.1, σ.2.2.1, σ.2.2.2.1, σ.2.2.2.2.1, σ.2.2.2.2.2.1, σ.2.2.2.2.2.2.1, σ.2.2.2.2.2.2.2.1, 0) p1 p2 q6 e6) (cwV 2 hts (gV mw_331 mw_333 mw_3 mw_30 mw_334) rfl rfl rfl hd_Bk_turnOne ⟨Nat.le_of_ble_eq_true rfl, Nat.le_of_ble_eq_true rfl⟩) (kp_V (ci := 0) (q := (R_Bk, F_Bk, 9)) (q0 := 0) hK hP (hDt _) rfl rfl) rfl rfl hl.1 rfl (lv_room (Nat.le_of_ble_eq_true rfl)) d_Bk_turn_8 ⟨Nat.zero_le _, Nat.zero_le _⟩) hS (hDw _) hA (fun _ _ h _ => h) (fun H locs hP hS => ?_)
  refine lv_iconst (v := 1) hx hb d_Bk_turn_11 (by decide) ?_
  refine lv_istore_n (lv' := [(3, .int 1), (0, .ref (a 0)), (1, .int p1), (2, .int p2)]) hx hb d_Bk_turn_12 rfl hl (by decide) rfl (fun ls hl => ?_)
  exact L13 FU 1 q6 _ _ _ hP hS (lv_sub hl [1, 2, 3, 0] rfl) hk
set_option maxHeartbeats 4000000 in
set_option maxRecDepth 100000 in
theorem c_Bk_turnedSize (l : Launch) (D : va_G) (a : Nat → Nat) (k : Nat → ClassId) (sz : Nat) (σ : S_Bk) (r0 : Int32) (hk : kf_Bk_turnedSize σ = some r0) : Met l y_Bk_turnedSize w_Bk_turnedSize ({ frames := 0, cells := 0, slots := 0, locals := 0 }) (kp_P D cls (ty_Bk k) (wl_Bk a k σ) [.ref (a 0)] sz) (kp_R sz r0) 0 0 (va_A [] sz) := by
  refine Met.ofW (cc := b_Bk_turnedSize) (maxL := 1) (ret := (some .int)) (by decide) rfl ?_
  intro p e s m args below meth c s₁ B hml hv
  obtain ⟨rfl, hsz, hP, hK, hD0⟩ := hv
  have hx := B.exec
  have hb := B.bytes
  have hr := B.returns
  have hts : ∀ w ∈ lw_g, w.before _ s = true := fun w h => atoms_spec (ws := w_Bk_turnedSize) B.pre w (List.mem_cons_of_mem _ h)
  have hown : s.vm.findClass R_Bk = some m.cls := findClass_of_methodNamed B.named
  have hlocks := B.notSynchronized
  subst hsz
  have hA : ∀ q : Nat, s.heap.size ≤ q → (va_A ([]) s.heap.size) q := fun _ h => Or.inr h
  have hDt : ∀ τ, va_D (fun _ => True) (wl_Bk a k τ) := fun τ => kd_cg hD0 rfl
  have hS : va_S (va_A ([]) s.heap.size) s.heap s.heap [] := va_S.rf
  have hl := lv_entry ([.ref (a 0)]) (n := 1) (Nat.le_of_ble_eq_true rfl)
  rw [lg_entry_eq]
  generalize (lg_sl ([.ref (a 0)]) ++ List.replicate (1 - (lg_sl ([.ref (a 0)])).length) Slot.unset).toArray = ls at hl ⊢
  have hl : lv_has ls 1 [(0, .ref (a 0))] := hl
  unfold kf_Bk_turnedSize at hk
  refine lv_aload_n hx hb d_Bk_turnedSize_0 rfl (lv_at hl 0 rfl) ?_
  refine va_get (D := D) (ci := 0) (v := .int σ.2.2.2.2.2.2.2.2) (C := R_Bk) (T := F_Bk) (N := 9) hx hb hts i_uBk hown hK hP 0 rfl rfl 8 (by decide) (hts _ mw_102) (fun _ h9 => h9) rfl d_Bk_turnedSize_1 ?_
  exact kr_R hx hb hr rfl hlocks hS hk d_Bk_turnedSize_4
set_option maxHeartbeats 4000000 in
set_option maxRecDepth 100000 in
theorem c_Bk_turnedThing (l : Launch) (D : va_G) (a : Nat → Nat) (k : Nat → ClassId) (sz : Nat) (σ : S_Bk) (p1 : Int32) (r0 : Int32) (hk : kf_Bk_turnedThing σ p1 = some r0) : Met l y_Bk_turnedThing w_Bk_turnedThing ({ frames := 0, cells := 0, slots := 0, locals := 0 }) (kp_P D cls (ty_Bk k) (wl_Bk a k σ) [.ref (a 0), .int p1] sz) (kp_R sz r0) 0 0 (va_A [] sz) := by
  refine Met.ofW (cc := b_Bk_turnedThing) (maxL := 2) (ret := (some .int)) (by decide) rfl ?_
  intro p e s m args below meth c s₁ B hml hv
  obtain ⟨rfl, hsz, hP, hK, hD0⟩ := hv
  have hx := B.exec
  have hb := B.bytes
  have hr := B.returns
  have hts : ∀ w ∈ lw_g, w.before _ s = true := fun w h => atoms_spec (ws := w_Bk_turnedThing) B.pre w (List.mem_cons_of_mem _ h)
  have hown : s.vm.findClass R_Bk = some m.cls := findClass_of_methodNamed B.named
  have hlocks := B.notSynchronized
  subst hsz
  have hA : ∀ q : Nat, s.heap.size ≤ q → (va_A ([]) s.heap.size) q := fun _ h => Or.inr h
  have hDt : ∀ τ, va_D (fun _ => True) (wl_Bk a k τ) := fun τ => kd_cg hD0 rfl
  have hS : va_S (va_A ([]) s.heap.size) s.heap s.heap [] := va_S.rf
  have hl := lv_entry ([.ref (a 0), .int p1]) (n := 2) (Nat.le_of_ble_eq_true rfl)
  rw [lg_entry_eq]
  generalize (lg_sl ([.ref (a 0), .int p1]) ++ List.replicate (2 - (lg_sl ([.ref (a 0), .int p1])).length) Slot.unset).toArray = ls at hl ⊢
  have hl : lv_has ls 2 [(0, .ref (a 0)), (1, .int p1)] := hl
  unfold kf_Bk_turnedThing at hk
  refine lv_aload_n hx hb d_Bk_turnedThing_0 rfl (lv_at hl 0 rfl) ?_
  refine va_get (D := D) (ci := 0) (v := .ref (a 7)) (C := R_Bk) (T := F_Bk) (N := 9) hx hb hts i_uBk hown hK hP 0 rfl rfl 7 (by decide) (hts _ mw_101) (fun _ h9 => h9) rfl d_Bk_turnedThing_1 ?_
  refine lv_iload_n hx hb d_Bk_turnedThing_4 rfl (lv_at hl 1 rfl) ?_
  obtain ⟨h1, hk⟩ := gd_in hk
  refine va_iald hx hb hK hP 7 6 rfl rfl h1 d_Bk_turnedThing_5 ?_
  exact kr_R hx hb hr rfl hlocks hS hk d_Bk_turnedThing_6
