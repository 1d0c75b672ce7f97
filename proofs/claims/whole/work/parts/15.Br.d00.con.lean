set_option maxHeartbeats 4000000 in
set_option maxRecDepth 100000 in
theorem c_Br_isWithin (l : Launch) (D : va_G) (sz : Nat) (p0 p1 p2 : Int32) (r0 : Int32) (hk : kf_Br_isWithin p0 p1 p2 = some r0) : Met l y_Br_isWithin w_Br_isWithin ({ frames := 0, cells := 0, slots := 0, locals := 0 }) (kp_P D cls ([]) ([]) [.int p0, .int p1, .int p2] sz) (kp_R sz r0) 0 0 (va_A [] sz) := by
  refine Met.ofW (cc := b_Br_isWithin) (maxL := 3) (ret := (some .boolean)) (by decide) rfl ?_
  intro p e s m args below meth c s₁ B hml hv
  obtain ⟨rfl, hsz, hP, hK, hD0⟩ := hv
  have hx := B.exec
  have hb := B.bytes
  have hr := B.returns
  have hts : ∀ w ∈ lw_g, w.before _ s = true := fun w h => atoms_spec (ws := w_Br_isWithin) B.pre w (List.mem_cons_of_mem _ h)
  have hown : s.vm.findClass R_Br = some m.cls := findClass_of_methodNamed B.named
  have hlocks := B.notSynchronized
  subst hsz
  have hA : ∀ q : Nat, s.heap.size ≤ q → (va_A ([]) s.heap.size) q := fun _ h => Or.inr h
  have hS : va_S (va_A ([]) s.heap.size) s.heap s.heap [] := va_S.rf
  have hl := lv_entry ([.int p0, .int p1, .int p2]) (n := 3) (Nat.le_of_ble_eq_true rfl)
  rw [lg_entry_eq]
  generalize (lg_sl ([.int p0, .int p1, .int p2]) ++ List.replicate (3 - (lg_sl ([.int p0, .int p1, .int p2])).length) Slot.unset).toArray = ls at hl ⊢
  have hl : lv_has ls 3 [(0, .int p0), (1, .int p1), (2, .int p2)] := hl
  unfold kf_Br_isWithin at hk
  refine lv_iload_n hx hb d_Br_isWithin_0 rfl (lv_at hl 1 rfl) ?_
  refine lv_iload_n hx hb d_Br_isWithin_1 rfl (lv_at hl 0 rfl) ?_
  refine lv_icmp_gt (tgt := 14) hx hb d_Br_isWithin_2 (by decide) (fun c1 => ?_) (fun c1 => ?_)
  · have hk := br_p c1 hk
    refine lv_iconst (v := 0) hx hb d_Br_isWithin_14 (by decide) ?_
    exact kr_R hx hb hr (by decide) hlocks hS hk d_Br_isWithin_15
  · have hk := br_n c1 hk
    refine lv_iload_n hx hb d_Br_isWithin_5 rfl (lv_at hl 0 rfl) ?_
    refine lv_iload_n hx hb d_Br_isWithin_6 rfl (lv_at hl 2 rfl) ?_
    refine lv_icmp_gt (tgt := 14) hx hb d_Br_isWithin_7 (by decide) (fun c2 => ?_) (fun c2 => ?_)
    · have hk := br_p c2 hk
      refine lv_iconst (v := 0) hx hb d_Br_isWithin_14 (by decide) ?_
      exact kr_R hx hb hr (by decide) hlocks hS hk d_Br_isWithin_15
    · have hk := br_n c2 hk
      refine lv_iconst (v := 1) hx hb d_Br_isWithin_10 (by decide) ?_
      refine lv_goto (tgt := 15) hx hb d_Br_isWithin_11 (by decide) ?_
      exact kr_R hx hb hr (by decide) hlocks hS hk d_Br_isWithin_15
set_option maxHeartbeats 4000000 in
set_option maxRecDepth 100000 in
theorem c_Br_isPlace (l : Launch) (D : va_G) (sz : Nat) (p0 : Int32) (r0 : Int32) (hk : kf_Br_isPlace p0 = some r0) : Met l y_Br_isPlace w_Br_isPlace ({ frames := 1, cells := 0, slots := 0, locals := 22 }) (kp_P D cls ([]) ([]) [.int p0] sz) (kp_R sz r0) 0 0 (va_A [] sz) := by
  refine Met.ofW (cc := b_Br_isPlace) (maxL := 1) (ret := (some .boolean)) (by decide) rfl ?_
  intro p e s m args below meth c s₁ B hml hv
  obtain ⟨rfl, hsz, hP, hK, hD0⟩ := hv
  have hx := B.exec
  have hb := B.bytes
  have hr := B.returns
  have hts : ∀ w ∈ lw_g, w.before _ s = true := fun w h => atoms_spec (ws := w_Br_isPlace) B.pre w (List.mem_cons_of_mem _ h)
  have hown : s.vm.findClass R_Br = some m.cls := findClass_of_methodNamed B.named
  have hlocks := B.notSynchronized
  subst hsz
  have hA : ∀ q : Nat, s.heap.size ≤ q → (va_A ([]) s.heap.size) q := fun _ h => Or.inr h
  have hK0 : va_K D cls [] s := hK.sub [] rfl
  have hS : va_S (va_A ([]) s.heap.size) s.heap s.heap [] := va_S.rf
  have hl := lv_entry ([.int p0]) (n := 1) (Nat.le_of_ble_eq_true rfl)
  rw [lg_entry_eq]
  generalize (lg_sl ([.int p0]) ++ List.replicate (1 - (lg_sl ([.int p0])).length) Slot.unset).toArray = ls at hl ⊢
  have hl : lv_has ls 1 [(0, .int p0)] := hl
  unfold kf_Br_isPlace at hk
  refine lv_iload_n hx hb d_Br_isPlace_0 rfl (lv_at hl 0 rfl) ?_
  refine lv_iconst (v := 0) hx hb d_Br_isPlace_1 (by decide) ?_
  refine lv_iconst (v := 3) hx hb d_Br_isPlace_2 (by decide) ?_
  obtain ⟨q1, e1, hk⟩ := ob_s hk
  refine kc_R (va_runS (As := [.int p0, .int 0, .int 3]) (rest := []) ⟨hx, hb, hml, hown, hts⟩ (c_Br_isWithin l D _ p0 0 3 q1 e1) (cwS 3 hts (gS mw_184 mw_185 mw_27 mw_186) rfl rfl rfl hd_Br_isWithin ⟨Nat.le_of_ble_eq_true rfl, Nat.le_of_ble_eq_true rfl⟩) (kp_S hK0) rfl rfl hl.1 rfl (lv_room (Nat.le_of_ble_eq_true rfl)) d_Br_isPlace_3 ⟨Nat.zero_le _, Nat.zero_le _⟩) hS hA hP (fun H locs hP hS => ?_)
  obtain ⟨h2, hk⟩ := gd_in hk
  exact kr_R hx hb hr (kn_b h2) hlocks hS hk d_Br_isPlace_6
set_option maxHeartbeats 4000000 in
set_option maxRecDepth 100000 in
theorem c_Br_thing (l : Launch) (D : va_G) (a : Nat → Nat → Nat) (k : Nat → Nat → ClassId) (sz : Nat) (σ : S_Br) (p1 p2 p3 p4 p5 : Int32) (r0 : Int32 × S_Br) (hk : kf_Br_thing σ p1 p2 p3 p4 p5 = some r0) : Met l y_Br_thing w_Br_thing ({ frames := 2, cells := 0, slots := 0, locals := 42 }) (kp_P D cls (ty_Br k) (wl_Br a k σ) [.ref (a 0 0), .int p1, .int p2, .int p3, .int p4, .int p5] sz) (kp_M D cls (wl_Br a k r0.2) (wl_Br a k σ) sz r0.1) 0 0 (va_A (wl_Br a k σ) sz) := by
  refine Met.ofW (cc := b_Br_thing) (maxL := 8) (ret := (some .int)) (by decide) rfl ?_
  intro p e s m args below meth c s₁ B hml hv
  obtain ⟨rfl, hsz, hP, hK, hD0⟩ := hv
  have hx := B.exec
  have hb := B.bytes
  have hr := B.returns
  have hts : ∀ w ∈ lw_g, w.before _ s = true := fun w h => atoms_spec (ws := w_Br_thing) B.pre w (List.mem_cons_of_mem _ h)
  have hown : s.vm.findClass R_Br = some m.cls := findClass_of_methodNamed B.named
  have hlocks := B.notSynchronized
  subst hsz
  have hA : ∀ q : Nat, s.heap.size ≤ q → (va_A (wl_Br a k σ) s.heap.size) q := fun _ h => Or.inr h
  have hDt : ∀ τ, va_D (fun _ => True) (wl_Br a k τ) := fun τ => kd_cg hD0 rfl
  have hDw : ∀ τ, va_D (va_A (wl_Br a k σ) s.heap.size) (wl_Br a k τ) := fun τ => kd_cg hD0.self rfl
  have hK1 := sK_Br_Ca hK
  have hDt1 : ∀ τ, va_D (fun _ => True) (wl_Ca (a 1) (k 1) τ) := fun τ => kd_cg (sD_Br_Ca hD0) rfl
  have hDw1 : ∀ τ, va_D (va_A (wl_Br a k σ) s.heap.size) (wl_Ca (a 1) (k 1) τ) := fun τ => kd_cg (sD_Br_Ca (hDw σ)) rfl
  have hK2 := sK_Br_Th hK
  have hDt2 : ∀ τ, va_D (fun _ => True) (wl_Th (a 2) (k 2) τ) := fun τ => kd_cg (sD_Br_Th hD0) rfl
  have hDw2 : ∀ τ, va_D (va_A (wl_Br a k σ) s.heap.size) (wl_Th (a 2) (k 2) τ) := fun τ => kd_cg (sD_Br_Th (hDw σ)) rfl
  have hK3 := sK_Br_Bk hK
  have hDt3 : ∀ τ, va_D (fun _ => True) (wl_Bk (a 3) (k 3) τ) := fun τ => kd_cg (sD_Br_Bk hD0) rfl
  have hDw3 : ∀ τ, va_D (va_A (wl_Br a k σ) s.heap.size) (wl_Bk (a 3) (k 3) τ) := fun τ => kd_cg (sD_Br_Bk (hDw σ)) rfl
  have hK4 := sK_Br_Wi hK
  have hDt4 : ∀ τ, va_D (fun _ => True) (wl_Wi (a 4) (k 4) τ) := fun τ => kd_cg (sD_Br_Wi hD0) rfl
  have hDw4 : ∀ τ, va_D (va_A (wl_Br a k σ) s.heap.size) (wl_Wi (a 4) (k 4) τ) := fun τ => kd_cg (sD_Br_Wi (hDw σ)) rfl
  have hK5 := sK_Br_Pe hK
  have hDt5 : ∀ τ, va_D (fun _ => True) (wl_Pe (a 5) (k 5) τ) := fun τ => kd_cg (sD_Br_Pe hD0) rfl
  have hDw5 : ∀ τ, va_D (va_A (wl_Br a k σ) s.heap.size) (wl_Pe (a 5) (k 5) τ) := fun τ => kd_cg (sD_Br_Pe (hDw σ)) rfl
  have hK0 : va_K D cls [] s := hK.sub [] rfl
  have hS : va_S (va_A (wl_Br a k σ) s.heap.size) s.heap s.heap [] := va_S.rf
  have hl := lv_entry ([.ref (a 0 0), .int p1, .int p2, .int p3, .int p4, .int p5]) (n := 8) (Nat.le_of_ble_eq_true rfl)
  rw [lg_entry_eq]
  generalize (lg_sl ([.ref (a 0 0), .int p1, .int p2, .int p3, .int p4, .int p5]) ++ List.replicate (8 - (lg_sl ([.ref (a 0 0), .int p1, .int p2, .int p3, .int p4, .int p5])).length) Slot.unset).toArray = ls at hl ⊢
  have hl : lv_has ls 8 [(0, .ref (a 0 0)), (1, .int p1), (2, .int p2), (3, .int p3), (4, .int p4), (5, .int p5)] := hl
  unfold kf_Br_thing at hk
  have J51 : ∀ (x6 : Int32) (y0 : Int32) (τ : S_Br) (H : Heap) (locs : List Loc) (ls : Array Slot), va_P D cls (wl_Br a k τ) H → va_S (va_A (wl_Br a k σ) s.heap.size) s.heap H locs → lv_has ls 8 [(0, .ref (a 0 0)), (1, .int p1), (2, .int p2), (3, .int p3), (4, .int p4), (5, .int p5), (6, .int x6)] → kf_Br_thing_51 p1 p2 p3 p4 p5 x6 y0 τ = some r0 → W p l e (headSpec w_Br_thing ({ frames := 2, cells := 0, slots := 0, locals := 42 })).room s m [.ref (a 0 0), .int p1, .int p2, .int p3, .int p4, .int p5].toArray below meth c H locs 0 0 (MQ below (kp_M D cls (wl_Br a k r0.2) (wl_Br a k σ) s.heap.size r0.1) [.ref (a 0 0), .int p1, .int p2, .int p3, .int p4, .int p5].toArray s 0 0 (va_A (wl_Br a k σ) s.heap.size)) (F0 m 51 ls [.int y0]) := by
    intro x6 y0 τ H locs ls hP hS hl hk
    unfold kf_Br_thing_51 at hk
    refine lv_istore (lv' := [(7, .int y0), (0, .ref (a 0 0)), (1, .int p1), (2, .int p2), (3, .int p3), (4, .int p4), (5, .int p5), (6, .int x6)]) hx hb d_Br_thing_51 hl (by decide) rfl (fun ls hl => ?_)
    refine lv_iload_n hx hb d_Br_thing_53 rfl (lv_at hl 2 rfl) ?_
    obtain ⟨q1, e1, hk⟩ := ob_s hk
    refine kc_R (va_runS (As := [.int p1]) (rest := []) ⟨hx, hb, hml, hown, hts⟩ (c_Br_isPlace l D _ p1 q1 e1) (cwS 1 hts (gS mw_187 mw_188 mw_27 mw_189) rfl rfl rfl hd_Br_isPlace ⟨Nat.le_of_ble_eq_true rfl, Nat.le_of_ble_eq_true rfl⟩) (kp_S hK0) rfl rfl hl.1 rfl (lv_room (Nat.le_of_ble_eq_true rfl)) d_Br_thing_54 ⟨Nat.zero_le _, Nat.zero_le _⟩) hS hA hP (fun H locs hP hS => ?_)
    refine lv_if_eq (tgt := 80) hx hb d_Br_thing_57 (by decide) (fun c2 => ?_) (fun c2 => ?_)
    · have hk := br_p c2 hk
      refine lv_iconst (v := -1) hx hb d_Br_thing_80 (by decide) ?_
      exact kr_M (w := wl_Br a k) hx hb hr rfl hlocks hS hP hk d_Br_thing_81
    · have hk := br_n c2 hk
      refine lv_iload hx hb d_Br_thing_60 (lv_at hl 7 rfl) ?_
      refine lv_if_eq (tgt := 80) hx hb d_Br_thing_62 (by decide) (fun c3 => ?_) (fun c3 => ?_)
      · have hk := br_p c3 hk
        refine lv_iconst (v := -1) hx hb d_Br_thing_80 (by decide) ?_
        exact kr_M (w := wl_Br a k) hx hb hr rfl hlocks hS hP hk d_Br_thing_81
      · have hk := br_n c3 hk
        refine lv_iload hx hb d_Br_thing_65 (lv_at hl 0 rfl) ?_
        refine lv_if_eq (tgt := 80) hx hb d_Br_thing_67 (by decide) (fun c4 => ?_) (fun c4 => ?_)
        · have hk := br_p c4 hk
          refine lv_iconst (v := -1) hx hb d_Br_thing_80 (by decide) ?_
          exact kr_M (w := wl_Br a k) hx hb hr rfl hlocks hS hP hk d_Br_thing_81
        · have hk := br_n c4 hk
          refine lv_aload_n hx hb d_Br_thing_70 rfl (lv_at hl 1 rfl) ?_
          refine va_get (D := D) (ci := 5) (v := .ref (a 2 0)) (C := R_Br) (T := F_Br) (N := 6) hx hb hts i_uBr hown hK hP 0 rfl rfl 1 (by decide) (hts _ mw_161) (fun _ h9 => h9) rfl d_Br_thing_71 ?_
          obtain ⟨q5, e5, hk⟩ := ob_s hk
          refine kc_R (va_runV (As := []) (rest := []) ⟨hx, hb, hml, hown, hts⟩ (c_Th_isFull l D (a 2) (k 2) _ τ.2.1 q5 e5) (cwV 0 hts (gV mw_190 mw_191 mw_192 mw_29 mw_193) rfl rfl rfl hd_Th_isFull ⟨Nat.le_of_ble_eq_true rfl, Nat.le_of_ble_eq_true rfl⟩) (kp_V (ci := 3) (q := (R_Th, F_Th, 6)) (q0 := 0) hK2 (sP_Br_Th (σ := τ) hP) (hDt2 _) rfl rfl) rfl rfl hl.1 rfl (lv_room (Nat.le_of_ble_eq_true rfl)) d_Br_thing_74 ⟨Nat.zero_le _, Nat.zero_le _⟩) hS hA hP (fun H locs hP hS => ?_)
          refine lv_if_eq (tgt := 82) hx hb d_Br_thing_77 (by decide) (fun c6 => ?_) (fun c6 => ?_)
          · have hk := br_p c6 hk
            refine lv_aload_n hx hb d_Br_thing_82 rfl (lv_at hl 1 rfl) ?_
            refine va_get (D := D) (ci := 5) (v := .ref (a 2 0)) (C := R_Br) (T := F_Br) (N := 6) hx hb hts i_uBr hown hK hP 0 rfl rfl 1 (by decide) (hts _ mw_161) (fun _ h9 => h9) rfl d_Br_thing_83 ?_
            refine lv_iload_n hx hb d_Br_thing_86 rfl (lv_at hl 2 rfl) ?_
            refine lv_iload_n hx hb d_Br_thing_87 rfl (lv_at hl 3 rfl) ?_
            refine lv_iload_n hx hb d_Br_thing_88 rfl (lv_at hl 4 rfl) ?_
            refine lv_iload hx hb d_Br_thing_89 (lv_at hl 5 rfl) ?_
            refine lv_iload hx hb d_Br_thing_91 (lv_at hl 6 rfl) ?_
            obtain ⟨q7, e7, hk⟩ := ob_s hk
            refine kc_M (wF := wl_Br a k (τ.1, q7.2, τ.2.2.1, τ.2.2.2.1, τ.2.2.2.2.1, τ.2.2.2.2.2)) (va_runV (As := [.int p1, .int p2, .int p3, .int p4, .int p5]) (rest := []) ⟨hx, hb, hml, hown, hts⟩ (c_Th_add l D (a 2) (k 2) _ τ.2.1 p1 p2 p3 p4 p5 q7 e7) (cwV 5 hts (gV mw_194 mw_195 mw_196 mw_29 mw_197) rfl rfl rfl hd_Th_add ⟨Nat.le_of_ble_eq_true rfl, Nat.le_of_ble_eq_true rfl⟩) (kp_V (ci := 3) (q := (R_Th, F_Th, 6)) (q0 := 0) hK2 (sP_Br_Th (σ := τ) hP) (hDt2 _) rfl rfl) rfl rfl hl.1 rfl (lv_room (Nat.le_of_ble_eq_true rfl)) d_Br_thing_93 ⟨Nat.zero_le _, Nat.zero_le _⟩) hS (hDw2 _) hA (fun _ _ h h9 => jP_Br_Th τ q7.2 hP (hDt _) h h9) (fun H locs hP hS => ?_)
            exact kr_M (w := wl_Br a k) hx hb hr rfl hlocks hS hP hk d_Br_thing_96
          · have hk := br_n c6 hk
            refine lv_iconst (v := -1) hx hb d_Br_thing_80 (by decide) ?_
            exact kr_M (w := wl_Br a k) hx hb hr rfl hlocks hS hP hk d_Br_thing_81
  have J22 : ∀ (y0 : Int32) (τ : S_Br) (H : Heap) (locs : List Loc) (ls : Array Slot), va_P D cls (wl_Br a k τ) H → va_S (va_A (wl_Br a k σ) s.heap.size) s.heap H locs → lv_has ls 8 [(0, .ref (a 0 0)), (1, .int p1), (2, .int p2), (3, .int p3), (4, .int p4), (5, .int p5)] → kf_Br_thing_22 p1 p2 p3 p4 p5 y0 τ = some r0 → W p l e (headSpec w_Br_thing ({ frames := 2, cells := 0, slots := 0, locals := 42 })).room s m [.ref (a 0 0), .int p1, .int p2, .int p3, .int p4, .int p5].toArray below meth c H locs 0 0 (MQ below (kp_M D cls (wl_Br a k r0.2) (wl_Br a k σ) s.heap.size r0.1) [.ref (a 0 0), .int p1, .int p2, .int p3, .int p4, .int p5].toArray s 0 0 (va_A (wl_Br a k σ) s.heap.size)) (F0 m 22 ls [.int y0]) := by
    intro y0 τ H locs ls hP hS hl hk
    unfold kf_Br_thing_22 at hk
    refine lv_istore (lv' := [(6, .int y0), (0, .ref (a 0 0)), (1, .int p1), (2, .int p2), (3, .int p3), (4, .int p4), (5, .int p5)]) hx hb d_Br_thing_22 hl (by decide) rfl (fun ls hl => ?_)
    refine lv_iload hx hb d_Br_thing_24 (lv_at hl 5 rfl) ?_
    refine lv_iconst (v := 0) hx hb d_Br_thing_26 (by decide) ?_
    refine lv_ldc (v := 100000) hx hb hown (hts _ mw_183) d_Br_thing_27 ?_
    obtain ⟨q8, e8, hk⟩ := ob_s hk
    refine kc_R (va_runS (As := [.int p4, .int 0, .int 100000]) (rest := []) ⟨hx, hb, hml, hown, hts⟩ (c_Br_isWithin l D _ p4 0 100000 q8 e8) (cwS 3 hts (gS mw_184 mw_185 mw_27 mw_186) rfl rfl rfl hd_Br_isWithin ⟨Nat.le_of_ble_eq_true rfl, Nat.le_of_ble_eq_true rfl⟩) (kp_S hK0) rfl rfl hl.1 rfl (lv_room (Nat.le_of_ble_eq_true rfl)) d_Br_thing_29 ⟨Nat.zero_le _, Nat.zero_le _⟩) hS hA hP (fun H locs hP hS => ?_)
    refine lv_if_eq (tgt := 50) hx hb d_Br_thing_32 (by decide) (fun c9 => ?_) (fun c9 => ?_)
    · have hk := br_p c9 hk
      refine lv_iconst (v := 0) hx hb d_Br_thing_50 (by decide) ?_
      exact J51 y0 0 τ _ _ _ hP hS (lv_sub hl [1, 2, 3, 4, 5, 6, 0] rfl) hk
    · have hk := br_n c9 hk
      refine lv_iload hx hb d_Br_thing_35 (lv_at hl 6 rfl) ?_
      refine lv_iconst (v := 0) hx hb d_Br_thing_37 (by decide) ?_
      refine lv_bipush (v := 120) hx hb d_Br_thing_38 (by decide) ?_
      obtain ⟨q10, e10, hk⟩ := ob_s hk
      refine kc_R (va_runS (As := [.int p5, .int 0, .int 120]) (rest := []) ⟨hx, hb, hml, hown, hts⟩ (c_Br_isWithin l D _ p5 0 120 q10 e10) (cwS 3 hts (gS mw_184 mw_185 mw_27 mw_186) rfl rfl rfl hd_Br_isWithin ⟨Nat.le_of_ble_eq_true rfl, Nat.le_of_ble_eq_true rfl⟩) (kp_S hK0) rfl rfl hl.1 rfl (lv_room (Nat.le_of_ble_eq_true rfl)) d_Br_thing_40 ⟨Nat.zero_le _, Nat.zero_le _⟩) hS hA hP (fun H locs hP hS => ?_)
      refine lv_if_eq (tgt := 50) hx hb d_Br_thing_43 (by decide) (fun c11 => ?_) (fun c11 => ?_)
      · have hk := br_p c11 hk
        refine lv_iconst (v := 0) hx hb d_Br_thing_50 (by decide) ?_
        exact J51 y0 0 τ _ _ _ hP hS (lv_sub hl [1, 2, 3, 4, 5, 6, 0] rfl) hk
      · have hk := br_n c11 hk
        refine lv_iconst (v := 1) hx hb d_Br_thing_46 (by decide) ?_
        refine lv_goto (tgt := 51) hx hb d_Br_thing_47 (by decide) ?_
        exact J51 y0 1 τ _ _ _ hP hS (lv_sub hl [1, 2, 3, 4, 5, 6, 0] rfl) hk
  refine lv_iconst (v := 1) hx hb d_Br_thing_0 (by decide) ?_
  refine lv_iload_n hx hb d_Br_thing_1 rfl (lv_at hl 2 rfl) ?_
  refine lv_icmp_gt (tgt := 21) hx hb d_Br_thing_2 (by decide) (fun c12 => ?_) (fun c12 => ?_)
  · have hk := br_p c12 hk
    refine lv_iconst (v := 0) hx hb d_Br_thing_21 (by decide) ?_
    exact J22 0 σ _ _ _ hP hS (lv_sub hl [0, 1, 2, 3, 4, 5] rfl) hk
  · have hk := br_n c12 hk
    refine lv_iload_n hx hb d_Br_thing_5 rfl (lv_at hl 2 rfl) ?_
    refine lv_iload_n hx hb d_Br_thing_6 rfl (lv_at hl 3 rfl) ?_
    refine lv_icmp_gt (tgt := 21) hx hb d_Br_thing_7 (by decide) (fun c13 => ?_) (fun c13 => ?_)
    · have hk := br_p c13 hk
      refine lv_iconst (v := 0) hx hb d_Br_thing_21 (by decide) ?_
      exact J22 0 σ _ _ _ hP hS (lv_sub hl [0, 1, 2, 3, 4, 5] rfl) hk
    · have hk := br_n c13 hk
      refine lv_iload_n hx hb d_Br_thing_10 rfl (lv_at hl 3 rfl) ?_
      refine lv_sipush (v := 1440) hx hb d_Br_thing_11 (by decide) ?_
      refine lv_icmp_gt (tgt := 21) hx hb d_Br_thing_14 (by decide) (fun c14 => ?_) (fun c14 => ?_)
      · have hk := br_p c14 hk
        refine lv_iconst (v := 0) hx hb d_Br_thing_21 (by decide) ?_
        exact J22 0 σ _ _ _ hP hS (lv_sub hl [0, 1, 2, 3, 4, 5] rfl) hk
      · have hk := br_n c14 hk
        refine lv_iconst (v := 1) hx hb d_Br_thing_17 (by decide) ?_
        refine lv_goto (tgt := 22) hx hb d_Br_thing_18 (by decide) ?_
        exact J22 1 σ _ _ _ hP hS (lv_sub hl [0, 1, 2, 3, 4, 5] rfl) hk
set_option maxHeartbeats 4000000 in
set_option maxRecDepth 100000 in
theorem c_Br_hours (l : Launch) (D : va_G) (a : Nat → Nat → Nat) (k : Nat → Nat → ClassId) (sz : Nat) (σ : S_Br) (p1 p2 p3 p4 : Int32) (r0 : Int32 × S_Br) (hk : kf_Br_hours σ p1 p2 p3 p4 = some r0) : Met l y_Br_hours w_Br_hours ({ frames := 2, cells := 0, slots := 0, locals := 42 }) (kp_P D cls (ty_Br k) (wl_Br a k σ) [.ref (a 0 0), .int p1, .int p2, .int p3, .int p4] sz) (kp_M D cls (wl_Br a k r0.2) (wl_Br a k σ) sz r0.1) 0 0 (va_A (wl_Br a k σ) sz) := by
  refine Met.ofW (cc := b_Br_hours) (maxL := 7) (ret := (some .int)) (by decide) rfl ?_
  intro p e s m args below meth c s₁ B hml hv
  obtain ⟨rfl, hsz, hP, hK, hD0⟩ := hv
  have hx := B.exec
  have hb := B.bytes
  have hr := B.returns
  have hts : ∀ w ∈ lw_g, w.before _ s = true := fun w h => atoms_spec (ws := w_Br_hours) B.pre w (List.mem_cons_of_mem _ h)
  have hown : s.vm.findClass R_Br = some m.cls := findClass_of_methodNamed B.named
  have hlocks := B.notSynchronized
  subst hsz
  have hA : ∀ q : Nat, s.heap.size ≤ q → (va_A (wl_Br a k σ) s.heap.size) q := fun _ h => Or.inr h
  have hDt : ∀ τ, va_D (fun _ => True) (wl_Br a k τ) := fun τ => kd_cg hD0 rfl
  have hDw : ∀ τ, va_D (va_A (wl_Br a k σ) s.heap.size) (wl_Br a k τ) := fun τ => kd_cg hD0.self rfl
  have hK1 := sK_Br_Ca hK
  have hDt1 : ∀ τ, va_D (fun _ => True) (wl_Ca (a 1) (k 1) τ) := fun τ => kd_cg (sD_Br_Ca hD0) rfl
  have hDw1 : ∀ τ, va_D (va_A (wl_Br a k σ) s.heap.size) (wl_Ca (a 1) (k 1) τ) := fun τ => kd_cg (sD_Br_Ca (hDw σ)) rfl
  have hK2 := sK_Br_Th hK
  have hDt2 : ∀ τ, va_D (fun _ => True) (wl_Th (a 2) (k 2) τ) := fun τ => kd_cg (sD_Br_Th hD0) rfl
  have hDw2 : ∀ τ, va_D (va_A (wl_Br a k σ) s.heap.size) (wl_Th (a 2) (k 2) τ) := fun τ => kd_cg (sD_Br_Th (hDw σ)) rfl
  have hK3 := sK_Br_Bk hK
  have hDt3 : ∀ τ, va_D (fun _ => True) (wl_Bk (a 3) (k 3) τ) := fun τ => kd_cg (sD_Br_Bk hD0) rfl
  have hDw3 : ∀ τ, va_D (va_A (wl_Br a k σ) s.heap.size) (wl_Bk (a 3) (k 3) τ) := fun τ => kd_cg (sD_Br_Bk (hDw σ)) rfl
  have hK4 := sK_Br_Wi hK
  have hDt4 : ∀ τ, va_D (fun _ => True) (wl_Wi (a 4) (k 4) τ) := fun τ => kd_cg (sD_Br_Wi hD0) rfl
  have hDw4 : ∀ τ, va_D (va_A (wl_Br a k σ) s.heap.size) (wl_Wi (a 4) (k 4) τ) := fun τ => kd_cg (sD_Br_Wi (hDw σ)) rfl
  have hK5 := sK_Br_Pe hK
  have hDt5 : ∀ τ, va_D (fun _ => True) (wl_Pe (a 5) (k 5) τ) := fun τ => kd_cg (sD_Br_Pe hD0) rfl
  have hDw5 : ∀ τ, va_D (va_A (wl_Br a k σ) s.heap.size) (wl_Pe (a 5) (k 5) τ) := fun τ => kd_cg (sD_Br_Pe (hDw σ)) rfl
  have hK0 : va_K D cls [] s := hK.sub [] rfl
  have hS : va_S (va_A (wl_Br a k σ) s.heap.size) s.heap s.heap [] := va_S.rf
  have hl := lv_entry ([.ref (a 0 0), .int p1, .int p2, .int p3, .int p4]) (n := 7) (Nat.le_of_ble_eq_true rfl)
  rw [lg_entry_eq]
  generalize (lg_sl ([.ref (a 0 0), .int p1, .int p2, .int p3, .int p4]) ++ List.replicate (7 - (lg_sl ([.ref (a 0 0), .int p1, .int p2, .int p3, .int p4])).length) Slot.unset).toArray = ls at hl ⊢
  have hl : lv_has ls 7 [(0, .ref (a 0 0)), (1, .int p1), (2, .int p2), (3, .int p3), (4, .int p4)] := hl
  unfold kf_Br_hours at hk
  have J71 : ∀ (τ : S_Br) (H : Heap) (locs : List Loc) (ls : Array Slot), va_P D cls (wl_Br a k τ) H → va_S (va_A (wl_Br a k σ) s.heap.size) s.heap H locs → lv_has ls 7 [(0, .ref (a 0 0)), (1, .int p1), (2, .int p2), (3, .int p3), (4, .int p4)] → kf_Br_hours_71 p1 p2 p3 p4 τ = some r0 → W p l e (headSpec w_Br_hours ({ frames := 2, cells := 0, slots := 0, locals := 42 })).room s m [.ref (a 0 0), .int p1, .int p2, .int p3, .int p4].toArray below meth c H locs 0 0 (MQ below (kp_M D cls (wl_Br a k r0.2) (wl_Br a k σ) s.heap.size r0.1) [.ref (a 0 0), .int p1, .int p2, .int p3, .int p4].toArray s 0 0 (va_A (wl_Br a k σ) s.heap.size)) (F0 m 71 ls []) := by
    intro τ H locs ls hP hS hl hk
    unfold kf_Br_hours_71 at hk
    refine lv_aload_n hx hb d_Br_hours_71 rfl (lv_at hl 0 rfl) ?_
    refine va_get (D := D) (ci := 5) (v := .ref (a 1 0)) (C := R_Br) (T := F_Br) (N := 6) hx hb hts i_uBr hown hK hP 0 rfl rfl 0 (by decide) (hts _ mw_160) (fun _ h9 => h9) rfl d_Br_hours_72 ?_
    refine lv_iload_n hx hb d_Br_hours_75 rfl (lv_at hl 1 rfl) ?_
    refine lv_iload_n hx hb d_Br_hours_76 rfl (lv_at hl 2 rfl) ?_
    refine lv_iload_n hx hb d_Br_hours_77 rfl (lv_at hl 3 rfl) ?_
    refine lv_iload hx hb d_Br_hours_78 (lv_at hl 4 rfl) ?_
    obtain ⟨q1, e1, hk⟩ := ob_s hk
    refine kc_Mv (wF := wl_Br a k (q1, τ.2.1, τ.2.2.1, τ.2.2.2.1, τ.2.2.2.2.1, τ.2.2.2.2.2)) (va_runV (As := [.int p1, .int p2, .int p3, .int p4]) (rest := []) ⟨hx, hb, hml, hown, hts⟩ (c_Ca_setHours l D (a 1) (k 1) _ τ.1 p1 p2 p3 p4 q1 e1) (cwV 4 hts (gV mw_202 mw_203 mw_204 mw_28 mw_205) rfl rfl rfl hd_Ca_setHours ⟨Nat.le_of_ble_eq_true rfl, Nat.le_of_ble_eq_true rfl⟩) (kp_V (ci := 1) (q := (R_Ca, F_Ca, 4)) (q0 := 0) hK1 (sP_Br_Ca (σ := τ) hP) (hDt1 _) rfl rfl) rfl rfl hl.1 rfl (lv_room (Nat.le_of_ble_eq_true rfl)) d_Br_hours_80 ⟨Nat.zero_le _, Nat.zero_le _⟩) hS (hDw1 _) hA (fun _ _ h h9 => jP_Br_Ca τ q1 hP (hDt _) h h9) (fun H locs hP hS => ?_)
    refine lv_iconst (v := 1) hx hb d_Br_hours_83 (by decide) ?_
    exact kr_M (w := wl_Br a k) hx hb hr rfl hlocks hS hP hk d_Br_hours_84
  have J40 : ∀ (x5 : Int32) (y0 : Int32) (τ : S_Br) (H : Heap) (locs : List Loc) (ls : Array Slot), va_P D cls (wl_Br a k τ) H → va_S (va_A (wl_Br a k σ) s.heap.size) s.heap H locs → lv_has ls 7 [(0, .ref (a 0 0)), (1, .int p1), (2, .int p2), (3, .int p3), (4, .int p4), (5, .int x5)] → kf_Br_hours_40 p1 p2 p3 p4 x5 y0 τ = some r0 → W p l e (headSpec w_Br_hours ({ frames := 2, cells := 0, slots := 0, locals := 42 })).room s m [.ref (a 0 0), .int p1, .int p2, .int p3, .int p4].toArray below meth c H locs 0 0 (MQ below (kp_M D cls (wl_Br a k r0.2) (wl_Br a k σ) s.heap.size r0.1) [.ref (a 0 0), .int p1, .int p2, .int p3, .int p4].toArray s 0 0 (va_A (wl_Br a k σ) s.heap.size)) (F0 m 40 ls [.int y0]) := by
    intro x5 y0 τ H locs ls hP hS hl hk
    unfold kf_Br_hours_40 at hk
    refine lv_istore (lv' := [(6, .int y0), (0, .ref (a 0 0)), (1, .int p1), (2, .int p2), (3, .int p3), (4, .int p4), (5, .int x5)]) hx hb d_Br_hours_40 hl (by decide) rfl (fun ls hl => ?_)
    refine lv_iload_n hx hb d_Br_hours_42 rfl (lv_at hl 2 rfl) ?_
    obtain ⟨q2, e2, hk⟩ := ob_s hk
    refine kc_R (va_runS (As := [.int p1]) (rest := []) ⟨hx, hb, hml, hown, hts⟩ (c_Br_isPlace l D _ p1 q2 e2) (cwS 1 hts (gS mw_187 mw_188 mw_27 mw_189) rfl rfl rfl hd_Br_isPlace ⟨Nat.le_of_ble_eq_true rfl, Nat.le_of_ble_eq_true rfl⟩) (kp_S hK0) rfl rfl hl.1 rfl (lv_room (Nat.le_of_ble_eq_true rfl)) d_Br_hours_43 ⟨Nat.zero_le _, Nat.zero_le _⟩) hS hA hP (fun H locs hP hS => ?_)
    refine lv_if_eq (tgt := 69) hx hb d_Br_hours_46 (by decide) (fun c3 => ?_) (fun c3 => ?_)
    · have hk := br_p c3 hk
      refine lv_iconst (v := 0) hx hb d_Br_hours_69 (by decide) ?_
      exact kr_M (w := wl_Br a k) hx hb hr rfl hlocks hS hP hk d_Br_hours_70
    · have hk := br_n c3 hk
      refine lv_iload_n hx hb d_Br_hours_49 rfl (lv_at hl 3 rfl) ?_
      refine lv_iconst (v := 0) hx hb d_Br_hours_50 (by decide) ?_
      refine lv_bipush (v := 6) hx hb d_Br_hours_51 (by decide) ?_
      obtain ⟨q4, e4, hk⟩ := ob_s hk
      refine kc_R (va_runS (As := [.int p2, .int 0, .int 6]) (rest := []) ⟨hx, hb, hml, hown, hts⟩ (c_Br_isWithin l D _ p2 0 6 q4 e4) (cwS 3 hts (gS mw_184 mw_185 mw_27 mw_186) rfl rfl rfl hd_Br_isWithin ⟨Nat.le_of_ble_eq_true rfl, Nat.le_of_ble_eq_true rfl⟩) (kp_S hK0) rfl rfl hl.1 rfl (lv_room (Nat.le_of_ble_eq_true rfl)) d_Br_hours_53 ⟨Nat.zero_le _, Nat.zero_le _⟩) hS hA hP (fun H locs hP hS => ?_)
      refine lv_if_eq (tgt := 69) hx hb d_Br_hours_56 (by decide) (fun c5 => ?_) (fun c5 => ?_)
      · have hk := br_p c5 hk
        refine lv_iconst (v := 0) hx hb d_Br_hours_69 (by decide) ?_
        exact kr_M (w := wl_Br a k) hx hb hr rfl hlocks hS hP hk d_Br_hours_70
      · have hk := br_n c5 hk
        refine lv_iload hx hb d_Br_hours_59 (lv_at hl 6 rfl) ?_
        refine lv_if_ne (tgt := 71) hx hb d_Br_hours_61 (by decide) (fun c6 => ?_) (fun c6 => ?_)
        · have hk := br_n c6 hk
          exact J71 τ _ _ _ hP hS (lv_sub hl [1, 2, 3, 4, 5] rfl) hk
        · have hk := br_p c6 hk
          refine lv_iload hx hb d_Br_hours_64 (lv_at hl 0 rfl) ?_
          refine lv_if_ne (tgt := 71) hx hb d_Br_hours_66 (by decide) (fun c7 => ?_) (fun c7 => ?_)
          · have hk := br_n c7 hk
            exact J71 τ _ _ _ hP hS (lv_sub hl [1, 2, 3, 4, 5] rfl) hk
          · have hk := br_p c7 hk
            refine lv_iconst (v := 0) hx hb d_Br_hours_69 (by decide) ?_
            exact kr_M (w := wl_Br a k) hx hb hr rfl hlocks hS hP hk d_Br_hours_70
  have J14 : ∀ (y0 : Int32) (τ : S_Br) (H : Heap) (locs : List Loc) (ls : Array Slot), va_P D cls (wl_Br a k τ) H → va_S (va_A (wl_Br a k σ) s.heap.size) s.heap H locs → lv_has ls 7 [(0, .ref (a 0 0)), (1, .int p1), (2, .int p2), (3, .int p3), (4, .int p4)] → kf_Br_hours_14 p1 p2 p3 p4 y0 τ = some r0 → W p l e (headSpec w_Br_hours ({ frames := 2, cells := 0, slots := 0, locals := 42 })).room s m [.ref (a 0 0), .int p1, .int p2, .int p3, .int p4].toArray below meth c H locs 0 0 (MQ below (kp_M D cls (wl_Br a k r0.2) (wl_Br a k σ) s.heap.size r0.1) [.ref (a 0 0), .int p1, .int p2, .int p3, .int p4].toArray s 0 0 (va_A (wl_Br a k σ) s.heap.size)) (F0 m 14 ls [.int y0]) := by
    intro y0 τ H locs ls hP hS hl hk
    unfold kf_Br_hours_14 at hk
    refine lv_istore (lv' := [(5, .int y0), (0, .ref (a 0 0)), (1, .int p1), (2, .int p2), (3, .int p3), (4, .int p4)]) hx hb d_Br_hours_14 hl (by decide) rfl (fun ls hl => ?_)
    refine lv_iconst (v := 0) hx hb d_Br_hours_16 (by decide) ?_
    refine lv_iload_n hx hb d_Br_hours_17 rfl (lv_at hl 4 rfl) ?_
    refine lv_icmp_gt (tgt := 39) hx hb d_Br_hours_18 (by decide) (fun c8 => ?_) (fun c8 => ?_)
    · have hk := br_p c8 hk
      refine lv_iconst (v := 0) hx hb d_Br_hours_39 (by decide) ?_
      exact J40 y0 0 τ _ _ _ hP hS (lv_sub hl [1, 2, 3, 4, 5, 0] rfl) hk
    · have hk := br_n c8 hk
      refine lv_iload_n hx hb d_Br_hours_21 rfl (lv_at hl 4 rfl) ?_
      refine lv_iload hx hb d_Br_hours_22 (lv_at hl 5 rfl) ?_
      refine lv_icmp_ge (tgt := 39) hx hb d_Br_hours_24 (by decide) (fun c9 => ?_) (fun c9 => ?_)
      · have hk := br_p c9 hk
        refine lv_iconst (v := 0) hx hb d_Br_hours_39 (by decide) ?_
        exact J40 y0 0 τ _ _ _ hP hS (lv_sub hl [1, 2, 3, 4, 5, 0] rfl) hk
      · have hk := br_n c9 hk
        refine lv_iload hx hb d_Br_hours_27 (lv_at hl 5 rfl) ?_
        refine lv_sipush (v := 1440) hx hb d_Br_hours_29 (by decide) ?_
        refine lv_icmp_gt (tgt := 39) hx hb d_Br_hours_32 (by decide) (fun c10 => ?_) (fun c10 => ?_)
        · have hk := br_p c10 hk
          refine lv_iconst (v := 0) hx hb d_Br_hours_39 (by decide) ?_
          exact J40 y0 0 τ _ _ _ hP hS (lv_sub hl [1, 2, 3, 4, 5, 0] rfl) hk
        · have hk := br_n c10 hk
          refine lv_iconst (v := 1) hx hb d_Br_hours_35 (by decide) ?_
          refine lv_goto (tgt := 40) hx hb d_Br_hours_36 (by decide) ?_
          exact J40 y0 1 τ _ _ _ hP hS (lv_sub hl [1, 2, 3, 4, 5, 0] rfl) hk
  refine lv_iload_n hx hb d_Br_hours_0 rfl (lv_at hl 3 rfl) ?_
  refine lv_if_ne (tgt := 13) hx hb d_Br_hours_1 (by decide) (fun c11 => ?_) (fun c11 => ?_)
  · have hk := br_n c11 hk
    refine lv_iconst (v := 0) hx hb d_Br_hours_13 (by decide) ?_
    exact J14 0 σ _ _ _ hP hS (lv_sub hl [0, 1, 2, 3, 4] rfl) hk
  · have hk := br_p c11 hk
    refine lv_iload hx hb d_Br_hours_4 (lv_at hl 4 rfl) ?_
    refine lv_if_ne (tgt := 13) hx hb d_Br_hours_6 (by decide) (fun c12 => ?_) (fun c12 => ?_)
    · have hk := br_n c12 hk
      refine lv_iconst (v := 0) hx hb d_Br_hours_13 (by decide) ?_
      exact J14 0 σ _ _ _ hP hS (lv_sub hl [0, 1, 2, 3, 4] rfl) hk
    · have hk := br_p c12 hk
      refine lv_iconst (v := 1) hx hb d_Br_hours_9 (by decide) ?_
      refine lv_goto (tgt := 14) hx hb d_Br_hours_10 (by decide) ?_
      exact J14 1 σ _ _ _ hP hS (lv_sub hl [0, 1, 2, 3, 4] rfl) hk
set_option maxHeartbeats 4000000 in
set_option maxRecDepth 100000 in
theorem c_Br_holiday (l : Launch) (D : va_G) (a : Nat → Nat → Nat) (k : Nat → Nat → ClassId) (sz : Nat) (σ : S_Br) (p1 : Int32) (r0 : Int32 × S_Br) (hk : kf_Br_holiday σ p1 = some r0) : Met l y_Br_holiday w_Br_holiday ({ frames := 1, cells := 0, slots := 0, locals := 22 }) (kp_P D cls (ty_Br k) (wl_Br a k σ) [.ref (a 0 0), .int p1] sz) (kp_M D cls (wl_Br a k r0.2) (wl_Br a k σ) sz r0.1) 0 0 (va_A (wl_Br a k σ) sz) := by
  refine Met.ofW (cc := b_Br_holiday) (maxL := 2) (ret := (some .int)) (by decide) rfl ?_
  intro p e s m args below meth c s₁ B hml hv
  obtain ⟨rfl, hsz, hP, hK, hD0⟩ := hv
  have hx := B.exec
  have hb := B.bytes
  have hr := B.returns
  have hts : ∀ w ∈ lw_g, w.before _ s = true := fun w h => atoms_spec (ws := w_Br_holiday) B.pre w (List.mem_cons_of_mem _ h)
  have hown : s.vm.findClass R_Br = some m.cls := findClass_of_methodNamed B.named
  have hlocks := B.notSynchronized
  subst hsz
  have hA : ∀ q : Nat, s.heap.size ≤ q → (va_A (wl_Br a k σ) s.heap.size) q := fun _ h => Or.inr h
  have hDt : ∀ τ, va_D (fun _ => True) (wl_Br a k τ) := fun τ => kd_cg hD0 rfl
  have hDw : ∀ τ, va_D (va_A (wl_Br a k σ) s.heap.size) (wl_Br a k τ) := fun τ => kd_cg hD0.self rfl
  have hK1 := sK_Br_Ca hK
  have hDt1 : ∀ τ, va_D (fun _ => True) (wl_Ca (a 1) (k 1) τ) := fun τ => kd_cg (sD_Br_Ca hD0) rfl
  have hDw1 : ∀ τ, va_D (va_A (wl_Br a k σ) s.heap.size) (wl_Ca (a 1) (k 1) τ) := fun τ => kd_cg (sD_Br_Ca (hDw σ)) rfl
  have hK2 := sK_Br_Th hK
  have hDt2 : ∀ τ, va_D (fun _ => True) (wl_Th (a 2) (k 2) τ) := fun τ => kd_cg (sD_Br_Th hD0) rfl
  have hDw2 : ∀ τ, va_D (va_A (wl_Br a k σ) s.heap.size) (wl_Th (a 2) (k 2) τ) := fun τ => kd_cg (sD_Br_Th (hDw σ)) rfl
  have hK3 := sK_Br_Bk hK
  have hDt3 : ∀ τ, va_D (fun _ => True) (wl_Bk (a 3) (k 3) τ) := fun τ => kd_cg (sD_Br_Bk hD0) rfl
  have hDw3 : ∀ τ, va_D (va_A (wl_Br a k σ) s.heap.size) (wl_Bk (a 3) (k 3) τ) := fun τ => kd_cg (sD_Br_Bk (hDw σ)) rfl
  have hK4 := sK_Br_Wi hK
  have hDt4 : ∀ τ, va_D (fun _ => True) (wl_Wi (a 4) (k 4) τ) := fun τ => kd_cg (sD_Br_Wi hD0) rfl
  have hDw4 : ∀ τ, va_D (va_A (wl_Br a k σ) s.heap.size) (wl_Wi (a 4) (k 4) τ) := fun τ => kd_cg (sD_Br_Wi (hDw σ)) rfl
  have hK5 := sK_Br_Pe hK
  have hDt5 : ∀ τ, va_D (fun _ => True) (wl_Pe (a 5) (k 5) τ) := fun τ => kd_cg (sD_Br_Pe hD0) rfl
  have hDw5 : ∀ τ, va_D (va_A (wl_Br a k σ) s.heap.size) (wl_Pe (a 5) (k 5) τ) := fun τ => kd_cg (sD_Br_Pe (hDw σ)) rfl
  have hK0 : va_K D cls [] s := hK.sub [] rfl
  have hS : va_S (va_A (wl_Br a k σ) s.heap.size) s.heap s.heap [] := va_S.rf
  have hl := lv_entry ([.ref (a 0 0), .int p1]) (n := 2) (Nat.le_of_ble_eq_true rfl)
  rw [lg_entry_eq]
  generalize (lg_sl ([.ref (a 0 0), .int p1]) ++ List.replicate (2 - (lg_sl ([.ref (a 0 0), .int p1])).length) Slot.unset).toArray = ls at hl ⊢
  have hl : lv_has ls 2 [(0, .ref (a 0 0)), (1, .int p1)] := hl
  unfold kf_Br_holiday at hk
  refine lv_iload_n hx hb d_Br_holiday_0 rfl (lv_at hl 1 rfl) ?_
  refine lv_iconst (v := 0) hx hb d_Br_holiday_1 (by decide) ?_
  refine lv_sipush (v := 694) hx hb d_Br_holiday_2 (by decide) ?_
  obtain ⟨q1, e1, hk⟩ := ob_s hk
  refine kc_R (va_runS (As := [.int p1, .int 0, .int 694]) (rest := []) ⟨hx, hb, hml, hown, hts⟩ (c_Br_isWithin l D _ p1 0 694 q1 e1) (cwS 3 hts (gS mw_184 mw_185 mw_27 mw_186) rfl rfl rfl hd_Br_isWithin ⟨Nat.le_of_ble_eq_true rfl, Nat.le_of_ble_eq_true rfl⟩) (kp_S hK0) rfl rfl hl.1 rfl (lv_room (Nat.le_of_ble_eq_true rfl)) d_Br_holiday_5 ⟨Nat.zero_le _, Nat.zero_le _⟩) hS hA hP (fun H locs hP hS => ?_)
  refine lv_if_eq (tgt := 32) hx hb d_Br_holiday_8 (by decide) (fun c2 => ?_) (fun c2 => ?_)
  · have hk := br_p c2 hk
    refine lv_iconst (v := 0) hx hb d_Br_holiday_32 (by decide) ?_
    exact kr_M (w := wl_Br a k) hx hb hr rfl hlocks hS hP hk d_Br_holiday_33
  · have hk := br_n c2 hk
    refine lv_aload_n hx hb d_Br_holiday_11 rfl (lv_at hl 0 rfl) ?_
    refine va_get (D := D) (ci := 5) (v := .ref (a 1 0)) (C := R_Br) (T := F_Br) (N := 6) hx hb hts i_uBr hown hK hP 0 rfl rfl 0 (by decide) (hts _ mw_160) (fun _ h9 => h9) rfl d_Br_holiday_12 ?_
    refine lv_iload_n hx hb d_Br_holiday_15 rfl (lv_at hl 1 rfl) ?_
    obtain ⟨q3, e3, hk⟩ := ob_s hk
    refine kc_R (va_runV (As := [.int p1]) (rest := []) ⟨hx, hb, hml, hown, hts⟩ (c_Ca_isHoliday l D (a 1) (k 1) _ σ.1 p1 q3 e3) (cwV 1 hts (gV mw_210 mw_211 mw_212 mw_28 mw_213) rfl rfl rfl hd_Ca_isHoliday ⟨Nat.le_of_ble_eq_true rfl, Nat.le_of_ble_eq_true rfl⟩) (kp_V (ci := 1) (q := (R_Ca, F_Ca, 4)) (q0 := 0) hK1 (sP_Br_Ca (σ := σ) hP) (hDt1 _) rfl rfl) rfl rfl hl.1 rfl (lv_room (Nat.le_of_ble_eq_true rfl)) d_Br_holiday_16 ⟨Nat.zero_le _, Nat.zero_le _⟩) hS hA hP (fun H locs hP hS => ?_)
    refine lv_if_ne (tgt := 32) hx hb d_Br_holiday_19 (by decide) (fun c4 => ?_) (fun c4 => ?_)
    · have hk := br_n c4 hk
      refine lv_iconst (v := 0) hx hb d_Br_holiday_32 (by decide) ?_
      exact kr_M (w := wl_Br a k) hx hb hr rfl hlocks hS hP hk d_Br_holiday_33
    · have hk := br_p c4 hk
      refine lv_aload_n hx hb d_Br_holiday_22 rfl (lv_at hl 0 rfl) ?_
      refine va_get (D := D) (ci := 5) (v := .ref (a 1 0)) (C := R_Br) (T := F_Br) (N := 6) hx hb hts i_uBr hown hK hP 0 rfl rfl 0 (by decide) (hts _ mw_160) (fun _ h9 => h9) rfl d_Br_holiday_23 ?_
      obtain ⟨q5, e5, hk⟩ := ob_s hk
      refine kc_R (va_runV (As := []) (rest := []) ⟨hx, hb, hml, hown, hts⟩ (c_Ca_isFull l D (a 1) (k 1) _ σ.1 q5 e5) (cwV 0 hts (gV mw_214 mw_215 mw_216 mw_28 mw_217) rfl rfl rfl hd_Ca_isFull ⟨Nat.le_of_ble_eq_true rfl, Nat.le_of_ble_eq_true rfl⟩) (kp_V (ci := 1) (q := (R_Ca, F_Ca, 4)) (q0 := 0) hK1 (sP_Br_Ca (σ := σ) hP) (hDt1 _) rfl rfl) rfl rfl hl.1 rfl (lv_room (Nat.le_of_ble_eq_true rfl)) d_Br_holiday_26 ⟨Nat.zero_le _, Nat.zero_le _⟩) hS hA hP (fun H locs hP hS => ?_)
      refine lv_if_eq (tgt := 34) hx hb d_Br_holiday_29 (by decide) (fun c6 => ?_) (fun c6 => ?_)
      · have hk := br_p c6 hk
        refine lv_aload_n hx hb d_Br_holiday_34 rfl (lv_at hl 0 rfl) ?_
        refine va_get (D := D) (ci := 5) (v := .ref (a 1 0)) (C := R_Br) (T := F_Br) (N := 6) hx hb hts i_uBr hown hK hP 0 rfl rfl 0 (by decide) (hts _ mw_160) (fun _ h9 => h9) rfl d_Br_holiday_35 ?_
        refine lv_iload_n hx hb d_Br_holiday_38 rfl (lv_at hl 1 rfl) ?_
        obtain ⟨q7, e7, hk⟩ := ob_s hk
        refine kc_M (wF := wl_Br a k (q7.2, σ.2.1, σ.2.2.1, σ.2.2.2.1, σ.2.2.2.2.1, σ.2.2.2.2.2)) (va_runV (As := [.int p1]) (rest := []) ⟨hx, hb, hml, hown, hts⟩ (c_Ca_addHoliday l D (a 1) (k 1) _ σ.1 p1 q7 e7) (cwV 1 hts (gV mw_218 mw_219 mw_220 mw_28 mw_221) rfl rfl rfl hd_Ca_addHoliday ⟨Nat.le_of_ble_eq_true rfl, Nat.le_of_ble_eq_true rfl⟩) (kp_V (ci := 1) (q := (R_Ca, F_Ca, 4)) (q0 := 0) hK1 (sP_Br_Ca (σ := σ) hP) (hDt1 _) rfl rfl) rfl rfl hl.1 rfl (lv_room (Nat.le_of_ble_eq_true rfl)) d_Br_holiday_39 ⟨Nat.zero_le _, Nat.zero_le _⟩) hS (hDw1 _) hA (fun _ _ h h9 => jP_Br_Ca σ q7.2 hP (hDt _) h h9) (fun H locs hP hS => ?_)
        exact kr_M (w := wl_Br a k) hx hb hr rfl hlocks hS hP hk d_Br_holiday_42
      · have hk := br_n c6 hk
        refine lv_iconst (v := 0) hx hb d_Br_holiday_32 (by decide) ?_
        exact kr_M (w := wl_Br a k) hx hb hr rfl hlocks hS hP hk d_Br_holiday_33
set_option maxHeartbeats 4000000 in
set_option maxRecDepth 100000 in
theorem c_Br_isPerson (l : Launch) (D : va_G) (sz : Nat) (p0 : Int32) (r0 : Int32) (hk : kf_Br_isPerson p0 = some r0) : Met l y_Br_isPerson w_Br_isPerson ({ frames := 1, cells := 0, slots := 0, locals := 22 }) (kp_P D cls ([]) ([]) [.int p0] sz) (kp_R sz r0) 0 0 (va_A [] sz) := by
  refine Met.ofW (cc := b_Br_isPerson) (maxL := 1) (ret := (some .boolean)) (by decide) rfl ?_
  intro p e s m args below meth c s₁ B hml hv
  obtain ⟨rfl, hsz, hP, hK, hD0⟩ := hv
  have hx := B.exec
  have hb := B.bytes
  have hr := B.returns
  have hts : ∀ w ∈ lw_g, w.before _ s = true := fun w h => atoms_spec (ws := w_Br_isPerson) B.pre w (List.mem_cons_of_mem _ h)
  have hown : s.vm.findClass R_Br = some m.cls := findClass_of_methodNamed B.named
  have hlocks := B.notSynchronized
  subst hsz
  have hA : ∀ q : Nat, s.heap.size ≤ q → (va_A ([]) s.heap.size) q := fun _ h => Or.inr h
  have hK0 : va_K D cls [] s := hK.sub [] rfl
  have hS : va_S (va_A ([]) s.heap.size) s.heap s.heap [] := va_S.rf
  have hl := lv_entry ([.int p0]) (n := 1) (Nat.le_of_ble_eq_true rfl)
  rw [lg_entry_eq]
  generalize (lg_sl ([.int p0]) ++ List.replicate (1 - (lg_sl ([.int p0])).length) Slot.unset).toArray = ls at hl ⊢
  have hl : lv_has ls 1 [(0, .int p0)] := hl
  unfold kf_Br_isPerson at hk
  refine lv_iload_n hx hb d_Br_isPerson_0 rfl (lv_at hl 0 rfl) ?_
  refine lv_iconst (v := 0) hx hb d_Br_isPerson_1 (by decide) ?_
  refine lv_bipush (v := 39) hx hb d_Br_isPerson_2 (by decide) ?_
  obtain ⟨q1, e1, hk⟩ := ob_s hk
  refine kc_R (va_runS (As := [.int p0, .int 0, .int 39]) (rest := []) ⟨hx, hb, hml, hown, hts⟩ (c_Br_isWithin l D _ p0 0 39 q1 e1) (cwS 3 hts (gS mw_184 mw_185 mw_27 mw_186) rfl rfl rfl hd_Br_isWithin ⟨Nat.le_of_ble_eq_true rfl, Nat.le_of_ble_eq_true rfl⟩) (kp_S hK0) rfl rfl hl.1 rfl (lv_room (Nat.le_of_ble_eq_true rfl)) d_Br_isPerson_4 ⟨Nat.zero_le _, Nat.zero_le _⟩) hS hA hP (fun H locs hP hS => ?_)
  obtain ⟨h2, hk⟩ := gd_in hk
  exact kr_R hx hb hr (kn_b h2) hlocks hS hk d_Br_isPerson_7
set_option maxHeartbeats 4000000 in
set_option maxRecDepth 100000 in
theorem c_Br_isTime (l : Launch) (D : va_G) (sz : Nat) (p0 : Int32) (r0 : Int32) (hk : kf_Br_isTime p0 = some r0) : Met l y_Br_isTime w_Br_isTime ({ frames := 1, cells := 0, slots := 0, locals := 22 }) (kp_P D cls ([]) ([]) [.int p0] sz) (kp_R sz r0) 0 0 (va_A [] sz) := by
  refine Met.ofW (cc := b_Br_isTime) (maxL := 1) (ret := (some .boolean)) (by decide) rfl ?_
  intro p e s m args below meth c s₁ B hml hv
  obtain ⟨rfl, hsz, hP, hK, hD0⟩ := hv
  have hx := B.exec
  have hb := B.bytes
  have hr := B.returns
  have hts : ∀ w ∈ lw_g, w.before _ s = true := fun w h => atoms_spec (ws := w_Br_isTime) B.pre w (List.mem_cons_of_mem _ h)
  have hown : s.vm.findClass R_Br = some m.cls := findClass_of_methodNamed B.named
  have hlocks := B.notSynchronized
  subst hsz
  have hA : ∀ q : Nat, s.heap.size ≤ q → (va_A ([]) s.heap.size) q := fun _ h => Or.inr h
  have hK0 : va_K D cls [] s := hK.sub [] rfl
  have hS : va_S (va_A ([]) s.heap.size) s.heap s.heap [] := va_S.rf
  have hl := lv_entry ([.int p0]) (n := 1) (Nat.le_of_ble_eq_true rfl)
  rw [lg_entry_eq]
  generalize (lg_sl ([.int p0]) ++ List.replicate (1 - (lg_sl ([.int p0])).length) Slot.unset).toArray = ls at hl ⊢
  have hl : lv_has ls 1 [(0, .int p0)] := hl
  unfold kf_Br_isTime at hk
  refine lv_iload_n hx hb d_Br_isTime_0 rfl (lv_at hl 0 rfl) ?_
  refine lv_iconst (v := 0) hx hb d_Br_isTime_1 (by decide) ?_
  refine lv_ldc (v := 1000000) hx hb hown (hts _ mw_248) d_Br_isTime_2 ?_
  obtain ⟨q1, e1, hk⟩ := ob_s hk
  refine kc_R (va_runS (As := [.int p0, .int 0, .int 1000000]) (rest := []) ⟨hx, hb, hml, hown, hts⟩ (c_Br_isWithin l D _ p0 0 1000000 q1 e1) (cwS 3 hts (gS mw_184 mw_185 mw_27 mw_186) rfl rfl rfl hd_Br_isWithin ⟨Nat.le_of_ble_eq_true rfl, Nat.le_of_ble_eq_true rfl⟩) (kp_S hK0) rfl rfl hl.1 rfl (lv_room (Nat.le_of_ble_eq_true rfl)) d_Br_isTime_4 ⟨Nat.zero_le _, Nat.zero_le _⟩) hS hA hP (fun H locs hP hS => ?_)
  obtain ⟨h2, hk⟩ := gd_in hk
  exact kr_R hx hb hr (kn_b h2) hlocks hS hk d_Br_isTime_7
set_option maxHeartbeats 4000000 in
set_option maxRecDepth 100000 in
theorem c_Br_refusalOf (l : Launch) (D : va_G) (a : Nat → Nat → Nat) (k : Nat → Nat → ClassId) (sz : Nat) (σ : S_Br) (p1 p2 p3 p4 p5 : Int32) (r0 : Int32) (hk : kf_Br_refusalOf σ p1 p2 p3 p4 p5 = some r0) : Met l y_Br_refusalOf w_Br_refusalOf ({ frames := 2, cells := 0, slots := 0, locals := 48 }) (kp_P D cls (ty_Br k) (wl_Br a k σ) [.ref (a 0 0), .int p1, .int p2, .int p3, .int p4, .int p5] sz) (kp_R sz r0) 0 0 (va_A [] sz) := by
  refine Met.ofW (cc := b_Br_refusalOf) (maxL := 7) (ret := (some .int)) (by decide) rfl ?_
  intro p e s m args below meth c s₁ B hml hv
  obtain ⟨rfl, hsz, hP, hK, hD0⟩ := hv
  have hx := B.exec
  have hb := B.bytes
  have hr := B.returns
  have hts : ∀ w ∈ lw_g, w.before _ s = true := fun w h => atoms_spec (ws := w_Br_refusalOf) B.pre w (List.mem_cons_of_mem _ h)
  have hown : s.vm.findClass R_Br = some m.cls := findClass_of_methodNamed B.named
  have hlocks := B.notSynchronized
  subst hsz
  have hA : ∀ q : Nat, s.heap.size ≤ q → (va_A ([]) s.heap.size) q := fun _ h => Or.inr h
  have hDt : ∀ τ, va_D (fun _ => True) (wl_Br a k τ) := fun τ => kd_cg hD0 rfl
  have hK1 := sK_Br_Ca hK
  have hDt1 : ∀ τ, va_D (fun _ => True) (wl_Ca (a 1) (k 1) τ) := fun τ => kd_cg (sD_Br_Ca hD0) rfl
  have hK2 := sK_Br_Th hK
  have hDt2 : ∀ τ, va_D (fun _ => True) (wl_Th (a 2) (k 2) τ) := fun τ => kd_cg (sD_Br_Th hD0) rfl
  have hK3 := sK_Br_Bk hK
  have hDt3 : ∀ τ, va_D (fun _ => True) (wl_Bk (a 3) (k 3) τ) := fun τ => kd_cg (sD_Br_Bk hD0) rfl
  have hK4 := sK_Br_Wi hK
  have hDt4 : ∀ τ, va_D (fun _ => True) (wl_Wi (a 4) (k 4) τ) := fun τ => kd_cg (sD_Br_Wi hD0) rfl
  have hK5 := sK_Br_Pe hK
  have hDt5 : ∀ τ, va_D (fun _ => True) (wl_Pe (a 5) (k 5) τ) := fun τ => kd_cg (sD_Br_Pe hD0) rfl
  have hK0 : va_K D cls [] s := hK.sub [] rfl
  have hS : va_S (va_A ([]) s.heap.size) s.heap s.heap [] := va_S.rf
  have hl := lv_entry ([.ref (a 0 0), .int p1, .int p2, .int p3, .int p4, .int p5]) (n := 7) (Nat.le_of_ble_eq_true rfl)
  rw [lg_entry_eq]
  generalize (lg_sl ([.ref (a 0 0), .int p1, .int p2, .int p3, .int p4, .int p5]) ++ List.replicate (7 - (lg_sl ([.ref (a 0 0), .int p1, .int p2, .int p3, .int p4, .int p5])).length) Slot.unset).toArray = ls at hl ⊢
  have hl : lv_has ls 7 [(0, .ref (a 0 0)), (1, .int p1), (2, .int p2), (3, .int p3), (4, .int p4), (5, .int p5)] := hl
  unfold kf_Br_refusalOf at hk
  have J140 : ∀ (H : Heap) (locs : List Loc) (ls : Array Slot), va_P D cls (wl_Br a k σ) H → va_S (va_A ([]) s.heap.size) s.heap H locs → lv_has ls 7 [(0, .ref (a 0 0)), (2, .int p2), (3, .int p3), (4, .int p4), (5, .int p5)] → kf_Br_refusalOf_140 σ p1 p2 p3 p4 p5 = some r0 → W p l e (headSpec w_Br_refusalOf ({ frames := 2, cells := 0, slots := 0, locals := 48 })).room s m [.ref (a 0 0), .int p1, .int p2, .int p3, .int p4, .int p5].toArray below meth c H locs 0 0 (MQ below (kp_R s.heap.size r0) [.ref (a 0 0), .int p1, .int p2, .int p3, .int p4, .int p5].toArray s 0 0 (va_A [] s.heap.size)) (F0 m 140 ls []) := by
    intro  H locs ls hP hS hl hk
    unfold kf_Br_refusalOf_140 at hk
    refine lv_aload_n hx hb d_Br_refusalOf_140 rfl (lv_at hl 0 rfl) ?_
    refine va_get (D := D) (ci := 5) (v := .ref (a 3 0)) (C := R_Br) (T := F_Br) (N := 6) hx hb hts i_uBr hown hK hP 0 rfl rfl 2 (by decide) (hts _ mw_162) (fun _ h9 => h9) rfl d_Br_refusalOf_141 ?_
    refine lv_iload_n hx hb d_Br_refusalOf_144 rfl (lv_at hl 1 rfl) ?_
    refine lv_iload_n hx hb d_Br_refusalOf_145 rfl (lv_at hl 2 rfl) ?_
    refine lv_iload hx hb d_Br_refusalOf_146 (lv_at hl 3 rfl) ?_
    refine lv_iload hx hb d_Br_refusalOf_148 (lv_at hl 4 rfl) ?_
    obtain ⟨q1, e1, hk⟩ := ob_s hk
    refine kc_R (va_runV (As := [.int p2, .int p3, .int p4, .int p5]) (rest := []) ⟨hx, hb, hml, hown, hts⟩ (c_Bk_isTaken l D (a 3) (k 3) _ σ.2.2.1 p2 p3 p4 p5 q1 e1) (cwV 4 hts (gV mw_277 mw_278 mw_279 mw_30 mw_280) rfl rfl rfl hd_Bk_isTaken ⟨Nat.le_of_ble_eq_true rfl, Nat.le_of_ble_eq_true rfl⟩) (kp_V (ci := 0) (q := (R_Bk, F_Bk, 9)) (q0 := 0) hK3 (sP_Br_Bk (σ := σ) hP) (hDt3 _) rfl rfl) rfl rfl hl.1 rfl (lv_room (Nat.le_of_ble_eq_true rfl)) d_Br_refusalOf_150 ⟨Nat.zero_le _, Nat.zero_le _⟩) hS hA hP (fun H locs hP hS => ?_)
    refine lv_if_eq (tgt := 161) hx hb d_Br_refusalOf_153 (by decide) (fun c2 => ?_) (fun c2 => ?_)
    · have hk := br_p c2 hk
      refine lv_iconst (v := 0) hx hb d_Br_refusalOf_161 (by decide) ?_
      exact kr_R hx hb hr rfl hlocks hS hk d_Br_refusalOf_162
    · have hk := br_n c2 hk
      refine lv_bipush (v := -6) hx hb d_Br_refusalOf_156 (by decide) ?_
      refine lv_goto (tgt := 162) hx hb d_Br_refusalOf_158 (by decide) ?_
      exact kr_R hx hb hr rfl hlocks hS hk d_Br_refusalOf_162
  have J103 : ∀ (y0 : Int32) (H : Heap) (locs : List Loc) (ls : Array Slot), va_P D cls (wl_Br a k σ) H → va_S (va_A ([]) s.heap.size) s.heap H locs → lv_has ls 7 [(0, .ref (a 0 0)), (1, .int p1), (2, .int p2), (3, .int p3), (4, .int p4), (5, .int p5)] → kf_Br_refusalOf_103 σ p1 p2 p3 p4 p5 y0 = some r0 → W p l e (headSpec w_Br_refusalOf ({ frames := 2, cells := 0, slots := 0, locals := 48 })).room s m [.ref (a 0 0), .int p1, .int p2, .int p3, .int p4, .int p5].toArray below meth c H locs 0 0 (MQ below (kp_R s.heap.size r0) [.ref (a 0 0), .int p1, .int p2, .int p3, .int p4, .int p5].toArray s 0 0 (va_A [] s.heap.size)) (F0 m 103 ls [.int y0]) := by
    intro y0 H locs ls hP hS hl hk
    unfold kf_Br_refusalOf_103 at hk
    refine lv_istore (lv' := [(6, .int y0), (0, .ref (a 0 0)), (1, .int p1), (2, .int p2), (3, .int p3), (4, .int p4), (5, .int p5)]) hx hb d_Br_refusalOf_103 hl (by decide) rfl (fun ls hl => ?_)
    refine lv_iload hx hb d_Br_refusalOf_105 (lv_at hl 0 rfl) ?_
    refine lv_if_ne (tgt := 140) hx hb d_Br_refusalOf_107 (by decide) (fun c3 => ?_) (fun c3 => ?_)
    · have hk := br_n c3 hk
      exact J140  _ _ _ hP hS (lv_sub hl [1, 3, 4, 5, 6] rfl) hk
    · have hk := br_p c3 hk
      refine lv_aload_n hx hb d_Br_refusalOf_110 rfl (lv_at hl 1 rfl) ?_
      refine va_get (D := D) (ci := 5) (v := .ref (a 5 0)) (C := R_Br) (T := F_Br) (N := 6) hx hb hts i_uBr hown hK hP 0 rfl rfl 4 (by decide) (hts _ mw_164) (fun _ h9 => h9) rfl d_Br_refusalOf_111 ?_
      refine lv_iload_n hx hb d_Br_refusalOf_114 rfl (lv_at hl 2 rfl) ?_
      refine lv_aload_n hx hb d_Br_refusalOf_115 rfl (lv_at hl 1 rfl) ?_
      refine va_get (D := D) (ci := 5) (v := .int σ.2.2.2.2.2) (C := R_Br) (T := F_Br) (N := 6) hx hb hts i_uBr hown hK hP 0 rfl rfl 5 (by decide) (hts _ mw_165) (fun _ h9 => h9) rfl d_Br_refusalOf_116 ?_
      obtain ⟨q4, e4, hk⟩ := ob_s hk
      refine kc_R (va_runV (As := [.int p1, .int σ.2.2.2.2.2]) (rest := []) ⟨hx, hb, hml, hown, hts⟩ (c_Pe_isBarred l D (a 5) (k 5) _ σ.2.2.2.2.1 p1 σ.2.2.2.2.2 q4 e4) (cwV 2 hts (gV mw_265 mw_266 mw_267 mw_32 mw_268) rfl rfl rfl hd_Pe_isBarred ⟨Nat.le_of_ble_eq_true rfl, Nat.le_of_ble_eq_true rfl⟩) (kp_V (ci := 2) (q := (R_Pe, F_Pe, 2)) (q0 := 0) hK5 (sP_Br_Pe (σ := σ) hP) (hDt5 _) rfl rfl) rfl rfl hl.1 rfl (lv_room (Nat.le_of_ble_eq_true rfl)) d_Br_refusalOf_119 ⟨Nat.zero_le _, Nat.zero_le _⟩) hS hA hP (fun H locs hP hS => ?_)
      refine lv_if_ne (tgt := 137) hx hb d_Br_refusalOf_122 (by decide) (fun c5 => ?_) (fun c5 => ?_)
      · have hk := br_n c5 hk
        refine lv_bipush (v := -5) hx hb d_Br_refusalOf_137 (by decide) ?_
        exact kr_R hx hb hr rfl hlocks hS hk d_Br_refusalOf_139
      · have hk := br_p c5 hk
        refine lv_aload_n hx hb d_Br_refusalOf_125 rfl (lv_at hl 1 rfl) ?_
        refine va_get (D := D) (ci := 5) (v := .ref (a 3 0)) (C := R_Br) (T := F_Br) (N := 6) hx hb hts i_uBr hown hK hP 0 rfl rfl 2 (by decide) (hts _ mw_162) (fun _ h9 => h9) rfl d_Br_refusalOf_126 ?_
        refine lv_iload_n hx hb d_Br_refusalOf_129 rfl (lv_at hl 2 rfl) ?_
        obtain ⟨q6, e6, hk⟩ := ob_s hk
        refine kc_R (va_runV (As := [.int p1]) (rest := []) ⟨hx, hb, hml, hown, hts⟩ (c_Bk_livingOf l D (a 3) (k 3) _ σ.2.2.1 p1 q6 e6) (cwV 1 hts (gV mw_269 mw_270 mw_271 mw_30 mw_272) rfl rfl rfl hd_Bk_livingOf ⟨Nat.le_of_ble_eq_true rfl, Nat.le_of_ble_eq_true rfl⟩) (kp_V (ci := 0) (q := (R_Bk, F_Bk, 9)) (q0 := 0) hK3 (sP_Br_Bk (σ := σ) hP) (hDt3 _) rfl rfl) rfl rfl hl.1 rfl (lv_room (Nat.le_of_ble_eq_true rfl)) d_Br_refusalOf_130 ⟨Nat.zero_le _, Nat.zero_le _⟩) hS hA hP (fun H locs hP hS => ?_)
        refine lv_iconst (v := 5) hx hb d_Br_refusalOf_133 (by decide) ?_
        refine lv_icmp_lt (tgt := 140) hx hb d_Br_refusalOf_134 (by decide) (fun c7 => ?_) (fun c7 => ?_)
        · have hk := br_p c7 hk
          exact J140  _ _ _ hP hS (lv_sub hl [1, 3, 4, 5, 6] rfl) hk
        · have hk := br_n c7 hk
          refine lv_bipush (v := -5) hx hb d_Br_refusalOf_137 (by decide) ?_
          exact kr_R hx hb hr rfl hlocks hS hk d_Br_refusalOf_139
  refine lv_iload_n hx hb d_Br_refusalOf_0 rfl (lv_at hl 3 rfl) ?_
  obtain ⟨q8, e8, hk⟩ := ob_s hk
  refine kc_R (va_runS (As := [.int p3]) (rest := []) ⟨hx, hb, hml, hown, hts⟩ (c_Br_isTime l D _ p3 q8 e8) (cwS 1 hts (gS mw_245 mw_246 mw_27 mw_247) rfl rfl rfl hd_Br_isTime ⟨Nat.le_of_ble_eq_true rfl, Nat.le_of_ble_eq_true rfl⟩) (kp_S hK0) rfl rfl hl.1 rfl (lv_room (Nat.le_of_ble_eq_true rfl)) d_Br_refusalOf_1 ⟨Nat.zero_le _, Nat.zero_le _⟩) hS hA hP (fun H locs hP hS => ?_)
  refine lv_if_eq (tgt := 21) hx hb d_Br_refusalOf_4 (by decide) (fun c9 => ?_) (fun c9 => ?_)
  · have hk := br_p c9 hk
    refine lv_iconst (v := -1) hx hb d_Br_refusalOf_21 (by decide) ?_
    exact kr_R hx hb hr rfl hlocks hS hk d_Br_refusalOf_22
  · have hk := br_n c9 hk
    refine lv_iload hx hb d_Br_refusalOf_7 (lv_at hl 4 rfl) ?_
    obtain ⟨q10, e10, hk⟩ := ob_s hk
    refine kc_R (va_runS (As := [.int p4]) (rest := []) ⟨hx, hb, hml, hown, hts⟩ (c_Br_isTime l D _ p4 q10 e10) (cwS 1 hts (gS mw_245 mw_246 mw_27 mw_247) rfl rfl rfl hd_Br_isTime ⟨Nat.le_of_ble_eq_true rfl, Nat.le_of_ble_eq_true rfl⟩) (kp_S hK0) rfl rfl hl.1 rfl (lv_room (Nat.le_of_ble_eq_true rfl)) d_Br_refusalOf_9 ⟨Nat.zero_le _, Nat.zero_le _⟩) hS hA hP (fun H locs hP hS => ?_)
    refine lv_if_eq (tgt := 21) hx hb d_Br_refusalOf_12 (by decide) (fun c11 => ?_) (fun c11 => ?_)
    · have hk := br_p c11 hk
      refine lv_iconst (v := -1) hx hb d_Br_refusalOf_21 (by decide) ?_
      exact kr_R hx hb hr rfl hlocks hS hk d_Br_refusalOf_22
    · have hk := br_n c11 hk
      refine lv_iload_n hx hb d_Br_refusalOf_15 rfl (lv_at hl 3 rfl) ?_
      refine lv_iload hx hb d_Br_refusalOf_16 (lv_at hl 4 rfl) ?_
      refine lv_icmp_lt (tgt := 23) hx hb d_Br_refusalOf_18 (by decide) (fun c12 => ?_) (fun c12 => ?_)
      · have hk := br_p c12 hk
        refine lv_aload_n hx hb d_Br_refusalOf_23 rfl (lv_at hl 0 rfl) ?_
        refine va_get (D := D) (ci := 5) (v := .ref (a 2 0)) (C := R_Br) (T := F_Br) (N := 6) hx hb hts i_uBr hown hK hP 0 rfl rfl 1 (by decide) (hts _ mw_161) (fun _ h9 => h9) rfl d_Br_refusalOf_24 ?_
        refine lv_iload_n hx hb d_Br_refusalOf_27 rfl (lv_at hl 2 rfl) ?_
        refine lv_iload hx hb d_Br_refusalOf_28 (lv_at hl 4 rfl) ?_
        refine lv_iload_n hx hb d_Br_refusalOf_30 rfl (lv_at hl 3 rfl) ?_
        refine lv_isub hx hb d_Br_refusalOf_31 ?_
        obtain ⟨q13, e13, hk⟩ := ob_s hk
        refine kc_R (va_runV (As := [.int p2, .int (p4 - p3)]) (rest := []) ⟨hx, hb, hml, hown, hts⟩ (c_Th_allowsLength l D (a 2) (k 2) _ σ.2.1 p2 (p4 - p3) q13 e13) (cwV 2 hts (gV mw_249 mw_250 mw_251 mw_29 mw_252) rfl rfl rfl hd_Th_allowsLength ⟨Nat.le_of_ble_eq_true rfl, Nat.le_of_ble_eq_true rfl⟩) (kp_V (ci := 3) (q := (R_Th, F_Th, 6)) (q0 := 0) hK2 (sP_Br_Th (σ := σ) hP) (hDt2 _) rfl rfl) rfl rfl hl.1 rfl (lv_room (Nat.le_of_ble_eq_true rfl)) d_Br_refusalOf_32 ⟨Nat.zero_le _, Nat.zero_le _⟩) hS hA hP (fun H locs hP hS => ?_)
        refine lv_if_ne (tgt := 41) hx hb d_Br_refusalOf_35 (by decide) (fun c14 => ?_) (fun c14 => ?_)
        · have hk := br_n c14 hk
          refine lv_iload_n hx hb d_Br_refusalOf_41 rfl (lv_at hl 3 rfl) ?_
          refine lv_aload_n hx hb d_Br_refusalOf_42 rfl (lv_at hl 0 rfl) ?_
          refine va_get (D := D) (ci := 5) (v := .int σ.2.2.2.2.2) (C := R_Br) (T := F_Br) (N := 6) hx hb hts i_uBr hown hK hP 0 rfl rfl 5 (by decide) (hts _ mw_165) (fun _ h9 => h9) rfl d_Br_refusalOf_43 ?_
          refine lv_icmp_lt (tgt := 66) hx hb d_Br_refusalOf_46 (by decide) (fun c15 => ?_) (fun c15 => ?_)
          · have hk := br_p c15 hk
            refine lv_bipush (v := -3) hx hb d_Br_refusalOf_66 (by decide) ?_
            exact kr_R hx hb hr rfl hlocks hS hk d_Br_refusalOf_68
          · have hk := br_n c15 hk
            refine lv_iload_n hx hb d_Br_refusalOf_49 rfl (lv_at hl 3 rfl) ?_
            refine lv_aload_n hx hb d_Br_refusalOf_50 rfl (lv_at hl 0 rfl) ?_
            refine va_get (D := D) (ci := 5) (v := .int σ.2.2.2.2.2) (C := R_Br) (T := F_Br) (N := 6) hx hb hts i_uBr hown hK hP 0 rfl rfl 5 (by decide) (hts _ mw_165) (fun _ h9 => h9) rfl d_Br_refusalOf_51 ?_
            refine lv_isub hx hb d_Br_refusalOf_54 ?_
            refine lv_aload_n hx hb d_Br_refusalOf_55 rfl (lv_at hl 0 rfl) ?_
            refine va_get (D := D) (ci := 5) (v := .ref (a 2 0)) (C := R_Br) (T := F_Br) (N := 6) hx hb hts i_uBr hown hK hP 0 rfl rfl 1 (by decide) (hts _ mw_161) (fun _ h9 => h9) rfl d_Br_refusalOf_56 ?_
            refine lv_iload_n hx hb d_Br_refusalOf_59 rfl (lv_at hl 2 rfl) ?_
            obtain ⟨q16, e16, hk⟩ := ob_s hk
            refine kc_R (va_runV (As := [.int p2]) (rest := [.int (p3 - σ.2.2.2.2.2)]) ⟨hx, hb, hml, hown, hts⟩ (c_Th_aheadOf l D (a 2) (k 2) _ σ.2.1 p2 q16 e16) (cwV 1 hts (gV mw_253 mw_254 mw_255 mw_29 mw_256) rfl rfl rfl hd_Th_aheadOf ⟨Nat.le_of_ble_eq_true rfl, Nat.le_of_ble_eq_true rfl⟩) (kp_V (ci := 3) (q := (R_Th, F_Th, 6)) (q0 := 0) hK2 (sP_Br_Th (σ := σ) hP) (hDt2 _) rfl rfl) rfl rfl hl.1 rfl (lv_room (Nat.le_of_ble_eq_true rfl)) d_Br_refusalOf_60 ⟨Nat.zero_le _, Nat.zero_le _⟩) hS hA hP (fun H locs hP hS => ?_)
            refine lv_icmp_le (tgt := 69) hx hb d_Br_refusalOf_63 (by decide) (fun c17 => ?_) (fun c17 => ?_)
            · have hk := br_p c17 hk
              refine lv_aload_n hx hb d_Br_refusalOf_69 rfl (lv_at hl 0 rfl) ?_
              refine va_get (D := D) (ci := 5) (v := .ref (a 1 0)) (C := R_Br) (T := F_Br) (N := 6) hx hb hts i_uBr hown hK hP 0 rfl rfl 0 (by decide) (hts _ mw_160) (fun _ h9 => h9) rfl d_Br_refusalOf_70 ?_
              refine lv_aload_n hx hb d_Br_refusalOf_73 rfl (lv_at hl 0 rfl) ?_
              refine va_get (D := D) (ci := 5) (v := .ref (a 2 0)) (C := R_Br) (T := F_Br) (N := 6) hx hb hts i_uBr hown hK hP 0 rfl rfl 1 (by decide) (hts _ mw_161) (fun _ h9 => h9) rfl d_Br_refusalOf_74 ?_
              refine lv_iload_n hx hb d_Br_refusalOf_77 rfl (lv_at hl 2 rfl) ?_
              obtain ⟨q18, e18, hk⟩ := ob_s hk
              refine kc_R (va_runV (As := [.int p2]) (rest := [.ref (a 1 0)]) ⟨hx, hb, hml, hown, hts⟩ (c_Th_placeOf l D (a 2) (k 2) _ σ.2.1 p2 q18 e18) (cwV 1 hts (gV mw_257 mw_258 mw_259 mw_29 mw_260) rfl rfl rfl hd_Th_placeOf ⟨Nat.le_of_ble_eq_true rfl, Nat.le_of_ble_eq_true rfl⟩) (kp_V (ci := 3) (q := (R_Th, F_Th, 6)) (q0 := 0) hK2 (sP_Br_Th (σ := σ) hP) (hDt2 _) rfl rfl) rfl rfl hl.1 rfl (lv_room (Nat.le_of_ble_eq_true rfl)) d_Br_refusalOf_78 ⟨Nat.zero_le _, Nat.zero_le _⟩) hS hA hP (fun H locs hP hS => ?_)
              refine lv_iload_n hx hb d_Br_refusalOf_81 rfl (lv_at hl 3 rfl) ?_
              refine lv_iload hx hb d_Br_refusalOf_82 (lv_at hl 4 rfl) ?_
              obtain ⟨q19, e19, hk⟩ := ob_s hk
              refine kc_R (va_runV (As := [.int q18, .int p3, .int p4]) (rest := []) ⟨hx, hb, hml, hown, hts⟩ (c_Ca_isOpen l D (a 1) (k 1) _ σ.1 q18 p3 p4 q19 e19) (cwV 3 hts (gV mw_261 mw_262 mw_263 mw_28 mw_264) rfl rfl rfl hd_Ca_isOpen ⟨Nat.le_of_ble_eq_true rfl, Nat.le_of_ble_eq_true rfl⟩) (kp_V (ci := 1) (q := (R_Ca, F_Ca, 4)) (q0 := 0) hK1 (sP_Br_Ca (σ := σ) hP) (hDt1 _) rfl rfl) rfl rfl hl.1 rfl (lv_room (Nat.le_of_ble_eq_true rfl)) d_Br_refusalOf_84 ⟨Nat.zero_le _, Nat.zero_le _⟩) hS hA hP (fun H locs hP hS => ?_)
              refine lv_if_ne (tgt := 93) hx hb d_Br_refusalOf_87 (by decide) (fun c20 => ?_) (fun c20 => ?_)
              · have hk := br_n c20 hk
                refine lv_iload hx hb d_Br_refusalOf_93 (lv_at hl 5 rfl) ?_
                refine lv_if_eq (tgt := 102) hx hb d_Br_refusalOf_95 (by decide) (fun c21 => ?_) (fun c21 => ?_)
                · have hk := br_p c21 hk
                  refine lv_iconst (v := 0) hx hb d_Br_refusalOf_102 (by decide) ?_
                  exact J103 0 _ _ _ hP hS (lv_sub hl [0, 1, 2, 3, 4, 5] rfl) hk
                · have hk := br_n c21 hk
                  refine lv_iconst (v := 1) hx hb d_Br_refusalOf_98 (by decide) ?_
                  refine lv_goto (tgt := 103) hx hb d_Br_refusalOf_99 (by decide) ?_
                  exact J103 1 _ _ _ hP hS (lv_sub hl [0, 1, 2, 3, 4, 5] rfl) hk
              · have hk := br_p c20 hk
                refine lv_bipush (v := -4) hx hb d_Br_refusalOf_90 (by decide) ?_
                exact kr_R hx hb hr rfl hlocks hS hk d_Br_refusalOf_92
            · have hk := br_n c17 hk
              refine lv_bipush (v := -3) hx hb d_Br_refusalOf_66 (by decide) ?_
              exact kr_R hx hb hr rfl hlocks hS hk d_Br_refusalOf_68
        · have hk := br_p c14 hk
          refine lv_bipush (v := -2) hx hb d_Br_refusalOf_38 (by decide) ?_
          exact kr_R hx hb hr rfl hlocks hS hk d_Br_refusalOf_40
      · have hk := br_n c12 hk
        refine lv_iconst (v := -1) hx hb d_Br_refusalOf_21 (by decide) ?_
        exact kr_R hx hb hr rfl hlocks hS hk d_Br_refusalOf_22
set_option maxHeartbeats 4000000 in
set_option maxRecDepth 100000 in
theorem c_Br_tryBooking (l : Launch) (D : va_G) (a : Nat → Nat → Nat) (k : Nat → Nat → ClassId) (sz : Nat) (σ : S_Br) (p1 p2 p3 p4 : Int32) (r0 : Int32 × S_Br) (hk : kf_Br_tryBooking σ p1 p2 p3 p4 = some r0) : Met l y_Br_tryBooking w_Br_tryBooking ({ frames := 3, cells := 0, slots := 0, locals := 74 }) (kp_P D cls (ty_Br k) (wl_Br a k σ) [.ref (a 0 0), .int p1, .int p2, .int p3, .int p4] sz) (kp_M D cls (wl_Br a k r0.2) (wl_Br a k σ) sz r0.1) 0 0 (va_A (wl_Br a k σ) sz) := by
  refine Met.ofW (cc := b_Br_tryBooking) (maxL := 6) (ret := (some .int)) (by decide) rfl ?_
  intro p e s m args below meth c s₁ B hml hv
  obtain ⟨rfl, hsz, hP, hK, hD0⟩ := hv
  have hx := B.exec
  have hb := B.bytes
  have hr := B.returns
  have hts : ∀ w ∈ lw_g, w.before _ s = true := fun w h => atoms_spec (ws := w_Br_tryBooking) B.pre w (List.mem_cons_of_mem _ h)
  have hown : s.vm.findClass R_Br = some m.cls := findClass_of_methodNamed B.named
  have hlocks := B.notSynchronized
  subst hsz
  have hA : ∀ q : Nat, s.heap.size ≤ q → (va_A (wl_Br a k σ) s.heap.size) q := fun _ h => Or.inr h
  have hDt : ∀ τ, va_D (fun _ => True) (wl_Br a k τ) := fun τ => kd_cg hD0 rfl
  have hDw : ∀ τ, va_D (va_A (wl_Br a k σ) s.heap.size) (wl_Br a k τ) := fun τ => kd_cg hD0.self rfl
  have hK1 := sK_Br_Ca hK
  have hDt1 : ∀ τ, va_D (fun _ => True) (wl_Ca (a 1) (k 1) τ) := fun τ => kd_cg (sD_Br_Ca hD0) rfl
  have hDw1 : ∀ τ, va_D (va_A (wl_Br a k σ) s.heap.size) (wl_Ca (a 1) (k 1) τ) := fun τ => kd_cg (sD_Br_Ca (hDw σ)) rfl
  have hK2 := sK_Br_Th hK
  have hDt2 : ∀ τ, va_D (fun _ => True) (wl_Th (a 2) (k 2) τ) := fun τ => kd_cg (sD_Br_Th hD0) rfl
  have hDw2 : ∀ τ, va_D (va_A (wl_Br a k σ) s.heap.size) (wl_Th (a 2) (k 2) τ) := fun τ => kd_cg (sD_Br_Th (hDw σ)) rfl
  have hK3 := sK_Br_Bk hK
  have hDt3 : ∀ τ, va_D (fun _ => True) (wl_Bk (a 3) (k 3) τ) := fun τ => kd_cg (sD_Br_Bk hD0) rfl
  have hDw3 : ∀ τ, va_D (va_A (wl_Br a k σ) s.heap.size) (wl_Bk (a 3) (k 3) τ) := fun τ => kd_cg (sD_Br_Bk (hDw σ)) rfl
  have hK4 := sK_Br_Wi hK
  have hDt4 : ∀ τ, va_D (fun _ => True) (wl_Wi (a 4) (k 4) τ) := fun τ => kd_cg (sD_Br_Wi hD0) rfl
  have hDw4 : ∀ τ, va_D (va_A (wl_Br a k σ) s.heap.size) (wl_Wi (a 4) (k 4) τ) := fun τ => kd_cg (sD_Br_Wi (hDw σ)) rfl
  have hK5 := sK_Br_Pe hK
  have hDt5 : ∀ τ, va_D (fun _ => True) (wl_Pe (a 5) (k 5) τ) := fun τ => kd_cg (sD_Br_Pe hD0) rfl
  have hDw5 : ∀ τ, va_D (va_A (wl_Br a k σ) s.heap.size) (wl_Pe (a 5) (k 5) τ) := fun τ => kd_cg (sD_Br_Pe (hDw σ)) rfl
  have hS : va_S (va_A (wl_Br a k σ) s.heap.size) s.heap s.heap [] := va_S.rf
  have hl := lv_entry ([.ref (a 0 0), .int p1, .int p2, .int p3, .int p4]) (n := 6) (Nat.le_of_ble_eq_true rfl)
  rw [lg_entry_eq]
  generalize (lg_sl ([.ref (a 0 0), .int p1, .int p2, .int p3, .int p4]) ++ List.replicate (6 - (lg_sl ([.ref (a 0 0), .int p1, .int p2, .int p3, .int p4])).length) Slot.unset).toArray = ls at hl ⊢
  have hl : lv_has ls 6 [(0, .ref (a 0 0)), (1, .int p1), (2, .int p2), (3, .int p3), (4, .int p4)] := hl
  unfold kf_Br_tryBooking at hk
  refine lv_aload_n hx hb d_Br_tryBooking_0 rfl (lv_at hl 0 rfl) ?_
  refine va_get (D := D) (ci := 5) (v := .ref (a 3 0)) (C := R_Br) (T := F_Br) (N := 6) hx hb hts i_uBr hown hK hP 0 rfl rfl 2 (by decide) (hts _ mw_162) (fun _ h9 => h9) rfl d_Br_tryBooking_1 ?_
  obtain ⟨q1, e1, hk⟩ := ob_s hk
  refine kc_R (va_runV (As := []) (rest := []) ⟨hx, hb, hml, hown, hts⟩ (c_Bk_isFull l D (a 3) (k 3) _ σ.2.2.1 q1 e1) (cwV 0 hts (gV mw_237 mw_238 mw_239 mw_30 mw_240) rfl rfl rfl hd_Bk_isFull ⟨Nat.le_of_ble_eq_true rfl, Nat.le_of_ble_eq_true rfl⟩) (kp_V (ci := 0) (q := (R_Bk, F_Bk, 9)) (q0 := 0) hK3 (sP_Br_Bk (σ := σ) hP) (hDt3 _) rfl rfl) rfl rfl hl.1 rfl (lv_room (Nat.le_of_ble_eq_true rfl)) d_Br_tryBooking_4 ⟨Nat.zero_le _, Nat.zero_le _⟩) hS hA hP (fun H locs hP hS => ?_)
  refine lv_if_eq (tgt := 12) hx hb d_Br_tryBooking_7 (by decide) (fun c2 => ?_) (fun c2 => ?_)
  · have hk := br_p c2 hk
    refine lv_aload_n hx hb d_Br_tryBooking_12 rfl (lv_at hl 0 rfl) ?_
    refine lv_iload_n hx hb d_Br_tryBooking_13 rfl (lv_at hl 1 rfl) ?_
    refine lv_iload_n hx hb d_Br_tryBooking_14 rfl (lv_at hl 2 rfl) ?_
    refine lv_iload_n hx hb d_Br_tryBooking_15 rfl (lv_at hl 3 rfl) ?_
    refine lv_iload hx hb d_Br_tryBooking_16 (lv_at hl 4 rfl) ?_
    refine lv_iconst (v := 0) hx hb d_Br_tryBooking_18 (by decide) ?_
    obtain ⟨q3, e3, hk⟩ := ob_s hk
    refine kc_R (va_runV (As := [.int p1, .int p2, .int p3, .int p4, .int 0]) (rest := []) ⟨hx, hb, hml, hown, hts⟩ (c_Br_refusalOf l D a k _ σ p1 p2 p3 p4 0 q3 e3) (cwV 5 hts (gV mw_241 mw_243 mw_1 mw_27 mw_244) rfl rfl rfl hd_Br_refusalOf ⟨Nat.le_of_ble_eq_true rfl, Nat.le_of_ble_eq_true rfl⟩) (kp_V (ci := 5) (q := (R_Br, F_Br, 6)) (q0 := 0) hK hP (hDt _) rfl rfl) rfl rfl hl.1 rfl (lv_room (Nat.le_of_ble_eq_true rfl)) d_Br_tryBooking_19 ⟨Nat.zero_le _, Nat.zero_le _⟩) hS hA hP (fun H locs hP hS => ?_)
    refine lv_istore (lv' := [(5, .int q3), (0, .ref (a 0 0)), (1, .int p1), (2, .int p2), (3, .int p3), (4, .int p4)]) hx hb d_Br_tryBooking_22 hl (by decide) rfl (fun ls hl => ?_)
    refine lv_iload hx hb d_Br_tryBooking_24 (lv_at hl 0 rfl) ?_
    refine lv_if_ne (tgt := 45) hx hb d_Br_tryBooking_26 (by decide) (fun c4 => ?_) (fun c4 => ?_)
    · have hk := br_n c4 hk
      refine lv_iload hx hb d_Br_tryBooking_45 (lv_at hl 0 rfl) ?_
      exact kr_M (w := wl_Br a k) hx hb hr rfl hlocks hS hP hk d_Br_tryBooking_47
    · have hk := br_p c4 hk
      refine lv_aload_n hx hb d_Br_tryBooking_29 rfl (lv_at hl 1 rfl) ?_
      refine va_get (D := D) (ci := 5) (v := .ref (a 3 0)) (C := R_Br) (T := F_Br) (N := 6) hx hb hts i_uBr hown hK hP 0 rfl rfl 2 (by decide) (hts _ mw_162) (fun _ h9 => h9) rfl d_Br_tryBooking_30 ?_
      refine lv_iload_n hx hb d_Br_tryBooking_33 rfl (lv_at hl 2 rfl) ?_
      refine lv_iload_n hx hb d_Br_tryBooking_34 rfl (lv_at hl 3 rfl) ?_
      refine lv_iload_n hx hb d_Br_tryBooking_35 rfl (lv_at hl 4 rfl) ?_
      refine lv_iload hx hb d_Br_tryBooking_36 (lv_at hl 5 rfl) ?_
      refine lv_iconst (v := 0) hx hb d_Br_tryBooking_38 (by decide) ?_
      obtain ⟨q5, e5, hk⟩ := ob_s hk
      refine kc_M (wF := wl_Br a k (σ.1, σ.2.1, q5.2, σ.2.2.2.1, σ.2.2.2.2.1, σ.2.2.2.2.2)) (va_runV (As := [.int p1, .int p2, .int p3, .int p4, .int 0]) (rest := []) ⟨hx, hb, hml, hown, hts⟩ (c_Bk_add l D (a 3) (k 3) _ σ.2.2.1 p1 p2 p3 p4 0 q5 e5) (cwV 5 hts (gV mw_285 mw_286 mw_287 mw_30 mw_288) rfl rfl rfl hd_Bk_add ⟨Nat.le_of_ble_eq_true rfl, Nat.le_of_ble_eq_true rfl⟩) (kp_V (ci := 0) (q := (R_Bk, F_Bk, 9)) (q0 := 0) hK3 (sP_Br_Bk (σ := σ) hP) (hDt3 _) rfl rfl) rfl rfl hl.1 rfl (lv_room (Nat.le_of_ble_eq_true rfl)) d_Br_tryBooking_39 ⟨Nat.zero_le _, Nat.zero_le _⟩) hS (hDw3 _) hA (fun _ _ h h9 => jP_Br_Bk σ q5.2 hP (hDt _) h h9) (fun H locs hP hS => ?_)
      refine lv_goto (tgt := 47) hx hb d_Br_tryBooking_42 (by decide) ?_
      exact kr_M (w := wl_Br a k) hx hb hr rfl hlocks hS hP hk d_Br_tryBooking_47
  · have hk := br_n c2 hk
    refine lv_iconst (v := 0) hx hb d_Br_tryBooking_10 (by decide) ?_
    exact kr_M (w := wl_Br a k) hx hb hr rfl hlocks hS hP hk d_Br_tryBooking_11
set_option maxHeartbeats 4000000 in
set_option maxRecDepth 100000 in
theorem c_Br_book (l : Launch) (D : va_G) (a : Nat → Nat → Nat) (k : Nat → Nat → ClassId) (sz : Nat) (σ : S_Br) (p1 p2 p3 p4 : Int32) (r0 : Int32 × S_Br) (hk : kf_Br_book σ p1 p2 p3 p4 = some r0) : Met l y_Br_book w_Br_book ({ frames := 4, cells := 0, slots := 0, locals := 99 }) (kp_P D cls (ty_Br k) (wl_Br a k σ) [.ref (a 0 0), .int p1, .int p2, .int p3, .int p4] sz) (kp_M D cls (wl_Br a k r0.2) (wl_Br a k σ) sz r0.1) 0 0 (va_A (wl_Br a k σ) sz) := by
  refine Met.ofW (cc := b_Br_book) (maxL := 5) (ret := (some .int)) (by decide) rfl ?_
  intro p e s m args below meth c s₁ B hml hv
  obtain ⟨rfl, hsz, hP, hK, hD0⟩ := hv
  have hx := B.exec
  have hb := B.bytes
  have hr := B.returns
  have hts : ∀ w ∈ lw_g, w.before _ s = true := fun w h => atoms_spec (ws := w_Br_book) B.pre w (List.mem_cons_of_mem _ h)
  have hown : s.vm.findClass R_Br = some m.cls := findClass_of_methodNamed B.named
  have hlocks := B.notSynchronized
  subst hsz
  have hA : ∀ q : Nat, s.heap.size ≤ q → (va_A (wl_Br a k σ) s.heap.size) q := fun _ h => Or.inr h
  have hDt : ∀ τ, va_D (fun _ => True) (wl_Br a k τ) := fun τ => kd_cg hD0 rfl
  have hDw : ∀ τ, va_D (va_A (wl_Br a k σ) s.heap.size) (wl_Br a k τ) := fun τ => kd_cg hD0.self rfl
  have hK1 := sK_Br_Ca hK
  have hDt1 : ∀ τ, va_D (fun _ => True) (wl_Ca (a 1) (k 1) τ) := fun τ => kd_cg (sD_Br_Ca hD0) rfl
  have hDw1 : ∀ τ, va_D (va_A (wl_Br a k σ) s.heap.size) (wl_Ca (a 1) (k 1) τ) := fun τ => kd_cg (sD_Br_Ca (hDw σ)) rfl
  have hK2 := sK_Br_Th hK
  have hDt2 : ∀ τ, va_D (fun _ => True) (wl_Th (a 2) (k 2) τ) := fun τ => kd_cg (sD_Br_Th hD0) rfl
  have hDw2 : ∀ τ, va_D (va_A (wl_Br a k σ) s.heap.size) (wl_Th (a 2) (k 2) τ) := fun τ => kd_cg (sD_Br_Th (hDw σ)) rfl
  have hK3 := sK_Br_Bk hK
  have hDt3 : ∀ τ, va_D (fun _ => True) (wl_Bk (a 3) (k 3) τ) := fun τ => kd_cg (sD_Br_Bk hD0) rfl
  have hDw3 : ∀ τ, va_D (va_A (wl_Br a k σ) s.heap.size) (wl_Bk (a 3) (k 3) τ) := fun τ => kd_cg (sD_Br_Bk (hDw σ)) rfl
  have hK4 := sK_Br_Wi hK
  have hDt4 : ∀ τ, va_D (fun _ => True) (wl_Wi (a 4) (k 4) τ) := fun τ => kd_cg (sD_Br_Wi hD0) rfl
  have hDw4 : ∀ τ, va_D (va_A (wl_Br a k σ) s.heap.size) (wl_Wi (a 4) (k 4) τ) := fun τ => kd_cg (sD_Br_Wi (hDw σ)) rfl
  have hK5 := sK_Br_Pe hK
  have hDt5 : ∀ τ, va_D (fun _ => True) (wl_Pe (a 5) (k 5) τ) := fun τ => kd_cg (sD_Br_Pe hD0) rfl
  have hDw5 : ∀ τ, va_D (va_A (wl_Br a k σ) s.heap.size) (wl_Pe (a 5) (k 5) τ) := fun τ => kd_cg (sD_Br_Pe (hDw σ)) rfl
  have hK0 : va_K D cls [] s := hK.sub [] rfl
  have hS : va_S (va_A (wl_Br a k σ) s.heap.size) s.heap s.heap [] := va_S.rf
  have hl := lv_entry ([.ref (a 0 0), .int p1, .int p2, .int p3, .int p4]) (n := 5) (Nat.le_of_ble_eq_true rfl)
  rw [lg_entry_eq]
  generalize (lg_sl ([.ref (a 0 0), .int p1, .int p2, .int p3, .int p4]) ++ List.replicate (5 - (lg_sl ([.ref (a 0 0), .int p1, .int p2, .int p3, .int p4])).length) Slot.unset).toArray = ls at hl ⊢
  have hl : lv_has ls 5 [(0, .ref (a 0 0)), (1, .int p1), (2, .int p2), (3, .int p3), (4, .int p4)] := hl
  unfold kf_Br_book at hk
  refine lv_iload_n hx hb d_Br_book_0 rfl (lv_at hl 1 rfl) ?_
  obtain ⟨q1, e1, hk⟩ := ob_s hk
  refine kc_R (va_runS (As := [.int p1]) (rest := []) ⟨hx, hb, hml, hown, hts⟩ (c_Br_isPerson l D _ p1 q1 e1) (cwS 1 hts (gS mw_226 mw_227 mw_27 mw_228) rfl rfl rfl hd_Br_isPerson ⟨Nat.le_of_ble_eq_true rfl, Nat.le_of_ble_eq_true rfl⟩) (kp_S hK0) rfl rfl hl.1 rfl (lv_room (Nat.le_of_ble_eq_true rfl)) d_Br_book_1 ⟨Nat.zero_le _, Nat.zero_le _⟩) hS hA hP (fun H locs hP hS => ?_)
  refine lv_if_eq (tgt := 18) hx hb d_Br_book_4 (by decide) (fun c2 => ?_) (fun c2 => ?_)
  · have hk := br_p c2 hk
    refine lv_iconst (v := 0) hx hb d_Br_book_18 (by decide) ?_
    exact kr_M (w := wl_Br a k) hx hb hr rfl hlocks hS hP hk d_Br_book_19
  · have hk := br_n c2 hk
    refine lv_aload_n hx hb d_Br_book_7 rfl (lv_at hl 0 rfl) ?_
    refine va_get (D := D) (ci := 5) (v := .ref (a 2 0)) (C := R_Br) (T := F_Br) (N := 6) hx hb hts i_uBr hown hK hP 0 rfl rfl 1 (by decide) (hts _ mw_161) (fun _ h9 => h9) rfl d_Br_book_8 ?_
    refine lv_iload_n hx hb d_Br_book_11 rfl (lv_at hl 2 rfl) ?_
    obtain ⟨q3, e3, hk⟩ := ob_s hk
    refine kc_R (va_runV (As := [.int p2]) (rest := []) ⟨hx, hb, hml, hown, hts⟩ (c_Th_has l D (a 2) (k 2) _ σ.2.1 p2 q3 e3) (cwV 1 hts (gV mw_229 mw_230 mw_231 mw_29 mw_232) rfl rfl rfl hd_Th_has ⟨Nat.le_of_ble_eq_true rfl, Nat.le_of_ble_eq_true rfl⟩) (kp_V (ci := 3) (q := (R_Th, F_Th, 6)) (q0 := 0) hK2 (sP_Br_Th (σ := σ) hP) (hDt2 _) rfl rfl) rfl rfl hl.1 rfl (lv_room (Nat.le_of_ble_eq_true rfl)) d_Br_book_12 ⟨Nat.zero_le _, Nat.zero_le _⟩) hS hA hP (fun H locs hP hS => ?_)
    refine lv_if_ne (tgt := 20) hx hb d_Br_book_15 (by decide) (fun c4 => ?_) (fun c4 => ?_)
    · have hk := br_n c4 hk
      refine lv_aload_n hx hb d_Br_book_20 rfl (lv_at hl 0 rfl) ?_
      refine lv_iload_n hx hb d_Br_book_21 rfl (lv_at hl 1 rfl) ?_
      refine lv_iload_n hx hb d_Br_book_22 rfl (lv_at hl 2 rfl) ?_
      refine lv_iload_n hx hb d_Br_book_23 rfl (lv_at hl 3 rfl) ?_
      refine lv_iload hx hb d_Br_book_24 (lv_at hl 4 rfl) ?_
      obtain ⟨q5, e5, hk⟩ := ob_s hk
      refine kc_M (wF := wl_Br a k q5.2) (va_runV (As := [.int p1, .int p2, .int p3, .int p4]) (rest := []) ⟨hx, hb, hml, hown, hts⟩ (c_Br_tryBooking l D a k _ σ p1 p2 p3 p4 q5 e5) (cwV 4 hts (gV mw_233 mw_235 mw_0 mw_27 mw_236) rfl rfl rfl hd_Br_tryBooking ⟨Nat.le_of_ble_eq_true rfl, Nat.le_of_ble_eq_true rfl⟩) (kp_V (ci := 5) (q := (R_Br, F_Br, 6)) (q0 := 0) hK hP (hDt _) rfl rfl) rfl rfl hl.1 rfl (lv_room (Nat.le_of_ble_eq_true rfl)) d_Br_book_26 ⟨Nat.zero_le _, Nat.zero_le _⟩) hS (hDw _) hA (fun _ _ h _ => h) (fun H locs hP hS => ?_)
      exact kr_M (w := wl_Br a k) hx hb hr rfl hlocks hS hP hk d_Br_book_29
    · have hk := br_p c4 hk
      refine lv_iconst (v := 0) hx hb d_Br_book_18 (by decide) ?_
      exact kr_M (w := wl_Br a k) hx hb hr rfl hlocks hS hP hk d_Br_book_19
