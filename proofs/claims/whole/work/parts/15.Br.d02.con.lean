set_option maxHeartbeats 4000000 in
set_option maxRecDepth 100000 in
theorem c_Br_wish (l : Launch) (D : va_G) (a : Nat → Nat → Nat) (k : Nat → Nat → ClassId) (sz : Nat) (σ : S_Br) (p1 p2 p3 p4 p5 : Int32) (r0 : Int32 × S_Br) (hk : kf_Br_wish σ p1 p2 p3 p4 p5 = some r0) : Met l y_Br_wish w_Br_wish ({ frames := 3, cells := 0, slots := 0, locals := 74 }) (kp_P D cls (ty_Br k) (wl_Br a k σ) [.ref (a 0 0), .int p1, .int p2, .int p3, .int p4, .int p5] sz) (kp_M D cls (wl_Br a k r0.2) (wl_Br a k σ) sz r0.1) 0 0 (va_A (wl_Br a k σ) sz) := by
  refine Met.ofW (cc := b_Br_wish) (maxL := 6) (ret := (some .int)) (by decide) rfl ?_
  intro p e s m args below meth c s₁ B hml hv
  obtain ⟨rfl, hsz, hP, hK, hD0⟩ := hv
  have hx := B.exec
  have hb := B.bytes
  have hr := B.returns
  have hts : ∀ w ∈ lw_g, w.before _ s = true := fun w h => atoms_spec (ws := w_Br_wish) B.pre w (List.mem_cons_of_mem _ h)
  have hown : s.vm.findClass R_Br = some m.cls := findClass_of_methodNamed B.named
  have hlocks := B.notSynchronized
  subst hsz
  have hA : ∀ q : Nat, s.heap.size ≤ q → (va_A (wl_Br a k σ) s.heap.size) q := fun _ h => Or.inr h
  have hDt : ∀ τ, va_D (fun _ => True) (wl_Br a k τ) := fun τ => kd_cg hD0 rfl
  have hDw : ∀ τ, va_D (va_A (wl_Br a k σ) s.heap.size) (wl_Br a k τ) := fun τ => kd_cg hD0.self rfl
  have hK1 := sK_Br_Ca hK
  have hDt1 : ∀ τ, va_D (fun _ => True) (wl_Ca (a 1) (k 1) τ) := fun τ => kd_cg (sD_Br_Ca hD0) rfl
  have hDw1 : ∀ τ, va_D (va_A (wl_Br a k σ) s.heap.size) (wl_Ca (a 1) (k 1) τ) := fun τ => kd_cg (sD_Br_Ca (hDw σ)) rfl
  have hK2 := sK_Br_Th hK
  have hDt2 : ∀ τ, va_D (fun _ => True) (wl_Th (a 2) (k 2) τ) := fun τ => kd_cg (sD_Br_Th hD0) rfl
  have hDw2 : ∀ τ, va_D (va_A (wl_Br a k σ) s.heap.size) (wl_Th (a 2) (k 2) τ) := fun τ => kd_cg (sD_Br_Th (hDw σ)) rfl
  have hK3 := sK_Br_Bk hK
  have hDt3 : ∀ τ, va_D (fun _ => True) (wl_Bk (a 3) (k 3) τ) := fun τ => kd_cg (sD_Br_Bk hD0) rfl
  have hDw3 : ∀ τ, va_D (va_A (wl_Br a k σ) s.heap.size) (wl_Bk (a 3) (k 3) τ) := fun τ => kd_cg (sD_Br_Bk (hDw σ)) rfl
  have hK4 := sK_Br_Wi hK
  have hDt4 : ∀ τ, va_D (fun _ => True) (wl_Wi (a 4) (k 4) τ) := fun τ => kd_cg (sD_Br_Wi hD0) rfl
  have hDw4 : ∀ τ, va_D (va_A (wl_Br a k σ) s.heap.size) (wl_Wi (a 4) (k 4) τ) := fun τ => kd_cg (sD_Br_Wi (hDw σ)) rfl
  have hK5 := sK_Br_Pe hK
  have hDt5 : ∀ τ, va_D (fun _ => True) (wl_Pe (a 5) (k 5) τ) := fun τ => kd_cg (sD_Br_Pe hD0) rfl
  have hDw5 : ∀ τ, va_D (va_A (wl_Br a k σ) s.heap.size) (wl_Pe (a 5) (k 5) τ) := fun τ => kd_cg (sD_Br_Pe (hDw σ)) rfl
  have hK0 : va_K D cls [] s := hK.sub [] rfl
  have hS : va_S (va_A (wl_Br a k σ) s.heap.size) s.heap s.heap [] := va_S.rf
  have hl := lv_entry ([.ref (a 0 0), .int p1, .int p2, .int p3, .int p4, .int p5]) (n := 6) (Nat.le_of_ble_eq_true rfl)
  rw [lg_entry_eq]
  generalize (lg_sl ([.ref (a 0 0), .int p1, .int p2, .int p3, .int p4, .int p5]) ++ List.replicate (6 - (lg_sl ([.ref (a 0 0), .int p1, .int p2, .int p3, .int p4, .int p5])).length) Slot.unset).toArray = ls at hl ⊢
  have hl : lv_has ls 6 [(0, .ref (a 0 0)), (1, .int p1), (2, .int p2), (3, .int p3), (4, .int p4), (5, .int p5)] := hl
  unfold kf_Br_wish at hk
  refine lv_iload_n hx hb d_Br_wish_0 rfl (lv_at hl 1 rfl) ?_
  obtain ⟨q1, e1, hk⟩ := ob_s hk
  refine kc_R (va_runS (As := [.int p1]) (rest := []) ⟨hx, hb, hml, hown, hts⟩ (c_Br_isPerson l D _ p1 q1 e1) (cwS 1 hts (gS mw_226 mw_227 mw_27 mw_228) rfl rfl rfl hd_Br_isPerson ⟨Nat.le_of_ble_eq_true rfl, Nat.le_of_ble_eq_true rfl⟩) (kp_S hK0) rfl rfl hl.1 rfl (lv_room (Nat.le_of_ble_eq_true rfl)) d_Br_wish_1 ⟨Nat.zero_le _, Nat.zero_le _⟩) hS hA hP (fun H locs hP hS => ?_)
  refine lv_if_eq (tgt := 28) hx hb d_Br_wish_4 (by decide) (fun c2 => ?_) (fun c2 => ?_)
  · have hk := br_p c2 hk
    refine lv_iconst (v := 0) hx hb d_Br_wish_28 (by decide) ?_
    exact kr_M (w := wl_Br a k) hx hb hr rfl hlocks hS hP hk d_Br_wish_29
  · have hk := br_n c2 hk
    refine lv_aload_n hx hb d_Br_wish_7 rfl (lv_at hl 0 rfl) ?_
    refine va_get (D := D) (ci := 5) (v := .ref (a 2 0)) (C := R_Br) (T := F_Br) (N := 6) hx hb hts i_uBr hown hK hP 0 rfl rfl 1 (by decide) (hts _ mw_161) (fun _ h9 => h9) rfl d_Br_wish_8 ?_
    refine lv_iload_n hx hb d_Br_wish_11 rfl (lv_at hl 2 rfl) ?_
    obtain ⟨q3, e3, hk⟩ := ob_s hk
    refine kc_R (va_runV (As := [.int p2]) (rest := []) ⟨hx, hb, hml, hown, hts⟩ (c_Th_has l D (a 2) (k 2) _ σ.2.1 p2 q3 e3) (cwV 1 hts (gV mw_229 mw_230 mw_231 mw_29 mw_232) rfl rfl rfl hd_Th_has ⟨Nat.le_of_ble_eq_true rfl, Nat.le_of_ble_eq_true rfl⟩) (kp_V (ci := 3) (q := (R_Th, F_Th, 6)) (q0 := 0) hK2 (sP_Br_Th (σ := σ) hP) (hDt2 _) rfl rfl) rfl rfl hl.1 rfl (lv_room (Nat.le_of_ble_eq_true rfl)) d_Br_wish_12 ⟨Nat.zero_le _, Nat.zero_le _⟩) hS hA hP (fun H locs hP hS => ?_)
    refine lv_if_eq (tgt := 28) hx hb d_Br_wish_15 (by decide) (fun c4 => ?_) (fun c4 => ?_)
    · have hk := br_p c4 hk
      refine lv_iconst (v := 0) hx hb d_Br_wish_28 (by decide) ?_
      exact kr_M (w := wl_Br a k) hx hb hr rfl hlocks hS hP hk d_Br_wish_29
    · have hk := br_n c4 hk
      refine lv_aload_n hx hb d_Br_wish_18 rfl (lv_at hl 0 rfl) ?_
      refine va_get (D := D) (ci := 5) (v := .ref (a 4 0)) (C := R_Br) (T := F_Br) (N := 6) hx hb hts i_uBr hown hK hP 0 rfl rfl 3 (by decide) (hts _ mw_163) (fun _ h9 => h9) rfl d_Br_wish_19 ?_
      obtain ⟨q5, e5, hk⟩ := ob_s hk
      refine kc_R (va_runV (As := []) (rest := []) ⟨hx, hb, hml, hown, hts⟩ (c_Wi_isFull l D (a 4) (k 4) _ σ.2.2.2.1 q5 e5) (cwV 0 hts (gV mw_415 mw_416 mw_417 mw_31 mw_418) rfl rfl rfl hd_Wi_isFull ⟨Nat.le_of_ble_eq_true rfl, Nat.le_of_ble_eq_true rfl⟩) (kp_V (ci := 4) (q := (R_Wi, F_Wi, 6)) (q0 := 0) hK4 (sP_Br_Wi (σ := σ) hP) (hDt4 _) rfl rfl) rfl rfl hl.1 rfl (lv_room (Nat.le_of_ble_eq_true rfl)) d_Br_wish_22 ⟨Nat.zero_le _, Nat.zero_le _⟩) hS hA hP (fun H locs hP hS => ?_)
      refine lv_if_eq (tgt := 30) hx hb d_Br_wish_25 (by decide) (fun c6 => ?_) (fun c6 => ?_)
      · have hk := br_p c6 hk
        refine lv_aload_n hx hb d_Br_wish_30 rfl (lv_at hl 0 rfl) ?_
        refine lv_iload_n hx hb d_Br_wish_31 rfl (lv_at hl 1 rfl) ?_
        refine lv_iload_n hx hb d_Br_wish_32 rfl (lv_at hl 2 rfl) ?_
        refine lv_iload_n hx hb d_Br_wish_33 rfl (lv_at hl 3 rfl) ?_
        refine lv_iload hx hb d_Br_wish_34 (lv_at hl 4 rfl) ?_
        refine lv_iconst (v := 0) hx hb d_Br_wish_36 (by decide) ?_
        obtain ⟨q7, e7, hk⟩ := ob_s hk
        refine kc_R (va_runV (As := [.int p1, .int p2, .int p3, .int p4, .int 0]) (rest := []) ⟨hx, hb, hml, hown, hts⟩ (c_Br_refusalOf l D a k _ σ p1 p2 p3 p4 0 q7 e7) (cwV 5 hts (gV mw_241 mw_243 mw_1 mw_27 mw_244) rfl rfl rfl hd_Br_refusalOf ⟨Nat.le_of_ble_eq_true rfl, Nat.le_of_ble_eq_true rfl⟩) (kp_V (ci := 5) (q := (R_Br, F_Br, 6)) (q0 := 0) hK hP (hDt _) rfl rfl) rfl rfl hl.1 rfl (lv_room (Nat.le_of_ble_eq_true rfl)) d_Br_wish_37 ⟨Nat.zero_le _, Nat.zero_le _⟩) hS hA hP (fun H locs hP hS => ?_)
        refine lv_bipush (v := -6) hx hb d_Br_wish_40 (by decide) ?_
        refine lv_icmp_eq (tgt := 47) hx hb d_Br_wish_42 (by decide) (fun c8 => ?_) (fun c8 => ?_)
        · have hk := br_p c8 hk
          refine lv_aload_n hx hb d_Br_wish_47 rfl (lv_at hl 0 rfl) ?_
          refine va_get (D := D) (ci := 5) (v := .ref (a 4 0)) (C := R_Br) (T := F_Br) (N := 6) hx hb hts i_uBr hown hK hP 0 rfl rfl 3 (by decide) (hts _ mw_163) (fun _ h9 => h9) rfl d_Br_wish_48 ?_
          refine lv_iload_n hx hb d_Br_wish_51 rfl (lv_at hl 1 rfl) ?_
          refine lv_iload_n hx hb d_Br_wish_52 rfl (lv_at hl 2 rfl) ?_
          refine lv_iload_n hx hb d_Br_wish_53 rfl (lv_at hl 3 rfl) ?_
          refine lv_iload hx hb d_Br_wish_54 (lv_at hl 4 rfl) ?_
          refine lv_iload hx hb d_Br_wish_56 (lv_at hl 5 rfl) ?_
          obtain ⟨q9, e9, hk⟩ := ob_s hk
          refine kc_M (wF := wl_Br a k (σ.1, σ.2.1, σ.2.2.1, q9.2, σ.2.2.2.2.1, σ.2.2.2.2.2)) (va_runV (As := [.int p1, .int p2, .int p3, .int p4, .int p5]) (rest := []) ⟨hx, hb, hml, hown, hts⟩ (c_Wi_add l D (a 4) (k 4) _ σ.2.2.2.1 p1 p2 p3 p4 p5 q9 e9) (cwV 5 hts (gV mw_419 mw_420 mw_421 mw_31 mw_422) rfl rfl rfl hd_Wi_add ⟨Nat.le_of_ble_eq_true rfl, Nat.le_of_ble_eq_true rfl⟩) (kp_V (ci := 4) (q := (R_Wi, F_Wi, 6)) (q0 := 0) hK4 (sP_Br_Wi (σ := σ) hP) (hDt4 _) rfl rfl) rfl rfl hl.1 rfl (lv_room (Nat.le_of_ble_eq_true rfl)) d_Br_wish_58 ⟨Nat.zero_le _, Nat.zero_le _⟩) hS (hDw4 _) hA (fun _ _ h h9 => jP_Br_Wi σ q9.2 hP (hDt _) h h9) (fun H locs hP hS => ?_)
          exact kr_M (w := wl_Br a k) hx hb hr rfl hlocks hS hP hk d_Br_wish_61
        · have hk := br_n c8 hk
          refine lv_iconst (v := -1) hx hb d_Br_wish_45 (by decide) ?_
          exact kr_M (w := wl_Br a k) hx hb hr rfl hlocks hS hP hk d_Br_wish_46
      · have hk := br_n c6 hk
        refine lv_iconst (v := 0) hx hb d_Br_wish_28 (by decide) ?_
        exact kr_M (w := wl_Br a k) hx hb hr rfl hlocks hS hP hk d_Br_wish_29
set_option maxHeartbeats 4000000 in
set_option maxRecDepth 100000 in
theorem c_Br_isMissed (l : Launch) (D : va_G) (a : Nat → Nat → Nat) (k : Nat → Nat → ClassId) (sz : Nat) (σ : S_Br) (p1 : Int32) (r0 : Int32) (hk : kf_Br_isMissed σ p1 = some r0) : Met l y_Br_isMissed w_Br_isMissed ({ frames := 2, cells := 0, slots := 0, locals := 42 }) (kp_P D cls (ty_Br k) (wl_Br a k σ) [.ref (a 0 0), .int p1] sz) (kp_R sz r0) 0 0 (va_A [] sz) := by
  refine Met.ofW (cc := b_Br_isMissed) (maxL := 2) (ret := (some .boolean)) (by decide) rfl ?_
  intro p e s m args below meth c s₁ B hml hv
  obtain ⟨rfl, hsz, hP, hK, hD0⟩ := hv
  have hx := B.exec
  have hb := B.bytes
  have hr := B.returns
  have hts : ∀ w ∈ lw_g, w.before _ s = true := fun w h => atoms_spec (ws := w_Br_isMissed) B.pre w (List.mem_cons_of_mem _ h)
  have hown : s.vm.findClass R_Br = some m.cls := findClass_of_methodNamed B.named
  have hlocks := B.notSynchronized
  subst hsz
  have hA : ∀ q : Nat, s.heap.size ≤ q → (va_A ([]) s.heap.size) q := fun _ h => Or.inr h
  have hDt : ∀ τ, va_D (fun _ => True) (wl_Br a k τ) := fun τ => kd_cg hD0 rfl
  have hK1 := sK_Br_Ca hK
  have hDt1 : ∀ τ, va_D (fun _ => True) (wl_Ca (a 1) (k 1) τ) := fun τ => kd_cg (sD_Br_Ca hD0) rfl
  have hK2 := sK_Br_Th hK
  have hDt2 : ∀ τ, va_D (fun _ => True) (wl_Th (a 2) (k 2) τ) := fun τ => kd_cg (sD_Br_Th hD0) rfl
  have hK3 := sK_Br_Bk hK
  have hDt3 : ∀ τ, va_D (fun _ => True) (wl_Bk (a 3) (k 3) τ) := fun τ => kd_cg (sD_Br_Bk hD0) rfl
  have hK4 := sK_Br_Wi hK
  have hDt4 : ∀ τ, va_D (fun _ => True) (wl_Wi (a 4) (k 4) τ) := fun τ => kd_cg (sD_Br_Wi hD0) rfl
  have hK5 := sK_Br_Pe hK
  have hDt5 : ∀ τ, va_D (fun _ => True) (wl_Pe (a 5) (k 5) τ) := fun τ => kd_cg (sD_Br_Pe hD0) rfl
  have hS : va_S (va_A ([]) s.heap.size) s.heap s.heap [] := va_S.rf
  have hl := lv_entry ([.ref (a 0 0), .int p1]) (n := 2) (Nat.le_of_ble_eq_true rfl)
  rw [lg_entry_eq]
  generalize (lg_sl ([.ref (a 0 0), .int p1]) ++ List.replicate (2 - (lg_sl ([.ref (a 0 0), .int p1])).length) Slot.unset).toArray = ls at hl ⊢
  have hl : lv_has ls 2 [(0, .ref (a 0 0)), (1, .int p1)] := hl
  unfold kf_Br_isMissed at hk
  refine lv_aload_n hx hb d_Br_isMissed_0 rfl (lv_at hl 0 rfl) ?_
  refine va_get (D := D) (ci := 5) (v := .ref (a 3 0)) (C := R_Br) (T := F_Br) (N := 6) hx hb hts i_uBr hown hK hP 0 rfl rfl 2 (by decide) (hts _ mw_162) (fun _ h9 => h9) rfl d_Br_isMissed_1 ?_
  refine lv_iload_n hx hb d_Br_isMissed_4 rfl (lv_at hl 1 rfl) ?_
  obtain ⟨q1, e1, hk⟩ := ob_s hk
  refine kc_R (va_runV (As := [.int p1]) (rest := []) ⟨hx, hb, hml, hown, hts⟩ (c_Bk_isBooked l D (a 3) (k 3) _ σ.2.2.1 p1 q1 e1) (cwV 1 hts (gV mw_407 mw_408 mw_409 mw_30 mw_410) rfl rfl rfl hd_Bk_isBooked ⟨Nat.le_of_ble_eq_true rfl, Nat.le_of_ble_eq_true rfl⟩) (kp_V (ci := 0) (q := (R_Bk, F_Bk, 9)) (q0 := 0) hK3 (sP_Br_Bk (σ := σ) hP) (hDt3 _) rfl rfl) rfl rfl hl.1 rfl (lv_room (Nat.le_of_ble_eq_true rfl)) d_Br_isMissed_5 ⟨Nat.zero_le _, Nat.zero_le _⟩) hS hA hP (fun H locs hP hS => ?_)
  refine lv_if_eq (tgt := 38) hx hb d_Br_isMissed_8 (by decide) (fun c2 => ?_) (fun c2 => ?_)
  · have hk := br_p c2 hk
    refine lv_iconst (v := 0) hx hb d_Br_isMissed_38 (by decide) ?_
    exact kr_R hx hb hr (by decide) hlocks hS hk d_Br_isMissed_39
  · have hk := br_n c2 hk
    refine lv_aload_n hx hb d_Br_isMissed_11 rfl (lv_at hl 0 rfl) ?_
    refine va_get (D := D) (ci := 5) (v := .ref (a 3 0)) (C := R_Br) (T := F_Br) (N := 6) hx hb hts i_uBr hown hK hP 0 rfl rfl 2 (by decide) (hts _ mw_162) (fun _ h9 => h9) rfl d_Br_isMissed_12 ?_
    refine lv_iload_n hx hb d_Br_isMissed_15 rfl (lv_at hl 1 rfl) ?_
    obtain ⟨q3, e3, hk⟩ := ob_s hk
    refine kc_R (va_runV (As := [.int p1]) (rest := []) ⟨hx, hb, hml, hown, hts⟩ (c_Bk_isEquipment l D (a 3) (k 3) _ σ.2.2.1 p1 q3 e3) (cwV 1 hts (gV mw_391 mw_392 mw_393 mw_30 mw_394) rfl rfl rfl hd_Bk_isEquipment ⟨Nat.le_of_ble_eq_true rfl, Nat.le_of_ble_eq_true rfl⟩) (kp_V (ci := 0) (q := (R_Bk, F_Bk, 9)) (q0 := 0) hK3 (sP_Br_Bk (σ := σ) hP) (hDt3 _) rfl rfl) rfl rfl hl.1 rfl (lv_room (Nat.le_of_ble_eq_true rfl)) d_Br_isMissed_16 ⟨Nat.zero_le _, Nat.zero_le _⟩) hS hA hP (fun H locs hP hS => ?_)
    refine lv_if_ne (tgt := 38) hx hb d_Br_isMissed_19 (by decide) (fun c4 => ?_) (fun c4 => ?_)
    · have hk := br_n c4 hk
      refine lv_iconst (v := 0) hx hb d_Br_isMissed_38 (by decide) ?_
      exact kr_R hx hb hr (by decide) hlocks hS hk d_Br_isMissed_39
    · have hk := br_p c4 hk
      refine lv_aload_n hx hb d_Br_isMissed_22 rfl (lv_at hl 0 rfl) ?_
      refine lv_iload_n hx hb d_Br_isMissed_23 rfl (lv_at hl 1 rfl) ?_
      obtain ⟨q5, e5, hk⟩ := ob_s hk
      refine kc_R (va_runV (As := [.int p1]) (rest := []) ⟨hx, hb, hml, hown, hts⟩ (c_Br_lastCheckIn l D a k _ σ p1 q5 e5) (cwV 1 hts (gV mw_379 mw_381 mw_6 mw_27 mw_382) rfl rfl rfl hd_Br_lastCheckIn ⟨Nat.le_of_ble_eq_true rfl, Nat.le_of_ble_eq_true rfl⟩) (kp_V (ci := 5) (q := (R_Br, F_Br, 6)) (q0 := 0) hK hP (hDt _) rfl rfl) rfl rfl hl.1 rfl (lv_room (Nat.le_of_ble_eq_true rfl)) d_Br_isMissed_24 ⟨Nat.zero_le _, Nat.zero_le _⟩) hS hA hP (fun H locs hP hS => ?_)
      refine lv_aload_n hx hb d_Br_isMissed_27 rfl (lv_at hl 0 rfl) ?_
      refine va_get (D := D) (ci := 5) (v := .int σ.2.2.2.2.2) (C := R_Br) (T := F_Br) (N := 6) hx hb hts i_uBr hown hK hP 0 rfl rfl 5 (by decide) (hts _ mw_165) (fun _ h9 => h9) rfl d_Br_isMissed_28 ?_
      refine lv_icmp_ge (tgt := 38) hx hb d_Br_isMissed_31 (by decide) (fun c6 => ?_) (fun c6 => ?_)
      · have hk := br_p c6 hk
        refine lv_iconst (v := 0) hx hb d_Br_isMissed_38 (by decide) ?_
        exact kr_R hx hb hr (by decide) hlocks hS hk d_Br_isMissed_39
      · have hk := br_n c6 hk
        refine lv_iconst (v := 1) hx hb d_Br_isMissed_34 (by decide) ?_
        refine lv_goto (tgt := 39) hx hb d_Br_isMissed_35 (by decide) ?_
        exact kr_R hx hb hr (by decide) hlocks hS hk d_Br_isMissed_39
set_option maxHeartbeats 4000000 in
set_option maxRecDepth 100000 in
theorem c_Br_tick (l : Launch) (D : va_G) (a : Nat → Nat → Nat) (k : Nat → Nat → ClassId) (sz : Nat) (σ : S_Br) (p1 : Int32) (r0 : Int32 × S_Br) (hk : kf_Br_tick σ p1 = some r0) : Met l y_Br_tick w_Br_tick ({ frames := 6, cells := 0, slots := 0, locals := 147 }) (kp_P D cls (ty_Br k) (wl_Br a k σ) [.ref (a 0 0), .int p1] sz) (kp_M D cls (wl_Br a k r0.2) (wl_Br a k σ) sz r0.1) 0 0 (va_A (wl_Br a k σ) sz) := by
  refine Met.ofW (cc := b_Br_tick) (maxL := 5) (ret := (some .int)) (by decide) rfl ?_
  intro p e s m args below meth c s₁ B hml hv
  obtain ⟨rfl, hsz, hP, hK, hD0⟩ := hv
  have hx := B.exec
  have hb := B.bytes
  have hr := B.returns
  have hts : ∀ w ∈ lw_g, w.before _ s = true := fun w h => atoms_spec (ws := w_Br_tick) B.pre w (List.mem_cons_of_mem _ h)
  have hown : s.vm.findClass R_Br = some m.cls := findClass_of_methodNamed B.named
  have hlocks := B.notSynchronized
  subst hsz
  have hA : ∀ q : Nat, s.heap.size ≤ q → (va_A (wl_Br a k σ) s.heap.size) q := fun _ h => Or.inr h
  have hDt : ∀ τ, va_D (fun _ => True) (wl_Br a k τ) := fun τ => kd_cg hD0 rfl
  have hDw : ∀ τ, va_D (va_A (wl_Br a k σ) s.heap.size) (wl_Br a k τ) := fun τ => kd_cg hD0.self rfl
  have hK1 := sK_Br_Ca hK
  have hDt1 : ∀ τ, va_D (fun _ => True) (wl_Ca (a 1) (k 1) τ) := fun τ => kd_cg (sD_Br_Ca hD0) rfl
  have hDw1 : ∀ τ, va_D (va_A (wl_Br a k σ) s.heap.size) (wl_Ca (a 1) (k 1) τ) := fun τ => kd_cg (sD_Br_Ca (hDw σ)) rfl
  have hK2 := sK_Br_Th hK
  have hDt2 : ∀ τ, va_D (fun _ => True) (wl_Th (a 2) (k 2) τ) := fun τ => kd_cg (sD_Br_Th hD0) rfl
  have hDw2 : ∀ τ, va_D (va_A (wl_Br a k σ) s.heap.size) (wl_Th (a 2) (k 2) τ) := fun τ => kd_cg (sD_Br_Th (hDw σ)) rfl
  have hK3 := sK_Br_Bk hK
  have hDt3 : ∀ τ, va_D (fun _ => True) (wl_Bk (a 3) (k 3) τ) := fun τ => kd_cg (sD_Br_Bk hD0) rfl
  have hDw3 : ∀ τ, va_D (va_A (wl_Br a k σ) s.heap.size) (wl_Bk (a 3) (k 3) τ) := fun τ => kd_cg (sD_Br_Bk (hDw σ)) rfl
  have hK4 := sK_Br_Wi hK
  have hDt4 : ∀ τ, va_D (fun _ => True) (wl_Wi (a 4) (k 4) τ) := fun τ => kd_cg (sD_Br_Wi hD0) rfl
  have hDw4 : ∀ τ, va_D (va_A (wl_Br a k σ) s.heap.size) (wl_Wi (a 4) (k 4) τ) := fun τ => kd_cg (sD_Br_Wi (hDw σ)) rfl
  have hK5 := sK_Br_Pe hK
  have hDt5 : ∀ τ, va_D (fun _ => True) (wl_Pe (a 5) (k 5) τ) := fun τ => kd_cg (sD_Br_Pe hD0) rfl
  have hDw5 : ∀ τ, va_D (va_A (wl_Br a k σ) s.heap.size) (wl_Pe (a 5) (k 5) τ) := fun τ => kd_cg (sD_Br_Pe (hDw σ)) rfl
  have hS : va_S (va_A (wl_Br a k σ) s.heap.size) s.heap s.heap [] := va_S.rf
  have hl := lv_entry ([.ref (a 0 0), .int p1]) (n := 5) (Nat.le_of_ble_eq_true rfl)
  rw [lg_entry_eq]
  generalize (lg_sl ([.ref (a 0 0), .int p1]) ++ List.replicate (5 - (lg_sl ([.ref (a 0 0), .int p1])).length) Slot.unset).toArray = ls at hl ⊢
  have hl : lv_has ls 5 [(0, .ref (a 0 0)), (1, .int p1)] := hl
  unfold kf_Br_tick at hk
  have L45 : ∀ (n45 : Nat) (x2 : Int32) (x3 : Int32) (x4 : Int32) (τ : S_Br) (H : Heap) (locs : List Loc) (ls : Array Slot), va_P D cls (wl_Br a k τ) H → va_S (va_A (wl_Br a k σ) s.heap.size) s.heap H locs → lv_has ls 5 [(0, .ref (a 0 0)), (2, .int x2), (3, .int x3), (4, .int x4)] → kf_Br_tick_45 p1 n45 x2 x3 x4 τ = some r0 → W p l e (headSpec w_Br_tick ({ frames := 6, cells := 0, slots := 0, locals := 147 })).room s m [.ref (a 0 0), .int p1].toArray below meth c H locs 0 0 (MQ below (kp_M D cls (wl_Br a k r0.2) (wl_Br a k σ) s.heap.size r0.1) [.ref (a 0 0), .int p1].toArray s 0 0 (va_A (wl_Br a k σ) s.heap.size)) (F0 m 45 ls []) := by
    intro n45
    induction n45 with
    | zero =>
      intro x2 x3 x4 τ H locs ls hP hS hl hk
      exact nomatch hk
    | succ n45 ih45 =>
      intro x2 x3 x4 τ H locs ls hP hS hl hk
      rw [kf_Br_tick_45_s] at hk
      refine lv_iload hx hb d_Br_tick_45 (lv_at hl 3 rfl) ?_
      refine lv_iload_n hx hb d_Br_tick_47 rfl (lv_at hl 2 rfl) ?_
      refine lv_icmp_gt (tgt := 97) hx hb d_Br_tick_48 (by decide) (fun c1 => ?_) (fun c1 => ?_)
      · have hk := br_p c1 hk
        refine lv_iload_n hx hb d_Br_tick_97 rfl (lv_at hl 1 rfl) ?_
        exact kr_M (w := wl_Br a k) hx hb hr rfl hlocks hS hP hk d_Br_tick_98
      · have hk := br_n c1 hk
        refine lv_aload_n hx hb d_Br_tick_51 rfl (lv_at hl 0 rfl) ?_
        refine lv_iload hx hb d_Br_tick_52 (lv_at hl 3 rfl) ?_
        obtain ⟨q2, e2, hk⟩ := ob_s hk
        refine kc_R (va_runV (As := [.int x4]) (rest := []) ⟨hx, hb, hml, hown, hts⟩ (c_Br_isMissed l D a k _ τ x4 q2 e2) (cwV 1 hts (gV mw_435 mw_437 mw_7 mw_27 mw_438) rfl rfl rfl hd_Br_isMissed ⟨Nat.le_of_ble_eq_true rfl, Nat.le_of_ble_eq_true rfl⟩) (kp_V (ci := 5) (q := (R_Br, F_Br, 6)) (q0 := 0) hK hP (hDt _) rfl rfl) rfl rfl hl.1 rfl (lv_room (Nat.le_of_ble_eq_true rfl)) d_Br_tick_54 ⟨Nat.zero_le _, Nat.zero_le _⟩) hS hA hP (fun H locs hP hS => ?_)
        refine lv_if_eq (tgt := 91) hx hb d_Br_tick_57 (by decide) (fun c3 => ?_) (fun c3 => ?_)
        · have hk := br_p c3 hk
          refine lv_iinc (v := (x4 + 1)) (lv' := [(4, .int (x4 + 1)), (0, .ref (a 0 0)), (2, .int x2), (3, .int x3)]) hx hb d_Br_tick_91 hl (k := 3) rfl rfl (by decide) rfl (fun ls hl => ?_)
          refine lv_goto (tgt := 45) hx hb d_Br_tick_94 (by decide) ?_
          exact ih45 x2 x3 (x4 + 1) τ _ _ _ hP hS (lv_sub hl [1, 2, 3, 0] rfl) hk
        · have hk := br_n c3 hk
          refine lv_iinc (v := (x2 + 1)) (lv' := [(2, .int (x2 + 1)), (0, .ref (a 0 0)), (3, .int x3), (4, .int x4)]) hx hb d_Br_tick_60 hl (k := 1) rfl rfl (by decide) rfl (fun ls hl => ?_)
          refine lv_aload_n hx hb d_Br_tick_63 rfl (lv_at hl 1 rfl) ?_
          refine va_get (D := D) (ci := 5) (v := .ref (a 5 0)) (C := R_Br) (T := F_Br) (N := 6) hx hb hts i_uBr hown hK hP 0 rfl rfl 4 (by decide) (hts _ mw_164) (fun _ h9 => h9) rfl d_Br_tick_64 ?_
          refine lv_aload_n hx hb d_Br_tick_67 rfl (lv_at hl 1 rfl) ?_
          refine va_get (D := D) (ci := 5) (v := .ref (a 3 0)) (C := R_Br) (T := F_Br) (N := 6) hx hb hts i_uBr hown hK hP 0 rfl rfl 2 (by decide) (hts _ mw_162) (fun _ h9 => h9) rfl d_Br_tick_68 ?_
          refine lv_iload hx hb d_Br_tick_71 (lv_at hl 3 rfl) ?_
          obtain ⟨q4, e4, hk⟩ := ob_s hk
          refine kc_R (va_runV (As := [.int x4]) (rest := [.ref (a 5 0)]) ⟨hx, hb, hml, hown, hts⟩ (c_Bk_personOf l D (a 3) (k 3) _ τ.2.2.1 x4 q4 e4) (cwV 1 hts (gV mw_298 mw_299 mw_300 mw_30 mw_301) rfl rfl rfl hd_Bk_personOf ⟨Nat.le_of_ble_eq_true rfl, Nat.le_of_ble_eq_true rfl⟩) (kp_V (ci := 0) (q := (R_Bk, F_Bk, 9)) (q0 := 0) hK3 (sP_Br_Bk (σ := τ) hP) (hDt3 _) rfl rfl) rfl rfl hl.1 rfl (lv_room (Nat.le_of_ble_eq_true rfl)) d_Br_tick_73 ⟨Nat.zero_le _, Nat.zero_le _⟩) hS hA hP (fun H locs hP hS => ?_)
          refine lv_aload_n hx hb d_Br_tick_76 rfl (lv_at hl 1 rfl) ?_
          refine va_get (D := D) (ci := 5) (v := .int τ.2.2.2.2.2) (C := R_Br) (T := F_Br) (N := 6) hx hb hts i_uBr hown hK hP 0 rfl rfl 5 (by decide) (hts _ mw_165) (fun _ h9 => h9) rfl d_Br_tick_77 ?_
          obtain ⟨q5, e5, hk⟩ := ob_s hk
          refine kc_Mv (wF := wl_Br a k (τ.1, τ.2.1, τ.2.2.1, τ.2.2.2.1, q5, τ.2.2.2.2.2)) (va_runV (As := [.int q4, .int τ.2.2.2.2.2]) (rest := []) ⟨hx, hb, hml, hown, hts⟩ (c_Pe_countNoShow l D (a 5) (k 5) _ τ.2.2.2.2.1 q4 τ.2.2.2.2.2 q5 e5) (cwV 2 hts (gV mw_439 mw_440 mw_441 mw_32 mw_442) rfl rfl rfl hd_Pe_countNoShow ⟨Nat.le_of_ble_eq_true rfl, Nat.le_of_ble_eq_true rfl⟩) (kp_V (ci := 2) (q := (R_Pe, F_Pe, 2)) (q0 := 0) hK5 (sP_Br_Pe (σ := τ) hP) (hDt5 _) rfl rfl) rfl rfl hl.1 rfl (lv_room (Nat.le_of_ble_eq_true rfl)) d_Br_tick_80 ⟨Nat.zero_le _, Nat.zero_le _⟩) hS (hDw5 _) hA (fun _ _ h h9 => jP_Br_Pe τ q5 hP (hDt _) h h9) (fun H locs hP hS => ?_)
          refine lv_aload_n hx hb d_Br_tick_83 rfl (lv_at hl 1 rfl) ?_
          refine lv_iload hx hb d_Br_tick_84 (lv_at hl 3 rfl) ?_
          refine lv_iconst (v := 4) hx hb d_Br_tick_86 (by decide) ?_
          obtain ⟨q6, e6, hk⟩ := ob_s hk
          refine kc_M (wF := wl_Br a k q6.2) (va_runV (As := [.int x4, .int 4]) (rest := []) ⟨hx, hb, hml, hown, hts⟩ (c_Br_release l D a k _ (τ.1, τ.2.1, τ.2.2.1, τ.2.2.2.1, q5, τ.2.2.2.2.2) x4 4 q6 e6) (cwV 2 hts (gV mw_323 mw_325 mw_2 mw_27 mw_326) rfl rfl rfl hd_Br_release ⟨Nat.le_of_ble_eq_true rfl, Nat.le_of_ble_eq_true rfl⟩) (kp_V (ci := 5) (q := (R_Br, F_Br, 6)) (q0 := 0) hK hP (hDt _) rfl rfl) rfl rfl hl.1 rfl (lv_room (Nat.le_of_ble_eq_true rfl)) d_Br_tick_87 ⟨Nat.zero_le _, Nat.zero_le _⟩) hS (hDw _) hA (fun _ _ h _ => h) (fun H locs hP hS => ?_)
          refine lv_pop hx hb d_Br_tick_90 rfl ?_
          refine lv_iinc (v := (x4 + 1)) (lv' := [(4, .int (x4 + 1)), (2, .int (x2 + 1)), (0, .ref (a 0 0)), (3, .int x3)]) hx hb d_Br_tick_91 hl (k := 3) rfl rfl (by decide) rfl (fun ls hl => ?_)
          refine lv_goto (tgt := 45) hx hb d_Br_tick_94 (by decide) ?_
          exact ih45 (x2 + 1) x3 (x4 + 1) q6.2 _ _ _ hP hS (lv_sub hl [2, 1, 3, 0] rfl) hk
  refine lv_iload_n hx hb d_Br_tick_0 rfl (lv_at hl 1 rfl) ?_
  refine lv_aload_n hx hb d_Br_tick_1 rfl (lv_at hl 0 rfl) ?_
  refine va_get (D := D) (ci := 5) (v := .int σ.2.2.2.2.2) (C := R_Br) (T := F_Br) (N := 6) hx hb hts i_uBr hown hK hP 0 rfl rfl 5 (by decide) (hts _ mw_165) (fun _ h9 => h9) rfl d_Br_tick_2 ?_
  refine lv_icmp_le (tgt := 14) hx hb d_Br_tick_5 (by decide) (fun c7 => ?_) (fun c7 => ?_)
  · have hk := br_p c7 hk
    refine lv_iconst (v := -1) hx hb d_Br_tick_14 (by decide) ?_
    exact kr_M (w := wl_Br a k) hx hb hr rfl hlocks hS hP hk d_Br_tick_15
  · have hk := br_n c7 hk
    refine lv_iload_n hx hb d_Br_tick_8 rfl (lv_at hl 1 rfl) ?_
    refine lv_ldc (v := 1000000) hx hb hown (hts _ mw_248) d_Br_tick_9 ?_
    refine lv_icmp_le (tgt := 16) hx hb d_Br_tick_11 (by decide) (fun c8 => ?_) (fun c8 => ?_)
    · have hk := br_p c8 hk
      refine lv_aload_n hx hb d_Br_tick_16 rfl (lv_at hl 0 rfl) ?_
      refine lv_iload_n hx hb d_Br_tick_17 rfl (lv_at hl 1 rfl) ?_
      refine va_put (D := D) (ci := 5) (v := .int p1) (ty := .int) (C := R_Br) (T := F_Br) (N := 6) hx hb hts i_uBr t_Br t_Br_ok n_Br hown hK hP (hDw _) hS 0 rfl rfl 5 (by decide) (hts _ mw_165) (fun _ h9 => h9) rfl (t_Br_ok 5 (by decide)) rfl rfl (Nat.le_of_ble_eq_true rfl) d_Br_tick_18 (fun H locs hP _ hS => ?_)
      have hP : va_P D cls (wl_Br a k (σ.1, σ.2.1, σ.2.2.1, σ.2.2.2.1, σ.2.2.2.2.1, p1)) H := hP
      refine lv_aload_n hx hb d_Br_tick_21 rfl (lv_at hl 0 rfl) ?_
      refine va_get (D := D) (ci := 5) (v := .ref (a 3 0)) (C := R_Br) (T := F_Br) (N := 6) hx hb hts i_uBr hown hK hP 0 rfl rfl 2 (by decide) (hts _ mw_162) (fun _ h9 => h9) rfl d_Br_tick_22 ?_
      refine lv_aload_n hx hb d_Br_tick_25 rfl (lv_at hl 0 rfl) ?_
      refine va_get (D := D) (ci := 5) (v := .int p1) (C := R_Br) (T := F_Br) (N := 6) hx hb hts i_uBr hown hK hP 0 rfl rfl 5 (by decide) (hts _ mw_165) (fun _ h9 => h9) rfl d_Br_tick_26 ?_
      obtain ⟨q9, e9, hk⟩ := ob_s hk
      refine kc_Mv (wF := wl_Br a k (σ.1, σ.2.1, q9, σ.2.2.2.1, σ.2.2.2.2.1, p1)) (va_runV (As := [.int p1]) (rest := []) ⟨hx, hb, hml, hown, hts⟩ (c_Bk_finish l D (a 3) (k 3) _ σ.2.2.1 p1 q9 e9) (cwV 1 hts (gV mw_427 mw_428 mw_429 mw_30 mw_430) rfl rfl rfl hd_Bk_finish ⟨Nat.le_of_ble_eq_true rfl, Nat.le_of_ble_eq_true rfl⟩) (kp_V (ci := 0) (q := (R_Bk, F_Bk, 9)) (q0 := 0) hK3 (sP_Br_Bk (σ := (σ.1, σ.2.1, σ.2.2.1, σ.2.2.2.1, σ.2.2.2.2.1, p1)) hP) (hDt3 _) rfl rfl) rfl rfl hl.1 rfl (lv_room (Nat.le_of_ble_eq_true rfl)) d_Br_tick_29 ⟨Nat.zero_le _, Nat.zero_le _⟩) hS (hDw3 _) hA (fun _ _ h h9 => jP_Br_Bk (σ.1, σ.2.1, σ.2.2.1, σ.2.2.2.1, σ.2.2.2.2.1, p1) q9 hP (hDt _) h h9) (fun H locs hP hS => ?_)
      refine lv_iconst (v := 0) hx hb d_Br_tick_32 (by decide) ?_
      refine lv_istore_n (lv' := [(2, .int 0), (0, .ref (a 0 0)), (1, .int p1)]) hx hb d_Br_tick_33 rfl hl (by decide) rfl (fun ls hl => ?_)
      refine lv_aload_n hx hb d_Br_tick_34 rfl (lv_at hl 1 rfl) ?_
      refine va_get (D := D) (ci := 5) (v := .ref (a 3 0)) (C := R_Br) (T := F_Br) (N := 6) hx hb hts i_uBr hown hK hP 0 rfl rfl 2 (by decide) (hts _ mw_162) (fun _ h9 => h9) rfl d_Br_tick_35 ?_
      obtain ⟨q10, e10, hk⟩ := ob_s hk
      refine kc_R (va_runV (As := []) (rest := []) ⟨hx, hb, hml, hown, hts⟩ (c_Bk_size l D (a 3) (k 3) _ q9 q10 e10) (cwV 0 hts (gV mw_431 mw_432 mw_433 mw_30 mw_434) rfl rfl rfl hd_Bk_size ⟨Nat.le_of_ble_eq_true rfl, Nat.le_of_ble_eq_true rfl⟩) (kp_V (ci := 0) (q := (R_Bk, F_Bk, 9)) (q0 := 0) hK3 (sP_Br_Bk (σ := (σ.1, σ.2.1, q9, σ.2.2.2.1, σ.2.2.2.2.1, p1)) hP) (hDt3 _) rfl rfl) rfl rfl hl.1 rfl (lv_room (Nat.le_of_ble_eq_true rfl)) d_Br_tick_38 ⟨Nat.zero_le _, Nat.zero_le _⟩) hS hA hP (fun H locs hP hS => ?_)
      refine lv_istore_n (lv' := [(3, .int q10), (2, .int 0), (0, .ref (a 0 0)), (1, .int p1)]) hx hb d_Br_tick_41 rfl hl (by decide) rfl (fun ls hl => ?_)
      refine lv_iconst (v := 1) hx hb d_Br_tick_42 (by decide) ?_
      refine lv_istore (lv' := [(4, .int 1), (3, .int q10), (2, .int 0), (0, .ref (a 0 0)), (1, .int p1)]) hx hb d_Br_tick_43 hl (by decide) rfl (fun ls hl => ?_)
      exact L45 FU 0 q10 1 (σ.1, σ.2.1, q9, σ.2.2.2.1, σ.2.2.2.2.1, p1) _ _ _ hP hS (lv_sub hl [3, 2, 1, 0] rfl) hk
    · have hk := br_n c8 hk
      refine lv_iconst (v := -1) hx hb d_Br_tick_14 (by decide) ?_
      exact kr_M (w := wl_Br a k) hx hb hr rfl hlocks hS hP hk d_Br_tick_15
set_option maxHeartbeats 4000000 in
set_option maxRecDepth 100000 in
theorem c_Br_clash (l : Launch) (D : va_G) (a : Nat → Nat → Nat) (k : Nat → Nat → ClassId) (sz : Nat) (σ : S_Br) (p1 p2 : Int32) (r0 : Int32) (hk : kf_Br_clash σ p1 p2 = some r0) : Met l y_Br_clash w_Br_clash ({ frames := 1, cells := 0, slots := 0, locals := 23 }) (kp_P D cls (ty_Br k) (wl_Br a k σ) [.ref (a 0 0), .int p1, .int p2] sz) (kp_R sz r0) 0 0 (va_A [] sz) := by
  refine Met.ofW (cc := b_Br_clash) (maxL := 3) (ret := (some .boolean)) (by decide) rfl ?_
  intro p e s m args below meth c s₁ B hml hv
  obtain ⟨rfl, hsz, hP, hK, hD0⟩ := hv
  have hx := B.exec
  have hb := B.bytes
  have hr := B.returns
  have hts : ∀ w ∈ lw_g, w.before _ s = true := fun w h => atoms_spec (ws := w_Br_clash) B.pre w (List.mem_cons_of_mem _ h)
  have hown : s.vm.findClass R_Br = some m.cls := findClass_of_methodNamed B.named
  have hlocks := B.notSynchronized
  subst hsz
  have hA : ∀ q : Nat, s.heap.size ≤ q → (va_A ([]) s.heap.size) q := fun _ h => Or.inr h
  have hDt : ∀ τ, va_D (fun _ => True) (wl_Br a k τ) := fun τ => kd_cg hD0 rfl
  have hK1 := sK_Br_Ca hK
  have hDt1 : ∀ τ, va_D (fun _ => True) (wl_Ca (a 1) (k 1) τ) := fun τ => kd_cg (sD_Br_Ca hD0) rfl
  have hK2 := sK_Br_Th hK
  have hDt2 : ∀ τ, va_D (fun _ => True) (wl_Th (a 2) (k 2) τ) := fun τ => kd_cg (sD_Br_Th hD0) rfl
  have hK3 := sK_Br_Bk hK
  have hDt3 : ∀ τ, va_D (fun _ => True) (wl_Bk (a 3) (k 3) τ) := fun τ => kd_cg (sD_Br_Bk hD0) rfl
  have hK4 := sK_Br_Wi hK
  have hDt4 : ∀ τ, va_D (fun _ => True) (wl_Wi (a 4) (k 4) τ) := fun τ => kd_cg (sD_Br_Wi hD0) rfl
  have hK5 := sK_Br_Pe hK
  have hDt5 : ∀ τ, va_D (fun _ => True) (wl_Pe (a 5) (k 5) τ) := fun τ => kd_cg (sD_Br_Pe hD0) rfl
  have hS : va_S (va_A ([]) s.heap.size) s.heap s.heap [] := va_S.rf
  have hl := lv_entry ([.ref (a 0 0), .int p1, .int p2]) (n := 3) (Nat.le_of_ble_eq_true rfl)
  rw [lg_entry_eq]
  generalize (lg_sl ([.ref (a 0 0), .int p1, .int p2]) ++ List.replicate (3 - (lg_sl ([.ref (a 0 0), .int p1, .int p2])).length) Slot.unset).toArray = ls at hl ⊢
  have hl : lv_has ls 3 [(0, .ref (a 0 0)), (1, .int p1), (2, .int p2)] := hl
  unfold kf_Br_clash at hk
  refine lv_aload_n hx hb d_Br_clash_0 rfl (lv_at hl 0 rfl) ?_
  refine va_get (D := D) (ci := 5) (v := .ref (a 3 0)) (C := R_Br) (T := F_Br) (N := 6) hx hb hts i_uBr hown hK hP 0 rfl rfl 2 (by decide) (hts _ mw_162) (fun _ h9 => h9) rfl d_Br_clash_1 ?_
  refine lv_iload_n hx hb d_Br_clash_4 rfl (lv_at hl 1 rfl) ?_
  obtain ⟨q1, e1, hk⟩ := ob_s hk
  refine kc_R (va_runV (As := [.int p1]) (rest := []) ⟨hx, hb, hml, hown, hts⟩ (c_Bk_has l D (a 3) (k 3) _ σ.2.2.1 p1 q1 e1) (cwV 1 hts (gV mw_293 mw_294 mw_295 mw_30 mw_296) rfl rfl rfl hd_Bk_has ⟨Nat.le_of_ble_eq_true rfl, Nat.le_of_ble_eq_true rfl⟩) (kp_V (ci := 0) (q := (R_Bk, F_Bk, 9)) (q0 := 0) hK3 (sP_Br_Bk (σ := σ) hP) (hDt3 _) rfl rfl) rfl rfl hl.1 rfl (lv_room (Nat.le_of_ble_eq_true rfl)) d_Br_clash_5 ⟨Nat.zero_le _, Nat.zero_le _⟩) hS hA hP (fun H locs hP hS => ?_)
  refine lv_if_eq (tgt := 72) hx hb d_Br_clash_8 (by decide) (fun c2 => ?_) (fun c2 => ?_)
  · have hk := br_p c2 hk
    refine lv_iconst (v := 0) hx hb d_Br_clash_72 (by decide) ?_
    exact kr_R hx hb hr (by decide) hlocks hS hk d_Br_clash_73
  · have hk := br_n c2 hk
    refine lv_aload_n hx hb d_Br_clash_11 rfl (lv_at hl 0 rfl) ?_
    refine va_get (D := D) (ci := 5) (v := .ref (a 3 0)) (C := R_Br) (T := F_Br) (N := 6) hx hb hts i_uBr hown hK hP 0 rfl rfl 2 (by decide) (hts _ mw_162) (fun _ h9 => h9) rfl d_Br_clash_12 ?_
    refine lv_iload_n hx hb d_Br_clash_15 rfl (lv_at hl 2 rfl) ?_
    obtain ⟨q3, e3, hk⟩ := ob_s hk
    refine kc_R (va_runV (As := [.int p2]) (rest := []) ⟨hx, hb, hml, hown, hts⟩ (c_Bk_has l D (a 3) (k 3) _ σ.2.2.1 p2 q3 e3) (cwV 1 hts (gV mw_293 mw_294 mw_295 mw_30 mw_296) rfl rfl rfl hd_Bk_has ⟨Nat.le_of_ble_eq_true rfl, Nat.le_of_ble_eq_true rfl⟩) (kp_V (ci := 0) (q := (R_Bk, F_Bk, 9)) (q0 := 0) hK3 (sP_Br_Bk (σ := σ) hP) (hDt3 _) rfl rfl) rfl rfl hl.1 rfl (lv_room (Nat.le_of_ble_eq_true rfl)) d_Br_clash_16 ⟨Nat.zero_le _, Nat.zero_le _⟩) hS hA hP (fun H locs hP hS => ?_)
    refine lv_if_eq (tgt := 72) hx hb d_Br_clash_19 (by decide) (fun c4 => ?_) (fun c4 => ?_)
    · have hk := br_p c4 hk
      refine lv_iconst (v := 0) hx hb d_Br_clash_72 (by decide) ?_
      exact kr_R hx hb hr (by decide) hlocks hS hk d_Br_clash_73
    · have hk := br_n c4 hk
      refine lv_aload_n hx hb d_Br_clash_22 rfl (lv_at hl 0 rfl) ?_
      refine va_get (D := D) (ci := 5) (v := .ref (a 3 0)) (C := R_Br) (T := F_Br) (N := 6) hx hb hts i_uBr hown hK hP 0 rfl rfl 2 (by decide) (hts _ mw_162) (fun _ h9 => h9) rfl d_Br_clash_23 ?_
      refine lv_iload_n hx hb d_Br_clash_26 rfl (lv_at hl 1 rfl) ?_
      obtain ⟨q5, e5, hk⟩ := ob_s hk
      refine kc_R (va_runV (As := [.int p1]) (rest := []) ⟨hx, hb, hml, hown, hts⟩ (c_Bk_thingOf l D (a 3) (k 3) _ σ.2.2.1 p1 q5 e5) (cwV 1 hts (gV mw_302 mw_303 mw_304 mw_30 mw_305) rfl rfl rfl hd_Bk_thingOf ⟨Nat.le_of_ble_eq_true rfl, Nat.le_of_ble_eq_true rfl⟩) (kp_V (ci := 0) (q := (R_Bk, F_Bk, 9)) (q0 := 0) hK3 (sP_Br_Bk (σ := σ) hP) (hDt3 _) rfl rfl) rfl rfl hl.1 rfl (lv_room (Nat.le_of_ble_eq_true rfl)) d_Br_clash_27 ⟨Nat.zero_le _, Nat.zero_le _⟩) hS hA hP (fun H locs hP hS => ?_)
      refine lv_aload_n hx hb d_Br_clash_30 rfl (lv_at hl 0 rfl) ?_
      refine va_get (D := D) (ci := 5) (v := .ref (a 3 0)) (C := R_Br) (T := F_Br) (N := 6) hx hb hts i_uBr hown hK hP 0 rfl rfl 2 (by decide) (hts _ mw_162) (fun _ h9 => h9) rfl d_Br_clash_31 ?_
      refine lv_iload_n hx hb d_Br_clash_34 rfl (lv_at hl 2 rfl) ?_
      obtain ⟨q6, e6, hk⟩ := ob_s hk
      refine kc_R (va_runV (As := [.int p2]) (rest := [.int q5]) ⟨hx, hb, hml, hown, hts⟩ (c_Bk_thingOf l D (a 3) (k 3) _ σ.2.2.1 p2 q6 e6) (cwV 1 hts (gV mw_302 mw_303 mw_304 mw_30 mw_305) rfl rfl rfl hd_Bk_thingOf ⟨Nat.le_of_ble_eq_true rfl, Nat.le_of_ble_eq_true rfl⟩) (kp_V (ci := 0) (q := (R_Bk, F_Bk, 9)) (q0 := 0) hK3 (sP_Br_Bk (σ := σ) hP) (hDt3 _) rfl rfl) rfl rfl hl.1 rfl (lv_room (Nat.le_of_ble_eq_true rfl)) d_Br_clash_35 ⟨Nat.zero_le _, Nat.zero_le _⟩) hS hA hP (fun H locs hP hS => ?_)
      refine lv_icmp_ne (tgt := 72) hx hb d_Br_clash_38 (by decide) (fun c7 => ?_) (fun c7 => ?_)
      · have hk := br_n c7 hk
        refine lv_iconst (v := 0) hx hb d_Br_clash_72 (by decide) ?_
        exact kr_R hx hb hr (by decide) hlocks hS hk d_Br_clash_73
      · have hk := br_p c7 hk
        refine lv_aload_n hx hb d_Br_clash_41 rfl (lv_at hl 0 rfl) ?_
        refine va_get (D := D) (ci := 5) (v := .ref (a 3 0)) (C := R_Br) (T := F_Br) (N := 6) hx hb hts i_uBr hown hK hP 0 rfl rfl 2 (by decide) (hts _ mw_162) (fun _ h9 => h9) rfl d_Br_clash_42 ?_
        refine lv_iload_n hx hb d_Br_clash_45 rfl (lv_at hl 1 rfl) ?_
        refine lv_aload_n hx hb d_Br_clash_46 rfl (lv_at hl 0 rfl) ?_
        refine va_get (D := D) (ci := 5) (v := .ref (a 3 0)) (C := R_Br) (T := F_Br) (N := 6) hx hb hts i_uBr hown hK hP 0 rfl rfl 2 (by decide) (hts _ mw_162) (fun _ h9 => h9) rfl d_Br_clash_47 ?_
        refine lv_iload_n hx hb d_Br_clash_50 rfl (lv_at hl 2 rfl) ?_
        obtain ⟨q8, e8, hk⟩ := ob_s hk
        refine kc_R (va_runV (As := [.int p2]) (rest := [.int p1, .ref (a 3 0)]) ⟨hx, hb, hml, hown, hts⟩ (c_Bk_fromOf l D (a 3) (k 3) _ σ.2.2.1 p2 q8 e8) (cwV 1 hts (gV mw_306 mw_307 mw_308 mw_30 mw_309) rfl rfl rfl hd_Bk_fromOf ⟨Nat.le_of_ble_eq_true rfl, Nat.le_of_ble_eq_true rfl⟩) (kp_V (ci := 0) (q := (R_Bk, F_Bk, 9)) (q0 := 0) hK3 (sP_Br_Bk (σ := σ) hP) (hDt3 _) rfl rfl) rfl rfl hl.1 rfl (lv_room (Nat.le_of_ble_eq_true rfl)) d_Br_clash_51 ⟨Nat.zero_le _, Nat.zero_le _⟩) hS hA hP (fun H locs hP hS => ?_)
        refine lv_aload_n hx hb d_Br_clash_54 rfl (lv_at hl 0 rfl) ?_
        refine va_get (D := D) (ci := 5) (v := .ref (a 3 0)) (C := R_Br) (T := F_Br) (N := 6) hx hb hts i_uBr hown hK hP 0 rfl rfl 2 (by decide) (hts _ mw_162) (fun _ h9 => h9) rfl d_Br_clash_55 ?_
        refine lv_iload_n hx hb d_Br_clash_58 rfl (lv_at hl 2 rfl) ?_
        obtain ⟨q9, e9, hk⟩ := ob_s hk
        refine kc_R (va_runV (As := [.int p2]) (rest := [.int q8, .int p1, .ref (a 3 0)]) ⟨hx, hb, hml, hown, hts⟩ (c_Bk_toOf l D (a 3) (k 3) _ σ.2.2.1 p2 q9 e9) (cwV 1 hts (gV mw_310 mw_311 mw_312 mw_30 mw_313) rfl rfl rfl hd_Bk_toOf ⟨Nat.le_of_ble_eq_true rfl, Nat.le_of_ble_eq_true rfl⟩) (kp_V (ci := 0) (q := (R_Bk, F_Bk, 9)) (q0 := 0) hK3 (sP_Br_Bk (σ := σ) hP) (hDt3 _) rfl rfl) rfl rfl hl.1 rfl (lv_room (Nat.le_of_ble_eq_true rfl)) d_Br_clash_59 ⟨Nat.zero_le _, Nat.zero_le _⟩) hS hA hP (fun H locs hP hS => ?_)
        obtain ⟨q10, e10, hk⟩ := ob_s hk
        refine kc_R (va_runV (As := [.int p1, .int q8, .int q9]) (rest := []) ⟨hx, hb, hml, hown, hts⟩ (c_Bk_meets l D (a 3) (k 3) _ σ.2.2.1 p1 q8 q9 q10 e10) (cwV 3 hts (gV mw_447 mw_282 mw_283 mw_30 mw_284) rfl rfl rfl hd_Bk_meets ⟨Nat.le_of_ble_eq_true rfl, Nat.le_of_ble_eq_true rfl⟩) (kp_V (ci := 0) (q := (R_Bk, F_Bk, 9)) (q0 := 0) hK3 (sP_Br_Bk (σ := σ) hP) (hDt3 _) rfl rfl) rfl rfl hl.1 rfl (lv_room (Nat.le_of_ble_eq_true rfl)) d_Br_clash_62 ⟨Nat.zero_le _, Nat.zero_le _⟩) hS hA hP (fun H locs hP hS => ?_)
        refine lv_if_eq (tgt := 72) hx hb d_Br_clash_65 (by decide) (fun c11 => ?_) (fun c11 => ?_)
        · have hk := br_p c11 hk
          refine lv_iconst (v := 0) hx hb d_Br_clash_72 (by decide) ?_
          exact kr_R hx hb hr (by decide) hlocks hS hk d_Br_clash_73
        · have hk := br_n c11 hk
          refine lv_iconst (v := 1) hx hb d_Br_clash_68 (by decide) ?_
          refine lv_goto (tgt := 73) hx hb d_Br_clash_69 (by decide) ?_
          exact kr_R hx hb hr (by decide) hlocks hS hk d_Br_clash_73
set_option maxHeartbeats 4000000 in
set_option maxRecDepth 100000 in
theorem c_Br_booking (l : Launch) (D : va_G) (a : Nat → Nat → Nat) (k : Nat → Nat → ClassId) (sz : Nat) (σ : S_Br) (p1 p2 : Int32) (r0 : Int32) (hk : kf_Br_booking σ p1 p2 = some r0) : Met l y_Br_booking w_Br_booking ({ frames := 1, cells := 0, slots := 0, locals := 21 }) (kp_P D cls (ty_Br k) (wl_Br a k σ) [.ref (a 0 0), .int p1, .int p2] sz) (kp_R sz r0) 0 0 (va_A [] sz) := by
  refine Met.ofW (cc := b_Br_booking) (maxL := 3) (ret := (some .int)) (by decide) rfl ?_
  intro p e s m args below meth c s₁ B hml hv
  obtain ⟨rfl, hsz, hP, hK, hD0⟩ := hv
  have hx := B.exec
  have hb := B.bytes
  have hr := B.returns
  have hts : ∀ w ∈ lw_g, w.before _ s = true := fun w h => atoms_spec (ws := w_Br_booking) B.pre w (List.mem_cons_of_mem _ h)
  have hown : s.vm.findClass R_Br = some m.cls := findClass_of_methodNamed B.named
  have hlocks := B.notSynchronized
  subst hsz
  have hA : ∀ q : Nat, s.heap.size ≤ q → (va_A ([]) s.heap.size) q := fun _ h => Or.inr h
  have hDt : ∀ τ, va_D (fun _ => True) (wl_Br a k τ) := fun τ => kd_cg hD0 rfl
  have hK1 := sK_Br_Ca hK
  have hDt1 : ∀ τ, va_D (fun _ => True) (wl_Ca (a 1) (k 1) τ) := fun τ => kd_cg (sD_Br_Ca hD0) rfl
  have hK2 := sK_Br_Th hK
  have hDt2 : ∀ τ, va_D (fun _ => True) (wl_Th (a 2) (k 2) τ) := fun τ => kd_cg (sD_Br_Th hD0) rfl
  have hK3 := sK_Br_Bk hK
  have hDt3 : ∀ τ, va_D (fun _ => True) (wl_Bk (a 3) (k 3) τ) := fun τ => kd_cg (sD_Br_Bk hD0) rfl
  have hK4 := sK_Br_Wi hK
  have hDt4 : ∀ τ, va_D (fun _ => True) (wl_Wi (a 4) (k 4) τ) := fun τ => kd_cg (sD_Br_Wi hD0) rfl
  have hK5 := sK_Br_Pe hK
  have hDt5 : ∀ τ, va_D (fun _ => True) (wl_Pe (a 5) (k 5) τ) := fun τ => kd_cg (sD_Br_Pe hD0) rfl
  have hS : va_S (va_A ([]) s.heap.size) s.heap s.heap [] := va_S.rf
  have hl := lv_entry ([.ref (a 0 0), .int p1, .int p2]) (n := 3) (Nat.le_of_ble_eq_true rfl)
  rw [lg_entry_eq]
  generalize (lg_sl ([.ref (a 0 0), .int p1, .int p2]) ++ List.replicate (3 - (lg_sl ([.ref (a 0 0), .int p1, .int p2])).length) Slot.unset).toArray = ls at hl ⊢
  have hl : lv_has ls 3 [(0, .ref (a 0 0)), (1, .int p1), (2, .int p2)] := hl
  unfold kf_Br_booking at hk
  refine lv_aload_n hx hb d_Br_booking_0 rfl (lv_at hl 0 rfl) ?_
  refine va_get (D := D) (ci := 5) (v := .ref (a 3 0)) (C := R_Br) (T := F_Br) (N := 6) hx hb hts i_uBr hown hK hP 0 rfl rfl 2 (by decide) (hts _ mw_162) (fun _ h9 => h9) rfl d_Br_booking_1 ?_
  refine lv_iload_n hx hb d_Br_booking_4 rfl (lv_at hl 1 rfl) ?_
  obtain ⟨q1, e1, hk⟩ := ob_s hk
  refine kc_R (va_runV (As := [.int p1]) (rest := []) ⟨hx, hb, hml, hown, hts⟩ (c_Bk_has l D (a 3) (k 3) _ σ.2.2.1 p1 q1 e1) (cwV 1 hts (gV mw_293 mw_294 mw_295 mw_30 mw_296) rfl rfl rfl hd_Bk_has ⟨Nat.le_of_ble_eq_true rfl, Nat.le_of_ble_eq_true rfl⟩) (kp_V (ci := 0) (q := (R_Bk, F_Bk, 9)) (q0 := 0) hK3 (sP_Br_Bk (σ := σ) hP) (hDt3 _) rfl rfl) rfl rfl hl.1 rfl (lv_room (Nat.le_of_ble_eq_true rfl)) d_Br_booking_5 ⟨Nat.zero_le _, Nat.zero_le _⟩) hS hA hP (fun H locs hP hS => ?_)
  refine lv_if_ne (tgt := 13) hx hb d_Br_booking_8 (by decide) (fun c2 => ?_) (fun c2 => ?_)
  · have hk := br_n c2 hk
    refine lv_iload_n hx hb d_Br_booking_13 rfl (lv_at hl 2 rfl) ?_
    rcases Decidable.em (p2 = 0) with c3 | c3
    · have hk := br_p c3 hk
      refine lv_tableIn (tgt := 52) hx hb d_Br_booking_14 (by rw [c3]; decide) (by rw [c3]; decide) (by rw [c3]; rfl) (by decide) ?_
      refine lv_aload_n hx hb d_Br_booking_52 rfl (lv_at hl 0 rfl) ?_
      refine va_get (D := D) (ci := 5) (v := .ref (a 3 0)) (C := R_Br) (T := F_Br) (N := 6) hx hb hts i_uBr hown hK hP 0 rfl rfl 2 (by decide) (hts _ mw_162) (fun _ h9 => h9) rfl d_Br_booking_53 ?_
      refine lv_iload_n hx hb d_Br_booking_56 rfl (lv_at hl 1 rfl) ?_
      obtain ⟨q4, e4, hk⟩ := ob_s hk
      refine kc_R (va_runV (As := [.int p1]) (rest := []) ⟨hx, hb, hml, hown, hts⟩ (c_Bk_personOf l D (a 3) (k 3) _ σ.2.2.1 p1 q4 e4) (cwV 1 hts (gV mw_298 mw_299 mw_300 mw_30 mw_301) rfl rfl rfl hd_Bk_personOf ⟨Nat.le_of_ble_eq_true rfl, Nat.le_of_ble_eq_true rfl⟩) (kp_V (ci := 0) (q := (R_Bk, F_Bk, 9)) (q0 := 0) hK3 (sP_Br_Bk (σ := σ) hP) (hDt3 _) rfl rfl) rfl rfl hl.1 rfl (lv_room (Nat.le_of_ble_eq_true rfl)) d_Br_booking_57 ⟨Nat.zero_le _, Nat.zero_le _⟩) hS hA hP (fun H locs hP hS => ?_)
      exact kr_R hx hb hr rfl hlocks hS hk d_Br_booking_60
    have hk := br_n c3 hk
    rcases Decidable.em (p2 = 1) with c5 | c5
    · have hk := br_p c5 hk
      refine lv_tableIn (tgt := 61) hx hb d_Br_booking_14 (by rw [c5]; decide) (by rw [c5]; decide) (by rw [c5]; rfl) (by decide) ?_
      refine lv_aload_n hx hb d_Br_booking_61 rfl (lv_at hl 0 rfl) ?_
      refine va_get (D := D) (ci := 5) (v := .ref (a 3 0)) (C := R_Br) (T := F_Br) (N := 6) hx hb hts i_uBr hown hK hP 0 rfl rfl 2 (by decide) (hts _ mw_162) (fun _ h9 => h9) rfl d_Br_booking_62 ?_
      refine lv_iload_n hx hb d_Br_booking_65 rfl (lv_at hl 1 rfl) ?_
      obtain ⟨q6, e6, hk⟩ := ob_s hk
      refine kc_R (va_runV (As := [.int p1]) (rest := []) ⟨hx, hb, hml, hown, hts⟩ (c_Bk_thingOf l D (a 3) (k 3) _ σ.2.2.1 p1 q6 e6) (cwV 1 hts (gV mw_302 mw_303 mw_304 mw_30 mw_305) rfl rfl rfl hd_Bk_thingOf ⟨Nat.le_of_ble_eq_true rfl, Nat.le_of_ble_eq_true rfl⟩) (kp_V (ci := 0) (q := (R_Bk, F_Bk, 9)) (q0 := 0) hK3 (sP_Br_Bk (σ := σ) hP) (hDt3 _) rfl rfl) rfl rfl hl.1 rfl (lv_room (Nat.le_of_ble_eq_true rfl)) d_Br_booking_66 ⟨Nat.zero_le _, Nat.zero_le _⟩) hS hA hP (fun H locs hP hS => ?_)
      exact kr_R hx hb hr rfl hlocks hS hk d_Br_booking_69
    have hk := br_n c5 hk
    rcases Decidable.em (p2 = 2) with c7 | c7
    · have hk := br_p c7 hk
      refine lv_tableIn (tgt := 70) hx hb d_Br_booking_14 (by rw [c7]; decide) (by rw [c7]; decide) (by rw [c7]; rfl) (by decide) ?_
      refine lv_aload_n hx hb d_Br_booking_70 rfl (lv_at hl 0 rfl) ?_
      refine va_get (D := D) (ci := 5) (v := .ref (a 3 0)) (C := R_Br) (T := F_Br) (N := 6) hx hb hts i_uBr hown hK hP 0 rfl rfl 2 (by decide) (hts _ mw_162) (fun _ h9 => h9) rfl d_Br_booking_71 ?_
      refine lv_iload_n hx hb d_Br_booking_74 rfl (lv_at hl 1 rfl) ?_
      obtain ⟨q8, e8, hk⟩ := ob_s hk
      refine kc_R (va_runV (As := [.int p1]) (rest := []) ⟨hx, hb, hml, hown, hts⟩ (c_Bk_fromOf l D (a 3) (k 3) _ σ.2.2.1 p1 q8 e8) (cwV 1 hts (gV mw_306 mw_307 mw_308 mw_30 mw_309) rfl rfl rfl hd_Bk_fromOf ⟨Nat.le_of_ble_eq_true rfl, Nat.le_of_ble_eq_true rfl⟩) (kp_V (ci := 0) (q := (R_Bk, F_Bk, 9)) (q0 := 0) hK3 (sP_Br_Bk (σ := σ) hP) (hDt3 _) rfl rfl) rfl rfl hl.1 rfl (lv_room (Nat.le_of_ble_eq_true rfl)) d_Br_booking_75 ⟨Nat.zero_le _, Nat.zero_le _⟩) hS hA hP (fun H locs hP hS => ?_)
      exact kr_R hx hb hr rfl hlocks hS hk d_Br_booking_78
    have hk := br_n c7 hk
    rcases Decidable.em (p2 = 3) with c9 | c9
    · have hk := br_p c9 hk
      refine lv_tableIn (tgt := 79) hx hb d_Br_booking_14 (by rw [c9]; decide) (by rw [c9]; decide) (by rw [c9]; rfl) (by decide) ?_
      refine lv_aload_n hx hb d_Br_booking_79 rfl (lv_at hl 0 rfl) ?_
      refine va_get (D := D) (ci := 5) (v := .ref (a 3 0)) (C := R_Br) (T := F_Br) (N := 6) hx hb hts i_uBr hown hK hP 0 rfl rfl 2 (by decide) (hts _ mw_162) (fun _ h9 => h9) rfl d_Br_booking_80 ?_
      refine lv_iload_n hx hb d_Br_booking_83 rfl (lv_at hl 1 rfl) ?_
      obtain ⟨q10, e10, hk⟩ := ob_s hk
      refine kc_R (va_runV (As := [.int p1]) (rest := []) ⟨hx, hb, hml, hown, hts⟩ (c_Bk_toOf l D (a 3) (k 3) _ σ.2.2.1 p1 q10 e10) (cwV 1 hts (gV mw_310 mw_311 mw_312 mw_30 mw_313) rfl rfl rfl hd_Bk_toOf ⟨Nat.le_of_ble_eq_true rfl, Nat.le_of_ble_eq_true rfl⟩) (kp_V (ci := 0) (q := (R_Bk, F_Bk, 9)) (q0 := 0) hK3 (sP_Br_Bk (σ := σ) hP) (hDt3 _) rfl rfl) rfl rfl hl.1 rfl (lv_room (Nat.le_of_ble_eq_true rfl)) d_Br_booking_84 ⟨Nat.zero_le _, Nat.zero_le _⟩) hS hA hP (fun H locs hP hS => ?_)
      exact kr_R hx hb hr rfl hlocks hS hk d_Br_booking_87
    have hk := br_n c9 hk
    rcases Decidable.em (p2 = 4) with c11 | c11
    · have hk := br_p c11 hk
      refine lv_tableIn (tgt := 88) hx hb d_Br_booking_14 (by rw [c11]; decide) (by rw [c11]; decide) (by rw [c11]; rfl) (by decide) ?_
      refine lv_aload_n hx hb d_Br_booking_88 rfl (lv_at hl 0 rfl) ?_
      refine va_get (D := D) (ci := 5) (v := .ref (a 3 0)) (C := R_Br) (T := F_Br) (N := 6) hx hb hts i_uBr hown hK hP 0 rfl rfl 2 (by decide) (hts _ mw_162) (fun _ h9 => h9) rfl d_Br_booking_89 ?_
      refine lv_iload_n hx hb d_Br_booking_92 rfl (lv_at hl 1 rfl) ?_
      obtain ⟨q12, e12, hk⟩ := ob_s hk
      refine kc_R (va_runV (As := [.int p1]) (rest := []) ⟨hx, hb, hml, hown, hts⟩ (c_Bk_stateOf l D (a 3) (k 3) _ σ.2.2.1 p1 q12 e12) (cwV 1 hts (gV mw_452 mw_453 mw_454 mw_30 mw_455) rfl rfl rfl hd_Bk_stateOf ⟨Nat.le_of_ble_eq_true rfl, Nat.le_of_ble_eq_true rfl⟩) (kp_V (ci := 0) (q := (R_Bk, F_Bk, 9)) (q0 := 0) hK3 (sP_Br_Bk (σ := σ) hP) (hDt3 _) rfl rfl) rfl rfl hl.1 rfl (lv_room (Nat.le_of_ble_eq_true rfl)) d_Br_booking_93 ⟨Nat.zero_le _, Nat.zero_le _⟩) hS hA hP (fun H locs hP hS => ?_)
      exact kr_R hx hb hr rfl hlocks hS hk d_Br_booking_96
    have hk := br_n c11 hk
    rcases Decidable.em (p2 = 5) with c13 | c13
    · have hk := br_p c13 hk
      refine lv_tableIn (tgt := 97) hx hb d_Br_booking_14 (by rw [c13]; decide) (by rw [c13]; decide) (by rw [c13]; rfl) (by decide) ?_
      refine lv_aload_n hx hb d_Br_booking_97 rfl (lv_at hl 0 rfl) ?_
      refine va_get (D := D) (ci := 5) (v := .ref (a 3 0)) (C := R_Br) (T := F_Br) (N := 6) hx hb hts i_uBr hown hK hP 0 rfl rfl 2 (by decide) (hts _ mw_162) (fun _ h9 => h9) rfl d_Br_booking_98 ?_
      refine lv_iload_n hx hb d_Br_booking_101 rfl (lv_at hl 1 rfl) ?_
      obtain ⟨q14, e14, hk⟩ := ob_s hk
      refine kc_R (va_runV (As := [.int p1]) (rest := []) ⟨hx, hb, hml, hown, hts⟩ (c_Bk_hostOf l D (a 3) (k 3) _ σ.2.2.1 p1 q14 e14) (cwV 1 hts (gV mw_456 mw_457 mw_458 mw_30 mw_459) rfl rfl rfl hd_Bk_hostOf ⟨Nat.le_of_ble_eq_true rfl, Nat.le_of_ble_eq_true rfl⟩) (kp_V (ci := 0) (q := (R_Bk, F_Bk, 9)) (q0 := 0) hK3 (sP_Br_Bk (σ := σ) hP) (hDt3 _) rfl rfl) rfl rfl hl.1 rfl (lv_room (Nat.le_of_ble_eq_true rfl)) d_Br_booking_102 ⟨Nat.zero_le _, Nat.zero_le _⟩) hS hA hP (fun H locs hP hS => ?_)
      exact kr_R hx hb hr rfl hlocks hS hk d_Br_booking_105
    have hk := br_n c13 hk
    refine lv_tableOut (tgt := 106) hx hb d_Br_booking_14 (sw_out6 c3 c5 c7 c9 c11 c13) (by decide) ?_
    refine lv_iconst (v := -1) hx hb d_Br_booking_106 (by decide) ?_
    exact kr_R hx hb hr rfl hlocks hS hk d_Br_booking_107
  · have hk := br_p c2 hk
    refine lv_iconst (v := -1) hx hb d_Br_booking_11 (by decide) ?_
    exact kr_R hx hb hr rfl hlocks hS hk d_Br_booking_12
set_option maxHeartbeats 4000000 in
set_option maxRecDepth 100000 in
theorem c_Br_list (l : Launch) (D : va_G) (a : Nat → Nat → Nat) (k : Nat → Nat → ClassId) (sz : Nat) (σ : S_Br) (p1 p2 : Int32) (r0 : Int32) (hk : kf_Br_list σ p1 p2 = some r0) : Met l y_Br_list w_Br_list ({ frames := 3, cells := 0, slots := 0, locals := 68 }) (kp_P D cls (ty_Br k) (wl_Br a k σ) [.ref (a 0 0), .int p1, .int p2] sz) (kp_R sz r0) 0 0 (va_A [] sz) := by
  refine Met.ofW (cc := b_Br_list) (maxL := 3) (ret := (some .int)) (by decide) rfl ?_
  intro p e s m args below meth c s₁ B hml hv
  obtain ⟨rfl, hsz, hP, hK, hD0⟩ := hv
  have hx := B.exec
  have hb := B.bytes
  have hr := B.returns
  have hts : ∀ w ∈ lw_g, w.before _ s = true := fun w h => atoms_spec (ws := w_Br_list) B.pre w (List.mem_cons_of_mem _ h)
  have hown : s.vm.findClass R_Br = some m.cls := findClass_of_methodNamed B.named
  have hlocks := B.notSynchronized
  subst hsz
  have hA : ∀ q : Nat, s.heap.size ≤ q → (va_A ([]) s.heap.size) q := fun _ h => Or.inr h
  have hDt : ∀ τ, va_D (fun _ => True) (wl_Br a k τ) := fun τ => kd_cg hD0 rfl
  have hK1 := sK_Br_Ca hK
  have hDt1 : ∀ τ, va_D (fun _ => True) (wl_Ca (a 1) (k 1) τ) := fun τ => kd_cg (sD_Br_Ca hD0) rfl
  have hK2 := sK_Br_Th hK
  have hDt2 : ∀ τ, va_D (fun _ => True) (wl_Th (a 2) (k 2) τ) := fun τ => kd_cg (sD_Br_Th hD0) rfl
  have hK3 := sK_Br_Bk hK
  have hDt3 : ∀ τ, va_D (fun _ => True) (wl_Bk (a 3) (k 3) τ) := fun τ => kd_cg (sD_Br_Bk hD0) rfl
  have hK4 := sK_Br_Wi hK
  have hDt4 : ∀ τ, va_D (fun _ => True) (wl_Wi (a 4) (k 4) τ) := fun τ => kd_cg (sD_Br_Wi hD0) rfl
  have hK5 := sK_Br_Pe hK
  have hDt5 : ∀ τ, va_D (fun _ => True) (wl_Pe (a 5) (k 5) τ) := fun τ => kd_cg (sD_Br_Pe hD0) rfl
  have hS : va_S (va_A ([]) s.heap.size) s.heap s.heap [] := va_S.rf
  have hl := lv_entry ([.ref (a 0 0), .int p1, .int p2]) (n := 3) (Nat.le_of_ble_eq_true rfl)
  rw [lg_entry_eq]
  generalize (lg_sl ([.ref (a 0 0), .int p1, .int p2]) ++ List.replicate (3 - (lg_sl ([.ref (a 0 0), .int p1, .int p2])).length) Slot.unset).toArray = ls at hl ⊢
  have hl : lv_has ls 3 [(0, .ref (a 0 0)), (1, .int p1), (2, .int p2)] := hl
  unfold kf_Br_list at hk
  refine lv_aload_n hx hb d_Br_list_0 rfl (lv_at hl 0 rfl) ?_
  refine va_get (D := D) (ci := 5) (v := .ref (a 3 0)) (C := R_Br) (T := F_Br) (N := 6) hx hb hts i_uBr hown hK hP 0 rfl rfl 2 (by decide) (hts _ mw_162) (fun _ h9 => h9) rfl d_Br_list_1 ?_
  refine lv_iload_n hx hb d_Br_list_4 rfl (lv_at hl 1 rfl) ?_
  refine lv_iload_n hx hb d_Br_list_5 rfl (lv_at hl 2 rfl) ?_
  obtain ⟨q1, e1, hk⟩ := ob_s hk
  refine kc_R (va_runV (As := [.int p1, .int p2]) (rest := []) ⟨hx, hb, hml, hown, hts⟩ (c_Bk_livingAt l D (a 3) (k 3) _ σ.2.2.1 p1 p2 q1 e1) (cwV 2 hts (gV mw_464 mw_465 mw_466 mw_30 mw_467) rfl rfl rfl hd_Bk_livingAt ⟨Nat.le_of_ble_eq_true rfl, Nat.le_of_ble_eq_true rfl⟩) (kp_V (ci := 0) (q := (R_Bk, F_Bk, 9)) (q0 := 0) hK3 (sP_Br_Bk (σ := σ) hP) (hDt3 _) rfl rfl) rfl rfl hl.1 rfl (lv_room (Nat.le_of_ble_eq_true rfl)) d_Br_list_6 ⟨Nat.zero_le _, Nat.zero_le _⟩) hS hA hP (fun H locs hP hS => ?_)
  exact kr_R hx hb hr rfl hlocks hS hk d_Br_list_9
set_option maxHeartbeats 4000000 in
set_option maxRecDepth 100000 in
theorem c_Br_person (l : Launch) (D : va_G) (a : Nat → Nat → Nat) (k : Nat → Nat → ClassId) (sz : Nat) (σ : S_Br) (p1 p2 : Int32) (r0 : Int32) (hk : kf_Br_person σ p1 p2 = some r0) : Met l y_Br_person w_Br_person ({ frames := 2, cells := 0, slots := 0, locals := 42 }) (kp_P D cls (ty_Br k) (wl_Br a k σ) [.ref (a 0 0), .int p1, .int p2] sz) (kp_R sz r0) 0 0 (va_A [] sz) := by
  refine Met.ofW (cc := b_Br_person) (maxL := 3) (ret := (some .int)) (by decide) rfl ?_
  intro p e s m args below meth c s₁ B hml hv
  obtain ⟨rfl, hsz, hP, hK, hD0⟩ := hv
  have hx := B.exec
  have hb := B.bytes
  have hr := B.returns
  have hts : ∀ w ∈ lw_g, w.before _ s = true := fun w h => atoms_spec (ws := w_Br_person) B.pre w (List.mem_cons_of_mem _ h)
  have hown : s.vm.findClass R_Br = some m.cls := findClass_of_methodNamed B.named
  have hlocks := B.notSynchronized
  subst hsz
  have hA : ∀ q : Nat, s.heap.size ≤ q → (va_A ([]) s.heap.size) q := fun _ h => Or.inr h
  have hDt : ∀ τ, va_D (fun _ => True) (wl_Br a k τ) := fun τ => kd_cg hD0 rfl
  have hK1 := sK_Br_Ca hK
  have hDt1 : ∀ τ, va_D (fun _ => True) (wl_Ca (a 1) (k 1) τ) := fun τ => kd_cg (sD_Br_Ca hD0) rfl
  have hK2 := sK_Br_Th hK
  have hDt2 : ∀ τ, va_D (fun _ => True) (wl_Th (a 2) (k 2) τ) := fun τ => kd_cg (sD_Br_Th hD0) rfl
  have hK3 := sK_Br_Bk hK
  have hDt3 : ∀ τ, va_D (fun _ => True) (wl_Bk (a 3) (k 3) τ) := fun τ => kd_cg (sD_Br_Bk hD0) rfl
  have hK4 := sK_Br_Wi hK
  have hDt4 : ∀ τ, va_D (fun _ => True) (wl_Wi (a 4) (k 4) τ) := fun τ => kd_cg (sD_Br_Wi hD0) rfl
  have hK5 := sK_Br_Pe hK
  have hDt5 : ∀ τ, va_D (fun _ => True) (wl_Pe (a 5) (k 5) τ) := fun τ => kd_cg (sD_Br_Pe hD0) rfl
  have hK0 : va_K D cls [] s := hK.sub [] rfl
  have hS : va_S (va_A ([]) s.heap.size) s.heap s.heap [] := va_S.rf
  have hl := lv_entry ([.ref (a 0 0), .int p1, .int p2]) (n := 3) (Nat.le_of_ble_eq_true rfl)
  rw [lg_entry_eq]
  generalize (lg_sl ([.ref (a 0 0), .int p1, .int p2]) ++ List.replicate (3 - (lg_sl ([.ref (a 0 0), .int p1, .int p2])).length) Slot.unset).toArray = ls at hl ⊢
  have hl : lv_has ls 3 [(0, .ref (a 0 0)), (1, .int p1), (2, .int p2)] := hl
  unfold kf_Br_person at hk
  refine lv_iload_n hx hb d_Br_person_0 rfl (lv_at hl 1 rfl) ?_
  obtain ⟨q1, e1, hk⟩ := ob_s hk
  refine kc_R (va_runS (As := [.int p1]) (rest := []) ⟨hx, hb, hml, hown, hts⟩ (c_Br_isPerson l D _ p1 q1 e1) (cwS 1 hts (gS mw_226 mw_227 mw_27 mw_228) rfl rfl rfl hd_Br_isPerson ⟨Nat.le_of_ble_eq_true rfl, Nat.le_of_ble_eq_true rfl⟩) (kp_S hK0) rfl rfl hl.1 rfl (lv_room (Nat.le_of_ble_eq_true rfl)) d_Br_person_1 ⟨Nat.zero_le _, Nat.zero_le _⟩) hS hA hP (fun H locs hP hS => ?_)
  refine lv_if_ne (tgt := 9) hx hb d_Br_person_4 (by decide) (fun c2 => ?_) (fun c2 => ?_)
  · have hk := br_n c2 hk
    refine lv_iload_n hx hb d_Br_person_9 rfl (lv_at hl 2 rfl) ?_
    rcases Decidable.em (p2 = 0) with c3 | c3
    · have hk := br_p c3 hk
      refine lv_tableIn (tgt := 36) hx hb d_Br_person_10 (by rw [c3]; decide) (by rw [c3]; decide) (by rw [c3]; rfl) (by decide) ?_
      refine lv_aload_n hx hb d_Br_person_36 rfl (lv_at hl 0 rfl) ?_
      refine va_get (D := D) (ci := 5) (v := .ref (a 5 0)) (C := R_Br) (T := F_Br) (N := 6) hx hb hts i_uBr hown hK hP 0 rfl rfl 4 (by decide) (hts _ mw_164) (fun _ h9 => h9) rfl d_Br_person_37 ?_
      refine lv_iload_n hx hb d_Br_person_40 rfl (lv_at hl 1 rfl) ?_
      obtain ⟨q4, e4, hk⟩ := ob_s hk
      refine kc_R (va_runV (As := [.int p1]) (rest := []) ⟨hx, hb, hml, hown, hts⟩ (c_Pe_noShowsOf l D (a 5) (k 5) _ σ.2.2.2.2.1 p1 q4 e4) (cwV 1 hts (gV mw_476 mw_477 mw_478 mw_32 mw_479) rfl rfl rfl hd_Pe_noShowsOf ⟨Nat.le_of_ble_eq_true rfl, Nat.le_of_ble_eq_true rfl⟩) (kp_V (ci := 2) (q := (R_Pe, F_Pe, 2)) (q0 := 0) hK5 (sP_Br_Pe (σ := σ) hP) (hDt5 _) rfl rfl) rfl rfl hl.1 rfl (lv_room (Nat.le_of_ble_eq_true rfl)) d_Br_person_41 ⟨Nat.zero_le _, Nat.zero_le _⟩) hS hA hP (fun H locs hP hS => ?_)
      exact kr_R hx hb hr rfl hlocks hS hk d_Br_person_44
    have hk := br_n c3 hk
    rcases Decidable.em (p2 = 1) with c5 | c5
    · have hk := br_p c5 hk
      refine lv_tableIn (tgt := 45) hx hb d_Br_person_10 (by rw [c5]; decide) (by rw [c5]; decide) (by rw [c5]; rfl) (by decide) ?_
      refine lv_aload_n hx hb d_Br_person_45 rfl (lv_at hl 0 rfl) ?_
      refine va_get (D := D) (ci := 5) (v := .ref (a 5 0)) (C := R_Br) (T := F_Br) (N := 6) hx hb hts i_uBr hown hK hP 0 rfl rfl 4 (by decide) (hts _ mw_164) (fun _ h9 => h9) rfl d_Br_person_46 ?_
      refine lv_iload_n hx hb d_Br_person_49 rfl (lv_at hl 1 rfl) ?_
      refine lv_aload_n hx hb d_Br_person_50 rfl (lv_at hl 0 rfl) ?_
      refine va_get (D := D) (ci := 5) (v := .int σ.2.2.2.2.2) (C := R_Br) (T := F_Br) (N := 6) hx hb hts i_uBr hown hK hP 0 rfl rfl 5 (by decide) (hts _ mw_165) (fun _ h9 => h9) rfl d_Br_person_51 ?_
      obtain ⟨q6, e6, hk⟩ := ob_s hk
      refine kc_R (va_runV (As := [.int p1, .int σ.2.2.2.2.2]) (rest := []) ⟨hx, hb, hml, hown, hts⟩ (c_Pe_isBarred l D (a 5) (k 5) _ σ.2.2.2.2.1 p1 σ.2.2.2.2.2 q6 e6) (cwV 2 hts (gV mw_265 mw_266 mw_267 mw_32 mw_268) rfl rfl rfl hd_Pe_isBarred ⟨Nat.le_of_ble_eq_true rfl, Nat.le_of_ble_eq_true rfl⟩) (kp_V (ci := 2) (q := (R_Pe, F_Pe, 2)) (q0 := 0) hK5 (sP_Br_Pe (σ := σ) hP) (hDt5 _) rfl rfl) rfl rfl hl.1 rfl (lv_room (Nat.le_of_ble_eq_true rfl)) d_Br_person_54 ⟨Nat.zero_le _, Nat.zero_le _⟩) hS hA hP (fun H locs hP hS => ?_)
      refine lv_if_eq (tgt := 64) hx hb d_Br_person_57 (by decide) (fun c7 => ?_) (fun c7 => ?_)
      · have hk := br_p c7 hk
        refine lv_iconst (v := 0) hx hb d_Br_person_64 (by decide) ?_
        exact kr_R hx hb hr rfl hlocks hS hk d_Br_person_65
      · have hk := br_n c7 hk
        refine lv_iconst (v := 1) hx hb d_Br_person_60 (by decide) ?_
        refine lv_goto (tgt := 65) hx hb d_Br_person_61 (by decide) ?_
        exact kr_R hx hb hr rfl hlocks hS hk d_Br_person_65
    have hk := br_n c5 hk
    rcases Decidable.em (p2 = 2) with c8 | c8
    · have hk := br_p c8 hk
      refine lv_tableIn (tgt := 66) hx hb d_Br_person_10 (by rw [c8]; decide) (by rw [c8]; decide) (by rw [c8]; rfl) (by decide) ?_
      refine lv_aload_n hx hb d_Br_person_66 rfl (lv_at hl 0 rfl) ?_
      refine va_get (D := D) (ci := 5) (v := .ref (a 4 0)) (C := R_Br) (T := F_Br) (N := 6) hx hb hts i_uBr hown hK hP 0 rfl rfl 3 (by decide) (hts _ mw_163) (fun _ h9 => h9) rfl d_Br_person_67 ?_
      refine lv_iload_n hx hb d_Br_person_70 rfl (lv_at hl 1 rfl) ?_
      obtain ⟨q9, e9, hk⟩ := ob_s hk
      refine kc_R (va_runV (As := [.int p1]) (rest := []) ⟨hx, hb, hml, hown, hts⟩ (c_Wi_countOf l D (a 4) (k 4) _ σ.2.2.2.1 p1 q9 e9) (cwV 1 hts (gV mw_480 mw_481 mw_482 mw_31 mw_483) rfl rfl rfl hd_Wi_countOf ⟨Nat.le_of_ble_eq_true rfl, Nat.le_of_ble_eq_true rfl⟩) (kp_V (ci := 4) (q := (R_Wi, F_Wi, 6)) (q0 := 0) hK4 (sP_Br_Wi (σ := σ) hP) (hDt4 _) rfl rfl) rfl rfl hl.1 rfl (lv_room (Nat.le_of_ble_eq_true rfl)) d_Br_person_71 ⟨Nat.zero_le _, Nat.zero_le _⟩) hS hA hP (fun H locs hP hS => ?_)
      exact kr_R hx hb hr rfl hlocks hS hk d_Br_person_74
    have hk := br_n c8 hk
    refine lv_tableOut (tgt := 75) hx hb d_Br_person_10 (sw_out3 c3 c5 c8) (by decide) ?_
    refine lv_iconst (v := -1) hx hb d_Br_person_75 (by decide) ?_
    exact kr_R hx hb hr rfl hlocks hS hk d_Br_person_76
  · have hk := br_p c2 hk
    refine lv_iconst (v := -1) hx hb d_Br_person_7 (by decide) ?_
    exact kr_R hx hb hr rfl hlocks hS hk d_Br_person_8
set_option maxHeartbeats 4000000 in
set_option maxRecDepth 100000 in
theorem c_Br_used (l : Launch) (D : va_G) (a : Nat → Nat → Nat) (k : Nat → Nat → ClassId) (sz : Nat) (σ : S_Br) (p1 : Int32) (r0 : Int32) (hk : kf_Br_used σ p1 = some r0) : Met l y_Br_used w_Br_used ({ frames := 1, cells := 0, slots := 0, locals := 23 }) (kp_P D cls (ty_Br k) (wl_Br a k σ) [.ref (a 0 0), .int p1] sz) (kp_R sz r0) 0 0 (va_A [] sz) := by
  refine Met.ofW (cc := b_Br_used) (maxL := 2) (ret := (some .int)) (by decide) rfl ?_
  intro p e s m args below meth c s₁ B hml hv
  obtain ⟨rfl, hsz, hP, hK, hD0⟩ := hv
  have hx := B.exec
  have hb := B.bytes
  have hr := B.returns
  have hts : ∀ w ∈ lw_g, w.before _ s = true := fun w h => atoms_spec (ws := w_Br_used) B.pre w (List.mem_cons_of_mem _ h)
  have hown : s.vm.findClass R_Br = some m.cls := findClass_of_methodNamed B.named
  have hlocks := B.notSynchronized
  subst hsz
  have hA : ∀ q : Nat, s.heap.size ≤ q → (va_A ([]) s.heap.size) q := fun _ h => Or.inr h
  have hDt : ∀ τ, va_D (fun _ => True) (wl_Br a k τ) := fun τ => kd_cg hD0 rfl
  have hK1 := sK_Br_Ca hK
  have hDt1 : ∀ τ, va_D (fun _ => True) (wl_Ca (a 1) (k 1) τ) := fun τ => kd_cg (sD_Br_Ca hD0) rfl
  have hK2 := sK_Br_Th hK
  have hDt2 : ∀ τ, va_D (fun _ => True) (wl_Th (a 2) (k 2) τ) := fun τ => kd_cg (sD_Br_Th hD0) rfl
  have hK3 := sK_Br_Bk hK
  have hDt3 : ∀ τ, va_D (fun _ => True) (wl_Bk (a 3) (k 3) τ) := fun τ => kd_cg (sD_Br_Bk hD0) rfl
  have hK4 := sK_Br_Wi hK
  have hDt4 : ∀ τ, va_D (fun _ => True) (wl_Wi (a 4) (k 4) τ) := fun τ => kd_cg (sD_Br_Wi hD0) rfl
  have hK5 := sK_Br_Pe hK
  have hDt5 : ∀ τ, va_D (fun _ => True) (wl_Pe (a 5) (k 5) τ) := fun τ => kd_cg (sD_Br_Pe hD0) rfl
  have hS : va_S (va_A ([]) s.heap.size) s.heap s.heap [] := va_S.rf
  have hl := lv_entry ([.ref (a 0 0), .int p1]) (n := 2) (Nat.le_of_ble_eq_true rfl)
  rw [lg_entry_eq]
  generalize (lg_sl ([.ref (a 0 0), .int p1]) ++ List.replicate (2 - (lg_sl ([.ref (a 0 0), .int p1])).length) Slot.unset).toArray = ls at hl ⊢
  have hl : lv_has ls 2 [(0, .ref (a 0 0)), (1, .int p1)] := hl
  unfold kf_Br_used at hk
  refine lv_aload_n hx hb d_Br_used_0 rfl (lv_at hl 0 rfl) ?_
  refine va_get (D := D) (ci := 5) (v := .ref (a 2 0)) (C := R_Br) (T := F_Br) (N := 6) hx hb hts i_uBr hown hK hP 0 rfl rfl 1 (by decide) (hts _ mw_161) (fun _ h9 => h9) rfl d_Br_used_1 ?_
  refine lv_iload_n hx hb d_Br_used_4 rfl (lv_at hl 1 rfl) ?_
  obtain ⟨q1, e1, hk⟩ := ob_s hk
  refine kc_R (va_runV (As := [.int p1]) (rest := []) ⟨hx, hb, hml, hown, hts⟩ (c_Th_has l D (a 2) (k 2) _ σ.2.1 p1 q1 e1) (cwV 1 hts (gV mw_229 mw_230 mw_231 mw_29 mw_232) rfl rfl rfl hd_Th_has ⟨Nat.le_of_ble_eq_true rfl, Nat.le_of_ble_eq_true rfl⟩) (kp_V (ci := 3) (q := (R_Th, F_Th, 6)) (q0 := 0) hK2 (sP_Br_Th (σ := σ) hP) (hDt2 _) rfl rfl) rfl rfl hl.1 rfl (lv_room (Nat.le_of_ble_eq_true rfl)) d_Br_used_5 ⟨Nat.zero_le _, Nat.zero_le _⟩) hS hA hP (fun H locs hP hS => ?_)
  refine lv_if_eq (tgt := 22) hx hb d_Br_used_8 (by decide) (fun c2 => ?_) (fun c2 => ?_)
  · have hk := br_p c2 hk
    refine lv_iconst (v := -1) hx hb d_Br_used_22 (by decide) ?_
    exact kr_R hx hb hr rfl hlocks hS hk d_Br_used_23
  · have hk := br_n c2 hk
    refine lv_aload_n hx hb d_Br_used_11 rfl (lv_at hl 0 rfl) ?_
    refine va_get (D := D) (ci := 5) (v := .ref (a 3 0)) (C := R_Br) (T := F_Br) (N := 6) hx hb hts i_uBr hown hK hP 0 rfl rfl 2 (by decide) (hts _ mw_162) (fun _ h9 => h9) rfl d_Br_used_12 ?_
    refine lv_iload_n hx hb d_Br_used_15 rfl (lv_at hl 1 rfl) ?_
    obtain ⟨q3, e3, hk⟩ := ob_s hk
    refine kc_R (va_runV (As := [.int p1]) (rest := []) ⟨hx, hb, hml, hown, hts⟩ (c_Bk_doneMinutes l D (a 3) (k 3) _ σ.2.2.1 p1 q3 e3) (cwV 1 hts (gV mw_488 mw_489 mw_490 mw_30 mw_491) rfl rfl rfl hd_Bk_doneMinutes ⟨Nat.le_of_ble_eq_true rfl, Nat.le_of_ble_eq_true rfl⟩) (kp_V (ci := 0) (q := (R_Bk, F_Bk, 9)) (q0 := 0) hK3 (sP_Br_Bk (σ := σ) hP) (hDt3 _) rfl rfl) rfl rfl hl.1 rfl (lv_room (Nat.le_of_ble_eq_true rfl)) d_Br_used_16 ⟨Nat.zero_le _, Nat.zero_le _⟩) hS hA hP (fun H locs hP hS => ?_)
    refine lv_goto (tgt := 23) hx hb d_Br_used_19 (by decide) ?_
    exact kr_R hx hb hr rfl hlocks hS hk d_Br_used_23
