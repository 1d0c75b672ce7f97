set_option maxHeartbeats 4000000 in
set_option maxRecDepth 100000 in
theorem c_Br_recurring (l : Launch) (D : va_G) (a : Nat → Nat → Nat) (k : Nat → Nat → ClassId) (sz : Nat) (σ : S_Br) (p1 p2 p3 : Int32) (r0 : Int32 × S_Br) (hk : kf_Br_recurring σ p1 p2 p3 = some r0) : Met l y_Br_recurring w_Br_recurring ({ frames := 4, cells := 0, slots := 0, locals := 99 }) (kp_P D cls (ty_Br k) (wl_Br a k σ) [.ref (a 0 0), .int p1, .int p2, .int p3] sz) (kp_M D cls (wl_Br a k r0.2) (wl_Br a k σ) sz r0.1) 0 0 (va_A (wl_Br a k σ) sz) := by
  refine Met.ofW (cc := b_Br_recurring) (maxL := 10) (ret := (some .int)) (by decide) rfl ?_
  intro p e s m args below meth c s₁ B hml hv
  obtain ⟨rfl, hsz, hP, hK, hD0⟩ := hv
  have hx := B.exec
  have hb := B.bytes
  have hr := B.returns
  have hts : ∀ w ∈ lw_g, w.before _ s = true := fun w h => atoms_spec (ws := w_Br_recurring) B.pre w (List.mem_cons_of_mem _ h)
  have hown : s.vm.findClass R_Br = some m.cls := findClass_of_methodNamed B.named
  have hlocks := B.notSynchronized
  subst hsz
  have hA : ∀ q : Nat, s.heap.size ≤ q → (va_A (wl_Br a k σ) s.heap.size) q := fun _ h => Or.inr h
  have hDt : ∀ τ, va_D (fun _ => True) (wl_Br a k τ) := fun τ => kd_cg hD0 rfl
  have hDw : ∀ τ, va_D (va_A (wl_Br a k σ) s.heap.size) (wl_Br a k τ) := fun τ => kd_cg hD0.self rfl
  have hK1 := sK_Br_Ca hK
  have hDt1 : ∀ τ, va_D (fun _ => True) (wl_Ca (a 1) (k 1) τ) := fun τ => kd_cg (sD_Br_Ca hD0) rfl
  have hDw1 : ∀ τ, va_D (va_A (wl_Br a k σ) s.heap.size) (wl_Ca (a 1) (k 1) τ) := fun τ => kd_cg (sD_Br_Ca (hDw σ)) rfl
  have hK2 := sK_Br_Th hK
  have hDt2 : ∀ τ, va_D (fun _ => True) (wl_Th (a 2) (k 2) τ) := fun τ => kd_cg (sD_Br_Th hD0) rfl
  have hDw2 : ∀ τ, va_D (va_A (wl_Br a k σ) s.heap.size) (wl_Th (a 2) (k 2) τ) := fun τ => kd_cg (sD_Br_Th (hDw σ)) rfl
  have hK3 := sK_Br_Bk hK
  have hDt3 : ∀ τ, va_D (fun _ => True) (wl_Bk (a 3) (k 3) τ) := fun τ => kd_cg (sD_Br_Bk hD0) rfl
  have hDw3 : ∀ τ, va_D (va_A (wl_Br a k σ) s.heap.size) (wl_Bk (a 3) (k 3) τ) := fun τ => kd_cg (sD_Br_Bk (hDw σ)) rfl
  have hK4 := sK_Br_Wi hK
  have hDt4 : ∀ τ, va_D (fun _ => True) (wl_Wi (a 4) (k 4) τ) := fun τ => kd_cg (sD_Br_Wi hD0) rfl
  have hDw4 : ∀ τ, va_D (va_A (wl_Br a k σ) s.heap.size) (wl_Wi (a 4) (k 4) τ) := fun τ => kd_cg (sD_Br_Wi (hDw σ)) rfl
  have hK5 := sK_Br_Pe hK
  have hDt5 : ∀ τ, va_D (fun _ => True) (wl_Pe (a 5) (k 5) τ) := fun τ => kd_cg (sD_Br_Pe hD0) rfl
  have hDw5 : ∀ τ, va_D (va_A (wl_Br a k σ) s.heap.size) (wl_Pe (a 5) (k 5) τ) := fun τ => kd_cg (sD_Br_Pe (hDw σ)) rfl
  have hK0 : va_K D cls [] s := hK.sub [] rfl
  have hS : va_S (va_A (wl_Br a k σ) s.heap.size) s.heap s.heap [] := va_S.rf
  have hl := lv_entry ([.ref (a 0 0), .int p1, .int p2, .int p3]) (n := 10) (Nat.le_of_ble_eq_true rfl)
  rw [lg_entry_eq]
  generalize (lg_sl ([.ref (a 0 0), .int p1, .int p2, .int p3]) ++ List.replicate (10 - (lg_sl ([.ref (a 0 0), .int p1, .int p2, .int p3])).length) Slot.unset).toArray = ls at hl ⊢
  have hl : lv_has ls 10 [(0, .ref (a 0 0)), (1, .int p1), (2, .int p2), (3, .int p3)] := hl
  unfold kf_Br_recurring at hk
  have L72 : ∀ (n72 : Nat) (x4 : Int32) (x5 : Int32) (x6 : Int32) (x7 : Int32) (τ : S_Br) (H : Heap) (locs : List Loc) (ls : Array Slot), va_P D cls (wl_Br a k τ) H → va_S (va_A (wl_Br a k σ) s.heap.size) s.heap H locs → lv_has ls 10 [(0, .ref (a 0 0)), (1, .int p1), (2, .int p2), (3, .int p3), (4, .int x4), (5, .int x5), (6, .int x6), (7, .int x7)] → kf_Br_recurring_72 p1 p2 p3 n72 x4 x5 x6 x7 τ = some r0 → W p l e (headSpec w_Br_recurring ({ frames := 4, cells := 0, slots := 0, locals := 99 })).room s m [.ref (a 0 0), .int p1, .int p2, .int p3].toArray below meth c H locs 0 0 (MQ below (kp_M D cls (wl_Br a k r0.2) (wl_Br a k σ) s.heap.size r0.1) [.ref (a 0 0), .int p1, .int p2, .int p3].toArray s 0 0 (va_A (wl_Br a k σ) s.heap.size)) (F0 m 72 ls []) := by
    intro n72
    induction n72 with
    | zero =>
      intro x4 x5 x6 x7 τ H locs ls hP hS hl hk
      exact nomatch hk
    | succ n72 ih72 =>
      intro x4 x5 x6 x7 τ H locs ls hP hS hl hk
      rw [kf_Br_recurring_72_s] at hk
      refine lv_iload hx hb d_Br_recurring_72 (lv_at hl 7 rfl) ?_
      refine lv_iload_n hx hb d_Br_recurring_74 rfl (lv_at hl 3 rfl) ?_
      refine lv_icmp_gt (tgt := 149) hx hb d_Br_recurring_75 (by decide) (fun c1 => ?_) (fun c1 => ?_)
      · have hk := br_p c1 hk
        refine lv_iload hx hb d_Br_recurring_149 (lv_at hl 6 rfl) ?_
        exact kr_M (w := wl_Br a k) hx hb hr rfl hlocks hS hP hk d_Br_recurring_151
      · have hk := br_n c1 hk
        refine lv_iload hx hb d_Br_recurring_78 (lv_at hl 7 rfl) ?_
        refine lv_iload_n hx hb d_Br_recurring_80 rfl (lv_at hl 2 rfl) ?_
        refine lv_imul hx hb d_Br_recurring_81 ?_
        refine lv_sipush (v := 1440) hx hb d_Br_recurring_82 (by decide) ?_
        refine lv_imul hx hb d_Br_recurring_85 ?_
        refine lv_istore (lv' := [(8, .int ((x7 * p2) * 1440)), (0, .ref (a 0 0)), (1, .int p1), (2, .int p2), (3, .int p3), (4, .int x4), (5, .int x5), (6, .int x6), (7, .int x7)]) hx hb d_Br_recurring_86 hl (by decide) rfl (fun ls hl => ?_)
        refine lv_aload_n hx hb d_Br_recurring_88 rfl (lv_at hl 1 rfl) ?_
        refine lv_iload hx hb d_Br_recurring_89 (lv_at hl 5 rfl) ?_
        refine lv_iload hx hb d_Br_recurring_91 (lv_at hl 6 rfl) ?_
        refine lv_aload_n hx hb d_Br_recurring_93 rfl (lv_at hl 1 rfl) ?_
        refine va_get (D := D) (ci := 5) (v := .ref (a 3 0)) (C := R_Br) (T := F_Br) (N := 6) hx hb hts i_uBr hown hK hP 0 rfl rfl 2 (by decide) (hts _ mw_162) (fun _ h9 => h9) rfl d_Br_recurring_94 ?_
        refine lv_iload_n hx hb d_Br_recurring_97 rfl (lv_at hl 2 rfl) ?_
        obtain ⟨q2, e2, hk⟩ := ob_s hk
        refine kc_R (va_runV (As := [.int p1]) (rest := [.int x5, .int x4, .ref (a 0 0)]) ⟨hx, hb, hml, hown, hts⟩ (c_Bk_fromOf l D (a 3) (k 3) _ τ.2.2.1 p1 q2 e2) (cwV 1 hts (gV mw_306 mw_307 mw_308 mw_30 mw_309) rfl rfl rfl hd_Bk_fromOf ⟨Nat.le_of_ble_eq_true rfl, Nat.le_of_ble_eq_true rfl⟩) (kp_V (ci := 0) (q := (R_Bk, F_Bk, 9)) (q0 := 0) hK3 (sP_Br_Bk (σ := τ) hP) (hDt3 _) rfl rfl) rfl rfl hl.1 rfl (lv_room (Nat.le_of_ble_eq_true rfl)) d_Br_recurring_98 ⟨Nat.zero_le _, Nat.zero_le _⟩) hS hA hP (fun H locs hP hS => ?_)
        refine lv_iload hx hb d_Br_recurring_101 (lv_at hl 0 rfl) ?_
        refine lv_iadd hx hb d_Br_recurring_103 ?_
        refine lv_aload_n hx hb d_Br_recurring_104 rfl (lv_at hl 1 rfl) ?_
        refine va_get (D := D) (ci := 5) (v := .ref (a 3 0)) (C := R_Br) (T := F_Br) (N := 6) hx hb hts i_uBr hown hK hP 0 rfl rfl 2 (by decide) (hts _ mw_162) (fun _ h9 => h9) rfl d_Br_recurring_105 ?_
        refine lv_iload_n hx hb d_Br_recurring_108 rfl (lv_at hl 2 rfl) ?_
        obtain ⟨q3, e3, hk⟩ := ob_s hk
        refine kc_R (va_runV (As := [.int p1]) (rest := [.int (q2 + ((x7 * p2) * 1440)), .int x5, .int x4, .ref (a 0 0)]) ⟨hx, hb, hml, hown, hts⟩ (c_Bk_toOf l D (a 3) (k 3) _ τ.2.2.1 p1 q3 e3) (cwV 1 hts (gV mw_310 mw_311 mw_312 mw_30 mw_313) rfl rfl rfl hd_Bk_toOf ⟨Nat.le_of_ble_eq_true rfl, Nat.le_of_ble_eq_true rfl⟩) (kp_V (ci := 0) (q := (R_Bk, F_Bk, 9)) (q0 := 0) hK3 (sP_Br_Bk (σ := τ) hP) (hDt3 _) rfl rfl) rfl rfl hl.1 rfl (lv_room (Nat.le_of_ble_eq_true rfl)) d_Br_recurring_109 ⟨Nat.zero_le _, Nat.zero_le _⟩) hS hA hP (fun H locs hP hS => ?_)
        refine lv_iload hx hb d_Br_recurring_112 (lv_at hl 0 rfl) ?_
        refine lv_iadd hx hb d_Br_recurring_114 ?_
        obtain ⟨q4, e4, hk⟩ := ob_s hk
        refine kc_M (wF := wl_Br a k q4.2) (va_runV (As := [.int x4, .int x5, .int (q2 + ((x7 * p2) * 1440)), .int (q3 + ((x7 * p2) * 1440))]) (rest := []) ⟨hx, hb, hml, hown, hts⟩ (c_Br_tryBooking l D a k _ τ x4 x5 (q2 + ((x7 * p2) * 1440)) (q3 + ((x7 * p2) * 1440)) q4 e4) (cwV 4 hts (gV mw_233 mw_235 mw_0 mw_27 mw_236) rfl rfl rfl hd_Br_tryBooking ⟨Nat.le_of_ble_eq_true rfl, Nat.le_of_ble_eq_true rfl⟩) (kp_V (ci := 5) (q := (R_Br, F_Br, 6)) (q0 := 0) hK hP (hDt _) rfl rfl) rfl rfl hl.1 rfl (lv_room (Nat.le_of_ble_eq_true rfl)) d_Br_recurring_115 ⟨Nat.zero_le _, Nat.zero_le _⟩) hS (hDw _) hA (fun _ _ h _ => h) (fun H locs hP hS => ?_)
        refine lv_istore (lv' := [(9, .int q4.1), (8, .int ((x7 * p2) * 1440)), (0, .ref (a 0 0)), (1, .int p1), (2, .int p2), (3, .int p3), (4, .int x4), (5, .int x5), (6, .int x6), (7, .int x7)]) hx hb d_Br_recurring_118 hl (by decide) rfl (fun ls hl => ?_)
        refine lv_iload hx hb d_Br_recurring_120 (lv_at hl 0 rfl) ?_
        refine lv_if_eq (tgt := 149) hx hb d_Br_recurring_122 (by decide) (fun c5 => ?_) (fun c5 => ?_)
        · have hk := br_p c5 hk
          refine lv_iload hx hb d_Br_recurring_149 (lv_at hl 8 rfl) ?_
          exact kr_M (w := wl_Br a k) hx hb hr rfl hlocks hS hP hk d_Br_recurring_151
        · have hk := br_n c5 hk
          refine lv_iload hx hb d_Br_recurring_125 (lv_at hl 0 rfl) ?_
          refine lv_bipush (v := -3) hx hb d_Br_recurring_127 (by decide) ?_
          refine lv_icmp_ne (tgt := 135) hx hb d_Br_recurring_129 (by decide) (fun c6 => ?_) (fun c6 => ?_)
          · have hk := br_n c6 hk
            refine lv_iload hx hb d_Br_recurring_135 (lv_at hl 0 rfl) ?_
            refine lv_if_le (tgt := 143) hx hb d_Br_recurring_137 (by decide) (fun c7 => ?_) (fun c7 => ?_)
            · have hk := br_p c7 hk
              refine lv_iinc (v := (x7 + 1)) (lv' := [(7, .int (x7 + 1)), (9, .int q4.1), (8, .int ((x7 * p2) * 1440)), (0, .ref (a 0 0)), (1, .int p1), (2, .int p2), (3, .int p3), (4, .int x4), (5, .int x5), (6, .int x6)]) hx hb d_Br_recurring_143 hl (k := 9) rfl rfl (by decide) rfl (fun ls hl => ?_)
              refine lv_goto (tgt := 72) hx hb d_Br_recurring_146 (by decide) ?_
              exact ih72 x4 x5 x6 (x7 + 1) q4.2 _ _ _ hP hS (lv_sub hl [3, 4, 5, 6, 7, 8, 9, 0] rfl) hk
            · have hk := br_n c7 hk
              refine lv_iinc (v := (x6 + 1)) (lv' := [(6, .int (x6 + 1)), (9, .int q4.1), (8, .int ((x7 * p2) * 1440)), (0, .ref (a 0 0)), (1, .int p1), (2, .int p2), (3, .int p3), (4, .int x4), (5, .int x5), (7, .int x7)]) hx hb d_Br_recurring_140 hl (k := 8) rfl rfl (by decide) rfl (fun ls hl => ?_)
              refine lv_iinc (v := (x7 + 1)) (lv' := [(7, .int (x7 + 1)), (6, .int (x6 + 1)), (9, .int q4.1), (8, .int ((x7 * p2) * 1440)), (0, .ref (a 0 0)), (1, .int p1), (2, .int p2), (3, .int p3), (4, .int x4), (5, .int x5)]) hx hb d_Br_recurring_143 hl (k := 9) rfl rfl (by decide) rfl (fun ls hl => ?_)
              refine lv_goto (tgt := 72) hx hb d_Br_recurring_146 (by decide) ?_
              exact ih72 x4 x5 (x6 + 1) (x7 + 1) q4.2 _ _ _ hP hS (lv_sub hl [4, 5, 6, 7, 8, 9, 1, 0] rfl) hk
          · have hk := br_p c6 hk
            refine lv_goto (tgt := 149) hx hb d_Br_recurring_132 (by decide) ?_
            refine lv_iload hx hb d_Br_recurring_149 (lv_at hl 8 rfl) ?_
            exact kr_M (w := wl_Br a k) hx hb hr rfl hlocks hS hP hk d_Br_recurring_151
  refine lv_aload_n hx hb d_Br_recurring_0 rfl (lv_at hl 0 rfl) ?_
  refine va_get (D := D) (ci := 5) (v := .ref (a 3 0)) (C := R_Br) (T := F_Br) (N := 6) hx hb hts i_uBr hown hK hP 0 rfl rfl 2 (by decide) (hts _ mw_162) (fun _ h9 => h9) rfl d_Br_recurring_1 ?_
  refine lv_iload_n hx hb d_Br_recurring_4 rfl (lv_at hl 1 rfl) ?_
  obtain ⟨q8, e8, hk⟩ := ob_s hk
  refine kc_R (va_runV (As := [.int p1]) (rest := []) ⟨hx, hb, hml, hown, hts⟩ (c_Bk_has l D (a 3) (k 3) _ σ.2.2.1 p1 q8 e8) (cwV 1 hts (gV mw_293 mw_294 mw_295 mw_30 mw_296) rfl rfl rfl hd_Bk_has ⟨Nat.le_of_ble_eq_true rfl, Nat.le_of_ble_eq_true rfl⟩) (kp_V (ci := 0) (q := (R_Bk, F_Bk, 9)) (q0 := 0) hK3 (sP_Br_Bk (σ := σ) hP) (hDt3 _) rfl rfl) rfl rfl hl.1 rfl (lv_room (Nat.le_of_ble_eq_true rfl)) d_Br_recurring_5 ⟨Nat.zero_le _, Nat.zero_le _⟩) hS hA hP (fun H locs hP hS => ?_)
  refine lv_if_eq (tgt := 22) hx hb d_Br_recurring_8 (by decide) (fun c9 => ?_) (fun c9 => ?_)
  · have hk := br_p c9 hk
    refine lv_iconst (v := 0) hx hb d_Br_recurring_22 (by decide) ?_
    exact kr_M (w := wl_Br a k) hx hb hr rfl hlocks hS hP hk d_Br_recurring_23
  · have hk := br_n c9 hk
    refine lv_aload_n hx hb d_Br_recurring_11 rfl (lv_at hl 0 rfl) ?_
    refine va_get (D := D) (ci := 5) (v := .ref (a 3 0)) (C := R_Br) (T := F_Br) (N := 6) hx hb hts i_uBr hown hK hP 0 rfl rfl 2 (by decide) (hts _ mw_162) (fun _ h9 => h9) rfl d_Br_recurring_12 ?_
    refine lv_iload_n hx hb d_Br_recurring_15 rfl (lv_at hl 1 rfl) ?_
    obtain ⟨q10, e10, hk⟩ := ob_s hk
    refine kc_R (va_runV (As := [.int p1]) (rest := []) ⟨hx, hb, hml, hown, hts⟩ (c_Bk_lives l D (a 3) (k 3) _ σ.2.2.1 p1 q10 e10) (cwV 1 hts (gV mw_297 mw_274 mw_275 mw_30 mw_276) rfl rfl rfl hd_Bk_lives ⟨Nat.le_of_ble_eq_true rfl, Nat.le_of_ble_eq_true rfl⟩) (kp_V (ci := 0) (q := (R_Bk, F_Bk, 9)) (q0 := 0) hK3 (sP_Br_Bk (σ := σ) hP) (hDt3 _) rfl rfl) rfl rfl hl.1 rfl (lv_room (Nat.le_of_ble_eq_true rfl)) d_Br_recurring_16 ⟨Nat.zero_le _, Nat.zero_le _⟩) hS hA hP (fun H locs hP hS => ?_)
    refine lv_if_ne (tgt := 24) hx hb d_Br_recurring_19 (by decide) (fun c11 => ?_) (fun c11 => ?_)
    · have hk := br_n c11 hk
      refine lv_iload_n hx hb d_Br_recurring_24 rfl (lv_at hl 2 rfl) ?_
      refine lv_iconst (v := 1) hx hb d_Br_recurring_25 (by decide) ?_
      refine lv_bipush (v := 60) hx hb d_Br_recurring_26 (by decide) ?_
      obtain ⟨q12, e12, hk⟩ := ob_s hk
      refine kc_R (va_runS (As := [.int p2, .int 1, .int 60]) (rest := []) ⟨hx, hb, hml, hown, hts⟩ (c_Br_isWithin l D _ p2 1 60 q12 e12) (cwS 3 hts (gS mw_184 mw_185 mw_27 mw_186) rfl rfl rfl hd_Br_isWithin ⟨Nat.le_of_ble_eq_true rfl, Nat.le_of_ble_eq_true rfl⟩) (kp_S hK0) rfl rfl hl.1 rfl (lv_room (Nat.le_of_ble_eq_true rfl)) d_Br_recurring_28 ⟨Nat.zero_le _, Nat.zero_le _⟩) hS hA hP (fun H locs hP hS => ?_)
      refine lv_if_eq (tgt := 44) hx hb d_Br_recurring_31 (by decide) (fun c13 => ?_) (fun c13 => ?_)
      · have hk := br_p c13 hk
        refine lv_iconst (v := 0) hx hb d_Br_recurring_44 (by decide) ?_
        exact kr_M (w := wl_Br a k) hx hb hr rfl hlocks hS hP hk d_Br_recurring_45
      · have hk := br_n c13 hk
        refine lv_iload_n hx hb d_Br_recurring_34 rfl (lv_at hl 3 rfl) ?_
        refine lv_iconst (v := 1) hx hb d_Br_recurring_35 (by decide) ?_
        refine lv_bipush (v := 20) hx hb d_Br_recurring_36 (by decide) ?_
        obtain ⟨q14, e14, hk⟩ := ob_s hk
        refine kc_R (va_runS (As := [.int p3, .int 1, .int 20]) (rest := []) ⟨hx, hb, hml, hown, hts⟩ (c_Br_isWithin l D _ p3 1 20 q14 e14) (cwS 3 hts (gS mw_184 mw_185 mw_27 mw_186) rfl rfl rfl hd_Br_isWithin ⟨Nat.le_of_ble_eq_true rfl, Nat.le_of_ble_eq_true rfl⟩) (kp_S hK0) rfl rfl hl.1 rfl (lv_room (Nat.le_of_ble_eq_true rfl)) d_Br_recurring_38 ⟨Nat.zero_le _, Nat.zero_le _⟩) hS hA hP (fun H locs hP hS => ?_)
        refine lv_if_ne (tgt := 46) hx hb d_Br_recurring_41 (by decide) (fun c15 => ?_) (fun c15 => ?_)
        · have hk := br_n c15 hk
          refine lv_aload_n hx hb d_Br_recurring_46 rfl (lv_at hl 0 rfl) ?_
          refine va_get (D := D) (ci := 5) (v := .ref (a 3 0)) (C := R_Br) (T := F_Br) (N := 6) hx hb hts i_uBr hown hK hP 0 rfl rfl 2 (by decide) (hts _ mw_162) (fun _ h9 => h9) rfl d_Br_recurring_47 ?_
          refine lv_iload_n hx hb d_Br_recurring_50 rfl (lv_at hl 1 rfl) ?_
          obtain ⟨q16, e16, hk⟩ := ob_s hk
          refine kc_R (va_runV (As := [.int p1]) (rest := []) ⟨hx, hb, hml, hown, hts⟩ (c_Bk_personOf l D (a 3) (k 3) _ σ.2.2.1 p1 q16 e16) (cwV 1 hts (gV mw_298 mw_299 mw_300 mw_30 mw_301) rfl rfl rfl hd_Bk_personOf ⟨Nat.le_of_ble_eq_true rfl, Nat.le_of_ble_eq_true rfl⟩) (kp_V (ci := 0) (q := (R_Bk, F_Bk, 9)) (q0 := 0) hK3 (sP_Br_Bk (σ := σ) hP) (hDt3 _) rfl rfl) rfl rfl hl.1 rfl (lv_room (Nat.le_of_ble_eq_true rfl)) d_Br_recurring_51 ⟨Nat.zero_le _, Nat.zero_le _⟩) hS hA hP (fun H locs hP hS => ?_)
          refine lv_istore (lv' := [(4, .int q16), (0, .ref (a 0 0)), (1, .int p1), (2, .int p2), (3, .int p3)]) hx hb d_Br_recurring_54 hl (by decide) rfl (fun ls hl => ?_)
          refine lv_aload_n hx hb d_Br_recurring_56 rfl (lv_at hl 1 rfl) ?_
          refine va_get (D := D) (ci := 5) (v := .ref (a 3 0)) (C := R_Br) (T := F_Br) (N := 6) hx hb hts i_uBr hown hK hP 0 rfl rfl 2 (by decide) (hts _ mw_162) (fun _ h9 => h9) rfl d_Br_recurring_57 ?_
          refine lv_iload_n hx hb d_Br_recurring_60 rfl (lv_at hl 2 rfl) ?_
          obtain ⟨q17, e17, hk⟩ := ob_s hk
          refine kc_R (va_runV (As := [.int p1]) (rest := []) ⟨hx, hb, hml, hown, hts⟩ (c_Bk_thingOf l D (a 3) (k 3) _ σ.2.2.1 p1 q17 e17) (cwV 1 hts (gV mw_302 mw_303 mw_304 mw_30 mw_305) rfl rfl rfl hd_Bk_thingOf ⟨Nat.le_of_ble_eq_true rfl, Nat.le_of_ble_eq_true rfl⟩) (kp_V (ci := 0) (q := (R_Bk, F_Bk, 9)) (q0 := 0) hK3 (sP_Br_Bk (σ := σ) hP) (hDt3 _) rfl rfl) rfl rfl hl.1 rfl (lv_room (Nat.le_of_ble_eq_true rfl)) d_Br_recurring_61 ⟨Nat.zero_le _, Nat.zero_le _⟩) hS hA hP (fun H locs hP hS => ?_)
          refine lv_istore (lv' := [(5, .int q17), (4, .int q16), (0, .ref (a 0 0)), (1, .int p1), (2, .int p2), (3, .int p3)]) hx hb d_Br_recurring_64 hl (by decide) rfl (fun ls hl => ?_)
          refine lv_iconst (v := 0) hx hb d_Br_recurring_66 (by decide) ?_
          refine lv_istore (lv' := [(6, .int 0), (5, .int q17), (4, .int q16), (0, .ref (a 0 0)), (1, .int p1), (2, .int p2), (3, .int p3)]) hx hb d_Br_recurring_67 hl (by decide) rfl (fun ls hl => ?_)
          refine lv_iconst (v := 1) hx hb d_Br_recurring_69 (by decide) ?_
          refine lv_istore (lv' := [(7, .int 1), (6, .int 0), (5, .int q17), (4, .int q16), (0, .ref (a 0 0)), (1, .int p1), (2, .int p2), (3, .int p3)]) hx hb d_Br_recurring_70 hl (by decide) rfl (fun ls hl => ?_)
          exact L72 FU q16 q17 0 1 σ _ _ _ hP hS (lv_sub hl [4, 5, 6, 7, 3, 2, 1, 0] rfl) hk
        · have hk := br_p c15 hk
          refine lv_iconst (v := 0) hx hb d_Br_recurring_44 (by decide) ?_
          exact kr_M (w := wl_Br a k) hx hb hr rfl hlocks hS hP hk d_Br_recurring_45
    · have hk := br_p c11 hk
      refine lv_iconst (v := 0) hx hb d_Br_recurring_22 (by decide) ?_
      exact kr_M (w := wl_Br a k) hx hb hr rfl hlocks hS hP hk d_Br_recurring_23
set_option maxHeartbeats 4000000 in
set_option maxRecDepth 100000 in
theorem c_Br_serveWishes (l : Launch) (D : va_G) (a : Nat → Nat → Nat) (k : Nat → Nat → ClassId) (sz : Nat) (σ : S_Br) (p1 : Int32) (r0 : Int32 × S_Br) (hk : kf_Br_serveWishes σ p1 = some r0) : Met l y_Br_serveWishes w_Br_serveWishes ({ frames := 4, cells := 0, slots := 0, locals := 99 }) (kp_P D cls (ty_Br k) (wl_Br a k σ) [.ref (a 0 0), .int p1] sz) (kp_M D cls (wl_Br a k r0.2) (wl_Br a k σ) sz r0.1) 0 0 (va_A (wl_Br a k σ) sz) := by
  refine Met.ofW (cc := b_Br_serveWishes) (maxL := 5) (ret := (some .int)) (by decide) rfl ?_
  intro p e s m args below meth c s₁ B hml hv
  obtain ⟨rfl, hsz, hP, hK, hD0⟩ := hv
  have hx := B.exec
  have hb := B.bytes
  have hr := B.returns
  have hts : ∀ w ∈ lw_g, w.before _ s = true := fun w h => atoms_spec (ws := w_Br_serveWishes) B.pre w (List.mem_cons_of_mem _ h)
  have hown : s.vm.findClass R_Br = some m.cls := findClass_of_methodNamed B.named
  have hlocks := B.notSynchronized
  subst hsz
  have hA : ∀ q : Nat, s.heap.size ≤ q → (va_A (wl_Br a k σ) s.heap.size) q := fun _ h => Or.inr h
  have hDt : ∀ τ, va_D (fun _ => True) (wl_Br a k τ) := fun τ => kd_cg hD0 rfl
  have hDw : ∀ τ, va_D (va_A (wl_Br a k σ) s.heap.size) (wl_Br a k τ) := fun τ => kd_cg hD0.self rfl
  have hK1 := sK_Br_Ca hK
  have hDt1 : ∀ τ, va_D (fun _ => True) (wl_Ca (a 1) (k 1) τ) := fun τ => kd_cg (sD_Br_Ca hD0) rfl
  have hDw1 : ∀ τ, va_D (va_A (wl_Br a k σ) s.heap.size) (wl_Ca (a 1) (k 1) τ) := fun τ => kd_cg (sD_Br_Ca (hDw σ)) rfl
  have hK2 := sK_Br_Th hK
  have hDt2 : ∀ τ, va_D (fun _ => True) (wl_Th (a 2) (k 2) τ) := fun τ => kd_cg (sD_Br_Th hD0) rfl
  have hDw2 : ∀ τ, va_D (va_A (wl_Br a k σ) s.heap.size) (wl_Th (a 2) (k 2) τ) := fun τ => kd_cg (sD_Br_Th (hDw σ)) rfl
  have hK3 := sK_Br_Bk hK
  have hDt3 : ∀ τ, va_D (fun _ => True) (wl_Bk (a 3) (k 3) τ) := fun τ => kd_cg (sD_Br_Bk hD0) rfl
  have hDw3 : ∀ τ, va_D (va_A (wl_Br a k σ) s.heap.size) (wl_Bk (a 3) (k 3) τ) := fun τ => kd_cg (sD_Br_Bk (hDw σ)) rfl
  have hK4 := sK_Br_Wi hK
  have hDt4 : ∀ τ, va_D (fun _ => True) (wl_Wi (a 4) (k 4) τ) := fun τ => kd_cg (sD_Br_Wi hD0) rfl
  have hDw4 : ∀ τ, va_D (va_A (wl_Br a k σ) s.heap.size) (wl_Wi (a 4) (k 4) τ) := fun τ => kd_cg (sD_Br_Wi (hDw σ)) rfl
  have hK5 := sK_Br_Pe hK
  have hDt5 : ∀ τ, va_D (fun _ => True) (wl_Pe (a 5) (k 5) τ) := fun τ => kd_cg (sD_Br_Pe hD0) rfl
  have hDw5 : ∀ τ, va_D (va_A (wl_Br a k σ) s.heap.size) (wl_Pe (a 5) (k 5) τ) := fun τ => kd_cg (sD_Br_Pe (hDw σ)) rfl
  have hS : va_S (va_A (wl_Br a k σ) s.heap.size) s.heap s.heap [] := va_S.rf
  have hl := lv_entry ([.ref (a 0 0), .int p1]) (n := 5) (Nat.le_of_ble_eq_true rfl)
  rw [lg_entry_eq]
  generalize (lg_sl ([.ref (a 0 0), .int p1]) ++ List.replicate (5 - (lg_sl ([.ref (a 0 0), .int p1])).length) Slot.unset).toArray = ls at hl ⊢
  have hl : lv_has ls 5 [(0, .ref (a 0 0)), (1, .int p1)] := hl
  unfold kf_Br_serveWishes at hk
  have L13 : ∀ (n13 : Nat) (x2 : Int32) (x3 : Int32) (x4 : Int32) (τ : S_Br) (H : Heap) (locs : List Loc) (ls : Array Slot), va_P D cls (wl_Br a k τ) H → va_S (va_A (wl_Br a k σ) s.heap.size) s.heap H locs → lv_has ls 5 [(0, .ref (a 0 0)), (1, .int p1), (2, .int x2), (3, .int x3), (4, .int x4)] → kf_Br_serveWishes_13 p1 n13 x2 x3 x4 τ = some r0 → W p l e (headSpec w_Br_serveWishes ({ frames := 4, cells := 0, slots := 0, locals := 99 })).room s m [.ref (a 0 0), .int p1].toArray below meth c H locs 0 0 (MQ below (kp_M D cls (wl_Br a k r0.2) (wl_Br a k σ) s.heap.size r0.1) [.ref (a 0 0), .int p1].toArray s 0 0 (va_A (wl_Br a k σ) s.heap.size)) (F0 m 13 ls []) := by
    intro n13
    induction n13 with
    | zero =>
      intro x2 x3 x4 τ H locs ls hP hS hl hk
      exact nomatch hk
    | succ n13 ih13 =>
      intro x2 x3 x4 τ H locs ls hP hS hl hk
      rw [kf_Br_serveWishes_13_s] at hk
      refine lv_iload hx hb d_Br_serveWishes_13 (lv_at hl 4 rfl) ?_
      refine lv_if_le (tgt := 85) hx hb d_Br_serveWishes_15 (by decide) (fun c1 => ?_) (fun c1 => ?_)
      · have hk := br_p c1 hk
        refine lv_iload_n hx hb d_Br_serveWishes_85 rfl (lv_at hl 2 rfl) ?_
        exact kr_M (w := wl_Br a k) hx hb hr rfl hlocks hS hP hk d_Br_serveWishes_86
      · have hk := br_n c1 hk
        refine lv_aload_n hx hb d_Br_serveWishes_18 rfl (lv_at hl 0 rfl) ?_
        refine va_get (D := D) (ci := 5) (v := .ref (a 4 0)) (C := R_Br) (T := F_Br) (N := 6) hx hb hts i_uBr hown hK hP 0 rfl rfl 3 (by decide) (hts _ mw_163) (fun _ h9 => h9) rfl d_Br_serveWishes_19 ?_
        refine lv_iload_n hx hb d_Br_serveWishes_22 rfl (lv_at hl 3 rfl) ?_
        obtain ⟨q2, e2, hk⟩ := ob_s hk
        refine kc_R (va_runV (As := [.int x3]) (rest := []) ⟨hx, hb, hml, hown, hts⟩ (c_Wi_thingOf l D (a 4) (k 4) _ τ.2.2.2.1 x3 q2 e2) (cwV 1 hts (gV mw_351 mw_352 mw_353 mw_31 mw_354) rfl rfl rfl hd_Wi_thingOf ⟨Nat.le_of_ble_eq_true rfl, Nat.le_of_ble_eq_true rfl⟩) (kp_V (ci := 4) (q := (R_Wi, F_Wi, 6)) (q0 := 0) hK4 (sP_Br_Wi (σ := τ) hP) (hDt4 _) rfl rfl) rfl rfl hl.1 rfl (lv_room (Nat.le_of_ble_eq_true rfl)) d_Br_serveWishes_23 ⟨Nat.zero_le _, Nat.zero_le _⟩) hS hA hP (fun H locs hP hS => ?_)
        refine lv_iload_n hx hb d_Br_serveWishes_26 rfl (lv_at hl 1 rfl) ?_
        refine lv_icmp_ne (tgt := 76) hx hb d_Br_serveWishes_27 (by decide) (fun c3 => ?_) (fun c3 => ?_)
        · have hk := br_n c3 hk
          refine lv_iinc (v := (x3 + 1)) (lv' := [(3, .int (x3 + 1)), (0, .ref (a 0 0)), (1, .int p1), (2, .int x2), (4, .int x4)]) hx hb d_Br_serveWishes_76 hl (k := 3) rfl rfl (by decide) rfl (fun ls hl => ?_)
          refine lv_iinc (v := (x4 + (-1))) (lv' := [(4, .int (x4 + (-1))), (3, .int (x3 + 1)), (0, .ref (a 0 0)), (1, .int p1), (2, .int x2)]) hx hb d_Br_serveWishes_79 hl (k := 4) rfl rfl (by decide) rfl (fun ls hl => ?_)
          refine lv_goto (tgt := 13) hx hb d_Br_serveWishes_82 (by decide) ?_
          exact ih13 x2 (x3 + 1) (x4 + (-1)) τ _ _ _ hP hS (lv_sub hl [2, 3, 4, 1, 0] rfl) hk
        · have hk := br_p c3 hk
          refine lv_aload_n hx hb d_Br_serveWishes_30 rfl (lv_at hl 0 rfl) ?_
          refine lv_aload_n hx hb d_Br_serveWishes_31 rfl (lv_at hl 0 rfl) ?_
          refine va_get (D := D) (ci := 5) (v := .ref (a 4 0)) (C := R_Br) (T := F_Br) (N := 6) hx hb hts i_uBr hown hK hP 0 rfl rfl 3 (by decide) (hts _ mw_163) (fun _ h9 => h9) rfl d_Br_serveWishes_32 ?_
          refine lv_iload_n hx hb d_Br_serveWishes_35 rfl (lv_at hl 3 rfl) ?_
          obtain ⟨q4, e4, hk⟩ := ob_s hk
          refine kc_R (va_runV (As := [.int x3]) (rest := [.ref (a 0 0)]) ⟨hx, hb, hml, hown, hts⟩ (c_Wi_personOf l D (a 4) (k 4) _ τ.2.2.2.1 x3 q4 e4) (cwV 1 hts (gV mw_355 mw_356 mw_357 mw_31 mw_358) rfl rfl rfl hd_Wi_personOf ⟨Nat.le_of_ble_eq_true rfl, Nat.le_of_ble_eq_true rfl⟩) (kp_V (ci := 4) (q := (R_Wi, F_Wi, 6)) (q0 := 0) hK4 (sP_Br_Wi (σ := τ) hP) (hDt4 _) rfl rfl) rfl rfl hl.1 rfl (lv_room (Nat.le_of_ble_eq_true rfl)) d_Br_serveWishes_36 ⟨Nat.zero_le _, Nat.zero_le _⟩) hS hA hP (fun H locs hP hS => ?_)
          refine lv_iload_n hx hb d_Br_serveWishes_39 rfl (lv_at hl 1 rfl) ?_
          refine lv_aload_n hx hb d_Br_serveWishes_40 rfl (lv_at hl 0 rfl) ?_
          refine va_get (D := D) (ci := 5) (v := .ref (a 4 0)) (C := R_Br) (T := F_Br) (N := 6) hx hb hts i_uBr hown hK hP 0 rfl rfl 3 (by decide) (hts _ mw_163) (fun _ h9 => h9) rfl d_Br_serveWishes_41 ?_
          refine lv_iload_n hx hb d_Br_serveWishes_44 rfl (lv_at hl 3 rfl) ?_
          obtain ⟨q5, e5, hk⟩ := ob_s hk
          refine kc_R (va_runV (As := [.int x3]) (rest := [.int p1, .int q4, .ref (a 0 0)]) ⟨hx, hb, hml, hown, hts⟩ (c_Wi_fromOf l D (a 4) (k 4) _ τ.2.2.2.1 x3 q5 e5) (cwV 1 hts (gV mw_359 mw_360 mw_361 mw_31 mw_362) rfl rfl rfl hd_Wi_fromOf ⟨Nat.le_of_ble_eq_true rfl, Nat.le_of_ble_eq_true rfl⟩) (kp_V (ci := 4) (q := (R_Wi, F_Wi, 6)) (q0 := 0) hK4 (sP_Br_Wi (σ := τ) hP) (hDt4 _) rfl rfl) rfl rfl hl.1 rfl (lv_room (Nat.le_of_ble_eq_true rfl)) d_Br_serveWishes_45 ⟨Nat.zero_le _, Nat.zero_le _⟩) hS hA hP (fun H locs hP hS => ?_)
          refine lv_aload_n hx hb d_Br_serveWishes_48 rfl (lv_at hl 0 rfl) ?_
          refine va_get (D := D) (ci := 5) (v := .ref (a 4 0)) (C := R_Br) (T := F_Br) (N := 6) hx hb hts i_uBr hown hK hP 0 rfl rfl 3 (by decide) (hts _ mw_163) (fun _ h9 => h9) rfl d_Br_serveWishes_49 ?_
          refine lv_iload_n hx hb d_Br_serveWishes_52 rfl (lv_at hl 3 rfl) ?_
          obtain ⟨q6, e6, hk⟩ := ob_s hk
          refine kc_R (va_runV (As := [.int x3]) (rest := [.int q5, .int p1, .int q4, .ref (a 0 0)]) ⟨hx, hb, hml, hown, hts⟩ (c_Wi_toOf l D (a 4) (k 4) _ τ.2.2.2.1 x3 q6 e6) (cwV 1 hts (gV mw_363 mw_364 mw_365 mw_31 mw_366) rfl rfl rfl hd_Wi_toOf ⟨Nat.le_of_ble_eq_true rfl, Nat.le_of_ble_eq_true rfl⟩) (kp_V (ci := 4) (q := (R_Wi, F_Wi, 6)) (q0 := 0) hK4 (sP_Br_Wi (σ := τ) hP) (hDt4 _) rfl rfl) rfl rfl hl.1 rfl (lv_room (Nat.le_of_ble_eq_true rfl)) d_Br_serveWishes_53 ⟨Nat.zero_le _, Nat.zero_le _⟩) hS hA hP (fun H locs hP hS => ?_)
          obtain ⟨q7, e7, hk⟩ := ob_s hk
          refine kc_M (wF := wl_Br a k q7.2) (va_runV (As := [.int q4, .int p1, .int q5, .int q6]) (rest := []) ⟨hx, hb, hml, hown, hts⟩ (c_Br_tryBooking l D a k _ τ q4 p1 q5 q6 q7 e7) (cwV 4 hts (gV mw_233 mw_235 mw_0 mw_27 mw_236) rfl rfl rfl hd_Br_tryBooking ⟨Nat.le_of_ble_eq_true rfl, Nat.le_of_ble_eq_true rfl⟩) (kp_V (ci := 5) (q := (R_Br, F_Br, 6)) (q0 := 0) hK hP (hDt _) rfl rfl) rfl rfl hl.1 rfl (lv_room (Nat.le_of_ble_eq_true rfl)) d_Br_serveWishes_56 ⟨Nat.zero_le _, Nat.zero_le _⟩) hS (hDw _) hA (fun _ _ h _ => h) (fun H locs hP hS => ?_)
          refine lv_if_le (tgt := 76) hx hb d_Br_serveWishes_59 (by decide) (fun c8 => ?_) (fun c8 => ?_)
          · have hk := br_p c8 hk
            refine lv_iinc (v := (x3 + 1)) (lv' := [(3, .int (x3 + 1)), (0, .ref (a 0 0)), (1, .int p1), (2, .int x2), (4, .int x4)]) hx hb d_Br_serveWishes_76 hl (k := 3) rfl rfl (by decide) rfl (fun ls hl => ?_)
            refine lv_iinc (v := (x4 + (-1))) (lv' := [(4, .int (x4 + (-1))), (3, .int (x3 + 1)), (0, .ref (a 0 0)), (1, .int p1), (2, .int x2)]) hx hb d_Br_serveWishes_79 hl (k := 4) rfl rfl (by decide) rfl (fun ls hl => ?_)
            refine lv_goto (tgt := 13) hx hb d_Br_serveWishes_82 (by decide) ?_
            exact ih13 x2 (x3 + 1) (x4 + (-1)) q7.2 _ _ _ hP hS (lv_sub hl [2, 3, 4, 1, 0] rfl) hk
          · have hk := br_n c8 hk
            refine lv_aload_n hx hb d_Br_serveWishes_62 rfl (lv_at hl 0 rfl) ?_
            refine va_get (D := D) (ci := 5) (v := .ref (a 4 0)) (C := R_Br) (T := F_Br) (N := 6) hx hb hts i_uBr hown hK hP 0 rfl rfl 3 (by decide) (hts _ mw_163) (fun _ h9 => h9) rfl d_Br_serveWishes_63 ?_
            refine lv_iload_n hx hb d_Br_serveWishes_66 rfl (lv_at hl 3 rfl) ?_
            obtain ⟨q9, e9, hk⟩ := ob_s hk
            refine kc_Mv (wF := wl_Br a k (q7.2.1, q7.2.2.1, q7.2.2.2.1, q9, q7.2.2.2.2.2.1, q7.2.2.2.2.2.2)) (va_runV (As := [.int x3]) (rest := []) ⟨hx, hb, hml, hown, hts⟩ (c_Wi_removeAt l D (a 4) (k 4) _ q7.2.2.2.2.1 x3 q9 e9) (cwV 1 hts (gV mw_367 mw_368 mw_369 mw_31 mw_370) rfl rfl rfl hd_Wi_removeAt ⟨Nat.le_of_ble_eq_true rfl, Nat.le_of_ble_eq_true rfl⟩) (kp_V (ci := 4) (q := (R_Wi, F_Wi, 6)) (q0 := 0) hK4 (sP_Br_Wi (σ := q7.2) hP) (hDt4 _) rfl rfl) rfl rfl hl.1 rfl (lv_room (Nat.le_of_ble_eq_true rfl)) d_Br_serveWishes_67 ⟨Nat.zero_le _, Nat.zero_le _⟩) hS (hDw4 _) hA (fun _ _ h h9 => jP_Br_Wi q7.2 q9 hP (hDt _) h h9) (fun H locs hP hS => ?_)
            refine lv_iinc (v := (x2 + 1)) (lv' := [(2, .int (x2 + 1)), (0, .ref (a 0 0)), (1, .int p1), (3, .int x3), (4, .int x4)]) hx hb d_Br_serveWishes_70 hl (k := 2) rfl rfl (by decide) rfl (fun ls hl => ?_)
            refine lv_goto (tgt := 79) hx hb d_Br_serveWishes_73 (by decide) ?_
            refine lv_iinc (v := (x4 + (-1))) (lv' := [(4, .int (x4 + (-1))), (2, .int (x2 + 1)), (0, .ref (a 0 0)), (1, .int p1), (3, .int x3)]) hx hb d_Br_serveWishes_79 hl (k := 4) rfl rfl (by decide) rfl (fun ls hl => ?_)
            refine lv_goto (tgt := 13) hx hb d_Br_serveWishes_82 (by decide) ?_
            exact ih13 (x2 + 1) x3 (x4 + (-1)) (q7.2.1, q7.2.2.1, q7.2.2.2.1, q9, q7.2.2.2.2.2.1, q7.2.2.2.2.2.2) _ _ _ hP hS (lv_sub hl [2, 3, 1, 4, 0] rfl) hk
  refine lv_iconst (v := 0) hx hb d_Br_serveWishes_0 (by decide) ?_
  refine lv_istore_n (lv' := [(2, .int 0), (0, .ref (a 0 0)), (1, .int p1)]) hx hb d_Br_serveWishes_1 rfl hl (by decide) rfl (fun ls hl => ?_)
  refine lv_iconst (v := 0) hx hb d_Br_serveWishes_2 (by decide) ?_
  refine lv_istore_n (lv' := [(3, .int 0), (2, .int 0), (0, .ref (a 0 0)), (1, .int p1)]) hx hb d_Br_serveWishes_3 rfl hl (by decide) rfl (fun ls hl => ?_)
  refine lv_aload_n hx hb d_Br_serveWishes_4 rfl (lv_at hl 2 rfl) ?_
  refine va_get (D := D) (ci := 5) (v := .ref (a 4 0)) (C := R_Br) (T := F_Br) (N := 6) hx hb hts i_uBr hown hK hP 0 rfl rfl 3 (by decide) (hts _ mw_163) (fun _ h9 => h9) rfl d_Br_serveWishes_5 ?_
  obtain ⟨q10, e10, hk⟩ := ob_s hk
  refine kc_R (va_runV (As := []) (rest := []) ⟨hx, hb, hml, hown, hts⟩ (c_Wi_size l D (a 4) (k 4) _ σ.2.2.2.1 q10 e10) (cwV 0 hts (gV mw_347 mw_348 mw_349 mw_31 mw_350) rfl rfl rfl hd_Wi_size ⟨Nat.le_of_ble_eq_true rfl, Nat.le_of_ble_eq_true rfl⟩) (kp_V (ci := 4) (q := (R_Wi, F_Wi, 6)) (q0 := 0) hK4 (sP_Br_Wi (σ := σ) hP) (hDt4 _) rfl rfl) rfl rfl hl.1 rfl (lv_room (Nat.le_of_ble_eq_true rfl)) d_Br_serveWishes_8 ⟨Nat.zero_le _, Nat.zero_le _⟩) hS hA hP (fun H locs hP hS => ?_)
  refine lv_istore (lv' := [(4, .int q10), (3, .int 0), (2, .int 0), (0, .ref (a 0 0)), (1, .int p1)]) hx hb d_Br_serveWishes_11 hl (by decide) rfl (fun ls hl => ?_)
  exact L13 FU 0 0 q10 σ _ _ _ hP hS (lv_sub hl [3, 4, 2, 1, 0] rfl) hk
set_option maxHeartbeats 4000000 in
set_option maxRecDepth 100000 in
theorem c_Br_release (l : Launch) (D : va_G) (a : Nat → Nat → Nat) (k : Nat → Nat → ClassId) (sz : Nat) (σ : S_Br) (p1 p2 : Int32) (r0 : Int32 × S_Br) (hk : kf_Br_release σ p1 p2 = some r0) : Met l y_Br_release w_Br_release ({ frames := 5, cells := 0, slots := 0, locals := 123 }) (kp_P D cls (ty_Br k) (wl_Br a k σ) [.ref (a 0 0), .int p1, .int p2] sz) (kp_M D cls (wl_Br a k r0.2) (wl_Br a k σ) sz r0.1) 0 0 (va_A (wl_Br a k σ) sz) := by
  refine Met.ofW (cc := b_Br_release) (maxL := 5) (ret := (some .int)) (by decide) rfl ?_
  intro p e s m args below meth c s₁ B hml hv
  obtain ⟨rfl, hsz, hP, hK, hD0⟩ := hv
  have hx := B.exec
  have hb := B.bytes
  have hr := B.returns
  have hts : ∀ w ∈ lw_g, w.before _ s = true := fun w h => atoms_spec (ws := w_Br_release) B.pre w (List.mem_cons_of_mem _ h)
  have hown : s.vm.findClass R_Br = some m.cls := findClass_of_methodNamed B.named
  have hlocks := B.notSynchronized
  subst hsz
  have hA : ∀ q : Nat, s.heap.size ≤ q → (va_A (wl_Br a k σ) s.heap.size) q := fun _ h => Or.inr h
  have hDt : ∀ τ, va_D (fun _ => True) (wl_Br a k τ) := fun τ => kd_cg hD0 rfl
  have hDw : ∀ τ, va_D (va_A (wl_Br a k σ) s.heap.size) (wl_Br a k τ) := fun τ => kd_cg hD0.self rfl
  have hK1 := sK_Br_Ca hK
  have hDt1 : ∀ τ, va_D (fun _ => True) (wl_Ca (a 1) (k 1) τ) := fun τ => kd_cg (sD_Br_Ca hD0) rfl
  have hDw1 : ∀ τ, va_D (va_A (wl_Br a k σ) s.heap.size) (wl_Ca (a 1) (k 1) τ) := fun τ => kd_cg (sD_Br_Ca (hDw σ)) rfl
  have hK2 := sK_Br_Th hK
  have hDt2 : ∀ τ, va_D (fun _ => True) (wl_Th (a 2) (k 2) τ) := fun τ => kd_cg (sD_Br_Th hD0) rfl
  have hDw2 : ∀ τ, va_D (va_A (wl_Br a k σ) s.heap.size) (wl_Th (a 2) (k 2) τ) := fun τ => kd_cg (sD_Br_Th (hDw σ)) rfl
  have hK3 := sK_Br_Bk hK
  have hDt3 : ∀ τ, va_D (fun _ => True) (wl_Bk (a 3) (k 3) τ) := fun τ => kd_cg (sD_Br_Bk hD0) rfl
  have hDw3 : ∀ τ, va_D (va_A (wl_Br a k σ) s.heap.size) (wl_Bk (a 3) (k 3) τ) := fun τ => kd_cg (sD_Br_Bk (hDw σ)) rfl
  have hK4 := sK_Br_Wi hK
  have hDt4 : ∀ τ, va_D (fun _ => True) (wl_Wi (a 4) (k 4) τ) := fun τ => kd_cg (sD_Br_Wi hD0) rfl
  have hDw4 : ∀ τ, va_D (va_A (wl_Br a k σ) s.heap.size) (wl_Wi (a 4) (k 4) τ) := fun τ => kd_cg (sD_Br_Wi (hDw σ)) rfl
  have hK5 := sK_Br_Pe hK
  have hDt5 : ∀ τ, va_D (fun _ => True) (wl_Pe (a 5) (k 5) τ) := fun τ => kd_cg (sD_Br_Pe hD0) rfl
  have hDw5 : ∀ τ, va_D (va_A (wl_Br a k σ) s.heap.size) (wl_Pe (a 5) (k 5) τ) := fun τ => kd_cg (sD_Br_Pe (hDw σ)) rfl
  have hS : va_S (va_A (wl_Br a k σ) s.heap.size) s.heap s.heap [] := va_S.rf
  have hl := lv_entry ([.ref (a 0 0), .int p1, .int p2]) (n := 5) (Nat.le_of_ble_eq_true rfl)
  rw [lg_entry_eq]
  generalize (lg_sl ([.ref (a 0 0), .int p1, .int p2]) ++ List.replicate (5 - (lg_sl ([.ref (a 0 0), .int p1, .int p2])).length) Slot.unset).toArray = ls at hl ⊢
  have hl : lv_has ls 5 [(0, .ref (a 0 0)), (1, .int p1), (2, .int p2)] := hl
  unfold kf_Br_release at hk
  have L14 : ∀ (n14 : Nat) (x3 : Int32) (x4 : Int32) (τ : S_Br) (H : Heap) (locs : List Loc) (ls : Array Slot), va_P D cls (wl_Br a k τ) H → va_S (va_A (wl_Br a k σ) s.heap.size) s.heap H locs → lv_has ls 5 [(0, .ref (a 0 0)), (3, .int x3), (4, .int x4)] → kf_Br_release_14 p1 p2 n14 x3 x4 τ = some r0 → W p l e (headSpec w_Br_release ({ frames := 5, cells := 0, slots := 0, locals := 123 })).room s m [.ref (a 0 0), .int p1, .int p2].toArray below meth c H locs 0 0 (MQ below (kp_M D cls (wl_Br a k r0.2) (wl_Br a k σ) s.heap.size r0.1) [.ref (a 0 0), .int p1, .int p2].toArray s 0 0 (va_A (wl_Br a k σ) s.heap.size)) (F0 m 14 ls []) := by
    intro n14
    induction n14 with
    | zero =>
      intro x3 x4 τ H locs ls hP hS hl hk
      exact nomatch hk
    | succ n14 ih14 =>
      intro x3 x4 τ H locs ls hP hS hl hk
      rw [kf_Br_release_14_s] at hk
      refine lv_iload hx hb d_Br_release_14 (lv_at hl 2 rfl) ?_
      refine lv_aload_n hx hb d_Br_release_16 rfl (lv_at hl 0 rfl) ?_
      refine va_get (D := D) (ci := 5) (v := .ref (a 3 0)) (C := R_Br) (T := F_Br) (N := 6) hx hb hts i_uBr hown hK hP 0 rfl rfl 2 (by decide) (hts _ mw_162) (fun _ h9 => h9) rfl d_Br_release_17 ?_
      obtain ⟨q1, e1, hk⟩ := ob_s hk
      refine kc_R (va_runV (As := []) (rest := [.int x4]) ⟨hx, hb, hml, hown, hts⟩ (c_Bk_turnedSize l D (a 3) (k 3) _ τ.2.2.1 q1 e1) (cwV 0 hts (gV mw_335 mw_336 mw_337 mw_30 mw_338) rfl rfl rfl hd_Bk_turnedSize ⟨Nat.le_of_ble_eq_true rfl, Nat.le_of_ble_eq_true rfl⟩) (kp_V (ci := 0) (q := (R_Bk, F_Bk, 9)) (q0 := 0) hK3 (sP_Br_Bk (σ := τ) hP) (hDt3 _) rfl rfl) rfl rfl hl.1 rfl (lv_room (Nat.le_of_ble_eq_true rfl)) d_Br_release_20 ⟨Nat.zero_le _, Nat.zero_le _⟩) hS hA hP (fun H locs hP hS => ?_)
      refine lv_icmp_ge (tgt := 48) hx hb d_Br_release_23 (by decide) (fun c2 => ?_) (fun c2 => ?_)
      · have hk := br_p c2 hk
        refine lv_iload_n hx hb d_Br_release_48 rfl (lv_at hl 1 rfl) ?_
        exact kr_M (w := wl_Br a k) hx hb hr rfl hlocks hS hP hk d_Br_release_49
      · have hk := br_n c2 hk
        refine lv_iload_n hx hb d_Br_release_26 rfl (lv_at hl 1 rfl) ?_
        refine lv_aload_n hx hb d_Br_release_27 rfl (lv_at hl 0 rfl) ?_
        refine lv_aload_n hx hb d_Br_release_28 rfl (lv_at hl 0 rfl) ?_
        refine va_get (D := D) (ci := 5) (v := .ref (a 3 0)) (C := R_Br) (T := F_Br) (N := 6) hx hb hts i_uBr hown hK hP 0 rfl rfl 2 (by decide) (hts _ mw_162) (fun _ h9 => h9) rfl d_Br_release_29 ?_
        refine lv_iload hx hb d_Br_release_32 (lv_at hl 2 rfl) ?_
        obtain ⟨q3, e3, hk⟩ := ob_s hk
        refine kc_R (va_runV (As := [.int x4]) (rest := [.ref (a 0 0), .int x3]) ⟨hx, hb, hml, hown, hts⟩ (c_Bk_turnedThing l D (a 3) (k 3) _ τ.2.2.1 x4 q3 e3) (cwV 1 hts (gV mw_339 mw_340 mw_341 mw_30 mw_342) rfl rfl rfl hd_Bk_turnedThing ⟨Nat.le_of_ble_eq_true rfl, Nat.le_of_ble_eq_true rfl⟩) (kp_V (ci := 0) (q := (R_Bk, F_Bk, 9)) (q0 := 0) hK3 (sP_Br_Bk (σ := τ) hP) (hDt3 _) rfl rfl) rfl rfl hl.1 rfl (lv_room (Nat.le_of_ble_eq_true rfl)) d_Br_release_34 ⟨Nat.zero_le _, Nat.zero_le _⟩) hS hA hP (fun H locs hP hS => ?_)
        obtain ⟨q4, e4, hk⟩ := ob_s hk
        refine kc_M (wF := wl_Br a k q4.2) (va_runV (As := [.int q3]) (rest := [.int x3]) ⟨hx, hb, hml, hown, hts⟩ (c_Br_serveWishes l D a k _ τ q3 q4 e4) (cwV 1 hts (gV mw_343 mw_345 mw_4 mw_27 mw_346) rfl rfl rfl hd_Br_serveWishes ⟨Nat.le_of_ble_eq_true rfl, Nat.le_of_ble_eq_true rfl⟩) (kp_V (ci := 5) (q := (R_Br, F_Br, 6)) (q0 := 0) hK hP (hDt _) rfl rfl) rfl rfl hl.1 rfl (lv_room (Nat.le_of_ble_eq_true rfl)) d_Br_release_37 ⟨Nat.zero_le _, Nat.zero_le _⟩) hS (hDw _) hA (fun _ _ h _ => h) (fun H locs hP hS => ?_)
        refine lv_iadd hx hb d_Br_release_40 ?_
        refine lv_istore_n (lv' := [(3, .int (x3 + q4.1)), (0, .ref (a 0 0)), (4, .int x4)]) hx hb d_Br_release_41 rfl hl (by decide) rfl (fun ls hl => ?_)
        refine lv_iinc (v := (x4 + 1)) (lv' := [(4, .int (x4 + 1)), (3, .int (x3 + q4.1)), (0, .ref (a 0 0))]) hx hb d_Br_release_42 hl (k := 2) rfl rfl (by decide) rfl (fun ls hl => ?_)
        refine lv_goto (tgt := 14) hx hb d_Br_release_45 (by decide) ?_
        exact ih14 (x3 + q4.1) (x4 + 1) q4.2 _ _ _ hP hS (lv_sub hl [2, 1, 0] rfl) hk
  refine lv_aload_n hx hb d_Br_release_0 rfl (lv_at hl 0 rfl) ?_
  refine va_get (D := D) (ci := 5) (v := .ref (a 3 0)) (C := R_Br) (T := F_Br) (N := 6) hx hb hts i_uBr hown hK hP 0 rfl rfl 2 (by decide) (hts _ mw_162) (fun _ h9 => h9) rfl d_Br_release_1 ?_
  refine lv_iload_n hx hb d_Br_release_4 rfl (lv_at hl 1 rfl) ?_
  refine lv_iload_n hx hb d_Br_release_5 rfl (lv_at hl 2 rfl) ?_
  obtain ⟨q5, e5, hk⟩ := ob_s hk
  refine kc_Mv (wF := wl_Br a k (σ.1, σ.2.1, q5, σ.2.2.2.1, σ.2.2.2.2.1, σ.2.2.2.2.2)) (va_runV (As := [.int p1, .int p2]) (rest := []) ⟨hx, hb, hml, hown, hts⟩ (c_Bk_turn l D (a 3) (k 3) _ σ.2.2.1 p1 p2 q5 e5) (cwV 2 hts (gV mw_327 mw_328 mw_329 mw_30 mw_330) rfl rfl rfl hd_Bk_turn ⟨Nat.le_of_ble_eq_true rfl, Nat.le_of_ble_eq_true rfl⟩) (kp_V (ci := 0) (q := (R_Bk, F_Bk, 9)) (q0 := 0) hK3 (sP_Br_Bk (σ := σ) hP) (hDt3 _) rfl rfl) rfl rfl hl.1 rfl (lv_room (Nat.le_of_ble_eq_true rfl)) d_Br_release_6 ⟨Nat.zero_le _, Nat.zero_le _⟩) hS (hDw3 _) hA (fun _ _ h h9 => jP_Br_Bk σ q5 hP (hDt _) h h9) (fun H locs hP hS => ?_)
  refine lv_iconst (v := 0) hx hb d_Br_release_9 (by decide) ?_
  refine lv_istore_n (lv' := [(3, .int 0), (0, .ref (a 0 0)), (1, .int p1), (2, .int p2)]) hx hb d_Br_release_10 rfl hl (by decide) rfl (fun ls hl => ?_)
  refine lv_iconst (v := 0) hx hb d_Br_release_11 (by decide) ?_
  refine lv_istore (lv' := [(4, .int 0), (3, .int 0), (0, .ref (a 0 0)), (1, .int p1), (2, .int p2)]) hx hb d_Br_release_12 hl (by decide) rfl (fun ls hl => ?_)
  exact L14 FU 0 0 (σ.1, σ.2.1, q5, σ.2.2.2.1, σ.2.2.2.2.1, σ.2.2.2.2.2) _ _ _ hP hS (lv_sub hl [2, 1, 0] rfl) hk
set_option maxHeartbeats 4000000 in
set_option maxRecDepth 100000 in
theorem c_Br_cancel (l : Launch) (D : va_G) (a : Nat → Nat → Nat) (k : Nat → Nat → ClassId) (sz : Nat) (σ : S_Br) (p1 p2 : Int32) (r0 : Int32 × S_Br) (hk : kf_Br_cancel σ p1 p2 = some r0) : Met l y_Br_cancel w_Br_cancel ({ frames := 6, cells := 0, slots := 0, locals := 147 }) (kp_P D cls (ty_Br k) (wl_Br a k σ) [.ref (a 0 0), .int p1, .int p2] sz) (kp_M D cls (wl_Br a k r0.2) (wl_Br a k σ) sz r0.1) 0 0 (va_A (wl_Br a k σ) sz) := by
  refine Met.ofW (cc := b_Br_cancel) (maxL := 3) (ret := (some .int)) (by decide) rfl ?_
  intro p e s m args below meth c s₁ B hml hv
  obtain ⟨rfl, hsz, hP, hK, hD0⟩ := hv
  have hx := B.exec
  have hb := B.bytes
  have hr := B.returns
  have hts : ∀ w ∈ lw_g, w.before _ s = true := fun w h => atoms_spec (ws := w_Br_cancel) B.pre w (List.mem_cons_of_mem _ h)
  have hown : s.vm.findClass R_Br = some m.cls := findClass_of_methodNamed B.named
  have hlocks := B.notSynchronized
  subst hsz
  have hA : ∀ q : Nat, s.heap.size ≤ q → (va_A (wl_Br a k σ) s.heap.size) q := fun _ h => Or.inr h
  have hDt : ∀ τ, va_D (fun _ => True) (wl_Br a k τ) := fun τ => kd_cg hD0 rfl
  have hDw : ∀ τ, va_D (va_A (wl_Br a k σ) s.heap.size) (wl_Br a k τ) := fun τ => kd_cg hD0.self rfl
  have hK1 := sK_Br_Ca hK
  have hDt1 : ∀ τ, va_D (fun _ => True) (wl_Ca (a 1) (k 1) τ) := fun τ => kd_cg (sD_Br_Ca hD0) rfl
  have hDw1 : ∀ τ, va_D (va_A (wl_Br a k σ) s.heap.size) (wl_Ca (a 1) (k 1) τ) := fun τ => kd_cg (sD_Br_Ca (hDw σ)) rfl
  have hK2 := sK_Br_Th hK
  have hDt2 : ∀ τ, va_D (fun _ => True) (wl_Th (a 2) (k 2) τ) := fun τ => kd_cg (sD_Br_Th hD0) rfl
  have hDw2 : ∀ τ, va_D (va_A (wl_Br a k σ) s.heap.size) (wl_Th (a 2) (k 2) τ) := fun τ => kd_cg (sD_Br_Th (hDw σ)) rfl
  have hK3 := sK_Br_Bk hK
  have hDt3 : ∀ τ, va_D (fun _ => True) (wl_Bk (a 3) (k 3) τ) := fun τ => kd_cg (sD_Br_Bk hD0) rfl
  have hDw3 : ∀ τ, va_D (va_A (wl_Br a k σ) s.heap.size) (wl_Bk (a 3) (k 3) τ) := fun τ => kd_cg (sD_Br_Bk (hDw σ)) rfl
  have hK4 := sK_Br_Wi hK
  have hDt4 : ∀ τ, va_D (fun _ => True) (wl_Wi (a 4) (k 4) τ) := fun τ => kd_cg (sD_Br_Wi hD0) rfl
  have hDw4 : ∀ τ, va_D (va_A (wl_Br a k σ) s.heap.size) (wl_Wi (a 4) (k 4) τ) := fun τ => kd_cg (sD_Br_Wi (hDw σ)) rfl
  have hK5 := sK_Br_Pe hK
  have hDt5 : ∀ τ, va_D (fun _ => True) (wl_Pe (a 5) (k 5) τ) := fun τ => kd_cg (sD_Br_Pe hD0) rfl
  have hDw5 : ∀ τ, va_D (va_A (wl_Br a k σ) s.heap.size) (wl_Pe (a 5) (k 5) τ) := fun τ => kd_cg (sD_Br_Pe (hDw σ)) rfl
  have hS : va_S (va_A (wl_Br a k σ) s.heap.size) s.heap s.heap [] := va_S.rf
  have hl := lv_entry ([.ref (a 0 0), .int p1, .int p2]) (n := 3) (Nat.le_of_ble_eq_true rfl)
  rw [lg_entry_eq]
  generalize (lg_sl ([.ref (a 0 0), .int p1, .int p2]) ++ List.replicate (3 - (lg_sl ([.ref (a 0 0), .int p1, .int p2])).length) Slot.unset).toArray = ls at hl ⊢
  have hl : lv_has ls 3 [(0, .ref (a 0 0)), (1, .int p1), (2, .int p2)] := hl
  unfold kf_Br_cancel at hk
  refine lv_aload_n hx hb d_Br_cancel_0 rfl (lv_at hl 0 rfl) ?_
  refine va_get (D := D) (ci := 5) (v := .ref (a 3 0)) (C := R_Br) (T := F_Br) (N := 6) hx hb hts i_uBr hown hK hP 0 rfl rfl 2 (by decide) (hts _ mw_162) (fun _ h9 => h9) rfl d_Br_cancel_1 ?_
  refine lv_iload_n hx hb d_Br_cancel_4 rfl (lv_at hl 1 rfl) ?_
  refine lv_iload_n hx hb d_Br_cancel_5 rfl (lv_at hl 2 rfl) ?_
  obtain ⟨q1, e1, hk⟩ := ob_s hk
  refine kc_R (va_runV (As := [.int p1, .int p2]) (rest := []) ⟨hx, hb, hml, hown, hts⟩ (c_Bk_isBookedBy l D (a 3) (k 3) _ σ.2.2.1 p1 p2 q1 e1) (cwV 2 hts (gV mw_318 mw_319 mw_320 mw_30 mw_321) rfl rfl rfl hd_Bk_isBookedBy ⟨Nat.le_of_ble_eq_true rfl, Nat.le_of_ble_eq_true rfl⟩) (kp_V (ci := 0) (q := (R_Bk, F_Bk, 9)) (q0 := 0) hK3 (sP_Br_Bk (σ := σ) hP) (hDt3 _) rfl rfl) rfl rfl hl.1 rfl (lv_room (Nat.le_of_ble_eq_true rfl)) d_Br_cancel_6 ⟨Nat.zero_le _, Nat.zero_le _⟩) hS hA hP (fun H locs hP hS => ?_)
  refine lv_if_ne (tgt := 14) hx hb d_Br_cancel_9 (by decide) (fun c2 => ?_) (fun c2 => ?_)
  · have hk := br_n c2 hk
    refine lv_aload_n hx hb d_Br_cancel_14 rfl (lv_at hl 0 rfl) ?_
    refine va_get (D := D) (ci := 5) (v := .int σ.2.2.2.2.2) (C := R_Br) (T := F_Br) (N := 6) hx hb hts i_uBr hown hK hP 0 rfl rfl 5 (by decide) (hts _ mw_165) (fun _ h9 => h9) rfl d_Br_cancel_15 ?_
    refine lv_aload_n hx hb d_Br_cancel_18 rfl (lv_at hl 0 rfl) ?_
    refine va_get (D := D) (ci := 5) (v := .ref (a 3 0)) (C := R_Br) (T := F_Br) (N := 6) hx hb hts i_uBr hown hK hP 0 rfl rfl 2 (by decide) (hts _ mw_162) (fun _ h9 => h9) rfl d_Br_cancel_19 ?_
    refine lv_iload_n hx hb d_Br_cancel_22 rfl (lv_at hl 1 rfl) ?_
    obtain ⟨q3, e3, hk⟩ := ob_s hk
    refine kc_R (va_runV (As := [.int p1]) (rest := [.int σ.2.2.2.2.2]) ⟨hx, hb, hml, hown, hts⟩ (c_Bk_fromOf l D (a 3) (k 3) _ σ.2.2.1 p1 q3 e3) (cwV 1 hts (gV mw_306 mw_307 mw_308 mw_30 mw_309) rfl rfl rfl hd_Bk_fromOf ⟨Nat.le_of_ble_eq_true rfl, Nat.le_of_ble_eq_true rfl⟩) (kp_V (ci := 0) (q := (R_Bk, F_Bk, 9)) (q0 := 0) hK3 (sP_Br_Bk (σ := σ) hP) (hDt3 _) rfl rfl) rfl rfl hl.1 rfl (lv_room (Nat.le_of_ble_eq_true rfl)) d_Br_cancel_23 ⟨Nat.zero_le _, Nat.zero_le _⟩) hS hA hP (fun H locs hP hS => ?_)
    refine lv_icmp_lt (tgt := 31) hx hb d_Br_cancel_26 (by decide) (fun c4 => ?_) (fun c4 => ?_)
    · have hk := br_p c4 hk
      refine lv_iconst (v := 1) hx hb d_Br_cancel_31 (by decide) ?_
      refine lv_aload_n hx hb d_Br_cancel_32 rfl (lv_at hl 0 rfl) ?_
      refine lv_iload_n hx hb d_Br_cancel_33 rfl (lv_at hl 1 rfl) ?_
      refine lv_iconst (v := 3) hx hb d_Br_cancel_34 (by decide) ?_
      obtain ⟨q5, e5, hk⟩ := ob_s hk
      refine kc_M (wF := wl_Br a k q5.2) (va_runV (As := [.int p1, .int 3]) (rest := [.int 1]) ⟨hx, hb, hml, hown, hts⟩ (c_Br_release l D a k _ σ p1 3 q5 e5) (cwV 2 hts (gV mw_323 mw_325 mw_2 mw_27 mw_326) rfl rfl rfl hd_Br_release ⟨Nat.le_of_ble_eq_true rfl, Nat.le_of_ble_eq_true rfl⟩) (kp_V (ci := 5) (q := (R_Br, F_Br, 6)) (q0 := 0) hK hP (hDt _) rfl rfl) rfl rfl hl.1 rfl (lv_room (Nat.le_of_ble_eq_true rfl)) d_Br_cancel_35 ⟨Nat.zero_le _, Nat.zero_le _⟩) hS (hDw _) hA (fun _ _ h _ => h) (fun H locs hP hS => ?_)
      refine lv_iadd hx hb d_Br_cancel_38 ?_
      exact kr_M (w := wl_Br a k) hx hb hr rfl hlocks hS hP hk d_Br_cancel_39
    · have hk := br_n c4 hk
      refine lv_iconst (v := -1) hx hb d_Br_cancel_29 (by decide) ?_
      exact kr_M (w := wl_Br a k) hx hb hr rfl hlocks hS hP hk d_Br_cancel_30
  · have hk := br_p c2 hk
    refine lv_iconst (v := 0) hx hb d_Br_cancel_12 (by decide) ?_
    exact kr_M (w := wl_Br a k) hx hb hr rfl hlocks hS hP hk d_Br_cancel_13
set_option maxHeartbeats 4000000 in
set_option maxRecDepth 100000 in
theorem c_Br_lastCheckIn (l : Launch) (D : va_G) (a : Nat → Nat → Nat) (k : Nat → Nat → ClassId) (sz : Nat) (σ : S_Br) (p1 : Int32) (r0 : Int32) (hk : kf_Br_lastCheckIn σ p1 = some r0) : Met l y_Br_lastCheckIn w_Br_lastCheckIn ({ frames := 1, cells := 0, slots := 0, locals := 21 }) (kp_P D cls (ty_Br k) (wl_Br a k σ) [.ref (a 0 0), .int p1] sz) (kp_R sz r0) 0 0 (va_A [] sz) := by
  refine Met.ofW (cc := b_Br_lastCheckIn) (maxL := 2) (ret := (some .int)) (by decide) rfl ?_
  intro p e s m args below meth c s₁ B hml hv
  obtain ⟨rfl, hsz, hP, hK, hD0⟩ := hv
  have hx := B.exec
  have hb := B.bytes
  have hr := B.returns
  have hts : ∀ w ∈ lw_g, w.before _ s = true := fun w h => atoms_spec (ws := w_Br_lastCheckIn) B.pre w (List.mem_cons_of_mem _ h)
  have hown : s.vm.findClass R_Br = some m.cls := findClass_of_methodNamed B.named
  have hlocks := B.notSynchronized
  subst hsz
  have hA : ∀ q : Nat, s.heap.size ≤ q → (va_A ([]) s.heap.size) q := fun _ h => Or.inr h
  have hDt : ∀ τ, va_D (fun _ => True) (wl_Br a k τ) := fun τ => kd_cg hD0 rfl
  have hK1 := sK_Br_Ca hK
  have hDt1 : ∀ τ, va_D (fun _ => True) (wl_Ca (a 1) (k 1) τ) := fun τ => kd_cg (sD_Br_Ca hD0) rfl
  have hK2 := sK_Br_Th hK
  have hDt2 : ∀ τ, va_D (fun _ => True) (wl_Th (a 2) (k 2) τ) := fun τ => kd_cg (sD_Br_Th hD0) rfl
  have hK3 := sK_Br_Bk hK
  have hDt3 : ∀ τ, va_D (fun _ => True) (wl_Bk (a 3) (k 3) τ) := fun τ => kd_cg (sD_Br_Bk hD0) rfl
  have hK4 := sK_Br_Wi hK
  have hDt4 : ∀ τ, va_D (fun _ => True) (wl_Wi (a 4) (k 4) τ) := fun τ => kd_cg (sD_Br_Wi hD0) rfl
  have hK5 := sK_Br_Pe hK
  have hDt5 : ∀ τ, va_D (fun _ => True) (wl_Pe (a 5) (k 5) τ) := fun τ => kd_cg (sD_Br_Pe hD0) rfl
  have hS : va_S (va_A ([]) s.heap.size) s.heap s.heap [] := va_S.rf
  have hl := lv_entry ([.ref (a 0 0), .int p1]) (n := 2) (Nat.le_of_ble_eq_true rfl)
  rw [lg_entry_eq]
  generalize (lg_sl ([.ref (a 0 0), .int p1]) ++ List.replicate (2 - (lg_sl ([.ref (a 0 0), .int p1])).length) Slot.unset).toArray = ls at hl ⊢
  have hl : lv_has ls 2 [(0, .ref (a 0 0)), (1, .int p1)] := hl
  unfold kf_Br_lastCheckIn at hk
  refine lv_aload_n hx hb d_Br_lastCheckIn_0 rfl (lv_at hl 0 rfl) ?_
  refine va_get (D := D) (ci := 5) (v := .ref (a 3 0)) (C := R_Br) (T := F_Br) (N := 6) hx hb hts i_uBr hown hK hP 0 rfl rfl 2 (by decide) (hts _ mw_162) (fun _ h9 => h9) rfl d_Br_lastCheckIn_1 ?_
  refine lv_iload_n hx hb d_Br_lastCheckIn_4 rfl (lv_at hl 1 rfl) ?_
  obtain ⟨q1, e1, hk⟩ := ob_s hk
  refine kc_R (va_runV (As := [.int p1]) (rest := []) ⟨hx, hb, hml, hown, hts⟩ (c_Bk_fromOf l D (a 3) (k 3) _ σ.2.2.1 p1 q1 e1) (cwV 1 hts (gV mw_306 mw_307 mw_308 mw_30 mw_309) rfl rfl rfl hd_Bk_fromOf ⟨Nat.le_of_ble_eq_true rfl, Nat.le_of_ble_eq_true rfl⟩) (kp_V (ci := 0) (q := (R_Bk, F_Bk, 9)) (q0 := 0) hK3 (sP_Br_Bk (σ := σ) hP) (hDt3 _) rfl rfl) rfl rfl hl.1 rfl (lv_room (Nat.le_of_ble_eq_true rfl)) d_Br_lastCheckIn_5 ⟨Nat.zero_le _, Nat.zero_le _⟩) hS hA hP (fun H locs hP hS => ?_)
  refine lv_aload_n hx hb d_Br_lastCheckIn_8 rfl (lv_at hl 0 rfl) ?_
  refine va_get (D := D) (ci := 5) (v := .ref (a 2 0)) (C := R_Br) (T := F_Br) (N := 6) hx hb hts i_uBr hown hK hP 0 rfl rfl 1 (by decide) (hts _ mw_161) (fun _ h9 => h9) rfl d_Br_lastCheckIn_9 ?_
  refine lv_aload_n hx hb d_Br_lastCheckIn_12 rfl (lv_at hl 0 rfl) ?_
  refine va_get (D := D) (ci := 5) (v := .ref (a 3 0)) (C := R_Br) (T := F_Br) (N := 6) hx hb hts i_uBr hown hK hP 0 rfl rfl 2 (by decide) (hts _ mw_162) (fun _ h9 => h9) rfl d_Br_lastCheckIn_13 ?_
  refine lv_iload_n hx hb d_Br_lastCheckIn_16 rfl (lv_at hl 1 rfl) ?_
  obtain ⟨q2, e2, hk⟩ := ob_s hk
  refine kc_R (va_runV (As := [.int p1]) (rest := [.ref (a 2 0), .int q1]) ⟨hx, hb, hml, hown, hts⟩ (c_Bk_thingOf l D (a 3) (k 3) _ σ.2.2.1 p1 q2 e2) (cwV 1 hts (gV mw_302 mw_303 mw_304 mw_30 mw_305) rfl rfl rfl hd_Bk_thingOf ⟨Nat.le_of_ble_eq_true rfl, Nat.le_of_ble_eq_true rfl⟩) (kp_V (ci := 0) (q := (R_Bk, F_Bk, 9)) (q0 := 0) hK3 (sP_Br_Bk (σ := σ) hP) (hDt3 _) rfl rfl) rfl rfl hl.1 rfl (lv_room (Nat.le_of_ble_eq_true rfl)) d_Br_lastCheckIn_17 ⟨Nat.zero_le _, Nat.zero_le _⟩) hS hA hP (fun H locs hP hS => ?_)
  obtain ⟨q3, e3, hk⟩ := ob_s hk
  refine kc_R (va_runV (As := [.int q2]) (rest := [.int q1]) ⟨hx, hb, hml, hown, hts⟩ (c_Th_graceOf l D (a 2) (k 2) _ σ.2.1 q2 q3 e3) (cwV 1 hts (gV mw_383 mw_384 mw_385 mw_29 mw_386) rfl rfl rfl hd_Th_graceOf ⟨Nat.le_of_ble_eq_true rfl, Nat.le_of_ble_eq_true rfl⟩) (kp_V (ci := 3) (q := (R_Th, F_Th, 6)) (q0 := 0) hK2 (sP_Br_Th (σ := σ) hP) (hDt2 _) rfl rfl) rfl rfl hl.1 rfl (lv_room (Nat.le_of_ble_eq_true rfl)) d_Br_lastCheckIn_20 ⟨Nat.zero_le _, Nat.zero_le _⟩) hS hA hP (fun H locs hP hS => ?_)
  refine lv_iadd hx hb d_Br_lastCheckIn_23 ?_
  exact kr_R hx hb hr rfl hlocks hS hk d_Br_lastCheckIn_24
set_option maxHeartbeats 4000000 in
set_option maxRecDepth 100000 in
theorem c_Br_checkIn (l : Launch) (D : va_G) (a : Nat → Nat → Nat) (k : Nat → Nat → ClassId) (sz : Nat) (σ : S_Br) (p1 p2 : Int32) (r0 : Int32 × S_Br) (hk : kf_Br_checkIn σ p1 p2 = some r0) : Met l y_Br_checkIn w_Br_checkIn ({ frames := 2, cells := 0, slots := 0, locals := 45 }) (kp_P D cls (ty_Br k) (wl_Br a k σ) [.ref (a 0 0), .int p1, .int p2] sz) (kp_M D cls (wl_Br a k r0.2) (wl_Br a k σ) sz r0.1) 0 0 (va_A (wl_Br a k σ) sz) := by
  refine Met.ofW (cc := b_Br_checkIn) (maxL := 4) (ret := (some .int)) (by decide) rfl ?_
  intro p e s m args below meth c s₁ B hml hv
  obtain ⟨rfl, hsz, hP, hK, hD0⟩ := hv
  have hx := B.exec
  have hb := B.bytes
  have hr := B.returns
  have hts : ∀ w ∈ lw_g, w.before _ s = true := fun w h => atoms_spec (ws := w_Br_checkIn) B.pre w (List.mem_cons_of_mem _ h)
  have hown : s.vm.findClass R_Br = some m.cls := findClass_of_methodNamed B.named
  have hlocks := B.notSynchronized
  subst hsz
  have hA : ∀ q : Nat, s.heap.size ≤ q → (va_A (wl_Br a k σ) s.heap.size) q := fun _ h => Or.inr h
  have hDt : ∀ τ, va_D (fun _ => True) (wl_Br a k τ) := fun τ => kd_cg hD0 rfl
  have hDw : ∀ τ, va_D (va_A (wl_Br a k σ) s.heap.size) (wl_Br a k τ) := fun τ => kd_cg hD0.self rfl
  have hK1 := sK_Br_Ca hK
  have hDt1 : ∀ τ, va_D (fun _ => True) (wl_Ca (a 1) (k 1) τ) := fun τ => kd_cg (sD_Br_Ca hD0) rfl
  have hDw1 : ∀ τ, va_D (va_A (wl_Br a k σ) s.heap.size) (wl_Ca (a 1) (k 1) τ) := fun τ => kd_cg (sD_Br_Ca (hDw σ)) rfl
  have hK2 := sK_Br_Th hK
  have hDt2 : ∀ τ, va_D (fun _ => True) (wl_Th (a 2) (k 2) τ) := fun τ => kd_cg (sD_Br_Th hD0) rfl
  have hDw2 : ∀ τ, va_D (va_A (wl_Br a k σ) s.heap.size) (wl_Th (a 2) (k 2) τ) := fun τ => kd_cg (sD_Br_Th (hDw σ)) rfl
  have hK3 := sK_Br_Bk hK
  have hDt3 : ∀ τ, va_D (fun _ => True) (wl_Bk (a 3) (k 3) τ) := fun τ => kd_cg (sD_Br_Bk hD0) rfl
  have hDw3 : ∀ τ, va_D (va_A (wl_Br a k σ) s.heap.size) (wl_Bk (a 3) (k 3) τ) := fun τ => kd_cg (sD_Br_Bk (hDw σ)) rfl
  have hK4 := sK_Br_Wi hK
  have hDt4 : ∀ τ, va_D (fun _ => True) (wl_Wi (a 4) (k 4) τ) := fun τ => kd_cg (sD_Br_Wi hD0) rfl
  have hDw4 : ∀ τ, va_D (va_A (wl_Br a k σ) s.heap.size) (wl_Wi (a 4) (k 4) τ) := fun τ => kd_cg (sD_Br_Wi (hDw σ)) rfl
  have hK5 := sK_Br_Pe hK
  have hDt5 : ∀ τ, va_D (fun _ => True) (wl_Pe (a 5) (k 5) τ) := fun τ => kd_cg (sD_Br_Pe hD0) rfl
  have hDw5 : ∀ τ, va_D (va_A (wl_Br a k σ) s.heap.size) (wl_Pe (a 5) (k 5) τ) := fun τ => kd_cg (sD_Br_Pe (hDw σ)) rfl
  have hS : va_S (va_A (wl_Br a k σ) s.heap.size) s.heap s.heap [] := va_S.rf
  have hl := lv_entry ([.ref (a 0 0), .int p1, .int p2]) (n := 4) (Nat.le_of_ble_eq_true rfl)
  rw [lg_entry_eq]
  generalize (lg_sl ([.ref (a 0 0), .int p1, .int p2]) ++ List.replicate (4 - (lg_sl ([.ref (a 0 0), .int p1, .int p2])).length) Slot.unset).toArray = ls at hl ⊢
  have hl : lv_has ls 4 [(0, .ref (a 0 0)), (1, .int p1), (2, .int p2)] := hl
  unfold kf_Br_checkIn at hk
  refine lv_aload_n hx hb d_Br_checkIn_0 rfl (lv_at hl 0 rfl) ?_
  refine va_get (D := D) (ci := 5) (v := .ref (a 3 0)) (C := R_Br) (T := F_Br) (N := 6) hx hb hts i_uBr hown hK hP 0 rfl rfl 2 (by decide) (hts _ mw_162) (fun _ h9 => h9) rfl d_Br_checkIn_1 ?_
  refine lv_iload_n hx hb d_Br_checkIn_4 rfl (lv_at hl 1 rfl) ?_
  refine lv_iload_n hx hb d_Br_checkIn_5 rfl (lv_at hl 2 rfl) ?_
  obtain ⟨q1, e1, hk⟩ := ob_s hk
  refine kc_R (va_runV (As := [.int p1, .int p2]) (rest := []) ⟨hx, hb, hml, hown, hts⟩ (c_Bk_isBookedBy l D (a 3) (k 3) _ σ.2.2.1 p1 p2 q1 e1) (cwV 2 hts (gV mw_318 mw_319 mw_320 mw_30 mw_321) rfl rfl rfl hd_Bk_isBookedBy ⟨Nat.le_of_ble_eq_true rfl, Nat.le_of_ble_eq_true rfl⟩) (kp_V (ci := 0) (q := (R_Bk, F_Bk, 9)) (q0 := 0) hK3 (sP_Br_Bk (σ := σ) hP) (hDt3 _) rfl rfl) rfl rfl hl.1 rfl (lv_room (Nat.le_of_ble_eq_true rfl)) d_Br_checkIn_6 ⟨Nat.zero_le _, Nat.zero_le _⟩) hS hA hP (fun H locs hP hS => ?_)
  refine lv_if_ne (tgt := 14) hx hb d_Br_checkIn_9 (by decide) (fun c2 => ?_) (fun c2 => ?_)
  · have hk := br_n c2 hk
    refine lv_aload_n hx hb d_Br_checkIn_14 rfl (lv_at hl 0 rfl) ?_
    refine va_get (D := D) (ci := 5) (v := .ref (a 3 0)) (C := R_Br) (T := F_Br) (N := 6) hx hb hts i_uBr hown hK hP 0 rfl rfl 2 (by decide) (hts _ mw_162) (fun _ h9 => h9) rfl d_Br_checkIn_15 ?_
    refine lv_iload_n hx hb d_Br_checkIn_18 rfl (lv_at hl 1 rfl) ?_
    obtain ⟨q3, e3, hk⟩ := ob_s hk
    refine kc_R (va_runV (As := [.int p1]) (rest := []) ⟨hx, hb, hml, hown, hts⟩ (c_Bk_fromOf l D (a 3) (k 3) _ σ.2.2.1 p1 q3 e3) (cwV 1 hts (gV mw_306 mw_307 mw_308 mw_30 mw_309) rfl rfl rfl hd_Bk_fromOf ⟨Nat.le_of_ble_eq_true rfl, Nat.le_of_ble_eq_true rfl⟩) (kp_V (ci := 0) (q := (R_Bk, F_Bk, 9)) (q0 := 0) hK3 (sP_Br_Bk (σ := σ) hP) (hDt3 _) rfl rfl) rfl rfl hl.1 rfl (lv_room (Nat.le_of_ble_eq_true rfl)) d_Br_checkIn_19 ⟨Nat.zero_le _, Nat.zero_le _⟩) hS hA hP (fun H locs hP hS => ?_)
    refine lv_bipush (v := 15) hx hb d_Br_checkIn_22 (by decide) ?_
    refine lv_isub hx hb d_Br_checkIn_24 ?_
    refine lv_istore_n (lv' := [(3, .int (q3 - 15)), (0, .ref (a 0 0)), (1, .int p1), (2, .int p2)]) hx hb d_Br_checkIn_25 rfl hl (by decide) rfl (fun ls hl => ?_)
    refine lv_aload_n hx hb d_Br_checkIn_26 rfl (lv_at hl 1 rfl) ?_
    refine va_get (D := D) (ci := 5) (v := .int σ.2.2.2.2.2) (C := R_Br) (T := F_Br) (N := 6) hx hb hts i_uBr hown hK hP 0 rfl rfl 5 (by decide) (hts _ mw_165) (fun _ h9 => h9) rfl d_Br_checkIn_27 ?_
    refine lv_iload_n hx hb d_Br_checkIn_30 rfl (lv_at hl 0 rfl) ?_
    refine lv_icmp_lt (tgt := 46) hx hb d_Br_checkIn_31 (by decide) (fun c4 => ?_) (fun c4 => ?_)
    · have hk := br_p c4 hk
      refine lv_iconst (v := -1) hx hb d_Br_checkIn_46 (by decide) ?_
      exact kr_M (w := wl_Br a k) hx hb hr rfl hlocks hS hP hk d_Br_checkIn_47
    · have hk := br_n c4 hk
      refine lv_aload_n hx hb d_Br_checkIn_34 rfl (lv_at hl 1 rfl) ?_
      refine va_get (D := D) (ci := 5) (v := .int σ.2.2.2.2.2) (C := R_Br) (T := F_Br) (N := 6) hx hb hts i_uBr hown hK hP 0 rfl rfl 5 (by decide) (hts _ mw_165) (fun _ h9 => h9) rfl d_Br_checkIn_35 ?_
      refine lv_aload_n hx hb d_Br_checkIn_38 rfl (lv_at hl 1 rfl) ?_
      refine lv_iload_n hx hb d_Br_checkIn_39 rfl (lv_at hl 2 rfl) ?_
      obtain ⟨q5, e5, hk⟩ := ob_s hk
      refine kc_R (va_runV (As := [.int p1]) (rest := [.int σ.2.2.2.2.2]) ⟨hx, hb, hml, hown, hts⟩ (c_Br_lastCheckIn l D a k _ σ p1 q5 e5) (cwV 1 hts (gV mw_379 mw_381 mw_6 mw_27 mw_382) rfl rfl rfl hd_Br_lastCheckIn ⟨Nat.le_of_ble_eq_true rfl, Nat.le_of_ble_eq_true rfl⟩) (kp_V (ci := 5) (q := (R_Br, F_Br, 6)) (q0 := 0) hK hP (hDt _) rfl rfl) rfl rfl hl.1 rfl (lv_room (Nat.le_of_ble_eq_true rfl)) d_Br_checkIn_40 ⟨Nat.zero_le _, Nat.zero_le _⟩) hS hA hP (fun H locs hP hS => ?_)
      refine lv_icmp_le (tgt := 48) hx hb d_Br_checkIn_43 (by decide) (fun c6 => ?_) (fun c6 => ?_)
      · have hk := br_p c6 hk
        refine lv_aload_n hx hb d_Br_checkIn_48 rfl (lv_at hl 1 rfl) ?_
        refine va_get (D := D) (ci := 5) (v := .ref (a 3 0)) (C := R_Br) (T := F_Br) (N := 6) hx hb hts i_uBr hown hK hP 0 rfl rfl 2 (by decide) (hts _ mw_162) (fun _ h9 => h9) rfl d_Br_checkIn_49 ?_
        refine lv_iload_n hx hb d_Br_checkIn_52 rfl (lv_at hl 2 rfl) ?_
        refine lv_iconst (v := 1) hx hb d_Br_checkIn_53 (by decide) ?_
        obtain ⟨q7, e7, hk⟩ := ob_s hk
        refine kc_Mv (wF := wl_Br a k (σ.1, σ.2.1, q7, σ.2.2.2.1, σ.2.2.2.2.1, σ.2.2.2.2.2)) (va_runV (As := [.int p1, .int 1]) (rest := []) ⟨hx, hb, hml, hown, hts⟩ (c_Bk_turn l D (a 3) (k 3) _ σ.2.2.1 p1 1 q7 e7) (cwV 2 hts (gV mw_327 mw_328 mw_329 mw_30 mw_330) rfl rfl rfl hd_Bk_turn ⟨Nat.le_of_ble_eq_true rfl, Nat.le_of_ble_eq_true rfl⟩) (kp_V (ci := 0) (q := (R_Bk, F_Bk, 9)) (q0 := 0) hK3 (sP_Br_Bk (σ := σ) hP) (hDt3 _) rfl rfl) rfl rfl hl.1 rfl (lv_room (Nat.le_of_ble_eq_true rfl)) d_Br_checkIn_54 ⟨Nat.zero_le _, Nat.zero_le _⟩) hS (hDw3 _) hA (fun _ _ h h9 => jP_Br_Bk σ q7 hP (hDt _) h h9) (fun H locs hP hS => ?_)
        refine lv_iconst (v := 1) hx hb d_Br_checkIn_57 (by decide) ?_
        exact kr_M (w := wl_Br a k) hx hb hr rfl hlocks hS hP hk d_Br_checkIn_58
      · have hk := br_n c6 hk
        refine lv_iconst (v := -1) hx hb d_Br_checkIn_46 (by decide) ?_
        exact kr_M (w := wl_Br a k) hx hb hr rfl hlocks hS hP hk d_Br_checkIn_47
  · have hk := br_p c2 hk
    refine lv_iconst (v := 0) hx hb d_Br_checkIn_12 (by decide) ?_
    exact kr_M (w := wl_Br a k) hx hb hr rfl hlocks hS hP hk d_Br_checkIn_13
set_option maxHeartbeats 4000000 in
set_option maxRecDepth 100000 in
theorem c_Br_edit (l : Launch) (D : va_G) (a : Nat → Nat → Nat) (k : Nat → Nat → ClassId) (sz : Nat) (σ : S_Br) (p1 p2 p3 p4 : Int32) (r0 : Int32 × S_Br) (hk : kf_Br_edit σ p1 p2 p3 p4 = some r0) : Met l y_Br_edit w_Br_edit ({ frames := 3, cells := 0, slots := 0, locals := 74 }) (kp_P D cls (ty_Br k) (wl_Br a k σ) [.ref (a 0 0), .int p1, .int p2, .int p3, .int p4] sz) (kp_M D cls (wl_Br a k r0.2) (wl_Br a k σ) sz r0.1) 0 0 (va_A (wl_Br a k σ) sz) := by
  refine Met.ofW (cc := b_Br_edit) (maxL := 6) (ret := (some .int)) (by decide) rfl ?_
  intro p e s m args below meth c s₁ B hml hv
  obtain ⟨rfl, hsz, hP, hK, hD0⟩ := hv
  have hx := B.exec
  have hb := B.bytes
  have hr := B.returns
  have hts : ∀ w ∈ lw_g, w.before _ s = true := fun w h => atoms_spec (ws := w_Br_edit) B.pre w (List.mem_cons_of_mem _ h)
  have hown : s.vm.findClass R_Br = some m.cls := findClass_of_methodNamed B.named
  have hlocks := B.notSynchronized
  subst hsz
  have hA : ∀ q : Nat, s.heap.size ≤ q → (va_A (wl_Br a k σ) s.heap.size) q := fun _ h => Or.inr h
  have hDt : ∀ τ, va_D (fun _ => True) (wl_Br a k τ) := fun τ => kd_cg hD0 rfl
  have hDw : ∀ τ, va_D (va_A (wl_Br a k σ) s.heap.size) (wl_Br a k τ) := fun τ => kd_cg hD0.self rfl
  have hK1 := sK_Br_Ca hK
  have hDt1 : ∀ τ, va_D (fun _ => True) (wl_Ca (a 1) (k 1) τ) := fun τ => kd_cg (sD_Br_Ca hD0) rfl
  have hDw1 : ∀ τ, va_D (va_A (wl_Br a k σ) s.heap.size) (wl_Ca (a 1) (k 1) τ) := fun τ => kd_cg (sD_Br_Ca (hDw σ)) rfl
  have hK2 := sK_Br_Th hK
  have hDt2 : ∀ τ, va_D (fun _ => True) (wl_Th (a 2) (k 2) τ) := fun τ => kd_cg (sD_Br_Th hD0) rfl
  have hDw2 : ∀ τ, va_D (va_A (wl_Br a k σ) s.heap.size) (wl_Th (a 2) (k 2) τ) := fun τ => kd_cg (sD_Br_Th (hDw σ)) rfl
  have hK3 := sK_Br_Bk hK
  have hDt3 : ∀ τ, va_D (fun _ => True) (wl_Bk (a 3) (k 3) τ) := fun τ => kd_cg (sD_Br_Bk hD0) rfl
  have hDw3 : ∀ τ, va_D (va_A (wl_Br a k σ) s.heap.size) (wl_Bk (a 3) (k 3) τ) := fun τ => kd_cg (sD_Br_Bk (hDw σ)) rfl
  have hK4 := sK_Br_Wi hK
  have hDt4 : ∀ τ, va_D (fun _ => True) (wl_Wi (a 4) (k 4) τ) := fun τ => kd_cg (sD_Br_Wi hD0) rfl
  have hDw4 : ∀ τ, va_D (va_A (wl_Br a k σ) s.heap.size) (wl_Wi (a 4) (k 4) τ) := fun τ => kd_cg (sD_Br_Wi (hDw σ)) rfl
  have hK5 := sK_Br_Pe hK
  have hDt5 : ∀ τ, va_D (fun _ => True) (wl_Pe (a 5) (k 5) τ) := fun τ => kd_cg (sD_Br_Pe hD0) rfl
  have hDw5 : ∀ τ, va_D (va_A (wl_Br a k σ) s.heap.size) (wl_Pe (a 5) (k 5) τ) := fun τ => kd_cg (sD_Br_Pe (hDw σ)) rfl
  have hS : va_S (va_A (wl_Br a k σ) s.heap.size) s.heap s.heap [] := va_S.rf
  have hl := lv_entry ([.ref (a 0 0), .int p1, .int p2, .int p3, .int p4]) (n := 6) (Nat.le_of_ble_eq_true rfl)
  rw [lg_entry_eq]
  generalize (lg_sl ([.ref (a 0 0), .int p1, .int p2, .int p3, .int p4]) ++ List.replicate (6 - (lg_sl ([.ref (a 0 0), .int p1, .int p2, .int p3, .int p4])).length) Slot.unset).toArray = ls at hl ⊢
  have hl : lv_has ls 6 [(0, .ref (a 0 0)), (1, .int p1), (2, .int p2), (3, .int p3), (4, .int p4)] := hl
  unfold kf_Br_edit at hk
  refine lv_aload_n hx hb d_Br_edit_0 rfl (lv_at hl 0 rfl) ?_
  refine va_get (D := D) (ci := 5) (v := .ref (a 3 0)) (C := R_Br) (T := F_Br) (N := 6) hx hb hts i_uBr hown hK hP 0 rfl rfl 2 (by decide) (hts _ mw_162) (fun _ h9 => h9) rfl d_Br_edit_1 ?_
  refine lv_iload_n hx hb d_Br_edit_4 rfl (lv_at hl 1 rfl) ?_
  refine lv_iload_n hx hb d_Br_edit_5 rfl (lv_at hl 2 rfl) ?_
  obtain ⟨q1, e1, hk⟩ := ob_s hk
  refine kc_R (va_runV (As := [.int p1, .int p2]) (rest := []) ⟨hx, hb, hml, hown, hts⟩ (c_Bk_isBookedBy l D (a 3) (k 3) _ σ.2.2.1 p1 p2 q1 e1) (cwV 2 hts (gV mw_318 mw_319 mw_320 mw_30 mw_321) rfl rfl rfl hd_Bk_isBookedBy ⟨Nat.le_of_ble_eq_true rfl, Nat.le_of_ble_eq_true rfl⟩) (kp_V (ci := 0) (q := (R_Bk, F_Bk, 9)) (q0 := 0) hK3 (sP_Br_Bk (σ := σ) hP) (hDt3 _) rfl rfl) rfl rfl hl.1 rfl (lv_room (Nat.le_of_ble_eq_true rfl)) d_Br_edit_6 ⟨Nat.zero_le _, Nat.zero_le _⟩) hS hA hP (fun H locs hP hS => ?_)
  refine lv_if_eq (tgt := 34) hx hb d_Br_edit_9 (by decide) (fun c2 => ?_) (fun c2 => ?_)
  · have hk := br_p c2 hk
    refine lv_iconst (v := 0) hx hb d_Br_edit_34 (by decide) ?_
    exact kr_M (w := wl_Br a k) hx hb hr rfl hlocks hS hP hk d_Br_edit_35
  · have hk := br_n c2 hk
    refine lv_aload_n hx hb d_Br_edit_12 rfl (lv_at hl 0 rfl) ?_
    refine va_get (D := D) (ci := 5) (v := .ref (a 3 0)) (C := R_Br) (T := F_Br) (N := 6) hx hb hts i_uBr hown hK hP 0 rfl rfl 2 (by decide) (hts _ mw_162) (fun _ h9 => h9) rfl d_Br_edit_13 ?_
    refine lv_iload_n hx hb d_Br_edit_16 rfl (lv_at hl 1 rfl) ?_
    obtain ⟨q3, e3, hk⟩ := ob_s hk
    refine kc_R (va_runV (As := [.int p1]) (rest := []) ⟨hx, hb, hml, hown, hts⟩ (c_Bk_isEquipment l D (a 3) (k 3) _ σ.2.2.1 p1 q3 e3) (cwV 1 hts (gV mw_391 mw_392 mw_393 mw_30 mw_394) rfl rfl rfl hd_Bk_isEquipment ⟨Nat.le_of_ble_eq_true rfl, Nat.le_of_ble_eq_true rfl⟩) (kp_V (ci := 0) (q := (R_Bk, F_Bk, 9)) (q0 := 0) hK3 (sP_Br_Bk (σ := σ) hP) (hDt3 _) rfl rfl) rfl rfl hl.1 rfl (lv_room (Nat.le_of_ble_eq_true rfl)) d_Br_edit_17 ⟨Nat.zero_le _, Nat.zero_le _⟩) hS hA hP (fun H locs hP hS => ?_)
    refine lv_if_ne (tgt := 34) hx hb d_Br_edit_20 (by decide) (fun c4 => ?_) (fun c4 => ?_)
    · have hk := br_n c4 hk
      refine lv_iconst (v := 0) hx hb d_Br_edit_34 (by decide) ?_
      exact kr_M (w := wl_Br a k) hx hb hr rfl hlocks hS hP hk d_Br_edit_35
    · have hk := br_p c4 hk
      refine lv_aload_n hx hb d_Br_edit_23 rfl (lv_at hl 0 rfl) ?_
      refine va_get (D := D) (ci := 5) (v := .ref (a 3 0)) (C := R_Br) (T := F_Br) (N := 6) hx hb hts i_uBr hown hK hP 0 rfl rfl 2 (by decide) (hts _ mw_162) (fun _ h9 => h9) rfl d_Br_edit_24 ?_
      refine lv_iload_n hx hb d_Br_edit_27 rfl (lv_at hl 1 rfl) ?_
      obtain ⟨q5, e5, hk⟩ := ob_s hk
      refine kc_R (va_runV (As := [.int p1]) (rest := []) ⟨hx, hb, hml, hown, hts⟩ (c_Bk_hasLivingEquipment l D (a 3) (k 3) _ σ.2.2.1 p1 q5 e5) (cwV 1 hts (gV mw_395 mw_396 mw_397 mw_30 mw_398) rfl rfl rfl hd_Bk_hasLivingEquipment ⟨Nat.le_of_ble_eq_true rfl, Nat.le_of_ble_eq_true rfl⟩) (kp_V (ci := 0) (q := (R_Bk, F_Bk, 9)) (q0 := 0) hK3 (sP_Br_Bk (σ := σ) hP) (hDt3 _) rfl rfl) rfl rfl hl.1 rfl (lv_room (Nat.le_of_ble_eq_true rfl)) d_Br_edit_28 ⟨Nat.zero_le _, Nat.zero_le _⟩) hS hA hP (fun H locs hP hS => ?_)
      refine lv_if_eq (tgt := 36) hx hb d_Br_edit_31 (by decide) (fun c6 => ?_) (fun c6 => ?_)
      · have hk := br_p c6 hk
        refine lv_aload_n hx hb d_Br_edit_36 rfl (lv_at hl 0 rfl) ?_
        refine lv_iload_n hx hb d_Br_edit_37 rfl (lv_at hl 2 rfl) ?_
        refine lv_aload_n hx hb d_Br_edit_38 rfl (lv_at hl 0 rfl) ?_
        refine va_get (D := D) (ci := 5) (v := .ref (a 3 0)) (C := R_Br) (T := F_Br) (N := 6) hx hb hts i_uBr hown hK hP 0 rfl rfl 2 (by decide) (hts _ mw_162) (fun _ h9 => h9) rfl d_Br_edit_39 ?_
        refine lv_iload_n hx hb d_Br_edit_42 rfl (lv_at hl 1 rfl) ?_
        obtain ⟨q7, e7, hk⟩ := ob_s hk
        refine kc_R (va_runV (As := [.int p1]) (rest := [.int p2, .ref (a 0 0)]) ⟨hx, hb, hml, hown, hts⟩ (c_Bk_thingOf l D (a 3) (k 3) _ σ.2.2.1 p1 q7 e7) (cwV 1 hts (gV mw_302 mw_303 mw_304 mw_30 mw_305) rfl rfl rfl hd_Bk_thingOf ⟨Nat.le_of_ble_eq_true rfl, Nat.le_of_ble_eq_true rfl⟩) (kp_V (ci := 0) (q := (R_Bk, F_Bk, 9)) (q0 := 0) hK3 (sP_Br_Bk (σ := σ) hP) (hDt3 _) rfl rfl) rfl rfl hl.1 rfl (lv_room (Nat.le_of_ble_eq_true rfl)) d_Br_edit_43 ⟨Nat.zero_le _, Nat.zero_le _⟩) hS hA hP (fun H locs hP hS => ?_)
        refine lv_iload_n hx hb d_Br_edit_46 rfl (lv_at hl 3 rfl) ?_
        refine lv_iload hx hb d_Br_edit_47 (lv_at hl 4 rfl) ?_
        refine lv_iload_n hx hb d_Br_edit_49 rfl (lv_at hl 1 rfl) ?_
        obtain ⟨q8, e8, hk⟩ := ob_s hk
        refine kc_R (va_runV (As := [.int p2, .int q7, .int p3, .int p4, .int p1]) (rest := []) ⟨hx, hb, hml, hown, hts⟩ (c_Br_refusalOf l D a k _ σ p2 q7 p3 p4 p1 q8 e8) (cwV 5 hts (gV mw_241 mw_243 mw_1 mw_27 mw_244) rfl rfl rfl hd_Br_refusalOf ⟨Nat.le_of_ble_eq_true rfl, Nat.le_of_ble_eq_true rfl⟩) (kp_V (ci := 5) (q := (R_Br, F_Br, 6)) (q0 := 0) hK hP (hDt _) rfl rfl) rfl rfl hl.1 rfl (lv_room (Nat.le_of_ble_eq_true rfl)) d_Br_edit_50 ⟨Nat.zero_le _, Nat.zero_le _⟩) hS hA hP (fun H locs hP hS => ?_)
        refine lv_istore (lv' := [(5, .int q8), (0, .ref (a 0 0)), (1, .int p1), (2, .int p2), (3, .int p3), (4, .int p4)]) hx hb d_Br_edit_53 hl (by decide) rfl (fun ls hl => ?_)
        refine lv_iload hx hb d_Br_edit_55 (lv_at hl 0 rfl) ?_
        refine lv_if_eq (tgt := 63) hx hb d_Br_edit_57 (by decide) (fun c9 => ?_) (fun c9 => ?_)
        · have hk := br_p c9 hk
          refine lv_aload_n hx hb d_Br_edit_63 rfl (lv_at hl 1 rfl) ?_
          refine va_get (D := D) (ci := 5) (v := .ref (a 3 0)) (C := R_Br) (T := F_Br) (N := 6) hx hb hts i_uBr hown hK hP 0 rfl rfl 2 (by decide) (hts _ mw_162) (fun _ h9 => h9) rfl d_Br_edit_64 ?_
          refine lv_iload_n hx hb d_Br_edit_67 rfl (lv_at hl 2 rfl) ?_
          refine lv_iload_n hx hb d_Br_edit_68 rfl (lv_at hl 4 rfl) ?_
          refine lv_iload hx hb d_Br_edit_69 (lv_at hl 5 rfl) ?_
          obtain ⟨q10, e10, hk⟩ := ob_s hk
          refine kc_Mv (wF := wl_Br a k (σ.1, σ.2.1, q10, σ.2.2.2.1, σ.2.2.2.2.1, σ.2.2.2.2.2)) (va_runV (As := [.int p1, .int p3, .int p4]) (rest := []) ⟨hx, hb, hml, hown, hts⟩ (c_Bk_setTimes l D (a 3) (k 3) _ σ.2.2.1 p1 p3 p4 q10 e10) (cwV 3 hts (gV mw_399 mw_400 mw_401 mw_30 mw_402) rfl rfl rfl hd_Bk_setTimes ⟨Nat.le_of_ble_eq_true rfl, Nat.le_of_ble_eq_true rfl⟩) (kp_V (ci := 0) (q := (R_Bk, F_Bk, 9)) (q0 := 0) hK3 (sP_Br_Bk (σ := σ) hP) (hDt3 _) rfl rfl) rfl rfl hl.1 rfl (lv_room (Nat.le_of_ble_eq_true rfl)) d_Br_edit_71 ⟨Nat.zero_le _, Nat.zero_le _⟩) hS (hDw3 _) hA (fun _ _ h h9 => jP_Br_Bk σ q10 hP (hDt _) h h9) (fun H locs hP hS => ?_)
          refine lv_iconst (v := 1) hx hb d_Br_edit_74 (by decide) ?_
          exact kr_M (w := wl_Br a k) hx hb hr rfl hlocks hS hP hk d_Br_edit_75
        · have hk := br_n c9 hk
          refine lv_iload hx hb d_Br_edit_60 (lv_at hl 0 rfl) ?_
          exact kr_M (w := wl_Br a k) hx hb hr rfl hlocks hS hP hk d_Br_edit_62
      · have hk := br_n c6 hk
        refine lv_iconst (v := 0) hx hb d_Br_edit_34 (by decide) ?_
        exact kr_M (w := wl_Br a k) hx hb hr rfl hlocks hS hP hk d_Br_edit_35
set_option maxHeartbeats 4000000 in
set_option maxRecDepth 100000 in
theorem c_Br_equip (l : Launch) (D : va_G) (a : Nat → Nat → Nat) (k : Nat → Nat → ClassId) (sz : Nat) (σ : S_Br) (p1 p2 : Int32) (r0 : Int32 × S_Br) (hk : kf_Br_equip σ p1 p2 = some r0) : Met l y_Br_equip w_Br_equip ({ frames := 2, cells := 0, slots := 0, locals := 48 }) (kp_P D cls (ty_Br k) (wl_Br a k σ) [.ref (a 0 0), .int p1, .int p2] sz) (kp_M D cls (wl_Br a k r0.2) (wl_Br a k σ) sz r0.1) 0 0 (va_A (wl_Br a k σ) sz) := by
  refine Met.ofW (cc := b_Br_equip) (maxL := 6) (ret := (some .int)) (by decide) rfl ?_
  intro p e s m args below meth c s₁ B hml hv
  obtain ⟨rfl, hsz, hP, hK, hD0⟩ := hv
  have hx := B.exec
  have hb := B.bytes
  have hr := B.returns
  have hts : ∀ w ∈ lw_g, w.before _ s = true := fun w h => atoms_spec (ws := w_Br_equip) B.pre w (List.mem_cons_of_mem _ h)
  have hown : s.vm.findClass R_Br = some m.cls := findClass_of_methodNamed B.named
  have hlocks := B.notSynchronized
  subst hsz
  have hA : ∀ q : Nat, s.heap.size ≤ q → (va_A (wl_Br a k σ) s.heap.size) q := fun _ h => Or.inr h
  have hDt : ∀ τ, va_D (fun _ => True) (wl_Br a k τ) := fun τ => kd_cg hD0 rfl
  have hDw : ∀ τ, va_D (va_A (wl_Br a k σ) s.heap.size) (wl_Br a k τ) := fun τ => kd_cg hD0.self rfl
  have hK1 := sK_Br_Ca hK
  have hDt1 : ∀ τ, va_D (fun _ => True) (wl_Ca (a 1) (k 1) τ) := fun τ => kd_cg (sD_Br_Ca hD0) rfl
  have hDw1 : ∀ τ, va_D (va_A (wl_Br a k σ) s.heap.size) (wl_Ca (a 1) (k 1) τ) := fun τ => kd_cg (sD_Br_Ca (hDw σ)) rfl
  have hK2 := sK_Br_Th hK
  have hDt2 : ∀ τ, va_D (fun _ => True) (wl_Th (a 2) (k 2) τ) := fun τ => kd_cg (sD_Br_Th hD0) rfl
  have hDw2 : ∀ τ, va_D (va_A (wl_Br a k σ) s.heap.size) (wl_Th (a 2) (k 2) τ) := fun τ => kd_cg (sD_Br_Th (hDw σ)) rfl
  have hK3 := sK_Br_Bk hK
  have hDt3 : ∀ τ, va_D (fun _ => True) (wl_Bk (a 3) (k 3) τ) := fun τ => kd_cg (sD_Br_Bk hD0) rfl
  have hDw3 : ∀ τ, va_D (va_A (wl_Br a k σ) s.heap.size) (wl_Bk (a 3) (k 3) τ) := fun τ => kd_cg (sD_Br_Bk (hDw σ)) rfl
  have hK4 := sK_Br_Wi hK
  have hDt4 : ∀ τ, va_D (fun _ => True) (wl_Wi (a 4) (k 4) τ) := fun τ => kd_cg (sD_Br_Wi hD0) rfl
  have hDw4 : ∀ τ, va_D (va_A (wl_Br a k σ) s.heap.size) (wl_Wi (a 4) (k 4) τ) := fun τ => kd_cg (sD_Br_Wi (hDw σ)) rfl
  have hK5 := sK_Br_Pe hK
  have hDt5 : ∀ τ, va_D (fun _ => True) (wl_Pe (a 5) (k 5) τ) := fun τ => kd_cg (sD_Br_Pe hD0) rfl
  have hDw5 : ∀ τ, va_D (va_A (wl_Br a k σ) s.heap.size) (wl_Pe (a 5) (k 5) τ) := fun τ => kd_cg (sD_Br_Pe (hDw σ)) rfl
  have hS : va_S (va_A (wl_Br a k σ) s.heap.size) s.heap s.heap [] := va_S.rf
  have hl := lv_entry ([.ref (a 0 0), .int p1, .int p2]) (n := 6) (Nat.le_of_ble_eq_true rfl)
  rw [lg_entry_eq]
  generalize (lg_sl ([.ref (a 0 0), .int p1, .int p2]) ++ List.replicate (6 - (lg_sl ([.ref (a 0 0), .int p1, .int p2])).length) Slot.unset).toArray = ls at hl ⊢
  have hl : lv_has ls 6 [(0, .ref (a 0 0)), (1, .int p1), (2, .int p2)] := hl
  unfold kf_Br_equip at hk
  refine lv_aload_n hx hb d_Br_equip_0 rfl (lv_at hl 0 rfl) ?_
  refine va_get (D := D) (ci := 5) (v := .ref (a 3 0)) (C := R_Br) (T := F_Br) (N := 6) hx hb hts i_uBr hown hK hP 0 rfl rfl 2 (by decide) (hts _ mw_162) (fun _ h9 => h9) rfl d_Br_equip_1 ?_
  refine lv_iload_n hx hb d_Br_equip_4 rfl (lv_at hl 1 rfl) ?_
  obtain ⟨q1, e1, hk⟩ := ob_s hk
  refine kc_R (va_runV (As := [.int p1]) (rest := []) ⟨hx, hb, hml, hown, hts⟩ (c_Bk_has l D (a 3) (k 3) _ σ.2.2.1 p1 q1 e1) (cwV 1 hts (gV mw_293 mw_294 mw_295 mw_30 mw_296) rfl rfl rfl hd_Bk_has ⟨Nat.le_of_ble_eq_true rfl, Nat.le_of_ble_eq_true rfl⟩) (kp_V (ci := 0) (q := (R_Bk, F_Bk, 9)) (q0 := 0) hK3 (sP_Br_Bk (σ := σ) hP) (hDt3 _) rfl rfl) rfl rfl hl.1 rfl (lv_room (Nat.le_of_ble_eq_true rfl)) d_Br_equip_5 ⟨Nat.zero_le _, Nat.zero_le _⟩) hS hA hP (fun H locs hP hS => ?_)
  refine lv_if_eq (tgt := 43) hx hb d_Br_equip_8 (by decide) (fun c2 => ?_) (fun c2 => ?_)
  · have hk := br_p c2 hk
    refine lv_iconst (v := 0) hx hb d_Br_equip_43 (by decide) ?_
    exact kr_M (w := wl_Br a k) hx hb hr rfl hlocks hS hP hk d_Br_equip_44
  · have hk := br_n c2 hk
    refine lv_aload_n hx hb d_Br_equip_11 rfl (lv_at hl 0 rfl) ?_
    refine va_get (D := D) (ci := 5) (v := .ref (a 3 0)) (C := R_Br) (T := F_Br) (N := 6) hx hb hts i_uBr hown hK hP 0 rfl rfl 2 (by decide) (hts _ mw_162) (fun _ h9 => h9) rfl d_Br_equip_12 ?_
    refine lv_iload_n hx hb d_Br_equip_15 rfl (lv_at hl 1 rfl) ?_
    obtain ⟨q3, e3, hk⟩ := ob_s hk
    refine kc_R (va_runV (As := [.int p1]) (rest := []) ⟨hx, hb, hml, hown, hts⟩ (c_Bk_isBooked l D (a 3) (k 3) _ σ.2.2.1 p1 q3 e3) (cwV 1 hts (gV mw_407 mw_408 mw_409 mw_30 mw_410) rfl rfl rfl hd_Bk_isBooked ⟨Nat.le_of_ble_eq_true rfl, Nat.le_of_ble_eq_true rfl⟩) (kp_V (ci := 0) (q := (R_Bk, F_Bk, 9)) (q0 := 0) hK3 (sP_Br_Bk (σ := σ) hP) (hDt3 _) rfl rfl) rfl rfl hl.1 rfl (lv_room (Nat.le_of_ble_eq_true rfl)) d_Br_equip_16 ⟨Nat.zero_le _, Nat.zero_le _⟩) hS hA hP (fun H locs hP hS => ?_)
    refine lv_if_eq (tgt := 43) hx hb d_Br_equip_19 (by decide) (fun c4 => ?_) (fun c4 => ?_)
    · have hk := br_p c4 hk
      refine lv_iconst (v := 0) hx hb d_Br_equip_43 (by decide) ?_
      exact kr_M (w := wl_Br a k) hx hb hr rfl hlocks hS hP hk d_Br_equip_44
    · have hk := br_n c4 hk
      refine lv_aload_n hx hb d_Br_equip_22 rfl (lv_at hl 0 rfl) ?_
      refine va_get (D := D) (ci := 5) (v := .ref (a 3 0)) (C := R_Br) (T := F_Br) (N := 6) hx hb hts i_uBr hown hK hP 0 rfl rfl 2 (by decide) (hts _ mw_162) (fun _ h9 => h9) rfl d_Br_equip_23 ?_
      refine lv_iload_n hx hb d_Br_equip_26 rfl (lv_at hl 1 rfl) ?_
      obtain ⟨q5, e5, hk⟩ := ob_s hk
      refine kc_R (va_runV (As := [.int p1]) (rest := []) ⟨hx, hb, hml, hown, hts⟩ (c_Bk_isEquipment l D (a 3) (k 3) _ σ.2.2.1 p1 q5 e5) (cwV 1 hts (gV mw_391 mw_392 mw_393 mw_30 mw_394) rfl rfl rfl hd_Bk_isEquipment ⟨Nat.le_of_ble_eq_true rfl, Nat.le_of_ble_eq_true rfl⟩) (kp_V (ci := 0) (q := (R_Bk, F_Bk, 9)) (q0 := 0) hK3 (sP_Br_Bk (σ := σ) hP) (hDt3 _) rfl rfl) rfl rfl hl.1 rfl (lv_room (Nat.le_of_ble_eq_true rfl)) d_Br_equip_27 ⟨Nat.zero_le _, Nat.zero_le _⟩) hS hA hP (fun H locs hP hS => ?_)
      refine lv_if_ne (tgt := 43) hx hb d_Br_equip_30 (by decide) (fun c6 => ?_) (fun c6 => ?_)
      · have hk := br_n c6 hk
        refine lv_iconst (v := 0) hx hb d_Br_equip_43 (by decide) ?_
        exact kr_M (w := wl_Br a k) hx hb hr rfl hlocks hS hP hk d_Br_equip_44
      · have hk := br_p c6 hk
        refine lv_aload_n hx hb d_Br_equip_33 rfl (lv_at hl 0 rfl) ?_
        refine va_get (D := D) (ci := 5) (v := .ref (a 3 0)) (C := R_Br) (T := F_Br) (N := 6) hx hb hts i_uBr hown hK hP 0 rfl rfl 2 (by decide) (hts _ mw_162) (fun _ h9 => h9) rfl d_Br_equip_34 ?_
        obtain ⟨q7, e7, hk⟩ := ob_s hk
        refine kc_R (va_runV (As := []) (rest := []) ⟨hx, hb, hml, hown, hts⟩ (c_Bk_isFull l D (a 3) (k 3) _ σ.2.2.1 q7 e7) (cwV 0 hts (gV mw_237 mw_238 mw_239 mw_30 mw_240) rfl rfl rfl hd_Bk_isFull ⟨Nat.le_of_ble_eq_true rfl, Nat.le_of_ble_eq_true rfl⟩) (kp_V (ci := 0) (q := (R_Bk, F_Bk, 9)) (q0 := 0) hK3 (sP_Br_Bk (σ := σ) hP) (hDt3 _) rfl rfl) rfl rfl hl.1 rfl (lv_room (Nat.le_of_ble_eq_true rfl)) d_Br_equip_37 ⟨Nat.zero_le _, Nat.zero_le _⟩) hS hA hP (fun H locs hP hS => ?_)
        refine lv_if_eq (tgt := 45) hx hb d_Br_equip_40 (by decide) (fun c8 => ?_) (fun c8 => ?_)
        · have hk := br_p c8 hk
          refine lv_aload_n hx hb d_Br_equip_45 rfl (lv_at hl 0 rfl) ?_
          refine va_get (D := D) (ci := 5) (v := .ref (a 3 0)) (C := R_Br) (T := F_Br) (N := 6) hx hb hts i_uBr hown hK hP 0 rfl rfl 2 (by decide) (hts _ mw_162) (fun _ h9 => h9) rfl d_Br_equip_46 ?_
          refine lv_iload_n hx hb d_Br_equip_49 rfl (lv_at hl 1 rfl) ?_
          obtain ⟨q9, e9, hk⟩ := ob_s hk
          refine kc_R (va_runV (As := [.int p1]) (rest := []) ⟨hx, hb, hml, hown, hts⟩ (c_Bk_thingOf l D (a 3) (k 3) _ σ.2.2.1 p1 q9 e9) (cwV 1 hts (gV mw_302 mw_303 mw_304 mw_30 mw_305) rfl rfl rfl hd_Bk_thingOf ⟨Nat.le_of_ble_eq_true rfl, Nat.le_of_ble_eq_true rfl⟩) (kp_V (ci := 0) (q := (R_Bk, F_Bk, 9)) (q0 := 0) hK3 (sP_Br_Bk (σ := σ) hP) (hDt3 _) rfl rfl) rfl rfl hl.1 rfl (lv_room (Nat.le_of_ble_eq_true rfl)) d_Br_equip_50 ⟨Nat.zero_le _, Nat.zero_le _⟩) hS hA hP (fun H locs hP hS => ?_)
          refine lv_istore_n (lv' := [(3, .int q9), (0, .ref (a 0 0)), (1, .int p1), (2, .int p2)]) hx hb d_Br_equip_53 rfl hl (by decide) rfl (fun ls hl => ?_)
          refine lv_aload_n hx hb d_Br_equip_54 rfl (lv_at hl 1 rfl) ?_
          refine va_get (D := D) (ci := 5) (v := .ref (a 2 0)) (C := R_Br) (T := F_Br) (N := 6) hx hb hts i_uBr hown hK hP 0 rfl rfl 1 (by decide) (hts _ mw_161) (fun _ h9 => h9) rfl d_Br_equip_55 ?_
          refine lv_iload_n hx hb d_Br_equip_58 rfl (lv_at hl 3 rfl) ?_
          obtain ⟨q10, e10, hk⟩ := ob_s hk
          refine kc_R (va_runV (As := [.int p2]) (rest := []) ⟨hx, hb, hml, hown, hts⟩ (c_Th_has l D (a 2) (k 2) _ σ.2.1 p2 q10 e10) (cwV 1 hts (gV mw_229 mw_230 mw_231 mw_29 mw_232) rfl rfl rfl hd_Th_has ⟨Nat.le_of_ble_eq_true rfl, Nat.le_of_ble_eq_true rfl⟩) (kp_V (ci := 3) (q := (R_Th, F_Th, 6)) (q0 := 0) hK2 (sP_Br_Th (σ := σ) hP) (hDt2 _) rfl rfl) rfl rfl hl.1 rfl (lv_room (Nat.le_of_ble_eq_true rfl)) d_Br_equip_59 ⟨Nat.zero_le _, Nat.zero_le _⟩) hS hA hP (fun H locs hP hS => ?_)
          refine lv_if_eq (tgt := 89) hx hb d_Br_equip_62 (by decide) (fun c11 => ?_) (fun c11 => ?_)
          · have hk := br_p c11 hk
            refine lv_iconst (v := 0) hx hb d_Br_equip_89 (by decide) ?_
            exact kr_M (w := wl_Br a k) hx hb hr rfl hlocks hS hP hk d_Br_equip_90
          · have hk := br_n c11 hk
            refine lv_iload_n hx hb d_Br_equip_65 rfl (lv_at hl 3 rfl) ?_
            refine lv_iload_n hx hb d_Br_equip_66 rfl (lv_at hl 0 rfl) ?_
            refine lv_icmp_eq (tgt := 89) hx hb d_Br_equip_67 (by decide) (fun c12 => ?_) (fun c12 => ?_)
            · have hk := br_p c12 hk
              refine lv_iconst (v := 0) hx hb d_Br_equip_89 (by decide) ?_
              exact kr_M (w := wl_Br a k) hx hb hr rfl hlocks hS hP hk d_Br_equip_90
            · have hk := br_n c12 hk
              refine lv_aload_n hx hb d_Br_equip_70 rfl (lv_at hl 1 rfl) ?_
              refine va_get (D := D) (ci := 5) (v := .ref (a 2 0)) (C := R_Br) (T := F_Br) (N := 6) hx hb hts i_uBr hown hK hP 0 rfl rfl 1 (by decide) (hts _ mw_161) (fun _ h9 => h9) rfl d_Br_equip_71 ?_
              refine lv_iload_n hx hb d_Br_equip_74 rfl (lv_at hl 3 rfl) ?_
              obtain ⟨q13, e13, hk⟩ := ob_s hk
              refine kc_R (va_runV (As := [.int p2]) (rest := []) ⟨hx, hb, hml, hown, hts⟩ (c_Th_placeOf l D (a 2) (k 2) _ σ.2.1 p2 q13 e13) (cwV 1 hts (gV mw_257 mw_258 mw_259 mw_29 mw_260) rfl rfl rfl hd_Th_placeOf ⟨Nat.le_of_ble_eq_true rfl, Nat.le_of_ble_eq_true rfl⟩) (kp_V (ci := 3) (q := (R_Th, F_Th, 6)) (q0 := 0) hK2 (sP_Br_Th (σ := σ) hP) (hDt2 _) rfl rfl) rfl rfl hl.1 rfl (lv_room (Nat.le_of_ble_eq_true rfl)) d_Br_equip_75 ⟨Nat.zero_le _, Nat.zero_le _⟩) hS hA hP (fun H locs hP hS => ?_)
              refine lv_aload_n hx hb d_Br_equip_78 rfl (lv_at hl 1 rfl) ?_
              refine va_get (D := D) (ci := 5) (v := .ref (a 2 0)) (C := R_Br) (T := F_Br) (N := 6) hx hb hts i_uBr hown hK hP 0 rfl rfl 1 (by decide) (hts _ mw_161) (fun _ h9 => h9) rfl d_Br_equip_79 ?_
              refine lv_iload_n hx hb d_Br_equip_82 rfl (lv_at hl 0 rfl) ?_
              obtain ⟨q14, e14, hk⟩ := ob_s hk
              refine kc_R (va_runV (As := [.int q9]) (rest := [.int q13]) ⟨hx, hb, hml, hown, hts⟩ (c_Th_placeOf l D (a 2) (k 2) _ σ.2.1 q9 q14 e14) (cwV 1 hts (gV mw_257 mw_258 mw_259 mw_29 mw_260) rfl rfl rfl hd_Th_placeOf ⟨Nat.le_of_ble_eq_true rfl, Nat.le_of_ble_eq_true rfl⟩) (kp_V (ci := 3) (q := (R_Th, F_Th, 6)) (q0 := 0) hK2 (sP_Br_Th (σ := σ) hP) (hDt2 _) rfl rfl) rfl rfl hl.1 rfl (lv_room (Nat.le_of_ble_eq_true rfl)) d_Br_equip_83 ⟨Nat.zero_le _, Nat.zero_le _⟩) hS hA hP (fun H locs hP hS => ?_)
              refine lv_icmp_eq (tgt := 91) hx hb d_Br_equip_86 (by decide) (fun c15 => ?_) (fun c15 => ?_)
              · have hk := br_p c15 hk
                refine lv_aload_n hx hb d_Br_equip_91 rfl (lv_at hl 1 rfl) ?_
                refine va_get (D := D) (ci := 5) (v := .ref (a 3 0)) (C := R_Br) (T := F_Br) (N := 6) hx hb hts i_uBr hown hK hP 0 rfl rfl 2 (by decide) (hts _ mw_162) (fun _ h9 => h9) rfl d_Br_equip_92 ?_
                refine lv_iload_n hx hb d_Br_equip_95 rfl (lv_at hl 2 rfl) ?_
                obtain ⟨q16, e16, hk⟩ := ob_s hk
                refine kc_R (va_runV (As := [.int p1]) (rest := []) ⟨hx, hb, hml, hown, hts⟩ (c_Bk_fromOf l D (a 3) (k 3) _ σ.2.2.1 p1 q16 e16) (cwV 1 hts (gV mw_306 mw_307 mw_308 mw_30 mw_309) rfl rfl rfl hd_Bk_fromOf ⟨Nat.le_of_ble_eq_true rfl, Nat.le_of_ble_eq_true rfl⟩) (kp_V (ci := 0) (q := (R_Bk, F_Bk, 9)) (q0 := 0) hK3 (sP_Br_Bk (σ := σ) hP) (hDt3 _) rfl rfl) rfl rfl hl.1 rfl (lv_room (Nat.le_of_ble_eq_true rfl)) d_Br_equip_96 ⟨Nat.zero_le _, Nat.zero_le _⟩) hS hA hP (fun H locs hP hS => ?_)
                refine lv_istore (lv' := [(4, .int q16), (3, .int q9), (0, .ref (a 0 0)), (1, .int p1), (2, .int p2)]) hx hb d_Br_equip_99 hl (by decide) rfl (fun ls hl => ?_)
                refine lv_aload_n hx hb d_Br_equip_101 rfl (lv_at hl 2 rfl) ?_
                refine va_get (D := D) (ci := 5) (v := .ref (a 3 0)) (C := R_Br) (T := F_Br) (N := 6) hx hb hts i_uBr hown hK hP 0 rfl rfl 2 (by decide) (hts _ mw_162) (fun _ h9 => h9) rfl d_Br_equip_102 ?_
                refine lv_iload_n hx hb d_Br_equip_105 rfl (lv_at hl 3 rfl) ?_
                obtain ⟨q17, e17, hk⟩ := ob_s hk
                refine kc_R (va_runV (As := [.int p1]) (rest := []) ⟨hx, hb, hml, hown, hts⟩ (c_Bk_toOf l D (a 3) (k 3) _ σ.2.2.1 p1 q17 e17) (cwV 1 hts (gV mw_310 mw_311 mw_312 mw_30 mw_313) rfl rfl rfl hd_Bk_toOf ⟨Nat.le_of_ble_eq_true rfl, Nat.le_of_ble_eq_true rfl⟩) (kp_V (ci := 0) (q := (R_Bk, F_Bk, 9)) (q0 := 0) hK3 (sP_Br_Bk (σ := σ) hP) (hDt3 _) rfl rfl) rfl rfl hl.1 rfl (lv_room (Nat.le_of_ble_eq_true rfl)) d_Br_equip_106 ⟨Nat.zero_le _, Nat.zero_le _⟩) hS hA hP (fun H locs hP hS => ?_)
                refine lv_istore (lv' := [(5, .int q17), (4, .int q16), (3, .int q9), (0, .ref (a 0 0)), (1, .int p1), (2, .int p2)]) hx hb d_Br_equip_109 hl (by decide) rfl (fun ls hl => ?_)
                refine lv_aload_n hx hb d_Br_equip_111 rfl (lv_at hl 3 rfl) ?_
                refine va_get (D := D) (ci := 5) (v := .ref (a 3 0)) (C := R_Br) (T := F_Br) (N := 6) hx hb hts i_uBr hown hK hP 0 rfl rfl 2 (by decide) (hts _ mw_162) (fun _ h9 => h9) rfl d_Br_equip_112 ?_
                refine lv_iload_n hx hb d_Br_equip_115 rfl (lv_at hl 5 rfl) ?_
                refine lv_iload hx hb d_Br_equip_116 (lv_at hl 1 rfl) ?_
                refine lv_iload hx hb d_Br_equip_118 (lv_at hl 0 rfl) ?_
                refine lv_iconst (v := 0) hx hb d_Br_equip_120 (by decide) ?_
                obtain ⟨q18, e18, hk⟩ := ob_s hk
                refine kc_R (va_runV (As := [.int p2, .int q16, .int q17, .int 0]) (rest := []) ⟨hx, hb, hml, hown, hts⟩ (c_Bk_isTaken l D (a 3) (k 3) _ σ.2.2.1 p2 q16 q17 0 q18 e18) (cwV 4 hts (gV mw_277 mw_278 mw_279 mw_30 mw_280) rfl rfl rfl hd_Bk_isTaken ⟨Nat.le_of_ble_eq_true rfl, Nat.le_of_ble_eq_true rfl⟩) (kp_V (ci := 0) (q := (R_Bk, F_Bk, 9)) (q0 := 0) hK3 (sP_Br_Bk (σ := σ) hP) (hDt3 _) rfl rfl) rfl rfl hl.1 rfl (lv_room (Nat.le_of_ble_eq_true rfl)) d_Br_equip_121 ⟨Nat.zero_le _, Nat.zero_le _⟩) hS hA hP (fun H locs hP hS => ?_)
                refine lv_if_eq (tgt := 130) hx hb d_Br_equip_124 (by decide) (fun c19 => ?_) (fun c19 => ?_)
                · have hk := br_p c19 hk
                  refine lv_aload_n hx hb d_Br_equip_130 rfl (lv_at hl 3 rfl) ?_
                  refine va_get (D := D) (ci := 5) (v := .ref (a 3 0)) (C := R_Br) (T := F_Br) (N := 6) hx hb hts i_uBr hown hK hP 0 rfl rfl 2 (by decide) (hts _ mw_162) (fun _ h9 => h9) rfl d_Br_equip_131 ?_
                  refine lv_aload_n hx hb d_Br_equip_134 rfl (lv_at hl 3 rfl) ?_
                  refine va_get (D := D) (ci := 5) (v := .ref (a 3 0)) (C := R_Br) (T := F_Br) (N := 6) hx hb hts i_uBr hown hK hP 0 rfl rfl 2 (by decide) (hts _ mw_162) (fun _ h9 => h9) rfl d_Br_equip_135 ?_
                  refine lv_iload_n hx hb d_Br_equip_138 rfl (lv_at hl 4 rfl) ?_
                  obtain ⟨q20, e20, hk⟩ := ob_s hk
                  refine kc_R (va_runV (As := [.int p1]) (rest := [.ref (a 3 0)]) ⟨hx, hb, hml, hown, hts⟩ (c_Bk_personOf l D (a 3) (k 3) _ σ.2.2.1 p1 q20 e20) (cwV 1 hts (gV mw_298 mw_299 mw_300 mw_30 mw_301) rfl rfl rfl hd_Bk_personOf ⟨Nat.le_of_ble_eq_true rfl, Nat.le_of_ble_eq_true rfl⟩) (kp_V (ci := 0) (q := (R_Bk, F_Bk, 9)) (q0 := 0) hK3 (sP_Br_Bk (σ := σ) hP) (hDt3 _) rfl rfl) rfl rfl hl.1 rfl (lv_room (Nat.le_of_ble_eq_true rfl)) d_Br_equip_139 ⟨Nat.zero_le _, Nat.zero_le _⟩) hS hA hP (fun H locs hP hS => ?_)
                  refine lv_iload_n hx hb d_Br_equip_142 rfl (lv_at hl 5 rfl) ?_
                  refine lv_iload hx hb d_Br_equip_143 (lv_at hl 1 rfl) ?_
                  refine lv_iload hx hb d_Br_equip_145 (lv_at hl 0 rfl) ?_
                  refine lv_iload_n hx hb d_Br_equip_147 rfl (lv_at hl 4 rfl) ?_
                  obtain ⟨q21, e21, hk⟩ := ob_s hk
                  refine kc_M (wF := wl_Br a k (σ.1, σ.2.1, q21.2, σ.2.2.2.1, σ.2.2.2.2.1, σ.2.2.2.2.2)) (va_runV (As := [.int q20, .int p2, .int q16, .int q17, .int p1]) (rest := []) ⟨hx, hb, hml, hown, hts⟩ (c_Bk_add l D (a 3) (k 3) _ σ.2.2.1 q20 p2 q16 q17 p1 q21 e21) (cwV 5 hts (gV mw_285 mw_286 mw_287 mw_30 mw_288) rfl rfl rfl hd_Bk_add ⟨Nat.le_of_ble_eq_true rfl, Nat.le_of_ble_eq_true rfl⟩) (kp_V (ci := 0) (q := (R_Bk, F_Bk, 9)) (q0 := 0) hK3 (sP_Br_Bk (σ := σ) hP) (hDt3 _) rfl rfl) rfl rfl hl.1 rfl (lv_room (Nat.le_of_ble_eq_true rfl)) d_Br_equip_148 ⟨Nat.zero_le _, Nat.zero_le _⟩) hS (hDw3 _) hA (fun _ _ h h9 => jP_Br_Bk σ q21.2 hP (hDt _) h h9) (fun H locs hP hS => ?_)
                  exact kr_M (w := wl_Br a k) hx hb hr rfl hlocks hS hP hk d_Br_equip_151
                · have hk := br_n c19 hk
                  refine lv_bipush (v := -6) hx hb d_Br_equip_127 (by decide) ?_
                  exact kr_M (w := wl_Br a k) hx hb hr rfl hlocks hS hP hk d_Br_equip_129
              · have hk := br_n c15 hk
                refine lv_iconst (v := 0) hx hb d_Br_equip_89 (by decide) ?_
                exact kr_M (w := wl_Br a k) hx hb hr rfl hlocks hS hP hk d_Br_equip_90
        · have hk := br_n c8 hk
          refine lv_iconst (v := 0) hx hb d_Br_equip_43 (by decide) ?_
          exact kr_M (w := wl_Br a k) hx hb hr rfl hlocks hS hP hk d_Br_equip_44
