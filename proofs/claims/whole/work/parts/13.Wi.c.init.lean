set_option maxHeartbeats 4000000 in
set_option maxRecDepth 100000 in
theorem c_Wi_init (l : Launch) (D : va_G) (h0 sz : Nat) : Met l y_Wi_init w_Wi_init ({ frames := 1, cells := 5, slots := 300, locals := 12 }) (kp_P D cls [] [(h0, .inr (4, [.null, .null, .null, .null, .null, .int 0]))] [.ref h0] sz) (va_Qv (fun (_ : Unit) => True) (fun _ t => ∃ (a : Nat → Nat) (k : Nat → ClassId), a 0 = h0 ∧ va_P D cls (wl_Wi a k i_Wi) t.heap ∧ va_K D cls (ty_Wi k) t ∧ va_D (va_A [(h0, .inr (4, [.null, .null, .null, .null, .null, .int 0]))] sz) (wl_Wi a k i_Wi)) (va_A [(h0, .inr (4, [.null, .null, .null, .null, .null, .int 0]))] sz)) 5 300 (va_A [(h0, .inr (4, [.null, .null, .null, .null, .null, .int 0]))] sz) := by
  refine Met.ofW (cc := b_Wi_init) (maxL := 1) (ret := none) (by decide) rfl ?_
  intro p e s m args below meth c s₁ B hml hv
  obtain ⟨rfl, hsz, hP, hK, hD0⟩ := hv
  have hx := B.exec
  have hb := B.bytes
  have hr := B.returns
  have hts : ∀ w ∈ lw_g, w.before _ s = true := fun w h => atoms_spec (ws := w_Wi_init) B.pre w (List.mem_cons_of_mem _ h)
  have hown : s.vm.findClass R_Wi = some m.cls := findClass_of_methodNamed B.named
  have hlocks := B.notSynchronized
  have hin : meth.name = "<init>" := (name_of_methodNamed B.named B.method).1
  subst hsz
  have hD := hD0.self (sz := s.heap.size)
  generalize hAe : va_A [(h0, .inr (4, [.null, .null, .null, .null, .null, .int 0]))] s.heap.size = A at hD ⊢
  have hA : ∀ q : Nat, s.heap.size ≤ q → A q := fun q h => by rw [← hAe]; exact Or.inr h
  have hS : va_S A s.heap s.heap [] := va_S.rf
  have hP : va_P D cls [(h0, .inr (4, [.null, .null, .null, .null, .null, .int 0]))] s.heap := hP
  have hl := lv_entry ([.ref h0]) (n := 1) (Nat.le_of_ble_eq_true rfl)
  rw [lg_entry_eq]
  generalize (lg_sl ([.ref h0]) ++ List.replicate (1 - (lg_sl ([.ref h0])).length) Slot.unset).toArray = ls at hl ⊢
  have hl : lv_has ls 1 [(0, .ref h0)] := hl
  refine lv_aload_n hx hb d_Wi_init_0 rfl (lv_at hl 0 rfl) ?_
  refine W.objInit hx hb hown (hts _ mw_127) (hts _ mw_40) (hts _ mw_obj) rfl (by rw [hml]; exact hl.1) rfl d_Wi_init_1 (Nat.le_of_ble_eq_true rfl) (Nat.le_of_ble_eq_true rfl) ?_
  refine W.eq (g2 := F0 m 4 ls []) rfl ?_
  refine lv_aload_n hx hb d_Wi_init_4 rfl (lv_at hl 0 rfl) ?_
  refine lv_bipush (v := 60) hx hb d_Wi_init_5 (by decide) ?_
  refine va_newa (a0 := (60, .inl (fun _ => 0))) (N' := 60) (ty := .int) (atype := .int) hx hb (hts _ mw_61) rfl hK hP hD hS hA (fun _ => rfl) (by decide) (by decide) (by decide) (Nat.le_of_ble_eq_true rfl) (Nat.le_of_ble_eq_true rfl) d_Wi_init_7 (fun q1 k1 H hK hP hD hS => ?_)
  have hK : va_K D cls [(k1, .int)] s := hK
  have hP : va_P D cls [(h0, .inr (4, [.null, .null, .null, .null, .null, .int 0])), (q1, .inl (k1, 60, .inl (fun _ => 0)))] H := hP
  have hD : va_D A [(h0, .inr (4, [.null, .null, .null, .null, .null, .int 0])), (q1, .inl (k1, 60, .inl (fun _ => 0)))] := hD
  refine W.widen (k := 1) (n := 60) (Nat.le_of_ble_eq_true rfl) (Nat.le_of_ble_eq_true rfl) ?_
  refine va_putF (D := D) (ci := 4) (v := .ref q1) (ty := (.array .int)) (C := R_Wi) (T := F_Wi) (N := 6) hx hb hts i_uWi t_Wi t_Wi_ok n_Wi hown hK hP hD hS 0 rfl rfl 0 (by decide) (hts _ mw_128) (fun _ h9 => h9) rfl hin rfl (by decide +kernel) rfl rfl (Nat.le_of_ble_eq_true rfl) d_Wi_init_9 (fun H locs hP hD hS => ?_)
  have hP : va_P D cls [(h0, .inr (4, [.ref q1, .null, .null, .null, .null, .int 0])), (q1, .inl (k1, 60, .inl (fun _ => 0)))] H := hP
  have hD : va_D A [(h0, .inr (4, [.ref q1, .null, .null, .null, .null, .int 0])), (q1, .inl (k1, 60, .inl (fun _ => 0)))] := hD
  refine lv_aload_n hx hb d_Wi_init_12 rfl (lv_at hl 0 rfl) ?_
  refine lv_bipush (v := 60) hx hb d_Wi_init_13 (by decide) ?_
  refine va_newa (a0 := (60, .inl (fun _ => 0))) (N' := 60) (ty := .int) (atype := .int) hx hb (hts _ mw_61) rfl hK hP hD hS hA (fun _ => rfl) (by decide) (by decide) (by decide) (Nat.le_of_ble_eq_true rfl) (Nat.le_of_ble_eq_true rfl) d_Wi_init_15 (fun q2 k2 H hK hP hD hS => ?_)
  have hK : va_K D cls [(k1, .int), (k2, .int)] s := hK
  have hP : va_P D cls [(h0, .inr (4, [.ref q1, .null, .null, .null, .null, .int 0])), (q1, .inl (k1, 60, .inl (fun _ => 0))), (q2, .inl (k2, 60, .inl (fun _ => 0)))] H := hP
  have hD : va_D A [(h0, .inr (4, [.ref q1, .null, .null, .null, .null, .int 0])), (q1, .inl (k1, 60, .inl (fun _ => 0))), (q2, .inl (k2, 60, .inl (fun _ => 0)))] := hD
  refine W.widen (k := 2) (n := 120) (Nat.le_of_ble_eq_true rfl) (Nat.le_of_ble_eq_true rfl) ?_
  refine va_putF (D := D) (ci := 4) (v := .ref q2) (ty := (.array .int)) (C := R_Wi) (T := F_Wi) (N := 6) hx hb hts i_uWi t_Wi t_Wi_ok n_Wi hown hK hP hD hS 0 rfl rfl 1 (by decide) (hts _ mw_129) (fun _ h9 => h9) rfl hin rfl (by decide +kernel) rfl rfl (Nat.le_of_ble_eq_true rfl) d_Wi_init_17 (fun H locs hP hD hS => ?_)
  have hP : va_P D cls [(h0, .inr (4, [.ref q1, .ref q2, .null, .null, .null, .int 0])), (q1, .inl (k1, 60, .inl (fun _ => 0))), (q2, .inl (k2, 60, .inl (fun _ => 0)))] H := hP
  have hD : va_D A [(h0, .inr (4, [.ref q1, .ref q2, .null, .null, .null, .int 0])), (q1, .inl (k1, 60, .inl (fun _ => 0))), (q2, .inl (k2, 60, .inl (fun _ => 0)))] := hD
  refine lv_aload_n hx hb d_Wi_init_20 rfl (lv_at hl 0 rfl) ?_
  refine lv_bipush (v := 60) hx hb d_Wi_init_21 (by decide) ?_
  refine va_newa (a0 := (60, .inl (fun _ => 0))) (N' := 60) (ty := .int) (atype := .int) hx hb (hts _ mw_61) rfl hK hP hD hS hA (fun _ => rfl) (by decide) (by decide) (by decide) (Nat.le_of_ble_eq_true rfl) (Nat.le_of_ble_eq_true rfl) d_Wi_init_23 (fun q3 k3 H hK hP hD hS => ?_)
  have hK : va_K D cls [(k1, .int), (k2, .int), (k3, .int)] s := hK
  have hP : va_P D cls [(h0, .inr (4, [.ref q1, .ref q2, .null, .null, .null, .int 0])), (q1, .inl (k1, 60, .inl (fun _ => 0))), (q2, .inl (k2, 60, .inl (fun _ => 0))), (q3, .inl (k3, 60, .inl (fun _ => 0)))] H := hP
  have hD : va_D A [(h0, .inr (4, [.ref q1, .ref q2, .null, .null, .null, .int 0])), (q1, .inl (k1, 60, .inl (fun _ => 0))), (q2, .inl (k2, 60, .inl (fun _ => 0))), (q3, .inl (k3, 60, .inl (fun _ => 0)))] := hD
  refine W.widen (k := 3) (n := 180) (Nat.le_of_ble_eq_true rfl) (Nat.le_of_ble_eq_true rfl) ?_
  refine va_putF (D := D) (ci := 4) (v := .ref q3) (ty := (.array .int)) (C := R_Wi) (T := F_Wi) (N := 6) hx hb hts i_uWi t_Wi t_Wi_ok n_Wi hown hK hP hD hS 0 rfl rfl 2 (by decide) (hts _ mw_130) (fun _ h9 => h9) rfl hin rfl (by decide +kernel) rfl rfl (Nat.le_of_ble_eq_true rfl) d_Wi_init_25 (fun H locs hP hD hS => ?_)
  have hP : va_P D cls [(h0, .inr (4, [.ref q1, .ref q2, .ref q3, .null, .null, .int 0])), (q1, .inl (k1, 60, .inl (fun _ => 0))), (q2, .inl (k2, 60, .inl (fun _ => 0))), (q3, .inl (k3, 60, .inl (fun _ => 0)))] H := hP
  have hD : va_D A [(h0, .inr (4, [.ref q1, .ref q2, .ref q3, .null, .null, .int 0])), (q1, .inl (k1, 60, .inl (fun _ => 0))), (q2, .inl (k2, 60, .inl (fun _ => 0))), (q3, .inl (k3, 60, .inl (fun _ => 0)))] := hD
  refine lv_aload_n hx hb d_Wi_init_28 rfl (lv_at hl 0 rfl) ?_
  refine lv_bipush (v := 60) hx hb d_Wi_init_29 (by decide) ?_
  refine va_newa (a0 := (60, .inl (fun _ => 0))) (N' := 60) (ty := .int) (atype := .int) hx hb (hts _ mw_61) rfl hK hP hD hS hA (fun _ => rfl) (by decide) (by decide) (by decide) (Nat.le_of_ble_eq_true rfl) (Nat.le_of_ble_eq_true rfl) d_Wi_init_31 (fun q4 k4 H hK hP hD hS => ?_)
  have hK : va_K D cls [(k1, .int), (k2, .int), (k3, .int), (k4, .int)] s := hK
  have hP : va_P D cls [(h0, .inr (4, [.ref q1, .ref q2, .ref q3, .null, .null, .int 0])), (q1, .inl (k1, 60, .inl (fun _ => 0))), (q2, .inl (k2, 60, .inl (fun _ => 0))), (q3, .inl (k3, 60, .inl (fun _ => 0))), (q4, .inl (k4, 60, .inl (fun _ => 0)))] H := hP
  have hD : va_D A [(h0, .inr (4, [.ref q1, .ref q2, .ref q3, .null, .null, .int 0])), (q1, .inl (k1, 60, .inl (fun _ => 0))), (q2, .inl (k2, 60, .inl (fun _ => 0))), (q3, .inl (k3, 60, .inl (fun _ => 0))), (q4, .inl (k4, 60, .inl (fun _ => 0)))] := hD
  refine W.widen (k := 4) (n := 240) (Nat.le_of_ble_eq_true rfl) (Nat.le_of_ble_eq_true rfl) ?_
  refine va_putF (D := D) (ci := 4) (v := .ref q4) (ty := (.array .int)) (C := R_Wi) (T := F_Wi) (N := 6) hx hb hts i_uWi t_Wi t_Wi_ok n_Wi hown hK hP hD hS 0 rfl rfl 3 (by decide) (hts _ mw_131) (fun _ h9 => h9) rfl hin rfl (by decide +kernel) rfl rfl (Nat.le_of_ble_eq_true rfl) d_Wi_init_33 (fun H locs hP hD hS => ?_)
  have hP : va_P D cls [(h0, .inr (4, [.ref q1, .ref q2, .ref q3, .ref q4, .null, .int 0])), (q1, .inl (k1, 60, .inl (fun _ => 0))), (q2, .inl (k2, 60, .inl (fun _ => 0))), (q3, .inl (k3, 60, .inl (fun _ => 0))), (q4, .inl (k4, 60, .inl (fun _ => 0)))] H := hP
  have hD : va_D A [(h0, .inr (4, [.ref q1, .ref q2, .ref q3, .ref q4, .null, .int 0])), (q1, .inl (k1, 60, .inl (fun _ => 0))), (q2, .inl (k2, 60, .inl (fun _ => 0))), (q3, .inl (k3, 60, .inl (fun _ => 0))), (q4, .inl (k4, 60, .inl (fun _ => 0)))] := hD
  refine lv_aload_n hx hb d_Wi_init_36 rfl (lv_at hl 0 rfl) ?_
  refine lv_bipush (v := 60) hx hb d_Wi_init_37 (by decide) ?_
  refine va_newa (a0 := (60, .inl (fun _ => 0))) (N' := 60) (ty := .int) (atype := .int) hx hb (hts _ mw_61) rfl hK hP hD hS hA (fun _ => rfl) (by decide) (by decide) (by decide) (Nat.le_of_ble_eq_true rfl) (Nat.le_of_ble_eq_true rfl) d_Wi_init_39 (fun q5 k5 H hK hP hD hS => ?_)
  have hK : va_K D cls [(k1, .int), (k2, .int), (k3, .int), (k4, .int), (k5, .int)] s := hK
  have hP : va_P D cls [(h0, .inr (4, [.ref q1, .ref q2, .ref q3, .ref q4, .null, .int 0])), (q1, .inl (k1, 60, .inl (fun _ => 0))), (q2, .inl (k2, 60, .inl (fun _ => 0))), (q3, .inl (k3, 60, .inl (fun _ => 0))), (q4, .inl (k4, 60, .inl (fun _ => 0))), (q5, .inl (k5, 60, .inl (fun _ => 0)))] H := hP
  have hD : va_D A [(h0, .inr (4, [.ref q1, .ref q2, .ref q3, .ref q4, .null, .int 0])), (q1, .inl (k1, 60, .inl (fun _ => 0))), (q2, .inl (k2, 60, .inl (fun _ => 0))), (q3, .inl (k3, 60, .inl (fun _ => 0))), (q4, .inl (k4, 60, .inl (fun _ => 0))), (q5, .inl (k5, 60, .inl (fun _ => 0)))] := hD
  refine W.widen (k := 5) (n := 300) (Nat.le_of_ble_eq_true rfl) (Nat.le_of_ble_eq_true rfl) ?_
  refine va_putF (D := D) (ci := 4) (v := .ref q5) (ty := (.array .int)) (C := R_Wi) (T := F_Wi) (N := 6) hx hb hts i_uWi t_Wi t_Wi_ok n_Wi hown hK hP hD hS 0 rfl rfl 4 (by decide) (hts _ mw_132) (fun _ h9 => h9) rfl hin rfl (by decide +kernel) rfl rfl (Nat.le_of_ble_eq_true rfl) d_Wi_init_41 (fun H locs hP hD hS => ?_)
  have hP : va_P D cls [(h0, .inr (4, [.ref q1, .ref q2, .ref q3, .ref q4, .ref q5, .int 0])), (q1, .inl (k1, 60, .inl (fun _ => 0))), (q2, .inl (k2, 60, .inl (fun _ => 0))), (q3, .inl (k3, 60, .inl (fun _ => 0))), (q4, .inl (k4, 60, .inl (fun _ => 0))), (q5, .inl (k5, 60, .inl (fun _ => 0)))] H := hP
  have hD : va_D A [(h0, .inr (4, [.ref q1, .ref q2, .ref q3, .ref q4, .ref q5, .int 0])), (q1, .inl (k1, 60, .inl (fun _ => 0))), (q2, .inl (k2, 60, .inl (fun _ => 0))), (q3, .inl (k3, 60, .inl (fun _ => 0))), (q4, .inl (k4, 60, .inl (fun _ => 0))), (q5, .inl (k5, 60, .inl (fun _ => 0)))] := hD
  refine lv_aload_n hx hb d_Wi_init_44 rfl (lv_at hl 0 rfl) ?_
  refine lv_iconst (v := 0) hx hb d_Wi_init_45 (by decide) ?_
  refine va_put (D := D) (ci := 4) (v := .int 0) (ty := .int) (C := R_Wi) (T := F_Wi) (N := 6) hx hb hts i_uWi t_Wi t_Wi_ok n_Wi hown hK hP hD hS 0 rfl rfl 5 (by decide) (hts _ mw_133) (fun _ h9 => h9) rfl (by decide +kernel) rfl rfl (Nat.le_of_ble_eq_true rfl) d_Wi_init_46 (fun H locs hP hD hS => ?_)
  have hP : va_P D cls [(h0, .inr (4, [.ref q1, .ref q2, .ref q3, .ref q4, .ref q5, .int 0])), (q1, .inl (k1, 60, .inl (fun _ => 0))), (q2, .inl (k2, 60, .inl (fun _ => 0))), (q3, .inl (k3, 60, .inl (fun _ => 0))), (q4, .inl (k4, 60, .inl (fun _ => 0))), (q5, .inl (k5, 60, .inl (fun _ => 0)))] H := hP
  have hD : va_D A [(h0, .inr (4, [.ref q1, .ref q2, .ref q3, .ref q4, .ref q5, .int 0])), (q1, .inl (k1, 60, .inl (fun _ => 0))), (q2, .inl (k2, 60, .inl (fun _ => 0))), (q3, .inl (k3, 60, .inl (fun _ => 0))), (q4, .inl (k4, 60, .inl (fun _ => 0))), (q5, .inl (k5, 60, .inl (fun _ => 0)))] := hD
  exact W.vret hx hb hr (fun t ht hW => ⟨⟨(), rfl, trivial, (fun j => ([h0, q1, q2, q3, q4, q5] : List Nat).getD j 0), (fun j => ([k1, k1, k2, k3, k4, k5] : List ClassId).getD j k1), rfl, by rw [ht]; exact hP, va_K.moved hW.alike hK, hD⟩, hS.F ht⟩) hS.2.2 d_Wi_init_49
