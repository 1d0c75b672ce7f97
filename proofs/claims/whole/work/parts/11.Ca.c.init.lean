set_option maxHeartbeats 4000000 in
set_option maxRecDepth 100000 in
theorem c_Ca_init (l : Launch) (D : va_G) (h0 sz : Nat) : Met l y_Ca_init w_Ca_init ({ frames := 1, cells := 3, slots := 751, locals := 12 }) (kp_P D cls [] [(h0, .inr (1, [.null, .null, .null, .int 0]))] [.ref h0] sz) (va_Qv (fun (_ : Unit) => True) (fun _ t => ∃ (a : Nat → Nat) (k : Nat → ClassId), a 0 = h0 ∧ va_P D cls (wl_Ca a k i_Ca) t.heap ∧ va_K D cls (ty_Ca k) t ∧ va_D (va_A [(h0, .inr (1, [.null, .null, .null, .int 0]))] sz) (wl_Ca a k i_Ca)) (va_A [(h0, .inr (1, [.null, .null, .null, .int 0]))] sz)) 3 751 (va_A [(h0, .inr (1, [.null, .null, .null, .int 0]))] sz) := by
  refine Met.ofW (cc := b_Ca_init) (maxL := 1) (ret := none) (by decide) rfl ?_
  intro p e s m args below meth c s₁ B hml hv
  obtain ⟨rfl, hsz, hP, hK, hD0⟩ := hv
  have hx := B.exec
  have hb := B.bytes
  have hr := B.returns
  have hts : ∀ w ∈ lw_g, w.before _ s = true := fun w h => atoms_spec (ws := w_Ca_init) B.pre w (List.mem_cons_of_mem _ h)
  have hown : s.vm.findClass R_Ca = some m.cls := findClass_of_methodNamed B.named
  have hlocks := B.notSynchronized
  have hin : meth.name = "<init>" := (name_of_methodNamed B.named B.method).1
  subst hsz
  have hD := hD0.self (sz := s.heap.size)
  generalize hAe : va_A [(h0, .inr (1, [.null, .null, .null, .int 0]))] s.heap.size = A at hD ⊢
  have hA : ∀ q : Nat, s.heap.size ≤ q → A q := fun q h => by rw [← hAe]; exact Or.inr h
  have hS : va_S A s.heap s.heap [] := va_S.rf
  have hP : va_P D cls [(h0, .inr (1, [.null, .null, .null, .int 0]))] s.heap := hP
  have hl := lv_entry ([.ref h0]) (n := 1) (Nat.le_of_ble_eq_true rfl)
  rw [lg_entry_eq]
  generalize (lg_sl ([.ref h0]) ++ List.replicate (1 - (lg_sl ([.ref h0])).length) Slot.unset).toArray = ls at hl ⊢
  have hl : lv_has ls 1 [(0, .ref h0)] := hl
  refine lv_aload_n hx hb d_Ca_init_0 rfl (lv_at hl 0 rfl) ?_
  refine W.objInit hx hb hown (hts _ mw_47) (hts _ mw_40) (hts _ mw_obj) rfl (by rw [hml]; exact hl.1) rfl d_Ca_init_1 (Nat.le_of_ble_eq_true rfl) (Nat.le_of_ble_eq_true rfl) ?_
  refine W.eq (g2 := F0 m 4 ls []) rfl ?_
  refine lv_aload_n hx hb d_Ca_init_4 rfl (lv_at hl 0 rfl) ?_
  refine lv_bipush (v := 28) hx hb d_Ca_init_5 (by decide) ?_
  refine va_newa (a0 := (28, .inl (fun _ => 0))) (N' := 28) (ty := .int) (atype := .int) hx hb (hts _ mw_61) rfl hK hP hD hS hA (fun _ => rfl) (by decide) (by decide) (by decide) (Nat.le_of_ble_eq_true rfl) (Nat.le_of_ble_eq_true rfl) d_Ca_init_7 (fun q1 k1 H hK hP hD hS => ?_)
  have hK : va_K D cls [(k1, .int)] s := hK
  have hP : va_P D cls [(h0, .inr (1, [.null, .null, .null, .int 0])), (q1, .inl (k1, 28, .inl (fun _ => 0)))] H := hP
  have hD : va_D A [(h0, .inr (1, [.null, .null, .null, .int 0])), (q1, .inl (k1, 28, .inl (fun _ => 0)))] := hD
  refine W.widen (k := 1) (n := 28) (Nat.le_of_ble_eq_true rfl) (Nat.le_of_ble_eq_true rfl) ?_
  refine va_putF (D := D) (ci := 1) (v := .ref q1) (ty := (.array .int)) (C := R_Ca) (T := F_Ca) (N := 4) hx hb hts i_uCa t_Ca t_Ca_ok n_Ca hown hK hP hD hS 0 rfl rfl 0 (by decide) (hts _ mw_48) (fun _ h9 => h9) rfl hin rfl (by decide +kernel) rfl rfl (Nat.le_of_ble_eq_true rfl) d_Ca_init_9 (fun H locs hP hD hS => ?_)
  have hP : va_P D cls [(h0, .inr (1, [.ref q1, .null, .null, .int 0])), (q1, .inl (k1, 28, .inl (fun _ => 0)))] H := hP
  have hD : va_D A [(h0, .inr (1, [.ref q1, .null, .null, .int 0])), (q1, .inl (k1, 28, .inl (fun _ => 0)))] := hD
  refine lv_aload_n hx hb d_Ca_init_12 rfl (lv_at hl 0 rfl) ?_
  refine lv_bipush (v := 28) hx hb d_Ca_init_13 (by decide) ?_
  refine va_newa (a0 := (28, .inl (fun _ => 0))) (N' := 28) (ty := .int) (atype := .int) hx hb (hts _ mw_61) rfl hK hP hD hS hA (fun _ => rfl) (by decide) (by decide) (by decide) (Nat.le_of_ble_eq_true rfl) (Nat.le_of_ble_eq_true rfl) d_Ca_init_15 (fun q2 k2 H hK hP hD hS => ?_)
  have hK : va_K D cls [(k1, .int), (k2, .int)] s := hK
  have hP : va_P D cls [(h0, .inr (1, [.ref q1, .null, .null, .int 0])), (q1, .inl (k1, 28, .inl (fun _ => 0))), (q2, .inl (k2, 28, .inl (fun _ => 0)))] H := hP
  have hD : va_D A [(h0, .inr (1, [.ref q1, .null, .null, .int 0])), (q1, .inl (k1, 28, .inl (fun _ => 0))), (q2, .inl (k2, 28, .inl (fun _ => 0)))] := hD
  refine W.widen (k := 2) (n := 56) (Nat.le_of_ble_eq_true rfl) (Nat.le_of_ble_eq_true rfl) ?_
  refine va_putF (D := D) (ci := 1) (v := .ref q2) (ty := (.array .int)) (C := R_Ca) (T := F_Ca) (N := 4) hx hb hts i_uCa t_Ca t_Ca_ok n_Ca hown hK hP hD hS 0 rfl rfl 1 (by decide) (hts _ mw_49) (fun _ h9 => h9) rfl hin rfl (by decide +kernel) rfl rfl (Nat.le_of_ble_eq_true rfl) d_Ca_init_17 (fun H locs hP hD hS => ?_)
  have hP : va_P D cls [(h0, .inr (1, [.ref q1, .ref q2, .null, .int 0])), (q1, .inl (k1, 28, .inl (fun _ => 0))), (q2, .inl (k2, 28, .inl (fun _ => 0)))] H := hP
  have hD : va_D A [(h0, .inr (1, [.ref q1, .ref q2, .null, .int 0])), (q1, .inl (k1, 28, .inl (fun _ => 0))), (q2, .inl (k2, 28, .inl (fun _ => 0)))] := hD
  refine lv_aload_n hx hb d_Ca_init_20 rfl (lv_at hl 0 rfl) ?_
  refine lv_sipush (v := 695) hx hb d_Ca_init_21 (by decide) ?_
  refine va_newa (a0 := (695, .inl (fun _ => 0))) (N' := 695) (ty := .boolean) (atype := .boolean) hx hb (hts _ mw_62) rfl hK hP hD hS hA (fun _ => rfl) (by decide) (by decide) (by decide) (Nat.le_of_ble_eq_true rfl) (Nat.le_of_ble_eq_true rfl) d_Ca_init_24 (fun q3 k3 H hK hP hD hS => ?_)
  have hK : va_K D cls [(k1, .int), (k2, .int), (k3, .boolean)] s := hK
  have hP : va_P D cls [(h0, .inr (1, [.ref q1, .ref q2, .null, .int 0])), (q1, .inl (k1, 28, .inl (fun _ => 0))), (q2, .inl (k2, 28, .inl (fun _ => 0))), (q3, .inl (k3, 695, .inl (fun _ => 0)))] H := hP
  have hD : va_D A [(h0, .inr (1, [.ref q1, .ref q2, .null, .int 0])), (q1, .inl (k1, 28, .inl (fun _ => 0))), (q2, .inl (k2, 28, .inl (fun _ => 0))), (q3, .inl (k3, 695, .inl (fun _ => 0)))] := hD
  refine W.widen (k := 3) (n := 751) (Nat.le_of_ble_eq_true rfl) (Nat.le_of_ble_eq_true rfl) ?_
  refine va_putF (D := D) (ci := 1) (v := .ref q3) (ty := (.array .boolean)) (C := R_Ca) (T := F_Ca) (N := 4) hx hb hts i_uCa t_Ca t_Ca_ok n_Ca hown hK hP hD hS 0 rfl rfl 2 (by decide) (hts _ mw_50) (fun _ h9 => h9) rfl hin rfl (by decide +kernel) rfl rfl (Nat.le_of_ble_eq_true rfl) d_Ca_init_26 (fun H locs hP hD hS => ?_)
  have hP : va_P D cls [(h0, .inr (1, [.ref q1, .ref q2, .ref q3, .int 0])), (q1, .inl (k1, 28, .inl (fun _ => 0))), (q2, .inl (k2, 28, .inl (fun _ => 0))), (q3, .inl (k3, 695, .inl (fun _ => 0)))] H := hP
  have hD : va_D A [(h0, .inr (1, [.ref q1, .ref q2, .ref q3, .int 0])), (q1, .inl (k1, 28, .inl (fun _ => 0))), (q2, .inl (k2, 28, .inl (fun _ => 0))), (q3, .inl (k3, 695, .inl (fun _ => 0)))] := hD
  refine lv_aload_n hx hb d_Ca_init_29 rfl (lv_at hl 0 rfl) ?_
  refine lv_iconst (v := 0) hx hb d_Ca_init_30 (by decide) ?_
  refine va_put (D := D) (ci := 1) (v := .int 0) (ty := .int) (C := R_Ca) (T := F_Ca) (N := 4) hx hb hts i_uCa t_Ca t_Ca_ok n_Ca hown hK hP hD hS 0 rfl rfl 3 (by decide) (hts _ mw_51) (fun _ h9 => h9) rfl (by decide +kernel) rfl rfl (Nat.le_of_ble_eq_true rfl) d_Ca_init_31 (fun H locs hP hD hS => ?_)
  have hP : va_P D cls [(h0, .inr (1, [.ref q1, .ref q2, .ref q3, .int 0])), (q1, .inl (k1, 28, .inl (fun _ => 0))), (q2, .inl (k2, 28, .inl (fun _ => 0))), (q3, .inl (k3, 695, .inl (fun _ => 0)))] H := hP
  have hD : va_D A [(h0, .inr (1, [.ref q1, .ref q2, .ref q3, .int 0])), (q1, .inl (k1, 28, .inl (fun _ => 0))), (q2, .inl (k2, 28, .inl (fun _ => 0))), (q3, .inl (k3, 695, .inl (fun _ => 0)))] := hD
  exact W.vret hx hb hr (fun t ht hW => ⟨⟨(), rfl, trivial, (fun j => ([h0, q1, q2, q3] : List Nat).getD j 0), (fun j => ([k1, k1, k2, k3] : List ClassId).getD j k1), rfl, by rw [ht]; exact hP, va_K.moved hW.alike hK, hD⟩, hS.F ht⟩) hS.2.2 d_Ca_init_34
