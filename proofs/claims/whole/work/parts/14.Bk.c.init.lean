set_option maxHeartbeats 4000000 in
set_option maxRecDepth 100000 in
theorem c_Bk_init (l : Launch) (D : va_G) (h0 sz : Nat) : Met l y_Bk_init w_Bk_init ({ frames := 1, cells := 7, slots := 1406, locals := 12 }) (kp_P D cls [] [(h0, .inr (0, [.null, .null, .null, .null, .null, .null, .int 0, .null, .int 0]))] [.ref h0] sz) (va_Qv (fun (_ : Unit) => True) (fun _ t => ∃ (a : Nat → Nat) (k : Nat → ClassId), a 0 = h0 ∧ va_P D cls (wl_Bk a k i_Bk) t.heap ∧ va_K D cls (ty_Bk k) t ∧ va_D (va_A [(h0, .inr (0, [.null, .null, .null, .null, .null, .null, .int 0, .null, .int 0]))] sz) (wl_Bk a k i_Bk)) (va_A [(h0, .inr (0, [.null, .null, .null, .null, .null, .null, .int 0, .null, .int 0]))] sz)) 7 1406 (va_A [(h0, .inr (0, [.null, .null, .null, .null, .null, .null, .int 0, .null, .int 0]))] sz) := by
  refine Met.ofW (cc := b_Bk_init) (maxL := 1) (ret := none) (by decide) rfl ?_
  intro p e s m args below meth c s₁ B hml hv
  obtain ⟨rfl, hsz, hP, hK, hD0⟩ := hv
  have hx := B.exec
  have hb := B.bytes
  have hr := B.returns
  have hts : ∀ w ∈ lw_g, w.before _ s = true := fun w h => atoms_spec (ws := w_Bk_init) B.pre w (List.mem_cons_of_mem _ h)
  have hown : s.vm.findClass R_Bk = some m.cls := findClass_of_methodNamed B.named
  have hlocks := B.notSynchronized
  have hin : meth.name = "<init>" := (name_of_methodNamed B.named B.method).1
  subst hsz
  have hD := hD0.self (sz := s.heap.size)
  generalize hAe : va_A [(h0, .inr (0, [.null, .null, .null, .null, .null, .null, .int 0, .null, .int 0]))] s.heap.size = A at hD ⊢
  have hA : ∀ q : Nat, s.heap.size ≤ q → A q := fun q h => by rw [← hAe]; exact Or.inr h
  have hS : va_S A s.heap s.heap [] := va_S.rf
  have hP : va_P D cls [(h0, .inr (0, [.null, .null, .null, .null, .null, .null, .int 0, .null, .int 0]))] s.heap := hP
  have hl := lv_entry ([.ref h0]) (n := 1) (Nat.le_of_ble_eq_true rfl)
  rw [lg_entry_eq]
  generalize (lg_sl ([.ref h0]) ++ List.replicate (1 - (lg_sl ([.ref h0])).length) Slot.unset).toArray = ls at hl ⊢
  have hl : lv_has ls 1 [(0, .ref h0)] := hl
  refine lv_aload_n hx hb d_Bk_init_0 rfl (lv_at hl 0 rfl) ?_
  refine W.objInit hx hb hown (hts _ mw_93) (hts _ mw_40) (hts _ mw_obj) rfl (by rw [hml]; exact hl.1) rfl d_Bk_init_1 (Nat.le_of_ble_eq_true rfl) (Nat.le_of_ble_eq_true rfl) ?_
  refine W.eq (g2 := F0 m 4 ls []) rfl ?_
  refine lv_aload_n hx hb d_Bk_init_4 rfl (lv_at hl 0 rfl) ?_
  refine lv_sipush (v := 201) hx hb d_Bk_init_5 (by decide) ?_
  refine va_newa (a0 := (201, .inl (fun _ => 0))) (N' := 201) (ty := .int) (atype := .int) hx hb (hts _ mw_61) rfl hK hP hD hS hA (fun _ => rfl) (by decide) (by decide) (by decide) (Nat.le_of_ble_eq_true rfl) (Nat.le_of_ble_eq_true rfl) d_Bk_init_8 (fun q1 k1 H hK hP hD hS => ?_)
  have hK : va_K D cls [(k1, .int)] s := hK
  have hP : va_P D cls [(h0, .inr (0, [.null, .null, .null, .null, .null, .null, .int 0, .null, .int 0])), (q1, .inl (k1, 201, .inl (fun _ => 0)))] H := hP
  have hD : va_D A [(h0, .inr (0, [.null, .null, .null, .null, .null, .null, .int 0, .null, .int 0])), (q1, .inl (k1, 201, .inl (fun _ => 0)))] := hD
  refine W.widen (k := 1) (n := 201) (Nat.le_of_ble_eq_true rfl) (Nat.le_of_ble_eq_true rfl) ?_
  refine va_putF (D := D) (ci := 0) (v := .ref q1) (ty := (.array .int)) (C := R_Bk) (T := F_Bk) (N := 9) hx hb hts i_uBk t_Bk t_Bk_ok n_Bk hown hK hP hD hS 0 rfl rfl 0 (by decide) (hts _ mw_94) (fun _ h9 => h9) rfl hin rfl (by decide +kernel) rfl rfl (Nat.le_of_ble_eq_true rfl) d_Bk_init_10 (fun H locs hP hD hS => ?_)
  have hP : va_P D cls [(h0, .inr (0, [.ref q1, .null, .null, .null, .null, .null, .int 0, .null, .int 0])), (q1, .inl (k1, 201, .inl (fun _ => 0)))] H := hP
  have hD : va_D A [(h0, .inr (0, [.ref q1, .null, .null, .null, .null, .null, .int 0, .null, .int 0])), (q1, .inl (k1, 201, .inl (fun _ => 0)))] := hD
  refine lv_aload_n hx hb d_Bk_init_13 rfl (lv_at hl 0 rfl) ?_
  refine lv_sipush (v := 201) hx hb d_Bk_init_14 (by decide) ?_
  refine va_newa (a0 := (201, .inl (fun _ => 0))) (N' := 201) (ty := .int) (atype := .int) hx hb (hts _ mw_61) rfl hK hP hD hS hA (fun _ => rfl) (by decide) (by decide) (by decide) (Nat.le_of_ble_eq_true rfl) (Nat.le_of_ble_eq_true rfl) d_Bk_init_17 (fun q2 k2 H hK hP hD hS => ?_)
  have hK : va_K D cls [(k1, .int), (k2, .int)] s := hK
  have hP : va_P D cls [(h0, .inr (0, [.ref q1, .null, .null, .null, .null, .null, .int 0, .null, .int 0])), (q1, .inl (k1, 201, .inl (fun _ => 0))), (q2, .inl (k2, 201, .inl (fun _ => 0)))] H := hP
  have hD : va_D A [(h0, .inr (0, [.ref q1, .null, .null, .null, .null, .null, .int 0, .null, .int 0])), (q1, .inl (k1, 201, .inl (fun _ => 0))), (q2, .inl (k2, 201, .inl (fun _ => 0)))] := hD
  refine W.widen (k := 2) (n := 402) (Nat.le_of_ble_eq_true rfl) (Nat.le_of_ble_eq_true rfl) ?_
  refine va_putF (D := D) (ci := 0) (v := .ref q2) (ty := (.array .int)) (C := R_Bk) (T := F_Bk) (N := 9) hx hb hts i_uBk t_Bk t_Bk_ok n_Bk hown hK hP hD hS 0 rfl rfl 1 (by decide) (hts _ mw_95) (fun _ h9 => h9) rfl hin rfl (by decide +kernel) rfl rfl (Nat.le_of_ble_eq_true rfl) d_Bk_init_19 (fun H locs hP hD hS => ?_)
  have hP : va_P D cls [(h0, .inr (0, [.ref q1, .ref q2, .null, .null, .null, .null, .int 0, .null, .int 0])), (q1, .inl (k1, 201, .inl (fun _ => 0))), (q2, .inl (k2, 201, .inl (fun _ => 0)))] H := hP
  have hD : va_D A [(h0, .inr (0, [.ref q1, .ref q2, .null, .null, .null, .null, .int 0, .null, .int 0])), (q1, .inl (k1, 201, .inl (fun _ => 0))), (q2, .inl (k2, 201, .inl (fun _ => 0)))] := hD
  refine lv_aload_n hx hb d_Bk_init_22 rfl (lv_at hl 0 rfl) ?_
  refine lv_sipush (v := 201) hx hb d_Bk_init_23 (by decide) ?_
  refine va_newa (a0 := (201, .inl (fun _ => 0))) (N' := 201) (ty := .int) (atype := .int) hx hb (hts _ mw_61) rfl hK hP hD hS hA (fun _ => rfl) (by decide) (by decide) (by decide) (Nat.le_of_ble_eq_true rfl) (Nat.le_of_ble_eq_true rfl) d_Bk_init_26 (fun q3 k3 H hK hP hD hS => ?_)
  have hK : va_K D cls [(k1, .int), (k2, .int), (k3, .int)] s := hK
  have hP : va_P D cls [(h0, .inr (0, [.ref q1, .ref q2, .null, .null, .null, .null, .int 0, .null, .int 0])), (q1, .inl (k1, 201, .inl (fun _ => 0))), (q2, .inl (k2, 201, .inl (fun _ => 0))), (q3, .inl (k3, 201, .inl (fun _ => 0)))] H := hP
  have hD : va_D A [(h0, .inr (0, [.ref q1, .ref q2, .null, .null, .null, .null, .int 0, .null, .int 0])), (q1, .inl (k1, 201, .inl (fun _ => 0))), (q2, .inl (k2, 201, .inl (fun _ => 0))), (q3, .inl (k3, 201, .inl (fun _ => 0)))] := hD
  refine W.widen (k := 3) (n := 603) (Nat.le_of_ble_eq_true rfl) (Nat.le_of_ble_eq_true rfl) ?_
  refine va_putF (D := D) (ci := 0) (v := .ref q3) (ty := (.array .int)) (C := R_Bk) (T := F_Bk) (N := 9) hx hb hts i_uBk t_Bk t_Bk_ok n_Bk hown hK hP hD hS 0 rfl rfl 2 (by decide) (hts _ mw_96) (fun _ h9 => h9) rfl hin rfl (by decide +kernel) rfl rfl (Nat.le_of_ble_eq_true rfl) d_Bk_init_28 (fun H locs hP hD hS => ?_)
  have hP : va_P D cls [(h0, .inr (0, [.ref q1, .ref q2, .ref q3, .null, .null, .null, .int 0, .null, .int 0])), (q1, .inl (k1, 201, .inl (fun _ => 0))), (q2, .inl (k2, 201, .inl (fun _ => 0))), (q3, .inl (k3, 201, .inl (fun _ => 0)))] H := hP
  have hD : va_D A [(h0, .inr (0, [.ref q1, .ref q2, .ref q3, .null, .null, .null, .int 0, .null, .int 0])), (q1, .inl (k1, 201, .inl (fun _ => 0))), (q2, .inl (k2, 201, .inl (fun _ => 0))), (q3, .inl (k3, 201, .inl (fun _ => 0)))] := hD
  refine lv_aload_n hx hb d_Bk_init_31 rfl (lv_at hl 0 rfl) ?_
  refine lv_sipush (v := 201) hx hb d_Bk_init_32 (by decide) ?_
  refine va_newa (a0 := (201, .inl (fun _ => 0))) (N' := 201) (ty := .int) (atype := .int) hx hb (hts _ mw_61) rfl hK hP hD hS hA (fun _ => rfl) (by decide) (by decide) (by decide) (Nat.le_of_ble_eq_true rfl) (Nat.le_of_ble_eq_true rfl) d_Bk_init_35 (fun q4 k4 H hK hP hD hS => ?_)
  have hK : va_K D cls [(k1, .int), (k2, .int), (k3, .int), (k4, .int)] s := hK
  have hP : va_P D cls [(h0, .inr (0, [.ref q1, .ref q2, .ref q3, .null, .null, .null, .int 0, .null, .int 0])), (q1, .inl (k1, 201, .inl (fun _ => 0))), (q2, .inl (k2, 201, .inl (fun _ => 0))), (q3, .inl (k3, 201, .inl (fun _ => 0))), (q4, .inl (k4, 201, .inl (fun _ => 0)))] H := hP
  have hD : va_D A [(h0, .inr (0, [.ref q1, .ref q2, .ref q3, .null, .null, .null, .int 0, .null, .int 0])), (q1, .inl (k1, 201, .inl (fun _ => 0))), (q2, .inl (k2, 201, .inl (fun _ => 0))), (q3, .inl (k3, 201, .inl (fun _ => 0))), (q4, .inl (k4, 201, .inl (fun _ => 0)))] := hD
  refine W.widen (k := 4) (n := 804) (Nat.le_of_ble_eq_true rfl) (Nat.le_of_ble_eq_true rfl) ?_
  refine va_putF (D := D) (ci := 0) (v := .ref q4) (ty := (.array .int)) (C := R_Bk) (T := F_Bk) (N := 9) hx hb hts i_uBk t_Bk t_Bk_ok n_Bk hown hK hP hD hS 0 rfl rfl 3 (by decide) (hts _ mw_97) (fun _ h9 => h9) rfl hin rfl (by decide +kernel) rfl rfl (Nat.le_of_ble_eq_true rfl) d_Bk_init_37 (fun H locs hP hD hS => ?_)
  have hP : va_P D cls [(h0, .inr (0, [.ref q1, .ref q2, .ref q3, .ref q4, .null, .null, .int 0, .null, .int 0])), (q1, .inl (k1, 201, .inl (fun _ => 0))), (q2, .inl (k2, 201, .inl (fun _ => 0))), (q3, .inl (k3, 201, .inl (fun _ => 0))), (q4, .inl (k4, 201, .inl (fun _ => 0)))] H := hP
  have hD : va_D A [(h0, .inr (0, [.ref q1, .ref q2, .ref q3, .ref q4, .null, .null, .int 0, .null, .int 0])), (q1, .inl (k1, 201, .inl (fun _ => 0))), (q2, .inl (k2, 201, .inl (fun _ => 0))), (q3, .inl (k3, 201, .inl (fun _ => 0))), (q4, .inl (k4, 201, .inl (fun _ => 0)))] := hD
  refine lv_aload_n hx hb d_Bk_init_40 rfl (lv_at hl 0 rfl) ?_
  refine lv_sipush (v := 201) hx hb d_Bk_init_41 (by decide) ?_
  refine va_newa (a0 := (201, .inl (fun _ => 0))) (N' := 201) (ty := .int) (atype := .int) hx hb (hts _ mw_61) rfl hK hP hD hS hA (fun _ => rfl) (by decide) (by decide) (by decide) (Nat.le_of_ble_eq_true rfl) (Nat.le_of_ble_eq_true rfl) d_Bk_init_44 (fun q5 k5 H hK hP hD hS => ?_)
  have hK : va_K D cls [(k1, .int), (k2, .int), (k3, .int), (k4, .int), (k5, .int)] s := hK
  have hP : va_P D cls [(h0, .inr (0, [.ref q1, .ref q2, .ref q3, .ref q4, .null, .null, .int 0, .null, .int 0])), (q1, .inl (k1, 201, .inl (fun _ => 0))), (q2, .inl (k2, 201, .inl (fun _ => 0))), (q3, .inl (k3, 201, .inl (fun _ => 0))), (q4, .inl (k4, 201, .inl (fun _ => 0))), (q5, .inl (k5, 201, .inl (fun _ => 0)))] H := hP
  have hD : va_D A [(h0, .inr (0, [.ref q1, .ref q2, .ref q3, .ref q4, .null, .null, .int 0, .null, .int 0])), (q1, .inl (k1, 201, .inl (fun _ => 0))), (q2, .inl (k2, 201, .inl (fun _ => 0))), (q3, .inl (k3, 201, .inl (fun _ => 0))), (q4, .inl (k4, 201, .inl (fun _ => 0))), (q5, .inl (k5, 201, .inl (fun _ => 0)))] := hD
  refine W.widen (k := 5) (n := 1005) (Nat.le_of_ble_eq_true rfl) (Nat.le_of_ble_eq_true rfl) ?_
  refine va_putF (D := D) (ci := 0) (v := .ref q5) (ty := (.array .int)) (C := R_Bk) (T := F_Bk) (N := 9) hx hb hts i_uBk t_Bk t_Bk_ok n_Bk hown hK hP hD hS 0 rfl rfl 4 (by decide) (hts _ mw_98) (fun _ h9 => h9) rfl hin rfl (by decide +kernel) rfl rfl (Nat.le_of_ble_eq_true rfl) d_Bk_init_46 (fun H locs hP hD hS => ?_)
  have hP : va_P D cls [(h0, .inr (0, [.ref q1, .ref q2, .ref q3, .ref q4, .ref q5, .null, .int 0, .null, .int 0])), (q1, .inl (k1, 201, .inl (fun _ => 0))), (q2, .inl (k2, 201, .inl (fun _ => 0))), (q3, .inl (k3, 201, .inl (fun _ => 0))), (q4, .inl (k4, 201, .inl (fun _ => 0))), (q5, .inl (k5, 201, .inl (fun _ => 0)))] H := hP
  have hD : va_D A [(h0, .inr (0, [.ref q1, .ref q2, .ref q3, .ref q4, .ref q5, .null, .int 0, .null, .int 0])), (q1, .inl (k1, 201, .inl (fun _ => 0))), (q2, .inl (k2, 201, .inl (fun _ => 0))), (q3, .inl (k3, 201, .inl (fun _ => 0))), (q4, .inl (k4, 201, .inl (fun _ => 0))), (q5, .inl (k5, 201, .inl (fun _ => 0)))] := hD
  refine lv_aload_n hx hb d_Bk_init_49 rfl (lv_at hl 0 rfl) ?_
  refine lv_sipush (v := 201) hx hb d_Bk_init_50 (by decide) ?_
  refine va_newa (a0 := (201, .inl (fun _ => 0))) (N' := 201) (ty := .int) (atype := .int) hx hb (hts _ mw_61) rfl hK hP hD hS hA (fun _ => rfl) (by decide) (by decide) (by decide) (Nat.le_of_ble_eq_true rfl) (Nat.le_of_ble_eq_true rfl) d_Bk_init_53 (fun q6 k6 H hK hP hD hS => ?_)
  have hK : va_K D cls [(k1, .int), (k2, .int), (k3, .int), (k4, .int), (k5, .int), (k6, .int)] s := hK
  have hP : va_P D cls [(h0, .inr (0, [.ref q1, .ref q2, .ref q3, .ref q4, .ref q5, .null, .int 0, .null, .int 0])), (q1, .inl (k1, 201, .inl (fun _ => 0))), (q2, .inl (k2, 201, .inl (fun _ => 0))), (q3, .inl (k3, 201, .inl (fun _ => 0))), (q4, .inl (k4, 201, .inl (fun _ => 0))), (q5, .inl (k5, 201, .inl (fun _ => 0))), (q6, .inl (k6, 201, .inl (fun _ => 0)))] H := hP
  have hD : va_D A [(h0, .inr (0, [.ref q1, .ref q2, .ref q3, .ref q4, .ref q5, .null, .int 0, .null, .int 0])), (q1, .inl (k1, 201, .inl (fun _ => 0))), (q2, .inl (k2, 201, .inl (fun _ => 0))), (q3, .inl (k3, 201, .inl (fun _ => 0))), (q4, .inl (k4, 201, .inl (fun _ => 0))), (q5, .inl (k5, 201, .inl (fun _ => 0))), (q6, .inl (k6, 201, .inl (fun _ => 0)))] := hD
  refine W.widen (k := 6) (n := 1206) (Nat.le_of_ble_eq_true rfl) (Nat.le_of_ble_eq_true rfl) ?_
  refine va_putF (D := D) (ci := 0) (v := .ref q6) (ty := (.array .int)) (C := R_Bk) (T := F_Bk) (N := 9) hx hb hts i_uBk t_Bk t_Bk_ok n_Bk hown hK hP hD hS 0 rfl rfl 5 (by decide) (hts _ mw_99) (fun _ h9 => h9) rfl hin rfl (by decide +kernel) rfl rfl (Nat.le_of_ble_eq_true rfl) d_Bk_init_55 (fun H locs hP hD hS => ?_)
  have hP : va_P D cls [(h0, .inr (0, [.ref q1, .ref q2, .ref q3, .ref q4, .ref q5, .ref q6, .int 0, .null, .int 0])), (q1, .inl (k1, 201, .inl (fun _ => 0))), (q2, .inl (k2, 201, .inl (fun _ => 0))), (q3, .inl (k3, 201, .inl (fun _ => 0))), (q4, .inl (k4, 201, .inl (fun _ => 0))), (q5, .inl (k5, 201, .inl (fun _ => 0))), (q6, .inl (k6, 201, .inl (fun _ => 0)))] H := hP
  have hD : va_D A [(h0, .inr (0, [.ref q1, .ref q2, .ref q3, .ref q4, .ref q5, .ref q6, .int 0, .null, .int 0])), (q1, .inl (k1, 201, .inl (fun _ => 0))), (q2, .inl (k2, 201, .inl (fun _ => 0))), (q3, .inl (k3, 201, .inl (fun _ => 0))), (q4, .inl (k4, 201, .inl (fun _ => 0))), (q5, .inl (k5, 201, .inl (fun _ => 0))), (q6, .inl (k6, 201, .inl (fun _ => 0)))] := hD
  refine lv_aload_n hx hb d_Bk_init_58 rfl (lv_at hl 0 rfl) ?_
  refine lv_iconst (v := 0) hx hb d_Bk_init_59 (by decide) ?_
  refine va_put (D := D) (ci := 0) (v := .int 0) (ty := .int) (C := R_Bk) (T := F_Bk) (N := 9) hx hb hts i_uBk t_Bk t_Bk_ok n_Bk hown hK hP hD hS 0 rfl rfl 6 (by decide) (hts _ mw_100) (fun _ h9 => h9) rfl (by decide +kernel) rfl rfl (Nat.le_of_ble_eq_true rfl) d_Bk_init_60 (fun H locs hP hD hS => ?_)
  have hP : va_P D cls [(h0, .inr (0, [.ref q1, .ref q2, .ref q3, .ref q4, .ref q5, .ref q6, .int 0, .null, .int 0])), (q1, .inl (k1, 201, .inl (fun _ => 0))), (q2, .inl (k2, 201, .inl (fun _ => 0))), (q3, .inl (k3, 201, .inl (fun _ => 0))), (q4, .inl (k4, 201, .inl (fun _ => 0))), (q5, .inl (k5, 201, .inl (fun _ => 0))), (q6, .inl (k6, 201, .inl (fun _ => 0)))] H := hP
  have hD : va_D A [(h0, .inr (0, [.ref q1, .ref q2, .ref q3, .ref q4, .ref q5, .ref q6, .int 0, .null, .int 0])), (q1, .inl (k1, 201, .inl (fun _ => 0))), (q2, .inl (k2, 201, .inl (fun _ => 0))), (q3, .inl (k3, 201, .inl (fun _ => 0))), (q4, .inl (k4, 201, .inl (fun _ => 0))), (q5, .inl (k5, 201, .inl (fun _ => 0))), (q6, .inl (k6, 201, .inl (fun _ => 0)))] := hD
  refine lv_aload_n hx hb d_Bk_init_63 rfl (lv_at hl 0 rfl) ?_
  refine lv_sipush (v := 200) hx hb d_Bk_init_64 (by decide) ?_
  refine va_newa (a0 := (200, .inl (fun _ => 0))) (N' := 200) (ty := .int) (atype := .int) hx hb (hts _ mw_61) rfl hK hP hD hS hA (fun _ => rfl) (by decide) (by decide) (by decide) (Nat.le_of_ble_eq_true rfl) (Nat.le_of_ble_eq_true rfl) d_Bk_init_67 (fun q7 k7 H hK hP hD hS => ?_)
  have hK : va_K D cls [(k1, .int), (k2, .int), (k3, .int), (k4, .int), (k5, .int), (k6, .int), (k7, .int)] s := hK
  have hP : va_P D cls [(h0, .inr (0, [.ref q1, .ref q2, .ref q3, .ref q4, .ref q5, .ref q6, .int 0, .null, .int 0])), (q1, .inl (k1, 201, .inl (fun _ => 0))), (q2, .inl (k2, 201, .inl (fun _ => 0))), (q3, .inl (k3, 201, .inl (fun _ => 0))), (q4, .inl (k4, 201, .inl (fun _ => 0))), (q5, .inl (k5, 201, .inl (fun _ => 0))), (q6, .inl (k6, 201, .inl (fun _ => 0))), (q7, .inl (k7, 200, .inl (fun _ => 0)))] H := hP
  have hD : va_D A [(h0, .inr (0, [.ref q1, .ref q2, .ref q3, .ref q4, .ref q5, .ref q6, .int 0, .null, .int 0])), (q1, .inl (k1, 201, .inl (fun _ => 0))), (q2, .inl (k2, 201, .inl (fun _ => 0))), (q3, .inl (k3, 201, .inl (fun _ => 0))), (q4, .inl (k4, 201, .inl (fun _ => 0))), (q5, .inl (k5, 201, .inl (fun _ => 0))), (q6, .inl (k6, 201, .inl (fun _ => 0))), (q7, .inl (k7, 200, .inl (fun _ => 0)))] := hD
  refine W.widen (k := 7) (n := 1406) (Nat.le_of_ble_eq_true rfl) (Nat.le_of_ble_eq_true rfl) ?_
  refine va_putF (D := D) (ci := 0) (v := .ref q7) (ty := (.array .int)) (C := R_Bk) (T := F_Bk) (N := 9) hx hb hts i_uBk t_Bk t_Bk_ok n_Bk hown hK hP hD hS 0 rfl rfl 7 (by decide) (hts _ mw_101) (fun _ h9 => h9) rfl hin rfl (by decide +kernel) rfl rfl (Nat.le_of_ble_eq_true rfl) d_Bk_init_69 (fun H locs hP hD hS => ?_)
  have hP : va_P D cls [(h0, .inr (0, [.ref q1, .ref q2, .ref q3, .ref q4, .ref q5, .ref q6, .int 0, .ref q7, .int 0])), (q1, .inl (k1, 201, .inl (fun _ => 0))), (q2, .inl (k2, 201, .inl (fun _ => 0))), (q3, .inl (k3, 201, .inl (fun _ => 0))), (q4, .inl (k4, 201, .inl (fun _ => 0))), (q5, .inl (k5, 201, .inl (fun _ => 0))), (q6, .inl (k6, 201, .inl (fun _ => 0))), (q7, .inl (k7, 200, .inl (fun _ => 0)))] H := hP
  have hD : va_D A [(h0, .inr (0, [.ref q1, .ref q2, .ref q3, .ref q4, .ref q5, .ref q6, .int 0, .ref q7, .int 0])), (q1, .inl (k1, 201, .inl (fun _ => 0))), (q2, .inl (k2, 201, .inl (fun _ => 0))), (q3, .inl (k3, 201, .inl (fun _ => 0))), (q4, .inl (k4, 201, .inl (fun _ => 0))), (q5, .inl (k5, 201, .inl (fun _ => 0))), (q6, .inl (k6, 201, .inl (fun _ => 0))), (q7, .inl (k7, 200, .inl (fun _ => 0)))] := hD
  refine lv_aload_n hx hb d_Bk_init_72 rfl (lv_at hl 0 rfl) ?_
  refine lv_iconst (v := 0) hx hb d_Bk_init_73 (by decide) ?_
  refine va_put (D := D) (ci := 0) (v := .int 0) (ty := .int) (C := R_Bk) (T := F_Bk) (N := 9) hx hb hts i_uBk t_Bk t_Bk_ok n_Bk hown hK hP hD hS 0 rfl rfl 8 (by decide) (hts _ mw_102) (fun _ h9 => h9) rfl (by decide +kernel) rfl rfl (Nat.le_of_ble_eq_true rfl) d_Bk_init_74 (fun H locs hP hD hS => ?_)
  have hP : va_P D cls [(h0, .inr (0, [.ref q1, .ref q2, .ref q3, .ref q4, .ref q5, .ref q6, .int 0, .ref q7, .int 0])), (q1, .inl (k1, 201, .inl (fun _ => 0))), (q2, .inl (k2, 201, .inl (fun _ => 0))), (q3, .inl (k3, 201, .inl (fun _ => 0))), (q4, .inl (k4, 201, .inl (fun _ => 0))), (q5, .inl (k5, 201, .inl (fun _ => 0))), (q6, .inl (k6, 201, .inl (fun _ => 0))), (q7, .inl (k7, 200, .inl (fun _ => 0)))] H := hP
  have hD : va_D A [(h0, .inr (0, [.ref q1, .ref q2, .ref q3, .ref q4, .ref q5, .ref q6, .int 0, .ref q7, .int 0])), (q1, .inl (k1, 201, .inl (fun _ => 0))), (q2, .inl (k2, 201, .inl (fun _ => 0))), (q3, .inl (k3, 201, .inl (fun _ => 0))), (q4, .inl (k4, 201, .inl (fun _ => 0))), (q5, .inl (k5, 201, .inl (fun _ => 0))), (q6, .inl (k6, 201, .inl (fun _ => 0))), (q7, .inl (k7, 200, .inl (fun _ => 0)))] := hD
  exact W.vret hx hb hr (fun t ht hW => ⟨⟨(), rfl, trivial, (fun j => ([h0, q1, q2, q3, q4, q5, q6, q7] : List Nat).getD j 0), (fun j => ([k1, k1, k2, k3, k4, k5, k6, k7] : List ClassId).getD j k1), rfl, by rw [ht]; exact hP, va_K.moved hW.alike hK, hD⟩, hS.F ht⟩) hS.2.2 d_Bk_init_77
