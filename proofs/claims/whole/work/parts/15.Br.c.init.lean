/-- the nest words of the constructor -/
def nestL : List (Nat × MethodName) := [(11, y_Ca_init), (18, y_Th_init), (25, y_Bk_init), (32, y_Wi_init), (39, y_Pe_init)]
def kp_N (D : va_G) (cl : List vw_C) (ws : va_W) (av : List Value) (sz : Nat) : Array Value → State → Prop := fun v U => kp_P D cl [] ws av sz v U ∧ ∀ q ∈ nestL, va_Nw (.methodLinkNest R_Br q.1 q.2 "BookingRows") U
theorem kp_Nfb {D : va_G} {cl : List vw_C} {ws : va_W} {av : List Value} {sz : Nat} : FrameBlind (kp_N D cl ws av sz) := fun a U g mk q => ⟨kp_fb a U g mk q.1, fun w h => va_Nw.same rfl rfl (q.2 w h)⟩
set_option maxHeartbeats 4000000 in
set_option maxRecDepth 100000 in
theorem c_Br_init (l : Launch) (D : va_G) (h0 sz : Nat) : Met l y_Br_init w_Br_init ({ frames := 2, cells := 27, slots := 2714, locals := 32 }) (kp_N D cls [(h0, .inr (5, [.null, .null, .null, .null, .null, .int 0]))] [.ref h0] sz) (va_Qv (fun (_ : Unit) => True) (fun _ t => ∃ (a : Nat → Nat → Nat) (k : Nat → Nat → ClassId), a 0 0 = h0 ∧ va_P D cls (wl_Br a k i_Br) t.heap ∧ va_K D cls (ty_Br k) t ∧ va_D (va_A [(h0, .inr (5, [.null, .null, .null, .null, .null, .int 0]))] sz) (wl_Br a k i_Br)) (va_A [(h0, .inr (5, [.null, .null, .null, .null, .null, .int 0]))] sz)) 27 2714 (va_A [(h0, .inr (5, [.null, .null, .null, .null, .null, .int 0]))] sz) := by
  refine Met.ofW (cc := b_Br_init) (maxL := 1) (ret := none) (by decide) rfl ?_
  intro p e s m args below meth c s₁ B hml hv
  obtain ⟨⟨rfl, hsz, hP, hK, hD0⟩, hN⟩ := hv
  have hx := B.exec
  have hb := B.bytes
  have hr := B.returns
  have hts : ∀ w ∈ lw_g, w.before _ s = true := fun w h => atoms_spec (ws := w_Br_init) B.pre w (List.mem_cons_of_mem _ h)
  have hown : s.vm.findClass R_Br = some m.cls := findClass_of_methodNamed B.named
  have hlocks := B.notSynchronized
  have hin : meth.name = "<init>" := (name_of_methodNamed B.named B.method).1
  subst hsz
  have hD := hD0.self (sz := s.heap.size)
  generalize hAe : va_A [(h0, .inr (5, [.null, .null, .null, .null, .null, .int 0]))] s.heap.size = A at hD ⊢
  have hA : ∀ q : Nat, s.heap.size ≤ q → A q := fun q h => by rw [← hAe]; exact Or.inr h
  have hS : va_S A s.heap s.heap [] := va_S.rf
  have hP : va_P D cls [(h0, .inr (5, [.null, .null, .null, .null, .null, .int 0]))] s.heap := hP
  have hl := lv_entry ([.ref h0]) (n := 1) (Nat.le_of_ble_eq_true rfl)
  rw [lg_entry_eq]
  generalize (lg_sl ([.ref h0]) ++ List.replicate (1 - (lg_sl ([.ref h0])).length) Slot.unset).toArray = ls at hl ⊢
  have hl : lv_has ls 1 [(0, .ref h0)] := hl
  refine lv_aload_n hx hb d_Br_init_0 rfl (lv_at hl 0 rfl) ?_
  refine W.objInit hx hb hown (hts _ mw_39) (hts _ mw_40) (hts _ mw_obj) rfl (by rw [hml]; exact hl.1) rfl d_Br_init_1 (Nat.le_of_ble_eq_true rfl) (Nat.le_of_ble_eq_true rfl) ?_
  refine W.eq (g2 := F0 m 4 ls []) rfl ?_
  refine lv_aload_n hx hb d_Br_init_4 rfl (lv_at hl 0 rfl) ?_
  refine va_new (ci := 1) (fs := [.null, .null, .null, .int 0]) (C := R_Ca) (T := F_Ca) (N := 4) hx hb hts i_uCa t_Ca t_Ca_ok hown (hts _ mw_42) (hts _ mw_43) (hts _ mw_28) hK hP hD hS hA rfl (fun j hj => by rcases (show j = 0 ∨ j = 1 ∨ j = 2 ∨ j = 3 by omega) with rfl | rfl | rfl | rfl <;> rfl) (Nat.le_of_ble_eq_true rfl) (Nat.le_of_ble_eq_true rfl) d_Br_init_5 (fun q1 H hP hD hS => ?_)
  have hP : va_P D cls ([(h0, .inr (5, [.null, .null, .null, .null, .null, .int 0]))] ++ [(q1, .inr (1, [.null, .null, .null, .int 0]))]) H := hP
  have hD : va_D A ([(h0, .inr (5, [.null, .null, .null, .null, .null, .int 0]))] ++ [(q1, .inr (1, [.null, .null, .null, .int 0]))]) := hD
  refine W.widen (k := 1) (n := 4) (Nat.le_of_ble_eq_true rfl) (Nat.le_of_ble_eq_true rfl) ?_
  refine lv_dup hx hb d_Br_init_8 rfl ?_
  have hPc := hP.sub (ws' := [(q1, .inr (1, [.null, .null, .null, .int 0]))]) [1] rfl
  have hDc := hD.sub (ws' := [(q1, .inr (1, [.null, .null, .null, .int 0]))]) [1] (by decide) rfl
  have hKc : va_K D cls [] s := hK.sub [] rfl
  have hFc := va_free (wc := [(q1, .inr (1, [.null, .null, .null, .int 0]))]) hD hS hA [1] rfl
  refine va_callv (va_runIN (As := []) (rest := [.ref q1, .ref h0]) ⟨hx, hb, hml, hown, hts⟩ (c_Ca_init l D q1 H.size) ⟨va_cnB 0 hts (gI mw_46) rfl rfl rfl (hN (11, y_Ca_init) (List.mem_of_getElem? (i := 0) rfl)) (hts _ mw_28) hi_Ca_init ⟨Nat.le_of_ble_eq_true rfl, Nat.le_of_ble_eq_true rfl⟩, rfl, hts _ mw_45⟩ ⟨kp_fb, fun U hU hW => ⟨rfl, by rw [hU], by rw [hU]; exact hPc, va_K.moved hW.alike hKc, hDc.weaken (fun _ _ _ _ => trivial)⟩⟩ rfl rfl hl.1 rfl (lv_room (Nat.le_of_ble_eq_true rfl)) d_Br_init_9 ⟨Nat.le_of_ble_eq_true rfl, Nat.le_of_ble_eq_true rfl⟩) hS (fun q _ h => hFc q h) hFc (fun u t H1 locs ht hvm hw hB hz1 hk1 hS => ?_)
  obtain ⟨a1, k1, rfl, hP1, hK1, hD1⟩ := hB
  rw [ht] at hP1
  have hK1 := va_K.moved hvm.symm hK1
  obtain ⟨hP, hD⟩ := va_join (wr := ([(h0, .inr (5, [.null, .null, .null, .null, .null, .int 0]))])) (w1 := wl_Ca a1 k1 i_Ca) hP hD [1] [0] rfl rfl (by decide) (by decide) hk1 hFc hP1 hD1
  have hK : va_K D cls (ty_Ca k1) s := hK1
  generalize H1 = H at hP hS ⊢
  have hP : va_P D cls ([(h0, .inr (5, [.null, .null, .null, .null, .null, .int 0]))] ++ wl_Ca a1 k1 i_Ca) H := hP
  have hD : va_D A ([(h0, .inr (5, [.null, .null, .null, .null, .null, .int 0]))] ++ wl_Ca a1 k1 i_Ca) := hD
  refine W.widen (k := 4) (n := 755) (Nat.le_of_ble_eq_true rfl) (Nat.le_of_ble_eq_true rfl) ?_
  refine va_putF (D := D) (ci := 5) (v := .ref (a1 0)) (ty := (.object "BookingRows$Calendar")) (C := R_Br) (T := F_Br) (N := 6) hx hb hts i_uBr t_Br t_Br_ok n_Br hown hK hP hD hS 0 rfl rfl 0 (by decide) (hts _ mw_160) (fun _ h9 => h9) rfl hin rfl (by decide +kernel) rfl rfl (Nat.le_of_ble_eq_true rfl) d_Br_init_12 (fun H locs hP hD hS => ?_)
  have hP : va_P D cls ([(h0, .inr (5, [.ref (a1 0), .null, .null, .null, .null, .int 0]))] ++ wl_Ca a1 k1 i_Ca) H := hP
  have hD : va_D A ([(h0, .inr (5, [.ref (a1 0), .null, .null, .null, .null, .int 0]))] ++ wl_Ca a1 k1 i_Ca) := hD
  refine lv_aload_n hx hb d_Br_init_15 rfl (lv_at hl 0 rfl) ?_
  refine va_new (ci := 3) (fs := [.null, .null, .null, .null, .null, .int 0]) (C := R_Th) (T := F_Th) (N := 6) hx hb hts i_uTh t_Th t_Th_ok hown (hts _ mw_63) (hts _ mw_64) (hts _ mw_29) hK hP hD hS hA rfl (fun j hj => by rcases (show j = 0 ∨ j = 1 ∨ j = 2 ∨ j = 3 ∨ j = 4 ∨ j = 5 by omega) with rfl | rfl | rfl | rfl | rfl | rfl <;> rfl) (Nat.le_of_ble_eq_true rfl) (Nat.le_of_ble_eq_true rfl) d_Br_init_16 (fun q2 H hP hD hS => ?_)
  have hP : va_P D cls ([(h0, .inr (5, [.ref (a1 0), .null, .null, .null, .null, .int 0]))] ++ wl_Ca a1 k1 i_Ca ++ [(q2, .inr (3, [.null, .null, .null, .null, .null, .int 0]))]) H := hP
  have hD : va_D A ([(h0, .inr (5, [.ref (a1 0), .null, .null, .null, .null, .int 0]))] ++ wl_Ca a1 k1 i_Ca ++ [(q2, .inr (3, [.null, .null, .null, .null, .null, .int 0]))]) := hD
  refine W.widen (k := 5) (n := 761) (Nat.le_of_ble_eq_true rfl) (Nat.le_of_ble_eq_true rfl) ?_
  refine lv_dup hx hb d_Br_init_19 rfl ?_
  have hPc := hP.sub (ws' := [(q2, .inr (3, [.null, .null, .null, .null, .null, .int 0]))]) [5] rfl
  have hDc := hD.sub (ws' := [(q2, .inr (3, [.null, .null, .null, .null, .null, .int 0]))]) [5] (by decide) rfl
  have hKc : va_K D cls [] s := hK.sub [] rfl
  have hFc := va_free (wc := [(q2, .inr (3, [.null, .null, .null, .null, .null, .int 0]))]) hD hS hA [5] rfl
  refine va_callv (va_runIN (As := []) (rest := [.ref q2, .ref h0]) ⟨hx, hb, hml, hown, hts⟩ (c_Th_init l D q2 H.size) ⟨va_cnB 0 hts (gI mw_67) rfl rfl rfl (hN (18, y_Th_init) (List.mem_of_getElem? (i := 1) rfl)) (hts _ mw_29) hi_Th_init ⟨Nat.le_of_ble_eq_true rfl, Nat.le_of_ble_eq_true rfl⟩, rfl, hts _ mw_66⟩ ⟨kp_fb, fun U hU hW => ⟨rfl, by rw [hU], by rw [hU]; exact hPc, va_K.moved hW.alike hKc, hDc.weaken (fun _ _ _ _ => trivial)⟩⟩ rfl rfl hl.1 rfl (lv_room (Nat.le_of_ble_eq_true rfl)) d_Br_init_20 ⟨Nat.le_of_ble_eq_true rfl, Nat.le_of_ble_eq_true rfl⟩) hS (fun q _ h => hFc q h) hFc (fun u t H1 locs ht hvm hw hB hz1 hk1 hS => ?_)
  obtain ⟨a2, k2, rfl, hP1, hK1, hD1⟩ := hB
  rw [ht] at hP1
  have hK1 := va_K.moved hvm.symm hK1
  obtain ⟨hP, hD⟩ := va_join (wr := ([(h0, .inr (5, [.ref (a1 0), .null, .null, .null, .null, .int 0]))] ++ wl_Ca a1 k1 i_Ca)) (w1 := wl_Th a2 k2 i_Th) hP hD [5] [0, 1, 2, 3, 4] rfl rfl (by decide) (by decide) hk1 hFc hP1 hD1
  have hK : va_K D cls (ty_Ca k1 ++ ty_Th k2) s := hK.app hK1
  generalize H1 = H at hP hS ⊢
  have hP : va_P D cls ([(h0, .inr (5, [.ref (a1 0), .null, .null, .null, .null, .int 0]))] ++ wl_Ca a1 k1 i_Ca ++ wl_Th a2 k2 i_Th) H := hP
  have hD : va_D A ([(h0, .inr (5, [.ref (a1 0), .null, .null, .null, .null, .int 0]))] ++ wl_Ca a1 k1 i_Ca ++ wl_Th a2 k2 i_Th) := hD
  refine W.widen (k := 10) (n := 911) (Nat.le_of_ble_eq_true rfl) (Nat.le_of_ble_eq_true rfl) ?_
  refine va_putF (D := D) (ci := 5) (v := .ref (a2 0)) (ty := (.object "BookingRows$Things")) (C := R_Br) (T := F_Br) (N := 6) hx hb hts i_uBr t_Br t_Br_ok n_Br hown hK hP hD hS 0 rfl rfl 1 (by decide) (hts _ mw_161) (fun _ h9 => h9) rfl hin rfl (by decide +kernel) rfl rfl (Nat.le_of_ble_eq_true rfl) d_Br_init_23 (fun H locs hP hD hS => ?_)
  have hP : va_P D cls ([(h0, .inr (5, [.ref (a1 0), .ref (a2 0), .null, .null, .null, .int 0]))] ++ wl_Ca a1 k1 i_Ca ++ wl_Th a2 k2 i_Th) H := hP
  have hD : va_D A ([(h0, .inr (5, [.ref (a1 0), .ref (a2 0), .null, .null, .null, .int 0]))] ++ wl_Ca a1 k1 i_Ca ++ wl_Th a2 k2 i_Th) := hD
  refine lv_aload_n hx hb d_Br_init_26 rfl (lv_at hl 0 rfl) ?_
  refine va_new (ci := 0) (fs := [.null, .null, .null, .null, .null, .null, .int 0, .null, .int 0]) (C := R_Bk) (T := F_Bk) (N := 9) hx hb hts i_uBk t_Bk t_Bk_ok hown (hts _ mw_88) (hts _ mw_89) (hts _ mw_30) hK hP hD hS hA rfl (fun j hj => by rcases (show j = 0 ∨ j = 1 ∨ j = 2 ∨ j = 3 ∨ j = 4 ∨ j = 5 ∨ j = 6 ∨ j = 7 ∨ j = 8 by omega) with rfl | rfl | rfl | rfl | rfl | rfl | rfl | rfl | rfl <;> rfl) (Nat.le_of_ble_eq_true rfl) (Nat.le_of_ble_eq_true rfl) d_Br_init_27 (fun q3 H hP hD hS => ?_)
  have hP : va_P D cls ([(h0, .inr (5, [.ref (a1 0), .ref (a2 0), .null, .null, .null, .int 0]))] ++ wl_Ca a1 k1 i_Ca ++ wl_Th a2 k2 i_Th ++ [(q3, .inr (0, [.null, .null, .null, .null, .null, .null, .int 0, .null, .int 0]))]) H := hP
  have hD : va_D A ([(h0, .inr (5, [.ref (a1 0), .ref (a2 0), .null, .null, .null, .int 0]))] ++ wl_Ca a1 k1 i_Ca ++ wl_Th a2 k2 i_Th ++ [(q3, .inr (0, [.null, .null, .null, .null, .null, .null, .int 0, .null, .int 0]))]) := hD
  refine W.widen (k := 11) (n := 920) (Nat.le_of_ble_eq_true rfl) (Nat.le_of_ble_eq_true rfl) ?_
  refine lv_dup hx hb d_Br_init_30 rfl ?_
  have hPc := hP.sub (ws' := [(q3, .inr (0, [.null, .null, .null, .null, .null, .null, .int 0, .null, .int 0]))]) [11] rfl
  have hDc := hD.sub (ws' := [(q3, .inr (0, [.null, .null, .null, .null, .null, .null, .int 0, .null, .int 0]))]) [11] (by decide) rfl
  have hKc : va_K D cls [] s := hK.sub [] rfl
  have hFc := va_free (wc := [(q3, .inr (0, [.null, .null, .null, .null, .null, .null, .int 0, .null, .int 0]))]) hD hS hA [11] rfl
  refine va_callv (va_runIN (As := []) (rest := [.ref q3, .ref h0]) ⟨hx, hb, hml, hown, hts⟩ (c_Bk_init l D q3 H.size) ⟨va_cnB 0 hts (gI mw_92) rfl rfl rfl (hN (25, y_Bk_init) (List.mem_of_getElem? (i := 2) rfl)) (hts _ mw_30) hi_Bk_init ⟨Nat.le_of_ble_eq_true rfl, Nat.le_of_ble_eq_true rfl⟩, rfl, hts _ mw_91⟩ ⟨kp_fb, fun U hU hW => ⟨rfl, by rw [hU], by rw [hU]; exact hPc, va_K.moved hW.alike hKc, hDc.weaken (fun _ _ _ _ => trivial)⟩⟩ rfl rfl hl.1 rfl (lv_room (Nat.le_of_ble_eq_true rfl)) d_Br_init_31 ⟨Nat.le_of_ble_eq_true rfl, Nat.le_of_ble_eq_true rfl⟩) hS (fun q _ h => hFc q h) hFc (fun u t H1 locs ht hvm hw hB hz1 hk1 hS => ?_)
  obtain ⟨a3, k3, rfl, hP1, hK1, hD1⟩ := hB
  rw [ht] at hP1
  have hK1 := va_K.moved hvm.symm hK1
  obtain ⟨hP, hD⟩ := va_join (wr := ([(h0, .inr (5, [.ref (a1 0), .ref (a2 0), .null, .null, .null, .int 0]))] ++ wl_Ca a1 k1 i_Ca ++ wl_Th a2 k2 i_Th)) (w1 := wl_Bk a3 k3 i_Bk) hP hD [11] [0, 1, 2, 3, 4, 5, 6, 7, 8, 9, 10] rfl rfl (by decide) (by decide) hk1 hFc hP1 hD1
  have hK : va_K D cls (ty_Ca k1 ++ ty_Th k2 ++ ty_Bk k3) s := hK.app hK1
  generalize H1 = H at hP hS ⊢
  have hP : va_P D cls ([(h0, .inr (5, [.ref (a1 0), .ref (a2 0), .null, .null, .null, .int 0]))] ++ wl_Ca a1 k1 i_Ca ++ wl_Th a2 k2 i_Th ++ wl_Bk a3 k3 i_Bk) H := hP
  have hD : va_D A ([(h0, .inr (5, [.ref (a1 0), .ref (a2 0), .null, .null, .null, .int 0]))] ++ wl_Ca a1 k1 i_Ca ++ wl_Th a2 k2 i_Th ++ wl_Bk a3 k3 i_Bk) := hD
  refine W.widen (k := 18) (n := 2326) (Nat.le_of_ble_eq_true rfl) (Nat.le_of_ble_eq_true rfl) ?_
  refine va_putF (D := D) (ci := 5) (v := .ref (a3 0)) (ty := (.object "BookingRows$Bookings")) (C := R_Br) (T := F_Br) (N := 6) hx hb hts i_uBr t_Br t_Br_ok n_Br hown hK hP hD hS 0 rfl rfl 2 (by decide) (hts _ mw_162) (fun _ h9 => h9) rfl hin rfl (by decide +kernel) rfl rfl (Nat.le_of_ble_eq_true rfl) d_Br_init_34 (fun H locs hP hD hS => ?_)
  have hP : va_P D cls ([(h0, .inr (5, [.ref (a1 0), .ref (a2 0), .ref (a3 0), .null, .null, .int 0]))] ++ wl_Ca a1 k1 i_Ca ++ wl_Th a2 k2 i_Th ++ wl_Bk a3 k3 i_Bk) H := hP
  have hD : va_D A ([(h0, .inr (5, [.ref (a1 0), .ref (a2 0), .ref (a3 0), .null, .null, .int 0]))] ++ wl_Ca a1 k1 i_Ca ++ wl_Th a2 k2 i_Th ++ wl_Bk a3 k3 i_Bk) := hD
  refine lv_aload_n hx hb d_Br_init_37 rfl (lv_at hl 0 rfl) ?_
  refine va_new (ci := 4) (fs := [.null, .null, .null, .null, .null, .int 0]) (C := R_Wi) (T := F_Wi) (N := 6) hx hb hts i_uWi t_Wi t_Wi_ok hown (hts _ mw_122) (hts _ mw_123) (hts _ mw_31) hK hP hD hS hA rfl (fun j hj => by rcases (show j = 0 ∨ j = 1 ∨ j = 2 ∨ j = 3 ∨ j = 4 ∨ j = 5 by omega) with rfl | rfl | rfl | rfl | rfl | rfl <;> rfl) (Nat.le_of_ble_eq_true rfl) (Nat.le_of_ble_eq_true rfl) d_Br_init_38 (fun q4 H hP hD hS => ?_)
  have hP : va_P D cls ([(h0, .inr (5, [.ref (a1 0), .ref (a2 0), .ref (a3 0), .null, .null, .int 0]))] ++ wl_Ca a1 k1 i_Ca ++ wl_Th a2 k2 i_Th ++ wl_Bk a3 k3 i_Bk ++ [(q4, .inr (4, [.null, .null, .null, .null, .null, .int 0]))]) H := hP
  have hD : va_D A ([(h0, .inr (5, [.ref (a1 0), .ref (a2 0), .ref (a3 0), .null, .null, .int 0]))] ++ wl_Ca a1 k1 i_Ca ++ wl_Th a2 k2 i_Th ++ wl_Bk a3 k3 i_Bk ++ [(q4, .inr (4, [.null, .null, .null, .null, .null, .int 0]))]) := hD
  refine W.widen (k := 19) (n := 2332) (Nat.le_of_ble_eq_true rfl) (Nat.le_of_ble_eq_true rfl) ?_
  refine lv_dup hx hb d_Br_init_41 rfl ?_
  have hPc := hP.sub (ws' := [(q4, .inr (4, [.null, .null, .null, .null, .null, .int 0]))]) [19] rfl
  have hDc := hD.sub (ws' := [(q4, .inr (4, [.null, .null, .null, .null, .null, .int 0]))]) [19] (by decide) rfl
  have hKc : va_K D cls [] s := hK.sub [] rfl
  have hFc := va_free (wc := [(q4, .inr (4, [.null, .null, .null, .null, .null, .int 0]))]) hD hS hA [19] rfl
  refine va_callv (va_runIN (As := []) (rest := [.ref q4, .ref h0]) ⟨hx, hb, hml, hown, hts⟩ (c_Wi_init l D q4 H.size) ⟨va_cnB 0 hts (gI mw_126) rfl rfl rfl (hN (32, y_Wi_init) (List.mem_of_getElem? (i := 3) rfl)) (hts _ mw_31) hi_Wi_init ⟨Nat.le_of_ble_eq_true rfl, Nat.le_of_ble_eq_true rfl⟩, rfl, hts _ mw_125⟩ ⟨kp_fb, fun U hU hW => ⟨rfl, by rw [hU], by rw [hU]; exact hPc, va_K.moved hW.alike hKc, hDc.weaken (fun _ _ _ _ => trivial)⟩⟩ rfl rfl hl.1 rfl (lv_room (Nat.le_of_ble_eq_true rfl)) d_Br_init_42 ⟨Nat.le_of_ble_eq_true rfl, Nat.le_of_ble_eq_true rfl⟩) hS (fun q _ h => hFc q h) hFc (fun u t H1 locs ht hvm hw hB hz1 hk1 hS => ?_)
  obtain ⟨a4, k4, rfl, hP1, hK1, hD1⟩ := hB
  rw [ht] at hP1
  have hK1 := va_K.moved hvm.symm hK1
  obtain ⟨hP, hD⟩ := va_join (wr := ([(h0, .inr (5, [.ref (a1 0), .ref (a2 0), .ref (a3 0), .null, .null, .int 0]))] ++ wl_Ca a1 k1 i_Ca ++ wl_Th a2 k2 i_Th ++ wl_Bk a3 k3 i_Bk)) (w1 := wl_Wi a4 k4 i_Wi) hP hD [19] [0, 1, 2, 3, 4, 5, 6, 7, 8, 9, 10, 11, 12, 13, 14, 15, 16, 17, 18] rfl rfl (by decide) (by decide) hk1 hFc hP1 hD1
  have hK : va_K D cls (ty_Ca k1 ++ ty_Th k2 ++ ty_Bk k3 ++ ty_Wi k4) s := hK.app hK1
  generalize H1 = H at hP hS ⊢
  have hP : va_P D cls ([(h0, .inr (5, [.ref (a1 0), .ref (a2 0), .ref (a3 0), .null, .null, .int 0]))] ++ wl_Ca a1 k1 i_Ca ++ wl_Th a2 k2 i_Th ++ wl_Bk a3 k3 i_Bk ++ wl_Wi a4 k4 i_Wi) H := hP
  have hD : va_D A ([(h0, .inr (5, [.ref (a1 0), .ref (a2 0), .ref (a3 0), .null, .null, .int 0]))] ++ wl_Ca a1 k1 i_Ca ++ wl_Th a2 k2 i_Th ++ wl_Bk a3 k3 i_Bk ++ wl_Wi a4 k4 i_Wi) := hD
  refine W.widen (k := 24) (n := 2632) (Nat.le_of_ble_eq_true rfl) (Nat.le_of_ble_eq_true rfl) ?_
  refine va_putF (D := D) (ci := 5) (v := .ref (a4 0)) (ty := (.object "BookingRows$Wishes")) (C := R_Br) (T := F_Br) (N := 6) hx hb hts i_uBr t_Br t_Br_ok n_Br hown hK hP hD hS 0 rfl rfl 3 (by decide) (hts _ mw_163) (fun _ h9 => h9) rfl hin rfl (by decide +kernel) rfl rfl (Nat.le_of_ble_eq_true rfl) d_Br_init_45 (fun H locs hP hD hS => ?_)
  have hP : va_P D cls ([(h0, .inr (5, [.ref (a1 0), .ref (a2 0), .ref (a3 0), .ref (a4 0), .null, .int 0]))] ++ wl_Ca a1 k1 i_Ca ++ wl_Th a2 k2 i_Th ++ wl_Bk a3 k3 i_Bk ++ wl_Wi a4 k4 i_Wi) H := hP
  have hD : va_D A ([(h0, .inr (5, [.ref (a1 0), .ref (a2 0), .ref (a3 0), .ref (a4 0), .null, .int 0]))] ++ wl_Ca a1 k1 i_Ca ++ wl_Th a2 k2 i_Th ++ wl_Bk a3 k3 i_Bk ++ wl_Wi a4 k4 i_Wi) := hD
  refine lv_aload_n hx hb d_Br_init_48 rfl (lv_at hl 0 rfl) ?_
  refine va_new (ci := 2) (fs := [.null, .null]) (C := R_Pe) (T := F_Pe) (N := 2) hx hb hts i_uPe t_Pe t_Pe_ok hown (hts _ mw_147) (hts _ mw_148) (hts _ mw_32) hK hP hD hS hA rfl (fun j hj => by rcases (show j = 0 ∨ j = 1 by omega) with rfl | rfl <;> rfl) (Nat.le_of_ble_eq_true rfl) (Nat.le_of_ble_eq_true rfl) d_Br_init_49 (fun q5 H hP hD hS => ?_)
  have hP : va_P D cls ([(h0, .inr (5, [.ref (a1 0), .ref (a2 0), .ref (a3 0), .ref (a4 0), .null, .int 0]))] ++ wl_Ca a1 k1 i_Ca ++ wl_Th a2 k2 i_Th ++ wl_Bk a3 k3 i_Bk ++ wl_Wi a4 k4 i_Wi ++ [(q5, .inr (2, [.null, .null]))]) H := hP
  have hD : va_D A ([(h0, .inr (5, [.ref (a1 0), .ref (a2 0), .ref (a3 0), .ref (a4 0), .null, .int 0]))] ++ wl_Ca a1 k1 i_Ca ++ wl_Th a2 k2 i_Th ++ wl_Bk a3 k3 i_Bk ++ wl_Wi a4 k4 i_Wi ++ [(q5, .inr (2, [.null, .null]))]) := hD
  refine W.widen (k := 25) (n := 2634) (Nat.le_of_ble_eq_true rfl) (Nat.le_of_ble_eq_true rfl) ?_
  refine lv_dup hx hb d_Br_init_52 rfl ?_
  have hPc := hP.sub (ws' := [(q5, .inr (2, [.null, .null]))]) [25] rfl
  have hDc := hD.sub (ws' := [(q5, .inr (2, [.null, .null]))]) [25] (by decide) rfl
  have hKc : va_K D cls [] s := hK.sub [] rfl
  have hFc := va_free (wc := [(q5, .inr (2, [.null, .null]))]) hD hS hA [25] rfl
  refine va_callv (va_runIN (As := []) (rest := [.ref q5, .ref h0]) ⟨hx, hb, hml, hown, hts⟩ (c_Pe_init l D q5 H.size) ⟨va_cnB 0 hts (gI mw_151) rfl rfl rfl (hN (39, y_Pe_init) (List.mem_of_getElem? (i := 4) rfl)) (hts _ mw_32) hi_Pe_init ⟨Nat.le_of_ble_eq_true rfl, Nat.le_of_ble_eq_true rfl⟩, rfl, hts _ mw_150⟩ ⟨kp_fb, fun U hU hW => ⟨rfl, by rw [hU], by rw [hU]; exact hPc, va_K.moved hW.alike hKc, hDc.weaken (fun _ _ _ _ => trivial)⟩⟩ rfl rfl hl.1 rfl (lv_room (Nat.le_of_ble_eq_true rfl)) d_Br_init_53 ⟨Nat.le_of_ble_eq_true rfl, Nat.le_of_ble_eq_true rfl⟩) hS (fun q _ h => hFc q h) hFc (fun u t H1 locs ht hvm hw hB hz1 hk1 hS => ?_)
  obtain ⟨a5, k5, rfl, hP1, hK1, hD1⟩ := hB
  rw [ht] at hP1
  have hK1 := va_K.moved hvm.symm hK1
  obtain ⟨hP, hD⟩ := va_join (wr := ([(h0, .inr (5, [.ref (a1 0), .ref (a2 0), .ref (a3 0), .ref (a4 0), .null, .int 0]))] ++ wl_Ca a1 k1 i_Ca ++ wl_Th a2 k2 i_Th ++ wl_Bk a3 k3 i_Bk ++ wl_Wi a4 k4 i_Wi)) (w1 := wl_Pe a5 k5 i_Pe) hP hD [25] [0, 1, 2, 3, 4, 5, 6, 7, 8, 9, 10, 11, 12, 13, 14, 15, 16, 17, 18, 19, 20, 21, 22, 23, 24] rfl rfl (by decide) (by decide) hk1 hFc hP1 hD1
  have hK : va_K D cls (ty_Ca k1 ++ ty_Th k2 ++ ty_Bk k3 ++ ty_Wi k4 ++ ty_Pe k5) s := hK.app hK1
  generalize H1 = H at hP hS ⊢
  have hP : va_P D cls ([(h0, .inr (5, [.ref (a1 0), .ref (a2 0), .ref (a3 0), .ref (a4 0), .null, .int 0]))] ++ wl_Ca a1 k1 i_Ca ++ wl_Th a2 k2 i_Th ++ wl_Bk a3 k3 i_Bk ++ wl_Wi a4 k4 i_Wi ++ wl_Pe a5 k5 i_Pe) H := hP
  have hD : va_D A ([(h0, .inr (5, [.ref (a1 0), .ref (a2 0), .ref (a3 0), .ref (a4 0), .null, .int 0]))] ++ wl_Ca a1 k1 i_Ca ++ wl_Th a2 k2 i_Th ++ wl_Bk a3 k3 i_Bk ++ wl_Wi a4 k4 i_Wi ++ wl_Pe a5 k5 i_Pe) := hD
  refine W.widen (k := 27) (n := 2714) (Nat.le_of_ble_eq_true rfl) (Nat.le_of_ble_eq_true rfl) ?_
  refine va_putF (D := D) (ci := 5) (v := .ref (a5 0)) (ty := (.object "BookingRows$Penalties")) (C := R_Br) (T := F_Br) (N := 6) hx hb hts i_uBr t_Br t_Br_ok n_Br hown hK hP hD hS 0 rfl rfl 4 (by decide) (hts _ mw_164) (fun _ h9 => h9) rfl hin rfl (by decide +kernel) rfl rfl (Nat.le_of_ble_eq_true rfl) d_Br_init_56 (fun H locs hP hD hS => ?_)
  have hP : va_P D cls ([(h0, .inr (5, [.ref (a1 0), .ref (a2 0), .ref (a3 0), .ref (a4 0), .ref (a5 0), .int 0]))] ++ wl_Ca a1 k1 i_Ca ++ wl_Th a2 k2 i_Th ++ wl_Bk a3 k3 i_Bk ++ wl_Wi a4 k4 i_Wi ++ wl_Pe a5 k5 i_Pe) H := hP
  have hD : va_D A ([(h0, .inr (5, [.ref (a1 0), .ref (a2 0), .ref (a3 0), .ref (a4 0), .ref (a5 0), .int 0]))] ++ wl_Ca a1 k1 i_Ca ++ wl_Th a2 k2 i_Th ++ wl_Bk a3 k3 i_Bk ++ wl_Wi a4 k4 i_Wi ++ wl_Pe a5 k5 i_Pe) := hD
  refine lv_aload_n hx hb d_Br_init_59 rfl (lv_at hl 0 rfl) ?_
  refine lv_iconst (v := 0) hx hb d_Br_init_60 (by decide) ?_
  refine va_put (D := D) (ci := 5) (v := .int 0) (ty := .int) (C := R_Br) (T := F_Br) (N := 6) hx hb hts i_uBr t_Br t_Br_ok n_Br hown hK hP hD hS 0 rfl rfl 5 (by decide) (hts _ mw_165) (fun _ h9 => h9) rfl (by decide +kernel) rfl rfl (Nat.le_of_ble_eq_true rfl) d_Br_init_61 (fun H locs hP hD hS => ?_)
  have hP : va_P D cls ([(h0, .inr (5, [.ref (a1 0), .ref (a2 0), .ref (a3 0), .ref (a4 0), .ref (a5 0), .int 0]))] ++ wl_Ca a1 k1 i_Ca ++ wl_Th a2 k2 i_Th ++ wl_Bk a3 k3 i_Bk ++ wl_Wi a4 k4 i_Wi ++ wl_Pe a5 k5 i_Pe) H := hP
  have hD : va_D A ([(h0, .inr (5, [.ref (a1 0), .ref (a2 0), .ref (a3 0), .ref (a4 0), .ref (a5 0), .int 0]))] ++ wl_Ca a1 k1 i_Ca ++ wl_Th a2 k2 i_Th ++ wl_Bk a3 k3 i_Bk ++ wl_Wi a4 k4 i_Wi ++ wl_Pe a5 k5 i_Pe) := hD
  exact W.vret hx hb hr (fun t ht hW => ⟨⟨(), rfl, trivial, (fun j => ([(fun _ => h0), a1, a2, a3, a4, a5] : List (Nat → Nat)).getD j (fun _ => 0)), (fun j => ([k1, k1, k2, k3, k4, k5] : List (Nat → ClassId)).getD j k1), rfl, by rw [ht]; exact hP, va_K.moved hW.alike hK, hD⟩, hS.F ht⟩) hS.2.2 d_Br_init_64
