set_option maxHeartbeats 4000000 in
set_option maxRecDepth 100000 in
theorem law_c0 {p : Program} {l : Launch} {e : Env} {s : State} {m : MethodId} {below : List Frame} {meth : Method} {c : Code} {b L : Nat} {xs : Nat → Int32} {D : va_G} {a : Nat → Nat → Nat} {k : Nat → Nat → ClassId} {a2 : Nat → Nat} {k2 : Nat → ClassId} (hL : L ≤ 3072) (C0 : lw_At p s m meth c b L xs) (hK1 : va_K D cls (ty_Br k) s) (hK2 : va_K D cls (ty_Mo k2) s) (hD : ∀ σ ρ, va_D (fun q : Nat => s.heap.size ≤ q) (wl_Br a k σ ++ wl_Mo a2 k2 ρ)) {i : Nat} (hi : 6 * i + 6 ≤ L) (J : ∀ σ ρ H locs ls, LH s D a k a2 k2 b i σ ρ H locs ls → LW p l e s m below meth c b H locs 740 ls) {σ : S_Br} {ρ : S_Mo} {H : Heap} {locs : List Loc} {ls : Array Slot} (h : LH s D a k a2 k2 b i σ ρ H locs ls) : LW p l e s m below meth c b H locs 112 ls := by
  obtain ⟨hx, hb, hr, hml, hown, hts0, hX, hbl, hlocks, hgv⟩ := C0
  have hts : ∀ w ∈ lw_g, w.before #[Value.ref b] s = true := fun w h => hts0 w (List.mem_filter.mp h).1
  have hA : ∀ q : Nat, s.heap.size ≤ q → (fun q : Nat => s.heap.size ≤ q) q := fun _ h => h
  have hbA : ¬ (fun q : Nat => s.heap.size ≤ q) b := Nat.not_le.mpr hbl
  obtain ⟨hR, hP, hS, hl⟩ := h
  have hin1 : vp_in (nI (6 * i) + 1) L := by rw [show nI (6 * i) + 1 = nI (6 * i + 1) from nI_add _ 1]; exact vp_in_nI (by omega) (by omega)
  have hin2 : vp_in (nI (6 * i) + 2) L := by rw [show nI (6 * i) + 2 = nI (6 * i + 2) from nI_add _ 2]; exact vp_in_nI (by omega) (by omega)
  have hin3 : vp_in (nI (6 * i) + 3) L := by rw [show nI (6 * i) + 3 = nI (6 * i + 3) from nI_add _ 3]; exact vp_in_nI (by omega) (by omega)
  have hin4 : vp_in (nI (6 * i) + 4) L := by rw [show nI (6 * i) + 4 = nI (6 * i + 4) from nI_add _ 4]; exact vp_in_nI (by omega) (by omega)
  have hin5 : vp_in (nI (6 * i) + 5) L := by rw [show nI (6 * i) + 5 = nI (6 * i + 5) from nI_add _ 5]; exact vp_in_nI (by omega) (by omega)
  obtain ⟨r, σ', ρ', e1, e2, hR'⟩ := sim_thing hR (xs (nI (6 * i) + 1).toNatClampNeg) (xs (nI (6 * i) + 2).toNatClampNeg) (xs (nI (6 * i) + 3).toNatClampNeg) (xs (nI (6 * i) + 4).toNatClampNeg) (xs (nI (6 * i) + 5).toNatClampNeg)
  refine lv_aload_n hx hb d_law_112 rfl (lv_at hl 1 rfl) ?_
  refine lv_aload_n hx hb d_law_113 rfl (lv_at hl 0 rfl) ?_
  refine lv_iload_n hx hb d_law_114 rfl (lv_at hl 3 rfl) ?_
  refine lv_iconst (v := 1) hx hb d_law_115 (by decide) ?_
  refine lv_iadd hx hb d_law_116 ?_
  refine va_sld hx hb hX hbl hbA hS hin1 d_law_117 ?_
  refine lv_aload_n hx hb d_law_118 rfl (lv_at hl 0 rfl) ?_
  refine lv_iload_n hx hb d_law_119 rfl (lv_at hl 3 rfl) ?_
  refine lv_iconst (v := 2) hx hb d_law_120 (by decide) ?_
  refine lv_iadd hx hb d_law_121 ?_
  refine va_sld hx hb hX hbl hbA hS hin2 d_law_122 ?_
  refine lv_aload_n hx hb d_law_123 rfl (lv_at hl 0 rfl) ?_
  refine lv_iload_n hx hb d_law_124 rfl (lv_at hl 3 rfl) ?_
  refine lv_iconst (v := 3) hx hb d_law_125 (by decide) ?_
  refine lv_iadd hx hb d_law_126 ?_
  refine va_sld hx hb hX hbl hbA hS hin3 d_law_127 ?_
  refine lv_aload_n hx hb d_law_128 rfl (lv_at hl 0 rfl) ?_
  refine lv_iload_n hx hb d_law_129 rfl (lv_at hl 3 rfl) ?_
  refine lv_iconst (v := 4) hx hb d_law_130 (by decide) ?_
  refine lv_iadd hx hb d_law_131 ?_
  refine va_sld hx hb hX hbl hbA hS hin4 d_law_132 ?_
  refine lv_aload_n hx hb d_law_133 rfl (lv_at hl 0 rfl) ?_
  refine lv_iload_n hx hb d_law_134 rfl (lv_at hl 3 rfl) ?_
  refine lv_iconst (v := 5) hx hb d_law_135 (by decide) ?_
  refine lv_iadd hx hb d_law_136 ?_
  refine va_sld hx hb hX hbl hbA hS hin5 d_law_137 ?_
  refine kc_M (wF := wl_Br a k σ' ++ wl_Mo a2 k2 ρ) (va_runV (As := [.int (xs (nI (6 * i) + 1).toNatClampNeg), .int (xs (nI (6 * i) + 2).toNatClampNeg), .int (xs (nI (6 * i) + 3).toNatClampNeg), .int (xs (nI (6 * i) + 4).toNatClampNeg), .int (xs (nI (6 * i) + 5).toNatClampNeg)]) (rest := []) ⟨hx, hb, hml, hown, hts⟩ (c_Br_thing l D a k _ σ (xs (nI (6 * i) + 1).toNatClampNeg) (xs (nI (6 * i) + 2).toNatClampNeg) (xs (nI (6 * i) + 3).toNatClampNeg) (xs (nI (6 * i) + 4).toNatClampNeg) (xs (nI (6 * i) + 5).toNatClampNeg) (r, σ') e1) (cwV 5 hts (gV mv_179 mv_180 mv_181 mv_27 mv_182) rfl rfl rfl hd_Br_thing ⟨Nat.le_of_ble_eq_true rfl, Nat.le_of_ble_eq_true rfl⟩) (kp_V (ci := 5) (q := (R_Br, F_Br, 6)) (q0 := 0) hK1 (pL hP) (dL (hD σ ρ)) rfl rfl) rfl rfl hl.1 rfl (lv_room (Nat.le_of_ble_eq_true rfl)) d_law_138 ⟨Nat.le_of_ble_eq_true rfl, Nat.le_of_ble_eq_true rfl⟩) hS (dL (hD σ ρ)) hA (fun _ _ h h9 => kjL hP (hD σ ρ) h h9) (fun H locs hP hS => ?_)
  refine lv_aload_n hx hb d_law_141 rfl (lv_at hl 2 rfl) ?_
  refine lv_aload_n hx hb d_law_142 rfl (lv_at hl 0 rfl) ?_
  refine lv_iload_n hx hb d_law_143 rfl (lv_at hl 3 rfl) ?_
  refine lv_iconst (v := 1) hx hb d_law_144 (by decide) ?_
  refine lv_iadd hx hb d_law_145 ?_
  refine va_sld hx hb hX hbl hbA hS hin1 d_law_146 ?_
  refine lv_aload_n hx hb d_law_147 rfl (lv_at hl 0 rfl) ?_
  refine lv_iload_n hx hb d_law_148 rfl (lv_at hl 3 rfl) ?_
  refine lv_iconst (v := 2) hx hb d_law_149 (by decide) ?_
  refine lv_iadd hx hb d_law_150 ?_
  refine va_sld hx hb hX hbl hbA hS hin2 d_law_151 ?_
  refine lv_aload_n hx hb d_law_152 rfl (lv_at hl 0 rfl) ?_
  refine lv_iload_n hx hb d_law_153 rfl (lv_at hl 3 rfl) ?_
  refine lv_iconst (v := 3) hx hb d_law_154 (by decide) ?_
  refine lv_iadd hx hb d_law_155 ?_
  refine va_sld hx hb hX hbl hbA hS hin3 d_law_156 ?_
  refine lv_aload_n hx hb d_law_157 rfl (lv_at hl 0 rfl) ?_
  refine lv_iload_n hx hb d_law_158 rfl (lv_at hl 3 rfl) ?_
  refine lv_iconst (v := 4) hx hb d_law_159 (by decide) ?_
  refine lv_iadd hx hb d_law_160 ?_
  refine va_sld hx hb hX hbl hbA hS hin4 d_law_161 ?_
  refine lv_aload_n hx hb d_law_162 rfl (lv_at hl 0 rfl) ?_
  refine lv_iload_n hx hb d_law_163 rfl (lv_at hl 3 rfl) ?_
  refine lv_iconst (v := 5) hx hb d_law_164 (by decide) ?_
  refine lv_iadd hx hb d_law_165 ?_
  refine va_sld hx hb hX hbl hbA hS hin5 d_law_166 ?_
  refine kc_M (wF := wl_Br a k σ' ++ wl_Mo a2 k2 ρ') (va_runV (As := [.int (xs (nI (6 * i) + 1).toNatClampNeg), .int (xs (nI (6 * i) + 2).toNatClampNeg), .int (xs (nI (6 * i) + 3).toNatClampNeg), .int (xs (nI (6 * i) + 4).toNatClampNeg), .int (xs (nI (6 * i) + 5).toNatClampNeg)]) (rest := [.int r]) ⟨hx, hb, hml, hown, hts⟩ (c_Mo_thing l D a2 k2 _ ρ (xs (nI (6 * i) + 1).toNatClampNeg) (xs (nI (6 * i) + 2).toNatClampNeg) (xs (nI (6 * i) + 3).toNatClampNeg) (xs (nI (6 * i) + 4).toNatClampNeg) (xs (nI (6 * i) + 5).toNatClampNeg) (r, ρ') e2) (cwV 5 hts (gV mv_544 mv_545 mv_546 mv_33 mv_547) rfl rfl rfl hd_Mo_thing ⟨Nat.le_of_ble_eq_true rfl, Nat.le_of_ble_eq_true rfl⟩) (kp_V (ci := 6) (q := (R_Mo, F_Mo, 15)) (q0 := 0) hK2 (pR hP) (dR (hD σ ρ)) rfl rfl) rfl rfl hl.1 rfl (lv_room (Nat.le_of_ble_eq_true rfl)) d_law_167 ⟨Nat.le_of_ble_eq_true rfl, Nat.le_of_ble_eq_true rfl⟩) hS (dR (hD σ ρ)) hA (fun _ _ h h9 => kjR hP (hD σ' ρ) h h9) (fun H locs hP hS => ?_)
  refine lv_icmp_eq (tgt := 740) hx hb d_law_170 (by decide) (fun _ => ?_) (fun q => absurd rfl q)
  exact J σ' ρ' H locs ls ⟨hR', hP, hS, hl⟩
set_option maxHeartbeats 4000000 in
set_option maxRecDepth 100000 in
theorem law_c1 {p : Program} {l : Launch} {e : Env} {s : State} {m : MethodId} {below : List Frame} {meth : Method} {c : Code} {b L : Nat} {xs : Nat → Int32} {D : va_G} {a : Nat → Nat → Nat} {k : Nat → Nat → ClassId} {a2 : Nat → Nat} {k2 : Nat → ClassId} (hL : L ≤ 3072) (C0 : lw_At p s m meth c b L xs) (hK1 : va_K D cls (ty_Br k) s) (hK2 : va_K D cls (ty_Mo k2) s) (hD : ∀ σ ρ, va_D (fun q : Nat => s.heap.size ≤ q) (wl_Br a k σ ++ wl_Mo a2 k2 ρ)) {i : Nat} (hi : 6 * i + 6 ≤ L) (J : ∀ σ ρ H locs ls, LH s D a k a2 k2 b i σ ρ H locs ls → LW p l e s m below meth c b H locs 740 ls) {σ : S_Br} {ρ : S_Mo} {H : Heap} {locs : List Loc} {ls : Array Slot} (h : LH s D a k a2 k2 b i σ ρ H locs ls) : LW p l e s m below meth c b H locs 175 ls := by
  obtain ⟨hx, hb, hr, hml, hown, hts0, hX, hbl, hlocks, hgv⟩ := C0
  have hts : ∀ w ∈ lw_g, w.before #[Value.ref b] s = true := fun w h => hts0 w (List.mem_filter.mp h).1
  have hA : ∀ q : Nat, s.heap.size ≤ q → (fun q : Nat => s.heap.size ≤ q) q := fun _ h => h
  have hbA : ¬ (fun q : Nat => s.heap.size ≤ q) b := Nat.not_le.mpr hbl
  obtain ⟨hR, hP, hS, hl⟩ := h
  have hin1 : vp_in (nI (6 * i) + 1) L := by rw [show nI (6 * i) + 1 = nI (6 * i + 1) from nI_add _ 1]; exact vp_in_nI (by omega) (by omega)
  have hin2 : vp_in (nI (6 * i) + 2) L := by rw [show nI (6 * i) + 2 = nI (6 * i + 2) from nI_add _ 2]; exact vp_in_nI (by omega) (by omega)
  have hin3 : vp_in (nI (6 * i) + 3) L := by rw [show nI (6 * i) + 3 = nI (6 * i + 3) from nI_add _ 3]; exact vp_in_nI (by omega) (by omega)
  have hin4 : vp_in (nI (6 * i) + 4) L := by rw [show nI (6 * i) + 4 = nI (6 * i + 4) from nI_add _ 4]; exact vp_in_nI (by omega) (by omega)
  obtain ⟨r, σ', ρ', e1, e2, hR'⟩ := sim_hours hR (xs (nI (6 * i) + 1).toNatClampNeg) (xs (nI (6 * i) + 2).toNatClampNeg) (xs (nI (6 * i) + 3).toNatClampNeg) (xs (nI (6 * i) + 4).toNatClampNeg)
  refine lv_aload_n hx hb d_law_175 rfl (lv_at hl 1 rfl) ?_
  refine lv_aload_n hx hb d_law_176 rfl (lv_at hl 0 rfl) ?_
  refine lv_iload_n hx hb d_law_177 rfl (lv_at hl 3 rfl) ?_
  refine lv_iconst (v := 1) hx hb d_law_178 (by decide) ?_
  refine lv_iadd hx hb d_law_179 ?_
  refine va_sld hx hb hX hbl hbA hS hin1 d_law_180 ?_
  refine lv_aload_n hx hb d_law_181 rfl (lv_at hl 0 rfl) ?_
  refine lv_iload_n hx hb d_law_182 rfl (lv_at hl 3 rfl) ?_
  refine lv_iconst (v := 2) hx hb d_law_183 (by decide) ?_
  refine lv_iadd hx hb d_law_184 ?_
  refine va_sld hx hb hX hbl hbA hS hin2 d_law_185 ?_
  refine lv_aload_n hx hb d_law_186 rfl (lv_at hl 0 rfl) ?_
  refine lv_iload_n hx hb d_law_187 rfl (lv_at hl 3 rfl) ?_
  refine lv_iconst (v := 3) hx hb d_law_188 (by decide) ?_
  refine lv_iadd hx hb d_law_189 ?_
  refine va_sld hx hb hX hbl hbA hS hin3 d_law_190 ?_
  refine lv_aload_n hx hb d_law_191 rfl (lv_at hl 0 rfl) ?_
  refine lv_iload_n hx hb d_law_192 rfl (lv_at hl 3 rfl) ?_
  refine lv_iconst (v := 4) hx hb d_law_193 (by decide) ?_
  refine lv_iadd hx hb d_law_194 ?_
  refine va_sld hx hb hX hbl hbA hS hin4 d_law_195 ?_
  refine kc_M (wF := wl_Br a k σ' ++ wl_Mo a2 k2 ρ) (va_runV (As := [.int (xs (nI (6 * i) + 1).toNatClampNeg), .int (xs (nI (6 * i) + 2).toNatClampNeg), .int (xs (nI (6 * i) + 3).toNatClampNeg), .int (xs (nI (6 * i) + 4).toNatClampNeg)]) (rest := []) ⟨hx, hb, hml, hown, hts⟩ (c_Br_hours l D a k _ σ (xs (nI (6 * i) + 1).toNatClampNeg) (xs (nI (6 * i) + 2).toNatClampNeg) (xs (nI (6 * i) + 3).toNatClampNeg) (xs (nI (6 * i) + 4).toNatClampNeg) (r, σ') e1) (cwV 4 hts (gV mv_198 mv_199 mv_200 mv_27 mv_201) rfl rfl rfl hd_Br_hours ⟨Nat.le_of_ble_eq_true rfl, Nat.le_of_ble_eq_true rfl⟩) (kp_V (ci := 5) (q := (R_Br, F_Br, 6)) (q0 := 0) hK1 (pL hP) (dL (hD σ ρ)) rfl rfl) rfl rfl hl.1 rfl (lv_room (Nat.le_of_ble_eq_true rfl)) d_law_196 ⟨Nat.le_of_ble_eq_true rfl, Nat.le_of_ble_eq_true rfl⟩) hS (dL (hD σ ρ)) hA (fun _ _ h h9 => kjL hP (hD σ ρ) h h9) (fun H locs hP hS => ?_)
  refine lv_aload_n hx hb d_law_199 rfl (lv_at hl 2 rfl) ?_
  refine lv_aload_n hx hb d_law_200 rfl (lv_at hl 0 rfl) ?_
  refine lv_iload_n hx hb d_law_201 rfl (lv_at hl 3 rfl) ?_
  refine lv_iconst (v := 1) hx hb d_law_202 (by decide) ?_
  refine lv_iadd hx hb d_law_203 ?_
  refine va_sld hx hb hX hbl hbA hS hin1 d_law_204 ?_
  refine lv_aload_n hx hb d_law_205 rfl (lv_at hl 0 rfl) ?_
  refine lv_iload_n hx hb d_law_206 rfl (lv_at hl 3 rfl) ?_
  refine lv_iconst (v := 2) hx hb d_law_207 (by decide) ?_
  refine lv_iadd hx hb d_law_208 ?_
  refine va_sld hx hb hX hbl hbA hS hin2 d_law_209 ?_
  refine lv_aload_n hx hb d_law_210 rfl (lv_at hl 0 rfl) ?_
  refine lv_iload_n hx hb d_law_211 rfl (lv_at hl 3 rfl) ?_
  refine lv_iconst (v := 3) hx hb d_law_212 (by decide) ?_
  refine lv_iadd hx hb d_law_213 ?_
  refine va_sld hx hb hX hbl hbA hS hin3 d_law_214 ?_
  refine lv_aload_n hx hb d_law_215 rfl (lv_at hl 0 rfl) ?_
  refine lv_iload_n hx hb d_law_216 rfl (lv_at hl 3 rfl) ?_
  refine lv_iconst (v := 4) hx hb d_law_217 (by decide) ?_
  refine lv_iadd hx hb d_law_218 ?_
  refine va_sld hx hb hX hbl hbA hS hin4 d_law_219 ?_
  refine kc_M (wF := wl_Br a k σ' ++ wl_Mo a2 k2 ρ') (va_runV (As := [.int (xs (nI (6 * i) + 1).toNatClampNeg), .int (xs (nI (6 * i) + 2).toNatClampNeg), .int (xs (nI (6 * i) + 3).toNatClampNeg), .int (xs (nI (6 * i) + 4).toNatClampNeg)]) (rest := [.int r]) ⟨hx, hb, hml, hown, hts⟩ (c_Mo_hours l D a2 k2 _ ρ (xs (nI (6 * i) + 1).toNatClampNeg) (xs (nI (6 * i) + 2).toNatClampNeg) (xs (nI (6 * i) + 3).toNatClampNeg) (xs (nI (6 * i) + 4).toNatClampNeg) (r, ρ') e2) (cwV 4 hts (gV mv_549 mv_550 mv_551 mv_33 mv_552) rfl rfl rfl hd_Mo_hours ⟨Nat.le_of_ble_eq_true rfl, Nat.le_of_ble_eq_true rfl⟩) (kp_V (ci := 6) (q := (R_Mo, F_Mo, 15)) (q0 := 0) hK2 (pR hP) (dR (hD σ ρ)) rfl rfl) rfl rfl hl.1 rfl (lv_room (Nat.le_of_ble_eq_true rfl)) d_law_220 ⟨Nat.le_of_ble_eq_true rfl, Nat.le_of_ble_eq_true rfl⟩) hS (dR (hD σ ρ)) hA (fun _ _ h h9 => kjR hP (hD σ' ρ) h h9) (fun H locs hP hS => ?_)
  refine lv_icmp_eq (tgt := 740) hx hb d_law_223 (by decide) (fun _ => ?_) (fun q => absurd rfl q)
  exact J σ' ρ' H locs ls ⟨hR', hP, hS, hl⟩
set_option maxHeartbeats 4000000 in
set_option maxRecDepth 100000 in
theorem law_c2 {p : Program} {l : Launch} {e : Env} {s : State} {m : MethodId} {below : List Frame} {meth : Method} {c : Code} {b L : Nat} {xs : Nat → Int32} {D : va_G} {a : Nat → Nat → Nat} {k : Nat → Nat → ClassId} {a2 : Nat → Nat} {k2 : Nat → ClassId} (hL : L ≤ 3072) (C0 : lw_At p s m meth c b L xs) (hK1 : va_K D cls (ty_Br k) s) (hK2 : va_K D cls (ty_Mo k2) s) (hD : ∀ σ ρ, va_D (fun q : Nat => s.heap.size ≤ q) (wl_Br a k σ ++ wl_Mo a2 k2 ρ)) {i : Nat} (hi : 6 * i + 6 ≤ L) (J : ∀ σ ρ H locs ls, LH s D a k a2 k2 b i σ ρ H locs ls → LW p l e s m below meth c b H locs 740 ls) {σ : S_Br} {ρ : S_Mo} {H : Heap} {locs : List Loc} {ls : Array Slot} (h : LH s D a k a2 k2 b i σ ρ H locs ls) : LW p l e s m below meth c b H locs 228 ls := by
  obtain ⟨hx, hb, hr, hml, hown, hts0, hX, hbl, hlocks, hgv⟩ := C0
  have hts : ∀ w ∈ lw_g, w.before #[Value.ref b] s = true := fun w h => hts0 w (List.mem_filter.mp h).1
  have hA : ∀ q : Nat, s.heap.size ≤ q → (fun q : Nat => s.heap.size ≤ q) q := fun _ h => h
  have hbA : ¬ (fun q : Nat => s.heap.size ≤ q) b := Nat.not_le.mpr hbl
  obtain ⟨hR, hP, hS, hl⟩ := h
  have hin1 : vp_in (nI (6 * i) + 1) L := by rw [show nI (6 * i) + 1 = nI (6 * i + 1) from nI_add _ 1]; exact vp_in_nI (by omega) (by omega)
  obtain ⟨r, σ', ρ', e1, e2, hR'⟩ := sim_holiday hR (xs (nI (6 * i) + 1).toNatClampNeg)
  refine lv_aload_n hx hb d_law_228 rfl (lv_at hl 1 rfl) ?_
  refine lv_aload_n hx hb d_law_229 rfl (lv_at hl 0 rfl) ?_
  refine lv_iload_n hx hb d_law_230 rfl (lv_at hl 3 rfl) ?_
  refine lv_iconst (v := 1) hx hb d_law_231 (by decide) ?_
  refine lv_iadd hx hb d_law_232 ?_
  refine va_sld hx hb hX hbl hbA hS hin1 d_law_233 ?_
  refine kc_M (wF := wl_Br a k σ' ++ wl_Mo a2 k2 ρ) (va_runV (As := [.int (xs (nI (6 * i) + 1).toNatClampNeg)]) (rest := []) ⟨hx, hb, hml, hown, hts⟩ (c_Br_holiday l D a k _ σ (xs (nI (6 * i) + 1).toNatClampNeg) (r, σ') e1) (cwV 1 hts (gV mv_206 mv_207 mv_208 mv_27 mv_209) rfl rfl rfl hd_Br_holiday ⟨Nat.le_of_ble_eq_true rfl, Nat.le_of_ble_eq_true rfl⟩) (kp_V (ci := 5) (q := (R_Br, F_Br, 6)) (q0 := 0) hK1 (pL hP) (dL (hD σ ρ)) rfl rfl) rfl rfl hl.1 rfl (lv_room (Nat.le_of_ble_eq_true rfl)) d_law_234 ⟨Nat.le_of_ble_eq_true rfl, Nat.le_of_ble_eq_true rfl⟩) hS (dL (hD σ ρ)) hA (fun _ _ h h9 => kjL hP (hD σ ρ) h h9) (fun H locs hP hS => ?_)
  refine lv_aload_n hx hb d_law_237 rfl (lv_at hl 2 rfl) ?_
  refine lv_aload_n hx hb d_law_238 rfl (lv_at hl 0 rfl) ?_
  refine lv_iload_n hx hb d_law_239 rfl (lv_at hl 3 rfl) ?_
  refine lv_iconst (v := 1) hx hb d_law_240 (by decide) ?_
  refine lv_iadd hx hb d_law_241 ?_
  refine va_sld hx hb hX hbl hbA hS hin1 d_law_242 ?_
  refine kc_M (wF := wl_Br a k σ' ++ wl_Mo a2 k2 ρ') (va_runV (As := [.int (xs (nI (6 * i) + 1).toNatClampNeg)]) (rest := [.int r]) ⟨hx, hb, hml, hown, hts⟩ (c_Mo_holiday l D a2 k2 _ ρ (xs (nI (6 * i) + 1).toNatClampNeg) (r, ρ') e2) (cwV 1 hts (gV mv_553 mv_554 mv_555 mv_33 mv_556) rfl rfl rfl hd_Mo_holiday ⟨Nat.le_of_ble_eq_true rfl, Nat.le_of_ble_eq_true rfl⟩) (kp_V (ci := 6) (q := (R_Mo, F_Mo, 15)) (q0 := 0) hK2 (pR hP) (dR (hD σ ρ)) rfl rfl) rfl rfl hl.1 rfl (lv_room (Nat.le_of_ble_eq_true rfl)) d_law_243 ⟨Nat.le_of_ble_eq_true rfl, Nat.le_of_ble_eq_true rfl⟩) hS (dR (hD σ ρ)) hA (fun _ _ h h9 => kjR hP (hD σ' ρ) h h9) (fun H locs hP hS => ?_)
  refine lv_icmp_eq (tgt := 740) hx hb d_law_246 (by decide) (fun _ => ?_) (fun q => absurd rfl q)
  exact J σ' ρ' H locs ls ⟨hR', hP, hS, hl⟩
set_option maxHeartbeats 4000000 in
set_option maxRecDepth 100000 in
theorem law_c3 {p : Program} {l : Launch} {e : Env} {s : State} {m : MethodId} {below : List Frame} {meth : Method} {c : Code} {b L : Nat} {xs : Nat → Int32} {D : va_G} {a : Nat → Nat → Nat} {k : Nat → Nat → ClassId} {a2 : Nat → Nat} {k2 : Nat → ClassId} (hL : L ≤ 3072) (C0 : lw_At p s m meth c b L xs) (hK1 : va_K D cls (ty_Br k) s) (hK2 : va_K D cls (ty_Mo k2) s) (hD : ∀ σ ρ, va_D (fun q : Nat => s.heap.size ≤ q) (wl_Br a k σ ++ wl_Mo a2 k2 ρ)) {i : Nat} (hi : 6 * i + 6 ≤ L) (J : ∀ σ ρ H locs ls, LH s D a k a2 k2 b i σ ρ H locs ls → LW p l e s m below meth c b H locs 740 ls) {σ : S_Br} {ρ : S_Mo} {H : Heap} {locs : List Loc} {ls : Array Slot} (h : LH s D a k a2 k2 b i σ ρ H locs ls) : LW p l e s m below meth c b H locs 251 ls := by
  obtain ⟨hx, hb, hr, hml, hown, hts0, hX, hbl, hlocks, hgv⟩ := C0
  have hts : ∀ w ∈ lw_g, w.before #[Value.ref b] s = true := fun w h => hts0 w (List.mem_filter.mp h).1
  have hA : ∀ q : Nat, s.heap.size ≤ q → (fun q : Nat => s.heap.size ≤ q) q := fun _ h => h
  have hbA : ¬ (fun q : Nat => s.heap.size ≤ q) b := Nat.not_le.mpr hbl
  obtain ⟨hR, hP, hS, hl⟩ := h
  have hin1 : vp_in (nI (6 * i) + 1) L := by rw [show nI (6 * i) + 1 = nI (6 * i + 1) from nI_add _ 1]; exact vp_in_nI (by omega) (by omega)
  have hin2 : vp_in (nI (6 * i) + 2) L := by rw [show nI (6 * i) + 2 = nI (6 * i + 2) from nI_add _ 2]; exact vp_in_nI (by omega) (by omega)
  have hin3 : vp_in (nI (6 * i) + 3) L := by rw [show nI (6 * i) + 3 = nI (6 * i + 3) from nI_add _ 3]; exact vp_in_nI (by omega) (by omega)
  have hin4 : vp_in (nI (6 * i) + 4) L := by rw [show nI (6 * i) + 4 = nI (6 * i + 4) from nI_add _ 4]; exact vp_in_nI (by omega) (by omega)
  obtain ⟨r, σ', ρ', e1, e2, hR'⟩ := sim_book hR (xs (nI (6 * i) + 1).toNatClampNeg) (xs (nI (6 * i) + 2).toNatClampNeg) (xs (nI (6 * i) + 3).toNatClampNeg) (xs (nI (6 * i) + 4).toNatClampNeg)
  refine lv_aload_n hx hb d_law_251 rfl (lv_at hl 1 rfl) ?_
  refine lv_aload_n hx hb d_law_252 rfl (lv_at hl 0 rfl) ?_
  refine lv_iload_n hx hb d_law_253 rfl (lv_at hl 3 rfl) ?_
  refine lv_iconst (v := 1) hx hb d_law_254 (by decide) ?_
  refine lv_iadd hx hb d_law_255 ?_
  refine va_sld hx hb hX hbl hbA hS hin1 d_law_256 ?_
  refine lv_aload_n hx hb d_law_257 rfl (lv_at hl 0 rfl) ?_
  refine lv_iload_n hx hb d_law_258 rfl (lv_at hl 3 rfl) ?_
  refine lv_iconst (v := 2) hx hb d_law_259 (by decide) ?_
  refine lv_iadd hx hb d_law_260 ?_
  refine va_sld hx hb hX hbl hbA hS hin2 d_law_261 ?_
  refine lv_aload_n hx hb d_law_262 rfl (lv_at hl 0 rfl) ?_
  refine lv_iload_n hx hb d_law_263 rfl (lv_at hl 3 rfl) ?_
  refine lv_iconst (v := 3) hx hb d_law_264 (by decide) ?_
  refine lv_iadd hx hb d_law_265 ?_
  refine va_sld hx hb hX hbl hbA hS hin3 d_law_266 ?_
  refine lv_aload_n hx hb d_law_267 rfl (lv_at hl 0 rfl) ?_
  refine lv_iload_n hx hb d_law_268 rfl (lv_at hl 3 rfl) ?_
  refine lv_iconst (v := 4) hx hb d_law_269 (by decide) ?_
  refine lv_iadd hx hb d_law_270 ?_
  refine va_sld hx hb hX hbl hbA hS hin4 d_law_271 ?_
  refine kc_M (wF := wl_Br a k σ' ++ wl_Mo a2 k2 ρ) (va_runV (As := [.int (xs (nI (6 * i) + 1).toNatClampNeg), .int (xs (nI (6 * i) + 2).toNatClampNeg), .int (xs (nI (6 * i) + 3).toNatClampNeg), .int (xs (nI (6 * i) + 4).toNatClampNeg)]) (rest := []) ⟨hx, hb, hml, hown, hts⟩ (c_Br_book l D a k _ σ (xs (nI (6 * i) + 1).toNatClampNeg) (xs (nI (6 * i) + 2).toNatClampNeg) (xs (nI (6 * i) + 3).toNatClampNeg) (xs (nI (6 * i) + 4).toNatClampNeg) (r, σ') e1) (cwV 4 hts (gV mv_222 mv_223 mv_224 mv_27 mv_225) rfl rfl rfl hd_Br_book ⟨Nat.le_of_ble_eq_true rfl, Nat.le_of_ble_eq_true rfl⟩) (kp_V (ci := 5) (q := (R_Br, F_Br, 6)) (q0 := 0) hK1 (pL hP) (dL (hD σ ρ)) rfl rfl) rfl rfl hl.1 rfl (lv_room (Nat.le_of_ble_eq_true rfl)) d_law_272 ⟨Nat.le_of_ble_eq_true rfl, Nat.le_of_ble_eq_true rfl⟩) hS (dL (hD σ ρ)) hA (fun _ _ h h9 => kjL hP (hD σ ρ) h h9) (fun H locs hP hS => ?_)
  refine lv_aload_n hx hb d_law_275 rfl (lv_at hl 2 rfl) ?_
  refine lv_aload_n hx hb d_law_276 rfl (lv_at hl 0 rfl) ?_
  refine lv_iload_n hx hb d_law_277 rfl (lv_at hl 3 rfl) ?_
  refine lv_iconst (v := 1) hx hb d_law_278 (by decide) ?_
  refine lv_iadd hx hb d_law_279 ?_
  refine va_sld hx hb hX hbl hbA hS hin1 d_law_280 ?_
  refine lv_aload_n hx hb d_law_281 rfl (lv_at hl 0 rfl) ?_
  refine lv_iload_n hx hb d_law_282 rfl (lv_at hl 3 rfl) ?_
  refine lv_iconst (v := 2) hx hb d_law_283 (by decide) ?_
  refine lv_iadd hx hb d_law_284 ?_
  refine va_sld hx hb hX hbl hbA hS hin2 d_law_285 ?_
  refine lv_aload_n hx hb d_law_286 rfl (lv_at hl 0 rfl) ?_
  refine lv_iload_n hx hb d_law_287 rfl (lv_at hl 3 rfl) ?_
  refine lv_iconst (v := 3) hx hb d_law_288 (by decide) ?_
  refine lv_iadd hx hb d_law_289 ?_
  refine va_sld hx hb hX hbl hbA hS hin3 d_law_290 ?_
  refine lv_aload_n hx hb d_law_291 rfl (lv_at hl 0 rfl) ?_
  refine lv_iload_n hx hb d_law_292 rfl (lv_at hl 3 rfl) ?_
  refine lv_iconst (v := 4) hx hb d_law_293 (by decide) ?_
  refine lv_iadd hx hb d_law_294 ?_
  refine va_sld hx hb hX hbl hbA hS hin4 d_law_295 ?_
  refine kc_M (wF := wl_Br a k σ' ++ wl_Mo a2 k2 ρ') (va_runV (As := [.int (xs (nI (6 * i) + 1).toNatClampNeg), .int (xs (nI (6 * i) + 2).toNatClampNeg), .int (xs (nI (6 * i) + 3).toNatClampNeg), .int (xs (nI (6 * i) + 4).toNatClampNeg)]) (rest := [.int r]) ⟨hx, hb, hml, hown, hts⟩ (c_Mo_book l D a2 k2 _ ρ (xs (nI (6 * i) + 1).toNatClampNeg) (xs (nI (6 * i) + 2).toNatClampNeg) (xs (nI (6 * i) + 3).toNatClampNeg) (xs (nI (6 * i) + 4).toNatClampNeg) (r, ρ') e2) (cwV 4 hts (gV mv_561 mv_562 mv_563 mv_33 mv_564) rfl rfl rfl hd_Mo_book ⟨Nat.le_of_ble_eq_true rfl, Nat.le_of_ble_eq_true rfl⟩) (kp_V (ci := 6) (q := (R_Mo, F_Mo, 15)) (q0 := 0) hK2 (pR hP) (dR (hD σ ρ)) rfl rfl) rfl rfl hl.1 rfl (lv_room (Nat.le_of_ble_eq_true rfl)) d_law_296 ⟨Nat.le_of_ble_eq_true rfl, Nat.le_of_ble_eq_true rfl⟩) hS (dR (hD σ ρ)) hA (fun _ _ h h9 => kjR hP (hD σ' ρ) h h9) (fun H locs hP hS => ?_)
  refine lv_icmp_eq (tgt := 740) hx hb d_law_299 (by decide) (fun _ => ?_) (fun q => absurd rfl q)
  exact J σ' ρ' H locs ls ⟨hR', hP, hS, hl⟩
