/-! Own rows: the form of the contracts (kp_), calls (kc_), ends (kr_), joins of worlds (kd_, kj). -/
abbrev A32 : Type := Nat → Int32
def FU : Nat := 4000
theorem gd_in {α : Type} {c : Prop} [Decidable c] {e : Option α} {r : α} (h : (if c then none else e) = some r) : ¬ c ∧ e = some r := by
  by_cases hc : c
  · rw [if_pos hc] at h; cases h
  · rw [if_neg hc] at h; exact ⟨hc, h⟩
theorem br_p {α : Type} {c : Prop} [Decidable c] {x y r : α} (hc : c) (h : (if c then x else y) = r) : x = r := by
  rw [if_pos hc] at h; exact h
theorem br_n {α : Type} {c : Prop} [Decidable c] {x y r : α} (hc : ¬ c) (h : (if c then x else y) = r) : y = r := by
  rw [if_neg hc] at h; exact h
theorem ob_s {α β : Type} {x : Option α} {f : α → Option β} {b : β} (h : x.bind f = some b) : ∃ a, x = some a ∧ f a = some b := by
  cases x with
  | none => cases h
  | some a => exact ⟨a, rfl, h⟩
theorem kn_b {v : Int32} (h : ¬ ¬ (v &&& 1 = v)) : narrow .boolean (.int v) = .int v := by
  show Value.int (v &&& 1) = .int v
  rw [Decidable.of_not_not h]
theorem sw_ne {x : Int32} {n : Nat} (hn : n < 2 ^ 31) (h : ¬ x = nI n) : x.toInt ≠ (n : Int) := fun e => h (Int32.toInt_inj.mp (by rw [e, nI_toInt hn]))
theorem sw_out3 {x : Int32} (c0 : ¬ x = 0) (c1 : ¬ x = 1) (c2 : ¬ x = 2) : x.toInt < 0 ∨ 2 < x.toInt := by
  have h0 := sw_ne (n := 0) (by decide) c0
  have h1 := sw_ne (n := 1) (by decide) c1
  have h2 := sw_ne (n := 2) (by decide) c2
  omega
theorem sw_out6 {x : Int32} (c0 : ¬ x = 0) (c1 : ¬ x = 1) (c2 : ¬ x = 2) (c3 : ¬ x = 3) (c4 : ¬ x = 4) (c5 : ¬ x = 5) : x.toInt < 0 ∨ 5 < x.toInt := by
  have h0 := sw_ne (n := 0) (by decide) c0
  have h1 := sw_ne (n := 1) (by decide) c1
  have h2 := sw_ne (n := 2) (by decide) c2
  have h3 := sw_ne (n := 3) (by decide) c3
  have h4 := sw_ne (n := 4) (by decide) c4
  have h5 := sw_ne (n := 5) (by decide) c5
  omega
/-- the start of a contract: the cells ws, the array classes tys -/
def kp_P (D : va_G) (cl : List vw_C) (tys : List (ClassId × FieldType)) (ws : va_W) (av : List Value) (sz : Nat) : Array Value → State → Prop :=
  va_Pc av (fun U => U.heap.size = sz ∧ va_P D cl ws U.heap ∧ va_K D cl tys U ∧ va_D (fun _ => True) ws)
/-- the end of one that only reads -/
def kp_R (sz : Nat) (r0 : Int32) : Array Value → State → Outcome → State → Prop :=
  va_Qi (fun (r : Int32) (_ : Unit) => r = r0) (fun _ _ => True) (va_A [] sz)
/-- the end of one that writes, with an answer -/
def kp_M (D : va_G) (cl : List vw_C) (ws' ws : va_W) (sz : Nat) (r0 : Int32) : Array Value → State → Outcome → State → Prop :=
  va_Qi (fun (r : Int32) (_ : Unit) => r = r0) (fun _ t => va_P D cl ws' t.heap) (va_A ws sz)
/-- the end of one that writes, without -/
def kp_Mv (D : va_G) (cl : List vw_C) (ws' ws : va_W) (sz : Nat) : Array Value → State → Outcome → State → Prop :=
  va_Qv (fun (_ : Unit) => True) (fun _ t => va_P D cl ws' t.heap) (va_A ws sz)
theorem kp_fb {D : va_G} {cl : List vw_C} {tys : List (ClassId × FieldType)} {ws : va_W} {av : List Value} {sz : Nat} : FrameBlind (kp_P D cl tys ws av sz) := fun a U g mk q => by
  obtain ⟨q0, q1, qP, qK, qD⟩ := q
  exact ⟨q0, q1, qP, va_K.moved (u := U) (U := U.calling g mk a) (Vm.Alike.refl U.vm) qK, qD⟩
theorem kp_V {s : State} {H : Heap} {D : va_G} {cl : List vw_C} {tys : List (ClassId × FieldType)} {ws : va_W} {A : Nat → Prop} {b q0 ci : Nat} {q : vw_C} {fs As : List Value} (hK : va_K D cl tys s) (hP : va_P D cl ws H) (hD : va_D A ws) (hc : cl[ci]? = some q) (he : ws[q0]? = some (b, .inr (ci, fs))) : PreV s H q.1 b (kp_P D cl tys ws (.ref b :: As) H.size) As :=
  ⟨kp_fb, va_recv hK hP hc he, fun U hU hW => ⟨rfl, by rw [hU], by rw [hU]; exact hP, va_K.moved hW.alike hK, hD.weaken (fun _ _ _ _ => trivial)⟩⟩
theorem kp_S {s : State} {H : Heap} {D : va_G} {cl : List vw_C} {As : List Value} (hK : va_K D cl [] s) : PreS s H (kp_P D cl [] [] As H.size) As :=
  ⟨kp_fb, fun U hU hW => ⟨rfl, by rw [hU], fun k q h => by simp at h, va_K.moved hW.alike hK, ⟨fun i j p q h => by simp at h, fun k q h => by simp at h⟩⟩⟩
theorem kd_cg {A : Nat → Prop} {ws ws' : va_W} (h : va_D A ws) (e : ws'.map Prod.fst = ws.map Prod.fst) : va_D A ws' := by
  have key : ∀ (i : Nat) (q : Nat × va_E), ws'[i]? = some q → ∃ q', ws[i]? = some q' ∧ q'.1 = q.1 := by
    intro i q hq
    have h1 : (ws'.map Prod.fst)[i]? = some q.1 := by rw [List.getElem?_map, hq]; rfl
    rw [e, List.getElem?_map] at h1
    cases hw : ws[i]? with
    | none => rw [hw] at h1; cases h1
    | some q' => rw [hw] at h1; exact ⟨q', rfl, Option.some.inj h1⟩
  refine ⟨fun i j p q hp hq hpq => ?_, fun k q hk => ?_⟩
  · obtain ⟨p', hp', ep⟩ := key i p hp
    obtain ⟨q', hq', eq⟩ := key j q hq
    exact h.1 i j p' q' hp' hq' (by rw [ep, eq, hpq])
  · obtain ⟨q', hq', eq⟩ := key k q hk
    rw [← eq]; exact h.2 k q' hq'
theorem kA_nil {sz q : Nat} (h : va_A [] sz q) : sz ≤ q := by
  rcases h with ⟨k, e, h⟩ | h
  · simp at h
  · exact h
theorem kA_to {A : Nat → Prop} {ws : va_W} {H0 H : Heap} {locs : List Loc} (hD : va_D A ws) (hS : va_S A H0 H locs) (hA : ∀ q, H0.size ≤ q → A q) : ∀ q, va_A ws H.size q → A q := fun q h => by
  rcases h with ⟨k, e, h⟩ | h
  · exact hD.2 k _ h
  · exact hA q (Nat.le_trans hS.1 h)
/-- a world beside one that was written: cells before and behind it stay -/
theorem kj {D : va_G} {cl : List vw_C} {A : Nat → Prop} {pre ws ws' post : va_W} {H H1 : Heap} (hP : va_P D cl (pre ++ (ws ++ post)) H) (hD : va_D A (pre ++ (ws ++ post))) (hP1 : va_P D cl ws' H1) (hk : ∀ q : Nat, q < H.size → ¬ va_A ws H.size q → H1[q]? = H[q]?) : va_P D cl (pre ++ (ws' ++ post)) H1 := by
  have keep : ∀ (i : Nat) (q : Nat × va_E), (pre ++ (ws ++ post))[i]? = some q → (∀ j, j < ws.length → i ≠ pre.length + j) → va_at D cl q H1 := by
    intro i q hq hne
    have hat := hP i q hq
    refine hat.kept (hk q.1 hat.lt (fun h => ?_))
    rcases h with ⟨j, e, h⟩ | h
    · have hj : j < ws.length := (List.getElem?_eq_some_iff.mp h).1
      have h2 : (pre ++ (ws ++ post))[pre.length + j]? = some (q.1, e) := by
        rw [List.getElem?_append_right (Nat.le_add_right _ _), Nat.add_sub_cancel_left, List.getElem?_append_left hj]; exact h
      exact hne j hj (hD.1 i (pre.length + j) q (q.1, e) hq h2 rfl)
    · exact absurd hat.lt (Nat.not_lt.mpr h)
  intro i q hq
  rcases Nat.lt_or_ge i pre.length with hi | hi
  · rw [List.getElem?_append_left hi] at hq
    exact keep i q (by rw [List.getElem?_append_left hi]; exact hq) (fun j _ e => by omega)
  · rw [List.getElem?_append_right hi] at hq
    rcases Nat.lt_or_ge (i - pre.length) ws'.length with hj | hj
    · rw [List.getElem?_append_left hj] at hq
      exact hP1 _ q hq
    · rw [List.getElem?_append_right hj] at hq
      refine keep (pre.length + (ws.length + (i - pre.length - ws'.length))) q ?_ (fun j h e => by omega)
      rw [List.getElem?_append_right (Nat.le_add_right _ _), Nat.add_sub_cancel_left, List.getElem?_append_right (Nat.le_add_right _ _), Nat.add_sub_cancel_left]
      exact hq
section
variable {p : Program} {l : Launch} {e : Env} {R : Room} {s : State} {m : MethodId} {args : Array Value} {below : List Frame} {meth : Method} {c : Code} {H H0 : Heap} {locs : List Loc} {cells slots : Nat} {Q : State → Prop} {pc : Nat} {ls : Array Slot} {st0 rest : List Value} {a : Array Value} {A : Nat → Prop} {D : va_G} {cl : List vw_C}
theorem kc_R {r0 : Int32} {ws : va_W} (hr : va_Run p l e R s m args below meth c H locs cells slots 0 0 (F0 m pc ls st0) rest (kp_R H.size r0 a) (va_A [] H.size)) (hS : va_S A H0 H locs) (hA : ∀ q : Nat, H0.size ≤ q → A q) (hP : va_P D cl ws H)
    (kk : ∀ (H1 : Heap) (locs1 : List Loc), va_P D cl ws H1 → va_S A H0 H1 locs1 → W p l e R s m args below meth c H1 locs1 cells slots Q (F0 m (pc + 3) ls (.int r0 :: rest))) : W p l e R s m args below meth c H locs cells slots Q (F0 m pc ls st0) := by
  have hf : ∀ q, va_A [] H.size q → A q := fun q h => hA q (Nat.le_trans hS.1 (kA_nil h))
  refine va_calli hr hS (fun q _ h => hf q h) hf (fun r u t H1 locs1 ht hvm hw hB hz hk1 hS1 => ?_)
  have hw : r = r0 := hw
  subst hw
  exact kk H1 locs1 (hP.kept (fun k q hq => hk1 q.1 (hP k q hq).lt (fun h => absurd (hP k q hq).lt (Nat.not_lt.mpr (kA_nil h))))) hS1
theorem kc_M {r0 : Int32} {ws ws' wF : va_W} (hr : va_Run p l e R s m args below meth c H locs cells slots 0 0 (F0 m pc ls st0) rest (kp_M D cl ws' ws H.size r0 a) (va_A ws H.size)) (hS : va_S A H0 H locs) (hD : va_D A ws) (hA : ∀ q : Nat, H0.size ≤ q → A q) (hj : ∀ H1 : Heap, H.size ≤ H1.size → va_P D cl ws' H1 → (∀ q : Nat, q < H.size → ¬ va_A ws H.size q → H1[q]? = H[q]?) → va_P D cl wF H1)
    (kk : ∀ (H1 : Heap) (locs1 : List Loc), va_P D cl wF H1 → va_S A H0 H1 locs1 → W p l e R s m args below meth c H1 locs1 cells slots Q (F0 m (pc + 3) ls (.int r0 :: rest))) : W p l e R s m args below meth c H locs cells slots Q (F0 m pc ls st0) := by
  have hf := kA_to hD hS hA
  refine va_calli hr hS (fun q _ h => hf q h) hf (fun r u t H1 locs1 ht hvm hw hB hz hk1 hS1 => ?_)
  have hw : r = r0 := hw
  subst hw
  have hB : va_P D cl ws' t.heap := hB
  rw [ht] at hB
  exact kk H1 locs1 (hj H1 hz hB hk1) hS1
theorem kc_Mv {ws ws' wF : va_W} (hr : va_Run p l e R s m args below meth c H locs cells slots 0 0 (F0 m pc ls st0) rest (kp_Mv D cl ws' ws H.size a) (va_A ws H.size)) (hS : va_S A H0 H locs) (hD : va_D A ws) (hA : ∀ q : Nat, H0.size ≤ q → A q) (hj : ∀ H1 : Heap, H.size ≤ H1.size → va_P D cl ws' H1 → (∀ q : Nat, q < H.size → ¬ va_A ws H.size q → H1[q]? = H[q]?) → va_P D cl wF H1)
    (kk : ∀ (H1 : Heap) (locs1 : List Loc), va_P D cl wF H1 → va_S A H0 H1 locs1 → W p l e R s m args below meth c H1 locs1 cells slots Q (F0 m (pc + 3) ls rest)) : W p l e R s m args below meth c H locs cells slots Q (F0 m pc ls st0) := by
  have hf := kA_to hD hS hA
  refine va_callv hr hS (fun q _ h => hf q h) hf (fun u t H1 locs1 ht hvm hw hB hz hk1 hS1 => ?_)
  have hB : va_P D cl ws' t.heap := hB
  rw [ht] at hB
  exact kk H1 locs1 (hj H1 hz hB hk1) hS1
theorem kr_R {cc : ByteArray} {v r0 : Int32} {ty : FieldType} (hx : p.tables.exec = Jvm.exec) (hb : c.code = cc) (hr : meth.sig.returnType = some ty) (hn : narrow ty (.int v) = .int v) (hlocks : meth.locks = false) (hS : va_S (va_A [] s.heap.size) s.heap H locs) (hk : some v = some r0) (hdg : decode cc pc = .ok (.ireturn, 1)) : W p l e R s m args below meth c H locs cells slots (MQ below (kp_R s.heap.size r0) args s cells slots (va_A [] s.heap.size)) (F0 m pc ls [.int v]) :=
  W.zret hx hb hr hn (fun t ht hW => ⟨⟨v, (), rfl, Option.some.inj hk, trivial⟩, hS.F ht⟩) hS.2.2 hdg hlocks
theorem kr_M {cc : ByteArray} {S : Type} {v : Int32} {τ : S} {r0 : Int32 × S} {w : S → va_W} {ws : va_W} {ty : FieldType} (hx : p.tables.exec = Jvm.exec) (hb : c.code = cc) (hr : meth.sig.returnType = some ty) (hn : narrow ty (.int v) = .int v) (hlocks : meth.locks = false) (hS : va_S (va_A ws s.heap.size) s.heap H locs) (hP : va_P D cl (w τ) H) (hk : some (v, τ) = some r0) (hdg : decode cc pc = .ok (.ireturn, 1)) : W p l e R s m args below meth c H locs cells slots (MQ below (kp_M D cl (w r0.2) ws s.heap.size r0.1) args s cells slots (va_A ws s.heap.size)) (F0 m pc ls [.int v]) := by
  obtain rfl := Option.some.inj hk
  exact W.zret hx hb hr hn (fun t ht hW => ⟨⟨v, (), rfl, rfl, by show va_P D cl (w τ) t.heap; rw [ht]; exact hP⟩, hS.F ht⟩) hS.2.2 hdg hlocks
theorem kr_Mv {cc : ByteArray} {S : Type} {τ r0 : S} {w : S → va_W} {ws : va_W} (hx : p.tables.exec = Jvm.exec) (hb : c.code = cc) (hr : meth.sig.returnType = none) (hlocks : meth.locks = false) (hS : va_S (va_A ws s.heap.size) s.heap H locs) (hP : va_P D cl (w τ) H) (hk : some τ = some r0) (hdg : decode cc pc = .ok (.return_, 1)) : W p l e R s m args below meth c H locs cells slots (MQ below (kp_Mv D cl (w r0) ws s.heap.size) args s cells slots (va_A ws s.heap.size)) (F0 m pc ls []) := by
  obtain rfl := Option.some.inj hk
  exact W.vret hx hb hr (fun t ht hW => ⟨⟨(), rfl, trivial, by show va_P D cl (w τ) t.heap; rw [ht]; exact hP⟩, hS.F ht⟩) hS.2.2 hdg hlocks
end

