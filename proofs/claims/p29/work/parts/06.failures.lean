abbrev rmX2_init : Room := { frames := 1, cells := 1, slots := 8, locals := 12 }
set_option maxHeartbeats 4000000 in
set_option maxRecDepth 100000 in
theorem k_X2_init (l : Launch) (D : va_G) (cy : Nat → ClassId) (f : zM) (h : Nat) (p0 : f h = some (.inr (2, [.int 0, .int 0, .int 0, .null])))   : zCv l D cy yX2_init cX2_init 1 none rmX2_init [.ref h] f (fun (f1 : zM) => ∃ (ev : Nat), f1 h = some (.inr (2, [.int 0, .int (-1), .int 0, .ref ev])) ∧ f1 ev = some (.inl (cy 0, 8, .inl (fun _ => 0))) ∧ (∀ (b : Nat) (e : va_E), f b = some e → b ≠ h → f1 b = some e)) := by
  intro sz
  refine z_body (by decide +kernel) (Nat.le_of_ble_eq_true rfl) ?_
  intro p e s m below meth c ls C hr hin hsz hz hl
  subst hsz
  have hx := C.1
  have hb := C.2.1
  have hA : ∀ q, s.heap.size ≤ q → zA f s.heap.size q := fun q h => Or.inr h
  have hS : va_S (zA f s.heap.size) s.heap s.heap [] := va_S.rf
  have hl : lv_has ls 1 [(0, .ref h)] := hl
  refine lv_aload_n hx hb dX2_init_0 rfl (lv_at hl 0 rfl) ?_
  refine z_objI C hl mMX2_3 (Nat.le_of_ble_eq_true rfl) (Nat.le_of_ble_eq_true rfl) dX2_init_1 ?_
  refine lv_aload_n hx hb dX2_init_4 rfl (lv_at hl 0 rfl) ?_
  refine lv_iconst (v := 0) hx hb dX2_init_5 (by decide) ?_
  refine z_put (fs' := [.int 0, .int 0, .int 0, .null]) C hz hS p0 zl2 mFX2_9 (by decide) rfl rfl rfl (Nat.le_of_ble_eq_true rfl) rfl dX2_init_6 (fun H locs f1 a2 k3 hz hS => ?_)
  refine lv_aload_n hx hb dX2_init_9 rfl (lv_at hl 0 rfl) ?_
  refine lv_iconst (v := (-1)) hx hb dX2_init_10 (by decide) ?_
  refine z_put (fs' := [.int 0, .int (-1), .int 0, .null]) C hz hS a2 zl2 mFX2_15 (by decide) rfl rfl rfl (Nat.le_of_ble_eq_true rfl) rfl dX2_init_11 (fun H locs f4 a5 k6 hz hS => ?_)
  refine lv_aload_n hx hb dX2_init_14 rfl (lv_at hl 0 rfl) ?_
  refine lv_iconst (v := 0) hx hb dX2_init_15 (by decide) ?_
  refine z_put (fs' := [.int 0, .int (-1), .int 0, .null]) C hz hS a5 zl2 mFX2_18 (by decide) rfl rfl rfl (Nat.le_of_ble_eq_true rfl) rfl dX2_init_16 (fun H locs f7 a8 k9 hz hS => ?_)
  refine lv_aload_n hx hb dX2_init_19 rfl (lv_at hl 0 rfl) ?_
  refine lv_bipush (v := 8) hx hb dX2_init_20 (by decide) ?_
  refine z_newa (atype := .int) (t0 := 0) (N' := 8) (x := (.inl (fun _ => 0))) C hz hS hA rfl mA_int rfl (fun _ => rfl) (by decide) (Nat.le_of_ble_eq_true rfl) (by decide) (Nat.le_of_ble_eq_true rfl) (Nat.le_of_ble_eq_true rfl) dX2_init_22 (fun q10 H f12 u11 a13 k14 hz hS => ?_)
  have a15 : f12 h = some (.inr (2, [.int 0, .int (-1), .int 0, .null])) := (k14 _ (z_nn u11 a8)).trans a8
  refine z_putF (fs' := [.int 0, .int (-1), .int 0, .ref q10]) C hz hS a15 zl2 mFX2_21 (by decide) rfl hin rfl rfl rfl (Nat.le_of_ble_eq_true rfl) rfl dX2_init_24 (fun H locs f16 a17 k18 hz hS => ?_)
  have a19 : f16 q10 = some (.inl (cy 0, 8, .inl (fun _ => 0))) := (k18 _ (Ne.symm (z_nn u11 a8))).trans a13
  exact z_vret C hr hz hS ⟨q10, a17, a19, (by
        intro b e hb n0
        have hb0 : f1 b = some e := (k3 b n0).trans hb
        have hb1 : f4 b = some e := (k6 b n0).trans hb0
        have hb2 : f7 b = some e := (k9 b n0).trans hb1
        have nn3 : b ≠ q10 := z_nn u11 hb2
        have hb3 : f12 b = some e := (k14 b nn3).trans hb2
        have hb4 : f16 b = some e := (k18 b n0).trans hb3
        exact hb4)⟩ (Nat.le_of_ble_eq_true rfl) (Nat.le_of_ble_eq_true rfl) dX2_init_27
abbrev rmX2_none : Room := { frames := 0, cells := 0, slots := 0, locals := 0 }
set_option maxHeartbeats 4000000 in
set_option maxRecDepth 100000 in
theorem k_X2_none (l : Launch) (D : va_G) (cy : Nat → ClassId) (f : zM) (h : Nat) (u1 : Int32) (u2 : Int32) (u3 : Int32) (ev : Nat) (p0 : f h = some (.inr (2, [.int u1, .int u2, .int u3, .ref ev])))   : zCv l D cy yX2_none cX2_none 1 none rmX2_none [.ref h] f (fun (f1 : zM) => f1 h = some (.inr (2, [.int 0, .int (-1), .int 0, .ref ev])) ∧ (∀ (b : Nat) (e : va_E), f b = some e → b ≠ h → f1 b = some e)) := by
  intro sz
  refine z_body (by decide +kernel) (Nat.le_of_ble_eq_true rfl) ?_
  intro p e s m below meth c ls C hr hin hsz hz hl
  subst hsz
  have hx := C.1
  have hb := C.2.1
  have hA : ∀ q, s.heap.size ≤ q → zA f s.heap.size q := fun q h => Or.inr h
  have hS : va_S (zA f s.heap.size) s.heap s.heap [] := va_S.rf
  have hl : lv_has ls 1 [(0, .ref h)] := hl
  refine lv_aload_n hx hb dX2_none_0 rfl (lv_at hl 0 rfl) ?_
  refine lv_iconst (v := 0) hx hb dX2_none_1 (by decide) ?_
  refine z_put (fs' := [.int 0, .int u2, .int u3, .ref ev]) C hz hS p0 zl2 mFX2_9 (by decide) rfl rfl rfl (Nat.le_of_ble_eq_true rfl) rfl dX2_none_2 (fun H locs f1 a2 k3 hz hS => ?_)
  refine lv_aload_n hx hb dX2_none_5 rfl (lv_at hl 0 rfl) ?_
  refine lv_iconst (v := (-1)) hx hb dX2_none_6 (by decide) ?_
  refine z_put (fs' := [.int 0, .int (-1), .int u3, .ref ev]) C hz hS a2 zl2 mFX2_15 (by decide) rfl rfl rfl (Nat.le_of_ble_eq_true rfl) rfl dX2_none_7 (fun H locs f4 a5 k6 hz hS => ?_)
  refine lv_aload_n hx hb dX2_none_10 rfl (lv_at hl 0 rfl) ?_
  refine lv_iconst (v := 0) hx hb dX2_none_11 (by decide) ?_
  refine z_put (fs' := [.int 0, .int (-1), .int 0, .ref ev]) C hz hS a5 zl2 mFX2_18 (by decide) rfl rfl rfl (Nat.le_of_ble_eq_true rfl) rfl dX2_none_12 (fun H locs f7 a8 k9 hz hS => ?_)
  exact z_vret C hr hz hS ⟨a8, (by
        intro b e hb n0
        have hb0 : f1 b = some e := (k3 b n0).trans hb
        have hb1 : f4 b = some e := (k6 b n0).trans hb0
        have hb2 : f7 b = some e := (k9 b n0).trans hb1
        exact hb2)⟩ (Nat.le_of_ble_eq_true rfl) (Nat.le_of_ble_eq_true rfl) dX2_none_15
abbrev rmX2_inPart : Room := { frames := 0, cells := 0, slots := 0, locals := 0 }
set_option maxHeartbeats 4000000 in
set_option maxRecDepth 100000 in
theorem k_X2_inPart (l : Launch) (D : va_G) (cy : Nat → ClassId) (f : zM) (h : Nat) (x : Int32) (y : Int32) (u1 : Int32) (u2 : Int32) (u3 : Int32) (ev : Nat) (g : Nat → Int32) (k : Nat) (p0 : f h = some (.inr (2, [.int u1, .int u2, .int u3, .ref ev]))) (p1 : f ev = some (.inl (cy 0, 8, .inl g)))  (hk : x = nI k) (hk8 : k < 8) : zCi l D cy yX2_inPart cX2_inPart 3 (Option.some Jvm.ClassFile.FieldType.int) rmX2_inPart [.ref h, .int x, .int y] f (fun (r : Int32) (f1 : zM) => r = (-4) ∧ f1 h = some (.inr (2, [.int x, .int y, .int u3, .ref ev])) ∧ f1 ev = some (.inl (cy 0, 8, .inl (upd g k (g k + 1)))) ∧ (∀ (b : Nat) (e : va_E), f b = some e → b ≠ h → b ≠ ev → f1 b = some e)) := by
  intro sz
  refine z_body (by decide +kernel) (Nat.le_of_ble_eq_true rfl) ?_
  intro p e s m below meth c ls C hr hin hsz hz hl
  subst hsz
  have hx := C.1
  have hb := C.2.1
  have hA : ∀ q, s.heap.size ≤ q → zA f s.heap.size q := fun q h => Or.inr h
  have hS : va_S (zA f s.heap.size) s.heap s.heap [] := va_S.rf
  have hl : lv_has ls 3 [(0, .ref h), (1, .int x), (2, .int y)] := hl
  refine lv_aload_n hx hb dX2_inPart_0 rfl (lv_at hl 0 rfl) ?_
  refine lv_iload_n hx hb dX2_inPart_1 rfl (lv_at hl 1 rfl) ?_
  refine z_put (fs' := [.int x, .int u2, .int u3, .ref ev]) C hz hS p0 zl2 mFX2_9 (by decide) rfl rfl rfl (Nat.le_of_ble_eq_true rfl) rfl dX2_inPart_2 (fun H locs f1 a2 k3 hz hS => ?_)
  refine lv_aload_n hx hb dX2_inPart_5 rfl (lv_at hl 0 rfl) ?_
  refine lv_iload_n hx hb dX2_inPart_6 rfl (lv_at hl 2 rfl) ?_
  refine z_put (fs' := [.int x, .int y, .int u3, .ref ev]) C hz hS a2 zl2 mFX2_15 (by decide) rfl rfl rfl (Nat.le_of_ble_eq_true rfl) rfl dX2_inPart_7 (fun H locs f4 a5 k6 hz hS => ?_)
  refine lv_aload_n hx hb dX2_inPart_10 rfl (lv_at hl 0 rfl) ?_
  refine z_get (v := .ref ev) C hz a5 zl2 mFX2_21 (by decide) rfl dX2_inPart_11 ?_
  refine lv_iload_n hx hb dX2_inPart_14 rfl (lv_at hl 1 rfl) ?_
  refine lv_dup2_11 hx hb dX2_inPart_15 rfl rfl ?_
  have a7 : f1 ev = some (.inl (cy 0, 8, .inl g)) := (k3 _ (z_ne p1 p0 rfl)).trans p1
  have a8 : f4 ev = some (.inl (cy 0, 8, .inl g)) := (k6 _ (z_ne a7 a2 rfl)).trans a7
  refine z_iald k C hz a8 hk hk8 (by omega) dX2_inPart_16 ?_
  refine lv_iconst (v := 1) hx hb dX2_inPart_17 (by decide) ?_
  refine lv_iadd hx hb dX2_inPart_18 ?_
  refine z_iast k C hz hS a8 hk hk8 (by omega) dX2_inPart_19 (fun H locs f9 a10 k11 hz hS => ?_)
  refine lv_bipush (v := (-4)) hx hb dX2_inPart_20 (by decide) ?_
  have a12 : f9 h = some (.inr (2, [.int x, .int y, .int u3, .ref ev])) := (k11 _ (z_ne a5 a8 rfl)).trans a5
  exact z_iret C hr rfl hz hS ⟨rfl, a12, a10, (by
        intro b e hb n0 n1
        have hb0 : f1 b = some e := (k3 b n0).trans hb
        have hb1 : f4 b = some e := (k6 b n0).trans hb0
        have hb2 : f9 b = some e := (k11 b n1).trans hb1
        exact hb2)⟩ (Nat.le_of_ble_eq_true rfl) (Nat.le_of_ble_eq_true rfl) dX2_inPart_22
abbrev rmX2_own : Room := { frames := 1, cells := 0, slots := 0, locals := 22 }
set_option maxHeartbeats 4000000 in
set_option maxRecDepth 100000 in
theorem k_X2_own (l : Launch) (D : va_G) (cy : Nat → ClassId) (f : zM) (h : Nat) (x : Int32) (y : Int32) (u1 : Int32) (u2 : Int32) (u3 : Int32) (ev : Nat) (g : Nat → Int32) (p0 : f h = some (.inr (2, [.int u1, .int u2, .int u3, .ref ev]))) (p1 : f ev = some (.inl (cy 0, 8, .inl g)))   : zCi l D cy yX2_own cX2_own 3 (Option.some Jvm.ClassFile.FieldType.int) rmX2_own [.ref h, .int x, .int y] f (fun (r : Int32) (f1 : zM) => r = (-4) ∧ f1 h = some (.inr (2, [.int 7, .int y, .int x, .ref ev])) ∧ f1 ev = some (.inl (cy 0, 8, .inl (upd g 7 (g 7 + 1)))) ∧ (∀ (b : Nat) (e : va_E), f b = some e → b ≠ h → b ≠ ev → f1 b = some e)) := by
  intro sz
  refine z_body (by decide +kernel) (Nat.le_of_ble_eq_true rfl) ?_
  intro p e s m below meth c ls C hr hin hsz hz hl
  subst hsz
  have hx := C.1
  have hb := C.2.1
  have hA : ∀ q, s.heap.size ≤ q → zA f s.heap.size q := fun q h => Or.inr h
  have hS : va_S (zA f s.heap.size) s.heap s.heap [] := va_S.rf
  have hl : lv_has ls 3 [(0, .ref h), (1, .int x), (2, .int y)] := hl
  refine lv_aload_n hx hb dX2_own_0 rfl (lv_at hl 0 rfl) ?_
  refine lv_iload_n hx hb dX2_own_1 rfl (lv_at hl 1 rfl) ?_
  refine z_put (fs' := [.int u1, .int u2, .int x, .ref ev]) C hz hS p0 zl2 mFX2_18 (by decide) rfl rfl rfl (Nat.le_of_ble_eq_true rfl) rfl dX2_own_2 (fun H locs f1 a2 k3 hz hS => ?_)
  refine lv_aload_n hx hb dX2_own_5 rfl (lv_at hl 0 rfl) ?_
  refine lv_bipush (v := 7) hx hb dX2_own_6 (by decide) ?_
  refine lv_iload_n hx hb dX2_own_8 rfl (lv_at hl 2 rfl) ?_
  have a4 : f1 ev = some (.inl (cy 0, 8, .inl g)) := (k3 _ (z_ne p1 p0 rfl)).trans p1
  refine z_callVi (As := [.int 7, .int y]) C hz hS hA hl (k_X2_inPart l D cy f1 h 7 y u1 u2 x ev g 7 a2 a4 (by decide) (Nat.le_of_ble_eq_true rfl)) zyX2_inPart mMX2_25 a2 zl2 rfl rfl (Nat.le_of_ble_eq_true rfl) ⟨Nat.le_of_ble_eq_true rfl, Nat.le_of_ble_eq_true rfl⟩ ⟨Nat.le_of_ble_eq_true rfl, Nat.le_of_ble_eq_true rfl⟩ dX2_own_9 (fun r f5 H locs h6 hz hS => ?_)
  obtain ⟨rfl, a7, a8, k9⟩ := h6
  exact z_iret C hr rfl hz hS ⟨rfl, a7, a8, (by
        intro b e hb n0 n1
        have hb0 : f1 b = some e := (k3 b n0).trans hb
        have hb1 : f5 b = some e := k9 b e hb0 n0 n1
        exact hb1)⟩ (Nat.le_of_ble_eq_true rfl) (Nat.le_of_ble_eq_true rfl) dX2_own_12
abbrev rmX2_inNoPart : Room := { frames := 1, cells := 0, slots := 0, locals := 22 }
set_option maxHeartbeats 4000000 in
set_option maxRecDepth 100000 in
theorem k_X2_inNoPart (l : Launch) (D : va_G) (cy : Nat → ClassId) (f : zM) (h : Nat) (x : Int32) (u1 : Int32) (u2 : Int32) (u3 : Int32) (ev : Nat) (g : Nat → Int32) (k : Nat) (p0 : f h = some (.inr (2, [.int u1, .int u2, .int u3, .ref ev]))) (p1 : f ev = some (.inl (cy 0, 8, .inl g)))  (hk : x = nI k) (hk8 : k < 8) : zCi l D cy yX2_inNoPart cX2_inNoPart 2 (Option.some Jvm.ClassFile.FieldType.int) rmX2_inNoPart [.ref h, .int x] f (fun (r : Int32) (f1 : zM) => r = (-4) ∧ f1 h = some (.inr (2, [.int x, .int (-1), .int u3, .ref ev])) ∧ f1 ev = some (.inl (cy 0, 8, .inl (upd g k (g k + 1)))) ∧ (∀ (b : Nat) (e : va_E), f b = some e → b ≠ h → b ≠ ev → f1 b = some e)) := by
  intro sz
  refine z_body (by decide +kernel) (Nat.le_of_ble_eq_true rfl) ?_
  intro p e s m below meth c ls C hr hin hsz hz hl
  subst hsz
  have hx := C.1
  have hb := C.2.1
  have hA : ∀ q, s.heap.size ≤ q → zA f s.heap.size q := fun q h => Or.inr h
  have hS : va_S (zA f s.heap.size) s.heap s.heap [] := va_S.rf
  have hl : lv_has ls 2 [(0, .ref h), (1, .int x)] := hl
  refine lv_aload_n hx hb dX2_inNoPart_0 rfl (lv_at hl 0 rfl) ?_
  refine lv_iload_n hx hb dX2_inNoPart_1 rfl (lv_at hl 1 rfl) ?_
  refine lv_iconst (v := (-1)) hx hb dX2_inNoPart_2 (by decide) ?_
  refine z_callVi (As := [.int x, .int (-1)]) C hz hS hA hl (k_X2_inPart l D cy f h x (-1) u1 u2 u3 ev g k p0 p1 hk hk8) zyX2_inPart mMX2_25 p0 zl2 rfl rfl (Nat.le_of_ble_eq_true rfl) ⟨Nat.le_of_ble_eq_true rfl, Nat.le_of_ble_eq_true rfl⟩ ⟨Nat.le_of_ble_eq_true rfl, Nat.le_of_ble_eq_true rfl⟩ dX2_inNoPart_3 (fun r f1 H locs h2 hz hS => ?_)
  obtain ⟨rfl, a3, a4, k5⟩ := h2
  exact z_iret C hr rfl hz hS ⟨rfl, a3, a4, (by
        intro b e hb n0 n1
        have hb0 : f1 b = some e := k5 b e hb n0 n1
        exact hb0)⟩ (Nat.le_of_ble_eq_true rfl) (Nat.le_of_ble_eq_true rfl) dX2_inNoPart_6
theorem z_ixr {x : Int32} (h1 : ¬ x < 1) (h2 : ¬ 7 < x) : ∃ j : Nat, j < 8 ∧ x = nI j := by
  rw [Int32.lt_iff_toInt_lt] at h1 h2
  have e1 : (1 : Int32).toInt = 1 := by decide
  have e7 : (7 : Int32).toInt = 7 := by decide
  rw [e1] at h1
  rw [e7] at h2
  obtain ⟨j, hj, e⟩ := vp_in_of (x := x) (n := 8) (vp_in_iff.mpr ⟨by omega, by omega⟩) (by omega)
  exact ⟨j, hj, e⟩
abbrev rmX2_everOf : Room := { frames := 0, cells := 0, slots := 0, locals := 0 }
set_option maxHeartbeats 4000000 in
set_option maxRecDepth 100000 in
theorem k_X2_everOf (l : Launch) (D : va_G) (cy : Nat → ClassId) (f : zM) (h : Nat) (x : Int32) (u1 : Int32) (u2 : Int32) (u3 : Int32) (ev : Nat) (g : Nat → Int32) (p0 : f h = some (.inr (2, [.int u1, .int u2, .int u3, .ref ev]))) (p1 : f ev = some (.inl (cy 0, 8, .inl g)))   : zCi l D cy yX2_everOf cX2_everOf 2 (Option.some Jvm.ClassFile.FieldType.int) rmX2_everOf [.ref h, .int x] f (fun (r : Int32) (f1 : zM) => r = (if x < 1 then (-2) else if 7 < x then (-2) else g x.toNatClampNeg) ∧ (∀ (b : Nat) (e : va_E), f b = some e → f1 b = some e)) := by
  intro sz
  refine z_body (by decide +kernel) (Nat.le_of_ble_eq_true rfl) ?_
  intro p e s m below meth c ls C hr hin hsz hz hl
  subst hsz
  have hx := C.1
  have hb := C.2.1
  have hA : ∀ q, s.heap.size ≤ q → zA f s.heap.size q := fun q h => Or.inr h
  have hS : va_S (zA f s.heap.size) s.heap s.heap [] := va_S.rf
  have hl : lv_has ls 2 [(0, .ref h), (1, .int x)] := hl
  refine lv_iload_n hx hb dX2_everOf_0 rfl (lv_at hl 1 rfl) ?_
  refine lv_iconst (v := 1) hx hb dX2_everOf_1 (by decide) ?_
  refine lv_icmp_lt (tgt := 20) hx hb dX2_everOf_2 (by decide) (fun c1 => ?_) (fun c1 => ?_)
  · refine lv_bipush (v := (-2)) hx hb dX2_everOf_20 (by decide) ?_
    exact z_iret C hr rfl hz hS ⟨(by first | simp [c1] | simp_all), (fun b e hb => hb)⟩ (Nat.le_of_ble_eq_true rfl) (Nat.le_of_ble_eq_true rfl) dX2_everOf_22
  · refine lv_iload_n hx hb dX2_everOf_5 rfl (lv_at hl 1 rfl) ?_
    refine lv_bipush (v := 7) hx hb dX2_everOf_6 (by decide) ?_
    refine lv_icmp_gt (tgt := 20) hx hb dX2_everOf_8 (by decide) (fun c2 => ?_) (fun c2 => ?_)
    · refine lv_bipush (v := (-2)) hx hb dX2_everOf_20 (by decide) ?_
      exact z_iret C hr rfl hz hS ⟨(by first | simp [c1, c2] | simp_all), (fun b e hb => hb)⟩ (Nat.le_of_ble_eq_true rfl) (Nat.le_of_ble_eq_true rfl) dX2_everOf_22
    · obtain ⟨j, hj, hxj⟩ := z_ixr c1 c2
      refine lv_aload_n hx hb dX2_everOf_11 rfl (lv_at hl 0 rfl) ?_
      refine z_get (v := .ref ev) C hz p0 zl2 mFX2_21 (by decide) rfl dX2_everOf_12 ?_
      refine lv_iload_n hx hb dX2_everOf_15 rfl (lv_at hl 1 rfl) ?_
      refine z_iald j C hz p1 hxj hj (by omega) dX2_everOf_16 ?_
      refine lv_goto (tgt := 22) hx hb dX2_everOf_17 (by decide) ?_
      exact z_iret C hr rfl hz hS ⟨(by rw [if_neg c1, if_neg c2, hxj, nI_clamp (by omega)]), (fun b e hb => hb)⟩ (Nat.le_of_ble_eq_true rfl) (Nat.le_of_ble_eq_true rfl) dX2_everOf_22
