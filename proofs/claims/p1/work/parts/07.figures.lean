abbrev rmX5_init : Room := { frames := 1, cells := 2, slots := 120, locals := 12 }
set_option maxHeartbeats 4000000 in
set_option maxRecDepth 100000 in
theorem k_X5_init (l : Launch) (D : va_G) (cy : Nat → ClassId) (f : zM) (h : Nat) (p0 : f h = some (.inr (5, [.null, .null, .int 0])))  : zCv l D cy yX5_init cX5_init 1 none rmX5_init [.ref h] f (fun (f1 : zM) => ∃ (al : Nat) (ra : Nat), (al ≠ ra) ∧ f1 h = some (.inr (5, [.ref al, .ref ra, .int 0])) ∧ f1 al = some (.inl (cy 3, 60, .inr (.inr (.inr (.inr (fun _ => none)))))) ∧ f1 ra = some (.inl (cy 3, 60, .inr (.inr (.inr (.inr (fun _ => none)))))) ∧ (∀ (b : Nat) (e : va_E), f b = some e → b ≠ h → f1 b = some e)) := by
  intro sz
  refine z_body (by decide +kernel) (Nat.le_of_ble_eq_true rfl) ?_
  intro p e s m below meth c ls C hr hin hsz hz hl
  subst hsz
  have hx := C.1
  have hb := C.2.1
  have hA : ∀ q, s.heap.size ≤ q → zA f s.heap.size q := fun q h => Or.inr h
  have hS : va_S (zA f s.heap.size) s.heap s.heap [] := va_S.rf
  have hl : lv_has ls 1 [(0, .ref h)] := hl
  refine lv_aload_n hx hb dX5_init_0 rfl (lv_at hl 0 rfl) ?_
  refine z_objI C hl mMX5_3 (Nat.le_of_ble_eq_true rfl) (Nat.le_of_ble_eq_true rfl) dX5_init_1 ?_
  refine lv_aload_n hx hb dX5_init_4 rfl (lv_at hl 0 rfl) ?_
  refine lv_bipush (v := 60) hx hb dX5_init_5 (by decide) ?_
  refine z_newq (t0 := 3) (N' := 60) C hz hS hA mLX5_11 mAO_RX4 rfl (by decide) (Nat.le_of_ble_eq_true rfl) (Nat.le_of_ble_eq_true rfl) (Nat.le_of_ble_eq_true rfl) dX5_init_7 (fun q1 H f3 u2 a4 k5 hz hS => ?_)
  have a6 : f3 h = some (.inr (5, [.null, .null, .int 0])) := (k5 _ (z_nn u2 p0)).trans p0
  refine z_putF (fs' := [.ref q1, .null, .int 0]) C hz hS a6 zl5 mFX5_13 (by decide) rfl hin rfl rfl rfl (Nat.le_of_ble_eq_true rfl) rfl dX5_init_10 (fun H locs f7 a8 k9 hz hS => ?_)
  refine lv_aload_n hx hb dX5_init_13 rfl (lv_at hl 0 rfl) ?_
  refine lv_bipush (v := 60) hx hb dX5_init_14 (by decide) ?_
  have a10 : f7 q1 = some (.inl (cy 3, 60, .inr (.inr (.inr (.inr (fun _ => none)))))) := (k9 _ (Ne.symm (z_nn u2 p0))).trans a4
  refine z_newq (t0 := 3) (N' := 60) C hz hS hA mLX5_11 mAO_RX4 rfl (by decide) (Nat.le_of_ble_eq_true rfl) (Nat.le_of_ble_eq_true rfl) (Nat.le_of_ble_eq_true rfl) dX5_init_16 (fun q11 H f13 u12 a14 k15 hz hS => ?_)
  have a16 : f13 h = some (.inr (5, [.ref q1, .null, .int 0])) := (k15 _ (z_nn u12 a8)).trans a8
  refine z_putF (fs' := [.ref q1, .ref q11, .int 0]) C hz hS a16 zl5 mFX5_17 (by decide) rfl hin rfl rfl rfl (Nat.le_of_ble_eq_true rfl) rfl dX5_init_19 (fun H locs f17 a18 k19 hz hS => ?_)
  refine lv_aload_n hx hb dX5_init_22 rfl (lv_at hl 0 rfl) ?_
  refine lv_iconst (v := 0) hx hb dX5_init_23 (by decide) ?_
  refine z_put (fs' := [.ref q1, .ref q11, .int 0]) C hz hS a18 zl5 mFX5_20 (by decide) rfl rfl rfl (Nat.le_of_ble_eq_true rfl) rfl dX5_init_24 (fun H locs f20 a21 k22 hz hS => ?_)
  have a23 : f13 q1 = some (.inl (cy 3, 60, .inr (.inr (.inr (.inr (fun _ => none)))))) := (k15 _ (z_nn u12 a10)).trans a10
  have a24 : f17 q1 = some (.inl (cy 3, 60, .inr (.inr (.inr (.inr (fun _ => none)))))) := (k19 _ (Ne.symm (z_nn u2 p0))).trans a23
  have a25 : f20 q1 = some (.inl (cy 3, 60, .inr (.inr (.inr (.inr (fun _ => none)))))) := (k22 _ (Ne.symm (z_nn u2 p0))).trans a24
  have a26 : f17 q11 = some (.inl (cy 3, 60, .inr (.inr (.inr (.inr (fun _ => none)))))) := (k19 _ (Ne.symm (z_nn u12 a8))).trans a14
  have a27 : f20 q11 = some (.inl (cy 3, 60, .inr (.inr (.inr (.inr (fun _ => none)))))) := (k22 _ (Ne.symm (z_nn u12 a8))).trans a26
  exact z_vret C hr hz hS ⟨q1, q11, (z_nn u12 a10), a21, a25, a27, (by
        intro b e hb n0
        have nn0 : b ≠ q1 := z_nn u2 hb
        have hb0 : f3 b = some e := (k5 b nn0).trans hb
        have hb1 : f7 b = some e := (k9 b n0).trans hb0
        have nn2 : b ≠ q11 := z_nn u12 hb1
        have hb2 : f13 b = some e := (k15 b nn2).trans hb1
        have hb3 : f17 b = some e := (k19 b n0).trans hb2
        have hb4 : f20 b = some e := (k22 b n0).trans hb3
        exact hb4)⟩ (Nat.le_of_ble_eq_true rfl) (Nat.le_of_ble_eq_true rfl) dX5_init_27
abbrev rmX6_init : Room := { frames := 1, cells := 2, slots := 80, locals := 12 }
set_option maxHeartbeats 4000000 in
set_option maxRecDepth 100000 in
theorem k_X6_init (l : Launch) (D : va_G) (cy : Nat → ClassId) (f : zM) (h : Nat) (p0 : f h = some (.inr (6, [.null, .null, .int 0])))  : zCv l D cy yX6_init cX6_init 1 none rmX6_init [.ref h] f (fun (f1 : zM) => ∃ (kn : Nat) (vq : Nat), f1 h = some (.inr (6, [.ref kn, .ref vq, .int 0])) ∧ (∀ (b : Nat) (e : va_E), f b = some e → b ≠ h → f1 b = some e)) := by
  intro sz
  refine z_body (by decide +kernel) (Nat.le_of_ble_eq_true rfl) ?_
  intro p e s m below meth c ls C hr hin hsz hz hl
  subst hsz
  have hx := C.1
  have hb := C.2.1
  have hA : ∀ q, s.heap.size ≤ q → zA f s.heap.size q := fun q h => Or.inr h
  have hS : va_S (zA f s.heap.size) s.heap s.heap [] := va_S.rf
  have hl : lv_has ls 1 [(0, .ref h)] := hl
  refine lv_aload_n hx hb dX6_init_0 rfl (lv_at hl 0 rfl) ?_
  refine z_objI C hl mMX6_3 (Nat.le_of_ble_eq_true rfl) (Nat.le_of_ble_eq_true rfl) dX6_init_1 ?_
  refine lv_aload_n hx hb dX6_init_4 rfl (lv_at hl 0 rfl) ?_
  refine lv_bipush (v := 40) hx hb dX6_init_5 (by decide) ?_
  refine z_newa (atype := .int) (t0 := 0) (N' := 40) (x := (.inl (fun _ => 0))) C hz hS hA rfl mA_int rfl (fun _ => rfl) (by decide) (Nat.le_of_ble_eq_true rfl) (by decide) (Nat.le_of_ble_eq_true rfl) (Nat.le_of_ble_eq_true rfl) dX6_init_7 (fun q1 H f3 u2 a4 k5 hz hS => ?_)
  have a6 : f3 h = some (.inr (6, [.null, .null, .int 0])) := (k5 _ (z_nn u2 p0)).trans p0
  refine z_putF (fs' := [.ref q1, .null, .int 0]) C hz hS a6 zl6 mFX6_11 (by decide) rfl hin rfl rfl rfl (Nat.le_of_ble_eq_true rfl) rfl dX6_init_9 (fun H locs f7 a8 k9 hz hS => ?_)
  refine lv_aload_n hx hb dX6_init_12 rfl (lv_at hl 0 rfl) ?_
  refine lv_bipush (v := 40) hx hb dX6_init_13 (by decide) ?_
  refine z_newa (atype := .int) (t0 := 0) (N' := 40) (x := (.inl (fun _ => 0))) C hz hS hA rfl mA_int rfl (fun _ => rfl) (by decide) (Nat.le_of_ble_eq_true rfl) (by decide) (Nat.le_of_ble_eq_true rfl) (Nat.le_of_ble_eq_true rfl) dX6_init_15 (fun q10 H f12 u11 a13 k14 hz hS => ?_)
  have a15 : f12 h = some (.inr (6, [.ref q1, .null, .int 0])) := (k14 _ (z_nn u11 a8)).trans a8
  refine z_putF (fs' := [.ref q1, .ref q10, .int 0]) C hz hS a15 zl6 mFX6_15 (by decide) rfl hin rfl rfl rfl (Nat.le_of_ble_eq_true rfl) rfl dX6_init_17 (fun H locs f16 a17 k18 hz hS => ?_)
  refine lv_aload_n hx hb dX6_init_20 rfl (lv_at hl 0 rfl) ?_
  refine lv_iconst (v := 0) hx hb dX6_init_21 (by decide) ?_
  refine z_put (fs' := [.ref q1, .ref q10, .int 0]) C hz hS a17 zl6 mFX6_18 (by decide) rfl rfl rfl (Nat.le_of_ble_eq_true rfl) rfl dX6_init_22 (fun H locs f19 a20 k21 hz hS => ?_)
  exact z_vret C hr hz hS ⟨q1, q10, a20, (by
        intro b e hb n0
        have nn0 : b ≠ q1 := z_nn u2 hb
        have hb0 : f3 b = some e := (k5 b nn0).trans hb
        have hb1 : f7 b = some e := (k9 b n0).trans hb0
        have nn2 : b ≠ q10 := z_nn u11 hb1
        have hb2 : f12 b = some e := (k14 b nn2).trans hb1
        have hb3 : f16 b = some e := (k18 b n0).trans hb2
        have hb4 : f19 b = some e := (k21 b n0).trans hb3
        exact hb4)⟩ (Nat.le_of_ble_eq_true rfl) (Nat.le_of_ble_eq_true rfl) dX6_init_25
abbrev rmX1_init : Room := { frames := 1, cells := 1, slots := 60, locals := 12 }
set_option maxHeartbeats 4000000 in
set_option maxRecDepth 100000 in
theorem k_X1_init (l : Launch) (D : va_G) (cy : Nat → ClassId) (f : zM) (h : Nat) (p0 : f h = some (.inr (1, [.null, .int 0])))  : zCv l D cy yX1_init cX1_init 1 none rmX1_init [.ref h] f (fun (f1 : zM) => ∃ (mm : Nat), f1 h = some (.inr (1, [.ref mm, .int 0])) ∧ f1 mm = some (.inl (cy 0, 60, .inl (fun _ => 0))) ∧ (∀ (b : Nat) (e : va_E), f b = some e → b ≠ h → f1 b = some e)) := by
  intro sz
  refine z_body (by decide +kernel) (Nat.le_of_ble_eq_true rfl) ?_
  intro p e s m below meth c ls C hr hin hsz hz hl
  subst hsz
  have hx := C.1
  have hb := C.2.1
  have hA : ∀ q, s.heap.size ≤ q → zA f s.heap.size q := fun q h => Or.inr h
  have hS : va_S (zA f s.heap.size) s.heap s.heap [] := va_S.rf
  have hl : lv_has ls 1 [(0, .ref h)] := hl
  refine lv_aload_n hx hb dX1_init_0 rfl (lv_at hl 0 rfl) ?_
  refine z_objI C hl mMX1_3 (Nat.le_of_ble_eq_true rfl) (Nat.le_of_ble_eq_true rfl) dX1_init_1 ?_
  refine lv_aload_n hx hb dX1_init_4 rfl (lv_at hl 0 rfl) ?_
  refine lv_bipush (v := 60) hx hb dX1_init_5 (by decide) ?_
  refine z_newa (atype := .int) (t0 := 0) (N' := 60) (x := (.inl (fun _ => 0))) C hz hS hA rfl mA_int rfl (fun _ => rfl) (by decide) (Nat.le_of_ble_eq_true rfl) (by decide) (Nat.le_of_ble_eq_true rfl) (Nat.le_of_ble_eq_true rfl) dX1_init_7 (fun q1 H f3 u2 a4 k5 hz hS => ?_)
  have a6 : f3 h = some (.inr (1, [.null, .int 0])) := (k5 _ (z_nn u2 p0)).trans p0
  refine z_putF (fs' := [.ref q1, .int 0]) C hz hS a6 zl1 mFX1_9 (by decide) rfl hin rfl rfl rfl (Nat.le_of_ble_eq_true rfl) rfl dX1_init_9 (fun H locs f7 a8 k9 hz hS => ?_)
  refine lv_aload_n hx hb dX1_init_12 rfl (lv_at hl 0 rfl) ?_
  refine lv_iconst (v := 0) hx hb dX1_init_13 (by decide) ?_
  refine z_put (fs' := [.ref q1, .int 0]) C hz hS a8 zl1 mFX1_15 (by decide) rfl rfl rfl (Nat.le_of_ble_eq_true rfl) rfl dX1_init_14 (fun H locs f10 a11 k12 hz hS => ?_)
  have a13 : f7 q1 = some (.inl (cy 0, 60, .inl (fun _ => 0))) := (k9 _ (Ne.symm (z_nn u2 p0))).trans a4
  have a14 : f10 q1 = some (.inl (cy 0, 60, .inl (fun _ => 0))) := (k12 _ (Ne.symm (z_nn u2 p0))).trans a13
  exact z_vret C hr hz hS ⟨q1, a11, a14, (by
        intro b e hb n0
        have nn0 : b ≠ q1 := z_nn u2 hb
        have hb0 : f3 b = some e := (k5 b nn0).trans hb
        have hb1 : f7 b = some e := (k9 b n0).trans hb0
        have hb2 : f10 b = some e := (k12 b n0).trans hb1
        exact hb2)⟩ (Nat.le_of_ble_eq_true rfl) (Nat.le_of_ble_eq_true rfl) dX1_init_17
abbrev rmX4_init : Room := { frames := 1, cells := 0, slots := 0, locals := 12 }
set_option maxHeartbeats 4000000 in
set_option maxRecDepth 100000 in
theorem k_X4_init (l : Launch) (D : va_G) (cy : Nat → ClassId) (f : zM) (h : Nat) (kd : Int32) (pa : Nat) (w : Int64) (p0 : f h = some (.inr (4, [.int 0, .null, .long 0, .int 0, .int 0, .int 0, .int 0])))  : zCv l D cy yX4_init cX4_init 5 none rmX4_init [.ref h, .int kd, .ref pa, .long w] f (fun (f1 : zM) => f1 h = some (.inr (4, [.int kd, .ref pa, .long w, .int 0, .int (-1), .int 0, .int 0])) ∧ (∀ (b : Nat) (e : va_E), f b = some e → b ≠ h → f1 b = some e)) := by
  intro sz
  refine z_body (by decide +kernel) (Nat.le_of_ble_eq_true rfl) ?_
  intro p e s m below meth c ls C hr hin hsz hz hl
  subst hsz
  have hx := C.1
  have hb := C.2.1
  have hA : ∀ q, s.heap.size ≤ q → zA f s.heap.size q := fun q h => Or.inr h
  have hS : va_S (zA f s.heap.size) s.heap s.heap [] := va_S.rf
  have hl : lv_has ls 5 [(0, .ref h), (1, .int kd), (2, .ref pa), (3, .long w)] := hl
  refine lv_aload_n hx hb dX4_init_0 rfl (lv_at hl 0 rfl) ?_
  refine z_objI C hl mMX4_3 (Nat.le_of_ble_eq_true rfl) (Nat.le_of_ble_eq_true rfl) dX4_init_1 ?_
  refine lv_aload_n hx hb dX4_init_4 rfl (lv_at hl 0 rfl) ?_
  refine lv_iconst (v := 0) hx hb dX4_init_5 (by decide) ?_
  refine z_put (fs' := [.int 0, .null, .long 0, .int 0, .int 0, .int 0, .int 0]) C hz hS p0 zl4 mFX4_9 (by decide) rfl rfl rfl (Nat.le_of_ble_eq_true rfl) rfl dX4_init_6 (fun H locs f1 a2 k3 hz hS => ?_)
  refine lv_aload_n hx hb dX4_init_9 rfl (lv_at hl 0 rfl) ?_
  refine lv_iconst (v := (-1)) hx hb dX4_init_10 (by decide) ?_
  refine z_put (fs' := [.int 0, .null, .long 0, .int 0, .int (-1), .int 0, .int 0]) C hz hS a2 zl4 mFX4_15 (by decide) rfl rfl rfl (Nat.le_of_ble_eq_true rfl) rfl dX4_init_11 (fun H locs f4 a5 k6 hz hS => ?_)
  refine lv_aload_n hx hb dX4_init_14 rfl (lv_at hl 0 rfl) ?_
  refine lv_iconst (v := 0) hx hb dX4_init_15 (by decide) ?_
  refine z_put (fs' := [.int 0, .null, .long 0, .int 0, .int (-1), .int 0, .int 0]) C hz hS a5 zl4 mFX4_19 (by decide) rfl rfl rfl (Nat.le_of_ble_eq_true rfl) rfl dX4_init_16 (fun H locs f7 a8 k9 hz hS => ?_)
  refine lv_aload_n hx hb dX4_init_19 rfl (lv_at hl 0 rfl) ?_
  refine lv_iconst (v := 0) hx hb dX4_init_20 (by decide) ?_
  refine z_put (fs' := [.int 0, .null, .long 0, .int 0, .int (-1), .int 0, .int 0]) C hz hS a8 zl4 mFX4_22 (by decide) rfl rfl rfl (Nat.le_of_ble_eq_true rfl) rfl dX4_init_21 (fun H locs f10 a11 k12 hz hS => ?_)
  refine lv_aload_n hx hb dX4_init_24 rfl (lv_at hl 0 rfl) ?_
  refine lv_iload_n hx hb dX4_init_25 rfl (lv_at hl 1 rfl) ?_
  refine z_putF (fs' := [.int kd, .null, .long 0, .int 0, .int (-1), .int 0, .int 0]) C hz hS a11 zl4 mFX4_25 (by decide) rfl hin rfl rfl rfl (Nat.le_of_ble_eq_true rfl) rfl dX4_init_26 (fun H locs f13 a14 k15 hz hS => ?_)
  refine lv_aload_n hx hb dX4_init_29 rfl (lv_at hl 0 rfl) ?_
  refine lv_aload_n hx hb dX4_init_30 rfl (lv_at hl 2 rfl) ?_
  refine z_putF (fs' := [.int kd, .ref pa, .long 0, .int 0, .int (-1), .int 0, .int 0]) C hz hS a14 zl4 mFX4_28 (by decide) rfl hin rfl rfl rfl (Nat.le_of_ble_eq_true rfl) rfl dX4_init_31 (fun H locs f16 a17 k18 hz hS => ?_)
  refine lv_aload_n hx hb dX4_init_34 rfl (lv_at hl 0 rfl) ?_
  refine lv_lload_n hx hb dX4_init_35 rfl (lv_at hl 3 rfl) ?_
  refine z_put (fs' := [.int kd, .ref pa, .long w, .int 0, .int (-1), .int 0, .int 0]) C hz hS a17 zl4 mFX4_32 (by decide) rfl rfl rfl (Nat.le_of_ble_eq_true rfl) rfl dX4_init_36 (fun H locs f19 a20 k21 hz hS => ?_)
  exact z_vret C hr hz hS ⟨a20, (by
        intro b e hb n0
        have hb0 : f1 b = some e := (k3 b n0).trans hb
        have hb1 : f4 b = some e := (k6 b n0).trans hb0
        have hb2 : f7 b = some e := (k9 b n0).trans hb1
        have hb3 : f10 b = some e := (k12 b n0).trans hb2
        have hb4 : f13 b = some e := (k15 b n0).trans hb3
        have hb5 : f16 b = some e := (k18 b n0).trans hb4
        have hb6 : f19 b = some e := (k21 b n0).trans hb5
        exact hb6)⟩ (Nat.le_of_ble_eq_true rfl) (Nat.le_of_ble_eq_true rfl) dX4_init_39
abbrev rmX0_init : Room := { frames := 1, cells := 0, slots := 0, locals := 12 }
set_option maxHeartbeats 4000000 in
set_option maxRecDepth 100000 in
theorem k_X0_init (l : Launch) (D : va_G) (cy : Nat → ClassId) (f : zM) (h : Nat) (x : Int32) (y : Int32) (p0 : f h = some (.inr (0, [.int 0, .int 0])))  : zCv l D cy yX0_init cX0_init 3 none rmX0_init [.ref h, .int x, .int y] f (fun (f1 : zM) => f1 h = some (.inr (0, [.int x, .int y])) ∧ (∀ (b : Nat) (e : va_E), f b = some e → b ≠ h → f1 b = some e)) := by
  intro sz
  refine z_body (by decide +kernel) (Nat.le_of_ble_eq_true rfl) ?_
  intro p e s m below meth c ls C hr hin hsz hz hl
  subst hsz
  have hx := C.1
  have hb := C.2.1
  have hA : ∀ q, s.heap.size ≤ q → zA f s.heap.size q := fun q h => Or.inr h
  have hS : va_S (zA f s.heap.size) s.heap s.heap [] := va_S.rf
  have hl : lv_has ls 3 [(0, .ref h), (1, .int x), (2, .int y)] := hl
  refine lv_aload_n hx hb dX0_init_0 rfl (lv_at hl 0 rfl) ?_
  refine z_objI C hl mMX0_1 (Nat.le_of_ble_eq_true rfl) (Nat.le_of_ble_eq_true rfl) dX0_init_1 ?_
  refine lv_aload_n hx hb dX0_init_4 rfl (lv_at hl 0 rfl) ?_
  refine lv_iload_n hx hb dX0_init_5 rfl (lv_at hl 1 rfl) ?_
  refine z_putF (fs' := [.int x, .int 0]) C hz hS p0 zl0 mFX0_7 (by decide) rfl hin rfl rfl rfl (Nat.le_of_ble_eq_true rfl) rfl dX0_init_6 (fun H locs f1 a2 k3 hz hS => ?_)
  refine lv_aload_n hx hb dX0_init_9 rfl (lv_at hl 0 rfl) ?_
  refine lv_iload_n hx hb dX0_init_10 rfl (lv_at hl 2 rfl) ?_
  refine z_putF (fs' := [.int x, .int y]) C hz hS a2 zl0 mFX0_13 (by decide) rfl hin rfl rfl rfl (Nat.le_of_ble_eq_true rfl) rfl dX0_init_11 (fun H locs f4 a5 k6 hz hS => ?_)
  exact z_vret C hr hz hS ⟨a5, (by
        intro b e hb n0
        have hb0 : f1 b = some e := (k3 b n0).trans hb
        have hb1 : f4 b = some e := (k6 b n0).trans hb0
        exact hb1)⟩ (Nat.le_of_ble_eq_true rfl) (Nat.le_of_ble_eq_true rfl) dX0_init_14
abbrev rmX1_append : Room := { frames := 0, cells := 0, slots := 0, locals := 0 }
set_option maxHeartbeats 4000000 in
set_option maxRecDepth 100000 in
theorem k_X1_append (l : Launch) (D : va_G) (cy : Nat → ClassId) (f : zM) (h : Nat) (x : Int32) (mm : Nat) (k : Nat) (g : Nat → Int32) (p0 : f h = some (.inr (1, [.ref mm, .int (nI k)]))) (p1 : f mm = some (.inl (cy 0, 60, .inl g))) (hk : k < 60) : zCv l D cy yX1_append cX1_append 2 none rmX1_append [.ref h, .int x] f (fun (f1 : zM) => f1 h = some (.inr (1, [.ref mm, .int (nI (k + 1))])) ∧ f1 mm = some (.inl (cy 0, 60, .inl (upd g k x))) ∧ (∀ (b : Nat) (e : va_E), f b = some e → b ≠ h → b ≠ mm → f1 b = some e)) := by
  intro sz
  refine z_body (by decide +kernel) (Nat.le_of_ble_eq_true rfl) ?_
  intro p e s m below meth c ls C hr hin hsz hz hl
  subst hsz
  have hx := C.1
  have hb := C.2.1
  have hA : ∀ q, s.heap.size ≤ q → zA f s.heap.size q := fun q h => Or.inr h
  have hS : va_S (zA f s.heap.size) s.heap s.heap [] := va_S.rf
  have hl : lv_has ls 2 [(0, .ref h), (1, .int x)] := hl
  refine lv_aload_n hx hb dX1_append_0 rfl (lv_at hl 0 rfl) ?_
  refine z_get (v := .ref mm) C hz p0 zl1 mFX1_9 (by decide) rfl dX1_append_1 ?_
  refine lv_aload_n hx hb dX1_append_4 rfl (lv_at hl 0 rfl) ?_
  refine z_get (v := .int (nI k)) C hz p0 zl1 mFX1_15 (by decide) rfl dX1_append_5 ?_
  refine lv_iload_n hx hb dX1_append_8 rfl (lv_at hl 1 rfl) ?_
  refine z_iast k C hz hS p1 rfl (by omega) (by omega) dX1_append_9 (fun H locs f1 a2 k3 hz hS => ?_)
  refine lv_aload_n hx hb dX1_append_10 rfl (lv_at hl 0 rfl) ?_
  refine lv_dup hx hb dX1_append_11 rfl ?_
  have a4 : f1 h = some (.inr (1, [.ref mm, .int (nI k)])) := (k3 _ (z_ne p0 p1 rfl)).trans p0
  refine z_get (v := .int (nI k)) C hz a4 zl1 mFX1_15 (by decide) rfl dX1_append_12 ?_
  refine lv_iconst (v := 1) hx hb dX1_append_15 (by decide) ?_
  refine lv_iadd hx hb dX1_append_16 ?_
  refine lv_topi (fun y5 e6 => ?_)
  obtain rfl : y5 = nI (k + 1) := e6.trans (nI_1 k)
  refine z_put (fs' := [.ref mm, .int (nI (k + 1))]) C hz hS a4 zl1 mFX1_15 (by decide) rfl rfl rfl (Nat.le_of_ble_eq_true rfl) rfl dX1_append_17 (fun H locs f7 a8 k9 hz hS => ?_)
  have a10 : f7 mm = some (.inl (cy 0, 60, .inl (upd g k x))) := (k9 _ (z_ne a2 a4 rfl)).trans a2
  exact z_vret C hr hz hS ⟨a8, a10, (by
        intro b e hb n0 n1
        have hb0 : f1 b = some e := (k3 b n1).trans hb
        have hb1 : f7 b = some e := (k9 b n0).trans hb0
        exact hb1)⟩ (Nat.le_of_ble_eq_true rfl) (Nat.le_of_ble_eq_true rfl) dX1_append_20
abbrev rmX5_isFull : Room := { frames := 0, cells := 0, slots := 0, locals := 0 }
set_option maxHeartbeats 4000000 in
set_option maxRecDepth 100000 in
theorem k_X5_isFull (l : Launch) (D : va_G) (cy : Nat → ClassId) (f : zM) (h : Nat) (al : Nat) (ra : Nat) (p0 : f h = some (.inr (5, [.ref al, .ref ra, .int 0])))  : zCi l D cy yX5_isFull cX5_isFull 1 (Option.some Jvm.ClassFile.FieldType.boolean) rmX5_isFull [.ref h] f (fun (r : Int32) (f1 : zM) => r = 0 ∧ (∀ (b : Nat) (e : va_E), f b = some e → f1 b = some e)) := by
  intro sz
  refine z_body (by decide +kernel) (Nat.le_of_ble_eq_true rfl) ?_
  intro p e s m below meth c ls C hr hin hsz hz hl
  subst hsz
  have hx := C.1
  have hb := C.2.1
  have hA : ∀ q, s.heap.size ≤ q → zA f s.heap.size q := fun q h => Or.inr h
  have hS : va_S (zA f s.heap.size) s.heap s.heap [] := va_S.rf
  have hl : lv_has ls 1 [(0, .ref h)] := hl
  refine lv_aload_n hx hb dX5_isFull_0 rfl (lv_at hl 0 rfl) ?_
  refine z_get (v := .int 0) C hz p0 zl5 mFX5_20 (by decide) rfl dX5_isFull_1 ?_
  refine lv_bipush (v := 60) hx hb dX5_isFull_4 (by decide) ?_
  refine lv_icmp_lt (tgt := 13) hx hb dX5_isFull_6 (by decide) (fun c1 => ?_) (fun c1 => ?_)
  rotate_left
  · exact absurd c1 (by decide)
  refine lv_iconst (v := 0) hx hb dX5_isFull_13 (by decide) ?_
  exact z_iret C hr (by decide) hz hS ⟨rfl, (fun b e hb => hb)⟩ (Nat.le_of_ble_eq_true rfl) (Nat.le_of_ble_eq_true rfl) dX5_isFull_14
abbrev rmX5_find : Room := { frames := 0, cells := 0, slots := 0, locals := 0 }
set_option maxHeartbeats 4000000 in
set_option maxRecDepth 100000 in
theorem k_X5_find (l : Launch) (D : va_G) (cy : Nat → ClassId) (f : zM) (h : Nat) (v : Int64) (al : Nat) (ra : Nat) (p0 : f h = some (.inr (5, [.ref al, .ref ra, .int 0])))  : zCq l D cy yX5_find cX5_find 3 (Option.some (Jvm.ClassFile.FieldType.object "KindRows$Figure")) rmX5_find [.ref h, .long v] f (fun (r : Option Nat) (f1 : zM) => r = none ∧ (∀ (b : Nat) (e : va_E), f b = some e → f1 b = some e)) := by
  intro sz
  refine z_body (by decide +kernel) (Nat.le_of_ble_eq_true rfl) ?_
  intro p e s m below meth c ls C hr hin hsz hz hl
  subst hsz
  have hx := C.1
  have hb := C.2.1
  have hA : ∀ q, s.heap.size ≤ q → zA f s.heap.size q := fun q h => Or.inr h
  have hS : va_S (zA f s.heap.size) s.heap s.heap [] := va_S.rf
  have hl : lv_has ls 3 [(0, .ref h), (1, .long v)] := hl
  refine lv_lload_n hx hb dX5_find_0 rfl (lv_at hl 1 rfl) ?_
  refine lv_lconst (v := 0) hx hb dX5_find_1 (by decide) ?_
  refine W.lcmp hx hb dX5_find_2 ?_
  refine lv_if_lt (tgt := 26) hx hb dX5_find_3 (by decide) (fun c1 => ?_) (fun c1 => ?_)
  · refine lv_null hx hb dX5_find_26 ?_
    exact z_aret (r := none) C hr (Or.inl ⟨_, rfl⟩) rfl hz hS ⟨rfl, (fun b e hb => hb)⟩ (Nat.le_of_ble_eq_true rfl) (Nat.le_of_ble_eq_true rfl) dX5_find_27
  · refine lv_lload_n hx hb dX5_find_6 rfl (lv_at hl 1 rfl) ?_
    refine lv_aload_n hx hb dX5_find_7 rfl (lv_at hl 0 rfl) ?_
    refine z_get (v := .int 0) C hz p0 zl5 mFX5_20 (by decide) rfl dX5_find_8 ?_
    refine lv_i2l (v := (0 : Int32).toInt64) hx hb dX5_find_11 rfl ?_
    refine W.lcmp hx hb dX5_find_12 ?_
    refine lv_if_ge (tgt := 26) hx hb dX5_find_13 (by decide) (fun c2 => ?_) (fun c2 => ?_)
    rotate_left
    · exact absurd ((lg_cmp_ge _ _).mpr (show (0:Int64) ≤ v from Int64.not_lt.mp (fun h => c1 ((lg_cmp_lt _ _).mpr h)))) c2
    refine lv_null hx hb dX5_find_26 ?_
    exact z_aret (r := none) C hr (Or.inl ⟨_, rfl⟩) rfl hz hS ⟨rfl, (fun b e hb => hb)⟩ (Nat.le_of_ble_eq_true rfl) (Nat.le_of_ble_eq_true rfl) dX5_find_27
abbrev rmX5_hasOrNone_A : Room := { frames := 0, cells := 0, slots := 0, locals := 0 }
set_option maxHeartbeats 4000000 in
set_option maxRecDepth 100000 in
theorem k_X5_hasOrNone_A (l : Launch) (D : va_G) (cy : Nat → ClassId) (f : zM) (h : Nat) (x : Int32) (al : Nat) (ra : Nat) (p0 : f h = some (.inr (5, [.ref al, .ref ra, .int 0]))) (hv : x = (-1)) : zCi l D cy yX5_hasOrNone cX5_hasOrNone 2 (Option.some Jvm.ClassFile.FieldType.boolean) rmX5_hasOrNone_A [.ref h, .int x] f (fun (r : Int32) (f1 : zM) => r = 1 ∧ (∀ (b : Nat) (e : va_E), f b = some e → f1 b = some e)) := by
  intro sz
  refine z_body (by decide +kernel) (Nat.le_of_ble_eq_true rfl) ?_
  intro p e s m below meth c ls C hr hin hsz hz hl
  subst hsz
  have hx := C.1
  have hb := C.2.1
  have hA : ∀ q, s.heap.size ≤ q → zA f s.heap.size q := fun q h => Or.inr h
  have hS : va_S (zA f s.heap.size) s.heap s.heap [] := va_S.rf
  have hl : lv_has ls 2 [(0, .ref h), (1, .int x)] := hl
  refine lv_iload_n hx hb dX5_hasOrNone_0 rfl (lv_at hl 1 rfl) ?_
  refine lv_iconst (v := (-1)) hx hb dX5_hasOrNone_1 (by decide) ?_
  refine lv_icmp_eq (tgt := 14) hx hb dX5_hasOrNone_2 (by decide) (fun c1 => ?_) (fun c1 => ?_)
  rotate_left
  · exact absurd hv c1
  refine lv_iconst (v := 1) hx hb dX5_hasOrNone_14 (by decide) ?_
  refine lv_goto (tgt := 19) hx hb dX5_hasOrNone_15 (by decide) ?_
  exact z_iret C hr (by decide) hz hS ⟨rfl, (fun b e hb => hb)⟩ (Nat.le_of_ble_eq_true rfl) (Nat.le_of_ble_eq_true rfl) dX5_hasOrNone_19
abbrev rmX5_hasOrNone_B : Room := { frames := 1, cells := 0, slots := 0, locals := 22 }
set_option maxHeartbeats 4000000 in
set_option maxRecDepth 100000 in
theorem k_X5_hasOrNone_B (l : Launch) (D : va_G) (cy : Nat → ClassId) (f : zM) (h : Nat) (x : Int32) (al : Nat) (ra : Nat) (p0 : f h = some (.inr (5, [.ref al, .ref ra, .int 0]))) (hv : ¬ x = (-1)) : zCi l D cy yX5_hasOrNone cX5_hasOrNone 2 (Option.some Jvm.ClassFile.FieldType.boolean) rmX5_hasOrNone_B [.ref h, .int x] f (fun (r : Int32) (f1 : zM) => r = 0 ∧ (∀ (b : Nat) (e : va_E), f b = some e → f1 b = some e)) := by
  intro sz
  refine z_body (by decide +kernel) (Nat.le_of_ble_eq_true rfl) ?_
  intro p e s m below meth c ls C hr hin hsz hz hl
  subst hsz
  have hx := C.1
  have hb := C.2.1
  have hA : ∀ q, s.heap.size ≤ q → zA f s.heap.size q := fun q h => Or.inr h
  have hS : va_S (zA f s.heap.size) s.heap s.heap [] := va_S.rf
  have hl : lv_has ls 2 [(0, .ref h), (1, .int x)] := hl
  refine lv_iload_n hx hb dX5_hasOrNone_0 rfl (lv_at hl 1 rfl) ?_
  refine lv_iconst (v := (-1)) hx hb dX5_hasOrNone_1 (by decide) ?_
  refine lv_icmp_eq (tgt := 14) hx hb dX5_hasOrNone_2 (by decide) (fun c1 => ?_) (fun c1 => ?_)
  · exact absurd c1 hv
  refine lv_aload_n hx hb dX5_hasOrNone_5 rfl (lv_at hl 0 rfl) ?_
  refine lv_iload_n hx hb dX5_hasOrNone_6 rfl (lv_at hl 1 rfl) ?_
  refine lv_i2l (v := x.toInt64) hx hb dX5_hasOrNone_7 rfl ?_
  refine z_callVq (As := [.long x.toInt64]) C hz hS hA hl (k_X5_find l D cy f h x.toInt64 al ra p0 ) zyX5_find mMX5_24 p0 zl5 rfl rfl (Nat.le_of_ble_eq_true rfl) ⟨Nat.le_of_ble_eq_true rfl, Nat.le_of_ble_eq_true rfl⟩ ⟨Nat.le_of_ble_eq_true rfl, Nat.le_of_ble_eq_true rfl⟩ dX5_hasOrNone_8 (fun r f2 H locs h3 hz hS => ?_)
  obtain ⟨rfl, k4⟩ := h3
  refine W.eq (g2 := F0 m 11 ls [.null]) rfl ?_
  refine lv_ifnullN (tgt := 18) hx hb dX5_hasOrNone_11 (by decide) ?_
  refine lv_iconst (v := 0) hx hb dX5_hasOrNone_18 (by decide) ?_
  exact z_iret C hr (by decide) hz hS ⟨rfl, (by
        intro b e hb 
        have hb0 : f2 b = some e := k4 b e hb 
        exact hb0)⟩ (Nat.le_of_ble_eq_true rfl) (Nat.le_of_ble_eq_true rfl) dX5_hasOrNone_19
abbrev rmX5_numberRanked : Room := { frames := 0, cells := 0, slots := 0, locals := 0 }
set_option maxHeartbeats 4000000 in
set_option maxRecDepth 100000 in
theorem k_X5_numberRanked (l : Launch) (D : va_G) (cy : Nat → ClassId) (f : zM) (h : Nat) (x : Int32) (al : Nat) (ra : Nat) (p0 : f h = some (.inr (5, [.ref al, .ref ra, .int 0]))) (hx0 : 0 ≤ x) : zCi l D cy yX5_numberRanked cX5_numberRanked 2 (Option.some Jvm.ClassFile.FieldType.int) rmX5_numberRanked [.ref h, .int x] f (fun (r : Int32) (f1 : zM) => r = (-1) ∧ (∀ (b : Nat) (e : va_E), f b = some e → f1 b = some e)) := by
  intro sz
  refine z_body (by decide +kernel) (Nat.le_of_ble_eq_true rfl) ?_
  intro p e s m below meth c ls C hr hin hsz hz hl
  subst hsz
  have hx := C.1
  have hb := C.2.1
  have hA : ∀ q, s.heap.size ≤ q → zA f s.heap.size q := fun q h => Or.inr h
  have hS : va_S (zA f s.heap.size) s.heap s.heap [] := va_S.rf
  have hl : lv_has ls 2 [(0, .ref h), (1, .int x)] := hl
  refine lv_iload_n hx hb dX5_numberRanked_0 rfl (lv_at hl 1 rfl) ?_
  refine lv_if_lt (tgt := 24) hx hb dX5_numberRanked_1 (by decide) (fun c1 => ?_) (fun c1 => ?_)
  · exact absurd c1 (Int32.not_lt.mpr hx0)
  refine lv_iload_n hx hb dX5_numberRanked_4 rfl (lv_at hl 1 rfl) ?_
  refine lv_aload_n hx hb dX5_numberRanked_5 rfl (lv_at hl 0 rfl) ?_
  refine z_get (v := .int 0) C hz p0 zl5 mFX5_20 (by decide) rfl dX5_numberRanked_6 ?_
  refine lv_icmp_ge (tgt := 24) hx hb dX5_numberRanked_9 (by decide) (fun c2 => ?_) (fun c2 => ?_)
  rotate_left
  · exact absurd hx0 c2
  refine lv_iconst (v := (-1)) hx hb dX5_numberRanked_24 (by decide) ?_
  exact z_iret C hr rfl hz hS ⟨rfl, (fun b e hb => hb)⟩ (Nat.le_of_ble_eq_true rfl) (Nat.le_of_ble_eq_true rfl) dX5_numberRanked_25
abbrev rmX5_hashOf : Room := { frames := 0, cells := 0, slots := 0, locals := 0 }
set_option maxHeartbeats 4000000 in
set_option maxRecDepth 100000 in
theorem k_X5_hashOf (l : Launch) (D : va_G) (cy : Nat → ClassId) (f : zM) (h : Nat) (q : Nat) (kd : Int32) (pa : Nat) (w : Int64) (wa : Int32) (nu : Int32) (ha : Int32) (be : Int32) (t : Nat) (gp : Nat → Int64) (p0 : f q = some (.inr (4, [.int kd, .ref pa, .long w, .int wa, .int nu, .int ha, .int be]))) (p1 : f pa = some (.inl (cy 1, t, .inr (.inl gp)))) (hk4 : ¬ kd = 4) (ht : t < 2 ^ 31) : zCi l D cy yX5_hashOf cX5_hashOf 8 (Option.some Jvm.ClassFile.FieldType.int) rmX5_hashOf [.ref h, .ref q] f (fun (r : Int32) (f1 : zM) => (∀ (b : Nat) (e : va_E), f b = some e → f1 b = some e)) := by
  intro sz
  refine z_body (by decide +kernel) (Nat.le_of_ble_eq_true rfl) ?_
  intro p e s m below meth c ls C hr hin hsz hz hl
  subst hsz
  have hx := C.1
  have hb := C.2.1
  have hA : ∀ q, s.heap.size ≤ q → zA f s.heap.size q := fun q h => Or.inr h
  have hS : va_S (zA f s.heap.size) s.heap s.heap [] := va_S.rf
  have hl : lv_has ls 8 [(0, .ref h), (1, .ref q)] := hl
  refine lv_aload_n hx hb dX5_hashOf_0 rfl (lv_at hl 1 rfl) ?_
  refine z_getN (v := .int kd) C hz p0 zl4 mFNX5_42 (by decide) rfl dX5_hashOf_1 ?_
  refine lv_bipush (v := 6) hx hb dX5_hashOf_4 (by decide) ?_
  refine lv_icmp_ne (tgt := 22) hx hb dX5_hashOf_6 (by decide) (fun c1 => ?_) (fun c1 => ?_)
  · refine lv_aload_n hx hb dX5_hashOf_22 rfl (lv_at hl 1 rfl) ?_
    refine z_getN (v := .int kd) C hz p0 zl4 mFNX5_42 (by decide) rfl dX5_hashOf_23 ?_
    refine lv_istore_n (lv' := [(2, .int kd), (0, .ref h), (1, .ref q)]) hx hb dX5_hashOf_26 rfl hl (by decide) rfl (fun ls hl => ?_)
    refine lv_aload_n hx hb dX5_hashOf_27 rfl (lv_at hl 2 rfl) ?_
    refine z_getN (v := .ref pa) C hz p0 zl4 mFNX5_45 (by decide) rfl dX5_hashOf_28 ?_
    refine lv_astore_n (lv' := [(3, .ref pa), (2, .int kd), (0, .ref h), (1, .ref q)]) hx hb dX5_hashOf_31 rfl hl (by decide) rfl (fun ls hl => ?_)
    refine lv_aload_n hx hb dX5_hashOf_32 rfl (lv_at hl 0 rfl) ?_
    refine z_alen (v := nI t) 1 C hz p1 rfl rfl dX5_hashOf_33 ?_
    refine lv_istore (lv' := [(4, .int (nI t)), (3, .ref pa), (2, .int kd), (0, .ref h), (1, .ref q)]) hx hb dX5_hashOf_34 hl (by decide) rfl (fun ls hl => ?_)
    refine lv_iconst (v := 0) hx hb dX5_hashOf_36 (by decide) ?_
    refine lv_istore (lv' := [(5, .int 0), (4, .int (nI t)), (3, .ref pa), (2, .int kd), (0, .ref h), (1, .ref q)]) hx hb dX5_hashOf_37 hl (by decide) rfl (fun ls hl => ?_)
    have lp2 : ∀ (n : Nat) (hv : Int32) (i : Nat) (fL3 : zM) (H : Heap) (locs : List Loc) (ls : Array Slot), (t - i) < n → (i ≤ t) → fL3 q = some (.inr (4, [.int kd, .ref pa, .long w, .int wa, .int nu, .int ha, .int be])) → fL3 pa = some (.inl (cy 1, t, .inr (.inl gp))) → (∀ (b : Nat) (e : va_E), f b = some e → fL3 b = some e) → zH D (zA f s.heap.size) fL3 H → va_S (zA f s.heap.size) s.heap H locs → lv_has ls 8 [(0, .ref h), (1, .ref q), (2, .int hv), (3, .ref pa), (4, .int (nI t)), (5, .int (nI i))] → W p l e rmX5_hashOf s m ([.ref h, .ref q] : List Value).toArray below meth c H locs 0 0 (MQ below (va_Qi (fun (r : Int32) (f1 : zM) => (∀ (b : Nat) (e : va_E), f b = some e → f1 b = some e)) (zB D f s.heap.size) (zA f s.heap.size)) ([.ref h, .ref q] : List Value).toArray s rmX5_hashOf.cells rmX5_hashOf.slots (zA f s.heap.size)) (F0 m 39 ls []) := by
      intro n
      induction n with
      | zero => intro hv i fL3 H locs ls hmz; exact absurd hmz (Nat.not_lt_zero _)
      | succ n ih =>
        intro hv i fL3 H locs ls hmz hi a5 a6 k4 hz hS hl
        refine lv_iload hx hb dX5_hashOf_39 (lv_at hl 5 rfl) ?_
        refine lv_iload hx hb dX5_hashOf_41 (lv_at hl 4 rfl) ?_
        refine lv_icmp_ge (tgt := 90) hx hb dX5_hashOf_43 (by decide) (fun c7 => ?_) (fun c7 => ?_)
        · replace c7 : (t ≤ i) := (nI_leI (a := t) (b := i) (by omega) (by omega)).mp c7
          refine lv_iload_n hx hb dX5_hashOf_90 rfl (lv_at hl 2 rfl) ?_
          exact z_iret C hr rfl hz hS (by
                intro b e hb 
                have hb0 : fL3 b = some e := k4 b e hb 
                exact hb0) (Nat.le_of_ble_eq_true rfl) (Nat.le_of_ble_eq_true rfl) dX5_hashOf_91
        · replace c7 : ¬ (t ≤ i) := fun h => c7 ((nI_leI (a := t) (b := i) (by omega) (by omega)).mpr h)
          refine lv_aload_n hx hb dX5_hashOf_46 rfl (lv_at hl 3 rfl) ?_
          refine lv_iload hx hb dX5_hashOf_47 (lv_at hl 5 rfl) ?_
          refine z_lald i C hz a6 rfl (by omega) (by omega) dX5_hashOf_49 ?_
          refine lv_lstore (lv' := [(6, .long (gp i)), (0, .ref h), (1, .ref q), (2, .int hv), (3, .ref pa), (4, .int (nI t)), (5, .int (nI i))]) hx hb dX5_hashOf_50 hl (by decide) rfl (fun ls hl => ?_)
          refine lv_bipush (v := 31) hx hb dX5_hashOf_52 (by decide) ?_
          refine lv_iload_n hx hb dX5_hashOf_54 rfl (lv_at hl 3 rfl) ?_
          refine lv_imul hx hb dX5_hashOf_55 ?_
          refine lv_aload_n hx hb dX5_hashOf_56 rfl (lv_at hl 2 rfl) ?_
          refine z_getN (v := .int kd) C hz a5 zl4 mFNX5_42 (by decide) rfl dX5_hashOf_57 ?_
          refine lv_iconst (v := 4) hx hb dX5_hashOf_60 (by decide) ?_
          refine lv_icmp_ne (tgt := 73) hx hb dX5_hashOf_61 (by decide) (fun c8 => ?_) (fun c8 => ?_)
          rotate_left
          · exact absurd c8 hk4
          refine lv_lload hx hb dX5_hashOf_73 (lv_at hl 0 rfl) ?_
          refine lv_lload hx hb dX5_hashOf_75 (lv_at hl 0 rfl) ?_
          refine lv_bipush (v := 32) hx hb dX5_hashOf_77 (by decide) ?_
          refine lv_lushr (v := ((gp i).toUInt64 >>> ((32 : Int32).toInt64.toUInt64 &&& Int64.toUInt64 63)).toInt64) hx hb dX5_hashOf_79 rfl ?_
          refine lv_lxor hx hb dX5_hashOf_80 ?_
          refine lv_l2i (v := ((gp i) ^^^ (((gp i).toUInt64 >>> ((32 : Int32).toInt64.toUInt64 &&& Int64.toUInt64 63)).toInt64)).toInt32) hx hb dX5_hashOf_81 rfl ?_
          refine lv_iadd hx hb dX5_hashOf_82 ?_
          refine lv_istore_n (lv' := [(2, .int ((31 * hv) + (((gp i) ^^^ (((gp i).toUInt64 >>> ((32 : Int32).toInt64.toUInt64 &&& Int64.toUInt64 63)).toInt64)).toInt32))), (6, .long (gp i)), (0, .ref h), (1, .ref q), (3, .ref pa), (4, .int (nI t)), (5, .int (nI i))]) hx hb dX5_hashOf_83 rfl hl (by decide) rfl (fun ls hl => ?_)
          refine lv_iinc (v := nI (i + 1)) (lv' := [(5, .int (nI (i + 1))), (2, .int ((31 * hv) + (((gp i) ^^^ (((gp i).toUInt64 >>> ((32 : Int32).toInt64.toUInt64 &&& Int64.toUInt64 63)).toInt64)).toInt32))), (6, .long (gp i)), (0, .ref h), (1, .ref q), (3, .ref pa), (4, .int (nI t))]) hx hb dX5_hashOf_84 hl (k := 6) rfl (nI_1 i) (by decide) rfl (fun ls hl => ?_)
          refine lv_goto (tgt := 39) hx hb dX5_hashOf_87 (by decide) ?_
          exact ih ((31 * hv) + (((gp i) ^^^ (((gp i).toUInt64 >>> ((32 : Int32).toInt64.toUInt64 &&& Int64.toUInt64 63)).toInt64)).toInt32)) (i + 1) _ _ _ _ (by omega) (by omega) a5 a6 (by
                intro b e hb 
                have hb0 : fL3 b = some e := k4 b e hb 
                exact hb0) hz hS (lv_sub hl [3, 4, 1, 5, 6, 0] rfl)
    exact lp2 (t - 0 + 1) kd 0 _ _ _ _ (Nat.lt_succ_self _) (by omega) p0 p1 (fun b e hb => hb) hz hS (lv_sub hl [4, 5, 3, 2, 1, 0] rfl)
  · refine lv_bipush (v := 31) hx hb dX5_hashOf_9 (by decide) ?_
    refine lv_aload_n hx hb dX5_hashOf_11 rfl (lv_at hl 1 rfl) ?_
    refine z_getN (v := .int kd) C hz p0 zl4 mFNX5_42 (by decide) rfl dX5_hashOf_12 ?_
    refine lv_imul hx hb dX5_hashOf_15 ?_
    refine lv_aload_n hx hb dX5_hashOf_16 rfl (lv_at hl 1 rfl) ?_
    refine z_getN (v := .int nu) C hz p0 zl4 mFNX5_28 (by decide) rfl dX5_hashOf_17 ?_
    refine lv_iadd hx hb dX5_hashOf_20 ?_
    exact z_iret C hr rfl hz hS (fun b e hb => hb) (Nat.le_of_ble_eq_true rfl) (Nat.le_of_ble_eq_true rfl) dX5_hashOf_21
abbrev rmX5_rank : Room := { frames := 0, cells := 0, slots := 0, locals := 0 }
set_option maxHeartbeats 4000000 in
set_option maxRecDepth 100000 in
theorem k_X5_rank (l : Launch) (D : va_G) (cy : Nat → ClassId) (f : zM) (h : Nat) (al : Nat) (ra : Nat) (gr : Nat → Option Nat) (q : Nat) (kd : Int32) (pa : Nat) (w : Int64) (wa : Int32) (nu : Int32) (ha : Int32) (be : Int32) (p0 : f h = some (.inr (5, [.ref al, .ref ra, .int 0]))) (p1 : f q = some (.inr (4, [.int kd, .ref pa, .long w, .int wa, .int nu, .int ha, .int be]))) (p2 : f ra = some (.inl (cy 3, 60, .inr (.inr (.inr (.inr gr))))))  : zCv l D cy yX5_rank cX5_rank 5 none rmX5_rank [.ref h, .ref q] f (fun (f1 : zM) => f1 q = some (.inr (4, [.int kd, .ref pa, .long w, .int wa, .int nu, .int ha, .int 0])) ∧ f1 ra = some (.inl (cy 3, 60, .inr (.inr (.inr (.inr (va_up gr 0 (some q))))))) ∧ (∀ (b : Nat) (e : va_E), f b = some e → b ≠ q → b ≠ ra → f1 b = some e)) := by
  intro sz
  refine z_body (by decide +kernel) (Nat.le_of_ble_eq_true rfl) ?_
  intro p e s m below meth c ls C hr hin hsz hz hl
  subst hsz
  have hx := C.1
  have hb := C.2.1
  have hA : ∀ q, s.heap.size ≤ q → zA f s.heap.size q := fun q h => Or.inr h
  have hS : va_S (zA f s.heap.size) s.heap s.heap [] := va_S.rf
  have hl : lv_has ls 5 [(0, .ref h), (1, .ref q)] := hl
  refine lv_aload_n hx hb dX5_rank_0 rfl (lv_at hl 0 rfl) ?_
  refine z_get (v := .int 0) C hz p0 zl5 mFX5_20 (by decide) rfl dX5_rank_1 ?_
  refine lv_istore_n (lv' := [(2, .int 0), (0, .ref h), (1, .ref q)]) hx hb dX5_rank_4 rfl hl (by decide) rfl (fun ls hl => ?_)
  refine lv_iload_n hx hb dX5_rank_5 rfl (lv_at hl 0 rfl) ?_
  refine lv_if_le (tgt := 31) hx hb dX5_rank_6 (by decide) (fun c1 => ?_) (fun c1 => ?_)
  rotate_left
  · exact absurd c1 (by decide)
  refine lv_iload_n hx hb dX5_rank_31 rfl (lv_at hl 0 rfl) ?_
  refine lv_if_le (tgt := 55) hx hb dX5_rank_32 (by decide) (fun c2 => ?_) (fun c2 => ?_)
  rotate_left
  · exact absurd c2 (by decide)
  refine lv_iconst (v := 0) hx hb dX5_rank_55 (by decide) ?_
  refine lv_istore_n (lv' := [(3, .int 0), (2, .int 0), (0, .ref h), (1, .ref q)]) hx hb dX5_rank_56 rfl hl (by decide) rfl (fun ls hl => ?_)
  refine lv_aload_n hx hb dX5_rank_57 rfl (lv_at hl 3 rfl) ?_
  refine lv_iload_n hx hb dX5_rank_58 rfl (lv_at hl 0 rfl) ?_
  refine lv_if_eq (tgt := 76) hx hb dX5_rank_59 (by decide) (fun c3 => ?_) (fun c3 => ?_)
  rotate_left
  · exact absurd c3 (by decide)
  refine lv_iload_n hx hb dX5_rank_76 rfl (lv_at hl 1 rfl) ?_
  refine z_putN (fs' := [.int kd, .ref pa, .long w, .int wa, .int nu, .int ha, .int 0]) C hz hS p1 zl4 mFNX5_69 (by decide) rfl rfl rfl (Nat.le_of_ble_eq_true rfl) rfl dX5_rank_77 (fun H locs f4 a5 k6 hz hS => ?_)
  refine lv_aload_n hx hb dX5_rank_80 rfl (lv_at hl 2 rfl) ?_
  have a7 : f4 h = some (.inr (5, [.ref al, .ref ra, .int 0])) := (k6 _ (z_ne p0 p1 rfl)).trans p0
  refine z_get (v := .int 0) C hz a7 zl5 mFX5_20 (by decide) rfl dX5_rank_81 ?_
  refine lv_istore (lv' := [(4, .int 0), (3, .int 0), (2, .int 0), (0, .ref h), (1, .ref q)]) hx hb dX5_rank_84 hl (by decide) rfl (fun ls hl => ?_)
  refine lv_iload hx hb dX5_rank_86 (lv_at hl 0 rfl) ?_
  refine lv_iload_n hx hb dX5_rank_88 rfl (lv_at hl 2 rfl) ?_
  refine lv_icmp_le (tgt := 130) hx hb dX5_rank_89 (by decide) (fun c8 => ?_) (fun c8 => ?_)
  rotate_left
  · exact absurd c8 (by decide)
  refine lv_aload_n hx hb dX5_rank_130 rfl (lv_at hl 3 rfl) ?_
  refine z_get (v := .ref ra) C hz a7 zl5 mFX5_17 (by decide) rfl dX5_rank_131 ?_
  refine lv_iload_n hx hb dX5_rank_134 rfl (lv_at hl 2 rfl) ?_
  refine lv_aload_n hx hb dX5_rank_135 rfl (lv_at hl 4 rfl) ?_
  have a9 : f4 ra = some (.inl (cy 3, 60, .inr (.inr (.inr (.inr gr))))) := (k6 _ (z_ne p2 p1 rfl)).trans p2
  refine z_astq 0 C hz hS a9 rfl a5 zl4 (by decide) (Nat.le_of_ble_eq_true rfl) (by omega) dX5_rank_136 (fun H locs f10 a11 k12 hz hS => ?_)
  have a13 : f10 q = some (.inr (4, [.int kd, .ref pa, .long w, .int wa, .int nu, .int ha, .int 0])) := (k12 _ (z_ne a5 a9 rfl)).trans a5
  exact z_vret C hr hz hS ⟨a13, a11, (by
        intro b e hb n0 n1
        have hb0 : f4 b = some e := (k6 b n0).trans hb
        have hb1 : f10 b = some e := (k12 b n1).trans hb0
        exact hb1)⟩ (Nat.le_of_ble_eq_true rfl) (Nat.le_of_ble_eq_true rfl) dX5_rank_137
abbrev rmX5_add : Room := { frames := 1, cells := 0, slots := 0, locals := 27 }
set_option maxHeartbeats 4000000 in
set_option maxRecDepth 100000 in
theorem k_X5_add (l : Launch) (D : va_G) (cy : Nat → ClassId) (f : zM) (h : Nat) (al : Nat) (ra : Nat) (ga : Nat → Option Nat) (gr : Nat → Option Nat) (q : Nat) (kd : Int32) (pa : Nat) (w : Int64) (wa : Int32) (nu : Int32) (ha : Int32) (be : Int32) (t : Nat) (gp : Nat → Int64) (p0 : f h = some (.inr (5, [.ref al, .ref ra, .int 0]))) (p1 : f al = some (.inl (cy 3, 60, .inr (.inr (.inr (.inr ga)))))) (p2 : f ra = some (.inl (cy 3, 60, .inr (.inr (.inr (.inr gr)))))) (p3 : f q = some (.inr (4, [.int kd, .ref pa, .long w, .int wa, .int nu, .int ha, .int be]))) (p4 : f pa = some (.inl (cy 1, t, .inr (.inl gp)))) (hk4 : ¬ kd = 4) (ht : t < 2 ^ 31) (har : al ≠ ra) : zCi l D cy yX5_add cX5_add 2 (Option.some Jvm.ClassFile.FieldType.int) rmX5_add [.ref h, .ref q] f (fun (r : Int32) (f1 : zM) => r = 0 ∧ (∀ (b : Nat) (e : va_E), f b = some e → b ≠ h → b ≠ al → b ≠ ra → b ≠ q → f1 b = some e)) := by
  intro sz
  refine z_body (by decide +kernel) (Nat.le_of_ble_eq_true rfl) ?_
  intro p e s m below meth c ls C hr hin hsz hz hl
  subst hsz
  have hx := C.1
  have hb := C.2.1
  have hA : ∀ q, s.heap.size ≤ q → zA f s.heap.size q := fun q h => Or.inr h
  have hS : va_S (zA f s.heap.size) s.heap s.heap [] := va_S.rf
  have hl : lv_has ls 2 [(0, .ref h), (1, .ref q)] := hl
  refine lv_aload_n hx hb dX5_add_0 rfl (lv_at hl 1 rfl) ?_
  refine lv_aload_n hx hb dX5_add_1 rfl (lv_at hl 0 rfl) ?_
  refine z_get (v := .int 0) C hz p0 zl5 mFX5_20 (by decide) rfl dX5_add_2 ?_
  refine z_putN (fs' := [.int kd, .ref pa, .long w, .int wa, .int 0, .int ha, .int be]) C hz hS p3 zl4 mFNX5_28 (by decide) rfl rfl rfl (Nat.le_of_ble_eq_true rfl) rfl dX5_add_5 (fun H locs f1 a2 k3 hz hS => ?_)
  refine lv_aload_n hx hb dX5_add_8 rfl (lv_at hl 1 rfl) ?_
  refine lv_aload_n hx hb dX5_add_9 rfl (lv_at hl 0 rfl) ?_
  refine lv_aload_n hx hb dX5_add_10 rfl (lv_at hl 1 rfl) ?_
  have a4 : f1 pa = some (.inl (cy 1, t, .inr (.inl gp))) := (k3 _ (z_neO p4 p3 rfl)).trans p4
  have a8 : f1 h = some (.inr (5, [.ref al, .ref ra, .int 0])) := (k3 _ (z_ne p0 p3 rfl)).trans p0
  refine z_callVi (As := [.ref q]) C hz hS hA hl (k_X5_hashOf l D cy f1 h q kd pa w wa 0 ha be t gp a2 a4 hk4 ht) zyX5_hashOf mMX5_31 a8 zl5 rfl rfl (Nat.le_of_ble_eq_true rfl) ⟨Nat.le_of_ble_eq_true rfl, Nat.le_of_ble_eq_true rfl⟩ ⟨Nat.le_of_ble_eq_true rfl, Nat.le_of_ble_eq_true rfl⟩ dX5_add_11 (fun r7 f5 H locs h6 hz hS => ?_)
  have k9 := h6
  have a10 : f5 q = some (.inr (4, [.int kd, .ref pa, .long w, .int wa, .int 0, .int ha, .int be])) := k9 _ _ a2 
  refine z_putN (fs' := [.int kd, .ref pa, .long w, .int wa, .int 0, .int r7, .int be]) C hz hS a10 zl4 mFNX5_35 (by decide) rfl rfl rfl (Nat.le_of_ble_eq_true rfl) rfl dX5_add_14 (fun H locs f11 a12 k13 hz hS => ?_)
  refine lv_aload_n hx hb dX5_add_17 rfl (lv_at hl 0 rfl) ?_
  refine lv_aload_n hx hb dX5_add_18 rfl (lv_at hl 1 rfl) ?_
  have a14 : f5 h = some (.inr (5, [.ref al, .ref ra, .int 0])) := k9 _ _ a8 
  have a15 : f11 h = some (.inr (5, [.ref al, .ref ra, .int 0])) := (k13 _ (z_ne a14 a10 rfl)).trans a14
  have a16 : f1 ra = some (.inl (cy 3, 60, .inr (.inr (.inr (.inr gr))))) := (k3 _ (z_ne p2 p3 rfl)).trans p2
  have a17 : f5 ra = some (.inl (cy 3, 60, .inr (.inr (.inr (.inr gr))))) := k9 _ _ a16 
  have a18 : f11 ra = some (.inl (cy 3, 60, .inr (.inr (.inr (.inr gr))))) := (k13 _ (z_ne a17 a10 rfl)).trans a17
  refine z_callVv (As := [.ref q]) C hz hS hA hl (k_X5_rank l D cy f11 h al ra gr q kd pa w wa 0 r7 be a15 a12 a18 ) zyX5_rank mMX5_38 a15 zl5 rfl rfl (Nat.le_of_ble_eq_true rfl) ⟨Nat.le_of_ble_eq_true rfl, Nat.le_of_ble_eq_true rfl⟩ ⟨Nat.le_of_ble_eq_true rfl, Nat.le_of_ble_eq_true rfl⟩ dX5_add_19 (fun  f19 H locs h20 hz hS => ?_)
  obtain ⟨a21, a22, k23⟩ := h20
  refine lv_aload_n hx hb dX5_add_22 rfl (lv_at hl 0 rfl) ?_
  have a24 : f19 h = some (.inr (5, [.ref al, .ref ra, .int 0])) := k23 _ _ a15 (z_ne a15 a12 rfl) (z_ne a15 a18 rfl)
  refine z_get (v := .ref al) C hz a24 zl5 mFX5_13 (by decide) rfl dX5_add_23 ?_
  refine lv_aload_n hx hb dX5_add_26 rfl (lv_at hl 0 rfl) ?_
  refine z_get (v := .int 0) C hz a24 zl5 mFX5_20 (by decide) rfl dX5_add_27 ?_
  refine lv_aload_n hx hb dX5_add_30 rfl (lv_at hl 1 rfl) ?_
  have a25 : f1 al = some (.inl (cy 3, 60, .inr (.inr (.inr (.inr ga))))) := (k3 _ (z_ne p1 p3 rfl)).trans p1
  have a26 : f5 al = some (.inl (cy 3, 60, .inr (.inr (.inr (.inr ga))))) := k9 _ _ a25 
  have a27 : f11 al = some (.inl (cy 3, 60, .inr (.inr (.inr (.inr ga))))) := (k13 _ (z_ne a26 a10 rfl)).trans a26
  have a28 : f19 al = some (.inl (cy 3, 60, .inr (.inr (.inr (.inr ga))))) := k23 _ _ a27 (z_ne a27 a12 rfl) har
  refine z_astq 0 C hz hS a28 rfl a21 zl4 (by decide) (Nat.le_of_ble_eq_true rfl) (by omega) dX5_add_31 (fun H locs f29 a30 k31 hz hS => ?_)
  refine lv_aload_n hx hb dX5_add_32 rfl (lv_at hl 0 rfl) ?_
  refine lv_dup hx hb dX5_add_33 rfl ?_
  have a32 : f29 h = some (.inr (5, [.ref al, .ref ra, .int 0])) := (k31 _ (z_ne a24 a28 rfl)).trans a24
  refine z_get (v := .int 0) C hz a32 zl5 mFX5_20 (by decide) rfl dX5_add_34 ?_
  refine lv_iconst (v := 1) hx hb dX5_add_37 (by decide) ?_
  refine lv_iadd hx hb dX5_add_38 ?_
  refine z_put (fs' := [.ref al, .ref ra, .int (0 + 1)]) C hz hS a32 zl5 mFX5_20 (by decide) rfl rfl rfl (Nat.le_of_ble_eq_true rfl) rfl dX5_add_39 (fun H locs f33 a34 k35 hz hS => ?_)
  refine lv_aload_n hx hb dX5_add_42 rfl (lv_at hl 1 rfl) ?_
  have a36 : f29 q = some (.inr (4, [.int kd, .ref pa, .long w, .int wa, .int 0, .int r7, .int 0])) := (k31 _ (z_ne a21 a28 rfl)).trans a21
  have a37 : f33 q = some (.inr (4, [.int kd, .ref pa, .long w, .int wa, .int 0, .int r7, .int 0])) := (k35 _ (z_ne a36 a32 rfl)).trans a36
  refine z_getN (v := .int 0) C hz a37 zl4 mFNX5_28 (by decide) rfl dX5_add_43 ?_
  exact z_iret C hr rfl hz hS ⟨rfl, (by
        intro b e hb n0 n1 n2 n3
        have hb0 : f1 b = some e := (k3 b n3).trans hb
        have hb1 : f5 b = some e := k9 b e hb0 
        have hb2 : f11 b = some e := (k13 b n3).trans hb1
        have hb3 : f19 b = some e := k23 b e hb2 n3 n2
        have hb4 : f29 b = some e := (k31 b n1).trans hb3
        have hb5 : f33 b = some e := (k35 b n0).trans hb4
        exact hb5)⟩ (Nat.le_of_ble_eq_true rfl) (Nat.le_of_ble_eq_true rfl) dX5_add_46
