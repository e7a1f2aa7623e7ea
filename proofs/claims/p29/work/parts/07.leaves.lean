abbrev rmX5_init : Room := { frames := 1, cells := 2, slots := 120, locals := 12 }
set_option maxHeartbeats 4000000 in
set_option maxRecDepth 100000 in
theorem k_X5_init (l : Launch) (D : va_G) (cy : Nat → ClassId) (f : zM) (h : Nat) (p0 : f h = some (.inr (5, [.null, .null, .int 0])))   : zCv l D cy yX5_init cX5_init 1 none rmX5_init [.ref h] f (fun (f1 : zM) => ∃ (al : Nat) (ra : Nat), (al ≠ ra) ∧ f1 h = some (.inr (5, [.ref al, .ref ra, .int 0])) ∧ f1 al = some (.inl (cy 3, 60, .inr (.inr (.inr (.inr (fun _ => none)))))) ∧ f1 ra = some (.inl (cy 3, 60, .inr (.inr (.inr (.inr (fun _ => none)))))) ∧ (∀ (b : Nat) (e : va_E), f b = some e → b ≠ h → f1 b = some e)) := by
  intro sz
  refine z_body (by decide +kernel) (Nat.le_of_ble_eq_true rfl) ?_
  intro p e s m below meth c ls C hr hin hsz hz hl
  subst hsz
  have hx := C.1
  have hb := C.2.1
  have hA : ∀ q, s.heap.size ≤ q → zA f s.heap.size q := fun q h => Or.inr h
  have hS : va_S (zA f s.heap.size) s.heap s.heap [] := va_S.rf
  have hl : lv_has ls 1 [(0, .ref h)] := hl
  refine lv_aload_n hx hb dX5_init_0 rfl (lv_at hl 0 rfl) ?_
  refine z_objI C hl mMX5_3 (Nat.le_of_ble_eq_true rfl) (Nat.le_of_ble_eq_true rfl) dX5_init_1 ?_
  refine lv_aload_n hx hb dX5_init_4 rfl (lv_at hl 0 rfl) ?_
  refine lv_bipush (v := 60) hx hb dX5_init_5 (by decide) ?_
  refine z_newq (t0 := 3) (N' := 60) C hz hS hA mLX5_11 mAO_RX4 rfl (by decide) (Nat.le_of_ble_eq_true rfl) (Nat.le_of_ble_eq_true rfl) (Nat.le_of_ble_eq_true rfl) dX5_init_7 (fun q1 H f3 u2 a4 k5 hz hS => ?_)
  have a6 : f3 h = some (.inr (5, [.null, .null, .int 0])) := (k5 _ (z_nn u2 p0)).trans p0
  refine z_putF (fs' := [.ref q1, .null, .int 0]) C hz hS a6 zl5 mFX5_13 (by decide) rfl hin rfl rfl rfl (Nat.le_of_ble_eq_true rfl) rfl dX5_init_10 (fun H locs f7 a8 k9 hz hS => ?_)
  refine lv_aload_n hx hb dX5_init_13 rfl (lv_at hl 0 rfl) ?_
  refine lv_bipush (v := 60) hx hb dX5_init_14 (by decide) ?_
  refine z_newq (t0 := 3) (N' := 60) C hz hS hA mLX5_11 mAO_RX4 rfl (by decide) (Nat.le_of_ble_eq_true rfl) (Nat.le_of_ble_eq_true rfl) (Nat.le_of_ble_eq_true rfl) dX5_init_16 (fun q10 H f12 u11 a13 k14 hz hS => ?_)
  have a15 : f12 h = some (.inr (5, [.ref q1, .null, .int 0])) := (k14 _ (z_nn u11 a8)).trans a8
  refine z_putF (fs' := [.ref q1, .ref q10, .int 0]) C hz hS a15 zl5 mFX5_17 (by decide) rfl hin rfl rfl rfl (Nat.le_of_ble_eq_true rfl) rfl dX5_init_19 (fun H locs f16 a17 k18 hz hS => ?_)
  refine lv_aload_n hx hb dX5_init_22 rfl (lv_at hl 0 rfl) ?_
  refine lv_iconst (v := 0) hx hb dX5_init_23 (by decide) ?_
  refine z_put (fs' := [.ref q1, .ref q10, .int 0]) C hz hS a17 zl5 mFX5_20 (by decide) rfl rfl rfl (Nat.le_of_ble_eq_true rfl) rfl dX5_init_24 (fun H locs f19 a20 k21 hz hS => ?_)
  have a22 : f7 q1 = some (.inl (cy 3, 60, .inr (.inr (.inr (.inr (fun _ => none)))))) := (k9 _ (Ne.symm (z_nn u2 p0))).trans a4
  have a23 : f12 q1 = some (.inl (cy 3, 60, .inr (.inr (.inr (.inr (fun _ => none)))))) := (k14 _ (z_nn u11 a22)).trans a22
  have a24 : f16 q1 = some (.inl (cy 3, 60, .inr (.inr (.inr (.inr (fun _ => none)))))) := (k18 _ (Ne.symm (z_nn u2 p0))).trans a23
  have a25 : f19 q1 = some (.inl (cy 3, 60, .inr (.inr (.inr (.inr (fun _ => none)))))) := (k21 _ (Ne.symm (z_nn u2 p0))).trans a24
  have a26 : f16 q10 = some (.inl (cy 3, 60, .inr (.inr (.inr (.inr (fun _ => none)))))) := (k18 _ (Ne.symm (z_nn u11 a8))).trans a13
  have a27 : f19 q10 = some (.inl (cy 3, 60, .inr (.inr (.inr (.inr (fun _ => none)))))) := (k21 _ (Ne.symm (z_nn u11 a8))).trans a26
  exact z_vret C hr hz hS ⟨q1, q10, (z_nn u11 a22), a20, a25, a27, (by
        intro b e hb n0
        have nn0 : b ≠ q1 := z_nn u2 hb
        have hb0 : f3 b = some e := (k5 b nn0).trans hb
        have hb1 : f7 b = some e := (k9 b n0).trans hb0
        have nn2 : b ≠ q10 := z_nn u11 hb1
        have hb2 : f12 b = some e := (k14 b nn2).trans hb1
        have hb3 : f16 b = some e := (k18 b n0).trans hb2
        have hb4 : f19 b = some e := (k21 b n0).trans hb3
        exact hb4)⟩ (Nat.le_of_ble_eq_true rfl) (Nat.le_of_ble_eq_true rfl) dX5_init_27
abbrev rmX6_init : Room := { frames := 1, cells := 2, slots := 80, locals := 12 }
set_option maxHeartbeats 4000000 in
set_option maxRecDepth 100000 in
theorem k_X6_init (l : Launch) (D : va_G) (cy : Nat → ClassId) (f : zM) (h : Nat) (p0 : f h = some (.inr (6, [.null, .null, .int 0])))   : zCv l D cy yX6_init cX6_init 1 none rmX6_init [.ref h] f (fun (f1 : zM) => ∃ (kn : Nat) (vq : Nat), (kn ≠ vq) ∧ f1 h = some (.inr (6, [.ref kn, .ref vq, .int 0])) ∧ f1 kn = some (.inl (cy 0, 40, .inl (fun _ => 0))) ∧ f1 vq = some (.inl (cy 0, 40, .inl (fun _ => 0))) ∧ (∀ (b : Nat) (e : va_E), f b = some e → b ≠ h → f1 b = some e)) := by
  intro sz
  refine z_body (by decide +kernel) (Nat.le_of_ble_eq_true rfl) ?_
  intro p e s m below meth c ls C hr hin hsz hz hl
  subst hsz
  have hx := C.1
  have hb := C.2.1
  have hA : ∀ q, s.heap.size ≤ q → zA f s.heap.size q := fun q h => Or.inr h
  have hS : va_S (zA f s.heap.size) s.heap s.heap [] := va_S.rf
  have hl : lv_has ls 1 [(0, .ref h)] := hl
  refine lv_aload_n hx hb dX6_init_0 rfl (lv_at hl 0 rfl) ?_
  refine z_objI C hl mMX6_3 (Nat.le_of_ble_eq_true rfl) (Nat.le_of_ble_eq_true rfl) dX6_init_1 ?_
  refine lv_aload_n hx hb dX6_init_4 rfl (lv_at hl 0 rfl) ?_
  refine lv_bipush (v := 40) hx hb dX6_init_5 (by decide) ?_
  refine z_newa (atype := .int) (t0 := 0) (N' := 40) (x := (.inl (fun _ => 0))) C hz hS hA rfl mA_int rfl (fun _ => rfl) (by decide) (Nat.le_of_ble_eq_true rfl) (by decide) (Nat.le_of_ble_eq_true rfl) (Nat.le_of_ble_eq_true rfl) dX6_init_7 (fun q1 H f3 u2 a4 k5 hz hS => ?_)
  have a6 : f3 h = some (.inr (6, [.null, .null, .int 0])) := (k5 _ (z_nn u2 p0)).trans p0
  refine z_putF (fs' := [.ref q1, .null, .int 0]) C hz hS a6 zl6 mFX6_11 (by decide) rfl hin rfl rfl rfl (Nat.le_of_ble_eq_true rfl) rfl dX6_init_9 (fun H locs f7 a8 k9 hz hS => ?_)
  refine lv_aload_n hx hb dX6_init_12 rfl (lv_at hl 0 rfl) ?_
  refine lv_bipush (v := 40) hx hb dX6_init_13 (by decide) ?_
  refine z_newa (atype := .int) (t0 := 0) (N' := 40) (x := (.inl (fun _ => 0))) C hz hS hA rfl mA_int rfl (fun _ => rfl) (by decide) (Nat.le_of_ble_eq_true rfl) (by decide) (Nat.le_of_ble_eq_true rfl) (Nat.le_of_ble_eq_true rfl) dX6_init_15 (fun q10 H f12 u11 a13 k14 hz hS => ?_)
  have a15 : f12 h = some (.inr (6, [.ref q1, .null, .int 0])) := (k14 _ (z_nn u11 a8)).trans a8
  refine z_putF (fs' := [.ref q1, .ref q10, .int 0]) C hz hS a15 zl6 mFX6_15 (by decide) rfl hin rfl rfl rfl (Nat.le_of_ble_eq_true rfl) rfl dX6_init_17 (fun H locs f16 a17 k18 hz hS => ?_)
  refine lv_aload_n hx hb dX6_init_20 rfl (lv_at hl 0 rfl) ?_
  refine lv_iconst (v := 0) hx hb dX6_init_21 (by decide) ?_
  refine z_put (fs' := [.ref q1, .ref q10, .int 0]) C hz hS a17 zl6 mFX6_18 (by decide) rfl rfl rfl (Nat.le_of_ble_eq_true rfl) rfl dX6_init_22 (fun H locs f19 a20 k21 hz hS => ?_)
  have a22 : f7 q1 = some (.inl (cy 0, 40, .inl (fun _ => 0))) := (k9 _ (Ne.symm (z_nn u2 p0))).trans a4
  have a23 : f12 q1 = some (.inl (cy 0, 40, .inl (fun _ => 0))) := (k14 _ (z_nn u11 a22)).trans a22
  have a24 : f16 q1 = some (.inl (cy 0, 40, .inl (fun _ => 0))) := (k18 _ (Ne.symm (z_nn u2 p0))).trans a23
  have a25 : f19 q1 = some (.inl (cy 0, 40, .inl (fun _ => 0))) := (k21 _ (Ne.symm (z_nn u2 p0))).trans a24
  have a26 : f16 q10 = some (.inl (cy 0, 40, .inl (fun _ => 0))) := (k18 _ (Ne.symm (z_nn u11 a8))).trans a13
  have a27 : f19 q10 = some (.inl (cy 0, 40, .inl (fun _ => 0))) := (k21 _ (Ne.symm (z_nn u11 a8))).trans a26
  exact z_vret C hr hz hS ⟨q1, q10, (z_nn u11 a22), a20, a25, a27, (by
        intro b e hb n0
        have nn0 : b ≠ q1 := z_nn u2 hb
        have hb0 : f3 b = some e := (k5 b nn0).trans hb
        have hb1 : f7 b = some e := (k9 b n0).trans hb0
        have nn2 : b ≠ q10 := z_nn u11 hb1
        have hb2 : f12 b = some e := (k14 b nn2).trans hb1
        have hb3 : f16 b = some e := (k18 b n0).trans hb2
        have hb4 : f19 b = some e := (k21 b n0).trans hb3
        exact hb4)⟩ (Nat.le_of_ble_eq_true rfl) (Nat.le_of_ble_eq_true rfl) dX6_init_25
abbrev rmX1_init : Room := { frames := 1, cells := 1, slots := 60, locals := 12 }
set_option maxHeartbeats 4000000 in
set_option maxRecDepth 100000 in
theorem k_X1_init (l : Launch) (D : va_G) (cy : Nat → ClassId) (f : zM) (h : Nat) (p0 : f h = some (.inr (1, [.null, .int 0])))   : zCv l D cy yX1_init cX1_init 1 none rmX1_init [.ref h] f (fun (f1 : zM) => ∃ (mm : Nat), (f mm = none) ∧ f1 h = some (.inr (1, [.ref mm, .int 0])) ∧ f1 mm = some (.inl (cy 0, 60, .inl (fun _ => 0))) ∧ (∀ (b : Nat) (e : va_E), f b = some e → b ≠ h → f1 b = some e)) := by
  intro sz
  refine z_body (by decide +kernel) (Nat.le_of_ble_eq_true rfl) ?_
  intro p e s m below meth c ls C hr hin hsz hz hl
  subst hsz
  have hx := C.1
  have hb := C.2.1
  have hA : ∀ q, s.heap.size ≤ q → zA f s.heap.size q := fun q h => Or.inr h
  have hS : va_S (zA f s.heap.size) s.heap s.heap [] := va_S.rf
  have hl : lv_has ls 1 [(0, .ref h)] := hl
  refine lv_aload_n hx hb dX1_init_0 rfl (lv_at hl 0 rfl) ?_
  refine z_objI C hl mMX1_3 (Nat.le_of_ble_eq_true rfl) (Nat.le_of_ble_eq_true rfl) dX1_init_1 ?_
  refine lv_aload_n hx hb dX1_init_4 rfl (lv_at hl 0 rfl) ?_
  refine lv_bipush (v := 60) hx hb dX1_init_5 (by decide) ?_
  refine z_newa (atype := .int) (t0 := 0) (N' := 60) (x := (.inl (fun _ => 0))) C hz hS hA rfl mA_int rfl (fun _ => rfl) (by decide) (Nat.le_of_ble_eq_true rfl) (by decide) (Nat.le_of_ble_eq_true rfl) (Nat.le_of_ble_eq_true rfl) dX1_init_7 (fun q1 H f3 u2 a4 k5 hz hS => ?_)
  have a6 : f3 h = some (.inr (1, [.null, .int 0])) := (k5 _ (z_nn u2 p0)).trans p0
  refine z_putF (fs' := [.ref q1, .int 0]) C hz hS a6 zl1 mFX1_9 (by decide) rfl hin rfl rfl rfl (Nat.le_of_ble_eq_true rfl) rfl dX1_init_9 (fun H locs f7 a8 k9 hz hS => ?_)
  refine lv_aload_n hx hb dX1_init_12 rfl (lv_at hl 0 rfl) ?_
  refine lv_iconst (v := 0) hx hb dX1_init_13 (by decide) ?_
  refine z_put (fs' := [.ref q1, .int 0]) C hz hS a8 zl1 mFX1_15 (by decide) rfl rfl rfl (Nat.le_of_ble_eq_true rfl) rfl dX1_init_14 (fun H locs f10 a11 k12 hz hS => ?_)
  have w13 : f q1 = none := by
    rcases h9 : f q1 with _ | e9
    · rfl
    · exfalso
      rw [u2] at h9
      cases h9
  have a14 : f7 q1 = some (.inl (cy 0, 60, .inl (fun _ => 0))) := (k9 _ (Ne.symm (z_nn u2 p0))).trans a4
  have a15 : f10 q1 = some (.inl (cy 0, 60, .inl (fun _ => 0))) := (k12 _ (Ne.symm (z_nn u2 p0))).trans a14
  exact z_vret C hr hz hS ⟨q1, w13, a11, a15, (by
        intro b e hb n0
        have nn0 : b ≠ q1 := z_nn u2 hb
        have hb0 : f3 b = some e := (k5 b nn0).trans hb
        have hb1 : f7 b = some e := (k9 b n0).trans hb0
        have hb2 : f10 b = some e := (k12 b n0).trans hb1
        exact hb2)⟩ (Nat.le_of_ble_eq_true rfl) (Nat.le_of_ble_eq_true rfl) dX1_init_17
abbrev rmX4_init : Room := { frames := 1, cells := 0, slots := 0, locals := 12 }
set_option maxHeartbeats 4000000 in
set_option maxRecDepth 100000 in
theorem k_X4_init (l : Launch) (D : va_G) (cy : Nat → ClassId) (f : zM) (h : Nat) (kdq : Int32) (pa : Nat) (wgq : Int64) (p0 : f h = some (.inr (4, [.int 0, .null, .long 0, .int 0, .int 0, .int 0, .int 0])))   : zCv l D cy yX4_init cX4_init 5 none rmX4_init [.ref h, .int kdq, .ref pa, .long wgq] f (fun (f1 : zM) => f1 h = some (.inr (4, [.int kdq, .ref pa, .long wgq, .int 0, .int (-1), .int 0, .int 0])) ∧ (∀ (b : Nat) (e : va_E), f b = some e → b ≠ h → f1 b = some e)) := by
  intro sz
  refine z_body (by decide +kernel) (Nat.le_of_ble_eq_true rfl) ?_
  intro p e s m below meth c ls C hr hin hsz hz hl
  subst hsz
  have hx := C.1
  have hb := C.2.1
  have hA : ∀ q, s.heap.size ≤ q → zA f s.heap.size q := fun q h => Or.inr h
  have hS : va_S (zA f s.heap.size) s.heap s.heap [] := va_S.rf
  have hl : lv_has ls 5 [(0, .ref h), (1, .int kdq), (2, .ref pa), (3, .long wgq)] := hl
  refine lv_aload_n hx hb dX4_init_0 rfl (lv_at hl 0 rfl) ?_
  refine z_objI C hl mMX4_3 (Nat.le_of_ble_eq_true rfl) (Nat.le_of_ble_eq_true rfl) dX4_init_1 ?_
  refine lv_aload_n hx hb dX4_init_4 rfl (lv_at hl 0 rfl) ?_
  refine lv_iconst (v := 0) hx hb dX4_init_5 (by decide) ?_
  refine z_put (fs' := [.int 0, .null, .long 0, .int 0, .int 0, .int 0, .int 0]) C hz hS p0 zl4 mFX4_9 (by decide) rfl rfl rfl (Nat.le_of_ble_eq_true rfl) rfl dX4_init_6 (fun H locs f1 a2 k3 hz hS => ?_)
  refine lv_aload_n hx hb dX4_init_9 rfl (lv_at hl 0 rfl) ?_
  refine lv_iconst (v := (-1)) hx hb dX4_init_10 (by decide) ?_
  refine z_put (fs' := [.int 0, .null, .long 0, .int 0, .int (-1), .int 0, .int 0]) C hz hS a2 zl4 mFX4_15 (by decide) rfl rfl rfl (Nat.le_of_ble_eq_true rfl) rfl dX4_init_11 (fun H locs f4 a5 k6 hz hS => ?_)
  refine lv_aload_n hx hb dX4_init_14 rfl (lv_at hl 0 rfl) ?_
  refine lv_iconst (v := 0) hx hb dX4_init_15 (by decide) ?_
  refine z_put (fs' := [.int 0, .null, .long 0, .int 0, .int (-1), .int 0, .int 0]) C hz hS a5 zl4 mFX4_19 (by decide) rfl rfl rfl (Nat.le_of_ble_eq_true rfl) rfl dX4_init_16 (fun H locs f7 a8 k9 hz hS => ?_)
  refine lv_aload_n hx hb dX4_init_19 rfl (lv_at hl 0 rfl) ?_
  refine lv_iconst (v := 0) hx hb dX4_init_20 (by decide) ?_
  refine z_put (fs' := [.int 0, .null, .long 0, .int 0, .int (-1), .int 0, .int 0]) C hz hS a8 zl4 mFX4_22 (by decide) rfl rfl rfl (Nat.le_of_ble_eq_true rfl) rfl dX4_init_21 (fun H locs f10 a11 k12 hz hS => ?_)
  refine lv_aload_n hx hb dX4_init_24 rfl (lv_at hl 0 rfl) ?_
  refine lv_iload_n hx hb dX4_init_25 rfl (lv_at hl 1 rfl) ?_
  refine z_putF (fs' := [.int kdq, .null, .long 0, .int 0, .int (-1), .int 0, .int 0]) C hz hS a11 zl4 mFX4_25 (by decide) rfl hin rfl rfl rfl (Nat.le_of_ble_eq_true rfl) rfl dX4_init_26 (fun H locs f13 a14 k15 hz hS => ?_)
  refine lv_aload_n hx hb dX4_init_29 rfl (lv_at hl 0 rfl) ?_
  refine lv_aload_n hx hb dX4_init_30 rfl (lv_at hl 2 rfl) ?_
  refine z_putF (fs' := [.int kdq, .ref pa, .long 0, .int 0, .int (-1), .int 0, .int 0]) C hz hS a14 zl4 mFX4_28 (by decide) rfl hin rfl rfl rfl (Nat.le_of_ble_eq_true rfl) rfl dX4_init_31 (fun H locs f16 a17 k18 hz hS => ?_)
  refine lv_aload_n hx hb dX4_init_34 rfl (lv_at hl 0 rfl) ?_
  refine lv_lload_n hx hb dX4_init_35 rfl (lv_at hl 3 rfl) ?_
  refine z_put (fs' := [.int kdq, .ref pa, .long wgq, .int 0, .int (-1), .int 0, .int 0]) C hz hS a17 zl4 mFX4_32 (by decide) rfl rfl rfl (Nat.le_of_ble_eq_true rfl) rfl dX4_init_36 (fun H locs f19 a20 k21 hz hS => ?_)
  exact z_vret C hr hz hS ⟨a20, (by
        intro b e hb n0
        have hb0 : f1 b = some e := (k3 b n0).trans hb
        have hb1 : f4 b = some e := (k6 b n0).trans hb0
        have hb2 : f7 b = some e := (k9 b n0).trans hb1
        have hb3 : f10 b = some e := (k12 b n0).trans hb2
        have hb4 : f13 b = some e := (k15 b n0).trans hb3
        have hb5 : f16 b = some e := (k18 b n0).trans hb4
        have hb6 : f19 b = some e := (k21 b n0).trans hb5
        exact hb6)⟩ (Nat.le_of_ble_eq_true rfl) (Nat.le_of_ble_eq_true rfl) dX4_init_39
abbrev rmX0_init : Room := { frames := 1, cells := 0, slots := 0, locals := 12 }
set_option maxHeartbeats 4000000 in
set_option maxRecDepth 100000 in
theorem k_X0_init (l : Launch) (D : va_G) (cy : Nat → ClassId) (f : zM) (h : Nat) (x : Int32) (y : Int32) (p0 : f h = some (.inr (0, [.int 0, .int 0])))   : zCv l D cy yX0_init cX0_init 3 none rmX0_init [.ref h, .int x, .int y] f (fun (f1 : zM) => f1 h = some (.inr (0, [.int x, .int y])) ∧ (∀ (b : Nat) (e : va_E), f b = some e → b ≠ h → f1 b = some e)) := by
  intro sz
  refine z_body (by decide +kernel) (Nat.le_of_ble_eq_true rfl) ?_
  intro p e s m below meth c ls C hr hin hsz hz hl
  subst hsz
  have hx := C.1
  have hb := C.2.1
  have hA : ∀ q, s.heap.size ≤ q → zA f s.heap.size q := fun q h => Or.inr h
  have hS : va_S (zA f s.heap.size) s.heap s.heap [] := va_S.rf
  have hl : lv_has ls 3 [(0, .ref h), (1, .int x), (2, .int y)] := hl
  refine lv_aload_n hx hb dX0_init_0 rfl (lv_at hl 0 rfl) ?_
  refine z_objI C hl mMX0_1 (Nat.le_of_ble_eq_true rfl) (Nat.le_of_ble_eq_true rfl) dX0_init_1 ?_
  refine lv_aload_n hx hb dX0_init_4 rfl (lv_at hl 0 rfl) ?_
  refine lv_iload_n hx hb dX0_init_5 rfl (lv_at hl 1 rfl) ?_
  refine z_putF (fs' := [.int x, .int 0]) C hz hS p0 zl0 mFX0_7 (by decide) rfl hin rfl rfl rfl (Nat.le_of_ble_eq_true rfl) rfl dX0_init_6 (fun H locs f1 a2 k3 hz hS => ?_)
  refine lv_aload_n hx hb dX0_init_9 rfl (lv_at hl 0 rfl) ?_
  refine lv_iload_n hx hb dX0_init_10 rfl (lv_at hl 2 rfl) ?_
  refine z_putF (fs' := [.int x, .int y]) C hz hS a2 zl0 mFX0_13 (by decide) rfl hin rfl rfl rfl (Nat.le_of_ble_eq_true rfl) rfl dX0_init_11 (fun H locs f4 a5 k6 hz hS => ?_)
  exact z_vret C hr hz hS ⟨a5, (by
        intro b e hb n0
        have hb0 : f1 b = some e := (k3 b n0).trans hb
        have hb1 : f4 b = some e := (k6 b n0).trans hb0
        exact hb1)⟩ (Nat.le_of_ble_eq_true rfl) (Nat.le_of_ble_eq_true rfl) dX0_init_14
abbrev rmX3_init : Room := { frames := 1, cells := 1, slots := 4, locals := 12 }
set_option maxHeartbeats 4000000 in
set_option maxRecDepth 100000 in
theorem k_X3_init (l : Launch) (D : va_G) (cy : Nat → ClassId) (f : zM) (h : Nat) (ta : Nat) (g : Nat → Int32) (p0 : f h = some (.inr (3, [.null, .int 0]))) (p1 : f ta = some (.inl (cy 0, 4, .inl g)))   : zCv l D cy yX3_init cX3_init 3 none rmX3_init [.ref h, .ref ta] f (fun (f1 : zM) => ∃ (kq : Nat) (zz : Nat) (gz : Nat → Int32), (zz ≤ 4) ∧ (zz = zfn g 4) ∧ (gz = zfg g 4) ∧ f1 h = some (.inr (3, [.ref kq, .int (nI zz)])) ∧ f1 kq = some (.inl (cy 0, 4, .inl gz)) ∧ (∀ (b : Nat) (e : va_E), f b = some e → b ≠ h → f1 b = some e)) := by
  intro sz
  refine z_body (by decide +kernel) (Nat.le_of_ble_eq_true rfl) ?_
  intro p e s m below meth c ls C hr hin hsz hz hl
  subst hsz
  have hx := C.1
  have hb := C.2.1
  have hA : ∀ q, s.heap.size ≤ q → zA f s.heap.size q := fun q h => Or.inr h
  have hS : va_S (zA f s.heap.size) s.heap s.heap [] := va_S.rf
  have hl : lv_has ls 3 [(0, .ref h), (1, .ref ta)] := hl
  refine lv_aload_n hx hb dX3_init_0 rfl (lv_at hl 0 rfl) ?_
  refine z_objI C hl mMX3_3 (Nat.le_of_ble_eq_true rfl) (Nat.le_of_ble_eq_true rfl) dX3_init_1 ?_
  refine lv_aload_n hx hb dX3_init_4 rfl (lv_at hl 0 rfl) ?_
  refine lv_iconst (v := 4) hx hb dX3_init_5 (by decide) ?_
  refine z_newa (atype := .int) (t0 := 0) (N' := 4) (x := (.inl (fun _ => 0))) C hz hS hA rfl mA_int rfl (fun _ => rfl) (by decide) (Nat.le_of_ble_eq_true rfl) (by decide) (Nat.le_of_ble_eq_true rfl) (Nat.le_of_ble_eq_true rfl) dX3_init_6 (fun q1 H f3 u2 a4 k5 hz hS => ?_)
  have a6 : f3 h = some (.inr (3, [.null, .int 0])) := (k5 _ (z_nn u2 p0)).trans p0
  refine z_putF (fs' := [.ref q1, .int 0]) C hz hS a6 zl3 mFX3_11 (by decide) rfl hin rfl rfl rfl (Nat.le_of_ble_eq_true rfl) rfl dX3_init_8 (fun H locs f7 a8 k9 hz hS => ?_)
  refine lv_aload_n hx hb dX3_init_11 rfl (lv_at hl 0 rfl) ?_
  refine lv_iconst (v := 0) hx hb dX3_init_12 (by decide) ?_
  refine z_put (fs' := [.ref q1, .int 0]) C hz hS a8 zl3 mFX3_15 (by decide) rfl rfl rfl (Nat.le_of_ble_eq_true rfl) rfl dX3_init_13 (fun H locs f10 a11 k12 hz hS => ?_)
  refine lv_iconst (v := 0) hx hb dX3_init_16 (by decide) ?_
  refine lv_istore_n (lv' := [(2, .int 0), (0, .ref h), (1, .ref ta)]) hx hb dX3_init_17 rfl hl (by decide) rfl (fun ls hl => ?_)
  have lp13 : ∀ (n : Nat) (i : Nat) (z : Nat) (gz : Nat → Int32) (fL14 : zM) (H : Heap) (locs : List Loc) (ls : Array Slot), (4 - i) < n → (i ≤ 4) → (z = zfn g i) → (gz = zfg g i) → fL14 h = some (.inr (3, [.ref q1, .int (nI z)])) → fL14 ta = some (.inl (cy 0, 4, .inl g)) → fL14 q1 = some (.inl (cy 0, 4, .inl gz)) → (∀ (b : Nat) (e : va_E), f10 b = some e → b ≠ h → b ≠ q1 → fL14 b = some e) → zH D (zA f s.heap.size) fL14 H → va_S (zA f s.heap.size) s.heap H locs → lv_has ls 3 [(0, .ref h), (1, .ref ta), (2, .int (nI i))] → W p l e rmX3_init s m ([.ref h, .ref ta] : List Value).toArray below meth c H locs 1 4 (MQ below (va_Qv (fun (f1 : zM) => ∃ (kq : Nat) (zz : Nat) (gz : Nat → Int32), (zz ≤ 4) ∧ (zz = zfn g 4) ∧ (gz = zfg g 4) ∧ f1 h = some (.inr (3, [.ref kq, .int (nI zz)])) ∧ f1 kq = some (.inl (cy 0, 4, .inl gz)) ∧ (∀ (b : Nat) (e : va_E), f b = some e → b ≠ h → f1 b = some e)) (zB D f s.heap.size) (zA f s.heap.size)) ([.ref h, .ref ta] : List Value).toArray s rmX3_init.cells rmX3_init.slots (zA f s.heap.size)) (F0 m 18 ls []) := by
    intro n
    induction n with
    | zero => intro i z gz fL14 H locs ls hmz; exact absurd hmz (Nat.not_lt_zero _)
    | succ n ih =>
      intro i z gz fL14 H locs ls hmz hi hz9 hg9 a16 a17 a18 k15 hz hS hl
      refine lv_iload_n hx hb dX3_init_18 rfl (lv_at hl 2 rfl) ?_
      refine lv_aload_n hx hb dX3_init_19 rfl (lv_at hl 1 rfl) ?_
      refine z_alen (v := 4) 0 C hz a17 rfl rfl dX3_init_20 ?_
      refine lv_icmp_ge (tgt := 67) hx hb dX3_init_21 (by decide) (fun c19 => ?_) (fun c19 => ?_)
      · replace c19 : (4 ≤ i) := (nI_leI (a := 4) (b := i) (by omega) (by omega)).mp c19
        exact z_vret C hr hz hS ⟨q1, z, gz, (by have := zfn_le g i; omega), (by obtain rfl : i = 4 := (by omega); exact hz9), (by obtain rfl : i = 4 := (by omega); exact hg9), a16, a18, (by
              intro b e hb n0
              have nn0 : b ≠ q1 := z_nn u2 hb
              have hb0 : f3 b = some e := (k5 b nn0).trans hb
              have hb1 : f7 b = some e := (k9 b n0).trans hb0
              have hb2 : f10 b = some e := (k12 b n0).trans hb1
              have hb3 : fL14 b = some e := k15 b e hb2 n0 nn0
              exact hb3)⟩ (Nat.le_of_ble_eq_true rfl) (Nat.le_of_ble_eq_true rfl) dX3_init_67
      · replace c19 : ¬ (4 ≤ i) := fun h => c19 ((nI_leI (a := 4) (b := i) (by omega) (by omega)).mpr h)
        refine lv_aload_n hx hb dX3_init_24 rfl (lv_at hl 0 rfl) ?_
        refine z_get (v := .int (nI z)) C hz a16 zl3 mFX3_15 (by decide) rfl dX3_init_25 ?_
        refine lv_iconst (v := 4) hx hb dX3_init_28 (by decide) ?_
        refine lv_icmp_ge (tgt := 67) hx hb dX3_init_29 (by decide) (fun c20 => ?_) (fun c20 => ?_)
        · exact absurd ((nI_leI (a := 4) (b := z) (by omega) (by have := zfn_le g i; omega)).mp c20) (by have := zfn_le g i; omega)
        refine lv_aload_n hx hb dX3_init_32 rfl (lv_at hl 1 rfl) ?_
        refine lv_iload_n hx hb dX3_init_33 rfl (lv_at hl 2 rfl) ?_
        refine z_iald i C hz a17 rfl (by omega) (by omega) dX3_init_34 ?_
        refine lv_iconst (v := (-1)) hx hb dX3_init_35 (by decide) ?_
        refine lv_icmp_eq (tgt := 61) hx hb dX3_init_36 (by decide) (fun c21 => ?_) (fun c21 => ?_)
        · refine lv_iinc (v := nI (i + 1)) (lv' := [(2, .int (nI (i + 1))), (0, .ref h), (1, .ref ta)]) hx hb dX3_init_61 hl (k := 2) rfl (nI_1 i) (by decide) rfl (fun ls hl => ?_)
          refine lv_goto (tgt := 18) hx hb dX3_init_64 (by decide) ?_
          exact ih (i + 1) z gz _ _ _ _ (by omega) (by omega) (by rw [zfn, if_pos c21]; exact hz9) (by rw [zfg, if_pos c21]; exact hg9) a16 a17 a18 (by
                intro b e hb n0 n1
                have hb3 : fL14 b = some e := k15 b e hb n0 n1
                exact hb3) hz hS (lv_sub hl [1, 2, 0] rfl)
        · refine lv_aload_n hx hb dX3_init_39 rfl (lv_at hl 0 rfl) ?_
          refine z_get (v := .ref q1) C hz a16 zl3 mFX3_11 (by decide) rfl dX3_init_40 ?_
          refine lv_aload_n hx hb dX3_init_43 rfl (lv_at hl 0 rfl) ?_
          refine z_get (v := .int (nI z)) C hz a16 zl3 mFX3_15 (by decide) rfl dX3_init_44 ?_
          refine lv_aload_n hx hb dX3_init_47 rfl (lv_at hl 1 rfl) ?_
          refine lv_iload_n hx hb dX3_init_48 rfl (lv_at hl 2 rfl) ?_
          refine z_iald i C hz a17 rfl (by omega) (by omega) dX3_init_49 ?_
          refine z_iast z C hz hS a18 rfl (by have := zfn_le g i; omega) (by omega) dX3_init_50 (fun H locs f22 a23 k24 hz hS => ?_)
          refine lv_aload_n hx hb dX3_init_51 rfl (lv_at hl 0 rfl) ?_
          refine lv_dup hx hb dX3_init_52 rfl ?_
          have a25 : f22 h = some (.inr (3, [.ref q1, .int (nI z)])) := (k24 _ (z_nn u2 p0)).trans a16
          refine z_get (v := .int (nI z)) C hz a25 zl3 mFX3_15 (by decide) rfl dX3_init_53 ?_
          refine lv_iconst (v := 1) hx hb dX3_init_56 (by decide) ?_
          refine lv_iadd hx hb dX3_init_57 ?_
          refine lv_topi (fun y26 e27 => ?_)
          obtain rfl : y26 = nI (z + 1) := e27.trans (nI_1 z)
          refine z_put (fs' := [.ref q1, .int (nI (z + 1))]) C hz hS a25 zl3 mFX3_15 (by decide) rfl rfl rfl (Nat.le_of_ble_eq_true rfl) rfl dX3_init_58 (fun H locs f28 a29 k30 hz hS => ?_)
          refine lv_iinc (v := nI (i + 1)) (lv' := [(2, .int (nI (i + 1))), (0, .ref h), (1, .ref ta)]) hx hb dX3_init_61 hl (k := 2) rfl (nI_1 i) (by decide) rfl (fun ls hl => ?_)
          refine lv_goto (tgt := 18) hx hb dX3_init_64 (by decide) ?_
          have a31 : f28 q1 = some (.inl (cy 0, 4, .inl (upd gz z (g i)))) := (k30 _ (Ne.symm (z_nn u2 p0))).trans a23
          have a32 : f22 ta = some (.inl (cy 0, 4, .inl g)) := (k24 _ (z_nn u2 p1)).trans a17
          have a33 : f28 ta = some (.inl (cy 0, 4, .inl g)) := (k30 _ (z_ne a32 a25 rfl)).trans a32
          exact ih (i + 1) (z + 1) (upd gz z (g i)) _ _ _ _ (by omega) (by omega) (by rw [zfn, if_neg c21, hz9]) (by rw [zfg, if_neg c21, hg9, hz9]) a29 a33 a31 (by
                intro b e hb n0 n1
                have hb3 : fL14 b = some e := k15 b e hb n0 n1
                have hb4 : f22 b = some e := (k24 b n1).trans hb3
                have hb5 : f28 b = some e := (k30 b n0).trans hb4
                exact hb5) hz hS (lv_sub hl [1, 2, 0] rfl)
  have a34 : f7 q1 = some (.inl (cy 0, 4, .inl (fun _ => 0))) := (k9 _ (Ne.symm (z_nn u2 p0))).trans a4
  have a35 : f10 q1 = some (.inl (cy 0, 4, .inl (fun _ => 0))) := (k12 _ (Ne.symm (z_nn u2 p0))).trans a34
  have a36 : f3 ta = some (.inl (cy 0, 4, .inl g)) := (k5 _ (z_nn u2 p1)).trans p1
  have a37 : f7 ta = some (.inl (cy 0, 4, .inl g)) := (k9 _ (z_ne a36 a6 rfl)).trans a36
  have a38 : f10 ta = some (.inl (cy 0, 4, .inl g)) := (k12 _ (z_ne a37 a8 rfl)).trans a37
  exact lp13 (4 - 0 + 1) 0 0 (fun _ => 0) _ _ _ _ (Nat.lt_succ_self _) (by omega) rfl rfl a11 a38 a35 (fun b e hb n0 n1 => hb) hz hS (lv_sub hl [1, 2, 0] rfl)
abbrev rmJ6_compare_7cf53 : Room := { frames := 0, cells := 0, slots := 0, locals := 0 }
set_option maxHeartbeats 4000000 in
set_option maxRecDepth 100000 in
theorem k_J6_compare_7cf53 (l : Launch) (D : va_G) (cy : Nat → ClassId) (f : zM) (x : Int32) (y : Int32)    : zCi l D cy yJ6_compare_7cf53 cJ6_compare_7cf53 2 (Option.some Jvm.ClassFile.FieldType.int) rmJ6_compare_7cf53 [.int x, .int y] f (fun (r : Int32) (f1 : zM) => (∀ (b : Nat) (e : va_E), f b = some e → f1 b = some e)) := by
  intro sz
  refine z_body (by decide +kernel) (Nat.le_of_ble_eq_true rfl) ?_
  intro p e s m below meth c ls C hr hin hsz hz hl
  subst hsz
  have hx := C.1
  have hb := C.2.1
  have hA : ∀ q, s.heap.size ≤ q → zA f s.heap.size q := fun q h => Or.inr h
  have hS : va_S (zA f s.heap.size) s.heap s.heap [] := va_S.rf
  have hl : lv_has ls 2 [(0, .int x), (1, .int y)] := hl
  refine lv_iload_n hx hb dJ6_compare_7cf53_0 rfl (lv_at hl 0 rfl) ?_
  refine lv_iload_n hx hb dJ6_compare_7cf53_1 rfl (lv_at hl 1 rfl) ?_
  refine lv_icmp_ge (tgt := 9) hx hb dJ6_compare_7cf53_2 (by decide) (fun c1 => ?_) (fun c1 => ?_)
  · refine lv_iload_n hx hb dJ6_compare_7cf53_9 rfl (lv_at hl 0 rfl) ?_
    refine lv_iload_n hx hb dJ6_compare_7cf53_10 rfl (lv_at hl 1 rfl) ?_
    refine lv_icmp_ne (tgt := 18) hx hb dJ6_compare_7cf53_11 (by decide) (fun c2 => ?_) (fun c2 => ?_)
    · refine lv_iconst (v := 1) hx hb dJ6_compare_7cf53_18 (by decide) ?_
      exact z_iret C hr rfl hz hS (fun b e hb => hb) (Nat.le_of_ble_eq_true rfl) (Nat.le_of_ble_eq_true rfl) dJ6_compare_7cf53_19
    · refine lv_iconst (v := 0) hx hb dJ6_compare_7cf53_14 (by decide) ?_
      refine lv_goto (tgt := 19) hx hb dJ6_compare_7cf53_15 (by decide) ?_
      exact z_iret C hr rfl hz hS (fun b e hb => hb) (Nat.le_of_ble_eq_true rfl) (Nat.le_of_ble_eq_true rfl) dJ6_compare_7cf53_19
  · refine lv_iconst (v := (-1)) hx hb dJ6_compare_7cf53_5 (by decide) ?_
    refine lv_goto (tgt := 19) hx hb dJ6_compare_7cf53_6 (by decide) ?_
    exact z_iret C hr rfl hz hS (fun b e hb => hb) (Nat.le_of_ble_eq_true rfl) (Nat.le_of_ble_eq_true rfl) dJ6_compare_7cf53_19
abbrev rmJ13_compare_74951 : Room := { frames := 0, cells := 0, slots := 0, locals := 0 }
set_option maxHeartbeats 4000000 in
set_option maxRecDepth 100000 in
theorem k_J13_compare_74951 (l : Launch) (D : va_G) (cy : Nat → ClassId) (f : zM) (x : Int64) (y : Int64)    : zCi l D cy yJ13_compare_74951 cJ13_compare_74951 4 (Option.some Jvm.ClassFile.FieldType.int) rmJ13_compare_74951 [.long x, .long y] f (fun (r : Int32) (f1 : zM) => (∀ (b : Nat) (e : va_E), f b = some e → f1 b = some e)) := by
  intro sz
  refine z_body (by decide +kernel) (Nat.le_of_ble_eq_true rfl) ?_
  intro p e s m below meth c ls C hr hin hsz hz hl
  subst hsz
  have hx := C.1
  have hb := C.2.1
  have hA : ∀ q, s.heap.size ≤ q → zA f s.heap.size q := fun q h => Or.inr h
  have hS : va_S (zA f s.heap.size) s.heap s.heap [] := va_S.rf
  have hl : lv_has ls 4 [(0, .long x), (2, .long y)] := hl
  refine lv_lload_n hx hb dJ13_compare_74951_0 rfl (lv_at hl 0 rfl) ?_
  refine lv_lload_n hx hb dJ13_compare_74951_1 rfl (lv_at hl 1 rfl) ?_
  refine W.lcmp hx hb dJ13_compare_74951_2 ?_
  refine lv_if_ge (tgt := 10) hx hb dJ13_compare_74951_3 (by decide) (fun c1 => ?_) (fun c1 => ?_)
  · refine lv_lload_n hx hb dJ13_compare_74951_10 rfl (lv_at hl 0 rfl) ?_
    refine lv_lload_n hx hb dJ13_compare_74951_11 rfl (lv_at hl 1 rfl) ?_
    refine W.lcmp hx hb dJ13_compare_74951_12 ?_
    refine lv_if_ne (tgt := 20) hx hb dJ13_compare_74951_13 (by decide) (fun c2 => ?_) (fun c2 => ?_)
    · refine lv_iconst (v := 1) hx hb dJ13_compare_74951_20 (by decide) ?_
      exact z_iret C hr rfl hz hS (fun b e hb => hb) (Nat.le_of_ble_eq_true rfl) (Nat.le_of_ble_eq_true rfl) dJ13_compare_74951_21
    · refine lv_iconst (v := 0) hx hb dJ13_compare_74951_16 (by decide) ?_
      refine lv_goto (tgt := 21) hx hb dJ13_compare_74951_17 (by decide) ?_
      exact z_iret C hr rfl hz hS (fun b e hb => hb) (Nat.le_of_ble_eq_true rfl) (Nat.le_of_ble_eq_true rfl) dJ13_compare_74951_21
  · refine lv_iconst (v := (-1)) hx hb dJ13_compare_74951_6 (by decide) ?_
    refine lv_goto (tgt := 21) hx hb dJ13_compare_74951_7 (by decide) ?_
    exact z_iret C hr rfl hz hS (fun b e hb => hb) (Nat.le_of_ble_eq_true rfl) (Nat.le_of_ble_eq_true rfl) dJ13_compare_74951_21
abbrev rmX4_isOf : Room := { frames := 0, cells := 0, slots := 0, locals := 0 }
set_option maxHeartbeats 4000000 in
set_option maxRecDepth 100000 in
theorem k_X4_isOf (l : Launch) (D : va_G) (cy : Nat → ClassId) (f : zM) (h : Nat) (kdq : Int32) (pa : Nat) (wgq : Int64) (wdq : Int32) (nuq : Int32) (hsq : Int32) (bfq : Int32) (x : Int32) (p0 : f h = some (.inr (4, [.int kdq, .ref pa, .long wgq, .int wdq, .int nuq, .int hsq, .int bfq])))   : zCi l D cy yX4_isOf cX4_isOf 2 (Option.some Jvm.ClassFile.FieldType.boolean) rmX4_isOf [.ref h, .int x] f (fun (r : Int32) (f1 : zM) => r = (if kdq = x ∨ (kdq = 2 ∧ x = 1) then 1 else 0) ∧ (∀ (b : Nat) (e : va_E), f b = some e → f1 b = some e)) := by
  intro sz
  refine z_body (by decide +kernel) (Nat.le_of_ble_eq_true rfl) ?_
  intro p e s m below meth c ls C hr hin hsz hz hl
  subst hsz
  have hx := C.1
  have hb := C.2.1
  have hA : ∀ q, s.heap.size ≤ q → zA f s.heap.size q := fun q h => Or.inr h
  have hS : va_S (zA f s.heap.size) s.heap s.heap [] := va_S.rf
  have hl : lv_has ls 2 [(0, .ref h), (1, .int x)] := hl
  refine lv_aload_n hx hb dX4_isOf_0 rfl (lv_at hl 0 rfl) ?_
  refine z_get (v := .int kdq) C hz p0 zl4 mFX4_25 (by decide) rfl dX4_isOf_1 ?_
  refine lv_iload_n hx hb dX4_isOf_4 rfl (lv_at hl 1 rfl) ?_
  refine lv_icmp_eq (tgt := 21) hx hb dX4_isOf_5 (by decide) (fun c1 => ?_) (fun c1 => ?_)
  · refine lv_iconst (v := 1) hx hb dX4_isOf_21 (by decide) ?_
    refine lv_goto (tgt := 26) hx hb dX4_isOf_22 (by decide) ?_
    exact z_iret C hr (by decide) hz hS ⟨(by rw [if_pos (by first | exact Or.inl c1)]), (fun b e hb => hb)⟩ (Nat.le_of_ble_eq_true rfl) (Nat.le_of_ble_eq_true rfl) dX4_isOf_26
  · refine lv_aload_n hx hb dX4_isOf_8 rfl (lv_at hl 0 rfl) ?_
    refine z_get (v := .int kdq) C hz p0 zl4 mFX4_25 (by decide) rfl dX4_isOf_9 ?_
    refine lv_iconst (v := 2) hx hb dX4_isOf_12 (by decide) ?_
    refine lv_icmp_ne (tgt := 25) hx hb dX4_isOf_13 (by decide) (fun c2 => ?_) (fun c2 => ?_)
    · refine lv_iconst (v := 0) hx hb dX4_isOf_25 (by decide) ?_
      exact z_iret C hr (by decide) hz hS ⟨(by rw [if_neg (by rintro (h9 | ⟨h9, h8⟩) <;> first | exact absurd h9 c1 | exact absurd h8 c1 | exact absurd h9 c2 | exact absurd h8 c2)]), (fun b e hb => hb)⟩ (Nat.le_of_ble_eq_true rfl) (Nat.le_of_ble_eq_true rfl) dX4_isOf_26
    · refine lv_iload_n hx hb dX4_isOf_16 rfl (lv_at hl 1 rfl) ?_
      refine lv_iconst (v := 1) hx hb dX4_isOf_17 (by decide) ?_
      refine lv_icmp_ne (tgt := 25) hx hb dX4_isOf_18 (by decide) (fun c3 => ?_) (fun c3 => ?_)
      · refine lv_iconst (v := 0) hx hb dX4_isOf_25 (by decide) ?_
        exact z_iret C hr (by decide) hz hS ⟨(by rw [if_neg (by rintro (h9 | ⟨h9, h8⟩) <;> first | exact absurd h9 c1 | exact absurd h8 c1 | exact absurd h9 c2 | exact absurd h8 c2 | exact absurd h9 c3 | exact absurd h8 c3)]), (fun b e hb => hb)⟩ (Nat.le_of_ble_eq_true rfl) (Nat.le_of_ble_eq_true rfl) dX4_isOf_26
      · refine lv_iconst (v := 1) hx hb dX4_isOf_21 (by decide) ?_
        refine lv_goto (tgt := 26) hx hb dX4_isOf_22 (by decide) ?_
        exact z_iret C hr (by decide) hz hS ⟨(by rw [if_pos (by first | exact Or.inl c1 | exact Or.inr ⟨c2, c3⟩)]), (fun b e hb => hb)⟩ (Nat.le_of_ble_eq_true rfl) (Nat.le_of_ble_eq_true rfl) dX4_isOf_26
abbrev rmX4_isLike : Room := { frames := 0, cells := 0, slots := 0, locals := 0 }
set_option maxHeartbeats 4000000 in
set_option maxRecDepth 100000 in
theorem k_X4_isLike (l : Launch) (D : va_G) (cy : Nat → ClassId) (f : zM) (h : Nat) (kdq : Int32) (pa : Nat) (wgq : Int64) (wdq : Int32) (nuq : Int32) (hsq : Int32) (bfq : Int32) (q2 : Nat) (kd2 : Int32) (pa2 : Nat) (wg2 : Int64) (wd2 : Int32) (nu2 : Int32) (hs2 : Int32) (bf2 : Int32) (p0 : f h = some (.inr (4, [.int kdq, .ref pa, .long wgq, .int wdq, .int nuq, .int hsq, .int bfq]))) (p1 : f q2 = some (.inr (4, [.int kd2, .ref pa2, .long wg2, .int wd2, .int nu2, .int hs2, .int bf2])))   : zCi l D cy yX4_isLike cX4_isLike 2 (Option.some Jvm.ClassFile.FieldType.boolean) rmX4_isLike [.ref h, .ref q2] f (fun (r : Int32) (f1 : zM) => r = (if bfq = bf2 then 1 else 0) ∧ (∀ (b : Nat) (e : va_E), f b = some e → f1 b = some e)) := by
  intro sz
  refine z_body (by decide +kernel) (Nat.le_of_ble_eq_true rfl) ?_
  intro p e s m below meth c ls C hr hin hsz hz hl
  subst hsz
  have hx := C.1
  have hb := C.2.1
  have hA : ∀ q, s.heap.size ≤ q → zA f s.heap.size q := fun q h => Or.inr h
  have hS : va_S (zA f s.heap.size) s.heap s.heap [] := va_S.rf
  have hl : lv_has ls 2 [(0, .ref h), (1, .ref q2)] := hl
  refine lv_aload_n hx hb dX4_isLike_0 rfl (lv_at hl 0 rfl) ?_
  refine z_get (v := .int bfq) C hz p0 zl4 mFX4_22 (by decide) rfl dX4_isLike_1 ?_
  refine lv_aload_n hx hb dX4_isLike_4 rfl (lv_at hl 1 rfl) ?_
  refine z_get (v := .int bf2) C hz p1 zl4 mFX4_22 (by decide) rfl dX4_isLike_5 ?_
  refine lv_icmp_ne (tgt := 15) hx hb dX4_isLike_8 (by decide) (fun c1 => ?_) (fun c1 => ?_)
  · refine lv_iconst (v := 0) hx hb dX4_isLike_15 (by decide) ?_
    exact z_iret C hr (by decide) hz hS ⟨(by first | simp [c1] | simp_all), (fun b e hb => hb)⟩ (Nat.le_of_ble_eq_true rfl) (Nat.le_of_ble_eq_true rfl) dX4_isLike_16
  · refine lv_iconst (v := 1) hx hb dX4_isLike_11 (by decide) ?_
    refine lv_goto (tgt := 16) hx hb dX4_isLike_12 (by decide) ?_
    exact z_iret C hr (by decide) hz hS ⟨(by first | simp [c1] | simp_all), (fun b e hb => hb)⟩ (Nat.le_of_ble_eq_true rfl) (Nat.le_of_ble_eq_true rfl) dX4_isLike_16
abbrev rmX4_hasPlace : Room := { frames := 0, cells := 0, slots := 0, locals := 0 }
set_option maxHeartbeats 4000000 in
set_option maxRecDepth 100000 in
theorem k_X4_hasPlace (l : Launch) (D : va_G) (cy : Nat → ClassId) (f : zM) (h : Nat) (kdq : Int32) (pa : Nat) (wgq : Int64) (wdq : Int32) (nuq : Int32) (hsq : Int32) (bfq : Int32) (x : Int32) (t : Nat) (gp : Nat → Int64) (p0 : f h = some (.inr (4, [.int kdq, .ref pa, .long wgq, .int wdq, .int nuq, .int hsq, .int bfq]))) (p1 : f pa = some (.inl (cy 1, t, .inr (.inl gp))))   : zCi l D cy yX4_hasPlace cX4_hasPlace 2 (Option.some Jvm.ClassFile.FieldType.boolean) rmX4_hasPlace [.ref h, .int x] f (fun (r : Int32) (f1 : zM) => r = (if x < 0 then 0 else if nI t - 1 ≤ x then 0 else 1) ∧ (∀ (b : Nat) (e : va_E), f b = some e → f1 b = some e)) := by
  intro sz
  refine z_body (by decide +kernel) (Nat.le_of_ble_eq_true rfl) ?_
  intro p e s m below meth c ls C hr hin hsz hz hl
  subst hsz
  have hx := C.1
  have hb := C.2.1
  have hA : ∀ q, s.heap.size ≤ q → zA f s.heap.size q := fun q h => Or.inr h
  have hS : va_S (zA f s.heap.size) s.heap s.heap [] := va_S.rf
  have hl : lv_has ls 2 [(0, .ref h), (1, .int x)] := hl
  refine lv_iload_n hx hb dX4_hasPlace_0 rfl (lv_at hl 1 rfl) ?_
  refine lv_if_lt (tgt := 19) hx hb dX4_hasPlace_1 (by decide) (fun c1 => ?_) (fun c1 => ?_)
  · refine lv_iconst (v := 0) hx hb dX4_hasPlace_19 (by decide) ?_
    exact z_iret C hr (by decide) hz hS ⟨(by first | simp [c1] | simp_all), (fun b e hb => hb)⟩ (Nat.le_of_ble_eq_true rfl) (Nat.le_of_ble_eq_true rfl) dX4_hasPlace_20
  · refine lv_iload_n hx hb dX4_hasPlace_4 rfl (lv_at hl 1 rfl) ?_
    refine lv_aload_n hx hb dX4_hasPlace_5 rfl (lv_at hl 0 rfl) ?_
    refine z_get (v := .ref pa) C hz p0 zl4 mFX4_28 (by decide) rfl dX4_hasPlace_6 ?_
    refine z_alen (v := nI t) 1 C hz p1 rfl rfl dX4_hasPlace_9 ?_
    refine lv_iconst (v := 1) hx hb dX4_hasPlace_10 (by decide) ?_
    refine lv_isub hx hb dX4_hasPlace_11 ?_
    refine lv_icmp_ge (tgt := 19) hx hb dX4_hasPlace_12 (by decide) (fun c2 => ?_) (fun c2 => ?_)
    · refine lv_iconst (v := 0) hx hb dX4_hasPlace_19 (by decide) ?_
      exact z_iret C hr (by decide) hz hS ⟨(by first | simp [c1, c2] | simp_all), (fun b e hb => hb)⟩ (Nat.le_of_ble_eq_true rfl) (Nat.le_of_ble_eq_true rfl) dX4_hasPlace_20
    · refine lv_iconst (v := 1) hx hb dX4_hasPlace_15 (by decide) ?_
      refine lv_goto (tgt := 20) hx hb dX4_hasPlace_16 (by decide) ?_
      exact z_iret C hr (by decide) hz hS ⟨(by first | simp [c1, c2] | simp_all), (fun b e hb => hb)⟩ (Nat.le_of_ble_eq_true rfl) (Nat.le_of_ble_eq_true rfl) dX4_hasPlace_20
abbrev rmX4_hold : Room := { frames := 0, cells := 0, slots := 0, locals := 0 }
set_option maxHeartbeats 4000000 in
set_option maxRecDepth 100000 in
theorem k_X4_hold (l : Launch) (D : va_G) (cy : Nat → ClassId) (f : zM) (h : Nat) (kdq : Int32) (pa : Nat) (wgq : Int64) (wdq : Int32) (nuq : Int32) (hsq : Int32) (bfq : Int32) (x : Int32) (y : Int32) (t : Nat) (gp : Nat → Int64) (j : Nat) (p0 : f h = some (.inr (4, [.int kdq, .ref pa, .long wgq, .int wdq, .int nuq, .int hsq, .int bfq]))) (p1 : f pa = some (.inl (cy 1, t, .inr (.inl gp))))  (hxj : x = nI j) (hj : j + 1 < t) (ht : t < 2 ^ 31) : zCv l D cy yX4_hold cX4_hold 3 none rmX4_hold [.ref h, .int x, .int y] f (fun (f1 : zM) => ∃ (wg1 : Int64), f1 h = some (.inr (4, [.int kdq, .ref pa, .long wg1, .int wdq, .int nuq, .int hsq, .int bfq])) ∧ f1 pa = some (.inl (cy 1, t, .inr (.inl (vp_updL gp (1 + j) y.toInt64)))) ∧ (∀ (b : Nat) (e : va_E), f b = some e → b ≠ h → b ≠ pa → f1 b = some e)) := by
  intro sz
  refine z_body (by decide +kernel) (Nat.le_of_ble_eq_true rfl) ?_
  intro p e s m below meth c ls C hr hin hsz hz hl
  subst hsz
  have hx := C.1
  have hb := C.2.1
  have hA : ∀ q, s.heap.size ≤ q → zA f s.heap.size q := fun q h => Or.inr h
  have hS : va_S (zA f s.heap.size) s.heap s.heap [] := va_S.rf
  have hl : lv_has ls 3 [(0, .ref h), (1, .int x), (2, .int y)] := hl
  refine lv_aload_n hx hb dX4_hold_0 rfl (lv_at hl 0 rfl) ?_
  refine z_get (v := .ref pa) C hz p0 zl4 mFX4_28 (by decide) rfl dX4_hold_1 ?_
  refine lv_iconst (v := 1) hx hb dX4_hold_4 (by decide) ?_
  refine lv_iload_n hx hb dX4_hold_5 rfl (lv_at hl 1 rfl) ?_
  refine lv_iadd hx hb dX4_hold_6 ?_
  refine z_lald (1 + j) C hz p1 (by rw [hxj]; exact nI_add 1 j) (by omega) (by omega) dX4_hold_7 ?_
  refine lv_ldc2 (v := (-1)) hx hb C.2.2.2.1 (C.2.2.2.2.1 _ mKX4_36) dX4_hold_8 ?_
  refine W.lcmp hx hb dX4_hold_11 ?_
  refine lv_if_eq (tgt := 25) hx hb dX4_hold_12 (by decide) (fun c1 => ?_) (fun c1 => ?_)
  · refine lv_iload_n hx hb dX4_hold_25 rfl (lv_at hl 2 rfl) ?_
    refine lv_iconst (v := (-1)) hx hb dX4_hold_26 (by decide) ?_
    refine lv_icmp_eq (tgt := 40) hx hb dX4_hold_27 (by decide) (fun c2 => ?_) (fun c2 => ?_)
    · refine lv_aload_n hx hb dX4_hold_40 rfl (lv_at hl 0 rfl) ?_
      refine z_get (v := .ref pa) C hz p0 zl4 mFX4_28 (by decide) rfl dX4_hold_41 ?_
      refine lv_iconst (v := 1) hx hb dX4_hold_44 (by decide) ?_
      refine lv_iload_n hx hb dX4_hold_45 rfl (lv_at hl 1 rfl) ?_
      refine lv_iadd hx hb dX4_hold_46 ?_
      refine lv_iload_n hx hb dX4_hold_47 rfl (lv_at hl 2 rfl) ?_
      refine lv_i2l (v := y.toInt64) hx hb dX4_hold_48 rfl ?_
      refine z_last (1 + j) C hz hS p1 (by rw [hxj]; exact nI_add 1 j) (by omega) (by omega) dX4_hold_49 (fun H locs f3 a4 k5 hz hS => ?_)
      have a6 : f3 h = some (.inr (4, [.int kdq, .ref pa, .long wgq, .int wdq, .int nuq, .int hsq, .int bfq])) := (k5 _ (z_neO p0 p1 rfl)).trans p0
      exact z_vret C hr hz hS ⟨wgq, a6, a4, (by
            intro b e hb n0 n1
            have hb0 : f3 b = some e := (k5 b n1).trans hb
            exact hb0)⟩ (Nat.le_of_ble_eq_true rfl) (Nat.le_of_ble_eq_true rfl) dX4_hold_50
    · refine lv_aload_n hx hb dX4_hold_30 rfl (lv_at hl 0 rfl) ?_
      refine lv_dup hx hb dX4_hold_31 rfl ?_
      refine z_get (v := .long wgq) C hz p0 zl4 mFX4_32 (by decide) rfl dX4_hold_32 ?_
      refine lv_lconst (v := 1) hx hb dX4_hold_35 (by decide) ?_
      refine lv_ladd hx hb dX4_hold_36 ?_
      refine z_put (fs' := [.int kdq, .ref pa, .long (wgq + 1), .int wdq, .int nuq, .int hsq, .int bfq]) C hz hS p0 zl4 mFX4_32 (by decide) rfl rfl rfl (Nat.le_of_ble_eq_true rfl) rfl dX4_hold_37 (fun H locs f7 a8 k9 hz hS => ?_)
      refine lv_aload_n hx hb dX4_hold_40 rfl (lv_at hl 0 rfl) ?_
      refine z_get (v := .ref pa) C hz a8 zl4 mFX4_28 (by decide) rfl dX4_hold_41 ?_
      refine lv_iconst (v := 1) hx hb dX4_hold_44 (by decide) ?_
      refine lv_iload_n hx hb dX4_hold_45 rfl (lv_at hl 1 rfl) ?_
      refine lv_iadd hx hb dX4_hold_46 ?_
      refine lv_iload_n hx hb dX4_hold_47 rfl (lv_at hl 2 rfl) ?_
      refine lv_i2l (v := y.toInt64) hx hb dX4_hold_48 rfl ?_
      have a10 : f7 pa = some (.inl (cy 1, t, .inr (.inl gp))) := (k9 _ (z_neO p1 p0 rfl)).trans p1
      refine z_last (1 + j) C hz hS a10 (by rw [hxj]; exact nI_add 1 j) (by omega) (by omega) dX4_hold_49 (fun H locs f11 a12 k13 hz hS => ?_)
      have a14 : f11 h = some (.inr (4, [.int kdq, .ref pa, .long (wgq + 1), .int wdq, .int nuq, .int hsq, .int bfq])) := (k13 _ (z_neO a8 a10 rfl)).trans a8
      exact z_vret C hr hz hS ⟨(wgq + 1), a14, a12, (by
            intro b e hb n0 n1
            have hb0 : f7 b = some e := (k9 b n0).trans hb
            have hb1 : f11 b = some e := (k13 b n1).trans hb0
            exact hb1)⟩ (Nat.le_of_ble_eq_true rfl) (Nat.le_of_ble_eq_true rfl) dX4_hold_50
  · refine lv_aload_n hx hb dX4_hold_15 rfl (lv_at hl 0 rfl) ?_
    refine lv_dup hx hb dX4_hold_16 rfl ?_
    refine z_get (v := .long wgq) C hz p0 zl4 mFX4_32 (by decide) rfl dX4_hold_17 ?_
    refine lv_lconst (v := 1) hx hb dX4_hold_20 (by decide) ?_
    refine lv_lsub hx hb dX4_hold_21 ?_
    refine z_put (fs' := [.int kdq, .ref pa, .long (wgq - 1), .int wdq, .int nuq, .int hsq, .int bfq]) C hz hS p0 zl4 mFX4_32 (by decide) rfl rfl rfl (Nat.le_of_ble_eq_true rfl) rfl dX4_hold_22 (fun H locs f15 a16 k17 hz hS => ?_)
    refine lv_iload_n hx hb dX4_hold_25 rfl (lv_at hl 2 rfl) ?_
    refine lv_iconst (v := (-1)) hx hb dX4_hold_26 (by decide) ?_
    refine lv_icmp_eq (tgt := 40) hx hb dX4_hold_27 (by decide) (fun c18 => ?_) (fun c18 => ?_)
    · refine lv_aload_n hx hb dX4_hold_40 rfl (lv_at hl 0 rfl) ?_
      refine z_get (v := .ref pa) C hz a16 zl4 mFX4_28 (by decide) rfl dX4_hold_41 ?_
      refine lv_iconst (v := 1) hx hb dX4_hold_44 (by decide) ?_
      refine lv_iload_n hx hb dX4_hold_45 rfl (lv_at hl 1 rfl) ?_
      refine lv_iadd hx hb dX4_hold_46 ?_
      refine lv_iload_n hx hb dX4_hold_47 rfl (lv_at hl 2 rfl) ?_
      refine lv_i2l (v := y.toInt64) hx hb dX4_hold_48 rfl ?_
      have a19 : f15 pa = some (.inl (cy 1, t, .inr (.inl gp))) := (k17 _ (z_neO p1 p0 rfl)).trans p1
      refine z_last (1 + j) C hz hS a19 (by rw [hxj]; exact nI_add 1 j) (by omega) (by omega) dX4_hold_49 (fun H locs f20 a21 k22 hz hS => ?_)
      have a23 : f20 h = some (.inr (4, [.int kdq, .ref pa, .long (wgq - 1), .int wdq, .int nuq, .int hsq, .int bfq])) := (k22 _ (z_neO a16 a19 rfl)).trans a16
      exact z_vret C hr hz hS ⟨(wgq - 1), a23, a21, (by
            intro b e hb n0 n1
            have hb0 : f15 b = some e := (k17 b n0).trans hb
            have hb1 : f20 b = some e := (k22 b n1).trans hb0
            exact hb1)⟩ (Nat.le_of_ble_eq_true rfl) (Nat.le_of_ble_eq_true rfl) dX4_hold_50
    · refine lv_aload_n hx hb dX4_hold_30 rfl (lv_at hl 0 rfl) ?_
      refine lv_dup hx hb dX4_hold_31 rfl ?_
      refine z_get (v := .long (wgq - 1)) C hz a16 zl4 mFX4_32 (by decide) rfl dX4_hold_32 ?_
      refine lv_lconst (v := 1) hx hb dX4_hold_35 (by decide) ?_
      refine lv_ladd hx hb dX4_hold_36 ?_
      refine z_put (fs' := [.int kdq, .ref pa, .long ((wgq - 1) + 1), .int wdq, .int nuq, .int hsq, .int bfq]) C hz hS a16 zl4 mFX4_32 (by decide) rfl rfl rfl (Nat.le_of_ble_eq_true rfl) rfl dX4_hold_37 (fun H locs f24 a25 k26 hz hS => ?_)
      refine lv_aload_n hx hb dX4_hold_40 rfl (lv_at hl 0 rfl) ?_
      refine z_get (v := .ref pa) C hz a25 zl4 mFX4_28 (by decide) rfl dX4_hold_41 ?_
      refine lv_iconst (v := 1) hx hb dX4_hold_44 (by decide) ?_
      refine lv_iload_n hx hb dX4_hold_45 rfl (lv_at hl 1 rfl) ?_
      refine lv_iadd hx hb dX4_hold_46 ?_
      refine lv_iload_n hx hb dX4_hold_47 rfl (lv_at hl 2 rfl) ?_
      refine lv_i2l (v := y.toInt64) hx hb dX4_hold_48 rfl ?_
      have a27 : f15 pa = some (.inl (cy 1, t, .inr (.inl gp))) := (k17 _ (z_neO p1 p0 rfl)).trans p1
      have a28 : f24 pa = some (.inl (cy 1, t, .inr (.inl gp))) := (k26 _ (z_neO a27 a16 rfl)).trans a27
      refine z_last (1 + j) C hz hS a28 (by rw [hxj]; exact nI_add 1 j) (by omega) (by omega) dX4_hold_49 (fun H locs f29 a30 k31 hz hS => ?_)
      have a32 : f29 h = some (.inr (4, [.int kdq, .ref pa, .long ((wgq - 1) + 1), .int wdq, .int nuq, .int hsq, .int bfq])) := (k31 _ (z_neO a25 a28 rfl)).trans a25
      exact z_vret C hr hz hS ⟨((wgq - 1) + 1), a32, a30, (by
            intro b e hb n0 n1
            have hb0 : f15 b = some e := (k17 b n0).trans hb
            have hb1 : f24 b = some e := (k26 b n0).trans hb0
            have hb2 : f29 b = some e := (k31 b n1).trans hb1
            exact hb2)⟩ (Nat.le_of_ble_eq_true rfl) (Nat.le_of_ble_eq_true rfl) dX4_hold_50
abbrev rmX4_heavyWeight : Room := { frames := 1, cells := 0, slots := 0, locals := 21 }
set_option maxHeartbeats 4000000 in
set_option maxRecDepth 100000 in
theorem k_X4_heavyWeight (l : Launch) (D : va_G) (cy : Nat → ClassId) (f : zM) (h : Nat) (kdq : Int32) (pa : Nat) (wgq : Int64) (wdq : Int32) (nuq : Int32) (hsq : Int32) (bfq : Int32) (p0 : f h = some (.inr (4, [.int kdq, .ref pa, .long wgq, .int wdq, .int nuq, .int hsq, .int bfq])))   : zCl l D cy yX4_heavyWeight cX4_heavyWeight 3 (Option.some Jvm.ClassFile.FieldType.long) rmX4_heavyWeight [.ref h] f (fun (r : Int64) (f1 : zM) => (∀ (b : Nat) (e : va_E), f b = some e → f1 b = some e)) := by
  intro sz
  refine z_body (by decide +kernel) (Nat.le_of_ble_eq_true rfl) ?_
  intro p e s m below meth c ls C hr hin hsz hz hl
  subst hsz
  have hx := C.1
  have hb := C.2.1
  have hA : ∀ q, s.heap.size ≤ q → zA f s.heap.size q := fun q h => Or.inr h
  have hS : va_S (zA f s.heap.size) s.heap s.heap [] := va_S.rf
  have hl : lv_has ls 3 [(0, .ref h)] := hl
  refine lv_aload_n hx hb dX4_heavyWeight_0 rfl (lv_at hl 0 rfl) ?_
  refine z_get (v := .int kdq) C hz p0 zl4 mFX4_25 (by decide) rfl dX4_heavyWeight_1 ?_
  refine lv_iconst (v := 4) hx hb dX4_heavyWeight_4 (by decide) ?_
  refine lv_icmp_ne (tgt := 13) hx hb dX4_heavyWeight_5 (by decide) (fun c1 => ?_) (fun c1 => ?_)
  · refine lv_ldc2 (v := 2) hx hb C.2.2.2.1 (C.2.2.2.2.1 _ mKX4_38) dX4_heavyWeight_13 ?_
    refine lv_aload_n hx hb dX4_heavyWeight_16 rfl (lv_at hl 0 rfl) ?_
    refine z_get (v := .long wgq) C hz p0 zl4 mFX4_32 (by decide) rfl dX4_heavyWeight_17 ?_
    refine lv_lmul hx hb dX4_heavyWeight_20 ?_
    refine lv_lconst (v := 1) hx hb dX4_heavyWeight_21 (by decide) ?_
    refine lv_ladd hx hb dX4_heavyWeight_22 ?_
    refine lv_lstore_n (lv' := [(1, .long ((2 * wgq) + 1)), (0, .ref h)]) hx hb dX4_heavyWeight_23 rfl hl (by decide) rfl (fun ls hl => ?_)
    refine lv_aload_n hx hb dX4_heavyWeight_24 rfl (lv_at hl 1 rfl) ?_
    refine lv_iconst (v := 1) hx hb dX4_heavyWeight_25 (by decide) ?_
    refine z_callVi (As := [.int 1]) C hz hS hA hl (k_X4_isOf l D cy f h kdq pa wgq wdq nuq hsq bfq 1 p0 ) zyX4_isOf mMX4_40 p0 zl4 rfl rfl (Nat.le_of_ble_eq_true rfl) ⟨Nat.le_of_ble_eq_true rfl, Nat.le_of_ble_eq_true rfl⟩ ⟨Nat.le_of_ble_eq_true rfl, Nat.le_of_ble_eq_true rfl⟩ dX4_heavyWeight_26 (fun r f2 H locs h3 hz hS => ?_)
    obtain ⟨rfl, k4⟩ := h3
    refine lv_if_eq (tgt := 40) hx hb dX4_heavyWeight_29 (by decide) (fun c5 => ?_) (fun c5 => ?_)
    · refine lv_lload_n hx hb dX4_heavyWeight_40 rfl (lv_at hl 0 rfl) ?_
      exact z_lret C hr hz hS (by
            intro b e hb 
            have hb0 : f2 b = some e := k4 b e hb 
            exact hb0) (Nat.le_of_ble_eq_true rfl) (Nat.le_of_ble_eq_true rfl) dX4_heavyWeight_41
    · refine lv_ldc2 (v := 3) hx hb C.2.2.2.1 (C.2.2.2.2.1 _ mKX4_44) dX4_heavyWeight_32 ?_
      refine lv_lload_n hx hb dX4_heavyWeight_35 rfl (lv_at hl 0 rfl) ?_
      refine lv_lmul hx hb dX4_heavyWeight_36 ?_
      refine lv_goto (tgt := 41) hx hb dX4_heavyWeight_37 (by decide) ?_
      exact z_lret C hr hz hS (by
            intro b e hb 
            have hb0 : f2 b = some e := k4 b e hb 
            exact hb0) (Nat.le_of_ble_eq_true rfl) (Nat.le_of_ble_eq_true rfl) dX4_heavyWeight_41
  · refine lv_aload_n hx hb dX4_heavyWeight_8 rfl (lv_at hl 0 rfl) ?_
    refine z_get (v := .long wgq) C hz p0 zl4 mFX4_32 (by decide) rfl dX4_heavyWeight_9 ?_
    exact z_lret C hr hz hS (fun b e hb => hb) (Nat.le_of_ble_eq_true rfl) (Nat.le_of_ble_eq_true rfl) dX4_heavyWeight_12
abbrev rmX1_append : Room := { frames := 0, cells := 0, slots := 0, locals := 0 }
set_option maxHeartbeats 4000000 in
set_option maxRecDepth 100000 in
theorem k_X1_append (l : Launch) (D : va_G) (cy : Nat → ClassId) (f : zM) (h : Nat) (mm : Nat) (z : Nat) (g : Nat → Int32) (x : Int32) (p0 : f h = some (.inr (1, [.ref mm, .int (nI z)]))) (p1 : f mm = some (.inl (cy 0, 60, .inl g)))  (hz60 : z < 60) : zCv l D cy yX1_append cX1_append 2 none rmX1_append [.ref h, .int x] f (fun (f1 : zM) => f1 h = some (.inr (1, [.ref mm, .int (nI (z + 1))])) ∧ f1 mm = some (.inl (cy 0, 60, .inl (upd g z x))) ∧ (∀ (b : Nat) (e : va_E), f b = some e → b ≠ h → b ≠ mm → f1 b = some e)) := by
  intro sz
  refine z_body (by decide +kernel) (Nat.le_of_ble_eq_true rfl) ?_
  intro p e s m below meth c ls C hr hin hsz hz hl
  subst hsz
  have hx := C.1
  have hb := C.2.1
  have hA : ∀ q, s.heap.size ≤ q → zA f s.heap.size q := fun q h => Or.inr h
  have hS : va_S (zA f s.heap.size) s.heap s.heap [] := va_S.rf
  have hl : lv_has ls 2 [(0, .ref h), (1, .int x)] := hl
  refine lv_aload_n hx hb dX1_append_0 rfl (lv_at hl 0 rfl) ?_
  refine z_get (v := .ref mm) C hz p0 zl1 mFX1_9 (by decide) rfl dX1_append_1 ?_
  refine lv_aload_n hx hb dX1_append_4 rfl (lv_at hl 0 rfl) ?_
  refine z_get (v := .int (nI z)) C hz p0 zl1 mFX1_15 (by decide) rfl dX1_append_5 ?_
  refine lv_iload_n hx hb dX1_append_8 rfl (lv_at hl 1 rfl) ?_
  refine z_iast z C hz hS p1 rfl (by omega) (by omega) dX1_append_9 (fun H locs f1 a2 k3 hz hS => ?_)
  refine lv_aload_n hx hb dX1_append_10 rfl (lv_at hl 0 rfl) ?_
  refine lv_dup hx hb dX1_append_11 rfl ?_
  have a4 : f1 h = some (.inr (1, [.ref mm, .int (nI z)])) := (k3 _ (z_ne p0 p1 rfl)).trans p0
  refine z_get (v := .int (nI z)) C hz a4 zl1 mFX1_15 (by decide) rfl dX1_append_12 ?_
  refine lv_iconst (v := 1) hx hb dX1_append_15 (by decide) ?_
  refine lv_iadd hx hb dX1_append_16 ?_
  refine lv_topi (fun y5 e6 => ?_)
  obtain rfl : y5 = nI (z + 1) := e6.trans (nI_1 z)
  refine z_put (fs' := [.ref mm, .int (nI (z + 1))]) C hz hS a4 zl1 mFX1_15 (by decide) rfl rfl rfl (Nat.le_of_ble_eq_true rfl) rfl dX1_append_17 (fun H locs f7 a8 k9 hz hS => ?_)
  have a10 : f7 mm = some (.inl (cy 0, 60, .inl (upd g z x))) := (k9 _ (z_ne a2 a4 rfl)).trans a2
  exact z_vret C hr hz hS ⟨a8, a10, (by
        intro b e hb n0 n1
        have hb0 : f1 b = some e := (k3 b n1).trans hb
        have hb1 : f7 b = some e := (k9 b n0).trans hb0
        exact hb1)⟩ (Nat.le_of_ble_eq_true rfl) (Nat.le_of_ble_eq_true rfl) dX1_append_20
theorem z_rms {g gv : Nat → Int32} {i p : Nat} (h : ∀ k, gv k = if p ≤ k ∧ k < i then g (k + 1) else g k) (hp : p ≤ i) : ∀ k, upd gv i (gv (i + 1)) k = if p ≤ k ∧ k < i + 1 then g (k + 1) else g k := by
  intro k
  by_cases hk : k = i
  · subst hk
    rw [pk_us, h (k + 1), if_neg (by omega), if_pos (by omega)]
  · rw [pk_un hk, h k]
    by_cases hc : p ≤ k ∧ k < i
    · rw [if_pos hc, if_pos (by omega)]
    · rw [if_neg hc, if_neg (by omega)]
abbrev rmX1_remove : Room := { frames := 0, cells := 0, slots := 0, locals := 0 }
set_option maxHeartbeats 4000000 in
set_option maxRecDepth 100000 in
theorem k_X1_remove (l : Launch) (D : va_G) (cy : Nat → ClassId) (f : zM) (h : Nat) (mm : Nat) (z : Nat) (g : Nat → Int32) (x : Int32) (w : Nat) (p0 : f h = some (.inr (1, [.ref mm, .int (nI z)]))) (p1 : f mm = some (.inl (cy 0, 60, .inl g)))  (hxp : x = nI w) (hpz : w < z) (hz60 : z ≤ 60) : zCv l D cy yX1_remove cX1_remove 3 none rmX1_remove [.ref h, .int x] f (fun (f1 : zM) => ∃ (g1 : Nat → Int32), (∀ k, g1 k = if w ≤ k ∧ k < z - 1 then g (k + 1) else g k) ∧ f1 h = some (.inr (1, [.ref mm, .int (nI (z - 1))])) ∧ f1 mm = some (.inl (cy 0, 60, .inl g1)) ∧ (∀ (b : Nat) (e : va_E), f b = some e → b ≠ h → b ≠ mm → f1 b = some e)) := by
  intro sz
  refine z_body (by decide +kernel) (Nat.le_of_ble_eq_true rfl) ?_
  intro p e s m below meth c ls C hr hin hsz hz hl
  subst hsz
  have hx := C.1
  have hb := C.2.1
  have hA : ∀ q, s.heap.size ≤ q → zA f s.heap.size q := fun q h => Or.inr h
  have hS : va_S (zA f s.heap.size) s.heap s.heap [] := va_S.rf
  have hl : lv_has ls 3 [(0, .ref h), (1, .int x)] := hl
  refine lv_aload_n hx hb dX1_remove_0 rfl (lv_at hl 0 rfl) ?_
  refine lv_dup hx hb dX1_remove_1 rfl ?_
  refine z_get (v := .int (nI z)) C hz p0 zl1 mFX1_15 (by decide) rfl dX1_remove_2 ?_
  refine lv_iconst (v := 1) hx hb dX1_remove_5 (by decide) ?_
  refine lv_isub hx hb dX1_remove_6 ?_
  refine lv_topi (fun y1 e2 => ?_)
  obtain rfl : y1 = nI (z - 1) := e2.trans (pk_sub (a := z) (b := 1) (by omega))
  refine z_put (fs' := [.ref mm, .int (nI (z - 1))]) C hz hS p0 zl1 mFX1_15 (by decide) rfl rfl rfl (Nat.le_of_ble_eq_true rfl) rfl dX1_remove_7 (fun H locs f3 a4 k5 hz hS => ?_)
  refine lv_iload_n hx hb dX1_remove_10 rfl (lv_at hl 1 rfl) ?_
  refine lv_topi (fun y6 e7 => ?_)
  obtain rfl : y6 = nI w := e7.trans hxp
  refine lv_istore_n (lv' := [(2, .int (nI w)), (0, .ref h), (1, .int x)]) hx hb dX1_remove_11 rfl hl (by decide) rfl (fun ls hl => ?_)
  have lp8 : ∀ (n : Nat) (i : Nat) (gv : Nat → Int32) (fL9 : zM) (H : Heap) (locs : List Loc) (ls : Array Slot), (z - i) < n → (w ≤ i) → (i ≤ z - 1) → (∀ k, gv k = if w ≤ k ∧ k < i then g (k + 1) else g k) → fL9 h = some (.inr (1, [.ref mm, .int (nI (z - 1))])) → fL9 mm = some (.inl (cy 0, 60, .inl gv)) → (∀ (b : Nat) (e : va_E), f3 b = some e → b ≠ h → b ≠ mm → fL9 b = some e) → zH D (zA f s.heap.size) fL9 H → va_S (zA f s.heap.size) s.heap H locs → lv_has ls 3 [(0, .ref h), (2, .int (nI i))] → W p l e rmX1_remove s m ([.ref h, .int x] : List Value).toArray below meth c H locs 0 0 (MQ below (va_Qv (fun (f1 : zM) => ∃ (g1 : Nat → Int32), (∀ k, g1 k = if w ≤ k ∧ k < z - 1 then g (k + 1) else g k) ∧ f1 h = some (.inr (1, [.ref mm, .int (nI (z - 1))])) ∧ f1 mm = some (.inl (cy 0, 60, .inl g1)) ∧ (∀ (b : Nat) (e : va_E), f b = some e → b ≠ h → b ≠ mm → f1 b = some e)) (zB D f s.heap.size) (zA f s.heap.size)) ([.ref h, .int x] : List Value).toArray s rmX1_remove.cells rmX1_remove.slots (zA f s.heap.size)) (F0 m 12 ls []) := by
    intro n
    induction n with
    | zero => intro i gv fL9 H locs ls hmz; exact absurd hmz (Nat.not_lt_zero _)
    | succ n ih =>
      intro i gv fL9 H locs ls hmz hpi hi hgv a11 a12 k10 hz hS hl
      refine lv_iload_n hx hb dX1_remove_12 rfl (lv_at hl 1 rfl) ?_
      refine lv_aload_n hx hb dX1_remove_13 rfl (lv_at hl 0 rfl) ?_
      refine z_get (v := .int (nI (z - 1))) C hz a11 zl1 mFX1_15 (by decide) rfl dX1_remove_14 ?_
      refine lv_icmp_ge (tgt := 40) hx hb dX1_remove_17 (by decide) (fun c13 => ?_) (fun c13 => ?_)
      · replace c13 : (z - 1 ≤ i) := (nI_leI (a := z - 1) (b := i) (by omega) (by omega)).mp c13
        exact z_vret C hr hz hS ⟨gv, (by obtain rfl : i = z - 1 := (by omega); exact hgv), a11, a12, (by
              intro b e hb n0 n1
              have hb0 : f3 b = some e := (k5 b n0).trans hb
              have hb1 : fL9 b = some e := k10 b e hb0 n0 n1
              exact hb1)⟩ (Nat.le_of_ble_eq_true rfl) (Nat.le_of_ble_eq_true rfl) dX1_remove_40
      · replace c13 : ¬ (z - 1 ≤ i) := fun h => c13 ((nI_leI (a := z - 1) (b := i) (by omega) (by omega)).mpr h)
        refine lv_aload_n hx hb dX1_remove_20 rfl (lv_at hl 0 rfl) ?_
        refine z_get (v := .ref mm) C hz a11 zl1 mFX1_9 (by decide) rfl dX1_remove_21 ?_
        refine lv_iload_n hx hb dX1_remove_24 rfl (lv_at hl 1 rfl) ?_
        refine lv_aload_n hx hb dX1_remove_25 rfl (lv_at hl 0 rfl) ?_
        refine z_get (v := .ref mm) C hz a11 zl1 mFX1_9 (by decide) rfl dX1_remove_26 ?_
        refine lv_iload_n hx hb dX1_remove_29 rfl (lv_at hl 1 rfl) ?_
        refine lv_iconst (v := 1) hx hb dX1_remove_30 (by decide) ?_
        refine lv_iadd hx hb dX1_remove_31 ?_
        refine lv_topi (fun y14 e15 => ?_)
        obtain rfl : y14 = nI (i + 1) := e15.trans (nI_1 i)
        refine z_iald (i + 1) C hz a12 rfl (by omega) (by omega) dX1_remove_32 ?_
        refine z_iast i C hz hS a12 rfl (by omega) (by omega) dX1_remove_33 (fun H locs f16 a17 k18 hz hS => ?_)
        refine lv_iinc (v := nI (i + 1)) (lv' := [(2, .int (nI (i + 1))), (0, .ref h)]) hx hb dX1_remove_34 hl (k := 1) rfl (nI_1 i) (by decide) rfl (fun ls hl => ?_)
        refine lv_goto (tgt := 12) hx hb dX1_remove_37 (by decide) ?_
        have a19 : f16 h = some (.inr (1, [.ref mm, .int (nI (z - 1))])) := (k18 _ (z_ne a11 a12 rfl)).trans a11
        exact ih (i + 1) (upd gv i (gv (i + 1))) _ _ _ _ (by omega) (by omega) (by omega) (z_rms hgv hpi) a19 a17 (by
              intro b e hb n0 n1
              have hb1 : fL9 b = some e := k10 b e hb n0 n1
              have hb2 : f16 b = some e := (k18 b n1).trans hb1
              exact hb2) hz hS (lv_sub hl [1, 0] rfl)
  have a20 : f3 mm = some (.inl (cy 0, 60, .inl g)) := (k5 _ (z_ne p1 p0 rfl)).trans p1
  exact lp8 (z - w + 1) w g _ _ _ _ (Nat.lt_succ_self _) (by omega) (by omega) (fun k => by rw [if_neg (by omega)]) a4 a20 (fun b e hb n0 n1 => hb) hz hS (lv_sub hl [1, 0] rfl)
abbrev rmX1_placeOf : Room := { frames := 0, cells := 0, slots := 0, locals := 0 }
set_option maxHeartbeats 4000000 in
set_option maxRecDepth 100000 in
theorem k_X1_placeOf (l : Launch) (D : va_G) (cy : Nat → ClassId) (f : zM) (h : Nat) (mm : Nat) (z : Nat) (g : Nat → Int32) (x : Int32) (p0 : f h = some (.inr (1, [.ref mm, .int (nI z)]))) (p1 : f mm = some (.inl (cy 0, 60, .inl g)))  (hz60 : z ≤ 60) : zCi l D cy yX1_placeOf cX1_placeOf 3 (Option.some Jvm.ClassFile.FieldType.int) rmX1_placeOf [.ref h, .int x] f (fun (r : Int32) (f1 : zM) => ((∃ k, k < z ∧ r = nI k ∧ g k = x ∧ ∀ j, j < k → g j ≠ x) ∨ (r = (-1) ∧ ∀ k, k < z → g k ≠ x)) ∧ (∀ (b : Nat) (e : va_E), f b = some e → f1 b = some e)) := by
  intro sz
  refine z_body (by decide +kernel) (Nat.le_of_ble_eq_true rfl) ?_
  intro p e s m below meth c ls C hr hin hsz hz hl
  subst hsz
  have hx := C.1
  have hb := C.2.1
  have hA : ∀ q, s.heap.size ≤ q → zA f s.heap.size q := fun q h => Or.inr h
  have hS : va_S (zA f s.heap.size) s.heap s.heap [] := va_S.rf
  have hl : lv_has ls 3 [(0, .ref h), (1, .int x)] := hl
  refine lv_iconst (v := 0) hx hb dX1_placeOf_0 (by decide) ?_
  refine lv_istore_n (lv' := [(2, .int 0), (0, .ref h), (1, .int x)]) hx hb dX1_placeOf_1 rfl hl (by decide) rfl (fun ls hl => ?_)
  have lp1 : ∀ (n : Nat) (i : Nat) (fL2 : zM) (H : Heap) (locs : List Loc) (ls : Array Slot), (z - i) < n → (i ≤ z) → (∀ j, j < i → g j ≠ x) → fL2 h = some (.inr (1, [.ref mm, .int (nI z)])) → fL2 mm = some (.inl (cy 0, 60, .inl g)) → (∀ (b : Nat) (e : va_E), f b = some e → fL2 b = some e) → zH D (zA f s.heap.size) fL2 H → va_S (zA f s.heap.size) s.heap H locs → lv_has ls 3 [(0, .ref h), (1, .int x), (2, .int (nI i))] → W p l e rmX1_placeOf s m ([.ref h, .int x] : List Value).toArray below meth c H locs 0 0 (MQ below (va_Qi (fun (r : Int32) (f1 : zM) => ((∃ k, k < z ∧ r = nI k ∧ g k = x ∧ ∀ j, j < k → g j ≠ x) ∨ (r = (-1) ∧ ∀ k, k < z → g k ≠ x)) ∧ (∀ (b : Nat) (e : va_E), f b = some e → f1 b = some e)) (zB D f s.heap.size) (zA f s.heap.size)) ([.ref h, .int x] : List Value).toArray s rmX1_placeOf.cells rmX1_placeOf.slots (zA f s.heap.size)) (F0 m 2 ls []) := by
    intro n
    induction n with
    | zero => intro i fL2 H locs ls hmz; exact absurd hmz (Nat.not_lt_zero _)
    | succ n ih =>
      intro i fL2 H locs ls hmz hi hne a4 a5 k3 hz hS hl
      refine lv_iload_n hx hb dX1_placeOf_2 rfl (lv_at hl 2 rfl) ?_
      refine lv_aload_n hx hb dX1_placeOf_3 rfl (lv_at hl 0 rfl) ?_
      refine z_get (v := .int (nI z)) C hz a4 zl1 mFX1_15 (by decide) rfl dX1_placeOf_4 ?_
      refine lv_icmp_ge (tgt := 28) hx hb dX1_placeOf_7 (by decide) (fun c6 => ?_) (fun c6 => ?_)
      · replace c6 : (z ≤ i) := (nI_leI (a := z) (b := i) (by omega) (by omega)).mp c6
        refine lv_iconst (v := (-1)) hx hb dX1_placeOf_28 (by decide) ?_
        exact z_iret C hr rfl hz hS ⟨(Or.inr ⟨rfl, fun k hk => hne k (by omega)⟩), (by
              intro b e hb 
              have hb0 : fL2 b = some e := k3 b e hb 
              exact hb0)⟩ (Nat.le_of_ble_eq_true rfl) (Nat.le_of_ble_eq_true rfl) dX1_placeOf_29
      · replace c6 : ¬ (z ≤ i) := fun h => c6 ((nI_leI (a := z) (b := i) (by omega) (by omega)).mpr h)
        refine lv_aload_n hx hb dX1_placeOf_10 rfl (lv_at hl 0 rfl) ?_
        refine z_get (v := .ref mm) C hz a4 zl1 mFX1_9 (by decide) rfl dX1_placeOf_11 ?_
        refine lv_iload_n hx hb dX1_placeOf_14 rfl (lv_at hl 2 rfl) ?_
        refine z_iald i C hz a5 rfl (by omega) (by omega) dX1_placeOf_15 ?_
        refine lv_iload_n hx hb dX1_placeOf_16 rfl (lv_at hl 1 rfl) ?_
        refine lv_icmp_ne (tgt := 22) hx hb dX1_placeOf_17 (by decide) (fun c7 => ?_) (fun c7 => ?_)
        · refine lv_iinc (v := nI (i + 1)) (lv' := [(2, .int (nI (i + 1))), (0, .ref h), (1, .int x)]) hx hb dX1_placeOf_22 hl (k := 2) rfl (nI_1 i) (by decide) rfl (fun ls hl => ?_)
          refine lv_goto (tgt := 2) hx hb dX1_placeOf_25 (by decide) ?_
          exact ih (i + 1) _ _ _ _ (by omega) (by omega) (fun j hj => (Nat.lt_succ_iff_lt_or_eq.mp hj).elim (hne j) (fun q => q ▸ c7)) a4 a5 (by
                intro b e hb 
                have hb0 : fL2 b = some e := k3 b e hb 
                exact hb0) hz hS (lv_sub hl [1, 2, 0] rfl)
        · refine lv_iload_n hx hb dX1_placeOf_20 rfl (lv_at hl 2 rfl) ?_
          exact z_iret C hr rfl hz hS ⟨(Or.inl ⟨i, by omega, rfl, c7, hne⟩), (by
                intro b e hb 
                have hb0 : fL2 b = some e := k3 b e hb 
                exact hb0)⟩ (Nat.le_of_ble_eq_true rfl) (Nat.le_of_ble_eq_true rfl) dX1_placeOf_21
  exact lp1 (z - 0 + 1) 0 _ _ _ _ (Nat.lt_succ_self _) (by omega) (fun j hj => absurd hj (Nat.not_lt_zero j)) p0 p1 (fun b e hb => hb) hz hS (lv_sub hl [1, 2, 0] rfl)
abbrev rmX1_exchange : Room := { frames := 0, cells := 0, slots := 0, locals := 0 }
set_option maxHeartbeats 4000000 in
set_option maxRecDepth 100000 in
theorem k_X1_exchange (l : Launch) (D : va_G) (cy : Nat → ClassId) (f : zM) (h : Nat) (mm : Nat) (z : Nat) (g : Nat → Int32) (x : Int32) (y : Int32) (ia : Nat) (ib : Nat) (p0 : f h = some (.inr (1, [.ref mm, .int (nI z)]))) (p1 : f mm = some (.inl (cy 0, 60, .inl g)))  (hxa : x = nI ia) (hyb : y = nI ib) (ha60 : ia < 60) (hb60 : ib < 60) : zCv l D cy yX1_exchange cX1_exchange 4 none rmX1_exchange [.ref h, .int x, .int y] f (fun (f1 : zM) => f1 mm = some (.inl (cy 0, 60, .inl (upd (upd g ia (g ib)) ib (g ia)))) ∧ (∀ (b : Nat) (e : va_E), f b = some e → b ≠ mm → f1 b = some e)) := by
  intro sz
  refine z_body (by decide +kernel) (Nat.le_of_ble_eq_true rfl) ?_
  intro p e s m below meth c ls C hr hin hsz hz hl
  subst hsz
  have hx := C.1
  have hb := C.2.1
  have hA : ∀ q, s.heap.size ≤ q → zA f s.heap.size q := fun q h => Or.inr h
  have hS : va_S (zA f s.heap.size) s.heap s.heap [] := va_S.rf
  have hl : lv_has ls 4 [(0, .ref h), (1, .int x), (2, .int y)] := hl
  refine lv_aload_n hx hb dX1_exchange_0 rfl (lv_at hl 0 rfl) ?_
  refine z_get (v := .ref mm) C hz p0 zl1 mFX1_9 (by decide) rfl dX1_exchange_1 ?_
  refine lv_iload_n hx hb dX1_exchange_4 rfl (lv_at hl 1 rfl) ?_
  refine z_iald ia C hz p1 hxa ha60 (by omega) dX1_exchange_5 ?_
  refine lv_istore_n (lv' := [(3, .int (g ia)), (0, .ref h), (1, .int x), (2, .int y)]) hx hb dX1_exchange_6 rfl hl (by decide) rfl (fun ls hl => ?_)
  refine lv_aload_n hx hb dX1_exchange_7 rfl (lv_at hl 1 rfl) ?_
  refine z_get (v := .ref mm) C hz p0 zl1 mFX1_9 (by decide) rfl dX1_exchange_8 ?_
  refine lv_iload_n hx hb dX1_exchange_11 rfl (lv_at hl 2 rfl) ?_
  refine lv_aload_n hx hb dX1_exchange_12 rfl (lv_at hl 1 rfl) ?_
  refine z_get (v := .ref mm) C hz p0 zl1 mFX1_9 (by decide) rfl dX1_exchange_13 ?_
  refine lv_iload_n hx hb dX1_exchange_16 rfl (lv_at hl 3 rfl) ?_
  refine z_iald ib C hz p1 hyb hb60 (by omega) dX1_exchange_17 ?_
  refine z_iast ia C hz hS p1 hxa ha60 (by omega) dX1_exchange_18 (fun H locs f1 a2 k3 hz hS => ?_)
  refine lv_aload_n hx hb dX1_exchange_19 rfl (lv_at hl 1 rfl) ?_
  have a4 : f1 h = some (.inr (1, [.ref mm, .int (nI z)])) := (k3 _ (z_ne p0 p1 rfl)).trans p0
  refine z_get (v := .ref mm) C hz a4 zl1 mFX1_9 (by decide) rfl dX1_exchange_20 ?_
  refine lv_iload_n hx hb dX1_exchange_23 rfl (lv_at hl 3 rfl) ?_
  refine lv_iload_n hx hb dX1_exchange_24 rfl (lv_at hl 0 rfl) ?_
  refine z_iast ib C hz hS a2 hyb hb60 (by omega) dX1_exchange_25 (fun H locs f5 a6 k7 hz hS => ?_)
  exact z_vret C hr hz hS ⟨a6, (by
        intro b e hb n0
        have hb0 : f1 b = some e := (k3 b n0).trans hb
        have hb1 : f5 b = some e := (k7 b n0).trans hb0
        exact hb1)⟩ (Nat.le_of_ble_eq_true rfl) (Nat.le_of_ble_eq_true rfl) dX1_exchange_26
abbrev rmX6_placeOf : Room := { frames := 0, cells := 0, slots := 0, locals := 0 }
set_option maxHeartbeats 4000000 in
set_option maxRecDepth 100000 in
theorem k_X6_placeOf (l : Launch) (D : va_G) (cy : Nat → ClassId) (f : zM) (h : Nat) (kn : Nat) (vq : Nat) (z : Nat) (g : Nat → Int32) (x : Int32) (p0 : f h = some (.inr (6, [.ref kn, .ref vq, .int (nI z)]))) (p1 : f kn = some (.inl (cy 0, 40, .inl g)))  (hz60 : z ≤ 40) : zCi l D cy yX6_placeOf cX6_placeOf 3 (Option.some Jvm.ClassFile.FieldType.int) rmX6_placeOf [.ref h, .int x] f (fun (r : Int32) (f1 : zM) => ((∃ k, k < z ∧ r = nI k ∧ g k = x ∧ ∀ j, j < k → g j ≠ x) ∨ (r = (-1) ∧ ∀ k, k < z → g k ≠ x)) ∧ (∀ (b : Nat) (e : va_E), f b = some e → f1 b = some e)) := by
  intro sz
  refine z_body (by decide +kernel) (Nat.le_of_ble_eq_true rfl) ?_
  intro p e s m below meth c ls C hr hin hsz hz hl
  subst hsz
  have hx := C.1
  have hb := C.2.1
  have hA : ∀ q, s.heap.size ≤ q → zA f s.heap.size q := fun q h => Or.inr h
  have hS : va_S (zA f s.heap.size) s.heap s.heap [] := va_S.rf
  have hl : lv_has ls 3 [(0, .ref h), (1, .int x)] := hl
  refine lv_iconst (v := 0) hx hb dX6_placeOf_0 (by decide) ?_
  refine lv_istore_n (lv' := [(2, .int 0), (0, .ref h), (1, .int x)]) hx hb dX6_placeOf_1 rfl hl (by decide) rfl (fun ls hl => ?_)
  have lp1 : ∀ (n : Nat) (i : Nat) (fL2 : zM) (H : Heap) (locs : List Loc) (ls : Array Slot), (z - i) < n → (i ≤ z) → (∀ j, j < i → g j ≠ x) → fL2 h = some (.inr (6, [.ref kn, .ref vq, .int (nI z)])) → fL2 kn = some (.inl (cy 0, 40, .inl g)) → (∀ (b : Nat) (e : va_E), f b = some e → fL2 b = some e) → zH D (zA f s.heap.size) fL2 H → va_S (zA f s.heap.size) s.heap H locs → lv_has ls 3 [(0, .ref h), (1, .int x), (2, .int (nI i))] → W p l e rmX6_placeOf s m ([.ref h, .int x] : List Value).toArray below meth c H locs 0 0 (MQ below (va_Qi (fun (r : Int32) (f1 : zM) => ((∃ k, k < z ∧ r = nI k ∧ g k = x ∧ ∀ j, j < k → g j ≠ x) ∨ (r = (-1) ∧ ∀ k, k < z → g k ≠ x)) ∧ (∀ (b : Nat) (e : va_E), f b = some e → f1 b = some e)) (zB D f s.heap.size) (zA f s.heap.size)) ([.ref h, .int x] : List Value).toArray s rmX6_placeOf.cells rmX6_placeOf.slots (zA f s.heap.size)) (F0 m 2 ls []) := by
    intro n
    induction n with
    | zero => intro i fL2 H locs ls hmz; exact absurd hmz (Nat.not_lt_zero _)
    | succ n ih =>
      intro i fL2 H locs ls hmz hi hne a4 a5 k3 hz hS hl
      refine lv_iload_n hx hb dX6_placeOf_2 rfl (lv_at hl 2 rfl) ?_
      refine lv_aload_n hx hb dX6_placeOf_3 rfl (lv_at hl 0 rfl) ?_
      refine z_get (v := .int (nI z)) C hz a4 zl6 mFX6_18 (by decide) rfl dX6_placeOf_4 ?_
      refine lv_icmp_ge (tgt := 28) hx hb dX6_placeOf_7 (by decide) (fun c6 => ?_) (fun c6 => ?_)
      · replace c6 : (z ≤ i) := (nI_leI (a := z) (b := i) (by omega) (by omega)).mp c6
        refine lv_iconst (v := (-1)) hx hb dX6_placeOf_28 (by decide) ?_
        exact z_iret C hr rfl hz hS ⟨(Or.inr ⟨rfl, fun k hk => hne k (by omega)⟩), (by
              intro b e hb 
              have hb0 : fL2 b = some e := k3 b e hb 
              exact hb0)⟩ (Nat.le_of_ble_eq_true rfl) (Nat.le_of_ble_eq_true rfl) dX6_placeOf_29
      · replace c6 : ¬ (z ≤ i) := fun h => c6 ((nI_leI (a := z) (b := i) (by omega) (by omega)).mpr h)
        refine lv_aload_n hx hb dX6_placeOf_10 rfl (lv_at hl 0 rfl) ?_
        refine z_get (v := .ref kn) C hz a4 zl6 mFX6_11 (by decide) rfl dX6_placeOf_11 ?_
        refine lv_iload_n hx hb dX6_placeOf_14 rfl (lv_at hl 2 rfl) ?_
        refine z_iald i C hz a5 rfl (by omega) (by omega) dX6_placeOf_15 ?_
        refine lv_iload_n hx hb dX6_placeOf_16 rfl (lv_at hl 1 rfl) ?_
        refine lv_icmp_ne (tgt := 22) hx hb dX6_placeOf_17 (by decide) (fun c7 => ?_) (fun c7 => ?_)
        · refine lv_iinc (v := nI (i + 1)) (lv' := [(2, .int (nI (i + 1))), (0, .ref h), (1, .int x)]) hx hb dX6_placeOf_22 hl (k := 2) rfl (nI_1 i) (by decide) rfl (fun ls hl => ?_)
          refine lv_goto (tgt := 2) hx hb dX6_placeOf_25 (by decide) ?_
          exact ih (i + 1) _ _ _ _ (by omega) (by omega) (fun j hj => (Nat.lt_succ_iff_lt_or_eq.mp hj).elim (hne j) (fun q => q ▸ c7)) a4 a5 (by
                intro b e hb 
                have hb0 : fL2 b = some e := k3 b e hb 
                exact hb0) hz hS (lv_sub hl [1, 2, 0] rfl)
        · refine lv_iload_n hx hb dX6_placeOf_20 rfl (lv_at hl 2 rfl) ?_
          exact z_iret C hr rfl hz hS ⟨(Or.inl ⟨i, by omega, rfl, c7, hne⟩), (by
                intro b e hb 
                have hb0 : fL2 b = some e := k3 b e hb 
                exact hb0)⟩ (Nat.le_of_ble_eq_true rfl) (Nat.le_of_ble_eq_true rfl) dX6_placeOf_21
  exact lp1 (z - 0 + 1) 0 _ _ _ _ (Nat.lt_succ_self _) (by omega) (fun j hj => absurd hj (Nat.not_lt_zero j)) p0 p1 (fun b e hb => hb) hz hS (lv_sub hl [1, 2, 0] rfl)
theorem z_nim1a {j : Nat} (hj : j < 2 ^ 31) : ¬ nI j = (-1) := by
  intro h
  have h2 : (nI j).toInt = (-1 : Int32).toInt := by rw [h]
  rw [nI_toInt hj] at h2
  have e1 : (-1 : Int32).toInt = -1 := by decide
  rw [e1] at h2
  omega
abbrev rmX6_store : Room := { frames := 1, cells := 0, slots := 0, locals := 22 }
set_option maxHeartbeats 4000000 in
set_option maxRecDepth 100000 in
theorem k_X6_store (l : Launch) (D : va_G) (cy : Nat → ClassId) (f : zM) (h : Nat) (kn : Nat) (vq : Nat) (z : Nat) (g : Nat → Int32) (gv : Nat → Int32) (x : Int32) (y : Int32) (p0 : f h = some (.inr (6, [.ref kn, .ref vq, .int (nI z)]))) (p1 : f kn = some (.inl (cy 0, 40, .inl g))) (p2 : f vq = some (.inl (cy 0, 40, .inl gv)))  (hz40 : z ≤ 40) (kne : kn ≠ vq) : zCi l D cy yX6_store cX6_store 4 (Option.some Jvm.ClassFile.FieldType.int) rmX6_store [.ref h, .int x, .int y] f (fun (r : Int32) (f1 : zM) => ∃ (z1 : Nat) (g1 : Nat → Int32) (gv1 : Nat → Int32), (z1 ≤ 40) ∧ ((∃ i, i < z ∧ g i = x ∧ (∀ j, j < i → g j ≠ x) ∧ r = 1 ∧ z1 = z ∧ g1 = g ∧ gv1 = upd gv i y) ∨ ((∀ i, i < z → g i ≠ x) ∧ ((z < 40 ∧ r = 0 ∧ z1 = z + 1 ∧ g1 = upd g z x ∧ gv1 = upd gv z y) ∨ (¬ z < 40 ∧ r = (-3) ∧ z1 = z ∧ g1 = g ∧ gv1 = gv)))) ∧ f1 h = some (.inr (6, [.ref kn, .ref vq, .int (nI z1)])) ∧ f1 kn = some (.inl (cy 0, 40, .inl g1)) ∧ f1 vq = some (.inl (cy 0, 40, .inl gv1)) ∧ (∀ (b : Nat) (e : va_E), f b = some e → b ≠ h → b ≠ kn → b ≠ vq → f1 b = some e)) := by
  intro sz
  refine z_body (by decide +kernel) (Nat.le_of_ble_eq_true rfl) ?_
  intro p e s m below meth c ls C hr hin hsz hz hl
  subst hsz
  have hx := C.1
  have hb := C.2.1
  have hA : ∀ q, s.heap.size ≤ q → zA f s.heap.size q := fun q h => Or.inr h
  have hS : va_S (zA f s.heap.size) s.heap s.heap [] := va_S.rf
  have hl : lv_has ls 4 [(0, .ref h), (1, .int x), (2, .int y)] := hl
  refine lv_aload_n hx hb dX6_store_0 rfl (lv_at hl 0 rfl) ?_
  refine lv_iload_n hx hb dX6_store_1 rfl (lv_at hl 1 rfl) ?_
  refine z_callVi (As := [.int x]) C hz hS hA hl (k_X6_placeOf l D cy f h kn vq z g x p0 p1 hz40) zyX6_placeOf mMX6_22 p0 zl6 rfl rfl (Nat.le_of_ble_eq_true rfl) ⟨Nat.le_of_ble_eq_true rfl, Nat.le_of_ble_eq_true rfl⟩ ⟨Nat.le_of_ble_eq_true rfl, Nat.le_of_ble_eq_true rfl⟩ dX6_store_2 (fun r3 f1 H locs h2 hz hS => ?_)
  obtain ⟨p4, k5⟩ := h2
  refine lv_istore_n (lv' := [(3, .int r3), (0, .ref h), (1, .int x), (2, .int y)]) hx hb dX6_store_5 rfl hl (by decide) rfl (fun ls hl => ?_)
  refine lv_iload_n hx hb dX6_store_6 rfl (lv_at hl 0 rfl) ?_
  refine lv_iconst (v := (-1)) hx hb dX6_store_7 (by decide) ?_
  refine lv_icmp_eq (tgt := 20) hx hb dX6_store_8 (by decide) (fun c6 => ?_) (fun c6 => ?_)
  · have hno : ∀ i, i < z → g i ≠ x := by
      rcases p4 with ⟨k, h1, h2, -⟩ | ⟨-, h1⟩
      · exact absurd (h2.symm.trans c6) (z_nim1a (by omega))
      · exact h1
    refine lv_aload_n hx hb dX6_store_20 rfl (lv_at hl 1 rfl) ?_
    have a7 : f1 h = some (.inr (6, [.ref kn, .ref vq, .int (nI z)])) := k5 _ _ p0 
    refine z_get (v := .int (nI z)) C hz a7 zl6 mFX6_18 (by decide) rfl dX6_store_21 ?_
    refine lv_bipush (v := 40) hx hb dX6_store_24 (by decide) ?_
    refine lv_icmp_lt (tgt := 32) hx hb dX6_store_26 (by decide) (fun c8 => ?_) (fun c8 => ?_)
    · replace c8 : (z < 40) := (nI_ltI (a := z) (b := 40) (by omega) (by omega)).mp c8
      refine lv_aload_n hx hb dX6_store_32 rfl (lv_at hl 1 rfl) ?_
      refine z_get (v := .ref kn) C hz a7 zl6 mFX6_11 (by decide) rfl dX6_store_33 ?_
      refine lv_aload_n hx hb dX6_store_36 rfl (lv_at hl 1 rfl) ?_
      refine z_get (v := .int (nI z)) C hz a7 zl6 mFX6_18 (by decide) rfl dX6_store_37 ?_
      refine lv_iload_n hx hb dX6_store_40 rfl (lv_at hl 2 rfl) ?_
      have a9 : f1 kn = some (.inl (cy 0, 40, .inl g)) := k5 _ _ p1 
      refine z_iast z C hz hS a9 rfl (by omega) (by omega) dX6_store_41 (fun H locs f10 a11 k12 hz hS => ?_)
      refine lv_aload_n hx hb dX6_store_42 rfl (lv_at hl 1 rfl) ?_
      have a13 : f10 h = some (.inr (6, [.ref kn, .ref vq, .int (nI z)])) := (k12 _ (z_ne a7 a9 rfl)).trans a7
      refine z_get (v := .ref vq) C hz a13 zl6 mFX6_15 (by decide) rfl dX6_store_43 ?_
      refine lv_aload_n hx hb dX6_store_46 rfl (lv_at hl 1 rfl) ?_
      refine z_get (v := .int (nI z)) C hz a13 zl6 mFX6_18 (by decide) rfl dX6_store_47 ?_
      refine lv_iload_n hx hb dX6_store_50 rfl (lv_at hl 3 rfl) ?_
      have a14 : f1 vq = some (.inl (cy 0, 40, .inl gv)) := k5 _ _ p2 
      have a15 : f10 vq = some (.inl (cy 0, 40, .inl gv)) := (k12 _ (Ne.symm kne)).trans a14
      refine z_iast z C hz hS a15 rfl (by omega) (by omega) dX6_store_51 (fun H locs f16 a17 k18 hz hS => ?_)
      refine lv_aload_n hx hb dX6_store_52 rfl (lv_at hl 1 rfl) ?_
      refine lv_dup hx hb dX6_store_53 rfl ?_
      have a19 : f16 h = some (.inr (6, [.ref kn, .ref vq, .int (nI z)])) := (k18 _ (z_ne a13 a15 rfl)).trans a13
      refine z_get (v := .int (nI z)) C hz a19 zl6 mFX6_18 (by decide) rfl dX6_store_54 ?_
      refine lv_iconst (v := 1) hx hb dX6_store_57 (by decide) ?_
      refine lv_iadd hx hb dX6_store_58 ?_
      refine lv_topi (fun y20 e21 => ?_)
      obtain rfl : y20 = nI (z + 1) := e21.trans (nI_1 z)
      refine z_put (fs' := [.ref kn, .ref vq, .int (nI (z + 1))]) C hz hS a19 zl6 mFX6_18 (by decide) rfl rfl rfl (Nat.le_of_ble_eq_true rfl) rfl dX6_store_59 (fun H locs f22 a23 k24 hz hS => ?_)
      refine lv_iconst (v := 0) hx hb dX6_store_62 (by decide) ?_
      have a25 : f16 kn = some (.inl (cy 0, 40, .inl (upd g z x))) := (k18 _ kne).trans a11
      have a26 : f22 kn = some (.inl (cy 0, 40, .inl (upd g z x))) := (k24 _ (z_ne a25 a19 rfl)).trans a25
      have a27 : f22 vq = some (.inl (cy 0, 40, .inl (upd gv z y))) := (k24 _ (z_ne a17 a19 rfl)).trans a17
      exact z_iret C hr rfl hz hS ⟨(z + 1), (upd g z x), (upd gv z y), (by omega), (Or.inr ⟨hno, Or.inl ⟨c8, rfl, rfl, rfl, rfl⟩⟩), a23, a26, a27, (by
            intro b e hb n0 n1 n2
            have hb0 : f1 b = some e := k5 b e hb 
            have hb1 : f10 b = some e := (k12 b n1).trans hb0
            have hb2 : f16 b = some e := (k18 b n2).trans hb1
            have hb3 : f22 b = some e := (k24 b n0).trans hb2
            exact hb3)⟩ (Nat.le_of_ble_eq_true rfl) (Nat.le_of_ble_eq_true rfl) dX6_store_63
    · replace c8 : ¬ (z < 40) := fun h => c8 ((nI_ltI (a := z) (b := 40) (by omega) (by omega)).mpr h)
      refine lv_bipush (v := (-3)) hx hb dX6_store_29 (by decide) ?_
      have a28 : f1 kn = some (.inl (cy 0, 40, .inl g)) := k5 _ _ p1 
      have a29 : f1 vq = some (.inl (cy 0, 40, .inl gv)) := k5 _ _ p2 
      exact z_iret C hr rfl hz hS ⟨z, g, gv, (by omega), (Or.inr ⟨hno, Or.inr ⟨c8, rfl, rfl, rfl, rfl⟩⟩), a7, a28, a29, (by
            intro b e hb n0 n1 n2
            have hb0 : f1 b = some e := k5 b e hb 
            exact hb0)⟩ (Nat.le_of_ble_eq_true rfl) (Nat.le_of_ble_eq_true rfl) dX6_store_31
  · obtain ⟨k, hk, hrk, hgk, hfk⟩ : ∃ k, k < z ∧ r3 = nI k ∧ g k = x ∧ ∀ j, j < k → g j ≠ x := by
      rcases p4 with h1 | ⟨h1, -⟩
      · exact h1
      · exact absurd h1 c6
    refine lv_aload_n hx hb dX6_store_11 rfl (lv_at hl 1 rfl) ?_
    have a30 : f1 h = some (.inr (6, [.ref kn, .ref vq, .int (nI z)])) := k5 _ _ p0 
    refine z_get (v := .ref vq) C hz a30 zl6 mFX6_15 (by decide) rfl dX6_store_12 ?_
    refine lv_iload_n hx hb dX6_store_15 rfl (lv_at hl 0 rfl) ?_
    refine lv_iload_n hx hb dX6_store_16 rfl (lv_at hl 3 rfl) ?_
    have a31 : f1 vq = some (.inl (cy 0, 40, .inl gv)) := k5 _ _ p2 
    refine z_iast k C hz hS a31 hrk (by omega) (by omega) dX6_store_17 (fun H locs f32 a33 k34 hz hS => ?_)
    refine lv_iconst (v := 1) hx hb dX6_store_18 (by decide) ?_
    have a35 : f32 h = some (.inr (6, [.ref kn, .ref vq, .int (nI z)])) := (k34 _ (z_ne a30 a31 rfl)).trans a30
    have a36 : f1 kn = some (.inl (cy 0, 40, .inl g)) := k5 _ _ p1 
    have a37 : f32 kn = some (.inl (cy 0, 40, .inl g)) := (k34 _ kne).trans a36
    exact z_iret C hr rfl hz hS ⟨z, g, (upd gv k y), (by omega), (Or.inl ⟨k, hk, hgk, hfk, rfl, rfl, rfl, rfl⟩), a35, a37, a33, (by
          intro b e hb n0 n1 n2
          have hb0 : f1 b = some e := k5 b e hb 
          have hb1 : f32 b = some e := (k34 b n2).trans hb0
          exact hb1)⟩ (Nat.le_of_ble_eq_true rfl) (Nat.le_of_ble_eq_true rfl) dX6_store_19
abbrev rmX6_valueOf : Room := { frames := 1, cells := 0, slots := 0, locals := 22 }
set_option maxHeartbeats 4000000 in
set_option maxRecDepth 100000 in
theorem k_X6_valueOf (l : Launch) (D : va_G) (cy : Nat → ClassId) (f : zM) (h : Nat) (kn : Nat) (vq : Nat) (z : Nat) (g : Nat → Int32) (gv : Nat → Int32) (x : Int32) (p0 : f h = some (.inr (6, [.ref kn, .ref vq, .int (nI z)]))) (p1 : f kn = some (.inl (cy 0, 40, .inl g))) (p2 : f vq = some (.inl (cy 0, 40, .inl gv)))  (hz40 : z ≤ 40) : zCi l D cy yX6_valueOf cX6_valueOf 3 (Option.some Jvm.ClassFile.FieldType.int) rmX6_valueOf [.ref h, .int x] f (fun (r : Int32) (f1 : zM) => ((∃ i, i < z ∧ g i = x ∧ (∀ j, j < i → g j ≠ x) ∧ r = gv i) ∨ ((∀ i, i < z → g i ≠ x) ∧ r = 0)) ∧ (∀ (b : Nat) (e : va_E), f b = some e → f1 b = some e)) := by
  intro sz
  refine z_body (by decide +kernel) (Nat.le_of_ble_eq_true rfl) ?_
  intro p e s m below meth c ls C hr hin hsz hz hl
  subst hsz
  have hx := C.1
  have hb := C.2.1
  have hA : ∀ q, s.heap.size ≤ q → zA f s.heap.size q := fun q h => Or.inr h
  have hS : va_S (zA f s.heap.size) s.heap s.heap [] := va_S.rf
  have hl : lv_has ls 3 [(0, .ref h), (1, .int x)] := hl
  refine lv_aload_n hx hb dX6_valueOf_0 rfl (lv_at hl 0 rfl) ?_
  refine lv_iload_n hx hb dX6_valueOf_1 rfl (lv_at hl 1 rfl) ?_
  refine z_callVi (As := [.int x]) C hz hS hA hl (k_X6_placeOf l D cy f h kn vq z g x p0 p1 hz40) zyX6_placeOf mMX6_22 p0 zl6 rfl rfl (Nat.le_of_ble_eq_true rfl) ⟨Nat.le_of_ble_eq_true rfl, Nat.le_of_ble_eq_true rfl⟩ ⟨Nat.le_of_ble_eq_true rfl, Nat.le_of_ble_eq_true rfl⟩ dX6_valueOf_2 (fun r3 f1 H locs h2 hz hS => ?_)
  obtain ⟨p4, k5⟩ := h2
  refine lv_istore_n (lv' := [(2, .int r3), (0, .ref h), (1, .int x)]) hx hb dX6_valueOf_5 rfl hl (by decide) rfl (fun ls hl => ?_)
  refine lv_iload_n hx hb dX6_valueOf_6 rfl (lv_at hl 0 rfl) ?_
  refine lv_iconst (v := (-1)) hx hb dX6_valueOf_7 (by decide) ?_
  refine lv_icmp_ne (tgt := 15) hx hb dX6_valueOf_8 (by decide) (fun c6 => ?_) (fun c6 => ?_)
  · obtain ⟨k, hk, hrk, hgk, hfk⟩ : ∃ k, k < z ∧ r3 = nI k ∧ g k = x ∧ ∀ j, j < k → g j ≠ x := by
      rcases p4 with h1 | ⟨h1, -⟩
      · exact h1
      · exact absurd h1 c6
    refine lv_aload_n hx hb dX6_valueOf_15 rfl (lv_at hl 1 rfl) ?_
    have a7 : f1 h = some (.inr (6, [.ref kn, .ref vq, .int (nI z)])) := k5 _ _ p0 
    refine z_get (v := .ref vq) C hz a7 zl6 mFX6_15 (by decide) rfl dX6_valueOf_16 ?_
    refine lv_iload_n hx hb dX6_valueOf_19 rfl (lv_at hl 0 rfl) ?_
    have a8 : f1 vq = some (.inl (cy 0, 40, .inl gv)) := k5 _ _ p2 
    refine z_iald k C hz a8 hrk (by omega) (by omega) dX6_valueOf_20 ?_
    exact z_iret C hr rfl hz hS ⟨(Or.inl ⟨k, hk, hgk, hfk, rfl⟩), (by
          intro b e hb 
          have hb0 : f1 b = some e := k5 b e hb 
          exact hb0)⟩ (Nat.le_of_ble_eq_true rfl) (Nat.le_of_ble_eq_true rfl) dX6_valueOf_21
  · have hno : ∀ i, i < z → g i ≠ x := by
      rcases p4 with ⟨k, h1, h2, -⟩ | ⟨-, h1⟩
      · exact absurd (h2.symm.trans c6) (z_nim1a (by omega))
      · exact h1
    refine lv_iconst (v := 0) hx hb dX6_valueOf_11 (by decide) ?_
    refine lv_goto (tgt := 21) hx hb dX6_valueOf_12 (by decide) ?_
    exact z_iret C hr rfl hz hS ⟨(Or.inr ⟨hno, rfl⟩), (by
          intro b e hb 
          have hb0 : f1 b = some e := k5 b e hb 
          exact hb0)⟩ (Nat.le_of_ble_eq_true rfl) (Nat.le_of_ble_eq_true rfl) dX6_valueOf_21
theorem zTG_ret {g : Nat → Int32} {k : Int32} {i z : Nat} {tg : Int32} (hi : i < z) (h : zTG g k i = (tg, false)) (hg : g i = k) : nI i = (zTG g k z).1 := by
  have h1 : zTG g k (i + 1) = (nI i, true) := by
    rw [zTG, if_neg (by rw [h]; exact Bool.false_ne_true), if_pos hg]
  have h2 : ∀ d, zTG g k (i + 1 + d) = (nI i, true) := by
    intro d
    induction d with
    | zero => exact h1
    | succ d ih =>
      show zTG g k ((i + 1 + d) + 1) = _
      rw [zTG, if_pos (by rw [ih]), ih]
  have := h2 (z - (i + 1))
  rw [show i + 1 + (z - (i + 1)) = z by omega] at this
  rw [this]
theorem zTG_of {g : Nat → Int32} {k : Int32} {i : Nat} {tg : Int32} (h : zTG g k i = (tg, false)) (h1 : ¬ g i = k) (h2 : ¬ (if k = g i ∨ (k = 2 ∧ g i = 1) then (1 : Int32) else 0) = 0) : zTG g k (i + 1) = (nI i, false) := by
  have h3 : k = g i ∨ (k = 2 ∧ g i = 1) := by
    by_cases h3 : k = g i ∨ (k = 2 ∧ g i = 1)
    · exact h3
    · exact absurd (by rw [if_neg h3]) h2
  have h4 : isO k (g i) = true := by
    rcases h3 with h3 | ⟨h3, h4⟩
    · exact absurd h3.symm h1
    · simp [isO, h3, h4]
  rw [zTG, if_neg (by rw [h]; exact Bool.false_ne_true), if_neg h1, if_pos h4]
theorem zTG_no {g : Nat → Int32} {k : Int32} {i : Nat} {tg : Int32} (h : zTG g k i = (tg, false)) (h1 : ¬ g i = k) (h2 : (if k = g i ∨ (k = 2 ∧ g i = 1) then (1 : Int32) else 0) = 0) : zTG g k (i + 1) = (tg, false) := by
  have h3 : ¬ (k = g i ∨ (k = 2 ∧ g i = 1)) := by
    intro h3
    rw [if_pos h3] at h2
    exact absurd h2 (by decide)
  have h4 : ¬ isO k (g i) = true := by
    intro h4
    simp [isO] at h4
    exact h3 h4
  rw [zTG, if_neg (by rw [h]; exact Bool.false_ne_true), if_neg h1, if_neg h4, h]
theorem z_lt4 {y : Int32} (h : y < 4) : y ≤ 3 := by
  rw [Int32.le_iff_toInt_le]
  rw [Int32.lt_iff_toInt_lt] at h
  have e3 : (3 : Int32).toInt = 3 := by decide
  have e4 : (4 : Int32).toInt = 4 := by decide
  omega
theorem z_le3 {y : Int32} (h : y ≤ 3) : y < 4 := by
  rw [Int32.lt_iff_toInt_lt]
  rw [Int32.le_iff_toInt_le] at h
  have e3 : (3 : Int32).toInt = 3 := by decide
  have e4 : (4 : Int32).toInt = 4 := by decide
  omega
abbrev rmX3_tagOf : Room := { frames := 1, cells := 0, slots := 0, locals := 21 }
set_option maxHeartbeats 4000000 in
set_option maxRecDepth 100000 in
theorem k_X3_tagOf (l : Launch) (D : va_G) (cy : Nat → ClassId) (f : zM) (h : Nat) (kq : Nat) (z : Nat) (g : Nat → Int32) (q : Nat) (kdq : Int32) (pa : Nat) (wgq : Int64) (wdq : Int32) (nuq : Int32) (hsq : Int32) (bfq : Int32) (p0 : f h = some (.inr (3, [.ref kq, .int (nI z)]))) (p1 : f kq = some (.inl (cy 0, 4, .inl g))) (p2 : f q = some (.inr (4, [.int kdq, .ref pa, .long wgq, .int wdq, .int nuq, .int hsq, .int bfq])))  (hz4 : z ≤ 4) : zCi l D cy yX3_tagOf cX3_tagOf 4 (Option.some Jvm.ClassFile.FieldType.int) rmX3_tagOf [.ref h, .ref q] f (fun (r : Int32) (f1 : zM) => r = ((zTG g kdq z).1) ∧ (∀ (b : Nat) (e : va_E), f b = some e → f1 b = some e)) := by
  intro sz
  refine z_body (by decide +kernel) (Nat.le_of_ble_eq_true rfl) ?_
  intro p e s m below meth c ls C hr hin hsz hz hl
  subst hsz
  have hx := C.1
  have hb := C.2.1
  have hA : ∀ q, s.heap.size ≤ q → zA f s.heap.size q := fun q h => Or.inr h
  have hS : va_S (zA f s.heap.size) s.heap s.heap [] := va_S.rf
  have hl : lv_has ls 4 [(0, .ref h), (1, .ref q)] := hl
  refine lv_iconst (v := (-1)) hx hb dX3_tagOf_0 (by decide) ?_
  refine lv_istore_n (lv' := [(2, .int (-1)), (0, .ref h), (1, .ref q)]) hx hb dX3_tagOf_1 rfl hl (by decide) rfl (fun ls hl => ?_)
  refine lv_iconst (v := 0) hx hb dX3_tagOf_2 (by decide) ?_
  refine lv_istore_n (lv' := [(3, .int 0), (2, .int (-1)), (0, .ref h), (1, .ref q)]) hx hb dX3_tagOf_3 rfl hl (by decide) rfl (fun ls hl => ?_)
  have lp1 : ∀ (n : Nat) (i : Nat) (tg : Int32) (fL2 : zM) (H : Heap) (locs : List Loc) (ls : Array Slot), (z - i) < n → (i ≤ z) → (zTG g kdq i = (tg, false)) → fL2 h = some (.inr (3, [.ref kq, .int (nI z)])) → fL2 kq = some (.inl (cy 0, 4, .inl g)) → fL2 q = some (.inr (4, [.int kdq, .ref pa, .long wgq, .int wdq, .int nuq, .int hsq, .int bfq])) → (∀ (b : Nat) (e : va_E), f b = some e → fL2 b = some e) → zH D (zA f s.heap.size) fL2 H → va_S (zA f s.heap.size) s.heap H locs → lv_has ls 4 [(0, .ref h), (1, .ref q), (2, .int tg), (3, .int (nI i))] → W p l e rmX3_tagOf s m ([.ref h, .ref q] : List Value).toArray below meth c H locs 0 0 (MQ below (va_Qi (fun (r : Int32) (f1 : zM) => r = ((zTG g kdq z).1) ∧ (∀ (b : Nat) (e : va_E), f b = some e → f1 b = some e)) (zB D f s.heap.size) (zA f s.heap.size)) ([.ref h, .ref q] : List Value).toArray s rmX3_tagOf.cells rmX3_tagOf.slots (zA f s.heap.size)) (F0 m 4 ls []) := by
    intro n
    induction n with
    | zero => intro i tg fL2 H locs ls hmz; exact absurd hmz (Nat.not_lt_zero _)
    | succ n ih =>
      intro i tg fL2 H locs ls hmz hi htg a4 a5 a6 k3 hz hS hl
      refine lv_iload_n hx hb dX3_tagOf_4 rfl (lv_at hl 3 rfl) ?_
      refine lv_aload_n hx hb dX3_tagOf_5 rfl (lv_at hl 0 rfl) ?_
      refine z_get (v := .int (nI z)) C hz a4 zl3 mFX3_15 (by decide) rfl dX3_tagOf_6 ?_
      refine lv_icmp_ge (tgt := 48) hx hb dX3_tagOf_9 (by decide) (fun c7 => ?_) (fun c7 => ?_)
      · replace c7 : (z ≤ i) := (nI_leI (a := z) (b := i) (by omega) (by omega)).mp c7
        refine lv_iload_n hx hb dX3_tagOf_48 rfl (lv_at hl 2 rfl) ?_
        exact z_iret C hr rfl hz hS ⟨(by obtain rfl : i = z := (by omega); exact (congrArg Prod.fst htg).symm), (by
              intro b e hb 
              have hb0 : fL2 b = some e := k3 b e hb 
              exact hb0)⟩ (Nat.le_of_ble_eq_true rfl) (Nat.le_of_ble_eq_true rfl) dX3_tagOf_49
      · replace c7 : ¬ (z ≤ i) := fun h => c7 ((nI_leI (a := z) (b := i) (by omega) (by omega)).mpr h)
        refine lv_aload_n hx hb dX3_tagOf_12 rfl (lv_at hl 0 rfl) ?_
        refine z_get (v := .ref kq) C hz a4 zl3 mFX3_11 (by decide) rfl dX3_tagOf_13 ?_
        refine lv_iload_n hx hb dX3_tagOf_16 rfl (lv_at hl 3 rfl) ?_
        refine z_iald i C hz a5 rfl (by omega) (by omega) dX3_tagOf_17 ?_
        refine lv_aload_n hx hb dX3_tagOf_18 rfl (lv_at hl 1 rfl) ?_
        refine z_getN (v := .int kdq) C hz a6 zl4 mFNX3_19 (by decide) rfl dX3_tagOf_19 ?_
        refine lv_icmp_ne (tgt := 27) hx hb dX3_tagOf_22 (by decide) (fun c8 => ?_) (fun c8 => ?_)
        · refine lv_aload_n hx hb dX3_tagOf_27 rfl (lv_at hl 1 rfl) ?_
          refine lv_aload_n hx hb dX3_tagOf_28 rfl (lv_at hl 0 rfl) ?_
          refine z_get (v := .ref kq) C hz a4 zl3 mFX3_11 (by decide) rfl dX3_tagOf_29 ?_
          refine lv_iload_n hx hb dX3_tagOf_32 rfl (lv_at hl 3 rfl) ?_
          refine z_iald i C hz a5 rfl (by omega) (by omega) dX3_tagOf_33 ?_
          refine z_callVi (As := [.int (g i)]) C hz hS hA hl (k_X4_isOf l D cy fL2 q kdq pa wgq wdq nuq hsq bfq (g i) a6 ) zyX4_isOf mMX3_24 a6 zl4 rfl rfl (Nat.le_of_ble_eq_true rfl) ⟨Nat.le_of_ble_eq_true rfl, Nat.le_of_ble_eq_true rfl⟩ ⟨Nat.le_of_ble_eq_true rfl, Nat.le_of_ble_eq_true rfl⟩ dX3_tagOf_34 (fun r f9 H locs h10 hz hS => ?_)
          obtain ⟨rfl, k11⟩ := h10
          refine lv_if_eq (tgt := 42) hx hb dX3_tagOf_37 (by decide) (fun c12 => ?_) (fun c12 => ?_)
          · refine lv_iinc (v := nI (i + 1)) (lv' := [(3, .int (nI (i + 1))), (0, .ref h), (1, .ref q), (2, .int tg)]) hx hb dX3_tagOf_42 hl (k := 3) rfl (nI_1 i) (by decide) rfl (fun ls hl => ?_)
            refine lv_goto (tgt := 4) hx hb dX3_tagOf_45 (by decide) ?_
            have a13 : f9 h = some (.inr (3, [.ref kq, .int (nI z)])) := k11 _ _ a4 
            have a14 : f9 kq = some (.inl (cy 0, 4, .inl g)) := k11 _ _ a5 
            have a15 : f9 q = some (.inr (4, [.int kdq, .ref pa, .long wgq, .int wdq, .int nuq, .int hsq, .int bfq])) := k11 _ _ a6 
            exact ih (i + 1) tg _ _ _ _ (by omega) (by omega) (zTG_no htg c8 c12) a13 a14 a15 (by
                  intro b e hb 
                  have hb0 : fL2 b = some e := k3 b e hb 
                  have hb1 : f9 b = some e := k11 b e hb0 
                  exact hb1) hz hS (lv_sub hl [1, 2, 3, 0] rfl)
          · refine lv_iload_n hx hb dX3_tagOf_40 rfl (lv_at hl 3 rfl) ?_
            refine lv_istore_n (lv' := [(2, .int (nI i)), (0, .ref h), (1, .ref q), (3, .int (nI i))]) hx hb dX3_tagOf_41 rfl hl (by decide) rfl (fun ls hl => ?_)
            refine lv_iinc (v := nI (i + 1)) (lv' := [(3, .int (nI (i + 1))), (2, .int (nI i)), (0, .ref h), (1, .ref q)]) hx hb dX3_tagOf_42 hl (k := 3) rfl (nI_1 i) (by decide) rfl (fun ls hl => ?_)
            refine lv_goto (tgt := 4) hx hb dX3_tagOf_45 (by decide) ?_
            have a16 : f9 h = some (.inr (3, [.ref kq, .int (nI z)])) := k11 _ _ a4 
            have a17 : f9 kq = some (.inl (cy 0, 4, .inl g)) := k11 _ _ a5 
            have a18 : f9 q = some (.inr (4, [.int kdq, .ref pa, .long wgq, .int wdq, .int nuq, .int hsq, .int bfq])) := k11 _ _ a6 
            exact ih (i + 1) (nI i) _ _ _ _ (by omega) (by omega) (zTG_of htg c8 c12) a16 a17 a18 (by
                  intro b e hb 
                  have hb0 : fL2 b = some e := k3 b e hb 
                  have hb1 : f9 b = some e := k11 b e hb0 
                  exact hb1) hz hS (lv_sub hl [2, 3, 1, 0] rfl)
        · refine lv_iload_n hx hb dX3_tagOf_25 rfl (lv_at hl 3 rfl) ?_
          exact z_iret C hr rfl hz hS ⟨(zTG_ret (by omega) htg c8), (by
                intro b e hb 
                have hb0 : fL2 b = some e := k3 b e hb 
                exact hb0)⟩ (Nat.le_of_ble_eq_true rfl) (Nat.le_of_ble_eq_true rfl) dX3_tagOf_26
  exact lp1 (z - 0 + 1) 0 (-1) _ _ _ _ (Nat.lt_succ_self _) (by omega) rfl p0 p1 p2 (fun b e hb => hb) hz hS (lv_sub hl [2, 3, 1, 0] rfl)
abbrev rmX7_keyOf : Room := { frames := 0, cells := 0, slots := 0, locals := 0 }
set_option maxHeartbeats 4000000 in
set_option maxRecDepth 100000 in
theorem k_X7_keyOf (l : Launch) (D : va_G) (cy : Nat → ClassId) (f : zM) (q : Nat) (x : Int32) (y : Int32) (p0 : f q = some (.inr (0, [.int x, .int y])))   : zCi l D cy yX7_keyOf cX7_keyOf 1 (Option.some Jvm.ClassFile.FieldType.int) rmX7_keyOf [.ref q] f (fun (r : Int32) (f1 : zM) => r = (x * 10000 + y) ∧ (∀ (b : Nat) (e : va_E), f b = some e → f1 b = some e)) := by
  intro sz
  refine z_body (by decide +kernel) (Nat.le_of_ble_eq_true rfl) ?_
  intro p e s m below meth c ls C hr hin hsz hz hl
  subst hsz
  have hx := C.1
  have hb := C.2.1
  have hA : ∀ q, s.heap.size ≤ q → zA f s.heap.size q := fun q h => Or.inr h
  have hS : va_S (zA f s.heap.size) s.heap s.heap [] := va_S.rf
  have hl : lv_has ls 1 [(0, .ref q)] := hl
  refine lv_aload_n hx hb dX7_keyOf_0 rfl (lv_at hl 0 rfl) ?_
  refine z_getN (v := .int x) C hz p0 zl0 mFNX7_242 (by decide) rfl dX7_keyOf_1 ?_
  refine lv_sipush (v := 10000) hx hb dX7_keyOf_4 (by decide) ?_
  refine lv_imul hx hb dX7_keyOf_7 ?_
  refine lv_aload_n hx hb dX7_keyOf_8 rfl (lv_at hl 0 rfl) ?_
  refine z_getN (v := .int y) C hz p0 zl0 mFNX7_245 (by decide) rfl dX7_keyOf_9 ?_
  refine lv_iadd hx hb dX7_keyOf_12 ?_
  exact z_iret C hr rfl hz hS ⟨rfl, (fun b e hb => hb)⟩ (Nat.le_of_ble_eq_true rfl) (Nat.le_of_ble_eq_true rfl) dX7_keyOf_13
