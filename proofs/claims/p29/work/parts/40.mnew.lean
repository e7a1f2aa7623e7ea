abbrev rmX8_init : Room := { frames := 1, cells := 18, slots := 1674, locals := 12 }
set_option maxHeartbeats 4000000 in
set_option maxRecDepth 100000 in
theorem k_X8_init (l : Launch) (D : va_G) (cy : Nat → ClassId) (f : zM) (o : Nat) (p0 : f o = some (.inr (8, [.int 0, .int 0, .int 0, .null, .int 0, .null, .int 0, .null, .null, .null, .null, .null, .null, .null, .int 0, .null, .null, .int 0, .null, .null, .null, .null, .long 0, .int 0, .null, .null, .null])))   : zCv l D cy yX8_init cX8_init 1 none rmX8_init [.ref o] f (fun (f1 : zM) => ∃ (wev1 : Nat) (wnb1 : Nat) (wki1 : Nat) (wmy1 : Nat) (wce1 : Nat) (wiw1 : Nat) (wli1 : Nat) (wha1 : Nat) (wwt1 : Nat) (wfy1 : Nat) (wfk1 : Nat) (wem1 : Nat) (wna1 : Nat) (wpl1 : Nat) (whs1 : Nat) (wk11 : Nat) (wk21 : Nat) (wk31 : Nat) (u11 : Int32) (u21 : Int32) (u31 : Int32) (nl1 : Nat) (nn1 : Nat) (nf1 : Nat) (nc1 : Nat) (lk1 : Int64) (ks1 : Nat) (gv1 : Nat → Int32) (gu1 : Nat → Int32) (gk1 : Nat → Int32) (gm1 : Nat → Int32) (gc1 : Nat → Int64) (gw1 : Nat → Int32) (gl1 : Nat → Int32) (gh1 : Nat → Int32) (gt1 : Nat → Int64) (gy1 : Nat → Int32) (gq1 : Nat → Int32) (ge11 : Nat → Int32) (gn11 : Nat → Int32) (gp11 : Nat → Int32) (gs1 : Nat → Int32) (gx11 : Nat → Int32) (gx21 : Nat → Int32) (gx31 : Nat → Int32) (ln1 : Nat → Nat) (fz1 : Nat → Nat) (sq1 : Nat → Nat), (u11 = 0) ∧ (u21 = (-1)) ∧ (u31 = 0) ∧ (gv1 = fun _ => 0) ∧ (nl1 = 0) ∧ (gu1 = fun _ => 0) ∧ (nn1 = 0) ∧ (gk1 = fun _ => 0) ∧ (ln1 = fun _ => 0) ∧ (gw1 = fun _ => 0) ∧ (gh1 = fun _ => 0) ∧ (nf1 = 0) ∧ (fz1 = fun _ => 0) ∧ (nc1 = 0) ∧ (ge11 = fun _ => 0) ∧ (gn11 = fun _ => 0) ∧ (sq1 = fun _ => 0) ∧ (ks1 = 0) ∧ (gx31 = fun _ => 0) ∧ (lk1 = 1) ∧ zIM cy f1 o wev1 wnb1 wki1 wmy1 wce1 wiw1 wli1 wha1 wwt1 wfy1 wfk1 wem1 wna1 wpl1 whs1 wk11 wk21 wk31 u11 u21 u31 nl1 nn1 nf1 nc1 lk1 ks1 gv1 gu1 gk1 gm1 gc1 gw1 gl1 gh1 gt1 gy1 gq1 ge11 gn11 gp11 gs1 gx11 gx21 gx31 ln1 fz1 sq1 ∧ (∀ (b : Nat) (e : va_E), f b = some e → b ≠ o → f1 b = some e)) := by
  intro sz
  refine z_body (by decide +kernel) (Nat.le_of_ble_eq_true rfl) ?_
  intro p e s m below meth c ls C hr hin hsz hz hl
  subst hsz
  have hx := C.1
  have hb := C.2.1
  have hA : ∀ q, s.heap.size ≤ q → zA f s.heap.size q := fun q h => Or.inr h
  have hS : va_S (zA f s.heap.size) s.heap s.heap [] := va_S.rf
  have hl : lv_has ls 1 [(0, .ref o)] := hl
  refine lv_aload_n hx hb dX8_init_0 rfl (lv_at hl 0 rfl) ?_
  refine z_objI C hl mMX8_1 (Nat.le_of_ble_eq_true rfl) (Nat.le_of_ble_eq_true rfl) dX8_init_1 ?_
  refine lv_aload_n hx hb dX8_init_4 rfl (lv_at hl 0 rfl) ?_
  refine lv_iconst (v := (-1)) hx hb dX8_init_5 (by decide) ?_
  refine z_put (fs' := [.int 0, .int (-1), .int 0, .null, .int 0, .null, .int 0, .null, .null, .null, .null, .null, .null, .null, .int 0, .null, .null, .int 0, .null, .null, .null, .null, .long 0, .int 0, .null, .null, .null]) C hz hS p0 zl8 mFX8_9 (by decide) rfl rfl rfl (Nat.le_of_ble_eq_true rfl) rfl dX8_init_6 (fun H locs f1 a2 k3 hz hS => ?_)
  refine lv_aload_n hx hb dX8_init_9 rfl (lv_at hl 0 rfl) ?_
  refine lv_bipush (v := 8) hx hb dX8_init_10 (by decide) ?_
  refine z_newa (atype := .int) (t0 := 0) (N' := 8) (x := (.inl (fun _ => 0))) C hz hS hA rfl mA_int rfl (fun _ => rfl) (by decide) (Nat.le_of_ble_eq_true rfl) (by decide) (Nat.le_of_ble_eq_true rfl) (Nat.le_of_ble_eq_true rfl) dX8_init_12 (fun q4 H f6 ur5 a7 k8 hz hS => ?_)
  have a9 : f6 o = some (.inr (8, [.int 0, .int (-1), .int 0, .null, .int 0, .null, .int 0, .null, .null, .null, .null, .null, .null, .null, .int 0, .null, .null, .int 0, .null, .null, .null, .null, .long 0, .int 0, .null, .null, .null])) := (k8 _ (z_nn ur5 a2)).trans a2
  refine z_putF (fs' := [.int 0, .int (-1), .int 0, .ref q4, .int 0, .null, .int 0, .null, .null, .null, .null, .null, .null, .null, .int 0, .null, .null, .int 0, .null, .null, .null, .null, .long 0, .int 0, .null, .null, .null]) C hz hS a9 zl8 mFX8_13 (by decide) rfl hin rfl rfl rfl (Nat.le_of_ble_eq_true rfl) rfl dX8_init_14 (fun H locs f10 a11 k12 hz hS => ?_)
  refine lv_aload_n hx hb dX8_init_17 rfl (lv_at hl 0 rfl) ?_
  refine lv_bipush (v := 12) hx hb dX8_init_18 (by decide) ?_
  refine z_newa (atype := .int) (t0 := 0) (N' := 12) (x := (.inl (fun _ => 0))) C hz hS hA rfl mA_int rfl (fun _ => rfl) (by decide) (Nat.le_of_ble_eq_true rfl) (by decide) (Nat.le_of_ble_eq_true rfl) (Nat.le_of_ble_eq_true rfl) dX8_init_20 (fun q13 H f15 ur14 a16 k17 hz hS => ?_)
  have a18 : f15 o = some (.inr (8, [.int 0, .int (-1), .int 0, .ref q4, .int 0, .null, .int 0, .null, .null, .null, .null, .null, .null, .null, .int 0, .null, .null, .int 0, .null, .null, .null, .null, .long 0, .int 0, .null, .null, .null])) := (k17 _ (z_nn ur14 a11)).trans a11
  refine z_putF (fs' := [.int 0, .int (-1), .int 0, .ref q4, .int 0, .ref q13, .int 0, .null, .null, .null, .null, .null, .null, .null, .int 0, .null, .null, .int 0, .null, .null, .null, .null, .long 0, .int 0, .null, .null, .null]) C hz hS a18 zl8 mFX8_17 (by decide) rfl hin rfl rfl rfl (Nat.le_of_ble_eq_true rfl) rfl dX8_init_22 (fun H locs f19 a20 k21 hz hS => ?_)
  refine lv_aload_n hx hb dX8_init_25 rfl (lv_at hl 0 rfl) ?_
  refine lv_bipush (v := 60) hx hb dX8_init_26 (by decide) ?_
  refine z_newa (atype := .int) (t0 := 0) (N' := 60) (x := (.inl (fun _ => 0))) C hz hS hA rfl mA_int rfl (fun _ => rfl) (by decide) (Nat.le_of_ble_eq_true rfl) (by decide) (Nat.le_of_ble_eq_true rfl) (Nat.le_of_ble_eq_true rfl) dX8_init_28 (fun q22 H f24 ur23 a25 k26 hz hS => ?_)
  have a27 : f24 o = some (.inr (8, [.int 0, .int (-1), .int 0, .ref q4, .int 0, .ref q13, .int 0, .null, .null, .null, .null, .null, .null, .null, .int 0, .null, .null, .int 0, .null, .null, .null, .null, .long 0, .int 0, .null, .null, .null])) := (k26 _ (z_nn ur23 a20)).trans a20
  refine z_putF (fs' := [.int 0, .int (-1), .int 0, .ref q4, .int 0, .ref q13, .int 0, .ref q22, .null, .null, .null, .null, .null, .null, .int 0, .null, .null, .int 0, .null, .null, .null, .null, .long 0, .int 0, .null, .null, .null]) C hz hS a27 zl8 mFX8_20 (by decide) rfl hin rfl rfl rfl (Nat.le_of_ble_eq_true rfl) rfl dX8_init_30 (fun H locs f28 a29 k30 hz hS => ?_)
  refine lv_aload_n hx hb dX8_init_33 rfl (lv_at hl 0 rfl) ?_
  refine lv_bipush (v := 60) hx hb dX8_init_34 (by decide) ?_
  refine z_newa (atype := .int) (t0 := 0) (N' := 60) (x := (.inl (fun _ => 0))) C hz hS hA rfl mA_int rfl (fun _ => rfl) (by decide) (Nat.le_of_ble_eq_true rfl) (by decide) (Nat.le_of_ble_eq_true rfl) (Nat.le_of_ble_eq_true rfl) dX8_init_36 (fun q31 H f33 ur32 a34 k35 hz hS => ?_)
  have a36 : f33 o = some (.inr (8, [.int 0, .int (-1), .int 0, .ref q4, .int 0, .ref q13, .int 0, .ref q22, .null, .null, .null, .null, .null, .null, .int 0, .null, .null, .int 0, .null, .null, .null, .null, .long 0, .int 0, .null, .null, .null])) := (k35 _ (z_nn ur32 a29)).trans a29
  refine z_putF (fs' := [.int 0, .int (-1), .int 0, .ref q4, .int 0, .ref q13, .int 0, .ref q22, .ref q31, .null, .null, .null, .null, .null, .int 0, .null, .null, .int 0, .null, .null, .null, .null, .long 0, .int 0, .null, .null, .null]) C hz hS a36 zl8 mFX8_23 (by decide) rfl hin rfl rfl rfl (Nat.le_of_ble_eq_true rfl) rfl dX8_init_38 (fun H locs f37 a38 k39 hz hS => ?_)
  refine lv_aload_n hx hb dX8_init_41 rfl (lv_at hl 0 rfl) ?_
  refine lv_sipush (v := 960) hx hb dX8_init_42 (by decide) ?_
  refine z_newa (atype := .long) (t0 := 1) (N' := 960) (x := (.inr (.inl (fun _ => 0)))) C hz hS hA rfl mA_long rfl (fun _ => rfl) (by decide) (Nat.le_of_ble_eq_true rfl) (by decide) (Nat.le_of_ble_eq_true rfl) (Nat.le_of_ble_eq_true rfl) dX8_init_45 (fun q40 H f42 ur41 a43 k44 hz hS => ?_)
  have a45 : f42 o = some (.inr (8, [.int 0, .int (-1), .int 0, .ref q4, .int 0, .ref q13, .int 0, .ref q22, .ref q31, .null, .null, .null, .null, .null, .int 0, .null, .null, .int 0, .null, .null, .null, .null, .long 0, .int 0, .null, .null, .null])) := (k44 _ (z_nn ur41 a38)).trans a38
  refine z_putF (fs' := [.int 0, .int (-1), .int 0, .ref q4, .int 0, .ref q13, .int 0, .ref q22, .ref q31, .ref q40, .null, .null, .null, .null, .int 0, .null, .null, .int 0, .null, .null, .null, .null, .long 0, .int 0, .null, .null, .null]) C hz hS a45 zl8 mFX8_26 (by decide) rfl hin rfl rfl rfl (Nat.le_of_ble_eq_true rfl) rfl dX8_init_47 (fun H locs f46 a47 k48 hz hS => ?_)
  refine lv_aload_n hx hb dX8_init_50 rfl (lv_at hl 0 rfl) ?_
  refine lv_bipush (v := 60) hx hb dX8_init_51 (by decide) ?_
  refine z_newa (atype := .boolean) (t0 := 2) (N' := 60) (x := (.inl (fun _ => 0))) C hz hS hA rfl mA_boolean rfl (fun _ => rfl) (by decide) (Nat.le_of_ble_eq_true rfl) (by decide) (Nat.le_of_ble_eq_true rfl) (Nat.le_of_ble_eq_true rfl) dX8_init_53 (fun q49 H f51 ur50 a52 k53 hz hS => ?_)
  have a54 : f51 o = some (.inr (8, [.int 0, .int (-1), .int 0, .ref q4, .int 0, .ref q13, .int 0, .ref q22, .ref q31, .ref q40, .null, .null, .null, .null, .int 0, .null, .null, .int 0, .null, .null, .null, .null, .long 0, .int 0, .null, .null, .null])) := (k53 _ (z_nn ur50 a47)).trans a47
  refine z_putF (fs' := [.int 0, .int (-1), .int 0, .ref q4, .int 0, .ref q13, .int 0, .ref q22, .ref q31, .ref q40, .ref q49, .null, .null, .null, .int 0, .null, .null, .int 0, .null, .null, .null, .null, .long 0, .int 0, .null, .null, .null]) C hz hS a54 zl8 mFX8_30 (by decide) rfl hin rfl rfl rfl (Nat.le_of_ble_eq_true rfl) rfl dX8_init_55 (fun H locs f55 a56 k57 hz hS => ?_)
  refine lv_aload_n hx hb dX8_init_58 rfl (lv_at hl 0 rfl) ?_
  refine lv_bipush (v := 60) hx hb dX8_init_59 (by decide) ?_
  refine z_newa (atype := .int) (t0 := 0) (N' := 60) (x := (.inl (fun _ => 0))) C hz hS hA rfl mA_int rfl (fun _ => rfl) (by decide) (Nat.le_of_ble_eq_true rfl) (by decide) (Nat.le_of_ble_eq_true rfl) (Nat.le_of_ble_eq_true rfl) dX8_init_61 (fun q58 H f60 ur59 a61 k62 hz hS => ?_)
  have a63 : f60 o = some (.inr (8, [.int 0, .int (-1), .int 0, .ref q4, .int 0, .ref q13, .int 0, .ref q22, .ref q31, .ref q40, .ref q49, .null, .null, .null, .int 0, .null, .null, .int 0, .null, .null, .null, .null, .long 0, .int 0, .null, .null, .null])) := (k62 _ (z_nn ur59 a56)).trans a56
  refine z_putF (fs' := [.int 0, .int (-1), .int 0, .ref q4, .int 0, .ref q13, .int 0, .ref q22, .ref q31, .ref q40, .ref q49, .ref q58, .null, .null, .int 0, .null, .null, .int 0, .null, .null, .null, .null, .long 0, .int 0, .null, .null, .null]) C hz hS a63 zl8 mFX8_34 (by decide) rfl hin rfl rfl rfl (Nat.le_of_ble_eq_true rfl) rfl dX8_init_63 (fun H locs f64 a65 k66 hz hS => ?_)
  refine lv_aload_n hx hb dX8_init_66 rfl (lv_at hl 0 rfl) ?_
  refine lv_bipush (v := 60) hx hb dX8_init_67 (by decide) ?_
  refine z_newa (atype := .int) (t0 := 0) (N' := 60) (x := (.inl (fun _ => 0))) C hz hS hA rfl mA_int rfl (fun _ => rfl) (by decide) (Nat.le_of_ble_eq_true rfl) (by decide) (Nat.le_of_ble_eq_true rfl) (Nat.le_of_ble_eq_true rfl) dX8_init_69 (fun q67 H f69 ur68 a70 k71 hz hS => ?_)
  have a72 : f69 o = some (.inr (8, [.int 0, .int (-1), .int 0, .ref q4, .int 0, .ref q13, .int 0, .ref q22, .ref q31, .ref q40, .ref q49, .ref q58, .null, .null, .int 0, .null, .null, .int 0, .null, .null, .null, .null, .long 0, .int 0, .null, .null, .null])) := (k71 _ (z_nn ur68 a65)).trans a65
  refine z_putF (fs' := [.int 0, .int (-1), .int 0, .ref q4, .int 0, .ref q13, .int 0, .ref q22, .ref q31, .ref q40, .ref q49, .ref q58, .ref q67, .null, .int 0, .null, .null, .int 0, .null, .null, .null, .null, .long 0, .int 0, .null, .null, .null]) C hz hS a72 zl8 mFX8_37 (by decide) rfl hin rfl rfl rfl (Nat.le_of_ble_eq_true rfl) rfl dX8_init_71 (fun H locs f73 a74 k75 hz hS => ?_)
  refine lv_aload_n hx hb dX8_init_74 rfl (lv_at hl 0 rfl) ?_
  refine lv_bipush (v := 60) hx hb dX8_init_75 (by decide) ?_
  refine z_newa (atype := .long) (t0 := 1) (N' := 60) (x := (.inr (.inl (fun _ => 0)))) C hz hS hA rfl mA_long rfl (fun _ => rfl) (by decide) (Nat.le_of_ble_eq_true rfl) (by decide) (Nat.le_of_ble_eq_true rfl) (Nat.le_of_ble_eq_true rfl) dX8_init_77 (fun q76 H f78 ur77 a79 k80 hz hS => ?_)
  have a81 : f78 o = some (.inr (8, [.int 0, .int (-1), .int 0, .ref q4, .int 0, .ref q13, .int 0, .ref q22, .ref q31, .ref q40, .ref q49, .ref q58, .ref q67, .null, .int 0, .null, .null, .int 0, .null, .null, .null, .null, .long 0, .int 0, .null, .null, .null])) := (k80 _ (z_nn ur77 a74)).trans a74
  refine z_putF (fs' := [.int 0, .int (-1), .int 0, .ref q4, .int 0, .ref q13, .int 0, .ref q22, .ref q31, .ref q40, .ref q49, .ref q58, .ref q67, .ref q76, .int 0, .null, .null, .int 0, .null, .null, .null, .null, .long 0, .int 0, .null, .null, .null]) C hz hS a81 zl8 mFX8_40 (by decide) rfl hin rfl rfl rfl (Nat.le_of_ble_eq_true rfl) rfl dX8_init_79 (fun H locs f82 a83 k84 hz hS => ?_)
  refine lv_aload_n hx hb dX8_init_82 rfl (lv_at hl 0 rfl) ?_
  refine lv_bipush (v := 6) hx hb dX8_init_83 (by decide) ?_
  refine z_newa (atype := .int) (t0 := 0) (N' := 6) (x := (.inl (fun _ => 0))) C hz hS hA rfl mA_int rfl (fun _ => rfl) (by decide) (Nat.le_of_ble_eq_true rfl) (by decide) (Nat.le_of_ble_eq_true rfl) (Nat.le_of_ble_eq_true rfl) dX8_init_85 (fun q85 H f87 ur86 a88 k89 hz hS => ?_)
  have a90 : f87 o = some (.inr (8, [.int 0, .int (-1), .int 0, .ref q4, .int 0, .ref q13, .int 0, .ref q22, .ref q31, .ref q40, .ref q49, .ref q58, .ref q67, .ref q76, .int 0, .null, .null, .int 0, .null, .null, .null, .null, .long 0, .int 0, .null, .null, .null])) := (k89 _ (z_nn ur86 a83)).trans a83
  refine z_putF (fs' := [.int 0, .int (-1), .int 0, .ref q4, .int 0, .ref q13, .int 0, .ref q22, .ref q31, .ref q40, .ref q49, .ref q58, .ref q67, .ref q76, .int 0, .ref q85, .null, .int 0, .null, .null, .null, .null, .long 0, .int 0, .null, .null, .null]) C hz hS a90 zl8 mFX8_43 (by decide) rfl hin rfl rfl rfl (Nat.le_of_ble_eq_true rfl) rfl dX8_init_87 (fun H locs f91 a92 k93 hz hS => ?_)
  refine lv_aload_n hx hb dX8_init_90 rfl (lv_at hl 0 rfl) ?_
  refine lv_bipush (v := 24) hx hb dX8_init_91 (by decide) ?_
  refine z_newa (atype := .int) (t0 := 0) (N' := 24) (x := (.inl (fun _ => 0))) C hz hS hA rfl mA_int rfl (fun _ => rfl) (by decide) (Nat.le_of_ble_eq_true rfl) (by decide) (Nat.le_of_ble_eq_true rfl) (Nat.le_of_ble_eq_true rfl) dX8_init_93 (fun q94 H f96 ur95 a97 k98 hz hS => ?_)
  have a99 : f96 o = some (.inr (8, [.int 0, .int (-1), .int 0, .ref q4, .int 0, .ref q13, .int 0, .ref q22, .ref q31, .ref q40, .ref q49, .ref q58, .ref q67, .ref q76, .int 0, .ref q85, .null, .int 0, .null, .null, .null, .null, .long 0, .int 0, .null, .null, .null])) := (k98 _ (z_nn ur95 a92)).trans a92
  refine z_putF (fs' := [.int 0, .int (-1), .int 0, .ref q4, .int 0, .ref q13, .int 0, .ref q22, .ref q31, .ref q40, .ref q49, .ref q58, .ref q67, .ref q76, .int 0, .ref q85, .ref q94, .int 0, .null, .null, .null, .null, .long 0, .int 0, .null, .null, .null]) C hz hS a99 zl8 mFX8_46 (by decide) rfl hin rfl rfl rfl (Nat.le_of_ble_eq_true rfl) rfl dX8_init_95 (fun H locs f100 a101 k102 hz hS => ?_)
  refine lv_aload_n hx hb dX8_init_98 rfl (lv_at hl 0 rfl) ?_
  refine lv_bipush (v := 60) hx hb dX8_init_99 (by decide) ?_
  refine z_newa (atype := .int) (t0 := 0) (N' := 60) (x := (.inl (fun _ => 0))) C hz hS hA rfl mA_int rfl (fun _ => rfl) (by decide) (Nat.le_of_ble_eq_true rfl) (by decide) (Nat.le_of_ble_eq_true rfl) (Nat.le_of_ble_eq_true rfl) dX8_init_101 (fun q103 H f105 ur104 a106 k107 hz hS => ?_)
  have a108 : f105 o = some (.inr (8, [.int 0, .int (-1), .int 0, .ref q4, .int 0, .ref q13, .int 0, .ref q22, .ref q31, .ref q40, .ref q49, .ref q58, .ref q67, .ref q76, .int 0, .ref q85, .ref q94, .int 0, .null, .null, .null, .null, .long 0, .int 0, .null, .null, .null])) := (k107 _ (z_nn ur104 a101)).trans a101
  refine z_putF (fs' := [.int 0, .int (-1), .int 0, .ref q4, .int 0, .ref q13, .int 0, .ref q22, .ref q31, .ref q40, .ref q49, .ref q58, .ref q67, .ref q76, .int 0, .ref q85, .ref q94, .int 0, .ref q103, .null, .null, .null, .long 0, .int 0, .null, .null, .null]) C hz hS a108 zl8 mFX8_49 (by decide) rfl hin rfl rfl rfl (Nat.le_of_ble_eq_true rfl) rfl dX8_init_103 (fun H locs f109 a110 k111 hz hS => ?_)
  refine lv_aload_n hx hb dX8_init_106 rfl (lv_at hl 0 rfl) ?_
  refine lv_bipush (v := 60) hx hb dX8_init_107 (by decide) ?_
  refine z_newa (atype := .int) (t0 := 0) (N' := 60) (x := (.inl (fun _ => 0))) C hz hS hA rfl mA_int rfl (fun _ => rfl) (by decide) (Nat.le_of_ble_eq_true rfl) (by decide) (Nat.le_of_ble_eq_true rfl) (Nat.le_of_ble_eq_true rfl) dX8_init_109 (fun q112 H f114 ur113 a115 k116 hz hS => ?_)
  have a117 : f114 o = some (.inr (8, [.int 0, .int (-1), .int 0, .ref q4, .int 0, .ref q13, .int 0, .ref q22, .ref q31, .ref q40, .ref q49, .ref q58, .ref q67, .ref q76, .int 0, .ref q85, .ref q94, .int 0, .ref q103, .null, .null, .null, .long 0, .int 0, .null, .null, .null])) := (k116 _ (z_nn ur113 a110)).trans a110
  refine z_putF (fs' := [.int 0, .int (-1), .int 0, .ref q4, .int 0, .ref q13, .int 0, .ref q22, .ref q31, .ref q40, .ref q49, .ref q58, .ref q67, .ref q76, .int 0, .ref q85, .ref q94, .int 0, .ref q103, .ref q112, .null, .null, .long 0, .int 0, .null, .null, .null]) C hz hS a117 zl8 mFX8_52 (by decide) rfl hin rfl rfl rfl (Nat.le_of_ble_eq_true rfl) rfl dX8_init_111 (fun H locs f118 a119 k120 hz hS => ?_)
  refine lv_aload_n hx hb dX8_init_114 rfl (lv_at hl 0 rfl) ?_
  refine lv_bipush (v := 60) hx hb dX8_init_115 (by decide) ?_
  refine z_newa (atype := .int) (t0 := 0) (N' := 60) (x := (.inl (fun _ => 0))) C hz hS hA rfl mA_int rfl (fun _ => rfl) (by decide) (Nat.le_of_ble_eq_true rfl) (by decide) (Nat.le_of_ble_eq_true rfl) (Nat.le_of_ble_eq_true rfl) dX8_init_117 (fun q121 H f123 ur122 a124 k125 hz hS => ?_)
  have a126 : f123 o = some (.inr (8, [.int 0, .int (-1), .int 0, .ref q4, .int 0, .ref q13, .int 0, .ref q22, .ref q31, .ref q40, .ref q49, .ref q58, .ref q67, .ref q76, .int 0, .ref q85, .ref q94, .int 0, .ref q103, .ref q112, .null, .null, .long 0, .int 0, .null, .null, .null])) := (k125 _ (z_nn ur122 a119)).trans a119
  refine z_putF (fs' := [.int 0, .int (-1), .int 0, .ref q4, .int 0, .ref q13, .int 0, .ref q22, .ref q31, .ref q40, .ref q49, .ref q58, .ref q67, .ref q76, .int 0, .ref q85, .ref q94, .int 0, .ref q103, .ref q112, .ref q121, .null, .long 0, .int 0, .null, .null, .null]) C hz hS a126 zl8 mFX8_55 (by decide) rfl hin rfl rfl rfl (Nat.le_of_ble_eq_true rfl) rfl dX8_init_119 (fun H locs f127 a128 k129 hz hS => ?_)
  refine lv_aload_n hx hb dX8_init_122 rfl (lv_at hl 0 rfl) ?_
  refine lv_iconst (v := 4) hx hb dX8_init_123 (by decide) ?_
  refine z_newa (atype := .int) (t0 := 0) (N' := 4) (x := (.inl (fun _ => 0))) C hz hS hA rfl mA_int rfl (fun _ => rfl) (by decide) (Nat.le_of_ble_eq_true rfl) (by decide) (Nat.le_of_ble_eq_true rfl) (Nat.le_of_ble_eq_true rfl) dX8_init_124 (fun q130 H f132 ur131 a133 k134 hz hS => ?_)
  have a135 : f132 o = some (.inr (8, [.int 0, .int (-1), .int 0, .ref q4, .int 0, .ref q13, .int 0, .ref q22, .ref q31, .ref q40, .ref q49, .ref q58, .ref q67, .ref q76, .int 0, .ref q85, .ref q94, .int 0, .ref q103, .ref q112, .ref q121, .null, .long 0, .int 0, .null, .null, .null])) := (k134 _ (z_nn ur131 a128)).trans a128
  refine z_putF (fs' := [.int 0, .int (-1), .int 0, .ref q4, .int 0, .ref q13, .int 0, .ref q22, .ref q31, .ref q40, .ref q49, .ref q58, .ref q67, .ref q76, .int 0, .ref q85, .ref q94, .int 0, .ref q103, .ref q112, .ref q121, .ref q130, .long 0, .int 0, .null, .null, .null]) C hz hS a135 zl8 mFX8_58 (by decide) rfl hin rfl rfl rfl (Nat.le_of_ble_eq_true rfl) rfl dX8_init_126 (fun H locs f136 a137 k138 hz hS => ?_)
  refine lv_aload_n hx hb dX8_init_129 rfl (lv_at hl 0 rfl) ?_
  refine lv_lconst (v := 1) hx hb dX8_init_130 (by decide) ?_
  refine z_put (fs' := [.int 0, .int (-1), .int 0, .ref q4, .int 0, .ref q13, .int 0, .ref q22, .ref q31, .ref q40, .ref q49, .ref q58, .ref q67, .ref q76, .int 0, .ref q85, .ref q94, .int 0, .ref q103, .ref q112, .ref q121, .ref q130, .long 1, .int 0, .null, .null, .null]) C hz hS a137 zl8 mFX8_61 (by decide) rfl rfl rfl (Nat.le_of_ble_eq_true rfl) rfl dX8_init_131 (fun H locs f139 a140 k141 hz hS => ?_)
  refine lv_aload_n hx hb dX8_init_134 rfl (lv_at hl 0 rfl) ?_
  refine lv_bipush (v := 40) hx hb dX8_init_135 (by decide) ?_
  refine z_newa (atype := .int) (t0 := 0) (N' := 40) (x := (.inl (fun _ => 0))) C hz hS hA rfl mA_int rfl (fun _ => rfl) (by decide) (Nat.le_of_ble_eq_true rfl) (by decide) (Nat.le_of_ble_eq_true rfl) (Nat.le_of_ble_eq_true rfl) dX8_init_137 (fun q142 H f144 ur143 a145 k146 hz hS => ?_)
  have a147 : f144 o = some (.inr (8, [.int 0, .int (-1), .int 0, .ref q4, .int 0, .ref q13, .int 0, .ref q22, .ref q31, .ref q40, .ref q49, .ref q58, .ref q67, .ref q76, .int 0, .ref q85, .ref q94, .int 0, .ref q103, .ref q112, .ref q121, .ref q130, .long 1, .int 0, .null, .null, .null])) := (k146 _ (z_nn ur143 a140)).trans a140
  refine z_putF (fs' := [.int 0, .int (-1), .int 0, .ref q4, .int 0, .ref q13, .int 0, .ref q22, .ref q31, .ref q40, .ref q49, .ref q58, .ref q67, .ref q76, .int 0, .ref q85, .ref q94, .int 0, .ref q103, .ref q112, .ref q121, .ref q130, .long 1, .int 0, .ref q142, .null, .null]) C hz hS a147 zl8 mFX8_65 (by decide) rfl hin rfl rfl rfl (Nat.le_of_ble_eq_true rfl) rfl dX8_init_139 (fun H locs f148 a149 k150 hz hS => ?_)
  refine lv_aload_n hx hb dX8_init_142 rfl (lv_at hl 0 rfl) ?_
  refine lv_bipush (v := 40) hx hb dX8_init_143 (by decide) ?_
  refine z_newa (atype := .int) (t0 := 0) (N' := 40) (x := (.inl (fun _ => 0))) C hz hS hA rfl mA_int rfl (fun _ => rfl) (by decide) (Nat.le_of_ble_eq_true rfl) (by decide) (Nat.le_of_ble_eq_true rfl) (Nat.le_of_ble_eq_true rfl) dX8_init_145 (fun q151 H f153 ur152 a154 k155 hz hS => ?_)
  have a156 : f153 o = some (.inr (8, [.int 0, .int (-1), .int 0, .ref q4, .int 0, .ref q13, .int 0, .ref q22, .ref q31, .ref q40, .ref q49, .ref q58, .ref q67, .ref q76, .int 0, .ref q85, .ref q94, .int 0, .ref q103, .ref q112, .ref q121, .ref q130, .long 1, .int 0, .ref q142, .null, .null])) := (k155 _ (z_nn ur152 a149)).trans a149
  refine z_putF (fs' := [.int 0, .int (-1), .int 0, .ref q4, .int 0, .ref q13, .int 0, .ref q22, .ref q31, .ref q40, .ref q49, .ref q58, .ref q67, .ref q76, .int 0, .ref q85, .ref q94, .int 0, .ref q103, .ref q112, .ref q121, .ref q130, .long 1, .int 0, .ref q142, .ref q151, .null]) C hz hS a156 zl8 mFX8_68 (by decide) rfl hin rfl rfl rfl (Nat.le_of_ble_eq_true rfl) rfl dX8_init_147 (fun H locs f157 a158 k159 hz hS => ?_)
  refine lv_aload_n hx hb dX8_init_150 rfl (lv_at hl 0 rfl) ?_
  refine lv_bipush (v := 40) hx hb dX8_init_151 (by decide) ?_
  refine z_newa (atype := .int) (t0 := 0) (N' := 40) (x := (.inl (fun _ => 0))) C hz hS hA rfl mA_int rfl (fun _ => rfl) (by decide) (Nat.le_of_ble_eq_true rfl) (by decide) (Nat.le_of_ble_eq_true rfl) (Nat.le_of_ble_eq_true rfl) dX8_init_153 (fun q160 H f162 ur161 a163 k164 hz hS => ?_)
  have a165 : f162 o = some (.inr (8, [.int 0, .int (-1), .int 0, .ref q4, .int 0, .ref q13, .int 0, .ref q22, .ref q31, .ref q40, .ref q49, .ref q58, .ref q67, .ref q76, .int 0, .ref q85, .ref q94, .int 0, .ref q103, .ref q112, .ref q121, .ref q130, .long 1, .int 0, .ref q142, .ref q151, .null])) := (k164 _ (z_nn ur161 a158)).trans a158
  refine z_putF (fs' := [.int 0, .int (-1), .int 0, .ref q4, .int 0, .ref q13, .int 0, .ref q22, .ref q31, .ref q40, .ref q49, .ref q58, .ref q67, .ref q76, .int 0, .ref q85, .ref q94, .int 0, .ref q103, .ref q112, .ref q121, .ref q130, .long 1, .int 0, .ref q142, .ref q151, .ref q160]) C hz hS a165 zl8 mFX8_71 (by decide) rfl hin rfl rfl rfl (Nat.le_of_ble_eq_true rfl) rfl dX8_init_155 (fun H locs f166 a167 k168 hz hS => ?_)
  have a169 : f10 q4 = some (.inl (cy 0, 8, .inl (fun _ => 0))) := (k12 _ (Ne.symm (z_nn ur5 a2))).trans a7
  have a170 : f15 q4 = some (.inl (cy 0, 8, .inl (fun _ => 0))) := (k17 _ (z_nn ur14 a169)).trans a169
  have a171 : f19 q4 = some (.inl (cy 0, 8, .inl (fun _ => 0))) := (k21 _ (Ne.symm (z_nn ur5 a2))).trans a170
  have a172 : f24 q4 = some (.inl (cy 0, 8, .inl (fun _ => 0))) := (k26 _ (z_nn ur23 a171)).trans a171
  have a173 : f28 q4 = some (.inl (cy 0, 8, .inl (fun _ => 0))) := (k30 _ (Ne.symm (z_nn ur5 a2))).trans a172
  have a174 : f33 q4 = some (.inl (cy 0, 8, .inl (fun _ => 0))) := (k35 _ (z_nn ur32 a173)).trans a173
  have a175 : f37 q4 = some (.inl (cy 0, 8, .inl (fun _ => 0))) := (k39 _ (Ne.symm (z_nn ur5 a2))).trans a174
  have a176 : f42 q4 = some (.inl (cy 0, 8, .inl (fun _ => 0))) := (k44 _ (z_nn ur41 a175)).trans a175
  have a177 : f46 q4 = some (.inl (cy 0, 8, .inl (fun _ => 0))) := (k48 _ (Ne.symm (z_nn ur5 a2))).trans a176
  have a178 : f51 q4 = some (.inl (cy 0, 8, .inl (fun _ => 0))) := (k53 _ (z_nn ur50 a177)).trans a177
  have a179 : f55 q4 = some (.inl (cy 0, 8, .inl (fun _ => 0))) := (k57 _ (Ne.symm (z_nn ur5 a2))).trans a178
  have a180 : f60 q4 = some (.inl (cy 0, 8, .inl (fun _ => 0))) := (k62 _ (z_nn ur59 a179)).trans a179
  have a181 : f64 q4 = some (.inl (cy 0, 8, .inl (fun _ => 0))) := (k66 _ (Ne.symm (z_nn ur5 a2))).trans a180
  have a182 : f69 q4 = some (.inl (cy 0, 8, .inl (fun _ => 0))) := (k71 _ (z_nn ur68 a181)).trans a181
  have a183 : f73 q4 = some (.inl (cy 0, 8, .inl (fun _ => 0))) := (k75 _ (Ne.symm (z_nn ur5 a2))).trans a182
  have a184 : f78 q4 = some (.inl (cy 0, 8, .inl (fun _ => 0))) := (k80 _ (z_nn ur77 a183)).trans a183
  have a185 : f82 q4 = some (.inl (cy 0, 8, .inl (fun _ => 0))) := (k84 _ (Ne.symm (z_nn ur5 a2))).trans a184
  have a186 : f87 q4 = some (.inl (cy 0, 8, .inl (fun _ => 0))) := (k89 _ (z_nn ur86 a185)).trans a185
  have a187 : f91 q4 = some (.inl (cy 0, 8, .inl (fun _ => 0))) := (k93 _ (Ne.symm (z_nn ur5 a2))).trans a186
  have a188 : f96 q4 = some (.inl (cy 0, 8, .inl (fun _ => 0))) := (k98 _ (z_nn ur95 a187)).trans a187
  have a189 : f100 q4 = some (.inl (cy 0, 8, .inl (fun _ => 0))) := (k102 _ (Ne.symm (z_nn ur5 a2))).trans a188
  have a190 : f105 q4 = some (.inl (cy 0, 8, .inl (fun _ => 0))) := (k107 _ (z_nn ur104 a189)).trans a189
  have a191 : f109 q4 = some (.inl (cy 0, 8, .inl (fun _ => 0))) := (k111 _ (Ne.symm (z_nn ur5 a2))).trans a190
  have a192 : f114 q4 = some (.inl (cy 0, 8, .inl (fun _ => 0))) := (k116 _ (z_nn ur113 a191)).trans a191
  have a193 : f118 q4 = some (.inl (cy 0, 8, .inl (fun _ => 0))) := (k120 _ (Ne.symm (z_nn ur5 a2))).trans a192
  have a194 : f123 q4 = some (.inl (cy 0, 8, .inl (fun _ => 0))) := (k125 _ (z_nn ur122 a193)).trans a193
  have a195 : f127 q4 = some (.inl (cy 0, 8, .inl (fun _ => 0))) := (k129 _ (Ne.symm (z_nn ur5 a2))).trans a194
  have a196 : f132 q4 = some (.inl (cy 0, 8, .inl (fun _ => 0))) := (k134 _ (z_nn ur131 a195)).trans a195
  have a197 : f136 q4 = some (.inl (cy 0, 8, .inl (fun _ => 0))) := (k138 _ (Ne.symm (z_nn ur5 a2))).trans a196
  have a198 : f139 q4 = some (.inl (cy 0, 8, .inl (fun _ => 0))) := (k141 _ (Ne.symm (z_nn ur5 a2))).trans a197
  have a199 : f144 q4 = some (.inl (cy 0, 8, .inl (fun _ => 0))) := (k146 _ (z_nn ur143 a198)).trans a198
  have a200 : f148 q4 = some (.inl (cy 0, 8, .inl (fun _ => 0))) := (k150 _ (Ne.symm (z_nn ur5 a2))).trans a199
  have a201 : f153 q4 = some (.inl (cy 0, 8, .inl (fun _ => 0))) := (k155 _ (z_nn ur152 a200)).trans a200
  have a202 : f157 q4 = some (.inl (cy 0, 8, .inl (fun _ => 0))) := (k159 _ (Ne.symm (z_nn ur5 a2))).trans a201
  have a203 : f162 q4 = some (.inl (cy 0, 8, .inl (fun _ => 0))) := (k164 _ (z_nn ur161 a202)).trans a202
  have a204 : f166 q4 = some (.inl (cy 0, 8, .inl (fun _ => 0))) := (k168 _ (Ne.symm (z_nn ur5 a2))).trans a203
  have a205 : f19 q13 = some (.inl (cy 0, 12, .inl (fun _ => 0))) := (k21 _ (Ne.symm (z_nn ur14 a11))).trans a16
  have a206 : f24 q13 = some (.inl (cy 0, 12, .inl (fun _ => 0))) := (k26 _ (z_nn ur23 a205)).trans a205
  have a207 : f28 q13 = some (.inl (cy 0, 12, .inl (fun _ => 0))) := (k30 _ (Ne.symm (z_nn ur14 a11))).trans a206
  have a208 : f33 q13 = some (.inl (cy 0, 12, .inl (fun _ => 0))) := (k35 _ (z_nn ur32 a207)).trans a207
  have a209 : f37 q13 = some (.inl (cy 0, 12, .inl (fun _ => 0))) := (k39 _ (Ne.symm (z_nn ur14 a11))).trans a208
  have a210 : f42 q13 = some (.inl (cy 0, 12, .inl (fun _ => 0))) := (k44 _ (z_nn ur41 a209)).trans a209
  have a211 : f46 q13 = some (.inl (cy 0, 12, .inl (fun _ => 0))) := (k48 _ (Ne.symm (z_nn ur14 a11))).trans a210
  have a212 : f51 q13 = some (.inl (cy 0, 12, .inl (fun _ => 0))) := (k53 _ (z_nn ur50 a211)).trans a211
  have a213 : f55 q13 = some (.inl (cy 0, 12, .inl (fun _ => 0))) := (k57 _ (Ne.symm (z_nn ur14 a11))).trans a212
  have a214 : f60 q13 = some (.inl (cy 0, 12, .inl (fun _ => 0))) := (k62 _ (z_nn ur59 a213)).trans a213
  have a215 : f64 q13 = some (.inl (cy 0, 12, .inl (fun _ => 0))) := (k66 _ (Ne.symm (z_nn ur14 a11))).trans a214
  have a216 : f69 q13 = some (.inl (cy 0, 12, .inl (fun _ => 0))) := (k71 _ (z_nn ur68 a215)).trans a215
  have a217 : f73 q13 = some (.inl (cy 0, 12, .inl (fun _ => 0))) := (k75 _ (Ne.symm (z_nn ur14 a11))).trans a216
  have a218 : f78 q13 = some (.inl (cy 0, 12, .inl (fun _ => 0))) := (k80 _ (z_nn ur77 a217)).trans a217
  have a219 : f82 q13 = some (.inl (cy 0, 12, .inl (fun _ => 0))) := (k84 _ (Ne.symm (z_nn ur14 a11))).trans a218
  have a220 : f87 q13 = some (.inl (cy 0, 12, .inl (fun _ => 0))) := (k89 _ (z_nn ur86 a219)).trans a219
  have a221 : f91 q13 = some (.inl (cy 0, 12, .inl (fun _ => 0))) := (k93 _ (Ne.symm (z_nn ur14 a11))).trans a220
  have a222 : f96 q13 = some (.inl (cy 0, 12, .inl (fun _ => 0))) := (k98 _ (z_nn ur95 a221)).trans a221
  have a223 : f100 q13 = some (.inl (cy 0, 12, .inl (fun _ => 0))) := (k102 _ (Ne.symm (z_nn ur14 a11))).trans a222
  have a224 : f105 q13 = some (.inl (cy 0, 12, .inl (fun _ => 0))) := (k107 _ (z_nn ur104 a223)).trans a223
  have a225 : f109 q13 = some (.inl (cy 0, 12, .inl (fun _ => 0))) := (k111 _ (Ne.symm (z_nn ur14 a11))).trans a224
  have a226 : f114 q13 = some (.inl (cy 0, 12, .inl (fun _ => 0))) := (k116 _ (z_nn ur113 a225)).trans a225
  have a227 : f118 q13 = some (.inl (cy 0, 12, .inl (fun _ => 0))) := (k120 _ (Ne.symm (z_nn ur14 a11))).trans a226
  have a228 : f123 q13 = some (.inl (cy 0, 12, .inl (fun _ => 0))) := (k125 _ (z_nn ur122 a227)).trans a227
  have a229 : f127 q13 = some (.inl (cy 0, 12, .inl (fun _ => 0))) := (k129 _ (Ne.symm (z_nn ur14 a11))).trans a228
  have a230 : f132 q13 = some (.inl (cy 0, 12, .inl (fun _ => 0))) := (k134 _ (z_nn ur131 a229)).trans a229
  have a231 : f136 q13 = some (.inl (cy 0, 12, .inl (fun _ => 0))) := (k138 _ (Ne.symm (z_nn ur14 a11))).trans a230
  have a232 : f139 q13 = some (.inl (cy 0, 12, .inl (fun _ => 0))) := (k141 _ (Ne.symm (z_nn ur14 a11))).trans a231
  have a233 : f144 q13 = some (.inl (cy 0, 12, .inl (fun _ => 0))) := (k146 _ (z_nn ur143 a232)).trans a232
  have a234 : f148 q13 = some (.inl (cy 0, 12, .inl (fun _ => 0))) := (k150 _ (Ne.symm (z_nn ur14 a11))).trans a233
  have a235 : f153 q13 = some (.inl (cy 0, 12, .inl (fun _ => 0))) := (k155 _ (z_nn ur152 a234)).trans a234
  have a236 : f157 q13 = some (.inl (cy 0, 12, .inl (fun _ => 0))) := (k159 _ (Ne.symm (z_nn ur14 a11))).trans a235
  have a237 : f162 q13 = some (.inl (cy 0, 12, .inl (fun _ => 0))) := (k164 _ (z_nn ur161 a236)).trans a236
  have a238 : f166 q13 = some (.inl (cy 0, 12, .inl (fun _ => 0))) := (k168 _ (Ne.symm (z_nn ur14 a11))).trans a237
  have a239 : f28 q22 = some (.inl (cy 0, 60, .inl (fun _ => 0))) := (k30 _ (Ne.symm (z_nn ur23 a20))).trans a25
  have a240 : f33 q22 = some (.inl (cy 0, 60, .inl (fun _ => 0))) := (k35 _ (z_nn ur32 a239)).trans a239
  have a241 : f37 q22 = some (.inl (cy 0, 60, .inl (fun _ => 0))) := (k39 _ (Ne.symm (z_nn ur23 a20))).trans a240
  have a242 : f42 q22 = some (.inl (cy 0, 60, .inl (fun _ => 0))) := (k44 _ (z_nn ur41 a241)).trans a241
  have a243 : f46 q22 = some (.inl (cy 0, 60, .inl (fun _ => 0))) := (k48 _ (Ne.symm (z_nn ur23 a20))).trans a242
  have a244 : f51 q22 = some (.inl (cy 0, 60, .inl (fun _ => 0))) := (k53 _ (z_nn ur50 a243)).trans a243
  have a245 : f55 q22 = some (.inl (cy 0, 60, .inl (fun _ => 0))) := (k57 _ (Ne.symm (z_nn ur23 a20))).trans a244
  have a246 : f60 q22 = some (.inl (cy 0, 60, .inl (fun _ => 0))) := (k62 _ (z_nn ur59 a245)).trans a245
  have a247 : f64 q22 = some (.inl (cy 0, 60, .inl (fun _ => 0))) := (k66 _ (Ne.symm (z_nn ur23 a20))).trans a246
  have a248 : f69 q22 = some (.inl (cy 0, 60, .inl (fun _ => 0))) := (k71 _ (z_nn ur68 a247)).trans a247
  have a249 : f73 q22 = some (.inl (cy 0, 60, .inl (fun _ => 0))) := (k75 _ (Ne.symm (z_nn ur23 a20))).trans a248
  have a250 : f78 q22 = some (.inl (cy 0, 60, .inl (fun _ => 0))) := (k80 _ (z_nn ur77 a249)).trans a249
  have a251 : f82 q22 = some (.inl (cy 0, 60, .inl (fun _ => 0))) := (k84 _ (Ne.symm (z_nn ur23 a20))).trans a250
  have a252 : f87 q22 = some (.inl (cy 0, 60, .inl (fun _ => 0))) := (k89 _ (z_nn ur86 a251)).trans a251
  have a253 : f91 q22 = some (.inl (cy 0, 60, .inl (fun _ => 0))) := (k93 _ (Ne.symm (z_nn ur23 a20))).trans a252
  have a254 : f96 q22 = some (.inl (cy 0, 60, .inl (fun _ => 0))) := (k98 _ (z_nn ur95 a253)).trans a253
  have a255 : f100 q22 = some (.inl (cy 0, 60, .inl (fun _ => 0))) := (k102 _ (Ne.symm (z_nn ur23 a20))).trans a254
  have a256 : f105 q22 = some (.inl (cy 0, 60, .inl (fun _ => 0))) := (k107 _ (z_nn ur104 a255)).trans a255
  have a257 : f109 q22 = some (.inl (cy 0, 60, .inl (fun _ => 0))) := (k111 _ (Ne.symm (z_nn ur23 a20))).trans a256
  have a258 : f114 q22 = some (.inl (cy 0, 60, .inl (fun _ => 0))) := (k116 _ (z_nn ur113 a257)).trans a257
  have a259 : f118 q22 = some (.inl (cy 0, 60, .inl (fun _ => 0))) := (k120 _ (Ne.symm (z_nn ur23 a20))).trans a258
  have a260 : f123 q22 = some (.inl (cy 0, 60, .inl (fun _ => 0))) := (k125 _ (z_nn ur122 a259)).trans a259
  have a261 : f127 q22 = some (.inl (cy 0, 60, .inl (fun _ => 0))) := (k129 _ (Ne.symm (z_nn ur23 a20))).trans a260
  have a262 : f132 q22 = some (.inl (cy 0, 60, .inl (fun _ => 0))) := (k134 _ (z_nn ur131 a261)).trans a261
  have a263 : f136 q22 = some (.inl (cy 0, 60, .inl (fun _ => 0))) := (k138 _ (Ne.symm (z_nn ur23 a20))).trans a262
  have a264 : f139 q22 = some (.inl (cy 0, 60, .inl (fun _ => 0))) := (k141 _ (Ne.symm (z_nn ur23 a20))).trans a263
  have a265 : f144 q22 = some (.inl (cy 0, 60, .inl (fun _ => 0))) := (k146 _ (z_nn ur143 a264)).trans a264
  have a266 : f148 q22 = some (.inl (cy 0, 60, .inl (fun _ => 0))) := (k150 _ (Ne.symm (z_nn ur23 a20))).trans a265
  have a267 : f153 q22 = some (.inl (cy 0, 60, .inl (fun _ => 0))) := (k155 _ (z_nn ur152 a266)).trans a266
  have a268 : f157 q22 = some (.inl (cy 0, 60, .inl (fun _ => 0))) := (k159 _ (Ne.symm (z_nn ur23 a20))).trans a267
  have a269 : f162 q22 = some (.inl (cy 0, 60, .inl (fun _ => 0))) := (k164 _ (z_nn ur161 a268)).trans a268
  have a270 : f166 q22 = some (.inl (cy 0, 60, .inl (fun _ => 0))) := (k168 _ (Ne.symm (z_nn ur23 a20))).trans a269
  have a271 : f37 q31 = some (.inl (cy 0, 60, .inl (fun _ => 0))) := (k39 _ (Ne.symm (z_nn ur32 a29))).trans a34
  have a272 : f42 q31 = some (.inl (cy 0, 60, .inl (fun _ => 0))) := (k44 _ (z_nn ur41 a271)).trans a271
  have a273 : f46 q31 = some (.inl (cy 0, 60, .inl (fun _ => 0))) := (k48 _ (Ne.symm (z_nn ur32 a29))).trans a272
  have a274 : f51 q31 = some (.inl (cy 0, 60, .inl (fun _ => 0))) := (k53 _ (z_nn ur50 a273)).trans a273
  have a275 : f55 q31 = some (.inl (cy 0, 60, .inl (fun _ => 0))) := (k57 _ (Ne.symm (z_nn ur32 a29))).trans a274
  have a276 : f60 q31 = some (.inl (cy 0, 60, .inl (fun _ => 0))) := (k62 _ (z_nn ur59 a275)).trans a275
  have a277 : f64 q31 = some (.inl (cy 0, 60, .inl (fun _ => 0))) := (k66 _ (Ne.symm (z_nn ur32 a29))).trans a276
  have a278 : f69 q31 = some (.inl (cy 0, 60, .inl (fun _ => 0))) := (k71 _ (z_nn ur68 a277)).trans a277
  have a279 : f73 q31 = some (.inl (cy 0, 60, .inl (fun _ => 0))) := (k75 _ (Ne.symm (z_nn ur32 a29))).trans a278
  have a280 : f78 q31 = some (.inl (cy 0, 60, .inl (fun _ => 0))) := (k80 _ (z_nn ur77 a279)).trans a279
  have a281 : f82 q31 = some (.inl (cy 0, 60, .inl (fun _ => 0))) := (k84 _ (Ne.symm (z_nn ur32 a29))).trans a280
  have a282 : f87 q31 = some (.inl (cy 0, 60, .inl (fun _ => 0))) := (k89 _ (z_nn ur86 a281)).trans a281
  have a283 : f91 q31 = some (.inl (cy 0, 60, .inl (fun _ => 0))) := (k93 _ (Ne.symm (z_nn ur32 a29))).trans a282
  have a284 : f96 q31 = some (.inl (cy 0, 60, .inl (fun _ => 0))) := (k98 _ (z_nn ur95 a283)).trans a283
  have a285 : f100 q31 = some (.inl (cy 0, 60, .inl (fun _ => 0))) := (k102 _ (Ne.symm (z_nn ur32 a29))).trans a284
  have a286 : f105 q31 = some (.inl (cy 0, 60, .inl (fun _ => 0))) := (k107 _ (z_nn ur104 a285)).trans a285
  have a287 : f109 q31 = some (.inl (cy 0, 60, .inl (fun _ => 0))) := (k111 _ (Ne.symm (z_nn ur32 a29))).trans a286
  have a288 : f114 q31 = some (.inl (cy 0, 60, .inl (fun _ => 0))) := (k116 _ (z_nn ur113 a287)).trans a287
  have a289 : f118 q31 = some (.inl (cy 0, 60, .inl (fun _ => 0))) := (k120 _ (Ne.symm (z_nn ur32 a29))).trans a288
  have a290 : f123 q31 = some (.inl (cy 0, 60, .inl (fun _ => 0))) := (k125 _ (z_nn ur122 a289)).trans a289
  have a291 : f127 q31 = some (.inl (cy 0, 60, .inl (fun _ => 0))) := (k129 _ (Ne.symm (z_nn ur32 a29))).trans a290
  have a292 : f132 q31 = some (.inl (cy 0, 60, .inl (fun _ => 0))) := (k134 _ (z_nn ur131 a291)).trans a291
  have a293 : f136 q31 = some (.inl (cy 0, 60, .inl (fun _ => 0))) := (k138 _ (Ne.symm (z_nn ur32 a29))).trans a292
  have a294 : f139 q31 = some (.inl (cy 0, 60, .inl (fun _ => 0))) := (k141 _ (Ne.symm (z_nn ur32 a29))).trans a293
  have a295 : f144 q31 = some (.inl (cy 0, 60, .inl (fun _ => 0))) := (k146 _ (z_nn ur143 a294)).trans a294
  have a296 : f148 q31 = some (.inl (cy 0, 60, .inl (fun _ => 0))) := (k150 _ (Ne.symm (z_nn ur32 a29))).trans a295
  have a297 : f153 q31 = some (.inl (cy 0, 60, .inl (fun _ => 0))) := (k155 _ (z_nn ur152 a296)).trans a296
  have a298 : f157 q31 = some (.inl (cy 0, 60, .inl (fun _ => 0))) := (k159 _ (Ne.symm (z_nn ur32 a29))).trans a297
  have a299 : f162 q31 = some (.inl (cy 0, 60, .inl (fun _ => 0))) := (k164 _ (z_nn ur161 a298)).trans a298
  have a300 : f166 q31 = some (.inl (cy 0, 60, .inl (fun _ => 0))) := (k168 _ (Ne.symm (z_nn ur32 a29))).trans a299
  have a301 : f46 q40 = some (.inl (cy 1, 960, .inr (.inl (fun _ => 0)))) := (k48 _ (Ne.symm (z_nn ur41 a38))).trans a43
  have a302 : f51 q40 = some (.inl (cy 1, 960, .inr (.inl (fun _ => 0)))) := (k53 _ (z_nn ur50 a301)).trans a301
  have a303 : f55 q40 = some (.inl (cy 1, 960, .inr (.inl (fun _ => 0)))) := (k57 _ (Ne.symm (z_nn ur41 a38))).trans a302
  have a304 : f60 q40 = some (.inl (cy 1, 960, .inr (.inl (fun _ => 0)))) := (k62 _ (z_nn ur59 a303)).trans a303
  have a305 : f64 q40 = some (.inl (cy 1, 960, .inr (.inl (fun _ => 0)))) := (k66 _ (Ne.symm (z_nn ur41 a38))).trans a304
  have a306 : f69 q40 = some (.inl (cy 1, 960, .inr (.inl (fun _ => 0)))) := (k71 _ (z_nn ur68 a305)).trans a305
  have a307 : f73 q40 = some (.inl (cy 1, 960, .inr (.inl (fun _ => 0)))) := (k75 _ (Ne.symm (z_nn ur41 a38))).trans a306
  have a308 : f78 q40 = some (.inl (cy 1, 960, .inr (.inl (fun _ => 0)))) := (k80 _ (z_nn ur77 a307)).trans a307
  have a309 : f82 q40 = some (.inl (cy 1, 960, .inr (.inl (fun _ => 0)))) := (k84 _ (Ne.symm (z_nn ur41 a38))).trans a308
  have a310 : f87 q40 = some (.inl (cy 1, 960, .inr (.inl (fun _ => 0)))) := (k89 _ (z_nn ur86 a309)).trans a309
  have a311 : f91 q40 = some (.inl (cy 1, 960, .inr (.inl (fun _ => 0)))) := (k93 _ (Ne.symm (z_nn ur41 a38))).trans a310
  have a312 : f96 q40 = some (.inl (cy 1, 960, .inr (.inl (fun _ => 0)))) := (k98 _ (z_nn ur95 a311)).trans a311
  have a313 : f100 q40 = some (.inl (cy 1, 960, .inr (.inl (fun _ => 0)))) := (k102 _ (Ne.symm (z_nn ur41 a38))).trans a312
  have a314 : f105 q40 = some (.inl (cy 1, 960, .inr (.inl (fun _ => 0)))) := (k107 _ (z_nn ur104 a313)).trans a313
  have a315 : f109 q40 = some (.inl (cy 1, 960, .inr (.inl (fun _ => 0)))) := (k111 _ (Ne.symm (z_nn ur41 a38))).trans a314
  have a316 : f114 q40 = some (.inl (cy 1, 960, .inr (.inl (fun _ => 0)))) := (k116 _ (z_nn ur113 a315)).trans a315
  have a317 : f118 q40 = some (.inl (cy 1, 960, .inr (.inl (fun _ => 0)))) := (k120 _ (Ne.symm (z_nn ur41 a38))).trans a316
  have a318 : f123 q40 = some (.inl (cy 1, 960, .inr (.inl (fun _ => 0)))) := (k125 _ (z_nn ur122 a317)).trans a317
  have a319 : f127 q40 = some (.inl (cy 1, 960, .inr (.inl (fun _ => 0)))) := (k129 _ (Ne.symm (z_nn ur41 a38))).trans a318
  have a320 : f132 q40 = some (.inl (cy 1, 960, .inr (.inl (fun _ => 0)))) := (k134 _ (z_nn ur131 a319)).trans a319
  have a321 : f136 q40 = some (.inl (cy 1, 960, .inr (.inl (fun _ => 0)))) := (k138 _ (Ne.symm (z_nn ur41 a38))).trans a320
  have a322 : f139 q40 = some (.inl (cy 1, 960, .inr (.inl (fun _ => 0)))) := (k141 _ (Ne.symm (z_nn ur41 a38))).trans a321
  have a323 : f144 q40 = some (.inl (cy 1, 960, .inr (.inl (fun _ => 0)))) := (k146 _ (z_nn ur143 a322)).trans a322
  have a324 : f148 q40 = some (.inl (cy 1, 960, .inr (.inl (fun _ => 0)))) := (k150 _ (Ne.symm (z_nn ur41 a38))).trans a323
  have a325 : f153 q40 = some (.inl (cy 1, 960, .inr (.inl (fun _ => 0)))) := (k155 _ (z_nn ur152 a324)).trans a324
  have a326 : f157 q40 = some (.inl (cy 1, 960, .inr (.inl (fun _ => 0)))) := (k159 _ (Ne.symm (z_nn ur41 a38))).trans a325
  have a327 : f162 q40 = some (.inl (cy 1, 960, .inr (.inl (fun _ => 0)))) := (k164 _ (z_nn ur161 a326)).trans a326
  have a328 : f166 q40 = some (.inl (cy 1, 960, .inr (.inl (fun _ => 0)))) := (k168 _ (Ne.symm (z_nn ur41 a38))).trans a327
  have a329 : f55 q49 = some (.inl (cy 2, 60, .inl (fun _ => 0))) := (k57 _ (Ne.symm (z_nn ur50 a47))).trans a52
  have a330 : f60 q49 = some (.inl (cy 2, 60, .inl (fun _ => 0))) := (k62 _ (z_nn ur59 a329)).trans a329
  have a331 : f64 q49 = some (.inl (cy 2, 60, .inl (fun _ => 0))) := (k66 _ (Ne.symm (z_nn ur50 a47))).trans a330
  have a332 : f69 q49 = some (.inl (cy 2, 60, .inl (fun _ => 0))) := (k71 _ (z_nn ur68 a331)).trans a331
  have a333 : f73 q49 = some (.inl (cy 2, 60, .inl (fun _ => 0))) := (k75 _ (Ne.symm (z_nn ur50 a47))).trans a332
  have a334 : f78 q49 = some (.inl (cy 2, 60, .inl (fun _ => 0))) := (k80 _ (z_nn ur77 a333)).trans a333
  have a335 : f82 q49 = some (.inl (cy 2, 60, .inl (fun _ => 0))) := (k84 _ (Ne.symm (z_nn ur50 a47))).trans a334
  have a336 : f87 q49 = some (.inl (cy 2, 60, .inl (fun _ => 0))) := (k89 _ (z_nn ur86 a335)).trans a335
  have a337 : f91 q49 = some (.inl (cy 2, 60, .inl (fun _ => 0))) := (k93 _ (Ne.symm (z_nn ur50 a47))).trans a336
  have a338 : f96 q49 = some (.inl (cy 2, 60, .inl (fun _ => 0))) := (k98 _ (z_nn ur95 a337)).trans a337
  have a339 : f100 q49 = some (.inl (cy 2, 60, .inl (fun _ => 0))) := (k102 _ (Ne.symm (z_nn ur50 a47))).trans a338
  have a340 : f105 q49 = some (.inl (cy 2, 60, .inl (fun _ => 0))) := (k107 _ (z_nn ur104 a339)).trans a339
  have a341 : f109 q49 = some (.inl (cy 2, 60, .inl (fun _ => 0))) := (k111 _ (Ne.symm (z_nn ur50 a47))).trans a340
  have a342 : f114 q49 = some (.inl (cy 2, 60, .inl (fun _ => 0))) := (k116 _ (z_nn ur113 a341)).trans a341
  have a343 : f118 q49 = some (.inl (cy 2, 60, .inl (fun _ => 0))) := (k120 _ (Ne.symm (z_nn ur50 a47))).trans a342
  have a344 : f123 q49 = some (.inl (cy 2, 60, .inl (fun _ => 0))) := (k125 _ (z_nn ur122 a343)).trans a343
  have a345 : f127 q49 = some (.inl (cy 2, 60, .inl (fun _ => 0))) := (k129 _ (Ne.symm (z_nn ur50 a47))).trans a344
  have a346 : f132 q49 = some (.inl (cy 2, 60, .inl (fun _ => 0))) := (k134 _ (z_nn ur131 a345)).trans a345
  have a347 : f136 q49 = some (.inl (cy 2, 60, .inl (fun _ => 0))) := (k138 _ (Ne.symm (z_nn ur50 a47))).trans a346
  have a348 : f139 q49 = some (.inl (cy 2, 60, .inl (fun _ => 0))) := (k141 _ (Ne.symm (z_nn ur50 a47))).trans a347
  have a349 : f144 q49 = some (.inl (cy 2, 60, .inl (fun _ => 0))) := (k146 _ (z_nn ur143 a348)).trans a348
  have a350 : f148 q49 = some (.inl (cy 2, 60, .inl (fun _ => 0))) := (k150 _ (Ne.symm (z_nn ur50 a47))).trans a349
  have a351 : f153 q49 = some (.inl (cy 2, 60, .inl (fun _ => 0))) := (k155 _ (z_nn ur152 a350)).trans a350
  have a352 : f157 q49 = some (.inl (cy 2, 60, .inl (fun _ => 0))) := (k159 _ (Ne.symm (z_nn ur50 a47))).trans a351
  have a353 : f162 q49 = some (.inl (cy 2, 60, .inl (fun _ => 0))) := (k164 _ (z_nn ur161 a352)).trans a352
  have a354 : f166 q49 = some (.inl (cy 2, 60, .inl (fun _ => 0))) := (k168 _ (Ne.symm (z_nn ur50 a47))).trans a353
  have a355 : f64 q58 = some (.inl (cy 0, 60, .inl (fun _ => 0))) := (k66 _ (Ne.symm (z_nn ur59 a56))).trans a61
  have a356 : f69 q58 = some (.inl (cy 0, 60, .inl (fun _ => 0))) := (k71 _ (z_nn ur68 a355)).trans a355
  have a357 : f73 q58 = some (.inl (cy 0, 60, .inl (fun _ => 0))) := (k75 _ (Ne.symm (z_nn ur59 a56))).trans a356
  have a358 : f78 q58 = some (.inl (cy 0, 60, .inl (fun _ => 0))) := (k80 _ (z_nn ur77 a357)).trans a357
  have a359 : f82 q58 = some (.inl (cy 0, 60, .inl (fun _ => 0))) := (k84 _ (Ne.symm (z_nn ur59 a56))).trans a358
  have a360 : f87 q58 = some (.inl (cy 0, 60, .inl (fun _ => 0))) := (k89 _ (z_nn ur86 a359)).trans a359
  have a361 : f91 q58 = some (.inl (cy 0, 60, .inl (fun _ => 0))) := (k93 _ (Ne.symm (z_nn ur59 a56))).trans a360
  have a362 : f96 q58 = some (.inl (cy 0, 60, .inl (fun _ => 0))) := (k98 _ (z_nn ur95 a361)).trans a361
  have a363 : f100 q58 = some (.inl (cy 0, 60, .inl (fun _ => 0))) := (k102 _ (Ne.symm (z_nn ur59 a56))).trans a362
  have a364 : f105 q58 = some (.inl (cy 0, 60, .inl (fun _ => 0))) := (k107 _ (z_nn ur104 a363)).trans a363
  have a365 : f109 q58 = some (.inl (cy 0, 60, .inl (fun _ => 0))) := (k111 _ (Ne.symm (z_nn ur59 a56))).trans a364
  have a366 : f114 q58 = some (.inl (cy 0, 60, .inl (fun _ => 0))) := (k116 _ (z_nn ur113 a365)).trans a365
  have a367 : f118 q58 = some (.inl (cy 0, 60, .inl (fun _ => 0))) := (k120 _ (Ne.symm (z_nn ur59 a56))).trans a366
  have a368 : f123 q58 = some (.inl (cy 0, 60, .inl (fun _ => 0))) := (k125 _ (z_nn ur122 a367)).trans a367
  have a369 : f127 q58 = some (.inl (cy 0, 60, .inl (fun _ => 0))) := (k129 _ (Ne.symm (z_nn ur59 a56))).trans a368
  have a370 : f132 q58 = some (.inl (cy 0, 60, .inl (fun _ => 0))) := (k134 _ (z_nn ur131 a369)).trans a369
  have a371 : f136 q58 = some (.inl (cy 0, 60, .inl (fun _ => 0))) := (k138 _ (Ne.symm (z_nn ur59 a56))).trans a370
  have a372 : f139 q58 = some (.inl (cy 0, 60, .inl (fun _ => 0))) := (k141 _ (Ne.symm (z_nn ur59 a56))).trans a371
  have a373 : f144 q58 = some (.inl (cy 0, 60, .inl (fun _ => 0))) := (k146 _ (z_nn ur143 a372)).trans a372
  have a374 : f148 q58 = some (.inl (cy 0, 60, .inl (fun _ => 0))) := (k150 _ (Ne.symm (z_nn ur59 a56))).trans a373
  have a375 : f153 q58 = some (.inl (cy 0, 60, .inl (fun _ => 0))) := (k155 _ (z_nn ur152 a374)).trans a374
  have a376 : f157 q58 = some (.inl (cy 0, 60, .inl (fun _ => 0))) := (k159 _ (Ne.symm (z_nn ur59 a56))).trans a375
  have a377 : f162 q58 = some (.inl (cy 0, 60, .inl (fun _ => 0))) := (k164 _ (z_nn ur161 a376)).trans a376
  have a378 : f166 q58 = some (.inl (cy 0, 60, .inl (fun _ => 0))) := (k168 _ (Ne.symm (z_nn ur59 a56))).trans a377
  have a379 : f73 q67 = some (.inl (cy 0, 60, .inl (fun _ => 0))) := (k75 _ (Ne.symm (z_nn ur68 a65))).trans a70
  have a380 : f78 q67 = some (.inl (cy 0, 60, .inl (fun _ => 0))) := (k80 _ (z_nn ur77 a379)).trans a379
  have a381 : f82 q67 = some (.inl (cy 0, 60, .inl (fun _ => 0))) := (k84 _ (Ne.symm (z_nn ur68 a65))).trans a380
  have a382 : f87 q67 = some (.inl (cy 0, 60, .inl (fun _ => 0))) := (k89 _ (z_nn ur86 a381)).trans a381
  have a383 : f91 q67 = some (.inl (cy 0, 60, .inl (fun _ => 0))) := (k93 _ (Ne.symm (z_nn ur68 a65))).trans a382
  have a384 : f96 q67 = some (.inl (cy 0, 60, .inl (fun _ => 0))) := (k98 _ (z_nn ur95 a383)).trans a383
  have a385 : f100 q67 = some (.inl (cy 0, 60, .inl (fun _ => 0))) := (k102 _ (Ne.symm (z_nn ur68 a65))).trans a384
  have a386 : f105 q67 = some (.inl (cy 0, 60, .inl (fun _ => 0))) := (k107 _ (z_nn ur104 a385)).trans a385
  have a387 : f109 q67 = some (.inl (cy 0, 60, .inl (fun _ => 0))) := (k111 _ (Ne.symm (z_nn ur68 a65))).trans a386
  have a388 : f114 q67 = some (.inl (cy 0, 60, .inl (fun _ => 0))) := (k116 _ (z_nn ur113 a387)).trans a387
  have a389 : f118 q67 = some (.inl (cy 0, 60, .inl (fun _ => 0))) := (k120 _ (Ne.symm (z_nn ur68 a65))).trans a388
  have a390 : f123 q67 = some (.inl (cy 0, 60, .inl (fun _ => 0))) := (k125 _ (z_nn ur122 a389)).trans a389
  have a391 : f127 q67 = some (.inl (cy 0, 60, .inl (fun _ => 0))) := (k129 _ (Ne.symm (z_nn ur68 a65))).trans a390
  have a392 : f132 q67 = some (.inl (cy 0, 60, .inl (fun _ => 0))) := (k134 _ (z_nn ur131 a391)).trans a391
  have a393 : f136 q67 = some (.inl (cy 0, 60, .inl (fun _ => 0))) := (k138 _ (Ne.symm (z_nn ur68 a65))).trans a392
  have a394 : f139 q67 = some (.inl (cy 0, 60, .inl (fun _ => 0))) := (k141 _ (Ne.symm (z_nn ur68 a65))).trans a393
  have a395 : f144 q67 = some (.inl (cy 0, 60, .inl (fun _ => 0))) := (k146 _ (z_nn ur143 a394)).trans a394
  have a396 : f148 q67 = some (.inl (cy 0, 60, .inl (fun _ => 0))) := (k150 _ (Ne.symm (z_nn ur68 a65))).trans a395
  have a397 : f153 q67 = some (.inl (cy 0, 60, .inl (fun _ => 0))) := (k155 _ (z_nn ur152 a396)).trans a396
  have a398 : f157 q67 = some (.inl (cy 0, 60, .inl (fun _ => 0))) := (k159 _ (Ne.symm (z_nn ur68 a65))).trans a397
  have a399 : f162 q67 = some (.inl (cy 0, 60, .inl (fun _ => 0))) := (k164 _ (z_nn ur161 a398)).trans a398
  have a400 : f166 q67 = some (.inl (cy 0, 60, .inl (fun _ => 0))) := (k168 _ (Ne.symm (z_nn ur68 a65))).trans a399
  have a401 : f82 q76 = some (.inl (cy 1, 60, .inr (.inl (fun _ => 0)))) := (k84 _ (Ne.symm (z_nn ur77 a74))).trans a79
  have a402 : f87 q76 = some (.inl (cy 1, 60, .inr (.inl (fun _ => 0)))) := (k89 _ (z_nn ur86 a401)).trans a401
  have a403 : f91 q76 = some (.inl (cy 1, 60, .inr (.inl (fun _ => 0)))) := (k93 _ (Ne.symm (z_nn ur77 a74))).trans a402
  have a404 : f96 q76 = some (.inl (cy 1, 60, .inr (.inl (fun _ => 0)))) := (k98 _ (z_nn ur95 a403)).trans a403
  have a405 : f100 q76 = some (.inl (cy 1, 60, .inr (.inl (fun _ => 0)))) := (k102 _ (Ne.symm (z_nn ur77 a74))).trans a404
  have a406 : f105 q76 = some (.inl (cy 1, 60, .inr (.inl (fun _ => 0)))) := (k107 _ (z_nn ur104 a405)).trans a405
  have a407 : f109 q76 = some (.inl (cy 1, 60, .inr (.inl (fun _ => 0)))) := (k111 _ (Ne.symm (z_nn ur77 a74))).trans a406
  have a408 : f114 q76 = some (.inl (cy 1, 60, .inr (.inl (fun _ => 0)))) := (k116 _ (z_nn ur113 a407)).trans a407
  have a409 : f118 q76 = some (.inl (cy 1, 60, .inr (.inl (fun _ => 0)))) := (k120 _ (Ne.symm (z_nn ur77 a74))).trans a408
  have a410 : f123 q76 = some (.inl (cy 1, 60, .inr (.inl (fun _ => 0)))) := (k125 _ (z_nn ur122 a409)).trans a409
  have a411 : f127 q76 = some (.inl (cy 1, 60, .inr (.inl (fun _ => 0)))) := (k129 _ (Ne.symm (z_nn ur77 a74))).trans a410
  have a412 : f132 q76 = some (.inl (cy 1, 60, .inr (.inl (fun _ => 0)))) := (k134 _ (z_nn ur131 a411)).trans a411
  have a413 : f136 q76 = some (.inl (cy 1, 60, .inr (.inl (fun _ => 0)))) := (k138 _ (Ne.symm (z_nn ur77 a74))).trans a412
  have a414 : f139 q76 = some (.inl (cy 1, 60, .inr (.inl (fun _ => 0)))) := (k141 _ (Ne.symm (z_nn ur77 a74))).trans a413
  have a415 : f144 q76 = some (.inl (cy 1, 60, .inr (.inl (fun _ => 0)))) := (k146 _ (z_nn ur143 a414)).trans a414
  have a416 : f148 q76 = some (.inl (cy 1, 60, .inr (.inl (fun _ => 0)))) := (k150 _ (Ne.symm (z_nn ur77 a74))).trans a415
  have a417 : f153 q76 = some (.inl (cy 1, 60, .inr (.inl (fun _ => 0)))) := (k155 _ (z_nn ur152 a416)).trans a416
  have a418 : f157 q76 = some (.inl (cy 1, 60, .inr (.inl (fun _ => 0)))) := (k159 _ (Ne.symm (z_nn ur77 a74))).trans a417
  have a419 : f162 q76 = some (.inl (cy 1, 60, .inr (.inl (fun _ => 0)))) := (k164 _ (z_nn ur161 a418)).trans a418
  have a420 : f166 q76 = some (.inl (cy 1, 60, .inr (.inl (fun _ => 0)))) := (k168 _ (Ne.symm (z_nn ur77 a74))).trans a419
  have a421 : f91 q85 = some (.inl (cy 0, 6, .inl (fun _ => 0))) := (k93 _ (Ne.symm (z_nn ur86 a83))).trans a88
  have a422 : f96 q85 = some (.inl (cy 0, 6, .inl (fun _ => 0))) := (k98 _ (z_nn ur95 a421)).trans a421
  have a423 : f100 q85 = some (.inl (cy 0, 6, .inl (fun _ => 0))) := (k102 _ (Ne.symm (z_nn ur86 a83))).trans a422
  have a424 : f105 q85 = some (.inl (cy 0, 6, .inl (fun _ => 0))) := (k107 _ (z_nn ur104 a423)).trans a423
  have a425 : f109 q85 = some (.inl (cy 0, 6, .inl (fun _ => 0))) := (k111 _ (Ne.symm (z_nn ur86 a83))).trans a424
  have a426 : f114 q85 = some (.inl (cy 0, 6, .inl (fun _ => 0))) := (k116 _ (z_nn ur113 a425)).trans a425
  have a427 : f118 q85 = some (.inl (cy 0, 6, .inl (fun _ => 0))) := (k120 _ (Ne.symm (z_nn ur86 a83))).trans a426
  have a428 : f123 q85 = some (.inl (cy 0, 6, .inl (fun _ => 0))) := (k125 _ (z_nn ur122 a427)).trans a427
  have a429 : f127 q85 = some (.inl (cy 0, 6, .inl (fun _ => 0))) := (k129 _ (Ne.symm (z_nn ur86 a83))).trans a428
  have a430 : f132 q85 = some (.inl (cy 0, 6, .inl (fun _ => 0))) := (k134 _ (z_nn ur131 a429)).trans a429
  have a431 : f136 q85 = some (.inl (cy 0, 6, .inl (fun _ => 0))) := (k138 _ (Ne.symm (z_nn ur86 a83))).trans a430
  have a432 : f139 q85 = some (.inl (cy 0, 6, .inl (fun _ => 0))) := (k141 _ (Ne.symm (z_nn ur86 a83))).trans a431
  have a433 : f144 q85 = some (.inl (cy 0, 6, .inl (fun _ => 0))) := (k146 _ (z_nn ur143 a432)).trans a432
  have a434 : f148 q85 = some (.inl (cy 0, 6, .inl (fun _ => 0))) := (k150 _ (Ne.symm (z_nn ur86 a83))).trans a433
  have a435 : f153 q85 = some (.inl (cy 0, 6, .inl (fun _ => 0))) := (k155 _ (z_nn ur152 a434)).trans a434
  have a436 : f157 q85 = some (.inl (cy 0, 6, .inl (fun _ => 0))) := (k159 _ (Ne.symm (z_nn ur86 a83))).trans a435
  have a437 : f162 q85 = some (.inl (cy 0, 6, .inl (fun _ => 0))) := (k164 _ (z_nn ur161 a436)).trans a436
  have a438 : f166 q85 = some (.inl (cy 0, 6, .inl (fun _ => 0))) := (k168 _ (Ne.symm (z_nn ur86 a83))).trans a437
  have a439 : f100 q94 = some (.inl (cy 0, 24, .inl (fun _ => 0))) := (k102 _ (Ne.symm (z_nn ur95 a92))).trans a97
  have a440 : f105 q94 = some (.inl (cy 0, 24, .inl (fun _ => 0))) := (k107 _ (z_nn ur104 a439)).trans a439
  have a441 : f109 q94 = some (.inl (cy 0, 24, .inl (fun _ => 0))) := (k111 _ (Ne.symm (z_nn ur95 a92))).trans a440
  have a442 : f114 q94 = some (.inl (cy 0, 24, .inl (fun _ => 0))) := (k116 _ (z_nn ur113 a441)).trans a441
  have a443 : f118 q94 = some (.inl (cy 0, 24, .inl (fun _ => 0))) := (k120 _ (Ne.symm (z_nn ur95 a92))).trans a442
  have a444 : f123 q94 = some (.inl (cy 0, 24, .inl (fun _ => 0))) := (k125 _ (z_nn ur122 a443)).trans a443
  have a445 : f127 q94 = some (.inl (cy 0, 24, .inl (fun _ => 0))) := (k129 _ (Ne.symm (z_nn ur95 a92))).trans a444
  have a446 : f132 q94 = some (.inl (cy 0, 24, .inl (fun _ => 0))) := (k134 _ (z_nn ur131 a445)).trans a445
  have a447 : f136 q94 = some (.inl (cy 0, 24, .inl (fun _ => 0))) := (k138 _ (Ne.symm (z_nn ur95 a92))).trans a446
  have a448 : f139 q94 = some (.inl (cy 0, 24, .inl (fun _ => 0))) := (k141 _ (Ne.symm (z_nn ur95 a92))).trans a447
  have a449 : f144 q94 = some (.inl (cy 0, 24, .inl (fun _ => 0))) := (k146 _ (z_nn ur143 a448)).trans a448
  have a450 : f148 q94 = some (.inl (cy 0, 24, .inl (fun _ => 0))) := (k150 _ (Ne.symm (z_nn ur95 a92))).trans a449
  have a451 : f153 q94 = some (.inl (cy 0, 24, .inl (fun _ => 0))) := (k155 _ (z_nn ur152 a450)).trans a450
  have a452 : f157 q94 = some (.inl (cy 0, 24, .inl (fun _ => 0))) := (k159 _ (Ne.symm (z_nn ur95 a92))).trans a451
  have a453 : f162 q94 = some (.inl (cy 0, 24, .inl (fun _ => 0))) := (k164 _ (z_nn ur161 a452)).trans a452
  have a454 : f166 q94 = some (.inl (cy 0, 24, .inl (fun _ => 0))) := (k168 _ (Ne.symm (z_nn ur95 a92))).trans a453
  have a455 : f109 q103 = some (.inl (cy 0, 60, .inl (fun _ => 0))) := (k111 _ (Ne.symm (z_nn ur104 a101))).trans a106
  have a456 : f114 q103 = some (.inl (cy 0, 60, .inl (fun _ => 0))) := (k116 _ (z_nn ur113 a455)).trans a455
  have a457 : f118 q103 = some (.inl (cy 0, 60, .inl (fun _ => 0))) := (k120 _ (Ne.symm (z_nn ur104 a101))).trans a456
  have a458 : f123 q103 = some (.inl (cy 0, 60, .inl (fun _ => 0))) := (k125 _ (z_nn ur122 a457)).trans a457
  have a459 : f127 q103 = some (.inl (cy 0, 60, .inl (fun _ => 0))) := (k129 _ (Ne.symm (z_nn ur104 a101))).trans a458
  have a460 : f132 q103 = some (.inl (cy 0, 60, .inl (fun _ => 0))) := (k134 _ (z_nn ur131 a459)).trans a459
  have a461 : f136 q103 = some (.inl (cy 0, 60, .inl (fun _ => 0))) := (k138 _ (Ne.symm (z_nn ur104 a101))).trans a460
  have a462 : f139 q103 = some (.inl (cy 0, 60, .inl (fun _ => 0))) := (k141 _ (Ne.symm (z_nn ur104 a101))).trans a461
  have a463 : f144 q103 = some (.inl (cy 0, 60, .inl (fun _ => 0))) := (k146 _ (z_nn ur143 a462)).trans a462
  have a464 : f148 q103 = some (.inl (cy 0, 60, .inl (fun _ => 0))) := (k150 _ (Ne.symm (z_nn ur104 a101))).trans a463
  have a465 : f153 q103 = some (.inl (cy 0, 60, .inl (fun _ => 0))) := (k155 _ (z_nn ur152 a464)).trans a464
  have a466 : f157 q103 = some (.inl (cy 0, 60, .inl (fun _ => 0))) := (k159 _ (Ne.symm (z_nn ur104 a101))).trans a465
  have a467 : f162 q103 = some (.inl (cy 0, 60, .inl (fun _ => 0))) := (k164 _ (z_nn ur161 a466)).trans a466
  have a468 : f166 q103 = some (.inl (cy 0, 60, .inl (fun _ => 0))) := (k168 _ (Ne.symm (z_nn ur104 a101))).trans a467
  have a469 : f118 q112 = some (.inl (cy 0, 60, .inl (fun _ => 0))) := (k120 _ (Ne.symm (z_nn ur113 a110))).trans a115
  have a470 : f123 q112 = some (.inl (cy 0, 60, .inl (fun _ => 0))) := (k125 _ (z_nn ur122 a469)).trans a469
  have a471 : f127 q112 = some (.inl (cy 0, 60, .inl (fun _ => 0))) := (k129 _ (Ne.symm (z_nn ur113 a110))).trans a470
  have a472 : f132 q112 = some (.inl (cy 0, 60, .inl (fun _ => 0))) := (k134 _ (z_nn ur131 a471)).trans a471
  have a473 : f136 q112 = some (.inl (cy 0, 60, .inl (fun _ => 0))) := (k138 _ (Ne.symm (z_nn ur113 a110))).trans a472
  have a474 : f139 q112 = some (.inl (cy 0, 60, .inl (fun _ => 0))) := (k141 _ (Ne.symm (z_nn ur113 a110))).trans a473
  have a475 : f144 q112 = some (.inl (cy 0, 60, .inl (fun _ => 0))) := (k146 _ (z_nn ur143 a474)).trans a474
  have a476 : f148 q112 = some (.inl (cy 0, 60, .inl (fun _ => 0))) := (k150 _ (Ne.symm (z_nn ur113 a110))).trans a475
  have a477 : f153 q112 = some (.inl (cy 0, 60, .inl (fun _ => 0))) := (k155 _ (z_nn ur152 a476)).trans a476
  have a478 : f157 q112 = some (.inl (cy 0, 60, .inl (fun _ => 0))) := (k159 _ (Ne.symm (z_nn ur113 a110))).trans a477
  have a479 : f162 q112 = some (.inl (cy 0, 60, .inl (fun _ => 0))) := (k164 _ (z_nn ur161 a478)).trans a478
  have a480 : f166 q112 = some (.inl (cy 0, 60, .inl (fun _ => 0))) := (k168 _ (Ne.symm (z_nn ur113 a110))).trans a479
  have a481 : f127 q121 = some (.inl (cy 0, 60, .inl (fun _ => 0))) := (k129 _ (Ne.symm (z_nn ur122 a119))).trans a124
  have a482 : f132 q121 = some (.inl (cy 0, 60, .inl (fun _ => 0))) := (k134 _ (z_nn ur131 a481)).trans a481
  have a483 : f136 q121 = some (.inl (cy 0, 60, .inl (fun _ => 0))) := (k138 _ (Ne.symm (z_nn ur122 a119))).trans a482
  have a484 : f139 q121 = some (.inl (cy 0, 60, .inl (fun _ => 0))) := (k141 _ (Ne.symm (z_nn ur122 a119))).trans a483
  have a485 : f144 q121 = some (.inl (cy 0, 60, .inl (fun _ => 0))) := (k146 _ (z_nn ur143 a484)).trans a484
  have a486 : f148 q121 = some (.inl (cy 0, 60, .inl (fun _ => 0))) := (k150 _ (Ne.symm (z_nn ur122 a119))).trans a485
  have a487 : f153 q121 = some (.inl (cy 0, 60, .inl (fun _ => 0))) := (k155 _ (z_nn ur152 a486)).trans a486
  have a488 : f157 q121 = some (.inl (cy 0, 60, .inl (fun _ => 0))) := (k159 _ (Ne.symm (z_nn ur122 a119))).trans a487
  have a489 : f162 q121 = some (.inl (cy 0, 60, .inl (fun _ => 0))) := (k164 _ (z_nn ur161 a488)).trans a488
  have a490 : f166 q121 = some (.inl (cy 0, 60, .inl (fun _ => 0))) := (k168 _ (Ne.symm (z_nn ur122 a119))).trans a489
  have a491 : f136 q130 = some (.inl (cy 0, 4, .inl (fun _ => 0))) := (k138 _ (Ne.symm (z_nn ur131 a128))).trans a133
  have a492 : f139 q130 = some (.inl (cy 0, 4, .inl (fun _ => 0))) := (k141 _ (Ne.symm (z_nn ur131 a128))).trans a491
  have a493 : f144 q130 = some (.inl (cy 0, 4, .inl (fun _ => 0))) := (k146 _ (z_nn ur143 a492)).trans a492
  have a494 : f148 q130 = some (.inl (cy 0, 4, .inl (fun _ => 0))) := (k150 _ (Ne.symm (z_nn ur131 a128))).trans a493
  have a495 : f153 q130 = some (.inl (cy 0, 4, .inl (fun _ => 0))) := (k155 _ (z_nn ur152 a494)).trans a494
  have a496 : f157 q130 = some (.inl (cy 0, 4, .inl (fun _ => 0))) := (k159 _ (Ne.symm (z_nn ur131 a128))).trans a495
  have a497 : f162 q130 = some (.inl (cy 0, 4, .inl (fun _ => 0))) := (k164 _ (z_nn ur161 a496)).trans a496
  have a498 : f166 q130 = some (.inl (cy 0, 4, .inl (fun _ => 0))) := (k168 _ (Ne.symm (z_nn ur131 a128))).trans a497
  have a499 : f148 q142 = some (.inl (cy 0, 40, .inl (fun _ => 0))) := (k150 _ (Ne.symm (z_nn ur143 a140))).trans a145
  have a500 : f153 q142 = some (.inl (cy 0, 40, .inl (fun _ => 0))) := (k155 _ (z_nn ur152 a499)).trans a499
  have a501 : f157 q142 = some (.inl (cy 0, 40, .inl (fun _ => 0))) := (k159 _ (Ne.symm (z_nn ur143 a140))).trans a500
  have a502 : f162 q142 = some (.inl (cy 0, 40, .inl (fun _ => 0))) := (k164 _ (z_nn ur161 a501)).trans a501
  have a503 : f166 q142 = some (.inl (cy 0, 40, .inl (fun _ => 0))) := (k168 _ (Ne.symm (z_nn ur143 a140))).trans a502
  have a504 : f157 q151 = some (.inl (cy 0, 40, .inl (fun _ => 0))) := (k159 _ (Ne.symm (z_nn ur152 a149))).trans a154
  have a505 : f162 q151 = some (.inl (cy 0, 40, .inl (fun _ => 0))) := (k164 _ (z_nn ur161 a504)).trans a504
  have a506 : f166 q151 = some (.inl (cy 0, 40, .inl (fun _ => 0))) := (k168 _ (Ne.symm (z_nn ur152 a149))).trans a505
  have a507 : f166 q160 = some (.inl (cy 0, 40, .inl (fun _ => 0))) := (k168 _ (Ne.symm (z_nn ur161 a158))).trans a163
  exact z_vret C hr hz hS ⟨q4, q13, q22, q31, q40, q49, q58, q67, q76, q85, q94, q103, q112, q121, q130, q142, q151, q160, 0, (-1), 0, 0, 0, 0, 0, 1, 0, (fun _ => 0), (fun _ => 0), (fun _ => 0), (fun _ => 0), (fun _ => 0), (fun _ => 0), (fun _ => 0), (fun _ => 0), (fun _ => 0), (fun _ => 0), (fun _ => 0), (fun _ => 0), (fun _ => 0), (fun _ => 0), (fun _ => 0), (fun _ => 0), (fun _ => 0), (fun _ => 0), (fun _ => 0), (fun _ => 0), (fun _ => 0), rfl, rfl, rfl, rfl, rfl, rfl, rfl, rfl, rfl, rfl, rfl, rfl, rfl, rfl, rfl, rfl, rfl, rfl, rfl, rfl, ⟨a167, a204, a238, a270, a300, a328, a354, a378, a400, a420, a438, a454, a468, a480, a490, a498, a503, a506, a507, (by omega), (by omega), (by omega), (by omega), (by omega), (fun i9 h9 => absurd h9 (Nat.not_lt_zero _)), (fun i9 h9 => absurd h9 (Nat.not_lt_zero _)), (fun i9 h9 => absurd h9 (Nat.not_lt_zero _)), (fun i9 h9 => rfl), ⟨(fun i9 h9 => absurd h9 (Nat.not_lt_zero _)), (fun i9 h9 => absurd h9 (Nat.not_lt_zero _)), fun e9 he9 p9 hp9 => absurd hp9 (Nat.not_lt_zero _), (fun i9 h9 => absurd h9 (Nat.not_lt_zero _)), fun e9 he9 => Nat.le_refl 0⟩, ⟨1, by decide, by decide⟩, (fun _ _ => rfl), (fun i9 h9 => absurd h9 (Nat.not_lt_zero _)), (z_nn ur32 a239), (z_nn ur50 a243), (z_nn ur59 a245), (z_nn ur68 a247), (z_nn ur104 a255), (z_nn ur113 a257), (z_nn ur122 a259), (z_nn ur50 a273), (z_nn ur59 a275), (z_nn ur68 a277), (z_nn ur104 a285), (z_nn ur113 a287), (z_nn ur122 a289), (z_nn ur59 a329), (z_nn ur68 a331), (z_nn ur104 a339), (z_nn ur113 a341), (z_nn ur122 a343), (z_nn ur68 a355), (z_nn ur104 a363), (z_nn ur113 a365), (z_nn ur122 a367), (z_nn ur104 a385), (z_nn ur113 a387), (z_nn ur122 a389), (z_nn ur113 a455), (z_nn ur122 a457), (z_nn ur122 a469), (z_nn ur152 a499), (z_nn ur161 a501), (z_nn ur161 a504)⟩, (by
        intro b e hb n0
        have hb0 : f1 b = some e := (k3 b n0).trans hb
        have nn1 : b ≠ q4 := z_nn ur5 hb0
        have hb1 : f6 b = some e := (k8 b nn1).trans hb0
        have hb2 : f10 b = some e := (k12 b n0).trans hb1
        have nn3 : b ≠ q13 := z_nn ur14 hb2
        have hb3 : f15 b = some e := (k17 b nn3).trans hb2
        have hb4 : f19 b = some e := (k21 b n0).trans hb3
        have nn5 : b ≠ q22 := z_nn ur23 hb4
        have hb5 : f24 b = some e := (k26 b nn5).trans hb4
        have hb6 : f28 b = some e := (k30 b n0).trans hb5
        have nn7 : b ≠ q31 := z_nn ur32 hb6
        have hb7 : f33 b = some e := (k35 b nn7).trans hb6
        have hb8 : f37 b = some e := (k39 b n0).trans hb7
        have nn9 : b ≠ q40 := z_nn ur41 hb8
        have hb9 : f42 b = some e := (k44 b nn9).trans hb8
        have hb10 : f46 b = some e := (k48 b n0).trans hb9
        have nn11 : b ≠ q49 := z_nn ur50 hb10
        have hb11 : f51 b = some e := (k53 b nn11).trans hb10
        have hb12 : f55 b = some e := (k57 b n0).trans hb11
        have nn13 : b ≠ q58 := z_nn ur59 hb12
        have hb13 : f60 b = some e := (k62 b nn13).trans hb12
        have hb14 : f64 b = some e := (k66 b n0).trans hb13
        have nn15 : b ≠ q67 := z_nn ur68 hb14
        have hb15 : f69 b = some e := (k71 b nn15).trans hb14
        have hb16 : f73 b = some e := (k75 b n0).trans hb15
        have nn17 : b ≠ q76 := z_nn ur77 hb16
        have hb17 : f78 b = some e := (k80 b nn17).trans hb16
        have hb18 : f82 b = some e := (k84 b n0).trans hb17
        have nn19 : b ≠ q85 := z_nn ur86 hb18
        have hb19 : f87 b = some e := (k89 b nn19).trans hb18
        have hb20 : f91 b = some e := (k93 b n0).trans hb19
        have nn21 : b ≠ q94 := z_nn ur95 hb20
        have hb21 : f96 b = some e := (k98 b nn21).trans hb20
        have hb22 : f100 b = some e := (k102 b n0).trans hb21
        have nn23 : b ≠ q103 := z_nn ur104 hb22
        have hb23 : f105 b = some e := (k107 b nn23).trans hb22
        have hb24 : f109 b = some e := (k111 b n0).trans hb23
        have nn25 : b ≠ q112 := z_nn ur113 hb24
        have hb25 : f114 b = some e := (k116 b nn25).trans hb24
        have hb26 : f118 b = some e := (k120 b n0).trans hb25
        have nn27 : b ≠ q121 := z_nn ur122 hb26
        have hb27 : f123 b = some e := (k125 b nn27).trans hb26
        have hb28 : f127 b = some e := (k129 b n0).trans hb27
        have nn29 : b ≠ q130 := z_nn ur131 hb28
        have hb29 : f132 b = some e := (k134 b nn29).trans hb28
        have hb30 : f136 b = some e := (k138 b n0).trans hb29
        have hb31 : f139 b = some e := (k141 b n0).trans hb30
        have nn32 : b ≠ q142 := z_nn ur143 hb31
        have hb32 : f144 b = some e := (k146 b nn32).trans hb31
        have hb33 : f148 b = some e := (k150 b n0).trans hb32
        have nn34 : b ≠ q151 := z_nn ur152 hb33
        have hb34 : f153 b = some e := (k155 b nn34).trans hb33
        have hb35 : f157 b = some e := (k159 b n0).trans hb34
        have nn36 : b ≠ q160 := z_nn ur161 hb35
        have hb36 : f162 b = some e := (k164 b nn36).trans hb35
        have hb37 : f166 b = some e := (k168 b n0).trans hb36
        exact hb37)⟩ (Nat.le_of_ble_eq_true rfl) (Nat.le_of_ble_eq_true rfl) dX8_init_158
