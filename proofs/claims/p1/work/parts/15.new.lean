abbrev rmX8_init : Room := { frames := 1, cells := 18, slots := 1674, locals := 12 }
set_option maxHeartbeats 4000000 in
set_option maxRecDepth 100000 in
theorem k_X8_init (l : Launch) (D : va_G) (cy : Nat → ClassId) (f : zM) (o : Nat) (p0 : f o = some (.inr (8, [.int 0, .int 0, .int 0, .null, .int 0, .null, .int 0, .null, .null, .null, .null, .null, .null, .null, .int 0, .null, .null, .int 0, .null, .null, .null, .null, .long 0, .int 0, .null, .null, .null])))  : zCv l D cy yX8_init cX8_init 1 none rmX8_init [.ref o] f (fun (f1 : zM) => ∃ (wev : Nat) (wnb : Nat) (wki : Nat) (wmy : Nat) (wce : Nat) (wiw : Nat) (wli : Nat) (wha : Nat) (wwt : Nat) (wfy : Nat) (wfk : Nat) (wem : Nat) (wna : Nat) (wpl : Nat) (whs : Nat) (wk1 : Nat) (wk2 : Nat) (wk3 : Nat), (f wev = none) ∧ (f wnb = none) ∧ (f wki = none) ∧ (f wmy = none) ∧ (f wce = none) ∧ (f wiw = none) ∧ (f wli = none) ∧ (f wha = none) ∧ (f wwt = none) ∧ (f wfy = none) ∧ (f wfk = none) ∧ (f wem = none) ∧ (f wna = none) ∧ (f wpl = none) ∧ (f whs = none) ∧ (f wk1 = none) ∧ (f wk2 = none) ∧ (f wk3 = none) ∧ (wki ≠ wmy) ∧ (wli ≠ wha) ∧ (wki ≠ wli) ∧ (wki ≠ wha) ∧ (wmy ≠ wli) ∧ (wmy ≠ wha) ∧ (wna ≠ wem) ∧ (wpl ≠ wem) ∧ (wpl ≠ wna) ∧ (wiw ≠ wki) ∧ (wiw ≠ wmy) ∧ (wiw ≠ wli) ∧ (wiw ≠ wha) ∧ f1 o = some (.inr (8, [.int 0, .int (-1), .int 0, .ref wev, .int 0, .ref wnb, .int 0, .ref wki, .ref wmy, .ref wce, .ref wiw, .ref wli, .ref wha, .ref wwt, .int 0, .ref wfy, .ref wfk, .int 0, .ref wem, .ref wna, .ref wpl, .ref whs, .long 1, .int 0, .ref wk1, .ref wk2, .ref wk3])) ∧ f1 wev = some (.inl (cy 0, 8, .inl (fun _ => 0))) ∧ f1 wnb = some (.inl (cy 0, 12, .inl (fun _ => 0))) ∧ f1 wki = some (.inl (cy 0, 60, .inl (fun _ => 0))) ∧ f1 wmy = some (.inl (cy 0, 60, .inl (fun _ => 0))) ∧ f1 wce = some (.inl (cy 1, 960, .inr (.inl (fun _ => 0)))) ∧ f1 wiw = some (.inl (cy 2, 60, .inl (fun _ => 0))) ∧ f1 wli = some (.inl (cy 0, 60, .inl (fun _ => 0))) ∧ f1 wha = some (.inl (cy 0, 60, .inl (fun _ => 0))) ∧ f1 wwt = some (.inl (cy 1, 60, .inr (.inl (fun _ => 0)))) ∧ f1 wfy = some (.inl (cy 0, 6, .inl (fun _ => 0))) ∧ f1 wfk = some (.inl (cy 0, 24, .inl (fun _ => 0))) ∧ f1 wem = some (.inl (cy 0, 60, .inl (fun _ => 0))) ∧ f1 wna = some (.inl (cy 0, 60, .inl (fun _ => 0))) ∧ f1 wpl = some (.inl (cy 0, 60, .inl (fun _ => 0))) ∧ f1 whs = some (.inl (cy 0, 4, .inl (fun _ => 0))) ∧ f1 wk1 = some (.inl (cy 0, 40, .inl (fun _ => 0))) ∧ f1 wk2 = some (.inl (cy 0, 40, .inl (fun _ => 0))) ∧ f1 wk3 = some (.inl (cy 0, 40, .inl (fun _ => 0))) ∧ (∀ (b : Nat) (e : va_E), f b = some e → b ≠ o → f1 b = some e)) := by
  intro sz
  refine z_body (by decide +kernel) (Nat.le_of_ble_eq_true rfl) ?_
  intro p e s m below meth c ls C hr hin hsz hz hl
  subst hsz
  have hx := C.1
  have hb := C.2.1
  have hA : ∀ q, s.heap.size ≤ q → zA f s.heap.size q := fun q h => Or.inr h
  have hS : va_S (zA f s.heap.size) s.heap s.heap [] := va_S.rf
  have hl : lv_has ls 1 [(0, .ref o)] := hl
  refine lv_aload_n hx hb dX8_init_0 rfl (lv_at hl 0 rfl) ?_
  refine z_objI C hl mMX8_1 (Nat.le_of_ble_eq_true rfl) (Nat.le_of_ble_eq_true rfl) dX8_init_1 ?_
  refine lv_aload_n hx hb dX8_init_4 rfl (lv_at hl 0 rfl) ?_
  refine lv_iconst (v := (-1)) hx hb dX8_init_5 (by decide) ?_
  refine z_put (fs' := [.int 0, .int (-1), .int 0, .null, .int 0, .null, .int 0, .null, .null, .null, .null, .null, .null, .null, .int 0, .null, .null, .int 0, .null, .null, .null, .null, .long 0, .int 0, .null, .null, .null]) C hz hS p0 zl8 mFX8_9 (by decide) rfl rfl rfl (Nat.le_of_ble_eq_true rfl) rfl dX8_init_6 (fun H locs f1 a2 k3 hz hS => ?_)
  refine lv_aload_n hx hb dX8_init_9 rfl (lv_at hl 0 rfl) ?_
  refine lv_bipush (v := 8) hx hb dX8_init_10 (by decide) ?_
  refine z_newa (atype := .int) (t0 := 0) (N' := 8) (x := (.inl (fun _ => 0))) C hz hS hA rfl mA_int rfl (fun _ => rfl) (by decide) (Nat.le_of_ble_eq_true rfl) (by decide) (Nat.le_of_ble_eq_true rfl) (Nat.le_of_ble_eq_true rfl) dX8_init_12 (fun q4 H f6 u5 a7 k8 hz hS => ?_)
  have a9 : f6 o = some (.inr (8, [.int 0, .int (-1), .int 0, .null, .int 0, .null, .int 0, .null, .null, .null, .null, .null, .null, .null, .int 0, .null, .null, .int 0, .null, .null, .null, .null, .long 0, .int 0, .null, .null, .null])) := (k8 _ (z_nn u5 a2)).trans a2
  refine z_putF (fs' := [.int 0, .int (-1), .int 0, .ref q4, .int 0, .null, .int 0, .null, .null, .null, .null, .null, .null, .null, .int 0, .null, .null, .int 0, .null, .null, .null, .null, .long 0, .int 0, .null, .null, .null]) C hz hS a9 zl8 mFX8_13 (by decide) rfl hin rfl rfl rfl (Nat.le_of_ble_eq_true rfl) rfl dX8_init_14 (fun H locs f10 a11 k12 hz hS => ?_)
  refine lv_aload_n hx hb dX8_init_17 rfl (lv_at hl 0 rfl) ?_
  refine lv_bipush (v := 12) hx hb dX8_init_18 (by decide) ?_
  refine z_newa (atype := .int) (t0 := 0) (N' := 12) (x := (.inl (fun _ => 0))) C hz hS hA rfl mA_int rfl (fun _ => rfl) (by decide) (Nat.le_of_ble_eq_true rfl) (by decide) (Nat.le_of_ble_eq_true rfl) (Nat.le_of_ble_eq_true rfl) dX8_init_20 (fun q13 H f15 u14 a16 k17 hz hS => ?_)
  have a18 : f15 o = some (.inr (8, [.int 0, .int (-1), .int 0, .ref q4, .int 0, .null, .int 0, .null, .null, .null, .null, .null, .null, .null, .int 0, .null, .null, .int 0, .null, .null, .null, .null, .long 0, .int 0, .null, .null, .null])) := (k17 _ (z_nn u14 a11)).trans a11
  refine z_putF (fs' := [.int 0, .int (-1), .int 0, .ref q4, .int 0, .ref q13, .int 0, .null, .null, .null, .null, .null, .null, .null, .int 0, .null, .null, .int 0, .null, .null, .null, .null, .long 0, .int 0, .null, .null, .null]) C hz hS a18 zl8 mFX8_17 (by decide) rfl hin rfl rfl rfl (Nat.le_of_ble_eq_true rfl) rfl dX8_init_22 (fun H locs f19 a20 k21 hz hS => ?_)
  refine lv_aload_n hx hb dX8_init_25 rfl (lv_at hl 0 rfl) ?_
  refine lv_bipush (v := 60) hx hb dX8_init_26 (by decide) ?_
  refine z_newa (atype := .int) (t0 := 0) (N' := 60) (x := (.inl (fun _ => 0))) C hz hS hA rfl mA_int rfl (fun _ => rfl) (by decide) (Nat.le_of_ble_eq_true rfl) (by decide) (Nat.le_of_ble_eq_true rfl) (Nat.le_of_ble_eq_true rfl) dX8_init_28 (fun q22 H f24 u23 a25 k26 hz hS => ?_)
  have a27 : f24 o = some (.inr (8, [.int 0, .int (-1), .int 0, .ref q4, .int 0, .ref q13, .int 0, .null, .null, .null, .null, .null, .null, .null, .int 0, .null, .null, .int 0, .null, .null, .null, .null, .long 0, .int 0, .null, .null, .null])) := (k26 _ (z_nn u23 a20)).trans a20
  refine z_putF (fs' := [.int 0, .int (-1), .int 0, .ref q4, .int 0, .ref q13, .int 0, .ref q22, .null, .null, .null, .null, .null, .null, .int 0, .null, .null, .int 0, .null, .null, .null, .null, .long 0, .int 0, .null, .null, .null]) C hz hS a27 zl8 mFX8_20 (by decide) rfl hin rfl rfl rfl (Nat.le_of_ble_eq_true rfl) rfl dX8_init_30 (fun H locs f28 a29 k30 hz hS => ?_)
  refine lv_aload_n hx hb dX8_init_33 rfl (lv_at hl 0 rfl) ?_
  refine lv_bipush (v := 60) hx hb dX8_init_34 (by decide) ?_
  refine z_newa (atype := .int) (t0 := 0) (N' := 60) (x := (.inl (fun _ => 0))) C hz hS hA rfl mA_int rfl (fun _ => rfl) (by decide) (Nat.le_of_ble_eq_true rfl) (by decide) (Nat.le_of_ble_eq_true rfl) (Nat.le_of_ble_eq_true rfl) dX8_init_36 (fun q31 H f33 u32 a34 k35 hz hS => ?_)
  have a36 : f33 o = some (.inr (8, [.int 0, .int (-1), .int 0, .ref q4, .int 0, .ref q13, .int 0, .ref q22, .null, .null, .null, .null, .null, .null, .int 0, .null, .null, .int 0, .null, .null, .null, .null, .long 0, .int 0, .null, .null, .null])) := (k35 _ (z_nn u32 a29)).trans a29
  refine z_putF (fs' := [.int 0, .int (-1), .int 0, .ref q4, .int 0, .ref q13, .int 0, .ref q22, .ref q31, .null, .null, .null, .null, .null, .int 0, .null, .null, .int 0, .null, .null, .null, .null, .long 0, .int 0, .null, .null, .null]) C hz hS a36 zl8 mFX8_23 (by decide) rfl hin rfl rfl rfl (Nat.le_of_ble_eq_true rfl) rfl dX8_init_38 (fun H locs f37 a38 k39 hz hS => ?_)
  refine lv_aload_n hx hb dX8_init_41 rfl (lv_at hl 0 rfl) ?_
  refine lv_sipush (v := 960) hx hb dX8_init_42 (by decide) ?_
  refine z_newa (atype := .long) (t0 := 1) (N' := 960) (x := (.inr (.inl (fun _ => 0)))) C hz hS hA rfl mA_long rfl (fun _ => rfl) (by decide) (Nat.le_of_ble_eq_true rfl) (by decide) (Nat.le_of_ble_eq_true rfl) (Nat.le_of_ble_eq_true rfl) dX8_init_45 (fun q40 H f42 u41 a43 k44 hz hS => ?_)
  have a45 : f42 o = some (.inr (8, [.int 0, .int (-1), .int 0, .ref q4, .int 0, .ref q13, .int 0, .ref q22, .ref q31, .null, .null, .null, .null, .null, .int 0, .null, .null, .int 0, .null, .null, .null, .null, .long 0, .int 0, .null, .null, .null])) := (k44 _ (z_nn u41 a38)).trans a38
  refine z_putF (fs' := [.int 0, .int (-1), .int 0, .ref q4, .int 0, .ref q13, .int 0, .ref q22, .ref q31, .ref q40, .null, .null, .null, .null, .int 0, .null, .null, .int 0, .null, .null, .null, .null, .long 0, .int 0, .null, .null, .null]) C hz hS a45 zl8 mFX8_26 (by decide) rfl hin rfl rfl rfl (Nat.le_of_ble_eq_true rfl) rfl dX8_init_47 (fun H locs f46 a47 k48 hz hS => ?_)
  refine lv_aload_n hx hb dX8_init_50 rfl (lv_at hl 0 rfl) ?_
  refine lv_bipush (v := 60) hx hb dX8_init_51 (by decide) ?_
  refine z_newa (atype := .boolean) (t0 := 2) (N' := 60) (x := (.inl (fun _ => 0))) C hz hS hA rfl mA_boolean rfl (fun _ => rfl) (by decide) (Nat.le_of_ble_eq_true rfl) (by decide) (Nat.le_of_ble_eq_true rfl) (Nat.le_of_ble_eq_true rfl) dX8_init_53 (fun q49 H f51 u50 a52 k53 hz hS => ?_)
  have a54 : f51 o = some (.inr (8, [.int 0, .int (-1), .int 0, .ref q4, .int 0, .ref q13, .int 0, .ref q22, .ref q31, .ref q40, .null, .null, .null, .null, .int 0, .null, .null, .int 0, .null, .null, .null, .null, .long 0, .int 0, .null, .null, .null])) := (k53 _ (z_nn u50 a47)).trans a47
  refine z_putF (fs' := [.int 0, .int (-1), .int 0, .ref q4, .int 0, .ref q13, .int 0, .ref q22, .ref q31, .ref q40, .ref q49, .null, .null, .null, .int 0, .null, .null, .int 0, .null, .null, .null, .null, .long 0, .int 0, .null, .null, .null]) C hz hS a54 zl8 mFX8_30 (by decide) rfl hin rfl rfl rfl (Nat.le_of_ble_eq_true rfl) rfl dX8_init_55 (fun H locs f55 a56 k57 hz hS => ?_)
  refine lv_aload_n hx hb dX8_init_58 rfl (lv_at hl 0 rfl) ?_
  refine lv_bipush (v := 60) hx hb dX8_init_59 (by decide) ?_
  refine z_newa (atype := .int) (t0 := 0) (N' := 60) (x := (.inl (fun _ => 0))) C hz hS hA rfl mA_int rfl (fun _ => rfl) (by decide) (Nat.le_of_ble_eq_true rfl) (by decide) (Nat.le_of_ble_eq_true rfl) (Nat.le_of_ble_eq_true rfl) dX8_init_61 (fun q58 H f60 u59 a61 k62 hz hS => ?_)
  have a63 : f60 o = some (.inr (8, [.int 0, .int (-1), .int 0, .ref q4, .int 0, .ref q13, .int 0, .ref q22, .ref q31, .ref q40, .ref q49, .null, .null, .null, .int 0, .null, .null, .int 0, .null, .null, .null, .null, .long 0, .int 0, .null, .null, .null])) := (k62 _ (z_nn u59 a56)).trans a56
  refine z_putF (fs' := [.int 0, .int (-1), .int 0, .ref q4, .int 0, .ref q13, .int 0, .ref q22, .ref q31, .ref q40, .ref q49, .ref q58, .null, .null, .int 0, .null, .null, .int 0, .null, .null, .null, .null, .long 0, .int 0, .null, .null, .null]) C hz hS a63 zl8 mFX8_34 (by decide) rfl hin rfl rfl rfl (Nat.le_of_ble_eq_true rfl) rfl dX8_init_63 (fun H locs f64 a65 k66 hz hS => ?_)
  refine lv_aload_n hx hb dX8_init_66 rfl (lv_at hl 0 rfl) ?_
  refine lv_bipush (v := 60) hx hb dX8_init_67 (by decide) ?_
  refine z_newa (atype := .int) (t0 := 0) (N' := 60) (x := (.inl (fun _ => 0))) C hz hS hA rfl mA_int rfl (fun _ => rfl) (by decide) (Nat.le_of_ble_eq_true rfl) (by decide) (Nat.le_of_ble_eq_true rfl) (Nat.le_of_ble_eq_true rfl) dX8_init_69 (fun q67 H f69 u68 a70 k71 hz hS => ?_)
  have a72 : f69 o = some (.inr (8, [.int 0, .int (-1), .int 0, .ref q4, .int 0, .ref q13, .int 0, .ref q22, .ref q31, .ref q40, .ref q49, .ref q58, .null, .null, .int 0, .null, .null, .int 0, .null, .null, .null, .null, .long 0, .int 0, .null, .null, .null])) := (k71 _ (z_nn u68 a65)).trans a65
  refine z_putF (fs' := [.int 0, .int (-1), .int 0, .ref q4, .int 0, .ref q13, .int 0, .ref q22, .ref q31, .ref q40, .ref q49, .ref q58, .ref q67, .null, .int 0, .null, .null, .int 0, .null, .null, .null, .null, .long 0, .int 0, .null, .null, .null]) C hz hS a72 zl8 mFX8_37 (by decide) rfl hin rfl rfl rfl (Nat.le_of_ble_eq_true rfl) rfl dX8_init_71 (fun H locs f73 a74 k75 hz hS => ?_)
  refine lv_aload_n hx hb dX8_init_74 rfl (lv_at hl 0 rfl) ?_
  refine lv_bipush (v := 60) hx hb dX8_init_75 (by decide) ?_
  refine z_newa (atype := .long) (t0 := 1) (N' := 60) (x := (.inr (.inl (fun _ => 0)))) C hz hS hA rfl mA_long rfl (fun _ => rfl) (by decide) (Nat.le_of_ble_eq_true rfl) (by decide) (Nat.le_of_ble_eq_true rfl) (Nat.le_of_ble_eq_true rfl) dX8_init_77 (fun q76 H f78 u77 a79 k80 hz hS => ?_)
  have a81 : f78 o = some (.inr (8, [.int 0, .int (-1), .int 0, .ref q4, .int 0, .ref q13, .int 0, .ref q22, .ref q31, .ref q40, .ref q49, .ref q58, .ref q67, .null, .int 0, .null, .null, .int 0, .null, .null, .null, .null, .long 0, .int 0, .null, .null, .null])) := (k80 _ (z_nn u77 a74)).trans a74
  refine z_putF (fs' := [.int 0, .int (-1), .int 0, .ref q4, .int 0, .ref q13, .int 0, .ref q22, .ref q31, .ref q40, .ref q49, .ref q58, .ref q67, .ref q76, .int 0, .null, .null, .int 0, .null, .null, .null, .null, .long 0, .int 0, .null, .null, .null]) C hz hS a81 zl8 mFX8_40 (by decide) rfl hin rfl rfl rfl (Nat.le_of_ble_eq_true rfl) rfl dX8_init_79 (fun H locs f82 a83 k84 hz hS => ?_)
  refine lv_aload_n hx hb dX8_init_82 rfl (lv_at hl 0 rfl) ?_
  refine lv_bipush (v := 6) hx hb dX8_init_83 (by decide) ?_
  refine z_newa (atype := .int) (t0 := 0) (N' := 6) (x := (.inl (fun _ => 0))) C hz hS hA rfl mA_int rfl (fun _ => rfl) (by decide) (Nat.le_of_ble_eq_true rfl) (by decide) (Nat.le_of_ble_eq_true rfl) (Nat.le_of_ble_eq_true rfl) dX8_init_85 (fun q85 H f87 u86 a88 k89 hz hS => ?_)
  have a90 : f87 o = some (.inr (8, [.int 0, .int (-1), .int 0, .ref q4, .int 0, .ref q13, .int 0, .ref q22, .ref q31, .ref q40, .ref q49, .ref q58, .ref q67, .ref q76, .int 0, .null, .null, .int 0, .null, .null, .null, .null, .long 0, .int 0, .null, .null, .null])) := (k89 _ (z_nn u86 a83)).trans a83
  refine z_putF (fs' := [.int 0, .int (-1), .int 0, .ref q4, .int 0, .ref q13, .int 0, .ref q22, .ref q31, .ref q40, .ref q49, .ref q58, .ref q67, .ref q76, .int 0, .ref q85, .null, .int 0, .null, .null, .null, .null, .long 0, .int 0, .null, .null, .null]) C hz hS a90 zl8 mFX8_43 (by decide) rfl hin rfl rfl rfl (Nat.le_of_ble_eq_true rfl) rfl dX8_init_87 (fun H locs f91 a92 k93 hz hS => ?_)
  refine lv_aload_n hx hb dX8_init_90 rfl (lv_at hl 0 rfl) ?_
  refine lv_bipush (v := 24) hx hb dX8_init_91 (by decide) ?_
  refine z_newa (atype := .int) (t0 := 0) (N' := 24) (x := (.inl (fun _ => 0))) C hz hS hA rfl mA_int rfl (fun _ => rfl) (by decide) (Nat.le_of_ble_eq_true rfl) (by decide) (Nat.le_of_ble_eq_true rfl) (Nat.le_of_ble_eq_true rfl) dX8_init_93 (fun q94 H f96 u95 a97 k98 hz hS => ?_)
  have a99 : f96 o = some (.inr (8, [.int 0, .int (-1), .int 0, .ref q4, .int 0, .ref q13, .int 0, .ref q22, .ref q31, .ref q40, .ref q49, .ref q58, .ref q67, .ref q76, .int 0, .ref q85, .null, .int 0, .null, .null, .null, .null, .long 0, .int 0, .null, .null, .null])) := (k98 _ (z_nn u95 a92)).trans a92
  refine z_putF (fs' := [.int 0, .int (-1), .int 0, .ref q4, .int 0, .ref q13, .int 0, .ref q22, .ref q31, .ref q40, .ref q49, .ref q58, .ref q67, .ref q76, .int 0, .ref q85, .ref q94, .int 0, .null, .null, .null, .null, .long 0, .int 0, .null, .null, .null]) C hz hS a99 zl8 mFX8_46 (by decide) rfl hin rfl rfl rfl (Nat.le_of_ble_eq_true rfl) rfl dX8_init_95 (fun H locs f100 a101 k102 hz hS => ?_)
  refine lv_aload_n hx hb dX8_init_98 rfl (lv_at hl 0 rfl) ?_
  refine lv_bipush (v := 60) hx hb dX8_init_99 (by decide) ?_
  refine z_newa (atype := .int) (t0 := 0) (N' := 60) (x := (.inl (fun _ => 0))) C hz hS hA rfl mA_int rfl (fun _ => rfl) (by decide) (Nat.le_of_ble_eq_true rfl) (by decide) (Nat.le_of_ble_eq_true rfl) (Nat.le_of_ble_eq_true rfl) dX8_init_101 (fun q103 H f105 u104 a106 k107 hz hS => ?_)
  have a108 : f105 o = some (.inr (8, [.int 0, .int (-1), .int 0, .ref q4, .int 0, .ref q13, .int 0, .ref q22, .ref q31, .ref q40, .ref q49, .ref q58, .ref q67, .ref q76, .int 0, .ref q85, .ref q94, .int 0, .null, .null, .null, .null, .long 0, .int 0, .null, .null, .null])) := (k107 _ (z_nn u104 a101)).trans a101
  refine z_putF (fs' := [.int 0, .int (-1), .int 0, .ref q4, .int 0, .ref q13, .int 0, .ref q22, .ref q31, .ref q40, .ref q49, .ref q58, .ref q67, .ref q76, .int 0, .ref q85, .ref q94, .int 0, .ref q103, .null, .null, .null, .long 0, .int 0, .null, .null, .null]) C hz hS a108 zl8 mFX8_49 (by decide) rfl hin rfl rfl rfl (Nat.le_of_ble_eq_true rfl) rfl dX8_init_103 (fun H locs f109 a110 k111 hz hS => ?_)
  refine lv_aload_n hx hb dX8_init_106 rfl (lv_at hl 0 rfl) ?_
  refine lv_bipush (v := 60) hx hb dX8_init_107 (by decide) ?_
  refine z_newa (atype := .int) (t0 := 0) (N' := 60) (x := (.inl (fun _ => 0))) C hz hS hA rfl mA_int rfl (fun _ => rfl) (by decide) (Nat.le_of_ble_eq_true rfl) (by decide) (Nat.le_of_ble_eq_true rfl) (Nat.le_of_ble_eq_true rfl) dX8_init_109 (fun q112 H f114 u113 a115 k116 hz hS => ?_)
  have a117 : f114 o = some (.inr (8, [.int 0, .int (-1), .int 0, .ref q4, .int 0, .ref q13, .int 0, .ref q22, .ref q31, .ref q40, .ref q49, .ref q58, .ref q67, .ref q76, .int 0, .ref q85, .ref q94, .int 0, .ref q103, .null, .null, .null, .long 0, .int 0, .null, .null, .null])) := (k116 _ (z_nn u113 a110)).trans a110
  refine z_putF (fs' := [.int 0, .int (-1), .int 0, .ref q4, .int 0, .ref q13, .int 0, .ref q22, .ref q31, .ref q40, .ref q49, .ref q58, .ref q67, .ref q76, .int 0, .ref q85, .ref q94, .int 0, .ref q103, .ref q112, .null, .null, .long 0, .int 0, .null, .null, .null]) C hz hS a117 zl8 mFX8_52 (by decide) rfl hin rfl rfl rfl (Nat.le_of_ble_eq_true rfl) rfl dX8_init_111 (fun H locs f118 a119 k120 hz hS => ?_)
  refine lv_aload_n hx hb dX8_init_114 rfl (lv_at hl 0 rfl) ?_
  refine lv_bipush (v := 60) hx hb dX8_init_115 (by decide) ?_
  refine z_newa (atype := .int) (t0 := 0) (N' := 60) (x := (.inl (fun _ => 0))) C hz hS hA rfl mA_int rfl (fun _ => rfl) (by decide) (Nat.le_of_ble_eq_true rfl) (by decide) (Nat.le_of_ble_eq_true rfl) (Nat.le_of_ble_eq_true rfl) dX8_init_117 (fun q121 H f123 u122 a124 k125 hz hS => ?_)
  have a126 : f123 o = some (.inr (8, [.int 0, .int (-1), .int 0, .ref q4, .int 0, .ref q13, .int 0, .ref q22, .ref q31, .ref q40, .ref q49, .ref q58, .ref q67, .ref q76, .int 0, .ref q85, .ref q94, .int 0, .ref q103, .ref q112, .null, .null, .long 0, .int 0, .null, .null, .null])) := (k125 _ (z_nn u122 a119)).trans a119
  refine z_putF (fs' := [.int 0, .int (-1), .int 0, .ref q4, .int 0, .ref q13, .int 0, .ref q22, .ref q31, .ref q40, .ref q49, .ref q58, .ref q67, .ref q76, .int 0, .ref q85, .ref q94, .int 0, .ref q103, .ref q112, .ref q121, .null, .long 0, .int 0, .null, .null, .null]) C hz hS a126 zl8 mFX8_55 (by decide) rfl hin rfl rfl rfl (Nat.le_of_ble_eq_true rfl) rfl dX8_init_119 (fun H locs f127 a128 k129 hz hS => ?_)
  refine lv_aload_n hx hb dX8_init_122 rfl (lv_at hl 0 rfl) ?_
  refine lv_iconst (v := 4) hx hb dX8_init_123 (by decide) ?_
  refine z_newa (atype := .int) (t0 := 0) (N' := 4) (x := (.inl (fun _ => 0))) C hz hS hA rfl mA_int rfl (fun _ => rfl) (by decide) (Nat.le_of_ble_eq_true rfl) (by decide) (Nat.le_of_ble_eq_true rfl) (Nat.le_of_ble_eq_true rfl) dX8_init_124 (fun q130 H f132 u131 a133 k134 hz hS => ?_)
  have a135 : f132 o = some (.inr (8, [.int 0, .int (-1), .int 0, .ref q4, .int 0, .ref q13, .int 0, .ref q22, .ref q31, .ref q40, .ref q49, .ref q58, .ref q67, .ref q76, .int 0, .ref q85, .ref q94, .int 0, .ref q103, .ref q112, .ref q121, .null, .long 0, .int 0, .null, .null, .null])) := (k134 _ (z_nn u131 a128)).trans a128
  refine z_putF (fs' := [.int 0, .int (-1), .int 0, .ref q4, .int 0, .ref q13, .int 0, .ref q22, .ref q31, .ref q40, .ref q49, .ref q58, .ref q67, .ref q76, .int 0, .ref q85, .ref q94, .int 0, .ref q103, .ref q112, .ref q121, .ref q130, .long 0, .int 0, .null, .null, .null]) C hz hS a135 zl8 mFX8_58 (by decide) rfl hin rfl rfl rfl (Nat.le_of_ble_eq_true rfl) rfl dX8_init_126 (fun H locs f136 a137 k138 hz hS => ?_)
  refine lv_aload_n hx hb dX8_init_129 rfl (lv_at hl 0 rfl) ?_
  refine lv_lconst (v := 1) hx hb dX8_init_130 (by decide) ?_
  refine z_put (fs' := [.int 0, .int (-1), .int 0, .ref q4, .int 0, .ref q13, .int 0, .ref q22, .ref q31, .ref q40, .ref q49, .ref q58, .ref q67, .ref q76, .int 0, .ref q85, .ref q94, .int 0, .ref q103, .ref q112, .ref q121, .ref q130, .long 1, .int 0, .null, .null, .null]) C hz hS a137 zl8 mFX8_61 (by decide) rfl rfl rfl (Nat.le_of_ble_eq_true rfl) rfl dX8_init_131 (fun H locs f139 a140 k141 hz hS => ?_)
  refine lv_aload_n hx hb dX8_init_134 rfl (lv_at hl 0 rfl) ?_
  refine lv_bipush (v := 40) hx hb dX8_init_135 (by decide) ?_
  refine z_newa (atype := .int) (t0 := 0) (N' := 40) (x := (.inl (fun _ => 0))) C hz hS hA rfl mA_int rfl (fun _ => rfl) (by decide) (Nat.le_of_ble_eq_true rfl) (by decide) (Nat.le_of_ble_eq_true rfl) (Nat.le_of_ble_eq_true rfl) dX8_init_137 (fun q142 H f144 u143 a145 k146 hz hS => ?_)
  have a147 : f144 o = some (.inr (8, [.int 0, .int (-1), .int 0, .ref q4, .int 0, .ref q13, .int 0, .ref q22, .ref q31, .ref q40, .ref q49, .ref q58, .ref q67, .ref q76, .int 0, .ref q85, .ref q94, .int 0, .ref q103, .ref q112, .ref q121, .ref q130, .long 1, .int 0, .null, .null, .null])) := (k146 _ (z_nn u143 a140)).trans a140
  refine z_putF (fs' := [.int 0, .int (-1), .int 0, .ref q4, .int 0, .ref q13, .int 0, .ref q22, .ref q31, .ref q40, .ref q49, .ref q58, .ref q67, .ref q76, .int 0, .ref q85, .ref q94, .int 0, .ref q103, .ref q112, .ref q121, .ref q130, .long 1, .int 0, .ref q142, .null, .null]) C hz hS a147 zl8 mFX8_65 (by decide) rfl hin rfl rfl rfl (Nat.le_of_ble_eq_true rfl) rfl dX8_init_139 (fun H locs f148 a149 k150 hz hS => ?_)
  refine lv_aload_n hx hb dX8_init_142 rfl (lv_at hl 0 rfl) ?_
  refine lv_bipush (v := 40) hx hb dX8_init_143 (by decide) ?_
  refine z_newa (atype := .int) (t0 := 0) (N' := 40) (x := (.inl (fun _ => 0))) C hz hS hA rfl mA_int rfl (fun _ => rfl) (by decide) (Nat.le_of_ble_eq_true rfl) (by decide) (Nat.le_of_ble_eq_true rfl) (Nat.le_of_ble_eq_true rfl) dX8_init_145 (fun q151 H f153 u152 a154 k155 hz hS => ?_)
  have a156 : f153 o = some (.inr (8, [.int 0, .int (-1), .int 0, .ref q4, .int 0, .ref q13, .int 0, .ref q22, .ref q31, .ref q40, .ref q49, .ref q58, .ref q67, .ref q76, .int 0, .ref q85, .ref q94, .int 0, .ref q103, .ref q112, .ref q121, .ref q130, .long 1, .int 0, .ref q142, .null, .null])) := (k155 _ (z_nn u152 a149)).trans a149
  refine z_putF (fs' := [.int 0, .int (-1), .int 0, .ref q4, .int 0, .ref q13, .int 0, .ref q22, .ref q31, .ref q40, .ref q49, .ref q58, .ref q67, .ref q76, .int 0, .ref q85, .ref q94, .int 0, .ref q103, .ref q112, .ref q121, .ref q130, .long 1, .int 0, .ref q142, .ref q151, .null]) C hz hS a156 zl8 mFX8_68 (by decide) rfl hin rfl rfl rfl (Nat.le_of_ble_eq_true rfl) rfl dX8_init_147 (fun H locs f157 a158 k159 hz hS => ?_)
  refine lv_aload_n hx hb dX8_init_150 rfl (lv_at hl 0 rfl) ?_
  refine lv_bipush (v := 40) hx hb dX8_init_151 (by decide) ?_
  refine z_newa (atype := .int) (t0 := 0) (N' := 40) (x := (.inl (fun _ => 0))) C hz hS hA rfl mA_int rfl (fun _ => rfl) (by decide) (Nat.le_of_ble_eq_true rfl) (by decide) (Nat.le_of_ble_eq_true rfl) (Nat.le_of_ble_eq_true rfl) dX8_init_153 (fun q160 H f162 u161 a163 k164 hz hS => ?_)
  have a165 : f162 o = some (.inr (8, [.int 0, .int (-1), .int 0, .ref q4, .int 0, .ref q13, .int 0, .ref q22, .ref q31, .ref q40, .ref q49, .ref q58, .ref q67, .ref q76, .int 0, .ref q85, .ref q94, .int 0, .ref q103, .ref q112, .ref q121, .ref q130, .long 1, .int 0, .ref q142, .ref q151, .null])) := (k164 _ (z_nn u161 a158)).trans a158
  refine z_putF (fs' := [.int 0, .int (-1), .int 0, .ref q4, .int 0, .ref q13, .int 0, .ref q22, .ref q31, .ref q40, .ref q49, .ref q58, .ref q67, .ref q76, .int 0, .ref q85, .ref q94, .int 0, .ref q103, .ref q112, .ref q121, .ref q130, .long 1, .int 0, .ref q142, .ref q151, .ref q160]) C hz hS a165 zl8 mFX8_71 (by decide) rfl hin rfl rfl rfl (Nat.le_of_ble_eq_true rfl) rfl dX8_init_155 (fun H locs f166 a167 k168 hz hS => ?_)
  have w169 : f q4 = none := by
    rcases h9 : f q4 with _ | e9
    · rfl
    · exfalso
      have h9_0 : f1 q4 = some e9 := (k3 _ (Ne.symm (z_nn u5 a2))).trans h9
      rw [u5] at h9_0
      cases h9_0
  have a171 : f10 q4 = some (.inl (cy 0, 8, .inl (fun _ => 0))) := (k12 _ (Ne.symm (z_nn u5 a2))).trans a7
  have w170 : f q13 = none := by
    rcases h9 : f q13 with _ | e9
    · rfl
    · exfalso
      have h9_0 : f1 q13 = some e9 := (k3 _ (Ne.symm (z_nn u14 a11))).trans h9
      have h9_1 : f6 q13 = some e9 := (k8 _ (Ne.symm (z_nn u14 a171))).trans h9_0
      have h9_2 : f10 q13 = some e9 := (k12 _ (Ne.symm (z_nn u14 a11))).trans h9_1
      rw [u14] at h9_2
      cases h9_2
  have a173 : f15 q4 = some (.inl (cy 0, 8, .inl (fun _ => 0))) := (k17 _ (z_nn u14 a171)).trans a171
  have a174 : f19 q4 = some (.inl (cy 0, 8, .inl (fun _ => 0))) := (k21 _ (Ne.symm (z_nn u5 a2))).trans a173
  have a175 : f19 q13 = some (.inl (cy 0, 12, .inl (fun _ => 0))) := (k21 _ (Ne.symm (z_nn u14 a11))).trans a16
  have w172 : f q22 = none := by
    rcases h9 : f q22 with _ | e9
    · rfl
    · exfalso
      have h9_0 : f1 q22 = some e9 := (k3 _ (Ne.symm (z_nn u23 a20))).trans h9
      have h9_1 : f6 q22 = some e9 := (k8 _ (Ne.symm (z_nn u23 a174))).trans h9_0
      have h9_2 : f10 q22 = some e9 := (k12 _ (Ne.symm (z_nn u23 a20))).trans h9_1
      have h9_3 : f15 q22 = some e9 := (k17 _ (Ne.symm (z_nn u23 a175))).trans h9_2
      have h9_4 : f19 q22 = some e9 := (k21 _ (Ne.symm (z_nn u23 a20))).trans h9_3
      rw [u23] at h9_4
      cases h9_4
  have a177 : f24 q4 = some (.inl (cy 0, 8, .inl (fun _ => 0))) := (k26 _ (z_nn u23 a174)).trans a174
  have a178 : f28 q4 = some (.inl (cy 0, 8, .inl (fun _ => 0))) := (k30 _ (Ne.symm (z_nn u5 a2))).trans a177
  have a179 : f24 q13 = some (.inl (cy 0, 12, .inl (fun _ => 0))) := (k26 _ (z_nn u23 a175)).trans a175
  have a180 : f28 q13 = some (.inl (cy 0, 12, .inl (fun _ => 0))) := (k30 _ (Ne.symm (z_nn u14 a11))).trans a179
  have a181 : f28 q22 = some (.inl (cy 0, 60, .inl (fun _ => 0))) := (k30 _ (Ne.symm (z_nn u23 a20))).trans a25
  have w176 : f q31 = none := by
    rcases h9 : f q31 with _ | e9
    · rfl
    · exfalso
      have h9_0 : f1 q31 = some e9 := (k3 _ (Ne.symm (z_nn u32 a29))).trans h9
      have h9_1 : f6 q31 = some e9 := (k8 _ (Ne.symm (z_nn u32 a178))).trans h9_0
      have h9_2 : f10 q31 = some e9 := (k12 _ (Ne.symm (z_nn u32 a29))).trans h9_1
      have h9_3 : f15 q31 = some e9 := (k17 _ (Ne.symm (z_nn u32 a180))).trans h9_2
      have h9_4 : f19 q31 = some e9 := (k21 _ (Ne.symm (z_nn u32 a29))).trans h9_3
      have h9_5 : f24 q31 = some e9 := (k26 _ (Ne.symm (z_nn u32 a181))).trans h9_4
      have h9_6 : f28 q31 = some e9 := (k30 _ (Ne.symm (z_nn u32 a29))).trans h9_5
      rw [u32] at h9_6
      cases h9_6
  have a183 : f33 q4 = some (.inl (cy 0, 8, .inl (fun _ => 0))) := (k35 _ (z_nn u32 a178)).trans a178
  have a184 : f37 q4 = some (.inl (cy 0, 8, .inl (fun _ => 0))) := (k39 _ (Ne.symm (z_nn u5 a2))).trans a183
  have a185 : f33 q13 = some (.inl (cy 0, 12, .inl (fun _ => 0))) := (k35 _ (z_nn u32 a180)).trans a180
  have a186 : f37 q13 = some (.inl (cy 0, 12, .inl (fun _ => 0))) := (k39 _ (Ne.symm (z_nn u14 a11))).trans a185
  have a187 : f33 q22 = some (.inl (cy 0, 60, .inl (fun _ => 0))) := (k35 _ (z_nn u32 a181)).trans a181
  have a188 : f37 q22 = some (.inl (cy 0, 60, .inl (fun _ => 0))) := (k39 _ (Ne.symm (z_nn u23 a20))).trans a187
  have a189 : f37 q31 = some (.inl (cy 0, 60, .inl (fun _ => 0))) := (k39 _ (Ne.symm (z_nn u32 a29))).trans a34
  have w182 : f q40 = none := by
    rcases h9 : f q40 with _ | e9
    · rfl
    · exfalso
      have h9_0 : f1 q40 = some e9 := (k3 _ (Ne.symm (z_nn u41 a38))).trans h9
      have h9_1 : f6 q40 = some e9 := (k8 _ (Ne.symm (z_nn u41 a184))).trans h9_0
      have h9_2 : f10 q40 = some e9 := (k12 _ (Ne.symm (z_nn u41 a38))).trans h9_1
      have h9_3 : f15 q40 = some e9 := (k17 _ (Ne.symm (z_nn u41 a186))).trans h9_2
      have h9_4 : f19 q40 = some e9 := (k21 _ (Ne.symm (z_nn u41 a38))).trans h9_3
      have h9_5 : f24 q40 = some e9 := (k26 _ (Ne.symm (z_nn u41 a188))).trans h9_4
      have h9_6 : f28 q40 = some e9 := (k30 _ (Ne.symm (z_nn u41 a38))).trans h9_5
      have h9_7 : f33 q40 = some e9 := (k35 _ (Ne.symm (z_nn u41 a189))).trans h9_6
      have h9_8 : f37 q40 = some e9 := (k39 _ (Ne.symm (z_nn u41 a38))).trans h9_7
      rw [u41] at h9_8
      cases h9_8
  have a191 : f42 q4 = some (.inl (cy 0, 8, .inl (fun _ => 0))) := (k44 _ (z_nn u41 a184)).trans a184
  have a192 : f46 q4 = some (.inl (cy 0, 8, .inl (fun _ => 0))) := (k48 _ (Ne.symm (z_nn u5 a2))).trans a191
  have a193 : f42 q13 = some (.inl (cy 0, 12, .inl (fun _ => 0))) := (k44 _ (z_nn u41 a186)).trans a186
  have a194 : f46 q13 = some (.inl (cy 0, 12, .inl (fun _ => 0))) := (k48 _ (Ne.symm (z_nn u14 a11))).trans a193
  have a195 : f42 q22 = some (.inl (cy 0, 60, .inl (fun _ => 0))) := (k44 _ (z_nn u41 a188)).trans a188
  have a196 : f46 q22 = some (.inl (cy 0, 60, .inl (fun _ => 0))) := (k48 _ (Ne.symm (z_nn u23 a20))).trans a195
  have a197 : f42 q31 = some (.inl (cy 0, 60, .inl (fun _ => 0))) := (k44 _ (z_nn u41 a189)).trans a189
  have a198 : f46 q31 = some (.inl (cy 0, 60, .inl (fun _ => 0))) := (k48 _ (Ne.symm (z_nn u32 a29))).trans a197
  have a199 : f46 q40 = some (.inl (cy 1, 960, .inr (.inl (fun _ => 0)))) := (k48 _ (Ne.symm (z_nn u41 a38))).trans a43
  have w190 : f q49 = none := by
    rcases h9 : f q49 with _ | e9
    · rfl
    · exfalso
      have h9_0 : f1 q49 = some e9 := (k3 _ (Ne.symm (z_nn u50 a47))).trans h9
      have h9_1 : f6 q49 = some e9 := (k8 _ (Ne.symm (z_nn u50 a192))).trans h9_0
      have h9_2 : f10 q49 = some e9 := (k12 _ (Ne.symm (z_nn u50 a47))).trans h9_1
      have h9_3 : f15 q49 = some e9 := (k17 _ (Ne.symm (z_nn u50 a194))).trans h9_2
      have h9_4 : f19 q49 = some e9 := (k21 _ (Ne.symm (z_nn u50 a47))).trans h9_3
      have h9_5 : f24 q49 = some e9 := (k26 _ (Ne.symm (z_nn u50 a196))).trans h9_4
      have h9_6 : f28 q49 = some e9 := (k30 _ (Ne.symm (z_nn u50 a47))).trans h9_5
      have h9_7 : f33 q49 = some e9 := (k35 _ (Ne.symm (z_nn u50 a198))).trans h9_6
      have h9_8 : f37 q49 = some e9 := (k39 _ (Ne.symm (z_nn u50 a47))).trans h9_7
      have h9_9 : f42 q49 = some e9 := (k44 _ (Ne.symm (z_nn u50 a199))).trans h9_8
      have h9_10 : f46 q49 = some e9 := (k48 _ (Ne.symm (z_nn u50 a47))).trans h9_9
      rw [u50] at h9_10
      cases h9_10
  have a201 : f51 q4 = some (.inl (cy 0, 8, .inl (fun _ => 0))) := (k53 _ (z_nn u50 a192)).trans a192
  have a202 : f55 q4 = some (.inl (cy 0, 8, .inl (fun _ => 0))) := (k57 _ (Ne.symm (z_nn u5 a2))).trans a201
  have a203 : f51 q13 = some (.inl (cy 0, 12, .inl (fun _ => 0))) := (k53 _ (z_nn u50 a194)).trans a194
  have a204 : f55 q13 = some (.inl (cy 0, 12, .inl (fun _ => 0))) := (k57 _ (Ne.symm (z_nn u14 a11))).trans a203
  have a205 : f51 q22 = some (.inl (cy 0, 60, .inl (fun _ => 0))) := (k53 _ (z_nn u50 a196)).trans a196
  have a206 : f55 q22 = some (.inl (cy 0, 60, .inl (fun _ => 0))) := (k57 _ (Ne.symm (z_nn u23 a20))).trans a205
  have a207 : f51 q31 = some (.inl (cy 0, 60, .inl (fun _ => 0))) := (k53 _ (z_nn u50 a198)).trans a198
  have a208 : f55 q31 = some (.inl (cy 0, 60, .inl (fun _ => 0))) := (k57 _ (Ne.symm (z_nn u32 a29))).trans a207
  have a209 : f51 q40 = some (.inl (cy 1, 960, .inr (.inl (fun _ => 0)))) := (k53 _ (z_nn u50 a199)).trans a199
  have a210 : f55 q40 = some (.inl (cy 1, 960, .inr (.inl (fun _ => 0)))) := (k57 _ (Ne.symm (z_nn u41 a38))).trans a209
  have a211 : f55 q49 = some (.inl (cy 2, 60, .inl (fun _ => 0))) := (k57 _ (Ne.symm (z_nn u50 a47))).trans a52
  have w200 : f q58 = none := by
    rcases h9 : f q58 with _ | e9
    · rfl
    · exfalso
      have h9_0 : f1 q58 = some e9 := (k3 _ (Ne.symm (z_nn u59 a56))).trans h9
      have h9_1 : f6 q58 = some e9 := (k8 _ (Ne.symm (z_nn u59 a202))).trans h9_0
      have h9_2 : f10 q58 = some e9 := (k12 _ (Ne.symm (z_nn u59 a56))).trans h9_1
      have h9_3 : f15 q58 = some e9 := (k17 _ (Ne.symm (z_nn u59 a204))).trans h9_2
      have h9_4 : f19 q58 = some e9 := (k21 _ (Ne.symm (z_nn u59 a56))).trans h9_3
      have h9_5 : f24 q58 = some e9 := (k26 _ (Ne.symm (z_nn u59 a206))).trans h9_4
      have h9_6 : f28 q58 = some e9 := (k30 _ (Ne.symm (z_nn u59 a56))).trans h9_5
      have h9_7 : f33 q58 = some e9 := (k35 _ (Ne.symm (z_nn u59 a208))).trans h9_6
      have h9_8 : f37 q58 = some e9 := (k39 _ (Ne.symm (z_nn u59 a56))).trans h9_7
      have h9_9 : f42 q58 = some e9 := (k44 _ (Ne.symm (z_nn u59 a210))).trans h9_8
      have h9_10 : f46 q58 = some e9 := (k48 _ (Ne.symm (z_nn u59 a56))).trans h9_9
      have h9_11 : f51 q58 = some e9 := (k53 _ (Ne.symm (z_nn u59 a211))).trans h9_10
      have h9_12 : f55 q58 = some e9 := (k57 _ (Ne.symm (z_nn u59 a56))).trans h9_11
      rw [u59] at h9_12
      cases h9_12
  have a213 : f60 q4 = some (.inl (cy 0, 8, .inl (fun _ => 0))) := (k62 _ (z_nn u59 a202)).trans a202
  have a214 : f64 q4 = some (.inl (cy 0, 8, .inl (fun _ => 0))) := (k66 _ (Ne.symm (z_nn u5 a2))).trans a213
  have a215 : f60 q13 = some (.inl (cy 0, 12, .inl (fun _ => 0))) := (k62 _ (z_nn u59 a204)).trans a204
  have a216 : f64 q13 = some (.inl (cy 0, 12, .inl (fun _ => 0))) := (k66 _ (Ne.symm (z_nn u14 a11))).trans a215
  have a217 : f60 q22 = some (.inl (cy 0, 60, .inl (fun _ => 0))) := (k62 _ (z_nn u59 a206)).trans a206
  have a218 : f64 q22 = some (.inl (cy 0, 60, .inl (fun _ => 0))) := (k66 _ (Ne.symm (z_nn u23 a20))).trans a217
  have a219 : f60 q31 = some (.inl (cy 0, 60, .inl (fun _ => 0))) := (k62 _ (z_nn u59 a208)).trans a208
  have a220 : f64 q31 = some (.inl (cy 0, 60, .inl (fun _ => 0))) := (k66 _ (Ne.symm (z_nn u32 a29))).trans a219
  have a221 : f60 q40 = some (.inl (cy 1, 960, .inr (.inl (fun _ => 0)))) := (k62 _ (z_nn u59 a210)).trans a210
  have a222 : f64 q40 = some (.inl (cy 1, 960, .inr (.inl (fun _ => 0)))) := (k66 _ (Ne.symm (z_nn u41 a38))).trans a221
  have a223 : f60 q49 = some (.inl (cy 2, 60, .inl (fun _ => 0))) := (k62 _ (z_nn u59 a211)).trans a211
  have a224 : f64 q49 = some (.inl (cy 2, 60, .inl (fun _ => 0))) := (k66 _ (Ne.symm (z_nn u50 a47))).trans a223
  have a225 : f64 q58 = some (.inl (cy 0, 60, .inl (fun _ => 0))) := (k66 _ (Ne.symm (z_nn u59 a56))).trans a61
  have w212 : f q67 = none := by
    rcases h9 : f q67 with _ | e9
    · rfl
    · exfalso
      have h9_0 : f1 q67 = some e9 := (k3 _ (Ne.symm (z_nn u68 a65))).trans h9
      have h9_1 : f6 q67 = some e9 := (k8 _ (Ne.symm (z_nn u68 a214))).trans h9_0
      have h9_2 : f10 q67 = some e9 := (k12 _ (Ne.symm (z_nn u68 a65))).trans h9_1
      have h9_3 : f15 q67 = some e9 := (k17 _ (Ne.symm (z_nn u68 a216))).trans h9_2
      have h9_4 : f19 q67 = some e9 := (k21 _ (Ne.symm (z_nn u68 a65))).trans h9_3
      have h9_5 : f24 q67 = some e9 := (k26 _ (Ne.symm (z_nn u68 a218))).trans h9_4
      have h9_6 : f28 q67 = some e9 := (k30 _ (Ne.symm (z_nn u68 a65))).trans h9_5
      have h9_7 : f33 q67 = some e9 := (k35 _ (Ne.symm (z_nn u68 a220))).trans h9_6
      have h9_8 : f37 q67 = some e9 := (k39 _ (Ne.symm (z_nn u68 a65))).trans h9_7
      have h9_9 : f42 q67 = some e9 := (k44 _ (Ne.symm (z_nn u68 a222))).trans h9_8
      have h9_10 : f46 q67 = some e9 := (k48 _ (Ne.symm (z_nn u68 a65))).trans h9_9
      have h9_11 : f51 q67 = some e9 := (k53 _ (Ne.symm (z_nn u68 a224))).trans h9_10
      have h9_12 : f55 q67 = some e9 := (k57 _ (Ne.symm (z_nn u68 a65))).trans h9_11
      have h9_13 : f60 q67 = some e9 := (k62 _ (Ne.symm (z_nn u68 a225))).trans h9_12
      have h9_14 : f64 q67 = some e9 := (k66 _ (Ne.symm (z_nn u68 a65))).trans h9_13
      rw [u68] at h9_14
      cases h9_14
  have a227 : f69 q4 = some (.inl (cy 0, 8, .inl (fun _ => 0))) := (k71 _ (z_nn u68 a214)).trans a214
  have a228 : f73 q4 = some (.inl (cy 0, 8, .inl (fun _ => 0))) := (k75 _ (Ne.symm (z_nn u5 a2))).trans a227
  have a229 : f69 q13 = some (.inl (cy 0, 12, .inl (fun _ => 0))) := (k71 _ (z_nn u68 a216)).trans a216
  have a230 : f73 q13 = some (.inl (cy 0, 12, .inl (fun _ => 0))) := (k75 _ (Ne.symm (z_nn u14 a11))).trans a229
  have a231 : f69 q22 = some (.inl (cy 0, 60, .inl (fun _ => 0))) := (k71 _ (z_nn u68 a218)).trans a218
  have a232 : f73 q22 = some (.inl (cy 0, 60, .inl (fun _ => 0))) := (k75 _ (Ne.symm (z_nn u23 a20))).trans a231
  have a233 : f69 q31 = some (.inl (cy 0, 60, .inl (fun _ => 0))) := (k71 _ (z_nn u68 a220)).trans a220
  have a234 : f73 q31 = some (.inl (cy 0, 60, .inl (fun _ => 0))) := (k75 _ (Ne.symm (z_nn u32 a29))).trans a233
  have a235 : f69 q40 = some (.inl (cy 1, 960, .inr (.inl (fun _ => 0)))) := (k71 _ (z_nn u68 a222)).trans a222
  have a236 : f73 q40 = some (.inl (cy 1, 960, .inr (.inl (fun _ => 0)))) := (k75 _ (Ne.symm (z_nn u41 a38))).trans a235
  have a237 : f69 q49 = some (.inl (cy 2, 60, .inl (fun _ => 0))) := (k71 _ (z_nn u68 a224)).trans a224
  have a238 : f73 q49 = some (.inl (cy 2, 60, .inl (fun _ => 0))) := (k75 _ (Ne.symm (z_nn u50 a47))).trans a237
  have a239 : f69 q58 = some (.inl (cy 0, 60, .inl (fun _ => 0))) := (k71 _ (z_nn u68 a225)).trans a225
  have a240 : f73 q58 = some (.inl (cy 0, 60, .inl (fun _ => 0))) := (k75 _ (Ne.symm (z_nn u59 a56))).trans a239
  have a241 : f73 q67 = some (.inl (cy 0, 60, .inl (fun _ => 0))) := (k75 _ (Ne.symm (z_nn u68 a65))).trans a70
  have w226 : f q76 = none := by
    rcases h9 : f q76 with _ | e9
    · rfl
    · exfalso
      have h9_0 : f1 q76 = some e9 := (k3 _ (Ne.symm (z_nn u77 a74))).trans h9
      have h9_1 : f6 q76 = some e9 := (k8 _ (Ne.symm (z_nn u77 a228))).trans h9_0
      have h9_2 : f10 q76 = some e9 := (k12 _ (Ne.symm (z_nn u77 a74))).trans h9_1
      have h9_3 : f15 q76 = some e9 := (k17 _ (Ne.symm (z_nn u77 a230))).trans h9_2
      have h9_4 : f19 q76 = some e9 := (k21 _ (Ne.symm (z_nn u77 a74))).trans h9_3
      have h9_5 : f24 q76 = some e9 := (k26 _ (Ne.symm (z_nn u77 a232))).trans h9_4
      have h9_6 : f28 q76 = some e9 := (k30 _ (Ne.symm (z_nn u77 a74))).trans h9_5
      have h9_7 : f33 q76 = some e9 := (k35 _ (Ne.symm (z_nn u77 a234))).trans h9_6
      have h9_8 : f37 q76 = some e9 := (k39 _ (Ne.symm (z_nn u77 a74))).trans h9_7
      have h9_9 : f42 q76 = some e9 := (k44 _ (Ne.symm (z_nn u77 a236))).trans h9_8
      have h9_10 : f46 q76 = some e9 := (k48 _ (Ne.symm (z_nn u77 a74))).trans h9_9
      have h9_11 : f51 q76 = some e9 := (k53 _ (Ne.symm (z_nn u77 a238))).trans h9_10
      have h9_12 : f55 q76 = some e9 := (k57 _ (Ne.symm (z_nn u77 a74))).trans h9_11
      have h9_13 : f60 q76 = some e9 := (k62 _ (Ne.symm (z_nn u77 a240))).trans h9_12
      have h9_14 : f64 q76 = some e9 := (k66 _ (Ne.symm (z_nn u77 a74))).trans h9_13
      have h9_15 : f69 q76 = some e9 := (k71 _ (Ne.symm (z_nn u77 a241))).trans h9_14
      have h9_16 : f73 q76 = some e9 := (k75 _ (Ne.symm (z_nn u77 a74))).trans h9_15
      rw [u77] at h9_16
      cases h9_16
  have a243 : f78 q4 = some (.inl (cy 0, 8, .inl (fun _ => 0))) := (k80 _ (z_nn u77 a228)).trans a228
  have a244 : f82 q4 = some (.inl (cy 0, 8, .inl (fun _ => 0))) := (k84 _ (Ne.symm (z_nn u5 a2))).trans a243
  have a245 : f78 q13 = some (.inl (cy 0, 12, .inl (fun _ => 0))) := (k80 _ (z_nn u77 a230)).trans a230
  have a246 : f82 q13 = some (.inl (cy 0, 12, .inl (fun _ => 0))) := (k84 _ (Ne.symm (z_nn u14 a11))).trans a245
  have a247 : f78 q22 = some (.inl (cy 0, 60, .inl (fun _ => 0))) := (k80 _ (z_nn u77 a232)).trans a232
  have a248 : f82 q22 = some (.inl (cy 0, 60, .inl (fun _ => 0))) := (k84 _ (Ne.symm (z_nn u23 a20))).trans a247
  have a249 : f78 q31 = some (.inl (cy 0, 60, .inl (fun _ => 0))) := (k80 _ (z_nn u77 a234)).trans a234
  have a250 : f82 q31 = some (.inl (cy 0, 60, .inl (fun _ => 0))) := (k84 _ (Ne.symm (z_nn u32 a29))).trans a249
  have a251 : f78 q40 = some (.inl (cy 1, 960, .inr (.inl (fun _ => 0)))) := (k80 _ (z_nn u77 a236)).trans a236
  have a252 : f82 q40 = some (.inl (cy 1, 960, .inr (.inl (fun _ => 0)))) := (k84 _ (Ne.symm (z_nn u41 a38))).trans a251
  have a253 : f78 q49 = some (.inl (cy 2, 60, .inl (fun _ => 0))) := (k80 _ (z_nn u77 a238)).trans a238
  have a254 : f82 q49 = some (.inl (cy 2, 60, .inl (fun _ => 0))) := (k84 _ (Ne.symm (z_nn u50 a47))).trans a253
  have a255 : f78 q58 = some (.inl (cy 0, 60, .inl (fun _ => 0))) := (k80 _ (z_nn u77 a240)).trans a240
  have a256 : f82 q58 = some (.inl (cy 0, 60, .inl (fun _ => 0))) := (k84 _ (Ne.symm (z_nn u59 a56))).trans a255
  have a257 : f78 q67 = some (.inl (cy 0, 60, .inl (fun _ => 0))) := (k80 _ (z_nn u77 a241)).trans a241
  have a258 : f82 q67 = some (.inl (cy 0, 60, .inl (fun _ => 0))) := (k84 _ (Ne.symm (z_nn u68 a65))).trans a257
  have a259 : f82 q76 = some (.inl (cy 1, 60, .inr (.inl (fun _ => 0)))) := (k84 _ (Ne.symm (z_nn u77 a74))).trans a79
  have w242 : f q85 = none := by
    rcases h9 : f q85 with _ | e9
    · rfl
    · exfalso
      have h9_0 : f1 q85 = some e9 := (k3 _ (Ne.symm (z_nn u86 a83))).trans h9
      have h9_1 : f6 q85 = some e9 := (k8 _ (Ne.symm (z_nn u86 a244))).trans h9_0
      have h9_2 : f10 q85 = some e9 := (k12 _ (Ne.symm (z_nn u86 a83))).trans h9_1
      have h9_3 : f15 q85 = some e9 := (k17 _ (Ne.symm (z_nn u86 a246))).trans h9_2
      have h9_4 : f19 q85 = some e9 := (k21 _ (Ne.symm (z_nn u86 a83))).trans h9_3
      have h9_5 : f24 q85 = some e9 := (k26 _ (Ne.symm (z_nn u86 a248))).trans h9_4
      have h9_6 : f28 q85 = some e9 := (k30 _ (Ne.symm (z_nn u86 a83))).trans h9_5
      have h9_7 : f33 q85 = some e9 := (k35 _ (Ne.symm (z_nn u86 a250))).trans h9_6
      have h9_8 : f37 q85 = some e9 := (k39 _ (Ne.symm (z_nn u86 a83))).trans h9_7
      have h9_9 : f42 q85 = some e9 := (k44 _ (Ne.symm (z_nn u86 a252))).trans h9_8
      have h9_10 : f46 q85 = some e9 := (k48 _ (Ne.symm (z_nn u86 a83))).trans h9_9
      have h9_11 : f51 q85 = some e9 := (k53 _ (Ne.symm (z_nn u86 a254))).trans h9_10
      have h9_12 : f55 q85 = some e9 := (k57 _ (Ne.symm (z_nn u86 a83))).trans h9_11
      have h9_13 : f60 q85 = some e9 := (k62 _ (Ne.symm (z_nn u86 a256))).trans h9_12
      have h9_14 : f64 q85 = some e9 := (k66 _ (Ne.symm (z_nn u86 a83))).trans h9_13
      have h9_15 : f69 q85 = some e9 := (k71 _ (Ne.symm (z_nn u86 a258))).trans h9_14
      have h9_16 : f73 q85 = some e9 := (k75 _ (Ne.symm (z_nn u86 a83))).trans h9_15
      have h9_17 : f78 q85 = some e9 := (k80 _ (Ne.symm (z_nn u86 a259))).trans h9_16
      have h9_18 : f82 q85 = some e9 := (k84 _ (Ne.symm (z_nn u86 a83))).trans h9_17
      rw [u86] at h9_18
      cases h9_18
  have a261 : f87 q4 = some (.inl (cy 0, 8, .inl (fun _ => 0))) := (k89 _ (z_nn u86 a244)).trans a244
  have a262 : f91 q4 = some (.inl (cy 0, 8, .inl (fun _ => 0))) := (k93 _ (Ne.symm (z_nn u5 a2))).trans a261
  have a263 : f87 q13 = some (.inl (cy 0, 12, .inl (fun _ => 0))) := (k89 _ (z_nn u86 a246)).trans a246
  have a264 : f91 q13 = some (.inl (cy 0, 12, .inl (fun _ => 0))) := (k93 _ (Ne.symm (z_nn u14 a11))).trans a263
  have a265 : f87 q22 = some (.inl (cy 0, 60, .inl (fun _ => 0))) := (k89 _ (z_nn u86 a248)).trans a248
  have a266 : f91 q22 = some (.inl (cy 0, 60, .inl (fun _ => 0))) := (k93 _ (Ne.symm (z_nn u23 a20))).trans a265
  have a267 : f87 q31 = some (.inl (cy 0, 60, .inl (fun _ => 0))) := (k89 _ (z_nn u86 a250)).trans a250
  have a268 : f91 q31 = some (.inl (cy 0, 60, .inl (fun _ => 0))) := (k93 _ (Ne.symm (z_nn u32 a29))).trans a267
  have a269 : f87 q40 = some (.inl (cy 1, 960, .inr (.inl (fun _ => 0)))) := (k89 _ (z_nn u86 a252)).trans a252
  have a270 : f91 q40 = some (.inl (cy 1, 960, .inr (.inl (fun _ => 0)))) := (k93 _ (Ne.symm (z_nn u41 a38))).trans a269
  have a271 : f87 q49 = some (.inl (cy 2, 60, .inl (fun _ => 0))) := (k89 _ (z_nn u86 a254)).trans a254
  have a272 : f91 q49 = some (.inl (cy 2, 60, .inl (fun _ => 0))) := (k93 _ (Ne.symm (z_nn u50 a47))).trans a271
  have a273 : f87 q58 = some (.inl (cy 0, 60, .inl (fun _ => 0))) := (k89 _ (z_nn u86 a256)).trans a256
  have a274 : f91 q58 = some (.inl (cy 0, 60, .inl (fun _ => 0))) := (k93 _ (Ne.symm (z_nn u59 a56))).trans a273
  have a275 : f87 q67 = some (.inl (cy 0, 60, .inl (fun _ => 0))) := (k89 _ (z_nn u86 a258)).trans a258
  have a276 : f91 q67 = some (.inl (cy 0, 60, .inl (fun _ => 0))) := (k93 _ (Ne.symm (z_nn u68 a65))).trans a275
  have a277 : f87 q76 = some (.inl (cy 1, 60, .inr (.inl (fun _ => 0)))) := (k89 _ (z_nn u86 a259)).trans a259
  have a278 : f91 q76 = some (.inl (cy 1, 60, .inr (.inl (fun _ => 0)))) := (k93 _ (Ne.symm (z_nn u77 a74))).trans a277
  have a279 : f91 q85 = some (.inl (cy 0, 6, .inl (fun _ => 0))) := (k93 _ (Ne.symm (z_nn u86 a83))).trans a88
  have w260 : f q94 = none := by
    rcases h9 : f q94 with _ | e9
    · rfl
    · exfalso
      have h9_0 : f1 q94 = some e9 := (k3 _ (Ne.symm (z_nn u95 a92))).trans h9
      have h9_1 : f6 q94 = some e9 := (k8 _ (Ne.symm (z_nn u95 a262))).trans h9_0
      have h9_2 : f10 q94 = some e9 := (k12 _ (Ne.symm (z_nn u95 a92))).trans h9_1
      have h9_3 : f15 q94 = some e9 := (k17 _ (Ne.symm (z_nn u95 a264))).trans h9_2
      have h9_4 : f19 q94 = some e9 := (k21 _ (Ne.symm (z_nn u95 a92))).trans h9_3
      have h9_5 : f24 q94 = some e9 := (k26 _ (Ne.symm (z_nn u95 a266))).trans h9_4
      have h9_6 : f28 q94 = some e9 := (k30 _ (Ne.symm (z_nn u95 a92))).trans h9_5
      have h9_7 : f33 q94 = some e9 := (k35 _ (Ne.symm (z_nn u95 a268))).trans h9_6
      have h9_8 : f37 q94 = some e9 := (k39 _ (Ne.symm (z_nn u95 a92))).trans h9_7
      have h9_9 : f42 q94 = some e9 := (k44 _ (Ne.symm (z_nn u95 a270))).trans h9_8
      have h9_10 : f46 q94 = some e9 := (k48 _ (Ne.symm (z_nn u95 a92))).trans h9_9
      have h9_11 : f51 q94 = some e9 := (k53 _ (Ne.symm (z_nn u95 a272))).trans h9_10
      have h9_12 : f55 q94 = some e9 := (k57 _ (Ne.symm (z_nn u95 a92))).trans h9_11
      have h9_13 : f60 q94 = some e9 := (k62 _ (Ne.symm (z_nn u95 a274))).trans h9_12
      have h9_14 : f64 q94 = some e9 := (k66 _ (Ne.symm (z_nn u95 a92))).trans h9_13
      have h9_15 : f69 q94 = some e9 := (k71 _ (Ne.symm (z_nn u95 a276))).trans h9_14
      have h9_16 : f73 q94 = some e9 := (k75 _ (Ne.symm (z_nn u95 a92))).trans h9_15
      have h9_17 : f78 q94 = some e9 := (k80 _ (Ne.symm (z_nn u95 a278))).trans h9_16
      have h9_18 : f82 q94 = some e9 := (k84 _ (Ne.symm (z_nn u95 a92))).trans h9_17
      have h9_19 : f87 q94 = some e9 := (k89 _ (Ne.symm (z_nn u95 a279))).trans h9_18
      have h9_20 : f91 q94 = some e9 := (k93 _ (Ne.symm (z_nn u95 a92))).trans h9_19
      rw [u95] at h9_20
      cases h9_20
  have a281 : f96 q4 = some (.inl (cy 0, 8, .inl (fun _ => 0))) := (k98 _ (z_nn u95 a262)).trans a262
  have a282 : f100 q4 = some (.inl (cy 0, 8, .inl (fun _ => 0))) := (k102 _ (Ne.symm (z_nn u5 a2))).trans a281
  have a283 : f96 q13 = some (.inl (cy 0, 12, .inl (fun _ => 0))) := (k98 _ (z_nn u95 a264)).trans a264
  have a284 : f100 q13 = some (.inl (cy 0, 12, .inl (fun _ => 0))) := (k102 _ (Ne.symm (z_nn u14 a11))).trans a283
  have a285 : f96 q22 = some (.inl (cy 0, 60, .inl (fun _ => 0))) := (k98 _ (z_nn u95 a266)).trans a266
  have a286 : f100 q22 = some (.inl (cy 0, 60, .inl (fun _ => 0))) := (k102 _ (Ne.symm (z_nn u23 a20))).trans a285
  have a287 : f96 q31 = some (.inl (cy 0, 60, .inl (fun _ => 0))) := (k98 _ (z_nn u95 a268)).trans a268
  have a288 : f100 q31 = some (.inl (cy 0, 60, .inl (fun _ => 0))) := (k102 _ (Ne.symm (z_nn u32 a29))).trans a287
  have a289 : f96 q40 = some (.inl (cy 1, 960, .inr (.inl (fun _ => 0)))) := (k98 _ (z_nn u95 a270)).trans a270
  have a290 : f100 q40 = some (.inl (cy 1, 960, .inr (.inl (fun _ => 0)))) := (k102 _ (Ne.symm (z_nn u41 a38))).trans a289
  have a291 : f96 q49 = some (.inl (cy 2, 60, .inl (fun _ => 0))) := (k98 _ (z_nn u95 a272)).trans a272
  have a292 : f100 q49 = some (.inl (cy 2, 60, .inl (fun _ => 0))) := (k102 _ (Ne.symm (z_nn u50 a47))).trans a291
  have a293 : f96 q58 = some (.inl (cy 0, 60, .inl (fun _ => 0))) := (k98 _ (z_nn u95 a274)).trans a274
  have a294 : f100 q58 = some (.inl (cy 0, 60, .inl (fun _ => 0))) := (k102 _ (Ne.symm (z_nn u59 a56))).trans a293
  have a295 : f96 q67 = some (.inl (cy 0, 60, .inl (fun _ => 0))) := (k98 _ (z_nn u95 a276)).trans a276
  have a296 : f100 q67 = some (.inl (cy 0, 60, .inl (fun _ => 0))) := (k102 _ (Ne.symm (z_nn u68 a65))).trans a295
  have a297 : f96 q76 = some (.inl (cy 1, 60, .inr (.inl (fun _ => 0)))) := (k98 _ (z_nn u95 a278)).trans a278
  have a298 : f100 q76 = some (.inl (cy 1, 60, .inr (.inl (fun _ => 0)))) := (k102 _ (Ne.symm (z_nn u77 a74))).trans a297
  have a299 : f96 q85 = some (.inl (cy 0, 6, .inl (fun _ => 0))) := (k98 _ (z_nn u95 a279)).trans a279
  have a300 : f100 q85 = some (.inl (cy 0, 6, .inl (fun _ => 0))) := (k102 _ (Ne.symm (z_nn u86 a83))).trans a299
  have a301 : f100 q94 = some (.inl (cy 0, 24, .inl (fun _ => 0))) := (k102 _ (Ne.symm (z_nn u95 a92))).trans a97
  have w280 : f q103 = none := by
    rcases h9 : f q103 with _ | e9
    · rfl
    · exfalso
      have h9_0 : f1 q103 = some e9 := (k3 _ (Ne.symm (z_nn u104 a101))).trans h9
      have h9_1 : f6 q103 = some e9 := (k8 _ (Ne.symm (z_nn u104 a282))).trans h9_0
      have h9_2 : f10 q103 = some e9 := (k12 _ (Ne.symm (z_nn u104 a101))).trans h9_1
      have h9_3 : f15 q103 = some e9 := (k17 _ (Ne.symm (z_nn u104 a284))).trans h9_2
      have h9_4 : f19 q103 = some e9 := (k21 _ (Ne.symm (z_nn u104 a101))).trans h9_3
      have h9_5 : f24 q103 = some e9 := (k26 _ (Ne.symm (z_nn u104 a286))).trans h9_4
      have h9_6 : f28 q103 = some e9 := (k30 _ (Ne.symm (z_nn u104 a101))).trans h9_5
      have h9_7 : f33 q103 = some e9 := (k35 _ (Ne.symm (z_nn u104 a288))).trans h9_6
      have h9_8 : f37 q103 = some e9 := (k39 _ (Ne.symm (z_nn u104 a101))).trans h9_7
      have h9_9 : f42 q103 = some e9 := (k44 _ (Ne.symm (z_nn u104 a290))).trans h9_8
      have h9_10 : f46 q103 = some e9 := (k48 _ (Ne.symm (z_nn u104 a101))).trans h9_9
      have h9_11 : f51 q103 = some e9 := (k53 _ (Ne.symm (z_nn u104 a292))).trans h9_10
      have h9_12 : f55 q103 = some e9 := (k57 _ (Ne.symm (z_nn u104 a101))).trans h9_11
      have h9_13 : f60 q103 = some e9 := (k62 _ (Ne.symm (z_nn u104 a294))).trans h9_12
      have h9_14 : f64 q103 = some e9 := (k66 _ (Ne.symm (z_nn u104 a101))).trans h9_13
      have h9_15 : f69 q103 = some e9 := (k71 _ (Ne.symm (z_nn u104 a296))).trans h9_14
      have h9_16 : f73 q103 = some e9 := (k75 _ (Ne.symm (z_nn u104 a101))).trans h9_15
      have h9_17 : f78 q103 = some e9 := (k80 _ (Ne.symm (z_nn u104 a298))).trans h9_16
      have h9_18 : f82 q103 = some e9 := (k84 _ (Ne.symm (z_nn u104 a101))).trans h9_17
      have h9_19 : f87 q103 = some e9 := (k89 _ (Ne.symm (z_nn u104 a300))).trans h9_18
      have h9_20 : f91 q103 = some e9 := (k93 _ (Ne.symm (z_nn u104 a101))).trans h9_19
      have h9_21 : f96 q103 = some e9 := (k98 _ (Ne.symm (z_nn u104 a301))).trans h9_20
      have h9_22 : f100 q103 = some e9 := (k102 _ (Ne.symm (z_nn u104 a101))).trans h9_21
      rw [u104] at h9_22
      cases h9_22
  have a303 : f105 q4 = some (.inl (cy 0, 8, .inl (fun _ => 0))) := (k107 _ (z_nn u104 a282)).trans a282
  have a304 : f109 q4 = some (.inl (cy 0, 8, .inl (fun _ => 0))) := (k111 _ (Ne.symm (z_nn u5 a2))).trans a303
  have a305 : f105 q13 = some (.inl (cy 0, 12, .inl (fun _ => 0))) := (k107 _ (z_nn u104 a284)).trans a284
  have a306 : f109 q13 = some (.inl (cy 0, 12, .inl (fun _ => 0))) := (k111 _ (Ne.symm (z_nn u14 a11))).trans a305
  have a307 : f105 q22 = some (.inl (cy 0, 60, .inl (fun _ => 0))) := (k107 _ (z_nn u104 a286)).trans a286
  have a308 : f109 q22 = some (.inl (cy 0, 60, .inl (fun _ => 0))) := (k111 _ (Ne.symm (z_nn u23 a20))).trans a307
  have a309 : f105 q31 = some (.inl (cy 0, 60, .inl (fun _ => 0))) := (k107 _ (z_nn u104 a288)).trans a288
  have a310 : f109 q31 = some (.inl (cy 0, 60, .inl (fun _ => 0))) := (k111 _ (Ne.symm (z_nn u32 a29))).trans a309
  have a311 : f105 q40 = some (.inl (cy 1, 960, .inr (.inl (fun _ => 0)))) := (k107 _ (z_nn u104 a290)).trans a290
  have a312 : f109 q40 = some (.inl (cy 1, 960, .inr (.inl (fun _ => 0)))) := (k111 _ (Ne.symm (z_nn u41 a38))).trans a311
  have a313 : f105 q49 = some (.inl (cy 2, 60, .inl (fun _ => 0))) := (k107 _ (z_nn u104 a292)).trans a292
  have a314 : f109 q49 = some (.inl (cy 2, 60, .inl (fun _ => 0))) := (k111 _ (Ne.symm (z_nn u50 a47))).trans a313
  have a315 : f105 q58 = some (.inl (cy 0, 60, .inl (fun _ => 0))) := (k107 _ (z_nn u104 a294)).trans a294
  have a316 : f109 q58 = some (.inl (cy 0, 60, .inl (fun _ => 0))) := (k111 _ (Ne.symm (z_nn u59 a56))).trans a315
  have a317 : f105 q67 = some (.inl (cy 0, 60, .inl (fun _ => 0))) := (k107 _ (z_nn u104 a296)).trans a296
  have a318 : f109 q67 = some (.inl (cy 0, 60, .inl (fun _ => 0))) := (k111 _ (Ne.symm (z_nn u68 a65))).trans a317
  have a319 : f105 q76 = some (.inl (cy 1, 60, .inr (.inl (fun _ => 0)))) := (k107 _ (z_nn u104 a298)).trans a298
  have a320 : f109 q76 = some (.inl (cy 1, 60, .inr (.inl (fun _ => 0)))) := (k111 _ (Ne.symm (z_nn u77 a74))).trans a319
  have a321 : f105 q85 = some (.inl (cy 0, 6, .inl (fun _ => 0))) := (k107 _ (z_nn u104 a300)).trans a300
  have a322 : f109 q85 = some (.inl (cy 0, 6, .inl (fun _ => 0))) := (k111 _ (Ne.symm (z_nn u86 a83))).trans a321
  have a323 : f105 q94 = some (.inl (cy 0, 24, .inl (fun _ => 0))) := (k107 _ (z_nn u104 a301)).trans a301
  have a324 : f109 q94 = some (.inl (cy 0, 24, .inl (fun _ => 0))) := (k111 _ (Ne.symm (z_nn u95 a92))).trans a323
  have a325 : f109 q103 = some (.inl (cy 0, 60, .inl (fun _ => 0))) := (k111 _ (Ne.symm (z_nn u104 a101))).trans a106
  have w302 : f q112 = none := by
    rcases h9 : f q112 with _ | e9
    · rfl
    · exfalso
      have h9_0 : f1 q112 = some e9 := (k3 _ (Ne.symm (z_nn u113 a110))).trans h9
      have h9_1 : f6 q112 = some e9 := (k8 _ (Ne.symm (z_nn u113 a304))).trans h9_0
      have h9_2 : f10 q112 = some e9 := (k12 _ (Ne.symm (z_nn u113 a110))).trans h9_1
      have h9_3 : f15 q112 = some e9 := (k17 _ (Ne.symm (z_nn u113 a306))).trans h9_2
      have h9_4 : f19 q112 = some e9 := (k21 _ (Ne.symm (z_nn u113 a110))).trans h9_3
      have h9_5 : f24 q112 = some e9 := (k26 _ (Ne.symm (z_nn u113 a308))).trans h9_4
      have h9_6 : f28 q112 = some e9 := (k30 _ (Ne.symm (z_nn u113 a110))).trans h9_5
      have h9_7 : f33 q112 = some e9 := (k35 _ (Ne.symm (z_nn u113 a310))).trans h9_6
      have h9_8 : f37 q112 = some e9 := (k39 _ (Ne.symm (z_nn u113 a110))).trans h9_7
      have h9_9 : f42 q112 = some e9 := (k44 _ (Ne.symm (z_nn u113 a312))).trans h9_8
      have h9_10 : f46 q112 = some e9 := (k48 _ (Ne.symm (z_nn u113 a110))).trans h9_9
      have h9_11 : f51 q112 = some e9 := (k53 _ (Ne.symm (z_nn u113 a314))).trans h9_10
      have h9_12 : f55 q112 = some e9 := (k57 _ (Ne.symm (z_nn u113 a110))).trans h9_11
      have h9_13 : f60 q112 = some e9 := (k62 _ (Ne.symm (z_nn u113 a316))).trans h9_12
      have h9_14 : f64 q112 = some e9 := (k66 _ (Ne.symm (z_nn u113 a110))).trans h9_13
      have h9_15 : f69 q112 = some e9 := (k71 _ (Ne.symm (z_nn u113 a318))).trans h9_14
      have h9_16 : f73 q112 = some e9 := (k75 _ (Ne.symm (z_nn u113 a110))).trans h9_15
      have h9_17 : f78 q112 = some e9 := (k80 _ (Ne.symm (z_nn u113 a320))).trans h9_16
      have h9_18 : f82 q112 = some e9 := (k84 _ (Ne.symm (z_nn u113 a110))).trans h9_17
      have h9_19 : f87 q112 = some e9 := (k89 _ (Ne.symm (z_nn u113 a322))).trans h9_18
      have h9_20 : f91 q112 = some e9 := (k93 _ (Ne.symm (z_nn u113 a110))).trans h9_19
      have h9_21 : f96 q112 = some e9 := (k98 _ (Ne.symm (z_nn u113 a324))).trans h9_20
      have h9_22 : f100 q112 = some e9 := (k102 _ (Ne.symm (z_nn u113 a110))).trans h9_21
      have h9_23 : f105 q112 = some e9 := (k107 _ (Ne.symm (z_nn u113 a325))).trans h9_22
      have h9_24 : f109 q112 = some e9 := (k111 _ (Ne.symm (z_nn u113 a110))).trans h9_23
      rw [u113] at h9_24
      cases h9_24
  have a327 : f114 q4 = some (.inl (cy 0, 8, .inl (fun _ => 0))) := (k116 _ (z_nn u113 a304)).trans a304
  have a328 : f118 q4 = some (.inl (cy 0, 8, .inl (fun _ => 0))) := (k120 _ (Ne.symm (z_nn u5 a2))).trans a327
  have a329 : f114 q13 = some (.inl (cy 0, 12, .inl (fun _ => 0))) := (k116 _ (z_nn u113 a306)).trans a306
  have a330 : f118 q13 = some (.inl (cy 0, 12, .inl (fun _ => 0))) := (k120 _ (Ne.symm (z_nn u14 a11))).trans a329
  have a331 : f114 q22 = some (.inl (cy 0, 60, .inl (fun _ => 0))) := (k116 _ (z_nn u113 a308)).trans a308
  have a332 : f118 q22 = some (.inl (cy 0, 60, .inl (fun _ => 0))) := (k120 _ (Ne.symm (z_nn u23 a20))).trans a331
  have a333 : f114 q31 = some (.inl (cy 0, 60, .inl (fun _ => 0))) := (k116 _ (z_nn u113 a310)).trans a310
  have a334 : f118 q31 = some (.inl (cy 0, 60, .inl (fun _ => 0))) := (k120 _ (Ne.symm (z_nn u32 a29))).trans a333
  have a335 : f114 q40 = some (.inl (cy 1, 960, .inr (.inl (fun _ => 0)))) := (k116 _ (z_nn u113 a312)).trans a312
  have a336 : f118 q40 = some (.inl (cy 1, 960, .inr (.inl (fun _ => 0)))) := (k120 _ (Ne.symm (z_nn u41 a38))).trans a335
  have a337 : f114 q49 = some (.inl (cy 2, 60, .inl (fun _ => 0))) := (k116 _ (z_nn u113 a314)).trans a314
  have a338 : f118 q49 = some (.inl (cy 2, 60, .inl (fun _ => 0))) := (k120 _ (Ne.symm (z_nn u50 a47))).trans a337
  have a339 : f114 q58 = some (.inl (cy 0, 60, .inl (fun _ => 0))) := (k116 _ (z_nn u113 a316)).trans a316
  have a340 : f118 q58 = some (.inl (cy 0, 60, .inl (fun _ => 0))) := (k120 _ (Ne.symm (z_nn u59 a56))).trans a339
  have a341 : f114 q67 = some (.inl (cy 0, 60, .inl (fun _ => 0))) := (k116 _ (z_nn u113 a318)).trans a318
  have a342 : f118 q67 = some (.inl (cy 0, 60, .inl (fun _ => 0))) := (k120 _ (Ne.symm (z_nn u68 a65))).trans a341
  have a343 : f114 q76 = some (.inl (cy 1, 60, .inr (.inl (fun _ => 0)))) := (k116 _ (z_nn u113 a320)).trans a320
  have a344 : f118 q76 = some (.inl (cy 1, 60, .inr (.inl (fun _ => 0)))) := (k120 _ (Ne.symm (z_nn u77 a74))).trans a343
  have a345 : f114 q85 = some (.inl (cy 0, 6, .inl (fun _ => 0))) := (k116 _ (z_nn u113 a322)).trans a322
  have a346 : f118 q85 = some (.inl (cy 0, 6, .inl (fun _ => 0))) := (k120 _ (Ne.symm (z_nn u86 a83))).trans a345
  have a347 : f114 q94 = some (.inl (cy 0, 24, .inl (fun _ => 0))) := (k116 _ (z_nn u113 a324)).trans a324
  have a348 : f118 q94 = some (.inl (cy 0, 24, .inl (fun _ => 0))) := (k120 _ (Ne.symm (z_nn u95 a92))).trans a347
  have a349 : f114 q103 = some (.inl (cy 0, 60, .inl (fun _ => 0))) := (k116 _ (z_nn u113 a325)).trans a325
  have a350 : f118 q103 = some (.inl (cy 0, 60, .inl (fun _ => 0))) := (k120 _ (Ne.symm (z_nn u104 a101))).trans a349
  have a351 : f118 q112 = some (.inl (cy 0, 60, .inl (fun _ => 0))) := (k120 _ (Ne.symm (z_nn u113 a110))).trans a115
  have w326 : f q121 = none := by
    rcases h9 : f q121 with _ | e9
    · rfl
    · exfalso
      have h9_0 : f1 q121 = some e9 := (k3 _ (Ne.symm (z_nn u122 a119))).trans h9
      have h9_1 : f6 q121 = some e9 := (k8 _ (Ne.symm (z_nn u122 a328))).trans h9_0
      have h9_2 : f10 q121 = some e9 := (k12 _ (Ne.symm (z_nn u122 a119))).trans h9_1
      have h9_3 : f15 q121 = some e9 := (k17 _ (Ne.symm (z_nn u122 a330))).trans h9_2
      have h9_4 : f19 q121 = some e9 := (k21 _ (Ne.symm (z_nn u122 a119))).trans h9_3
      have h9_5 : f24 q121 = some e9 := (k26 _ (Ne.symm (z_nn u122 a332))).trans h9_4
      have h9_6 : f28 q121 = some e9 := (k30 _ (Ne.symm (z_nn u122 a119))).trans h9_5
      have h9_7 : f33 q121 = some e9 := (k35 _ (Ne.symm (z_nn u122 a334))).trans h9_6
      have h9_8 : f37 q121 = some e9 := (k39 _ (Ne.symm (z_nn u122 a119))).trans h9_7
      have h9_9 : f42 q121 = some e9 := (k44 _ (Ne.symm (z_nn u122 a336))).trans h9_8
      have h9_10 : f46 q121 = some e9 := (k48 _ (Ne.symm (z_nn u122 a119))).trans h9_9
      have h9_11 : f51 q121 = some e9 := (k53 _ (Ne.symm (z_nn u122 a338))).trans h9_10
      have h9_12 : f55 q121 = some e9 := (k57 _ (Ne.symm (z_nn u122 a119))).trans h9_11
      have h9_13 : f60 q121 = some e9 := (k62 _ (Ne.symm (z_nn u122 a340))).trans h9_12
      have h9_14 : f64 q121 = some e9 := (k66 _ (Ne.symm (z_nn u122 a119))).trans h9_13
      have h9_15 : f69 q121 = some e9 := (k71 _ (Ne.symm (z_nn u122 a342))).trans h9_14
      have h9_16 : f73 q121 = some e9 := (k75 _ (Ne.symm (z_nn u122 a119))).trans h9_15
      have h9_17 : f78 q121 = some e9 := (k80 _ (Ne.symm (z_nn u122 a344))).trans h9_16
      have h9_18 : f82 q121 = some e9 := (k84 _ (Ne.symm (z_nn u122 a119))).trans h9_17
      have h9_19 : f87 q121 = some e9 := (k89 _ (Ne.symm (z_nn u122 a346))).trans h9_18
      have h9_20 : f91 q121 = some e9 := (k93 _ (Ne.symm (z_nn u122 a119))).trans h9_19
      have h9_21 : f96 q121 = some e9 := (k98 _ (Ne.symm (z_nn u122 a348))).trans h9_20
      have h9_22 : f100 q121 = some e9 := (k102 _ (Ne.symm (z_nn u122 a119))).trans h9_21
      have h9_23 : f105 q121 = some e9 := (k107 _ (Ne.symm (z_nn u122 a350))).trans h9_22
      have h9_24 : f109 q121 = some e9 := (k111 _ (Ne.symm (z_nn u122 a119))).trans h9_23
      have h9_25 : f114 q121 = some e9 := (k116 _ (Ne.symm (z_nn u122 a351))).trans h9_24
      have h9_26 : f118 q121 = some e9 := (k120 _ (Ne.symm (z_nn u122 a119))).trans h9_25
      rw [u122] at h9_26
      cases h9_26
  have a353 : f123 q4 = some (.inl (cy 0, 8, .inl (fun _ => 0))) := (k125 _ (z_nn u122 a328)).trans a328
  have a354 : f127 q4 = some (.inl (cy 0, 8, .inl (fun _ => 0))) := (k129 _ (Ne.symm (z_nn u5 a2))).trans a353
  have a355 : f123 q13 = some (.inl (cy 0, 12, .inl (fun _ => 0))) := (k125 _ (z_nn u122 a330)).trans a330
  have a356 : f127 q13 = some (.inl (cy 0, 12, .inl (fun _ => 0))) := (k129 _ (Ne.symm (z_nn u14 a11))).trans a355
  have a357 : f123 q22 = some (.inl (cy 0, 60, .inl (fun _ => 0))) := (k125 _ (z_nn u122 a332)).trans a332
  have a358 : f127 q22 = some (.inl (cy 0, 60, .inl (fun _ => 0))) := (k129 _ (Ne.symm (z_nn u23 a20))).trans a357
  have a359 : f123 q31 = some (.inl (cy 0, 60, .inl (fun _ => 0))) := (k125 _ (z_nn u122 a334)).trans a334
  have a360 : f127 q31 = some (.inl (cy 0, 60, .inl (fun _ => 0))) := (k129 _ (Ne.symm (z_nn u32 a29))).trans a359
  have a361 : f123 q40 = some (.inl (cy 1, 960, .inr (.inl (fun _ => 0)))) := (k125 _ (z_nn u122 a336)).trans a336
  have a362 : f127 q40 = some (.inl (cy 1, 960, .inr (.inl (fun _ => 0)))) := (k129 _ (Ne.symm (z_nn u41 a38))).trans a361
  have a363 : f123 q49 = some (.inl (cy 2, 60, .inl (fun _ => 0))) := (k125 _ (z_nn u122 a338)).trans a338
  have a364 : f127 q49 = some (.inl (cy 2, 60, .inl (fun _ => 0))) := (k129 _ (Ne.symm (z_nn u50 a47))).trans a363
  have a365 : f123 q58 = some (.inl (cy 0, 60, .inl (fun _ => 0))) := (k125 _ (z_nn u122 a340)).trans a340
  have a366 : f127 q58 = some (.inl (cy 0, 60, .inl (fun _ => 0))) := (k129 _ (Ne.symm (z_nn u59 a56))).trans a365
  have a367 : f123 q67 = some (.inl (cy 0, 60, .inl (fun _ => 0))) := (k125 _ (z_nn u122 a342)).trans a342
  have a368 : f127 q67 = some (.inl (cy 0, 60, .inl (fun _ => 0))) := (k129 _ (Ne.symm (z_nn u68 a65))).trans a367
  have a369 : f123 q76 = some (.inl (cy 1, 60, .inr (.inl (fun _ => 0)))) := (k125 _ (z_nn u122 a344)).trans a344
  have a370 : f127 q76 = some (.inl (cy 1, 60, .inr (.inl (fun _ => 0)))) := (k129 _ (Ne.symm (z_nn u77 a74))).trans a369
  have a371 : f123 q85 = some (.inl (cy 0, 6, .inl (fun _ => 0))) := (k125 _ (z_nn u122 a346)).trans a346
  have a372 : f127 q85 = some (.inl (cy 0, 6, .inl (fun _ => 0))) := (k129 _ (Ne.symm (z_nn u86 a83))).trans a371
  have a373 : f123 q94 = some (.inl (cy 0, 24, .inl (fun _ => 0))) := (k125 _ (z_nn u122 a348)).trans a348
  have a374 : f127 q94 = some (.inl (cy 0, 24, .inl (fun _ => 0))) := (k129 _ (Ne.symm (z_nn u95 a92))).trans a373
  have a375 : f123 q103 = some (.inl (cy 0, 60, .inl (fun _ => 0))) := (k125 _ (z_nn u122 a350)).trans a350
  have a376 : f127 q103 = some (.inl (cy 0, 60, .inl (fun _ => 0))) := (k129 _ (Ne.symm (z_nn u104 a101))).trans a375
  have a377 : f123 q112 = some (.inl (cy 0, 60, .inl (fun _ => 0))) := (k125 _ (z_nn u122 a351)).trans a351
  have a378 : f127 q112 = some (.inl (cy 0, 60, .inl (fun _ => 0))) := (k129 _ (Ne.symm (z_nn u113 a110))).trans a377
  have a379 : f127 q121 = some (.inl (cy 0, 60, .inl (fun _ => 0))) := (k129 _ (Ne.symm (z_nn u122 a119))).trans a124
  have w352 : f q130 = none := by
    rcases h9 : f q130 with _ | e9
    · rfl
    · exfalso
      have h9_0 : f1 q130 = some e9 := (k3 _ (Ne.symm (z_nn u131 a128))).trans h9
      have h9_1 : f6 q130 = some e9 := (k8 _ (Ne.symm (z_nn u131 a354))).trans h9_0
      have h9_2 : f10 q130 = some e9 := (k12 _ (Ne.symm (z_nn u131 a128))).trans h9_1
      have h9_3 : f15 q130 = some e9 := (k17 _ (Ne.symm (z_nn u131 a356))).trans h9_2
      have h9_4 : f19 q130 = some e9 := (k21 _ (Ne.symm (z_nn u131 a128))).trans h9_3
      have h9_5 : f24 q130 = some e9 := (k26 _ (Ne.symm (z_nn u131 a358))).trans h9_4
      have h9_6 : f28 q130 = some e9 := (k30 _ (Ne.symm (z_nn u131 a128))).trans h9_5
      have h9_7 : f33 q130 = some e9 := (k35 _ (Ne.symm (z_nn u131 a360))).trans h9_6
      have h9_8 : f37 q130 = some e9 := (k39 _ (Ne.symm (z_nn u131 a128))).trans h9_7
      have h9_9 : f42 q130 = some e9 := (k44 _ (Ne.symm (z_nn u131 a362))).trans h9_8
      have h9_10 : f46 q130 = some e9 := (k48 _ (Ne.symm (z_nn u131 a128))).trans h9_9
      have h9_11 : f51 q130 = some e9 := (k53 _ (Ne.symm (z_nn u131 a364))).trans h9_10
      have h9_12 : f55 q130 = some e9 := (k57 _ (Ne.symm (z_nn u131 a128))).trans h9_11
      have h9_13 : f60 q130 = some e9 := (k62 _ (Ne.symm (z_nn u131 a366))).trans h9_12
      have h9_14 : f64 q130 = some e9 := (k66 _ (Ne.symm (z_nn u131 a128))).trans h9_13
      have h9_15 : f69 q130 = some e9 := (k71 _ (Ne.symm (z_nn u131 a368))).trans h9_14
      have h9_16 : f73 q130 = some e9 := (k75 _ (Ne.symm (z_nn u131 a128))).trans h9_15
      have h9_17 : f78 q130 = some e9 := (k80 _ (Ne.symm (z_nn u131 a370))).trans h9_16
      have h9_18 : f82 q130 = some e9 := (k84 _ (Ne.symm (z_nn u131 a128))).trans h9_17
      have h9_19 : f87 q130 = some e9 := (k89 _ (Ne.symm (z_nn u131 a372))).trans h9_18
      have h9_20 : f91 q130 = some e9 := (k93 _ (Ne.symm (z_nn u131 a128))).trans h9_19
      have h9_21 : f96 q130 = some e9 := (k98 _ (Ne.symm (z_nn u131 a374))).trans h9_20
      have h9_22 : f100 q130 = some e9 := (k102 _ (Ne.symm (z_nn u131 a128))).trans h9_21
      have h9_23 : f105 q130 = some e9 := (k107 _ (Ne.symm (z_nn u131 a376))).trans h9_22
      have h9_24 : f109 q130 = some e9 := (k111 _ (Ne.symm (z_nn u131 a128))).trans h9_23
      have h9_25 : f114 q130 = some e9 := (k116 _ (Ne.symm (z_nn u131 a378))).trans h9_24
      have h9_26 : f118 q130 = some e9 := (k120 _ (Ne.symm (z_nn u131 a128))).trans h9_25
      have h9_27 : f123 q130 = some e9 := (k125 _ (Ne.symm (z_nn u131 a379))).trans h9_26
      have h9_28 : f127 q130 = some e9 := (k129 _ (Ne.symm (z_nn u131 a128))).trans h9_27
      rw [u131] at h9_28
      cases h9_28
  have a381 : f132 q4 = some (.inl (cy 0, 8, .inl (fun _ => 0))) := (k134 _ (z_nn u131 a354)).trans a354
  have a382 : f136 q4 = some (.inl (cy 0, 8, .inl (fun _ => 0))) := (k138 _ (Ne.symm (z_nn u5 a2))).trans a381
  have a383 : f139 q4 = some (.inl (cy 0, 8, .inl (fun _ => 0))) := (k141 _ (Ne.symm (z_nn u5 a2))).trans a382
  have a384 : f132 q13 = some (.inl (cy 0, 12, .inl (fun _ => 0))) := (k134 _ (z_nn u131 a356)).trans a356
  have a385 : f136 q13 = some (.inl (cy 0, 12, .inl (fun _ => 0))) := (k138 _ (Ne.symm (z_nn u14 a11))).trans a384
  have a386 : f139 q13 = some (.inl (cy 0, 12, .inl (fun _ => 0))) := (k141 _ (Ne.symm (z_nn u14 a11))).trans a385
  have a387 : f132 q22 = some (.inl (cy 0, 60, .inl (fun _ => 0))) := (k134 _ (z_nn u131 a358)).trans a358
  have a388 : f136 q22 = some (.inl (cy 0, 60, .inl (fun _ => 0))) := (k138 _ (Ne.symm (z_nn u23 a20))).trans a387
  have a389 : f139 q22 = some (.inl (cy 0, 60, .inl (fun _ => 0))) := (k141 _ (Ne.symm (z_nn u23 a20))).trans a388
  have a390 : f132 q31 = some (.inl (cy 0, 60, .inl (fun _ => 0))) := (k134 _ (z_nn u131 a360)).trans a360
  have a391 : f136 q31 = some (.inl (cy 0, 60, .inl (fun _ => 0))) := (k138 _ (Ne.symm (z_nn u32 a29))).trans a390
  have a392 : f139 q31 = some (.inl (cy 0, 60, .inl (fun _ => 0))) := (k141 _ (Ne.symm (z_nn u32 a29))).trans a391
  have a393 : f132 q40 = some (.inl (cy 1, 960, .inr (.inl (fun _ => 0)))) := (k134 _ (z_nn u131 a362)).trans a362
  have a394 : f136 q40 = some (.inl (cy 1, 960, .inr (.inl (fun _ => 0)))) := (k138 _ (Ne.symm (z_nn u41 a38))).trans a393
  have a395 : f139 q40 = some (.inl (cy 1, 960, .inr (.inl (fun _ => 0)))) := (k141 _ (Ne.symm (z_nn u41 a38))).trans a394
  have a396 : f132 q49 = some (.inl (cy 2, 60, .inl (fun _ => 0))) := (k134 _ (z_nn u131 a364)).trans a364
  have a397 : f136 q49 = some (.inl (cy 2, 60, .inl (fun _ => 0))) := (k138 _ (Ne.symm (z_nn u50 a47))).trans a396
  have a398 : f139 q49 = some (.inl (cy 2, 60, .inl (fun _ => 0))) := (k141 _ (Ne.symm (z_nn u50 a47))).trans a397
  have a399 : f132 q58 = some (.inl (cy 0, 60, .inl (fun _ => 0))) := (k134 _ (z_nn u131 a366)).trans a366
  have a400 : f136 q58 = some (.inl (cy 0, 60, .inl (fun _ => 0))) := (k138 _ (Ne.symm (z_nn u59 a56))).trans a399
  have a401 : f139 q58 = some (.inl (cy 0, 60, .inl (fun _ => 0))) := (k141 _ (Ne.symm (z_nn u59 a56))).trans a400
  have a402 : f132 q67 = some (.inl (cy 0, 60, .inl (fun _ => 0))) := (k134 _ (z_nn u131 a368)).trans a368
  have a403 : f136 q67 = some (.inl (cy 0, 60, .inl (fun _ => 0))) := (k138 _ (Ne.symm (z_nn u68 a65))).trans a402
  have a404 : f139 q67 = some (.inl (cy 0, 60, .inl (fun _ => 0))) := (k141 _ (Ne.symm (z_nn u68 a65))).trans a403
  have a405 : f132 q76 = some (.inl (cy 1, 60, .inr (.inl (fun _ => 0)))) := (k134 _ (z_nn u131 a370)).trans a370
  have a406 : f136 q76 = some (.inl (cy 1, 60, .inr (.inl (fun _ => 0)))) := (k138 _ (Ne.symm (z_nn u77 a74))).trans a405
  have a407 : f139 q76 = some (.inl (cy 1, 60, .inr (.inl (fun _ => 0)))) := (k141 _ (Ne.symm (z_nn u77 a74))).trans a406
  have a408 : f132 q85 = some (.inl (cy 0, 6, .inl (fun _ => 0))) := (k134 _ (z_nn u131 a372)).trans a372
  have a409 : f136 q85 = some (.inl (cy 0, 6, .inl (fun _ => 0))) := (k138 _ (Ne.symm (z_nn u86 a83))).trans a408
  have a410 : f139 q85 = some (.inl (cy 0, 6, .inl (fun _ => 0))) := (k141 _ (Ne.symm (z_nn u86 a83))).trans a409
  have a411 : f132 q94 = some (.inl (cy 0, 24, .inl (fun _ => 0))) := (k134 _ (z_nn u131 a374)).trans a374
  have a412 : f136 q94 = some (.inl (cy 0, 24, .inl (fun _ => 0))) := (k138 _ (Ne.symm (z_nn u95 a92))).trans a411
  have a413 : f139 q94 = some (.inl (cy 0, 24, .inl (fun _ => 0))) := (k141 _ (Ne.symm (z_nn u95 a92))).trans a412
  have a414 : f132 q103 = some (.inl (cy 0, 60, .inl (fun _ => 0))) := (k134 _ (z_nn u131 a376)).trans a376
  have a415 : f136 q103 = some (.inl (cy 0, 60, .inl (fun _ => 0))) := (k138 _ (Ne.symm (z_nn u104 a101))).trans a414
  have a416 : f139 q103 = some (.inl (cy 0, 60, .inl (fun _ => 0))) := (k141 _ (Ne.symm (z_nn u104 a101))).trans a415
  have a417 : f132 q112 = some (.inl (cy 0, 60, .inl (fun _ => 0))) := (k134 _ (z_nn u131 a378)).trans a378
  have a418 : f136 q112 = some (.inl (cy 0, 60, .inl (fun _ => 0))) := (k138 _ (Ne.symm (z_nn u113 a110))).trans a417
  have a419 : f139 q112 = some (.inl (cy 0, 60, .inl (fun _ => 0))) := (k141 _ (Ne.symm (z_nn u113 a110))).trans a418
  have a420 : f132 q121 = some (.inl (cy 0, 60, .inl (fun _ => 0))) := (k134 _ (z_nn u131 a379)).trans a379
  have a421 : f136 q121 = some (.inl (cy 0, 60, .inl (fun _ => 0))) := (k138 _ (Ne.symm (z_nn u122 a119))).trans a420
  have a422 : f139 q121 = some (.inl (cy 0, 60, .inl (fun _ => 0))) := (k141 _ (Ne.symm (z_nn u122 a119))).trans a421
  have a423 : f136 q130 = some (.inl (cy 0, 4, .inl (fun _ => 0))) := (k138 _ (Ne.symm (z_nn u131 a128))).trans a133
  have a424 : f139 q130 = some (.inl (cy 0, 4, .inl (fun _ => 0))) := (k141 _ (Ne.symm (z_nn u131 a128))).trans a423
  have w380 : f q142 = none := by
    rcases h9 : f q142 with _ | e9
    · rfl
    · exfalso
      have h9_0 : f1 q142 = some e9 := (k3 _ (Ne.symm (z_nn u143 a140))).trans h9
      have h9_1 : f6 q142 = some e9 := (k8 _ (Ne.symm (z_nn u143 a383))).trans h9_0
      have h9_2 : f10 q142 = some e9 := (k12 _ (Ne.symm (z_nn u143 a140))).trans h9_1
      have h9_3 : f15 q142 = some e9 := (k17 _ (Ne.symm (z_nn u143 a386))).trans h9_2
      have h9_4 : f19 q142 = some e9 := (k21 _ (Ne.symm (z_nn u143 a140))).trans h9_3
      have h9_5 : f24 q142 = some e9 := (k26 _ (Ne.symm (z_nn u143 a389))).trans h9_4
      have h9_6 : f28 q142 = some e9 := (k30 _ (Ne.symm (z_nn u143 a140))).trans h9_5
      have h9_7 : f33 q142 = some e9 := (k35 _ (Ne.symm (z_nn u143 a392))).trans h9_6
      have h9_8 : f37 q142 = some e9 := (k39 _ (Ne.symm (z_nn u143 a140))).trans h9_7
      have h9_9 : f42 q142 = some e9 := (k44 _ (Ne.symm (z_nn u143 a395))).trans h9_8
      have h9_10 : f46 q142 = some e9 := (k48 _ (Ne.symm (z_nn u143 a140))).trans h9_9
      have h9_11 : f51 q142 = some e9 := (k53 _ (Ne.symm (z_nn u143 a398))).trans h9_10
      have h9_12 : f55 q142 = some e9 := (k57 _ (Ne.symm (z_nn u143 a140))).trans h9_11
      have h9_13 : f60 q142 = some e9 := (k62 _ (Ne.symm (z_nn u143 a401))).trans h9_12
      have h9_14 : f64 q142 = some e9 := (k66 _ (Ne.symm (z_nn u143 a140))).trans h9_13
      have h9_15 : f69 q142 = some e9 := (k71 _ (Ne.symm (z_nn u143 a404))).trans h9_14
      have h9_16 : f73 q142 = some e9 := (k75 _ (Ne.symm (z_nn u143 a140))).trans h9_15
      have h9_17 : f78 q142 = some e9 := (k80 _ (Ne.symm (z_nn u143 a407))).trans h9_16
      have h9_18 : f82 q142 = some e9 := (k84 _ (Ne.symm (z_nn u143 a140))).trans h9_17
      have h9_19 : f87 q142 = some e9 := (k89 _ (Ne.symm (z_nn u143 a410))).trans h9_18
      have h9_20 : f91 q142 = some e9 := (k93 _ (Ne.symm (z_nn u143 a140))).trans h9_19
      have h9_21 : f96 q142 = some e9 := (k98 _ (Ne.symm (z_nn u143 a413))).trans h9_20
      have h9_22 : f100 q142 = some e9 := (k102 _ (Ne.symm (z_nn u143 a140))).trans h9_21
      have h9_23 : f105 q142 = some e9 := (k107 _ (Ne.symm (z_nn u143 a416))).trans h9_22
      have h9_24 : f109 q142 = some e9 := (k111 _ (Ne.symm (z_nn u143 a140))).trans h9_23
      have h9_25 : f114 q142 = some e9 := (k116 _ (Ne.symm (z_nn u143 a419))).trans h9_24
      have h9_26 : f118 q142 = some e9 := (k120 _ (Ne.symm (z_nn u143 a140))).trans h9_25
      have h9_27 : f123 q142 = some e9 := (k125 _ (Ne.symm (z_nn u143 a422))).trans h9_26
      have h9_28 : f127 q142 = some e9 := (k129 _ (Ne.symm (z_nn u143 a140))).trans h9_27
      have h9_29 : f132 q142 = some e9 := (k134 _ (Ne.symm (z_nn u143 a424))).trans h9_28
      have h9_30 : f136 q142 = some e9 := (k138 _ (Ne.symm (z_nn u143 a140))).trans h9_29
      have h9_31 : f139 q142 = some e9 := (k141 _ (Ne.symm (z_nn u143 a140))).trans h9_30
      rw [u143] at h9_31
      cases h9_31
  have a426 : f144 q4 = some (.inl (cy 0, 8, .inl (fun _ => 0))) := (k146 _ (z_nn u143 a383)).trans a383
  have a427 : f148 q4 = some (.inl (cy 0, 8, .inl (fun _ => 0))) := (k150 _ (Ne.symm (z_nn u5 a2))).trans a426
  have a428 : f144 q13 = some (.inl (cy 0, 12, .inl (fun _ => 0))) := (k146 _ (z_nn u143 a386)).trans a386
  have a429 : f148 q13 = some (.inl (cy 0, 12, .inl (fun _ => 0))) := (k150 _ (Ne.symm (z_nn u14 a11))).trans a428
  have a430 : f144 q22 = some (.inl (cy 0, 60, .inl (fun _ => 0))) := (k146 _ (z_nn u143 a389)).trans a389
  have a431 : f148 q22 = some (.inl (cy 0, 60, .inl (fun _ => 0))) := (k150 _ (Ne.symm (z_nn u23 a20))).trans a430
  have a432 : f144 q31 = some (.inl (cy 0, 60, .inl (fun _ => 0))) := (k146 _ (z_nn u143 a392)).trans a392
  have a433 : f148 q31 = some (.inl (cy 0, 60, .inl (fun _ => 0))) := (k150 _ (Ne.symm (z_nn u32 a29))).trans a432
  have a434 : f144 q40 = some (.inl (cy 1, 960, .inr (.inl (fun _ => 0)))) := (k146 _ (z_nn u143 a395)).trans a395
  have a435 : f148 q40 = some (.inl (cy 1, 960, .inr (.inl (fun _ => 0)))) := (k150 _ (Ne.symm (z_nn u41 a38))).trans a434
  have a436 : f144 q49 = some (.inl (cy 2, 60, .inl (fun _ => 0))) := (k146 _ (z_nn u143 a398)).trans a398
  have a437 : f148 q49 = some (.inl (cy 2, 60, .inl (fun _ => 0))) := (k150 _ (Ne.symm (z_nn u50 a47))).trans a436
  have a438 : f144 q58 = some (.inl (cy 0, 60, .inl (fun _ => 0))) := (k146 _ (z_nn u143 a401)).trans a401
  have a439 : f148 q58 = some (.inl (cy 0, 60, .inl (fun _ => 0))) := (k150 _ (Ne.symm (z_nn u59 a56))).trans a438
  have a440 : f144 q67 = some (.inl (cy 0, 60, .inl (fun _ => 0))) := (k146 _ (z_nn u143 a404)).trans a404
  have a441 : f148 q67 = some (.inl (cy 0, 60, .inl (fun _ => 0))) := (k150 _ (Ne.symm (z_nn u68 a65))).trans a440
  have a442 : f144 q76 = some (.inl (cy 1, 60, .inr (.inl (fun _ => 0)))) := (k146 _ (z_nn u143 a407)).trans a407
  have a443 : f148 q76 = some (.inl (cy 1, 60, .inr (.inl (fun _ => 0)))) := (k150 _ (Ne.symm (z_nn u77 a74))).trans a442
  have a444 : f144 q85 = some (.inl (cy 0, 6, .inl (fun _ => 0))) := (k146 _ (z_nn u143 a410)).trans a410
  have a445 : f148 q85 = some (.inl (cy 0, 6, .inl (fun _ => 0))) := (k150 _ (Ne.symm (z_nn u86 a83))).trans a444
  have a446 : f144 q94 = some (.inl (cy 0, 24, .inl (fun _ => 0))) := (k146 _ (z_nn u143 a413)).trans a413
  have a447 : f148 q94 = some (.inl (cy 0, 24, .inl (fun _ => 0))) := (k150 _ (Ne.symm (z_nn u95 a92))).trans a446
  have a448 : f144 q103 = some (.inl (cy 0, 60, .inl (fun _ => 0))) := (k146 _ (z_nn u143 a416)).trans a416
  have a449 : f148 q103 = some (.inl (cy 0, 60, .inl (fun _ => 0))) := (k150 _ (Ne.symm (z_nn u104 a101))).trans a448
  have a450 : f144 q112 = some (.inl (cy 0, 60, .inl (fun _ => 0))) := (k146 _ (z_nn u143 a419)).trans a419
  have a451 : f148 q112 = some (.inl (cy 0, 60, .inl (fun _ => 0))) := (k150 _ (Ne.symm (z_nn u113 a110))).trans a450
  have a452 : f144 q121 = some (.inl (cy 0, 60, .inl (fun _ => 0))) := (k146 _ (z_nn u143 a422)).trans a422
  have a453 : f148 q121 = some (.inl (cy 0, 60, .inl (fun _ => 0))) := (k150 _ (Ne.symm (z_nn u122 a119))).trans a452
  have a454 : f144 q130 = some (.inl (cy 0, 4, .inl (fun _ => 0))) := (k146 _ (z_nn u143 a424)).trans a424
  have a455 : f148 q130 = some (.inl (cy 0, 4, .inl (fun _ => 0))) := (k150 _ (Ne.symm (z_nn u131 a128))).trans a454
  have a456 : f148 q142 = some (.inl (cy 0, 40, .inl (fun _ => 0))) := (k150 _ (Ne.symm (z_nn u143 a140))).trans a145
  have w425 : f q151 = none := by
    rcases h9 : f q151 with _ | e9
    · rfl
    · exfalso
      have h9_0 : f1 q151 = some e9 := (k3 _ (Ne.symm (z_nn u152 a149))).trans h9
      have h9_1 : f6 q151 = some e9 := (k8 _ (Ne.symm (z_nn u152 a427))).trans h9_0
      have h9_2 : f10 q151 = some e9 := (k12 _ (Ne.symm (z_nn u152 a149))).trans h9_1
      have h9_3 : f15 q151 = some e9 := (k17 _ (Ne.symm (z_nn u152 a429))).trans h9_2
      have h9_4 : f19 q151 = some e9 := (k21 _ (Ne.symm (z_nn u152 a149))).trans h9_3
      have h9_5 : f24 q151 = some e9 := (k26 _ (Ne.symm (z_nn u152 a431))).trans h9_4
      have h9_6 : f28 q151 = some e9 := (k30 _ (Ne.symm (z_nn u152 a149))).trans h9_5
      have h9_7 : f33 q151 = some e9 := (k35 _ (Ne.symm (z_nn u152 a433))).trans h9_6
      have h9_8 : f37 q151 = some e9 := (k39 _ (Ne.symm (z_nn u152 a149))).trans h9_7
      have h9_9 : f42 q151 = some e9 := (k44 _ (Ne.symm (z_nn u152 a435))).trans h9_8
      have h9_10 : f46 q151 = some e9 := (k48 _ (Ne.symm (z_nn u152 a149))).trans h9_9
      have h9_11 : f51 q151 = some e9 := (k53 _ (Ne.symm (z_nn u152 a437))).trans h9_10
      have h9_12 : f55 q151 = some e9 := (k57 _ (Ne.symm (z_nn u152 a149))).trans h9_11
      have h9_13 : f60 q151 = some e9 := (k62 _ (Ne.symm (z_nn u152 a439))).trans h9_12
      have h9_14 : f64 q151 = some e9 := (k66 _ (Ne.symm (z_nn u152 a149))).trans h9_13
      have h9_15 : f69 q151 = some e9 := (k71 _ (Ne.symm (z_nn u152 a441))).trans h9_14
      have h9_16 : f73 q151 = some e9 := (k75 _ (Ne.symm (z_nn u152 a149))).trans h9_15
      have h9_17 : f78 q151 = some e9 := (k80 _ (Ne.symm (z_nn u152 a443))).trans h9_16
      have h9_18 : f82 q151 = some e9 := (k84 _ (Ne.symm (z_nn u152 a149))).trans h9_17
      have h9_19 : f87 q151 = some e9 := (k89 _ (Ne.symm (z_nn u152 a445))).trans h9_18
      have h9_20 : f91 q151 = some e9 := (k93 _ (Ne.symm (z_nn u152 a149))).trans h9_19
      have h9_21 : f96 q151 = some e9 := (k98 _ (Ne.symm (z_nn u152 a447))).trans h9_20
      have h9_22 : f100 q151 = some e9 := (k102 _ (Ne.symm (z_nn u152 a149))).trans h9_21
      have h9_23 : f105 q151 = some e9 := (k107 _ (Ne.symm (z_nn u152 a449))).trans h9_22
      have h9_24 : f109 q151 = some e9 := (k111 _ (Ne.symm (z_nn u152 a149))).trans h9_23
      have h9_25 : f114 q151 = some e9 := (k116 _ (Ne.symm (z_nn u152 a451))).trans h9_24
      have h9_26 : f118 q151 = some e9 := (k120 _ (Ne.symm (z_nn u152 a149))).trans h9_25
      have h9_27 : f123 q151 = some e9 := (k125 _ (Ne.symm (z_nn u152 a453))).trans h9_26
      have h9_28 : f127 q151 = some e9 := (k129 _ (Ne.symm (z_nn u152 a149))).trans h9_27
      have h9_29 : f132 q151 = some e9 := (k134 _ (Ne.symm (z_nn u152 a455))).trans h9_28
      have h9_30 : f136 q151 = some e9 := (k138 _ (Ne.symm (z_nn u152 a149))).trans h9_29
      have h9_31 : f139 q151 = some e9 := (k141 _ (Ne.symm (z_nn u152 a149))).trans h9_30
      have h9_32 : f144 q151 = some e9 := (k146 _ (Ne.symm (z_nn u152 a456))).trans h9_31
      have h9_33 : f148 q151 = some e9 := (k150 _ (Ne.symm (z_nn u152 a149))).trans h9_32
      rw [u152] at h9_33
      cases h9_33
  have a458 : f153 q4 = some (.inl (cy 0, 8, .inl (fun _ => 0))) := (k155 _ (z_nn u152 a427)).trans a427
  have a459 : f157 q4 = some (.inl (cy 0, 8, .inl (fun _ => 0))) := (k159 _ (Ne.symm (z_nn u5 a2))).trans a458
  have a460 : f153 q13 = some (.inl (cy 0, 12, .inl (fun _ => 0))) := (k155 _ (z_nn u152 a429)).trans a429
  have a461 : f157 q13 = some (.inl (cy 0, 12, .inl (fun _ => 0))) := (k159 _ (Ne.symm (z_nn u14 a11))).trans a460
  have a462 : f153 q22 = some (.inl (cy 0, 60, .inl (fun _ => 0))) := (k155 _ (z_nn u152 a431)).trans a431
  have a463 : f157 q22 = some (.inl (cy 0, 60, .inl (fun _ => 0))) := (k159 _ (Ne.symm (z_nn u23 a20))).trans a462
  have a464 : f153 q31 = some (.inl (cy 0, 60, .inl (fun _ => 0))) := (k155 _ (z_nn u152 a433)).trans a433
  have a465 : f157 q31 = some (.inl (cy 0, 60, .inl (fun _ => 0))) := (k159 _ (Ne.symm (z_nn u32 a29))).trans a464
  have a466 : f153 q40 = some (.inl (cy 1, 960, .inr (.inl (fun _ => 0)))) := (k155 _ (z_nn u152 a435)).trans a435
  have a467 : f157 q40 = some (.inl (cy 1, 960, .inr (.inl (fun _ => 0)))) := (k159 _ (Ne.symm (z_nn u41 a38))).trans a466
  have a468 : f153 q49 = some (.inl (cy 2, 60, .inl (fun _ => 0))) := (k155 _ (z_nn u152 a437)).trans a437
  have a469 : f157 q49 = some (.inl (cy 2, 60, .inl (fun _ => 0))) := (k159 _ (Ne.symm (z_nn u50 a47))).trans a468
  have a470 : f153 q58 = some (.inl (cy 0, 60, .inl (fun _ => 0))) := (k155 _ (z_nn u152 a439)).trans a439
  have a471 : f157 q58 = some (.inl (cy 0, 60, .inl (fun _ => 0))) := (k159 _ (Ne.symm (z_nn u59 a56))).trans a470
  have a472 : f153 q67 = some (.inl (cy 0, 60, .inl (fun _ => 0))) := (k155 _ (z_nn u152 a441)).trans a441
  have a473 : f157 q67 = some (.inl (cy 0, 60, .inl (fun _ => 0))) := (k159 _ (Ne.symm (z_nn u68 a65))).trans a472
  have a474 : f153 q76 = some (.inl (cy 1, 60, .inr (.inl (fun _ => 0)))) := (k155 _ (z_nn u152 a443)).trans a443
  have a475 : f157 q76 = some (.inl (cy 1, 60, .inr (.inl (fun _ => 0)))) := (k159 _ (Ne.symm (z_nn u77 a74))).trans a474
  have a476 : f153 q85 = some (.inl (cy 0, 6, .inl (fun _ => 0))) := (k155 _ (z_nn u152 a445)).trans a445
  have a477 : f157 q85 = some (.inl (cy 0, 6, .inl (fun _ => 0))) := (k159 _ (Ne.symm (z_nn u86 a83))).trans a476
  have a478 : f153 q94 = some (.inl (cy 0, 24, .inl (fun _ => 0))) := (k155 _ (z_nn u152 a447)).trans a447
  have a479 : f157 q94 = some (.inl (cy 0, 24, .inl (fun _ => 0))) := (k159 _ (Ne.symm (z_nn u95 a92))).trans a478
  have a480 : f153 q103 = some (.inl (cy 0, 60, .inl (fun _ => 0))) := (k155 _ (z_nn u152 a449)).trans a449
  have a481 : f157 q103 = some (.inl (cy 0, 60, .inl (fun _ => 0))) := (k159 _ (Ne.symm (z_nn u104 a101))).trans a480
  have a482 : f153 q112 = some (.inl (cy 0, 60, .inl (fun _ => 0))) := (k155 _ (z_nn u152 a451)).trans a451
  have a483 : f157 q112 = some (.inl (cy 0, 60, .inl (fun _ => 0))) := (k159 _ (Ne.symm (z_nn u113 a110))).trans a482
  have a484 : f153 q121 = some (.inl (cy 0, 60, .inl (fun _ => 0))) := (k155 _ (z_nn u152 a453)).trans a453
  have a485 : f157 q121 = some (.inl (cy 0, 60, .inl (fun _ => 0))) := (k159 _ (Ne.symm (z_nn u122 a119))).trans a484
  have a486 : f153 q130 = some (.inl (cy 0, 4, .inl (fun _ => 0))) := (k155 _ (z_nn u152 a455)).trans a455
  have a487 : f157 q130 = some (.inl (cy 0, 4, .inl (fun _ => 0))) := (k159 _ (Ne.symm (z_nn u131 a128))).trans a486
  have a488 : f153 q142 = some (.inl (cy 0, 40, .inl (fun _ => 0))) := (k155 _ (z_nn u152 a456)).trans a456
  have a489 : f157 q142 = some (.inl (cy 0, 40, .inl (fun _ => 0))) := (k159 _ (Ne.symm (z_nn u143 a140))).trans a488
  have a490 : f157 q151 = some (.inl (cy 0, 40, .inl (fun _ => 0))) := (k159 _ (Ne.symm (z_nn u152 a149))).trans a154
  have w457 : f q160 = none := by
    rcases h9 : f q160 with _ | e9
    · rfl
    · exfalso
      have h9_0 : f1 q160 = some e9 := (k3 _ (Ne.symm (z_nn u161 a158))).trans h9
      have h9_1 : f6 q160 = some e9 := (k8 _ (Ne.symm (z_nn u161 a459))).trans h9_0
      have h9_2 : f10 q160 = some e9 := (k12 _ (Ne.symm (z_nn u161 a158))).trans h9_1
      have h9_3 : f15 q160 = some e9 := (k17 _ (Ne.symm (z_nn u161 a461))).trans h9_2
      have h9_4 : f19 q160 = some e9 := (k21 _ (Ne.symm (z_nn u161 a158))).trans h9_3
      have h9_5 : f24 q160 = some e9 := (k26 _ (Ne.symm (z_nn u161 a463))).trans h9_4
      have h9_6 : f28 q160 = some e9 := (k30 _ (Ne.symm (z_nn u161 a158))).trans h9_5
      have h9_7 : f33 q160 = some e9 := (k35 _ (Ne.symm (z_nn u161 a465))).trans h9_6
      have h9_8 : f37 q160 = some e9 := (k39 _ (Ne.symm (z_nn u161 a158))).trans h9_7
      have h9_9 : f42 q160 = some e9 := (k44 _ (Ne.symm (z_nn u161 a467))).trans h9_8
      have h9_10 : f46 q160 = some e9 := (k48 _ (Ne.symm (z_nn u161 a158))).trans h9_9
      have h9_11 : f51 q160 = some e9 := (k53 _ (Ne.symm (z_nn u161 a469))).trans h9_10
      have h9_12 : f55 q160 = some e9 := (k57 _ (Ne.symm (z_nn u161 a158))).trans h9_11
      have h9_13 : f60 q160 = some e9 := (k62 _ (Ne.symm (z_nn u161 a471))).trans h9_12
      have h9_14 : f64 q160 = some e9 := (k66 _ (Ne.symm (z_nn u161 a158))).trans h9_13
      have h9_15 : f69 q160 = some e9 := (k71 _ (Ne.symm (z_nn u161 a473))).trans h9_14
      have h9_16 : f73 q160 = some e9 := (k75 _ (Ne.symm (z_nn u161 a158))).trans h9_15
      have h9_17 : f78 q160 = some e9 := (k80 _ (Ne.symm (z_nn u161 a475))).trans h9_16
      have h9_18 : f82 q160 = some e9 := (k84 _ (Ne.symm (z_nn u161 a158))).trans h9_17
      have h9_19 : f87 q160 = some e9 := (k89 _ (Ne.symm (z_nn u161 a477))).trans h9_18
      have h9_20 : f91 q160 = some e9 := (k93 _ (Ne.symm (z_nn u161 a158))).trans h9_19
      have h9_21 : f96 q160 = some e9 := (k98 _ (Ne.symm (z_nn u161 a479))).trans h9_20
      have h9_22 : f100 q160 = some e9 := (k102 _ (Ne.symm (z_nn u161 a158))).trans h9_21
      have h9_23 : f105 q160 = some e9 := (k107 _ (Ne.symm (z_nn u161 a481))).trans h9_22
      have h9_24 : f109 q160 = some e9 := (k111 _ (Ne.symm (z_nn u161 a158))).trans h9_23
      have h9_25 : f114 q160 = some e9 := (k116 _ (Ne.symm (z_nn u161 a483))).trans h9_24
      have h9_26 : f118 q160 = some e9 := (k120 _ (Ne.symm (z_nn u161 a158))).trans h9_25
      have h9_27 : f123 q160 = some e9 := (k125 _ (Ne.symm (z_nn u161 a485))).trans h9_26
      have h9_28 : f127 q160 = some e9 := (k129 _ (Ne.symm (z_nn u161 a158))).trans h9_27
      have h9_29 : f132 q160 = some e9 := (k134 _ (Ne.symm (z_nn u161 a487))).trans h9_28
      have h9_30 : f136 q160 = some e9 := (k138 _ (Ne.symm (z_nn u161 a158))).trans h9_29
      have h9_31 : f139 q160 = some e9 := (k141 _ (Ne.symm (z_nn u161 a158))).trans h9_30
      have h9_32 : f144 q160 = some e9 := (k146 _ (Ne.symm (z_nn u161 a489))).trans h9_31
      have h9_33 : f148 q160 = some e9 := (k150 _ (Ne.symm (z_nn u161 a158))).trans h9_32
      have h9_34 : f153 q160 = some e9 := (k155 _ (Ne.symm (z_nn u161 a490))).trans h9_33
      have h9_35 : f157 q160 = some e9 := (k159 _ (Ne.symm (z_nn u161 a158))).trans h9_34
      rw [u161] at h9_35
      cases h9_35
  have a491 : f162 q4 = some (.inl (cy 0, 8, .inl (fun _ => 0))) := (k164 _ (z_nn u161 a459)).trans a459
  have a492 : f166 q4 = some (.inl (cy 0, 8, .inl (fun _ => 0))) := (k168 _ (Ne.symm (z_nn u5 a2))).trans a491
  have a493 : f162 q13 = some (.inl (cy 0, 12, .inl (fun _ => 0))) := (k164 _ (z_nn u161 a461)).trans a461
  have a494 : f166 q13 = some (.inl (cy 0, 12, .inl (fun _ => 0))) := (k168 _ (Ne.symm (z_nn u14 a11))).trans a493
  have a495 : f162 q22 = some (.inl (cy 0, 60, .inl (fun _ => 0))) := (k164 _ (z_nn u161 a463)).trans a463
  have a496 : f166 q22 = some (.inl (cy 0, 60, .inl (fun _ => 0))) := (k168 _ (Ne.symm (z_nn u23 a20))).trans a495
  have a497 : f162 q31 = some (.inl (cy 0, 60, .inl (fun _ => 0))) := (k164 _ (z_nn u161 a465)).trans a465
  have a498 : f166 q31 = some (.inl (cy 0, 60, .inl (fun _ => 0))) := (k168 _ (Ne.symm (z_nn u32 a29))).trans a497
  have a499 : f162 q40 = some (.inl (cy 1, 960, .inr (.inl (fun _ => 0)))) := (k164 _ (z_nn u161 a467)).trans a467
  have a500 : f166 q40 = some (.inl (cy 1, 960, .inr (.inl (fun _ => 0)))) := (k168 _ (Ne.symm (z_nn u41 a38))).trans a499
  have a501 : f162 q49 = some (.inl (cy 2, 60, .inl (fun _ => 0))) := (k164 _ (z_nn u161 a469)).trans a469
  have a502 : f166 q49 = some (.inl (cy 2, 60, .inl (fun _ => 0))) := (k168 _ (Ne.symm (z_nn u50 a47))).trans a501
  have a503 : f162 q58 = some (.inl (cy 0, 60, .inl (fun _ => 0))) := (k164 _ (z_nn u161 a471)).trans a471
  have a504 : f166 q58 = some (.inl (cy 0, 60, .inl (fun _ => 0))) := (k168 _ (Ne.symm (z_nn u59 a56))).trans a503
  have a505 : f162 q67 = some (.inl (cy 0, 60, .inl (fun _ => 0))) := (k164 _ (z_nn u161 a473)).trans a473
  have a506 : f166 q67 = some (.inl (cy 0, 60, .inl (fun _ => 0))) := (k168 _ (Ne.symm (z_nn u68 a65))).trans a505
  have a507 : f162 q76 = some (.inl (cy 1, 60, .inr (.inl (fun _ => 0)))) := (k164 _ (z_nn u161 a475)).trans a475
  have a508 : f166 q76 = some (.inl (cy 1, 60, .inr (.inl (fun _ => 0)))) := (k168 _ (Ne.symm (z_nn u77 a74))).trans a507
  have a509 : f162 q85 = some (.inl (cy 0, 6, .inl (fun _ => 0))) := (k164 _ (z_nn u161 a477)).trans a477
  have a510 : f166 q85 = some (.inl (cy 0, 6, .inl (fun _ => 0))) := (k168 _ (Ne.symm (z_nn u86 a83))).trans a509
  have a511 : f162 q94 = some (.inl (cy 0, 24, .inl (fun _ => 0))) := (k164 _ (z_nn u161 a479)).trans a479
  have a512 : f166 q94 = some (.inl (cy 0, 24, .inl (fun _ => 0))) := (k168 _ (Ne.symm (z_nn u95 a92))).trans a511
  have a513 : f162 q103 = some (.inl (cy 0, 60, .inl (fun _ => 0))) := (k164 _ (z_nn u161 a481)).trans a481
  have a514 : f166 q103 = some (.inl (cy 0, 60, .inl (fun _ => 0))) := (k168 _ (Ne.symm (z_nn u104 a101))).trans a513
  have a515 : f162 q112 = some (.inl (cy 0, 60, .inl (fun _ => 0))) := (k164 _ (z_nn u161 a483)).trans a483
  have a516 : f166 q112 = some (.inl (cy 0, 60, .inl (fun _ => 0))) := (k168 _ (Ne.symm (z_nn u113 a110))).trans a515
  have a517 : f162 q121 = some (.inl (cy 0, 60, .inl (fun _ => 0))) := (k164 _ (z_nn u161 a485)).trans a485
  have a518 : f166 q121 = some (.inl (cy 0, 60, .inl (fun _ => 0))) := (k168 _ (Ne.symm (z_nn u122 a119))).trans a517
  have a519 : f162 q130 = some (.inl (cy 0, 4, .inl (fun _ => 0))) := (k164 _ (z_nn u161 a487)).trans a487
  have a520 : f166 q130 = some (.inl (cy 0, 4, .inl (fun _ => 0))) := (k168 _ (Ne.symm (z_nn u131 a128))).trans a519
  have a521 : f162 q142 = some (.inl (cy 0, 40, .inl (fun _ => 0))) := (k164 _ (z_nn u161 a489)).trans a489
  have a522 : f166 q142 = some (.inl (cy 0, 40, .inl (fun _ => 0))) := (k168 _ (Ne.symm (z_nn u143 a140))).trans a521
  have a523 : f162 q151 = some (.inl (cy 0, 40, .inl (fun _ => 0))) := (k164 _ (z_nn u161 a490)).trans a490
  have a524 : f166 q151 = some (.inl (cy 0, 40, .inl (fun _ => 0))) := (k168 _ (Ne.symm (z_nn u152 a149))).trans a523
  have a525 : f166 q160 = some (.inl (cy 0, 40, .inl (fun _ => 0))) := (k168 _ (Ne.symm (z_nn u161 a158))).trans a163
  exact z_vret C hr hz hS ⟨q4, q13, q22, q31, q40, q49, q58, q67, q76, q85, q94, q103, q112, q121, q130, q142, q151, q160, w169, w170, w172, w176, w182, w190, w200, w212, w226, w242, w260, w280, w302, w326, w352, w380, w425, w457, (z_nn u32 a181), (z_nn u68 a225), (z_nn u59 a206), (z_nn u68 a218), (z_nn u59 a208), (z_nn u68 a220), (Ne.symm (z_nn u113 a325)), (Ne.symm (z_nn u122 a350)), (Ne.symm (z_nn u122 a351)), (Ne.symm (z_nn u50 a196)), (Ne.symm (z_nn u50 a198)), (z_nn u59 a211), (z_nn u68 a224), a167, a492, a494, a496, a498, a500, a502, a504, a506, a508, a510, a512, a514, a516, a518, a520, a522, a524, a525, (by
        intro b e hb n0
        have hb0 : f1 b = some e := (k3 b n0).trans hb
        have nn1 : b ≠ q4 := z_nn u5 hb0
        have hb1 : f6 b = some e := (k8 b nn1).trans hb0
        have hb2 : f10 b = some e := (k12 b n0).trans hb1
        have nn3 : b ≠ q13 := z_nn u14 hb2
        have hb3 : f15 b = some e := (k17 b nn3).trans hb2
        have hb4 : f19 b = some e := (k21 b n0).trans hb3
        have nn5 : b ≠ q22 := z_nn u23 hb4
        have hb5 : f24 b = some e := (k26 b nn5).trans hb4
        have hb6 : f28 b = some e := (k30 b n0).trans hb5
        have nn7 : b ≠ q31 := z_nn u32 hb6
        have hb7 : f33 b = some e := (k35 b nn7).trans hb6
        have hb8 : f37 b = some e := (k39 b n0).trans hb7
        have nn9 : b ≠ q40 := z_nn u41 hb8
        have hb9 : f42 b = some e := (k44 b nn9).trans hb8
        have hb10 : f46 b = some e := (k48 b n0).trans hb9
        have nn11 : b ≠ q49 := z_nn u50 hb10
        have hb11 : f51 b = some e := (k53 b nn11).trans hb10
        have hb12 : f55 b = some e := (k57 b n0).trans hb11
        have nn13 : b ≠ q58 := z_nn u59 hb12
        have hb13 : f60 b = some e := (k62 b nn13).trans hb12
        have hb14 : f64 b = some e := (k66 b n0).trans hb13
        have nn15 : b ≠ q67 := z_nn u68 hb14
        have hb15 : f69 b = some e := (k71 b nn15).trans hb14
        have hb16 : f73 b = some e := (k75 b n0).trans hb15
        have nn17 : b ≠ q76 := z_nn u77 hb16
        have hb17 : f78 b = some e := (k80 b nn17).trans hb16
        have hb18 : f82 b = some e := (k84 b n0).trans hb17
        have nn19 : b ≠ q85 := z_nn u86 hb18
        have hb19 : f87 b = some e := (k89 b nn19).trans hb18
        have hb20 : f91 b = some e := (k93 b n0).trans hb19
        have nn21 : b ≠ q94 := z_nn u95 hb20
        have hb21 : f96 b = some e := (k98 b nn21).trans hb20
        have hb22 : f100 b = some e := (k102 b n0).trans hb21
        have nn23 : b ≠ q103 := z_nn u104 hb22
        have hb23 : f105 b = some e := (k107 b nn23).trans hb22
        have hb24 : f109 b = some e := (k111 b n0).trans hb23
        have nn25 : b ≠ q112 := z_nn u113 hb24
        have hb25 : f114 b = some e := (k116 b nn25).trans hb24
        have hb26 : f118 b = some e := (k120 b n0).trans hb25
        have nn27 : b ≠ q121 := z_nn u122 hb26
        have hb27 : f123 b = some e := (k125 b nn27).trans hb26
        have hb28 : f127 b = some e := (k129 b n0).trans hb27
        have nn29 : b ≠ q130 := z_nn u131 hb28
        have hb29 : f132 b = some e := (k134 b nn29).trans hb28
        have hb30 : f136 b = some e := (k138 b n0).trans hb29
        have hb31 : f139 b = some e := (k141 b n0).trans hb30
        have nn32 : b ≠ q142 := z_nn u143 hb31
        have hb32 : f144 b = some e := (k146 b nn32).trans hb31
        have hb33 : f148 b = some e := (k150 b n0).trans hb32
        have nn34 : b ≠ q151 := z_nn u152 hb33
        have hb34 : f153 b = some e := (k155 b nn34).trans hb33
        have hb35 : f157 b = some e := (k159 b n0).trans hb34
        have nn36 : b ≠ q160 := z_nn u161 hb35
        have hb36 : f162 b = some e := (k164 b nn36).trans hb35
        have hb37 : f166 b = some e := (k168 b n0).trans hb36
        exact hb37)⟩ (Nat.le_of_ble_eq_true rfl) (Nat.le_of_ble_eq_true rfl) dX8_init_158
