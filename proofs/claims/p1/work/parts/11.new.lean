abbrev rmX7_init : Room := { frames := 2, cells := 20, slots := 548, locals := 32 }
set_option maxHeartbeats 4000000 in
set_option maxRecDepth 100000 in
theorem k_X7_init (l : Launch) (D : va_G) (cy : Nat → ClassId) (f : zM) (o : Nat) (p0 : f o = some (.inr (7, [.null, .null, .null, .int 0, .null, .int 0, .null, .int 0, .null, .null, .long 0])))  : zCv l D cy yX7_init cX7_init 2 none rmX7_init [.ref o] f (fun (f1 : zM) => ∃ (fa : Nat) (fi : Nat) (nu : Nat) (fm : Nat) (co : Nat) (en : Nat) (ke : Nat) (ev : Nat) (al : Nat) (ra : Nat) (kn : Nat) (vq : Nat) (ge : Nat → Option Nat) (ea : Nat → Nat) (ma : Nat → Nat), (al ≠ ra) ∧ (∀ j, j < 4 → ge j = some (ea j)) ∧ (∀ j, j < 4 → f1 (ea j) = some (.inr (1, [.ref (ma j), .int 0]))) ∧ (∀ j, j < 4 → f1 (ma j) = some (.inl (cy 0, 60, .inl (fun _ => 0)))) ∧ f1 o = some (.inr (7, [.ref fa, .ref fi, .ref nu, .int 0, .ref fm, .int 0, .ref co, .int 0, .ref en, .ref ke, .long 1])) ∧ f1 fa = some (.inr (2, [.int 0, .int (-1), .int 0, .ref ev])) ∧ f1 ev = some (.inl (cy 0, 8, .inl (fun _ => 0))) ∧ f1 fi = some (.inr (5, [.ref al, .ref ra, .int 0])) ∧ f1 al = some (.inl (cy 3, 60, .inr (.inr (.inr (.inr (fun _ => none)))))) ∧ f1 ra = some (.inl (cy 3, 60, .inr (.inr (.inr (.inr (fun _ => none)))))) ∧ f1 nu = some (.inl (cy 0, 12, .inl (fun _ => 0))) ∧ f1 fm = some (.inl (cy 4, 6, .inr (.inr (.inr (.inr (fun _ => none)))))) ∧ f1 co = some (.inl (cy 5, 60, .inr (.inr (.inr (.inr (fun _ => none)))))) ∧ f1 en = some (.inl (cy 6, 4, .inr (.inr (.inr (.inr ge))))) ∧ f1 ke = some (.inr (6, [.ref kn, .ref vq, .int 0])) ∧ (∀ (b : Nat) (e : va_E), f b = some e → b ≠ o → f1 b = some e)) := by
  intro sz
  refine z_body (by decide +kernel) (Nat.le_of_ble_eq_true rfl) ?_
  intro p e s m below meth c ls C hr hin hsz hz hl
  subst hsz
  have hx := C.1
  have hb := C.2.1
  have hA : ∀ q, s.heap.size ≤ q → zA f s.heap.size q := fun q h => Or.inr h
  have hS : va_S (zA f s.heap.size) s.heap s.heap [] := va_S.rf
  have hl : lv_has ls 2 [(0, .ref o)] := hl
  refine lv_aload_n hx hb dX7_init_0 rfl (lv_at hl 0 rfl) ?_
  refine z_objI C hl mMX7_1 (Nat.le_of_ble_eq_true rfl) (Nat.le_of_ble_eq_true rfl) dX7_init_1 ?_
  refine lv_aload_n hx hb dX7_init_4 rfl (lv_at hl 0 rfl) ?_
  refine z_new (fs := [.int 0, .int 0, .int 0, .null]) C hz hS hA zl2 mLX7_7 mIa_RX2 mIn_RX2 (by decide +kernel) (Nat.le_of_ble_eq_true rfl) (Nat.le_of_ble_eq_true rfl) dX7_init_5 (fun q1 H f3 u2 a4 k5 hz hS => ?_)
  refine lv_dup hx hb dX7_init_8 rfl ?_
  refine z_callINv (ret := none) (As := []) C hz hS hA hl (k_X2_init l D cy f3 q1 a4 ) zyX2_init mMNX7_9 rfl rfl (Nat.le_of_ble_eq_true rfl) ⟨Nat.le_of_ble_eq_true rfl, Nat.le_of_ble_eq_true rfl⟩ ⟨Nat.le_of_ble_eq_true rfl, Nat.le_of_ble_eq_true rfl⟩ dX7_init_9 (fun  f6 H locs h7 hz hS => ?_)
  obtain ⟨ev_8, a9, a10, k11⟩ := h7
  have a12 : f3 o = some (.inr (7, [.null, .null, .null, .int 0, .null, .int 0, .null, .int 0, .null, .null, .long 0])) := (k5 _ (z_nn u2 p0)).trans p0
  have a13 : f6 o = some (.inr (7, [.null, .null, .null, .int 0, .null, .int 0, .null, .int 0, .null, .null, .long 0])) := k11 _ _ a12 (z_nn u2 p0)
  refine z_putF (fs' := [.ref q1, .null, .null, .int 0, .null, .int 0, .null, .int 0, .null, .null, .long 0]) C hz hS a13 zl7 mFX7_10 (by decide) rfl hin rfl rfl rfl (Nat.le_of_ble_eq_true rfl) rfl dX7_init_12 (fun H locs f14 a15 k16 hz hS => ?_)
  refine lv_aload_n hx hb dX7_init_15 rfl (lv_at hl 0 rfl) ?_
  refine z_new (fs := [.null, .null, .int 0]) C hz hS hA zl5 mLX7_16 mIa_RX5 mIn_RX5 (by decide +kernel) (Nat.le_of_ble_eq_true rfl) (Nat.le_of_ble_eq_true rfl) dX7_init_16 (fun q17 H f19 u18 a20 k21 hz hS => ?_)
  refine lv_dup hx hb dX7_init_19 rfl ?_
  refine z_callINv (ret := none) (As := []) C hz hS hA hl (k_X5_init l D cy f19 q17 a20 ) zyX5_init mMNX7_18 rfl rfl (Nat.le_of_ble_eq_true rfl) ⟨Nat.le_of_ble_eq_true rfl, Nat.le_of_ble_eq_true rfl⟩ ⟨Nat.le_of_ble_eq_true rfl, Nat.le_of_ble_eq_true rfl⟩ dX7_init_20 (fun  f22 H locs h23 hz hS => ?_)
  obtain ⟨al_24, ra_25, p26, a27, a28, a29, k30⟩ := h23
  have a31 : f19 o = some (.inr (7, [.ref q1, .null, .null, .int 0, .null, .int 0, .null, .int 0, .null, .null, .long 0])) := (k21 _ (z_nn u18 a15)).trans a15
  have a32 : f22 o = some (.inr (7, [.ref q1, .null, .null, .int 0, .null, .int 0, .null, .int 0, .null, .null, .long 0])) := k30 _ _ a31 (z_nn u18 a15)
  refine z_putF (fs' := [.ref q1, .ref q17, .null, .int 0, .null, .int 0, .null, .int 0, .null, .null, .long 0]) C hz hS a32 zl7 mFX7_19 (by decide) rfl hin rfl rfl rfl (Nat.le_of_ble_eq_true rfl) rfl dX7_init_23 (fun H locs f33 a34 k35 hz hS => ?_)
  refine lv_aload_n hx hb dX7_init_26 rfl (lv_at hl 0 rfl) ?_
  refine lv_bipush (v := 12) hx hb dX7_init_27 (by decide) ?_
  refine z_newa (atype := .int) (t0 := 0) (N' := 12) (x := (.inl (fun _ => 0))) C hz hS hA rfl mA_int rfl (fun _ => rfl) (by decide) (Nat.le_of_ble_eq_true rfl) (by decide) (Nat.le_of_ble_eq_true rfl) (Nat.le_of_ble_eq_true rfl) dX7_init_29 (fun q36 H f38 u37 a39 k40 hz hS => ?_)
  have a41 : f38 o = some (.inr (7, [.ref q1, .ref q17, .null, .int 0, .null, .int 0, .null, .int 0, .null, .null, .long 0])) := (k40 _ (z_nn u37 a34)).trans a34
  refine z_putF (fs' := [.ref q1, .ref q17, .ref q36, .int 0, .null, .int 0, .null, .int 0, .null, .null, .long 0]) C hz hS a41 zl7 mFX7_23 (by decide) rfl hin rfl rfl rfl (Nat.le_of_ble_eq_true rfl) rfl dX7_init_31 (fun H locs f42 a43 k44 hz hS => ?_)
  refine lv_aload_n hx hb dX7_init_34 rfl (lv_at hl 0 rfl) ?_
  refine lv_iconst (v := 0) hx hb dX7_init_35 (by decide) ?_
  refine z_put (fs' := [.ref q1, .ref q17, .ref q36, .int 0, .null, .int 0, .null, .int 0, .null, .null, .long 0]) C hz hS a43 zl7 mFX7_27 (by decide) rfl rfl rfl (Nat.le_of_ble_eq_true rfl) rfl dX7_init_36 (fun H locs f45 a46 k47 hz hS => ?_)
  refine lv_aload_n hx hb dX7_init_39 rfl (lv_at hl 0 rfl) ?_
  refine lv_bipush (v := 6) hx hb dX7_init_40 (by decide) ?_
  refine z_newq (t0 := 4) (N' := 6) C hz hS hA mLX7_31 mAO_RX3 rfl (by decide) (Nat.le_of_ble_eq_true rfl) (Nat.le_of_ble_eq_true rfl) (Nat.le_of_ble_eq_true rfl) dX7_init_42 (fun q48 H f50 u49 a51 k52 hz hS => ?_)
  have a53 : f50 o = some (.inr (7, [.ref q1, .ref q17, .ref q36, .int 0, .null, .int 0, .null, .int 0, .null, .null, .long 0])) := (k52 _ (z_nn u49 a46)).trans a46
  refine z_putF (fs' := [.ref q1, .ref q17, .ref q36, .int 0, .ref q48, .int 0, .null, .int 0, .null, .null, .long 0]) C hz hS a53 zl7 mFX7_33 (by decide) rfl hin rfl rfl rfl (Nat.le_of_ble_eq_true rfl) rfl dX7_init_45 (fun H locs f54 a55 k56 hz hS => ?_)
  refine lv_aload_n hx hb dX7_init_48 rfl (lv_at hl 0 rfl) ?_
  refine lv_iconst (v := 0) hx hb dX7_init_49 (by decide) ?_
  refine z_put (fs' := [.ref q1, .ref q17, .ref q36, .int 0, .ref q48, .int 0, .null, .int 0, .null, .null, .long 0]) C hz hS a55 zl7 mFX7_37 (by decide) rfl rfl rfl (Nat.le_of_ble_eq_true rfl) rfl dX7_init_50 (fun H locs f57 a58 k59 hz hS => ?_)
  refine lv_aload_n hx hb dX7_init_53 rfl (lv_at hl 0 rfl) ?_
  refine lv_bipush (v := 60) hx hb dX7_init_54 (by decide) ?_
  refine z_newq (t0 := 5) (N' := 60) C hz hS hA mLX7_40 mAO_RX0 rfl (by decide) (Nat.le_of_ble_eq_true rfl) (Nat.le_of_ble_eq_true rfl) (Nat.le_of_ble_eq_true rfl) dX7_init_56 (fun q60 H f62 u61 a63 k64 hz hS => ?_)
  have a65 : f62 o = some (.inr (7, [.ref q1, .ref q17, .ref q36, .int 0, .ref q48, .int 0, .null, .int 0, .null, .null, .long 0])) := (k64 _ (z_nn u61 a58)).trans a58
  refine z_putF (fs' := [.ref q1, .ref q17, .ref q36, .int 0, .ref q48, .int 0, .ref q60, .int 0, .null, .null, .long 0]) C hz hS a65 zl7 mFX7_42 (by decide) rfl hin rfl rfl rfl (Nat.le_of_ble_eq_true rfl) rfl dX7_init_59 (fun H locs f66 a67 k68 hz hS => ?_)
  refine lv_aload_n hx hb dX7_init_62 rfl (lv_at hl 0 rfl) ?_
  refine lv_iconst (v := 0) hx hb dX7_init_63 (by decide) ?_
  refine z_put (fs' := [.ref q1, .ref q17, .ref q36, .int 0, .ref q48, .int 0, .ref q60, .int 0, .null, .null, .long 0]) C hz hS a67 zl7 mFX7_46 (by decide) rfl rfl rfl (Nat.le_of_ble_eq_true rfl) rfl dX7_init_64 (fun H locs f69 a70 k71 hz hS => ?_)
  refine lv_aload_n hx hb dX7_init_67 rfl (lv_at hl 0 rfl) ?_
  refine lv_iconst (v := 4) hx hb dX7_init_68 (by decide) ?_
  refine z_newq (t0 := 6) (N' := 4) C hz hS hA mLX7_49 mAO_RX1 rfl (by decide) (Nat.le_of_ble_eq_true rfl) (Nat.le_of_ble_eq_true rfl) (Nat.le_of_ble_eq_true rfl) dX7_init_69 (fun q72 H f74 u73 a75 k76 hz hS => ?_)
  have a77 : f74 o = some (.inr (7, [.ref q1, .ref q17, .ref q36, .int 0, .ref q48, .int 0, .ref q60, .int 0, .null, .null, .long 0])) := (k76 _ (z_nn u73 a70)).trans a70
  refine z_putF (fs' := [.ref q1, .ref q17, .ref q36, .int 0, .ref q48, .int 0, .ref q60, .int 0, .ref q72, .null, .long 0]) C hz hS a77 zl7 mFX7_51 (by decide) rfl hin rfl rfl rfl (Nat.le_of_ble_eq_true rfl) rfl dX7_init_72 (fun H locs f78 a79 k80 hz hS => ?_)
  refine lv_aload_n hx hb dX7_init_75 rfl (lv_at hl 0 rfl) ?_
  refine z_new (fs := [.null, .null, .int 0]) C hz hS hA zl6 mLX7_55 mIa_RX6 mIn_RX6 (by decide +kernel) (Nat.le_of_ble_eq_true rfl) (Nat.le_of_ble_eq_true rfl) dX7_init_76 (fun q81 H f83 u82 a84 k85 hz hS => ?_)
  refine lv_dup hx hb dX7_init_79 rfl ?_
  refine z_callINv (ret := none) (As := []) C hz hS hA hl (k_X6_init l D cy f83 q81 a84 ) zyX6_init mMNX7_57 rfl rfl (Nat.le_of_ble_eq_true rfl) ⟨Nat.le_of_ble_eq_true rfl, Nat.le_of_ble_eq_true rfl⟩ ⟨Nat.le_of_ble_eq_true rfl, Nat.le_of_ble_eq_true rfl⟩ dX7_init_80 (fun  f86 H locs h87 hz hS => ?_)
  obtain ⟨kn_88, vq_89, a90, k91⟩ := h87
  have a92 : f83 o = some (.inr (7, [.ref q1, .ref q17, .ref q36, .int 0, .ref q48, .int 0, .ref q60, .int 0, .ref q72, .null, .long 0])) := (k85 _ (z_nn u82 a79)).trans a79
  have a93 : f86 o = some (.inr (7, [.ref q1, .ref q17, .ref q36, .int 0, .ref q48, .int 0, .ref q60, .int 0, .ref q72, .null, .long 0])) := k91 _ _ a92 (z_nn u82 a79)
  refine z_putF (fs' := [.ref q1, .ref q17, .ref q36, .int 0, .ref q48, .int 0, .ref q60, .int 0, .ref q72, .ref q81, .long 0]) C hz hS a93 zl7 mFX7_58 (by decide) rfl hin rfl rfl rfl (Nat.le_of_ble_eq_true rfl) rfl dX7_init_83 (fun H locs f94 a95 k96 hz hS => ?_)
  refine lv_aload_n hx hb dX7_init_86 rfl (lv_at hl 0 rfl) ?_
  refine lv_lconst (v := 1) hx hb dX7_init_87 (by decide) ?_
  refine z_put (fs' := [.ref q1, .ref q17, .ref q36, .int 0, .ref q48, .int 0, .ref q60, .int 0, .ref q72, .ref q81, .long 1]) C hz hS a95 zl7 mFX7_62 (by decide) rfl rfl rfl (Nat.le_of_ble_eq_true rfl) rfl dX7_init_88 (fun H locs f97 a98 k99 hz hS => ?_)
  refine lv_iconst (v := 0) hx hb dX7_init_91 (by decide) ?_
  refine lv_istore_n (lv' := [(1, .int 0), (0, .ref o)]) hx hb dX7_init_92 rfl hl (by decide) rfl (fun ls hl => ?_)
  refine lv_iload_n hx hb dX7_init_93 rfl (lv_at hl 0 rfl) ?_
  refine lv_iconst (v := 4) hx hb dX7_init_94 (by decide) ?_
  refine lv_icmp_ge (tgt := 117) hx hb dX7_init_95 (by decide) (fun c100 => ?_) (fun c100 => ?_)
  · exact absurd c100 (by decide)
  refine lv_aload_n hx hb dX7_init_98 rfl (lv_at hl 1 rfl) ?_
  refine z_get (v := .ref q72) C hz a98 zl7 mFX7_51 (by decide) rfl dX7_init_99 ?_
  refine lv_iload_n hx hb dX7_init_102 rfl (lv_at hl 0 rfl) ?_
  refine z_new (fs := [.null, .int 0]) C hz hS hA zl1 mLX7_49 mIa_RX1 mIn_RX1 (by decide +kernel) (Nat.le_of_ble_eq_true rfl) (Nat.le_of_ble_eq_true rfl) dX7_init_103 (fun q101 H f103 u102 a104 k105 hz hS => ?_)
  refine lv_dup hx hb dX7_init_106 rfl ?_
  refine z_callINv (ret := none) (As := []) C hz hS hA hl (k_X1_init l D cy f103 q101 a104 ) zyX1_init mMNX7_66 rfl rfl (Nat.le_of_ble_eq_true rfl) ⟨Nat.le_of_ble_eq_true rfl, Nat.le_of_ble_eq_true rfl⟩ ⟨Nat.le_of_ble_eq_true rfl, Nat.le_of_ble_eq_true rfl⟩ dX7_init_107 (fun  f106 H locs h107 hz hS => ?_)
  obtain ⟨mm_108, a109, a110, k111⟩ := h107
  have a112 : f78 q72 = some (.inl (cy 6, 4, .inr (.inr (.inr (.inr (fun _ => none)))))) := (k80 _ (Ne.symm (z_nn u73 a70))).trans a75
  have a113 : f83 q72 = some (.inl (cy 6, 4, .inr (.inr (.inr (.inr (fun _ => none)))))) := (k85 _ (z_nn u82 a112)).trans a112
  have a114 : f86 q72 = some (.inl (cy 6, 4, .inr (.inr (.inr (.inr (fun _ => none)))))) := k91 _ _ a113 (z_nn u82 a112)
  have a115 : f94 q72 = some (.inl (cy 6, 4, .inr (.inr (.inr (.inr (fun _ => none)))))) := (k96 _ (Ne.symm (z_nn u73 a70))).trans a114
  have a116 : f97 q72 = some (.inl (cy 6, 4, .inr (.inr (.inr (.inr (fun _ => none)))))) := (k99 _ (Ne.symm (z_nn u73 a70))).trans a115
  have a117 : f103 q72 = some (.inl (cy 6, 4, .inr (.inr (.inr (.inr (fun _ => none)))))) := (k105 _ (z_nn u102 a116)).trans a116
  have a118 : f106 q72 = some (.inl (cy 6, 4, .inr (.inr (.inr (.inr (fun _ => none)))))) := k111 _ _ a117 (z_nn u102 a116)
  refine z_astq 0 C hz hS a118 rfl a109 zl1 (by decide) (Nat.le_of_ble_eq_true rfl) (by omega) dX7_init_110 (fun H locs f119 a120 k121 hz hS => ?_)
  refine lv_iinc (v := 1) (lv' := [(1, .int 1), (0, .ref o)]) hx hb dX7_init_111 hl (k := 0) rfl (by decide) (by decide) rfl (fun ls hl => ?_)
  refine lv_goto (tgt := 93) hx hb dX7_init_114 (by decide) ?_
  refine lv_iload_n hx hb dX7_init_93 rfl (lv_at hl 0 rfl) ?_
  refine lv_iconst (v := 4) hx hb dX7_init_94 (by decide) ?_
  refine lv_icmp_ge (tgt := 117) hx hb dX7_init_95 (by decide) (fun c122 => ?_) (fun c122 => ?_)
  · exact absurd c122 (by decide)
  refine lv_aload_n hx hb dX7_init_98 rfl (lv_at hl 1 rfl) ?_
  have a123 : f103 o = some (.inr (7, [.ref q1, .ref q17, .ref q36, .int 0, .ref q48, .int 0, .ref q60, .int 0, .ref q72, .ref q81, .long 1])) := (k105 _ (z_nn u102 a98)).trans a98
  have a124 : f106 o = some (.inr (7, [.ref q1, .ref q17, .ref q36, .int 0, .ref q48, .int 0, .ref q60, .int 0, .ref q72, .ref q81, .long 1])) := k111 _ _ a123 (z_nn u102 a98)
  have a125 : f119 o = some (.inr (7, [.ref q1, .ref q17, .ref q36, .int 0, .ref q48, .int 0, .ref q60, .int 0, .ref q72, .ref q81, .long 1])) := (k121 _ (z_nn u73 a70)).trans a124
  refine z_get (v := .ref q72) C hz a125 zl7 mFX7_51 (by decide) rfl dX7_init_99 ?_
  refine lv_iload_n hx hb dX7_init_102 rfl (lv_at hl 0 rfl) ?_
  refine z_new (fs := [.null, .int 0]) C hz hS hA zl1 mLX7_49 mIa_RX1 mIn_RX1 (by decide +kernel) (Nat.le_of_ble_eq_true rfl) (Nat.le_of_ble_eq_true rfl) dX7_init_103 (fun q126 H f128 u127 a129 k130 hz hS => ?_)
  refine lv_dup hx hb dX7_init_106 rfl ?_
  refine z_callINv (ret := none) (As := []) C hz hS hA hl (k_X1_init l D cy f128 q126 a129 ) zyX1_init mMNX7_66 rfl rfl (Nat.le_of_ble_eq_true rfl) ⟨Nat.le_of_ble_eq_true rfl, Nat.le_of_ble_eq_true rfl⟩ ⟨Nat.le_of_ble_eq_true rfl, Nat.le_of_ble_eq_true rfl⟩ dX7_init_107 (fun  f131 H locs h132 hz hS => ?_)
  obtain ⟨mm_133, a134, a135, k136⟩ := h132
  have a137 : f128 q72 = some (.inl (cy 6, 4, .inr (.inr (.inr (.inr (va_up (fun _ => none) 0 (some q101))))))) := (k130 _ (z_nn u127 a120)).trans a120
  have a138 : f131 q72 = some (.inl (cy 6, 4, .inr (.inr (.inr (.inr (va_up (fun _ => none) 0 (some q101))))))) := k136 _ _ a137 (z_nn u127 a120)
  refine z_astq 1 C hz hS a138 rfl a134 zl1 (by decide) (Nat.le_of_ble_eq_true rfl) (by omega) dX7_init_110 (fun H locs f139 a140 k141 hz hS => ?_)
  refine lv_iinc (v := 2) (lv' := [(1, .int 2), (0, .ref o)]) hx hb dX7_init_111 hl (k := 0) rfl (by decide) (by decide) rfl (fun ls hl => ?_)
  refine lv_goto (tgt := 93) hx hb dX7_init_114 (by decide) ?_
  refine lv_iload_n hx hb dX7_init_93 rfl (lv_at hl 0 rfl) ?_
  refine lv_iconst (v := 4) hx hb dX7_init_94 (by decide) ?_
  refine lv_icmp_ge (tgt := 117) hx hb dX7_init_95 (by decide) (fun c142 => ?_) (fun c142 => ?_)
  · exact absurd c142 (by decide)
  refine lv_aload_n hx hb dX7_init_98 rfl (lv_at hl 1 rfl) ?_
  have a143 : f128 o = some (.inr (7, [.ref q1, .ref q17, .ref q36, .int 0, .ref q48, .int 0, .ref q60, .int 0, .ref q72, .ref q81, .long 1])) := (k130 _ (z_nn u127 a125)).trans a125
  have a144 : f131 o = some (.inr (7, [.ref q1, .ref q17, .ref q36, .int 0, .ref q48, .int 0, .ref q60, .int 0, .ref q72, .ref q81, .long 1])) := k136 _ _ a143 (z_nn u127 a125)
  have a145 : f139 o = some (.inr (7, [.ref q1, .ref q17, .ref q36, .int 0, .ref q48, .int 0, .ref q60, .int 0, .ref q72, .ref q81, .long 1])) := (k141 _ (z_nn u73 a70)).trans a144
  refine z_get (v := .ref q72) C hz a145 zl7 mFX7_51 (by decide) rfl dX7_init_99 ?_
  refine lv_iload_n hx hb dX7_init_102 rfl (lv_at hl 0 rfl) ?_
  refine z_new (fs := [.null, .int 0]) C hz hS hA zl1 mLX7_49 mIa_RX1 mIn_RX1 (by decide +kernel) (Nat.le_of_ble_eq_true rfl) (Nat.le_of_ble_eq_true rfl) dX7_init_103 (fun q146 H f148 u147 a149 k150 hz hS => ?_)
  refine lv_dup hx hb dX7_init_106 rfl ?_
  refine z_callINv (ret := none) (As := []) C hz hS hA hl (k_X1_init l D cy f148 q146 a149 ) zyX1_init mMNX7_66 rfl rfl (Nat.le_of_ble_eq_true rfl) ⟨Nat.le_of_ble_eq_true rfl, Nat.le_of_ble_eq_true rfl⟩ ⟨Nat.le_of_ble_eq_true rfl, Nat.le_of_ble_eq_true rfl⟩ dX7_init_107 (fun  f151 H locs h152 hz hS => ?_)
  obtain ⟨mm_153, a154, a155, k156⟩ := h152
  have a157 : f148 q72 = some (.inl (cy 6, 4, .inr (.inr (.inr (.inr (va_up (va_up (fun _ => none) 0 (some q101)) 1 (some q126))))))) := (k150 _ (z_nn u147 a140)).trans a140
  have a158 : f151 q72 = some (.inl (cy 6, 4, .inr (.inr (.inr (.inr (va_up (va_up (fun _ => none) 0 (some q101)) 1 (some q126))))))) := k156 _ _ a157 (z_nn u147 a140)
  refine z_astq 2 C hz hS a158 rfl a154 zl1 (by decide) (Nat.le_of_ble_eq_true rfl) (by omega) dX7_init_110 (fun H locs f159 a160 k161 hz hS => ?_)
  refine lv_iinc (v := 3) (lv' := [(1, .int 3), (0, .ref o)]) hx hb dX7_init_111 hl (k := 0) rfl (by decide) (by decide) rfl (fun ls hl => ?_)
  refine lv_goto (tgt := 93) hx hb dX7_init_114 (by decide) ?_
  refine lv_iload_n hx hb dX7_init_93 rfl (lv_at hl 0 rfl) ?_
  refine lv_iconst (v := 4) hx hb dX7_init_94 (by decide) ?_
  refine lv_icmp_ge (tgt := 117) hx hb dX7_init_95 (by decide) (fun c162 => ?_) (fun c162 => ?_)
  · exact absurd c162 (by decide)
  refine lv_aload_n hx hb dX7_init_98 rfl (lv_at hl 1 rfl) ?_
  have a163 : f148 o = some (.inr (7, [.ref q1, .ref q17, .ref q36, .int 0, .ref q48, .int 0, .ref q60, .int 0, .ref q72, .ref q81, .long 1])) := (k150 _ (z_nn u147 a145)).trans a145
  have a164 : f151 o = some (.inr (7, [.ref q1, .ref q17, .ref q36, .int 0, .ref q48, .int 0, .ref q60, .int 0, .ref q72, .ref q81, .long 1])) := k156 _ _ a163 (z_nn u147 a145)
  have a165 : f159 o = some (.inr (7, [.ref q1, .ref q17, .ref q36, .int 0, .ref q48, .int 0, .ref q60, .int 0, .ref q72, .ref q81, .long 1])) := (k161 _ (z_nn u73 a70)).trans a164
  refine z_get (v := .ref q72) C hz a165 zl7 mFX7_51 (by decide) rfl dX7_init_99 ?_
  refine lv_iload_n hx hb dX7_init_102 rfl (lv_at hl 0 rfl) ?_
  refine z_new (fs := [.null, .int 0]) C hz hS hA zl1 mLX7_49 mIa_RX1 mIn_RX1 (by decide +kernel) (Nat.le_of_ble_eq_true rfl) (Nat.le_of_ble_eq_true rfl) dX7_init_103 (fun q166 H f168 u167 a169 k170 hz hS => ?_)
  refine lv_dup hx hb dX7_init_106 rfl ?_
  refine z_callINv (ret := none) (As := []) C hz hS hA hl (k_X1_init l D cy f168 q166 a169 ) zyX1_init mMNX7_66 rfl rfl (Nat.le_of_ble_eq_true rfl) ⟨Nat.le_of_ble_eq_true rfl, Nat.le_of_ble_eq_true rfl⟩ ⟨Nat.le_of_ble_eq_true rfl, Nat.le_of_ble_eq_true rfl⟩ dX7_init_107 (fun  f171 H locs h172 hz hS => ?_)
  obtain ⟨mm_173, a174, a175, k176⟩ := h172
  have a177 : f168 q72 = some (.inl (cy 6, 4, .inr (.inr (.inr (.inr (va_up (va_up (va_up (fun _ => none) 0 (some q101)) 1 (some q126)) 2 (some q146))))))) := (k170 _ (z_nn u167 a160)).trans a160
  have a178 : f171 q72 = some (.inl (cy 6, 4, .inr (.inr (.inr (.inr (va_up (va_up (va_up (fun _ => none) 0 (some q101)) 1 (some q126)) 2 (some q146))))))) := k176 _ _ a177 (z_nn u167 a160)
  refine z_astq 3 C hz hS a178 rfl a174 zl1 (by decide) (Nat.le_of_ble_eq_true rfl) (by omega) dX7_init_110 (fun H locs f179 a180 k181 hz hS => ?_)
  refine lv_iinc (v := 4) (lv' := [(1, .int 4), (0, .ref o)]) hx hb dX7_init_111 hl (k := 0) rfl (by decide) (by decide) rfl (fun ls hl => ?_)
  refine lv_goto (tgt := 93) hx hb dX7_init_114 (by decide) ?_
  refine lv_iload_n hx hb dX7_init_93 rfl (lv_at hl 0 rfl) ?_
  refine lv_iconst (v := 4) hx hb dX7_init_94 (by decide) ?_
  refine lv_icmp_ge (tgt := 117) hx hb dX7_init_95 (by decide) (fun c182 => ?_) (fun c182 => ?_)
  rotate_left
  · exact absurd c182 (by decide)
  have a183 : f119 q101 = some (.inr (1, [.ref mm_108, .int 0])) := (k121 _ (Ne.symm (z_nn u102 a116))).trans a109
  have a184 : f128 q101 = some (.inr (1, [.ref mm_108, .int 0])) := (k130 _ (z_nn u127 a183)).trans a183
  have a185 : f131 q101 = some (.inr (1, [.ref mm_108, .int 0])) := k136 _ _ a184 (z_nn u127 a183)
  have a186 : f139 q101 = some (.inr (1, [.ref mm_108, .int 0])) := (k141 _ (Ne.symm (z_nn u102 a116))).trans a185
  have a187 : f148 q101 = some (.inr (1, [.ref mm_108, .int 0])) := (k150 _ (z_nn u147 a186)).trans a186
  have a188 : f151 q101 = some (.inr (1, [.ref mm_108, .int 0])) := k156 _ _ a187 (z_nn u147 a186)
  have a189 : f159 q101 = some (.inr (1, [.ref mm_108, .int 0])) := (k161 _ (Ne.symm (z_nn u102 a116))).trans a188
  have a190 : f168 q101 = some (.inr (1, [.ref mm_108, .int 0])) := (k170 _ (z_nn u167 a189)).trans a189
  have a191 : f171 q101 = some (.inr (1, [.ref mm_108, .int 0])) := k176 _ _ a190 (z_nn u167 a189)
  have a192 : f179 q101 = some (.inr (1, [.ref mm_108, .int 0])) := (k181 _ (Ne.symm (z_nn u102 a116))).trans a191
  have a193 : f139 q126 = some (.inr (1, [.ref mm_133, .int 0])) := (k141 _ (Ne.symm (z_nn u127 a120))).trans a134
  have a194 : f148 q126 = some (.inr (1, [.ref mm_133, .int 0])) := (k150 _ (z_nn u147 a193)).trans a193
  have a195 : f151 q126 = some (.inr (1, [.ref mm_133, .int 0])) := k156 _ _ a194 (z_nn u147 a193)
  have a196 : f159 q126 = some (.inr (1, [.ref mm_133, .int 0])) := (k161 _ (Ne.symm (z_nn u127 a120))).trans a195
  have a197 : f168 q126 = some (.inr (1, [.ref mm_133, .int 0])) := (k170 _ (z_nn u167 a196)).trans a196
  have a198 : f171 q126 = some (.inr (1, [.ref mm_133, .int 0])) := k176 _ _ a197 (z_nn u167 a196)
  have a199 : f179 q126 = some (.inr (1, [.ref mm_133, .int 0])) := (k181 _ (Ne.symm (z_nn u127 a120))).trans a198
  have a200 : f159 q146 = some (.inr (1, [.ref mm_153, .int 0])) := (k161 _ (Ne.symm (z_nn u147 a140))).trans a154
  have a201 : f168 q146 = some (.inr (1, [.ref mm_153, .int 0])) := (k170 _ (z_nn u167 a200)).trans a200
  have a202 : f171 q146 = some (.inr (1, [.ref mm_153, .int 0])) := k176 _ _ a201 (z_nn u167 a200)
  have a203 : f179 q146 = some (.inr (1, [.ref mm_153, .int 0])) := (k181 _ (Ne.symm (z_nn u147 a140))).trans a202
  have a204 : f179 q166 = some (.inr (1, [.ref mm_173, .int 0])) := (k181 _ (Ne.symm (z_nn u167 a160))).trans a174
  have a205 : f119 mm_108 = some (.inl (cy 0, 60, .inl (fun _ => 0))) := (k121 _ (z_ne a110 a118 rfl)).trans a110
  have a206 : f128 mm_108 = some (.inl (cy 0, 60, .inl (fun _ => 0))) := (k130 _ (z_nn u127 a205)).trans a205
  have a207 : f131 mm_108 = some (.inl (cy 0, 60, .inl (fun _ => 0))) := k136 _ _ a206 (z_nn u127 a205)
  have a208 : f139 mm_108 = some (.inl (cy 0, 60, .inl (fun _ => 0))) := (k141 _ (z_ne a207 a138 rfl)).trans a207
  have a209 : f148 mm_108 = some (.inl (cy 0, 60, .inl (fun _ => 0))) := (k150 _ (z_nn u147 a208)).trans a208
  have a210 : f151 mm_108 = some (.inl (cy 0, 60, .inl (fun _ => 0))) := k156 _ _ a209 (z_nn u147 a208)
  have a211 : f159 mm_108 = some (.inl (cy 0, 60, .inl (fun _ => 0))) := (k161 _ (z_ne a210 a158 rfl)).trans a210
  have a212 : f168 mm_108 = some (.inl (cy 0, 60, .inl (fun _ => 0))) := (k170 _ (z_nn u167 a211)).trans a211
  have a213 : f171 mm_108 = some (.inl (cy 0, 60, .inl (fun _ => 0))) := k176 _ _ a212 (z_nn u167 a211)
  have a214 : f179 mm_108 = some (.inl (cy 0, 60, .inl (fun _ => 0))) := (k181 _ (z_ne a213 a178 rfl)).trans a213
  have a215 : f139 mm_133 = some (.inl (cy 0, 60, .inl (fun _ => 0))) := (k141 _ (z_ne a135 a138 rfl)).trans a135
  have a216 : f148 mm_133 = some (.inl (cy 0, 60, .inl (fun _ => 0))) := (k150 _ (z_nn u147 a215)).trans a215
  have a217 : f151 mm_133 = some (.inl (cy 0, 60, .inl (fun _ => 0))) := k156 _ _ a216 (z_nn u147 a215)
  have a218 : f159 mm_133 = some (.inl (cy 0, 60, .inl (fun _ => 0))) := (k161 _ (z_ne a217 a158 rfl)).trans a217
  have a219 : f168 mm_133 = some (.inl (cy 0, 60, .inl (fun _ => 0))) := (k170 _ (z_nn u167 a218)).trans a218
  have a220 : f171 mm_133 = some (.inl (cy 0, 60, .inl (fun _ => 0))) := k176 _ _ a219 (z_nn u167 a218)
  have a221 : f179 mm_133 = some (.inl (cy 0, 60, .inl (fun _ => 0))) := (k181 _ (z_ne a220 a178 rfl)).trans a220
  have a222 : f159 mm_153 = some (.inl (cy 0, 60, .inl (fun _ => 0))) := (k161 _ (z_ne a155 a158 rfl)).trans a155
  have a223 : f168 mm_153 = some (.inl (cy 0, 60, .inl (fun _ => 0))) := (k170 _ (z_nn u167 a222)).trans a222
  have a224 : f171 mm_153 = some (.inl (cy 0, 60, .inl (fun _ => 0))) := k176 _ _ a223 (z_nn u167 a222)
  have a225 : f179 mm_153 = some (.inl (cy 0, 60, .inl (fun _ => 0))) := (k181 _ (z_ne a224 a178 rfl)).trans a224
  have a226 : f179 mm_173 = some (.inl (cy 0, 60, .inl (fun _ => 0))) := (k181 _ (z_ne a175 a178 rfl)).trans a175
  have a227 : f168 o = some (.inr (7, [.ref q1, .ref q17, .ref q36, .int 0, .ref q48, .int 0, .ref q60, .int 0, .ref q72, .ref q81, .long 1])) := (k170 _ (z_nn u167 a165)).trans a165
  have a228 : f171 o = some (.inr (7, [.ref q1, .ref q17, .ref q36, .int 0, .ref q48, .int 0, .ref q60, .int 0, .ref q72, .ref q81, .long 1])) := k176 _ _ a227 (z_nn u167 a165)
  have a229 : f179 o = some (.inr (7, [.ref q1, .ref q17, .ref q36, .int 0, .ref q48, .int 0, .ref q60, .int 0, .ref q72, .ref q81, .long 1])) := (k181 _ (z_nn u73 a70)).trans a228
  have a230 : f14 q1 = some (.inr (2, [.int 0, .int (-1), .int 0, .ref ev_8])) := (k16 _ (Ne.symm (z_nn u2 p0))).trans a9
  have a231 : f19 q1 = some (.inr (2, [.int 0, .int (-1), .int 0, .ref ev_8])) := (k21 _ (z_nn u18 a230)).trans a230
  have a232 : f22 q1 = some (.inr (2, [.int 0, .int (-1), .int 0, .ref ev_8])) := k30 _ _ a231 (z_nn u18 a230)
  have a233 : f33 q1 = some (.inr (2, [.int 0, .int (-1), .int 0, .ref ev_8])) := (k35 _ (Ne.symm (z_nn u2 p0))).trans a232
  have a234 : f38 q1 = some (.inr (2, [.int 0, .int (-1), .int 0, .ref ev_8])) := (k40 _ (z_nn u37 a233)).trans a233
  have a235 : f42 q1 = some (.inr (2, [.int 0, .int (-1), .int 0, .ref ev_8])) := (k44 _ (Ne.symm (z_nn u2 p0))).trans a234
  have a236 : f45 q1 = some (.inr (2, [.int 0, .int (-1), .int 0, .ref ev_8])) := (k47 _ (Ne.symm (z_nn u2 p0))).trans a235
  have a237 : f50 q1 = some (.inr (2, [.int 0, .int (-1), .int 0, .ref ev_8])) := (k52 _ (z_nn u49 a236)).trans a236
  have a238 : f54 q1 = some (.inr (2, [.int 0, .int (-1), .int 0, .ref ev_8])) := (k56 _ (Ne.symm (z_nn u2 p0))).trans a237
  have a239 : f57 q1 = some (.inr (2, [.int 0, .int (-1), .int 0, .ref ev_8])) := (k59 _ (Ne.symm (z_nn u2 p0))).trans a238
  have a240 : f62 q1 = some (.inr (2, [.int 0, .int (-1), .int 0, .ref ev_8])) := (k64 _ (z_nn u61 a239)).trans a239
  have a241 : f66 q1 = some (.inr (2, [.int 0, .int (-1), .int 0, .ref ev_8])) := (k68 _ (Ne.symm (z_nn u2 p0))).trans a240
  have a242 : f69 q1 = some (.inr (2, [.int 0, .int (-1), .int 0, .ref ev_8])) := (k71 _ (Ne.symm (z_nn u2 p0))).trans a241
  have a243 : f74 q1 = some (.inr (2, [.int 0, .int (-1), .int 0, .ref ev_8])) := (k76 _ (z_nn u73 a242)).trans a242
  have a244 : f78 q1 = some (.inr (2, [.int 0, .int (-1), .int 0, .ref ev_8])) := (k80 _ (Ne.symm (z_nn u2 p0))).trans a243
  have a245 : f83 q1 = some (.inr (2, [.int 0, .int (-1), .int 0, .ref ev_8])) := (k85 _ (z_nn u82 a244)).trans a244
  have a246 : f86 q1 = some (.inr (2, [.int 0, .int (-1), .int 0, .ref ev_8])) := k91 _ _ a245 (z_nn u82 a244)
  have a247 : f94 q1 = some (.inr (2, [.int 0, .int (-1), .int 0, .ref ev_8])) := (k96 _ (Ne.symm (z_nn u2 p0))).trans a246
  have a248 : f97 q1 = some (.inr (2, [.int 0, .int (-1), .int 0, .ref ev_8])) := (k99 _ (Ne.symm (z_nn u2 p0))).trans a247
  have a249 : f103 q1 = some (.inr (2, [.int 0, .int (-1), .int 0, .ref ev_8])) := (k105 _ (z_nn u102 a248)).trans a248
  have a250 : f106 q1 = some (.inr (2, [.int 0, .int (-1), .int 0, .ref ev_8])) := k111 _ _ a249 (z_nn u102 a248)
  have a251 : f119 q1 = some (.inr (2, [.int 0, .int (-1), .int 0, .ref ev_8])) := (k121 _ (z_nn u73 a242)).trans a250
  have a252 : f128 q1 = some (.inr (2, [.int 0, .int (-1), .int 0, .ref ev_8])) := (k130 _ (z_nn u127 a251)).trans a251
  have a253 : f131 q1 = some (.inr (2, [.int 0, .int (-1), .int 0, .ref ev_8])) := k136 _ _ a252 (z_nn u127 a251)
  have a254 : f139 q1 = some (.inr (2, [.int 0, .int (-1), .int 0, .ref ev_8])) := (k141 _ (z_nn u73 a242)).trans a253
  have a255 : f148 q1 = some (.inr (2, [.int 0, .int (-1), .int 0, .ref ev_8])) := (k150 _ (z_nn u147 a254)).trans a254
  have a256 : f151 q1 = some (.inr (2, [.int 0, .int (-1), .int 0, .ref ev_8])) := k156 _ _ a255 (z_nn u147 a254)
  have a257 : f159 q1 = some (.inr (2, [.int 0, .int (-1), .int 0, .ref ev_8])) := (k161 _ (z_nn u73 a242)).trans a256
  have a258 : f168 q1 = some (.inr (2, [.int 0, .int (-1), .int 0, .ref ev_8])) := (k170 _ (z_nn u167 a257)).trans a257
  have a259 : f171 q1 = some (.inr (2, [.int 0, .int (-1), .int 0, .ref ev_8])) := k176 _ _ a258 (z_nn u167 a257)
  have a260 : f179 q1 = some (.inr (2, [.int 0, .int (-1), .int 0, .ref ev_8])) := (k181 _ (z_nn u73 a242)).trans a259
  have a261 : f14 ev_8 = some (.inl (cy 0, 8, .inl (fun _ => 0))) := (k16 _ (z_ne a10 a13 rfl)).trans a10
  have a262 : f19 ev_8 = some (.inl (cy 0, 8, .inl (fun _ => 0))) := (k21 _ (z_nn u18 a261)).trans a261
  have a263 : f22 ev_8 = some (.inl (cy 0, 8, .inl (fun _ => 0))) := k30 _ _ a262 (z_nn u18 a261)
  have a264 : f33 ev_8 = some (.inl (cy 0, 8, .inl (fun _ => 0))) := (k35 _ (z_ne a263 a32 rfl)).trans a263
  have a265 : f38 ev_8 = some (.inl (cy 0, 8, .inl (fun _ => 0))) := (k40 _ (z_nn u37 a264)).trans a264
  have a266 : f42 ev_8 = some (.inl (cy 0, 8, .inl (fun _ => 0))) := (k44 _ (z_ne a265 a41 rfl)).trans a265
  have a267 : f45 ev_8 = some (.inl (cy 0, 8, .inl (fun _ => 0))) := (k47 _ (z_ne a266 a43 rfl)).trans a266
  have a268 : f50 ev_8 = some (.inl (cy 0, 8, .inl (fun _ => 0))) := (k52 _ (z_nn u49 a267)).trans a267
  have a269 : f54 ev_8 = some (.inl (cy 0, 8, .inl (fun _ => 0))) := (k56 _ (z_ne a268 a53 rfl)).trans a268
  have a270 : f57 ev_8 = some (.inl (cy 0, 8, .inl (fun _ => 0))) := (k59 _ (z_ne a269 a55 rfl)).trans a269
  have a271 : f62 ev_8 = some (.inl (cy 0, 8, .inl (fun _ => 0))) := (k64 _ (z_nn u61 a270)).trans a270
  have a272 : f66 ev_8 = some (.inl (cy 0, 8, .inl (fun _ => 0))) := (k68 _ (z_ne a271 a65 rfl)).trans a271
  have a273 : f69 ev_8 = some (.inl (cy 0, 8, .inl (fun _ => 0))) := (k71 _ (z_ne a272 a67 rfl)).trans a272
  have a274 : f74 ev_8 = some (.inl (cy 0, 8, .inl (fun _ => 0))) := (k76 _ (z_nn u73 a273)).trans a273
  have a275 : f78 ev_8 = some (.inl (cy 0, 8, .inl (fun _ => 0))) := (k80 _ (z_ne a274 a77 rfl)).trans a274
  have a276 : f83 ev_8 = some (.inl (cy 0, 8, .inl (fun _ => 0))) := (k85 _ (z_nn u82 a275)).trans a275
  have a277 : f86 ev_8 = some (.inl (cy 0, 8, .inl (fun _ => 0))) := k91 _ _ a276 (z_nn u82 a275)
  have a278 : f94 ev_8 = some (.inl (cy 0, 8, .inl (fun _ => 0))) := (k96 _ (z_ne a277 a93 rfl)).trans a277
  have a279 : f97 ev_8 = some (.inl (cy 0, 8, .inl (fun _ => 0))) := (k99 _ (z_ne a278 a95 rfl)).trans a278
  have a280 : f103 ev_8 = some (.inl (cy 0, 8, .inl (fun _ => 0))) := (k105 _ (z_nn u102 a279)).trans a279
  have a281 : f106 ev_8 = some (.inl (cy 0, 8, .inl (fun _ => 0))) := k111 _ _ a280 (z_nn u102 a279)
  have a282 : f119 ev_8 = some (.inl (cy 0, 8, .inl (fun _ => 0))) := (k121 _ (z_nn u73 a273)).trans a281
  have a283 : f128 ev_8 = some (.inl (cy 0, 8, .inl (fun _ => 0))) := (k130 _ (z_nn u127 a282)).trans a282
  have a284 : f131 ev_8 = some (.inl (cy 0, 8, .inl (fun _ => 0))) := k136 _ _ a283 (z_nn u127 a282)
  have a285 : f139 ev_8 = some (.inl (cy 0, 8, .inl (fun _ => 0))) := (k141 _ (z_nn u73 a273)).trans a284
  have a286 : f148 ev_8 = some (.inl (cy 0, 8, .inl (fun _ => 0))) := (k150 _ (z_nn u147 a285)).trans a285
  have a287 : f151 ev_8 = some (.inl (cy 0, 8, .inl (fun _ => 0))) := k156 _ _ a286 (z_nn u147 a285)
  have a288 : f159 ev_8 = some (.inl (cy 0, 8, .inl (fun _ => 0))) := (k161 _ (z_nn u73 a273)).trans a287
  have a289 : f168 ev_8 = some (.inl (cy 0, 8, .inl (fun _ => 0))) := (k170 _ (z_nn u167 a288)).trans a288
  have a290 : f171 ev_8 = some (.inl (cy 0, 8, .inl (fun _ => 0))) := k176 _ _ a289 (z_nn u167 a288)
  have a291 : f179 ev_8 = some (.inl (cy 0, 8, .inl (fun _ => 0))) := (k181 _ (z_nn u73 a273)).trans a290
  have a292 : f33 q17 = some (.inr (5, [.ref al_24, .ref ra_25, .int 0])) := (k35 _ (Ne.symm (z_nn u18 a15))).trans a27
  have a293 : f38 q17 = some (.inr (5, [.ref al_24, .ref ra_25, .int 0])) := (k40 _ (z_nn u37 a292)).trans a292
  have a294 : f42 q17 = some (.inr (5, [.ref al_24, .ref ra_25, .int 0])) := (k44 _ (Ne.symm (z_nn u18 a15))).trans a293
  have a295 : f45 q17 = some (.inr (5, [.ref al_24, .ref ra_25, .int 0])) := (k47 _ (Ne.symm (z_nn u18 a15))).trans a294
  have a296 : f50 q17 = some (.inr (5, [.ref al_24, .ref ra_25, .int 0])) := (k52 _ (z_nn u49 a295)).trans a295
  have a297 : f54 q17 = some (.inr (5, [.ref al_24, .ref ra_25, .int 0])) := (k56 _ (Ne.symm (z_nn u18 a15))).trans a296
  have a298 : f57 q17 = some (.inr (5, [.ref al_24, .ref ra_25, .int 0])) := (k59 _ (Ne.symm (z_nn u18 a15))).trans a297
  have a299 : f62 q17 = some (.inr (5, [.ref al_24, .ref ra_25, .int 0])) := (k64 _ (z_nn u61 a298)).trans a298
  have a300 : f66 q17 = some (.inr (5, [.ref al_24, .ref ra_25, .int 0])) := (k68 _ (Ne.symm (z_nn u18 a15))).trans a299
  have a301 : f69 q17 = some (.inr (5, [.ref al_24, .ref ra_25, .int 0])) := (k71 _ (Ne.symm (z_nn u18 a15))).trans a300
  have a302 : f74 q17 = some (.inr (5, [.ref al_24, .ref ra_25, .int 0])) := (k76 _ (z_nn u73 a301)).trans a301
  have a303 : f78 q17 = some (.inr (5, [.ref al_24, .ref ra_25, .int 0])) := (k80 _ (Ne.symm (z_nn u18 a15))).trans a302
  have a304 : f83 q17 = some (.inr (5, [.ref al_24, .ref ra_25, .int 0])) := (k85 _ (z_nn u82 a303)).trans a303
  have a305 : f86 q17 = some (.inr (5, [.ref al_24, .ref ra_25, .int 0])) := k91 _ _ a304 (z_nn u82 a303)
  have a306 : f94 q17 = some (.inr (5, [.ref al_24, .ref ra_25, .int 0])) := (k96 _ (Ne.symm (z_nn u18 a15))).trans a305
  have a307 : f97 q17 = some (.inr (5, [.ref al_24, .ref ra_25, .int 0])) := (k99 _ (Ne.symm (z_nn u18 a15))).trans a306
  have a308 : f103 q17 = some (.inr (5, [.ref al_24, .ref ra_25, .int 0])) := (k105 _ (z_nn u102 a307)).trans a307
  have a309 : f106 q17 = some (.inr (5, [.ref al_24, .ref ra_25, .int 0])) := k111 _ _ a308 (z_nn u102 a307)
  have a310 : f119 q17 = some (.inr (5, [.ref al_24, .ref ra_25, .int 0])) := (k121 _ (z_nn u73 a301)).trans a309
  have a311 : f128 q17 = some (.inr (5, [.ref al_24, .ref ra_25, .int 0])) := (k130 _ (z_nn u127 a310)).trans a310
  have a312 : f131 q17 = some (.inr (5, [.ref al_24, .ref ra_25, .int 0])) := k136 _ _ a311 (z_nn u127 a310)
  have a313 : f139 q17 = some (.inr (5, [.ref al_24, .ref ra_25, .int 0])) := (k141 _ (z_nn u73 a301)).trans a312
  have a314 : f148 q17 = some (.inr (5, [.ref al_24, .ref ra_25, .int 0])) := (k150 _ (z_nn u147 a313)).trans a313
  have a315 : f151 q17 = some (.inr (5, [.ref al_24, .ref ra_25, .int 0])) := k156 _ _ a314 (z_nn u147 a313)
  have a316 : f159 q17 = some (.inr (5, [.ref al_24, .ref ra_25, .int 0])) := (k161 _ (z_nn u73 a301)).trans a315
  have a317 : f168 q17 = some (.inr (5, [.ref al_24, .ref ra_25, .int 0])) := (k170 _ (z_nn u167 a316)).trans a316
  have a318 : f171 q17 = some (.inr (5, [.ref al_24, .ref ra_25, .int 0])) := k176 _ _ a317 (z_nn u167 a316)
  have a319 : f179 q17 = some (.inr (5, [.ref al_24, .ref ra_25, .int 0])) := (k181 _ (z_nn u73 a301)).trans a318
  have a320 : f33 al_24 = some (.inl (cy 3, 60, .inr (.inr (.inr (.inr (fun _ => none)))))) := (k35 _ (z_ne a28 a32 rfl)).trans a28
  have a321 : f38 al_24 = some (.inl (cy 3, 60, .inr (.inr (.inr (.inr (fun _ => none)))))) := (k40 _ (z_nn u37 a320)).trans a320
  have a322 : f42 al_24 = some (.inl (cy 3, 60, .inr (.inr (.inr (.inr (fun _ => none)))))) := (k44 _ (z_ne a321 a41 rfl)).trans a321
  have a323 : f45 al_24 = some (.inl (cy 3, 60, .inr (.inr (.inr (.inr (fun _ => none)))))) := (k47 _ (z_ne a322 a43 rfl)).trans a322
  have a324 : f50 al_24 = some (.inl (cy 3, 60, .inr (.inr (.inr (.inr (fun _ => none)))))) := (k52 _ (z_nn u49 a323)).trans a323
  have a325 : f54 al_24 = some (.inl (cy 3, 60, .inr (.inr (.inr (.inr (fun _ => none)))))) := (k56 _ (z_ne a324 a53 rfl)).trans a324
  have a326 : f57 al_24 = some (.inl (cy 3, 60, .inr (.inr (.inr (.inr (fun _ => none)))))) := (k59 _ (z_ne a325 a55 rfl)).trans a325
  have a327 : f62 al_24 = some (.inl (cy 3, 60, .inr (.inr (.inr (.inr (fun _ => none)))))) := (k64 _ (z_nn u61 a326)).trans a326
  have a328 : f66 al_24 = some (.inl (cy 3, 60, .inr (.inr (.inr (.inr (fun _ => none)))))) := (k68 _ (z_ne a327 a65 rfl)).trans a327
  have a329 : f69 al_24 = some (.inl (cy 3, 60, .inr (.inr (.inr (.inr (fun _ => none)))))) := (k71 _ (z_ne a328 a67 rfl)).trans a328
  have a330 : f74 al_24 = some (.inl (cy 3, 60, .inr (.inr (.inr (.inr (fun _ => none)))))) := (k76 _ (z_nn u73 a329)).trans a329
  have a331 : f78 al_24 = some (.inl (cy 3, 60, .inr (.inr (.inr (.inr (fun _ => none)))))) := (k80 _ (z_ne a330 a77 rfl)).trans a330
  have a332 : f83 al_24 = some (.inl (cy 3, 60, .inr (.inr (.inr (.inr (fun _ => none)))))) := (k85 _ (z_nn u82 a331)).trans a331
  have a333 : f86 al_24 = some (.inl (cy 3, 60, .inr (.inr (.inr (.inr (fun _ => none)))))) := k91 _ _ a332 (z_nn u82 a331)
  have a334 : f94 al_24 = some (.inl (cy 3, 60, .inr (.inr (.inr (.inr (fun _ => none)))))) := (k96 _ (z_ne a333 a93 rfl)).trans a333
  have a335 : f97 al_24 = some (.inl (cy 3, 60, .inr (.inr (.inr (.inr (fun _ => none)))))) := (k99 _ (z_ne a334 a95 rfl)).trans a334
  have a336 : f103 al_24 = some (.inl (cy 3, 60, .inr (.inr (.inr (.inr (fun _ => none)))))) := (k105 _ (z_nn u102 a335)).trans a335
  have a337 : f106 al_24 = some (.inl (cy 3, 60, .inr (.inr (.inr (.inr (fun _ => none)))))) := k111 _ _ a336 (z_nn u102 a335)
  have a338 : f119 al_24 = some (.inl (cy 3, 60, .inr (.inr (.inr (.inr (fun _ => none)))))) := (k121 _ (z_nn u73 a329)).trans a337
  have a339 : f128 al_24 = some (.inl (cy 3, 60, .inr (.inr (.inr (.inr (fun _ => none)))))) := (k130 _ (z_nn u127 a338)).trans a338
  have a340 : f131 al_24 = some (.inl (cy 3, 60, .inr (.inr (.inr (.inr (fun _ => none)))))) := k136 _ _ a339 (z_nn u127 a338)
  have a341 : f139 al_24 = some (.inl (cy 3, 60, .inr (.inr (.inr (.inr (fun _ => none)))))) := (k141 _ (z_nn u73 a329)).trans a340
  have a342 : f148 al_24 = some (.inl (cy 3, 60, .inr (.inr (.inr (.inr (fun _ => none)))))) := (k150 _ (z_nn u147 a341)).trans a341
  have a343 : f151 al_24 = some (.inl (cy 3, 60, .inr (.inr (.inr (.inr (fun _ => none)))))) := k156 _ _ a342 (z_nn u147 a341)
  have a344 : f159 al_24 = some (.inl (cy 3, 60, .inr (.inr (.inr (.inr (fun _ => none)))))) := (k161 _ (z_nn u73 a329)).trans a343
  have a345 : f168 al_24 = some (.inl (cy 3, 60, .inr (.inr (.inr (.inr (fun _ => none)))))) := (k170 _ (z_nn u167 a344)).trans a344
  have a346 : f171 al_24 = some (.inl (cy 3, 60, .inr (.inr (.inr (.inr (fun _ => none)))))) := k176 _ _ a345 (z_nn u167 a344)
  have a347 : f179 al_24 = some (.inl (cy 3, 60, .inr (.inr (.inr (.inr (fun _ => none)))))) := (k181 _ (z_nn u73 a329)).trans a346
  have a348 : f33 ra_25 = some (.inl (cy 3, 60, .inr (.inr (.inr (.inr (fun _ => none)))))) := (k35 _ (z_ne a29 a32 rfl)).trans a29
  have a349 : f38 ra_25 = some (.inl (cy 3, 60, .inr (.inr (.inr (.inr (fun _ => none)))))) := (k40 _ (z_nn u37 a348)).trans a348
  have a350 : f42 ra_25 = some (.inl (cy 3, 60, .inr (.inr (.inr (.inr (fun _ => none)))))) := (k44 _ (z_ne a349 a41 rfl)).trans a349
  have a351 : f45 ra_25 = some (.inl (cy 3, 60, .inr (.inr (.inr (.inr (fun _ => none)))))) := (k47 _ (z_ne a350 a43 rfl)).trans a350
  have a352 : f50 ra_25 = some (.inl (cy 3, 60, .inr (.inr (.inr (.inr (fun _ => none)))))) := (k52 _ (z_nn u49 a351)).trans a351
  have a353 : f54 ra_25 = some (.inl (cy 3, 60, .inr (.inr (.inr (.inr (fun _ => none)))))) := (k56 _ (z_ne a352 a53 rfl)).trans a352
  have a354 : f57 ra_25 = some (.inl (cy 3, 60, .inr (.inr (.inr (.inr (fun _ => none)))))) := (k59 _ (z_ne a353 a55 rfl)).trans a353
  have a355 : f62 ra_25 = some (.inl (cy 3, 60, .inr (.inr (.inr (.inr (fun _ => none)))))) := (k64 _ (z_nn u61 a354)).trans a354
  have a356 : f66 ra_25 = some (.inl (cy 3, 60, .inr (.inr (.inr (.inr (fun _ => none)))))) := (k68 _ (z_ne a355 a65 rfl)).trans a355
  have a357 : f69 ra_25 = some (.inl (cy 3, 60, .inr (.inr (.inr (.inr (fun _ => none)))))) := (k71 _ (z_ne a356 a67 rfl)).trans a356
  have a358 : f74 ra_25 = some (.inl (cy 3, 60, .inr (.inr (.inr (.inr (fun _ => none)))))) := (k76 _ (z_nn u73 a357)).trans a357
  have a359 : f78 ra_25 = some (.inl (cy 3, 60, .inr (.inr (.inr (.inr (fun _ => none)))))) := (k80 _ (z_ne a358 a77 rfl)).trans a358
  have a360 : f83 ra_25 = some (.inl (cy 3, 60, .inr (.inr (.inr (.inr (fun _ => none)))))) := (k85 _ (z_nn u82 a359)).trans a359
  have a361 : f86 ra_25 = some (.inl (cy 3, 60, .inr (.inr (.inr (.inr (fun _ => none)))))) := k91 _ _ a360 (z_nn u82 a359)
  have a362 : f94 ra_25 = some (.inl (cy 3, 60, .inr (.inr (.inr (.inr (fun _ => none)))))) := (k96 _ (z_ne a361 a93 rfl)).trans a361
  have a363 : f97 ra_25 = some (.inl (cy 3, 60, .inr (.inr (.inr (.inr (fun _ => none)))))) := (k99 _ (z_ne a362 a95 rfl)).trans a362
  have a364 : f103 ra_25 = some (.inl (cy 3, 60, .inr (.inr (.inr (.inr (fun _ => none)))))) := (k105 _ (z_nn u102 a363)).trans a363
  have a365 : f106 ra_25 = some (.inl (cy 3, 60, .inr (.inr (.inr (.inr (fun _ => none)))))) := k111 _ _ a364 (z_nn u102 a363)
  have a366 : f119 ra_25 = some (.inl (cy 3, 60, .inr (.inr (.inr (.inr (fun _ => none)))))) := (k121 _ (z_nn u73 a357)).trans a365
  have a367 : f128 ra_25 = some (.inl (cy 3, 60, .inr (.inr (.inr (.inr (fun _ => none)))))) := (k130 _ (z_nn u127 a366)).trans a366
  have a368 : f131 ra_25 = some (.inl (cy 3, 60, .inr (.inr (.inr (.inr (fun _ => none)))))) := k136 _ _ a367 (z_nn u127 a366)
  have a369 : f139 ra_25 = some (.inl (cy 3, 60, .inr (.inr (.inr (.inr (fun _ => none)))))) := (k141 _ (z_nn u73 a357)).trans a368
  have a370 : f148 ra_25 = some (.inl (cy 3, 60, .inr (.inr (.inr (.inr (fun _ => none)))))) := (k150 _ (z_nn u147 a369)).trans a369
  have a371 : f151 ra_25 = some (.inl (cy 3, 60, .inr (.inr (.inr (.inr (fun _ => none)))))) := k156 _ _ a370 (z_nn u147 a369)
  have a372 : f159 ra_25 = some (.inl (cy 3, 60, .inr (.inr (.inr (.inr (fun _ => none)))))) := (k161 _ (z_nn u73 a357)).trans a371
  have a373 : f168 ra_25 = some (.inl (cy 3, 60, .inr (.inr (.inr (.inr (fun _ => none)))))) := (k170 _ (z_nn u167 a372)).trans a372
  have a374 : f171 ra_25 = some (.inl (cy 3, 60, .inr (.inr (.inr (.inr (fun _ => none)))))) := k176 _ _ a373 (z_nn u167 a372)
  have a375 : f179 ra_25 = some (.inl (cy 3, 60, .inr (.inr (.inr (.inr (fun _ => none)))))) := (k181 _ (z_nn u73 a357)).trans a374
  have a376 : f42 q36 = some (.inl (cy 0, 12, .inl (fun _ => 0))) := (k44 _ (Ne.symm (z_nn u37 a34))).trans a39
  have a377 : f45 q36 = some (.inl (cy 0, 12, .inl (fun _ => 0))) := (k47 _ (Ne.symm (z_nn u37 a34))).trans a376
  have a378 : f50 q36 = some (.inl (cy 0, 12, .inl (fun _ => 0))) := (k52 _ (z_nn u49 a377)).trans a377
  have a379 : f54 q36 = some (.inl (cy 0, 12, .inl (fun _ => 0))) := (k56 _ (Ne.symm (z_nn u37 a34))).trans a378
  have a380 : f57 q36 = some (.inl (cy 0, 12, .inl (fun _ => 0))) := (k59 _ (Ne.symm (z_nn u37 a34))).trans a379
  have a381 : f62 q36 = some (.inl (cy 0, 12, .inl (fun _ => 0))) := (k64 _ (z_nn u61 a380)).trans a380
  have a382 : f66 q36 = some (.inl (cy 0, 12, .inl (fun _ => 0))) := (k68 _ (Ne.symm (z_nn u37 a34))).trans a381
  have a383 : f69 q36 = some (.inl (cy 0, 12, .inl (fun _ => 0))) := (k71 _ (Ne.symm (z_nn u37 a34))).trans a382
  have a384 : f74 q36 = some (.inl (cy 0, 12, .inl (fun _ => 0))) := (k76 _ (z_nn u73 a383)).trans a383
  have a385 : f78 q36 = some (.inl (cy 0, 12, .inl (fun _ => 0))) := (k80 _ (Ne.symm (z_nn u37 a34))).trans a384
  have a386 : f83 q36 = some (.inl (cy 0, 12, .inl (fun _ => 0))) := (k85 _ (z_nn u82 a385)).trans a385
  have a387 : f86 q36 = some (.inl (cy 0, 12, .inl (fun _ => 0))) := k91 _ _ a386 (z_nn u82 a385)
  have a388 : f94 q36 = some (.inl (cy 0, 12, .inl (fun _ => 0))) := (k96 _ (Ne.symm (z_nn u37 a34))).trans a387
  have a389 : f97 q36 = some (.inl (cy 0, 12, .inl (fun _ => 0))) := (k99 _ (Ne.symm (z_nn u37 a34))).trans a388
  have a390 : f103 q36 = some (.inl (cy 0, 12, .inl (fun _ => 0))) := (k105 _ (z_nn u102 a389)).trans a389
  have a391 : f106 q36 = some (.inl (cy 0, 12, .inl (fun _ => 0))) := k111 _ _ a390 (z_nn u102 a389)
  have a392 : f119 q36 = some (.inl (cy 0, 12, .inl (fun _ => 0))) := (k121 _ (z_nn u73 a383)).trans a391
  have a393 : f128 q36 = some (.inl (cy 0, 12, .inl (fun _ => 0))) := (k130 _ (z_nn u127 a392)).trans a392
  have a394 : f131 q36 = some (.inl (cy 0, 12, .inl (fun _ => 0))) := k136 _ _ a393 (z_nn u127 a392)
  have a395 : f139 q36 = some (.inl (cy 0, 12, .inl (fun _ => 0))) := (k141 _ (z_nn u73 a383)).trans a394
  have a396 : f148 q36 = some (.inl (cy 0, 12, .inl (fun _ => 0))) := (k150 _ (z_nn u147 a395)).trans a395
  have a397 : f151 q36 = some (.inl (cy 0, 12, .inl (fun _ => 0))) := k156 _ _ a396 (z_nn u147 a395)
  have a398 : f159 q36 = some (.inl (cy 0, 12, .inl (fun _ => 0))) := (k161 _ (z_nn u73 a383)).trans a397
  have a399 : f168 q36 = some (.inl (cy 0, 12, .inl (fun _ => 0))) := (k170 _ (z_nn u167 a398)).trans a398
  have a400 : f171 q36 = some (.inl (cy 0, 12, .inl (fun _ => 0))) := k176 _ _ a399 (z_nn u167 a398)
  have a401 : f179 q36 = some (.inl (cy 0, 12, .inl (fun _ => 0))) := (k181 _ (z_nn u73 a383)).trans a400
  have a402 : f54 q48 = some (.inl (cy 4, 6, .inr (.inr (.inr (.inr (fun _ => none)))))) := (k56 _ (Ne.symm (z_nn u49 a46))).trans a51
  have a403 : f57 q48 = some (.inl (cy 4, 6, .inr (.inr (.inr (.inr (fun _ => none)))))) := (k59 _ (Ne.symm (z_nn u49 a46))).trans a402
  have a404 : f62 q48 = some (.inl (cy 4, 6, .inr (.inr (.inr (.inr (fun _ => none)))))) := (k64 _ (z_nn u61 a403)).trans a403
  have a405 : f66 q48 = some (.inl (cy 4, 6, .inr (.inr (.inr (.inr (fun _ => none)))))) := (k68 _ (Ne.symm (z_nn u49 a46))).trans a404
  have a406 : f69 q48 = some (.inl (cy 4, 6, .inr (.inr (.inr (.inr (fun _ => none)))))) := (k71 _ (Ne.symm (z_nn u49 a46))).trans a405
  have a407 : f74 q48 = some (.inl (cy 4, 6, .inr (.inr (.inr (.inr (fun _ => none)))))) := (k76 _ (z_nn u73 a406)).trans a406
  have a408 : f78 q48 = some (.inl (cy 4, 6, .inr (.inr (.inr (.inr (fun _ => none)))))) := (k80 _ (Ne.symm (z_nn u49 a46))).trans a407
  have a409 : f83 q48 = some (.inl (cy 4, 6, .inr (.inr (.inr (.inr (fun _ => none)))))) := (k85 _ (z_nn u82 a408)).trans a408
  have a410 : f86 q48 = some (.inl (cy 4, 6, .inr (.inr (.inr (.inr (fun _ => none)))))) := k91 _ _ a409 (z_nn u82 a408)
  have a411 : f94 q48 = some (.inl (cy 4, 6, .inr (.inr (.inr (.inr (fun _ => none)))))) := (k96 _ (Ne.symm (z_nn u49 a46))).trans a410
  have a412 : f97 q48 = some (.inl (cy 4, 6, .inr (.inr (.inr (.inr (fun _ => none)))))) := (k99 _ (Ne.symm (z_nn u49 a46))).trans a411
  have a413 : f103 q48 = some (.inl (cy 4, 6, .inr (.inr (.inr (.inr (fun _ => none)))))) := (k105 _ (z_nn u102 a412)).trans a412
  have a414 : f106 q48 = some (.inl (cy 4, 6, .inr (.inr (.inr (.inr (fun _ => none)))))) := k111 _ _ a413 (z_nn u102 a412)
  have a415 : f119 q48 = some (.inl (cy 4, 6, .inr (.inr (.inr (.inr (fun _ => none)))))) := (k121 _ (z_nn u73 a406)).trans a414
  have a416 : f128 q48 = some (.inl (cy 4, 6, .inr (.inr (.inr (.inr (fun _ => none)))))) := (k130 _ (z_nn u127 a415)).trans a415
  have a417 : f131 q48 = some (.inl (cy 4, 6, .inr (.inr (.inr (.inr (fun _ => none)))))) := k136 _ _ a416 (z_nn u127 a415)
  have a418 : f139 q48 = some (.inl (cy 4, 6, .inr (.inr (.inr (.inr (fun _ => none)))))) := (k141 _ (z_nn u73 a406)).trans a417
  have a419 : f148 q48 = some (.inl (cy 4, 6, .inr (.inr (.inr (.inr (fun _ => none)))))) := (k150 _ (z_nn u147 a418)).trans a418
  have a420 : f151 q48 = some (.inl (cy 4, 6, .inr (.inr (.inr (.inr (fun _ => none)))))) := k156 _ _ a419 (z_nn u147 a418)
  have a421 : f159 q48 = some (.inl (cy 4, 6, .inr (.inr (.inr (.inr (fun _ => none)))))) := (k161 _ (z_nn u73 a406)).trans a420
  have a422 : f168 q48 = some (.inl (cy 4, 6, .inr (.inr (.inr (.inr (fun _ => none)))))) := (k170 _ (z_nn u167 a421)).trans a421
  have a423 : f171 q48 = some (.inl (cy 4, 6, .inr (.inr (.inr (.inr (fun _ => none)))))) := k176 _ _ a422 (z_nn u167 a421)
  have a424 : f179 q48 = some (.inl (cy 4, 6, .inr (.inr (.inr (.inr (fun _ => none)))))) := (k181 _ (z_nn u73 a406)).trans a423
  have a425 : f66 q60 = some (.inl (cy 5, 60, .inr (.inr (.inr (.inr (fun _ => none)))))) := (k68 _ (Ne.symm (z_nn u61 a58))).trans a63
  have a426 : f69 q60 = some (.inl (cy 5, 60, .inr (.inr (.inr (.inr (fun _ => none)))))) := (k71 _ (Ne.symm (z_nn u61 a58))).trans a425
  have a427 : f74 q60 = some (.inl (cy 5, 60, .inr (.inr (.inr (.inr (fun _ => none)))))) := (k76 _ (z_nn u73 a426)).trans a426
  have a428 : f78 q60 = some (.inl (cy 5, 60, .inr (.inr (.inr (.inr (fun _ => none)))))) := (k80 _ (Ne.symm (z_nn u61 a58))).trans a427
  have a429 : f83 q60 = some (.inl (cy 5, 60, .inr (.inr (.inr (.inr (fun _ => none)))))) := (k85 _ (z_nn u82 a428)).trans a428
  have a430 : f86 q60 = some (.inl (cy 5, 60, .inr (.inr (.inr (.inr (fun _ => none)))))) := k91 _ _ a429 (z_nn u82 a428)
  have a431 : f94 q60 = some (.inl (cy 5, 60, .inr (.inr (.inr (.inr (fun _ => none)))))) := (k96 _ (Ne.symm (z_nn u61 a58))).trans a430
  have a432 : f97 q60 = some (.inl (cy 5, 60, .inr (.inr (.inr (.inr (fun _ => none)))))) := (k99 _ (Ne.symm (z_nn u61 a58))).trans a431
  have a433 : f103 q60 = some (.inl (cy 5, 60, .inr (.inr (.inr (.inr (fun _ => none)))))) := (k105 _ (z_nn u102 a432)).trans a432
  have a434 : f106 q60 = some (.inl (cy 5, 60, .inr (.inr (.inr (.inr (fun _ => none)))))) := k111 _ _ a433 (z_nn u102 a432)
  have a435 : f119 q60 = some (.inl (cy 5, 60, .inr (.inr (.inr (.inr (fun _ => none)))))) := (k121 _ (z_nn u73 a426)).trans a434
  have a436 : f128 q60 = some (.inl (cy 5, 60, .inr (.inr (.inr (.inr (fun _ => none)))))) := (k130 _ (z_nn u127 a435)).trans a435
  have a437 : f131 q60 = some (.inl (cy 5, 60, .inr (.inr (.inr (.inr (fun _ => none)))))) := k136 _ _ a436 (z_nn u127 a435)
  have a438 : f139 q60 = some (.inl (cy 5, 60, .inr (.inr (.inr (.inr (fun _ => none)))))) := (k141 _ (z_nn u73 a426)).trans a437
  have a439 : f148 q60 = some (.inl (cy 5, 60, .inr (.inr (.inr (.inr (fun _ => none)))))) := (k150 _ (z_nn u147 a438)).trans a438
  have a440 : f151 q60 = some (.inl (cy 5, 60, .inr (.inr (.inr (.inr (fun _ => none)))))) := k156 _ _ a439 (z_nn u147 a438)
  have a441 : f159 q60 = some (.inl (cy 5, 60, .inr (.inr (.inr (.inr (fun _ => none)))))) := (k161 _ (z_nn u73 a426)).trans a440
  have a442 : f168 q60 = some (.inl (cy 5, 60, .inr (.inr (.inr (.inr (fun _ => none)))))) := (k170 _ (z_nn u167 a441)).trans a441
  have a443 : f171 q60 = some (.inl (cy 5, 60, .inr (.inr (.inr (.inr (fun _ => none)))))) := k176 _ _ a442 (z_nn u167 a441)
  have a444 : f179 q60 = some (.inl (cy 5, 60, .inr (.inr (.inr (.inr (fun _ => none)))))) := (k181 _ (z_nn u73 a426)).trans a443
  have a445 : f94 q81 = some (.inr (6, [.ref kn_88, .ref vq_89, .int 0])) := (k96 _ (Ne.symm (z_nn u82 a79))).trans a90
  have a446 : f97 q81 = some (.inr (6, [.ref kn_88, .ref vq_89, .int 0])) := (k99 _ (Ne.symm (z_nn u82 a79))).trans a445
  have a447 : f103 q81 = some (.inr (6, [.ref kn_88, .ref vq_89, .int 0])) := (k105 _ (z_nn u102 a446)).trans a446
  have a448 : f106 q81 = some (.inr (6, [.ref kn_88, .ref vq_89, .int 0])) := k111 _ _ a447 (z_nn u102 a446)
  have a449 : f119 q81 = some (.inr (6, [.ref kn_88, .ref vq_89, .int 0])) := (k121 _ (Ne.symm (z_nn u82 a112))).trans a448
  have a450 : f128 q81 = some (.inr (6, [.ref kn_88, .ref vq_89, .int 0])) := (k130 _ (z_nn u127 a449)).trans a449
  have a451 : f131 q81 = some (.inr (6, [.ref kn_88, .ref vq_89, .int 0])) := k136 _ _ a450 (z_nn u127 a449)
  have a452 : f139 q81 = some (.inr (6, [.ref kn_88, .ref vq_89, .int 0])) := (k141 _ (Ne.symm (z_nn u82 a112))).trans a451
  have a453 : f148 q81 = some (.inr (6, [.ref kn_88, .ref vq_89, .int 0])) := (k150 _ (z_nn u147 a452)).trans a452
  have a454 : f151 q81 = some (.inr (6, [.ref kn_88, .ref vq_89, .int 0])) := k156 _ _ a453 (z_nn u147 a452)
  have a455 : f159 q81 = some (.inr (6, [.ref kn_88, .ref vq_89, .int 0])) := (k161 _ (Ne.symm (z_nn u82 a112))).trans a454
  have a456 : f168 q81 = some (.inr (6, [.ref kn_88, .ref vq_89, .int 0])) := (k170 _ (z_nn u167 a455)).trans a455
  have a457 : f171 q81 = some (.inr (6, [.ref kn_88, .ref vq_89, .int 0])) := k176 _ _ a456 (z_nn u167 a455)
  have a458 : f179 q81 = some (.inr (6, [.ref kn_88, .ref vq_89, .int 0])) := (k181 _ (Ne.symm (z_nn u82 a112))).trans a457
  exact z_vret C hr hz hS ⟨q1, q17, q36, q48, q60, q72, q81, ev_8, al_24, ra_25, kn_88, vq_89, (va_up (va_up (va_up (va_up (fun _ => none) 0 (some q101)) 1 (some q126)) 2 (some q146)) 3 (some q166)), (fun j9 => if j9 = 0 then q101 else if j9 = 1 then q126 else if j9 = 2 then q146 else q166), (fun j9 => if j9 = 0 then mm_108 else if j9 = 1 then mm_133 else if j9 = 2 then mm_153 else mm_173), p26, (fun j hj => by
            rcases (show j = 0 ∨ j = 1 ∨ j = 2 ∨ j = 3 by omega) with rfl | rfl | rfl | rfl
            · exact rfl
            · exact rfl
            · exact rfl
            · exact rfl), (fun j hj => by
            rcases (show j = 0 ∨ j = 1 ∨ j = 2 ∨ j = 3 by omega) with rfl | rfl | rfl | rfl
            · exact a192
            · exact a199
            · exact a203
            · exact a204), (fun j hj => by
            rcases (show j = 0 ∨ j = 1 ∨ j = 2 ∨ j = 3 by omega) with rfl | rfl | rfl | rfl
            · exact a214
            · exact a221
            · exact a225
            · exact a226), a229, a260, a291, a319, a347, a375, a401, a424, a444, a180, a458, (by
        intro b e hb n0
        have nn0 : b ≠ q1 := z_nn u2 hb
        have hb0 : f3 b = some e := (k5 b nn0).trans hb
        have hb1 : f6 b = some e := k11 b e hb0 nn0
        have hb2 : f14 b = some e := (k16 b n0).trans hb1
        have nn3 : b ≠ q17 := z_nn u18 hb2
        have hb3 : f19 b = some e := (k21 b nn3).trans hb2
        have hb4 : f22 b = some e := k30 b e hb3 nn3
        have hb5 : f33 b = some e := (k35 b n0).trans hb4
        have nn6 : b ≠ q36 := z_nn u37 hb5
        have hb6 : f38 b = some e := (k40 b nn6).trans hb5
        have hb7 : f42 b = some e := (k44 b n0).trans hb6
        have hb8 : f45 b = some e := (k47 b n0).trans hb7
        have nn9 : b ≠ q48 := z_nn u49 hb8
        have hb9 : f50 b = some e := (k52 b nn9).trans hb8
        have hb10 : f54 b = some e := (k56 b n0).trans hb9
        have hb11 : f57 b = some e := (k59 b n0).trans hb10
        have nn12 : b ≠ q60 := z_nn u61 hb11
        have hb12 : f62 b = some e := (k64 b nn12).trans hb11
        have hb13 : f66 b = some e := (k68 b n0).trans hb12
        have hb14 : f69 b = some e := (k71 b n0).trans hb13
        have nn15 : b ≠ q72 := z_nn u73 hb14
        have hb15 : f74 b = some e := (k76 b nn15).trans hb14
        have hb16 : f78 b = some e := (k80 b n0).trans hb15
        have nn17 : b ≠ q81 := z_nn u82 hb16
        have hb17 : f83 b = some e := (k85 b nn17).trans hb16
        have hb18 : f86 b = some e := k91 b e hb17 nn17
        have hb19 : f94 b = some e := (k96 b n0).trans hb18
        have hb20 : f97 b = some e := (k99 b n0).trans hb19
        have nn21 : b ≠ q101 := z_nn u102 hb20
        have hb21 : f103 b = some e := (k105 b nn21).trans hb20
        have hb22 : f106 b = some e := k111 b e hb21 nn21
        have hb23 : f119 b = some e := (k121 b nn15).trans hb22
        have nn24 : b ≠ q126 := z_nn u127 hb23
        have hb24 : f128 b = some e := (k130 b nn24).trans hb23
        have hb25 : f131 b = some e := k136 b e hb24 nn24
        have hb26 : f139 b = some e := (k141 b nn15).trans hb25
        have nn27 : b ≠ q146 := z_nn u147 hb26
        have hb27 : f148 b = some e := (k150 b nn27).trans hb26
        have hb28 : f151 b = some e := k156 b e hb27 nn27
        have hb29 : f159 b = some e := (k161 b nn15).trans hb28
        have nn30 : b ≠ q166 := z_nn u167 hb29
        have hb30 : f168 b = some e := (k170 b nn30).trans hb29
        have hb31 : f171 b = some e := k176 b e hb30 nn30
        have hb32 : f179 b = some e := (k181 b nn15).trans hb31
        exact hb32)⟩ (Nat.le_of_ble_eq_true rfl) (Nat.le_of_ble_eq_true rfl) dX7_init_117
