theorem z_inj4 {a0 a1 a2 a3 : Nat} (n01 : a0 ≠ a1) (n02 : a0 ≠ a2) (n03 : a0 ≠ a3) (n12 : a1 ≠ a2) (n13 : a1 ≠ a3) (n23 : a2 ≠ a3) : ∀ i, i < 4 → ∀ j, j < 4 → (fun j9 => if j9 = 0 then a0 else if j9 = 1 then a1 else if j9 = 2 then a2 else a3) i = (fun j9 => if j9 = 0 then a0 else if j9 = 1 then a1 else if j9 = 2 then a2 else a3) j → i = j := by
  intro i hi j hj
  rcases (show i = 0 ∨ i = 1 ∨ i = 2 ∨ i = 3 by omega) with rfl | rfl | rfl | rfl <;> rcases (show j = 0 ∨ j = 1 ∨ j = 2 ∨ j = 3 by omega) with rfl | rfl | rfl | rfl <;> intro e <;> first
    | rfl
    | exact absurd e n01
    | exact absurd e n02
    | exact absurd e n03
    | exact absurd e n12
    | exact absurd e n13
    | exact absurd e n23
    | exact absurd e.symm n01
    | exact absurd e.symm n02
    | exact absurd e.symm n03
    | exact absurd e.symm n12
    | exact absurd e.symm n13
    | exact absurd e.symm n23
abbrev rmX7_init : Room := { frames := 2, cells := 20, slots := 548, locals := 32 }
set_option maxHeartbeats 4000000 in
set_option maxRecDepth 100000 in
theorem k_X7_init (l : Launch) (D : va_G) (cy : Nat → ClassId) (f : zM) (o : Nat) (p0 : f o = some (.inr (7, [.null, .null, .null, .int 0, .null, .int 0, .null, .int 0, .null, .null, .long 0])))   : zCv l D cy yX7_init cX7_init 2 none rmX7_init [.ref o] f (fun (f1 : zM) => ∃ (fa1 : Nat) (fi1 : Nat) (nu1 : Nat) (fm1 : Nat) (co1 : Nat) (en1 : Nat) (ke1 : Nat) (ev1 : Nat) (al1 : Nat) (ra1 : Nat) (kn1 : Nat) (vq1 : Nat) (ge1 : Nat → Option Nat) (ea1 : Nat → Nat) (ma1 : Nat → Nat) (u11 : Int32) (u21 : Int32) (u31 : Int32) (gv1 : Nat → Int32) (nl1 : Nat) (gu1 : Nat → Int32) (nn1 : Nat) (ga1 : Nat → Option Nat) (gr1 : Nat → Option Nat) (fg1 : Nat → Nat) (pt1 : Nat → Nat) (kd1 : Nat → Int32) (ln1 : Nat → Nat) (pp1 : Nat → Nat → Int64) (wg1 : Nat → Int64) (wd1 : Nat → Int32) (hs1 : Nat → Int32) (bf1 : Nat → Int32) (nf1 : Nat) (gf1 : Nat → Option Nat) (fq1 : Nat → Nat) (fk1 : Nat → Nat) (fz1 : Nat → Nat) (fc1 : Nat → Nat → Int32) (nc1 : Nat) (gc1 : Nat → Option Nat) (cn1 : Nat → Nat) (ce1 : Nat → Int32) (cm1 : Nat → Int32) (sq1 : Nat → Nat) (mb1 : Nat → Nat → Int32) (ks1 : Nat) (kk1 : Nat → Int32) (kv1 : Nat → Int32) (lk1 : Int64), (u11 = 0) ∧ (u21 = (-1)) ∧ (u31 = 0) ∧ (gv1 = fun _ => 0) ∧ (nl1 = 0) ∧ (gu1 = fun _ => 0) ∧ (nn1 = 0) ∧ (kd1 = fun _ => 0) ∧ (ln1 = fun _ => 0) ∧ (wd1 = fun _ => 0) ∧ (hs1 = fun _ => 0) ∧ (nf1 = 0) ∧ (fz1 = fun _ => 0) ∧ (nc1 = 0) ∧ (ce1 = fun _ => 0) ∧ (cm1 = fun _ => 0) ∧ (sq1 = fun _ => 0) ∧ (ks1 = 0) ∧ (kv1 = fun _ => 0) ∧ (lk1 = 1) ∧ zIX cy f1 o fa1 fi1 nu1 fm1 co1 en1 ke1 ev1 al1 ra1 kn1 vq1 ge1 ea1 ma1 u11 u21 u31 gv1 nl1 gu1 nn1 ga1 gr1 fg1 pt1 kd1 ln1 pp1 wg1 wd1 hs1 bf1 nf1 gf1 fq1 fk1 fz1 fc1 nc1 gc1 cn1 ce1 cm1 sq1 mb1 ks1 kk1 kv1 lk1 ∧ (∀ (b : Nat) (e : va_E), f b = some e → b ≠ o → f1 b = some e)) := by
  intro sz
  refine z_body (by decide +kernel) (Nat.le_of_ble_eq_true rfl) ?_
  intro p e s m below meth c ls C hr hin hsz hz hl
  subst hsz
  have hx := C.1
  have hb := C.2.1
  have hA : ∀ q, s.heap.size ≤ q → zA f s.heap.size q := fun q h => Or.inr h
  have hS : va_S (zA f s.heap.size) s.heap s.heap [] := va_S.rf
  have hl : lv_has ls 2 [(0, .ref o)] := hl
  refine lv_aload_n hx hb dX7_init_0 rfl (lv_at hl 0 rfl) ?_
  refine z_objI C hl mMX7_1 (Nat.le_of_ble_eq_true rfl) (Nat.le_of_ble_eq_true rfl) dX7_init_1 ?_
  refine lv_aload_n hx hb dX7_init_4 rfl (lv_at hl 0 rfl) ?_
  refine z_new (fs := [.int 0, .int 0, .int 0, .null]) C hz hS hA zl2 mLX7_7 mIa_RX2 mIn_RX2 (by decide +kernel) (Nat.le_of_ble_eq_true rfl) (Nat.le_of_ble_eq_true rfl) dX7_init_5 (fun q1 H f3 uq2 a4 k5 hz hS => ?_)
  refine lv_dup hx hb dX7_init_8 rfl ?_
  refine z_callINv (ret := none) (As := []) C hz hS hA hl (k_X2_init l D cy f3 q1 a4 ) zyX2_init mMNX7_9 rfl rfl (Nat.le_of_ble_eq_true rfl) ⟨Nat.le_of_ble_eq_true rfl, Nat.le_of_ble_eq_true rfl⟩ ⟨Nat.le_of_ble_eq_true rfl, Nat.le_of_ble_eq_true rfl⟩ dX7_init_9 (fun  f6 H locs h7 hz hS => ?_)
  obtain ⟨ev_8, a9, a10, k11⟩ := h7
  have a12 : f3 o = some (.inr (7, [.null, .null, .null, .int 0, .null, .int 0, .null, .int 0, .null, .null, .long 0])) := (k5 _ (z_nn uq2 p0)).trans p0
  have a13 : f6 o = some (.inr (7, [.null, .null, .null, .int 0, .null, .int 0, .null, .int 0, .null, .null, .long 0])) := k11 _ _ a12 (z_nn uq2 p0)
  refine z_putF (fs' := [.ref q1, .null, .null, .int 0, .null, .int 0, .null, .int 0, .null, .null, .long 0]) C hz hS a13 zl7 mFX7_10 (by decide) rfl hin rfl rfl rfl (Nat.le_of_ble_eq_true rfl) rfl dX7_init_12 (fun H locs f14 a15 k16 hz hS => ?_)
  refine lv_aload_n hx hb dX7_init_15 rfl (lv_at hl 0 rfl) ?_
  refine z_new (fs := [.null, .null, .int 0]) C hz hS hA zl5 mLX7_16 mIa_RX5 mIn_RX5 (by decide +kernel) (Nat.le_of_ble_eq_true rfl) (Nat.le_of_ble_eq_true rfl) dX7_init_16 (fun q17 H f19 uq18 a20 k21 hz hS => ?_)
  refine lv_dup hx hb dX7_init_19 rfl ?_
  refine z_callINv (ret := none) (As := []) C hz hS hA hl (k_X5_init l D cy f19 q17 a20 ) zyX5_init mMNX7_18 rfl rfl (Nat.le_of_ble_eq_true rfl) ⟨Nat.le_of_ble_eq_true rfl, Nat.le_of_ble_eq_true rfl⟩ ⟨Nat.le_of_ble_eq_true rfl, Nat.le_of_ble_eq_true rfl⟩ dX7_init_20 (fun  f22 H locs h23 hz hS => ?_)
  obtain ⟨al_24, ra_25, p26, a27, a28, a29, k30⟩ := h23
  have a31 : f19 o = some (.inr (7, [.ref q1, .null, .null, .int 0, .null, .int 0, .null, .int 0, .null, .null, .long 0])) := (k21 _ (z_nn uq18 a15)).trans a15
  have a32 : f22 o = some (.inr (7, [.ref q1, .null, .null, .int 0, .null, .int 0, .null, .int 0, .null, .null, .long 0])) := k30 _ _ a31 (z_nn uq18 a15)
  refine z_putF (fs' := [.ref q1, .ref q17, .null, .int 0, .null, .int 0, .null, .int 0, .null, .null, .long 0]) C hz hS a32 zl7 mFX7_19 (by decide) rfl hin rfl rfl rfl (Nat.le_of_ble_eq_true rfl) rfl dX7_init_23 (fun H locs f33 a34 k35 hz hS => ?_)
  refine lv_aload_n hx hb dX7_init_26 rfl (lv_at hl 0 rfl) ?_
  refine lv_bipush (v := 12) hx hb dX7_init_27 (by decide) ?_
  refine z_newa (atype := .int) (t0 := 0) (N' := 12) (x := (.inl (fun _ => 0))) C hz hS hA rfl mA_int rfl (fun _ => rfl) (by decide) (Nat.le_of_ble_eq_true rfl) (by decide) (Nat.le_of_ble_eq_true rfl) (Nat.le_of_ble_eq_true rfl) dX7_init_29 (fun q36 H f38 uq37 a39 k40 hz hS => ?_)
  have a41 : f38 o = some (.inr (7, [.ref q1, .ref q17, .null, .int 0, .null, .int 0, .null, .int 0, .null, .null, .long 0])) := (k40 _ (z_nn uq37 a34)).trans a34
  refine z_putF (fs' := [.ref q1, .ref q17, .ref q36, .int 0, .null, .int 0, .null, .int 0, .null, .null, .long 0]) C hz hS a41 zl7 mFX7_23 (by decide) rfl hin rfl rfl rfl (Nat.le_of_ble_eq_true rfl) rfl dX7_init_31 (fun H locs f42 a43 k44 hz hS => ?_)
  refine lv_aload_n hx hb dX7_init_34 rfl (lv_at hl 0 rfl) ?_
  refine lv_iconst (v := 0) hx hb dX7_init_35 (by decide) ?_
  refine z_put (fs' := [.ref q1, .ref q17, .ref q36, .int 0, .null, .int 0, .null, .int 0, .null, .null, .long 0]) C hz hS a43 zl7 mFX7_27 (by decide) rfl rfl rfl (Nat.le_of_ble_eq_true rfl) rfl dX7_init_36 (fun H locs f45 a46 k47 hz hS => ?_)
  refine lv_aload_n hx hb dX7_init_39 rfl (lv_at hl 0 rfl) ?_
  refine lv_bipush (v := 6) hx hb dX7_init_40 (by decide) ?_
  refine z_newq (t0 := 4) (N' := 6) C hz hS hA mLX7_31 mAO_RX3 rfl (by decide) (Nat.le_of_ble_eq_true rfl) (Nat.le_of_ble_eq_true rfl) (Nat.le_of_ble_eq_true rfl) dX7_init_42 (fun q48 H f50 uq49 a51 k52 hz hS => ?_)
  have a53 : f50 o = some (.inr (7, [.ref q1, .ref q17, .ref q36, .int 0, .null, .int 0, .null, .int 0, .null, .null, .long 0])) := (k52 _ (z_nn uq49 a46)).trans a46
  refine z_putF (fs' := [.ref q1, .ref q17, .ref q36, .int 0, .ref q48, .int 0, .null, .int 0, .null, .null, .long 0]) C hz hS a53 zl7 mFX7_33 (by decide) rfl hin rfl rfl rfl (Nat.le_of_ble_eq_true rfl) rfl dX7_init_45 (fun H locs f54 a55 k56 hz hS => ?_)
  refine lv_aload_n hx hb dX7_init_48 rfl (lv_at hl 0 rfl) ?_
  refine lv_iconst (v := 0) hx hb dX7_init_49 (by decide) ?_
  refine z_put (fs' := [.ref q1, .ref q17, .ref q36, .int 0, .ref q48, .int 0, .null, .int 0, .null, .null, .long 0]) C hz hS a55 zl7 mFX7_37 (by decide) rfl rfl rfl (Nat.le_of_ble_eq_true rfl) rfl dX7_init_50 (fun H locs f57 a58 k59 hz hS => ?_)
  refine lv_aload_n hx hb dX7_init_53 rfl (lv_at hl 0 rfl) ?_
  refine lv_bipush (v := 60) hx hb dX7_init_54 (by decide) ?_
  refine z_newq (t0 := 5) (N' := 60) C hz hS hA mLX7_40 mAO_RX0 rfl (by decide) (Nat.le_of_ble_eq_true rfl) (Nat.le_of_ble_eq_true rfl) (Nat.le_of_ble_eq_true rfl) dX7_init_56 (fun q60 H f62 uq61 a63 k64 hz hS => ?_)
  have a65 : f62 o = some (.inr (7, [.ref q1, .ref q17, .ref q36, .int 0, .ref q48, .int 0, .null, .int 0, .null, .null, .long 0])) := (k64 _ (z_nn uq61 a58)).trans a58
  refine z_putF (fs' := [.ref q1, .ref q17, .ref q36, .int 0, .ref q48, .int 0, .ref q60, .int 0, .null, .null, .long 0]) C hz hS a65 zl7 mFX7_42 (by decide) rfl hin rfl rfl rfl (Nat.le_of_ble_eq_true rfl) rfl dX7_init_59 (fun H locs f66 a67 k68 hz hS => ?_)
  refine lv_aload_n hx hb dX7_init_62 rfl (lv_at hl 0 rfl) ?_
  refine lv_iconst (v := 0) hx hb dX7_init_63 (by decide) ?_
  refine z_put (fs' := [.ref q1, .ref q17, .ref q36, .int 0, .ref q48, .int 0, .ref q60, .int 0, .null, .null, .long 0]) C hz hS a67 zl7 mFX7_46 (by decide) rfl rfl rfl (Nat.le_of_ble_eq_true rfl) rfl dX7_init_64 (fun H locs f69 a70 k71 hz hS => ?_)
  refine lv_aload_n hx hb dX7_init_67 rfl (lv_at hl 0 rfl) ?_
  refine lv_iconst (v := 4) hx hb dX7_init_68 (by decide) ?_
  refine z_newq (t0 := 6) (N' := 4) C hz hS hA mLX7_49 mAO_RX1 rfl (by decide) (Nat.le_of_ble_eq_true rfl) (Nat.le_of_ble_eq_true rfl) (Nat.le_of_ble_eq_true rfl) dX7_init_69 (fun q72 H f74 uq73 a75 k76 hz hS => ?_)
  have a77 : f74 o = some (.inr (7, [.ref q1, .ref q17, .ref q36, .int 0, .ref q48, .int 0, .ref q60, .int 0, .null, .null, .long 0])) := (k76 _ (z_nn uq73 a70)).trans a70
  refine z_putF (fs' := [.ref q1, .ref q17, .ref q36, .int 0, .ref q48, .int 0, .ref q60, .int 0, .ref q72, .null, .long 0]) C hz hS a77 zl7 mFX7_51 (by decide) rfl hin rfl rfl rfl (Nat.le_of_ble_eq_true rfl) rfl dX7_init_72 (fun H locs f78 a79 k80 hz hS => ?_)
  refine lv_aload_n hx hb dX7_init_75 rfl (lv_at hl 0 rfl) ?_
  refine z_new (fs := [.null, .null, .int 0]) C hz hS hA zl6 mLX7_55 mIa_RX6 mIn_RX6 (by decide +kernel) (Nat.le_of_ble_eq_true rfl) (Nat.le_of_ble_eq_true rfl) dX7_init_76 (fun q81 H f83 uq82 a84 k85 hz hS => ?_)
  refine lv_dup hx hb dX7_init_79 rfl ?_
  refine z_callINv (ret := none) (As := []) C hz hS hA hl (k_X6_init l D cy f83 q81 a84 ) zyX6_init mMNX7_57 rfl rfl (Nat.le_of_ble_eq_true rfl) ⟨Nat.le_of_ble_eq_true rfl, Nat.le_of_ble_eq_true rfl⟩ ⟨Nat.le_of_ble_eq_true rfl, Nat.le_of_ble_eq_true rfl⟩ dX7_init_80 (fun  f86 H locs h87 hz hS => ?_)
  obtain ⟨kn_88, vq_89, p90, a91, a92, a93, k94⟩ := h87
  have a95 : f83 o = some (.inr (7, [.ref q1, .ref q17, .ref q36, .int 0, .ref q48, .int 0, .ref q60, .int 0, .ref q72, .null, .long 0])) := (k85 _ (z_nn uq82 a79)).trans a79
  have a96 : f86 o = some (.inr (7, [.ref q1, .ref q17, .ref q36, .int 0, .ref q48, .int 0, .ref q60, .int 0, .ref q72, .null, .long 0])) := k94 _ _ a95 (z_nn uq82 a79)
  refine z_putF (fs' := [.ref q1, .ref q17, .ref q36, .int 0, .ref q48, .int 0, .ref q60, .int 0, .ref q72, .ref q81, .long 0]) C hz hS a96 zl7 mFX7_58 (by decide) rfl hin rfl rfl rfl (Nat.le_of_ble_eq_true rfl) rfl dX7_init_83 (fun H locs f97 a98 k99 hz hS => ?_)
  refine lv_aload_n hx hb dX7_init_86 rfl (lv_at hl 0 rfl) ?_
  refine lv_lconst (v := 1) hx hb dX7_init_87 (by decide) ?_
  refine z_put (fs' := [.ref q1, .ref q17, .ref q36, .int 0, .ref q48, .int 0, .ref q60, .int 0, .ref q72, .ref q81, .long 1]) C hz hS a98 zl7 mFX7_62 (by decide) rfl rfl rfl (Nat.le_of_ble_eq_true rfl) rfl dX7_init_88 (fun H locs f100 a101 k102 hz hS => ?_)
  refine lv_iconst (v := 0) hx hb dX7_init_91 (by decide) ?_
  refine lv_istore_n (lv' := [(1, .int 0), (0, .ref o)]) hx hb dX7_init_92 rfl hl (by decide) rfl (fun ls hl => ?_)
  refine lv_iload_n hx hb dX7_init_93 rfl (lv_at hl 0 rfl) ?_
  refine lv_iconst (v := 4) hx hb dX7_init_94 (by decide) ?_
  refine lv_icmp_ge (tgt := 117) hx hb dX7_init_95 (by decide) (fun c103 => ?_) (fun c103 => ?_)
  · exact absurd c103 (by decide)
  refine lv_aload_n hx hb dX7_init_98 rfl (lv_at hl 1 rfl) ?_
  refine z_get (v := .ref q72) C hz a101 zl7 mFX7_51 (by decide) rfl dX7_init_99 ?_
  refine lv_iload_n hx hb dX7_init_102 rfl (lv_at hl 0 rfl) ?_
  refine z_new (fs := [.null, .int 0]) C hz hS hA zl1 mLX7_49 mIa_RX1 mIn_RX1 (by decide +kernel) (Nat.le_of_ble_eq_true rfl) (Nat.le_of_ble_eq_true rfl) dX7_init_103 (fun q104 H f106 uq105 a107 k108 hz hS => ?_)
  refine lv_dup hx hb dX7_init_106 rfl ?_
  refine z_callINv (ret := none) (As := []) C hz hS hA hl (k_X1_init l D cy f106 q104 a107 ) zyX1_init mMNX7_66 rfl rfl (Nat.le_of_ble_eq_true rfl) ⟨Nat.le_of_ble_eq_true rfl, Nat.le_of_ble_eq_true rfl⟩ ⟨Nat.le_of_ble_eq_true rfl, Nat.le_of_ble_eq_true rfl⟩ dX7_init_107 (fun  f109 H locs h110 hz hS => ?_)
  obtain ⟨mm_111, p112, a113, a114, k115⟩ := h110
  have a116 : f78 q72 = some (.inl (cy 6, 4, .inr (.inr (.inr (.inr (fun _ => none)))))) := (k80 _ (Ne.symm (z_nn uq73 a70))).trans a75
  have a117 : f83 q72 = some (.inl (cy 6, 4, .inr (.inr (.inr (.inr (fun _ => none)))))) := (k85 _ (z_nn uq82 a116)).trans a116
  have a118 : f86 q72 = some (.inl (cy 6, 4, .inr (.inr (.inr (.inr (fun _ => none)))))) := k94 _ _ a117 (z_nn uq82 a116)
  have a119 : f97 q72 = some (.inl (cy 6, 4, .inr (.inr (.inr (.inr (fun _ => none)))))) := (k99 _ (Ne.symm (z_nn uq73 a70))).trans a118
  have a120 : f100 q72 = some (.inl (cy 6, 4, .inr (.inr (.inr (.inr (fun _ => none)))))) := (k102 _ (Ne.symm (z_nn uq73 a70))).trans a119
  have a121 : f106 q72 = some (.inl (cy 6, 4, .inr (.inr (.inr (.inr (fun _ => none)))))) := (k108 _ (z_nn uq105 a120)).trans a120
  have a122 : f109 q72 = some (.inl (cy 6, 4, .inr (.inr (.inr (.inr (fun _ => none)))))) := k115 _ _ a121 (z_nn uq105 a120)
  refine z_astq 0 C hz hS a122 rfl a113 zl1 (by decide) (Nat.le_of_ble_eq_true rfl) (by omega) dX7_init_110 (fun H locs f123 a124 k125 hz hS => ?_)
  refine lv_iinc (v := 1) (lv' := [(1, .int 1), (0, .ref o)]) hx hb dX7_init_111 hl (k := 0) rfl (by decide) (by decide) rfl (fun ls hl => ?_)
  refine lv_goto (tgt := 93) hx hb dX7_init_114 (by decide) ?_
  refine lv_iload_n hx hb dX7_init_93 rfl (lv_at hl 0 rfl) ?_
  refine lv_iconst (v := 4) hx hb dX7_init_94 (by decide) ?_
  refine lv_icmp_ge (tgt := 117) hx hb dX7_init_95 (by decide) (fun c126 => ?_) (fun c126 => ?_)
  · exact absurd c126 (by decide)
  refine lv_aload_n hx hb dX7_init_98 rfl (lv_at hl 1 rfl) ?_
  have a127 : f106 o = some (.inr (7, [.ref q1, .ref q17, .ref q36, .int 0, .ref q48, .int 0, .ref q60, .int 0, .ref q72, .ref q81, .long 1])) := (k108 _ (z_nn uq105 a101)).trans a101
  have a128 : f109 o = some (.inr (7, [.ref q1, .ref q17, .ref q36, .int 0, .ref q48, .int 0, .ref q60, .int 0, .ref q72, .ref q81, .long 1])) := k115 _ _ a127 (z_nn uq105 a101)
  have a129 : f123 o = some (.inr (7, [.ref q1, .ref q17, .ref q36, .int 0, .ref q48, .int 0, .ref q60, .int 0, .ref q72, .ref q81, .long 1])) := (k125 _ (z_nn uq73 a70)).trans a128
  refine z_get (v := .ref q72) C hz a129 zl7 mFX7_51 (by decide) rfl dX7_init_99 ?_
  refine lv_iload_n hx hb dX7_init_102 rfl (lv_at hl 0 rfl) ?_
  refine z_new (fs := [.null, .int 0]) C hz hS hA zl1 mLX7_49 mIa_RX1 mIn_RX1 (by decide +kernel) (Nat.le_of_ble_eq_true rfl) (Nat.le_of_ble_eq_true rfl) dX7_init_103 (fun q130 H f132 uq131 a133 k134 hz hS => ?_)
  refine lv_dup hx hb dX7_init_106 rfl ?_
  refine z_callINv (ret := none) (As := []) C hz hS hA hl (k_X1_init l D cy f132 q130 a133 ) zyX1_init mMNX7_66 rfl rfl (Nat.le_of_ble_eq_true rfl) ⟨Nat.le_of_ble_eq_true rfl, Nat.le_of_ble_eq_true rfl⟩ ⟨Nat.le_of_ble_eq_true rfl, Nat.le_of_ble_eq_true rfl⟩ dX7_init_107 (fun  f135 H locs h136 hz hS => ?_)
  obtain ⟨mm_137, p138, a139, a140, k141⟩ := h136
  have a142 : f132 q72 = some (.inl (cy 6, 4, .inr (.inr (.inr (.inr (va_up (fun _ => none) 0 (some q104))))))) := (k134 _ (z_nn uq131 a124)).trans a124
  have a143 : f135 q72 = some (.inl (cy 6, 4, .inr (.inr (.inr (.inr (va_up (fun _ => none) 0 (some q104))))))) := k141 _ _ a142 (z_nn uq131 a124)
  refine z_astq 1 C hz hS a143 rfl a139 zl1 (by decide) (Nat.le_of_ble_eq_true rfl) (by omega) dX7_init_110 (fun H locs f144 a145 k146 hz hS => ?_)
  refine lv_iinc (v := 2) (lv' := [(1, .int 2), (0, .ref o)]) hx hb dX7_init_111 hl (k := 0) rfl (by decide) (by decide) rfl (fun ls hl => ?_)
  refine lv_goto (tgt := 93) hx hb dX7_init_114 (by decide) ?_
  refine lv_iload_n hx hb dX7_init_93 rfl (lv_at hl 0 rfl) ?_
  refine lv_iconst (v := 4) hx hb dX7_init_94 (by decide) ?_
  refine lv_icmp_ge (tgt := 117) hx hb dX7_init_95 (by decide) (fun c147 => ?_) (fun c147 => ?_)
  · exact absurd c147 (by decide)
  refine lv_aload_n hx hb dX7_init_98 rfl (lv_at hl 1 rfl) ?_
  have a148 : f132 o = some (.inr (7, [.ref q1, .ref q17, .ref q36, .int 0, .ref q48, .int 0, .ref q60, .int 0, .ref q72, .ref q81, .long 1])) := (k134 _ (z_nn uq131 a129)).trans a129
  have a149 : f135 o = some (.inr (7, [.ref q1, .ref q17, .ref q36, .int 0, .ref q48, .int 0, .ref q60, .int 0, .ref q72, .ref q81, .long 1])) := k141 _ _ a148 (z_nn uq131 a129)
  have a150 : f144 o = some (.inr (7, [.ref q1, .ref q17, .ref q36, .int 0, .ref q48, .int 0, .ref q60, .int 0, .ref q72, .ref q81, .long 1])) := (k146 _ (z_nn uq73 a70)).trans a149
  refine z_get (v := .ref q72) C hz a150 zl7 mFX7_51 (by decide) rfl dX7_init_99 ?_
  refine lv_iload_n hx hb dX7_init_102 rfl (lv_at hl 0 rfl) ?_
  refine z_new (fs := [.null, .int 0]) C hz hS hA zl1 mLX7_49 mIa_RX1 mIn_RX1 (by decide +kernel) (Nat.le_of_ble_eq_true rfl) (Nat.le_of_ble_eq_true rfl) dX7_init_103 (fun q151 H f153 uq152 a154 k155 hz hS => ?_)
  refine lv_dup hx hb dX7_init_106 rfl ?_
  refine z_callINv (ret := none) (As := []) C hz hS hA hl (k_X1_init l D cy f153 q151 a154 ) zyX1_init mMNX7_66 rfl rfl (Nat.le_of_ble_eq_true rfl) ⟨Nat.le_of_ble_eq_true rfl, Nat.le_of_ble_eq_true rfl⟩ ⟨Nat.le_of_ble_eq_true rfl, Nat.le_of_ble_eq_true rfl⟩ dX7_init_107 (fun  f156 H locs h157 hz hS => ?_)
  obtain ⟨mm_158, p159, a160, a161, k162⟩ := h157
  have a163 : f153 q72 = some (.inl (cy 6, 4, .inr (.inr (.inr (.inr (va_up (va_up (fun _ => none) 0 (some q104)) 1 (some q130))))))) := (k155 _ (z_nn uq152 a145)).trans a145
  have a164 : f156 q72 = some (.inl (cy 6, 4, .inr (.inr (.inr (.inr (va_up (va_up (fun _ => none) 0 (some q104)) 1 (some q130))))))) := k162 _ _ a163 (z_nn uq152 a145)
  refine z_astq 2 C hz hS a164 rfl a160 zl1 (by decide) (Nat.le_of_ble_eq_true rfl) (by omega) dX7_init_110 (fun H locs f165 a166 k167 hz hS => ?_)
  refine lv_iinc (v := 3) (lv' := [(1, .int 3), (0, .ref o)]) hx hb dX7_init_111 hl (k := 0) rfl (by decide) (by decide) rfl (fun ls hl => ?_)
  refine lv_goto (tgt := 93) hx hb dX7_init_114 (by decide) ?_
  refine lv_iload_n hx hb dX7_init_93 rfl (lv_at hl 0 rfl) ?_
  refine lv_iconst (v := 4) hx hb dX7_init_94 (by decide) ?_
  refine lv_icmp_ge (tgt := 117) hx hb dX7_init_95 (by decide) (fun c168 => ?_) (fun c168 => ?_)
  · exact absurd c168 (by decide)
  refine lv_aload_n hx hb dX7_init_98 rfl (lv_at hl 1 rfl) ?_
  have a169 : f153 o = some (.inr (7, [.ref q1, .ref q17, .ref q36, .int 0, .ref q48, .int 0, .ref q60, .int 0, .ref q72, .ref q81, .long 1])) := (k155 _ (z_nn uq152 a150)).trans a150
  have a170 : f156 o = some (.inr (7, [.ref q1, .ref q17, .ref q36, .int 0, .ref q48, .int 0, .ref q60, .int 0, .ref q72, .ref q81, .long 1])) := k162 _ _ a169 (z_nn uq152 a150)
  have a171 : f165 o = some (.inr (7, [.ref q1, .ref q17, .ref q36, .int 0, .ref q48, .int 0, .ref q60, .int 0, .ref q72, .ref q81, .long 1])) := (k167 _ (z_nn uq73 a70)).trans a170
  refine z_get (v := .ref q72) C hz a171 zl7 mFX7_51 (by decide) rfl dX7_init_99 ?_
  refine lv_iload_n hx hb dX7_init_102 rfl (lv_at hl 0 rfl) ?_
  refine z_new (fs := [.null, .int 0]) C hz hS hA zl1 mLX7_49 mIa_RX1 mIn_RX1 (by decide +kernel) (Nat.le_of_ble_eq_true rfl) (Nat.le_of_ble_eq_true rfl) dX7_init_103 (fun q172 H f174 uq173 a175 k176 hz hS => ?_)
  refine lv_dup hx hb dX7_init_106 rfl ?_
  refine z_callINv (ret := none) (As := []) C hz hS hA hl (k_X1_init l D cy f174 q172 a175 ) zyX1_init mMNX7_66 rfl rfl (Nat.le_of_ble_eq_true rfl) ⟨Nat.le_of_ble_eq_true rfl, Nat.le_of_ble_eq_true rfl⟩ ⟨Nat.le_of_ble_eq_true rfl, Nat.le_of_ble_eq_true rfl⟩ dX7_init_107 (fun  f177 H locs h178 hz hS => ?_)
  obtain ⟨mm_179, p180, a181, a182, k183⟩ := h178
  have a184 : f174 q72 = some (.inl (cy 6, 4, .inr (.inr (.inr (.inr (va_up (va_up (va_up (fun _ => none) 0 (some q104)) 1 (some q130)) 2 (some q151))))))) := (k176 _ (z_nn uq173 a166)).trans a166
  have a185 : f177 q72 = some (.inl (cy 6, 4, .inr (.inr (.inr (.inr (va_up (va_up (va_up (fun _ => none) 0 (some q104)) 1 (some q130)) 2 (some q151))))))) := k183 _ _ a184 (z_nn uq173 a166)
  refine z_astq 3 C hz hS a185 rfl a181 zl1 (by decide) (Nat.le_of_ble_eq_true rfl) (by omega) dX7_init_110 (fun H locs f186 a187 k188 hz hS => ?_)
  refine lv_iinc (v := 4) (lv' := [(1, .int 4), (0, .ref o)]) hx hb dX7_init_111 hl (k := 0) rfl (by decide) (by decide) rfl (fun ls hl => ?_)
  refine lv_goto (tgt := 93) hx hb dX7_init_114 (by decide) ?_
  refine lv_iload_n hx hb dX7_init_93 rfl (lv_at hl 0 rfl) ?_
  refine lv_iconst (v := 4) hx hb dX7_init_94 (by decide) ?_
  refine lv_icmp_ge (tgt := 117) hx hb dX7_init_95 (by decide) (fun c189 => ?_) (fun c189 => ?_)
  rotate_left
  · exact absurd c189 (by decide)
  have F190 : ∀ i9 : Nat, i9 < 0 → f186 ((fun _ => 0) i9) = some (.inr (4, [.int ((fun _ => 0) i9), .ref ((fun _ => 0) i9), .long ((fun _ => 0) i9), .int ((fun _ => 0) i9), .int (nI i9), .int ((fun _ => 0) i9), .int ((fun _ => 0) i9)])) := (fun i9 h9 => absurd h9 (Nat.not_lt_zero _))
  have F191 : ∀ i9 : Nat, i9 < 0 → f186 ((fun _ => 0) i9) = some (.inl (cy 1, ((fun _ => 0) i9), .inr (.inl ((fun _ _ => 0) i9)))) := (fun i9 h9 => absurd h9 (Nat.not_lt_zero _))
  have F192 : ∀ i9 : Nat, i9 < 0 → f186 ((fun _ => 0) i9) = some (.inr (3, [.ref ((fun _ => 0) i9), .int (nI ((fun _ => 0) i9))])) := (fun i9 h9 => absurd h9 (Nat.not_lt_zero _))
  have F193 : ∀ i9 : Nat, i9 < 0 → f186 ((fun _ => 0) i9) = some (.inl (cy 0, 4, .inl ((fun _ _ => 0) i9))) := (fun i9 h9 => absurd h9 (Nat.not_lt_zero _))
  have F194 : ∀ i9 : Nat, i9 < 0 → f186 ((fun _ => 0) i9) = some (.inr (0, [.int ((fun _ => 0) i9), .int ((fun _ => 0) i9)])) := (fun i9 h9 => absurd h9 (Nat.not_lt_zero _))
  have a196 : f123 q104 = some (.inr (1, [.ref mm_111, .int 0])) := (k125 _ (Ne.symm (z_nn uq105 a120))).trans a113
  have a197 : f132 q104 = some (.inr (1, [.ref mm_111, .int 0])) := (k134 _ (z_nn uq131 a196)).trans a196
  have a198 : f135 q104 = some (.inr (1, [.ref mm_111, .int 0])) := k141 _ _ a197 (z_nn uq131 a196)
  have a199 : f144 q104 = some (.inr (1, [.ref mm_111, .int 0])) := (k146 _ (Ne.symm (z_nn uq105 a120))).trans a198
  have a200 : f153 q104 = some (.inr (1, [.ref mm_111, .int 0])) := (k155 _ (z_nn uq152 a199)).trans a199
  have a201 : f156 q104 = some (.inr (1, [.ref mm_111, .int 0])) := k162 _ _ a200 (z_nn uq152 a199)
  have a202 : f165 q104 = some (.inr (1, [.ref mm_111, .int 0])) := (k167 _ (Ne.symm (z_nn uq105 a120))).trans a201
  have a203 : f174 q104 = some (.inr (1, [.ref mm_111, .int 0])) := (k176 _ (z_nn uq173 a202)).trans a202
  have a204 : f177 q104 = some (.inr (1, [.ref mm_111, .int 0])) := k183 _ _ a203 (z_nn uq173 a202)
  have a205 : f186 q104 = some (.inr (1, [.ref mm_111, .int 0])) := (k188 _ (Ne.symm (z_nn uq105 a120))).trans a204
  have a206 : f144 q130 = some (.inr (1, [.ref mm_137, .int 0])) := (k146 _ (Ne.symm (z_nn uq131 a124))).trans a139
  have a207 : f153 q130 = some (.inr (1, [.ref mm_137, .int 0])) := (k155 _ (z_nn uq152 a206)).trans a206
  have a208 : f156 q130 = some (.inr (1, [.ref mm_137, .int 0])) := k162 _ _ a207 (z_nn uq152 a206)
  have a209 : f165 q130 = some (.inr (1, [.ref mm_137, .int 0])) := (k167 _ (Ne.symm (z_nn uq131 a124))).trans a208
  have a210 : f174 q130 = some (.inr (1, [.ref mm_137, .int 0])) := (k176 _ (z_nn uq173 a209)).trans a209
  have a211 : f177 q130 = some (.inr (1, [.ref mm_137, .int 0])) := k183 _ _ a210 (z_nn uq173 a209)
  have a212 : f186 q130 = some (.inr (1, [.ref mm_137, .int 0])) := (k188 _ (Ne.symm (z_nn uq131 a124))).trans a211
  have a213 : f165 q151 = some (.inr (1, [.ref mm_158, .int 0])) := (k167 _ (Ne.symm (z_nn uq152 a145))).trans a160
  have a214 : f174 q151 = some (.inr (1, [.ref mm_158, .int 0])) := (k176 _ (z_nn uq173 a213)).trans a213
  have a215 : f177 q151 = some (.inr (1, [.ref mm_158, .int 0])) := k183 _ _ a214 (z_nn uq173 a213)
  have a216 : f186 q151 = some (.inr (1, [.ref mm_158, .int 0])) := (k188 _ (Ne.symm (z_nn uq152 a145))).trans a215
  have a217 : f186 q172 = some (.inr (1, [.ref mm_179, .int 0])) := (k188 _ (Ne.symm (z_nn uq173 a166))).trans a181
  have F195 : ∀ i9 : Nat, i9 < 4 → f186 ((fun j9 => if j9 = 0 then q104 else if j9 = 1 then q130 else if j9 = 2 then q151 else q172) i9) = some (.inr (1, [.ref ((fun j9 => if j9 = 0 then mm_111 else if j9 = 1 then mm_137 else if j9 = 2 then mm_158 else mm_179) i9), .int (nI ((fun _ => 0) i9))])) := by
    intro j hj
    rcases (show j = 0 ∨ j = 1 ∨ j = 2 ∨ j = 3 by omega) with rfl | rfl | rfl | rfl
    · exact a205
    · exact a212
    · exact a216
    · exact a217
  have a219 : f123 mm_111 = some (.inl (cy 0, 60, .inl (fun _ => 0))) := (k125 _ (Ne.symm (z_nn p112 a121))).trans a114
  have a220 : f132 mm_111 = some (.inl (cy 0, 60, .inl (fun _ => 0))) := (k134 _ (z_nn uq131 a219)).trans a219
  have a221 : f135 mm_111 = some (.inl (cy 0, 60, .inl (fun _ => 0))) := k141 _ _ a220 (z_nn uq131 a219)
  have a222 : f144 mm_111 = some (.inl (cy 0, 60, .inl (fun _ => 0))) := (k146 _ (Ne.symm (z_nn p112 a121))).trans a221
  have a223 : f153 mm_111 = some (.inl (cy 0, 60, .inl (fun _ => 0))) := (k155 _ (z_nn uq152 a222)).trans a222
  have a224 : f156 mm_111 = some (.inl (cy 0, 60, .inl (fun _ => 0))) := k162 _ _ a223 (z_nn uq152 a222)
  have a225 : f165 mm_111 = some (.inl (cy 0, 60, .inl (fun _ => 0))) := (k167 _ (Ne.symm (z_nn p112 a121))).trans a224
  have a226 : f174 mm_111 = some (.inl (cy 0, 60, .inl (fun _ => 0))) := (k176 _ (z_nn uq173 a225)).trans a225
  have a227 : f177 mm_111 = some (.inl (cy 0, 60, .inl (fun _ => 0))) := k183 _ _ a226 (z_nn uq173 a225)
  have a228 : f186 mm_111 = some (.inl (cy 0, 60, .inl (fun _ => 0))) := (k188 _ (Ne.symm (z_nn p112 a121))).trans a227
  have a229 : f144 mm_137 = some (.inl (cy 0, 60, .inl (fun _ => 0))) := (k146 _ (Ne.symm (z_nn p138 a142))).trans a140
  have a230 : f153 mm_137 = some (.inl (cy 0, 60, .inl (fun _ => 0))) := (k155 _ (z_nn uq152 a229)).trans a229
  have a231 : f156 mm_137 = some (.inl (cy 0, 60, .inl (fun _ => 0))) := k162 _ _ a230 (z_nn uq152 a229)
  have a232 : f165 mm_137 = some (.inl (cy 0, 60, .inl (fun _ => 0))) := (k167 _ (Ne.symm (z_nn p138 a142))).trans a231
  have a233 : f174 mm_137 = some (.inl (cy 0, 60, .inl (fun _ => 0))) := (k176 _ (z_nn uq173 a232)).trans a232
  have a234 : f177 mm_137 = some (.inl (cy 0, 60, .inl (fun _ => 0))) := k183 _ _ a233 (z_nn uq173 a232)
  have a235 : f186 mm_137 = some (.inl (cy 0, 60, .inl (fun _ => 0))) := (k188 _ (Ne.symm (z_nn p138 a142))).trans a234
  have a236 : f165 mm_158 = some (.inl (cy 0, 60, .inl (fun _ => 0))) := (k167 _ (Ne.symm (z_nn p159 a163))).trans a161
  have a237 : f174 mm_158 = some (.inl (cy 0, 60, .inl (fun _ => 0))) := (k176 _ (z_nn uq173 a236)).trans a236
  have a238 : f177 mm_158 = some (.inl (cy 0, 60, .inl (fun _ => 0))) := k183 _ _ a237 (z_nn uq173 a236)
  have a239 : f186 mm_158 = some (.inl (cy 0, 60, .inl (fun _ => 0))) := (k188 _ (Ne.symm (z_nn p159 a163))).trans a238
  have a240 : f186 mm_179 = some (.inl (cy 0, 60, .inl (fun _ => 0))) := (k188 _ (Ne.symm (z_nn p180 a184))).trans a182
  have F218 : ∀ i9 : Nat, i9 < 4 → f186 ((fun j9 => if j9 = 0 then mm_111 else if j9 = 1 then mm_137 else if j9 = 2 then mm_158 else mm_179) i9) = some (.inl (cy 0, 60, .inl ((fun _ _ => 0) i9))) := by
    intro j hj
    rcases (show j = 0 ∨ j = 1 ∨ j = 2 ∨ j = 3 by omega) with rfl | rfl | rfl | rfl
    · exact a228
    · exact a235
    · exact a239
    · exact a240
  have a241 : f174 o = some (.inr (7, [.ref q1, .ref q17, .ref q36, .int 0, .ref q48, .int 0, .ref q60, .int 0, .ref q72, .ref q81, .long 1])) := (k176 _ (z_nn uq173 a171)).trans a171
  have a242 : f177 o = some (.inr (7, [.ref q1, .ref q17, .ref q36, .int 0, .ref q48, .int 0, .ref q60, .int 0, .ref q72, .ref q81, .long 1])) := k183 _ _ a241 (z_nn uq173 a171)
  have a243 : f186 o = some (.inr (7, [.ref q1, .ref q17, .ref q36, .int 0, .ref q48, .int 0, .ref q60, .int 0, .ref q72, .ref q81, .long 1])) := (k188 _ (z_nn uq73 a70)).trans a242
  have a244 : f14 q1 = some (.inr (2, [.int 0, .int (-1), .int 0, .ref ev_8])) := (k16 _ (Ne.symm (z_nn uq2 p0))).trans a9
  have a245 : f19 q1 = some (.inr (2, [.int 0, .int (-1), .int 0, .ref ev_8])) := (k21 _ (z_nn uq18 a244)).trans a244
  have a246 : f22 q1 = some (.inr (2, [.int 0, .int (-1), .int 0, .ref ev_8])) := k30 _ _ a245 (z_nn uq18 a244)
  have a247 : f33 q1 = some (.inr (2, [.int 0, .int (-1), .int 0, .ref ev_8])) := (k35 _ (Ne.symm (z_nn uq2 p0))).trans a246
  have a248 : f38 q1 = some (.inr (2, [.int 0, .int (-1), .int 0, .ref ev_8])) := (k40 _ (z_nn uq37 a247)).trans a247
  have a249 : f42 q1 = some (.inr (2, [.int 0, .int (-1), .int 0, .ref ev_8])) := (k44 _ (Ne.symm (z_nn uq2 p0))).trans a248
  have a250 : f45 q1 = some (.inr (2, [.int 0, .int (-1), .int 0, .ref ev_8])) := (k47 _ (Ne.symm (z_nn uq2 p0))).trans a249
  have a251 : f50 q1 = some (.inr (2, [.int 0, .int (-1), .int 0, .ref ev_8])) := (k52 _ (z_nn uq49 a250)).trans a250
  have a252 : f54 q1 = some (.inr (2, [.int 0, .int (-1), .int 0, .ref ev_8])) := (k56 _ (Ne.symm (z_nn uq2 p0))).trans a251
  have a253 : f57 q1 = some (.inr (2, [.int 0, .int (-1), .int 0, .ref ev_8])) := (k59 _ (Ne.symm (z_nn uq2 p0))).trans a252
  have a254 : f62 q1 = some (.inr (2, [.int 0, .int (-1), .int 0, .ref ev_8])) := (k64 _ (z_nn uq61 a253)).trans a253
  have a255 : f66 q1 = some (.inr (2, [.int 0, .int (-1), .int 0, .ref ev_8])) := (k68 _ (Ne.symm (z_nn uq2 p0))).trans a254
  have a256 : f69 q1 = some (.inr (2, [.int 0, .int (-1), .int 0, .ref ev_8])) := (k71 _ (Ne.symm (z_nn uq2 p0))).trans a255
  have a257 : f74 q1 = some (.inr (2, [.int 0, .int (-1), .int 0, .ref ev_8])) := (k76 _ (z_nn uq73 a256)).trans a256
  have a258 : f78 q1 = some (.inr (2, [.int 0, .int (-1), .int 0, .ref ev_8])) := (k80 _ (Ne.symm (z_nn uq2 p0))).trans a257
  have a259 : f83 q1 = some (.inr (2, [.int 0, .int (-1), .int 0, .ref ev_8])) := (k85 _ (z_nn uq82 a258)).trans a258
  have a260 : f86 q1 = some (.inr (2, [.int 0, .int (-1), .int 0, .ref ev_8])) := k94 _ _ a259 (z_nn uq82 a258)
  have a261 : f97 q1 = some (.inr (2, [.int 0, .int (-1), .int 0, .ref ev_8])) := (k99 _ (Ne.symm (z_nn uq2 p0))).trans a260
  have a262 : f100 q1 = some (.inr (2, [.int 0, .int (-1), .int 0, .ref ev_8])) := (k102 _ (Ne.symm (z_nn uq2 p0))).trans a261
  have a263 : f106 q1 = some (.inr (2, [.int 0, .int (-1), .int 0, .ref ev_8])) := (k108 _ (z_nn uq105 a262)).trans a262
  have a264 : f109 q1 = some (.inr (2, [.int 0, .int (-1), .int 0, .ref ev_8])) := k115 _ _ a263 (z_nn uq105 a262)
  have a265 : f123 q1 = some (.inr (2, [.int 0, .int (-1), .int 0, .ref ev_8])) := (k125 _ (z_nn uq73 a256)).trans a264
  have a266 : f132 q1 = some (.inr (2, [.int 0, .int (-1), .int 0, .ref ev_8])) := (k134 _ (z_nn uq131 a265)).trans a265
  have a267 : f135 q1 = some (.inr (2, [.int 0, .int (-1), .int 0, .ref ev_8])) := k141 _ _ a266 (z_nn uq131 a265)
  have a268 : f144 q1 = some (.inr (2, [.int 0, .int (-1), .int 0, .ref ev_8])) := (k146 _ (z_nn uq73 a256)).trans a267
  have a269 : f153 q1 = some (.inr (2, [.int 0, .int (-1), .int 0, .ref ev_8])) := (k155 _ (z_nn uq152 a268)).trans a268
  have a270 : f156 q1 = some (.inr (2, [.int 0, .int (-1), .int 0, .ref ev_8])) := k162 _ _ a269 (z_nn uq152 a268)
  have a271 : f165 q1 = some (.inr (2, [.int 0, .int (-1), .int 0, .ref ev_8])) := (k167 _ (z_nn uq73 a256)).trans a270
  have a272 : f174 q1 = some (.inr (2, [.int 0, .int (-1), .int 0, .ref ev_8])) := (k176 _ (z_nn uq173 a271)).trans a271
  have a273 : f177 q1 = some (.inr (2, [.int 0, .int (-1), .int 0, .ref ev_8])) := k183 _ _ a272 (z_nn uq173 a271)
  have a274 : f186 q1 = some (.inr (2, [.int 0, .int (-1), .int 0, .ref ev_8])) := (k188 _ (z_nn uq73 a256)).trans a273
  have a275 : f14 ev_8 = some (.inl (cy 0, 8, .inl (fun _ => 0))) := (k16 _ (z_ne a10 a13 rfl)).trans a10
  have a276 : f19 ev_8 = some (.inl (cy 0, 8, .inl (fun _ => 0))) := (k21 _ (z_nn uq18 a275)).trans a275
  have a277 : f22 ev_8 = some (.inl (cy 0, 8, .inl (fun _ => 0))) := k30 _ _ a276 (z_nn uq18 a275)
  have a278 : f33 ev_8 = some (.inl (cy 0, 8, .inl (fun _ => 0))) := (k35 _ (z_ne a277 a32 rfl)).trans a277
  have a279 : f38 ev_8 = some (.inl (cy 0, 8, .inl (fun _ => 0))) := (k40 _ (z_nn uq37 a278)).trans a278
  have a280 : f42 ev_8 = some (.inl (cy 0, 8, .inl (fun _ => 0))) := (k44 _ (z_ne a279 a41 rfl)).trans a279
  have a281 : f45 ev_8 = some (.inl (cy 0, 8, .inl (fun _ => 0))) := (k47 _ (z_ne a280 a43 rfl)).trans a280
  have a282 : f50 ev_8 = some (.inl (cy 0, 8, .inl (fun _ => 0))) := (k52 _ (z_nn uq49 a281)).trans a281
  have a283 : f54 ev_8 = some (.inl (cy 0, 8, .inl (fun _ => 0))) := (k56 _ (z_ne a282 a53 rfl)).trans a282
  have a284 : f57 ev_8 = some (.inl (cy 0, 8, .inl (fun _ => 0))) := (k59 _ (z_ne a283 a55 rfl)).trans a283
  have a285 : f62 ev_8 = some (.inl (cy 0, 8, .inl (fun _ => 0))) := (k64 _ (z_nn uq61 a284)).trans a284
  have a286 : f66 ev_8 = some (.inl (cy 0, 8, .inl (fun _ => 0))) := (k68 _ (z_ne a285 a65 rfl)).trans a285
  have a287 : f69 ev_8 = some (.inl (cy 0, 8, .inl (fun _ => 0))) := (k71 _ (z_ne a286 a67 rfl)).trans a286
  have a288 : f74 ev_8 = some (.inl (cy 0, 8, .inl (fun _ => 0))) := (k76 _ (z_nn uq73 a287)).trans a287
  have a289 : f78 ev_8 = some (.inl (cy 0, 8, .inl (fun _ => 0))) := (k80 _ (z_ne a288 a77 rfl)).trans a288
  have a290 : f83 ev_8 = some (.inl (cy 0, 8, .inl (fun _ => 0))) := (k85 _ (z_nn uq82 a289)).trans a289
  have a291 : f86 ev_8 = some (.inl (cy 0, 8, .inl (fun _ => 0))) := k94 _ _ a290 (z_nn uq82 a289)
  have a292 : f97 ev_8 = some (.inl (cy 0, 8, .inl (fun _ => 0))) := (k99 _ (z_ne a291 a96 rfl)).trans a291
  have a293 : f100 ev_8 = some (.inl (cy 0, 8, .inl (fun _ => 0))) := (k102 _ (z_ne a292 a98 rfl)).trans a292
  have a294 : f106 ev_8 = some (.inl (cy 0, 8, .inl (fun _ => 0))) := (k108 _ (z_nn uq105 a293)).trans a293
  have a295 : f109 ev_8 = some (.inl (cy 0, 8, .inl (fun _ => 0))) := k115 _ _ a294 (z_nn uq105 a293)
  have a296 : f123 ev_8 = some (.inl (cy 0, 8, .inl (fun _ => 0))) := (k125 _ (z_nn uq73 a287)).trans a295
  have a297 : f132 ev_8 = some (.inl (cy 0, 8, .inl (fun _ => 0))) := (k134 _ (z_nn uq131 a296)).trans a296
  have a298 : f135 ev_8 = some (.inl (cy 0, 8, .inl (fun _ => 0))) := k141 _ _ a297 (z_nn uq131 a296)
  have a299 : f144 ev_8 = some (.inl (cy 0, 8, .inl (fun _ => 0))) := (k146 _ (z_nn uq73 a287)).trans a298
  have a300 : f153 ev_8 = some (.inl (cy 0, 8, .inl (fun _ => 0))) := (k155 _ (z_nn uq152 a299)).trans a299
  have a301 : f156 ev_8 = some (.inl (cy 0, 8, .inl (fun _ => 0))) := k162 _ _ a300 (z_nn uq152 a299)
  have a302 : f165 ev_8 = some (.inl (cy 0, 8, .inl (fun _ => 0))) := (k167 _ (z_nn uq73 a287)).trans a301
  have a303 : f174 ev_8 = some (.inl (cy 0, 8, .inl (fun _ => 0))) := (k176 _ (z_nn uq173 a302)).trans a302
  have a304 : f177 ev_8 = some (.inl (cy 0, 8, .inl (fun _ => 0))) := k183 _ _ a303 (z_nn uq173 a302)
  have a305 : f186 ev_8 = some (.inl (cy 0, 8, .inl (fun _ => 0))) := (k188 _ (z_nn uq73 a287)).trans a304
  have a306 : f33 q17 = some (.inr (5, [.ref al_24, .ref ra_25, .int 0])) := (k35 _ (Ne.symm (z_nn uq18 a15))).trans a27
  have a307 : f38 q17 = some (.inr (5, [.ref al_24, .ref ra_25, .int 0])) := (k40 _ (z_nn uq37 a306)).trans a306
  have a308 : f42 q17 = some (.inr (5, [.ref al_24, .ref ra_25, .int 0])) := (k44 _ (Ne.symm (z_nn uq18 a15))).trans a307
  have a309 : f45 q17 = some (.inr (5, [.ref al_24, .ref ra_25, .int 0])) := (k47 _ (Ne.symm (z_nn uq18 a15))).trans a308
  have a310 : f50 q17 = some (.inr (5, [.ref al_24, .ref ra_25, .int 0])) := (k52 _ (z_nn uq49 a309)).trans a309
  have a311 : f54 q17 = some (.inr (5, [.ref al_24, .ref ra_25, .int 0])) := (k56 _ (Ne.symm (z_nn uq18 a15))).trans a310
  have a312 : f57 q17 = some (.inr (5, [.ref al_24, .ref ra_25, .int 0])) := (k59 _ (Ne.symm (z_nn uq18 a15))).trans a311
  have a313 : f62 q17 = some (.inr (5, [.ref al_24, .ref ra_25, .int 0])) := (k64 _ (z_nn uq61 a312)).trans a312
  have a314 : f66 q17 = some (.inr (5, [.ref al_24, .ref ra_25, .int 0])) := (k68 _ (Ne.symm (z_nn uq18 a15))).trans a313
  have a315 : f69 q17 = some (.inr (5, [.ref al_24, .ref ra_25, .int 0])) := (k71 _ (Ne.symm (z_nn uq18 a15))).trans a314
  have a316 : f74 q17 = some (.inr (5, [.ref al_24, .ref ra_25, .int 0])) := (k76 _ (z_nn uq73 a315)).trans a315
  have a317 : f78 q17 = some (.inr (5, [.ref al_24, .ref ra_25, .int 0])) := (k80 _ (Ne.symm (z_nn uq18 a15))).trans a316
  have a318 : f83 q17 = some (.inr (5, [.ref al_24, .ref ra_25, .int 0])) := (k85 _ (z_nn uq82 a317)).trans a317
  have a319 : f86 q17 = some (.inr (5, [.ref al_24, .ref ra_25, .int 0])) := k94 _ _ a318 (z_nn uq82 a317)
  have a320 : f97 q17 = some (.inr (5, [.ref al_24, .ref ra_25, .int 0])) := (k99 _ (Ne.symm (z_nn uq18 a15))).trans a319
  have a321 : f100 q17 = some (.inr (5, [.ref al_24, .ref ra_25, .int 0])) := (k102 _ (Ne.symm (z_nn uq18 a15))).trans a320
  have a322 : f106 q17 = some (.inr (5, [.ref al_24, .ref ra_25, .int 0])) := (k108 _ (z_nn uq105 a321)).trans a321
  have a323 : f109 q17 = some (.inr (5, [.ref al_24, .ref ra_25, .int 0])) := k115 _ _ a322 (z_nn uq105 a321)
  have a324 : f123 q17 = some (.inr (5, [.ref al_24, .ref ra_25, .int 0])) := (k125 _ (z_nn uq73 a315)).trans a323
  have a325 : f132 q17 = some (.inr (5, [.ref al_24, .ref ra_25, .int 0])) := (k134 _ (z_nn uq131 a324)).trans a324
  have a326 : f135 q17 = some (.inr (5, [.ref al_24, .ref ra_25, .int 0])) := k141 _ _ a325 (z_nn uq131 a324)
  have a327 : f144 q17 = some (.inr (5, [.ref al_24, .ref ra_25, .int 0])) := (k146 _ (z_nn uq73 a315)).trans a326
  have a328 : f153 q17 = some (.inr (5, [.ref al_24, .ref ra_25, .int 0])) := (k155 _ (z_nn uq152 a327)).trans a327
  have a329 : f156 q17 = some (.inr (5, [.ref al_24, .ref ra_25, .int 0])) := k162 _ _ a328 (z_nn uq152 a327)
  have a330 : f165 q17 = some (.inr (5, [.ref al_24, .ref ra_25, .int 0])) := (k167 _ (z_nn uq73 a315)).trans a329
  have a331 : f174 q17 = some (.inr (5, [.ref al_24, .ref ra_25, .int 0])) := (k176 _ (z_nn uq173 a330)).trans a330
  have a332 : f177 q17 = some (.inr (5, [.ref al_24, .ref ra_25, .int 0])) := k183 _ _ a331 (z_nn uq173 a330)
  have a333 : f186 q17 = some (.inr (5, [.ref al_24, .ref ra_25, .int 0])) := (k188 _ (z_nn uq73 a315)).trans a332
  have a334 : f33 al_24 = some (.inl (cy 3, 60, .inr (.inr (.inr (.inr (fun _ => none)))))) := (k35 _ (z_ne a28 a32 rfl)).trans a28
  have a335 : f38 al_24 = some (.inl (cy 3, 60, .inr (.inr (.inr (.inr (fun _ => none)))))) := (k40 _ (z_nn uq37 a334)).trans a334
  have a336 : f42 al_24 = some (.inl (cy 3, 60, .inr (.inr (.inr (.inr (fun _ => none)))))) := (k44 _ (z_ne a335 a41 rfl)).trans a335
  have a337 : f45 al_24 = some (.inl (cy 3, 60, .inr (.inr (.inr (.inr (fun _ => none)))))) := (k47 _ (z_ne a336 a43 rfl)).trans a336
  have a338 : f50 al_24 = some (.inl (cy 3, 60, .inr (.inr (.inr (.inr (fun _ => none)))))) := (k52 _ (z_nn uq49 a337)).trans a337
  have a339 : f54 al_24 = some (.inl (cy 3, 60, .inr (.inr (.inr (.inr (fun _ => none)))))) := (k56 _ (z_ne a338 a53 rfl)).trans a338
  have a340 : f57 al_24 = some (.inl (cy 3, 60, .inr (.inr (.inr (.inr (fun _ => none)))))) := (k59 _ (z_ne a339 a55 rfl)).trans a339
  have a341 : f62 al_24 = some (.inl (cy 3, 60, .inr (.inr (.inr (.inr (fun _ => none)))))) := (k64 _ (z_nn uq61 a340)).trans a340
  have a342 : f66 al_24 = some (.inl (cy 3, 60, .inr (.inr (.inr (.inr (fun _ => none)))))) := (k68 _ (z_ne a341 a65 rfl)).trans a341
  have a343 : f69 al_24 = some (.inl (cy 3, 60, .inr (.inr (.inr (.inr (fun _ => none)))))) := (k71 _ (z_ne a342 a67 rfl)).trans a342
  have a344 : f74 al_24 = some (.inl (cy 3, 60, .inr (.inr (.inr (.inr (fun _ => none)))))) := (k76 _ (z_nn uq73 a343)).trans a343
  have a345 : f78 al_24 = some (.inl (cy 3, 60, .inr (.inr (.inr (.inr (fun _ => none)))))) := (k80 _ (z_ne a344 a77 rfl)).trans a344
  have a346 : f83 al_24 = some (.inl (cy 3, 60, .inr (.inr (.inr (.inr (fun _ => none)))))) := (k85 _ (z_nn uq82 a345)).trans a345
  have a347 : f86 al_24 = some (.inl (cy 3, 60, .inr (.inr (.inr (.inr (fun _ => none)))))) := k94 _ _ a346 (z_nn uq82 a345)
  have a348 : f97 al_24 = some (.inl (cy 3, 60, .inr (.inr (.inr (.inr (fun _ => none)))))) := (k99 _ (z_ne a347 a96 rfl)).trans a347
  have a349 : f100 al_24 = some (.inl (cy 3, 60, .inr (.inr (.inr (.inr (fun _ => none)))))) := (k102 _ (z_ne a348 a98 rfl)).trans a348
  have a350 : f106 al_24 = some (.inl (cy 3, 60, .inr (.inr (.inr (.inr (fun _ => none)))))) := (k108 _ (z_nn uq105 a349)).trans a349
  have a351 : f109 al_24 = some (.inl (cy 3, 60, .inr (.inr (.inr (.inr (fun _ => none)))))) := k115 _ _ a350 (z_nn uq105 a349)
  have a352 : f123 al_24 = some (.inl (cy 3, 60, .inr (.inr (.inr (.inr (fun _ => none)))))) := (k125 _ (z_nn uq73 a343)).trans a351
  have a353 : f132 al_24 = some (.inl (cy 3, 60, .inr (.inr (.inr (.inr (fun _ => none)))))) := (k134 _ (z_nn uq131 a352)).trans a352
  have a354 : f135 al_24 = some (.inl (cy 3, 60, .inr (.inr (.inr (.inr (fun _ => none)))))) := k141 _ _ a353 (z_nn uq131 a352)
  have a355 : f144 al_24 = some (.inl (cy 3, 60, .inr (.inr (.inr (.inr (fun _ => none)))))) := (k146 _ (z_nn uq73 a343)).trans a354
  have a356 : f153 al_24 = some (.inl (cy 3, 60, .inr (.inr (.inr (.inr (fun _ => none)))))) := (k155 _ (z_nn uq152 a355)).trans a355
  have a357 : f156 al_24 = some (.inl (cy 3, 60, .inr (.inr (.inr (.inr (fun _ => none)))))) := k162 _ _ a356 (z_nn uq152 a355)
  have a358 : f165 al_24 = some (.inl (cy 3, 60, .inr (.inr (.inr (.inr (fun _ => none)))))) := (k167 _ (z_nn uq73 a343)).trans a357
  have a359 : f174 al_24 = some (.inl (cy 3, 60, .inr (.inr (.inr (.inr (fun _ => none)))))) := (k176 _ (z_nn uq173 a358)).trans a358
  have a360 : f177 al_24 = some (.inl (cy 3, 60, .inr (.inr (.inr (.inr (fun _ => none)))))) := k183 _ _ a359 (z_nn uq173 a358)
  have a361 : f186 al_24 = some (.inl (cy 3, 60, .inr (.inr (.inr (.inr (fun _ => none)))))) := (k188 _ (z_nn uq73 a343)).trans a360
  have a362 : f33 ra_25 = some (.inl (cy 3, 60, .inr (.inr (.inr (.inr (fun _ => none)))))) := (k35 _ (z_ne a29 a32 rfl)).trans a29
  have a363 : f38 ra_25 = some (.inl (cy 3, 60, .inr (.inr (.inr (.inr (fun _ => none)))))) := (k40 _ (z_nn uq37 a362)).trans a362
  have a364 : f42 ra_25 = some (.inl (cy 3, 60, .inr (.inr (.inr (.inr (fun _ => none)))))) := (k44 _ (z_ne a363 a41 rfl)).trans a363
  have a365 : f45 ra_25 = some (.inl (cy 3, 60, .inr (.inr (.inr (.inr (fun _ => none)))))) := (k47 _ (z_ne a364 a43 rfl)).trans a364
  have a366 : f50 ra_25 = some (.inl (cy 3, 60, .inr (.inr (.inr (.inr (fun _ => none)))))) := (k52 _ (z_nn uq49 a365)).trans a365
  have a367 : f54 ra_25 = some (.inl (cy 3, 60, .inr (.inr (.inr (.inr (fun _ => none)))))) := (k56 _ (z_ne a366 a53 rfl)).trans a366
  have a368 : f57 ra_25 = some (.inl (cy 3, 60, .inr (.inr (.inr (.inr (fun _ => none)))))) := (k59 _ (z_ne a367 a55 rfl)).trans a367
  have a369 : f62 ra_25 = some (.inl (cy 3, 60, .inr (.inr (.inr (.inr (fun _ => none)))))) := (k64 _ (z_nn uq61 a368)).trans a368
  have a370 : f66 ra_25 = some (.inl (cy 3, 60, .inr (.inr (.inr (.inr (fun _ => none)))))) := (k68 _ (z_ne a369 a65 rfl)).trans a369
  have a371 : f69 ra_25 = some (.inl (cy 3, 60, .inr (.inr (.inr (.inr (fun _ => none)))))) := (k71 _ (z_ne a370 a67 rfl)).trans a370
  have a372 : f74 ra_25 = some (.inl (cy 3, 60, .inr (.inr (.inr (.inr (fun _ => none)))))) := (k76 _ (z_nn uq73 a371)).trans a371
  have a373 : f78 ra_25 = some (.inl (cy 3, 60, .inr (.inr (.inr (.inr (fun _ => none)))))) := (k80 _ (z_ne a372 a77 rfl)).trans a372
  have a374 : f83 ra_25 = some (.inl (cy 3, 60, .inr (.inr (.inr (.inr (fun _ => none)))))) := (k85 _ (z_nn uq82 a373)).trans a373
  have a375 : f86 ra_25 = some (.inl (cy 3, 60, .inr (.inr (.inr (.inr (fun _ => none)))))) := k94 _ _ a374 (z_nn uq82 a373)
  have a376 : f97 ra_25 = some (.inl (cy 3, 60, .inr (.inr (.inr (.inr (fun _ => none)))))) := (k99 _ (z_ne a375 a96 rfl)).trans a375
  have a377 : f100 ra_25 = some (.inl (cy 3, 60, .inr (.inr (.inr (.inr (fun _ => none)))))) := (k102 _ (z_ne a376 a98 rfl)).trans a376
  have a378 : f106 ra_25 = some (.inl (cy 3, 60, .inr (.inr (.inr (.inr (fun _ => none)))))) := (k108 _ (z_nn uq105 a377)).trans a377
  have a379 : f109 ra_25 = some (.inl (cy 3, 60, .inr (.inr (.inr (.inr (fun _ => none)))))) := k115 _ _ a378 (z_nn uq105 a377)
  have a380 : f123 ra_25 = some (.inl (cy 3, 60, .inr (.inr (.inr (.inr (fun _ => none)))))) := (k125 _ (z_nn uq73 a371)).trans a379
  have a381 : f132 ra_25 = some (.inl (cy 3, 60, .inr (.inr (.inr (.inr (fun _ => none)))))) := (k134 _ (z_nn uq131 a380)).trans a380
  have a382 : f135 ra_25 = some (.inl (cy 3, 60, .inr (.inr (.inr (.inr (fun _ => none)))))) := k141 _ _ a381 (z_nn uq131 a380)
  have a383 : f144 ra_25 = some (.inl (cy 3, 60, .inr (.inr (.inr (.inr (fun _ => none)))))) := (k146 _ (z_nn uq73 a371)).trans a382
  have a384 : f153 ra_25 = some (.inl (cy 3, 60, .inr (.inr (.inr (.inr (fun _ => none)))))) := (k155 _ (z_nn uq152 a383)).trans a383
  have a385 : f156 ra_25 = some (.inl (cy 3, 60, .inr (.inr (.inr (.inr (fun _ => none)))))) := k162 _ _ a384 (z_nn uq152 a383)
  have a386 : f165 ra_25 = some (.inl (cy 3, 60, .inr (.inr (.inr (.inr (fun _ => none)))))) := (k167 _ (z_nn uq73 a371)).trans a385
  have a387 : f174 ra_25 = some (.inl (cy 3, 60, .inr (.inr (.inr (.inr (fun _ => none)))))) := (k176 _ (z_nn uq173 a386)).trans a386
  have a388 : f177 ra_25 = some (.inl (cy 3, 60, .inr (.inr (.inr (.inr (fun _ => none)))))) := k183 _ _ a387 (z_nn uq173 a386)
  have a389 : f186 ra_25 = some (.inl (cy 3, 60, .inr (.inr (.inr (.inr (fun _ => none)))))) := (k188 _ (z_nn uq73 a371)).trans a388
  have a390 : f42 q36 = some (.inl (cy 0, 12, .inl (fun _ => 0))) := (k44 _ (Ne.symm (z_nn uq37 a34))).trans a39
  have a391 : f45 q36 = some (.inl (cy 0, 12, .inl (fun _ => 0))) := (k47 _ (Ne.symm (z_nn uq37 a34))).trans a390
  have a392 : f50 q36 = some (.inl (cy 0, 12, .inl (fun _ => 0))) := (k52 _ (z_nn uq49 a391)).trans a391
  have a393 : f54 q36 = some (.inl (cy 0, 12, .inl (fun _ => 0))) := (k56 _ (Ne.symm (z_nn uq37 a34))).trans a392
  have a394 : f57 q36 = some (.inl (cy 0, 12, .inl (fun _ => 0))) := (k59 _ (Ne.symm (z_nn uq37 a34))).trans a393
  have a395 : f62 q36 = some (.inl (cy 0, 12, .inl (fun _ => 0))) := (k64 _ (z_nn uq61 a394)).trans a394
  have a396 : f66 q36 = some (.inl (cy 0, 12, .inl (fun _ => 0))) := (k68 _ (Ne.symm (z_nn uq37 a34))).trans a395
  have a397 : f69 q36 = some (.inl (cy 0, 12, .inl (fun _ => 0))) := (k71 _ (Ne.symm (z_nn uq37 a34))).trans a396
  have a398 : f74 q36 = some (.inl (cy 0, 12, .inl (fun _ => 0))) := (k76 _ (z_nn uq73 a397)).trans a397
  have a399 : f78 q36 = some (.inl (cy 0, 12, .inl (fun _ => 0))) := (k80 _ (Ne.symm (z_nn uq37 a34))).trans a398
  have a400 : f83 q36 = some (.inl (cy 0, 12, .inl (fun _ => 0))) := (k85 _ (z_nn uq82 a399)).trans a399
  have a401 : f86 q36 = some (.inl (cy 0, 12, .inl (fun _ => 0))) := k94 _ _ a400 (z_nn uq82 a399)
  have a402 : f97 q36 = some (.inl (cy 0, 12, .inl (fun _ => 0))) := (k99 _ (Ne.symm (z_nn uq37 a34))).trans a401
  have a403 : f100 q36 = some (.inl (cy 0, 12, .inl (fun _ => 0))) := (k102 _ (Ne.symm (z_nn uq37 a34))).trans a402
  have a404 : f106 q36 = some (.inl (cy 0, 12, .inl (fun _ => 0))) := (k108 _ (z_nn uq105 a403)).trans a403
  have a405 : f109 q36 = some (.inl (cy 0, 12, .inl (fun _ => 0))) := k115 _ _ a404 (z_nn uq105 a403)
  have a406 : f123 q36 = some (.inl (cy 0, 12, .inl (fun _ => 0))) := (k125 _ (z_nn uq73 a397)).trans a405
  have a407 : f132 q36 = some (.inl (cy 0, 12, .inl (fun _ => 0))) := (k134 _ (z_nn uq131 a406)).trans a406
  have a408 : f135 q36 = some (.inl (cy 0, 12, .inl (fun _ => 0))) := k141 _ _ a407 (z_nn uq131 a406)
  have a409 : f144 q36 = some (.inl (cy 0, 12, .inl (fun _ => 0))) := (k146 _ (z_nn uq73 a397)).trans a408
  have a410 : f153 q36 = some (.inl (cy 0, 12, .inl (fun _ => 0))) := (k155 _ (z_nn uq152 a409)).trans a409
  have a411 : f156 q36 = some (.inl (cy 0, 12, .inl (fun _ => 0))) := k162 _ _ a410 (z_nn uq152 a409)
  have a412 : f165 q36 = some (.inl (cy 0, 12, .inl (fun _ => 0))) := (k167 _ (z_nn uq73 a397)).trans a411
  have a413 : f174 q36 = some (.inl (cy 0, 12, .inl (fun _ => 0))) := (k176 _ (z_nn uq173 a412)).trans a412
  have a414 : f177 q36 = some (.inl (cy 0, 12, .inl (fun _ => 0))) := k183 _ _ a413 (z_nn uq173 a412)
  have a415 : f186 q36 = some (.inl (cy 0, 12, .inl (fun _ => 0))) := (k188 _ (z_nn uq73 a397)).trans a414
  have a416 : f54 q48 = some (.inl (cy 4, 6, .inr (.inr (.inr (.inr (fun _ => none)))))) := (k56 _ (Ne.symm (z_nn uq49 a46))).trans a51
  have a417 : f57 q48 = some (.inl (cy 4, 6, .inr (.inr (.inr (.inr (fun _ => none)))))) := (k59 _ (Ne.symm (z_nn uq49 a46))).trans a416
  have a418 : f62 q48 = some (.inl (cy 4, 6, .inr (.inr (.inr (.inr (fun _ => none)))))) := (k64 _ (z_nn uq61 a417)).trans a417
  have a419 : f66 q48 = some (.inl (cy 4, 6, .inr (.inr (.inr (.inr (fun _ => none)))))) := (k68 _ (Ne.symm (z_nn uq49 a46))).trans a418
  have a420 : f69 q48 = some (.inl (cy 4, 6, .inr (.inr (.inr (.inr (fun _ => none)))))) := (k71 _ (Ne.symm (z_nn uq49 a46))).trans a419
  have a421 : f74 q48 = some (.inl (cy 4, 6, .inr (.inr (.inr (.inr (fun _ => none)))))) := (k76 _ (z_nn uq73 a420)).trans a420
  have a422 : f78 q48 = some (.inl (cy 4, 6, .inr (.inr (.inr (.inr (fun _ => none)))))) := (k80 _ (Ne.symm (z_nn uq49 a46))).trans a421
  have a423 : f83 q48 = some (.inl (cy 4, 6, .inr (.inr (.inr (.inr (fun _ => none)))))) := (k85 _ (z_nn uq82 a422)).trans a422
  have a424 : f86 q48 = some (.inl (cy 4, 6, .inr (.inr (.inr (.inr (fun _ => none)))))) := k94 _ _ a423 (z_nn uq82 a422)
  have a425 : f97 q48 = some (.inl (cy 4, 6, .inr (.inr (.inr (.inr (fun _ => none)))))) := (k99 _ (Ne.symm (z_nn uq49 a46))).trans a424
  have a426 : f100 q48 = some (.inl (cy 4, 6, .inr (.inr (.inr (.inr (fun _ => none)))))) := (k102 _ (Ne.symm (z_nn uq49 a46))).trans a425
  have a427 : f106 q48 = some (.inl (cy 4, 6, .inr (.inr (.inr (.inr (fun _ => none)))))) := (k108 _ (z_nn uq105 a426)).trans a426
  have a428 : f109 q48 = some (.inl (cy 4, 6, .inr (.inr (.inr (.inr (fun _ => none)))))) := k115 _ _ a427 (z_nn uq105 a426)
  have a429 : f123 q48 = some (.inl (cy 4, 6, .inr (.inr (.inr (.inr (fun _ => none)))))) := (k125 _ (z_nn uq73 a420)).trans a428
  have a430 : f132 q48 = some (.inl (cy 4, 6, .inr (.inr (.inr (.inr (fun _ => none)))))) := (k134 _ (z_nn uq131 a429)).trans a429
  have a431 : f135 q48 = some (.inl (cy 4, 6, .inr (.inr (.inr (.inr (fun _ => none)))))) := k141 _ _ a430 (z_nn uq131 a429)
  have a432 : f144 q48 = some (.inl (cy 4, 6, .inr (.inr (.inr (.inr (fun _ => none)))))) := (k146 _ (z_nn uq73 a420)).trans a431
  have a433 : f153 q48 = some (.inl (cy 4, 6, .inr (.inr (.inr (.inr (fun _ => none)))))) := (k155 _ (z_nn uq152 a432)).trans a432
  have a434 : f156 q48 = some (.inl (cy 4, 6, .inr (.inr (.inr (.inr (fun _ => none)))))) := k162 _ _ a433 (z_nn uq152 a432)
  have a435 : f165 q48 = some (.inl (cy 4, 6, .inr (.inr (.inr (.inr (fun _ => none)))))) := (k167 _ (z_nn uq73 a420)).trans a434
  have a436 : f174 q48 = some (.inl (cy 4, 6, .inr (.inr (.inr (.inr (fun _ => none)))))) := (k176 _ (z_nn uq173 a435)).trans a435
  have a437 : f177 q48 = some (.inl (cy 4, 6, .inr (.inr (.inr (.inr (fun _ => none)))))) := k183 _ _ a436 (z_nn uq173 a435)
  have a438 : f186 q48 = some (.inl (cy 4, 6, .inr (.inr (.inr (.inr (fun _ => none)))))) := (k188 _ (z_nn uq73 a420)).trans a437
  have a439 : f66 q60 = some (.inl (cy 5, 60, .inr (.inr (.inr (.inr (fun _ => none)))))) := (k68 _ (Ne.symm (z_nn uq61 a58))).trans a63
  have a440 : f69 q60 = some (.inl (cy 5, 60, .inr (.inr (.inr (.inr (fun _ => none)))))) := (k71 _ (Ne.symm (z_nn uq61 a58))).trans a439
  have a441 : f74 q60 = some (.inl (cy 5, 60, .inr (.inr (.inr (.inr (fun _ => none)))))) := (k76 _ (z_nn uq73 a440)).trans a440
  have a442 : f78 q60 = some (.inl (cy 5, 60, .inr (.inr (.inr (.inr (fun _ => none)))))) := (k80 _ (Ne.symm (z_nn uq61 a58))).trans a441
  have a443 : f83 q60 = some (.inl (cy 5, 60, .inr (.inr (.inr (.inr (fun _ => none)))))) := (k85 _ (z_nn uq82 a442)).trans a442
  have a444 : f86 q60 = some (.inl (cy 5, 60, .inr (.inr (.inr (.inr (fun _ => none)))))) := k94 _ _ a443 (z_nn uq82 a442)
  have a445 : f97 q60 = some (.inl (cy 5, 60, .inr (.inr (.inr (.inr (fun _ => none)))))) := (k99 _ (Ne.symm (z_nn uq61 a58))).trans a444
  have a446 : f100 q60 = some (.inl (cy 5, 60, .inr (.inr (.inr (.inr (fun _ => none)))))) := (k102 _ (Ne.symm (z_nn uq61 a58))).trans a445
  have a447 : f106 q60 = some (.inl (cy 5, 60, .inr (.inr (.inr (.inr (fun _ => none)))))) := (k108 _ (z_nn uq105 a446)).trans a446
  have a448 : f109 q60 = some (.inl (cy 5, 60, .inr (.inr (.inr (.inr (fun _ => none)))))) := k115 _ _ a447 (z_nn uq105 a446)
  have a449 : f123 q60 = some (.inl (cy 5, 60, .inr (.inr (.inr (.inr (fun _ => none)))))) := (k125 _ (z_nn uq73 a440)).trans a448
  have a450 : f132 q60 = some (.inl (cy 5, 60, .inr (.inr (.inr (.inr (fun _ => none)))))) := (k134 _ (z_nn uq131 a449)).trans a449
  have a451 : f135 q60 = some (.inl (cy 5, 60, .inr (.inr (.inr (.inr (fun _ => none)))))) := k141 _ _ a450 (z_nn uq131 a449)
  have a452 : f144 q60 = some (.inl (cy 5, 60, .inr (.inr (.inr (.inr (fun _ => none)))))) := (k146 _ (z_nn uq73 a440)).trans a451
  have a453 : f153 q60 = some (.inl (cy 5, 60, .inr (.inr (.inr (.inr (fun _ => none)))))) := (k155 _ (z_nn uq152 a452)).trans a452
  have a454 : f156 q60 = some (.inl (cy 5, 60, .inr (.inr (.inr (.inr (fun _ => none)))))) := k162 _ _ a453 (z_nn uq152 a452)
  have a455 : f165 q60 = some (.inl (cy 5, 60, .inr (.inr (.inr (.inr (fun _ => none)))))) := (k167 _ (z_nn uq73 a440)).trans a454
  have a456 : f174 q60 = some (.inl (cy 5, 60, .inr (.inr (.inr (.inr (fun _ => none)))))) := (k176 _ (z_nn uq173 a455)).trans a455
  have a457 : f177 q60 = some (.inl (cy 5, 60, .inr (.inr (.inr (.inr (fun _ => none)))))) := k183 _ _ a456 (z_nn uq173 a455)
  have a458 : f186 q60 = some (.inl (cy 5, 60, .inr (.inr (.inr (.inr (fun _ => none)))))) := (k188 _ (z_nn uq73 a440)).trans a457
  have a459 : f97 q81 = some (.inr (6, [.ref kn_88, .ref vq_89, .int 0])) := (k99 _ (Ne.symm (z_nn uq82 a79))).trans a91
  have a460 : f100 q81 = some (.inr (6, [.ref kn_88, .ref vq_89, .int 0])) := (k102 _ (Ne.symm (z_nn uq82 a79))).trans a459
  have a461 : f106 q81 = some (.inr (6, [.ref kn_88, .ref vq_89, .int 0])) := (k108 _ (z_nn uq105 a460)).trans a460
  have a462 : f109 q81 = some (.inr (6, [.ref kn_88, .ref vq_89, .int 0])) := k115 _ _ a461 (z_nn uq105 a460)
  have a463 : f123 q81 = some (.inr (6, [.ref kn_88, .ref vq_89, .int 0])) := (k125 _ (Ne.symm (z_nn uq82 a116))).trans a462
  have a464 : f132 q81 = some (.inr (6, [.ref kn_88, .ref vq_89, .int 0])) := (k134 _ (z_nn uq131 a463)).trans a463
  have a465 : f135 q81 = some (.inr (6, [.ref kn_88, .ref vq_89, .int 0])) := k141 _ _ a464 (z_nn uq131 a463)
  have a466 : f144 q81 = some (.inr (6, [.ref kn_88, .ref vq_89, .int 0])) := (k146 _ (Ne.symm (z_nn uq82 a116))).trans a465
  have a467 : f153 q81 = some (.inr (6, [.ref kn_88, .ref vq_89, .int 0])) := (k155 _ (z_nn uq152 a466)).trans a466
  have a468 : f156 q81 = some (.inr (6, [.ref kn_88, .ref vq_89, .int 0])) := k162 _ _ a467 (z_nn uq152 a466)
  have a469 : f165 q81 = some (.inr (6, [.ref kn_88, .ref vq_89, .int 0])) := (k167 _ (Ne.symm (z_nn uq82 a116))).trans a468
  have a470 : f174 q81 = some (.inr (6, [.ref kn_88, .ref vq_89, .int 0])) := (k176 _ (z_nn uq173 a469)).trans a469
  have a471 : f177 q81 = some (.inr (6, [.ref kn_88, .ref vq_89, .int 0])) := k183 _ _ a470 (z_nn uq173 a469)
  have a472 : f186 q81 = some (.inr (6, [.ref kn_88, .ref vq_89, .int 0])) := (k188 _ (Ne.symm (z_nn uq82 a116))).trans a471
  have a473 : f97 kn_88 = some (.inl (cy 0, 40, .inl (fun _ => 0))) := (k99 _ (z_ne a92 a96 rfl)).trans a92
  have a474 : f100 kn_88 = some (.inl (cy 0, 40, .inl (fun _ => 0))) := (k102 _ (z_ne a473 a98 rfl)).trans a473
  have a475 : f106 kn_88 = some (.inl (cy 0, 40, .inl (fun _ => 0))) := (k108 _ (z_nn uq105 a474)).trans a474
  have a476 : f109 kn_88 = some (.inl (cy 0, 40, .inl (fun _ => 0))) := k115 _ _ a475 (z_nn uq105 a474)
  have a477 : f123 kn_88 = some (.inl (cy 0, 40, .inl (fun _ => 0))) := (k125 _ (z_ne a476 a122 rfl)).trans a476
  have a478 : f132 kn_88 = some (.inl (cy 0, 40, .inl (fun _ => 0))) := (k134 _ (z_nn uq131 a477)).trans a477
  have a479 : f135 kn_88 = some (.inl (cy 0, 40, .inl (fun _ => 0))) := k141 _ _ a478 (z_nn uq131 a477)
  have a480 : f144 kn_88 = some (.inl (cy 0, 40, .inl (fun _ => 0))) := (k146 _ (z_ne a479 a143 rfl)).trans a479
  have a481 : f153 kn_88 = some (.inl (cy 0, 40, .inl (fun _ => 0))) := (k155 _ (z_nn uq152 a480)).trans a480
  have a482 : f156 kn_88 = some (.inl (cy 0, 40, .inl (fun _ => 0))) := k162 _ _ a481 (z_nn uq152 a480)
  have a483 : f165 kn_88 = some (.inl (cy 0, 40, .inl (fun _ => 0))) := (k167 _ (z_ne a482 a164 rfl)).trans a482
  have a484 : f174 kn_88 = some (.inl (cy 0, 40, .inl (fun _ => 0))) := (k176 _ (z_nn uq173 a483)).trans a483
  have a485 : f177 kn_88 = some (.inl (cy 0, 40, .inl (fun _ => 0))) := k183 _ _ a484 (z_nn uq173 a483)
  have a486 : f186 kn_88 = some (.inl (cy 0, 40, .inl (fun _ => 0))) := (k188 _ (z_ne a485 a185 rfl)).trans a485
  have a487 : f97 vq_89 = some (.inl (cy 0, 40, .inl (fun _ => 0))) := (k99 _ (z_ne a93 a96 rfl)).trans a93
  have a488 : f100 vq_89 = some (.inl (cy 0, 40, .inl (fun _ => 0))) := (k102 _ (z_ne a487 a98 rfl)).trans a487
  have a489 : f106 vq_89 = some (.inl (cy 0, 40, .inl (fun _ => 0))) := (k108 _ (z_nn uq105 a488)).trans a488
  have a490 : f109 vq_89 = some (.inl (cy 0, 40, .inl (fun _ => 0))) := k115 _ _ a489 (z_nn uq105 a488)
  have a491 : f123 vq_89 = some (.inl (cy 0, 40, .inl (fun _ => 0))) := (k125 _ (z_ne a490 a122 rfl)).trans a490
  have a492 : f132 vq_89 = some (.inl (cy 0, 40, .inl (fun _ => 0))) := (k134 _ (z_nn uq131 a491)).trans a491
  have a493 : f135 vq_89 = some (.inl (cy 0, 40, .inl (fun _ => 0))) := k141 _ _ a492 (z_nn uq131 a491)
  have a494 : f144 vq_89 = some (.inl (cy 0, 40, .inl (fun _ => 0))) := (k146 _ (z_ne a493 a143 rfl)).trans a493
  have a495 : f153 vq_89 = some (.inl (cy 0, 40, .inl (fun _ => 0))) := (k155 _ (z_nn uq152 a494)).trans a494
  have a496 : f156 vq_89 = some (.inl (cy 0, 40, .inl (fun _ => 0))) := k162 _ _ a495 (z_nn uq152 a494)
  have a497 : f165 vq_89 = some (.inl (cy 0, 40, .inl (fun _ => 0))) := (k167 _ (z_ne a496 a164 rfl)).trans a496
  have a498 : f174 vq_89 = some (.inl (cy 0, 40, .inl (fun _ => 0))) := (k176 _ (z_nn uq173 a497)).trans a497
  have a499 : f177 vq_89 = some (.inl (cy 0, 40, .inl (fun _ => 0))) := k183 _ _ a498 (z_nn uq173 a497)
  have a500 : f186 vq_89 = some (.inl (cy 0, 40, .inl (fun _ => 0))) := (k188 _ (z_ne a499 a185 rfl)).trans a499
  exact z_vret C hr hz hS ⟨q1, q17, q36, q48, q60, q72, q81, ev_8, al_24, ra_25, kn_88, vq_89, (va_up (va_up (va_up (va_up (fun _ => none) 0 (some q104)) 1 (some q130)) 2 (some q151)) 3 (some q172)), (fun j9 => if j9 = 0 then q104 else if j9 = 1 then q130 else if j9 = 2 then q151 else q172), (fun j9 => if j9 = 0 then mm_111 else if j9 = 1 then mm_137 else if j9 = 2 then mm_158 else mm_179), 0, (-1), 0, (fun _ => 0), 0, (fun _ => 0), 0, (fun _ => none), (fun _ => none), (fun _ => 0), (fun _ => 0), (fun _ => 0), (fun _ => 0), (fun _ _ => 0), (fun _ => 0), (fun _ => 0), (fun _ => 0), (fun _ => 0), 0, (fun _ => none), (fun _ => 0), (fun _ => 0), (fun _ => 0), (fun _ _ => 0), 0, (fun _ => none), (fun _ => 0), (fun _ => 0), (fun _ => 0), (fun _ => 0), (fun _ _ => 0), 0, (fun _ => 0), (fun _ => 0), 1, rfl, rfl, rfl, rfl, rfl, rfl, rfl, rfl, rfl, rfl, rfl, rfl, rfl, rfl, rfl, rfl, rfl, rfl, rfl, rfl, ⟨a243, a274, a305, a333, a361, a389, a415, a438, a458, a187, a472, a486, a500, F190, F191, F192, F193, F194, F195, F218, (by omega), (by omega), (by omega), (by omega), (by omega), (fun i9 h9 => absurd h9 (Nat.not_lt_zero _)), (fun i9 h9 => absurd h9 (Nat.not_lt_zero _)), (fun i9 h9 => absurd h9 (Nat.not_lt_zero _)), (fun i9 h9 => absurd h9 (Nat.not_lt_zero _)), (fun i9 h9 => absurd h9 (Nat.not_lt_zero _)), (fun i9 h9 => absurd h9 (Nat.not_lt_zero _)), (fun i9 h9 => absurd h9 (Nat.not_lt_zero _)), p26, (fun i9 h9 => absurd h9 (Nat.not_lt_zero _)), (fun i9 h9 => absurd h9 (Nat.not_lt_zero _)), (fun i9 h9 => absurd h9 (Nat.not_lt_zero _)), (fun j hj => by rcases (show j = 0 ∨ j = 1 ∨ j = 2 ∨ j = 3 by omega) with rfl | rfl | rfl | rfl <;> rfl), (fun j hj => Nat.zero_le _), (z_inj4 (z_nn uq131 a196) (z_nn uq152 a199) (z_nn uq173 a202) (z_nn uq152 a206) (z_nn uq173 a209) (z_nn uq173 a213)), (z_inj4 (z_nn p138 a220) (z_nn p159 a223) (z_nn p180 a226) (z_nn p159 a230) (z_nn p180 a233) (z_nn p180 a237)), p90, (Ne.symm (z_nn uq61 a340)), (Ne.symm (z_nn uq61 a368)), ⟨1, by decide, rfl⟩⟩, (by
        intro b e hb n0
        have nn0 : b ≠ q1 := z_nn uq2 hb
        have hb0 : f3 b = some e := (k5 b nn0).trans hb
        have hb1 : f6 b = some e := k11 b e hb0 nn0
        have hb2 : f14 b = some e := (k16 b n0).trans hb1
        have nn3 : b ≠ q17 := z_nn uq18 hb2
        have hb3 : f19 b = some e := (k21 b nn3).trans hb2
        have hb4 : f22 b = some e := k30 b e hb3 nn3
        have hb5 : f33 b = some e := (k35 b n0).trans hb4
        have nn6 : b ≠ q36 := z_nn uq37 hb5
        have hb6 : f38 b = some e := (k40 b nn6).trans hb5
        have hb7 : f42 b = some e := (k44 b n0).trans hb6
        have hb8 : f45 b = some e := (k47 b n0).trans hb7
        have nn9 : b ≠ q48 := z_nn uq49 hb8
        have hb9 : f50 b = some e := (k52 b nn9).trans hb8
        have hb10 : f54 b = some e := (k56 b n0).trans hb9
        have hb11 : f57 b = some e := (k59 b n0).trans hb10
        have nn12 : b ≠ q60 := z_nn uq61 hb11
        have hb12 : f62 b = some e := (k64 b nn12).trans hb11
        have hb13 : f66 b = some e := (k68 b n0).trans hb12
        have hb14 : f69 b = some e := (k71 b n0).trans hb13
        have nn15 : b ≠ q72 := z_nn uq73 hb14
        have hb15 : f74 b = some e := (k76 b nn15).trans hb14
        have hb16 : f78 b = some e := (k80 b n0).trans hb15
        have nn17 : b ≠ q81 := z_nn uq82 hb16
        have hb17 : f83 b = some e := (k85 b nn17).trans hb16
        have hb18 : f86 b = some e := k94 b e hb17 nn17
        have hb19 : f97 b = some e := (k99 b n0).trans hb18
        have hb20 : f100 b = some e := (k102 b n0).trans hb19
        have nn21 : b ≠ q104 := z_nn uq105 hb20
        have hb21 : f106 b = some e := (k108 b nn21).trans hb20
        have hb22 : f109 b = some e := k115 b e hb21 nn21
        have hb23 : f123 b = some e := (k125 b nn15).trans hb22
        have nn24 : b ≠ q130 := z_nn uq131 hb23
        have hb24 : f132 b = some e := (k134 b nn24).trans hb23
        have hb25 : f135 b = some e := k141 b e hb24 nn24
        have hb26 : f144 b = some e := (k146 b nn15).trans hb25
        have nn27 : b ≠ q151 := z_nn uq152 hb26
        have hb27 : f153 b = some e := (k155 b nn27).trans hb26
        have hb28 : f156 b = some e := k162 b e hb27 nn27
        have hb29 : f165 b = some e := (k167 b nn15).trans hb28
        have nn30 : b ≠ q172 := z_nn uq173 hb29
        have hb30 : f174 b = some e := (k176 b nn30).trans hb29
        have hb31 : f177 b = some e := k183 b e hb30 nn30
        have hb32 : f186 b = some e := (k188 b nn15).trans hb31
        exact hb32)⟩ (Nat.le_of_ble_eq_true rfl) (Nat.le_of_ble_eq_true rfl) dX7_init_117
