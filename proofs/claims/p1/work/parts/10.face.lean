abbrev rmX7_family : Room := { frames := 2, cells := 3, slots := 10, locals := 34 }
set_option maxHeartbeats 4000000 in
set_option maxRecDepth 100000 in
theorem k_X7_family (l : Launch) (D : va_G) (cy : Nat → ClassId) (f : zM) (o : Nat) (fa : Nat) (fi : Nat) (nu : Nat) (fm : Nat) (co : Nat) (en : Nat) (ke : Nat) (x : Int32) (y : Int32) (z : Int32) (v : Int32) (gf : Nat → Option Nat) (p0 : f o = some (.inr (7, [.ref fa, .ref fi, .ref nu, .int 0, .ref fm, .int 0, .ref co, .int 0, .ref en, .ref ke, .long 1]))) (p1 : f fm = some (.inl (cy 4, 6, .inr (.inr (.inr (.inr gf))))))  : zCi l D cy yX7_family cX7_family 6 (Option.some Jvm.ClassFile.FieldType.int) rmX7_family [.ref o, .int x, .int y, .int z, .int v] f (fun (r : Int32) (f1 : zM) => r = (if (zks (upd (upd (upd (upd (fun _ => 0) 0 x) 1 y) 2 z) 3 v) 4).isSome = true then 0 else (-2)) ∧ (∀ (b : Nat) (e : va_E), f b = some e → b ≠ o → b ≠ fm → f1 b = some e)) := by
  intro sz
  refine z_body (by decide +kernel) (Nat.le_of_ble_eq_true rfl) ?_
  intro p e s m below meth c ls C hr hin hsz hz hl
  subst hsz
  have hx := C.1
  have hb := C.2.1
  have hA : ∀ q, s.heap.size ≤ q → zA f s.heap.size q := fun q h => Or.inr h
  have hS : va_S (zA f s.heap.size) s.heap s.heap [] := va_S.rf
  have hl : lv_has ls 6 [(0, .ref o), (1, .int x), (2, .int y), (3, .int z), (4, .int v)] := hl
  by_cases hk : (zks (upd (upd (upd (upd (fun _ => 0) 0 x) 1 y) 2 z) 3 v) 4).isSome = true
  · refine lv_iconst (v := 4) hx hb dX7_family_0 (by decide) ?_
    refine z_newa (atype := .int) (t0 := 0) (N' := 4) (x := (.inl (fun _ => 0))) C hz hS hA rfl mA_int rfl (fun _ => rfl) (by decide) (Nat.le_of_ble_eq_true rfl) (by decide) (Nat.le_of_ble_eq_true rfl) (Nat.le_of_ble_eq_true rfl) dX7_family_1 (fun q1 H f3 u2 a4 k5 hz hS => ?_)
    refine lv_dup hx hb dX7_family_3 rfl ?_
    refine lv_iconst (v := 0) hx hb dX7_family_4 (by decide) ?_
    refine lv_iload_n hx hb dX7_family_5 rfl (lv_at hl 1 rfl) ?_
    refine z_iast 0 C hz hS a4 (by decide) (Nat.le_of_ble_eq_true rfl) (by omega) dX7_family_6 (fun H locs f6 a7 k8 hz hS => ?_)
    refine lv_dup hx hb dX7_family_7 rfl ?_
    refine lv_iconst (v := 1) hx hb dX7_family_8 (by decide) ?_
    refine lv_iload_n hx hb dX7_family_9 rfl (lv_at hl 2 rfl) ?_
    refine z_iast 1 C hz hS a7 (by decide) (Nat.le_of_ble_eq_true rfl) (by omega) dX7_family_10 (fun H locs f9 a10 k11 hz hS => ?_)
    refine lv_dup hx hb dX7_family_11 rfl ?_
    refine lv_iconst (v := 2) hx hb dX7_family_12 (by decide) ?_
    refine lv_iload_n hx hb dX7_family_13 rfl (lv_at hl 3 rfl) ?_
    refine z_iast 2 C hz hS a10 (by decide) (Nat.le_of_ble_eq_true rfl) (by omega) dX7_family_14 (fun H locs f12 a13 k14 hz hS => ?_)
    refine lv_dup hx hb dX7_family_15 rfl ?_
    refine lv_iconst (v := 3) hx hb dX7_family_16 (by decide) ?_
    refine lv_iload hx hb dX7_family_17 (lv_at hl 4 rfl) ?_
    refine z_iast 3 C hz hS a13 (by decide) (Nat.le_of_ble_eq_true rfl) (by omega) dX7_family_19 (fun H locs f15 a16 k17 hz hS => ?_)
    refine lv_astore (lv' := [(5, .ref q1), (0, .ref o), (1, .int x), (2, .int y), (3, .int z), (4, .int v)]) hx hb dX7_family_20 hl (by decide) rfl (fun ls hl => ?_)
    refine lv_aload hx hb dX7_family_22 (lv_at hl 0 rfl) ?_
    refine z_callSi (As := [.ref q1]) C hz hS hA hl (k_X7_areKindsOnce l D cy f15 q1 (upd (upd (upd (upd (fun _ => 0) 0 x) 1 y) 2 z) 3 v) a16 ) zyX7_areKindsOnce mMX7_187 rfl rfl (Nat.le_of_ble_eq_true rfl) ⟨Nat.le_of_ble_eq_true rfl, Nat.le_of_ble_eq_true rfl⟩ ⟨Nat.le_of_ble_eq_true rfl, Nat.le_of_ble_eq_true rfl⟩ dX7_family_24 (fun r f18 H locs h19 hz hS => ?_)
    obtain ⟨rfl, k20⟩ := h19
    refine lv_topi (fun y21 e22 => ?_)
    obtain rfl : y21 = 1 := e22.trans (if_pos hk)
    refine lv_if_ne (tgt := 33) hx hb dX7_family_27 (by decide) (fun c23 => ?_) (fun c23 => ?_)
    rotate_left
    · exact absurd c23 (by decide)
    refine lv_aload_n hx hb dX7_family_33 rfl (lv_at hl 1 rfl) ?_
    have a24 : f3 o = some (.inr (7, [.ref fa, .ref fi, .ref nu, .int 0, .ref fm, .int 0, .ref co, .int 0, .ref en, .ref ke, .long 1])) := (k5 _ (z_nn u2 p0)).trans p0
    have a25 : f6 o = some (.inr (7, [.ref fa, .ref fi, .ref nu, .int 0, .ref fm, .int 0, .ref co, .int 0, .ref en, .ref ke, .long 1])) := (k8 _ (z_nn u2 p0)).trans a24
    have a26 : f9 o = some (.inr (7, [.ref fa, .ref fi, .ref nu, .int 0, .ref fm, .int 0, .ref co, .int 0, .ref en, .ref ke, .long 1])) := (k11 _ (z_nn u2 p0)).trans a25
    have a27 : f12 o = some (.inr (7, [.ref fa, .ref fi, .ref nu, .int 0, .ref fm, .int 0, .ref co, .int 0, .ref en, .ref ke, .long 1])) := (k14 _ (z_nn u2 p0)).trans a26
    have a28 : f15 o = some (.inr (7, [.ref fa, .ref fi, .ref nu, .int 0, .ref fm, .int 0, .ref co, .int 0, .ref en, .ref ke, .long 1])) := (k17 _ (z_nn u2 p0)).trans a27
    have a29 : f18 o = some (.inr (7, [.ref fa, .ref fi, .ref nu, .int 0, .ref fm, .int 0, .ref co, .int 0, .ref en, .ref ke, .long 1])) := k20 _ _ a28 
    refine z_get (v := .int 0) C hz a29 zl7 mFX7_37 (by decide) rfl dX7_family_34 ?_
    refine lv_bipush (v := 6) hx hb dX7_family_37 (by decide) ?_
    refine lv_icmp_lt (tgt := 45) hx hb dX7_family_39 (by decide) (fun c30 => ?_) (fun c30 => ?_)
    rotate_left
    · exact absurd c30 (by decide)
    refine lv_aload_n hx hb dX7_family_45 rfl (lv_at hl 1 rfl) ?_
    refine z_get (v := .ref fm) C hz a29 zl7 mFX7_33 (by decide) rfl dX7_family_46 ?_
    refine lv_aload_n hx hb dX7_family_49 rfl (lv_at hl 1 rfl) ?_
    refine z_get (v := .int 0) C hz a29 zl7 mFX7_37 (by decide) rfl dX7_family_50 ?_
    refine z_new (fs := [.null, .int 0]) C hz hS hA zl3 mLX7_31 mIa_RX3 mIn_RX3 (by decide +kernel) (Nat.le_of_ble_eq_true rfl) (Nat.le_of_ble_eq_true rfl) dX7_family_53 (fun q31 H f33 u32 a34 k35 hz hS => ?_)
    refine lv_dup hx hb dX7_family_56 rfl ?_
    refine lv_aload hx hb dX7_family_57 (lv_at hl 0 rfl) ?_
    have a36 : f18 q1 = some (.inl (cy 0, 4, .inl (upd (upd (upd (upd (fun _ => 0) 0 x) 1 y) 2 z) 3 v))) := k20 _ _ a16 
    have a37 : f33 q1 = some (.inl (cy 0, 4, .inl (upd (upd (upd (upd (fun _ => 0) 0 x) 1 y) 2 z) 3 v))) := (k35 _ (z_nn u32 a36)).trans a36
    refine z_callIv (ret := none) (As := [.ref q1]) C hz hS hA hl (k_X3_init l D cy f33 q31 q1 (upd (upd (upd (upd (fun _ => 0) 0 x) 1 y) 2 z) 3 v) a34 a37 ) zyX3_init mMX7_191 rfl rfl (Nat.le_of_ble_eq_true rfl) ⟨Nat.le_of_ble_eq_true rfl, Nat.le_of_ble_eq_true rfl⟩ ⟨Nat.le_of_ble_eq_true rfl, Nat.le_of_ble_eq_true rfl⟩ dX7_family_59 (fun  f38 H locs h39 hz hS => ?_)
    obtain ⟨kq_40, zz_41, a42, k43⟩ := h39
    have a44 : f3 fm = some (.inl (cy 4, 6, .inr (.inr (.inr (.inr gf))))) := (k5 _ (z_nn u2 p1)).trans p1
    have a45 : f6 fm = some (.inl (cy 4, 6, .inr (.inr (.inr (.inr gf))))) := (k8 _ (z_nn u2 p1)).trans a44
    have a46 : f9 fm = some (.inl (cy 4, 6, .inr (.inr (.inr (.inr gf))))) := (k11 _ (z_nn u2 p1)).trans a45
    have a47 : f12 fm = some (.inl (cy 4, 6, .inr (.inr (.inr (.inr gf))))) := (k14 _ (z_nn u2 p1)).trans a46
    have a48 : f15 fm = some (.inl (cy 4, 6, .inr (.inr (.inr (.inr gf))))) := (k17 _ (z_nn u2 p1)).trans a47
    have a49 : f18 fm = some (.inl (cy 4, 6, .inr (.inr (.inr (.inr gf))))) := k20 _ _ a48 
    have a50 : f33 fm = some (.inl (cy 4, 6, .inr (.inr (.inr (.inr gf))))) := (k35 _ (z_nn u32 a49)).trans a49
    have a51 : f38 fm = some (.inl (cy 4, 6, .inr (.inr (.inr (.inr gf))))) := k43 _ _ a50 (z_nn u32 a49)
    refine z_astq 0 C hz hS a51 rfl a42 zl3 (by decide) (Nat.le_of_ble_eq_true rfl) (by omega) dX7_family_62 (fun H locs f52 a53 k54 hz hS => ?_)
    refine lv_aload_n hx hb dX7_family_63 rfl (lv_at hl 1 rfl) ?_
    refine lv_dup hx hb dX7_family_64 rfl ?_
    have a55 : f33 o = some (.inr (7, [.ref fa, .ref fi, .ref nu, .int 0, .ref fm, .int 0, .ref co, .int 0, .ref en, .ref ke, .long 1])) := (k35 _ (z_nn u32 a29)).trans a29
    have a56 : f38 o = some (.inr (7, [.ref fa, .ref fi, .ref nu, .int 0, .ref fm, .int 0, .ref co, .int 0, .ref en, .ref ke, .long 1])) := k43 _ _ a55 (z_nn u32 a29)
    have a57 : f52 o = some (.inr (7, [.ref fa, .ref fi, .ref nu, .int 0, .ref fm, .int 0, .ref co, .int 0, .ref en, .ref ke, .long 1])) := (k54 _ (z_ne a56 a51 rfl)).trans a56
    refine z_get (v := .int 0) C hz a57 zl7 mFX7_37 (by decide) rfl dX7_family_65 ?_
    refine lv_iconst (v := 1) hx hb dX7_family_68 (by decide) ?_
    refine lv_iadd hx hb dX7_family_69 ?_
    refine z_put (fs' := [.ref fa, .ref fi, .ref nu, .int 0, .ref fm, .int (0 + 1), .ref co, .int 0, .ref en, .ref ke, .long 1]) C hz hS a57 zl7 mFX7_37 (by decide) rfl rfl rfl (Nat.le_of_ble_eq_true rfl) rfl dX7_family_70 (fun H locs f58 a59 k60 hz hS => ?_)
    refine lv_aload_n hx hb dX7_family_73 rfl (lv_at hl 1 rfl) ?_
    refine z_get (v := .int (0 + 1)) C hz a59 zl7 mFX7_37 (by decide) rfl dX7_family_74 ?_
    refine lv_iconst (v := 1) hx hb dX7_family_77 (by decide) ?_
    refine lv_isub hx hb dX7_family_78 ?_
    exact z_iret C hr rfl hz hS ⟨(by rw [if_pos hk]; decide), (by
          intro b e hb n0 n1
          have nn0 : b ≠ q1 := z_nn u2 hb
          have hb0 : f3 b = some e := (k5 b nn0).trans hb
          have hb1 : f6 b = some e := (k8 b nn0).trans hb0
          have hb2 : f9 b = some e := (k11 b nn0).trans hb1
          have hb3 : f12 b = some e := (k14 b nn0).trans hb2
          have hb4 : f15 b = some e := (k17 b nn0).trans hb3
          have hb5 : f18 b = some e := k20 b e hb4 
          have nn6 : b ≠ q31 := z_nn u32 hb5
          have hb6 : f33 b = some e := (k35 b nn6).trans hb5
          have hb7 : f38 b = some e := k43 b e hb6 nn6
          have hb8 : f52 b = some e := (k54 b n1).trans hb7
          have hb9 : f58 b = some e := (k60 b n0).trans hb8
          exact hb9)⟩ (Nat.le_of_ble_eq_true rfl) (Nat.le_of_ble_eq_true rfl) dX7_family_79
  · refine lv_iconst (v := 4) hx hb dX7_family_0 (by decide) ?_
    refine z_newa (atype := .int) (t0 := 0) (N' := 4) (x := (.inl (fun _ => 0))) C hz hS hA rfl mA_int rfl (fun _ => rfl) (by decide) (Nat.le_of_ble_eq_true rfl) (by decide) (Nat.le_of_ble_eq_true rfl) (Nat.le_of_ble_eq_true rfl) dX7_family_1 (fun q61 H f63 u62 a64 k65 hz hS => ?_)
    refine lv_dup hx hb dX7_family_3 rfl ?_
    refine lv_iconst (v := 0) hx hb dX7_family_4 (by decide) ?_
    refine lv_iload_n hx hb dX7_family_5 rfl (lv_at hl 1 rfl) ?_
    refine z_iast 0 C hz hS a64 (by decide) (Nat.le_of_ble_eq_true rfl) (by omega) dX7_family_6 (fun H locs f66 a67 k68 hz hS => ?_)
    refine lv_dup hx hb dX7_family_7 rfl ?_
    refine lv_iconst (v := 1) hx hb dX7_family_8 (by decide) ?_
    refine lv_iload_n hx hb dX7_family_9 rfl (lv_at hl 2 rfl) ?_
    refine z_iast 1 C hz hS a67 (by decide) (Nat.le_of_ble_eq_true rfl) (by omega) dX7_family_10 (fun H locs f69 a70 k71 hz hS => ?_)
    refine lv_dup hx hb dX7_family_11 rfl ?_
    refine lv_iconst (v := 2) hx hb dX7_family_12 (by decide) ?_
    refine lv_iload_n hx hb dX7_family_13 rfl (lv_at hl 3 rfl) ?_
    refine z_iast 2 C hz hS a70 (by decide) (Nat.le_of_ble_eq_true rfl) (by omega) dX7_family_14 (fun H locs f72 a73 k74 hz hS => ?_)
    refine lv_dup hx hb dX7_family_15 rfl ?_
    refine lv_iconst (v := 3) hx hb dX7_family_16 (by decide) ?_
    refine lv_iload hx hb dX7_family_17 (lv_at hl 4 rfl) ?_
    refine z_iast 3 C hz hS a73 (by decide) (Nat.le_of_ble_eq_true rfl) (by omega) dX7_family_19 (fun H locs f75 a76 k77 hz hS => ?_)
    refine lv_astore (lv' := [(5, .ref q61), (0, .ref o), (1, .int x), (2, .int y), (3, .int z), (4, .int v)]) hx hb dX7_family_20 hl (by decide) rfl (fun ls hl => ?_)
    refine lv_aload hx hb dX7_family_22 (lv_at hl 0 rfl) ?_
    refine z_callSi (As := [.ref q61]) C hz hS hA hl (k_X7_areKindsOnce l D cy f75 q61 (upd (upd (upd (upd (fun _ => 0) 0 x) 1 y) 2 z) 3 v) a76 ) zyX7_areKindsOnce mMX7_187 rfl rfl (Nat.le_of_ble_eq_true rfl) ⟨Nat.le_of_ble_eq_true rfl, Nat.le_of_ble_eq_true rfl⟩ ⟨Nat.le_of_ble_eq_true rfl, Nat.le_of_ble_eq_true rfl⟩ dX7_family_24 (fun r f78 H locs h79 hz hS => ?_)
    obtain ⟨rfl, k80⟩ := h79
    refine lv_topi (fun y81 e82 => ?_)
    obtain rfl : y81 = 0 := e82.trans (if_neg hk)
    refine lv_if_ne (tgt := 33) hx hb dX7_family_27 (by decide) (fun c83 => ?_) (fun c83 => ?_)
    · exact absurd c83 (by decide)
    refine lv_bipush (v := (-2)) hx hb dX7_family_30 (by decide) ?_
    exact z_iret C hr rfl hz hS ⟨(by rw [if_neg hk]), (by
          intro b e hb n0 n1
          have nn0 : b ≠ q61 := z_nn u62 hb
          have hb0 : f63 b = some e := (k65 b nn0).trans hb
          have hb1 : f66 b = some e := (k68 b nn0).trans hb0
          have hb2 : f69 b = some e := (k71 b nn0).trans hb1
          have hb3 : f72 b = some e := (k74 b nn0).trans hb2
          have hb4 : f75 b = some e := (k77 b nn0).trans hb3
          have hb5 : f78 b = some e := k80 b e hb4 
          exact hb5)⟩ (Nat.le_of_ble_eq_true rfl) (Nat.le_of_ble_eq_true rfl) dX7_family_32
abbrev rmX7_findFamily : Room := { frames := 0, cells := 0, slots := 0, locals := 0 }
set_option maxHeartbeats 4000000 in
set_option maxRecDepth 100000 in
theorem k_X7_findFamily (l : Launch) (D : va_G) (cy : Nat → ClassId) (f : zM) (o : Nat) (fa : Nat) (fi : Nat) (nu : Nat) (fm : Nat) (co : Nat) (en : Nat) (ke : Nat) (x : Int32) (p0 : f o = some (.inr (7, [.ref fa, .ref fi, .ref nu, .int 0, .ref fm, .int 0, .ref co, .int 0, .ref en, .ref ke, .long 1])))  : zCq l D cy yX7_findFamily cX7_findFamily 2 (Option.some (Jvm.ClassFile.FieldType.object "KindRows$Family")) rmX7_findFamily [.ref o, .int x] f (fun (r : Option Nat) (f1 : zM) => r = none ∧ (∀ (b : Nat) (e : va_E), f b = some e → f1 b = some e)) := by
  intro sz
  refine z_body (by decide +kernel) (Nat.le_of_ble_eq_true rfl) ?_
  intro p e s m below meth c ls C hr hin hsz hz hl
  subst hsz
  have hx := C.1
  have hb := C.2.1
  have hA : ∀ q, s.heap.size ≤ q → zA f s.heap.size q := fun q h => Or.inr h
  have hS : va_S (zA f s.heap.size) s.heap s.heap [] := va_S.rf
  have hl : lv_has ls 2 [(0, .ref o), (1, .int x)] := hl
  refine lv_iload_n hx hb dX7_findFamily_0 rfl (lv_at hl 1 rfl) ?_
  refine lv_if_lt (tgt := 21) hx hb dX7_findFamily_1 (by decide) (fun c1 => ?_) (fun c1 => ?_)
  · refine lv_null hx hb dX7_findFamily_21 ?_
    exact z_aret (r := none) C hr (Or.inl ⟨_, rfl⟩) rfl hz hS ⟨rfl, (fun b e hb => hb)⟩ (Nat.le_of_ble_eq_true rfl) (Nat.le_of_ble_eq_true rfl) dX7_findFamily_22
  · refine lv_iload_n hx hb dX7_findFamily_4 rfl (lv_at hl 1 rfl) ?_
    refine lv_aload_n hx hb dX7_findFamily_5 rfl (lv_at hl 0 rfl) ?_
    refine z_get (v := .int 0) C hz p0 zl7 mFX7_37 (by decide) rfl dX7_findFamily_6 ?_
    refine lv_icmp_ge (tgt := 21) hx hb dX7_findFamily_9 (by decide) (fun c2 => ?_) (fun c2 => ?_)
    rotate_left
    · exact absurd (Int32.not_lt.mp c1) c2
    refine lv_null hx hb dX7_findFamily_21 ?_
    exact z_aret (r := none) C hr (Or.inl ⟨_, rfl⟩) rfl hz hS ⟨rfl, (fun b e hb => hb)⟩ (Nat.le_of_ble_eq_true rfl) (Nat.le_of_ble_eq_true rfl) dX7_findFamily_22
abbrev rmX7_findConstant : Room := { frames := 0, cells := 0, slots := 0, locals := 0 }
set_option maxHeartbeats 4000000 in
set_option maxRecDepth 100000 in
theorem k_X7_findConstant (l : Launch) (D : va_G) (cy : Nat → ClassId) (f : zM) (o : Nat) (fa : Nat) (fi : Nat) (nu : Nat) (fm : Nat) (co : Nat) (en : Nat) (ke : Nat) (x : Int32) (p0 : f o = some (.inr (7, [.ref fa, .ref fi, .ref nu, .int 0, .ref fm, .int 0, .ref co, .int 0, .ref en, .ref ke, .long 1])))  : zCq l D cy yX7_findConstant cX7_findConstant 2 (Option.some (Jvm.ClassFile.FieldType.object "KindRows$Constant")) rmX7_findConstant [.ref o, .int x] f (fun (r : Option Nat) (f1 : zM) => r = none ∧ (∀ (b : Nat) (e : va_E), f b = some e → f1 b = some e)) := by
  intro sz
  refine z_body (by decide +kernel) (Nat.le_of_ble_eq_true rfl) ?_
  intro p e s m below meth c ls C hr hin hsz hz hl
  subst hsz
  have hx := C.1
  have hb := C.2.1
  have hA : ∀ q, s.heap.size ≤ q → zA f s.heap.size q := fun q h => Or.inr h
  have hS : va_S (zA f s.heap.size) s.heap s.heap [] := va_S.rf
  have hl : lv_has ls 2 [(0, .ref o), (1, .int x)] := hl
  refine lv_iload_n hx hb dX7_findConstant_0 rfl (lv_at hl 1 rfl) ?_
  refine lv_if_lt (tgt := 21) hx hb dX7_findConstant_1 (by decide) (fun c1 => ?_) (fun c1 => ?_)
  · refine lv_null hx hb dX7_findConstant_21 ?_
    exact z_aret (r := none) C hr (Or.inl ⟨_, rfl⟩) rfl hz hS ⟨rfl, (fun b e hb => hb)⟩ (Nat.le_of_ble_eq_true rfl) (Nat.le_of_ble_eq_true rfl) dX7_findConstant_22
  · refine lv_iload_n hx hb dX7_findConstant_4 rfl (lv_at hl 1 rfl) ?_
    refine lv_aload_n hx hb dX7_findConstant_5 rfl (lv_at hl 0 rfl) ?_
    refine z_get (v := .int 0) C hz p0 zl7 mFX7_46 (by decide) rfl dX7_findConstant_6 ?_
    refine lv_icmp_ge (tgt := 21) hx hb dX7_findConstant_9 (by decide) (fun c2 => ?_) (fun c2 => ?_)
    rotate_left
    · exact absurd (Int32.not_lt.mp c1) c2
    refine lv_null hx hb dX7_findConstant_21 ?_
    exact z_aret (r := none) C hr (Or.inl ⟨_, rfl⟩) rfl hz hS ⟨rfl, (fun b e hb => hb)⟩ (Nat.le_of_ble_eq_true rfl) (Nat.le_of_ble_eq_true rfl) dX7_findConstant_22
abbrev rmX7_tag : Room := { frames := 1, cells := 0, slots := 0, locals := 22 }
set_option maxHeartbeats 4000000 in
set_option maxRecDepth 100000 in
theorem k_X7_tag (l : Launch) (D : va_G) (cy : Nat → ClassId) (f : zM) (o : Nat) (fa : Nat) (fi : Nat) (nu : Nat) (fm : Nat) (co : Nat) (en : Nat) (ke : Nat) (x : Int32) (y : Int32) (al : Nat) (ra : Nat) (p0 : f o = some (.inr (7, [.ref fa, .ref fi, .ref nu, .int 0, .ref fm, .int 0, .ref co, .int 0, .ref en, .ref ke, .long 1]))) (p1 : f fi = some (.inr (5, [.ref al, .ref ra, .int 0])))  : zCi l D cy yX7_tag cX7_tag 5 (Option.some Jvm.ClassFile.FieldType.int) rmX7_tag [.ref o, .int x, .int y] f (fun (r : Int32) (f1 : zM) => r = (-2) ∧ (∀ (b : Nat) (e : va_E), f b = some e → f1 b = some e)) := by
  intro sz
  refine z_body (by decide +kernel) (Nat.le_of_ble_eq_true rfl) ?_
  intro p e s m below meth c ls C hr hin hsz hz hl
  subst hsz
  have hx := C.1
  have hb := C.2.1
  have hA : ∀ q, s.heap.size ≤ q → zA f s.heap.size q := fun q h => Or.inr h
  have hS : va_S (zA f s.heap.size) s.heap s.heap [] := va_S.rf
  have hl : lv_has ls 5 [(0, .ref o), (1, .int x), (2, .int y)] := hl
  refine lv_aload_n hx hb dX7_tag_0 rfl (lv_at hl 0 rfl) ?_
  refine lv_iload_n hx hb dX7_tag_1 rfl (lv_at hl 1 rfl) ?_
  refine z_callVq (As := [.int x]) C hz hS hA hl (k_X7_findFamily l D cy f o fa fi nu fm co en ke x p0 ) zyX7_findFamily mMX7_194 p0 zl7 rfl rfl (Nat.le_of_ble_eq_true rfl) ⟨Nat.le_of_ble_eq_true rfl, Nat.le_of_ble_eq_true rfl⟩ ⟨Nat.le_of_ble_eq_true rfl, Nat.le_of_ble_eq_true rfl⟩ dX7_tag_2 (fun r f1 H locs h2 hz hS => ?_)
  obtain ⟨rfl, k3⟩ := h2
  refine W.eq (g2 := F0 m 5 ls [.null]) rfl ?_
  refine lv_astore_nN (lv' := [(3, .null), (0, .ref o), (1, .int x), (2, .int y)]) hx hb dX7_tag_5 rfl hl (by decide) rfl (fun ls hl => ?_)
  refine lv_aload_n hx hb dX7_tag_6 rfl (lv_at hl 1 rfl) ?_
  have a4 : f1 o = some (.inr (7, [.ref fa, .ref fi, .ref nu, .int 0, .ref fm, .int 0, .ref co, .int 0, .ref en, .ref ke, .long 1])) := k3 _ _ p0 
  refine z_get (v := .ref fi) C hz a4 zl7 mFX7_19 (by decide) rfl dX7_tag_7 ?_
  refine lv_iload_n hx hb dX7_tag_10 rfl (lv_at hl 3 rfl) ?_
  refine lv_i2l (v := y.toInt64) hx hb dX7_tag_11 rfl ?_
  have a5 : f1 fi = some (.inr (5, [.ref al, .ref ra, .int 0])) := k3 _ _ p1 
  refine z_callVq (As := [.long y.toInt64]) C hz hS hA hl (k_X5_find l D cy f1 fi y.toInt64 al ra a5 ) zyX5_find mMX7_130 a5 zl5 rfl rfl (Nat.le_of_ble_eq_true rfl) ⟨Nat.le_of_ble_eq_true rfl, Nat.le_of_ble_eq_true rfl⟩ ⟨Nat.le_of_ble_eq_true rfl, Nat.le_of_ble_eq_true rfl⟩ dX7_tag_12 (fun r f6 H locs h7 hz hS => ?_)
  obtain ⟨rfl, k8⟩ := h7
  refine W.eq (g2 := F0 m 15 ls [.null]) rfl ?_
  refine lv_astoreN (lv' := [(4, .null), (3, .null), (0, .ref o), (1, .int x), (2, .int y)]) hx hb dX7_tag_15 hl (by decide) rfl (fun ls hl => ?_)
  refine lv_aload_nN hx hb dX7_tag_17 rfl (lv_at hl 1 rfl) ?_
  refine lv_ifnullN (tgt := 26) hx hb dX7_tag_18 (by decide) ?_
  refine lv_bipush (v := (-2)) hx hb dX7_tag_26 (by decide) ?_
  exact z_iret C hr rfl hz hS ⟨rfl, (by
        intro b e hb 
        have hb0 : f1 b = some e := k3 b e hb 
        have hb1 : f6 b = some e := k8 b e hb0 
        exact hb1)⟩ (Nat.le_of_ble_eq_true rfl) (Nat.le_of_ble_eq_true rfl) dX7_tag_28
abbrev rmX7_tagged : Room := { frames := 1, cells := 0, slots := 0, locals := 21 }
set_option maxHeartbeats 4000000 in
set_option maxRecDepth 100000 in
theorem k_X7_tagged (l : Launch) (D : va_G) (cy : Nat → ClassId) (f : zM) (o : Nat) (fa : Nat) (fi : Nat) (nu : Nat) (fm : Nat) (co : Nat) (en : Nat) (ke : Nat) (x : Int32) (y : Int32) (p0 : f o = some (.inr (7, [.ref fa, .ref fi, .ref nu, .int 0, .ref fm, .int 0, .ref co, .int 0, .ref en, .ref ke, .long 1])))  : zCi l D cy yX7_tagged cX7_tagged 7 (Option.some Jvm.ClassFile.FieldType.int) rmX7_tagged [.ref o, .int x, .int y] f (fun (r : Int32) (f1 : zM) => r = (-2) ∧ (∀ (b : Nat) (e : va_E), f b = some e → f1 b = some e)) := by
  intro sz
  refine z_body (by decide +kernel) (Nat.le_of_ble_eq_true rfl) ?_
  intro p e s m below meth c ls C hr hin hsz hz hl
  subst hsz
  have hx := C.1
  have hb := C.2.1
  have hA : ∀ q, s.heap.size ≤ q → zA f s.heap.size q := fun q h => Or.inr h
  have hS : va_S (zA f s.heap.size) s.heap s.heap [] := va_S.rf
  have hl : lv_has ls 7 [(0, .ref o), (1, .int x), (2, .int y)] := hl
  refine lv_aload_n hx hb dX7_tagged_0 rfl (lv_at hl 0 rfl) ?_
  refine lv_iload_n hx hb dX7_tagged_1 rfl (lv_at hl 1 rfl) ?_
  refine z_callVq (As := [.int x]) C hz hS hA hl (k_X7_findFamily l D cy f o fa fi nu fm co en ke x p0 ) zyX7_findFamily mMX7_194 p0 zl7 rfl rfl (Nat.le_of_ble_eq_true rfl) ⟨Nat.le_of_ble_eq_true rfl, Nat.le_of_ble_eq_true rfl⟩ ⟨Nat.le_of_ble_eq_true rfl, Nat.le_of_ble_eq_true rfl⟩ dX7_tagged_2 (fun r f1 H locs h2 hz hS => ?_)
  obtain ⟨rfl, k3⟩ := h2
  refine W.eq (g2 := F0 m 5 ls [.null]) rfl ?_
  refine lv_astore_nN (lv' := [(3, .null), (0, .ref o), (1, .int x), (2, .int y)]) hx hb dX7_tagged_5 rfl hl (by decide) rfl (fun ls hl => ?_)
  refine lv_aload_nN hx hb dX7_tagged_6 rfl (lv_at hl 0 rfl) ?_
  refine lv_ifnullN (tgt := 20) hx hb dX7_tagged_7 (by decide) ?_
  refine lv_bipush (v := (-2)) hx hb dX7_tagged_20 (by decide) ?_
  exact z_iret C hr rfl hz hS ⟨rfl, (by
        intro b e hb 
        have hb0 : f1 b = some e := k3 b e hb 
        exact hb0)⟩ (Nat.le_of_ble_eq_true rfl) (Nat.le_of_ble_eq_true rfl) dX7_tagged_22
abbrev rmX7_findEnumeration_A : Room := { frames := 0, cells := 0, slots := 0, locals := 0 }
set_option maxHeartbeats 4000000 in
set_option maxRecDepth 100000 in
theorem k_X7_findEnumeration_A (l : Launch) (D : va_G) (cy : Nat → ClassId) (f : zM) (o : Nat) (fa : Nat) (fi : Nat) (nu : Nat) (fm : Nat) (co : Nat) (en : Nat) (ke : Nat) (x : Int32) (ge : Nat → Option Nat) (j : Nat) (aj : Nat) (p0 : f o = some (.inr (7, [.ref fa, .ref fi, .ref nu, .int 0, .ref fm, .int 0, .ref co, .int 0, .ref en, .ref ke, .long 1]))) (p1 : f en = some (.inl (cy 6, 4, .inr (.inr (.inr (.inr ge)))))) (hxj : x = nI j) (hj : j < 4) (hg : ge j = some aj) : zCq l D cy yX7_findEnumeration cX7_findEnumeration 2 (Option.some (Jvm.ClassFile.FieldType.object "KindRows$Enumeration")) rmX7_findEnumeration_A [.ref o, .int x] f (fun (r : Option Nat) (f1 : zM) => r = (some aj) ∧ (∀ (b : Nat) (e : va_E), f b = some e → f1 b = some e)) := by
  intro sz
  refine z_body (by decide +kernel) (Nat.le_of_ble_eq_true rfl) ?_
  intro p e s m below meth c ls C hr hin hsz hz hl
  subst hsz
  have hx := C.1
  have hb := C.2.1
  have hA : ∀ q, s.heap.size ≤ q → zA f s.heap.size q := fun q h => Or.inr h
  have hS : va_S (zA f s.heap.size) s.heap s.heap [] := va_S.rf
  have hl : lv_has ls 2 [(0, .ref o), (1, .int x)] := hl
  refine lv_iload_n hx hb dX7_findEnumeration_0 rfl (lv_at hl 1 rfl) ?_
  refine lv_if_lt (tgt := 18) hx hb dX7_findEnumeration_1 (by decide) (fun c1 => ?_) (fun c1 => ?_)
  · exact absurd c1 (by rw [hxj]; exact nI_pos (by omega))
  refine lv_iload_n hx hb dX7_findEnumeration_4 rfl (lv_at hl 1 rfl) ?_
  refine lv_iconst (v := 4) hx hb dX7_findEnumeration_5 (by decide) ?_
  refine lv_icmp_ge (tgt := 18) hx hb dX7_findEnumeration_6 (by decide) (fun c2 => ?_) (fun c2 => ?_)
  · exact absurd ((nI_leI (a := 4) (b := j) (by omega) (by omega)).mp (by rw [← hxj]; exact c2)) (by omega)
  refine lv_aload_n hx hb dX7_findEnumeration_9 rfl (lv_at hl 0 rfl) ?_
  refine z_get (v := .ref en) C hz p0 zl7 mFX7_51 (by decide) rfl dX7_findEnumeration_10 ?_
  refine lv_iload_n hx hb dX7_findEnumeration_13 rfl (lv_at hl 1 rfl) ?_
  refine z_aldq j C hz p1 rfl hxj hj (by omega) dX7_findEnumeration_14 ?_
  rw [hg]
  refine W.eq (g2 := F0 m 15 ls [.ref aj]) rfl ?_
  refine lv_goto (tgt := 19) hx hb dX7_findEnumeration_15 (by decide) ?_
  exact z_aret (r := some aj) C hr (Or.inl ⟨_, rfl⟩) rfl hz hS ⟨rfl, (fun b e hb => hb)⟩ (Nat.le_of_ble_eq_true rfl) (Nat.le_of_ble_eq_true rfl) dX7_findEnumeration_19
abbrev rmX7_findEnumeration_B : Room := { frames := 0, cells := 0, slots := 0, locals := 0 }
set_option maxHeartbeats 4000000 in
set_option maxRecDepth 100000 in
theorem k_X7_findEnumeration_B (l : Launch) (D : va_G) (cy : Nat → ClassId) (f : zM) (o : Nat) (fa : Nat) (fi : Nat) (nu : Nat) (fm : Nat) (co : Nat) (en : Nat) (ke : Nat) (x : Int32) (p0 : f o = some (.inr (7, [.ref fa, .ref fi, .ref nu, .int 0, .ref fm, .int 0, .ref co, .int 0, .ref en, .ref ke, .long 1]))) (hx4 : ¬ (0 ≤ x ∧ x < 4)) : zCq l D cy yX7_findEnumeration cX7_findEnumeration 2 (Option.some (Jvm.ClassFile.FieldType.object "KindRows$Enumeration")) rmX7_findEnumeration_B [.ref o, .int x] f (fun (r : Option Nat) (f1 : zM) => r = none ∧ (∀ (b : Nat) (e : va_E), f b = some e → f1 b = some e)) := by
  intro sz
  refine z_body (by decide +kernel) (Nat.le_of_ble_eq_true rfl) ?_
  intro p e s m below meth c ls C hr hin hsz hz hl
  subst hsz
  have hx := C.1
  have hb := C.2.1
  have hA : ∀ q, s.heap.size ≤ q → zA f s.heap.size q := fun q h => Or.inr h
  have hS : va_S (zA f s.heap.size) s.heap s.heap [] := va_S.rf
  have hl : lv_has ls 2 [(0, .ref o), (1, .int x)] := hl
  refine lv_iload_n hx hb dX7_findEnumeration_0 rfl (lv_at hl 1 rfl) ?_
  refine lv_if_lt (tgt := 18) hx hb dX7_findEnumeration_1 (by decide) (fun c1 => ?_) (fun c1 => ?_)
  · refine lv_null hx hb dX7_findEnumeration_18 ?_
    exact z_aret (r := none) C hr (Or.inl ⟨_, rfl⟩) rfl hz hS ⟨rfl, (fun b e hb => hb)⟩ (Nat.le_of_ble_eq_true rfl) (Nat.le_of_ble_eq_true rfl) dX7_findEnumeration_19
  · refine lv_iload_n hx hb dX7_findEnumeration_4 rfl (lv_at hl 1 rfl) ?_
    refine lv_iconst (v := 4) hx hb dX7_findEnumeration_5 (by decide) ?_
    refine lv_icmp_ge (tgt := 18) hx hb dX7_findEnumeration_6 (by decide) (fun c2 => ?_) (fun c2 => ?_)
    rotate_left
    · exact absurd ⟨Int32.not_lt.mp c1, Int32.not_le.mp c2⟩ hx4
    refine lv_null hx hb dX7_findEnumeration_18 ?_
    exact z_aret (r := none) C hr (Or.inl ⟨_, rfl⟩) rfl hz hS ⟨rfl, (fun b e hb => hb)⟩ (Nat.le_of_ble_eq_true rfl) (Nat.le_of_ble_eq_true rfl) dX7_findEnumeration_19
abbrev rmX7_homeOf : Room := { frames := 1, cells := 0, slots := 0, locals := 21 }
set_option maxHeartbeats 4000000 in
set_option maxRecDepth 100000 in
theorem k_X7_homeOf (l : Launch) (D : va_G) (cy : Nat → ClassId) (f : zM) (o : Nat) (fa : Nat) (fi : Nat) (nu : Nat) (fm : Nat) (co : Nat) (en : Nat) (ke : Nat) (x : Int32) (p0 : f o = some (.inr (7, [.ref fa, .ref fi, .ref nu, .int 0, .ref fm, .int 0, .ref co, .int 0, .ref en, .ref ke, .long 1])))  : zCq l D cy yX7_homeOf cX7_homeOf 3 (Option.some (Jvm.ClassFile.FieldType.object "KindRows$Enumeration")) rmX7_homeOf [.ref o, .int x] f (fun (r : Option Nat) (f1 : zM) => r = none ∧ (∀ (b : Nat) (e : va_E), f b = some e → f1 b = some e)) := by
  intro sz
  refine z_body (by decide +kernel) (Nat.le_of_ble_eq_true rfl) ?_
  intro p e s m below meth c ls C hr hin hsz hz hl
  subst hsz
  have hx := C.1
  have hb := C.2.1
  have hA : ∀ q, s.heap.size ≤ q → zA f s.heap.size q := fun q h => Or.inr h
  have hS : va_S (zA f s.heap.size) s.heap s.heap [] := va_S.rf
  have hl : lv_has ls 3 [(0, .ref o), (1, .int x)] := hl
  refine lv_aload_n hx hb dX7_homeOf_0 rfl (lv_at hl 0 rfl) ?_
  refine lv_iload_n hx hb dX7_homeOf_1 rfl (lv_at hl 1 rfl) ?_
  refine z_callVq (As := [.int x]) C hz hS hA hl (k_X7_findConstant l D cy f o fa fi nu fm co en ke x p0 ) zyX7_findConstant mMX7_238 p0 zl7 rfl rfl (Nat.le_of_ble_eq_true rfl) ⟨Nat.le_of_ble_eq_true rfl, Nat.le_of_ble_eq_true rfl⟩ ⟨Nat.le_of_ble_eq_true rfl, Nat.le_of_ble_eq_true rfl⟩ dX7_homeOf_2 (fun r f1 H locs h2 hz hS => ?_)
  obtain ⟨rfl, k3⟩ := h2
  refine W.eq (g2 := F0 m 5 ls [.null]) rfl ?_
  refine lv_astore_nN (lv' := [(2, .null), (0, .ref o), (1, .int x)]) hx hb dX7_homeOf_5 rfl hl (by decide) rfl (fun ls hl => ?_)
  refine lv_aload_nN hx hb dX7_homeOf_6 rfl (lv_at hl 0 rfl) ?_
  refine lv_ifnonnullN hx hb dX7_homeOf_7 ?_
  refine lv_null hx hb dX7_homeOf_10 ?_
  refine lv_goto (tgt := 22) hx hb dX7_homeOf_11 (by decide) ?_
  exact z_aret (r := none) C hr (Or.inl ⟨_, rfl⟩) rfl hz hS ⟨rfl, (by
        intro b e hb 
        have hb0 : f1 b = some e := k3 b e hb 
        exact hb0)⟩ (Nat.le_of_ble_eq_true rfl) (Nat.le_of_ble_eq_true rfl) dX7_homeOf_22
abbrev rmX7_memberNamed : Room := { frames := 0, cells := 0, slots := 0, locals := 0 }
set_option maxHeartbeats 4000000 in
set_option maxRecDepth 100000 in
theorem k_X7_memberNamed (l : Launch) (D : va_G) (cy : Nat → ClassId) (f : zM) (o : Nat) (fa : Nat) (fi : Nat) (nu : Nat) (fm : Nat) (co : Nat) (en : Nat) (ke : Nat) (h : Nat) (x : Int32) (mm : Nat) (p0 : f o = some (.inr (7, [.ref fa, .ref fi, .ref nu, .int 0, .ref fm, .int 0, .ref co, .int 0, .ref en, .ref ke, .long 1]))) (p1 : f h = some (.inr (1, [.ref mm, .int 0])))  : zCi l D cy yX7_memberNamed cX7_memberNamed 5 (Option.some Jvm.ClassFile.FieldType.int) rmX7_memberNamed [.ref o, .ref h, .int x] f (fun (r : Int32) (f1 : zM) => r = (-1) ∧ (∀ (b : Nat) (e : va_E), f b = some e → f1 b = some e)) := by
  intro sz
  refine z_body (by decide +kernel) (Nat.le_of_ble_eq_true rfl) ?_
  intro p e s m below meth c ls C hr hin hsz hz hl
  subst hsz
  have hx := C.1
  have hb := C.2.1
  have hA : ∀ q, s.heap.size ≤ q → zA f s.heap.size q := fun q h => Or.inr h
  have hS : va_S (zA f s.heap.size) s.heap s.heap [] := va_S.rf
  have hl : lv_has ls 5 [(0, .ref o), (1, .ref h), (2, .int x)] := hl
  refine lv_iconst (v := 0) hx hb dX7_memberNamed_0 (by decide) ?_
  refine lv_istore_n (lv' := [(3, .int 0), (0, .ref o), (1, .ref h), (2, .int x)]) hx hb dX7_memberNamed_1 rfl hl (by decide) rfl (fun ls hl => ?_)
  refine lv_iload_n hx hb dX7_memberNamed_2 rfl (lv_at hl 0 rfl) ?_
  refine lv_aload_n hx hb dX7_memberNamed_3 rfl (lv_at hl 2 rfl) ?_
  refine z_getN (v := .int 0) C hz p1 zl1 mFNX7_227 (by decide) rfl dX7_memberNamed_4 ?_
  refine lv_icmp_ge (tgt := 49) hx hb dX7_memberNamed_7 (by decide) (fun c1 => ?_) (fun c1 => ?_)
  rotate_left
  · exact absurd c1 (by decide)
  refine lv_iconst (v := (-1)) hx hb dX7_memberNamed_49 (by decide) ?_
  exact z_iret C hr rfl hz hS ⟨rfl, (fun b e hb => hb)⟩ (Nat.le_of_ble_eq_true rfl) (Nat.le_of_ble_eq_true rfl) dX7_memberNamed_50
abbrev rmX7_constant : Room := { frames := 2, cells := 1, slots := 2, locals := 34 }
set_option maxHeartbeats 4000000 in
set_option maxRecDepth 100000 in
theorem k_X7_constant (l : Launch) (D : va_G) (cy : Nat → ClassId) (f : zM) (o : Nat) (fa : Nat) (fi : Nat) (nu : Nat) (fm : Nat) (co : Nat) (en : Nat) (ke : Nat) (x : Int32) (y : Int32) (gc : Nat → Option Nat) (ge : Nat → Option Nat) (ea : Nat → Nat) (ma : Nat → Nat) (gm : Nat → Nat → Int32) (p0 : f o = some (.inr (7, [.ref fa, .ref fi, .ref nu, .int 0, .ref fm, .int 0, .ref co, .int 0, .ref en, .ref ke, .long 1]))) (p1 : f en = some (.inl (cy 6, 4, .inr (.inr (.inr (.inr ge)))))) (p2 : f co = some (.inl (cy 5, 60, .inr (.inr (.inr (.inr gc)))))) (hG : ∀ j, j < 4 → ge j = some (ea j)) (hE : ∀ j, j < 4 → f (ea j) = some (.inr (1, [.ref (ma j), .int 0]))) (hM : ∀ j, j < 4 → f (ma j) = some (.inl (cy 0, 60, .inl (gm j)))) : zCi l D cy yX7_constant cX7_constant 5 (Option.some Jvm.ClassFile.FieldType.int) rmX7_constant [.ref o, .int x, .int y] f (fun (r : Int32) (f1 : zM) => r = (if 0 ≤ x ∧ x < 4 then (if y < 0 then (-2) else if 10000 ≤ y then (-2) else 0) else (-2)) ∧ (∀ (b : Nat) (e : va_E), f b = some e → b ≠ o → b ≠ co → (∀ j9 : Nat, j9 < 4 → b ≠ ea j9) → (∀ j9 : Nat, j9 < 4 → b ≠ ma j9) → f1 b = some e)) := by
  intro sz
  refine z_body (by decide +kernel) (Nat.le_of_ble_eq_true rfl) ?_
  intro p e s m below meth c ls C hr hin hsz hz hl
  subst hsz
  have hx := C.1
  have hb := C.2.1
  have hA : ∀ q, s.heap.size ≤ q → zA f s.heap.size q := fun q h => Or.inr h
  have hS : va_S (zA f s.heap.size) s.heap s.heap [] := va_S.rf
  have hl : lv_has ls 5 [(0, .ref o), (1, .int x), (2, .int y)] := hl
  by_cases he : 0 ≤ x ∧ x < 4
  · obtain ⟨j, hj, hxj⟩ := z_ix4 he
    have pE := hE j hj
    have pM := hM j hj
    have pG := hG j hj
    refine lv_aload_n hx hb dX7_constant_0 rfl (lv_at hl 0 rfl) ?_
    refine lv_iload_n hx hb dX7_constant_1 rfl (lv_at hl 1 rfl) ?_
    refine z_callVq (As := [.int x]) C hz hS hA hl (k_X7_findEnumeration_A l D cy f o fa fi nu fm co en ke x ge j (ea j) p0 p1 hxj hj pG) zyX7_findEnumeration mMX7_204 p0 zl7 rfl rfl (Nat.le_of_ble_eq_true rfl) ⟨Nat.le_of_ble_eq_true rfl, Nat.le_of_ble_eq_true rfl⟩ ⟨Nat.le_of_ble_eq_true rfl, Nat.le_of_ble_eq_true rfl⟩ dX7_constant_2 (fun r f1 H locs h2 hz hS => ?_)
    obtain ⟨rfl, k3⟩ := h2
    refine W.eq (g2 := F0 m 5 ls [.ref (ea j)]) rfl ?_
    refine lv_astore_n (lv' := [(3, .ref (ea j)), (0, .ref o), (1, .int x), (2, .int y)]) hx hb dX7_constant_5 rfl hl (by decide) rfl (fun ls hl => ?_)
    refine lv_aload_n hx hb dX7_constant_6 rfl (lv_at hl 0 rfl) ?_
    refine lv_ifnull hx hb dX7_constant_7 ?_
    refine lv_iload_n hx hb dX7_constant_10 rfl (lv_at hl 3 rfl) ?_
    refine lv_if_lt (tgt := 31) hx hb dX7_constant_11 (by decide) (fun c4 => ?_) (fun c4 => ?_)
    · refine lv_bipush (v := (-2)) hx hb dX7_constant_31 (by decide) ?_
      exact z_iret C hr rfl hz hS ⟨(by simp [he, c4]), (by
            intro b e hb n0 n1 n2 n3
            have hb0 : f1 b = some e := k3 b e hb 
            exact hb0)⟩ (Nat.le_of_ble_eq_true rfl) (Nat.le_of_ble_eq_true rfl) dX7_constant_33
    · refine lv_iload_n hx hb dX7_constant_14 rfl (lv_at hl 3 rfl) ?_
      refine lv_sipush (v := 10000) hx hb dX7_constant_15 (by decide) ?_
      refine lv_icmp_ge (tgt := 31) hx hb dX7_constant_18 (by decide) (fun c5 => ?_) (fun c5 => ?_)
      · refine lv_bipush (v := (-2)) hx hb dX7_constant_31 (by decide) ?_
        exact z_iret C hr rfl hz hS ⟨(by simp [he, c4, c5]), (by
              intro b e hb n0 n1 n2 n3
              have hb0 : f1 b = some e := k3 b e hb 
              exact hb0)⟩ (Nat.le_of_ble_eq_true rfl) (Nat.le_of_ble_eq_true rfl) dX7_constant_33
      · refine lv_aload_n hx hb dX7_constant_21 rfl (lv_at hl 1 rfl) ?_
        refine lv_aload_n hx hb dX7_constant_22 rfl (lv_at hl 0 rfl) ?_
        refine lv_iload_n hx hb dX7_constant_23 rfl (lv_at hl 3 rfl) ?_
        have a6 : f1 o = some (.inr (7, [.ref fa, .ref fi, .ref nu, .int 0, .ref fm, .int 0, .ref co, .int 0, .ref en, .ref ke, .long 1])) := k3 _ _ p0 
        have a7 : f1 (ea j) = some (.inr (1, [.ref (ma j), .int 0])) := k3 _ _ pE 
        refine z_callVi (As := [.ref (ea j), .int y]) C hz hS hA hl (k_X7_memberNamed l D cy f1 o fa fi nu fm co en ke (ea j) y (ma j) a6 a7 ) zyX7_memberNamed mMX7_208 a6 zl7 rfl rfl (Nat.le_of_ble_eq_true rfl) ⟨Nat.le_of_ble_eq_true rfl, Nat.le_of_ble_eq_true rfl⟩ ⟨Nat.le_of_ble_eq_true rfl, Nat.le_of_ble_eq_true rfl⟩ dX7_constant_24 (fun r f8 H locs h9 hz hS => ?_)
        obtain ⟨rfl, k10⟩ := h9
        refine lv_iconst (v := (-1)) hx hb dX7_constant_27 (by decide) ?_
        refine lv_icmp_eq (tgt := 34) hx hb dX7_constant_28 (by decide) (fun c11 => ?_) (fun c11 => ?_)
        rotate_left
        · exact absurd c11 (by decide)
        refine lv_aload_n hx hb dX7_constant_34 rfl (lv_at hl 1 rfl) ?_
        have a12 : f8 o = some (.inr (7, [.ref fa, .ref fi, .ref nu, .int 0, .ref fm, .int 0, .ref co, .int 0, .ref en, .ref ke, .long 1])) := k10 _ _ a6 
        refine z_get (v := .int 0) C hz a12 zl7 mFX7_46 (by decide) rfl dX7_constant_35 ?_
        refine lv_bipush (v := 60) hx hb dX7_constant_38 (by decide) ?_
        refine lv_icmp_lt (tgt := 46) hx hb dX7_constant_40 (by decide) (fun c13 => ?_) (fun c13 => ?_)
        rotate_left
        · exact absurd c13 (by decide)
        refine lv_aload_n hx hb dX7_constant_46 rfl (lv_at hl 1 rfl) ?_
        refine z_get (v := .int 0) C hz a12 zl7 mFX7_46 (by decide) rfl dX7_constant_47 ?_
        refine lv_istore (lv' := [(4, .int 0), (3, .ref (ea j)), (0, .ref o), (1, .int x), (2, .int y)]) hx hb dX7_constant_50 hl (by decide) rfl (fun ls hl => ?_)
        refine lv_aload_n hx hb dX7_constant_52 rfl (lv_at hl 2 rfl) ?_
        refine z_get (v := .ref co) C hz a12 zl7 mFX7_42 (by decide) rfl dX7_constant_53 ?_
        refine lv_iload hx hb dX7_constant_56 (lv_at hl 0 rfl) ?_
        refine z_new (fs := [.int 0, .int 0]) C hz hS hA zl0 mLX7_40 mIa_RX0 mIn_RX0 (by decide +kernel) (Nat.le_of_ble_eq_true rfl) (Nat.le_of_ble_eq_true rfl) dX7_constant_58 (fun q14 H f16 u15 a17 k18 hz hS => ?_)
        refine lv_dup hx hb dX7_constant_61 rfl ?_
        refine lv_iload_n hx hb dX7_constant_62 rfl (lv_at hl 3 rfl) ?_
        refine lv_iload_n hx hb dX7_constant_63 rfl (lv_at hl 4 rfl) ?_
        refine z_callIv (ret := none) (As := [.int x, .int y]) C hz hS hA hl (k_X0_init l D cy f16 q14 x y a17 ) zyX0_init mMX7_212 rfl rfl (Nat.le_of_ble_eq_true rfl) ⟨Nat.le_of_ble_eq_true rfl, Nat.le_of_ble_eq_true rfl⟩ ⟨Nat.le_of_ble_eq_true rfl, Nat.le_of_ble_eq_true rfl⟩ dX7_constant_64 (fun  f19 H locs h20 hz hS => ?_)
        obtain ⟨a21, k22⟩ := h20
        have a23 : f1 co = some (.inl (cy 5, 60, .inr (.inr (.inr (.inr gc))))) := k3 _ _ p2 
        have a24 : f8 co = some (.inl (cy 5, 60, .inr (.inr (.inr (.inr gc))))) := k10 _ _ a23 
        have a25 : f16 co = some (.inl (cy 5, 60, .inr (.inr (.inr (.inr gc))))) := (k18 _ (z_nn u15 a24)).trans a24
        have a26 : f19 co = some (.inl (cy 5, 60, .inr (.inr (.inr (.inr gc))))) := k22 _ _ a25 (z_nn u15 a24)
        refine z_astq 0 C hz hS a26 rfl a21 zl0 (by decide) (Nat.le_of_ble_eq_true rfl) (by omega) dX7_constant_67 (fun H locs f27 a28 k29 hz hS => ?_)
        refine lv_aload_n hx hb dX7_constant_68 rfl (lv_at hl 2 rfl) ?_
        refine lv_dup hx hb dX7_constant_69 rfl ?_
        have a30 : f16 o = some (.inr (7, [.ref fa, .ref fi, .ref nu, .int 0, .ref fm, .int 0, .ref co, .int 0, .ref en, .ref ke, .long 1])) := (k18 _ (z_nn u15 a12)).trans a12
        have a31 : f19 o = some (.inr (7, [.ref fa, .ref fi, .ref nu, .int 0, .ref fm, .int 0, .ref co, .int 0, .ref en, .ref ke, .long 1])) := k22 _ _ a30 (z_nn u15 a12)
        have a32 : f27 o = some (.inr (7, [.ref fa, .ref fi, .ref nu, .int 0, .ref fm, .int 0, .ref co, .int 0, .ref en, .ref ke, .long 1])) := (k29 _ (z_ne a31 a26 rfl)).trans a31
        refine z_get (v := .int 0) C hz a32 zl7 mFX7_46 (by decide) rfl dX7_constant_70 ?_
        refine lv_iconst (v := 1) hx hb dX7_constant_73 (by decide) ?_
        refine lv_iadd hx hb dX7_constant_74 ?_
        refine z_put (fs' := [.ref fa, .ref fi, .ref nu, .int 0, .ref fm, .int 0, .ref co, .int (0 + 1), .ref en, .ref ke, .long 1]) C hz hS a32 zl7 mFX7_46 (by decide) rfl rfl rfl (Nat.le_of_ble_eq_true rfl) rfl dX7_constant_75 (fun H locs f33 a34 k35 hz hS => ?_)
        refine lv_aload_n hx hb dX7_constant_78 rfl (lv_at hl 1 rfl) ?_
        refine lv_iload hx hb dX7_constant_79 (lv_at hl 0 rfl) ?_
        have a36 : f8 (ea j) = some (.inr (1, [.ref (ma j), .int 0])) := k10 _ _ a7 
        have a37 : f16 (ea j) = some (.inr (1, [.ref (ma j), .int 0])) := (k18 _ (z_nn u15 a36)).trans a36
        have a38 : f19 (ea j) = some (.inr (1, [.ref (ma j), .int 0])) := k22 _ _ a37 (z_nn u15 a36)
        have a39 : f27 (ea j) = some (.inr (1, [.ref (ma j), .int 0])) := (k29 _ (z_ne a38 a26 rfl)).trans a38
        have a40 : f33 (ea j) = some (.inr (1, [.ref (ma j), .int 0])) := (k35 _ (z_ne a39 a32 rfl)).trans a39
        have a41 : f1 (ma j) = some (.inl (cy 0, 60, .inl (gm j))) := k3 _ _ pM 
        have a42 : f8 (ma j) = some (.inl (cy 0, 60, .inl (gm j))) := k10 _ _ a41 
        have a43 : f16 (ma j) = some (.inl (cy 0, 60, .inl (gm j))) := (k18 _ (z_nn u15 a42)).trans a42
        have a44 : f19 (ma j) = some (.inl (cy 0, 60, .inl (gm j))) := k22 _ _ a43 (z_nn u15 a42)
        have a45 : f27 (ma j) = some (.inl (cy 0, 60, .inl (gm j))) := (k29 _ (z_ne a44 a26 rfl)).trans a44
        have a46 : f33 (ma j) = some (.inl (cy 0, 60, .inl (gm j))) := (k35 _ (z_ne a45 a32 rfl)).trans a45
        refine z_callVv (As := [.int 0]) C hz hS hA hl (k_X1_append l D cy f33 (ea j) 0 (ma j) 0 (gm j) a40 a46 (by decide)) zyX1_append mMX7_214 a40 zl1 rfl rfl (Nat.le_of_ble_eq_true rfl) ⟨Nat.le_of_ble_eq_true rfl, Nat.le_of_ble_eq_true rfl⟩ ⟨Nat.le_of_ble_eq_true rfl, Nat.le_of_ble_eq_true rfl⟩ dX7_constant_81 (fun  f47 H locs h48 hz hS => ?_)
        obtain ⟨a49, a50, k51⟩ := h48
        refine lv_iload hx hb dX7_constant_84 (lv_at hl 0 rfl) ?_
        exact z_iret C hr rfl hz hS ⟨(by simp [he, c4, c5, c11, c13]), (by
              intro b e hb n0 n1 n2 n3
              have hb0 : f1 b = some e := k3 b e hb 
              have hb1 : f8 b = some e := k10 b e hb0 
              have nn2 : b ≠ q14 := z_nn u15 hb1
              have hb2 : f16 b = some e := (k18 b nn2).trans hb1
              have hb3 : f19 b = some e := k22 b e hb2 nn2
              have hb4 : f27 b = some e := (k29 b n1).trans hb3
              have hb5 : f33 b = some e := (k35 b n0).trans hb4
              have hb6 : f47 b = some e := k51 b e hb5 (n2 j hj) (n3 j hj)
              exact hb6)⟩ (Nat.le_of_ble_eq_true rfl) (Nat.le_of_ble_eq_true rfl) dX7_constant_86
  · refine lv_aload_n hx hb dX7_constant_0 rfl (lv_at hl 0 rfl) ?_
    refine lv_iload_n hx hb dX7_constant_1 rfl (lv_at hl 1 rfl) ?_
    refine z_callVq (As := [.int x]) C hz hS hA hl (k_X7_findEnumeration_B l D cy f o fa fi nu fm co en ke x p0 he) zyX7_findEnumeration mMX7_204 p0 zl7 rfl rfl (Nat.le_of_ble_eq_true rfl) ⟨Nat.le_of_ble_eq_true rfl, Nat.le_of_ble_eq_true rfl⟩ ⟨Nat.le_of_ble_eq_true rfl, Nat.le_of_ble_eq_true rfl⟩ dX7_constant_2 (fun r f52 H locs h53 hz hS => ?_)
    obtain ⟨rfl, k54⟩ := h53
    refine W.eq (g2 := F0 m 5 ls [.null]) rfl ?_
    refine lv_astore_nN (lv' := [(3, .null), (0, .ref o), (1, .int x), (2, .int y)]) hx hb dX7_constant_5 rfl hl (by decide) rfl (fun ls hl => ?_)
    refine lv_aload_nN hx hb dX7_constant_6 rfl (lv_at hl 0 rfl) ?_
    refine lv_ifnullN (tgt := 31) hx hb dX7_constant_7 (by decide) ?_
    refine lv_bipush (v := (-2)) hx hb dX7_constant_31 (by decide) ?_
    exact z_iret C hr rfl hz hS ⟨(by simp [he]), (by
          intro b e hb n0 n1 n2 n3
          have hb0 : f52 b = some e := k54 b e hb 
          exact hb0)⟩ (Nat.le_of_ble_eq_true rfl) (Nat.le_of_ble_eq_true rfl) dX7_constant_33
abbrev rmX7_named : Room := { frames := 2, cells := 0, slots := 0, locals := 43 }
set_option maxHeartbeats 4000000 in
set_option maxRecDepth 100000 in
theorem k_X7_named (l : Launch) (D : va_G) (cy : Nat → ClassId) (f : zM) (o : Nat) (fa : Nat) (fi : Nat) (nu : Nat) (fm : Nat) (co : Nat) (en : Nat) (ke : Nat) (x : Int32) (y : Int32) (u1 : Int32) (u2 : Int32) (u3 : Int32) (ev : Nat) (g : Nat → Int32) (ge : Nat → Option Nat) (ea : Nat → Nat) (ma : Nat → Nat) (gm : Nat → Nat → Int32) (p0 : f o = some (.inr (7, [.ref fa, .ref fi, .ref nu, .int 0, .ref fm, .int 0, .ref co, .int 0, .ref en, .ref ke, .long 1]))) (p1 : f fa = some (.inr (2, [.int u1, .int u2, .int u3, .ref ev]))) (p2 : f ev = some (.inl (cy 0, 8, .inl g))) (p3 : f en = some (.inl (cy 6, 4, .inr (.inr (.inr (.inr ge)))))) (hG : ∀ j, j < 4 → ge j = some (ea j)) (hE : ∀ j, j < 4 → f (ea j) = some (.inr (1, [.ref (ma j), .int 0]))) (hM : ∀ j, j < 4 → f (ma j) = some (.inl (cy 0, 60, .inl (gm j)))) : zCi l D cy yX7_named cX7_named 5 (Option.some Jvm.ClassFile.FieldType.int) rmX7_named [.ref o, .int x, .int y] f (fun (r : Int32) (f1 : zM) => r = (if 0 ≤ x ∧ x < 4 then (-4) else (-2)) ∧ (∀ (b : Nat) (e : va_E), f b = some e → b ≠ fa → b ≠ ev → f1 b = some e)) := by
  intro sz
  refine z_body (by decide +kernel) (Nat.le_of_ble_eq_true rfl) ?_
  intro p e s m below meth c ls C hr hin hsz hz hl
  subst hsz
  have hx := C.1
  have hb := C.2.1
  have hA : ∀ q, s.heap.size ≤ q → zA f s.heap.size q := fun q h => Or.inr h
  have hS : va_S (zA f s.heap.size) s.heap s.heap [] := va_S.rf
  have hl : lv_has ls 5 [(0, .ref o), (1, .int x), (2, .int y)] := hl
  by_cases he : 0 ≤ x ∧ x < 4
  · obtain ⟨j, hj, hxj⟩ := z_ix4 he
    have pE := hE j hj
    have pM := hM j hj
    have pG := hG j hj
    refine lv_aload_n hx hb dX7_named_0 rfl (lv_at hl 0 rfl) ?_
    refine z_get (v := .ref fa) C hz p0 zl7 mFX7_10 (by decide) rfl dX7_named_1 ?_
    refine z_callVv (As := []) C hz hS hA hl (k_X2_none l D cy f fa u1 u2 u3 ev p1 ) zyX2_none mMX7_76 p1 zl2 rfl rfl (Nat.le_of_ble_eq_true rfl) ⟨Nat.le_of_ble_eq_true rfl, Nat.le_of_ble_eq_true rfl⟩ ⟨Nat.le_of_ble_eq_true rfl, Nat.le_of_ble_eq_true rfl⟩ dX7_named_4 (fun  f1 H locs h2 hz hS => ?_)
    obtain ⟨a3, k4⟩ := h2
    refine lv_aload_n hx hb dX7_named_7 rfl (lv_at hl 0 rfl) ?_
    refine lv_iload_n hx hb dX7_named_8 rfl (lv_at hl 1 rfl) ?_
    have a5 : f1 o = some (.inr (7, [.ref fa, .ref fi, .ref nu, .int 0, .ref fm, .int 0, .ref co, .int 0, .ref en, .ref ke, .long 1])) := k4 _ _ p0 (z_ne p0 p1 rfl)
    have a6 : f1 en = some (.inl (cy 6, 4, .inr (.inr (.inr (.inr ge))))) := k4 _ _ p3 (z_ne p3 p1 rfl)
    refine z_callVq (As := [.int x]) C hz hS hA hl (k_X7_findEnumeration_A l D cy f1 o fa fi nu fm co en ke x ge j (ea j) a5 a6 hxj hj pG) zyX7_findEnumeration mMX7_204 a5 zl7 rfl rfl (Nat.le_of_ble_eq_true rfl) ⟨Nat.le_of_ble_eq_true rfl, Nat.le_of_ble_eq_true rfl⟩ ⟨Nat.le_of_ble_eq_true rfl, Nat.le_of_ble_eq_true rfl⟩ dX7_named_9 (fun r f7 H locs h8 hz hS => ?_)
    obtain ⟨rfl, k9⟩ := h8
    refine W.eq (g2 := F0 m 12 ls [.ref (ea j)]) rfl ?_
    refine lv_astore_n (lv' := [(3, .ref (ea j)), (0, .ref o), (1, .int x), (2, .int y)]) hx hb dX7_named_12 rfl hl (by decide) rfl (fun ls hl => ?_)
    refine lv_aload_n hx hb dX7_named_13 rfl (lv_at hl 0 rfl) ?_
    refine lv_ifnonnull (tgt := 20) hx hb dX7_named_14 (by decide) ?_
    refine lv_aload_n hx hb dX7_named_20 rfl (lv_at hl 1 rfl) ?_
    refine lv_aload_n hx hb dX7_named_21 rfl (lv_at hl 0 rfl) ?_
    refine lv_iload_n hx hb dX7_named_22 rfl (lv_at hl 3 rfl) ?_
    have a10 : f7 o = some (.inr (7, [.ref fa, .ref fi, .ref nu, .int 0, .ref fm, .int 0, .ref co, .int 0, .ref en, .ref ke, .long 1])) := k9 _ _ a5 
    have a11 : f1 (ea j) = some (.inr (1, [.ref (ma j), .int 0])) := k4 _ _ pE (z_ne pE p1 rfl)
    have a12 : f7 (ea j) = some (.inr (1, [.ref (ma j), .int 0])) := k9 _ _ a11 
    refine z_callVi (As := [.ref (ea j), .int y]) C hz hS hA hl (k_X7_memberNamed l D cy f7 o fa fi nu fm co en ke (ea j) y (ma j) a10 a12 ) zyX7_memberNamed mMX7_208 a10 zl7 rfl rfl (Nat.le_of_ble_eq_true rfl) ⟨Nat.le_of_ble_eq_true rfl, Nat.le_of_ble_eq_true rfl⟩ ⟨Nat.le_of_ble_eq_true rfl, Nat.le_of_ble_eq_true rfl⟩ dX7_named_23 (fun r f13 H locs h14 hz hS => ?_)
    obtain ⟨rfl, k15⟩ := h14
    refine lv_istore (lv' := [(4, .int (-1)), (3, .ref (ea j)), (0, .ref o), (1, .int x), (2, .int y)]) hx hb dX7_named_26 hl (by decide) rfl (fun ls hl => ?_)
    refine lv_iload hx hb dX7_named_28 (lv_at hl 0 rfl) ?_
    refine lv_iconst (v := (-1)) hx hb dX7_named_30 (by decide) ?_
    refine lv_icmp_ne (tgt := 45) hx hb dX7_named_31 (by decide) (fun c16 => ?_) (fun c16 => ?_)
    · exact absurd c16 (by decide)
    refine lv_aload_n hx hb dX7_named_34 rfl (lv_at hl 2 rfl) ?_
    have a17 : f13 o = some (.inr (7, [.ref fa, .ref fi, .ref nu, .int 0, .ref fm, .int 0, .ref co, .int 0, .ref en, .ref ke, .long 1])) := k15 _ _ a10 
    refine z_get (v := .ref fa) C hz a17 zl7 mFX7_10 (by decide) rfl dX7_named_35 ?_
    refine lv_iconst (v := 1) hx hb dX7_named_38 (by decide) ?_
    have a18 : f7 fa = some (.inr (2, [.int 0, .int (-1), .int 0, .ref ev])) := k9 _ _ a3 
    have a19 : f13 fa = some (.inr (2, [.int 0, .int (-1), .int 0, .ref ev])) := k15 _ _ a18 
    have a20 : f1 ev = some (.inl (cy 0, 8, .inl g)) := k4 _ _ p2 (z_ne p2 p1 rfl)
    have a21 : f7 ev = some (.inl (cy 0, 8, .inl g)) := k9 _ _ a20 
    have a22 : f13 ev = some (.inl (cy 0, 8, .inl g)) := k15 _ _ a21 
    refine z_callVi (As := [.int 1]) C hz hS hA hl (k_X2_inNoPart l D cy f13 fa 1 0 (-1) 0 ev g 1 a19 a22 (by decide) (Nat.le_of_ble_eq_true rfl)) zyX2_inNoPart mMX7_140 a19 zl2 rfl rfl (Nat.le_of_ble_eq_true rfl) ⟨Nat.le_of_ble_eq_true rfl, Nat.le_of_ble_eq_true rfl⟩ ⟨Nat.le_of_ble_eq_true rfl, Nat.le_of_ble_eq_true rfl⟩ dX7_named_39 (fun r f23 H locs h24 hz hS => ?_)
    obtain ⟨rfl, a25, a26, k27⟩ := h24
    refine lv_goto (tgt := 47) hx hb dX7_named_42 (by decide) ?_
    exact z_iret C hr rfl hz hS ⟨(by simp [he, c16]), (by
          intro b e hb n0 n1
          have hb0 : f1 b = some e := k4 b e hb n0
          have hb1 : f7 b = some e := k9 b e hb0 
          have hb2 : f13 b = some e := k15 b e hb1 
          have hb3 : f23 b = some e := k27 b e hb2 n0 n1
          exact hb3)⟩ (Nat.le_of_ble_eq_true rfl) (Nat.le_of_ble_eq_true rfl) dX7_named_47
  · refine lv_aload_n hx hb dX7_named_0 rfl (lv_at hl 0 rfl) ?_
    refine z_get (v := .ref fa) C hz p0 zl7 mFX7_10 (by decide) rfl dX7_named_1 ?_
    refine z_callVv (As := []) C hz hS hA hl (k_X2_none l D cy f fa u1 u2 u3 ev p1 ) zyX2_none mMX7_76 p1 zl2 rfl rfl (Nat.le_of_ble_eq_true rfl) ⟨Nat.le_of_ble_eq_true rfl, Nat.le_of_ble_eq_true rfl⟩ ⟨Nat.le_of_ble_eq_true rfl, Nat.le_of_ble_eq_true rfl⟩ dX7_named_4 (fun  f28 H locs h29 hz hS => ?_)
    obtain ⟨a30, k31⟩ := h29
    refine lv_aload_n hx hb dX7_named_7 rfl (lv_at hl 0 rfl) ?_
    refine lv_iload_n hx hb dX7_named_8 rfl (lv_at hl 1 rfl) ?_
    have a32 : f28 o = some (.inr (7, [.ref fa, .ref fi, .ref nu, .int 0, .ref fm, .int 0, .ref co, .int 0, .ref en, .ref ke, .long 1])) := k31 _ _ p0 (z_ne p0 p1 rfl)
    refine z_callVq (As := [.int x]) C hz hS hA hl (k_X7_findEnumeration_B l D cy f28 o fa fi nu fm co en ke x a32 he) zyX7_findEnumeration mMX7_204 a32 zl7 rfl rfl (Nat.le_of_ble_eq_true rfl) ⟨Nat.le_of_ble_eq_true rfl, Nat.le_of_ble_eq_true rfl⟩ ⟨Nat.le_of_ble_eq_true rfl, Nat.le_of_ble_eq_true rfl⟩ dX7_named_9 (fun r f33 H locs h34 hz hS => ?_)
    obtain ⟨rfl, k35⟩ := h34
    refine W.eq (g2 := F0 m 12 ls [.null]) rfl ?_
    refine lv_astore_nN (lv' := [(3, .null), (0, .ref o), (1, .int x), (2, .int y)]) hx hb dX7_named_12 rfl hl (by decide) rfl (fun ls hl => ?_)
    refine lv_aload_nN hx hb dX7_named_13 rfl (lv_at hl 0 rfl) ?_
    refine lv_ifnonnullN hx hb dX7_named_14 ?_
    refine lv_bipush (v := (-2)) hx hb dX7_named_17 (by decide) ?_
    exact z_iret C hr rfl hz hS ⟨(by simp [he]), (by
          intro b e hb n0 n1
          have hb0 : f28 b = some e := k31 b e hb n0
          have hb1 : f33 b = some e := k35 b e hb0 
          exact hb1)⟩ (Nat.le_of_ble_eq_true rfl) (Nat.le_of_ble_eq_true rfl) dX7_named_19
abbrev rmX7_drop : Room := { frames := 2, cells := 0, slots := 0, locals := 43 }
set_option maxHeartbeats 4000000 in
set_option maxRecDepth 100000 in
theorem k_X7_drop (l : Launch) (D : va_G) (cy : Nat → ClassId) (f : zM) (o : Nat) (fa : Nat) (fi : Nat) (nu : Nat) (fm : Nat) (co : Nat) (en : Nat) (ke : Nat) (x : Int32) (p0 : f o = some (.inr (7, [.ref fa, .ref fi, .ref nu, .int 0, .ref fm, .int 0, .ref co, .int 0, .ref en, .ref ke, .long 1])))  : zCi l D cy yX7_drop cX7_drop 4 (Option.some Jvm.ClassFile.FieldType.int) rmX7_drop [.ref o, .int x] f (fun (r : Int32) (f1 : zM) => r = (-2) ∧ (∀ (b : Nat) (e : va_E), f b = some e → f1 b = some e)) := by
  intro sz
  refine z_body (by decide +kernel) (Nat.le_of_ble_eq_true rfl) ?_
  intro p e s m below meth c ls C hr hin hsz hz hl
  subst hsz
  have hx := C.1
  have hb := C.2.1
  have hA : ∀ q, s.heap.size ≤ q → zA f s.heap.size q := fun q h => Or.inr h
  have hS : va_S (zA f s.heap.size) s.heap s.heap [] := va_S.rf
  have hl : lv_has ls 4 [(0, .ref o), (1, .int x)] := hl
  refine lv_aload_n hx hb dX7_drop_0 rfl (lv_at hl 0 rfl) ?_
  refine lv_iload_n hx hb dX7_drop_1 rfl (lv_at hl 1 rfl) ?_
  refine z_callVq (As := [.int x]) C hz hS hA hl (k_X7_homeOf l D cy f o fa fi nu fm co en ke x p0 ) zyX7_homeOf mMX7_218 p0 zl7 rfl rfl (Nat.le_of_ble_eq_true rfl) ⟨Nat.le_of_ble_eq_true rfl, Nat.le_of_ble_eq_true rfl⟩ ⟨Nat.le_of_ble_eq_true rfl, Nat.le_of_ble_eq_true rfl⟩ dX7_drop_2 (fun r f1 H locs h2 hz hS => ?_)
  obtain ⟨rfl, k3⟩ := h2
  refine W.eq (g2 := F0 m 5 ls [.null]) rfl ?_
  refine lv_astore_nN (lv' := [(2, .null), (0, .ref o), (1, .int x)]) hx hb dX7_drop_5 rfl hl (by decide) rfl (fun ls hl => ?_)
  refine lv_aload_nN hx hb dX7_drop_6 rfl (lv_at hl 0 rfl) ?_
  refine lv_ifnonnullN hx hb dX7_drop_7 ?_
  refine lv_iconst (v := (-1)) hx hb dX7_drop_10 (by decide) ?_
  refine lv_goto (tgt := 19) hx hb dX7_drop_11 (by decide) ?_
  refine lv_istore_n (lv' := [(3, .int (-1)), (2, .null), (0, .ref o), (1, .int x)]) hx hb dX7_drop_19 rfl hl (by decide) rfl (fun ls hl => ?_)
  refine lv_iload_n hx hb dX7_drop_20 rfl (lv_at hl 0 rfl) ?_
  refine lv_iconst (v := (-1)) hx hb dX7_drop_21 (by decide) ?_
  refine lv_icmp_ne (tgt := 28) hx hb dX7_drop_22 (by decide) (fun c4 => ?_) (fun c4 => ?_)
  · exact absurd c4 (by decide)
  refine lv_bipush (v := (-2)) hx hb dX7_drop_25 (by decide) ?_
  exact z_iret C hr rfl hz hS ⟨rfl, (by
        intro b e hb 
        have hb0 : f1 b = some e := k3 b e hb 
        exact hb0)⟩ (Nat.le_of_ble_eq_true rfl) (Nat.le_of_ble_eq_true rfl) dX7_drop_27
abbrev rmX7_reorder : Room := { frames := 1, cells := 0, slots := 0, locals := 21 }
set_option maxHeartbeats 4000000 in
set_option maxRecDepth 100000 in
theorem k_X7_reorder (l : Launch) (D : va_G) (cy : Nat → ClassId) (f : zM) (o : Nat) (fa : Nat) (fi : Nat) (nu : Nat) (fm : Nat) (co : Nat) (en : Nat) (ke : Nat) (x : Int32) (ge : Nat → Option Nat) (ea : Nat → Nat) (ma : Nat → Nat) (gm : Nat → Nat → Int32) (p0 : f o = some (.inr (7, [.ref fa, .ref fi, .ref nu, .int 0, .ref fm, .int 0, .ref co, .int 0, .ref en, .ref ke, .long 1]))) (p1 : f en = some (.inl (cy 6, 4, .inr (.inr (.inr (.inr ge)))))) (hG : ∀ j, j < 4 → ge j = some (ea j)) (hE : ∀ j, j < 4 → f (ea j) = some (.inr (1, [.ref (ma j), .int 0]))) (hM : ∀ j, j < 4 → f (ma j) = some (.inl (cy 0, 60, .inl (gm j)))) : zCi l D cy yX7_reorder cX7_reorder 4 (Option.some Jvm.ClassFile.FieldType.int) rmX7_reorder [.ref o, .int x] f (fun (r : Int32) (f1 : zM) => r = (if 0 ≤ x ∧ x < 4 then 0 else (-2)) ∧ (∀ (b : Nat) (e : va_E), f b = some e → f1 b = some e)) := by
  intro sz
  refine z_body (by decide +kernel) (Nat.le_of_ble_eq_true rfl) ?_
  intro p e s m below meth c ls C hr hin hsz hz hl
  subst hsz
  have hx := C.1
  have hb := C.2.1
  have hA : ∀ q, s.heap.size ≤ q → zA f s.heap.size q := fun q h => Or.inr h
  have hS : va_S (zA f s.heap.size) s.heap s.heap [] := va_S.rf
  have hl : lv_has ls 4 [(0, .ref o), (1, .int x)] := hl
  by_cases he : 0 ≤ x ∧ x < 4
  · obtain ⟨j, hj, hxj⟩ := z_ix4 he
    have pE := hE j hj
    have pM := hM j hj
    have pG := hG j hj
    refine lv_aload_n hx hb dX7_reorder_0 rfl (lv_at hl 0 rfl) ?_
    refine lv_iload_n hx hb dX7_reorder_1 rfl (lv_at hl 1 rfl) ?_
    refine z_callVq (As := [.int x]) C hz hS hA hl (k_X7_findEnumeration_A l D cy f o fa fi nu fm co en ke x ge j (ea j) p0 p1 hxj hj pG) zyX7_findEnumeration mMX7_204 p0 zl7 rfl rfl (Nat.le_of_ble_eq_true rfl) ⟨Nat.le_of_ble_eq_true rfl, Nat.le_of_ble_eq_true rfl⟩ ⟨Nat.le_of_ble_eq_true rfl, Nat.le_of_ble_eq_true rfl⟩ dX7_reorder_2 (fun r f1 H locs h2 hz hS => ?_)
    obtain ⟨rfl, k3⟩ := h2
    refine W.eq (g2 := F0 m 5 ls [.ref (ea j)]) rfl ?_
    refine lv_astore_n (lv' := [(2, .ref (ea j)), (0, .ref o), (1, .int x)]) hx hb dX7_reorder_5 rfl hl (by decide) rfl (fun ls hl => ?_)
    refine lv_aload_n hx hb dX7_reorder_6 rfl (lv_at hl 0 rfl) ?_
    refine lv_ifnonnull (tgt := 13) hx hb dX7_reorder_7 (by decide) ?_
    refine lv_aload_n hx hb dX7_reorder_13 rfl (lv_at hl 0 rfl) ?_
    have a4 : f1 (ea j) = some (.inr (1, [.ref (ma j), .int 0])) := k3 _ _ pE 
    refine z_getN (v := .int 0) C hz a4 zl1 mFNX7_227 (by decide) rfl dX7_reorder_14 ?_
    refine lv_iconst (v := 1) hx hb dX7_reorder_17 (by decide) ?_
    refine lv_isub hx hb dX7_reorder_18 ?_
    refine lv_topi (fun y5 e6 => ?_)
    obtain rfl : y5 = (-1) := e6.trans (by decide)
    refine lv_istore_n (lv' := [(3, .int (-1)), (2, .ref (ea j)), (0, .ref o), (1, .int x)]) hx hb dX7_reorder_19 rfl hl (by decide) rfl (fun ls hl => ?_)
    refine lv_iload_n hx hb dX7_reorder_20 rfl (lv_at hl 0 rfl) ?_
    refine lv_iconst (v := 1) hx hb dX7_reorder_21 (by decide) ?_
    refine lv_icmp_lt (tgt := 43) hx hb dX7_reorder_22 (by decide) (fun c7 => ?_) (fun c7 => ?_)
    rotate_left
    · exact absurd c7 (by decide)
    refine lv_aload_n hx hb dX7_reorder_43 rfl (lv_at hl 1 rfl) ?_
    refine z_getN (v := .int 0) C hz a4 zl1 mFNX7_227 (by decide) rfl dX7_reorder_44 ?_
    exact z_iret C hr rfl hz hS ⟨(by simp [he, c7]), (by
          intro b e hb 
          have hb0 : f1 b = some e := k3 b e hb 
          exact hb0)⟩ (Nat.le_of_ble_eq_true rfl) (Nat.le_of_ble_eq_true rfl) dX7_reorder_47
  · refine lv_aload_n hx hb dX7_reorder_0 rfl (lv_at hl 0 rfl) ?_
    refine lv_iload_n hx hb dX7_reorder_1 rfl (lv_at hl 1 rfl) ?_
    refine z_callVq (As := [.int x]) C hz hS hA hl (k_X7_findEnumeration_B l D cy f o fa fi nu fm co en ke x p0 he) zyX7_findEnumeration mMX7_204 p0 zl7 rfl rfl (Nat.le_of_ble_eq_true rfl) ⟨Nat.le_of_ble_eq_true rfl, Nat.le_of_ble_eq_true rfl⟩ ⟨Nat.le_of_ble_eq_true rfl, Nat.le_of_ble_eq_true rfl⟩ dX7_reorder_2 (fun r f8 H locs h9 hz hS => ?_)
    obtain ⟨rfl, k10⟩ := h9
    refine W.eq (g2 := F0 m 5 ls [.null]) rfl ?_
    refine lv_astore_nN (lv' := [(2, .null), (0, .ref o), (1, .int x)]) hx hb dX7_reorder_5 rfl hl (by decide) rfl (fun ls hl => ?_)
    refine lv_aload_nN hx hb dX7_reorder_6 rfl (lv_at hl 0 rfl) ?_
    refine lv_ifnonnullN hx hb dX7_reorder_7 ?_
    refine lv_bipush (v := (-2)) hx hb dX7_reorder_10 (by decide) ?_
    exact z_iret C hr rfl hz hS ⟨(by simp [he]), (by
          intro b e hb 
          have hb0 : f8 b = some e := k10 b e hb 
          exact hb0)⟩ (Nat.le_of_ble_eq_true rfl) (Nat.le_of_ble_eq_true rfl) dX7_reorder_12
abbrev rmX7_seed : Room := { frames := 0, cells := 0, slots := 0, locals := 0 }
set_option maxHeartbeats 4000000 in
set_option maxRecDepth 100000 in
theorem k_X7_seed (l : Launch) (D : va_G) (cy : Nat → ClassId) (f : zM) (o : Nat) (fa : Nat) (fi : Nat) (nu : Nat) (fm : Nat) (co : Nat) (en : Nat) (ke : Nat) (x : Int32) (p0 : f o = some (.inr (7, [.ref fa, .ref fi, .ref nu, .int 0, .ref fm, .int 0, .ref co, .int 0, .ref en, .ref ke, .long 1])))  : zCi l D cy yX7_seed cX7_seed 3 (Option.some Jvm.ClassFile.FieldType.int) rmX7_seed [.ref o, .int x] f (fun (r : Int32) (f1 : zM) => r = (if x < 1 then (-2) else if x = 2147483647 then (-2) else 1) ∧ (∀ (b : Nat) (e : va_E), f b = some e → b ≠ o → f1 b = some e)) := by
  intro sz
  refine z_body (by decide +kernel) (Nat.le_of_ble_eq_true rfl) ?_
  intro p e s m below meth c ls C hr hin hsz hz hl
  subst hsz
  have hx := C.1
  have hb := C.2.1
  have hA : ∀ q, s.heap.size ≤ q → zA f s.heap.size q := fun q h => Or.inr h
  have hS : va_S (zA f s.heap.size) s.heap s.heap [] := va_S.rf
  have hl : lv_has ls 3 [(0, .ref o), (1, .int x)] := hl
  refine lv_iload_n hx hb dX7_seed_0 rfl (lv_at hl 1 rfl) ?_
  refine lv_iconst (v := 1) hx hb dX7_seed_1 (by decide) ?_
  refine lv_icmp_lt (tgt := 14) hx hb dX7_seed_2 (by decide) (fun c1 => ?_) (fun c1 => ?_)
  · refine lv_bipush (v := (-2)) hx hb dX7_seed_14 (by decide) ?_
    exact z_iret C hr rfl hz hS ⟨(by simp [c1]), (fun b e hb n0 => hb)⟩ (Nat.le_of_ble_eq_true rfl) (Nat.le_of_ble_eq_true rfl) dX7_seed_16
  · refine lv_iload_n hx hb dX7_seed_5 rfl (lv_at hl 1 rfl) ?_
    refine lv_i2l (v := x.toInt64) hx hb dX7_seed_6 rfl ?_
    refine lv_ldc2 (v := 2147483647) hx hb C.2.2.2.1 (C.2.2.2.2.1 _ mKX7_236) dX7_seed_7 ?_
    refine W.lcmp hx hb dX7_seed_10 ?_
    refine lv_if_lt (tgt := 17) hx hb dX7_seed_11 (by decide) (fun c2 => ?_) (fun c2 => ?_)
    · refine lv_aload_n hx hb dX7_seed_17 rfl (lv_at hl 0 rfl) ?_
      refine z_get (v := .long 1) C hz p0 zl7 mFX7_62 (by decide) rfl dX7_seed_18 ?_
      refine lv_l2i (v := (1 : Int64).toInt32) hx hb dX7_seed_21 rfl ?_
      refine lv_topi (fun y3 e4 => ?_)
      obtain rfl : y3 = 1 := e4.trans (by decide)
      refine lv_istore_n (lv' := [(2, .int 1), (0, .ref o), (1, .int x)]) hx hb dX7_seed_22 rfl hl (by decide) rfl (fun ls hl => ?_)
      refine lv_aload_n hx hb dX7_seed_23 rfl (lv_at hl 1 rfl) ?_
      refine lv_iload_n hx hb dX7_seed_24 rfl (lv_at hl 2 rfl) ?_
      refine lv_i2l (v := x.toInt64) hx hb dX7_seed_25 rfl ?_
      refine z_put (fs' := [.ref fa, .ref fi, .ref nu, .int 0, .ref fm, .int 0, .ref co, .int 0, .ref en, .ref ke, .long x.toInt64]) C hz hS p0 zl7 mFX7_62 (by decide) rfl rfl rfl (Nat.le_of_ble_eq_true rfl) rfl dX7_seed_26 (fun H locs f5 a6 k7 hz hS => ?_)
      refine lv_iload_n hx hb dX7_seed_29 rfl (lv_at hl 0 rfl) ?_
      exact z_iret C hr rfl hz hS ⟨(by have hs := z_seed x; rw [if_neg c1]; simp [hs] at c2; simp [c2]), (by
            intro b e hb n0
            have hb0 : f5 b = some e := (k7 b n0).trans hb
            exact hb0)⟩ (Nat.le_of_ble_eq_true rfl) (Nat.le_of_ble_eq_true rfl) dX7_seed_30
    · refine lv_bipush (v := (-2)) hx hb dX7_seed_14 (by decide) ?_
      exact z_iret C hr rfl hz hS ⟨(by have hs := z_seed x; rw [if_neg c1]; simp [hs] at c2; simp [c2]), (fun b e hb n0 => hb)⟩ (Nat.le_of_ble_eq_true rfl) (Nat.le_of_ble_eq_true rfl) dX7_seed_16
abbrev rmX7_told : Room := { frames := 2, cells := 0, slots := 0, locals := 43 }
set_option maxHeartbeats 4000000 in
set_option maxRecDepth 100000 in
theorem k_X7_told (l : Launch) (D : va_G) (cy : Nat → ClassId) (f : zM) (o : Nat) (fa : Nat) (fi : Nat) (nu : Nat) (fm : Nat) (co : Nat) (en : Nat) (ke : Nat) (x : Int32) (y : Int32) (p0 : f o = some (.inr (7, [.ref fa, .ref fi, .ref nu, .int 0, .ref fm, .int 0, .ref co, .int 0, .ref en, .ref ke, .long 1])))  : zCi l D cy yX7_told cX7_told 5 (Option.some Jvm.ClassFile.FieldType.int) rmX7_told [.ref o, .int x, .int y] f (fun (r : Int32) (f1 : zM) => r = (-2) ∧ (∀ (b : Nat) (e : va_E), f b = some e → f1 b = some e)) := by
  intro sz
  refine z_body (by decide +kernel) (Nat.le_of_ble_eq_true rfl) ?_
  intro p e s m below meth c ls C hr hin hsz hz hl
  subst hsz
  have hx := C.1
  have hb := C.2.1
  have hA : ∀ q, s.heap.size ≤ q → zA f s.heap.size q := fun q h => Or.inr h
  have hS : va_S (zA f s.heap.size) s.heap s.heap [] := va_S.rf
  have hl : lv_has ls 5 [(0, .ref o), (1, .int x), (2, .int y)] := hl
  refine lv_aload_n hx hb dX7_told_0 rfl (lv_at hl 0 rfl) ?_
  refine lv_iload_n hx hb dX7_told_1 rfl (lv_at hl 1 rfl) ?_
  refine z_callVq (As := [.int x]) C hz hS hA hl (k_X7_findConstant l D cy f o fa fi nu fm co en ke x p0 ) zyX7_findConstant mMX7_238 p0 zl7 rfl rfl (Nat.le_of_ble_eq_true rfl) ⟨Nat.le_of_ble_eq_true rfl, Nat.le_of_ble_eq_true rfl⟩ ⟨Nat.le_of_ble_eq_true rfl, Nat.le_of_ble_eq_true rfl⟩ dX7_told_2 (fun r f1 H locs h2 hz hS => ?_)
  obtain ⟨rfl, k3⟩ := h2
  refine W.eq (g2 := F0 m 5 ls [.null]) rfl ?_
  refine lv_astore_nN (lv' := [(3, .null), (0, .ref o), (1, .int x), (2, .int y)]) hx hb dX7_told_5 rfl hl (by decide) rfl (fun ls hl => ?_)
  refine lv_aload_n hx hb dX7_told_6 rfl (lv_at hl 1 rfl) ?_
  refine lv_iload_n hx hb dX7_told_7 rfl (lv_at hl 2 rfl) ?_
  have a4 : f1 o = some (.inr (7, [.ref fa, .ref fi, .ref nu, .int 0, .ref fm, .int 0, .ref co, .int 0, .ref en, .ref ke, .long 1])) := k3 _ _ p0 
  refine z_callVq (As := [.int x]) C hz hS hA hl (k_X7_homeOf l D cy f1 o fa fi nu fm co en ke x a4 ) zyX7_homeOf mMX7_218 a4 zl7 rfl rfl (Nat.le_of_ble_eq_true rfl) ⟨Nat.le_of_ble_eq_true rfl, Nat.le_of_ble_eq_true rfl⟩ ⟨Nat.le_of_ble_eq_true rfl, Nat.le_of_ble_eq_true rfl⟩ dX7_told_8 (fun r f5 H locs h6 hz hS => ?_)
  obtain ⟨rfl, k7⟩ := h6
  refine W.eq (g2 := F0 m 11 ls [.null]) rfl ?_
  refine lv_astoreN (lv' := [(4, .null), (3, .null), (0, .ref o), (1, .int x), (2, .int y)]) hx hb dX7_told_11 hl (by decide) rfl (fun ls hl => ?_)
  refine lv_aload_nN hx hb dX7_told_13 rfl (lv_at hl 1 rfl) ?_
  refine lv_ifnullN (tgt := 22) hx hb dX7_told_14 (by decide) ?_
  refine lv_bipush (v := (-2)) hx hb dX7_told_22 (by decide) ?_
  exact z_iret C hr rfl hz hS ⟨rfl, (by
        intro b e hb 
        have hb0 : f1 b = some e := k3 b e hb 
        have hb1 : f5 b = some e := k7 b e hb0 
        exact hb1)⟩ (Nat.le_of_ble_eq_true rfl) (Nat.le_of_ble_eq_true rfl) dX7_told_24
abbrev rmX7_placed : Room := { frames := 1, cells := 0, slots := 0, locals := 21 }
set_option maxHeartbeats 4000000 in
set_option maxRecDepth 100000 in
theorem k_X7_placed (l : Launch) (D : va_G) (cy : Nat → ClassId) (f : zM) (o : Nat) (fa : Nat) (fi : Nat) (nu : Nat) (fm : Nat) (co : Nat) (en : Nat) (ke : Nat) (x : Int32) (y : Int32) (ge : Nat → Option Nat) (ea : Nat → Nat) (ma : Nat → Nat) (gm : Nat → Nat → Int32) (p0 : f o = some (.inr (7, [.ref fa, .ref fi, .ref nu, .int 0, .ref fm, .int 0, .ref co, .int 0, .ref en, .ref ke, .long 1]))) (p1 : f en = some (.inl (cy 6, 4, .inr (.inr (.inr (.inr ge)))))) (hG : ∀ j, j < 4 → ge j = some (ea j)) (hE : ∀ j, j < 4 → f (ea j) = some (.inr (1, [.ref (ma j), .int 0]))) (hM : ∀ j, j < 4 → f (ma j) = some (.inl (cy 0, 60, .inl (gm j)))) : zCi l D cy yX7_placed cX7_placed 4 (Option.some Jvm.ClassFile.FieldType.int) rmX7_placed [.ref o, .int x, .int y] f (fun (r : Int32) (f1 : zM) => r = (if 0 ≤ x ∧ x < 4 then (if 0 ≤ y then (-1) else (-2)) else (-2)) ∧ (∀ (b : Nat) (e : va_E), f b = some e → f1 b = some e)) := by
  intro sz
  refine z_body (by decide +kernel) (Nat.le_of_ble_eq_true rfl) ?_
  intro p e s m below meth c ls C hr hin hsz hz hl
  subst hsz
  have hx := C.1
  have hb := C.2.1
  have hA : ∀ q, s.heap.size ≤ q → zA f s.heap.size q := fun q h => Or.inr h
  have hS : va_S (zA f s.heap.size) s.heap s.heap [] := va_S.rf
  have hl : lv_has ls 4 [(0, .ref o), (1, .int x), (2, .int y)] := hl
  by_cases he : 0 ≤ x ∧ x < 4
  · obtain ⟨j, hj, hxj⟩ := z_ix4 he
    have pE := hE j hj
    have pM := hM j hj
    have pG := hG j hj
    refine lv_aload_n hx hb dX7_placed_0 rfl (lv_at hl 0 rfl) ?_
    refine lv_iload_n hx hb dX7_placed_1 rfl (lv_at hl 1 rfl) ?_
    refine z_callVq (As := [.int x]) C hz hS hA hl (k_X7_findEnumeration_A l D cy f o fa fi nu fm co en ke x ge j (ea j) p0 p1 hxj hj pG) zyX7_findEnumeration mMX7_204 p0 zl7 rfl rfl (Nat.le_of_ble_eq_true rfl) ⟨Nat.le_of_ble_eq_true rfl, Nat.le_of_ble_eq_true rfl⟩ ⟨Nat.le_of_ble_eq_true rfl, Nat.le_of_ble_eq_true rfl⟩ dX7_placed_2 (fun r f1 H locs h2 hz hS => ?_)
    obtain ⟨rfl, k3⟩ := h2
    refine W.eq (g2 := F0 m 5 ls [.ref (ea j)]) rfl ?_
    refine lv_astore_n (lv' := [(3, .ref (ea j)), (0, .ref o), (1, .int x), (2, .int y)]) hx hb dX7_placed_5 rfl hl (by decide) rfl (fun ls hl => ?_)
    refine lv_aload_n hx hb dX7_placed_6 rfl (lv_at hl 0 rfl) ?_
    refine lv_ifnull hx hb dX7_placed_7 ?_
    refine lv_iload_n hx hb dX7_placed_10 rfl (lv_at hl 3 rfl) ?_
    refine lv_if_ge (tgt := 17) hx hb dX7_placed_11 (by decide) (fun c4 => ?_) (fun c4 => ?_)
    · refine lv_iload_n hx hb dX7_placed_17 rfl (lv_at hl 3 rfl) ?_
      refine lv_aload_n hx hb dX7_placed_18 rfl (lv_at hl 0 rfl) ?_
      have a5 : f1 (ea j) = some (.inr (1, [.ref (ma j), .int 0])) := k3 _ _ pE 
      refine z_getN (v := .int 0) C hz a5 zl1 mFNX7_227 (by decide) rfl dX7_placed_19 ?_
      refine lv_icmp_ge (tgt := 34) hx hb dX7_placed_22 (by decide) (fun c6 => ?_) (fun c6 => ?_)
      rotate_left
      · exact absurd c4 c6
      refine lv_iconst (v := (-1)) hx hb dX7_placed_34 (by decide) ?_
      exact z_iret C hr rfl hz hS ⟨(by simp [he, c4, c6]), (by
            intro b e hb 
            have hb0 : f1 b = some e := k3 b e hb 
            exact hb0)⟩ (Nat.le_of_ble_eq_true rfl) (Nat.le_of_ble_eq_true rfl) dX7_placed_35
    · refine lv_bipush (v := (-2)) hx hb dX7_placed_14 (by decide) ?_
      exact z_iret C hr rfl hz hS ⟨(by simp [he, c4]), (by
            intro b e hb 
            have hb0 : f1 b = some e := k3 b e hb 
            exact hb0)⟩ (Nat.le_of_ble_eq_true rfl) (Nat.le_of_ble_eq_true rfl) dX7_placed_16
  · refine lv_aload_n hx hb dX7_placed_0 rfl (lv_at hl 0 rfl) ?_
    refine lv_iload_n hx hb dX7_placed_1 rfl (lv_at hl 1 rfl) ?_
    refine z_callVq (As := [.int x]) C hz hS hA hl (k_X7_findEnumeration_B l D cy f o fa fi nu fm co en ke x p0 he) zyX7_findEnumeration mMX7_204 p0 zl7 rfl rfl (Nat.le_of_ble_eq_true rfl) ⟨Nat.le_of_ble_eq_true rfl, Nat.le_of_ble_eq_true rfl⟩ ⟨Nat.le_of_ble_eq_true rfl, Nat.le_of_ble_eq_true rfl⟩ dX7_placed_2 (fun r f7 H locs h8 hz hS => ?_)
    obtain ⟨rfl, k9⟩ := h8
    refine W.eq (g2 := F0 m 5 ls [.null]) rfl ?_
    refine lv_astore_nN (lv' := [(3, .null), (0, .ref o), (1, .int x), (2, .int y)]) hx hb dX7_placed_5 rfl hl (by decide) rfl (fun ls hl => ?_)
    refine lv_aload_nN hx hb dX7_placed_6 rfl (lv_at hl 0 rfl) ?_
    refine lv_ifnullN (tgt := 14) hx hb dX7_placed_7 (by decide) ?_
    refine lv_bipush (v := (-2)) hx hb dX7_placed_14 (by decide) ?_
    exact z_iret C hr rfl hz hS ⟨(by simp [he]), (by
          intro b e hb 
          have hb0 : f7 b = some e := k9 b e hb 
          exact hb0)⟩ (Nat.le_of_ble_eq_true rfl) (Nat.le_of_ble_eq_true rfl) dX7_placed_16
abbrev rmX7_put : Room := { frames := 1, cells := 0, slots := 0, locals := 21 }
set_option maxHeartbeats 4000000 in
set_option maxRecDepth 100000 in
theorem k_X7_put (l : Launch) (D : va_G) (cy : Nat → ClassId) (f : zM) (o : Nat) (fa : Nat) (fi : Nat) (nu : Nat) (fm : Nat) (co : Nat) (en : Nat) (ke : Nat) (x : Int32) (y : Int32) (p0 : f o = some (.inr (7, [.ref fa, .ref fi, .ref nu, .int 0, .ref fm, .int 0, .ref co, .int 0, .ref en, .ref ke, .long 1])))  : zCi l D cy yX7_put cX7_put 4 (Option.some Jvm.ClassFile.FieldType.int) rmX7_put [.ref o, .int x, .int y] f (fun (r : Int32) (f1 : zM) => r = (-2) ∧ (∀ (b : Nat) (e : va_E), f b = some e → f1 b = some e)) := by
  intro sz
  refine z_body (by decide +kernel) (Nat.le_of_ble_eq_true rfl) ?_
  intro p e s m below meth c ls C hr hin hsz hz hl
  subst hsz
  have hx := C.1
  have hb := C.2.1
  have hA : ∀ q, s.heap.size ≤ q → zA f s.heap.size q := fun q h => Or.inr h
  have hS : va_S (zA f s.heap.size) s.heap s.heap [] := va_S.rf
  have hl : lv_has ls 4 [(0, .ref o), (1, .int x), (2, .int y)] := hl
  refine lv_aload_n hx hb dX7_put_0 rfl (lv_at hl 0 rfl) ?_
  refine lv_iload_n hx hb dX7_put_1 rfl (lv_at hl 1 rfl) ?_
  refine z_callVq (As := [.int x]) C hz hS hA hl (k_X7_findConstant l D cy f o fa fi nu fm co en ke x p0 ) zyX7_findConstant mMX7_238 p0 zl7 rfl rfl (Nat.le_of_ble_eq_true rfl) ⟨Nat.le_of_ble_eq_true rfl, Nat.le_of_ble_eq_true rfl⟩ ⟨Nat.le_of_ble_eq_true rfl, Nat.le_of_ble_eq_true rfl⟩ dX7_put_2 (fun r f1 H locs h2 hz hS => ?_)
  obtain ⟨rfl, k3⟩ := h2
  refine W.eq (g2 := F0 m 5 ls [.null]) rfl ?_
  refine lv_astore_nN (lv' := [(3, .null), (0, .ref o), (1, .int x), (2, .int y)]) hx hb dX7_put_5 rfl hl (by decide) rfl (fun ls hl => ?_)
  refine lv_aload_nN hx hb dX7_put_6 rfl (lv_at hl 0 rfl) ?_
  refine lv_ifnonnullN hx hb dX7_put_7 ?_
  refine lv_bipush (v := (-2)) hx hb dX7_put_10 (by decide) ?_
  refine lv_goto (tgt := 27) hx hb dX7_put_12 (by decide) ?_
  exact z_iret C hr rfl hz hS ⟨rfl, (by
        intro b e hb 
        have hb0 : f1 b = some e := k3 b e hb 
        exact hb0)⟩ (Nat.le_of_ble_eq_true rfl) (Nat.le_of_ble_eq_true rfl) dX7_put_27
abbrev rmX7_get : Room := { frames := 1, cells := 0, slots := 0, locals := 21 }
set_option maxHeartbeats 4000000 in
set_option maxRecDepth 100000 in
theorem k_X7_get (l : Launch) (D : va_G) (cy : Nat → ClassId) (f : zM) (o : Nat) (fa : Nat) (fi : Nat) (nu : Nat) (fm : Nat) (co : Nat) (en : Nat) (ke : Nat) (x : Int32) (p0 : f o = some (.inr (7, [.ref fa, .ref fi, .ref nu, .int 0, .ref fm, .int 0, .ref co, .int 0, .ref en, .ref ke, .long 1])))  : zCi l D cy yX7_get cX7_get 3 (Option.some Jvm.ClassFile.FieldType.int) rmX7_get [.ref o, .int x] f (fun (r : Int32) (f1 : zM) => r = 0 ∧ (∀ (b : Nat) (e : va_E), f b = some e → f1 b = some e)) := by
  intro sz
  refine z_body (by decide +kernel) (Nat.le_of_ble_eq_true rfl) ?_
  intro p e s m below meth c ls C hr hin hsz hz hl
  subst hsz
  have hx := C.1
  have hb := C.2.1
  have hA : ∀ q, s.heap.size ≤ q → zA f s.heap.size q := fun q h => Or.inr h
  have hS : va_S (zA f s.heap.size) s.heap s.heap [] := va_S.rf
  have hl : lv_has ls 3 [(0, .ref o), (1, .int x)] := hl
  refine lv_aload_n hx hb dX7_get_0 rfl (lv_at hl 0 rfl) ?_
  refine lv_iload_n hx hb dX7_get_1 rfl (lv_at hl 1 rfl) ?_
  refine z_callVq (As := [.int x]) C hz hS hA hl (k_X7_findConstant l D cy f o fa fi nu fm co en ke x p0 ) zyX7_findConstant mMX7_238 p0 zl7 rfl rfl (Nat.le_of_ble_eq_true rfl) ⟨Nat.le_of_ble_eq_true rfl, Nat.le_of_ble_eq_true rfl⟩ ⟨Nat.le_of_ble_eq_true rfl, Nat.le_of_ble_eq_true rfl⟩ dX7_get_2 (fun r f1 H locs h2 hz hS => ?_)
  obtain ⟨rfl, k3⟩ := h2
  refine W.eq (g2 := F0 m 5 ls [.null]) rfl ?_
  refine lv_astore_nN (lv' := [(2, .null), (0, .ref o), (1, .int x)]) hx hb dX7_get_5 rfl hl (by decide) rfl (fun ls hl => ?_)
  refine lv_aload_nN hx hb dX7_get_6 rfl (lv_at hl 0 rfl) ?_
  refine lv_ifnonnullN hx hb dX7_get_7 ?_
  refine lv_iconst (v := 0) hx hb dX7_get_10 (by decide) ?_
  refine lv_goto (tgt := 25) hx hb dX7_get_11 (by decide) ?_
  exact z_iret C hr rfl hz hS ⟨rfl, (by
        intro b e hb 
        have hb0 : f1 b = some e := k3 b e hb 
        exact hb0)⟩ (Nat.le_of_ble_eq_true rfl) (Nat.le_of_ble_eq_true rfl) dX7_get_25
abbrev rmX7_membersOfAll : Room := { frames := 0, cells := 0, slots := 0, locals := 0 }
set_option maxHeartbeats 4000000 in
set_option maxRecDepth 100000 in
theorem k_X7_membersOfAll (l : Launch) (D : va_G) (cy : Nat → ClassId) (f : zM) (o : Nat) (fa : Nat) (fi : Nat) (nu : Nat) (fm : Nat) (co : Nat) (en : Nat) (ke : Nat) (ge : Nat → Option Nat) (ea : Nat → Nat) (ma : Nat → Nat) (p0 : f o = some (.inr (7, [.ref fa, .ref fi, .ref nu, .int 0, .ref fm, .int 0, .ref co, .int 0, .ref en, .ref ke, .long 1]))) (p1 : f en = some (.inl (cy 6, 4, .inr (.inr (.inr (.inr ge)))))) (hG : ∀ j, j < 4 → ge j = some (ea j)) (hE : ∀ j, j < 4 → f (ea j) = some (.inr (1, [.ref (ma j), .int 0]))) : zCi l D cy yX7_membersOfAll cX7_membersOfAll 6 (Option.some Jvm.ClassFile.FieldType.int) rmX7_membersOfAll [.ref o] f (fun (r : Int32) (f1 : zM) => r = 0 ∧ (∀ (b : Nat) (e : va_E), f b = some e → f1 b = some e)) := by
  intro sz
  refine z_body (by decide +kernel) (Nat.le_of_ble_eq_true rfl) ?_
  intro p e s m below meth c ls C hr hin hsz hz hl
  subst hsz
  have hx := C.1
  have hb := C.2.1
  have hA : ∀ q, s.heap.size ≤ q → zA f s.heap.size q := fun q h => Or.inr h
  have hS : va_S (zA f s.heap.size) s.heap s.heap [] := va_S.rf
  have hl : lv_has ls 6 [(0, .ref o)] := hl
  have pE0 := hE 0 (by decide)
  have pE1 := hE 1 (by decide)
  have pE2 := hE 2 (by decide)
  have pE3 := hE 3 (by decide)
  refine lv_iconst (v := 0) hx hb dX7_membersOfAll_0 (by decide) ?_
  refine lv_istore_n (lv' := [(1, .int 0), (0, .ref o)]) hx hb dX7_membersOfAll_1 rfl hl (by decide) rfl (fun ls hl => ?_)
  refine lv_aload_n hx hb dX7_membersOfAll_2 rfl (lv_at hl 1 rfl) ?_
  refine z_get (v := .ref en) C hz p0 zl7 mFX7_51 (by decide) rfl dX7_membersOfAll_3 ?_
  refine lv_astore_n (lv' := [(2, .ref en), (1, .int 0), (0, .ref o)]) hx hb dX7_membersOfAll_6 rfl hl (by decide) rfl (fun ls hl => ?_)
  refine lv_aload_n hx hb dX7_membersOfAll_7 rfl (lv_at hl 0 rfl) ?_
  refine z_alen (v := 4) 6 C hz p1 rfl rfl dX7_membersOfAll_8 ?_
  refine lv_istore_n (lv' := [(3, .int 4), (2, .ref en), (1, .int 0), (0, .ref o)]) hx hb dX7_membersOfAll_9 rfl hl (by decide) rfl (fun ls hl => ?_)
  refine lv_iconst (v := 0) hx hb dX7_membersOfAll_10 (by decide) ?_
  refine lv_istore (lv' := [(4, .int 0), (3, .int 4), (2, .ref en), (1, .int 0), (0, .ref o)]) hx hb dX7_membersOfAll_11 hl (by decide) rfl (fun ls hl => ?_)
  refine lv_iload hx hb dX7_membersOfAll_13 (lv_at hl 0 rfl) ?_
  refine lv_iload_n hx hb dX7_membersOfAll_15 rfl (lv_at hl 1 rfl) ?_
  refine lv_icmp_ge (tgt := 39) hx hb dX7_membersOfAll_16 (by decide) (fun c1 => ?_) (fun c1 => ?_)
  · exact absurd c1 (by decide)
  refine lv_aload_n hx hb dX7_membersOfAll_19 rfl (lv_at hl 2 rfl) ?_
  refine lv_iload hx hb dX7_membersOfAll_20 (lv_at hl 0 rfl) ?_
  refine z_aldq 0 C hz p1 rfl (by decide) (Nat.le_of_ble_eq_true rfl) (by omega) dX7_membersOfAll_22 ?_
  rw [hG 0 (by decide)]
  refine W.eq (g2 := F0 m 23 ls [.ref (ea 0)]) rfl ?_
  refine lv_astore (lv' := [(5, .ref (ea 0)), (4, .int 0), (3, .int 4), (2, .ref en), (1, .int 0), (0, .ref o)]) hx hb dX7_membersOfAll_23 hl (by decide) rfl (fun ls hl => ?_)
  refine lv_iload_n hx hb dX7_membersOfAll_25 rfl (lv_at hl 4 rfl) ?_
  refine lv_aload hx hb dX7_membersOfAll_26 (lv_at hl 0 rfl) ?_
  refine z_getN (v := .int 0) C hz pE0 zl1 mFNX7_227 (by decide) rfl dX7_membersOfAll_28 ?_
  refine lv_iadd hx hb dX7_membersOfAll_31 ?_
  refine lv_istore_n (lv' := [(1, .int (0 + 0)), (5, .ref (ea 0)), (4, .int 0), (3, .int 4), (2, .ref en), (0, .ref o)]) hx hb dX7_membersOfAll_32 rfl hl (by decide) rfl (fun ls hl => ?_)
  refine lv_iinc (v := 1) (lv' := [(4, .int 1), (1, .int (0 + 0)), (5, .ref (ea 0)), (3, .int 4), (2, .ref en), (0, .ref o)]) hx hb dX7_membersOfAll_33 hl (k := 2) rfl (by decide) (by decide) rfl (fun ls hl => ?_)
  refine lv_goto (tgt := 13) hx hb dX7_membersOfAll_36 (by decide) ?_
  refine lv_iload hx hb dX7_membersOfAll_13 (lv_at hl 0 rfl) ?_
  refine lv_iload_n hx hb dX7_membersOfAll_15 rfl (lv_at hl 3 rfl) ?_
  refine lv_icmp_ge (tgt := 39) hx hb dX7_membersOfAll_16 (by decide) (fun c2 => ?_) (fun c2 => ?_)
  · exact absurd c2 (by decide)
  refine lv_aload_n hx hb dX7_membersOfAll_19 rfl (lv_at hl 4 rfl) ?_
  refine lv_iload hx hb dX7_membersOfAll_20 (lv_at hl 0 rfl) ?_
  refine z_aldq 1 C hz p1 rfl (by decide) (Nat.le_of_ble_eq_true rfl) (by omega) dX7_membersOfAll_22 ?_
  rw [hG 1 (by decide)]
  refine W.eq (g2 := F0 m 23 ls [.ref (ea 1)]) rfl ?_
  refine lv_astore (lv' := [(5, .ref (ea 1)), (4, .int 1), (1, .int (0 + 0)), (3, .int 4), (2, .ref en), (0, .ref o)]) hx hb dX7_membersOfAll_23 hl (by decide) rfl (fun ls hl => ?_)
  refine lv_iload_n hx hb dX7_membersOfAll_25 rfl (lv_at hl 2 rfl) ?_
  refine lv_aload hx hb dX7_membersOfAll_26 (lv_at hl 0 rfl) ?_
  refine z_getN (v := .int 0) C hz pE1 zl1 mFNX7_227 (by decide) rfl dX7_membersOfAll_28 ?_
  refine lv_iadd hx hb dX7_membersOfAll_31 ?_
  refine lv_istore_n (lv' := [(1, .int ((0 + 0) + 0)), (5, .ref (ea 1)), (4, .int 1), (3, .int 4), (2, .ref en), (0, .ref o)]) hx hb dX7_membersOfAll_32 rfl hl (by decide) rfl (fun ls hl => ?_)
  refine lv_iinc (v := 2) (lv' := [(4, .int 2), (1, .int ((0 + 0) + 0)), (5, .ref (ea 1)), (3, .int 4), (2, .ref en), (0, .ref o)]) hx hb dX7_membersOfAll_33 hl (k := 2) rfl (by decide) (by decide) rfl (fun ls hl => ?_)
  refine lv_goto (tgt := 13) hx hb dX7_membersOfAll_36 (by decide) ?_
  refine lv_iload hx hb dX7_membersOfAll_13 (lv_at hl 0 rfl) ?_
  refine lv_iload_n hx hb dX7_membersOfAll_15 rfl (lv_at hl 3 rfl) ?_
  refine lv_icmp_ge (tgt := 39) hx hb dX7_membersOfAll_16 (by decide) (fun c3 => ?_) (fun c3 => ?_)
  · exact absurd c3 (by decide)
  refine lv_aload_n hx hb dX7_membersOfAll_19 rfl (lv_at hl 4 rfl) ?_
  refine lv_iload hx hb dX7_membersOfAll_20 (lv_at hl 0 rfl) ?_
  refine z_aldq 2 C hz p1 rfl (by decide) (Nat.le_of_ble_eq_true rfl) (by omega) dX7_membersOfAll_22 ?_
  rw [hG 2 (by decide)]
  refine W.eq (g2 := F0 m 23 ls [.ref (ea 2)]) rfl ?_
  refine lv_astore (lv' := [(5, .ref (ea 2)), (4, .int 2), (1, .int ((0 + 0) + 0)), (3, .int 4), (2, .ref en), (0, .ref o)]) hx hb dX7_membersOfAll_23 hl (by decide) rfl (fun ls hl => ?_)
  refine lv_iload_n hx hb dX7_membersOfAll_25 rfl (lv_at hl 2 rfl) ?_
  refine lv_aload hx hb dX7_membersOfAll_26 (lv_at hl 0 rfl) ?_
  refine z_getN (v := .int 0) C hz pE2 zl1 mFNX7_227 (by decide) rfl dX7_membersOfAll_28 ?_
  refine lv_iadd hx hb dX7_membersOfAll_31 ?_
  refine lv_istore_n (lv' := [(1, .int (((0 + 0) + 0) + 0)), (5, .ref (ea 2)), (4, .int 2), (3, .int 4), (2, .ref en), (0, .ref o)]) hx hb dX7_membersOfAll_32 rfl hl (by decide) rfl (fun ls hl => ?_)
  refine lv_iinc (v := 3) (lv' := [(4, .int 3), (1, .int (((0 + 0) + 0) + 0)), (5, .ref (ea 2)), (3, .int 4), (2, .ref en), (0, .ref o)]) hx hb dX7_membersOfAll_33 hl (k := 2) rfl (by decide) (by decide) rfl (fun ls hl => ?_)
  refine lv_goto (tgt := 13) hx hb dX7_membersOfAll_36 (by decide) ?_
  refine lv_iload hx hb dX7_membersOfAll_13 (lv_at hl 0 rfl) ?_
  refine lv_iload_n hx hb dX7_membersOfAll_15 rfl (lv_at hl 3 rfl) ?_
  refine lv_icmp_ge (tgt := 39) hx hb dX7_membersOfAll_16 (by decide) (fun c4 => ?_) (fun c4 => ?_)
  · exact absurd c4 (by decide)
  refine lv_aload_n hx hb dX7_membersOfAll_19 rfl (lv_at hl 4 rfl) ?_
  refine lv_iload hx hb dX7_membersOfAll_20 (lv_at hl 0 rfl) ?_
  refine z_aldq 3 C hz p1 rfl (by decide) (Nat.le_of_ble_eq_true rfl) (by omega) dX7_membersOfAll_22 ?_
  rw [hG 3 (by decide)]
  refine W.eq (g2 := F0 m 23 ls [.ref (ea 3)]) rfl ?_
  refine lv_astore (lv' := [(5, .ref (ea 3)), (4, .int 3), (1, .int (((0 + 0) + 0) + 0)), (3, .int 4), (2, .ref en), (0, .ref o)]) hx hb dX7_membersOfAll_23 hl (by decide) rfl (fun ls hl => ?_)
  refine lv_iload_n hx hb dX7_membersOfAll_25 rfl (lv_at hl 2 rfl) ?_
  refine lv_aload hx hb dX7_membersOfAll_26 (lv_at hl 0 rfl) ?_
  refine z_getN (v := .int 0) C hz pE3 zl1 mFNX7_227 (by decide) rfl dX7_membersOfAll_28 ?_
  refine lv_iadd hx hb dX7_membersOfAll_31 ?_
  refine lv_istore_n (lv' := [(1, .int ((((0 + 0) + 0) + 0) + 0)), (5, .ref (ea 3)), (4, .int 3), (3, .int 4), (2, .ref en), (0, .ref o)]) hx hb dX7_membersOfAll_32 rfl hl (by decide) rfl (fun ls hl => ?_)
  refine lv_iinc (v := 4) (lv' := [(4, .int 4), (1, .int ((((0 + 0) + 0) + 0) + 0)), (5, .ref (ea 3)), (3, .int 4), (2, .ref en), (0, .ref o)]) hx hb dX7_membersOfAll_33 hl (k := 2) rfl (by decide) (by decide) rfl (fun ls hl => ?_)
  refine lv_goto (tgt := 13) hx hb dX7_membersOfAll_36 (by decide) ?_
  refine lv_iload hx hb dX7_membersOfAll_13 (lv_at hl 0 rfl) ?_
  refine lv_iload_n hx hb dX7_membersOfAll_15 rfl (lv_at hl 3 rfl) ?_
  refine lv_icmp_ge (tgt := 39) hx hb dX7_membersOfAll_16 (by decide) (fun c5 => ?_) (fun c5 => ?_)
  rotate_left
  · exact absurd c5 (by decide)
  refine lv_iload_n hx hb dX7_membersOfAll_39 rfl (lv_at hl 1 rfl) ?_
  exact z_iret C hr rfl hz hS ⟨(by decide), (fun b e hb => hb)⟩ (Nat.le_of_ble_eq_true rfl) (Nat.le_of_ble_eq_true rfl) dX7_membersOfAll_40
abbrev rmX7_count : Room := { frames := 1, cells := 0, slots := 0, locals := 25 }
set_option maxHeartbeats 4000000 in
set_option maxRecDepth 100000 in
theorem k_X7_count (l : Launch) (D : va_G) (cy : Nat → ClassId) (f : zM) (o : Nat) (fa : Nat) (fi : Nat) (nu : Nat) (fm : Nat) (co : Nat) (en : Nat) (ke : Nat) (x : Int32) (u1 : Int32) (u2 : Int32) (u3 : Int32) (ev : Nat) (al : Nat) (ra : Nat) (ge : Nat → Option Nat) (ea : Nat → Nat) (ma : Nat → Nat) (kn : Nat) (vq : Nat) (p0 : f o = some (.inr (7, [.ref fa, .ref fi, .ref nu, .int 0, .ref fm, .int 0, .ref co, .int 0, .ref en, .ref ke, .long 1]))) (p1 : f fa = some (.inr (2, [.int u1, .int u2, .int u3, .ref ev]))) (p2 : f ev = some (.inl (cy 0, 8, .inl (fun _ => 0)))) (p3 : f fi = some (.inr (5, [.ref al, .ref ra, .int 0]))) (p4 : f en = some (.inl (cy 6, 4, .inr (.inr (.inr (.inr ge)))))) (p5 : f ke = some (.inr (6, [.ref kn, .ref vq, .int 0]))) (hG : ∀ j, j < 4 → ge j = some (ea j)) (hE : ∀ j, j < 4 → f (ea j) = some (.inr (1, [.ref (ma j), .int 0]))) : zCi l D cy yX7_count cX7_count 2 (Option.some Jvm.ClassFile.FieldType.int) rmX7_count [.ref o, .int x] f (fun (r : Int32) (f1 : zM) => r = (if x = 0 then 0 else if x = 1 then 0 else if x = 2 then 0 else if x = 3 then 0 else if x = 4 then 0 else if x - 10 < 1 then (-2) else if 7 < x - 10 then (-2) else 0) ∧ (∀ (b : Nat) (e : va_E), f b = some e → f1 b = some e)) := by
  intro sz
  refine z_body (by decide +kernel) (Nat.le_of_ble_eq_true rfl) ?_
  intro p e s m below meth c ls C hr hin hsz hz hl
  subst hsz
  have hx := C.1
  have hb := C.2.1
  have hA : ∀ q, s.heap.size ≤ q → zA f s.heap.size q := fun q h => Or.inr h
  have hS : va_S (zA f s.heap.size) s.heap s.heap [] := va_S.rf
  have hl : lv_has ls 2 [(0, .ref o), (1, .int x)] := hl
  refine lv_iload_n hx hb dX7_count_0 rfl (lv_at hl 1 rfl) ?_
  by_cases c1_0 : x = 0
  · refine lv_tableIn (off := 35) (tgt := 36) hx hb dX7_count_1 (by rw [c1_0]; decide) (by rw [c1_0]; decide) (by rw [c1_0]; decide) (by decide) ?_
    refine lv_aload_n hx hb dX7_count_36 rfl (lv_at hl 0 rfl) ?_
    refine z_get (v := .ref fi) C hz p0 zl7 mFX7_19 (by decide) rfl dX7_count_37 ?_
    refine z_getN (v := .int 0) C hz p3 zl5 mFNX7_201 (by decide) rfl dX7_count_40 ?_
    exact z_iret C hr rfl hz hS ⟨(by simp [c1_0]), (fun b e hb => hb)⟩ (Nat.le_of_ble_eq_true rfl) (Nat.le_of_ble_eq_true rfl) dX7_count_43
  by_cases c1_1 : x = 1
  · refine lv_tableIn (off := 43) (tgt := 44) hx hb dX7_count_1 (by rw [c1_1]; decide) (by rw [c1_1]; decide) (by rw [c1_1]; decide) (by decide) ?_
    refine lv_aload_n hx hb dX7_count_44 rfl (lv_at hl 0 rfl) ?_
    refine z_get (v := .int 0) C hz p0 zl7 mFX7_27 (by decide) rfl dX7_count_45 ?_
    exact z_iret C hr rfl hz hS ⟨(by simp [c1_1, c1_0]), (fun b e hb => hb)⟩ (Nat.le_of_ble_eq_true rfl) (Nat.le_of_ble_eq_true rfl) dX7_count_48
  by_cases c1_2 : x = 2
  · refine lv_tableIn (off := 48) (tgt := 49) hx hb dX7_count_1 (by rw [c1_2]; decide) (by rw [c1_2]; decide) (by rw [c1_2]; decide) (by decide) ?_
    refine lv_aload_n hx hb dX7_count_49 rfl (lv_at hl 0 rfl) ?_
    refine z_get (v := .int 0) C hz p0 zl7 mFX7_37 (by decide) rfl dX7_count_50 ?_
    exact z_iret C hr rfl hz hS ⟨(by simp [c1_2, c1_0, c1_1]), (fun b e hb => hb)⟩ (Nat.le_of_ble_eq_true rfl) (Nat.le_of_ble_eq_true rfl) dX7_count_53
  by_cases c1_3 : x = 3
  · refine lv_tableIn (off := 53) (tgt := 54) hx hb dX7_count_1 (by rw [c1_3]; decide) (by rw [c1_3]; decide) (by rw [c1_3]; decide) (by decide) ?_
    refine lv_aload_n hx hb dX7_count_54 rfl (lv_at hl 0 rfl) ?_
    refine z_callVi (As := []) C hz hS hA hl (k_X7_membersOfAll l D cy f o fa fi nu fm co en ke ge ea ma p0 p4 hG hE) zyX7_membersOfAll mMX7_261 p0 zl7 rfl rfl (Nat.le_of_ble_eq_true rfl) ⟨Nat.le_of_ble_eq_true rfl, Nat.le_of_ble_eq_true rfl⟩ ⟨Nat.le_of_ble_eq_true rfl, Nat.le_of_ble_eq_true rfl⟩ dX7_count_55 (fun r f2 H locs h3 hz hS => ?_)
    obtain ⟨rfl, k4⟩ := h3
    exact z_iret C hr rfl hz hS ⟨(by simp [c1_3, c1_0, c1_1, c1_2]), (by
          intro b e hb 
          have hb0 : f2 b = some e := k4 b e hb 
          exact hb0)⟩ (Nat.le_of_ble_eq_true rfl) (Nat.le_of_ble_eq_true rfl) dX7_count_58
  by_cases c1_4 : x = 4
  · refine lv_tableIn (off := 58) (tgt := 59) hx hb dX7_count_1 (by rw [c1_4]; decide) (by rw [c1_4]; decide) (by rw [c1_4]; decide) (by decide) ?_
    refine lv_aload_n hx hb dX7_count_59 rfl (lv_at hl 0 rfl) ?_
    refine z_get (v := .ref ke) C hz p0 zl7 mFX7_58 (by decide) rfl dX7_count_60 ?_
    refine z_getN (v := .int 0) C hz p5 zl6 mFNX7_265 (by decide) rfl dX7_count_63 ?_
    exact z_iret C hr rfl hz hS ⟨(by simp [c1_4, c1_0, c1_1, c1_2, c1_3]), (fun b e hb => hb)⟩ (Nat.le_of_ble_eq_true rfl) (Nat.le_of_ble_eq_true rfl) dX7_count_66
  refine lv_tableOut (tgt := 67) hx hb dX7_count_1 (by have t0 := lv_neT c1_0 (a := 0) (by decide); have t1 := lv_neT c1_1 (a := 1) (by decide); have t2 := lv_neT c1_2 (a := 2) (by decide); have t3 := lv_neT c1_3 (a := 3) (by decide); have t4 := lv_neT c1_4 (a := 4) (by decide);  omega) (by decide) ?_
  refine lv_aload_n hx hb dX7_count_67 rfl (lv_at hl 0 rfl) ?_
  refine z_get (v := .ref fa) C hz p0 zl7 mFX7_10 (by decide) rfl dX7_count_68 ?_
  refine lv_iload_n hx hb dX7_count_71 rfl (lv_at hl 1 rfl) ?_
  refine lv_bipush (v := 10) hx hb dX7_count_72 (by decide) ?_
  refine lv_isub hx hb dX7_count_74 ?_
  refine z_callVi (As := [.int (x - 10)]) C hz hS hA hl (k_X2_everOf l D cy f fa (x - 10) u1 u2 u3 ev p1 p2 ) zyX2_everOf mMX7_266 p1 zl2 rfl rfl (Nat.le_of_ble_eq_true rfl) ⟨Nat.le_of_ble_eq_true rfl, Nat.le_of_ble_eq_true rfl⟩ ⟨Nat.le_of_ble_eq_true rfl, Nat.le_of_ble_eq_true rfl⟩ dX7_count_75 (fun r f5 H locs h6 hz hS => ?_)
  obtain ⟨rfl, k7⟩ := h6
  exact z_iret C hr rfl hz hS ⟨(by simp [c1_0, c1_1, c1_2, c1_3, c1_4]), (by
        intro b e hb 
        have hb0 : f5 b = some e := k7 b e hb 
        exact hb0)⟩ (Nat.le_of_ble_eq_true rfl) (Nat.le_of_ble_eq_true rfl) dX7_count_78
