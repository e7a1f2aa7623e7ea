theorem z_absne {z : Int32} (h : ¬ z = 0) : ¬ (if 0 < z.toInt64 then z.toInt64 else -z.toInt64) = 0 := by
  have key : ¬ z.toInt64 = 0 := by
    intro q
    apply h
    have q2 : z.toInt64.toInt = (0 : Int64).toInt := by rw [q]
    rw [Int32.toInt_toInt64] at q2
    exact Int32.toInt_inj.mp (by rw [q2]; rfl)
  intro hh
  split at hh
  · exact key hh
  · apply key
    have q3 : - -z.toInt64 = -0 := by rw [hh]
    simpa using q3
abbrev rmX7_cause : Room := { frames := 0, cells := 0, slots := 0, locals := 0 }
set_option maxHeartbeats 4000000 in
set_option maxRecDepth 100000 in
theorem k_X7_cause (l : Launch) (D : va_G) (cy : Nat → ClassId) (f : zM) (o : Nat) (fa : Nat) (fi : Nat) (nu : Nat) (fm : Nat) (co : Nat) (en : Nat) (ke : Nat) (x : Int32) (ev : Nat) (p0 : f o = some (.inr (7, [.ref fa, .ref fi, .ref nu, .int 0, .ref fm, .int 0, .ref co, .int 0, .ref en, .ref ke, .long 1]))) (p1 : f fa = some (.inr (2, [.int 0, .int (-1), .int 0, .ref ev])))  : zCi l D cy yX7_cause cX7_cause 2 (Option.some Jvm.ClassFile.FieldType.int) rmX7_cause [.ref o, .int x] f (fun (r : Int32) (f1 : zM) => r = (if x = 0 then 0 else if x = 1 then (-1) else if x = 2 then 0 else (-2)) ∧ (∀ (b : Nat) (e : va_E), f b = some e → f1 b = some e)) := by
  intro sz
  refine z_body (by decide +kernel) (Nat.le_of_ble_eq_true rfl) ?_
  intro p e s m below meth c ls C hr hin hsz hz hl
  subst hsz
  have hx := C.1
  have hb := C.2.1
  have hA : ∀ q, s.heap.size ≤ q → zA f s.heap.size q := fun q h => Or.inr h
  have hS : va_S (zA f s.heap.size) s.heap s.heap [] := va_S.rf
  have hl : lv_has ls 2 [(0, .ref o), (1, .int x)] := hl
  refine lv_iload_n hx hb dX7_cause_0 rfl (lv_at hl 1 rfl) ?_
  by_cases c1_0 : x = 0
  · refine lv_tableIn (off := 27) (tgt := 28) hx hb dX7_cause_1 (by rw [c1_0]; decide) (by rw [c1_0]; decide) (by rw [c1_0]; decide) (by decide) ?_
    refine lv_aload_n hx hb dX7_cause_28 rfl (lv_at hl 0 rfl) ?_
    refine z_get (v := .ref fa) C hz p0 zl7 mFX7_10 (by decide) rfl dX7_cause_29 ?_
    refine z_getN (v := .int 0) C hz p1 zl2 mFNX7_67 (by decide) rfl dX7_cause_32 ?_
    exact z_iret C hr rfl hz hS ⟨(by simp [c1_0]), (fun b e hb => hb)⟩ (Nat.le_of_ble_eq_true rfl) (Nat.le_of_ble_eq_true rfl) dX7_cause_35
  by_cases c1_1 : x = 1
  · refine lv_tableIn (off := 35) (tgt := 36) hx hb dX7_cause_1 (by rw [c1_1]; decide) (by rw [c1_1]; decide) (by rw [c1_1]; decide) (by decide) ?_
    refine lv_aload_n hx hb dX7_cause_36 rfl (lv_at hl 0 rfl) ?_
    refine z_get (v := .ref fa) C hz p0 zl7 mFX7_10 (by decide) rfl dX7_cause_37 ?_
    refine z_getN (v := .int (-1)) C hz p1 zl2 mFNX7_70 (by decide) rfl dX7_cause_40 ?_
    exact z_iret C hr rfl hz hS ⟨(by simp [c1_1, c1_0]), (fun b e hb => hb)⟩ (Nat.le_of_ble_eq_true rfl) (Nat.le_of_ble_eq_true rfl) dX7_cause_43
  by_cases c1_2 : x = 2
  · refine lv_tableIn (off := 43) (tgt := 44) hx hb dX7_cause_1 (by rw [c1_2]; decide) (by rw [c1_2]; decide) (by rw [c1_2]; decide) (by decide) ?_
    refine lv_aload_n hx hb dX7_cause_44 rfl (lv_at hl 0 rfl) ?_
    refine z_get (v := .ref fa) C hz p0 zl7 mFX7_10 (by decide) rfl dX7_cause_45 ?_
    refine z_getN (v := .int 0) C hz p1 zl2 mFNX7_73 (by decide) rfl dX7_cause_48 ?_
    exact z_iret C hr rfl hz hS ⟨(by simp [c1_2, c1_0, c1_1]), (fun b e hb => hb)⟩ (Nat.le_of_ble_eq_true rfl) (Nat.le_of_ble_eq_true rfl) dX7_cause_51
  refine lv_tableOut (tgt := 52) hx hb dX7_cause_1 (by have t0 := lv_neT c1_0 (a := 0) (by decide); have t1 := lv_neT c1_1 (a := 1) (by decide); have t2 := lv_neT c1_2 (a := 2) (by decide);  omega) (by decide) ?_
  refine lv_bipush (v := (-2)) hx hb dX7_cause_52 (by decide) ?_
  exact z_iret C hr rfl hz hS ⟨(by simp [c1_0, c1_1, c1_2]), (fun b e hb => hb)⟩ (Nat.le_of_ble_eq_true rfl) (Nat.le_of_ble_eq_true rfl) dX7_cause_54
abbrev rmX7_lay : Room := { frames := 0, cells := 0, slots := 0, locals := 0 }
set_option maxHeartbeats 4000000 in
set_option maxRecDepth 100000 in
theorem k_X7_lay (l : Launch) (D : va_G) (cy : Nat → ClassId) (f : zM) (o : Nat) (fa : Nat) (fi : Nat) (nu : Nat) (fm : Nat) (co : Nat) (en : Nat) (ke : Nat) (x : Int32) (g : Nat → Int32) (p0 : f o = some (.inr (7, [.ref fa, .ref fi, .ref nu, .int 0, .ref fm, .int 0, .ref co, .int 0, .ref en, .ref ke, .long 1]))) (p1 : f nu = some (.inl (cy 0, 12, .inl g)))  : zCi l D cy yX7_lay cX7_lay 2 (Option.some Jvm.ClassFile.FieldType.int) rmX7_lay [.ref o, .int x] f (fun (r : Int32) (f1 : zM) => r = 1 ∧ (∀ (b : Nat) (e : va_E), f b = some e → b ≠ o → b ≠ nu → f1 b = some e)) := by
  intro sz
  refine z_body (by decide +kernel) (Nat.le_of_ble_eq_true rfl) ?_
  intro p e s m below meth c ls C hr hin hsz hz hl
  subst hsz
  have hx := C.1
  have hb := C.2.1
  have hA : ∀ q, s.heap.size ≤ q → zA f s.heap.size q := fun q h => Or.inr h
  have hS : va_S (zA f s.heap.size) s.heap s.heap [] := va_S.rf
  have hl : lv_has ls 2 [(0, .ref o), (1, .int x)] := hl
  refine lv_aload_n hx hb dX7_lay_0 rfl (lv_at hl 0 rfl) ?_
  refine z_get (v := .int 0) C hz p0 zl7 mFX7_27 (by decide) rfl dX7_lay_1 ?_
  refine lv_bipush (v := 12) hx hb dX7_lay_4 (by decide) ?_
  refine lv_icmp_lt (tgt := 12) hx hb dX7_lay_6 (by decide) (fun c1 => ?_) (fun c1 => ?_)
  rotate_left
  · exact absurd c1 (by decide)
  refine lv_aload_n hx hb dX7_lay_12 rfl (lv_at hl 0 rfl) ?_
  refine z_get (v := .ref nu) C hz p0 zl7 mFX7_23 (by decide) rfl dX7_lay_13 ?_
  refine lv_aload_n hx hb dX7_lay_16 rfl (lv_at hl 0 rfl) ?_
  refine z_get (v := .int 0) C hz p0 zl7 mFX7_27 (by decide) rfl dX7_lay_17 ?_
  refine lv_iload_n hx hb dX7_lay_20 rfl (lv_at hl 1 rfl) ?_
  refine z_iast 0 C hz hS p1 (by decide) (Nat.le_of_ble_eq_true rfl) (by omega) dX7_lay_21 (fun H locs f2 a3 k4 hz hS => ?_)
  refine lv_aload_n hx hb dX7_lay_22 rfl (lv_at hl 0 rfl) ?_
  refine lv_dup hx hb dX7_lay_23 rfl ?_
  have a5 : f2 o = some (.inr (7, [.ref fa, .ref fi, .ref nu, .int 0, .ref fm, .int 0, .ref co, .int 0, .ref en, .ref ke, .long 1])) := (k4 _ (z_ne p0 p1 rfl)).trans p0
  refine z_get (v := .int 0) C hz a5 zl7 mFX7_27 (by decide) rfl dX7_lay_24 ?_
  refine lv_iconst (v := 1) hx hb dX7_lay_27 (by decide) ?_
  refine lv_iadd hx hb dX7_lay_28 ?_
  refine z_put (fs' := [.ref fa, .ref fi, .ref nu, .int (0 + 1), .ref fm, .int 0, .ref co, .int 0, .ref en, .ref ke, .long 1]) C hz hS a5 zl7 mFX7_27 (by decide) rfl rfl rfl (Nat.le_of_ble_eq_true rfl) rfl dX7_lay_29 (fun H locs f6 a7 k8 hz hS => ?_)
  refine lv_aload_n hx hb dX7_lay_32 rfl (lv_at hl 0 rfl) ?_
  refine z_get (v := .int (0 + 1)) C hz a7 zl7 mFX7_27 (by decide) rfl dX7_lay_33 ?_
  exact z_iret C hr rfl hz hS ⟨(by decide), (by
        intro b e hb n0 n1
        have hb0 : f2 b = some e := (k4 b n1).trans hb
        have hb1 : f6 b = some e := (k8 b n0).trans hb0
        exact hb1)⟩ (Nat.le_of_ble_eq_true rfl) (Nat.le_of_ble_eq_true rfl) dX7_lay_36
abbrev rmX7_wipe : Room := { frames := 0, cells := 0, slots := 0, locals := 0 }
set_option maxHeartbeats 4000000 in
set_option maxRecDepth 100000 in
theorem k_X7_wipe (l : Launch) (D : va_G) (cy : Nat → ClassId) (f : zM) (o : Nat) (fa : Nat) (fi : Nat) (nu : Nat) (fm : Nat) (co : Nat) (en : Nat) (ke : Nat) (p0 : f o = some (.inr (7, [.ref fa, .ref fi, .ref nu, .int 0, .ref fm, .int 0, .ref co, .int 0, .ref en, .ref ke, .long 1])))  : zCi l D cy yX7_wipe cX7_wipe 2 (Option.some Jvm.ClassFile.FieldType.int) rmX7_wipe [.ref o] f (fun (r : Int32) (f1 : zM) => r = 0 ∧ (∀ (b : Nat) (e : va_E), f b = some e → b ≠ o → f1 b = some e)) := by
  intro sz
  refine z_body (by decide +kernel) (Nat.le_of_ble_eq_true rfl) ?_
  intro p e s m below meth c ls C hr hin hsz hz hl
  subst hsz
  have hx := C.1
  have hb := C.2.1
  have hA : ∀ q, s.heap.size ≤ q → zA f s.heap.size q := fun q h => Or.inr h
  have hS : va_S (zA f s.heap.size) s.heap s.heap [] := va_S.rf
  have hl : lv_has ls 2 [(0, .ref o)] := hl
  refine lv_aload_n hx hb dX7_wipe_0 rfl (lv_at hl 0 rfl) ?_
  refine z_get (v := .int 0) C hz p0 zl7 mFX7_27 (by decide) rfl dX7_wipe_1 ?_
  refine lv_istore_n (lv' := [(1, .int 0), (0, .ref o)]) hx hb dX7_wipe_4 rfl hl (by decide) rfl (fun ls hl => ?_)
  refine lv_aload_n hx hb dX7_wipe_5 rfl (lv_at hl 1 rfl) ?_
  refine lv_iconst (v := 0) hx hb dX7_wipe_6 (by decide) ?_
  refine z_put (fs' := [.ref fa, .ref fi, .ref nu, .int 0, .ref fm, .int 0, .ref co, .int 0, .ref en, .ref ke, .long 1]) C hz hS p0 zl7 mFX7_27 (by decide) rfl rfl rfl (Nat.le_of_ble_eq_true rfl) rfl dX7_wipe_7 (fun H locs f1 a2 k3 hz hS => ?_)
  refine lv_iload_n hx hb dX7_wipe_10 rfl (lv_at hl 0 rfl) ?_
  exact z_iret C hr rfl hz hS ⟨rfl, (by
        intro b e hb n0
        have hb0 : f1 b = some e := (k3 b n0).trans hb
        exact hb0)⟩ (Nat.le_of_ble_eq_true rfl) (Nat.le_of_ble_eq_true rfl) dX7_wipe_11
abbrev rmX7_oneNan : Room := { frames := 0, cells := 0, slots := 0, locals := 0 }
set_option maxHeartbeats 4000000 in
set_option maxRecDepth 100000 in
theorem k_X7_oneNan (l : Launch) (D : va_G) (cy : Nat → ClassId) (f : zM) (v : Int64)   : zCl l D cy yX7_oneNan cX7_oneNan 3 (Option.some Jvm.ClassFile.FieldType.long) rmX7_oneNan [.long v] f (fun (r : Int64) (f1 : zM) => (∀ (b : Nat) (e : va_E), f b = some e → f1 b = some e)) := by
  intro sz
  refine z_body (by decide +kernel) (Nat.le_of_ble_eq_true rfl) ?_
  intro p e s m below meth c ls C hr hin hsz hz hl
  subst hsz
  have hx := C.1
  have hb := C.2.1
  have hA : ∀ q, s.heap.size ≤ q → zA f s.heap.size q := fun q h => Or.inr h
  have hS : va_S (zA f s.heap.size) s.heap s.heap [] := va_S.rf
  have hl : lv_has ls 3 [(0, .long v)] := hl
  refine lv_lload_n hx hb dX7_oneNan_0 rfl (lv_at hl 0 rfl) ?_
  refine lv_ldc2 (v := 9223372036854775807) hx hb C.2.2.2.1 (C.2.2.2.2.1 _ mKX7_269) dX7_oneNan_1 ?_
  refine lv_land hx hb dX7_oneNan_4 ?_
  refine lv_ldc2 (v := 9218868437227405312) hx hb C.2.2.2.1 (C.2.2.2.2.1 _ mKX7_271) dX7_oneNan_5 ?_
  refine W.lcmp hx hb dX7_oneNan_8 ?_
  refine lv_if_le (tgt := 16) hx hb dX7_oneNan_9 (by decide) (fun c1 => ?_) (fun c1 => ?_)
  · refine lv_iconst (v := 0) hx hb dX7_oneNan_16 (by decide) ?_
    refine lv_istore_n (lv' := [(2, .int 0), (0, .long v)]) hx hb dX7_oneNan_17 rfl hl (by decide) rfl (fun ls hl => ?_)
    refine lv_iload_n hx hb dX7_oneNan_18 rfl (lv_at hl 0 rfl) ?_
    refine lv_if_eq (tgt := 28) hx hb dX7_oneNan_19 (by decide) (fun c2 => ?_) (fun c2 => ?_)
    rotate_left
    · exact absurd c2 (by decide)
    refine lv_lload_n hx hb dX7_oneNan_28 rfl (lv_at hl 1 rfl) ?_
    exact z_lret C hr hz hS (fun b e hb => hb) (Nat.le_of_ble_eq_true rfl) (Nat.le_of_ble_eq_true rfl) dX7_oneNan_29
  · refine lv_iconst (v := 1) hx hb dX7_oneNan_12 (by decide) ?_
    refine lv_goto (tgt := 17) hx hb dX7_oneNan_13 (by decide) ?_
    refine lv_istore_n (lv' := [(2, .int 1), (0, .long v)]) hx hb dX7_oneNan_17 rfl hl (by decide) rfl (fun ls hl => ?_)
    refine lv_iload_n hx hb dX7_oneNan_18 rfl (lv_at hl 0 rfl) ?_
    refine lv_if_eq (tgt := 28) hx hb dX7_oneNan_19 (by decide) (fun c3 => ?_) (fun c3 => ?_)
    · exact absurd c3 (by decide)
    refine lv_ldc2 (v := 9221120237041090560) hx hb C.2.2.2.1 (C.2.2.2.2.1 _ mKX7_273) dX7_oneNan_22 ?_
    refine lv_goto (tgt := 29) hx hb dX7_oneNan_25 (by decide) ?_
    exact z_lret C hr hz hS (fun b e hb => hb) (Nat.le_of_ble_eq_true rfl) (Nat.le_of_ble_eq_true rfl) dX7_oneNan_29
abbrev rmX7_lengthOf : Room := { frames := 0, cells := 0, slots := 0, locals := 0 }
set_option maxHeartbeats 4000000 in
set_option maxRecDepth 100000 in
theorem k_X7_lengthOf (l : Launch) (D : va_G) (cy : Nat → ClassId) (f : zM) (x : Int32) (y : Int32)   : zCl l D cy yX7_lengthOf cX7_lengthOf 2 (Option.some Jvm.ClassFile.FieldType.long) rmX7_lengthOf [.int x, .int y] f (fun (r : Int64) (f1 : zM) => (∀ (b : Nat) (e : va_E), f b = some e → f1 b = some e)) := by
  intro sz
  refine z_body (by decide +kernel) (Nat.le_of_ble_eq_true rfl) ?_
  intro p e s m below meth c ls C hr hin hsz hz hl
  subst hsz
  have hx := C.1
  have hb := C.2.1
  have hA : ∀ q, s.heap.size ≤ q → zA f s.heap.size q := fun q h => Or.inr h
  have hS : va_S (zA f s.heap.size) s.heap s.heap [] := va_S.rf
  have hl : lv_has ls 2 [(0, .int x), (1, .int y)] := hl
  refine lv_iload_n hx hb dX7_lengthOf_0 rfl (lv_at hl 1 rfl) ?_
  refine lv_i2l (v := y.toInt64) hx hb dX7_lengthOf_1 rfl ?_
  refine lv_iload_n hx hb dX7_lengthOf_2 rfl (lv_at hl 0 rfl) ?_
  refine lv_i2l (v := x.toInt64) hx hb dX7_lengthOf_3 rfl ?_
  refine lv_lsub hx hb dX7_lengthOf_4 ?_
  refine lv_lconst (v := 1) hx hb dX7_lengthOf_5 (by decide) ?_
  refine lv_ladd hx hb dX7_lengthOf_6 ?_
  exact z_lret C hr hz hS (fun b e hb => hb) (Nat.le_of_ble_eq_true rfl) (Nat.le_of_ble_eq_true rfl) dX7_lengthOf_7
abbrev rmX7_point : Room := { frames := 2, cells := 2, slots := 9, locals := 48 }
set_option maxHeartbeats 4000000 in
set_option maxRecDepth 100000 in
theorem k_X7_point (l : Launch) (D : va_G) (cy : Nat → ClassId) (f : zM) (o : Nat) (fa : Nat) (fi : Nat) (nu : Nat) (fm : Nat) (co : Nat) (en : Nat) (ke : Nat) (x : Int64) (y : Int64) (u1 : Int32) (u2 : Int32) (u3 : Int32) (ev : Nat) (al : Nat) (ra : Nat) (ga : Nat → Option Nat) (gr : Nat → Option Nat) (p0 : f o = some (.inr (7, [.ref fa, .ref fi, .ref nu, .int 0, .ref fm, .int 0, .ref co, .int 0, .ref en, .ref ke, .long 1]))) (p1 : f fa = some (.inr (2, [.int u1, .int u2, .int u3, .ref ev]))) (p2 : f fi = some (.inr (5, [.ref al, .ref ra, .int 0]))) (p3 : f al = some (.inl (cy 3, 60, .inr (.inr (.inr (.inr ga)))))) (p4 : f ra = some (.inl (cy 3, 60, .inr (.inr (.inr (.inr gr)))))) (har : al ≠ ra) : zCi l D cy yX7_point cX7_point 5 (Option.some Jvm.ClassFile.FieldType.int) rmX7_point [.ref o, .long x, .long y] f (fun (r : Int32) (f1 : zM) => r = 0 ∧ (∀ (b : Nat) (e : va_E), f b = some e → b ≠ fa → b ≠ fi → b ≠ al → b ≠ ra → f1 b = some e)) := by
  intro sz
  refine z_body (by decide +kernel) (Nat.le_of_ble_eq_true rfl) ?_
  intro p e s m below meth c ls C hr hin hsz hz hl
  subst hsz
  have hx := C.1
  have hb := C.2.1
  have hA : ∀ q, s.heap.size ≤ q → zA f s.heap.size q := fun q h => Or.inr h
  have hS : va_S (zA f s.heap.size) s.heap s.heap [] := va_S.rf
  have hl : lv_has ls 5 [(0, .ref o), (1, .long x), (3, .long y)] := hl
  refine lv_aload_n hx hb dX7_point_0 rfl (lv_at hl 0 rfl) ?_
  refine z_get (v := .ref fa) C hz p0 zl7 mFX7_10 (by decide) rfl dX7_point_1 ?_
  refine z_callVv (As := []) C hz hS hA hl (k_X2_none l D cy f fa u1 u2 u3 ev p1 ) zyX2_none mMX7_76 p1 zl2 rfl rfl (Nat.le_of_ble_eq_true rfl) ⟨Nat.le_of_ble_eq_true rfl, Nat.le_of_ble_eq_true rfl⟩ ⟨Nat.le_of_ble_eq_true rfl, Nat.le_of_ble_eq_true rfl⟩ dX7_point_4 (fun  f1 H locs h2 hz hS => ?_)
  obtain ⟨a3, k4⟩ := h2
  refine lv_aload_n hx hb dX7_point_7 rfl (lv_at hl 0 rfl) ?_
  have a5 : f1 o = some (.inr (7, [.ref fa, .ref fi, .ref nu, .int 0, .ref fm, .int 0, .ref co, .int 0, .ref en, .ref ke, .long 1])) := k4 _ _ p0 (z_ne p0 p1 rfl)
  refine z_get (v := .ref fi) C hz a5 zl7 mFX7_19 (by decide) rfl dX7_point_8 ?_
  have a6 : f1 fi = some (.inr (5, [.ref al, .ref ra, .int 0])) := k4 _ _ p2 (z_ne p2 p1 rfl)
  refine z_callVi (As := []) C hz hS hA hl (k_X5_isFull l D cy f1 fi al ra a6 ) zyX5_isFull mMX7_79 a6 zl5 rfl rfl (Nat.le_of_ble_eq_true rfl) ⟨Nat.le_of_ble_eq_true rfl, Nat.le_of_ble_eq_true rfl⟩ ⟨Nat.le_of_ble_eq_true rfl, Nat.le_of_ble_eq_true rfl⟩ dX7_point_11 (fun r f7 H locs h8 hz hS => ?_)
  obtain ⟨rfl, k9⟩ := h8
  refine lv_if_eq (tgt := 20) hx hb dX7_point_14 (by decide) (fun c10 => ?_) (fun c10 => ?_)
  rotate_left
  · exact absurd c10 (by decide)
  refine lv_aload_n hx hb dX7_point_20 rfl (lv_at hl 0 rfl) ?_
  have a11 : f7 o = some (.inr (7, [.ref fa, .ref fi, .ref nu, .int 0, .ref fm, .int 0, .ref co, .int 0, .ref en, .ref ke, .long 1])) := k9 _ _ a5 
  refine z_get (v := .ref fi) C hz a11 zl7 mFX7_19 (by decide) rfl dX7_point_21 ?_
  refine z_new (fs := [.int 0, .null, .long 0, .int 0, .int 0, .int 0, .int 0]) C hz hS hA zl4 mLX7_83 mIa_RX4 mIn_RX4 (by decide +kernel) (Nat.le_of_ble_eq_true rfl) (Nat.le_of_ble_eq_true rfl) dX7_point_24 (fun q12 H f14 u13 a15 k16 hz hS => ?_)
  refine lv_dup hx hb dX7_point_27 rfl ?_
  refine lv_iconst (v := 0) hx hb dX7_point_28 (by decide) ?_
  refine lv_iconst (v := 2) hx hb dX7_point_29 (by decide) ?_
  refine z_newa (atype := .long) (t0 := 1) (N' := 2) (x := (.inr (.inl (fun _ => 0)))) C hz hS hA rfl mA_long rfl (fun _ => rfl) (by decide) (Nat.le_of_ble_eq_true rfl) (by decide) (Nat.le_of_ble_eq_true rfl) (Nat.le_of_ble_eq_true rfl) dX7_point_30 (fun q17 H f19 u18 a20 k21 hz hS => ?_)
  refine lv_dup hx hb dX7_point_32 rfl ?_
  refine lv_iconst (v := 0) hx hb dX7_point_33 (by decide) ?_
  refine lv_lload_n hx hb dX7_point_34 rfl (lv_at hl 1 rfl) ?_
  refine z_callSl (As := [.long x]) C hz hS hA hl (k_X7_oneNan l D cy f19 x  ) zyX7_oneNan mMX7_85 rfl rfl (Nat.le_of_ble_eq_true rfl) ⟨Nat.le_of_ble_eq_true rfl, Nat.le_of_ble_eq_true rfl⟩ ⟨Nat.le_of_ble_eq_true rfl, Nat.le_of_ble_eq_true rfl⟩ dX7_point_35 (fun r24 f22 H locs h23 hz hS => ?_)
  have k25 := h23
  have a26 : f22 q17 = some (.inl (cy 1, 2, .inr (.inl (fun _ => 0)))) := k25 _ _ a20 
  refine z_last 0 C hz hS a26 (by decide) (Nat.le_of_ble_eq_true rfl) (by omega) dX7_point_38 (fun H locs f27 a28 k29 hz hS => ?_)
  refine lv_dup hx hb dX7_point_39 rfl ?_
  refine lv_iconst (v := 1) hx hb dX7_point_40 (by decide) ?_
  refine lv_lload_n hx hb dX7_point_41 rfl (lv_at hl 2 rfl) ?_
  refine z_callSl (As := [.long y]) C hz hS hA hl (k_X7_oneNan l D cy f27 y  ) zyX7_oneNan mMX7_85 rfl rfl (Nat.le_of_ble_eq_true rfl) ⟨Nat.le_of_ble_eq_true rfl, Nat.le_of_ble_eq_true rfl⟩ ⟨Nat.le_of_ble_eq_true rfl, Nat.le_of_ble_eq_true rfl⟩ dX7_point_42 (fun r32 f30 H locs h31 hz hS => ?_)
  have k33 := h31
  have a34 : f30 q17 = some (.inl (cy 1, 2, .inr (.inl (vp_updL (fun _ => 0) 0 r24)))) := k33 _ _ a28 
  refine z_last 1 C hz hS a34 (by decide) (Nat.le_of_ble_eq_true rfl) (by omega) dX7_point_45 (fun H locs f35 a36 k37 hz hS => ?_)
  refine lv_lconst (v := 1) hx hb dX7_point_46 (by decide) ?_
  have a38 : f19 q12 = some (.inr (4, [.int 0, .null, .long 0, .int 0, .int 0, .int 0, .int 0])) := (k21 _ (z_nn u18 a15)).trans a15
  have a39 : f22 q12 = some (.inr (4, [.int 0, .null, .long 0, .int 0, .int 0, .int 0, .int 0])) := k25 _ _ a38 
  have a40 : f27 q12 = some (.inr (4, [.int 0, .null, .long 0, .int 0, .int 0, .int 0, .int 0])) := (k29 _ (z_nn u18 a15)).trans a39
  have a41 : f30 q12 = some (.inr (4, [.int 0, .null, .long 0, .int 0, .int 0, .int 0, .int 0])) := k33 _ _ a40 
  have a42 : f35 q12 = some (.inr (4, [.int 0, .null, .long 0, .int 0, .int 0, .int 0, .int 0])) := (k37 _ (z_nn u18 a15)).trans a41
  refine z_callIv (ret := none) (As := [.int 0, .ref q17, .long 1]) C hz hS hA hl (k_X4_init l D cy f35 q12 0 q17 1 a42 ) zyX4_init mMX7_89 rfl rfl (Nat.le_of_ble_eq_true rfl) ⟨Nat.le_of_ble_eq_true rfl, Nat.le_of_ble_eq_true rfl⟩ ⟨Nat.le_of_ble_eq_true rfl, Nat.le_of_ble_eq_true rfl⟩ dX7_point_47 (fun  f43 H locs h44 hz hS => ?_)
  obtain ⟨a45, k46⟩ := h44
  have a47 : f7 fi = some (.inr (5, [.ref al, .ref ra, .int 0])) := k9 _ _ a6 
  have a48 : f14 fi = some (.inr (5, [.ref al, .ref ra, .int 0])) := (k16 _ (z_nn u13 a47)).trans a47
  have a49 : f19 fi = some (.inr (5, [.ref al, .ref ra, .int 0])) := (k21 _ (z_nn u18 a48)).trans a48
  have a50 : f22 fi = some (.inr (5, [.ref al, .ref ra, .int 0])) := k25 _ _ a49 
  have a51 : f27 fi = some (.inr (5, [.ref al, .ref ra, .int 0])) := (k29 _ (z_nn u18 a48)).trans a50
  have a52 : f30 fi = some (.inr (5, [.ref al, .ref ra, .int 0])) := k33 _ _ a51 
  have a53 : f35 fi = some (.inr (5, [.ref al, .ref ra, .int 0])) := (k37 _ (z_nn u18 a48)).trans a52
  have a54 : f43 fi = some (.inr (5, [.ref al, .ref ra, .int 0])) := k46 _ _ a53 (z_nn u13 a47)
  have a55 : f1 al = some (.inl (cy 3, 60, .inr (.inr (.inr (.inr ga))))) := k4 _ _ p3 (z_ne p3 p1 rfl)
  have a56 : f7 al = some (.inl (cy 3, 60, .inr (.inr (.inr (.inr ga))))) := k9 _ _ a55 
  have a57 : f14 al = some (.inl (cy 3, 60, .inr (.inr (.inr (.inr ga))))) := (k16 _ (z_nn u13 a56)).trans a56
  have a58 : f19 al = some (.inl (cy 3, 60, .inr (.inr (.inr (.inr ga))))) := (k21 _ (z_nn u18 a57)).trans a57
  have a59 : f22 al = some (.inl (cy 3, 60, .inr (.inr (.inr (.inr ga))))) := k25 _ _ a58 
  have a60 : f27 al = some (.inl (cy 3, 60, .inr (.inr (.inr (.inr ga))))) := (k29 _ (z_nn u18 a57)).trans a59
  have a61 : f30 al = some (.inl (cy 3, 60, .inr (.inr (.inr (.inr ga))))) := k33 _ _ a60 
  have a62 : f35 al = some (.inl (cy 3, 60, .inr (.inr (.inr (.inr ga))))) := (k37 _ (z_nn u18 a57)).trans a61
  have a63 : f43 al = some (.inl (cy 3, 60, .inr (.inr (.inr (.inr ga))))) := k46 _ _ a62 (z_nn u13 a56)
  have a64 : f1 ra = some (.inl (cy 3, 60, .inr (.inr (.inr (.inr gr))))) := k4 _ _ p4 (z_ne p4 p1 rfl)
  have a65 : f7 ra = some (.inl (cy 3, 60, .inr (.inr (.inr (.inr gr))))) := k9 _ _ a64 
  have a66 : f14 ra = some (.inl (cy 3, 60, .inr (.inr (.inr (.inr gr))))) := (k16 _ (z_nn u13 a65)).trans a65
  have a67 : f19 ra = some (.inl (cy 3, 60, .inr (.inr (.inr (.inr gr))))) := (k21 _ (z_nn u18 a66)).trans a66
  have a68 : f22 ra = some (.inl (cy 3, 60, .inr (.inr (.inr (.inr gr))))) := k25 _ _ a67 
  have a69 : f27 ra = some (.inl (cy 3, 60, .inr (.inr (.inr (.inr gr))))) := (k29 _ (z_nn u18 a66)).trans a68
  have a70 : f30 ra = some (.inl (cy 3, 60, .inr (.inr (.inr (.inr gr))))) := k33 _ _ a69 
  have a71 : f35 ra = some (.inl (cy 3, 60, .inr (.inr (.inr (.inr gr))))) := (k37 _ (z_nn u18 a66)).trans a70
  have a72 : f43 ra = some (.inl (cy 3, 60, .inr (.inr (.inr (.inr gr))))) := k46 _ _ a71 (z_nn u13 a65)
  have a73 : f43 q17 = some (.inl (cy 1, 2, .inr (.inl (vp_updL (vp_updL (fun _ => 0) 0 r24) 1 r32)))) := k46 _ _ a36 (Ne.symm (z_nn u18 a15))
  refine z_callVi (As := [.ref q12]) C hz hS hA hl (k_X5_add l D cy f43 fi al ra ga gr q12 0 q17 1 0 (-1) 0 0 2 (vp_updL (vp_updL (fun _ => 0) 0 r24) 1 r32) a54 a63 a72 a45 a73 (by decide) (Nat.le_of_ble_eq_true rfl) har) zyX5_add mMX7_92 a54 zl5 rfl rfl (Nat.le_of_ble_eq_true rfl) ⟨Nat.le_of_ble_eq_true rfl, Nat.le_of_ble_eq_true rfl⟩ ⟨Nat.le_of_ble_eq_true rfl, Nat.le_of_ble_eq_true rfl⟩ dX7_point_50 (fun r f74 H locs h75 hz hS => ?_)
  obtain ⟨rfl, k76⟩ := h75
  exact z_iret C hr rfl hz hS ⟨rfl, (by
        intro b e hb n0 n1 n2 n3
        have hb0 : f1 b = some e := k4 b e hb n0
        have hb1 : f7 b = some e := k9 b e hb0 
        have nn2 : b ≠ q12 := z_nn u13 hb1
        have hb2 : f14 b = some e := (k16 b nn2).trans hb1
        have nn3 : b ≠ q17 := z_nn u18 hb2
        have hb3 : f19 b = some e := (k21 b nn3).trans hb2
        have hb4 : f22 b = some e := k25 b e hb3 
        have hb5 : f27 b = some e := (k29 b nn3).trans hb4
        have hb6 : f30 b = some e := k33 b e hb5 
        have hb7 : f35 b = some e := (k37 b nn3).trans hb6
        have hb8 : f43 b = some e := k46 b e hb7 nn2
        have hb9 : f74 b = some e := k76 b e hb8 n1 n2 n3 nn2
        exact hb9)⟩ (Nat.le_of_ble_eq_true rfl) (Nat.le_of_ble_eq_true rfl) dX7_point_53
abbrev rmX7_span : Room := { frames := 2, cells := 2, slots := 9, locals := 48 }
set_option maxHeartbeats 4000000 in
set_option maxRecDepth 100000 in
theorem k_X7_span (l : Launch) (D : va_G) (cy : Nat → ClassId) (f : zM) (o : Nat) (fa : Nat) (fi : Nat) (nu : Nat) (fm : Nat) (co : Nat) (en : Nat) (ke : Nat) (x : Int32) (y : Int32) (u1 : Int32) (u2 : Int32) (u3 : Int32) (ev : Nat) (al : Nat) (ra : Nat) (ga : Nat → Option Nat) (gr : Nat → Option Nat) (g : Nat → Int32) (p0 : f o = some (.inr (7, [.ref fa, .ref fi, .ref nu, .int 0, .ref fm, .int 0, .ref co, .int 0, .ref en, .ref ke, .long 1]))) (p1 : f fa = some (.inr (2, [.int u1, .int u2, .int u3, .ref ev]))) (p2 : f fi = some (.inr (5, [.ref al, .ref ra, .int 0]))) (p3 : f al = some (.inl (cy 3, 60, .inr (.inr (.inr (.inr ga)))))) (p4 : f ra = some (.inl (cy 3, 60, .inr (.inr (.inr (.inr gr)))))) (p5 : f ev = some (.inl (cy 0, 8, .inl g))) (har : al ≠ ra) : zCi l D cy yX7_span cX7_span 3 (Option.some Jvm.ClassFile.FieldType.int) rmX7_span [.ref o, .int x, .int y] f (fun (r : Int32) (f1 : zM) => r = (if x ≤ y then 0 else (-4)) ∧ (∀ (b : Nat) (e : va_E), f b = some e → b ≠ fa → b ≠ fi → b ≠ al → b ≠ ra → b ≠ ev → f1 b = some e)) := by
  intro sz
  refine z_body (by decide +kernel) (Nat.le_of_ble_eq_true rfl) ?_
  intro p e s m below meth c ls C hr hin hsz hz hl
  subst hsz
  have hx := C.1
  have hb := C.2.1
  have hA : ∀ q, s.heap.size ≤ q → zA f s.heap.size q := fun q h => Or.inr h
  have hS : va_S (zA f s.heap.size) s.heap s.heap [] := va_S.rf
  have hl : lv_has ls 3 [(0, .ref o), (1, .int x), (2, .int y)] := hl
  refine lv_aload_n hx hb dX7_span_0 rfl (lv_at hl 0 rfl) ?_
  refine z_get (v := .ref fa) C hz p0 zl7 mFX7_10 (by decide) rfl dX7_span_1 ?_
  refine z_callVv (As := []) C hz hS hA hl (k_X2_none l D cy f fa u1 u2 u3 ev p1 ) zyX2_none mMX7_76 p1 zl2 rfl rfl (Nat.le_of_ble_eq_true rfl) ⟨Nat.le_of_ble_eq_true rfl, Nat.le_of_ble_eq_true rfl⟩ ⟨Nat.le_of_ble_eq_true rfl, Nat.le_of_ble_eq_true rfl⟩ dX7_span_4 (fun  f1 H locs h2 hz hS => ?_)
  obtain ⟨a3, k4⟩ := h2
  refine lv_aload_n hx hb dX7_span_7 rfl (lv_at hl 0 rfl) ?_
  have a5 : f1 o = some (.inr (7, [.ref fa, .ref fi, .ref nu, .int 0, .ref fm, .int 0, .ref co, .int 0, .ref en, .ref ke, .long 1])) := k4 _ _ p0 (z_ne p0 p1 rfl)
  refine z_get (v := .ref fi) C hz a5 zl7 mFX7_19 (by decide) rfl dX7_span_8 ?_
  have a6 : f1 fi = some (.inr (5, [.ref al, .ref ra, .int 0])) := k4 _ _ p2 (z_ne p2 p1 rfl)
  refine z_callVi (As := []) C hz hS hA hl (k_X5_isFull l D cy f1 fi al ra a6 ) zyX5_isFull mMX7_79 a6 zl5 rfl rfl (Nat.le_of_ble_eq_true rfl) ⟨Nat.le_of_ble_eq_true rfl, Nat.le_of_ble_eq_true rfl⟩ ⟨Nat.le_of_ble_eq_true rfl, Nat.le_of_ble_eq_true rfl⟩ dX7_span_11 (fun r f7 H locs h8 hz hS => ?_)
  obtain ⟨rfl, k9⟩ := h8
  refine lv_if_eq (tgt := 20) hx hb dX7_span_14 (by decide) (fun c10 => ?_) (fun c10 => ?_)
  rotate_left
  · exact absurd c10 (by decide)
  refine lv_iload_n hx hb dX7_span_20 rfl (lv_at hl 1 rfl) ?_
  refine lv_iload_n hx hb dX7_span_21 rfl (lv_at hl 2 rfl) ?_
  refine lv_icmp_le (tgt := 35) hx hb dX7_span_22 (by decide) (fun c11 => ?_) (fun c11 => ?_)
  · refine lv_aload_n hx hb dX7_span_35 rfl (lv_at hl 0 rfl) ?_
    have a12 : f7 o = some (.inr (7, [.ref fa, .ref fi, .ref nu, .int 0, .ref fm, .int 0, .ref co, .int 0, .ref en, .ref ke, .long 1])) := k9 _ _ a5 
    refine z_get (v := .ref fi) C hz a12 zl7 mFX7_19 (by decide) rfl dX7_span_36 ?_
    refine z_new (fs := [.int 0, .null, .long 0, .int 0, .int 0, .int 0, .int 0]) C hz hS hA zl4 mLX7_83 mIa_RX4 mIn_RX4 (by decide +kernel) (Nat.le_of_ble_eq_true rfl) (Nat.le_of_ble_eq_true rfl) dX7_span_39 (fun q13 H f15 u14 a16 k17 hz hS => ?_)
    refine lv_dup hx hb dX7_span_42 rfl ?_
    refine lv_iconst (v := 1) hx hb dX7_span_43 (by decide) ?_
    refine lv_iconst (v := 2) hx hb dX7_span_44 (by decide) ?_
    refine z_newa (atype := .long) (t0 := 1) (N' := 2) (x := (.inr (.inl (fun _ => 0)))) C hz hS hA rfl mA_long rfl (fun _ => rfl) (by decide) (Nat.le_of_ble_eq_true rfl) (by decide) (Nat.le_of_ble_eq_true rfl) (Nat.le_of_ble_eq_true rfl) dX7_span_45 (fun q18 H f20 u19 a21 k22 hz hS => ?_)
    refine lv_dup hx hb dX7_span_47 rfl ?_
    refine lv_iconst (v := 0) hx hb dX7_span_48 (by decide) ?_
    refine lv_iload_n hx hb dX7_span_49 rfl (lv_at hl 1 rfl) ?_
    refine lv_i2l (v := x.toInt64) hx hb dX7_span_50 rfl ?_
    refine z_last 0 C hz hS a21 (by decide) (Nat.le_of_ble_eq_true rfl) (by omega) dX7_span_51 (fun H locs f23 a24 k25 hz hS => ?_)
    refine lv_dup hx hb dX7_span_52 rfl ?_
    refine lv_iconst (v := 1) hx hb dX7_span_53 (by decide) ?_
    refine lv_iload_n hx hb dX7_span_54 rfl (lv_at hl 2 rfl) ?_
    refine lv_i2l (v := y.toInt64) hx hb dX7_span_55 rfl ?_
    refine z_last 1 C hz hS a24 (by decide) (Nat.le_of_ble_eq_true rfl) (by omega) dX7_span_56 (fun H locs f26 a27 k28 hz hS => ?_)
    refine lv_iload_n hx hb dX7_span_57 rfl (lv_at hl 1 rfl) ?_
    refine lv_iload_n hx hb dX7_span_58 rfl (lv_at hl 2 rfl) ?_
    refine z_callSl (As := [.int x, .int y]) C hz hS hA hl (k_X7_lengthOf l D cy f26 x y  ) zyX7_lengthOf mMX7_100 rfl rfl (Nat.le_of_ble_eq_true rfl) ⟨Nat.le_of_ble_eq_true rfl, Nat.le_of_ble_eq_true rfl⟩ ⟨Nat.le_of_ble_eq_true rfl, Nat.le_of_ble_eq_true rfl⟩ dX7_span_59 (fun r31 f29 H locs h30 hz hS => ?_)
    have k32 := h30
    have a33 : f20 q13 = some (.inr (4, [.int 0, .null, .long 0, .int 0, .int 0, .int 0, .int 0])) := (k22 _ (z_nn u19 a16)).trans a16
    have a34 : f23 q13 = some (.inr (4, [.int 0, .null, .long 0, .int 0, .int 0, .int 0, .int 0])) := (k25 _ (z_nn u19 a16)).trans a33
    have a35 : f26 q13 = some (.inr (4, [.int 0, .null, .long 0, .int 0, .int 0, .int 0, .int 0])) := (k28 _ (z_nn u19 a16)).trans a34
    have a36 : f29 q13 = some (.inr (4, [.int 0, .null, .long 0, .int 0, .int 0, .int 0, .int 0])) := k32 _ _ a35 
    refine z_callIv (ret := none) (As := [.int 1, .ref q18, .long r31]) C hz hS hA hl (k_X4_init l D cy f29 q13 1 q18 r31 a36 ) zyX4_init mMX7_89 rfl rfl (Nat.le_of_ble_eq_true rfl) ⟨Nat.le_of_ble_eq_true rfl, Nat.le_of_ble_eq_true rfl⟩ ⟨Nat.le_of_ble_eq_true rfl, Nat.le_of_ble_eq_true rfl⟩ dX7_span_62 (fun  f37 H locs h38 hz hS => ?_)
    obtain ⟨a39, k40⟩ := h38
    have a41 : f7 fi = some (.inr (5, [.ref al, .ref ra, .int 0])) := k9 _ _ a6 
    have a42 : f15 fi = some (.inr (5, [.ref al, .ref ra, .int 0])) := (k17 _ (z_nn u14 a41)).trans a41
    have a43 : f20 fi = some (.inr (5, [.ref al, .ref ra, .int 0])) := (k22 _ (z_nn u19 a42)).trans a42
    have a44 : f23 fi = some (.inr (5, [.ref al, .ref ra, .int 0])) := (k25 _ (z_nn u19 a42)).trans a43
    have a45 : f26 fi = some (.inr (5, [.ref al, .ref ra, .int 0])) := (k28 _ (z_nn u19 a42)).trans a44
    have a46 : f29 fi = some (.inr (5, [.ref al, .ref ra, .int 0])) := k32 _ _ a45 
    have a47 : f37 fi = some (.inr (5, [.ref al, .ref ra, .int 0])) := k40 _ _ a46 (z_nn u14 a41)
    have a48 : f1 al = some (.inl (cy 3, 60, .inr (.inr (.inr (.inr ga))))) := k4 _ _ p3 (z_ne p3 p1 rfl)
    have a49 : f7 al = some (.inl (cy 3, 60, .inr (.inr (.inr (.inr ga))))) := k9 _ _ a48 
    have a50 : f15 al = some (.inl (cy 3, 60, .inr (.inr (.inr (.inr ga))))) := (k17 _ (z_nn u14 a49)).trans a49
    have a51 : f20 al = some (.inl (cy 3, 60, .inr (.inr (.inr (.inr ga))))) := (k22 _ (z_nn u19 a50)).trans a50
    have a52 : f23 al = some (.inl (cy 3, 60, .inr (.inr (.inr (.inr ga))))) := (k25 _ (z_nn u19 a50)).trans a51
    have a53 : f26 al = some (.inl (cy 3, 60, .inr (.inr (.inr (.inr ga))))) := (k28 _ (z_nn u19 a50)).trans a52
    have a54 : f29 al = some (.inl (cy 3, 60, .inr (.inr (.inr (.inr ga))))) := k32 _ _ a53 
    have a55 : f37 al = some (.inl (cy 3, 60, .inr (.inr (.inr (.inr ga))))) := k40 _ _ a54 (z_nn u14 a49)
    have a56 : f1 ra = some (.inl (cy 3, 60, .inr (.inr (.inr (.inr gr))))) := k4 _ _ p4 (z_ne p4 p1 rfl)
    have a57 : f7 ra = some (.inl (cy 3, 60, .inr (.inr (.inr (.inr gr))))) := k9 _ _ a56 
    have a58 : f15 ra = some (.inl (cy 3, 60, .inr (.inr (.inr (.inr gr))))) := (k17 _ (z_nn u14 a57)).trans a57
    have a59 : f20 ra = some (.inl (cy 3, 60, .inr (.inr (.inr (.inr gr))))) := (k22 _ (z_nn u19 a58)).trans a58
    have a60 : f23 ra = some (.inl (cy 3, 60, .inr (.inr (.inr (.inr gr))))) := (k25 _ (z_nn u19 a58)).trans a59
    have a61 : f26 ra = some (.inl (cy 3, 60, .inr (.inr (.inr (.inr gr))))) := (k28 _ (z_nn u19 a58)).trans a60
    have a62 : f29 ra = some (.inl (cy 3, 60, .inr (.inr (.inr (.inr gr))))) := k32 _ _ a61 
    have a63 : f37 ra = some (.inl (cy 3, 60, .inr (.inr (.inr (.inr gr))))) := k40 _ _ a62 (z_nn u14 a57)
    have a64 : f29 q18 = some (.inl (cy 1, 2, .inr (.inl (vp_updL (vp_updL (fun _ => 0) 0 x.toInt64) 1 y.toInt64)))) := k32 _ _ a27 
    have a65 : f37 q18 = some (.inl (cy 1, 2, .inr (.inl (vp_updL (vp_updL (fun _ => 0) 0 x.toInt64) 1 y.toInt64)))) := k40 _ _ a64 (Ne.symm (z_nn u19 a16))
    refine z_callVi (As := [.ref q13]) C hz hS hA hl (k_X5_add l D cy f37 fi al ra ga gr q13 1 q18 r31 0 (-1) 0 0 2 (vp_updL (vp_updL (fun _ => 0) 0 x.toInt64) 1 y.toInt64) a47 a55 a63 a39 a65 (by decide) (Nat.le_of_ble_eq_true rfl) har) zyX5_add mMX7_92 a47 zl5 rfl rfl (Nat.le_of_ble_eq_true rfl) ⟨Nat.le_of_ble_eq_true rfl, Nat.le_of_ble_eq_true rfl⟩ ⟨Nat.le_of_ble_eq_true rfl, Nat.le_of_ble_eq_true rfl⟩ dX7_span_65 (fun r f66 H locs h67 hz hS => ?_)
    obtain ⟨rfl, k68⟩ := h67
    exact z_iret C hr rfl hz hS ⟨(by simp [c10, c11]), (by
          intro b e hb n0 n1 n2 n3 n4
          have hb0 : f1 b = some e := k4 b e hb n0
          have hb1 : f7 b = some e := k9 b e hb0 
          have nn2 : b ≠ q13 := z_nn u14 hb1
          have hb2 : f15 b = some e := (k17 b nn2).trans hb1
          have nn3 : b ≠ q18 := z_nn u19 hb2
          have hb3 : f20 b = some e := (k22 b nn3).trans hb2
          have hb4 : f23 b = some e := (k25 b nn3).trans hb3
          have hb5 : f26 b = some e := (k28 b nn3).trans hb4
          have hb6 : f29 b = some e := k32 b e hb5 
          have hb7 : f37 b = some e := k40 b e hb6 nn2
          have hb8 : f66 b = some e := k68 b e hb7 n1 n2 n3 nn2
          exact hb8)⟩ (Nat.le_of_ble_eq_true rfl) (Nat.le_of_ble_eq_true rfl) dX7_span_68
  · refine lv_aload_n hx hb dX7_span_25 rfl (lv_at hl 0 rfl) ?_
    have a69 : f7 o = some (.inr (7, [.ref fa, .ref fi, .ref nu, .int 0, .ref fm, .int 0, .ref co, .int 0, .ref en, .ref ke, .long 1])) := k9 _ _ a5 
    refine z_get (v := .ref fa) C hz a69 zl7 mFX7_10 (by decide) rfl dX7_span_26 ?_
    refine lv_iconst (v := 1) hx hb dX7_span_29 (by decide) ?_
    refine lv_iconst (v := 1) hx hb dX7_span_30 (by decide) ?_
    have a70 : f7 fa = some (.inr (2, [.int 0, .int (-1), .int 0, .ref ev])) := k9 _ _ a3 
    have a71 : f1 ev = some (.inl (cy 0, 8, .inl g)) := k4 _ _ p5 (z_ne p5 p1 rfl)
    have a72 : f7 ev = some (.inl (cy 0, 8, .inl g)) := k9 _ _ a71 
    refine z_callVi (As := [.int 1, .int 1]) C hz hS hA hl (k_X2_own l D cy f7 fa 1 1 0 (-1) 0 ev g a70 a72 ) zyX2_own mMX7_96 a70 zl2 rfl rfl (Nat.le_of_ble_eq_true rfl) ⟨Nat.le_of_ble_eq_true rfl, Nat.le_of_ble_eq_true rfl⟩ ⟨Nat.le_of_ble_eq_true rfl, Nat.le_of_ble_eq_true rfl⟩ dX7_span_31 (fun r f73 H locs h74 hz hS => ?_)
    obtain ⟨rfl, a75, a76, k77⟩ := h74
    exact z_iret C hr rfl hz hS ⟨(by simp [c10, c11]), (by
          intro b e hb n0 n1 n2 n3 n4
          have hb0 : f1 b = some e := k4 b e hb n0
          have hb1 : f7 b = some e := k9 b e hb0 
          have hb2 : f73 b = some e := k77 b e hb1 n0 n4
          exact hb2)⟩ (Nat.le_of_ble_eq_true rfl) (Nat.le_of_ble_eq_true rfl) dX7_span_34
abbrev rmX7_wide : Room := { frames := 2, cells := 2, slots := 10, locals := 48 }
set_option maxHeartbeats 4000000 in
set_option maxRecDepth 100000 in
theorem k_X7_wide (l : Launch) (D : va_G) (cy : Nat → ClassId) (f : zM) (o : Nat) (fa : Nat) (fi : Nat) (nu : Nat) (fm : Nat) (co : Nat) (en : Nat) (ke : Nat) (x : Int32) (y : Int32) (z : Int32) (u1 : Int32) (u2 : Int32) (u3 : Int32) (ev : Nat) (al : Nat) (ra : Nat) (ga : Nat → Option Nat) (gr : Nat → Option Nat) (g : Nat → Int32) (p0 : f o = some (.inr (7, [.ref fa, .ref fi, .ref nu, .int 0, .ref fm, .int 0, .ref co, .int 0, .ref en, .ref ke, .long 1]))) (p1 : f fa = some (.inr (2, [.int u1, .int u2, .int u3, .ref ev]))) (p2 : f fi = some (.inr (5, [.ref al, .ref ra, .int 0]))) (p3 : f al = some (.inl (cy 3, 60, .inr (.inr (.inr (.inr ga)))))) (p4 : f ra = some (.inl (cy 3, 60, .inr (.inr (.inr (.inr gr)))))) (p5 : f ev = some (.inl (cy 0, 8, .inl g))) (har : al ≠ ra) : zCi l D cy yX7_wide cX7_wide 6 (Option.some Jvm.ClassFile.FieldType.int) rmX7_wide [.ref o, .int x, .int y, .int z] f (fun (r : Int32) (f1 : zM) => r = (if x ≤ y then (if z = 0 then (-4) else if y - x - (y - x) / z * z = 0 then 0 else (-4)) else (-4)) ∧ (∀ (b : Nat) (e : va_E), f b = some e → b ≠ fa → b ≠ fi → b ≠ al → b ≠ ra → b ≠ ev → f1 b = some e)) := by
  intro sz
  refine z_body (by decide +kernel) (Nat.le_of_ble_eq_true rfl) ?_
  intro p e s m below meth c ls C hr hin hsz hz hl
  subst hsz
  have hx := C.1
  have hb := C.2.1
  have hA : ∀ q, s.heap.size ≤ q → zA f s.heap.size q := fun q h => Or.inr h
  have hS : va_S (zA f s.heap.size) s.heap s.heap [] := va_S.rf
  have hl : lv_has ls 6 [(0, .ref o), (1, .int x), (2, .int y), (3, .int z)] := hl
  refine lv_aload_n hx hb dX7_wide_0 rfl (lv_at hl 0 rfl) ?_
  refine z_get (v := .ref fa) C hz p0 zl7 mFX7_10 (by decide) rfl dX7_wide_1 ?_
  refine z_callVv (As := []) C hz hS hA hl (k_X2_none l D cy f fa u1 u2 u3 ev p1 ) zyX2_none mMX7_76 p1 zl2 rfl rfl (Nat.le_of_ble_eq_true rfl) ⟨Nat.le_of_ble_eq_true rfl, Nat.le_of_ble_eq_true rfl⟩ ⟨Nat.le_of_ble_eq_true rfl, Nat.le_of_ble_eq_true rfl⟩ dX7_wide_4 (fun  f1 H locs h2 hz hS => ?_)
  obtain ⟨a3, k4⟩ := h2
  refine lv_aload_n hx hb dX7_wide_7 rfl (lv_at hl 0 rfl) ?_
  have a5 : f1 o = some (.inr (7, [.ref fa, .ref fi, .ref nu, .int 0, .ref fm, .int 0, .ref co, .int 0, .ref en, .ref ke, .long 1])) := k4 _ _ p0 (z_ne p0 p1 rfl)
  refine z_get (v := .ref fi) C hz a5 zl7 mFX7_19 (by decide) rfl dX7_wide_8 ?_
  have a6 : f1 fi = some (.inr (5, [.ref al, .ref ra, .int 0])) := k4 _ _ p2 (z_ne p2 p1 rfl)
  refine z_callVi (As := []) C hz hS hA hl (k_X5_isFull l D cy f1 fi al ra a6 ) zyX5_isFull mMX7_79 a6 zl5 rfl rfl (Nat.le_of_ble_eq_true rfl) ⟨Nat.le_of_ble_eq_true rfl, Nat.le_of_ble_eq_true rfl⟩ ⟨Nat.le_of_ble_eq_true rfl, Nat.le_of_ble_eq_true rfl⟩ dX7_wide_11 (fun r f7 H locs h8 hz hS => ?_)
  obtain ⟨rfl, k9⟩ := h8
  refine lv_if_eq (tgt := 20) hx hb dX7_wide_14 (by decide) (fun c10 => ?_) (fun c10 => ?_)
  rotate_left
  · exact absurd c10 (by decide)
  refine lv_iload_n hx hb dX7_wide_20 rfl (lv_at hl 1 rfl) ?_
  refine lv_iload_n hx hb dX7_wide_21 rfl (lv_at hl 2 rfl) ?_
  refine lv_icmp_le (tgt := 35) hx hb dX7_wide_22 (by decide) (fun c11 => ?_) (fun c11 => ?_)
  · refine lv_iload_n hx hb dX7_wide_35 rfl (lv_at hl 3 rfl) ?_
    refine lv_if_ne (tgt := 50) hx hb dX7_wide_36 (by decide) (fun c12 => ?_) (fun c12 => ?_)
    · refine lv_iload_n hx hb dX7_wide_50 rfl (lv_at hl 2 rfl) ?_
      refine lv_iload_n hx hb dX7_wide_51 rfl (lv_at hl 1 rfl) ?_
      refine lv_isub hx hb dX7_wide_52 ?_
      refine lv_iload_n hx hb dX7_wide_53 rfl (lv_at hl 3 rfl) ?_
      refine lv_irem hx hb dX7_wide_54 c12 ?_
      refine lv_if_eq (tgt := 68) hx hb dX7_wide_55 (by decide) (fun c13 => ?_) (fun c13 => ?_)
      · refine lv_iload_n hx hb dX7_wide_68 rfl (lv_at hl 1 rfl) ?_
        refine lv_iload_n hx hb dX7_wide_69 rfl (lv_at hl 2 rfl) ?_
        refine z_callSl (As := [.int x, .int y]) C hz hS hA hl (k_X7_lengthOf l D cy f7 x y  ) zyX7_lengthOf mMX7_100 rfl rfl (Nat.le_of_ble_eq_true rfl) ⟨Nat.le_of_ble_eq_true rfl, Nat.le_of_ble_eq_true rfl⟩ ⟨Nat.le_of_ble_eq_true rfl, Nat.le_of_ble_eq_true rfl⟩ dX7_wide_70 (fun r16 f14 H locs h15 hz hS => ?_)
        have k17 := h15
        refine lv_iload_n hx hb dX7_wide_73 rfl (lv_at hl 3 rfl) ?_
        refine lv_i2l (v := z.toInt64) hx hb dX7_wide_74 rfl ?_
        refine va_mabs_long hx hb (by rw [C.2.2.1]; exact hl.1.symm) C.2.2.2.1 (C.2.2.2.2.1 _ mMX7_107) (C.2.2.2.2.1 _ mS_yAbs) (C.2.2.2.2.1 _ mIn_RJ9) (C.2.2.2.2.1 _ mC_yAbs) (Nat.le_of_ble_eq_true rfl) (Nat.le_of_ble_eq_true rfl) (Nat.le_of_ble_eq_true rfl) (Nat.le_of_ble_eq_true rfl) dX7_wide_75 ?_
        refine lv_ldiv hx hb dX7_wide_78 (z_absne c12) ?_
        refine lv_lconst (v := 1) hx hb dX7_wide_79 (by decide) ?_
        refine lv_ladd hx hb dX7_wide_80 ?_
        refine lv_lstore (lv' := [(4, .long ((r16 / (if 0 < z.toInt64 then z.toInt64 else -z.toInt64)) + 1)), (0, .ref o), (1, .int x), (2, .int y), (3, .int z)]) hx hb dX7_wide_81 hl (by decide) rfl (fun ls hl => ?_)
        refine lv_aload_n hx hb dX7_wide_83 rfl (lv_at hl 1 rfl) ?_
        have a18 : f7 o = some (.inr (7, [.ref fa, .ref fi, .ref nu, .int 0, .ref fm, .int 0, .ref co, .int 0, .ref en, .ref ke, .long 1])) := k9 _ _ a5 
        have a19 : f14 o = some (.inr (7, [.ref fa, .ref fi, .ref nu, .int 0, .ref fm, .int 0, .ref co, .int 0, .ref en, .ref ke, .long 1])) := k17 _ _ a18 
        refine z_get (v := .ref fi) C hz a19 zl7 mFX7_19 (by decide) rfl dX7_wide_84 ?_
        refine z_new (fs := [.int 0, .null, .long 0, .int 0, .int 0, .int 0, .int 0]) C hz hS hA zl4 mLX7_83 mIa_RX4 mIn_RX4 (by decide +kernel) (Nat.le_of_ble_eq_true rfl) (Nat.le_of_ble_eq_true rfl) dX7_wide_87 (fun q20 H f22 u21 a23 k24 hz hS => ?_)
        refine lv_dup hx hb dX7_wide_90 rfl ?_
        refine lv_iconst (v := 2) hx hb dX7_wide_91 (by decide) ?_
        refine lv_iconst (v := 3) hx hb dX7_wide_92 (by decide) ?_
        refine z_newa (atype := .long) (t0 := 1) (N' := 3) (x := (.inr (.inl (fun _ => 0)))) C hz hS hA rfl mA_long rfl (fun _ => rfl) (by decide) (Nat.le_of_ble_eq_true rfl) (by decide) (Nat.le_of_ble_eq_true rfl) (Nat.le_of_ble_eq_true rfl) dX7_wide_93 (fun q25 H f27 u26 a28 k29 hz hS => ?_)
        refine lv_dup hx hb dX7_wide_95 rfl ?_
        refine lv_iconst (v := 0) hx hb dX7_wide_96 (by decide) ?_
        refine lv_iload_n hx hb dX7_wide_97 rfl (lv_at hl 2 rfl) ?_
        refine lv_i2l (v := x.toInt64) hx hb dX7_wide_98 rfl ?_
        refine z_last 0 C hz hS a28 (by decide) (Nat.le_of_ble_eq_true rfl) (by omega) dX7_wide_99 (fun H locs f30 a31 k32 hz hS => ?_)
        refine lv_dup hx hb dX7_wide_100 rfl ?_
        refine lv_iconst (v := 1) hx hb dX7_wide_101 (by decide) ?_
        refine lv_iload_n hx hb dX7_wide_102 rfl (lv_at hl 3 rfl) ?_
        refine lv_i2l (v := y.toInt64) hx hb dX7_wide_103 rfl ?_
        refine z_last 1 C hz hS a31 (by decide) (Nat.le_of_ble_eq_true rfl) (by omega) dX7_wide_104 (fun H locs f33 a34 k35 hz hS => ?_)
        refine lv_dup hx hb dX7_wide_105 rfl ?_
        refine lv_iconst (v := 2) hx hb dX7_wide_106 (by decide) ?_
        refine lv_iload_n hx hb dX7_wide_107 rfl (lv_at hl 4 rfl) ?_
        refine lv_i2l (v := z.toInt64) hx hb dX7_wide_108 rfl ?_
        refine z_last 2 C hz hS a34 (by decide) (Nat.le_of_ble_eq_true rfl) (by omega) dX7_wide_109 (fun H locs f36 a37 k38 hz hS => ?_)
        refine lv_lload hx hb dX7_wide_110 (lv_at hl 0 rfl) ?_
        have a39 : f27 q20 = some (.inr (4, [.int 0, .null, .long 0, .int 0, .int 0, .int 0, .int 0])) := (k29 _ (z_nn u26 a23)).trans a23
        have a40 : f30 q20 = some (.inr (4, [.int 0, .null, .long 0, .int 0, .int 0, .int 0, .int 0])) := (k32 _ (z_nn u26 a23)).trans a39
        have a41 : f33 q20 = some (.inr (4, [.int 0, .null, .long 0, .int 0, .int 0, .int 0, .int 0])) := (k35 _ (z_nn u26 a23)).trans a40
        have a42 : f36 q20 = some (.inr (4, [.int 0, .null, .long 0, .int 0, .int 0, .int 0, .int 0])) := (k38 _ (z_nn u26 a23)).trans a41
        refine z_callIv (ret := none) (As := [.int 2, .ref q25, .long ((r16 / (if 0 < z.toInt64 then z.toInt64 else -z.toInt64)) + 1)]) C hz hS hA hl (k_X4_init l D cy f36 q20 2 q25 ((r16 / (if 0 < z.toInt64 then z.toInt64 else -z.toInt64)) + 1) a42 ) zyX4_init mMX7_89 rfl rfl (Nat.le_of_ble_eq_true rfl) ⟨Nat.le_of_ble_eq_true rfl, Nat.le_of_ble_eq_true rfl⟩ ⟨Nat.le_of_ble_eq_true rfl, Nat.le_of_ble_eq_true rfl⟩ dX7_wide_112 (fun  f43 H locs h44 hz hS => ?_)
        obtain ⟨a45, k46⟩ := h44
        have a47 : f7 fi = some (.inr (5, [.ref al, .ref ra, .int 0])) := k9 _ _ a6 
        have a48 : f14 fi = some (.inr (5, [.ref al, .ref ra, .int 0])) := k17 _ _ a47 
        have a49 : f22 fi = some (.inr (5, [.ref al, .ref ra, .int 0])) := (k24 _ (z_nn u21 a48)).trans a48
        have a50 : f27 fi = some (.inr (5, [.ref al, .ref ra, .int 0])) := (k29 _ (z_nn u26 a49)).trans a49
        have a51 : f30 fi = some (.inr (5, [.ref al, .ref ra, .int 0])) := (k32 _ (z_nn u26 a49)).trans a50
        have a52 : f33 fi = some (.inr (5, [.ref al, .ref ra, .int 0])) := (k35 _ (z_nn u26 a49)).trans a51
        have a53 : f36 fi = some (.inr (5, [.ref al, .ref ra, .int 0])) := (k38 _ (z_nn u26 a49)).trans a52
        have a54 : f43 fi = some (.inr (5, [.ref al, .ref ra, .int 0])) := k46 _ _ a53 (z_nn u21 a48)
        have a55 : f1 al = some (.inl (cy 3, 60, .inr (.inr (.inr (.inr ga))))) := k4 _ _ p3 (z_ne p3 p1 rfl)
        have a56 : f7 al = some (.inl (cy 3, 60, .inr (.inr (.inr (.inr ga))))) := k9 _ _ a55 
        have a57 : f14 al = some (.inl (cy 3, 60, .inr (.inr (.inr (.inr ga))))) := k17 _ _ a56 
        have a58 : f22 al = some (.inl (cy 3, 60, .inr (.inr (.inr (.inr ga))))) := (k24 _ (z_nn u21 a57)).trans a57
        have a59 : f27 al = some (.inl (cy 3, 60, .inr (.inr (.inr (.inr ga))))) := (k29 _ (z_nn u26 a58)).trans a58
        have a60 : f30 al = some (.inl (cy 3, 60, .inr (.inr (.inr (.inr ga))))) := (k32 _ (z_nn u26 a58)).trans a59
        have a61 : f33 al = some (.inl (cy 3, 60, .inr (.inr (.inr (.inr ga))))) := (k35 _ (z_nn u26 a58)).trans a60
        have a62 : f36 al = some (.inl (cy 3, 60, .inr (.inr (.inr (.inr ga))))) := (k38 _ (z_nn u26 a58)).trans a61
        have a63 : f43 al = some (.inl (cy 3, 60, .inr (.inr (.inr (.inr ga))))) := k46 _ _ a62 (z_nn u21 a57)
        have a64 : f1 ra = some (.inl (cy 3, 60, .inr (.inr (.inr (.inr gr))))) := k4 _ _ p4 (z_ne p4 p1 rfl)
        have a65 : f7 ra = some (.inl (cy 3, 60, .inr (.inr (.inr (.inr gr))))) := k9 _ _ a64 
        have a66 : f14 ra = some (.inl (cy 3, 60, .inr (.inr (.inr (.inr gr))))) := k17 _ _ a65 
        have a67 : f22 ra = some (.inl (cy 3, 60, .inr (.inr (.inr (.inr gr))))) := (k24 _ (z_nn u21 a66)).trans a66
        have a68 : f27 ra = some (.inl (cy 3, 60, .inr (.inr (.inr (.inr gr))))) := (k29 _ (z_nn u26 a67)).trans a67
        have a69 : f30 ra = some (.inl (cy 3, 60, .inr (.inr (.inr (.inr gr))))) := (k32 _ (z_nn u26 a67)).trans a68
        have a70 : f33 ra = some (.inl (cy 3, 60, .inr (.inr (.inr (.inr gr))))) := (k35 _ (z_nn u26 a67)).trans a69
        have a71 : f36 ra = some (.inl (cy 3, 60, .inr (.inr (.inr (.inr gr))))) := (k38 _ (z_nn u26 a67)).trans a70
        have a72 : f43 ra = some (.inl (cy 3, 60, .inr (.inr (.inr (.inr gr))))) := k46 _ _ a71 (z_nn u21 a66)
        have a73 : f43 q25 = some (.inl (cy 1, 3, .inr (.inl (vp_updL (vp_updL (vp_updL (fun _ => 0) 0 x.toInt64) 1 y.toInt64) 2 z.toInt64)))) := k46 _ _ a37 (Ne.symm (z_nn u26 a23))
        refine z_callVi (As := [.ref q20]) C hz hS hA hl (k_X5_add l D cy f43 fi al ra ga gr q20 2 q25 ((r16 / (if 0 < z.toInt64 then z.toInt64 else -z.toInt64)) + 1) 0 (-1) 0 0 3 (vp_updL (vp_updL (vp_updL (fun _ => 0) 0 x.toInt64) 1 y.toInt64) 2 z.toInt64) a54 a63 a72 a45 a73 (by decide) (Nat.le_of_ble_eq_true rfl) har) zyX5_add mMX7_92 a54 zl5 rfl rfl (Nat.le_of_ble_eq_true rfl) ⟨Nat.le_of_ble_eq_true rfl, Nat.le_of_ble_eq_true rfl⟩ ⟨Nat.le_of_ble_eq_true rfl, Nat.le_of_ble_eq_true rfl⟩ dX7_wide_115 (fun r f74 H locs h75 hz hS => ?_)
        obtain ⟨rfl, k76⟩ := h75
        exact z_iret C hr rfl hz hS ⟨(by simp [c10, c11, c12, c13]), (by
              intro b e hb n0 n1 n2 n3 n4
              have hb0 : f1 b = some e := k4 b e hb n0
              have hb1 : f7 b = some e := k9 b e hb0 
              have hb2 : f14 b = some e := k17 b e hb1 
              have nn3 : b ≠ q20 := z_nn u21 hb2
              have hb3 : f22 b = some e := (k24 b nn3).trans hb2
              have nn4 : b ≠ q25 := z_nn u26 hb3
              have hb4 : f27 b = some e := (k29 b nn4).trans hb3
              have hb5 : f30 b = some e := (k32 b nn4).trans hb4
              have hb6 : f33 b = some e := (k35 b nn4).trans hb5
              have hb7 : f36 b = some e := (k38 b nn4).trans hb6
              have hb8 : f43 b = some e := k46 b e hb7 nn3
              have hb9 : f74 b = some e := k76 b e hb8 n1 n2 n3 nn3
              exact hb9)⟩ (Nat.le_of_ble_eq_true rfl) (Nat.le_of_ble_eq_true rfl) dX7_wide_118
      · refine lv_aload_n hx hb dX7_wide_58 rfl (lv_at hl 0 rfl) ?_
        have a77 : f7 o = some (.inr (7, [.ref fa, .ref fi, .ref nu, .int 0, .ref fm, .int 0, .ref co, .int 0, .ref en, .ref ke, .long 1])) := k9 _ _ a5 
        refine z_get (v := .ref fa) C hz a77 zl7 mFX7_10 (by decide) rfl dX7_wide_59 ?_
        refine lv_iconst (v := 2) hx hb dX7_wide_62 (by decide) ?_
        refine lv_iconst (v := 2) hx hb dX7_wide_63 (by decide) ?_
        have a78 : f7 fa = some (.inr (2, [.int 0, .int (-1), .int 0, .ref ev])) := k9 _ _ a3 
        have a79 : f1 ev = some (.inl (cy 0, 8, .inl g)) := k4 _ _ p5 (z_ne p5 p1 rfl)
        have a80 : f7 ev = some (.inl (cy 0, 8, .inl g)) := k9 _ _ a79 
        refine z_callVi (As := [.int 2, .int 2]) C hz hS hA hl (k_X2_own l D cy f7 fa 2 2 0 (-1) 0 ev g a78 a80 ) zyX2_own mMX7_96 a78 zl2 rfl rfl (Nat.le_of_ble_eq_true rfl) ⟨Nat.le_of_ble_eq_true rfl, Nat.le_of_ble_eq_true rfl⟩ ⟨Nat.le_of_ble_eq_true rfl, Nat.le_of_ble_eq_true rfl⟩ dX7_wide_64 (fun r f81 H locs h82 hz hS => ?_)
        obtain ⟨rfl, a83, a84, k85⟩ := h82
        exact z_iret C hr rfl hz hS ⟨(by simp [c10, c11, c12, c13]), (by
              intro b e hb n0 n1 n2 n3 n4
              have hb0 : f1 b = some e := k4 b e hb n0
              have hb1 : f7 b = some e := k9 b e hb0 
              have hb2 : f81 b = some e := k85 b e hb1 n0 n4
              exact hb2)⟩ (Nat.le_of_ble_eq_true rfl) (Nat.le_of_ble_eq_true rfl) dX7_wide_67
    · refine lv_aload_n hx hb dX7_wide_39 rfl (lv_at hl 0 rfl) ?_
      have a86 : f7 o = some (.inr (7, [.ref fa, .ref fi, .ref nu, .int 0, .ref fm, .int 0, .ref co, .int 0, .ref en, .ref ke, .long 1])) := k9 _ _ a5 
      refine z_get (v := .ref fa) C hz a86 zl7 mFX7_10 (by decide) rfl dX7_wide_40 ?_
      refine lv_bipush (v := 6) hx hb dX7_wide_43 (by decide) ?_
      refine lv_iconst (v := 2) hx hb dX7_wide_45 (by decide) ?_
      have a87 : f7 fa = some (.inr (2, [.int 0, .int (-1), .int 0, .ref ev])) := k9 _ _ a3 
      have a88 : f1 ev = some (.inl (cy 0, 8, .inl g)) := k4 _ _ p5 (z_ne p5 p1 rfl)
      have a89 : f7 ev = some (.inl (cy 0, 8, .inl g)) := k9 _ _ a88 
      refine z_callVi (As := [.int 6, .int 2]) C hz hS hA hl (k_X2_inPart l D cy f7 fa 6 2 0 (-1) 0 ev g 6 a87 a89 (by decide) (Nat.le_of_ble_eq_true rfl)) zyX2_inPart mMX7_104 a87 zl2 rfl rfl (Nat.le_of_ble_eq_true rfl) ⟨Nat.le_of_ble_eq_true rfl, Nat.le_of_ble_eq_true rfl⟩ ⟨Nat.le_of_ble_eq_true rfl, Nat.le_of_ble_eq_true rfl⟩ dX7_wide_46 (fun r f90 H locs h91 hz hS => ?_)
      obtain ⟨rfl, a92, a93, k94⟩ := h91
      exact z_iret C hr rfl hz hS ⟨(by simp [c10, c11, c12]), (by
            intro b e hb n0 n1 n2 n3 n4
            have hb0 : f1 b = some e := k4 b e hb n0
            have hb1 : f7 b = some e := k9 b e hb0 
            have hb2 : f90 b = some e := k94 b e hb1 n0 n4
            exact hb2)⟩ (Nat.le_of_ble_eq_true rfl) (Nat.le_of_ble_eq_true rfl) dX7_wide_49
  · refine lv_aload_n hx hb dX7_wide_25 rfl (lv_at hl 0 rfl) ?_
    have a95 : f7 o = some (.inr (7, [.ref fa, .ref fi, .ref nu, .int 0, .ref fm, .int 0, .ref co, .int 0, .ref en, .ref ke, .long 1])) := k9 _ _ a5 
    refine z_get (v := .ref fa) C hz a95 zl7 mFX7_10 (by decide) rfl dX7_wide_26 ?_
    refine lv_iconst (v := 1) hx hb dX7_wide_29 (by decide) ?_
    refine lv_iconst (v := 1) hx hb dX7_wide_30 (by decide) ?_
    have a96 : f7 fa = some (.inr (2, [.int 0, .int (-1), .int 0, .ref ev])) := k9 _ _ a3 
    have a97 : f1 ev = some (.inl (cy 0, 8, .inl g)) := k4 _ _ p5 (z_ne p5 p1 rfl)
    have a98 : f7 ev = some (.inl (cy 0, 8, .inl g)) := k9 _ _ a97 
    refine z_callVi (As := [.int 1, .int 1]) C hz hS hA hl (k_X2_own l D cy f7 fa 1 1 0 (-1) 0 ev g a96 a98 ) zyX2_own mMX7_96 a96 zl2 rfl rfl (Nat.le_of_ble_eq_true rfl) ⟨Nat.le_of_ble_eq_true rfl, Nat.le_of_ble_eq_true rfl⟩ ⟨Nat.le_of_ble_eq_true rfl, Nat.le_of_ble_eq_true rfl⟩ dX7_wide_31 (fun r f99 H locs h100 hz hS => ?_)
    obtain ⟨rfl, a101, a102, k103⟩ := h100
    exact z_iret C hr rfl hz hS ⟨(by simp [c10, c11]), (by
          intro b e hb n0 n1 n2 n3 n4
          have hb0 : f1 b = some e := k4 b e hb n0
          have hb1 : f7 b = some e := k9 b e hb0 
          have hb2 : f99 b = some e := k103 b e hb1 n0 n4
          exact hb2)⟩ (Nat.le_of_ble_eq_true rfl) (Nat.le_of_ble_eq_true rfl) dX7_wide_34
abbrev rmX7_share : Room := { frames := 2, cells := 2, slots := 10, locals := 48 }
set_option maxHeartbeats 4000000 in
set_option maxRecDepth 100000 in
theorem k_X7_share (l : Launch) (D : va_G) (cy : Nat → ClassId) (f : zM) (o : Nat) (fa : Nat) (fi : Nat) (nu : Nat) (fm : Nat) (co : Nat) (en : Nat) (ke : Nat) (x : Int64) (y : Int64) (u1 : Int32) (u2 : Int32) (u3 : Int32) (ev : Nat) (al : Nat) (ra : Nat) (ga : Nat → Option Nat) (gr : Nat → Option Nat) (g : Nat → Int32) (p0 : f o = some (.inr (7, [.ref fa, .ref fi, .ref nu, .int 0, .ref fm, .int 0, .ref co, .int 0, .ref en, .ref ke, .long 1]))) (p1 : f fa = some (.inr (2, [.int u1, .int u2, .int u3, .ref ev]))) (p2 : f fi = some (.inr (5, [.ref al, .ref ra, .int 0]))) (p3 : f al = some (.inl (cy 3, 60, .inr (.inr (.inr (.inr ga)))))) (p4 : f ra = some (.inl (cy 3, 60, .inr (.inr (.inr (.inr gr)))))) (p5 : f ev = some (.inl (cy 0, 8, .inl g))) (har : al ≠ ra) : zCi l D cy yX7_share cX7_share 7 (Option.some Jvm.ClassFile.FieldType.int) rmX7_share [.ref o, .long x, .long y] f (fun (r : Int32) (f1 : zM) => r = (if y = 0 then (-4) else 0) ∧ (∀ (b : Nat) (e : va_E), f b = some e → b ≠ fa → b ≠ fi → b ≠ al → b ≠ ra → b ≠ ev → f1 b = some e)) := by
  intro sz
  refine z_body (by decide +kernel) (Nat.le_of_ble_eq_true rfl) ?_
  intro p e s m below meth c ls C hr hin hsz hz hl
  subst hsz
  have hx := C.1
  have hb := C.2.1
  have hA : ∀ q, s.heap.size ≤ q → zA f s.heap.size q := fun q h => Or.inr h
  have hS : va_S (zA f s.heap.size) s.heap s.heap [] := va_S.rf
  have hl : lv_has ls 7 [(0, .ref o), (1, .long x), (3, .long y)] := hl
  refine lv_aload_n hx hb dX7_share_0 rfl (lv_at hl 0 rfl) ?_
  refine z_get (v := .ref fa) C hz p0 zl7 mFX7_10 (by decide) rfl dX7_share_1 ?_
  refine z_callVv (As := []) C hz hS hA hl (k_X2_none l D cy f fa u1 u2 u3 ev p1 ) zyX2_none mMX7_76 p1 zl2 rfl rfl (Nat.le_of_ble_eq_true rfl) ⟨Nat.le_of_ble_eq_true rfl, Nat.le_of_ble_eq_true rfl⟩ ⟨Nat.le_of_ble_eq_true rfl, Nat.le_of_ble_eq_true rfl⟩ dX7_share_4 (fun  f1 H locs h2 hz hS => ?_)
  obtain ⟨a3, k4⟩ := h2
  refine lv_aload_n hx hb dX7_share_7 rfl (lv_at hl 0 rfl) ?_
  have a5 : f1 o = some (.inr (7, [.ref fa, .ref fi, .ref nu, .int 0, .ref fm, .int 0, .ref co, .int 0, .ref en, .ref ke, .long 1])) := k4 _ _ p0 (z_ne p0 p1 rfl)
  refine z_get (v := .ref fi) C hz a5 zl7 mFX7_19 (by decide) rfl dX7_share_8 ?_
  have a6 : f1 fi = some (.inr (5, [.ref al, .ref ra, .int 0])) := k4 _ _ p2 (z_ne p2 p1 rfl)
  refine z_callVi (As := []) C hz hS hA hl (k_X5_isFull l D cy f1 fi al ra a6 ) zyX5_isFull mMX7_79 a6 zl5 rfl rfl (Nat.le_of_ble_eq_true rfl) ⟨Nat.le_of_ble_eq_true rfl, Nat.le_of_ble_eq_true rfl⟩ ⟨Nat.le_of_ble_eq_true rfl, Nat.le_of_ble_eq_true rfl⟩ dX7_share_11 (fun r f7 H locs h8 hz hS => ?_)
  obtain ⟨rfl, k9⟩ := h8
  refine lv_if_eq (tgt := 20) hx hb dX7_share_14 (by decide) (fun c10 => ?_) (fun c10 => ?_)
  rotate_left
  · exact absurd c10 (by decide)
  refine lv_lload_n hx hb dX7_share_20 rfl (lv_at hl 2 rfl) ?_
  refine lv_lconst (v := 0) hx hb dX7_share_21 (by decide) ?_
  refine W.lcmp hx hb dX7_share_22 ?_
  refine lv_if_ne (tgt := 37) hx hb dX7_share_23 (by decide) (fun c11 => ?_) (fun c11 => ?_)
  · refine lv_lload_n hx hb dX7_share_37 rfl (lv_at hl 1 rfl) ?_
    refine lv_lload_n hx hb dX7_share_38 rfl (lv_at hl 2 rfl) ?_
    refine lv_ldiv hx hb dX7_share_39 (fun h => c11 ((lg_cmp_eq y 0).mpr h)) ?_
    refine lv_lstore (lv' := [(5, .long (x / y)), (0, .ref o), (1, .long x), (3, .long y)]) hx hb dX7_share_40 hl (by decide) rfl (fun ls hl => ?_)
    refine lv_aload_n hx hb dX7_share_42 rfl (lv_at hl 1 rfl) ?_
    have a12 : f7 o = some (.inr (7, [.ref fa, .ref fi, .ref nu, .int 0, .ref fm, .int 0, .ref co, .int 0, .ref en, .ref ke, .long 1])) := k9 _ _ a5 
    refine z_get (v := .ref fi) C hz a12 zl7 mFX7_19 (by decide) rfl dX7_share_43 ?_
    refine z_new (fs := [.int 0, .null, .long 0, .int 0, .int 0, .int 0, .int 0]) C hz hS hA zl4 mLX7_83 mIa_RX4 mIn_RX4 (by decide +kernel) (Nat.le_of_ble_eq_true rfl) (Nat.le_of_ble_eq_true rfl) dX7_share_46 (fun q13 H f15 u14 a16 k17 hz hS => ?_)
    refine lv_dup hx hb dX7_share_49 rfl ?_
    refine lv_iconst (v := 3) hx hb dX7_share_50 (by decide) ?_
    refine lv_iconst (v := 3) hx hb dX7_share_51 (by decide) ?_
    refine z_newa (atype := .long) (t0 := 1) (N' := 3) (x := (.inr (.inl (fun _ => 0)))) C hz hS hA rfl mA_long rfl (fun _ => rfl) (by decide) (Nat.le_of_ble_eq_true rfl) (by decide) (Nat.le_of_ble_eq_true rfl) (Nat.le_of_ble_eq_true rfl) dX7_share_52 (fun q18 H f20 u19 a21 k22 hz hS => ?_)
    refine lv_dup hx hb dX7_share_54 rfl ?_
    refine lv_iconst (v := 0) hx hb dX7_share_55 (by decide) ?_
    refine lv_lload_n hx hb dX7_share_56 rfl (lv_at hl 2 rfl) ?_
    refine z_last 0 C hz hS a21 (by decide) (Nat.le_of_ble_eq_true rfl) (by omega) dX7_share_57 (fun H locs f23 a24 k25 hz hS => ?_)
    refine lv_dup hx hb dX7_share_58 rfl ?_
    refine lv_iconst (v := 1) hx hb dX7_share_59 (by decide) ?_
    refine lv_lload_n hx hb dX7_share_60 rfl (lv_at hl 3 rfl) ?_
    refine z_last 1 C hz hS a24 (by decide) (Nat.le_of_ble_eq_true rfl) (by omega) dX7_share_61 (fun H locs f26 a27 k28 hz hS => ?_)
    refine lv_dup hx hb dX7_share_62 rfl ?_
    refine lv_iconst (v := 2) hx hb dX7_share_63 (by decide) ?_
    refine lv_lload hx hb dX7_share_64 (lv_at hl 0 rfl) ?_
    refine z_last 2 C hz hS a27 (by decide) (Nat.le_of_ble_eq_true rfl) (by omega) dX7_share_66 (fun H locs f29 a30 k31 hz hS => ?_)
    refine lv_lload hx hb dX7_share_67 (lv_at hl 0 rfl) ?_
    have a32 : f20 q13 = some (.inr (4, [.int 0, .null, .long 0, .int 0, .int 0, .int 0, .int 0])) := (k22 _ (z_nn u19 a16)).trans a16
    have a33 : f23 q13 = some (.inr (4, [.int 0, .null, .long 0, .int 0, .int 0, .int 0, .int 0])) := (k25 _ (z_nn u19 a16)).trans a32
    have a34 : f26 q13 = some (.inr (4, [.int 0, .null, .long 0, .int 0, .int 0, .int 0, .int 0])) := (k28 _ (z_nn u19 a16)).trans a33
    have a35 : f29 q13 = some (.inr (4, [.int 0, .null, .long 0, .int 0, .int 0, .int 0, .int 0])) := (k31 _ (z_nn u19 a16)).trans a34
    refine z_callIv (ret := none) (As := [.int 3, .ref q18, .long (x / y)]) C hz hS hA hl (k_X4_init l D cy f29 q13 3 q18 (x / y) a35 ) zyX4_init mMX7_89 rfl rfl (Nat.le_of_ble_eq_true rfl) ⟨Nat.le_of_ble_eq_true rfl, Nat.le_of_ble_eq_true rfl⟩ ⟨Nat.le_of_ble_eq_true rfl, Nat.le_of_ble_eq_true rfl⟩ dX7_share_69 (fun  f36 H locs h37 hz hS => ?_)
    obtain ⟨a38, k39⟩ := h37
    have a40 : f7 fi = some (.inr (5, [.ref al, .ref ra, .int 0])) := k9 _ _ a6 
    have a41 : f15 fi = some (.inr (5, [.ref al, .ref ra, .int 0])) := (k17 _ (z_nn u14 a40)).trans a40
    have a42 : f20 fi = some (.inr (5, [.ref al, .ref ra, .int 0])) := (k22 _ (z_nn u19 a41)).trans a41
    have a43 : f23 fi = some (.inr (5, [.ref al, .ref ra, .int 0])) := (k25 _ (z_nn u19 a41)).trans a42
    have a44 : f26 fi = some (.inr (5, [.ref al, .ref ra, .int 0])) := (k28 _ (z_nn u19 a41)).trans a43
    have a45 : f29 fi = some (.inr (5, [.ref al, .ref ra, .int 0])) := (k31 _ (z_nn u19 a41)).trans a44
    have a46 : f36 fi = some (.inr (5, [.ref al, .ref ra, .int 0])) := k39 _ _ a45 (z_nn u14 a40)
    have a47 : f1 al = some (.inl (cy 3, 60, .inr (.inr (.inr (.inr ga))))) := k4 _ _ p3 (z_ne p3 p1 rfl)
    have a48 : f7 al = some (.inl (cy 3, 60, .inr (.inr (.inr (.inr ga))))) := k9 _ _ a47 
    have a49 : f15 al = some (.inl (cy 3, 60, .inr (.inr (.inr (.inr ga))))) := (k17 _ (z_nn u14 a48)).trans a48
    have a50 : f20 al = some (.inl (cy 3, 60, .inr (.inr (.inr (.inr ga))))) := (k22 _ (z_nn u19 a49)).trans a49
    have a51 : f23 al = some (.inl (cy 3, 60, .inr (.inr (.inr (.inr ga))))) := (k25 _ (z_nn u19 a49)).trans a50
    have a52 : f26 al = some (.inl (cy 3, 60, .inr (.inr (.inr (.inr ga))))) := (k28 _ (z_nn u19 a49)).trans a51
    have a53 : f29 al = some (.inl (cy 3, 60, .inr (.inr (.inr (.inr ga))))) := (k31 _ (z_nn u19 a49)).trans a52
    have a54 : f36 al = some (.inl (cy 3, 60, .inr (.inr (.inr (.inr ga))))) := k39 _ _ a53 (z_nn u14 a48)
    have a55 : f1 ra = some (.inl (cy 3, 60, .inr (.inr (.inr (.inr gr))))) := k4 _ _ p4 (z_ne p4 p1 rfl)
    have a56 : f7 ra = some (.inl (cy 3, 60, .inr (.inr (.inr (.inr gr))))) := k9 _ _ a55 
    have a57 : f15 ra = some (.inl (cy 3, 60, .inr (.inr (.inr (.inr gr))))) := (k17 _ (z_nn u14 a56)).trans a56
    have a58 : f20 ra = some (.inl (cy 3, 60, .inr (.inr (.inr (.inr gr))))) := (k22 _ (z_nn u19 a57)).trans a57
    have a59 : f23 ra = some (.inl (cy 3, 60, .inr (.inr (.inr (.inr gr))))) := (k25 _ (z_nn u19 a57)).trans a58
    have a60 : f26 ra = some (.inl (cy 3, 60, .inr (.inr (.inr (.inr gr))))) := (k28 _ (z_nn u19 a57)).trans a59
    have a61 : f29 ra = some (.inl (cy 3, 60, .inr (.inr (.inr (.inr gr))))) := (k31 _ (z_nn u19 a57)).trans a60
    have a62 : f36 ra = some (.inl (cy 3, 60, .inr (.inr (.inr (.inr gr))))) := k39 _ _ a61 (z_nn u14 a56)
    have a63 : f36 q18 = some (.inl (cy 1, 3, .inr (.inl (vp_updL (vp_updL (vp_updL (fun _ => 0) 0 x) 1 y) 2 (x / y))))) := k39 _ _ a30 (Ne.symm (z_nn u19 a16))
    refine z_callVi (As := [.ref q13]) C hz hS hA hl (k_X5_add l D cy f36 fi al ra ga gr q13 3 q18 (x / y) 0 (-1) 0 0 3 (vp_updL (vp_updL (vp_updL (fun _ => 0) 0 x) 1 y) 2 (x / y)) a46 a54 a62 a38 a63 (by decide) (Nat.le_of_ble_eq_true rfl) har) zyX5_add mMX7_92 a46 zl5 rfl rfl (Nat.le_of_ble_eq_true rfl) ⟨Nat.le_of_ble_eq_true rfl, Nat.le_of_ble_eq_true rfl⟩ ⟨Nat.le_of_ble_eq_true rfl, Nat.le_of_ble_eq_true rfl⟩ dX7_share_72 (fun r f64 H locs h65 hz hS => ?_)
    obtain ⟨rfl, k66⟩ := h65
    exact z_iret C hr rfl hz hS ⟨(by have hc := lg_cmp_eq y 0; simp [hc] at c11; simp [c11]), (by
          intro b e hb n0 n1 n2 n3 n4
          have hb0 : f1 b = some e := k4 b e hb n0
          have hb1 : f7 b = some e := k9 b e hb0 
          have nn2 : b ≠ q13 := z_nn u14 hb1
          have hb2 : f15 b = some e := (k17 b nn2).trans hb1
          have nn3 : b ≠ q18 := z_nn u19 hb2
          have hb3 : f20 b = some e := (k22 b nn3).trans hb2
          have hb4 : f23 b = some e := (k25 b nn3).trans hb3
          have hb5 : f26 b = some e := (k28 b nn3).trans hb4
          have hb6 : f29 b = some e := (k31 b nn3).trans hb5
          have hb7 : f36 b = some e := k39 b e hb6 nn2
          have hb8 : f64 b = some e := k66 b e hb7 n1 n2 n3 nn2
          exact hb8)⟩ (Nat.le_of_ble_eq_true rfl) (Nat.le_of_ble_eq_true rfl) dX7_share_75
  · refine lv_aload_n hx hb dX7_share_26 rfl (lv_at hl 0 rfl) ?_
    have a67 : f7 o = some (.inr (7, [.ref fa, .ref fi, .ref nu, .int 0, .ref fm, .int 0, .ref co, .int 0, .ref en, .ref ke, .long 1])) := k9 _ _ a5 
    refine z_get (v := .ref fa) C hz a67 zl7 mFX7_10 (by decide) rfl dX7_share_27 ?_
    refine lv_bipush (v := 6) hx hb dX7_share_30 (by decide) ?_
    refine lv_iconst (v := 1) hx hb dX7_share_32 (by decide) ?_
    have a68 : f7 fa = some (.inr (2, [.int 0, .int (-1), .int 0, .ref ev])) := k9 _ _ a3 
    have a69 : f1 ev = some (.inl (cy 0, 8, .inl g)) := k4 _ _ p5 (z_ne p5 p1 rfl)
    have a70 : f7 ev = some (.inl (cy 0, 8, .inl g)) := k9 _ _ a69 
    refine z_callVi (As := [.int 6, .int 1]) C hz hS hA hl (k_X2_inPart l D cy f7 fa 6 1 0 (-1) 0 ev g 6 a68 a70 (by decide) (Nat.le_of_ble_eq_true rfl)) zyX2_inPart mMX7_104 a68 zl2 rfl rfl (Nat.le_of_ble_eq_true rfl) ⟨Nat.le_of_ble_eq_true rfl, Nat.le_of_ble_eq_true rfl⟩ ⟨Nat.le_of_ble_eq_true rfl, Nat.le_of_ble_eq_true rfl⟩ dX7_share_33 (fun r f71 H locs h72 hz hS => ?_)
    obtain ⟨rfl, a73, a74, k75⟩ := h72
    exact z_iret C hr rfl hz hS ⟨(by have hc := lg_cmp_eq y 0; simp [hc] at c11; simp [c11]), (by
          intro b e hb n0 n1 n2 n3 n4
          have hb0 : f1 b = some e := k4 b e hb n0
          have hb1 : f7 b = some e := k9 b e hb0 
          have hb2 : f71 b = some e := k75 b e hb1 n0 n4
          exact hb2)⟩ (Nat.le_of_ble_eq_true rfl) (Nat.le_of_ble_eq_true rfl) dX7_share_36
abbrev rmX7_pair : Room := { frames := 2, cells := 0, slots := 0, locals := 43 }
set_option maxHeartbeats 4000000 in
set_option maxRecDepth 100000 in
theorem k_X7_pair (l : Launch) (D : va_G) (cy : Nat → ClassId) (f : zM) (o : Nat) (fa : Nat) (fi : Nat) (nu : Nat) (fm : Nat) (co : Nat) (en : Nat) (ke : Nat) (x : Int32) (y : Int32) (u1 : Int32) (u2 : Int32) (u3 : Int32) (ev : Nat) (al : Nat) (ra : Nat) (g : Nat → Int32) (p0 : f o = some (.inr (7, [.ref fa, .ref fi, .ref nu, .int 0, .ref fm, .int 0, .ref co, .int 0, .ref en, .ref ke, .long 1]))) (p1 : f fa = some (.inr (2, [.int u1, .int u2, .int u3, .ref ev]))) (p2 : f fi = some (.inr (5, [.ref al, .ref ra, .int 0]))) (p3 : f ev = some (.inl (cy 0, 8, .inl g)))  : zCi l D cy yX7_pair cX7_pair 3 (Option.some Jvm.ClassFile.FieldType.int) rmX7_pair [.ref o, .int x, .int y] f (fun (r : Int32) (f1 : zM) => r = (if x = (-1) then (if y = (-1) then (-4) else (-2)) else (-2)) ∧ (∀ (b : Nat) (e : va_E), f b = some e → b ≠ fa → b ≠ ev → f1 b = some e)) := by
  intro sz
  refine z_body (by decide +kernel) (Nat.le_of_ble_eq_true rfl) ?_
  intro p e s m below meth c ls C hr hin hsz hz hl
  subst hsz
  have hx := C.1
  have hb := C.2.1
  have hA : ∀ q, s.heap.size ≤ q → zA f s.heap.size q := fun q h => Or.inr h
  have hS : va_S (zA f s.heap.size) s.heap s.heap [] := va_S.rf
  have hl : lv_has ls 3 [(0, .ref o), (1, .int x), (2, .int y)] := hl
  by_cases h1 : x = (-1)
  · by_cases h2 : y = (-1)
    · refine lv_aload_n hx hb dX7_pair_0 rfl (lv_at hl 0 rfl) ?_
      refine z_get (v := .ref fa) C hz p0 zl7 mFX7_10 (by decide) rfl dX7_pair_1 ?_
      refine z_callVv (As := []) C hz hS hA hl (k_X2_none l D cy f fa u1 u2 u3 ev p1 ) zyX2_none mMX7_76 p1 zl2 rfl rfl (Nat.le_of_ble_eq_true rfl) ⟨Nat.le_of_ble_eq_true rfl, Nat.le_of_ble_eq_true rfl⟩ ⟨Nat.le_of_ble_eq_true rfl, Nat.le_of_ble_eq_true rfl⟩ dX7_pair_4 (fun  f1 H locs h2 hz hS => ?_)
      obtain ⟨a3, k4⟩ := h2
      refine lv_aload_n hx hb dX7_pair_7 rfl (lv_at hl 0 rfl) ?_
      have a5 : f1 o = some (.inr (7, [.ref fa, .ref fi, .ref nu, .int 0, .ref fm, .int 0, .ref co, .int 0, .ref en, .ref ke, .long 1])) := k4 _ _ p0 (z_ne p0 p1 rfl)
      refine z_get (v := .ref fi) C hz a5 zl7 mFX7_19 (by decide) rfl dX7_pair_8 ?_
      refine lv_iload_n hx hb dX7_pair_11 rfl (lv_at hl 1 rfl) ?_
      have a6 : f1 fi = some (.inr (5, [.ref al, .ref ra, .int 0])) := k4 _ _ p2 (z_ne p2 p1 rfl)
      refine z_callVi (As := [.int x]) C hz hS hA hl (k_X5_hasOrNone_A l D cy f1 fi x al ra a6 h1) zyX5_hasOrNone mMX7_112 a6 zl5 rfl rfl (Nat.le_of_ble_eq_true rfl) ⟨Nat.le_of_ble_eq_true rfl, Nat.le_of_ble_eq_true rfl⟩ ⟨Nat.le_of_ble_eq_true rfl, Nat.le_of_ble_eq_true rfl⟩ dX7_pair_12 (fun r f7 H locs h8 hz hS => ?_)
      obtain ⟨rfl, k9⟩ := h8
      refine lv_if_eq (tgt := 29) hx hb dX7_pair_15 (by decide) (fun c10 => ?_) (fun c10 => ?_)
      · exact absurd c10 (by decide)
      refine lv_aload_n hx hb dX7_pair_18 rfl (lv_at hl 0 rfl) ?_
      have a11 : f7 o = some (.inr (7, [.ref fa, .ref fi, .ref nu, .int 0, .ref fm, .int 0, .ref co, .int 0, .ref en, .ref ke, .long 1])) := k9 _ _ a5 
      refine z_get (v := .ref fi) C hz a11 zl7 mFX7_19 (by decide) rfl dX7_pair_19 ?_
      refine lv_iload_n hx hb dX7_pair_22 rfl (lv_at hl 2 rfl) ?_
      have a12 : f7 fi = some (.inr (5, [.ref al, .ref ra, .int 0])) := k9 _ _ a6 
      refine z_callVi (As := [.int y]) C hz hS hA hl (k_X5_hasOrNone_A l D cy f7 fi y al ra a12 h2) zyX5_hasOrNone mMX7_112 a12 zl5 rfl rfl (Nat.le_of_ble_eq_true rfl) ⟨Nat.le_of_ble_eq_true rfl, Nat.le_of_ble_eq_true rfl⟩ ⟨Nat.le_of_ble_eq_true rfl, Nat.le_of_ble_eq_true rfl⟩ dX7_pair_23 (fun r f13 H locs h14 hz hS => ?_)
      obtain ⟨rfl, k15⟩ := h14
      refine lv_if_ne (tgt := 32) hx hb dX7_pair_26 (by decide) (fun c16 => ?_) (fun c16 => ?_)
      rotate_left
      · exact absurd c16 (by decide)
      refine lv_aload_n hx hb dX7_pair_32 rfl (lv_at hl 0 rfl) ?_
      have a17 : f13 o = some (.inr (7, [.ref fa, .ref fi, .ref nu, .int 0, .ref fm, .int 0, .ref co, .int 0, .ref en, .ref ke, .long 1])) := k15 _ _ a11 
      refine z_get (v := .ref fi) C hz a17 zl7 mFX7_19 (by decide) rfl dX7_pair_33 ?_
      have a18 : f13 fi = some (.inr (5, [.ref al, .ref ra, .int 0])) := k15 _ _ a12 
      refine z_callVi (As := []) C hz hS hA hl (k_X5_isFull l D cy f13 fi al ra a18 ) zyX5_isFull mMX7_79 a18 zl5 rfl rfl (Nat.le_of_ble_eq_true rfl) ⟨Nat.le_of_ble_eq_true rfl, Nat.le_of_ble_eq_true rfl⟩ ⟨Nat.le_of_ble_eq_true rfl, Nat.le_of_ble_eq_true rfl⟩ dX7_pair_36 (fun r f19 H locs h20 hz hS => ?_)
      obtain ⟨rfl, k21⟩ := h20
      refine lv_if_eq (tgt := 45) hx hb dX7_pair_39 (by decide) (fun c22 => ?_) (fun c22 => ?_)
      rotate_left
      · exact absurd c22 (by decide)
      refine lv_iload_n hx hb dX7_pair_45 rfl (lv_at hl 1 rfl) ?_
      refine lv_iconst (v := (-1)) hx hb dX7_pair_46 (by decide) ?_
      refine lv_icmp_ne (tgt := 60) hx hb dX7_pair_47 (by decide) (fun c23 => ?_) (fun c23 => ?_)
      · exact absurd h1 c23
      refine lv_aload_n hx hb dX7_pair_50 rfl (lv_at hl 0 rfl) ?_
      have a24 : f19 o = some (.inr (7, [.ref fa, .ref fi, .ref nu, .int 0, .ref fm, .int 0, .ref co, .int 0, .ref en, .ref ke, .long 1])) := k21 _ _ a17 
      refine z_get (v := .ref fa) C hz a24 zl7 mFX7_10 (by decide) rfl dX7_pair_51 ?_
      refine lv_iconst (v := 1) hx hb dX7_pair_54 (by decide) ?_
      refine lv_iconst (v := 0) hx hb dX7_pair_55 (by decide) ?_
      have a25 : f7 fa = some (.inr (2, [.int 0, .int (-1), .int 0, .ref ev])) := k9 _ _ a3 
      have a26 : f13 fa = some (.inr (2, [.int 0, .int (-1), .int 0, .ref ev])) := k15 _ _ a25 
      have a27 : f19 fa = some (.inr (2, [.int 0, .int (-1), .int 0, .ref ev])) := k21 _ _ a26 
      have a28 : f1 ev = some (.inl (cy 0, 8, .inl g)) := k4 _ _ p3 (z_ne p3 p1 rfl)
      have a29 : f7 ev = some (.inl (cy 0, 8, .inl g)) := k9 _ _ a28 
      have a30 : f13 ev = some (.inl (cy 0, 8, .inl g)) := k15 _ _ a29 
      have a31 : f19 ev = some (.inl (cy 0, 8, .inl g)) := k21 _ _ a30 
      refine z_callVi (As := [.int 1, .int 0]) C hz hS hA hl (k_X2_inPart l D cy f19 fa 1 0 0 (-1) 0 ev g 1 a27 a31 (by decide) (Nat.le_of_ble_eq_true rfl)) zyX2_inPart mMX7_104 a27 zl2 rfl rfl (Nat.le_of_ble_eq_true rfl) ⟨Nat.le_of_ble_eq_true rfl, Nat.le_of_ble_eq_true rfl⟩ ⟨Nat.le_of_ble_eq_true rfl, Nat.le_of_ble_eq_true rfl⟩ dX7_pair_56 (fun r f32 H locs h33 hz hS => ?_)
      obtain ⟨rfl, a34, a35, k36⟩ := h33
      exact z_iret C hr rfl hz hS ⟨(by simp [h1, h2]), (by
            intro b e hb n0 n1
            have hb0 : f1 b = some e := k4 b e hb n0
            have hb1 : f7 b = some e := k9 b e hb0 
            have hb2 : f13 b = some e := k15 b e hb1 
            have hb3 : f19 b = some e := k21 b e hb2 
            have hb4 : f32 b = some e := k36 b e hb3 n0 n1
            exact hb4)⟩ (Nat.le_of_ble_eq_true rfl) (Nat.le_of_ble_eq_true rfl) dX7_pair_59
    · refine lv_aload_n hx hb dX7_pair_0 rfl (lv_at hl 0 rfl) ?_
      refine z_get (v := .ref fa) C hz p0 zl7 mFX7_10 (by decide) rfl dX7_pair_1 ?_
      refine z_callVv (As := []) C hz hS hA hl (k_X2_none l D cy f fa u1 u2 u3 ev p1 ) zyX2_none mMX7_76 p1 zl2 rfl rfl (Nat.le_of_ble_eq_true rfl) ⟨Nat.le_of_ble_eq_true rfl, Nat.le_of_ble_eq_true rfl⟩ ⟨Nat.le_of_ble_eq_true rfl, Nat.le_of_ble_eq_true rfl⟩ dX7_pair_4 (fun  f37 H locs h38 hz hS => ?_)
      obtain ⟨a39, k40⟩ := h38
      refine lv_aload_n hx hb dX7_pair_7 rfl (lv_at hl 0 rfl) ?_
      have a41 : f37 o = some (.inr (7, [.ref fa, .ref fi, .ref nu, .int 0, .ref fm, .int 0, .ref co, .int 0, .ref en, .ref ke, .long 1])) := k40 _ _ p0 (z_ne p0 p1 rfl)
      refine z_get (v := .ref fi) C hz a41 zl7 mFX7_19 (by decide) rfl dX7_pair_8 ?_
      refine lv_iload_n hx hb dX7_pair_11 rfl (lv_at hl 1 rfl) ?_
      have a42 : f37 fi = some (.inr (5, [.ref al, .ref ra, .int 0])) := k40 _ _ p2 (z_ne p2 p1 rfl)
      refine z_callVi (As := [.int x]) C hz hS hA hl (k_X5_hasOrNone_A l D cy f37 fi x al ra a42 h1) zyX5_hasOrNone mMX7_112 a42 zl5 rfl rfl (Nat.le_of_ble_eq_true rfl) ⟨Nat.le_of_ble_eq_true rfl, Nat.le_of_ble_eq_true rfl⟩ ⟨Nat.le_of_ble_eq_true rfl, Nat.le_of_ble_eq_true rfl⟩ dX7_pair_12 (fun r f43 H locs h44 hz hS => ?_)
      obtain ⟨rfl, k45⟩ := h44
      refine lv_if_eq (tgt := 29) hx hb dX7_pair_15 (by decide) (fun c46 => ?_) (fun c46 => ?_)
      · exact absurd c46 (by decide)
      refine lv_aload_n hx hb dX7_pair_18 rfl (lv_at hl 0 rfl) ?_
      have a47 : f43 o = some (.inr (7, [.ref fa, .ref fi, .ref nu, .int 0, .ref fm, .int 0, .ref co, .int 0, .ref en, .ref ke, .long 1])) := k45 _ _ a41 
      refine z_get (v := .ref fi) C hz a47 zl7 mFX7_19 (by decide) rfl dX7_pair_19 ?_
      refine lv_iload_n hx hb dX7_pair_22 rfl (lv_at hl 2 rfl) ?_
      have a48 : f43 fi = some (.inr (5, [.ref al, .ref ra, .int 0])) := k45 _ _ a42 
      refine z_callVi (As := [.int y]) C hz hS hA hl (k_X5_hasOrNone_B l D cy f43 fi y al ra a48 h2) zyX5_hasOrNone mMX7_112 a48 zl5 rfl rfl (Nat.le_of_ble_eq_true rfl) ⟨Nat.le_of_ble_eq_true rfl, Nat.le_of_ble_eq_true rfl⟩ ⟨Nat.le_of_ble_eq_true rfl, Nat.le_of_ble_eq_true rfl⟩ dX7_pair_23 (fun r f49 H locs h50 hz hS => ?_)
      obtain ⟨rfl, k51⟩ := h50
      refine lv_if_ne (tgt := 32) hx hb dX7_pair_26 (by decide) (fun c52 => ?_) (fun c52 => ?_)
      · exact absurd c52 (by decide)
      refine lv_bipush (v := (-2)) hx hb dX7_pair_29 (by decide) ?_
      exact z_iret C hr rfl hz hS ⟨(by simp [h1, h2]), (by
            intro b e hb n0 n1
            have hb0 : f37 b = some e := k40 b e hb n0
            have hb1 : f43 b = some e := k45 b e hb0 
            have hb2 : f49 b = some e := k51 b e hb1 
            exact hb2)⟩ (Nat.le_of_ble_eq_true rfl) (Nat.le_of_ble_eq_true rfl) dX7_pair_31
  · by_cases h2 : y = (-1)
    · refine lv_aload_n hx hb dX7_pair_0 rfl (lv_at hl 0 rfl) ?_
      refine z_get (v := .ref fa) C hz p0 zl7 mFX7_10 (by decide) rfl dX7_pair_1 ?_
      refine z_callVv (As := []) C hz hS hA hl (k_X2_none l D cy f fa u1 u2 u3 ev p1 ) zyX2_none mMX7_76 p1 zl2 rfl rfl (Nat.le_of_ble_eq_true rfl) ⟨Nat.le_of_ble_eq_true rfl, Nat.le_of_ble_eq_true rfl⟩ ⟨Nat.le_of_ble_eq_true rfl, Nat.le_of_ble_eq_true rfl⟩ dX7_pair_4 (fun  f53 H locs h54 hz hS => ?_)
      obtain ⟨a55, k56⟩ := h54
      refine lv_aload_n hx hb dX7_pair_7 rfl (lv_at hl 0 rfl) ?_
      have a57 : f53 o = some (.inr (7, [.ref fa, .ref fi, .ref nu, .int 0, .ref fm, .int 0, .ref co, .int 0, .ref en, .ref ke, .long 1])) := k56 _ _ p0 (z_ne p0 p1 rfl)
      refine z_get (v := .ref fi) C hz a57 zl7 mFX7_19 (by decide) rfl dX7_pair_8 ?_
      refine lv_iload_n hx hb dX7_pair_11 rfl (lv_at hl 1 rfl) ?_
      have a58 : f53 fi = some (.inr (5, [.ref al, .ref ra, .int 0])) := k56 _ _ p2 (z_ne p2 p1 rfl)
      refine z_callVi (As := [.int x]) C hz hS hA hl (k_X5_hasOrNone_B l D cy f53 fi x al ra a58 h1) zyX5_hasOrNone mMX7_112 a58 zl5 rfl rfl (Nat.le_of_ble_eq_true rfl) ⟨Nat.le_of_ble_eq_true rfl, Nat.le_of_ble_eq_true rfl⟩ ⟨Nat.le_of_ble_eq_true rfl, Nat.le_of_ble_eq_true rfl⟩ dX7_pair_12 (fun r f59 H locs h60 hz hS => ?_)
      obtain ⟨rfl, k61⟩ := h60
      refine lv_if_eq (tgt := 29) hx hb dX7_pair_15 (by decide) (fun c62 => ?_) (fun c62 => ?_)
      rotate_left
      · exact absurd c62 (by decide)
      refine lv_bipush (v := (-2)) hx hb dX7_pair_29 (by decide) ?_
      exact z_iret C hr rfl hz hS ⟨(by simp [h1, h2]), (by
            intro b e hb n0 n1
            have hb0 : f53 b = some e := k56 b e hb n0
            have hb1 : f59 b = some e := k61 b e hb0 
            exact hb1)⟩ (Nat.le_of_ble_eq_true rfl) (Nat.le_of_ble_eq_true rfl) dX7_pair_31
    · refine lv_aload_n hx hb dX7_pair_0 rfl (lv_at hl 0 rfl) ?_
      refine z_get (v := .ref fa) C hz p0 zl7 mFX7_10 (by decide) rfl dX7_pair_1 ?_
      refine z_callVv (As := []) C hz hS hA hl (k_X2_none l D cy f fa u1 u2 u3 ev p1 ) zyX2_none mMX7_76 p1 zl2 rfl rfl (Nat.le_of_ble_eq_true rfl) ⟨Nat.le_of_ble_eq_true rfl, Nat.le_of_ble_eq_true rfl⟩ ⟨Nat.le_of_ble_eq_true rfl, Nat.le_of_ble_eq_true rfl⟩ dX7_pair_4 (fun  f63 H locs h64 hz hS => ?_)
      obtain ⟨a65, k66⟩ := h64
      refine lv_aload_n hx hb dX7_pair_7 rfl (lv_at hl 0 rfl) ?_
      have a67 : f63 o = some (.inr (7, [.ref fa, .ref fi, .ref nu, .int 0, .ref fm, .int 0, .ref co, .int 0, .ref en, .ref ke, .long 1])) := k66 _ _ p0 (z_ne p0 p1 rfl)
      refine z_get (v := .ref fi) C hz a67 zl7 mFX7_19 (by decide) rfl dX7_pair_8 ?_
      refine lv_iload_n hx hb dX7_pair_11 rfl (lv_at hl 1 rfl) ?_
      have a68 : f63 fi = some (.inr (5, [.ref al, .ref ra, .int 0])) := k66 _ _ p2 (z_ne p2 p1 rfl)
      refine z_callVi (As := [.int x]) C hz hS hA hl (k_X5_hasOrNone_B l D cy f63 fi x al ra a68 h1) zyX5_hasOrNone mMX7_112 a68 zl5 rfl rfl (Nat.le_of_ble_eq_true rfl) ⟨Nat.le_of_ble_eq_true rfl, Nat.le_of_ble_eq_true rfl⟩ ⟨Nat.le_of_ble_eq_true rfl, Nat.le_of_ble_eq_true rfl⟩ dX7_pair_12 (fun r f69 H locs h70 hz hS => ?_)
      obtain ⟨rfl, k71⟩ := h70
      refine lv_if_eq (tgt := 29) hx hb dX7_pair_15 (by decide) (fun c72 => ?_) (fun c72 => ?_)
      rotate_left
      · exact absurd c72 (by decide)
      refine lv_bipush (v := (-2)) hx hb dX7_pair_29 (by decide) ?_
      exact z_iret C hr rfl hz hS ⟨(by simp [h1, h2]), (by
            intro b e hb n0 n1
            have hb0 : f63 b = some e := k66 b e hb n0
            have hb1 : f69 b = some e := k71 b e hb0 
            exact hb1)⟩ (Nat.le_of_ble_eq_true rfl) (Nat.le_of_ble_eq_true rfl) dX7_pair_31
abbrev rmX7_set : Room := { frames := 1, cells := 0, slots := 0, locals := 22 }
set_option maxHeartbeats 4000000 in
set_option maxRecDepth 100000 in
theorem k_X7_set (l : Launch) (D : va_G) (cy : Nat → ClassId) (f : zM) (o : Nat) (fa : Nat) (fi : Nat) (nu : Nat) (fm : Nat) (co : Nat) (en : Nat) (ke : Nat) (x : Int32) (y : Int32) (z : Int32) (u1 : Int32) (u2 : Int32) (u3 : Int32) (ev : Nat) (al : Nat) (ra : Nat) (p0 : f o = some (.inr (7, [.ref fa, .ref fi, .ref nu, .int 0, .ref fm, .int 0, .ref co, .int 0, .ref en, .ref ke, .long 1]))) (p1 : f fa = some (.inr (2, [.int u1, .int u2, .int u3, .ref ev]))) (p2 : f fi = some (.inr (5, [.ref al, .ref ra, .int 0])))  : zCi l D cy yX7_set cX7_set 6 (Option.some Jvm.ClassFile.FieldType.int) rmX7_set [.ref o, .int x, .int y, .int z] f (fun (r : Int32) (f1 : zM) => r = (-2) ∧ (∀ (b : Nat) (e : va_E), f b = some e → b ≠ fa → f1 b = some e)) := by
  intro sz
  refine z_body (by decide +kernel) (Nat.le_of_ble_eq_true rfl) ?_
  intro p e s m below meth c ls C hr hin hsz hz hl
  subst hsz
  have hx := C.1
  have hb := C.2.1
  have hA : ∀ q, s.heap.size ≤ q → zA f s.heap.size q := fun q h => Or.inr h
  have hS : va_S (zA f s.heap.size) s.heap s.heap [] := va_S.rf
  have hl : lv_has ls 6 [(0, .ref o), (1, .int x), (2, .int y), (3, .int z)] := hl
  refine lv_aload_n hx hb dX7_set_0 rfl (lv_at hl 0 rfl) ?_
  refine z_get (v := .ref fa) C hz p0 zl7 mFX7_10 (by decide) rfl dX7_set_1 ?_
  refine z_callVv (As := []) C hz hS hA hl (k_X2_none l D cy f fa u1 u2 u3 ev p1 ) zyX2_none mMX7_76 p1 zl2 rfl rfl (Nat.le_of_ble_eq_true rfl) ⟨Nat.le_of_ble_eq_true rfl, Nat.le_of_ble_eq_true rfl⟩ ⟨Nat.le_of_ble_eq_true rfl, Nat.le_of_ble_eq_true rfl⟩ dX7_set_4 (fun  f1 H locs h2 hz hS => ?_)
  obtain ⟨a3, k4⟩ := h2
  refine lv_aload_n hx hb dX7_set_7 rfl (lv_at hl 0 rfl) ?_
  have a5 : f1 o = some (.inr (7, [.ref fa, .ref fi, .ref nu, .int 0, .ref fm, .int 0, .ref co, .int 0, .ref en, .ref ke, .long 1])) := k4 _ _ p0 (z_ne p0 p1 rfl)
  refine z_get (v := .ref fi) C hz a5 zl7 mFX7_19 (by decide) rfl dX7_set_8 ?_
  refine lv_iload_n hx hb dX7_set_11 rfl (lv_at hl 1 rfl) ?_
  refine lv_i2l (v := x.toInt64) hx hb dX7_set_12 rfl ?_
  have a6 : f1 fi = some (.inr (5, [.ref al, .ref ra, .int 0])) := k4 _ _ p2 (z_ne p2 p1 rfl)
  refine z_callVq (As := [.long x.toInt64]) C hz hS hA hl (k_X5_find l D cy f1 fi x.toInt64 al ra a6 ) zyX5_find mMX7_130 a6 zl5 rfl rfl (Nat.le_of_ble_eq_true rfl) ⟨Nat.le_of_ble_eq_true rfl, Nat.le_of_ble_eq_true rfl⟩ ⟨Nat.le_of_ble_eq_true rfl, Nat.le_of_ble_eq_true rfl⟩ dX7_set_13 (fun r f7 H locs h8 hz hS => ?_)
  obtain ⟨rfl, k9⟩ := h8
  refine W.eq (g2 := F0 m 16 ls [.null]) rfl ?_
  refine lv_astoreN (lv' := [(4, .null), (0, .ref o), (1, .int x), (2, .int y), (3, .int z)]) hx hb dX7_set_16 hl (by decide) rfl (fun ls hl => ?_)
  refine lv_aload_n hx hb dX7_set_18 rfl (lv_at hl 1 rfl) ?_
  have a10 : f7 o = some (.inr (7, [.ref fa, .ref fi, .ref nu, .int 0, .ref fm, .int 0, .ref co, .int 0, .ref en, .ref ke, .long 1])) := k9 _ _ a5 
  refine z_get (v := .ref fi) C hz a10 zl7 mFX7_19 (by decide) rfl dX7_set_19 ?_
  refine lv_iload_n hx hb dX7_set_22 rfl (lv_at hl 4 rfl) ?_
  refine lv_i2l (v := z.toInt64) hx hb dX7_set_23 rfl ?_
  have a11 : f7 fi = some (.inr (5, [.ref al, .ref ra, .int 0])) := k9 _ _ a6 
  refine z_callVq (As := [.long z.toInt64]) C hz hS hA hl (k_X5_find l D cy f7 fi z.toInt64 al ra a11 ) zyX5_find mMX7_130 a11 zl5 rfl rfl (Nat.le_of_ble_eq_true rfl) ⟨Nat.le_of_ble_eq_true rfl, Nat.le_of_ble_eq_true rfl⟩ ⟨Nat.le_of_ble_eq_true rfl, Nat.le_of_ble_eq_true rfl⟩ dX7_set_24 (fun r f12 H locs h13 hz hS => ?_)
  obtain ⟨rfl, k14⟩ := h13
  refine W.eq (g2 := F0 m 27 ls [.null]) rfl ?_
  refine lv_astoreN (lv' := [(5, .null), (4, .null), (0, .ref o), (1, .int x), (2, .int y), (3, .int z)]) hx hb dX7_set_27 hl (by decide) rfl (fun ls hl => ?_)
  refine lv_aloadN hx hb dX7_set_29 (lv_at hl 1 rfl) ?_
  refine lv_ifnullN (tgt := 45) hx hb dX7_set_31 (by decide) ?_
  refine lv_bipush (v := (-2)) hx hb dX7_set_45 (by decide) ?_
  exact z_iret C hr rfl hz hS ⟨rfl, (by
        intro b e hb n0
        have hb0 : f1 b = some e := k4 b e hb n0
        have hb1 : f7 b = some e := k9 b e hb0 
        have hb2 : f12 b = some e := k14 b e hb1 
        exact hb2)⟩ (Nat.le_of_ble_eq_true rfl) (Nat.le_of_ble_eq_true rfl) dX7_set_47
abbrev rmX7_at : Room := { frames := 1, cells := 0, slots := 0, locals := 22 }
set_option maxHeartbeats 4000000 in
set_option maxRecDepth 100000 in
theorem k_X7_at (l : Launch) (D : va_G) (cy : Nat → ClassId) (f : zM) (o : Nat) (fa : Nat) (fi : Nat) (nu : Nat) (fm : Nat) (co : Nat) (en : Nat) (ke : Nat) (x : Int32) (y : Int32) (u1 : Int32) (u2 : Int32) (u3 : Int32) (ev : Nat) (al : Nat) (ra : Nat) (p0 : f o = some (.inr (7, [.ref fa, .ref fi, .ref nu, .int 0, .ref fm, .int 0, .ref co, .int 0, .ref en, .ref ke, .long 1]))) (p1 : f fa = some (.inr (2, [.int u1, .int u2, .int u3, .ref ev]))) (p2 : f fi = some (.inr (5, [.ref al, .ref ra, .int 0])))  : zCi l D cy yX7_at cX7_at 4 (Option.some Jvm.ClassFile.FieldType.int) rmX7_at [.ref o, .int x, .int y] f (fun (r : Int32) (f1 : zM) => r = (-2) ∧ (∀ (b : Nat) (e : va_E), f b = some e → b ≠ fa → f1 b = some e)) := by
  intro sz
  refine z_body (by decide +kernel) (Nat.le_of_ble_eq_true rfl) ?_
  intro p e s m below meth c ls C hr hin hsz hz hl
  subst hsz
  have hx := C.1
  have hb := C.2.1
  have hA : ∀ q, s.heap.size ≤ q → zA f s.heap.size q := fun q h => Or.inr h
  have hS : va_S (zA f s.heap.size) s.heap s.heap [] := va_S.rf
  have hl : lv_has ls 4 [(0, .ref o), (1, .int x), (2, .int y)] := hl
  refine lv_aload_n hx hb dX7_at_0 rfl (lv_at hl 0 rfl) ?_
  refine z_get (v := .ref fa) C hz p0 zl7 mFX7_10 (by decide) rfl dX7_at_1 ?_
  refine z_callVv (As := []) C hz hS hA hl (k_X2_none l D cy f fa u1 u2 u3 ev p1 ) zyX2_none mMX7_76 p1 zl2 rfl rfl (Nat.le_of_ble_eq_true rfl) ⟨Nat.le_of_ble_eq_true rfl, Nat.le_of_ble_eq_true rfl⟩ ⟨Nat.le_of_ble_eq_true rfl, Nat.le_of_ble_eq_true rfl⟩ dX7_at_4 (fun  f1 H locs h2 hz hS => ?_)
  obtain ⟨a3, k4⟩ := h2
  refine lv_aload_n hx hb dX7_at_7 rfl (lv_at hl 0 rfl) ?_
  have a5 : f1 o = some (.inr (7, [.ref fa, .ref fi, .ref nu, .int 0, .ref fm, .int 0, .ref co, .int 0, .ref en, .ref ke, .long 1])) := k4 _ _ p0 (z_ne p0 p1 rfl)
  refine z_get (v := .ref fi) C hz a5 zl7 mFX7_19 (by decide) rfl dX7_at_8 ?_
  refine lv_iload_n hx hb dX7_at_11 rfl (lv_at hl 1 rfl) ?_
  refine lv_i2l (v := x.toInt64) hx hb dX7_at_12 rfl ?_
  have a6 : f1 fi = some (.inr (5, [.ref al, .ref ra, .int 0])) := k4 _ _ p2 (z_ne p2 p1 rfl)
  refine z_callVq (As := [.long x.toInt64]) C hz hS hA hl (k_X5_find l D cy f1 fi x.toInt64 al ra a6 ) zyX5_find mMX7_130 a6 zl5 rfl rfl (Nat.le_of_ble_eq_true rfl) ⟨Nat.le_of_ble_eq_true rfl, Nat.le_of_ble_eq_true rfl⟩ ⟨Nat.le_of_ble_eq_true rfl, Nat.le_of_ble_eq_true rfl⟩ dX7_at_13 (fun r f7 H locs h8 hz hS => ?_)
  obtain ⟨rfl, k9⟩ := h8
  refine W.eq (g2 := F0 m 16 ls [.null]) rfl ?_
  refine lv_astore_nN (lv' := [(3, .null), (0, .ref o), (1, .int x), (2, .int y)]) hx hb dX7_at_16 rfl hl (by decide) rfl (fun ls hl => ?_)
  refine lv_aload_nN hx hb dX7_at_17 rfl (lv_at hl 0 rfl) ?_
  refine lv_ifnonnullN hx hb dX7_at_18 ?_
  refine lv_bipush (v := (-2)) hx hb dX7_at_21 (by decide) ?_
  exact z_iret C hr rfl hz hS ⟨rfl, (by
        intro b e hb n0
        have hb0 : f1 b = some e := k4 b e hb n0
        have hb1 : f7 b = some e := k9 b e hb0 
        exact hb1)⟩ (Nat.le_of_ble_eq_true rfl) (Nat.le_of_ble_eq_true rfl) dX7_at_23
abbrev rmX7_kind : Room := { frames := 1, cells := 0, slots := 0, locals := 22 }
set_option maxHeartbeats 4000000 in
set_option maxRecDepth 100000 in
theorem k_X7_kind (l : Launch) (D : va_G) (cy : Nat → ClassId) (f : zM) (o : Nat) (fa : Nat) (fi : Nat) (nu : Nat) (fm : Nat) (co : Nat) (en : Nat) (ke : Nat) (x : Int32) (al : Nat) (ra : Nat) (p0 : f o = some (.inr (7, [.ref fa, .ref fi, .ref nu, .int 0, .ref fm, .int 0, .ref co, .int 0, .ref en, .ref ke, .long 1]))) (p1 : f fi = some (.inr (5, [.ref al, .ref ra, .int 0])))  : zCi l D cy yX7_kind cX7_kind 3 (Option.some Jvm.ClassFile.FieldType.int) rmX7_kind [.ref o, .int x] f (fun (r : Int32) (f1 : zM) => r = (-2) ∧ (∀ (b : Nat) (e : va_E), f b = some e → f1 b = some e)) := by
  intro sz
  refine z_body (by decide +kernel) (Nat.le_of_ble_eq_true rfl) ?_
  intro p e s m below meth c ls C hr hin hsz hz hl
  subst hsz
  have hx := C.1
  have hb := C.2.1
  have hA : ∀ q, s.heap.size ≤ q → zA f s.heap.size q := fun q h => Or.inr h
  have hS : va_S (zA f s.heap.size) s.heap s.heap [] := va_S.rf
  have hl : lv_has ls 3 [(0, .ref o), (1, .int x)] := hl
  refine lv_aload_n hx hb dX7_kind_0 rfl (lv_at hl 0 rfl) ?_
  refine z_get (v := .ref fi) C hz p0 zl7 mFX7_19 (by decide) rfl dX7_kind_1 ?_
  refine lv_iload_n hx hb dX7_kind_4 rfl (lv_at hl 1 rfl) ?_
  refine lv_i2l (v := x.toInt64) hx hb dX7_kind_5 rfl ?_
  refine z_callVq (As := [.long x.toInt64]) C hz hS hA hl (k_X5_find l D cy f fi x.toInt64 al ra p1 ) zyX5_find mMX7_130 p1 zl5 rfl rfl (Nat.le_of_ble_eq_true rfl) ⟨Nat.le_of_ble_eq_true rfl, Nat.le_of_ble_eq_true rfl⟩ ⟨Nat.le_of_ble_eq_true rfl, Nat.le_of_ble_eq_true rfl⟩ dX7_kind_6 (fun r f1 H locs h2 hz hS => ?_)
  obtain ⟨rfl, k3⟩ := h2
  refine W.eq (g2 := F0 m 9 ls [.null]) rfl ?_
  refine lv_astore_nN (lv' := [(2, .null), (0, .ref o), (1, .int x)]) hx hb dX7_kind_9 rfl hl (by decide) rfl (fun ls hl => ?_)
  refine lv_aload_nN hx hb dX7_kind_10 rfl (lv_at hl 0 rfl) ?_
  refine lv_ifnonnullN hx hb dX7_kind_11 ?_
  refine lv_bipush (v := (-2)) hx hb dX7_kind_14 (by decide) ?_
  refine lv_goto (tgt := 23) hx hb dX7_kind_16 (by decide) ?_
  exact z_iret C hr rfl hz hS ⟨rfl, (by
        intro b e hb 
        have hb0 : f1 b = some e := k3 b e hb 
        exact hb0)⟩ (Nat.le_of_ble_eq_true rfl) (Nat.le_of_ble_eq_true rfl) dX7_kind_23
abbrev rmX7_parts : Room := { frames := 1, cells := 0, slots := 0, locals := 22 }
set_option maxHeartbeats 4000000 in
set_option maxRecDepth 100000 in
theorem k_X7_parts (l : Launch) (D : va_G) (cy : Nat → ClassId) (f : zM) (o : Nat) (fa : Nat) (fi : Nat) (nu : Nat) (fm : Nat) (co : Nat) (en : Nat) (ke : Nat) (x : Int32) (al : Nat) (ra : Nat) (p0 : f o = some (.inr (7, [.ref fa, .ref fi, .ref nu, .int 0, .ref fm, .int 0, .ref co, .int 0, .ref en, .ref ke, .long 1]))) (p1 : f fi = some (.inr (5, [.ref al, .ref ra, .int 0])))  : zCi l D cy yX7_parts cX7_parts 3 (Option.some Jvm.ClassFile.FieldType.int) rmX7_parts [.ref o, .int x] f (fun (r : Int32) (f1 : zM) => r = (-2) ∧ (∀ (b : Nat) (e : va_E), f b = some e → f1 b = some e)) := by
  intro sz
  refine z_body (by decide +kernel) (Nat.le_of_ble_eq_true rfl) ?_
  intro p e s m below meth c ls C hr hin hsz hz hl
  subst hsz
  have hx := C.1
  have hb := C.2.1
  have hA : ∀ q, s.heap.size ≤ q → zA f s.heap.size q := fun q h => Or.inr h
  have hS : va_S (zA f s.heap.size) s.heap s.heap [] := va_S.rf
  have hl : lv_has ls 3 [(0, .ref o), (1, .int x)] := hl
  refine lv_aload_n hx hb dX7_parts_0 rfl (lv_at hl 0 rfl) ?_
  refine z_get (v := .ref fi) C hz p0 zl7 mFX7_19 (by decide) rfl dX7_parts_1 ?_
  refine lv_iload_n hx hb dX7_parts_4 rfl (lv_at hl 1 rfl) ?_
  refine lv_i2l (v := x.toInt64) hx hb dX7_parts_5 rfl ?_
  refine z_callVq (As := [.long x.toInt64]) C hz hS hA hl (k_X5_find l D cy f fi x.toInt64 al ra p1 ) zyX5_find mMX7_130 p1 zl5 rfl rfl (Nat.le_of_ble_eq_true rfl) ⟨Nat.le_of_ble_eq_true rfl, Nat.le_of_ble_eq_true rfl⟩ ⟨Nat.le_of_ble_eq_true rfl, Nat.le_of_ble_eq_true rfl⟩ dX7_parts_6 (fun r f1 H locs h2 hz hS => ?_)
  obtain ⟨rfl, k3⟩ := h2
  refine W.eq (g2 := F0 m 9 ls [.null]) rfl ?_
  refine lv_astore_nN (lv' := [(2, .null), (0, .ref o), (1, .int x)]) hx hb dX7_parts_9 rfl hl (by decide) rfl (fun ls hl => ?_)
  refine lv_aload_nN hx hb dX7_parts_10 rfl (lv_at hl 0 rfl) ?_
  refine lv_ifnonnullN hx hb dX7_parts_11 ?_
  refine lv_bipush (v := (-2)) hx hb dX7_parts_14 (by decide) ?_
  refine lv_goto (tgt := 24) hx hb dX7_parts_16 (by decide) ?_
  exact z_iret C hr rfl hz hS ⟨rfl, (by
        intro b e hb 
        have hb0 : f1 b = some e := k3 b e hb 
        exact hb0)⟩ (Nat.le_of_ble_eq_true rfl) (Nat.le_of_ble_eq_true rfl) dX7_parts_24
abbrev rmX7_part : Room := { frames := 1, cells := 0, slots := 0, locals := 22 }
set_option maxHeartbeats 4000000 in
set_option maxRecDepth 100000 in
theorem k_X7_part (l : Launch) (D : va_G) (cy : Nat → ClassId) (f : zM) (o : Nat) (fa : Nat) (fi : Nat) (nu : Nat) (fm : Nat) (co : Nat) (en : Nat) (ke : Nat) (x : Int32) (y : Int32) (al : Nat) (ra : Nat) (p0 : f o = some (.inr (7, [.ref fa, .ref fi, .ref nu, .int 0, .ref fm, .int 0, .ref co, .int 0, .ref en, .ref ke, .long 1]))) (p1 : f fi = some (.inr (5, [.ref al, .ref ra, .int 0])))  : zCl l D cy yX7_part cX7_part 4 (Option.some Jvm.ClassFile.FieldType.long) rmX7_part [.ref o, .int x, .int y] f (fun (r : Int64) (f1 : zM) => r = (-3000000000000000000) ∧ (∀ (b : Nat) (e : va_E), f b = some e → f1 b = some e)) := by
  intro sz
  refine z_body (by decide +kernel) (Nat.le_of_ble_eq_true rfl) ?_
  intro p e s m below meth c ls C hr hin hsz hz hl
  subst hsz
  have hx := C.1
  have hb := C.2.1
  have hA : ∀ q, s.heap.size ≤ q → zA f s.heap.size q := fun q h => Or.inr h
  have hS : va_S (zA f s.heap.size) s.heap s.heap [] := va_S.rf
  have hl : lv_has ls 4 [(0, .ref o), (1, .int x), (2, .int y)] := hl
  refine lv_aload_n hx hb dX7_part_0 rfl (lv_at hl 0 rfl) ?_
  refine z_get (v := .ref fi) C hz p0 zl7 mFX7_19 (by decide) rfl dX7_part_1 ?_
  refine lv_iload_n hx hb dX7_part_4 rfl (lv_at hl 1 rfl) ?_
  refine lv_i2l (v := x.toInt64) hx hb dX7_part_5 rfl ?_
  refine z_callVq (As := [.long x.toInt64]) C hz hS hA hl (k_X5_find l D cy f fi x.toInt64 al ra p1 ) zyX5_find mMX7_130 p1 zl5 rfl rfl (Nat.le_of_ble_eq_true rfl) ⟨Nat.le_of_ble_eq_true rfl, Nat.le_of_ble_eq_true rfl⟩ ⟨Nat.le_of_ble_eq_true rfl, Nat.le_of_ble_eq_true rfl⟩ dX7_part_6 (fun r f1 H locs h2 hz hS => ?_)
  obtain ⟨rfl, k3⟩ := h2
  refine W.eq (g2 := F0 m 9 ls [.null]) rfl ?_
  refine lv_astore_nN (lv' := [(3, .null), (0, .ref o), (1, .int x), (2, .int y)]) hx hb dX7_part_9 rfl hl (by decide) rfl (fun ls hl => ?_)
  refine lv_aload_nN hx hb dX7_part_10 rfl (lv_at hl 0 rfl) ?_
  refine lv_ifnullN (tgt := 27) hx hb dX7_part_11 (by decide) ?_
  refine lv_ldc2 (v := (-3000000000000000000)) hx hb C.2.2.2.1 (C.2.2.2.2.1 _ mKX7_154) dX7_part_27 ?_
  exact z_lret C hr hz hS ⟨rfl, (by
        intro b e hb 
        have hb0 : f1 b = some e := k3 b e hb 
        exact hb0)⟩ (Nat.le_of_ble_eq_true rfl) (Nat.le_of_ble_eq_true rfl) dX7_part_30
abbrev rmX7_equal : Room := { frames := 1, cells := 0, slots := 0, locals := 22 }
set_option maxHeartbeats 4000000 in
set_option maxRecDepth 100000 in
theorem k_X7_equal (l : Launch) (D : va_G) (cy : Nat → ClassId) (f : zM) (o : Nat) (fa : Nat) (fi : Nat) (nu : Nat) (fm : Nat) (co : Nat) (en : Nat) (ke : Nat) (x : Int32) (y : Int32) (al : Nat) (ra : Nat) (p0 : f o = some (.inr (7, [.ref fa, .ref fi, .ref nu, .int 0, .ref fm, .int 0, .ref co, .int 0, .ref en, .ref ke, .long 1]))) (p1 : f fi = some (.inr (5, [.ref al, .ref ra, .int 0])))  : zCi l D cy yX7_equal cX7_equal 5 (Option.some Jvm.ClassFile.FieldType.int) rmX7_equal [.ref o, .int x, .int y] f (fun (r : Int32) (f1 : zM) => r = (-2) ∧ (∀ (b : Nat) (e : va_E), f b = some e → f1 b = some e)) := by
  intro sz
  refine z_body (by decide +kernel) (Nat.le_of_ble_eq_true rfl) ?_
  intro p e s m below meth c ls C hr hin hsz hz hl
  subst hsz
  have hx := C.1
  have hb := C.2.1
  have hA : ∀ q, s.heap.size ≤ q → zA f s.heap.size q := fun q h => Or.inr h
  have hS : va_S (zA f s.heap.size) s.heap s.heap [] := va_S.rf
  have hl : lv_has ls 5 [(0, .ref o), (1, .int x), (2, .int y)] := hl
  refine lv_aload_n hx hb dX7_equal_0 rfl (lv_at hl 0 rfl) ?_
  refine z_get (v := .ref fi) C hz p0 zl7 mFX7_19 (by decide) rfl dX7_equal_1 ?_
  refine lv_iload_n hx hb dX7_equal_4 rfl (lv_at hl 1 rfl) ?_
  refine lv_i2l (v := x.toInt64) hx hb dX7_equal_5 rfl ?_
  refine z_callVq (As := [.long x.toInt64]) C hz hS hA hl (k_X5_find l D cy f fi x.toInt64 al ra p1 ) zyX5_find mMX7_130 p1 zl5 rfl rfl (Nat.le_of_ble_eq_true rfl) ⟨Nat.le_of_ble_eq_true rfl, Nat.le_of_ble_eq_true rfl⟩ ⟨Nat.le_of_ble_eq_true rfl, Nat.le_of_ble_eq_true rfl⟩ dX7_equal_6 (fun r f1 H locs h2 hz hS => ?_)
  obtain ⟨rfl, k3⟩ := h2
  refine W.eq (g2 := F0 m 9 ls [.null]) rfl ?_
  refine lv_astore_nN (lv' := [(3, .null), (0, .ref o), (1, .int x), (2, .int y)]) hx hb dX7_equal_9 rfl hl (by decide) rfl (fun ls hl => ?_)
  refine lv_aload_n hx hb dX7_equal_10 rfl (lv_at hl 1 rfl) ?_
  have a4 : f1 o = some (.inr (7, [.ref fa, .ref fi, .ref nu, .int 0, .ref fm, .int 0, .ref co, .int 0, .ref en, .ref ke, .long 1])) := k3 _ _ p0 
  refine z_get (v := .ref fi) C hz a4 zl7 mFX7_19 (by decide) rfl dX7_equal_11 ?_
  refine lv_iload_n hx hb dX7_equal_14 rfl (lv_at hl 3 rfl) ?_
  refine lv_i2l (v := y.toInt64) hx hb dX7_equal_15 rfl ?_
  have a5 : f1 fi = some (.inr (5, [.ref al, .ref ra, .int 0])) := k3 _ _ p1 
  refine z_callVq (As := [.long y.toInt64]) C hz hS hA hl (k_X5_find l D cy f1 fi y.toInt64 al ra a5 ) zyX5_find mMX7_130 a5 zl5 rfl rfl (Nat.le_of_ble_eq_true rfl) ⟨Nat.le_of_ble_eq_true rfl, Nat.le_of_ble_eq_true rfl⟩ ⟨Nat.le_of_ble_eq_true rfl, Nat.le_of_ble_eq_true rfl⟩ dX7_equal_16 (fun r f6 H locs h7 hz hS => ?_)
  obtain ⟨rfl, k8⟩ := h7
  refine W.eq (g2 := F0 m 19 ls [.null]) rfl ?_
  refine lv_astoreN (lv' := [(4, .null), (3, .null), (0, .ref o), (1, .int x), (2, .int y)]) hx hb dX7_equal_19 hl (by decide) rfl (fun ls hl => ?_)
  refine lv_aload_nN hx hb dX7_equal_21 rfl (lv_at hl 1 rfl) ?_
  refine lv_ifnullN (tgt := 30) hx hb dX7_equal_22 (by decide) ?_
  refine lv_bipush (v := (-2)) hx hb dX7_equal_30 (by decide) ?_
  exact z_iret C hr rfl hz hS ⟨rfl, (by
        intro b e hb 
        have hb0 : f1 b = some e := k3 b e hb 
        have hb1 : f6 b = some e := k8 b e hb0 
        exact hb1)⟩ (Nat.le_of_ble_eq_true rfl) (Nat.le_of_ble_eq_true rfl) dX7_equal_32
abbrev rmX7_hash : Room := { frames := 1, cells := 0, slots := 0, locals := 22 }
set_option maxHeartbeats 4000000 in
set_option maxRecDepth 100000 in
theorem k_X7_hash (l : Launch) (D : va_G) (cy : Nat → ClassId) (f : zM) (o : Nat) (fa : Nat) (fi : Nat) (nu : Nat) (fm : Nat) (co : Nat) (en : Nat) (ke : Nat) (x : Int32) (al : Nat) (ra : Nat) (p0 : f o = some (.inr (7, [.ref fa, .ref fi, .ref nu, .int 0, .ref fm, .int 0, .ref co, .int 0, .ref en, .ref ke, .long 1]))) (p1 : f fi = some (.inr (5, [.ref al, .ref ra, .int 0])))  : zCi l D cy yX7_hash cX7_hash 3 (Option.some Jvm.ClassFile.FieldType.int) rmX7_hash [.ref o, .int x] f (fun (r : Int32) (f1 : zM) => r = 0 ∧ (∀ (b : Nat) (e : va_E), f b = some e → f1 b = some e)) := by
  intro sz
  refine z_body (by decide +kernel) (Nat.le_of_ble_eq_true rfl) ?_
  intro p e s m below meth c ls C hr hin hsz hz hl
  subst hsz
  have hx := C.1
  have hb := C.2.1
  have hA : ∀ q, s.heap.size ≤ q → zA f s.heap.size q := fun q h => Or.inr h
  have hS : va_S (zA f s.heap.size) s.heap s.heap [] := va_S.rf
  have hl : lv_has ls 3 [(0, .ref o), (1, .int x)] := hl
  refine lv_aload_n hx hb dX7_hash_0 rfl (lv_at hl 0 rfl) ?_
  refine z_get (v := .ref fi) C hz p0 zl7 mFX7_19 (by decide) rfl dX7_hash_1 ?_
  refine lv_iload_n hx hb dX7_hash_4 rfl (lv_at hl 1 rfl) ?_
  refine lv_i2l (v := x.toInt64) hx hb dX7_hash_5 rfl ?_
  refine z_callVq (As := [.long x.toInt64]) C hz hS hA hl (k_X5_find l D cy f fi x.toInt64 al ra p1 ) zyX5_find mMX7_130 p1 zl5 rfl rfl (Nat.le_of_ble_eq_true rfl) ⟨Nat.le_of_ble_eq_true rfl, Nat.le_of_ble_eq_true rfl⟩ ⟨Nat.le_of_ble_eq_true rfl, Nat.le_of_ble_eq_true rfl⟩ dX7_hash_6 (fun r f1 H locs h2 hz hS => ?_)
  obtain ⟨rfl, k3⟩ := h2
  refine W.eq (g2 := F0 m 9 ls [.null]) rfl ?_
  refine lv_astore_nN (lv' := [(2, .null), (0, .ref o), (1, .int x)]) hx hb dX7_hash_9 rfl hl (by decide) rfl (fun ls hl => ?_)
  refine lv_aload_nN hx hb dX7_hash_10 rfl (lv_at hl 0 rfl) ?_
  refine lv_ifnonnullN hx hb dX7_hash_11 ?_
  refine lv_iconst (v := 0) hx hb dX7_hash_14 (by decide) ?_
  refine lv_goto (tgt := 22) hx hb dX7_hash_15 (by decide) ?_
  exact z_iret C hr rfl hz hS ⟨rfl, (by
        intro b e hb 
        have hb0 : f1 b = some e := k3 b e hb 
        exact hb0)⟩ (Nat.le_of_ble_eq_true rfl) (Nat.le_of_ble_eq_true rfl) dX7_hash_22
abbrev rmX7_order : Room := { frames := 1, cells := 0, slots := 0, locals := 22 }
set_option maxHeartbeats 4000000 in
set_option maxRecDepth 100000 in
theorem k_X7_order (l : Launch) (D : va_G) (cy : Nat → ClassId) (f : zM) (o : Nat) (fa : Nat) (fi : Nat) (nu : Nat) (fm : Nat) (co : Nat) (en : Nat) (ke : Nat) (x : Int32) (y : Int32) (al : Nat) (ra : Nat) (p0 : f o = some (.inr (7, [.ref fa, .ref fi, .ref nu, .int 0, .ref fm, .int 0, .ref co, .int 0, .ref en, .ref ke, .long 1]))) (p1 : f fi = some (.inr (5, [.ref al, .ref ra, .int 0])))  : zCi l D cy yX7_order cX7_order 5 (Option.some Jvm.ClassFile.FieldType.int) rmX7_order [.ref o, .int x, .int y] f (fun (r : Int32) (f1 : zM) => r = (-2) ∧ (∀ (b : Nat) (e : va_E), f b = some e → f1 b = some e)) := by
  intro sz
  refine z_body (by decide +kernel) (Nat.le_of_ble_eq_true rfl) ?_
  intro p e s m below meth c ls C hr hin hsz hz hl
  subst hsz
  have hx := C.1
  have hb := C.2.1
  have hA : ∀ q, s.heap.size ≤ q → zA f s.heap.size q := fun q h => Or.inr h
  have hS : va_S (zA f s.heap.size) s.heap s.heap [] := va_S.rf
  have hl : lv_has ls 5 [(0, .ref o), (1, .int x), (2, .int y)] := hl
  refine lv_aload_n hx hb dX7_order_0 rfl (lv_at hl 0 rfl) ?_
  refine z_get (v := .ref fi) C hz p0 zl7 mFX7_19 (by decide) rfl dX7_order_1 ?_
  refine lv_iload_n hx hb dX7_order_4 rfl (lv_at hl 1 rfl) ?_
  refine lv_i2l (v := x.toInt64) hx hb dX7_order_5 rfl ?_
  refine z_callVq (As := [.long x.toInt64]) C hz hS hA hl (k_X5_find l D cy f fi x.toInt64 al ra p1 ) zyX5_find mMX7_130 p1 zl5 rfl rfl (Nat.le_of_ble_eq_true rfl) ⟨Nat.le_of_ble_eq_true rfl, Nat.le_of_ble_eq_true rfl⟩ ⟨Nat.le_of_ble_eq_true rfl, Nat.le_of_ble_eq_true rfl⟩ dX7_order_6 (fun r f1 H locs h2 hz hS => ?_)
  obtain ⟨rfl, k3⟩ := h2
  refine W.eq (g2 := F0 m 9 ls [.null]) rfl ?_
  refine lv_astore_nN (lv' := [(3, .null), (0, .ref o), (1, .int x), (2, .int y)]) hx hb dX7_order_9 rfl hl (by decide) rfl (fun ls hl => ?_)
  refine lv_aload_n hx hb dX7_order_10 rfl (lv_at hl 1 rfl) ?_
  have a4 : f1 o = some (.inr (7, [.ref fa, .ref fi, .ref nu, .int 0, .ref fm, .int 0, .ref co, .int 0, .ref en, .ref ke, .long 1])) := k3 _ _ p0 
  refine z_get (v := .ref fi) C hz a4 zl7 mFX7_19 (by decide) rfl dX7_order_11 ?_
  refine lv_iload_n hx hb dX7_order_14 rfl (lv_at hl 3 rfl) ?_
  refine lv_i2l (v := y.toInt64) hx hb dX7_order_15 rfl ?_
  have a5 : f1 fi = some (.inr (5, [.ref al, .ref ra, .int 0])) := k3 _ _ p1 
  refine z_callVq (As := [.long y.toInt64]) C hz hS hA hl (k_X5_find l D cy f1 fi y.toInt64 al ra a5 ) zyX5_find mMX7_130 a5 zl5 rfl rfl (Nat.le_of_ble_eq_true rfl) ⟨Nat.le_of_ble_eq_true rfl, Nat.le_of_ble_eq_true rfl⟩ ⟨Nat.le_of_ble_eq_true rfl, Nat.le_of_ble_eq_true rfl⟩ dX7_order_16 (fun r f6 H locs h7 hz hS => ?_)
  obtain ⟨rfl, k8⟩ := h7
  refine W.eq (g2 := F0 m 19 ls [.null]) rfl ?_
  refine lv_astoreN (lv' := [(4, .null), (3, .null), (0, .ref o), (1, .int x), (2, .int y)]) hx hb dX7_order_19 hl (by decide) rfl (fun ls hl => ?_)
  refine lv_aload_nN hx hb dX7_order_21 rfl (lv_at hl 1 rfl) ?_
  refine lv_ifnullN (tgt := 30) hx hb dX7_order_22 (by decide) ?_
  refine lv_bipush (v := (-2)) hx hb dX7_order_30 (by decide) ?_
  exact z_iret C hr rfl hz hS ⟨rfl, (by
        intro b e hb 
        have hb0 : f1 b = some e := k3 b e hb 
        have hb1 : f6 b = some e := k8 b e hb0 
        exact hb1)⟩ (Nat.le_of_ble_eq_true rfl) (Nat.le_of_ble_eq_true rfl) dX7_order_32
abbrev rmX7_first : Room := { frames := 1, cells := 0, slots := 0, locals := 22 }
set_option maxHeartbeats 4000000 in
set_option maxRecDepth 100000 in
theorem k_X7_first (l : Launch) (D : va_G) (cy : Nat → ClassId) (f : zM) (o : Nat) (fa : Nat) (fi : Nat) (nu : Nat) (fm : Nat) (co : Nat) (en : Nat) (ke : Nat) (x : Int32) (al : Nat) (ra : Nat) (p0 : f o = some (.inr (7, [.ref fa, .ref fi, .ref nu, .int 0, .ref fm, .int 0, .ref co, .int 0, .ref en, .ref ke, .long 1]))) (p1 : f fi = some (.inr (5, [.ref al, .ref ra, .int 0])))  : zCi l D cy yX7_first cX7_first 3 (Option.some Jvm.ClassFile.FieldType.int) rmX7_first [.ref o, .int x] f (fun (r : Int32) (f1 : zM) => r = (-2) ∧ (∀ (b : Nat) (e : va_E), f b = some e → f1 b = some e)) := by
  intro sz
  refine z_body (by decide +kernel) (Nat.le_of_ble_eq_true rfl) ?_
  intro p e s m below meth c ls C hr hin hsz hz hl
  subst hsz
  have hx := C.1
  have hb := C.2.1
  have hA : ∀ q, s.heap.size ≤ q → zA f s.heap.size q := fun q h => Or.inr h
  have hS : va_S (zA f s.heap.size) s.heap s.heap [] := va_S.rf
  have hl : lv_has ls 3 [(0, .ref o), (1, .int x)] := hl
  refine lv_aload_n hx hb dX7_first_0 rfl (lv_at hl 0 rfl) ?_
  refine z_get (v := .ref fi) C hz p0 zl7 mFX7_19 (by decide) rfl dX7_first_1 ?_
  refine lv_iload_n hx hb dX7_first_4 rfl (lv_at hl 1 rfl) ?_
  refine lv_i2l (v := x.toInt64) hx hb dX7_first_5 rfl ?_
  refine z_callVq (As := [.long x.toInt64]) C hz hS hA hl (k_X5_find l D cy f fi x.toInt64 al ra p1 ) zyX5_find mMX7_130 p1 zl5 rfl rfl (Nat.le_of_ble_eq_true rfl) ⟨Nat.le_of_ble_eq_true rfl, Nat.le_of_ble_eq_true rfl⟩ ⟨Nat.le_of_ble_eq_true rfl, Nat.le_of_ble_eq_true rfl⟩ dX7_first_6 (fun r f1 H locs h2 hz hS => ?_)
  obtain ⟨rfl, k3⟩ := h2
  refine W.eq (g2 := F0 m 9 ls [.null]) rfl ?_
  refine lv_astore_nN (lv' := [(2, .null), (0, .ref o), (1, .int x)]) hx hb dX7_first_9 rfl hl (by decide) rfl (fun ls hl => ?_)
  refine lv_aload_nN hx hb dX7_first_10 rfl (lv_at hl 0 rfl) ?_
  refine lv_ifnonnullN hx hb dX7_first_11 ?_
  refine lv_bipush (v := (-2)) hx hb dX7_first_14 (by decide) ?_
  refine lv_goto (tgt := 27) hx hb dX7_first_16 (by decide) ?_
  exact z_iret C hr rfl hz hS ⟨rfl, (by
        intro b e hb 
        have hb0 : f1 b = some e := k3 b e hb 
        exact hb0)⟩ (Nat.le_of_ble_eq_true rfl) (Nat.le_of_ble_eq_true rfl) dX7_first_27
abbrev rmX7_weight : Room := { frames := 1, cells := 0, slots := 0, locals := 22 }
set_option maxHeartbeats 4000000 in
set_option maxRecDepth 100000 in
theorem k_X7_weight (l : Launch) (D : va_G) (cy : Nat → ClassId) (f : zM) (o : Nat) (fa : Nat) (fi : Nat) (nu : Nat) (fm : Nat) (co : Nat) (en : Nat) (ke : Nat) (x : Int32) (y : Int32) (al : Nat) (ra : Nat) (p0 : f o = some (.inr (7, [.ref fa, .ref fi, .ref nu, .int 0, .ref fm, .int 0, .ref co, .int 0, .ref en, .ref ke, .long 1]))) (p1 : f fi = some (.inr (5, [.ref al, .ref ra, .int 0])))  : zCl l D cy yX7_weight cX7_weight 4 (Option.some Jvm.ClassFile.FieldType.long) rmX7_weight [.ref o, .int x, .int y] f (fun (r : Int64) (f1 : zM) => r = (-3000000000000000000) ∧ (∀ (b : Nat) (e : va_E), f b = some e → f1 b = some e)) := by
  intro sz
  refine z_body (by decide +kernel) (Nat.le_of_ble_eq_true rfl) ?_
  intro p e s m below meth c ls C hr hin hsz hz hl
  subst hsz
  have hx := C.1
  have hb := C.2.1
  have hA : ∀ q, s.heap.size ≤ q → zA f s.heap.size q := fun q h => Or.inr h
  have hS : va_S (zA f s.heap.size) s.heap s.heap [] := va_S.rf
  have hl : lv_has ls 4 [(0, .ref o), (1, .int x), (2, .int y)] := hl
  refine lv_aload_n hx hb dX7_weight_0 rfl (lv_at hl 0 rfl) ?_
  refine z_get (v := .ref fi) C hz p0 zl7 mFX7_19 (by decide) rfl dX7_weight_1 ?_
  refine lv_iload_n hx hb dX7_weight_4 rfl (lv_at hl 1 rfl) ?_
  refine lv_i2l (v := x.toInt64) hx hb dX7_weight_5 rfl ?_
  refine z_callVq (As := [.long x.toInt64]) C hz hS hA hl (k_X5_find l D cy f fi x.toInt64 al ra p1 ) zyX5_find mMX7_130 p1 zl5 rfl rfl (Nat.le_of_ble_eq_true rfl) ⟨Nat.le_of_ble_eq_true rfl, Nat.le_of_ble_eq_true rfl⟩ ⟨Nat.le_of_ble_eq_true rfl, Nat.le_of_ble_eq_true rfl⟩ dX7_weight_6 (fun r f1 H locs h2 hz hS => ?_)
  obtain ⟨rfl, k3⟩ := h2
  refine W.eq (g2 := F0 m 9 ls [.null]) rfl ?_
  refine lv_astore_nN (lv' := [(3, .null), (0, .ref o), (1, .int x), (2, .int y)]) hx hb dX7_weight_9 rfl hl (by decide) rfl (fun ls hl => ?_)
  refine lv_aload_nN hx hb dX7_weight_10 rfl (lv_at hl 0 rfl) ?_
  refine lv_ifnonnullN hx hb dX7_weight_11 ?_
  refine lv_ldc2 (v := (-3000000000000000000)) hx hb C.2.2.2.1 (C.2.2.2.2.1 _ mKX7_154) dX7_weight_14 ?_
  exact z_lret C hr hz hS ⟨rfl, (by
        intro b e hb 
        have hb0 : f1 b = some e := k3 b e hb 
        exact hb0)⟩ (Nat.le_of_ble_eq_true rfl) (Nat.le_of_ble_eq_true rfl) dX7_weight_17
abbrev rmX7_ranked : Room := { frames := 1, cells := 0, slots := 0, locals := 21 }
set_option maxHeartbeats 4000000 in
set_option maxRecDepth 100000 in
theorem k_X7_ranked (l : Launch) (D : va_G) (cy : Nat → ClassId) (f : zM) (o : Nat) (fa : Nat) (fi : Nat) (nu : Nat) (fm : Nat) (co : Nat) (en : Nat) (ke : Nat) (x : Int32) (al : Nat) (ra : Nat) (p0 : f o = some (.inr (7, [.ref fa, .ref fi, .ref nu, .int 0, .ref fm, .int 0, .ref co, .int 0, .ref en, .ref ke, .long 1]))) (p1 : f fi = some (.inr (5, [.ref al, .ref ra, .int 0])))  : zCi l D cy yX7_ranked cX7_ranked 2 (Option.some Jvm.ClassFile.FieldType.int) rmX7_ranked [.ref o, .int x] f (fun (r : Int32) (f1 : zM) => r = (if 0 ≤ x then (-1) else (-2)) ∧ (∀ (b : Nat) (e : va_E), f b = some e → f1 b = some e)) := by
  intro sz
  refine z_body (by decide +kernel) (Nat.le_of_ble_eq_true rfl) ?_
  intro p e s m below meth c ls C hr hin hsz hz hl
  subst hsz
  have hx := C.1
  have hb := C.2.1
  have hA : ∀ q, s.heap.size ≤ q → zA f s.heap.size q := fun q h => Or.inr h
  have hS : va_S (zA f s.heap.size) s.heap s.heap [] := va_S.rf
  have hl : lv_has ls 2 [(0, .ref o), (1, .int x)] := hl
  refine lv_iload_n hx hb dX7_ranked_0 rfl (lv_at hl 1 rfl) ?_
  refine lv_if_ge (tgt := 9) hx hb dX7_ranked_1 (by decide) (fun c1 => ?_) (fun c1 => ?_)
  · refine lv_aload_n hx hb dX7_ranked_9 rfl (lv_at hl 0 rfl) ?_
    refine z_get (v := .ref fi) C hz p0 zl7 mFX7_19 (by decide) rfl dX7_ranked_10 ?_
    refine lv_iload_n hx hb dX7_ranked_13 rfl (lv_at hl 1 rfl) ?_
    refine z_callVi (As := [.int x]) C hz hS hA hl (k_X5_numberRanked l D cy f fi x al ra p1 c1) zyX5_numberRanked mMX7_181 p1 zl5 rfl rfl (Nat.le_of_ble_eq_true rfl) ⟨Nat.le_of_ble_eq_true rfl, Nat.le_of_ble_eq_true rfl⟩ ⟨Nat.le_of_ble_eq_true rfl, Nat.le_of_ble_eq_true rfl⟩ dX7_ranked_14 (fun r f2 H locs h3 hz hS => ?_)
    obtain ⟨rfl, k4⟩ := h3
    exact z_iret C hr rfl hz hS ⟨(by simp [c1]), (by
          intro b e hb 
          have hb0 : f2 b = some e := k4 b e hb 
          exact hb0)⟩ (Nat.le_of_ble_eq_true rfl) (Nat.le_of_ble_eq_true rfl) dX7_ranked_17
  · refine lv_bipush (v := (-2)) hx hb dX7_ranked_4 (by decide) ?_
    refine lv_goto (tgt := 17) hx hb dX7_ranked_6 (by decide) ?_
    exact z_iret C hr rfl hz hS ⟨(by simp [c1]), (fun b e hb => hb)⟩ (Nat.le_of_ble_eq_true rfl) (Nat.le_of_ble_eq_true rfl) dX7_ranked_17
