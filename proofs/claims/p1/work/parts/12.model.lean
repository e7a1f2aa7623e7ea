abbrev rmX8_begin : Room := { frames := 0, cells := 0, slots := 0, locals := 0 }
set_option maxHeartbeats 4000000 in
set_option maxRecDepth 100000 in
theorem k_X8_begin (l : Launch) (D : va_G) (cy : Nat → ClassId) (f : zM) (o : Nat) (wev : Nat) (wnb : Nat) (wki : Nat) (wmy : Nat) (wce : Nat) (wiw : Nat) (wli : Nat) (wha : Nat) (wwt : Nat) (wfy : Nat) (wfk : Nat) (wem : Nat) (wna : Nat) (wpl : Nat) (whs : Nat) (wk1 : Nat) (wk2 : Nat) (wk3 : Nat) (u1 : Int32) (u2 : Int32) (u3 : Int32) (p0 : f o = some (.inr (8, [.int u1, .int u2, .int u3, .ref wev, .int 0, .ref wnb, .int 0, .ref wki, .ref wmy, .ref wce, .ref wiw, .ref wli, .ref wha, .ref wwt, .int 0, .ref wfy, .ref wfk, .int 0, .ref wem, .ref wna, .ref wpl, .ref whs, .long 1, .int 0, .ref wk1, .ref wk2, .ref wk3])))  : zCv l D cy yX8_begin cX8_begin 1 none rmX8_begin [.ref o] f (fun (f1 : zM) => f1 o = some (.inr (8, [.int 0, .int (-1), .int 0, .ref wev, .int 0, .ref wnb, .int 0, .ref wki, .ref wmy, .ref wce, .ref wiw, .ref wli, .ref wha, .ref wwt, .int 0, .ref wfy, .ref wfk, .int 0, .ref wem, .ref wna, .ref wpl, .ref whs, .long 1, .int 0, .ref wk1, .ref wk2, .ref wk3])) ∧ (∀ (b : Nat) (e : va_E), f b = some e → b ≠ o → f1 b = some e)) := by
  intro sz
  refine z_body (by decide +kernel) (Nat.le_of_ble_eq_true rfl) ?_
  intro p e s m below meth c ls C hr hin hsz hz hl
  subst hsz
  have hx := C.1
  have hb := C.2.1
  have hA : ∀ q, s.heap.size ≤ q → zA f s.heap.size q := fun q h => Or.inr h
  have hS : va_S (zA f s.heap.size) s.heap s.heap [] := va_S.rf
  have hl : lv_has ls 1 [(0, .ref o)] := hl
  refine lv_aload_n hx hb dX8_begin_0 rfl (lv_at hl 0 rfl) ?_
  refine lv_iconst (v := 0) hx hb dX8_begin_1 (by decide) ?_
  refine z_put (fs' := [.int 0, .int u2, .int u3, .ref wev, .int 0, .ref wnb, .int 0, .ref wki, .ref wmy, .ref wce, .ref wiw, .ref wli, .ref wha, .ref wwt, .int 0, .ref wfy, .ref wfk, .int 0, .ref wem, .ref wna, .ref wpl, .ref whs, .long 1, .int 0, .ref wk1, .ref wk2, .ref wk3]) C hz hS p0 zl8 mFX8_74 (by decide) rfl rfl rfl (Nat.le_of_ble_eq_true rfl) rfl dX8_begin_2 (fun H locs f1 a2 k3 hz hS => ?_)
  refine lv_aload_n hx hb dX8_begin_5 rfl (lv_at hl 0 rfl) ?_
  refine lv_iconst (v := (-1)) hx hb dX8_begin_6 (by decide) ?_
  refine z_put (fs' := [.int 0, .int (-1), .int u3, .ref wev, .int 0, .ref wnb, .int 0, .ref wki, .ref wmy, .ref wce, .ref wiw, .ref wli, .ref wha, .ref wwt, .int 0, .ref wfy, .ref wfk, .int 0, .ref wem, .ref wna, .ref wpl, .ref whs, .long 1, .int 0, .ref wk1, .ref wk2, .ref wk3]) C hz hS a2 zl8 mFX8_9 (by decide) rfl rfl rfl (Nat.le_of_ble_eq_true rfl) rfl dX8_begin_7 (fun H locs f4 a5 k6 hz hS => ?_)
  refine lv_aload_n hx hb dX8_begin_10 rfl (lv_at hl 0 rfl) ?_
  refine lv_iconst (v := 0) hx hb dX8_begin_11 (by decide) ?_
  refine z_put (fs' := [.int 0, .int (-1), .int 0, .ref wev, .int 0, .ref wnb, .int 0, .ref wki, .ref wmy, .ref wce, .ref wiw, .ref wli, .ref wha, .ref wwt, .int 0, .ref wfy, .ref wfk, .int 0, .ref wem, .ref wna, .ref wpl, .ref whs, .long 1, .int 0, .ref wk1, .ref wk2, .ref wk3]) C hz hS a5 zl8 mFX8_77 (by decide) rfl rfl rfl (Nat.le_of_ble_eq_true rfl) rfl dX8_begin_12 (fun H locs f7 a8 k9 hz hS => ?_)
  exact z_vret C hr hz hS ⟨a8, (by
        intro b e hb n0
        have hb0 : f1 b = some e := (k3 b n0).trans hb
        have hb1 : f4 b = some e := (k6 b n0).trans hb0
        have hb2 : f7 b = some e := (k9 b n0).trans hb1
        exact hb2)⟩ (Nat.le_of_ble_eq_true rfl) (Nat.le_of_ble_eq_true rfl) dX8_begin_15
abbrev rmX8_fails : Room := { frames := 0, cells := 0, slots := 0, locals := 0 }
set_option maxHeartbeats 4000000 in
set_option maxRecDepth 100000 in
theorem k_X8_fails (l : Launch) (D : va_G) (cy : Nat → ClassId) (f : zM) (o : Nat) (wev : Nat) (wnb : Nat) (wki : Nat) (wmy : Nat) (wce : Nat) (wiw : Nat) (wli : Nat) (wha : Nat) (wwt : Nat) (wfy : Nat) (wfk : Nat) (wem : Nat) (wna : Nat) (wpl : Nat) (whs : Nat) (wk1 : Nat) (wk2 : Nat) (wk3 : Nat) (x : Int32) (y : Int32) (z : Int32) (u1 : Int32) (u2 : Int32) (u3 : Int32) (g : Nat → Int32) (k : Nat) (p0 : f o = some (.inr (8, [.int u1, .int u2, .int u3, .ref wev, .int 0, .ref wnb, .int 0, .ref wki, .ref wmy, .ref wce, .ref wiw, .ref wli, .ref wha, .ref wwt, .int 0, .ref wfy, .ref wfk, .int 0, .ref wem, .ref wna, .ref wpl, .ref whs, .long 1, .int 0, .ref wk1, .ref wk2, .ref wk3]))) (p1 : f wev = some (.inl (cy 0, 8, .inl g))) (hk : x = nI k) (hk8 : k < 8) : zCi l D cy yX8_fails cX8_fails 4 (Option.some Jvm.ClassFile.FieldType.int) rmX8_fails [.ref o, .int x, .int y, .int z] f (fun (r : Int32) (f1 : zM) => r = (-4) ∧ (∀ (b : Nat) (e : va_E), f b = some e → b ≠ o → b ≠ wev → f1 b = some e)) := by
  intro sz
  refine z_body (by decide +kernel) (Nat.le_of_ble_eq_true rfl) ?_
  intro p e s m below meth c ls C hr hin hsz hz hl
  subst hsz
  have hx := C.1
  have hb := C.2.1
  have hA : ∀ q, s.heap.size ≤ q → zA f s.heap.size q := fun q h => Or.inr h
  have hS : va_S (zA f s.heap.size) s.heap s.heap [] := va_S.rf
  have hl : lv_has ls 4 [(0, .ref o), (1, .int x), (2, .int y), (3, .int z)] := hl
  refine lv_aload_n hx hb dX8_fails_0 rfl (lv_at hl 0 rfl) ?_
  refine lv_iload_n hx hb dX8_fails_1 rfl (lv_at hl 1 rfl) ?_
  refine z_put (fs' := [.int x, .int u2, .int u3, .ref wev, .int 0, .ref wnb, .int 0, .ref wki, .ref wmy, .ref wce, .ref wiw, .ref wli, .ref wha, .ref wwt, .int 0, .ref wfy, .ref wfk, .int 0, .ref wem, .ref wna, .ref wpl, .ref whs, .long 1, .int 0, .ref wk1, .ref wk2, .ref wk3]) C hz hS p0 zl8 mFX8_74 (by decide) rfl rfl rfl (Nat.le_of_ble_eq_true rfl) rfl dX8_fails_2 (fun H locs f1 a2 k3 hz hS => ?_)
  refine lv_aload_n hx hb dX8_fails_5 rfl (lv_at hl 0 rfl) ?_
  refine lv_iload_n hx hb dX8_fails_6 rfl (lv_at hl 2 rfl) ?_
  refine z_put (fs' := [.int x, .int y, .int u3, .ref wev, .int 0, .ref wnb, .int 0, .ref wki, .ref wmy, .ref wce, .ref wiw, .ref wli, .ref wha, .ref wwt, .int 0, .ref wfy, .ref wfk, .int 0, .ref wem, .ref wna, .ref wpl, .ref whs, .long 1, .int 0, .ref wk1, .ref wk2, .ref wk3]) C hz hS a2 zl8 mFX8_9 (by decide) rfl rfl rfl (Nat.le_of_ble_eq_true rfl) rfl dX8_fails_7 (fun H locs f4 a5 k6 hz hS => ?_)
  refine lv_aload_n hx hb dX8_fails_10 rfl (lv_at hl 0 rfl) ?_
  refine lv_iload_n hx hb dX8_fails_11 rfl (lv_at hl 3 rfl) ?_
  refine z_put (fs' := [.int x, .int y, .int z, .ref wev, .int 0, .ref wnb, .int 0, .ref wki, .ref wmy, .ref wce, .ref wiw, .ref wli, .ref wha, .ref wwt, .int 0, .ref wfy, .ref wfk, .int 0, .ref wem, .ref wna, .ref wpl, .ref whs, .long 1, .int 0, .ref wk1, .ref wk2, .ref wk3]) C hz hS a5 zl8 mFX8_77 (by decide) rfl rfl rfl (Nat.le_of_ble_eq_true rfl) rfl dX8_fails_12 (fun H locs f7 a8 k9 hz hS => ?_)
  refine lv_aload_n hx hb dX8_fails_15 rfl (lv_at hl 0 rfl) ?_
  refine z_get (v := .ref wev) C hz a8 zl8 mFX8_13 (by decide) rfl dX8_fails_16 ?_
  refine lv_iload_n hx hb dX8_fails_19 rfl (lv_at hl 1 rfl) ?_
  refine lv_dup2_11 hx hb dX8_fails_20 rfl rfl ?_
  have a10 : f1 wev = some (.inl (cy 0, 8, .inl g)) := (k3 _ (z_ne p1 p0 rfl)).trans p1
  have a11 : f4 wev = some (.inl (cy 0, 8, .inl g)) := (k6 _ (z_ne a10 a2 rfl)).trans a10
  have a12 : f7 wev = some (.inl (cy 0, 8, .inl g)) := (k9 _ (z_ne a11 a5 rfl)).trans a11
  refine z_iald k C hz a12 hk hk8 (by omega) dX8_fails_21 ?_
  refine lv_iconst (v := 1) hx hb dX8_fails_22 (by decide) ?_
  refine lv_iadd hx hb dX8_fails_23 ?_
  refine z_iast k C hz hS a12 hk hk8 (by omega) dX8_fails_24 (fun H locs f13 a14 k15 hz hS => ?_)
  refine lv_bipush (v := (-4)) hx hb dX8_fails_25 (by decide) ?_
  exact z_iret C hr rfl hz hS ⟨rfl, (by
        intro b e hb n0 n1
        have hb0 : f1 b = some e := (k3 b n0).trans hb
        have hb1 : f4 b = some e := (k6 b n0).trans hb0
        have hb2 : f7 b = some e := (k9 b n0).trans hb1
        have hb3 : f13 b = some e := (k15 b n1).trans hb2
        exact hb3)⟩ (Nat.le_of_ble_eq_true rfl) (Nat.le_of_ble_eq_true rfl) dX8_fails_27
abbrev rmX8_isFigure : Room := { frames := 0, cells := 0, slots := 0, locals := 0 }
set_option maxHeartbeats 4000000 in
set_option maxRecDepth 100000 in
theorem k_X8_isFigure (l : Launch) (D : va_G) (cy : Nat → ClassId) (f : zM) (o : Nat) (wev : Nat) (wnb : Nat) (wki : Nat) (wmy : Nat) (wce : Nat) (wiw : Nat) (wli : Nat) (wha : Nat) (wwt : Nat) (wfy : Nat) (wfk : Nat) (wem : Nat) (wna : Nat) (wpl : Nat) (whs : Nat) (wk1 : Nat) (wk2 : Nat) (wk3 : Nat) (x : Int32) (u1 : Int32) (u2 : Int32) (u3 : Int32) (p0 : f o = some (.inr (8, [.int u1, .int u2, .int u3, .ref wev, .int 0, .ref wnb, .int 0, .ref wki, .ref wmy, .ref wce, .ref wiw, .ref wli, .ref wha, .ref wwt, .int 0, .ref wfy, .ref wfk, .int 0, .ref wem, .ref wna, .ref wpl, .ref whs, .long 1, .int 0, .ref wk1, .ref wk2, .ref wk3])))  : zCi l D cy yX8_isFigure cX8_isFigure 2 (Option.some Jvm.ClassFile.FieldType.boolean) rmX8_isFigure [.ref o, .int x] f (fun (r : Int32) (f1 : zM) => r = 0 ∧ (∀ (b : Nat) (e : va_E), f b = some e → f1 b = some e)) := by
  intro sz
  refine z_body (by decide +kernel) (Nat.le_of_ble_eq_true rfl) ?_
  intro p e s m below meth c ls C hr hin hsz hz hl
  subst hsz
  have hx := C.1
  have hb := C.2.1
  have hA : ∀ q, s.heap.size ≤ q → zA f s.heap.size q := fun q h => Or.inr h
  have hS : va_S (zA f s.heap.size) s.heap s.heap [] := va_S.rf
  have hl : lv_has ls 2 [(0, .ref o), (1, .int x)] := hl
  refine lv_iload_n hx hb dX8_isFigure_0 rfl (lv_at hl 1 rfl) ?_
  refine lv_if_lt (tgt := 16) hx hb dX8_isFigure_1 (by decide) (fun c1 => ?_) (fun c1 => ?_)
  · refine lv_iconst (v := 0) hx hb dX8_isFigure_16 (by decide) ?_
    exact z_iret C hr (by decide) hz hS ⟨rfl, (fun b e hb => hb)⟩ (Nat.le_of_ble_eq_true rfl) (Nat.le_of_ble_eq_true rfl) dX8_isFigure_17
  · refine lv_iload_n hx hb dX8_isFigure_4 rfl (lv_at hl 1 rfl) ?_
    refine lv_aload_n hx hb dX8_isFigure_5 rfl (lv_at hl 0 rfl) ?_
    refine z_get (v := .int 0) C hz p0 zl8 mFX8_83 (by decide) rfl dX8_isFigure_6 ?_
    refine lv_icmp_ge (tgt := 16) hx hb dX8_isFigure_9 (by decide) (fun c2 => ?_) (fun c2 => ?_)
    rotate_left
    · exact absurd (Int32.not_lt.mp c1) c2
    refine lv_iconst (v := 0) hx hb dX8_isFigure_16 (by decide) ?_
    exact z_iret C hr (by decide) hz hS ⟨rfl, (fun b e hb => hb)⟩ (Nat.le_of_ble_eq_true rfl) (Nat.le_of_ble_eq_true rfl) dX8_isFigure_17
abbrev rmX8_start : Room := { frames := 0, cells := 0, slots := 0, locals := 0 }
set_option maxHeartbeats 4000000 in
set_option maxRecDepth 100000 in
theorem k_X8_start (l : Launch) (D : va_G) (cy : Nat → ClassId) (f : zM) (o : Nat) (wev : Nat) (wnb : Nat) (wki : Nat) (wmy : Nat) (wce : Nat) (wiw : Nat) (wli : Nat) (wha : Nat) (wwt : Nat) (wfy : Nat) (wfk : Nat) (wem : Nat) (wna : Nat) (wpl : Nat) (whs : Nat) (wk1 : Nat) (wk2 : Nat) (wk3 : Nat) (x : Int32) (u1 : Int32) (u2 : Int32) (u3 : Int32) (gk : Nat → Int32) (gm : Nat → Int32) (p0 : f o = some (.inr (8, [.int u1, .int u2, .int u3, .ref wev, .int 0, .ref wnb, .int 0, .ref wki, .ref wmy, .ref wce, .ref wiw, .ref wli, .ref wha, .ref wwt, .int 0, .ref wfy, .ref wfk, .int 0, .ref wem, .ref wna, .ref wpl, .ref whs, .long 1, .int 0, .ref wk1, .ref wk2, .ref wk3]))) (p1 : f wki = some (.inl (cy 0, 60, .inl gk))) (p2 : f wmy = some (.inl (cy 0, 60, .inl gm))) (nkm : wki ≠ wmy) : zCv l D cy yX8_start cX8_start 2 none rmX8_start [.ref o, .int x] f (fun (f1 : zM) => f1 wki = some (.inl (cy 0, 60, .inl (upd gk 0 x))) ∧ f1 wmy = some (.inl (cy 0, 60, .inl (upd gm 0 0))) ∧ (∀ (b : Nat) (e : va_E), f b = some e → b ≠ wki → b ≠ wmy → f1 b = some e)) := by
  intro sz
  refine z_body (by decide +kernel) (Nat.le_of_ble_eq_true rfl) ?_
  intro p e s m below meth c ls C hr hin hsz hz hl
  subst hsz
  have hx := C.1
  have hb := C.2.1
  have hA : ∀ q, s.heap.size ≤ q → zA f s.heap.size q := fun q h => Or.inr h
  have hS : va_S (zA f s.heap.size) s.heap s.heap [] := va_S.rf
  have hl : lv_has ls 2 [(0, .ref o), (1, .int x)] := hl
  refine lv_aload_n hx hb dX8_start_0 rfl (lv_at hl 0 rfl) ?_
  refine z_get (v := .ref wki) C hz p0 zl8 mFX8_20 (by decide) rfl dX8_start_1 ?_
  refine lv_aload_n hx hb dX8_start_4 rfl (lv_at hl 0 rfl) ?_
  refine z_get (v := .int 0) C hz p0 zl8 mFX8_83 (by decide) rfl dX8_start_5 ?_
  refine lv_iload_n hx hb dX8_start_8 rfl (lv_at hl 1 rfl) ?_
  refine z_iast 0 C hz hS p1 (by decide) (Nat.le_of_ble_eq_true rfl) (by omega) dX8_start_9 (fun H locs f1 a2 k3 hz hS => ?_)
  refine lv_aload_n hx hb dX8_start_10 rfl (lv_at hl 0 rfl) ?_
  have a4 : f1 o = some (.inr (8, [.int u1, .int u2, .int u3, .ref wev, .int 0, .ref wnb, .int 0, .ref wki, .ref wmy, .ref wce, .ref wiw, .ref wli, .ref wha, .ref wwt, .int 0, .ref wfy, .ref wfk, .int 0, .ref wem, .ref wna, .ref wpl, .ref whs, .long 1, .int 0, .ref wk1, .ref wk2, .ref wk3])) := (k3 _ (z_ne p0 p1 rfl)).trans p0
  refine z_get (v := .ref wmy) C hz a4 zl8 mFX8_23 (by decide) rfl dX8_start_11 ?_
  refine lv_aload_n hx hb dX8_start_14 rfl (lv_at hl 0 rfl) ?_
  refine z_get (v := .int 0) C hz a4 zl8 mFX8_83 (by decide) rfl dX8_start_15 ?_
  refine lv_iconst (v := 0) hx hb dX8_start_18 (by decide) ?_
  have a5 : f1 wmy = some (.inl (cy 0, 60, .inl gm)) := (k3 _ (Ne.symm nkm)).trans p2
  refine z_iast 0 C hz hS a5 (by decide) (Nat.le_of_ble_eq_true rfl) (by omega) dX8_start_19 (fun H locs f6 a7 k8 hz hS => ?_)
  have a9 : f6 wki = some (.inl (cy 0, 60, .inl (upd gk 0 x))) := (k8 _ nkm).trans a2
  exact z_vret C hr hz hS ⟨a9, a7, (by
        intro b e hb n0 n1
        have hb0 : f1 b = some e := (k3 b n0).trans hb
        have hb1 : f6 b = some e := (k8 b n1).trans hb0
        exact hb1)⟩ (Nat.le_of_ble_eq_true rfl) (Nat.le_of_ble_eq_true rfl) dX8_start_20
abbrev rmX8_part : Room := { frames := 0, cells := 0, slots := 0, locals := 0 }
set_option maxHeartbeats 4000000 in
set_option maxRecDepth 100000 in
theorem k_X8_part (l : Launch) (D : va_G) (cy : Nat → ClassId) (f : zM) (o : Nat) (wev : Nat) (wnb : Nat) (wki : Nat) (wmy : Nat) (wce : Nat) (wiw : Nat) (wli : Nat) (wha : Nat) (wwt : Nat) (wfy : Nat) (wfk : Nat) (wem : Nat) (wna : Nat) (wpl : Nat) (whs : Nat) (wk1 : Nat) (wk2 : Nat) (wk3 : Nat) (v : Int64) (u1 : Int32) (u2 : Int32) (u3 : Int32) (gc : Nat → Int64) (gm : Nat → Int32) (t : Nat) (p0 : f o = some (.inr (8, [.int u1, .int u2, .int u3, .ref wev, .int 0, .ref wnb, .int 0, .ref wki, .ref wmy, .ref wce, .ref wiw, .ref wli, .ref wha, .ref wwt, .int 0, .ref wfy, .ref wfk, .int 0, .ref wem, .ref wna, .ref wpl, .ref whs, .long 1, .int 0, .ref wk1, .ref wk2, .ref wk3]))) (p1 : f wce = some (.inl (cy 1, 960, .inr (.inl gc)))) (p2 : f wmy = some (.inl (cy 0, 60, .inl gm))) (hm : gm 0 = nI t) (ht : t < 16) : zCv l D cy yX8_part cX8_part 3 none rmX8_part [.ref o, .long v] f (fun (f1 : zM) => f1 wce = some (.inl (cy 1, 960, .inr (.inl (vp_updL gc t v)))) ∧ f1 wmy = some (.inl (cy 0, 60, .inl (upd gm 0 (nI (t + 1))))) ∧ (∀ (b : Nat) (e : va_E), f b = some e → b ≠ wce → b ≠ wmy → f1 b = some e)) := by
  intro sz
  refine z_body (by decide +kernel) (Nat.le_of_ble_eq_true rfl) ?_
  intro p e s m below meth c ls C hr hin hsz hz hl
  subst hsz
  have hx := C.1
  have hb := C.2.1
  have hA : ∀ q, s.heap.size ≤ q → zA f s.heap.size q := fun q h => Or.inr h
  have hS : va_S (zA f s.heap.size) s.heap s.heap [] := va_S.rf
  have hl : lv_has ls 3 [(0, .ref o), (1, .long v)] := hl
  refine lv_aload_n hx hb dX8_part_0 rfl (lv_at hl 0 rfl) ?_
  refine z_get (v := .ref wce) C hz p0 zl8 mFX8_26 (by decide) rfl dX8_part_1 ?_
  refine lv_bipush (v := 16) hx hb dX8_part_4 (by decide) ?_
  refine lv_aload_n hx hb dX8_part_6 rfl (lv_at hl 0 rfl) ?_
  refine z_get (v := .int 0) C hz p0 zl8 mFX8_83 (by decide) rfl dX8_part_7 ?_
  refine lv_imul hx hb dX8_part_10 ?_
  refine lv_aload_n hx hb dX8_part_11 rfl (lv_at hl 0 rfl) ?_
  refine z_get (v := .ref wmy) C hz p0 zl8 mFX8_23 (by decide) rfl dX8_part_12 ?_
  refine lv_aload_n hx hb dX8_part_15 rfl (lv_at hl 0 rfl) ?_
  refine z_get (v := .int 0) C hz p0 zl8 mFX8_83 (by decide) rfl dX8_part_16 ?_
  refine z_iald 0 C hz p2 (by decide) (Nat.le_of_ble_eq_true rfl) (by omega) dX8_part_19 ?_
  refine lv_iadd hx hb dX8_part_20 ?_
  refine lv_lload_n hx hb dX8_part_21 rfl (lv_at hl 1 rfl) ?_
  refine z_last t C hz hS p1 (by rw [hm]; exact (nI_add 0 t).trans (by rw [Nat.zero_add])) (by omega) (by omega) dX8_part_22 (fun H locs f1 a2 k3 hz hS => ?_)
  refine lv_aload_n hx hb dX8_part_23 rfl (lv_at hl 0 rfl) ?_
  have a4 : f1 o = some (.inr (8, [.int u1, .int u2, .int u3, .ref wev, .int 0, .ref wnb, .int 0, .ref wki, .ref wmy, .ref wce, .ref wiw, .ref wli, .ref wha, .ref wwt, .int 0, .ref wfy, .ref wfk, .int 0, .ref wem, .ref wna, .ref wpl, .ref whs, .long 1, .int 0, .ref wk1, .ref wk2, .ref wk3])) := (k3 _ (z_ne p0 p1 rfl)).trans p0
  refine z_get (v := .ref wmy) C hz a4 zl8 mFX8_23 (by decide) rfl dX8_part_24 ?_
  refine lv_aload_n hx hb dX8_part_27 rfl (lv_at hl 0 rfl) ?_
  refine z_get (v := .int 0) C hz a4 zl8 mFX8_83 (by decide) rfl dX8_part_28 ?_
  refine lv_dup2_11 hx hb dX8_part_31 rfl rfl ?_
  have a5 : f1 wmy = some (.inl (cy 0, 60, .inl gm)) := (k3 _ (z_ne p2 p1 rfl)).trans p2
  refine z_iald 0 C hz a5 (by decide) (Nat.le_of_ble_eq_true rfl) (by omega) dX8_part_32 ?_
  refine lv_iconst (v := 1) hx hb dX8_part_33 (by decide) ?_
  refine lv_iadd hx hb dX8_part_34 ?_
  refine lv_topi (fun y6 e7 => ?_)
  obtain rfl : y6 = nI (t + 1) := e7.trans (by rw [hm]; exact nI_1 t)
  refine z_iast 0 C hz hS a5 (by decide) (Nat.le_of_ble_eq_true rfl) (by omega) dX8_part_35 (fun H locs f8 a9 k10 hz hS => ?_)
  have a11 : f8 wce = some (.inl (cy 1, 960, .inr (.inl (vp_updL gc t v)))) := (k10 _ (z_ne a2 a5 rfl)).trans a2
  exact z_vret C hr hz hS ⟨a11, a9, (by
        intro b e hb n0 n1
        have hb0 : f1 b = some e := (k3 b n0).trans hb
        have hb1 : f8 b = some e := (k10 b n1).trans hb0
        exact hb1)⟩ (Nat.le_of_ble_eq_true rfl) (Nat.le_of_ble_eq_true rfl) dX8_part_36
abbrev rmX8_isFigurePart : Room := { frames := 0, cells := 0, slots := 0, locals := 0 }
set_option maxHeartbeats 4000000 in
set_option maxRecDepth 100000 in
theorem k_X8_isFigurePart (l : Launch) (D : va_G) (cy : Nat → ClassId) (f : zM) (o : Nat) (wev : Nat) (wnb : Nat) (wki : Nat) (wmy : Nat) (wce : Nat) (wiw : Nat) (wli : Nat) (wha : Nat) (wwt : Nat) (wfy : Nat) (wfk : Nat) (wem : Nat) (wna : Nat) (wpl : Nat) (whs : Nat) (wk1 : Nat) (wk2 : Nat) (wk3 : Nat) (u1 : Int32) (u2 : Int32) (u3 : Int32) (gk : Nat → Int32) (p0 : f o = some (.inr (8, [.int u1, .int u2, .int u3, .ref wev, .int 0, .ref wnb, .int 0, .ref wki, .ref wmy, .ref wce, .ref wiw, .ref wli, .ref wha, .ref wwt, .int 0, .ref wfy, .ref wfk, .int 0, .ref wem, .ref wna, .ref wpl, .ref whs, .long 1, .int 0, .ref wk1, .ref wk2, .ref wk3]))) (p1 : f wki = some (.inl (cy 0, 60, .inl gk))) (hk4 : ¬ gk 0 = 4) : zCi l D cy yX8_isFigurePart cX8_isFigurePart 2 (Option.some Jvm.ClassFile.FieldType.boolean) rmX8_isFigurePart [.ref o, .int 0] f (fun (r : Int32) (f1 : zM) => r = 0 ∧ (∀ (b : Nat) (e : va_E), f b = some e → f1 b = some e)) := by
  intro sz
  refine z_body (by decide +kernel) (Nat.le_of_ble_eq_true rfl) ?_
  intro p e s m below meth c ls C hr hin hsz hz hl
  subst hsz
  have hx := C.1
  have hb := C.2.1
  have hA : ∀ q, s.heap.size ≤ q → zA f s.heap.size q := fun q h => Or.inr h
  have hS : va_S (zA f s.heap.size) s.heap s.heap [] := va_S.rf
  have hl : lv_has ls 2 [(0, .ref o), (1, .int 0)] := hl
  refine lv_aload_n hx hb dX8_isFigurePart_0 rfl (lv_at hl 0 rfl) ?_
  refine z_get (v := .ref wki) C hz p0 zl8 mFX8_20 (by decide) rfl dX8_isFigurePart_1 ?_
  refine lv_iload_n hx hb dX8_isFigurePart_4 rfl (lv_at hl 1 rfl) ?_
  refine z_iald 0 C hz p1 (by decide) (Nat.le_of_ble_eq_true rfl) (by omega) dX8_isFigurePart_5 ?_
  refine lv_iconst (v := 4) hx hb dX8_isFigurePart_6 (by decide) ?_
  refine lv_icmp_ne (tgt := 14) hx hb dX8_isFigurePart_7 (by decide) (fun c1 => ?_) (fun c1 => ?_)
  rotate_left
  · exact absurd c1 hk4
  refine lv_iconst (v := 0) hx hb dX8_isFigurePart_14 (by decide) ?_
  exact z_iret C hr (by decide) hz hS ⟨rfl, (fun b e hb => hb)⟩ (Nat.le_of_ble_eq_true rfl) (Nat.le_of_ble_eq_true rfl) dX8_isFigurePart_15
abbrev rmX8_leastLike : Room := { frames := 0, cells := 0, slots := 0, locals := 0 }
set_option maxHeartbeats 4000000 in
set_option maxRecDepth 100000 in
theorem k_X8_leastLike (l : Launch) (D : va_G) (cy : Nat → ClassId) (f : zM) (o : Nat) (wev : Nat) (wnb : Nat) (wki : Nat) (wmy : Nat) (wce : Nat) (wiw : Nat) (wli : Nat) (wha : Nat) (wwt : Nat) (wfy : Nat) (wfk : Nat) (wem : Nat) (wna : Nat) (wpl : Nat) (whs : Nat) (wk1 : Nat) (wk2 : Nat) (wk3 : Nat) (u1 : Int32) (u2 : Int32) (u3 : Int32) (p0 : f o = some (.inr (8, [.int u1, .int u2, .int u3, .ref wev, .int 0, .ref wnb, .int 0, .ref wki, .ref wmy, .ref wce, .ref wiw, .ref wli, .ref wha, .ref wwt, .int 0, .ref wfy, .ref wfk, .int 0, .ref wem, .ref wna, .ref wpl, .ref whs, .long 1, .int 0, .ref wk1, .ref wk2, .ref wk3])))  : zCi l D cy yX8_leastLike cX8_leastLike 5 (Option.some Jvm.ClassFile.FieldType.int) rmX8_leastLike [.ref o, .int 0] f (fun (r : Int32) (f1 : zM) => r = 0 ∧ (∀ (b : Nat) (e : va_E), f b = some e → f1 b = some e)) := by
  intro sz
  refine z_body (by decide +kernel) (Nat.le_of_ble_eq_true rfl) ?_
  intro p e s m below meth c ls C hr hin hsz hz hl
  subst hsz
  have hx := C.1
  have hb := C.2.1
  have hA : ∀ q, s.heap.size ≤ q → zA f s.heap.size q := fun q h => Or.inr h
  have hS : va_S (zA f s.heap.size) s.heap s.heap [] := va_S.rf
  have hl : lv_has ls 5 [(0, .ref o), (1, .int 0)] := hl
  refine lv_iconst (v := 0) hx hb dX8_leastLike_0 (by decide) ?_
  refine lv_istore_n (lv' := [(2, .int 0), (0, .ref o), (1, .int 0)]) hx hb dX8_leastLike_1 rfl hl (by decide) rfl (fun ls hl => ?_)
  refine lv_iload_n hx hb dX8_leastLike_2 rfl (lv_at hl 0 rfl) ?_
  refine lv_iload_n hx hb dX8_leastLike_3 rfl (lv_at hl 2 rfl) ?_
  refine lv_icmp_ge (tgt := 155) hx hb dX8_leastLike_4 (by decide) (fun c1 => ?_) (fun c1 => ?_)
  rotate_left
  · exact absurd c1 (by decide)
  refine lv_iload_n hx hb dX8_leastLike_155 rfl (lv_at hl 2 rfl) ?_
  exact z_iret C hr rfl hz hS ⟨rfl, (fun b e hb => hb)⟩ (Nat.le_of_ble_eq_true rfl) (Nat.le_of_ble_eq_true rfl) dX8_leastLike_156
abbrev rmX8_folded : Room := { frames := 0, cells := 0, slots := 0, locals := 0 }
set_option maxHeartbeats 4000000 in
set_option maxRecDepth 100000 in
theorem k_X8_folded (l : Launch) (D : va_G) (cy : Nat → ClassId) (f : zM) (v : Int64)   : zCi l D cy yX8_folded cX8_folded 2 (Option.some Jvm.ClassFile.FieldType.int) rmX8_folded [.long v] f (fun (r : Int32) (f1 : zM) => (∀ (b : Nat) (e : va_E), f b = some e → f1 b = some e)) := by
  intro sz
  refine z_body (by decide +kernel) (Nat.le_of_ble_eq_true rfl) ?_
  intro p e s m below meth c ls C hr hin hsz hz hl
  subst hsz
  have hx := C.1
  have hb := C.2.1
  have hA : ∀ q, s.heap.size ≤ q → zA f s.heap.size q := fun q h => Or.inr h
  have hS : va_S (zA f s.heap.size) s.heap s.heap [] := va_S.rf
  have hl : lv_has ls 2 [(0, .long v)] := hl
  refine lv_lload_n hx hb dX8_folded_0 rfl (lv_at hl 0 rfl) ?_
  refine lv_l2i (v := v.toInt32) hx hb dX8_folded_1 rfl ?_
  refine lv_lload_n hx hb dX8_folded_2 rfl (lv_at hl 0 rfl) ?_
  refine lv_bipush (v := 32) hx hb dX8_folded_3 (by decide) ?_
  refine lv_lushr (v := (v.toUInt64 >>> ((32 : Int32).toInt64.toUInt64 &&& Int64.toUInt64 63)).toInt64) hx hb dX8_folded_5 rfl ?_
  refine lv_l2i (v := ((v.toUInt64 >>> ((32 : Int32).toInt64.toUInt64 &&& Int64.toUInt64 63)).toInt64).toInt32) hx hb dX8_folded_6 rfl ?_
  refine lv_ixor hx hb dX8_folded_7 ?_
  exact z_iret C hr rfl hz hS (fun b e hb => hb) (Nat.le_of_ble_eq_true rfl) (Nat.le_of_ble_eq_true rfl) dX8_folded_8
abbrev rmX8_cellOf : Room := { frames := 0, cells := 0, slots := 0, locals := 0 }
set_option maxHeartbeats 4000000 in
set_option maxRecDepth 100000 in
theorem k_X8_cellOf (l : Launch) (D : va_G) (cy : Nat → ClassId) (f : zM) (o : Nat) (wev : Nat) (wnb : Nat) (wki : Nat) (wmy : Nat) (wce : Nat) (wiw : Nat) (wli : Nat) (wha : Nat) (wwt : Nat) (wfy : Nat) (wfk : Nat) (wem : Nat) (wna : Nat) (wpl : Nat) (whs : Nat) (wk1 : Nat) (wk2 : Nat) (wk3 : Nat) (i : Nat) (u1 : Int32) (u2 : Int32) (u3 : Int32) (gc : Nat → Int64) (p0 : f o = some (.inr (8, [.int u1, .int u2, .int u3, .ref wev, .int 0, .ref wnb, .int 0, .ref wki, .ref wmy, .ref wce, .ref wiw, .ref wli, .ref wha, .ref wwt, .int 0, .ref wfy, .ref wfk, .int 0, .ref wem, .ref wna, .ref wpl, .ref whs, .long 1, .int 0, .ref wk1, .ref wk2, .ref wk3]))) (p1 : f wce = some (.inl (cy 1, 960, .inr (.inl gc)))) (hi : i < 960) : zCl l D cy yX8_cellOf cX8_cellOf 3 (Option.some Jvm.ClassFile.FieldType.long) rmX8_cellOf [.ref o, .int 0, .int (nI i)] f (fun (r : Int64) (f1 : zM) => r = (gc i) ∧ (∀ (b : Nat) (e : va_E), f b = some e → f1 b = some e)) := by
  intro sz
  refine z_body (by decide +kernel) (Nat.le_of_ble_eq_true rfl) ?_
  intro p e s m below meth c ls C hr hin hsz hz hl
  subst hsz
  have hx := C.1
  have hb := C.2.1
  have hA : ∀ q, s.heap.size ≤ q → zA f s.heap.size q := fun q h => Or.inr h
  have hS : va_S (zA f s.heap.size) s.heap s.heap [] := va_S.rf
  have hl : lv_has ls 3 [(0, .ref o), (1, .int 0), (2, .int (nI i))] := hl
  refine lv_aload_n hx hb dX8_cellOf_0 rfl (lv_at hl 0 rfl) ?_
  refine z_get (v := .ref wce) C hz p0 zl8 mFX8_26 (by decide) rfl dX8_cellOf_1 ?_
  refine lv_bipush (v := 16) hx hb dX8_cellOf_4 (by decide) ?_
  refine lv_iload_n hx hb dX8_cellOf_6 rfl (lv_at hl 1 rfl) ?_
  refine lv_imul hx hb dX8_cellOf_7 ?_
  refine lv_iload_n hx hb dX8_cellOf_8 rfl (lv_at hl 2 rfl) ?_
  refine lv_iadd hx hb dX8_cellOf_9 ?_
  refine z_lald i C hz p1 ((nI_add 0 i).trans (by rw [Nat.zero_add])) hi (by omega) dX8_cellOf_10 ?_
  exact z_lret C hr hz hS ⟨rfl, (fun b e hb => hb)⟩ (Nat.le_of_ble_eq_true rfl) (Nat.le_of_ble_eq_true rfl) dX8_cellOf_11
abbrev rmX8_hashOf : Room := { frames := 1, cells := 0, slots := 0, locals := 22 }
set_option maxHeartbeats 4000000 in
set_option maxRecDepth 100000 in
theorem k_X8_hashOf (l : Launch) (D : va_G) (cy : Nat → ClassId) (f : zM) (o : Nat) (wev : Nat) (wnb : Nat) (wki : Nat) (wmy : Nat) (wce : Nat) (wiw : Nat) (wli : Nat) (wha : Nat) (wwt : Nat) (wfy : Nat) (wfk : Nat) (wem : Nat) (wna : Nat) (wpl : Nat) (whs : Nat) (wk1 : Nat) (wk2 : Nat) (wk3 : Nat) (u1 : Int32) (u2 : Int32) (u3 : Int32) (gk : Nat → Int32) (gm : Nat → Int32) (gc : Nat → Int64) (t : Nat) (p0 : f o = some (.inr (8, [.int u1, .int u2, .int u3, .ref wev, .int 0, .ref wnb, .int 0, .ref wki, .ref wmy, .ref wce, .ref wiw, .ref wli, .ref wha, .ref wwt, .int 0, .ref wfy, .ref wfk, .int 0, .ref wem, .ref wna, .ref wpl, .ref whs, .long 1, .int 0, .ref wk1, .ref wk2, .ref wk3]))) (p1 : f wki = some (.inl (cy 0, 60, .inl gk))) (p2 : f wmy = some (.inl (cy 0, 60, .inl gm))) (p3 : f wce = some (.inl (cy 1, 960, .inr (.inl gc)))) (hk4 : ¬ gk 0 = 4) (hm : gm 0 = nI t) (ht : t < 960) : zCi l D cy yX8_hashOf cX8_hashOf 6 (Option.some Jvm.ClassFile.FieldType.int) rmX8_hashOf [.ref o, .int 0] f (fun (r : Int32) (f1 : zM) => (∀ (b : Nat) (e : va_E), f b = some e → f1 b = some e)) := by
  intro sz
  refine z_body (by decide +kernel) (Nat.le_of_ble_eq_true rfl) ?_
  intro p e s m below meth c ls C hr hin hsz hz hl
  subst hsz
  have hx := C.1
  have hb := C.2.1
  have hA : ∀ q, s.heap.size ≤ q → zA f s.heap.size q := fun q h => Or.inr h
  have hS : va_S (zA f s.heap.size) s.heap s.heap [] := va_S.rf
  have hl : lv_has ls 6 [(0, .ref o), (1, .int 0)] := hl
  refine lv_aload_n hx hb dX8_hashOf_0 rfl (lv_at hl 0 rfl) ?_
  refine z_get (v := .ref wki) C hz p0 zl8 mFX8_20 (by decide) rfl dX8_hashOf_1 ?_
  refine lv_iload_n hx hb dX8_hashOf_4 rfl (lv_at hl 1 rfl) ?_
  refine z_iald 0 C hz p1 (by decide) (Nat.le_of_ble_eq_true rfl) (by omega) dX8_hashOf_5 ?_
  refine lv_istore_n (lv' := [(2, .int (gk 0)), (0, .ref o), (1, .int 0)]) hx hb dX8_hashOf_6 rfl hl (by decide) rfl (fun ls hl => ?_)
  refine lv_aload_n hx hb dX8_hashOf_7 rfl (lv_at hl 1 rfl) ?_
  refine z_get (v := .ref wki) C hz p0 zl8 mFX8_20 (by decide) rfl dX8_hashOf_8 ?_
  refine lv_iload_n hx hb dX8_hashOf_11 rfl (lv_at hl 2 rfl) ?_
  refine z_iald 0 C hz p1 (by decide) (Nat.le_of_ble_eq_true rfl) (by omega) dX8_hashOf_12 ?_
  refine lv_bipush (v := 6) hx hb dX8_hashOf_13 (by decide) ?_
  refine lv_icmp_ne (tgt := 29) hx hb dX8_hashOf_15 (by decide) (fun c1 => ?_) (fun c1 => ?_)
  · refine lv_iconst (v := 0) hx hb dX8_hashOf_29 (by decide) ?_
    refine lv_istore_n (lv' := [(3, .int 0), (2, .int (gk 0)), (0, .ref o), (1, .int 0)]) hx hb dX8_hashOf_30 rfl hl (by decide) rfl (fun ls hl => ?_)
    have lp2 : ∀ (n : Nat) (hv : Int32) (i : Nat) (fL3 : zM) (H : Heap) (locs : List Loc) (ls : Array Slot), (t - i) < n → (i ≤ t) → fL3 o = some (.inr (8, [.int u1, .int u2, .int u3, .ref wev, .int 0, .ref wnb, .int 0, .ref wki, .ref wmy, .ref wce, .ref wiw, .ref wli, .ref wha, .ref wwt, .int 0, .ref wfy, .ref wfk, .int 0, .ref wem, .ref wna, .ref wpl, .ref whs, .long 1, .int 0, .ref wk1, .ref wk2, .ref wk3])) → fL3 wki = some (.inl (cy 0, 60, .inl gk)) → fL3 wmy = some (.inl (cy 0, 60, .inl gm)) → fL3 wce = some (.inl (cy 1, 960, .inr (.inl gc))) → (∀ (b : Nat) (e : va_E), f b = some e → fL3 b = some e) → zH D (zA f s.heap.size) fL3 H → va_S (zA f s.heap.size) s.heap H locs → lv_has ls 6 [(0, .ref o), (1, .int 0), (2, .int hv), (3, .int (nI i))] → W p l e rmX8_hashOf s m ([.ref o, .int 0] : List Value).toArray below meth c H locs 0 0 (MQ below (va_Qi (fun (r : Int32) (f1 : zM) => (∀ (b : Nat) (e : va_E), f b = some e → f1 b = some e)) (zB D f s.heap.size) (zA f s.heap.size)) ([.ref o, .int 0] : List Value).toArray s rmX8_hashOf.cells rmX8_hashOf.slots (zA f s.heap.size)) (F0 m 31 ls []) := by
      intro n
      induction n with
      | zero => intro hv i fL3 H locs ls hmz; exact absurd hmz (Nat.not_lt_zero _)
      | succ n ih =>
        intro hv i fL3 H locs ls hmz hi a5 a6 a7 a8 k4 hz hS hl
        refine lv_iload_n hx hb dX8_hashOf_31 rfl (lv_at hl 3 rfl) ?_
        refine lv_aload_n hx hb dX8_hashOf_32 rfl (lv_at hl 0 rfl) ?_
        refine z_get (v := .ref wmy) C hz a5 zl8 mFX8_23 (by decide) rfl dX8_hashOf_33 ?_
        refine lv_iload_n hx hb dX8_hashOf_36 rfl (lv_at hl 1 rfl) ?_
        refine z_iald 0 C hz a7 (by decide) (Nat.le_of_ble_eq_true rfl) (by omega) dX8_hashOf_37 ?_
        refine lv_topi (fun y9 e10 => ?_)
        obtain rfl : y9 = nI t := e10.trans hm
        refine lv_icmp_ge (tgt := 98) hx hb dX8_hashOf_38 (by decide) (fun c11 => ?_) (fun c11 => ?_)
        · replace c11 : (t ≤ i) := (nI_leI (a := t) (b := i) (by omega) (by omega)).mp c11
          refine lv_iload_n hx hb dX8_hashOf_98 rfl (lv_at hl 2 rfl) ?_
          exact z_iret C hr rfl hz hS (by
                intro b e hb 
                have hb0 : fL3 b = some e := k4 b e hb 
                exact hb0) (Nat.le_of_ble_eq_true rfl) (Nat.le_of_ble_eq_true rfl) dX8_hashOf_99
        · replace c11 : ¬ (t ≤ i) := fun h => c11 ((nI_leI (a := t) (b := i) (by omega) (by omega)).mpr h)
          refine lv_aload_n hx hb dX8_hashOf_41 rfl (lv_at hl 0 rfl) ?_
          refine lv_iload_n hx hb dX8_hashOf_42 rfl (lv_at hl 1 rfl) ?_
          refine lv_iload_n hx hb dX8_hashOf_43 rfl (lv_at hl 3 rfl) ?_
          refine z_callVl (As := [.int 0, .int (nI i)]) C hz hS hA hl (k_X8_cellOf l D cy fL3 o wev wnb wki wmy wce wiw wli wha wwt wfy wfk wem wna wpl whs wk1 wk2 wk3 i u1 u2 u3 gc a5 a8 (by omega)) zyX8_cellOf mMX8_90 a5 zl8 rfl rfl (Nat.le_of_ble_eq_true rfl) ⟨Nat.le_of_ble_eq_true rfl, Nat.le_of_ble_eq_true rfl⟩ ⟨Nat.le_of_ble_eq_true rfl, Nat.le_of_ble_eq_true rfl⟩ dX8_hashOf_44 (fun r f12 H locs h13 hz hS => ?_)
          obtain ⟨rfl, k14⟩ := h13
          refine lv_lstore (lv' := [(4, .long (gc i)), (0, .ref o), (1, .int 0), (2, .int hv), (3, .int (nI i))]) hx hb dX8_hashOf_47 hl (by decide) rfl (fun ls hl => ?_)
          refine lv_bipush (v := 31) hx hb dX8_hashOf_49 (by decide) ?_
          refine lv_iload_n hx hb dX8_hashOf_51 rfl (lv_at hl 3 rfl) ?_
          refine lv_imul hx hb dX8_hashOf_52 ?_
          refine lv_aload_n hx hb dX8_hashOf_53 rfl (lv_at hl 1 rfl) ?_
          refine lv_iload_n hx hb dX8_hashOf_54 rfl (lv_at hl 2 rfl) ?_
          have a15 : f12 o = some (.inr (8, [.int u1, .int u2, .int u3, .ref wev, .int 0, .ref wnb, .int 0, .ref wki, .ref wmy, .ref wce, .ref wiw, .ref wli, .ref wha, .ref wwt, .int 0, .ref wfy, .ref wfk, .int 0, .ref wem, .ref wna, .ref wpl, .ref whs, .long 1, .int 0, .ref wk1, .ref wk2, .ref wk3])) := k14 _ _ a5 
          have a16 : f12 wki = some (.inl (cy 0, 60, .inl gk)) := k14 _ _ a6 
          refine z_callVi (As := [.int 0]) C hz hS hA hl (k_X8_isFigurePart l D cy f12 o wev wnb wki wmy wce wiw wli wha wwt wfy wfk wem wna wpl whs wk1 wk2 wk3 u1 u2 u3 gk a15 a16 hk4) zyX8_isFigurePart mMX8_86 a15 zl8 rfl rfl (Nat.le_of_ble_eq_true rfl) ⟨Nat.le_of_ble_eq_true rfl, Nat.le_of_ble_eq_true rfl⟩ ⟨Nat.le_of_ble_eq_true rfl, Nat.le_of_ble_eq_true rfl⟩ dX8_hashOf_55 (fun r f17 H locs h18 hz hS => ?_)
          obtain ⟨rfl, k19⟩ := h18
          refine lv_if_eq (tgt := 85) hx hb dX8_hashOf_58 (by decide) (fun c20 => ?_) (fun c20 => ?_)
          rotate_left
          · exact absurd c20 (by decide)
          refine lv_lload hx hb dX8_hashOf_85 (lv_at hl 0 rfl) ?_
          refine z_callSi (As := [.long (gc i)]) C hz hS hA hl (k_X8_folded l D cy f17 (gc i)  ) zyX8_folded mMX8_100 rfl rfl (Nat.le_of_ble_eq_true rfl) ⟨Nat.le_of_ble_eq_true rfl, Nat.le_of_ble_eq_true rfl⟩ ⟨Nat.le_of_ble_eq_true rfl, Nat.le_of_ble_eq_true rfl⟩ dX8_hashOf_87 (fun r23 f21 H locs h22 hz hS => ?_)
          have k24 := h22
          refine lv_iadd hx hb dX8_hashOf_90 ?_
          refine lv_istore_n (lv' := [(2, .int ((31 * hv) + r23)), (4, .long (gc i)), (0, .ref o), (1, .int 0), (3, .int (nI i))]) hx hb dX8_hashOf_91 rfl hl (by decide) rfl (fun ls hl => ?_)
          refine lv_iinc (v := nI (i + 1)) (lv' := [(3, .int (nI (i + 1))), (2, .int ((31 * hv) + r23)), (4, .long (gc i)), (0, .ref o), (1, .int 0)]) hx hb dX8_hashOf_92 hl (k := 4) rfl (nI_1 i) (by decide) rfl (fun ls hl => ?_)
          refine lv_goto (tgt := 31) hx hb dX8_hashOf_95 (by decide) ?_
          have a25 : f17 o = some (.inr (8, [.int u1, .int u2, .int u3, .ref wev, .int 0, .ref wnb, .int 0, .ref wki, .ref wmy, .ref wce, .ref wiw, .ref wli, .ref wha, .ref wwt, .int 0, .ref wfy, .ref wfk, .int 0, .ref wem, .ref wna, .ref wpl, .ref whs, .long 1, .int 0, .ref wk1, .ref wk2, .ref wk3])) := k19 _ _ a15 
          have a26 : f21 o = some (.inr (8, [.int u1, .int u2, .int u3, .ref wev, .int 0, .ref wnb, .int 0, .ref wki, .ref wmy, .ref wce, .ref wiw, .ref wli, .ref wha, .ref wwt, .int 0, .ref wfy, .ref wfk, .int 0, .ref wem, .ref wna, .ref wpl, .ref whs, .long 1, .int 0, .ref wk1, .ref wk2, .ref wk3])) := k24 _ _ a25 
          have a27 : f17 wki = some (.inl (cy 0, 60, .inl gk)) := k19 _ _ a16 
          have a28 : f21 wki = some (.inl (cy 0, 60, .inl gk)) := k24 _ _ a27 
          have a29 : f12 wmy = some (.inl (cy 0, 60, .inl gm)) := k14 _ _ a7 
          have a30 : f17 wmy = some (.inl (cy 0, 60, .inl gm)) := k19 _ _ a29 
          have a31 : f21 wmy = some (.inl (cy 0, 60, .inl gm)) := k24 _ _ a30 
          have a32 : f12 wce = some (.inl (cy 1, 960, .inr (.inl gc))) := k14 _ _ a8 
          have a33 : f17 wce = some (.inl (cy 1, 960, .inr (.inl gc))) := k19 _ _ a32 
          have a34 : f21 wce = some (.inl (cy 1, 960, .inr (.inl gc))) := k24 _ _ a33 
          exact ih ((31 * hv) + r23) (i + 1) _ _ _ _ (by omega) (by omega) a26 a28 a31 a34 (by
                intro b e hb 
                have hb0 : fL3 b = some e := k4 b e hb 
                have hb1 : f12 b = some e := k14 b e hb0 
                have hb2 : f17 b = some e := k19 b e hb1 
                have hb3 : f21 b = some e := k24 b e hb2 
                exact hb3) hz hS (lv_sub hl [3, 4, 1, 0] rfl)
    exact lp2 (t - 0 + 1) (gk 0) 0 _ _ _ _ (Nat.lt_succ_self _) (by omega) p0 p1 p2 p3 (fun b e hb => hb) hz hS (lv_sub hl [2, 3, 1, 0] rfl)
  · refine lv_bipush (v := 31) hx hb dX8_hashOf_18 (by decide) ?_
    refine lv_iload_n hx hb dX8_hashOf_20 rfl (lv_at hl 0 rfl) ?_
    refine lv_imul hx hb dX8_hashOf_21 ?_
    refine lv_iload_n hx hb dX8_hashOf_22 rfl (lv_at hl 2 rfl) ?_
    refine lv_i2l (v := (0 : Int32).toInt64) hx hb dX8_hashOf_23 rfl ?_
    refine z_callSi (As := [.long ((0 : Int32).toInt64)]) C hz hS hA hl (k_X8_folded l D cy f ((0 : Int32).toInt64)  ) zyX8_folded mMX8_100 rfl rfl (Nat.le_of_ble_eq_true rfl) ⟨Nat.le_of_ble_eq_true rfl, Nat.le_of_ble_eq_true rfl⟩ ⟨Nat.le_of_ble_eq_true rfl, Nat.le_of_ble_eq_true rfl⟩ dX8_hashOf_24 (fun r37 f35 H locs h36 hz hS => ?_)
    have k38 := h36
    refine lv_iadd hx hb dX8_hashOf_27 ?_
    exact z_iret C hr rfl hz hS (by
          intro b e hb 
          have hb0 : f35 b = some e := k38 b e hb 
          exact hb0) (Nat.le_of_ble_eq_true rfl) (Nat.le_of_ble_eq_true rfl) dX8_hashOf_28
abbrev rmX8_made : Room := { frames := 2, cells := 0, slots := 0, locals := 47 }
set_option maxHeartbeats 4000000 in
set_option maxRecDepth 100000 in
theorem k_X8_made (l : Launch) (D : va_G) (cy : Nat → ClassId) (f : zM) (o : Nat) (wev : Nat) (wnb : Nat) (wki : Nat) (wmy : Nat) (wce : Nat) (wiw : Nat) (wli : Nat) (wha : Nat) (wwt : Nat) (wfy : Nat) (wfk : Nat) (wem : Nat) (wna : Nat) (wpl : Nat) (whs : Nat) (wk1 : Nat) (wk2 : Nat) (wk3 : Nat) (u1 : Int32) (u2 : Int32) (u3 : Int32) (gk : Nat → Int32) (gm : Nat → Int32) (gc : Nat → Int64) (gl : Nat → Int32) (gh : Nat → Int32) (t : Nat) (p0 : f o = some (.inr (8, [.int u1, .int u2, .int u3, .ref wev, .int 0, .ref wnb, .int 0, .ref wki, .ref wmy, .ref wce, .ref wiw, .ref wli, .ref wha, .ref wwt, .int 0, .ref wfy, .ref wfk, .int 0, .ref wem, .ref wna, .ref wpl, .ref whs, .long 1, .int 0, .ref wk1, .ref wk2, .ref wk3]))) (p1 : f wki = some (.inl (cy 0, 60, .inl gk))) (p2 : f wmy = some (.inl (cy 0, 60, .inl gm))) (p3 : f wce = some (.inl (cy 1, 960, .inr (.inl gc)))) (p4 : f wli = some (.inl (cy 0, 60, .inl gl))) (p5 : f wha = some (.inl (cy 0, 60, .inl gh))) (hk4 : ¬ gk 0 = 4) (hm : gm 0 = nI t) (ht : t < 960) (nlh : wli ≠ wha) (nkl : wki ≠ wli) (nkh : wki ≠ wha) (nml : wmy ≠ wli) (nmh : wmy ≠ wha) : zCi l D cy yX8_made cX8_made 1 (Option.some Jvm.ClassFile.FieldType.int) rmX8_made [.ref o] f (fun (r : Int32) (f1 : zM) => r = 0 ∧ (∀ (b : Nat) (e : va_E), f b = some e → b ≠ o → b ≠ wli → b ≠ wha → f1 b = some e)) := by
  intro sz
  refine z_body (by decide +kernel) (Nat.le_of_ble_eq_true rfl) ?_
  intro p e s m below meth c ls C hr hin hsz hz hl
  subst hsz
  have hx := C.1
  have hb := C.2.1
  have hA : ∀ q, s.heap.size ≤ q → zA f s.heap.size q := fun q h => Or.inr h
  have hS : va_S (zA f s.heap.size) s.heap s.heap [] := va_S.rf
  have hl : lv_has ls 1 [(0, .ref o)] := hl
  refine lv_aload_n hx hb dX8_made_0 rfl (lv_at hl 0 rfl) ?_
  refine z_get (v := .ref wli) C hz p0 zl8 mFX8_34 (by decide) rfl dX8_made_1 ?_
  refine lv_aload_n hx hb dX8_made_4 rfl (lv_at hl 0 rfl) ?_
  refine z_get (v := .int 0) C hz p0 zl8 mFX8_83 (by decide) rfl dX8_made_5 ?_
  refine lv_aload_n hx hb dX8_made_8 rfl (lv_at hl 0 rfl) ?_
  refine lv_aload_n hx hb dX8_made_9 rfl (lv_at hl 0 rfl) ?_
  refine z_get (v := .int 0) C hz p0 zl8 mFX8_83 (by decide) rfl dX8_made_10 ?_
  refine z_callVi (As := [.int 0]) C hz hS hA hl (k_X8_leastLike l D cy f o wev wnb wki wmy wce wiw wli wha wwt wfy wfk wem wna wpl whs wk1 wk2 wk3 u1 u2 u3 p0 ) zyX8_leastLike mMX8_103 p0 zl8 rfl rfl (Nat.le_of_ble_eq_true rfl) ⟨Nat.le_of_ble_eq_true rfl, Nat.le_of_ble_eq_true rfl⟩ ⟨Nat.le_of_ble_eq_true rfl, Nat.le_of_ble_eq_true rfl⟩ dX8_made_13 (fun r f1 H locs h2 hz hS => ?_)
  obtain ⟨rfl, k3⟩ := h2
  have a4 : f1 wli = some (.inl (cy 0, 60, .inl gl)) := k3 _ _ p4 
  refine z_iast 0 C hz hS a4 (by decide) (Nat.le_of_ble_eq_true rfl) (by omega) dX8_made_16 (fun H locs f5 a6 k7 hz hS => ?_)
  refine lv_aload_n hx hb dX8_made_17 rfl (lv_at hl 0 rfl) ?_
  have a8 : f1 o = some (.inr (8, [.int u1, .int u2, .int u3, .ref wev, .int 0, .ref wnb, .int 0, .ref wki, .ref wmy, .ref wce, .ref wiw, .ref wli, .ref wha, .ref wwt, .int 0, .ref wfy, .ref wfk, .int 0, .ref wem, .ref wna, .ref wpl, .ref whs, .long 1, .int 0, .ref wk1, .ref wk2, .ref wk3])) := k3 _ _ p0 
  have a9 : f5 o = some (.inr (8, [.int u1, .int u2, .int u3, .ref wev, .int 0, .ref wnb, .int 0, .ref wki, .ref wmy, .ref wce, .ref wiw, .ref wli, .ref wha, .ref wwt, .int 0, .ref wfy, .ref wfk, .int 0, .ref wem, .ref wna, .ref wpl, .ref whs, .long 1, .int 0, .ref wk1, .ref wk2, .ref wk3])) := (k7 _ (z_ne a8 a4 rfl)).trans a8
  refine z_get (v := .ref wha) C hz a9 zl8 mFX8_37 (by decide) rfl dX8_made_18 ?_
  refine lv_aload_n hx hb dX8_made_21 rfl (lv_at hl 0 rfl) ?_
  refine z_get (v := .int 0) C hz a9 zl8 mFX8_83 (by decide) rfl dX8_made_22 ?_
  refine lv_aload_n hx hb dX8_made_25 rfl (lv_at hl 0 rfl) ?_
  refine lv_aload_n hx hb dX8_made_26 rfl (lv_at hl 0 rfl) ?_
  refine z_get (v := .int 0) C hz a9 zl8 mFX8_83 (by decide) rfl dX8_made_27 ?_
  have a10 : f1 wki = some (.inl (cy 0, 60, .inl gk)) := k3 _ _ p1 
  have a11 : f5 wki = some (.inl (cy 0, 60, .inl gk)) := (k7 _ nkl).trans a10
  have a12 : f1 wmy = some (.inl (cy 0, 60, .inl gm)) := k3 _ _ p2 
  have a13 : f5 wmy = some (.inl (cy 0, 60, .inl gm)) := (k7 _ nml).trans a12
  have a14 : f1 wce = some (.inl (cy 1, 960, .inr (.inl gc))) := k3 _ _ p3 
  have a15 : f5 wce = some (.inl (cy 1, 960, .inr (.inl gc))) := (k7 _ (z_ne a14 a4 rfl)).trans a14
  refine z_callVi (As := [.int 0]) C hz hS hA hl (k_X8_hashOf l D cy f5 o wev wnb wki wmy wce wiw wli wha wwt wfy wfk wem wna wpl whs wk1 wk2 wk3 u1 u2 u3 gk gm gc t a9 a11 a13 a15 hk4 hm ht) zyX8_hashOf mMX8_107 a9 zl8 rfl rfl (Nat.le_of_ble_eq_true rfl) ⟨Nat.le_of_ble_eq_true rfl, Nat.le_of_ble_eq_true rfl⟩ ⟨Nat.le_of_ble_eq_true rfl, Nat.le_of_ble_eq_true rfl⟩ dX8_made_30 (fun r18 f16 H locs h17 hz hS => ?_)
  have k19 := h17
  have a20 : f1 wha = some (.inl (cy 0, 60, .inl gh)) := k3 _ _ p5 
  have a21 : f5 wha = some (.inl (cy 0, 60, .inl gh)) := (k7 _ (Ne.symm nlh)).trans a20
  have a22 : f16 wha = some (.inl (cy 0, 60, .inl gh)) := k19 _ _ a21 
  refine z_iast 0 C hz hS a22 (by decide) (Nat.le_of_ble_eq_true rfl) (by omega) dX8_made_33 (fun H locs f23 a24 k25 hz hS => ?_)
  refine lv_aload_n hx hb dX8_made_34 rfl (lv_at hl 0 rfl) ?_
  refine lv_dup hx hb dX8_made_35 rfl ?_
  have a26 : f16 o = some (.inr (8, [.int u1, .int u2, .int u3, .ref wev, .int 0, .ref wnb, .int 0, .ref wki, .ref wmy, .ref wce, .ref wiw, .ref wli, .ref wha, .ref wwt, .int 0, .ref wfy, .ref wfk, .int 0, .ref wem, .ref wna, .ref wpl, .ref whs, .long 1, .int 0, .ref wk1, .ref wk2, .ref wk3])) := k19 _ _ a9 
  have a27 : f23 o = some (.inr (8, [.int u1, .int u2, .int u3, .ref wev, .int 0, .ref wnb, .int 0, .ref wki, .ref wmy, .ref wce, .ref wiw, .ref wli, .ref wha, .ref wwt, .int 0, .ref wfy, .ref wfk, .int 0, .ref wem, .ref wna, .ref wpl, .ref whs, .long 1, .int 0, .ref wk1, .ref wk2, .ref wk3])) := (k25 _ (z_ne a26 a22 rfl)).trans a26
  refine z_get (v := .int 0) C hz a27 zl8 mFX8_83 (by decide) rfl dX8_made_36 ?_
  refine lv_iconst (v := 1) hx hb dX8_made_39 (by decide) ?_
  refine lv_iadd hx hb dX8_made_40 ?_
  refine z_put (fs' := [.int u1, .int u2, .int u3, .ref wev, .int 0, .ref wnb, .int (0 + 1), .ref wki, .ref wmy, .ref wce, .ref wiw, .ref wli, .ref wha, .ref wwt, .int 0, .ref wfy, .ref wfk, .int 0, .ref wem, .ref wna, .ref wpl, .ref whs, .long 1, .int 0, .ref wk1, .ref wk2, .ref wk3]) C hz hS a27 zl8 mFX8_83 (by decide) rfl rfl rfl (Nat.le_of_ble_eq_true rfl) rfl dX8_made_41 (fun H locs f28 a29 k30 hz hS => ?_)
  refine lv_aload_n hx hb dX8_made_44 rfl (lv_at hl 0 rfl) ?_
  refine z_get (v := .int (0 + 1)) C hz a29 zl8 mFX8_83 (by decide) rfl dX8_made_45 ?_
  refine lv_iconst (v := 1) hx hb dX8_made_48 (by decide) ?_
  refine lv_isub hx hb dX8_made_49 ?_
  refine lv_topi (fun y31 e32 => ?_)
  obtain rfl : y31 = 0 := e32.trans (by decide)
  exact z_iret C hr rfl hz hS ⟨rfl, (by
        intro b e hb n0 n1 n2
        have hb0 : f1 b = some e := k3 b e hb 
        have hb1 : f5 b = some e := (k7 b n1).trans hb0
        have hb2 : f16 b = some e := k19 b e hb1 
        have hb3 : f23 b = some e := (k25 b n2).trans hb2
        have hb4 : f28 b = some e := (k30 b n0).trans hb3
        exact hb4)⟩ (Nat.le_of_ble_eq_true rfl) (Nat.le_of_ble_eq_true rfl) dX8_made_50
abbrev rmX8_clean : Room := { frames := 0, cells := 0, slots := 0, locals := 0 }
set_option maxHeartbeats 4000000 in
set_option maxRecDepth 100000 in
theorem k_X8_clean (l : Launch) (D : va_G) (cy : Nat → ClassId) (f : zM) (v : Int64)   : zCl l D cy yX8_clean cX8_clean 2 (Option.some Jvm.ClassFile.FieldType.long) rmX8_clean [.long v] f (fun (r : Int64) (f1 : zM) => (∀ (b : Nat) (e : va_E), f b = some e → f1 b = some e)) := by
  intro sz
  refine z_body (by decide +kernel) (Nat.le_of_ble_eq_true rfl) ?_
  intro p e s m below meth c ls C hr hin hsz hz hl
  subst hsz
  have hx := C.1
  have hb := C.2.1
  have hA : ∀ q, s.heap.size ≤ q → zA f s.heap.size q := fun q h => Or.inr h
  have hS : va_S (zA f s.heap.size) s.heap s.heap [] := va_S.rf
  have hl : lv_has ls 2 [(0, .long v)] := hl
  refine lv_lload_n hx hb dX8_clean_0 rfl (lv_at hl 0 rfl) ?_
  refine lv_ldc2 (v := 9223372036854775807) hx hb C.2.2.2.1 (C.2.2.2.2.1 _ mKX8_110) dX8_clean_1 ?_
  refine lv_land hx hb dX8_clean_4 ?_
  refine lv_ldc2 (v := 9218868437227405312) hx hb C.2.2.2.1 (C.2.2.2.2.1 _ mKX8_112) dX8_clean_5 ?_
  refine W.lcmp hx hb dX8_clean_8 ?_
  refine lv_if_le (tgt := 18) hx hb dX8_clean_9 (by decide) (fun c1 => ?_) (fun c1 => ?_)
  · refine lv_lload_n hx hb dX8_clean_18 rfl (lv_at hl 0 rfl) ?_
    exact z_lret C hr hz hS (fun b e hb => hb) (Nat.le_of_ble_eq_true rfl) (Nat.le_of_ble_eq_true rfl) dX8_clean_19
  · refine lv_ldc2 (v := 9221120237041090560) hx hb C.2.2.2.1 (C.2.2.2.2.1 _ mKX8_114) dX8_clean_12 ?_
    refine lv_goto (tgt := 19) hx hb dX8_clean_15 (by decide) ?_
    exact z_lret C hr hz hS (fun b e hb => hb) (Nat.le_of_ble_eq_true rfl) (Nat.le_of_ble_eq_true rfl) dX8_clean_19
abbrev rmX8_point : Room := { frames := 3, cells := 0, slots := 0, locals := 67 }
set_option maxHeartbeats 4000000 in
set_option maxRecDepth 100000 in
theorem k_X8_point (l : Launch) (D : va_G) (cy : Nat → ClassId) (f : zM) (o : Nat) (wev : Nat) (wnb : Nat) (wki : Nat) (wmy : Nat) (wce : Nat) (wiw : Nat) (wli : Nat) (wha : Nat) (wwt : Nat) (wfy : Nat) (wfk : Nat) (wem : Nat) (wna : Nat) (wpl : Nat) (whs : Nat) (wk1 : Nat) (wk2 : Nat) (wk3 : Nat) (x : Int64) (y : Int64) (gk : Nat → Int32) (gm : Nat → Int32) (gc : Nat → Int64) (gl : Nat → Int32) (gh : Nat → Int32) (g : Nat → Int32) (p0 : f o = some (.inr (8, [.int 0, .int (-1), .int 0, .ref wev, .int 0, .ref wnb, .int 0, .ref wki, .ref wmy, .ref wce, .ref wiw, .ref wli, .ref wha, .ref wwt, .int 0, .ref wfy, .ref wfk, .int 0, .ref wem, .ref wna, .ref wpl, .ref whs, .long 1, .int 0, .ref wk1, .ref wk2, .ref wk3]))) (p1 : f wki = some (.inl (cy 0, 60, .inl gk))) (p2 : f wmy = some (.inl (cy 0, 60, .inl gm))) (p3 : f wce = some (.inl (cy 1, 960, .inr (.inl gc)))) (p4 : f wli = some (.inl (cy 0, 60, .inl gl))) (p5 : f wha = some (.inl (cy 0, 60, .inl gh))) (p6 : f wev = some (.inl (cy 0, 8, .inl g))) (nkm : wki ≠ wmy) (nlh : wli ≠ wha) (nkl : wki ≠ wli) (nkh : wki ≠ wha) (nml : wmy ≠ wli) (nmh : wmy ≠ wha) : zCi l D cy yX8_point cX8_point 5 (Option.some Jvm.ClassFile.FieldType.int) rmX8_point [.ref o, .long x, .long y] f (fun (r : Int32) (f1 : zM) => r = 0) := by
  intro sz
  refine z_body (by decide +kernel) (Nat.le_of_ble_eq_true rfl) ?_
  intro p e s m below meth c ls C hr hin hsz hz hl
  subst hsz
  have hx := C.1
  have hb := C.2.1
  have hA : ∀ q, s.heap.size ≤ q → zA f s.heap.size q := fun q h => Or.inr h
  have hS : va_S (zA f s.heap.size) s.heap s.heap [] := va_S.rf
  have hl : lv_has ls 5 [(0, .ref o), (1, .long x), (3, .long y)] := hl
  refine lv_aload_n hx hb dX8_point_0 rfl (lv_at hl 0 rfl) ?_
  refine z_callVv (As := []) C hz hS hA hl (k_X8_begin l D cy f o wev wnb wki wmy wce wiw wli wha wwt wfy wfk wem wna wpl whs wk1 wk2 wk3 0 (-1) 0 p0 ) zyX8_begin mMX8_116 p0 zl8 rfl rfl (Nat.le_of_ble_eq_true rfl) ⟨Nat.le_of_ble_eq_true rfl, Nat.le_of_ble_eq_true rfl⟩ ⟨Nat.le_of_ble_eq_true rfl, Nat.le_of_ble_eq_true rfl⟩ dX8_point_1 (fun  f1 H locs h2 hz hS => ?_)
  obtain ⟨a3, k4⟩ := h2
  refine lv_aload_n hx hb dX8_point_4 rfl (lv_at hl 0 rfl) ?_
  refine z_get (v := .int 0) C hz a3 zl8 mFX8_83 (by decide) rfl dX8_point_5 ?_
  refine lv_bipush (v := 60) hx hb dX8_point_8 (by decide) ?_
  refine lv_icmp_ne (tgt := 16) hx hb dX8_point_10 (by decide) (fun c5 => ?_) (fun c5 => ?_)
  rotate_left
  · exact absurd c5 (by decide)
  refine lv_aload_n hx hb dX8_point_16 rfl (lv_at hl 0 rfl) ?_
  refine lv_iconst (v := 0) hx hb dX8_point_17 (by decide) ?_
  have a6 : f1 wki = some (.inl (cy 0, 60, .inl gk)) := k4 _ _ p1 (z_ne p1 p0 rfl)
  have a7 : f1 wmy = some (.inl (cy 0, 60, .inl gm)) := k4 _ _ p2 (z_ne p2 p0 rfl)
  refine z_callVv (As := [.int 0]) C hz hS hA hl (k_X8_start l D cy f1 o wev wnb wki wmy wce wiw wli wha wwt wfy wfk wem wna wpl whs wk1 wk2 wk3 0 0 (-1) 0 gk gm a3 a6 a7 nkm) zyX8_start mMX8_119 a3 zl8 rfl rfl (Nat.le_of_ble_eq_true rfl) ⟨Nat.le_of_ble_eq_true rfl, Nat.le_of_ble_eq_true rfl⟩ ⟨Nat.le_of_ble_eq_true rfl, Nat.le_of_ble_eq_true rfl⟩ dX8_point_18 (fun  f8 H locs h9 hz hS => ?_)
  obtain ⟨a10, a11, k12⟩ := h9
  refine lv_aload_n hx hb dX8_point_21 rfl (lv_at hl 0 rfl) ?_
  refine lv_lload_n hx hb dX8_point_22 rfl (lv_at hl 1 rfl) ?_
  refine z_callSl (As := [.long x]) C hz hS hA hl (k_X8_clean l D cy f8 x  ) zyX8_clean mMX8_123 rfl rfl (Nat.le_of_ble_eq_true rfl) ⟨Nat.le_of_ble_eq_true rfl, Nat.le_of_ble_eq_true rfl⟩ ⟨Nat.le_of_ble_eq_true rfl, Nat.le_of_ble_eq_true rfl⟩ dX8_point_23 (fun r15 f13 H locs h14 hz hS => ?_)
  have k16 := h14
  have a17 : f8 o = some (.inr (8, [.int 0, .int (-1), .int 0, .ref wev, .int 0, .ref wnb, .int 0, .ref wki, .ref wmy, .ref wce, .ref wiw, .ref wli, .ref wha, .ref wwt, .int 0, .ref wfy, .ref wfk, .int 0, .ref wem, .ref wna, .ref wpl, .ref whs, .long 1, .int 0, .ref wk1, .ref wk2, .ref wk3])) := k12 _ _ a3 (z_ne a3 a6 rfl) (z_ne a3 a7 rfl)
  have a18 : f13 o = some (.inr (8, [.int 0, .int (-1), .int 0, .ref wev, .int 0, .ref wnb, .int 0, .ref wki, .ref wmy, .ref wce, .ref wiw, .ref wli, .ref wha, .ref wwt, .int 0, .ref wfy, .ref wfk, .int 0, .ref wem, .ref wna, .ref wpl, .ref whs, .long 1, .int 0, .ref wk1, .ref wk2, .ref wk3])) := k16 _ _ a17 
  have a19 : f1 wce = some (.inl (cy 1, 960, .inr (.inl gc))) := k4 _ _ p3 (z_ne p3 p0 rfl)
  have a20 : f8 wce = some (.inl (cy 1, 960, .inr (.inl gc))) := k12 _ _ a19 (z_ne a19 a6 rfl) (z_ne a19 a7 rfl)
  have a21 : f13 wce = some (.inl (cy 1, 960, .inr (.inl gc))) := k16 _ _ a20 
  have a22 : f13 wmy = some (.inl (cy 0, 60, .inl (upd gm 0 0))) := k16 _ _ a11 
  refine z_callVv (As := [.long r15]) C hz hS hA hl (k_X8_part l D cy f13 o wev wnb wki wmy wce wiw wli wha wwt wfy wfk wem wna wpl whs wk1 wk2 wk3 r15 0 (-1) 0 gc (upd gm 0 0) 0 a18 a21 a22 pk_us (Nat.le_of_ble_eq_true rfl)) zyX8_part mMX8_127 a18 zl8 rfl rfl (Nat.le_of_ble_eq_true rfl) ⟨Nat.le_of_ble_eq_true rfl, Nat.le_of_ble_eq_true rfl⟩ ⟨Nat.le_of_ble_eq_true rfl, Nat.le_of_ble_eq_true rfl⟩ dX8_point_26 (fun  f23 H locs h24 hz hS => ?_)
  obtain ⟨a25, a26, k27⟩ := h24
  refine lv_aload_n hx hb dX8_point_29 rfl (lv_at hl 0 rfl) ?_
  refine lv_lload_n hx hb dX8_point_30 rfl (lv_at hl 2 rfl) ?_
  refine z_callSl (As := [.long y]) C hz hS hA hl (k_X8_clean l D cy f23 y  ) zyX8_clean mMX8_123 rfl rfl (Nat.le_of_ble_eq_true rfl) ⟨Nat.le_of_ble_eq_true rfl, Nat.le_of_ble_eq_true rfl⟩ ⟨Nat.le_of_ble_eq_true rfl, Nat.le_of_ble_eq_true rfl⟩ dX8_point_31 (fun r30 f28 H locs h29 hz hS => ?_)
  have k31 := h29
  have a32 : f23 o = some (.inr (8, [.int 0, .int (-1), .int 0, .ref wev, .int 0, .ref wnb, .int 0, .ref wki, .ref wmy, .ref wce, .ref wiw, .ref wli, .ref wha, .ref wwt, .int 0, .ref wfy, .ref wfk, .int 0, .ref wem, .ref wna, .ref wpl, .ref whs, .long 1, .int 0, .ref wk1, .ref wk2, .ref wk3])) := k27 _ _ a18 (z_ne a18 a21 rfl) (z_ne a18 a22 rfl)
  have a33 : f28 o = some (.inr (8, [.int 0, .int (-1), .int 0, .ref wev, .int 0, .ref wnb, .int 0, .ref wki, .ref wmy, .ref wce, .ref wiw, .ref wli, .ref wha, .ref wwt, .int 0, .ref wfy, .ref wfk, .int 0, .ref wem, .ref wna, .ref wpl, .ref whs, .long 1, .int 0, .ref wk1, .ref wk2, .ref wk3])) := k31 _ _ a32 
  have a34 : f28 wce = some (.inl (cy 1, 960, .inr (.inl (vp_updL gc 0 r15)))) := k31 _ _ a25 
  have a35 : f28 wmy = some (.inl (cy 0, 60, .inl (upd (upd gm 0 0) 0 (nI (0 + 1))))) := k31 _ _ a26 
  refine z_callVv (As := [.long r30]) C hz hS hA hl (k_X8_part l D cy f28 o wev wnb wki wmy wce wiw wli wha wwt wfy wfk wem wna wpl whs wk1 wk2 wk3 r30 0 (-1) 0 (vp_updL gc 0 r15) (upd (upd gm 0 0) 0 (nI (0 + 1))) 1 a33 a34 a35 pk_us (Nat.le_of_ble_eq_true rfl)) zyX8_part mMX8_127 a33 zl8 rfl rfl (Nat.le_of_ble_eq_true rfl) ⟨Nat.le_of_ble_eq_true rfl, Nat.le_of_ble_eq_true rfl⟩ ⟨Nat.le_of_ble_eq_true rfl, Nat.le_of_ble_eq_true rfl⟩ dX8_point_34 (fun  f36 H locs h37 hz hS => ?_)
  obtain ⟨a38, a39, k40⟩ := h37
  refine lv_aload_n hx hb dX8_point_37 rfl (lv_at hl 0 rfl) ?_
  have a41 : f36 o = some (.inr (8, [.int 0, .int (-1), .int 0, .ref wev, .int 0, .ref wnb, .int 0, .ref wki, .ref wmy, .ref wce, .ref wiw, .ref wli, .ref wha, .ref wwt, .int 0, .ref wfy, .ref wfk, .int 0, .ref wem, .ref wna, .ref wpl, .ref whs, .long 1, .int 0, .ref wk1, .ref wk2, .ref wk3])) := k40 _ _ a33 (z_ne a33 a34 rfl) (z_ne a33 a35 rfl)
  have a42 : f13 wki = some (.inl (cy 0, 60, .inl (upd gk 0 0))) := k16 _ _ a10 
  have a43 : f23 wki = some (.inl (cy 0, 60, .inl (upd gk 0 0))) := k27 _ _ a42 (z_ne a42 a21 rfl) nkm
  have a44 : f28 wki = some (.inl (cy 0, 60, .inl (upd gk 0 0))) := k31 _ _ a43 
  have a45 : f36 wki = some (.inl (cy 0, 60, .inl (upd gk 0 0))) := k40 _ _ a44 (z_ne a44 a34 rfl) nkm
  have a46 : f1 wli = some (.inl (cy 0, 60, .inl gl)) := k4 _ _ p4 (z_ne p4 p0 rfl)
  have a47 : f8 wli = some (.inl (cy 0, 60, .inl gl)) := k12 _ _ a46 (Ne.symm nkl) (Ne.symm nml)
  have a48 : f13 wli = some (.inl (cy 0, 60, .inl gl)) := k16 _ _ a47 
  have a49 : f23 wli = some (.inl (cy 0, 60, .inl gl)) := k27 _ _ a48 (z_ne a48 a21 rfl) (Ne.symm nml)
  have a50 : f28 wli = some (.inl (cy 0, 60, .inl gl)) := k31 _ _ a49 
  have a51 : f36 wli = some (.inl (cy 0, 60, .inl gl)) := k40 _ _ a50 (z_ne a50 a34 rfl) (Ne.symm nml)
  have a52 : f1 wha = some (.inl (cy 0, 60, .inl gh)) := k4 _ _ p5 (z_ne p5 p0 rfl)
  have a53 : f8 wha = some (.inl (cy 0, 60, .inl gh)) := k12 _ _ a52 (Ne.symm nkh) (Ne.symm nmh)
  have a54 : f13 wha = some (.inl (cy 0, 60, .inl gh)) := k16 _ _ a53 
  have a55 : f23 wha = some (.inl (cy 0, 60, .inl gh)) := k27 _ _ a54 (z_ne a54 a21 rfl) (Ne.symm nmh)
  have a56 : f28 wha = some (.inl (cy 0, 60, .inl gh)) := k31 _ _ a55 
  have a57 : f36 wha = some (.inl (cy 0, 60, .inl gh)) := k40 _ _ a56 (z_ne a56 a34 rfl) (Ne.symm nmh)
  refine z_callVi (As := []) C hz hS hA hl (k_X8_made l D cy f36 o wev wnb wki wmy wce wiw wli wha wwt wfy wfk wem wna wpl whs wk1 wk2 wk3 0 (-1) 0 (upd gk 0 0) (upd (upd (upd gm 0 0) 0 (nI (0 + 1))) 0 (nI (1 + 1))) (vp_updL (vp_updL gc 0 r15) 1 r30) gl gh 2 a41 a45 a39 a38 a51 a57 (by rw [pk_us]; decide) pk_us (Nat.le_of_ble_eq_true rfl) nlh nkl nkh nml nmh) zyX8_made mMX8_131 a41 zl8 rfl rfl (Nat.le_of_ble_eq_true rfl) ⟨Nat.le_of_ble_eq_true rfl, Nat.le_of_ble_eq_true rfl⟩ ⟨Nat.le_of_ble_eq_true rfl, Nat.le_of_ble_eq_true rfl⟩ dX8_point_38 (fun r f58 H locs h59 hz hS => ?_)
  obtain ⟨rfl, k60⟩ := h59
  exact z_iret C hr rfl hz hS rfl (Nat.le_of_ble_eq_true rfl) (Nat.le_of_ble_eq_true rfl) dX8_point_41
abbrev rmX8_span : Room := { frames := 3, cells := 0, slots := 0, locals := 67 }
set_option maxHeartbeats 4000000 in
set_option maxRecDepth 100000 in
theorem k_X8_span (l : Launch) (D : va_G) (cy : Nat → ClassId) (f : zM) (o : Nat) (wev : Nat) (wnb : Nat) (wki : Nat) (wmy : Nat) (wce : Nat) (wiw : Nat) (wli : Nat) (wha : Nat) (wwt : Nat) (wfy : Nat) (wfk : Nat) (wem : Nat) (wna : Nat) (wpl : Nat) (whs : Nat) (wk1 : Nat) (wk2 : Nat) (wk3 : Nat) (x : Int32) (y : Int32) (gk : Nat → Int32) (gm : Nat → Int32) (gc : Nat → Int64) (gl : Nat → Int32) (gh : Nat → Int32) (g : Nat → Int32) (p0 : f o = some (.inr (8, [.int 0, .int (-1), .int 0, .ref wev, .int 0, .ref wnb, .int 0, .ref wki, .ref wmy, .ref wce, .ref wiw, .ref wli, .ref wha, .ref wwt, .int 0, .ref wfy, .ref wfk, .int 0, .ref wem, .ref wna, .ref wpl, .ref whs, .long 1, .int 0, .ref wk1, .ref wk2, .ref wk3]))) (p1 : f wki = some (.inl (cy 0, 60, .inl gk))) (p2 : f wmy = some (.inl (cy 0, 60, .inl gm))) (p3 : f wce = some (.inl (cy 1, 960, .inr (.inl gc)))) (p4 : f wli = some (.inl (cy 0, 60, .inl gl))) (p5 : f wha = some (.inl (cy 0, 60, .inl gh))) (p6 : f wev = some (.inl (cy 0, 8, .inl g))) (nkm : wki ≠ wmy) (nlh : wli ≠ wha) (nkl : wki ≠ wli) (nkh : wki ≠ wha) (nml : wmy ≠ wli) (nmh : wmy ≠ wha) : zCi l D cy yX8_span cX8_span 3 (Option.some Jvm.ClassFile.FieldType.int) rmX8_span [.ref o, .int x, .int y] f (fun (r : Int32) (f1 : zM) => r = (if x ≤ y then 0 else (-4))) := by
  intro sz
  refine z_body (by decide +kernel) (Nat.le_of_ble_eq_true rfl) ?_
  intro p e s m below meth c ls C hr hin hsz hz hl
  subst hsz
  have hx := C.1
  have hb := C.2.1
  have hA : ∀ q, s.heap.size ≤ q → zA f s.heap.size q := fun q h => Or.inr h
  have hS : va_S (zA f s.heap.size) s.heap s.heap [] := va_S.rf
  have hl : lv_has ls 3 [(0, .ref o), (1, .int x), (2, .int y)] := hl
  refine lv_aload_n hx hb dX8_span_0 rfl (lv_at hl 0 rfl) ?_
  refine z_callVv (As := []) C hz hS hA hl (k_X8_begin l D cy f o wev wnb wki wmy wce wiw wli wha wwt wfy wfk wem wna wpl whs wk1 wk2 wk3 0 (-1) 0 p0 ) zyX8_begin mMX8_116 p0 zl8 rfl rfl (Nat.le_of_ble_eq_true rfl) ⟨Nat.le_of_ble_eq_true rfl, Nat.le_of_ble_eq_true rfl⟩ ⟨Nat.le_of_ble_eq_true rfl, Nat.le_of_ble_eq_true rfl⟩ dX8_span_1 (fun  f1 H locs h2 hz hS => ?_)
  obtain ⟨a3, k4⟩ := h2
  refine lv_aload_n hx hb dX8_span_4 rfl (lv_at hl 0 rfl) ?_
  refine z_get (v := .int 0) C hz a3 zl8 mFX8_83 (by decide) rfl dX8_span_5 ?_
  refine lv_bipush (v := 60) hx hb dX8_span_8 (by decide) ?_
  refine lv_icmp_ne (tgt := 16) hx hb dX8_span_10 (by decide) (fun c5 => ?_) (fun c5 => ?_)
  rotate_left
  · exact absurd c5 (by decide)
  refine lv_iload_n hx hb dX8_span_16 rfl (lv_at hl 1 rfl) ?_
  refine lv_iload_n hx hb dX8_span_17 rfl (lv_at hl 2 rfl) ?_
  refine lv_icmp_le (tgt := 30) hx hb dX8_span_18 (by decide) (fun c6 => ?_) (fun c6 => ?_)
  · refine lv_aload_n hx hb dX8_span_30 rfl (lv_at hl 0 rfl) ?_
    refine lv_iconst (v := 1) hx hb dX8_span_31 (by decide) ?_
    have a7 : f1 wki = some (.inl (cy 0, 60, .inl gk)) := k4 _ _ p1 (z_ne p1 p0 rfl)
    have a8 : f1 wmy = some (.inl (cy 0, 60, .inl gm)) := k4 _ _ p2 (z_ne p2 p0 rfl)
    refine z_callVv (As := [.int 1]) C hz hS hA hl (k_X8_start l D cy f1 o wev wnb wki wmy wce wiw wli wha wwt wfy wfk wem wna wpl whs wk1 wk2 wk3 1 0 (-1) 0 gk gm a3 a7 a8 nkm) zyX8_start mMX8_119 a3 zl8 rfl rfl (Nat.le_of_ble_eq_true rfl) ⟨Nat.le_of_ble_eq_true rfl, Nat.le_of_ble_eq_true rfl⟩ ⟨Nat.le_of_ble_eq_true rfl, Nat.le_of_ble_eq_true rfl⟩ dX8_span_32 (fun  f9 H locs h10 hz hS => ?_)
    obtain ⟨a11, a12, k13⟩ := h10
    refine lv_aload_n hx hb dX8_span_35 rfl (lv_at hl 0 rfl) ?_
    refine lv_iload_n hx hb dX8_span_36 rfl (lv_at hl 1 rfl) ?_
    refine lv_i2l (v := x.toInt64) hx hb dX8_span_37 rfl ?_
    have a14 : f9 o = some (.inr (8, [.int 0, .int (-1), .int 0, .ref wev, .int 0, .ref wnb, .int 0, .ref wki, .ref wmy, .ref wce, .ref wiw, .ref wli, .ref wha, .ref wwt, .int 0, .ref wfy, .ref wfk, .int 0, .ref wem, .ref wna, .ref wpl, .ref whs, .long 1, .int 0, .ref wk1, .ref wk2, .ref wk3])) := k13 _ _ a3 (z_ne a3 a7 rfl) (z_ne a3 a8 rfl)
    have a15 : f1 wce = some (.inl (cy 1, 960, .inr (.inl gc))) := k4 _ _ p3 (z_ne p3 p0 rfl)
    have a16 : f9 wce = some (.inl (cy 1, 960, .inr (.inl gc))) := k13 _ _ a15 (z_ne a15 a7 rfl) (z_ne a15 a8 rfl)
    refine z_callVv (As := [.long x.toInt64]) C hz hS hA hl (k_X8_part l D cy f9 o wev wnb wki wmy wce wiw wli wha wwt wfy wfk wem wna wpl whs wk1 wk2 wk3 x.toInt64 0 (-1) 0 gc (upd gm 0 0) 0 a14 a16 a12 pk_us (Nat.le_of_ble_eq_true rfl)) zyX8_part mMX8_127 a14 zl8 rfl rfl (Nat.le_of_ble_eq_true rfl) ⟨Nat.le_of_ble_eq_true rfl, Nat.le_of_ble_eq_true rfl⟩ ⟨Nat.le_of_ble_eq_true rfl, Nat.le_of_ble_eq_true rfl⟩ dX8_span_38 (fun  f17 H locs h18 hz hS => ?_)
    obtain ⟨a19, a20, k21⟩ := h18
    refine lv_aload_n hx hb dX8_span_41 rfl (lv_at hl 0 rfl) ?_
    refine lv_iload_n hx hb dX8_span_42 rfl (lv_at hl 2 rfl) ?_
    refine lv_i2l (v := y.toInt64) hx hb dX8_span_43 rfl ?_
    have a22 : f17 o = some (.inr (8, [.int 0, .int (-1), .int 0, .ref wev, .int 0, .ref wnb, .int 0, .ref wki, .ref wmy, .ref wce, .ref wiw, .ref wli, .ref wha, .ref wwt, .int 0, .ref wfy, .ref wfk, .int 0, .ref wem, .ref wna, .ref wpl, .ref whs, .long 1, .int 0, .ref wk1, .ref wk2, .ref wk3])) := k21 _ _ a14 (z_ne a14 a16 rfl) (z_ne a14 a12 rfl)
    refine z_callVv (As := [.long y.toInt64]) C hz hS hA hl (k_X8_part l D cy f17 o wev wnb wki wmy wce wiw wli wha wwt wfy wfk wem wna wpl whs wk1 wk2 wk3 y.toInt64 0 (-1) 0 (vp_updL gc 0 x.toInt64) (upd (upd gm 0 0) 0 (nI (0 + 1))) 1 a22 a19 a20 pk_us (Nat.le_of_ble_eq_true rfl)) zyX8_part mMX8_127 a22 zl8 rfl rfl (Nat.le_of_ble_eq_true rfl) ⟨Nat.le_of_ble_eq_true rfl, Nat.le_of_ble_eq_true rfl⟩ ⟨Nat.le_of_ble_eq_true rfl, Nat.le_of_ble_eq_true rfl⟩ dX8_span_44 (fun  f23 H locs h24 hz hS => ?_)
    obtain ⟨a25, a26, k27⟩ := h24
    refine lv_aload_n hx hb dX8_span_47 rfl (lv_at hl 0 rfl) ?_
    have a28 : f23 o = some (.inr (8, [.int 0, .int (-1), .int 0, .ref wev, .int 0, .ref wnb, .int 0, .ref wki, .ref wmy, .ref wce, .ref wiw, .ref wli, .ref wha, .ref wwt, .int 0, .ref wfy, .ref wfk, .int 0, .ref wem, .ref wna, .ref wpl, .ref whs, .long 1, .int 0, .ref wk1, .ref wk2, .ref wk3])) := k27 _ _ a22 (z_ne a22 a19 rfl) (z_ne a22 a20 rfl)
    have a29 : f17 wki = some (.inl (cy 0, 60, .inl (upd gk 0 1))) := k21 _ _ a11 (z_ne a11 a16 rfl) nkm
    have a30 : f23 wki = some (.inl (cy 0, 60, .inl (upd gk 0 1))) := k27 _ _ a29 (z_ne a29 a19 rfl) nkm
    have a31 : f1 wli = some (.inl (cy 0, 60, .inl gl)) := k4 _ _ p4 (z_ne p4 p0 rfl)
    have a32 : f9 wli = some (.inl (cy 0, 60, .inl gl)) := k13 _ _ a31 (Ne.symm nkl) (Ne.symm nml)
    have a33 : f17 wli = some (.inl (cy 0, 60, .inl gl)) := k21 _ _ a32 (z_ne a32 a16 rfl) (Ne.symm nml)
    have a34 : f23 wli = some (.inl (cy 0, 60, .inl gl)) := k27 _ _ a33 (z_ne a33 a19 rfl) (Ne.symm nml)
    have a35 : f1 wha = some (.inl (cy 0, 60, .inl gh)) := k4 _ _ p5 (z_ne p5 p0 rfl)
    have a36 : f9 wha = some (.inl (cy 0, 60, .inl gh)) := k13 _ _ a35 (Ne.symm nkh) (Ne.symm nmh)
    have a37 : f17 wha = some (.inl (cy 0, 60, .inl gh)) := k21 _ _ a36 (z_ne a36 a16 rfl) (Ne.symm nmh)
    have a38 : f23 wha = some (.inl (cy 0, 60, .inl gh)) := k27 _ _ a37 (z_ne a37 a19 rfl) (Ne.symm nmh)
    refine z_callVi (As := []) C hz hS hA hl (k_X8_made l D cy f23 o wev wnb wki wmy wce wiw wli wha wwt wfy wfk wem wna wpl whs wk1 wk2 wk3 0 (-1) 0 (upd gk 0 1) (upd (upd (upd gm 0 0) 0 (nI (0 + 1))) 0 (nI (1 + 1))) (vp_updL (vp_updL gc 0 x.toInt64) 1 y.toInt64) gl gh 2 a28 a30 a26 a25 a34 a38 (by rw [pk_us]; decide) pk_us (Nat.le_of_ble_eq_true rfl) nlh nkl nkh nml nmh) zyX8_made mMX8_131 a28 zl8 rfl rfl (Nat.le_of_ble_eq_true rfl) ⟨Nat.le_of_ble_eq_true rfl, Nat.le_of_ble_eq_true rfl⟩ ⟨Nat.le_of_ble_eq_true rfl, Nat.le_of_ble_eq_true rfl⟩ dX8_span_48 (fun r f39 H locs h40 hz hS => ?_)
    obtain ⟨rfl, k41⟩ := h40
    exact z_iret C hr rfl hz hS (by simp [c5, c6]) (Nat.le_of_ble_eq_true rfl) (Nat.le_of_ble_eq_true rfl) dX8_span_51
  · refine lv_aload_n hx hb dX8_span_21 rfl (lv_at hl 0 rfl) ?_
    refine lv_bipush (v := 7) hx hb dX8_span_22 (by decide) ?_
    refine lv_iconst (v := 1) hx hb dX8_span_24 (by decide) ?_
    refine lv_iconst (v := 1) hx hb dX8_span_25 (by decide) ?_
    have a42 : f1 wev = some (.inl (cy 0, 8, .inl g)) := k4 _ _ p6 (z_ne p6 p0 rfl)
    refine z_callVi (As := [.int 7, .int 1, .int 1]) C hz hS hA hl (k_X8_fails l D cy f1 o wev wnb wki wmy wce wiw wli wha wwt wfy wfk wem wna wpl whs wk1 wk2 wk3 7 1 1 0 (-1) 0 g 7 a3 a42 (by decide) (Nat.le_of_ble_eq_true rfl)) zyX8_fails mMX8_135 a3 zl8 rfl rfl (Nat.le_of_ble_eq_true rfl) ⟨Nat.le_of_ble_eq_true rfl, Nat.le_of_ble_eq_true rfl⟩ ⟨Nat.le_of_ble_eq_true rfl, Nat.le_of_ble_eq_true rfl⟩ dX8_span_26 (fun r f43 H locs h44 hz hS => ?_)
    obtain ⟨rfl, k45⟩ := h44
    exact z_iret C hr rfl hz hS (by simp [c5, c6]) (Nat.le_of_ble_eq_true rfl) (Nat.le_of_ble_eq_true rfl) dX8_span_29
abbrev rmX8_wide : Room := { frames := 3, cells := 0, slots := 0, locals := 67 }
set_option maxHeartbeats 4000000 in
set_option maxRecDepth 100000 in
theorem k_X8_wide (l : Launch) (D : va_G) (cy : Nat → ClassId) (f : zM) (o : Nat) (wev : Nat) (wnb : Nat) (wki : Nat) (wmy : Nat) (wce : Nat) (wiw : Nat) (wli : Nat) (wha : Nat) (wwt : Nat) (wfy : Nat) (wfk : Nat) (wem : Nat) (wna : Nat) (wpl : Nat) (whs : Nat) (wk1 : Nat) (wk2 : Nat) (wk3 : Nat) (x : Int32) (y : Int32) (z : Int32) (gk : Nat → Int32) (gm : Nat → Int32) (gc : Nat → Int64) (gl : Nat → Int32) (gh : Nat → Int32) (g : Nat → Int32) (p0 : f o = some (.inr (8, [.int 0, .int (-1), .int 0, .ref wev, .int 0, .ref wnb, .int 0, .ref wki, .ref wmy, .ref wce, .ref wiw, .ref wli, .ref wha, .ref wwt, .int 0, .ref wfy, .ref wfk, .int 0, .ref wem, .ref wna, .ref wpl, .ref whs, .long 1, .int 0, .ref wk1, .ref wk2, .ref wk3]))) (p1 : f wki = some (.inl (cy 0, 60, .inl gk))) (p2 : f wmy = some (.inl (cy 0, 60, .inl gm))) (p3 : f wce = some (.inl (cy 1, 960, .inr (.inl gc)))) (p4 : f wli = some (.inl (cy 0, 60, .inl gl))) (p5 : f wha = some (.inl (cy 0, 60, .inl gh))) (p6 : f wev = some (.inl (cy 0, 8, .inl g))) (nkm : wki ≠ wmy) (nlh : wli ≠ wha) (nkl : wki ≠ wli) (nkh : wki ≠ wha) (nml : wmy ≠ wli) (nmh : wmy ≠ wha) : zCi l D cy yX8_wide cX8_wide 4 (Option.some Jvm.ClassFile.FieldType.int) rmX8_wide [.ref o, .int x, .int y, .int z] f (fun (r : Int32) (f1 : zM) => r = (if x ≤ y then (if z = 0 then (-4) else if y - x - (y - x) / z * z = 0 then 0 else (-4)) else (-4))) := by
  intro sz
  refine z_body (by decide +kernel) (Nat.le_of_ble_eq_true rfl) ?_
  intro p e s m below meth c ls C hr hin hsz hz hl
  subst hsz
  have hx := C.1
  have hb := C.2.1
  have hA : ∀ q, s.heap.size ≤ q → zA f s.heap.size q := fun q h => Or.inr h
  have hS : va_S (zA f s.heap.size) s.heap s.heap [] := va_S.rf
  have hl : lv_has ls 4 [(0, .ref o), (1, .int x), (2, .int y), (3, .int z)] := hl
  refine lv_aload_n hx hb dX8_wide_0 rfl (lv_at hl 0 rfl) ?_
  refine z_callVv (As := []) C hz hS hA hl (k_X8_begin l D cy f o wev wnb wki wmy wce wiw wli wha wwt wfy wfk wem wna wpl whs wk1 wk2 wk3 0 (-1) 0 p0 ) zyX8_begin mMX8_116 p0 zl8 rfl rfl (Nat.le_of_ble_eq_true rfl) ⟨Nat.le_of_ble_eq_true rfl, Nat.le_of_ble_eq_true rfl⟩ ⟨Nat.le_of_ble_eq_true rfl, Nat.le_of_ble_eq_true rfl⟩ dX8_wide_1 (fun  f1 H locs h2 hz hS => ?_)
  obtain ⟨a3, k4⟩ := h2
  refine lv_aload_n hx hb dX8_wide_4 rfl (lv_at hl 0 rfl) ?_
  refine z_get (v := .int 0) C hz a3 zl8 mFX8_83 (by decide) rfl dX8_wide_5 ?_
  refine lv_bipush (v := 60) hx hb dX8_wide_8 (by decide) ?_
  refine lv_icmp_ne (tgt := 16) hx hb dX8_wide_10 (by decide) (fun c5 => ?_) (fun c5 => ?_)
  rotate_left
  · exact absurd c5 (by decide)
  refine lv_iload_n hx hb dX8_wide_16 rfl (lv_at hl 1 rfl) ?_
  refine lv_iload_n hx hb dX8_wide_17 rfl (lv_at hl 2 rfl) ?_
  refine lv_icmp_le (tgt := 30) hx hb dX8_wide_18 (by decide) (fun c6 => ?_) (fun c6 => ?_)
  · refine lv_iload_n hx hb dX8_wide_30 rfl (lv_at hl 3 rfl) ?_
    refine lv_if_ne (tgt := 43) hx hb dX8_wide_31 (by decide) (fun c7 => ?_) (fun c7 => ?_)
    · refine lv_iload_n hx hb dX8_wide_43 rfl (lv_at hl 2 rfl) ?_
      refine lv_iload_n hx hb dX8_wide_44 rfl (lv_at hl 1 rfl) ?_
      refine lv_isub hx hb dX8_wide_45 ?_
      refine lv_iload_n hx hb dX8_wide_46 rfl (lv_at hl 3 rfl) ?_
      refine lv_irem hx hb dX8_wide_47 c7 ?_
      refine lv_if_eq (tgt := 60) hx hb dX8_wide_48 (by decide) (fun c8 => ?_) (fun c8 => ?_)
      · refine lv_aload_n hx hb dX8_wide_60 rfl (lv_at hl 0 rfl) ?_
        refine lv_iconst (v := 2) hx hb dX8_wide_61 (by decide) ?_
        have a9 : f1 wki = some (.inl (cy 0, 60, .inl gk)) := k4 _ _ p1 (z_ne p1 p0 rfl)
        have a10 : f1 wmy = some (.inl (cy 0, 60, .inl gm)) := k4 _ _ p2 (z_ne p2 p0 rfl)
        refine z_callVv (As := [.int 2]) C hz hS hA hl (k_X8_start l D cy f1 o wev wnb wki wmy wce wiw wli wha wwt wfy wfk wem wna wpl whs wk1 wk2 wk3 2 0 (-1) 0 gk gm a3 a9 a10 nkm) zyX8_start mMX8_119 a3 zl8 rfl rfl (Nat.le_of_ble_eq_true rfl) ⟨Nat.le_of_ble_eq_true rfl, Nat.le_of_ble_eq_true rfl⟩ ⟨Nat.le_of_ble_eq_true rfl, Nat.le_of_ble_eq_true rfl⟩ dX8_wide_62 (fun  f11 H locs h12 hz hS => ?_)
        obtain ⟨a13, a14, k15⟩ := h12
        refine lv_aload_n hx hb dX8_wide_65 rfl (lv_at hl 0 rfl) ?_
        refine lv_iload_n hx hb dX8_wide_66 rfl (lv_at hl 1 rfl) ?_
        refine lv_i2l (v := x.toInt64) hx hb dX8_wide_67 rfl ?_
        have a16 : f11 o = some (.inr (8, [.int 0, .int (-1), .int 0, .ref wev, .int 0, .ref wnb, .int 0, .ref wki, .ref wmy, .ref wce, .ref wiw, .ref wli, .ref wha, .ref wwt, .int 0, .ref wfy, .ref wfk, .int 0, .ref wem, .ref wna, .ref wpl, .ref whs, .long 1, .int 0, .ref wk1, .ref wk2, .ref wk3])) := k15 _ _ a3 (z_ne a3 a9 rfl) (z_ne a3 a10 rfl)
        have a17 : f1 wce = some (.inl (cy 1, 960, .inr (.inl gc))) := k4 _ _ p3 (z_ne p3 p0 rfl)
        have a18 : f11 wce = some (.inl (cy 1, 960, .inr (.inl gc))) := k15 _ _ a17 (z_ne a17 a9 rfl) (z_ne a17 a10 rfl)
        refine z_callVv (As := [.long x.toInt64]) C hz hS hA hl (k_X8_part l D cy f11 o wev wnb wki wmy wce wiw wli wha wwt wfy wfk wem wna wpl whs wk1 wk2 wk3 x.toInt64 0 (-1) 0 gc (upd gm 0 0) 0 a16 a18 a14 pk_us (Nat.le_of_ble_eq_true rfl)) zyX8_part mMX8_127 a16 zl8 rfl rfl (Nat.le_of_ble_eq_true rfl) ⟨Nat.le_of_ble_eq_true rfl, Nat.le_of_ble_eq_true rfl⟩ ⟨Nat.le_of_ble_eq_true rfl, Nat.le_of_ble_eq_true rfl⟩ dX8_wide_68 (fun  f19 H locs h20 hz hS => ?_)
        obtain ⟨a21, a22, k23⟩ := h20
        refine lv_aload_n hx hb dX8_wide_71 rfl (lv_at hl 0 rfl) ?_
        refine lv_iload_n hx hb dX8_wide_72 rfl (lv_at hl 2 rfl) ?_
        refine lv_i2l (v := y.toInt64) hx hb dX8_wide_73 rfl ?_
        have a24 : f19 o = some (.inr (8, [.int 0, .int (-1), .int 0, .ref wev, .int 0, .ref wnb, .int 0, .ref wki, .ref wmy, .ref wce, .ref wiw, .ref wli, .ref wha, .ref wwt, .int 0, .ref wfy, .ref wfk, .int 0, .ref wem, .ref wna, .ref wpl, .ref whs, .long 1, .int 0, .ref wk1, .ref wk2, .ref wk3])) := k23 _ _ a16 (z_ne a16 a18 rfl) (z_ne a16 a14 rfl)
        refine z_callVv (As := [.long y.toInt64]) C hz hS hA hl (k_X8_part l D cy f19 o wev wnb wki wmy wce wiw wli wha wwt wfy wfk wem wna wpl whs wk1 wk2 wk3 y.toInt64 0 (-1) 0 (vp_updL gc 0 x.toInt64) (upd (upd gm 0 0) 0 (nI (0 + 1))) 1 a24 a21 a22 pk_us (Nat.le_of_ble_eq_true rfl)) zyX8_part mMX8_127 a24 zl8 rfl rfl (Nat.le_of_ble_eq_true rfl) ⟨Nat.le_of_ble_eq_true rfl, Nat.le_of_ble_eq_true rfl⟩ ⟨Nat.le_of_ble_eq_true rfl, Nat.le_of_ble_eq_true rfl⟩ dX8_wide_74 (fun  f25 H locs h26 hz hS => ?_)
        obtain ⟨a27, a28, k29⟩ := h26
        refine lv_aload_n hx hb dX8_wide_77 rfl (lv_at hl 0 rfl) ?_
        refine lv_iload_n hx hb dX8_wide_78 rfl (lv_at hl 3 rfl) ?_
        refine lv_i2l (v := z.toInt64) hx hb dX8_wide_79 rfl ?_
        have a30 : f25 o = some (.inr (8, [.int 0, .int (-1), .int 0, .ref wev, .int 0, .ref wnb, .int 0, .ref wki, .ref wmy, .ref wce, .ref wiw, .ref wli, .ref wha, .ref wwt, .int 0, .ref wfy, .ref wfk, .int 0, .ref wem, .ref wna, .ref wpl, .ref whs, .long 1, .int 0, .ref wk1, .ref wk2, .ref wk3])) := k29 _ _ a24 (z_ne a24 a21 rfl) (z_ne a24 a22 rfl)
        refine z_callVv (As := [.long z.toInt64]) C hz hS hA hl (k_X8_part l D cy f25 o wev wnb wki wmy wce wiw wli wha wwt wfy wfk wem wna wpl whs wk1 wk2 wk3 z.toInt64 0 (-1) 0 (vp_updL (vp_updL gc 0 x.toInt64) 1 y.toInt64) (upd (upd (upd gm 0 0) 0 (nI (0 + 1))) 0 (nI (1 + 1))) 2 a30 a27 a28 pk_us (Nat.le_of_ble_eq_true rfl)) zyX8_part mMX8_127 a30 zl8 rfl rfl (Nat.le_of_ble_eq_true rfl) ⟨Nat.le_of_ble_eq_true rfl, Nat.le_of_ble_eq_true rfl⟩ ⟨Nat.le_of_ble_eq_true rfl, Nat.le_of_ble_eq_true rfl⟩ dX8_wide_80 (fun  f31 H locs h32 hz hS => ?_)
        obtain ⟨a33, a34, k35⟩ := h32
        refine lv_aload_n hx hb dX8_wide_83 rfl (lv_at hl 0 rfl) ?_
        have a36 : f31 o = some (.inr (8, [.int 0, .int (-1), .int 0, .ref wev, .int 0, .ref wnb, .int 0, .ref wki, .ref wmy, .ref wce, .ref wiw, .ref wli, .ref wha, .ref wwt, .int 0, .ref wfy, .ref wfk, .int 0, .ref wem, .ref wna, .ref wpl, .ref whs, .long 1, .int 0, .ref wk1, .ref wk2, .ref wk3])) := k35 _ _ a30 (z_ne a30 a27 rfl) (z_ne a30 a28 rfl)
        have a37 : f19 wki = some (.inl (cy 0, 60, .inl (upd gk 0 2))) := k23 _ _ a13 (z_ne a13 a18 rfl) nkm
        have a38 : f25 wki = some (.inl (cy 0, 60, .inl (upd gk 0 2))) := k29 _ _ a37 (z_ne a37 a21 rfl) nkm
        have a39 : f31 wki = some (.inl (cy 0, 60, .inl (upd gk 0 2))) := k35 _ _ a38 (z_ne a38 a27 rfl) nkm
        have a40 : f1 wli = some (.inl (cy 0, 60, .inl gl)) := k4 _ _ p4 (z_ne p4 p0 rfl)
        have a41 : f11 wli = some (.inl (cy 0, 60, .inl gl)) := k15 _ _ a40 (Ne.symm nkl) (Ne.symm nml)
        have a42 : f19 wli = some (.inl (cy 0, 60, .inl gl)) := k23 _ _ a41 (z_ne a41 a18 rfl) (Ne.symm nml)
        have a43 : f25 wli = some (.inl (cy 0, 60, .inl gl)) := k29 _ _ a42 (z_ne a42 a21 rfl) (Ne.symm nml)
        have a44 : f31 wli = some (.inl (cy 0, 60, .inl gl)) := k35 _ _ a43 (z_ne a43 a27 rfl) (Ne.symm nml)
        have a45 : f1 wha = some (.inl (cy 0, 60, .inl gh)) := k4 _ _ p5 (z_ne p5 p0 rfl)
        have a46 : f11 wha = some (.inl (cy 0, 60, .inl gh)) := k15 _ _ a45 (Ne.symm nkh) (Ne.symm nmh)
        have a47 : f19 wha = some (.inl (cy 0, 60, .inl gh)) := k23 _ _ a46 (z_ne a46 a18 rfl) (Ne.symm nmh)
        have a48 : f25 wha = some (.inl (cy 0, 60, .inl gh)) := k29 _ _ a47 (z_ne a47 a21 rfl) (Ne.symm nmh)
        have a49 : f31 wha = some (.inl (cy 0, 60, .inl gh)) := k35 _ _ a48 (z_ne a48 a27 rfl) (Ne.symm nmh)
        refine z_callVi (As := []) C hz hS hA hl (k_X8_made l D cy f31 o wev wnb wki wmy wce wiw wli wha wwt wfy wfk wem wna wpl whs wk1 wk2 wk3 0 (-1) 0 (upd gk 0 2) (upd (upd (upd (upd gm 0 0) 0 (nI (0 + 1))) 0 (nI (1 + 1))) 0 (nI (2 + 1))) (vp_updL (vp_updL (vp_updL gc 0 x.toInt64) 1 y.toInt64) 2 z.toInt64) gl gh 3 a36 a39 a34 a33 a44 a49 (by rw [pk_us]; decide) pk_us (Nat.le_of_ble_eq_true rfl) nlh nkl nkh nml nmh) zyX8_made mMX8_131 a36 zl8 rfl rfl (Nat.le_of_ble_eq_true rfl) ⟨Nat.le_of_ble_eq_true rfl, Nat.le_of_ble_eq_true rfl⟩ ⟨Nat.le_of_ble_eq_true rfl, Nat.le_of_ble_eq_true rfl⟩ dX8_wide_84 (fun r f50 H locs h51 hz hS => ?_)
        obtain ⟨rfl, k52⟩ := h51
        exact z_iret C hr rfl hz hS (by simp [c5, c6, c7, c8]) (Nat.le_of_ble_eq_true rfl) (Nat.le_of_ble_eq_true rfl) dX8_wide_87
      · refine lv_aload_n hx hb dX8_wide_51 rfl (lv_at hl 0 rfl) ?_
        refine lv_bipush (v := 7) hx hb dX8_wide_52 (by decide) ?_
        refine lv_iconst (v := 2) hx hb dX8_wide_54 (by decide) ?_
        refine lv_iconst (v := 2) hx hb dX8_wide_55 (by decide) ?_
        have a53 : f1 wev = some (.inl (cy 0, 8, .inl g)) := k4 _ _ p6 (z_ne p6 p0 rfl)
        refine z_callVi (As := [.int 7, .int 2, .int 2]) C hz hS hA hl (k_X8_fails l D cy f1 o wev wnb wki wmy wce wiw wli wha wwt wfy wfk wem wna wpl whs wk1 wk2 wk3 7 2 2 0 (-1) 0 g 7 a3 a53 (by decide) (Nat.le_of_ble_eq_true rfl)) zyX8_fails mMX8_135 a3 zl8 rfl rfl (Nat.le_of_ble_eq_true rfl) ⟨Nat.le_of_ble_eq_true rfl, Nat.le_of_ble_eq_true rfl⟩ ⟨Nat.le_of_ble_eq_true rfl, Nat.le_of_ble_eq_true rfl⟩ dX8_wide_56 (fun r f54 H locs h55 hz hS => ?_)
        obtain ⟨rfl, k56⟩ := h55
        exact z_iret C hr rfl hz hS (by simp [c5, c6, c7, c8]) (Nat.le_of_ble_eq_true rfl) (Nat.le_of_ble_eq_true rfl) dX8_wide_59
    · refine lv_aload_n hx hb dX8_wide_34 rfl (lv_at hl 0 rfl) ?_
      refine lv_bipush (v := 6) hx hb dX8_wide_35 (by decide) ?_
      refine lv_iconst (v := 2) hx hb dX8_wide_37 (by decide) ?_
      refine lv_iconst (v := 0) hx hb dX8_wide_38 (by decide) ?_
      have a57 : f1 wev = some (.inl (cy 0, 8, .inl g)) := k4 _ _ p6 (z_ne p6 p0 rfl)
      refine z_callVi (As := [.int 6, .int 2, .int 0]) C hz hS hA hl (k_X8_fails l D cy f1 o wev wnb wki wmy wce wiw wli wha wwt wfy wfk wem wna wpl whs wk1 wk2 wk3 6 2 0 0 (-1) 0 g 6 a3 a57 (by decide) (Nat.le_of_ble_eq_true rfl)) zyX8_fails mMX8_135 a3 zl8 rfl rfl (Nat.le_of_ble_eq_true rfl) ⟨Nat.le_of_ble_eq_true rfl, Nat.le_of_ble_eq_true rfl⟩ ⟨Nat.le_of_ble_eq_true rfl, Nat.le_of_ble_eq_true rfl⟩ dX8_wide_39 (fun r f58 H locs h59 hz hS => ?_)
      obtain ⟨rfl, k60⟩ := h59
      exact z_iret C hr rfl hz hS (by simp [c5, c6, c7]) (Nat.le_of_ble_eq_true rfl) (Nat.le_of_ble_eq_true rfl) dX8_wide_42
  · refine lv_aload_n hx hb dX8_wide_21 rfl (lv_at hl 0 rfl) ?_
    refine lv_bipush (v := 7) hx hb dX8_wide_22 (by decide) ?_
    refine lv_iconst (v := 1) hx hb dX8_wide_24 (by decide) ?_
    refine lv_iconst (v := 1) hx hb dX8_wide_25 (by decide) ?_
    have a61 : f1 wev = some (.inl (cy 0, 8, .inl g)) := k4 _ _ p6 (z_ne p6 p0 rfl)
    refine z_callVi (As := [.int 7, .int 1, .int 1]) C hz hS hA hl (k_X8_fails l D cy f1 o wev wnb wki wmy wce wiw wli wha wwt wfy wfk wem wna wpl whs wk1 wk2 wk3 7 1 1 0 (-1) 0 g 7 a3 a61 (by decide) (Nat.le_of_ble_eq_true rfl)) zyX8_fails mMX8_135 a3 zl8 rfl rfl (Nat.le_of_ble_eq_true rfl) ⟨Nat.le_of_ble_eq_true rfl, Nat.le_of_ble_eq_true rfl⟩ ⟨Nat.le_of_ble_eq_true rfl, Nat.le_of_ble_eq_true rfl⟩ dX8_wide_26 (fun r f62 H locs h63 hz hS => ?_)
    obtain ⟨rfl, k64⟩ := h63
    exact z_iret C hr rfl hz hS (by simp [c5, c6]) (Nat.le_of_ble_eq_true rfl) (Nat.le_of_ble_eq_true rfl) dX8_wide_29
abbrev rmX8_share : Room := { frames := 3, cells := 0, slots := 0, locals := 67 }
set_option maxHeartbeats 4000000 in
set_option maxRecDepth 100000 in
theorem k_X8_share (l : Launch) (D : va_G) (cy : Nat → ClassId) (f : zM) (o : Nat) (wev : Nat) (wnb : Nat) (wki : Nat) (wmy : Nat) (wce : Nat) (wiw : Nat) (wli : Nat) (wha : Nat) (wwt : Nat) (wfy : Nat) (wfk : Nat) (wem : Nat) (wna : Nat) (wpl : Nat) (whs : Nat) (wk1 : Nat) (wk2 : Nat) (wk3 : Nat) (x : Int64) (y : Int64) (gk : Nat → Int32) (gm : Nat → Int32) (gc : Nat → Int64) (gl : Nat → Int32) (gh : Nat → Int32) (g : Nat → Int32) (p0 : f o = some (.inr (8, [.int 0, .int (-1), .int 0, .ref wev, .int 0, .ref wnb, .int 0, .ref wki, .ref wmy, .ref wce, .ref wiw, .ref wli, .ref wha, .ref wwt, .int 0, .ref wfy, .ref wfk, .int 0, .ref wem, .ref wna, .ref wpl, .ref whs, .long 1, .int 0, .ref wk1, .ref wk2, .ref wk3]))) (p1 : f wki = some (.inl (cy 0, 60, .inl gk))) (p2 : f wmy = some (.inl (cy 0, 60, .inl gm))) (p3 : f wce = some (.inl (cy 1, 960, .inr (.inl gc)))) (p4 : f wli = some (.inl (cy 0, 60, .inl gl))) (p5 : f wha = some (.inl (cy 0, 60, .inl gh))) (p6 : f wev = some (.inl (cy 0, 8, .inl g))) (nkm : wki ≠ wmy) (nlh : wli ≠ wha) (nkl : wki ≠ wli) (nkh : wki ≠ wha) (nml : wmy ≠ wli) (nmh : wmy ≠ wha) : zCi l D cy yX8_share cX8_share 5 (Option.some Jvm.ClassFile.FieldType.int) rmX8_share [.ref o, .long x, .long y] f (fun (r : Int32) (f1 : zM) => r = (if y = 0 then (-4) else 0)) := by
  intro sz
  refine z_body (by decide +kernel) (Nat.le_of_ble_eq_true rfl) ?_
  intro p e s m below meth c ls C hr hin hsz hz hl
  subst hsz
  have hx := C.1
  have hb := C.2.1
  have hA : ∀ q, s.heap.size ≤ q → zA f s.heap.size q := fun q h => Or.inr h
  have hS : va_S (zA f s.heap.size) s.heap s.heap [] := va_S.rf
  have hl : lv_has ls 5 [(0, .ref o), (1, .long x), (3, .long y)] := hl
  refine lv_aload_n hx hb dX8_share_0 rfl (lv_at hl 0 rfl) ?_
  refine z_callVv (As := []) C hz hS hA hl (k_X8_begin l D cy f o wev wnb wki wmy wce wiw wli wha wwt wfy wfk wem wna wpl whs wk1 wk2 wk3 0 (-1) 0 p0 ) zyX8_begin mMX8_116 p0 zl8 rfl rfl (Nat.le_of_ble_eq_true rfl) ⟨Nat.le_of_ble_eq_true rfl, Nat.le_of_ble_eq_true rfl⟩ ⟨Nat.le_of_ble_eq_true rfl, Nat.le_of_ble_eq_true rfl⟩ dX8_share_1 (fun  f1 H locs h2 hz hS => ?_)
  obtain ⟨a3, k4⟩ := h2
  refine lv_aload_n hx hb dX8_share_4 rfl (lv_at hl 0 rfl) ?_
  refine z_get (v := .int 0) C hz a3 zl8 mFX8_83 (by decide) rfl dX8_share_5 ?_
  refine lv_bipush (v := 60) hx hb dX8_share_8 (by decide) ?_
  refine lv_icmp_ne (tgt := 16) hx hb dX8_share_10 (by decide) (fun c5 => ?_) (fun c5 => ?_)
  rotate_left
  · exact absurd c5 (by decide)
  refine lv_lload_n hx hb dX8_share_16 rfl (lv_at hl 2 rfl) ?_
  refine lv_lconst (v := 0) hx hb dX8_share_17 (by decide) ?_
  refine W.lcmp hx hb dX8_share_18 ?_
  refine lv_if_ne (tgt := 31) hx hb dX8_share_19 (by decide) (fun c6 => ?_) (fun c6 => ?_)
  · refine lv_aload_n hx hb dX8_share_31 rfl (lv_at hl 0 rfl) ?_
    refine lv_iconst (v := 3) hx hb dX8_share_32 (by decide) ?_
    have a7 : f1 wki = some (.inl (cy 0, 60, .inl gk)) := k4 _ _ p1 (z_ne p1 p0 rfl)
    have a8 : f1 wmy = some (.inl (cy 0, 60, .inl gm)) := k4 _ _ p2 (z_ne p2 p0 rfl)
    refine z_callVv (As := [.int 3]) C hz hS hA hl (k_X8_start l D cy f1 o wev wnb wki wmy wce wiw wli wha wwt wfy wfk wem wna wpl whs wk1 wk2 wk3 3 0 (-1) 0 gk gm a3 a7 a8 nkm) zyX8_start mMX8_119 a3 zl8 rfl rfl (Nat.le_of_ble_eq_true rfl) ⟨Nat.le_of_ble_eq_true rfl, Nat.le_of_ble_eq_true rfl⟩ ⟨Nat.le_of_ble_eq_true rfl, Nat.le_of_ble_eq_true rfl⟩ dX8_share_33 (fun  f9 H locs h10 hz hS => ?_)
    obtain ⟨a11, a12, k13⟩ := h10
    refine lv_aload_n hx hb dX8_share_36 rfl (lv_at hl 0 rfl) ?_
    refine lv_lload_n hx hb dX8_share_37 rfl (lv_at hl 1 rfl) ?_
    have a14 : f9 o = some (.inr (8, [.int 0, .int (-1), .int 0, .ref wev, .int 0, .ref wnb, .int 0, .ref wki, .ref wmy, .ref wce, .ref wiw, .ref wli, .ref wha, .ref wwt, .int 0, .ref wfy, .ref wfk, .int 0, .ref wem, .ref wna, .ref wpl, .ref whs, .long 1, .int 0, .ref wk1, .ref wk2, .ref wk3])) := k13 _ _ a3 (z_ne a3 a7 rfl) (z_ne a3 a8 rfl)
    have a15 : f1 wce = some (.inl (cy 1, 960, .inr (.inl gc))) := k4 _ _ p3 (z_ne p3 p0 rfl)
    have a16 : f9 wce = some (.inl (cy 1, 960, .inr (.inl gc))) := k13 _ _ a15 (z_ne a15 a7 rfl) (z_ne a15 a8 rfl)
    refine z_callVv (As := [.long x]) C hz hS hA hl (k_X8_part l D cy f9 o wev wnb wki wmy wce wiw wli wha wwt wfy wfk wem wna wpl whs wk1 wk2 wk3 x 0 (-1) 0 gc (upd gm 0 0) 0 a14 a16 a12 pk_us (Nat.le_of_ble_eq_true rfl)) zyX8_part mMX8_127 a14 zl8 rfl rfl (Nat.le_of_ble_eq_true rfl) ⟨Nat.le_of_ble_eq_true rfl, Nat.le_of_ble_eq_true rfl⟩ ⟨Nat.le_of_ble_eq_true rfl, Nat.le_of_ble_eq_true rfl⟩ dX8_share_38 (fun  f17 H locs h18 hz hS => ?_)
    obtain ⟨a19, a20, k21⟩ := h18
    refine lv_aload_n hx hb dX8_share_41 rfl (lv_at hl 0 rfl) ?_
    refine lv_lload_n hx hb dX8_share_42 rfl (lv_at hl 2 rfl) ?_
    have a22 : f17 o = some (.inr (8, [.int 0, .int (-1), .int 0, .ref wev, .int 0, .ref wnb, .int 0, .ref wki, .ref wmy, .ref wce, .ref wiw, .ref wli, .ref wha, .ref wwt, .int 0, .ref wfy, .ref wfk, .int 0, .ref wem, .ref wna, .ref wpl, .ref whs, .long 1, .int 0, .ref wk1, .ref wk2, .ref wk3])) := k21 _ _ a14 (z_ne a14 a16 rfl) (z_ne a14 a12 rfl)
    refine z_callVv (As := [.long y]) C hz hS hA hl (k_X8_part l D cy f17 o wev wnb wki wmy wce wiw wli wha wwt wfy wfk wem wna wpl whs wk1 wk2 wk3 y 0 (-1) 0 (vp_updL gc 0 x) (upd (upd gm 0 0) 0 (nI (0 + 1))) 1 a22 a19 a20 pk_us (Nat.le_of_ble_eq_true rfl)) zyX8_part mMX8_127 a22 zl8 rfl rfl (Nat.le_of_ble_eq_true rfl) ⟨Nat.le_of_ble_eq_true rfl, Nat.le_of_ble_eq_true rfl⟩ ⟨Nat.le_of_ble_eq_true rfl, Nat.le_of_ble_eq_true rfl⟩ dX8_share_43 (fun  f23 H locs h24 hz hS => ?_)
    obtain ⟨a25, a26, k27⟩ := h24
    refine lv_aload_n hx hb dX8_share_46 rfl (lv_at hl 0 rfl) ?_
    refine lv_lload_n hx hb dX8_share_47 rfl (lv_at hl 1 rfl) ?_
    refine lv_lload_n hx hb dX8_share_48 rfl (lv_at hl 2 rfl) ?_
    refine lv_ldiv hx hb dX8_share_49 (fun h => c6 ((lg_cmp_eq y 0).mpr h)) ?_
    have a28 : f23 o = some (.inr (8, [.int 0, .int (-1), .int 0, .ref wev, .int 0, .ref wnb, .int 0, .ref wki, .ref wmy, .ref wce, .ref wiw, .ref wli, .ref wha, .ref wwt, .int 0, .ref wfy, .ref wfk, .int 0, .ref wem, .ref wna, .ref wpl, .ref whs, .long 1, .int 0, .ref wk1, .ref wk2, .ref wk3])) := k27 _ _ a22 (z_ne a22 a19 rfl) (z_ne a22 a20 rfl)
    refine z_callVv (As := [.long (x / y)]) C hz hS hA hl (k_X8_part l D cy f23 o wev wnb wki wmy wce wiw wli wha wwt wfy wfk wem wna wpl whs wk1 wk2 wk3 (x / y) 0 (-1) 0 (vp_updL (vp_updL gc 0 x) 1 y) (upd (upd (upd gm 0 0) 0 (nI (0 + 1))) 0 (nI (1 + 1))) 2 a28 a25 a26 pk_us (Nat.le_of_ble_eq_true rfl)) zyX8_part mMX8_127 a28 zl8 rfl rfl (Nat.le_of_ble_eq_true rfl) ⟨Nat.le_of_ble_eq_true rfl, Nat.le_of_ble_eq_true rfl⟩ ⟨Nat.le_of_ble_eq_true rfl, Nat.le_of_ble_eq_true rfl⟩ dX8_share_50 (fun  f29 H locs h30 hz hS => ?_)
    obtain ⟨a31, a32, k33⟩ := h30
    refine lv_aload_n hx hb dX8_share_53 rfl (lv_at hl 0 rfl) ?_
    have a34 : f29 o = some (.inr (8, [.int 0, .int (-1), .int 0, .ref wev, .int 0, .ref wnb, .int 0, .ref wki, .ref wmy, .ref wce, .ref wiw, .ref wli, .ref wha, .ref wwt, .int 0, .ref wfy, .ref wfk, .int 0, .ref wem, .ref wna, .ref wpl, .ref whs, .long 1, .int 0, .ref wk1, .ref wk2, .ref wk3])) := k33 _ _ a28 (z_ne a28 a25 rfl) (z_ne a28 a26 rfl)
    have a35 : f17 wki = some (.inl (cy 0, 60, .inl (upd gk 0 3))) := k21 _ _ a11 (z_ne a11 a16 rfl) nkm
    have a36 : f23 wki = some (.inl (cy 0, 60, .inl (upd gk 0 3))) := k27 _ _ a35 (z_ne a35 a19 rfl) nkm
    have a37 : f29 wki = some (.inl (cy 0, 60, .inl (upd gk 0 3))) := k33 _ _ a36 (z_ne a36 a25 rfl) nkm
    have a38 : f1 wli = some (.inl (cy 0, 60, .inl gl)) := k4 _ _ p4 (z_ne p4 p0 rfl)
    have a39 : f9 wli = some (.inl (cy 0, 60, .inl gl)) := k13 _ _ a38 (Ne.symm nkl) (Ne.symm nml)
    have a40 : f17 wli = some (.inl (cy 0, 60, .inl gl)) := k21 _ _ a39 (z_ne a39 a16 rfl) (Ne.symm nml)
    have a41 : f23 wli = some (.inl (cy 0, 60, .inl gl)) := k27 _ _ a40 (z_ne a40 a19 rfl) (Ne.symm nml)
    have a42 : f29 wli = some (.inl (cy 0, 60, .inl gl)) := k33 _ _ a41 (z_ne a41 a25 rfl) (Ne.symm nml)
    have a43 : f1 wha = some (.inl (cy 0, 60, .inl gh)) := k4 _ _ p5 (z_ne p5 p0 rfl)
    have a44 : f9 wha = some (.inl (cy 0, 60, .inl gh)) := k13 _ _ a43 (Ne.symm nkh) (Ne.symm nmh)
    have a45 : f17 wha = some (.inl (cy 0, 60, .inl gh)) := k21 _ _ a44 (z_ne a44 a16 rfl) (Ne.symm nmh)
    have a46 : f23 wha = some (.inl (cy 0, 60, .inl gh)) := k27 _ _ a45 (z_ne a45 a19 rfl) (Ne.symm nmh)
    have a47 : f29 wha = some (.inl (cy 0, 60, .inl gh)) := k33 _ _ a46 (z_ne a46 a25 rfl) (Ne.symm nmh)
    refine z_callVi (As := []) C hz hS hA hl (k_X8_made l D cy f29 o wev wnb wki wmy wce wiw wli wha wwt wfy wfk wem wna wpl whs wk1 wk2 wk3 0 (-1) 0 (upd gk 0 3) (upd (upd (upd (upd gm 0 0) 0 (nI (0 + 1))) 0 (nI (1 + 1))) 0 (nI (2 + 1))) (vp_updL (vp_updL (vp_updL gc 0 x) 1 y) 2 (x / y)) gl gh 3 a34 a37 a32 a31 a42 a47 (by rw [pk_us]; decide) pk_us (Nat.le_of_ble_eq_true rfl) nlh nkl nkh nml nmh) zyX8_made mMX8_131 a34 zl8 rfl rfl (Nat.le_of_ble_eq_true rfl) ⟨Nat.le_of_ble_eq_true rfl, Nat.le_of_ble_eq_true rfl⟩ ⟨Nat.le_of_ble_eq_true rfl, Nat.le_of_ble_eq_true rfl⟩ dX8_share_54 (fun r f48 H locs h49 hz hS => ?_)
    obtain ⟨rfl, k50⟩ := h49
    exact z_iret C hr rfl hz hS (by have hc := lg_cmp_eq y 0; simp [hc] at c6; simp [c6]) (Nat.le_of_ble_eq_true rfl) (Nat.le_of_ble_eq_true rfl) dX8_share_57
  · refine lv_aload_n hx hb dX8_share_22 rfl (lv_at hl 0 rfl) ?_
    refine lv_bipush (v := 6) hx hb dX8_share_23 (by decide) ?_
    refine lv_iconst (v := 1) hx hb dX8_share_25 (by decide) ?_
    refine lv_iconst (v := 0) hx hb dX8_share_26 (by decide) ?_
    have a51 : f1 wev = some (.inl (cy 0, 8, .inl g)) := k4 _ _ p6 (z_ne p6 p0 rfl)
    refine z_callVi (As := [.int 6, .int 1, .int 0]) C hz hS hA hl (k_X8_fails l D cy f1 o wev wnb wki wmy wce wiw wli wha wwt wfy wfk wem wna wpl whs wk1 wk2 wk3 6 1 0 0 (-1) 0 g 6 a3 a51 (by decide) (Nat.le_of_ble_eq_true rfl)) zyX8_fails mMX8_135 a3 zl8 rfl rfl (Nat.le_of_ble_eq_true rfl) ⟨Nat.le_of_ble_eq_true rfl, Nat.le_of_ble_eq_true rfl⟩ ⟨Nat.le_of_ble_eq_true rfl, Nat.le_of_ble_eq_true rfl⟩ dX8_share_27 (fun r f52 H locs h53 hz hS => ?_)
    obtain ⟨rfl, k54⟩ := h53
    exact z_iret C hr rfl hz hS (by have hc := lg_cmp_eq y 0; simp [hc] at c6; simp [c6]) (Nat.le_of_ble_eq_true rfl) (Nat.le_of_ble_eq_true rfl) dX8_share_30
abbrev rmX8_pair : Room := { frames := 1, cells := 0, slots := 0, locals := 23 }
set_option maxHeartbeats 4000000 in
set_option maxRecDepth 100000 in
theorem k_X8_pair (l : Launch) (D : va_G) (cy : Nat → ClassId) (f : zM) (o : Nat) (wev : Nat) (wnb : Nat) (wki : Nat) (wmy : Nat) (wce : Nat) (wiw : Nat) (wli : Nat) (wha : Nat) (wwt : Nat) (wfy : Nat) (wfk : Nat) (wem : Nat) (wna : Nat) (wpl : Nat) (whs : Nat) (wk1 : Nat) (wk2 : Nat) (wk3 : Nat) (x : Int32) (y : Int32) (g : Nat → Int32) (p0 : f o = some (.inr (8, [.int 0, .int (-1), .int 0, .ref wev, .int 0, .ref wnb, .int 0, .ref wki, .ref wmy, .ref wce, .ref wiw, .ref wli, .ref wha, .ref wwt, .int 0, .ref wfy, .ref wfk, .int 0, .ref wem, .ref wna, .ref wpl, .ref whs, .long 1, .int 0, .ref wk1, .ref wk2, .ref wk3]))) (p1 : f wev = some (.inl (cy 0, 8, .inl g)))  : zCi l D cy yX8_pair cX8_pair 3 (Option.some Jvm.ClassFile.FieldType.int) rmX8_pair [.ref o, .int x, .int y] f (fun (r : Int32) (f1 : zM) => r = (if x = (-1) then (if y = (-1) then (-4) else (-2)) else (-2))) := by
  intro sz
  refine z_body (by decide +kernel) (Nat.le_of_ble_eq_true rfl) ?_
  intro p e s m below meth c ls C hr hin hsz hz hl
  subst hsz
  have hx := C.1
  have hb := C.2.1
  have hA : ∀ q, s.heap.size ≤ q → zA f s.heap.size q := fun q h => Or.inr h
  have hS : va_S (zA f s.heap.size) s.heap s.heap [] := va_S.rf
  have hl : lv_has ls 3 [(0, .ref o), (1, .int x), (2, .int y)] := hl
  refine lv_aload_n hx hb dX8_pair_0 rfl (lv_at hl 0 rfl) ?_
  refine z_callVv (As := []) C hz hS hA hl (k_X8_begin l D cy f o wev wnb wki wmy wce wiw wli wha wwt wfy wfk wem wna wpl whs wk1 wk2 wk3 0 (-1) 0 p0 ) zyX8_begin mMX8_116 p0 zl8 rfl rfl (Nat.le_of_ble_eq_true rfl) ⟨Nat.le_of_ble_eq_true rfl, Nat.le_of_ble_eq_true rfl⟩ ⟨Nat.le_of_ble_eq_true rfl, Nat.le_of_ble_eq_true rfl⟩ dX8_pair_1 (fun  f1 H locs h2 hz hS => ?_)
  obtain ⟨a3, k4⟩ := h2
  refine lv_iload_n hx hb dX8_pair_4 rfl (lv_at hl 1 rfl) ?_
  refine lv_iconst (v := (-1)) hx hb dX8_pair_5 (by decide) ?_
  refine lv_icmp_eq (tgt := 17) hx hb dX8_pair_6 (by decide) (fun c5 => ?_) (fun c5 => ?_)
  · refine lv_iload_n hx hb dX8_pair_17 rfl (lv_at hl 2 rfl) ?_
    refine lv_iconst (v := (-1)) hx hb dX8_pair_18 (by decide) ?_
    refine lv_icmp_eq (tgt := 33) hx hb dX8_pair_19 (by decide) (fun c6 => ?_) (fun c6 => ?_)
    · refine lv_aload_n hx hb dX8_pair_33 rfl (lv_at hl 0 rfl) ?_
      refine z_get (v := .int 0) C hz a3 zl8 mFX8_83 (by decide) rfl dX8_pair_34 ?_
      refine lv_bipush (v := 60) hx hb dX8_pair_37 (by decide) ?_
      refine lv_icmp_ne (tgt := 45) hx hb dX8_pair_39 (by decide) (fun c7 => ?_) (fun c7 => ?_)
      rotate_left
      · exact absurd c7 (by decide)
      refine lv_iload_n hx hb dX8_pair_45 rfl (lv_at hl 1 rfl) ?_
      refine lv_iconst (v := (-1)) hx hb dX8_pair_46 (by decide) ?_
      refine lv_icmp_ne (tgt := 58) hx hb dX8_pair_47 (by decide) (fun c8 => ?_) (fun c8 => ?_)
      · exact absurd c5 c8
      refine lv_aload_n hx hb dX8_pair_50 rfl (lv_at hl 0 rfl) ?_
      refine lv_iconst (v := 1) hx hb dX8_pair_51 (by decide) ?_
      refine lv_iconst (v := 0) hx hb dX8_pair_52 (by decide) ?_
      refine lv_iconst (v := 0) hx hb dX8_pair_53 (by decide) ?_
      have a9 : f1 wev = some (.inl (cy 0, 8, .inl g)) := k4 _ _ p1 (z_ne p1 p0 rfl)
      refine z_callVi (As := [.int 1, .int 0, .int 0]) C hz hS hA hl (k_X8_fails l D cy f1 o wev wnb wki wmy wce wiw wli wha wwt wfy wfk wem wna wpl whs wk1 wk2 wk3 1 0 0 0 (-1) 0 g 1 a3 a9 (by decide) (Nat.le_of_ble_eq_true rfl)) zyX8_fails mMX8_135 a3 zl8 rfl rfl (Nat.le_of_ble_eq_true rfl) ⟨Nat.le_of_ble_eq_true rfl, Nat.le_of_ble_eq_true rfl⟩ ⟨Nat.le_of_ble_eq_true rfl, Nat.le_of_ble_eq_true rfl⟩ dX8_pair_54 (fun r f10 H locs h11 hz hS => ?_)
      obtain ⟨rfl, k12⟩ := h11
      exact z_iret C hr rfl hz hS (by simp [c5, c6, c7, c8]) (Nat.le_of_ble_eq_true rfl) (Nat.le_of_ble_eq_true rfl) dX8_pair_57
    · refine lv_aload_n hx hb dX8_pair_22 rfl (lv_at hl 0 rfl) ?_
      refine lv_iload_n hx hb dX8_pair_23 rfl (lv_at hl 2 rfl) ?_
      refine z_callVi (As := [.int y]) C hz hS hA hl (k_X8_isFigure l D cy f1 o wev wnb wki wmy wce wiw wli wha wwt wfy wfk wem wna wpl whs wk1 wk2 wk3 y 0 (-1) 0 a3 ) zyX8_isFigure mMX8_139 a3 zl8 rfl rfl (Nat.le_of_ble_eq_true rfl) ⟨Nat.le_of_ble_eq_true rfl, Nat.le_of_ble_eq_true rfl⟩ ⟨Nat.le_of_ble_eq_true rfl, Nat.le_of_ble_eq_true rfl⟩ dX8_pair_24 (fun r f13 H locs h14 hz hS => ?_)
      obtain ⟨rfl, k15⟩ := h14
      refine lv_if_ne (tgt := 33) hx hb dX8_pair_27 (by decide) (fun c16 => ?_) (fun c16 => ?_)
      · exact absurd c16 (by decide)
      refine lv_bipush (v := (-2)) hx hb dX8_pair_30 (by decide) ?_
      exact z_iret C hr rfl hz hS (by simp [c5, c6, c16]) (Nat.le_of_ble_eq_true rfl) (Nat.le_of_ble_eq_true rfl) dX8_pair_32
  · refine lv_aload_n hx hb dX8_pair_9 rfl (lv_at hl 0 rfl) ?_
    refine lv_iload_n hx hb dX8_pair_10 rfl (lv_at hl 1 rfl) ?_
    refine z_callVi (As := [.int x]) C hz hS hA hl (k_X8_isFigure l D cy f1 o wev wnb wki wmy wce wiw wli wha wwt wfy wfk wem wna wpl whs wk1 wk2 wk3 x 0 (-1) 0 a3 ) zyX8_isFigure mMX8_139 a3 zl8 rfl rfl (Nat.le_of_ble_eq_true rfl) ⟨Nat.le_of_ble_eq_true rfl, Nat.le_of_ble_eq_true rfl⟩ ⟨Nat.le_of_ble_eq_true rfl, Nat.le_of_ble_eq_true rfl⟩ dX8_pair_11 (fun r f17 H locs h18 hz hS => ?_)
    obtain ⟨rfl, k19⟩ := h18
    refine lv_if_eq (tgt := 30) hx hb dX8_pair_14 (by decide) (fun c20 => ?_) (fun c20 => ?_)
    rotate_left
    · exact absurd c20 (by decide)
    refine lv_bipush (v := (-2)) hx hb dX8_pair_30 (by decide) ?_
    exact z_iret C hr rfl hz hS (by simp [c5, c20]) (Nat.le_of_ble_eq_true rfl) (Nat.le_of_ble_eq_true rfl) dX8_pair_32
