abbrev rmX8_begin : Room := { frames := 0, cells := 0, slots := 0, locals := 0 }
set_option maxHeartbeats 4000000 in
set_option maxRecDepth 100000 in
theorem k_X8_begin (l : Launch) (D : va_G) (cy : Nat → ClassId) (f : zM) (o : Nat) (wev : Nat) (wnb : Nat) (wki : Nat) (wmy : Nat) (wce : Nat) (wiw : Nat) (wli : Nat) (wha : Nat) (wwt : Nat) (wfy : Nat) (wfk : Nat) (wem : Nat) (wna : Nat) (wpl : Nat) (whs : Nat) (wk1 : Nat) (wk2 : Nat) (wk3 : Nat) (u1 : Int32) (u2 : Int32) (u3 : Int32) (nl : Nat) (nn : Nat) (nf : Nat) (nc : Nat) (lk : Int64) (ks : Nat) (p0 : f o = some (.inr (8, [.int u1, .int u2, .int u3, .ref wev, .int (nI nl), .ref wnb, .int (nI nn), .ref wki, .ref wmy, .ref wce, .ref wiw, .ref wli, .ref wha, .ref wwt, .int (nI nf), .ref wfy, .ref wfk, .int (nI nc), .ref wem, .ref wna, .ref wpl, .ref whs, .long lk, .int (nI ks), .ref wk1, .ref wk2, .ref wk3])))   : zCv l D cy yX8_begin cX8_begin 1 none rmX8_begin [.ref o] f (fun (f1 : zM) => f1 o = some (.inr (8, [.int 0, .int (-1), .int 0, .ref wev, .int (nI nl), .ref wnb, .int (nI nn), .ref wki, .ref wmy, .ref wce, .ref wiw, .ref wli, .ref wha, .ref wwt, .int (nI nf), .ref wfy, .ref wfk, .int (nI nc), .ref wem, .ref wna, .ref wpl, .ref whs, .long lk, .int (nI ks), .ref wk1, .ref wk2, .ref wk3])) ∧ (∀ (b : Nat) (e : va_E), f b = some e → b ≠ o → f1 b = some e)) := by
  intro sz
  refine z_body (by decide +kernel) (Nat.le_of_ble_eq_true rfl) ?_
  intro p e s m below meth c ls C hr hin hsz hz hl
  subst hsz
  have hx := C.1
  have hb := C.2.1
  have hA : ∀ q, s.heap.size ≤ q → zA f s.heap.size q := fun q h => Or.inr h
  have hS : va_S (zA f s.heap.size) s.heap s.heap [] := va_S.rf
  have hl : lv_has ls 1 [(0, .ref o)] := hl
  refine lv_aload_n hx hb dX8_begin_0 rfl (lv_at hl 0 rfl) ?_
  refine lv_iconst (v := 0) hx hb dX8_begin_1 (by decide) ?_
  refine z_put (fs' := [.int 0, .int u2, .int u3, .ref wev, .int (nI nl), .ref wnb, .int (nI nn), .ref wki, .ref wmy, .ref wce, .ref wiw, .ref wli, .ref wha, .ref wwt, .int (nI nf), .ref wfy, .ref wfk, .int (nI nc), .ref wem, .ref wna, .ref wpl, .ref whs, .long lk, .int (nI ks), .ref wk1, .ref wk2, .ref wk3]) C hz hS p0 zl8 mFX8_74 (by decide) rfl rfl rfl (Nat.le_of_ble_eq_true rfl) rfl dX8_begin_2 (fun H locs f1 a2 k3 hz hS => ?_)
  refine lv_aload_n hx hb dX8_begin_5 rfl (lv_at hl 0 rfl) ?_
  refine lv_iconst (v := (-1)) hx hb dX8_begin_6 (by decide) ?_
  refine z_put (fs' := [.int 0, .int (-1), .int u3, .ref wev, .int (nI nl), .ref wnb, .int (nI nn), .ref wki, .ref wmy, .ref wce, .ref wiw, .ref wli, .ref wha, .ref wwt, .int (nI nf), .ref wfy, .ref wfk, .int (nI nc), .ref wem, .ref wna, .ref wpl, .ref whs, .long lk, .int (nI ks), .ref wk1, .ref wk2, .ref wk3]) C hz hS a2 zl8 mFX8_9 (by decide) rfl rfl rfl (Nat.le_of_ble_eq_true rfl) rfl dX8_begin_7 (fun H locs f4 a5 k6 hz hS => ?_)
  refine lv_aload_n hx hb dX8_begin_10 rfl (lv_at hl 0 rfl) ?_
  refine lv_iconst (v := 0) hx hb dX8_begin_11 (by decide) ?_
  refine z_put (fs' := [.int 0, .int (-1), .int 0, .ref wev, .int (nI nl), .ref wnb, .int (nI nn), .ref wki, .ref wmy, .ref wce, .ref wiw, .ref wli, .ref wha, .ref wwt, .int (nI nf), .ref wfy, .ref wfk, .int (nI nc), .ref wem, .ref wna, .ref wpl, .ref whs, .long lk, .int (nI ks), .ref wk1, .ref wk2, .ref wk3]) C hz hS a5 zl8 mFX8_77 (by decide) rfl rfl rfl (Nat.le_of_ble_eq_true rfl) rfl dX8_begin_12 (fun H locs f7 a8 k9 hz hS => ?_)
  exact z_vret C hr hz hS ⟨a8, (by
        intro b e hb n0
        have hb0 : f1 b = some e := (k3 b n0).trans hb
        have hb1 : f4 b = some e := (k6 b n0).trans hb0
        have hb2 : f7 b = some e := (k9 b n0).trans hb1
        exact hb2)⟩ (Nat.le_of_ble_eq_true rfl) (Nat.le_of_ble_eq_true rfl) dX8_begin_15
abbrev rmX8_fails : Room := { frames := 0, cells := 0, slots := 0, locals := 0 }
set_option maxHeartbeats 4000000 in
set_option maxRecDepth 100000 in
theorem k_X8_fails (l : Launch) (D : va_G) (cy : Nat → ClassId) (f : zM) (o : Nat) (wev : Nat) (wnb : Nat) (wki : Nat) (wmy : Nat) (wce : Nat) (wiw : Nat) (wli : Nat) (wha : Nat) (wwt : Nat) (wfy : Nat) (wfk : Nat) (wem : Nat) (wna : Nat) (wpl : Nat) (whs : Nat) (wk1 : Nat) (wk2 : Nat) (wk3 : Nat) (u1 : Int32) (u2 : Int32) (u3 : Int32) (nl : Nat) (nn : Nat) (nf : Nat) (nc : Nat) (lk : Int64) (ks : Nat) (x : Int32) (y : Int32) (z : Int32) (gv : Nat → Int32) (k : Nat) (p0 : f o = some (.inr (8, [.int u1, .int u2, .int u3, .ref wev, .int (nI nl), .ref wnb, .int (nI nn), .ref wki, .ref wmy, .ref wce, .ref wiw, .ref wli, .ref wha, .ref wwt, .int (nI nf), .ref wfy, .ref wfk, .int (nI nc), .ref wem, .ref wna, .ref wpl, .ref whs, .long lk, .int (nI ks), .ref wk1, .ref wk2, .ref wk3]))) (p1 : f wev = some (.inl (cy 0, 8, .inl gv)))  (hk : x = nI k) (hk8 : k < 8) : zCi l D cy yX8_fails cX8_fails 4 (Option.some Jvm.ClassFile.FieldType.int) rmX8_fails [.ref o, .int x, .int y, .int z] f (fun (r : Int32) (f1 : zM) => r = (-4) ∧ f1 o = some (.inr (8, [.int x, .int y, .int z, .ref wev, .int (nI nl), .ref wnb, .int (nI nn), .ref wki, .ref wmy, .ref wce, .ref wiw, .ref wli, .ref wha, .ref wwt, .int (nI nf), .ref wfy, .ref wfk, .int (nI nc), .ref wem, .ref wna, .ref wpl, .ref whs, .long lk, .int (nI ks), .ref wk1, .ref wk2, .ref wk3])) ∧ f1 wev = some (.inl (cy 0, 8, .inl (upd gv k (gv k + 1)))) ∧ (∀ (b : Nat) (e : va_E), f b = some e → b ≠ o → b ≠ wev → f1 b = some e)) := by
  intro sz
  refine z_body (by decide +kernel) (Nat.le_of_ble_eq_true rfl) ?_
  intro p e s m below meth c ls C hr hin hsz hz hl
  subst hsz
  have hx := C.1
  have hb := C.2.1
  have hA : ∀ q, s.heap.size ≤ q → zA f s.heap.size q := fun q h => Or.inr h
  have hS : va_S (zA f s.heap.size) s.heap s.heap [] := va_S.rf
  have hl : lv_has ls 4 [(0, .ref o), (1, .int x), (2, .int y), (3, .int z)] := hl
  refine lv_aload_n hx hb dX8_fails_0 rfl (lv_at hl 0 rfl) ?_
  refine lv_iload_n hx hb dX8_fails_1 rfl (lv_at hl 1 rfl) ?_
  refine z_put (fs' := [.int x, .int u2, .int u3, .ref wev, .int (nI nl), .ref wnb, .int (nI nn), .ref wki, .ref wmy, .ref wce, .ref wiw, .ref wli, .ref wha, .ref wwt, .int (nI nf), .ref wfy, .ref wfk, .int (nI nc), .ref wem, .ref wna, .ref wpl, .ref whs, .long lk, .int (nI ks), .ref wk1, .ref wk2, .ref wk3]) C hz hS p0 zl8 mFX8_74 (by decide) rfl rfl rfl (Nat.le_of_ble_eq_true rfl) rfl dX8_fails_2 (fun H locs f1 a2 k3 hz hS => ?_)
  refine lv_aload_n hx hb dX8_fails_5 rfl (lv_at hl 0 rfl) ?_
  refine lv_iload_n hx hb dX8_fails_6 rfl (lv_at hl 2 rfl) ?_
  refine z_put (fs' := [.int x, .int y, .int u3, .ref wev, .int (nI nl), .ref wnb, .int (nI nn), .ref wki, .ref wmy, .ref wce, .ref wiw, .ref wli, .ref wha, .ref wwt, .int (nI nf), .ref wfy, .ref wfk, .int (nI nc), .ref wem, .ref wna, .ref wpl, .ref whs, .long lk, .int (nI ks), .ref wk1, .ref wk2, .ref wk3]) C hz hS a2 zl8 mFX8_9 (by decide) rfl rfl rfl (Nat.le_of_ble_eq_true rfl) rfl dX8_fails_7 (fun H locs f4 a5 k6 hz hS => ?_)
  refine lv_aload_n hx hb dX8_fails_10 rfl (lv_at hl 0 rfl) ?_
  refine lv_iload_n hx hb dX8_fails_11 rfl (lv_at hl 3 rfl) ?_
  refine z_put (fs' := [.int x, .int y, .int z, .ref wev, .int (nI nl), .ref wnb, .int (nI nn), .ref wki, .ref wmy, .ref wce, .ref wiw, .ref wli, .ref wha, .ref wwt, .int (nI nf), .ref wfy, .ref wfk, .int (nI nc), .ref wem, .ref wna, .ref wpl, .ref whs, .long lk, .int (nI ks), .ref wk1, .ref wk2, .ref wk3]) C hz hS a5 zl8 mFX8_77 (by decide) rfl rfl rfl (Nat.le_of_ble_eq_true rfl) rfl dX8_fails_12 (fun H locs f7 a8 k9 hz hS => ?_)
  refine lv_aload_n hx hb dX8_fails_15 rfl (lv_at hl 0 rfl) ?_
  refine z_get (v := .ref wev) C hz a8 zl8 mFX8_13 (by decide) rfl dX8_fails_16 ?_
  refine lv_iload_n hx hb dX8_fails_19 rfl (lv_at hl 1 rfl) ?_
  refine lv_dup2_11 hx hb dX8_fails_20 rfl rfl ?_
  have a10 : f1 wev = some (.inl (cy 0, 8, .inl gv)) := (k3 _ (z_ne p1 p0 rfl)).trans p1
  have a11 : f4 wev = some (.inl (cy 0, 8, .inl gv)) := (k6 _ (z_ne a10 a2 rfl)).trans a10
  have a12 : f7 wev = some (.inl (cy 0, 8, .inl gv)) := (k9 _ (z_ne a11 a5 rfl)).trans a11
  refine z_iald k C hz a12 hk hk8 (by omega) dX8_fails_21 ?_
  refine lv_iconst (v := 1) hx hb dX8_fails_22 (by decide) ?_
  refine lv_iadd hx hb dX8_fails_23 ?_
  refine z_iast k C hz hS a12 hk hk8 (by omega) dX8_fails_24 (fun H locs f13 a14 k15 hz hS => ?_)
  refine lv_bipush (v := (-4)) hx hb dX8_fails_25 (by decide) ?_
  have a16 : f13 o = some (.inr (8, [.int x, .int y, .int z, .ref wev, .int (nI nl), .ref wnb, .int (nI nn), .ref wki, .ref wmy, .ref wce, .ref wiw, .ref wli, .ref wha, .ref wwt, .int (nI nf), .ref wfy, .ref wfk, .int (nI nc), .ref wem, .ref wna, .ref wpl, .ref whs, .long lk, .int (nI ks), .ref wk1, .ref wk2, .ref wk3])) := (k15 _ (z_ne a8 a12 rfl)).trans a8
  exact z_iret C hr rfl hz hS ⟨rfl, a16, a14, (by
        intro b e hb n0 n1
        have hb0 : f1 b = some e := (k3 b n0).trans hb
        have hb1 : f4 b = some e := (k6 b n0).trans hb0
        have hb2 : f7 b = some e := (k9 b n0).trans hb1
        have hb3 : f13 b = some e := (k15 b n1).trans hb2
        exact hb3)⟩ (Nat.le_of_ble_eq_true rfl) (Nat.le_of_ble_eq_true rfl) dX8_fails_27
abbrev rmX8_isFigure_A : Room := { frames := 0, cells := 0, slots := 0, locals := 0 }
set_option maxHeartbeats 4000000 in
set_option maxRecDepth 100000 in
theorem k_X8_isFigure_A (l : Launch) (D : va_G) (cy : Nat → ClassId) (f : zM) (o : Nat) (wev : Nat) (wnb : Nat) (wki : Nat) (wmy : Nat) (wce : Nat) (wiw : Nat) (wli : Nat) (wha : Nat) (wwt : Nat) (wfy : Nat) (wfk : Nat) (wem : Nat) (wna : Nat) (wpl : Nat) (whs : Nat) (wk1 : Nat) (wk2 : Nat) (wk3 : Nat) (u1 : Int32) (u2 : Int32) (u3 : Int32) (nl : Nat) (nn : Nat) (nf : Nat) (nc : Nat) (lk : Int64) (ks : Nat) (x : Int32) (j : Nat) (p0 : f o = some (.inr (8, [.int u1, .int u2, .int u3, .ref wev, .int (nI nl), .ref wnb, .int (nI nn), .ref wki, .ref wmy, .ref wce, .ref wiw, .ref wli, .ref wha, .ref wwt, .int (nI nf), .ref wfy, .ref wfk, .int (nI nc), .ref wem, .ref wna, .ref wpl, .ref whs, .long lk, .int (nI ks), .ref wk1, .ref wk2, .ref wk3])))  (hn60 : nn ≤ 60) (hxj : x = nI j) (hj : j < nn) : zCi l D cy yX8_isFigure cX8_isFigure 2 (Option.some Jvm.ClassFile.FieldType.boolean) rmX8_isFigure_A [.ref o, .int x] f (fun (r : Int32) (f1 : zM) => r = 1 ∧ (∀ (b : Nat) (e : va_E), f b = some e → f1 b = some e)) := by
  intro sz
  refine z_body (by decide +kernel) (Nat.le_of_ble_eq_true rfl) ?_
  intro p e s m below meth c ls C hr hin hsz hz hl
  subst hsz
  have hx := C.1
  have hb := C.2.1
  have hA : ∀ q, s.heap.size ≤ q → zA f s.heap.size q := fun q h => Or.inr h
  have hS : va_S (zA f s.heap.size) s.heap s.heap [] := va_S.rf
  have hl : lv_has ls 2 [(0, .ref o), (1, .int x)] := hl
  refine lv_iload_n hx hb dX8_isFigure_0 rfl (lv_at hl 1 rfl) ?_
  refine lv_if_lt (tgt := 16) hx hb dX8_isFigure_1 (by decide) (fun c1 => ?_) (fun c1 => ?_)
  · exact absurd c1 (by rw [hxj]; exact nI_pos (by omega))
  refine lv_iload_n hx hb dX8_isFigure_4 rfl (lv_at hl 1 rfl) ?_
  refine lv_aload_n hx hb dX8_isFigure_5 rfl (lv_at hl 0 rfl) ?_
  refine z_get (v := .int (nI nn)) C hz p0 zl8 mFX8_83 (by decide) rfl dX8_isFigure_6 ?_
  refine lv_icmp_ge (tgt := 16) hx hb dX8_isFigure_9 (by decide) (fun c2 => ?_) (fun c2 => ?_)
  · exact absurd ((nI_leI (a := nn) (b := j) (by omega) (by omega)).mp (by rw [← hxj]; exact c2)) (by omega)
  refine lv_iconst (v := 1) hx hb dX8_isFigure_12 (by decide) ?_
  refine lv_goto (tgt := 17) hx hb dX8_isFigure_13 (by decide) ?_
  exact z_iret C hr (by decide) hz hS ⟨rfl, (fun b e hb => hb)⟩ (Nat.le_of_ble_eq_true rfl) (Nat.le_of_ble_eq_true rfl) dX8_isFigure_17
abbrev rmX8_isFigure_B : Room := { frames := 0, cells := 0, slots := 0, locals := 0 }
set_option maxHeartbeats 4000000 in
set_option maxRecDepth 100000 in
theorem k_X8_isFigure_B (l : Launch) (D : va_G) (cy : Nat → ClassId) (f : zM) (o : Nat) (wev : Nat) (wnb : Nat) (wki : Nat) (wmy : Nat) (wce : Nat) (wiw : Nat) (wli : Nat) (wha : Nat) (wwt : Nat) (wfy : Nat) (wfk : Nat) (wem : Nat) (wna : Nat) (wpl : Nat) (whs : Nat) (wk1 : Nat) (wk2 : Nat) (wk3 : Nat) (u1 : Int32) (u2 : Int32) (u3 : Int32) (nl : Nat) (nn : Nat) (nf : Nat) (nc : Nat) (lk : Int64) (ks : Nat) (x : Int32) (p0 : f o = some (.inr (8, [.int u1, .int u2, .int u3, .ref wev, .int (nI nl), .ref wnb, .int (nI nn), .ref wki, .ref wmy, .ref wce, .ref wiw, .ref wli, .ref wha, .ref wwt, .int (nI nf), .ref wfy, .ref wfk, .int (nI nc), .ref wem, .ref wna, .ref wpl, .ref whs, .long lk, .int (nI ks), .ref wk1, .ref wk2, .ref wk3])))  (hn60 : nn ≤ 60) (hxn : ∀ j, j < nn → x ≠ nI j) : zCi l D cy yX8_isFigure cX8_isFigure 2 (Option.some Jvm.ClassFile.FieldType.boolean) rmX8_isFigure_B [.ref o, .int x] f (fun (r : Int32) (f1 : zM) => r = 0 ∧ (∀ (b : Nat) (e : va_E), f b = some e → f1 b = some e)) := by
  intro sz
  refine z_body (by decide +kernel) (Nat.le_of_ble_eq_true rfl) ?_
  intro p e s m below meth c ls C hr hin hsz hz hl
  subst hsz
  have hx := C.1
  have hb := C.2.1
  have hA : ∀ q, s.heap.size ≤ q → zA f s.heap.size q := fun q h => Or.inr h
  have hS : va_S (zA f s.heap.size) s.heap s.heap [] := va_S.rf
  have hl : lv_has ls 2 [(0, .ref o), (1, .int x)] := hl
  refine lv_iload_n hx hb dX8_isFigure_0 rfl (lv_at hl 1 rfl) ?_
  refine lv_if_lt (tgt := 16) hx hb dX8_isFigure_1 (by decide) (fun c1 => ?_) (fun c1 => ?_)
  · refine lv_iconst (v := 0) hx hb dX8_isFigure_16 (by decide) ?_
    exact z_iret C hr (by decide) hz hS ⟨rfl, (fun b e hb => hb)⟩ (Nat.le_of_ble_eq_true rfl) (Nat.le_of_ble_eq_true rfl) dX8_isFigure_17
  · refine lv_iload_n hx hb dX8_isFigure_4 rfl (lv_at hl 1 rfl) ?_
    refine lv_aload_n hx hb dX8_isFigure_5 rfl (lv_at hl 0 rfl) ?_
    refine z_get (v := .int (nI nn)) C hz p0 zl8 mFX8_83 (by decide) rfl dX8_isFigure_6 ?_
    refine lv_icmp_ge (tgt := 16) hx hb dX8_isFigure_9 (by decide) (fun c2 => ?_) (fun c2 => ?_)
    rotate_left
    · exact absurd (z_ixl c1 c2 (by omega)) (fun ⟨j9, h9, e9⟩ => hxn j9 h9 e9)
    refine lv_iconst (v := 0) hx hb dX8_isFigure_16 (by decide) ?_
    exact z_iret C hr (by decide) hz hS ⟨rfl, (fun b e hb => hb)⟩ (Nat.le_of_ble_eq_true rfl) (Nat.le_of_ble_eq_true rfl) dX8_isFigure_17
abbrev rmX8_cellOf : Room := { frames := 0, cells := 0, slots := 0, locals := 0 }
set_option maxHeartbeats 4000000 in
set_option maxRecDepth 100000 in
theorem k_X8_cellOf (l : Launch) (D : va_G) (cy : Nat → ClassId) (f : zM) (o : Nat) (wev : Nat) (wnb : Nat) (wki : Nat) (wmy : Nat) (wce : Nat) (wiw : Nat) (wli : Nat) (wha : Nat) (wwt : Nat) (wfy : Nat) (wfk : Nat) (wem : Nat) (wna : Nat) (wpl : Nat) (whs : Nat) (wk1 : Nat) (wk2 : Nat) (wk3 : Nat) (u1 : Int32) (u2 : Int32) (u3 : Int32) (nl : Nat) (nn : Nat) (nf : Nat) (nc : Nat) (lk : Int64) (ks : Nat) (gc : Nat → Int64) (j : Nat) (i : Nat) (p0 : f o = some (.inr (8, [.int u1, .int u2, .int u3, .ref wev, .int (nI nl), .ref wnb, .int (nI nn), .ref wki, .ref wmy, .ref wce, .ref wiw, .ref wli, .ref wha, .ref wwt, .int (nI nf), .ref wfy, .ref wfk, .int (nI nc), .ref wem, .ref wna, .ref wpl, .ref whs, .long lk, .int (nI ks), .ref wk1, .ref wk2, .ref wk3]))) (p1 : f wce = some (.inl (cy 1, 960, .inr (.inl gc))))  (hji : 16 * j + i < 960) : zCl l D cy yX8_cellOf cX8_cellOf 3 (Option.some Jvm.ClassFile.FieldType.long) rmX8_cellOf [.ref o, .int (nI j), .int (nI i)] f (fun (r : Int64) (f1 : zM) => r = (gc (16 * j + i)) ∧ (∀ (b : Nat) (e : va_E), f b = some e → f1 b = some e)) := by
  intro sz
  refine z_body (by decide +kernel) (Nat.le_of_ble_eq_true rfl) ?_
  intro p e s m below meth c ls C hr hin hsz hz hl
  subst hsz
  have hx := C.1
  have hb := C.2.1
  have hA : ∀ q, s.heap.size ≤ q → zA f s.heap.size q := fun q h => Or.inr h
  have hS : va_S (zA f s.heap.size) s.heap s.heap [] := va_S.rf
  have hl : lv_has ls 3 [(0, .ref o), (1, .int (nI j)), (2, .int (nI i))] := hl
  refine lv_aload_n hx hb dX8_cellOf_0 rfl (lv_at hl 0 rfl) ?_
  refine z_get (v := .ref wce) C hz p0 zl8 mFX8_26 (by decide) rfl dX8_cellOf_1 ?_
  refine lv_bipush (v := 16) hx hb dX8_cellOf_4 (by decide) ?_
  refine lv_iload_n hx hb dX8_cellOf_6 rfl (lv_at hl 1 rfl) ?_
  refine lv_imul hx hb dX8_cellOf_7 ?_
  refine lv_iload_n hx hb dX8_cellOf_8 rfl (lv_at hl 2 rfl) ?_
  refine lv_iadd hx hb dX8_cellOf_9 ?_
  refine z_lald (16 * j + i) C hz p1 (z_ce j i) hji (by omega) dX8_cellOf_10 ?_
  exact z_lret C hr hz hS ⟨rfl, (fun b e hb => hb)⟩ (Nat.le_of_ble_eq_true rfl) (Nat.le_of_ble_eq_true rfl) dX8_cellOf_11
abbrev rmX8_start : Room := { frames := 0, cells := 0, slots := 0, locals := 0 }
set_option maxHeartbeats 4000000 in
set_option maxRecDepth 100000 in
theorem k_X8_start (l : Launch) (D : va_G) (cy : Nat → ClassId) (f : zM) (o : Nat) (wev : Nat) (wnb : Nat) (wki : Nat) (wmy : Nat) (wce : Nat) (wiw : Nat) (wli : Nat) (wha : Nat) (wwt : Nat) (wfy : Nat) (wfk : Nat) (wem : Nat) (wna : Nat) (wpl : Nat) (whs : Nat) (wk1 : Nat) (wk2 : Nat) (wk3 : Nat) (u1 : Int32) (u2 : Int32) (u3 : Int32) (nl : Nat) (nn : Nat) (nf : Nat) (nc : Nat) (lk : Int64) (ks : Nat) (gk : Nat → Int32) (gm : Nat → Int32) (x : Int32) (p0 : f o = some (.inr (8, [.int u1, .int u2, .int u3, .ref wev, .int (nI nl), .ref wnb, .int (nI nn), .ref wki, .ref wmy, .ref wce, .ref wiw, .ref wli, .ref wha, .ref wwt, .int (nI nf), .ref wfy, .ref wfk, .int (nI nc), .ref wem, .ref wna, .ref wpl, .ref whs, .long lk, .int (nI ks), .ref wk1, .ref wk2, .ref wk3]))) (p1 : f wki = some (.inl (cy 0, 60, .inl gk))) (p2 : f wmy = some (.inl (cy 0, 60, .inl gm)))  (hn59 : nn < 60) (n_wki_wmy : wki ≠ wmy) : zCv l D cy yX8_start cX8_start 2 none rmX8_start [.ref o, .int x] f (fun (f1 : zM) => f1 wki = some (.inl (cy 0, 60, .inl (upd gk nn x))) ∧ f1 wmy = some (.inl (cy 0, 60, .inl (upd gm nn 0))) ∧ (∀ (b : Nat) (e : va_E), f b = some e → b ≠ wki → b ≠ wmy → f1 b = some e)) := by
  intro sz
  refine z_body (by decide +kernel) (Nat.le_of_ble_eq_true rfl) ?_
  intro p e s m below meth c ls C hr hin hsz hz hl
  subst hsz
  have hx := C.1
  have hb := C.2.1
  have hA : ∀ q, s.heap.size ≤ q → zA f s.heap.size q := fun q h => Or.inr h
  have hS : va_S (zA f s.heap.size) s.heap s.heap [] := va_S.rf
  have hl : lv_has ls 2 [(0, .ref o), (1, .int x)] := hl
  refine lv_aload_n hx hb dX8_start_0 rfl (lv_at hl 0 rfl) ?_
  refine z_get (v := .ref wki) C hz p0 zl8 mFX8_20 (by decide) rfl dX8_start_1 ?_
  refine lv_aload_n hx hb dX8_start_4 rfl (lv_at hl 0 rfl) ?_
  refine z_get (v := .int (nI nn)) C hz p0 zl8 mFX8_83 (by decide) rfl dX8_start_5 ?_
  refine lv_iload_n hx hb dX8_start_8 rfl (lv_at hl 1 rfl) ?_
  refine z_iast nn C hz hS p1 rfl hn59 (by omega) dX8_start_9 (fun H locs f1 a2 k3 hz hS => ?_)
  refine lv_aload_n hx hb dX8_start_10 rfl (lv_at hl 0 rfl) ?_
  have a4 : f1 o = some (.inr (8, [.int u1, .int u2, .int u3, .ref wev, .int (nI nl), .ref wnb, .int (nI nn), .ref wki, .ref wmy, .ref wce, .ref wiw, .ref wli, .ref wha, .ref wwt, .int (nI nf), .ref wfy, .ref wfk, .int (nI nc), .ref wem, .ref wna, .ref wpl, .ref whs, .long lk, .int (nI ks), .ref wk1, .ref wk2, .ref wk3])) := (k3 _ (z_ne p0 p1 rfl)).trans p0
  refine z_get (v := .ref wmy) C hz a4 zl8 mFX8_23 (by decide) rfl dX8_start_11 ?_
  refine lv_aload_n hx hb dX8_start_14 rfl (lv_at hl 0 rfl) ?_
  refine z_get (v := .int (nI nn)) C hz a4 zl8 mFX8_83 (by decide) rfl dX8_start_15 ?_
  refine lv_iconst (v := 0) hx hb dX8_start_18 (by decide) ?_
  have a5 : f1 wmy = some (.inl (cy 0, 60, .inl gm)) := (k3 _ (Ne.symm n_wki_wmy)).trans p2
  refine z_iast nn C hz hS a5 rfl hn59 (by omega) dX8_start_19 (fun H locs f6 a7 k8 hz hS => ?_)
  have a9 : f6 wki = some (.inl (cy 0, 60, .inl (upd gk nn x))) := (k8 _ n_wki_wmy).trans a2
  exact z_vret C hr hz hS ⟨a9, a7, (by
        intro b e hb n0 n1
        have hb0 : f1 b = some e := (k3 b n0).trans hb
        have hb1 : f6 b = some e := (k8 b n1).trans hb0
        exact hb1)⟩ (Nat.le_of_ble_eq_true rfl) (Nat.le_of_ble_eq_true rfl) dX8_start_20
abbrev rmX8_part : Room := { frames := 0, cells := 0, slots := 0, locals := 0 }
set_option maxHeartbeats 4000000 in
set_option maxRecDepth 100000 in
theorem k_X8_part (l : Launch) (D : va_G) (cy : Nat → ClassId) (f : zM) (o : Nat) (wev : Nat) (wnb : Nat) (wki : Nat) (wmy : Nat) (wce : Nat) (wiw : Nat) (wli : Nat) (wha : Nat) (wwt : Nat) (wfy : Nat) (wfk : Nat) (wem : Nat) (wna : Nat) (wpl : Nat) (whs : Nat) (wk1 : Nat) (wk2 : Nat) (wk3 : Nat) (u1 : Int32) (u2 : Int32) (u3 : Int32) (nl : Nat) (nn : Nat) (nf : Nat) (nc : Nat) (lk : Int64) (ks : Nat) (gc : Nat → Int64) (gm : Nat → Int32) (v : Int64) (t : Nat) (p0 : f o = some (.inr (8, [.int u1, .int u2, .int u3, .ref wev, .int (nI nl), .ref wnb, .int (nI nn), .ref wki, .ref wmy, .ref wce, .ref wiw, .ref wli, .ref wha, .ref wwt, .int (nI nf), .ref wfy, .ref wfk, .int (nI nc), .ref wem, .ref wna, .ref wpl, .ref whs, .long lk, .int (nI ks), .ref wk1, .ref wk2, .ref wk3]))) (p1 : f wce = some (.inl (cy 1, 960, .inr (.inl gc)))) (p2 : f wmy = some (.inl (cy 0, 60, .inl gm)))  (hn59 : nn < 60) (hmt : gm nn = nI t) (ht : t < 16) : zCv l D cy yX8_part cX8_part 3 none rmX8_part [.ref o, .long v] f (fun (f1 : zM) => f1 wce = some (.inl (cy 1, 960, .inr (.inl (vp_updL gc (16 * nn + t) v)))) ∧ f1 wmy = some (.inl (cy 0, 60, .inl (upd gm nn (nI (t + 1))))) ∧ (∀ (b : Nat) (e : va_E), f b = some e → b ≠ wce → b ≠ wmy → f1 b = some e)) := by
  intro sz
  refine z_body (by decide +kernel) (Nat.le_of_ble_eq_true rfl) ?_
  intro p e s m below meth c ls C hr hin hsz hz hl
  subst hsz
  have hx := C.1
  have hb := C.2.1
  have hA : ∀ q, s.heap.size ≤ q → zA f s.heap.size q := fun q h => Or.inr h
  have hS : va_S (zA f s.heap.size) s.heap s.heap [] := va_S.rf
  have hl : lv_has ls 3 [(0, .ref o), (1, .long v)] := hl
  refine lv_aload_n hx hb dX8_part_0 rfl (lv_at hl 0 rfl) ?_
  refine z_get (v := .ref wce) C hz p0 zl8 mFX8_26 (by decide) rfl dX8_part_1 ?_
  refine lv_bipush (v := 16) hx hb dX8_part_4 (by decide) ?_
  refine lv_aload_n hx hb dX8_part_6 rfl (lv_at hl 0 rfl) ?_
  refine z_get (v := .int (nI nn)) C hz p0 zl8 mFX8_83 (by decide) rfl dX8_part_7 ?_
  refine lv_imul hx hb dX8_part_10 ?_
  refine lv_aload_n hx hb dX8_part_11 rfl (lv_at hl 0 rfl) ?_
  refine z_get (v := .ref wmy) C hz p0 zl8 mFX8_23 (by decide) rfl dX8_part_12 ?_
  refine lv_aload_n hx hb dX8_part_15 rfl (lv_at hl 0 rfl) ?_
  refine z_get (v := .int (nI nn)) C hz p0 zl8 mFX8_83 (by decide) rfl dX8_part_16 ?_
  refine z_iald nn C hz p2 rfl hn59 (by omega) dX8_part_19 ?_
  refine lv_topi (fun y1 e2 => ?_)
  obtain rfl : y1 = nI t := e2.trans hmt
  refine lv_iadd hx hb dX8_part_20 ?_
  refine lv_lload_n hx hb dX8_part_21 rfl (lv_at hl 1 rfl) ?_
  refine z_last (16 * nn + t) C hz hS p1 (z_ce nn t) (by omega) (by omega) dX8_part_22 (fun H locs f3 a4 k5 hz hS => ?_)
  refine lv_aload_n hx hb dX8_part_23 rfl (lv_at hl 0 rfl) ?_
  have a6 : f3 o = some (.inr (8, [.int u1, .int u2, .int u3, .ref wev, .int (nI nl), .ref wnb, .int (nI nn), .ref wki, .ref wmy, .ref wce, .ref wiw, .ref wli, .ref wha, .ref wwt, .int (nI nf), .ref wfy, .ref wfk, .int (nI nc), .ref wem, .ref wna, .ref wpl, .ref whs, .long lk, .int (nI ks), .ref wk1, .ref wk2, .ref wk3])) := (k5 _ (z_ne p0 p1 rfl)).trans p0
  refine z_get (v := .ref wmy) C hz a6 zl8 mFX8_23 (by decide) rfl dX8_part_24 ?_
  refine lv_aload_n hx hb dX8_part_27 rfl (lv_at hl 0 rfl) ?_
  refine z_get (v := .int (nI nn)) C hz a6 zl8 mFX8_83 (by decide) rfl dX8_part_28 ?_
  refine lv_dup2_11 hx hb dX8_part_31 rfl rfl ?_
  have a7 : f3 wmy = some (.inl (cy 0, 60, .inl gm)) := (k5 _ (z_ne p2 p1 rfl)).trans p2
  refine z_iald nn C hz a7 rfl hn59 (by omega) dX8_part_32 ?_
  refine lv_topi (fun y8 e9 => ?_)
  obtain rfl : y8 = nI t := e9.trans hmt
  refine lv_iconst (v := 1) hx hb dX8_part_33 (by decide) ?_
  refine lv_iadd hx hb dX8_part_34 ?_
  refine lv_topi (fun y10 e11 => ?_)
  obtain rfl : y10 = nI (t + 1) := e11.trans (nI_1 t)
  refine z_iast nn C hz hS a7 rfl hn59 (by omega) dX8_part_35 (fun H locs f12 a13 k14 hz hS => ?_)
  have a15 : f12 wce = some (.inl (cy 1, 960, .inr (.inl (vp_updL gc (16 * nn + t) v)))) := (k14 _ (z_ne a4 a7 rfl)).trans a4
  exact z_vret C hr hz hS ⟨a15, a13, (by
        intro b e hb n0 n1
        have hb0 : f3 b = some e := (k5 b n0).trans hb
        have hb1 : f12 b = some e := (k14 b n1).trans hb0
        exact hb1)⟩ (Nat.le_of_ble_eq_true rfl) (Nat.le_of_ble_eq_true rfl) dX8_part_36
abbrev rmX8_isFigurePart : Room := { frames := 0, cells := 0, slots := 0, locals := 0 }
set_option maxHeartbeats 4000000 in
set_option maxRecDepth 100000 in
theorem k_X8_isFigurePart (l : Launch) (D : va_G) (cy : Nat → ClassId) (f : zM) (o : Nat) (wev : Nat) (wnb : Nat) (wki : Nat) (wmy : Nat) (wce : Nat) (wiw : Nat) (wli : Nat) (wha : Nat) (wwt : Nat) (wfy : Nat) (wfk : Nat) (wem : Nat) (wna : Nat) (wpl : Nat) (whs : Nat) (wk1 : Nat) (wk2 : Nat) (wk3 : Nat) (u1 : Int32) (u2 : Int32) (u3 : Int32) (nl : Nat) (nn : Nat) (nf : Nat) (nc : Nat) (lk : Int64) (ks : Nat) (gk : Nat → Int32) (j : Nat) (p0 : f o = some (.inr (8, [.int u1, .int u2, .int u3, .ref wev, .int (nI nl), .ref wnb, .int (nI nn), .ref wki, .ref wmy, .ref wce, .ref wiw, .ref wli, .ref wha, .ref wwt, .int (nI nf), .ref wfy, .ref wfk, .int (nI nc), .ref wem, .ref wna, .ref wpl, .ref whs, .long lk, .int (nI ks), .ref wk1, .ref wk2, .ref wk3]))) (p1 : f wki = some (.inl (cy 0, 60, .inl gk)))  (hj60 : j < 60) : zCi l D cy yX8_isFigurePart cX8_isFigurePart 2 (Option.some Jvm.ClassFile.FieldType.boolean) rmX8_isFigurePart [.ref o, .int (nI j)] f (fun (r : Int32) (f1 : zM) => r = (if gk j = 4 then 1 else 0) ∧ (∀ (b : Nat) (e : va_E), f b = some e → f1 b = some e)) := by
  intro sz
  refine z_body (by decide +kernel) (Nat.le_of_ble_eq_true rfl) ?_
  intro p e s m below meth c ls C hr hin hsz hz hl
  subst hsz
  have hx := C.1
  have hb := C.2.1
  have hA : ∀ q, s.heap.size ≤ q → zA f s.heap.size q := fun q h => Or.inr h
  have hS : va_S (zA f s.heap.size) s.heap s.heap [] := va_S.rf
  have hl : lv_has ls 2 [(0, .ref o), (1, .int (nI j))] := hl
  refine lv_aload_n hx hb dX8_isFigurePart_0 rfl (lv_at hl 0 rfl) ?_
  refine z_get (v := .ref wki) C hz p0 zl8 mFX8_20 (by decide) rfl dX8_isFigurePart_1 ?_
  refine lv_iload_n hx hb dX8_isFigurePart_4 rfl (lv_at hl 1 rfl) ?_
  refine z_iald j C hz p1 rfl hj60 (by omega) dX8_isFigurePart_5 ?_
  refine lv_iconst (v := 4) hx hb dX8_isFigurePart_6 (by decide) ?_
  refine lv_icmp_ne (tgt := 14) hx hb dX8_isFigurePart_7 (by decide) (fun c1 => ?_) (fun c1 => ?_)
  · refine lv_iconst (v := 0) hx hb dX8_isFigurePart_14 (by decide) ?_
    exact z_iret C hr (by decide) hz hS ⟨(by first | simp [c1] | simp_all), (fun b e hb => hb)⟩ (Nat.le_of_ble_eq_true rfl) (Nat.le_of_ble_eq_true rfl) dX8_isFigurePart_15
  · refine lv_iconst (v := 1) hx hb dX8_isFigurePart_10 (by decide) ?_
    refine lv_goto (tgt := 15) hx hb dX8_isFigurePart_11 (by decide) ?_
    exact z_iret C hr (by decide) hz hS ⟨(by first | simp [c1] | simp_all), (fun b e hb => hb)⟩ (Nat.le_of_ble_eq_true rfl) (Nat.le_of_ble_eq_true rfl) dX8_isFigurePart_15
abbrev rmX8_folded : Room := { frames := 0, cells := 0, slots := 0, locals := 0 }
set_option maxHeartbeats 4000000 in
set_option maxRecDepth 100000 in
theorem k_X8_folded (l : Launch) (D : va_G) (cy : Nat → ClassId) (f : zM) (v : Int64)    : zCi l D cy yX8_folded cX8_folded 2 (Option.some Jvm.ClassFile.FieldType.int) rmX8_folded [.long v] f (fun (r : Int32) (f1 : zM) => r = (zFO v) ∧ (∀ (b : Nat) (e : va_E), f b = some e → f1 b = some e)) := by
  intro sz
  refine z_body (by decide +kernel) (Nat.le_of_ble_eq_true rfl) ?_
  intro p e s m below meth c ls C hr hin hsz hz hl
  subst hsz
  have hx := C.1
  have hb := C.2.1
  have hA : ∀ q, s.heap.size ≤ q → zA f s.heap.size q := fun q h => Or.inr h
  have hS : va_S (zA f s.heap.size) s.heap s.heap [] := va_S.rf
  have hl : lv_has ls 2 [(0, .long v)] := hl
  refine lv_lload_n hx hb dX8_folded_0 rfl (lv_at hl 0 rfl) ?_
  refine lv_l2i (v := v.toInt32) hx hb dX8_folded_1 rfl ?_
  refine lv_lload_n hx hb dX8_folded_2 rfl (lv_at hl 0 rfl) ?_
  refine lv_bipush (v := 32) hx hb dX8_folded_3 (by decide) ?_
  refine lv_lushr (v := (v.toUInt64 >>> ((32 : Int32).toInt64.toUInt64 &&& Int64.toUInt64 63)).toInt64) hx hb dX8_folded_5 rfl ?_
  refine lv_l2i (v := ((v.toUInt64 >>> ((32 : Int32).toInt64.toUInt64 &&& Int64.toUInt64 63)).toInt64).toInt32) hx hb dX8_folded_6 rfl ?_
  refine lv_ixor hx hb dX8_folded_7 ?_
  exact z_iret C hr rfl hz hS ⟨rfl, (fun b e hb => hb)⟩ (Nat.le_of_ble_eq_true rfl) (Nat.le_of_ble_eq_true rfl) dX8_folded_8
abbrev rmX8_clean : Room := { frames := 0, cells := 0, slots := 0, locals := 0 }
set_option maxHeartbeats 4000000 in
set_option maxRecDepth 100000 in
theorem k_X8_clean (l : Launch) (D : va_G) (cy : Nat → ClassId) (f : zM) (v : Int64)    : zCl l D cy yX8_clean cX8_clean 2 (Option.some Jvm.ClassFile.FieldType.long) rmX8_clean [.long v] f (fun (r : Int64) (f1 : zM) => r = (zcl v) ∧ (∀ (b : Nat) (e : va_E), f b = some e → f1 b = some e)) := by
  intro sz
  refine z_body (by decide +kernel) (Nat.le_of_ble_eq_true rfl) ?_
  intro p e s m below meth c ls C hr hin hsz hz hl
  subst hsz
  have hx := C.1
  have hb := C.2.1
  have hA : ∀ q, s.heap.size ≤ q → zA f s.heap.size q := fun q h => Or.inr h
  have hS : va_S (zA f s.heap.size) s.heap s.heap [] := va_S.rf
  have hl : lv_has ls 2 [(0, .long v)] := hl
  refine lv_lload_n hx hb dX8_clean_0 rfl (lv_at hl 0 rfl) ?_
  refine lv_ldc2 (v := 9223372036854775807) hx hb C.2.2.2.1 (C.2.2.2.2.1 _ mKX8_110) dX8_clean_1 ?_
  refine lv_land hx hb dX8_clean_4 ?_
  refine lv_ldc2 (v := 9218868437227405312) hx hb C.2.2.2.1 (C.2.2.2.2.1 _ mKX8_112) dX8_clean_5 ?_
  refine W.lcmp hx hb dX8_clean_8 ?_
  refine lv_if_le (tgt := 18) hx hb dX8_clean_9 (by decide) (fun c1 => ?_) (fun c1 => ?_)
  · refine lv_lload_n hx hb dX8_clean_18 rfl (lv_at hl 0 rfl) ?_
    exact z_lret C hr hz hS ⟨(by simp [zcl, c1]), (fun b e hb => hb)⟩ (Nat.le_of_ble_eq_true rfl) (Nat.le_of_ble_eq_true rfl) dX8_clean_19
  · refine lv_ldc2 (v := 9221120237041090560) hx hb C.2.2.2.1 (C.2.2.2.2.1 _ mKX8_114) dX8_clean_12 ?_
    refine lv_goto (tgt := 19) hx hb dX8_clean_15 (by decide) ?_
    exact z_lret C hr hz hS ⟨(by simp [zcl, c1]), (fun b e hb => hb)⟩ (Nat.le_of_ble_eq_true rfl) (Nat.le_of_ble_eq_true rfl) dX8_clean_19
abbrev rmX8_by : Room := { frames := 0, cells := 0, slots := 0, locals := 0 }
set_option maxHeartbeats 4000000 in
set_option maxRecDepth 100000 in
theorem k_X8_by (l : Launch) (D : va_G) (cy : Nat → ClassId) (f : zM) (x : Int64) (y : Int64)    : zCi l D cy yX8_by cX8_by 4 (Option.some Jvm.ClassFile.FieldType.int) rmX8_by [.long x, .long y] f (fun (r : Int32) (f1 : zM) => (∀ (b : Nat) (e : va_E), f b = some e → f1 b = some e)) := by
  intro sz
  refine z_body (by decide +kernel) (Nat.le_of_ble_eq_true rfl) ?_
  intro p e s m below meth c ls C hr hin hsz hz hl
  subst hsz
  have hx := C.1
  have hb := C.2.1
  have hA : ∀ q, s.heap.size ≤ q → zA f s.heap.size q := fun q h => Or.inr h
  have hS : va_S (zA f s.heap.size) s.heap s.heap [] := va_S.rf
  have hl : lv_has ls 4 [(0, .long x), (2, .long y)] := hl
  refine lv_lload_n hx hb dX8_by_0 rfl (lv_at hl 0 rfl) ?_
  refine lv_lload_n hx hb dX8_by_1 rfl (lv_at hl 1 rfl) ?_
  refine W.lcmp hx hb dX8_by_2 ?_
  refine lv_if_ge (tgt := 10) hx hb dX8_by_3 (by decide) (fun c1 => ?_) (fun c1 => ?_)
  · refine lv_lload_n hx hb dX8_by_10 rfl (lv_at hl 0 rfl) ?_
    refine lv_lload_n hx hb dX8_by_11 rfl (lv_at hl 1 rfl) ?_
    refine W.lcmp hx hb dX8_by_12 ?_
    refine lv_if_le (tgt := 20) hx hb dX8_by_13 (by decide) (fun c2 => ?_) (fun c2 => ?_)
    · refine lv_iconst (v := 0) hx hb dX8_by_20 (by decide) ?_
      exact z_iret C hr rfl hz hS (fun b e hb => hb) (Nat.le_of_ble_eq_true rfl) (Nat.le_of_ble_eq_true rfl) dX8_by_21
    · refine lv_iconst (v := 1) hx hb dX8_by_16 (by decide) ?_
      refine lv_goto (tgt := 21) hx hb dX8_by_17 (by decide) ?_
      exact z_iret C hr rfl hz hS (fun b e hb => hb) (Nat.le_of_ble_eq_true rfl) (Nat.le_of_ble_eq_true rfl) dX8_by_21
  · refine lv_iconst (v := (-1)) hx hb dX8_by_6 (by decide) ?_
    refine lv_goto (tgt := 21) hx hb dX8_by_7 (by decide) ?_
    exact z_iret C hr rfl hz hS (fun b e hb => hb) (Nat.le_of_ble_eq_true rfl) (Nat.le_of_ble_eq_true rfl) dX8_by_21
abbrev rmX8_line : Room := { frames := 0, cells := 0, slots := 0, locals := 0 }
set_option maxHeartbeats 4000000 in
set_option maxRecDepth 100000 in
theorem k_X8_line (l : Launch) (D : va_G) (cy : Nat → ClassId) (f : zM) (v : Int64)    : zCl l D cy yX8_line cX8_line 2 (Option.some Jvm.ClassFile.FieldType.long) rmX8_line [.long v] f (fun (r : Int64) (f1 : zM) => (∀ (b : Nat) (e : va_E), f b = some e → f1 b = some e)) := by
  intro sz
  refine z_body (by decide +kernel) (Nat.le_of_ble_eq_true rfl) ?_
  intro p e s m below meth c ls C hr hin hsz hz hl
  subst hsz
  have hx := C.1
  have hb := C.2.1
  have hA : ∀ q, s.heap.size ≤ q → zA f s.heap.size q := fun q h => Or.inr h
  have hS : va_S (zA f s.heap.size) s.heap s.heap [] := va_S.rf
  have hl : lv_has ls 2 [(0, .long v)] := hl
  refine lv_lload_n hx hb dX8_line_0 rfl (lv_at hl 0 rfl) ?_
  refine lv_lconst (v := 0) hx hb dX8_line_1 (by decide) ?_
  refine W.lcmp hx hb dX8_line_2 ?_
  refine lv_if_ge (tgt := 14) hx hb dX8_line_3 (by decide) (fun c1 => ?_) (fun c1 => ?_)
  · refine lv_lload_n hx hb dX8_line_14 rfl (lv_at hl 0 rfl) ?_
    exact z_lret C hr hz hS (fun b e hb => hb) (Nat.le_of_ble_eq_true rfl) (Nat.le_of_ble_eq_true rfl) dX8_line_15
  · refine lv_lload_n hx hb dX8_line_6 rfl (lv_at hl 0 rfl) ?_
    refine lv_ldc2 (v := 9223372036854775807) hx hb C.2.2.2.1 (C.2.2.2.2.1 _ mKX8_110) dX8_line_7 ?_
    refine lv_lxor hx hb dX8_line_10 ?_
    refine lv_goto (tgt := 15) hx hb dX8_line_11 (by decide) ?_
    exact z_lret C hr hz hS (fun b e hb => hb) (Nat.le_of_ble_eq_true rfl) (Nat.le_of_ble_eq_true rfl) dX8_line_15
abbrev rmX8_likeOf : Room := { frames := 0, cells := 0, slots := 0, locals := 0 }
set_option maxHeartbeats 4000000 in
set_option maxRecDepth 100000 in
theorem k_X8_likeOf (l : Launch) (D : va_G) (cy : Nat → ClassId) (f : zM) (o : Nat) (wev : Nat) (wnb : Nat) (wki : Nat) (wmy : Nat) (wce : Nat) (wiw : Nat) (wli : Nat) (wha : Nat) (wwt : Nat) (wfy : Nat) (wfk : Nat) (wem : Nat) (wna : Nat) (wpl : Nat) (whs : Nat) (wk1 : Nat) (wk2 : Nat) (wk3 : Nat) (u1 : Int32) (u2 : Int32) (u3 : Int32) (nl : Nat) (nn : Nat) (nf : Nat) (nc : Nat) (lk : Int64) (ks : Nat) (gl : Nat → Int32) (v : Int64) (p0 : f o = some (.inr (8, [.int u1, .int u2, .int u3, .ref wev, .int (nI nl), .ref wnb, .int (nI nn), .ref wki, .ref wmy, .ref wce, .ref wiw, .ref wli, .ref wha, .ref wwt, .int (nI nf), .ref wfy, .ref wfk, .int (nI nc), .ref wem, .ref wna, .ref wpl, .ref whs, .long lk, .int (nI ks), .ref wk1, .ref wk2, .ref wk3]))) (p1 : f wli = some (.inl (cy 0, 60, .inl gl)))  (hv : v = (-1) ∨ ∃ j, j < 60 ∧ v = lN j) : zCi l D cy yX8_likeOf cX8_likeOf 3 (Option.some Jvm.ClassFile.FieldType.int) rmX8_likeOf [.ref o, .long v] f (fun (r : Int32) (f1 : zM) => (∀ (b : Nat) (e : va_E), f b = some e → f1 b = some e)) := by
  intro sz
  refine z_body (by decide +kernel) (Nat.le_of_ble_eq_true rfl) ?_
  intro p e s m below meth c ls C hr hin hsz hz hl
  subst hsz
  have hx := C.1
  have hb := C.2.1
  have hA : ∀ q, s.heap.size ≤ q → zA f s.heap.size q := fun q h => Or.inr h
  have hS : va_S (zA f s.heap.size) s.heap s.heap [] := va_S.rf
  have hl : lv_has ls 3 [(0, .ref o), (1, .long v)] := hl
  refine lv_lload_n hx hb dX8_likeOf_0 rfl (lv_at hl 1 rfl) ?_
  refine lv_ldc2 (v := (-1)) hx hb C.2.2.2.1 (C.2.2.2.2.1 _ mKX8_98) dX8_likeOf_1 ?_
  refine W.lcmp hx hb dX8_likeOf_4 ?_
  refine lv_if_ne (tgt := 12) hx hb dX8_likeOf_5 (by decide) (fun c1 => ?_) (fun c1 => ?_)
  · obtain ⟨j, hj, hvj⟩ : ∃ j, j < 60 ∧ v = lN j := by
      rcases hv with h9 | h9
      · exact absurd ((lg_cmp_eq _ _).mpr h9) c1
      · exact h9
    refine lv_aload_n hx hb dX8_likeOf_12 rfl (lv_at hl 0 rfl) ?_
    refine z_get (v := .ref wli) C hz p0 zl8 mFX8_34 (by decide) rfl dX8_likeOf_13 ?_
    refine lv_lload_n hx hb dX8_likeOf_16 rfl (lv_at hl 1 rfl) ?_
    refine lv_l2i (v := v.toInt32) hx hb dX8_likeOf_17 rfl ?_
    refine z_iald j C hz p1 (by rw [hvj]; exact lN_i j) hj (by omega) dX8_likeOf_18 ?_
    exact z_iret C hr rfl hz hS (fun b e hb => hb) (Nat.le_of_ble_eq_true rfl) (Nat.le_of_ble_eq_true rfl) dX8_likeOf_19
  · refine lv_iconst (v := (-1)) hx hb dX8_likeOf_8 (by decide) ?_
    refine lv_goto (tgt := 19) hx hb dX8_likeOf_9 (by decide) ?_
    exact z_iret C hr rfl hz hS (fun b e hb => hb) (Nat.le_of_ble_eq_true rfl) (Nat.le_of_ble_eq_true rfl) dX8_likeOf_19
