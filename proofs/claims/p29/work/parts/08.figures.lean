theorem z_findc (v : Int64) (n : Nat) : (∃ j, j < n ∧ v = lN j) ∨ ∀ j, j < n → v ≠ lN j := by
  by_cases h : ∃ j, j < n ∧ v = lN j
  · exact Or.inl h
  · exact Or.inr (fun j hj q => h ⟨j, hj, q⟩)
theorem z_findi (v : Int32) (n : Nat) : (∃ j, j < n ∧ v = nI j) ∨ ∀ j, j < n → v ≠ nI j := by
  by_cases h : ∃ j, j < n ∧ v = nI j
  · exact Or.inl h
  · exact Or.inr (fun j hj q => h ⟨j, hj, q⟩)
theorem z_fA0 {v : Int64} {j n : Nat} (hv : v = lN j) (hj : j < n) (hn : n ≤ 60) : ¬ lg_cmp v 0 < 0 := by
  rw [lg_cmp_lt, hv]
  intro h
  have h2 : lN j < lN 0 := h
  rw [lN_lt (by omega) (by omega)] at h2
  omega
theorem z_fA1 {v : Int64} {j n : Nat} (hv : v = lN j) (hj : j < n) (hn : n ≤ 60) : ¬ 0 ≤ lg_cmp v (nI n).toInt64 := by
  rw [lg_cmp_ge, hv, nI_l (by omega), lN_le (by omega) (by omega)]
  omega
theorem z_fB {v : Int64} {n : Nat} (hv : ∀ j, j < n → v ≠ lN j) (h0 : ¬ lg_cmp v 0 < 0) (hn : n ≤ 60) : 0 ≤ lg_cmp v (nI n).toInt64 := by
  rw [lg_cmp_ge, nI_l (by omega)]
  rw [lg_cmp_lt] at h0
  obtain ⟨k, hk, rfl⟩ := pk_lOf h0
  rcases Nat.lt_or_ge k n with h | h
  · exact absurd rfl (hv k h)
  · exact (pk_lLE (by omega) hk).mpr h
theorem z_toL {x : Int32} {j : Nat} (hj : j < 2 ^ 31) (h : x.toInt64 = lN j) : x = nI j := by
  have h2 : x.toInt64.toInt = (lN j).toInt := by rw [h]
  rw [Int32.toInt_toInt64, lN_toInt hj] at h2
  exact Int32.toInt_inj.mp (by rw [h2, nI_toInt hj])
theorem z_nim1 {j : Nat} (hj : j < 2 ^ 31) : ¬ nI j = (-1) := by
  intro h
  have h2 : (nI j).toInt = (-1 : Int32).toInt := by rw [h]
  rw [nI_toInt hj] at h2
  have e1 : (-1 : Int32).toInt = -1 := by decide
  rw [e1] at h2
  omega
theorem z_min (a b : Nat) (ha : a < 2 ^ 31) (hb : b < 2 ^ 31) : (if nI b < nI a then nI b else nI a) = nI (min a b) := by
  by_cases h : b < a
  · rw [if_pos ((nI_ltI hb ha).mpr h), Nat.min_eq_right (by omega)]
  · rw [if_neg (fun q => h ((nI_ltI hb ha).mp q)), Nat.min_eq_left (by omega)]
theorem z_dec {i : Nat} (h : 0 < i) : nI i + (-1) = nI (i - 1) := by
  obtain ⟨k, rfl⟩ : ∃ k, i = k + 1 := ⟨i - 1, by omega⟩
  exact pk_m1 k
theorem z_shift {gr : Nat → Option Nat} {fg : Nat → Nat} {n k j : Nat} (h : ∀ k', (k' < n ∨ (k < k' ∧ k' ≤ n)) → ∃ j, j < n ∧ gr k' = some (fg j)) (hk : 0 < k) (hj : j < n) : ∀ k', (k' < n ∨ (k - 1 < k' ∧ k' ≤ n)) → ∃ i, i < n ∧ va_up gr k (some (fg j)) k' = some (fg i) := by
  intro k' hk'
  by_cases q : k' = k
  · subst q
    exact ⟨j, hj, va_up_self _ _ _⟩
  · obtain ⟨i, hi, e⟩ := h k' (by omega)
    exact ⟨i, hi, by rw [va_up_ne _ _ q]; exact e⟩
theorem z_rk {gr : Nat → Option Nat} {fg : Nat → Nat} {n i k q : Nat} (h : ∀ k', (k' < n ∨ (k < k' ∧ k' ≤ n)) → ∃ j, j < n ∧ gr k' = some (fg j)) (hk : k ≤ i) (hi : i ≤ k) (hn : k ≤ n) : ∀ k', k' < n + 1 → va_up gr i (some q) k' = some q ∨ ∃ j, j < n ∧ va_up gr i (some q) k' = some (fg j) := by
  intro k' hk'
  by_cases e : k' = i
  · subst e
    exact Or.inl (va_up_self _ _ _)
  · rw [va_up_ne _ _ e]
    exact Or.inr (h k' (by omega))
abbrev rmX5_isFull_A : Room := { frames := 0, cells := 0, slots := 0, locals := 0 }
set_option maxHeartbeats 4000000 in
set_option maxRecDepth 100000 in
theorem k_X5_isFull_A (l : Launch) (D : va_G) (cy : Nat → ClassId) (f : zM) (h : Nat) (al : Nat) (ra : Nat) (nn : Nat) (p0 : f h = some (.inr (5, [.ref al, .ref ra, .int (nI nn)])))  (hn60 : nn ≤ 60) (h60 : nn < 60) : zCi l D cy yX5_isFull cX5_isFull 1 (Option.some Jvm.ClassFile.FieldType.boolean) rmX5_isFull_A [.ref h] f (fun (r : Int32) (f1 : zM) => r = 0 ∧ (∀ (b : Nat) (e : va_E), f b = some e → f1 b = some e)) := by
  intro sz
  refine z_body (by decide +kernel) (Nat.le_of_ble_eq_true rfl) ?_
  intro p e s m below meth c ls C hr hin hsz hz hl
  subst hsz
  have hx := C.1
  have hb := C.2.1
  have hA : ∀ q, s.heap.size ≤ q → zA f s.heap.size q := fun q h => Or.inr h
  have hS : va_S (zA f s.heap.size) s.heap s.heap [] := va_S.rf
  have hl : lv_has ls 1 [(0, .ref h)] := hl
  refine lv_aload_n hx hb dX5_isFull_0 rfl (lv_at hl 0 rfl) ?_
  refine z_get (v := .int (nI nn)) C hz p0 zl5 mFX5_20 (by decide) rfl dX5_isFull_1 ?_
  refine lv_bipush (v := 60) hx hb dX5_isFull_4 (by decide) ?_
  refine lv_icmp_lt (tgt := 13) hx hb dX5_isFull_6 (by decide) (fun c1 => ?_) (fun c1 => ?_)
  rotate_left
  · exact absurd ((nI_ltI (a := nn) (b := 60) (by omega) (by omega)).mpr h60) c1
  refine lv_iconst (v := 0) hx hb dX5_isFull_13 (by decide) ?_
  exact z_iret C hr (by decide) hz hS ⟨rfl, (fun b e hb => hb)⟩ (Nat.le_of_ble_eq_true rfl) (Nat.le_of_ble_eq_true rfl) dX5_isFull_14
abbrev rmX5_isFull_B : Room := { frames := 0, cells := 0, slots := 0, locals := 0 }
set_option maxHeartbeats 4000000 in
set_option maxRecDepth 100000 in
theorem k_X5_isFull_B (l : Launch) (D : va_G) (cy : Nat → ClassId) (f : zM) (h : Nat) (al : Nat) (ra : Nat) (nn : Nat) (p0 : f h = some (.inr (5, [.ref al, .ref ra, .int (nI nn)])))  (hn60 : nn ≤ 60) (h60 : ¬ nn < 60) : zCi l D cy yX5_isFull cX5_isFull 1 (Option.some Jvm.ClassFile.FieldType.boolean) rmX5_isFull_B [.ref h] f (fun (r : Int32) (f1 : zM) => r = 1 ∧ (∀ (b : Nat) (e : va_E), f b = some e → f1 b = some e)) := by
  intro sz
  refine z_body (by decide +kernel) (Nat.le_of_ble_eq_true rfl) ?_
  intro p e s m below meth c ls C hr hin hsz hz hl
  subst hsz
  have hx := C.1
  have hb := C.2.1
  have hA : ∀ q, s.heap.size ≤ q → zA f s.heap.size q := fun q h => Or.inr h
  have hS : va_S (zA f s.heap.size) s.heap s.heap [] := va_S.rf
  have hl : lv_has ls 1 [(0, .ref h)] := hl
  refine lv_aload_n hx hb dX5_isFull_0 rfl (lv_at hl 0 rfl) ?_
  refine z_get (v := .int (nI nn)) C hz p0 zl5 mFX5_20 (by decide) rfl dX5_isFull_1 ?_
  refine lv_bipush (v := 60) hx hb dX5_isFull_4 (by decide) ?_
  refine lv_icmp_lt (tgt := 13) hx hb dX5_isFull_6 (by decide) (fun c1 => ?_) (fun c1 => ?_)
  · exact absurd ((nI_ltI (a := nn) (b := 60) (by omega) (by omega)).mp c1) h60
  refine lv_iconst (v := 1) hx hb dX5_isFull_9 (by decide) ?_
  refine lv_goto (tgt := 14) hx hb dX5_isFull_10 (by decide) ?_
  exact z_iret C hr (by decide) hz hS ⟨rfl, (fun b e hb => hb)⟩ (Nat.le_of_ble_eq_true rfl) (Nat.le_of_ble_eq_true rfl) dX5_isFull_14
abbrev rmX5_find_A : Room := { frames := 0, cells := 0, slots := 0, locals := 0 }
set_option maxHeartbeats 4000000 in
set_option maxRecDepth 100000 in
theorem k_X5_find_A (l : Launch) (D : va_G) (cy : Nat → ClassId) (f : zM) (h : Nat) (al : Nat) (ra : Nat) (ga : Nat → Option Nat) (nn : Nat) (fg : Nat → Nat) (v : Int64) (j : Nat) (p0 : f h = some (.inr (5, [.ref al, .ref ra, .int (nI nn)]))) (p1 : f al = some (.inl (cy 3, 60, .inr (.inr (.inr (.inr ga))))))  (hn60 : nn ≤ 60) (hga : ∀ i, i < nn → ga i = some (fg i)) (hv : v = lN j) (hj : j < nn) : zCq l D cy yX5_find cX5_find 3 (Option.some (Jvm.ClassFile.FieldType.object "KindRows$Figure")) rmX5_find_A [.ref h, .long v] f (fun (r : Option Nat) (f1 : zM) => r = (some (fg j)) ∧ (∀ (b : Nat) (e : va_E), f b = some e → f1 b = some e)) := by
  intro sz
  refine z_body (by decide +kernel) (Nat.le_of_ble_eq_true rfl) ?_
  intro p e s m below meth c ls C hr hin hsz hz hl
  subst hsz
  have hx := C.1
  have hb := C.2.1
  have hA : ∀ q, s.heap.size ≤ q → zA f s.heap.size q := fun q h => Or.inr h
  have hS : va_S (zA f s.heap.size) s.heap s.heap [] := va_S.rf
  have hl : lv_has ls 3 [(0, .ref h), (1, .long v)] := hl
  refine lv_lload_n hx hb dX5_find_0 rfl (lv_at hl 1 rfl) ?_
  refine lv_lconst (v := 0) hx hb dX5_find_1 (by decide) ?_
  refine W.lcmp hx hb dX5_find_2 ?_
  refine lv_if_lt (tgt := 26) hx hb dX5_find_3 (by decide) (fun c1 => ?_) (fun c1 => ?_)
  · exact absurd c1 (z_fA0 hv hj hn60)
  refine lv_lload_n hx hb dX5_find_6 rfl (lv_at hl 1 rfl) ?_
  refine lv_aload_n hx hb dX5_find_7 rfl (lv_at hl 0 rfl) ?_
  refine z_get (v := .int (nI nn)) C hz p0 zl5 mFX5_20 (by decide) rfl dX5_find_8 ?_
  refine lv_i2l (v := (nI nn).toInt64) hx hb dX5_find_11 rfl ?_
  refine W.lcmp hx hb dX5_find_12 ?_
  refine lv_if_ge (tgt := 26) hx hb dX5_find_13 (by decide) (fun c2 => ?_) (fun c2 => ?_)
  · exact absurd c2 (z_fA1 hv hj hn60)
  refine lv_aload_n hx hb dX5_find_16 rfl (lv_at hl 0 rfl) ?_
  refine z_get (v := .ref al) C hz p0 zl5 mFX5_13 (by decide) rfl dX5_find_17 ?_
  refine lv_lload_n hx hb dX5_find_20 rfl (lv_at hl 1 rfl) ?_
  refine lv_l2i (v := v.toInt32) hx hb dX5_find_21 rfl ?_
  refine z_aldq j C hz p1 rfl (by rw [hv]; exact lN_i j) (by omega) (by omega) dX5_find_22 ?_
  rw [hga j hj]
  refine W.eq (g2 := F0 m 23 ls [.ref (fg j)]) rfl ?_
  refine lv_goto (tgt := 27) hx hb dX5_find_23 (by decide) ?_
  exact z_aret (r := some (fg j)) C hr (Or.inl ⟨_, rfl⟩) rfl hz hS ⟨rfl, (fun b e hb => hb)⟩ (Nat.le_of_ble_eq_true rfl) (Nat.le_of_ble_eq_true rfl) dX5_find_27
abbrev rmX5_find_B : Room := { frames := 0, cells := 0, slots := 0, locals := 0 }
set_option maxHeartbeats 4000000 in
set_option maxRecDepth 100000 in
theorem k_X5_find_B (l : Launch) (D : va_G) (cy : Nat → ClassId) (f : zM) (h : Nat) (al : Nat) (ra : Nat) (nn : Nat) (v : Int64) (p0 : f h = some (.inr (5, [.ref al, .ref ra, .int (nI nn)])))  (hn60 : nn ≤ 60) (hv : ∀ j, j < nn → v ≠ lN j) : zCq l D cy yX5_find cX5_find 3 (Option.some (Jvm.ClassFile.FieldType.object "KindRows$Figure")) rmX5_find_B [.ref h, .long v] f (fun (r : Option Nat) (f1 : zM) => r = none ∧ (∀ (b : Nat) (e : va_E), f b = some e → f1 b = some e)) := by
  intro sz
  refine z_body (by decide +kernel) (Nat.le_of_ble_eq_true rfl) ?_
  intro p e s m below meth c ls C hr hin hsz hz hl
  subst hsz
  have hx := C.1
  have hb := C.2.1
  have hA : ∀ q, s.heap.size ≤ q → zA f s.heap.size q := fun q h => Or.inr h
  have hS : va_S (zA f s.heap.size) s.heap s.heap [] := va_S.rf
  have hl : lv_has ls 3 [(0, .ref h), (1, .long v)] := hl
  refine lv_lload_n hx hb dX5_find_0 rfl (lv_at hl 1 rfl) ?_
  refine lv_lconst (v := 0) hx hb dX5_find_1 (by decide) ?_
  refine W.lcmp hx hb dX5_find_2 ?_
  refine lv_if_lt (tgt := 26) hx hb dX5_find_3 (by decide) (fun c1 => ?_) (fun c1 => ?_)
  · refine lv_null hx hb dX5_find_26 ?_
    exact z_aret (r := none) C hr (Or.inl ⟨_, rfl⟩) rfl hz hS ⟨rfl, (fun b e hb => hb)⟩ (Nat.le_of_ble_eq_true rfl) (Nat.le_of_ble_eq_true rfl) dX5_find_27
  · refine lv_lload_n hx hb dX5_find_6 rfl (lv_at hl 1 rfl) ?_
    refine lv_aload_n hx hb dX5_find_7 rfl (lv_at hl 0 rfl) ?_
    refine z_get (v := .int (nI nn)) C hz p0 zl5 mFX5_20 (by decide) rfl dX5_find_8 ?_
    refine lv_i2l (v := (nI nn).toInt64) hx hb dX5_find_11 rfl ?_
    refine W.lcmp hx hb dX5_find_12 ?_
    refine lv_if_ge (tgt := 26) hx hb dX5_find_13 (by decide) (fun c2 => ?_) (fun c2 => ?_)
    rotate_left
    · exact absurd (z_fB hv c1 hn60) c2
    refine lv_null hx hb dX5_find_26 ?_
    exact z_aret (r := none) C hr (Or.inl ⟨_, rfl⟩) rfl hz hS ⟨rfl, (fun b e hb => hb)⟩ (Nat.le_of_ble_eq_true rfl) (Nat.le_of_ble_eq_true rfl) dX5_find_27
abbrev rmX5_hasOrNone_N : Room := { frames := 0, cells := 0, slots := 0, locals := 0 }
set_option maxHeartbeats 4000000 in
set_option maxRecDepth 100000 in
theorem k_X5_hasOrNone_N (l : Launch) (D : va_G) (cy : Nat → ClassId) (f : zM) (h : Nat) (al : Nat) (ra : Nat) (nn : Nat) (x : Int32) (p0 : f h = some (.inr (5, [.ref al, .ref ra, .int (nI nn)])))  (hx1 : x = (-1)) : zCi l D cy yX5_hasOrNone cX5_hasOrNone 2 (Option.some Jvm.ClassFile.FieldType.boolean) rmX5_hasOrNone_N [.ref h, .int x] f (fun (r : Int32) (f1 : zM) => r = 1 ∧ (∀ (b : Nat) (e : va_E), f b = some e → f1 b = some e)) := by
  intro sz
  refine z_body (by decide +kernel) (Nat.le_of_ble_eq_true rfl) ?_
  intro p e s m below meth c ls C hr hin hsz hz hl
  subst hsz
  have hx := C.1
  have hb := C.2.1
  have hA : ∀ q, s.heap.size ≤ q → zA f s.heap.size q := fun q h => Or.inr h
  have hS : va_S (zA f s.heap.size) s.heap s.heap [] := va_S.rf
  have hl : lv_has ls 2 [(0, .ref h), (1, .int x)] := hl
  refine lv_iload_n hx hb dX5_hasOrNone_0 rfl (lv_at hl 1 rfl) ?_
  refine lv_iconst (v := (-1)) hx hb dX5_hasOrNone_1 (by decide) ?_
  refine lv_icmp_eq (tgt := 14) hx hb dX5_hasOrNone_2 (by decide) (fun c1 => ?_) (fun c1 => ?_)
  rotate_left
  · exact absurd hx1 c1
  refine lv_iconst (v := 1) hx hb dX5_hasOrNone_14 (by decide) ?_
  refine lv_goto (tgt := 19) hx hb dX5_hasOrNone_15 (by decide) ?_
  exact z_iret C hr (by decide) hz hS ⟨rfl, (fun b e hb => hb)⟩ (Nat.le_of_ble_eq_true rfl) (Nat.le_of_ble_eq_true rfl) dX5_hasOrNone_19
abbrev rmX5_hasOrNone_A : Room := { frames := 1, cells := 0, slots := 0, locals := 22 }
set_option maxHeartbeats 4000000 in
set_option maxRecDepth 100000 in
theorem k_X5_hasOrNone_A (l : Launch) (D : va_G) (cy : Nat → ClassId) (f : zM) (h : Nat) (al : Nat) (ra : Nat) (ga : Nat → Option Nat) (nn : Nat) (fg : Nat → Nat) (j : Nat) (x : Int32) (p0 : f h = some (.inr (5, [.ref al, .ref ra, .int (nI nn)]))) (p1 : f al = some (.inl (cy 3, 60, .inr (.inr (.inr (.inr ga))))))  (hx1 : x = nI j) (hj : j < nn) (hn60 : nn ≤ 60) (hga : ∀ i, i < nn → ga i = some (fg i)) : zCi l D cy yX5_hasOrNone cX5_hasOrNone 2 (Option.some Jvm.ClassFile.FieldType.boolean) rmX5_hasOrNone_A [.ref h, .int x] f (fun (r : Int32) (f1 : zM) => r = 1 ∧ (∀ (b : Nat) (e : va_E), f b = some e → f1 b = some e)) := by
  intro sz
  refine z_body (by decide +kernel) (Nat.le_of_ble_eq_true rfl) ?_
  intro p e s m below meth c ls C hr hin hsz hz hl
  subst hsz
  have hx := C.1
  have hb := C.2.1
  have hA : ∀ q, s.heap.size ≤ q → zA f s.heap.size q := fun q h => Or.inr h
  have hS : va_S (zA f s.heap.size) s.heap s.heap [] := va_S.rf
  have hl : lv_has ls 2 [(0, .ref h), (1, .int x)] := hl
  refine lv_iload_n hx hb dX5_hasOrNone_0 rfl (lv_at hl 1 rfl) ?_
  refine lv_iconst (v := (-1)) hx hb dX5_hasOrNone_1 (by decide) ?_
  refine lv_icmp_eq (tgt := 14) hx hb dX5_hasOrNone_2 (by decide) (fun c1 => ?_) (fun c1 => ?_)
  · exact absurd c1 (by rw [hx1]; exact z_nim1 (by omega))
  refine lv_aload_n hx hb dX5_hasOrNone_5 rfl (lv_at hl 0 rfl) ?_
  refine lv_iload_n hx hb dX5_hasOrNone_6 rfl (lv_at hl 1 rfl) ?_
  refine lv_i2l (v := x.toInt64) hx hb dX5_hasOrNone_7 rfl ?_
  refine z_callVq (As := [.long x.toInt64]) C hz hS hA hl (k_X5_find_A l D cy f h al ra ga nn fg x.toInt64 j p0 p1 hn60 hga (by rw [hx1]; exact nI_l (by omega)) hj) zyX5_find mMX5_24 p0 zl5 rfl rfl (Nat.le_of_ble_eq_true rfl) ⟨Nat.le_of_ble_eq_true rfl, Nat.le_of_ble_eq_true rfl⟩ ⟨Nat.le_of_ble_eq_true rfl, Nat.le_of_ble_eq_true rfl⟩ dX5_hasOrNone_8 (fun r f2 H locs h3 hz hS => ?_)
  obtain ⟨rfl, k4⟩ := h3
  refine W.eq (g2 := F0 m 11 ls [.ref (fg j)]) rfl ?_
  refine lv_ifnull hx hb dX5_hasOrNone_11 ?_
  refine lv_iconst (v := 1) hx hb dX5_hasOrNone_14 (by decide) ?_
  refine lv_goto (tgt := 19) hx hb dX5_hasOrNone_15 (by decide) ?_
  exact z_iret C hr (by decide) hz hS ⟨rfl, (by
        intro b e hb 
        have hb0 : f2 b = some e := k4 b e hb 
        exact hb0)⟩ (Nat.le_of_ble_eq_true rfl) (Nat.le_of_ble_eq_true rfl) dX5_hasOrNone_19
abbrev rmX5_hasOrNone_B : Room := { frames := 1, cells := 0, slots := 0, locals := 22 }
set_option maxHeartbeats 4000000 in
set_option maxRecDepth 100000 in
theorem k_X5_hasOrNone_B (l : Launch) (D : va_G) (cy : Nat → ClassId) (f : zM) (h : Nat) (al : Nat) (ra : Nat) (nn : Nat) (x : Int32) (p0 : f h = some (.inr (5, [.ref al, .ref ra, .int (nI nn)])))  (hx1 : ¬ x = (-1)) (hx2 : ∀ j, j < nn → x ≠ nI j) (hn60 : nn ≤ 60) : zCi l D cy yX5_hasOrNone cX5_hasOrNone 2 (Option.some Jvm.ClassFile.FieldType.boolean) rmX5_hasOrNone_B [.ref h, .int x] f (fun (r : Int32) (f1 : zM) => r = 0 ∧ (∀ (b : Nat) (e : va_E), f b = some e → f1 b = some e)) := by
  intro sz
  refine z_body (by decide +kernel) (Nat.le_of_ble_eq_true rfl) ?_
  intro p e s m below meth c ls C hr hin hsz hz hl
  subst hsz
  have hx := C.1
  have hb := C.2.1
  have hA : ∀ q, s.heap.size ≤ q → zA f s.heap.size q := fun q h => Or.inr h
  have hS : va_S (zA f s.heap.size) s.heap s.heap [] := va_S.rf
  have hl : lv_has ls 2 [(0, .ref h), (1, .int x)] := hl
  refine lv_iload_n hx hb dX5_hasOrNone_0 rfl (lv_at hl 1 rfl) ?_
  refine lv_iconst (v := (-1)) hx hb dX5_hasOrNone_1 (by decide) ?_
  refine lv_icmp_eq (tgt := 14) hx hb dX5_hasOrNone_2 (by decide) (fun c1 => ?_) (fun c1 => ?_)
  · exact absurd c1 hx1
  refine lv_aload_n hx hb dX5_hasOrNone_5 rfl (lv_at hl 0 rfl) ?_
  refine lv_iload_n hx hb dX5_hasOrNone_6 rfl (lv_at hl 1 rfl) ?_
  refine lv_i2l (v := x.toInt64) hx hb dX5_hasOrNone_7 rfl ?_
  refine z_callVq (As := [.long x.toInt64]) C hz hS hA hl (k_X5_find_B l D cy f h al ra nn x.toInt64 p0 hn60 (fun i9 h9 q9 => hx2 i9 h9 (z_toL (by omega) q9))) zyX5_find mMX5_24 p0 zl5 rfl rfl (Nat.le_of_ble_eq_true rfl) ⟨Nat.le_of_ble_eq_true rfl, Nat.le_of_ble_eq_true rfl⟩ ⟨Nat.le_of_ble_eq_true rfl, Nat.le_of_ble_eq_true rfl⟩ dX5_hasOrNone_8 (fun r f2 H locs h3 hz hS => ?_)
  obtain ⟨rfl, k4⟩ := h3
  refine W.eq (g2 := F0 m 11 ls [.null]) rfl ?_
  refine lv_ifnullN (tgt := 18) hx hb dX5_hasOrNone_11 (by decide) ?_
  refine lv_iconst (v := 0) hx hb dX5_hasOrNone_18 (by decide) ?_
  exact z_iret C hr (by decide) hz hS ⟨rfl, (by
        intro b e hb 
        have hb0 : f2 b = some e := k4 b e hb 
        exact hb0)⟩ (Nat.le_of_ble_eq_true rfl) (Nat.le_of_ble_eq_true rfl) dX5_hasOrNone_19
abbrev rmX5_numberRanked : Room := { frames := 0, cells := 0, slots := 0, locals := 0 }
set_option maxHeartbeats 4000000 in
set_option maxRecDepth 100000 in
theorem k_X5_numberRanked (l : Launch) (D : va_G) (cy : Nat → ClassId) (f : zM) (h : Nat) (al : Nat) (ra : Nat) (gr : Nat → Option Nat) (nn : Nat) (fg : Nat → Nat) (pt : Nat → Nat) (kd : Nat → Int32) (ln : Nat → Nat) (pp : Nat → Nat → Int64) (wg : Nat → Int64) (wd : Nat → Int32) (hs : Nat → Int32) (bf : Nat → Int32) (x : Int32) (p0 : f h = some (.inr (5, [.ref al, .ref ra, .int (nI nn)]))) (p1 : f ra = some (.inl (cy 3, 60, .inr (.inr (.inr (.inr gr)))))) (hF : ∀ i9 : Nat, i9 < nn → f (fg i9) = some (.inr (4, [.int (kd i9), .ref (pt i9), .long (wg i9), .int (wd i9), .int (nI i9), .int (hs i9), .int (bf i9)]))) (hn60 : nn ≤ 60) (hgr : ∀ k, k < nn → ∃ j, j < nn ∧ gr k = some (fg j)) : zCi l D cy yX5_numberRanked cX5_numberRanked 2 (Option.some Jvm.ClassFile.FieldType.int) rmX5_numberRanked [.ref h, .int x] f (fun (r : Int32) (f1 : zM) => (∀ (b : Nat) (e : va_E), f b = some e → f1 b = some e)) := by
  intro sz
  refine z_body (by decide +kernel) (Nat.le_of_ble_eq_true rfl) ?_
  intro p e s m below meth c ls C hr hin hsz hz hl
  subst hsz
  have hx := C.1
  have hb := C.2.1
  have hA : ∀ q, s.heap.size ≤ q → zA f s.heap.size q := fun q h => Or.inr h
  have hS : va_S (zA f s.heap.size) s.heap s.heap [] := va_S.rf
  have hl : lv_has ls 2 [(0, .ref h), (1, .int x)] := hl
  refine lv_iload_n hx hb dX5_numberRanked_0 rfl (lv_at hl 1 rfl) ?_
  refine lv_if_lt (tgt := 24) hx hb dX5_numberRanked_1 (by decide) (fun c1 => ?_) (fun c1 => ?_)
  · refine lv_iconst (v := (-1)) hx hb dX5_numberRanked_24 (by decide) ?_
    exact z_iret C hr rfl hz hS (fun b e hb => hb) (Nat.le_of_ble_eq_true rfl) (Nat.le_of_ble_eq_true rfl) dX5_numberRanked_25
  · refine lv_iload_n hx hb dX5_numberRanked_4 rfl (lv_at hl 1 rfl) ?_
    refine lv_aload_n hx hb dX5_numberRanked_5 rfl (lv_at hl 0 rfl) ?_
    refine z_get (v := .int (nI nn)) C hz p0 zl5 mFX5_20 (by decide) rfl dX5_numberRanked_6 ?_
    refine lv_icmp_ge (tgt := 24) hx hb dX5_numberRanked_9 (by decide) (fun c2 => ?_) (fun c2 => ?_)
    · refine lv_iconst (v := (-1)) hx hb dX5_numberRanked_24 (by decide) ?_
      exact z_iret C hr rfl hz hS (fun b e hb => hb) (Nat.le_of_ble_eq_true rfl) (Nat.le_of_ble_eq_true rfl) dX5_numberRanked_25
    · obtain ⟨k, hk, hxk⟩ : ∃ k, k < nn ∧ x = nI k := by
        rcases pk_ix x (n := nn) (by omega) with h9 | h9 | h9
        · exact absurd h9 c1
        · exact absurd h9 c2
        · exact h9
      obtain ⟨j, hj, hgj⟩ := hgr k hk
      refine lv_aload_n hx hb dX5_numberRanked_12 rfl (lv_at hl 0 rfl) ?_
      refine z_get (v := .ref ra) C hz p0 zl5 mFX5_17 (by decide) rfl dX5_numberRanked_13 ?_
      refine lv_iload_n hx hb dX5_numberRanked_16 rfl (lv_at hl 1 rfl) ?_
      refine z_aldq k C hz p1 rfl hxk (by omega) (by omega) dX5_numberRanked_17 ?_
      rw [hgj]
      refine W.eq (g2 := F0 m 18 ls [.ref (fg j)]) rfl ?_
      have a3 : f (fg j) = some (.inr (4, [.int (kd j), .ref (pt j), .long (wg j), .int (wd j), .int (nI j), .int (hs j), .int (bf j)])) := hF j hj
      refine z_getN (v := .int (nI j)) C hz a3 zl4 mFNX5_28 (by decide) rfl dX5_numberRanked_18 ?_
      refine lv_goto (tgt := 25) hx hb dX5_numberRanked_21 (by decide) ?_
      exact z_iret C hr rfl hz hS (fun b e hb => hb) (Nat.le_of_ble_eq_true rfl) (Nat.le_of_ble_eq_true rfl) dX5_numberRanked_25
abbrev rmX5_firstLike : Room := { frames := 1, cells := 0, slots := 0, locals := 21 }
set_option maxHeartbeats 4000000 in
set_option maxRecDepth 100000 in
theorem k_X5_firstLike (l : Launch) (D : va_G) (cy : Nat → ClassId) (f : zM) (h : Nat) (al : Nat) (ra : Nat) (ga : Nat → Option Nat) (nn : Nat) (fg : Nat → Nat) (pt : Nat → Nat) (kd : Nat → Int32) (ln : Nat → Nat) (pp : Nat → Nat → Int64) (wg : Nat → Int64) (wd : Nat → Int32) (hs : Nat → Int32) (bf : Nat → Int32) (j : Nat) (p0 : f h = some (.inr (5, [.ref al, .ref ra, .int (nI nn)]))) (p1 : f al = some (.inl (cy 3, 60, .inr (.inr (.inr (.inr ga)))))) (hF : ∀ i9 : Nat, i9 < nn → f (fg i9) = some (.inr (4, [.int (kd i9), .ref (pt i9), .long (wg i9), .int (wd i9), .int (nI i9), .int (hs i9), .int (bf i9)]))) (hn60 : nn ≤ 60) (hga : ∀ i, i < nn → ga i = some (fg i)) (hj : j < nn) : zCi l D cy yX5_firstLike cX5_firstLike 3 (Option.some Jvm.ClassFile.FieldType.int) rmX5_firstLike [.ref h, .ref (fg j)] f (fun (r : Int32) (f1 : zM) => (∀ (b : Nat) (e : va_E), f b = some e → f1 b = some e)) := by
  intro sz
  refine z_body (by decide +kernel) (Nat.le_of_ble_eq_true rfl) ?_
  intro p e s m below meth c ls C hr hin hsz hz hl
  subst hsz
  have hx := C.1
  have hb := C.2.1
  have hA : ∀ q, s.heap.size ≤ q → zA f s.heap.size q := fun q h => Or.inr h
  have hS : va_S (zA f s.heap.size) s.heap s.heap [] := va_S.rf
  have hl : lv_has ls 3 [(0, .ref h), (1, .ref (fg j))] := hl
  refine lv_iconst (v := 0) hx hb dX5_firstLike_0 (by decide) ?_
  refine lv_istore_n (lv' := [(2, .int 0), (0, .ref h), (1, .ref (fg j))]) hx hb dX5_firstLike_1 rfl hl (by decide) rfl (fun ls hl => ?_)
  have lp1 : ∀ (n : Nat) (i : Nat) (fL2 : zM) (H : Heap) (locs : List Loc) (ls : Array Slot), (j - i) < n → (i ≤ j) → fL2 h = some (.inr (5, [.ref al, .ref ra, .int (nI nn)])) → fL2 al = some (.inl (cy 3, 60, .inr (.inr (.inr (.inr ga))))) → (∀ i9 : Nat, i9 < nn → fL2 (fg i9) = some (.inr (4, [.int (kd i9), .ref (pt i9), .long (wg i9), .int (wd i9), .int (nI i9), .int (hs i9), .int (bf i9)]))) → (∀ (b : Nat) (e : va_E), f b = some e → fL2 b = some e) → zH D (zA f s.heap.size) fL2 H → va_S (zA f s.heap.size) s.heap H locs → lv_has ls 3 [(0, .ref h), (1, .ref (fg j)), (2, .int (nI i))] → W p l e rmX5_firstLike s m ([.ref h, .ref (fg j)] : List Value).toArray below meth c H locs 0 0 (MQ below (va_Qi (fun (r : Int32) (f1 : zM) => (∀ (b : Nat) (e : va_E), f b = some e → f1 b = some e)) (zB D f s.heap.size) (zA f s.heap.size)) ([.ref h, .ref (fg j)] : List Value).toArray s rmX5_firstLike.cells rmX5_firstLike.slots (zA f s.heap.size)) (F0 m 2 ls []) := by
    intro n
    induction n with
    | zero => intro i fL2 H locs ls hmz; exact absurd hmz (Nat.not_lt_zero _)
    | succ n ih =>
      intro i fL2 H locs ls hmz hi a4 a5 F6 k3 hz hS hl
      refine lv_iload_n hx hb dX5_firstLike_2 rfl (lv_at hl 2 rfl) ?_
      refine lv_aload_n hx hb dX5_firstLike_3 rfl (lv_at hl 1 rfl) ?_
      have a7 : fL2 (fg j) = some (.inr (4, [.int (kd j), .ref (pt j), .long (wg j), .int (wd j), .int (nI j), .int (hs j), .int (bf j)])) := F6 j hj
      refine z_getN (v := .int (nI j)) C hz a7 zl4 mFNX5_28 (by decide) rfl dX5_firstLike_4 ?_
      refine lv_icmp_ge (tgt := 31) hx hb dX5_firstLike_7 (by decide) (fun c8 => ?_) (fun c8 => ?_)
      · replace c8 : (j ≤ i) := (nI_leI (a := j) (b := i) (by omega) (by omega)).mp c8
        refine lv_aload_n hx hb dX5_firstLike_31 rfl (lv_at hl 1 rfl) ?_
        refine z_getN (v := .int (nI j)) C hz a7 zl4 mFNX5_28 (by decide) rfl dX5_firstLike_32 ?_
        exact z_iret C hr rfl hz hS (by
              intro b e hb 
              have hb0 : fL2 b = some e := k3 b e hb 
              exact hb0) (Nat.le_of_ble_eq_true rfl) (Nat.le_of_ble_eq_true rfl) dX5_firstLike_35
      · replace c8 : ¬ (j ≤ i) := fun h => c8 ((nI_leI (a := j) (b := i) (by omega) (by omega)).mpr h)
        refine lv_aload_n hx hb dX5_firstLike_10 rfl (lv_at hl 0 rfl) ?_
        refine z_get (v := .ref al) C hz a4 zl5 mFX5_13 (by decide) rfl dX5_firstLike_11 ?_
        refine lv_iload_n hx hb dX5_firstLike_14 rfl (lv_at hl 2 rfl) ?_
        refine z_aldq i C hz a5 rfl rfl (by omega) (by omega) dX5_firstLike_15 ?_
        rw [hga i (by omega)]
        refine W.eq (g2 := F0 m 16 ls [.ref (fg i)]) rfl ?_
        refine lv_aload_n hx hb dX5_firstLike_16 rfl (lv_at hl 1 rfl) ?_
        have a9 : fL2 (fg i) = some (.inr (4, [.int (kd i), .ref (pt i), .long (wg i), .int (wd i), .int (nI i), .int (hs i), .int (bf i)])) := F6 i (show i < nn by omega)
        refine z_callVi (As := [.ref (fg j)]) C hz hS hA hl (k_X4_isLike l D cy fL2 (fg i) (kd i) (pt i) (wg i) (wd i) (nI i) (hs i) (bf i) (fg j) (kd j) (pt j) (wg j) (wd j) (nI j) (hs j) (bf j) a9 a7 ) zyX4_isLike mMX5_57 a9 zl4 rfl rfl (Nat.le_of_ble_eq_true rfl) ⟨Nat.le_of_ble_eq_true rfl, Nat.le_of_ble_eq_true rfl⟩ ⟨Nat.le_of_ble_eq_true rfl, Nat.le_of_ble_eq_true rfl⟩ dX5_firstLike_17 (fun r f10 H locs h11 hz hS => ?_)
        obtain ⟨rfl, k12⟩ := h11
        refine lv_if_eq (tgt := 25) hx hb dX5_firstLike_20 (by decide) (fun c13 => ?_) (fun c13 => ?_)
        · refine lv_iinc (v := nI (i + 1)) (lv' := [(2, .int (nI (i + 1))), (0, .ref h), (1, .ref (fg j))]) hx hb dX5_firstLike_25 hl (k := 2) rfl (nI_1 i) (by decide) rfl (fun ls hl => ?_)
          refine lv_goto (tgt := 2) hx hb dX5_firstLike_28 (by decide) ?_
          have a14 : f10 h = some (.inr (5, [.ref al, .ref ra, .int (nI nn)])) := k12 _ _ a4 
          have a15 : f10 al = some (.inl (cy 3, 60, .inr (.inr (.inr (.inr ga))))) := k12 _ _ a5 
          have F16 : ∀ i9 : Nat, i9 < nn → f10 (fg i9) = some (.inr (4, [.int (kd i9), .ref (pt i9), .long (wg i9), .int (wd i9), .int (nI i9), .int (hs i9), .int (bf i9)])) := fun i9 h9 => k12 _ _ (F6 i9 h9) 
          exact ih (i + 1) _ _ _ _ (by omega) (by omega) a14 a15 F16 (by
                intro b e hb 
                have hb0 : fL2 b = some e := k3 b e hb 
                have hb1 : f10 b = some e := k12 b e hb0 
                exact hb1) hz hS (lv_sub hl [1, 2, 0] rfl)
        · refine lv_iload_n hx hb dX5_firstLike_23 rfl (lv_at hl 2 rfl) ?_
          exact z_iret C hr rfl hz hS (by
                intro b e hb 
                have hb0 : fL2 b = some e := k3 b e hb 
                have hb1 : f10 b = some e := k12 b e hb0 
                exact hb1) (Nat.le_of_ble_eq_true rfl) (Nat.le_of_ble_eq_true rfl) dX5_firstLike_24
  exact lp1 (j - 0 + 1) 0 _ _ _ _ (Nat.lt_succ_self _) (by omega) p0 p1 hF (fun b e hb => hb) hz hS (lv_sub hl [1, 2, 0] rfl)
theorem fI_of {x : Int32} {j : Nat} (hj : j < 2 ^ 31) (h : x = nI j) : fI x = j := by rw [h]; exact nI_clamp hj
theorem isF_t {nn j : Nat} {x : Int32} (hn : nn ≤ 60) (hj : j < nn) (h : x = nI j) : isF nn x = true := by
  subst h
  have h0 : 0 ≤ nI j := nI_pos' (by omega)
  have h1 : nI j < nI nn := (nI_ltI (by omega) (by omega)).mpr hj
  simp [isF, h0, h1]
theorem isF_e {nn : Nat} {x : Int32} (hn : nn ≤ 60) (h : isF nn x = true) : ∃ j, j < nn ∧ x = nI j := by
  simp [isF] at h
  rcases pk_ix x (n := nn) (by omega) with h9 | h9 | h9
  · exact absurd h.1 (Int32.not_le.mpr h9)
  · exact absurd h.2 (Int32.not_lt.mpr h9)
  · exact h9
theorem isF_f {nn : Nat} {x : Int32} (hn : nn ≤ 60) (h : ∀ j, j < nn → x ≠ nI j) : isF nn x = false := by
  cases q : isF nn x with
  | false => rfl
  | true =>
    obtain ⟨j, hj, e⟩ := isF_e hn q
    exact absurd e (h j hj)
theorem oF_m1 (nn : Nat) : oF nn (-1) = true := by simp [oF]
theorem oF_m {nn : Nat} {x : Int32} (h : x = (-1)) : oF nn x = true := by simp [oF, h]
theorem oF_t {nn j : Nat} {x : Int32} (hn : nn ≤ 60) (hj : j < nn) (h : x = nI j) : oF nn x = true := by simp [oF, isF_t hn hj h]
theorem oF_f {nn : Nat} {x : Int32} (hn : nn ≤ 60) (h1 : ¬ x = (-1)) (h : ∀ j, j < nn → x ≠ nI j) : oF nn x = false := by simp [oF, isF_f hn h, h1]
theorem hN_t {nn j : Nat} {hs : Nat → Int32} {v : Int64} (hn : nn ≤ 60) (hj : j < nn) (h : v = lN j) : hs j = hN nn hs v := by
  have e : v.toInt32 = nI j := by rw [h]; exact lN_i j
  rw [hN, if_pos (isF_t hn hj e), fI_of (by omega) e]
theorem hN_f {nn : Nat} {hs : Nat → Int32} {v : Int64} (hn : nn ≤ 60) (hr : v = (-1) ∨ ∃ j, j < nn ∧ v = lN j) (h : ∀ j, j < nn → v ≠ lN j) : (0 : Int32) = hN nn hs v := by
  rcases hr with hr | ⟨j, hj, e⟩
  · have e : v.toInt32 = (-1) := by rw [hr]; decide
    rw [hN, if_neg (by rw [isF_f hn (fun j hj q => z_nim1 (j := j) (by omega) (q.symm.trans e))]; decide)]
  · exact absurd e (h j hj)
theorem zHF_p {k : Int32} {nn i : Nat} {hs : Nat → Int32} {gp : Nat → Int64} {hv : Int32} (hk : k = 4) (h : hv = zHF k nn hs gp i) : 31 * hv + hN nn hs (gp i) = zHF k nn hs gp (i + 1) := by
  show _ = 31 * zHF k nn hs gp i + _
  rw [if_pos hk, h]
theorem zHF_f {k : Int32} {nn i : Nat} {hs : Nat → Int32} {gp : Nat → Int64} {hv : Int32} (hk : ¬ k = 4) (h : hv = zHF k nn hs gp i) : 31 * hv + ((gp i) ^^^ ((gp i).toUInt64 >>> ((32 : Int32).toInt64.toUInt64 &&& Int64.toUInt64 63)).toInt64).toInt32 = zHF k nn hs gp (i + 1) := by
  show _ = 31 * zHF k nn hs gp i + _
  rw [if_neg hk, h, zFO, Int64.toInt32_xor]
theorem zHF_m {k : Int32} {nn i : Nat} {hs : Nat → Int32} {gp : Nat → Int64} {hv : Int32} (hk : ¬ k = 4) (h : hv = zHF k nn hs gp i) : 31 * hv + zFO (gp i) = zHF k nn hs gp (i + 1) := by
  show _ = 31 * zHF k nn hs gp i + _
  rw [if_neg hk, h]
abbrev rmX5_hashOfNumbered : Room := { frames := 1, cells := 0, slots := 0, locals := 22 }
set_option maxHeartbeats 4000000 in
set_option maxRecDepth 100000 in
theorem k_X5_hashOfNumbered (l : Launch) (D : va_G) (cy : Nat → ClassId) (f : zM) (h : Nat) (al : Nat) (ra : Nat) (ga : Nat → Option Nat) (nn : Nat) (fg : Nat → Nat) (pt : Nat → Nat) (kd : Nat → Int32) (ln : Nat → Nat) (pp : Nat → Nat → Int64) (wg : Nat → Int64) (wd : Nat → Int32) (hs : Nat → Int32) (bf : Nat → Int32) (v : Int64) (p0 : f h = some (.inr (5, [.ref al, .ref ra, .int (nI nn)]))) (p1 : f al = some (.inl (cy 3, 60, .inr (.inr (.inr (.inr ga)))))) (hF : ∀ i9 : Nat, i9 < nn → f (fg i9) = some (.inr (4, [.int (kd i9), .ref (pt i9), .long (wg i9), .int (wd i9), .int (nI i9), .int (hs i9), .int (bf i9)]))) (hn60 : nn ≤ 60) (hga : ∀ i, i < nn → ga i = some (fg i)) (hvr : v = (-1) ∨ ∃ j, j < nn ∧ v = lN j) : zCi l D cy yX5_hashOfNumbered cX5_hashOfNumbered 4 (Option.some Jvm.ClassFile.FieldType.int) rmX5_hashOfNumbered [.ref h, .long v] f (fun (r : Int32) (f1 : zM) => r = (hN nn hs v) ∧ (∀ (b : Nat) (e : va_E), f b = some e → f1 b = some e)) := by
  intro sz
  refine z_body (by decide +kernel) (Nat.le_of_ble_eq_true rfl) ?_
  intro p e s m below meth c ls C hr hin hsz hz hl
  subst hsz
  have hx := C.1
  have hb := C.2.1
  have hA : ∀ q, s.heap.size ≤ q → zA f s.heap.size q := fun q h => Or.inr h
  have hS : va_S (zA f s.heap.size) s.heap s.heap [] := va_S.rf
  have hl : lv_has ls 4 [(0, .ref h), (1, .long v)] := hl
  refine lv_aload_n hx hb dX5_hashOfNumbered_0 rfl (lv_at hl 0 rfl) ?_
  refine lv_lload_n hx hb dX5_hashOfNumbered_1 rfl (lv_at hl 1 rfl) ?_
  rcases z_findc v nn with ⟨j, hj, hva⟩ | hva
  · refine z_callVq (As := [.long v]) C hz hS hA hl (k_X5_find_A l D cy f h al ra ga nn fg v j p0 p1 hn60 hga hva hj) zyX5_find mMX5_24 p0 zl5 rfl rfl (Nat.le_of_ble_eq_true rfl) ⟨Nat.le_of_ble_eq_true rfl, Nat.le_of_ble_eq_true rfl⟩ ⟨Nat.le_of_ble_eq_true rfl, Nat.le_of_ble_eq_true rfl⟩ dX5_hashOfNumbered_2 (fun r f1 H locs h2 hz hS => ?_)
    obtain ⟨rfl, k3⟩ := h2
    refine W.eq (g2 := F0 m 5 ls [.ref (fg j)]) rfl ?_
    refine lv_astore_n (lv' := [(3, .ref (fg j)), (0, .ref h), (1, .long v)]) hx hb dX5_hashOfNumbered_5 rfl hl (by decide) rfl (fun ls hl => ?_)
    refine lv_aload_n hx hb dX5_hashOfNumbered_6 rfl (lv_at hl 0 rfl) ?_
    refine lv_ifnonnull (tgt := 14) hx hb dX5_hashOfNumbered_7 (by decide) ?_
    refine lv_aload_n hx hb dX5_hashOfNumbered_14 rfl (lv_at hl 0 rfl) ?_
    have F4 : ∀ i9 : Nat, i9 < nn → f1 (fg i9) = some (.inr (4, [.int (kd i9), .ref (pt i9), .long (wg i9), .int (wd i9), .int (nI i9), .int (hs i9), .int (bf i9)])) := fun i9 h9 => k3 _ _ (hF i9 h9) 
    have a5 : f1 (fg j) = some (.inr (4, [.int (kd j), .ref (pt j), .long (wg j), .int (wd j), .int (nI j), .int (hs j), .int (bf j)])) := F4 j hj
    refine z_getN (v := .int (hs j)) C hz a5 zl4 mFNX5_35 (by decide) rfl dX5_hashOfNumbered_15 ?_
    exact z_iret C hr rfl hz hS ⟨(hN_t hn60 hj hva), (by
          intro b e hb 
          have hb0 : f1 b = some e := k3 b e hb 
          exact hb0)⟩ (Nat.le_of_ble_eq_true rfl) (Nat.le_of_ble_eq_true rfl) dX5_hashOfNumbered_18
  · refine z_callVq (As := [.long v]) C hz hS hA hl (k_X5_find_B l D cy f h al ra nn v p0 hn60 hva) zyX5_find mMX5_24 p0 zl5 rfl rfl (Nat.le_of_ble_eq_true rfl) ⟨Nat.le_of_ble_eq_true rfl, Nat.le_of_ble_eq_true rfl⟩ ⟨Nat.le_of_ble_eq_true rfl, Nat.le_of_ble_eq_true rfl⟩ dX5_hashOfNumbered_2 (fun r f6 H locs h7 hz hS => ?_)
    obtain ⟨rfl, k8⟩ := h7
    refine W.eq (g2 := F0 m 5 ls [.null]) rfl ?_
    refine lv_astore_nN (lv' := [(3, .null), (0, .ref h), (1, .long v)]) hx hb dX5_hashOfNumbered_5 rfl hl (by decide) rfl (fun ls hl => ?_)
    refine lv_aload_nN hx hb dX5_hashOfNumbered_6 rfl (lv_at hl 0 rfl) ?_
    refine lv_ifnonnullN hx hb dX5_hashOfNumbered_7 ?_
    refine lv_iconst (v := 0) hx hb dX5_hashOfNumbered_10 (by decide) ?_
    refine lv_goto (tgt := 18) hx hb dX5_hashOfNumbered_11 (by decide) ?_
    exact z_iret C hr rfl hz hS ⟨(hN_f hn60 hvr hva), (by
          intro b e hb 
          have hb0 : f6 b = some e := k8 b e hb 
          exact hb0)⟩ (Nat.le_of_ble_eq_true rfl) (Nat.le_of_ble_eq_true rfl) dX5_hashOfNumbered_18
abbrev rmX5_sortKey : Room := { frames := 1, cells := 0, slots := 0, locals := 22 }
set_option maxHeartbeats 4000000 in
set_option maxRecDepth 100000 in
theorem k_X5_sortKey (l : Launch) (D : va_G) (cy : Nat → ClassId) (f : zM) (h : Nat) (al : Nat) (ra : Nat) (ga : Nat → Option Nat) (nn : Nat) (fg : Nat → Nat) (pt : Nat → Nat) (kd : Nat → Int32) (ln : Nat → Nat) (pp : Nat → Nat → Int64) (wg : Nat → Int64) (wd : Nat → Int32) (hs : Nat → Int32) (bf : Nat → Int32) (x : Int32) (v : Int64) (p0 : f h = some (.inr (5, [.ref al, .ref ra, .int (nI nn)]))) (p1 : f al = some (.inl (cy 3, 60, .inr (.inr (.inr (.inr ga)))))) (hF : ∀ i9 : Nat, i9 < nn → f (fg i9) = some (.inr (4, [.int (kd i9), .ref (pt i9), .long (wg i9), .int (wd i9), .int (nI i9), .int (hs i9), .int (bf i9)]))) (hn60 : nn ≤ 60) (hga : ∀ i, i < nn → ga i = some (fg i)) : zCl l D cy yX5_sortKey cX5_sortKey 5 (Option.some Jvm.ClassFile.FieldType.long) rmX5_sortKey [.ref h, .int x, .long v] f (fun (r : Int64) (f1 : zM) => (∀ (b : Nat) (e : va_E), f b = some e → f1 b = some e)) := by
  intro sz
  refine z_body (by decide +kernel) (Nat.le_of_ble_eq_true rfl) ?_
  intro p e s m below meth c ls C hr hin hsz hz hl
  subst hsz
  have hx := C.1
  have hb := C.2.1
  have hA : ∀ q, s.heap.size ≤ q → zA f s.heap.size q := fun q h => Or.inr h
  have hS : va_S (zA f s.heap.size) s.heap s.heap [] := va_S.rf
  have hl : lv_has ls 5 [(0, .ref h), (1, .int x), (2, .long v)] := hl
  refine lv_iload_n hx hb dX5_sortKey_0 rfl (lv_at hl 1 rfl) ?_
  refine lv_if_ne (tgt := 20) hx hb dX5_sortKey_1 (by decide) (fun c1 => ?_) (fun c1 => ?_)
  · refine lv_iload_n hx hb dX5_sortKey_20 rfl (lv_at hl 1 rfl) ?_
    refine lv_iconst (v := 4) hx hb dX5_sortKey_21 (by decide) ?_
    refine lv_icmp_ne (tgt := 50) hx hb dX5_sortKey_22 (by decide) (fun c2 => ?_) (fun c2 => ?_)
    · refine lv_lload_n hx hb dX5_sortKey_50 rfl (lv_at hl 2 rfl) ?_
      exact z_lret C hr hz hS (fun b e hb => hb) (Nat.le_of_ble_eq_true rfl) (Nat.le_of_ble_eq_true rfl) dX5_sortKey_51
    · refine lv_aload_n hx hb dX5_sortKey_25 rfl (lv_at hl 0 rfl) ?_
      refine lv_lload_n hx hb dX5_sortKey_26 rfl (lv_at hl 2 rfl) ?_
      rcases z_findc v nn with ⟨j, hj, hva⟩ | hva
      · refine z_callVq (As := [.long v]) C hz hS hA hl (k_X5_find_A l D cy f h al ra ga nn fg v j p0 p1 hn60 hga hva hj) zyX5_find mMX5_24 p0 zl5 rfl rfl (Nat.le_of_ble_eq_true rfl) ⟨Nat.le_of_ble_eq_true rfl, Nat.le_of_ble_eq_true rfl⟩ ⟨Nat.le_of_ble_eq_true rfl, Nat.le_of_ble_eq_true rfl⟩ dX5_sortKey_27 (fun r f3 H locs h4 hz hS => ?_)
        obtain ⟨rfl, k5⟩ := h4
        refine W.eq (g2 := F0 m 30 ls [.ref (fg j)]) rfl ?_
        refine lv_astore (lv' := [(4, .ref (fg j)), (0, .ref h), (1, .int x), (2, .long v)]) hx hb dX5_sortKey_30 hl (by decide) rfl (fun ls hl => ?_)
        refine lv_aload hx hb dX5_sortKey_32 (lv_at hl 0 rfl) ?_
        refine lv_ifnonnull (tgt := 43) hx hb dX5_sortKey_34 (by decide) ?_
        refine lv_aload hx hb dX5_sortKey_43 (lv_at hl 0 rfl) ?_
        have F6 : ∀ i9 : Nat, i9 < nn → f3 (fg i9) = some (.inr (4, [.int (kd i9), .ref (pt i9), .long (wg i9), .int (wd i9), .int (nI i9), .int (hs i9), .int (bf i9)])) := fun i9 h9 => k5 _ _ (hF i9 h9) 
        have a7 : f3 (fg j) = some (.inr (4, [.int (kd j), .ref (pt j), .long (wg j), .int (wd j), .int (nI j), .int (hs j), .int (bf j)])) := F6 j hj
        refine z_getN (v := .int (bf j)) C hz a7 zl4 mFNX5_69 (by decide) rfl dX5_sortKey_45 ?_
        refine lv_i2l (v := (bf j).toInt64) hx hb dX5_sortKey_48 rfl ?_
        exact z_lret C hr hz hS (by
              intro b e hb 
              have hb0 : f3 b = some e := k5 b e hb 
              exact hb0) (Nat.le_of_ble_eq_true rfl) (Nat.le_of_ble_eq_true rfl) dX5_sortKey_49
      · refine z_callVq (As := [.long v]) C hz hS hA hl (k_X5_find_B l D cy f h al ra nn v p0 hn60 hva) zyX5_find mMX5_24 p0 zl5 rfl rfl (Nat.le_of_ble_eq_true rfl) ⟨Nat.le_of_ble_eq_true rfl, Nat.le_of_ble_eq_true rfl⟩ ⟨Nat.le_of_ble_eq_true rfl, Nat.le_of_ble_eq_true rfl⟩ dX5_sortKey_27 (fun r f8 H locs h9 hz hS => ?_)
        obtain ⟨rfl, k10⟩ := h9
        refine W.eq (g2 := F0 m 30 ls [.null]) rfl ?_
        refine lv_astoreN (lv' := [(4, .null), (0, .ref h), (1, .int x), (2, .long v)]) hx hb dX5_sortKey_30 hl (by decide) rfl (fun ls hl => ?_)
        refine lv_aloadN hx hb dX5_sortKey_32 (lv_at hl 0 rfl) ?_
        refine lv_ifnonnullN hx hb dX5_sortKey_34 ?_
        refine lv_ldc2 (v := (-1)) hx hb C.2.2.2.1 (C.2.2.2.2.1 _ mKX5_100) dX5_sortKey_37 ?_
        refine lv_goto (tgt := 49) hx hb dX5_sortKey_40 (by decide) ?_
        exact z_lret C hr hz hS (by
              intro b e hb 
              have hb0 : f8 b = some e := k10 b e hb 
              exact hb0) (Nat.le_of_ble_eq_true rfl) (Nat.le_of_ble_eq_true rfl) dX5_sortKey_49
  · refine lv_lload_n hx hb dX5_sortKey_4 rfl (lv_at hl 2 rfl) ?_
    refine lv_lconst (v := 0) hx hb dX5_sortKey_5 (by decide) ?_
    refine W.lcmp hx hb dX5_sortKey_6 ?_
    refine lv_if_ge (tgt := 18) hx hb dX5_sortKey_7 (by decide) (fun c11 => ?_) (fun c11 => ?_)
    · refine lv_lload_n hx hb dX5_sortKey_18 rfl (lv_at hl 2 rfl) ?_
      exact z_lret C hr hz hS (fun b e hb => hb) (Nat.le_of_ble_eq_true rfl) (Nat.le_of_ble_eq_true rfl) dX5_sortKey_19
    · refine lv_lload_n hx hb dX5_sortKey_10 rfl (lv_at hl 2 rfl) ?_
      refine lv_ldc2 (v := 9223372036854775807) hx hb C.2.2.2.1 (C.2.2.2.2.1 _ mKX5_98) dX5_sortKey_11 ?_
      refine lv_lxor hx hb dX5_sortKey_14 ?_
      refine lv_goto (tgt := 19) hx hb dX5_sortKey_15 (by decide) ?_
      exact z_lret C hr hz hS (fun b e hb => hb) (Nat.le_of_ble_eq_true rfl) (Nat.le_of_ble_eq_true rfl) dX5_sortKey_19
abbrev rmX5_hashOf : Room := { frames := 2, cells := 0, slots := 0, locals := 45 }
set_option maxHeartbeats 4000000 in
set_option maxRecDepth 100000 in
theorem k_X5_hashOf (l : Launch) (D : va_G) (cy : Nat → ClassId) (f : zM) (h : Nat) (al : Nat) (ra : Nat) (ga : Nat → Option Nat) (nn : Nat) (fg : Nat → Nat) (pt : Nat → Nat) (kd : Nat → Int32) (ln : Nat → Nat) (pp : Nat → Nat → Int64) (wg : Nat → Int64) (wd : Nat → Int32) (hs : Nat → Int32) (bf : Nat → Int32) (q : Nat) (kdq : Int32) (pa : Nat) (wgq : Int64) (wdq : Int32) (nuq : Int32) (hsq : Int32) (bfq : Int32) (t : Nat) (gp : Nat → Int64) (p0 : f h = some (.inr (5, [.ref al, .ref ra, .int (nI nn)]))) (p1 : f al = some (.inl (cy 3, 60, .inr (.inr (.inr (.inr ga)))))) (p2 : f q = some (.inr (4, [.int kdq, .ref pa, .long wgq, .int wdq, .int nuq, .int hsq, .int bfq]))) (p3 : f pa = some (.inl (cy 1, t, .inr (.inl gp)))) (hF : ∀ i9 : Nat, i9 < nn → f (fg i9) = some (.inr (4, [.int (kd i9), .ref (pt i9), .long (wg i9), .int (wd i9), .int (nI i9), .int (hs i9), .int (bf i9)]))) (hn60 : nn ≤ 60) (hga : ∀ i, i < nn → ga i = some (fg i)) (ht : t < 2 ^ 31) (hnq : nuq = nI nn) (hrf : kdq = 4 → ∀ k, k < t → gp k = (-1) ∨ ∃ j9, j9 < nn ∧ gp k = lN j9) : zCi l D cy yX5_hashOf cX5_hashOf 8 (Option.some Jvm.ClassFile.FieldType.int) rmX5_hashOf [.ref h, .ref q] f (fun (r : Int32) (f1 : zM) => r = (zHash kdq nn t gp hs) ∧ (∀ (b : Nat) (e : va_E), f b = some e → f1 b = some e)) := by
  intro sz
  refine z_body (by decide +kernel) (Nat.le_of_ble_eq_true rfl) ?_
  intro p e s m below meth c ls C hr hin hsz hz hl
  subst hsz
  have hx := C.1
  have hb := C.2.1
  have hA : ∀ q, s.heap.size ≤ q → zA f s.heap.size q := fun q h => Or.inr h
  have hS : va_S (zA f s.heap.size) s.heap s.heap [] := va_S.rf
  have hl : lv_has ls 8 [(0, .ref h), (1, .ref q)] := hl
  refine lv_aload_n hx hb dX5_hashOf_0 rfl (lv_at hl 1 rfl) ?_
  refine z_getN (v := .int kdq) C hz p2 zl4 mFNX5_42 (by decide) rfl dX5_hashOf_1 ?_
  refine lv_bipush (v := 6) hx hb dX5_hashOf_4 (by decide) ?_
  refine lv_icmp_ne (tgt := 22) hx hb dX5_hashOf_6 (by decide) (fun c1 => ?_) (fun c1 => ?_)
  · refine lv_aload_n hx hb dX5_hashOf_22 rfl (lv_at hl 1 rfl) ?_
    refine z_getN (v := .int kdq) C hz p2 zl4 mFNX5_42 (by decide) rfl dX5_hashOf_23 ?_
    refine lv_istore_n (lv' := [(2, .int kdq), (0, .ref h), (1, .ref q)]) hx hb dX5_hashOf_26 rfl hl (by decide) rfl (fun ls hl => ?_)
    refine lv_aload_n hx hb dX5_hashOf_27 rfl (lv_at hl 2 rfl) ?_
    refine z_getN (v := .ref pa) C hz p2 zl4 mFNX5_45 (by decide) rfl dX5_hashOf_28 ?_
    refine lv_astore_n (lv' := [(3, .ref pa), (2, .int kdq), (0, .ref h), (1, .ref q)]) hx hb dX5_hashOf_31 rfl hl (by decide) rfl (fun ls hl => ?_)
    refine lv_aload_n hx hb dX5_hashOf_32 rfl (lv_at hl 0 rfl) ?_
    refine z_alen (v := nI t) 1 C hz p3 rfl rfl dX5_hashOf_33 ?_
    refine lv_istore (lv' := [(4, .int (nI t)), (3, .ref pa), (2, .int kdq), (0, .ref h), (1, .ref q)]) hx hb dX5_hashOf_34 hl (by decide) rfl (fun ls hl => ?_)
    refine lv_iconst (v := 0) hx hb dX5_hashOf_36 (by decide) ?_
    refine lv_istore (lv' := [(5, .int 0), (4, .int (nI t)), (3, .ref pa), (2, .int kdq), (0, .ref h), (1, .ref q)]) hx hb dX5_hashOf_37 hl (by decide) rfl (fun ls hl => ?_)
    have lp2 : ∀ (n : Nat) (hv : Int32) (i : Nat) (fL3 : zM) (H : Heap) (locs : List Loc) (ls : Array Slot), (t - i) < n → (i ≤ t) → (hv = zHF kdq nn hs gp i) → fL3 h = some (.inr (5, [.ref al, .ref ra, .int (nI nn)])) → fL3 al = some (.inl (cy 3, 60, .inr (.inr (.inr (.inr ga))))) → fL3 q = some (.inr (4, [.int kdq, .ref pa, .long wgq, .int wdq, .int nuq, .int hsq, .int bfq])) → fL3 pa = some (.inl (cy 1, t, .inr (.inl gp))) → (∀ i9 : Nat, i9 < nn → fL3 (fg i9) = some (.inr (4, [.int (kd i9), .ref (pt i9), .long (wg i9), .int (wd i9), .int (nI i9), .int (hs i9), .int (bf i9)]))) → (∀ (b : Nat) (e : va_E), f b = some e → fL3 b = some e) → zH D (zA f s.heap.size) fL3 H → va_S (zA f s.heap.size) s.heap H locs → lv_has ls 8 [(0, .ref h), (1, .ref q), (2, .int hv), (3, .ref pa), (4, .int (nI t)), (5, .int (nI i))] → W p l e rmX5_hashOf s m ([.ref h, .ref q] : List Value).toArray below meth c H locs 0 0 (MQ below (va_Qi (fun (r : Int32) (f1 : zM) => r = (zHash kdq nn t gp hs) ∧ (∀ (b : Nat) (e : va_E), f b = some e → f1 b = some e)) (zB D f s.heap.size) (zA f s.heap.size)) ([.ref h, .ref q] : List Value).toArray s rmX5_hashOf.cells rmX5_hashOf.slots (zA f s.heap.size)) (F0 m 39 ls []) := by
      intro n
      induction n with
      | zero => intro hv i fL3 H locs ls hmz; exact absurd hmz (Nat.not_lt_zero _)
      | succ n ih =>
        intro hv i fL3 H locs ls hmz hi hhv a5 a6 a7 a8 F9 k4 hz hS hl
        refine lv_iload hx hb dX5_hashOf_39 (lv_at hl 5 rfl) ?_
        refine lv_iload hx hb dX5_hashOf_41 (lv_at hl 4 rfl) ?_
        refine lv_icmp_ge (tgt := 90) hx hb dX5_hashOf_43 (by decide) (fun c10 => ?_) (fun c10 => ?_)
        · replace c10 : (t ≤ i) := (nI_leI (a := t) (b := i) (by omega) (by omega)).mp c10
          refine lv_iload_n hx hb dX5_hashOf_90 rfl (lv_at hl 2 rfl) ?_
          exact z_iret C hr rfl hz hS ⟨(by rw [zHash, if_neg c1, show t = i by omega]; exact hhv), (by
                intro b e hb 
                have hb0 : fL3 b = some e := k4 b e hb 
                exact hb0)⟩ (Nat.le_of_ble_eq_true rfl) (Nat.le_of_ble_eq_true rfl) dX5_hashOf_91
        · replace c10 : ¬ (t ≤ i) := fun h => c10 ((nI_leI (a := t) (b := i) (by omega) (by omega)).mpr h)
          refine lv_aload_n hx hb dX5_hashOf_46 rfl (lv_at hl 3 rfl) ?_
          refine lv_iload hx hb dX5_hashOf_47 (lv_at hl 5 rfl) ?_
          refine z_lald i C hz a8 rfl (by omega) (by omega) dX5_hashOf_49 ?_
          refine lv_lstore (lv' := [(6, .long (gp i)), (0, .ref h), (1, .ref q), (2, .int hv), (3, .ref pa), (4, .int (nI t)), (5, .int (nI i))]) hx hb dX5_hashOf_50 hl (by decide) rfl (fun ls hl => ?_)
          refine lv_bipush (v := 31) hx hb dX5_hashOf_52 (by decide) ?_
          refine lv_iload_n hx hb dX5_hashOf_54 rfl (lv_at hl 3 rfl) ?_
          refine lv_imul hx hb dX5_hashOf_55 ?_
          refine lv_aload_n hx hb dX5_hashOf_56 rfl (lv_at hl 2 rfl) ?_
          refine z_getN (v := .int kdq) C hz a7 zl4 mFNX5_42 (by decide) rfl dX5_hashOf_57 ?_
          refine lv_iconst (v := 4) hx hb dX5_hashOf_60 (by decide) ?_
          refine lv_icmp_ne (tgt := 73) hx hb dX5_hashOf_61 (by decide) (fun c11 => ?_) (fun c11 => ?_)
          · refine lv_lload hx hb dX5_hashOf_73 (lv_at hl 0 rfl) ?_
            refine lv_lload hx hb dX5_hashOf_75 (lv_at hl 0 rfl) ?_
            refine lv_bipush (v := 32) hx hb dX5_hashOf_77 (by decide) ?_
            refine lv_lushr (v := ((gp i).toUInt64 >>> ((32 : Int32).toInt64.toUInt64 &&& Int64.toUInt64 63)).toInt64) hx hb dX5_hashOf_79 rfl ?_
            refine lv_lxor hx hb dX5_hashOf_80 ?_
            refine lv_l2i (v := ((gp i) ^^^ (((gp i).toUInt64 >>> ((32 : Int32).toInt64.toUInt64 &&& Int64.toUInt64 63)).toInt64)).toInt32) hx hb dX5_hashOf_81 rfl ?_
            refine lv_iadd hx hb dX5_hashOf_82 ?_
            refine lv_istore_n (lv' := [(2, .int ((31 * hv) + (((gp i) ^^^ (((gp i).toUInt64 >>> ((32 : Int32).toInt64.toUInt64 &&& Int64.toUInt64 63)).toInt64)).toInt32))), (6, .long (gp i)), (0, .ref h), (1, .ref q), (3, .ref pa), (4, .int (nI t)), (5, .int (nI i))]) hx hb dX5_hashOf_83 rfl hl (by decide) rfl (fun ls hl => ?_)
            refine lv_iinc (v := nI (i + 1)) (lv' := [(5, .int (nI (i + 1))), (2, .int ((31 * hv) + (((gp i) ^^^ (((gp i).toUInt64 >>> ((32 : Int32).toInt64.toUInt64 &&& Int64.toUInt64 63)).toInt64)).toInt32))), (6, .long (gp i)), (0, .ref h), (1, .ref q), (3, .ref pa), (4, .int (nI t))]) hx hb dX5_hashOf_84 hl (k := 6) rfl (nI_1 i) (by decide) rfl (fun ls hl => ?_)
            refine lv_goto (tgt := 39) hx hb dX5_hashOf_87 (by decide) ?_
            exact ih ((31 * hv) + (((gp i) ^^^ (((gp i).toUInt64 >>> ((32 : Int32).toInt64.toUInt64 &&& Int64.toUInt64 63)).toInt64)).toInt32)) (i + 1) _ _ _ _ (by omega) (by omega) (zHF_f c11 hhv) a5 a6 a7 a8 F9 (by
                  intro b e hb 
                  have hb0 : fL3 b = some e := k4 b e hb 
                  exact hb0) hz hS (lv_sub hl [3, 4, 1, 5, 6, 0] rfl)
          · refine lv_aload_n hx hb dX5_hashOf_64 rfl (lv_at hl 1 rfl) ?_
            refine lv_lload hx hb dX5_hashOf_65 (lv_at hl 0 rfl) ?_
            refine z_callVi (As := [.long (gp i)]) C hz hS hA hl (k_X5_hashOfNumbered l D cy fL3 h al ra ga nn fg pt kd ln pp wg wd hs bf (gp i) a5 a6 F9 hn60 hga (hrf c11 i (by omega))) zyX5_hashOfNumbered mMX5_61 a5 zl5 rfl rfl (Nat.le_of_ble_eq_true rfl) ⟨Nat.le_of_ble_eq_true rfl, Nat.le_of_ble_eq_true rfl⟩ ⟨Nat.le_of_ble_eq_true rfl, Nat.le_of_ble_eq_true rfl⟩ dX5_hashOf_67 (fun r f12 H locs h13 hz hS => ?_)
            obtain ⟨rfl, k14⟩ := h13
            refine lv_goto (tgt := 82) hx hb dX5_hashOf_70 (by decide) ?_
            refine lv_iadd hx hb dX5_hashOf_82 ?_
            refine lv_istore_n (lv' := [(2, .int ((31 * hv) + (hN nn hs (gp i)))), (6, .long (gp i)), (0, .ref h), (1, .ref q), (3, .ref pa), (4, .int (nI t)), (5, .int (nI i))]) hx hb dX5_hashOf_83 rfl hl (by decide) rfl (fun ls hl => ?_)
            refine lv_iinc (v := nI (i + 1)) (lv' := [(5, .int (nI (i + 1))), (2, .int ((31 * hv) + (hN nn hs (gp i)))), (6, .long (gp i)), (0, .ref h), (1, .ref q), (3, .ref pa), (4, .int (nI t))]) hx hb dX5_hashOf_84 hl (k := 6) rfl (nI_1 i) (by decide) rfl (fun ls hl => ?_)
            refine lv_goto (tgt := 39) hx hb dX5_hashOf_87 (by decide) ?_
            have a15 : f12 h = some (.inr (5, [.ref al, .ref ra, .int (nI nn)])) := k14 _ _ a5 
            have a16 : f12 al = some (.inl (cy 3, 60, .inr (.inr (.inr (.inr ga))))) := k14 _ _ a6 
            have a17 : f12 q = some (.inr (4, [.int kdq, .ref pa, .long wgq, .int wdq, .int nuq, .int hsq, .int bfq])) := k14 _ _ a7 
            have a18 : f12 pa = some (.inl (cy 1, t, .inr (.inl gp))) := k14 _ _ a8 
            have F19 : ∀ i9 : Nat, i9 < nn → f12 (fg i9) = some (.inr (4, [.int (kd i9), .ref (pt i9), .long (wg i9), .int (wd i9), .int (nI i9), .int (hs i9), .int (bf i9)])) := fun i9 h9 => k14 _ _ (F9 i9 h9) 
            exact ih ((31 * hv) + (hN nn hs (gp i))) (i + 1) _ _ _ _ (by omega) (by omega) (zHF_p c11 hhv) a15 a16 a17 a18 F19 (by
                  intro b e hb 
                  have hb0 : fL3 b = some e := k4 b e hb 
                  have hb1 : f12 b = some e := k14 b e hb0 
                  exact hb1) hz hS (lv_sub hl [3, 4, 1, 5, 6, 0] rfl)
    exact lp2 (t - 0 + 1) kdq 0 _ _ _ _ (Nat.lt_succ_self _) (by omega) rfl p0 p1 p2 p3 hF (fun b e hb => hb) hz hS (lv_sub hl [4, 5, 3, 2, 1, 0] rfl)
  · refine lv_bipush (v := 31) hx hb dX5_hashOf_9 (by decide) ?_
    refine lv_aload_n hx hb dX5_hashOf_11 rfl (lv_at hl 1 rfl) ?_
    refine z_getN (v := .int kdq) C hz p2 zl4 mFNX5_42 (by decide) rfl dX5_hashOf_12 ?_
    refine lv_imul hx hb dX5_hashOf_15 ?_
    refine lv_aload_n hx hb dX5_hashOf_16 rfl (lv_at hl 1 rfl) ?_
    refine z_getN (v := .int nuq) C hz p2 zl4 mFNX5_28 (by decide) rfl dX5_hashOf_17 ?_
    refine lv_iadd hx hb dX5_hashOf_20 ?_
    exact z_iret C hr rfl hz hS ⟨(by rw [zHash, if_pos c1, hnq, c1]), (fun b e hb => hb)⟩ (Nat.le_of_ble_eq_true rfl) (Nat.le_of_ble_eq_true rfl) dX5_hashOf_21
abbrev rmX5_compareAtK : Room := { frames := 1, cells := 0, slots := 0, locals := 23 }
set_option maxHeartbeats 4000000 in
set_option maxRecDepth 100000 in
theorem k_X5_compareAtK (l : Launch) (D : va_G) (cy : Nat → ClassId) (f : zM) (qa : Nat) (kda : Int32) (paa : Nat) (wga : Int64) (wda : Int32) (nua : Int32) (hsa : Int32) (bfa : Int32) (ta : Nat) (gpa : Nat → Int64) (qb : Nat) (kdb : Int32) (pab : Nat) (wgb : Int64) (wdb : Int32) (nub : Int32) (hsb : Int32) (bfb : Int32) (tb : Nat) (gpb : Nat → Int64) (p0 : f qa = some (.inr (4, [.int kda, .ref paa, .long wga, .int wda, .int nua, .int hsa, .int bfa]))) (p1 : f qb = some (.inr (4, [.int kdb, .ref pab, .long wgb, .int wdb, .int nub, .int hsb, .int bfb]))) (p2 : f paa = some (.inl (cy 1, ta, .inr (.inl gpa)))) (p3 : f pab = some (.inl (cy 1, tb, .inr (.inl gpb))))  (hta : ta < 2 ^ 31) (htb : tb < 2 ^ 31) (h3a : 3 ≤ ta) (h3b : 3 ≤ tb) : zCi l D cy yX5_compareAtK cX5_compareAtK 3 (Option.some Jvm.ClassFile.FieldType.int) rmX5_compareAtK [.ref qa, .ref qb] f (fun (r : Int32) (f1 : zM) => (∀ (b : Nat) (e : va_E), f b = some e → f1 b = some e)) := by
  intro sz
  refine z_body (by decide +kernel) (Nat.le_of_ble_eq_true rfl) ?_
  intro p e s m below meth c ls C hr hin hsz hz hl
  subst hsz
  have hx := C.1
  have hb := C.2.1
  have hA : ∀ q, s.heap.size ≤ q → zA f s.heap.size q := fun q h => Or.inr h
  have hS : va_S (zA f s.heap.size) s.heap s.heap [] := va_S.rf
  have hl : lv_has ls 3 [(0, .ref qa), (1, .ref qb)] := hl
  refine lv_aload_n hx hb dX5_compareAtK_0 rfl (lv_at hl 0 rfl) ?_
  refine z_getN (v := .ref paa) C hz p0 zl4 mFNX5_45 (by decide) rfl dX5_compareAtK_1 ?_
  refine lv_iconst (v := 2) hx hb dX5_compareAtK_4 (by decide) ?_
  refine z_lald 2 C hz p2 (by decide) (by omega) (by omega) dX5_compareAtK_5 ?_
  refine lv_aload_n hx hb dX5_compareAtK_6 rfl (lv_at hl 1 rfl) ?_
  refine z_getN (v := .ref pab) C hz p1 zl4 mFNX5_45 (by decide) rfl dX5_compareAtK_7 ?_
  refine lv_iconst (v := 2) hx hb dX5_compareAtK_10 (by decide) ?_
  refine z_lald 2 C hz p3 (by decide) (by omega) (by omega) dX5_compareAtK_11 ?_
  refine z_callSi (As := [.long (gpa 2), .long (gpb 2)]) C hz hS hA hl (k_J13_compare_74951 l D cy f (gpa 2) (gpb 2)  ) zyJ13_compare_74951 mMX5_84 rfl rfl (Nat.le_of_ble_eq_true rfl) ⟨Nat.le_of_ble_eq_true rfl, Nat.le_of_ble_eq_true rfl⟩ ⟨Nat.le_of_ble_eq_true rfl, Nat.le_of_ble_eq_true rfl⟩ dX5_compareAtK_12 (fun r3 f1 H locs h2 hz hS => ?_)
  have k4 := h2
  refine lv_istore_n (lv' := [(2, .int r3), (0, .ref qa), (1, .ref qb)]) hx hb dX5_compareAtK_15 rfl hl (by decide) rfl (fun ls hl => ?_)
  refine lv_iload_n hx hb dX5_compareAtK_16 rfl (lv_at hl 0 rfl) ?_
  refine lv_if_eq (tgt := 24) hx hb dX5_compareAtK_17 (by decide) (fun c5 => ?_) (fun c5 => ?_)
  · refine lv_aload_n hx hb dX5_compareAtK_24 rfl (lv_at hl 1 rfl) ?_
    have a6 : f1 qa = some (.inr (4, [.int kda, .ref paa, .long wga, .int wda, .int nua, .int hsa, .int bfa])) := k4 _ _ p0 
    refine z_getN (v := .ref paa) C hz a6 zl4 mFNX5_45 (by decide) rfl dX5_compareAtK_25 ?_
    refine lv_iconst (v := 1) hx hb dX5_compareAtK_28 (by decide) ?_
    have a7 : f1 paa = some (.inl (cy 1, ta, .inr (.inl gpa))) := k4 _ _ p2 
    refine z_lald 1 C hz a7 (by decide) (by omega) (by omega) dX5_compareAtK_29 ?_
    refine lv_aload_n hx hb dX5_compareAtK_30 rfl (lv_at hl 2 rfl) ?_
    have a8 : f1 qb = some (.inr (4, [.int kdb, .ref pab, .long wgb, .int wdb, .int nub, .int hsb, .int bfb])) := k4 _ _ p1 
    refine z_getN (v := .ref pab) C hz a8 zl4 mFNX5_45 (by decide) rfl dX5_compareAtK_31 ?_
    refine lv_iconst (v := 1) hx hb dX5_compareAtK_34 (by decide) ?_
    have a9 : f1 pab = some (.inl (cy 1, tb, .inr (.inl gpb))) := k4 _ _ p3 
    refine z_lald 1 C hz a9 (by decide) (by omega) (by omega) dX5_compareAtK_35 ?_
    refine z_callSi (As := [.long (gpa 1), .long (gpb 1)]) C hz hS hA hl (k_J13_compare_74951 l D cy f1 (gpa 1) (gpb 1)  ) zyJ13_compare_74951 mMX5_84 rfl rfl (Nat.le_of_ble_eq_true rfl) ⟨Nat.le_of_ble_eq_true rfl, Nat.le_of_ble_eq_true rfl⟩ ⟨Nat.le_of_ble_eq_true rfl, Nat.le_of_ble_eq_true rfl⟩ dX5_compareAtK_36 (fun r12 f10 H locs h11 hz hS => ?_)
    have k13 := h11
    exact z_iret C hr rfl hz hS (by
          intro b e hb 
          have hb0 : f1 b = some e := k4 b e hb 
          have hb1 : f10 b = some e := k13 b e hb0 
          exact hb1) (Nat.le_of_ble_eq_true rfl) (Nat.le_of_ble_eq_true rfl) dX5_compareAtK_39
  · refine lv_iload_n hx hb dX5_compareAtK_20 rfl (lv_at hl 0 rfl) ?_
    refine lv_goto (tgt := 39) hx hb dX5_compareAtK_21 (by decide) ?_
    exact z_iret C hr rfl hz hS (by
          intro b e hb 
          have hb0 : f1 b = some e := k4 b e hb 
          exact hb0) (Nat.le_of_ble_eq_true rfl) (Nat.le_of_ble_eq_true rfl) dX5_compareAtK_39
abbrev rmX5_compareFrom : Room := { frames := 2, cells := 0, slots := 0, locals := 46 }
set_option maxHeartbeats 4000000 in
set_option maxRecDepth 100000 in
theorem k_X5_compareFrom (l : Launch) (D : va_G) (cy : Nat → ClassId) (f : zM) (h : Nat) (al : Nat) (ra : Nat) (ga : Nat → Option Nat) (nn : Nat) (fg : Nat → Nat) (pt : Nat → Nat) (kd : Nat → Int32) (ln : Nat → Nat) (pp : Nat → Nat → Int64) (wg : Nat → Int64) (wd : Nat → Int32) (hs : Nat → Int32) (bf : Nat → Int32) (qa : Nat) (kda : Int32) (paa : Nat) (wga : Int64) (wda : Int32) (nua : Int32) (hsa : Int32) (bfa : Int32) (ta : Nat) (gpa : Nat → Int64) (qb : Nat) (kdb : Int32) (pab : Nat) (wgb : Int64) (wdb : Int32) (nub : Int32) (hsb : Int32) (bfb : Int32) (tb : Nat) (gpb : Nat → Int64) (x : Int32) (z : Nat) (p0 : f h = some (.inr (5, [.ref al, .ref ra, .int (nI nn)]))) (p1 : f al = some (.inl (cy 3, 60, .inr (.inr (.inr (.inr ga)))))) (p2 : f qa = some (.inr (4, [.int kda, .ref paa, .long wga, .int wda, .int nua, .int hsa, .int bfa]))) (p3 : f qb = some (.inr (4, [.int kdb, .ref pab, .long wgb, .int wdb, .int nub, .int hsb, .int bfb]))) (p4 : f paa = some (.inl (cy 1, ta, .inr (.inl gpa)))) (p5 : f pab = some (.inl (cy 1, tb, .inr (.inl gpb)))) (hF : ∀ i9 : Nat, i9 < nn → f (fg i9) = some (.inr (4, [.int (kd i9), .ref (pt i9), .long (wg i9), .int (wd i9), .int (nI i9), .int (hs i9), .int (bf i9)]))) (hn60 : nn ≤ 60) (hga : ∀ i, i < nn → ga i = some (fg i)) (hta : ta < 2 ^ 31) (htb : tb < 2 ^ 31) (hxz : x = nI z) (hzb : z < 2 ^ 30) : zCi l D cy yX5_compareFrom cX5_compareFrom 7 (Option.some Jvm.ClassFile.FieldType.int) rmX5_compareFrom [.ref h, .int x, .ref qa, .ref qb] f (fun (r : Int32) (f1 : zM) => (∀ (b : Nat) (e : va_E), f b = some e → f1 b = some e)) := by
  intro sz
  refine z_body (by decide +kernel) (Nat.le_of_ble_eq_true rfl) ?_
  intro p e s m below meth c ls C hr hin hsz hz hl
  subst hsz
  have hx := C.1
  have hb := C.2.1
  have hA : ∀ q, s.heap.size ≤ q → zA f s.heap.size q := fun q h => Or.inr h
  have hS : va_S (zA f s.heap.size) s.heap s.heap [] := va_S.rf
  have hl : lv_has ls 7 [(0, .ref h), (1, .int x), (2, .ref qa), (3, .ref qb)] := hl
  refine lv_aload_n hx hb dX5_compareFrom_0 rfl (lv_at hl 2 rfl) ?_
  refine z_getN (v := .ref paa) C hz p2 zl4 mFNX5_45 (by decide) rfl dX5_compareFrom_1 ?_
  refine z_alen (v := nI ta) 1 C hz p4 rfl rfl dX5_compareFrom_4 ?_
  refine lv_aload_n hx hb dX5_compareFrom_5 rfl (lv_at hl 3 rfl) ?_
  refine z_getN (v := .ref pab) C hz p3 zl4 mFNX5_45 (by decide) rfl dX5_compareFrom_6 ?_
  refine z_alen (v := nI tb) 1 C hz p5 rfl rfl dX5_compareFrom_9 ?_
  refine va_mmin hx hb (by rw [C.2.2.1]; exact hl.1.symm) C.2.2.2.1 (C.2.2.2.2.1 _ mMX5_89) (C.2.2.2.2.1 _ mS_yMin) (C.2.2.2.2.1 _ mIn_RJ9) (C.2.2.2.2.1 _ mC_yMin) (Nat.le_of_ble_eq_true rfl) (Nat.le_of_ble_eq_true rfl) (Nat.le_of_ble_eq_true rfl) (Nat.le_of_ble_eq_true rfl) dX5_compareFrom_10 ?_
  refine lv_topi (fun y1 e2 => ?_)
  obtain rfl : y1 = nI (min ta tb) := e2.trans (z_min ta tb hta htb)
  refine lv_istore (lv' := [(4, .int (nI (min ta tb))), (0, .ref h), (1, .int x), (2, .ref qa), (3, .ref qb)]) hx hb dX5_compareFrom_13 hl (by decide) rfl (fun ls hl => ?_)
  refine lv_iload_n hx hb dX5_compareFrom_15 rfl (lv_at hl 2 rfl) ?_
  refine lv_topi (fun y3 e4 => ?_)
  obtain rfl : y3 = nI z := e4.trans hxz
  refine lv_istore (lv' := [(5, .int (nI z)), (4, .int (nI (min ta tb))), (0, .ref h), (1, .int x), (2, .ref qa), (3, .ref qb)]) hx hb dX5_compareFrom_16 hl (by decide) rfl (fun ls hl => ?_)
  have lp5 : ∀ (n : Nat) (i : Nat) (fL6 : zM) (H : Heap) (locs : List Loc) (ls : Array Slot), (min ta tb - i) < n → (i < 2 ^ 30 ∨ i ≤ min ta tb) → fL6 h = some (.inr (5, [.ref al, .ref ra, .int (nI nn)])) → fL6 al = some (.inl (cy 3, 60, .inr (.inr (.inr (.inr ga))))) → fL6 qa = some (.inr (4, [.int kda, .ref paa, .long wga, .int wda, .int nua, .int hsa, .int bfa])) → fL6 qb = some (.inr (4, [.int kdb, .ref pab, .long wgb, .int wdb, .int nub, .int hsb, .int bfb])) → fL6 paa = some (.inl (cy 1, ta, .inr (.inl gpa))) → fL6 pab = some (.inl (cy 1, tb, .inr (.inl gpb))) → (∀ i9 : Nat, i9 < nn → fL6 (fg i9) = some (.inr (4, [.int (kd i9), .ref (pt i9), .long (wg i9), .int (wd i9), .int (nI i9), .int (hs i9), .int (bf i9)]))) → (∀ (b : Nat) (e : va_E), f b = some e → fL6 b = some e) → zH D (zA f s.heap.size) fL6 H → va_S (zA f s.heap.size) s.heap H locs → lv_has ls 7 [(0, .ref h), (2, .ref qa), (3, .ref qb), (4, .int (nI (min ta tb))), (5, .int (nI i))] → W p l e rmX5_compareFrom s m ([.ref h, .int x, .ref qa, .ref qb] : List Value).toArray below meth c H locs 0 0 (MQ below (va_Qi (fun (r : Int32) (f1 : zM) => (∀ (b : Nat) (e : va_E), f b = some e → f1 b = some e)) (zB D f s.heap.size) (zA f s.heap.size)) ([.ref h, .int x, .ref qa, .ref qb] : List Value).toArray s rmX5_compareFrom.cells rmX5_compareFrom.slots (zA f s.heap.size)) (F0 m 18 ls []) := by
    intro n
    induction n with
    | zero => intro i fL6 H locs ls hmz; exact absurd hmz (Nat.not_lt_zero _)
    | succ n ih =>
      intro i fL6 H locs ls hmz hi a8 a9 a10 a11 a12 a13 F14 k7 hz hS hl
      refine lv_iload hx hb dX5_compareFrom_18 (lv_at hl 4 rfl) ?_
      refine lv_iload hx hb dX5_compareFrom_20 (lv_at hl 3 rfl) ?_
      refine lv_icmp_ge (tgt := 74) hx hb dX5_compareFrom_22 (by decide) (fun c15 => ?_) (fun c15 => ?_)
      · replace c15 : (min ta tb ≤ i) := (nI_leI (a := min ta tb) (b := i) (by omega) (by omega)).mp c15
        refine lv_aload_n hx hb dX5_compareFrom_74 rfl (lv_at hl 1 rfl) ?_
        refine z_getN (v := .ref paa) C hz a10 zl4 mFNX5_45 (by decide) rfl dX5_compareFrom_75 ?_
        refine z_alen (v := nI ta) 1 C hz a12 rfl rfl dX5_compareFrom_78 ?_
        refine lv_aload_n hx hb dX5_compareFrom_79 rfl (lv_at hl 2 rfl) ?_
        refine z_getN (v := .ref pab) C hz a11 zl4 mFNX5_45 (by decide) rfl dX5_compareFrom_80 ?_
        refine z_alen (v := nI tb) 1 C hz a13 rfl rfl dX5_compareFrom_83 ?_
        refine z_callSi (As := [.int (nI ta), .int (nI tb)]) C hz hS hA hl (k_J6_compare_7cf53 l D cy fL6 (nI ta) (nI tb)  ) zyJ6_compare_7cf53 mMX5_72 rfl rfl (Nat.le_of_ble_eq_true rfl) ⟨Nat.le_of_ble_eq_true rfl, Nat.le_of_ble_eq_true rfl⟩ ⟨Nat.le_of_ble_eq_true rfl, Nat.le_of_ble_eq_true rfl⟩ dX5_compareFrom_84 (fun r18 f16 H locs h17 hz hS => ?_)
        have k19 := h17
        exact z_iret C hr rfl hz hS (by
              intro b e hb 
              have hb0 : fL6 b = some e := k7 b e hb 
              have hb1 : f16 b = some e := k19 b e hb0 
              exact hb1) (Nat.le_of_ble_eq_true rfl) (Nat.le_of_ble_eq_true rfl) dX5_compareFrom_87
      · replace c15 : ¬ (min ta tb ≤ i) := fun h => c15 ((nI_leI (a := min ta tb) (b := i) (by omega) (by omega)).mpr h)
        refine lv_aload_n hx hb dX5_compareFrom_25 rfl (lv_at hl 0 rfl) ?_
        refine lv_aload_n hx hb dX5_compareFrom_26 rfl (lv_at hl 1 rfl) ?_
        refine z_getN (v := .int kda) C hz a10 zl4 mFNX5_42 (by decide) rfl dX5_compareFrom_27 ?_
        refine lv_aload_n hx hb dX5_compareFrom_30 rfl (lv_at hl 1 rfl) ?_
        refine z_getN (v := .ref paa) C hz a10 zl4 mFNX5_45 (by decide) rfl dX5_compareFrom_31 ?_
        refine lv_iload hx hb dX5_compareFrom_34 (lv_at hl 4 rfl) ?_
        refine z_lald i C hz a12 rfl (by omega) (by omega) dX5_compareFrom_36 ?_
        refine z_callVl (As := [.int kda, .long (gpa i)]) C hz hS hA hl (k_X5_sortKey l D cy fL6 h al ra ga nn fg pt kd ln pp wg wd hs bf kda (gpa i) a8 a9 F14 hn60 hga) zyX5_sortKey mMX5_94 a8 zl5 rfl rfl (Nat.le_of_ble_eq_true rfl) ⟨Nat.le_of_ble_eq_true rfl, Nat.le_of_ble_eq_true rfl⟩ ⟨Nat.le_of_ble_eq_true rfl, Nat.le_of_ble_eq_true rfl⟩ dX5_compareFrom_37 (fun r22 f20 H locs h21 hz hS => ?_)
        have k23 := h21
        refine lv_aload_n hx hb dX5_compareFrom_40 rfl (lv_at hl 0 rfl) ?_
        refine lv_aload_n hx hb dX5_compareFrom_41 rfl (lv_at hl 2 rfl) ?_
        have a24 : f20 qb = some (.inr (4, [.int kdb, .ref pab, .long wgb, .int wdb, .int nub, .int hsb, .int bfb])) := k23 _ _ a11 
        refine z_getN (v := .int kdb) C hz a24 zl4 mFNX5_42 (by decide) rfl dX5_compareFrom_42 ?_
        refine lv_aload_n hx hb dX5_compareFrom_45 rfl (lv_at hl 2 rfl) ?_
        refine z_getN (v := .ref pab) C hz a24 zl4 mFNX5_45 (by decide) rfl dX5_compareFrom_46 ?_
        refine lv_iload hx hb dX5_compareFrom_49 (lv_at hl 4 rfl) ?_
        have a25 : f20 pab = some (.inl (cy 1, tb, .inr (.inl gpb))) := k23 _ _ a13 
        refine z_lald i C hz a25 rfl (by omega) (by omega) dX5_compareFrom_51 ?_
        have a26 : f20 h = some (.inr (5, [.ref al, .ref ra, .int (nI nn)])) := k23 _ _ a8 
        have a27 : f20 al = some (.inl (cy 3, 60, .inr (.inr (.inr (.inr ga))))) := k23 _ _ a9 
        have F28 : ∀ i9 : Nat, i9 < nn → f20 (fg i9) = some (.inr (4, [.int (kd i9), .ref (pt i9), .long (wg i9), .int (wd i9), .int (nI i9), .int (hs i9), .int (bf i9)])) := fun i9 h9 => k23 _ _ (F14 i9 h9) 
        refine z_callVl (As := [.int kdb, .long (gpb i)]) C hz hS hA hl (k_X5_sortKey l D cy f20 h al ra ga nn fg pt kd ln pp wg wd hs bf kdb (gpb i) a26 a27 F28 hn60 hga) zyX5_sortKey mMX5_94 a26 zl5 rfl rfl (Nat.le_of_ble_eq_true rfl) ⟨Nat.le_of_ble_eq_true rfl, Nat.le_of_ble_eq_true rfl⟩ ⟨Nat.le_of_ble_eq_true rfl, Nat.le_of_ble_eq_true rfl⟩ dX5_compareFrom_52 (fun r31 f29 H locs h30 hz hS => ?_)
        have k32 := h30
        refine z_callSi (As := [.long r22, .long r31]) C hz hS hA hl (k_J13_compare_74951 l D cy f29 r22 r31  ) zyJ13_compare_74951 mMX5_84 rfl rfl (Nat.le_of_ble_eq_true rfl) ⟨Nat.le_of_ble_eq_true rfl, Nat.le_of_ble_eq_true rfl⟩ ⟨Nat.le_of_ble_eq_true rfl, Nat.le_of_ble_eq_true rfl⟩ dX5_compareFrom_55 (fun r35 f33 H locs h34 hz hS => ?_)
        have k36 := h34
        refine lv_istore (lv' := [(6, .int r35), (0, .ref h), (2, .ref qa), (3, .ref qb), (4, .int (nI (min ta tb))), (5, .int (nI i))]) hx hb dX5_compareFrom_58 hl (by decide) rfl (fun ls hl => ?_)
        refine lv_iload hx hb dX5_compareFrom_60 (lv_at hl 0 rfl) ?_
        refine lv_if_eq (tgt := 68) hx hb dX5_compareFrom_62 (by decide) (fun c37 => ?_) (fun c37 => ?_)
        · refine lv_iinc (v := nI (i + 1)) (lv' := [(5, .int (nI (i + 1))), (6, .int r35), (0, .ref h), (2, .ref qa), (3, .ref qb), (4, .int (nI (min ta tb)))]) hx hb dX5_compareFrom_68 hl (k := 5) rfl (nI_1 i) (by decide) rfl (fun ls hl => ?_)
          refine lv_goto (tgt := 18) hx hb dX5_compareFrom_71 (by decide) ?_
          have a38 : f29 h = some (.inr (5, [.ref al, .ref ra, .int (nI nn)])) := k32 _ _ a26 
          have a39 : f33 h = some (.inr (5, [.ref al, .ref ra, .int (nI nn)])) := k36 _ _ a38 
          have a40 : f29 al = some (.inl (cy 3, 60, .inr (.inr (.inr (.inr ga))))) := k32 _ _ a27 
          have a41 : f33 al = some (.inl (cy 3, 60, .inr (.inr (.inr (.inr ga))))) := k36 _ _ a40 
          have a42 : f20 qa = some (.inr (4, [.int kda, .ref paa, .long wga, .int wda, .int nua, .int hsa, .int bfa])) := k23 _ _ a10 
          have a43 : f29 qa = some (.inr (4, [.int kda, .ref paa, .long wga, .int wda, .int nua, .int hsa, .int bfa])) := k32 _ _ a42 
          have a44 : f33 qa = some (.inr (4, [.int kda, .ref paa, .long wga, .int wda, .int nua, .int hsa, .int bfa])) := k36 _ _ a43 
          have a45 : f29 qb = some (.inr (4, [.int kdb, .ref pab, .long wgb, .int wdb, .int nub, .int hsb, .int bfb])) := k32 _ _ a24 
          have a46 : f33 qb = some (.inr (4, [.int kdb, .ref pab, .long wgb, .int wdb, .int nub, .int hsb, .int bfb])) := k36 _ _ a45 
          have a47 : f20 paa = some (.inl (cy 1, ta, .inr (.inl gpa))) := k23 _ _ a12 
          have a48 : f29 paa = some (.inl (cy 1, ta, .inr (.inl gpa))) := k32 _ _ a47 
          have a49 : f33 paa = some (.inl (cy 1, ta, .inr (.inl gpa))) := k36 _ _ a48 
          have a50 : f29 pab = some (.inl (cy 1, tb, .inr (.inl gpb))) := k32 _ _ a25 
          have a51 : f33 pab = some (.inl (cy 1, tb, .inr (.inl gpb))) := k36 _ _ a50 
          have F52 : ∀ i9 : Nat, i9 < nn → f29 (fg i9) = some (.inr (4, [.int (kd i9), .ref (pt i9), .long (wg i9), .int (wd i9), .int (nI i9), .int (hs i9), .int (bf i9)])) := fun i9 h9 => k32 _ _ (F28 i9 h9) 
          have F53 : ∀ i9 : Nat, i9 < nn → f33 (fg i9) = some (.inr (4, [.int (kd i9), .ref (pt i9), .long (wg i9), .int (wd i9), .int (nI i9), .int (hs i9), .int (bf i9)])) := fun i9 h9 => k36 _ _ (F52 i9 h9) 
          exact ih (i + 1) _ _ _ _ (by omega) (Or.inr (by omega)) a39 a41 a44 a46 a49 a51 F53 (by
                intro b e hb 
                have hb0 : fL6 b = some e := k7 b e hb 
                have hb1 : f20 b = some e := k23 b e hb0 
                have hb2 : f29 b = some e := k32 b e hb1 
                have hb3 : f33 b = some e := k36 b e hb2 
                exact hb3) hz hS (lv_sub hl [2, 3, 4, 5, 0] rfl)
        · refine lv_iload hx hb dX5_compareFrom_65 (lv_at hl 0 rfl) ?_
          exact z_iret C hr rfl hz hS (by
                intro b e hb 
                have hb0 : fL6 b = some e := k7 b e hb 
                have hb1 : f20 b = some e := k23 b e hb0 
                have hb2 : f29 b = some e := k32 b e hb1 
                have hb3 : f33 b = some e := k36 b e hb2 
                exact hb3) (Nat.le_of_ble_eq_true rfl) (Nat.le_of_ble_eq_true rfl) dX5_compareFrom_67
  exact lp5 (min ta tb - z + 1) z _ _ _ _ (Nat.lt_succ_self _) (Or.inl hzb) p0 p1 p2 p3 p4 p5 hF (fun b e hb => hb) hz hS (lv_sub hl [2, 4, 5, 1, 0] rfl)
abbrev rmX5_compare : Room := { frames := 3, cells := 0, slots := 0, locals := 72 }
set_option maxHeartbeats 4000000 in
set_option maxRecDepth 100000 in
theorem k_X5_compare (l : Launch) (D : va_G) (cy : Nat → ClassId) (f : zM) (h : Nat) (al : Nat) (ra : Nat) (ga : Nat → Option Nat) (nn : Nat) (fg : Nat → Nat) (pt : Nat → Nat) (kd : Nat → Int32) (ln : Nat → Nat) (pp : Nat → Nat → Int64) (wg : Nat → Int64) (wd : Nat → Int32) (hs : Nat → Int32) (bf : Nat → Int32) (qa : Nat) (kda : Int32) (paa : Nat) (wga : Int64) (wda : Int32) (nua : Int32) (hsa : Int32) (bfa : Int32) (ta : Nat) (gpa : Nat → Int64) (qb : Nat) (kdb : Int32) (pab : Nat) (wgb : Int64) (wdb : Int32) (nub : Int32) (hsb : Int32) (bfb : Int32) (tb : Nat) (gpb : Nat → Int64) (p0 : f h = some (.inr (5, [.ref al, .ref ra, .int (nI nn)]))) (p1 : f al = some (.inl (cy 3, 60, .inr (.inr (.inr (.inr ga)))))) (p2 : f qa = some (.inr (4, [.int kda, .ref paa, .long wga, .int wda, .int nua, .int hsa, .int bfa]))) (p3 : f qb = some (.inr (4, [.int kdb, .ref pab, .long wgb, .int wdb, .int nub, .int hsb, .int bfb]))) (p4 : f paa = some (.inl (cy 1, ta, .inr (.inl gpa)))) (p5 : f pab = some (.inl (cy 1, tb, .inr (.inl gpb)))) (hF : ∀ i9 : Nat, i9 < nn → f (fg i9) = some (.inr (4, [.int (kd i9), .ref (pt i9), .long (wg i9), .int (wd i9), .int (nI i9), .int (hs i9), .int (bf i9)]))) (hn60 : nn ≤ 60) (hga : ∀ i, i < nn → ga i = some (fg i)) (hta : ta < 2 ^ 31) (htb : tb < 2 ^ 31) (h5a : kda = 5 → 3 ≤ ta) (h5b : kdb = 5 → 3 ≤ tb) : zCi l D cy yX5_compare cX5_compare 4 (Option.some Jvm.ClassFile.FieldType.int) rmX5_compare [.ref h, .ref qa, .ref qb] f (fun (r : Int32) (f1 : zM) => (∀ (b : Nat) (e : va_E), f b = some e → f1 b = some e)) := by
  intro sz
  refine z_body (by decide +kernel) (Nat.le_of_ble_eq_true rfl) ?_
  intro p e s m below meth c ls C hr hin hsz hz hl
  subst hsz
  have hx := C.1
  have hb := C.2.1
  have hA : ∀ q, s.heap.size ≤ q → zA f s.heap.size q := fun q h => Or.inr h
  have hS : va_S (zA f s.heap.size) s.heap s.heap [] := va_S.rf
  have hl : lv_has ls 4 [(0, .ref h), (1, .ref qa), (2, .ref qb)] := hl
  refine lv_aload_n hx hb dX5_compare_0 rfl (lv_at hl 1 rfl) ?_
  refine z_getN (v := .int kda) C hz p2 zl4 mFNX5_42 (by decide) rfl dX5_compare_1 ?_
  refine lv_aload_n hx hb dX5_compare_4 rfl (lv_at hl 2 rfl) ?_
  refine z_getN (v := .int kdb) C hz p3 zl4 mFNX5_42 (by decide) rfl dX5_compare_5 ?_
  refine lv_icmp_eq (tgt := 23) hx hb dX5_compare_8 (by decide) (fun c1 => ?_) (fun c1 => ?_)
  · refine lv_aload_n hx hb dX5_compare_23 rfl (lv_at hl 1 rfl) ?_
    refine z_getN (v := .int kda) C hz p2 zl4 mFNX5_42 (by decide) rfl dX5_compare_24 ?_
    refine lv_bipush (v := 6) hx hb dX5_compare_27 (by decide) ?_
    refine lv_icmp_ne (tgt := 44) hx hb dX5_compare_29 (by decide) (fun c2 => ?_) (fun c2 => ?_)
    · refine lv_aload_n hx hb dX5_compare_44 rfl (lv_at hl 0 rfl) ?_
      refine lv_aload_n hx hb dX5_compare_45 rfl (lv_at hl 1 rfl) ?_
      refine z_getN (v := .int kda) C hz p2 zl4 mFNX5_42 (by decide) rfl dX5_compare_46 ?_
      refine lv_iconst (v := 5) hx hb dX5_compare_49 (by decide) ?_
      refine lv_icmp_ne (tgt := 57) hx hb dX5_compare_50 (by decide) (fun c3 => ?_) (fun c3 => ?_)
      · refine lv_iconst (v := 0) hx hb dX5_compare_57 (by decide) ?_
        refine lv_aload_n hx hb dX5_compare_58 rfl (lv_at hl 1 rfl) ?_
        refine lv_aload_n hx hb dX5_compare_59 rfl (lv_at hl 2 rfl) ?_
        refine z_callVi (As := [.int 0, .ref qa, .ref qb]) C hz hS hA hl (k_X5_compareFrom l D cy f h al ra ga nn fg pt kd ln pp wg wd hs bf qa kda paa wga wda nua hsa bfa ta gpa qb kdb pab wgb wdb nub hsb bfb tb gpb 0 0 p0 p1 p2 p3 p4 p5 hF hn60 hga hta htb (by decide) (by decide)) zyX5_compareFrom mMX5_77 p0 zl5 rfl rfl (Nat.le_of_ble_eq_true rfl) ⟨Nat.le_of_ble_eq_true rfl, Nat.le_of_ble_eq_true rfl⟩ ⟨Nat.le_of_ble_eq_true rfl, Nat.le_of_ble_eq_true rfl⟩ dX5_compare_60 (fun r6 f4 H locs h5 hz hS => ?_)
        have k7 := h5
        refine lv_istore_n (lv' := [(3, .int r6), (0, .ref h), (1, .ref qa), (2, .ref qb)]) hx hb dX5_compare_63 rfl hl (by decide) rfl (fun ls hl => ?_)
        refine lv_iload_n hx hb dX5_compare_64 rfl (lv_at hl 0 rfl) ?_
        refine lv_if_ne (tgt := 84) hx hb dX5_compare_65 (by decide) (fun c8 => ?_) (fun c8 => ?_)
        · refine lv_iload_n hx hb dX5_compare_84 rfl (lv_at hl 0 rfl) ?_
          exact z_iret C hr rfl hz hS (by
                intro b e hb 
                have hb0 : f4 b = some e := k7 b e hb 
                exact hb0) (Nat.le_of_ble_eq_true rfl) (Nat.le_of_ble_eq_true rfl) dX5_compare_85
        · refine lv_aload_n hx hb dX5_compare_68 rfl (lv_at hl 2 rfl) ?_
          have a9 : f4 qa = some (.inr (4, [.int kda, .ref paa, .long wga, .int wda, .int nua, .int hsa, .int bfa])) := k7 _ _ p2 
          refine z_getN (v := .int kda) C hz a9 zl4 mFNX5_42 (by decide) rfl dX5_compare_69 ?_
          refine lv_iconst (v := 5) hx hb dX5_compare_72 (by decide) ?_
          refine lv_icmp_ne (tgt := 84) hx hb dX5_compare_73 (by decide) (fun c10 => ?_) (fun c10 => ?_)
          · refine lv_iload_n hx hb dX5_compare_84 rfl (lv_at hl 0 rfl) ?_
            exact z_iret C hr rfl hz hS (by
                  intro b e hb 
                  have hb0 : f4 b = some e := k7 b e hb 
                  exact hb0) (Nat.le_of_ble_eq_true rfl) (Nat.le_of_ble_eq_true rfl) dX5_compare_85
          · refine lv_aload_n hx hb dX5_compare_76 rfl (lv_at hl 2 rfl) ?_
            refine lv_aload_n hx hb dX5_compare_77 rfl (lv_at hl 3 rfl) ?_
            have a11 : f4 qb = some (.inr (4, [.int kdb, .ref pab, .long wgb, .int wdb, .int nub, .int hsb, .int bfb])) := k7 _ _ p3 
            have a12 : f4 paa = some (.inl (cy 1, ta, .inr (.inl gpa))) := k7 _ _ p4 
            have a13 : f4 pab = some (.inl (cy 1, tb, .inr (.inl gpb))) := k7 _ _ p5 
            refine z_callSi (As := [.ref qa, .ref qb]) C hz hS hA hl (k_X5_compareAtK l D cy f4 qa kda paa wga wda nua hsa bfa ta gpa qb kdb pab wgb wdb nub hsb bfb tb gpb a9 a11 a12 a13 hta htb (h5a c10) (h5b (c1 ▸ c10))) zyX5_compareAtK mMX5_81 rfl rfl (Nat.le_of_ble_eq_true rfl) ⟨Nat.le_of_ble_eq_true rfl, Nat.le_of_ble_eq_true rfl⟩ ⟨Nat.le_of_ble_eq_true rfl, Nat.le_of_ble_eq_true rfl⟩ dX5_compare_78 (fun r16 f14 H locs h15 hz hS => ?_)
            have k17 := h15
            refine lv_goto (tgt := 85) hx hb dX5_compare_81 (by decide) ?_
            exact z_iret C hr rfl hz hS (by
                  intro b e hb 
                  have hb0 : f4 b = some e := k7 b e hb 
                  have hb1 : f14 b = some e := k17 b e hb0 
                  exact hb1) (Nat.le_of_ble_eq_true rfl) (Nat.le_of_ble_eq_true rfl) dX5_compare_85
      · refine lv_iconst (v := 3) hx hb dX5_compare_53 (by decide) ?_
        refine lv_goto (tgt := 58) hx hb dX5_compare_54 (by decide) ?_
        refine lv_aload_n hx hb dX5_compare_58 rfl (lv_at hl 1 rfl) ?_
        refine lv_aload_n hx hb dX5_compare_59 rfl (lv_at hl 2 rfl) ?_
        refine z_callVi (As := [.int 3, .ref qa, .ref qb]) C hz hS hA hl (k_X5_compareFrom l D cy f h al ra ga nn fg pt kd ln pp wg wd hs bf qa kda paa wga wda nua hsa bfa ta gpa qb kdb pab wgb wdb nub hsb bfb tb gpb 3 3 p0 p1 p2 p3 p4 p5 hF hn60 hga hta htb (by decide) (by decide)) zyX5_compareFrom mMX5_77 p0 zl5 rfl rfl (Nat.le_of_ble_eq_true rfl) ⟨Nat.le_of_ble_eq_true rfl, Nat.le_of_ble_eq_true rfl⟩ ⟨Nat.le_of_ble_eq_true rfl, Nat.le_of_ble_eq_true rfl⟩ dX5_compare_60 (fun r20 f18 H locs h19 hz hS => ?_)
        have k21 := h19
        refine lv_istore_n (lv' := [(3, .int r20), (0, .ref h), (1, .ref qa), (2, .ref qb)]) hx hb dX5_compare_63 rfl hl (by decide) rfl (fun ls hl => ?_)
        refine lv_iload_n hx hb dX5_compare_64 rfl (lv_at hl 0 rfl) ?_
        refine lv_if_ne (tgt := 84) hx hb dX5_compare_65 (by decide) (fun c22 => ?_) (fun c22 => ?_)
        · refine lv_iload_n hx hb dX5_compare_84 rfl (lv_at hl 0 rfl) ?_
          exact z_iret C hr rfl hz hS (by
                intro b e hb 
                have hb0 : f18 b = some e := k21 b e hb 
                exact hb0) (Nat.le_of_ble_eq_true rfl) (Nat.le_of_ble_eq_true rfl) dX5_compare_85
        · refine lv_aload_n hx hb dX5_compare_68 rfl (lv_at hl 2 rfl) ?_
          have a23 : f18 qa = some (.inr (4, [.int kda, .ref paa, .long wga, .int wda, .int nua, .int hsa, .int bfa])) := k21 _ _ p2 
          refine z_getN (v := .int kda) C hz a23 zl4 mFNX5_42 (by decide) rfl dX5_compare_69 ?_
          refine lv_iconst (v := 5) hx hb dX5_compare_72 (by decide) ?_
          refine lv_icmp_ne (tgt := 84) hx hb dX5_compare_73 (by decide) (fun c24 => ?_) (fun c24 => ?_)
          · refine lv_iload_n hx hb dX5_compare_84 rfl (lv_at hl 0 rfl) ?_
            exact z_iret C hr rfl hz hS (by
                  intro b e hb 
                  have hb0 : f18 b = some e := k21 b e hb 
                  exact hb0) (Nat.le_of_ble_eq_true rfl) (Nat.le_of_ble_eq_true rfl) dX5_compare_85
          · refine lv_aload_n hx hb dX5_compare_76 rfl (lv_at hl 2 rfl) ?_
            refine lv_aload_n hx hb dX5_compare_77 rfl (lv_at hl 3 rfl) ?_
            have a25 : f18 qb = some (.inr (4, [.int kdb, .ref pab, .long wgb, .int wdb, .int nub, .int hsb, .int bfb])) := k21 _ _ p3 
            have a26 : f18 paa = some (.inl (cy 1, ta, .inr (.inl gpa))) := k21 _ _ p4 
            have a27 : f18 pab = some (.inl (cy 1, tb, .inr (.inl gpb))) := k21 _ _ p5 
            refine z_callSi (As := [.ref qa, .ref qb]) C hz hS hA hl (k_X5_compareAtK l D cy f18 qa kda paa wga wda nua hsa bfa ta gpa qb kdb pab wgb wdb nub hsb bfb tb gpb a23 a25 a26 a27 hta htb (h5a c24) (h5b (c1 ▸ c24))) zyX5_compareAtK mMX5_81 rfl rfl (Nat.le_of_ble_eq_true rfl) ⟨Nat.le_of_ble_eq_true rfl, Nat.le_of_ble_eq_true rfl⟩ ⟨Nat.le_of_ble_eq_true rfl, Nat.le_of_ble_eq_true rfl⟩ dX5_compare_78 (fun r30 f28 H locs h29 hz hS => ?_)
            have k31 := h29
            refine lv_goto (tgt := 85) hx hb dX5_compare_81 (by decide) ?_
            exact z_iret C hr rfl hz hS (by
                  intro b e hb 
                  have hb0 : f18 b = some e := k21 b e hb 
                  have hb1 : f28 b = some e := k31 b e hb0 
                  exact hb1) (Nat.le_of_ble_eq_true rfl) (Nat.le_of_ble_eq_true rfl) dX5_compare_85
    · refine lv_aload_n hx hb dX5_compare_32 rfl (lv_at hl 1 rfl) ?_
      refine z_getN (v := .int nua) C hz p2 zl4 mFNX5_28 (by decide) rfl dX5_compare_33 ?_
      refine lv_aload_n hx hb dX5_compare_36 rfl (lv_at hl 2 rfl) ?_
      refine z_getN (v := .int nub) C hz p3 zl4 mFNX5_28 (by decide) rfl dX5_compare_37 ?_
      refine z_callSi (As := [.int nua, .int nub]) C hz hS hA hl (k_J6_compare_7cf53 l D cy f nua nub  ) zyJ6_compare_7cf53 mMX5_72 rfl rfl (Nat.le_of_ble_eq_true rfl) ⟨Nat.le_of_ble_eq_true rfl, Nat.le_of_ble_eq_true rfl⟩ ⟨Nat.le_of_ble_eq_true rfl, Nat.le_of_ble_eq_true rfl⟩ dX5_compare_40 (fun r34 f32 H locs h33 hz hS => ?_)
      have k35 := h33
      exact z_iret C hr rfl hz hS (by
            intro b e hb 
            have hb0 : f32 b = some e := k35 b e hb 
            exact hb0) (Nat.le_of_ble_eq_true rfl) (Nat.le_of_ble_eq_true rfl) dX5_compare_43
  · refine lv_aload_n hx hb dX5_compare_11 rfl (lv_at hl 1 rfl) ?_
    refine z_getN (v := .int kda) C hz p2 zl4 mFNX5_42 (by decide) rfl dX5_compare_12 ?_
    refine lv_aload_n hx hb dX5_compare_15 rfl (lv_at hl 2 rfl) ?_
    refine z_getN (v := .int kdb) C hz p3 zl4 mFNX5_42 (by decide) rfl dX5_compare_16 ?_
    refine z_callSi (As := [.int kda, .int kdb]) C hz hS hA hl (k_J6_compare_7cf53 l D cy f kda kdb  ) zyJ6_compare_7cf53 mMX5_72 rfl rfl (Nat.le_of_ble_eq_true rfl) ⟨Nat.le_of_ble_eq_true rfl, Nat.le_of_ble_eq_true rfl⟩ ⟨Nat.le_of_ble_eq_true rfl, Nat.le_of_ble_eq_true rfl⟩ dX5_compare_19 (fun r38 f36 H locs h37 hz hS => ?_)
    have k39 := h37
    exact z_iret C hr rfl hz hS (by
          intro b e hb 
          have hb0 : f36 b = some e := k39 b e hb 
          exact hb0) (Nat.le_of_ble_eq_true rfl) (Nat.le_of_ble_eq_true rfl) dX5_compare_22
