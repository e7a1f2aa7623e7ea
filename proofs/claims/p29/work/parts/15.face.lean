theorem z_home (x : Int32) (n : Nat) (ce : Nat → Int32) : (∃ j, j < n ∧ x = nI j ∧ ∃ k, k < 4 ∧ ce j = nI k) ∨ (∃ j, j < n ∧ x = nI j ∧ ¬ (0 ≤ ce j ∧ ce j < 4)) ∨ ∀ j, j < n → x ≠ nI j := by
  rcases z_findi x n with ⟨j, hj, e⟩ | h
  · by_cases h4 : 0 ≤ ce j ∧ ce j < 4
    · obtain ⟨k, hk, ek⟩ := z_ix4 h4
      exact Or.inl ⟨j, hj, e, k, hk, ek⟩
    · exact Or.inr (Or.inl ⟨j, hj, e, h4⟩)
  · exact Or.inr (Or.inr h)
theorem z_k2 {k : Nat} (hk : k < 2 ^ 31) (h : ¬ nI k - 1 < 1) : 2 ≤ k := by
  rcases (show k = 0 ∨ k = 1 ∨ 2 ≤ k by omega) with rfl | rfl | h2
  · exact absurd (by decide) h
  · exact absurd (by decide) h
  · exact h2
theorem z_lk {a : Nat} (h : a < 2147483647) : lN a * 48271 - lN a * 48271 / 2147483647 * 2147483647 = lN (a * 48271 % 2147483647) := by
  have e : lN a * 48271 = lN (a * 48271) := lN_mul a 48271
  rw [e]
  exact pk_lRem (a := a * 48271) (b := 2147483647) (by omega) (by omega) (by omega)
theorem z_lm {a k : Nat} (h : a < 2147483647) (hk : 0 < k) (hk2 : k < 2 ^ 31) : lN a - lN a / (nI k).toInt64 * (nI k).toInt64 = lN (a % k) := by
  rw [nI_l hk2]
  exact pk_lRem (by omega) hk (by omega)
theorem z_knz {k : Nat} (hk : 0 < k) (hk2 : k < 2 ^ 31) : ¬ (nI k).toInt64 = 0 := by
  rw [nI_l hk2]
  intro h
  have h2 : lN k = lN 0 := h
  rw [lN_eq hk2 (by omega)] at h2
  omega
theorem z_seedk {x : Int32} (h1 : ¬ x < 1) (h2 : lg_cmp x.toInt64 2147483647 < 0) : ∃ k, k < 2147483647 ∧ x.toInt64 = lN k := by
  rw [Int32.lt_iff_toInt_lt] at h1
  have e1 : (1 : Int32).toInt = 1 := by decide
  rw [e1] at h1
  rw [z_seed] at h2
  have hb := Int32.toInt_lt x
  obtain ⟨k, hk, e⟩ := vp_in_of (x := x) (n := 2147483647) (vp_in_iff.mpr ⟨by omega, by
    have : x.toInt ≠ 2147483647 := fun q => h2 (Int32.toInt_inj.mp (by rw [q]; decide))
    omega⟩) (by omega)
  exact ⟨k, hk, by rw [e]; exact nI_l (by omega)⟩
abbrev rmX7_findEnumeration_A : Room := { frames := 0, cells := 0, slots := 0, locals := 0 }
set_option maxHeartbeats 4000000 in
set_option maxRecDepth 100000 in
theorem k_X7_findEnumeration_A (l : Launch) (D : va_G) (cy : Nat → ClassId) (f : zM) (o : Nat) (fa : Nat) (fi : Nat) (nu : Nat) (nl : Nat) (fm : Nat) (nf : Nat) (co : Nat) (nc : Nat) (en : Nat) (ke : Nat) (lk : Int64) (ge : Nat → Option Nat) (ea : Nat → Nat) (x : Int32) (j : Nat) (p0 : f o = some (.inr (7, [.ref fa, .ref fi, .ref nu, .int (nI nl), .ref fm, .int (nI nf), .ref co, .int (nI nc), .ref en, .ref ke, .long lk]))) (p1 : f en = some (.inl (cy 6, 4, .inr (.inr (.inr (.inr ge))))))  (hxj : x = nI j) (hj : j < 4) (hG : ∀ j, j < 4 → ge j = some (ea j)) : zCq l D cy yX7_findEnumeration cX7_findEnumeration 2 (Option.some (Jvm.ClassFile.FieldType.object "KindRows$Enumeration")) rmX7_findEnumeration_A [.ref o, .int x] f (fun (r : Option Nat) (f1 : zM) => r = (some (ea j)) ∧ (∀ (b : Nat) (e : va_E), f b = some e → f1 b = some e)) := by
  intro sz
  refine z_body (by decide +kernel) (Nat.le_of_ble_eq_true rfl) ?_
  intro p e s m below meth c ls C hr hin hsz hz hl
  subst hsz
  have hx := C.1
  have hb := C.2.1
  have hA : ∀ q, s.heap.size ≤ q → zA f s.heap.size q := fun q h => Or.inr h
  have hS : va_S (zA f s.heap.size) s.heap s.heap [] := va_S.rf
  have hl : lv_has ls 2 [(0, .ref o), (1, .int x)] := hl
  refine lv_iload_n hx hb dX7_findEnumeration_0 rfl (lv_at hl 1 rfl) ?_
  refine lv_if_lt (tgt := 18) hx hb dX7_findEnumeration_1 (by decide) (fun c1 => ?_) (fun c1 => ?_)
  · exact absurd c1 (by rw [hxj]; exact nI_pos (by omega))
  refine lv_iload_n hx hb dX7_findEnumeration_4 rfl (lv_at hl 1 rfl) ?_
  refine lv_iconst (v := 4) hx hb dX7_findEnumeration_5 (by decide) ?_
  refine lv_icmp_ge (tgt := 18) hx hb dX7_findEnumeration_6 (by decide) (fun c2 => ?_) (fun c2 => ?_)
  · exact absurd ((nI_leI (a := 4) (b := j) (by omega) (by omega)).mp (by rw [← hxj]; exact c2)) (by omega)
  refine lv_aload_n hx hb dX7_findEnumeration_9 rfl (lv_at hl 0 rfl) ?_
  refine z_get (v := .ref en) C hz p0 zl7 mFX7_51 (by decide) rfl dX7_findEnumeration_10 ?_
  refine lv_iload_n hx hb dX7_findEnumeration_13 rfl (lv_at hl 1 rfl) ?_
  refine z_aldq j C hz p1 rfl hxj hj (by omega) dX7_findEnumeration_14 ?_
  rw [hG j hj]
  refine W.eq (g2 := F0 m 15 ls [.ref (ea j)]) rfl ?_
  refine lv_goto (tgt := 19) hx hb dX7_findEnumeration_15 (by decide) ?_
  exact z_aret (r := some (ea j)) C hr (Or.inl ⟨_, rfl⟩) rfl hz hS ⟨rfl, (fun b e hb => hb)⟩ (Nat.le_of_ble_eq_true rfl) (Nat.le_of_ble_eq_true rfl) dX7_findEnumeration_19
abbrev rmX7_findEnumeration_B : Room := { frames := 0, cells := 0, slots := 0, locals := 0 }
set_option maxHeartbeats 4000000 in
set_option maxRecDepth 100000 in
theorem k_X7_findEnumeration_B (l : Launch) (D : va_G) (cy : Nat → ClassId) (f : zM) (o : Nat) (fa : Nat) (fi : Nat) (nu : Nat) (nl : Nat) (fm : Nat) (nf : Nat) (co : Nat) (nc : Nat) (en : Nat) (ke : Nat) (lk : Int64) (x : Int32) (p0 : f o = some (.inr (7, [.ref fa, .ref fi, .ref nu, .int (nI nl), .ref fm, .int (nI nf), .ref co, .int (nI nc), .ref en, .ref ke, .long lk])))  (hx4 : ¬ (0 ≤ x ∧ x < 4)) : zCq l D cy yX7_findEnumeration cX7_findEnumeration 2 (Option.some (Jvm.ClassFile.FieldType.object "KindRows$Enumeration")) rmX7_findEnumeration_B [.ref o, .int x] f (fun (r : Option Nat) (f1 : zM) => r = none ∧ (∀ (b : Nat) (e : va_E), f b = some e → f1 b = some e)) := by
  intro sz
  refine z_body (by decide +kernel) (Nat.le_of_ble_eq_true rfl) ?_
  intro p e s m below meth c ls C hr hin hsz hz hl
  subst hsz
  have hx := C.1
  have hb := C.2.1
  have hA : ∀ q, s.heap.size ≤ q → zA f s.heap.size q := fun q h => Or.inr h
  have hS : va_S (zA f s.heap.size) s.heap s.heap [] := va_S.rf
  have hl : lv_has ls 2 [(0, .ref o), (1, .int x)] := hl
  refine lv_iload_n hx hb dX7_findEnumeration_0 rfl (lv_at hl 1 rfl) ?_
  refine lv_if_lt (tgt := 18) hx hb dX7_findEnumeration_1 (by decide) (fun c1 => ?_) (fun c1 => ?_)
  · refine lv_null hx hb dX7_findEnumeration_18 ?_
    exact z_aret (r := none) C hr (Or.inl ⟨_, rfl⟩) rfl hz hS ⟨rfl, (fun b e hb => hb)⟩ (Nat.le_of_ble_eq_true rfl) (Nat.le_of_ble_eq_true rfl) dX7_findEnumeration_19
  · refine lv_iload_n hx hb dX7_findEnumeration_4 rfl (lv_at hl 1 rfl) ?_
    refine lv_iconst (v := 4) hx hb dX7_findEnumeration_5 (by decide) ?_
    refine lv_icmp_ge (tgt := 18) hx hb dX7_findEnumeration_6 (by decide) (fun c2 => ?_) (fun c2 => ?_)
    rotate_left
    · exact absurd ⟨Int32.not_lt.mp c1, Int32.not_le.mp c2⟩ hx4
    refine lv_null hx hb dX7_findEnumeration_18 ?_
    exact z_aret (r := none) C hr (Or.inl ⟨_, rfl⟩) rfl hz hS ⟨rfl, (fun b e hb => hb)⟩ (Nat.le_of_ble_eq_true rfl) (Nat.le_of_ble_eq_true rfl) dX7_findEnumeration_19
abbrev rmX7_homeOf_A : Room := { frames := 1, cells := 0, slots := 0, locals := 21 }
set_option maxHeartbeats 4000000 in
set_option maxRecDepth 100000 in
theorem k_X7_homeOf_A (l : Launch) (D : va_G) (cy : Nat → ClassId) (f : zM) (o : Nat) (fa : Nat) (fi : Nat) (nu : Nat) (nl : Nat) (fm : Nat) (nf : Nat) (co : Nat) (nc : Nat) (en : Nat) (ke : Nat) (lk : Int64) (gc : Nat → Option Nat) (cn : Nat → Nat) (ce : Nat → Int32) (cm : Nat → Int32) (ge : Nat → Option Nat) (ea : Nat → Nat) (x : Int32) (jc : Nat) (je : Nat) (p0 : f o = some (.inr (7, [.ref fa, .ref fi, .ref nu, .int (nI nl), .ref fm, .int (nI nf), .ref co, .int (nI nc), .ref en, .ref ke, .long lk]))) (p1 : f co = some (.inl (cy 5, 60, .inr (.inr (.inr (.inr gc)))))) (p2 : f en = some (.inl (cy 6, 4, .inr (.inr (.inr (.inr ge)))))) (hCn : ∀ i9 : Nat, i9 < nc → f (cn i9) = some (.inr (0, [.int (ce i9), .int (cm i9)]))) (hc60 : nc ≤ 60) (hgc : ∀ i, i < nc → gc i = some (cn i)) (hG : ∀ j, j < 4 → ge j = some (ea j)) (hvc : x = nI jc) (hjc : jc < nc) (hxe : ce jc = nI je) (hje : je < 4) : zCq l D cy yX7_homeOf cX7_homeOf 3 (Option.some (Jvm.ClassFile.FieldType.object "KindRows$Enumeration")) rmX7_homeOf_A [.ref o, .int x] f (fun (r : Option Nat) (f1 : zM) => r = (some (ea je)) ∧ (∀ (b : Nat) (e : va_E), f b = some e → f1 b = some e)) := by
  intro sz
  refine z_body (by decide +kernel) (Nat.le_of_ble_eq_true rfl) ?_
  intro p e s m below meth c ls C hr hin hsz hz hl
  subst hsz
  have hx := C.1
  have hb := C.2.1
  have hA : ∀ q, s.heap.size ≤ q → zA f s.heap.size q := fun q h => Or.inr h
  have hS : va_S (zA f s.heap.size) s.heap s.heap [] := va_S.rf
  have hl : lv_has ls 3 [(0, .ref o), (1, .int x)] := hl
  refine lv_aload_n hx hb dX7_homeOf_0 rfl (lv_at hl 0 rfl) ?_
  refine lv_iload_n hx hb dX7_homeOf_1 rfl (lv_at hl 1 rfl) ?_
  refine z_callVq (As := [.int x]) C hz hS hA hl (k_X7_findConstant_A l D cy f o fa fi nu nl fm nf co nc en ke lk gc cn jc x p0 p1 hgc hvc hjc hc60) zyX7_findConstant mMX7_238 p0 zl7 rfl rfl (Nat.le_of_ble_eq_true rfl) ⟨Nat.le_of_ble_eq_true rfl, Nat.le_of_ble_eq_true rfl⟩ ⟨Nat.le_of_ble_eq_true rfl, Nat.le_of_ble_eq_true rfl⟩ dX7_homeOf_2 (fun r f1 H locs h2 hz hS => ?_)
  obtain ⟨rfl, k3⟩ := h2
  refine W.eq (g2 := F0 m 5 ls [.ref (cn jc)]) rfl ?_
  refine lv_astore_n (lv' := [(2, .ref (cn jc)), (0, .ref o), (1, .int x)]) hx hb dX7_homeOf_5 rfl hl (by decide) rfl (fun ls hl => ?_)
  refine lv_aload_n hx hb dX7_homeOf_6 rfl (lv_at hl 0 rfl) ?_
  refine lv_ifnonnull (tgt := 14) hx hb dX7_homeOf_7 (by decide) ?_
  refine lv_aload_n hx hb dX7_homeOf_14 rfl (lv_at hl 1 rfl) ?_
  refine lv_aload_n hx hb dX7_homeOf_15 rfl (lv_at hl 0 rfl) ?_
  have F4 : ∀ i9 : Nat, i9 < nc → f1 (cn i9) = some (.inr (0, [.int (ce i9), .int (cm i9)])) := fun i9 h9 => k3 _ _ (hCn i9 h9) 
  have a5 : f1 (cn jc) = some (.inr (0, [.int (ce jc), .int (cm jc)])) := F4 jc hjc
  refine z_getN (v := .int (ce jc)) C hz a5 zl0 mFNX7_242 (by decide) rfl dX7_homeOf_16 ?_
  have a6 : f1 o = some (.inr (7, [.ref fa, .ref fi, .ref nu, .int (nI nl), .ref fm, .int (nI nf), .ref co, .int (nI nc), .ref en, .ref ke, .long lk])) := k3 _ _ p0 
  have a7 : f1 en = some (.inl (cy 6, 4, .inr (.inr (.inr (.inr ge))))) := k3 _ _ p2 
  refine z_callVq (As := [.int (ce jc)]) C hz hS hA hl (k_X7_findEnumeration_A l D cy f1 o fa fi nu nl fm nf co nc en ke lk ge ea (ce jc) je a6 a7 hxe hje (by omega)) zyX7_findEnumeration mMX7_204 a6 zl7 rfl rfl (Nat.le_of_ble_eq_true rfl) ⟨Nat.le_of_ble_eq_true rfl, Nat.le_of_ble_eq_true rfl⟩ ⟨Nat.le_of_ble_eq_true rfl, Nat.le_of_ble_eq_true rfl⟩ dX7_homeOf_19 (fun r f8 H locs h9 hz hS => ?_)
  obtain ⟨rfl, k10⟩ := h9
  refine W.eq (g2 := F0 m 22 ls [.ref (ea je)]) rfl ?_
  exact z_aret (r := some (ea je)) C hr (Or.inl ⟨_, rfl⟩) rfl hz hS ⟨rfl, (by
        intro b e hb 
        have hb0 : f1 b = some e := k3 b e hb 
        have hb1 : f8 b = some e := k10 b e hb0 
        exact hb1)⟩ (Nat.le_of_ble_eq_true rfl) (Nat.le_of_ble_eq_true rfl) dX7_homeOf_22
abbrev rmX7_homeOf_B : Room := { frames := 1, cells := 0, slots := 0, locals := 21 }
set_option maxHeartbeats 4000000 in
set_option maxRecDepth 100000 in
theorem k_X7_homeOf_B (l : Launch) (D : va_G) (cy : Nat → ClassId) (f : zM) (o : Nat) (fa : Nat) (fi : Nat) (nu : Nat) (nl : Nat) (fm : Nat) (nf : Nat) (co : Nat) (nc : Nat) (en : Nat) (ke : Nat) (lk : Int64) (gc : Nat → Option Nat) (cn : Nat → Nat) (ce : Nat → Int32) (cm : Nat → Int32) (ge : Nat → Option Nat) (ea : Nat → Nat) (x : Int32) (jc : Nat) (p0 : f o = some (.inr (7, [.ref fa, .ref fi, .ref nu, .int (nI nl), .ref fm, .int (nI nf), .ref co, .int (nI nc), .ref en, .ref ke, .long lk]))) (p1 : f co = some (.inl (cy 5, 60, .inr (.inr (.inr (.inr gc)))))) (p2 : f en = some (.inl (cy 6, 4, .inr (.inr (.inr (.inr ge)))))) (hCn : ∀ i9 : Nat, i9 < nc → f (cn i9) = some (.inr (0, [.int (ce i9), .int (cm i9)]))) (hc60 : nc ≤ 60) (hgc : ∀ i, i < nc → gc i = some (cn i)) (hG : ∀ j, j < 4 → ge j = some (ea j)) (hvc : x = nI jc) (hjc : jc < nc) (hnc : ¬ (0 ≤ ce jc ∧ ce jc < 4)) : zCq l D cy yX7_homeOf cX7_homeOf 3 (Option.some (Jvm.ClassFile.FieldType.object "KindRows$Enumeration")) rmX7_homeOf_B [.ref o, .int x] f (fun (r : Option Nat) (f1 : zM) => r = none ∧ (∀ (b : Nat) (e : va_E), f b = some e → f1 b = some e)) := by
  intro sz
  refine z_body (by decide +kernel) (Nat.le_of_ble_eq_true rfl) ?_
  intro p e s m below meth c ls C hr hin hsz hz hl
  subst hsz
  have hx := C.1
  have hb := C.2.1
  have hA : ∀ q, s.heap.size ≤ q → zA f s.heap.size q := fun q h => Or.inr h
  have hS : va_S (zA f s.heap.size) s.heap s.heap [] := va_S.rf
  have hl : lv_has ls 3 [(0, .ref o), (1, .int x)] := hl
  refine lv_aload_n hx hb dX7_homeOf_0 rfl (lv_at hl 0 rfl) ?_
  refine lv_iload_n hx hb dX7_homeOf_1 rfl (lv_at hl 1 rfl) ?_
  refine z_callVq (As := [.int x]) C hz hS hA hl (k_X7_findConstant_A l D cy f o fa fi nu nl fm nf co nc en ke lk gc cn jc x p0 p1 hgc hvc hjc hc60) zyX7_findConstant mMX7_238 p0 zl7 rfl rfl (Nat.le_of_ble_eq_true rfl) ⟨Nat.le_of_ble_eq_true rfl, Nat.le_of_ble_eq_true rfl⟩ ⟨Nat.le_of_ble_eq_true rfl, Nat.le_of_ble_eq_true rfl⟩ dX7_homeOf_2 (fun r f1 H locs h2 hz hS => ?_)
  obtain ⟨rfl, k3⟩ := h2
  refine W.eq (g2 := F0 m 5 ls [.ref (cn jc)]) rfl ?_
  refine lv_astore_n (lv' := [(2, .ref (cn jc)), (0, .ref o), (1, .int x)]) hx hb dX7_homeOf_5 rfl hl (by decide) rfl (fun ls hl => ?_)
  refine lv_aload_n hx hb dX7_homeOf_6 rfl (lv_at hl 0 rfl) ?_
  refine lv_ifnonnull (tgt := 14) hx hb dX7_homeOf_7 (by decide) ?_
  refine lv_aload_n hx hb dX7_homeOf_14 rfl (lv_at hl 1 rfl) ?_
  refine lv_aload_n hx hb dX7_homeOf_15 rfl (lv_at hl 0 rfl) ?_
  have F4 : ∀ i9 : Nat, i9 < nc → f1 (cn i9) = some (.inr (0, [.int (ce i9), .int (cm i9)])) := fun i9 h9 => k3 _ _ (hCn i9 h9) 
  have a5 : f1 (cn jc) = some (.inr (0, [.int (ce jc), .int (cm jc)])) := F4 jc hjc
  refine z_getN (v := .int (ce jc)) C hz a5 zl0 mFNX7_242 (by decide) rfl dX7_homeOf_16 ?_
  have a6 : f1 o = some (.inr (7, [.ref fa, .ref fi, .ref nu, .int (nI nl), .ref fm, .int (nI nf), .ref co, .int (nI nc), .ref en, .ref ke, .long lk])) := k3 _ _ p0 
  refine z_callVq (As := [.int (ce jc)]) C hz hS hA hl (k_X7_findEnumeration_B l D cy f1 o fa fi nu nl fm nf co nc en ke lk (ce jc) a6 hnc) zyX7_findEnumeration mMX7_204 a6 zl7 rfl rfl (Nat.le_of_ble_eq_true rfl) ⟨Nat.le_of_ble_eq_true rfl, Nat.le_of_ble_eq_true rfl⟩ ⟨Nat.le_of_ble_eq_true rfl, Nat.le_of_ble_eq_true rfl⟩ dX7_homeOf_19 (fun r f7 H locs h8 hz hS => ?_)
  obtain ⟨rfl, k9⟩ := h8
  refine W.eq (g2 := F0 m 22 ls [.null]) rfl ?_
  exact z_aret (r := none) C hr (Or.inl ⟨_, rfl⟩) rfl hz hS ⟨rfl, (by
        intro b e hb 
        have hb0 : f1 b = some e := k3 b e hb 
        have hb1 : f7 b = some e := k9 b e hb0 
        exact hb1)⟩ (Nat.le_of_ble_eq_true rfl) (Nat.le_of_ble_eq_true rfl) dX7_homeOf_22
abbrev rmX7_homeOf_C : Room := { frames := 1, cells := 0, slots := 0, locals := 21 }
set_option maxHeartbeats 4000000 in
set_option maxRecDepth 100000 in
theorem k_X7_homeOf_C (l : Launch) (D : va_G) (cy : Nat → ClassId) (f : zM) (o : Nat) (fa : Nat) (fi : Nat) (nu : Nat) (nl : Nat) (fm : Nat) (nf : Nat) (co : Nat) (nc : Nat) (en : Nat) (ke : Nat) (lk : Int64) (x : Int32) (p0 : f o = some (.inr (7, [.ref fa, .ref fi, .ref nu, .int (nI nl), .ref fm, .int (nI nf), .ref co, .int (nI nc), .ref en, .ref ke, .long lk])))  (hc60 : nc ≤ 60) (hvc : ∀ j, j < nc → x ≠ nI j) : zCq l D cy yX7_homeOf cX7_homeOf 3 (Option.some (Jvm.ClassFile.FieldType.object "KindRows$Enumeration")) rmX7_homeOf_C [.ref o, .int x] f (fun (r : Option Nat) (f1 : zM) => r = none ∧ (∀ (b : Nat) (e : va_E), f b = some e → f1 b = some e)) := by
  intro sz
  refine z_body (by decide +kernel) (Nat.le_of_ble_eq_true rfl) ?_
  intro p e s m below meth c ls C hr hin hsz hz hl
  subst hsz
  have hx := C.1
  have hb := C.2.1
  have hA : ∀ q, s.heap.size ≤ q → zA f s.heap.size q := fun q h => Or.inr h
  have hS : va_S (zA f s.heap.size) s.heap s.heap [] := va_S.rf
  have hl : lv_has ls 3 [(0, .ref o), (1, .int x)] := hl
  refine lv_aload_n hx hb dX7_homeOf_0 rfl (lv_at hl 0 rfl) ?_
  refine lv_iload_n hx hb dX7_homeOf_1 rfl (lv_at hl 1 rfl) ?_
  refine z_callVq (As := [.int x]) C hz hS hA hl (k_X7_findConstant_B l D cy f o fa fi nu nl fm nf co nc en ke lk x p0 hvc hc60) zyX7_findConstant mMX7_238 p0 zl7 rfl rfl (Nat.le_of_ble_eq_true rfl) ⟨Nat.le_of_ble_eq_true rfl, Nat.le_of_ble_eq_true rfl⟩ ⟨Nat.le_of_ble_eq_true rfl, Nat.le_of_ble_eq_true rfl⟩ dX7_homeOf_2 (fun r f1 H locs h2 hz hS => ?_)
  obtain ⟨rfl, k3⟩ := h2
  refine W.eq (g2 := F0 m 5 ls [.null]) rfl ?_
  refine lv_astore_nN (lv' := [(2, .null), (0, .ref o), (1, .int x)]) hx hb dX7_homeOf_5 rfl hl (by decide) rfl (fun ls hl => ?_)
  refine lv_aload_nN hx hb dX7_homeOf_6 rfl (lv_at hl 0 rfl) ?_
  refine lv_ifnonnullN hx hb dX7_homeOf_7 ?_
  refine lv_null hx hb dX7_homeOf_10 ?_
  refine lv_goto (tgt := 22) hx hb dX7_homeOf_11 (by decide) ?_
  exact z_aret (r := none) C hr (Or.inl ⟨_, rfl⟩) rfl hz hS ⟨rfl, (by
        intro b e hb 
        have hb0 : f1 b = some e := k3 b e hb 
        exact hb0)⟩ (Nat.le_of_ble_eq_true rfl) (Nat.le_of_ble_eq_true rfl) dX7_homeOf_22
abbrev rmX7_memberNamed : Room := { frames := 1, cells := 0, slots := 0, locals := 21 }
set_option maxHeartbeats 4000000 in
set_option maxRecDepth 100000 in
theorem k_X7_memberNamed (l : Launch) (D : va_G) (cy : Nat → ClassId) (f : zM) (o : Nat) (fa : Nat) (fi : Nat) (nu : Nat) (nl : Nat) (fm : Nat) (nf : Nat) (co : Nat) (nc : Nat) (en : Nat) (ke : Nat) (lk : Int64) (gc : Nat → Option Nat) (cn : Nat → Nat) (ce : Nat → Int32) (cm : Nat → Int32) (h : Nat) (mm : Nat) (z : Nat) (g : Nat → Int32) (x : Int32) (p0 : f o = some (.inr (7, [.ref fa, .ref fi, .ref nu, .int (nI nl), .ref fm, .int (nI nf), .ref co, .int (nI nc), .ref en, .ref ke, .long lk]))) (p1 : f co = some (.inl (cy 5, 60, .inr (.inr (.inr (.inr gc)))))) (p2 : f h = some (.inr (1, [.ref mm, .int (nI z)]))) (p3 : f mm = some (.inl (cy 0, 60, .inl g))) (hCn : ∀ i9 : Nat, i9 < nc → f (cn i9) = some (.inr (0, [.int (ce i9), .int (cm i9)]))) (hc60 : nc ≤ 60) (hgc : ∀ i, i < nc → gc i = some (cn i)) (hz60 : z ≤ 60) : zCi l D cy yX7_memberNamed cX7_memberNamed 5 (Option.some Jvm.ClassFile.FieldType.int) rmX7_memberNamed [.ref o, .ref h, .int x] f (fun (r : Int32) (f1 : zM) => (zMN z nc g cm x r) ∧ (∀ (b : Nat) (e : va_E), f b = some e → f1 b = some e)) := by
  intro sz
  refine z_body (by decide +kernel) (Nat.le_of_ble_eq_true rfl) ?_
  intro p e s m below meth c ls C hr hin hsz hz hl
  subst hsz
  have hx := C.1
  have hb := C.2.1
  have hA : ∀ q, s.heap.size ≤ q → zA f s.heap.size q := fun q h => Or.inr h
  have hS : va_S (zA f s.heap.size) s.heap s.heap [] := va_S.rf
  have hl : lv_has ls 5 [(0, .ref o), (1, .ref h), (2, .int x)] := hl
  refine lv_iconst (v := 0) hx hb dX7_memberNamed_0 (by decide) ?_
  refine lv_istore_n (lv' := [(3, .int 0), (0, .ref o), (1, .ref h), (2, .int x)]) hx hb dX7_memberNamed_1 rfl hl (by decide) rfl (fun ls hl => ?_)
  have lp1 : ∀ (n : Nat) (i : Nat) (fL2 : zM) (H : Heap) (locs : List Loc) (ls : Array Slot), (z - i) < n → (i ≤ z) → (∀ j, j < i → ∀ c, c < nc → g j = nI c → ¬ cm c = x) → fL2 o = some (.inr (7, [.ref fa, .ref fi, .ref nu, .int (nI nl), .ref fm, .int (nI nf), .ref co, .int (nI nc), .ref en, .ref ke, .long lk])) → fL2 co = some (.inl (cy 5, 60, .inr (.inr (.inr (.inr gc))))) → fL2 h = some (.inr (1, [.ref mm, .int (nI z)])) → fL2 mm = some (.inl (cy 0, 60, .inl g)) → (∀ i9 : Nat, i9 < nc → fL2 (cn i9) = some (.inr (0, [.int (ce i9), .int (cm i9)]))) → (∀ (b : Nat) (e : va_E), f b = some e → fL2 b = some e) → zH D (zA f s.heap.size) fL2 H → va_S (zA f s.heap.size) s.heap H locs → lv_has ls 5 [(0, .ref o), (1, .ref h), (2, .int x), (3, .int (nI i))] → W p l e rmX7_memberNamed s m ([.ref o, .ref h, .int x] : List Value).toArray below meth c H locs 0 0 (MQ below (va_Qi (fun (r : Int32) (f1 : zM) => (zMN z nc g cm x r) ∧ (∀ (b : Nat) (e : va_E), f b = some e → f1 b = some e)) (zB D f s.heap.size) (zA f s.heap.size)) ([.ref o, .ref h, .int x] : List Value).toArray s rmX7_memberNamed.cells rmX7_memberNamed.slots (zA f s.heap.size)) (F0 m 2 ls []) := by
    intro n
    induction n with
    | zero => intro i fL2 H locs ls hmz; exact absurd hmz (Nat.not_lt_zero _)
    | succ n ih =>
      intro i fL2 H locs ls hmz hi hne a4 a5 a6 a7 F8 k3 hz hS hl
      refine lv_iload_n hx hb dX7_memberNamed_2 rfl (lv_at hl 3 rfl) ?_
      refine lv_aload_n hx hb dX7_memberNamed_3 rfl (lv_at hl 1 rfl) ?_
      refine z_getN (v := .int (nI z)) C hz a6 zl1 mFNX7_227 (by decide) rfl dX7_memberNamed_4 ?_
      refine lv_icmp_ge (tgt := 49) hx hb dX7_memberNamed_7 (by decide) (fun c9 => ?_) (fun c9 => ?_)
      · replace c9 : (z ≤ i) := (nI_leI (a := z) (b := i) (by omega) (by omega)).mp c9
        refine lv_iconst (v := (-1)) hx hb dX7_memberNamed_49 (by decide) ?_
        exact z_iret C hr rfl hz hS ⟨(Or.inr ⟨rfl, fun j9 h9 => hne j9 (by omega)⟩), (by
              intro b e hb 
              have hb0 : fL2 b = some e := k3 b e hb 
              exact hb0)⟩ (Nat.le_of_ble_eq_true rfl) (Nat.le_of_ble_eq_true rfl) dX7_memberNamed_50
      · replace c9 : ¬ (z ≤ i) := fun h => c9 ((nI_leI (a := z) (b := i) (by omega) (by omega)).mpr h)
        refine lv_aload_n hx hb dX7_memberNamed_10 rfl (lv_at hl 0 rfl) ?_
        refine lv_aload_n hx hb dX7_memberNamed_11 rfl (lv_at hl 1 rfl) ?_
        refine z_getN (v := .ref mm) C hz a6 zl1 mFNX7_248 (by decide) rfl dX7_memberNamed_12 ?_
        refine lv_iload_n hx hb dX7_memberNamed_15 rfl (lv_at hl 3 rfl) ?_
        refine z_iald i C hz a7 rfl (by omega) (by omega) dX7_memberNamed_16 ?_
        rcases z_findi (g i) nc with ⟨jc, hjc, hvc⟩ | hvc
        · refine z_callVq (As := [.int (g i)]) C hz hS hA hl (k_X7_findConstant_A l D cy fL2 o fa fi nu nl fm nf co nc en ke lk gc cn jc (g i) a4 a5 hgc hvc hjc (by omega)) zyX7_findConstant mMX7_238 a4 zl7 rfl rfl (Nat.le_of_ble_eq_true rfl) ⟨Nat.le_of_ble_eq_true rfl, Nat.le_of_ble_eq_true rfl⟩ ⟨Nat.le_of_ble_eq_true rfl, Nat.le_of_ble_eq_true rfl⟩ dX7_memberNamed_17 (fun r f10 H locs h11 hz hS => ?_)
          obtain ⟨rfl, k12⟩ := h11
          refine W.eq (g2 := F0 m 20 ls [.ref (cn jc)]) rfl ?_
          refine lv_astore (lv' := [(4, .ref (cn jc)), (0, .ref o), (1, .ref h), (2, .int x), (3, .int (nI i))]) hx hb dX7_memberNamed_20 hl (by decide) rfl (fun ls hl => ?_)
          refine lv_aload hx hb dX7_memberNamed_22 (lv_at hl 0 rfl) ?_
          refine lv_ifnull hx hb dX7_memberNamed_24 ?_
          refine lv_aload hx hb dX7_memberNamed_27 (lv_at hl 0 rfl) ?_
          have F13 : ∀ i9 : Nat, i9 < nc → f10 (cn i9) = some (.inr (0, [.int (ce i9), .int (cm i9)])) := fun i9 h9 => k12 _ _ (F8 i9 h9) 
          have a14 : f10 (cn jc) = some (.inr (0, [.int (ce jc), .int (cm jc)])) := F13 jc hjc
          refine z_getN (v := .int (cm jc)) C hz a14 zl0 mFNX7_245 (by decide) rfl dX7_memberNamed_29 ?_
          refine lv_iload_n hx hb dX7_memberNamed_32 rfl (lv_at hl 3 rfl) ?_
          refine lv_icmp_ne (tgt := 43) hx hb dX7_memberNamed_33 (by decide) (fun c15 => ?_) (fun c15 => ?_)
          · refine lv_iinc (v := nI (i + 1)) (lv' := [(3, .int (nI (i + 1))), (4, .ref (cn jc)), (0, .ref o), (1, .ref h), (2, .int x)]) hx hb dX7_memberNamed_43 hl (k := 4) rfl (nI_1 i) (by decide) rfl (fun ls hl => ?_)
            refine lv_goto (tgt := 2) hx hb dX7_memberNamed_46 (by decide) ?_
            have a16 : f10 o = some (.inr (7, [.ref fa, .ref fi, .ref nu, .int (nI nl), .ref fm, .int (nI nf), .ref co, .int (nI nc), .ref en, .ref ke, .long lk])) := k12 _ _ a4 
            have a17 : f10 co = some (.inl (cy 5, 60, .inr (.inr (.inr (.inr gc))))) := k12 _ _ a5 
            have a18 : f10 h = some (.inr (1, [.ref mm, .int (nI z)])) := k12 _ _ a6 
            have a19 : f10 mm = some (.inl (cy 0, 60, .inl g)) := k12 _ _ a7 
            exact ih (i + 1) _ _ _ _ (by omega) (by omega) (zMN_st hne (fun c9 h9 e9 q9 => c15 (by rw [(nI_eq (by omega) (by omega)).mp (hvc.symm.trans e9)]; exact q9))) a16 a17 a18 a19 F13 (by
                  intro b e hb 
                  have hb0 : fL2 b = some e := k3 b e hb 
                  have hb1 : f10 b = some e := k12 b e hb0 
                  exact hb1) hz hS (lv_sub hl [2, 3, 4, 0] rfl)
          · refine lv_aload_n hx hb dX7_memberNamed_36 rfl (lv_at hl 2 rfl) ?_
            have a20 : f10 h = some (.inr (1, [.ref mm, .int (nI z)])) := k12 _ _ a6 
            refine z_getN (v := .ref mm) C hz a20 zl1 mFNX7_248 (by decide) rfl dX7_memberNamed_37 ?_
            refine lv_iload_n hx hb dX7_memberNamed_40 rfl (lv_at hl 4 rfl) ?_
            have a21 : f10 mm = some (.inl (cy 0, 60, .inl g)) := k12 _ _ a7 
            refine z_iald i C hz a21 rfl (by omega) (by omega) dX7_memberNamed_41 ?_
            exact z_iret C hr rfl hz hS ⟨(Or.inl ⟨i, by omega, jc, hjc, hvc, c15, hvc⟩), (by
                  intro b e hb 
                  have hb0 : fL2 b = some e := k3 b e hb 
                  have hb1 : f10 b = some e := k12 b e hb0 
                  exact hb1)⟩ (Nat.le_of_ble_eq_true rfl) (Nat.le_of_ble_eq_true rfl) dX7_memberNamed_42
        · refine z_callVq (As := [.int (g i)]) C hz hS hA hl (k_X7_findConstant_B l D cy fL2 o fa fi nu nl fm nf co nc en ke lk (g i) a4 hvc (by omega)) zyX7_findConstant mMX7_238 a4 zl7 rfl rfl (Nat.le_of_ble_eq_true rfl) ⟨Nat.le_of_ble_eq_true rfl, Nat.le_of_ble_eq_true rfl⟩ ⟨Nat.le_of_ble_eq_true rfl, Nat.le_of_ble_eq_true rfl⟩ dX7_memberNamed_17 (fun r f22 H locs h23 hz hS => ?_)
          obtain ⟨rfl, k24⟩ := h23
          refine W.eq (g2 := F0 m 20 ls [.null]) rfl ?_
          refine lv_astoreN (lv' := [(4, .null), (0, .ref o), (1, .ref h), (2, .int x), (3, .int (nI i))]) hx hb dX7_memberNamed_20 hl (by decide) rfl (fun ls hl => ?_)
          refine lv_aloadN hx hb dX7_memberNamed_22 (lv_at hl 0 rfl) ?_
          refine lv_ifnullN (tgt := 43) hx hb dX7_memberNamed_24 (by decide) ?_
          refine lv_iinc (v := nI (i + 1)) (lv' := [(3, .int (nI (i + 1))), (4, .null), (0, .ref o), (1, .ref h), (2, .int x)]) hx hb dX7_memberNamed_43 hl (k := 4) rfl (nI_1 i) (by decide) rfl (fun ls hl => ?_)
          refine lv_goto (tgt := 2) hx hb dX7_memberNamed_46 (by decide) ?_
          have a25 : f22 o = some (.inr (7, [.ref fa, .ref fi, .ref nu, .int (nI nl), .ref fm, .int (nI nf), .ref co, .int (nI nc), .ref en, .ref ke, .long lk])) := k24 _ _ a4 
          have a26 : f22 co = some (.inl (cy 5, 60, .inr (.inr (.inr (.inr gc))))) := k24 _ _ a5 
          have a27 : f22 h = some (.inr (1, [.ref mm, .int (nI z)])) := k24 _ _ a6 
          have a28 : f22 mm = some (.inl (cy 0, 60, .inl g)) := k24 _ _ a7 
          have F29 : ∀ i9 : Nat, i9 < nc → f22 (cn i9) = some (.inr (0, [.int (ce i9), .int (cm i9)])) := fun i9 h9 => k24 _ _ (F8 i9 h9) 
          exact ih (i + 1) _ _ _ _ (by omega) (by omega) (zMN_st hne (fun c9 h9 e9 => absurd e9 (hvc c9 h9))) a25 a26 a27 a28 F29 (by
                intro b e hb 
                have hb0 : fL2 b = some e := k3 b e hb 
                have hb1 : f22 b = some e := k24 b e hb0 
                exact hb1) hz hS (lv_sub hl [2, 3, 4, 0] rfl)
  exact lp1 (z - 0 + 1) 0 _ _ _ _ (Nat.lt_succ_self _) (by omega) (fun j9 h9 => absurd h9 (Nat.not_lt_zero _)) p0 p1 p2 p3 hCn (fun b e hb => hb) hz hS (lv_sub hl [1, 2, 3, 0] rfl)
abbrev rmX7_constant : Room := { frames := 2, cells := 1, slots := 2, locals := 45 }
set_option maxHeartbeats 4000000 in
set_option maxRecDepth 100000 in
theorem k_X7_constant (l : Launch) (D : va_G) (cy : Nat → ClassId) (f : zM) (o : Nat) (fa : Nat) (fi : Nat) (nu : Nat) (fm : Nat) (co : Nat) (en : Nat) (ke : Nat) (ev : Nat) (al : Nat) (ra : Nat) (kn : Nat) (vq : Nat) (ge : Nat → Option Nat) (ea : Nat → Nat) (ma : Nat → Nat) (u1 : Int32) (u2 : Int32) (u3 : Int32) (gv : Nat → Int32) (nl : Nat) (gu : Nat → Int32) (nn : Nat) (ga : Nat → Option Nat) (gr : Nat → Option Nat) (fg : Nat → Nat) (pt : Nat → Nat) (kd : Nat → Int32) (ln : Nat → Nat) (pp : Nat → Nat → Int64) (wg : Nat → Int64) (wd : Nat → Int32) (hs : Nat → Int32) (bf : Nat → Int32) (nf : Nat) (gf : Nat → Option Nat) (fq : Nat → Nat) (fk : Nat → Nat) (fz : Nat → Nat) (fc : Nat → Nat → Int32) (nc : Nat) (gc : Nat → Option Nat) (cn : Nat → Nat) (ce : Nat → Int32) (cm : Nat → Int32) (sq : Nat → Nat) (mb : Nat → Nat → Int32) (ks : Nat) (kk : Nat → Int32) (kv : Nat → Int32) (lk : Int64) (x : Int32) (y : Int32)    (hI : zIX cy f o fa fi nu fm co en ke ev al ra kn vq ge ea ma u1 u2 u3 gv nl gu nn ga gr fg pt kd ln pp wg wd hs bf nf gf fq fk fz fc nc gc cn ce cm sq mb ks kk kv lk) : zCi l D cy yX7_constant cX7_constant 5 (Option.some Jvm.ClassFile.FieldType.int) rmX7_constant [.ref o, .int x, .int y] f (fun (r : Int32) (f1 : zM) => ∃ (u11 : Int32) (u21 : Int32) (u31 : Int32) (gv1 : Nat → Int32) (nl1 : Nat) (gu1 : Nat → Int32) (nn1 : Nat) (ga1 : Nat → Option Nat) (gr1 : Nat → Option Nat) (fg1 : Nat → Nat) (pt1 : Nat → Nat) (kd1 : Nat → Int32) (ln1 : Nat → Nat) (pp1 : Nat → Nat → Int64) (wg1 : Nat → Int64) (wd1 : Nat → Int32) (hs1 : Nat → Int32) (bf1 : Nat → Int32) (nf1 : Nat) (gf1 : Nat → Option Nat) (fq1 : Nat → Nat) (fk1 : Nat → Nat) (fz1 : Nat → Nat) (fc1 : Nat → Nat → Int32) (nc1 : Nat) (gc1 : Nat → Option Nat) (cn1 : Nat → Nat) (ce1 : Nat → Int32) (cm1 : Nat → Int32) (sq1 : Nat → Nat) (mb1 : Nat → Nat → Int32) (ks1 : Nat) (kk1 : Nat → Int32) (kv1 : Nat → Int32) (lk1 : Int64), (u11 = u1) ∧ (u21 = u2) ∧ (u31 = u3) ∧ (gv1 = gv) ∧ (nl1 = nl) ∧ (gu1 = gu) ∧ (nn1 = nn) ∧ (kd1 = kd) ∧ (ln1 = ln) ∧ (pp1 = pp) ∧ (wd1 = wd) ∧ (hs1 = hs) ∧ (nf1 = nf) ∧ (fz1 = fz) ∧ (fc1 = fc) ∧ (nc1 = if 0 ≤ r then nc + 1 else nc) ∧ (ce1 = if 0 ≤ r then va_up ce nc x else ce) ∧ (cm1 = if 0 ≤ r then va_up cm nc y else cm) ∧ (sq1 = if 0 ≤ r then va_up sq (fI x) (sq (fI x) + 1) else sq) ∧ (mb1 = if 0 ≤ r then va_up mb (fI x) (upd (mb (fI x)) (sq (fI x)) (nI nc)) else mb) ∧ (ks1 = ks) ∧ (kk1 = kk) ∧ (kv1 = kv) ∧ (lk1 = lk) ∧ (zXC x y nc cm sq mb r) ∧ zIX cy f1 o fa fi nu fm co en ke ev al ra kn vq ge ea ma u11 u21 u31 gv1 nl1 gu1 nn1 ga1 gr1 fg1 pt1 kd1 ln1 pp1 wg1 wd1 hs1 bf1 nf1 gf1 fq1 fk1 fz1 fc1 nc1 gc1 cn1 ce1 cm1 sq1 mb1 ks1 kk1 kv1 lk1) := by
  intro sz
  refine z_body (by decide +kernel) (Nat.le_of_ble_eq_true rfl) ?_
  intro p e s m below meth c ls C hr hin hsz hz hl
  subst hsz
  have hx := C.1
  have hb := C.2.1
  have hA : ∀ q, s.heap.size ≤ q → zA f s.heap.size q := fun q h => Or.inr h
  have hS : va_S (zA f s.heap.size) s.heap s.heap [] := va_S.rf
  have hl : lv_has ls 5 [(0, .ref o), (1, .int x), (2, .int y)] := hl
  obtain ⟨x_o, x_fa, x_ev, x_fi, x_al, x_ra, x_nu, x_fm, x_co, x_en, x_ke, x_kn, x_vq, hF, hP, hFq, hFk, hCn, hEa, hMa, hn60, hl12, hf6, hc60, hs40, hga, hgr, hln, hk5, hk4, hfi, hpi, har, hgf, hfz, hgc, hG, hsq, hei, hmi, kne, hca, hcr, hlk⟩ := id hI
  by_cases he : 0 ≤ x ∧ x < 4
  · obtain ⟨j, hj, hxj⟩ := z_ix4 he
    have hIj : fI x = j := fI_of (by omega) hxj
    refine lv_aload_n hx hb dX7_constant_0 rfl (lv_at hl 0 rfl) ?_
    refine lv_iload_n hx hb dX7_constant_1 rfl (lv_at hl 1 rfl) ?_
    refine z_callVq (As := [.int x]) C hz hS hA hl (k_X7_findEnumeration_A l D cy f o fa fi nu nl fm nf co nc en ke lk ge ea x j x_o x_en hxj hj hG) zyX7_findEnumeration mMX7_204 x_o zl7 rfl rfl (Nat.le_of_ble_eq_true rfl) ⟨Nat.le_of_ble_eq_true rfl, Nat.le_of_ble_eq_true rfl⟩ ⟨Nat.le_of_ble_eq_true rfl, Nat.le_of_ble_eq_true rfl⟩ dX7_constant_2 (fun r f1 H locs h2 hz hS => ?_)
    obtain ⟨rfl, k3⟩ := h2
    refine W.eq (g2 := F0 m 5 ls [.ref (ea j)]) rfl ?_
    refine lv_astore_n (lv' := [(3, .ref (ea j)), (0, .ref o), (1, .int x), (2, .int y)]) hx hb dX7_constant_5 rfl hl (by decide) rfl (fun ls hl => ?_)
    refine lv_aload_n hx hb dX7_constant_6 rfl (lv_at hl 0 rfl) ?_
    refine lv_ifnull hx hb dX7_constant_7 ?_
    refine lv_iload_n hx hb dX7_constant_10 rfl (lv_at hl 3 rfl) ?_
    refine lv_if_lt (tgt := 31) hx hb dX7_constant_11 (by decide) (fun c4 => ?_) (fun c4 => ?_)
    · refine lv_bipush (v := (-2)) hx hb dX7_constant_31 (by decide) ?_
      have a5 : f1 o = some (.inr (7, [.ref fa, .ref fi, .ref nu, .int (nI nl), .ref fm, .int (nI nf), .ref co, .int (nI nc), .ref en, .ref ke, .long lk])) := k3 _ _ x_o 
      have a6 : f1 fa = some (.inr (2, [.int u1, .int u2, .int u3, .ref ev])) := k3 _ _ x_fa 
      have a7 : f1 ev = some (.inl (cy 0, 8, .inl gv)) := k3 _ _ x_ev 
      have a8 : f1 fi = some (.inr (5, [.ref al, .ref ra, .int (nI nn)])) := k3 _ _ x_fi 
      have a9 : f1 al = some (.inl (cy 3, 60, .inr (.inr (.inr (.inr ga))))) := k3 _ _ x_al 
      have a10 : f1 ra = some (.inl (cy 3, 60, .inr (.inr (.inr (.inr gr))))) := k3 _ _ x_ra 
      have a11 : f1 nu = some (.inl (cy 0, 12, .inl gu)) := k3 _ _ x_nu 
      have a12 : f1 fm = some (.inl (cy 4, 6, .inr (.inr (.inr (.inr gf))))) := k3 _ _ x_fm 
      have a13 : f1 co = some (.inl (cy 5, 60, .inr (.inr (.inr (.inr gc))))) := k3 _ _ x_co 
      have a14 : f1 en = some (.inl (cy 6, 4, .inr (.inr (.inr (.inr ge))))) := k3 _ _ x_en 
      have a15 : f1 ke = some (.inr (6, [.ref kn, .ref vq, .int (nI ks)])) := k3 _ _ x_ke 
      have a16 : f1 kn = some (.inl (cy 0, 40, .inl kk)) := k3 _ _ x_kn 
      have a17 : f1 vq = some (.inl (cy 0, 40, .inl kv)) := k3 _ _ x_vq 
      have F18 : ∀ i9 : Nat, i9 < nn → f1 (fg i9) = some (.inr (4, [.int (kd i9), .ref (pt i9), .long (wg i9), .int (wd i9), .int (nI i9), .int (hs i9), .int (bf i9)])) := fun i9 h9 => k3 _ _ (hF i9 h9) 
      have F19 : ∀ i9 : Nat, i9 < nn → f1 (pt i9) = some (.inl (cy 1, (ln i9), .inr (.inl (pp i9)))) := fun i9 h9 => k3 _ _ (hP i9 h9) 
      have F20 : ∀ i9 : Nat, i9 < nf → f1 (fq i9) = some (.inr (3, [.ref (fk i9), .int (nI (fz i9))])) := fun i9 h9 => k3 _ _ (hFq i9 h9) 
      have F21 : ∀ i9 : Nat, i9 < nf → f1 (fk i9) = some (.inl (cy 0, 4, .inl (fc i9))) := fun i9 h9 => k3 _ _ (hFk i9 h9) 
      have F22 : ∀ i9 : Nat, i9 < nc → f1 (cn i9) = some (.inr (0, [.int (ce i9), .int (cm i9)])) := fun i9 h9 => k3 _ _ (hCn i9 h9) 
      have F23 : ∀ i9 : Nat, i9 < 4 → f1 (ea i9) = some (.inr (1, [.ref (ma i9), .int (nI (sq i9))])) := fun i9 h9 => k3 _ _ (hEa i9 h9) 
      have F24 : ∀ i9 : Nat, i9 < 4 → f1 (ma i9) = some (.inl (cy 0, 60, .inl (mb i9))) := fun i9 h9 => k3 _ _ (hMa i9 h9) 
      exact z_iret C hr rfl hz hS ⟨u1, u2, u3, gv, nl, gu, nn, ga, gr, fg, pt, kd, ln, pp, wg, wd, hs, bf, nf, gf, fq, fk, fz, fc, nc, gc, cn, ce, cm, sq, mb, ks, kk, kv, lk, rfl, rfl, rfl, rfl, rfl, rfl, rfl, rfl, rfl, rfl, rfl, rfl, rfl, rfl, rfl, (by rw [if_neg (by decide)]), (by rw [if_neg (by decide)]), (by rw [if_neg (by decide)]), (by rw [if_neg (by decide)]), (by rw [if_neg (by decide)]), rfl, rfl, rfl, rfl, (Or.inr ⟨rfl, Or.inr (Or.inl (fun h9 => absurd h9.1 (Int32.not_le.mpr c4)))⟩), ⟨a5, a6, a7, a8, a9, a10, a11, a12, a13, a14, a15, a16, a17, F18, F19, F20, F21, F22, F23, F24, hn60, hl12, hf6, hc60, hs40, hga, hgr, hln, hk5, hk4, hfi, hpi, har, hgf, hfz, hgc, hG, hsq, hei, hmi, kne, hca, hcr, hlk⟩⟩ (Nat.le_of_ble_eq_true rfl) (Nat.le_of_ble_eq_true rfl) dX7_constant_33
    · refine lv_iload_n hx hb dX7_constant_14 rfl (lv_at hl 3 rfl) ?_
      refine lv_sipush (v := 10000) hx hb dX7_constant_15 (by decide) ?_
      refine lv_icmp_ge (tgt := 31) hx hb dX7_constant_18 (by decide) (fun c25 => ?_) (fun c25 => ?_)
      · refine lv_bipush (v := (-2)) hx hb dX7_constant_31 (by decide) ?_
        have a26 : f1 o = some (.inr (7, [.ref fa, .ref fi, .ref nu, .int (nI nl), .ref fm, .int (nI nf), .ref co, .int (nI nc), .ref en, .ref ke, .long lk])) := k3 _ _ x_o 
        have a27 : f1 fa = some (.inr (2, [.int u1, .int u2, .int u3, .ref ev])) := k3 _ _ x_fa 
        have a28 : f1 ev = some (.inl (cy 0, 8, .inl gv)) := k3 _ _ x_ev 
        have a29 : f1 fi = some (.inr (5, [.ref al, .ref ra, .int (nI nn)])) := k3 _ _ x_fi 
        have a30 : f1 al = some (.inl (cy 3, 60, .inr (.inr (.inr (.inr ga))))) := k3 _ _ x_al 
        have a31 : f1 ra = some (.inl (cy 3, 60, .inr (.inr (.inr (.inr gr))))) := k3 _ _ x_ra 
        have a32 : f1 nu = some (.inl (cy 0, 12, .inl gu)) := k3 _ _ x_nu 
        have a33 : f1 fm = some (.inl (cy 4, 6, .inr (.inr (.inr (.inr gf))))) := k3 _ _ x_fm 
        have a34 : f1 co = some (.inl (cy 5, 60, .inr (.inr (.inr (.inr gc))))) := k3 _ _ x_co 
        have a35 : f1 en = some (.inl (cy 6, 4, .inr (.inr (.inr (.inr ge))))) := k3 _ _ x_en 
        have a36 : f1 ke = some (.inr (6, [.ref kn, .ref vq, .int (nI ks)])) := k3 _ _ x_ke 
        have a37 : f1 kn = some (.inl (cy 0, 40, .inl kk)) := k3 _ _ x_kn 
        have a38 : f1 vq = some (.inl (cy 0, 40, .inl kv)) := k3 _ _ x_vq 
        have F39 : ∀ i9 : Nat, i9 < nn → f1 (fg i9) = some (.inr (4, [.int (kd i9), .ref (pt i9), .long (wg i9), .int (wd i9), .int (nI i9), .int (hs i9), .int (bf i9)])) := fun i9 h9 => k3 _ _ (hF i9 h9) 
        have F40 : ∀ i9 : Nat, i9 < nn → f1 (pt i9) = some (.inl (cy 1, (ln i9), .inr (.inl (pp i9)))) := fun i9 h9 => k3 _ _ (hP i9 h9) 
        have F41 : ∀ i9 : Nat, i9 < nf → f1 (fq i9) = some (.inr (3, [.ref (fk i9), .int (nI (fz i9))])) := fun i9 h9 => k3 _ _ (hFq i9 h9) 
        have F42 : ∀ i9 : Nat, i9 < nf → f1 (fk i9) = some (.inl (cy 0, 4, .inl (fc i9))) := fun i9 h9 => k3 _ _ (hFk i9 h9) 
        have F43 : ∀ i9 : Nat, i9 < nc → f1 (cn i9) = some (.inr (0, [.int (ce i9), .int (cm i9)])) := fun i9 h9 => k3 _ _ (hCn i9 h9) 
        have F44 : ∀ i9 : Nat, i9 < 4 → f1 (ea i9) = some (.inr (1, [.ref (ma i9), .int (nI (sq i9))])) := fun i9 h9 => k3 _ _ (hEa i9 h9) 
        have F45 : ∀ i9 : Nat, i9 < 4 → f1 (ma i9) = some (.inl (cy 0, 60, .inl (mb i9))) := fun i9 h9 => k3 _ _ (hMa i9 h9) 
        exact z_iret C hr rfl hz hS ⟨u1, u2, u3, gv, nl, gu, nn, ga, gr, fg, pt, kd, ln, pp, wg, wd, hs, bf, nf, gf, fq, fk, fz, fc, nc, gc, cn, ce, cm, sq, mb, ks, kk, kv, lk, rfl, rfl, rfl, rfl, rfl, rfl, rfl, rfl, rfl, rfl, rfl, rfl, rfl, rfl, rfl, (by rw [if_neg (by decide)]), (by rw [if_neg (by decide)]), (by rw [if_neg (by decide)]), (by rw [if_neg (by decide)]), (by rw [if_neg (by decide)]), rfl, rfl, rfl, rfl, (Or.inr ⟨rfl, Or.inr (Or.inl (fun h9 => absurd h9.2 (Int32.not_lt.mpr c25)))⟩), ⟨a26, a27, a28, a29, a30, a31, a32, a33, a34, a35, a36, a37, a38, F39, F40, F41, F42, F43, F44, F45, hn60, hl12, hf6, hc60, hs40, hga, hgr, hln, hk5, hk4, hfi, hpi, har, hgf, hfz, hgc, hG, hsq, hei, hmi, kne, hca, hcr, hlk⟩⟩ (Nat.le_of_ble_eq_true rfl) (Nat.le_of_ble_eq_true rfl) dX7_constant_33
      · refine lv_aload_n hx hb dX7_constant_21 rfl (lv_at hl 1 rfl) ?_
        refine lv_aload_n hx hb dX7_constant_22 rfl (lv_at hl 0 rfl) ?_
        refine lv_iload_n hx hb dX7_constant_23 rfl (lv_at hl 3 rfl) ?_
        have a46 : f1 o = some (.inr (7, [.ref fa, .ref fi, .ref nu, .int (nI nl), .ref fm, .int (nI nf), .ref co, .int (nI nc), .ref en, .ref ke, .long lk])) := k3 _ _ x_o 
        have a47 : f1 co = some (.inl (cy 5, 60, .inr (.inr (.inr (.inr gc))))) := k3 _ _ x_co 
        have F48 : ∀ i9 : Nat, i9 < 4 → f1 (ea i9) = some (.inr (1, [.ref (ma i9), .int (nI (sq i9))])) := fun i9 h9 => k3 _ _ (hEa i9 h9) 
        have a49 : f1 (ea j) = some (.inr (1, [.ref (ma j), .int (nI (sq j))])) := F48 j hj
        have F50 : ∀ i9 : Nat, i9 < 4 → f1 (ma i9) = some (.inl (cy 0, 60, .inl (mb i9))) := fun i9 h9 => k3 _ _ (hMa i9 h9) 
        have a51 : f1 (ma j) = some (.inl (cy 0, 60, .inl (mb j))) := F50 j hj
        have F52 : ∀ i9 : Nat, i9 < nc → f1 (cn i9) = some (.inr (0, [.int (ce i9), .int (cm i9)])) := fun i9 h9 => k3 _ _ (hCn i9 h9) 
        refine z_callVi (As := [.ref (ea j), .int y]) C hz hS hA hl (k_X7_memberNamed l D cy f1 o fa fi nu nl fm nf co nc en ke lk gc cn ce cm (ea j) (ma j) (sq j) (mb j) y a46 a47 a49 a51 F52 hc60 hgc (by have h9 := hsq j hj; omega)) zyX7_memberNamed mMX7_208 a46 zl7 rfl rfl (Nat.le_of_ble_eq_true rfl) ⟨Nat.le_of_ble_eq_true rfl, Nat.le_of_ble_eq_true rfl⟩ ⟨Nat.le_of_ble_eq_true rfl, Nat.le_of_ble_eq_true rfl⟩ dX7_constant_24 (fun r55 f53 H locs h54 hz hS => ?_)
        obtain ⟨p56, k57⟩ := h54
        refine lv_iconst (v := (-1)) hx hb dX7_constant_27 (by decide) ?_
        refine lv_icmp_eq (tgt := 34) hx hb dX7_constant_28 (by decide) (fun c58 => ?_) (fun c58 => ?_)
        · refine lv_aload_n hx hb dX7_constant_34 rfl (lv_at hl 1 rfl) ?_
          have a59 : f53 o = some (.inr (7, [.ref fa, .ref fi, .ref nu, .int (nI nl), .ref fm, .int (nI nf), .ref co, .int (nI nc), .ref en, .ref ke, .long lk])) := k57 _ _ a46 
          refine z_get (v := .int (nI nc)) C hz a59 zl7 mFX7_46 (by decide) rfl dX7_constant_35 ?_
          refine lv_bipush (v := 60) hx hb dX7_constant_38 (by decide) ?_
          refine lv_icmp_lt (tgt := 46) hx hb dX7_constant_40 (by decide) (fun c60 => ?_) (fun c60 => ?_)
          · replace c60 : (nc < 60) := (nI_ltI (a := nc) (b := 60) (by omega) (by omega)).mp c60
            refine lv_aload_n hx hb dX7_constant_46 rfl (lv_at hl 1 rfl) ?_
            refine z_get (v := .int (nI nc)) C hz a59 zl7 mFX7_46 (by decide) rfl dX7_constant_47 ?_
            refine lv_istore (lv' := [(4, .int (nI nc)), (3, .ref (ea j)), (0, .ref o), (1, .int x), (2, .int y)]) hx hb dX7_constant_50 hl (by decide) rfl (fun ls hl => ?_)
            refine lv_aload_n hx hb dX7_constant_52 rfl (lv_at hl 2 rfl) ?_
            refine z_get (v := .ref co) C hz a59 zl7 mFX7_42 (by decide) rfl dX7_constant_53 ?_
            refine lv_iload hx hb dX7_constant_56 (lv_at hl 0 rfl) ?_
            refine z_new (fs := [.int 0, .int 0]) C hz hS hA zl0 mLX7_40 mIa_RX0 mIn_RX0 (by decide +kernel) (Nat.le_of_ble_eq_true rfl) (Nat.le_of_ble_eq_true rfl) dX7_constant_58 (fun q61 H f63 uq62 a64 k65 hz hS => ?_)
            refine lv_dup hx hb dX7_constant_61 rfl ?_
            refine lv_iload_n hx hb dX7_constant_62 rfl (lv_at hl 3 rfl) ?_
            refine lv_iload_n hx hb dX7_constant_63 rfl (lv_at hl 4 rfl) ?_
            refine z_callIv (ret := none) (As := [.int x, .int y]) C hz hS hA hl (k_X0_init l D cy f63 q61 x y a64 ) zyX0_init mMX7_212 rfl rfl (Nat.le_of_ble_eq_true rfl) ⟨Nat.le_of_ble_eq_true rfl, Nat.le_of_ble_eq_true rfl⟩ ⟨Nat.le_of_ble_eq_true rfl, Nat.le_of_ble_eq_true rfl⟩ dX7_constant_64 (fun  f66 H locs h67 hz hS => ?_)
            obtain ⟨a68, k69⟩ := h67
            have a70 : f53 co = some (.inl (cy 5, 60, .inr (.inr (.inr (.inr gc))))) := k57 _ _ a47 
            have a71 : f63 co = some (.inl (cy 5, 60, .inr (.inr (.inr (.inr gc))))) := (k65 _ (z_nn uq62 a70)).trans a70
            have a72 : f66 co = some (.inl (cy 5, 60, .inr (.inr (.inr (.inr gc))))) := k69 _ _ a71 (z_nn uq62 a70)
            refine z_astq nc C hz hS a72 rfl a68 zl0 rfl (by omega) (by omega) dX7_constant_67 (fun H locs f73 a74 k75 hz hS => ?_)
            refine lv_aload_n hx hb dX7_constant_68 rfl (lv_at hl 2 rfl) ?_
            refine lv_dup hx hb dX7_constant_69 rfl ?_
            have a76 : f63 o = some (.inr (7, [.ref fa, .ref fi, .ref nu, .int (nI nl), .ref fm, .int (nI nf), .ref co, .int (nI nc), .ref en, .ref ke, .long lk])) := (k65 _ (z_nn uq62 a59)).trans a59
            have a77 : f66 o = some (.inr (7, [.ref fa, .ref fi, .ref nu, .int (nI nl), .ref fm, .int (nI nf), .ref co, .int (nI nc), .ref en, .ref ke, .long lk])) := k69 _ _ a76 (z_nn uq62 a59)
            have a78 : f73 o = some (.inr (7, [.ref fa, .ref fi, .ref nu, .int (nI nl), .ref fm, .int (nI nf), .ref co, .int (nI nc), .ref en, .ref ke, .long lk])) := (k75 _ (z_ne a77 a72 rfl)).trans a77
            refine z_get (v := .int (nI nc)) C hz a78 zl7 mFX7_46 (by decide) rfl dX7_constant_70 ?_
            refine lv_iconst (v := 1) hx hb dX7_constant_73 (by decide) ?_
            refine lv_iadd hx hb dX7_constant_74 ?_
            refine lv_topi (fun y79 e80 => ?_)
            obtain rfl : y79 = nI (nc + 1) := e80.trans (nI_1 nc)
            refine z_put (fs' := [.ref fa, .ref fi, .ref nu, .int (nI nl), .ref fm, .int (nI nf), .ref co, .int (nI (nc + 1)), .ref en, .ref ke, .long lk]) C hz hS a78 zl7 mFX7_46 (by decide) rfl rfl rfl (Nat.le_of_ble_eq_true rfl) rfl dX7_constant_75 (fun H locs f81 a82 k83 hz hS => ?_)
            refine lv_aload_n hx hb dX7_constant_78 rfl (lv_at hl 1 rfl) ?_
            refine lv_iload hx hb dX7_constant_79 (lv_at hl 0 rfl) ?_
            have a84 : f53 (ea j) = some (.inr (1, [.ref (ma j), .int (nI (sq j))])) := k57 _ _ a49 
            have a85 : f63 (ea j) = some (.inr (1, [.ref (ma j), .int (nI (sq j))])) := (k65 _ (z_nn uq62 a84)).trans a84
            have a86 : f66 (ea j) = some (.inr (1, [.ref (ma j), .int (nI (sq j))])) := k69 _ _ a85 (z_nn uq62 a84)
            have a87 : f73 (ea j) = some (.inr (1, [.ref (ma j), .int (nI (sq j))])) := (k75 _ (z_ne a86 a72 rfl)).trans a86
            have a88 : f81 (ea j) = some (.inr (1, [.ref (ma j), .int (nI (sq j))])) := (k83 _ (z_ne a87 a78 rfl)).trans a87
            have a89 : f53 (ma j) = some (.inl (cy 0, 60, .inl (mb j))) := k57 _ _ a51 
            have a90 : f63 (ma j) = some (.inl (cy 0, 60, .inl (mb j))) := (k65 _ (z_nn uq62 a89)).trans a89
            have a91 : f66 (ma j) = some (.inl (cy 0, 60, .inl (mb j))) := k69 _ _ a90 (z_nn uq62 a89)
            have a92 : f73 (ma j) = some (.inl (cy 0, 60, .inl (mb j))) := (k75 _ (z_ne a91 a72 rfl)).trans a91
            have a93 : f81 (ma j) = some (.inl (cy 0, 60, .inl (mb j))) := (k83 _ (z_ne a92 a78 rfl)).trans a92
            refine z_callVv (As := [.int (nI nc)]) C hz hS hA hl (k_X1_append l D cy f81 (ea j) (ma j) (sq j) (mb j) (nI nc) a88 a93 (by have h9 := hsq j hj; omega)) zyX1_append mMX7_214 a88 zl1 rfl rfl (Nat.le_of_ble_eq_true rfl) ⟨Nat.le_of_ble_eq_true rfl, Nat.le_of_ble_eq_true rfl⟩ ⟨Nat.le_of_ble_eq_true rfl, Nat.le_of_ble_eq_true rfl⟩ dX7_constant_81 (fun  f94 H locs h95 hz hS => ?_)
            obtain ⟨a96, a97, k98⟩ := h95
            refine lv_iload hx hb dX7_constant_84 (lv_at hl 0 rfl) ?_
            have F99 : ∀ i9 : Nat, i9 < nc → f53 (cn i9) = some (.inr (0, [.int (ce i9), .int (cm i9)])) := fun i9 h9 => k57 _ _ (F52 i9 h9) 
            have F100 : ∀ i9 : Nat, i9 < nc → f63 (cn i9) = some (.inr (0, [.int (ce i9), .int (cm i9)])) := fun i9 h9 => (k65 _ (z_nn uq62 (F99 i9 h9))).trans (F99 i9 h9)
            have F101 : ∀ i9 : Nat, i9 < nc → f66 (cn i9) = some (.inr (0, [.int (ce i9), .int (cm i9)])) := fun i9 h9 => k69 _ _ (F100 i9 h9) (z_nn uq62 (F99 i9 h9))
            have F102 : ∀ i9 : Nat, i9 < nc → f73 (cn i9) = some (.inr (0, [.int (ce i9), .int (cm i9)])) := fun i9 h9 => (k75 _ (z_ne (F101 i9 h9) a72 rfl)).trans (F101 i9 h9)
            have F103 : ∀ i9 : Nat, i9 < nc → f81 (cn i9) = some (.inr (0, [.int (ce i9), .int (cm i9)])) := fun i9 h9 => (k83 _ (z_ne (F102 i9 h9) a78 rfl)).trans (F102 i9 h9)
            have F104 : ∀ i9 : Nat, i9 < nc → f94 (cn i9) = some (.inr (0, [.int (ce i9), .int (cm i9)])) := fun i9 h9 => k98 _ _ (F103 i9 h9) (z_ne (F103 i9 h9) a88 rfl) (z_ne (F103 i9 h9) a93 rfl)
            have a105 : f73 q61 = some (.inr (0, [.int x, .int y])) := (k75 _ (Ne.symm (z_nn uq62 a70))).trans a68
            have a106 : f81 q61 = some (.inr (0, [.int x, .int y])) := (k83 _ (Ne.symm (z_nn uq62 a59))).trans a105
            have a107 : f94 q61 = some (.inr (0, [.int x, .int y])) := k98 _ _ a106 (Ne.symm (z_nn uq62 a84)) (Ne.symm (z_nn uq62 a89))
            have F108 : ∀ i9 : Nat, i9 < (nc + 1) → f94 ((va_up cn nc q61) i9) = some (.inr (0, [.int (va_up ce nc x i9), .int (va_up cm nc y i9)])) := z_famP (n := nc) (T := fun i9 => .inr (0, [.int (ce i9), .int (cm i9)])) (T' := fun i9 => .inr (0, [.int (va_up ce nc x i9), .int (va_up cm nc y i9)])) F104 (by simp only [va_up_self]; exact a107) (fun i9 h9 => va_up_ne _ _ (by omega)) (va_up_self _ _ _) (fun i9 h9 => by simp only [va_up_ne _ _ (show i9 ≠ nc by omega)])
            have a109 : f94 o = some (.inr (7, [.ref fa, .ref fi, .ref nu, .int (nI nl), .ref fm, .int (nI nf), .ref co, .int (nI (nc + 1)), .ref en, .ref ke, .long lk])) := k98 _ _ a82 (z_ne a82 a88 rfl) (z_ne a82 a93 rfl)
            have a110 : f1 fa = some (.inr (2, [.int u1, .int u2, .int u3, .ref ev])) := k3 _ _ x_fa 
            have a111 : f53 fa = some (.inr (2, [.int u1, .int u2, .int u3, .ref ev])) := k57 _ _ a110 
            have a112 : f63 fa = some (.inr (2, [.int u1, .int u2, .int u3, .ref ev])) := (k65 _ (z_nn uq62 a111)).trans a111
            have a113 : f66 fa = some (.inr (2, [.int u1, .int u2, .int u3, .ref ev])) := k69 _ _ a112 (z_nn uq62 a111)
            have a114 : f73 fa = some (.inr (2, [.int u1, .int u2, .int u3, .ref ev])) := (k75 _ (z_ne a113 a72 rfl)).trans a113
            have a115 : f81 fa = some (.inr (2, [.int u1, .int u2, .int u3, .ref ev])) := (k83 _ (z_ne a114 a78 rfl)).trans a114
            have a116 : f94 fa = some (.inr (2, [.int u1, .int u2, .int u3, .ref ev])) := k98 _ _ a115 (z_ne a115 a88 rfl) (z_ne a115 a93 rfl)
            have a117 : f1 ev = some (.inl (cy 0, 8, .inl gv)) := k3 _ _ x_ev 
            have a118 : f53 ev = some (.inl (cy 0, 8, .inl gv)) := k57 _ _ a117 
            have a119 : f63 ev = some (.inl (cy 0, 8, .inl gv)) := (k65 _ (z_nn uq62 a118)).trans a118
            have a120 : f66 ev = some (.inl (cy 0, 8, .inl gv)) := k69 _ _ a119 (z_nn uq62 a118)
            have a121 : f73 ev = some (.inl (cy 0, 8, .inl gv)) := (k75 _ (z_ne a120 a72 rfl)).trans a120
            have a122 : f81 ev = some (.inl (cy 0, 8, .inl gv)) := (k83 _ (z_ne a121 a78 rfl)).trans a121
            have a123 : f94 ev = some (.inl (cy 0, 8, .inl gv)) := k98 _ _ a122 (z_ne a122 a88 rfl) (z_ne a122 a93 rfl)
            have a124 : f1 fi = some (.inr (5, [.ref al, .ref ra, .int (nI nn)])) := k3 _ _ x_fi 
            have a125 : f53 fi = some (.inr (5, [.ref al, .ref ra, .int (nI nn)])) := k57 _ _ a124 
            have a126 : f63 fi = some (.inr (5, [.ref al, .ref ra, .int (nI nn)])) := (k65 _ (z_nn uq62 a125)).trans a125
            have a127 : f66 fi = some (.inr (5, [.ref al, .ref ra, .int (nI nn)])) := k69 _ _ a126 (z_nn uq62 a125)
            have a128 : f73 fi = some (.inr (5, [.ref al, .ref ra, .int (nI nn)])) := (k75 _ (z_ne a127 a72 rfl)).trans a127
            have a129 : f81 fi = some (.inr (5, [.ref al, .ref ra, .int (nI nn)])) := (k83 _ (z_ne a128 a78 rfl)).trans a128
            have a130 : f94 fi = some (.inr (5, [.ref al, .ref ra, .int (nI nn)])) := k98 _ _ a129 (z_ne a129 a88 rfl) (z_ne a129 a93 rfl)
            have a131 : f1 al = some (.inl (cy 3, 60, .inr (.inr (.inr (.inr ga))))) := k3 _ _ x_al 
            have a132 : f53 al = some (.inl (cy 3, 60, .inr (.inr (.inr (.inr ga))))) := k57 _ _ a131 
            have a133 : f63 al = some (.inl (cy 3, 60, .inr (.inr (.inr (.inr ga))))) := (k65 _ (z_nn uq62 a132)).trans a132
            have a134 : f66 al = some (.inl (cy 3, 60, .inr (.inr (.inr (.inr ga))))) := k69 _ _ a133 (z_nn uq62 a132)
            have a135 : f73 al = some (.inl (cy 3, 60, .inr (.inr (.inr (.inr ga))))) := (k75 _ (Ne.symm hca)).trans a134
            have a136 : f81 al = some (.inl (cy 3, 60, .inr (.inr (.inr (.inr ga))))) := (k83 _ (z_ne a135 a78 rfl)).trans a135
            have a137 : f94 al = some (.inl (cy 3, 60, .inr (.inr (.inr (.inr ga))))) := k98 _ _ a136 (z_ne a136 a88 rfl) (z_ne a136 a93 rfl)
            have a138 : f1 ra = some (.inl (cy 3, 60, .inr (.inr (.inr (.inr gr))))) := k3 _ _ x_ra 
            have a139 : f53 ra = some (.inl (cy 3, 60, .inr (.inr (.inr (.inr gr))))) := k57 _ _ a138 
            have a140 : f63 ra = some (.inl (cy 3, 60, .inr (.inr (.inr (.inr gr))))) := (k65 _ (z_nn uq62 a139)).trans a139
            have a141 : f66 ra = some (.inl (cy 3, 60, .inr (.inr (.inr (.inr gr))))) := k69 _ _ a140 (z_nn uq62 a139)
            have a142 : f73 ra = some (.inl (cy 3, 60, .inr (.inr (.inr (.inr gr))))) := (k75 _ (Ne.symm hcr)).trans a141
            have a143 : f81 ra = some (.inl (cy 3, 60, .inr (.inr (.inr (.inr gr))))) := (k83 _ (z_ne a142 a78 rfl)).trans a142
            have a144 : f94 ra = some (.inl (cy 3, 60, .inr (.inr (.inr (.inr gr))))) := k98 _ _ a143 (z_ne a143 a88 rfl) (z_ne a143 a93 rfl)
            have a145 : f1 nu = some (.inl (cy 0, 12, .inl gu)) := k3 _ _ x_nu 
            have a146 : f53 nu = some (.inl (cy 0, 12, .inl gu)) := k57 _ _ a145 
            have a147 : f63 nu = some (.inl (cy 0, 12, .inl gu)) := (k65 _ (z_nn uq62 a146)).trans a146
            have a148 : f66 nu = some (.inl (cy 0, 12, .inl gu)) := k69 _ _ a147 (z_nn uq62 a146)
            have a149 : f73 nu = some (.inl (cy 0, 12, .inl gu)) := (k75 _ (z_ne a148 a72 rfl)).trans a148
            have a150 : f81 nu = some (.inl (cy 0, 12, .inl gu)) := (k83 _ (z_ne a149 a78 rfl)).trans a149
            have a151 : f94 nu = some (.inl (cy 0, 12, .inl gu)) := k98 _ _ a150 (z_ne a150 a88 rfl) (z_ne a150 a93 rfl)
            have a152 : f1 fm = some (.inl (cy 4, 6, .inr (.inr (.inr (.inr gf))))) := k3 _ _ x_fm 
            have a153 : f53 fm = some (.inl (cy 4, 6, .inr (.inr (.inr (.inr gf))))) := k57 _ _ a152 
            have a154 : f63 fm = some (.inl (cy 4, 6, .inr (.inr (.inr (.inr gf))))) := (k65 _ (z_nn uq62 a153)).trans a153
            have a155 : f66 fm = some (.inl (cy 4, 6, .inr (.inr (.inr (.inr gf))))) := k69 _ _ a154 (z_nn uq62 a153)
            have a156 : f73 fm = some (.inl (cy 4, 6, .inr (.inr (.inr (.inr gf))))) := (k75 _ (z_ne a155 a72 rfl)).trans a155
            have a157 : f81 fm = some (.inl (cy 4, 6, .inr (.inr (.inr (.inr gf))))) := (k83 _ (z_ne a156 a78 rfl)).trans a156
            have a158 : f94 fm = some (.inl (cy 4, 6, .inr (.inr (.inr (.inr gf))))) := k98 _ _ a157 (z_ne a157 a88 rfl) (z_ne a157 a93 rfl)
            have a159 : f81 co = some (.inl (cy 5, 60, .inr (.inr (.inr (.inr (va_up gc nc (some q61))))))) := (k83 _ (z_ne a74 a78 rfl)).trans a74
            have a160 : f94 co = some (.inl (cy 5, 60, .inr (.inr (.inr (.inr (va_up gc nc (some q61))))))) := k98 _ _ a159 (z_ne a159 a88 rfl) (z_ne a159 a93 rfl)
            have a161 : f1 en = some (.inl (cy 6, 4, .inr (.inr (.inr (.inr ge))))) := k3 _ _ x_en 
            have a162 : f53 en = some (.inl (cy 6, 4, .inr (.inr (.inr (.inr ge))))) := k57 _ _ a161 
            have a163 : f63 en = some (.inl (cy 6, 4, .inr (.inr (.inr (.inr ge))))) := (k65 _ (z_nn uq62 a162)).trans a162
            have a164 : f66 en = some (.inl (cy 6, 4, .inr (.inr (.inr (.inr ge))))) := k69 _ _ a163 (z_nn uq62 a162)
            have a165 : f73 en = some (.inl (cy 6, 4, .inr (.inr (.inr (.inr ge))))) := (k75 _ (z_ne a164 a72 rfl)).trans a164
            have a166 : f81 en = some (.inl (cy 6, 4, .inr (.inr (.inr (.inr ge))))) := (k83 _ (z_ne a165 a78 rfl)).trans a165
            have a167 : f94 en = some (.inl (cy 6, 4, .inr (.inr (.inr (.inr ge))))) := k98 _ _ a166 (z_ne a166 a88 rfl) (z_ne a166 a93 rfl)
            have a168 : f1 ke = some (.inr (6, [.ref kn, .ref vq, .int (nI ks)])) := k3 _ _ x_ke 
            have a169 : f53 ke = some (.inr (6, [.ref kn, .ref vq, .int (nI ks)])) := k57 _ _ a168 
            have a170 : f63 ke = some (.inr (6, [.ref kn, .ref vq, .int (nI ks)])) := (k65 _ (z_nn uq62 a169)).trans a169
            have a171 : f66 ke = some (.inr (6, [.ref kn, .ref vq, .int (nI ks)])) := k69 _ _ a170 (z_nn uq62 a169)
            have a172 : f73 ke = some (.inr (6, [.ref kn, .ref vq, .int (nI ks)])) := (k75 _ (z_ne a171 a72 rfl)).trans a171
            have a173 : f81 ke = some (.inr (6, [.ref kn, .ref vq, .int (nI ks)])) := (k83 _ (z_ne a172 a78 rfl)).trans a172
            have a174 : f94 ke = some (.inr (6, [.ref kn, .ref vq, .int (nI ks)])) := k98 _ _ a173 (z_ne a173 a88 rfl) (z_ne a173 a93 rfl)
            have a175 : f1 kn = some (.inl (cy 0, 40, .inl kk)) := k3 _ _ x_kn 
            have a176 : f53 kn = some (.inl (cy 0, 40, .inl kk)) := k57 _ _ a175 
            have a177 : f63 kn = some (.inl (cy 0, 40, .inl kk)) := (k65 _ (z_nn uq62 a176)).trans a176
            have a178 : f66 kn = some (.inl (cy 0, 40, .inl kk)) := k69 _ _ a177 (z_nn uq62 a176)
            have a179 : f73 kn = some (.inl (cy 0, 40, .inl kk)) := (k75 _ (z_ne a178 a72 rfl)).trans a178
            have a180 : f81 kn = some (.inl (cy 0, 40, .inl kk)) := (k83 _ (z_ne a179 a78 rfl)).trans a179
            have a181 : f94 kn = some (.inl (cy 0, 40, .inl kk)) := k98 _ _ a180 (z_ne a180 a88 rfl) (z_ne a180 a93 rfl)
            have a182 : f1 vq = some (.inl (cy 0, 40, .inl kv)) := k3 _ _ x_vq 
            have a183 : f53 vq = some (.inl (cy 0, 40, .inl kv)) := k57 _ _ a182 
            have a184 : f63 vq = some (.inl (cy 0, 40, .inl kv)) := (k65 _ (z_nn uq62 a183)).trans a183
            have a185 : f66 vq = some (.inl (cy 0, 40, .inl kv)) := k69 _ _ a184 (z_nn uq62 a183)
            have a186 : f73 vq = some (.inl (cy 0, 40, .inl kv)) := (k75 _ (z_ne a185 a72 rfl)).trans a185
            have a187 : f81 vq = some (.inl (cy 0, 40, .inl kv)) := (k83 _ (z_ne a186 a78 rfl)).trans a186
            have a188 : f94 vq = some (.inl (cy 0, 40, .inl kv)) := k98 _ _ a187 (z_ne a187 a88 rfl) (z_ne a187 a93 rfl)
            have F189 : ∀ i9 : Nat, i9 < nn → f1 (fg i9) = some (.inr (4, [.int (kd i9), .ref (pt i9), .long (wg i9), .int (wd i9), .int (nI i9), .int (hs i9), .int (bf i9)])) := fun i9 h9 => k3 _ _ (hF i9 h9) 
            have F190 : ∀ i9 : Nat, i9 < nn → f53 (fg i9) = some (.inr (4, [.int (kd i9), .ref (pt i9), .long (wg i9), .int (wd i9), .int (nI i9), .int (hs i9), .int (bf i9)])) := fun i9 h9 => k57 _ _ (F189 i9 h9) 
            have F191 : ∀ i9 : Nat, i9 < nn → f63 (fg i9) = some (.inr (4, [.int (kd i9), .ref (pt i9), .long (wg i9), .int (wd i9), .int (nI i9), .int (hs i9), .int (bf i9)])) := fun i9 h9 => (k65 _ (z_nn uq62 (F190 i9 h9))).trans (F190 i9 h9)
            have F192 : ∀ i9 : Nat, i9 < nn → f66 (fg i9) = some (.inr (4, [.int (kd i9), .ref (pt i9), .long (wg i9), .int (wd i9), .int (nI i9), .int (hs i9), .int (bf i9)])) := fun i9 h9 => k69 _ _ (F191 i9 h9) (z_nn uq62 (F190 i9 h9))
            have F193 : ∀ i9 : Nat, i9 < nn → f73 (fg i9) = some (.inr (4, [.int (kd i9), .ref (pt i9), .long (wg i9), .int (wd i9), .int (nI i9), .int (hs i9), .int (bf i9)])) := fun i9 h9 => (k75 _ (z_ne (F192 i9 h9) a72 rfl)).trans (F192 i9 h9)
            have F194 : ∀ i9 : Nat, i9 < nn → f81 (fg i9) = some (.inr (4, [.int (kd i9), .ref (pt i9), .long (wg i9), .int (wd i9), .int (nI i9), .int (hs i9), .int (bf i9)])) := fun i9 h9 => (k83 _ (z_ne (F193 i9 h9) a78 rfl)).trans (F193 i9 h9)
            have F195 : ∀ i9 : Nat, i9 < nn → f94 (fg i9) = some (.inr (4, [.int (kd i9), .ref (pt i9), .long (wg i9), .int (wd i9), .int (nI i9), .int (hs i9), .int (bf i9)])) := fun i9 h9 => k98 _ _ (F194 i9 h9) (z_ne (F194 i9 h9) a88 rfl) (z_ne (F194 i9 h9) a93 rfl)
            have F196 : ∀ i9 : Nat, i9 < nn → f1 (pt i9) = some (.inl (cy 1, (ln i9), .inr (.inl (pp i9)))) := fun i9 h9 => k3 _ _ (hP i9 h9) 
            have F197 : ∀ i9 : Nat, i9 < nn → f53 (pt i9) = some (.inl (cy 1, (ln i9), .inr (.inl (pp i9)))) := fun i9 h9 => k57 _ _ (F196 i9 h9) 
            have F198 : ∀ i9 : Nat, i9 < nn → f63 (pt i9) = some (.inl (cy 1, (ln i9), .inr (.inl (pp i9)))) := fun i9 h9 => (k65 _ (z_nn uq62 (F197 i9 h9))).trans (F197 i9 h9)
            have F199 : ∀ i9 : Nat, i9 < nn → f66 (pt i9) = some (.inl (cy 1, (ln i9), .inr (.inl (pp i9)))) := fun i9 h9 => k69 _ _ (F198 i9 h9) (z_nn uq62 (F197 i9 h9))
            have F200 : ∀ i9 : Nat, i9 < nn → f73 (pt i9) = some (.inl (cy 1, (ln i9), .inr (.inl (pp i9)))) := fun i9 h9 => (k75 _ (z_neA (F199 i9 h9) a72 rfl)).trans (F199 i9 h9)
            have F201 : ∀ i9 : Nat, i9 < nn → f81 (pt i9) = some (.inl (cy 1, (ln i9), .inr (.inl (pp i9)))) := fun i9 h9 => (k83 _ (z_neO (F200 i9 h9) a78 rfl)).trans (F200 i9 h9)
            have F202 : ∀ i9 : Nat, i9 < nn → f94 (pt i9) = some (.inl (cy 1, (ln i9), .inr (.inl (pp i9)))) := fun i9 h9 => k98 _ _ (F201 i9 h9) (z_neO (F201 i9 h9) a88 rfl) (z_neA (F201 i9 h9) a93 rfl)
            have F203 : ∀ i9 : Nat, i9 < nf → f1 (fq i9) = some (.inr (3, [.ref (fk i9), .int (nI (fz i9))])) := fun i9 h9 => k3 _ _ (hFq i9 h9) 
            have F204 : ∀ i9 : Nat, i9 < nf → f53 (fq i9) = some (.inr (3, [.ref (fk i9), .int (nI (fz i9))])) := fun i9 h9 => k57 _ _ (F203 i9 h9) 
            have F205 : ∀ i9 : Nat, i9 < nf → f63 (fq i9) = some (.inr (3, [.ref (fk i9), .int (nI (fz i9))])) := fun i9 h9 => (k65 _ (z_nn uq62 (F204 i9 h9))).trans (F204 i9 h9)
            have F206 : ∀ i9 : Nat, i9 < nf → f66 (fq i9) = some (.inr (3, [.ref (fk i9), .int (nI (fz i9))])) := fun i9 h9 => k69 _ _ (F205 i9 h9) (z_nn uq62 (F204 i9 h9))
            have F207 : ∀ i9 : Nat, i9 < nf → f73 (fq i9) = some (.inr (3, [.ref (fk i9), .int (nI (fz i9))])) := fun i9 h9 => (k75 _ (z_ne (F206 i9 h9) a72 rfl)).trans (F206 i9 h9)
            have F208 : ∀ i9 : Nat, i9 < nf → f81 (fq i9) = some (.inr (3, [.ref (fk i9), .int (nI (fz i9))])) := fun i9 h9 => (k83 _ (z_ne (F207 i9 h9) a78 rfl)).trans (F207 i9 h9)
            have F209 : ∀ i9 : Nat, i9 < nf → f94 (fq i9) = some (.inr (3, [.ref (fk i9), .int (nI (fz i9))])) := fun i9 h9 => k98 _ _ (F208 i9 h9) (z_ne (F208 i9 h9) a88 rfl) (z_ne (F208 i9 h9) a93 rfl)
            have F210 : ∀ i9 : Nat, i9 < nf → f1 (fk i9) = some (.inl (cy 0, 4, .inl (fc i9))) := fun i9 h9 => k3 _ _ (hFk i9 h9) 
            have F211 : ∀ i9 : Nat, i9 < nf → f53 (fk i9) = some (.inl (cy 0, 4, .inl (fc i9))) := fun i9 h9 => k57 _ _ (F210 i9 h9) 
            have F212 : ∀ i9 : Nat, i9 < nf → f63 (fk i9) = some (.inl (cy 0, 4, .inl (fc i9))) := fun i9 h9 => (k65 _ (z_nn uq62 (F211 i9 h9))).trans (F211 i9 h9)
            have F213 : ∀ i9 : Nat, i9 < nf → f66 (fk i9) = some (.inl (cy 0, 4, .inl (fc i9))) := fun i9 h9 => k69 _ _ (F212 i9 h9) (z_nn uq62 (F211 i9 h9))
            have F214 : ∀ i9 : Nat, i9 < nf → f73 (fk i9) = some (.inl (cy 0, 4, .inl (fc i9))) := fun i9 h9 => (k75 _ (z_ne (F213 i9 h9) a72 rfl)).trans (F213 i9 h9)
            have F215 : ∀ i9 : Nat, i9 < nf → f81 (fk i9) = some (.inl (cy 0, 4, .inl (fc i9))) := fun i9 h9 => (k83 _ (z_ne (F214 i9 h9) a78 rfl)).trans (F214 i9 h9)
            have F216 : ∀ i9 : Nat, i9 < nf → f94 (fk i9) = some (.inl (cy 0, 4, .inl (fc i9))) := fun i9 h9 => k98 _ _ (F215 i9 h9) (z_ne (F215 i9 h9) a88 rfl) (z_ne (F215 i9 h9) a93 rfl)
            have F217 : ∀ i9 : Nat, i9 < 4 → f53 (ea i9) = some (.inr (1, [.ref (ma i9), .int (nI (sq i9))])) := fun i9 h9 => k57 _ _ (F48 i9 h9) 
            have F218 : ∀ i9 : Nat, i9 < 4 → f63 (ea i9) = some (.inr (1, [.ref (ma i9), .int (nI (sq i9))])) := fun i9 h9 => (k65 _ (z_nn uq62 (F217 i9 h9))).trans (F217 i9 h9)
            have F219 : ∀ i9 : Nat, i9 < 4 → f66 (ea i9) = some (.inr (1, [.ref (ma i9), .int (nI (sq i9))])) := fun i9 h9 => k69 _ _ (F218 i9 h9) (z_nn uq62 (F217 i9 h9))
            have F220 : ∀ i9 : Nat, i9 < 4 → f73 (ea i9) = some (.inr (1, [.ref (ma i9), .int (nI (sq i9))])) := fun i9 h9 => (k75 _ (z_ne (F219 i9 h9) a72 rfl)).trans (F219 i9 h9)
            have F221 : ∀ i9 : Nat, i9 < 4 → f81 (ea i9) = some (.inr (1, [.ref (ma i9), .int (nI (sq i9))])) := fun i9 h9 => (k83 _ (z_ne (F220 i9 h9) a78 rfl)).trans (F220 i9 h9)
            have F222 : ∀ i9 : Nat, i9 < 4 → f94 (ea i9) = some (.inr (1, [.ref (ma i9), .int (nI (va_up sq j ((sq j) + 1) i9))])) := z_famC (f := f) (T := fun i9 => .inr (1, [.ref (ma i9), .int (nI (sq i9))])) (T' := fun i9 => .inr (1, [.ref (ma i9), .int (nI (va_up sq j ((sq j) + 1) i9))])) hj (by simp only [va_up_self]; exact a96) (fun i9 h9 n9 => k98 _ _ (F221 i9 h9) n9 (z_ne (F221 i9 h9) a93 rfl)) (fun i9 h9 => by simp only [va_up_ne _ _ h9]) (fun i9 h9 => hei i9 h9 j hj)
            have F223 : ∀ i9 : Nat, i9 < 4 → f53 (ma i9) = some (.inl (cy 0, 60, .inl (mb i9))) := fun i9 h9 => k57 _ _ (F50 i9 h9) 
            have F224 : ∀ i9 : Nat, i9 < 4 → f63 (ma i9) = some (.inl (cy 0, 60, .inl (mb i9))) := fun i9 h9 => (k65 _ (z_nn uq62 (F223 i9 h9))).trans (F223 i9 h9)
            have F225 : ∀ i9 : Nat, i9 < 4 → f66 (ma i9) = some (.inl (cy 0, 60, .inl (mb i9))) := fun i9 h9 => k69 _ _ (F224 i9 h9) (z_nn uq62 (F223 i9 h9))
            have F226 : ∀ i9 : Nat, i9 < 4 → f73 (ma i9) = some (.inl (cy 0, 60, .inl (mb i9))) := fun i9 h9 => (k75 _ (z_ne (F225 i9 h9) a72 rfl)).trans (F225 i9 h9)
            have F227 : ∀ i9 : Nat, i9 < 4 → f81 (ma i9) = some (.inl (cy 0, 60, .inl (mb i9))) := fun i9 h9 => (k83 _ (z_ne (F226 i9 h9) a78 rfl)).trans (F226 i9 h9)
            have F228 : ∀ i9 : Nat, i9 < 4 → f94 (ma i9) = some (.inl (cy 0, 60, .inl (va_up mb j (upd (mb j) (sq j) (nI nc)) i9))) := z_famC (f := f) (T := fun i9 => .inl (cy 0, 60, .inl (mb i9))) (T' := fun i9 => .inl (cy 0, 60, .inl (va_up mb j (upd (mb j) (sq j) (nI nc)) i9))) hj (by simp only [va_up_self]; exact a97) (fun i9 h9 n9 => k98 _ _ (F227 i9 h9) (z_ne (F227 i9 h9) a88 rfl) n9) (fun i9 h9 => by simp only [va_up_ne _ _ h9]) (fun i9 h9 => hmi i9 h9 j hj)
            exact z_iret C hr rfl hz hS ⟨u1, u2, u3, gv, nl, gu, nn, ga, gr, fg, pt, kd, ln, pp, wg, wd, hs, bf, nf, gf, fq, fk, fz, fc, (nc + 1), (va_up gc nc (some q61)), (va_up cn nc q61), (va_up ce nc x), (va_up cm nc y), (va_up sq j ((sq j) + 1)), (va_up mb j (upd (mb j) (sq j) (nI nc))), ks, kk, kv, lk, rfl, rfl, rfl, rfl, rfl, rfl, rfl, rfl, rfl, rfl, rfl, rfl, rfl, rfl, rfl, (by rw [if_pos (nI_pos' (by omega))]), (by rw [if_pos (nI_pos' (by omega))]), (by rw [if_pos (nI_pos' (by omega))]), (by rw [if_pos (nI_pos' (by omega)), hIj]), (by rw [if_pos (nI_pos' (by omega)), hIj]), rfl, rfl, rfl, rfl, (Or.inl ⟨j, hj, hxj, ⟨Int32.not_lt.mp c4, Int32.not_le.mp c25⟩, c58 ▸ p56, by rw [if_pos c60]⟩), ⟨a109, a116, a123, a130, a137, a144, a151, a158, a160, a167, a174, a181, a188, F195, F202, F209, F216, F108, F222, F228, hn60, hl12, hf6, (by omega), hs40, hga, hgr, hln, hk5, hk4, hfi, hpi, har, hgf, hfz, (z_ga1 hgc), hG, (z_sq1 hsq hj), hei, hmi, kne, hca, hcr, hlk⟩⟩ (Nat.le_of_ble_eq_true rfl) (Nat.le_of_ble_eq_true rfl) dX7_constant_86
          · replace c60 : ¬ (nc < 60) := fun h => c60 ((nI_ltI (a := nc) (b := 60) (by omega) (by omega)).mpr h)
            refine lv_bipush (v := (-3)) hx hb dX7_constant_43 (by decide) ?_
            have a229 : f1 fa = some (.inr (2, [.int u1, .int u2, .int u3, .ref ev])) := k3 _ _ x_fa 
            have a230 : f53 fa = some (.inr (2, [.int u1, .int u2, .int u3, .ref ev])) := k57 _ _ a229 
            have a231 : f1 ev = some (.inl (cy 0, 8, .inl gv)) := k3 _ _ x_ev 
            have a232 : f53 ev = some (.inl (cy 0, 8, .inl gv)) := k57 _ _ a231 
            have a233 : f1 fi = some (.inr (5, [.ref al, .ref ra, .int (nI nn)])) := k3 _ _ x_fi 
            have a234 : f53 fi = some (.inr (5, [.ref al, .ref ra, .int (nI nn)])) := k57 _ _ a233 
            have a235 : f1 al = some (.inl (cy 3, 60, .inr (.inr (.inr (.inr ga))))) := k3 _ _ x_al 
            have a236 : f53 al = some (.inl (cy 3, 60, .inr (.inr (.inr (.inr ga))))) := k57 _ _ a235 
            have a237 : f1 ra = some (.inl (cy 3, 60, .inr (.inr (.inr (.inr gr))))) := k3 _ _ x_ra 
            have a238 : f53 ra = some (.inl (cy 3, 60, .inr (.inr (.inr (.inr gr))))) := k57 _ _ a237 
            have a239 : f1 nu = some (.inl (cy 0, 12, .inl gu)) := k3 _ _ x_nu 
            have a240 : f53 nu = some (.inl (cy 0, 12, .inl gu)) := k57 _ _ a239 
            have a241 : f1 fm = some (.inl (cy 4, 6, .inr (.inr (.inr (.inr gf))))) := k3 _ _ x_fm 
            have a242 : f53 fm = some (.inl (cy 4, 6, .inr (.inr (.inr (.inr gf))))) := k57 _ _ a241 
            have a243 : f53 co = some (.inl (cy 5, 60, .inr (.inr (.inr (.inr gc))))) := k57 _ _ a47 
            have a244 : f1 en = some (.inl (cy 6, 4, .inr (.inr (.inr (.inr ge))))) := k3 _ _ x_en 
            have a245 : f53 en = some (.inl (cy 6, 4, .inr (.inr (.inr (.inr ge))))) := k57 _ _ a244 
            have a246 : f1 ke = some (.inr (6, [.ref kn, .ref vq, .int (nI ks)])) := k3 _ _ x_ke 
            have a247 : f53 ke = some (.inr (6, [.ref kn, .ref vq, .int (nI ks)])) := k57 _ _ a246 
            have a248 : f1 kn = some (.inl (cy 0, 40, .inl kk)) := k3 _ _ x_kn 
            have a249 : f53 kn = some (.inl (cy 0, 40, .inl kk)) := k57 _ _ a248 
            have a250 : f1 vq = some (.inl (cy 0, 40, .inl kv)) := k3 _ _ x_vq 
            have a251 : f53 vq = some (.inl (cy 0, 40, .inl kv)) := k57 _ _ a250 
            have F252 : ∀ i9 : Nat, i9 < nn → f1 (fg i9) = some (.inr (4, [.int (kd i9), .ref (pt i9), .long (wg i9), .int (wd i9), .int (nI i9), .int (hs i9), .int (bf i9)])) := fun i9 h9 => k3 _ _ (hF i9 h9) 
            have F253 : ∀ i9 : Nat, i9 < nn → f53 (fg i9) = some (.inr (4, [.int (kd i9), .ref (pt i9), .long (wg i9), .int (wd i9), .int (nI i9), .int (hs i9), .int (bf i9)])) := fun i9 h9 => k57 _ _ (F252 i9 h9) 
            have F254 : ∀ i9 : Nat, i9 < nn → f1 (pt i9) = some (.inl (cy 1, (ln i9), .inr (.inl (pp i9)))) := fun i9 h9 => k3 _ _ (hP i9 h9) 
            have F255 : ∀ i9 : Nat, i9 < nn → f53 (pt i9) = some (.inl (cy 1, (ln i9), .inr (.inl (pp i9)))) := fun i9 h9 => k57 _ _ (F254 i9 h9) 
            have F256 : ∀ i9 : Nat, i9 < nf → f1 (fq i9) = some (.inr (3, [.ref (fk i9), .int (nI (fz i9))])) := fun i9 h9 => k3 _ _ (hFq i9 h9) 
            have F257 : ∀ i9 : Nat, i9 < nf → f53 (fq i9) = some (.inr (3, [.ref (fk i9), .int (nI (fz i9))])) := fun i9 h9 => k57 _ _ (F256 i9 h9) 
            have F258 : ∀ i9 : Nat, i9 < nf → f1 (fk i9) = some (.inl (cy 0, 4, .inl (fc i9))) := fun i9 h9 => k3 _ _ (hFk i9 h9) 
            have F259 : ∀ i9 : Nat, i9 < nf → f53 (fk i9) = some (.inl (cy 0, 4, .inl (fc i9))) := fun i9 h9 => k57 _ _ (F258 i9 h9) 
            have F260 : ∀ i9 : Nat, i9 < nc → f53 (cn i9) = some (.inr (0, [.int (ce i9), .int (cm i9)])) := fun i9 h9 => k57 _ _ (F52 i9 h9) 
            have F261 : ∀ i9 : Nat, i9 < 4 → f53 (ea i9) = some (.inr (1, [.ref (ma i9), .int (nI (sq i9))])) := fun i9 h9 => k57 _ _ (F48 i9 h9) 
            have F262 : ∀ i9 : Nat, i9 < 4 → f53 (ma i9) = some (.inl (cy 0, 60, .inl (mb i9))) := fun i9 h9 => k57 _ _ (F50 i9 h9) 
            exact z_iret C hr rfl hz hS ⟨u1, u2, u3, gv, nl, gu, nn, ga, gr, fg, pt, kd, ln, pp, wg, wd, hs, bf, nf, gf, fq, fk, fz, fc, nc, gc, cn, ce, cm, sq, mb, ks, kk, kv, lk, rfl, rfl, rfl, rfl, rfl, rfl, rfl, rfl, rfl, rfl, rfl, rfl, rfl, rfl, rfl, (by rw [if_neg (by decide)]), (by rw [if_neg (by decide)]), (by rw [if_neg (by decide)]), (by rw [if_neg (by decide)]), (by rw [if_neg (by decide)]), rfl, rfl, rfl, rfl, (Or.inl ⟨j, hj, hxj, ⟨Int32.not_lt.mp c4, Int32.not_le.mp c25⟩, c58 ▸ p56, by rw [if_neg (by omega)]⟩), ⟨a59, a230, a232, a234, a236, a238, a240, a242, a243, a245, a247, a249, a251, F253, F255, F257, F259, F260, F261, F262, hn60, hl12, hf6, hc60, hs40, hga, hgr, hln, hk5, hk4, hfi, hpi, har, hgf, hfz, hgc, hG, hsq, hei, hmi, kne, hca, hcr, hlk⟩⟩ (Nat.le_of_ble_eq_true rfl) (Nat.le_of_ble_eq_true rfl) dX7_constant_45
        · refine lv_bipush (v := (-2)) hx hb dX7_constant_31 (by decide) ?_
          have a263 : f53 o = some (.inr (7, [.ref fa, .ref fi, .ref nu, .int (nI nl), .ref fm, .int (nI nf), .ref co, .int (nI nc), .ref en, .ref ke, .long lk])) := k57 _ _ a46 
          have a264 : f1 fa = some (.inr (2, [.int u1, .int u2, .int u3, .ref ev])) := k3 _ _ x_fa 
          have a265 : f53 fa = some (.inr (2, [.int u1, .int u2, .int u3, .ref ev])) := k57 _ _ a264 
          have a266 : f1 ev = some (.inl (cy 0, 8, .inl gv)) := k3 _ _ x_ev 
          have a267 : f53 ev = some (.inl (cy 0, 8, .inl gv)) := k57 _ _ a266 
          have a268 : f1 fi = some (.inr (5, [.ref al, .ref ra, .int (nI nn)])) := k3 _ _ x_fi 
          have a269 : f53 fi = some (.inr (5, [.ref al, .ref ra, .int (nI nn)])) := k57 _ _ a268 
          have a270 : f1 al = some (.inl (cy 3, 60, .inr (.inr (.inr (.inr ga))))) := k3 _ _ x_al 
          have a271 : f53 al = some (.inl (cy 3, 60, .inr (.inr (.inr (.inr ga))))) := k57 _ _ a270 
          have a272 : f1 ra = some (.inl (cy 3, 60, .inr (.inr (.inr (.inr gr))))) := k3 _ _ x_ra 
          have a273 : f53 ra = some (.inl (cy 3, 60, .inr (.inr (.inr (.inr gr))))) := k57 _ _ a272 
          have a274 : f1 nu = some (.inl (cy 0, 12, .inl gu)) := k3 _ _ x_nu 
          have a275 : f53 nu = some (.inl (cy 0, 12, .inl gu)) := k57 _ _ a274 
          have a276 : f1 fm = some (.inl (cy 4, 6, .inr (.inr (.inr (.inr gf))))) := k3 _ _ x_fm 
          have a277 : f53 fm = some (.inl (cy 4, 6, .inr (.inr (.inr (.inr gf))))) := k57 _ _ a276 
          have a278 : f53 co = some (.inl (cy 5, 60, .inr (.inr (.inr (.inr gc))))) := k57 _ _ a47 
          have a279 : f1 en = some (.inl (cy 6, 4, .inr (.inr (.inr (.inr ge))))) := k3 _ _ x_en 
          have a280 : f53 en = some (.inl (cy 6, 4, .inr (.inr (.inr (.inr ge))))) := k57 _ _ a279 
          have a281 : f1 ke = some (.inr (6, [.ref kn, .ref vq, .int (nI ks)])) := k3 _ _ x_ke 
          have a282 : f53 ke = some (.inr (6, [.ref kn, .ref vq, .int (nI ks)])) := k57 _ _ a281 
          have a283 : f1 kn = some (.inl (cy 0, 40, .inl kk)) := k3 _ _ x_kn 
          have a284 : f53 kn = some (.inl (cy 0, 40, .inl kk)) := k57 _ _ a283 
          have a285 : f1 vq = some (.inl (cy 0, 40, .inl kv)) := k3 _ _ x_vq 
          have a286 : f53 vq = some (.inl (cy 0, 40, .inl kv)) := k57 _ _ a285 
          have F287 : ∀ i9 : Nat, i9 < nn → f1 (fg i9) = some (.inr (4, [.int (kd i9), .ref (pt i9), .long (wg i9), .int (wd i9), .int (nI i9), .int (hs i9), .int (bf i9)])) := fun i9 h9 => k3 _ _ (hF i9 h9) 
          have F288 : ∀ i9 : Nat, i9 < nn → f53 (fg i9) = some (.inr (4, [.int (kd i9), .ref (pt i9), .long (wg i9), .int (wd i9), .int (nI i9), .int (hs i9), .int (bf i9)])) := fun i9 h9 => k57 _ _ (F287 i9 h9) 
          have F289 : ∀ i9 : Nat, i9 < nn → f1 (pt i9) = some (.inl (cy 1, (ln i9), .inr (.inl (pp i9)))) := fun i9 h9 => k3 _ _ (hP i9 h9) 
          have F290 : ∀ i9 : Nat, i9 < nn → f53 (pt i9) = some (.inl (cy 1, (ln i9), .inr (.inl (pp i9)))) := fun i9 h9 => k57 _ _ (F289 i9 h9) 
          have F291 : ∀ i9 : Nat, i9 < nf → f1 (fq i9) = some (.inr (3, [.ref (fk i9), .int (nI (fz i9))])) := fun i9 h9 => k3 _ _ (hFq i9 h9) 
          have F292 : ∀ i9 : Nat, i9 < nf → f53 (fq i9) = some (.inr (3, [.ref (fk i9), .int (nI (fz i9))])) := fun i9 h9 => k57 _ _ (F291 i9 h9) 
          have F293 : ∀ i9 : Nat, i9 < nf → f1 (fk i9) = some (.inl (cy 0, 4, .inl (fc i9))) := fun i9 h9 => k3 _ _ (hFk i9 h9) 
          have F294 : ∀ i9 : Nat, i9 < nf → f53 (fk i9) = some (.inl (cy 0, 4, .inl (fc i9))) := fun i9 h9 => k57 _ _ (F293 i9 h9) 
          have F295 : ∀ i9 : Nat, i9 < nc → f53 (cn i9) = some (.inr (0, [.int (ce i9), .int (cm i9)])) := fun i9 h9 => k57 _ _ (F52 i9 h9) 
          have F296 : ∀ i9 : Nat, i9 < 4 → f53 (ea i9) = some (.inr (1, [.ref (ma i9), .int (nI (sq i9))])) := fun i9 h9 => k57 _ _ (F48 i9 h9) 
          have F297 : ∀ i9 : Nat, i9 < 4 → f53 (ma i9) = some (.inl (cy 0, 60, .inl (mb i9))) := fun i9 h9 => k57 _ _ (F50 i9 h9) 
          exact z_iret C hr rfl hz hS ⟨u1, u2, u3, gv, nl, gu, nn, ga, gr, fg, pt, kd, ln, pp, wg, wd, hs, bf, nf, gf, fq, fk, fz, fc, nc, gc, cn, ce, cm, sq, mb, ks, kk, kv, lk, rfl, rfl, rfl, rfl, rfl, rfl, rfl, rfl, rfl, rfl, rfl, rfl, rfl, rfl, rfl, (by rw [if_neg (by decide)]), (by rw [if_neg (by decide)]), (by rw [if_neg (by decide)]), (by rw [if_neg (by decide)]), (by rw [if_neg (by decide)]), rfl, rfl, rfl, rfl, (Or.inr ⟨rfl, Or.inr (Or.inr ⟨j, hj, hxj, _, c58, p56⟩)⟩), ⟨a263, a265, a267, a269, a271, a273, a275, a277, a278, a280, a282, a284, a286, F288, F290, F292, F294, F295, F296, F297, hn60, hl12, hf6, hc60, hs40, hga, hgr, hln, hk5, hk4, hfi, hpi, har, hgf, hfz, hgc, hG, hsq, hei, hmi, kne, hca, hcr, hlk⟩⟩ (Nat.le_of_ble_eq_true rfl) (Nat.le_of_ble_eq_true rfl) dX7_constant_33
  · refine lv_aload_n hx hb dX7_constant_0 rfl (lv_at hl 0 rfl) ?_
    refine lv_iload_n hx hb dX7_constant_1 rfl (lv_at hl 1 rfl) ?_
    refine z_callVq (As := [.int x]) C hz hS hA hl (k_X7_findEnumeration_B l D cy f o fa fi nu nl fm nf co nc en ke lk x x_o he) zyX7_findEnumeration mMX7_204 x_o zl7 rfl rfl (Nat.le_of_ble_eq_true rfl) ⟨Nat.le_of_ble_eq_true rfl, Nat.le_of_ble_eq_true rfl⟩ ⟨Nat.le_of_ble_eq_true rfl, Nat.le_of_ble_eq_true rfl⟩ dX7_constant_2 (fun r f298 H locs h299 hz hS => ?_)
    obtain ⟨rfl, k300⟩ := h299
    refine W.eq (g2 := F0 m 5 ls [.null]) rfl ?_
    refine lv_astore_nN (lv' := [(3, .null), (0, .ref o), (1, .int x), (2, .int y)]) hx hb dX7_constant_5 rfl hl (by decide) rfl (fun ls hl => ?_)
    refine lv_aload_nN hx hb dX7_constant_6 rfl (lv_at hl 0 rfl) ?_
    refine lv_ifnullN (tgt := 31) hx hb dX7_constant_7 (by decide) ?_
    refine lv_bipush (v := (-2)) hx hb dX7_constant_31 (by decide) ?_
    have a301 : f298 o = some (.inr (7, [.ref fa, .ref fi, .ref nu, .int (nI nl), .ref fm, .int (nI nf), .ref co, .int (nI nc), .ref en, .ref ke, .long lk])) := k300 _ _ x_o 
    have a302 : f298 fa = some (.inr (2, [.int u1, .int u2, .int u3, .ref ev])) := k300 _ _ x_fa 
    have a303 : f298 ev = some (.inl (cy 0, 8, .inl gv)) := k300 _ _ x_ev 
    have a304 : f298 fi = some (.inr (5, [.ref al, .ref ra, .int (nI nn)])) := k300 _ _ x_fi 
    have a305 : f298 al = some (.inl (cy 3, 60, .inr (.inr (.inr (.inr ga))))) := k300 _ _ x_al 
    have a306 : f298 ra = some (.inl (cy 3, 60, .inr (.inr (.inr (.inr gr))))) := k300 _ _ x_ra 
    have a307 : f298 nu = some (.inl (cy 0, 12, .inl gu)) := k300 _ _ x_nu 
    have a308 : f298 fm = some (.inl (cy 4, 6, .inr (.inr (.inr (.inr gf))))) := k300 _ _ x_fm 
    have a309 : f298 co = some (.inl (cy 5, 60, .inr (.inr (.inr (.inr gc))))) := k300 _ _ x_co 
    have a310 : f298 en = some (.inl (cy 6, 4, .inr (.inr (.inr (.inr ge))))) := k300 _ _ x_en 
    have a311 : f298 ke = some (.inr (6, [.ref kn, .ref vq, .int (nI ks)])) := k300 _ _ x_ke 
    have a312 : f298 kn = some (.inl (cy 0, 40, .inl kk)) := k300 _ _ x_kn 
    have a313 : f298 vq = some (.inl (cy 0, 40, .inl kv)) := k300 _ _ x_vq 
    have F314 : ∀ i9 : Nat, i9 < nn → f298 (fg i9) = some (.inr (4, [.int (kd i9), .ref (pt i9), .long (wg i9), .int (wd i9), .int (nI i9), .int (hs i9), .int (bf i9)])) := fun i9 h9 => k300 _ _ (hF i9 h9) 
    have F315 : ∀ i9 : Nat, i9 < nn → f298 (pt i9) = some (.inl (cy 1, (ln i9), .inr (.inl (pp i9)))) := fun i9 h9 => k300 _ _ (hP i9 h9) 
    have F316 : ∀ i9 : Nat, i9 < nf → f298 (fq i9) = some (.inr (3, [.ref (fk i9), .int (nI (fz i9))])) := fun i9 h9 => k300 _ _ (hFq i9 h9) 
    have F317 : ∀ i9 : Nat, i9 < nf → f298 (fk i9) = some (.inl (cy 0, 4, .inl (fc i9))) := fun i9 h9 => k300 _ _ (hFk i9 h9) 
    have F318 : ∀ i9 : Nat, i9 < nc → f298 (cn i9) = some (.inr (0, [.int (ce i9), .int (cm i9)])) := fun i9 h9 => k300 _ _ (hCn i9 h9) 
    have F319 : ∀ i9 : Nat, i9 < 4 → f298 (ea i9) = some (.inr (1, [.ref (ma i9), .int (nI (sq i9))])) := fun i9 h9 => k300 _ _ (hEa i9 h9) 
    have F320 : ∀ i9 : Nat, i9 < 4 → f298 (ma i9) = some (.inl (cy 0, 60, .inl (mb i9))) := fun i9 h9 => k300 _ _ (hMa i9 h9) 
    exact z_iret C hr rfl hz hS ⟨u1, u2, u3, gv, nl, gu, nn, ga, gr, fg, pt, kd, ln, pp, wg, wd, hs, bf, nf, gf, fq, fk, fz, fc, nc, gc, cn, ce, cm, sq, mb, ks, kk, kv, lk, rfl, rfl, rfl, rfl, rfl, rfl, rfl, rfl, rfl, rfl, rfl, rfl, rfl, rfl, rfl, (by rw [if_neg (by decide)]), (by rw [if_neg (by decide)]), (by rw [if_neg (by decide)]), (by rw [if_neg (by decide)]), (by rw [if_neg (by decide)]), rfl, rfl, rfl, rfl, (Or.inr ⟨rfl, Or.inl he⟩), ⟨a301, a302, a303, a304, a305, a306, a307, a308, a309, a310, a311, a312, a313, F314, F315, F316, F317, F318, F319, F320, hn60, hl12, hf6, hc60, hs40, hga, hgr, hln, hk5, hk4, hfi, hpi, har, hgf, hfz, hgc, hG, hsq, hei, hmi, kne, hca, hcr, hlk⟩⟩ (Nat.le_of_ble_eq_true rfl) (Nat.le_of_ble_eq_true rfl) dX7_constant_33
abbrev rmX7_named : Room := { frames := 2, cells := 0, slots := 0, locals := 45 }
set_option maxHeartbeats 4000000 in
set_option maxRecDepth 100000 in
theorem k_X7_named (l : Launch) (D : va_G) (cy : Nat → ClassId) (f : zM) (o : Nat) (fa : Nat) (fi : Nat) (nu : Nat) (fm : Nat) (co : Nat) (en : Nat) (ke : Nat) (ev : Nat) (al : Nat) (ra : Nat) (kn : Nat) (vq : Nat) (ge : Nat → Option Nat) (ea : Nat → Nat) (ma : Nat → Nat) (u1 : Int32) (u2 : Int32) (u3 : Int32) (gv : Nat → Int32) (nl : Nat) (gu : Nat → Int32) (nn : Nat) (ga : Nat → Option Nat) (gr : Nat → Option Nat) (fg : Nat → Nat) (pt : Nat → Nat) (kd : Nat → Int32) (ln : Nat → Nat) (pp : Nat → Nat → Int64) (wg : Nat → Int64) (wd : Nat → Int32) (hs : Nat → Int32) (bf : Nat → Int32) (nf : Nat) (gf : Nat → Option Nat) (fq : Nat → Nat) (fk : Nat → Nat) (fz : Nat → Nat) (fc : Nat → Nat → Int32) (nc : Nat) (gc : Nat → Option Nat) (cn : Nat → Nat) (ce : Nat → Int32) (cm : Nat → Int32) (sq : Nat → Nat) (mb : Nat → Nat → Int32) (ks : Nat) (kk : Nat → Int32) (kv : Nat → Int32) (lk : Int64) (x : Int32) (y : Int32)    (hI : zIX cy f o fa fi nu fm co en ke ev al ra kn vq ge ea ma u1 u2 u3 gv nl gu nn ga gr fg pt kd ln pp wg wd hs bf nf gf fq fk fz fc nc gc cn ce cm sq mb ks kk kv lk) : zCi l D cy yX7_named cX7_named 5 (Option.some Jvm.ClassFile.FieldType.int) rmX7_named [.ref o, .int x, .int y] f (fun (r : Int32) (f1 : zM) => ∃ (u11 : Int32) (u21 : Int32) (u31 : Int32) (gv1 : Nat → Int32) (nl1 : Nat) (gu1 : Nat → Int32) (nn1 : Nat) (ga1 : Nat → Option Nat) (gr1 : Nat → Option Nat) (fg1 : Nat → Nat) (pt1 : Nat → Nat) (kd1 : Nat → Int32) (ln1 : Nat → Nat) (pp1 : Nat → Nat → Int64) (wg1 : Nat → Int64) (wd1 : Nat → Int32) (hs1 : Nat → Int32) (bf1 : Nat → Int32) (nf1 : Nat) (gf1 : Nat → Option Nat) (fq1 : Nat → Nat) (fk1 : Nat → Nat) (fz1 : Nat → Nat) (fc1 : Nat → Nat → Int32) (nc1 : Nat) (gc1 : Nat → Option Nat) (cn1 : Nat → Nat) (ce1 : Nat → Int32) (cm1 : Nat → Int32) (sq1 : Nat → Nat) (mb1 : Nat → Nat → Int32) (ks1 : Nat) (kk1 : Nat → Int32) (kv1 : Nat → Int32) (lk1 : Int64), (u11 = if r = (-4) then 1 else 0) ∧ (u21 = (-1)) ∧ (u31 = 0) ∧ (gv1 = if r = (-4) then upd gv 1 (gv 1 + 1) else gv) ∧ (nl1 = nl) ∧ (gu1 = gu) ∧ (nn1 = nn) ∧ (kd1 = kd) ∧ (ln1 = ln) ∧ (pp1 = pp) ∧ (wd1 = wd) ∧ (hs1 = hs) ∧ (nf1 = nf) ∧ (fz1 = fz) ∧ (fc1 = fc) ∧ (nc1 = nc) ∧ (ce1 = ce) ∧ (cm1 = cm) ∧ (sq1 = sq) ∧ (mb1 = mb) ∧ (ks1 = ks) ∧ (kk1 = kk) ∧ (kv1 = kv) ∧ (lk1 = lk) ∧ (zXN x y nc cm sq mb r) ∧ zIX cy f1 o fa fi nu fm co en ke ev al ra kn vq ge ea ma u11 u21 u31 gv1 nl1 gu1 nn1 ga1 gr1 fg1 pt1 kd1 ln1 pp1 wg1 wd1 hs1 bf1 nf1 gf1 fq1 fk1 fz1 fc1 nc1 gc1 cn1 ce1 cm1 sq1 mb1 ks1 kk1 kv1 lk1) := by
  intro sz
  refine z_body (by decide +kernel) (Nat.le_of_ble_eq_true rfl) ?_
  intro p e s m below meth c ls C hr hin hsz hz hl
  subst hsz
  have hx := C.1
  have hb := C.2.1
  have hA : ∀ q, s.heap.size ≤ q → zA f s.heap.size q := fun q h => Or.inr h
  have hS : va_S (zA f s.heap.size) s.heap s.heap [] := va_S.rf
  have hl : lv_has ls 5 [(0, .ref o), (1, .int x), (2, .int y)] := hl
  obtain ⟨x_o, x_fa, x_ev, x_fi, x_al, x_ra, x_nu, x_fm, x_co, x_en, x_ke, x_kn, x_vq, hF, hP, hFq, hFk, hCn, hEa, hMa, hn60, hl12, hf6, hc60, hs40, hga, hgr, hln, hk5, hk4, hfi, hpi, har, hgf, hfz, hgc, hG, hsq, hei, hmi, kne, hca, hcr, hlk⟩ := id hI
  by_cases he : 0 ≤ x ∧ x < 4
  · obtain ⟨j, hj, hxj⟩ := z_ix4 he
    have hIj : fI x = j := fI_of (by omega) hxj
    refine lv_aload_n hx hb dX7_named_0 rfl (lv_at hl 0 rfl) ?_
    refine z_get (v := .ref fa) C hz x_o zl7 mFX7_10 (by decide) rfl dX7_named_1 ?_
    refine z_callVv (As := []) C hz hS hA hl (k_X2_none l D cy f fa u1 u2 u3 ev x_fa ) zyX2_none mMX7_76 x_fa zl2 rfl rfl (Nat.le_of_ble_eq_true rfl) ⟨Nat.le_of_ble_eq_true rfl, Nat.le_of_ble_eq_true rfl⟩ ⟨Nat.le_of_ble_eq_true rfl, Nat.le_of_ble_eq_true rfl⟩ dX7_named_4 (fun  f1 H locs h2 hz hS => ?_)
    obtain ⟨a3, k4⟩ := h2
    refine lv_aload_n hx hb dX7_named_7 rfl (lv_at hl 0 rfl) ?_
    refine lv_iload_n hx hb dX7_named_8 rfl (lv_at hl 1 rfl) ?_
    have a5 : f1 o = some (.inr (7, [.ref fa, .ref fi, .ref nu, .int (nI nl), .ref fm, .int (nI nf), .ref co, .int (nI nc), .ref en, .ref ke, .long lk])) := k4 _ _ x_o (z_ne x_o x_fa rfl)
    have a6 : f1 en = some (.inl (cy 6, 4, .inr (.inr (.inr (.inr ge))))) := k4 _ _ x_en (z_ne x_en x_fa rfl)
    refine z_callVq (As := [.int x]) C hz hS hA hl (k_X7_findEnumeration_A l D cy f1 o fa fi nu nl fm nf co nc en ke lk ge ea x j a5 a6 hxj hj hG) zyX7_findEnumeration mMX7_204 a5 zl7 rfl rfl (Nat.le_of_ble_eq_true rfl) ⟨Nat.le_of_ble_eq_true rfl, Nat.le_of_ble_eq_true rfl⟩ ⟨Nat.le_of_ble_eq_true rfl, Nat.le_of_ble_eq_true rfl⟩ dX7_named_9 (fun r f7 H locs h8 hz hS => ?_)
    obtain ⟨rfl, k9⟩ := h8
    refine W.eq (g2 := F0 m 12 ls [.ref (ea j)]) rfl ?_
    refine lv_astore_n (lv' := [(3, .ref (ea j)), (0, .ref o), (1, .int x), (2, .int y)]) hx hb dX7_named_12 rfl hl (by decide) rfl (fun ls hl => ?_)
    refine lv_aload_n hx hb dX7_named_13 rfl (lv_at hl 0 rfl) ?_
    refine lv_ifnonnull (tgt := 20) hx hb dX7_named_14 (by decide) ?_
    refine lv_aload_n hx hb dX7_named_20 rfl (lv_at hl 1 rfl) ?_
    refine lv_aload_n hx hb dX7_named_21 rfl (lv_at hl 0 rfl) ?_
    refine lv_iload_n hx hb dX7_named_22 rfl (lv_at hl 3 rfl) ?_
    have a10 : f7 o = some (.inr (7, [.ref fa, .ref fi, .ref nu, .int (nI nl), .ref fm, .int (nI nf), .ref co, .int (nI nc), .ref en, .ref ke, .long lk])) := k9 _ _ a5 
    have a11 : f1 co = some (.inl (cy 5, 60, .inr (.inr (.inr (.inr gc))))) := k4 _ _ x_co (z_ne x_co x_fa rfl)
    have a12 : f7 co = some (.inl (cy 5, 60, .inr (.inr (.inr (.inr gc))))) := k9 _ _ a11 
    have F13 : ∀ i9 : Nat, i9 < 4 → f1 (ea i9) = some (.inr (1, [.ref (ma i9), .int (nI (sq i9))])) := fun i9 h9 => k4 _ _ (hEa i9 h9) (z_ne (hEa i9 h9) x_fa rfl)
    have F14 : ∀ i9 : Nat, i9 < 4 → f7 (ea i9) = some (.inr (1, [.ref (ma i9), .int (nI (sq i9))])) := fun i9 h9 => k9 _ _ (F13 i9 h9) 
    have a15 : f7 (ea j) = some (.inr (1, [.ref (ma j), .int (nI (sq j))])) := F14 j hj
    have F16 : ∀ i9 : Nat, i9 < 4 → f1 (ma i9) = some (.inl (cy 0, 60, .inl (mb i9))) := fun i9 h9 => k4 _ _ (hMa i9 h9) (z_ne (hMa i9 h9) x_fa rfl)
    have F17 : ∀ i9 : Nat, i9 < 4 → f7 (ma i9) = some (.inl (cy 0, 60, .inl (mb i9))) := fun i9 h9 => k9 _ _ (F16 i9 h9) 
    have a18 : f7 (ma j) = some (.inl (cy 0, 60, .inl (mb j))) := F17 j hj
    have F19 : ∀ i9 : Nat, i9 < nc → f1 (cn i9) = some (.inr (0, [.int (ce i9), .int (cm i9)])) := fun i9 h9 => k4 _ _ (hCn i9 h9) (z_ne (hCn i9 h9) x_fa rfl)
    have F20 : ∀ i9 : Nat, i9 < nc → f7 (cn i9) = some (.inr (0, [.int (ce i9), .int (cm i9)])) := fun i9 h9 => k9 _ _ (F19 i9 h9) 
    refine z_callVi (As := [.ref (ea j), .int y]) C hz hS hA hl (k_X7_memberNamed l D cy f7 o fa fi nu nl fm nf co nc en ke lk gc cn ce cm (ea j) (ma j) (sq j) (mb j) y a10 a12 a15 a18 F20 hc60 hgc (by have h9 := hsq j hj; omega)) zyX7_memberNamed mMX7_208 a10 zl7 rfl rfl (Nat.le_of_ble_eq_true rfl) ⟨Nat.le_of_ble_eq_true rfl, Nat.le_of_ble_eq_true rfl⟩ ⟨Nat.le_of_ble_eq_true rfl, Nat.le_of_ble_eq_true rfl⟩ dX7_named_23 (fun r23 f21 H locs h22 hz hS => ?_)
    obtain ⟨p24, k25⟩ := h22
    refine lv_istore (lv' := [(4, .int r23), (3, .ref (ea j)), (0, .ref o), (1, .int x), (2, .int y)]) hx hb dX7_named_26 hl (by decide) rfl (fun ls hl => ?_)
    refine lv_iload hx hb dX7_named_28 (lv_at hl 0 rfl) ?_
    refine lv_iconst (v := (-1)) hx hb dX7_named_30 (by decide) ?_
    refine lv_icmp_ne (tgt := 45) hx hb dX7_named_31 (by decide) (fun c26 => ?_) (fun c26 => ?_)
    · refine lv_iload hx hb dX7_named_45 (lv_at hl 0 rfl) ?_
      have a27 : f21 o = some (.inr (7, [.ref fa, .ref fi, .ref nu, .int (nI nl), .ref fm, .int (nI nf), .ref co, .int (nI nc), .ref en, .ref ke, .long lk])) := k25 _ _ a10 
      have a28 : f7 fa = some (.inr (2, [.int 0, .int (-1), .int 0, .ref ev])) := k9 _ _ a3 
      have a29 : f21 fa = some (.inr (2, [.int 0, .int (-1), .int 0, .ref ev])) := k25 _ _ a28 
      have a30 : f1 ev = some (.inl (cy 0, 8, .inl gv)) := k4 _ _ x_ev (z_ne x_ev x_fa rfl)
      have a31 : f7 ev = some (.inl (cy 0, 8, .inl gv)) := k9 _ _ a30 
      have a32 : f21 ev = some (.inl (cy 0, 8, .inl gv)) := k25 _ _ a31 
      have a33 : f1 fi = some (.inr (5, [.ref al, .ref ra, .int (nI nn)])) := k4 _ _ x_fi (z_ne x_fi x_fa rfl)
      have a34 : f7 fi = some (.inr (5, [.ref al, .ref ra, .int (nI nn)])) := k9 _ _ a33 
      have a35 : f21 fi = some (.inr (5, [.ref al, .ref ra, .int (nI nn)])) := k25 _ _ a34 
      have a36 : f1 al = some (.inl (cy 3, 60, .inr (.inr (.inr (.inr ga))))) := k4 _ _ x_al (z_ne x_al x_fa rfl)
      have a37 : f7 al = some (.inl (cy 3, 60, .inr (.inr (.inr (.inr ga))))) := k9 _ _ a36 
      have a38 : f21 al = some (.inl (cy 3, 60, .inr (.inr (.inr (.inr ga))))) := k25 _ _ a37 
      have a39 : f1 ra = some (.inl (cy 3, 60, .inr (.inr (.inr (.inr gr))))) := k4 _ _ x_ra (z_ne x_ra x_fa rfl)
      have a40 : f7 ra = some (.inl (cy 3, 60, .inr (.inr (.inr (.inr gr))))) := k9 _ _ a39 
      have a41 : f21 ra = some (.inl (cy 3, 60, .inr (.inr (.inr (.inr gr))))) := k25 _ _ a40 
      have a42 : f1 nu = some (.inl (cy 0, 12, .inl gu)) := k4 _ _ x_nu (z_ne x_nu x_fa rfl)
      have a43 : f7 nu = some (.inl (cy 0, 12, .inl gu)) := k9 _ _ a42 
      have a44 : f21 nu = some (.inl (cy 0, 12, .inl gu)) := k25 _ _ a43 
      have a45 : f1 fm = some (.inl (cy 4, 6, .inr (.inr (.inr (.inr gf))))) := k4 _ _ x_fm (z_ne x_fm x_fa rfl)
      have a46 : f7 fm = some (.inl (cy 4, 6, .inr (.inr (.inr (.inr gf))))) := k9 _ _ a45 
      have a47 : f21 fm = some (.inl (cy 4, 6, .inr (.inr (.inr (.inr gf))))) := k25 _ _ a46 
      have a48 : f21 co = some (.inl (cy 5, 60, .inr (.inr (.inr (.inr gc))))) := k25 _ _ a12 
      have a49 : f7 en = some (.inl (cy 6, 4, .inr (.inr (.inr (.inr ge))))) := k9 _ _ a6 
      have a50 : f21 en = some (.inl (cy 6, 4, .inr (.inr (.inr (.inr ge))))) := k25 _ _ a49 
      have a51 : f1 ke = some (.inr (6, [.ref kn, .ref vq, .int (nI ks)])) := k4 _ _ x_ke (z_ne x_ke x_fa rfl)
      have a52 : f7 ke = some (.inr (6, [.ref kn, .ref vq, .int (nI ks)])) := k9 _ _ a51 
      have a53 : f21 ke = some (.inr (6, [.ref kn, .ref vq, .int (nI ks)])) := k25 _ _ a52 
      have a54 : f1 kn = some (.inl (cy 0, 40, .inl kk)) := k4 _ _ x_kn (z_ne x_kn x_fa rfl)
      have a55 : f7 kn = some (.inl (cy 0, 40, .inl kk)) := k9 _ _ a54 
      have a56 : f21 kn = some (.inl (cy 0, 40, .inl kk)) := k25 _ _ a55 
      have a57 : f1 vq = some (.inl (cy 0, 40, .inl kv)) := k4 _ _ x_vq (z_ne x_vq x_fa rfl)
      have a58 : f7 vq = some (.inl (cy 0, 40, .inl kv)) := k9 _ _ a57 
      have a59 : f21 vq = some (.inl (cy 0, 40, .inl kv)) := k25 _ _ a58 
      have F60 : ∀ i9 : Nat, i9 < nn → f1 (fg i9) = some (.inr (4, [.int (kd i9), .ref (pt i9), .long (wg i9), .int (wd i9), .int (nI i9), .int (hs i9), .int (bf i9)])) := fun i9 h9 => k4 _ _ (hF i9 h9) (z_ne (hF i9 h9) x_fa rfl)
      have F61 : ∀ i9 : Nat, i9 < nn → f7 (fg i9) = some (.inr (4, [.int (kd i9), .ref (pt i9), .long (wg i9), .int (wd i9), .int (nI i9), .int (hs i9), .int (bf i9)])) := fun i9 h9 => k9 _ _ (F60 i9 h9) 
      have F62 : ∀ i9 : Nat, i9 < nn → f21 (fg i9) = some (.inr (4, [.int (kd i9), .ref (pt i9), .long (wg i9), .int (wd i9), .int (nI i9), .int (hs i9), .int (bf i9)])) := fun i9 h9 => k25 _ _ (F61 i9 h9) 
      have F63 : ∀ i9 : Nat, i9 < nn → f1 (pt i9) = some (.inl (cy 1, (ln i9), .inr (.inl (pp i9)))) := fun i9 h9 => k4 _ _ (hP i9 h9) (z_neO (hP i9 h9) x_fa rfl)
      have F64 : ∀ i9 : Nat, i9 < nn → f7 (pt i9) = some (.inl (cy 1, (ln i9), .inr (.inl (pp i9)))) := fun i9 h9 => k9 _ _ (F63 i9 h9) 
      have F65 : ∀ i9 : Nat, i9 < nn → f21 (pt i9) = some (.inl (cy 1, (ln i9), .inr (.inl (pp i9)))) := fun i9 h9 => k25 _ _ (F64 i9 h9) 
      have F66 : ∀ i9 : Nat, i9 < nf → f1 (fq i9) = some (.inr (3, [.ref (fk i9), .int (nI (fz i9))])) := fun i9 h9 => k4 _ _ (hFq i9 h9) (z_ne (hFq i9 h9) x_fa rfl)
      have F67 : ∀ i9 : Nat, i9 < nf → f7 (fq i9) = some (.inr (3, [.ref (fk i9), .int (nI (fz i9))])) := fun i9 h9 => k9 _ _ (F66 i9 h9) 
      have F68 : ∀ i9 : Nat, i9 < nf → f21 (fq i9) = some (.inr (3, [.ref (fk i9), .int (nI (fz i9))])) := fun i9 h9 => k25 _ _ (F67 i9 h9) 
      have F69 : ∀ i9 : Nat, i9 < nf → f1 (fk i9) = some (.inl (cy 0, 4, .inl (fc i9))) := fun i9 h9 => k4 _ _ (hFk i9 h9) (z_ne (hFk i9 h9) x_fa rfl)
      have F70 : ∀ i9 : Nat, i9 < nf → f7 (fk i9) = some (.inl (cy 0, 4, .inl (fc i9))) := fun i9 h9 => k9 _ _ (F69 i9 h9) 
      have F71 : ∀ i9 : Nat, i9 < nf → f21 (fk i9) = some (.inl (cy 0, 4, .inl (fc i9))) := fun i9 h9 => k25 _ _ (F70 i9 h9) 
      have F72 : ∀ i9 : Nat, i9 < nc → f21 (cn i9) = some (.inr (0, [.int (ce i9), .int (cm i9)])) := fun i9 h9 => k25 _ _ (F20 i9 h9) 
      have F73 : ∀ i9 : Nat, i9 < 4 → f21 (ea i9) = some (.inr (1, [.ref (ma i9), .int (nI (sq i9))])) := fun i9 h9 => k25 _ _ (F14 i9 h9) 
      have F74 : ∀ i9 : Nat, i9 < 4 → f21 (ma i9) = some (.inl (cy 0, 60, .inl (mb i9))) := fun i9 h9 => k25 _ _ (F17 i9 h9) 
      exact z_iret C hr rfl hz hS ⟨0, (-1), 0, gv, nl, gu, nn, ga, gr, fg, pt, kd, ln, pp, wg, wd, hs, bf, nf, gf, fq, fk, fz, fc, nc, gc, cn, ce, cm, sq, mb, ks, kk, kv, lk, (by rw [if_neg (zMN_n4 p24 hc60 c26)]), rfl, rfl, (by rw [if_neg (zMN_n4 p24 hc60 c26)]), rfl, rfl, rfl, rfl, rfl, rfl, rfl, rfl, rfl, rfl, rfl, rfl, rfl, rfl, rfl, rfl, rfl, rfl, rfl, rfl, (Or.inl ⟨j, hj, hxj, _, p24, by rw [if_neg c26]⟩), ⟨a27, a29, a32, a35, a38, a41, a44, a47, a48, a50, a53, a56, a59, F62, F65, F68, F71, F72, F73, F74, hn60, hl12, hf6, hc60, hs40, hga, hgr, hln, hk5, hk4, hfi, hpi, har, hgf, hfz, hgc, hG, hsq, hei, hmi, kne, hca, hcr, hlk⟩⟩ (Nat.le_of_ble_eq_true rfl) (Nat.le_of_ble_eq_true rfl) dX7_named_47
    · refine lv_aload_n hx hb dX7_named_34 rfl (lv_at hl 2 rfl) ?_
      have a75 : f21 o = some (.inr (7, [.ref fa, .ref fi, .ref nu, .int (nI nl), .ref fm, .int (nI nf), .ref co, .int (nI nc), .ref en, .ref ke, .long lk])) := k25 _ _ a10 
      refine z_get (v := .ref fa) C hz a75 zl7 mFX7_10 (by decide) rfl dX7_named_35 ?_
      refine lv_iconst (v := 1) hx hb dX7_named_38 (by decide) ?_
      have a76 : f7 fa = some (.inr (2, [.int 0, .int (-1), .int 0, .ref ev])) := k9 _ _ a3 
      have a77 : f21 fa = some (.inr (2, [.int 0, .int (-1), .int 0, .ref ev])) := k25 _ _ a76 
      have a78 : f1 ev = some (.inl (cy 0, 8, .inl gv)) := k4 _ _ x_ev (z_ne x_ev x_fa rfl)
      have a79 : f7 ev = some (.inl (cy 0, 8, .inl gv)) := k9 _ _ a78 
      have a80 : f21 ev = some (.inl (cy 0, 8, .inl gv)) := k25 _ _ a79 
      refine z_callVi (As := [.int 1]) C hz hS hA hl (k_X2_inNoPart l D cy f21 fa 1 0 (-1) 0 ev gv 1 a77 a80 (by decide) (Nat.le_of_ble_eq_true rfl)) zyX2_inNoPart mMX7_140 a77 zl2 rfl rfl (Nat.le_of_ble_eq_true rfl) ⟨Nat.le_of_ble_eq_true rfl, Nat.le_of_ble_eq_true rfl⟩ ⟨Nat.le_of_ble_eq_true rfl, Nat.le_of_ble_eq_true rfl⟩ dX7_named_39 (fun r f81 H locs h82 hz hS => ?_)
      obtain ⟨rfl, a83, a84, k85⟩ := h82
      refine lv_goto (tgt := 47) hx hb dX7_named_42 (by decide) ?_
      have a86 : f81 o = some (.inr (7, [.ref fa, .ref fi, .ref nu, .int (nI nl), .ref fm, .int (nI nf), .ref co, .int (nI nc), .ref en, .ref ke, .long lk])) := k85 _ _ a75 (z_ne a75 a77 rfl) (z_ne a75 a80 rfl)
      have a87 : f1 fi = some (.inr (5, [.ref al, .ref ra, .int (nI nn)])) := k4 _ _ x_fi (z_ne x_fi x_fa rfl)
      have a88 : f7 fi = some (.inr (5, [.ref al, .ref ra, .int (nI nn)])) := k9 _ _ a87 
      have a89 : f21 fi = some (.inr (5, [.ref al, .ref ra, .int (nI nn)])) := k25 _ _ a88 
      have a90 : f81 fi = some (.inr (5, [.ref al, .ref ra, .int (nI nn)])) := k85 _ _ a89 (z_ne a89 a77 rfl) (z_ne a89 a80 rfl)
      have a91 : f1 al = some (.inl (cy 3, 60, .inr (.inr (.inr (.inr ga))))) := k4 _ _ x_al (z_ne x_al x_fa rfl)
      have a92 : f7 al = some (.inl (cy 3, 60, .inr (.inr (.inr (.inr ga))))) := k9 _ _ a91 
      have a93 : f21 al = some (.inl (cy 3, 60, .inr (.inr (.inr (.inr ga))))) := k25 _ _ a92 
      have a94 : f81 al = some (.inl (cy 3, 60, .inr (.inr (.inr (.inr ga))))) := k85 _ _ a93 (z_ne a93 a77 rfl) (z_ne a93 a80 rfl)
      have a95 : f1 ra = some (.inl (cy 3, 60, .inr (.inr (.inr (.inr gr))))) := k4 _ _ x_ra (z_ne x_ra x_fa rfl)
      have a96 : f7 ra = some (.inl (cy 3, 60, .inr (.inr (.inr (.inr gr))))) := k9 _ _ a95 
      have a97 : f21 ra = some (.inl (cy 3, 60, .inr (.inr (.inr (.inr gr))))) := k25 _ _ a96 
      have a98 : f81 ra = some (.inl (cy 3, 60, .inr (.inr (.inr (.inr gr))))) := k85 _ _ a97 (z_ne a97 a77 rfl) (z_ne a97 a80 rfl)
      have a99 : f1 nu = some (.inl (cy 0, 12, .inl gu)) := k4 _ _ x_nu (z_ne x_nu x_fa rfl)
      have a100 : f7 nu = some (.inl (cy 0, 12, .inl gu)) := k9 _ _ a99 
      have a101 : f21 nu = some (.inl (cy 0, 12, .inl gu)) := k25 _ _ a100 
      have a102 : f81 nu = some (.inl (cy 0, 12, .inl gu)) := k85 _ _ a101 (z_ne a101 a77 rfl) (z_ne a101 a80 rfl)
      have a103 : f1 fm = some (.inl (cy 4, 6, .inr (.inr (.inr (.inr gf))))) := k4 _ _ x_fm (z_ne x_fm x_fa rfl)
      have a104 : f7 fm = some (.inl (cy 4, 6, .inr (.inr (.inr (.inr gf))))) := k9 _ _ a103 
      have a105 : f21 fm = some (.inl (cy 4, 6, .inr (.inr (.inr (.inr gf))))) := k25 _ _ a104 
      have a106 : f81 fm = some (.inl (cy 4, 6, .inr (.inr (.inr (.inr gf))))) := k85 _ _ a105 (z_ne a105 a77 rfl) (z_ne a105 a80 rfl)
      have a107 : f21 co = some (.inl (cy 5, 60, .inr (.inr (.inr (.inr gc))))) := k25 _ _ a12 
      have a108 : f81 co = some (.inl (cy 5, 60, .inr (.inr (.inr (.inr gc))))) := k85 _ _ a107 (z_ne a107 a77 rfl) (z_ne a107 a80 rfl)
      have a109 : f7 en = some (.inl (cy 6, 4, .inr (.inr (.inr (.inr ge))))) := k9 _ _ a6 
      have a110 : f21 en = some (.inl (cy 6, 4, .inr (.inr (.inr (.inr ge))))) := k25 _ _ a109 
      have a111 : f81 en = some (.inl (cy 6, 4, .inr (.inr (.inr (.inr ge))))) := k85 _ _ a110 (z_ne a110 a77 rfl) (z_ne a110 a80 rfl)
      have a112 : f1 ke = some (.inr (6, [.ref kn, .ref vq, .int (nI ks)])) := k4 _ _ x_ke (z_ne x_ke x_fa rfl)
      have a113 : f7 ke = some (.inr (6, [.ref kn, .ref vq, .int (nI ks)])) := k9 _ _ a112 
      have a114 : f21 ke = some (.inr (6, [.ref kn, .ref vq, .int (nI ks)])) := k25 _ _ a113 
      have a115 : f81 ke = some (.inr (6, [.ref kn, .ref vq, .int (nI ks)])) := k85 _ _ a114 (z_ne a114 a77 rfl) (z_ne a114 a80 rfl)
      have a116 : f1 kn = some (.inl (cy 0, 40, .inl kk)) := k4 _ _ x_kn (z_ne x_kn x_fa rfl)
      have a117 : f7 kn = some (.inl (cy 0, 40, .inl kk)) := k9 _ _ a116 
      have a118 : f21 kn = some (.inl (cy 0, 40, .inl kk)) := k25 _ _ a117 
      have a119 : f81 kn = some (.inl (cy 0, 40, .inl kk)) := k85 _ _ a118 (z_ne a118 a77 rfl) (z_ne a118 a80 rfl)
      have a120 : f1 vq = some (.inl (cy 0, 40, .inl kv)) := k4 _ _ x_vq (z_ne x_vq x_fa rfl)
      have a121 : f7 vq = some (.inl (cy 0, 40, .inl kv)) := k9 _ _ a120 
      have a122 : f21 vq = some (.inl (cy 0, 40, .inl kv)) := k25 _ _ a121 
      have a123 : f81 vq = some (.inl (cy 0, 40, .inl kv)) := k85 _ _ a122 (z_ne a122 a77 rfl) (z_ne a122 a80 rfl)
      have F124 : ∀ i9 : Nat, i9 < nn → f1 (fg i9) = some (.inr (4, [.int (kd i9), .ref (pt i9), .long (wg i9), .int (wd i9), .int (nI i9), .int (hs i9), .int (bf i9)])) := fun i9 h9 => k4 _ _ (hF i9 h9) (z_ne (hF i9 h9) x_fa rfl)
      have F125 : ∀ i9 : Nat, i9 < nn → f7 (fg i9) = some (.inr (4, [.int (kd i9), .ref (pt i9), .long (wg i9), .int (wd i9), .int (nI i9), .int (hs i9), .int (bf i9)])) := fun i9 h9 => k9 _ _ (F124 i9 h9) 
      have F126 : ∀ i9 : Nat, i9 < nn → f21 (fg i9) = some (.inr (4, [.int (kd i9), .ref (pt i9), .long (wg i9), .int (wd i9), .int (nI i9), .int (hs i9), .int (bf i9)])) := fun i9 h9 => k25 _ _ (F125 i9 h9) 
      have F127 : ∀ i9 : Nat, i9 < nn → f81 (fg i9) = some (.inr (4, [.int (kd i9), .ref (pt i9), .long (wg i9), .int (wd i9), .int (nI i9), .int (hs i9), .int (bf i9)])) := fun i9 h9 => k85 _ _ (F126 i9 h9) (z_ne (F126 i9 h9) a77 rfl) (z_ne (F126 i9 h9) a80 rfl)
      have F128 : ∀ i9 : Nat, i9 < nn → f1 (pt i9) = some (.inl (cy 1, (ln i9), .inr (.inl (pp i9)))) := fun i9 h9 => k4 _ _ (hP i9 h9) (z_neO (hP i9 h9) x_fa rfl)
      have F129 : ∀ i9 : Nat, i9 < nn → f7 (pt i9) = some (.inl (cy 1, (ln i9), .inr (.inl (pp i9)))) := fun i9 h9 => k9 _ _ (F128 i9 h9) 
      have F130 : ∀ i9 : Nat, i9 < nn → f21 (pt i9) = some (.inl (cy 1, (ln i9), .inr (.inl (pp i9)))) := fun i9 h9 => k25 _ _ (F129 i9 h9) 
      have F131 : ∀ i9 : Nat, i9 < nn → f81 (pt i9) = some (.inl (cy 1, (ln i9), .inr (.inl (pp i9)))) := fun i9 h9 => k85 _ _ (F130 i9 h9) (z_neO (F130 i9 h9) a77 rfl) (z_neA (F130 i9 h9) a80 rfl)
      have F132 : ∀ i9 : Nat, i9 < nf → f1 (fq i9) = some (.inr (3, [.ref (fk i9), .int (nI (fz i9))])) := fun i9 h9 => k4 _ _ (hFq i9 h9) (z_ne (hFq i9 h9) x_fa rfl)
      have F133 : ∀ i9 : Nat, i9 < nf → f7 (fq i9) = some (.inr (3, [.ref (fk i9), .int (nI (fz i9))])) := fun i9 h9 => k9 _ _ (F132 i9 h9) 
      have F134 : ∀ i9 : Nat, i9 < nf → f21 (fq i9) = some (.inr (3, [.ref (fk i9), .int (nI (fz i9))])) := fun i9 h9 => k25 _ _ (F133 i9 h9) 
      have F135 : ∀ i9 : Nat, i9 < nf → f81 (fq i9) = some (.inr (3, [.ref (fk i9), .int (nI (fz i9))])) := fun i9 h9 => k85 _ _ (F134 i9 h9) (z_ne (F134 i9 h9) a77 rfl) (z_ne (F134 i9 h9) a80 rfl)
      have F136 : ∀ i9 : Nat, i9 < nf → f1 (fk i9) = some (.inl (cy 0, 4, .inl (fc i9))) := fun i9 h9 => k4 _ _ (hFk i9 h9) (z_ne (hFk i9 h9) x_fa rfl)
      have F137 : ∀ i9 : Nat, i9 < nf → f7 (fk i9) = some (.inl (cy 0, 4, .inl (fc i9))) := fun i9 h9 => k9 _ _ (F136 i9 h9) 
      have F138 : ∀ i9 : Nat, i9 < nf → f21 (fk i9) = some (.inl (cy 0, 4, .inl (fc i9))) := fun i9 h9 => k25 _ _ (F137 i9 h9) 
      have F139 : ∀ i9 : Nat, i9 < nf → f81 (fk i9) = some (.inl (cy 0, 4, .inl (fc i9))) := fun i9 h9 => k85 _ _ (F138 i9 h9) (z_ne (F138 i9 h9) a77 rfl) (z_ne (F138 i9 h9) a80 rfl)
      have F140 : ∀ i9 : Nat, i9 < nc → f21 (cn i9) = some (.inr (0, [.int (ce i9), .int (cm i9)])) := fun i9 h9 => k25 _ _ (F20 i9 h9) 
      have F141 : ∀ i9 : Nat, i9 < nc → f81 (cn i9) = some (.inr (0, [.int (ce i9), .int (cm i9)])) := fun i9 h9 => k85 _ _ (F140 i9 h9) (z_ne (F140 i9 h9) a77 rfl) (z_ne (F140 i9 h9) a80 rfl)
      have F142 : ∀ i9 : Nat, i9 < 4 → f21 (ea i9) = some (.inr (1, [.ref (ma i9), .int (nI (sq i9))])) := fun i9 h9 => k25 _ _ (F14 i9 h9) 
      have F143 : ∀ i9 : Nat, i9 < 4 → f81 (ea i9) = some (.inr (1, [.ref (ma i9), .int (nI (sq i9))])) := fun i9 h9 => k85 _ _ (F142 i9 h9) (z_ne (F142 i9 h9) a77 rfl) (z_ne (F142 i9 h9) a80 rfl)
      have F144 : ∀ i9 : Nat, i9 < 4 → f21 (ma i9) = some (.inl (cy 0, 60, .inl (mb i9))) := fun i9 h9 => k25 _ _ (F17 i9 h9) 
      have F145 : ∀ i9 : Nat, i9 < 4 → f81 (ma i9) = some (.inl (cy 0, 60, .inl (mb i9))) := fun i9 h9 => k85 _ _ (F144 i9 h9) (z_ne (F144 i9 h9) a77 rfl) (z_ne (F144 i9 h9) a80 rfl)
      exact z_iret C hr rfl hz hS ⟨1, (-1), 0, (upd gv 1 (gv 1 + 1)), nl, gu, nn, ga, gr, fg, pt, kd, ln, pp, wg, wd, hs, bf, nf, gf, fq, fk, fz, fc, nc, gc, cn, ce, cm, sq, mb, ks, kk, kv, lk, (by rw [if_pos rfl]), rfl, rfl, (by rw [if_pos rfl]), rfl, rfl, rfl, rfl, rfl, rfl, rfl, rfl, rfl, rfl, rfl, rfl, rfl, rfl, rfl, rfl, rfl, rfl, rfl, rfl, (Or.inl ⟨j, hj, hxj, _, p24, by rw [if_pos c26]⟩), ⟨a86, a83, a84, a90, a94, a98, a102, a106, a108, a111, a115, a119, a123, F127, F131, F135, F139, F141, F143, F145, hn60, hl12, hf6, hc60, hs40, hga, hgr, hln, hk5, hk4, hfi, hpi, har, hgf, hfz, hgc, hG, hsq, hei, hmi, kne, hca, hcr, hlk⟩⟩ (Nat.le_of_ble_eq_true rfl) (Nat.le_of_ble_eq_true rfl) dX7_named_47
  · refine lv_aload_n hx hb dX7_named_0 rfl (lv_at hl 0 rfl) ?_
    refine z_get (v := .ref fa) C hz x_o zl7 mFX7_10 (by decide) rfl dX7_named_1 ?_
    refine z_callVv (As := []) C hz hS hA hl (k_X2_none l D cy f fa u1 u2 u3 ev x_fa ) zyX2_none mMX7_76 x_fa zl2 rfl rfl (Nat.le_of_ble_eq_true rfl) ⟨Nat.le_of_ble_eq_true rfl, Nat.le_of_ble_eq_true rfl⟩ ⟨Nat.le_of_ble_eq_true rfl, Nat.le_of_ble_eq_true rfl⟩ dX7_named_4 (fun  f146 H locs h147 hz hS => ?_)
    obtain ⟨a148, k149⟩ := h147
    refine lv_aload_n hx hb dX7_named_7 rfl (lv_at hl 0 rfl) ?_
    refine lv_iload_n hx hb dX7_named_8 rfl (lv_at hl 1 rfl) ?_
    have a150 : f146 o = some (.inr (7, [.ref fa, .ref fi, .ref nu, .int (nI nl), .ref fm, .int (nI nf), .ref co, .int (nI nc), .ref en, .ref ke, .long lk])) := k149 _ _ x_o (z_ne x_o x_fa rfl)
    refine z_callVq (As := [.int x]) C hz hS hA hl (k_X7_findEnumeration_B l D cy f146 o fa fi nu nl fm nf co nc en ke lk x a150 he) zyX7_findEnumeration mMX7_204 a150 zl7 rfl rfl (Nat.le_of_ble_eq_true rfl) ⟨Nat.le_of_ble_eq_true rfl, Nat.le_of_ble_eq_true rfl⟩ ⟨Nat.le_of_ble_eq_true rfl, Nat.le_of_ble_eq_true rfl⟩ dX7_named_9 (fun r f151 H locs h152 hz hS => ?_)
    obtain ⟨rfl, k153⟩ := h152
    refine W.eq (g2 := F0 m 12 ls [.null]) rfl ?_
    refine lv_astore_nN (lv' := [(3, .null), (0, .ref o), (1, .int x), (2, .int y)]) hx hb dX7_named_12 rfl hl (by decide) rfl (fun ls hl => ?_)
    refine lv_aload_nN hx hb dX7_named_13 rfl (lv_at hl 0 rfl) ?_
    refine lv_ifnonnullN hx hb dX7_named_14 ?_
    refine lv_bipush (v := (-2)) hx hb dX7_named_17 (by decide) ?_
    have a154 : f151 o = some (.inr (7, [.ref fa, .ref fi, .ref nu, .int (nI nl), .ref fm, .int (nI nf), .ref co, .int (nI nc), .ref en, .ref ke, .long lk])) := k153 _ _ a150 
    have a155 : f151 fa = some (.inr (2, [.int 0, .int (-1), .int 0, .ref ev])) := k153 _ _ a148 
    have a156 : f146 ev = some (.inl (cy 0, 8, .inl gv)) := k149 _ _ x_ev (z_ne x_ev x_fa rfl)
    have a157 : f151 ev = some (.inl (cy 0, 8, .inl gv)) := k153 _ _ a156 
    have a158 : f146 fi = some (.inr (5, [.ref al, .ref ra, .int (nI nn)])) := k149 _ _ x_fi (z_ne x_fi x_fa rfl)
    have a159 : f151 fi = some (.inr (5, [.ref al, .ref ra, .int (nI nn)])) := k153 _ _ a158 
    have a160 : f146 al = some (.inl (cy 3, 60, .inr (.inr (.inr (.inr ga))))) := k149 _ _ x_al (z_ne x_al x_fa rfl)
    have a161 : f151 al = some (.inl (cy 3, 60, .inr (.inr (.inr (.inr ga))))) := k153 _ _ a160 
    have a162 : f146 ra = some (.inl (cy 3, 60, .inr (.inr (.inr (.inr gr))))) := k149 _ _ x_ra (z_ne x_ra x_fa rfl)
    have a163 : f151 ra = some (.inl (cy 3, 60, .inr (.inr (.inr (.inr gr))))) := k153 _ _ a162 
    have a164 : f146 nu = some (.inl (cy 0, 12, .inl gu)) := k149 _ _ x_nu (z_ne x_nu x_fa rfl)
    have a165 : f151 nu = some (.inl (cy 0, 12, .inl gu)) := k153 _ _ a164 
    have a166 : f146 fm = some (.inl (cy 4, 6, .inr (.inr (.inr (.inr gf))))) := k149 _ _ x_fm (z_ne x_fm x_fa rfl)
    have a167 : f151 fm = some (.inl (cy 4, 6, .inr (.inr (.inr (.inr gf))))) := k153 _ _ a166 
    have a168 : f146 co = some (.inl (cy 5, 60, .inr (.inr (.inr (.inr gc))))) := k149 _ _ x_co (z_ne x_co x_fa rfl)
    have a169 : f151 co = some (.inl (cy 5, 60, .inr (.inr (.inr (.inr gc))))) := k153 _ _ a168 
    have a170 : f146 en = some (.inl (cy 6, 4, .inr (.inr (.inr (.inr ge))))) := k149 _ _ x_en (z_ne x_en x_fa rfl)
    have a171 : f151 en = some (.inl (cy 6, 4, .inr (.inr (.inr (.inr ge))))) := k153 _ _ a170 
    have a172 : f146 ke = some (.inr (6, [.ref kn, .ref vq, .int (nI ks)])) := k149 _ _ x_ke (z_ne x_ke x_fa rfl)
    have a173 : f151 ke = some (.inr (6, [.ref kn, .ref vq, .int (nI ks)])) := k153 _ _ a172 
    have a174 : f146 kn = some (.inl (cy 0, 40, .inl kk)) := k149 _ _ x_kn (z_ne x_kn x_fa rfl)
    have a175 : f151 kn = some (.inl (cy 0, 40, .inl kk)) := k153 _ _ a174 
    have a176 : f146 vq = some (.inl (cy 0, 40, .inl kv)) := k149 _ _ x_vq (z_ne x_vq x_fa rfl)
    have a177 : f151 vq = some (.inl (cy 0, 40, .inl kv)) := k153 _ _ a176 
    have F178 : ∀ i9 : Nat, i9 < nn → f146 (fg i9) = some (.inr (4, [.int (kd i9), .ref (pt i9), .long (wg i9), .int (wd i9), .int (nI i9), .int (hs i9), .int (bf i9)])) := fun i9 h9 => k149 _ _ (hF i9 h9) (z_ne (hF i9 h9) x_fa rfl)
    have F179 : ∀ i9 : Nat, i9 < nn → f151 (fg i9) = some (.inr (4, [.int (kd i9), .ref (pt i9), .long (wg i9), .int (wd i9), .int (nI i9), .int (hs i9), .int (bf i9)])) := fun i9 h9 => k153 _ _ (F178 i9 h9) 
    have F180 : ∀ i9 : Nat, i9 < nn → f146 (pt i9) = some (.inl (cy 1, (ln i9), .inr (.inl (pp i9)))) := fun i9 h9 => k149 _ _ (hP i9 h9) (z_neO (hP i9 h9) x_fa rfl)
    have F181 : ∀ i9 : Nat, i9 < nn → f151 (pt i9) = some (.inl (cy 1, (ln i9), .inr (.inl (pp i9)))) := fun i9 h9 => k153 _ _ (F180 i9 h9) 
    have F182 : ∀ i9 : Nat, i9 < nf → f146 (fq i9) = some (.inr (3, [.ref (fk i9), .int (nI (fz i9))])) := fun i9 h9 => k149 _ _ (hFq i9 h9) (z_ne (hFq i9 h9) x_fa rfl)
    have F183 : ∀ i9 : Nat, i9 < nf → f151 (fq i9) = some (.inr (3, [.ref (fk i9), .int (nI (fz i9))])) := fun i9 h9 => k153 _ _ (F182 i9 h9) 
    have F184 : ∀ i9 : Nat, i9 < nf → f146 (fk i9) = some (.inl (cy 0, 4, .inl (fc i9))) := fun i9 h9 => k149 _ _ (hFk i9 h9) (z_ne (hFk i9 h9) x_fa rfl)
    have F185 : ∀ i9 : Nat, i9 < nf → f151 (fk i9) = some (.inl (cy 0, 4, .inl (fc i9))) := fun i9 h9 => k153 _ _ (F184 i9 h9) 
    have F186 : ∀ i9 : Nat, i9 < nc → f146 (cn i9) = some (.inr (0, [.int (ce i9), .int (cm i9)])) := fun i9 h9 => k149 _ _ (hCn i9 h9) (z_ne (hCn i9 h9) x_fa rfl)
    have F187 : ∀ i9 : Nat, i9 < nc → f151 (cn i9) = some (.inr (0, [.int (ce i9), .int (cm i9)])) := fun i9 h9 => k153 _ _ (F186 i9 h9) 
    have F188 : ∀ i9 : Nat, i9 < 4 → f146 (ea i9) = some (.inr (1, [.ref (ma i9), .int (nI (sq i9))])) := fun i9 h9 => k149 _ _ (hEa i9 h9) (z_ne (hEa i9 h9) x_fa rfl)
    have F189 : ∀ i9 : Nat, i9 < 4 → f151 (ea i9) = some (.inr (1, [.ref (ma i9), .int (nI (sq i9))])) := fun i9 h9 => k153 _ _ (F188 i9 h9) 
    have F190 : ∀ i9 : Nat, i9 < 4 → f146 (ma i9) = some (.inl (cy 0, 60, .inl (mb i9))) := fun i9 h9 => k149 _ _ (hMa i9 h9) (z_ne (hMa i9 h9) x_fa rfl)
    have F191 : ∀ i9 : Nat, i9 < 4 → f151 (ma i9) = some (.inl (cy 0, 60, .inl (mb i9))) := fun i9 h9 => k153 _ _ (F190 i9 h9) 
    exact z_iret C hr rfl hz hS ⟨0, (-1), 0, gv, nl, gu, nn, ga, gr, fg, pt, kd, ln, pp, wg, wd, hs, bf, nf, gf, fq, fk, fz, fc, nc, gc, cn, ce, cm, sq, mb, ks, kk, kv, lk, (by rw [if_neg (by decide)]), rfl, rfl, (by rw [if_neg (by decide)]), rfl, rfl, rfl, rfl, rfl, rfl, rfl, rfl, rfl, rfl, rfl, rfl, rfl, rfl, rfl, rfl, rfl, rfl, rfl, rfl, (Or.inr ⟨rfl, he⟩), ⟨a154, a155, a157, a159, a161, a163, a165, a167, a169, a171, a173, a175, a177, F179, F181, F183, F185, F187, F189, F191, hn60, hl12, hf6, hc60, hs40, hga, hgr, hln, hk5, hk4, hfi, hpi, har, hgf, hfz, hgc, hG, hsq, hei, hmi, kne, hca, hcr, hlk⟩⟩ (Nat.le_of_ble_eq_true rfl) (Nat.le_of_ble_eq_true rfl) dX7_named_19
theorem z_nE4e {x : Int32} {j : Nat} (hj : j < 4) (h : x = nI j) : 0 ≤ x ∧ x < 4 := by
  rw [h]
  exact ⟨nI_pos' (by omega), (nI_ltI (a := j) (b := 4) (by omega) (by omega)).mpr hj⟩
abbrev rmX7_drop : Room := { frames := 2, cells := 0, slots := 0, locals := 43 }
set_option maxHeartbeats 4000000 in
set_option maxRecDepth 100000 in
theorem k_X7_drop (l : Launch) (D : va_G) (cy : Nat → ClassId) (f : zM) (o : Nat) (fa : Nat) (fi : Nat) (nu : Nat) (fm : Nat) (co : Nat) (en : Nat) (ke : Nat) (ev : Nat) (al : Nat) (ra : Nat) (kn : Nat) (vq : Nat) (ge : Nat → Option Nat) (ea : Nat → Nat) (ma : Nat → Nat) (u1 : Int32) (u2 : Int32) (u3 : Int32) (gv : Nat → Int32) (nl : Nat) (gu : Nat → Int32) (nn : Nat) (ga : Nat → Option Nat) (gr : Nat → Option Nat) (fg : Nat → Nat) (pt : Nat → Nat) (kd : Nat → Int32) (ln : Nat → Nat) (pp : Nat → Nat → Int64) (wg : Nat → Int64) (wd : Nat → Int32) (hs : Nat → Int32) (bf : Nat → Int32) (nf : Nat) (gf : Nat → Option Nat) (fq : Nat → Nat) (fk : Nat → Nat) (fz : Nat → Nat) (fc : Nat → Nat → Int32) (nc : Nat) (gc : Nat → Option Nat) (cn : Nat → Nat) (ce : Nat → Int32) (cm : Nat → Int32) (sq : Nat → Nat) (mb : Nat → Nat → Int32) (ks : Nat) (kk : Nat → Int32) (kv : Nat → Int32) (lk : Int64) (x : Int32)    (hI : zIX cy f o fa fi nu fm co en ke ev al ra kn vq ge ea ma u1 u2 u3 gv nl gu nn ga gr fg pt kd ln pp wg wd hs bf nf gf fq fk fz fc nc gc cn ce cm sq mb ks kk kv lk) : zCi l D cy yX7_drop cX7_drop 4 (Option.some Jvm.ClassFile.FieldType.int) rmX7_drop [.ref o, .int x] f (fun (r : Int32) (f1 : zM) => ∃ (u11 : Int32) (u21 : Int32) (u31 : Int32) (gv1 : Nat → Int32) (nl1 : Nat) (gu1 : Nat → Int32) (nn1 : Nat) (ga1 : Nat → Option Nat) (gr1 : Nat → Option Nat) (fg1 : Nat → Nat) (pt1 : Nat → Nat) (kd1 : Nat → Int32) (ln1 : Nat → Nat) (pp1 : Nat → Nat → Int64) (wg1 : Nat → Int64) (wd1 : Nat → Int32) (hs1 : Nat → Int32) (bf1 : Nat → Int32) (nf1 : Nat) (gf1 : Nat → Option Nat) (fq1 : Nat → Nat) (fk1 : Nat → Nat) (fz1 : Nat → Nat) (fc1 : Nat → Nat → Int32) (nc1 : Nat) (gc1 : Nat → Option Nat) (cn1 : Nat → Nat) (ce1 : Nat → Int32) (cm1 : Nat → Int32) (sq1 : Nat → Nat) (mb1 : Nat → Nat → Int32) (ks1 : Nat) (kk1 : Nat → Int32) (kv1 : Nat → Int32) (lk1 : Int64), (u11 = u1) ∧ (u21 = u2) ∧ (u31 = u3) ∧ (gv1 = gv) ∧ (nl1 = nl) ∧ (gu1 = gu) ∧ (nn1 = nn) ∧ (kd1 = kd) ∧ (ln1 = ln) ∧ (pp1 = pp) ∧ (wd1 = wd) ∧ (hs1 = hs) ∧ (nf1 = nf) ∧ (fz1 = fz) ∧ (fc1 = fc) ∧ (nc1 = nc) ∧ (ce1 = ce) ∧ (cm1 = cm) ∧ (ks1 = ks) ∧ (kk1 = kk) ∧ (kv1 = kv) ∧ (lk1 = lk) ∧ (zXD nc x ce sq mb r sq1 mb1) ∧ zIX cy f1 o fa fi nu fm co en ke ev al ra kn vq ge ea ma u11 u21 u31 gv1 nl1 gu1 nn1 ga1 gr1 fg1 pt1 kd1 ln1 pp1 wg1 wd1 hs1 bf1 nf1 gf1 fq1 fk1 fz1 fc1 nc1 gc1 cn1 ce1 cm1 sq1 mb1 ks1 kk1 kv1 lk1) := by
  intro sz
  refine z_body (by decide +kernel) (Nat.le_of_ble_eq_true rfl) ?_
  intro p e s m below meth c ls C hr hin hsz hz hl
  subst hsz
  have hx := C.1
  have hb := C.2.1
  have hA : ∀ q, s.heap.size ≤ q → zA f s.heap.size q := fun q h => Or.inr h
  have hS : va_S (zA f s.heap.size) s.heap s.heap [] := va_S.rf
  have hl : lv_has ls 4 [(0, .ref o), (1, .int x)] := hl
  obtain ⟨x_o, x_fa, x_ev, x_fi, x_al, x_ra, x_nu, x_fm, x_co, x_en, x_ke, x_kn, x_vq, hF, hP, hFq, hFk, hCn, hEa, hMa, hn60, hl12, hf6, hc60, hs40, hga, hgr, hln, hk5, hk4, hfi, hpi, har, hgf, hfz, hgc, hG, hsq, hei, hmi, kne, hca, hcr, hlk⟩ := id hI
  refine lv_aload_n hx hb dX7_drop_0 rfl (lv_at hl 0 rfl) ?_
  refine lv_iload_n hx hb dX7_drop_1 rfl (lv_at hl 1 rfl) ?_
  rcases z_home x nc ce with ⟨jc, hjc, hvc, je, hje, hxe⟩ | ⟨jc, hjc, hvc, hnc⟩ | hvc
  · refine z_callVq (As := [.int x]) C hz hS hA hl (k_X7_homeOf_A l D cy f o fa fi nu nl fm nf co nc en ke lk gc cn ce cm ge ea x jc je x_o x_co x_en hCn hc60 hgc hG hvc hjc hxe hje) zyX7_homeOf mMX7_218 x_o zl7 rfl rfl (Nat.le_of_ble_eq_true rfl) ⟨Nat.le_of_ble_eq_true rfl, Nat.le_of_ble_eq_true rfl⟩ ⟨Nat.le_of_ble_eq_true rfl, Nat.le_of_ble_eq_true rfl⟩ dX7_drop_2 (fun r f1 H locs h2 hz hS => ?_)
    obtain ⟨rfl, k3⟩ := h2
    refine W.eq (g2 := F0 m 5 ls [.ref (ea je)]) rfl ?_
    refine lv_astore_n (lv' := [(2, .ref (ea je)), (0, .ref o), (1, .int x)]) hx hb dX7_drop_5 rfl hl (by decide) rfl (fun ls hl => ?_)
    refine lv_aload_n hx hb dX7_drop_6 rfl (lv_at hl 0 rfl) ?_
    refine lv_ifnonnull (tgt := 14) hx hb dX7_drop_7 (by decide) ?_
    refine lv_aload_n hx hb dX7_drop_14 rfl (lv_at hl 0 rfl) ?_
    refine lv_iload_n hx hb dX7_drop_15 rfl (lv_at hl 2 rfl) ?_
    have F4 : ∀ i9 : Nat, i9 < 4 → f1 (ea i9) = some (.inr (1, [.ref (ma i9), .int (nI (sq i9))])) := fun i9 h9 => k3 _ _ (hEa i9 h9) 
    have a5 : f1 (ea je) = some (.inr (1, [.ref (ma je), .int (nI (sq je))])) := F4 je hje
    have F6 : ∀ i9 : Nat, i9 < 4 → f1 (ma i9) = some (.inl (cy 0, 60, .inl (mb i9))) := fun i9 h9 => k3 _ _ (hMa i9 h9) 
    have a7 : f1 (ma je) = some (.inl (cy 0, 60, .inl (mb je))) := F6 je hje
    refine z_callVi (As := [.int x]) C hz hS hA hl (k_X1_placeOf l D cy f1 (ea je) (ma je) (sq je) (mb je) x a5 a7 (by have h9 := hsq je hje; omega)) zyX1_placeOf mMX7_221 a5 zl1 rfl rfl (Nat.le_of_ble_eq_true rfl) ⟨Nat.le_of_ble_eq_true rfl, Nat.le_of_ble_eq_true rfl⟩ ⟨Nat.le_of_ble_eq_true rfl, Nat.le_of_ble_eq_true rfl⟩ dX7_drop_16 (fun r10 f8 H locs h9 hz hS => ?_)
    obtain ⟨p11, k12⟩ := h9
    refine lv_istore_n (lv' := [(3, .int r10), (2, .ref (ea je)), (0, .ref o), (1, .int x)]) hx hb dX7_drop_19 rfl hl (by decide) rfl (fun ls hl => ?_)
    refine lv_iload_n hx hb dX7_drop_20 rfl (lv_at hl 0 rfl) ?_
    refine lv_iconst (v := (-1)) hx hb dX7_drop_21 (by decide) ?_
    refine lv_icmp_ne (tgt := 28) hx hb dX7_drop_22 (by decide) (fun c13 => ?_) (fun c13 => ?_)
    · obtain ⟨k, hk, hrk, hmk, hfk⟩ : ∃ k, k < sq je ∧ r10 = nI k ∧ mb je k = x ∧ ∀ j, j < k → mb je j ≠ x := by
        rcases p11 with h1 | ⟨h1, -⟩
        · exact h1
        · exact absurd h1 c13
      refine lv_aload_n hx hb dX7_drop_28 rfl (lv_at hl 1 rfl) ?_
      refine lv_iload_n hx hb dX7_drop_29 rfl (lv_at hl 0 rfl) ?_
      have a14 : f8 (ea je) = some (.inr (1, [.ref (ma je), .int (nI (sq je))])) := k12 _ _ a5 
      have a15 : f8 (ma je) = some (.inl (cy 0, 60, .inl (mb je))) := k12 _ _ a7 
      refine z_callVv (As := [.int r10]) C hz hS hA hl (k_X1_remove l D cy f8 (ea je) (ma je) (sq je) (mb je) r10 k a14 a15 hrk hk (by have h9 := hsq je hje; omega)) zyX1_remove mMX7_224 a14 zl1 rfl rfl (Nat.le_of_ble_eq_true rfl) ⟨Nat.le_of_ble_eq_true rfl, Nat.le_of_ble_eq_true rfl⟩ ⟨Nat.le_of_ble_eq_true rfl, Nat.le_of_ble_eq_true rfl⟩ dX7_drop_30 (fun  f16 H locs h17 hz hS => ?_)
      obtain ⟨g_18, p19, a20, a21, k22⟩ := h17
      refine lv_aload_n hx hb dX7_drop_33 rfl (lv_at hl 1 rfl) ?_
      refine z_getN (v := .int (nI ((sq je) - 1))) C hz a20 zl1 mFNX7_227 (by decide) rfl dX7_drop_34 ?_
      have a23 : f1 o = some (.inr (7, [.ref fa, .ref fi, .ref nu, .int (nI nl), .ref fm, .int (nI nf), .ref co, .int (nI nc), .ref en, .ref ke, .long lk])) := k3 _ _ x_o 
      have a24 : f8 o = some (.inr (7, [.ref fa, .ref fi, .ref nu, .int (nI nl), .ref fm, .int (nI nf), .ref co, .int (nI nc), .ref en, .ref ke, .long lk])) := k12 _ _ a23 
      have a25 : f16 o = some (.inr (7, [.ref fa, .ref fi, .ref nu, .int (nI nl), .ref fm, .int (nI nf), .ref co, .int (nI nc), .ref en, .ref ke, .long lk])) := k22 _ _ a24 (z_ne a24 a14 rfl) (z_ne a24 a15 rfl)
      have a26 : f1 fa = some (.inr (2, [.int u1, .int u2, .int u3, .ref ev])) := k3 _ _ x_fa 
      have a27 : f8 fa = some (.inr (2, [.int u1, .int u2, .int u3, .ref ev])) := k12 _ _ a26 
      have a28 : f16 fa = some (.inr (2, [.int u1, .int u2, .int u3, .ref ev])) := k22 _ _ a27 (z_ne a27 a14 rfl) (z_ne a27 a15 rfl)
      have a29 : f1 ev = some (.inl (cy 0, 8, .inl gv)) := k3 _ _ x_ev 
      have a30 : f8 ev = some (.inl (cy 0, 8, .inl gv)) := k12 _ _ a29 
      have a31 : f16 ev = some (.inl (cy 0, 8, .inl gv)) := k22 _ _ a30 (z_ne a30 a14 rfl) (z_ne a30 a15 rfl)
      have a32 : f1 fi = some (.inr (5, [.ref al, .ref ra, .int (nI nn)])) := k3 _ _ x_fi 
      have a33 : f8 fi = some (.inr (5, [.ref al, .ref ra, .int (nI nn)])) := k12 _ _ a32 
      have a34 : f16 fi = some (.inr (5, [.ref al, .ref ra, .int (nI nn)])) := k22 _ _ a33 (z_ne a33 a14 rfl) (z_ne a33 a15 rfl)
      have a35 : f1 al = some (.inl (cy 3, 60, .inr (.inr (.inr (.inr ga))))) := k3 _ _ x_al 
      have a36 : f8 al = some (.inl (cy 3, 60, .inr (.inr (.inr (.inr ga))))) := k12 _ _ a35 
      have a37 : f16 al = some (.inl (cy 3, 60, .inr (.inr (.inr (.inr ga))))) := k22 _ _ a36 (z_ne a36 a14 rfl) (z_ne a36 a15 rfl)
      have a38 : f1 ra = some (.inl (cy 3, 60, .inr (.inr (.inr (.inr gr))))) := k3 _ _ x_ra 
      have a39 : f8 ra = some (.inl (cy 3, 60, .inr (.inr (.inr (.inr gr))))) := k12 _ _ a38 
      have a40 : f16 ra = some (.inl (cy 3, 60, .inr (.inr (.inr (.inr gr))))) := k22 _ _ a39 (z_ne a39 a14 rfl) (z_ne a39 a15 rfl)
      have a41 : f1 nu = some (.inl (cy 0, 12, .inl gu)) := k3 _ _ x_nu 
      have a42 : f8 nu = some (.inl (cy 0, 12, .inl gu)) := k12 _ _ a41 
      have a43 : f16 nu = some (.inl (cy 0, 12, .inl gu)) := k22 _ _ a42 (z_ne a42 a14 rfl) (z_ne a42 a15 rfl)
      have a44 : f1 fm = some (.inl (cy 4, 6, .inr (.inr (.inr (.inr gf))))) := k3 _ _ x_fm 
      have a45 : f8 fm = some (.inl (cy 4, 6, .inr (.inr (.inr (.inr gf))))) := k12 _ _ a44 
      have a46 : f16 fm = some (.inl (cy 4, 6, .inr (.inr (.inr (.inr gf))))) := k22 _ _ a45 (z_ne a45 a14 rfl) (z_ne a45 a15 rfl)
      have a47 : f1 co = some (.inl (cy 5, 60, .inr (.inr (.inr (.inr gc))))) := k3 _ _ x_co 
      have a48 : f8 co = some (.inl (cy 5, 60, .inr (.inr (.inr (.inr gc))))) := k12 _ _ a47 
      have a49 : f16 co = some (.inl (cy 5, 60, .inr (.inr (.inr (.inr gc))))) := k22 _ _ a48 (z_ne a48 a14 rfl) (z_ne a48 a15 rfl)
      have a50 : f1 en = some (.inl (cy 6, 4, .inr (.inr (.inr (.inr ge))))) := k3 _ _ x_en 
      have a51 : f8 en = some (.inl (cy 6, 4, .inr (.inr (.inr (.inr ge))))) := k12 _ _ a50 
      have a52 : f16 en = some (.inl (cy 6, 4, .inr (.inr (.inr (.inr ge))))) := k22 _ _ a51 (z_ne a51 a14 rfl) (z_ne a51 a15 rfl)
      have a53 : f1 ke = some (.inr (6, [.ref kn, .ref vq, .int (nI ks)])) := k3 _ _ x_ke 
      have a54 : f8 ke = some (.inr (6, [.ref kn, .ref vq, .int (nI ks)])) := k12 _ _ a53 
      have a55 : f16 ke = some (.inr (6, [.ref kn, .ref vq, .int (nI ks)])) := k22 _ _ a54 (z_ne a54 a14 rfl) (z_ne a54 a15 rfl)
      have a56 : f1 kn = some (.inl (cy 0, 40, .inl kk)) := k3 _ _ x_kn 
      have a57 : f8 kn = some (.inl (cy 0, 40, .inl kk)) := k12 _ _ a56 
      have a58 : f16 kn = some (.inl (cy 0, 40, .inl kk)) := k22 _ _ a57 (z_ne a57 a14 rfl) (z_ne a57 a15 rfl)
      have a59 : f1 vq = some (.inl (cy 0, 40, .inl kv)) := k3 _ _ x_vq 
      have a60 : f8 vq = some (.inl (cy 0, 40, .inl kv)) := k12 _ _ a59 
      have a61 : f16 vq = some (.inl (cy 0, 40, .inl kv)) := k22 _ _ a60 (z_ne a60 a14 rfl) (z_ne a60 a15 rfl)
      have F62 : ∀ i9 : Nat, i9 < nn → f1 (fg i9) = some (.inr (4, [.int (kd i9), .ref (pt i9), .long (wg i9), .int (wd i9), .int (nI i9), .int (hs i9), .int (bf i9)])) := fun i9 h9 => k3 _ _ (hF i9 h9) 
      have F63 : ∀ i9 : Nat, i9 < nn → f8 (fg i9) = some (.inr (4, [.int (kd i9), .ref (pt i9), .long (wg i9), .int (wd i9), .int (nI i9), .int (hs i9), .int (bf i9)])) := fun i9 h9 => k12 _ _ (F62 i9 h9) 
      have F64 : ∀ i9 : Nat, i9 < nn → f16 (fg i9) = some (.inr (4, [.int (kd i9), .ref (pt i9), .long (wg i9), .int (wd i9), .int (nI i9), .int (hs i9), .int (bf i9)])) := fun i9 h9 => k22 _ _ (F63 i9 h9) (z_ne (F63 i9 h9) a14 rfl) (z_ne (F63 i9 h9) a15 rfl)
      have F65 : ∀ i9 : Nat, i9 < nn → f1 (pt i9) = some (.inl (cy 1, (ln i9), .inr (.inl (pp i9)))) := fun i9 h9 => k3 _ _ (hP i9 h9) 
      have F66 : ∀ i9 : Nat, i9 < nn → f8 (pt i9) = some (.inl (cy 1, (ln i9), .inr (.inl (pp i9)))) := fun i9 h9 => k12 _ _ (F65 i9 h9) 
      have F67 : ∀ i9 : Nat, i9 < nn → f16 (pt i9) = some (.inl (cy 1, (ln i9), .inr (.inl (pp i9)))) := fun i9 h9 => k22 _ _ (F66 i9 h9) (z_neO (F66 i9 h9) a14 rfl) (z_neA (F66 i9 h9) a15 rfl)
      have F68 : ∀ i9 : Nat, i9 < nf → f1 (fq i9) = some (.inr (3, [.ref (fk i9), .int (nI (fz i9))])) := fun i9 h9 => k3 _ _ (hFq i9 h9) 
      have F69 : ∀ i9 : Nat, i9 < nf → f8 (fq i9) = some (.inr (3, [.ref (fk i9), .int (nI (fz i9))])) := fun i9 h9 => k12 _ _ (F68 i9 h9) 
      have F70 : ∀ i9 : Nat, i9 < nf → f16 (fq i9) = some (.inr (3, [.ref (fk i9), .int (nI (fz i9))])) := fun i9 h9 => k22 _ _ (F69 i9 h9) (z_ne (F69 i9 h9) a14 rfl) (z_ne (F69 i9 h9) a15 rfl)
      have F71 : ∀ i9 : Nat, i9 < nf → f1 (fk i9) = some (.inl (cy 0, 4, .inl (fc i9))) := fun i9 h9 => k3 _ _ (hFk i9 h9) 
      have F72 : ∀ i9 : Nat, i9 < nf → f8 (fk i9) = some (.inl (cy 0, 4, .inl (fc i9))) := fun i9 h9 => k12 _ _ (F71 i9 h9) 
      have F73 : ∀ i9 : Nat, i9 < nf → f16 (fk i9) = some (.inl (cy 0, 4, .inl (fc i9))) := fun i9 h9 => k22 _ _ (F72 i9 h9) (z_ne (F72 i9 h9) a14 rfl) (z_ne (F72 i9 h9) a15 rfl)
      have F74 : ∀ i9 : Nat, i9 < nc → f1 (cn i9) = some (.inr (0, [.int (ce i9), .int (cm i9)])) := fun i9 h9 => k3 _ _ (hCn i9 h9) 
      have F75 : ∀ i9 : Nat, i9 < nc → f8 (cn i9) = some (.inr (0, [.int (ce i9), .int (cm i9)])) := fun i9 h9 => k12 _ _ (F74 i9 h9) 
      have F76 : ∀ i9 : Nat, i9 < nc → f16 (cn i9) = some (.inr (0, [.int (ce i9), .int (cm i9)])) := fun i9 h9 => k22 _ _ (F75 i9 h9) (z_ne (F75 i9 h9) a14 rfl) (z_ne (F75 i9 h9) a15 rfl)
      have F77 : ∀ i9 : Nat, i9 < 4 → f8 (ea i9) = some (.inr (1, [.ref (ma i9), .int (nI (sq i9))])) := fun i9 h9 => k12 _ _ (F4 i9 h9) 
      have F78 : ∀ i9 : Nat, i9 < 4 → f16 (ea i9) = some (.inr (1, [.ref (ma i9), .int (nI (va_up sq je ((sq je) - 1) i9))])) := z_famC (f := f) (T := fun i9 => .inr (1, [.ref (ma i9), .int (nI (sq i9))])) (T' := fun i9 => .inr (1, [.ref (ma i9), .int (nI (va_up sq je ((sq je) - 1) i9))])) hje (by simp only [va_up_self]; exact a20) (fun i9 h9 n9 => k22 _ _ (F77 i9 h9) n9 (z_ne (F77 i9 h9) a15 rfl)) (fun i9 h9 => by simp only [va_up_ne _ _ h9]) (fun i9 h9 => hei i9 h9 je hje)
      have F79 : ∀ i9 : Nat, i9 < 4 → f8 (ma i9) = some (.inl (cy 0, 60, .inl (mb i9))) := fun i9 h9 => k12 _ _ (F6 i9 h9) 
      have F80 : ∀ i9 : Nat, i9 < 4 → f16 (ma i9) = some (.inl (cy 0, 60, .inl (va_up mb je g_18 i9))) := z_famC (f := f) (T := fun i9 => .inl (cy 0, 60, .inl (mb i9))) (T' := fun i9 => .inl (cy 0, 60, .inl (va_up mb je g_18 i9))) hje (by simp only [va_up_self]; exact a21) (fun i9 h9 n9 => k22 _ _ (F79 i9 h9) (z_ne (F79 i9 h9) a14 rfl) n9) (fun i9 h9 => by simp only [va_up_ne _ _ h9]) (fun i9 h9 => hmi i9 h9 je hje)
      exact z_iret C hr rfl hz hS ⟨u1, u2, u3, gv, nl, gu, nn, ga, gr, fg, pt, kd, ln, pp, wg, wd, hs, bf, nf, gf, fq, fk, fz, fc, nc, gc, cn, ce, cm, (va_up sq je ((sq je) - 1)), (va_up mb je g_18), ks, kk, kv, lk, rfl, rfl, rfl, rfl, rfl, rfl, rfl, rfl, rfl, rfl, rfl, rfl, rfl, rfl, rfl, rfl, rfl, rfl, rfl, rfl, rfl, rfl, (Or.inl ⟨jc, hjc, hvc, je, hje, hxe, k, hk, hmk, hfk, rfl, rfl, _, rfl, p19⟩), ⟨a25, a28, a31, a34, a37, a40, a43, a46, a49, a52, a55, a58, a61, F64, F67, F70, F73, F76, F78, F80, hn60, hl12, hf6, hc60, hs40, hga, hgr, hln, hk5, hk4, hfi, hpi, har, hgf, hfz, hgc, hG, (z_sq2 hsq hje), hei, hmi, kne, hca, hcr, hlk⟩⟩ (Nat.le_of_ble_eq_true rfl) (Nat.le_of_ble_eq_true rfl) dX7_drop_37
    · have hno : ∀ k, k < sq je → mb je k ≠ x := by
        rcases p11 with ⟨k, h1, h2, -⟩ | ⟨-, h1⟩
        · exact absurd (h2.symm.trans c13) (z_nim1 (by have h9 := hsq je hje; omega))
        · exact h1
      refine lv_bipush (v := (-2)) hx hb dX7_drop_25 (by decide) ?_
      have a81 : f1 o = some (.inr (7, [.ref fa, .ref fi, .ref nu, .int (nI nl), .ref fm, .int (nI nf), .ref co, .int (nI nc), .ref en, .ref ke, .long lk])) := k3 _ _ x_o 
      have a82 : f8 o = some (.inr (7, [.ref fa, .ref fi, .ref nu, .int (nI nl), .ref fm, .int (nI nf), .ref co, .int (nI nc), .ref en, .ref ke, .long lk])) := k12 _ _ a81 
      have a83 : f1 fa = some (.inr (2, [.int u1, .int u2, .int u3, .ref ev])) := k3 _ _ x_fa 
      have a84 : f8 fa = some (.inr (2, [.int u1, .int u2, .int u3, .ref ev])) := k12 _ _ a83 
      have a85 : f1 ev = some (.inl (cy 0, 8, .inl gv)) := k3 _ _ x_ev 
      have a86 : f8 ev = some (.inl (cy 0, 8, .inl gv)) := k12 _ _ a85 
      have a87 : f1 fi = some (.inr (5, [.ref al, .ref ra, .int (nI nn)])) := k3 _ _ x_fi 
      have a88 : f8 fi = some (.inr (5, [.ref al, .ref ra, .int (nI nn)])) := k12 _ _ a87 
      have a89 : f1 al = some (.inl (cy 3, 60, .inr (.inr (.inr (.inr ga))))) := k3 _ _ x_al 
      have a90 : f8 al = some (.inl (cy 3, 60, .inr (.inr (.inr (.inr ga))))) := k12 _ _ a89 
      have a91 : f1 ra = some (.inl (cy 3, 60, .inr (.inr (.inr (.inr gr))))) := k3 _ _ x_ra 
      have a92 : f8 ra = some (.inl (cy 3, 60, .inr (.inr (.inr (.inr gr))))) := k12 _ _ a91 
      have a93 : f1 nu = some (.inl (cy 0, 12, .inl gu)) := k3 _ _ x_nu 
      have a94 : f8 nu = some (.inl (cy 0, 12, .inl gu)) := k12 _ _ a93 
      have a95 : f1 fm = some (.inl (cy 4, 6, .inr (.inr (.inr (.inr gf))))) := k3 _ _ x_fm 
      have a96 : f8 fm = some (.inl (cy 4, 6, .inr (.inr (.inr (.inr gf))))) := k12 _ _ a95 
      have a97 : f1 co = some (.inl (cy 5, 60, .inr (.inr (.inr (.inr gc))))) := k3 _ _ x_co 
      have a98 : f8 co = some (.inl (cy 5, 60, .inr (.inr (.inr (.inr gc))))) := k12 _ _ a97 
      have a99 : f1 en = some (.inl (cy 6, 4, .inr (.inr (.inr (.inr ge))))) := k3 _ _ x_en 
      have a100 : f8 en = some (.inl (cy 6, 4, .inr (.inr (.inr (.inr ge))))) := k12 _ _ a99 
      have a101 : f1 ke = some (.inr (6, [.ref kn, .ref vq, .int (nI ks)])) := k3 _ _ x_ke 
      have a102 : f8 ke = some (.inr (6, [.ref kn, .ref vq, .int (nI ks)])) := k12 _ _ a101 
      have a103 : f1 kn = some (.inl (cy 0, 40, .inl kk)) := k3 _ _ x_kn 
      have a104 : f8 kn = some (.inl (cy 0, 40, .inl kk)) := k12 _ _ a103 
      have a105 : f1 vq = some (.inl (cy 0, 40, .inl kv)) := k3 _ _ x_vq 
      have a106 : f8 vq = some (.inl (cy 0, 40, .inl kv)) := k12 _ _ a105 
      have F107 : ∀ i9 : Nat, i9 < nn → f1 (fg i9) = some (.inr (4, [.int (kd i9), .ref (pt i9), .long (wg i9), .int (wd i9), .int (nI i9), .int (hs i9), .int (bf i9)])) := fun i9 h9 => k3 _ _ (hF i9 h9) 
      have F108 : ∀ i9 : Nat, i9 < nn → f8 (fg i9) = some (.inr (4, [.int (kd i9), .ref (pt i9), .long (wg i9), .int (wd i9), .int (nI i9), .int (hs i9), .int (bf i9)])) := fun i9 h9 => k12 _ _ (F107 i9 h9) 
      have F109 : ∀ i9 : Nat, i9 < nn → f1 (pt i9) = some (.inl (cy 1, (ln i9), .inr (.inl (pp i9)))) := fun i9 h9 => k3 _ _ (hP i9 h9) 
      have F110 : ∀ i9 : Nat, i9 < nn → f8 (pt i9) = some (.inl (cy 1, (ln i9), .inr (.inl (pp i9)))) := fun i9 h9 => k12 _ _ (F109 i9 h9) 
      have F111 : ∀ i9 : Nat, i9 < nf → f1 (fq i9) = some (.inr (3, [.ref (fk i9), .int (nI (fz i9))])) := fun i9 h9 => k3 _ _ (hFq i9 h9) 
      have F112 : ∀ i9 : Nat, i9 < nf → f8 (fq i9) = some (.inr (3, [.ref (fk i9), .int (nI (fz i9))])) := fun i9 h9 => k12 _ _ (F111 i9 h9) 
      have F113 : ∀ i9 : Nat, i9 < nf → f1 (fk i9) = some (.inl (cy 0, 4, .inl (fc i9))) := fun i9 h9 => k3 _ _ (hFk i9 h9) 
      have F114 : ∀ i9 : Nat, i9 < nf → f8 (fk i9) = some (.inl (cy 0, 4, .inl (fc i9))) := fun i9 h9 => k12 _ _ (F113 i9 h9) 
      have F115 : ∀ i9 : Nat, i9 < nc → f1 (cn i9) = some (.inr (0, [.int (ce i9), .int (cm i9)])) := fun i9 h9 => k3 _ _ (hCn i9 h9) 
      have F116 : ∀ i9 : Nat, i9 < nc → f8 (cn i9) = some (.inr (0, [.int (ce i9), .int (cm i9)])) := fun i9 h9 => k12 _ _ (F115 i9 h9) 
      have F117 : ∀ i9 : Nat, i9 < 4 → f8 (ea i9) = some (.inr (1, [.ref (ma i9), .int (nI (sq i9))])) := fun i9 h9 => k12 _ _ (F4 i9 h9) 
      have F118 : ∀ i9 : Nat, i9 < 4 → f8 (ma i9) = some (.inl (cy 0, 60, .inl (mb i9))) := fun i9 h9 => k12 _ _ (F6 i9 h9) 
      exact z_iret C hr rfl hz hS ⟨u1, u2, u3, gv, nl, gu, nn, ga, gr, fg, pt, kd, ln, pp, wg, wd, hs, bf, nf, gf, fq, fk, fz, fc, nc, gc, cn, ce, cm, sq, mb, ks, kk, kv, lk, rfl, rfl, rfl, rfl, rfl, rfl, rfl, rfl, rfl, rfl, rfl, rfl, rfl, rfl, rfl, rfl, rfl, rfl, rfl, rfl, rfl, rfl, (Or.inr ⟨rfl, rfl, rfl, fun jc9 h9 e9 je9 h8 e8 => by obtain rfl : jc = jc9 := (nI_eq (by omega) (by omega)).mp (hvc.symm.trans e9); obtain rfl : je = je9 := (nI_eq (by omega) (by omega)).mp (hxe.symm.trans e8); exact hno⟩), ⟨a82, a84, a86, a88, a90, a92, a94, a96, a98, a100, a102, a104, a106, F108, F110, F112, F114, F116, F117, F118, hn60, hl12, hf6, hc60, hs40, hga, hgr, hln, hk5, hk4, hfi, hpi, har, hgf, hfz, hgc, hG, hsq, hei, hmi, kne, hca, hcr, hlk⟩⟩ (Nat.le_of_ble_eq_true rfl) (Nat.le_of_ble_eq_true rfl) dX7_drop_27
  · refine z_callVq (As := [.int x]) C hz hS hA hl (k_X7_homeOf_B l D cy f o fa fi nu nl fm nf co nc en ke lk gc cn ce cm ge ea x jc x_o x_co x_en hCn hc60 hgc hG hvc hjc hnc) zyX7_homeOf mMX7_218 x_o zl7 rfl rfl (Nat.le_of_ble_eq_true rfl) ⟨Nat.le_of_ble_eq_true rfl, Nat.le_of_ble_eq_true rfl⟩ ⟨Nat.le_of_ble_eq_true rfl, Nat.le_of_ble_eq_true rfl⟩ dX7_drop_2 (fun r f119 H locs h120 hz hS => ?_)
    obtain ⟨rfl, k121⟩ := h120
    refine W.eq (g2 := F0 m 5 ls [.null]) rfl ?_
    refine lv_astore_nN (lv' := [(2, .null), (0, .ref o), (1, .int x)]) hx hb dX7_drop_5 rfl hl (by decide) rfl (fun ls hl => ?_)
    refine lv_aload_nN hx hb dX7_drop_6 rfl (lv_at hl 0 rfl) ?_
    refine lv_ifnonnullN hx hb dX7_drop_7 ?_
    refine lv_iconst (v := (-1)) hx hb dX7_drop_10 (by decide) ?_
    refine lv_goto (tgt := 19) hx hb dX7_drop_11 (by decide) ?_
    refine lv_istore_n (lv' := [(3, .int (-1)), (2, .null), (0, .ref o), (1, .int x)]) hx hb dX7_drop_19 rfl hl (by decide) rfl (fun ls hl => ?_)
    refine lv_iload_n hx hb dX7_drop_20 rfl (lv_at hl 0 rfl) ?_
    refine lv_iconst (v := (-1)) hx hb dX7_drop_21 (by decide) ?_
    refine lv_icmp_ne (tgt := 28) hx hb dX7_drop_22 (by decide) (fun c122 => ?_) (fun c122 => ?_)
    · exact absurd c122 (by decide)
    refine lv_bipush (v := (-2)) hx hb dX7_drop_25 (by decide) ?_
    have a123 : f119 o = some (.inr (7, [.ref fa, .ref fi, .ref nu, .int (nI nl), .ref fm, .int (nI nf), .ref co, .int (nI nc), .ref en, .ref ke, .long lk])) := k121 _ _ x_o 
    have a124 : f119 fa = some (.inr (2, [.int u1, .int u2, .int u3, .ref ev])) := k121 _ _ x_fa 
    have a125 : f119 ev = some (.inl (cy 0, 8, .inl gv)) := k121 _ _ x_ev 
    have a126 : f119 fi = some (.inr (5, [.ref al, .ref ra, .int (nI nn)])) := k121 _ _ x_fi 
    have a127 : f119 al = some (.inl (cy 3, 60, .inr (.inr (.inr (.inr ga))))) := k121 _ _ x_al 
    have a128 : f119 ra = some (.inl (cy 3, 60, .inr (.inr (.inr (.inr gr))))) := k121 _ _ x_ra 
    have a129 : f119 nu = some (.inl (cy 0, 12, .inl gu)) := k121 _ _ x_nu 
    have a130 : f119 fm = some (.inl (cy 4, 6, .inr (.inr (.inr (.inr gf))))) := k121 _ _ x_fm 
    have a131 : f119 co = some (.inl (cy 5, 60, .inr (.inr (.inr (.inr gc))))) := k121 _ _ x_co 
    have a132 : f119 en = some (.inl (cy 6, 4, .inr (.inr (.inr (.inr ge))))) := k121 _ _ x_en 
    have a133 : f119 ke = some (.inr (6, [.ref kn, .ref vq, .int (nI ks)])) := k121 _ _ x_ke 
    have a134 : f119 kn = some (.inl (cy 0, 40, .inl kk)) := k121 _ _ x_kn 
    have a135 : f119 vq = some (.inl (cy 0, 40, .inl kv)) := k121 _ _ x_vq 
    have F136 : ∀ i9 : Nat, i9 < nn → f119 (fg i9) = some (.inr (4, [.int (kd i9), .ref (pt i9), .long (wg i9), .int (wd i9), .int (nI i9), .int (hs i9), .int (bf i9)])) := fun i9 h9 => k121 _ _ (hF i9 h9) 
    have F137 : ∀ i9 : Nat, i9 < nn → f119 (pt i9) = some (.inl (cy 1, (ln i9), .inr (.inl (pp i9)))) := fun i9 h9 => k121 _ _ (hP i9 h9) 
    have F138 : ∀ i9 : Nat, i9 < nf → f119 (fq i9) = some (.inr (3, [.ref (fk i9), .int (nI (fz i9))])) := fun i9 h9 => k121 _ _ (hFq i9 h9) 
    have F139 : ∀ i9 : Nat, i9 < nf → f119 (fk i9) = some (.inl (cy 0, 4, .inl (fc i9))) := fun i9 h9 => k121 _ _ (hFk i9 h9) 
    have F140 : ∀ i9 : Nat, i9 < nc → f119 (cn i9) = some (.inr (0, [.int (ce i9), .int (cm i9)])) := fun i9 h9 => k121 _ _ (hCn i9 h9) 
    have F141 : ∀ i9 : Nat, i9 < 4 → f119 (ea i9) = some (.inr (1, [.ref (ma i9), .int (nI (sq i9))])) := fun i9 h9 => k121 _ _ (hEa i9 h9) 
    have F142 : ∀ i9 : Nat, i9 < 4 → f119 (ma i9) = some (.inl (cy 0, 60, .inl (mb i9))) := fun i9 h9 => k121 _ _ (hMa i9 h9) 
    exact z_iret C hr rfl hz hS ⟨u1, u2, u3, gv, nl, gu, nn, ga, gr, fg, pt, kd, ln, pp, wg, wd, hs, bf, nf, gf, fq, fk, fz, fc, nc, gc, cn, ce, cm, sq, mb, ks, kk, kv, lk, rfl, rfl, rfl, rfl, rfl, rfl, rfl, rfl, rfl, rfl, rfl, rfl, rfl, rfl, rfl, rfl, rfl, rfl, rfl, rfl, rfl, rfl, (Or.inr ⟨rfl, rfl, rfl, fun jc9 h9 e9 je9 h8 e8 => absurd (z_nE4e h8 ((congrArg ce ((nI_eq (by omega) (by omega)).mp (hvc.symm.trans e9))).trans e8)) hnc⟩), ⟨a123, a124, a125, a126, a127, a128, a129, a130, a131, a132, a133, a134, a135, F136, F137, F138, F139, F140, F141, F142, hn60, hl12, hf6, hc60, hs40, hga, hgr, hln, hk5, hk4, hfi, hpi, har, hgf, hfz, hgc, hG, hsq, hei, hmi, kne, hca, hcr, hlk⟩⟩ (Nat.le_of_ble_eq_true rfl) (Nat.le_of_ble_eq_true rfl) dX7_drop_27
  · refine z_callVq (As := [.int x]) C hz hS hA hl (k_X7_homeOf_C l D cy f o fa fi nu nl fm nf co nc en ke lk x x_o hc60 hvc) zyX7_homeOf mMX7_218 x_o zl7 rfl rfl (Nat.le_of_ble_eq_true rfl) ⟨Nat.le_of_ble_eq_true rfl, Nat.le_of_ble_eq_true rfl⟩ ⟨Nat.le_of_ble_eq_true rfl, Nat.le_of_ble_eq_true rfl⟩ dX7_drop_2 (fun r f143 H locs h144 hz hS => ?_)
    obtain ⟨rfl, k145⟩ := h144
    refine W.eq (g2 := F0 m 5 ls [.null]) rfl ?_
    refine lv_astore_nN (lv' := [(2, .null), (0, .ref o), (1, .int x)]) hx hb dX7_drop_5 rfl hl (by decide) rfl (fun ls hl => ?_)
    refine lv_aload_nN hx hb dX7_drop_6 rfl (lv_at hl 0 rfl) ?_
    refine lv_ifnonnullN hx hb dX7_drop_7 ?_
    refine lv_iconst (v := (-1)) hx hb dX7_drop_10 (by decide) ?_
    refine lv_goto (tgt := 19) hx hb dX7_drop_11 (by decide) ?_
    refine lv_istore_n (lv' := [(3, .int (-1)), (2, .null), (0, .ref o), (1, .int x)]) hx hb dX7_drop_19 rfl hl (by decide) rfl (fun ls hl => ?_)
    refine lv_iload_n hx hb dX7_drop_20 rfl (lv_at hl 0 rfl) ?_
    refine lv_iconst (v := (-1)) hx hb dX7_drop_21 (by decide) ?_
    refine lv_icmp_ne (tgt := 28) hx hb dX7_drop_22 (by decide) (fun c146 => ?_) (fun c146 => ?_)
    · exact absurd c146 (by decide)
    refine lv_bipush (v := (-2)) hx hb dX7_drop_25 (by decide) ?_
    have a147 : f143 o = some (.inr (7, [.ref fa, .ref fi, .ref nu, .int (nI nl), .ref fm, .int (nI nf), .ref co, .int (nI nc), .ref en, .ref ke, .long lk])) := k145 _ _ x_o 
    have a148 : f143 fa = some (.inr (2, [.int u1, .int u2, .int u3, .ref ev])) := k145 _ _ x_fa 
    have a149 : f143 ev = some (.inl (cy 0, 8, .inl gv)) := k145 _ _ x_ev 
    have a150 : f143 fi = some (.inr (5, [.ref al, .ref ra, .int (nI nn)])) := k145 _ _ x_fi 
    have a151 : f143 al = some (.inl (cy 3, 60, .inr (.inr (.inr (.inr ga))))) := k145 _ _ x_al 
    have a152 : f143 ra = some (.inl (cy 3, 60, .inr (.inr (.inr (.inr gr))))) := k145 _ _ x_ra 
    have a153 : f143 nu = some (.inl (cy 0, 12, .inl gu)) := k145 _ _ x_nu 
    have a154 : f143 fm = some (.inl (cy 4, 6, .inr (.inr (.inr (.inr gf))))) := k145 _ _ x_fm 
    have a155 : f143 co = some (.inl (cy 5, 60, .inr (.inr (.inr (.inr gc))))) := k145 _ _ x_co 
    have a156 : f143 en = some (.inl (cy 6, 4, .inr (.inr (.inr (.inr ge))))) := k145 _ _ x_en 
    have a157 : f143 ke = some (.inr (6, [.ref kn, .ref vq, .int (nI ks)])) := k145 _ _ x_ke 
    have a158 : f143 kn = some (.inl (cy 0, 40, .inl kk)) := k145 _ _ x_kn 
    have a159 : f143 vq = some (.inl (cy 0, 40, .inl kv)) := k145 _ _ x_vq 
    have F160 : ∀ i9 : Nat, i9 < nn → f143 (fg i9) = some (.inr (4, [.int (kd i9), .ref (pt i9), .long (wg i9), .int (wd i9), .int (nI i9), .int (hs i9), .int (bf i9)])) := fun i9 h9 => k145 _ _ (hF i9 h9) 
    have F161 : ∀ i9 : Nat, i9 < nn → f143 (pt i9) = some (.inl (cy 1, (ln i9), .inr (.inl (pp i9)))) := fun i9 h9 => k145 _ _ (hP i9 h9) 
    have F162 : ∀ i9 : Nat, i9 < nf → f143 (fq i9) = some (.inr (3, [.ref (fk i9), .int (nI (fz i9))])) := fun i9 h9 => k145 _ _ (hFq i9 h9) 
    have F163 : ∀ i9 : Nat, i9 < nf → f143 (fk i9) = some (.inl (cy 0, 4, .inl (fc i9))) := fun i9 h9 => k145 _ _ (hFk i9 h9) 
    have F164 : ∀ i9 : Nat, i9 < nc → f143 (cn i9) = some (.inr (0, [.int (ce i9), .int (cm i9)])) := fun i9 h9 => k145 _ _ (hCn i9 h9) 
    have F165 : ∀ i9 : Nat, i9 < 4 → f143 (ea i9) = some (.inr (1, [.ref (ma i9), .int (nI (sq i9))])) := fun i9 h9 => k145 _ _ (hEa i9 h9) 
    have F166 : ∀ i9 : Nat, i9 < 4 → f143 (ma i9) = some (.inl (cy 0, 60, .inl (mb i9))) := fun i9 h9 => k145 _ _ (hMa i9 h9) 
    exact z_iret C hr rfl hz hS ⟨u1, u2, u3, gv, nl, gu, nn, ga, gr, fg, pt, kd, ln, pp, wg, wd, hs, bf, nf, gf, fq, fk, fz, fc, nc, gc, cn, ce, cm, sq, mb, ks, kk, kv, lk, rfl, rfl, rfl, rfl, rfl, rfl, rfl, rfl, rfl, rfl, rfl, rfl, rfl, rfl, rfl, rfl, rfl, rfl, rfl, rfl, rfl, rfl, (Or.inr ⟨rfl, rfl, rfl, fun jc9 h9 e9 => absurd e9 (hvc jc9 h9)⟩), ⟨a147, a148, a149, a150, a151, a152, a153, a154, a155, a156, a157, a158, a159, F160, F161, F162, F163, F164, F165, F166, hn60, hl12, hf6, hc60, hs40, hga, hgr, hln, hk5, hk4, hfi, hpi, har, hgf, hfz, hgc, hG, hsq, hei, hmi, kne, hca, hcr, hlk⟩⟩ (Nat.le_of_ble_eq_true rfl) (Nat.le_of_ble_eq_true rfl) dX7_drop_27
