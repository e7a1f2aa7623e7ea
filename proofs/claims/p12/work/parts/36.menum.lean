abbrev rmX8_isEnumeration_A : Room := { frames := 0, cells := 0, slots := 0, locals := 0 }
set_option maxHeartbeats 4000000 in
set_option maxRecDepth 100000 in
theorem k_X8_isEnumeration_A (l : Launch) (D : va_G) (cy : Nat → ClassId) (f : zM) (x : Int32) (j : Nat)   (hxj : x = nI j) (hj : j < 4) : zCi l D cy yX8_isEnumeration cX8_isEnumeration 1 (Option.some Jvm.ClassFile.FieldType.boolean) rmX8_isEnumeration_A [.int x] f (fun (r : Int32) (f1 : zM) => r = 1 ∧ (∀ (b : Nat) (e : va_E), f b = some e → f1 b = some e)) := by
  intro sz
  refine z_body (by decide +kernel) (Nat.le_of_ble_eq_true rfl) ?_
  intro p e s m below meth c ls C hr hin hsz hz hl
  subst hsz
  have hx := C.1
  have hb := C.2.1
  have hA : ∀ q, s.heap.size ≤ q → zA f s.heap.size q := fun q h => Or.inr h
  have hS : va_S (zA f s.heap.size) s.heap s.heap [] := va_S.rf
  have hl : lv_has ls 1 [(0, .int x)] := hl
  refine lv_iload_n hx hb dX8_isEnumeration_0 rfl (lv_at hl 0 rfl) ?_
  refine lv_if_lt (tgt := 13) hx hb dX8_isEnumeration_1 (by decide) (fun c1 => ?_) (fun c1 => ?_)
  · exact absurd c1 (by rw [hxj]; exact nI_pos (by omega))
  refine lv_iload_n hx hb dX8_isEnumeration_4 rfl (lv_at hl 0 rfl) ?_
  refine lv_iconst (v := 4) hx hb dX8_isEnumeration_5 (by decide) ?_
  refine lv_icmp_ge (tgt := 13) hx hb dX8_isEnumeration_6 (by decide) (fun c2 => ?_) (fun c2 => ?_)
  · exact absurd ((nI_leI (a := 4) (b := j) (by omega) (by omega)).mp (by rw [← hxj]; exact c2)) (by omega)
  refine lv_iconst (v := 1) hx hb dX8_isEnumeration_9 (by decide) ?_
  refine lv_goto (tgt := 14) hx hb dX8_isEnumeration_10 (by decide) ?_
  exact z_iret C hr (by decide) hz hS ⟨rfl, (fun b e hb => hb)⟩ (Nat.le_of_ble_eq_true rfl) (Nat.le_of_ble_eq_true rfl) dX8_isEnumeration_14
abbrev rmX8_isEnumeration_B : Room := { frames := 0, cells := 0, slots := 0, locals := 0 }
set_option maxHeartbeats 4000000 in
set_option maxRecDepth 100000 in
theorem k_X8_isEnumeration_B (l : Launch) (D : va_G) (cy : Nat → ClassId) (f : zM) (x : Int32)   (hx4 : ¬ (0 ≤ x ∧ x < 4)) : zCi l D cy yX8_isEnumeration cX8_isEnumeration 1 (Option.some Jvm.ClassFile.FieldType.boolean) rmX8_isEnumeration_B [.int x] f (fun (r : Int32) (f1 : zM) => r = 0 ∧ (∀ (b : Nat) (e : va_E), f b = some e → f1 b = some e)) := by
  intro sz
  refine z_body (by decide +kernel) (Nat.le_of_ble_eq_true rfl) ?_
  intro p e s m below meth c ls C hr hin hsz hz hl
  subst hsz
  have hx := C.1
  have hb := C.2.1
  have hA : ∀ q, s.heap.size ≤ q → zA f s.heap.size q := fun q h => Or.inr h
  have hS : va_S (zA f s.heap.size) s.heap s.heap [] := va_S.rf
  have hl : lv_has ls 1 [(0, .int x)] := hl
  refine lv_iload_n hx hb dX8_isEnumeration_0 rfl (lv_at hl 0 rfl) ?_
  refine lv_if_lt (tgt := 13) hx hb dX8_isEnumeration_1 (by decide) (fun c1 => ?_) (fun c1 => ?_)
  · refine lv_iconst (v := 0) hx hb dX8_isEnumeration_13 (by decide) ?_
    exact z_iret C hr (by decide) hz hS ⟨rfl, (fun b e hb => hb)⟩ (Nat.le_of_ble_eq_true rfl) (Nat.le_of_ble_eq_true rfl) dX8_isEnumeration_14
  · refine lv_iload_n hx hb dX8_isEnumeration_4 rfl (lv_at hl 0 rfl) ?_
    refine lv_iconst (v := 4) hx hb dX8_isEnumeration_5 (by decide) ?_
    refine lv_icmp_ge (tgt := 13) hx hb dX8_isEnumeration_6 (by decide) (fun c2 => ?_) (fun c2 => ?_)
    rotate_left
    · exact absurd ⟨Int32.not_lt.mp c1, Int32.not_le.mp c2⟩ hx4
    refine lv_iconst (v := 0) hx hb dX8_isEnumeration_13 (by decide) ?_
    exact z_iret C hr (by decide) hz hS ⟨rfl, (fun b e hb => hb)⟩ (Nat.le_of_ble_eq_true rfl) (Nat.le_of_ble_eq_true rfl) dX8_isEnumeration_14
abbrev rmX8_isConstant_A : Room := { frames := 0, cells := 0, slots := 0, locals := 0 }
set_option maxHeartbeats 4000000 in
set_option maxRecDepth 100000 in
theorem k_X8_isConstant_A (l : Launch) (D : va_G) (cy : Nat → ClassId) (f : zM) (o : Nat) (wev : Nat) (wnb : Nat) (wki : Nat) (wmy : Nat) (wce : Nat) (wiw : Nat) (wli : Nat) (wha : Nat) (wwt : Nat) (wfy : Nat) (wfk : Nat) (wem : Nat) (wna : Nat) (wpl : Nat) (whs : Nat) (wk1 : Nat) (wk2 : Nat) (wk3 : Nat) (u1 : Int32) (u2 : Int32) (u3 : Int32) (nl : Nat) (nn : Nat) (nf : Nat) (nc : Nat) (lk : Int64) (ks : Nat) (x : Int32) (j : Nat) (p0 : f o = some (.inr (8, [.int u1, .int u2, .int u3, .ref wev, .int (nI nl), .ref wnb, .int (nI nn), .ref wki, .ref wmy, .ref wce, .ref wiw, .ref wli, .ref wha, .ref wwt, .int (nI nf), .ref wfy, .ref wfk, .int (nI nc), .ref wem, .ref wna, .ref wpl, .ref whs, .long lk, .int (nI ks), .ref wk1, .ref wk2, .ref wk3])))  (hc60 : nc ≤ 60) (hxj : x = nI j) (hj : j < nc) : zCi l D cy yX8_isConstant cX8_isConstant 2 (Option.some Jvm.ClassFile.FieldType.boolean) rmX8_isConstant_A [.ref o, .int x] f (fun (r : Int32) (f1 : zM) => r = 1 ∧ (∀ (b : Nat) (e : va_E), f b = some e → f1 b = some e)) := by
  intro sz
  refine z_body (by decide +kernel) (Nat.le_of_ble_eq_true rfl) ?_
  intro p e s m below meth c ls C hr hin hsz hz hl
  subst hsz
  have hx := C.1
  have hb := C.2.1
  have hA : ∀ q, s.heap.size ≤ q → zA f s.heap.size q := fun q h => Or.inr h
  have hS : va_S (zA f s.heap.size) s.heap s.heap [] := va_S.rf
  have hl : lv_has ls 2 [(0, .ref o), (1, .int x)] := hl
  refine lv_iload_n hx hb dX8_isConstant_0 rfl (lv_at hl 1 rfl) ?_
  refine lv_if_lt (tgt := 16) hx hb dX8_isConstant_1 (by decide) (fun c1 => ?_) (fun c1 => ?_)
  · exact absurd c1 (by rw [hxj]; exact nI_pos (by omega))
  refine lv_iload_n hx hb dX8_isConstant_4 rfl (lv_at hl 1 rfl) ?_
  refine lv_aload_n hx hb dX8_isConstant_5 rfl (lv_at hl 0 rfl) ?_
  refine z_get (v := .int (nI nc)) C hz p0 zl8 mFX8_193 (by decide) rfl dX8_isConstant_6 ?_
  refine lv_icmp_ge (tgt := 16) hx hb dX8_isConstant_9 (by decide) (fun c2 => ?_) (fun c2 => ?_)
  · exact absurd ((nI_leI (a := nc) (b := j) (by omega) (by omega)).mp (by rw [← hxj]; exact c2)) (by omega)
  refine lv_iconst (v := 1) hx hb dX8_isConstant_12 (by decide) ?_
  refine lv_goto (tgt := 17) hx hb dX8_isConstant_13 (by decide) ?_
  exact z_iret C hr (by decide) hz hS ⟨rfl, (fun b e hb => hb)⟩ (Nat.le_of_ble_eq_true rfl) (Nat.le_of_ble_eq_true rfl) dX8_isConstant_17
abbrev rmX8_isConstant_B : Room := { frames := 0, cells := 0, slots := 0, locals := 0 }
set_option maxHeartbeats 4000000 in
set_option maxRecDepth 100000 in
theorem k_X8_isConstant_B (l : Launch) (D : va_G) (cy : Nat → ClassId) (f : zM) (o : Nat) (wev : Nat) (wnb : Nat) (wki : Nat) (wmy : Nat) (wce : Nat) (wiw : Nat) (wli : Nat) (wha : Nat) (wwt : Nat) (wfy : Nat) (wfk : Nat) (wem : Nat) (wna : Nat) (wpl : Nat) (whs : Nat) (wk1 : Nat) (wk2 : Nat) (wk3 : Nat) (u1 : Int32) (u2 : Int32) (u3 : Int32) (nl : Nat) (nn : Nat) (nf : Nat) (nc : Nat) (lk : Int64) (ks : Nat) (x : Int32) (p0 : f o = some (.inr (8, [.int u1, .int u2, .int u3, .ref wev, .int (nI nl), .ref wnb, .int (nI nn), .ref wki, .ref wmy, .ref wce, .ref wiw, .ref wli, .ref wha, .ref wwt, .int (nI nf), .ref wfy, .ref wfk, .int (nI nc), .ref wem, .ref wna, .ref wpl, .ref whs, .long lk, .int (nI ks), .ref wk1, .ref wk2, .ref wk3])))  (hc60 : nc ≤ 60) (hxn : ∀ j, j < nc → x ≠ nI j) : zCi l D cy yX8_isConstant cX8_isConstant 2 (Option.some Jvm.ClassFile.FieldType.boolean) rmX8_isConstant_B [.ref o, .int x] f (fun (r : Int32) (f1 : zM) => r = 0 ∧ (∀ (b : Nat) (e : va_E), f b = some e → f1 b = some e)) := by
  intro sz
  refine z_body (by decide +kernel) (Nat.le_of_ble_eq_true rfl) ?_
  intro p e s m below meth c ls C hr hin hsz hz hl
  subst hsz
  have hx := C.1
  have hb := C.2.1
  have hA : ∀ q, s.heap.size ≤ q → zA f s.heap.size q := fun q h => Or.inr h
  have hS : va_S (zA f s.heap.size) s.heap s.heap [] := va_S.rf
  have hl : lv_has ls 2 [(0, .ref o), (1, .int x)] := hl
  refine lv_iload_n hx hb dX8_isConstant_0 rfl (lv_at hl 1 rfl) ?_
  refine lv_if_lt (tgt := 16) hx hb dX8_isConstant_1 (by decide) (fun c1 => ?_) (fun c1 => ?_)
  · refine lv_iconst (v := 0) hx hb dX8_isConstant_16 (by decide) ?_
    exact z_iret C hr (by decide) hz hS ⟨rfl, (fun b e hb => hb)⟩ (Nat.le_of_ble_eq_true rfl) (Nat.le_of_ble_eq_true rfl) dX8_isConstant_17
  · refine lv_iload_n hx hb dX8_isConstant_4 rfl (lv_at hl 1 rfl) ?_
    refine lv_aload_n hx hb dX8_isConstant_5 rfl (lv_at hl 0 rfl) ?_
    refine z_get (v := .int (nI nc)) C hz p0 zl8 mFX8_193 (by decide) rfl dX8_isConstant_6 ?_
    refine lv_icmp_ge (tgt := 16) hx hb dX8_isConstant_9 (by decide) (fun c2 => ?_) (fun c2 => ?_)
    rotate_left
    · exact absurd (z_ixl c1 c2 (by omega)) (fun ⟨j9, h9, e9⟩ => hxn j9 h9 e9)
    refine lv_iconst (v := 0) hx hb dX8_isConstant_16 (by decide) ?_
    exact z_iret C hr (by decide) hz hS ⟨rfl, (fun b e hb => hb)⟩ (Nat.le_of_ble_eq_true rfl) (Nat.le_of_ble_eq_true rfl) dX8_isConstant_17
abbrev rmX8_constantAt : Room := { frames := 0, cells := 0, slots := 0, locals := 0 }
set_option maxHeartbeats 4000000 in
set_option maxRecDepth 100000 in
theorem k_X8_constantAt (l : Launch) (D : va_G) (cy : Nat → ClassId) (f : zM) (o : Nat) (wev : Nat) (wnb : Nat) (wki : Nat) (wmy : Nat) (wce : Nat) (wiw : Nat) (wli : Nat) (wha : Nat) (wwt : Nat) (wfy : Nat) (wfk : Nat) (wem : Nat) (wna : Nat) (wpl : Nat) (whs : Nat) (wk1 : Nat) (wk2 : Nat) (wk3 : Nat) (u1 : Int32) (u2 : Int32) (u3 : Int32) (nl : Nat) (nn : Nat) (nf : Nat) (nc : Nat) (lk : Int64) (ks : Nat) (ge1 : Nat → Int32) (gp1 : Nat → Int32) (x : Int32) (y : Int32) (p0 : f o = some (.inr (8, [.int u1, .int u2, .int u3, .ref wev, .int (nI nl), .ref wnb, .int (nI nn), .ref wki, .ref wmy, .ref wce, .ref wiw, .ref wli, .ref wha, .ref wwt, .int (nI nf), .ref wfy, .ref wfk, .int (nI nc), .ref wem, .ref wna, .ref wpl, .ref whs, .long lk, .int (nI ks), .ref wk1, .ref wk2, .ref wk3]))) (p1 : f wem = some (.inl (cy 0, 60, .inl ge1))) (p2 : f wpl = some (.inl (cy 0, 60, .inl gp1)))  (hc60 : nc ≤ 60) : zCi l D cy yX8_constantAt cX8_constantAt 4 (Option.some Jvm.ClassFile.FieldType.int) rmX8_constantAt [.ref o, .int x, .int y] f (fun (r : Int32) (f1 : zM) => ((∃ c, c < nc ∧ r = nI c ∧ ge1 c = x ∧ gp1 c = y) ∨ (r = (-1) ∧ ∀ c, c < nc → ¬ (ge1 c = x ∧ gp1 c = y))) ∧ (∀ (b : Nat) (e : va_E), f b = some e → f1 b = some e)) := by
  intro sz
  refine z_body (by decide +kernel) (Nat.le_of_ble_eq_true rfl) ?_
  intro p e s m below meth c ls C hr hin hsz hz hl
  subst hsz
  have hx := C.1
  have hb := C.2.1
  have hA : ∀ q, s.heap.size ≤ q → zA f s.heap.size q := fun q h => Or.inr h
  have hS : va_S (zA f s.heap.size) s.heap s.heap [] := va_S.rf
  have hl : lv_has ls 4 [(0, .ref o), (1, .int x), (2, .int y)] := hl
  refine lv_iconst (v := 0) hx hb dX8_constantAt_0 (by decide) ?_
  refine lv_istore_n (lv' := [(3, .int 0), (0, .ref o), (1, .int x), (2, .int y)]) hx hb dX8_constantAt_1 rfl hl (by decide) rfl (fun ls hl => ?_)
  have lp1 : ∀ (n : Nat) (cc : Nat) (fL2 : zM) (H : Heap) (locs : List Loc) (ls : Array Slot), (nc - cc) < n → (cc ≤ nc) → (∀ d, d < cc → ¬ (ge1 d = x ∧ gp1 d = y)) → (∀ (b : Nat) (e : va_E), f b = some e → fL2 b = some e) → zH D (zA f s.heap.size) fL2 H → va_S (zA f s.heap.size) s.heap H locs → lv_has ls 4 [(0, .ref o), (1, .int x), (2, .int y), (3, .int (nI cc))] → W p l e rmX8_constantAt s m ([.ref o, .int x, .int y] : List Value).toArray below meth c H locs 0 0 (MQ below (va_Qi (fun (r : Int32) (f1 : zM) => ((∃ c, c < nc ∧ r = nI c ∧ ge1 c = x ∧ gp1 c = y) ∨ (r = (-1) ∧ ∀ c, c < nc → ¬ (ge1 c = x ∧ gp1 c = y))) ∧ (∀ (b : Nat) (e : va_E), f b = some e → f1 b = some e)) (zB D f s.heap.size) (zA f s.heap.size)) ([.ref o, .int x, .int y] : List Value).toArray s rmX8_constantAt.cells rmX8_constantAt.slots (zA f s.heap.size)) (F0 m 2 ls []) := by
    intro n
    induction n with
    | zero => intro cc fL2 H locs ls hmz; exact absurd hmz (Nat.not_lt_zero _)
    | succ n ih =>
      intro cc fL2 H locs ls hmz hcc hne  k3 hz hS hl
      refine lv_iload_n hx hb dX8_constantAt_2 rfl (lv_at hl 3 rfl) ?_
      refine lv_aload_n hx hb dX8_constantAt_3 rfl (lv_at hl 0 rfl) ?_
      have a4 : fL2 o = some (.inr (8, [.int u1, .int u2, .int u3, .ref wev, .int (nI nl), .ref wnb, .int (nI nn), .ref wki, .ref wmy, .ref wce, .ref wiw, .ref wli, .ref wha, .ref wwt, .int (nI nf), .ref wfy, .ref wfk, .int (nI nc), .ref wem, .ref wna, .ref wpl, .ref whs, .long lk, .int (nI ks), .ref wk1, .ref wk2, .ref wk3])) := k3 _ _ p0 
      refine z_get (v := .int (nI nc)) C hz a4 zl8 mFX8_193 (by decide) rfl dX8_constantAt_4 ?_
      refine lv_icmp_ge (tgt := 38) hx hb dX8_constantAt_7 (by decide) (fun c5 => ?_) (fun c5 => ?_)
      · replace c5 : (nc ≤ cc) := (nI_leI (a := nc) (b := cc) (by omega) (by omega)).mp c5
        refine lv_iconst (v := (-1)) hx hb dX8_constantAt_38 (by decide) ?_
        exact z_iret C hr rfl hz hS ⟨(Or.inr ⟨rfl, fun k hk => hne k (by omega)⟩), (by
              intro b e hb 
              have hb0 : fL2 b = some e := k3 b e hb 
              exact hb0)⟩ (Nat.le_of_ble_eq_true rfl) (Nat.le_of_ble_eq_true rfl) dX8_constantAt_39
      · replace c5 : ¬ (nc ≤ cc) := fun h => c5 ((nI_leI (a := nc) (b := cc) (by omega) (by omega)).mpr h)
        refine lv_aload_n hx hb dX8_constantAt_10 rfl (lv_at hl 0 rfl) ?_
        refine z_get (v := .ref wem) C hz a4 zl8 mFX8_49 (by decide) rfl dX8_constantAt_11 ?_
        refine lv_iload_n hx hb dX8_constantAt_14 rfl (lv_at hl 3 rfl) ?_
        have a6 : fL2 wem = some (.inl (cy 0, 60, .inl ge1)) := k3 _ _ p1 
        refine z_iald cc C hz a6 rfl (by omega) (by omega) dX8_constantAt_15 ?_
        refine lv_iload_n hx hb dX8_constantAt_16 rfl (lv_at hl 1 rfl) ?_
        refine lv_icmp_ne (tgt := 32) hx hb dX8_constantAt_17 (by decide) (fun c7 => ?_) (fun c7 => ?_)
        · refine lv_iinc (v := nI (cc + 1)) (lv' := [(3, .int (nI (cc + 1))), (0, .ref o), (1, .int x), (2, .int y)]) hx hb dX8_constantAt_32 hl (k := 3) rfl (nI_1 cc) (by decide) rfl (fun ls hl => ?_)
          refine lv_goto (tgt := 2) hx hb dX8_constantAt_35 (by decide) ?_
          exact ih (cc + 1) _ _ _ _ (by omega) (by omega) (fun d hd => (Nat.lt_succ_iff_lt_or_eq.mp hd).elim (hne d) (fun q => q ▸ (fun h => c7 h.1)))  (by
                intro b e hb 
                have hb0 : fL2 b = some e := k3 b e hb 
                exact hb0) hz hS (lv_sub hl [1, 2, 3, 0] rfl)
        · refine lv_aload_n hx hb dX8_constantAt_20 rfl (lv_at hl 0 rfl) ?_
          refine z_get (v := .ref wpl) C hz a4 zl8 mFX8_55 (by decide) rfl dX8_constantAt_21 ?_
          refine lv_iload_n hx hb dX8_constantAt_24 rfl (lv_at hl 3 rfl) ?_
          have a8 : fL2 wpl = some (.inl (cy 0, 60, .inl gp1)) := k3 _ _ p2 
          refine z_iald cc C hz a8 rfl (by omega) (by omega) dX8_constantAt_25 ?_
          refine lv_iload_n hx hb dX8_constantAt_26 rfl (lv_at hl 2 rfl) ?_
          refine lv_icmp_ne (tgt := 32) hx hb dX8_constantAt_27 (by decide) (fun c9 => ?_) (fun c9 => ?_)
          · refine lv_iinc (v := nI (cc + 1)) (lv' := [(3, .int (nI (cc + 1))), (0, .ref o), (1, .int x), (2, .int y)]) hx hb dX8_constantAt_32 hl (k := 3) rfl (nI_1 cc) (by decide) rfl (fun ls hl => ?_)
            refine lv_goto (tgt := 2) hx hb dX8_constantAt_35 (by decide) ?_
            exact ih (cc + 1) _ _ _ _ (by omega) (by omega) (fun d hd => (Nat.lt_succ_iff_lt_or_eq.mp hd).elim (hne d) (fun q => q ▸ (fun h => c9 h.2)))  (by
                  intro b e hb 
                  have hb0 : fL2 b = some e := k3 b e hb 
                  exact hb0) hz hS (lv_sub hl [1, 2, 3, 0] rfl)
          · refine lv_iload_n hx hb dX8_constantAt_30 rfl (lv_at hl 3 rfl) ?_
            exact z_iret C hr rfl hz hS ⟨(Or.inl ⟨cc, by omega, rfl, c7, c9⟩), (by
                  intro b e hb 
                  have hb0 : fL2 b = some e := k3 b e hb 
                  exact hb0)⟩ (Nat.le_of_ble_eq_true rfl) (Nat.le_of_ble_eq_true rfl) dX8_constantAt_31
  exact lp1 (nc - 0 + 1) 0 _ _ _ _ (Nat.lt_succ_self _) (by omega) (fun d hd => absurd hd (Nat.not_lt_zero d))  (fun b e hb => hb) hz hS (lv_sub hl [1, 2, 3, 0] rfl)
abbrev rmX8_constantOf : Room := { frames := 0, cells := 0, slots := 0, locals := 0 }
set_option maxHeartbeats 4000000 in
set_option maxRecDepth 100000 in
theorem k_X8_constantOf (l : Launch) (D : va_G) (cy : Nat → ClassId) (f : zM) (o : Nat) (wev : Nat) (wnb : Nat) (wki : Nat) (wmy : Nat) (wce : Nat) (wiw : Nat) (wli : Nat) (wha : Nat) (wwt : Nat) (wfy : Nat) (wfk : Nat) (wem : Nat) (wna : Nat) (wpl : Nat) (whs : Nat) (wk1 : Nat) (wk2 : Nat) (wk3 : Nat) (u1 : Int32) (u2 : Int32) (u3 : Int32) (nl : Nat) (nn : Nat) (nf : Nat) (nc : Nat) (lk : Int64) (ks : Nat) (ge1 : Nat → Int32) (gn1 : Nat → Int32) (gp1 : Nat → Int32) (x : Int32) (y : Int32) (p0 : f o = some (.inr (8, [.int u1, .int u2, .int u3, .ref wev, .int (nI nl), .ref wnb, .int (nI nn), .ref wki, .ref wmy, .ref wce, .ref wiw, .ref wli, .ref wha, .ref wwt, .int (nI nf), .ref wfy, .ref wfk, .int (nI nc), .ref wem, .ref wna, .ref wpl, .ref whs, .long lk, .int (nI ks), .ref wk1, .ref wk2, .ref wk3]))) (p1 : f wem = some (.inl (cy 0, 60, .inl ge1))) (p2 : f wna = some (.inl (cy 0, 60, .inl gn1))) (p3 : f wpl = some (.inl (cy 0, 60, .inl gp1)))  (hc60 : nc ≤ 60) : zCi l D cy yX8_constantOf cX8_constantOf 4 (Option.some Jvm.ClassFile.FieldType.int) rmX8_constantOf [.ref o, .int x, .int y] f (fun (r : Int32) (f1 : zM) => (∀ (b : Nat) (e : va_E), f b = some e → f1 b = some e)) := by
  intro sz
  refine z_body (by decide +kernel) (Nat.le_of_ble_eq_true rfl) ?_
  intro p e s m below meth c ls C hr hin hsz hz hl
  subst hsz
  have hx := C.1
  have hb := C.2.1
  have hA : ∀ q, s.heap.size ≤ q → zA f s.heap.size q := fun q h => Or.inr h
  have hS : va_S (zA f s.heap.size) s.heap s.heap [] := va_S.rf
  have hl : lv_has ls 4 [(0, .ref o), (1, .int x), (2, .int y)] := hl
  refine lv_iconst (v := 0) hx hb dX8_constantOf_0 (by decide) ?_
  refine lv_istore_n (lv' := [(3, .int 0), (0, .ref o), (1, .int x), (2, .int y)]) hx hb dX8_constantOf_1 rfl hl (by decide) rfl (fun ls hl => ?_)
  have lp1 : ∀ (n : Nat) (cc : Nat) (fL2 : zM) (H : Heap) (locs : List Loc) (ls : Array Slot), (nc - cc) < n → (cc ≤ nc) → (∀ (b : Nat) (e : va_E), f b = some e → fL2 b = some e) → zH D (zA f s.heap.size) fL2 H → va_S (zA f s.heap.size) s.heap H locs → lv_has ls 4 [(0, .ref o), (1, .int x), (2, .int y), (3, .int (nI cc))] → W p l e rmX8_constantOf s m ([.ref o, .int x, .int y] : List Value).toArray below meth c H locs 0 0 (MQ below (va_Qi (fun (r : Int32) (f1 : zM) => (∀ (b : Nat) (e : va_E), f b = some e → f1 b = some e)) (zB D f s.heap.size) (zA f s.heap.size)) ([.ref o, .int x, .int y] : List Value).toArray s rmX8_constantOf.cells rmX8_constantOf.slots (zA f s.heap.size)) (F0 m 2 ls []) := by
    intro n
    induction n with
    | zero => intro cc fL2 H locs ls hmz; exact absurd hmz (Nat.not_lt_zero _)
    | succ n ih =>
      intro cc fL2 H locs ls hmz hcc  k3 hz hS hl
      refine lv_iload_n hx hb dX8_constantOf_2 rfl (lv_at hl 3 rfl) ?_
      refine lv_aload_n hx hb dX8_constantOf_3 rfl (lv_at hl 0 rfl) ?_
      have a4 : fL2 o = some (.inr (8, [.int u1, .int u2, .int u3, .ref wev, .int (nI nl), .ref wnb, .int (nI nn), .ref wki, .ref wmy, .ref wce, .ref wiw, .ref wli, .ref wha, .ref wwt, .int (nI nf), .ref wfy, .ref wfk, .int (nI nc), .ref wem, .ref wna, .ref wpl, .ref whs, .long lk, .int (nI ks), .ref wk1, .ref wk2, .ref wk3])) := k3 _ _ p0 
      refine z_get (v := .int (nI nc)) C hz a4 zl8 mFX8_193 (by decide) rfl dX8_constantOf_4 ?_
      refine lv_icmp_ge (tgt := 48) hx hb dX8_constantOf_7 (by decide) (fun c5 => ?_) (fun c5 => ?_)
      · replace c5 : (nc ≤ cc) := (nI_leI (a := nc) (b := cc) (by omega) (by omega)).mp c5
        refine lv_iconst (v := (-1)) hx hb dX8_constantOf_48 (by decide) ?_
        exact z_iret C hr rfl hz hS (by
              intro b e hb 
              have hb0 : fL2 b = some e := k3 b e hb 
              exact hb0) (Nat.le_of_ble_eq_true rfl) (Nat.le_of_ble_eq_true rfl) dX8_constantOf_49
      · replace c5 : ¬ (nc ≤ cc) := fun h => c5 ((nI_leI (a := nc) (b := cc) (by omega) (by omega)).mpr h)
        refine lv_aload_n hx hb dX8_constantOf_10 rfl (lv_at hl 0 rfl) ?_
        refine z_get (v := .ref wem) C hz a4 zl8 mFX8_49 (by decide) rfl dX8_constantOf_11 ?_
        refine lv_iload_n hx hb dX8_constantOf_14 rfl (lv_at hl 3 rfl) ?_
        have a6 : fL2 wem = some (.inl (cy 0, 60, .inl ge1)) := k3 _ _ p1 
        refine z_iald cc C hz a6 rfl (by omega) (by omega) dX8_constantOf_15 ?_
        refine lv_iload_n hx hb dX8_constantOf_16 rfl (lv_at hl 1 rfl) ?_
        refine lv_icmp_ne (tgt := 42) hx hb dX8_constantOf_17 (by decide) (fun c7 => ?_) (fun c7 => ?_)
        · refine lv_iinc (v := nI (cc + 1)) (lv' := [(3, .int (nI (cc + 1))), (0, .ref o), (1, .int x), (2, .int y)]) hx hb dX8_constantOf_42 hl (k := 3) rfl (nI_1 cc) (by decide) rfl (fun ls hl => ?_)
          refine lv_goto (tgt := 2) hx hb dX8_constantOf_45 (by decide) ?_
          exact ih (cc + 1) _ _ _ _ (by omega) (by omega)  (by
                intro b e hb 
                have hb0 : fL2 b = some e := k3 b e hb 
                exact hb0) hz hS (lv_sub hl [1, 2, 3, 0] rfl)
        · refine lv_aload_n hx hb dX8_constantOf_20 rfl (lv_at hl 0 rfl) ?_
          refine z_get (v := .ref wna) C hz a4 zl8 mFX8_52 (by decide) rfl dX8_constantOf_21 ?_
          refine lv_iload_n hx hb dX8_constantOf_24 rfl (lv_at hl 3 rfl) ?_
          have a8 : fL2 wna = some (.inl (cy 0, 60, .inl gn1)) := k3 _ _ p2 
          refine z_iald cc C hz a8 rfl (by omega) (by omega) dX8_constantOf_25 ?_
          refine lv_iload_n hx hb dX8_constantOf_26 rfl (lv_at hl 2 rfl) ?_
          refine lv_icmp_ne (tgt := 42) hx hb dX8_constantOf_27 (by decide) (fun c9 => ?_) (fun c9 => ?_)
          · refine lv_iinc (v := nI (cc + 1)) (lv' := [(3, .int (nI (cc + 1))), (0, .ref o), (1, .int x), (2, .int y)]) hx hb dX8_constantOf_42 hl (k := 3) rfl (nI_1 cc) (by decide) rfl (fun ls hl => ?_)
            refine lv_goto (tgt := 2) hx hb dX8_constantOf_45 (by decide) ?_
            exact ih (cc + 1) _ _ _ _ (by omega) (by omega)  (by
                  intro b e hb 
                  have hb0 : fL2 b = some e := k3 b e hb 
                  exact hb0) hz hS (lv_sub hl [1, 2, 3, 0] rfl)
          · refine lv_aload_n hx hb dX8_constantOf_30 rfl (lv_at hl 0 rfl) ?_
            refine z_get (v := .ref wpl) C hz a4 zl8 mFX8_55 (by decide) rfl dX8_constantOf_31 ?_
            refine lv_iload_n hx hb dX8_constantOf_34 rfl (lv_at hl 3 rfl) ?_
            have a10 : fL2 wpl = some (.inl (cy 0, 60, .inl gp1)) := k3 _ _ p3 
            refine z_iald cc C hz a10 rfl (by omega) (by omega) dX8_constantOf_35 ?_
            refine lv_iconst (v := (-1)) hx hb dX8_constantOf_36 (by decide) ?_
            refine lv_icmp_eq (tgt := 42) hx hb dX8_constantOf_37 (by decide) (fun c11 => ?_) (fun c11 => ?_)
            · refine lv_iinc (v := nI (cc + 1)) (lv' := [(3, .int (nI (cc + 1))), (0, .ref o), (1, .int x), (2, .int y)]) hx hb dX8_constantOf_42 hl (k := 3) rfl (nI_1 cc) (by decide) rfl (fun ls hl => ?_)
              refine lv_goto (tgt := 2) hx hb dX8_constantOf_45 (by decide) ?_
              exact ih (cc + 1) _ _ _ _ (by omega) (by omega)  (by
                    intro b e hb 
                    have hb0 : fL2 b = some e := k3 b e hb 
                    exact hb0) hz hS (lv_sub hl [1, 2, 3, 0] rfl)
            · refine lv_iload_n hx hb dX8_constantOf_40 rfl (lv_at hl 3 rfl) ?_
              exact z_iret C hr rfl hz hS (by
                    intro b e hb 
                    have hb0 : fL2 b = some e := k3 b e hb 
                    exact hb0) (Nat.le_of_ble_eq_true rfl) (Nat.le_of_ble_eq_true rfl) dX8_constantOf_41
  exact lp1 (nc - 0 + 1) 0 _ _ _ _ (Nat.lt_succ_self _) (by omega)  (fun b e hb => hb) hz hS (lv_sub hl [1, 2, 3, 0] rfl)
abbrev rmX8_constant : Room := { frames := 1, cells := 0, slots := 0, locals := 23 }
set_option maxHeartbeats 4000000 in
set_option maxRecDepth 100000 in
theorem k_X8_constant (l : Launch) (D : va_G) (cy : Nat → ClassId) (f : zM) (o : Nat) (wev : Nat) (wnb : Nat) (wki : Nat) (wmy : Nat) (wce : Nat) (wiw : Nat) (wli : Nat) (wha : Nat) (wwt : Nat) (wfy : Nat) (wfk : Nat) (wem : Nat) (wna : Nat) (wpl : Nat) (whs : Nat) (wk1 : Nat) (wk2 : Nat) (wk3 : Nat) (u1 : Int32) (u2 : Int32) (u3 : Int32) (nl : Nat) (nn : Nat) (nf : Nat) (nc : Nat) (lk : Int64) (ks : Nat) (gv : Nat → Int32) (gu : Nat → Int32) (gk : Nat → Int32) (gm : Nat → Int32) (gc : Nat → Int64) (gw : Nat → Int32) (gl : Nat → Int32) (gh : Nat → Int32) (gt : Nat → Int64) (gy : Nat → Int32) (gq : Nat → Int32) (ge1 : Nat → Int32) (gn1 : Nat → Int32) (gp1 : Nat → Int32) (gs : Nat → Int32) (gx1 : Nat → Int32) (gx2 : Nat → Int32) (gx3 : Nat → Int32) (ln : Nat → Nat) (fz : Nat → Nat) (sq : Nat → Nat) (x : Int32) (y : Int32)    (hI : zIM cy f o wev wnb wki wmy wce wiw wli wha wwt wfy wfk wem wna wpl whs wk1 wk2 wk3 u1 u2 u3 nl nn nf nc lk ks gv gu gk gm gc gw gl gh gt gy gq ge1 gn1 gp1 gs gx1 gx2 gx3 ln fz sq) : zCi l D cy yX8_constant cX8_constant 3 (Option.some Jvm.ClassFile.FieldType.int) rmX8_constant [.ref o, .int x, .int y] f (fun (r : Int32) (f1 : zM) => ∃ (u11 : Int32) (u21 : Int32) (u31 : Int32) (nl1 : Nat) (nn1 : Nat) (nf1 : Nat) (nc1 : Nat) (lk1 : Int64) (ks1 : Nat) (gv1 : Nat → Int32) (gu1 : Nat → Int32) (gk1 : Nat → Int32) (gm1 : Nat → Int32) (gc1 : Nat → Int64) (gw1 : Nat → Int32) (gl1 : Nat → Int32) (gh1 : Nat → Int32) (gt1 : Nat → Int64) (gy1 : Nat → Int32) (gq1 : Nat → Int32) (ge11 : Nat → Int32) (gn11 : Nat → Int32) (gp11 : Nat → Int32) (gs1 : Nat → Int32) (gx11 : Nat → Int32) (gx21 : Nat → Int32) (gx31 : Nat → Int32) (ln1 : Nat → Nat) (fz1 : Nat → Nat) (sq1 : Nat → Nat), (u11 = u1) ∧ (u21 = u2) ∧ (u31 = u3) ∧ (gv1 = gv) ∧ (nl1 = nl) ∧ (gu1 = gu) ∧ (nn1 = nn) ∧ (gk1 = gk) ∧ (ln1 = ln) ∧ (gw1 = gw) ∧ (gh1 = gh) ∧ (gc1 = gc) ∧ (nf1 = nf) ∧ (fz1 = fz) ∧ (gq1 = gq) ∧ zIM cy f1 o wev wnb wki wmy wce wiw wli wha wwt wfy wfk wem wna wpl whs wk1 wk2 wk3 u11 u21 u31 nl1 nn1 nf1 nc1 lk1 ks1 gv1 gu1 gk1 gm1 gc1 gw1 gl1 gh1 gt1 gy1 gq1 ge11 gn11 gp11 gs1 gx11 gx21 gx31 ln1 fz1 sq1) := by
  intro sz
  refine z_body (by decide +kernel) (Nat.le_of_ble_eq_true rfl) ?_
  intro p e s m below meth c ls C hr hin hsz hz hl
  subst hsz
  have hx := C.1
  have hb := C.2.1
  have hA : ∀ q, s.heap.size ≤ q → zA f s.heap.size q := fun q h => Or.inr h
  have hS : va_S (zA f s.heap.size) s.heap s.heap [] := va_S.rf
  have hl : lv_has ls 3 [(0, .ref o), (1, .int x), (2, .int y)] := hl
  obtain ⟨x_o, x_wev, x_wnb, x_wki, x_wmy, x_wce, x_wiw, x_wli, x_wha, x_wwt, x_wfy, x_wfk, x_wem, x_wna, x_wpl, x_whs, x_wk1, x_wk2, x_wk3, hn60, hl12, hf6, hc60, hs40, hMP, hgy, hfz, hgs, hME, hlk, hgw, hfd, n_wki_wmy, n_wki_wiw, n_wki_wli, n_wki_wha, n_wki_wem, n_wki_wna, n_wki_wpl, n_wmy_wiw, n_wmy_wli, n_wmy_wha, n_wmy_wem, n_wmy_wna, n_wmy_wpl, n_wiw_wli, n_wiw_wha, n_wiw_wem, n_wiw_wna, n_wiw_wpl, n_wli_wha, n_wli_wem, n_wli_wna, n_wli_wpl, n_wha_wem, n_wha_wna, n_wha_wpl, n_wem_wna, n_wem_wpl, n_wna_wpl, n_wk1_wk2, n_wk1_wk3, n_wk2_wk3⟩ := id hI
  by_cases he : 0 ≤ x ∧ x < 4
  · obtain ⟨j, hj, hxj⟩ := z_ix4 he
    refine lv_iload_n hx hb dX8_constant_0 rfl (lv_at hl 1 rfl) ?_
    refine z_callSi (As := [.int x]) C hz hS hA hl (k_X8_isEnumeration_A l D cy f x j  hxj hj) zyX8_isEnumeration mMX8_196 rfl rfl (Nat.le_of_ble_eq_true rfl) ⟨Nat.le_of_ble_eq_true rfl, Nat.le_of_ble_eq_true rfl⟩ ⟨Nat.le_of_ble_eq_true rfl, Nat.le_of_ble_eq_true rfl⟩ dX8_constant_1 (fun r f1 H locs h2 hz hS => ?_)
    obtain ⟨rfl, k3⟩ := h2
    refine lv_if_eq (tgt := 28) hx hb dX8_constant_4 (by decide) (fun c4 => ?_) (fun c4 => ?_)
    · exact absurd c4 (by decide)
    refine lv_iload_n hx hb dX8_constant_7 rfl (lv_at hl 2 rfl) ?_
    refine lv_if_lt (tgt := 28) hx hb dX8_constant_8 (by decide) (fun c5 => ?_) (fun c5 => ?_)
    · refine lv_bipush (v := (-2)) hx hb dX8_constant_28 (by decide) ?_
      have a6 : f1 o = some (.inr (8, [.int u1, .int u2, .int u3, .ref wev, .int (nI nl), .ref wnb, .int (nI nn), .ref wki, .ref wmy, .ref wce, .ref wiw, .ref wli, .ref wha, .ref wwt, .int (nI nf), .ref wfy, .ref wfk, .int (nI nc), .ref wem, .ref wna, .ref wpl, .ref whs, .long lk, .int (nI ks), .ref wk1, .ref wk2, .ref wk3])) := k3 _ _ x_o 
      have a7 : f1 wev = some (.inl (cy 0, 8, .inl gv)) := k3 _ _ x_wev 
      have a8 : f1 wnb = some (.inl (cy 0, 12, .inl gu)) := k3 _ _ x_wnb 
      have a9 : f1 wki = some (.inl (cy 0, 60, .inl gk)) := k3 _ _ x_wki 
      have a10 : f1 wmy = some (.inl (cy 0, 60, .inl gm)) := k3 _ _ x_wmy 
      have a11 : f1 wce = some (.inl (cy 1, 960, .inr (.inl gc))) := k3 _ _ x_wce 
      have a12 : f1 wiw = some (.inl (cy 2, 60, .inl gw)) := k3 _ _ x_wiw 
      have a13 : f1 wli = some (.inl (cy 0, 60, .inl gl)) := k3 _ _ x_wli 
      have a14 : f1 wha = some (.inl (cy 0, 60, .inl gh)) := k3 _ _ x_wha 
      have a15 : f1 wwt = some (.inl (cy 1, 60, .inr (.inl gt))) := k3 _ _ x_wwt 
      have a16 : f1 wfy = some (.inl (cy 0, 6, .inl gy)) := k3 _ _ x_wfy 
      have a17 : f1 wfk = some (.inl (cy 0, 24, .inl gq)) := k3 _ _ x_wfk 
      have a18 : f1 wem = some (.inl (cy 0, 60, .inl ge1)) := k3 _ _ x_wem 
      have a19 : f1 wna = some (.inl (cy 0, 60, .inl gn1)) := k3 _ _ x_wna 
      have a20 : f1 wpl = some (.inl (cy 0, 60, .inl gp1)) := k3 _ _ x_wpl 
      have a21 : f1 whs = some (.inl (cy 0, 4, .inl gs)) := k3 _ _ x_whs 
      have a22 : f1 wk1 = some (.inl (cy 0, 40, .inl gx1)) := k3 _ _ x_wk1 
      have a23 : f1 wk2 = some (.inl (cy 0, 40, .inl gx2)) := k3 _ _ x_wk2 
      have a24 : f1 wk3 = some (.inl (cy 0, 40, .inl gx3)) := k3 _ _ x_wk3 
      exact z_iret C hr rfl hz hS ⟨u1, u2, u3, nl, nn, nf, nc, lk, ks, gv, gu, gk, gm, gc, gw, gl, gh, gt, gy, gq, ge1, gn1, gp1, gs, gx1, gx2, gx3, ln, fz, sq, rfl, rfl, rfl, rfl, rfl, rfl, rfl, rfl, rfl, rfl, rfl, rfl, rfl, rfl, rfl, ⟨a6, a7, a8, a9, a10, a11, a12, a13, a14, a15, a16, a17, a18, a19, a20, a21, a22, a23, a24, hn60, hl12, hf6, hc60, hs40, hMP, hgy, hfz, hgs, hME, hlk, hgw, hfd, n_wki_wmy, n_wki_wiw, n_wki_wli, n_wki_wha, n_wki_wem, n_wki_wna, n_wki_wpl, n_wmy_wiw, n_wmy_wli, n_wmy_wha, n_wmy_wem, n_wmy_wna, n_wmy_wpl, n_wiw_wli, n_wiw_wha, n_wiw_wem, n_wiw_wna, n_wiw_wpl, n_wli_wha, n_wli_wem, n_wli_wna, n_wli_wpl, n_wha_wem, n_wha_wna, n_wha_wpl, n_wem_wna, n_wem_wpl, n_wna_wpl, n_wk1_wk2, n_wk1_wk3, n_wk2_wk3⟩⟩ (Nat.le_of_ble_eq_true rfl) (Nat.le_of_ble_eq_true rfl) dX8_constant_30
    · refine lv_iload_n hx hb dX8_constant_11 rfl (lv_at hl 2 rfl) ?_
      refine lv_sipush (v := 10000) hx hb dX8_constant_12 (by decide) ?_
      refine lv_icmp_ge (tgt := 28) hx hb dX8_constant_15 (by decide) (fun c25 => ?_) (fun c25 => ?_)
      · refine lv_bipush (v := (-2)) hx hb dX8_constant_28 (by decide) ?_
        have a26 : f1 o = some (.inr (8, [.int u1, .int u2, .int u3, .ref wev, .int (nI nl), .ref wnb, .int (nI nn), .ref wki, .ref wmy, .ref wce, .ref wiw, .ref wli, .ref wha, .ref wwt, .int (nI nf), .ref wfy, .ref wfk, .int (nI nc), .ref wem, .ref wna, .ref wpl, .ref whs, .long lk, .int (nI ks), .ref wk1, .ref wk2, .ref wk3])) := k3 _ _ x_o 
        have a27 : f1 wev = some (.inl (cy 0, 8, .inl gv)) := k3 _ _ x_wev 
        have a28 : f1 wnb = some (.inl (cy 0, 12, .inl gu)) := k3 _ _ x_wnb 
        have a29 : f1 wki = some (.inl (cy 0, 60, .inl gk)) := k3 _ _ x_wki 
        have a30 : f1 wmy = some (.inl (cy 0, 60, .inl gm)) := k3 _ _ x_wmy 
        have a31 : f1 wce = some (.inl (cy 1, 960, .inr (.inl gc))) := k3 _ _ x_wce 
        have a32 : f1 wiw = some (.inl (cy 2, 60, .inl gw)) := k3 _ _ x_wiw 
        have a33 : f1 wli = some (.inl (cy 0, 60, .inl gl)) := k3 _ _ x_wli 
        have a34 : f1 wha = some (.inl (cy 0, 60, .inl gh)) := k3 _ _ x_wha 
        have a35 : f1 wwt = some (.inl (cy 1, 60, .inr (.inl gt))) := k3 _ _ x_wwt 
        have a36 : f1 wfy = some (.inl (cy 0, 6, .inl gy)) := k3 _ _ x_wfy 
        have a37 : f1 wfk = some (.inl (cy 0, 24, .inl gq)) := k3 _ _ x_wfk 
        have a38 : f1 wem = some (.inl (cy 0, 60, .inl ge1)) := k3 _ _ x_wem 
        have a39 : f1 wna = some (.inl (cy 0, 60, .inl gn1)) := k3 _ _ x_wna 
        have a40 : f1 wpl = some (.inl (cy 0, 60, .inl gp1)) := k3 _ _ x_wpl 
        have a41 : f1 whs = some (.inl (cy 0, 4, .inl gs)) := k3 _ _ x_whs 
        have a42 : f1 wk1 = some (.inl (cy 0, 40, .inl gx1)) := k3 _ _ x_wk1 
        have a43 : f1 wk2 = some (.inl (cy 0, 40, .inl gx2)) := k3 _ _ x_wk2 
        have a44 : f1 wk3 = some (.inl (cy 0, 40, .inl gx3)) := k3 _ _ x_wk3 
        exact z_iret C hr rfl hz hS ⟨u1, u2, u3, nl, nn, nf, nc, lk, ks, gv, gu, gk, gm, gc, gw, gl, gh, gt, gy, gq, ge1, gn1, gp1, gs, gx1, gx2, gx3, ln, fz, sq, rfl, rfl, rfl, rfl, rfl, rfl, rfl, rfl, rfl, rfl, rfl, rfl, rfl, rfl, rfl, ⟨a26, a27, a28, a29, a30, a31, a32, a33, a34, a35, a36, a37, a38, a39, a40, a41, a42, a43, a44, hn60, hl12, hf6, hc60, hs40, hMP, hgy, hfz, hgs, hME, hlk, hgw, hfd, n_wki_wmy, n_wki_wiw, n_wki_wli, n_wki_wha, n_wki_wem, n_wki_wna, n_wki_wpl, n_wmy_wiw, n_wmy_wli, n_wmy_wha, n_wmy_wem, n_wmy_wna, n_wmy_wpl, n_wiw_wli, n_wiw_wha, n_wiw_wem, n_wiw_wna, n_wiw_wpl, n_wli_wha, n_wli_wem, n_wli_wna, n_wli_wpl, n_wha_wem, n_wha_wna, n_wha_wpl, n_wem_wna, n_wem_wpl, n_wna_wpl, n_wk1_wk2, n_wk1_wk3, n_wk2_wk3⟩⟩ (Nat.le_of_ble_eq_true rfl) (Nat.le_of_ble_eq_true rfl) dX8_constant_30
      · refine lv_aload_n hx hb dX8_constant_18 rfl (lv_at hl 0 rfl) ?_
        refine lv_iload_n hx hb dX8_constant_19 rfl (lv_at hl 1 rfl) ?_
        refine lv_iload_n hx hb dX8_constant_20 rfl (lv_at hl 2 rfl) ?_
        have a45 : f1 o = some (.inr (8, [.int u1, .int u2, .int u3, .ref wev, .int (nI nl), .ref wnb, .int (nI nn), .ref wki, .ref wmy, .ref wce, .ref wiw, .ref wli, .ref wha, .ref wwt, .int (nI nf), .ref wfy, .ref wfk, .int (nI nc), .ref wem, .ref wna, .ref wpl, .ref whs, .long lk, .int (nI ks), .ref wk1, .ref wk2, .ref wk3])) := k3 _ _ x_o 
        have a46 : f1 wem = some (.inl (cy 0, 60, .inl ge1)) := k3 _ _ x_wem 
        have a47 : f1 wna = some (.inl (cy 0, 60, .inl gn1)) := k3 _ _ x_wna 
        have a48 : f1 wpl = some (.inl (cy 0, 60, .inl gp1)) := k3 _ _ x_wpl 
        refine z_callVi (As := [.int x, .int y]) C hz hS hA hl (k_X8_constantOf l D cy f1 o wev wnb wki wmy wce wiw wli wha wwt wfy wfk wem wna wpl whs wk1 wk2 wk3 u1 u2 u3 nl nn nf nc lk ks ge1 gn1 gp1 x y a45 a46 a47 a48 hc60) zyX8_constantOf mMX8_199 a45 zl8 rfl rfl (Nat.le_of_ble_eq_true rfl) ⟨Nat.le_of_ble_eq_true rfl, Nat.le_of_ble_eq_true rfl⟩ ⟨Nat.le_of_ble_eq_true rfl, Nat.le_of_ble_eq_true rfl⟩ dX8_constant_21 (fun r51 f49 H locs h50 hz hS => ?_)
        have k52 := h50
        refine lv_iconst (v := (-1)) hx hb dX8_constant_24 (by decide) ?_
        refine lv_icmp_eq (tgt := 31) hx hb dX8_constant_25 (by decide) (fun c53 => ?_) (fun c53 => ?_)
        · refine lv_aload_n hx hb dX8_constant_31 rfl (lv_at hl 0 rfl) ?_
          have a54 : f49 o = some (.inr (8, [.int u1, .int u2, .int u3, .ref wev, .int (nI nl), .ref wnb, .int (nI nn), .ref wki, .ref wmy, .ref wce, .ref wiw, .ref wli, .ref wha, .ref wwt, .int (nI nf), .ref wfy, .ref wfk, .int (nI nc), .ref wem, .ref wna, .ref wpl, .ref whs, .long lk, .int (nI ks), .ref wk1, .ref wk2, .ref wk3])) := k52 _ _ a45 
          refine z_get (v := .int (nI nc)) C hz a54 zl8 mFX8_193 (by decide) rfl dX8_constant_32 ?_
          refine lv_bipush (v := 60) hx hb dX8_constant_35 (by decide) ?_
          refine lv_icmp_ne (tgt := 43) hx hb dX8_constant_37 (by decide) (fun c55 => ?_) (fun c55 => ?_)
          · replace c55 : ¬ (nc = 60) := fun h => c55 ((nI_eq (a := nc) (b := 60) (by omega) (by omega)).mpr h)
            refine lv_aload_n hx hb dX8_constant_43 rfl (lv_at hl 0 rfl) ?_
            refine z_get (v := .ref wem) C hz a54 zl8 mFX8_49 (by decide) rfl dX8_constant_44 ?_
            refine lv_aload_n hx hb dX8_constant_47 rfl (lv_at hl 0 rfl) ?_
            refine z_get (v := .int (nI nc)) C hz a54 zl8 mFX8_193 (by decide) rfl dX8_constant_48 ?_
            refine lv_iload_n hx hb dX8_constant_51 rfl (lv_at hl 1 rfl) ?_
            have a56 : f49 wem = some (.inl (cy 0, 60, .inl ge1)) := k52 _ _ a46 
            refine z_iast nc C hz hS a56 rfl (by omega) (by omega) dX8_constant_52 (fun H locs f57 a58 k59 hz hS => ?_)
            refine lv_aload_n hx hb dX8_constant_53 rfl (lv_at hl 0 rfl) ?_
            have a60 : f57 o = some (.inr (8, [.int u1, .int u2, .int u3, .ref wev, .int (nI nl), .ref wnb, .int (nI nn), .ref wki, .ref wmy, .ref wce, .ref wiw, .ref wli, .ref wha, .ref wwt, .int (nI nf), .ref wfy, .ref wfk, .int (nI nc), .ref wem, .ref wna, .ref wpl, .ref whs, .long lk, .int (nI ks), .ref wk1, .ref wk2, .ref wk3])) := (k59 _ (z_ne a54 a56 rfl)).trans a54
            refine z_get (v := .ref wna) C hz a60 zl8 mFX8_52 (by decide) rfl dX8_constant_54 ?_
            refine lv_aload_n hx hb dX8_constant_57 rfl (lv_at hl 0 rfl) ?_
            refine z_get (v := .int (nI nc)) C hz a60 zl8 mFX8_193 (by decide) rfl dX8_constant_58 ?_
            refine lv_iload_n hx hb dX8_constant_61 rfl (lv_at hl 2 rfl) ?_
            have a61 : f49 wna = some (.inl (cy 0, 60, .inl gn1)) := k52 _ _ a47 
            have a62 : f57 wna = some (.inl (cy 0, 60, .inl gn1)) := (k59 _ (Ne.symm n_wem_wna)).trans a61
            refine z_iast nc C hz hS a62 rfl (by omega) (by omega) dX8_constant_62 (fun H locs f63 a64 k65 hz hS => ?_)
            refine lv_aload_n hx hb dX8_constant_63 rfl (lv_at hl 0 rfl) ?_
            have a66 : f63 o = some (.inr (8, [.int u1, .int u2, .int u3, .ref wev, .int (nI nl), .ref wnb, .int (nI nn), .ref wki, .ref wmy, .ref wce, .ref wiw, .ref wli, .ref wha, .ref wwt, .int (nI nf), .ref wfy, .ref wfk, .int (nI nc), .ref wem, .ref wna, .ref wpl, .ref whs, .long lk, .int (nI ks), .ref wk1, .ref wk2, .ref wk3])) := (k65 _ (z_ne a60 a62 rfl)).trans a60
            refine z_get (v := .ref wpl) C hz a66 zl8 mFX8_55 (by decide) rfl dX8_constant_64 ?_
            refine lv_aload_n hx hb dX8_constant_67 rfl (lv_at hl 0 rfl) ?_
            refine z_get (v := .int (nI nc)) C hz a66 zl8 mFX8_193 (by decide) rfl dX8_constant_68 ?_
            refine lv_aload_n hx hb dX8_constant_71 rfl (lv_at hl 0 rfl) ?_
            refine z_get (v := .ref whs) C hz a66 zl8 mFX8_58 (by decide) rfl dX8_constant_72 ?_
            refine lv_iload_n hx hb dX8_constant_75 rfl (lv_at hl 1 rfl) ?_
            have a67 : f1 whs = some (.inl (cy 0, 4, .inl gs)) := k3 _ _ x_whs 
            have a68 : f49 whs = some (.inl (cy 0, 4, .inl gs)) := k52 _ _ a67 
            have a69 : f57 whs = some (.inl (cy 0, 4, .inl gs)) := (k59 _ (z_ne a68 a56 rfl)).trans a68
            have a70 : f63 whs = some (.inl (cy 0, 4, .inl gs)) := (k65 _ (z_ne a69 a62 rfl)).trans a69
            refine z_iald j C hz a70 hxj hj (by omega) dX8_constant_76 ?_
            refine lv_topi (fun y71 e72 => ?_)
            obtain rfl : y71 = nI (sq j) := e72.trans (hgs j hj)
            have a73 : f49 wpl = some (.inl (cy 0, 60, .inl gp1)) := k52 _ _ a48 
            have a74 : f57 wpl = some (.inl (cy 0, 60, .inl gp1)) := (k59 _ (Ne.symm n_wem_wpl)).trans a73
            have a75 : f63 wpl = some (.inl (cy 0, 60, .inl gp1)) := (k65 _ (Ne.symm n_wna_wpl)).trans a74
            refine z_iast nc C hz hS a75 rfl (by omega) (by omega) dX8_constant_77 (fun H locs f76 a77 k78 hz hS => ?_)
            refine lv_aload_n hx hb dX8_constant_78 rfl (lv_at hl 0 rfl) ?_
            have a79 : f76 o = some (.inr (8, [.int u1, .int u2, .int u3, .ref wev, .int (nI nl), .ref wnb, .int (nI nn), .ref wki, .ref wmy, .ref wce, .ref wiw, .ref wli, .ref wha, .ref wwt, .int (nI nf), .ref wfy, .ref wfk, .int (nI nc), .ref wem, .ref wna, .ref wpl, .ref whs, .long lk, .int (nI ks), .ref wk1, .ref wk2, .ref wk3])) := (k78 _ (z_ne a66 a75 rfl)).trans a66
            refine z_get (v := .ref whs) C hz a79 zl8 mFX8_58 (by decide) rfl dX8_constant_79 ?_
            refine lv_iload_n hx hb dX8_constant_82 rfl (lv_at hl 1 rfl) ?_
            refine lv_dup2_11 hx hb dX8_constant_83 rfl rfl ?_
            have a80 : f76 whs = some (.inl (cy 0, 4, .inl gs)) := (k78 _ (z_ne a70 a75 rfl)).trans a70
            refine z_iald j C hz a80 hxj hj (by omega) dX8_constant_84 ?_
            refine lv_topi (fun y81 e82 => ?_)
            obtain rfl : y81 = nI (sq j) := e82.trans (hgs j hj)
            refine lv_iconst (v := 1) hx hb dX8_constant_85 (by decide) ?_
            refine lv_iadd hx hb dX8_constant_86 ?_
            refine lv_topi (fun y83 e84 => ?_)
            obtain rfl : y83 = nI (sq j + 1) := e84.trans (nI_1 (sq j))
            refine z_iast j C hz hS a80 hxj hj (by omega) dX8_constant_87 (fun H locs f85 a86 k87 hz hS => ?_)
            refine lv_aload_n hx hb dX8_constant_88 rfl (lv_at hl 0 rfl) ?_
            refine lv_dup hx hb dX8_constant_89 rfl ?_
            have a88 : f85 o = some (.inr (8, [.int u1, .int u2, .int u3, .ref wev, .int (nI nl), .ref wnb, .int (nI nn), .ref wki, .ref wmy, .ref wce, .ref wiw, .ref wli, .ref wha, .ref wwt, .int (nI nf), .ref wfy, .ref wfk, .int (nI nc), .ref wem, .ref wna, .ref wpl, .ref whs, .long lk, .int (nI ks), .ref wk1, .ref wk2, .ref wk3])) := (k87 _ (z_ne a79 a80 rfl)).trans a79
            refine z_get (v := .int (nI nc)) C hz a88 zl8 mFX8_193 (by decide) rfl dX8_constant_90 ?_
            refine lv_iconst (v := 1) hx hb dX8_constant_93 (by decide) ?_
            refine lv_iadd hx hb dX8_constant_94 ?_
            refine lv_topi (fun y89 e90 => ?_)
            obtain rfl : y89 = nI (nc + 1) := e90.trans (nI_1 nc)
            refine z_put (fs' := [.int u1, .int u2, .int u3, .ref wev, .int (nI nl), .ref wnb, .int (nI nn), .ref wki, .ref wmy, .ref wce, .ref wiw, .ref wli, .ref wha, .ref wwt, .int (nI nf), .ref wfy, .ref wfk, .int (nI (nc + 1)), .ref wem, .ref wna, .ref wpl, .ref whs, .long lk, .int (nI ks), .ref wk1, .ref wk2, .ref wk3]) C hz hS a88 zl8 mFX8_193 (by decide) rfl rfl rfl (Nat.le_of_ble_eq_true rfl) rfl dX8_constant_95 (fun H locs f91 a92 k93 hz hS => ?_)
            refine lv_aload_n hx hb dX8_constant_98 rfl (lv_at hl 0 rfl) ?_
            refine z_get (v := .int (nI (nc + 1))) C hz a92 zl8 mFX8_193 (by decide) rfl dX8_constant_99 ?_
            refine lv_iconst (v := 1) hx hb dX8_constant_102 (by decide) ?_
            refine lv_isub hx hb dX8_constant_103 ?_
            refine lv_topi (fun y94 e95 => ?_)
            obtain rfl : y94 = nI nc := e95.trans (pk_sub (a := nc + 1) (b := 1) (by omega))
            have a96 : f1 wev = some (.inl (cy 0, 8, .inl gv)) := k3 _ _ x_wev 
            have a97 : f49 wev = some (.inl (cy 0, 8, .inl gv)) := k52 _ _ a96 
            have a98 : f57 wev = some (.inl (cy 0, 8, .inl gv)) := (k59 _ (z_ne a97 a56 rfl)).trans a97
            have a99 : f63 wev = some (.inl (cy 0, 8, .inl gv)) := (k65 _ (z_ne a98 a62 rfl)).trans a98
            have a100 : f76 wev = some (.inl (cy 0, 8, .inl gv)) := (k78 _ (z_ne a99 a75 rfl)).trans a99
            have a101 : f85 wev = some (.inl (cy 0, 8, .inl gv)) := (k87 _ (z_ne a100 a80 rfl)).trans a100
            have a102 : f91 wev = some (.inl (cy 0, 8, .inl gv)) := (k93 _ (z_ne a101 a88 rfl)).trans a101
            have a103 : f1 wnb = some (.inl (cy 0, 12, .inl gu)) := k3 _ _ x_wnb 
            have a104 : f49 wnb = some (.inl (cy 0, 12, .inl gu)) := k52 _ _ a103 
            have a105 : f57 wnb = some (.inl (cy 0, 12, .inl gu)) := (k59 _ (z_ne a104 a56 rfl)).trans a104
            have a106 : f63 wnb = some (.inl (cy 0, 12, .inl gu)) := (k65 _ (z_ne a105 a62 rfl)).trans a105
            have a107 : f76 wnb = some (.inl (cy 0, 12, .inl gu)) := (k78 _ (z_ne a106 a75 rfl)).trans a106
            have a108 : f85 wnb = some (.inl (cy 0, 12, .inl gu)) := (k87 _ (z_ne a107 a80 rfl)).trans a107
            have a109 : f91 wnb = some (.inl (cy 0, 12, .inl gu)) := (k93 _ (z_ne a108 a88 rfl)).trans a108
            have a110 : f1 wki = some (.inl (cy 0, 60, .inl gk)) := k3 _ _ x_wki 
            have a111 : f49 wki = some (.inl (cy 0, 60, .inl gk)) := k52 _ _ a110 
            have a112 : f57 wki = some (.inl (cy 0, 60, .inl gk)) := (k59 _ n_wki_wem).trans a111
            have a113 : f63 wki = some (.inl (cy 0, 60, .inl gk)) := (k65 _ n_wki_wna).trans a112
            have a114 : f76 wki = some (.inl (cy 0, 60, .inl gk)) := (k78 _ n_wki_wpl).trans a113
            have a115 : f85 wki = some (.inl (cy 0, 60, .inl gk)) := (k87 _ (z_ne a114 a80 rfl)).trans a114
            have a116 : f91 wki = some (.inl (cy 0, 60, .inl gk)) := (k93 _ (z_ne a115 a88 rfl)).trans a115
            have a117 : f1 wmy = some (.inl (cy 0, 60, .inl gm)) := k3 _ _ x_wmy 
            have a118 : f49 wmy = some (.inl (cy 0, 60, .inl gm)) := k52 _ _ a117 
            have a119 : f57 wmy = some (.inl (cy 0, 60, .inl gm)) := (k59 _ n_wmy_wem).trans a118
            have a120 : f63 wmy = some (.inl (cy 0, 60, .inl gm)) := (k65 _ n_wmy_wna).trans a119
            have a121 : f76 wmy = some (.inl (cy 0, 60, .inl gm)) := (k78 _ n_wmy_wpl).trans a120
            have a122 : f85 wmy = some (.inl (cy 0, 60, .inl gm)) := (k87 _ (z_ne a121 a80 rfl)).trans a121
            have a123 : f91 wmy = some (.inl (cy 0, 60, .inl gm)) := (k93 _ (z_ne a122 a88 rfl)).trans a122
            have a124 : f1 wce = some (.inl (cy 1, 960, .inr (.inl gc))) := k3 _ _ x_wce 
            have a125 : f49 wce = some (.inl (cy 1, 960, .inr (.inl gc))) := k52 _ _ a124 
            have a126 : f57 wce = some (.inl (cy 1, 960, .inr (.inl gc))) := (k59 _ (z_ne a125 a56 rfl)).trans a125
            have a127 : f63 wce = some (.inl (cy 1, 960, .inr (.inl gc))) := (k65 _ (z_ne a126 a62 rfl)).trans a126
            have a128 : f76 wce = some (.inl (cy 1, 960, .inr (.inl gc))) := (k78 _ (z_ne a127 a75 rfl)).trans a127
            have a129 : f85 wce = some (.inl (cy 1, 960, .inr (.inl gc))) := (k87 _ (z_ne a128 a80 rfl)).trans a128
            have a130 : f91 wce = some (.inl (cy 1, 960, .inr (.inl gc))) := (k93 _ (z_ne a129 a88 rfl)).trans a129
            have a131 : f1 wiw = some (.inl (cy 2, 60, .inl gw)) := k3 _ _ x_wiw 
            have a132 : f49 wiw = some (.inl (cy 2, 60, .inl gw)) := k52 _ _ a131 
            have a133 : f57 wiw = some (.inl (cy 2, 60, .inl gw)) := (k59 _ n_wiw_wem).trans a132
            have a134 : f63 wiw = some (.inl (cy 2, 60, .inl gw)) := (k65 _ n_wiw_wna).trans a133
            have a135 : f76 wiw = some (.inl (cy 2, 60, .inl gw)) := (k78 _ n_wiw_wpl).trans a134
            have a136 : f85 wiw = some (.inl (cy 2, 60, .inl gw)) := (k87 _ (z_ne a135 a80 rfl)).trans a135
            have a137 : f91 wiw = some (.inl (cy 2, 60, .inl gw)) := (k93 _ (z_ne a136 a88 rfl)).trans a136
            have a138 : f1 wli = some (.inl (cy 0, 60, .inl gl)) := k3 _ _ x_wli 
            have a139 : f49 wli = some (.inl (cy 0, 60, .inl gl)) := k52 _ _ a138 
            have a140 : f57 wli = some (.inl (cy 0, 60, .inl gl)) := (k59 _ n_wli_wem).trans a139
            have a141 : f63 wli = some (.inl (cy 0, 60, .inl gl)) := (k65 _ n_wli_wna).trans a140
            have a142 : f76 wli = some (.inl (cy 0, 60, .inl gl)) := (k78 _ n_wli_wpl).trans a141
            have a143 : f85 wli = some (.inl (cy 0, 60, .inl gl)) := (k87 _ (z_ne a142 a80 rfl)).trans a142
            have a144 : f91 wli = some (.inl (cy 0, 60, .inl gl)) := (k93 _ (z_ne a143 a88 rfl)).trans a143
            have a145 : f1 wha = some (.inl (cy 0, 60, .inl gh)) := k3 _ _ x_wha 
            have a146 : f49 wha = some (.inl (cy 0, 60, .inl gh)) := k52 _ _ a145 
            have a147 : f57 wha = some (.inl (cy 0, 60, .inl gh)) := (k59 _ n_wha_wem).trans a146
            have a148 : f63 wha = some (.inl (cy 0, 60, .inl gh)) := (k65 _ n_wha_wna).trans a147
            have a149 : f76 wha = some (.inl (cy 0, 60, .inl gh)) := (k78 _ n_wha_wpl).trans a148
            have a150 : f85 wha = some (.inl (cy 0, 60, .inl gh)) := (k87 _ (z_ne a149 a80 rfl)).trans a149
            have a151 : f91 wha = some (.inl (cy 0, 60, .inl gh)) := (k93 _ (z_ne a150 a88 rfl)).trans a150
            have a152 : f1 wwt = some (.inl (cy 1, 60, .inr (.inl gt))) := k3 _ _ x_wwt 
            have a153 : f49 wwt = some (.inl (cy 1, 60, .inr (.inl gt))) := k52 _ _ a152 
            have a154 : f57 wwt = some (.inl (cy 1, 60, .inr (.inl gt))) := (k59 _ (z_ne a153 a56 rfl)).trans a153
            have a155 : f63 wwt = some (.inl (cy 1, 60, .inr (.inl gt))) := (k65 _ (z_ne a154 a62 rfl)).trans a154
            have a156 : f76 wwt = some (.inl (cy 1, 60, .inr (.inl gt))) := (k78 _ (z_ne a155 a75 rfl)).trans a155
            have a157 : f85 wwt = some (.inl (cy 1, 60, .inr (.inl gt))) := (k87 _ (z_ne a156 a80 rfl)).trans a156
            have a158 : f91 wwt = some (.inl (cy 1, 60, .inr (.inl gt))) := (k93 _ (z_ne a157 a88 rfl)).trans a157
            have a159 : f1 wfy = some (.inl (cy 0, 6, .inl gy)) := k3 _ _ x_wfy 
            have a160 : f49 wfy = some (.inl (cy 0, 6, .inl gy)) := k52 _ _ a159 
            have a161 : f57 wfy = some (.inl (cy 0, 6, .inl gy)) := (k59 _ (z_ne a160 a56 rfl)).trans a160
            have a162 : f63 wfy = some (.inl (cy 0, 6, .inl gy)) := (k65 _ (z_ne a161 a62 rfl)).trans a161
            have a163 : f76 wfy = some (.inl (cy 0, 6, .inl gy)) := (k78 _ (z_ne a162 a75 rfl)).trans a162
            have a164 : f85 wfy = some (.inl (cy 0, 6, .inl gy)) := (k87 _ (z_ne a163 a80 rfl)).trans a163
            have a165 : f91 wfy = some (.inl (cy 0, 6, .inl gy)) := (k93 _ (z_ne a164 a88 rfl)).trans a164
            have a166 : f1 wfk = some (.inl (cy 0, 24, .inl gq)) := k3 _ _ x_wfk 
            have a167 : f49 wfk = some (.inl (cy 0, 24, .inl gq)) := k52 _ _ a166 
            have a168 : f57 wfk = some (.inl (cy 0, 24, .inl gq)) := (k59 _ (z_ne a167 a56 rfl)).trans a167
            have a169 : f63 wfk = some (.inl (cy 0, 24, .inl gq)) := (k65 _ (z_ne a168 a62 rfl)).trans a168
            have a170 : f76 wfk = some (.inl (cy 0, 24, .inl gq)) := (k78 _ (z_ne a169 a75 rfl)).trans a169
            have a171 : f85 wfk = some (.inl (cy 0, 24, .inl gq)) := (k87 _ (z_ne a170 a80 rfl)).trans a170
            have a172 : f91 wfk = some (.inl (cy 0, 24, .inl gq)) := (k93 _ (z_ne a171 a88 rfl)).trans a171
            have a173 : f63 wem = some (.inl (cy 0, 60, .inl (upd ge1 nc x))) := (k65 _ n_wem_wna).trans a58
            have a174 : f76 wem = some (.inl (cy 0, 60, .inl (upd ge1 nc x))) := (k78 _ n_wem_wpl).trans a173
            have a175 : f85 wem = some (.inl (cy 0, 60, .inl (upd ge1 nc x))) := (k87 _ (z_ne a174 a80 rfl)).trans a174
            have a176 : f91 wem = some (.inl (cy 0, 60, .inl (upd ge1 nc x))) := (k93 _ (z_ne a175 a88 rfl)).trans a175
            have a177 : f76 wna = some (.inl (cy 0, 60, .inl (upd gn1 nc y))) := (k78 _ n_wna_wpl).trans a64
            have a178 : f85 wna = some (.inl (cy 0, 60, .inl (upd gn1 nc y))) := (k87 _ (z_ne a177 a80 rfl)).trans a177
            have a179 : f91 wna = some (.inl (cy 0, 60, .inl (upd gn1 nc y))) := (k93 _ (z_ne a178 a88 rfl)).trans a178
            have a180 : f85 wpl = some (.inl (cy 0, 60, .inl (upd gp1 nc (nI (sq j))))) := (k87 _ (z_ne a77 a80 rfl)).trans a77
            have a181 : f91 wpl = some (.inl (cy 0, 60, .inl (upd gp1 nc (nI (sq j))))) := (k93 _ (z_ne a180 a88 rfl)).trans a180
            have a182 : f91 whs = some (.inl (cy 0, 4, .inl (upd gs j (nI (sq j + 1))))) := (k93 _ (z_ne a86 a88 rfl)).trans a86
            have a183 : f1 wk1 = some (.inl (cy 0, 40, .inl gx1)) := k3 _ _ x_wk1 
            have a184 : f49 wk1 = some (.inl (cy 0, 40, .inl gx1)) := k52 _ _ a183 
            have a185 : f57 wk1 = some (.inl (cy 0, 40, .inl gx1)) := (k59 _ (z_ne a184 a56 rfl)).trans a184
            have a186 : f63 wk1 = some (.inl (cy 0, 40, .inl gx1)) := (k65 _ (z_ne a185 a62 rfl)).trans a185
            have a187 : f76 wk1 = some (.inl (cy 0, 40, .inl gx1)) := (k78 _ (z_ne a186 a75 rfl)).trans a186
            have a188 : f85 wk1 = some (.inl (cy 0, 40, .inl gx1)) := (k87 _ (z_ne a187 a80 rfl)).trans a187
            have a189 : f91 wk1 = some (.inl (cy 0, 40, .inl gx1)) := (k93 _ (z_ne a188 a88 rfl)).trans a188
            have a190 : f1 wk2 = some (.inl (cy 0, 40, .inl gx2)) := k3 _ _ x_wk2 
            have a191 : f49 wk2 = some (.inl (cy 0, 40, .inl gx2)) := k52 _ _ a190 
            have a192 : f57 wk2 = some (.inl (cy 0, 40, .inl gx2)) := (k59 _ (z_ne a191 a56 rfl)).trans a191
            have a193 : f63 wk2 = some (.inl (cy 0, 40, .inl gx2)) := (k65 _ (z_ne a192 a62 rfl)).trans a192
            have a194 : f76 wk2 = some (.inl (cy 0, 40, .inl gx2)) := (k78 _ (z_ne a193 a75 rfl)).trans a193
            have a195 : f85 wk2 = some (.inl (cy 0, 40, .inl gx2)) := (k87 _ (z_ne a194 a80 rfl)).trans a194
            have a196 : f91 wk2 = some (.inl (cy 0, 40, .inl gx2)) := (k93 _ (z_ne a195 a88 rfl)).trans a195
            have a197 : f1 wk3 = some (.inl (cy 0, 40, .inl gx3)) := k3 _ _ x_wk3 
            have a198 : f49 wk3 = some (.inl (cy 0, 40, .inl gx3)) := k52 _ _ a197 
            have a199 : f57 wk3 = some (.inl (cy 0, 40, .inl gx3)) := (k59 _ (z_ne a198 a56 rfl)).trans a198
            have a200 : f63 wk3 = some (.inl (cy 0, 40, .inl gx3)) := (k65 _ (z_ne a199 a62 rfl)).trans a199
            have a201 : f76 wk3 = some (.inl (cy 0, 40, .inl gx3)) := (k78 _ (z_ne a200 a75 rfl)).trans a200
            have a202 : f85 wk3 = some (.inl (cy 0, 40, .inl gx3)) := (k87 _ (z_ne a201 a80 rfl)).trans a201
            have a203 : f91 wk3 = some (.inl (cy 0, 40, .inl gx3)) := (k93 _ (z_ne a202 a88 rfl)).trans a202
            exact z_iret C hr rfl hz hS ⟨u1, u2, u3, nl, nn, nf, (nc + 1), lk, ks, gv, gu, gk, gm, gc, gw, gl, gh, gt, gy, gq, (upd ge1 nc x), (upd gn1 nc y), (upd gp1 nc (nI (sq j))), (upd gs j (nI (sq j + 1))), gx1, gx2, gx3, ln, fz, (va_up sq j (sq j + 1)), rfl, rfl, rfl, rfl, rfl, rfl, rfl, rfl, rfl, rfl, rfl, rfl, rfl, rfl, rfl, ⟨a92, a102, a109, a116, a123, a130, a137, a144, a151, a158, a165, a172, a176, a179, a181, a182, a189, a196, a203, hn60, hl12, hf6, (by omega), hs40, hMP, hgy, hfz, (z_gs1 hgs), (zME_new hME (by omega) hj hxj), hlk, hgw, hfd, n_wki_wmy, n_wki_wiw, n_wki_wli, n_wki_wha, n_wki_wem, n_wki_wna, n_wki_wpl, n_wmy_wiw, n_wmy_wli, n_wmy_wha, n_wmy_wem, n_wmy_wna, n_wmy_wpl, n_wiw_wli, n_wiw_wha, n_wiw_wem, n_wiw_wna, n_wiw_wpl, n_wli_wha, n_wli_wem, n_wli_wna, n_wli_wpl, n_wha_wem, n_wha_wna, n_wha_wpl, n_wem_wna, n_wem_wpl, n_wna_wpl, n_wk1_wk2, n_wk1_wk3, n_wk2_wk3⟩⟩ (Nat.le_of_ble_eq_true rfl) (Nat.le_of_ble_eq_true rfl) dX8_constant_104
          · replace c55 : (nc = 60) := (nI_eq (a := nc) (b := 60) (by omega) (by omega)).mp c55
            refine lv_bipush (v := (-3)) hx hb dX8_constant_40 (by decide) ?_
            have a204 : f1 wev = some (.inl (cy 0, 8, .inl gv)) := k3 _ _ x_wev 
            have a205 : f49 wev = some (.inl (cy 0, 8, .inl gv)) := k52 _ _ a204 
            have a206 : f1 wnb = some (.inl (cy 0, 12, .inl gu)) := k3 _ _ x_wnb 
            have a207 : f49 wnb = some (.inl (cy 0, 12, .inl gu)) := k52 _ _ a206 
            have a208 : f1 wki = some (.inl (cy 0, 60, .inl gk)) := k3 _ _ x_wki 
            have a209 : f49 wki = some (.inl (cy 0, 60, .inl gk)) := k52 _ _ a208 
            have a210 : f1 wmy = some (.inl (cy 0, 60, .inl gm)) := k3 _ _ x_wmy 
            have a211 : f49 wmy = some (.inl (cy 0, 60, .inl gm)) := k52 _ _ a210 
            have a212 : f1 wce = some (.inl (cy 1, 960, .inr (.inl gc))) := k3 _ _ x_wce 
            have a213 : f49 wce = some (.inl (cy 1, 960, .inr (.inl gc))) := k52 _ _ a212 
            have a214 : f1 wiw = some (.inl (cy 2, 60, .inl gw)) := k3 _ _ x_wiw 
            have a215 : f49 wiw = some (.inl (cy 2, 60, .inl gw)) := k52 _ _ a214 
            have a216 : f1 wli = some (.inl (cy 0, 60, .inl gl)) := k3 _ _ x_wli 
            have a217 : f49 wli = some (.inl (cy 0, 60, .inl gl)) := k52 _ _ a216 
            have a218 : f1 wha = some (.inl (cy 0, 60, .inl gh)) := k3 _ _ x_wha 
            have a219 : f49 wha = some (.inl (cy 0, 60, .inl gh)) := k52 _ _ a218 
            have a220 : f1 wwt = some (.inl (cy 1, 60, .inr (.inl gt))) := k3 _ _ x_wwt 
            have a221 : f49 wwt = some (.inl (cy 1, 60, .inr (.inl gt))) := k52 _ _ a220 
            have a222 : f1 wfy = some (.inl (cy 0, 6, .inl gy)) := k3 _ _ x_wfy 
            have a223 : f49 wfy = some (.inl (cy 0, 6, .inl gy)) := k52 _ _ a222 
            have a224 : f1 wfk = some (.inl (cy 0, 24, .inl gq)) := k3 _ _ x_wfk 
            have a225 : f49 wfk = some (.inl (cy 0, 24, .inl gq)) := k52 _ _ a224 
            have a226 : f49 wem = some (.inl (cy 0, 60, .inl ge1)) := k52 _ _ a46 
            have a227 : f49 wna = some (.inl (cy 0, 60, .inl gn1)) := k52 _ _ a47 
            have a228 : f49 wpl = some (.inl (cy 0, 60, .inl gp1)) := k52 _ _ a48 
            have a229 : f1 whs = some (.inl (cy 0, 4, .inl gs)) := k3 _ _ x_whs 
            have a230 : f49 whs = some (.inl (cy 0, 4, .inl gs)) := k52 _ _ a229 
            have a231 : f1 wk1 = some (.inl (cy 0, 40, .inl gx1)) := k3 _ _ x_wk1 
            have a232 : f49 wk1 = some (.inl (cy 0, 40, .inl gx1)) := k52 _ _ a231 
            have a233 : f1 wk2 = some (.inl (cy 0, 40, .inl gx2)) := k3 _ _ x_wk2 
            have a234 : f49 wk2 = some (.inl (cy 0, 40, .inl gx2)) := k52 _ _ a233 
            have a235 : f1 wk3 = some (.inl (cy 0, 40, .inl gx3)) := k3 _ _ x_wk3 
            have a236 : f49 wk3 = some (.inl (cy 0, 40, .inl gx3)) := k52 _ _ a235 
            exact z_iret C hr rfl hz hS ⟨u1, u2, u3, nl, nn, nf, nc, lk, ks, gv, gu, gk, gm, gc, gw, gl, gh, gt, gy, gq, ge1, gn1, gp1, gs, gx1, gx2, gx3, ln, fz, sq, rfl, rfl, rfl, rfl, rfl, rfl, rfl, rfl, rfl, rfl, rfl, rfl, rfl, rfl, rfl, ⟨a54, a205, a207, a209, a211, a213, a215, a217, a219, a221, a223, a225, a226, a227, a228, a230, a232, a234, a236, hn60, hl12, hf6, hc60, hs40, hMP, hgy, hfz, hgs, hME, hlk, hgw, hfd, n_wki_wmy, n_wki_wiw, n_wki_wli, n_wki_wha, n_wki_wem, n_wki_wna, n_wki_wpl, n_wmy_wiw, n_wmy_wli, n_wmy_wha, n_wmy_wem, n_wmy_wna, n_wmy_wpl, n_wiw_wli, n_wiw_wha, n_wiw_wem, n_wiw_wna, n_wiw_wpl, n_wli_wha, n_wli_wem, n_wli_wna, n_wli_wpl, n_wha_wem, n_wha_wna, n_wha_wpl, n_wem_wna, n_wem_wpl, n_wna_wpl, n_wk1_wk2, n_wk1_wk3, n_wk2_wk3⟩⟩ (Nat.le_of_ble_eq_true rfl) (Nat.le_of_ble_eq_true rfl) dX8_constant_42
        · refine lv_bipush (v := (-2)) hx hb dX8_constant_28 (by decide) ?_
          have a237 : f49 o = some (.inr (8, [.int u1, .int u2, .int u3, .ref wev, .int (nI nl), .ref wnb, .int (nI nn), .ref wki, .ref wmy, .ref wce, .ref wiw, .ref wli, .ref wha, .ref wwt, .int (nI nf), .ref wfy, .ref wfk, .int (nI nc), .ref wem, .ref wna, .ref wpl, .ref whs, .long lk, .int (nI ks), .ref wk1, .ref wk2, .ref wk3])) := k52 _ _ a45 
          have a238 : f1 wev = some (.inl (cy 0, 8, .inl gv)) := k3 _ _ x_wev 
          have a239 : f49 wev = some (.inl (cy 0, 8, .inl gv)) := k52 _ _ a238 
          have a240 : f1 wnb = some (.inl (cy 0, 12, .inl gu)) := k3 _ _ x_wnb 
          have a241 : f49 wnb = some (.inl (cy 0, 12, .inl gu)) := k52 _ _ a240 
          have a242 : f1 wki = some (.inl (cy 0, 60, .inl gk)) := k3 _ _ x_wki 
          have a243 : f49 wki = some (.inl (cy 0, 60, .inl gk)) := k52 _ _ a242 
          have a244 : f1 wmy = some (.inl (cy 0, 60, .inl gm)) := k3 _ _ x_wmy 
          have a245 : f49 wmy = some (.inl (cy 0, 60, .inl gm)) := k52 _ _ a244 
          have a246 : f1 wce = some (.inl (cy 1, 960, .inr (.inl gc))) := k3 _ _ x_wce 
          have a247 : f49 wce = some (.inl (cy 1, 960, .inr (.inl gc))) := k52 _ _ a246 
          have a248 : f1 wiw = some (.inl (cy 2, 60, .inl gw)) := k3 _ _ x_wiw 
          have a249 : f49 wiw = some (.inl (cy 2, 60, .inl gw)) := k52 _ _ a248 
          have a250 : f1 wli = some (.inl (cy 0, 60, .inl gl)) := k3 _ _ x_wli 
          have a251 : f49 wli = some (.inl (cy 0, 60, .inl gl)) := k52 _ _ a250 
          have a252 : f1 wha = some (.inl (cy 0, 60, .inl gh)) := k3 _ _ x_wha 
          have a253 : f49 wha = some (.inl (cy 0, 60, .inl gh)) := k52 _ _ a252 
          have a254 : f1 wwt = some (.inl (cy 1, 60, .inr (.inl gt))) := k3 _ _ x_wwt 
          have a255 : f49 wwt = some (.inl (cy 1, 60, .inr (.inl gt))) := k52 _ _ a254 
          have a256 : f1 wfy = some (.inl (cy 0, 6, .inl gy)) := k3 _ _ x_wfy 
          have a257 : f49 wfy = some (.inl (cy 0, 6, .inl gy)) := k52 _ _ a256 
          have a258 : f1 wfk = some (.inl (cy 0, 24, .inl gq)) := k3 _ _ x_wfk 
          have a259 : f49 wfk = some (.inl (cy 0, 24, .inl gq)) := k52 _ _ a258 
          have a260 : f49 wem = some (.inl (cy 0, 60, .inl ge1)) := k52 _ _ a46 
          have a261 : f49 wna = some (.inl (cy 0, 60, .inl gn1)) := k52 _ _ a47 
          have a262 : f49 wpl = some (.inl (cy 0, 60, .inl gp1)) := k52 _ _ a48 
          have a263 : f1 whs = some (.inl (cy 0, 4, .inl gs)) := k3 _ _ x_whs 
          have a264 : f49 whs = some (.inl (cy 0, 4, .inl gs)) := k52 _ _ a263 
          have a265 : f1 wk1 = some (.inl (cy 0, 40, .inl gx1)) := k3 _ _ x_wk1 
          have a266 : f49 wk1 = some (.inl (cy 0, 40, .inl gx1)) := k52 _ _ a265 
          have a267 : f1 wk2 = some (.inl (cy 0, 40, .inl gx2)) := k3 _ _ x_wk2 
          have a268 : f49 wk2 = some (.inl (cy 0, 40, .inl gx2)) := k52 _ _ a267 
          have a269 : f1 wk3 = some (.inl (cy 0, 40, .inl gx3)) := k3 _ _ x_wk3 
          have a270 : f49 wk3 = some (.inl (cy 0, 40, .inl gx3)) := k52 _ _ a269 
          exact z_iret C hr rfl hz hS ⟨u1, u2, u3, nl, nn, nf, nc, lk, ks, gv, gu, gk, gm, gc, gw, gl, gh, gt, gy, gq, ge1, gn1, gp1, gs, gx1, gx2, gx3, ln, fz, sq, rfl, rfl, rfl, rfl, rfl, rfl, rfl, rfl, rfl, rfl, rfl, rfl, rfl, rfl, rfl, ⟨a237, a239, a241, a243, a245, a247, a249, a251, a253, a255, a257, a259, a260, a261, a262, a264, a266, a268, a270, hn60, hl12, hf6, hc60, hs40, hMP, hgy, hfz, hgs, hME, hlk, hgw, hfd, n_wki_wmy, n_wki_wiw, n_wki_wli, n_wki_wha, n_wki_wem, n_wki_wna, n_wki_wpl, n_wmy_wiw, n_wmy_wli, n_wmy_wha, n_wmy_wem, n_wmy_wna, n_wmy_wpl, n_wiw_wli, n_wiw_wha, n_wiw_wem, n_wiw_wna, n_wiw_wpl, n_wli_wha, n_wli_wem, n_wli_wna, n_wli_wpl, n_wha_wem, n_wha_wna, n_wha_wpl, n_wem_wna, n_wem_wpl, n_wna_wpl, n_wk1_wk2, n_wk1_wk3, n_wk2_wk3⟩⟩ (Nat.le_of_ble_eq_true rfl) (Nat.le_of_ble_eq_true rfl) dX8_constant_30
  · refine lv_iload_n hx hb dX8_constant_0 rfl (lv_at hl 1 rfl) ?_
    refine z_callSi (As := [.int x]) C hz hS hA hl (k_X8_isEnumeration_B l D cy f x  he) zyX8_isEnumeration mMX8_196 rfl rfl (Nat.le_of_ble_eq_true rfl) ⟨Nat.le_of_ble_eq_true rfl, Nat.le_of_ble_eq_true rfl⟩ ⟨Nat.le_of_ble_eq_true rfl, Nat.le_of_ble_eq_true rfl⟩ dX8_constant_1 (fun r f271 H locs h272 hz hS => ?_)
    obtain ⟨rfl, k273⟩ := h272
    refine lv_if_eq (tgt := 28) hx hb dX8_constant_4 (by decide) (fun c274 => ?_) (fun c274 => ?_)
    rotate_left
    · exact absurd c274 (by decide)
    refine lv_bipush (v := (-2)) hx hb dX8_constant_28 (by decide) ?_
    have a275 : f271 o = some (.inr (8, [.int u1, .int u2, .int u3, .ref wev, .int (nI nl), .ref wnb, .int (nI nn), .ref wki, .ref wmy, .ref wce, .ref wiw, .ref wli, .ref wha, .ref wwt, .int (nI nf), .ref wfy, .ref wfk, .int (nI nc), .ref wem, .ref wna, .ref wpl, .ref whs, .long lk, .int (nI ks), .ref wk1, .ref wk2, .ref wk3])) := k273 _ _ x_o 
    have a276 : f271 wev = some (.inl (cy 0, 8, .inl gv)) := k273 _ _ x_wev 
    have a277 : f271 wnb = some (.inl (cy 0, 12, .inl gu)) := k273 _ _ x_wnb 
    have a278 : f271 wki = some (.inl (cy 0, 60, .inl gk)) := k273 _ _ x_wki 
    have a279 : f271 wmy = some (.inl (cy 0, 60, .inl gm)) := k273 _ _ x_wmy 
    have a280 : f271 wce = some (.inl (cy 1, 960, .inr (.inl gc))) := k273 _ _ x_wce 
    have a281 : f271 wiw = some (.inl (cy 2, 60, .inl gw)) := k273 _ _ x_wiw 
    have a282 : f271 wli = some (.inl (cy 0, 60, .inl gl)) := k273 _ _ x_wli 
    have a283 : f271 wha = some (.inl (cy 0, 60, .inl gh)) := k273 _ _ x_wha 
    have a284 : f271 wwt = some (.inl (cy 1, 60, .inr (.inl gt))) := k273 _ _ x_wwt 
    have a285 : f271 wfy = some (.inl (cy 0, 6, .inl gy)) := k273 _ _ x_wfy 
    have a286 : f271 wfk = some (.inl (cy 0, 24, .inl gq)) := k273 _ _ x_wfk 
    have a287 : f271 wem = some (.inl (cy 0, 60, .inl ge1)) := k273 _ _ x_wem 
    have a288 : f271 wna = some (.inl (cy 0, 60, .inl gn1)) := k273 _ _ x_wna 
    have a289 : f271 wpl = some (.inl (cy 0, 60, .inl gp1)) := k273 _ _ x_wpl 
    have a290 : f271 whs = some (.inl (cy 0, 4, .inl gs)) := k273 _ _ x_whs 
    have a291 : f271 wk1 = some (.inl (cy 0, 40, .inl gx1)) := k273 _ _ x_wk1 
    have a292 : f271 wk2 = some (.inl (cy 0, 40, .inl gx2)) := k273 _ _ x_wk2 
    have a293 : f271 wk3 = some (.inl (cy 0, 40, .inl gx3)) := k273 _ _ x_wk3 
    exact z_iret C hr rfl hz hS ⟨u1, u2, u3, nl, nn, nf, nc, lk, ks, gv, gu, gk, gm, gc, gw, gl, gh, gt, gy, gq, ge1, gn1, gp1, gs, gx1, gx2, gx3, ln, fz, sq, rfl, rfl, rfl, rfl, rfl, rfl, rfl, rfl, rfl, rfl, rfl, rfl, rfl, rfl, rfl, ⟨a275, a276, a277, a278, a279, a280, a281, a282, a283, a284, a285, a286, a287, a288, a289, a290, a291, a292, a293, hn60, hl12, hf6, hc60, hs40, hMP, hgy, hfz, hgs, hME, hlk, hgw, hfd, n_wki_wmy, n_wki_wiw, n_wki_wli, n_wki_wha, n_wki_wem, n_wki_wna, n_wki_wpl, n_wmy_wiw, n_wmy_wli, n_wmy_wha, n_wmy_wem, n_wmy_wna, n_wmy_wpl, n_wiw_wli, n_wiw_wha, n_wiw_wem, n_wiw_wna, n_wiw_wpl, n_wli_wha, n_wli_wem, n_wli_wna, n_wli_wpl, n_wha_wem, n_wha_wna, n_wha_wpl, n_wem_wna, n_wem_wpl, n_wna_wpl, n_wk1_wk2, n_wk1_wk3, n_wk2_wk3⟩⟩ (Nat.le_of_ble_eq_true rfl) (Nat.le_of_ble_eq_true rfl) dX8_constant_30
