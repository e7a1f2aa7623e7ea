abbrev rmX8_isEnumeration_A : Room := { frames := 0, cells := 0, slots := 0, locals := 0 }
set_option maxHeartbeats 4000000 in
set_option maxRecDepth 100000 in
theorem k_X8_isEnumeration_A (l : Launch) (D : va_G) (cy : Nat → ClassId) (f : zM) (x : Int32) (j : Nat)   (hxj : x = nI j) (hj : j < 4) : zCi l D cy yX8_isEnumeration cX8_isEnumeration 1 (Option.some Jvm.ClassFile.FieldType.boolean) rmX8_isEnumeration_A [.int x] f (fun (r : Int32) (f1 : zM) => r = 1 ∧ (∀ (b : Nat) (e : va_E), f b = some e → f1 b = some e)) := by
  intro sz
  refine z_body (by decide +kernel) (Nat.le_of_ble_eq_true rfl) ?_
  intro p e s m below meth c ls C hr hin hsz hz hl
  subst hsz
  have hx := C.1
  have hb := C.2.1
  have hA : ∀ q, s.heap.size ≤ q → zA f s.heap.size q := fun q h => Or.inr h
  have hS : va_S (zA f s.heap.size) s.heap s.heap [] := va_S.rf
  have hl : lv_has ls 1 [(0, .int x)] := hl
  refine lv_iload_n hx hb dX8_isEnumeration_0 rfl (lv_at hl 0 rfl) ?_
  refine lv_if_lt (tgt := 13) hx hb dX8_isEnumeration_1 (by decide) (fun c1 => ?_) (fun c1 => ?_)
  · exact absurd c1 (by rw [hxj]; exact nI_pos (by omega))
  refine lv_iload_n hx hb dX8_isEnumeration_4 rfl (lv_at hl 0 rfl) ?_
  refine lv_iconst (v := 4) hx hb dX8_isEnumeration_5 (by decide) ?_
  refine lv_icmp_ge (tgt := 13) hx hb dX8_isEnumeration_6 (by decide) (fun c2 => ?_) (fun c2 => ?_)
  · exact absurd ((nI_leI (a := 4) (b := j) (by omega) (by omega)).mp (by rw [← hxj]; exact c2)) (by omega)
  refine lv_iconst (v := 1) hx hb dX8_isEnumeration_9 (by decide) ?_
  refine lv_goto (tgt := 14) hx hb dX8_isEnumeration_10 (by decide) ?_
  exact z_iret C hr (by decide) hz hS ⟨rfl, (fun b e hb => hb)⟩ (Nat.le_of_ble_eq_true rfl) (Nat.le_of_ble_eq_true rfl) dX8_isEnumeration_14
abbrev rmX8_isEnumeration_B : Room := { frames := 0, cells := 0, slots := 0, locals := 0 }
set_option maxHeartbeats 4000000 in
set_option maxRecDepth 100000 in
theorem k_X8_isEnumeration_B (l : Launch) (D : va_G) (cy : Nat → ClassId) (f : zM) (x : Int32)   (hx4 : ¬ (0 ≤ x ∧ x < 4)) : zCi l D cy yX8_isEnumeration cX8_isEnumeration 1 (Option.some Jvm.ClassFile.FieldType.boolean) rmX8_isEnumeration_B [.int x] f (fun (r : Int32) (f1 : zM) => r = 0 ∧ (∀ (b : Nat) (e : va_E), f b = some e → f1 b = some e)) := by
  intro sz
  refine z_body (by decide +kernel) (Nat.le_of_ble_eq_true rfl) ?_
  intro p e s m below meth c ls C hr hin hsz hz hl
  subst hsz
  have hx := C.1
  have hb := C.2.1
  have hA : ∀ q, s.heap.size ≤ q → zA f s.heap.size q := fun q h => Or.inr h
  have hS : va_S (zA f s.heap.size) s.heap s.heap [] := va_S.rf
  have hl : lv_has ls 1 [(0, .int x)] := hl
  refine lv_iload_n hx hb dX8_isEnumeration_0 rfl (lv_at hl 0 rfl) ?_
  refine lv_if_lt (tgt := 13) hx hb dX8_isEnumeration_1 (by decide) (fun c1 => ?_) (fun c1 => ?_)
  · refine lv_iconst (v := 0) hx hb dX8_isEnumeration_13 (by decide) ?_
    exact z_iret C hr (by decide) hz hS ⟨rfl, (fun b e hb => hb)⟩ (Nat.le_of_ble_eq_true rfl) (Nat.le_of_ble_eq_true rfl) dX8_isEnumeration_14
  · refine lv_iload_n hx hb dX8_isEnumeration_4 rfl (lv_at hl 0 rfl) ?_
    refine lv_iconst (v := 4) hx hb dX8_isEnumeration_5 (by decide) ?_
    refine lv_icmp_ge (tgt := 13) hx hb dX8_isEnumeration_6 (by decide) (fun c2 => ?_) (fun c2 => ?_)
    rotate_left
    · exact absurd ⟨Int32.not_lt.mp c1, Int32.not_le.mp c2⟩ hx4
    refine lv_iconst (v := 0) hx hb dX8_isEnumeration_13 (by decide) ?_
    exact z_iret C hr (by decide) hz hS ⟨rfl, (fun b e hb => hb)⟩ (Nat.le_of_ble_eq_true rfl) (Nat.le_of_ble_eq_true rfl) dX8_isEnumeration_14
abbrev rmX8_isConstant_A : Room := { frames := 0, cells := 0, slots := 0, locals := 0 }
set_option maxHeartbeats 4000000 in
set_option maxRecDepth 100000 in
theorem k_X8_isConstant_A (l : Launch) (D : va_G) (cy : Nat → ClassId) (f : zM) (o : Nat) (wev : Nat) (wnb : Nat) (wki : Nat) (wmy : Nat) (wce : Nat) (wiw : Nat) (wli : Nat) (wha : Nat) (wwt : Nat) (wfy : Nat) (wfk : Nat) (wem : Nat) (wna : Nat) (wpl : Nat) (whs : Nat) (wk1 : Nat) (wk2 : Nat) (wk3 : Nat) (u1 : Int32) (u2 : Int32) (u3 : Int32) (nl : Nat) (nn : Nat) (nf : Nat) (nc : Nat) (lk : Int64) (ks : Nat) (x : Int32) (j : Nat) (p0 : f o = some (.inr (8, [.int u1, .int u2, .int u3, .ref wev, .int (nI nl), .ref wnb, .int (nI nn), .ref wki, .ref wmy, .ref wce, .ref wiw, .ref wli, .ref wha, .ref wwt, .int (nI nf), .ref wfy, .ref wfk, .int (nI nc), .ref wem, .ref wna, .ref wpl, .ref whs, .long lk, .int (nI ks), .ref wk1, .ref wk2, .ref wk3])))  (hc60 : nc ≤ 60) (hxj : x = nI j) (hj : j < nc) : zCi l D cy yX8_isConstant cX8_isConstant 2 (Option.some Jvm.ClassFile.FieldType.boolean) rmX8_isConstant_A [.ref o, .int x] f (fun (r : Int32) (f1 : zM) => r = 1 ∧ (∀ (b : Nat) (e : va_E), f b = some e → f1 b = some e)) := by
  intro sz
  refine z_body (by decide +kernel) (Nat.le_of_ble_eq_true rfl) ?_
  intro p e s m below meth c ls C hr hin hsz hz hl
  subst hsz
  have hx := C.1
  have hb := C.2.1
  have hA : ∀ q, s.heap.size ≤ q → zA f s.heap.size q := fun q h => Or.inr h
  have hS : va_S (zA f s.heap.size) s.heap s.heap [] := va_S.rf
  have hl : lv_has ls 2 [(0, .ref o), (1, .int x)] := hl
  refine lv_iload_n hx hb dX8_isConstant_0 rfl (lv_at hl 1 rfl) ?_
  refine lv_if_lt (tgt := 16) hx hb dX8_isConstant_1 (by decide) (fun c1 => ?_) (fun c1 => ?_)
  · exact absurd c1 (by rw [hxj]; exact nI_pos (by omega))
  refine lv_iload_n hx hb dX8_isConstant_4 rfl (lv_at hl 1 rfl) ?_
  refine lv_aload_n hx hb dX8_isConstant_5 rfl (lv_at hl 0 rfl) ?_
  refine z_get (v := .int (nI nc)) C hz p0 zl8 mFX8_193 (by decide) rfl dX8_isConstant_6 ?_
  refine lv_icmp_ge (tgt := 16) hx hb dX8_isConstant_9 (by decide) (fun c2 => ?_) (fun c2 => ?_)
  · exact absurd ((nI_leI (a := nc) (b := j) (by omega) (by omega)).mp (by rw [← hxj]; exact c2)) (by omega)
  refine lv_iconst (v := 1) hx hb dX8_isConstant_12 (by decide) ?_
  refine lv_goto (tgt := 17) hx hb dX8_isConstant_13 (by decide) ?_
  exact z_iret C hr (by decide) hz hS ⟨rfl, (fun b e hb => hb)⟩ (Nat.le_of_ble_eq_true rfl) (Nat.le_of_ble_eq_true rfl) dX8_isConstant_17
abbrev rmX8_isConstant_B : Room := { frames := 0, cells := 0, slots := 0, locals := 0 }
set_option maxHeartbeats 4000000 in
set_option maxRecDepth 100000 in
theorem k_X8_isConstant_B (l : Launch) (D : va_G) (cy : Nat → ClassId) (f : zM) (o : Nat) (wev : Nat) (wnb : Nat) (wki : Nat) (wmy : Nat) (wce : Nat) (wiw : Nat) (wli : Nat) (wha : Nat) (wwt : Nat) (wfy : Nat) (wfk : Nat) (wem : Nat) (wna : Nat) (wpl : Nat) (whs : Nat) (wk1 : Nat) (wk2 : Nat) (wk3 : Nat) (u1 : Int32) (u2 : Int32) (u3 : Int32) (nl : Nat) (nn : Nat) (nf : Nat) (nc : Nat) (lk : Int64) (ks : Nat) (x : Int32) (p0 : f o = some (.inr (8, [.int u1, .int u2, .int u3, .ref wev, .int (nI nl), .ref wnb, .int (nI nn), .ref wki, .ref wmy, .ref wce, .ref wiw, .ref wli, .ref wha, .ref wwt, .int (nI nf), .ref wfy, .ref wfk, .int (nI nc), .ref wem, .ref wna, .ref wpl, .ref whs, .long lk, .int (nI ks), .ref wk1, .ref wk2, .ref wk3])))  (hc60 : nc ≤ 60) (hxn : ∀ j, j < nc → x ≠ nI j) : zCi l D cy yX8_isConstant cX8_isConstant 2 (Option.some Jvm.ClassFile.FieldType.boolean) rmX8_isConstant_B [.ref o, .int x] f (fun (r : Int32) (f1 : zM) => r = 0 ∧ (∀ (b : Nat) (e : va_E), f b = some e → f1 b = some e)) := by
  intro sz
  refine z_body (by decide +kernel) (Nat.le_of_ble_eq_true rfl) ?_
  intro p e s m below meth c ls C hr hin hsz hz hl
  subst hsz
  have hx := C.1
  have hb := C.2.1
  have hA : ∀ q, s.heap.size ≤ q → zA f s.heap.size q := fun q h => Or.inr h
  have hS : va_S (zA f s.heap.size) s.heap s.heap [] := va_S.rf
  have hl : lv_has ls 2 [(0, .ref o), (1, .int x)] := hl
  refine lv_iload_n hx hb dX8_isConstant_0 rfl (lv_at hl 1 rfl) ?_
  refine lv_if_lt (tgt := 16) hx hb dX8_isConstant_1 (by decide) (fun c1 => ?_) (fun c1 => ?_)
  · refine lv_iconst (v := 0) hx hb dX8_isConstant_16 (by decide) ?_
    exact z_iret C hr (by decide) hz hS ⟨rfl, (fun b e hb => hb)⟩ (Nat.le_of_ble_eq_true rfl) (Nat.le_of_ble_eq_true rfl) dX8_isConstant_17
  · refine lv_iload_n hx hb dX8_isConstant_4 rfl (lv_at hl 1 rfl) ?_
    refine lv_aload_n hx hb dX8_isConstant_5 rfl (lv_at hl 0 rfl) ?_
    refine z_get (v := .int (nI nc)) C hz p0 zl8 mFX8_193 (by decide) rfl dX8_isConstant_6 ?_
    refine lv_icmp_ge (tgt := 16) hx hb dX8_isConstant_9 (by decide) (fun c2 => ?_) (fun c2 => ?_)
    rotate_left
    · exact absurd (z_ixl c1 c2 (by omega)) (fun ⟨j9, h9, e9⟩ => hxn j9 h9 e9)
    refine lv_iconst (v := 0) hx hb dX8_isConstant_16 (by decide) ?_
    exact z_iret C hr (by decide) hz hS ⟨rfl, (fun b e hb => hb)⟩ (Nat.le_of_ble_eq_true rfl) (Nat.le_of_ble_eq_true rfl) dX8_isConstant_17
abbrev rmX8_constantAt : Room := { frames := 0, cells := 0, slots := 0, locals := 0 }
set_option maxHeartbeats 4000000 in
set_option maxRecDepth 100000 in
theorem k_X8_constantAt (l : Launch) (D : va_G) (cy : Nat → ClassId) (f : zM) (o : Nat) (wev : Nat) (wnb : Nat) (wki : Nat) (wmy : Nat) (wce : Nat) (wiw : Nat) (wli : Nat) (wha : Nat) (wwt : Nat) (wfy : Nat) (wfk : Nat) (wem : Nat) (wna : Nat) (wpl : Nat) (whs : Nat) (wk1 : Nat) (wk2 : Nat) (wk3 : Nat) (u1 : Int32) (u2 : Int32) (u3 : Int32) (nl : Nat) (nn : Nat) (nf : Nat) (nc : Nat) (lk : Int64) (ks : Nat) (ge1 : Nat → Int32) (gp1 : Nat → Int32) (x : Int32) (y : Int32) (p0 : f o = some (.inr (8, [.int u1, .int u2, .int u3, .ref wev, .int (nI nl), .ref wnb, .int (nI nn), .ref wki, .ref wmy, .ref wce, .ref wiw, .ref wli, .ref wha, .ref wwt, .int (nI nf), .ref wfy, .ref wfk, .int (nI nc), .ref wem, .ref wna, .ref wpl, .ref whs, .long lk, .int (nI ks), .ref wk1, .ref wk2, .ref wk3]))) (p1 : f wem = some (.inl (cy 0, 60, .inl ge1))) (p2 : f wpl = some (.inl (cy 0, 60, .inl gp1)))  (hc60 : nc ≤ 60) : zCi l D cy yX8_constantAt cX8_constantAt 4 (Option.some Jvm.ClassFile.FieldType.int) rmX8_constantAt [.ref o, .int x, .int y] f (fun (r : Int32) (f1 : zM) => ((∃ c, c < nc ∧ r = nI c ∧ ge1 c = x ∧ gp1 c = y) ∨ (r = (-1) ∧ ∀ c, c < nc → ¬ (ge1 c = x ∧ gp1 c = y))) ∧ (∀ (b : Nat) (e : va_E), f b = some e → f1 b = some e)) := by
  intro sz
  refine z_body (by decide +kernel) (Nat.le_of_ble_eq_true rfl) ?_
  intro p e s m below meth c ls C hr hin hsz hz hl
  subst hsz
  have hx := C.1
  have hb := C.2.1
  have hA : ∀ q, s.heap.size ≤ q → zA f s.heap.size q := fun q h => Or.inr h
  have hS : va_S (zA f s.heap.size) s.heap s.heap [] := va_S.rf
  have hl : lv_has ls 4 [(0, .ref o), (1, .int x), (2, .int y)] := hl
  refine lv_iconst (v := 0) hx hb dX8_constantAt_0 (by decide) ?_
  refine lv_istore_n (lv' := [(3, .int 0), (0, .ref o), (1, .int x), (2, .int y)]) hx hb dX8_constantAt_1 rfl hl (by decide) rfl (fun ls hl => ?_)
  have lp1 : ∀ (n : Nat) (cc : Nat) (fL2 : zM) (H : Heap) (locs : List Loc) (ls : Array Slot), (nc - cc) < n → (cc ≤ nc) → (∀ d, d < cc → ¬ (ge1 d = x ∧ gp1 d = y)) → (∀ (b : Nat) (e : va_E), f b = some e → fL2 b = some e) → zH D (zA f s.heap.size) fL2 H → va_S (zA f s.heap.size) s.heap H locs → lv_has ls 4 [(0, .ref o), (1, .int x), (2, .int y), (3, .int (nI cc))] → W p l e rmX8_constantAt s m ([.ref o, .int x, .int y] : List Value).toArray below meth c H locs 0 0 (MQ below (va_Qi (fun (r : Int32) (f1 : zM) => ((∃ c, c < nc ∧ r = nI c ∧ ge1 c = x ∧ gp1 c = y) ∨ (r = (-1) ∧ ∀ c, c < nc → ¬ (ge1 c = x ∧ gp1 c = y))) ∧ (∀ (b : Nat) (e : va_E), f b = some e → f1 b = some e)) (zB D f s.heap.size) (zA f s.heap.size)) ([.ref o, .int x, .int y] : List Value).toArray s rmX8_constantAt.cells rmX8_constantAt.slots (zA f s.heap.size)) (F0 m 2 ls []) := by
    intro n
    induction n with
    | zero => intro cc fL2 H locs ls hmz; exact absurd hmz (Nat.not_lt_zero _)
    | succ n ih =>
      intro cc fL2 H locs ls hmz hcc hne  k3 hz hS hl
      refine lv_iload_n hx hb dX8_constantAt_2 rfl (lv_at hl 3 rfl) ?_
      refine lv_aload_n hx hb dX8_constantAt_3 rfl (lv_at hl 0 rfl) ?_
      have a4 : fL2 o = some (.inr (8, [.int u1, .int u2, .int u3, .ref wev, .int (nI nl), .ref wnb, .int (nI nn), .ref wki, .ref wmy, .ref wce, .ref wiw, .ref wli, .ref wha, .ref wwt, .int (nI nf), .ref wfy, .ref wfk, .int (nI nc), .ref wem, .ref wna, .ref wpl, .ref whs, .long lk, .int (nI ks), .ref wk1, .ref wk2, .ref wk3])) := k3 _ _ p0 
      refine z_get (v := .int (nI nc)) C hz a4 zl8 mFX8_193 (by decide) rfl dX8_constantAt_4 ?_
      refine lv_icmp_ge (tgt := 38) hx hb dX8_constantAt_7 (by decide) (fun c5 => ?_) (fun c5 => ?_)
      · replace c5 : (nc ≤ cc) := (nI_leI (a := nc) (b := cc) (by omega) (by omega)).mp c5
        refine lv_iconst (v := (-1)) hx hb dX8_constantAt_38 (by decide) ?_
        exact z_iret C hr rfl hz hS ⟨(Or.inr ⟨rfl, fun k hk => hne k (by omega)⟩), (by
              intro b e hb 
              have hb0 : fL2 b = some e := k3 b e hb 
              exact hb0)⟩ (Nat.le_of_ble_eq_true rfl) (Nat.le_of_ble_eq_true rfl) dX8_constantAt_39
      · replace c5 : ¬ (nc ≤ cc) := fun h => c5 ((nI_leI (a := nc) (b := cc) (by omega) (by omega)).mpr h)
        refine lv_aload_n hx hb dX8_constantAt_10 rfl (lv_at hl 0 rfl) ?_
        refine z_get (v := .ref wem) C hz a4 zl8 mFX8_49 (by decide) rfl dX8_constantAt_11 ?_
        refine lv_iload_n hx hb dX8_constantAt_14 rfl (lv_at hl 3 rfl) ?_
        have a6 : fL2 wem = some (.inl (cy 0, 60, .inl ge1)) := k3 _ _ p1 
        refine z_iald cc C hz a6 rfl (by omega) (by omega) dX8_constantAt_15 ?_
        refine lv_iload_n hx hb dX8_constantAt_16 rfl (lv_at hl 1 rfl) ?_
        refine lv_icmp_ne (tgt := 32) hx hb dX8_constantAt_17 (by decide) (fun c7 => ?_) (fun c7 => ?_)
        · refine lv_iinc (v := nI (cc + 1)) (lv' := [(3, .int (nI (cc + 1))), (0, .ref o), (1, .int x), (2, .int y)]) hx hb dX8_constantAt_32 hl (k := 3) rfl (nI_1 cc) (by decide) rfl (fun ls hl => ?_)
          refine lv_goto (tgt := 2) hx hb dX8_constantAt_35 (by decide) ?_
          exact ih (cc + 1) _ _ _ _ (by omega) (by omega) (fun d hd => (Nat.lt_succ_iff_lt_or_eq.mp hd).elim (hne d) (fun q => q ▸ (fun h => c7 h.1)))  (by
                intro b e hb 
                have hb0 : fL2 b = some e := k3 b e hb 
                exact hb0) hz hS (lv_sub hl [1, 2, 3, 0] rfl)
        · refine lv_aload_n hx hb dX8_constantAt_20 rfl (lv_at hl 0 rfl) ?_
          refine z_get (v := .ref wpl) C hz a4 zl8 mFX8_55 (by decide) rfl dX8_constantAt_21 ?_
          refine lv_iload_n hx hb dX8_constantAt_24 rfl (lv_at hl 3 rfl) ?_
          have a8 : fL2 wpl = some (.inl (cy 0, 60, .inl gp1)) := k3 _ _ p2 
          refine z_iald cc C hz a8 rfl (by omega) (by omega) dX8_constantAt_25 ?_
          refine lv_iload_n hx hb dX8_constantAt_26 rfl (lv_at hl 2 rfl) ?_
          refine lv_icmp_ne (tgt := 32) hx hb dX8_constantAt_27 (by decide) (fun c9 => ?_) (fun c9 => ?_)
          · refine lv_iinc (v := nI (cc + 1)) (lv' := [(3, .int (nI (cc + 1))), (0, .ref o), (1, .int x), (2, .int y)]) hx hb dX8_constantAt_32 hl (k := 3) rfl (nI_1 cc) (by decide) rfl (fun ls hl => ?_)
            refine lv_goto (tgt := 2) hx hb dX8_constantAt_35 (by decide) ?_
            exact ih (cc + 1) _ _ _ _ (by omega) (by omega) (fun d hd => (Nat.lt_succ_iff_lt_or_eq.mp hd).elim (hne d) (fun q => q ▸ (fun h => c9 h.2)))  (by
                  intro b e hb 
                  have hb0 : fL2 b = some e := k3 b e hb 
                  exact hb0) hz hS (lv_sub hl [1, 2, 3, 0] rfl)
          · refine lv_iload_n hx hb dX8_constantAt_30 rfl (lv_at hl 3 rfl) ?_
            exact z_iret C hr rfl hz hS ⟨(Or.inl ⟨cc, by omega, rfl, c7, c9⟩), (by
                  intro b e hb 
                  have hb0 : fL2 b = some e := k3 b e hb 
                  exact hb0)⟩ (Nat.le_of_ble_eq_true rfl) (Nat.le_of_ble_eq_true rfl) dX8_constantAt_31
  exact lp1 (nc - 0 + 1) 0 _ _ _ _ (Nat.lt_succ_self _) (by omega) (fun d hd => absurd hd (Nat.not_lt_zero d))  (fun b e hb => hb) hz hS (lv_sub hl [1, 2, 3, 0] rfl)
abbrev rmX8_constantOf : Room := { frames := 0, cells := 0, slots := 0, locals := 0 }
set_option maxHeartbeats 4000000 in
set_option maxRecDepth 100000 in
theorem k_X8_constantOf (l : Launch) (D : va_G) (cy : Nat → ClassId) (f : zM) (o : Nat) (wev : Nat) (wnb : Nat) (wki : Nat) (wmy : Nat) (wce : Nat) (wiw : Nat) (wli : Nat) (wha : Nat) (wwt : Nat) (wfy : Nat) (wfk : Nat) (wem : Nat) (wna : Nat) (wpl : Nat) (whs : Nat) (wk1 : Nat) (wk2 : Nat) (wk3 : Nat) (u1 : Int32) (u2 : Int32) (u3 : Int32) (nl : Nat) (nn : Nat) (nf : Nat) (nc : Nat) (lk : Int64) (ks : Nat) (ge1 : Nat → Int32) (gn1 : Nat → Int32) (gp1 : Nat → Int32) (x : Int32) (y : Int32) (p0 : f o = some (.inr (8, [.int u1, .int u2, .int u3, .ref wev, .int (nI nl), .ref wnb, .int (nI nn), .ref wki, .ref wmy, .ref wce, .ref wiw, .ref wli, .ref wha, .ref wwt, .int (nI nf), .ref wfy, .ref wfk, .int (nI nc), .ref wem, .ref wna, .ref wpl, .ref whs, .long lk, .int (nI ks), .ref wk1, .ref wk2, .ref wk3]))) (p1 : f wem = some (.inl (cy 0, 60, .inl ge1))) (p2 : f wna = some (.inl (cy 0, 60, .inl gn1))) (p3 : f wpl = some (.inl (cy 0, 60, .inl gp1)))  (hc60 : nc ≤ 60) : zCi l D cy yX8_constantOf cX8_constantOf 4 (Option.some Jvm.ClassFile.FieldType.int) rmX8_constantOf [.ref o, .int x, .int y] f (fun (r : Int32) (f1 : zM) => (zCO nc ge1 gn1 gp1 x y r) ∧ (∀ (b : Nat) (e : va_E), f b = some e → f1 b = some e)) := by
  intro sz
  refine z_body (by decide +kernel) (Nat.le_of_ble_eq_true rfl) ?_
  intro p e s m below meth c ls C hr hin hsz hz hl
  subst hsz
  have hx := C.1
  have hb := C.2.1
  have hA : ∀ q, s.heap.size ≤ q → zA f s.heap.size q := fun q h => Or.inr h
  have hS : va_S (zA f s.heap.size) s.heap s.heap [] := va_S.rf
  have hl : lv_has ls 4 [(0, .ref o), (1, .int x), (2, .int y)] := hl
  refine lv_iconst (v := 0) hx hb dX8_constantOf_0 (by decide) ?_
  refine lv_istore_n (lv' := [(3, .int 0), (0, .ref o), (1, .int x), (2, .int y)]) hx hb dX8_constantOf_1 rfl hl (by decide) rfl (fun ls hl => ?_)
  have lp1 : ∀ (n : Nat) (cc : Nat) (fL2 : zM) (H : Heap) (locs : List Loc) (ls : Array Slot), (nc - cc) < n → (cc ≤ nc) → (∀ d, d < cc → ¬ (ge1 d = x ∧ gn1 d = y ∧ ¬ gp1 d = (-1))) → (∀ (b : Nat) (e : va_E), f b = some e → fL2 b = some e) → zH D (zA f s.heap.size) fL2 H → va_S (zA f s.heap.size) s.heap H locs → lv_has ls 4 [(0, .ref o), (1, .int x), (2, .int y), (3, .int (nI cc))] → W p l e rmX8_constantOf s m ([.ref o, .int x, .int y] : List Value).toArray below meth c H locs 0 0 (MQ below (va_Qi (fun (r : Int32) (f1 : zM) => (zCO nc ge1 gn1 gp1 x y r) ∧ (∀ (b : Nat) (e : va_E), f b = some e → f1 b = some e)) (zB D f s.heap.size) (zA f s.heap.size)) ([.ref o, .int x, .int y] : List Value).toArray s rmX8_constantOf.cells rmX8_constantOf.slots (zA f s.heap.size)) (F0 m 2 ls []) := by
    intro n
    induction n with
    | zero => intro cc fL2 H locs ls hmz; exact absurd hmz (Nat.not_lt_zero _)
    | succ n ih =>
      intro cc fL2 H locs ls hmz hcc hne  k3 hz hS hl
      refine lv_iload_n hx hb dX8_constantOf_2 rfl (lv_at hl 3 rfl) ?_
      refine lv_aload_n hx hb dX8_constantOf_3 rfl (lv_at hl 0 rfl) ?_
      have a4 : fL2 o = some (.inr (8, [.int u1, .int u2, .int u3, .ref wev, .int (nI nl), .ref wnb, .int (nI nn), .ref wki, .ref wmy, .ref wce, .ref wiw, .ref wli, .ref wha, .ref wwt, .int (nI nf), .ref wfy, .ref wfk, .int (nI nc), .ref wem, .ref wna, .ref wpl, .ref whs, .long lk, .int (nI ks), .ref wk1, .ref wk2, .ref wk3])) := k3 _ _ p0 
      refine z_get (v := .int (nI nc)) C hz a4 zl8 mFX8_193 (by decide) rfl dX8_constantOf_4 ?_
      refine lv_icmp_ge (tgt := 48) hx hb dX8_constantOf_7 (by decide) (fun c5 => ?_) (fun c5 => ?_)
      · replace c5 : (nc ≤ cc) := (nI_leI (a := nc) (b := cc) (by omega) (by omega)).mp c5
        refine lv_iconst (v := (-1)) hx hb dX8_constantOf_48 (by decide) ?_
        exact z_iret C hr rfl hz hS ⟨(Or.inr ⟨rfl, fun k9 h9 => hne k9 (by omega)⟩), (by
              intro b e hb 
              have hb0 : fL2 b = some e := k3 b e hb 
              exact hb0)⟩ (Nat.le_of_ble_eq_true rfl) (Nat.le_of_ble_eq_true rfl) dX8_constantOf_49
      · replace c5 : ¬ (nc ≤ cc) := fun h => c5 ((nI_leI (a := nc) (b := cc) (by omega) (by omega)).mpr h)
        refine lv_aload_n hx hb dX8_constantOf_10 rfl (lv_at hl 0 rfl) ?_
        refine z_get (v := .ref wem) C hz a4 zl8 mFX8_49 (by decide) rfl dX8_constantOf_11 ?_
        refine lv_iload_n hx hb dX8_constantOf_14 rfl (lv_at hl 3 rfl) ?_
        have a6 : fL2 wem = some (.inl (cy 0, 60, .inl ge1)) := k3 _ _ p1 
        refine z_iald cc C hz a6 rfl (by omega) (by omega) dX8_constantOf_15 ?_
        refine lv_iload_n hx hb dX8_constantOf_16 rfl (lv_at hl 1 rfl) ?_
        refine lv_icmp_ne (tgt := 42) hx hb dX8_constantOf_17 (by decide) (fun c7 => ?_) (fun c7 => ?_)
        · refine lv_iinc (v := nI (cc + 1)) (lv' := [(3, .int (nI (cc + 1))), (0, .ref o), (1, .int x), (2, .int y)]) hx hb dX8_constantOf_42 hl (k := 3) rfl (nI_1 cc) (by decide) rfl (fun ls hl => ?_)
          refine lv_goto (tgt := 2) hx hb dX8_constantOf_45 (by decide) ?_
          exact ih (cc + 1) _ _ _ _ (by omega) (by omega) (fun d hd => (Nat.lt_succ_iff_lt_or_eq.mp hd).elim (hne d) (fun q => q ▸ (fun w9 => c7 w9.1)))  (by
                intro b e hb 
                have hb0 : fL2 b = some e := k3 b e hb 
                exact hb0) hz hS (lv_sub hl [1, 2, 3, 0] rfl)
        · refine lv_aload_n hx hb dX8_constantOf_20 rfl (lv_at hl 0 rfl) ?_
          refine z_get (v := .ref wna) C hz a4 zl8 mFX8_52 (by decide) rfl dX8_constantOf_21 ?_
          refine lv_iload_n hx hb dX8_constantOf_24 rfl (lv_at hl 3 rfl) ?_
          have a8 : fL2 wna = some (.inl (cy 0, 60, .inl gn1)) := k3 _ _ p2 
          refine z_iald cc C hz a8 rfl (by omega) (by omega) dX8_constantOf_25 ?_
          refine lv_iload_n hx hb dX8_constantOf_26 rfl (lv_at hl 2 rfl) ?_
          refine lv_icmp_ne (tgt := 42) hx hb dX8_constantOf_27 (by decide) (fun c9 => ?_) (fun c9 => ?_)
          · refine lv_iinc (v := nI (cc + 1)) (lv' := [(3, .int (nI (cc + 1))), (0, .ref o), (1, .int x), (2, .int y)]) hx hb dX8_constantOf_42 hl (k := 3) rfl (nI_1 cc) (by decide) rfl (fun ls hl => ?_)
            refine lv_goto (tgt := 2) hx hb dX8_constantOf_45 (by decide) ?_
            exact ih (cc + 1) _ _ _ _ (by omega) (by omega) (fun d hd => (Nat.lt_succ_iff_lt_or_eq.mp hd).elim (hne d) (fun q => q ▸ (fun w9 => c9 w9.2.1)))  (by
                  intro b e hb 
                  have hb0 : fL2 b = some e := k3 b e hb 
                  exact hb0) hz hS (lv_sub hl [1, 2, 3, 0] rfl)
          · refine lv_aload_n hx hb dX8_constantOf_30 rfl (lv_at hl 0 rfl) ?_
            refine z_get (v := .ref wpl) C hz a4 zl8 mFX8_55 (by decide) rfl dX8_constantOf_31 ?_
            refine lv_iload_n hx hb dX8_constantOf_34 rfl (lv_at hl 3 rfl) ?_
            have a10 : fL2 wpl = some (.inl (cy 0, 60, .inl gp1)) := k3 _ _ p3 
            refine z_iald cc C hz a10 rfl (by omega) (by omega) dX8_constantOf_35 ?_
            refine lv_iconst (v := (-1)) hx hb dX8_constantOf_36 (by decide) ?_
            refine lv_icmp_eq (tgt := 42) hx hb dX8_constantOf_37 (by decide) (fun c11 => ?_) (fun c11 => ?_)
            · refine lv_iinc (v := nI (cc + 1)) (lv' := [(3, .int (nI (cc + 1))), (0, .ref o), (1, .int x), (2, .int y)]) hx hb dX8_constantOf_42 hl (k := 3) rfl (nI_1 cc) (by decide) rfl (fun ls hl => ?_)
              refine lv_goto (tgt := 2) hx hb dX8_constantOf_45 (by decide) ?_
              exact ih (cc + 1) _ _ _ _ (by omega) (by omega) (fun d hd => (Nat.lt_succ_iff_lt_or_eq.mp hd).elim (hne d) (fun q => q ▸ (fun w9 => w9.2.2 c11)))  (by
                    intro b e hb 
                    have hb0 : fL2 b = some e := k3 b e hb 
                    exact hb0) hz hS (lv_sub hl [1, 2, 3, 0] rfl)
            · refine lv_iload_n hx hb dX8_constantOf_40 rfl (lv_at hl 3 rfl) ?_
              exact z_iret C hr rfl hz hS ⟨(Or.inl ⟨cc, by omega, rfl, c7, c9, c11⟩), (by
                    intro b e hb 
                    have hb0 : fL2 b = some e := k3 b e hb 
                    exact hb0)⟩ (Nat.le_of_ble_eq_true rfl) (Nat.le_of_ble_eq_true rfl) dX8_constantOf_41
  exact lp1 (nc - 0 + 1) 0 _ _ _ _ (Nat.lt_succ_self _) (by omega) (fun d9 h9 => absurd h9 (Nat.not_lt_zero _))  (fun b e hb => hb) hz hS (lv_sub hl [1, 2, 3, 0] rfl)
abbrev rmX8_constant : Room := { frames := 1, cells := 0, slots := 0, locals := 23 }
set_option maxHeartbeats 4000000 in
set_option maxRecDepth 100000 in
theorem k_X8_constant (l : Launch) (D : va_G) (cy : Nat → ClassId) (f : zM) (o : Nat) (wev : Nat) (wnb : Nat) (wki : Nat) (wmy : Nat) (wce : Nat) (wiw : Nat) (wli : Nat) (wha : Nat) (wwt : Nat) (wfy : Nat) (wfk : Nat) (wem : Nat) (wna : Nat) (wpl : Nat) (whs : Nat) (wk1 : Nat) (wk2 : Nat) (wk3 : Nat) (u1 : Int32) (u2 : Int32) (u3 : Int32) (nl : Nat) (nn : Nat) (nf : Nat) (nc : Nat) (lk : Int64) (ks : Nat) (gv : Nat → Int32) (gu : Nat → Int32) (gk : Nat → Int32) (gm : Nat → Int32) (gc : Nat → Int64) (gw : Nat → Int32) (gl : Nat → Int32) (gh : Nat → Int32) (gt : Nat → Int64) (gy : Nat → Int32) (gq : Nat → Int32) (ge1 : Nat → Int32) (gn1 : Nat → Int32) (gp1 : Nat → Int32) (gs : Nat → Int32) (gx1 : Nat → Int32) (gx2 : Nat → Int32) (gx3 : Nat → Int32) (ln : Nat → Nat) (fz : Nat → Nat) (sq : Nat → Nat) (x : Int32) (y : Int32)    (hI : zIM cy f o wev wnb wki wmy wce wiw wli wha wwt wfy wfk wem wna wpl whs wk1 wk2 wk3 u1 u2 u3 nl nn nf nc lk ks gv gu gk gm gc gw gl gh gt gy gq ge1 gn1 gp1 gs gx1 gx2 gx3 ln fz sq) : zCi l D cy yX8_constant cX8_constant 3 (Option.some Jvm.ClassFile.FieldType.int) rmX8_constant [.ref o, .int x, .int y] f (fun (r : Int32) (f1 : zM) => ∃ (u11 : Int32) (u21 : Int32) (u31 : Int32) (nl1 : Nat) (nn1 : Nat) (nf1 : Nat) (nc1 : Nat) (lk1 : Int64) (ks1 : Nat) (gv1 : Nat → Int32) (gu1 : Nat → Int32) (gk1 : Nat → Int32) (gm1 : Nat → Int32) (gc1 : Nat → Int64) (gw1 : Nat → Int32) (gl1 : Nat → Int32) (gh1 : Nat → Int32) (gt1 : Nat → Int64) (gy1 : Nat → Int32) (gq1 : Nat → Int32) (ge11 : Nat → Int32) (gn11 : Nat → Int32) (gp11 : Nat → Int32) (gs1 : Nat → Int32) (gx11 : Nat → Int32) (gx21 : Nat → Int32) (gx31 : Nat → Int32) (ln1 : Nat → Nat) (fz1 : Nat → Nat) (sq1 : Nat → Nat), (u11 = u1) ∧ (u21 = u2) ∧ (u31 = u3) ∧ (gv1 = gv) ∧ (nl1 = nl) ∧ (gu1 = gu) ∧ (nn1 = nn) ∧ (gk1 = gk) ∧ (ln1 = ln) ∧ (gw1 = gw) ∧ (gh1 = gh) ∧ (gc1 = gc) ∧ (nf1 = nf) ∧ (fz1 = fz) ∧ (gq1 = gq) ∧ (nc1 = if 0 ≤ r then nc + 1 else nc) ∧ (ge11 = if 0 ≤ r then va_up ge1 nc x else ge1) ∧ (gn11 = if 0 ≤ r then va_up gn1 nc y else gn1) ∧ (gp11 = if 0 ≤ r then upd gp1 nc (nI (sq (fI x))) else gp1) ∧ (sq1 = if 0 ≤ r then va_up sq (fI x) (sq (fI x) + 1) else sq) ∧ (ks1 = ks) ∧ (gx11 = gx1) ∧ (gx21 = gx2) ∧ (gx31 = gx3) ∧ (lk1 = lk) ∧ (zYC x y nc ge1 gn1 gp1 r) ∧ zIM cy f1 o wev wnb wki wmy wce wiw wli wha wwt wfy wfk wem wna wpl whs wk1 wk2 wk3 u11 u21 u31 nl1 nn1 nf1 nc1 lk1 ks1 gv1 gu1 gk1 gm1 gc1 gw1 gl1 gh1 gt1 gy1 gq1 ge11 gn11 gp11 gs1 gx11 gx21 gx31 ln1 fz1 sq1) := by
  intro sz
  refine z_body (by decide +kernel) (Nat.le_of_ble_eq_true rfl) ?_
  intro p e s m below meth c ls C hr hin hsz hz hl
  subst hsz
  have hx := C.1
  have hb := C.2.1
  have hA : ∀ q, s.heap.size ≤ q → zA f s.heap.size q := fun q h => Or.inr h
  have hS : va_S (zA f s.heap.size) s.heap s.heap [] := va_S.rf
  have hl : lv_has ls 3 [(0, .ref o), (1, .int x), (2, .int y)] := hl
  obtain ⟨x_o, x_wev, x_wnb, x_wki, x_wmy, x_wce, x_wiw, x_wli, x_wha, x_wwt, x_wfy, x_wfk, x_wem, x_wna, x_wpl, x_whs, x_wk1, x_wk2, x_wk3, hn60, hl12, hf6, hc60, hs40, hMP, hgy, hfz, hgs, hME, hlk, hgw, hfd, n_wki_wmy, n_wki_wiw, n_wki_wli, n_wki_wha, n_wki_wem, n_wki_wna, n_wki_wpl, n_wmy_wiw, n_wmy_wli, n_wmy_wha, n_wmy_wem, n_wmy_wna, n_wmy_wpl, n_wiw_wli, n_wiw_wha, n_wiw_wem, n_wiw_wna, n_wiw_wpl, n_wli_wha, n_wli_wem, n_wli_wna, n_wli_wpl, n_wha_wem, n_wha_wna, n_wha_wpl, n_wem_wna, n_wem_wpl, n_wna_wpl, n_wk1_wk2, n_wk1_wk3, n_wk2_wk3⟩ := id hI
  by_cases he : 0 ≤ x ∧ x < 4
  · obtain ⟨j, hj, hxj⟩ := z_ix4 he
    have hIj : fI x = j := fI_of (by omega) hxj
    refine lv_iload_n hx hb dX8_constant_0 rfl (lv_at hl 1 rfl) ?_
    refine z_callSi (As := [.int x]) C hz hS hA hl (k_X8_isEnumeration_A l D cy f x j  hxj hj) zyX8_isEnumeration mMX8_196 rfl rfl (Nat.le_of_ble_eq_true rfl) ⟨Nat.le_of_ble_eq_true rfl, Nat.le_of_ble_eq_true rfl⟩ ⟨Nat.le_of_ble_eq_true rfl, Nat.le_of_ble_eq_true rfl⟩ dX8_constant_1 (fun r f1 H locs h2 hz hS => ?_)
    obtain ⟨rfl, k3⟩ := h2
    refine lv_if_eq (tgt := 28) hx hb dX8_constant_4 (by decide) (fun c4 => ?_) (fun c4 => ?_)
    · exact absurd c4 (by decide)
    refine lv_iload_n hx hb dX8_constant_7 rfl (lv_at hl 2 rfl) ?_
    refine lv_if_lt (tgt := 28) hx hb dX8_constant_8 (by decide) (fun c5 => ?_) (fun c5 => ?_)
    · refine lv_bipush (v := (-2)) hx hb dX8_constant_28 (by decide) ?_
      have a6 : f1 o = some (.inr (8, [.int u1, .int u2, .int u3, .ref wev, .int (nI nl), .ref wnb, .int (nI nn), .ref wki, .ref wmy, .ref wce, .ref wiw, .ref wli, .ref wha, .ref wwt, .int (nI nf), .ref wfy, .ref wfk, .int (nI nc), .ref wem, .ref wna, .ref wpl, .ref whs, .long lk, .int (nI ks), .ref wk1, .ref wk2, .ref wk3])) := k3 _ _ x_o 
      have a7 : f1 wev = some (.inl (cy 0, 8, .inl gv)) := k3 _ _ x_wev 
      have a8 : f1 wnb = some (.inl (cy 0, 12, .inl gu)) := k3 _ _ x_wnb 
      have a9 : f1 wki = some (.inl (cy 0, 60, .inl gk)) := k3 _ _ x_wki 
      have a10 : f1 wmy = some (.inl (cy 0, 60, .inl gm)) := k3 _ _ x_wmy 
      have a11 : f1 wce = some (.inl (cy 1, 960, .inr (.inl gc))) := k3 _ _ x_wce 
      have a12 : f1 wiw = some (.inl (cy 2, 60, .inl gw)) := k3 _ _ x_wiw 
      have a13 : f1 wli = some (.inl (cy 0, 60, .inl gl)) := k3 _ _ x_wli 
      have a14 : f1 wha = some (.inl (cy 0, 60, .inl gh)) := k3 _ _ x_wha 
      have a15 : f1 wwt = some (.inl (cy 1, 60, .inr (.inl gt))) := k3 _ _ x_wwt 
      have a16 : f1 wfy = some (.inl (cy 0, 6, .inl gy)) := k3 _ _ x_wfy 
      have a17 : f1 wfk = some (.inl (cy 0, 24, .inl gq)) := k3 _ _ x_wfk 
      have a18 : f1 wem = some (.inl (cy 0, 60, .inl ge1)) := k3 _ _ x_wem 
      have a19 : f1 wna = some (.inl (cy 0, 60, .inl gn1)) := k3 _ _ x_wna 
      have a20 : f1 wpl = some (.inl (cy 0, 60, .inl gp1)) := k3 _ _ x_wpl 
      have a21 : f1 whs = some (.inl (cy 0, 4, .inl gs)) := k3 _ _ x_whs 
      have a22 : f1 wk1 = some (.inl (cy 0, 40, .inl gx1)) := k3 _ _ x_wk1 
      have a23 : f1 wk2 = some (.inl (cy 0, 40, .inl gx2)) := k3 _ _ x_wk2 
      have a24 : f1 wk3 = some (.inl (cy 0, 40, .inl gx3)) := k3 _ _ x_wk3 
      exact z_iret C hr rfl hz hS ⟨u1, u2, u3, nl, nn, nf, nc, lk, ks, gv, gu, gk, gm, gc, gw, gl, gh, gt, gy, gq, ge1, gn1, gp1, gs, gx1, gx2, gx3, ln, fz, sq, rfl, rfl, rfl, rfl, rfl, rfl, rfl, rfl, rfl, rfl, rfl, rfl, rfl, rfl, rfl, (by rw [if_neg (by decide)]), (by rw [if_neg (by decide)]), (by rw [if_neg (by decide)]), (by rw [if_neg (by decide)]), (by rw [if_neg (by decide)]), rfl, rfl, rfl, rfl, rfl, (Or.inr ⟨rfl, Or.inr (Or.inl (fun h9 => absurd h9.1 (Int32.not_le.mpr c5)))⟩), ⟨a6, a7, a8, a9, a10, a11, a12, a13, a14, a15, a16, a17, a18, a19, a20, a21, a22, a23, a24, hn60, hl12, hf6, hc60, hs40, hMP, hgy, hfz, hgs, hME, hlk, hgw, hfd, n_wki_wmy, n_wki_wiw, n_wki_wli, n_wki_wha, n_wki_wem, n_wki_wna, n_wki_wpl, n_wmy_wiw, n_wmy_wli, n_wmy_wha, n_wmy_wem, n_wmy_wna, n_wmy_wpl, n_wiw_wli, n_wiw_wha, n_wiw_wem, n_wiw_wna, n_wiw_wpl, n_wli_wha, n_wli_wem, n_wli_wna, n_wli_wpl, n_wha_wem, n_wha_wna, n_wha_wpl, n_wem_wna, n_wem_wpl, n_wna_wpl, n_wk1_wk2, n_wk1_wk3, n_wk2_wk3⟩⟩ (Nat.le_of_ble_eq_true rfl) (Nat.le_of_ble_eq_true rfl) dX8_constant_30
    · refine lv_iload_n hx hb dX8_constant_11 rfl (lv_at hl 2 rfl) ?_
      refine lv_sipush (v := 10000) hx hb dX8_constant_12 (by decide) ?_
      refine lv_icmp_ge (tgt := 28) hx hb dX8_constant_15 (by decide) (fun c25 => ?_) (fun c25 => ?_)
      · refine lv_bipush (v := (-2)) hx hb dX8_constant_28 (by decide) ?_
        have a26 : f1 o = some (.inr (8, [.int u1, .int u2, .int u3, .ref wev, .int (nI nl), .ref wnb, .int (nI nn), .ref wki, .ref wmy, .ref wce, .ref wiw, .ref wli, .ref wha, .ref wwt, .int (nI nf), .ref wfy, .ref wfk, .int (nI nc), .ref wem, .ref wna, .ref wpl, .ref whs, .long lk, .int (nI ks), .ref wk1, .ref wk2, .ref wk3])) := k3 _ _ x_o 
        have a27 : f1 wev = some (.inl (cy 0, 8, .inl gv)) := k3 _ _ x_wev 
        have a28 : f1 wnb = some (.inl (cy 0, 12, .inl gu)) := k3 _ _ x_wnb 
        have a29 : f1 wki = some (.inl (cy 0, 60, .inl gk)) := k3 _ _ x_wki 
        have a30 : f1 wmy = some (.inl (cy 0, 60, .inl gm)) := k3 _ _ x_wmy 
        have a31 : f1 wce = some (.inl (cy 1, 960, .inr (.inl gc))) := k3 _ _ x_wce 
        have a32 : f1 wiw = some (.inl (cy 2, 60, .inl gw)) := k3 _ _ x_wiw 
        have a33 : f1 wli = some (.inl (cy 0, 60, .inl gl)) := k3 _ _ x_wli 
        have a34 : f1 wha = some (.inl (cy 0, 60, .inl gh)) := k3 _ _ x_wha 
        have a35 : f1 wwt = some (.inl (cy 1, 60, .inr (.inl gt))) := k3 _ _ x_wwt 
        have a36 : f1 wfy = some (.inl (cy 0, 6, .inl gy)) := k3 _ _ x_wfy 
        have a37 : f1 wfk = some (.inl (cy 0, 24, .inl gq)) := k3 _ _ x_wfk 
        have a38 : f1 wem = some (.inl (cy 0, 60, .inl ge1)) := k3 _ _ x_wem 
        have a39 : f1 wna = some (.inl (cy 0, 60, .inl gn1)) := k3 _ _ x_wna 
        have a40 : f1 wpl = some (.inl (cy 0, 60, .inl gp1)) := k3 _ _ x_wpl 
        have a41 : f1 whs = some (.inl (cy 0, 4, .inl gs)) := k3 _ _ x_whs 
        have a42 : f1 wk1 = some (.inl (cy 0, 40, .inl gx1)) := k3 _ _ x_wk1 
        have a43 : f1 wk2 = some (.inl (cy 0, 40, .inl gx2)) := k3 _ _ x_wk2 
        have a44 : f1 wk3 = some (.inl (cy 0, 40, .inl gx3)) := k3 _ _ x_wk3 
        exact z_iret C hr rfl hz hS ⟨u1, u2, u3, nl, nn, nf, nc, lk, ks, gv, gu, gk, gm, gc, gw, gl, gh, gt, gy, gq, ge1, gn1, gp1, gs, gx1, gx2, gx3, ln, fz, sq, rfl, rfl, rfl, rfl, rfl, rfl, rfl, rfl, rfl, rfl, rfl, rfl, rfl, rfl, rfl, (by rw [if_neg (by decide)]), (by rw [if_neg (by decide)]), (by rw [if_neg (by decide)]), (by rw [if_neg (by decide)]), (by rw [if_neg (by decide)]), rfl, rfl, rfl, rfl, rfl, (Or.inr ⟨rfl, Or.inr (Or.inl (fun h9 => absurd h9.2 (Int32.not_lt.mpr c25)))⟩), ⟨a26, a27, a28, a29, a30, a31, a32, a33, a34, a35, a36, a37, a38, a39, a40, a41, a42, a43, a44, hn60, hl12, hf6, hc60, hs40, hMP, hgy, hfz, hgs, hME, hlk, hgw, hfd, n_wki_wmy, n_wki_wiw, n_wki_wli, n_wki_wha, n_wki_wem, n_wki_wna, n_wki_wpl, n_wmy_wiw, n_wmy_wli, n_wmy_wha, n_wmy_wem, n_wmy_wna, n_wmy_wpl, n_wiw_wli, n_wiw_wha, n_wiw_wem, n_wiw_wna, n_wiw_wpl, n_wli_wha, n_wli_wem, n_wli_wna, n_wli_wpl, n_wha_wem, n_wha_wna, n_wha_wpl, n_wem_wna, n_wem_wpl, n_wna_wpl, n_wk1_wk2, n_wk1_wk3, n_wk2_wk3⟩⟩ (Nat.le_of_ble_eq_true rfl) (Nat.le_of_ble_eq_true rfl) dX8_constant_30
      · refine lv_aload_n hx hb dX8_constant_18 rfl (lv_at hl 0 rfl) ?_
        refine lv_iload_n hx hb dX8_constant_19 rfl (lv_at hl 1 rfl) ?_
        refine lv_iload_n hx hb dX8_constant_20 rfl (lv_at hl 2 rfl) ?_
        have a45 : f1 o = some (.inr (8, [.int u1, .int u2, .int u3, .ref wev, .int (nI nl), .ref wnb, .int (nI nn), .ref wki, .ref wmy, .ref wce, .ref wiw, .ref wli, .ref wha, .ref wwt, .int (nI nf), .ref wfy, .ref wfk, .int (nI nc), .ref wem, .ref wna, .ref wpl, .ref whs, .long lk, .int (nI ks), .ref wk1, .ref wk2, .ref wk3])) := k3 _ _ x_o 
        have a46 : f1 wem = some (.inl (cy 0, 60, .inl ge1)) := k3 _ _ x_wem 
        have a47 : f1 wna = some (.inl (cy 0, 60, .inl gn1)) := k3 _ _ x_wna 
        have a48 : f1 wpl = some (.inl (cy 0, 60, .inl gp1)) := k3 _ _ x_wpl 
        refine z_callVi (As := [.int x, .int y]) C hz hS hA hl (k_X8_constantOf l D cy f1 o wev wnb wki wmy wce wiw wli wha wwt wfy wfk wem wna wpl whs wk1 wk2 wk3 u1 u2 u3 nl nn nf nc lk ks ge1 gn1 gp1 x y a45 a46 a47 a48 hc60) zyX8_constantOf mMX8_199 a45 zl8 rfl rfl (Nat.le_of_ble_eq_true rfl) ⟨Nat.le_of_ble_eq_true rfl, Nat.le_of_ble_eq_true rfl⟩ ⟨Nat.le_of_ble_eq_true rfl, Nat.le_of_ble_eq_true rfl⟩ dX8_constant_21 (fun r51 f49 H locs h50 hz hS => ?_)
        obtain ⟨pq52, k53⟩ := h50
        refine lv_iconst (v := (-1)) hx hb dX8_constant_24 (by decide) ?_
        refine lv_icmp_eq (tgt := 31) hx hb dX8_constant_25 (by decide) (fun c54 => ?_) (fun c54 => ?_)
        · refine lv_aload_n hx hb dX8_constant_31 rfl (lv_at hl 0 rfl) ?_
          have a55 : f49 o = some (.inr (8, [.int u1, .int u2, .int u3, .ref wev, .int (nI nl), .ref wnb, .int (nI nn), .ref wki, .ref wmy, .ref wce, .ref wiw, .ref wli, .ref wha, .ref wwt, .int (nI nf), .ref wfy, .ref wfk, .int (nI nc), .ref wem, .ref wna, .ref wpl, .ref whs, .long lk, .int (nI ks), .ref wk1, .ref wk2, .ref wk3])) := k53 _ _ a45 
          refine z_get (v := .int (nI nc)) C hz a55 zl8 mFX8_193 (by decide) rfl dX8_constant_32 ?_
          refine lv_bipush (v := 60) hx hb dX8_constant_35 (by decide) ?_
          refine lv_icmp_ne (tgt := 43) hx hb dX8_constant_37 (by decide) (fun c56 => ?_) (fun c56 => ?_)
          · replace c56 : ¬ (nc = 60) := fun h => c56 ((nI_eq (a := nc) (b := 60) (by omega) (by omega)).mpr h)
            refine lv_aload_n hx hb dX8_constant_43 rfl (lv_at hl 0 rfl) ?_
            refine z_get (v := .ref wem) C hz a55 zl8 mFX8_49 (by decide) rfl dX8_constant_44 ?_
            refine lv_aload_n hx hb dX8_constant_47 rfl (lv_at hl 0 rfl) ?_
            refine z_get (v := .int (nI nc)) C hz a55 zl8 mFX8_193 (by decide) rfl dX8_constant_48 ?_
            refine lv_iload_n hx hb dX8_constant_51 rfl (lv_at hl 1 rfl) ?_
            have a57 : f49 wem = some (.inl (cy 0, 60, .inl ge1)) := k53 _ _ a46 
            refine z_iast nc C hz hS a57 rfl (by omega) (by omega) dX8_constant_52 (fun H locs f58 a59 k60 hz hS => ?_)
            refine lv_aload_n hx hb dX8_constant_53 rfl (lv_at hl 0 rfl) ?_
            have a61 : f58 o = some (.inr (8, [.int u1, .int u2, .int u3, .ref wev, .int (nI nl), .ref wnb, .int (nI nn), .ref wki, .ref wmy, .ref wce, .ref wiw, .ref wli, .ref wha, .ref wwt, .int (nI nf), .ref wfy, .ref wfk, .int (nI nc), .ref wem, .ref wna, .ref wpl, .ref whs, .long lk, .int (nI ks), .ref wk1, .ref wk2, .ref wk3])) := (k60 _ (z_ne a55 a57 rfl)).trans a55
            refine z_get (v := .ref wna) C hz a61 zl8 mFX8_52 (by decide) rfl dX8_constant_54 ?_
            refine lv_aload_n hx hb dX8_constant_57 rfl (lv_at hl 0 rfl) ?_
            refine z_get (v := .int (nI nc)) C hz a61 zl8 mFX8_193 (by decide) rfl dX8_constant_58 ?_
            refine lv_iload_n hx hb dX8_constant_61 rfl (lv_at hl 2 rfl) ?_
            have a62 : f49 wna = some (.inl (cy 0, 60, .inl gn1)) := k53 _ _ a47 
            have a63 : f58 wna = some (.inl (cy 0, 60, .inl gn1)) := (k60 _ (Ne.symm n_wem_wna)).trans a62
            refine z_iast nc C hz hS a63 rfl (by omega) (by omega) dX8_constant_62 (fun H locs f64 a65 k66 hz hS => ?_)
            refine lv_aload_n hx hb dX8_constant_63 rfl (lv_at hl 0 rfl) ?_
            have a67 : f64 o = some (.inr (8, [.int u1, .int u2, .int u3, .ref wev, .int (nI nl), .ref wnb, .int (nI nn), .ref wki, .ref wmy, .ref wce, .ref wiw, .ref wli, .ref wha, .ref wwt, .int (nI nf), .ref wfy, .ref wfk, .int (nI nc), .ref wem, .ref wna, .ref wpl, .ref whs, .long lk, .int (nI ks), .ref wk1, .ref wk2, .ref wk3])) := (k66 _ (z_ne a61 a63 rfl)).trans a61
            refine z_get (v := .ref wpl) C hz a67 zl8 mFX8_55 (by decide) rfl dX8_constant_64 ?_
            refine lv_aload_n hx hb dX8_constant_67 rfl (lv_at hl 0 rfl) ?_
            refine z_get (v := .int (nI nc)) C hz a67 zl8 mFX8_193 (by decide) rfl dX8_constant_68 ?_
            refine lv_aload_n hx hb dX8_constant_71 rfl (lv_at hl 0 rfl) ?_
            refine z_get (v := .ref whs) C hz a67 zl8 mFX8_58 (by decide) rfl dX8_constant_72 ?_
            refine lv_iload_n hx hb dX8_constant_75 rfl (lv_at hl 1 rfl) ?_
            have a68 : f1 whs = some (.inl (cy 0, 4, .inl gs)) := k3 _ _ x_whs 
            have a69 : f49 whs = some (.inl (cy 0, 4, .inl gs)) := k53 _ _ a68 
            have a70 : f58 whs = some (.inl (cy 0, 4, .inl gs)) := (k60 _ (z_ne a69 a57 rfl)).trans a69
            have a71 : f64 whs = some (.inl (cy 0, 4, .inl gs)) := (k66 _ (z_ne a70 a63 rfl)).trans a70
            refine z_iald j C hz a71 hxj hj (by omega) dX8_constant_76 ?_
            refine lv_topi (fun y72 e73 => ?_)
            obtain rfl : y72 = nI (sq j) := e73.trans (hgs j hj)
            have a74 : f49 wpl = some (.inl (cy 0, 60, .inl gp1)) := k53 _ _ a48 
            have a75 : f58 wpl = some (.inl (cy 0, 60, .inl gp1)) := (k60 _ (Ne.symm n_wem_wpl)).trans a74
            have a76 : f64 wpl = some (.inl (cy 0, 60, .inl gp1)) := (k66 _ (Ne.symm n_wna_wpl)).trans a75
            refine z_iast nc C hz hS a76 rfl (by omega) (by omega) dX8_constant_77 (fun H locs f77 a78 k79 hz hS => ?_)
            refine lv_aload_n hx hb dX8_constant_78 rfl (lv_at hl 0 rfl) ?_
            have a80 : f77 o = some (.inr (8, [.int u1, .int u2, .int u3, .ref wev, .int (nI nl), .ref wnb, .int (nI nn), .ref wki, .ref wmy, .ref wce, .ref wiw, .ref wli, .ref wha, .ref wwt, .int (nI nf), .ref wfy, .ref wfk, .int (nI nc), .ref wem, .ref wna, .ref wpl, .ref whs, .long lk, .int (nI ks), .ref wk1, .ref wk2, .ref wk3])) := (k79 _ (z_ne a67 a76 rfl)).trans a67
            refine z_get (v := .ref whs) C hz a80 zl8 mFX8_58 (by decide) rfl dX8_constant_79 ?_
            refine lv_iload_n hx hb dX8_constant_82 rfl (lv_at hl 1 rfl) ?_
            refine lv_dup2_11 hx hb dX8_constant_83 rfl rfl ?_
            have a81 : f77 whs = some (.inl (cy 0, 4, .inl gs)) := (k79 _ (z_ne a71 a76 rfl)).trans a71
            refine z_iald j C hz a81 hxj hj (by omega) dX8_constant_84 ?_
            refine lv_topi (fun y82 e83 => ?_)
            obtain rfl : y82 = nI (sq j) := e83.trans (hgs j hj)
            refine lv_iconst (v := 1) hx hb dX8_constant_85 (by decide) ?_
            refine lv_iadd hx hb dX8_constant_86 ?_
            refine lv_topi (fun y84 e85 => ?_)
            obtain rfl : y84 = nI (sq j + 1) := e85.trans (nI_1 (sq j))
            refine z_iast j C hz hS a81 hxj hj (by omega) dX8_constant_87 (fun H locs f86 a87 k88 hz hS => ?_)
            refine lv_aload_n hx hb dX8_constant_88 rfl (lv_at hl 0 rfl) ?_
            refine lv_dup hx hb dX8_constant_89 rfl ?_
            have a89 : f86 o = some (.inr (8, [.int u1, .int u2, .int u3, .ref wev, .int (nI nl), .ref wnb, .int (nI nn), .ref wki, .ref wmy, .ref wce, .ref wiw, .ref wli, .ref wha, .ref wwt, .int (nI nf), .ref wfy, .ref wfk, .int (nI nc), .ref wem, .ref wna, .ref wpl, .ref whs, .long lk, .int (nI ks), .ref wk1, .ref wk2, .ref wk3])) := (k88 _ (z_ne a80 a81 rfl)).trans a80
            refine z_get (v := .int (nI nc)) C hz a89 zl8 mFX8_193 (by decide) rfl dX8_constant_90 ?_
            refine lv_iconst (v := 1) hx hb dX8_constant_93 (by decide) ?_
            refine lv_iadd hx hb dX8_constant_94 ?_
            refine lv_topi (fun y90 e91 => ?_)
            obtain rfl : y90 = nI (nc + 1) := e91.trans (nI_1 nc)
            refine z_put (fs' := [.int u1, .int u2, .int u3, .ref wev, .int (nI nl), .ref wnb, .int (nI nn), .ref wki, .ref wmy, .ref wce, .ref wiw, .ref wli, .ref wha, .ref wwt, .int (nI nf), .ref wfy, .ref wfk, .int (nI (nc + 1)), .ref wem, .ref wna, .ref wpl, .ref whs, .long lk, .int (nI ks), .ref wk1, .ref wk2, .ref wk3]) C hz hS a89 zl8 mFX8_193 (by decide) rfl rfl rfl (Nat.le_of_ble_eq_true rfl) rfl dX8_constant_95 (fun H locs f92 a93 k94 hz hS => ?_)
            refine lv_aload_n hx hb dX8_constant_98 rfl (lv_at hl 0 rfl) ?_
            refine z_get (v := .int (nI (nc + 1))) C hz a93 zl8 mFX8_193 (by decide) rfl dX8_constant_99 ?_
            refine lv_iconst (v := 1) hx hb dX8_constant_102 (by decide) ?_
            refine lv_isub hx hb dX8_constant_103 ?_
            refine lv_topi (fun y95 e96 => ?_)
            obtain rfl : y95 = nI nc := e96.trans (pk_sub (a := nc + 1) (b := 1) (by omega))
            have a97 : f1 wev = some (.inl (cy 0, 8, .inl gv)) := k3 _ _ x_wev 
            have a98 : f49 wev = some (.inl (cy 0, 8, .inl gv)) := k53 _ _ a97 
            have a99 : f58 wev = some (.inl (cy 0, 8, .inl gv)) := (k60 _ (z_ne a98 a57 rfl)).trans a98
            have a100 : f64 wev = some (.inl (cy 0, 8, .inl gv)) := (k66 _ (z_ne a99 a63 rfl)).trans a99
            have a101 : f77 wev = some (.inl (cy 0, 8, .inl gv)) := (k79 _ (z_ne a100 a76 rfl)).trans a100
            have a102 : f86 wev = some (.inl (cy 0, 8, .inl gv)) := (k88 _ (z_ne a101 a81 rfl)).trans a101
            have a103 : f92 wev = some (.inl (cy 0, 8, .inl gv)) := (k94 _ (z_ne a102 a89 rfl)).trans a102
            have a104 : f1 wnb = some (.inl (cy 0, 12, .inl gu)) := k3 _ _ x_wnb 
            have a105 : f49 wnb = some (.inl (cy 0, 12, .inl gu)) := k53 _ _ a104 
            have a106 : f58 wnb = some (.inl (cy 0, 12, .inl gu)) := (k60 _ (z_ne a105 a57 rfl)).trans a105
            have a107 : f64 wnb = some (.inl (cy 0, 12, .inl gu)) := (k66 _ (z_ne a106 a63 rfl)).trans a106
            have a108 : f77 wnb = some (.inl (cy 0, 12, .inl gu)) := (k79 _ (z_ne a107 a76 rfl)).trans a107
            have a109 : f86 wnb = some (.inl (cy 0, 12, .inl gu)) := (k88 _ (z_ne a108 a81 rfl)).trans a108
            have a110 : f92 wnb = some (.inl (cy 0, 12, .inl gu)) := (k94 _ (z_ne a109 a89 rfl)).trans a109
            have a111 : f1 wki = some (.inl (cy 0, 60, .inl gk)) := k3 _ _ x_wki 
            have a112 : f49 wki = some (.inl (cy 0, 60, .inl gk)) := k53 _ _ a111 
            have a113 : f58 wki = some (.inl (cy 0, 60, .inl gk)) := (k60 _ n_wki_wem).trans a112
            have a114 : f64 wki = some (.inl (cy 0, 60, .inl gk)) := (k66 _ n_wki_wna).trans a113
            have a115 : f77 wki = some (.inl (cy 0, 60, .inl gk)) := (k79 _ n_wki_wpl).trans a114
            have a116 : f86 wki = some (.inl (cy 0, 60, .inl gk)) := (k88 _ (z_ne a115 a81 rfl)).trans a115
            have a117 : f92 wki = some (.inl (cy 0, 60, .inl gk)) := (k94 _ (z_ne a116 a89 rfl)).trans a116
            have a118 : f1 wmy = some (.inl (cy 0, 60, .inl gm)) := k3 _ _ x_wmy 
            have a119 : f49 wmy = some (.inl (cy 0, 60, .inl gm)) := k53 _ _ a118 
            have a120 : f58 wmy = some (.inl (cy 0, 60, .inl gm)) := (k60 _ n_wmy_wem).trans a119
            have a121 : f64 wmy = some (.inl (cy 0, 60, .inl gm)) := (k66 _ n_wmy_wna).trans a120
            have a122 : f77 wmy = some (.inl (cy 0, 60, .inl gm)) := (k79 _ n_wmy_wpl).trans a121
            have a123 : f86 wmy = some (.inl (cy 0, 60, .inl gm)) := (k88 _ (z_ne a122 a81 rfl)).trans a122
            have a124 : f92 wmy = some (.inl (cy 0, 60, .inl gm)) := (k94 _ (z_ne a123 a89 rfl)).trans a123
            have a125 : f1 wce = some (.inl (cy 1, 960, .inr (.inl gc))) := k3 _ _ x_wce 
            have a126 : f49 wce = some (.inl (cy 1, 960, .inr (.inl gc))) := k53 _ _ a125 
            have a127 : f58 wce = some (.inl (cy 1, 960, .inr (.inl gc))) := (k60 _ (z_ne a126 a57 rfl)).trans a126
            have a128 : f64 wce = some (.inl (cy 1, 960, .inr (.inl gc))) := (k66 _ (z_ne a127 a63 rfl)).trans a127
            have a129 : f77 wce = some (.inl (cy 1, 960, .inr (.inl gc))) := (k79 _ (z_ne a128 a76 rfl)).trans a128
            have a130 : f86 wce = some (.inl (cy 1, 960, .inr (.inl gc))) := (k88 _ (z_ne a129 a81 rfl)).trans a129
            have a131 : f92 wce = some (.inl (cy 1, 960, .inr (.inl gc))) := (k94 _ (z_ne a130 a89 rfl)).trans a130
            have a132 : f1 wiw = some (.inl (cy 2, 60, .inl gw)) := k3 _ _ x_wiw 
            have a133 : f49 wiw = some (.inl (cy 2, 60, .inl gw)) := k53 _ _ a132 
            have a134 : f58 wiw = some (.inl (cy 2, 60, .inl gw)) := (k60 _ n_wiw_wem).trans a133
            have a135 : f64 wiw = some (.inl (cy 2, 60, .inl gw)) := (k66 _ n_wiw_wna).trans a134
            have a136 : f77 wiw = some (.inl (cy 2, 60, .inl gw)) := (k79 _ n_wiw_wpl).trans a135
            have a137 : f86 wiw = some (.inl (cy 2, 60, .inl gw)) := (k88 _ (z_ne a136 a81 rfl)).trans a136
            have a138 : f92 wiw = some (.inl (cy 2, 60, .inl gw)) := (k94 _ (z_ne a137 a89 rfl)).trans a137
            have a139 : f1 wli = some (.inl (cy 0, 60, .inl gl)) := k3 _ _ x_wli 
            have a140 : f49 wli = some (.inl (cy 0, 60, .inl gl)) := k53 _ _ a139 
            have a141 : f58 wli = some (.inl (cy 0, 60, .inl gl)) := (k60 _ n_wli_wem).trans a140
            have a142 : f64 wli = some (.inl (cy 0, 60, .inl gl)) := (k66 _ n_wli_wna).trans a141
            have a143 : f77 wli = some (.inl (cy 0, 60, .inl gl)) := (k79 _ n_wli_wpl).trans a142
            have a144 : f86 wli = some (.inl (cy 0, 60, .inl gl)) := (k88 _ (z_ne a143 a81 rfl)).trans a143
            have a145 : f92 wli = some (.inl (cy 0, 60, .inl gl)) := (k94 _ (z_ne a144 a89 rfl)).trans a144
            have a146 : f1 wha = some (.inl (cy 0, 60, .inl gh)) := k3 _ _ x_wha 
            have a147 : f49 wha = some (.inl (cy 0, 60, .inl gh)) := k53 _ _ a146 
            have a148 : f58 wha = some (.inl (cy 0, 60, .inl gh)) := (k60 _ n_wha_wem).trans a147
            have a149 : f64 wha = some (.inl (cy 0, 60, .inl gh)) := (k66 _ n_wha_wna).trans a148
            have a150 : f77 wha = some (.inl (cy 0, 60, .inl gh)) := (k79 _ n_wha_wpl).trans a149
            have a151 : f86 wha = some (.inl (cy 0, 60, .inl gh)) := (k88 _ (z_ne a150 a81 rfl)).trans a150
            have a152 : f92 wha = some (.inl (cy 0, 60, .inl gh)) := (k94 _ (z_ne a151 a89 rfl)).trans a151
            have a153 : f1 wwt = some (.inl (cy 1, 60, .inr (.inl gt))) := k3 _ _ x_wwt 
            have a154 : f49 wwt = some (.inl (cy 1, 60, .inr (.inl gt))) := k53 _ _ a153 
            have a155 : f58 wwt = some (.inl (cy 1, 60, .inr (.inl gt))) := (k60 _ (z_ne a154 a57 rfl)).trans a154
            have a156 : f64 wwt = some (.inl (cy 1, 60, .inr (.inl gt))) := (k66 _ (z_ne a155 a63 rfl)).trans a155
            have a157 : f77 wwt = some (.inl (cy 1, 60, .inr (.inl gt))) := (k79 _ (z_ne a156 a76 rfl)).trans a156
            have a158 : f86 wwt = some (.inl (cy 1, 60, .inr (.inl gt))) := (k88 _ (z_ne a157 a81 rfl)).trans a157
            have a159 : f92 wwt = some (.inl (cy 1, 60, .inr (.inl gt))) := (k94 _ (z_ne a158 a89 rfl)).trans a158
            have a160 : f1 wfy = some (.inl (cy 0, 6, .inl gy)) := k3 _ _ x_wfy 
            have a161 : f49 wfy = some (.inl (cy 0, 6, .inl gy)) := k53 _ _ a160 
            have a162 : f58 wfy = some (.inl (cy 0, 6, .inl gy)) := (k60 _ (z_ne a161 a57 rfl)).trans a161
            have a163 : f64 wfy = some (.inl (cy 0, 6, .inl gy)) := (k66 _ (z_ne a162 a63 rfl)).trans a162
            have a164 : f77 wfy = some (.inl (cy 0, 6, .inl gy)) := (k79 _ (z_ne a163 a76 rfl)).trans a163
            have a165 : f86 wfy = some (.inl (cy 0, 6, .inl gy)) := (k88 _ (z_ne a164 a81 rfl)).trans a164
            have a166 : f92 wfy = some (.inl (cy 0, 6, .inl gy)) := (k94 _ (z_ne a165 a89 rfl)).trans a165
            have a167 : f1 wfk = some (.inl (cy 0, 24, .inl gq)) := k3 _ _ x_wfk 
            have a168 : f49 wfk = some (.inl (cy 0, 24, .inl gq)) := k53 _ _ a167 
            have a169 : f58 wfk = some (.inl (cy 0, 24, .inl gq)) := (k60 _ (z_ne a168 a57 rfl)).trans a168
            have a170 : f64 wfk = some (.inl (cy 0, 24, .inl gq)) := (k66 _ (z_ne a169 a63 rfl)).trans a169
            have a171 : f77 wfk = some (.inl (cy 0, 24, .inl gq)) := (k79 _ (z_ne a170 a76 rfl)).trans a170
            have a172 : f86 wfk = some (.inl (cy 0, 24, .inl gq)) := (k88 _ (z_ne a171 a81 rfl)).trans a171
            have a173 : f92 wfk = some (.inl (cy 0, 24, .inl gq)) := (k94 _ (z_ne a172 a89 rfl)).trans a172
            have a174 : f64 wem = some (.inl (cy 0, 60, .inl (upd ge1 nc x))) := (k66 _ n_wem_wna).trans a59
            have a175 : f77 wem = some (.inl (cy 0, 60, .inl (upd ge1 nc x))) := (k79 _ n_wem_wpl).trans a174
            have a176 : f86 wem = some (.inl (cy 0, 60, .inl (upd ge1 nc x))) := (k88 _ (z_ne a175 a81 rfl)).trans a175
            have a177 : f92 wem = some (.inl (cy 0, 60, .inl (upd ge1 nc x))) := (k94 _ (z_ne a176 a89 rfl)).trans a176
            have a178 : f77 wna = some (.inl (cy 0, 60, .inl (upd gn1 nc y))) := (k79 _ n_wna_wpl).trans a65
            have a179 : f86 wna = some (.inl (cy 0, 60, .inl (upd gn1 nc y))) := (k88 _ (z_ne a178 a81 rfl)).trans a178
            have a180 : f92 wna = some (.inl (cy 0, 60, .inl (upd gn1 nc y))) := (k94 _ (z_ne a179 a89 rfl)).trans a179
            have a181 : f86 wpl = some (.inl (cy 0, 60, .inl (upd gp1 nc (nI (sq j))))) := (k88 _ (z_ne a78 a81 rfl)).trans a78
            have a182 : f92 wpl = some (.inl (cy 0, 60, .inl (upd gp1 nc (nI (sq j))))) := (k94 _ (z_ne a181 a89 rfl)).trans a181
            have a183 : f92 whs = some (.inl (cy 0, 4, .inl (upd gs j (nI (sq j + 1))))) := (k94 _ (z_ne a87 a89 rfl)).trans a87
            have a184 : f1 wk1 = some (.inl (cy 0, 40, .inl gx1)) := k3 _ _ x_wk1 
            have a185 : f49 wk1 = some (.inl (cy 0, 40, .inl gx1)) := k53 _ _ a184 
            have a186 : f58 wk1 = some (.inl (cy 0, 40, .inl gx1)) := (k60 _ (z_ne a185 a57 rfl)).trans a185
            have a187 : f64 wk1 = some (.inl (cy 0, 40, .inl gx1)) := (k66 _ (z_ne a186 a63 rfl)).trans a186
            have a188 : f77 wk1 = some (.inl (cy 0, 40, .inl gx1)) := (k79 _ (z_ne a187 a76 rfl)).trans a187
            have a189 : f86 wk1 = some (.inl (cy 0, 40, .inl gx1)) := (k88 _ (z_ne a188 a81 rfl)).trans a188
            have a190 : f92 wk1 = some (.inl (cy 0, 40, .inl gx1)) := (k94 _ (z_ne a189 a89 rfl)).trans a189
            have a191 : f1 wk2 = some (.inl (cy 0, 40, .inl gx2)) := k3 _ _ x_wk2 
            have a192 : f49 wk2 = some (.inl (cy 0, 40, .inl gx2)) := k53 _ _ a191 
            have a193 : f58 wk2 = some (.inl (cy 0, 40, .inl gx2)) := (k60 _ (z_ne a192 a57 rfl)).trans a192
            have a194 : f64 wk2 = some (.inl (cy 0, 40, .inl gx2)) := (k66 _ (z_ne a193 a63 rfl)).trans a193
            have a195 : f77 wk2 = some (.inl (cy 0, 40, .inl gx2)) := (k79 _ (z_ne a194 a76 rfl)).trans a194
            have a196 : f86 wk2 = some (.inl (cy 0, 40, .inl gx2)) := (k88 _ (z_ne a195 a81 rfl)).trans a195
            have a197 : f92 wk2 = some (.inl (cy 0, 40, .inl gx2)) := (k94 _ (z_ne a196 a89 rfl)).trans a196
            have a198 : f1 wk3 = some (.inl (cy 0, 40, .inl gx3)) := k3 _ _ x_wk3 
            have a199 : f49 wk3 = some (.inl (cy 0, 40, .inl gx3)) := k53 _ _ a198 
            have a200 : f58 wk3 = some (.inl (cy 0, 40, .inl gx3)) := (k60 _ (z_ne a199 a57 rfl)).trans a199
            have a201 : f64 wk3 = some (.inl (cy 0, 40, .inl gx3)) := (k66 _ (z_ne a200 a63 rfl)).trans a200
            have a202 : f77 wk3 = some (.inl (cy 0, 40, .inl gx3)) := (k79 _ (z_ne a201 a76 rfl)).trans a201
            have a203 : f86 wk3 = some (.inl (cy 0, 40, .inl gx3)) := (k88 _ (z_ne a202 a81 rfl)).trans a202
            have a204 : f92 wk3 = some (.inl (cy 0, 40, .inl gx3)) := (k94 _ (z_ne a203 a89 rfl)).trans a203
            exact z_iret C hr rfl hz hS ⟨u1, u2, u3, nl, nn, nf, (nc + 1), lk, ks, gv, gu, gk, gm, gc, gw, gl, gh, gt, gy, gq, (upd ge1 nc x), (upd gn1 nc y), (upd gp1 nc (nI (sq j))), (upd gs j (nI (sq j + 1))), gx1, gx2, gx3, ln, fz, (va_up sq j (sq j + 1)), rfl, rfl, rfl, rfl, rfl, rfl, rfl, rfl, rfl, rfl, rfl, rfl, rfl, rfl, rfl, (by rw [if_pos (nI_pos' (by omega))]), (by rw [if_pos (nI_pos' (by omega))]; exact z_uv _ _ _), (by rw [if_pos (nI_pos' (by omega))]; exact z_uv _ _ _), (by rw [if_pos (nI_pos' (by omega)), hIj]), (by rw [if_pos (nI_pos' (by omega)), hIj]), rfl, rfl, rfl, rfl, rfl, (Or.inl ⟨j, hj, hxj, ⟨Int32.not_lt.mp c5, Int32.not_le.mp c25⟩, c54 ▸ pq52, by rw [if_pos (by omega)]⟩), ⟨a93, a103, a110, a117, a124, a131, a138, a145, a152, a159, a166, a173, a177, a180, a182, a183, a190, a197, a204, hn60, hl12, hf6, (by omega), hs40, hMP, hgy, hfz, (z_gs1 hgs), (zME_new hME (by omega) hj hxj), hlk, hgw, hfd, n_wki_wmy, n_wki_wiw, n_wki_wli, n_wki_wha, n_wki_wem, n_wki_wna, n_wki_wpl, n_wmy_wiw, n_wmy_wli, n_wmy_wha, n_wmy_wem, n_wmy_wna, n_wmy_wpl, n_wiw_wli, n_wiw_wha, n_wiw_wem, n_wiw_wna, n_wiw_wpl, n_wli_wha, n_wli_wem, n_wli_wna, n_wli_wpl, n_wha_wem, n_wha_wna, n_wha_wpl, n_wem_wna, n_wem_wpl, n_wna_wpl, n_wk1_wk2, n_wk1_wk3, n_wk2_wk3⟩⟩ (Nat.le_of_ble_eq_true rfl) (Nat.le_of_ble_eq_true rfl) dX8_constant_104
          · replace c56 : (nc = 60) := (nI_eq (a := nc) (b := 60) (by omega) (by omega)).mp c56
            refine lv_bipush (v := (-3)) hx hb dX8_constant_40 (by decide) ?_
            have a205 : f1 wev = some (.inl (cy 0, 8, .inl gv)) := k3 _ _ x_wev 
            have a206 : f49 wev = some (.inl (cy 0, 8, .inl gv)) := k53 _ _ a205 
            have a207 : f1 wnb = some (.inl (cy 0, 12, .inl gu)) := k3 _ _ x_wnb 
            have a208 : f49 wnb = some (.inl (cy 0, 12, .inl gu)) := k53 _ _ a207 
            have a209 : f1 wki = some (.inl (cy 0, 60, .inl gk)) := k3 _ _ x_wki 
            have a210 : f49 wki = some (.inl (cy 0, 60, .inl gk)) := k53 _ _ a209 
            have a211 : f1 wmy = some (.inl (cy 0, 60, .inl gm)) := k3 _ _ x_wmy 
            have a212 : f49 wmy = some (.inl (cy 0, 60, .inl gm)) := k53 _ _ a211 
            have a213 : f1 wce = some (.inl (cy 1, 960, .inr (.inl gc))) := k3 _ _ x_wce 
            have a214 : f49 wce = some (.inl (cy 1, 960, .inr (.inl gc))) := k53 _ _ a213 
            have a215 : f1 wiw = some (.inl (cy 2, 60, .inl gw)) := k3 _ _ x_wiw 
            have a216 : f49 wiw = some (.inl (cy 2, 60, .inl gw)) := k53 _ _ a215 
            have a217 : f1 wli = some (.inl (cy 0, 60, .inl gl)) := k3 _ _ x_wli 
            have a218 : f49 wli = some (.inl (cy 0, 60, .inl gl)) := k53 _ _ a217 
            have a219 : f1 wha = some (.inl (cy 0, 60, .inl gh)) := k3 _ _ x_wha 
            have a220 : f49 wha = some (.inl (cy 0, 60, .inl gh)) := k53 _ _ a219 
            have a221 : f1 wwt = some (.inl (cy 1, 60, .inr (.inl gt))) := k3 _ _ x_wwt 
            have a222 : f49 wwt = some (.inl (cy 1, 60, .inr (.inl gt))) := k53 _ _ a221 
            have a223 : f1 wfy = some (.inl (cy 0, 6, .inl gy)) := k3 _ _ x_wfy 
            have a224 : f49 wfy = some (.inl (cy 0, 6, .inl gy)) := k53 _ _ a223 
            have a225 : f1 wfk = some (.inl (cy 0, 24, .inl gq)) := k3 _ _ x_wfk 
            have a226 : f49 wfk = some (.inl (cy 0, 24, .inl gq)) := k53 _ _ a225 
            have a227 : f49 wem = some (.inl (cy 0, 60, .inl ge1)) := k53 _ _ a46 
            have a228 : f49 wna = some (.inl (cy 0, 60, .inl gn1)) := k53 _ _ a47 
            have a229 : f49 wpl = some (.inl (cy 0, 60, .inl gp1)) := k53 _ _ a48 
            have a230 : f1 whs = some (.inl (cy 0, 4, .inl gs)) := k3 _ _ x_whs 
            have a231 : f49 whs = some (.inl (cy 0, 4, .inl gs)) := k53 _ _ a230 
            have a232 : f1 wk1 = some (.inl (cy 0, 40, .inl gx1)) := k3 _ _ x_wk1 
            have a233 : f49 wk1 = some (.inl (cy 0, 40, .inl gx1)) := k53 _ _ a232 
            have a234 : f1 wk2 = some (.inl (cy 0, 40, .inl gx2)) := k3 _ _ x_wk2 
            have a235 : f49 wk2 = some (.inl (cy 0, 40, .inl gx2)) := k53 _ _ a234 
            have a236 : f1 wk3 = some (.inl (cy 0, 40, .inl gx3)) := k3 _ _ x_wk3 
            have a237 : f49 wk3 = some (.inl (cy 0, 40, .inl gx3)) := k53 _ _ a236 
            exact z_iret C hr rfl hz hS ⟨u1, u2, u3, nl, nn, nf, nc, lk, ks, gv, gu, gk, gm, gc, gw, gl, gh, gt, gy, gq, ge1, gn1, gp1, gs, gx1, gx2, gx3, ln, fz, sq, rfl, rfl, rfl, rfl, rfl, rfl, rfl, rfl, rfl, rfl, rfl, rfl, rfl, rfl, rfl, (by rw [if_neg (by decide)]), (by rw [if_neg (by decide)]), (by rw [if_neg (by decide)]), (by rw [if_neg (by decide)]), (by rw [if_neg (by decide)]), rfl, rfl, rfl, rfl, rfl, (Or.inl ⟨j, hj, hxj, ⟨Int32.not_lt.mp c5, Int32.not_le.mp c25⟩, c54 ▸ pq52, by rw [if_neg (by omega)]⟩), ⟨a55, a206, a208, a210, a212, a214, a216, a218, a220, a222, a224, a226, a227, a228, a229, a231, a233, a235, a237, hn60, hl12, hf6, hc60, hs40, hMP, hgy, hfz, hgs, hME, hlk, hgw, hfd, n_wki_wmy, n_wki_wiw, n_wki_wli, n_wki_wha, n_wki_wem, n_wki_wna, n_wki_wpl, n_wmy_wiw, n_wmy_wli, n_wmy_wha, n_wmy_wem, n_wmy_wna, n_wmy_wpl, n_wiw_wli, n_wiw_wha, n_wiw_wem, n_wiw_wna, n_wiw_wpl, n_wli_wha, n_wli_wem, n_wli_wna, n_wli_wpl, n_wha_wem, n_wha_wna, n_wha_wpl, n_wem_wna, n_wem_wpl, n_wna_wpl, n_wk1_wk2, n_wk1_wk3, n_wk2_wk3⟩⟩ (Nat.le_of_ble_eq_true rfl) (Nat.le_of_ble_eq_true rfl) dX8_constant_42
        · refine lv_bipush (v := (-2)) hx hb dX8_constant_28 (by decide) ?_
          have a238 : f49 o = some (.inr (8, [.int u1, .int u2, .int u3, .ref wev, .int (nI nl), .ref wnb, .int (nI nn), .ref wki, .ref wmy, .ref wce, .ref wiw, .ref wli, .ref wha, .ref wwt, .int (nI nf), .ref wfy, .ref wfk, .int (nI nc), .ref wem, .ref wna, .ref wpl, .ref whs, .long lk, .int (nI ks), .ref wk1, .ref wk2, .ref wk3])) := k53 _ _ a45 
          have a239 : f1 wev = some (.inl (cy 0, 8, .inl gv)) := k3 _ _ x_wev 
          have a240 : f49 wev = some (.inl (cy 0, 8, .inl gv)) := k53 _ _ a239 
          have a241 : f1 wnb = some (.inl (cy 0, 12, .inl gu)) := k3 _ _ x_wnb 
          have a242 : f49 wnb = some (.inl (cy 0, 12, .inl gu)) := k53 _ _ a241 
          have a243 : f1 wki = some (.inl (cy 0, 60, .inl gk)) := k3 _ _ x_wki 
          have a244 : f49 wki = some (.inl (cy 0, 60, .inl gk)) := k53 _ _ a243 
          have a245 : f1 wmy = some (.inl (cy 0, 60, .inl gm)) := k3 _ _ x_wmy 
          have a246 : f49 wmy = some (.inl (cy 0, 60, .inl gm)) := k53 _ _ a245 
          have a247 : f1 wce = some (.inl (cy 1, 960, .inr (.inl gc))) := k3 _ _ x_wce 
          have a248 : f49 wce = some (.inl (cy 1, 960, .inr (.inl gc))) := k53 _ _ a247 
          have a249 : f1 wiw = some (.inl (cy 2, 60, .inl gw)) := k3 _ _ x_wiw 
          have a250 : f49 wiw = some (.inl (cy 2, 60, .inl gw)) := k53 _ _ a249 
          have a251 : f1 wli = some (.inl (cy 0, 60, .inl gl)) := k3 _ _ x_wli 
          have a252 : f49 wli = some (.inl (cy 0, 60, .inl gl)) := k53 _ _ a251 
          have a253 : f1 wha = some (.inl (cy 0, 60, .inl gh)) := k3 _ _ x_wha 
          have a254 : f49 wha = some (.inl (cy 0, 60, .inl gh)) := k53 _ _ a253 
          have a255 : f1 wwt = some (.inl (cy 1, 60, .inr (.inl gt))) := k3 _ _ x_wwt 
          have a256 : f49 wwt = some (.inl (cy 1, 60, .inr (.inl gt))) := k53 _ _ a255 
          have a257 : f1 wfy = some (.inl (cy 0, 6, .inl gy)) := k3 _ _ x_wfy 
          have a258 : f49 wfy = some (.inl (cy 0, 6, .inl gy)) := k53 _ _ a257 
          have a259 : f1 wfk = some (.inl (cy 0, 24, .inl gq)) := k3 _ _ x_wfk 
          have a260 : f49 wfk = some (.inl (cy 0, 24, .inl gq)) := k53 _ _ a259 
          have a261 : f49 wem = some (.inl (cy 0, 60, .inl ge1)) := k53 _ _ a46 
          have a262 : f49 wna = some (.inl (cy 0, 60, .inl gn1)) := k53 _ _ a47 
          have a263 : f49 wpl = some (.inl (cy 0, 60, .inl gp1)) := k53 _ _ a48 
          have a264 : f1 whs = some (.inl (cy 0, 4, .inl gs)) := k3 _ _ x_whs 
          have a265 : f49 whs = some (.inl (cy 0, 4, .inl gs)) := k53 _ _ a264 
          have a266 : f1 wk1 = some (.inl (cy 0, 40, .inl gx1)) := k3 _ _ x_wk1 
          have a267 : f49 wk1 = some (.inl (cy 0, 40, .inl gx1)) := k53 _ _ a266 
          have a268 : f1 wk2 = some (.inl (cy 0, 40, .inl gx2)) := k3 _ _ x_wk2 
          have a269 : f49 wk2 = some (.inl (cy 0, 40, .inl gx2)) := k53 _ _ a268 
          have a270 : f1 wk3 = some (.inl (cy 0, 40, .inl gx3)) := k3 _ _ x_wk3 
          have a271 : f49 wk3 = some (.inl (cy 0, 40, .inl gx3)) := k53 _ _ a270 
          exact z_iret C hr rfl hz hS ⟨u1, u2, u3, nl, nn, nf, nc, lk, ks, gv, gu, gk, gm, gc, gw, gl, gh, gt, gy, gq, ge1, gn1, gp1, gs, gx1, gx2, gx3, ln, fz, sq, rfl, rfl, rfl, rfl, rfl, rfl, rfl, rfl, rfl, rfl, rfl, rfl, rfl, rfl, rfl, (by rw [if_neg (by decide)]), (by rw [if_neg (by decide)]), (by rw [if_neg (by decide)]), (by rw [if_neg (by decide)]), (by rw [if_neg (by decide)]), rfl, rfl, rfl, rfl, rfl, (Or.inr ⟨rfl, Or.inr (Or.inr ⟨j, hj, hxj, _, c54, pq52⟩)⟩), ⟨a238, a240, a242, a244, a246, a248, a250, a252, a254, a256, a258, a260, a261, a262, a263, a265, a267, a269, a271, hn60, hl12, hf6, hc60, hs40, hMP, hgy, hfz, hgs, hME, hlk, hgw, hfd, n_wki_wmy, n_wki_wiw, n_wki_wli, n_wki_wha, n_wki_wem, n_wki_wna, n_wki_wpl, n_wmy_wiw, n_wmy_wli, n_wmy_wha, n_wmy_wem, n_wmy_wna, n_wmy_wpl, n_wiw_wli, n_wiw_wha, n_wiw_wem, n_wiw_wna, n_wiw_wpl, n_wli_wha, n_wli_wem, n_wli_wna, n_wli_wpl, n_wha_wem, n_wha_wna, n_wha_wpl, n_wem_wna, n_wem_wpl, n_wna_wpl, n_wk1_wk2, n_wk1_wk3, n_wk2_wk3⟩⟩ (Nat.le_of_ble_eq_true rfl) (Nat.le_of_ble_eq_true rfl) dX8_constant_30
  · refine lv_iload_n hx hb dX8_constant_0 rfl (lv_at hl 1 rfl) ?_
    refine z_callSi (As := [.int x]) C hz hS hA hl (k_X8_isEnumeration_B l D cy f x  he) zyX8_isEnumeration mMX8_196 rfl rfl (Nat.le_of_ble_eq_true rfl) ⟨Nat.le_of_ble_eq_true rfl, Nat.le_of_ble_eq_true rfl⟩ ⟨Nat.le_of_ble_eq_true rfl, Nat.le_of_ble_eq_true rfl⟩ dX8_constant_1 (fun r f272 H locs h273 hz hS => ?_)
    obtain ⟨rfl, k274⟩ := h273
    refine lv_if_eq (tgt := 28) hx hb dX8_constant_4 (by decide) (fun c275 => ?_) (fun c275 => ?_)
    rotate_left
    · exact absurd c275 (by decide)
    refine lv_bipush (v := (-2)) hx hb dX8_constant_28 (by decide) ?_
    have a276 : f272 o = some (.inr (8, [.int u1, .int u2, .int u3, .ref wev, .int (nI nl), .ref wnb, .int (nI nn), .ref wki, .ref wmy, .ref wce, .ref wiw, .ref wli, .ref wha, .ref wwt, .int (nI nf), .ref wfy, .ref wfk, .int (nI nc), .ref wem, .ref wna, .ref wpl, .ref whs, .long lk, .int (nI ks), .ref wk1, .ref wk2, .ref wk3])) := k274 _ _ x_o 
    have a277 : f272 wev = some (.inl (cy 0, 8, .inl gv)) := k274 _ _ x_wev 
    have a278 : f272 wnb = some (.inl (cy 0, 12, .inl gu)) := k274 _ _ x_wnb 
    have a279 : f272 wki = some (.inl (cy 0, 60, .inl gk)) := k274 _ _ x_wki 
    have a280 : f272 wmy = some (.inl (cy 0, 60, .inl gm)) := k274 _ _ x_wmy 
    have a281 : f272 wce = some (.inl (cy 1, 960, .inr (.inl gc))) := k274 _ _ x_wce 
    have a282 : f272 wiw = some (.inl (cy 2, 60, .inl gw)) := k274 _ _ x_wiw 
    have a283 : f272 wli = some (.inl (cy 0, 60, .inl gl)) := k274 _ _ x_wli 
    have a284 : f272 wha = some (.inl (cy 0, 60, .inl gh)) := k274 _ _ x_wha 
    have a285 : f272 wwt = some (.inl (cy 1, 60, .inr (.inl gt))) := k274 _ _ x_wwt 
    have a286 : f272 wfy = some (.inl (cy 0, 6, .inl gy)) := k274 _ _ x_wfy 
    have a287 : f272 wfk = some (.inl (cy 0, 24, .inl gq)) := k274 _ _ x_wfk 
    have a288 : f272 wem = some (.inl (cy 0, 60, .inl ge1)) := k274 _ _ x_wem 
    have a289 : f272 wna = some (.inl (cy 0, 60, .inl gn1)) := k274 _ _ x_wna 
    have a290 : f272 wpl = some (.inl (cy 0, 60, .inl gp1)) := k274 _ _ x_wpl 
    have a291 : f272 whs = some (.inl (cy 0, 4, .inl gs)) := k274 _ _ x_whs 
    have a292 : f272 wk1 = some (.inl (cy 0, 40, .inl gx1)) := k274 _ _ x_wk1 
    have a293 : f272 wk2 = some (.inl (cy 0, 40, .inl gx2)) := k274 _ _ x_wk2 
    have a294 : f272 wk3 = some (.inl (cy 0, 40, .inl gx3)) := k274 _ _ x_wk3 
    exact z_iret C hr rfl hz hS ⟨u1, u2, u3, nl, nn, nf, nc, lk, ks, gv, gu, gk, gm, gc, gw, gl, gh, gt, gy, gq, ge1, gn1, gp1, gs, gx1, gx2, gx3, ln, fz, sq, rfl, rfl, rfl, rfl, rfl, rfl, rfl, rfl, rfl, rfl, rfl, rfl, rfl, rfl, rfl, (by rw [if_neg (by decide)]), (by rw [if_neg (by decide)]), (by rw [if_neg (by decide)]), (by rw [if_neg (by decide)]), (by rw [if_neg (by decide)]), rfl, rfl, rfl, rfl, rfl, (Or.inr ⟨rfl, Or.inl he⟩), ⟨a276, a277, a278, a279, a280, a281, a282, a283, a284, a285, a286, a287, a288, a289, a290, a291, a292, a293, a294, hn60, hl12, hf6, hc60, hs40, hMP, hgy, hfz, hgs, hME, hlk, hgw, hfd, n_wki_wmy, n_wki_wiw, n_wki_wli, n_wki_wha, n_wki_wem, n_wki_wna, n_wki_wpl, n_wmy_wiw, n_wmy_wli, n_wmy_wha, n_wmy_wem, n_wmy_wna, n_wmy_wpl, n_wiw_wli, n_wiw_wha, n_wiw_wem, n_wiw_wna, n_wiw_wpl, n_wli_wha, n_wli_wem, n_wli_wna, n_wli_wpl, n_wha_wem, n_wha_wna, n_wha_wpl, n_wem_wna, n_wem_wpl, n_wna_wpl, n_wk1_wk2, n_wk1_wk3, n_wk2_wk3⟩⟩ (Nat.le_of_ble_eq_true rfl) (Nat.le_of_ble_eq_true rfl) dX8_constant_30
