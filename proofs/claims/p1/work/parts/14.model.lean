abbrev rmX8_told4 : Room := { frames := 0, cells := 0, slots := 0, locals := 0 }
set_option maxHeartbeats 4000000 in
set_option maxRecDepth 100000 in
theorem k_X8_told4 (l : Launch) (D : va_G) (cy : Nat → ClassId) (f : zM) (i : Nat) (x : Int32) (y : Int32) (z : Int32) (v : Int32)  (hi : i < 4) : zCi l D cy yX8_told4 cX8_told4 5 (Option.some Jvm.ClassFile.FieldType.int) rmX8_told4 [.int (nI i), .int x, .int y, .int z, .int v] f (fun (r : Int32) (f1 : zM) => r = ((upd (upd (upd (upd (fun _ => 0) 0 x) 1 y) 2 z) 3 v) i) ∧ (∀ (b : Nat) (e : va_E), f b = some e → f1 b = some e)) := by
  intro sz
  refine z_body (by decide +kernel) (Nat.le_of_ble_eq_true rfl) ?_
  intro p e s m below meth c ls C hr hin hsz hz hl
  subst hsz
  have hx := C.1
  have hb := C.2.1
  have hA : ∀ q, s.heap.size ≤ q → zA f s.heap.size q := fun q h => Or.inr h
  have hS : va_S (zA f s.heap.size) s.heap s.heap [] := va_S.rf
  have hl : lv_has ls 5 [(0, .int (nI i)), (1, .int x), (2, .int y), (3, .int z), (4, .int v)] := hl
  refine lv_iload_n hx hb dX8_told4_0 rfl (lv_at hl 0 rfl) ?_
  refine lv_if_ne (tgt := 8) hx hb dX8_told4_1 (by decide) (fun c1 => ?_) (fun c1 => ?_)
  · replace c1 : ¬ (i = 0) := fun h => c1 ((nI_eq (a := i) (b := 0) (by omega) (by omega)).mpr h)
    refine lv_iload_n hx hb dX8_told4_8 rfl (lv_at hl 0 rfl) ?_
    refine lv_iconst (v := 1) hx hb dX8_told4_9 (by decide) ?_
    refine lv_icmp_ne (tgt := 17) hx hb dX8_told4_10 (by decide) (fun c2 => ?_) (fun c2 => ?_)
    · replace c2 : ¬ (i = 1) := fun h => c2 ((nI_eq (a := i) (b := 1) (by omega) (by omega)).mpr h)
      refine lv_iload_n hx hb dX8_told4_17 rfl (lv_at hl 0 rfl) ?_
      refine lv_iconst (v := 2) hx hb dX8_told4_18 (by decide) ?_
      refine lv_icmp_ne (tgt := 26) hx hb dX8_told4_19 (by decide) (fun c3 => ?_) (fun c3 => ?_)
      · replace c3 : ¬ (i = 2) := fun h => c3 ((nI_eq (a := i) (b := 2) (by omega) (by omega)).mpr h)
        refine lv_iload hx hb dX8_told4_26 (lv_at hl 4 rfl) ?_
        exact z_iret C hr rfl hz hS ⟨(by obtain rfl : i = 3 := (by omega); simp [upd]), (fun b e hb => hb)⟩ (Nat.le_of_ble_eq_true rfl) (Nat.le_of_ble_eq_true rfl) dX8_told4_28
      · replace c3 : (i = 2) := (nI_eq (a := i) (b := 2) (by omega) (by omega)).mp c3
        refine lv_iload_n hx hb dX8_told4_22 rfl (lv_at hl 3 rfl) ?_
        refine lv_goto (tgt := 28) hx hb dX8_told4_23 (by decide) ?_
        exact z_iret C hr rfl hz hS ⟨(by obtain rfl : i = 2 := (by omega); simp [upd]), (fun b e hb => hb)⟩ (Nat.le_of_ble_eq_true rfl) (Nat.le_of_ble_eq_true rfl) dX8_told4_28
    · replace c2 : (i = 1) := (nI_eq (a := i) (b := 1) (by omega) (by omega)).mp c2
      refine lv_iload_n hx hb dX8_told4_13 rfl (lv_at hl 2 rfl) ?_
      refine lv_goto (tgt := 28) hx hb dX8_told4_14 (by decide) ?_
      exact z_iret C hr rfl hz hS ⟨(by obtain rfl : i = 1 := (by omega); simp [upd]), (fun b e hb => hb)⟩ (Nat.le_of_ble_eq_true rfl) (Nat.le_of_ble_eq_true rfl) dX8_told4_28
  · replace c1 : (i = 0) := (nI_eq (a := i) (b := 0) (by omega) (by omega)).mp c1
    refine lv_iload_n hx hb dX8_told4_4 rfl (lv_at hl 1 rfl) ?_
    refine lv_goto (tgt := 28) hx hb dX8_told4_5 (by decide) ?_
    exact z_iret C hr rfl hz hS ⟨(by obtain rfl : i = 0 := (by omega); simp [upd]), (fun b e hb => hb)⟩ (Nat.le_of_ble_eq_true rfl) (Nat.le_of_ble_eq_true rfl) dX8_told4_28
abbrev rmX8_family : Room := { frames := 1, cells := 0, slots := 0, locals := 24 }
set_option maxHeartbeats 4000000 in
set_option maxRecDepth 100000 in
theorem k_X8_family (l : Launch) (D : va_G) (cy : Nat → ClassId) (f : zM) (o : Nat) (wev : Nat) (wnb : Nat) (wki : Nat) (wmy : Nat) (wce : Nat) (wiw : Nat) (wli : Nat) (wha : Nat) (wwt : Nat) (wfy : Nat) (wfk : Nat) (wem : Nat) (wna : Nat) (wpl : Nat) (whs : Nat) (wk1 : Nat) (wk2 : Nat) (wk3 : Nat) (x : Int32) (y : Int32) (z : Int32) (v : Int32) (gk2 : Nat → Int32) (gy2 : Nat → Int32) (p0 : f o = some (.inr (8, [.int 0, .int (-1), .int 0, .ref wev, .int 0, .ref wnb, .int 0, .ref wki, .ref wmy, .ref wce, .ref wiw, .ref wli, .ref wha, .ref wwt, .int 0, .ref wfy, .ref wfk, .int 0, .ref wem, .ref wna, .ref wpl, .ref whs, .long 1, .int 0, .ref wk1, .ref wk2, .ref wk3]))) (p1 : f wfk = some (.inl (cy 0, 24, .inl gk2))) (p2 : f wfy = some (.inl (cy 0, 6, .inl gy2)))  : zCi l D cy yX8_family cX8_family 9 (Option.some Jvm.ClassFile.FieldType.int) rmX8_family [.ref o, .int x, .int y, .int z, .int v] f (fun (r : Int32) (f1 : zM) => r = (if (zks (upd (upd (upd (upd (fun _ => 0) 0 x) 1 y) 2 z) 3 v) 4).isSome = true then 0 else (-2))) := by
  intro sz
  refine z_body (by decide +kernel) (Nat.le_of_ble_eq_true rfl) ?_
  intro p e s m below meth c ls C hr hin hsz hz hl
  subst hsz
  have hx := C.1
  have hb := C.2.1
  have hA : ∀ q, s.heap.size ≤ q → zA f s.heap.size q := fun q h => Or.inr h
  have hS : va_S (zA f s.heap.size) s.heap s.heap [] := va_S.rf
  have hl : lv_has ls 9 [(0, .ref o), (1, .int x), (2, .int y), (3, .int z), (4, .int v)] := hl
  refine lv_iconst (v := 0) hx hb dX8_family_0 (by decide) ?_
  refine lv_istore (lv' := [(5, .int 0), (0, .ref o), (1, .int x), (2, .int y), (3, .int z), (4, .int v)]) hx hb dX8_family_1 hl (by decide) rfl (fun ls hl => ?_)
  refine lv_iconst (v := 0) hx hb dX8_family_3 (by decide) ?_
  refine lv_istore (lv' := [(6, .int 0), (5, .int 0), (0, .ref o), (1, .int x), (2, .int y), (3, .int z), (4, .int v)]) hx hb dX8_family_4 hl (by decide) rfl (fun ls hl => ?_)
  have lp1 : ∀ (n : Nat) (sn : Int32) (i : Nat) (fL2 : zM) (H : Heap) (locs : List Loc) (ls : Array Slot), (4 - i) < n → (i ≤ 4) → (zks (upd (upd (upd (upd (fun _ => 0) 0 x) 1 y) 2 z) 3 v) i = some sn) → fL2 o = some (.inr (8, [.int 0, .int (-1), .int 0, .ref wev, .int 0, .ref wnb, .int 0, .ref wki, .ref wmy, .ref wce, .ref wiw, .ref wli, .ref wha, .ref wwt, .int 0, .ref wfy, .ref wfk, .int 0, .ref wem, .ref wna, .ref wpl, .ref whs, .long 1, .int 0, .ref wk1, .ref wk2, .ref wk3])) → fL2 wfk = some (.inl (cy 0, 24, .inl gk2)) → fL2 wfy = some (.inl (cy 0, 6, .inl gy2)) → (∀ (b : Nat) (e : va_E), f b = some e → fL2 b = some e) → zH D (zA f s.heap.size) fL2 H → va_S (zA f s.heap.size) s.heap H locs → lv_has ls 9 [(0, .ref o), (1, .int x), (2, .int y), (3, .int z), (4, .int v), (5, .int sn), (6, .int (nI i))] → W p l e rmX8_family s m ([.ref o, .int x, .int y, .int z, .int v] : List Value).toArray below meth c H locs 0 0 (MQ below (va_Qi (fun (r : Int32) (f1 : zM) => r = (if (zks (upd (upd (upd (upd (fun _ => 0) 0 x) 1 y) 2 z) 3 v) 4).isSome = true then 0 else (-2))) (zB D f s.heap.size) (zA f s.heap.size)) ([.ref o, .int x, .int y, .int z, .int v] : List Value).toArray s rmX8_family.cells rmX8_family.slots (zA f s.heap.size)) (F0 m 6 ls []) := by
    intro n
    induction n with
    | zero => intro sn i fL2 H locs ls hmz; exact absurd hmz (Nat.not_lt_zero _)
    | succ n ih =>
      intro sn i fL2 H locs ls hmz hi hs a4 a5 a6 k3 hz hS hl
      refine lv_iload hx hb dX8_family_6 (lv_at hl 6 rfl) ?_
      refine lv_iconst (v := 4) hx hb dX8_family_8 (by decide) ?_
      refine lv_icmp_ge (tgt := 82) hx hb dX8_family_9 (by decide) (fun c7 => ?_) (fun c7 => ?_)
      · replace c7 : (4 ≤ i) := (nI_leI (a := 4) (b := i) (by omega) (by omega)).mp c7
        refine lv_aload_n hx hb dX8_family_82 rfl (lv_at hl 0 rfl) ?_
        refine z_get (v := .int 0) C hz a4 zl8 mFX8_187 (by decide) rfl dX8_family_83 ?_
        refine lv_bipush (v := 6) hx hb dX8_family_86 (by decide) ?_
        refine lv_icmp_ne (tgt := 94) hx hb dX8_family_88 (by decide) (fun c8 => ?_) (fun c8 => ?_)
        rotate_left
        · exact absurd c8 (by decide)
        refine lv_iconst (v := 0) hx hb dX8_family_94 (by decide) ?_
        refine lv_istore (lv' := [(6, .int 0), (0, .ref o), (1, .int x), (2, .int y), (3, .int z), (4, .int v), (5, .int sn)]) hx hb dX8_family_95 hl (by decide) rfl (fun ls hl => ?_)
        refine lv_iconst (v := 0) hx hb dX8_family_97 (by decide) ?_
        refine lv_istore (lv' := [(7, .int 0), (6, .int 0), (0, .ref o), (1, .int x), (2, .int y), (3, .int z), (4, .int v), (5, .int sn)]) hx hb dX8_family_98 hl (by decide) rfl (fun ls hl => ?_)
        have lp9 : ∀ (n : Nat) (n2 : Nat) (i2 : Nat) (gz2 : Nat → Int32) (fL10 : zM) (H : Heap) (locs : List Loc) (ls : Array Slot), (4 - i2) < n → (i2 ≤ 4) → (n2 ≤ i2) → fL10 o = some (.inr (8, [.int 0, .int (-1), .int 0, .ref wev, .int 0, .ref wnb, .int 0, .ref wki, .ref wmy, .ref wce, .ref wiw, .ref wli, .ref wha, .ref wwt, .int 0, .ref wfy, .ref wfk, .int 0, .ref wem, .ref wna, .ref wpl, .ref whs, .long 1, .int 0, .ref wk1, .ref wk2, .ref wk3])) → fL10 wfk = some (.inl (cy 0, 24, .inl gz2)) → fL10 wfy = some (.inl (cy 0, 6, .inl gy2)) → (∀ (b : Nat) (e : va_E), fL2 b = some e → b ≠ wfk → fL10 b = some e) → zH D (zA f s.heap.size) fL10 H → va_S (zA f s.heap.size) s.heap H locs → lv_has ls 9 [(0, .ref o), (1, .int x), (2, .int y), (3, .int z), (4, .int v), (6, .int (nI n2)), (7, .int (nI i2))] → W p l e rmX8_family s m ([.ref o, .int x, .int y, .int z, .int v] : List Value).toArray below meth c H locs 0 0 (MQ below (va_Qi (fun (r : Int32) (f1 : zM) => r = (if (zks (upd (upd (upd (upd (fun _ => 0) 0 x) 1 y) 2 z) 3 v) 4).isSome = true then 0 else (-2))) (zB D f s.heap.size) (zA f s.heap.size)) ([.ref o, .int x, .int y, .int z, .int v] : List Value).toArray s rmX8_family.cells rmX8_family.slots (zA f s.heap.size)) (F0 m 100 ls []) := by
          intro n
          induction n with
          | zero => intro n2 i2 gz2 fL10 H locs ls hmz; exact absurd hmz (Nat.not_lt_zero _)
          | succ n ih =>
            intro n2 i2 gz2 fL10 H locs ls hmz hi2 hn2 a12 a13 a14 k11 hz hS hl
            refine lv_iload hx hb dX8_family_100 (lv_at hl 6 rfl) ?_
            refine lv_iconst (v := 4) hx hb dX8_family_102 (by decide) ?_
            refine lv_icmp_ge (tgt := 152) hx hb dX8_family_103 (by decide) (fun c15 => ?_) (fun c15 => ?_)
            · replace c15 : (4 ≤ i2) := (nI_leI (a := 4) (b := i2) (by omega) (by omega)).mp c15
              refine lv_aload_n hx hb dX8_family_152 rfl (lv_at hl 0 rfl) ?_
              refine z_get (v := .ref wfy) C hz a12 zl8 mFX8_43 (by decide) rfl dX8_family_153 ?_
              refine lv_aload_n hx hb dX8_family_156 rfl (lv_at hl 0 rfl) ?_
              refine z_get (v := .int 0) C hz a12 zl8 mFX8_187 (by decide) rfl dX8_family_157 ?_
              refine lv_iload hx hb dX8_family_160 (lv_at hl 5 rfl) ?_
              refine z_iast 0 C hz hS a14 (by decide) (Nat.le_of_ble_eq_true rfl) (by omega) dX8_family_162 (fun H locs f16 a17 k18 hz hS => ?_)
              refine lv_aload_n hx hb dX8_family_163 rfl (lv_at hl 0 rfl) ?_
              refine lv_dup hx hb dX8_family_164 rfl ?_
              have a19 : f16 o = some (.inr (8, [.int 0, .int (-1), .int 0, .ref wev, .int 0, .ref wnb, .int 0, .ref wki, .ref wmy, .ref wce, .ref wiw, .ref wli, .ref wha, .ref wwt, .int 0, .ref wfy, .ref wfk, .int 0, .ref wem, .ref wna, .ref wpl, .ref whs, .long 1, .int 0, .ref wk1, .ref wk2, .ref wk3])) := (k18 _ (z_ne a12 a14 rfl)).trans a12
              refine z_get (v := .int 0) C hz a19 zl8 mFX8_187 (by decide) rfl dX8_family_165 ?_
              refine lv_iconst (v := 1) hx hb dX8_family_168 (by decide) ?_
              refine lv_iadd hx hb dX8_family_169 ?_
              refine z_put (fs' := [.int 0, .int (-1), .int 0, .ref wev, .int 0, .ref wnb, .int 0, .ref wki, .ref wmy, .ref wce, .ref wiw, .ref wli, .ref wha, .ref wwt, .int (0 + 1), .ref wfy, .ref wfk, .int 0, .ref wem, .ref wna, .ref wpl, .ref whs, .long 1, .int 0, .ref wk1, .ref wk2, .ref wk3]) C hz hS a19 zl8 mFX8_187 (by decide) rfl rfl rfl (Nat.le_of_ble_eq_true rfl) rfl dX8_family_170 (fun H locs f20 a21 k22 hz hS => ?_)
              refine lv_aload_n hx hb dX8_family_173 rfl (lv_at hl 0 rfl) ?_
              refine z_get (v := .int (0 + 1)) C hz a21 zl8 mFX8_187 (by decide) rfl dX8_family_174 ?_
              refine lv_iconst (v := 1) hx hb dX8_family_177 (by decide) ?_
              refine lv_isub hx hb dX8_family_178 ?_
              refine lv_topi (fun y23 e24 => ?_)
              obtain rfl : y23 = 0 := e24.trans (by decide)
              exact z_iret C hr rfl hz hS (by rw [if_pos (by rw [show (4 : Nat) = i by omega, hs]; rfl)]) (Nat.le_of_ble_eq_true rfl) (Nat.le_of_ble_eq_true rfl) dX8_family_179
            · replace c15 : ¬ (4 ≤ i2) := fun h => c15 ((nI_leI (a := 4) (b := i2) (by omega) (by omega)).mpr h)
              refine lv_iload hx hb dX8_family_106 (lv_at hl 6 rfl) ?_
              refine lv_iload_n hx hb dX8_family_108 rfl (lv_at hl 1 rfl) ?_
              refine lv_iload_n hx hb dX8_family_109 rfl (lv_at hl 2 rfl) ?_
              refine lv_iload_n hx hb dX8_family_110 rfl (lv_at hl 3 rfl) ?_
              refine lv_iload hx hb dX8_family_111 (lv_at hl 4 rfl) ?_
              refine z_callSi (As := [.int (nI i2), .int x, .int y, .int z, .int v]) C hz hS hA hl (k_X8_told4 l D cy fL10 i2 x y z v  (by omega)) zyX8_told4 mMX8_183 rfl rfl (Nat.le_of_ble_eq_true rfl) ⟨Nat.le_of_ble_eq_true rfl, Nat.le_of_ble_eq_true rfl⟩ ⟨Nat.le_of_ble_eq_true rfl, Nat.le_of_ble_eq_true rfl⟩ dX8_family_113 (fun r f25 H locs h26 hz hS => ?_)
              obtain ⟨rfl, k27⟩ := h26
              refine lv_istore (lv' := [(8, .int ((upd (upd (upd (upd (fun _ => 0) 0 x) 1 y) 2 z) 3 v) i2)), (0, .ref o), (1, .int x), (2, .int y), (3, .int z), (4, .int v), (6, .int (nI n2)), (7, .int (nI i2))]) hx hb dX8_family_116 hl (by decide) rfl (fun ls hl => ?_)
              refine lv_iload hx hb dX8_family_118 (lv_at hl 0 rfl) ?_
              refine lv_iconst (v := (-1)) hx hb dX8_family_120 (by decide) ?_
              refine lv_icmp_ne (tgt := 127) hx hb dX8_family_121 (by decide) (fun c28 => ?_) (fun c28 => ?_)
              · refine lv_aload_n hx hb dX8_family_127 rfl (lv_at hl 1 rfl) ?_
                have a29 : f25 o = some (.inr (8, [.int 0, .int (-1), .int 0, .ref wev, .int 0, .ref wnb, .int 0, .ref wki, .ref wmy, .ref wce, .ref wiw, .ref wli, .ref wha, .ref wwt, .int 0, .ref wfy, .ref wfk, .int 0, .ref wem, .ref wna, .ref wpl, .ref whs, .long 1, .int 0, .ref wk1, .ref wk2, .ref wk3])) := k27 _ _ a12 
                refine z_get (v := .ref wfk) C hz a29 zl8 mFX8_46 (by decide) rfl dX8_family_128 ?_
                refine lv_iconst (v := 4) hx hb dX8_family_131 (by decide) ?_
                refine lv_aload_n hx hb dX8_family_132 rfl (lv_at hl 1 rfl) ?_
                refine z_get (v := .int 0) C hz a29 zl8 mFX8_187 (by decide) rfl dX8_family_133 ?_
                refine lv_imul hx hb dX8_family_136 ?_
                refine lv_iload hx hb dX8_family_137 (lv_at hl 6 rfl) ?_
                refine lv_iadd hx hb dX8_family_139 ?_
                refine lv_iload hx hb dX8_family_140 (lv_at hl 0 rfl) ?_
                have a30 : f25 wfk = some (.inl (cy 0, 24, .inl gz2)) := k27 _ _ a13 
                refine z_iast n2 C hz hS a30 ((nI_add 0 n2).trans (by rw [Nat.zero_add])) (by omega) (by omega) dX8_family_142 (fun H locs f31 a32 k33 hz hS => ?_)
                refine lv_iinc (v := nI (n2 + 1)) (lv' := [(6, .int (nI (n2 + 1))), (8, .int ((upd (upd (upd (upd (fun _ => 0) 0 x) 1 y) 2 z) 3 v) i2)), (0, .ref o), (1, .int x), (2, .int y), (3, .int z), (4, .int v), (7, .int (nI i2))]) hx hb dX8_family_143 hl (k := 6) rfl (nI_1 n2) (by decide) rfl (fun ls hl => ?_)
                refine lv_iinc (v := nI (i2 + 1)) (lv' := [(7, .int (nI (i2 + 1))), (6, .int (nI (n2 + 1))), (8, .int ((upd (upd (upd (upd (fun _ => 0) 0 x) 1 y) 2 z) 3 v) i2)), (0, .ref o), (1, .int x), (2, .int y), (3, .int z), (4, .int v)]) hx hb dX8_family_146 hl (k := 7) rfl (nI_1 i2) (by decide) rfl (fun ls hl => ?_)
                refine lv_goto (tgt := 100) hx hb dX8_family_149 (by decide) ?_
                have a34 : f31 o = some (.inr (8, [.int 0, .int (-1), .int 0, .ref wev, .int 0, .ref wnb, .int 0, .ref wki, .ref wmy, .ref wce, .ref wiw, .ref wli, .ref wha, .ref wwt, .int 0, .ref wfy, .ref wfk, .int 0, .ref wem, .ref wna, .ref wpl, .ref whs, .long 1, .int 0, .ref wk1, .ref wk2, .ref wk3])) := (k33 _ (z_ne a29 a30 rfl)).trans a29
                have a35 : f25 wfy = some (.inl (cy 0, 6, .inl gy2)) := k27 _ _ a14 
                have a36 : f31 wfy = some (.inl (cy 0, 6, .inl gy2)) := (k33 _ (z_ne a35 a30 rfl)).trans a35
                exact ih (n2 + 1) (i2 + 1) (upd gz2 n2 ((upd (upd (upd (upd (fun _ => 0) 0 x) 1 y) 2 z) 3 v) i2)) _ _ _ _ (by omega) (by omega) (by omega) a34 a32 a36 (by
                      intro b e hb n0
                      have hb1 : fL10 b = some e := k11 b e hb n0
                      have hb2 : f25 b = some e := k27 b e hb1 
                      have hb3 : f31 b = some e := (k33 b n0).trans hb2
                      exact hb3) hz hS (lv_sub hl [3, 4, 5, 6, 7, 1, 0] rfl)
              · refine lv_goto (tgt := 146) hx hb dX8_family_124 (by decide) ?_
                refine lv_iinc (v := nI (i2 + 1)) (lv' := [(7, .int (nI (i2 + 1))), (8, .int ((upd (upd (upd (upd (fun _ => 0) 0 x) 1 y) 2 z) 3 v) i2)), (0, .ref o), (1, .int x), (2, .int y), (3, .int z), (4, .int v), (6, .int (nI n2))]) hx hb dX8_family_146 hl (k := 7) rfl (nI_1 i2) (by decide) rfl (fun ls hl => ?_)
                refine lv_goto (tgt := 100) hx hb dX8_family_149 (by decide) ?_
                have a37 : f25 wfk = some (.inl (cy 0, 24, .inl gz2)) := k27 _ _ a13 
                have a38 : f25 o = some (.inr (8, [.int 0, .int (-1), .int 0, .ref wev, .int 0, .ref wnb, .int 0, .ref wki, .ref wmy, .ref wce, .ref wiw, .ref wli, .ref wha, .ref wwt, .int 0, .ref wfy, .ref wfk, .int 0, .ref wem, .ref wna, .ref wpl, .ref whs, .long 1, .int 0, .ref wk1, .ref wk2, .ref wk3])) := k27 _ _ a12 
                have a39 : f25 wfy = some (.inl (cy 0, 6, .inl gy2)) := k27 _ _ a14 
                exact ih n2 (i2 + 1) gz2 _ _ _ _ (by omega) (by omega) (by omega) a38 a37 a39 (by
                      intro b e hb n0
                      have hb1 : fL10 b = some e := k11 b e hb n0
                      have hb2 : f25 b = some e := k27 b e hb1 
                      exact hb2) hz hS (lv_sub hl [2, 3, 4, 5, 6, 7, 0] rfl)
        exact lp9 (4 - 0 + 1) 0 0 gk2 _ _ _ _ (Nat.lt_succ_self _) (by omega) (by omega) a4 a5 a6 (fun b e hb n0 => hb) hz hS (lv_sub hl [2, 3, 4, 5, 6, 1, 0] rfl)
      · replace c7 : ¬ (4 ≤ i) := fun h => c7 ((nI_leI (a := 4) (b := i) (by omega) (by omega)).mpr h)
        refine lv_iload hx hb dX8_family_12 (lv_at hl 6 rfl) ?_
        refine lv_iload_n hx hb dX8_family_14 rfl (lv_at hl 1 rfl) ?_
        refine lv_iload_n hx hb dX8_family_15 rfl (lv_at hl 2 rfl) ?_
        refine lv_iload_n hx hb dX8_family_16 rfl (lv_at hl 3 rfl) ?_
        refine lv_iload hx hb dX8_family_17 (lv_at hl 4 rfl) ?_
        refine z_callSi (As := [.int (nI i), .int x, .int y, .int z, .int v]) C hz hS hA hl (k_X8_told4 l D cy fL2 i x y z v  (by omega)) zyX8_told4 mMX8_183 rfl rfl (Nat.le_of_ble_eq_true rfl) ⟨Nat.le_of_ble_eq_true rfl, Nat.le_of_ble_eq_true rfl⟩ ⟨Nat.le_of_ble_eq_true rfl, Nat.le_of_ble_eq_true rfl⟩ dX8_family_19 (fun r f40 H locs h41 hz hS => ?_)
        obtain ⟨rfl, k42⟩ := h41
        refine lv_istore (lv' := [(7, .int ((upd (upd (upd (upd (fun _ => 0) 0 x) 1 y) 2 z) 3 v) i)), (0, .ref o), (1, .int x), (2, .int y), (3, .int z), (4, .int v), (5, .int sn), (6, .int (nI i))]) hx hb dX8_family_22 hl (by decide) rfl (fun ls hl => ?_)
        refine lv_iload hx hb dX8_family_24 (lv_at hl 0 rfl) ?_
        refine lv_iconst (v := (-1)) hx hb dX8_family_26 (by decide) ?_
        refine lv_icmp_lt (tgt := 54) hx hb dX8_family_27 (by decide) (fun c43 => ?_) (fun c43 => ?_)
        · refine lv_bipush (v := (-2)) hx hb dX8_family_54 (by decide) ?_
          exact z_iret C hr rfl hz hS (by rw [if_neg (zks_none4 (i := i) (by omega) (zks_lt hs c43))]) (Nat.le_of_ble_eq_true rfl) (Nat.le_of_ble_eq_true rfl) dX8_family_56
        · refine lv_iload hx hb dX8_family_30 (lv_at hl 0 rfl) ?_
          refine lv_bipush (v := 6) hx hb dX8_family_32 (by decide) ?_
          refine lv_icmp_gt (tgt := 54) hx hb dX8_family_34 (by decide) (fun c44 => ?_) (fun c44 => ?_)
          · refine lv_bipush (v := (-2)) hx hb dX8_family_54 (by decide) ?_
            exact z_iret C hr rfl hz hS (by rw [if_neg (zks_none4 (i := i) (by omega) (zks_gt hs c44))]) (Nat.le_of_ble_eq_true rfl) (Nat.le_of_ble_eq_true rfl) dX8_family_56
          · refine lv_iload hx hb dX8_family_37 (lv_at hl 0 rfl) ?_
            refine lv_iconst (v := (-1)) hx hb dX8_family_39 (by decide) ?_
            refine lv_icmp_eq (tgt := 57) hx hb dX8_family_40 (by decide) (fun c45 => ?_) (fun c45 => ?_)
            · refine lv_iload hx hb dX8_family_57 (lv_at hl 6 rfl) ?_
              refine lv_iload hx hb dX8_family_59 (lv_at hl 0 rfl) ?_
              refine lv_iconst (v := (-1)) hx hb dX8_family_61 (by decide) ?_
              refine lv_icmp_ne (tgt := 69) hx hb dX8_family_62 (by decide) (fun c46 => ?_) (fun c46 => ?_)
              · exact absurd c45 c46
              refine lv_iconst (v := 0) hx hb dX8_family_65 (by decide) ?_
              refine lv_goto (tgt := 73) hx hb dX8_family_66 (by decide) ?_
              refine lv_ior hx hb dX8_family_73 ?_
              refine lv_istore (lv' := [(5, .int (sn ||| 0)), (7, .int ((upd (upd (upd (upd (fun _ => 0) 0 x) 1 y) 2 z) 3 v) i)), (0, .ref o), (1, .int x), (2, .int y), (3, .int z), (4, .int v), (6, .int (nI i))]) hx hb dX8_family_74 hl (by decide) rfl (fun ls hl => ?_)
              refine lv_iinc (v := nI (i + 1)) (lv' := [(6, .int (nI (i + 1))), (5, .int (sn ||| 0)), (7, .int ((upd (upd (upd (upd (fun _ => 0) 0 x) 1 y) 2 z) 3 v) i)), (0, .ref o), (1, .int x), (2, .int y), (3, .int z), (4, .int v)]) hx hb dX8_family_76 hl (k := 7) rfl (nI_1 i) (by decide) rfl (fun ls hl => ?_)
              refine lv_goto (tgt := 6) hx hb dX8_family_79 (by decide) ?_
              have a47 : f40 o = some (.inr (8, [.int 0, .int (-1), .int 0, .ref wev, .int 0, .ref wnb, .int 0, .ref wki, .ref wmy, .ref wce, .ref wiw, .ref wli, .ref wha, .ref wwt, .int 0, .ref wfy, .ref wfk, .int 0, .ref wem, .ref wna, .ref wpl, .ref whs, .long 1, .int 0, .ref wk1, .ref wk2, .ref wk3])) := k42 _ _ a4 
              have a48 : f40 wfk = some (.inl (cy 0, 24, .inl gk2)) := k42 _ _ a5 
              have a49 : f40 wfy = some (.inl (cy 0, 6, .inl gy2)) := k42 _ _ a6 
              exact ih (sn ||| 0) (i + 1) _ _ _ _ (by omega) (by omega) (zks_m1 hs c45) a47 a48 a49 (by
                    intro b e hb 
                    have hb0 : fL2 b = some e := k3 b e hb 
                    have hb1 : f40 b = some e := k42 b e hb0 
                    exact hb1) hz hS (lv_sub hl [3, 4, 5, 6, 7, 1, 0] rfl)
            · refine lv_iload hx hb dX8_family_43 (lv_at hl 6 rfl) ?_
              refine lv_iload hx hb dX8_family_45 (lv_at hl 0 rfl) ?_
              refine lv_ishr hx hb dX8_family_47 ?_
              refine lv_iconst (v := 1) hx hb dX8_family_48 (by decide) ?_
              refine lv_iand hx hb dX8_family_49 ?_
              refine lv_iconst (v := 1) hx hb dX8_family_50 (by decide) ?_
              refine lv_icmp_ne (tgt := 57) hx hb dX8_family_51 (by decide) (fun c50 => ?_) (fun c50 => ?_)
              · refine lv_iload hx hb dX8_family_57 (lv_at hl 6 rfl) ?_
                refine lv_iload hx hb dX8_family_59 (lv_at hl 0 rfl) ?_
                refine lv_iconst (v := (-1)) hx hb dX8_family_61 (by decide) ?_
                refine lv_icmp_ne (tgt := 69) hx hb dX8_family_62 (by decide) (fun c51 => ?_) (fun c51 => ?_)
                rotate_left
                · exact absurd c51 c45
                refine lv_iconst (v := 1) hx hb dX8_family_69 (by decide) ?_
                refine lv_iload hx hb dX8_family_70 (lv_at hl 0 rfl) ?_
                refine lv_ishl hx hb dX8_family_72 ?_
                refine lv_ior hx hb dX8_family_73 ?_
                refine lv_istore (lv' := [(5, .int (sn ||| (1 <<< (((upd (upd (upd (upd (fun _ => 0) 0 x) 1 y) 2 z) 3 v) i) &&& 31)))), (7, .int ((upd (upd (upd (upd (fun _ => 0) 0 x) 1 y) 2 z) 3 v) i)), (0, .ref o), (1, .int x), (2, .int y), (3, .int z), (4, .int v), (6, .int (nI i))]) hx hb dX8_family_74 hl (by decide) rfl (fun ls hl => ?_)
                refine lv_iinc (v := nI (i + 1)) (lv' := [(6, .int (nI (i + 1))), (5, .int (sn ||| (1 <<< (((upd (upd (upd (upd (fun _ => 0) 0 x) 1 y) 2 z) 3 v) i) &&& 31)))), (7, .int ((upd (upd (upd (upd (fun _ => 0) 0 x) 1 y) 2 z) 3 v) i)), (0, .ref o), (1, .int x), (2, .int y), (3, .int z), (4, .int v)]) hx hb dX8_family_76 hl (k := 7) rfl (nI_1 i) (by decide) rfl (fun ls hl => ?_)
                refine lv_goto (tgt := 6) hx hb dX8_family_79 (by decide) ?_
                have a52 : f40 o = some (.inr (8, [.int 0, .int (-1), .int 0, .ref wev, .int 0, .ref wnb, .int 0, .ref wki, .ref wmy, .ref wce, .ref wiw, .ref wli, .ref wha, .ref wwt, .int 0, .ref wfy, .ref wfk, .int 0, .ref wem, .ref wna, .ref wpl, .ref whs, .long 1, .int 0, .ref wk1, .ref wk2, .ref wk3])) := k42 _ _ a4 
                have a53 : f40 wfk = some (.inl (cy 0, 24, .inl gk2)) := k42 _ _ a5 
                have a54 : f40 wfy = some (.inl (cy 0, 6, .inl gy2)) := k42 _ _ a6 
                exact ih (sn ||| (1 <<< (((upd (upd (upd (upd (fun _ => 0) 0 x) 1 y) 2 z) 3 v) i) &&& 31))) (i + 1) _ _ _ _ (by omega) (by omega) (zks_ok hs c43 c44 c45 c50) a52 a53 a54 (by
                      intro b e hb 
                      have hb0 : fL2 b = some e := k3 b e hb 
                      have hb1 : f40 b = some e := k42 b e hb0 
                      exact hb1) hz hS (lv_sub hl [3, 4, 5, 6, 7, 1, 0] rfl)
              · refine lv_bipush (v := (-2)) hx hb dX8_family_54 (by decide) ?_
                exact z_iret C hr rfl hz hS (by rw [if_neg (zks_none4 (i := i) (by omega) (zks_bit hs c45 c50))]) (Nat.le_of_ble_eq_true rfl) (Nat.le_of_ble_eq_true rfl) dX8_family_56
  exact lp1 (4 - 0 + 1) 0 0 _ _ _ _ (Nat.lt_succ_self _) (by omega) rfl p0 p1 p2 (fun b e hb => hb) hz hS (lv_sub hl [2, 3, 4, 5, 6, 1, 0] rfl)
abbrev rmX8_tag : Room := { frames := 0, cells := 0, slots := 0, locals := 0 }
set_option maxHeartbeats 4000000 in
set_option maxRecDepth 100000 in
theorem k_X8_tag (l : Launch) (D : va_G) (cy : Nat → ClassId) (f : zM) (o : Nat) (wev : Nat) (wnb : Nat) (wki : Nat) (wmy : Nat) (wce : Nat) (wiw : Nat) (wli : Nat) (wha : Nat) (wwt : Nat) (wfy : Nat) (wfk : Nat) (wem : Nat) (wna : Nat) (wpl : Nat) (whs : Nat) (wk1 : Nat) (wk2 : Nat) (wk3 : Nat) (x : Int32) (y : Int32) (p0 : f o = some (.inr (8, [.int 0, .int (-1), .int 0, .ref wev, .int 0, .ref wnb, .int 0, .ref wki, .ref wmy, .ref wce, .ref wiw, .ref wli, .ref wha, .ref wwt, .int 0, .ref wfy, .ref wfk, .int 0, .ref wem, .ref wna, .ref wpl, .ref whs, .long 1, .int 0, .ref wk1, .ref wk2, .ref wk3])))  : zCi l D cy yX8_tag cX8_tag 3 (Option.some Jvm.ClassFile.FieldType.int) rmX8_tag [.ref o, .int x, .int y] f (fun (r : Int32) (f1 : zM) => r = (-2)) := by
  intro sz
  refine z_body (by decide +kernel) (Nat.le_of_ble_eq_true rfl) ?_
  intro p e s m below meth c ls C hr hin hsz hz hl
  subst hsz
  have hx := C.1
  have hb := C.2.1
  have hA : ∀ q, s.heap.size ≤ q → zA f s.heap.size q := fun q h => Or.inr h
  have hS : va_S (zA f s.heap.size) s.heap s.heap [] := va_S.rf
  have hl : lv_has ls 3 [(0, .ref o), (1, .int x), (2, .int y)] := hl
  refine lv_iload_n hx hb dX8_tag_0 rfl (lv_at hl 1 rfl) ?_
  refine lv_if_lt (tgt := 20) hx hb dX8_tag_1 (by decide) (fun c1 => ?_) (fun c1 => ?_)
  · refine lv_bipush (v := (-2)) hx hb dX8_tag_20 (by decide) ?_
    refine lv_goto (tgt := 31) hx hb dX8_tag_22 (by decide) ?_
    exact z_iret C hr rfl hz hS rfl (Nat.le_of_ble_eq_true rfl) (Nat.le_of_ble_eq_true rfl) dX8_tag_31
  · refine lv_iload_n hx hb dX8_tag_4 rfl (lv_at hl 1 rfl) ?_
    refine lv_aload_n hx hb dX8_tag_5 rfl (lv_at hl 0 rfl) ?_
    refine z_get (v := .int 0) C hz p0 zl8 mFX8_187 (by decide) rfl dX8_tag_6 ?_
    refine lv_icmp_ge (tgt := 20) hx hb dX8_tag_9 (by decide) (fun c2 => ?_) (fun c2 => ?_)
    rotate_left
    · exact absurd (Int32.not_lt.mp c1) c2
    refine lv_bipush (v := (-2)) hx hb dX8_tag_20 (by decide) ?_
    refine lv_goto (tgt := 31) hx hb dX8_tag_22 (by decide) ?_
    exact z_iret C hr rfl hz hS rfl (Nat.le_of_ble_eq_true rfl) (Nat.le_of_ble_eq_true rfl) dX8_tag_31
abbrev rmX8_tagged : Room := { frames := 0, cells := 0, slots := 0, locals := 0 }
set_option maxHeartbeats 4000000 in
set_option maxRecDepth 100000 in
theorem k_X8_tagged (l : Launch) (D : va_G) (cy : Nat → ClassId) (f : zM) (o : Nat) (wev : Nat) (wnb : Nat) (wki : Nat) (wmy : Nat) (wce : Nat) (wiw : Nat) (wli : Nat) (wha : Nat) (wwt : Nat) (wfy : Nat) (wfk : Nat) (wem : Nat) (wna : Nat) (wpl : Nat) (whs : Nat) (wk1 : Nat) (wk2 : Nat) (wk3 : Nat) (x : Int32) (y : Int32) (p0 : f o = some (.inr (8, [.int 0, .int (-1), .int 0, .ref wev, .int 0, .ref wnb, .int 0, .ref wki, .ref wmy, .ref wce, .ref wiw, .ref wli, .ref wha, .ref wwt, .int 0, .ref wfy, .ref wfk, .int 0, .ref wem, .ref wna, .ref wpl, .ref whs, .long 1, .int 0, .ref wk1, .ref wk2, .ref wk3])))  : zCi l D cy yX8_tagged cX8_tagged 5 (Option.some Jvm.ClassFile.FieldType.int) rmX8_tagged [.ref o, .int x, .int y] f (fun (r : Int32) (f1 : zM) => r = (-2)) := by
  intro sz
  refine z_body (by decide +kernel) (Nat.le_of_ble_eq_true rfl) ?_
  intro p e s m below meth c ls C hr hin hsz hz hl
  subst hsz
  have hx := C.1
  have hb := C.2.1
  have hA : ∀ q, s.heap.size ≤ q → zA f s.heap.size q := fun q h => Or.inr h
  have hS : va_S (zA f s.heap.size) s.heap s.heap [] := va_S.rf
  have hl : lv_has ls 5 [(0, .ref o), (1, .int x), (2, .int y)] := hl
  refine lv_iload_n hx hb dX8_tagged_0 rfl (lv_at hl 1 rfl) ?_
  refine lv_if_lt (tgt := 22) hx hb dX8_tagged_1 (by decide) (fun c1 => ?_) (fun c1 => ?_)
  · refine lv_bipush (v := (-2)) hx hb dX8_tagged_22 (by decide) ?_
    exact z_iret C hr rfl hz hS rfl (Nat.le_of_ble_eq_true rfl) (Nat.le_of_ble_eq_true rfl) dX8_tagged_24
  · refine lv_iload_n hx hb dX8_tagged_4 rfl (lv_at hl 1 rfl) ?_
    refine lv_aload_n hx hb dX8_tagged_5 rfl (lv_at hl 0 rfl) ?_
    refine z_get (v := .int 0) C hz p0 zl8 mFX8_187 (by decide) rfl dX8_tagged_6 ?_
    refine lv_icmp_ge (tgt := 22) hx hb dX8_tagged_9 (by decide) (fun c2 => ?_) (fun c2 => ?_)
    rotate_left
    · exact absurd (Int32.not_lt.mp c1) c2
    refine lv_bipush (v := (-2)) hx hb dX8_tagged_22 (by decide) ?_
    exact z_iret C hr rfl hz hS rfl (Nat.le_of_ble_eq_true rfl) (Nat.le_of_ble_eq_true rfl) dX8_tagged_24
abbrev rmX8_isEnumeration_A : Room := { frames := 0, cells := 0, slots := 0, locals := 0 }
set_option maxHeartbeats 4000000 in
set_option maxRecDepth 100000 in
theorem k_X8_isEnumeration_A (l : Launch) (D : va_G) (cy : Nat → ClassId) (f : zM) (x : Int32)  (hx4 : 0 ≤ x ∧ x < 4) : zCi l D cy yX8_isEnumeration cX8_isEnumeration 1 (Option.some Jvm.ClassFile.FieldType.boolean) rmX8_isEnumeration_A [.int x] f (fun (r : Int32) (f1 : zM) => r = 1 ∧ (∀ (b : Nat) (e : va_E), f b = some e → f1 b = some e)) := by
  intro sz
  refine z_body (by decide +kernel) (Nat.le_of_ble_eq_true rfl) ?_
  intro p e s m below meth c ls C hr hin hsz hz hl
  subst hsz
  have hx := C.1
  have hb := C.2.1
  have hA : ∀ q, s.heap.size ≤ q → zA f s.heap.size q := fun q h => Or.inr h
  have hS : va_S (zA f s.heap.size) s.heap s.heap [] := va_S.rf
  have hl : lv_has ls 1 [(0, .int x)] := hl
  refine lv_iload_n hx hb dX8_isEnumeration_0 rfl (lv_at hl 0 rfl) ?_
  refine lv_if_lt (tgt := 13) hx hb dX8_isEnumeration_1 (by decide) (fun c1 => ?_) (fun c1 => ?_)
  · exact absurd c1 (Int32.not_lt.mpr hx4.1)
  refine lv_iload_n hx hb dX8_isEnumeration_4 rfl (lv_at hl 0 rfl) ?_
  refine lv_iconst (v := 4) hx hb dX8_isEnumeration_5 (by decide) ?_
  refine lv_icmp_ge (tgt := 13) hx hb dX8_isEnumeration_6 (by decide) (fun c2 => ?_) (fun c2 => ?_)
  · exact absurd c2 (Int32.not_le.mpr hx4.2)
  refine lv_iconst (v := 1) hx hb dX8_isEnumeration_9 (by decide) ?_
  refine lv_goto (tgt := 14) hx hb dX8_isEnumeration_10 (by decide) ?_
  exact z_iret C hr (by decide) hz hS ⟨rfl, (fun b e hb => hb)⟩ (Nat.le_of_ble_eq_true rfl) (Nat.le_of_ble_eq_true rfl) dX8_isEnumeration_14
abbrev rmX8_isEnumeration_B : Room := { frames := 0, cells := 0, slots := 0, locals := 0 }
set_option maxHeartbeats 4000000 in
set_option maxRecDepth 100000 in
theorem k_X8_isEnumeration_B (l : Launch) (D : va_G) (cy : Nat → ClassId) (f : zM) (x : Int32)  (hx4 : ¬ (0 ≤ x ∧ x < 4)) : zCi l D cy yX8_isEnumeration cX8_isEnumeration 1 (Option.some Jvm.ClassFile.FieldType.boolean) rmX8_isEnumeration_B [.int x] f (fun (r : Int32) (f1 : zM) => r = 0 ∧ (∀ (b : Nat) (e : va_E), f b = some e → f1 b = some e)) := by
  intro sz
  refine z_body (by decide +kernel) (Nat.le_of_ble_eq_true rfl) ?_
  intro p e s m below meth c ls C hr hin hsz hz hl
  subst hsz
  have hx := C.1
  have hb := C.2.1
  have hA : ∀ q, s.heap.size ≤ q → zA f s.heap.size q := fun q h => Or.inr h
  have hS : va_S (zA f s.heap.size) s.heap s.heap [] := va_S.rf
  have hl : lv_has ls 1 [(0, .int x)] := hl
  refine lv_iload_n hx hb dX8_isEnumeration_0 rfl (lv_at hl 0 rfl) ?_
  refine lv_if_lt (tgt := 13) hx hb dX8_isEnumeration_1 (by decide) (fun c1 => ?_) (fun c1 => ?_)
  · refine lv_iconst (v := 0) hx hb dX8_isEnumeration_13 (by decide) ?_
    exact z_iret C hr (by decide) hz hS ⟨rfl, (fun b e hb => hb)⟩ (Nat.le_of_ble_eq_true rfl) (Nat.le_of_ble_eq_true rfl) dX8_isEnumeration_14
  · refine lv_iload_n hx hb dX8_isEnumeration_4 rfl (lv_at hl 0 rfl) ?_
    refine lv_iconst (v := 4) hx hb dX8_isEnumeration_5 (by decide) ?_
    refine lv_icmp_ge (tgt := 13) hx hb dX8_isEnumeration_6 (by decide) (fun c2 => ?_) (fun c2 => ?_)
    rotate_left
    · exact absurd ⟨Int32.not_lt.mp c1, Int32.not_le.mp c2⟩ hx4
    refine lv_iconst (v := 0) hx hb dX8_isEnumeration_13 (by decide) ?_
    exact z_iret C hr (by decide) hz hS ⟨rfl, (fun b e hb => hb)⟩ (Nat.le_of_ble_eq_true rfl) (Nat.le_of_ble_eq_true rfl) dX8_isEnumeration_14
abbrev rmX8_isConstant : Room := { frames := 0, cells := 0, slots := 0, locals := 0 }
set_option maxHeartbeats 4000000 in
set_option maxRecDepth 100000 in
theorem k_X8_isConstant (l : Launch) (D : va_G) (cy : Nat → ClassId) (f : zM) (o : Nat) (wev : Nat) (wnb : Nat) (wki : Nat) (wmy : Nat) (wce : Nat) (wiw : Nat) (wli : Nat) (wha : Nat) (wwt : Nat) (wfy : Nat) (wfk : Nat) (wem : Nat) (wna : Nat) (wpl : Nat) (whs : Nat) (wk1 : Nat) (wk2 : Nat) (wk3 : Nat) (x : Int32) (p0 : f o = some (.inr (8, [.int 0, .int (-1), .int 0, .ref wev, .int 0, .ref wnb, .int 0, .ref wki, .ref wmy, .ref wce, .ref wiw, .ref wli, .ref wha, .ref wwt, .int 0, .ref wfy, .ref wfk, .int 0, .ref wem, .ref wna, .ref wpl, .ref whs, .long 1, .int 0, .ref wk1, .ref wk2, .ref wk3])))  : zCi l D cy yX8_isConstant cX8_isConstant 2 (Option.some Jvm.ClassFile.FieldType.boolean) rmX8_isConstant [.ref o, .int x] f (fun (r : Int32) (f1 : zM) => r = 0 ∧ (∀ (b : Nat) (e : va_E), f b = some e → f1 b = some e)) := by
  intro sz
  refine z_body (by decide +kernel) (Nat.le_of_ble_eq_true rfl) ?_
  intro p e s m below meth c ls C hr hin hsz hz hl
  subst hsz
  have hx := C.1
  have hb := C.2.1
  have hA : ∀ q, s.heap.size ≤ q → zA f s.heap.size q := fun q h => Or.inr h
  have hS : va_S (zA f s.heap.size) s.heap s.heap [] := va_S.rf
  have hl : lv_has ls 2 [(0, .ref o), (1, .int x)] := hl
  refine lv_iload_n hx hb dX8_isConstant_0 rfl (lv_at hl 1 rfl) ?_
  refine lv_if_lt (tgt := 16) hx hb dX8_isConstant_1 (by decide) (fun c1 => ?_) (fun c1 => ?_)
  · refine lv_iconst (v := 0) hx hb dX8_isConstant_16 (by decide) ?_
    exact z_iret C hr (by decide) hz hS ⟨rfl, (fun b e hb => hb)⟩ (Nat.le_of_ble_eq_true rfl) (Nat.le_of_ble_eq_true rfl) dX8_isConstant_17
  · refine lv_iload_n hx hb dX8_isConstant_4 rfl (lv_at hl 1 rfl) ?_
    refine lv_aload_n hx hb dX8_isConstant_5 rfl (lv_at hl 0 rfl) ?_
    refine z_get (v := .int 0) C hz p0 zl8 mFX8_193 (by decide) rfl dX8_isConstant_6 ?_
    refine lv_icmp_ge (tgt := 16) hx hb dX8_isConstant_9 (by decide) (fun c2 => ?_) (fun c2 => ?_)
    rotate_left
    · exact absurd (Int32.not_lt.mp c1) c2
    refine lv_iconst (v := 0) hx hb dX8_isConstant_16 (by decide) ?_
    exact z_iret C hr (by decide) hz hS ⟨rfl, (fun b e hb => hb)⟩ (Nat.le_of_ble_eq_true rfl) (Nat.le_of_ble_eq_true rfl) dX8_isConstant_17
abbrev rmX8_constantAt : Room := { frames := 0, cells := 0, slots := 0, locals := 0 }
set_option maxHeartbeats 4000000 in
set_option maxRecDepth 100000 in
theorem k_X8_constantAt (l : Launch) (D : va_G) (cy : Nat → ClassId) (f : zM) (o : Nat) (wev : Nat) (wnb : Nat) (wki : Nat) (wmy : Nat) (wce : Nat) (wiw : Nat) (wli : Nat) (wha : Nat) (wwt : Nat) (wfy : Nat) (wfk : Nat) (wem : Nat) (wna : Nat) (wpl : Nat) (whs : Nat) (wk1 : Nat) (wk2 : Nat) (wk3 : Nat) (x : Int32) (y : Int32) (u1 : Int32) (u2 : Int32) (u3 : Int32) (p0 : f o = some (.inr (8, [.int u1, .int u2, .int u3, .ref wev, .int 0, .ref wnb, .int 0, .ref wki, .ref wmy, .ref wce, .ref wiw, .ref wli, .ref wha, .ref wwt, .int 0, .ref wfy, .ref wfk, .int 0, .ref wem, .ref wna, .ref wpl, .ref whs, .long 1, .int 0, .ref wk1, .ref wk2, .ref wk3])))  : zCi l D cy yX8_constantAt cX8_constantAt 4 (Option.some Jvm.ClassFile.FieldType.int) rmX8_constantAt [.ref o, .int x, .int y] f (fun (r : Int32) (f1 : zM) => r = (-1) ∧ (∀ (b : Nat) (e : va_E), f b = some e → f1 b = some e)) := by
  intro sz
  refine z_body (by decide +kernel) (Nat.le_of_ble_eq_true rfl) ?_
  intro p e s m below meth c ls C hr hin hsz hz hl
  subst hsz
  have hx := C.1
  have hb := C.2.1
  have hA : ∀ q, s.heap.size ≤ q → zA f s.heap.size q := fun q h => Or.inr h
  have hS : va_S (zA f s.heap.size) s.heap s.heap [] := va_S.rf
  have hl : lv_has ls 4 [(0, .ref o), (1, .int x), (2, .int y)] := hl
  refine lv_iconst (v := 0) hx hb dX8_constantAt_0 (by decide) ?_
  refine lv_istore_n (lv' := [(3, .int 0), (0, .ref o), (1, .int x), (2, .int y)]) hx hb dX8_constantAt_1 rfl hl (by decide) rfl (fun ls hl => ?_)
  refine lv_iload_n hx hb dX8_constantAt_2 rfl (lv_at hl 0 rfl) ?_
  refine lv_aload_n hx hb dX8_constantAt_3 rfl (lv_at hl 1 rfl) ?_
  refine z_get (v := .int 0) C hz p0 zl8 mFX8_193 (by decide) rfl dX8_constantAt_4 ?_
  refine lv_icmp_ge (tgt := 38) hx hb dX8_constantAt_7 (by decide) (fun c1 => ?_) (fun c1 => ?_)
  rotate_left
  · exact absurd c1 (by decide)
  refine lv_iconst (v := (-1)) hx hb dX8_constantAt_38 (by decide) ?_
  exact z_iret C hr rfl hz hS ⟨rfl, (fun b e hb => hb)⟩ (Nat.le_of_ble_eq_true rfl) (Nat.le_of_ble_eq_true rfl) dX8_constantAt_39
abbrev rmX8_constantOf : Room := { frames := 0, cells := 0, slots := 0, locals := 0 }
set_option maxHeartbeats 4000000 in
set_option maxRecDepth 100000 in
theorem k_X8_constantOf (l : Launch) (D : va_G) (cy : Nat → ClassId) (f : zM) (o : Nat) (wev : Nat) (wnb : Nat) (wki : Nat) (wmy : Nat) (wce : Nat) (wiw : Nat) (wli : Nat) (wha : Nat) (wwt : Nat) (wfy : Nat) (wfk : Nat) (wem : Nat) (wna : Nat) (wpl : Nat) (whs : Nat) (wk1 : Nat) (wk2 : Nat) (wk3 : Nat) (x : Int32) (y : Int32) (u1 : Int32) (u2 : Int32) (u3 : Int32) (p0 : f o = some (.inr (8, [.int u1, .int u2, .int u3, .ref wev, .int 0, .ref wnb, .int 0, .ref wki, .ref wmy, .ref wce, .ref wiw, .ref wli, .ref wha, .ref wwt, .int 0, .ref wfy, .ref wfk, .int 0, .ref wem, .ref wna, .ref wpl, .ref whs, .long 1, .int 0, .ref wk1, .ref wk2, .ref wk3])))  : zCi l D cy yX8_constantOf cX8_constantOf 4 (Option.some Jvm.ClassFile.FieldType.int) rmX8_constantOf [.ref o, .int x, .int y] f (fun (r : Int32) (f1 : zM) => r = (-1) ∧ (∀ (b : Nat) (e : va_E), f b = some e → f1 b = some e)) := by
  intro sz
  refine z_body (by decide +kernel) (Nat.le_of_ble_eq_true rfl) ?_
  intro p e s m below meth c ls C hr hin hsz hz hl
  subst hsz
  have hx := C.1
  have hb := C.2.1
  have hA : ∀ q, s.heap.size ≤ q → zA f s.heap.size q := fun q h => Or.inr h
  have hS : va_S (zA f s.heap.size) s.heap s.heap [] := va_S.rf
  have hl : lv_has ls 4 [(0, .ref o), (1, .int x), (2, .int y)] := hl
  refine lv_iconst (v := 0) hx hb dX8_constantOf_0 (by decide) ?_
  refine lv_istore_n (lv' := [(3, .int 0), (0, .ref o), (1, .int x), (2, .int y)]) hx hb dX8_constantOf_1 rfl hl (by decide) rfl (fun ls hl => ?_)
  refine lv_iload_n hx hb dX8_constantOf_2 rfl (lv_at hl 0 rfl) ?_
  refine lv_aload_n hx hb dX8_constantOf_3 rfl (lv_at hl 1 rfl) ?_
  refine z_get (v := .int 0) C hz p0 zl8 mFX8_193 (by decide) rfl dX8_constantOf_4 ?_
  refine lv_icmp_ge (tgt := 48) hx hb dX8_constantOf_7 (by decide) (fun c1 => ?_) (fun c1 => ?_)
  rotate_left
  · exact absurd c1 (by decide)
  refine lv_iconst (v := (-1)) hx hb dX8_constantOf_48 (by decide) ?_
  exact z_iret C hr rfl hz hS ⟨rfl, (fun b e hb => hb)⟩ (Nat.le_of_ble_eq_true rfl) (Nat.le_of_ble_eq_true rfl) dX8_constantOf_49
abbrev rmX8_constant : Room := { frames := 1, cells := 0, slots := 0, locals := 23 }
set_option maxHeartbeats 4000000 in
set_option maxRecDepth 100000 in
theorem k_X8_constant (l : Launch) (D : va_G) (cy : Nat → ClassId) (f : zM) (o : Nat) (wev : Nat) (wnb : Nat) (wki : Nat) (wmy : Nat) (wce : Nat) (wiw : Nat) (wli : Nat) (wha : Nat) (wwt : Nat) (wfy : Nat) (wfk : Nat) (wem : Nat) (wna : Nat) (wpl : Nat) (whs : Nat) (wk1 : Nat) (wk2 : Nat) (wk3 : Nat) (x : Int32) (y : Int32) (ge1 : Nat → Int32) (gn1 : Nat → Int32) (gp1 : Nat → Int32) (p0 : f o = some (.inr (8, [.int 0, .int (-1), .int 0, .ref wev, .int 0, .ref wnb, .int 0, .ref wki, .ref wmy, .ref wce, .ref wiw, .ref wli, .ref wha, .ref wwt, .int 0, .ref wfy, .ref wfk, .int 0, .ref wem, .ref wna, .ref wpl, .ref whs, .long 1, .int 0, .ref wk1, .ref wk2, .ref wk3]))) (p1 : f wem = some (.inl (cy 0, 60, .inl ge1))) (p2 : f wna = some (.inl (cy 0, 60, .inl gn1))) (p3 : f wpl = some (.inl (cy 0, 60, .inl gp1))) (p4 : f whs = some (.inl (cy 0, 4, .inl (fun _ => 0)))) (nc1 : wna ≠ wem) (nc2 : wpl ≠ wem) (nc3 : wpl ≠ wna) : zCi l D cy yX8_constant cX8_constant 3 (Option.some Jvm.ClassFile.FieldType.int) rmX8_constant [.ref o, .int x, .int y] f (fun (r : Int32) (f1 : zM) => r = (if 0 ≤ x ∧ x < 4 then (if y < 0 then (-2) else if 10000 ≤ y then (-2) else 0) else (-2))) := by
  intro sz
  refine z_body (by decide +kernel) (Nat.le_of_ble_eq_true rfl) ?_
  intro p e s m below meth c ls C hr hin hsz hz hl
  subst hsz
  have hx := C.1
  have hb := C.2.1
  have hA : ∀ q, s.heap.size ≤ q → zA f s.heap.size q := fun q h => Or.inr h
  have hS : va_S (zA f s.heap.size) s.heap s.heap [] := va_S.rf
  have hl : lv_has ls 3 [(0, .ref o), (1, .int x), (2, .int y)] := hl
  by_cases he : 0 ≤ x ∧ x < 4
  · obtain ⟨j, hj, hxj⟩ := z_ix4 he
    refine lv_iload_n hx hb dX8_constant_0 rfl (lv_at hl 1 rfl) ?_
    refine z_callSi (As := [.int x]) C hz hS hA hl (k_X8_isEnumeration_A l D cy f x  he) zyX8_isEnumeration mMX8_196 rfl rfl (Nat.le_of_ble_eq_true rfl) ⟨Nat.le_of_ble_eq_true rfl, Nat.le_of_ble_eq_true rfl⟩ ⟨Nat.le_of_ble_eq_true rfl, Nat.le_of_ble_eq_true rfl⟩ dX8_constant_1 (fun r f1 H locs h2 hz hS => ?_)
    obtain ⟨rfl, k3⟩ := h2
    refine lv_if_eq (tgt := 28) hx hb dX8_constant_4 (by decide) (fun c4 => ?_) (fun c4 => ?_)
    · exact absurd c4 (by decide)
    refine lv_iload_n hx hb dX8_constant_7 rfl (lv_at hl 2 rfl) ?_
    refine lv_if_lt (tgt := 28) hx hb dX8_constant_8 (by decide) (fun c5 => ?_) (fun c5 => ?_)
    · refine lv_bipush (v := (-2)) hx hb dX8_constant_28 (by decide) ?_
      exact z_iret C hr rfl hz hS (by simp [he, c4, c5]) (Nat.le_of_ble_eq_true rfl) (Nat.le_of_ble_eq_true rfl) dX8_constant_30
    · refine lv_iload_n hx hb dX8_constant_11 rfl (lv_at hl 2 rfl) ?_
      refine lv_sipush (v := 10000) hx hb dX8_constant_12 (by decide) ?_
      refine lv_icmp_ge (tgt := 28) hx hb dX8_constant_15 (by decide) (fun c6 => ?_) (fun c6 => ?_)
      · refine lv_bipush (v := (-2)) hx hb dX8_constant_28 (by decide) ?_
        exact z_iret C hr rfl hz hS (by simp [he, c4, c5, c6]) (Nat.le_of_ble_eq_true rfl) (Nat.le_of_ble_eq_true rfl) dX8_constant_30
      · refine lv_aload_n hx hb dX8_constant_18 rfl (lv_at hl 0 rfl) ?_
        refine lv_iload_n hx hb dX8_constant_19 rfl (lv_at hl 1 rfl) ?_
        refine lv_iload_n hx hb dX8_constant_20 rfl (lv_at hl 2 rfl) ?_
        have a7 : f1 o = some (.inr (8, [.int 0, .int (-1), .int 0, .ref wev, .int 0, .ref wnb, .int 0, .ref wki, .ref wmy, .ref wce, .ref wiw, .ref wli, .ref wha, .ref wwt, .int 0, .ref wfy, .ref wfk, .int 0, .ref wem, .ref wna, .ref wpl, .ref whs, .long 1, .int 0, .ref wk1, .ref wk2, .ref wk3])) := k3 _ _ p0 
        refine z_callVi (As := [.int x, .int y]) C hz hS hA hl (k_X8_constantOf l D cy f1 o wev wnb wki wmy wce wiw wli wha wwt wfy wfk wem wna wpl whs wk1 wk2 wk3 x y 0 (-1) 0 a7 ) zyX8_constantOf mMX8_199 a7 zl8 rfl rfl (Nat.le_of_ble_eq_true rfl) ⟨Nat.le_of_ble_eq_true rfl, Nat.le_of_ble_eq_true rfl⟩ ⟨Nat.le_of_ble_eq_true rfl, Nat.le_of_ble_eq_true rfl⟩ dX8_constant_21 (fun r f8 H locs h9 hz hS => ?_)
        obtain ⟨rfl, k10⟩ := h9
        refine lv_iconst (v := (-1)) hx hb dX8_constant_24 (by decide) ?_
        refine lv_icmp_eq (tgt := 31) hx hb dX8_constant_25 (by decide) (fun c11 => ?_) (fun c11 => ?_)
        rotate_left
        · exact absurd c11 (by decide)
        refine lv_aload_n hx hb dX8_constant_31 rfl (lv_at hl 0 rfl) ?_
        have a12 : f8 o = some (.inr (8, [.int 0, .int (-1), .int 0, .ref wev, .int 0, .ref wnb, .int 0, .ref wki, .ref wmy, .ref wce, .ref wiw, .ref wli, .ref wha, .ref wwt, .int 0, .ref wfy, .ref wfk, .int 0, .ref wem, .ref wna, .ref wpl, .ref whs, .long 1, .int 0, .ref wk1, .ref wk2, .ref wk3])) := k10 _ _ a7 
        refine z_get (v := .int 0) C hz a12 zl8 mFX8_193 (by decide) rfl dX8_constant_32 ?_
        refine lv_bipush (v := 60) hx hb dX8_constant_35 (by decide) ?_
        refine lv_icmp_ne (tgt := 43) hx hb dX8_constant_37 (by decide) (fun c13 => ?_) (fun c13 => ?_)
        rotate_left
        · exact absurd c13 (by decide)
        refine lv_aload_n hx hb dX8_constant_43 rfl (lv_at hl 0 rfl) ?_
        refine z_get (v := .ref wem) C hz a12 zl8 mFX8_49 (by decide) rfl dX8_constant_44 ?_
        refine lv_aload_n hx hb dX8_constant_47 rfl (lv_at hl 0 rfl) ?_
        refine z_get (v := .int 0) C hz a12 zl8 mFX8_193 (by decide) rfl dX8_constant_48 ?_
        refine lv_iload_n hx hb dX8_constant_51 rfl (lv_at hl 1 rfl) ?_
        have a14 : f1 wem = some (.inl (cy 0, 60, .inl ge1)) := k3 _ _ p1 
        have a15 : f8 wem = some (.inl (cy 0, 60, .inl ge1)) := k10 _ _ a14 
        refine z_iast 0 C hz hS a15 (by decide) (Nat.le_of_ble_eq_true rfl) (by omega) dX8_constant_52 (fun H locs f16 a17 k18 hz hS => ?_)
        refine lv_aload_n hx hb dX8_constant_53 rfl (lv_at hl 0 rfl) ?_
        have a19 : f16 o = some (.inr (8, [.int 0, .int (-1), .int 0, .ref wev, .int 0, .ref wnb, .int 0, .ref wki, .ref wmy, .ref wce, .ref wiw, .ref wli, .ref wha, .ref wwt, .int 0, .ref wfy, .ref wfk, .int 0, .ref wem, .ref wna, .ref wpl, .ref whs, .long 1, .int 0, .ref wk1, .ref wk2, .ref wk3])) := (k18 _ (z_ne a12 a15 rfl)).trans a12
        refine z_get (v := .ref wna) C hz a19 zl8 mFX8_52 (by decide) rfl dX8_constant_54 ?_
        refine lv_aload_n hx hb dX8_constant_57 rfl (lv_at hl 0 rfl) ?_
        refine z_get (v := .int 0) C hz a19 zl8 mFX8_193 (by decide) rfl dX8_constant_58 ?_
        refine lv_iload_n hx hb dX8_constant_61 rfl (lv_at hl 2 rfl) ?_
        have a20 : f1 wna = some (.inl (cy 0, 60, .inl gn1)) := k3 _ _ p2 
        have a21 : f8 wna = some (.inl (cy 0, 60, .inl gn1)) := k10 _ _ a20 
        have a22 : f16 wna = some (.inl (cy 0, 60, .inl gn1)) := (k18 _ nc1).trans a21
        refine z_iast 0 C hz hS a22 (by decide) (Nat.le_of_ble_eq_true rfl) (by omega) dX8_constant_62 (fun H locs f23 a24 k25 hz hS => ?_)
        refine lv_aload_n hx hb dX8_constant_63 rfl (lv_at hl 0 rfl) ?_
        have a26 : f23 o = some (.inr (8, [.int 0, .int (-1), .int 0, .ref wev, .int 0, .ref wnb, .int 0, .ref wki, .ref wmy, .ref wce, .ref wiw, .ref wli, .ref wha, .ref wwt, .int 0, .ref wfy, .ref wfk, .int 0, .ref wem, .ref wna, .ref wpl, .ref whs, .long 1, .int 0, .ref wk1, .ref wk2, .ref wk3])) := (k25 _ (z_ne a19 a22 rfl)).trans a19
        refine z_get (v := .ref wpl) C hz a26 zl8 mFX8_55 (by decide) rfl dX8_constant_64 ?_
        refine lv_aload_n hx hb dX8_constant_67 rfl (lv_at hl 0 rfl) ?_
        refine z_get (v := .int 0) C hz a26 zl8 mFX8_193 (by decide) rfl dX8_constant_68 ?_
        refine lv_aload_n hx hb dX8_constant_71 rfl (lv_at hl 0 rfl) ?_
        refine z_get (v := .ref whs) C hz a26 zl8 mFX8_58 (by decide) rfl dX8_constant_72 ?_
        refine lv_iload_n hx hb dX8_constant_75 rfl (lv_at hl 1 rfl) ?_
        have a27 : f1 whs = some (.inl (cy 0, 4, .inl (fun _ => 0))) := k3 _ _ p4 
        have a28 : f8 whs = some (.inl (cy 0, 4, .inl (fun _ => 0))) := k10 _ _ a27 
        have a29 : f16 whs = some (.inl (cy 0, 4, .inl (fun _ => 0))) := (k18 _ (z_ne a28 a15 rfl)).trans a28
        have a30 : f23 whs = some (.inl (cy 0, 4, .inl (fun _ => 0))) := (k25 _ (z_ne a29 a22 rfl)).trans a29
        refine z_iald j C hz a30 hxj hj (by omega) dX8_constant_76 ?_
        have a31 : f1 wpl = some (.inl (cy 0, 60, .inl gp1)) := k3 _ _ p3 
        have a32 : f8 wpl = some (.inl (cy 0, 60, .inl gp1)) := k10 _ _ a31 
        have a33 : f16 wpl = some (.inl (cy 0, 60, .inl gp1)) := (k18 _ nc2).trans a32
        have a34 : f23 wpl = some (.inl (cy 0, 60, .inl gp1)) := (k25 _ nc3).trans a33
        refine z_iast 0 C hz hS a34 (by decide) (Nat.le_of_ble_eq_true rfl) (by omega) dX8_constant_77 (fun H locs f35 a36 k37 hz hS => ?_)
        refine lv_aload_n hx hb dX8_constant_78 rfl (lv_at hl 0 rfl) ?_
        have a38 : f35 o = some (.inr (8, [.int 0, .int (-1), .int 0, .ref wev, .int 0, .ref wnb, .int 0, .ref wki, .ref wmy, .ref wce, .ref wiw, .ref wli, .ref wha, .ref wwt, .int 0, .ref wfy, .ref wfk, .int 0, .ref wem, .ref wna, .ref wpl, .ref whs, .long 1, .int 0, .ref wk1, .ref wk2, .ref wk3])) := (k37 _ (z_ne a26 a34 rfl)).trans a26
        refine z_get (v := .ref whs) C hz a38 zl8 mFX8_58 (by decide) rfl dX8_constant_79 ?_
        refine lv_iload_n hx hb dX8_constant_82 rfl (lv_at hl 1 rfl) ?_
        refine lv_dup2_11 hx hb dX8_constant_83 rfl rfl ?_
        have a39 : f35 whs = some (.inl (cy 0, 4, .inl (fun _ => 0))) := (k37 _ (z_ne a30 a34 rfl)).trans a30
        refine z_iald j C hz a39 hxj hj (by omega) dX8_constant_84 ?_
        refine lv_iconst (v := 1) hx hb dX8_constant_85 (by decide) ?_
        refine lv_iadd hx hb dX8_constant_86 ?_
        refine z_iast j C hz hS a39 hxj hj (by omega) dX8_constant_87 (fun H locs f40 a41 k42 hz hS => ?_)
        refine lv_aload_n hx hb dX8_constant_88 rfl (lv_at hl 0 rfl) ?_
        refine lv_dup hx hb dX8_constant_89 rfl ?_
        have a43 : f40 o = some (.inr (8, [.int 0, .int (-1), .int 0, .ref wev, .int 0, .ref wnb, .int 0, .ref wki, .ref wmy, .ref wce, .ref wiw, .ref wli, .ref wha, .ref wwt, .int 0, .ref wfy, .ref wfk, .int 0, .ref wem, .ref wna, .ref wpl, .ref whs, .long 1, .int 0, .ref wk1, .ref wk2, .ref wk3])) := (k42 _ (z_ne a38 a39 rfl)).trans a38
        refine z_get (v := .int 0) C hz a43 zl8 mFX8_193 (by decide) rfl dX8_constant_90 ?_
        refine lv_iconst (v := 1) hx hb dX8_constant_93 (by decide) ?_
        refine lv_iadd hx hb dX8_constant_94 ?_
        refine z_put (fs' := [.int 0, .int (-1), .int 0, .ref wev, .int 0, .ref wnb, .int 0, .ref wki, .ref wmy, .ref wce, .ref wiw, .ref wli, .ref wha, .ref wwt, .int 0, .ref wfy, .ref wfk, .int (0 + 1), .ref wem, .ref wna, .ref wpl, .ref whs, .long 1, .int 0, .ref wk1, .ref wk2, .ref wk3]) C hz hS a43 zl8 mFX8_193 (by decide) rfl rfl rfl (Nat.le_of_ble_eq_true rfl) rfl dX8_constant_95 (fun H locs f44 a45 k46 hz hS => ?_)
        refine lv_aload_n hx hb dX8_constant_98 rfl (lv_at hl 0 rfl) ?_
        refine z_get (v := .int (0 + 1)) C hz a45 zl8 mFX8_193 (by decide) rfl dX8_constant_99 ?_
        refine lv_iconst (v := 1) hx hb dX8_constant_102 (by decide) ?_
        refine lv_isub hx hb dX8_constant_103 ?_
        refine lv_topi (fun y47 e48 => ?_)
        obtain rfl : y47 = 0 := e48.trans (by decide)
        exact z_iret C hr rfl hz hS (by simp [he, c4, c5, c6, c11, c13]) (Nat.le_of_ble_eq_true rfl) (Nat.le_of_ble_eq_true rfl) dX8_constant_104
  · refine lv_iload_n hx hb dX8_constant_0 rfl (lv_at hl 1 rfl) ?_
    refine z_callSi (As := [.int x]) C hz hS hA hl (k_X8_isEnumeration_B l D cy f x  he) zyX8_isEnumeration mMX8_196 rfl rfl (Nat.le_of_ble_eq_true rfl) ⟨Nat.le_of_ble_eq_true rfl, Nat.le_of_ble_eq_true rfl⟩ ⟨Nat.le_of_ble_eq_true rfl, Nat.le_of_ble_eq_true rfl⟩ dX8_constant_1 (fun r f49 H locs h50 hz hS => ?_)
    obtain ⟨rfl, k51⟩ := h50
    refine lv_if_eq (tgt := 28) hx hb dX8_constant_4 (by decide) (fun c52 => ?_) (fun c52 => ?_)
    rotate_left
    · exact absurd c52 (by decide)
    refine lv_bipush (v := (-2)) hx hb dX8_constant_28 (by decide) ?_
    exact z_iret C hr rfl hz hS (by simp [he, c52]) (Nat.le_of_ble_eq_true rfl) (Nat.le_of_ble_eq_true rfl) dX8_constant_30
abbrev rmX8_named : Room := { frames := 1, cells := 0, slots := 0, locals := 23 }
set_option maxHeartbeats 4000000 in
set_option maxRecDepth 100000 in
theorem k_X8_named (l : Launch) (D : va_G) (cy : Nat → ClassId) (f : zM) (o : Nat) (wev : Nat) (wnb : Nat) (wki : Nat) (wmy : Nat) (wce : Nat) (wiw : Nat) (wli : Nat) (wha : Nat) (wwt : Nat) (wfy : Nat) (wfk : Nat) (wem : Nat) (wna : Nat) (wpl : Nat) (whs : Nat) (wk1 : Nat) (wk2 : Nat) (wk3 : Nat) (x : Int32) (y : Int32) (g : Nat → Int32) (p0 : f o = some (.inr (8, [.int 0, .int (-1), .int 0, .ref wev, .int 0, .ref wnb, .int 0, .ref wki, .ref wmy, .ref wce, .ref wiw, .ref wli, .ref wha, .ref wwt, .int 0, .ref wfy, .ref wfk, .int 0, .ref wem, .ref wna, .ref wpl, .ref whs, .long 1, .int 0, .ref wk1, .ref wk2, .ref wk3]))) (p1 : f wev = some (.inl (cy 0, 8, .inl g)))  : zCi l D cy yX8_named cX8_named 4 (Option.some Jvm.ClassFile.FieldType.int) rmX8_named [.ref o, .int x, .int y] f (fun (r : Int32) (f1 : zM) => r = (if 0 ≤ x ∧ x < 4 then (-4) else (-2))) := by
  intro sz
  refine z_body (by decide +kernel) (Nat.le_of_ble_eq_true rfl) ?_
  intro p e s m below meth c ls C hr hin hsz hz hl
  subst hsz
  have hx := C.1
  have hb := C.2.1
  have hA : ∀ q, s.heap.size ≤ q → zA f s.heap.size q := fun q h => Or.inr h
  have hS : va_S (zA f s.heap.size) s.heap s.heap [] := va_S.rf
  have hl : lv_has ls 4 [(0, .ref o), (1, .int x), (2, .int y)] := hl
  by_cases he : 0 ≤ x ∧ x < 4
  · refine lv_aload_n hx hb dX8_named_0 rfl (lv_at hl 0 rfl) ?_
    refine z_callVv (As := []) C hz hS hA hl (k_X8_begin l D cy f o wev wnb wki wmy wce wiw wli wha wwt wfy wfk wem wna wpl whs wk1 wk2 wk3 0 (-1) 0 p0 ) zyX8_begin mMX8_116 p0 zl8 rfl rfl (Nat.le_of_ble_eq_true rfl) ⟨Nat.le_of_ble_eq_true rfl, Nat.le_of_ble_eq_true rfl⟩ ⟨Nat.le_of_ble_eq_true rfl, Nat.le_of_ble_eq_true rfl⟩ dX8_named_1 (fun  f1 H locs h2 hz hS => ?_)
    obtain ⟨a3, k4⟩ := h2
    refine lv_iload_n hx hb dX8_named_4 rfl (lv_at hl 1 rfl) ?_
    refine z_callSi (As := [.int x]) C hz hS hA hl (k_X8_isEnumeration_A l D cy f1 x  he) zyX8_isEnumeration mMX8_196 rfl rfl (Nat.le_of_ble_eq_true rfl) ⟨Nat.le_of_ble_eq_true rfl, Nat.le_of_ble_eq_true rfl⟩ ⟨Nat.le_of_ble_eq_true rfl, Nat.le_of_ble_eq_true rfl⟩ dX8_named_5 (fun r f5 H locs h6 hz hS => ?_)
    obtain ⟨rfl, k7⟩ := h6
    refine lv_if_ne (tgt := 14) hx hb dX8_named_8 (by decide) (fun c8 => ?_) (fun c8 => ?_)
    rotate_left
    · exact absurd c8 (by decide)
    refine lv_aload_n hx hb dX8_named_14 rfl (lv_at hl 0 rfl) ?_
    refine lv_iload_n hx hb dX8_named_15 rfl (lv_at hl 1 rfl) ?_
    refine lv_iload_n hx hb dX8_named_16 rfl (lv_at hl 2 rfl) ?_
    have a9 : f5 o = some (.inr (8, [.int 0, .int (-1), .int 0, .ref wev, .int 0, .ref wnb, .int 0, .ref wki, .ref wmy, .ref wce, .ref wiw, .ref wli, .ref wha, .ref wwt, .int 0, .ref wfy, .ref wfk, .int 0, .ref wem, .ref wna, .ref wpl, .ref whs, .long 1, .int 0, .ref wk1, .ref wk2, .ref wk3])) := k7 _ _ a3 
    refine z_callVi (As := [.int x, .int y]) C hz hS hA hl (k_X8_constantOf l D cy f5 o wev wnb wki wmy wce wiw wli wha wwt wfy wfk wem wna wpl whs wk1 wk2 wk3 x y 0 (-1) 0 a9 ) zyX8_constantOf mMX8_199 a9 zl8 rfl rfl (Nat.le_of_ble_eq_true rfl) ⟨Nat.le_of_ble_eq_true rfl, Nat.le_of_ble_eq_true rfl⟩ ⟨Nat.le_of_ble_eq_true rfl, Nat.le_of_ble_eq_true rfl⟩ dX8_named_17 (fun r f10 H locs h11 hz hS => ?_)
    obtain ⟨rfl, k12⟩ := h11
    refine lv_istore_n (lv' := [(3, .int (-1)), (0, .ref o), (1, .int x), (2, .int y)]) hx hb dX8_named_20 rfl hl (by decide) rfl (fun ls hl => ?_)
    refine lv_iload_n hx hb dX8_named_21 rfl (lv_at hl 0 rfl) ?_
    refine lv_iconst (v := (-1)) hx hb dX8_named_22 (by decide) ?_
    refine lv_icmp_ne (tgt := 36) hx hb dX8_named_23 (by decide) (fun c13 => ?_) (fun c13 => ?_)
    · exact absurd c13 (by decide)
    refine lv_aload_n hx hb dX8_named_26 rfl (lv_at hl 1 rfl) ?_
    refine lv_iconst (v := 1) hx hb dX8_named_27 (by decide) ?_
    refine lv_iconst (v := (-1)) hx hb dX8_named_28 (by decide) ?_
    refine lv_iconst (v := 0) hx hb dX8_named_29 (by decide) ?_
    have a14 : f10 o = some (.inr (8, [.int 0, .int (-1), .int 0, .ref wev, .int 0, .ref wnb, .int 0, .ref wki, .ref wmy, .ref wce, .ref wiw, .ref wli, .ref wha, .ref wwt, .int 0, .ref wfy, .ref wfk, .int 0, .ref wem, .ref wna, .ref wpl, .ref whs, .long 1, .int 0, .ref wk1, .ref wk2, .ref wk3])) := k12 _ _ a9 
    have a15 : f1 wev = some (.inl (cy 0, 8, .inl g)) := k4 _ _ p1 (z_ne p1 p0 rfl)
    have a16 : f5 wev = some (.inl (cy 0, 8, .inl g)) := k7 _ _ a15 
    have a17 : f10 wev = some (.inl (cy 0, 8, .inl g)) := k12 _ _ a16 
    refine z_callVi (As := [.int 1, .int (-1), .int 0]) C hz hS hA hl (k_X8_fails l D cy f10 o wev wnb wki wmy wce wiw wli wha wwt wfy wfk wem wna wpl whs wk1 wk2 wk3 1 (-1) 0 0 (-1) 0 g 1 a14 a17 (by decide) (Nat.le_of_ble_eq_true rfl)) zyX8_fails mMX8_135 a14 zl8 rfl rfl (Nat.le_of_ble_eq_true rfl) ⟨Nat.le_of_ble_eq_true rfl, Nat.le_of_ble_eq_true rfl⟩ ⟨Nat.le_of_ble_eq_true rfl, Nat.le_of_ble_eq_true rfl⟩ dX8_named_30 (fun r f18 H locs h19 hz hS => ?_)
    obtain ⟨rfl, k20⟩ := h19
    refine lv_goto (tgt := 37) hx hb dX8_named_33 (by decide) ?_
    exact z_iret C hr rfl hz hS (by simp [he, c8, c13]) (Nat.le_of_ble_eq_true rfl) (Nat.le_of_ble_eq_true rfl) dX8_named_37
  · refine lv_aload_n hx hb dX8_named_0 rfl (lv_at hl 0 rfl) ?_
    refine z_callVv (As := []) C hz hS hA hl (k_X8_begin l D cy f o wev wnb wki wmy wce wiw wli wha wwt wfy wfk wem wna wpl whs wk1 wk2 wk3 0 (-1) 0 p0 ) zyX8_begin mMX8_116 p0 zl8 rfl rfl (Nat.le_of_ble_eq_true rfl) ⟨Nat.le_of_ble_eq_true rfl, Nat.le_of_ble_eq_true rfl⟩ ⟨Nat.le_of_ble_eq_true rfl, Nat.le_of_ble_eq_true rfl⟩ dX8_named_1 (fun  f21 H locs h22 hz hS => ?_)
    obtain ⟨a23, k24⟩ := h22
    refine lv_iload_n hx hb dX8_named_4 rfl (lv_at hl 1 rfl) ?_
    refine z_callSi (As := [.int x]) C hz hS hA hl (k_X8_isEnumeration_B l D cy f21 x  he) zyX8_isEnumeration mMX8_196 rfl rfl (Nat.le_of_ble_eq_true rfl) ⟨Nat.le_of_ble_eq_true rfl, Nat.le_of_ble_eq_true rfl⟩ ⟨Nat.le_of_ble_eq_true rfl, Nat.le_of_ble_eq_true rfl⟩ dX8_named_5 (fun r f25 H locs h26 hz hS => ?_)
    obtain ⟨rfl, k27⟩ := h26
    refine lv_if_ne (tgt := 14) hx hb dX8_named_8 (by decide) (fun c28 => ?_) (fun c28 => ?_)
    · exact absurd c28 (by decide)
    refine lv_bipush (v := (-2)) hx hb dX8_named_11 (by decide) ?_
    exact z_iret C hr rfl hz hS (by simp [he, c28]) (Nat.le_of_ble_eq_true rfl) (Nat.le_of_ble_eq_true rfl) dX8_named_13
abbrev rmX8_drop : Room := { frames := 1, cells := 0, slots := 0, locals := 21 }
set_option maxHeartbeats 4000000 in
set_option maxRecDepth 100000 in
theorem k_X8_drop (l : Launch) (D : va_G) (cy : Nat → ClassId) (f : zM) (o : Nat) (wev : Nat) (wnb : Nat) (wki : Nat) (wmy : Nat) (wce : Nat) (wiw : Nat) (wli : Nat) (wha : Nat) (wwt : Nat) (wfy : Nat) (wfk : Nat) (wem : Nat) (wna : Nat) (wpl : Nat) (whs : Nat) (wk1 : Nat) (wk2 : Nat) (wk3 : Nat) (x : Int32) (p0 : f o = some (.inr (8, [.int 0, .int (-1), .int 0, .ref wev, .int 0, .ref wnb, .int 0, .ref wki, .ref wmy, .ref wce, .ref wiw, .ref wli, .ref wha, .ref wwt, .int 0, .ref wfy, .ref wfk, .int 0, .ref wem, .ref wna, .ref wpl, .ref whs, .long 1, .int 0, .ref wk1, .ref wk2, .ref wk3])))  : zCi l D cy yX8_drop cX8_drop 4 (Option.some Jvm.ClassFile.FieldType.int) rmX8_drop [.ref o, .int x] f (fun (r : Int32) (f1 : zM) => r = (-2)) := by
  intro sz
  refine z_body (by decide +kernel) (Nat.le_of_ble_eq_true rfl) ?_
  intro p e s m below meth c ls C hr hin hsz hz hl
  subst hsz
  have hx := C.1
  have hb := C.2.1
  have hA : ∀ q, s.heap.size ≤ q → zA f s.heap.size q := fun q h => Or.inr h
  have hS : va_S (zA f s.heap.size) s.heap s.heap [] := va_S.rf
  have hl : lv_has ls 4 [(0, .ref o), (1, .int x)] := hl
  refine lv_aload_n hx hb dX8_drop_0 rfl (lv_at hl 0 rfl) ?_
  refine lv_iload_n hx hb dX8_drop_1 rfl (lv_at hl 1 rfl) ?_
  refine z_callVi (As := [.int x]) C hz hS hA hl (k_X8_isConstant l D cy f o wev wnb wki wmy wce wiw wli wha wwt wfy wfk wem wna wpl whs wk1 wk2 wk3 x p0 ) zyX8_isConstant mMX8_202 p0 zl8 rfl rfl (Nat.le_of_ble_eq_true rfl) ⟨Nat.le_of_ble_eq_true rfl, Nat.le_of_ble_eq_true rfl⟩ ⟨Nat.le_of_ble_eq_true rfl, Nat.le_of_ble_eq_true rfl⟩ dX8_drop_2 (fun r f1 H locs h2 hz hS => ?_)
  obtain ⟨rfl, k3⟩ := h2
  refine lv_if_eq (tgt := 18) hx hb dX8_drop_5 (by decide) (fun c4 => ?_) (fun c4 => ?_)
  rotate_left
  · exact absurd c4 (by decide)
  refine lv_bipush (v := (-2)) hx hb dX8_drop_18 (by decide) ?_
  exact z_iret C hr rfl hz hS rfl (Nat.le_of_ble_eq_true rfl) (Nat.le_of_ble_eq_true rfl) dX8_drop_20
abbrev rmX8_reorder : Room := { frames := 1, cells := 0, slots := 0, locals := 20 }
set_option maxHeartbeats 4000000 in
set_option maxRecDepth 100000 in
theorem k_X8_reorder (l : Launch) (D : va_G) (cy : Nat → ClassId) (f : zM) (o : Nat) (wev : Nat) (wnb : Nat) (wki : Nat) (wmy : Nat) (wce : Nat) (wiw : Nat) (wli : Nat) (wha : Nat) (wwt : Nat) (wfy : Nat) (wfk : Nat) (wem : Nat) (wna : Nat) (wpl : Nat) (whs : Nat) (wk1 : Nat) (wk2 : Nat) (wk3 : Nat) (x : Int32) (p0 : f o = some (.inr (8, [.int 0, .int (-1), .int 0, .ref wev, .int 0, .ref wnb, .int 0, .ref wki, .ref wmy, .ref wce, .ref wiw, .ref wli, .ref wha, .ref wwt, .int 0, .ref wfy, .ref wfk, .int 0, .ref wem, .ref wna, .ref wpl, .ref whs, .long 1, .int 0, .ref wk1, .ref wk2, .ref wk3]))) (p1 : f whs = some (.inl (cy 0, 4, .inl (fun _ => 0))))  : zCi l D cy yX8_reorder cX8_reorder 6 (Option.some Jvm.ClassFile.FieldType.int) rmX8_reorder [.ref o, .int x] f (fun (r : Int32) (f1 : zM) => r = (if 0 ≤ x ∧ x < 4 then 0 else (-2))) := by
  intro sz
  refine z_body (by decide +kernel) (Nat.le_of_ble_eq_true rfl) ?_
  intro p e s m below meth c ls C hr hin hsz hz hl
  subst hsz
  have hx := C.1
  have hb := C.2.1
  have hA : ∀ q, s.heap.size ≤ q → zA f s.heap.size q := fun q h => Or.inr h
  have hS : va_S (zA f s.heap.size) s.heap s.heap [] := va_S.rf
  have hl : lv_has ls 6 [(0, .ref o), (1, .int x)] := hl
  by_cases he : 0 ≤ x ∧ x < 4
  · obtain ⟨j, hj, hxj⟩ := z_ix4 he
    refine lv_iload_n hx hb dX8_reorder_0 rfl (lv_at hl 1 rfl) ?_
    refine z_callSi (As := [.int x]) C hz hS hA hl (k_X8_isEnumeration_A l D cy f x  he) zyX8_isEnumeration mMX8_196 rfl rfl (Nat.le_of_ble_eq_true rfl) ⟨Nat.le_of_ble_eq_true rfl, Nat.le_of_ble_eq_true rfl⟩ ⟨Nat.le_of_ble_eq_true rfl, Nat.le_of_ble_eq_true rfl⟩ dX8_reorder_1 (fun r f1 H locs h2 hz hS => ?_)
    obtain ⟨rfl, k3⟩ := h2
    refine lv_if_ne (tgt := 10) hx hb dX8_reorder_4 (by decide) (fun c4 => ?_) (fun c4 => ?_)
    rotate_left
    · exact absurd c4 (by decide)
    refine lv_aload_n hx hb dX8_reorder_10 rfl (lv_at hl 0 rfl) ?_
    have a5 : f1 o = some (.inr (8, [.int 0, .int (-1), .int 0, .ref wev, .int 0, .ref wnb, .int 0, .ref wki, .ref wmy, .ref wce, .ref wiw, .ref wli, .ref wha, .ref wwt, .int 0, .ref wfy, .ref wfk, .int 0, .ref wem, .ref wna, .ref wpl, .ref whs, .long 1, .int 0, .ref wk1, .ref wk2, .ref wk3])) := k3 _ _ p0 
    refine z_get (v := .ref whs) C hz a5 zl8 mFX8_58 (by decide) rfl dX8_reorder_11 ?_
    refine lv_iload_n hx hb dX8_reorder_14 rfl (lv_at hl 1 rfl) ?_
    have a6 : f1 whs = some (.inl (cy 0, 4, .inl (fun _ => 0))) := k3 _ _ p1 
    refine z_iald j C hz a6 hxj hj (by omega) dX8_reorder_15 ?_
    refine lv_topi (fun y7 e8 => ?_)
    obtain rfl : y7 = 0 := e8.trans rfl
    refine lv_iconst (v := 1) hx hb dX8_reorder_16 (by decide) ?_
    refine lv_isub hx hb dX8_reorder_17 ?_
    refine lv_topi (fun y9 e10 => ?_)
    obtain rfl : y9 = (-1) := e10.trans (by decide)
    refine lv_istore_n (lv' := [(2, .int (-1)), (0, .ref o), (1, .int x)]) hx hb dX8_reorder_18 rfl hl (by decide) rfl (fun ls hl => ?_)
    refine lv_iload_n hx hb dX8_reorder_19 rfl (lv_at hl 0 rfl) ?_
    refine lv_if_le (tgt := 99) hx hb dX8_reorder_20 (by decide) (fun c11 => ?_) (fun c11 => ?_)
    rotate_left
    · exact absurd c11 (by decide)
    refine lv_aload_n hx hb dX8_reorder_99 rfl (lv_at hl 1 rfl) ?_
    refine z_get (v := .ref whs) C hz a5 zl8 mFX8_58 (by decide) rfl dX8_reorder_100 ?_
    refine lv_iload_n hx hb dX8_reorder_103 rfl (lv_at hl 2 rfl) ?_
    refine z_iald j C hz a6 hxj hj (by omega) dX8_reorder_104 ?_
    refine lv_topi (fun y12 e13 => ?_)
    obtain rfl : y12 = 0 := e13.trans rfl
    exact z_iret C hr rfl hz hS (by simp [he, c4, c11]) (Nat.le_of_ble_eq_true rfl) (Nat.le_of_ble_eq_true rfl) dX8_reorder_105
  · refine lv_iload_n hx hb dX8_reorder_0 rfl (lv_at hl 1 rfl) ?_
    refine z_callSi (As := [.int x]) C hz hS hA hl (k_X8_isEnumeration_B l D cy f x  he) zyX8_isEnumeration mMX8_196 rfl rfl (Nat.le_of_ble_eq_true rfl) ⟨Nat.le_of_ble_eq_true rfl, Nat.le_of_ble_eq_true rfl⟩ ⟨Nat.le_of_ble_eq_true rfl, Nat.le_of_ble_eq_true rfl⟩ dX8_reorder_1 (fun r f14 H locs h15 hz hS => ?_)
    obtain ⟨rfl, k16⟩ := h15
    refine lv_if_ne (tgt := 10) hx hb dX8_reorder_4 (by decide) (fun c17 => ?_) (fun c17 => ?_)
    · exact absurd c17 (by decide)
    refine lv_bipush (v := (-2)) hx hb dX8_reorder_7 (by decide) ?_
    exact z_iret C hr rfl hz hS (by simp [he, c17]) (Nat.le_of_ble_eq_true rfl) (Nat.le_of_ble_eq_true rfl) dX8_reorder_9
abbrev rmX8_seed : Room := { frames := 0, cells := 0, slots := 0, locals := 0 }
set_option maxHeartbeats 4000000 in
set_option maxRecDepth 100000 in
theorem k_X8_seed (l : Launch) (D : va_G) (cy : Nat → ClassId) (f : zM) (o : Nat) (wev : Nat) (wnb : Nat) (wki : Nat) (wmy : Nat) (wce : Nat) (wiw : Nat) (wli : Nat) (wha : Nat) (wwt : Nat) (wfy : Nat) (wfk : Nat) (wem : Nat) (wna : Nat) (wpl : Nat) (whs : Nat) (wk1 : Nat) (wk2 : Nat) (wk3 : Nat) (x : Int32) (p0 : f o = some (.inr (8, [.int 0, .int (-1), .int 0, .ref wev, .int 0, .ref wnb, .int 0, .ref wki, .ref wmy, .ref wce, .ref wiw, .ref wli, .ref wha, .ref wwt, .int 0, .ref wfy, .ref wfk, .int 0, .ref wem, .ref wna, .ref wpl, .ref whs, .long 1, .int 0, .ref wk1, .ref wk2, .ref wk3])))  : zCi l D cy yX8_seed cX8_seed 3 (Option.some Jvm.ClassFile.FieldType.int) rmX8_seed [.ref o, .int x] f (fun (r : Int32) (f1 : zM) => r = (if x < 1 then (-2) else if x = 2147483647 then (-2) else 1)) := by
  intro sz
  refine z_body (by decide +kernel) (Nat.le_of_ble_eq_true rfl) ?_
  intro p e s m below meth c ls C hr hin hsz hz hl
  subst hsz
  have hx := C.1
  have hb := C.2.1
  have hA : ∀ q, s.heap.size ≤ q → zA f s.heap.size q := fun q h => Or.inr h
  have hS : va_S (zA f s.heap.size) s.heap s.heap [] := va_S.rf
  have hl : lv_has ls 3 [(0, .ref o), (1, .int x)] := hl
  refine lv_iload_n hx hb dX8_seed_0 rfl (lv_at hl 1 rfl) ?_
  refine lv_iconst (v := 1) hx hb dX8_seed_1 (by decide) ?_
  refine lv_icmp_lt (tgt := 11) hx hb dX8_seed_2 (by decide) (fun c1 => ?_) (fun c1 => ?_)
  · refine lv_bipush (v := (-2)) hx hb dX8_seed_11 (by decide) ?_
    exact z_iret C hr rfl hz hS (by simp [c1]) (Nat.le_of_ble_eq_true rfl) (Nat.le_of_ble_eq_true rfl) dX8_seed_13
  · refine lv_iload_n hx hb dX8_seed_5 rfl (lv_at hl 1 rfl) ?_
    refine lv_ldc (v := 2147483647) hx hb C.2.2.2.1 (C.2.2.2.2.1 _ mKX8_212) dX8_seed_6 ?_
    refine lv_icmp_ne (tgt := 14) hx hb dX8_seed_8 (by decide) (fun c2 => ?_) (fun c2 => ?_)
    · refine lv_aload_n hx hb dX8_seed_14 rfl (lv_at hl 0 rfl) ?_
      refine z_get (v := .long 1) C hz p0 zl8 mFX8_61 (by decide) rfl dX8_seed_15 ?_
      refine lv_l2i (v := (1 : Int64).toInt32) hx hb dX8_seed_18 rfl ?_
      refine lv_topi (fun y3 e4 => ?_)
      obtain rfl : y3 = 1 := e4.trans (by decide)
      refine lv_istore_n (lv' := [(2, .int 1), (0, .ref o), (1, .int x)]) hx hb dX8_seed_19 rfl hl (by decide) rfl (fun ls hl => ?_)
      refine lv_aload_n hx hb dX8_seed_20 rfl (lv_at hl 1 rfl) ?_
      refine lv_iload_n hx hb dX8_seed_21 rfl (lv_at hl 2 rfl) ?_
      refine lv_i2l (v := x.toInt64) hx hb dX8_seed_22 rfl ?_
      refine z_put (fs' := [.int 0, .int (-1), .int 0, .ref wev, .int 0, .ref wnb, .int 0, .ref wki, .ref wmy, .ref wce, .ref wiw, .ref wli, .ref wha, .ref wwt, .int 0, .ref wfy, .ref wfk, .int 0, .ref wem, .ref wna, .ref wpl, .ref whs, .long x.toInt64, .int 0, .ref wk1, .ref wk2, .ref wk3]) C hz hS p0 zl8 mFX8_61 (by decide) rfl rfl rfl (Nat.le_of_ble_eq_true rfl) rfl dX8_seed_23 (fun H locs f5 a6 k7 hz hS => ?_)
      refine lv_iload_n hx hb dX8_seed_26 rfl (lv_at hl 0 rfl) ?_
      exact z_iret C hr rfl hz hS (by simp [c1, c2]) (Nat.le_of_ble_eq_true rfl) (Nat.le_of_ble_eq_true rfl) dX8_seed_27
    · refine lv_bipush (v := (-2)) hx hb dX8_seed_11 (by decide) ?_
      exact z_iret C hr rfl hz hS (by simp [c1, c2]) (Nat.le_of_ble_eq_true rfl) (Nat.le_of_ble_eq_true rfl) dX8_seed_13
abbrev rmX8_told : Room := { frames := 1, cells := 0, slots := 0, locals := 21 }
set_option maxHeartbeats 4000000 in
set_option maxRecDepth 100000 in
theorem k_X8_told (l : Launch) (D : va_G) (cy : Nat → ClassId) (f : zM) (o : Nat) (wev : Nat) (wnb : Nat) (wki : Nat) (wmy : Nat) (wce : Nat) (wiw : Nat) (wli : Nat) (wha : Nat) (wwt : Nat) (wfy : Nat) (wfk : Nat) (wem : Nat) (wna : Nat) (wpl : Nat) (whs : Nat) (wk1 : Nat) (wk2 : Nat) (wk3 : Nat) (x : Int32) (y : Int32) (p0 : f o = some (.inr (8, [.int 0, .int (-1), .int 0, .ref wev, .int 0, .ref wnb, .int 0, .ref wki, .ref wmy, .ref wce, .ref wiw, .ref wli, .ref wha, .ref wwt, .int 0, .ref wfy, .ref wfk, .int 0, .ref wem, .ref wna, .ref wpl, .ref whs, .long 1, .int 0, .ref wk1, .ref wk2, .ref wk3])))  : zCi l D cy yX8_told cX8_told 3 (Option.some Jvm.ClassFile.FieldType.int) rmX8_told [.ref o, .int x, .int y] f (fun (r : Int32) (f1 : zM) => r = (-2)) := by
  intro sz
  refine z_body (by decide +kernel) (Nat.le_of_ble_eq_true rfl) ?_
  intro p e s m below meth c ls C hr hin hsz hz hl
  subst hsz
  have hx := C.1
  have hb := C.2.1
  have hA : ∀ q, s.heap.size ≤ q → zA f s.heap.size q := fun q h => Or.inr h
  have hS : va_S (zA f s.heap.size) s.heap s.heap [] := va_S.rf
  have hl : lv_has ls 3 [(0, .ref o), (1, .int x), (2, .int y)] := hl
  refine lv_aload_n hx hb dX8_told_0 rfl (lv_at hl 0 rfl) ?_
  refine lv_iload_n hx hb dX8_told_1 rfl (lv_at hl 1 rfl) ?_
  refine z_callVi (As := [.int x]) C hz hS hA hl (k_X8_isConstant l D cy f o wev wnb wki wmy wce wiw wli wha wwt wfy wfk wem wna wpl whs wk1 wk2 wk3 x p0 ) zyX8_isConstant mMX8_202 p0 zl8 rfl rfl (Nat.le_of_ble_eq_true rfl) ⟨Nat.le_of_ble_eq_true rfl, Nat.le_of_ble_eq_true rfl⟩ ⟨Nat.le_of_ble_eq_true rfl, Nat.le_of_ble_eq_true rfl⟩ dX8_told_2 (fun r f1 H locs h2 hz hS => ?_)
  obtain ⟨rfl, k3⟩ := h2
  refine lv_if_ne (tgt := 11) hx hb dX8_told_5 (by decide) (fun c4 => ?_) (fun c4 => ?_)
  · exact absurd c4 (by decide)
  refine lv_bipush (v := (-2)) hx hb dX8_told_8 (by decide) ?_
  exact z_iret C hr rfl hz hS rfl (Nat.le_of_ble_eq_true rfl) (Nat.le_of_ble_eq_true rfl) dX8_told_10
abbrev rmX8_placed : Room := { frames := 1, cells := 0, slots := 0, locals := 23 }
set_option maxHeartbeats 4000000 in
set_option maxRecDepth 100000 in
theorem k_X8_placed (l : Launch) (D : va_G) (cy : Nat → ClassId) (f : zM) (o : Nat) (wev : Nat) (wnb : Nat) (wki : Nat) (wmy : Nat) (wce : Nat) (wiw : Nat) (wli : Nat) (wha : Nat) (wwt : Nat) (wfy : Nat) (wfk : Nat) (wem : Nat) (wna : Nat) (wpl : Nat) (whs : Nat) (wk1 : Nat) (wk2 : Nat) (wk3 : Nat) (x : Int32) (y : Int32) (p0 : f o = some (.inr (8, [.int 0, .int (-1), .int 0, .ref wev, .int 0, .ref wnb, .int 0, .ref wki, .ref wmy, .ref wce, .ref wiw, .ref wli, .ref wha, .ref wwt, .int 0, .ref wfy, .ref wfk, .int 0, .ref wem, .ref wna, .ref wpl, .ref whs, .long 1, .int 0, .ref wk1, .ref wk2, .ref wk3])))  : zCi l D cy yX8_placed cX8_placed 3 (Option.some Jvm.ClassFile.FieldType.int) rmX8_placed [.ref o, .int x, .int y] f (fun (r : Int32) (f1 : zM) => r = (if 0 ≤ x ∧ x < 4 then (if 0 ≤ y then (-1) else (-2)) else (-2))) := by
  intro sz
  refine z_body (by decide +kernel) (Nat.le_of_ble_eq_true rfl) ?_
  intro p e s m below meth c ls C hr hin hsz hz hl
  subst hsz
  have hx := C.1
  have hb := C.2.1
  have hA : ∀ q, s.heap.size ≤ q → zA f s.heap.size q := fun q h => Or.inr h
  have hS : va_S (zA f s.heap.size) s.heap s.heap [] := va_S.rf
  have hl : lv_has ls 3 [(0, .ref o), (1, .int x), (2, .int y)] := hl
  by_cases he : 0 ≤ x ∧ x < 4
  · refine lv_iload_n hx hb dX8_placed_0 rfl (lv_at hl 1 rfl) ?_
    refine z_callSi (As := [.int x]) C hz hS hA hl (k_X8_isEnumeration_A l D cy f x  he) zyX8_isEnumeration mMX8_196 rfl rfl (Nat.le_of_ble_eq_true rfl) ⟨Nat.le_of_ble_eq_true rfl, Nat.le_of_ble_eq_true rfl⟩ ⟨Nat.le_of_ble_eq_true rfl, Nat.le_of_ble_eq_true rfl⟩ dX8_placed_1 (fun r f1 H locs h2 hz hS => ?_)
    obtain ⟨rfl, k3⟩ := h2
    refine lv_if_eq (tgt := 11) hx hb dX8_placed_4 (by decide) (fun c4 => ?_) (fun c4 => ?_)
    · exact absurd c4 (by decide)
    refine lv_iload_n hx hb dX8_placed_7 rfl (lv_at hl 2 rfl) ?_
    refine lv_if_ge (tgt := 14) hx hb dX8_placed_8 (by decide) (fun c5 => ?_) (fun c5 => ?_)
    · refine lv_aload_n hx hb dX8_placed_14 rfl (lv_at hl 0 rfl) ?_
      refine lv_iload_n hx hb dX8_placed_15 rfl (lv_at hl 1 rfl) ?_
      refine lv_iload_n hx hb dX8_placed_16 rfl (lv_at hl 2 rfl) ?_
      have a6 : f1 o = some (.inr (8, [.int 0, .int (-1), .int 0, .ref wev, .int 0, .ref wnb, .int 0, .ref wki, .ref wmy, .ref wce, .ref wiw, .ref wli, .ref wha, .ref wwt, .int 0, .ref wfy, .ref wfk, .int 0, .ref wem, .ref wna, .ref wpl, .ref whs, .long 1, .int 0, .ref wk1, .ref wk2, .ref wk3])) := k3 _ _ p0 
      refine z_callVi (As := [.int x, .int y]) C hz hS hA hl (k_X8_constantAt l D cy f1 o wev wnb wki wmy wce wiw wli wha wwt wfy wfk wem wna wpl whs wk1 wk2 wk3 x y 0 (-1) 0 a6 ) zyX8_constantAt mMX8_209 a6 zl8 rfl rfl (Nat.le_of_ble_eq_true rfl) ⟨Nat.le_of_ble_eq_true rfl, Nat.le_of_ble_eq_true rfl⟩ ⟨Nat.le_of_ble_eq_true rfl, Nat.le_of_ble_eq_true rfl⟩ dX8_placed_17 (fun r f7 H locs h8 hz hS => ?_)
      obtain ⟨rfl, k9⟩ := h8
      exact z_iret C hr rfl hz hS (by simp [he, c4, c5]) (Nat.le_of_ble_eq_true rfl) (Nat.le_of_ble_eq_true rfl) dX8_placed_20
    · refine lv_bipush (v := (-2)) hx hb dX8_placed_11 (by decide) ?_
      exact z_iret C hr rfl hz hS (by simp [he, c4, c5]) (Nat.le_of_ble_eq_true rfl) (Nat.le_of_ble_eq_true rfl) dX8_placed_13
  · refine lv_iload_n hx hb dX8_placed_0 rfl (lv_at hl 1 rfl) ?_
    refine z_callSi (As := [.int x]) C hz hS hA hl (k_X8_isEnumeration_B l D cy f x  he) zyX8_isEnumeration mMX8_196 rfl rfl (Nat.le_of_ble_eq_true rfl) ⟨Nat.le_of_ble_eq_true rfl, Nat.le_of_ble_eq_true rfl⟩ ⟨Nat.le_of_ble_eq_true rfl, Nat.le_of_ble_eq_true rfl⟩ dX8_placed_1 (fun r f10 H locs h11 hz hS => ?_)
    obtain ⟨rfl, k12⟩ := h11
    refine lv_if_eq (tgt := 11) hx hb dX8_placed_4 (by decide) (fun c13 => ?_) (fun c13 => ?_)
    rotate_left
    · exact absurd c13 (by decide)
    refine lv_bipush (v := (-2)) hx hb dX8_placed_11 (by decide) ?_
    exact z_iret C hr rfl hz hS (by simp [he, c13]) (Nat.le_of_ble_eq_true rfl) (Nat.le_of_ble_eq_true rfl) dX8_placed_13
abbrev rmX8_put : Room := { frames := 1, cells := 0, slots := 0, locals := 21 }
set_option maxHeartbeats 4000000 in
set_option maxRecDepth 100000 in
theorem k_X8_put (l : Launch) (D : va_G) (cy : Nat → ClassId) (f : zM) (o : Nat) (wev : Nat) (wnb : Nat) (wki : Nat) (wmy : Nat) (wce : Nat) (wiw : Nat) (wli : Nat) (wha : Nat) (wwt : Nat) (wfy : Nat) (wfk : Nat) (wem : Nat) (wna : Nat) (wpl : Nat) (whs : Nat) (wk1 : Nat) (wk2 : Nat) (wk3 : Nat) (x : Int32) (y : Int32) (p0 : f o = some (.inr (8, [.int 0, .int (-1), .int 0, .ref wev, .int 0, .ref wnb, .int 0, .ref wki, .ref wmy, .ref wce, .ref wiw, .ref wli, .ref wha, .ref wwt, .int 0, .ref wfy, .ref wfk, .int 0, .ref wem, .ref wna, .ref wpl, .ref whs, .long 1, .int 0, .ref wk1, .ref wk2, .ref wk3])))  : zCi l D cy yX8_put cX8_put 5 (Option.some Jvm.ClassFile.FieldType.int) rmX8_put [.ref o, .int x, .int y] f (fun (r : Int32) (f1 : zM) => r = (-2)) := by
  intro sz
  refine z_body (by decide +kernel) (Nat.le_of_ble_eq_true rfl) ?_
  intro p e s m below meth c ls C hr hin hsz hz hl
  subst hsz
  have hx := C.1
  have hb := C.2.1
  have hA : ∀ q, s.heap.size ≤ q → zA f s.heap.size q := fun q h => Or.inr h
  have hS : va_S (zA f s.heap.size) s.heap s.heap [] := va_S.rf
  have hl : lv_has ls 5 [(0, .ref o), (1, .int x), (2, .int y)] := hl
  refine lv_aload_n hx hb dX8_put_0 rfl (lv_at hl 0 rfl) ?_
  refine lv_iload_n hx hb dX8_put_1 rfl (lv_at hl 1 rfl) ?_
  refine z_callVi (As := [.int x]) C hz hS hA hl (k_X8_isConstant l D cy f o wev wnb wki wmy wce wiw wli wha wwt wfy wfk wem wna wpl whs wk1 wk2 wk3 x p0 ) zyX8_isConstant mMX8_202 p0 zl8 rfl rfl (Nat.le_of_ble_eq_true rfl) ⟨Nat.le_of_ble_eq_true rfl, Nat.le_of_ble_eq_true rfl⟩ ⟨Nat.le_of_ble_eq_true rfl, Nat.le_of_ble_eq_true rfl⟩ dX8_put_2 (fun r f1 H locs h2 hz hS => ?_)
  obtain ⟨rfl, k3⟩ := h2
  refine lv_if_ne (tgt := 11) hx hb dX8_put_5 (by decide) (fun c4 => ?_) (fun c4 => ?_)
  · exact absurd c4 (by decide)
  refine lv_bipush (v := (-2)) hx hb dX8_put_8 (by decide) ?_
  exact z_iret C hr rfl hz hS rfl (Nat.le_of_ble_eq_true rfl) (Nat.le_of_ble_eq_true rfl) dX8_put_10
abbrev rmX8_get : Room := { frames := 1, cells := 0, slots := 0, locals := 21 }
set_option maxHeartbeats 4000000 in
set_option maxRecDepth 100000 in
theorem k_X8_get (l : Launch) (D : va_G) (cy : Nat → ClassId) (f : zM) (o : Nat) (wev : Nat) (wnb : Nat) (wki : Nat) (wmy : Nat) (wce : Nat) (wiw : Nat) (wli : Nat) (wha : Nat) (wwt : Nat) (wfy : Nat) (wfk : Nat) (wem : Nat) (wna : Nat) (wpl : Nat) (whs : Nat) (wk1 : Nat) (wk2 : Nat) (wk3 : Nat) (x : Int32) (p0 : f o = some (.inr (8, [.int 0, .int (-1), .int 0, .ref wev, .int 0, .ref wnb, .int 0, .ref wki, .ref wmy, .ref wce, .ref wiw, .ref wli, .ref wha, .ref wwt, .int 0, .ref wfy, .ref wfk, .int 0, .ref wem, .ref wna, .ref wpl, .ref whs, .long 1, .int 0, .ref wk1, .ref wk2, .ref wk3])))  : zCi l D cy yX8_get cX8_get 2 (Option.some Jvm.ClassFile.FieldType.int) rmX8_get [.ref o, .int x] f (fun (r : Int32) (f1 : zM) => r = 0) := by
  intro sz
  refine z_body (by decide +kernel) (Nat.le_of_ble_eq_true rfl) ?_
  intro p e s m below meth c ls C hr hin hsz hz hl
  subst hsz
  have hx := C.1
  have hb := C.2.1
  have hA : ∀ q, s.heap.size ≤ q → zA f s.heap.size q := fun q h => Or.inr h
  have hS : va_S (zA f s.heap.size) s.heap s.heap [] := va_S.rf
  have hl : lv_has ls 2 [(0, .ref o), (1, .int x)] := hl
  refine lv_aload_n hx hb dX8_get_0 rfl (lv_at hl 0 rfl) ?_
  refine lv_iload_n hx hb dX8_get_1 rfl (lv_at hl 1 rfl) ?_
  refine z_callVi (As := [.int x]) C hz hS hA hl (k_X8_isConstant l D cy f o wev wnb wki wmy wce wiw wli wha wwt wfy wfk wem wna wpl whs wk1 wk2 wk3 x p0 ) zyX8_isConstant mMX8_202 p0 zl8 rfl rfl (Nat.le_of_ble_eq_true rfl) ⟨Nat.le_of_ble_eq_true rfl, Nat.le_of_ble_eq_true rfl⟩ ⟨Nat.le_of_ble_eq_true rfl, Nat.le_of_ble_eq_true rfl⟩ dX8_get_2 (fun r f1 H locs h2 hz hS => ?_)
  obtain ⟨rfl, k3⟩ := h2
  refine lv_if_eq (tgt := 33) hx hb dX8_get_5 (by decide) (fun c4 => ?_) (fun c4 => ?_)
  rotate_left
  · exact absurd c4 (by decide)
  refine lv_iconst (v := 0) hx hb dX8_get_33 (by decide) ?_
  exact z_iret C hr rfl hz hS rfl (Nat.le_of_ble_eq_true rfl) (Nat.le_of_ble_eq_true rfl) dX8_get_34
theorem z_ix10 {x : Int32} (h1 : ¬ x < 11) (h2 : ¬ 17 < x) : ∃ j : Nat, j < 8 ∧ x - 10 = nI j := by
  have e10 : (x - 10).toInt = (x.toInt - 10).bmod (2 ^ 32) := by
    rw [Int32.toInt_sub]
    rfl
  have e11 : (11 : Int32).toInt = 11 := by decide
  have e17 : (17 : Int32).toInt = 17 := by decide
  rw [Int32.lt_iff_toInt_lt] at h1 h2
  rw [e11] at h1
  rw [e17] at h2
  have kb : (x.toInt - 10).bmod (2 ^ 32) = x.toInt - 10 := by
    rw [Int.bmod_def]
    split <;> omega
  exact vp_in_of (vp_in_iff.mpr ⟨by rw [e10, kb]; omega, by rw [e10, kb]; omega⟩) (by omega)
abbrev rmX8_count : Room := { frames := 0, cells := 0, slots := 0, locals := 0 }
set_option maxHeartbeats 4000000 in
set_option maxRecDepth 100000 in
theorem k_X8_count (l : Launch) (D : va_G) (cy : Nat → ClassId) (f : zM) (o : Nat) (wev : Nat) (wnb : Nat) (wki : Nat) (wmy : Nat) (wce : Nat) (wiw : Nat) (wli : Nat) (wha : Nat) (wwt : Nat) (wfy : Nat) (wfk : Nat) (wem : Nat) (wna : Nat) (wpl : Nat) (whs : Nat) (wk1 : Nat) (wk2 : Nat) (wk3 : Nat) (x : Int32) (p0 : f o = some (.inr (8, [.int 0, .int (-1), .int 0, .ref wev, .int 0, .ref wnb, .int 0, .ref wki, .ref wmy, .ref wce, .ref wiw, .ref wli, .ref wha, .ref wwt, .int 0, .ref wfy, .ref wfk, .int 0, .ref wem, .ref wna, .ref wpl, .ref whs, .long 1, .int 0, .ref wk1, .ref wk2, .ref wk3]))) (p1 : f wev = some (.inl (cy 0, 8, .inl (fun _ => 0)))) (p2 : f whs = some (.inl (cy 0, 4, .inl (fun _ => 0))))  : zCi l D cy yX8_count cX8_count 2 (Option.some Jvm.ClassFile.FieldType.int) rmX8_count [.ref o, .int x] f (fun (r : Int32) (f1 : zM) => r = (if x < 11 then (if x = 0 then 0 else if x = 1 then 0 else if x = 2 then 0 else if x = 3 then 0 else if x = 4 then 0 else (-2)) else if 17 < x then (if x = 0 then 0 else if x = 1 then 0 else if x = 2 then 0 else if x = 3 then 0 else if x = 4 then 0 else (-2)) else (0 : Int32))) := by
  intro sz
  refine z_body (by decide +kernel) (Nat.le_of_ble_eq_true rfl) ?_
  intro p e s m below meth c ls C hr hin hsz hz hl
  subst hsz
  have hx := C.1
  have hb := C.2.1
  have hA : ∀ q, s.heap.size ≤ q → zA f s.heap.size q := fun q h => Or.inr h
  have hS : va_S (zA f s.heap.size) s.heap s.heap [] := va_S.rf
  have hl : lv_has ls 2 [(0, .ref o), (1, .int x)] := hl
  refine lv_iload_n hx hb dX8_count_0 rfl (lv_at hl 1 rfl) ?_
  refine lv_bipush (v := 11) hx hb dX8_count_1 (by decide) ?_
  refine lv_icmp_lt (tgt := 22) hx hb dX8_count_3 (by decide) (fun c1 => ?_) (fun c1 => ?_)
  · refine lv_iload_n hx hb dX8_count_22 rfl (lv_at hl 1 rfl) ?_
    by_cases c2_0 : x = 0
    · refine lv_tableIn (off := 33) (tgt := 56) hx hb dX8_count_23 (by rw [c2_0]; decide) (by rw [c2_0]; decide) (by rw [c2_0]; decide) (by decide) ?_
      refine lv_aload_n hx hb dX8_count_56 rfl (lv_at hl 0 rfl) ?_
      refine z_get (v := .int 0) C hz p0 zl8 mFX8_83 (by decide) rfl dX8_count_57 ?_
      exact z_iret C hr rfl hz hS (by simp [c1, c2_0]) (Nat.le_of_ble_eq_true rfl) (Nat.le_of_ble_eq_true rfl) dX8_count_60
    by_cases c2_1 : x = 1
    · refine lv_tableIn (off := 38) (tgt := 61) hx hb dX8_count_23 (by rw [c2_1]; decide) (by rw [c2_1]; decide) (by rw [c2_1]; decide) (by decide) ?_
      refine lv_aload_n hx hb dX8_count_61 rfl (lv_at hl 0 rfl) ?_
      refine z_get (v := .int 0) C hz p0 zl8 mFX8_80 (by decide) rfl dX8_count_62 ?_
      exact z_iret C hr rfl hz hS (by simp [c1, c2_1, c2_0]) (Nat.le_of_ble_eq_true rfl) (Nat.le_of_ble_eq_true rfl) dX8_count_65
    by_cases c2_2 : x = 2
    · refine lv_tableIn (off := 43) (tgt := 66) hx hb dX8_count_23 (by rw [c2_2]; decide) (by rw [c2_2]; decide) (by rw [c2_2]; decide) (by decide) ?_
      refine lv_aload_n hx hb dX8_count_66 rfl (lv_at hl 0 rfl) ?_
      refine z_get (v := .int 0) C hz p0 zl8 mFX8_187 (by decide) rfl dX8_count_67 ?_
      exact z_iret C hr rfl hz hS (by simp [c1, c2_2, c2_0, c2_1]) (Nat.le_of_ble_eq_true rfl) (Nat.le_of_ble_eq_true rfl) dX8_count_70
    by_cases c2_3 : x = 3
    · refine lv_tableIn (off := 48) (tgt := 71) hx hb dX8_count_23 (by rw [c2_3]; decide) (by rw [c2_3]; decide) (by rw [c2_3]; decide) (by decide) ?_
      refine lv_aload_n hx hb dX8_count_71 rfl (lv_at hl 0 rfl) ?_
      refine z_get (v := .ref whs) C hz p0 zl8 mFX8_58 (by decide) rfl dX8_count_72 ?_
      refine lv_iconst (v := 0) hx hb dX8_count_75 (by decide) ?_
      refine z_iald 0 C hz p2 (by decide) (Nat.le_of_ble_eq_true rfl) (by omega) dX8_count_76 ?_
      refine lv_topi (fun y3 e4 => ?_)
      obtain rfl : y3 = 0 := e4.trans rfl
      refine lv_aload_n hx hb dX8_count_77 rfl (lv_at hl 0 rfl) ?_
      refine z_get (v := .ref whs) C hz p0 zl8 mFX8_58 (by decide) rfl dX8_count_78 ?_
      refine lv_iconst (v := 1) hx hb dX8_count_81 (by decide) ?_
      refine z_iald 1 C hz p2 (by decide) (Nat.le_of_ble_eq_true rfl) (by omega) dX8_count_82 ?_
      refine lv_topi (fun y5 e6 => ?_)
      obtain rfl : y5 = 0 := e6.trans rfl
      refine lv_iadd hx hb dX8_count_83 ?_
      refine lv_aload_n hx hb dX8_count_84 rfl (lv_at hl 0 rfl) ?_
      refine z_get (v := .ref whs) C hz p0 zl8 mFX8_58 (by decide) rfl dX8_count_85 ?_
      refine lv_iconst (v := 2) hx hb dX8_count_88 (by decide) ?_
      refine z_iald 2 C hz p2 (by decide) (Nat.le_of_ble_eq_true rfl) (by omega) dX8_count_89 ?_
      refine lv_iadd hx hb dX8_count_90 ?_
      refine lv_topi (fun y7 e8 => ?_)
      obtain rfl : y7 = 0 := e8.trans rfl
      refine lv_aload_n hx hb dX8_count_91 rfl (lv_at hl 0 rfl) ?_
      refine z_get (v := .ref whs) C hz p0 zl8 mFX8_58 (by decide) rfl dX8_count_92 ?_
      refine lv_iconst (v := 3) hx hb dX8_count_95 (by decide) ?_
      refine z_iald 3 C hz p2 (by decide) (Nat.le_of_ble_eq_true rfl) (by omega) dX8_count_96 ?_
      refine lv_iadd hx hb dX8_count_97 ?_
      refine lv_topi (fun y9 e10 => ?_)
      obtain rfl : y9 = 0 := e10.trans rfl
      exact z_iret C hr rfl hz hS (by simp [c1, c2_3, c2_0, c2_1, c2_2]) (Nat.le_of_ble_eq_true rfl) (Nat.le_of_ble_eq_true rfl) dX8_count_98
    by_cases c2_4 : x = 4
    · refine lv_tableIn (off := 76) (tgt := 99) hx hb dX8_count_23 (by rw [c2_4]; decide) (by rw [c2_4]; decide) (by rw [c2_4]; decide) (by decide) ?_
      refine lv_aload_n hx hb dX8_count_99 rfl (lv_at hl 0 rfl) ?_
      refine z_get (v := .int 0) C hz p0 zl8 mFX8_213 (by decide) rfl dX8_count_100 ?_
      exact z_iret C hr rfl hz hS (by simp [c1, c2_4, c2_0, c2_1, c2_2, c2_3]) (Nat.le_of_ble_eq_true rfl) (Nat.le_of_ble_eq_true rfl) dX8_count_103
    refine lv_tableOut (tgt := 104) hx hb dX8_count_23 (by have t0 := lv_neT c2_0 (a := 0) (by decide); have t1 := lv_neT c2_1 (a := 1) (by decide); have t2 := lv_neT c2_2 (a := 2) (by decide); have t3 := lv_neT c2_3 (a := 3) (by decide); have t4 := lv_neT c2_4 (a := 4) (by decide);  omega) (by decide) ?_
    refine lv_bipush (v := (-2)) hx hb dX8_count_104 (by decide) ?_
    exact z_iret C hr rfl hz hS (by simp [c1, c2_0, c2_1, c2_2, c2_3, c2_4]) (Nat.le_of_ble_eq_true rfl) (Nat.le_of_ble_eq_true rfl) dX8_count_106
  · refine lv_iload_n hx hb dX8_count_6 rfl (lv_at hl 1 rfl) ?_
    refine lv_bipush (v := 17) hx hb dX8_count_7 (by decide) ?_
    refine lv_icmp_gt (tgt := 22) hx hb dX8_count_9 (by decide) (fun c11 => ?_) (fun c11 => ?_)
    · refine lv_iload_n hx hb dX8_count_22 rfl (lv_at hl 1 rfl) ?_
      by_cases c12_0 : x = 0
      · refine lv_tableIn (off := 33) (tgt := 56) hx hb dX8_count_23 (by rw [c12_0]; decide) (by rw [c12_0]; decide) (by rw [c12_0]; decide) (by decide) ?_
        refine lv_aload_n hx hb dX8_count_56 rfl (lv_at hl 0 rfl) ?_
        refine z_get (v := .int 0) C hz p0 zl8 mFX8_83 (by decide) rfl dX8_count_57 ?_
        exact z_iret C hr rfl hz hS (by simp [c1, c11, c12_0]) (Nat.le_of_ble_eq_true rfl) (Nat.le_of_ble_eq_true rfl) dX8_count_60
      by_cases c12_1 : x = 1
      · refine lv_tableIn (off := 38) (tgt := 61) hx hb dX8_count_23 (by rw [c12_1]; decide) (by rw [c12_1]; decide) (by rw [c12_1]; decide) (by decide) ?_
        refine lv_aload_n hx hb dX8_count_61 rfl (lv_at hl 0 rfl) ?_
        refine z_get (v := .int 0) C hz p0 zl8 mFX8_80 (by decide) rfl dX8_count_62 ?_
        exact z_iret C hr rfl hz hS (by simp [c1, c11, c12_1, c12_0]) (Nat.le_of_ble_eq_true rfl) (Nat.le_of_ble_eq_true rfl) dX8_count_65
      by_cases c12_2 : x = 2
      · refine lv_tableIn (off := 43) (tgt := 66) hx hb dX8_count_23 (by rw [c12_2]; decide) (by rw [c12_2]; decide) (by rw [c12_2]; decide) (by decide) ?_
        refine lv_aload_n hx hb dX8_count_66 rfl (lv_at hl 0 rfl) ?_
        refine z_get (v := .int 0) C hz p0 zl8 mFX8_187 (by decide) rfl dX8_count_67 ?_
        exact z_iret C hr rfl hz hS (by simp [c1, c11, c12_2, c12_0, c12_1]) (Nat.le_of_ble_eq_true rfl) (Nat.le_of_ble_eq_true rfl) dX8_count_70
      by_cases c12_3 : x = 3
      · refine lv_tableIn (off := 48) (tgt := 71) hx hb dX8_count_23 (by rw [c12_3]; decide) (by rw [c12_3]; decide) (by rw [c12_3]; decide) (by decide) ?_
        refine lv_aload_n hx hb dX8_count_71 rfl (lv_at hl 0 rfl) ?_
        refine z_get (v := .ref whs) C hz p0 zl8 mFX8_58 (by decide) rfl dX8_count_72 ?_
        refine lv_iconst (v := 0) hx hb dX8_count_75 (by decide) ?_
        refine z_iald 0 C hz p2 (by decide) (Nat.le_of_ble_eq_true rfl) (by omega) dX8_count_76 ?_
        refine lv_topi (fun y13 e14 => ?_)
        obtain rfl : y13 = 0 := e14.trans rfl
        refine lv_aload_n hx hb dX8_count_77 rfl (lv_at hl 0 rfl) ?_
        refine z_get (v := .ref whs) C hz p0 zl8 mFX8_58 (by decide) rfl dX8_count_78 ?_
        refine lv_iconst (v := 1) hx hb dX8_count_81 (by decide) ?_
        refine z_iald 1 C hz p2 (by decide) (Nat.le_of_ble_eq_true rfl) (by omega) dX8_count_82 ?_
        refine lv_topi (fun y15 e16 => ?_)
        obtain rfl : y15 = 0 := e16.trans rfl
        refine lv_iadd hx hb dX8_count_83 ?_
        refine lv_aload_n hx hb dX8_count_84 rfl (lv_at hl 0 rfl) ?_
        refine z_get (v := .ref whs) C hz p0 zl8 mFX8_58 (by decide) rfl dX8_count_85 ?_
        refine lv_iconst (v := 2) hx hb dX8_count_88 (by decide) ?_
        refine z_iald 2 C hz p2 (by decide) (Nat.le_of_ble_eq_true rfl) (by omega) dX8_count_89 ?_
        refine lv_iadd hx hb dX8_count_90 ?_
        refine lv_topi (fun y17 e18 => ?_)
        obtain rfl : y17 = 0 := e18.trans rfl
        refine lv_aload_n hx hb dX8_count_91 rfl (lv_at hl 0 rfl) ?_
        refine z_get (v := .ref whs) C hz p0 zl8 mFX8_58 (by decide) rfl dX8_count_92 ?_
        refine lv_iconst (v := 3) hx hb dX8_count_95 (by decide) ?_
        refine z_iald 3 C hz p2 (by decide) (Nat.le_of_ble_eq_true rfl) (by omega) dX8_count_96 ?_
        refine lv_iadd hx hb dX8_count_97 ?_
        refine lv_topi (fun y19 e20 => ?_)
        obtain rfl : y19 = 0 := e20.trans rfl
        exact z_iret C hr rfl hz hS (by simp [c1, c11, c12_3, c12_0, c12_1, c12_2]) (Nat.le_of_ble_eq_true rfl) (Nat.le_of_ble_eq_true rfl) dX8_count_98
      by_cases c12_4 : x = 4
      · refine lv_tableIn (off := 76) (tgt := 99) hx hb dX8_count_23 (by rw [c12_4]; decide) (by rw [c12_4]; decide) (by rw [c12_4]; decide) (by decide) ?_
        refine lv_aload_n hx hb dX8_count_99 rfl (lv_at hl 0 rfl) ?_
        refine z_get (v := .int 0) C hz p0 zl8 mFX8_213 (by decide) rfl dX8_count_100 ?_
        exact z_iret C hr rfl hz hS (by simp [c1, c11, c12_4, c12_0, c12_1, c12_2, c12_3]) (Nat.le_of_ble_eq_true rfl) (Nat.le_of_ble_eq_true rfl) dX8_count_103
      refine lv_tableOut (tgt := 104) hx hb dX8_count_23 (by have t0 := lv_neT c12_0 (a := 0) (by decide); have t1 := lv_neT c12_1 (a := 1) (by decide); have t2 := lv_neT c12_2 (a := 2) (by decide); have t3 := lv_neT c12_3 (a := 3) (by decide); have t4 := lv_neT c12_4 (a := 4) (by decide);  omega) (by decide) ?_
      refine lv_bipush (v := (-2)) hx hb dX8_count_104 (by decide) ?_
      exact z_iret C hr rfl hz hS (by simp [c1, c11, c12_0, c12_1, c12_2, c12_3, c12_4]) (Nat.le_of_ble_eq_true rfl) (Nat.le_of_ble_eq_true rfl) dX8_count_106
    · refine lv_aload_n hx hb dX8_count_12 rfl (lv_at hl 0 rfl) ?_
      refine z_get (v := .ref wev) C hz p0 zl8 mFX8_13 (by decide) rfl dX8_count_13 ?_
      refine lv_iload_n hx hb dX8_count_16 rfl (lv_at hl 1 rfl) ?_
      refine lv_bipush (v := 10) hx hb dX8_count_17 (by decide) ?_
      refine lv_isub hx hb dX8_count_19 ?_
      obtain ⟨j, hj, hxj⟩ := z_ix10 c1 c11
      refine z_iald j C hz p1 hxj hj (by omega) dX8_count_20 ?_
      refine lv_topi (fun y21 e22 => ?_)
      obtain rfl : y21 = 0 := e22.trans rfl
      exact z_iret C hr rfl hz hS (by simp [c1, c11]) (Nat.le_of_ble_eq_true rfl) (Nat.le_of_ble_eq_true rfl) dX8_count_21
