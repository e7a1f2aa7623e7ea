theorem z_ixn {x M : Int32} {n : Nat} (hM : M.toInt = n) (h1 : 0 ≤ x) (h2 : x ≤ M) : ∃ j : Nat, j ≤ n ∧ x = nI j := nI_of2 hM (Int32.not_lt.mpr h1) h2
theorem z_ix4 {x : Int32} (h : 0 ≤ x ∧ x < 4) : ∃ j : Nat, j < 4 ∧ x = nI j := by
  obtain ⟨h1, h2⟩ := h
  rw [Int32.le_iff_toInt_le] at h1
  rw [Int32.lt_iff_toInt_lt] at h2
  have e0 : (0 : Int32).toInt = 0 := by decide
  have e4 : (4 : Int32).toInt = 4 := by decide
  rw [e0] at h1
  rw [e4] at h2
  exact vp_in_of (vp_in_iff.mpr ⟨h1, by omega⟩) (by omega)
theorem z_seed (x : Int32) : lg_cmp x.toInt64 2147483647 < 0 ↔ ¬ x = 2147483647 := by
  rw [lg_cmp_lt, Int64.lt_iff_toInt_lt, Int32.toInt_toInt64]
  have e : (2147483647 : Int64).toInt = 2147483647 := by decide
  have e2 : (2147483647 : Int32).toInt = 2147483647 := by decide
  have hb := Int32.toInt_lt x
  rw [e]
  constructor
  · rintro h rfl
    rw [e2] at h
    omega
  · intro h
    have : x.toInt ≠ 2147483647 := fun q => h (Int32.toInt_inj.mp (by rw [q, e2]))
    omega
/-- the kinds that were told, one after the other: the bits of those seen, or nothing more where one is none or was told twice -/
def zks (g : Nat → Int32) : Nat → Option Int32
  | 0 => some 0
  | i + 1 => match zks g i with
    | none => none
    | some s => if g i = (-1) then some s else if g i < 0 then none else if 6 < g i then none else if (s >>> (g i &&& 31)) &&& 1 = 0 then some (s ||| (1 <<< (g i &&& 31))) else none
theorem zks_none {g : Nat → Int32} {i : Nat} (h : zks g i = none) : ∀ d, zks g (i + d) = none := by
  intro d
  induction d with
  | zero => exact h
  | succ d ih => show zks g ((i + d) + 1) = none; simp [zks, ih]
theorem zks_none4 {g : Nat → Int32} {i : Nat} (hi : i < 4) (h : zks g (i + 1) = none) : ¬ (zks g 4).isSome = true := by
  have := zks_none h (3 - i)
  rw [show i + 1 + (3 - i) = 4 by omega] at this
  simp [this]
abbrev rmX7_numberAt : Room := { frames := 0, cells := 0, slots := 0, locals := 0 }
set_option maxHeartbeats 4000000 in
set_option maxRecDepth 100000 in
theorem k_X7_numberAt (l : Launch) (D : va_G) (cy : Nat → ClassId) (f : zM) (o : Nat) (fa : Nat) (fi : Nat) (nu : Nat) (fm : Nat) (co : Nat) (en : Nat) (ke : Nat) (x : Int32) (p0 : f o = some (.inr (7, [.ref fa, .ref fi, .ref nu, .int 0, .ref fm, .int 0, .ref co, .int 0, .ref en, .ref ke, .long 1])))  : zCi l D cy yX7_numberAt cX7_numberAt 2 (Option.some Jvm.ClassFile.FieldType.int) rmX7_numberAt [.ref o, .int x] f (fun (r : Int32) (f1 : zM) => r = 0 ∧ (∀ (b : Nat) (e : va_E), f b = some e → f1 b = some e)) := by
  intro sz
  refine z_body (by decide +kernel) (Nat.le_of_ble_eq_true rfl) ?_
  intro p e s m below meth c ls C hr hin hsz hz hl
  subst hsz
  have hx := C.1
  have hb := C.2.1
  have hA : ∀ q, s.heap.size ≤ q → zA f s.heap.size q := fun q h => Or.inr h
  have hS : va_S (zA f s.heap.size) s.heap s.heap [] := va_S.rf
  have hl : lv_has ls 2 [(0, .ref o), (1, .int x)] := hl
  refine lv_iload_n hx hb dX7_numberAt_0 rfl (lv_at hl 1 rfl) ?_
  refine lv_if_lt (tgt := 21) hx hb dX7_numberAt_1 (by decide) (fun c1 => ?_) (fun c1 => ?_)
  · refine lv_iconst (v := 0) hx hb dX7_numberAt_21 (by decide) ?_
    exact z_iret C hr rfl hz hS ⟨rfl, (fun b e hb => hb)⟩ (Nat.le_of_ble_eq_true rfl) (Nat.le_of_ble_eq_true rfl) dX7_numberAt_22
  · refine lv_iload_n hx hb dX7_numberAt_4 rfl (lv_at hl 1 rfl) ?_
    refine lv_aload_n hx hb dX7_numberAt_5 rfl (lv_at hl 0 rfl) ?_
    refine z_get (v := .int 0) C hz p0 zl7 mFX7_27 (by decide) rfl dX7_numberAt_6 ?_
    refine lv_icmp_ge (tgt := 21) hx hb dX7_numberAt_9 (by decide) (fun c2 => ?_) (fun c2 => ?_)
    rotate_left
    · exact absurd (Int32.not_lt.mp c1) c2
    refine lv_iconst (v := 0) hx hb dX7_numberAt_21 (by decide) ?_
    exact z_iret C hr rfl hz hS ⟨rfl, (fun b e hb => hb)⟩ (Nat.le_of_ble_eq_true rfl) (Nat.le_of_ble_eq_true rfl) dX7_numberAt_22
abbrev rmX7_rowParts : Room := { frames := 1, cells := 1, slots := 15, locals := 21 }
set_option maxHeartbeats 4000000 in
set_option maxRecDepth 100000 in
theorem k_X7_rowParts (l : Launch) (D : va_G) (cy : Nat → ClassId) (f : zM) (o : Nat) (fa : Nat) (fi : Nat) (nu : Nat) (fm : Nat) (co : Nat) (en : Nat) (ke : Nat) (x : Int32) (y : Int32) (z : Int32) (t : Nat) (p0 : f o = some (.inr (7, [.ref fa, .ref fi, .ref nu, .int 0, .ref fm, .int 0, .ref co, .int 0, .ref en, .ref ke, .long 1]))) (hxt : x = nI t) (ht : t ≤ 12) : zCq l D cy yX7_rowParts cX7_rowParts 6 (Option.some (Jvm.ClassFile.FieldType.array Jvm.ClassFile.FieldType.long)) rmX7_rowParts [.ref o, .int x, .int y, .int z] f (fun (r : Option Nat) (f1 : zM) => ∃ (pa : Nat) (gp : Nat → Int64), r = (some pa) ∧ f1 pa = some (.inl (cy 1, (3 + t), .inr (.inl gp))) ∧ (∀ (b : Nat) (e : va_E), f b = some e → f1 b = some e)) := by
  intro sz
  refine z_body (by decide +kernel) (Nat.le_of_ble_eq_true rfl) ?_
  intro p e s m below meth c ls C hr hin hsz hz hl
  subst hsz
  have hx := C.1
  have hb := C.2.1
  have hA : ∀ q, s.heap.size ≤ q → zA f s.heap.size q := fun q h => Or.inr h
  have hS : va_S (zA f s.heap.size) s.heap s.heap [] := va_S.rf
  have hl : lv_has ls 6 [(0, .ref o), (1, .int x), (2, .int y), (3, .int z)] := hl
  refine lv_iconst (v := 3) hx hb dX7_rowParts_0 (by decide) ?_
  refine lv_iload_n hx hb dX7_rowParts_1 rfl (lv_at hl 1 rfl) ?_
  refine lv_iadd hx hb dX7_rowParts_2 ?_
  refine z_newa (atype := .long) (t0 := 1) (N' := 3 + t) (x := (.inr (.inl (fun _ => 0)))) C hz hS hA rfl mA_long rfl (fun _ => rfl) (by rw [hxt]; exact nI_add 3 t) (by omega) (by decide) (Nat.le_of_ble_eq_true rfl) (Nat.le_trans (Nat.add_le_add_left (show 3 + t ≤ 15 by omega) _) (Nat.le_of_ble_eq_true rfl)) dX7_rowParts_3 (fun q1 H f3 u2 a4 k5 hz hS => ?_)
  refine W.widen (k := 1) (n := 15) (Nat.le_of_ble_eq_true rfl) (Nat.le_trans (Nat.add_le_add_left (show 3 + t ≤ 15 by omega) _) (Nat.le_of_ble_eq_true rfl)) ?_
  refine lv_astore (lv' := [(4, .ref q1), (0, .ref o), (1, .int x), (2, .int y), (3, .int z)]) hx hb dX7_rowParts_5 hl (by decide) rfl (fun ls hl => ?_)
  refine lv_aload hx hb dX7_rowParts_7 (lv_at hl 0 rfl) ?_
  refine lv_iconst (v := 0) hx hb dX7_rowParts_9 (by decide) ?_
  refine lv_iload_n hx hb dX7_rowParts_10 rfl (lv_at hl 2 rfl) ?_
  refine lv_i2l (v := x.toInt64) hx hb dX7_rowParts_11 rfl ?_
  refine z_last 0 C hz hS a4 (by decide) (by omega) (by omega) dX7_rowParts_12 (fun H locs f6 a7 k8 hz hS => ?_)
  refine lv_aload hx hb dX7_rowParts_13 (lv_at hl 0 rfl) ?_
  refine lv_iconst (v := 1) hx hb dX7_rowParts_15 (by decide) ?_
  refine lv_iload_n hx hb dX7_rowParts_16 rfl (lv_at hl 3 rfl) ?_
  refine lv_i2l (v := y.toInt64) hx hb dX7_rowParts_17 rfl ?_
  refine z_last 1 C hz hS a7 (by decide) (by omega) (by omega) dX7_rowParts_18 (fun H locs f9 a10 k11 hz hS => ?_)
  refine lv_aload hx hb dX7_rowParts_19 (lv_at hl 0 rfl) ?_
  refine lv_iconst (v := 2) hx hb dX7_rowParts_21 (by decide) ?_
  refine lv_iload_n hx hb dX7_rowParts_22 rfl (lv_at hl 4 rfl) ?_
  refine lv_i2l (v := z.toInt64) hx hb dX7_rowParts_23 rfl ?_
  refine z_last 2 C hz hS a10 (by decide) (by omega) (by omega) dX7_rowParts_24 (fun H locs f12 a13 k14 hz hS => ?_)
  refine lv_iconst (v := 0) hx hb dX7_rowParts_25 (by decide) ?_
  refine lv_istore (lv' := [(5, .int 0), (4, .ref q1), (0, .ref o), (1, .int x), (2, .int y), (3, .int z)]) hx hb dX7_rowParts_26 hl (by decide) rfl (fun ls hl => ?_)
  have lp15 : ∀ (n : Nat) (i : Nat) (gp : Nat → Int64) (fL16 : zM) (H : Heap) (locs : List Loc) (ls : Array Slot), (t - i) < n → (i ≤ t) → fL16 q1 = some (.inl (cy 1, (3 + t), .inr (.inl gp))) → (∀ (b : Nat) (e : va_E), f12 b = some e → b ≠ q1 → fL16 b = some e) → zH D (zA f s.heap.size) fL16 H → va_S (zA f s.heap.size) s.heap H locs → lv_has ls 6 [(0, .ref o), (1, .int x), (4, .ref q1), (5, .int (nI i))] → W p l e rmX7_rowParts s m ([.ref o, .int x, .int y, .int z] : List Value).toArray below meth c H locs 1 15 (MQ below (va_Qq (fun (r : Option Nat) (f1 : zM) => ∃ (pa : Nat) (gp : Nat → Int64), r = (some pa) ∧ f1 pa = some (.inl (cy 1, (3 + t), .inr (.inl gp))) ∧ (∀ (b : Nat) (e : va_E), f b = some e → f1 b = some e)) (zB D f s.heap.size) (zA f s.heap.size)) ([.ref o, .int x, .int y, .int z] : List Value).toArray s rmX7_rowParts.cells rmX7_rowParts.slots (zA f s.heap.size)) (F0 m 28 ls []) := by
    intro n
    induction n with
    | zero => intro i gp fL16 H locs ls hmz; exact absurd hmz (Nat.not_lt_zero _)
    | succ n ih =>
      intro i gp fL16 H locs ls hmz hi a18 k17 hz hS hl
      refine lv_iload hx hb dX7_rowParts_28 (lv_at hl 3 rfl) ?_
      refine lv_iload_n hx hb dX7_rowParts_30 rfl (lv_at hl 1 rfl) ?_
      refine lv_icmp_ge (tgt := 54) hx hb dX7_rowParts_31 (by decide) (fun c19 => ?_) (fun c19 => ?_)
      · refine lv_aload hx hb dX7_rowParts_54 (lv_at hl 2 rfl) ?_
        exact z_aret (r := some q1) C hr (Or.inr ⟨_, rfl⟩) rfl hz hS ⟨q1, gp, rfl, a18, (by
              intro b e hb 
              have nn0 : b ≠ q1 := z_nn u2 hb
              have hb0 : f3 b = some e := (k5 b nn0).trans hb
              have hb1 : f6 b = some e := (k8 b nn0).trans hb0
              have hb2 : f9 b = some e := (k11 b nn0).trans hb1
              have hb3 : f12 b = some e := (k14 b nn0).trans hb2
              have hb4 : fL16 b = some e := k17 b e hb3 nn0
              exact hb4)⟩ (Nat.le_of_ble_eq_true rfl) (Nat.le_of_ble_eq_true rfl) dX7_rowParts_56
      · replace c19 : i < t := by rw [hxt] at c19; exact Nat.not_le.mp (fun h => c19 ((nI_leI (by omega) (by omega)).mpr h))
        refine lv_aload hx hb dX7_rowParts_34 (lv_at hl 2 rfl) ?_
        refine lv_iconst (v := 3) hx hb dX7_rowParts_36 (by decide) ?_
        refine lv_iload hx hb dX7_rowParts_37 (lv_at hl 3 rfl) ?_
        refine lv_iadd hx hb dX7_rowParts_39 ?_
        refine lv_aload_n hx hb dX7_rowParts_40 rfl (lv_at hl 0 rfl) ?_
        refine lv_iload hx hb dX7_rowParts_41 (lv_at hl 3 rfl) ?_
        have a20 : f3 o = some (.inr (7, [.ref fa, .ref fi, .ref nu, .int 0, .ref fm, .int 0, .ref co, .int 0, .ref en, .ref ke, .long 1])) := (k5 _ (z_nn u2 p0)).trans p0
        have a21 : f6 o = some (.inr (7, [.ref fa, .ref fi, .ref nu, .int 0, .ref fm, .int 0, .ref co, .int 0, .ref en, .ref ke, .long 1])) := (k8 _ (z_nn u2 p0)).trans a20
        have a22 : f9 o = some (.inr (7, [.ref fa, .ref fi, .ref nu, .int 0, .ref fm, .int 0, .ref co, .int 0, .ref en, .ref ke, .long 1])) := (k11 _ (z_nn u2 p0)).trans a21
        have a23 : f12 o = some (.inr (7, [.ref fa, .ref fi, .ref nu, .int 0, .ref fm, .int 0, .ref co, .int 0, .ref en, .ref ke, .long 1])) := (k14 _ (z_nn u2 p0)).trans a22
        have a24 : fL16 o = some (.inr (7, [.ref fa, .ref fi, .ref nu, .int 0, .ref fm, .int 0, .ref co, .int 0, .ref en, .ref ke, .long 1])) := k17 _ _ a23 (z_nn u2 p0)
        refine z_callVi (As := [.int (nI i)]) C hz hS hA hl (k_X7_numberAt l D cy fL16 o fa fi nu fm co en ke (nI i) a24 ) zyX7_numberAt mMX7_116 a24 zl7 rfl rfl (Nat.le_of_ble_eq_true rfl) ⟨Nat.le_of_ble_eq_true rfl, Nat.le_of_ble_eq_true rfl⟩ ⟨Nat.le_of_ble_eq_true rfl, Nat.le_of_ble_eq_true rfl⟩ dX7_rowParts_43 (fun r f25 H locs h26 hz hS => ?_)
        obtain ⟨rfl, k27⟩ := h26
        refine lv_i2l (v := (0 : Int32).toInt64) hx hb dX7_rowParts_46 rfl ?_
        have a28 : f25 q1 = some (.inl (cy 1, (3 + t), .inr (.inl gp))) := k27 _ _ a18 
        refine z_last (3 + i) C hz hS a28 (nI_add 3 i) (by omega) (by omega) dX7_rowParts_47 (fun H locs f29 a30 k31 hz hS => ?_)
        refine lv_iinc (v := nI (i + 1)) (lv' := [(5, .int (nI (i + 1))), (0, .ref o), (1, .int x), (4, .ref q1)]) hx hb dX7_rowParts_48 hl (k := 3) rfl (nI_1 i) (by decide) rfl (fun ls hl => ?_)
        refine lv_goto (tgt := 28) hx hb dX7_rowParts_51 (by decide) ?_
        exact ih (i + 1) (vp_updL gp (3 + i) ((0 : Int32).toInt64)) _ _ _ _ (by omega) (by omega) a30 (by
              intro b e hb n0
              have hb4 : fL16 b = some e := k17 b e hb n0
              have hb5 : f25 b = some e := k27 b e hb4 
              have hb6 : f29 b = some e := (k31 b n0).trans hb5
              exact hb6) hz hS (lv_sub hl [1, 2, 3, 0] rfl)
  exact lp15 (t - 0 + 1) 0 (vp_updL (vp_updL (vp_updL (fun _ => 0) 0 x.toInt64) 1 y.toInt64) 2 z.toInt64) _ _ _ _ (Nat.lt_succ_self _) (by omega) a13 (fun b e hb n0 => hb) hz hS (lv_sub hl [2, 3, 1, 0] rfl)
abbrev rmX7_row : Room := { frames := 2, cells := 2, slots := 22, locals := 48 }
set_option maxHeartbeats 4000000 in
set_option maxRecDepth 100000 in
theorem k_X7_row (l : Launch) (D : va_G) (cy : Nat → ClassId) (f : zM) (o : Nat) (fa : Nat) (fi : Nat) (nu : Nat) (fm : Nat) (co : Nat) (en : Nat) (ke : Nat) (x : Int32) (y : Int32) (u1 : Int32) (u2 : Int32) (u3 : Int32) (ev : Nat) (al : Nat) (ra : Nat) (ga : Nat → Option Nat) (gr : Nat → Option Nat) (g : Nat → Int32) (p0 : f o = some (.inr (7, [.ref fa, .ref fi, .ref nu, .int 0, .ref fm, .int 0, .ref co, .int 0, .ref en, .ref ke, .long 1]))) (p1 : f fa = some (.inr (2, [.int u1, .int u2, .int u3, .ref ev]))) (p2 : f fi = some (.inr (5, [.ref al, .ref ra, .int 0]))) (p3 : f al = some (.inl (cy 3, 60, .inr (.inr (.inr (.inr ga)))))) (p4 : f ra = some (.inl (cy 3, 60, .inr (.inr (.inr (.inr gr)))))) (p5 : f ev = some (.inl (cy 0, 8, .inl g))) (har : al ≠ ra) : zCi l D cy yX7_row cX7_row 4 (Option.some Jvm.ClassFile.FieldType.int) rmX7_row [.ref o, .int x, .int y] f (fun (r : Int32) (f1 : zM) => r = (if x ≤ 12 then (if 0 ≤ x then (if y < 0 then (-4) else if y < x then 0 else (-4)) else (-4)) else (-2)) ∧ (∀ (b : Nat) (e : va_E), f b = some e → b ≠ fa → b ≠ fi → b ≠ al → b ≠ ra → b ≠ ev → f1 b = some e)) := by
  intro sz
  refine z_body (by decide +kernel) (Nat.le_of_ble_eq_true rfl) ?_
  intro p e s m below meth c ls C hr hin hsz hz hl
  subst hsz
  have hx := C.1
  have hb := C.2.1
  have hA : ∀ q, s.heap.size ≤ q → zA f s.heap.size q := fun q h => Or.inr h
  have hS : va_S (zA f s.heap.size) s.heap s.heap [] := va_S.rf
  have hl : lv_has ls 4 [(0, .ref o), (1, .int x), (2, .int y)] := hl
  refine lv_aload_n hx hb dX7_row_0 rfl (lv_at hl 0 rfl) ?_
  refine z_get (v := .ref fa) C hz p0 zl7 mFX7_10 (by decide) rfl dX7_row_1 ?_
  refine z_callVv (As := []) C hz hS hA hl (k_X2_none l D cy f fa u1 u2 u3 ev p1 ) zyX2_none mMX7_76 p1 zl2 rfl rfl (Nat.le_of_ble_eq_true rfl) ⟨Nat.le_of_ble_eq_true rfl, Nat.le_of_ble_eq_true rfl⟩ ⟨Nat.le_of_ble_eq_true rfl, Nat.le_of_ble_eq_true rfl⟩ dX7_row_4 (fun  f1 H locs h2 hz hS => ?_)
  obtain ⟨a3, k4⟩ := h2
  refine lv_iload_n hx hb dX7_row_7 rfl (lv_at hl 1 rfl) ?_
  refine lv_bipush (v := 12) hx hb dX7_row_8 (by decide) ?_
  refine lv_icmp_le (tgt := 16) hx hb dX7_row_10 (by decide) (fun c5 => ?_) (fun c5 => ?_)
  · refine lv_aload_n hx hb dX7_row_16 rfl (lv_at hl 0 rfl) ?_
    have a6 : f1 o = some (.inr (7, [.ref fa, .ref fi, .ref nu, .int 0, .ref fm, .int 0, .ref co, .int 0, .ref en, .ref ke, .long 1])) := k4 _ _ p0 (z_ne p0 p1 rfl)
    refine z_get (v := .ref fi) C hz a6 zl7 mFX7_19 (by decide) rfl dX7_row_17 ?_
    have a7 : f1 fi = some (.inr (5, [.ref al, .ref ra, .int 0])) := k4 _ _ p2 (z_ne p2 p1 rfl)
    refine z_callVi (As := []) C hz hS hA hl (k_X5_isFull l D cy f1 fi al ra a7 ) zyX5_isFull mMX7_79 a7 zl5 rfl rfl (Nat.le_of_ble_eq_true rfl) ⟨Nat.le_of_ble_eq_true rfl, Nat.le_of_ble_eq_true rfl⟩ ⟨Nat.le_of_ble_eq_true rfl, Nat.le_of_ble_eq_true rfl⟩ dX7_row_20 (fun r f8 H locs h9 hz hS => ?_)
    obtain ⟨rfl, k10⟩ := h9
    refine lv_if_eq (tgt := 29) hx hb dX7_row_23 (by decide) (fun c11 => ?_) (fun c11 => ?_)
    rotate_left
    · exact absurd c11 (by decide)
    refine lv_iload_n hx hb dX7_row_29 rfl (lv_at hl 1 rfl) ?_
    refine lv_if_ge (tgt := 43) hx hb dX7_row_30 (by decide) (fun c12 => ?_) (fun c12 => ?_)
    · refine lv_iload_n hx hb dX7_row_43 rfl (lv_at hl 2 rfl) ?_
      refine lv_if_lt (tgt := 52) hx hb dX7_row_44 (by decide) (fun c13 => ?_) (fun c13 => ?_)
      · refine lv_aload_n hx hb dX7_row_52 rfl (lv_at hl 0 rfl) ?_
        have a14 : f8 o = some (.inr (7, [.ref fa, .ref fi, .ref nu, .int 0, .ref fm, .int 0, .ref co, .int 0, .ref en, .ref ke, .long 1])) := k10 _ _ a6 
        refine z_get (v := .ref fa) C hz a14 zl7 mFX7_10 (by decide) rfl dX7_row_53 ?_
        refine lv_iconst (v := 2) hx hb dX7_row_56 (by decide) ?_
        refine lv_iconst (v := 1) hx hb dX7_row_57 (by decide) ?_
        have a15 : f8 fa = some (.inr (2, [.int 0, .int (-1), .int 0, .ref ev])) := k10 _ _ a3 
        have a16 : f1 ev = some (.inl (cy 0, 8, .inl g)) := k4 _ _ p5 (z_ne p5 p1 rfl)
        have a17 : f8 ev = some (.inl (cy 0, 8, .inl g)) := k10 _ _ a16 
        refine z_callVi (As := [.int 2, .int 1]) C hz hS hA hl (k_X2_inPart l D cy f8 fa 2 1 0 (-1) 0 ev g 2 a15 a17 (by decide) (Nat.le_of_ble_eq_true rfl)) zyX2_inPart mMX7_104 a15 zl2 rfl rfl (Nat.le_of_ble_eq_true rfl) ⟨Nat.le_of_ble_eq_true rfl, Nat.le_of_ble_eq_true rfl⟩ ⟨Nat.le_of_ble_eq_true rfl, Nat.le_of_ble_eq_true rfl⟩ dX7_row_58 (fun r f18 H locs h19 hz hS => ?_)
        obtain ⟨rfl, a20, a21, k22⟩ := h19
        exact z_iret C hr rfl hz hS ⟨(by simp [c5, c11, c12, c13]), (by
              intro b e hb n0 n1 n2 n3 n4
              have hb0 : f1 b = some e := k4 b e hb n0
              have hb1 : f8 b = some e := k10 b e hb0 
              have hb2 : f18 b = some e := k22 b e hb1 n0 n4
              exact hb2)⟩ (Nat.le_of_ble_eq_true rfl) (Nat.le_of_ble_eq_true rfl) dX7_row_61
      · refine lv_iload_n hx hb dX7_row_47 rfl (lv_at hl 2 rfl) ?_
        refine lv_iload_n hx hb dX7_row_48 rfl (lv_at hl 1 rfl) ?_
        refine lv_icmp_lt (tgt := 62) hx hb dX7_row_49 (by decide) (fun c23 => ?_) (fun c23 => ?_)
        · obtain ⟨t, ht, hxt⟩ := z_ixn (n := 12) (by decide) c12 c5
          refine lv_aload_n hx hb dX7_row_62 rfl (lv_at hl 0 rfl) ?_
          refine lv_iload_n hx hb dX7_row_63 rfl (lv_at hl 2 rfl) ?_
          have a24 : f8 o = some (.inr (7, [.ref fa, .ref fi, .ref nu, .int 0, .ref fm, .int 0, .ref co, .int 0, .ref en, .ref ke, .long 1])) := k10 _ _ a6 
          refine z_callVi (As := [.int y]) C hz hS hA hl (k_X7_numberAt l D cy f8 o fa fi nu fm co en ke y a24 ) zyX7_numberAt mMX7_116 a24 zl7 rfl rfl (Nat.le_of_ble_eq_true rfl) ⟨Nat.le_of_ble_eq_true rfl, Nat.le_of_ble_eq_true rfl⟩ ⟨Nat.le_of_ble_eq_true rfl, Nat.le_of_ble_eq_true rfl⟩ dX7_row_64 (fun r f25 H locs h26 hz hS => ?_)
          obtain ⟨rfl, k27⟩ := h26
          refine lv_istore_n (lv' := [(3, .int 0), (0, .ref o), (1, .int x), (2, .int y)]) hx hb dX7_row_67 rfl hl (by decide) rfl (fun ls hl => ?_)
          refine lv_aload_n hx hb dX7_row_68 rfl (lv_at hl 1 rfl) ?_
          have a28 : f25 o = some (.inr (7, [.ref fa, .ref fi, .ref nu, .int 0, .ref fm, .int 0, .ref co, .int 0, .ref en, .ref ke, .long 1])) := k27 _ _ a24 
          refine z_get (v := .ref fi) C hz a28 zl7 mFX7_19 (by decide) rfl dX7_row_69 ?_
          refine z_new (fs := [.int 0, .null, .long 0, .int 0, .int 0, .int 0, .int 0]) C hz hS hA zl4 mLX7_83 mIa_RX4 mIn_RX4 (by decide +kernel) (Nat.le_of_ble_eq_true rfl) (Nat.le_of_ble_eq_true rfl) dX7_row_72 (fun q29 H f31 u30 a32 k33 hz hS => ?_)
          refine lv_dup hx hb dX7_row_75 rfl ?_
          refine lv_iconst (v := 5) hx hb dX7_row_76 (by decide) ?_
          refine lv_aload_n hx hb dX7_row_77 rfl (lv_at hl 1 rfl) ?_
          refine lv_iload_n hx hb dX7_row_78 rfl (lv_at hl 2 rfl) ?_
          refine lv_iload_n hx hb dX7_row_79 rfl (lv_at hl 3 rfl) ?_
          refine lv_iload_n hx hb dX7_row_80 rfl (lv_at hl 0 rfl) ?_
          have a34 : f31 o = some (.inr (7, [.ref fa, .ref fi, .ref nu, .int 0, .ref fm, .int 0, .ref co, .int 0, .ref en, .ref ke, .long 1])) := (k33 _ (z_nn u30 a28)).trans a28
          refine z_callVq (As := [.int x, .int y, .int 0]) C hz hS hA hl (k_X7_rowParts l D cy f31 o fa fi nu fm co en ke x y 0 t a34 hxt ht) zyX7_rowParts mMX7_120 a34 zl7 rfl rfl (Nat.le_of_ble_eq_true rfl) ⟨Nat.le_of_ble_eq_true rfl, Nat.le_of_ble_eq_true rfl⟩ ⟨Nat.le_of_ble_eq_true rfl, Nat.le_of_ble_eq_true rfl⟩ dX7_row_81 (fun r f35 H locs h36 hz hS => ?_)
          obtain ⟨pa_37, gp_38, rfl, a39, k40⟩ := h36
          refine W.eq (g2 := F0 m 84 ls [.ref pa_37, .int 5, .ref q29, .ref q29, .ref fi]) rfl ?_
          refine lv_iload_n hx hb dX7_row_84 rfl (lv_at hl 0 rfl) ?_
          refine lv_i2l (v := (0 : Int32).toInt64) hx hb dX7_row_85 rfl ?_
          have a41 : f35 q29 = some (.inr (4, [.int 0, .null, .long 0, .int 0, .int 0, .int 0, .int 0])) := k40 _ _ a32 
          refine z_callIv (ret := none) (As := [.int 5, .ref pa_37, .long ((0 : Int32).toInt64)]) C hz hS hA hl (k_X4_init l D cy f35 q29 5 pa_37 ((0 : Int32).toInt64) a41 ) zyX4_init mMX7_89 rfl rfl (Nat.le_of_ble_eq_true rfl) ⟨Nat.le_of_ble_eq_true rfl, Nat.le_of_ble_eq_true rfl⟩ ⟨Nat.le_of_ble_eq_true rfl, Nat.le_of_ble_eq_true rfl⟩ dX7_row_86 (fun  f42 H locs h43 hz hS => ?_)
          obtain ⟨a44, k45⟩ := h43
          have a46 : f8 fi = some (.inr (5, [.ref al, .ref ra, .int 0])) := k10 _ _ a7 
          have a47 : f25 fi = some (.inr (5, [.ref al, .ref ra, .int 0])) := k27 _ _ a46 
          have a48 : f31 fi = some (.inr (5, [.ref al, .ref ra, .int 0])) := (k33 _ (z_nn u30 a47)).trans a47
          have a49 : f35 fi = some (.inr (5, [.ref al, .ref ra, .int 0])) := k40 _ _ a48 
          have a50 : f42 fi = some (.inr (5, [.ref al, .ref ra, .int 0])) := k45 _ _ a49 (z_nn u30 a47)
          have a51 : f1 al = some (.inl (cy 3, 60, .inr (.inr (.inr (.inr ga))))) := k4 _ _ p3 (z_ne p3 p1 rfl)
          have a52 : f8 al = some (.inl (cy 3, 60, .inr (.inr (.inr (.inr ga))))) := k10 _ _ a51 
          have a53 : f25 al = some (.inl (cy 3, 60, .inr (.inr (.inr (.inr ga))))) := k27 _ _ a52 
          have a54 : f31 al = some (.inl (cy 3, 60, .inr (.inr (.inr (.inr ga))))) := (k33 _ (z_nn u30 a53)).trans a53
          have a55 : f35 al = some (.inl (cy 3, 60, .inr (.inr (.inr (.inr ga))))) := k40 _ _ a54 
          have a56 : f42 al = some (.inl (cy 3, 60, .inr (.inr (.inr (.inr ga))))) := k45 _ _ a55 (z_nn u30 a53)
          have a57 : f1 ra = some (.inl (cy 3, 60, .inr (.inr (.inr (.inr gr))))) := k4 _ _ p4 (z_ne p4 p1 rfl)
          have a58 : f8 ra = some (.inl (cy 3, 60, .inr (.inr (.inr (.inr gr))))) := k10 _ _ a57 
          have a59 : f25 ra = some (.inl (cy 3, 60, .inr (.inr (.inr (.inr gr))))) := k27 _ _ a58 
          have a60 : f31 ra = some (.inl (cy 3, 60, .inr (.inr (.inr (.inr gr))))) := (k33 _ (z_nn u30 a59)).trans a59
          have a61 : f35 ra = some (.inl (cy 3, 60, .inr (.inr (.inr (.inr gr))))) := k40 _ _ a60 
          have a62 : f42 ra = some (.inl (cy 3, 60, .inr (.inr (.inr (.inr gr))))) := k45 _ _ a61 (z_nn u30 a59)
          have a63 : f42 pa_37 = some (.inl (cy 1, (3 + t), .inr (.inl gp_38))) := k45 _ _ a39 (z_neO a39 a41 rfl)
          refine z_callVi (As := [.ref q29]) C hz hS hA hl (k_X5_add l D cy f42 fi al ra ga gr q29 5 pa_37 ((0 : Int32).toInt64) 0 (-1) 0 0 (3 + t) gp_38 a50 a56 a62 a44 a63 (by decide) (by omega) har) zyX5_add mMX7_92 a50 zl5 rfl rfl (Nat.le_of_ble_eq_true rfl) ⟨Nat.le_of_ble_eq_true rfl, Nat.le_of_ble_eq_true rfl⟩ ⟨Nat.le_of_ble_eq_true rfl, Nat.le_of_ble_eq_true rfl⟩ dX7_row_89 (fun r f64 H locs h65 hz hS => ?_)
          obtain ⟨rfl, k66⟩ := h65
          exact z_iret C hr rfl hz hS ⟨(by simp [c5, c11, c12, c13, c23]), (by
                intro b e hb n0 n1 n2 n3 n4
                have hb0 : f1 b = some e := k4 b e hb n0
                have hb1 : f8 b = some e := k10 b e hb0 
                have hb2 : f25 b = some e := k27 b e hb1 
                have nn3 : b ≠ q29 := z_nn u30 hb2
                have hb3 : f31 b = some e := (k33 b nn3).trans hb2
                have hb4 : f35 b = some e := k40 b e hb3 
                have hb5 : f42 b = some e := k45 b e hb4 nn3
                have hb6 : f64 b = some e := k66 b e hb5 n1 n2 n3 nn3
                exact hb6)⟩ (Nat.le_of_ble_eq_true rfl) (Nat.le_of_ble_eq_true rfl) dX7_row_92
        · refine lv_aload_n hx hb dX7_row_52 rfl (lv_at hl 0 rfl) ?_
          have a67 : f8 o = some (.inr (7, [.ref fa, .ref fi, .ref nu, .int 0, .ref fm, .int 0, .ref co, .int 0, .ref en, .ref ke, .long 1])) := k10 _ _ a6 
          refine z_get (v := .ref fa) C hz a67 zl7 mFX7_10 (by decide) rfl dX7_row_53 ?_
          refine lv_iconst (v := 2) hx hb dX7_row_56 (by decide) ?_
          refine lv_iconst (v := 1) hx hb dX7_row_57 (by decide) ?_
          have a68 : f8 fa = some (.inr (2, [.int 0, .int (-1), .int 0, .ref ev])) := k10 _ _ a3 
          have a69 : f1 ev = some (.inl (cy 0, 8, .inl g)) := k4 _ _ p5 (z_ne p5 p1 rfl)
          have a70 : f8 ev = some (.inl (cy 0, 8, .inl g)) := k10 _ _ a69 
          refine z_callVi (As := [.int 2, .int 1]) C hz hS hA hl (k_X2_inPart l D cy f8 fa 2 1 0 (-1) 0 ev g 2 a68 a70 (by decide) (Nat.le_of_ble_eq_true rfl)) zyX2_inPart mMX7_104 a68 zl2 rfl rfl (Nat.le_of_ble_eq_true rfl) ⟨Nat.le_of_ble_eq_true rfl, Nat.le_of_ble_eq_true rfl⟩ ⟨Nat.le_of_ble_eq_true rfl, Nat.le_of_ble_eq_true rfl⟩ dX7_row_58 (fun r f71 H locs h72 hz hS => ?_)
          obtain ⟨rfl, a73, a74, k75⟩ := h72
          exact z_iret C hr rfl hz hS ⟨(by simp [c5, c11, c12, c13, c23]), (by
                intro b e hb n0 n1 n2 n3 n4
                have hb0 : f1 b = some e := k4 b e hb n0
                have hb1 : f8 b = some e := k10 b e hb0 
                have hb2 : f71 b = some e := k75 b e hb1 n0 n4
                exact hb2)⟩ (Nat.le_of_ble_eq_true rfl) (Nat.le_of_ble_eq_true rfl) dX7_row_61
    · refine lv_aload_n hx hb dX7_row_33 rfl (lv_at hl 0 rfl) ?_
      have a76 : f8 o = some (.inr (7, [.ref fa, .ref fi, .ref nu, .int 0, .ref fm, .int 0, .ref co, .int 0, .ref en, .ref ke, .long 1])) := k10 _ _ a6 
      refine z_get (v := .ref fa) C hz a76 zl7 mFX7_10 (by decide) rfl dX7_row_34 ?_
      refine lv_iconst (v := 5) hx hb dX7_row_37 (by decide) ?_
      refine lv_iconst (v := 0) hx hb dX7_row_38 (by decide) ?_
      have a77 : f8 fa = some (.inr (2, [.int 0, .int (-1), .int 0, .ref ev])) := k10 _ _ a3 
      have a78 : f1 ev = some (.inl (cy 0, 8, .inl g)) := k4 _ _ p5 (z_ne p5 p1 rfl)
      have a79 : f8 ev = some (.inl (cy 0, 8, .inl g)) := k10 _ _ a78 
      refine z_callVi (As := [.int 5, .int 0]) C hz hS hA hl (k_X2_inPart l D cy f8 fa 5 0 0 (-1) 0 ev g 5 a77 a79 (by decide) (Nat.le_of_ble_eq_true rfl)) zyX2_inPart mMX7_104 a77 zl2 rfl rfl (Nat.le_of_ble_eq_true rfl) ⟨Nat.le_of_ble_eq_true rfl, Nat.le_of_ble_eq_true rfl⟩ ⟨Nat.le_of_ble_eq_true rfl, Nat.le_of_ble_eq_true rfl⟩ dX7_row_39 (fun r f80 H locs h81 hz hS => ?_)
      obtain ⟨rfl, a82, a83, k84⟩ := h81
      exact z_iret C hr rfl hz hS ⟨(by simp [c5, c11, c12]), (by
            intro b e hb n0 n1 n2 n3 n4
            have hb0 : f1 b = some e := k4 b e hb n0
            have hb1 : f8 b = some e := k10 b e hb0 
            have hb2 : f80 b = some e := k84 b e hb1 n0 n4
            exact hb2)⟩ (Nat.le_of_ble_eq_true rfl) (Nat.le_of_ble_eq_true rfl) dX7_row_42
  · refine lv_bipush (v := (-2)) hx hb dX7_row_13 (by decide) ?_
    exact z_iret C hr rfl hz hS ⟨(by simp [c5]), (by
          intro b e hb n0 n1 n2 n3 n4
          have hb0 : f1 b = some e := k4 b e hb n0
          exact hb0)⟩ (Nat.le_of_ble_eq_true rfl) (Nat.le_of_ble_eq_true rfl) dX7_row_15
abbrev rmX7_shelf : Room := { frames := 2, cells := 2, slots := 20, locals := 48 }
set_option maxHeartbeats 4000000 in
set_option maxRecDepth 100000 in
theorem k_X7_shelf (l : Launch) (D : va_G) (cy : Nat → ClassId) (f : zM) (o : Nat) (fa : Nat) (fi : Nat) (nu : Nat) (fm : Nat) (co : Nat) (en : Nat) (ke : Nat) (w : Int32) (x : Int32) (u1 : Int32) (u2 : Int32) (u3 : Int32) (ev : Nat) (al : Nat) (ra : Nat) (ga : Nat → Option Nat) (gr : Nat → Option Nat) (g : Nat → Int32) (p0 : f o = some (.inr (7, [.ref fa, .ref fi, .ref nu, .int 0, .ref fm, .int 0, .ref co, .int 0, .ref en, .ref ke, .long 1]))) (p1 : f fa = some (.inr (2, [.int u1, .int u2, .int u3, .ref ev]))) (p2 : f fi = some (.inr (5, [.ref al, .ref ra, .int 0]))) (p3 : f al = some (.inl (cy 3, 60, .inr (.inr (.inr (.inr ga)))))) (p4 : f ra = some (.inl (cy 3, 60, .inr (.inr (.inr (.inr gr)))))) (p5 : f ev = some (.inl (cy 0, 8, .inl g))) (har : al ≠ ra) (hw : w = 0 ∨ w = 1) : zCi l D cy yX7_shelf cX7_shelf 5 (Option.some Jvm.ClassFile.FieldType.int) rmX7_shelf [.ref o, .int w, .int x] f (fun (r : Int32) (f1 : zM) => r = (if x ≤ 12 then (if 0 ≤ x then 0 else (-4)) else (-2)) ∧ (∀ (b : Nat) (e : va_E), f b = some e → b ≠ fa → b ≠ fi → b ≠ al → b ≠ ra → b ≠ ev → f1 b = some e)) := by
  intro sz
  refine z_body (by decide +kernel) (Nat.le_of_ble_eq_true rfl) ?_
  intro p e s m below meth c ls C hr hin hsz hz hl
  subst hsz
  have hx := C.1
  have hb := C.2.1
  have hA : ∀ q, s.heap.size ≤ q → zA f s.heap.size q := fun q h => Or.inr h
  have hS : va_S (zA f s.heap.size) s.heap s.heap [] := va_S.rf
  have hl : lv_has ls 5 [(0, .ref o), (1, .int w), (2, .int x)] := hl
  refine lv_aload_n hx hb dX7_shelf_0 rfl (lv_at hl 0 rfl) ?_
  refine z_get (v := .ref fa) C hz p0 zl7 mFX7_10 (by decide) rfl dX7_shelf_1 ?_
  refine z_callVv (As := []) C hz hS hA hl (k_X2_none l D cy f fa u1 u2 u3 ev p1 ) zyX2_none mMX7_76 p1 zl2 rfl rfl (Nat.le_of_ble_eq_true rfl) ⟨Nat.le_of_ble_eq_true rfl, Nat.le_of_ble_eq_true rfl⟩ ⟨Nat.le_of_ble_eq_true rfl, Nat.le_of_ble_eq_true rfl⟩ dX7_shelf_4 (fun  f1 H locs h2 hz hS => ?_)
  obtain ⟨a3, k4⟩ := h2
  refine lv_iload_n hx hb dX7_shelf_7 rfl (lv_at hl 2 rfl) ?_
  refine lv_bipush (v := 12) hx hb dX7_shelf_8 (by decide) ?_
  refine lv_icmp_le (tgt := 16) hx hb dX7_shelf_10 (by decide) (fun c5 => ?_) (fun c5 => ?_)
  · refine lv_aload_n hx hb dX7_shelf_16 rfl (lv_at hl 0 rfl) ?_
    have a6 : f1 o = some (.inr (7, [.ref fa, .ref fi, .ref nu, .int 0, .ref fm, .int 0, .ref co, .int 0, .ref en, .ref ke, .long 1])) := k4 _ _ p0 (z_ne p0 p1 rfl)
    refine z_get (v := .ref fi) C hz a6 zl7 mFX7_19 (by decide) rfl dX7_shelf_17 ?_
    have a7 : f1 fi = some (.inr (5, [.ref al, .ref ra, .int 0])) := k4 _ _ p2 (z_ne p2 p1 rfl)
    refine z_callVi (As := []) C hz hS hA hl (k_X5_isFull l D cy f1 fi al ra a7 ) zyX5_isFull mMX7_79 a7 zl5 rfl rfl (Nat.le_of_ble_eq_true rfl) ⟨Nat.le_of_ble_eq_true rfl, Nat.le_of_ble_eq_true rfl⟩ ⟨Nat.le_of_ble_eq_true rfl, Nat.le_of_ble_eq_true rfl⟩ dX7_shelf_20 (fun r f8 H locs h9 hz hS => ?_)
    obtain ⟨rfl, k10⟩ := h9
    refine lv_if_eq (tgt := 29) hx hb dX7_shelf_23 (by decide) (fun c11 => ?_) (fun c11 => ?_)
    rotate_left
    · exact absurd c11 (by decide)
    refine lv_iload_n hx hb dX7_shelf_29 rfl (lv_at hl 2 rfl) ?_
    refine lv_if_ge (tgt := 43) hx hb dX7_shelf_30 (by decide) (fun c12 => ?_) (fun c12 => ?_)
    · obtain ⟨t, ht, hxt⟩ := z_ixn (n := 12) (by decide) c12 c5
      refine lv_iconst (v := 1) hx hb dX7_shelf_43 (by decide) ?_
      refine lv_iload_n hx hb dX7_shelf_44 rfl (lv_at hl 2 rfl) ?_
      refine lv_iadd hx hb dX7_shelf_45 ?_
      refine z_newa (atype := .long) (t0 := 1) (N' := 1 + t) (x := (.inr (.inl (fun _ => 0)))) C hz hS hA rfl mA_long rfl (fun _ => rfl) (by rw [hxt]; exact nI_add 1 t) (by omega) (by decide) (Nat.le_of_ble_eq_true rfl) (Nat.le_trans (Nat.add_le_add_left (show 1 + t ≤ 13 by omega) _) (Nat.le_of_ble_eq_true rfl)) dX7_shelf_46 (fun q13 H f15 u14 a16 k17 hz hS => ?_)
      refine W.widen (k := 1) (n := 13) (Nat.le_of_ble_eq_true rfl) (Nat.le_trans (Nat.add_le_add_left (show 1 + t ≤ 13 by omega) _) (Nat.le_of_ble_eq_true rfl)) ?_
      refine lv_astore_n (lv' := [(3, .ref q13), (0, .ref o), (1, .int w), (2, .int x)]) hx hb dX7_shelf_48 rfl hl (by decide) rfl (fun ls hl => ?_)
      refine lv_aload_n hx hb dX7_shelf_49 rfl (lv_at hl 0 rfl) ?_
      refine lv_iconst (v := 0) hx hb dX7_shelf_50 (by decide) ?_
      refine lv_iload_n hx hb dX7_shelf_51 rfl (lv_at hl 3 rfl) ?_
      refine lv_i2l (v := x.toInt64) hx hb dX7_shelf_52 rfl ?_
      refine z_last 0 C hz hS a16 (by decide) (by omega) (by omega) dX7_shelf_53 (fun H locs f18 a19 k20 hz hS => ?_)
      refine lv_iconst (v := 1) hx hb dX7_shelf_54 (by decide) ?_
      refine lv_istore (lv' := [(4, .int 1), (3, .ref q13), (0, .ref o), (1, .int w), (2, .int x)]) hx hb dX7_shelf_55 hl (by decide) rfl (fun ls hl => ?_)
      have lp21 : ∀ (n : Nat) (i : Nat) (gp : Nat → Int64) (fL22 : zM) (H : Heap) (locs : List Loc) (ls : Array Slot), (1 + t - i) < n → (i ≤ 1 + t) → fL22 q13 = some (.inl (cy 1, (1 + t), .inr (.inl gp))) → (∀ (b : Nat) (e : va_E), f18 b = some e → b ≠ q13 → fL22 b = some e) → zH D (zA f s.heap.size) fL22 H → va_S (zA f s.heap.size) s.heap H locs → lv_has ls 5 [(0, .ref o), (1, .int w), (3, .ref q13), (4, .int (nI i))] → W p l e rmX7_shelf s m ([.ref o, .int w, .int x] : List Value).toArray below meth c H locs 1 13 (MQ below (va_Qi (fun (r : Int32) (f1 : zM) => r = (if x ≤ 12 then (if 0 ≤ x then 0 else (-4)) else (-2)) ∧ (∀ (b : Nat) (e : va_E), f b = some e → b ≠ fa → b ≠ fi → b ≠ al → b ≠ ra → b ≠ ev → f1 b = some e)) (zB D f s.heap.size) (zA f s.heap.size)) ([.ref o, .int w, .int x] : List Value).toArray s rmX7_shelf.cells rmX7_shelf.slots (zA f s.heap.size)) (F0 m 57 ls []) := by
        intro n
        induction n with
        | zero => intro i gp fL22 H locs ls hmz; exact absurd hmz (Nat.not_lt_zero _)
        | succ n ih =>
          intro i gp fL22 H locs ls hmz hi a24 k23 hz hS hl
          refine lv_iload hx hb dX7_shelf_57 (lv_at hl 3 rfl) ?_
          refine lv_aload_n hx hb dX7_shelf_59 rfl (lv_at hl 2 rfl) ?_
          refine z_alen (v := nI (1 + t)) 1 C hz a24 rfl rfl dX7_shelf_60 ?_
          refine lv_icmp_ge (tgt := 77) hx hb dX7_shelf_61 (by decide) (fun c25 => ?_) (fun c25 => ?_)
          · replace c25 : ((1 + t) ≤ i) := (nI_leI (a := (1 + t)) (b := i) (by omega) (by omega)).mp c25
            refine z_new (fs := [.int 0, .null, .long 0, .int 0, .int 0, .int 0, .int 0]) C hz hS hA zl4 mLX7_83 mIa_RX4 mIn_RX4 (by decide +kernel) (Nat.le_of_ble_eq_true rfl) (Nat.le_of_ble_eq_true rfl) dX7_shelf_77 (fun q26 H f28 u27 a29 k30 hz hS => ?_)
            refine lv_dup hx hb dX7_shelf_80 rfl ?_
            refine lv_bipush (v := 6) hx hb dX7_shelf_81 (by decide) ?_
            refine lv_aload_n hx hb dX7_shelf_83 rfl (lv_at hl 2 rfl) ?_
            refine lv_lconst (v := 0) hx hb dX7_shelf_84 (by decide) ?_
            refine z_callIv (ret := none) (As := [.int 6, .ref q13, .long 0]) C hz hS hA hl (k_X4_init l D cy f28 q26 6 q13 0 a29 ) zyX4_init mMX7_89 rfl rfl (Nat.le_of_ble_eq_true rfl) ⟨Nat.le_of_ble_eq_true rfl, Nat.le_of_ble_eq_true rfl⟩ ⟨Nat.le_of_ble_eq_true rfl, Nat.le_of_ble_eq_true rfl⟩ dX7_shelf_85 (fun  f31 H locs h32 hz hS => ?_)
            obtain ⟨a33, k34⟩ := h32
            refine lv_astore (lv' := [(4, .ref q26), (0, .ref o), (1, .int w), (3, .ref q13)]) hx hb dX7_shelf_88 hl (by decide) rfl (fun ls hl => ?_)
            refine lv_aload hx hb dX7_shelf_90 (lv_at hl 0 rfl) ?_
            refine lv_iload_n hx hb dX7_shelf_92 rfl (lv_at hl 2 rfl) ?_
            refine z_putN (fs' := [.int 6, .ref q13, .long 0, .int w, .int (-1), .int 0, .int 0]) C hz hS a33 zl4 mFNX7_126 (by decide) rfl (by rcases hw with rfl | rfl <;> rfl) (by rcases hw with rfl | rfl <;> rfl) (Nat.le_of_ble_eq_true rfl) rfl dX7_shelf_93 (fun H locs f35 a36 k37 hz hS => ?_)
            refine lv_aload_n hx hb dX7_shelf_96 rfl (lv_at hl 1 rfl) ?_
            have a38 : f8 o = some (.inr (7, [.ref fa, .ref fi, .ref nu, .int 0, .ref fm, .int 0, .ref co, .int 0, .ref en, .ref ke, .long 1])) := k10 _ _ a6 
            have a39 : f15 o = some (.inr (7, [.ref fa, .ref fi, .ref nu, .int 0, .ref fm, .int 0, .ref co, .int 0, .ref en, .ref ke, .long 1])) := (k17 _ (z_nn u14 a38)).trans a38
            have a40 : f18 o = some (.inr (7, [.ref fa, .ref fi, .ref nu, .int 0, .ref fm, .int 0, .ref co, .int 0, .ref en, .ref ke, .long 1])) := (k20 _ (z_nn u14 a38)).trans a39
            have a41 : fL22 o = some (.inr (7, [.ref fa, .ref fi, .ref nu, .int 0, .ref fm, .int 0, .ref co, .int 0, .ref en, .ref ke, .long 1])) := k23 _ _ a40 (z_nn u14 a38)
            have a42 : f28 o = some (.inr (7, [.ref fa, .ref fi, .ref nu, .int 0, .ref fm, .int 0, .ref co, .int 0, .ref en, .ref ke, .long 1])) := (k30 _ (z_nn u27 a41)).trans a41
            have a43 : f31 o = some (.inr (7, [.ref fa, .ref fi, .ref nu, .int 0, .ref fm, .int 0, .ref co, .int 0, .ref en, .ref ke, .long 1])) := k34 _ _ a42 (z_nn u27 a41)
            have a44 : f35 o = some (.inr (7, [.ref fa, .ref fi, .ref nu, .int 0, .ref fm, .int 0, .ref co, .int 0, .ref en, .ref ke, .long 1])) := (k37 _ (z_nn u27 a41)).trans a43
            refine z_get (v := .ref fi) C hz a44 zl7 mFX7_19 (by decide) rfl dX7_shelf_97 ?_
            refine lv_aload hx hb dX7_shelf_100 (lv_at hl 0 rfl) ?_
            have a45 : f8 fi = some (.inr (5, [.ref al, .ref ra, .int 0])) := k10 _ _ a7 
            have a46 : f15 fi = some (.inr (5, [.ref al, .ref ra, .int 0])) := (k17 _ (z_nn u14 a45)).trans a45
            have a47 : f18 fi = some (.inr (5, [.ref al, .ref ra, .int 0])) := (k20 _ (z_nn u14 a45)).trans a46
            have a48 : fL22 fi = some (.inr (5, [.ref al, .ref ra, .int 0])) := k23 _ _ a47 (z_nn u14 a45)
            have a49 : f28 fi = some (.inr (5, [.ref al, .ref ra, .int 0])) := (k30 _ (z_nn u27 a48)).trans a48
            have a50 : f31 fi = some (.inr (5, [.ref al, .ref ra, .int 0])) := k34 _ _ a49 (z_nn u27 a48)
            have a51 : f35 fi = some (.inr (5, [.ref al, .ref ra, .int 0])) := (k37 _ (z_nn u27 a48)).trans a50
            have a52 : f1 al = some (.inl (cy 3, 60, .inr (.inr (.inr (.inr ga))))) := k4 _ _ p3 (z_ne p3 p1 rfl)
            have a53 : f8 al = some (.inl (cy 3, 60, .inr (.inr (.inr (.inr ga))))) := k10 _ _ a52 
            have a54 : f15 al = some (.inl (cy 3, 60, .inr (.inr (.inr (.inr ga))))) := (k17 _ (z_nn u14 a53)).trans a53
            have a55 : f18 al = some (.inl (cy 3, 60, .inr (.inr (.inr (.inr ga))))) := (k20 _ (z_nn u14 a53)).trans a54
            have a56 : fL22 al = some (.inl (cy 3, 60, .inr (.inr (.inr (.inr ga))))) := k23 _ _ a55 (z_nn u14 a53)
            have a57 : f28 al = some (.inl (cy 3, 60, .inr (.inr (.inr (.inr ga))))) := (k30 _ (z_nn u27 a56)).trans a56
            have a58 : f31 al = some (.inl (cy 3, 60, .inr (.inr (.inr (.inr ga))))) := k34 _ _ a57 (z_nn u27 a56)
            have a59 : f35 al = some (.inl (cy 3, 60, .inr (.inr (.inr (.inr ga))))) := (k37 _ (z_nn u27 a56)).trans a58
            have a60 : f1 ra = some (.inl (cy 3, 60, .inr (.inr (.inr (.inr gr))))) := k4 _ _ p4 (z_ne p4 p1 rfl)
            have a61 : f8 ra = some (.inl (cy 3, 60, .inr (.inr (.inr (.inr gr))))) := k10 _ _ a60 
            have a62 : f15 ra = some (.inl (cy 3, 60, .inr (.inr (.inr (.inr gr))))) := (k17 _ (z_nn u14 a61)).trans a61
            have a63 : f18 ra = some (.inl (cy 3, 60, .inr (.inr (.inr (.inr gr))))) := (k20 _ (z_nn u14 a61)).trans a62
            have a64 : fL22 ra = some (.inl (cy 3, 60, .inr (.inr (.inr (.inr gr))))) := k23 _ _ a63 (z_nn u14 a61)
            have a65 : f28 ra = some (.inl (cy 3, 60, .inr (.inr (.inr (.inr gr))))) := (k30 _ (z_nn u27 a64)).trans a64
            have a66 : f31 ra = some (.inl (cy 3, 60, .inr (.inr (.inr (.inr gr))))) := k34 _ _ a65 (z_nn u27 a64)
            have a67 : f35 ra = some (.inl (cy 3, 60, .inr (.inr (.inr (.inr gr))))) := (k37 _ (z_nn u27 a64)).trans a66
            have a68 : f28 q13 = some (.inl (cy 1, (1 + t), .inr (.inl gp))) := (k30 _ (z_nn u27 a24)).trans a24
            have a69 : f31 q13 = some (.inl (cy 1, (1 + t), .inr (.inl gp))) := k34 _ _ a68 (z_nn u27 a24)
            have a70 : f35 q13 = some (.inl (cy 1, (1 + t), .inr (.inl gp))) := (k37 _ (z_nn u27 a24)).trans a69
            refine z_callVi (As := [.ref q26]) C hz hS hA hl (k_X5_add l D cy f35 fi al ra ga gr q26 6 q13 0 w (-1) 0 0 (1 + t) gp a51 a59 a67 a36 a70 (by decide) (by omega) har) zyX5_add mMX7_92 a51 zl5 rfl rfl (Nat.le_of_ble_eq_true rfl) ⟨Nat.le_of_ble_eq_true rfl, Nat.le_of_ble_eq_true rfl⟩ ⟨Nat.le_of_ble_eq_true rfl, Nat.le_of_ble_eq_true rfl⟩ dX7_shelf_102 (fun r f71 H locs h72 hz hS => ?_)
            obtain ⟨rfl, k73⟩ := h72
            exact z_iret C hr rfl hz hS ⟨(by simp [c5, c11, c12, c25]), (by
                  intro b e hb n0 n1 n2 n3 n4
                  have hb0 : f1 b = some e := k4 b e hb n0
                  have hb1 : f8 b = some e := k10 b e hb0 
                  have nn2 : b ≠ q13 := z_nn u14 hb1
                  have hb2 : f15 b = some e := (k17 b nn2).trans hb1
                  have hb3 : f18 b = some e := (k20 b nn2).trans hb2
                  have hb4 : fL22 b = some e := k23 b e hb3 nn2
                  have nn5 : b ≠ q26 := z_nn u27 hb4
                  have hb5 : f28 b = some e := (k30 b nn5).trans hb4
                  have hb6 : f31 b = some e := k34 b e hb5 nn5
                  have hb7 : f35 b = some e := (k37 b nn5).trans hb6
                  have hb8 : f71 b = some e := k73 b e hb7 n1 n2 n3 nn5
                  exact hb8)⟩ (Nat.le_of_ble_eq_true rfl) (Nat.le_of_ble_eq_true rfl) dX7_shelf_105
          · replace c25 : ¬ ((1 + t) ≤ i) := fun h => c25 ((nI_leI (a := (1 + t)) (b := i) (by omega) (by omega)).mpr h)
            refine lv_aload_n hx hb dX7_shelf_64 rfl (lv_at hl 2 rfl) ?_
            refine lv_iload hx hb dX7_shelf_65 (lv_at hl 3 rfl) ?_
            refine lv_ldc2 (v := (-1)) hx hb C.2.2.2.1 (C.2.2.2.2.1 _ mKX7_124) dX7_shelf_67 ?_
            refine z_last i C hz hS a24 rfl (by omega) (by omega) dX7_shelf_70 (fun H locs f74 a75 k76 hz hS => ?_)
            refine lv_iinc (v := nI (i + 1)) (lv' := [(4, .int (nI (i + 1))), (0, .ref o), (1, .int w), (3, .ref q13)]) hx hb dX7_shelf_71 hl (k := 3) rfl (nI_1 i) (by decide) rfl (fun ls hl => ?_)
            refine lv_goto (tgt := 57) hx hb dX7_shelf_74 (by decide) ?_
            exact ih (i + 1) (vp_updL gp i (-1)) _ _ _ _ (by omega) (by omega) a75 (by
                  intro b e hb n0
                  have hb4 : fL22 b = some e := k23 b e hb n0
                  have hb5 : f74 b = some e := (k76 b n0).trans hb4
                  exact hb5) hz hS (lv_sub hl [1, 2, 3, 0] rfl)
      exact lp21 (1 + t - 1 + 1) 1 (vp_updL (fun _ => 0) 0 x.toInt64) _ _ _ _ (Nat.lt_succ_self _) (by omega) a19 (fun b e hb n0 => hb) hz hS (lv_sub hl [2, 3, 1, 0] rfl)
    · refine lv_aload_n hx hb dX7_shelf_33 rfl (lv_at hl 0 rfl) ?_
      have a77 : f8 o = some (.inr (7, [.ref fa, .ref fi, .ref nu, .int 0, .ref fm, .int 0, .ref co, .int 0, .ref en, .ref ke, .long 1])) := k10 _ _ a6 
      refine z_get (v := .ref fa) C hz a77 zl7 mFX7_10 (by decide) rfl dX7_shelf_34 ?_
      refine lv_iconst (v := 5) hx hb dX7_shelf_37 (by decide) ?_
      refine lv_iconst (v := 0) hx hb dX7_shelf_38 (by decide) ?_
      have a78 : f8 fa = some (.inr (2, [.int 0, .int (-1), .int 0, .ref ev])) := k10 _ _ a3 
      have a79 : f1 ev = some (.inl (cy 0, 8, .inl g)) := k4 _ _ p5 (z_ne p5 p1 rfl)
      have a80 : f8 ev = some (.inl (cy 0, 8, .inl g)) := k10 _ _ a79 
      refine z_callVi (As := [.int 5, .int 0]) C hz hS hA hl (k_X2_inPart l D cy f8 fa 5 0 0 (-1) 0 ev g 5 a78 a80 (by decide) (Nat.le_of_ble_eq_true rfl)) zyX2_inPart mMX7_104 a78 zl2 rfl rfl (Nat.le_of_ble_eq_true rfl) ⟨Nat.le_of_ble_eq_true rfl, Nat.le_of_ble_eq_true rfl⟩ ⟨Nat.le_of_ble_eq_true rfl, Nat.le_of_ble_eq_true rfl⟩ dX7_shelf_39 (fun r f81 H locs h82 hz hS => ?_)
      obtain ⟨rfl, a83, a84, k85⟩ := h82
      exact z_iret C hr rfl hz hS ⟨(by simp [c5, c11, c12]), (by
            intro b e hb n0 n1 n2 n3 n4
            have hb0 : f1 b = some e := k4 b e hb n0
            have hb1 : f8 b = some e := k10 b e hb0 
            have hb2 : f81 b = some e := k85 b e hb1 n0 n4
            exact hb2)⟩ (Nat.le_of_ble_eq_true rfl) (Nat.le_of_ble_eq_true rfl) dX7_shelf_42
  · refine lv_bipush (v := (-2)) hx hb dX7_shelf_13 (by decide) ?_
    exact z_iret C hr rfl hz hS ⟨(by simp [c5]), (by
          intro b e hb n0 n1 n2 n3 n4
          have hb0 : f1 b = some e := k4 b e hb n0
          exact hb0)⟩ (Nat.le_of_ble_eq_true rfl) (Nat.le_of_ble_eq_true rfl) dX7_shelf_15
abbrev rmX7_areKindsOnce : Room := { frames := 0, cells := 0, slots := 0, locals := 0 }
set_option maxHeartbeats 4000000 in
set_option maxRecDepth 100000 in
theorem k_X7_areKindsOnce (l : Launch) (D : va_G) (cy : Nat → ClassId) (f : zM) (ta : Nat) (g : Nat → Int32) (p0 : f ta = some (.inl (cy 0, 4, .inl g)))  : zCi l D cy yX7_areKindsOnce cX7_areKindsOnce 6 (Option.some Jvm.ClassFile.FieldType.boolean) rmX7_areKindsOnce [.ref ta] f (fun (r : Int32) (f1 : zM) => r = (if (zks g 4).isSome = true then 1 else 0) ∧ (∀ (b : Nat) (e : va_E), f b = some e → f1 b = some e)) := by
  intro sz
  refine z_body (by decide +kernel) (Nat.le_of_ble_eq_true rfl) ?_
  intro p e s m below meth c ls C hr hin hsz hz hl
  subst hsz
  have hx := C.1
  have hb := C.2.1
  have hA : ∀ q, s.heap.size ≤ q → zA f s.heap.size q := fun q h => Or.inr h
  have hS : va_S (zA f s.heap.size) s.heap s.heap [] := va_S.rf
  have hl : lv_has ls 6 [(0, .ref ta)] := hl
  refine lv_iconst (v := 0) hx hb dX7_areKindsOnce_0 (by decide) ?_
  refine lv_istore_n (lv' := [(1, .int 0), (0, .ref ta)]) hx hb dX7_areKindsOnce_1 rfl hl (by decide) rfl (fun ls hl => ?_)
  refine lv_aload_n hx hb dX7_areKindsOnce_2 rfl (lv_at hl 1 rfl) ?_
  refine lv_astore_n (lv' := [(2, .ref ta), (1, .int 0), (0, .ref ta)]) hx hb dX7_areKindsOnce_3 rfl hl (by decide) rfl (fun ls hl => ?_)
  refine lv_aload_n hx hb dX7_areKindsOnce_4 rfl (lv_at hl 0 rfl) ?_
  refine z_alen (v := 4) 0 C hz p0 rfl rfl dX7_areKindsOnce_5 ?_
  refine lv_istore_n (lv' := [(3, .int 4), (2, .ref ta), (1, .int 0), (0, .ref ta)]) hx hb dX7_areKindsOnce_6 rfl hl (by decide) rfl (fun ls hl => ?_)
  refine lv_iconst (v := 0) hx hb dX7_areKindsOnce_7 (by decide) ?_
  refine lv_istore (lv' := [(4, .int 0), (3, .int 4), (2, .ref ta), (1, .int 0), (0, .ref ta)]) hx hb dX7_areKindsOnce_8 hl (by decide) rfl (fun ls hl => ?_)
  have lp1 : ∀ (n : Nat) (sn : Int32) (i : Nat) (fL2 : zM) (H : Heap) (locs : List Loc) (ls : Array Slot), (4 - i) < n → (i ≤ 4) → (zks g i = some sn) → fL2 ta = some (.inl (cy 0, 4, .inl g)) → (∀ (b : Nat) (e : va_E), f b = some e → fL2 b = some e) → zH D (zA f s.heap.size) fL2 H → va_S (zA f s.heap.size) s.heap H locs → lv_has ls 6 [(0, .ref ta), (1, .int sn), (2, .ref ta), (3, .int 4), (4, .int (nI i))] → W p l e rmX7_areKindsOnce s m ([.ref ta] : List Value).toArray below meth c H locs 0 0 (MQ below (va_Qi (fun (r : Int32) (f1 : zM) => r = (if (zks g 4).isSome = true then 1 else 0) ∧ (∀ (b : Nat) (e : va_E), f b = some e → f1 b = some e)) (zB D f s.heap.size) (zA f s.heap.size)) ([.ref ta] : List Value).toArray s rmX7_areKindsOnce.cells rmX7_areKindsOnce.slots (zA f s.heap.size)) (F0 m 10 ls []) := by
    intro n
    induction n with
    | zero => intro sn i fL2 H locs ls hmz; exact absurd hmz (Nat.not_lt_zero _)
    | succ n ih =>
      intro sn i fL2 H locs ls hmz hi hs a4 k3 hz hS hl
      refine lv_iload hx hb dX7_areKindsOnce_10 (lv_at hl 4 rfl) ?_
      refine lv_iload_n hx hb dX7_areKindsOnce_12 rfl (lv_at hl 3 rfl) ?_
      refine lv_icmp_ge (tgt := 67) hx hb dX7_areKindsOnce_13 (by decide) (fun c5 => ?_) (fun c5 => ?_)
      · replace c5 : (4 ≤ i) := (nI_leI (a := 4) (b := i) (by omega) (by omega)).mp c5
        refine lv_iconst (v := 1) hx hb dX7_areKindsOnce_67 (by decide) ?_
        exact z_iret C hr (by decide) hz hS ⟨(by rw [if_pos (by rw [show (4 : Nat) = i by omega, hs]; rfl)]), (by
              intro b e hb 
              have hb0 : fL2 b = some e := k3 b e hb 
              exact hb0)⟩ (Nat.le_of_ble_eq_true rfl) (Nat.le_of_ble_eq_true rfl) dX7_areKindsOnce_68
      · replace c5 : ¬ (4 ≤ i) := fun h => c5 ((nI_leI (a := 4) (b := i) (by omega) (by omega)).mpr h)
        refine lv_aload_n hx hb dX7_areKindsOnce_16 rfl (lv_at hl 2 rfl) ?_
        refine lv_iload hx hb dX7_areKindsOnce_17 (lv_at hl 4 rfl) ?_
        refine z_iald i C hz a4 rfl (by omega) (by omega) dX7_areKindsOnce_19 ?_
        refine lv_istore (lv' := [(5, .int (g i)), (0, .ref ta), (1, .int sn), (2, .ref ta), (3, .int 4), (4, .int (nI i))]) hx hb dX7_areKindsOnce_20 hl (by decide) rfl (fun ls hl => ?_)
        refine lv_iload hx hb dX7_areKindsOnce_22 (lv_at hl 0 rfl) ?_
        refine lv_iconst (v := (-1)) hx hb dX7_areKindsOnce_24 (by decide) ?_
        refine lv_icmp_ne (tgt := 31) hx hb dX7_areKindsOnce_25 (by decide) (fun c6 => ?_) (fun c6 => ?_)
        · refine lv_iload hx hb dX7_areKindsOnce_31 (lv_at hl 0 rfl) ?_
          refine lv_if_lt (tgt := 52) hx hb dX7_areKindsOnce_33 (by decide) (fun c7 => ?_) (fun c7 => ?_)
          · refine lv_iconst (v := 0) hx hb dX7_areKindsOnce_52 (by decide) ?_
            exact z_iret C hr (by decide) hz hS ⟨(by rw [if_neg (zks_none4 (i := i) (by omega) (by simp [zks, hs, c6, c7]))]), (by
                  intro b e hb 
                  have hb0 : fL2 b = some e := k3 b e hb 
                  exact hb0)⟩ (Nat.le_of_ble_eq_true rfl) (Nat.le_of_ble_eq_true rfl) dX7_areKindsOnce_53
          · refine lv_iload hx hb dX7_areKindsOnce_36 (lv_at hl 0 rfl) ?_
            refine lv_bipush (v := 6) hx hb dX7_areKindsOnce_38 (by decide) ?_
            refine lv_icmp_gt (tgt := 52) hx hb dX7_areKindsOnce_40 (by decide) (fun c8 => ?_) (fun c8 => ?_)
            · refine lv_iconst (v := 0) hx hb dX7_areKindsOnce_52 (by decide) ?_
              exact z_iret C hr (by decide) hz hS ⟨(by rw [if_neg (zks_none4 (i := i) (by omega) (by simp [zks, hs, c6, c7, c8]))]), (by
                    intro b e hb 
                    have hb0 : fL2 b = some e := k3 b e hb 
                    exact hb0)⟩ (Nat.le_of_ble_eq_true rfl) (Nat.le_of_ble_eq_true rfl) dX7_areKindsOnce_53
            · refine lv_iload_n hx hb dX7_areKindsOnce_43 rfl (lv_at hl 2 rfl) ?_
              refine lv_iload hx hb dX7_areKindsOnce_44 (lv_at hl 0 rfl) ?_
              refine lv_ishr hx hb dX7_areKindsOnce_46 ?_
              refine lv_iconst (v := 1) hx hb dX7_areKindsOnce_47 (by decide) ?_
              refine lv_iand hx hb dX7_areKindsOnce_48 ?_
              refine lv_if_eq (tgt := 54) hx hb dX7_areKindsOnce_49 (by decide) (fun c9 => ?_) (fun c9 => ?_)
              · refine lv_iload_n hx hb dX7_areKindsOnce_54 rfl (lv_at hl 2 rfl) ?_
                refine lv_iconst (v := 1) hx hb dX7_areKindsOnce_55 (by decide) ?_
                refine lv_iload hx hb dX7_areKindsOnce_56 (lv_at hl 0 rfl) ?_
                refine lv_ishl hx hb dX7_areKindsOnce_58 ?_
                refine lv_ior hx hb dX7_areKindsOnce_59 ?_
                refine lv_istore_n (lv' := [(1, .int (sn ||| (1 <<< ((g i) &&& 31)))), (5, .int (g i)), (0, .ref ta), (2, .ref ta), (3, .int 4), (4, .int (nI i))]) hx hb dX7_areKindsOnce_60 rfl hl (by decide) rfl (fun ls hl => ?_)
                refine lv_iinc (v := nI (i + 1)) (lv' := [(4, .int (nI (i + 1))), (1, .int (sn ||| (1 <<< ((g i) &&& 31)))), (5, .int (g i)), (0, .ref ta), (2, .ref ta), (3, .int 4)]) hx hb dX7_areKindsOnce_61 hl (k := 5) rfl (nI_1 i) (by decide) rfl (fun ls hl => ?_)
                refine lv_goto (tgt := 10) hx hb dX7_areKindsOnce_64 (by decide) ?_
                exact ih (sn ||| (1 <<< ((g i) &&& 31))) (i + 1) _ _ _ _ (by omega) (by omega) (by simp [zks, hs, c6, c7, c8, c9]) a4 (by
                      intro b e hb 
                      have hb0 : fL2 b = some e := k3 b e hb 
                      exact hb0) hz hS (lv_sub hl [3, 1, 4, 5, 0] rfl)
              · refine lv_iconst (v := 0) hx hb dX7_areKindsOnce_52 (by decide) ?_
                exact z_iret C hr (by decide) hz hS ⟨(by rw [if_neg (zks_none4 (i := i) (by omega) (by simp [zks, hs, c6, c7, c8, c9]))]), (by
                      intro b e hb 
                      have hb0 : fL2 b = some e := k3 b e hb 
                      exact hb0)⟩ (Nat.le_of_ble_eq_true rfl) (Nat.le_of_ble_eq_true rfl) dX7_areKindsOnce_53
        · refine lv_goto (tgt := 61) hx hb dX7_areKindsOnce_28 (by decide) ?_
          refine lv_iinc (v := nI (i + 1)) (lv' := [(4, .int (nI (i + 1))), (5, .int (g i)), (0, .ref ta), (1, .int sn), (2, .ref ta), (3, .int 4)]) hx hb dX7_areKindsOnce_61 hl (k := 5) rfl (nI_1 i) (by decide) rfl (fun ls hl => ?_)
          refine lv_goto (tgt := 10) hx hb dX7_areKindsOnce_64 (by decide) ?_
          exact ih sn (i + 1) _ _ _ _ (by omega) (by omega) (by simp [zks, hs, c6]) a4 (by
                intro b e hb 
                have hb0 : fL2 b = some e := k3 b e hb 
                exact hb0) hz hS (lv_sub hl [2, 3, 4, 5, 0] rfl)
  exact lp1 (4 - 0 + 1) 0 0 _ _ _ _ (Nat.lt_succ_self _) (by omega) rfl p0 (fun b e hb => hb) hz hS (lv_sub hl [4, 3, 2, 1, 0] rfl)
abbrev rmX3_init : Room := { frames := 1, cells := 1, slots := 4, locals := 12 }
set_option maxHeartbeats 4000000 in
set_option maxRecDepth 100000 in
theorem k_X3_init (l : Launch) (D : va_G) (cy : Nat → ClassId) (f : zM) (h : Nat) (ta : Nat) (g : Nat → Int32) (p0 : f h = some (.inr (3, [.null, .int 0]))) (p1 : f ta = some (.inl (cy 0, 4, .inl g)))  : zCv l D cy yX3_init cX3_init 3 none rmX3_init [.ref h, .ref ta] f (fun (f1 : zM) => ∃ (kq : Nat) (zz : Nat), f1 h = some (.inr (3, [.ref kq, .int (nI zz)])) ∧ (∀ (b : Nat) (e : va_E), f b = some e → b ≠ h → f1 b = some e)) := by
  intro sz
  refine z_body (by decide +kernel) (Nat.le_of_ble_eq_true rfl) ?_
  intro p e s m below meth c ls C hr hin hsz hz hl
  subst hsz
  have hx := C.1
  have hb := C.2.1
  have hA : ∀ q, s.heap.size ≤ q → zA f s.heap.size q := fun q h => Or.inr h
  have hS : va_S (zA f s.heap.size) s.heap s.heap [] := va_S.rf
  have hl : lv_has ls 3 [(0, .ref h), (1, .ref ta)] := hl
  refine lv_aload_n hx hb dX3_init_0 rfl (lv_at hl 0 rfl) ?_
  refine z_objI C hl mMX3_3 (Nat.le_of_ble_eq_true rfl) (Nat.le_of_ble_eq_true rfl) dX3_init_1 ?_
  refine lv_aload_n hx hb dX3_init_4 rfl (lv_at hl 0 rfl) ?_
  refine lv_iconst (v := 4) hx hb dX3_init_5 (by decide) ?_
  refine z_newa (atype := .int) (t0 := 0) (N' := 4) (x := (.inl (fun _ => 0))) C hz hS hA rfl mA_int rfl (fun _ => rfl) (by decide) (Nat.le_of_ble_eq_true rfl) (by decide) (Nat.le_of_ble_eq_true rfl) (Nat.le_of_ble_eq_true rfl) dX3_init_6 (fun q1 H f3 u2 a4 k5 hz hS => ?_)
  have a6 : f3 h = some (.inr (3, [.null, .int 0])) := (k5 _ (z_nn u2 p0)).trans p0
  refine z_putF (fs' := [.ref q1, .int 0]) C hz hS a6 zl3 mFX3_11 (by decide) rfl hin rfl rfl rfl (Nat.le_of_ble_eq_true rfl) rfl dX3_init_8 (fun H locs f7 a8 k9 hz hS => ?_)
  refine lv_aload_n hx hb dX3_init_11 rfl (lv_at hl 0 rfl) ?_
  refine lv_iconst (v := 0) hx hb dX3_init_12 (by decide) ?_
  refine z_put (fs' := [.ref q1, .int 0]) C hz hS a8 zl3 mFX3_15 (by decide) rfl rfl rfl (Nat.le_of_ble_eq_true rfl) rfl dX3_init_13 (fun H locs f10 a11 k12 hz hS => ?_)
  refine lv_iconst (v := 0) hx hb dX3_init_16 (by decide) ?_
  refine lv_istore_n (lv' := [(2, .int 0), (0, .ref h), (1, .ref ta)]) hx hb dX3_init_17 rfl hl (by decide) rfl (fun ls hl => ?_)
  have lp13 : ∀ (n : Nat) (i : Nat) (z : Nat) (gz : Nat → Int32) (fL14 : zM) (H : Heap) (locs : List Loc) (ls : Array Slot), (4 - i) < n → (i ≤ 4) → (z ≤ 4) → fL14 h = some (.inr (3, [.ref q1, .int (nI z)])) → fL14 ta = some (.inl (cy 0, 4, .inl g)) → fL14 q1 = some (.inl (cy 0, 4, .inl gz)) → (∀ (b : Nat) (e : va_E), f10 b = some e → b ≠ h → b ≠ q1 → fL14 b = some e) → zH D (zA f s.heap.size) fL14 H → va_S (zA f s.heap.size) s.heap H locs → lv_has ls 3 [(0, .ref h), (1, .ref ta), (2, .int (nI i))] → W p l e rmX3_init s m ([.ref h, .ref ta] : List Value).toArray below meth c H locs 1 4 (MQ below (va_Qv (fun (f1 : zM) => ∃ (kq : Nat) (zz : Nat), f1 h = some (.inr (3, [.ref kq, .int (nI zz)])) ∧ (∀ (b : Nat) (e : va_E), f b = some e → b ≠ h → f1 b = some e)) (zB D f s.heap.size) (zA f s.heap.size)) ([.ref h, .ref ta] : List Value).toArray s rmX3_init.cells rmX3_init.slots (zA f s.heap.size)) (F0 m 18 ls []) := by
    intro n
    induction n with
    | zero => intro i z gz fL14 H locs ls hmz; exact absurd hmz (Nat.not_lt_zero _)
    | succ n ih =>
      intro i z gz fL14 H locs ls hmz hi hz4 a16 a17 a18 k15 hz hS hl
      refine lv_iload_n hx hb dX3_init_18 rfl (lv_at hl 2 rfl) ?_
      refine lv_aload_n hx hb dX3_init_19 rfl (lv_at hl 1 rfl) ?_
      refine z_alen (v := 4) 0 C hz a17 rfl rfl dX3_init_20 ?_
      refine lv_icmp_ge (tgt := 67) hx hb dX3_init_21 (by decide) (fun c19 => ?_) (fun c19 => ?_)
      · replace c19 : (4 ≤ i) := (nI_leI (a := 4) (b := i) (by omega) (by omega)).mp c19
        exact z_vret C hr hz hS ⟨q1, z, a16, (by
              intro b e hb n0
              have nn0 : b ≠ q1 := z_nn u2 hb
              have hb0 : f3 b = some e := (k5 b nn0).trans hb
              have hb1 : f7 b = some e := (k9 b n0).trans hb0
              have hb2 : f10 b = some e := (k12 b n0).trans hb1
              have hb3 : fL14 b = some e := k15 b e hb2 n0 nn0
              exact hb3)⟩ (Nat.le_of_ble_eq_true rfl) (Nat.le_of_ble_eq_true rfl) dX3_init_67
      · replace c19 : ¬ (4 ≤ i) := fun h => c19 ((nI_leI (a := 4) (b := i) (by omega) (by omega)).mpr h)
        refine lv_aload_n hx hb dX3_init_24 rfl (lv_at hl 0 rfl) ?_
        refine z_get (v := .int (nI z)) C hz a16 zl3 mFX3_15 (by decide) rfl dX3_init_25 ?_
        refine lv_iconst (v := 4) hx hb dX3_init_28 (by decide) ?_
        refine lv_icmp_ge (tgt := 67) hx hb dX3_init_29 (by decide) (fun c20 => ?_) (fun c20 => ?_)
        · replace c20 : (4 ≤ z) := (nI_leI (a := 4) (b := z) (by omega) (by omega)).mp c20
          exact z_vret C hr hz hS ⟨q1, z, a16, (by
                intro b e hb n0
                have nn0 : b ≠ q1 := z_nn u2 hb
                have hb0 : f3 b = some e := (k5 b nn0).trans hb
                have hb1 : f7 b = some e := (k9 b n0).trans hb0
                have hb2 : f10 b = some e := (k12 b n0).trans hb1
                have hb3 : fL14 b = some e := k15 b e hb2 n0 nn0
                exact hb3)⟩ (Nat.le_of_ble_eq_true rfl) (Nat.le_of_ble_eq_true rfl) dX3_init_67
        · replace c20 : ¬ (4 ≤ z) := fun h => c20 ((nI_leI (a := 4) (b := z) (by omega) (by omega)).mpr h)
          refine lv_aload_n hx hb dX3_init_32 rfl (lv_at hl 1 rfl) ?_
          refine lv_iload_n hx hb dX3_init_33 rfl (lv_at hl 2 rfl) ?_
          refine z_iald i C hz a17 rfl (by omega) (by omega) dX3_init_34 ?_
          refine lv_iconst (v := (-1)) hx hb dX3_init_35 (by decide) ?_
          refine lv_icmp_eq (tgt := 61) hx hb dX3_init_36 (by decide) (fun c21 => ?_) (fun c21 => ?_)
          · refine lv_iinc (v := nI (i + 1)) (lv' := [(2, .int (nI (i + 1))), (0, .ref h), (1, .ref ta)]) hx hb dX3_init_61 hl (k := 2) rfl (nI_1 i) (by decide) rfl (fun ls hl => ?_)
            refine lv_goto (tgt := 18) hx hb dX3_init_64 (by decide) ?_
            exact ih (i + 1) z gz _ _ _ _ (by omega) (by omega) (by omega) a16 a17 a18 (by
                  intro b e hb n0 n1
                  have hb3 : fL14 b = some e := k15 b e hb n0 n1
                  exact hb3) hz hS (lv_sub hl [1, 2, 0] rfl)
          · refine lv_aload_n hx hb dX3_init_39 rfl (lv_at hl 0 rfl) ?_
            refine z_get (v := .ref q1) C hz a16 zl3 mFX3_11 (by decide) rfl dX3_init_40 ?_
            refine lv_aload_n hx hb dX3_init_43 rfl (lv_at hl 0 rfl) ?_
            refine z_get (v := .int (nI z)) C hz a16 zl3 mFX3_15 (by decide) rfl dX3_init_44 ?_
            refine lv_aload_n hx hb dX3_init_47 rfl (lv_at hl 1 rfl) ?_
            refine lv_iload_n hx hb dX3_init_48 rfl (lv_at hl 2 rfl) ?_
            refine z_iald i C hz a17 rfl (by omega) (by omega) dX3_init_49 ?_
            refine z_iast z C hz hS a18 rfl (by omega) (by omega) dX3_init_50 (fun H locs f22 a23 k24 hz hS => ?_)
            refine lv_aload_n hx hb dX3_init_51 rfl (lv_at hl 0 rfl) ?_
            refine lv_dup hx hb dX3_init_52 rfl ?_
            have a25 : f22 h = some (.inr (3, [.ref q1, .int (nI z)])) := (k24 _ (z_nn u2 p0)).trans a16
            refine z_get (v := .int (nI z)) C hz a25 zl3 mFX3_15 (by decide) rfl dX3_init_53 ?_
            refine lv_iconst (v := 1) hx hb dX3_init_56 (by decide) ?_
            refine lv_iadd hx hb dX3_init_57 ?_
            refine lv_topi (fun y26 e27 => ?_)
            obtain rfl : y26 = nI (z + 1) := e27.trans (nI_1 z)
            refine z_put (fs' := [.ref q1, .int (nI (z + 1))]) C hz hS a25 zl3 mFX3_15 (by decide) rfl rfl rfl (Nat.le_of_ble_eq_true rfl) rfl dX3_init_58 (fun H locs f28 a29 k30 hz hS => ?_)
            refine lv_iinc (v := nI (i + 1)) (lv' := [(2, .int (nI (i + 1))), (0, .ref h), (1, .ref ta)]) hx hb dX3_init_61 hl (k := 2) rfl (nI_1 i) (by decide) rfl (fun ls hl => ?_)
            refine lv_goto (tgt := 18) hx hb dX3_init_64 (by decide) ?_
            have a31 : f28 q1 = some (.inl (cy 0, 4, .inl (upd gz z (g i)))) := (k30 _ (Ne.symm (z_nn u2 p0))).trans a23
            have a32 : f22 ta = some (.inl (cy 0, 4, .inl g)) := (k24 _ (z_nn u2 p1)).trans a17
            have a33 : f28 ta = some (.inl (cy 0, 4, .inl g)) := (k30 _ (z_ne a32 a25 rfl)).trans a32
            exact ih (i + 1) (z + 1) (upd gz z (g i)) _ _ _ _ (by omega) (by omega) (by omega) a29 a33 a31 (by
                  intro b e hb n0 n1
                  have hb3 : fL14 b = some e := k15 b e hb n0 n1
                  have hb4 : f22 b = some e := (k24 b n1).trans hb3
                  have hb5 : f28 b = some e := (k30 b n0).trans hb4
                  exact hb5) hz hS (lv_sub hl [1, 2, 0] rfl)
  have a34 : f7 q1 = some (.inl (cy 0, 4, .inl (fun _ => 0))) := (k9 _ (Ne.symm (z_nn u2 p0))).trans a4
  have a35 : f10 q1 = some (.inl (cy 0, 4, .inl (fun _ => 0))) := (k12 _ (Ne.symm (z_nn u2 p0))).trans a34
  have a36 : f3 ta = some (.inl (cy 0, 4, .inl g)) := (k5 _ (z_nn u2 p1)).trans p1
  have a37 : f7 ta = some (.inl (cy 0, 4, .inl g)) := (k9 _ (z_ne a36 a6 rfl)).trans a36
  have a38 : f10 ta = some (.inl (cy 0, 4, .inl g)) := (k12 _ (z_ne a37 a8 rfl)).trans a37
  exact lp13 (4 - 0 + 1) 0 0 (fun _ => 0) _ _ _ _ (Nat.lt_succ_self _) (by omega) (by omega) a11 a38 a35 (fun b e hb n0 n1 => hb) hz hS (lv_sub hl [1, 2, 0] rfl)
