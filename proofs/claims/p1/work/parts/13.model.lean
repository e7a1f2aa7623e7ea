theorem z_zast {p : Program} {l : Launch} {e : Env} {R : Room} {s : State} {m : MethodId} {args : Array Value} {below : List Frame} {meth : Method} {c : Code} {H : Heap} {locs : List Loc} {cells slots : Nat} {Q : State → Prop} {cc : ByteArray} {pc nL : Nat} {ls : Array Slot} {rest : List Value} {D : va_G} {cy : Nat → ClassId} {A : Nat → Prop} {f : zM} {a : Nat} {H0 : Heap} {own : String} {n : Nat} {g : Nat → Int32} {i : Int32} {x : Int32} (j : Nat) (C : zC D cy p s m args meth c own cc nL) (hz : zH D A f H) (hS : va_S A H0 H locs) (ha : f a = some (.inl (cy 2, n, .inl g))) (hi : i = nI j) (hj : j < n) (hn : n < 2 ^ 31) (hx : vp_nar .boolean x = x) (hdg : decode cc pc = .ok (.bastore, 1))
    (kk : ∀ (H1 : Heap) (locs1 : List Loc) (f1 : zM), f1 a = some (.inl (cy 2, n, .inl (upd g j x))) → (∀ b, b ≠ a → f1 b = f b) → zH D A f1 H1 → va_S A H0 H1 locs1 → W p l e R s m args below meth c H1 locs1 cells slots Q (F0 m (pc + 1) ls rest)) : W p l e R s m args below meth c H locs cells slots Q (F0 m pc ls (.int x :: .int i :: .ref a :: rest)) := by
  subst hi
  obtain ⟨ws, q0, hP, hD, hq, -, hb⟩ := z_set hz ha
  refine va_zast C.1 C.2.1 C.2.2.2.2.2.1 hP hD hS q0 2 hq rfl (vp_in_nI hj hn) hdg (fun H1 locs1 hP1 hD1 hS1 => ?_)
  refine kk H1 locs1 _ ?_ (fun b h => va_up_ne f _ h) (hb _ H1 hP1 hD1) hS1
  rw [nI_clamp (Nat.lt_trans hj hn), hx]
  exact va_up_self f a _
theorem z_m1lt {x : Int32} (h : x < (-1)) : ¬ x = (-1) ∧ x < 0 := by
  rw [Int32.lt_iff_toInt_lt] at h ⊢
  have e1 : (-1 : Int32).toInt = -1 := by decide
  have e0 : (0 : Int32).toInt = 0 := by decide
  rw [e1] at h
  rw [e0]
  exact ⟨fun q => by rw [q, e1] at h; omega, by omega⟩
theorem z_m1ge {x : Int32} (h : ¬ x < (-1)) (h1 : ¬ x = (-1)) : ¬ x < 0 := by
  rw [Int32.lt_iff_toInt_lt] at h ⊢
  have e1 : (-1 : Int32).toInt = -1 := by decide
  have e0 : (0 : Int32).toInt = 0 := by decide
  rw [e1] at h
  rw [e0]
  have : x.toInt ≠ -1 := fun q => h1 (Int32.toInt_inj.mp (by rw [q, e1]))
  omega
theorem z_6m1 {x : Int32} (h : 6 < x) : ¬ x = (-1) ∧ ¬ x < 0 := by
  rw [Int32.lt_iff_toInt_lt] at h
  have e6 : (6 : Int32).toInt = 6 := by decide
  rw [e6] at h
  constructor
  · rintro rfl
    have e1 : (-1 : Int32).toInt = -1 := by decide
    rw [e1] at h
    omega
  · rw [Int32.lt_iff_toInt_lt]
    have e0 : (0 : Int32).toInt = 0 := by decide
    rw [e0]
    omega
theorem z_bit1 (x : Int32) : x &&& 1 = 0 ∨ x &&& 1 = 1 := by
  obtain ⟨j, hj, e⟩ := pk_andE x (m := 1) 1 (by decide)
  rcases (show j = 0 ∨ j = 1 by omega) with rfl | rfl
  · exact Or.inl e
  · exact Or.inr e
section ZKS
variable {g : Nat → Int32} {i : Nat} {s : Int32}
theorem zks_lt (hs : zks g i = some s) (h : g i < (-1)) : zks g (i + 1) = none := by simp [zks, hs, (z_m1lt h).1, (z_m1lt h).2]
theorem zks_gt (hs : zks g i = some s) (h : 6 < g i) : zks g (i + 1) = none := by simp [zks, hs, (z_6m1 h).1, (z_6m1 h).2, h]
theorem zks_bit (hs : zks g i = some s) (h0 : ¬ g i = (-1)) (h : (s >>> (g i &&& 31)) &&& 1 = 1) : zks g (i + 1) = none := by simp [zks, hs, h0, h]
theorem zks_m1 (hs : zks g i = some s) (h : g i = (-1)) : zks g (i + 1) = some (s ||| 0) := by simp [zks, hs, h]
theorem zks_ok (hs : zks g i = some s) (h1 : ¬ g i < (-1)) (h6 : ¬ 6 < g i) (h0 : ¬ g i = (-1)) (h : ¬ (s >>> (g i &&& 31)) &&& 1 = 1) : zks g (i + 1) = some (s ||| (1 <<< (g i &&& 31))) := by
  have h2 : (s >>> (g i &&& 31)) &&& 1 = 0 := (z_bit1 _).resolve_right h
  simp [zks, hs, h0, z_m1ge h1 h0, h6, h2]
end ZKS
theorem zcount_eq (x : Int32) : (if x < 11 then (if x = 0 then 0 else if x = 1 then 0 else if x = 2 then 0 else if x = 3 then 0 else if x = 4 then 0 else (-2)) else if 17 < x then (if x = 0 then 0 else if x = 1 then 0 else if x = 2 then 0 else if x = 3 then 0 else if x = 4 then 0 else (-2)) else (0 : Int32)) = (if x = 0 then 0 else if x = 1 then 0 else if x = 2 then 0 else if x = 3 then 0 else if x = 4 then 0 else if x - 10 < 1 then (-2) else if 7 < x - 10 then (-2) else 0) := by
  have hlo := Int32.le_toInt x
  have hhi := Int32.toInt_lt x
  have e10 : (x - 10).toInt = (x.toInt - 10).bmod (2 ^ 32) := by
    rw [Int32.toInt_sub]
    rfl
  have e1 : (1 : Int32).toInt = 1 := by decide
  have e7 : (7 : Int32).toInt = 7 := by decide
  have e11 : (11 : Int32).toInt = 11 := by decide
  have e17 : (17 : Int32).toInt = 17 := by decide
  by_cases h0 : x = 0
  · subst h0; decide
  by_cases h1 : x = 1
  · subst h1; decide
  by_cases h2 : x = 2
  · subst h2; decide
  by_cases h3 : x = 3
  · subst h3; decide
  by_cases h4 : x = 4
  · subst h4; decide
  simp only [h0, h1, h2, h3, h4, if_false]
  have k1 : x < 11 ↔ x.toInt < 11 := by rw [Int32.lt_iff_toInt_lt, e11]
  have k2 : 17 < x ↔ 17 < x.toInt := by rw [Int32.lt_iff_toInt_lt, e17]
  have k3 : x - 10 < 1 ↔ (x.toInt - 10).bmod (2 ^ 32) < 1 := by rw [Int32.lt_iff_toInt_lt, e1, e10]
  have k4 : 7 < x - 10 ↔ 7 < (x.toInt - 10).bmod (2 ^ 32) := by rw [Int32.lt_iff_toInt_lt, e7, e10]
  have kb : (x.toInt - 10).bmod (2 ^ 32) = if x.toInt - 10 < -2147483648 then x.toInt - 10 + 4294967296 else x.toInt - 10 := by
    rw [Int.bmod_def]
    split <;> split <;> omega
  rw [kb] at k3 k4
  by_cases a : x < 11 <;> by_cases b : 17 < x <;> by_cases c : x - 10 < 1 <;> by_cases d : 7 < x - 10 <;> simp only [a, b, c, d, if_true, if_false] <;> exfalso <;> (have a' := a; have b' := b; have c' := c; have d' := d; rw [k1] at a'; rw [k2] at b'; rw [k3] at c'; rw [k4] at d'; split at c' <;> split at d' <;> omega)
abbrev rmX8_laid : Room := { frames := 0, cells := 0, slots := 0, locals := 0 }
set_option maxHeartbeats 4000000 in
set_option maxRecDepth 100000 in
theorem k_X8_laid (l : Launch) (D : va_G) (cy : Nat → ClassId) (f : zM) (o : Nat) (wev : Nat) (wnb : Nat) (wki : Nat) (wmy : Nat) (wce : Nat) (wiw : Nat) (wli : Nat) (wha : Nat) (wwt : Nat) (wfy : Nat) (wfk : Nat) (wem : Nat) (wna : Nat) (wpl : Nat) (whs : Nat) (wk1 : Nat) (wk2 : Nat) (wk3 : Nat) (x : Int32) (u1 : Int32) (u2 : Int32) (u3 : Int32) (p0 : f o = some (.inr (8, [.int u1, .int u2, .int u3, .ref wev, .int 0, .ref wnb, .int 0, .ref wki, .ref wmy, .ref wce, .ref wiw, .ref wli, .ref wha, .ref wwt, .int 0, .ref wfy, .ref wfk, .int 0, .ref wem, .ref wna, .ref wpl, .ref whs, .long 1, .int 0, .ref wk1, .ref wk2, .ref wk3]))) (hx0 : 0 ≤ x) : zCi l D cy yX8_laid cX8_laid 2 (Option.some Jvm.ClassFile.FieldType.int) rmX8_laid [.ref o, .int x] f (fun (r : Int32) (f1 : zM) => r = 0 ∧ (∀ (b : Nat) (e : va_E), f b = some e → f1 b = some e)) := by
  intro sz
  refine z_body (by decide +kernel) (Nat.le_of_ble_eq_true rfl) ?_
  intro p e s m below meth c ls C hr hin hsz hz hl
  subst hsz
  have hx := C.1
  have hb := C.2.1
  have hA : ∀ q, s.heap.size ≤ q → zA f s.heap.size q := fun q h => Or.inr h
  have hS : va_S (zA f s.heap.size) s.heap s.heap [] := va_S.rf
  have hl : lv_has ls 2 [(0, .ref o), (1, .int x)] := hl
  refine lv_iload_n hx hb dX8_laid_0 rfl (lv_at hl 1 rfl) ?_
  refine lv_aload_n hx hb dX8_laid_1 rfl (lv_at hl 0 rfl) ?_
  refine z_get (v := .int 0) C hz p0 zl8 mFX8_80 (by decide) rfl dX8_laid_2 ?_
  refine lv_icmp_ge (tgt := 17) hx hb dX8_laid_5 (by decide) (fun c1 => ?_) (fun c1 => ?_)
  rotate_left
  · exact absurd hx0 c1
  refine lv_iconst (v := 0) hx hb dX8_laid_17 (by decide) ?_
  exact z_iret C hr rfl hz hS ⟨rfl, (fun b e hb => hb)⟩ (Nat.le_of_ble_eq_true rfl) (Nat.le_of_ble_eq_true rfl) dX8_laid_18
abbrev rmX8_row : Room := { frames := 3, cells := 0, slots := 0, locals := 67 }
set_option maxHeartbeats 4000000 in
set_option maxRecDepth 100000 in
theorem k_X8_row (l : Launch) (D : va_G) (cy : Nat → ClassId) (f : zM) (o : Nat) (wev : Nat) (wnb : Nat) (wki : Nat) (wmy : Nat) (wce : Nat) (wiw : Nat) (wli : Nat) (wha : Nat) (wwt : Nat) (wfy : Nat) (wfk : Nat) (wem : Nat) (wna : Nat) (wpl : Nat) (whs : Nat) (wk1 : Nat) (wk2 : Nat) (wk3 : Nat) (x : Int32) (y : Int32) (gk : Nat → Int32) (gm : Nat → Int32) (gc : Nat → Int64) (gl : Nat → Int32) (gh : Nat → Int32) (g : Nat → Int32) (p0 : f o = some (.inr (8, [.int 0, .int (-1), .int 0, .ref wev, .int 0, .ref wnb, .int 0, .ref wki, .ref wmy, .ref wce, .ref wiw, .ref wli, .ref wha, .ref wwt, .int 0, .ref wfy, .ref wfk, .int 0, .ref wem, .ref wna, .ref wpl, .ref whs, .long 1, .int 0, .ref wk1, .ref wk2, .ref wk3]))) (p1 : f wki = some (.inl (cy 0, 60, .inl gk))) (p2 : f wmy = some (.inl (cy 0, 60, .inl gm))) (p3 : f wce = some (.inl (cy 1, 960, .inr (.inl gc)))) (p4 : f wli = some (.inl (cy 0, 60, .inl gl))) (p5 : f wha = some (.inl (cy 0, 60, .inl gh))) (p6 : f wev = some (.inl (cy 0, 8, .inl g))) (nkm : wki ≠ wmy) (nlh : wli ≠ wha) (nkl : wki ≠ wli) (nkh : wki ≠ wha) (nml : wmy ≠ wli) (nmh : wmy ≠ wha) : zCi l D cy yX8_row cX8_row 4 (Option.some Jvm.ClassFile.FieldType.int) rmX8_row [.ref o, .int x, .int y] f (fun (r : Int32) (f1 : zM) => r = (if x ≤ 12 then (if 0 ≤ x then (if y < 0 then (-4) else if y < x then 0 else (-4)) else (-4)) else (-2))) := by
  intro sz
  refine z_body (by decide +kernel) (Nat.le_of_ble_eq_true rfl) ?_
  intro p e s m below meth c ls C hr hin hsz hz hl
  subst hsz
  have hx := C.1
  have hb := C.2.1
  have hA : ∀ q, s.heap.size ≤ q → zA f s.heap.size q := fun q h => Or.inr h
  have hS : va_S (zA f s.heap.size) s.heap s.heap [] := va_S.rf
  have hl : lv_has ls 4 [(0, .ref o), (1, .int x), (2, .int y)] := hl
  refine lv_aload_n hx hb dX8_row_0 rfl (lv_at hl 0 rfl) ?_
  refine z_callVv (As := []) C hz hS hA hl (k_X8_begin l D cy f o wev wnb wki wmy wce wiw wli wha wwt wfy wfk wem wna wpl whs wk1 wk2 wk3 0 (-1) 0 p0 ) zyX8_begin mMX8_116 p0 zl8 rfl rfl (Nat.le_of_ble_eq_true rfl) ⟨Nat.le_of_ble_eq_true rfl, Nat.le_of_ble_eq_true rfl⟩ ⟨Nat.le_of_ble_eq_true rfl, Nat.le_of_ble_eq_true rfl⟩ dX8_row_1 (fun  f1 H locs h2 hz hS => ?_)
  obtain ⟨a3, k4⟩ := h2
  refine lv_iload_n hx hb dX8_row_4 rfl (lv_at hl 1 rfl) ?_
  refine lv_bipush (v := 12) hx hb dX8_row_5 (by decide) ?_
  refine lv_icmp_le (tgt := 13) hx hb dX8_row_7 (by decide) (fun c5 => ?_) (fun c5 => ?_)
  · refine lv_aload_n hx hb dX8_row_13 rfl (lv_at hl 0 rfl) ?_
    refine z_get (v := .int 0) C hz a3 zl8 mFX8_83 (by decide) rfl dX8_row_14 ?_
    refine lv_bipush (v := 60) hx hb dX8_row_17 (by decide) ?_
    refine lv_icmp_ne (tgt := 25) hx hb dX8_row_19 (by decide) (fun c6 => ?_) (fun c6 => ?_)
    rotate_left
    · exact absurd c6 (by decide)
    refine lv_iload_n hx hb dX8_row_25 rfl (lv_at hl 1 rfl) ?_
    refine lv_if_ge (tgt := 37) hx hb dX8_row_26 (by decide) (fun c7 => ?_) (fun c7 => ?_)
    · refine lv_iload_n hx hb dX8_row_37 rfl (lv_at hl 2 rfl) ?_
      refine lv_if_lt (tgt := 46) hx hb dX8_row_38 (by decide) (fun c8 => ?_) (fun c8 => ?_)
      · refine lv_aload_n hx hb dX8_row_46 rfl (lv_at hl 0 rfl) ?_
        refine lv_iconst (v := 2) hx hb dX8_row_47 (by decide) ?_
        refine lv_iconst (v := 1) hx hb dX8_row_48 (by decide) ?_
        refine lv_iconst (v := 0) hx hb dX8_row_49 (by decide) ?_
        have a9 : f1 wev = some (.inl (cy 0, 8, .inl g)) := k4 _ _ p6 (z_ne p6 p0 rfl)
        refine z_callVi (As := [.int 2, .int 1, .int 0]) C hz hS hA hl (k_X8_fails l D cy f1 o wev wnb wki wmy wce wiw wli wha wwt wfy wfk wem wna wpl whs wk1 wk2 wk3 2 1 0 0 (-1) 0 g 2 a3 a9 (by decide) (Nat.le_of_ble_eq_true rfl)) zyX8_fails mMX8_135 a3 zl8 rfl rfl (Nat.le_of_ble_eq_true rfl) ⟨Nat.le_of_ble_eq_true rfl, Nat.le_of_ble_eq_true rfl⟩ ⟨Nat.le_of_ble_eq_true rfl, Nat.le_of_ble_eq_true rfl⟩ dX8_row_50 (fun r f10 H locs h11 hz hS => ?_)
        obtain ⟨rfl, k12⟩ := h11
        exact z_iret C hr rfl hz hS (by simp [c5, c6, c7, c8]) (Nat.le_of_ble_eq_true rfl) (Nat.le_of_ble_eq_true rfl) dX8_row_53
      · refine lv_iload_n hx hb dX8_row_41 rfl (lv_at hl 2 rfl) ?_
        refine lv_iload_n hx hb dX8_row_42 rfl (lv_at hl 1 rfl) ?_
        refine lv_icmp_lt (tgt := 54) hx hb dX8_row_43 (by decide) (fun c13 => ?_) (fun c13 => ?_)
        · obtain ⟨t, ht, hxt⟩ := z_ixn (n := 12) (by decide) c7 c5
          refine lv_aload_n hx hb dX8_row_54 rfl (lv_at hl 0 rfl) ?_
          refine lv_iconst (v := 5) hx hb dX8_row_55 (by decide) ?_
          have a14 : f1 wki = some (.inl (cy 0, 60, .inl gk)) := k4 _ _ p1 (z_ne p1 p0 rfl)
          have a15 : f1 wmy = some (.inl (cy 0, 60, .inl gm)) := k4 _ _ p2 (z_ne p2 p0 rfl)
          refine z_callVv (As := [.int 5]) C hz hS hA hl (k_X8_start l D cy f1 o wev wnb wki wmy wce wiw wli wha wwt wfy wfk wem wna wpl whs wk1 wk2 wk3 5 0 (-1) 0 gk gm a3 a14 a15 nkm) zyX8_start mMX8_119 a3 zl8 rfl rfl (Nat.le_of_ble_eq_true rfl) ⟨Nat.le_of_ble_eq_true rfl, Nat.le_of_ble_eq_true rfl⟩ ⟨Nat.le_of_ble_eq_true rfl, Nat.le_of_ble_eq_true rfl⟩ dX8_row_56 (fun  f16 H locs h17 hz hS => ?_)
          obtain ⟨a18, a19, k20⟩ := h17
          refine lv_aload_n hx hb dX8_row_59 rfl (lv_at hl 0 rfl) ?_
          refine lv_iload_n hx hb dX8_row_60 rfl (lv_at hl 1 rfl) ?_
          refine lv_i2l (v := x.toInt64) hx hb dX8_row_61 rfl ?_
          have a21 : f16 o = some (.inr (8, [.int 0, .int (-1), .int 0, .ref wev, .int 0, .ref wnb, .int 0, .ref wki, .ref wmy, .ref wce, .ref wiw, .ref wli, .ref wha, .ref wwt, .int 0, .ref wfy, .ref wfk, .int 0, .ref wem, .ref wna, .ref wpl, .ref whs, .long 1, .int 0, .ref wk1, .ref wk2, .ref wk3])) := k20 _ _ a3 (z_ne a3 a14 rfl) (z_ne a3 a15 rfl)
          have a22 : f1 wce = some (.inl (cy 1, 960, .inr (.inl gc))) := k4 _ _ p3 (z_ne p3 p0 rfl)
          have a23 : f16 wce = some (.inl (cy 1, 960, .inr (.inl gc))) := k20 _ _ a22 (z_ne a22 a14 rfl) (z_ne a22 a15 rfl)
          refine z_callVv (As := [.long x.toInt64]) C hz hS hA hl (k_X8_part l D cy f16 o wev wnb wki wmy wce wiw wli wha wwt wfy wfk wem wna wpl whs wk1 wk2 wk3 x.toInt64 0 (-1) 0 gc (upd gm 0 0) 0 a21 a23 a19 pk_us (Nat.le_of_ble_eq_true rfl)) zyX8_part mMX8_127 a21 zl8 rfl rfl (Nat.le_of_ble_eq_true rfl) ⟨Nat.le_of_ble_eq_true rfl, Nat.le_of_ble_eq_true rfl⟩ ⟨Nat.le_of_ble_eq_true rfl, Nat.le_of_ble_eq_true rfl⟩ dX8_row_62 (fun  f24 H locs h25 hz hS => ?_)
          obtain ⟨a26, a27, k28⟩ := h25
          refine lv_aload_n hx hb dX8_row_65 rfl (lv_at hl 0 rfl) ?_
          refine lv_iload_n hx hb dX8_row_66 rfl (lv_at hl 2 rfl) ?_
          refine lv_i2l (v := y.toInt64) hx hb dX8_row_67 rfl ?_
          have a29 : f24 o = some (.inr (8, [.int 0, .int (-1), .int 0, .ref wev, .int 0, .ref wnb, .int 0, .ref wki, .ref wmy, .ref wce, .ref wiw, .ref wli, .ref wha, .ref wwt, .int 0, .ref wfy, .ref wfk, .int 0, .ref wem, .ref wna, .ref wpl, .ref whs, .long 1, .int 0, .ref wk1, .ref wk2, .ref wk3])) := k28 _ _ a21 (z_ne a21 a23 rfl) (z_ne a21 a19 rfl)
          refine z_callVv (As := [.long y.toInt64]) C hz hS hA hl (k_X8_part l D cy f24 o wev wnb wki wmy wce wiw wli wha wwt wfy wfk wem wna wpl whs wk1 wk2 wk3 y.toInt64 0 (-1) 0 (vp_updL gc 0 x.toInt64) (upd (upd gm 0 0) 0 (nI (0 + 1))) 1 a29 a26 a27 pk_us (Nat.le_of_ble_eq_true rfl)) zyX8_part mMX8_127 a29 zl8 rfl rfl (Nat.le_of_ble_eq_true rfl) ⟨Nat.le_of_ble_eq_true rfl, Nat.le_of_ble_eq_true rfl⟩ ⟨Nat.le_of_ble_eq_true rfl, Nat.le_of_ble_eq_true rfl⟩ dX8_row_68 (fun  f30 H locs h31 hz hS => ?_)
          obtain ⟨a32, a33, k34⟩ := h31
          refine lv_aload_n hx hb dX8_row_71 rfl (lv_at hl 0 rfl) ?_
          refine lv_aload_n hx hb dX8_row_72 rfl (lv_at hl 0 rfl) ?_
          refine lv_iload_n hx hb dX8_row_73 rfl (lv_at hl 2 rfl) ?_
          have a35 : f30 o = some (.inr (8, [.int 0, .int (-1), .int 0, .ref wev, .int 0, .ref wnb, .int 0, .ref wki, .ref wmy, .ref wce, .ref wiw, .ref wli, .ref wha, .ref wwt, .int 0, .ref wfy, .ref wfk, .int 0, .ref wem, .ref wna, .ref wpl, .ref whs, .long 1, .int 0, .ref wk1, .ref wk2, .ref wk3])) := k34 _ _ a29 (z_ne a29 a26 rfl) (z_ne a29 a27 rfl)
          refine z_callVi (As := [.int y]) C hz hS hA hl (k_X8_laid l D cy f30 o wev wnb wki wmy wce wiw wli wha wwt wfy wfk wem wna wpl whs wk1 wk2 wk3 y 0 (-1) 0 a35 (Int32.not_lt.mp c8)) zyX8_laid mMX8_142 a35 zl8 rfl rfl (Nat.le_of_ble_eq_true rfl) ⟨Nat.le_of_ble_eq_true rfl, Nat.le_of_ble_eq_true rfl⟩ ⟨Nat.le_of_ble_eq_true rfl, Nat.le_of_ble_eq_true rfl⟩ dX8_row_74 (fun r f36 H locs h37 hz hS => ?_)
          obtain ⟨rfl, k38⟩ := h37
          refine lv_i2l (v := (0 : Int32).toInt64) hx hb dX8_row_77 rfl ?_
          have a39 : f36 o = some (.inr (8, [.int 0, .int (-1), .int 0, .ref wev, .int 0, .ref wnb, .int 0, .ref wki, .ref wmy, .ref wce, .ref wiw, .ref wli, .ref wha, .ref wwt, .int 0, .ref wfy, .ref wfk, .int 0, .ref wem, .ref wna, .ref wpl, .ref whs, .long 1, .int 0, .ref wk1, .ref wk2, .ref wk3])) := k38 _ _ a35 
          have a40 : f36 wce = some (.inl (cy 1, 960, .inr (.inl (vp_updL (vp_updL gc 0 x.toInt64) 1 y.toInt64)))) := k38 _ _ a32 
          have a41 : f36 wmy = some (.inl (cy 0, 60, .inl (upd (upd (upd gm 0 0) 0 (nI (0 + 1))) 0 (nI (1 + 1))))) := k38 _ _ a33 
          refine z_callVv (As := [.long ((0 : Int32).toInt64)]) C hz hS hA hl (k_X8_part l D cy f36 o wev wnb wki wmy wce wiw wli wha wwt wfy wfk wem wna wpl whs wk1 wk2 wk3 ((0 : Int32).toInt64) 0 (-1) 0 (vp_updL (vp_updL gc 0 x.toInt64) 1 y.toInt64) (upd (upd (upd gm 0 0) 0 (nI (0 + 1))) 0 (nI (1 + 1))) 2 a39 a40 a41 pk_us (Nat.le_of_ble_eq_true rfl)) zyX8_part mMX8_127 a39 zl8 rfl rfl (Nat.le_of_ble_eq_true rfl) ⟨Nat.le_of_ble_eq_true rfl, Nat.le_of_ble_eq_true rfl⟩ ⟨Nat.le_of_ble_eq_true rfl, Nat.le_of_ble_eq_true rfl⟩ dX8_row_78 (fun  f42 H locs h43 hz hS => ?_)
          obtain ⟨a44, a45, k46⟩ := h43
          refine lv_iconst (v := 0) hx hb dX8_row_81 (by decide) ?_
          refine lv_istore_n (lv' := [(3, .int 0), (0, .ref o), (1, .int x), (2, .int y)]) hx hb dX8_row_82 rfl hl (by decide) rfl (fun ls hl => ?_)
          have lp47 : ∀ (n : Nat) (i : Nat) (gcv : Nat → Int64) (gmv : Nat → Int32) (fL48 : zM) (H : Heap) (locs : List Loc) (ls : Array Slot), (t - i) < n → (i ≤ t) → (gmv 0 = nI (3 + i)) → fL48 wce = some (.inl (cy 1, 960, .inr (.inl gcv))) → fL48 wmy = some (.inl (cy 0, 60, .inl gmv)) → (∀ (b : Nat) (e : va_E), f42 b = some e → b ≠ wce → b ≠ wmy → fL48 b = some e) → zH D (zA f s.heap.size) fL48 H → va_S (zA f s.heap.size) s.heap H locs → lv_has ls 4 [(0, .ref o), (1, .int x), (3, .int (nI i))] → W p l e rmX8_row s m ([.ref o, .int x, .int y] : List Value).toArray below meth c H locs 0 0 (MQ below (va_Qi (fun (r : Int32) (f1 : zM) => r = (if x ≤ 12 then (if 0 ≤ x then (if y < 0 then (-4) else if y < x then 0 else (-4)) else (-4)) else (-2))) (zB D f s.heap.size) (zA f s.heap.size)) ([.ref o, .int x, .int y] : List Value).toArray s rmX8_row.cells rmX8_row.slots (zA f s.heap.size)) (F0 m 83 ls []) := by
            intro n
            induction n with
            | zero => intro i gcv gmv fL48 H locs ls hmz; exact absurd hmz (Nat.not_lt_zero _)
            | succ n ih =>
              intro i gcv gmv fL48 H locs ls hmz hi hgm a50 a51 k49 hz hS hl
              refine lv_iload_n hx hb dX8_row_83 rfl (lv_at hl 2 rfl) ?_
              refine lv_iload_n hx hb dX8_row_84 rfl (lv_at hl 1 rfl) ?_
              refine lv_icmp_ge (tgt := 104) hx hb dX8_row_85 (by decide) (fun c52 => ?_) (fun c52 => ?_)
              · refine lv_aload_n hx hb dX8_row_104 rfl (lv_at hl 0 rfl) ?_
                have a53 : f42 o = some (.inr (8, [.int 0, .int (-1), .int 0, .ref wev, .int 0, .ref wnb, .int 0, .ref wki, .ref wmy, .ref wce, .ref wiw, .ref wli, .ref wha, .ref wwt, .int 0, .ref wfy, .ref wfk, .int 0, .ref wem, .ref wna, .ref wpl, .ref whs, .long 1, .int 0, .ref wk1, .ref wk2, .ref wk3])) := k46 _ _ a39 (z_ne a39 a40 rfl) (z_ne a39 a41 rfl)
                have a54 : fL48 o = some (.inr (8, [.int 0, .int (-1), .int 0, .ref wev, .int 0, .ref wnb, .int 0, .ref wki, .ref wmy, .ref wce, .ref wiw, .ref wli, .ref wha, .ref wwt, .int 0, .ref wfy, .ref wfk, .int 0, .ref wem, .ref wna, .ref wpl, .ref whs, .long 1, .int 0, .ref wk1, .ref wk2, .ref wk3])) := k49 _ _ a53 (z_ne a53 a44 rfl) (z_ne a53 a45 rfl)
                have a55 : f24 wki = some (.inl (cy 0, 60, .inl (upd gk 0 5))) := k28 _ _ a18 (z_ne a18 a23 rfl) nkm
                have a56 : f30 wki = some (.inl (cy 0, 60, .inl (upd gk 0 5))) := k34 _ _ a55 (z_ne a55 a26 rfl) nkm
                have a57 : f36 wki = some (.inl (cy 0, 60, .inl (upd gk 0 5))) := k38 _ _ a56 
                have a58 : f42 wki = some (.inl (cy 0, 60, .inl (upd gk 0 5))) := k46 _ _ a57 (z_ne a57 a40 rfl) nkm
                have a59 : fL48 wki = some (.inl (cy 0, 60, .inl (upd gk 0 5))) := k49 _ _ a58 (z_ne a58 a44 rfl) nkm
                have a60 : f1 wli = some (.inl (cy 0, 60, .inl gl)) := k4 _ _ p4 (z_ne p4 p0 rfl)
                have a61 : f16 wli = some (.inl (cy 0, 60, .inl gl)) := k20 _ _ a60 (Ne.symm nkl) (Ne.symm nml)
                have a62 : f24 wli = some (.inl (cy 0, 60, .inl gl)) := k28 _ _ a61 (z_ne a61 a23 rfl) (Ne.symm nml)
                have a63 : f30 wli = some (.inl (cy 0, 60, .inl gl)) := k34 _ _ a62 (z_ne a62 a26 rfl) (Ne.symm nml)
                have a64 : f36 wli = some (.inl (cy 0, 60, .inl gl)) := k38 _ _ a63 
                have a65 : f42 wli = some (.inl (cy 0, 60, .inl gl)) := k46 _ _ a64 (z_ne a64 a40 rfl) (Ne.symm nml)
                have a66 : fL48 wli = some (.inl (cy 0, 60, .inl gl)) := k49 _ _ a65 (z_ne a65 a44 rfl) (Ne.symm nml)
                have a67 : f1 wha = some (.inl (cy 0, 60, .inl gh)) := k4 _ _ p5 (z_ne p5 p0 rfl)
                have a68 : f16 wha = some (.inl (cy 0, 60, .inl gh)) := k20 _ _ a67 (Ne.symm nkh) (Ne.symm nmh)
                have a69 : f24 wha = some (.inl (cy 0, 60, .inl gh)) := k28 _ _ a68 (z_ne a68 a23 rfl) (Ne.symm nmh)
                have a70 : f30 wha = some (.inl (cy 0, 60, .inl gh)) := k34 _ _ a69 (z_ne a69 a26 rfl) (Ne.symm nmh)
                have a71 : f36 wha = some (.inl (cy 0, 60, .inl gh)) := k38 _ _ a70 
                have a72 : f42 wha = some (.inl (cy 0, 60, .inl gh)) := k46 _ _ a71 (z_ne a71 a40 rfl) (Ne.symm nmh)
                have a73 : fL48 wha = some (.inl (cy 0, 60, .inl gh)) := k49 _ _ a72 (z_ne a72 a44 rfl) (Ne.symm nmh)
                refine z_callVi (As := []) C hz hS hA hl (k_X8_made l D cy fL48 o wev wnb wki wmy wce wiw wli wha wwt wfy wfk wem wna wpl whs wk1 wk2 wk3 0 (-1) 0 (upd gk 0 5) gmv gcv gl gh (3 + i) a54 a59 a51 a50 a66 a73 (by rw [pk_us]; decide) hgm (by omega) nlh nkl nkh nml nmh) zyX8_made mMX8_131 a54 zl8 rfl rfl (Nat.le_of_ble_eq_true rfl) ⟨Nat.le_of_ble_eq_true rfl, Nat.le_of_ble_eq_true rfl⟩ ⟨Nat.le_of_ble_eq_true rfl, Nat.le_of_ble_eq_true rfl⟩ dX8_row_105 (fun r f74 H locs h75 hz hS => ?_)
                obtain ⟨rfl, k76⟩ := h75
                exact z_iret C hr rfl hz hS (by simp [c5, c6, c7, c8, c13, c52]) (Nat.le_of_ble_eq_true rfl) (Nat.le_of_ble_eq_true rfl) dX8_row_108
              · replace c52 : i < t := by rw [hxt] at c52; exact Nat.not_le.mp (fun h => c52 ((nI_leI (by omega) (by omega)).mpr h))
                refine lv_aload_n hx hb dX8_row_88 rfl (lv_at hl 0 rfl) ?_
                refine lv_aload_n hx hb dX8_row_89 rfl (lv_at hl 0 rfl) ?_
                refine lv_iload_n hx hb dX8_row_90 rfl (lv_at hl 2 rfl) ?_
                have a77 : f42 o = some (.inr (8, [.int 0, .int (-1), .int 0, .ref wev, .int 0, .ref wnb, .int 0, .ref wki, .ref wmy, .ref wce, .ref wiw, .ref wli, .ref wha, .ref wwt, .int 0, .ref wfy, .ref wfk, .int 0, .ref wem, .ref wna, .ref wpl, .ref whs, .long 1, .int 0, .ref wk1, .ref wk2, .ref wk3])) := k46 _ _ a39 (z_ne a39 a40 rfl) (z_ne a39 a41 rfl)
                have a78 : fL48 o = some (.inr (8, [.int 0, .int (-1), .int 0, .ref wev, .int 0, .ref wnb, .int 0, .ref wki, .ref wmy, .ref wce, .ref wiw, .ref wli, .ref wha, .ref wwt, .int 0, .ref wfy, .ref wfk, .int 0, .ref wem, .ref wna, .ref wpl, .ref whs, .long 1, .int 0, .ref wk1, .ref wk2, .ref wk3])) := k49 _ _ a77 (z_ne a77 a44 rfl) (z_ne a77 a45 rfl)
                refine z_callVi (As := [.int (nI i)]) C hz hS hA hl (k_X8_laid l D cy fL48 o wev wnb wki wmy wce wiw wli wha wwt wfy wfk wem wna wpl whs wk1 wk2 wk3 (nI i) 0 (-1) 0 a78 (nI_pos' (by omega))) zyX8_laid mMX8_142 a78 zl8 rfl rfl (Nat.le_of_ble_eq_true rfl) ⟨Nat.le_of_ble_eq_true rfl, Nat.le_of_ble_eq_true rfl⟩ ⟨Nat.le_of_ble_eq_true rfl, Nat.le_of_ble_eq_true rfl⟩ dX8_row_91 (fun r f79 H locs h80 hz hS => ?_)
                obtain ⟨rfl, k81⟩ := h80
                refine lv_i2l (v := (0 : Int32).toInt64) hx hb dX8_row_94 rfl ?_
                have a82 : f79 o = some (.inr (8, [.int 0, .int (-1), .int 0, .ref wev, .int 0, .ref wnb, .int 0, .ref wki, .ref wmy, .ref wce, .ref wiw, .ref wli, .ref wha, .ref wwt, .int 0, .ref wfy, .ref wfk, .int 0, .ref wem, .ref wna, .ref wpl, .ref whs, .long 1, .int 0, .ref wk1, .ref wk2, .ref wk3])) := k81 _ _ a78 
                have a83 : f79 wce = some (.inl (cy 1, 960, .inr (.inl gcv))) := k81 _ _ a50 
                have a84 : f79 wmy = some (.inl (cy 0, 60, .inl gmv)) := k81 _ _ a51 
                refine z_callVv (As := [.long ((0 : Int32).toInt64)]) C hz hS hA hl (k_X8_part l D cy f79 o wev wnb wki wmy wce wiw wli wha wwt wfy wfk wem wna wpl whs wk1 wk2 wk3 ((0 : Int32).toInt64) 0 (-1) 0 gcv gmv (3 + i) a82 a83 a84 hgm (by omega)) zyX8_part mMX8_127 a82 zl8 rfl rfl (Nat.le_of_ble_eq_true rfl) ⟨Nat.le_of_ble_eq_true rfl, Nat.le_of_ble_eq_true rfl⟩ ⟨Nat.le_of_ble_eq_true rfl, Nat.le_of_ble_eq_true rfl⟩ dX8_row_95 (fun  f85 H locs h86 hz hS => ?_)
                obtain ⟨a87, a88, k89⟩ := h86
                refine lv_iinc (v := nI (i + 1)) (lv' := [(3, .int (nI (i + 1))), (0, .ref o), (1, .int x)]) hx hb dX8_row_98 hl (k := 2) rfl (nI_1 i) (by decide) rfl (fun ls hl => ?_)
                refine lv_goto (tgt := 83) hx hb dX8_row_101 (by decide) ?_
                exact ih (i + 1) (vp_updL gcv (3 + i) ((0 : Int32).toInt64)) (upd gmv 0 (nI ((3 + i) + 1))) _ _ _ _ (by omega) (by omega) pk_us a87 a88 (by
                      intro b e hb n0 n1
                      have hb6 : fL48 b = some e := k49 b e hb n0 n1
                      have hb7 : f79 b = some e := k81 b e hb6 
                      have hb8 : f85 b = some e := k89 b e hb7 n0 n1
                      exact hb8) hz hS (lv_sub hl [1, 2, 0] rfl)
          exact lp47 (t - 0 + 1) 0 (vp_updL (vp_updL (vp_updL gc 0 x.toInt64) 1 y.toInt64) 2 ((0 : Int32).toInt64)) (upd (upd (upd (upd gm 0 0) 0 (nI (0 + 1))) 0 (nI (1 + 1))) 0 (nI (2 + 1))) _ _ _ _ (Nat.lt_succ_self _) (by omega) pk_us a44 a45 (fun b e hb n0 n1 => hb) hz hS (lv_sub hl [1, 2, 0] rfl)
        · refine lv_aload_n hx hb dX8_row_46 rfl (lv_at hl 0 rfl) ?_
          refine lv_iconst (v := 2) hx hb dX8_row_47 (by decide) ?_
          refine lv_iconst (v := 1) hx hb dX8_row_48 (by decide) ?_
          refine lv_iconst (v := 0) hx hb dX8_row_49 (by decide) ?_
          have a90 : f1 wev = some (.inl (cy 0, 8, .inl g)) := k4 _ _ p6 (z_ne p6 p0 rfl)
          refine z_callVi (As := [.int 2, .int 1, .int 0]) C hz hS hA hl (k_X8_fails l D cy f1 o wev wnb wki wmy wce wiw wli wha wwt wfy wfk wem wna wpl whs wk1 wk2 wk3 2 1 0 0 (-1) 0 g 2 a3 a90 (by decide) (Nat.le_of_ble_eq_true rfl)) zyX8_fails mMX8_135 a3 zl8 rfl rfl (Nat.le_of_ble_eq_true rfl) ⟨Nat.le_of_ble_eq_true rfl, Nat.le_of_ble_eq_true rfl⟩ ⟨Nat.le_of_ble_eq_true rfl, Nat.le_of_ble_eq_true rfl⟩ dX8_row_50 (fun r f91 H locs h92 hz hS => ?_)
          obtain ⟨rfl, k93⟩ := h92
          exact z_iret C hr rfl hz hS (by simp [c5, c6, c7, c8, c13]) (Nat.le_of_ble_eq_true rfl) (Nat.le_of_ble_eq_true rfl) dX8_row_53
    · refine lv_aload_n hx hb dX8_row_29 rfl (lv_at hl 0 rfl) ?_
      refine lv_iconst (v := 5) hx hb dX8_row_30 (by decide) ?_
      refine lv_iconst (v := 0) hx hb dX8_row_31 (by decide) ?_
      refine lv_iconst (v := 0) hx hb dX8_row_32 (by decide) ?_
      have a94 : f1 wev = some (.inl (cy 0, 8, .inl g)) := k4 _ _ p6 (z_ne p6 p0 rfl)
      refine z_callVi (As := [.int 5, .int 0, .int 0]) C hz hS hA hl (k_X8_fails l D cy f1 o wev wnb wki wmy wce wiw wli wha wwt wfy wfk wem wna wpl whs wk1 wk2 wk3 5 0 0 0 (-1) 0 g 5 a3 a94 (by decide) (Nat.le_of_ble_eq_true rfl)) zyX8_fails mMX8_135 a3 zl8 rfl rfl (Nat.le_of_ble_eq_true rfl) ⟨Nat.le_of_ble_eq_true rfl, Nat.le_of_ble_eq_true rfl⟩ ⟨Nat.le_of_ble_eq_true rfl, Nat.le_of_ble_eq_true rfl⟩ dX8_row_33 (fun r f95 H locs h96 hz hS => ?_)
      obtain ⟨rfl, k97⟩ := h96
      exact z_iret C hr rfl hz hS (by simp [c5, c6, c7]) (Nat.le_of_ble_eq_true rfl) (Nat.le_of_ble_eq_true rfl) dX8_row_36
  · refine lv_bipush (v := (-2)) hx hb dX8_row_10 (by decide) ?_
    exact z_iret C hr rfl hz hS (by simp [c5]) (Nat.le_of_ble_eq_true rfl) (Nat.le_of_ble_eq_true rfl) dX8_row_12
abbrev rmX8_shelf : Room := { frames := 3, cells := 0, slots := 0, locals := 67 }
set_option maxHeartbeats 4000000 in
set_option maxRecDepth 100000 in
theorem k_X8_shelf (l : Launch) (D : va_G) (cy : Nat → ClassId) (f : zM) (o : Nat) (wev : Nat) (wnb : Nat) (wki : Nat) (wmy : Nat) (wce : Nat) (wiw : Nat) (wli : Nat) (wha : Nat) (wwt : Nat) (wfy : Nat) (wfk : Nat) (wem : Nat) (wna : Nat) (wpl : Nat) (whs : Nat) (wk1 : Nat) (wk2 : Nat) (wk3 : Nat) (w : Int32) (x : Int32) (gk : Nat → Int32) (gm : Nat → Int32) (gc : Nat → Int64) (gl : Nat → Int32) (gh : Nat → Int32) (g : Nat → Int32) (gw : Nat → Int32) (p0 : f o = some (.inr (8, [.int 0, .int (-1), .int 0, .ref wev, .int 0, .ref wnb, .int 0, .ref wki, .ref wmy, .ref wce, .ref wiw, .ref wli, .ref wha, .ref wwt, .int 0, .ref wfy, .ref wfk, .int 0, .ref wem, .ref wna, .ref wpl, .ref whs, .long 1, .int 0, .ref wk1, .ref wk2, .ref wk3]))) (p1 : f wki = some (.inl (cy 0, 60, .inl gk))) (p2 : f wmy = some (.inl (cy 0, 60, .inl gm))) (p3 : f wce = some (.inl (cy 1, 960, .inr (.inl gc)))) (p4 : f wli = some (.inl (cy 0, 60, .inl gl))) (p5 : f wha = some (.inl (cy 0, 60, .inl gh))) (p6 : f wev = some (.inl (cy 0, 8, .inl g))) (p7 : f wiw = some (.inl (cy 2, 60, .inl gw))) (nkm : wki ≠ wmy) (nlh : wli ≠ wha) (nkl : wki ≠ wli) (nkh : wki ≠ wha) (nml : wmy ≠ wli) (nmh : wmy ≠ wha) (hw : w = 0 ∨ w = 1) (nw1 : wiw ≠ wki) (nw2 : wiw ≠ wmy) (nw3 : wiw ≠ wli) (nw4 : wiw ≠ wha) : zCi l D cy yX8_shelf cX8_shelf 4 (Option.some Jvm.ClassFile.FieldType.int) rmX8_shelf [.ref o, .int w, .int x] f (fun (r : Int32) (f1 : zM) => r = (if x ≤ 12 then (if 0 ≤ x then 0 else (-4)) else (-2))) := by
  intro sz
  refine z_body (by decide +kernel) (Nat.le_of_ble_eq_true rfl) ?_
  intro p e s m below meth c ls C hr hin hsz hz hl
  subst hsz
  have hx := C.1
  have hb := C.2.1
  have hA : ∀ q, s.heap.size ≤ q → zA f s.heap.size q := fun q h => Or.inr h
  have hS : va_S (zA f s.heap.size) s.heap s.heap [] := va_S.rf
  have hl : lv_has ls 4 [(0, .ref o), (1, .int w), (2, .int x)] := hl
  refine lv_aload_n hx hb dX8_shelf_0 rfl (lv_at hl 0 rfl) ?_
  refine z_callVv (As := []) C hz hS hA hl (k_X8_begin l D cy f o wev wnb wki wmy wce wiw wli wha wwt wfy wfk wem wna wpl whs wk1 wk2 wk3 0 (-1) 0 p0 ) zyX8_begin mMX8_116 p0 zl8 rfl rfl (Nat.le_of_ble_eq_true rfl) ⟨Nat.le_of_ble_eq_true rfl, Nat.le_of_ble_eq_true rfl⟩ ⟨Nat.le_of_ble_eq_true rfl, Nat.le_of_ble_eq_true rfl⟩ dX8_shelf_1 (fun  f1 H locs h2 hz hS => ?_)
  obtain ⟨a3, k4⟩ := h2
  refine lv_iload_n hx hb dX8_shelf_4 rfl (lv_at hl 2 rfl) ?_
  refine lv_bipush (v := 12) hx hb dX8_shelf_5 (by decide) ?_
  refine lv_icmp_le (tgt := 13) hx hb dX8_shelf_7 (by decide) (fun c5 => ?_) (fun c5 => ?_)
  · refine lv_aload_n hx hb dX8_shelf_13 rfl (lv_at hl 0 rfl) ?_
    refine z_get (v := .int 0) C hz a3 zl8 mFX8_83 (by decide) rfl dX8_shelf_14 ?_
    refine lv_bipush (v := 60) hx hb dX8_shelf_17 (by decide) ?_
    refine lv_icmp_ne (tgt := 25) hx hb dX8_shelf_19 (by decide) (fun c6 => ?_) (fun c6 => ?_)
    rotate_left
    · exact absurd c6 (by decide)
    refine lv_iload_n hx hb dX8_shelf_25 rfl (lv_at hl 2 rfl) ?_
    refine lv_if_ge (tgt := 37) hx hb dX8_shelf_26 (by decide) (fun c7 => ?_) (fun c7 => ?_)
    · obtain ⟨t, ht, hxt⟩ := z_ixn (n := 12) (by decide) c7 c5
      refine lv_aload_n hx hb dX8_shelf_37 rfl (lv_at hl 0 rfl) ?_
      refine lv_bipush (v := 6) hx hb dX8_shelf_38 (by decide) ?_
      have a8 : f1 wki = some (.inl (cy 0, 60, .inl gk)) := k4 _ _ p1 (z_ne p1 p0 rfl)
      have a9 : f1 wmy = some (.inl (cy 0, 60, .inl gm)) := k4 _ _ p2 (z_ne p2 p0 rfl)
      refine z_callVv (As := [.int 6]) C hz hS hA hl (k_X8_start l D cy f1 o wev wnb wki wmy wce wiw wli wha wwt wfy wfk wem wna wpl whs wk1 wk2 wk3 6 0 (-1) 0 gk gm a3 a8 a9 nkm) zyX8_start mMX8_119 a3 zl8 rfl rfl (Nat.le_of_ble_eq_true rfl) ⟨Nat.le_of_ble_eq_true rfl, Nat.le_of_ble_eq_true rfl⟩ ⟨Nat.le_of_ble_eq_true rfl, Nat.le_of_ble_eq_true rfl⟩ dX8_shelf_40 (fun  f10 H locs h11 hz hS => ?_)
      obtain ⟨a12, a13, k14⟩ := h11
      refine lv_aload_n hx hb dX8_shelf_43 rfl (lv_at hl 0 rfl) ?_
      have a15 : f10 o = some (.inr (8, [.int 0, .int (-1), .int 0, .ref wev, .int 0, .ref wnb, .int 0, .ref wki, .ref wmy, .ref wce, .ref wiw, .ref wli, .ref wha, .ref wwt, .int 0, .ref wfy, .ref wfk, .int 0, .ref wem, .ref wna, .ref wpl, .ref whs, .long 1, .int 0, .ref wk1, .ref wk2, .ref wk3])) := k14 _ _ a3 (z_ne a3 a8 rfl) (z_ne a3 a9 rfl)
      refine z_get (v := .ref wiw) C hz a15 zl8 mFX8_30 (by decide) rfl dX8_shelf_44 ?_
      refine lv_aload_n hx hb dX8_shelf_47 rfl (lv_at hl 0 rfl) ?_
      refine z_get (v := .int 0) C hz a15 zl8 mFX8_83 (by decide) rfl dX8_shelf_48 ?_
      refine lv_iload_n hx hb dX8_shelf_51 rfl (lv_at hl 1 rfl) ?_
      have a16 : f1 wiw = some (.inl (cy 2, 60, .inl gw)) := k4 _ _ p7 (z_ne p7 p0 rfl)
      have a17 : f10 wiw = some (.inl (cy 2, 60, .inl gw)) := k14 _ _ a16 nw1 nw2
      refine z_zast 0 C hz hS a17 (by decide) (Nat.le_of_ble_eq_true rfl) (by omega) (by rcases hw with rfl | rfl <;> rfl) dX8_shelf_52 (fun H locs f18 a19 k20 hz hS => ?_)
      refine lv_aload_n hx hb dX8_shelf_53 rfl (lv_at hl 0 rfl) ?_
      refine lv_iload_n hx hb dX8_shelf_54 rfl (lv_at hl 2 rfl) ?_
      refine lv_i2l (v := x.toInt64) hx hb dX8_shelf_55 rfl ?_
      have a21 : f18 o = some (.inr (8, [.int 0, .int (-1), .int 0, .ref wev, .int 0, .ref wnb, .int 0, .ref wki, .ref wmy, .ref wce, .ref wiw, .ref wli, .ref wha, .ref wwt, .int 0, .ref wfy, .ref wfk, .int 0, .ref wem, .ref wna, .ref wpl, .ref whs, .long 1, .int 0, .ref wk1, .ref wk2, .ref wk3])) := (k20 _ (z_ne a15 a17 rfl)).trans a15
      have a22 : f1 wce = some (.inl (cy 1, 960, .inr (.inl gc))) := k4 _ _ p3 (z_ne p3 p0 rfl)
      have a23 : f10 wce = some (.inl (cy 1, 960, .inr (.inl gc))) := k14 _ _ a22 (z_ne a22 a8 rfl) (z_ne a22 a9 rfl)
      have a24 : f18 wce = some (.inl (cy 1, 960, .inr (.inl gc))) := (k20 _ (z_ne a23 a17 rfl)).trans a23
      have a25 : f18 wmy = some (.inl (cy 0, 60, .inl (upd gm 0 0))) := (k20 _ (Ne.symm nw2)).trans a13
      refine z_callVv (As := [.long x.toInt64]) C hz hS hA hl (k_X8_part l D cy f18 o wev wnb wki wmy wce wiw wli wha wwt wfy wfk wem wna wpl whs wk1 wk2 wk3 x.toInt64 0 (-1) 0 gc (upd gm 0 0) 0 a21 a24 a25 pk_us (Nat.le_of_ble_eq_true rfl)) zyX8_part mMX8_127 a21 zl8 rfl rfl (Nat.le_of_ble_eq_true rfl) ⟨Nat.le_of_ble_eq_true rfl, Nat.le_of_ble_eq_true rfl⟩ ⟨Nat.le_of_ble_eq_true rfl, Nat.le_of_ble_eq_true rfl⟩ dX8_shelf_56 (fun  f26 H locs h27 hz hS => ?_)
      obtain ⟨a28, a29, k30⟩ := h27
      refine lv_iconst (v := 0) hx hb dX8_shelf_59 (by decide) ?_
      refine lv_istore_n (lv' := [(3, .int 0), (0, .ref o), (1, .int w), (2, .int x)]) hx hb dX8_shelf_60 rfl hl (by decide) rfl (fun ls hl => ?_)
      have lp31 : ∀ (n : Nat) (i : Nat) (gcv : Nat → Int64) (gmv : Nat → Int32) (fL32 : zM) (H : Heap) (locs : List Loc) (ls : Array Slot), (t - i) < n → (i ≤ t) → (gmv 0 = nI (1 + i)) → fL32 wce = some (.inl (cy 1, 960, .inr (.inl gcv))) → fL32 wmy = some (.inl (cy 0, 60, .inl gmv)) → (∀ (b : Nat) (e : va_E), f26 b = some e → b ≠ wce → b ≠ wmy → fL32 b = some e) → zH D (zA f s.heap.size) fL32 H → va_S (zA f s.heap.size) s.heap H locs → lv_has ls 4 [(0, .ref o), (2, .int x), (3, .int (nI i))] → W p l e rmX8_shelf s m ([.ref o, .int w, .int x] : List Value).toArray below meth c H locs 0 0 (MQ below (va_Qi (fun (r : Int32) (f1 : zM) => r = (if x ≤ 12 then (if 0 ≤ x then 0 else (-4)) else (-2))) (zB D f s.heap.size) (zA f s.heap.size)) ([.ref o, .int w, .int x] : List Value).toArray s rmX8_shelf.cells rmX8_shelf.slots (zA f s.heap.size)) (F0 m 61 ls []) := by
        intro n
        induction n with
        | zero => intro i gcv gmv fL32 H locs ls hmz; exact absurd hmz (Nat.not_lt_zero _)
        | succ n ih =>
          intro i gcv gmv fL32 H locs ls hmz hi hgm a34 a35 k33 hz hS hl
          refine lv_iload_n hx hb dX8_shelf_61 rfl (lv_at hl 2 rfl) ?_
          refine lv_iload_n hx hb dX8_shelf_62 rfl (lv_at hl 1 rfl) ?_
          refine lv_icmp_ge (tgt := 79) hx hb dX8_shelf_63 (by decide) (fun c36 => ?_) (fun c36 => ?_)
          · refine lv_aload_n hx hb dX8_shelf_79 rfl (lv_at hl 0 rfl) ?_
            have a37 : f26 o = some (.inr (8, [.int 0, .int (-1), .int 0, .ref wev, .int 0, .ref wnb, .int 0, .ref wki, .ref wmy, .ref wce, .ref wiw, .ref wli, .ref wha, .ref wwt, .int 0, .ref wfy, .ref wfk, .int 0, .ref wem, .ref wna, .ref wpl, .ref whs, .long 1, .int 0, .ref wk1, .ref wk2, .ref wk3])) := k30 _ _ a21 (z_ne a21 a24 rfl) (z_ne a21 a25 rfl)
            have a38 : fL32 o = some (.inr (8, [.int 0, .int (-1), .int 0, .ref wev, .int 0, .ref wnb, .int 0, .ref wki, .ref wmy, .ref wce, .ref wiw, .ref wli, .ref wha, .ref wwt, .int 0, .ref wfy, .ref wfk, .int 0, .ref wem, .ref wna, .ref wpl, .ref whs, .long 1, .int 0, .ref wk1, .ref wk2, .ref wk3])) := k33 _ _ a37 (z_ne a37 a28 rfl) (z_ne a37 a29 rfl)
            have a39 : f18 wki = some (.inl (cy 0, 60, .inl (upd gk 0 6))) := (k20 _ (Ne.symm nw1)).trans a12
            have a40 : f26 wki = some (.inl (cy 0, 60, .inl (upd gk 0 6))) := k30 _ _ a39 (z_ne a39 a24 rfl) nkm
            have a41 : fL32 wki = some (.inl (cy 0, 60, .inl (upd gk 0 6))) := k33 _ _ a40 (z_ne a40 a28 rfl) nkm
            have a42 : f1 wli = some (.inl (cy 0, 60, .inl gl)) := k4 _ _ p4 (z_ne p4 p0 rfl)
            have a43 : f10 wli = some (.inl (cy 0, 60, .inl gl)) := k14 _ _ a42 (Ne.symm nkl) (Ne.symm nml)
            have a44 : f18 wli = some (.inl (cy 0, 60, .inl gl)) := (k20 _ (Ne.symm nw3)).trans a43
            have a45 : f26 wli = some (.inl (cy 0, 60, .inl gl)) := k30 _ _ a44 (z_ne a44 a24 rfl) (Ne.symm nml)
            have a46 : fL32 wli = some (.inl (cy 0, 60, .inl gl)) := k33 _ _ a45 (z_ne a45 a28 rfl) (Ne.symm nml)
            have a47 : f1 wha = some (.inl (cy 0, 60, .inl gh)) := k4 _ _ p5 (z_ne p5 p0 rfl)
            have a48 : f10 wha = some (.inl (cy 0, 60, .inl gh)) := k14 _ _ a47 (Ne.symm nkh) (Ne.symm nmh)
            have a49 : f18 wha = some (.inl (cy 0, 60, .inl gh)) := (k20 _ (Ne.symm nw4)).trans a48
            have a50 : f26 wha = some (.inl (cy 0, 60, .inl gh)) := k30 _ _ a49 (z_ne a49 a24 rfl) (Ne.symm nmh)
            have a51 : fL32 wha = some (.inl (cy 0, 60, .inl gh)) := k33 _ _ a50 (z_ne a50 a28 rfl) (Ne.symm nmh)
            refine z_callVi (As := []) C hz hS hA hl (k_X8_made l D cy fL32 o wev wnb wki wmy wce wiw wli wha wwt wfy wfk wem wna wpl whs wk1 wk2 wk3 0 (-1) 0 (upd gk 0 6) gmv gcv gl gh (1 + i) a38 a41 a35 a34 a46 a51 (by rw [pk_us]; decide) hgm (by omega) nlh nkl nkh nml nmh) zyX8_made mMX8_131 a38 zl8 rfl rfl (Nat.le_of_ble_eq_true rfl) ⟨Nat.le_of_ble_eq_true rfl, Nat.le_of_ble_eq_true rfl⟩ ⟨Nat.le_of_ble_eq_true rfl, Nat.le_of_ble_eq_true rfl⟩ dX8_shelf_80 (fun r f52 H locs h53 hz hS => ?_)
            obtain ⟨rfl, k54⟩ := h53
            exact z_iret C hr rfl hz hS (by simp [c5, c6, c7, c36]) (Nat.le_of_ble_eq_true rfl) (Nat.le_of_ble_eq_true rfl) dX8_shelf_83
          · replace c36 : i < t := by rw [hxt] at c36; exact Nat.not_le.mp (fun h => c36 ((nI_leI (by omega) (by omega)).mpr h))
            refine lv_aload_n hx hb dX8_shelf_66 rfl (lv_at hl 0 rfl) ?_
            refine lv_ldc2 (v := (-1)) hx hb C.2.2.2.1 (C.2.2.2.2.1 _ mKX8_98) dX8_shelf_67 ?_
            have a55 : f26 o = some (.inr (8, [.int 0, .int (-1), .int 0, .ref wev, .int 0, .ref wnb, .int 0, .ref wki, .ref wmy, .ref wce, .ref wiw, .ref wli, .ref wha, .ref wwt, .int 0, .ref wfy, .ref wfk, .int 0, .ref wem, .ref wna, .ref wpl, .ref whs, .long 1, .int 0, .ref wk1, .ref wk2, .ref wk3])) := k30 _ _ a21 (z_ne a21 a24 rfl) (z_ne a21 a25 rfl)
            have a56 : fL32 o = some (.inr (8, [.int 0, .int (-1), .int 0, .ref wev, .int 0, .ref wnb, .int 0, .ref wki, .ref wmy, .ref wce, .ref wiw, .ref wli, .ref wha, .ref wwt, .int 0, .ref wfy, .ref wfk, .int 0, .ref wem, .ref wna, .ref wpl, .ref whs, .long 1, .int 0, .ref wk1, .ref wk2, .ref wk3])) := k33 _ _ a55 (z_ne a55 a28 rfl) (z_ne a55 a29 rfl)
            refine z_callVv (As := [.long (-1)]) C hz hS hA hl (k_X8_part l D cy fL32 o wev wnb wki wmy wce wiw wli wha wwt wfy wfk wem wna wpl whs wk1 wk2 wk3 (-1) 0 (-1) 0 gcv gmv (1 + i) a56 a34 a35 hgm (by omega)) zyX8_part mMX8_127 a56 zl8 rfl rfl (Nat.le_of_ble_eq_true rfl) ⟨Nat.le_of_ble_eq_true rfl, Nat.le_of_ble_eq_true rfl⟩ ⟨Nat.le_of_ble_eq_true rfl, Nat.le_of_ble_eq_true rfl⟩ dX8_shelf_70 (fun  f57 H locs h58 hz hS => ?_)
            obtain ⟨a59, a60, k61⟩ := h58
            refine lv_iinc (v := nI (i + 1)) (lv' := [(3, .int (nI (i + 1))), (0, .ref o), (2, .int x)]) hx hb dX8_shelf_73 hl (k := 2) rfl (nI_1 i) (by decide) rfl (fun ls hl => ?_)
            refine lv_goto (tgt := 61) hx hb dX8_shelf_76 (by decide) ?_
            exact ih (i + 1) (vp_updL gcv (1 + i) (-1)) (upd gmv 0 (nI ((1 + i) + 1))) _ _ _ _ (by omega) (by omega) pk_us a59 a60 (by
                  intro b e hb n0 n1
                  have hb4 : fL32 b = some e := k33 b e hb n0 n1
                  have hb5 : f57 b = some e := k61 b e hb4 n0 n1
                  exact hb5) hz hS (lv_sub hl [1, 2, 0] rfl)
      exact lp31 (t - 0 + 1) 0 (vp_updL gc 0 x.toInt64) (upd (upd gm 0 0) 0 (nI (0 + 1))) _ _ _ _ (Nat.lt_succ_self _) (by omega) pk_us a28 a29 (fun b e hb n0 n1 => hb) hz hS (lv_sub hl [1, 3, 0] rfl)
    · refine lv_aload_n hx hb dX8_shelf_29 rfl (lv_at hl 0 rfl) ?_
      refine lv_iconst (v := 5) hx hb dX8_shelf_30 (by decide) ?_
      refine lv_iconst (v := 0) hx hb dX8_shelf_31 (by decide) ?_
      refine lv_iconst (v := 0) hx hb dX8_shelf_32 (by decide) ?_
      have a62 : f1 wev = some (.inl (cy 0, 8, .inl g)) := k4 _ _ p6 (z_ne p6 p0 rfl)
      refine z_callVi (As := [.int 5, .int 0, .int 0]) C hz hS hA hl (k_X8_fails l D cy f1 o wev wnb wki wmy wce wiw wli wha wwt wfy wfk wem wna wpl whs wk1 wk2 wk3 5 0 0 0 (-1) 0 g 5 a3 a62 (by decide) (Nat.le_of_ble_eq_true rfl)) zyX8_fails mMX8_135 a3 zl8 rfl rfl (Nat.le_of_ble_eq_true rfl) ⟨Nat.le_of_ble_eq_true rfl, Nat.le_of_ble_eq_true rfl⟩ ⟨Nat.le_of_ble_eq_true rfl, Nat.le_of_ble_eq_true rfl⟩ dX8_shelf_33 (fun r f63 H locs h64 hz hS => ?_)
      obtain ⟨rfl, k65⟩ := h64
      exact z_iret C hr rfl hz hS (by simp [c5, c6, c7]) (Nat.le_of_ble_eq_true rfl) (Nat.le_of_ble_eq_true rfl) dX8_shelf_36
  · refine lv_bipush (v := (-2)) hx hb dX8_shelf_10 (by decide) ?_
    exact z_iret C hr rfl hz hS (by simp [c5]) (Nat.le_of_ble_eq_true rfl) (Nat.le_of_ble_eq_true rfl) dX8_shelf_12
abbrev rmX8_set : Room := { frames := 1, cells := 0, slots := 0, locals := 21 }
set_option maxHeartbeats 4000000 in
set_option maxRecDepth 100000 in
theorem k_X8_set (l : Launch) (D : va_G) (cy : Nat → ClassId) (f : zM) (o : Nat) (wev : Nat) (wnb : Nat) (wki : Nat) (wmy : Nat) (wce : Nat) (wiw : Nat) (wli : Nat) (wha : Nat) (wwt : Nat) (wfy : Nat) (wfk : Nat) (wem : Nat) (wna : Nat) (wpl : Nat) (whs : Nat) (wk1 : Nat) (wk2 : Nat) (wk3 : Nat) (x : Int32) (y : Int32) (z : Int32) (p0 : f o = some (.inr (8, [.int 0, .int (-1), .int 0, .ref wev, .int 0, .ref wnb, .int 0, .ref wki, .ref wmy, .ref wce, .ref wiw, .ref wli, .ref wha, .ref wwt, .int 0, .ref wfy, .ref wfk, .int 0, .ref wem, .ref wna, .ref wpl, .ref whs, .long 1, .int 0, .ref wk1, .ref wk2, .ref wk3])))  : zCi l D cy yX8_set cX8_set 4 (Option.some Jvm.ClassFile.FieldType.int) rmX8_set [.ref o, .int x, .int y, .int z] f (fun (r : Int32) (f1 : zM) => r = (-2)) := by
  intro sz
  refine z_body (by decide +kernel) (Nat.le_of_ble_eq_true rfl) ?_
  intro p e s m below meth c ls C hr hin hsz hz hl
  subst hsz
  have hx := C.1
  have hb := C.2.1
  have hA : ∀ q, s.heap.size ≤ q → zA f s.heap.size q := fun q h => Or.inr h
  have hS : va_S (zA f s.heap.size) s.heap s.heap [] := va_S.rf
  have hl : lv_has ls 4 [(0, .ref o), (1, .int x), (2, .int y), (3, .int z)] := hl
  refine lv_aload_n hx hb dX8_set_0 rfl (lv_at hl 0 rfl) ?_
  refine z_callVv (As := []) C hz hS hA hl (k_X8_begin l D cy f o wev wnb wki wmy wce wiw wli wha wwt wfy wfk wem wna wpl whs wk1 wk2 wk3 0 (-1) 0 p0 ) zyX8_begin mMX8_116 p0 zl8 rfl rfl (Nat.le_of_ble_eq_true rfl) ⟨Nat.le_of_ble_eq_true rfl, Nat.le_of_ble_eq_true rfl⟩ ⟨Nat.le_of_ble_eq_true rfl, Nat.le_of_ble_eq_true rfl⟩ dX8_set_1 (fun  f1 H locs h2 hz hS => ?_)
  obtain ⟨a3, k4⟩ := h2
  refine lv_aload_n hx hb dX8_set_4 rfl (lv_at hl 0 rfl) ?_
  refine lv_iload_n hx hb dX8_set_5 rfl (lv_at hl 1 rfl) ?_
  refine z_callVi (As := [.int x]) C hz hS hA hl (k_X8_isFigure l D cy f1 o wev wnb wki wmy wce wiw wli wha wwt wfy wfk wem wna wpl whs wk1 wk2 wk3 x 0 (-1) 0 a3 ) zyX8_isFigure mMX8_139 a3 zl8 rfl rfl (Nat.le_of_ble_eq_true rfl) ⟨Nat.le_of_ble_eq_true rfl, Nat.le_of_ble_eq_true rfl⟩ ⟨Nat.le_of_ble_eq_true rfl, Nat.le_of_ble_eq_true rfl⟩ dX8_set_6 (fun r f5 H locs h6 hz hS => ?_)
  obtain ⟨rfl, k7⟩ := h6
  refine lv_if_eq (tgt := 25) hx hb dX8_set_9 (by decide) (fun c8 => ?_) (fun c8 => ?_)
  rotate_left
  · exact absurd c8 (by decide)
  refine lv_bipush (v := (-2)) hx hb dX8_set_25 (by decide) ?_
  exact z_iret C hr rfl hz hS rfl (Nat.le_of_ble_eq_true rfl) (Nat.le_of_ble_eq_true rfl) dX8_set_27
abbrev rmX8_at_ : Room := { frames := 1, cells := 0, slots := 0, locals := 21 }
set_option maxHeartbeats 4000000 in
set_option maxRecDepth 100000 in
theorem k_X8_at_ (l : Launch) (D : va_G) (cy : Nat → ClassId) (f : zM) (o : Nat) (wev : Nat) (wnb : Nat) (wki : Nat) (wmy : Nat) (wce : Nat) (wiw : Nat) (wli : Nat) (wha : Nat) (wwt : Nat) (wfy : Nat) (wfk : Nat) (wem : Nat) (wna : Nat) (wpl : Nat) (whs : Nat) (wk1 : Nat) (wk2 : Nat) (wk3 : Nat) (x : Int32) (y : Int32) (p0 : f o = some (.inr (8, [.int 0, .int (-1), .int 0, .ref wev, .int 0, .ref wnb, .int 0, .ref wki, .ref wmy, .ref wce, .ref wiw, .ref wli, .ref wha, .ref wwt, .int 0, .ref wfy, .ref wfk, .int 0, .ref wem, .ref wna, .ref wpl, .ref whs, .long 1, .int 0, .ref wk1, .ref wk2, .ref wk3])))  : zCi l D cy yX8_at_ cX8_at_ 3 (Option.some Jvm.ClassFile.FieldType.int) rmX8_at_ [.ref o, .int x, .int y] f (fun (r : Int32) (f1 : zM) => r = (-2)) := by
  intro sz
  refine z_body (by decide +kernel) (Nat.le_of_ble_eq_true rfl) ?_
  intro p e s m below meth c ls C hr hin hsz hz hl
  subst hsz
  have hx := C.1
  have hb := C.2.1
  have hA : ∀ q, s.heap.size ≤ q → zA f s.heap.size q := fun q h => Or.inr h
  have hS : va_S (zA f s.heap.size) s.heap s.heap [] := va_S.rf
  have hl : lv_has ls 3 [(0, .ref o), (1, .int x), (2, .int y)] := hl
  refine lv_aload_n hx hb dX8_at__0 rfl (lv_at hl 0 rfl) ?_
  refine z_callVv (As := []) C hz hS hA hl (k_X8_begin l D cy f o wev wnb wki wmy wce wiw wli wha wwt wfy wfk wem wna wpl whs wk1 wk2 wk3 0 (-1) 0 p0 ) zyX8_begin mMX8_116 p0 zl8 rfl rfl (Nat.le_of_ble_eq_true rfl) ⟨Nat.le_of_ble_eq_true rfl, Nat.le_of_ble_eq_true rfl⟩ ⟨Nat.le_of_ble_eq_true rfl, Nat.le_of_ble_eq_true rfl⟩ dX8_at__1 (fun  f1 H locs h2 hz hS => ?_)
  obtain ⟨a3, k4⟩ := h2
  refine lv_aload_n hx hb dX8_at__4 rfl (lv_at hl 0 rfl) ?_
  refine lv_iload_n hx hb dX8_at__5 rfl (lv_at hl 1 rfl) ?_
  refine z_callVi (As := [.int x]) C hz hS hA hl (k_X8_isFigure l D cy f1 o wev wnb wki wmy wce wiw wli wha wwt wfy wfk wem wna wpl whs wk1 wk2 wk3 x 0 (-1) 0 a3 ) zyX8_isFigure mMX8_139 a3 zl8 rfl rfl (Nat.le_of_ble_eq_true rfl) ⟨Nat.le_of_ble_eq_true rfl, Nat.le_of_ble_eq_true rfl⟩ ⟨Nat.le_of_ble_eq_true rfl, Nat.le_of_ble_eq_true rfl⟩ dX8_at__6 (fun r f5 H locs h6 hz hS => ?_)
  obtain ⟨rfl, k7⟩ := h6
  refine lv_if_ne (tgt := 15) hx hb dX8_at__9 (by decide) (fun c8 => ?_) (fun c8 => ?_)
  · exact absurd c8 (by decide)
  refine lv_bipush (v := (-2)) hx hb dX8_at__12 (by decide) ?_
  exact z_iret C hr rfl hz hS rfl (Nat.le_of_ble_eq_true rfl) (Nat.le_of_ble_eq_true rfl) dX8_at__14
abbrev rmX8_kind : Room := { frames := 1, cells := 0, slots := 0, locals := 21 }
set_option maxHeartbeats 4000000 in
set_option maxRecDepth 100000 in
theorem k_X8_kind (l : Launch) (D : va_G) (cy : Nat → ClassId) (f : zM) (o : Nat) (wev : Nat) (wnb : Nat) (wki : Nat) (wmy : Nat) (wce : Nat) (wiw : Nat) (wli : Nat) (wha : Nat) (wwt : Nat) (wfy : Nat) (wfk : Nat) (wem : Nat) (wna : Nat) (wpl : Nat) (whs : Nat) (wk1 : Nat) (wk2 : Nat) (wk3 : Nat) (x : Int32) (p0 : f o = some (.inr (8, [.int 0, .int (-1), .int 0, .ref wev, .int 0, .ref wnb, .int 0, .ref wki, .ref wmy, .ref wce, .ref wiw, .ref wli, .ref wha, .ref wwt, .int 0, .ref wfy, .ref wfk, .int 0, .ref wem, .ref wna, .ref wpl, .ref whs, .long 1, .int 0, .ref wk1, .ref wk2, .ref wk3])))  : zCi l D cy yX8_kind cX8_kind 2 (Option.some Jvm.ClassFile.FieldType.int) rmX8_kind [.ref o, .int x] f (fun (r : Int32) (f1 : zM) => r = (-2)) := by
  intro sz
  refine z_body (by decide +kernel) (Nat.le_of_ble_eq_true rfl) ?_
  intro p e s m below meth c ls C hr hin hsz hz hl
  subst hsz
  have hx := C.1
  have hb := C.2.1
  have hA : ∀ q, s.heap.size ≤ q → zA f s.heap.size q := fun q h => Or.inr h
  have hS : va_S (zA f s.heap.size) s.heap s.heap [] := va_S.rf
  have hl : lv_has ls 2 [(0, .ref o), (1, .int x)] := hl
  refine lv_aload_n hx hb dX8_kind_0 rfl (lv_at hl 0 rfl) ?_
  refine lv_iload_n hx hb dX8_kind_1 rfl (lv_at hl 1 rfl) ?_
  refine z_callVi (As := [.int x]) C hz hS hA hl (k_X8_isFigure l D cy f o wev wnb wki wmy wce wiw wli wha wwt wfy wfk wem wna wpl whs wk1 wk2 wk3 x 0 (-1) 0 p0 ) zyX8_isFigure mMX8_139 p0 zl8 rfl rfl (Nat.le_of_ble_eq_true rfl) ⟨Nat.le_of_ble_eq_true rfl, Nat.le_of_ble_eq_true rfl⟩ ⟨Nat.le_of_ble_eq_true rfl, Nat.le_of_ble_eq_true rfl⟩ dX8_kind_2 (fun r f1 H locs h2 hz hS => ?_)
  obtain ⟨rfl, k3⟩ := h2
  refine lv_if_eq (tgt := 17) hx hb dX8_kind_5 (by decide) (fun c4 => ?_) (fun c4 => ?_)
  rotate_left
  · exact absurd c4 (by decide)
  refine lv_bipush (v := (-2)) hx hb dX8_kind_17 (by decide) ?_
  exact z_iret C hr rfl hz hS rfl (Nat.le_of_ble_eq_true rfl) (Nat.le_of_ble_eq_true rfl) dX8_kind_19
abbrev rmX8_parts : Room := { frames := 1, cells := 0, slots := 0, locals := 21 }
set_option maxHeartbeats 4000000 in
set_option maxRecDepth 100000 in
theorem k_X8_parts (l : Launch) (D : va_G) (cy : Nat → ClassId) (f : zM) (o : Nat) (wev : Nat) (wnb : Nat) (wki : Nat) (wmy : Nat) (wce : Nat) (wiw : Nat) (wli : Nat) (wha : Nat) (wwt : Nat) (wfy : Nat) (wfk : Nat) (wem : Nat) (wna : Nat) (wpl : Nat) (whs : Nat) (wk1 : Nat) (wk2 : Nat) (wk3 : Nat) (x : Int32) (p0 : f o = some (.inr (8, [.int 0, .int (-1), .int 0, .ref wev, .int 0, .ref wnb, .int 0, .ref wki, .ref wmy, .ref wce, .ref wiw, .ref wli, .ref wha, .ref wwt, .int 0, .ref wfy, .ref wfk, .int 0, .ref wem, .ref wna, .ref wpl, .ref whs, .long 1, .int 0, .ref wk1, .ref wk2, .ref wk3])))  : zCi l D cy yX8_parts cX8_parts 2 (Option.some Jvm.ClassFile.FieldType.int) rmX8_parts [.ref o, .int x] f (fun (r : Int32) (f1 : zM) => r = (-2)) := by
  intro sz
  refine z_body (by decide +kernel) (Nat.le_of_ble_eq_true rfl) ?_
  intro p e s m below meth c ls C hr hin hsz hz hl
  subst hsz
  have hx := C.1
  have hb := C.2.1
  have hA : ∀ q, s.heap.size ≤ q → zA f s.heap.size q := fun q h => Or.inr h
  have hS : va_S (zA f s.heap.size) s.heap s.heap [] := va_S.rf
  have hl : lv_has ls 2 [(0, .ref o), (1, .int x)] := hl
  refine lv_aload_n hx hb dX8_parts_0 rfl (lv_at hl 0 rfl) ?_
  refine lv_iload_n hx hb dX8_parts_1 rfl (lv_at hl 1 rfl) ?_
  refine z_callVi (As := [.int x]) C hz hS hA hl (k_X8_isFigure l D cy f o wev wnb wki wmy wce wiw wli wha wwt wfy wfk wem wna wpl whs wk1 wk2 wk3 x 0 (-1) 0 p0 ) zyX8_isFigure mMX8_139 p0 zl8 rfl rfl (Nat.le_of_ble_eq_true rfl) ⟨Nat.le_of_ble_eq_true rfl, Nat.le_of_ble_eq_true rfl⟩ ⟨Nat.le_of_ble_eq_true rfl, Nat.le_of_ble_eq_true rfl⟩ dX8_parts_2 (fun r f1 H locs h2 hz hS => ?_)
  obtain ⟨rfl, k3⟩ := h2
  refine lv_if_eq (tgt := 17) hx hb dX8_parts_5 (by decide) (fun c4 => ?_) (fun c4 => ?_)
  rotate_left
  · exact absurd c4 (by decide)
  refine lv_bipush (v := (-2)) hx hb dX8_parts_17 (by decide) ?_
  exact z_iret C hr rfl hz hS rfl (Nat.le_of_ble_eq_true rfl) (Nat.le_of_ble_eq_true rfl) dX8_parts_19
abbrev rmX8_part_ : Room := { frames := 1, cells := 0, slots := 0, locals := 21 }
set_option maxHeartbeats 4000000 in
set_option maxRecDepth 100000 in
theorem k_X8_part_ (l : Launch) (D : va_G) (cy : Nat → ClassId) (f : zM) (o : Nat) (wev : Nat) (wnb : Nat) (wki : Nat) (wmy : Nat) (wce : Nat) (wiw : Nat) (wli : Nat) (wha : Nat) (wwt : Nat) (wfy : Nat) (wfk : Nat) (wem : Nat) (wna : Nat) (wpl : Nat) (whs : Nat) (wk1 : Nat) (wk2 : Nat) (wk3 : Nat) (x : Int32) (y : Int32) (p0 : f o = some (.inr (8, [.int 0, .int (-1), .int 0, .ref wev, .int 0, .ref wnb, .int 0, .ref wki, .ref wmy, .ref wce, .ref wiw, .ref wli, .ref wha, .ref wwt, .int 0, .ref wfy, .ref wfk, .int 0, .ref wem, .ref wna, .ref wpl, .ref whs, .long 1, .int 0, .ref wk1, .ref wk2, .ref wk3])))  : zCl l D cy yX8_part_ cX8_part_ 3 (Option.some Jvm.ClassFile.FieldType.long) rmX8_part_ [.ref o, .int x, .int y] f (fun (r : Int64) (f1 : zM) => r = (-3000000000000000000)) := by
  intro sz
  refine z_body (by decide +kernel) (Nat.le_of_ble_eq_true rfl) ?_
  intro p e s m below meth c ls C hr hin hsz hz hl
  subst hsz
  have hx := C.1
  have hb := C.2.1
  have hA : ∀ q, s.heap.size ≤ q → zA f s.heap.size q := fun q h => Or.inr h
  have hS : va_S (zA f s.heap.size) s.heap s.heap [] := va_S.rf
  have hl : lv_has ls 3 [(0, .ref o), (1, .int x), (2, .int y)] := hl
  refine lv_aload_n hx hb dX8_part__0 rfl (lv_at hl 0 rfl) ?_
  refine lv_iload_n hx hb dX8_part__1 rfl (lv_at hl 1 rfl) ?_
  refine z_callVi (As := [.int x]) C hz hS hA hl (k_X8_isFigure l D cy f o wev wnb wki wmy wce wiw wli wha wwt wfy wfk wem wna wpl whs wk1 wk2 wk3 x 0 (-1) 0 p0 ) zyX8_isFigure mMX8_139 p0 zl8 rfl rfl (Nat.le_of_ble_eq_true rfl) ⟨Nat.le_of_ble_eq_true rfl, Nat.le_of_ble_eq_true rfl⟩ ⟨Nat.le_of_ble_eq_true rfl, Nat.le_of_ble_eq_true rfl⟩ dX8_part__2 (fun r f1 H locs h2 hz hS => ?_)
  obtain ⟨rfl, k3⟩ := h2
  refine lv_if_eq (tgt := 20) hx hb dX8_part__5 (by decide) (fun c4 => ?_) (fun c4 => ?_)
  rotate_left
  · exact absurd c4 (by decide)
  refine lv_ldc2 (v := (-3000000000000000000)) hx hb C.2.2.2.1 (C.2.2.2.2.1 _ mKX8_149) dX8_part__20 ?_
  exact z_lret C hr hz hS rfl (Nat.le_of_ble_eq_true rfl) (Nat.le_of_ble_eq_true rfl) dX8_part__23
abbrev rmX8_equal : Room := { frames := 1, cells := 0, slots := 0, locals := 21 }
set_option maxHeartbeats 4000000 in
set_option maxRecDepth 100000 in
theorem k_X8_equal (l : Launch) (D : va_G) (cy : Nat → ClassId) (f : zM) (o : Nat) (wev : Nat) (wnb : Nat) (wki : Nat) (wmy : Nat) (wce : Nat) (wiw : Nat) (wli : Nat) (wha : Nat) (wwt : Nat) (wfy : Nat) (wfk : Nat) (wem : Nat) (wna : Nat) (wpl : Nat) (whs : Nat) (wk1 : Nat) (wk2 : Nat) (wk3 : Nat) (x : Int32) (y : Int32) (p0 : f o = some (.inr (8, [.int 0, .int (-1), .int 0, .ref wev, .int 0, .ref wnb, .int 0, .ref wki, .ref wmy, .ref wce, .ref wiw, .ref wli, .ref wha, .ref wwt, .int 0, .ref wfy, .ref wfk, .int 0, .ref wem, .ref wna, .ref wpl, .ref whs, .long 1, .int 0, .ref wk1, .ref wk2, .ref wk3])))  : zCi l D cy yX8_equal cX8_equal 3 (Option.some Jvm.ClassFile.FieldType.int) rmX8_equal [.ref o, .int x, .int y] f (fun (r : Int32) (f1 : zM) => r = (-2)) := by
  intro sz
  refine z_body (by decide +kernel) (Nat.le_of_ble_eq_true rfl) ?_
  intro p e s m below meth c ls C hr hin hsz hz hl
  subst hsz
  have hx := C.1
  have hb := C.2.1
  have hA : ∀ q, s.heap.size ≤ q → zA f s.heap.size q := fun q h => Or.inr h
  have hS : va_S (zA f s.heap.size) s.heap s.heap [] := va_S.rf
  have hl : lv_has ls 3 [(0, .ref o), (1, .int x), (2, .int y)] := hl
  refine lv_aload_n hx hb dX8_equal_0 rfl (lv_at hl 0 rfl) ?_
  refine lv_iload_n hx hb dX8_equal_1 rfl (lv_at hl 1 rfl) ?_
  refine z_callVi (As := [.int x]) C hz hS hA hl (k_X8_isFigure l D cy f o wev wnb wki wmy wce wiw wli wha wwt wfy wfk wem wna wpl whs wk1 wk2 wk3 x 0 (-1) 0 p0 ) zyX8_isFigure mMX8_139 p0 zl8 rfl rfl (Nat.le_of_ble_eq_true rfl) ⟨Nat.le_of_ble_eq_true rfl, Nat.le_of_ble_eq_true rfl⟩ ⟨Nat.le_of_ble_eq_true rfl, Nat.le_of_ble_eq_true rfl⟩ dX8_equal_2 (fun r f1 H locs h2 hz hS => ?_)
  obtain ⟨rfl, k3⟩ := h2
  refine lv_if_eq (tgt := 16) hx hb dX8_equal_5 (by decide) (fun c4 => ?_) (fun c4 => ?_)
  rotate_left
  · exact absurd c4 (by decide)
  refine lv_bipush (v := (-2)) hx hb dX8_equal_16 (by decide) ?_
  refine lv_goto (tgt := 41) hx hb dX8_equal_18 (by decide) ?_
  exact z_iret C hr rfl hz hS rfl (Nat.le_of_ble_eq_true rfl) (Nat.le_of_ble_eq_true rfl) dX8_equal_41
abbrev rmX8_hash : Room := { frames := 1, cells := 0, slots := 0, locals := 21 }
set_option maxHeartbeats 4000000 in
set_option maxRecDepth 100000 in
theorem k_X8_hash (l : Launch) (D : va_G) (cy : Nat → ClassId) (f : zM) (o : Nat) (wev : Nat) (wnb : Nat) (wki : Nat) (wmy : Nat) (wce : Nat) (wiw : Nat) (wli : Nat) (wha : Nat) (wwt : Nat) (wfy : Nat) (wfk : Nat) (wem : Nat) (wna : Nat) (wpl : Nat) (whs : Nat) (wk1 : Nat) (wk2 : Nat) (wk3 : Nat) (x : Int32) (p0 : f o = some (.inr (8, [.int 0, .int (-1), .int 0, .ref wev, .int 0, .ref wnb, .int 0, .ref wki, .ref wmy, .ref wce, .ref wiw, .ref wli, .ref wha, .ref wwt, .int 0, .ref wfy, .ref wfk, .int 0, .ref wem, .ref wna, .ref wpl, .ref whs, .long 1, .int 0, .ref wk1, .ref wk2, .ref wk3])))  : zCi l D cy yX8_hash cX8_hash 2 (Option.some Jvm.ClassFile.FieldType.int) rmX8_hash [.ref o, .int x] f (fun (r : Int32) (f1 : zM) => r = 0) := by
  intro sz
  refine z_body (by decide +kernel) (Nat.le_of_ble_eq_true rfl) ?_
  intro p e s m below meth c ls C hr hin hsz hz hl
  subst hsz
  have hx := C.1
  have hb := C.2.1
  have hA : ∀ q, s.heap.size ≤ q → zA f s.heap.size q := fun q h => Or.inr h
  have hS : va_S (zA f s.heap.size) s.heap s.heap [] := va_S.rf
  have hl : lv_has ls 2 [(0, .ref o), (1, .int x)] := hl
  refine lv_aload_n hx hb dX8_hash_0 rfl (lv_at hl 0 rfl) ?_
  refine lv_iload_n hx hb dX8_hash_1 rfl (lv_at hl 1 rfl) ?_
  refine z_callVi (As := [.int x]) C hz hS hA hl (k_X8_isFigure l D cy f o wev wnb wki wmy wce wiw wli wha wwt wfy wfk wem wna wpl whs wk1 wk2 wk3 x 0 (-1) 0 p0 ) zyX8_isFigure mMX8_139 p0 zl8 rfl rfl (Nat.le_of_ble_eq_true rfl) ⟨Nat.le_of_ble_eq_true rfl, Nat.le_of_ble_eq_true rfl⟩ ⟨Nat.le_of_ble_eq_true rfl, Nat.le_of_ble_eq_true rfl⟩ dX8_hash_2 (fun r f1 H locs h2 hz hS => ?_)
  obtain ⟨rfl, k3⟩ := h2
  refine lv_if_eq (tgt := 17) hx hb dX8_hash_5 (by decide) (fun c4 => ?_) (fun c4 => ?_)
  rotate_left
  · exact absurd c4 (by decide)
  refine lv_iconst (v := 0) hx hb dX8_hash_17 (by decide) ?_
  exact z_iret C hr rfl hz hS rfl (Nat.le_of_ble_eq_true rfl) (Nat.le_of_ble_eq_true rfl) dX8_hash_18
abbrev rmX8_order : Room := { frames := 1, cells := 0, slots := 0, locals := 21 }
set_option maxHeartbeats 4000000 in
set_option maxRecDepth 100000 in
theorem k_X8_order (l : Launch) (D : va_G) (cy : Nat → ClassId) (f : zM) (o : Nat) (wev : Nat) (wnb : Nat) (wki : Nat) (wmy : Nat) (wce : Nat) (wiw : Nat) (wli : Nat) (wha : Nat) (wwt : Nat) (wfy : Nat) (wfk : Nat) (wem : Nat) (wna : Nat) (wpl : Nat) (whs : Nat) (wk1 : Nat) (wk2 : Nat) (wk3 : Nat) (x : Int32) (y : Int32) (p0 : f o = some (.inr (8, [.int 0, .int (-1), .int 0, .ref wev, .int 0, .ref wnb, .int 0, .ref wki, .ref wmy, .ref wce, .ref wiw, .ref wli, .ref wha, .ref wwt, .int 0, .ref wfy, .ref wfk, .int 0, .ref wem, .ref wna, .ref wpl, .ref whs, .long 1, .int 0, .ref wk1, .ref wk2, .ref wk3])))  : zCi l D cy yX8_order cX8_order 3 (Option.some Jvm.ClassFile.FieldType.int) rmX8_order [.ref o, .int x, .int y] f (fun (r : Int32) (f1 : zM) => r = (-2)) := by
  intro sz
  refine z_body (by decide +kernel) (Nat.le_of_ble_eq_true rfl) ?_
  intro p e s m below meth c ls C hr hin hsz hz hl
  subst hsz
  have hx := C.1
  have hb := C.2.1
  have hA : ∀ q, s.heap.size ≤ q → zA f s.heap.size q := fun q h => Or.inr h
  have hS : va_S (zA f s.heap.size) s.heap s.heap [] := va_S.rf
  have hl : lv_has ls 3 [(0, .ref o), (1, .int x), (2, .int y)] := hl
  refine lv_aload_n hx hb dX8_order_0 rfl (lv_at hl 0 rfl) ?_
  refine lv_iload_n hx hb dX8_order_1 rfl (lv_at hl 1 rfl) ?_
  refine z_callVi (As := [.int x]) C hz hS hA hl (k_X8_isFigure l D cy f o wev wnb wki wmy wce wiw wli wha wwt wfy wfk wem wna wpl whs wk1 wk2 wk3 x 0 (-1) 0 p0 ) zyX8_isFigure mMX8_139 p0 zl8 rfl rfl (Nat.le_of_ble_eq_true rfl) ⟨Nat.le_of_ble_eq_true rfl, Nat.le_of_ble_eq_true rfl⟩ ⟨Nat.le_of_ble_eq_true rfl, Nat.le_of_ble_eq_true rfl⟩ dX8_order_2 (fun r f1 H locs h2 hz hS => ?_)
  obtain ⟨rfl, k3⟩ := h2
  refine lv_if_eq (tgt := 25) hx hb dX8_order_5 (by decide) (fun c4 => ?_) (fun c4 => ?_)
  rotate_left
  · exact absurd c4 (by decide)
  refine lv_bipush (v := (-2)) hx hb dX8_order_25 (by decide) ?_
  exact z_iret C hr rfl hz hS rfl (Nat.le_of_ble_eq_true rfl) (Nat.le_of_ble_eq_true rfl) dX8_order_27
abbrev rmX8_first : Room := { frames := 1, cells := 0, slots := 0, locals := 21 }
set_option maxHeartbeats 4000000 in
set_option maxRecDepth 100000 in
theorem k_X8_first (l : Launch) (D : va_G) (cy : Nat → ClassId) (f : zM) (o : Nat) (wev : Nat) (wnb : Nat) (wki : Nat) (wmy : Nat) (wce : Nat) (wiw : Nat) (wli : Nat) (wha : Nat) (wwt : Nat) (wfy : Nat) (wfk : Nat) (wem : Nat) (wna : Nat) (wpl : Nat) (whs : Nat) (wk1 : Nat) (wk2 : Nat) (wk3 : Nat) (x : Int32) (p0 : f o = some (.inr (8, [.int 0, .int (-1), .int 0, .ref wev, .int 0, .ref wnb, .int 0, .ref wki, .ref wmy, .ref wce, .ref wiw, .ref wli, .ref wha, .ref wwt, .int 0, .ref wfy, .ref wfk, .int 0, .ref wem, .ref wna, .ref wpl, .ref whs, .long 1, .int 0, .ref wk1, .ref wk2, .ref wk3])))  : zCi l D cy yX8_first cX8_first 2 (Option.some Jvm.ClassFile.FieldType.int) rmX8_first [.ref o, .int x] f (fun (r : Int32) (f1 : zM) => r = (-2)) := by
  intro sz
  refine z_body (by decide +kernel) (Nat.le_of_ble_eq_true rfl) ?_
  intro p e s m below meth c ls C hr hin hsz hz hl
  subst hsz
  have hx := C.1
  have hb := C.2.1
  have hA : ∀ q, s.heap.size ≤ q → zA f s.heap.size q := fun q h => Or.inr h
  have hS : va_S (zA f s.heap.size) s.heap s.heap [] := va_S.rf
  have hl : lv_has ls 2 [(0, .ref o), (1, .int x)] := hl
  refine lv_aload_n hx hb dX8_first_0 rfl (lv_at hl 0 rfl) ?_
  refine lv_iload_n hx hb dX8_first_1 rfl (lv_at hl 1 rfl) ?_
  refine z_callVi (As := [.int x]) C hz hS hA hl (k_X8_isFigure l D cy f o wev wnb wki wmy wce wiw wli wha wwt wfy wfk wem wna wpl whs wk1 wk2 wk3 x 0 (-1) 0 p0 ) zyX8_isFigure mMX8_139 p0 zl8 rfl rfl (Nat.le_of_ble_eq_true rfl) ⟨Nat.le_of_ble_eq_true rfl, Nat.le_of_ble_eq_true rfl⟩ ⟨Nat.le_of_ble_eq_true rfl, Nat.le_of_ble_eq_true rfl⟩ dX8_first_2 (fun r f1 H locs h2 hz hS => ?_)
  obtain ⟨rfl, k3⟩ := h2
  refine lv_if_eq (tgt := 17) hx hb dX8_first_5 (by decide) (fun c4 => ?_) (fun c4 => ?_)
  rotate_left
  · exact absurd c4 (by decide)
  refine lv_bipush (v := (-2)) hx hb dX8_first_17 (by decide) ?_
  exact z_iret C hr rfl hz hS rfl (Nat.le_of_ble_eq_true rfl) (Nat.le_of_ble_eq_true rfl) dX8_first_19
abbrev rmX8_weight : Room := { frames := 1, cells := 0, slots := 0, locals := 21 }
set_option maxHeartbeats 4000000 in
set_option maxRecDepth 100000 in
theorem k_X8_weight (l : Launch) (D : va_G) (cy : Nat → ClassId) (f : zM) (o : Nat) (wev : Nat) (wnb : Nat) (wki : Nat) (wmy : Nat) (wce : Nat) (wiw : Nat) (wli : Nat) (wha : Nat) (wwt : Nat) (wfy : Nat) (wfk : Nat) (wem : Nat) (wna : Nat) (wpl : Nat) (whs : Nat) (wk1 : Nat) (wk2 : Nat) (wk3 : Nat) (x : Int32) (y : Int32) (p0 : f o = some (.inr (8, [.int 0, .int (-1), .int 0, .ref wev, .int 0, .ref wnb, .int 0, .ref wki, .ref wmy, .ref wce, .ref wiw, .ref wli, .ref wha, .ref wwt, .int 0, .ref wfy, .ref wfk, .int 0, .ref wem, .ref wna, .ref wpl, .ref whs, .long 1, .int 0, .ref wk1, .ref wk2, .ref wk3])))  : zCl l D cy yX8_weight cX8_weight 4 (Option.some Jvm.ClassFile.FieldType.long) rmX8_weight [.ref o, .int x, .int y] f (fun (r : Int64) (f1 : zM) => r = (-3000000000000000000)) := by
  intro sz
  refine z_body (by decide +kernel) (Nat.le_of_ble_eq_true rfl) ?_
  intro p e s m below meth c ls C hr hin hsz hz hl
  subst hsz
  have hx := C.1
  have hb := C.2.1
  have hA : ∀ q, s.heap.size ≤ q → zA f s.heap.size q := fun q h => Or.inr h
  have hS : va_S (zA f s.heap.size) s.heap s.heap [] := va_S.rf
  have hl : lv_has ls 4 [(0, .ref o), (1, .int x), (2, .int y)] := hl
  refine lv_aload_n hx hb dX8_weight_0 rfl (lv_at hl 0 rfl) ?_
  refine lv_iload_n hx hb dX8_weight_1 rfl (lv_at hl 1 rfl) ?_
  refine z_callVi (As := [.int x]) C hz hS hA hl (k_X8_isFigure l D cy f o wev wnb wki wmy wce wiw wli wha wwt wfy wfk wem wna wpl whs wk1 wk2 wk3 x 0 (-1) 0 p0 ) zyX8_isFigure mMX8_139 p0 zl8 rfl rfl (Nat.le_of_ble_eq_true rfl) ⟨Nat.le_of_ble_eq_true rfl, Nat.le_of_ble_eq_true rfl⟩ ⟨Nat.le_of_ble_eq_true rfl, Nat.le_of_ble_eq_true rfl⟩ dX8_weight_2 (fun r f1 H locs h2 hz hS => ?_)
  obtain ⟨rfl, k3⟩ := h2
  refine lv_if_ne (tgt := 12) hx hb dX8_weight_5 (by decide) (fun c4 => ?_) (fun c4 => ?_)
  · exact absurd c4 (by decide)
  refine lv_ldc2 (v := (-3000000000000000000)) hx hb C.2.2.2.1 (C.2.2.2.2.1 _ mKX8_149) dX8_weight_8 ?_
  exact z_lret C hr hz hS rfl (Nat.le_of_ble_eq_true rfl) (Nat.le_of_ble_eq_true rfl) dX8_weight_11
abbrev rmX8_ranked : Room := { frames := 0, cells := 0, slots := 0, locals := 0 }
set_option maxHeartbeats 4000000 in
set_option maxRecDepth 100000 in
theorem k_X8_ranked (l : Launch) (D : va_G) (cy : Nat → ClassId) (f : zM) (o : Nat) (wev : Nat) (wnb : Nat) (wki : Nat) (wmy : Nat) (wce : Nat) (wiw : Nat) (wli : Nat) (wha : Nat) (wwt : Nat) (wfy : Nat) (wfk : Nat) (wem : Nat) (wna : Nat) (wpl : Nat) (whs : Nat) (wk1 : Nat) (wk2 : Nat) (wk3 : Nat) (x : Int32) (p0 : f o = some (.inr (8, [.int 0, .int (-1), .int 0, .ref wev, .int 0, .ref wnb, .int 0, .ref wki, .ref wmy, .ref wce, .ref wiw, .ref wli, .ref wha, .ref wwt, .int 0, .ref wfy, .ref wfk, .int 0, .ref wem, .ref wna, .ref wpl, .ref whs, .long 1, .int 0, .ref wk1, .ref wk2, .ref wk3])))  : zCi l D cy yX8_ranked cX8_ranked 6 (Option.some Jvm.ClassFile.FieldType.int) rmX8_ranked [.ref o, .int x] f (fun (r : Int32) (f1 : zM) => r = (if 0 ≤ x then (-1) else (-2))) := by
  intro sz
  refine z_body (by decide +kernel) (Nat.le_of_ble_eq_true rfl) ?_
  intro p e s m below meth c ls C hr hin hsz hz hl
  subst hsz
  have hx := C.1
  have hb := C.2.1
  have hA : ∀ q, s.heap.size ≤ q → zA f s.heap.size q := fun q h => Or.inr h
  have hS : va_S (zA f s.heap.size) s.heap s.heap [] := va_S.rf
  have hl : lv_has ls 6 [(0, .ref o), (1, .int x)] := hl
  refine lv_iload_n hx hb dX8_ranked_0 rfl (lv_at hl 1 rfl) ?_
  refine lv_if_ge (tgt := 7) hx hb dX8_ranked_1 (by decide) (fun c1 => ?_) (fun c1 => ?_)
  · refine lv_iconst (v := 0) hx hb dX8_ranked_7 (by decide) ?_
    refine lv_istore_n (lv' := [(2, .int 0), (0, .ref o), (1, .int x)]) hx hb dX8_ranked_8 rfl hl (by decide) rfl (fun ls hl => ?_)
    refine lv_iload_n hx hb dX8_ranked_9 rfl (lv_at hl 0 rfl) ?_
    refine lv_aload_n hx hb dX8_ranked_10 rfl (lv_at hl 1 rfl) ?_
    refine z_get (v := .int 0) C hz p0 zl8 mFX8_83 (by decide) rfl dX8_ranked_11 ?_
    refine lv_icmp_ge (tgt := 83) hx hb dX8_ranked_14 (by decide) (fun c2 => ?_) (fun c2 => ?_)
    rotate_left
    · exact absurd c2 (by decide)
    refine lv_iconst (v := (-1)) hx hb dX8_ranked_83 (by decide) ?_
    exact z_iret C hr rfl hz hS (by simp [c1, c2]) (Nat.le_of_ble_eq_true rfl) (Nat.le_of_ble_eq_true rfl) dX8_ranked_84
  · refine lv_bipush (v := (-2)) hx hb dX8_ranked_4 (by decide) ?_
    exact z_iret C hr rfl hz hS (by simp [c1]) (Nat.le_of_ble_eq_true rfl) (Nat.le_of_ble_eq_true rfl) dX8_ranked_6
abbrev rmX8_cause : Room := { frames := 0, cells := 0, slots := 0, locals := 0 }
set_option maxHeartbeats 4000000 in
set_option maxRecDepth 100000 in
theorem k_X8_cause (l : Launch) (D : va_G) (cy : Nat → ClassId) (f : zM) (o : Nat) (wev : Nat) (wnb : Nat) (wki : Nat) (wmy : Nat) (wce : Nat) (wiw : Nat) (wli : Nat) (wha : Nat) (wwt : Nat) (wfy : Nat) (wfk : Nat) (wem : Nat) (wna : Nat) (wpl : Nat) (whs : Nat) (wk1 : Nat) (wk2 : Nat) (wk3 : Nat) (x : Int32) (p0 : f o = some (.inr (8, [.int 0, .int (-1), .int 0, .ref wev, .int 0, .ref wnb, .int 0, .ref wki, .ref wmy, .ref wce, .ref wiw, .ref wli, .ref wha, .ref wwt, .int 0, .ref wfy, .ref wfk, .int 0, .ref wem, .ref wna, .ref wpl, .ref whs, .long 1, .int 0, .ref wk1, .ref wk2, .ref wk3])))  : zCi l D cy yX8_cause cX8_cause 2 (Option.some Jvm.ClassFile.FieldType.int) rmX8_cause [.ref o, .int x] f (fun (r : Int32) (f1 : zM) => r = (if x = 0 then 0 else if x = 1 then (-1) else if x = 2 then 0 else (-2))) := by
  intro sz
  refine z_body (by decide +kernel) (Nat.le_of_ble_eq_true rfl) ?_
  intro p e s m below meth c ls C hr hin hsz hz hl
  subst hsz
  have hx := C.1
  have hb := C.2.1
  have hA : ∀ q, s.heap.size ≤ q → zA f s.heap.size q := fun q h => Or.inr h
  have hS : va_S (zA f s.heap.size) s.heap s.heap [] := va_S.rf
  have hl : lv_has ls 2 [(0, .ref o), (1, .int x)] := hl
  refine lv_iload_n hx hb dX8_cause_0 rfl (lv_at hl 1 rfl) ?_
  refine lv_if_ne (tgt := 11) hx hb dX8_cause_1 (by decide) (fun c1 => ?_) (fun c1 => ?_)
  · refine lv_iload_n hx hb dX8_cause_11 rfl (lv_at hl 1 rfl) ?_
    refine lv_iconst (v := 1) hx hb dX8_cause_12 (by decide) ?_
    refine lv_icmp_ne (tgt := 23) hx hb dX8_cause_13 (by decide) (fun c2 => ?_) (fun c2 => ?_)
    · refine lv_iload_n hx hb dX8_cause_23 rfl (lv_at hl 1 rfl) ?_
      refine lv_iconst (v := 2) hx hb dX8_cause_24 (by decide) ?_
      refine lv_icmp_ne (tgt := 35) hx hb dX8_cause_25 (by decide) (fun c3 => ?_) (fun c3 => ?_)
      · refine lv_bipush (v := (-2)) hx hb dX8_cause_35 (by decide) ?_
        exact z_iret C hr rfl hz hS (by simp [c1, c2, c3]) (Nat.le_of_ble_eq_true rfl) (Nat.le_of_ble_eq_true rfl) dX8_cause_37
      · refine lv_aload_n hx hb dX8_cause_28 rfl (lv_at hl 0 rfl) ?_
        refine z_get (v := .int 0) C hz p0 zl8 mFX8_77 (by decide) rfl dX8_cause_29 ?_
        refine lv_goto (tgt := 37) hx hb dX8_cause_32 (by decide) ?_
        exact z_iret C hr rfl hz hS (by simp [c1, c2, c3]) (Nat.le_of_ble_eq_true rfl) (Nat.le_of_ble_eq_true rfl) dX8_cause_37
    · refine lv_aload_n hx hb dX8_cause_16 rfl (lv_at hl 0 rfl) ?_
      refine z_get (v := .int (-1)) C hz p0 zl8 mFX8_9 (by decide) rfl dX8_cause_17 ?_
      refine lv_goto (tgt := 37) hx hb dX8_cause_20 (by decide) ?_
      exact z_iret C hr rfl hz hS (by simp [c1, c2]) (Nat.le_of_ble_eq_true rfl) (Nat.le_of_ble_eq_true rfl) dX8_cause_37
  · refine lv_aload_n hx hb dX8_cause_4 rfl (lv_at hl 0 rfl) ?_
    refine z_get (v := .int 0) C hz p0 zl8 mFX8_74 (by decide) rfl dX8_cause_5 ?_
    refine lv_goto (tgt := 37) hx hb dX8_cause_8 (by decide) ?_
    exact z_iret C hr rfl hz hS (by simp [c1]) (Nat.le_of_ble_eq_true rfl) (Nat.le_of_ble_eq_true rfl) dX8_cause_37
abbrev rmX8_lay : Room := { frames := 0, cells := 0, slots := 0, locals := 0 }
set_option maxHeartbeats 4000000 in
set_option maxRecDepth 100000 in
theorem k_X8_lay (l : Launch) (D : va_G) (cy : Nat → ClassId) (f : zM) (o : Nat) (wev : Nat) (wnb : Nat) (wki : Nat) (wmy : Nat) (wce : Nat) (wiw : Nat) (wli : Nat) (wha : Nat) (wwt : Nat) (wfy : Nat) (wfk : Nat) (wem : Nat) (wna : Nat) (wpl : Nat) (whs : Nat) (wk1 : Nat) (wk2 : Nat) (wk3 : Nat) (x : Int32) (g : Nat → Int32) (p0 : f o = some (.inr (8, [.int 0, .int (-1), .int 0, .ref wev, .int 0, .ref wnb, .int 0, .ref wki, .ref wmy, .ref wce, .ref wiw, .ref wli, .ref wha, .ref wwt, .int 0, .ref wfy, .ref wfk, .int 0, .ref wem, .ref wna, .ref wpl, .ref whs, .long 1, .int 0, .ref wk1, .ref wk2, .ref wk3]))) (p1 : f wnb = some (.inl (cy 0, 12, .inl g)))  : zCi l D cy yX8_lay cX8_lay 2 (Option.some Jvm.ClassFile.FieldType.int) rmX8_lay [.ref o, .int x] f (fun (r : Int32) (f1 : zM) => r = 1) := by
  intro sz
  refine z_body (by decide +kernel) (Nat.le_of_ble_eq_true rfl) ?_
  intro p e s m below meth c ls C hr hin hsz hz hl
  subst hsz
  have hx := C.1
  have hb := C.2.1
  have hA : ∀ q, s.heap.size ≤ q → zA f s.heap.size q := fun q h => Or.inr h
  have hS : va_S (zA f s.heap.size) s.heap s.heap [] := va_S.rf
  have hl : lv_has ls 2 [(0, .ref o), (1, .int x)] := hl
  refine lv_aload_n hx hb dX8_lay_0 rfl (lv_at hl 0 rfl) ?_
  refine z_get (v := .int 0) C hz p0 zl8 mFX8_80 (by decide) rfl dX8_lay_1 ?_
  refine lv_bipush (v := 12) hx hb dX8_lay_4 (by decide) ?_
  refine lv_icmp_ne (tgt := 12) hx hb dX8_lay_6 (by decide) (fun c1 => ?_) (fun c1 => ?_)
  rotate_left
  · exact absurd c1 (by decide)
  refine lv_aload_n hx hb dX8_lay_12 rfl (lv_at hl 0 rfl) ?_
  refine z_get (v := .ref wnb) C hz p0 zl8 mFX8_17 (by decide) rfl dX8_lay_13 ?_
  refine lv_aload_n hx hb dX8_lay_16 rfl (lv_at hl 0 rfl) ?_
  refine z_get (v := .int 0) C hz p0 zl8 mFX8_80 (by decide) rfl dX8_lay_17 ?_
  refine lv_iload_n hx hb dX8_lay_20 rfl (lv_at hl 1 rfl) ?_
  refine z_iast 0 C hz hS p1 (by decide) (Nat.le_of_ble_eq_true rfl) (by omega) dX8_lay_21 (fun H locs f2 a3 k4 hz hS => ?_)
  refine lv_aload_n hx hb dX8_lay_22 rfl (lv_at hl 0 rfl) ?_
  refine lv_dup hx hb dX8_lay_23 rfl ?_
  have a5 : f2 o = some (.inr (8, [.int 0, .int (-1), .int 0, .ref wev, .int 0, .ref wnb, .int 0, .ref wki, .ref wmy, .ref wce, .ref wiw, .ref wli, .ref wha, .ref wwt, .int 0, .ref wfy, .ref wfk, .int 0, .ref wem, .ref wna, .ref wpl, .ref whs, .long 1, .int 0, .ref wk1, .ref wk2, .ref wk3])) := (k4 _ (z_ne p0 p1 rfl)).trans p0
  refine z_get (v := .int 0) C hz a5 zl8 mFX8_80 (by decide) rfl dX8_lay_24 ?_
  refine lv_iconst (v := 1) hx hb dX8_lay_27 (by decide) ?_
  refine lv_iadd hx hb dX8_lay_28 ?_
  refine z_put (fs' := [.int 0, .int (-1), .int 0, .ref wev, .int (0 + 1), .ref wnb, .int 0, .ref wki, .ref wmy, .ref wce, .ref wiw, .ref wli, .ref wha, .ref wwt, .int 0, .ref wfy, .ref wfk, .int 0, .ref wem, .ref wna, .ref wpl, .ref whs, .long 1, .int 0, .ref wk1, .ref wk2, .ref wk3]) C hz hS a5 zl8 mFX8_80 (by decide) rfl rfl rfl (Nat.le_of_ble_eq_true rfl) rfl dX8_lay_29 (fun H locs f6 a7 k8 hz hS => ?_)
  refine lv_aload_n hx hb dX8_lay_32 rfl (lv_at hl 0 rfl) ?_
  refine z_get (v := .int (0 + 1)) C hz a7 zl8 mFX8_80 (by decide) rfl dX8_lay_33 ?_
  exact z_iret C hr rfl hz hS (by decide) (Nat.le_of_ble_eq_true rfl) (Nat.le_of_ble_eq_true rfl) dX8_lay_36
abbrev rmX8_wipe : Room := { frames := 0, cells := 0, slots := 0, locals := 0 }
set_option maxHeartbeats 4000000 in
set_option maxRecDepth 100000 in
theorem k_X8_wipe (l : Launch) (D : va_G) (cy : Nat → ClassId) (f : zM) (o : Nat) (wev : Nat) (wnb : Nat) (wki : Nat) (wmy : Nat) (wce : Nat) (wiw : Nat) (wli : Nat) (wha : Nat) (wwt : Nat) (wfy : Nat) (wfk : Nat) (wem : Nat) (wna : Nat) (wpl : Nat) (whs : Nat) (wk1 : Nat) (wk2 : Nat) (wk3 : Nat) (p0 : f o = some (.inr (8, [.int 0, .int (-1), .int 0, .ref wev, .int 0, .ref wnb, .int 0, .ref wki, .ref wmy, .ref wce, .ref wiw, .ref wli, .ref wha, .ref wwt, .int 0, .ref wfy, .ref wfk, .int 0, .ref wem, .ref wna, .ref wpl, .ref whs, .long 1, .int 0, .ref wk1, .ref wk2, .ref wk3])))  : zCi l D cy yX8_wipe cX8_wipe 2 (Option.some Jvm.ClassFile.FieldType.int) rmX8_wipe [.ref o] f (fun (r : Int32) (f1 : zM) => r = 0) := by
  intro sz
  refine z_body (by decide +kernel) (Nat.le_of_ble_eq_true rfl) ?_
  intro p e s m below meth c ls C hr hin hsz hz hl
  subst hsz
  have hx := C.1
  have hb := C.2.1
  have hA : ∀ q, s.heap.size ≤ q → zA f s.heap.size q := fun q h => Or.inr h
  have hS : va_S (zA f s.heap.size) s.heap s.heap [] := va_S.rf
  have hl : lv_has ls 2 [(0, .ref o)] := hl
  refine lv_aload_n hx hb dX8_wipe_0 rfl (lv_at hl 0 rfl) ?_
  refine z_get (v := .int 0) C hz p0 zl8 mFX8_80 (by decide) rfl dX8_wipe_1 ?_
  refine lv_istore_n (lv' := [(1, .int 0), (0, .ref o)]) hx hb dX8_wipe_4 rfl hl (by decide) rfl (fun ls hl => ?_)
  refine lv_aload_n hx hb dX8_wipe_5 rfl (lv_at hl 1 rfl) ?_
  refine lv_iconst (v := 0) hx hb dX8_wipe_6 (by decide) ?_
  refine z_put (fs' := [.int 0, .int (-1), .int 0, .ref wev, .int 0, .ref wnb, .int 0, .ref wki, .ref wmy, .ref wce, .ref wiw, .ref wli, .ref wha, .ref wwt, .int 0, .ref wfy, .ref wfk, .int 0, .ref wem, .ref wna, .ref wpl, .ref whs, .long 1, .int 0, .ref wk1, .ref wk2, .ref wk3]) C hz hS p0 zl8 mFX8_80 (by decide) rfl rfl rfl (Nat.le_of_ble_eq_true rfl) rfl dX8_wipe_7 (fun H locs f1 a2 k3 hz hS => ?_)
  refine lv_iload_n hx hb dX8_wipe_10 rfl (lv_at hl 0 rfl) ?_
  exact z_iret C hr rfl hz hS rfl (Nat.le_of_ble_eq_true rfl) (Nat.le_of_ble_eq_true rfl) dX8_wipe_11
