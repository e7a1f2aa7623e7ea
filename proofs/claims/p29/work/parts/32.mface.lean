theorem z_neg0 {x : Int64} (h : -x = 0) : x = 0 := by
  have h2 : - -x = -(0 : Int64) := by rw [h]
  rw [Int64.neg_neg] at h2
  exact h2.trans (by decide)
theorem z_rt {v : Int64} {n : Nat} (h : v = (-1) ∨ ∃ j, j < n ∧ v = lN j) (h2 : ¬ v.toInt32 = (-1)) : ∃ j, j < n ∧ v = lN j := by
  rcases h with h | h
  · exact absurd (by rw [h]; decide) h2
  · exact h
theorem z_par1 {v : Int64} {n m : Nat} (h : v = (-1) ∨ ∃ j, j < n ∧ v = lN j) (hm : n ≤ m) : v.toInt32 = (-1) ∨ ∃ j, j < m ∧ v.toInt32 = nI j := by
  rcases h with h | ⟨j, hj, h⟩
  · exact Or.inl (by rw [h]; decide)
  · exact Or.inr ⟨j, by omega, by rw [h]; exact lN_i j⟩
theorem z_par0 {gc : Nat → Int64} {i n m : Nat} (h : ∃ j, j < n ∧ gc (16 * i) = lN j) (hm : n ≤ m) : (gc (16 * i + 0)).toInt32 = (-1) ∨ ∃ j, j < m ∧ (gc (16 * i + 0)).toInt32 = nI j := z_par1 (v := gc (16 * i + 0)) (Or.inr h) hm
abbrev rmX8_heavyOf : Room := { frames := 0, cells := 0, slots := 0, locals := 0 }
set_option maxHeartbeats 4000000 in
set_option maxRecDepth 100000 in
theorem k_X8_heavyOf (l : Launch) (D : va_G) (cy : Nat → ClassId) (f : zM) (o : Nat) (wev : Nat) (wnb : Nat) (wki : Nat) (wmy : Nat) (wce : Nat) (wiw : Nat) (wli : Nat) (wha : Nat) (wwt : Nat) (wfy : Nat) (wfk : Nat) (wem : Nat) (wna : Nat) (wpl : Nat) (whs : Nat) (wk1 : Nat) (wk2 : Nat) (wk3 : Nat) (u1 : Int32) (u2 : Int32) (u3 : Int32) (nl : Nat) (nn : Nat) (nf : Nat) (nc : Nat) (lk : Int64) (ks : Nat) (gk : Nat → Int32) (gt : Nat → Int64) (j : Nat) (p0 : f o = some (.inr (8, [.int u1, .int u2, .int u3, .ref wev, .int (nI nl), .ref wnb, .int (nI nn), .ref wki, .ref wmy, .ref wce, .ref wiw, .ref wli, .ref wha, .ref wwt, .int (nI nf), .ref wfy, .ref wfk, .int (nI nc), .ref wem, .ref wna, .ref wpl, .ref whs, .long lk, .int (nI ks), .ref wk1, .ref wk2, .ref wk3]))) (p1 : f wki = some (.inl (cy 0, 60, .inl gk))) (p2 : f wwt = some (.inl (cy 1, 60, .inr (.inl gt))))  (hj60 : j < 60) : zCl l D cy yX8_heavyOf cX8_heavyOf 4 (Option.some Jvm.ClassFile.FieldType.long) rmX8_heavyOf [.ref o, .int (nI j)] f (fun (r : Int64) (f1 : zM) => (∀ (b : Nat) (e : va_E), f b = some e → f1 b = some e)) := by
  intro sz
  refine z_body (by decide +kernel) (Nat.le_of_ble_eq_true rfl) ?_
  intro p e s m below meth c ls C hr hin hsz hz hl
  subst hsz
  have hx := C.1
  have hb := C.2.1
  have hA : ∀ q, s.heap.size ≤ q → zA f s.heap.size q := fun q h => Or.inr h
  have hS : va_S (zA f s.heap.size) s.heap s.heap [] := va_S.rf
  have hl : lv_has ls 4 [(0, .ref o), (1, .int (nI j))] := hl
  refine lv_ldc2 (v := 2) hx hb C.2.2.2.1 (C.2.2.2.2.1 _ mKX8_155) dX8_heavyOf_0 ?_
  refine lv_aload_n hx hb dX8_heavyOf_3 rfl (lv_at hl 0 rfl) ?_
  refine z_get (v := .ref wwt) C hz p0 zl8 mFX8_40 (by decide) rfl dX8_heavyOf_4 ?_
  refine lv_iload_n hx hb dX8_heavyOf_7 rfl (lv_at hl 1 rfl) ?_
  refine z_lald j C hz p2 rfl hj60 (by omega) dX8_heavyOf_8 ?_
  refine lv_lmul hx hb dX8_heavyOf_9 ?_
  refine lv_lconst (v := 1) hx hb dX8_heavyOf_10 (by decide) ?_
  refine lv_ladd hx hb dX8_heavyOf_11 ?_
  refine lv_lstore_n (lv' := [(2, .long ((2 * (gt j)) + 1)), (0, .ref o), (1, .int (nI j))]) hx hb dX8_heavyOf_12 rfl hl (by decide) rfl (fun ls hl => ?_)
  refine lv_aload_n hx hb dX8_heavyOf_13 rfl (lv_at hl 1 rfl) ?_
  refine z_get (v := .ref wki) C hz p0 zl8 mFX8_20 (by decide) rfl dX8_heavyOf_14 ?_
  refine lv_iload_n hx hb dX8_heavyOf_17 rfl (lv_at hl 2 rfl) ?_
  refine z_iald j C hz p1 rfl hj60 (by omega) dX8_heavyOf_18 ?_
  refine lv_iconst (v := 4) hx hb dX8_heavyOf_19 (by decide) ?_
  refine lv_icmp_ne (tgt := 32) hx hb dX8_heavyOf_20 (by decide) (fun c1 => ?_) (fun c1 => ?_)
  · refine lv_aload_n hx hb dX8_heavyOf_32 rfl (lv_at hl 1 rfl) ?_
    refine z_get (v := .ref wki) C hz p0 zl8 mFX8_20 (by decide) rfl dX8_heavyOf_33 ?_
    refine lv_iload_n hx hb dX8_heavyOf_36 rfl (lv_at hl 2 rfl) ?_
    refine z_iald j C hz p1 rfl hj60 (by omega) dX8_heavyOf_37 ?_
    refine lv_iconst (v := 1) hx hb dX8_heavyOf_38 (by decide) ?_
    refine lv_icmp_eq (tgt := 52) hx hb dX8_heavyOf_39 (by decide) (fun c2 => ?_) (fun c2 => ?_)
    · refine lv_ldc2 (v := 3) hx hb C.2.2.2.1 (C.2.2.2.2.1 _ mKX8_157) dX8_heavyOf_52 ?_
      refine lv_lload_n hx hb dX8_heavyOf_55 rfl (lv_at hl 0 rfl) ?_
      refine lv_lmul hx hb dX8_heavyOf_56 ?_
      refine lv_goto (tgt := 61) hx hb dX8_heavyOf_57 (by decide) ?_
      exact z_lret C hr hz hS (fun b e hb => hb) (Nat.le_of_ble_eq_true rfl) (Nat.le_of_ble_eq_true rfl) dX8_heavyOf_61
    · refine lv_aload_n hx hb dX8_heavyOf_42 rfl (lv_at hl 1 rfl) ?_
      refine z_get (v := .ref wki) C hz p0 zl8 mFX8_20 (by decide) rfl dX8_heavyOf_43 ?_
      refine lv_iload_n hx hb dX8_heavyOf_46 rfl (lv_at hl 2 rfl) ?_
      refine z_iald j C hz p1 rfl hj60 (by omega) dX8_heavyOf_47 ?_
      refine lv_iconst (v := 2) hx hb dX8_heavyOf_48 (by decide) ?_
      refine lv_icmp_ne (tgt := 60) hx hb dX8_heavyOf_49 (by decide) (fun c3 => ?_) (fun c3 => ?_)
      · refine lv_lload_n hx hb dX8_heavyOf_60 rfl (lv_at hl 0 rfl) ?_
        exact z_lret C hr hz hS (fun b e hb => hb) (Nat.le_of_ble_eq_true rfl) (Nat.le_of_ble_eq_true rfl) dX8_heavyOf_61
      · refine lv_ldc2 (v := 3) hx hb C.2.2.2.1 (C.2.2.2.2.1 _ mKX8_157) dX8_heavyOf_52 ?_
        refine lv_lload_n hx hb dX8_heavyOf_55 rfl (lv_at hl 0 rfl) ?_
        refine lv_lmul hx hb dX8_heavyOf_56 ?_
        refine lv_goto (tgt := 61) hx hb dX8_heavyOf_57 (by decide) ?_
        exact z_lret C hr hz hS (fun b e hb => hb) (Nat.le_of_ble_eq_true rfl) (Nat.le_of_ble_eq_true rfl) dX8_heavyOf_61
  · refine lv_aload_n hx hb dX8_heavyOf_23 rfl (lv_at hl 1 rfl) ?_
    refine z_get (v := .ref wwt) C hz p0 zl8 mFX8_40 (by decide) rfl dX8_heavyOf_24 ?_
    refine lv_iload_n hx hb dX8_heavyOf_27 rfl (lv_at hl 2 rfl) ?_
    refine z_lald j C hz p2 rfl hj60 (by omega) dX8_heavyOf_28 ?_
    refine lv_goto (tgt := 61) hx hb dX8_heavyOf_29 (by decide) ?_
    exact z_lret C hr hz hS (fun b e hb => hb) (Nat.le_of_ble_eq_true rfl) (Nat.le_of_ble_eq_true rfl) dX8_heavyOf_61
abbrev rmX8_weightOf : Room := { frames := 1, cells := 0, slots := 0, locals := 23 }
set_option maxHeartbeats 4000000 in
set_option maxRecDepth 100000 in
theorem k_X8_weightOf (l : Launch) (D : va_G) (cy : Nat → ClassId) (f : zM) (o : Nat) (wev : Nat) (wnb : Nat) (wki : Nat) (wmy : Nat) (wce : Nat) (wiw : Nat) (wli : Nat) (wha : Nat) (wwt : Nat) (wfy : Nat) (wfk : Nat) (wem : Nat) (wna : Nat) (wpl : Nat) (whs : Nat) (wk1 : Nat) (wk2 : Nat) (wk3 : Nat) (u1 : Int32) (u2 : Int32) (u3 : Int32) (nl : Nat) (nn : Nat) (nf : Nat) (nc : Nat) (lk : Int64) (ks : Nat) (gk : Nat → Int32) (gm : Nat → Int32) (gc : Nat → Int64) (gt : Nat → Int64) (ln : Nat → Nat) (j : Nat) (p0 : f o = some (.inr (8, [.int u1, .int u2, .int u3, .ref wev, .int (nI nl), .ref wnb, .int (nI nn), .ref wki, .ref wmy, .ref wce, .ref wiw, .ref wli, .ref wha, .ref wwt, .int (nI nf), .ref wfy, .ref wfk, .int (nI nc), .ref wem, .ref wna, .ref wpl, .ref whs, .long lk, .int (nI ks), .ref wk1, .ref wk2, .ref wk3]))) (p1 : f wki = some (.inl (cy 0, 60, .inl gk))) (p2 : f wmy = some (.inl (cy 0, 60, .inl gm))) (p3 : f wce = some (.inl (cy 1, 960, .inr (.inl gc)))) (p4 : f wwt = some (.inl (cy 1, 60, .inr (.inl gt))))  (hn60 : nn ≤ 60) (hMP : zMP nn gk gm gc ln) (hj : j < nn) : zCl l D cy yX8_weightOf cX8_weightOf 8 (Option.some Jvm.ClassFile.FieldType.long) rmX8_weightOf [.ref o, .int (nI j)] f (fun (r : Int64) (f1 : zM) => (∀ (b : Nat) (e : va_E), f b = some e → f1 b = some e)) := by
  intro sz
  refine z_body (by decide +kernel) (Nat.le_of_ble_eq_true rfl) ?_
  intro p e s m below meth c ls C hr hin hsz hz hl
  subst hsz
  have hx := C.1
  have hb := C.2.1
  have hA : ∀ q, s.heap.size ≤ q → zA f s.heap.size q := fun q h => Or.inr h
  have hS : va_S (zA f s.heap.size) s.heap s.heap [] := va_S.rf
  have hl : lv_has ls 8 [(0, .ref o), (1, .int (nI j))] := hl
  have hlj := (hMP j hj).2.1
  refine lv_aload_n hx hb dX8_weightOf_0 rfl (lv_at hl 0 rfl) ?_
  refine z_get (v := .ref wki) C hz p0 zl8 mFX8_20 (by decide) rfl dX8_weightOf_1 ?_
  refine lv_iload_n hx hb dX8_weightOf_4 rfl (lv_at hl 1 rfl) ?_
  refine z_iald j C hz p1 rfl (by omega) (by omega) dX8_weightOf_5 ?_
  by_cases c1_0 : (gk j) = 0
  · refine lv_tableIn (off := 38) (tgt := 44) hx hb dX8_weightOf_6 (by rw [c1_0]; decide) (by rw [c1_0]; decide) (by rw [c1_0]; decide) (by decide) ?_
    refine lv_lconst (v := 1) hx hb dX8_weightOf_44 (by decide) ?_
    exact z_lret C hr hz hS (fun b e hb => hb) (Nat.le_of_ble_eq_true rfl) (Nat.le_of_ble_eq_true rfl) dX8_weightOf_45
  by_cases c1_1 : (gk j) = 1
  · refine lv_tableIn (off := 40) (tgt := 46) hx hb dX8_weightOf_6 (by rw [c1_1]; decide) (by rw [c1_1]; decide) (by rw [c1_1]; decide) (by decide) ?_
    refine lv_aload_n hx hb dX8_weightOf_46 rfl (lv_at hl 0 rfl) ?_
    refine lv_iload_n hx hb dX8_weightOf_47 rfl (lv_at hl 1 rfl) ?_
    refine lv_iconst (v := 1) hx hb dX8_weightOf_48 (by decide) ?_
    refine z_callVl (As := [.int (nI j), .int 1]) C hz hS hA hl (k_X8_cellOf l D cy f o wev wnb wki wmy wce wiw wli wha wwt wfy wfk wem wna wpl whs wk1 wk2 wk3 u1 u2 u3 nl nn nf nc lk ks gc j 1 p0 p3 (by omega)) zyX8_cellOf mMX8_90 p0 zl8 rfl rfl (Nat.le_of_ble_eq_true rfl) ⟨Nat.le_of_ble_eq_true rfl, Nat.le_of_ble_eq_true rfl⟩ ⟨Nat.le_of_ble_eq_true rfl, Nat.le_of_ble_eq_true rfl⟩ dX8_weightOf_49 (fun r f2 H locs h3 hz hS => ?_)
    obtain ⟨rfl, k4⟩ := h3
    refine lv_aload_n hx hb dX8_weightOf_52 rfl (lv_at hl 0 rfl) ?_
    refine lv_iload_n hx hb dX8_weightOf_53 rfl (lv_at hl 1 rfl) ?_
    refine lv_iconst (v := 0) hx hb dX8_weightOf_54 (by decide) ?_
    have a5 : f2 o = some (.inr (8, [.int u1, .int u2, .int u3, .ref wev, .int (nI nl), .ref wnb, .int (nI nn), .ref wki, .ref wmy, .ref wce, .ref wiw, .ref wli, .ref wha, .ref wwt, .int (nI nf), .ref wfy, .ref wfk, .int (nI nc), .ref wem, .ref wna, .ref wpl, .ref whs, .long lk, .int (nI ks), .ref wk1, .ref wk2, .ref wk3])) := k4 _ _ p0 
    have a6 : f2 wce = some (.inl (cy 1, 960, .inr (.inl gc))) := k4 _ _ p3 
    refine z_callVl (As := [.int (nI j), .int 0]) C hz hS hA hl (k_X8_cellOf l D cy f2 o wev wnb wki wmy wce wiw wli wha wwt wfy wfk wem wna wpl whs wk1 wk2 wk3 u1 u2 u3 nl nn nf nc lk ks gc j 0 a5 a6 (by omega)) zyX8_cellOf mMX8_90 a5 zl8 rfl rfl (Nat.le_of_ble_eq_true rfl) ⟨Nat.le_of_ble_eq_true rfl, Nat.le_of_ble_eq_true rfl⟩ ⟨Nat.le_of_ble_eq_true rfl, Nat.le_of_ble_eq_true rfl⟩ dX8_weightOf_55 (fun r f7 H locs h8 hz hS => ?_)
    obtain ⟨rfl, k9⟩ := h8
    refine lv_lsub hx hb dX8_weightOf_58 ?_
    refine lv_lconst (v := 1) hx hb dX8_weightOf_59 (by decide) ?_
    refine lv_ladd hx hb dX8_weightOf_60 ?_
    exact z_lret C hr hz hS (by
          intro b e hb 
          have hb0 : f2 b = some e := k4 b e hb 
          have hb1 : f7 b = some e := k9 b e hb0 
          exact hb1) (Nat.le_of_ble_eq_true rfl) (Nat.le_of_ble_eq_true rfl) dX8_weightOf_61
  by_cases c1_2 : (gk j) = 2
  · refine lv_tableIn (off := 56) (tgt := 62) hx hb dX8_weightOf_6 (by rw [c1_2]; decide) (by rw [c1_2]; decide) (by rw [c1_2]; decide) (by decide) ?_
    refine lv_aload_n hx hb dX8_weightOf_62 rfl (lv_at hl 0 rfl) ?_
    refine lv_iload_n hx hb dX8_weightOf_63 rfl (lv_at hl 1 rfl) ?_
    refine lv_iconst (v := 2) hx hb dX8_weightOf_64 (by decide) ?_
    refine z_callVl (As := [.int (nI j), .int 2]) C hz hS hA hl (k_X8_cellOf l D cy f o wev wnb wki wmy wce wiw wli wha wwt wfy wfk wem wna wpl whs wk1 wk2 wk3 u1 u2 u3 nl nn nf nc lk ks gc j 2 p0 p3 (by omega)) zyX8_cellOf mMX8_90 p0 zl8 rfl rfl (Nat.le_of_ble_eq_true rfl) ⟨Nat.le_of_ble_eq_true rfl, Nat.le_of_ble_eq_true rfl⟩ ⟨Nat.le_of_ble_eq_true rfl, Nat.le_of_ble_eq_true rfl⟩ dX8_weightOf_65 (fun r f10 H locs h11 hz hS => ?_)
    obtain ⟨rfl, k12⟩ := h11
    refine lv_lstore_n (lv' := [(2, .long (gc (16 * j + 2))), (0, .ref o), (1, .int (nI j))]) hx hb dX8_weightOf_68 rfl hl (by decide) rfl (fun ls hl => ?_)
    have hs0 := (hMP j hj).2.2.2.1 c1_2
    refine lv_aload_n hx hb dX8_weightOf_69 rfl (lv_at hl 1 rfl) ?_
    refine lv_iload_n hx hb dX8_weightOf_70 rfl (lv_at hl 2 rfl) ?_
    refine lv_iconst (v := 1) hx hb dX8_weightOf_71 (by decide) ?_
    have a13 : f10 o = some (.inr (8, [.int u1, .int u2, .int u3, .ref wev, .int (nI nl), .ref wnb, .int (nI nn), .ref wki, .ref wmy, .ref wce, .ref wiw, .ref wli, .ref wha, .ref wwt, .int (nI nf), .ref wfy, .ref wfk, .int (nI nc), .ref wem, .ref wna, .ref wpl, .ref whs, .long lk, .int (nI ks), .ref wk1, .ref wk2, .ref wk3])) := k12 _ _ p0 
    have a14 : f10 wce = some (.inl (cy 1, 960, .inr (.inl gc))) := k12 _ _ p3 
    refine z_callVl (As := [.int (nI j), .int 1]) C hz hS hA hl (k_X8_cellOf l D cy f10 o wev wnb wki wmy wce wiw wli wha wwt wfy wfk wem wna wpl whs wk1 wk2 wk3 u1 u2 u3 nl nn nf nc lk ks gc j 1 a13 a14 (by omega)) zyX8_cellOf mMX8_90 a13 zl8 rfl rfl (Nat.le_of_ble_eq_true rfl) ⟨Nat.le_of_ble_eq_true rfl, Nat.le_of_ble_eq_true rfl⟩ ⟨Nat.le_of_ble_eq_true rfl, Nat.le_of_ble_eq_true rfl⟩ dX8_weightOf_72 (fun r f15 H locs h16 hz hS => ?_)
    obtain ⟨rfl, k17⟩ := h16
    refine lv_aload_n hx hb dX8_weightOf_75 rfl (lv_at hl 1 rfl) ?_
    refine lv_iload_n hx hb dX8_weightOf_76 rfl (lv_at hl 2 rfl) ?_
    refine lv_iconst (v := 0) hx hb dX8_weightOf_77 (by decide) ?_
    have a18 : f15 o = some (.inr (8, [.int u1, .int u2, .int u3, .ref wev, .int (nI nl), .ref wnb, .int (nI nn), .ref wki, .ref wmy, .ref wce, .ref wiw, .ref wli, .ref wha, .ref wwt, .int (nI nf), .ref wfy, .ref wfk, .int (nI nc), .ref wem, .ref wna, .ref wpl, .ref whs, .long lk, .int (nI ks), .ref wk1, .ref wk2, .ref wk3])) := k17 _ _ a13 
    have a19 : f15 wce = some (.inl (cy 1, 960, .inr (.inl gc))) := k17 _ _ a14 
    refine z_callVl (As := [.int (nI j), .int 0]) C hz hS hA hl (k_X8_cellOf l D cy f15 o wev wnb wki wmy wce wiw wli wha wwt wfy wfk wem wna wpl whs wk1 wk2 wk3 u1 u2 u3 nl nn nf nc lk ks gc j 0 a18 a19 (by omega)) zyX8_cellOf mMX8_90 a18 zl8 rfl rfl (Nat.le_of_ble_eq_true rfl) ⟨Nat.le_of_ble_eq_true rfl, Nat.le_of_ble_eq_true rfl⟩ ⟨Nat.le_of_ble_eq_true rfl, Nat.le_of_ble_eq_true rfl⟩ dX8_weightOf_78 (fun r f20 H locs h21 hz hS => ?_)
    obtain ⟨rfl, k22⟩ := h21
    refine lv_lsub hx hb dX8_weightOf_81 ?_
    refine lv_lconst (v := 1) hx hb dX8_weightOf_82 (by decide) ?_
    refine lv_ladd hx hb dX8_weightOf_83 ?_
    refine lv_lload_n hx hb dX8_weightOf_84 rfl (lv_at hl 0 rfl) ?_
    refine lv_lconst (v := 0) hx hb dX8_weightOf_85 (by decide) ?_
    refine W.lcmp hx hb dX8_weightOf_86 ?_
    refine lv_if_ge (tgt := 95) hx hb dX8_weightOf_87 (by decide) (fun c23 => ?_) (fun c23 => ?_)
    · refine lv_lload_n hx hb dX8_weightOf_95 rfl (lv_at hl 0 rfl) ?_
      refine lv_ldiv hx hb dX8_weightOf_96 hs0 ?_
      refine lv_lconst (v := 1) hx hb dX8_weightOf_97 (by decide) ?_
      refine lv_ladd hx hb dX8_weightOf_98 ?_
      exact z_lret C hr hz hS (by
            intro b e hb 
            have hb0 : f10 b = some e := k12 b e hb 
            have hb1 : f15 b = some e := k17 b e hb0 
            have hb2 : f20 b = some e := k22 b e hb1 
            exact hb2) (Nat.le_of_ble_eq_true rfl) (Nat.le_of_ble_eq_true rfl) dX8_weightOf_99
    · refine lv_lload_n hx hb dX8_weightOf_90 rfl (lv_at hl 0 rfl) ?_
      refine lv_lneg hx hb dX8_weightOf_91 ?_
      refine lv_goto (tgt := 96) hx hb dX8_weightOf_92 (by decide) ?_
      refine lv_ldiv hx hb dX8_weightOf_96 (fun h9 => hs0 (z_neg0 h9)) ?_
      refine lv_lconst (v := 1) hx hb dX8_weightOf_97 (by decide) ?_
      refine lv_ladd hx hb dX8_weightOf_98 ?_
      exact z_lret C hr hz hS (by
            intro b e hb 
            have hb0 : f10 b = some e := k12 b e hb 
            have hb1 : f15 b = some e := k17 b e hb0 
            have hb2 : f20 b = some e := k22 b e hb1 
            exact hb2) (Nat.le_of_ble_eq_true rfl) (Nat.le_of_ble_eq_true rfl) dX8_weightOf_99
  by_cases c1_3 : (gk j) = 3
  · refine lv_tableIn (off := 94) (tgt := 100) hx hb dX8_weightOf_6 (by rw [c1_3]; decide) (by rw [c1_3]; decide) (by rw [c1_3]; decide) (by decide) ?_
    refine lv_aload_n hx hb dX8_weightOf_100 rfl (lv_at hl 0 rfl) ?_
    refine lv_iload_n hx hb dX8_weightOf_101 rfl (lv_at hl 1 rfl) ?_
    refine lv_iconst (v := 2) hx hb dX8_weightOf_102 (by decide) ?_
    refine z_callVl (As := [.int (nI j), .int 2]) C hz hS hA hl (k_X8_cellOf l D cy f o wev wnb wki wmy wce wiw wli wha wwt wfy wfk wem wna wpl whs wk1 wk2 wk3 u1 u2 u3 nl nn nf nc lk ks gc j 2 p0 p3 (by omega)) zyX8_cellOf mMX8_90 p0 zl8 rfl rfl (Nat.le_of_ble_eq_true rfl) ⟨Nat.le_of_ble_eq_true rfl, Nat.le_of_ble_eq_true rfl⟩ ⟨Nat.le_of_ble_eq_true rfl, Nat.le_of_ble_eq_true rfl⟩ dX8_weightOf_103 (fun r f24 H locs h25 hz hS => ?_)
    obtain ⟨rfl, k26⟩ := h25
    exact z_lret C hr hz hS (by
          intro b e hb 
          have hb0 : f24 b = some e := k26 b e hb 
          exact hb0) (Nat.le_of_ble_eq_true rfl) (Nat.le_of_ble_eq_true rfl) dX8_weightOf_106
  by_cases c1_4 : (gk j) = 4
  · refine lv_tableIn (off := 101) (tgt := 107) hx hb dX8_weightOf_6 (by rw [c1_4]; decide) (by rw [c1_4]; decide) (by rw [c1_4]; decide) (by decide) ?_
    obtain ⟨-, ⟨jl, hjl, e0⟩, hrt⟩ := (hMP j hj).2.2.1 c1_4
    refine lv_aload_n hx hb dX8_weightOf_107 rfl (lv_at hl 0 rfl) ?_
    refine lv_iload_n hx hb dX8_weightOf_108 rfl (lv_at hl 1 rfl) ?_
    refine lv_iconst (v := 1) hx hb dX8_weightOf_109 (by decide) ?_
    refine z_callVl (As := [.int (nI j), .int 1]) C hz hS hA hl (k_X8_cellOf l D cy f o wev wnb wki wmy wce wiw wli wha wwt wfy wfk wem wna wpl whs wk1 wk2 wk3 u1 u2 u3 nl nn nf nc lk ks gc j 1 p0 p3 (by omega)) zyX8_cellOf mMX8_90 p0 zl8 rfl rfl (Nat.le_of_ble_eq_true rfl) ⟨Nat.le_of_ble_eq_true rfl, Nat.le_of_ble_eq_true rfl⟩ ⟨Nat.le_of_ble_eq_true rfl, Nat.le_of_ble_eq_true rfl⟩ dX8_weightOf_110 (fun r f27 H locs h28 hz hS => ?_)
    obtain ⟨rfl, k29⟩ := h28
    refine lv_l2i (v := (gc (16 * j + 1)).toInt32) hx hb dX8_weightOf_113 rfl ?_
    refine lv_istore (lv' := [(4, .int ((gc (16 * j + 1)).toInt32)), (0, .ref o), (1, .int (nI j))]) hx hb dX8_weightOf_114 hl (by decide) rfl (fun ls hl => ?_)
    refine lv_aload_n hx hb dX8_weightOf_116 rfl (lv_at hl 1 rfl) ?_
    refine lv_aload_n hx hb dX8_weightOf_117 rfl (lv_at hl 1 rfl) ?_
    refine lv_iload_n hx hb dX8_weightOf_118 rfl (lv_at hl 2 rfl) ?_
    refine lv_iconst (v := 0) hx hb dX8_weightOf_119 (by decide) ?_
    have a30 : f27 o = some (.inr (8, [.int u1, .int u2, .int u3, .ref wev, .int (nI nl), .ref wnb, .int (nI nn), .ref wki, .ref wmy, .ref wce, .ref wiw, .ref wli, .ref wha, .ref wwt, .int (nI nf), .ref wfy, .ref wfk, .int (nI nc), .ref wem, .ref wna, .ref wpl, .ref whs, .long lk, .int (nI ks), .ref wk1, .ref wk2, .ref wk3])) := k29 _ _ p0 
    have a31 : f27 wce = some (.inl (cy 1, 960, .inr (.inl gc))) := k29 _ _ p3 
    refine z_callVl (As := [.int (nI j), .int 0]) C hz hS hA hl (k_X8_cellOf l D cy f27 o wev wnb wki wmy wce wiw wli wha wwt wfy wfk wem wna wpl whs wk1 wk2 wk3 u1 u2 u3 nl nn nf nc lk ks gc j 0 a30 a31 (by omega)) zyX8_cellOf mMX8_90 a30 zl8 rfl rfl (Nat.le_of_ble_eq_true rfl) ⟨Nat.le_of_ble_eq_true rfl, Nat.le_of_ble_eq_true rfl⟩ ⟨Nat.le_of_ble_eq_true rfl, Nat.le_of_ble_eq_true rfl⟩ dX8_weightOf_120 (fun r f32 H locs h33 hz hS => ?_)
    obtain ⟨rfl, k34⟩ := h33
    refine lv_l2i (v := (gc (16 * j + 0)).toInt32) hx hb dX8_weightOf_123 rfl ?_
    refine lv_topi (fun y35 e36 => ?_)
    obtain rfl : y35 = nI jl := e36.trans (by rw [show 16 * j + 0 = 16 * j from rfl, e0]; exact lN_i jl)
    have a37 : f32 o = some (.inr (8, [.int u1, .int u2, .int u3, .ref wev, .int (nI nl), .ref wnb, .int (nI nn), .ref wki, .ref wmy, .ref wce, .ref wiw, .ref wli, .ref wha, .ref wwt, .int (nI nf), .ref wfy, .ref wfk, .int (nI nc), .ref wem, .ref wna, .ref wpl, .ref whs, .long lk, .int (nI ks), .ref wk1, .ref wk2, .ref wk3])) := k34 _ _ a30 
    have a38 : f27 wki = some (.inl (cy 0, 60, .inl gk)) := k29 _ _ p1 
    have a39 : f32 wki = some (.inl (cy 0, 60, .inl gk)) := k34 _ _ a38 
    have a40 : f27 wwt = some (.inl (cy 1, 60, .inr (.inl gt))) := k29 _ _ p4 
    have a41 : f32 wwt = some (.inl (cy 1, 60, .inr (.inl gt))) := k34 _ _ a40 
    refine z_callVl (As := [.int (nI jl)]) C hz hS hA hl (k_X8_heavyOf l D cy f32 o wev wnb wki wmy wce wiw wli wha wwt wfy wfk wem wna wpl whs wk1 wk2 wk3 u1 u2 u3 nl nn nf nc lk ks gk gt jl a37 a39 a41 (by omega)) zyX8_heavyOf mMX8_159 a37 zl8 rfl rfl (Nat.le_of_ble_eq_true rfl) ⟨Nat.le_of_ble_eq_true rfl, Nat.le_of_ble_eq_true rfl⟩ ⟨Nat.le_of_ble_eq_true rfl, Nat.le_of_ble_eq_true rfl⟩ dX8_weightOf_124 (fun r44 f42 H locs h43 hz hS => ?_)
    have k45 := h43
    refine lv_iload hx hb dX8_weightOf_127 (lv_at hl 0 rfl) ?_
    refine lv_iconst (v := (-1)) hx hb dX8_weightOf_129 (by decide) ?_
    refine lv_icmp_ne (tgt := 137) hx hb dX8_weightOf_130 (by decide) (fun c46 => ?_) (fun c46 => ?_)
    · obtain ⟨jr, hjr, e1⟩ := z_rt hrt c46
      refine lv_aload_n hx hb dX8_weightOf_137 rfl (lv_at hl 1 rfl) ?_
      have a47 : f42 o = some (.inr (8, [.int u1, .int u2, .int u3, .ref wev, .int (nI nl), .ref wnb, .int (nI nn), .ref wki, .ref wmy, .ref wce, .ref wiw, .ref wli, .ref wha, .ref wwt, .int (nI nf), .ref wfy, .ref wfk, .int (nI nc), .ref wem, .ref wna, .ref wpl, .ref whs, .long lk, .int (nI ks), .ref wk1, .ref wk2, .ref wk3])) := k45 _ _ a37 
      refine z_get (v := .ref wwt) C hz a47 zl8 mFX8_40 (by decide) rfl dX8_weightOf_138 ?_
      refine lv_iload hx hb dX8_weightOf_141 (lv_at hl 0 rfl) ?_
      have a48 : f42 wwt = some (.inl (cy 1, 60, .inr (.inl gt))) := k45 _ _ a41 
      refine z_lald jr C hz a48 (by rw [e1]; exact lN_i jr) (by omega) (by omega) dX8_weightOf_143 ?_
      refine lv_ladd hx hb dX8_weightOf_144 ?_
      exact z_lret C hr hz hS (by
            intro b e hb 
            have hb0 : f27 b = some e := k29 b e hb 
            have hb1 : f32 b = some e := k34 b e hb0 
            have hb2 : f42 b = some e := k45 b e hb1 
            exact hb2) (Nat.le_of_ble_eq_true rfl) (Nat.le_of_ble_eq_true rfl) dX8_weightOf_145
    · refine lv_lconst (v := 0) hx hb dX8_weightOf_133 (by decide) ?_
      refine lv_goto (tgt := 144) hx hb dX8_weightOf_134 (by decide) ?_
      refine lv_ladd hx hb dX8_weightOf_144 ?_
      exact z_lret C hr hz hS (by
            intro b e hb 
            have hb0 : f27 b = some e := k29 b e hb 
            have hb1 : f32 b = some e := k34 b e hb0 
            have hb2 : f42 b = some e := k45 b e hb1 
            exact hb2) (Nat.le_of_ble_eq_true rfl) (Nat.le_of_ble_eq_true rfl) dX8_weightOf_145
  by_cases c1_5 : (gk j) = 5
  · refine lv_tableIn (off := 140) (tgt := 146) hx hb dX8_weightOf_6 (by rw [c1_5]; decide) (by rw [c1_5]; decide) (by rw [c1_5]; decide) (by decide) ?_
    refine lv_aload_n hx hb dX8_weightOf_146 rfl (lv_at hl 0 rfl) ?_
    refine lv_iload_n hx hb dX8_weightOf_147 rfl (lv_at hl 1 rfl) ?_
    refine lv_iconst (v := 2) hx hb dX8_weightOf_148 (by decide) ?_
    refine z_callVl (As := [.int (nI j), .int 2]) C hz hS hA hl (k_X8_cellOf l D cy f o wev wnb wki wmy wce wiw wli wha wwt wfy wfk wem wna wpl whs wk1 wk2 wk3 u1 u2 u3 nl nn nf nc lk ks gc j 2 p0 p3 (by omega)) zyX8_cellOf mMX8_90 p0 zl8 rfl rfl (Nat.le_of_ble_eq_true rfl) ⟨Nat.le_of_ble_eq_true rfl, Nat.le_of_ble_eq_true rfl⟩ ⟨Nat.le_of_ble_eq_true rfl, Nat.le_of_ble_eq_true rfl⟩ dX8_weightOf_149 (fun r f49 H locs h50 hz hS => ?_)
    obtain ⟨rfl, k51⟩ := h50
    exact z_lret C hr hz hS (by
          intro b e hb 
          have hb0 : f49 b = some e := k51 b e hb 
          exact hb0) (Nat.le_of_ble_eq_true rfl) (Nat.le_of_ble_eq_true rfl) dX8_weightOf_152
  refine lv_tableOut (tgt := 153) hx hb dX8_weightOf_6 (by have t0 := lv_neT c1_0 (a := 0) (by decide); have t1 := lv_neT c1_1 (a := 1) (by decide); have t2 := lv_neT c1_2 (a := 2) (by decide); have t3 := lv_neT c1_3 (a := 3) (by decide); have t4 := lv_neT c1_4 (a := 4) (by decide); have t5 := lv_neT c1_5 (a := 5) (by decide);  omega) (by decide) ?_
  refine lv_lconst (v := 0) hx hb dX8_weightOf_153 (by decide) ?_
  refine lv_lstore (lv' := [(5, .long 0), (0, .ref o), (1, .int (nI j))]) hx hb dX8_weightOf_154 hl (by decide) rfl (fun ls hl => ?_)
  refine lv_iconst (v := 1) hx hb dX8_weightOf_156 (by decide) ?_
  refine lv_istore (lv' := [(7, .int 1), (5, .long 0), (0, .ref o), (1, .int (nI j))]) hx hb dX8_weightOf_157 hl (by decide) rfl (fun ls hl => ?_)
  have lp52 : ∀ (n : Nat) (nv : Int64) (kx : Nat) (fL53 : zM) (H : Heap) (locs : List Loc) (ls : Array Slot), (20 - kx) < n → (kx ≤ 16) → (∀ (b : Nat) (e : va_E), f b = some e → fL53 b = some e) → zH D (zA f s.heap.size) fL53 H → va_S (zA f s.heap.size) s.heap H locs → lv_has ls 8 [(0, .ref o), (1, .int (nI j)), (5, .long nv), (7, .int (nI kx))] → W p l e rmX8_weightOf s m ([.ref o, .int (nI j)] : List Value).toArray below meth c H locs 0 0 (MQ below (va_Ql (fun (r : Int64) (f1 : zM) => (∀ (b : Nat) (e : va_E), f b = some e → f1 b = some e)) (zB D f s.heap.size) (zA f s.heap.size)) ([.ref o, .int (nI j)] : List Value).toArray s rmX8_weightOf.cells rmX8_weightOf.slots (zA f s.heap.size)) (F0 m 159 ls []) := by
    intro n
    induction n with
    | zero => intro nv kx fL53 H locs ls hmz; exact absurd hmz (Nat.not_lt_zero _)
    | succ n ih =>
      intro nv kx fL53 H locs ls hmz hk  k54 hz hS hl
      refine lv_iload hx hb dX8_weightOf_159 (lv_at hl 3 rfl) ?_
      refine lv_aload_n hx hb dX8_weightOf_161 rfl (lv_at hl 0 rfl) ?_
      have a55 : fL53 o = some (.inr (8, [.int u1, .int u2, .int u3, .ref wev, .int (nI nl), .ref wnb, .int (nI nn), .ref wki, .ref wmy, .ref wce, .ref wiw, .ref wli, .ref wha, .ref wwt, .int (nI nf), .ref wfy, .ref wfk, .int (nI nc), .ref wem, .ref wna, .ref wpl, .ref whs, .long lk, .int (nI ks), .ref wk1, .ref wk2, .ref wk3])) := k54 _ _ p0 
      refine z_get (v := .ref wmy) C hz a55 zl8 mFX8_23 (by decide) rfl dX8_weightOf_162 ?_
      refine lv_iload_n hx hb dX8_weightOf_165 rfl (lv_at hl 1 rfl) ?_
      have a56 : fL53 wmy = some (.inl (cy 0, 60, .inl gm)) := k54 _ _ p2 
      refine z_iald j C hz a56 rfl (by omega) (by omega) dX8_weightOf_166 ?_
      refine lv_topi (fun y57 e58 => ?_)
      obtain rfl : y57 = nI (ln j) := e58.trans (hMP j hj).1
      refine lv_icmp_ge (tgt := 200) hx hb dX8_weightOf_167 (by decide) (fun c59 => ?_) (fun c59 => ?_)
      · replace c59 : (ln j ≤ kx) := (nI_leI (a := ln j) (b := kx) (by omega) (by omega)).mp c59
        refine lv_lload hx hb dX8_weightOf_200 (lv_at hl 2 rfl) ?_
        exact z_lret C hr hz hS (by
              intro b e hb 
              have hb0 : fL53 b = some e := k54 b e hb 
              exact hb0) (Nat.le_of_ble_eq_true rfl) (Nat.le_of_ble_eq_true rfl) dX8_weightOf_202
      · replace c59 : ¬ (ln j ≤ kx) := fun h => c59 ((nI_leI (a := ln j) (b := kx) (by omega) (by omega)).mpr h)
        refine lv_lload hx hb dX8_weightOf_170 (lv_at hl 2 rfl) ?_
        refine lv_aload_n hx hb dX8_weightOf_172 rfl (lv_at hl 0 rfl) ?_
        refine lv_iload_n hx hb dX8_weightOf_173 rfl (lv_at hl 1 rfl) ?_
        refine lv_iload hx hb dX8_weightOf_174 (lv_at hl 3 rfl) ?_
        have a60 : fL53 wce = some (.inl (cy 1, 960, .inr (.inl gc))) := k54 _ _ p3 
        refine z_callVl (As := [.int (nI j), .int (nI kx)]) C hz hS hA hl (k_X8_cellOf l D cy fL53 o wev wnb wki wmy wce wiw wli wha wwt wfy wfk wem wna wpl whs wk1 wk2 wk3 u1 u2 u3 nl nn nf nc lk ks gc j kx a55 a60 (by omega)) zyX8_cellOf mMX8_90 a55 zl8 rfl rfl (Nat.le_of_ble_eq_true rfl) ⟨Nat.le_of_ble_eq_true rfl, Nat.le_of_ble_eq_true rfl⟩ ⟨Nat.le_of_ble_eq_true rfl, Nat.le_of_ble_eq_true rfl⟩ dX8_weightOf_176 (fun r f61 H locs h62 hz hS => ?_)
        obtain ⟨rfl, k63⟩ := h62
        refine lv_ldc2 (v := (-1)) hx hb C.2.2.2.1 (C.2.2.2.2.1 _ mKX8_98) dX8_weightOf_179 ?_
        refine W.lcmp hx hb dX8_weightOf_182 ?_
        refine lv_if_ne (tgt := 190) hx hb dX8_weightOf_183 (by decide) (fun c64 => ?_) (fun c64 => ?_)
        · refine lv_lconst (v := 1) hx hb dX8_weightOf_190 (by decide) ?_
          refine lv_ladd hx hb dX8_weightOf_191 ?_
          refine lv_lstore (lv' := [(5, .long (nv + 1)), (0, .ref o), (1, .int (nI j)), (7, .int (nI kx))]) hx hb dX8_weightOf_192 hl (by decide) rfl (fun ls hl => ?_)
          refine lv_iinc (v := nI (kx + 1)) (lv' := [(7, .int (nI (kx + 1))), (5, .long (nv + 1)), (0, .ref o), (1, .int (nI j))]) hx hb dX8_weightOf_194 hl (k := 3) rfl (nI_1 kx) (by decide) rfl (fun ls hl => ?_)
          refine lv_goto (tgt := 159) hx hb dX8_weightOf_197 (by decide) ?_
          exact ih (nv + 1) (kx + 1) _ _ _ _ (by omega) (by omega)  (by
                intro b e hb 
                have hb0 : fL53 b = some e := k54 b e hb 
                have hb1 : f61 b = some e := k63 b e hb0 
                exact hb1) hz hS (lv_sub hl [2, 3, 1, 0] rfl)
        · refine lv_lconst (v := 0) hx hb dX8_weightOf_186 (by decide) ?_
          refine lv_goto (tgt := 191) hx hb dX8_weightOf_187 (by decide) ?_
          refine lv_ladd hx hb dX8_weightOf_191 ?_
          refine lv_lstore (lv' := [(5, .long (nv + 0)), (0, .ref o), (1, .int (nI j)), (7, .int (nI kx))]) hx hb dX8_weightOf_192 hl (by decide) rfl (fun ls hl => ?_)
          refine lv_iinc (v := nI (kx + 1)) (lv' := [(7, .int (nI (kx + 1))), (5, .long (nv + 0)), (0, .ref o), (1, .int (nI j))]) hx hb dX8_weightOf_194 hl (k := 3) rfl (nI_1 kx) (by decide) rfl (fun ls hl => ?_)
          refine lv_goto (tgt := 159) hx hb dX8_weightOf_197 (by decide) ?_
          exact ih (nv + 0) (kx + 1) _ _ _ _ (by omega) (by omega)  (by
                intro b e hb 
                have hb0 : fL53 b = some e := k54 b e hb 
                have hb1 : f61 b = some e := k63 b e hb0 
                exact hb1) hz hS (lv_sub hl [2, 3, 1, 0] rfl)
  exact lp52 (20 - 1 + 1) 0 1 _ _ _ _ (Nat.lt_succ_self _) (by omega)  (fun b e hb => hb) hz hS (lv_sub hl [2, 3, 1, 0] rfl)
abbrev rmX8_weight : Room := { frames := 2, cells := 0, slots := 0, locals := 50 }
set_option maxHeartbeats 4000000 in
set_option maxRecDepth 100000 in
theorem k_X8_weight (l : Launch) (D : va_G) (cy : Nat → ClassId) (f : zM) (o : Nat) (wev : Nat) (wnb : Nat) (wki : Nat) (wmy : Nat) (wce : Nat) (wiw : Nat) (wli : Nat) (wha : Nat) (wwt : Nat) (wfy : Nat) (wfk : Nat) (wem : Nat) (wna : Nat) (wpl : Nat) (whs : Nat) (wk1 : Nat) (wk2 : Nat) (wk3 : Nat) (u1 : Int32) (u2 : Int32) (u3 : Int32) (nl : Nat) (nn : Nat) (nf : Nat) (nc : Nat) (lk : Int64) (ks : Nat) (gv : Nat → Int32) (gu : Nat → Int32) (gk : Nat → Int32) (gm : Nat → Int32) (gc : Nat → Int64) (gw : Nat → Int32) (gl : Nat → Int32) (gh : Nat → Int32) (gt : Nat → Int64) (gy : Nat → Int32) (gq : Nat → Int32) (ge1 : Nat → Int32) (gn1 : Nat → Int32) (gp1 : Nat → Int32) (gs : Nat → Int32) (gx1 : Nat → Int32) (gx2 : Nat → Int32) (gx3 : Nat → Int32) (ln : Nat → Nat) (fz : Nat → Nat) (sq : Nat → Nat) (x : Int32) (w : Int32)    (hI : zIM cy f o wev wnb wki wmy wce wiw wli wha wwt wfy wfk wem wna wpl whs wk1 wk2 wk3 u1 u2 u3 nl nn nf nc lk ks gv gu gk gm gc gw gl gh gt gy gq ge1 gn1 gp1 gs gx1 gx2 gx3 ln fz sq) : zCl l D cy yX8_weight cX8_weight 4 (Option.some Jvm.ClassFile.FieldType.long) rmX8_weight [.ref o, .int x, .int w] f (fun (r : Int64) (f1 : zM) => ∃ (u11 : Int32) (u21 : Int32) (u31 : Int32) (nl1 : Nat) (nn1 : Nat) (nf1 : Nat) (nc1 : Nat) (lk1 : Int64) (ks1 : Nat) (gv1 : Nat → Int32) (gu1 : Nat → Int32) (gk1 : Nat → Int32) (gm1 : Nat → Int32) (gc1 : Nat → Int64) (gw1 : Nat → Int32) (gl1 : Nat → Int32) (gh1 : Nat → Int32) (gt1 : Nat → Int64) (gy1 : Nat → Int32) (gq1 : Nat → Int32) (ge11 : Nat → Int32) (gn11 : Nat → Int32) (gp11 : Nat → Int32) (gs1 : Nat → Int32) (gx11 : Nat → Int32) (gx21 : Nat → Int32) (gx31 : Nat → Int32) (ln1 : Nat → Nat) (fz1 : Nat → Nat) (sq1 : Nat → Nat), (u11 = u1) ∧ (u21 = u2) ∧ (u31 = u3) ∧ (gv1 = gv) ∧ (nl1 = nl) ∧ (gu1 = gu) ∧ (nn1 = nn) ∧ (gk1 = gk) ∧ (ln1 = ln) ∧ (gw1 = gw) ∧ (gh1 = gh) ∧ (gc1 = gc) ∧ (nf1 = nf) ∧ (fz1 = fz) ∧ (gq1 = gq) ∧ (nc1 = nc) ∧ (ge11 = ge1) ∧ (gn11 = gn1) ∧ (gp11 = gp1) ∧ (sq1 = sq) ∧ (ks1 = ks) ∧ (gx11 = gx1) ∧ (gx21 = gx2) ∧ (gx31 = gx3) ∧ (lk1 = lk) ∧ zIM cy f1 o wev wnb wki wmy wce wiw wli wha wwt wfy wfk wem wna wpl whs wk1 wk2 wk3 u11 u21 u31 nl1 nn1 nf1 nc1 lk1 ks1 gv1 gu1 gk1 gm1 gc1 gw1 gl1 gh1 gt1 gy1 gq1 ge11 gn11 gp11 gs1 gx11 gx21 gx31 ln1 fz1 sq1) := by
  intro sz
  refine z_body (by decide +kernel) (Nat.le_of_ble_eq_true rfl) ?_
  intro p e s m below meth c ls C hr hin hsz hz hl
  subst hsz
  have hx := C.1
  have hb := C.2.1
  have hA : ∀ q, s.heap.size ≤ q → zA f s.heap.size q := fun q h => Or.inr h
  have hS : va_S (zA f s.heap.size) s.heap s.heap [] := va_S.rf
  have hl : lv_has ls 4 [(0, .ref o), (1, .int x), (2, .int w)] := hl
  obtain ⟨x_o, x_wev, x_wnb, x_wki, x_wmy, x_wce, x_wiw, x_wli, x_wha, x_wwt, x_wfy, x_wfk, x_wem, x_wna, x_wpl, x_whs, x_wk1, x_wk2, x_wk3, hn60, hl12, hf6, hc60, hs40, hMP, hgy, hfz, hgs, hME, hlk, hgw, hfd, n_wki_wmy, n_wki_wiw, n_wki_wli, n_wki_wha, n_wki_wem, n_wki_wna, n_wki_wpl, n_wmy_wiw, n_wmy_wli, n_wmy_wha, n_wmy_wem, n_wmy_wna, n_wmy_wpl, n_wiw_wli, n_wiw_wha, n_wiw_wem, n_wiw_wna, n_wiw_wpl, n_wli_wha, n_wli_wem, n_wli_wna, n_wli_wpl, n_wha_wem, n_wha_wna, n_wha_wpl, n_wem_wna, n_wem_wpl, n_wna_wpl, n_wk1_wk2, n_wk1_wk3, n_wk2_wk3⟩ := id hI
  refine lv_aload_n hx hb dX8_weight_0 rfl (lv_at hl 0 rfl) ?_
  refine lv_iload_n hx hb dX8_weight_1 rfl (lv_at hl 1 rfl) ?_
  rcases z_findi x nn with ⟨ja, hja, hva⟩ | hva
  · have hFa : isF nn x = true := isF_t hn60 hja hva
    have hIa : fI x = ja := fI_of (by omega) hva
    have hNa : ¬ x = (-1) := by rw [hva]; exact z_nim1 (by omega)
    refine z_callVi (As := [.int x]) C hz hS hA hl (k_X8_isFigure_A l D cy f o wev wnb wki wmy wce wiw wli wha wwt wfy wfk wem wna wpl whs wk1 wk2 wk3 u1 u2 u3 nl nn nf nc lk ks x ja x_o hn60 hva hja) zyX8_isFigure mMX8_139 x_o zl8 rfl rfl (Nat.le_of_ble_eq_true rfl) ⟨Nat.le_of_ble_eq_true rfl, Nat.le_of_ble_eq_true rfl⟩ ⟨Nat.le_of_ble_eq_true rfl, Nat.le_of_ble_eq_true rfl⟩ dX8_weight_2 (fun r f1 H locs h2 hz hS => ?_)
    obtain ⟨rfl, k3⟩ := h2
    refine lv_if_ne (tgt := 12) hx hb dX8_weight_5 (by decide) (fun c4 => ?_) (fun c4 => ?_)
    rotate_left
    · exact absurd c4 (by decide)
    refine lv_iconst (v := 0) hx hb dX8_weight_12 (by decide) ?_
    refine lv_istore_n (lv' := [(3, .int 0), (0, .ref o), (1, .int x), (2, .int w)]) hx hb dX8_weight_13 rfl hl (by decide) rfl (fun ls hl => ?_)
    have lp5 : ∀ (n : Nat) (kx : Nat) (gtv : Nat → Int64) (fL6 : zM) (H : Heap) (locs : List Loc) (ls : Array Slot), (ja + 1 - kx) < n → (kx ≤ ja + 1) → fL6 wwt = some (.inl (cy 1, 60, .inr (.inl gtv))) → (∀ (b : Nat) (e : va_E), f1 b = some e → b ≠ wwt → fL6 b = some e) → zH D (zA f s.heap.size) fL6 H → va_S (zA f s.heap.size) s.heap H locs → lv_has ls 4 [(0, .ref o), (1, .int x), (2, .int w), (3, .int (nI kx))] → W p l e rmX8_weight s m ([.ref o, .int x, .int w] : List Value).toArray below meth c H locs 0 0 (MQ below (va_Ql (fun (r : Int64) (f1 : zM) => ∃ (u11 : Int32) (u21 : Int32) (u31 : Int32) (nl1 : Nat) (nn1 : Nat) (nf1 : Nat) (nc1 : Nat) (lk1 : Int64) (ks1 : Nat) (gv1 : Nat → Int32) (gu1 : Nat → Int32) (gk1 : Nat → Int32) (gm1 : Nat → Int32) (gc1 : Nat → Int64) (gw1 : Nat → Int32) (gl1 : Nat → Int32) (gh1 : Nat → Int32) (gt1 : Nat → Int64) (gy1 : Nat → Int32) (gq1 : Nat → Int32) (ge11 : Nat → Int32) (gn11 : Nat → Int32) (gp11 : Nat → Int32) (gs1 : Nat → Int32) (gx11 : Nat → Int32) (gx21 : Nat → Int32) (gx31 : Nat → Int32) (ln1 : Nat → Nat) (fz1 : Nat → Nat) (sq1 : Nat → Nat), (u11 = u1) ∧ (u21 = u2) ∧ (u31 = u3) ∧ (gv1 = gv) ∧ (nl1 = nl) ∧ (gu1 = gu) ∧ (nn1 = nn) ∧ (gk1 = gk) ∧ (ln1 = ln) ∧ (gw1 = gw) ∧ (gh1 = gh) ∧ (gc1 = gc) ∧ (nf1 = nf) ∧ (fz1 = fz) ∧ (gq1 = gq) ∧ (nc1 = nc) ∧ (ge11 = ge1) ∧ (gn11 = gn1) ∧ (gp11 = gp1) ∧ (sq1 = sq) ∧ (ks1 = ks) ∧ (gx11 = gx1) ∧ (gx21 = gx2) ∧ (gx31 = gx3) ∧ (lk1 = lk) ∧ zIM cy f1 o wev wnb wki wmy wce wiw wli wha wwt wfy wfk wem wna wpl whs wk1 wk2 wk3 u11 u21 u31 nl1 nn1 nf1 nc1 lk1 ks1 gv1 gu1 gk1 gm1 gc1 gw1 gl1 gh1 gt1 gy1 gq1 ge11 gn11 gp11 gs1 gx11 gx21 gx31 ln1 fz1 sq1) (zB D f s.heap.size) (zA f s.heap.size)) ([.ref o, .int x, .int w] : List Value).toArray s rmX8_weight.cells rmX8_weight.slots (zA f s.heap.size)) (F0 m 14 ls []) := by
      intro n
      induction n with
      | zero => intro kx gtv fL6 H locs ls hmz; exact absurd hmz (Nat.not_lt_zero _)
      | succ n ih =>
        intro kx gtv fL6 H locs ls hmz hk a8 k7 hz hS hl
        refine lv_iload_n hx hb dX8_weight_14 rfl (lv_at hl 3 rfl) ?_
        refine lv_iload_n hx hb dX8_weight_15 rfl (lv_at hl 1 rfl) ?_
        refine lv_topi (fun y9 e10 => ?_)
        obtain rfl : y9 = nI ja := e10.trans hva
        refine lv_icmp_gt (tgt := 36) hx hb dX8_weight_16 (by decide) (fun c11 => ?_) (fun c11 => ?_)
        · replace c11 : (ja < kx) := (nI_ltI (a := ja) (b := kx) (by omega) (by omega)).mp c11
          refine lv_iload_n hx hb dX8_weight_36 rfl (lv_at hl 2 rfl) ?_
          refine lv_if_eq (tgt := 48) hx hb dX8_weight_37 (by decide) (fun c12 => ?_) (fun c12 => ?_)
          · refine lv_aload_n hx hb dX8_weight_48 rfl (lv_at hl 0 rfl) ?_
            have a13 : f1 o = some (.inr (8, [.int u1, .int u2, .int u3, .ref wev, .int (nI nl), .ref wnb, .int (nI nn), .ref wki, .ref wmy, .ref wce, .ref wiw, .ref wli, .ref wha, .ref wwt, .int (nI nf), .ref wfy, .ref wfk, .int (nI nc), .ref wem, .ref wna, .ref wpl, .ref whs, .long lk, .int (nI ks), .ref wk1, .ref wk2, .ref wk3])) := k3 _ _ x_o 
            have a14 : f1 wwt = some (.inl (cy 1, 60, .inr (.inl gt))) := k3 _ _ x_wwt 
            have a15 : fL6 o = some (.inr (8, [.int u1, .int u2, .int u3, .ref wev, .int (nI nl), .ref wnb, .int (nI nn), .ref wki, .ref wmy, .ref wce, .ref wiw, .ref wli, .ref wha, .ref wwt, .int (nI nf), .ref wfy, .ref wfk, .int (nI nc), .ref wem, .ref wna, .ref wpl, .ref whs, .long lk, .int (nI ks), .ref wk1, .ref wk2, .ref wk3])) := k7 _ _ a13 (z_ne a13 a14 rfl)
            refine z_get (v := .ref wwt) C hz a15 zl8 mFX8_40 (by decide) rfl dX8_weight_49 ?_
            refine lv_iload_n hx hb dX8_weight_52 rfl (lv_at hl 1 rfl) ?_
            refine lv_topi (fun y16 e17 => ?_)
            obtain rfl : y16 = nI ja := e17.trans hva
            refine z_lald ja C hz a8 rfl (by omega) (by omega) dX8_weight_53 ?_
            have a18 : f1 wev = some (.inl (cy 0, 8, .inl gv)) := k3 _ _ x_wev 
            have a19 : fL6 wev = some (.inl (cy 0, 8, .inl gv)) := k7 _ _ a18 (z_ne a18 a14 rfl)
            have a20 : f1 wnb = some (.inl (cy 0, 12, .inl gu)) := k3 _ _ x_wnb 
            have a21 : fL6 wnb = some (.inl (cy 0, 12, .inl gu)) := k7 _ _ a20 (z_ne a20 a14 rfl)
            have a22 : f1 wki = some (.inl (cy 0, 60, .inl gk)) := k3 _ _ x_wki 
            have a23 : fL6 wki = some (.inl (cy 0, 60, .inl gk)) := k7 _ _ a22 (z_ne a22 a14 rfl)
            have a24 : f1 wmy = some (.inl (cy 0, 60, .inl gm)) := k3 _ _ x_wmy 
            have a25 : fL6 wmy = some (.inl (cy 0, 60, .inl gm)) := k7 _ _ a24 (z_ne a24 a14 rfl)
            have a26 : f1 wce = some (.inl (cy 1, 960, .inr (.inl gc))) := k3 _ _ x_wce 
            have a27 : fL6 wce = some (.inl (cy 1, 960, .inr (.inl gc))) := k7 _ _ a26 (z_ne a26 a14 rfl)
            have a28 : f1 wiw = some (.inl (cy 2, 60, .inl gw)) := k3 _ _ x_wiw 
            have a29 : fL6 wiw = some (.inl (cy 2, 60, .inl gw)) := k7 _ _ a28 (z_ne a28 a14 rfl)
            have a30 : f1 wli = some (.inl (cy 0, 60, .inl gl)) := k3 _ _ x_wli 
            have a31 : fL6 wli = some (.inl (cy 0, 60, .inl gl)) := k7 _ _ a30 (z_ne a30 a14 rfl)
            have a32 : f1 wha = some (.inl (cy 0, 60, .inl gh)) := k3 _ _ x_wha 
            have a33 : fL6 wha = some (.inl (cy 0, 60, .inl gh)) := k7 _ _ a32 (z_ne a32 a14 rfl)
            have a34 : f1 wfy = some (.inl (cy 0, 6, .inl gy)) := k3 _ _ x_wfy 
            have a35 : fL6 wfy = some (.inl (cy 0, 6, .inl gy)) := k7 _ _ a34 (z_ne a34 a14 rfl)
            have a36 : f1 wfk = some (.inl (cy 0, 24, .inl gq)) := k3 _ _ x_wfk 
            have a37 : fL6 wfk = some (.inl (cy 0, 24, .inl gq)) := k7 _ _ a36 (z_ne a36 a14 rfl)
            have a38 : f1 wem = some (.inl (cy 0, 60, .inl ge1)) := k3 _ _ x_wem 
            have a39 : fL6 wem = some (.inl (cy 0, 60, .inl ge1)) := k7 _ _ a38 (z_ne a38 a14 rfl)
            have a40 : f1 wna = some (.inl (cy 0, 60, .inl gn1)) := k3 _ _ x_wna 
            have a41 : fL6 wna = some (.inl (cy 0, 60, .inl gn1)) := k7 _ _ a40 (z_ne a40 a14 rfl)
            have a42 : f1 wpl = some (.inl (cy 0, 60, .inl gp1)) := k3 _ _ x_wpl 
            have a43 : fL6 wpl = some (.inl (cy 0, 60, .inl gp1)) := k7 _ _ a42 (z_ne a42 a14 rfl)
            have a44 : f1 whs = some (.inl (cy 0, 4, .inl gs)) := k3 _ _ x_whs 
            have a45 : fL6 whs = some (.inl (cy 0, 4, .inl gs)) := k7 _ _ a44 (z_ne a44 a14 rfl)
            have a46 : f1 wk1 = some (.inl (cy 0, 40, .inl gx1)) := k3 _ _ x_wk1 
            have a47 : fL6 wk1 = some (.inl (cy 0, 40, .inl gx1)) := k7 _ _ a46 (z_ne a46 a14 rfl)
            have a48 : f1 wk2 = some (.inl (cy 0, 40, .inl gx2)) := k3 _ _ x_wk2 
            have a49 : fL6 wk2 = some (.inl (cy 0, 40, .inl gx2)) := k7 _ _ a48 (z_ne a48 a14 rfl)
            have a50 : f1 wk3 = some (.inl (cy 0, 40, .inl gx3)) := k3 _ _ x_wk3 
            have a51 : fL6 wk3 = some (.inl (cy 0, 40, .inl gx3)) := k7 _ _ a50 (z_ne a50 a14 rfl)
            exact z_lret C hr hz hS ⟨u1, u2, u3, nl, nn, nf, nc, lk, ks, gv, gu, gk, gm, gc, gw, gl, gh, gtv, gy, gq, ge1, gn1, gp1, gs, gx1, gx2, gx3, ln, fz, sq, rfl, rfl, rfl, rfl, rfl, rfl, rfl, rfl, rfl, rfl, rfl, rfl, rfl, rfl, rfl, rfl, rfl, rfl, rfl, rfl, rfl, rfl, rfl, rfl, rfl, ⟨a15, a19, a21, a23, a25, a27, a29, a31, a33, a8, a35, a37, a39, a41, a43, a45, a47, a49, a51, hn60, hl12, hf6, hc60, hs40, hMP, hgy, hfz, hgs, hME, hlk, hgw, hfd, n_wki_wmy, n_wki_wiw, n_wki_wli, n_wki_wha, n_wki_wem, n_wki_wna, n_wki_wpl, n_wmy_wiw, n_wmy_wli, n_wmy_wha, n_wmy_wem, n_wmy_wna, n_wmy_wpl, n_wiw_wli, n_wiw_wha, n_wiw_wem, n_wiw_wna, n_wiw_wpl, n_wli_wha, n_wli_wem, n_wli_wna, n_wli_wpl, n_wha_wem, n_wha_wna, n_wha_wpl, n_wem_wna, n_wem_wpl, n_wna_wpl, n_wk1_wk2, n_wk1_wk3, n_wk2_wk3⟩⟩ (Nat.le_of_ble_eq_true rfl) (Nat.le_of_ble_eq_true rfl) dX8_weight_54
          · refine lv_aload_n hx hb dX8_weight_40 rfl (lv_at hl 0 rfl) ?_
            refine lv_iload_n hx hb dX8_weight_41 rfl (lv_at hl 1 rfl) ?_
            refine lv_topi (fun y52 e53 => ?_)
            obtain rfl : y52 = nI ja := e53.trans hva
            have a54 : f1 o = some (.inr (8, [.int u1, .int u2, .int u3, .ref wev, .int (nI nl), .ref wnb, .int (nI nn), .ref wki, .ref wmy, .ref wce, .ref wiw, .ref wli, .ref wha, .ref wwt, .int (nI nf), .ref wfy, .ref wfk, .int (nI nc), .ref wem, .ref wna, .ref wpl, .ref whs, .long lk, .int (nI ks), .ref wk1, .ref wk2, .ref wk3])) := k3 _ _ x_o 
            have a55 : f1 wwt = some (.inl (cy 1, 60, .inr (.inl gt))) := k3 _ _ x_wwt 
            have a56 : fL6 o = some (.inr (8, [.int u1, .int u2, .int u3, .ref wev, .int (nI nl), .ref wnb, .int (nI nn), .ref wki, .ref wmy, .ref wce, .ref wiw, .ref wli, .ref wha, .ref wwt, .int (nI nf), .ref wfy, .ref wfk, .int (nI nc), .ref wem, .ref wna, .ref wpl, .ref whs, .long lk, .int (nI ks), .ref wk1, .ref wk2, .ref wk3])) := k7 _ _ a54 (z_ne a54 a55 rfl)
            have a57 : f1 wki = some (.inl (cy 0, 60, .inl gk)) := k3 _ _ x_wki 
            have a58 : fL6 wki = some (.inl (cy 0, 60, .inl gk)) := k7 _ _ a57 (z_ne a57 a55 rfl)
            refine z_callVl (As := [.int (nI ja)]) C hz hS hA hl (k_X8_heavyOf l D cy fL6 o wev wnb wki wmy wce wiw wli wha wwt wfy wfk wem wna wpl whs wk1 wk2 wk3 u1 u2 u3 nl nn nf nc lk ks gk gtv ja a56 a58 a8 (by omega)) zyX8_heavyOf mMX8_159 a56 zl8 rfl rfl (Nat.le_of_ble_eq_true rfl) ⟨Nat.le_of_ble_eq_true rfl, Nat.le_of_ble_eq_true rfl⟩ ⟨Nat.le_of_ble_eq_true rfl, Nat.le_of_ble_eq_true rfl⟩ dX8_weight_42 (fun r61 f59 H locs h60 hz hS => ?_)
            have k62 := h60
            refine lv_goto (tgt := 54) hx hb dX8_weight_45 (by decide) ?_
            have a63 : f59 o = some (.inr (8, [.int u1, .int u2, .int u3, .ref wev, .int (nI nl), .ref wnb, .int (nI nn), .ref wki, .ref wmy, .ref wce, .ref wiw, .ref wli, .ref wha, .ref wwt, .int (nI nf), .ref wfy, .ref wfk, .int (nI nc), .ref wem, .ref wna, .ref wpl, .ref whs, .long lk, .int (nI ks), .ref wk1, .ref wk2, .ref wk3])) := k62 _ _ a56 
            have a64 : f1 wev = some (.inl (cy 0, 8, .inl gv)) := k3 _ _ x_wev 
            have a65 : fL6 wev = some (.inl (cy 0, 8, .inl gv)) := k7 _ _ a64 (z_ne a64 a55 rfl)
            have a66 : f59 wev = some (.inl (cy 0, 8, .inl gv)) := k62 _ _ a65 
            have a67 : f1 wnb = some (.inl (cy 0, 12, .inl gu)) := k3 _ _ x_wnb 
            have a68 : fL6 wnb = some (.inl (cy 0, 12, .inl gu)) := k7 _ _ a67 (z_ne a67 a55 rfl)
            have a69 : f59 wnb = some (.inl (cy 0, 12, .inl gu)) := k62 _ _ a68 
            have a70 : f59 wki = some (.inl (cy 0, 60, .inl gk)) := k62 _ _ a58 
            have a71 : f1 wmy = some (.inl (cy 0, 60, .inl gm)) := k3 _ _ x_wmy 
            have a72 : fL6 wmy = some (.inl (cy 0, 60, .inl gm)) := k7 _ _ a71 (z_ne a71 a55 rfl)
            have a73 : f59 wmy = some (.inl (cy 0, 60, .inl gm)) := k62 _ _ a72 
            have a74 : f1 wce = some (.inl (cy 1, 960, .inr (.inl gc))) := k3 _ _ x_wce 
            have a75 : fL6 wce = some (.inl (cy 1, 960, .inr (.inl gc))) := k7 _ _ a74 (z_ne a74 a55 rfl)
            have a76 : f59 wce = some (.inl (cy 1, 960, .inr (.inl gc))) := k62 _ _ a75 
            have a77 : f1 wiw = some (.inl (cy 2, 60, .inl gw)) := k3 _ _ x_wiw 
            have a78 : fL6 wiw = some (.inl (cy 2, 60, .inl gw)) := k7 _ _ a77 (z_ne a77 a55 rfl)
            have a79 : f59 wiw = some (.inl (cy 2, 60, .inl gw)) := k62 _ _ a78 
            have a80 : f1 wli = some (.inl (cy 0, 60, .inl gl)) := k3 _ _ x_wli 
            have a81 : fL6 wli = some (.inl (cy 0, 60, .inl gl)) := k7 _ _ a80 (z_ne a80 a55 rfl)
            have a82 : f59 wli = some (.inl (cy 0, 60, .inl gl)) := k62 _ _ a81 
            have a83 : f1 wha = some (.inl (cy 0, 60, .inl gh)) := k3 _ _ x_wha 
            have a84 : fL6 wha = some (.inl (cy 0, 60, .inl gh)) := k7 _ _ a83 (z_ne a83 a55 rfl)
            have a85 : f59 wha = some (.inl (cy 0, 60, .inl gh)) := k62 _ _ a84 
            have a86 : f59 wwt = some (.inl (cy 1, 60, .inr (.inl gtv))) := k62 _ _ a8 
            have a87 : f1 wfy = some (.inl (cy 0, 6, .inl gy)) := k3 _ _ x_wfy 
            have a88 : fL6 wfy = some (.inl (cy 0, 6, .inl gy)) := k7 _ _ a87 (z_ne a87 a55 rfl)
            have a89 : f59 wfy = some (.inl (cy 0, 6, .inl gy)) := k62 _ _ a88 
            have a90 : f1 wfk = some (.inl (cy 0, 24, .inl gq)) := k3 _ _ x_wfk 
            have a91 : fL6 wfk = some (.inl (cy 0, 24, .inl gq)) := k7 _ _ a90 (z_ne a90 a55 rfl)
            have a92 : f59 wfk = some (.inl (cy 0, 24, .inl gq)) := k62 _ _ a91 
            have a93 : f1 wem = some (.inl (cy 0, 60, .inl ge1)) := k3 _ _ x_wem 
            have a94 : fL6 wem = some (.inl (cy 0, 60, .inl ge1)) := k7 _ _ a93 (z_ne a93 a55 rfl)
            have a95 : f59 wem = some (.inl (cy 0, 60, .inl ge1)) := k62 _ _ a94 
            have a96 : f1 wna = some (.inl (cy 0, 60, .inl gn1)) := k3 _ _ x_wna 
            have a97 : fL6 wna = some (.inl (cy 0, 60, .inl gn1)) := k7 _ _ a96 (z_ne a96 a55 rfl)
            have a98 : f59 wna = some (.inl (cy 0, 60, .inl gn1)) := k62 _ _ a97 
            have a99 : f1 wpl = some (.inl (cy 0, 60, .inl gp1)) := k3 _ _ x_wpl 
            have a100 : fL6 wpl = some (.inl (cy 0, 60, .inl gp1)) := k7 _ _ a99 (z_ne a99 a55 rfl)
            have a101 : f59 wpl = some (.inl (cy 0, 60, .inl gp1)) := k62 _ _ a100 
            have a102 : f1 whs = some (.inl (cy 0, 4, .inl gs)) := k3 _ _ x_whs 
            have a103 : fL6 whs = some (.inl (cy 0, 4, .inl gs)) := k7 _ _ a102 (z_ne a102 a55 rfl)
            have a104 : f59 whs = some (.inl (cy 0, 4, .inl gs)) := k62 _ _ a103 
            have a105 : f1 wk1 = some (.inl (cy 0, 40, .inl gx1)) := k3 _ _ x_wk1 
            have a106 : fL6 wk1 = some (.inl (cy 0, 40, .inl gx1)) := k7 _ _ a105 (z_ne a105 a55 rfl)
            have a107 : f59 wk1 = some (.inl (cy 0, 40, .inl gx1)) := k62 _ _ a106 
            have a108 : f1 wk2 = some (.inl (cy 0, 40, .inl gx2)) := k3 _ _ x_wk2 
            have a109 : fL6 wk2 = some (.inl (cy 0, 40, .inl gx2)) := k7 _ _ a108 (z_ne a108 a55 rfl)
            have a110 : f59 wk2 = some (.inl (cy 0, 40, .inl gx2)) := k62 _ _ a109 
            have a111 : f1 wk3 = some (.inl (cy 0, 40, .inl gx3)) := k3 _ _ x_wk3 
            have a112 : fL6 wk3 = some (.inl (cy 0, 40, .inl gx3)) := k7 _ _ a111 (z_ne a111 a55 rfl)
            have a113 : f59 wk3 = some (.inl (cy 0, 40, .inl gx3)) := k62 _ _ a112 
            exact z_lret C hr hz hS ⟨u1, u2, u3, nl, nn, nf, nc, lk, ks, gv, gu, gk, gm, gc, gw, gl, gh, gtv, gy, gq, ge1, gn1, gp1, gs, gx1, gx2, gx3, ln, fz, sq, rfl, rfl, rfl, rfl, rfl, rfl, rfl, rfl, rfl, rfl, rfl, rfl, rfl, rfl, rfl, rfl, rfl, rfl, rfl, rfl, rfl, rfl, rfl, rfl, rfl, ⟨a63, a66, a69, a70, a73, a76, a79, a82, a85, a86, a89, a92, a95, a98, a101, a104, a107, a110, a113, hn60, hl12, hf6, hc60, hs40, hMP, hgy, hfz, hgs, hME, hlk, hgw, hfd, n_wki_wmy, n_wki_wiw, n_wki_wli, n_wki_wha, n_wki_wem, n_wki_wna, n_wki_wpl, n_wmy_wiw, n_wmy_wli, n_wmy_wha, n_wmy_wem, n_wmy_wna, n_wmy_wpl, n_wiw_wli, n_wiw_wha, n_wiw_wem, n_wiw_wna, n_wiw_wpl, n_wli_wha, n_wli_wem, n_wli_wna, n_wli_wpl, n_wha_wem, n_wha_wna, n_wha_wpl, n_wem_wna, n_wem_wpl, n_wna_wpl, n_wk1_wk2, n_wk1_wk3, n_wk2_wk3⟩⟩ (Nat.le_of_ble_eq_true rfl) (Nat.le_of_ble_eq_true rfl) dX8_weight_54
        · replace c11 : ¬ (ja < kx) := fun h => c11 ((nI_ltI (a := ja) (b := kx) (by omega) (by omega)).mpr h)
          refine lv_aload_n hx hb dX8_weight_19 rfl (lv_at hl 0 rfl) ?_
          have a114 : f1 o = some (.inr (8, [.int u1, .int u2, .int u3, .ref wev, .int (nI nl), .ref wnb, .int (nI nn), .ref wki, .ref wmy, .ref wce, .ref wiw, .ref wli, .ref wha, .ref wwt, .int (nI nf), .ref wfy, .ref wfk, .int (nI nc), .ref wem, .ref wna, .ref wpl, .ref whs, .long lk, .int (nI ks), .ref wk1, .ref wk2, .ref wk3])) := k3 _ _ x_o 
          have a115 : f1 wwt = some (.inl (cy 1, 60, .inr (.inl gt))) := k3 _ _ x_wwt 
          have a116 : fL6 o = some (.inr (8, [.int u1, .int u2, .int u3, .ref wev, .int (nI nl), .ref wnb, .int (nI nn), .ref wki, .ref wmy, .ref wce, .ref wiw, .ref wli, .ref wha, .ref wwt, .int (nI nf), .ref wfy, .ref wfk, .int (nI nc), .ref wem, .ref wna, .ref wpl, .ref whs, .long lk, .int (nI ks), .ref wk1, .ref wk2, .ref wk3])) := k7 _ _ a114 (z_ne a114 a115 rfl)
          refine z_get (v := .ref wwt) C hz a116 zl8 mFX8_40 (by decide) rfl dX8_weight_20 ?_
          refine lv_iload_n hx hb dX8_weight_23 rfl (lv_at hl 3 rfl) ?_
          refine lv_aload_n hx hb dX8_weight_24 rfl (lv_at hl 0 rfl) ?_
          refine lv_iload_n hx hb dX8_weight_25 rfl (lv_at hl 3 rfl) ?_
          have a117 : f1 wki = some (.inl (cy 0, 60, .inl gk)) := k3 _ _ x_wki 
          have a118 : fL6 wki = some (.inl (cy 0, 60, .inl gk)) := k7 _ _ a117 (z_ne a117 a115 rfl)
          have a119 : f1 wmy = some (.inl (cy 0, 60, .inl gm)) := k3 _ _ x_wmy 
          have a120 : fL6 wmy = some (.inl (cy 0, 60, .inl gm)) := k7 _ _ a119 (z_ne a119 a115 rfl)
          have a121 : f1 wce = some (.inl (cy 1, 960, .inr (.inl gc))) := k3 _ _ x_wce 
          have a122 : fL6 wce = some (.inl (cy 1, 960, .inr (.inl gc))) := k7 _ _ a121 (z_ne a121 a115 rfl)
          refine z_callVl (As := [.int (nI kx)]) C hz hS hA hl (k_X8_weightOf l D cy fL6 o wev wnb wki wmy wce wiw wli wha wwt wfy wfk wem wna wpl whs wk1 wk2 wk3 u1 u2 u3 nl nn nf nc lk ks gk gm gc gtv ln kx a116 a118 a120 a122 a8 hn60 hMP (by omega)) zyX8_weightOf mMX8_163 a116 zl8 rfl rfl (Nat.le_of_ble_eq_true rfl) ⟨Nat.le_of_ble_eq_true rfl, Nat.le_of_ble_eq_true rfl⟩ ⟨Nat.le_of_ble_eq_true rfl, Nat.le_of_ble_eq_true rfl⟩ dX8_weight_26 (fun r125 f123 H locs h124 hz hS => ?_)
          have k126 := h124
          have a127 : f123 wwt = some (.inl (cy 1, 60, .inr (.inl gtv))) := k126 _ _ a8 
          refine z_last kx C hz hS a127 rfl (by omega) (by omega) dX8_weight_29 (fun H locs f128 a129 k130 hz hS => ?_)
          refine lv_iinc (v := nI (kx + 1)) (lv' := [(3, .int (nI (kx + 1))), (0, .ref o), (1, .int x), (2, .int w)]) hx hb dX8_weight_30 hl (k := 3) rfl (nI_1 kx) (by decide) rfl (fun ls hl => ?_)
          refine lv_goto (tgt := 14) hx hb dX8_weight_33 (by decide) ?_
          exact ih (kx + 1) (vp_updL gtv kx r125) _ _ _ _ (by omega) (by omega) a129 (by
                intro b e hb n0
                have hb1 : fL6 b = some e := k7 b e hb n0
                have hb2 : f123 b = some e := k126 b e hb1 
                have hb3 : f128 b = some e := (k130 b n0).trans hb2
                exact hb3) hz hS (lv_sub hl [1, 2, 3, 0] rfl)
    have a131 : f1 wwt = some (.inl (cy 1, 60, .inr (.inl gt))) := k3 _ _ x_wwt 
    exact lp5 (ja + 1 - 0 + 1) 0 gt _ _ _ _ (Nat.lt_succ_self _) (by omega) a131 (fun b e hb n0 => hb) hz hS (lv_sub hl [1, 2, 3, 0] rfl)
  · have hFa : isF nn x = false := isF_f hn60 hva
    refine z_callVi (As := [.int x]) C hz hS hA hl (k_X8_isFigure_B l D cy f o wev wnb wki wmy wce wiw wli wha wwt wfy wfk wem wna wpl whs wk1 wk2 wk3 u1 u2 u3 nl nn nf nc lk ks x x_o hn60 hva) zyX8_isFigure mMX8_139 x_o zl8 rfl rfl (Nat.le_of_ble_eq_true rfl) ⟨Nat.le_of_ble_eq_true rfl, Nat.le_of_ble_eq_true rfl⟩ ⟨Nat.le_of_ble_eq_true rfl, Nat.le_of_ble_eq_true rfl⟩ dX8_weight_2 (fun r f132 H locs h133 hz hS => ?_)
    obtain ⟨rfl, k134⟩ := h133
    refine lv_if_ne (tgt := 12) hx hb dX8_weight_5 (by decide) (fun c135 => ?_) (fun c135 => ?_)
    · exact absurd c135 (by decide)
    refine lv_ldc2 (v := (-3000000000000000000)) hx hb C.2.2.2.1 (C.2.2.2.2.1 _ mKX8_149) dX8_weight_8 ?_
    have a136 : f132 o = some (.inr (8, [.int u1, .int u2, .int u3, .ref wev, .int (nI nl), .ref wnb, .int (nI nn), .ref wki, .ref wmy, .ref wce, .ref wiw, .ref wli, .ref wha, .ref wwt, .int (nI nf), .ref wfy, .ref wfk, .int (nI nc), .ref wem, .ref wna, .ref wpl, .ref whs, .long lk, .int (nI ks), .ref wk1, .ref wk2, .ref wk3])) := k134 _ _ x_o 
    have a137 : f132 wev = some (.inl (cy 0, 8, .inl gv)) := k134 _ _ x_wev 
    have a138 : f132 wnb = some (.inl (cy 0, 12, .inl gu)) := k134 _ _ x_wnb 
    have a139 : f132 wki = some (.inl (cy 0, 60, .inl gk)) := k134 _ _ x_wki 
    have a140 : f132 wmy = some (.inl (cy 0, 60, .inl gm)) := k134 _ _ x_wmy 
    have a141 : f132 wce = some (.inl (cy 1, 960, .inr (.inl gc))) := k134 _ _ x_wce 
    have a142 : f132 wiw = some (.inl (cy 2, 60, .inl gw)) := k134 _ _ x_wiw 
    have a143 : f132 wli = some (.inl (cy 0, 60, .inl gl)) := k134 _ _ x_wli 
    have a144 : f132 wha = some (.inl (cy 0, 60, .inl gh)) := k134 _ _ x_wha 
    have a145 : f132 wwt = some (.inl (cy 1, 60, .inr (.inl gt))) := k134 _ _ x_wwt 
    have a146 : f132 wfy = some (.inl (cy 0, 6, .inl gy)) := k134 _ _ x_wfy 
    have a147 : f132 wfk = some (.inl (cy 0, 24, .inl gq)) := k134 _ _ x_wfk 
    have a148 : f132 wem = some (.inl (cy 0, 60, .inl ge1)) := k134 _ _ x_wem 
    have a149 : f132 wna = some (.inl (cy 0, 60, .inl gn1)) := k134 _ _ x_wna 
    have a150 : f132 wpl = some (.inl (cy 0, 60, .inl gp1)) := k134 _ _ x_wpl 
    have a151 : f132 whs = some (.inl (cy 0, 4, .inl gs)) := k134 _ _ x_whs 
    have a152 : f132 wk1 = some (.inl (cy 0, 40, .inl gx1)) := k134 _ _ x_wk1 
    have a153 : f132 wk2 = some (.inl (cy 0, 40, .inl gx2)) := k134 _ _ x_wk2 
    have a154 : f132 wk3 = some (.inl (cy 0, 40, .inl gx3)) := k134 _ _ x_wk3 
    exact z_lret C hr hz hS ⟨u1, u2, u3, nl, nn, nf, nc, lk, ks, gv, gu, gk, gm, gc, gw, gl, gh, gt, gy, gq, ge1, gn1, gp1, gs, gx1, gx2, gx3, ln, fz, sq, rfl, rfl, rfl, rfl, rfl, rfl, rfl, rfl, rfl, rfl, rfl, rfl, rfl, rfl, rfl, rfl, rfl, rfl, rfl, rfl, rfl, rfl, rfl, rfl, rfl, ⟨a136, a137, a138, a139, a140, a141, a142, a143, a144, a145, a146, a147, a148, a149, a150, a151, a152, a153, a154, hn60, hl12, hf6, hc60, hs40, hMP, hgy, hfz, hgs, hME, hlk, hgw, hfd, n_wki_wmy, n_wki_wiw, n_wki_wli, n_wki_wha, n_wki_wem, n_wki_wna, n_wki_wpl, n_wmy_wiw, n_wmy_wli, n_wmy_wha, n_wmy_wem, n_wmy_wna, n_wmy_wpl, n_wiw_wli, n_wiw_wha, n_wiw_wem, n_wiw_wna, n_wiw_wpl, n_wli_wha, n_wli_wem, n_wli_wna, n_wli_wpl, n_wha_wem, n_wha_wna, n_wha_wpl, n_wem_wna, n_wem_wpl, n_wna_wpl, n_wk1_wk2, n_wk1_wk3, n_wk2_wk3⟩⟩ (Nat.le_of_ble_eq_true rfl) (Nat.le_of_ble_eq_true rfl) dX8_weight_11
abbrev rmX8_hash : Room := { frames := 1, cells := 0, slots := 0, locals := 21 }
set_option maxHeartbeats 4000000 in
set_option maxRecDepth 100000 in
theorem k_X8_hash (l : Launch) (D : va_G) (cy : Nat → ClassId) (f : zM) (o : Nat) (wev : Nat) (wnb : Nat) (wki : Nat) (wmy : Nat) (wce : Nat) (wiw : Nat) (wli : Nat) (wha : Nat) (wwt : Nat) (wfy : Nat) (wfk : Nat) (wem : Nat) (wna : Nat) (wpl : Nat) (whs : Nat) (wk1 : Nat) (wk2 : Nat) (wk3 : Nat) (u1 : Int32) (u2 : Int32) (u3 : Int32) (nl : Nat) (nn : Nat) (nf : Nat) (nc : Nat) (lk : Int64) (ks : Nat) (gv : Nat → Int32) (gu : Nat → Int32) (gk : Nat → Int32) (gm : Nat → Int32) (gc : Nat → Int64) (gw : Nat → Int32) (gl : Nat → Int32) (gh : Nat → Int32) (gt : Nat → Int64) (gy : Nat → Int32) (gq : Nat → Int32) (ge1 : Nat → Int32) (gn1 : Nat → Int32) (gp1 : Nat → Int32) (gs : Nat → Int32) (gx1 : Nat → Int32) (gx2 : Nat → Int32) (gx3 : Nat → Int32) (ln : Nat → Nat) (fz : Nat → Nat) (sq : Nat → Nat) (x : Int32)    (hI : zIM cy f o wev wnb wki wmy wce wiw wli wha wwt wfy wfk wem wna wpl whs wk1 wk2 wk3 u1 u2 u3 nl nn nf nc lk ks gv gu gk gm gc gw gl gh gt gy gq ge1 gn1 gp1 gs gx1 gx2 gx3 ln fz sq) : zCi l D cy yX8_hash cX8_hash 2 (Option.some Jvm.ClassFile.FieldType.int) rmX8_hash [.ref o, .int x] f (fun (r : Int32) (f1 : zM) => ∃ (u11 : Int32) (u21 : Int32) (u31 : Int32) (nl1 : Nat) (nn1 : Nat) (nf1 : Nat) (nc1 : Nat) (lk1 : Int64) (ks1 : Nat) (gv1 : Nat → Int32) (gu1 : Nat → Int32) (gk1 : Nat → Int32) (gm1 : Nat → Int32) (gc1 : Nat → Int64) (gw1 : Nat → Int32) (gl1 : Nat → Int32) (gh1 : Nat → Int32) (gt1 : Nat → Int64) (gy1 : Nat → Int32) (gq1 : Nat → Int32) (ge11 : Nat → Int32) (gn11 : Nat → Int32) (gp11 : Nat → Int32) (gs1 : Nat → Int32) (gx11 : Nat → Int32) (gx21 : Nat → Int32) (gx31 : Nat → Int32) (ln1 : Nat → Nat) (fz1 : Nat → Nat) (sq1 : Nat → Nat), r = (q_hash nn gh x) ∧ (u11 = u1) ∧ (u21 = u2) ∧ (u31 = u3) ∧ (gv1 = gv) ∧ (nl1 = nl) ∧ (gu1 = gu) ∧ (nn1 = nn) ∧ (gk1 = gk) ∧ (ln1 = ln) ∧ (gw1 = gw) ∧ (gh1 = gh) ∧ (gc1 = gc) ∧ (nf1 = nf) ∧ (fz1 = fz) ∧ (gq1 = gq) ∧ (nc1 = nc) ∧ (ge11 = ge1) ∧ (gn11 = gn1) ∧ (gp11 = gp1) ∧ (sq1 = sq) ∧ (ks1 = ks) ∧ (gx11 = gx1) ∧ (gx21 = gx2) ∧ (gx31 = gx3) ∧ (lk1 = lk) ∧ zIM cy f1 o wev wnb wki wmy wce wiw wli wha wwt wfy wfk wem wna wpl whs wk1 wk2 wk3 u11 u21 u31 nl1 nn1 nf1 nc1 lk1 ks1 gv1 gu1 gk1 gm1 gc1 gw1 gl1 gh1 gt1 gy1 gq1 ge11 gn11 gp11 gs1 gx11 gx21 gx31 ln1 fz1 sq1) := by
  intro sz
  refine z_body (by decide +kernel) (Nat.le_of_ble_eq_true rfl) ?_
  intro p e s m below meth c ls C hr hin hsz hz hl
  subst hsz
  have hx := C.1
  have hb := C.2.1
  have hA : ∀ q, s.heap.size ≤ q → zA f s.heap.size q := fun q h => Or.inr h
  have hS : va_S (zA f s.heap.size) s.heap s.heap [] := va_S.rf
  have hl : lv_has ls 2 [(0, .ref o), (1, .int x)] := hl
  obtain ⟨x_o, x_wev, x_wnb, x_wki, x_wmy, x_wce, x_wiw, x_wli, x_wha, x_wwt, x_wfy, x_wfk, x_wem, x_wna, x_wpl, x_whs, x_wk1, x_wk2, x_wk3, hn60, hl12, hf6, hc60, hs40, hMP, hgy, hfz, hgs, hME, hlk, hgw, hfd, n_wki_wmy, n_wki_wiw, n_wki_wli, n_wki_wha, n_wki_wem, n_wki_wna, n_wki_wpl, n_wmy_wiw, n_wmy_wli, n_wmy_wha, n_wmy_wem, n_wmy_wna, n_wmy_wpl, n_wiw_wli, n_wiw_wha, n_wiw_wem, n_wiw_wna, n_wiw_wpl, n_wli_wha, n_wli_wem, n_wli_wna, n_wli_wpl, n_wha_wem, n_wha_wna, n_wha_wpl, n_wem_wna, n_wem_wpl, n_wna_wpl, n_wk1_wk2, n_wk1_wk3, n_wk2_wk3⟩ := id hI
  refine lv_aload_n hx hb dX8_hash_0 rfl (lv_at hl 0 rfl) ?_
  refine lv_iload_n hx hb dX8_hash_1 rfl (lv_at hl 1 rfl) ?_
  rcases z_findi x nn with ⟨ja, hja, hva⟩ | hva
  · have hFa : isF nn x = true := isF_t hn60 hja hva
    have hIa : fI x = ja := fI_of (by omega) hva
    have hNa : ¬ x = (-1) := by rw [hva]; exact z_nim1 (by omega)
    refine z_callVi (As := [.int x]) C hz hS hA hl (k_X8_isFigure_A l D cy f o wev wnb wki wmy wce wiw wli wha wwt wfy wfk wem wna wpl whs wk1 wk2 wk3 u1 u2 u3 nl nn nf nc lk ks x ja x_o hn60 hva hja) zyX8_isFigure mMX8_139 x_o zl8 rfl rfl (Nat.le_of_ble_eq_true rfl) ⟨Nat.le_of_ble_eq_true rfl, Nat.le_of_ble_eq_true rfl⟩ ⟨Nat.le_of_ble_eq_true rfl, Nat.le_of_ble_eq_true rfl⟩ dX8_hash_2 (fun r f1 H locs h2 hz hS => ?_)
    obtain ⟨rfl, k3⟩ := h2
    refine lv_if_eq (tgt := 17) hx hb dX8_hash_5 (by decide) (fun c4 => ?_) (fun c4 => ?_)
    · exact absurd c4 (by decide)
    refine lv_aload_n hx hb dX8_hash_8 rfl (lv_at hl 0 rfl) ?_
    have a5 : f1 o = some (.inr (8, [.int u1, .int u2, .int u3, .ref wev, .int (nI nl), .ref wnb, .int (nI nn), .ref wki, .ref wmy, .ref wce, .ref wiw, .ref wli, .ref wha, .ref wwt, .int (nI nf), .ref wfy, .ref wfk, .int (nI nc), .ref wem, .ref wna, .ref wpl, .ref whs, .long lk, .int (nI ks), .ref wk1, .ref wk2, .ref wk3])) := k3 _ _ x_o 
    refine z_get (v := .ref wha) C hz a5 zl8 mFX8_37 (by decide) rfl dX8_hash_9 ?_
    refine lv_iload_n hx hb dX8_hash_12 rfl (lv_at hl 1 rfl) ?_
    have a6 : f1 wha = some (.inl (cy 0, 60, .inl gh)) := k3 _ _ x_wha 
    refine z_iald ja C hz a6 hva (by omega) (by omega) dX8_hash_13 ?_
    refine lv_goto (tgt := 18) hx hb dX8_hash_14 (by decide) ?_
    have a7 : f1 wev = some (.inl (cy 0, 8, .inl gv)) := k3 _ _ x_wev 
    have a8 : f1 wnb = some (.inl (cy 0, 12, .inl gu)) := k3 _ _ x_wnb 
    have a9 : f1 wki = some (.inl (cy 0, 60, .inl gk)) := k3 _ _ x_wki 
    have a10 : f1 wmy = some (.inl (cy 0, 60, .inl gm)) := k3 _ _ x_wmy 
    have a11 : f1 wce = some (.inl (cy 1, 960, .inr (.inl gc))) := k3 _ _ x_wce 
    have a12 : f1 wiw = some (.inl (cy 2, 60, .inl gw)) := k3 _ _ x_wiw 
    have a13 : f1 wli = some (.inl (cy 0, 60, .inl gl)) := k3 _ _ x_wli 
    have a14 : f1 wwt = some (.inl (cy 1, 60, .inr (.inl gt))) := k3 _ _ x_wwt 
    have a15 : f1 wfy = some (.inl (cy 0, 6, .inl gy)) := k3 _ _ x_wfy 
    have a16 : f1 wfk = some (.inl (cy 0, 24, .inl gq)) := k3 _ _ x_wfk 
    have a17 : f1 wem = some (.inl (cy 0, 60, .inl ge1)) := k3 _ _ x_wem 
    have a18 : f1 wna = some (.inl (cy 0, 60, .inl gn1)) := k3 _ _ x_wna 
    have a19 : f1 wpl = some (.inl (cy 0, 60, .inl gp1)) := k3 _ _ x_wpl 
    have a20 : f1 whs = some (.inl (cy 0, 4, .inl gs)) := k3 _ _ x_whs 
    have a21 : f1 wk1 = some (.inl (cy 0, 40, .inl gx1)) := k3 _ _ x_wk1 
    have a22 : f1 wk2 = some (.inl (cy 0, 40, .inl gx2)) := k3 _ _ x_wk2 
    have a23 : f1 wk3 = some (.inl (cy 0, 40, .inl gx3)) := k3 _ _ x_wk3 
    exact z_iret C hr rfl hz hS ⟨u1, u2, u3, nl, nn, nf, nc, lk, ks, gv, gu, gk, gm, gc, gw, gl, gh, gt, gy, gq, ge1, gn1, gp1, gs, gx1, gx2, gx3, ln, fz, sq, (by simp [q_hash, hFa, hIa, hNa, c4]), rfl, rfl, rfl, rfl, rfl, rfl, rfl, rfl, rfl, rfl, rfl, rfl, rfl, rfl, rfl, rfl, rfl, rfl, rfl, rfl, rfl, rfl, rfl, rfl, rfl, ⟨a5, a7, a8, a9, a10, a11, a12, a13, a6, a14, a15, a16, a17, a18, a19, a20, a21, a22, a23, hn60, hl12, hf6, hc60, hs40, hMP, hgy, hfz, hgs, hME, hlk, hgw, hfd, n_wki_wmy, n_wki_wiw, n_wki_wli, n_wki_wha, n_wki_wem, n_wki_wna, n_wki_wpl, n_wmy_wiw, n_wmy_wli, n_wmy_wha, n_wmy_wem, n_wmy_wna, n_wmy_wpl, n_wiw_wli, n_wiw_wha, n_wiw_wem, n_wiw_wna, n_wiw_wpl, n_wli_wha, n_wli_wem, n_wli_wna, n_wli_wpl, n_wha_wem, n_wha_wna, n_wha_wpl, n_wem_wna, n_wem_wpl, n_wna_wpl, n_wk1_wk2, n_wk1_wk3, n_wk2_wk3⟩⟩ (Nat.le_of_ble_eq_true rfl) (Nat.le_of_ble_eq_true rfl) dX8_hash_18
  · have hFa : isF nn x = false := isF_f hn60 hva
    refine z_callVi (As := [.int x]) C hz hS hA hl (k_X8_isFigure_B l D cy f o wev wnb wki wmy wce wiw wli wha wwt wfy wfk wem wna wpl whs wk1 wk2 wk3 u1 u2 u3 nl nn nf nc lk ks x x_o hn60 hva) zyX8_isFigure mMX8_139 x_o zl8 rfl rfl (Nat.le_of_ble_eq_true rfl) ⟨Nat.le_of_ble_eq_true rfl, Nat.le_of_ble_eq_true rfl⟩ ⟨Nat.le_of_ble_eq_true rfl, Nat.le_of_ble_eq_true rfl⟩ dX8_hash_2 (fun r f24 H locs h25 hz hS => ?_)
    obtain ⟨rfl, k26⟩ := h25
    refine lv_if_eq (tgt := 17) hx hb dX8_hash_5 (by decide) (fun c27 => ?_) (fun c27 => ?_)
    rotate_left
    · exact absurd c27 (by decide)
    refine lv_iconst (v := 0) hx hb dX8_hash_17 (by decide) ?_
    have a28 : f24 o = some (.inr (8, [.int u1, .int u2, .int u3, .ref wev, .int (nI nl), .ref wnb, .int (nI nn), .ref wki, .ref wmy, .ref wce, .ref wiw, .ref wli, .ref wha, .ref wwt, .int (nI nf), .ref wfy, .ref wfk, .int (nI nc), .ref wem, .ref wna, .ref wpl, .ref whs, .long lk, .int (nI ks), .ref wk1, .ref wk2, .ref wk3])) := k26 _ _ x_o 
    have a29 : f24 wev = some (.inl (cy 0, 8, .inl gv)) := k26 _ _ x_wev 
    have a30 : f24 wnb = some (.inl (cy 0, 12, .inl gu)) := k26 _ _ x_wnb 
    have a31 : f24 wki = some (.inl (cy 0, 60, .inl gk)) := k26 _ _ x_wki 
    have a32 : f24 wmy = some (.inl (cy 0, 60, .inl gm)) := k26 _ _ x_wmy 
    have a33 : f24 wce = some (.inl (cy 1, 960, .inr (.inl gc))) := k26 _ _ x_wce 
    have a34 : f24 wiw = some (.inl (cy 2, 60, .inl gw)) := k26 _ _ x_wiw 
    have a35 : f24 wli = some (.inl (cy 0, 60, .inl gl)) := k26 _ _ x_wli 
    have a36 : f24 wha = some (.inl (cy 0, 60, .inl gh)) := k26 _ _ x_wha 
    have a37 : f24 wwt = some (.inl (cy 1, 60, .inr (.inl gt))) := k26 _ _ x_wwt 
    have a38 : f24 wfy = some (.inl (cy 0, 6, .inl gy)) := k26 _ _ x_wfy 
    have a39 : f24 wfk = some (.inl (cy 0, 24, .inl gq)) := k26 _ _ x_wfk 
    have a40 : f24 wem = some (.inl (cy 0, 60, .inl ge1)) := k26 _ _ x_wem 
    have a41 : f24 wna = some (.inl (cy 0, 60, .inl gn1)) := k26 _ _ x_wna 
    have a42 : f24 wpl = some (.inl (cy 0, 60, .inl gp1)) := k26 _ _ x_wpl 
    have a43 : f24 whs = some (.inl (cy 0, 4, .inl gs)) := k26 _ _ x_whs 
    have a44 : f24 wk1 = some (.inl (cy 0, 40, .inl gx1)) := k26 _ _ x_wk1 
    have a45 : f24 wk2 = some (.inl (cy 0, 40, .inl gx2)) := k26 _ _ x_wk2 
    have a46 : f24 wk3 = some (.inl (cy 0, 40, .inl gx3)) := k26 _ _ x_wk3 
    exact z_iret C hr rfl hz hS ⟨u1, u2, u3, nl, nn, nf, nc, lk, ks, gv, gu, gk, gm, gc, gw, gl, gh, gt, gy, gq, ge1, gn1, gp1, gs, gx1, gx2, gx3, ln, fz, sq, (by simp [q_hash, hFa, c27]), rfl, rfl, rfl, rfl, rfl, rfl, rfl, rfl, rfl, rfl, rfl, rfl, rfl, rfl, rfl, rfl, rfl, rfl, rfl, rfl, rfl, rfl, rfl, rfl, rfl, ⟨a28, a29, a30, a31, a32, a33, a34, a35, a36, a37, a38, a39, a40, a41, a42, a43, a44, a45, a46, hn60, hl12, hf6, hc60, hs40, hMP, hgy, hfz, hgs, hME, hlk, hgw, hfd, n_wki_wmy, n_wki_wiw, n_wki_wli, n_wki_wha, n_wki_wem, n_wki_wna, n_wki_wpl, n_wmy_wiw, n_wmy_wli, n_wmy_wha, n_wmy_wem, n_wmy_wna, n_wmy_wpl, n_wiw_wli, n_wiw_wha, n_wiw_wem, n_wiw_wna, n_wiw_wpl, n_wli_wha, n_wli_wem, n_wli_wna, n_wli_wpl, n_wha_wem, n_wha_wna, n_wha_wpl, n_wem_wna, n_wem_wpl, n_wna_wpl, n_wk1_wk2, n_wk1_wk3, n_wk2_wk3⟩⟩ (Nat.le_of_ble_eq_true rfl) (Nat.le_of_ble_eq_true rfl) dX8_hash_18
abbrev rmX8_first : Room := { frames := 1, cells := 0, slots := 0, locals := 21 }
set_option maxHeartbeats 4000000 in
set_option maxRecDepth 100000 in
theorem k_X8_first (l : Launch) (D : va_G) (cy : Nat → ClassId) (f : zM) (o : Nat) (wev : Nat) (wnb : Nat) (wki : Nat) (wmy : Nat) (wce : Nat) (wiw : Nat) (wli : Nat) (wha : Nat) (wwt : Nat) (wfy : Nat) (wfk : Nat) (wem : Nat) (wna : Nat) (wpl : Nat) (whs : Nat) (wk1 : Nat) (wk2 : Nat) (wk3 : Nat) (u1 : Int32) (u2 : Int32) (u3 : Int32) (nl : Nat) (nn : Nat) (nf : Nat) (nc : Nat) (lk : Int64) (ks : Nat) (gv : Nat → Int32) (gu : Nat → Int32) (gk : Nat → Int32) (gm : Nat → Int32) (gc : Nat → Int64) (gw : Nat → Int32) (gl : Nat → Int32) (gh : Nat → Int32) (gt : Nat → Int64) (gy : Nat → Int32) (gq : Nat → Int32) (ge1 : Nat → Int32) (gn1 : Nat → Int32) (gp1 : Nat → Int32) (gs : Nat → Int32) (gx1 : Nat → Int32) (gx2 : Nat → Int32) (gx3 : Nat → Int32) (ln : Nat → Nat) (fz : Nat → Nat) (sq : Nat → Nat) (x : Int32)    (hI : zIM cy f o wev wnb wki wmy wce wiw wli wha wwt wfy wfk wem wna wpl whs wk1 wk2 wk3 u1 u2 u3 nl nn nf nc lk ks gv gu gk gm gc gw gl gh gt gy gq ge1 gn1 gp1 gs gx1 gx2 gx3 ln fz sq) : zCi l D cy yX8_first cX8_first 2 (Option.some Jvm.ClassFile.FieldType.int) rmX8_first [.ref o, .int x] f (fun (r : Int32) (f1 : zM) => ∃ (u11 : Int32) (u21 : Int32) (u31 : Int32) (nl1 : Nat) (nn1 : Nat) (nf1 : Nat) (nc1 : Nat) (lk1 : Int64) (ks1 : Nat) (gv1 : Nat → Int32) (gu1 : Nat → Int32) (gk1 : Nat → Int32) (gm1 : Nat → Int32) (gc1 : Nat → Int64) (gw1 : Nat → Int32) (gl1 : Nat → Int32) (gh1 : Nat → Int32) (gt1 : Nat → Int64) (gy1 : Nat → Int32) (gq1 : Nat → Int32) (ge11 : Nat → Int32) (gn11 : Nat → Int32) (gp11 : Nat → Int32) (gs1 : Nat → Int32) (gx11 : Nat → Int32) (gx21 : Nat → Int32) (gx31 : Nat → Int32) (ln1 : Nat → Nat) (fz1 : Nat → Nat) (sq1 : Nat → Nat), (u11 = u1) ∧ (u21 = u2) ∧ (u31 = u3) ∧ (gv1 = gv) ∧ (nl1 = nl) ∧ (gu1 = gu) ∧ (nn1 = nn) ∧ (gk1 = gk) ∧ (ln1 = ln) ∧ (gw1 = gw) ∧ (gh1 = gh) ∧ (gc1 = gc) ∧ (nf1 = nf) ∧ (fz1 = fz) ∧ (gq1 = gq) ∧ (nc1 = nc) ∧ (ge11 = ge1) ∧ (gn11 = gn1) ∧ (gp11 = gp1) ∧ (sq1 = sq) ∧ (ks1 = ks) ∧ (gx11 = gx1) ∧ (gx21 = gx2) ∧ (gx31 = gx3) ∧ (lk1 = lk) ∧ zIM cy f1 o wev wnb wki wmy wce wiw wli wha wwt wfy wfk wem wna wpl whs wk1 wk2 wk3 u11 u21 u31 nl1 nn1 nf1 nc1 lk1 ks1 gv1 gu1 gk1 gm1 gc1 gw1 gl1 gh1 gt1 gy1 gq1 ge11 gn11 gp11 gs1 gx11 gx21 gx31 ln1 fz1 sq1) := by
  intro sz
  refine z_body (by decide +kernel) (Nat.le_of_ble_eq_true rfl) ?_
  intro p e s m below meth c ls C hr hin hsz hz hl
  subst hsz
  have hx := C.1
  have hb := C.2.1
  have hA : ∀ q, s.heap.size ≤ q → zA f s.heap.size q := fun q h => Or.inr h
  have hS : va_S (zA f s.heap.size) s.heap s.heap [] := va_S.rf
  have hl : lv_has ls 2 [(0, .ref o), (1, .int x)] := hl
  obtain ⟨x_o, x_wev, x_wnb, x_wki, x_wmy, x_wce, x_wiw, x_wli, x_wha, x_wwt, x_wfy, x_wfk, x_wem, x_wna, x_wpl, x_whs, x_wk1, x_wk2, x_wk3, hn60, hl12, hf6, hc60, hs40, hMP, hgy, hfz, hgs, hME, hlk, hgw, hfd, n_wki_wmy, n_wki_wiw, n_wki_wli, n_wki_wha, n_wki_wem, n_wki_wna, n_wki_wpl, n_wmy_wiw, n_wmy_wli, n_wmy_wha, n_wmy_wem, n_wmy_wna, n_wmy_wpl, n_wiw_wli, n_wiw_wha, n_wiw_wem, n_wiw_wna, n_wiw_wpl, n_wli_wha, n_wli_wem, n_wli_wna, n_wli_wpl, n_wha_wem, n_wha_wna, n_wha_wpl, n_wem_wna, n_wem_wpl, n_wna_wpl, n_wk1_wk2, n_wk1_wk3, n_wk2_wk3⟩ := id hI
  refine lv_aload_n hx hb dX8_first_0 rfl (lv_at hl 0 rfl) ?_
  refine lv_iload_n hx hb dX8_first_1 rfl (lv_at hl 1 rfl) ?_
  rcases z_findi x nn with ⟨ja, hja, hva⟩ | hva
  · have hFa : isF nn x = true := isF_t hn60 hja hva
    have hIa : fI x = ja := fI_of (by omega) hva
    have hNa : ¬ x = (-1) := by rw [hva]; exact z_nim1 (by omega)
    refine z_callVi (As := [.int x]) C hz hS hA hl (k_X8_isFigure_A l D cy f o wev wnb wki wmy wce wiw wli wha wwt wfy wfk wem wna wpl whs wk1 wk2 wk3 u1 u2 u3 nl nn nf nc lk ks x ja x_o hn60 hva hja) zyX8_isFigure mMX8_139 x_o zl8 rfl rfl (Nat.le_of_ble_eq_true rfl) ⟨Nat.le_of_ble_eq_true rfl, Nat.le_of_ble_eq_true rfl⟩ ⟨Nat.le_of_ble_eq_true rfl, Nat.le_of_ble_eq_true rfl⟩ dX8_first_2 (fun r f1 H locs h2 hz hS => ?_)
    obtain ⟨rfl, k3⟩ := h2
    refine lv_if_eq (tgt := 17) hx hb dX8_first_5 (by decide) (fun c4 => ?_) (fun c4 => ?_)
    · exact absurd c4 (by decide)
    refine lv_aload_n hx hb dX8_first_8 rfl (lv_at hl 0 rfl) ?_
    have a5 : f1 o = some (.inr (8, [.int u1, .int u2, .int u3, .ref wev, .int (nI nl), .ref wnb, .int (nI nn), .ref wki, .ref wmy, .ref wce, .ref wiw, .ref wli, .ref wha, .ref wwt, .int (nI nf), .ref wfy, .ref wfk, .int (nI nc), .ref wem, .ref wna, .ref wpl, .ref whs, .long lk, .int (nI ks), .ref wk1, .ref wk2, .ref wk3])) := k3 _ _ x_o 
    refine z_get (v := .ref wli) C hz a5 zl8 mFX8_34 (by decide) rfl dX8_first_9 ?_
    refine lv_iload_n hx hb dX8_first_12 rfl (lv_at hl 1 rfl) ?_
    have a6 : f1 wli = some (.inl (cy 0, 60, .inl gl)) := k3 _ _ x_wli 
    refine z_iald ja C hz a6 hva (by omega) (by omega) dX8_first_13 ?_
    refine lv_goto (tgt := 19) hx hb dX8_first_14 (by decide) ?_
    have a7 : f1 wev = some (.inl (cy 0, 8, .inl gv)) := k3 _ _ x_wev 
    have a8 : f1 wnb = some (.inl (cy 0, 12, .inl gu)) := k3 _ _ x_wnb 
    have a9 : f1 wki = some (.inl (cy 0, 60, .inl gk)) := k3 _ _ x_wki 
    have a10 : f1 wmy = some (.inl (cy 0, 60, .inl gm)) := k3 _ _ x_wmy 
    have a11 : f1 wce = some (.inl (cy 1, 960, .inr (.inl gc))) := k3 _ _ x_wce 
    have a12 : f1 wiw = some (.inl (cy 2, 60, .inl gw)) := k3 _ _ x_wiw 
    have a13 : f1 wha = some (.inl (cy 0, 60, .inl gh)) := k3 _ _ x_wha 
    have a14 : f1 wwt = some (.inl (cy 1, 60, .inr (.inl gt))) := k3 _ _ x_wwt 
    have a15 : f1 wfy = some (.inl (cy 0, 6, .inl gy)) := k3 _ _ x_wfy 
    have a16 : f1 wfk = some (.inl (cy 0, 24, .inl gq)) := k3 _ _ x_wfk 
    have a17 : f1 wem = some (.inl (cy 0, 60, .inl ge1)) := k3 _ _ x_wem 
    have a18 : f1 wna = some (.inl (cy 0, 60, .inl gn1)) := k3 _ _ x_wna 
    have a19 : f1 wpl = some (.inl (cy 0, 60, .inl gp1)) := k3 _ _ x_wpl 
    have a20 : f1 whs = some (.inl (cy 0, 4, .inl gs)) := k3 _ _ x_whs 
    have a21 : f1 wk1 = some (.inl (cy 0, 40, .inl gx1)) := k3 _ _ x_wk1 
    have a22 : f1 wk2 = some (.inl (cy 0, 40, .inl gx2)) := k3 _ _ x_wk2 
    have a23 : f1 wk3 = some (.inl (cy 0, 40, .inl gx3)) := k3 _ _ x_wk3 
    exact z_iret C hr rfl hz hS ⟨u1, u2, u3, nl, nn, nf, nc, lk, ks, gv, gu, gk, gm, gc, gw, gl, gh, gt, gy, gq, ge1, gn1, gp1, gs, gx1, gx2, gx3, ln, fz, sq, rfl, rfl, rfl, rfl, rfl, rfl, rfl, rfl, rfl, rfl, rfl, rfl, rfl, rfl, rfl, rfl, rfl, rfl, rfl, rfl, rfl, rfl, rfl, rfl, rfl, ⟨a5, a7, a8, a9, a10, a11, a12, a6, a13, a14, a15, a16, a17, a18, a19, a20, a21, a22, a23, hn60, hl12, hf6, hc60, hs40, hMP, hgy, hfz, hgs, hME, hlk, hgw, hfd, n_wki_wmy, n_wki_wiw, n_wki_wli, n_wki_wha, n_wki_wem, n_wki_wna, n_wki_wpl, n_wmy_wiw, n_wmy_wli, n_wmy_wha, n_wmy_wem, n_wmy_wna, n_wmy_wpl, n_wiw_wli, n_wiw_wha, n_wiw_wem, n_wiw_wna, n_wiw_wpl, n_wli_wha, n_wli_wem, n_wli_wna, n_wli_wpl, n_wha_wem, n_wha_wna, n_wha_wpl, n_wem_wna, n_wem_wpl, n_wna_wpl, n_wk1_wk2, n_wk1_wk3, n_wk2_wk3⟩⟩ (Nat.le_of_ble_eq_true rfl) (Nat.le_of_ble_eq_true rfl) dX8_first_19
  · have hFa : isF nn x = false := isF_f hn60 hva
    refine z_callVi (As := [.int x]) C hz hS hA hl (k_X8_isFigure_B l D cy f o wev wnb wki wmy wce wiw wli wha wwt wfy wfk wem wna wpl whs wk1 wk2 wk3 u1 u2 u3 nl nn nf nc lk ks x x_o hn60 hva) zyX8_isFigure mMX8_139 x_o zl8 rfl rfl (Nat.le_of_ble_eq_true rfl) ⟨Nat.le_of_ble_eq_true rfl, Nat.le_of_ble_eq_true rfl⟩ ⟨Nat.le_of_ble_eq_true rfl, Nat.le_of_ble_eq_true rfl⟩ dX8_first_2 (fun r f24 H locs h25 hz hS => ?_)
    obtain ⟨rfl, k26⟩ := h25
    refine lv_if_eq (tgt := 17) hx hb dX8_first_5 (by decide) (fun c27 => ?_) (fun c27 => ?_)
    rotate_left
    · exact absurd c27 (by decide)
    refine lv_bipush (v := (-2)) hx hb dX8_first_17 (by decide) ?_
    have a28 : f24 o = some (.inr (8, [.int u1, .int u2, .int u3, .ref wev, .int (nI nl), .ref wnb, .int (nI nn), .ref wki, .ref wmy, .ref wce, .ref wiw, .ref wli, .ref wha, .ref wwt, .int (nI nf), .ref wfy, .ref wfk, .int (nI nc), .ref wem, .ref wna, .ref wpl, .ref whs, .long lk, .int (nI ks), .ref wk1, .ref wk2, .ref wk3])) := k26 _ _ x_o 
    have a29 : f24 wev = some (.inl (cy 0, 8, .inl gv)) := k26 _ _ x_wev 
    have a30 : f24 wnb = some (.inl (cy 0, 12, .inl gu)) := k26 _ _ x_wnb 
    have a31 : f24 wki = some (.inl (cy 0, 60, .inl gk)) := k26 _ _ x_wki 
    have a32 : f24 wmy = some (.inl (cy 0, 60, .inl gm)) := k26 _ _ x_wmy 
    have a33 : f24 wce = some (.inl (cy 1, 960, .inr (.inl gc))) := k26 _ _ x_wce 
    have a34 : f24 wiw = some (.inl (cy 2, 60, .inl gw)) := k26 _ _ x_wiw 
    have a35 : f24 wli = some (.inl (cy 0, 60, .inl gl)) := k26 _ _ x_wli 
    have a36 : f24 wha = some (.inl (cy 0, 60, .inl gh)) := k26 _ _ x_wha 
    have a37 : f24 wwt = some (.inl (cy 1, 60, .inr (.inl gt))) := k26 _ _ x_wwt 
    have a38 : f24 wfy = some (.inl (cy 0, 6, .inl gy)) := k26 _ _ x_wfy 
    have a39 : f24 wfk = some (.inl (cy 0, 24, .inl gq)) := k26 _ _ x_wfk 
    have a40 : f24 wem = some (.inl (cy 0, 60, .inl ge1)) := k26 _ _ x_wem 
    have a41 : f24 wna = some (.inl (cy 0, 60, .inl gn1)) := k26 _ _ x_wna 
    have a42 : f24 wpl = some (.inl (cy 0, 60, .inl gp1)) := k26 _ _ x_wpl 
    have a43 : f24 whs = some (.inl (cy 0, 4, .inl gs)) := k26 _ _ x_whs 
    have a44 : f24 wk1 = some (.inl (cy 0, 40, .inl gx1)) := k26 _ _ x_wk1 
    have a45 : f24 wk2 = some (.inl (cy 0, 40, .inl gx2)) := k26 _ _ x_wk2 
    have a46 : f24 wk3 = some (.inl (cy 0, 40, .inl gx3)) := k26 _ _ x_wk3 
    exact z_iret C hr rfl hz hS ⟨u1, u2, u3, nl, nn, nf, nc, lk, ks, gv, gu, gk, gm, gc, gw, gl, gh, gt, gy, gq, ge1, gn1, gp1, gs, gx1, gx2, gx3, ln, fz, sq, rfl, rfl, rfl, rfl, rfl, rfl, rfl, rfl, rfl, rfl, rfl, rfl, rfl, rfl, rfl, rfl, rfl, rfl, rfl, rfl, rfl, rfl, rfl, rfl, rfl, ⟨a28, a29, a30, a31, a32, a33, a34, a35, a36, a37, a38, a39, a40, a41, a42, a43, a44, a45, a46, hn60, hl12, hf6, hc60, hs40, hMP, hgy, hfz, hgs, hME, hlk, hgw, hfd, n_wki_wmy, n_wki_wiw, n_wki_wli, n_wki_wha, n_wki_wem, n_wki_wna, n_wki_wpl, n_wmy_wiw, n_wmy_wli, n_wmy_wha, n_wmy_wem, n_wmy_wna, n_wmy_wpl, n_wiw_wli, n_wiw_wha, n_wiw_wem, n_wiw_wna, n_wiw_wpl, n_wli_wha, n_wli_wem, n_wli_wna, n_wli_wpl, n_wha_wem, n_wha_wna, n_wha_wpl, n_wem_wna, n_wem_wpl, n_wna_wpl, n_wk1_wk2, n_wk1_wk3, n_wk2_wk3⟩⟩ (Nat.le_of_ble_eq_true rfl) (Nat.le_of_ble_eq_true rfl) dX8_first_19
abbrev rmX8_equal : Room := { frames := 1, cells := 0, slots := 0, locals := 21 }
set_option maxHeartbeats 4000000 in
set_option maxRecDepth 100000 in
theorem k_X8_equal (l : Launch) (D : va_G) (cy : Nat → ClassId) (f : zM) (o : Nat) (wev : Nat) (wnb : Nat) (wki : Nat) (wmy : Nat) (wce : Nat) (wiw : Nat) (wli : Nat) (wha : Nat) (wwt : Nat) (wfy : Nat) (wfk : Nat) (wem : Nat) (wna : Nat) (wpl : Nat) (whs : Nat) (wk1 : Nat) (wk2 : Nat) (wk3 : Nat) (u1 : Int32) (u2 : Int32) (u3 : Int32) (nl : Nat) (nn : Nat) (nf : Nat) (nc : Nat) (lk : Int64) (ks : Nat) (gv : Nat → Int32) (gu : Nat → Int32) (gk : Nat → Int32) (gm : Nat → Int32) (gc : Nat → Int64) (gw : Nat → Int32) (gl : Nat → Int32) (gh : Nat → Int32) (gt : Nat → Int64) (gy : Nat → Int32) (gq : Nat → Int32) (ge1 : Nat → Int32) (gn1 : Nat → Int32) (gp1 : Nat → Int32) (gs : Nat → Int32) (gx1 : Nat → Int32) (gx2 : Nat → Int32) (gx3 : Nat → Int32) (ln : Nat → Nat) (fz : Nat → Nat) (sq : Nat → Nat) (x : Int32) (y : Int32)    (hI : zIM cy f o wev wnb wki wmy wce wiw wli wha wwt wfy wfk wem wna wpl whs wk1 wk2 wk3 u1 u2 u3 nl nn nf nc lk ks gv gu gk gm gc gw gl gh gt gy gq ge1 gn1 gp1 gs gx1 gx2 gx3 ln fz sq) : zCi l D cy yX8_equal cX8_equal 3 (Option.some Jvm.ClassFile.FieldType.int) rmX8_equal [.ref o, .int x, .int y] f (fun (r : Int32) (f1 : zM) => ∃ (u11 : Int32) (u21 : Int32) (u31 : Int32) (nl1 : Nat) (nn1 : Nat) (nf1 : Nat) (nc1 : Nat) (lk1 : Int64) (ks1 : Nat) (gv1 : Nat → Int32) (gu1 : Nat → Int32) (gk1 : Nat → Int32) (gm1 : Nat → Int32) (gc1 : Nat → Int64) (gw1 : Nat → Int32) (gl1 : Nat → Int32) (gh1 : Nat → Int32) (gt1 : Nat → Int64) (gy1 : Nat → Int32) (gq1 : Nat → Int32) (ge11 : Nat → Int32) (gn11 : Nat → Int32) (gp11 : Nat → Int32) (gs1 : Nat → Int32) (gx11 : Nat → Int32) (gx21 : Nat → Int32) (gx31 : Nat → Int32) (ln1 : Nat → Nat) (fz1 : Nat → Nat) (sq1 : Nat → Nat), (u11 = u1) ∧ (u21 = u2) ∧ (u31 = u3) ∧ (gv1 = gv) ∧ (nl1 = nl) ∧ (gu1 = gu) ∧ (nn1 = nn) ∧ (gk1 = gk) ∧ (ln1 = ln) ∧ (gw1 = gw) ∧ (gh1 = gh) ∧ (gc1 = gc) ∧ (nf1 = nf) ∧ (fz1 = fz) ∧ (gq1 = gq) ∧ (nc1 = nc) ∧ (ge11 = ge1) ∧ (gn11 = gn1) ∧ (gp11 = gp1) ∧ (sq1 = sq) ∧ (ks1 = ks) ∧ (gx11 = gx1) ∧ (gx21 = gx2) ∧ (gx31 = gx3) ∧ (lk1 = lk) ∧ zIM cy f1 o wev wnb wki wmy wce wiw wli wha wwt wfy wfk wem wna wpl whs wk1 wk2 wk3 u11 u21 u31 nl1 nn1 nf1 nc1 lk1 ks1 gv1 gu1 gk1 gm1 gc1 gw1 gl1 gh1 gt1 gy1 gq1 ge11 gn11 gp11 gs1 gx11 gx21 gx31 ln1 fz1 sq1) := by
  intro sz
  refine z_body (by decide +kernel) (Nat.le_of_ble_eq_true rfl) ?_
  intro p e s m below meth c ls C hr hin hsz hz hl
  subst hsz
  have hx := C.1
  have hb := C.2.1
  have hA : ∀ q, s.heap.size ≤ q → zA f s.heap.size q := fun q h => Or.inr h
  have hS : va_S (zA f s.heap.size) s.heap s.heap [] := va_S.rf
  have hl : lv_has ls 3 [(0, .ref o), (1, .int x), (2, .int y)] := hl
  obtain ⟨x_o, x_wev, x_wnb, x_wki, x_wmy, x_wce, x_wiw, x_wli, x_wha, x_wwt, x_wfy, x_wfk, x_wem, x_wna, x_wpl, x_whs, x_wk1, x_wk2, x_wk3, hn60, hl12, hf6, hc60, hs40, hMP, hgy, hfz, hgs, hME, hlk, hgw, hfd, n_wki_wmy, n_wki_wiw, n_wki_wli, n_wki_wha, n_wki_wem, n_wki_wna, n_wki_wpl, n_wmy_wiw, n_wmy_wli, n_wmy_wha, n_wmy_wem, n_wmy_wna, n_wmy_wpl, n_wiw_wli, n_wiw_wha, n_wiw_wem, n_wiw_wna, n_wiw_wpl, n_wli_wha, n_wli_wem, n_wli_wna, n_wli_wpl, n_wha_wem, n_wha_wna, n_wha_wpl, n_wem_wna, n_wem_wpl, n_wna_wpl, n_wk1_wk2, n_wk1_wk3, n_wk2_wk3⟩ := id hI
  refine lv_aload_n hx hb dX8_equal_0 rfl (lv_at hl 0 rfl) ?_
  refine lv_iload_n hx hb dX8_equal_1 rfl (lv_at hl 1 rfl) ?_
  rcases z_findi x nn with ⟨ja, hja, hva⟩ | hva
  · have hFa : isF nn x = true := isF_t hn60 hja hva
    have hIa : fI x = ja := fI_of (by omega) hva
    have hNa : ¬ x = (-1) := by rw [hva]; exact z_nim1 (by omega)
    refine z_callVi (As := [.int x]) C hz hS hA hl (k_X8_isFigure_A l D cy f o wev wnb wki wmy wce wiw wli wha wwt wfy wfk wem wna wpl whs wk1 wk2 wk3 u1 u2 u3 nl nn nf nc lk ks x ja x_o hn60 hva hja) zyX8_isFigure mMX8_139 x_o zl8 rfl rfl (Nat.le_of_ble_eq_true rfl) ⟨Nat.le_of_ble_eq_true rfl, Nat.le_of_ble_eq_true rfl⟩ ⟨Nat.le_of_ble_eq_true rfl, Nat.le_of_ble_eq_true rfl⟩ dX8_equal_2 (fun r f1 H locs h2 hz hS => ?_)
    obtain ⟨rfl, k3⟩ := h2
    refine lv_if_eq (tgt := 16) hx hb dX8_equal_5 (by decide) (fun c4 => ?_) (fun c4 => ?_)
    · exact absurd c4 (by decide)
    refine lv_aload_n hx hb dX8_equal_8 rfl (lv_at hl 0 rfl) ?_
    refine lv_iload_n hx hb dX8_equal_9 rfl (lv_at hl 2 rfl) ?_
    rcases z_findi y nn with ⟨jb, hjb, hvb⟩ | hvb
    · have hFb : isF nn y = true := isF_t hn60 hjb hvb
      have hIb : fI y = jb := fI_of (by omega) hvb
      have hNb : ¬ y = (-1) := by rw [hvb]; exact z_nim1 (by omega)
      have a5 : f1 o = some (.inr (8, [.int u1, .int u2, .int u3, .ref wev, .int (nI nl), .ref wnb, .int (nI nn), .ref wki, .ref wmy, .ref wce, .ref wiw, .ref wli, .ref wha, .ref wwt, .int (nI nf), .ref wfy, .ref wfk, .int (nI nc), .ref wem, .ref wna, .ref wpl, .ref whs, .long lk, .int (nI ks), .ref wk1, .ref wk2, .ref wk3])) := k3 _ _ x_o 
      refine z_callVi (As := [.int y]) C hz hS hA hl (k_X8_isFigure_A l D cy f1 o wev wnb wki wmy wce wiw wli wha wwt wfy wfk wem wna wpl whs wk1 wk2 wk3 u1 u2 u3 nl nn nf nc lk ks y jb a5 hn60 hvb hjb) zyX8_isFigure mMX8_139 a5 zl8 rfl rfl (Nat.le_of_ble_eq_true rfl) ⟨Nat.le_of_ble_eq_true rfl, Nat.le_of_ble_eq_true rfl⟩ ⟨Nat.le_of_ble_eq_true rfl, Nat.le_of_ble_eq_true rfl⟩ dX8_equal_10 (fun r f6 H locs h7 hz hS => ?_)
      obtain ⟨rfl, k8⟩ := h7
      refine lv_if_ne (tgt := 21) hx hb dX8_equal_13 (by decide) (fun c9 => ?_) (fun c9 => ?_)
      rotate_left
      · exact absurd c9 (by decide)
      refine lv_aload_n hx hb dX8_equal_21 rfl (lv_at hl 0 rfl) ?_
      have a10 : f6 o = some (.inr (8, [.int u1, .int u2, .int u3, .ref wev, .int (nI nl), .ref wnb, .int (nI nn), .ref wki, .ref wmy, .ref wce, .ref wiw, .ref wli, .ref wha, .ref wwt, .int (nI nf), .ref wfy, .ref wfk, .int (nI nc), .ref wem, .ref wna, .ref wpl, .ref whs, .long lk, .int (nI ks), .ref wk1, .ref wk2, .ref wk3])) := k8 _ _ a5 
      refine z_get (v := .ref wli) C hz a10 zl8 mFX8_34 (by decide) rfl dX8_equal_22 ?_
      refine lv_iload_n hx hb dX8_equal_25 rfl (lv_at hl 1 rfl) ?_
      have a11 : f1 wli = some (.inl (cy 0, 60, .inl gl)) := k3 _ _ x_wli 
      have a12 : f6 wli = some (.inl (cy 0, 60, .inl gl)) := k8 _ _ a11 
      refine z_iald ja C hz a12 hva (by omega) (by omega) dX8_equal_26 ?_
      refine lv_aload_n hx hb dX8_equal_27 rfl (lv_at hl 0 rfl) ?_
      refine z_get (v := .ref wli) C hz a10 zl8 mFX8_34 (by decide) rfl dX8_equal_28 ?_
      refine lv_iload_n hx hb dX8_equal_31 rfl (lv_at hl 2 rfl) ?_
      refine z_iald jb C hz a12 hvb (by omega) (by omega) dX8_equal_32 ?_
      refine lv_icmp_ne (tgt := 40) hx hb dX8_equal_33 (by decide) (fun c13 => ?_) (fun c13 => ?_)
      · refine lv_iconst (v := 0) hx hb dX8_equal_40 (by decide) ?_
        have a14 : f1 wev = some (.inl (cy 0, 8, .inl gv)) := k3 _ _ x_wev 
        have a15 : f6 wev = some (.inl (cy 0, 8, .inl gv)) := k8 _ _ a14 
        have a16 : f1 wnb = some (.inl (cy 0, 12, .inl gu)) := k3 _ _ x_wnb 
        have a17 : f6 wnb = some (.inl (cy 0, 12, .inl gu)) := k8 _ _ a16 
        have a18 : f1 wki = some (.inl (cy 0, 60, .inl gk)) := k3 _ _ x_wki 
        have a19 : f6 wki = some (.inl (cy 0, 60, .inl gk)) := k8 _ _ a18 
        have a20 : f1 wmy = some (.inl (cy 0, 60, .inl gm)) := k3 _ _ x_wmy 
        have a21 : f6 wmy = some (.inl (cy 0, 60, .inl gm)) := k8 _ _ a20 
        have a22 : f1 wce = some (.inl (cy 1, 960, .inr (.inl gc))) := k3 _ _ x_wce 
        have a23 : f6 wce = some (.inl (cy 1, 960, .inr (.inl gc))) := k8 _ _ a22 
        have a24 : f1 wiw = some (.inl (cy 2, 60, .inl gw)) := k3 _ _ x_wiw 
        have a25 : f6 wiw = some (.inl (cy 2, 60, .inl gw)) := k8 _ _ a24 
        have a26 : f1 wha = some (.inl (cy 0, 60, .inl gh)) := k3 _ _ x_wha 
        have a27 : f6 wha = some (.inl (cy 0, 60, .inl gh)) := k8 _ _ a26 
        have a28 : f1 wwt = some (.inl (cy 1, 60, .inr (.inl gt))) := k3 _ _ x_wwt 
        have a29 : f6 wwt = some (.inl (cy 1, 60, .inr (.inl gt))) := k8 _ _ a28 
        have a30 : f1 wfy = some (.inl (cy 0, 6, .inl gy)) := k3 _ _ x_wfy 
        have a31 : f6 wfy = some (.inl (cy 0, 6, .inl gy)) := k8 _ _ a30 
        have a32 : f1 wfk = some (.inl (cy 0, 24, .inl gq)) := k3 _ _ x_wfk 
        have a33 : f6 wfk = some (.inl (cy 0, 24, .inl gq)) := k8 _ _ a32 
        have a34 : f1 wem = some (.inl (cy 0, 60, .inl ge1)) := k3 _ _ x_wem 
        have a35 : f6 wem = some (.inl (cy 0, 60, .inl ge1)) := k8 _ _ a34 
        have a36 : f1 wna = some (.inl (cy 0, 60, .inl gn1)) := k3 _ _ x_wna 
        have a37 : f6 wna = some (.inl (cy 0, 60, .inl gn1)) := k8 _ _ a36 
        have a38 : f1 wpl = some (.inl (cy 0, 60, .inl gp1)) := k3 _ _ x_wpl 
        have a39 : f6 wpl = some (.inl (cy 0, 60, .inl gp1)) := k8 _ _ a38 
        have a40 : f1 whs = some (.inl (cy 0, 4, .inl gs)) := k3 _ _ x_whs 
        have a41 : f6 whs = some (.inl (cy 0, 4, .inl gs)) := k8 _ _ a40 
        have a42 : f1 wk1 = some (.inl (cy 0, 40, .inl gx1)) := k3 _ _ x_wk1 
        have a43 : f6 wk1 = some (.inl (cy 0, 40, .inl gx1)) := k8 _ _ a42 
        have a44 : f1 wk2 = some (.inl (cy 0, 40, .inl gx2)) := k3 _ _ x_wk2 
        have a45 : f6 wk2 = some (.inl (cy 0, 40, .inl gx2)) := k8 _ _ a44 
        have a46 : f1 wk3 = some (.inl (cy 0, 40, .inl gx3)) := k3 _ _ x_wk3 
        have a47 : f6 wk3 = some (.inl (cy 0, 40, .inl gx3)) := k8 _ _ a46 
        exact z_iret C hr rfl hz hS ⟨u1, u2, u3, nl, nn, nf, nc, lk, ks, gv, gu, gk, gm, gc, gw, gl, gh, gt, gy, gq, ge1, gn1, gp1, gs, gx1, gx2, gx3, ln, fz, sq, rfl, rfl, rfl, rfl, rfl, rfl, rfl, rfl, rfl, rfl, rfl, rfl, rfl, rfl, rfl, rfl, rfl, rfl, rfl, rfl, rfl, rfl, rfl, rfl, rfl, ⟨a10, a15, a17, a19, a21, a23, a25, a12, a27, a29, a31, a33, a35, a37, a39, a41, a43, a45, a47, hn60, hl12, hf6, hc60, hs40, hMP, hgy, hfz, hgs, hME, hlk, hgw, hfd, n_wki_wmy, n_wki_wiw, n_wki_wli, n_wki_wha, n_wki_wem, n_wki_wna, n_wki_wpl, n_wmy_wiw, n_wmy_wli, n_wmy_wha, n_wmy_wem, n_wmy_wna, n_wmy_wpl, n_wiw_wli, n_wiw_wha, n_wiw_wem, n_wiw_wna, n_wiw_wpl, n_wli_wha, n_wli_wem, n_wli_wna, n_wli_wpl, n_wha_wem, n_wha_wna, n_wha_wpl, n_wem_wna, n_wem_wpl, n_wna_wpl, n_wk1_wk2, n_wk1_wk3, n_wk2_wk3⟩⟩ (Nat.le_of_ble_eq_true rfl) (Nat.le_of_ble_eq_true rfl) dX8_equal_41
      · refine lv_iconst (v := 1) hx hb dX8_equal_36 (by decide) ?_
        refine lv_goto (tgt := 41) hx hb dX8_equal_37 (by decide) ?_
        have a48 : f1 wev = some (.inl (cy 0, 8, .inl gv)) := k3 _ _ x_wev 
        have a49 : f6 wev = some (.inl (cy 0, 8, .inl gv)) := k8 _ _ a48 
        have a50 : f1 wnb = some (.inl (cy 0, 12, .inl gu)) := k3 _ _ x_wnb 
        have a51 : f6 wnb = some (.inl (cy 0, 12, .inl gu)) := k8 _ _ a50 
        have a52 : f1 wki = some (.inl (cy 0, 60, .inl gk)) := k3 _ _ x_wki 
        have a53 : f6 wki = some (.inl (cy 0, 60, .inl gk)) := k8 _ _ a52 
        have a54 : f1 wmy = some (.inl (cy 0, 60, .inl gm)) := k3 _ _ x_wmy 
        have a55 : f6 wmy = some (.inl (cy 0, 60, .inl gm)) := k8 _ _ a54 
        have a56 : f1 wce = some (.inl (cy 1, 960, .inr (.inl gc))) := k3 _ _ x_wce 
        have a57 : f6 wce = some (.inl (cy 1, 960, .inr (.inl gc))) := k8 _ _ a56 
        have a58 : f1 wiw = some (.inl (cy 2, 60, .inl gw)) := k3 _ _ x_wiw 
        have a59 : f6 wiw = some (.inl (cy 2, 60, .inl gw)) := k8 _ _ a58 
        have a60 : f1 wha = some (.inl (cy 0, 60, .inl gh)) := k3 _ _ x_wha 
        have a61 : f6 wha = some (.inl (cy 0, 60, .inl gh)) := k8 _ _ a60 
        have a62 : f1 wwt = some (.inl (cy 1, 60, .inr (.inl gt))) := k3 _ _ x_wwt 
        have a63 : f6 wwt = some (.inl (cy 1, 60, .inr (.inl gt))) := k8 _ _ a62 
        have a64 : f1 wfy = some (.inl (cy 0, 6, .inl gy)) := k3 _ _ x_wfy 
        have a65 : f6 wfy = some (.inl (cy 0, 6, .inl gy)) := k8 _ _ a64 
        have a66 : f1 wfk = some (.inl (cy 0, 24, .inl gq)) := k3 _ _ x_wfk 
        have a67 : f6 wfk = some (.inl (cy 0, 24, .inl gq)) := k8 _ _ a66 
        have a68 : f1 wem = some (.inl (cy 0, 60, .inl ge1)) := k3 _ _ x_wem 
        have a69 : f6 wem = some (.inl (cy 0, 60, .inl ge1)) := k8 _ _ a68 
        have a70 : f1 wna = some (.inl (cy 0, 60, .inl gn1)) := k3 _ _ x_wna 
        have a71 : f6 wna = some (.inl (cy 0, 60, .inl gn1)) := k8 _ _ a70 
        have a72 : f1 wpl = some (.inl (cy 0, 60, .inl gp1)) := k3 _ _ x_wpl 
        have a73 : f6 wpl = some (.inl (cy 0, 60, .inl gp1)) := k8 _ _ a72 
        have a74 : f1 whs = some (.inl (cy 0, 4, .inl gs)) := k3 _ _ x_whs 
        have a75 : f6 whs = some (.inl (cy 0, 4, .inl gs)) := k8 _ _ a74 
        have a76 : f1 wk1 = some (.inl (cy 0, 40, .inl gx1)) := k3 _ _ x_wk1 
        have a77 : f6 wk1 = some (.inl (cy 0, 40, .inl gx1)) := k8 _ _ a76 
        have a78 : f1 wk2 = some (.inl (cy 0, 40, .inl gx2)) := k3 _ _ x_wk2 
        have a79 : f6 wk2 = some (.inl (cy 0, 40, .inl gx2)) := k8 _ _ a78 
        have a80 : f1 wk3 = some (.inl (cy 0, 40, .inl gx3)) := k3 _ _ x_wk3 
        have a81 : f6 wk3 = some (.inl (cy 0, 40, .inl gx3)) := k8 _ _ a80 
        exact z_iret C hr rfl hz hS ⟨u1, u2, u3, nl, nn, nf, nc, lk, ks, gv, gu, gk, gm, gc, gw, gl, gh, gt, gy, gq, ge1, gn1, gp1, gs, gx1, gx2, gx3, ln, fz, sq, rfl, rfl, rfl, rfl, rfl, rfl, rfl, rfl, rfl, rfl, rfl, rfl, rfl, rfl, rfl, rfl, rfl, rfl, rfl, rfl, rfl, rfl, rfl, rfl, rfl, ⟨a10, a49, a51, a53, a55, a57, a59, a12, a61, a63, a65, a67, a69, a71, a73, a75, a77, a79, a81, hn60, hl12, hf6, hc60, hs40, hMP, hgy, hfz, hgs, hME, hlk, hgw, hfd, n_wki_wmy, n_wki_wiw, n_wki_wli, n_wki_wha, n_wki_wem, n_wki_wna, n_wki_wpl, n_wmy_wiw, n_wmy_wli, n_wmy_wha, n_wmy_wem, n_wmy_wna, n_wmy_wpl, n_wiw_wli, n_wiw_wha, n_wiw_wem, n_wiw_wna, n_wiw_wpl, n_wli_wha, n_wli_wem, n_wli_wna, n_wli_wpl, n_wha_wem, n_wha_wna, n_wha_wpl, n_wem_wna, n_wem_wpl, n_wna_wpl, n_wk1_wk2, n_wk1_wk3, n_wk2_wk3⟩⟩ (Nat.le_of_ble_eq_true rfl) (Nat.le_of_ble_eq_true rfl) dX8_equal_41
    · have hFb : isF nn y = false := isF_f hn60 hvb
      have a82 : f1 o = some (.inr (8, [.int u1, .int u2, .int u3, .ref wev, .int (nI nl), .ref wnb, .int (nI nn), .ref wki, .ref wmy, .ref wce, .ref wiw, .ref wli, .ref wha, .ref wwt, .int (nI nf), .ref wfy, .ref wfk, .int (nI nc), .ref wem, .ref wna, .ref wpl, .ref whs, .long lk, .int (nI ks), .ref wk1, .ref wk2, .ref wk3])) := k3 _ _ x_o 
      refine z_callVi (As := [.int y]) C hz hS hA hl (k_X8_isFigure_B l D cy f1 o wev wnb wki wmy wce wiw wli wha wwt wfy wfk wem wna wpl whs wk1 wk2 wk3 u1 u2 u3 nl nn nf nc lk ks y a82 hn60 hvb) zyX8_isFigure mMX8_139 a82 zl8 rfl rfl (Nat.le_of_ble_eq_true rfl) ⟨Nat.le_of_ble_eq_true rfl, Nat.le_of_ble_eq_true rfl⟩ ⟨Nat.le_of_ble_eq_true rfl, Nat.le_of_ble_eq_true rfl⟩ dX8_equal_10 (fun r f83 H locs h84 hz hS => ?_)
      obtain ⟨rfl, k85⟩ := h84
      refine lv_if_ne (tgt := 21) hx hb dX8_equal_13 (by decide) (fun c86 => ?_) (fun c86 => ?_)
      · exact absurd c86 (by decide)
      refine lv_bipush (v := (-2)) hx hb dX8_equal_16 (by decide) ?_
      refine lv_goto (tgt := 41) hx hb dX8_equal_18 (by decide) ?_
      have a87 : f83 o = some (.inr (8, [.int u1, .int u2, .int u3, .ref wev, .int (nI nl), .ref wnb, .int (nI nn), .ref wki, .ref wmy, .ref wce, .ref wiw, .ref wli, .ref wha, .ref wwt, .int (nI nf), .ref wfy, .ref wfk, .int (nI nc), .ref wem, .ref wna, .ref wpl, .ref whs, .long lk, .int (nI ks), .ref wk1, .ref wk2, .ref wk3])) := k85 _ _ a82 
      have a88 : f1 wev = some (.inl (cy 0, 8, .inl gv)) := k3 _ _ x_wev 
      have a89 : f83 wev = some (.inl (cy 0, 8, .inl gv)) := k85 _ _ a88 
      have a90 : f1 wnb = some (.inl (cy 0, 12, .inl gu)) := k3 _ _ x_wnb 
      have a91 : f83 wnb = some (.inl (cy 0, 12, .inl gu)) := k85 _ _ a90 
      have a92 : f1 wki = some (.inl (cy 0, 60, .inl gk)) := k3 _ _ x_wki 
      have a93 : f83 wki = some (.inl (cy 0, 60, .inl gk)) := k85 _ _ a92 
      have a94 : f1 wmy = some (.inl (cy 0, 60, .inl gm)) := k3 _ _ x_wmy 
      have a95 : f83 wmy = some (.inl (cy 0, 60, .inl gm)) := k85 _ _ a94 
      have a96 : f1 wce = some (.inl (cy 1, 960, .inr (.inl gc))) := k3 _ _ x_wce 
      have a97 : f83 wce = some (.inl (cy 1, 960, .inr (.inl gc))) := k85 _ _ a96 
      have a98 : f1 wiw = some (.inl (cy 2, 60, .inl gw)) := k3 _ _ x_wiw 
      have a99 : f83 wiw = some (.inl (cy 2, 60, .inl gw)) := k85 _ _ a98 
      have a100 : f1 wli = some (.inl (cy 0, 60, .inl gl)) := k3 _ _ x_wli 
      have a101 : f83 wli = some (.inl (cy 0, 60, .inl gl)) := k85 _ _ a100 
      have a102 : f1 wha = some (.inl (cy 0, 60, .inl gh)) := k3 _ _ x_wha 
      have a103 : f83 wha = some (.inl (cy 0, 60, .inl gh)) := k85 _ _ a102 
      have a104 : f1 wwt = some (.inl (cy 1, 60, .inr (.inl gt))) := k3 _ _ x_wwt 
      have a105 : f83 wwt = some (.inl (cy 1, 60, .inr (.inl gt))) := k85 _ _ a104 
      have a106 : f1 wfy = some (.inl (cy 0, 6, .inl gy)) := k3 _ _ x_wfy 
      have a107 : f83 wfy = some (.inl (cy 0, 6, .inl gy)) := k85 _ _ a106 
      have a108 : f1 wfk = some (.inl (cy 0, 24, .inl gq)) := k3 _ _ x_wfk 
      have a109 : f83 wfk = some (.inl (cy 0, 24, .inl gq)) := k85 _ _ a108 
      have a110 : f1 wem = some (.inl (cy 0, 60, .inl ge1)) := k3 _ _ x_wem 
      have a111 : f83 wem = some (.inl (cy 0, 60, .inl ge1)) := k85 _ _ a110 
      have a112 : f1 wna = some (.inl (cy 0, 60, .inl gn1)) := k3 _ _ x_wna 
      have a113 : f83 wna = some (.inl (cy 0, 60, .inl gn1)) := k85 _ _ a112 
      have a114 : f1 wpl = some (.inl (cy 0, 60, .inl gp1)) := k3 _ _ x_wpl 
      have a115 : f83 wpl = some (.inl (cy 0, 60, .inl gp1)) := k85 _ _ a114 
      have a116 : f1 whs = some (.inl (cy 0, 4, .inl gs)) := k3 _ _ x_whs 
      have a117 : f83 whs = some (.inl (cy 0, 4, .inl gs)) := k85 _ _ a116 
      have a118 : f1 wk1 = some (.inl (cy 0, 40, .inl gx1)) := k3 _ _ x_wk1 
      have a119 : f83 wk1 = some (.inl (cy 0, 40, .inl gx1)) := k85 _ _ a118 
      have a120 : f1 wk2 = some (.inl (cy 0, 40, .inl gx2)) := k3 _ _ x_wk2 
      have a121 : f83 wk2 = some (.inl (cy 0, 40, .inl gx2)) := k85 _ _ a120 
      have a122 : f1 wk3 = some (.inl (cy 0, 40, .inl gx3)) := k3 _ _ x_wk3 
      have a123 : f83 wk3 = some (.inl (cy 0, 40, .inl gx3)) := k85 _ _ a122 
      exact z_iret C hr rfl hz hS ⟨u1, u2, u3, nl, nn, nf, nc, lk, ks, gv, gu, gk, gm, gc, gw, gl, gh, gt, gy, gq, ge1, gn1, gp1, gs, gx1, gx2, gx3, ln, fz, sq, rfl, rfl, rfl, rfl, rfl, rfl, rfl, rfl, rfl, rfl, rfl, rfl, rfl, rfl, rfl, rfl, rfl, rfl, rfl, rfl, rfl, rfl, rfl, rfl, rfl, ⟨a87, a89, a91, a93, a95, a97, a99, a101, a103, a105, a107, a109, a111, a113, a115, a117, a119, a121, a123, hn60, hl12, hf6, hc60, hs40, hMP, hgy, hfz, hgs, hME, hlk, hgw, hfd, n_wki_wmy, n_wki_wiw, n_wki_wli, n_wki_wha, n_wki_wem, n_wki_wna, n_wki_wpl, n_wmy_wiw, n_wmy_wli, n_wmy_wha, n_wmy_wem, n_wmy_wna, n_wmy_wpl, n_wiw_wli, n_wiw_wha, n_wiw_wem, n_wiw_wna, n_wiw_wpl, n_wli_wha, n_wli_wem, n_wli_wna, n_wli_wpl, n_wha_wem, n_wha_wna, n_wha_wpl, n_wem_wna, n_wem_wpl, n_wna_wpl, n_wk1_wk2, n_wk1_wk3, n_wk2_wk3⟩⟩ (Nat.le_of_ble_eq_true rfl) (Nat.le_of_ble_eq_true rfl) dX8_equal_41
  · have hFa : isF nn x = false := isF_f hn60 hva
    refine z_callVi (As := [.int x]) C hz hS hA hl (k_X8_isFigure_B l D cy f o wev wnb wki wmy wce wiw wli wha wwt wfy wfk wem wna wpl whs wk1 wk2 wk3 u1 u2 u3 nl nn nf nc lk ks x x_o hn60 hva) zyX8_isFigure mMX8_139 x_o zl8 rfl rfl (Nat.le_of_ble_eq_true rfl) ⟨Nat.le_of_ble_eq_true rfl, Nat.le_of_ble_eq_true rfl⟩ ⟨Nat.le_of_ble_eq_true rfl, Nat.le_of_ble_eq_true rfl⟩ dX8_equal_2 (fun r f124 H locs h125 hz hS => ?_)
    obtain ⟨rfl, k126⟩ := h125
    refine lv_if_eq (tgt := 16) hx hb dX8_equal_5 (by decide) (fun c127 => ?_) (fun c127 => ?_)
    rotate_left
    · exact absurd c127 (by decide)
    refine lv_bipush (v := (-2)) hx hb dX8_equal_16 (by decide) ?_
    refine lv_goto (tgt := 41) hx hb dX8_equal_18 (by decide) ?_
    have a128 : f124 o = some (.inr (8, [.int u1, .int u2, .int u3, .ref wev, .int (nI nl), .ref wnb, .int (nI nn), .ref wki, .ref wmy, .ref wce, .ref wiw, .ref wli, .ref wha, .ref wwt, .int (nI nf), .ref wfy, .ref wfk, .int (nI nc), .ref wem, .ref wna, .ref wpl, .ref whs, .long lk, .int (nI ks), .ref wk1, .ref wk2, .ref wk3])) := k126 _ _ x_o 
    have a129 : f124 wev = some (.inl (cy 0, 8, .inl gv)) := k126 _ _ x_wev 
    have a130 : f124 wnb = some (.inl (cy 0, 12, .inl gu)) := k126 _ _ x_wnb 
    have a131 : f124 wki = some (.inl (cy 0, 60, .inl gk)) := k126 _ _ x_wki 
    have a132 : f124 wmy = some (.inl (cy 0, 60, .inl gm)) := k126 _ _ x_wmy 
    have a133 : f124 wce = some (.inl (cy 1, 960, .inr (.inl gc))) := k126 _ _ x_wce 
    have a134 : f124 wiw = some (.inl (cy 2, 60, .inl gw)) := k126 _ _ x_wiw 
    have a135 : f124 wli = some (.inl (cy 0, 60, .inl gl)) := k126 _ _ x_wli 
    have a136 : f124 wha = some (.inl (cy 0, 60, .inl gh)) := k126 _ _ x_wha 
    have a137 : f124 wwt = some (.inl (cy 1, 60, .inr (.inl gt))) := k126 _ _ x_wwt 
    have a138 : f124 wfy = some (.inl (cy 0, 6, .inl gy)) := k126 _ _ x_wfy 
    have a139 : f124 wfk = some (.inl (cy 0, 24, .inl gq)) := k126 _ _ x_wfk 
    have a140 : f124 wem = some (.inl (cy 0, 60, .inl ge1)) := k126 _ _ x_wem 
    have a141 : f124 wna = some (.inl (cy 0, 60, .inl gn1)) := k126 _ _ x_wna 
    have a142 : f124 wpl = some (.inl (cy 0, 60, .inl gp1)) := k126 _ _ x_wpl 
    have a143 : f124 whs = some (.inl (cy 0, 4, .inl gs)) := k126 _ _ x_whs 
    have a144 : f124 wk1 = some (.inl (cy 0, 40, .inl gx1)) := k126 _ _ x_wk1 
    have a145 : f124 wk2 = some (.inl (cy 0, 40, .inl gx2)) := k126 _ _ x_wk2 
    have a146 : f124 wk3 = some (.inl (cy 0, 40, .inl gx3)) := k126 _ _ x_wk3 
    exact z_iret C hr rfl hz hS ⟨u1, u2, u3, nl, nn, nf, nc, lk, ks, gv, gu, gk, gm, gc, gw, gl, gh, gt, gy, gq, ge1, gn1, gp1, gs, gx1, gx2, gx3, ln, fz, sq, rfl, rfl, rfl, rfl, rfl, rfl, rfl, rfl, rfl, rfl, rfl, rfl, rfl, rfl, rfl, rfl, rfl, rfl, rfl, rfl, rfl, rfl, rfl, rfl, rfl, ⟨a128, a129, a130, a131, a132, a133, a134, a135, a136, a137, a138, a139, a140, a141, a142, a143, a144, a145, a146, hn60, hl12, hf6, hc60, hs40, hMP, hgy, hfz, hgs, hME, hlk, hgw, hfd, n_wki_wmy, n_wki_wiw, n_wki_wli, n_wki_wha, n_wki_wem, n_wki_wna, n_wki_wpl, n_wmy_wiw, n_wmy_wli, n_wmy_wha, n_wmy_wem, n_wmy_wna, n_wmy_wpl, n_wiw_wli, n_wiw_wha, n_wiw_wem, n_wiw_wna, n_wiw_wpl, n_wli_wha, n_wli_wem, n_wli_wna, n_wli_wpl, n_wha_wem, n_wha_wna, n_wha_wpl, n_wem_wna, n_wem_wpl, n_wna_wpl, n_wk1_wk2, n_wk1_wk3, n_wk2_wk3⟩⟩ (Nat.le_of_ble_eq_true rfl) (Nat.le_of_ble_eq_true rfl) dX8_equal_41
