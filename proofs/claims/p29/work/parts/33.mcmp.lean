abbrev rmX8_byRows : Room := { frames := 1, cells := 0, slots := 0, locals := 23 }
set_option maxHeartbeats 4000000 in
set_option maxRecDepth 100000 in
theorem k_X8_byRows (l : Launch) (D : va_G) (cy : Nat → ClassId) (f : zM) (o : Nat) (wev : Nat) (wnb : Nat) (wki : Nat) (wmy : Nat) (wce : Nat) (wiw : Nat) (wli : Nat) (wha : Nat) (wwt : Nat) (wfy : Nat) (wfk : Nat) (wem : Nat) (wna : Nat) (wpl : Nat) (whs : Nat) (wk1 : Nat) (wk2 : Nat) (wk3 : Nat) (u1 : Int32) (u2 : Int32) (u3 : Int32) (nl : Nat) (nn : Nat) (nf : Nat) (nc : Nat) (lk : Int64) (ks : Nat) (gc : Nat → Int64) (ja : Nat) (jb : Nat) (p0 : f o = some (.inr (8, [.int u1, .int u2, .int u3, .ref wev, .int (nI nl), .ref wnb, .int (nI nn), .ref wki, .ref wmy, .ref wce, .ref wiw, .ref wli, .ref wha, .ref wwt, .int (nI nf), .ref wfy, .ref wfk, .int (nI nc), .ref wem, .ref wna, .ref wpl, .ref whs, .long lk, .int (nI ks), .ref wk1, .ref wk2, .ref wk3]))) (p1 : f wce = some (.inl (cy 1, 960, .inr (.inl gc))))  (hja : ja < 60) (hjb : jb < 60) (hwa : ∃ w, w ≤ 12 ∧ gc (16 * ja) = lN w) (hwb : ∃ w, w ≤ 12 ∧ gc (16 * jb) = lN w) : zCi l D cy yX8_byRows cX8_byRows 6 (Option.some Jvm.ClassFile.FieldType.int) rmX8_byRows [.ref o, .int (nI ja), .int (nI jb)] f (fun (r : Int32) (f1 : zM) => (∀ (b : Nat) (e : va_E), f b = some e → f1 b = some e)) := by
  intro sz
  refine z_body (by decide +kernel) (Nat.le_of_ble_eq_true rfl) ?_
  intro p e s m below meth c ls C hr hin hsz hz hl
  subst hsz
  have hx := C.1
  have hb := C.2.1
  have hA : ∀ q, s.heap.size ≤ q → zA f s.heap.size q := fun q h => Or.inr h
  have hS : va_S (zA f s.heap.size) s.heap s.heap [] := va_S.rf
  have hl : lv_has ls 6 [(0, .ref o), (1, .int (nI ja)), (2, .int (nI jb))] := hl
  obtain ⟨wa, hwa1, ea⟩ := hwa
  obtain ⟨wb, hwb1, eb⟩ := hwb
  refine lv_aload_n hx hb dX8_byRows_0 rfl (lv_at hl 0 rfl) ?_
  refine lv_iload_n hx hb dX8_byRows_1 rfl (lv_at hl 1 rfl) ?_
  refine lv_iconst (v := 0) hx hb dX8_byRows_2 (by decide) ?_
  refine z_callVl (As := [.int (nI ja), .int 0]) C hz hS hA hl (k_X8_cellOf l D cy f o wev wnb wki wmy wce wiw wli wha wwt wfy wfk wem wna wpl whs wk1 wk2 wk3 u1 u2 u3 nl nn nf nc lk ks gc ja 0 p0 p1 (by omega)) zyX8_cellOf mMX8_90 p0 zl8 rfl rfl (Nat.le_of_ble_eq_true rfl) ⟨Nat.le_of_ble_eq_true rfl, Nat.le_of_ble_eq_true rfl⟩ ⟨Nat.le_of_ble_eq_true rfl, Nat.le_of_ble_eq_true rfl⟩ dX8_byRows_3 (fun r f1 H locs h2 hz hS => ?_)
  obtain ⟨rfl, k3⟩ := h2
  refine lv_l2i (v := (gc (16 * ja + 0)).toInt32) hx hb dX8_byRows_6 rfl ?_
  refine lv_topi (fun y4 e5 => ?_)
  obtain rfl : y4 = nI wa := e5.trans (by rw [show 16 * ja + 0 = 16 * ja from rfl, ea]; exact lN_i wa)
  refine lv_istore_n (lv' := [(3, .int (nI wa)), (0, .ref o), (1, .int (nI ja)), (2, .int (nI jb))]) hx hb dX8_byRows_7 rfl hl (by decide) rfl (fun ls hl => ?_)
  refine lv_aload_n hx hb dX8_byRows_8 rfl (lv_at hl 1 rfl) ?_
  refine lv_iload_n hx hb dX8_byRows_9 rfl (lv_at hl 3 rfl) ?_
  refine lv_iconst (v := 0) hx hb dX8_byRows_10 (by decide) ?_
  have a6 : f1 o = some (.inr (8, [.int u1, .int u2, .int u3, .ref wev, .int (nI nl), .ref wnb, .int (nI nn), .ref wki, .ref wmy, .ref wce, .ref wiw, .ref wli, .ref wha, .ref wwt, .int (nI nf), .ref wfy, .ref wfk, .int (nI nc), .ref wem, .ref wna, .ref wpl, .ref whs, .long lk, .int (nI ks), .ref wk1, .ref wk2, .ref wk3])) := k3 _ _ p0 
  have a7 : f1 wce = some (.inl (cy 1, 960, .inr (.inl gc))) := k3 _ _ p1 
  refine z_callVl (As := [.int (nI jb), .int 0]) C hz hS hA hl (k_X8_cellOf l D cy f1 o wev wnb wki wmy wce wiw wli wha wwt wfy wfk wem wna wpl whs wk1 wk2 wk3 u1 u2 u3 nl nn nf nc lk ks gc jb 0 a6 a7 (by omega)) zyX8_cellOf mMX8_90 a6 zl8 rfl rfl (Nat.le_of_ble_eq_true rfl) ⟨Nat.le_of_ble_eq_true rfl, Nat.le_of_ble_eq_true rfl⟩ ⟨Nat.le_of_ble_eq_true rfl, Nat.le_of_ble_eq_true rfl⟩ dX8_byRows_11 (fun r f8 H locs h9 hz hS => ?_)
  obtain ⟨rfl, k10⟩ := h9
  refine lv_l2i (v := (gc (16 * jb + 0)).toInt32) hx hb dX8_byRows_14 rfl ?_
  refine lv_topi (fun y11 e12 => ?_)
  obtain rfl : y11 = nI wb := e12.trans (by rw [show 16 * jb + 0 = 16 * jb from rfl, eb]; exact lN_i wb)
  refine lv_istore (lv' := [(4, .int (nI wb)), (3, .int (nI wa)), (0, .ref o), (1, .int (nI ja)), (2, .int (nI jb))]) hx hb dX8_byRows_15 hl (by decide) rfl (fun ls hl => ?_)
  refine lv_iconst (v := 0) hx hb dX8_byRows_17 (by decide) ?_
  refine lv_istore (lv' := [(5, .int 0), (4, .int (nI wb)), (3, .int (nI wa)), (0, .ref o), (1, .int (nI ja)), (2, .int (nI jb))]) hx hb dX8_byRows_18 hl (by decide) rfl (fun ls hl => ?_)
  have lp13 : ∀ (n : Nat) (kx : Nat) (fL14 : zM) (H : Heap) (locs : List Loc) (ls : Array Slot), (13 - kx) < n → (kx ≤ 12) → (∀ (b : Nat) (e : va_E), f8 b = some e → fL14 b = some e) → zH D (zA f s.heap.size) fL14 H → va_S (zA f s.heap.size) s.heap H locs → lv_has ls 6 [(0, .ref o), (1, .int (nI ja)), (2, .int (nI jb)), (3, .int (nI wa)), (4, .int (nI wb)), (5, .int (nI kx))] → W p l e rmX8_byRows s m ([.ref o, .int (nI ja), .int (nI jb)] : List Value).toArray below meth c H locs 0 0 (MQ below (va_Qi (fun (r : Int32) (f1 : zM) => (∀ (b : Nat) (e : va_E), f b = some e → f1 b = some e)) (zB D f s.heap.size) (zA f s.heap.size)) ([.ref o, .int (nI ja), .int (nI jb)] : List Value).toArray s rmX8_byRows.cells rmX8_byRows.slots (zA f s.heap.size)) (F0 m 20 ls []) := by
    intro n
    induction n with
    | zero => intro kx fL14 H locs ls hmz; exact absurd hmz (Nat.not_lt_zero _)
    | succ n ih =>
      intro kx fL14 H locs ls hmz hk  k15 hz hS hl
      refine lv_iload hx hb dX8_byRows_20 (lv_at hl 5 rfl) ?_
      refine lv_iload_n hx hb dX8_byRows_22 rfl (lv_at hl 3 rfl) ?_
      refine lv_icmp_ge (tgt := 83) hx hb dX8_byRows_23 (by decide) (fun c16 => ?_) (fun c16 => ?_)
      · replace c16 : (wa ≤ kx) := (nI_leI (a := wa) (b := kx) (by omega) (by omega)).mp c16
        refine lv_iload_n hx hb dX8_byRows_83 rfl (lv_at hl 3 rfl) ?_
        refine lv_iload hx hb dX8_byRows_84 (lv_at hl 4 rfl) ?_
        refine lv_icmp_eq (tgt := 100) hx hb dX8_byRows_86 (by decide) (fun c17 => ?_) (fun c17 => ?_)
        · replace c17 : (wa = wb) := (nI_eq (a := wa) (b := wb) (by omega) (by omega)).mp c17
          refine lv_aload_n hx hb dX8_byRows_100 rfl (lv_at hl 0 rfl) ?_
          refine lv_iload_n hx hb dX8_byRows_101 rfl (lv_at hl 1 rfl) ?_
          refine lv_iconst (v := 1) hx hb dX8_byRows_102 (by decide) ?_
          have a18 : f8 o = some (.inr (8, [.int u1, .int u2, .int u3, .ref wev, .int (nI nl), .ref wnb, .int (nI nn), .ref wki, .ref wmy, .ref wce, .ref wiw, .ref wli, .ref wha, .ref wwt, .int (nI nf), .ref wfy, .ref wfk, .int (nI nc), .ref wem, .ref wna, .ref wpl, .ref whs, .long lk, .int (nI ks), .ref wk1, .ref wk2, .ref wk3])) := k10 _ _ a6 
          have a19 : fL14 o = some (.inr (8, [.int u1, .int u2, .int u3, .ref wev, .int (nI nl), .ref wnb, .int (nI nn), .ref wki, .ref wmy, .ref wce, .ref wiw, .ref wli, .ref wha, .ref wwt, .int (nI nf), .ref wfy, .ref wfk, .int (nI nc), .ref wem, .ref wna, .ref wpl, .ref whs, .long lk, .int (nI ks), .ref wk1, .ref wk2, .ref wk3])) := k15 _ _ a18 
          have a20 : f8 wce = some (.inl (cy 1, 960, .inr (.inl gc))) := k10 _ _ a7 
          have a21 : fL14 wce = some (.inl (cy 1, 960, .inr (.inl gc))) := k15 _ _ a20 
          refine z_callVl (As := [.int (nI ja), .int 1]) C hz hS hA hl (k_X8_cellOf l D cy fL14 o wev wnb wki wmy wce wiw wli wha wwt wfy wfk wem wna wpl whs wk1 wk2 wk3 u1 u2 u3 nl nn nf nc lk ks gc ja 1 a19 a21 (by omega)) zyX8_cellOf mMX8_90 a19 zl8 rfl rfl (Nat.le_of_ble_eq_true rfl) ⟨Nat.le_of_ble_eq_true rfl, Nat.le_of_ble_eq_true rfl⟩ ⟨Nat.le_of_ble_eq_true rfl, Nat.le_of_ble_eq_true rfl⟩ dX8_byRows_103 (fun r f22 H locs h23 hz hS => ?_)
          obtain ⟨rfl, k24⟩ := h23
          refine lv_aload_n hx hb dX8_byRows_106 rfl (lv_at hl 0 rfl) ?_
          refine lv_iload_n hx hb dX8_byRows_107 rfl (lv_at hl 2 rfl) ?_
          refine lv_iconst (v := 1) hx hb dX8_byRows_108 (by decide) ?_
          have a25 : f22 o = some (.inr (8, [.int u1, .int u2, .int u3, .ref wev, .int (nI nl), .ref wnb, .int (nI nn), .ref wki, .ref wmy, .ref wce, .ref wiw, .ref wli, .ref wha, .ref wwt, .int (nI nf), .ref wfy, .ref wfk, .int (nI nc), .ref wem, .ref wna, .ref wpl, .ref whs, .long lk, .int (nI ks), .ref wk1, .ref wk2, .ref wk3])) := k24 _ _ a19 
          have a26 : f22 wce = some (.inl (cy 1, 960, .inr (.inl gc))) := k24 _ _ a21 
          refine z_callVl (As := [.int (nI jb), .int 1]) C hz hS hA hl (k_X8_cellOf l D cy f22 o wev wnb wki wmy wce wiw wli wha wwt wfy wfk wem wna wpl whs wk1 wk2 wk3 u1 u2 u3 nl nn nf nc lk ks gc jb 1 a25 a26 (by omega)) zyX8_cellOf mMX8_90 a25 zl8 rfl rfl (Nat.le_of_ble_eq_true rfl) ⟨Nat.le_of_ble_eq_true rfl, Nat.le_of_ble_eq_true rfl⟩ ⟨Nat.le_of_ble_eq_true rfl, Nat.le_of_ble_eq_true rfl⟩ dX8_byRows_109 (fun r f27 H locs h28 hz hS => ?_)
          obtain ⟨rfl, k29⟩ := h28
          refine z_callSi (As := [.long (gc (16 * ja + 1)), .long (gc (16 * jb + 1))]) C hz hS hA hl (k_X8_by l D cy f27 (gc (16 * ja + 1)) (gc (16 * jb + 1))  ) zyX8_by mMX8_166 rfl rfl (Nat.le_of_ble_eq_true rfl) ⟨Nat.le_of_ble_eq_true rfl, Nat.le_of_ble_eq_true rfl⟩ ⟨Nat.le_of_ble_eq_true rfl, Nat.le_of_ble_eq_true rfl⟩ dX8_byRows_112 (fun r32 f30 H locs h31 hz hS => ?_)
          have k33 := h31
          exact z_iret C hr rfl hz hS (by
                intro b e hb 
                have hb0 : f1 b = some e := k3 b e hb 
                have hb1 : f8 b = some e := k10 b e hb0 
                have hb2 : fL14 b = some e := k15 b e hb1 
                have hb3 : f22 b = some e := k24 b e hb2 
                have hb4 : f27 b = some e := k29 b e hb3 
                have hb5 : f30 b = some e := k33 b e hb4 
                exact hb5) (Nat.le_of_ble_eq_true rfl) (Nat.le_of_ble_eq_true rfl) dX8_byRows_115
        · replace c17 : ¬ (wa = wb) := fun h => c17 ((nI_eq (a := wa) (b := wb) (by omega) (by omega)).mpr h)
          refine lv_iload_n hx hb dX8_byRows_89 rfl (lv_at hl 3 rfl) ?_
          refine lv_i2l (v := (nI wa).toInt64) hx hb dX8_byRows_90 rfl ?_
          refine lv_iload hx hb dX8_byRows_91 (lv_at hl 4 rfl) ?_
          refine lv_i2l (v := (nI wb).toInt64) hx hb dX8_byRows_93 rfl ?_
          refine z_callSi (As := [.long ((nI wa).toInt64), .long ((nI wb).toInt64)]) C hz hS hA hl (k_X8_by l D cy fL14 ((nI wa).toInt64) ((nI wb).toInt64)  ) zyX8_by mMX8_166 rfl rfl (Nat.le_of_ble_eq_true rfl) ⟨Nat.le_of_ble_eq_true rfl, Nat.le_of_ble_eq_true rfl⟩ ⟨Nat.le_of_ble_eq_true rfl, Nat.le_of_ble_eq_true rfl⟩ dX8_byRows_94 (fun r36 f34 H locs h35 hz hS => ?_)
          have k37 := h35
          refine lv_goto (tgt := 115) hx hb dX8_byRows_97 (by decide) ?_
          exact z_iret C hr rfl hz hS (by
                intro b e hb 
                have hb0 : f1 b = some e := k3 b e hb 
                have hb1 : f8 b = some e := k10 b e hb0 
                have hb2 : fL14 b = some e := k15 b e hb1 
                have hb3 : f34 b = some e := k37 b e hb2 
                exact hb3) (Nat.le_of_ble_eq_true rfl) (Nat.le_of_ble_eq_true rfl) dX8_byRows_115
      · replace c16 : ¬ (wa ≤ kx) := fun h => c16 ((nI_leI (a := wa) (b := kx) (by omega) (by omega)).mpr h)
        refine lv_iload hx hb dX8_byRows_26 (lv_at hl 5 rfl) ?_
        refine lv_iload hx hb dX8_byRows_28 (lv_at hl 4 rfl) ?_
        refine lv_icmp_ge (tgt := 83) hx hb dX8_byRows_30 (by decide) (fun c38 => ?_) (fun c38 => ?_)
        · replace c38 : (wb ≤ kx) := (nI_leI (a := wb) (b := kx) (by omega) (by omega)).mp c38
          refine lv_iload_n hx hb dX8_byRows_83 rfl (lv_at hl 3 rfl) ?_
          refine lv_iload hx hb dX8_byRows_84 (lv_at hl 4 rfl) ?_
          refine lv_icmp_eq (tgt := 100) hx hb dX8_byRows_86 (by decide) (fun c39 => ?_) (fun c39 => ?_)
          · replace c39 : (wa = wb) := (nI_eq (a := wa) (b := wb) (by omega) (by omega)).mp c39
            refine lv_aload_n hx hb dX8_byRows_100 rfl (lv_at hl 0 rfl) ?_
            refine lv_iload_n hx hb dX8_byRows_101 rfl (lv_at hl 1 rfl) ?_
            refine lv_iconst (v := 1) hx hb dX8_byRows_102 (by decide) ?_
            have a40 : f8 o = some (.inr (8, [.int u1, .int u2, .int u3, .ref wev, .int (nI nl), .ref wnb, .int (nI nn), .ref wki, .ref wmy, .ref wce, .ref wiw, .ref wli, .ref wha, .ref wwt, .int (nI nf), .ref wfy, .ref wfk, .int (nI nc), .ref wem, .ref wna, .ref wpl, .ref whs, .long lk, .int (nI ks), .ref wk1, .ref wk2, .ref wk3])) := k10 _ _ a6 
            have a41 : fL14 o = some (.inr (8, [.int u1, .int u2, .int u3, .ref wev, .int (nI nl), .ref wnb, .int (nI nn), .ref wki, .ref wmy, .ref wce, .ref wiw, .ref wli, .ref wha, .ref wwt, .int (nI nf), .ref wfy, .ref wfk, .int (nI nc), .ref wem, .ref wna, .ref wpl, .ref whs, .long lk, .int (nI ks), .ref wk1, .ref wk2, .ref wk3])) := k15 _ _ a40 
            have a42 : f8 wce = some (.inl (cy 1, 960, .inr (.inl gc))) := k10 _ _ a7 
            have a43 : fL14 wce = some (.inl (cy 1, 960, .inr (.inl gc))) := k15 _ _ a42 
            refine z_callVl (As := [.int (nI ja), .int 1]) C hz hS hA hl (k_X8_cellOf l D cy fL14 o wev wnb wki wmy wce wiw wli wha wwt wfy wfk wem wna wpl whs wk1 wk2 wk3 u1 u2 u3 nl nn nf nc lk ks gc ja 1 a41 a43 (by omega)) zyX8_cellOf mMX8_90 a41 zl8 rfl rfl (Nat.le_of_ble_eq_true rfl) ⟨Nat.le_of_ble_eq_true rfl, Nat.le_of_ble_eq_true rfl⟩ ⟨Nat.le_of_ble_eq_true rfl, Nat.le_of_ble_eq_true rfl⟩ dX8_byRows_103 (fun r f44 H locs h45 hz hS => ?_)
            obtain ⟨rfl, k46⟩ := h45
            refine lv_aload_n hx hb dX8_byRows_106 rfl (lv_at hl 0 rfl) ?_
            refine lv_iload_n hx hb dX8_byRows_107 rfl (lv_at hl 2 rfl) ?_
            refine lv_iconst (v := 1) hx hb dX8_byRows_108 (by decide) ?_
            have a47 : f44 o = some (.inr (8, [.int u1, .int u2, .int u3, .ref wev, .int (nI nl), .ref wnb, .int (nI nn), .ref wki, .ref wmy, .ref wce, .ref wiw, .ref wli, .ref wha, .ref wwt, .int (nI nf), .ref wfy, .ref wfk, .int (nI nc), .ref wem, .ref wna, .ref wpl, .ref whs, .long lk, .int (nI ks), .ref wk1, .ref wk2, .ref wk3])) := k46 _ _ a41 
            have a48 : f44 wce = some (.inl (cy 1, 960, .inr (.inl gc))) := k46 _ _ a43 
            refine z_callVl (As := [.int (nI jb), .int 1]) C hz hS hA hl (k_X8_cellOf l D cy f44 o wev wnb wki wmy wce wiw wli wha wwt wfy wfk wem wna wpl whs wk1 wk2 wk3 u1 u2 u3 nl nn nf nc lk ks gc jb 1 a47 a48 (by omega)) zyX8_cellOf mMX8_90 a47 zl8 rfl rfl (Nat.le_of_ble_eq_true rfl) ⟨Nat.le_of_ble_eq_true rfl, Nat.le_of_ble_eq_true rfl⟩ ⟨Nat.le_of_ble_eq_true rfl, Nat.le_of_ble_eq_true rfl⟩ dX8_byRows_109 (fun r f49 H locs h50 hz hS => ?_)
            obtain ⟨rfl, k51⟩ := h50
            refine z_callSi (As := [.long (gc (16 * ja + 1)), .long (gc (16 * jb + 1))]) C hz hS hA hl (k_X8_by l D cy f49 (gc (16 * ja + 1)) (gc (16 * jb + 1))  ) zyX8_by mMX8_166 rfl rfl (Nat.le_of_ble_eq_true rfl) ⟨Nat.le_of_ble_eq_true rfl, Nat.le_of_ble_eq_true rfl⟩ ⟨Nat.le_of_ble_eq_true rfl, Nat.le_of_ble_eq_true rfl⟩ dX8_byRows_112 (fun r54 f52 H locs h53 hz hS => ?_)
            have k55 := h53
            exact z_iret C hr rfl hz hS (by
                  intro b e hb 
                  have hb0 : f1 b = some e := k3 b e hb 
                  have hb1 : f8 b = some e := k10 b e hb0 
                  have hb2 : fL14 b = some e := k15 b e hb1 
                  have hb3 : f44 b = some e := k46 b e hb2 
                  have hb4 : f49 b = some e := k51 b e hb3 
                  have hb5 : f52 b = some e := k55 b e hb4 
                  exact hb5) (Nat.le_of_ble_eq_true rfl) (Nat.le_of_ble_eq_true rfl) dX8_byRows_115
          · replace c39 : ¬ (wa = wb) := fun h => c39 ((nI_eq (a := wa) (b := wb) (by omega) (by omega)).mpr h)
            refine lv_iload_n hx hb dX8_byRows_89 rfl (lv_at hl 3 rfl) ?_
            refine lv_i2l (v := (nI wa).toInt64) hx hb dX8_byRows_90 rfl ?_
            refine lv_iload hx hb dX8_byRows_91 (lv_at hl 4 rfl) ?_
            refine lv_i2l (v := (nI wb).toInt64) hx hb dX8_byRows_93 rfl ?_
            refine z_callSi (As := [.long ((nI wa).toInt64), .long ((nI wb).toInt64)]) C hz hS hA hl (k_X8_by l D cy fL14 ((nI wa).toInt64) ((nI wb).toInt64)  ) zyX8_by mMX8_166 rfl rfl (Nat.le_of_ble_eq_true rfl) ⟨Nat.le_of_ble_eq_true rfl, Nat.le_of_ble_eq_true rfl⟩ ⟨Nat.le_of_ble_eq_true rfl, Nat.le_of_ble_eq_true rfl⟩ dX8_byRows_94 (fun r58 f56 H locs h57 hz hS => ?_)
            have k59 := h57
            refine lv_goto (tgt := 115) hx hb dX8_byRows_97 (by decide) ?_
            exact z_iret C hr rfl hz hS (by
                  intro b e hb 
                  have hb0 : f1 b = some e := k3 b e hb 
                  have hb1 : f8 b = some e := k10 b e hb0 
                  have hb2 : fL14 b = some e := k15 b e hb1 
                  have hb3 : f56 b = some e := k59 b e hb2 
                  exact hb3) (Nat.le_of_ble_eq_true rfl) (Nat.le_of_ble_eq_true rfl) dX8_byRows_115
        · replace c38 : ¬ (wb ≤ kx) := fun h => c38 ((nI_leI (a := wb) (b := kx) (by omega) (by omega)).mpr h)
          refine lv_aload_n hx hb dX8_byRows_33 rfl (lv_at hl 0 rfl) ?_
          refine lv_iload_n hx hb dX8_byRows_34 rfl (lv_at hl 1 rfl) ?_
          refine lv_iconst (v := 3) hx hb dX8_byRows_35 (by decide) ?_
          refine lv_iload hx hb dX8_byRows_36 (lv_at hl 5 rfl) ?_
          refine lv_iadd hx hb dX8_byRows_38 ?_
          refine lv_topi (fun y60 e61 => ?_)
          obtain rfl : y60 = nI (3 + kx) := e61.trans (nI_add 3 kx)
          have a62 : f8 o = some (.inr (8, [.int u1, .int u2, .int u3, .ref wev, .int (nI nl), .ref wnb, .int (nI nn), .ref wki, .ref wmy, .ref wce, .ref wiw, .ref wli, .ref wha, .ref wwt, .int (nI nf), .ref wfy, .ref wfk, .int (nI nc), .ref wem, .ref wna, .ref wpl, .ref whs, .long lk, .int (nI ks), .ref wk1, .ref wk2, .ref wk3])) := k10 _ _ a6 
          have a63 : fL14 o = some (.inr (8, [.int u1, .int u2, .int u3, .ref wev, .int (nI nl), .ref wnb, .int (nI nn), .ref wki, .ref wmy, .ref wce, .ref wiw, .ref wli, .ref wha, .ref wwt, .int (nI nf), .ref wfy, .ref wfk, .int (nI nc), .ref wem, .ref wna, .ref wpl, .ref whs, .long lk, .int (nI ks), .ref wk1, .ref wk2, .ref wk3])) := k15 _ _ a62 
          have a64 : f8 wce = some (.inl (cy 1, 960, .inr (.inl gc))) := k10 _ _ a7 
          have a65 : fL14 wce = some (.inl (cy 1, 960, .inr (.inl gc))) := k15 _ _ a64 
          refine z_callVl (As := [.int (nI ja), .int (nI (3 + kx))]) C hz hS hA hl (k_X8_cellOf l D cy fL14 o wev wnb wki wmy wce wiw wli wha wwt wfy wfk wem wna wpl whs wk1 wk2 wk3 u1 u2 u3 nl nn nf nc lk ks gc ja (3 + kx) a63 a65 (by omega)) zyX8_cellOf mMX8_90 a63 zl8 rfl rfl (Nat.le_of_ble_eq_true rfl) ⟨Nat.le_of_ble_eq_true rfl, Nat.le_of_ble_eq_true rfl⟩ ⟨Nat.le_of_ble_eq_true rfl, Nat.le_of_ble_eq_true rfl⟩ dX8_byRows_39 (fun r f66 H locs h67 hz hS => ?_)
          obtain ⟨rfl, k68⟩ := h67
          refine lv_aload_n hx hb dX8_byRows_42 rfl (lv_at hl 0 rfl) ?_
          refine lv_iload_n hx hb dX8_byRows_43 rfl (lv_at hl 2 rfl) ?_
          refine lv_iconst (v := 3) hx hb dX8_byRows_44 (by decide) ?_
          refine lv_iload hx hb dX8_byRows_45 (lv_at hl 5 rfl) ?_
          refine lv_iadd hx hb dX8_byRows_47 ?_
          refine lv_topi (fun y69 e70 => ?_)
          obtain rfl : y69 = nI (3 + kx) := e70.trans (nI_add 3 kx)
          have a71 : f66 o = some (.inr (8, [.int u1, .int u2, .int u3, .ref wev, .int (nI nl), .ref wnb, .int (nI nn), .ref wki, .ref wmy, .ref wce, .ref wiw, .ref wli, .ref wha, .ref wwt, .int (nI nf), .ref wfy, .ref wfk, .int (nI nc), .ref wem, .ref wna, .ref wpl, .ref whs, .long lk, .int (nI ks), .ref wk1, .ref wk2, .ref wk3])) := k68 _ _ a63 
          have a72 : f66 wce = some (.inl (cy 1, 960, .inr (.inl gc))) := k68 _ _ a65 
          refine z_callVl (As := [.int (nI jb), .int (nI (3 + kx))]) C hz hS hA hl (k_X8_cellOf l D cy f66 o wev wnb wki wmy wce wiw wli wha wwt wfy wfk wem wna wpl whs wk1 wk2 wk3 u1 u2 u3 nl nn nf nc lk ks gc jb (3 + kx) a71 a72 (by omega)) zyX8_cellOf mMX8_90 a71 zl8 rfl rfl (Nat.le_of_ble_eq_true rfl) ⟨Nat.le_of_ble_eq_true rfl, Nat.le_of_ble_eq_true rfl⟩ ⟨Nat.le_of_ble_eq_true rfl, Nat.le_of_ble_eq_true rfl⟩ dX8_byRows_48 (fun r f73 H locs h74 hz hS => ?_)
          obtain ⟨rfl, k75⟩ := h74
          refine W.lcmp hx hb dX8_byRows_51 ?_
          refine lv_if_eq (tgt := 77) hx hb dX8_byRows_52 (by decide) (fun c76 => ?_) (fun c76 => ?_)
          · refine lv_iinc (v := nI (kx + 1)) (lv' := [(5, .int (nI (kx + 1))), (0, .ref o), (1, .int (nI ja)), (2, .int (nI jb)), (3, .int (nI wa)), (4, .int (nI wb))]) hx hb dX8_byRows_77 hl (k := 5) rfl (nI_1 kx) (by decide) rfl (fun ls hl => ?_)
            refine lv_goto (tgt := 20) hx hb dX8_byRows_80 (by decide) ?_
            exact ih (kx + 1) _ _ _ _ (by omega) (by omega)  (by
                  intro b e hb 
                  have hb2 : fL14 b = some e := k15 b e hb 
                  have hb3 : f66 b = some e := k68 b e hb2 
                  have hb4 : f73 b = some e := k75 b e hb3 
                  exact hb4) hz hS (lv_sub hl [1, 2, 3, 4, 5, 0] rfl)
          · refine lv_aload_n hx hb dX8_byRows_55 rfl (lv_at hl 0 rfl) ?_
            refine lv_iload_n hx hb dX8_byRows_56 rfl (lv_at hl 1 rfl) ?_
            refine lv_iconst (v := 3) hx hb dX8_byRows_57 (by decide) ?_
            refine lv_iload hx hb dX8_byRows_58 (lv_at hl 5 rfl) ?_
            refine lv_iadd hx hb dX8_byRows_60 ?_
            refine lv_topi (fun y77 e78 => ?_)
            obtain rfl : y77 = nI (3 + kx) := e78.trans (nI_add 3 kx)
            have a79 : f73 o = some (.inr (8, [.int u1, .int u2, .int u3, .ref wev, .int (nI nl), .ref wnb, .int (nI nn), .ref wki, .ref wmy, .ref wce, .ref wiw, .ref wli, .ref wha, .ref wwt, .int (nI nf), .ref wfy, .ref wfk, .int (nI nc), .ref wem, .ref wna, .ref wpl, .ref whs, .long lk, .int (nI ks), .ref wk1, .ref wk2, .ref wk3])) := k75 _ _ a71 
            have a80 : f73 wce = some (.inl (cy 1, 960, .inr (.inl gc))) := k75 _ _ a72 
            refine z_callVl (As := [.int (nI ja), .int (nI (3 + kx))]) C hz hS hA hl (k_X8_cellOf l D cy f73 o wev wnb wki wmy wce wiw wli wha wwt wfy wfk wem wna wpl whs wk1 wk2 wk3 u1 u2 u3 nl nn nf nc lk ks gc ja (3 + kx) a79 a80 (by omega)) zyX8_cellOf mMX8_90 a79 zl8 rfl rfl (Nat.le_of_ble_eq_true rfl) ⟨Nat.le_of_ble_eq_true rfl, Nat.le_of_ble_eq_true rfl⟩ ⟨Nat.le_of_ble_eq_true rfl, Nat.le_of_ble_eq_true rfl⟩ dX8_byRows_61 (fun r f81 H locs h82 hz hS => ?_)
            obtain ⟨rfl, k83⟩ := h82
            refine lv_aload_n hx hb dX8_byRows_64 rfl (lv_at hl 0 rfl) ?_
            refine lv_iload_n hx hb dX8_byRows_65 rfl (lv_at hl 2 rfl) ?_
            refine lv_iconst (v := 3) hx hb dX8_byRows_66 (by decide) ?_
            refine lv_iload hx hb dX8_byRows_67 (lv_at hl 5 rfl) ?_
            refine lv_iadd hx hb dX8_byRows_69 ?_
            refine lv_topi (fun y84 e85 => ?_)
            obtain rfl : y84 = nI (3 + kx) := e85.trans (nI_add 3 kx)
            have a86 : f81 o = some (.inr (8, [.int u1, .int u2, .int u3, .ref wev, .int (nI nl), .ref wnb, .int (nI nn), .ref wki, .ref wmy, .ref wce, .ref wiw, .ref wli, .ref wha, .ref wwt, .int (nI nf), .ref wfy, .ref wfk, .int (nI nc), .ref wem, .ref wna, .ref wpl, .ref whs, .long lk, .int (nI ks), .ref wk1, .ref wk2, .ref wk3])) := k83 _ _ a79 
            have a87 : f81 wce = some (.inl (cy 1, 960, .inr (.inl gc))) := k83 _ _ a80 
            refine z_callVl (As := [.int (nI jb), .int (nI (3 + kx))]) C hz hS hA hl (k_X8_cellOf l D cy f81 o wev wnb wki wmy wce wiw wli wha wwt wfy wfk wem wna wpl whs wk1 wk2 wk3 u1 u2 u3 nl nn nf nc lk ks gc jb (3 + kx) a86 a87 (by omega)) zyX8_cellOf mMX8_90 a86 zl8 rfl rfl (Nat.le_of_ble_eq_true rfl) ⟨Nat.le_of_ble_eq_true rfl, Nat.le_of_ble_eq_true rfl⟩ ⟨Nat.le_of_ble_eq_true rfl, Nat.le_of_ble_eq_true rfl⟩ dX8_byRows_70 (fun r f88 H locs h89 hz hS => ?_)
            obtain ⟨rfl, k90⟩ := h89
            refine z_callSi (As := [.long (gc (16 * ja + (3 + kx))), .long (gc (16 * jb + (3 + kx)))]) C hz hS hA hl (k_X8_by l D cy f88 (gc (16 * ja + (3 + kx))) (gc (16 * jb + (3 + kx)))  ) zyX8_by mMX8_166 rfl rfl (Nat.le_of_ble_eq_true rfl) ⟨Nat.le_of_ble_eq_true rfl, Nat.le_of_ble_eq_true rfl⟩ ⟨Nat.le_of_ble_eq_true rfl, Nat.le_of_ble_eq_true rfl⟩ dX8_byRows_73 (fun r93 f91 H locs h92 hz hS => ?_)
            have k94 := h92
            exact z_iret C hr rfl hz hS (by
                  intro b e hb 
                  have hb0 : f1 b = some e := k3 b e hb 
                  have hb1 : f8 b = some e := k10 b e hb0 
                  have hb2 : fL14 b = some e := k15 b e hb1 
                  have hb3 : f66 b = some e := k68 b e hb2 
                  have hb4 : f73 b = some e := k75 b e hb3 
                  have hb5 : f81 b = some e := k83 b e hb4 
                  have hb6 : f88 b = some e := k90 b e hb5 
                  have hb7 : f91 b = some e := k94 b e hb6 
                  exact hb7) (Nat.le_of_ble_eq_true rfl) (Nat.le_of_ble_eq_true rfl) dX8_byRows_76
  exact lp13 (13 - 0 + 1) 0 _ _ _ _ (Nat.lt_succ_self _) (by omega)  (fun b e hb => hb) hz hS (lv_sub hl [3, 4, 5, 2, 1, 0] rfl)
abbrev rmX8_compared : Room := { frames := 2, cells := 0, slots := 0, locals := 48 }
set_option maxHeartbeats 4000000 in
set_option maxRecDepth 100000 in
theorem k_X8_compared (l : Launch) (D : va_G) (cy : Nat → ClassId) (f : zM) (o : Nat) (wev : Nat) (wnb : Nat) (wki : Nat) (wmy : Nat) (wce : Nat) (wiw : Nat) (wli : Nat) (wha : Nat) (wwt : Nat) (wfy : Nat) (wfk : Nat) (wem : Nat) (wna : Nat) (wpl : Nat) (whs : Nat) (wk1 : Nat) (wk2 : Nat) (wk3 : Nat) (u1 : Int32) (u2 : Int32) (u3 : Int32) (nl : Nat) (nn : Nat) (nf : Nat) (nc : Nat) (lk : Int64) (ks : Nat) (gk : Nat → Int32) (gm : Nat → Int32) (gc : Nat → Int64) (gl : Nat → Int32) (ln : Nat → Nat) (ja : Nat) (jb : Nat) (p0 : f o = some (.inr (8, [.int u1, .int u2, .int u3, .ref wev, .int (nI nl), .ref wnb, .int (nI nn), .ref wki, .ref wmy, .ref wce, .ref wiw, .ref wli, .ref wha, .ref wwt, .int (nI nf), .ref wfy, .ref wfk, .int (nI nc), .ref wem, .ref wna, .ref wpl, .ref whs, .long lk, .int (nI ks), .ref wk1, .ref wk2, .ref wk3]))) (p1 : f wki = some (.inl (cy 0, 60, .inl gk))) (p2 : f wmy = some (.inl (cy 0, 60, .inl gm))) (p3 : f wce = some (.inl (cy 1, 960, .inr (.inl gc)))) (p4 : f wli = some (.inl (cy 0, 60, .inl gl)))  (hn60 : nn ≤ 60) (hMP : zMP nn gk gm gc ln) (hja : ja < nn) (hjb : jb < nn) : zCi l D cy yX8_compared cX8_compared 10 (Option.some Jvm.ClassFile.FieldType.int) rmX8_compared [.ref o, .int (nI ja), .int (nI jb)] f (fun (r : Int32) (f1 : zM) => (∀ (b : Nat) (e : va_E), f b = some e → f1 b = some e)) := by
  intro sz
  refine z_body (by decide +kernel) (Nat.le_of_ble_eq_true rfl) ?_
  intro p e s m below meth c ls C hr hin hsz hz hl
  subst hsz
  have hx := C.1
  have hb := C.2.1
  have hA : ∀ q, s.heap.size ≤ q → zA f s.heap.size q := fun q h => Or.inr h
  have hS : va_S (zA f s.heap.size) s.heap s.heap [] := va_S.rf
  have hl : lv_has ls 10 [(0, .ref o), (1, .int (nI ja)), (2, .int (nI jb))] := hl
  refine lv_iload_n hx hb dX8_compared_0 rfl (lv_at hl 1 rfl) ?_
  refine lv_istore_n (lv' := [(3, .int (nI ja)), (0, .ref o), (1, .int (nI ja)), (2, .int (nI jb))]) hx hb dX8_compared_1 rfl hl (by decide) rfl (fun ls hl => ?_)
  refine lv_iload_n hx hb dX8_compared_2 rfl (lv_at hl 3 rfl) ?_
  refine lv_istore (lv' := [(4, .int (nI jb)), (3, .int (nI ja)), (0, .ref o), (1, .int (nI ja)), (2, .int (nI jb))]) hx hb dX8_compared_3 hl (by decide) rfl (fun ls hl => ?_)
  have lp1 : ∀ (n : Nat) (am : Nat) (av : Int32) (bv : Int32) (fL2 : zM) (H : Heap) (locs : List Loc) (ls : Array Slot), (am) < n → (am ≤ nn) → (av = (-1) ∨ ∃ j, j < am ∧ av = nI j) → (bv = (-1) ∨ ∃ j, j < nn ∧ bv = nI j) → (∀ (b : Nat) (e : va_E), f b = some e → fL2 b = some e) → zH D (zA f s.heap.size) fL2 H → va_S (zA f s.heap.size) s.heap H locs → lv_has ls 10 [(0, .ref o), (3, .int av), (4, .int bv)] → W p l e rmX8_compared s m ([.ref o, .int (nI ja), .int (nI jb)] : List Value).toArray below meth c H locs 0 0 (MQ below (va_Qi (fun (r : Int32) (f1 : zM) => (∀ (b : Nat) (e : va_E), f b = some e → f1 b = some e)) (zB D f s.heap.size) (zA f s.heap.size)) ([.ref o, .int (nI ja), .int (nI jb)] : List Value).toArray s rmX8_compared.cells rmX8_compared.slots (zA f s.heap.size)) (F0 m 5 ls []) := by
    intro n
    induction n with
    | zero => intro am av bv fL2 H locs ls hmz; exact absurd hmz (Nat.not_lt_zero _)
    | succ n_3 ih_3 =>
      intro am av bv fL2 H locs ls hmz_3 hmn hav hbv  k4 hz hS hl
      refine lv_iload_n hx hb dX8_compared_5 rfl (lv_at hl 1 rfl) ?_
      refine lv_iconst (v := (-1)) hx hb dX8_compared_6 (by decide) ?_
      refine lv_icmp_eq (tgt := 95) hx hb dX8_compared_7 (by decide) (fun c5 => ?_) (fun c5 => ?_)
      · refine lv_iload_n hx hb dX8_compared_95 rfl (lv_at hl 1 rfl) ?_
        refine lv_iconst (v := (-1)) hx hb dX8_compared_96 (by decide) ?_
        refine lv_icmp_eq (tgt := 106) hx hb dX8_compared_97 (by decide) (fun c6 => ?_) (fun c6 => ?_)
        rotate_left
        · exact absurd c5 c6
        refine lv_iload_n hx hb dX8_compared_106 rfl (lv_at hl 1 rfl) ?_
        refine lv_i2l (v := av.toInt64) hx hb dX8_compared_107 rfl ?_
        refine lv_iload hx hb dX8_compared_108 (lv_at hl 2 rfl) ?_
        refine lv_i2l (v := bv.toInt64) hx hb dX8_compared_110 rfl ?_
        refine z_callSi (As := [.long av.toInt64, .long bv.toInt64]) C hz hS hA hl (k_X8_by l D cy fL2 av.toInt64 bv.toInt64  ) zyX8_by mMX8_166 rfl rfl (Nat.le_of_ble_eq_true rfl) ⟨Nat.le_of_ble_eq_true rfl, Nat.le_of_ble_eq_true rfl⟩ ⟨Nat.le_of_ble_eq_true rfl, Nat.le_of_ble_eq_true rfl⟩ dX8_compared_111 (fun r9 f7 H locs h8 hz hS => ?_)
        have k10 := h8
        exact z_iret C hr rfl hz hS (by
              intro b e hb 
              have hb0 : fL2 b = some e := k4 b e hb 
              have hb1 : f7 b = some e := k10 b e hb0 
              exact hb1) (Nat.le_of_ble_eq_true rfl) (Nat.le_of_ble_eq_true rfl) dX8_compared_114
      · obtain ⟨j, hj, haj⟩ : ∃ j, j < am ∧ av = nI j := by
          rcases hav with h9 | h9
          · exact absurd h9 c5
          · exact h9
        refine lv_iload hx hb dX8_compared_10 (lv_at hl 2 rfl) ?_
        refine lv_iconst (v := (-1)) hx hb dX8_compared_12 (by decide) ?_
        refine lv_icmp_eq (tgt := 95) hx hb dX8_compared_13 (by decide) (fun c11 => ?_) (fun c11 => ?_)
        · refine lv_iload_n hx hb dX8_compared_95 rfl (lv_at hl 1 rfl) ?_
          refine lv_iconst (v := (-1)) hx hb dX8_compared_96 (by decide) ?_
          refine lv_icmp_eq (tgt := 106) hx hb dX8_compared_97 (by decide) (fun c12 => ?_) (fun c12 => ?_)
          · exact absurd c12 (by rw [haj]; exact z_nim1 (by omega))
          refine lv_iload hx hb dX8_compared_100 (lv_at hl 2 rfl) ?_
          refine lv_iconst (v := (-1)) hx hb dX8_compared_102 (by decide) ?_
          refine lv_icmp_ne (tgt := 115) hx hb dX8_compared_103 (by decide) (fun c13 => ?_) (fun c13 => ?_)
          · exact absurd c11 c13
          refine lv_iload_n hx hb dX8_compared_106 rfl (lv_at hl 1 rfl) ?_
          refine lv_i2l (v := av.toInt64) hx hb dX8_compared_107 rfl ?_
          refine lv_iload hx hb dX8_compared_108 (lv_at hl 2 rfl) ?_
          refine lv_i2l (v := bv.toInt64) hx hb dX8_compared_110 rfl ?_
          refine z_callSi (As := [.long av.toInt64, .long bv.toInt64]) C hz hS hA hl (k_X8_by l D cy fL2 av.toInt64 bv.toInt64  ) zyX8_by mMX8_166 rfl rfl (Nat.le_of_ble_eq_true rfl) ⟨Nat.le_of_ble_eq_true rfl, Nat.le_of_ble_eq_true rfl⟩ ⟨Nat.le_of_ble_eq_true rfl, Nat.le_of_ble_eq_true rfl⟩ dX8_compared_111 (fun r16 f14 H locs h15 hz hS => ?_)
          have k17 := h15
          exact z_iret C hr rfl hz hS (by
                intro b e hb 
                have hb0 : fL2 b = some e := k4 b e hb 
                have hb1 : f14 b = some e := k17 b e hb0 
                exact hb1) (Nat.le_of_ble_eq_true rfl) (Nat.le_of_ble_eq_true rfl) dX8_compared_114
        · obtain ⟨j2, hj2, hbj⟩ : ∃ j, j < nn ∧ bv = nI j := by
            rcases hbv with h9 | h9
            · exact absurd h9 c11
            · exact h9
          refine lv_aload_n hx hb dX8_compared_16 rfl (lv_at hl 0 rfl) ?_
          have a18 : fL2 o = some (.inr (8, [.int u1, .int u2, .int u3, .ref wev, .int (nI nl), .ref wnb, .int (nI nn), .ref wki, .ref wmy, .ref wce, .ref wiw, .ref wli, .ref wha, .ref wwt, .int (nI nf), .ref wfy, .ref wfk, .int (nI nc), .ref wem, .ref wna, .ref wpl, .ref whs, .long lk, .int (nI ks), .ref wk1, .ref wk2, .ref wk3])) := k4 _ _ p0 
          refine z_get (v := .ref wki) C hz a18 zl8 mFX8_20 (by decide) rfl dX8_compared_17 ?_
          refine lv_iload_n hx hb dX8_compared_20 rfl (lv_at hl 1 rfl) ?_
          have a19 : fL2 wki = some (.inl (cy 0, 60, .inl gk)) := k4 _ _ p1 
          refine z_iald j C hz a19 haj (by omega) (by omega) dX8_compared_21 ?_
          refine lv_iconst (v := 4) hx hb dX8_compared_22 (by decide) ?_
          refine lv_icmp_ne (tgt := 95) hx hb dX8_compared_23 (by decide) (fun c20 => ?_) (fun c20 => ?_)
          · refine lv_iload_n hx hb dX8_compared_95 rfl (lv_at hl 1 rfl) ?_
            refine lv_iconst (v := (-1)) hx hb dX8_compared_96 (by decide) ?_
            refine lv_icmp_eq (tgt := 106) hx hb dX8_compared_97 (by decide) (fun c21 => ?_) (fun c21 => ?_)
            · exact absurd c21 (by rw [haj]; exact z_nim1 (by omega))
            refine lv_iload hx hb dX8_compared_100 (lv_at hl 2 rfl) ?_
            refine lv_iconst (v := (-1)) hx hb dX8_compared_102 (by decide) ?_
            refine lv_icmp_ne (tgt := 115) hx hb dX8_compared_103 (by decide) (fun c22 => ?_) (fun c22 => ?_)
            rotate_left
            · exact absurd c22 (by rw [hbj]; exact z_nim1 (by omega))
            refine lv_aload_n hx hb dX8_compared_115 rfl (lv_at hl 0 rfl) ?_
            refine z_get (v := .ref wki) C hz a18 zl8 mFX8_20 (by decide) rfl dX8_compared_116 ?_
            refine lv_iload_n hx hb dX8_compared_119 rfl (lv_at hl 1 rfl) ?_
            refine z_iald j C hz a19 haj (by omega) (by omega) dX8_compared_120 ?_
            refine lv_aload_n hx hb dX8_compared_121 rfl (lv_at hl 0 rfl) ?_
            refine z_get (v := .ref wki) C hz a18 zl8 mFX8_20 (by decide) rfl dX8_compared_122 ?_
            refine lv_iload hx hb dX8_compared_125 (lv_at hl 2 rfl) ?_
            refine z_iald j2 C hz a19 hbj (by omega) (by omega) dX8_compared_127 ?_
            refine lv_icmp_eq (tgt := 150) hx hb dX8_compared_128 (by decide) (fun c23 => ?_) (fun c23 => ?_)
            · refine lv_aload_n hx hb dX8_compared_150 rfl (lv_at hl 0 rfl) ?_
              refine z_get (v := .ref wki) C hz a18 zl8 mFX8_20 (by decide) rfl dX8_compared_151 ?_
              refine lv_iload_n hx hb dX8_compared_154 rfl (lv_at hl 1 rfl) ?_
              refine z_iald j C hz a19 haj (by omega) (by omega) dX8_compared_155 ?_
              refine lv_bipush (v := 6) hx hb dX8_compared_156 (by decide) ?_
              refine lv_icmp_ne (tgt := 170) hx hb dX8_compared_158 (by decide) (fun c24 => ?_) (fun c24 => ?_)
              · refine lv_aload_n hx hb dX8_compared_170 rfl (lv_at hl 0 rfl) ?_
                refine z_get (v := .ref wki) C hz a18 zl8 mFX8_20 (by decide) rfl dX8_compared_171 ?_
                refine lv_iload_n hx hb dX8_compared_174 rfl (lv_at hl 1 rfl) ?_
                refine z_iald j C hz a19 haj (by omega) (by omega) dX8_compared_175 ?_
                refine lv_iconst (v := 5) hx hb dX8_compared_176 (by decide) ?_
                refine lv_icmp_ne (tgt := 188) hx hb dX8_compared_177 (by decide) (fun c25 => ?_) (fun c25 => ?_)
                · have hlj := (hMP j (by omega)).2.1
                  refine lv_iconst (v := 0) hx hb dX8_compared_188 (by decide) ?_
                  refine lv_istore (lv' := [(5, .int 0), (0, .ref o), (3, .int av), (4, .int bv)]) hx hb dX8_compared_189 hl (by decide) rfl (fun ls hl => ?_)
                  have lp26 : ∀ (n : Nat) (kx : Nat) (fL27 : zM) (H : Heap) (locs : List Loc) (ls : Array Slot), (ln j - kx) < n → (kx ≤ ln j) → (∀ (b : Nat) (e : va_E), fL2 b = some e → fL27 b = some e) → zH D (zA f s.heap.size) fL27 H → va_S (zA f s.heap.size) s.heap H locs → lv_has ls 10 [(0, .ref o), (3, .int av), (4, .int bv), (5, .int (nI kx))] → W p l e rmX8_compared s m ([.ref o, .int (nI ja), .int (nI jb)] : List Value).toArray below meth c H locs 0 0 (MQ below (va_Qi (fun (r : Int32) (f1 : zM) => (∀ (b : Nat) (e : va_E), f b = some e → f1 b = some e)) (zB D f s.heap.size) (zA f s.heap.size)) ([.ref o, .int (nI ja), .int (nI jb)] : List Value).toArray s rmX8_compared.cells rmX8_compared.slots (zA f s.heap.size)) (F0 m 191 ls []) := by
                    intro n
                    induction n with
                    | zero => intro kx fL27 H locs ls hmz; exact absurd hmz (Nat.not_lt_zero _)
                    | succ n_28 ih_28 =>
                      intro kx fL27 H locs ls hmz_28 hk  k29 hz hS hl
                      refine lv_iload hx hb dX8_compared_191 (lv_at hl 3 rfl) ?_
                      refine lv_aload_n hx hb dX8_compared_193 rfl (lv_at hl 0 rfl) ?_
                      have a30 : fL27 o = some (.inr (8, [.int u1, .int u2, .int u3, .ref wev, .int (nI nl), .ref wnb, .int (nI nn), .ref wki, .ref wmy, .ref wce, .ref wiw, .ref wli, .ref wha, .ref wwt, .int (nI nf), .ref wfy, .ref wfk, .int (nI nc), .ref wem, .ref wna, .ref wpl, .ref whs, .long lk, .int (nI ks), .ref wk1, .ref wk2, .ref wk3])) := k29 _ _ a18 
                      refine z_get (v := .ref wmy) C hz a30 zl8 mFX8_23 (by decide) rfl dX8_compared_194 ?_
                      refine lv_iload_n hx hb dX8_compared_197 rfl (lv_at hl 1 rfl) ?_
                      have a31 : fL2 wmy = some (.inl (cy 0, 60, .inl gm)) := k4 _ _ p2 
                      have a32 : fL27 wmy = some (.inl (cy 0, 60, .inl gm)) := k29 _ _ a31 
                      refine z_iald j C hz a32 haj (by omega) (by omega) dX8_compared_198 ?_
                      refine lv_topi (fun y33 e34 => ?_)
                      obtain rfl : y33 = nI (ln j) := e34.trans (hMP j (by omega)).1
                      refine lv_icmp_ge (tgt := 268) hx hb dX8_compared_199 (by decide) (fun c35 => ?_) (fun c35 => ?_)
                      · replace c35 : (ln j ≤ kx) := (nI_leI (a := ln j) (b := kx) (by omega) (by omega)).mp c35
                        refine lv_iconst (v := 0) hx hb dX8_compared_268 (by decide) ?_
                        exact z_iret C hr rfl hz hS (by
                              intro b e hb 
                              have hb0 : fL2 b = some e := k4 b e hb 
                              have hb1 : fL27 b = some e := k29 b e hb0 
                              exact hb1) (Nat.le_of_ble_eq_true rfl) (Nat.le_of_ble_eq_true rfl) dX8_compared_269
                      · replace c35 : ¬ (ln j ≤ kx) := fun h => c35 ((nI_leI (a := ln j) (b := kx) (by omega) (by omega)).mpr h)
                        refine lv_aload_n hx hb dX8_compared_202 rfl (lv_at hl 0 rfl) ?_
                        refine lv_iload_n hx hb dX8_compared_203 rfl (lv_at hl 1 rfl) ?_
                        refine lv_topi (fun y36 e37 => ?_)
                        obtain rfl : y36 = nI j := e37.trans haj
                        refine lv_iload hx hb dX8_compared_204 (lv_at hl 3 rfl) ?_
                        have a38 : fL2 wce = some (.inl (cy 1, 960, .inr (.inl gc))) := k4 _ _ p3 
                        have a39 : fL27 wce = some (.inl (cy 1, 960, .inr (.inl gc))) := k29 _ _ a38 
                        refine z_callVl (As := [.int (nI j), .int (nI kx)]) C hz hS hA hl (k_X8_cellOf l D cy fL27 o wev wnb wki wmy wce wiw wli wha wwt wfy wfk wem wna wpl whs wk1 wk2 wk3 u1 u2 u3 nl nn nf nc lk ks gc j kx a30 a39 (by omega)) zyX8_cellOf mMX8_90 a30 zl8 rfl rfl (Nat.le_of_ble_eq_true rfl) ⟨Nat.le_of_ble_eq_true rfl, Nat.le_of_ble_eq_true rfl⟩ ⟨Nat.le_of_ble_eq_true rfl, Nat.le_of_ble_eq_true rfl⟩ dX8_compared_206 (fun r f40 H locs h41 hz hS => ?_)
                        obtain ⟨rfl, k42⟩ := h41
                        refine lv_lstore (lv' := [(6, .long (gc (16 * j + kx))), (0, .ref o), (3, .int av), (4, .int bv), (5, .int (nI kx))]) hx hb dX8_compared_209 hl (by decide) rfl (fun ls hl => ?_)
                        refine lv_aload_n hx hb dX8_compared_211 rfl (lv_at hl 1 rfl) ?_
                        refine lv_iload hx hb dX8_compared_212 (lv_at hl 3 rfl) ?_
                        refine lv_topi (fun y43 e44 => ?_)
                        obtain rfl : y43 = nI j2 := e44.trans hbj
                        refine lv_iload hx hb dX8_compared_214 (lv_at hl 4 rfl) ?_
                        have a45 : f40 o = some (.inr (8, [.int u1, .int u2, .int u3, .ref wev, .int (nI nl), .ref wnb, .int (nI nn), .ref wki, .ref wmy, .ref wce, .ref wiw, .ref wli, .ref wha, .ref wwt, .int (nI nf), .ref wfy, .ref wfk, .int (nI nc), .ref wem, .ref wna, .ref wpl, .ref whs, .long lk, .int (nI ks), .ref wk1, .ref wk2, .ref wk3])) := k42 _ _ a30 
                        have a46 : f40 wce = some (.inl (cy 1, 960, .inr (.inl gc))) := k42 _ _ a39 
                        refine z_callVl (As := [.int (nI j2), .int (nI kx)]) C hz hS hA hl (k_X8_cellOf l D cy f40 o wev wnb wki wmy wce wiw wli wha wwt wfy wfk wem wna wpl whs wk1 wk2 wk3 u1 u2 u3 nl nn nf nc lk ks gc j2 kx a45 a46 (by omega)) zyX8_cellOf mMX8_90 a45 zl8 rfl rfl (Nat.le_of_ble_eq_true rfl) ⟨Nat.le_of_ble_eq_true rfl, Nat.le_of_ble_eq_true rfl⟩ ⟨Nat.le_of_ble_eq_true rfl, Nat.le_of_ble_eq_true rfl⟩ dX8_compared_216 (fun r f47 H locs h48 hz hS => ?_)
                        obtain ⟨rfl, k49⟩ := h48
                        refine lv_lstore (lv' := [(8, .long (gc (16 * j2 + kx))), (6, .long (gc (16 * j + kx))), (0, .ref o), (3, .int av), (4, .int bv), (5, .int (nI kx))]) hx hb dX8_compared_219 hl (by decide) rfl (fun ls hl => ?_)
                        refine lv_lload hx hb dX8_compared_221 (lv_at hl 1 rfl) ?_
                        refine lv_lload hx hb dX8_compared_223 (lv_at hl 0 rfl) ?_
                        refine W.lcmp hx hb dX8_compared_225 ?_
                        refine lv_if_eq (tgt := 262) hx hb dX8_compared_226 (by decide) (fun c50 => ?_) (fun c50 => ?_)
                        · refine lv_iinc (v := nI (kx + 1)) (lv' := [(5, .int (nI (kx + 1))), (8, .long (gc (16 * j2 + kx))), (6, .long (gc (16 * j + kx))), (0, .ref o), (3, .int av), (4, .int bv)]) hx hb dX8_compared_262 hl (k := 5) rfl (nI_1 kx) (by decide) rfl (fun ls hl => ?_)
                          refine lv_goto (tgt := 191) hx hb dX8_compared_265 (by decide) ?_
                          exact ih_28 (kx + 1) _ _ _ _ (by omega) (by omega)  (by
                                intro b e hb 
                                have hb1 : fL27 b = some e := k29 b e hb 
                                have hb2 : f40 b = some e := k42 b e hb1 
                                have hb3 : f47 b = some e := k49 b e hb2 
                                exact hb3) hz hS (lv_sub hl [3, 4, 5, 0] rfl)
                        · refine lv_aload_n hx hb dX8_compared_229 rfl (lv_at hl 2 rfl) ?_
                          have a51 : f47 o = some (.inr (8, [.int u1, .int u2, .int u3, .ref wev, .int (nI nl), .ref wnb, .int (nI nn), .ref wki, .ref wmy, .ref wce, .ref wiw, .ref wli, .ref wha, .ref wwt, .int (nI nf), .ref wfy, .ref wfk, .int (nI nc), .ref wem, .ref wna, .ref wpl, .ref whs, .long lk, .int (nI ks), .ref wk1, .ref wk2, .ref wk3])) := k49 _ _ a45 
                          refine z_get (v := .ref wki) C hz a51 zl8 mFX8_20 (by decide) rfl dX8_compared_230 ?_
                          refine lv_iload_n hx hb dX8_compared_233 rfl (lv_at hl 3 rfl) ?_
                          have a52 : fL27 wki = some (.inl (cy 0, 60, .inl gk)) := k29 _ _ a19 
                          have a53 : f40 wki = some (.inl (cy 0, 60, .inl gk)) := k42 _ _ a52 
                          have a54 : f47 wki = some (.inl (cy 0, 60, .inl gk)) := k49 _ _ a53 
                          refine z_iald j C hz a54 haj (by omega) (by omega) dX8_compared_234 ?_
                          refine lv_if_ne (tgt := 254) hx hb dX8_compared_235 (by decide) (fun c55 => ?_) (fun c55 => ?_)
                          · refine lv_lload hx hb dX8_compared_254 (lv_at hl 1 rfl) ?_
                            refine lv_lload hx hb dX8_compared_256 (lv_at hl 0 rfl) ?_
                            refine z_callSi (As := [.long (gc (16 * j + kx)), .long (gc (16 * j2 + kx))]) C hz hS hA hl (k_X8_by l D cy f47 (gc (16 * j + kx)) (gc (16 * j2 + kx))  ) zyX8_by mMX8_166 rfl rfl (Nat.le_of_ble_eq_true rfl) ⟨Nat.le_of_ble_eq_true rfl, Nat.le_of_ble_eq_true rfl⟩ ⟨Nat.le_of_ble_eq_true rfl, Nat.le_of_ble_eq_true rfl⟩ dX8_compared_258 (fun r58 f56 H locs h57 hz hS => ?_)
                            have k59 := h57
                            exact z_iret C hr rfl hz hS (by
                                  intro b e hb 
                                  have hb0 : fL2 b = some e := k4 b e hb 
                                  have hb1 : fL27 b = some e := k29 b e hb0 
                                  have hb2 : f40 b = some e := k42 b e hb1 
                                  have hb3 : f47 b = some e := k49 b e hb2 
                                  have hb4 : f56 b = some e := k59 b e hb3 
                                  exact hb4) (Nat.le_of_ble_eq_true rfl) (Nat.le_of_ble_eq_true rfl) dX8_compared_261
                          · refine lv_lload hx hb dX8_compared_238 (lv_at hl 1 rfl) ?_
                            refine z_callSl (As := [.long (gc (16 * j + kx))]) C hz hS hA hl (k_X8_line l D cy f47 (gc (16 * j + kx))  ) zyX8_line mMX8_174 rfl rfl (Nat.le_of_ble_eq_true rfl) ⟨Nat.le_of_ble_eq_true rfl, Nat.le_of_ble_eq_true rfl⟩ ⟨Nat.le_of_ble_eq_true rfl, Nat.le_of_ble_eq_true rfl⟩ dX8_compared_240 (fun r62 f60 H locs h61 hz hS => ?_)
                            have k63 := h61
                            refine lv_lload hx hb dX8_compared_243 (lv_at hl 0 rfl) ?_
                            refine z_callSl (As := [.long (gc (16 * j2 + kx))]) C hz hS hA hl (k_X8_line l D cy f60 (gc (16 * j2 + kx))  ) zyX8_line mMX8_174 rfl rfl (Nat.le_of_ble_eq_true rfl) ⟨Nat.le_of_ble_eq_true rfl, Nat.le_of_ble_eq_true rfl⟩ ⟨Nat.le_of_ble_eq_true rfl, Nat.le_of_ble_eq_true rfl⟩ dX8_compared_245 (fun r66 f64 H locs h65 hz hS => ?_)
                            have k67 := h65
                            refine z_callSi (As := [.long r62, .long r66]) C hz hS hA hl (k_X8_by l D cy f64 r62 r66  ) zyX8_by mMX8_166 rfl rfl (Nat.le_of_ble_eq_true rfl) ⟨Nat.le_of_ble_eq_true rfl, Nat.le_of_ble_eq_true rfl⟩ ⟨Nat.le_of_ble_eq_true rfl, Nat.le_of_ble_eq_true rfl⟩ dX8_compared_248 (fun r70 f68 H locs h69 hz hS => ?_)
                            have k71 := h69
                            refine lv_goto (tgt := 261) hx hb dX8_compared_251 (by decide) ?_
                            exact z_iret C hr rfl hz hS (by
                                  intro b e hb 
                                  have hb0 : fL2 b = some e := k4 b e hb 
                                  have hb1 : fL27 b = some e := k29 b e hb0 
                                  have hb2 : f40 b = some e := k42 b e hb1 
                                  have hb3 : f47 b = some e := k49 b e hb2 
                                  have hb4 : f60 b = some e := k63 b e hb3 
                                  have hb5 : f64 b = some e := k67 b e hb4 
                                  have hb6 : f68 b = some e := k71 b e hb5 
                                  exact hb6) (Nat.le_of_ble_eq_true rfl) (Nat.le_of_ble_eq_true rfl) dX8_compared_261
                  exact lp26 (ln j - 0 + 1) 0 _ _ _ _ (Nat.lt_succ_self _) (by omega)  (fun b e hb => hb) hz hS (lv_sub hl [1, 2, 3, 0] rfl)
                · refine lv_aload_n hx hb dX8_compared_180 rfl (lv_at hl 0 rfl) ?_
                  refine lv_iload_n hx hb dX8_compared_181 rfl (lv_at hl 1 rfl) ?_
                  refine lv_topi (fun y72 e73 => ?_)
                  obtain rfl : y72 = nI j := e73.trans haj
                  refine lv_iload hx hb dX8_compared_182 (lv_at hl 2 rfl) ?_
                  refine lv_topi (fun y74 e75 => ?_)
                  obtain rfl : y74 = nI j2 := e75.trans hbj
                  have a76 : fL2 wce = some (.inl (cy 1, 960, .inr (.inl gc))) := k4 _ _ p3 
                  refine z_callVi (As := [.int (nI j), .int (nI j2)]) C hz hS hA hl (k_X8_byRows l D cy fL2 o wev wnb wki wmy wce wiw wli wha wwt wfy wfk wem wna wpl whs wk1 wk2 wk3 u1 u2 u3 nl nn nf nc lk ks gc j j2 a18 a76 (by omega) (by omega) ((hMP j (by omega)).2.2.2.2 c25) ((hMP j2 (by omega)).2.2.2.2 (c23.symm.trans c25))) zyX8_byRows mMX8_170 a18 zl8 rfl rfl (Nat.le_of_ble_eq_true rfl) ⟨Nat.le_of_ble_eq_true rfl, Nat.le_of_ble_eq_true rfl⟩ ⟨Nat.le_of_ble_eq_true rfl, Nat.le_of_ble_eq_true rfl⟩ dX8_compared_184 (fun r79 f77 H locs h78 hz hS => ?_)
                  have k80 := h78
                  exact z_iret C hr rfl hz hS (by
                        intro b e hb 
                        have hb0 : fL2 b = some e := k4 b e hb 
                        have hb1 : f77 b = some e := k80 b e hb0 
                        exact hb1) (Nat.le_of_ble_eq_true rfl) (Nat.le_of_ble_eq_true rfl) dX8_compared_187
              · refine lv_iload_n hx hb dX8_compared_161 rfl (lv_at hl 1 rfl) ?_
                refine lv_i2l (v := av.toInt64) hx hb dX8_compared_162 rfl ?_
                refine lv_iload hx hb dX8_compared_163 (lv_at hl 2 rfl) ?_
                refine lv_i2l (v := bv.toInt64) hx hb dX8_compared_165 rfl ?_
                refine z_callSi (As := [.long av.toInt64, .long bv.toInt64]) C hz hS hA hl (k_X8_by l D cy fL2 av.toInt64 bv.toInt64  ) zyX8_by mMX8_166 rfl rfl (Nat.le_of_ble_eq_true rfl) ⟨Nat.le_of_ble_eq_true rfl, Nat.le_of_ble_eq_true rfl⟩ ⟨Nat.le_of_ble_eq_true rfl, Nat.le_of_ble_eq_true rfl⟩ dX8_compared_166 (fun r83 f81 H locs h82 hz hS => ?_)
                have k84 := h82
                exact z_iret C hr rfl hz hS (by
                      intro b e hb 
                      have hb0 : fL2 b = some e := k4 b e hb 
                      have hb1 : f81 b = some e := k84 b e hb0 
                      exact hb1) (Nat.le_of_ble_eq_true rfl) (Nat.le_of_ble_eq_true rfl) dX8_compared_169
            · refine lv_aload_n hx hb dX8_compared_131 rfl (lv_at hl 0 rfl) ?_
              refine z_get (v := .ref wki) C hz a18 zl8 mFX8_20 (by decide) rfl dX8_compared_132 ?_
              refine lv_iload_n hx hb dX8_compared_135 rfl (lv_at hl 1 rfl) ?_
              refine z_iald j C hz a19 haj (by omega) (by omega) dX8_compared_136 ?_
              refine lv_i2l (v := (gk j).toInt64) hx hb dX8_compared_137 rfl ?_
              refine lv_aload_n hx hb dX8_compared_138 rfl (lv_at hl 0 rfl) ?_
              refine z_get (v := .ref wki) C hz a18 zl8 mFX8_20 (by decide) rfl dX8_compared_139 ?_
              refine lv_iload hx hb dX8_compared_142 (lv_at hl 2 rfl) ?_
              refine z_iald j2 C hz a19 hbj (by omega) (by omega) dX8_compared_144 ?_
              refine lv_i2l (v := (gk j2).toInt64) hx hb dX8_compared_145 rfl ?_
              refine z_callSi (As := [.long ((gk j).toInt64), .long ((gk j2).toInt64)]) C hz hS hA hl (k_X8_by l D cy fL2 ((gk j).toInt64) ((gk j2).toInt64)  ) zyX8_by mMX8_166 rfl rfl (Nat.le_of_ble_eq_true rfl) ⟨Nat.le_of_ble_eq_true rfl, Nat.le_of_ble_eq_true rfl⟩ ⟨Nat.le_of_ble_eq_true rfl, Nat.le_of_ble_eq_true rfl⟩ dX8_compared_146 (fun r87 f85 H locs h86 hz hS => ?_)
              have k88 := h86
              exact z_iret C hr rfl hz hS (by
                    intro b e hb 
                    have hb0 : fL2 b = some e := k4 b e hb 
                    have hb1 : f85 b = some e := k88 b e hb0 
                    exact hb1) (Nat.le_of_ble_eq_true rfl) (Nat.le_of_ble_eq_true rfl) dX8_compared_149
          · refine lv_aload_n hx hb dX8_compared_26 rfl (lv_at hl 0 rfl) ?_
            refine z_get (v := .ref wki) C hz a18 zl8 mFX8_20 (by decide) rfl dX8_compared_27 ?_
            refine lv_iload hx hb dX8_compared_30 (lv_at hl 2 rfl) ?_
            refine z_iald j2 C hz a19 hbj (by omega) (by omega) dX8_compared_32 ?_
            refine lv_iconst (v := 4) hx hb dX8_compared_33 (by decide) ?_
            refine lv_icmp_ne (tgt := 95) hx hb dX8_compared_34 (by decide) (fun c89 => ?_) (fun c89 => ?_)
            · refine lv_iload_n hx hb dX8_compared_95 rfl (lv_at hl 1 rfl) ?_
              refine lv_iconst (v := (-1)) hx hb dX8_compared_96 (by decide) ?_
              refine lv_icmp_eq (tgt := 106) hx hb dX8_compared_97 (by decide) (fun c90 => ?_) (fun c90 => ?_)
              · exact absurd c90 (by rw [haj]; exact z_nim1 (by omega))
              refine lv_iload hx hb dX8_compared_100 (lv_at hl 2 rfl) ?_
              refine lv_iconst (v := (-1)) hx hb dX8_compared_102 (by decide) ?_
              refine lv_icmp_ne (tgt := 115) hx hb dX8_compared_103 (by decide) (fun c91 => ?_) (fun c91 => ?_)
              rotate_left
              · exact absurd c91 (by rw [hbj]; exact z_nim1 (by omega))
              refine lv_aload_n hx hb dX8_compared_115 rfl (lv_at hl 0 rfl) ?_
              refine z_get (v := .ref wki) C hz a18 zl8 mFX8_20 (by decide) rfl dX8_compared_116 ?_
              refine lv_iload_n hx hb dX8_compared_119 rfl (lv_at hl 1 rfl) ?_
              refine z_iald j C hz a19 haj (by omega) (by omega) dX8_compared_120 ?_
              refine lv_aload_n hx hb dX8_compared_121 rfl (lv_at hl 0 rfl) ?_
              refine z_get (v := .ref wki) C hz a18 zl8 mFX8_20 (by decide) rfl dX8_compared_122 ?_
              refine lv_iload hx hb dX8_compared_125 (lv_at hl 2 rfl) ?_
              refine z_iald j2 C hz a19 hbj (by omega) (by omega) dX8_compared_127 ?_
              refine lv_icmp_eq (tgt := 150) hx hb dX8_compared_128 (by decide) (fun c92 => ?_) (fun c92 => ?_)
              · refine lv_aload_n hx hb dX8_compared_150 rfl (lv_at hl 0 rfl) ?_
                refine z_get (v := .ref wki) C hz a18 zl8 mFX8_20 (by decide) rfl dX8_compared_151 ?_
                refine lv_iload_n hx hb dX8_compared_154 rfl (lv_at hl 1 rfl) ?_
                refine z_iald j C hz a19 haj (by omega) (by omega) dX8_compared_155 ?_
                refine lv_bipush (v := 6) hx hb dX8_compared_156 (by decide) ?_
                refine lv_icmp_ne (tgt := 170) hx hb dX8_compared_158 (by decide) (fun c93 => ?_) (fun c93 => ?_)
                · refine lv_aload_n hx hb dX8_compared_170 rfl (lv_at hl 0 rfl) ?_
                  refine z_get (v := .ref wki) C hz a18 zl8 mFX8_20 (by decide) rfl dX8_compared_171 ?_
                  refine lv_iload_n hx hb dX8_compared_174 rfl (lv_at hl 1 rfl) ?_
                  refine z_iald j C hz a19 haj (by omega) (by omega) dX8_compared_175 ?_
                  refine lv_iconst (v := 5) hx hb dX8_compared_176 (by decide) ?_
                  refine lv_icmp_ne (tgt := 188) hx hb dX8_compared_177 (by decide) (fun c94 => ?_) (fun c94 => ?_)
                  · have hlj := (hMP j (by omega)).2.1
                    refine lv_iconst (v := 0) hx hb dX8_compared_188 (by decide) ?_
                    refine lv_istore (lv' := [(5, .int 0), (0, .ref o), (3, .int av), (4, .int bv)]) hx hb dX8_compared_189 hl (by decide) rfl (fun ls hl => ?_)
                    have lp95 : ∀ (n : Nat) (kx : Nat) (fL96 : zM) (H : Heap) (locs : List Loc) (ls : Array Slot), (ln j - kx) < n → (kx ≤ ln j) → (∀ (b : Nat) (e : va_E), fL2 b = some e → fL96 b = some e) → zH D (zA f s.heap.size) fL96 H → va_S (zA f s.heap.size) s.heap H locs → lv_has ls 10 [(0, .ref o), (3, .int av), (4, .int bv), (5, .int (nI kx))] → W p l e rmX8_compared s m ([.ref o, .int (nI ja), .int (nI jb)] : List Value).toArray below meth c H locs 0 0 (MQ below (va_Qi (fun (r : Int32) (f1 : zM) => (∀ (b : Nat) (e : va_E), f b = some e → f1 b = some e)) (zB D f s.heap.size) (zA f s.heap.size)) ([.ref o, .int (nI ja), .int (nI jb)] : List Value).toArray s rmX8_compared.cells rmX8_compared.slots (zA f s.heap.size)) (F0 m 191 ls []) := by
                      intro n
                      induction n with
                      | zero => intro kx fL96 H locs ls hmz; exact absurd hmz (Nat.not_lt_zero _)
                      | succ n_97 ih_97 =>
                        intro kx fL96 H locs ls hmz_97 hk  k98 hz hS hl
                        refine lv_iload hx hb dX8_compared_191 (lv_at hl 3 rfl) ?_
                        refine lv_aload_n hx hb dX8_compared_193 rfl (lv_at hl 0 rfl) ?_
                        have a99 : fL96 o = some (.inr (8, [.int u1, .int u2, .int u3, .ref wev, .int (nI nl), .ref wnb, .int (nI nn), .ref wki, .ref wmy, .ref wce, .ref wiw, .ref wli, .ref wha, .ref wwt, .int (nI nf), .ref wfy, .ref wfk, .int (nI nc), .ref wem, .ref wna, .ref wpl, .ref whs, .long lk, .int (nI ks), .ref wk1, .ref wk2, .ref wk3])) := k98 _ _ a18 
                        refine z_get (v := .ref wmy) C hz a99 zl8 mFX8_23 (by decide) rfl dX8_compared_194 ?_
                        refine lv_iload_n hx hb dX8_compared_197 rfl (lv_at hl 1 rfl) ?_
                        have a100 : fL2 wmy = some (.inl (cy 0, 60, .inl gm)) := k4 _ _ p2 
                        have a101 : fL96 wmy = some (.inl (cy 0, 60, .inl gm)) := k98 _ _ a100 
                        refine z_iald j C hz a101 haj (by omega) (by omega) dX8_compared_198 ?_
                        refine lv_topi (fun y102 e103 => ?_)
                        obtain rfl : y102 = nI (ln j) := e103.trans (hMP j (by omega)).1
                        refine lv_icmp_ge (tgt := 268) hx hb dX8_compared_199 (by decide) (fun c104 => ?_) (fun c104 => ?_)
                        · replace c104 : (ln j ≤ kx) := (nI_leI (a := ln j) (b := kx) (by omega) (by omega)).mp c104
                          refine lv_iconst (v := 0) hx hb dX8_compared_268 (by decide) ?_
                          exact z_iret C hr rfl hz hS (by
                                intro b e hb 
                                have hb0 : fL2 b = some e := k4 b e hb 
                                have hb1 : fL96 b = some e := k98 b e hb0 
                                exact hb1) (Nat.le_of_ble_eq_true rfl) (Nat.le_of_ble_eq_true rfl) dX8_compared_269
                        · replace c104 : ¬ (ln j ≤ kx) := fun h => c104 ((nI_leI (a := ln j) (b := kx) (by omega) (by omega)).mpr h)
                          refine lv_aload_n hx hb dX8_compared_202 rfl (lv_at hl 0 rfl) ?_
                          refine lv_iload_n hx hb dX8_compared_203 rfl (lv_at hl 1 rfl) ?_
                          refine lv_topi (fun y105 e106 => ?_)
                          obtain rfl : y105 = nI j := e106.trans haj
                          refine lv_iload hx hb dX8_compared_204 (lv_at hl 3 rfl) ?_
                          have a107 : fL2 wce = some (.inl (cy 1, 960, .inr (.inl gc))) := k4 _ _ p3 
                          have a108 : fL96 wce = some (.inl (cy 1, 960, .inr (.inl gc))) := k98 _ _ a107 
                          refine z_callVl (As := [.int (nI j), .int (nI kx)]) C hz hS hA hl (k_X8_cellOf l D cy fL96 o wev wnb wki wmy wce wiw wli wha wwt wfy wfk wem wna wpl whs wk1 wk2 wk3 u1 u2 u3 nl nn nf nc lk ks gc j kx a99 a108 (by omega)) zyX8_cellOf mMX8_90 a99 zl8 rfl rfl (Nat.le_of_ble_eq_true rfl) ⟨Nat.le_of_ble_eq_true rfl, Nat.le_of_ble_eq_true rfl⟩ ⟨Nat.le_of_ble_eq_true rfl, Nat.le_of_ble_eq_true rfl⟩ dX8_compared_206 (fun r f109 H locs h110 hz hS => ?_)
                          obtain ⟨rfl, k111⟩ := h110
                          refine lv_lstore (lv' := [(6, .long (gc (16 * j + kx))), (0, .ref o), (3, .int av), (4, .int bv), (5, .int (nI kx))]) hx hb dX8_compared_209 hl (by decide) rfl (fun ls hl => ?_)
                          refine lv_aload_n hx hb dX8_compared_211 rfl (lv_at hl 1 rfl) ?_
                          refine lv_iload hx hb dX8_compared_212 (lv_at hl 3 rfl) ?_
                          refine lv_topi (fun y112 e113 => ?_)
                          obtain rfl : y112 = nI j2 := e113.trans hbj
                          refine lv_iload hx hb dX8_compared_214 (lv_at hl 4 rfl) ?_
                          have a114 : f109 o = some (.inr (8, [.int u1, .int u2, .int u3, .ref wev, .int (nI nl), .ref wnb, .int (nI nn), .ref wki, .ref wmy, .ref wce, .ref wiw, .ref wli, .ref wha, .ref wwt, .int (nI nf), .ref wfy, .ref wfk, .int (nI nc), .ref wem, .ref wna, .ref wpl, .ref whs, .long lk, .int (nI ks), .ref wk1, .ref wk2, .ref wk3])) := k111 _ _ a99 
                          have a115 : f109 wce = some (.inl (cy 1, 960, .inr (.inl gc))) := k111 _ _ a108 
                          refine z_callVl (As := [.int (nI j2), .int (nI kx)]) C hz hS hA hl (k_X8_cellOf l D cy f109 o wev wnb wki wmy wce wiw wli wha wwt wfy wfk wem wna wpl whs wk1 wk2 wk3 u1 u2 u3 nl nn nf nc lk ks gc j2 kx a114 a115 (by omega)) zyX8_cellOf mMX8_90 a114 zl8 rfl rfl (Nat.le_of_ble_eq_true rfl) ⟨Nat.le_of_ble_eq_true rfl, Nat.le_of_ble_eq_true rfl⟩ ⟨Nat.le_of_ble_eq_true rfl, Nat.le_of_ble_eq_true rfl⟩ dX8_compared_216 (fun r f116 H locs h117 hz hS => ?_)
                          obtain ⟨rfl, k118⟩ := h117
                          refine lv_lstore (lv' := [(8, .long (gc (16 * j2 + kx))), (6, .long (gc (16 * j + kx))), (0, .ref o), (3, .int av), (4, .int bv), (5, .int (nI kx))]) hx hb dX8_compared_219 hl (by decide) rfl (fun ls hl => ?_)
                          refine lv_lload hx hb dX8_compared_221 (lv_at hl 1 rfl) ?_
                          refine lv_lload hx hb dX8_compared_223 (lv_at hl 0 rfl) ?_
                          refine W.lcmp hx hb dX8_compared_225 ?_
                          refine lv_if_eq (tgt := 262) hx hb dX8_compared_226 (by decide) (fun c119 => ?_) (fun c119 => ?_)
                          · refine lv_iinc (v := nI (kx + 1)) (lv' := [(5, .int (nI (kx + 1))), (8, .long (gc (16 * j2 + kx))), (6, .long (gc (16 * j + kx))), (0, .ref o), (3, .int av), (4, .int bv)]) hx hb dX8_compared_262 hl (k := 5) rfl (nI_1 kx) (by decide) rfl (fun ls hl => ?_)
                            refine lv_goto (tgt := 191) hx hb dX8_compared_265 (by decide) ?_
                            exact ih_97 (kx + 1) _ _ _ _ (by omega) (by omega)  (by
                                  intro b e hb 
                                  have hb1 : fL96 b = some e := k98 b e hb 
                                  have hb2 : f109 b = some e := k111 b e hb1 
                                  have hb3 : f116 b = some e := k118 b e hb2 
                                  exact hb3) hz hS (lv_sub hl [3, 4, 5, 0] rfl)
                          · refine lv_aload_n hx hb dX8_compared_229 rfl (lv_at hl 2 rfl) ?_
                            have a120 : f116 o = some (.inr (8, [.int u1, .int u2, .int u3, .ref wev, .int (nI nl), .ref wnb, .int (nI nn), .ref wki, .ref wmy, .ref wce, .ref wiw, .ref wli, .ref wha, .ref wwt, .int (nI nf), .ref wfy, .ref wfk, .int (nI nc), .ref wem, .ref wna, .ref wpl, .ref whs, .long lk, .int (nI ks), .ref wk1, .ref wk2, .ref wk3])) := k118 _ _ a114 
                            refine z_get (v := .ref wki) C hz a120 zl8 mFX8_20 (by decide) rfl dX8_compared_230 ?_
                            refine lv_iload_n hx hb dX8_compared_233 rfl (lv_at hl 3 rfl) ?_
                            have a121 : fL96 wki = some (.inl (cy 0, 60, .inl gk)) := k98 _ _ a19 
                            have a122 : f109 wki = some (.inl (cy 0, 60, .inl gk)) := k111 _ _ a121 
                            have a123 : f116 wki = some (.inl (cy 0, 60, .inl gk)) := k118 _ _ a122 
                            refine z_iald j C hz a123 haj (by omega) (by omega) dX8_compared_234 ?_
                            refine lv_if_ne (tgt := 254) hx hb dX8_compared_235 (by decide) (fun c124 => ?_) (fun c124 => ?_)
                            · refine lv_lload hx hb dX8_compared_254 (lv_at hl 1 rfl) ?_
                              refine lv_lload hx hb dX8_compared_256 (lv_at hl 0 rfl) ?_
                              refine z_callSi (As := [.long (gc (16 * j + kx)), .long (gc (16 * j2 + kx))]) C hz hS hA hl (k_X8_by l D cy f116 (gc (16 * j + kx)) (gc (16 * j2 + kx))  ) zyX8_by mMX8_166 rfl rfl (Nat.le_of_ble_eq_true rfl) ⟨Nat.le_of_ble_eq_true rfl, Nat.le_of_ble_eq_true rfl⟩ ⟨Nat.le_of_ble_eq_true rfl, Nat.le_of_ble_eq_true rfl⟩ dX8_compared_258 (fun r127 f125 H locs h126 hz hS => ?_)
                              have k128 := h126
                              exact z_iret C hr rfl hz hS (by
                                    intro b e hb 
                                    have hb0 : fL2 b = some e := k4 b e hb 
                                    have hb1 : fL96 b = some e := k98 b e hb0 
                                    have hb2 : f109 b = some e := k111 b e hb1 
                                    have hb3 : f116 b = some e := k118 b e hb2 
                                    have hb4 : f125 b = some e := k128 b e hb3 
                                    exact hb4) (Nat.le_of_ble_eq_true rfl) (Nat.le_of_ble_eq_true rfl) dX8_compared_261
                            · refine lv_lload hx hb dX8_compared_238 (lv_at hl 1 rfl) ?_
                              refine z_callSl (As := [.long (gc (16 * j + kx))]) C hz hS hA hl (k_X8_line l D cy f116 (gc (16 * j + kx))  ) zyX8_line mMX8_174 rfl rfl (Nat.le_of_ble_eq_true rfl) ⟨Nat.le_of_ble_eq_true rfl, Nat.le_of_ble_eq_true rfl⟩ ⟨Nat.le_of_ble_eq_true rfl, Nat.le_of_ble_eq_true rfl⟩ dX8_compared_240 (fun r131 f129 H locs h130 hz hS => ?_)
                              have k132 := h130
                              refine lv_lload hx hb dX8_compared_243 (lv_at hl 0 rfl) ?_
                              refine z_callSl (As := [.long (gc (16 * j2 + kx))]) C hz hS hA hl (k_X8_line l D cy f129 (gc (16 * j2 + kx))  ) zyX8_line mMX8_174 rfl rfl (Nat.le_of_ble_eq_true rfl) ⟨Nat.le_of_ble_eq_true rfl, Nat.le_of_ble_eq_true rfl⟩ ⟨Nat.le_of_ble_eq_true rfl, Nat.le_of_ble_eq_true rfl⟩ dX8_compared_245 (fun r135 f133 H locs h134 hz hS => ?_)
                              have k136 := h134
                              refine z_callSi (As := [.long r131, .long r135]) C hz hS hA hl (k_X8_by l D cy f133 r131 r135  ) zyX8_by mMX8_166 rfl rfl (Nat.le_of_ble_eq_true rfl) ⟨Nat.le_of_ble_eq_true rfl, Nat.le_of_ble_eq_true rfl⟩ ⟨Nat.le_of_ble_eq_true rfl, Nat.le_of_ble_eq_true rfl⟩ dX8_compared_248 (fun r139 f137 H locs h138 hz hS => ?_)
                              have k140 := h138
                              refine lv_goto (tgt := 261) hx hb dX8_compared_251 (by decide) ?_
                              exact z_iret C hr rfl hz hS (by
                                    intro b e hb 
                                    have hb0 : fL2 b = some e := k4 b e hb 
                                    have hb1 : fL96 b = some e := k98 b e hb0 
                                    have hb2 : f109 b = some e := k111 b e hb1 
                                    have hb3 : f116 b = some e := k118 b e hb2 
                                    have hb4 : f129 b = some e := k132 b e hb3 
                                    have hb5 : f133 b = some e := k136 b e hb4 
                                    have hb6 : f137 b = some e := k140 b e hb5 
                                    exact hb6) (Nat.le_of_ble_eq_true rfl) (Nat.le_of_ble_eq_true rfl) dX8_compared_261
                    exact lp95 (ln j - 0 + 1) 0 _ _ _ _ (Nat.lt_succ_self _) (by omega)  (fun b e hb => hb) hz hS (lv_sub hl [1, 2, 3, 0] rfl)
                  · refine lv_aload_n hx hb dX8_compared_180 rfl (lv_at hl 0 rfl) ?_
                    refine lv_iload_n hx hb dX8_compared_181 rfl (lv_at hl 1 rfl) ?_
                    refine lv_topi (fun y141 e142 => ?_)
                    obtain rfl : y141 = nI j := e142.trans haj
                    refine lv_iload hx hb dX8_compared_182 (lv_at hl 2 rfl) ?_
                    refine lv_topi (fun y143 e144 => ?_)
                    obtain rfl : y143 = nI j2 := e144.trans hbj
                    have a145 : fL2 wce = some (.inl (cy 1, 960, .inr (.inl gc))) := k4 _ _ p3 
                    refine z_callVi (As := [.int (nI j), .int (nI j2)]) C hz hS hA hl (k_X8_byRows l D cy fL2 o wev wnb wki wmy wce wiw wli wha wwt wfy wfk wem wna wpl whs wk1 wk2 wk3 u1 u2 u3 nl nn nf nc lk ks gc j j2 a18 a145 (by omega) (by omega) ((hMP j (by omega)).2.2.2.2 c94) ((hMP j2 (by omega)).2.2.2.2 (c92.symm.trans c94))) zyX8_byRows mMX8_170 a18 zl8 rfl rfl (Nat.le_of_ble_eq_true rfl) ⟨Nat.le_of_ble_eq_true rfl, Nat.le_of_ble_eq_true rfl⟩ ⟨Nat.le_of_ble_eq_true rfl, Nat.le_of_ble_eq_true rfl⟩ dX8_compared_184 (fun r148 f146 H locs h147 hz hS => ?_)
                    have k149 := h147
                    exact z_iret C hr rfl hz hS (by
                          intro b e hb 
                          have hb0 : fL2 b = some e := k4 b e hb 
                          have hb1 : f146 b = some e := k149 b e hb0 
                          exact hb1) (Nat.le_of_ble_eq_true rfl) (Nat.le_of_ble_eq_true rfl) dX8_compared_187
                · refine lv_iload_n hx hb dX8_compared_161 rfl (lv_at hl 1 rfl) ?_
                  refine lv_i2l (v := av.toInt64) hx hb dX8_compared_162 rfl ?_
                  refine lv_iload hx hb dX8_compared_163 (lv_at hl 2 rfl) ?_
                  refine lv_i2l (v := bv.toInt64) hx hb dX8_compared_165 rfl ?_
                  refine z_callSi (As := [.long av.toInt64, .long bv.toInt64]) C hz hS hA hl (k_X8_by l D cy fL2 av.toInt64 bv.toInt64  ) zyX8_by mMX8_166 rfl rfl (Nat.le_of_ble_eq_true rfl) ⟨Nat.le_of_ble_eq_true rfl, Nat.le_of_ble_eq_true rfl⟩ ⟨Nat.le_of_ble_eq_true rfl, Nat.le_of_ble_eq_true rfl⟩ dX8_compared_166 (fun r152 f150 H locs h151 hz hS => ?_)
                  have k153 := h151
                  exact z_iret C hr rfl hz hS (by
                        intro b e hb 
                        have hb0 : fL2 b = some e := k4 b e hb 
                        have hb1 : f150 b = some e := k153 b e hb0 
                        exact hb1) (Nat.le_of_ble_eq_true rfl) (Nat.le_of_ble_eq_true rfl) dX8_compared_169
              · refine lv_aload_n hx hb dX8_compared_131 rfl (lv_at hl 0 rfl) ?_
                refine z_get (v := .ref wki) C hz a18 zl8 mFX8_20 (by decide) rfl dX8_compared_132 ?_
                refine lv_iload_n hx hb dX8_compared_135 rfl (lv_at hl 1 rfl) ?_
                refine z_iald j C hz a19 haj (by omega) (by omega) dX8_compared_136 ?_
                refine lv_i2l (v := (gk j).toInt64) hx hb dX8_compared_137 rfl ?_
                refine lv_aload_n hx hb dX8_compared_138 rfl (lv_at hl 0 rfl) ?_
                refine z_get (v := .ref wki) C hz a18 zl8 mFX8_20 (by decide) rfl dX8_compared_139 ?_
                refine lv_iload hx hb dX8_compared_142 (lv_at hl 2 rfl) ?_
                refine z_iald j2 C hz a19 hbj (by omega) (by omega) dX8_compared_144 ?_
                refine lv_i2l (v := (gk j2).toInt64) hx hb dX8_compared_145 rfl ?_
                refine z_callSi (As := [.long ((gk j).toInt64), .long ((gk j2).toInt64)]) C hz hS hA hl (k_X8_by l D cy fL2 ((gk j).toInt64) ((gk j2).toInt64)  ) zyX8_by mMX8_166 rfl rfl (Nat.le_of_ble_eq_true rfl) ⟨Nat.le_of_ble_eq_true rfl, Nat.le_of_ble_eq_true rfl⟩ ⟨Nat.le_of_ble_eq_true rfl, Nat.le_of_ble_eq_true rfl⟩ dX8_compared_146 (fun r156 f154 H locs h155 hz hS => ?_)
                have k157 := h155
                exact z_iret C hr rfl hz hS (by
                      intro b e hb 
                      have hb0 : fL2 b = some e := k4 b e hb 
                      have hb1 : f154 b = some e := k157 b e hb0 
                      exact hb1) (Nat.le_of_ble_eq_true rfl) (Nat.le_of_ble_eq_true rfl) dX8_compared_149
            · obtain ⟨hla, hja0, hja1⟩ := (hMP j (by omega)).2.2.1 c20
              obtain ⟨hlb, hjb0, hjb1⟩ := (hMP j2 (by omega)).2.2.1 c89
              refine lv_aload_n hx hb dX8_compared_37 rfl (lv_at hl 0 rfl) ?_
              refine lv_aload_n hx hb dX8_compared_38 rfl (lv_at hl 0 rfl) ?_
              refine lv_iload_n hx hb dX8_compared_39 rfl (lv_at hl 1 rfl) ?_
              refine lv_topi (fun y158 e159 => ?_)
              obtain rfl : y158 = nI j := e159.trans haj
              refine lv_iconst (v := 0) hx hb dX8_compared_40 (by decide) ?_
              have a160 : fL2 wce = some (.inl (cy 1, 960, .inr (.inl gc))) := k4 _ _ p3 
              refine z_callVl (As := [.int (nI j), .int 0]) C hz hS hA hl (k_X8_cellOf l D cy fL2 o wev wnb wki wmy wce wiw wli wha wwt wfy wfk wem wna wpl whs wk1 wk2 wk3 u1 u2 u3 nl nn nf nc lk ks gc j 0 a18 a160 (by omega)) zyX8_cellOf mMX8_90 a18 zl8 rfl rfl (Nat.le_of_ble_eq_true rfl) ⟨Nat.le_of_ble_eq_true rfl, Nat.le_of_ble_eq_true rfl⟩ ⟨Nat.le_of_ble_eq_true rfl, Nat.le_of_ble_eq_true rfl⟩ dX8_compared_41 (fun r f161 H locs h162 hz hS => ?_)
              obtain ⟨rfl, k163⟩ := h162
              have a164 : f161 o = some (.inr (8, [.int u1, .int u2, .int u3, .ref wev, .int (nI nl), .ref wnb, .int (nI nn), .ref wki, .ref wmy, .ref wce, .ref wiw, .ref wli, .ref wha, .ref wwt, .int (nI nf), .ref wfy, .ref wfk, .int (nI nc), .ref wem, .ref wna, .ref wpl, .ref whs, .long lk, .int (nI ks), .ref wk1, .ref wk2, .ref wk3])) := k163 _ _ a18 
              have a165 : fL2 wli = some (.inl (cy 0, 60, .inl gl)) := k4 _ _ p4 
              have a166 : f161 wli = some (.inl (cy 0, 60, .inl gl)) := k163 _ _ a165 
              refine z_callVi (As := [.long (gc (16 * j + 0))]) C hz hS hA hl (k_X8_likeOf l D cy f161 o wev wnb wki wmy wce wiw wli wha wwt wfy wfk wem wna wpl whs wk1 wk2 wk3 u1 u2 u3 nl nn nf nc lk ks gl (gc (16 * j + 0)) a164 a166 (z_ref (i := j) (k := 0) hMP (by omega) (by omega) c20 (by omega))) zyX8_likeOf mMX8_94 a164 zl8 rfl rfl (Nat.le_of_ble_eq_true rfl) ⟨Nat.le_of_ble_eq_true rfl, Nat.le_of_ble_eq_true rfl⟩ ⟨Nat.le_of_ble_eq_true rfl, Nat.le_of_ble_eq_true rfl⟩ dX8_compared_44 (fun r169 f167 H locs h168 hz hS => ?_)
              have k170 := h168
              refine lv_aload_n hx hb dX8_compared_47 rfl (lv_at hl 0 rfl) ?_
              refine lv_aload_n hx hb dX8_compared_48 rfl (lv_at hl 0 rfl) ?_
              refine lv_iload hx hb dX8_compared_49 (lv_at hl 2 rfl) ?_
              refine lv_topi (fun y171 e172 => ?_)
              obtain rfl : y171 = nI j2 := e172.trans hbj
              refine lv_iconst (v := 0) hx hb dX8_compared_51 (by decide) ?_
              have a173 : f167 o = some (.inr (8, [.int u1, .int u2, .int u3, .ref wev, .int (nI nl), .ref wnb, .int (nI nn), .ref wki, .ref wmy, .ref wce, .ref wiw, .ref wli, .ref wha, .ref wwt, .int (nI nf), .ref wfy, .ref wfk, .int (nI nc), .ref wem, .ref wna, .ref wpl, .ref whs, .long lk, .int (nI ks), .ref wk1, .ref wk2, .ref wk3])) := k170 _ _ a164 
              have a174 : f161 wce = some (.inl (cy 1, 960, .inr (.inl gc))) := k163 _ _ a160 
              have a175 : f167 wce = some (.inl (cy 1, 960, .inr (.inl gc))) := k170 _ _ a174 
              refine z_callVl (As := [.int (nI j2), .int 0]) C hz hS hA hl (k_X8_cellOf l D cy f167 o wev wnb wki wmy wce wiw wli wha wwt wfy wfk wem wna wpl whs wk1 wk2 wk3 u1 u2 u3 nl nn nf nc lk ks gc j2 0 a173 a175 (by omega)) zyX8_cellOf mMX8_90 a173 zl8 rfl rfl (Nat.le_of_ble_eq_true rfl) ⟨Nat.le_of_ble_eq_true rfl, Nat.le_of_ble_eq_true rfl⟩ ⟨Nat.le_of_ble_eq_true rfl, Nat.le_of_ble_eq_true rfl⟩ dX8_compared_52 (fun r f176 H locs h177 hz hS => ?_)
              obtain ⟨rfl, k178⟩ := h177
              have a179 : f176 o = some (.inr (8, [.int u1, .int u2, .int u3, .ref wev, .int (nI nl), .ref wnb, .int (nI nn), .ref wki, .ref wmy, .ref wce, .ref wiw, .ref wli, .ref wha, .ref wwt, .int (nI nf), .ref wfy, .ref wfk, .int (nI nc), .ref wem, .ref wna, .ref wpl, .ref whs, .long lk, .int (nI ks), .ref wk1, .ref wk2, .ref wk3])) := k178 _ _ a173 
              have a180 : f167 wli = some (.inl (cy 0, 60, .inl gl)) := k170 _ _ a166 
              have a181 : f176 wli = some (.inl (cy 0, 60, .inl gl)) := k178 _ _ a180 
              refine z_callVi (As := [.long (gc (16 * j2 + 0))]) C hz hS hA hl (k_X8_likeOf l D cy f176 o wev wnb wki wmy wce wiw wli wha wwt wfy wfk wem wna wpl whs wk1 wk2 wk3 u1 u2 u3 nl nn nf nc lk ks gl (gc (16 * j2 + 0)) a179 a181 (z_ref (i := j2) (k := 0) hMP (by omega) (by omega) c89 (by omega))) zyX8_likeOf mMX8_94 a179 zl8 rfl rfl (Nat.le_of_ble_eq_true rfl) ⟨Nat.le_of_ble_eq_true rfl, Nat.le_of_ble_eq_true rfl⟩ ⟨Nat.le_of_ble_eq_true rfl, Nat.le_of_ble_eq_true rfl⟩ dX8_compared_55 (fun r184 f182 H locs h183 hz hS => ?_)
              have k185 := h183
              refine lv_icmp_ne (tgt := 65) hx hb dX8_compared_58 (by decide) (fun c186 => ?_) (fun c186 => ?_)
              · refine lv_iconst (v := 0) hx hb dX8_compared_65 (by decide) ?_
                refine lv_istore (lv' := [(5, .int 0), (0, .ref o), (3, .int av), (4, .int bv)]) hx hb dX8_compared_66 hl (by decide) rfl (fun ls hl => ?_)
                refine lv_aload_n hx hb dX8_compared_68 rfl (lv_at hl 1 rfl) ?_
                refine lv_iload_n hx hb dX8_compared_69 rfl (lv_at hl 2 rfl) ?_
                refine lv_topi (fun y187 e188 => ?_)
                obtain rfl : y187 = nI j := e188.trans haj
                refine lv_iload hx hb dX8_compared_70 (lv_at hl 0 rfl) ?_
                have a189 : f182 o = some (.inr (8, [.int u1, .int u2, .int u3, .ref wev, .int (nI nl), .ref wnb, .int (nI nn), .ref wki, .ref wmy, .ref wce, .ref wiw, .ref wli, .ref wha, .ref wwt, .int (nI nf), .ref wfy, .ref wfk, .int (nI nc), .ref wem, .ref wna, .ref wpl, .ref whs, .long lk, .int (nI ks), .ref wk1, .ref wk2, .ref wk3])) := k185 _ _ a179 
                have a190 : f176 wce = some (.inl (cy 1, 960, .inr (.inl gc))) := k178 _ _ a175 
                have a191 : f182 wce = some (.inl (cy 1, 960, .inr (.inl gc))) := k185 _ _ a190 
                refine z_callVl (As := [.int (nI j), .int 0]) C hz hS hA hl (k_X8_cellOf l D cy f182 o wev wnb wki wmy wce wiw wli wha wwt wfy wfk wem wna wpl whs wk1 wk2 wk3 u1 u2 u3 nl nn nf nc lk ks gc j 0 a189 a191 (by omega)) zyX8_cellOf mMX8_90 a189 zl8 rfl rfl (Nat.le_of_ble_eq_true rfl) ⟨Nat.le_of_ble_eq_true rfl, Nat.le_of_ble_eq_true rfl⟩ ⟨Nat.le_of_ble_eq_true rfl, Nat.le_of_ble_eq_true rfl⟩ dX8_compared_72 (fun r f192 H locs h193 hz hS => ?_)
                obtain ⟨rfl, k194⟩ := h193
                refine lv_l2i (v := (gc (16 * j + 0)).toInt32) hx hb dX8_compared_75 rfl ?_
                refine lv_istore (lv' := [(6, .int ((gc (16 * j + 0)).toInt32)), (5, .int 0), (0, .ref o), (3, .int av), (4, .int bv)]) hx hb dX8_compared_76 hl (by decide) rfl (fun ls hl => ?_)
                refine lv_aload_n hx hb dX8_compared_78 rfl (lv_at hl 2 rfl) ?_
                refine lv_iload hx hb dX8_compared_79 (lv_at hl 4 rfl) ?_
                refine lv_topi (fun y195 e196 => ?_)
                obtain rfl : y195 = nI j2 := e196.trans hbj
                refine lv_iload hx hb dX8_compared_81 (lv_at hl 1 rfl) ?_
                have a197 : f192 o = some (.inr (8, [.int u1, .int u2, .int u3, .ref wev, .int (nI nl), .ref wnb, .int (nI nn), .ref wki, .ref wmy, .ref wce, .ref wiw, .ref wli, .ref wha, .ref wwt, .int (nI nf), .ref wfy, .ref wfk, .int (nI nc), .ref wem, .ref wna, .ref wpl, .ref whs, .long lk, .int (nI ks), .ref wk1, .ref wk2, .ref wk3])) := k194 _ _ a189 
                have a198 : f192 wce = some (.inl (cy 1, 960, .inr (.inl gc))) := k194 _ _ a191 
                refine z_callVl (As := [.int (nI j2), .int 0]) C hz hS hA hl (k_X8_cellOf l D cy f192 o wev wnb wki wmy wce wiw wli wha wwt wfy wfk wem wna wpl whs wk1 wk2 wk3 u1 u2 u3 nl nn nf nc lk ks gc j2 0 a197 a198 (by omega)) zyX8_cellOf mMX8_90 a197 zl8 rfl rfl (Nat.le_of_ble_eq_true rfl) ⟨Nat.le_of_ble_eq_true rfl, Nat.le_of_ble_eq_true rfl⟩ ⟨Nat.le_of_ble_eq_true rfl, Nat.le_of_ble_eq_true rfl⟩ dX8_compared_83 (fun r f199 H locs h200 hz hS => ?_)
                obtain ⟨rfl, k201⟩ := h200
                refine lv_l2i (v := (gc (16 * j2 + 0)).toInt32) hx hb dX8_compared_86 rfl ?_
                refine lv_istore (lv' := [(4, .int ((gc (16 * j2 + 0)).toInt32)), (6, .int ((gc (16 * j + 0)).toInt32)), (5, .int 0), (0, .ref o), (3, .int av)]) hx hb dX8_compared_87 hl (by decide) rfl (fun ls hl => ?_)
                refine lv_iload hx hb dX8_compared_89 (lv_at hl 1 rfl) ?_
                refine lv_istore_n (lv' := [(3, .int ((gc (16 * j + 0)).toInt32)), (4, .int ((gc (16 * j2 + 0)).toInt32)), (6, .int ((gc (16 * j + 0)).toInt32)), (5, .int 0), (0, .ref o)]) hx hb dX8_compared_91 rfl hl (by decide) rfl (fun ls hl => ?_)
                refine lv_goto (tgt := 5) hx hb dX8_compared_92 (by decide) ?_
                exact ih_3 j ((gc (16 * j + 0)).toInt32) ((gc (16 * j2 + 0)).toInt32) _ _ _ _ (by omega) (by omega) (z_par0 hja0 (Nat.le_refl _)) (z_par0 hjb0 (by omega))  (by
                      intro b e hb 
                      have hb0 : fL2 b = some e := k4 b e hb 
                      have hb1 : f161 b = some e := k163 b e hb0 
                      have hb2 : f167 b = some e := k170 b e hb1 
                      have hb3 : f176 b = some e := k178 b e hb2 
                      have hb4 : f182 b = some e := k185 b e hb3 
                      have hb5 : f192 b = some e := k194 b e hb4 
                      have hb6 : f199 b = some e := k201 b e hb5 
                      exact hb6) hz hS (lv_sub hl [4, 0, 1] rfl)
              · refine lv_iconst (v := 1) hx hb dX8_compared_61 (by decide) ?_
                refine lv_goto (tgt := 66) hx hb dX8_compared_62 (by decide) ?_
                refine lv_istore (lv' := [(5, .int 1), (0, .ref o), (3, .int av), (4, .int bv)]) hx hb dX8_compared_66 hl (by decide) rfl (fun ls hl => ?_)
                refine lv_aload_n hx hb dX8_compared_68 rfl (lv_at hl 1 rfl) ?_
                refine lv_iload_n hx hb dX8_compared_69 rfl (lv_at hl 2 rfl) ?_
                refine lv_topi (fun y202 e203 => ?_)
                obtain rfl : y202 = nI j := e203.trans haj
                refine lv_iload hx hb dX8_compared_70 (lv_at hl 0 rfl) ?_
                have a204 : f182 o = some (.inr (8, [.int u1, .int u2, .int u3, .ref wev, .int (nI nl), .ref wnb, .int (nI nn), .ref wki, .ref wmy, .ref wce, .ref wiw, .ref wli, .ref wha, .ref wwt, .int (nI nf), .ref wfy, .ref wfk, .int (nI nc), .ref wem, .ref wna, .ref wpl, .ref whs, .long lk, .int (nI ks), .ref wk1, .ref wk2, .ref wk3])) := k185 _ _ a179 
                have a205 : f176 wce = some (.inl (cy 1, 960, .inr (.inl gc))) := k178 _ _ a175 
                have a206 : f182 wce = some (.inl (cy 1, 960, .inr (.inl gc))) := k185 _ _ a205 
                refine z_callVl (As := [.int (nI j), .int 1]) C hz hS hA hl (k_X8_cellOf l D cy f182 o wev wnb wki wmy wce wiw wli wha wwt wfy wfk wem wna wpl whs wk1 wk2 wk3 u1 u2 u3 nl nn nf nc lk ks gc j 1 a204 a206 (by omega)) zyX8_cellOf mMX8_90 a204 zl8 rfl rfl (Nat.le_of_ble_eq_true rfl) ⟨Nat.le_of_ble_eq_true rfl, Nat.le_of_ble_eq_true rfl⟩ ⟨Nat.le_of_ble_eq_true rfl, Nat.le_of_ble_eq_true rfl⟩ dX8_compared_72 (fun r f207 H locs h208 hz hS => ?_)
                obtain ⟨rfl, k209⟩ := h208
                refine lv_l2i (v := (gc (16 * j + 1)).toInt32) hx hb dX8_compared_75 rfl ?_
                refine lv_istore (lv' := [(6, .int ((gc (16 * j + 1)).toInt32)), (5, .int 1), (0, .ref o), (3, .int av), (4, .int bv)]) hx hb dX8_compared_76 hl (by decide) rfl (fun ls hl => ?_)
                refine lv_aload_n hx hb dX8_compared_78 rfl (lv_at hl 2 rfl) ?_
                refine lv_iload hx hb dX8_compared_79 (lv_at hl 4 rfl) ?_
                refine lv_topi (fun y210 e211 => ?_)
                obtain rfl : y210 = nI j2 := e211.trans hbj
                refine lv_iload hx hb dX8_compared_81 (lv_at hl 1 rfl) ?_
                have a212 : f207 o = some (.inr (8, [.int u1, .int u2, .int u3, .ref wev, .int (nI nl), .ref wnb, .int (nI nn), .ref wki, .ref wmy, .ref wce, .ref wiw, .ref wli, .ref wha, .ref wwt, .int (nI nf), .ref wfy, .ref wfk, .int (nI nc), .ref wem, .ref wna, .ref wpl, .ref whs, .long lk, .int (nI ks), .ref wk1, .ref wk2, .ref wk3])) := k209 _ _ a204 
                have a213 : f207 wce = some (.inl (cy 1, 960, .inr (.inl gc))) := k209 _ _ a206 
                refine z_callVl (As := [.int (nI j2), .int 1]) C hz hS hA hl (k_X8_cellOf l D cy f207 o wev wnb wki wmy wce wiw wli wha wwt wfy wfk wem wna wpl whs wk1 wk2 wk3 u1 u2 u3 nl nn nf nc lk ks gc j2 1 a212 a213 (by omega)) zyX8_cellOf mMX8_90 a212 zl8 rfl rfl (Nat.le_of_ble_eq_true rfl) ⟨Nat.le_of_ble_eq_true rfl, Nat.le_of_ble_eq_true rfl⟩ ⟨Nat.le_of_ble_eq_true rfl, Nat.le_of_ble_eq_true rfl⟩ dX8_compared_83 (fun r f214 H locs h215 hz hS => ?_)
                obtain ⟨rfl, k216⟩ := h215
                refine lv_l2i (v := (gc (16 * j2 + 1)).toInt32) hx hb dX8_compared_86 rfl ?_
                refine lv_istore (lv' := [(4, .int ((gc (16 * j2 + 1)).toInt32)), (6, .int ((gc (16 * j + 1)).toInt32)), (5, .int 1), (0, .ref o), (3, .int av)]) hx hb dX8_compared_87 hl (by decide) rfl (fun ls hl => ?_)
                refine lv_iload hx hb dX8_compared_89 (lv_at hl 1 rfl) ?_
                refine lv_istore_n (lv' := [(3, .int ((gc (16 * j + 1)).toInt32)), (4, .int ((gc (16 * j2 + 1)).toInt32)), (6, .int ((gc (16 * j + 1)).toInt32)), (5, .int 1), (0, .ref o)]) hx hb dX8_compared_91 rfl hl (by decide) rfl (fun ls hl => ?_)
                refine lv_goto (tgt := 5) hx hb dX8_compared_92 (by decide) ?_
                exact ih_3 j ((gc (16 * j + 1)).toInt32) ((gc (16 * j2 + 1)).toInt32) _ _ _ _ (by omega) (by omega) (z_par1 hja1 (Nat.le_refl _)) (z_par1 hjb1 (by omega))  (by
                      intro b e hb 
                      have hb0 : fL2 b = some e := k4 b e hb 
                      have hb1 : f161 b = some e := k163 b e hb0 
                      have hb2 : f167 b = some e := k170 b e hb1 
                      have hb3 : f176 b = some e := k178 b e hb2 
                      have hb4 : f182 b = some e := k185 b e hb3 
                      have hb5 : f207 b = some e := k209 b e hb4 
                      have hb6 : f214 b = some e := k216 b e hb5 
                      exact hb6) hz hS (lv_sub hl [4, 0, 1] rfl)
  exact lp1 ((ja + 1) + 1) (ja + 1) (nI ja) (nI jb) _ _ _ _ (Nat.lt_succ_self _) (by omega) (Or.inr ⟨ja, by omega, rfl⟩) (Or.inr ⟨jb, by omega, rfl⟩)  (fun b e hb => hb) hz hS (lv_sub hl [2, 1, 0] rfl)
abbrev rmX8_ordered : Room := { frames := 3, cells := 0, slots := 0, locals := 77 }
set_option maxHeartbeats 4000000 in
set_option maxRecDepth 100000 in
theorem k_X8_ordered (l : Launch) (D : va_G) (cy : Nat → ClassId) (f : zM) (o : Nat) (wev : Nat) (wnb : Nat) (wki : Nat) (wmy : Nat) (wce : Nat) (wiw : Nat) (wli : Nat) (wha : Nat) (wwt : Nat) (wfy : Nat) (wfk : Nat) (wem : Nat) (wna : Nat) (wpl : Nat) (whs : Nat) (wk1 : Nat) (wk2 : Nat) (wk3 : Nat) (u1 : Int32) (u2 : Int32) (u3 : Int32) (nl : Nat) (nn : Nat) (nf : Nat) (nc : Nat) (lk : Int64) (ks : Nat) (gk : Nat → Int32) (gm : Nat → Int32) (gc : Nat → Int64) (gl : Nat → Int32) (ln : Nat → Nat) (ja : Nat) (jb : Nat) (p0 : f o = some (.inr (8, [.int u1, .int u2, .int u3, .ref wev, .int (nI nl), .ref wnb, .int (nI nn), .ref wki, .ref wmy, .ref wce, .ref wiw, .ref wli, .ref wha, .ref wwt, .int (nI nf), .ref wfy, .ref wfk, .int (nI nc), .ref wem, .ref wna, .ref wpl, .ref whs, .long lk, .int (nI ks), .ref wk1, .ref wk2, .ref wk3]))) (p1 : f wki = some (.inl (cy 0, 60, .inl gk))) (p2 : f wmy = some (.inl (cy 0, 60, .inl gm))) (p3 : f wce = some (.inl (cy 1, 960, .inr (.inl gc)))) (p4 : f wli = some (.inl (cy 0, 60, .inl gl)))  (hn60 : nn ≤ 60) (hMP : zMP nn gk gm gc ln) (hja : ja < nn) (hjb : jb < nn) : zCi l D cy yX8_ordered cX8_ordered 3 (Option.some Jvm.ClassFile.FieldType.int) rmX8_ordered [.ref o, .int (nI ja), .int (nI jb)] f (fun (r : Int32) (f1 : zM) => (∀ (b : Nat) (e : va_E), f b = some e → f1 b = some e)) := by
  intro sz
  refine z_body (by decide +kernel) (Nat.le_of_ble_eq_true rfl) ?_
  intro p e s m below meth c ls C hr hin hsz hz hl
  subst hsz
  have hx := C.1
  have hb := C.2.1
  have hA : ∀ q, s.heap.size ≤ q → zA f s.heap.size q := fun q h => Or.inr h
  have hS : va_S (zA f s.heap.size) s.heap s.heap [] := va_S.rf
  have hl : lv_has ls 3 [(0, .ref o), (1, .int (nI ja)), (2, .int (nI jb))] := hl
  refine lv_aload_n hx hb dX8_ordered_0 rfl (lv_at hl 0 rfl) ?_
  refine z_get (v := .ref wli) C hz p0 zl8 mFX8_34 (by decide) rfl dX8_ordered_1 ?_
  refine lv_iload_n hx hb dX8_ordered_4 rfl (lv_at hl 1 rfl) ?_
  refine z_iald ja C hz p4 rfl (by omega) (by omega) dX8_ordered_5 ?_
  refine lv_aload_n hx hb dX8_ordered_6 rfl (lv_at hl 0 rfl) ?_
  refine z_get (v := .ref wli) C hz p0 zl8 mFX8_34 (by decide) rfl dX8_ordered_7 ?_
  refine lv_iload_n hx hb dX8_ordered_10 rfl (lv_at hl 2 rfl) ?_
  refine z_iald jb C hz p4 rfl (by omega) (by omega) dX8_ordered_11 ?_
  refine lv_icmp_ne (tgt := 19) hx hb dX8_ordered_12 (by decide) (fun c1 => ?_) (fun c1 => ?_)
  · refine lv_aload_n hx hb dX8_ordered_19 rfl (lv_at hl 0 rfl) ?_
    refine lv_iload_n hx hb dX8_ordered_20 rfl (lv_at hl 1 rfl) ?_
    refine lv_iload_n hx hb dX8_ordered_21 rfl (lv_at hl 2 rfl) ?_
    refine z_callVi (As := [.int (nI ja), .int (nI jb)]) C hz hS hA hl (k_X8_compared l D cy f o wev wnb wki wmy wce wiw wli wha wwt wfy wfk wem wna wpl whs wk1 wk2 wk3 u1 u2 u3 nl nn nf nc lk ks gk gm gc gl ln ja jb p0 p1 p2 p3 p4 hn60 hMP hja hjb) zyX8_compared mMX8_177 p0 zl8 rfl rfl (Nat.le_of_ble_eq_true rfl) ⟨Nat.le_of_ble_eq_true rfl, Nat.le_of_ble_eq_true rfl⟩ ⟨Nat.le_of_ble_eq_true rfl, Nat.le_of_ble_eq_true rfl⟩ dX8_ordered_22 (fun r4 f2 H locs h3 hz hS => ?_)
    have k5 := h3
    exact z_iret C hr rfl hz hS (by
          intro b e hb 
          have hb0 : f2 b = some e := k5 b e hb 
          exact hb0) (Nat.le_of_ble_eq_true rfl) (Nat.le_of_ble_eq_true rfl) dX8_ordered_25
  · refine lv_iconst (v := 0) hx hb dX8_ordered_15 (by decide) ?_
    refine lv_goto (tgt := 25) hx hb dX8_ordered_16 (by decide) ?_
    exact z_iret C hr rfl hz hS (fun b e hb => hb) (Nat.le_of_ble_eq_true rfl) (Nat.le_of_ble_eq_true rfl) dX8_ordered_25
abbrev rmX8_order : Room := { frames := 4, cells := 0, slots := 0, locals := 99 }
set_option maxHeartbeats 4000000 in
set_option maxRecDepth 100000 in
theorem k_X8_order (l : Launch) (D : va_G) (cy : Nat → ClassId) (f : zM) (o : Nat) (wev : Nat) (wnb : Nat) (wki : Nat) (wmy : Nat) (wce : Nat) (wiw : Nat) (wli : Nat) (wha : Nat) (wwt : Nat) (wfy : Nat) (wfk : Nat) (wem : Nat) (wna : Nat) (wpl : Nat) (whs : Nat) (wk1 : Nat) (wk2 : Nat) (wk3 : Nat) (u1 : Int32) (u2 : Int32) (u3 : Int32) (nl : Nat) (nn : Nat) (nf : Nat) (nc : Nat) (lk : Int64) (ks : Nat) (gv : Nat → Int32) (gu : Nat → Int32) (gk : Nat → Int32) (gm : Nat → Int32) (gc : Nat → Int64) (gw : Nat → Int32) (gl : Nat → Int32) (gh : Nat → Int32) (gt : Nat → Int64) (gy : Nat → Int32) (gq : Nat → Int32) (ge1 : Nat → Int32) (gn1 : Nat → Int32) (gp1 : Nat → Int32) (gs : Nat → Int32) (gx1 : Nat → Int32) (gx2 : Nat → Int32) (gx3 : Nat → Int32) (ln : Nat → Nat) (fz : Nat → Nat) (sq : Nat → Nat) (x : Int32) (y : Int32)    (hI : zIM cy f o wev wnb wki wmy wce wiw wli wha wwt wfy wfk wem wna wpl whs wk1 wk2 wk3 u1 u2 u3 nl nn nf nc lk ks gv gu gk gm gc gw gl gh gt gy gq ge1 gn1 gp1 gs gx1 gx2 gx3 ln fz sq) : zCi l D cy yX8_order cX8_order 3 (Option.some Jvm.ClassFile.FieldType.int) rmX8_order [.ref o, .int x, .int y] f (fun (r : Int32) (f1 : zM) => ∃ (u11 : Int32) (u21 : Int32) (u31 : Int32) (nl1 : Nat) (nn1 : Nat) (nf1 : Nat) (nc1 : Nat) (lk1 : Int64) (ks1 : Nat) (gv1 : Nat → Int32) (gu1 : Nat → Int32) (gk1 : Nat → Int32) (gm1 : Nat → Int32) (gc1 : Nat → Int64) (gw1 : Nat → Int32) (gl1 : Nat → Int32) (gh1 : Nat → Int32) (gt1 : Nat → Int64) (gy1 : Nat → Int32) (gq1 : Nat → Int32) (ge11 : Nat → Int32) (gn11 : Nat → Int32) (gp11 : Nat → Int32) (gs1 : Nat → Int32) (gx11 : Nat → Int32) (gx21 : Nat → Int32) (gx31 : Nat → Int32) (ln1 : Nat → Nat) (fz1 : Nat → Nat) (sq1 : Nat → Nat), (u11 = u1) ∧ (u21 = u2) ∧ (u31 = u3) ∧ (gv1 = gv) ∧ (nl1 = nl) ∧ (gu1 = gu) ∧ (nn1 = nn) ∧ (gk1 = gk) ∧ (ln1 = ln) ∧ (gw1 = gw) ∧ (gh1 = gh) ∧ (gc1 = gc) ∧ (nf1 = nf) ∧ (fz1 = fz) ∧ (gq1 = gq) ∧ (nc1 = nc) ∧ (ge11 = ge1) ∧ (gn11 = gn1) ∧ (gp11 = gp1) ∧ (sq1 = sq) ∧ (ks1 = ks) ∧ (gx11 = gx1) ∧ (gx21 = gx2) ∧ (gx31 = gx3) ∧ (lk1 = lk) ∧ zIM cy f1 o wev wnb wki wmy wce wiw wli wha wwt wfy wfk wem wna wpl whs wk1 wk2 wk3 u11 u21 u31 nl1 nn1 nf1 nc1 lk1 ks1 gv1 gu1 gk1 gm1 gc1 gw1 gl1 gh1 gt1 gy1 gq1 ge11 gn11 gp11 gs1 gx11 gx21 gx31 ln1 fz1 sq1) := by
  intro sz
  refine z_body (by decide +kernel) (Nat.le_of_ble_eq_true rfl) ?_
  intro p e s m below meth c ls C hr hin hsz hz hl
  subst hsz
  have hx := C.1
  have hb := C.2.1
  have hA : ∀ q, s.heap.size ≤ q → zA f s.heap.size q := fun q h => Or.inr h
  have hS : va_S (zA f s.heap.size) s.heap s.heap [] := va_S.rf
  have hl : lv_has ls 3 [(0, .ref o), (1, .int x), (2, .int y)] := hl
  obtain ⟨x_o, x_wev, x_wnb, x_wki, x_wmy, x_wce, x_wiw, x_wli, x_wha, x_wwt, x_wfy, x_wfk, x_wem, x_wna, x_wpl, x_whs, x_wk1, x_wk2, x_wk3, hn60, hl12, hf6, hc60, hs40, hMP, hgy, hfz, hgs, hME, hlk, hgw, hfd, n_wki_wmy, n_wki_wiw, n_wki_wli, n_wki_wha, n_wki_wem, n_wki_wna, n_wki_wpl, n_wmy_wiw, n_wmy_wli, n_wmy_wha, n_wmy_wem, n_wmy_wna, n_wmy_wpl, n_wiw_wli, n_wiw_wha, n_wiw_wem, n_wiw_wna, n_wiw_wpl, n_wli_wha, n_wli_wem, n_wli_wna, n_wli_wpl, n_wha_wem, n_wha_wna, n_wha_wpl, n_wem_wna, n_wem_wpl, n_wna_wpl, n_wk1_wk2, n_wk1_wk3, n_wk2_wk3⟩ := id hI
  refine lv_aload_n hx hb dX8_order_0 rfl (lv_at hl 0 rfl) ?_
  refine lv_iload_n hx hb dX8_order_1 rfl (lv_at hl 1 rfl) ?_
  rcases z_findi x nn with ⟨ja, hja, hva⟩ | hva
  · have hFa : isF nn x = true := isF_t hn60 hja hva
    have hIa : fI x = ja := fI_of (by omega) hva
    have hNa : ¬ x = (-1) := by rw [hva]; exact z_nim1 (by omega)
    refine z_callVi (As := [.int x]) C hz hS hA hl (k_X8_isFigure_A l D cy f o wev wnb wki wmy wce wiw wli wha wwt wfy wfk wem wna wpl whs wk1 wk2 wk3 u1 u2 u3 nl nn nf nc lk ks x ja x_o hn60 hva hja) zyX8_isFigure mMX8_139 x_o zl8 rfl rfl (Nat.le_of_ble_eq_true rfl) ⟨Nat.le_of_ble_eq_true rfl, Nat.le_of_ble_eq_true rfl⟩ ⟨Nat.le_of_ble_eq_true rfl, Nat.le_of_ble_eq_true rfl⟩ dX8_order_2 (fun r f1 H locs h2 hz hS => ?_)
    obtain ⟨rfl, k3⟩ := h2
    refine lv_if_eq (tgt := 25) hx hb dX8_order_5 (by decide) (fun c4 => ?_) (fun c4 => ?_)
    · exact absurd c4 (by decide)
    refine lv_aload_n hx hb dX8_order_8 rfl (lv_at hl 0 rfl) ?_
    refine lv_iload_n hx hb dX8_order_9 rfl (lv_at hl 2 rfl) ?_
    rcases z_findi y nn with ⟨jb, hjb, hvb⟩ | hvb
    · have hFb : isF nn y = true := isF_t hn60 hjb hvb
      have hIb : fI y = jb := fI_of (by omega) hvb
      have hNb : ¬ y = (-1) := by rw [hvb]; exact z_nim1 (by omega)
      have a5 : f1 o = some (.inr (8, [.int u1, .int u2, .int u3, .ref wev, .int (nI nl), .ref wnb, .int (nI nn), .ref wki, .ref wmy, .ref wce, .ref wiw, .ref wli, .ref wha, .ref wwt, .int (nI nf), .ref wfy, .ref wfk, .int (nI nc), .ref wem, .ref wna, .ref wpl, .ref whs, .long lk, .int (nI ks), .ref wk1, .ref wk2, .ref wk3])) := k3 _ _ x_o 
      refine z_callVi (As := [.int y]) C hz hS hA hl (k_X8_isFigure_A l D cy f1 o wev wnb wki wmy wce wiw wli wha wwt wfy wfk wem wna wpl whs wk1 wk2 wk3 u1 u2 u3 nl nn nf nc lk ks y jb a5 hn60 hvb hjb) zyX8_isFigure mMX8_139 a5 zl8 rfl rfl (Nat.le_of_ble_eq_true rfl) ⟨Nat.le_of_ble_eq_true rfl, Nat.le_of_ble_eq_true rfl⟩ ⟨Nat.le_of_ble_eq_true rfl, Nat.le_of_ble_eq_true rfl⟩ dX8_order_10 (fun r f6 H locs h7 hz hS => ?_)
      obtain ⟨rfl, k8⟩ := h7
      refine lv_if_eq (tgt := 25) hx hb dX8_order_13 (by decide) (fun c9 => ?_) (fun c9 => ?_)
      · exact absurd c9 (by decide)
      refine lv_aload_n hx hb dX8_order_16 rfl (lv_at hl 0 rfl) ?_
      refine lv_iload_n hx hb dX8_order_17 rfl (lv_at hl 1 rfl) ?_
      refine lv_topi (fun y10 e11 => ?_)
      obtain rfl : y10 = nI ja := e11.trans hva
      refine lv_iload_n hx hb dX8_order_18 rfl (lv_at hl 2 rfl) ?_
      refine lv_topi (fun y12 e13 => ?_)
      obtain rfl : y12 = nI jb := e13.trans hvb
      have a14 : f6 o = some (.inr (8, [.int u1, .int u2, .int u3, .ref wev, .int (nI nl), .ref wnb, .int (nI nn), .ref wki, .ref wmy, .ref wce, .ref wiw, .ref wli, .ref wha, .ref wwt, .int (nI nf), .ref wfy, .ref wfk, .int (nI nc), .ref wem, .ref wna, .ref wpl, .ref whs, .long lk, .int (nI ks), .ref wk1, .ref wk2, .ref wk3])) := k8 _ _ a5 
      have a15 : f1 wki = some (.inl (cy 0, 60, .inl gk)) := k3 _ _ x_wki 
      have a16 : f6 wki = some (.inl (cy 0, 60, .inl gk)) := k8 _ _ a15 
      have a17 : f1 wmy = some (.inl (cy 0, 60, .inl gm)) := k3 _ _ x_wmy 
      have a18 : f6 wmy = some (.inl (cy 0, 60, .inl gm)) := k8 _ _ a17 
      have a19 : f1 wce = some (.inl (cy 1, 960, .inr (.inl gc))) := k3 _ _ x_wce 
      have a20 : f6 wce = some (.inl (cy 1, 960, .inr (.inl gc))) := k8 _ _ a19 
      have a21 : f1 wli = some (.inl (cy 0, 60, .inl gl)) := k3 _ _ x_wli 
      have a22 : f6 wli = some (.inl (cy 0, 60, .inl gl)) := k8 _ _ a21 
      refine z_callVi (As := [.int (nI ja), .int (nI jb)]) C hz hS hA hl (k_X8_ordered l D cy f6 o wev wnb wki wmy wce wiw wli wha wwt wfy wfk wem wna wpl whs wk1 wk2 wk3 u1 u2 u3 nl nn nf nc lk ks gk gm gc gl ln ja jb a14 a16 a18 a20 a22 hn60 hMP hja hjb) zyX8_ordered mMX8_180 a14 zl8 rfl rfl (Nat.le_of_ble_eq_true rfl) ⟨Nat.le_of_ble_eq_true rfl, Nat.le_of_ble_eq_true rfl⟩ ⟨Nat.le_of_ble_eq_true rfl, Nat.le_of_ble_eq_true rfl⟩ dX8_order_19 (fun r25 f23 H locs h24 hz hS => ?_)
      have k26 := h24
      refine lv_goto (tgt := 27) hx hb dX8_order_22 (by decide) ?_
      have a27 : f23 o = some (.inr (8, [.int u1, .int u2, .int u3, .ref wev, .int (nI nl), .ref wnb, .int (nI nn), .ref wki, .ref wmy, .ref wce, .ref wiw, .ref wli, .ref wha, .ref wwt, .int (nI nf), .ref wfy, .ref wfk, .int (nI nc), .ref wem, .ref wna, .ref wpl, .ref whs, .long lk, .int (nI ks), .ref wk1, .ref wk2, .ref wk3])) := k26 _ _ a14 
      have a28 : f1 wev = some (.inl (cy 0, 8, .inl gv)) := k3 _ _ x_wev 
      have a29 : f6 wev = some (.inl (cy 0, 8, .inl gv)) := k8 _ _ a28 
      have a30 : f23 wev = some (.inl (cy 0, 8, .inl gv)) := k26 _ _ a29 
      have a31 : f1 wnb = some (.inl (cy 0, 12, .inl gu)) := k3 _ _ x_wnb 
      have a32 : f6 wnb = some (.inl (cy 0, 12, .inl gu)) := k8 _ _ a31 
      have a33 : f23 wnb = some (.inl (cy 0, 12, .inl gu)) := k26 _ _ a32 
      have a34 : f23 wki = some (.inl (cy 0, 60, .inl gk)) := k26 _ _ a16 
      have a35 : f23 wmy = some (.inl (cy 0, 60, .inl gm)) := k26 _ _ a18 
      have a36 : f23 wce = some (.inl (cy 1, 960, .inr (.inl gc))) := k26 _ _ a20 
      have a37 : f1 wiw = some (.inl (cy 2, 60, .inl gw)) := k3 _ _ x_wiw 
      have a38 : f6 wiw = some (.inl (cy 2, 60, .inl gw)) := k8 _ _ a37 
      have a39 : f23 wiw = some (.inl (cy 2, 60, .inl gw)) := k26 _ _ a38 
      have a40 : f23 wli = some (.inl (cy 0, 60, .inl gl)) := k26 _ _ a22 
      have a41 : f1 wha = some (.inl (cy 0, 60, .inl gh)) := k3 _ _ x_wha 
      have a42 : f6 wha = some (.inl (cy 0, 60, .inl gh)) := k8 _ _ a41 
      have a43 : f23 wha = some (.inl (cy 0, 60, .inl gh)) := k26 _ _ a42 
      have a44 : f1 wwt = some (.inl (cy 1, 60, .inr (.inl gt))) := k3 _ _ x_wwt 
      have a45 : f6 wwt = some (.inl (cy 1, 60, .inr (.inl gt))) := k8 _ _ a44 
      have a46 : f23 wwt = some (.inl (cy 1, 60, .inr (.inl gt))) := k26 _ _ a45 
      have a47 : f1 wfy = some (.inl (cy 0, 6, .inl gy)) := k3 _ _ x_wfy 
      have a48 : f6 wfy = some (.inl (cy 0, 6, .inl gy)) := k8 _ _ a47 
      have a49 : f23 wfy = some (.inl (cy 0, 6, .inl gy)) := k26 _ _ a48 
      have a50 : f1 wfk = some (.inl (cy 0, 24, .inl gq)) := k3 _ _ x_wfk 
      have a51 : f6 wfk = some (.inl (cy 0, 24, .inl gq)) := k8 _ _ a50 
      have a52 : f23 wfk = some (.inl (cy 0, 24, .inl gq)) := k26 _ _ a51 
      have a53 : f1 wem = some (.inl (cy 0, 60, .inl ge1)) := k3 _ _ x_wem 
      have a54 : f6 wem = some (.inl (cy 0, 60, .inl ge1)) := k8 _ _ a53 
      have a55 : f23 wem = some (.inl (cy 0, 60, .inl ge1)) := k26 _ _ a54 
      have a56 : f1 wna = some (.inl (cy 0, 60, .inl gn1)) := k3 _ _ x_wna 
      have a57 : f6 wna = some (.inl (cy 0, 60, .inl gn1)) := k8 _ _ a56 
      have a58 : f23 wna = some (.inl (cy 0, 60, .inl gn1)) := k26 _ _ a57 
      have a59 : f1 wpl = some (.inl (cy 0, 60, .inl gp1)) := k3 _ _ x_wpl 
      have a60 : f6 wpl = some (.inl (cy 0, 60, .inl gp1)) := k8 _ _ a59 
      have a61 : f23 wpl = some (.inl (cy 0, 60, .inl gp1)) := k26 _ _ a60 
      have a62 : f1 whs = some (.inl (cy 0, 4, .inl gs)) := k3 _ _ x_whs 
      have a63 : f6 whs = some (.inl (cy 0, 4, .inl gs)) := k8 _ _ a62 
      have a64 : f23 whs = some (.inl (cy 0, 4, .inl gs)) := k26 _ _ a63 
      have a65 : f1 wk1 = some (.inl (cy 0, 40, .inl gx1)) := k3 _ _ x_wk1 
      have a66 : f6 wk1 = some (.inl (cy 0, 40, .inl gx1)) := k8 _ _ a65 
      have a67 : f23 wk1 = some (.inl (cy 0, 40, .inl gx1)) := k26 _ _ a66 
      have a68 : f1 wk2 = some (.inl (cy 0, 40, .inl gx2)) := k3 _ _ x_wk2 
      have a69 : f6 wk2 = some (.inl (cy 0, 40, .inl gx2)) := k8 _ _ a68 
      have a70 : f23 wk2 = some (.inl (cy 0, 40, .inl gx2)) := k26 _ _ a69 
      have a71 : f1 wk3 = some (.inl (cy 0, 40, .inl gx3)) := k3 _ _ x_wk3 
      have a72 : f6 wk3 = some (.inl (cy 0, 40, .inl gx3)) := k8 _ _ a71 
      have a73 : f23 wk3 = some (.inl (cy 0, 40, .inl gx3)) := k26 _ _ a72 
      exact z_iret C hr rfl hz hS ⟨u1, u2, u3, nl, nn, nf, nc, lk, ks, gv, gu, gk, gm, gc, gw, gl, gh, gt, gy, gq, ge1, gn1, gp1, gs, gx1, gx2, gx3, ln, fz, sq, rfl, rfl, rfl, rfl, rfl, rfl, rfl, rfl, rfl, rfl, rfl, rfl, rfl, rfl, rfl, rfl, rfl, rfl, rfl, rfl, rfl, rfl, rfl, rfl, rfl, ⟨a27, a30, a33, a34, a35, a36, a39, a40, a43, a46, a49, a52, a55, a58, a61, a64, a67, a70, a73, hn60, hl12, hf6, hc60, hs40, hMP, hgy, hfz, hgs, hME, hlk, hgw, hfd, n_wki_wmy, n_wki_wiw, n_wki_wli, n_wki_wha, n_wki_wem, n_wki_wna, n_wki_wpl, n_wmy_wiw, n_wmy_wli, n_wmy_wha, n_wmy_wem, n_wmy_wna, n_wmy_wpl, n_wiw_wli, n_wiw_wha, n_wiw_wem, n_wiw_wna, n_wiw_wpl, n_wli_wha, n_wli_wem, n_wli_wna, n_wli_wpl, n_wha_wem, n_wha_wna, n_wha_wpl, n_wem_wna, n_wem_wpl, n_wna_wpl, n_wk1_wk2, n_wk1_wk3, n_wk2_wk3⟩⟩ (Nat.le_of_ble_eq_true rfl) (Nat.le_of_ble_eq_true rfl) dX8_order_27
    · have hFb : isF nn y = false := isF_f hn60 hvb
      have a74 : f1 o = some (.inr (8, [.int u1, .int u2, .int u3, .ref wev, .int (nI nl), .ref wnb, .int (nI nn), .ref wki, .ref wmy, .ref wce, .ref wiw, .ref wli, .ref wha, .ref wwt, .int (nI nf), .ref wfy, .ref wfk, .int (nI nc), .ref wem, .ref wna, .ref wpl, .ref whs, .long lk, .int (nI ks), .ref wk1, .ref wk2, .ref wk3])) := k3 _ _ x_o 
      refine z_callVi (As := [.int y]) C hz hS hA hl (k_X8_isFigure_B l D cy f1 o wev wnb wki wmy wce wiw wli wha wwt wfy wfk wem wna wpl whs wk1 wk2 wk3 u1 u2 u3 nl nn nf nc lk ks y a74 hn60 hvb) zyX8_isFigure mMX8_139 a74 zl8 rfl rfl (Nat.le_of_ble_eq_true rfl) ⟨Nat.le_of_ble_eq_true rfl, Nat.le_of_ble_eq_true rfl⟩ ⟨Nat.le_of_ble_eq_true rfl, Nat.le_of_ble_eq_true rfl⟩ dX8_order_10 (fun r f75 H locs h76 hz hS => ?_)
      obtain ⟨rfl, k77⟩ := h76
      refine lv_if_eq (tgt := 25) hx hb dX8_order_13 (by decide) (fun c78 => ?_) (fun c78 => ?_)
      rotate_left
      · exact absurd c78 (by decide)
      refine lv_bipush (v := (-2)) hx hb dX8_order_25 (by decide) ?_
      have a79 : f75 o = some (.inr (8, [.int u1, .int u2, .int u3, .ref wev, .int (nI nl), .ref wnb, .int (nI nn), .ref wki, .ref wmy, .ref wce, .ref wiw, .ref wli, .ref wha, .ref wwt, .int (nI nf), .ref wfy, .ref wfk, .int (nI nc), .ref wem, .ref wna, .ref wpl, .ref whs, .long lk, .int (nI ks), .ref wk1, .ref wk2, .ref wk3])) := k77 _ _ a74 
      have a80 : f1 wev = some (.inl (cy 0, 8, .inl gv)) := k3 _ _ x_wev 
      have a81 : f75 wev = some (.inl (cy 0, 8, .inl gv)) := k77 _ _ a80 
      have a82 : f1 wnb = some (.inl (cy 0, 12, .inl gu)) := k3 _ _ x_wnb 
      have a83 : f75 wnb = some (.inl (cy 0, 12, .inl gu)) := k77 _ _ a82 
      have a84 : f1 wki = some (.inl (cy 0, 60, .inl gk)) := k3 _ _ x_wki 
      have a85 : f75 wki = some (.inl (cy 0, 60, .inl gk)) := k77 _ _ a84 
      have a86 : f1 wmy = some (.inl (cy 0, 60, .inl gm)) := k3 _ _ x_wmy 
      have a87 : f75 wmy = some (.inl (cy 0, 60, .inl gm)) := k77 _ _ a86 
      have a88 : f1 wce = some (.inl (cy 1, 960, .inr (.inl gc))) := k3 _ _ x_wce 
      have a89 : f75 wce = some (.inl (cy 1, 960, .inr (.inl gc))) := k77 _ _ a88 
      have a90 : f1 wiw = some (.inl (cy 2, 60, .inl gw)) := k3 _ _ x_wiw 
      have a91 : f75 wiw = some (.inl (cy 2, 60, .inl gw)) := k77 _ _ a90 
      have a92 : f1 wli = some (.inl (cy 0, 60, .inl gl)) := k3 _ _ x_wli 
      have a93 : f75 wli = some (.inl (cy 0, 60, .inl gl)) := k77 _ _ a92 
      have a94 : f1 wha = some (.inl (cy 0, 60, .inl gh)) := k3 _ _ x_wha 
      have a95 : f75 wha = some (.inl (cy 0, 60, .inl gh)) := k77 _ _ a94 
      have a96 : f1 wwt = some (.inl (cy 1, 60, .inr (.inl gt))) := k3 _ _ x_wwt 
      have a97 : f75 wwt = some (.inl (cy 1, 60, .inr (.inl gt))) := k77 _ _ a96 
      have a98 : f1 wfy = some (.inl (cy 0, 6, .inl gy)) := k3 _ _ x_wfy 
      have a99 : f75 wfy = some (.inl (cy 0, 6, .inl gy)) := k77 _ _ a98 
      have a100 : f1 wfk = some (.inl (cy 0, 24, .inl gq)) := k3 _ _ x_wfk 
      have a101 : f75 wfk = some (.inl (cy 0, 24, .inl gq)) := k77 _ _ a100 
      have a102 : f1 wem = some (.inl (cy 0, 60, .inl ge1)) := k3 _ _ x_wem 
      have a103 : f75 wem = some (.inl (cy 0, 60, .inl ge1)) := k77 _ _ a102 
      have a104 : f1 wna = some (.inl (cy 0, 60, .inl gn1)) := k3 _ _ x_wna 
      have a105 : f75 wna = some (.inl (cy 0, 60, .inl gn1)) := k77 _ _ a104 
      have a106 : f1 wpl = some (.inl (cy 0, 60, .inl gp1)) := k3 _ _ x_wpl 
      have a107 : f75 wpl = some (.inl (cy 0, 60, .inl gp1)) := k77 _ _ a106 
      have a108 : f1 whs = some (.inl (cy 0, 4, .inl gs)) := k3 _ _ x_whs 
      have a109 : f75 whs = some (.inl (cy 0, 4, .inl gs)) := k77 _ _ a108 
      have a110 : f1 wk1 = some (.inl (cy 0, 40, .inl gx1)) := k3 _ _ x_wk1 
      have a111 : f75 wk1 = some (.inl (cy 0, 40, .inl gx1)) := k77 _ _ a110 
      have a112 : f1 wk2 = some (.inl (cy 0, 40, .inl gx2)) := k3 _ _ x_wk2 
      have a113 : f75 wk2 = some (.inl (cy 0, 40, .inl gx2)) := k77 _ _ a112 
      have a114 : f1 wk3 = some (.inl (cy 0, 40, .inl gx3)) := k3 _ _ x_wk3 
      have a115 : f75 wk3 = some (.inl (cy 0, 40, .inl gx3)) := k77 _ _ a114 
      exact z_iret C hr rfl hz hS ⟨u1, u2, u3, nl, nn, nf, nc, lk, ks, gv, gu, gk, gm, gc, gw, gl, gh, gt, gy, gq, ge1, gn1, gp1, gs, gx1, gx2, gx3, ln, fz, sq, rfl, rfl, rfl, rfl, rfl, rfl, rfl, rfl, rfl, rfl, rfl, rfl, rfl, rfl, rfl, rfl, rfl, rfl, rfl, rfl, rfl, rfl, rfl, rfl, rfl, ⟨a79, a81, a83, a85, a87, a89, a91, a93, a95, a97, a99, a101, a103, a105, a107, a109, a111, a113, a115, hn60, hl12, hf6, hc60, hs40, hMP, hgy, hfz, hgs, hME, hlk, hgw, hfd, n_wki_wmy, n_wki_wiw, n_wki_wli, n_wki_wha, n_wki_wem, n_wki_wna, n_wki_wpl, n_wmy_wiw, n_wmy_wli, n_wmy_wha, n_wmy_wem, n_wmy_wna, n_wmy_wpl, n_wiw_wli, n_wiw_wha, n_wiw_wem, n_wiw_wna, n_wiw_wpl, n_wli_wha, n_wli_wem, n_wli_wna, n_wli_wpl, n_wha_wem, n_wha_wna, n_wha_wpl, n_wem_wna, n_wem_wpl, n_wna_wpl, n_wk1_wk2, n_wk1_wk3, n_wk2_wk3⟩⟩ (Nat.le_of_ble_eq_true rfl) (Nat.le_of_ble_eq_true rfl) dX8_order_27
  · have hFa : isF nn x = false := isF_f hn60 hva
    refine z_callVi (As := [.int x]) C hz hS hA hl (k_X8_isFigure_B l D cy f o wev wnb wki wmy wce wiw wli wha wwt wfy wfk wem wna wpl whs wk1 wk2 wk3 u1 u2 u3 nl nn nf nc lk ks x x_o hn60 hva) zyX8_isFigure mMX8_139 x_o zl8 rfl rfl (Nat.le_of_ble_eq_true rfl) ⟨Nat.le_of_ble_eq_true rfl, Nat.le_of_ble_eq_true rfl⟩ ⟨Nat.le_of_ble_eq_true rfl, Nat.le_of_ble_eq_true rfl⟩ dX8_order_2 (fun r f116 H locs h117 hz hS => ?_)
    obtain ⟨rfl, k118⟩ := h117
    refine lv_if_eq (tgt := 25) hx hb dX8_order_5 (by decide) (fun c119 => ?_) (fun c119 => ?_)
    rotate_left
    · exact absurd c119 (by decide)
    refine lv_bipush (v := (-2)) hx hb dX8_order_25 (by decide) ?_
    have a120 : f116 o = some (.inr (8, [.int u1, .int u2, .int u3, .ref wev, .int (nI nl), .ref wnb, .int (nI nn), .ref wki, .ref wmy, .ref wce, .ref wiw, .ref wli, .ref wha, .ref wwt, .int (nI nf), .ref wfy, .ref wfk, .int (nI nc), .ref wem, .ref wna, .ref wpl, .ref whs, .long lk, .int (nI ks), .ref wk1, .ref wk2, .ref wk3])) := k118 _ _ x_o 
    have a121 : f116 wev = some (.inl (cy 0, 8, .inl gv)) := k118 _ _ x_wev 
    have a122 : f116 wnb = some (.inl (cy 0, 12, .inl gu)) := k118 _ _ x_wnb 
    have a123 : f116 wki = some (.inl (cy 0, 60, .inl gk)) := k118 _ _ x_wki 
    have a124 : f116 wmy = some (.inl (cy 0, 60, .inl gm)) := k118 _ _ x_wmy 
    have a125 : f116 wce = some (.inl (cy 1, 960, .inr (.inl gc))) := k118 _ _ x_wce 
    have a126 : f116 wiw = some (.inl (cy 2, 60, .inl gw)) := k118 _ _ x_wiw 
    have a127 : f116 wli = some (.inl (cy 0, 60, .inl gl)) := k118 _ _ x_wli 
    have a128 : f116 wha = some (.inl (cy 0, 60, .inl gh)) := k118 _ _ x_wha 
    have a129 : f116 wwt = some (.inl (cy 1, 60, .inr (.inl gt))) := k118 _ _ x_wwt 
    have a130 : f116 wfy = some (.inl (cy 0, 6, .inl gy)) := k118 _ _ x_wfy 
    have a131 : f116 wfk = some (.inl (cy 0, 24, .inl gq)) := k118 _ _ x_wfk 
    have a132 : f116 wem = some (.inl (cy 0, 60, .inl ge1)) := k118 _ _ x_wem 
    have a133 : f116 wna = some (.inl (cy 0, 60, .inl gn1)) := k118 _ _ x_wna 
    have a134 : f116 wpl = some (.inl (cy 0, 60, .inl gp1)) := k118 _ _ x_wpl 
    have a135 : f116 whs = some (.inl (cy 0, 4, .inl gs)) := k118 _ _ x_whs 
    have a136 : f116 wk1 = some (.inl (cy 0, 40, .inl gx1)) := k118 _ _ x_wk1 
    have a137 : f116 wk2 = some (.inl (cy 0, 40, .inl gx2)) := k118 _ _ x_wk2 
    have a138 : f116 wk3 = some (.inl (cy 0, 40, .inl gx3)) := k118 _ _ x_wk3 
    exact z_iret C hr rfl hz hS ⟨u1, u2, u3, nl, nn, nf, nc, lk, ks, gv, gu, gk, gm, gc, gw, gl, gh, gt, gy, gq, ge1, gn1, gp1, gs, gx1, gx2, gx3, ln, fz, sq, rfl, rfl, rfl, rfl, rfl, rfl, rfl, rfl, rfl, rfl, rfl, rfl, rfl, rfl, rfl, rfl, rfl, rfl, rfl, rfl, rfl, rfl, rfl, rfl, rfl, ⟨a120, a121, a122, a123, a124, a125, a126, a127, a128, a129, a130, a131, a132, a133, a134, a135, a136, a137, a138, hn60, hl12, hf6, hc60, hs40, hMP, hgy, hfz, hgs, hME, hlk, hgw, hfd, n_wki_wmy, n_wki_wiw, n_wki_wli, n_wki_wha, n_wki_wem, n_wki_wna, n_wki_wpl, n_wmy_wiw, n_wmy_wli, n_wmy_wha, n_wmy_wem, n_wmy_wna, n_wmy_wpl, n_wiw_wli, n_wiw_wha, n_wiw_wem, n_wiw_wna, n_wiw_wpl, n_wli_wha, n_wli_wem, n_wli_wna, n_wli_wpl, n_wha_wem, n_wha_wna, n_wha_wpl, n_wem_wna, n_wem_wpl, n_wna_wpl, n_wk1_wk2, n_wk1_wk3, n_wk2_wk3⟩⟩ (Nat.le_of_ble_eq_true rfl) (Nat.le_of_ble_eq_true rfl) dX8_order_27
abbrev rmX8_ranked : Room := { frames := 4, cells := 0, slots := 0, locals := 99 }
set_option maxHeartbeats 4000000 in
set_option maxRecDepth 100000 in
theorem k_X8_ranked (l : Launch) (D : va_G) (cy : Nat → ClassId) (f : zM) (o : Nat) (wev : Nat) (wnb : Nat) (wki : Nat) (wmy : Nat) (wce : Nat) (wiw : Nat) (wli : Nat) (wha : Nat) (wwt : Nat) (wfy : Nat) (wfk : Nat) (wem : Nat) (wna : Nat) (wpl : Nat) (whs : Nat) (wk1 : Nat) (wk2 : Nat) (wk3 : Nat) (u1 : Int32) (u2 : Int32) (u3 : Int32) (nl : Nat) (nn : Nat) (nf : Nat) (nc : Nat) (lk : Int64) (ks : Nat) (gv : Nat → Int32) (gu : Nat → Int32) (gk : Nat → Int32) (gm : Nat → Int32) (gc : Nat → Int64) (gw : Nat → Int32) (gl : Nat → Int32) (gh : Nat → Int32) (gt : Nat → Int64) (gy : Nat → Int32) (gq : Nat → Int32) (ge1 : Nat → Int32) (gn1 : Nat → Int32) (gp1 : Nat → Int32) (gs : Nat → Int32) (gx1 : Nat → Int32) (gx2 : Nat → Int32) (gx3 : Nat → Int32) (ln : Nat → Nat) (fz : Nat → Nat) (sq : Nat → Nat) (x : Int32)    (hI : zIM cy f o wev wnb wki wmy wce wiw wli wha wwt wfy wfk wem wna wpl whs wk1 wk2 wk3 u1 u2 u3 nl nn nf nc lk ks gv gu gk gm gc gw gl gh gt gy gq ge1 gn1 gp1 gs gx1 gx2 gx3 ln fz sq) : zCi l D cy yX8_ranked cX8_ranked 6 (Option.some Jvm.ClassFile.FieldType.int) rmX8_ranked [.ref o, .int x] f (fun (r : Int32) (f1 : zM) => ∃ (u11 : Int32) (u21 : Int32) (u31 : Int32) (nl1 : Nat) (nn1 : Nat) (nf1 : Nat) (nc1 : Nat) (lk1 : Int64) (ks1 : Nat) (gv1 : Nat → Int32) (gu1 : Nat → Int32) (gk1 : Nat → Int32) (gm1 : Nat → Int32) (gc1 : Nat → Int64) (gw1 : Nat → Int32) (gl1 : Nat → Int32) (gh1 : Nat → Int32) (gt1 : Nat → Int64) (gy1 : Nat → Int32) (gq1 : Nat → Int32) (ge11 : Nat → Int32) (gn11 : Nat → Int32) (gp11 : Nat → Int32) (gs1 : Nat → Int32) (gx11 : Nat → Int32) (gx21 : Nat → Int32) (gx31 : Nat → Int32) (ln1 : Nat → Nat) (fz1 : Nat → Nat) (sq1 : Nat → Nat), (u11 = u1) ∧ (u21 = u2) ∧ (u31 = u3) ∧ (gv1 = gv) ∧ (nl1 = nl) ∧ (gu1 = gu) ∧ (nn1 = nn) ∧ (gk1 = gk) ∧ (ln1 = ln) ∧ (gw1 = gw) ∧ (gh1 = gh) ∧ (gc1 = gc) ∧ (nf1 = nf) ∧ (fz1 = fz) ∧ (gq1 = gq) ∧ (nc1 = nc) ∧ (ge11 = ge1) ∧ (gn11 = gn1) ∧ (gp11 = gp1) ∧ (sq1 = sq) ∧ (ks1 = ks) ∧ (gx11 = gx1) ∧ (gx21 = gx2) ∧ (gx31 = gx3) ∧ (lk1 = lk) ∧ zIM cy f1 o wev wnb wki wmy wce wiw wli wha wwt wfy wfk wem wna wpl whs wk1 wk2 wk3 u11 u21 u31 nl1 nn1 nf1 nc1 lk1 ks1 gv1 gu1 gk1 gm1 gc1 gw1 gl1 gh1 gt1 gy1 gq1 ge11 gn11 gp11 gs1 gx11 gx21 gx31 ln1 fz1 sq1) := by
  intro sz
  refine z_body (by decide +kernel) (Nat.le_of_ble_eq_true rfl) ?_
  intro p e s m below meth c ls C hr hin hsz hz hl
  subst hsz
  have hx := C.1
  have hb := C.2.1
  have hA : ∀ q, s.heap.size ≤ q → zA f s.heap.size q := fun q h => Or.inr h
  have hS : va_S (zA f s.heap.size) s.heap s.heap [] := va_S.rf
  have hl : lv_has ls 6 [(0, .ref o), (1, .int x)] := hl
  obtain ⟨x_o, x_wev, x_wnb, x_wki, x_wmy, x_wce, x_wiw, x_wli, x_wha, x_wwt, x_wfy, x_wfk, x_wem, x_wna, x_wpl, x_whs, x_wk1, x_wk2, x_wk3, hn60, hl12, hf6, hc60, hs40, hMP, hgy, hfz, hgs, hME, hlk, hgw, hfd, n_wki_wmy, n_wki_wiw, n_wki_wli, n_wki_wha, n_wki_wem, n_wki_wna, n_wki_wpl, n_wmy_wiw, n_wmy_wli, n_wmy_wha, n_wmy_wem, n_wmy_wna, n_wmy_wpl, n_wiw_wli, n_wiw_wha, n_wiw_wem, n_wiw_wna, n_wiw_wpl, n_wli_wha, n_wli_wem, n_wli_wna, n_wli_wpl, n_wha_wem, n_wha_wna, n_wha_wpl, n_wem_wna, n_wem_wpl, n_wna_wpl, n_wk1_wk2, n_wk1_wk3, n_wk2_wk3⟩ := id hI
  refine lv_iload_n hx hb dX8_ranked_0 rfl (lv_at hl 1 rfl) ?_
  refine lv_if_ge (tgt := 7) hx hb dX8_ranked_1 (by decide) (fun c1 => ?_) (fun c1 => ?_)
  · refine lv_iconst (v := 0) hx hb dX8_ranked_7 (by decide) ?_
    refine lv_istore_n (lv' := [(2, .int 0), (0, .ref o), (1, .int x)]) hx hb dX8_ranked_8 rfl hl (by decide) rfl (fun ls hl => ?_)
    have lp2 : ∀ (n : Nat) (ff : Nat) (fL3 : zM) (H : Heap) (locs : List Loc) (ls : Array Slot), (nn - ff) < n → (ff ≤ nn) → (∀ (b : Nat) (e : va_E), f b = some e → fL3 b = some e) → zH D (zA f s.heap.size) fL3 H → va_S (zA f s.heap.size) s.heap H locs → lv_has ls 6 [(0, .ref o), (1, .int x), (2, .int (nI ff))] → W p l e rmX8_ranked s m ([.ref o, .int x] : List Value).toArray below meth c H locs 0 0 (MQ below (va_Qi (fun (r : Int32) (f1 : zM) => ∃ (u11 : Int32) (u21 : Int32) (u31 : Int32) (nl1 : Nat) (nn1 : Nat) (nf1 : Nat) (nc1 : Nat) (lk1 : Int64) (ks1 : Nat) (gv1 : Nat → Int32) (gu1 : Nat → Int32) (gk1 : Nat → Int32) (gm1 : Nat → Int32) (gc1 : Nat → Int64) (gw1 : Nat → Int32) (gl1 : Nat → Int32) (gh1 : Nat → Int32) (gt1 : Nat → Int64) (gy1 : Nat → Int32) (gq1 : Nat → Int32) (ge11 : Nat → Int32) (gn11 : Nat → Int32) (gp11 : Nat → Int32) (gs1 : Nat → Int32) (gx11 : Nat → Int32) (gx21 : Nat → Int32) (gx31 : Nat → Int32) (ln1 : Nat → Nat) (fz1 : Nat → Nat) (sq1 : Nat → Nat), (u11 = u1) ∧ (u21 = u2) ∧ (u31 = u3) ∧ (gv1 = gv) ∧ (nl1 = nl) ∧ (gu1 = gu) ∧ (nn1 = nn) ∧ (gk1 = gk) ∧ (ln1 = ln) ∧ (gw1 = gw) ∧ (gh1 = gh) ∧ (gc1 = gc) ∧ (nf1 = nf) ∧ (fz1 = fz) ∧ (gq1 = gq) ∧ (nc1 = nc) ∧ (ge11 = ge1) ∧ (gn11 = gn1) ∧ (gp11 = gp1) ∧ (sq1 = sq) ∧ (ks1 = ks) ∧ (gx11 = gx1) ∧ (gx21 = gx2) ∧ (gx31 = gx3) ∧ (lk1 = lk) ∧ zIM cy f1 o wev wnb wki wmy wce wiw wli wha wwt wfy wfk wem wna wpl whs wk1 wk2 wk3 u11 u21 u31 nl1 nn1 nf1 nc1 lk1 ks1 gv1 gu1 gk1 gm1 gc1 gw1 gl1 gh1 gt1 gy1 gq1 ge11 gn11 gp11 gs1 gx11 gx21 gx31 ln1 fz1 sq1) (zB D f s.heap.size) (zA f s.heap.size)) ([.ref o, .int x] : List Value).toArray s rmX8_ranked.cells rmX8_ranked.slots (zA f s.heap.size)) (F0 m 9 ls []) := by
      intro n
      induction n with
      | zero => intro ff fL3 H locs ls hmz; exact absurd hmz (Nat.not_lt_zero _)
      | succ n_4 ih_4 =>
        intro ff fL3 H locs ls hmz_4 hff  k5 hz hS hl
        refine lv_iload_n hx hb dX8_ranked_9 rfl (lv_at hl 2 rfl) ?_
        refine lv_aload_n hx hb dX8_ranked_10 rfl (lv_at hl 0 rfl) ?_
        have a6 : fL3 o = some (.inr (8, [.int u1, .int u2, .int u3, .ref wev, .int (nI nl), .ref wnb, .int (nI nn), .ref wki, .ref wmy, .ref wce, .ref wiw, .ref wli, .ref wha, .ref wwt, .int (nI nf), .ref wfy, .ref wfk, .int (nI nc), .ref wem, .ref wna, .ref wpl, .ref whs, .long lk, .int (nI ks), .ref wk1, .ref wk2, .ref wk3])) := k5 _ _ x_o 
        refine z_get (v := .int (nI nn)) C hz a6 zl8 mFX8_83 (by decide) rfl dX8_ranked_11 ?_
        refine lv_icmp_ge (tgt := 83) hx hb dX8_ranked_14 (by decide) (fun c7 => ?_) (fun c7 => ?_)
        · replace c7 : (nn ≤ ff) := (nI_leI (a := nn) (b := ff) (by omega) (by omega)).mp c7
          refine lv_iconst (v := (-1)) hx hb dX8_ranked_83 (by decide) ?_
          have a8 : fL3 wev = some (.inl (cy 0, 8, .inl gv)) := k5 _ _ x_wev 
          have a9 : fL3 wnb = some (.inl (cy 0, 12, .inl gu)) := k5 _ _ x_wnb 
          have a10 : fL3 wki = some (.inl (cy 0, 60, .inl gk)) := k5 _ _ x_wki 
          have a11 : fL3 wmy = some (.inl (cy 0, 60, .inl gm)) := k5 _ _ x_wmy 
          have a12 : fL3 wce = some (.inl (cy 1, 960, .inr (.inl gc))) := k5 _ _ x_wce 
          have a13 : fL3 wiw = some (.inl (cy 2, 60, .inl gw)) := k5 _ _ x_wiw 
          have a14 : fL3 wli = some (.inl (cy 0, 60, .inl gl)) := k5 _ _ x_wli 
          have a15 : fL3 wha = some (.inl (cy 0, 60, .inl gh)) := k5 _ _ x_wha 
          have a16 : fL3 wwt = some (.inl (cy 1, 60, .inr (.inl gt))) := k5 _ _ x_wwt 
          have a17 : fL3 wfy = some (.inl (cy 0, 6, .inl gy)) := k5 _ _ x_wfy 
          have a18 : fL3 wfk = some (.inl (cy 0, 24, .inl gq)) := k5 _ _ x_wfk 
          have a19 : fL3 wem = some (.inl (cy 0, 60, .inl ge1)) := k5 _ _ x_wem 
          have a20 : fL3 wna = some (.inl (cy 0, 60, .inl gn1)) := k5 _ _ x_wna 
          have a21 : fL3 wpl = some (.inl (cy 0, 60, .inl gp1)) := k5 _ _ x_wpl 
          have a22 : fL3 whs = some (.inl (cy 0, 4, .inl gs)) := k5 _ _ x_whs 
          have a23 : fL3 wk1 = some (.inl (cy 0, 40, .inl gx1)) := k5 _ _ x_wk1 
          have a24 : fL3 wk2 = some (.inl (cy 0, 40, .inl gx2)) := k5 _ _ x_wk2 
          have a25 : fL3 wk3 = some (.inl (cy 0, 40, .inl gx3)) := k5 _ _ x_wk3 
          exact z_iret C hr rfl hz hS ⟨u1, u2, u3, nl, nn, nf, nc, lk, ks, gv, gu, gk, gm, gc, gw, gl, gh, gt, gy, gq, ge1, gn1, gp1, gs, gx1, gx2, gx3, ln, fz, sq, rfl, rfl, rfl, rfl, rfl, rfl, rfl, rfl, rfl, rfl, rfl, rfl, rfl, rfl, rfl, rfl, rfl, rfl, rfl, rfl, rfl, rfl, rfl, rfl, rfl, ⟨a6, a8, a9, a10, a11, a12, a13, a14, a15, a16, a17, a18, a19, a20, a21, a22, a23, a24, a25, hn60, hl12, hf6, hc60, hs40, hMP, hgy, hfz, hgs, hME, hlk, hgw, hfd, n_wki_wmy, n_wki_wiw, n_wki_wli, n_wki_wha, n_wki_wem, n_wki_wna, n_wki_wpl, n_wmy_wiw, n_wmy_wli, n_wmy_wha, n_wmy_wem, n_wmy_wna, n_wmy_wpl, n_wiw_wli, n_wiw_wha, n_wiw_wem, n_wiw_wna, n_wiw_wpl, n_wli_wha, n_wli_wem, n_wli_wna, n_wli_wpl, n_wha_wem, n_wha_wna, n_wha_wpl, n_wem_wna, n_wem_wpl, n_wna_wpl, n_wk1_wk2, n_wk1_wk3, n_wk2_wk3⟩⟩ (Nat.le_of_ble_eq_true rfl) (Nat.le_of_ble_eq_true rfl) dX8_ranked_84
        · replace c7 : ¬ (nn ≤ ff) := fun h => c7 ((nI_leI (a := nn) (b := ff) (by omega) (by omega)).mpr h)
          refine lv_iconst (v := 0) hx hb dX8_ranked_17 (by decide) ?_
          refine lv_istore_n (lv' := [(3, .int 0), (0, .ref o), (1, .int x), (2, .int (nI ff))]) hx hb dX8_ranked_18 rfl hl (by decide) rfl (fun ls hl => ?_)
          refine lv_iconst (v := 0) hx hb dX8_ranked_19 (by decide) ?_
          refine lv_istore (lv' := [(4, .int 0), (3, .int 0), (0, .ref o), (1, .int x), (2, .int (nI ff))]) hx hb dX8_ranked_20 hl (by decide) rfl (fun ls hl => ?_)
          have lp26 : ∀ (n : Nat) (oo : Nat) (ah : Int32) (fL27 : zM) (H : Heap) (locs : List Loc) (ls : Array Slot), (nn - oo) < n → (oo ≤ nn) → (∀ (b : Nat) (e : va_E), fL3 b = some e → fL27 b = some e) → zH D (zA f s.heap.size) fL27 H → va_S (zA f s.heap.size) s.heap H locs → lv_has ls 6 [(0, .ref o), (1, .int x), (2, .int (nI ff)), (3, .int ah), (4, .int (nI oo))] → W p l e rmX8_ranked s m ([.ref o, .int x] : List Value).toArray below meth c H locs 0 0 (MQ below (va_Qi (fun (r : Int32) (f1 : zM) => ∃ (u11 : Int32) (u21 : Int32) (u31 : Int32) (nl1 : Nat) (nn1 : Nat) (nf1 : Nat) (nc1 : Nat) (lk1 : Int64) (ks1 : Nat) (gv1 : Nat → Int32) (gu1 : Nat → Int32) (gk1 : Nat → Int32) (gm1 : Nat → Int32) (gc1 : Nat → Int64) (gw1 : Nat → Int32) (gl1 : Nat → Int32) (gh1 : Nat → Int32) (gt1 : Nat → Int64) (gy1 : Nat → Int32) (gq1 : Nat → Int32) (ge11 : Nat → Int32) (gn11 : Nat → Int32) (gp11 : Nat → Int32) (gs1 : Nat → Int32) (gx11 : Nat → Int32) (gx21 : Nat → Int32) (gx31 : Nat → Int32) (ln1 : Nat → Nat) (fz1 : Nat → Nat) (sq1 : Nat → Nat), (u11 = u1) ∧ (u21 = u2) ∧ (u31 = u3) ∧ (gv1 = gv) ∧ (nl1 = nl) ∧ (gu1 = gu) ∧ (nn1 = nn) ∧ (gk1 = gk) ∧ (ln1 = ln) ∧ (gw1 = gw) ∧ (gh1 = gh) ∧ (gc1 = gc) ∧ (nf1 = nf) ∧ (fz1 = fz) ∧ (gq1 = gq) ∧ (nc1 = nc) ∧ (ge11 = ge1) ∧ (gn11 = gn1) ∧ (gp11 = gp1) ∧ (sq1 = sq) ∧ (ks1 = ks) ∧ (gx11 = gx1) ∧ (gx21 = gx2) ∧ (gx31 = gx3) ∧ (lk1 = lk) ∧ zIM cy f1 o wev wnb wki wmy wce wiw wli wha wwt wfy wfk wem wna wpl whs wk1 wk2 wk3 u11 u21 u31 nl1 nn1 nf1 nc1 lk1 ks1 gv1 gu1 gk1 gm1 gc1 gw1 gl1 gh1 gt1 gy1 gq1 ge11 gn11 gp11 gs1 gx11 gx21 gx31 ln1 fz1 sq1) (zB D f s.heap.size) (zA f s.heap.size)) ([.ref o, .int x] : List Value).toArray s rmX8_ranked.cells rmX8_ranked.slots (zA f s.heap.size)) (F0 m 22 ls []) := by
            intro n
            induction n with
            | zero => intro oo ah fL27 H locs ls hmz; exact absurd hmz (Nat.not_lt_zero _)
            | succ n_28 ih_28 =>
              intro oo ah fL27 H locs ls hmz_28 hoo  k29 hz hS hl
              refine lv_iload hx hb dX8_ranked_22 (lv_at hl 4 rfl) ?_
              refine lv_aload_n hx hb dX8_ranked_24 rfl (lv_at hl 0 rfl) ?_
              have a30 : fL27 o = some (.inr (8, [.int u1, .int u2, .int u3, .ref wev, .int (nI nl), .ref wnb, .int (nI nn), .ref wki, .ref wmy, .ref wce, .ref wiw, .ref wli, .ref wha, .ref wwt, .int (nI nf), .ref wfy, .ref wfk, .int (nI nc), .ref wem, .ref wna, .ref wpl, .ref whs, .long lk, .int (nI ks), .ref wk1, .ref wk2, .ref wk3])) := k29 _ _ a6 
              refine z_get (v := .int (nI nn)) C hz a30 zl8 mFX8_83 (by decide) rfl dX8_ranked_25 ?_
              refine lv_icmp_ge (tgt := 70) hx hb dX8_ranked_28 (by decide) (fun c31 => ?_) (fun c31 => ?_)
              · replace c31 : (nn ≤ oo) := (nI_leI (a := nn) (b := oo) (by omega) (by omega)).mp c31
                refine lv_iload_n hx hb dX8_ranked_70 rfl (lv_at hl 3 rfl) ?_
                refine lv_iload_n hx hb dX8_ranked_71 rfl (lv_at hl 1 rfl) ?_
                refine lv_icmp_ne (tgt := 77) hx hb dX8_ranked_72 (by decide) (fun c32 => ?_) (fun c32 => ?_)
                · refine lv_iinc (v := nI (ff + 1)) (lv' := [(2, .int (nI (ff + 1))), (0, .ref o), (1, .int x), (3, .int ah), (4, .int (nI oo))]) hx hb dX8_ranked_77 hl (k := 2) rfl (nI_1 ff) (by decide) rfl (fun ls hl => ?_)
                  refine lv_goto (tgt := 9) hx hb dX8_ranked_80 (by decide) ?_
                  exact ih_4 (ff + 1) _ _ _ _ (by omega) (by omega)  (by
                        intro b e hb 
                        have hb0 : fL3 b = some e := k5 b e hb 
                        have hb1 : fL27 b = some e := k29 b e hb0 
                        exact hb1) hz hS (lv_sub hl [1, 2, 0] rfl)
                · refine lv_iload_n hx hb dX8_ranked_75 rfl (lv_at hl 2 rfl) ?_
                  have a33 : fL3 wev = some (.inl (cy 0, 8, .inl gv)) := k5 _ _ x_wev 
                  have a34 : fL27 wev = some (.inl (cy 0, 8, .inl gv)) := k29 _ _ a33 
                  have a35 : fL3 wnb = some (.inl (cy 0, 12, .inl gu)) := k5 _ _ x_wnb 
                  have a36 : fL27 wnb = some (.inl (cy 0, 12, .inl gu)) := k29 _ _ a35 
                  have a37 : fL3 wki = some (.inl (cy 0, 60, .inl gk)) := k5 _ _ x_wki 
                  have a38 : fL27 wki = some (.inl (cy 0, 60, .inl gk)) := k29 _ _ a37 
                  have a39 : fL3 wmy = some (.inl (cy 0, 60, .inl gm)) := k5 _ _ x_wmy 
                  have a40 : fL27 wmy = some (.inl (cy 0, 60, .inl gm)) := k29 _ _ a39 
                  have a41 : fL3 wce = some (.inl (cy 1, 960, .inr (.inl gc))) := k5 _ _ x_wce 
                  have a42 : fL27 wce = some (.inl (cy 1, 960, .inr (.inl gc))) := k29 _ _ a41 
                  have a43 : fL3 wiw = some (.inl (cy 2, 60, .inl gw)) := k5 _ _ x_wiw 
                  have a44 : fL27 wiw = some (.inl (cy 2, 60, .inl gw)) := k29 _ _ a43 
                  have a45 : fL3 wli = some (.inl (cy 0, 60, .inl gl)) := k5 _ _ x_wli 
                  have a46 : fL27 wli = some (.inl (cy 0, 60, .inl gl)) := k29 _ _ a45 
                  have a47 : fL3 wha = some (.inl (cy 0, 60, .inl gh)) := k5 _ _ x_wha 
                  have a48 : fL27 wha = some (.inl (cy 0, 60, .inl gh)) := k29 _ _ a47 
                  have a49 : fL3 wwt = some (.inl (cy 1, 60, .inr (.inl gt))) := k5 _ _ x_wwt 
                  have a50 : fL27 wwt = some (.inl (cy 1, 60, .inr (.inl gt))) := k29 _ _ a49 
                  have a51 : fL3 wfy = some (.inl (cy 0, 6, .inl gy)) := k5 _ _ x_wfy 
                  have a52 : fL27 wfy = some (.inl (cy 0, 6, .inl gy)) := k29 _ _ a51 
                  have a53 : fL3 wfk = some (.inl (cy 0, 24, .inl gq)) := k5 _ _ x_wfk 
                  have a54 : fL27 wfk = some (.inl (cy 0, 24, .inl gq)) := k29 _ _ a53 
                  have a55 : fL3 wem = some (.inl (cy 0, 60, .inl ge1)) := k5 _ _ x_wem 
                  have a56 : fL27 wem = some (.inl (cy 0, 60, .inl ge1)) := k29 _ _ a55 
                  have a57 : fL3 wna = some (.inl (cy 0, 60, .inl gn1)) := k5 _ _ x_wna 
                  have a58 : fL27 wna = some (.inl (cy 0, 60, .inl gn1)) := k29 _ _ a57 
                  have a59 : fL3 wpl = some (.inl (cy 0, 60, .inl gp1)) := k5 _ _ x_wpl 
                  have a60 : fL27 wpl = some (.inl (cy 0, 60, .inl gp1)) := k29 _ _ a59 
                  have a61 : fL3 whs = some (.inl (cy 0, 4, .inl gs)) := k5 _ _ x_whs 
                  have a62 : fL27 whs = some (.inl (cy 0, 4, .inl gs)) := k29 _ _ a61 
                  have a63 : fL3 wk1 = some (.inl (cy 0, 40, .inl gx1)) := k5 _ _ x_wk1 
                  have a64 : fL27 wk1 = some (.inl (cy 0, 40, .inl gx1)) := k29 _ _ a63 
                  have a65 : fL3 wk2 = some (.inl (cy 0, 40, .inl gx2)) := k5 _ _ x_wk2 
                  have a66 : fL27 wk2 = some (.inl (cy 0, 40, .inl gx2)) := k29 _ _ a65 
                  have a67 : fL3 wk3 = some (.inl (cy 0, 40, .inl gx3)) := k5 _ _ x_wk3 
                  have a68 : fL27 wk3 = some (.inl (cy 0, 40, .inl gx3)) := k29 _ _ a67 
                  exact z_iret C hr rfl hz hS ⟨u1, u2, u3, nl, nn, nf, nc, lk, ks, gv, gu, gk, gm, gc, gw, gl, gh, gt, gy, gq, ge1, gn1, gp1, gs, gx1, gx2, gx3, ln, fz, sq, rfl, rfl, rfl, rfl, rfl, rfl, rfl, rfl, rfl, rfl, rfl, rfl, rfl, rfl, rfl, rfl, rfl, rfl, rfl, rfl, rfl, rfl, rfl, rfl, rfl, ⟨a30, a34, a36, a38, a40, a42, a44, a46, a48, a50, a52, a54, a56, a58, a60, a62, a64, a66, a68, hn60, hl12, hf6, hc60, hs40, hMP, hgy, hfz, hgs, hME, hlk, hgw, hfd, n_wki_wmy, n_wki_wiw, n_wki_wli, n_wki_wha, n_wki_wem, n_wki_wna, n_wki_wpl, n_wmy_wiw, n_wmy_wli, n_wmy_wha, n_wmy_wem, n_wmy_wna, n_wmy_wpl, n_wiw_wli, n_wiw_wha, n_wiw_wem, n_wiw_wna, n_wiw_wpl, n_wli_wha, n_wli_wem, n_wli_wna, n_wli_wpl, n_wha_wem, n_wha_wna, n_wha_wpl, n_wem_wna, n_wem_wpl, n_wna_wpl, n_wk1_wk2, n_wk1_wk3, n_wk2_wk3⟩⟩ (Nat.le_of_ble_eq_true rfl) (Nat.le_of_ble_eq_true rfl) dX8_ranked_76
              · replace c31 : ¬ (nn ≤ oo) := fun h => c31 ((nI_leI (a := nn) (b := oo) (by omega) (by omega)).mpr h)
                refine lv_aload_n hx hb dX8_ranked_31 rfl (lv_at hl 0 rfl) ?_
                refine lv_iload hx hb dX8_ranked_32 (lv_at hl 4 rfl) ?_
                refine lv_iload_n hx hb dX8_ranked_34 rfl (lv_at hl 2 rfl) ?_
                have a69 : fL3 wki = some (.inl (cy 0, 60, .inl gk)) := k5 _ _ x_wki 
                have a70 : fL27 wki = some (.inl (cy 0, 60, .inl gk)) := k29 _ _ a69 
                have a71 : fL3 wmy = some (.inl (cy 0, 60, .inl gm)) := k5 _ _ x_wmy 
                have a72 : fL27 wmy = some (.inl (cy 0, 60, .inl gm)) := k29 _ _ a71 
                have a73 : fL3 wce = some (.inl (cy 1, 960, .inr (.inl gc))) := k5 _ _ x_wce 
                have a74 : fL27 wce = some (.inl (cy 1, 960, .inr (.inl gc))) := k29 _ _ a73 
                have a75 : fL3 wli = some (.inl (cy 0, 60, .inl gl)) := k5 _ _ x_wli 
                have a76 : fL27 wli = some (.inl (cy 0, 60, .inl gl)) := k29 _ _ a75 
                refine z_callVi (As := [.int (nI oo), .int (nI ff)]) C hz hS hA hl (k_X8_ordered l D cy fL27 o wev wnb wki wmy wce wiw wli wha wwt wfy wfk wem wna wpl whs wk1 wk2 wk3 u1 u2 u3 nl nn nf nc lk ks gk gm gc gl ln oo ff a30 a70 a72 a74 a76 hn60 hMP (by omega) (by omega)) zyX8_ordered mMX8_180 a30 zl8 rfl rfl (Nat.le_of_ble_eq_true rfl) ⟨Nat.le_of_ble_eq_true rfl, Nat.le_of_ble_eq_true rfl⟩ ⟨Nat.le_of_ble_eq_true rfl, Nat.le_of_ble_eq_true rfl⟩ dX8_ranked_35 (fun r79 f77 H locs h78 hz hS => ?_)
                have k80 := h78
                refine lv_istore (lv' := [(5, .int r79), (0, .ref o), (1, .int x), (2, .int (nI ff)), (3, .int ah), (4, .int (nI oo))]) hx hb dX8_ranked_38 hl (by decide) rfl (fun ls hl => ?_)
                refine lv_iload_n hx hb dX8_ranked_40 rfl (lv_at hl 4 rfl) ?_
                refine lv_iload hx hb dX8_ranked_41 (lv_at hl 0 rfl) ?_
                refine lv_if_lt (tgt := 57) hx hb dX8_ranked_43 (by decide) (fun c81 => ?_) (fun c81 => ?_)
                · refine lv_iconst (v := 1) hx hb dX8_ranked_57 (by decide) ?_
                  refine lv_goto (tgt := 62) hx hb dX8_ranked_58 (by decide) ?_
                  refine lv_iadd hx hb dX8_ranked_62 ?_
                  refine lv_istore_n (lv' := [(3, .int (ah + 1)), (5, .int r79), (0, .ref o), (1, .int x), (2, .int (nI ff)), (4, .int (nI oo))]) hx hb dX8_ranked_63 rfl hl (by decide) rfl (fun ls hl => ?_)
                  refine lv_iinc (v := nI (oo + 1)) (lv' := [(4, .int (nI (oo + 1))), (3, .int (ah + 1)), (5, .int r79), (0, .ref o), (1, .int x), (2, .int (nI ff))]) hx hb dX8_ranked_64 hl (k := 5) rfl (nI_1 oo) (by decide) rfl (fun ls hl => ?_)
                  refine lv_goto (tgt := 22) hx hb dX8_ranked_67 (by decide) ?_
                  exact ih_28 (oo + 1) (ah + 1) _ _ _ _ (by omega) (by omega)  (by
                        intro b e hb 
                        have hb1 : fL27 b = some e := k29 b e hb 
                        have hb2 : f77 b = some e := k80 b e hb1 
                        exact hb2) hz hS (lv_sub hl [3, 4, 5, 1, 0] rfl)
                · refine lv_iload hx hb dX8_ranked_46 (lv_at hl 0 rfl) ?_
                  refine lv_if_ne (tgt := 61) hx hb dX8_ranked_48 (by decide) (fun c82 => ?_) (fun c82 => ?_)
                  · refine lv_iconst (v := 0) hx hb dX8_ranked_61 (by decide) ?_
                    refine lv_iadd hx hb dX8_ranked_62 ?_
                    refine lv_istore_n (lv' := [(3, .int (ah + 0)), (5, .int r79), (0, .ref o), (1, .int x), (2, .int (nI ff)), (4, .int (nI oo))]) hx hb dX8_ranked_63 rfl hl (by decide) rfl (fun ls hl => ?_)
                    refine lv_iinc (v := nI (oo + 1)) (lv' := [(4, .int (nI (oo + 1))), (3, .int (ah + 0)), (5, .int r79), (0, .ref o), (1, .int x), (2, .int (nI ff))]) hx hb dX8_ranked_64 hl (k := 5) rfl (nI_1 oo) (by decide) rfl (fun ls hl => ?_)
                    refine lv_goto (tgt := 22) hx hb dX8_ranked_67 (by decide) ?_
                    exact ih_28 (oo + 1) (ah + 0) _ _ _ _ (by omega) (by omega)  (by
                          intro b e hb 
                          have hb1 : fL27 b = some e := k29 b e hb 
                          have hb2 : f77 b = some e := k80 b e hb1 
                          exact hb2) hz hS (lv_sub hl [3, 4, 5, 1, 0] rfl)
                  · refine lv_iload hx hb dX8_ranked_51 (lv_at hl 5 rfl) ?_
                    refine lv_iload_n hx hb dX8_ranked_53 rfl (lv_at hl 3 rfl) ?_
                    refine lv_icmp_ge (tgt := 61) hx hb dX8_ranked_54 (by decide) (fun c83 => ?_) (fun c83 => ?_)
                    · replace c83 : (ff ≤ oo) := (nI_leI (a := ff) (b := oo) (by omega) (by omega)).mp c83
                      refine lv_iconst (v := 0) hx hb dX8_ranked_61 (by decide) ?_
                      refine lv_iadd hx hb dX8_ranked_62 ?_
                      refine lv_istore_n (lv' := [(3, .int (ah + 0)), (5, .int r79), (0, .ref o), (1, .int x), (2, .int (nI ff)), (4, .int (nI oo))]) hx hb dX8_ranked_63 rfl hl (by decide) rfl (fun ls hl => ?_)
                      refine lv_iinc (v := nI (oo + 1)) (lv' := [(4, .int (nI (oo + 1))), (3, .int (ah + 0)), (5, .int r79), (0, .ref o), (1, .int x), (2, .int (nI ff))]) hx hb dX8_ranked_64 hl (k := 5) rfl (nI_1 oo) (by decide) rfl (fun ls hl => ?_)
                      refine lv_goto (tgt := 22) hx hb dX8_ranked_67 (by decide) ?_
                      exact ih_28 (oo + 1) (ah + 0) _ _ _ _ (by omega) (by omega)  (by
                            intro b e hb 
                            have hb1 : fL27 b = some e := k29 b e hb 
                            have hb2 : f77 b = some e := k80 b e hb1 
                            exact hb2) hz hS (lv_sub hl [3, 4, 5, 1, 0] rfl)
                    · replace c83 : ¬ (ff ≤ oo) := fun h => c83 ((nI_leI (a := ff) (b := oo) (by omega) (by omega)).mpr h)
                      refine lv_iconst (v := 1) hx hb dX8_ranked_57 (by decide) ?_
                      refine lv_goto (tgt := 62) hx hb dX8_ranked_58 (by decide) ?_
                      refine lv_iadd hx hb dX8_ranked_62 ?_
                      refine lv_istore_n (lv' := [(3, .int (ah + 1)), (5, .int r79), (0, .ref o), (1, .int x), (2, .int (nI ff)), (4, .int (nI oo))]) hx hb dX8_ranked_63 rfl hl (by decide) rfl (fun ls hl => ?_)
                      refine lv_iinc (v := nI (oo + 1)) (lv' := [(4, .int (nI (oo + 1))), (3, .int (ah + 1)), (5, .int r79), (0, .ref o), (1, .int x), (2, .int (nI ff))]) hx hb dX8_ranked_64 hl (k := 5) rfl (nI_1 oo) (by decide) rfl (fun ls hl => ?_)
                      refine lv_goto (tgt := 22) hx hb dX8_ranked_67 (by decide) ?_
                      exact ih_28 (oo + 1) (ah + 1) _ _ _ _ (by omega) (by omega)  (by
                            intro b e hb 
                            have hb1 : fL27 b = some e := k29 b e hb 
                            have hb2 : f77 b = some e := k80 b e hb1 
                            exact hb2) hz hS (lv_sub hl [3, 4, 5, 1, 0] rfl)
          exact lp26 (nn - 0 + 1) 0 0 _ _ _ _ (Nat.lt_succ_self _) (by omega)  (fun b e hb => hb) hz hS (lv_sub hl [2, 3, 4, 1, 0] rfl)
    exact lp2 (nn - 0 + 1) 0 _ _ _ _ (Nat.lt_succ_self _) (by omega)  (fun b e hb => hb) hz hS (lv_sub hl [1, 2, 0] rfl)
  · refine lv_bipush (v := (-2)) hx hb dX8_ranked_4 (by decide) ?_
    exact z_iret C hr rfl hz hS ⟨u1, u2, u3, nl, nn, nf, nc, lk, ks, gv, gu, gk, gm, gc, gw, gl, gh, gt, gy, gq, ge1, gn1, gp1, gs, gx1, gx2, gx3, ln, fz, sq, rfl, rfl, rfl, rfl, rfl, rfl, rfl, rfl, rfl, rfl, rfl, rfl, rfl, rfl, rfl, rfl, rfl, rfl, rfl, rfl, rfl, rfl, rfl, rfl, rfl, ⟨x_o, x_wev, x_wnb, x_wki, x_wmy, x_wce, x_wiw, x_wli, x_wha, x_wwt, x_wfy, x_wfk, x_wem, x_wna, x_wpl, x_whs, x_wk1, x_wk2, x_wk3, hn60, hl12, hf6, hc60, hs40, hMP, hgy, hfz, hgs, hME, hlk, hgw, hfd, n_wki_wmy, n_wki_wiw, n_wki_wli, n_wki_wha, n_wki_wem, n_wki_wna, n_wki_wpl, n_wmy_wiw, n_wmy_wli, n_wmy_wha, n_wmy_wem, n_wmy_wna, n_wmy_wpl, n_wiw_wli, n_wiw_wha, n_wiw_wem, n_wiw_wna, n_wiw_wpl, n_wli_wha, n_wli_wem, n_wli_wna, n_wli_wpl, n_wha_wem, n_wha_wna, n_wha_wpl, n_wem_wna, n_wem_wpl, n_wna_wpl, n_wk1_wk2, n_wk1_wk3, n_wk2_wk3⟩⟩ (Nat.le_of_ble_eq_true rfl) (Nat.le_of_ble_eq_true rfl) dX8_ranked_6
