abbrev rmX8_made : Room := { frames := 2, cells := 0, slots := 0, locals := 47 }
set_option maxHeartbeats 4000000 in
set_option maxRecDepth 100000 in
theorem k_X8_made (l : Launch) (D : va_G) (cy : Nat → ClassId) (f : zM) (o : Nat) (wev : Nat) (wnb : Nat) (wki : Nat) (wmy : Nat) (wce : Nat) (wiw : Nat) (wli : Nat) (wha : Nat) (wwt : Nat) (wfy : Nat) (wfk : Nat) (wem : Nat) (wna : Nat) (wpl : Nat) (whs : Nat) (wk1 : Nat) (wk2 : Nat) (wk3 : Nat) (u1 : Int32) (u2 : Int32) (u3 : Int32) (nl : Nat) (nn : Nat) (nf : Nat) (nc : Nat) (lk : Int64) (ks : Nat) (gk : Nat → Int32) (gm : Nat → Int32) (gc : Nat → Int64) (gl : Nat → Int32) (gh : Nat → Int32) (ln : Nat → Nat) (t : Nat) (p0 : f o = some (.inr (8, [.int u1, .int u2, .int u3, .ref wev, .int (nI nl), .ref wnb, .int (nI nn), .ref wki, .ref wmy, .ref wce, .ref wiw, .ref wli, .ref wha, .ref wwt, .int (nI nf), .ref wfy, .ref wfk, .int (nI nc), .ref wem, .ref wna, .ref wpl, .ref whs, .long lk, .int (nI ks), .ref wk1, .ref wk2, .ref wk3]))) (p1 : f wki = some (.inl (cy 0, 60, .inl gk))) (p2 : f wmy = some (.inl (cy 0, 60, .inl gm))) (p3 : f wce = some (.inl (cy 1, 960, .inr (.inl gc)))) (p4 : f wli = some (.inl (cy 0, 60, .inl gl))) (p5 : f wha = some (.inl (cy 0, 60, .inl gh)))  (hn59 : nn < 60) (hMP : zMP nn gk gm gc ln) (hmt : gm nn = nI t) (ht : t ≤ 15) (hrf : gk nn = 4 → ∀ k, k < t → gc (16 * nn + k) = (-1) ∨ ∃ j9, j9 < nn ∧ gc (16 * nn + k) = lN j9) (n_wki_wmy : wki ≠ wmy) (n_wki_wli : wki ≠ wli) (n_wki_wha : wki ≠ wha) (n_wmy_wli : wmy ≠ wli) (n_wmy_wha : wmy ≠ wha) (n_wli_wha : wli ≠ wha) : zCi l D cy yX8_made cX8_made 1 (Option.some Jvm.ClassFile.FieldType.int) rmX8_made [.ref o] f (fun (r : Int32) (f1 : zM) => ∃ (gl1 : Nat → Int32), r = (nI nn) ∧ f1 o = some (.inr (8, [.int u1, .int u2, .int u3, .ref wev, .int (nI nl), .ref wnb, .int (nI (nn + 1)), .ref wki, .ref wmy, .ref wce, .ref wiw, .ref wli, .ref wha, .ref wwt, .int (nI nf), .ref wfy, .ref wfk, .int (nI nc), .ref wem, .ref wna, .ref wpl, .ref whs, .long lk, .int (nI ks), .ref wk1, .ref wk2, .ref wk3])) ∧ f1 wli = some (.inl (cy 0, 60, .inl gl1)) ∧ f1 wha = some (.inl (cy 0, 60, .inl (upd gh nn (zHash (gk nn) nn t (fun k => gc (16 * nn + k)) gh)))) ∧ (∀ (b : Nat) (e : va_E), f b = some e → b ≠ o → b ≠ wli → b ≠ wha → f1 b = some e)) := by
  intro sz
  refine z_body (by decide +kernel) (Nat.le_of_ble_eq_true rfl) ?_
  intro p e s m below meth c ls C hr hin hsz hz hl
  subst hsz
  have hx := C.1
  have hb := C.2.1
  have hA : ∀ q, s.heap.size ≤ q → zA f s.heap.size q := fun q h => Or.inr h
  have hS : va_S (zA f s.heap.size) s.heap s.heap [] := va_S.rf
  have hl : lv_has ls 1 [(0, .ref o)] := hl
  refine lv_aload_n hx hb dX8_made_0 rfl (lv_at hl 0 rfl) ?_
  refine z_get (v := .ref wli) C hz p0 zl8 mFX8_34 (by decide) rfl dX8_made_1 ?_
  refine lv_aload_n hx hb dX8_made_4 rfl (lv_at hl 0 rfl) ?_
  refine z_get (v := .int (nI nn)) C hz p0 zl8 mFX8_83 (by decide) rfl dX8_made_5 ?_
  refine lv_aload_n hx hb dX8_made_8 rfl (lv_at hl 0 rfl) ?_
  refine lv_aload_n hx hb dX8_made_9 rfl (lv_at hl 0 rfl) ?_
  refine z_get (v := .int (nI nn)) C hz p0 zl8 mFX8_83 (by decide) rfl dX8_made_10 ?_
  refine z_callVi (As := [.int (nI nn)]) C hz hS hA hl (k_X8_leastLike l D cy f o wev wnb wki wmy wce wiw wli wha wwt wfy wfk wem wna wpl whs wk1 wk2 wk3 u1 u2 u3 nl nn nf nc lk ks gk gm gc gl ln t p0 p1 p2 p3 p4 hn59 hMP hmt ht hrf) zyX8_leastLike mMX8_103 p0 zl8 rfl rfl (Nat.le_of_ble_eq_true rfl) ⟨Nat.le_of_ble_eq_true rfl, Nat.le_of_ble_eq_true rfl⟩ ⟨Nat.le_of_ble_eq_true rfl, Nat.le_of_ble_eq_true rfl⟩ dX8_made_13 (fun r f1 H locs h2 hz hS => ?_)
  obtain ⟨jl_3, rfl, pq4, k5⟩ := h2
  have a6 : f1 wli = some (.inl (cy 0, 60, .inl gl)) := k5 _ _ p4 
  refine z_iast nn C hz hS a6 rfl (by omega) (by omega) dX8_made_16 (fun H locs f7 a8 k9 hz hS => ?_)
  refine lv_aload_n hx hb dX8_made_17 rfl (lv_at hl 0 rfl) ?_
  have a10 : f1 o = some (.inr (8, [.int u1, .int u2, .int u3, .ref wev, .int (nI nl), .ref wnb, .int (nI nn), .ref wki, .ref wmy, .ref wce, .ref wiw, .ref wli, .ref wha, .ref wwt, .int (nI nf), .ref wfy, .ref wfk, .int (nI nc), .ref wem, .ref wna, .ref wpl, .ref whs, .long lk, .int (nI ks), .ref wk1, .ref wk2, .ref wk3])) := k5 _ _ p0 
  have a11 : f7 o = some (.inr (8, [.int u1, .int u2, .int u3, .ref wev, .int (nI nl), .ref wnb, .int (nI nn), .ref wki, .ref wmy, .ref wce, .ref wiw, .ref wli, .ref wha, .ref wwt, .int (nI nf), .ref wfy, .ref wfk, .int (nI nc), .ref wem, .ref wna, .ref wpl, .ref whs, .long lk, .int (nI ks), .ref wk1, .ref wk2, .ref wk3])) := (k9 _ (z_ne a10 a6 rfl)).trans a10
  refine z_get (v := .ref wha) C hz a11 zl8 mFX8_37 (by decide) rfl dX8_made_18 ?_
  refine lv_aload_n hx hb dX8_made_21 rfl (lv_at hl 0 rfl) ?_
  refine z_get (v := .int (nI nn)) C hz a11 zl8 mFX8_83 (by decide) rfl dX8_made_22 ?_
  refine lv_aload_n hx hb dX8_made_25 rfl (lv_at hl 0 rfl) ?_
  refine lv_aload_n hx hb dX8_made_26 rfl (lv_at hl 0 rfl) ?_
  refine z_get (v := .int (nI nn)) C hz a11 zl8 mFX8_83 (by decide) rfl dX8_made_27 ?_
  have a12 : f1 wki = some (.inl (cy 0, 60, .inl gk)) := k5 _ _ p1 
  have a13 : f7 wki = some (.inl (cy 0, 60, .inl gk)) := (k9 _ n_wki_wli).trans a12
  have a14 : f1 wmy = some (.inl (cy 0, 60, .inl gm)) := k5 _ _ p2 
  have a15 : f7 wmy = some (.inl (cy 0, 60, .inl gm)) := (k9 _ n_wmy_wli).trans a14
  have a16 : f1 wce = some (.inl (cy 1, 960, .inr (.inl gc))) := k5 _ _ p3 
  have a17 : f7 wce = some (.inl (cy 1, 960, .inr (.inl gc))) := (k9 _ (z_ne a16 a6 rfl)).trans a16
  have a18 : f1 wha = some (.inl (cy 0, 60, .inl gh)) := k5 _ _ p5 
  have a19 : f7 wha = some (.inl (cy 0, 60, .inl gh)) := (k9 _ (Ne.symm n_wli_wha)).trans a18
  refine z_callVi (As := [.int (nI nn)]) C hz hS hA hl (k_X8_hashOf l D cy f7 o wev wnb wki wmy wce wiw wli wha wwt wfy wfk wem wna wpl whs wk1 wk2 wk3 u1 u2 u3 nl nn nf nc lk ks gk gm gc gh t a11 a13 a15 a17 a19 hn59 hmt ht hrf) zyX8_hashOf mMX8_107 a11 zl8 rfl rfl (Nat.le_of_ble_eq_true rfl) ⟨Nat.le_of_ble_eq_true rfl, Nat.le_of_ble_eq_true rfl⟩ ⟨Nat.le_of_ble_eq_true rfl, Nat.le_of_ble_eq_true rfl⟩ dX8_made_30 (fun r f20 H locs h21 hz hS => ?_)
  obtain ⟨rfl, k22⟩ := h21
  have a23 : f20 wha = some (.inl (cy 0, 60, .inl gh)) := k22 _ _ a19 
  refine z_iast nn C hz hS a23 rfl (by omega) (by omega) dX8_made_33 (fun H locs f24 a25 k26 hz hS => ?_)
  refine lv_aload_n hx hb dX8_made_34 rfl (lv_at hl 0 rfl) ?_
  refine lv_dup hx hb dX8_made_35 rfl ?_
  have a27 : f20 o = some (.inr (8, [.int u1, .int u2, .int u3, .ref wev, .int (nI nl), .ref wnb, .int (nI nn), .ref wki, .ref wmy, .ref wce, .ref wiw, .ref wli, .ref wha, .ref wwt, .int (nI nf), .ref wfy, .ref wfk, .int (nI nc), .ref wem, .ref wna, .ref wpl, .ref whs, .long lk, .int (nI ks), .ref wk1, .ref wk2, .ref wk3])) := k22 _ _ a11 
  have a28 : f24 o = some (.inr (8, [.int u1, .int u2, .int u3, .ref wev, .int (nI nl), .ref wnb, .int (nI nn), .ref wki, .ref wmy, .ref wce, .ref wiw, .ref wli, .ref wha, .ref wwt, .int (nI nf), .ref wfy, .ref wfk, .int (nI nc), .ref wem, .ref wna, .ref wpl, .ref whs, .long lk, .int (nI ks), .ref wk1, .ref wk2, .ref wk3])) := (k26 _ (z_ne a27 a23 rfl)).trans a27
  refine z_get (v := .int (nI nn)) C hz a28 zl8 mFX8_83 (by decide) rfl dX8_made_36 ?_
  refine lv_iconst (v := 1) hx hb dX8_made_39 (by decide) ?_
  refine lv_iadd hx hb dX8_made_40 ?_
  refine lv_topi (fun y29 e30 => ?_)
  obtain rfl : y29 = nI (nn + 1) := e30.trans (nI_1 nn)
  refine z_put (fs' := [.int u1, .int u2, .int u3, .ref wev, .int (nI nl), .ref wnb, .int (nI (nn + 1)), .ref wki, .ref wmy, .ref wce, .ref wiw, .ref wli, .ref wha, .ref wwt, .int (nI nf), .ref wfy, .ref wfk, .int (nI nc), .ref wem, .ref wna, .ref wpl, .ref whs, .long lk, .int (nI ks), .ref wk1, .ref wk2, .ref wk3]) C hz hS a28 zl8 mFX8_83 (by decide) rfl rfl rfl (Nat.le_of_ble_eq_true rfl) rfl dX8_made_41 (fun H locs f31 a32 k33 hz hS => ?_)
  refine lv_aload_n hx hb dX8_made_44 rfl (lv_at hl 0 rfl) ?_
  refine z_get (v := .int (nI (nn + 1))) C hz a32 zl8 mFX8_83 (by decide) rfl dX8_made_45 ?_
  refine lv_iconst (v := 1) hx hb dX8_made_48 (by decide) ?_
  refine lv_isub hx hb dX8_made_49 ?_
  refine lv_topi (fun y34 e35 => ?_)
  obtain rfl : y34 = nI nn := e35.trans (pk_sub (a := nn + 1) (b := 1) (by omega))
  have a36 : f20 wli = some (.inl (cy 0, 60, .inl (upd gl nn (nI jl_3)))) := k22 _ _ a8 
  have a37 : f24 wli = some (.inl (cy 0, 60, .inl (upd gl nn (nI jl_3)))) := (k26 _ n_wli_wha).trans a36
  have a38 : f31 wli = some (.inl (cy 0, 60, .inl (upd gl nn (nI jl_3)))) := (k33 _ (z_ne a37 a28 rfl)).trans a37
  have a39 : f31 wha = some (.inl (cy 0, 60, .inl (upd gh nn (zHash (gk nn) nn t (fun k => gc (16 * nn + k)) gh)))) := (k33 _ (z_ne a25 a28 rfl)).trans a25
  exact z_iret C hr rfl hz hS ⟨(upd gl nn (nI jl_3)), rfl, a32, a38, a39, (by
        intro b e hb n0 n1 n2
        have hb0 : f1 b = some e := k5 b e hb 
        have hb1 : f7 b = some e := (k9 b n1).trans hb0
        have hb2 : f20 b = some e := k22 b e hb1 
        have hb3 : f24 b = some e := (k26 b n2).trans hb2
        have hb4 : f31 b = some e := (k33 b n0).trans hb3
        exact hb4)⟩ (Nat.le_of_ble_eq_true rfl) (Nat.le_of_ble_eq_true rfl) dX8_made_50
