abbrev rmX8_made : Room := { frames := 2, cells := 0, slots := 0, locals := 47 }
set_option maxHeartbeats 4000000 in
set_option maxRecDepth 100000 in
theorem k_X8_made (l : Launch) (D : va_G) (cy : Nat → ClassId) (f : zM) (o : Nat) (wev : Nat) (wnb : Nat) (wki : Nat) (wmy : Nat) (wce : Nat) (wiw : Nat) (wli : Nat) (wha : Nat) (wwt : Nat) (wfy : Nat) (wfk : Nat) (wem : Nat) (wna : Nat) (wpl : Nat) (whs : Nat) (wk1 : Nat) (wk2 : Nat) (wk3 : Nat) (u1 : Int32) (u2 : Int32) (u3 : Int32) (nl : Nat) (nn : Nat) (nf : Nat) (nc : Nat) (lk : Int64) (ks : Nat) (gk : Nat → Int32) (gm : Nat → Int32) (gc : Nat → Int64) (gl : Nat → Int32) (gh : Nat → Int32) (ln : Nat → Nat) (t : Nat) (p0 : f o = some (.inr (8, [.int u1, .int u2, .int u3, .ref wev, .int (nI nl), .ref wnb, .int (nI nn), .ref wki, .ref wmy, .ref wce, .ref wiw, .ref wli, .ref wha, .ref wwt, .int (nI nf), .ref wfy, .ref wfk, .int (nI nc), .ref wem, .ref wna, .ref wpl, .ref whs, .long lk, .int (nI ks), .ref wk1, .ref wk2, .ref wk3]))) (p1 : f wki = some (.inl (cy 0, 60, .inl gk))) (p2 : f wmy = some (.inl (cy 0, 60, .inl gm))) (p3 : f wce = some (.inl (cy 1, 960, .inr (.inl gc)))) (p4 : f wli = some (.inl (cy 0, 60, .inl gl))) (p5 : f wha = some (.inl (cy 0, 60, .inl gh)))  (hn59 : nn < 60) (hMP : zMP nn gk gm gc ln) (hmt : gm nn = nI t) (ht : t ≤ 15) (hrf : gk nn = 4 → ∀ k, k < t → gc (16 * nn + k) = (-1) ∨ ∃ j9, j9 < nn ∧ gc (16 * nn + k) = lN j9) (n_wki_wmy : wki ≠ wmy) (n_wki_wli : wki ≠ wli) (n_wki_wha : wki ≠ wha) (n_wmy_wli : wmy ≠ wli) (n_wmy_wha : wmy ≠ wha) (n_wli_wha : wli ≠ wha) : zCi l D cy yX8_made cX8_made 1 (Option.some Jvm.ClassFile.FieldType.int) rmX8_made [.ref o] f (fun (r : Int32) (f1 : zM) => ∃ (jl : Nat), r = (nI nn) ∧ (jl ≤ nn) ∧ (jl < nn → zLC1 gk gl gc ln nn t jl) ∧ (∀ o, o < jl → ¬ zLC1 gk gl gc ln nn t o) ∧ f1 o = some (.inr (8, [.int u1, .int u2, .int u3, .ref wev, .int (nI nl), .ref wnb, .int (nI (nn + 1)), .ref wki, .ref wmy, .ref wce, .ref wiw, .ref wli, .ref wha, .ref wwt, .int (nI nf), .ref wfy, .ref wfk, .int (nI nc), .ref wem, .ref wna, .ref wpl, .ref whs, .long lk, .int (nI ks), .ref wk1, .ref wk2, .ref wk3])) ∧ f1 wli = some (.inl (cy 0, 60, .inl (upd gl nn (nI jl)))) ∧ f1 wha = some (.inl (cy 0, 60, .inl (upd gh nn (zHash (gk nn) nn t (fun k => gc (16 * nn + k)) gh)))) ∧ (∀ (b : Nat) (e : va_E), f b = some e → b ≠ o → b ≠ wli → b ≠ wha → f1 b = some e)) := by
  intro sz
  refine z_body (by decide +kernel) (Nat.le_of_ble_eq_true rfl) ?_
  intro p e s m below meth c ls C hr hin hsz hz hl
  subst hsz
  have hx := C.1
  have hb := C.2.1
  have hA : ∀ q, s.heap.size ≤ q → zA f s.heap.size q := fun q h => Or.inr h
  have hS : va_S (zA f s.heap.size) s.heap s.heap [] := va_S.rf
  have hl : lv_has ls 1 [(0, .ref o)] := hl
  refine lv_aload_n hx hb dX8_made_0 rfl (lv_at hl 0 rfl) ?_
  refine z_get (v := .ref wli) C hz p0 zl8 mFX8_34 (by decide) rfl dX8_made_1 ?_
  refine lv_aload_n hx hb dX8_made_4 rfl (lv_at hl 0 rfl) ?_
  refine z_get (v := .int (nI nn)) C hz p0 zl8 mFX8_83 (by decide) rfl dX8_made_5 ?_
  refine lv_aload_n hx hb dX8_made_8 rfl (lv_at hl 0 rfl) ?_
  refine lv_aload_n hx hb dX8_made_9 rfl (lv_at hl 0 rfl) ?_
  refine z_get (v := .int (nI nn)) C hz p0 zl8 mFX8_83 (by decide) rfl dX8_made_10 ?_
  refine z_callVi (As := [.int (nI nn)]) C hz hS hA hl (k_X8_leastLike l D cy f o wev wnb wki wmy wce wiw wli wha wwt wfy wfk wem wna wpl whs wk1 wk2 wk3 u1 u2 u3 nl nn nf nc lk ks gk gm gc gl ln t p0 p1 p2 p3 p4 hn59 hMP hmt ht hrf) zyX8_leastLike mMX8_103 p0 zl8 rfl rfl (Nat.le_of_ble_eq_true rfl) ⟨Nat.le_of_ble_eq_true rfl, Nat.le_of_ble_eq_true rfl⟩ ⟨Nat.le_of_ble_eq_true rfl, Nat.le_of_ble_eq_true rfl⟩ dX8_made_13 (fun r f1 H locs h2 hz hS => ?_)
  obtain ⟨jl_3, rfl, pq4, pq5, pq6, k7⟩ := h2
  have a8 : f1 wli = some (.inl (cy 0, 60, .inl gl)) := k7 _ _ p4 
  refine z_iast nn C hz hS a8 rfl (by omega) (by omega) dX8_made_16 (fun H locs f9 a10 k11 hz hS => ?_)
  refine lv_aload_n hx hb dX8_made_17 rfl (lv_at hl 0 rfl) ?_
  have a12 : f1 o = some (.inr (8, [.int u1, .int u2, .int u3, .ref wev, .int (nI nl), .ref wnb, .int (nI nn), .ref wki, .ref wmy, .ref wce, .ref wiw, .ref wli, .ref wha, .ref wwt, .int (nI nf), .ref wfy, .ref wfk, .int (nI nc), .ref wem, .ref wna, .ref wpl, .ref whs, .long lk, .int (nI ks), .ref wk1, .ref wk2, .ref wk3])) := k7 _ _ p0 
  have a13 : f9 o = some (.inr (8, [.int u1, .int u2, .int u3, .ref wev, .int (nI nl), .ref wnb, .int (nI nn), .ref wki, .ref wmy, .ref wce, .ref wiw, .ref wli, .ref wha, .ref wwt, .int (nI nf), .ref wfy, .ref wfk, .int (nI nc), .ref wem, .ref wna, .ref wpl, .ref whs, .long lk, .int (nI ks), .ref wk1, .ref wk2, .ref wk3])) := (k11 _ (z_ne a12 a8 rfl)).trans a12
  refine z_get (v := .ref wha) C hz a13 zl8 mFX8_37 (by decide) rfl dX8_made_18 ?_
  refine lv_aload_n hx hb dX8_made_21 rfl (lv_at hl 0 rfl) ?_
  refine z_get (v := .int (nI nn)) C hz a13 zl8 mFX8_83 (by decide) rfl dX8_made_22 ?_
  refine lv_aload_n hx hb dX8_made_25 rfl (lv_at hl 0 rfl) ?_
  refine lv_aload_n hx hb dX8_made_26 rfl (lv_at hl 0 rfl) ?_
  refine z_get (v := .int (nI nn)) C hz a13 zl8 mFX8_83 (by decide) rfl dX8_made_27 ?_
  have a14 : f1 wki = some (.inl (cy 0, 60, .inl gk)) := k7 _ _ p1 
  have a15 : f9 wki = some (.inl (cy 0, 60, .inl gk)) := (k11 _ n_wki_wli).trans a14
  have a16 : f1 wmy = some (.inl (cy 0, 60, .inl gm)) := k7 _ _ p2 
  have a17 : f9 wmy = some (.inl (cy 0, 60, .inl gm)) := (k11 _ n_wmy_wli).trans a16
  have a18 : f1 wce = some (.inl (cy 1, 960, .inr (.inl gc))) := k7 _ _ p3 
  have a19 : f9 wce = some (.inl (cy 1, 960, .inr (.inl gc))) := (k11 _ (z_ne a18 a8 rfl)).trans a18
  have a20 : f1 wha = some (.inl (cy 0, 60, .inl gh)) := k7 _ _ p5 
  have a21 : f9 wha = some (.inl (cy 0, 60, .inl gh)) := (k11 _ (Ne.symm n_wli_wha)).trans a20
  refine z_callVi (As := [.int (nI nn)]) C hz hS hA hl (k_X8_hashOf l D cy f9 o wev wnb wki wmy wce wiw wli wha wwt wfy wfk wem wna wpl whs wk1 wk2 wk3 u1 u2 u3 nl nn nf nc lk ks gk gm gc gh t a13 a15 a17 a19 a21 hn59 hmt ht hrf) zyX8_hashOf mMX8_107 a13 zl8 rfl rfl (Nat.le_of_ble_eq_true rfl) ⟨Nat.le_of_ble_eq_true rfl, Nat.le_of_ble_eq_true rfl⟩ ⟨Nat.le_of_ble_eq_true rfl, Nat.le_of_ble_eq_true rfl⟩ dX8_made_30 (fun r f22 H locs h23 hz hS => ?_)
  obtain ⟨rfl, k24⟩ := h23
  have a25 : f22 wha = some (.inl (cy 0, 60, .inl gh)) := k24 _ _ a21 
  refine z_iast nn C hz hS a25 rfl (by omega) (by omega) dX8_made_33 (fun H locs f26 a27 k28 hz hS => ?_)
  refine lv_aload_n hx hb dX8_made_34 rfl (lv_at hl 0 rfl) ?_
  refine lv_dup hx hb dX8_made_35 rfl ?_
  have a29 : f22 o = some (.inr (8, [.int u1, .int u2, .int u3, .ref wev, .int (nI nl), .ref wnb, .int (nI nn), .ref wki, .ref wmy, .ref wce, .ref wiw, .ref wli, .ref wha, .ref wwt, .int (nI nf), .ref wfy, .ref wfk, .int (nI nc), .ref wem, .ref wna, .ref wpl, .ref whs, .long lk, .int (nI ks), .ref wk1, .ref wk2, .ref wk3])) := k24 _ _ a13 
  have a30 : f26 o = some (.inr (8, [.int u1, .int u2, .int u3, .ref wev, .int (nI nl), .ref wnb, .int (nI nn), .ref wki, .ref wmy, .ref wce, .ref wiw, .ref wli, .ref wha, .ref wwt, .int (nI nf), .ref wfy, .ref wfk, .int (nI nc), .ref wem, .ref wna, .ref wpl, .ref whs, .long lk, .int (nI ks), .ref wk1, .ref wk2, .ref wk3])) := (k28 _ (z_ne a29 a25 rfl)).trans a29
  refine z_get (v := .int (nI nn)) C hz a30 zl8 mFX8_83 (by decide) rfl dX8_made_36 ?_
  refine lv_iconst (v := 1) hx hb dX8_made_39 (by decide) ?_
  refine lv_iadd hx hb dX8_made_40 ?_
  refine lv_topi (fun y31 e32 => ?_)
  obtain rfl : y31 = nI (nn + 1) := e32.trans (nI_1 nn)
  refine z_put (fs' := [.int u1, .int u2, .int u3, .ref wev, .int (nI nl), .ref wnb, .int (nI (nn + 1)), .ref wki, .ref wmy, .ref wce, .ref wiw, .ref wli, .ref wha, .ref wwt, .int (nI nf), .ref wfy, .ref wfk, .int (nI nc), .ref wem, .ref wna, .ref wpl, .ref whs, .long lk, .int (nI ks), .ref wk1, .ref wk2, .ref wk3]) C hz hS a30 zl8 mFX8_83 (by decide) rfl rfl rfl (Nat.le_of_ble_eq_true rfl) rfl dX8_made_41 (fun H locs f33 a34 k35 hz hS => ?_)
  refine lv_aload_n hx hb dX8_made_44 rfl (lv_at hl 0 rfl) ?_
  refine z_get (v := .int (nI (nn + 1))) C hz a34 zl8 mFX8_83 (by decide) rfl dX8_made_45 ?_
  refine lv_iconst (v := 1) hx hb dX8_made_48 (by decide) ?_
  refine lv_isub hx hb dX8_made_49 ?_
  refine lv_topi (fun y36 e37 => ?_)
  obtain rfl : y36 = nI nn := e37.trans (pk_sub (a := nn + 1) (b := 1) (by omega))
  have a38 : f22 wli = some (.inl (cy 0, 60, .inl (upd gl nn (nI jl_3)))) := k24 _ _ a10 
  have a39 : f26 wli = some (.inl (cy 0, 60, .inl (upd gl nn (nI jl_3)))) := (k28 _ n_wli_wha).trans a38
  have a40 : f33 wli = some (.inl (cy 0, 60, .inl (upd gl nn (nI jl_3)))) := (k35 _ (z_ne a39 a30 rfl)).trans a39
  have a41 : f33 wha = some (.inl (cy 0, 60, .inl (upd gh nn (zHash (gk nn) nn t (fun k => gc (16 * nn + k)) gh)))) := (k35 _ (z_ne a27 a30 rfl)).trans a27
  exact z_iret C hr rfl hz hS ⟨jl_3, rfl, pq4, pq5, pq6, a34, a40, a41, (by
        intro b e hb n0 n1 n2
        have hb0 : f1 b = some e := k7 b e hb 
        have hb1 : f9 b = some e := (k11 b n1).trans hb0
        have hb2 : f22 b = some e := k24 b e hb1 
        have hb3 : f26 b = some e := (k28 b n2).trans hb2
        have hb4 : f33 b = some e := (k35 b n0).trans hb3
        exact hb4)⟩ (Nat.le_of_ble_eq_true rfl) (Nat.le_of_ble_eq_true rfl) dX8_made_50
