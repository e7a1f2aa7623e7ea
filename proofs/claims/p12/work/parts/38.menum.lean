abbrev rmX8_reorder : Room := { frames := 1, cells := 0, slots := 0, locals := 23 }
set_option maxHeartbeats 4000000 in
set_option maxRecDepth 100000 in
theorem k_X8_reorder (l : Launch) (D : va_G) (cy : Nat → ClassId) (f : zM) (o : Nat) (wev : Nat) (wnb : Nat) (wki : Nat) (wmy : Nat) (wce : Nat) (wiw : Nat) (wli : Nat) (wha : Nat) (wwt : Nat) (wfy : Nat) (wfk : Nat) (wem : Nat) (wna : Nat) (wpl : Nat) (whs : Nat) (wk1 : Nat) (wk2 : Nat) (wk3 : Nat) (u1 : Int32) (u2 : Int32) (u3 : Int32) (nl : Nat) (nn : Nat) (nf : Nat) (nc : Nat) (lk : Int64) (ks : Nat) (gv : Nat → Int32) (gu : Nat → Int32) (gk : Nat → Int32) (gm : Nat → Int32) (gc : Nat → Int64) (gw : Nat → Int32) (gl : Nat → Int32) (gh : Nat → Int32) (gt : Nat → Int64) (gy : Nat → Int32) (gq : Nat → Int32) (ge1 : Nat → Int32) (gn1 : Nat → Int32) (gp1 : Nat → Int32) (gs : Nat → Int32) (gx1 : Nat → Int32) (gx2 : Nat → Int32) (gx3 : Nat → Int32) (ln : Nat → Nat) (fz : Nat → Nat) (sq : Nat → Nat) (x : Int32)    (hI : zIM cy f o wev wnb wki wmy wce wiw wli wha wwt wfy wfk wem wna wpl whs wk1 wk2 wk3 u1 u2 u3 nl nn nf nc lk ks gv gu gk gm gc gw gl gh gt gy gq ge1 gn1 gp1 gs gx1 gx2 gx3 ln fz sq) : zCi l D cy yX8_reorder cX8_reorder 6 (Option.some Jvm.ClassFile.FieldType.int) rmX8_reorder [.ref o, .int x] f (fun (r : Int32) (f1 : zM) => ∃ (u11 : Int32) (u21 : Int32) (u31 : Int32) (nl1 : Nat) (nn1 : Nat) (nf1 : Nat) (nc1 : Nat) (lk1 : Int64) (ks1 : Nat) (gv1 : Nat → Int32) (gu1 : Nat → Int32) (gk1 : Nat → Int32) (gm1 : Nat → Int32) (gc1 : Nat → Int64) (gw1 : Nat → Int32) (gl1 : Nat → Int32) (gh1 : Nat → Int32) (gt1 : Nat → Int64) (gy1 : Nat → Int32) (gq1 : Nat → Int32) (ge11 : Nat → Int32) (gn11 : Nat → Int32) (gp11 : Nat → Int32) (gs1 : Nat → Int32) (gx11 : Nat → Int32) (gx21 : Nat → Int32) (gx31 : Nat → Int32) (ln1 : Nat → Nat) (fz1 : Nat → Nat) (sq1 : Nat → Nat), (u11 = u1) ∧ (u21 = u2) ∧ (u31 = u3) ∧ (gv1 = gv) ∧ (nl1 = nl) ∧ (gu1 = gu) ∧ (nn1 = nn) ∧ (gk1 = gk) ∧ (ln1 = ln) ∧ (gw1 = gw) ∧ (gh1 = gh) ∧ (gc1 = gc) ∧ (nf1 = nf) ∧ (fz1 = fz) ∧ (gq1 = gq) ∧ zIM cy f1 o wev wnb wki wmy wce wiw wli wha wwt wfy wfk wem wna wpl whs wk1 wk2 wk3 u11 u21 u31 nl1 nn1 nf1 nc1 lk1 ks1 gv1 gu1 gk1 gm1 gc1 gw1 gl1 gh1 gt1 gy1 gq1 ge11 gn11 gp11 gs1 gx11 gx21 gx31 ln1 fz1 sq1) := by
  intro sz
  refine z_body (by decide +kernel) (Nat.le_of_ble_eq_true rfl) ?_
  intro p e s m below meth c ls C hr hin hsz hz hl
  subst hsz
  have hx := C.1
  have hb := C.2.1
  have hA : ∀ q, s.heap.size ≤ q → zA f s.heap.size q := fun q h => Or.inr h
  have hS : va_S (zA f s.heap.size) s.heap s.heap [] := va_S.rf
  have hl : lv_has ls 6 [(0, .ref o), (1, .int x)] := hl
  obtain ⟨x_o, x_wev, x_wnb, x_wki, x_wmy, x_wce, x_wiw, x_wli, x_wha, x_wwt, x_wfy, x_wfk, x_wem, x_wna, x_wpl, x_whs, x_wk1, x_wk2, x_wk3, hn60, hl12, hf6, hc60, hs40, hMP, hgy, hfz, hgs, hME, hlk, hgw, hfd, n_wki_wmy, n_wki_wiw, n_wki_wli, n_wki_wha, n_wki_wem, n_wki_wna, n_wki_wpl, n_wmy_wiw, n_wmy_wli, n_wmy_wha, n_wmy_wem, n_wmy_wna, n_wmy_wpl, n_wiw_wli, n_wiw_wha, n_wiw_wem, n_wiw_wna, n_wiw_wpl, n_wli_wha, n_wli_wem, n_wli_wna, n_wli_wpl, n_wha_wem, n_wha_wna, n_wha_wpl, n_wem_wna, n_wem_wpl, n_wna_wpl, n_wk1_wk2, n_wk1_wk3, n_wk2_wk3⟩ := id hI
  by_cases he : 0 ≤ x ∧ x < 4
  · obtain ⟨j, hj, hxj⟩ := z_ix4 he
    refine lv_iload_n hx hb dX8_reorder_0 rfl (lv_at hl 1 rfl) ?_
    refine z_callSi (As := [.int x]) C hz hS hA hl (k_X8_isEnumeration_A l D cy f x j  hxj hj) zyX8_isEnumeration mMX8_196 rfl rfl (Nat.le_of_ble_eq_true rfl) ⟨Nat.le_of_ble_eq_true rfl, Nat.le_of_ble_eq_true rfl⟩ ⟨Nat.le_of_ble_eq_true rfl, Nat.le_of_ble_eq_true rfl⟩ dX8_reorder_1 (fun r f1 H locs h2 hz hS => ?_)
    obtain ⟨rfl, k3⟩ := h2
    refine lv_if_ne (tgt := 10) hx hb dX8_reorder_4 (by decide) (fun c4 => ?_) (fun c4 => ?_)
    rotate_left
    · exact absurd c4 (by decide)
    refine lv_aload_n hx hb dX8_reorder_10 rfl (lv_at hl 0 rfl) ?_
    have a5 : f1 o = some (.inr (8, [.int u1, .int u2, .int u3, .ref wev, .int (nI nl), .ref wnb, .int (nI nn), .ref wki, .ref wmy, .ref wce, .ref wiw, .ref wli, .ref wha, .ref wwt, .int (nI nf), .ref wfy, .ref wfk, .int (nI nc), .ref wem, .ref wna, .ref wpl, .ref whs, .long lk, .int (nI ks), .ref wk1, .ref wk2, .ref wk3])) := k3 _ _ x_o 
    refine z_get (v := .ref whs) C hz a5 zl8 mFX8_58 (by decide) rfl dX8_reorder_11 ?_
    refine lv_iload_n hx hb dX8_reorder_14 rfl (lv_at hl 1 rfl) ?_
    have a6 : f1 whs = some (.inl (cy 0, 4, .inl gs)) := k3 _ _ x_whs 
    refine z_iald j C hz a6 hxj hj (by omega) dX8_reorder_15 ?_
    refine lv_topi (fun y7 e8 => ?_)
    obtain rfl : y7 = nI (sq j) := e8.trans (hgs j hj)
    refine lv_iconst (v := 1) hx hb dX8_reorder_16 (by decide) ?_
    refine lv_isub hx hb dX8_reorder_17 ?_
    refine lv_istore_n (lv' := [(2, .int ((nI (sq j)) - 1)), (0, .ref o), (1, .int x)]) hx hb dX8_reorder_18 rfl hl (by decide) rfl (fun ls hl => ?_)
    have lp9 : ∀ (n : Nat) (kx : Nat) (gpv : Nat → Int32) (lkv : Int64) (fL10 : zM) (H : Heap) (locs : List Loc) (ls : Array Slot), (kx) < n → (kx ≤ sq j) → (sq j ≤ 60) → (zME nc ge1 gpv sq) → (∃ k, k < 2147483647 ∧ lkv = lN k) → fL10 o = some (.inr (8, [.int u1, .int u2, .int u3, .ref wev, .int (nI nl), .ref wnb, .int (nI nn), .ref wki, .ref wmy, .ref wce, .ref wiw, .ref wli, .ref wha, .ref wwt, .int (nI nf), .ref wfy, .ref wfk, .int (nI nc), .ref wem, .ref wna, .ref wpl, .ref whs, .long lkv, .int (nI ks), .ref wk1, .ref wk2, .ref wk3])) → fL10 wpl = some (.inl (cy 0, 60, .inl gpv)) → (∀ (b : Nat) (e : va_E), f1 b = some e → b ≠ o → b ≠ wpl → fL10 b = some e) → zH D (zA f s.heap.size) fL10 H → va_S (zA f s.heap.size) s.heap H locs → lv_has ls 6 [(0, .ref o), (1, .int x), (2, .int (nI kx - 1))] → W p l e rmX8_reorder s m ([.ref o, .int x] : List Value).toArray below meth c H locs 0 0 (MQ below (va_Qi (fun (r : Int32) (f1 : zM) => ∃ (u11 : Int32) (u21 : Int32) (u31 : Int32) (nl1 : Nat) (nn1 : Nat) (nf1 : Nat) (nc1 : Nat) (lk1 : Int64) (ks1 : Nat) (gv1 : Nat → Int32) (gu1 : Nat → Int32) (gk1 : Nat → Int32) (gm1 : Nat → Int32) (gc1 : Nat → Int64) (gw1 : Nat → Int32) (gl1 : Nat → Int32) (gh1 : Nat → Int32) (gt1 : Nat → Int64) (gy1 : Nat → Int32) (gq1 : Nat → Int32) (ge11 : Nat → Int32) (gn11 : Nat → Int32) (gp11 : Nat → Int32) (gs1 : Nat → Int32) (gx11 : Nat → Int32) (gx21 : Nat → Int32) (gx31 : Nat → Int32) (ln1 : Nat → Nat) (fz1 : Nat → Nat) (sq1 : Nat → Nat), (u11 = u1) ∧ (u21 = u2) ∧ (u31 = u3) ∧ (gv1 = gv) ∧ (nl1 = nl) ∧ (gu1 = gu) ∧ (nn1 = nn) ∧ (gk1 = gk) ∧ (ln1 = ln) ∧ (gw1 = gw) ∧ (gh1 = gh) ∧ (gc1 = gc) ∧ (nf1 = nf) ∧ (fz1 = fz) ∧ (gq1 = gq) ∧ zIM cy f1 o wev wnb wki wmy wce wiw wli wha wwt wfy wfk wem wna wpl whs wk1 wk2 wk3 u11 u21 u31 nl1 nn1 nf1 nc1 lk1 ks1 gv1 gu1 gk1 gm1 gc1 gw1 gl1 gh1 gt1 gy1 gq1 ge11 gn11 gp11 gs1 gx11 gx21 gx31 ln1 fz1 sq1) (zB D f s.heap.size) (zA f s.heap.size)) ([.ref o, .int x] : List Value).toArray s rmX8_reorder.cells rmX8_reorder.slots (zA f s.heap.size)) (F0 m 19 ls []) := by
      intro n
      induction n with
      | zero => intro kx gpv lkv fL10 H locs ls hmz; exact absurd hmz (Nat.not_lt_zero _)
      | succ n ih =>
        intro kx gpv lkv fL10 H locs ls hmz hks hs60 hMEv hlkv a12 a13 k11 hz hS hl
        refine lv_iload_n hx hb dX8_reorder_19 rfl (lv_at hl 2 rfl) ?_
        refine lv_if_le (tgt := 99) hx hb dX8_reorder_20 (by decide) (fun c14 => ?_) (fun c14 => ?_)
        · refine lv_aload_n hx hb dX8_reorder_99 rfl (lv_at hl 0 rfl) ?_
          refine z_get (v := .ref whs) C hz a12 zl8 mFX8_58 (by decide) rfl dX8_reorder_100 ?_
          refine lv_iload_n hx hb dX8_reorder_103 rfl (lv_at hl 1 rfl) ?_
          have a15 : f1 wpl = some (.inl (cy 0, 60, .inl gp1)) := k3 _ _ x_wpl 
          have a16 : fL10 whs = some (.inl (cy 0, 4, .inl gs)) := k11 _ _ a6 (z_ne a6 a5 rfl) (z_ne a6 a15 rfl)
          refine z_iald j C hz a16 hxj hj (by omega) dX8_reorder_104 ?_
          have a17 : f1 wev = some (.inl (cy 0, 8, .inl gv)) := k3 _ _ x_wev 
          have a18 : fL10 wev = some (.inl (cy 0, 8, .inl gv)) := k11 _ _ a17 (z_ne a17 a5 rfl) (z_ne a17 a15 rfl)
          have a19 : f1 wnb = some (.inl (cy 0, 12, .inl gu)) := k3 _ _ x_wnb 
          have a20 : fL10 wnb = some (.inl (cy 0, 12, .inl gu)) := k11 _ _ a19 (z_ne a19 a5 rfl) (z_ne a19 a15 rfl)
          have a21 : f1 wki = some (.inl (cy 0, 60, .inl gk)) := k3 _ _ x_wki 
          have a22 : fL10 wki = some (.inl (cy 0, 60, .inl gk)) := k11 _ _ a21 (z_ne a21 a5 rfl) n_wki_wpl
          have a23 : f1 wmy = some (.inl (cy 0, 60, .inl gm)) := k3 _ _ x_wmy 
          have a24 : fL10 wmy = some (.inl (cy 0, 60, .inl gm)) := k11 _ _ a23 (z_ne a23 a5 rfl) n_wmy_wpl
          have a25 : f1 wce = some (.inl (cy 1, 960, .inr (.inl gc))) := k3 _ _ x_wce 
          have a26 : fL10 wce = some (.inl (cy 1, 960, .inr (.inl gc))) := k11 _ _ a25 (z_ne a25 a5 rfl) (z_ne a25 a15 rfl)
          have a27 : f1 wiw = some (.inl (cy 2, 60, .inl gw)) := k3 _ _ x_wiw 
          have a28 : fL10 wiw = some (.inl (cy 2, 60, .inl gw)) := k11 _ _ a27 (z_ne a27 a5 rfl) n_wiw_wpl
          have a29 : f1 wli = some (.inl (cy 0, 60, .inl gl)) := k3 _ _ x_wli 
          have a30 : fL10 wli = some (.inl (cy 0, 60, .inl gl)) := k11 _ _ a29 (z_ne a29 a5 rfl) n_wli_wpl
          have a31 : f1 wha = some (.inl (cy 0, 60, .inl gh)) := k3 _ _ x_wha 
          have a32 : fL10 wha = some (.inl (cy 0, 60, .inl gh)) := k11 _ _ a31 (z_ne a31 a5 rfl) n_wha_wpl
          have a33 : f1 wwt = some (.inl (cy 1, 60, .inr (.inl gt))) := k3 _ _ x_wwt 
          have a34 : fL10 wwt = some (.inl (cy 1, 60, .inr (.inl gt))) := k11 _ _ a33 (z_ne a33 a5 rfl) (z_ne a33 a15 rfl)
          have a35 : f1 wfy = some (.inl (cy 0, 6, .inl gy)) := k3 _ _ x_wfy 
          have a36 : fL10 wfy = some (.inl (cy 0, 6, .inl gy)) := k11 _ _ a35 (z_ne a35 a5 rfl) (z_ne a35 a15 rfl)
          have a37 : f1 wfk = some (.inl (cy 0, 24, .inl gq)) := k3 _ _ x_wfk 
          have a38 : fL10 wfk = some (.inl (cy 0, 24, .inl gq)) := k11 _ _ a37 (z_ne a37 a5 rfl) (z_ne a37 a15 rfl)
          have a39 : f1 wem = some (.inl (cy 0, 60, .inl ge1)) := k3 _ _ x_wem 
          have a40 : fL10 wem = some (.inl (cy 0, 60, .inl ge1)) := k11 _ _ a39 (z_ne a39 a5 rfl) n_wem_wpl
          have a41 : f1 wna = some (.inl (cy 0, 60, .inl gn1)) := k3 _ _ x_wna 
          have a42 : fL10 wna = some (.inl (cy 0, 60, .inl gn1)) := k11 _ _ a41 (z_ne a41 a5 rfl) n_wna_wpl
          have a43 : f1 wk1 = some (.inl (cy 0, 40, .inl gx1)) := k3 _ _ x_wk1 
          have a44 : fL10 wk1 = some (.inl (cy 0, 40, .inl gx1)) := k11 _ _ a43 (z_ne a43 a5 rfl) (z_ne a43 a15 rfl)
          have a45 : f1 wk2 = some (.inl (cy 0, 40, .inl gx2)) := k3 _ _ x_wk2 
          have a46 : fL10 wk2 = some (.inl (cy 0, 40, .inl gx2)) := k11 _ _ a45 (z_ne a45 a5 rfl) (z_ne a45 a15 rfl)
          have a47 : f1 wk3 = some (.inl (cy 0, 40, .inl gx3)) := k3 _ _ x_wk3 
          have a48 : fL10 wk3 = some (.inl (cy 0, 40, .inl gx3)) := k11 _ _ a47 (z_ne a47 a5 rfl) (z_ne a47 a15 rfl)
          exact z_iret C hr rfl hz hS ⟨u1, u2, u3, nl, nn, nf, nc, lkv, ks, gv, gu, gk, gm, gc, gw, gl, gh, gt, gy, gq, ge1, gn1, gpv, gs, gx1, gx2, gx3, ln, fz, sq, rfl, rfl, rfl, rfl, rfl, rfl, rfl, rfl, rfl, rfl, rfl, rfl, rfl, rfl, rfl, ⟨a12, a18, a20, a22, a24, a26, a28, a30, a32, a34, a36, a38, a40, a42, a13, a16, a44, a46, a48, hn60, hl12, hf6, hc60, hs40, hMP, hgy, hfz, hgs, hMEv, hlkv, hgw, hfd, n_wki_wmy, n_wki_wiw, n_wki_wli, n_wki_wha, n_wki_wem, n_wki_wna, n_wki_wpl, n_wmy_wiw, n_wmy_wli, n_wmy_wha, n_wmy_wem, n_wmy_wna, n_wmy_wpl, n_wiw_wli, n_wiw_wha, n_wiw_wem, n_wiw_wna, n_wiw_wpl, n_wli_wha, n_wli_wem, n_wli_wna, n_wli_wpl, n_wha_wem, n_wha_wna, n_wha_wpl, n_wem_wna, n_wem_wpl, n_wna_wpl, n_wk1_wk2, n_wk1_wk3, n_wk2_wk3⟩⟩ (Nat.le_of_ble_eq_true rfl) (Nat.le_of_ble_eq_true rfl) dX8_reorder_105
        · have hk2 := z_k2' (k := kx) (by omega) c14
          obtain ⟨la, hla, hlal⟩ := hlkv
          refine lv_aload_n hx hb dX8_reorder_23 rfl (lv_at hl 0 rfl) ?_
          refine lv_aload_n hx hb dX8_reorder_24 rfl (lv_at hl 0 rfl) ?_
          refine z_get (v := .long lkv) C hz a12 zl8 mFX8_61 (by decide) rfl dX8_reorder_25 ?_
          refine lv_ldc2 (v := 48271) hx hb C.2.2.2.1 (C.2.2.2.2.1 _ mKX8_205) dX8_reorder_28 ?_
          refine lv_lmul hx hb dX8_reorder_31 ?_
          refine lv_ldc2 (v := 2147483647) hx hb C.2.2.2.1 (C.2.2.2.2.1 _ mKX8_207) dX8_reorder_32 ?_
          refine lv_lrem hx hb dX8_reorder_35 (by decide) ?_
          refine lv_topl (fun y49 e50 => ?_)
          obtain rfl : y49 = lN (la * 48271 % 2147483647) := e50.trans (by rw [hlal]; exact z_lk hla)
          refine z_put (fs' := [.int u1, .int u2, .int u3, .ref wev, .int (nI nl), .ref wnb, .int (nI nn), .ref wki, .ref wmy, .ref wce, .ref wiw, .ref wli, .ref wha, .ref wwt, .int (nI nf), .ref wfy, .ref wfk, .int (nI nc), .ref wem, .ref wna, .ref wpl, .ref whs, .long (lN (la * 48271 % 2147483647)), .int (nI ks), .ref wk1, .ref wk2, .ref wk3]) C hz hS a12 zl8 mFX8_61 (by decide) rfl rfl rfl (Nat.le_of_ble_eq_true rfl) rfl dX8_reorder_36 (fun H locs f51 a52 k53 hz hS => ?_)
          refine lv_aload_n hx hb dX8_reorder_39 rfl (lv_at hl 0 rfl) ?_
          refine z_get (v := .long (lN (la * 48271 % 2147483647))) C hz a52 zl8 mFX8_61 (by decide) rfl dX8_reorder_40 ?_
          refine lv_iload_n hx hb dX8_reorder_43 rfl (lv_at hl 2 rfl) ?_
          refine lv_iconst (v := 1) hx hb dX8_reorder_44 (by decide) ?_
          refine lv_iadd hx hb dX8_reorder_45 ?_
          refine lv_topi (fun y54 e55 => ?_)
          obtain rfl : y54 = nI kx := e55.trans (by rw [show nI kx - 1 = nI (kx - 1) from pk_sub (a := kx) (b := 1) (by omega)]; exact (nI_1 (kx - 1)).trans (by rw [show kx - 1 + 1 = kx by omega]))
          refine lv_i2l (v := (nI kx).toInt64) hx hb dX8_reorder_46 rfl ?_
          refine lv_lrem hx hb dX8_reorder_47 (z_knz (by omega) (by omega)) ?_
          refine lv_topl (fun y56 e57 => ?_)
          obtain rfl : y56 = lN (la * 48271 % 2147483647 % kx) := e57.trans (z_lm (Nat.mod_lt _ (by omega)) (by omega) (by omega))
          refine lv_l2i (v := (lN (la * 48271 % 2147483647 % kx)).toInt32) hx hb dX8_reorder_48 rfl ?_
          refine lv_topi (fun y58 e59 => ?_)
          obtain rfl : y58 = nI (la * 48271 % 2147483647 % kx) := e59.trans (lN_i _)
          refine lv_istore_n (lv' := [(3, .int (nI (la * 48271 % 2147483647 % kx))), (0, .ref o), (1, .int x), (2, .int (nI kx - 1))]) hx hb dX8_reorder_49 rfl hl (by decide) rfl (fun ls hl => ?_)
          refine lv_aload_n hx hb dX8_reorder_50 rfl (lv_at hl 1 rfl) ?_
          refine lv_iload_n hx hb dX8_reorder_51 rfl (lv_at hl 2 rfl) ?_
          refine lv_iload_n hx hb dX8_reorder_52 rfl (lv_at hl 3 rfl) ?_
          refine lv_topi (fun y60 e61 => ?_)
          obtain rfl : y60 = nI (kx - 1) := e61.trans (pk_sub (a := kx) (b := 1) (by omega))
          have a62 : f1 wem = some (.inl (cy 0, 60, .inl ge1)) := k3 _ _ x_wem 
          have a63 : f1 wpl = some (.inl (cy 0, 60, .inl gp1)) := k3 _ _ x_wpl 
          have a64 : fL10 wem = some (.inl (cy 0, 60, .inl ge1)) := k11 _ _ a62 (z_ne a62 a5 rfl) n_wem_wpl
          have a65 : f51 wem = some (.inl (cy 0, 60, .inl ge1)) := (k53 _ (z_ne a64 a12 rfl)).trans a64
          have a66 : f51 wpl = some (.inl (cy 0, 60, .inl gpv)) := (k53 _ (z_ne a13 a12 rfl)).trans a13
          refine z_callVi (As := [.int x, .int (nI (kx - 1))]) C hz hS hA hl (k_X8_constantAt l D cy f51 o wev wnb wki wmy wce wiw wli wha wwt wfy wfk wem wna wpl whs wk1 wk2 wk3 u1 u2 u3 nl nn nf nc (lN (la * 48271 % 2147483647)) ks ge1 gpv x (nI (kx - 1)) a52 a65 a66 hc60) zyX8_constantAt mMX8_209 a52 zl8 rfl rfl (Nat.le_of_ble_eq_true rfl) ⟨Nat.le_of_ble_eq_true rfl, Nat.le_of_ble_eq_true rfl⟩ ⟨Nat.le_of_ble_eq_true rfl, Nat.le_of_ble_eq_true rfl⟩ dX8_reorder_53 (fun r69 f67 H locs h68 hz hS => ?_)
          obtain ⟨pq70, k71⟩ := h68
          obtain ⟨ca, hca, hrca, heca, hpca⟩ := z_cat hMEv pq70 hj hxj rfl (by omega)
          refine lv_topi (fun y72 e73 => ?_)
          obtain rfl : y72 = nI ca := e73.trans hrca
          refine lv_istore (lv' := [(4, .int (nI ca)), (3, .int (nI (la * 48271 % 2147483647 % kx))), (0, .ref o), (1, .int x), (2, .int (nI kx - 1))]) hx hb dX8_reorder_56 hl (by decide) rfl (fun ls hl => ?_)
          refine lv_aload_n hx hb dX8_reorder_58 rfl (lv_at hl 2 rfl) ?_
          refine lv_iload_n hx hb dX8_reorder_59 rfl (lv_at hl 3 rfl) ?_
          refine lv_iload_n hx hb dX8_reorder_60 rfl (lv_at hl 1 rfl) ?_
          have a74 : f67 o = some (.inr (8, [.int u1, .int u2, .int u3, .ref wev, .int (nI nl), .ref wnb, .int (nI nn), .ref wki, .ref wmy, .ref wce, .ref wiw, .ref wli, .ref wha, .ref wwt, .int (nI nf), .ref wfy, .ref wfk, .int (nI nc), .ref wem, .ref wna, .ref wpl, .ref whs, .long (lN (la * 48271 % 2147483647)), .int (nI ks), .ref wk1, .ref wk2, .ref wk3])) := k71 _ _ a52 
          have a75 : f67 wem = some (.inl (cy 0, 60, .inl ge1)) := k71 _ _ a65 
          have a76 : f67 wpl = some (.inl (cy 0, 60, .inl gpv)) := k71 _ _ a66 
          refine z_callVi (As := [.int x, .int (nI (la * 48271 % 2147483647 % kx))]) C hz hS hA hl (k_X8_constantAt l D cy f67 o wev wnb wki wmy wce wiw wli wha wwt wfy wfk wem wna wpl whs wk1 wk2 wk3 u1 u2 u3 nl nn nf nc (lN (la * 48271 % 2147483647)) ks ge1 gpv x (nI (la * 48271 % 2147483647 % kx)) a74 a75 a76 hc60) zyX8_constantAt mMX8_209 a74 zl8 rfl rfl (Nat.le_of_ble_eq_true rfl) ⟨Nat.le_of_ble_eq_true rfl, Nat.le_of_ble_eq_true rfl⟩ ⟨Nat.le_of_ble_eq_true rfl, Nat.le_of_ble_eq_true rfl⟩ dX8_reorder_61 (fun r79 f77 H locs h78 hz hS => ?_)
          obtain ⟨pq80, k81⟩ := h78
          obtain ⟨cb, hcb, hrcb, hecb, hpcb⟩ := z_cat hMEv pq80 hj hxj rfl (Nat.lt_of_lt_of_le (Nat.mod_lt _ (by omega)) hks)
          refine lv_topi (fun y82 e83 => ?_)
          obtain rfl : y82 = nI cb := e83.trans hrcb
          refine lv_istore (lv' := [(5, .int (nI cb)), (4, .int (nI ca)), (3, .int (nI (la * 48271 % 2147483647 % kx))), (0, .ref o), (1, .int x), (2, .int (nI kx - 1))]) hx hb dX8_reorder_64 hl (by decide) rfl (fun ls hl => ?_)
          refine lv_aload_n hx hb dX8_reorder_66 rfl (lv_at hl 3 rfl) ?_
          have a84 : f77 o = some (.inr (8, [.int u1, .int u2, .int u3, .ref wev, .int (nI nl), .ref wnb, .int (nI nn), .ref wki, .ref wmy, .ref wce, .ref wiw, .ref wli, .ref wha, .ref wwt, .int (nI nf), .ref wfy, .ref wfk, .int (nI nc), .ref wem, .ref wna, .ref wpl, .ref whs, .long (lN (la * 48271 % 2147483647)), .int (nI ks), .ref wk1, .ref wk2, .ref wk3])) := k81 _ _ a74 
          refine z_get (v := .ref wpl) C hz a84 zl8 mFX8_55 (by decide) rfl dX8_reorder_67 ?_
          refine lv_iload hx hb dX8_reorder_70 (lv_at hl 1 rfl) ?_
          refine lv_iload_n hx hb dX8_reorder_72 rfl (lv_at hl 2 rfl) ?_
          have a85 : f77 wpl = some (.inl (cy 0, 60, .inl gpv)) := k81 _ _ a76 
          refine z_iast ca C hz hS a85 rfl (by omega) (by omega) dX8_reorder_73 (fun H locs f86 a87 k88 hz hS => ?_)
          refine lv_aload_n hx hb dX8_reorder_74 rfl (lv_at hl 3 rfl) ?_
          have a89 : f86 o = some (.inr (8, [.int u1, .int u2, .int u3, .ref wev, .int (nI nl), .ref wnb, .int (nI nn), .ref wki, .ref wmy, .ref wce, .ref wiw, .ref wli, .ref wha, .ref wwt, .int (nI nf), .ref wfy, .ref wfk, .int (nI nc), .ref wem, .ref wna, .ref wpl, .ref whs, .long (lN (la * 48271 % 2147483647)), .int (nI ks), .ref wk1, .ref wk2, .ref wk3])) := (k88 _ (z_ne a84 a85 rfl)).trans a84
          refine z_get (v := .ref wpl) C hz a89 zl8 mFX8_55 (by decide) rfl dX8_reorder_75 ?_
          refine lv_iload hx hb dX8_reorder_78 (lv_at hl 0 rfl) ?_
          refine lv_iload hx hb dX8_reorder_80 (lv_at hl 1 rfl) ?_
          refine lv_iload hx hb dX8_reorder_82 (lv_at hl 0 rfl) ?_
          refine lv_icmp_ne (tgt := 91) hx hb dX8_reorder_84 (by decide) (fun c90 => ?_) (fun c90 => ?_)
          · replace c90 : ¬ (ca = cb) := fun h => c90 ((nI_eq (a := ca) (b := cb) (by omega) (by omega)).mpr h)
            refine lv_iload_n hx hb dX8_reorder_91 rfl (lv_at hl 5 rfl) ?_
            refine lv_topi (fun y91 e92 => ?_)
            obtain rfl : y91 = nI (kx - 1) := e92.trans (pk_sub (a := kx) (b := 1) (by omega))
            refine z_iast cb C hz hS a87 rfl (by omega) (by omega) dX8_reorder_92 (fun H locs f93 a94 k95 hz hS => ?_)
            refine lv_iinc (v := nI (kx - 1) - 1) (lv' := [(2, .int (nI (kx - 1) - 1)), (5, .int (nI cb)), (4, .int (nI ca)), (3, .int (nI (la * 48271 % 2147483647 % kx))), (0, .ref o), (1, .int x)]) hx hb dX8_reorder_93 hl (k := 5) rfl (z_km (by omega)) (by decide) rfl (fun ls hl => ?_)
            refine lv_goto (tgt := 19) hx hb dX8_reorder_96 (by decide) ?_
            have a96 : f93 o = some (.inr (8, [.int u1, .int u2, .int u3, .ref wev, .int (nI nl), .ref wnb, .int (nI nn), .ref wki, .ref wmy, .ref wce, .ref wiw, .ref wli, .ref wha, .ref wwt, .int (nI nf), .ref wfy, .ref wfk, .int (nI nc), .ref wem, .ref wna, .ref wpl, .ref whs, .long (lN (la * 48271 % 2147483647)), .int (nI ks), .ref wk1, .ref wk2, .ref wk3])) := (k95 _ (z_ne a89 a87 rfl)).trans a89
            exact ih (kx - 1) (upd (upd gpv ca (nI (la * 48271 % 2147483647 % kx))) cb (nI (kx - 1))) (lN (la * 48271 % 2147483647)) _ _ _ _ (by omega) (by omega) (by omega) (zME_swap hMEv hca hcb heca hecb hpca hpcb) ⟨la * 48271 % 2147483647, Nat.mod_lt _ (by omega), rfl⟩ a96 a94 (by
                  intro b e hb n0 n1
                  have hb1 : fL10 b = some e := k11 b e hb n0 n1
                  have hb2 : f51 b = some e := (k53 b n0).trans hb1
                  have hb3 : f67 b = some e := k71 b e hb2 
                  have hb4 : f77 b = some e := k81 b e hb3 
                  have hb5 : f86 b = some e := (k88 b n1).trans hb4
                  have hb6 : f93 b = some e := (k95 b n1).trans hb5
                  exact hb6) hz hS (lv_sub hl [4, 5, 0] rfl)
          · replace c90 : (ca = cb) := (nI_eq (a := ca) (b := cb) (by omega) (by omega)).mp c90
            refine lv_iload_n hx hb dX8_reorder_87 rfl (lv_at hl 2 rfl) ?_
            refine lv_goto (tgt := 92) hx hb dX8_reorder_88 (by decide) ?_
            refine z_iast cb C hz hS a87 rfl (by omega) (by omega) dX8_reorder_92 (fun H locs f97 a98 k99 hz hS => ?_)
            refine lv_iinc (v := nI (kx - 1) - 1) (lv' := [(2, .int (nI (kx - 1) - 1)), (5, .int (nI cb)), (4, .int (nI ca)), (3, .int (nI (la * 48271 % 2147483647 % kx))), (0, .ref o), (1, .int x)]) hx hb dX8_reorder_93 hl (k := 5) rfl (z_km (by omega)) (by decide) rfl (fun ls hl => ?_)
            refine lv_goto (tgt := 19) hx hb dX8_reorder_96 (by decide) ?_
            have a100 : f97 o = some (.inr (8, [.int u1, .int u2, .int u3, .ref wev, .int (nI nl), .ref wnb, .int (nI nn), .ref wki, .ref wmy, .ref wce, .ref wiw, .ref wli, .ref wha, .ref wwt, .int (nI nf), .ref wfy, .ref wfk, .int (nI nc), .ref wem, .ref wna, .ref wpl, .ref whs, .long (lN (la * 48271 % 2147483647)), .int (nI ks), .ref wk1, .ref wk2, .ref wk3])) := (k99 _ (z_ne a89 a87 rfl)).trans a89
            exact ih (kx - 1) (upd (upd gpv ca (nI (la * 48271 % 2147483647 % kx))) cb (nI (la * 48271 % 2147483647 % kx))) (lN (la * 48271 % 2147483647)) _ _ _ _ (by omega) (by omega) (by omega) (zME_swapE hMEv hca hcb heca hecb hpca hpcb c90) ⟨la * 48271 % 2147483647, Nat.mod_lt _ (by omega), rfl⟩ a100 a98 (by
                  intro b e hb n0 n1
                  have hb1 : fL10 b = some e := k11 b e hb n0 n1
                  have hb2 : f51 b = some e := (k53 b n0).trans hb1
                  have hb3 : f67 b = some e := k71 b e hb2 
                  have hb4 : f77 b = some e := k81 b e hb3 
                  have hb5 : f86 b = some e := (k88 b n1).trans hb4
                  have hb6 : f97 b = some e := (k99 b n1).trans hb5
                  exact hb6) hz hS (lv_sub hl [4, 5, 0] rfl)
    have a101 : f1 wpl = some (.inl (cy 0, 60, .inl gp1)) := k3 _ _ x_wpl 
    exact lp9 ((sq j) + 1) (sq j) gp1 lk _ _ _ _ (Nat.lt_succ_self _) (by omega) (Nat.le_trans (hME.2.2.2.2 j hj) hc60) hME hlk a5 a101 (fun b e hb n0 n1 => hb) hz hS (lv_sub hl [1, 2, 0] rfl)
  · refine lv_iload_n hx hb dX8_reorder_0 rfl (lv_at hl 1 rfl) ?_
    refine z_callSi (As := [.int x]) C hz hS hA hl (k_X8_isEnumeration_B l D cy f x  he) zyX8_isEnumeration mMX8_196 rfl rfl (Nat.le_of_ble_eq_true rfl) ⟨Nat.le_of_ble_eq_true rfl, Nat.le_of_ble_eq_true rfl⟩ ⟨Nat.le_of_ble_eq_true rfl, Nat.le_of_ble_eq_true rfl⟩ dX8_reorder_1 (fun r f102 H locs h103 hz hS => ?_)
    obtain ⟨rfl, k104⟩ := h103
    refine lv_if_ne (tgt := 10) hx hb dX8_reorder_4 (by decide) (fun c105 => ?_) (fun c105 => ?_)
    · exact absurd c105 (by decide)
    refine lv_bipush (v := (-2)) hx hb dX8_reorder_7 (by decide) ?_
    have a106 : f102 o = some (.inr (8, [.int u1, .int u2, .int u3, .ref wev, .int (nI nl), .ref wnb, .int (nI nn), .ref wki, .ref wmy, .ref wce, .ref wiw, .ref wli, .ref wha, .ref wwt, .int (nI nf), .ref wfy, .ref wfk, .int (nI nc), .ref wem, .ref wna, .ref wpl, .ref whs, .long lk, .int (nI ks), .ref wk1, .ref wk2, .ref wk3])) := k104 _ _ x_o 
    have a107 : f102 wev = some (.inl (cy 0, 8, .inl gv)) := k104 _ _ x_wev 
    have a108 : f102 wnb = some (.inl (cy 0, 12, .inl gu)) := k104 _ _ x_wnb 
    have a109 : f102 wki = some (.inl (cy 0, 60, .inl gk)) := k104 _ _ x_wki 
    have a110 : f102 wmy = some (.inl (cy 0, 60, .inl gm)) := k104 _ _ x_wmy 
    have a111 : f102 wce = some (.inl (cy 1, 960, .inr (.inl gc))) := k104 _ _ x_wce 
    have a112 : f102 wiw = some (.inl (cy 2, 60, .inl gw)) := k104 _ _ x_wiw 
    have a113 : f102 wli = some (.inl (cy 0, 60, .inl gl)) := k104 _ _ x_wli 
    have a114 : f102 wha = some (.inl (cy 0, 60, .inl gh)) := k104 _ _ x_wha 
    have a115 : f102 wwt = some (.inl (cy 1, 60, .inr (.inl gt))) := k104 _ _ x_wwt 
    have a116 : f102 wfy = some (.inl (cy 0, 6, .inl gy)) := k104 _ _ x_wfy 
    have a117 : f102 wfk = some (.inl (cy 0, 24, .inl gq)) := k104 _ _ x_wfk 
    have a118 : f102 wem = some (.inl (cy 0, 60, .inl ge1)) := k104 _ _ x_wem 
    have a119 : f102 wna = some (.inl (cy 0, 60, .inl gn1)) := k104 _ _ x_wna 
    have a120 : f102 wpl = some (.inl (cy 0, 60, .inl gp1)) := k104 _ _ x_wpl 
    have a121 : f102 whs = some (.inl (cy 0, 4, .inl gs)) := k104 _ _ x_whs 
    have a122 : f102 wk1 = some (.inl (cy 0, 40, .inl gx1)) := k104 _ _ x_wk1 
    have a123 : f102 wk2 = some (.inl (cy 0, 40, .inl gx2)) := k104 _ _ x_wk2 
    have a124 : f102 wk3 = some (.inl (cy 0, 40, .inl gx3)) := k104 _ _ x_wk3 
    exact z_iret C hr rfl hz hS ⟨u1, u2, u3, nl, nn, nf, nc, lk, ks, gv, gu, gk, gm, gc, gw, gl, gh, gt, gy, gq, ge1, gn1, gp1, gs, gx1, gx2, gx3, ln, fz, sq, rfl, rfl, rfl, rfl, rfl, rfl, rfl, rfl, rfl, rfl, rfl, rfl, rfl, rfl, rfl, ⟨a106, a107, a108, a109, a110, a111, a112, a113, a114, a115, a116, a117, a118, a119, a120, a121, a122, a123, a124, hn60, hl12, hf6, hc60, hs40, hMP, hgy, hfz, hgs, hME, hlk, hgw, hfd, n_wki_wmy, n_wki_wiw, n_wki_wli, n_wki_wha, n_wki_wem, n_wki_wna, n_wki_wpl, n_wmy_wiw, n_wmy_wli, n_wmy_wha, n_wmy_wem, n_wmy_wna, n_wmy_wpl, n_wiw_wli, n_wiw_wha, n_wiw_wem, n_wiw_wna, n_wiw_wpl, n_wli_wha, n_wli_wem, n_wli_wna, n_wli_wpl, n_wha_wem, n_wha_wna, n_wha_wpl, n_wem_wna, n_wem_wpl, n_wna_wpl, n_wk1_wk2, n_wk1_wk3, n_wk2_wk3⟩⟩ (Nat.le_of_ble_eq_true rfl) (Nat.le_of_ble_eq_true rfl) dX8_reorder_9
