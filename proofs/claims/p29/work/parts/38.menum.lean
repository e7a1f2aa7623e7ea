abbrev rmX8_reorder : Room := { frames := 1, cells := 0, slots := 0, locals := 23 }
set_option maxHeartbeats 4000000 in
set_option maxRecDepth 100000 in
theorem k_X8_reorder (l : Launch) (D : va_G) (cy : Nat → ClassId) (f : zM) (o : Nat) (wev : Nat) (wnb : Nat) (wki : Nat) (wmy : Nat) (wce : Nat) (wiw : Nat) (wli : Nat) (wha : Nat) (wwt : Nat) (wfy : Nat) (wfk : Nat) (wem : Nat) (wna : Nat) (wpl : Nat) (whs : Nat) (wk1 : Nat) (wk2 : Nat) (wk3 : Nat) (u1 : Int32) (u2 : Int32) (u3 : Int32) (nl : Nat) (nn : Nat) (nf : Nat) (nc : Nat) (lk : Int64) (ks : Nat) (gv : Nat → Int32) (gu : Nat → Int32) (gk : Nat → Int32) (gm : Nat → Int32) (gc : Nat → Int64) (gw : Nat → Int32) (gl : Nat → Int32) (gh : Nat → Int32) (gt : Nat → Int64) (gy : Nat → Int32) (gq : Nat → Int32) (ge1 : Nat → Int32) (gn1 : Nat → Int32) (gp1 : Nat → Int32) (gs : Nat → Int32) (gx1 : Nat → Int32) (gx2 : Nat → Int32) (gx3 : Nat → Int32) (ln : Nat → Nat) (fz : Nat → Nat) (sq : Nat → Nat) (x : Int32)    (hI : zIM cy f o wev wnb wki wmy wce wiw wli wha wwt wfy wfk wem wna wpl whs wk1 wk2 wk3 u1 u2 u3 nl nn nf nc lk ks gv gu gk gm gc gw gl gh gt gy gq ge1 gn1 gp1 gs gx1 gx2 gx3 ln fz sq) : zCi l D cy yX8_reorder cX8_reorder 6 (Option.some Jvm.ClassFile.FieldType.int) rmX8_reorder [.ref o, .int x] f (fun (r : Int32) (f1 : zM) => ∃ (u11 : Int32) (u21 : Int32) (u31 : Int32) (nl1 : Nat) (nn1 : Nat) (nf1 : Nat) (nc1 : Nat) (lk1 : Int64) (ks1 : Nat) (gv1 : Nat → Int32) (gu1 : Nat → Int32) (gk1 : Nat → Int32) (gm1 : Nat → Int32) (gc1 : Nat → Int64) (gw1 : Nat → Int32) (gl1 : Nat → Int32) (gh1 : Nat → Int32) (gt1 : Nat → Int64) (gy1 : Nat → Int32) (gq1 : Nat → Int32) (ge11 : Nat → Int32) (gn11 : Nat → Int32) (gp11 : Nat → Int32) (gs1 : Nat → Int32) (gx11 : Nat → Int32) (gx21 : Nat → Int32) (gx31 : Nat → Int32) (ln1 : Nat → Nat) (fz1 : Nat → Nat) (sq1 : Nat → Nat), (u11 = u1) ∧ (u21 = u2) ∧ (u31 = u3) ∧ (gv1 = gv) ∧ (nl1 = nl) ∧ (gu1 = gu) ∧ (nn1 = nn) ∧ (gk1 = gk) ∧ (ln1 = ln) ∧ (gw1 = gw) ∧ (gh1 = gh) ∧ (gc1 = gc) ∧ (nf1 = nf) ∧ (fz1 = fz) ∧ (gq1 = gq) ∧ (nc1 = nc) ∧ (ge11 = ge1) ∧ (gn11 = gn1) ∧ (sq1 = sq) ∧ (ks1 = ks) ∧ (gx11 = gx1) ∧ (gx21 = gx2) ∧ (gx31 = gx3) ∧ (zYR nc x ge1 gp1 sq lk r gp11 lk1) ∧ zIM cy f1 o wev wnb wki wmy wce wiw wli wha wwt wfy wfk wem wna wpl whs wk1 wk2 wk3 u11 u21 u31 nl1 nn1 nf1 nc1 lk1 ks1 gv1 gu1 gk1 gm1 gc1 gw1 gl1 gh1 gt1 gy1 gq1 ge11 gn11 gp11 gs1 gx11 gx21 gx31 ln1 fz1 sq1) := by
  intro sz
  refine z_body (by decide +kernel) (Nat.le_of_ble_eq_true rfl) ?_
  intro p e s m below meth c ls C hr hin hsz hz hl
  subst hsz
  have hx := C.1
  have hb := C.2.1
  have hA : ∀ q, s.heap.size ≤ q → zA f s.heap.size q := fun q h => Or.inr h
  have hS : va_S (zA f s.heap.size) s.heap s.heap [] := va_S.rf
  have hl : lv_has ls 6 [(0, .ref o), (1, .int x)] := hl
  obtain ⟨x_o, x_wev, x_wnb, x_wki, x_wmy, x_wce, x_wiw, x_wli, x_wha, x_wwt, x_wfy, x_wfk, x_wem, x_wna, x_wpl, x_whs, x_wk1, x_wk2, x_wk3, hn60, hl12, hf6, hc60, hs40, hMP, hgy, hfz, hgs, hME, hlk, hgw, hfd, n_wki_wmy, n_wki_wiw, n_wki_wli, n_wki_wha, n_wki_wem, n_wki_wna, n_wki_wpl, n_wmy_wiw, n_wmy_wli, n_wmy_wha, n_wmy_wem, n_wmy_wna, n_wmy_wpl, n_wiw_wli, n_wiw_wha, n_wiw_wem, n_wiw_wna, n_wiw_wpl, n_wli_wha, n_wli_wem, n_wli_wna, n_wli_wpl, n_wha_wem, n_wha_wna, n_wha_wpl, n_wem_wna, n_wem_wpl, n_wna_wpl, n_wk1_wk2, n_wk1_wk3, n_wk2_wk3⟩ := id hI
  by_cases he : 0 ≤ x ∧ x < 4
  · obtain ⟨j, hj, hxj⟩ := z_ix4 he
    have hIj : fI x = j := fI_of (by omega) hxj
    refine lv_iload_n hx hb dX8_reorder_0 rfl (lv_at hl 1 rfl) ?_
    refine z_callSi (As := [.int x]) C hz hS hA hl (k_X8_isEnumeration_A l D cy f x j  hxj hj) zyX8_isEnumeration mMX8_196 rfl rfl (Nat.le_of_ble_eq_true rfl) ⟨Nat.le_of_ble_eq_true rfl, Nat.le_of_ble_eq_true rfl⟩ ⟨Nat.le_of_ble_eq_true rfl, Nat.le_of_ble_eq_true rfl⟩ dX8_reorder_1 (fun r f1 H locs h2 hz hS => ?_)
    obtain ⟨rfl, k3⟩ := h2
    refine lv_if_ne (tgt := 10) hx hb dX8_reorder_4 (by decide) (fun c4 => ?_) (fun c4 => ?_)
    rotate_left
    · exact absurd c4 (by decide)
    refine lv_aload_n hx hb dX8_reorder_10 rfl (lv_at hl 0 rfl) ?_
    have a5 : f1 o = some (.inr (8, [.int u1, .int u2, .int u3, .ref wev, .int (nI nl), .ref wnb, .int (nI nn), .ref wki, .ref wmy, .ref wce, .ref wiw, .ref wli, .ref wha, .ref wwt, .int (nI nf), .ref wfy, .ref wfk, .int (nI nc), .ref wem, .ref wna, .ref wpl, .ref whs, .long lk, .int (nI ks), .ref wk1, .ref wk2, .ref wk3])) := k3 _ _ x_o 
    refine z_get (v := .ref whs) C hz a5 zl8 mFX8_58 (by decide) rfl dX8_reorder_11 ?_
    refine lv_iload_n hx hb dX8_reorder_14 rfl (lv_at hl 1 rfl) ?_
    have a6 : f1 whs = some (.inl (cy 0, 4, .inl gs)) := k3 _ _ x_whs 
    refine z_iald j C hz a6 hxj hj (by omega) dX8_reorder_15 ?_
    refine lv_topi (fun y7 e8 => ?_)
    obtain rfl : y7 = nI (sq j) := e8.trans (hgs j hj)
    refine lv_iconst (v := 1) hx hb dX8_reorder_16 (by decide) ?_
    refine lv_isub hx hb dX8_reorder_17 ?_
    refine lv_istore_n (lv' := [(2, .int ((nI (sq j)) - 1)), (0, .ref o), (1, .int x)]) hx hb dX8_reorder_18 rfl hl (by decide) rfl (fun ls hl => ?_)
    have lp9 : ∀ (n : Nat) (kx : Nat) (gpv : Nat → Int32) (lkv : Int64) (fL10 : zM) (H : Heap) (locs : List Loc) (ls : Array Slot), (kx) < n → (kx ≤ sq j) → (sq j ≤ 60) → (zME nc ge1 gpv sq) → (∀ g1 l1, zSG j nc ge1 kx gpv lkv g1 l1 → zSG j nc ge1 (sq j) gp1 lk g1 l1) → (∃ k, k < 2147483647 ∧ lkv = lN k) → fL10 o = some (.inr (8, [.int u1, .int u2, .int u3, .ref wev, .int (nI nl), .ref wnb, .int (nI nn), .ref wki, .ref wmy, .ref wce, .ref wiw, .ref wli, .ref wha, .ref wwt, .int (nI nf), .ref wfy, .ref wfk, .int (nI nc), .ref wem, .ref wna, .ref wpl, .ref whs, .long lkv, .int (nI ks), .ref wk1, .ref wk2, .ref wk3])) → fL10 wpl = some (.inl (cy 0, 60, .inl gpv)) → (∀ (b : Nat) (e : va_E), f1 b = some e → b ≠ o → b ≠ wpl → fL10 b = some e) → zH D (zA f s.heap.size) fL10 H → va_S (zA f s.heap.size) s.heap H locs → lv_has ls 6 [(0, .ref o), (1, .int x), (2, .int (nI kx - 1))] → W p l e rmX8_reorder s m ([.ref o, .int x] : List Value).toArray below meth c H locs 0 0 (MQ below (va_Qi (fun (r : Int32) (f1 : zM) => ∃ (u11 : Int32) (u21 : Int32) (u31 : Int32) (nl1 : Nat) (nn1 : Nat) (nf1 : Nat) (nc1 : Nat) (lk1 : Int64) (ks1 : Nat) (gv1 : Nat → Int32) (gu1 : Nat → Int32) (gk1 : Nat → Int32) (gm1 : Nat → Int32) (gc1 : Nat → Int64) (gw1 : Nat → Int32) (gl1 : Nat → Int32) (gh1 : Nat → Int32) (gt1 : Nat → Int64) (gy1 : Nat → Int32) (gq1 : Nat → Int32) (ge11 : Nat → Int32) (gn11 : Nat → Int32) (gp11 : Nat → Int32) (gs1 : Nat → Int32) (gx11 : Nat → Int32) (gx21 : Nat → Int32) (gx31 : Nat → Int32) (ln1 : Nat → Nat) (fz1 : Nat → Nat) (sq1 : Nat → Nat), (u11 = u1) ∧ (u21 = u2) ∧ (u31 = u3) ∧ (gv1 = gv) ∧ (nl1 = nl) ∧ (gu1 = gu) ∧ (nn1 = nn) ∧ (gk1 = gk) ∧ (ln1 = ln) ∧ (gw1 = gw) ∧ (gh1 = gh) ∧ (gc1 = gc) ∧ (nf1 = nf) ∧ (fz1 = fz) ∧ (gq1 = gq) ∧ (nc1 = nc) ∧ (ge11 = ge1) ∧ (gn11 = gn1) ∧ (sq1 = sq) ∧ (ks1 = ks) ∧ (gx11 = gx1) ∧ (gx21 = gx2) ∧ (gx31 = gx3) ∧ (zYR nc x ge1 gp1 sq lk r gp11 lk1) ∧ zIM cy f1 o wev wnb wki wmy wce wiw wli wha wwt wfy wfk wem wna wpl whs wk1 wk2 wk3 u11 u21 u31 nl1 nn1 nf1 nc1 lk1 ks1 gv1 gu1 gk1 gm1 gc1 gw1 gl1 gh1 gt1 gy1 gq1 ge11 gn11 gp11 gs1 gx11 gx21 gx31 ln1 fz1 sq1) (zB D f s.heap.size) (zA f s.heap.size)) ([.ref o, .int x] : List Value).toArray s rmX8_reorder.cells rmX8_reorder.slots (zA f s.heap.size)) (F0 m 19 ls []) := by
      intro n
      induction n with
      | zero => intro kx gpv lkv fL10 H locs ls hmz; exact absurd hmz (Nat.not_lt_zero _)
      | succ n ih =>
        intro kx gpv lkv fL10 H locs ls hmz hks hs60 hMEv hsg hlkv a12 a13 k11 hz hS hl
        refine lv_iload_n hx hb dX8_reorder_19 rfl (lv_at hl 2 rfl) ?_
        refine lv_if_le (tgt := 99) hx hb dX8_reorder_20 (by decide) (fun c14 => ?_) (fun c14 => ?_)
        · have hfin := hsg _ _ (zSG_0 (z_k2m (by omega) c14))
          refine lv_aload_n hx hb dX8_reorder_99 rfl (lv_at hl 0 rfl) ?_
          refine z_get (v := .ref whs) C hz a12 zl8 mFX8_58 (by decide) rfl dX8_reorder_100 ?_
          refine lv_iload_n hx hb dX8_reorder_103 rfl (lv_at hl 1 rfl) ?_
          have a15 : f1 wpl = some (.inl (cy 0, 60, .inl gp1)) := k3 _ _ x_wpl 
          have a16 : fL10 whs = some (.inl (cy 0, 4, .inl gs)) := k11 _ _ a6 (z_ne a6 a5 rfl) (z_ne a6 a15 rfl)
          refine z_iald j C hz a16 hxj hj (by omega) dX8_reorder_104 ?_
          refine lv_topi (fun y17 e18 => ?_)
          obtain rfl : y17 = nI (sq j) := e18.trans (hgs j hj)
          have a19 : f1 wev = some (.inl (cy 0, 8, .inl gv)) := k3 _ _ x_wev 
          have a20 : fL10 wev = some (.inl (cy 0, 8, .inl gv)) := k11 _ _ a19 (z_ne a19 a5 rfl) (z_ne a19 a15 rfl)
          have a21 : f1 wnb = some (.inl (cy 0, 12, .inl gu)) := k3 _ _ x_wnb 
          have a22 : fL10 wnb = some (.inl (cy 0, 12, .inl gu)) := k11 _ _ a21 (z_ne a21 a5 rfl) (z_ne a21 a15 rfl)
          have a23 : f1 wki = some (.inl (cy 0, 60, .inl gk)) := k3 _ _ x_wki 
          have a24 : fL10 wki = some (.inl (cy 0, 60, .inl gk)) := k11 _ _ a23 (z_ne a23 a5 rfl) n_wki_wpl
          have a25 : f1 wmy = some (.inl (cy 0, 60, .inl gm)) := k3 _ _ x_wmy 
          have a26 : fL10 wmy = some (.inl (cy 0, 60, .inl gm)) := k11 _ _ a25 (z_ne a25 a5 rfl) n_wmy_wpl
          have a27 : f1 wce = some (.inl (cy 1, 960, .inr (.inl gc))) := k3 _ _ x_wce 
          have a28 : fL10 wce = some (.inl (cy 1, 960, .inr (.inl gc))) := k11 _ _ a27 (z_ne a27 a5 rfl) (z_ne a27 a15 rfl)
          have a29 : f1 wiw = some (.inl (cy 2, 60, .inl gw)) := k3 _ _ x_wiw 
          have a30 : fL10 wiw = some (.inl (cy 2, 60, .inl gw)) := k11 _ _ a29 (z_ne a29 a5 rfl) n_wiw_wpl
          have a31 : f1 wli = some (.inl (cy 0, 60, .inl gl)) := k3 _ _ x_wli 
          have a32 : fL10 wli = some (.inl (cy 0, 60, .inl gl)) := k11 _ _ a31 (z_ne a31 a5 rfl) n_wli_wpl
          have a33 : f1 wha = some (.inl (cy 0, 60, .inl gh)) := k3 _ _ x_wha 
          have a34 : fL10 wha = some (.inl (cy 0, 60, .inl gh)) := k11 _ _ a33 (z_ne a33 a5 rfl) n_wha_wpl
          have a35 : f1 wwt = some (.inl (cy 1, 60, .inr (.inl gt))) := k3 _ _ x_wwt 
          have a36 : fL10 wwt = some (.inl (cy 1, 60, .inr (.inl gt))) := k11 _ _ a35 (z_ne a35 a5 rfl) (z_ne a35 a15 rfl)
          have a37 : f1 wfy = some (.inl (cy 0, 6, .inl gy)) := k3 _ _ x_wfy 
          have a38 : fL10 wfy = some (.inl (cy 0, 6, .inl gy)) := k11 _ _ a37 (z_ne a37 a5 rfl) (z_ne a37 a15 rfl)
          have a39 : f1 wfk = some (.inl (cy 0, 24, .inl gq)) := k3 _ _ x_wfk 
          have a40 : fL10 wfk = some (.inl (cy 0, 24, .inl gq)) := k11 _ _ a39 (z_ne a39 a5 rfl) (z_ne a39 a15 rfl)
          have a41 : f1 wem = some (.inl (cy 0, 60, .inl ge1)) := k3 _ _ x_wem 
          have a42 : fL10 wem = some (.inl (cy 0, 60, .inl ge1)) := k11 _ _ a41 (z_ne a41 a5 rfl) n_wem_wpl
          have a43 : f1 wna = some (.inl (cy 0, 60, .inl gn1)) := k3 _ _ x_wna 
          have a44 : fL10 wna = some (.inl (cy 0, 60, .inl gn1)) := k11 _ _ a43 (z_ne a43 a5 rfl) n_wna_wpl
          have a45 : f1 wk1 = some (.inl (cy 0, 40, .inl gx1)) := k3 _ _ x_wk1 
          have a46 : fL10 wk1 = some (.inl (cy 0, 40, .inl gx1)) := k11 _ _ a45 (z_ne a45 a5 rfl) (z_ne a45 a15 rfl)
          have a47 : f1 wk2 = some (.inl (cy 0, 40, .inl gx2)) := k3 _ _ x_wk2 
          have a48 : fL10 wk2 = some (.inl (cy 0, 40, .inl gx2)) := k11 _ _ a47 (z_ne a47 a5 rfl) (z_ne a47 a15 rfl)
          have a49 : f1 wk3 = some (.inl (cy 0, 40, .inl gx3)) := k3 _ _ x_wk3 
          have a50 : fL10 wk3 = some (.inl (cy 0, 40, .inl gx3)) := k11 _ _ a49 (z_ne a49 a5 rfl) (z_ne a49 a15 rfl)
          exact z_iret C hr rfl hz hS ⟨u1, u2, u3, nl, nn, nf, nc, lkv, ks, gv, gu, gk, gm, gc, gw, gl, gh, gt, gy, gq, ge1, gn1, gpv, gs, gx1, gx2, gx3, ln, fz, sq, rfl, rfl, rfl, rfl, rfl, rfl, rfl, rfl, rfl, rfl, rfl, rfl, rfl, rfl, rfl, rfl, rfl, rfl, rfl, rfl, rfl, rfl, rfl, (Or.inl ⟨j, hj, hxj, rfl, hfin⟩), ⟨a12, a20, a22, a24, a26, a28, a30, a32, a34, a36, a38, a40, a42, a44, a13, a16, a46, a48, a50, hn60, hl12, hf6, hc60, hs40, hMP, hgy, hfz, hgs, hMEv, hlkv, hgw, hfd, n_wki_wmy, n_wki_wiw, n_wki_wli, n_wki_wha, n_wki_wem, n_wki_wna, n_wki_wpl, n_wmy_wiw, n_wmy_wli, n_wmy_wha, n_wmy_wem, n_wmy_wna, n_wmy_wpl, n_wiw_wli, n_wiw_wha, n_wiw_wem, n_wiw_wna, n_wiw_wpl, n_wli_wha, n_wli_wem, n_wli_wna, n_wli_wpl, n_wha_wem, n_wha_wna, n_wha_wpl, n_wem_wna, n_wem_wpl, n_wna_wpl, n_wk1_wk2, n_wk1_wk3, n_wk2_wk3⟩⟩ (Nat.le_of_ble_eq_true rfl) (Nat.le_of_ble_eq_true rfl) dX8_reorder_105
        · have hk2 := z_k2' (k := kx) (by omega) c14
          obtain ⟨la, hla, hlal⟩ := hlkv
          refine lv_aload_n hx hb dX8_reorder_23 rfl (lv_at hl 0 rfl) ?_
          refine lv_aload_n hx hb dX8_reorder_24 rfl (lv_at hl 0 rfl) ?_
          refine z_get (v := .long lkv) C hz a12 zl8 mFX8_61 (by decide) rfl dX8_reorder_25 ?_
          refine lv_ldc2 (v := 48271) hx hb C.2.2.2.1 (C.2.2.2.2.1 _ mKX8_205) dX8_reorder_28 ?_
          refine lv_lmul hx hb dX8_reorder_31 ?_
          refine lv_ldc2 (v := 2147483647) hx hb C.2.2.2.1 (C.2.2.2.2.1 _ mKX8_207) dX8_reorder_32 ?_
          refine lv_lrem hx hb dX8_reorder_35 (by decide) ?_
          refine lv_topl (fun y51 e52 => ?_)
          obtain rfl : y51 = zDR lkv := e52.trans (by rw [hlal, zDR_l hla]; exact z_lk hla)
          refine z_put (fs' := [.int u1, .int u2, .int u3, .ref wev, .int (nI nl), .ref wnb, .int (nI nn), .ref wki, .ref wmy, .ref wce, .ref wiw, .ref wli, .ref wha, .ref wwt, .int (nI nf), .ref wfy, .ref wfk, .int (nI nc), .ref wem, .ref wna, .ref wpl, .ref whs, .long (zDR lkv), .int (nI ks), .ref wk1, .ref wk2, .ref wk3]) C hz hS a12 zl8 mFX8_61 (by decide) rfl rfl rfl (Nat.le_of_ble_eq_true rfl) rfl dX8_reorder_36 (fun H locs f53 a54 k55 hz hS => ?_)
          refine lv_aload_n hx hb dX8_reorder_39 rfl (lv_at hl 0 rfl) ?_
          refine z_get (v := .long (zDR lkv)) C hz a54 zl8 mFX8_61 (by decide) rfl dX8_reorder_40 ?_
          refine lv_iload_n hx hb dX8_reorder_43 rfl (lv_at hl 2 rfl) ?_
          refine lv_iconst (v := 1) hx hb dX8_reorder_44 (by decide) ?_
          refine lv_iadd hx hb dX8_reorder_45 ?_
          refine lv_topi (fun y56 e57 => ?_)
          obtain rfl : y56 = nI kx := e57.trans (by rw [show nI kx - 1 = nI (kx - 1) from pk_sub (a := kx) (b := 1) (by omega)]; exact (nI_1 (kx - 1)).trans (by rw [show kx - 1 + 1 = kx by omega]))
          refine lv_i2l (v := (nI kx).toInt64) hx hb dX8_reorder_46 rfl ?_
          refine lv_lrem hx hb dX8_reorder_47 (z_knz (by omega) (by omega)) ?_
          refine lv_topl (fun y58 e59 => ?_)
          obtain rfl : y58 = lN (zLN (zDR lkv) % kx) := e59.trans (by rw [hlal, zDR_l hla, zLN_l (Nat.mod_lt _ (by omega))]; exact z_lm (Nat.mod_lt _ (by omega)) (by omega) (by omega))
          refine lv_l2i (v := (lN (zLN (zDR lkv) % kx)).toInt32) hx hb dX8_reorder_48 rfl ?_
          refine lv_topi (fun y60 e61 => ?_)
          obtain rfl : y60 = nI (zLN (zDR lkv) % kx) := e61.trans (lN_i _)
          refine lv_istore_n (lv' := [(3, .int (nI (zLN (zDR lkv) % kx))), (0, .ref o), (1, .int x), (2, .int (nI kx - 1))]) hx hb dX8_reorder_49 rfl hl (by decide) rfl (fun ls hl => ?_)
          refine lv_aload_n hx hb dX8_reorder_50 rfl (lv_at hl 1 rfl) ?_
          refine lv_iload_n hx hb dX8_reorder_51 rfl (lv_at hl 2 rfl) ?_
          refine lv_iload_n hx hb dX8_reorder_52 rfl (lv_at hl 3 rfl) ?_
          refine lv_topi (fun y62 e63 => ?_)
          obtain rfl : y62 = nI (kx - 1) := e63.trans (pk_sub (a := kx) (b := 1) (by omega))
          have a64 : f1 wem = some (.inl (cy 0, 60, .inl ge1)) := k3 _ _ x_wem 
          have a65 : f1 wpl = some (.inl (cy 0, 60, .inl gp1)) := k3 _ _ x_wpl 
          have a66 : fL10 wem = some (.inl (cy 0, 60, .inl ge1)) := k11 _ _ a64 (z_ne a64 a5 rfl) n_wem_wpl
          have a67 : f53 wem = some (.inl (cy 0, 60, .inl ge1)) := (k55 _ (z_ne a66 a12 rfl)).trans a66
          have a68 : f53 wpl = some (.inl (cy 0, 60, .inl gpv)) := (k55 _ (z_ne a13 a12 rfl)).trans a13
          refine z_callVi (As := [.int x, .int (nI (kx - 1))]) C hz hS hA hl (k_X8_constantAt l D cy f53 o wev wnb wki wmy wce wiw wli wha wwt wfy wfk wem wna wpl whs wk1 wk2 wk3 u1 u2 u3 nl nn nf nc (zDR lkv) ks ge1 gpv x (nI (kx - 1)) a54 a67 a68 hc60) zyX8_constantAt mMX8_209 a54 zl8 rfl rfl (Nat.le_of_ble_eq_true rfl) ⟨Nat.le_of_ble_eq_true rfl, Nat.le_of_ble_eq_true rfl⟩ ⟨Nat.le_of_ble_eq_true rfl, Nat.le_of_ble_eq_true rfl⟩ dX8_reorder_53 (fun r71 f69 H locs h70 hz hS => ?_)
          obtain ⟨pq72, k73⟩ := h70
          obtain ⟨ca, hca, hrca, heca, hpca⟩ := z_cat hMEv pq72 hj hxj rfl (by omega)
          refine lv_topi (fun y74 e75 => ?_)
          obtain rfl : y74 = nI ca := e75.trans hrca
          refine lv_istore (lv' := [(4, .int (nI ca)), (3, .int (nI (zLN (zDR lkv) % kx))), (0, .ref o), (1, .int x), (2, .int (nI kx - 1))]) hx hb dX8_reorder_56 hl (by decide) rfl (fun ls hl => ?_)
          refine lv_aload_n hx hb dX8_reorder_58 rfl (lv_at hl 2 rfl) ?_
          refine lv_iload_n hx hb dX8_reorder_59 rfl (lv_at hl 3 rfl) ?_
          refine lv_iload_n hx hb dX8_reorder_60 rfl (lv_at hl 1 rfl) ?_
          have a76 : f69 o = some (.inr (8, [.int u1, .int u2, .int u3, .ref wev, .int (nI nl), .ref wnb, .int (nI nn), .ref wki, .ref wmy, .ref wce, .ref wiw, .ref wli, .ref wha, .ref wwt, .int (nI nf), .ref wfy, .ref wfk, .int (nI nc), .ref wem, .ref wna, .ref wpl, .ref whs, .long (zDR lkv), .int (nI ks), .ref wk1, .ref wk2, .ref wk3])) := k73 _ _ a54 
          have a77 : f69 wem = some (.inl (cy 0, 60, .inl ge1)) := k73 _ _ a67 
          have a78 : f69 wpl = some (.inl (cy 0, 60, .inl gpv)) := k73 _ _ a68 
          refine z_callVi (As := [.int x, .int (nI (zLN (zDR lkv) % kx))]) C hz hS hA hl (k_X8_constantAt l D cy f69 o wev wnb wki wmy wce wiw wli wha wwt wfy wfk wem wna wpl whs wk1 wk2 wk3 u1 u2 u3 nl nn nf nc (zDR lkv) ks ge1 gpv x (nI (zLN (zDR lkv) % kx)) a76 a77 a78 hc60) zyX8_constantAt mMX8_209 a76 zl8 rfl rfl (Nat.le_of_ble_eq_true rfl) ⟨Nat.le_of_ble_eq_true rfl, Nat.le_of_ble_eq_true rfl⟩ ⟨Nat.le_of_ble_eq_true rfl, Nat.le_of_ble_eq_true rfl⟩ dX8_reorder_61 (fun r81 f79 H locs h80 hz hS => ?_)
          obtain ⟨pq82, k83⟩ := h80
          obtain ⟨cb, hcb, hrcb, hecb, hpcb⟩ := z_cat hMEv pq82 hj hxj rfl (Nat.lt_of_lt_of_le (Nat.mod_lt _ (by omega)) hks)
          refine lv_topi (fun y84 e85 => ?_)
          obtain rfl : y84 = nI cb := e85.trans hrcb
          refine lv_istore (lv' := [(5, .int (nI cb)), (4, .int (nI ca)), (3, .int (nI (zLN (zDR lkv) % kx))), (0, .ref o), (1, .int x), (2, .int (nI kx - 1))]) hx hb dX8_reorder_64 hl (by decide) rfl (fun ls hl => ?_)
          refine lv_aload_n hx hb dX8_reorder_66 rfl (lv_at hl 3 rfl) ?_
          have a86 : f79 o = some (.inr (8, [.int u1, .int u2, .int u3, .ref wev, .int (nI nl), .ref wnb, .int (nI nn), .ref wki, .ref wmy, .ref wce, .ref wiw, .ref wli, .ref wha, .ref wwt, .int (nI nf), .ref wfy, .ref wfk, .int (nI nc), .ref wem, .ref wna, .ref wpl, .ref whs, .long (zDR lkv), .int (nI ks), .ref wk1, .ref wk2, .ref wk3])) := k83 _ _ a76 
          refine z_get (v := .ref wpl) C hz a86 zl8 mFX8_55 (by decide) rfl dX8_reorder_67 ?_
          refine lv_iload hx hb dX8_reorder_70 (lv_at hl 1 rfl) ?_
          refine lv_iload_n hx hb dX8_reorder_72 rfl (lv_at hl 2 rfl) ?_
          have a87 : f79 wpl = some (.inl (cy 0, 60, .inl gpv)) := k83 _ _ a78 
          refine z_iast ca C hz hS a87 rfl (by omega) (by omega) dX8_reorder_73 (fun H locs f88 a89 k90 hz hS => ?_)
          refine lv_aload_n hx hb dX8_reorder_74 rfl (lv_at hl 3 rfl) ?_
          have a91 : f88 o = some (.inr (8, [.int u1, .int u2, .int u3, .ref wev, .int (nI nl), .ref wnb, .int (nI nn), .ref wki, .ref wmy, .ref wce, .ref wiw, .ref wli, .ref wha, .ref wwt, .int (nI nf), .ref wfy, .ref wfk, .int (nI nc), .ref wem, .ref wna, .ref wpl, .ref whs, .long (zDR lkv), .int (nI ks), .ref wk1, .ref wk2, .ref wk3])) := (k90 _ (z_ne a86 a87 rfl)).trans a86
          refine z_get (v := .ref wpl) C hz a91 zl8 mFX8_55 (by decide) rfl dX8_reorder_75 ?_
          refine lv_iload hx hb dX8_reorder_78 (lv_at hl 0 rfl) ?_
          refine lv_iload hx hb dX8_reorder_80 (lv_at hl 1 rfl) ?_
          refine lv_iload hx hb dX8_reorder_82 (lv_at hl 0 rfl) ?_
          refine lv_icmp_ne (tgt := 91) hx hb dX8_reorder_84 (by decide) (fun c92 => ?_) (fun c92 => ?_)
          · replace c92 : ¬ (ca = cb) := fun h => c92 ((nI_eq (a := ca) (b := cb) (by omega) (by omega)).mpr h)
            refine lv_iload_n hx hb dX8_reorder_91 rfl (lv_at hl 5 rfl) ?_
            refine lv_topi (fun y93 e94 => ?_)
            obtain rfl : y93 = nI (kx - 1) := e94.trans (pk_sub (a := kx) (b := 1) (by omega))
            refine z_iast cb C hz hS a89 rfl (by omega) (by omega) dX8_reorder_92 (fun H locs f95 a96 k97 hz hS => ?_)
            refine lv_iinc (v := nI (kx - 1) - 1) (lv' := [(2, .int (nI (kx - 1) - 1)), (5, .int (nI cb)), (4, .int (nI ca)), (3, .int (nI (zLN (zDR lkv) % kx))), (0, .ref o), (1, .int x)]) hx hb dX8_reorder_93 hl (k := 5) rfl (z_km (by omega)) (by decide) rfl (fun ls hl => ?_)
            refine lv_goto (tgt := 19) hx hb dX8_reorder_96 (by decide) ?_
            have a98 : f95 o = some (.inr (8, [.int u1, .int u2, .int u3, .ref wev, .int (nI nl), .ref wnb, .int (nI nn), .ref wki, .ref wmy, .ref wce, .ref wiw, .ref wli, .ref wha, .ref wwt, .int (nI nf), .ref wfy, .ref wfk, .int (nI nc), .ref wem, .ref wna, .ref wpl, .ref whs, .long (zDR lkv), .int (nI ks), .ref wk1, .ref wk2, .ref wk3])) := (k97 _ (z_ne a91 a89 rfl)).trans a91
            exact ih (kx - 1) (upd (upd gpv ca (nI (zLN (zDR lkv) % kx))) cb (nI (kx - 1))) (zDR lkv) _ _ _ _ (by omega) (by omega) (by omega) (zME_swap hMEv hca hcb heca hecb hpca hpcb) (fun g9 l9 h9 => hsg g9 l9 (zSG_st hk2 hca hcb heca hecb hpca hpcb (by rw [if_neg c92]) h9)) ⟨_, Nat.mod_lt _ (by omega), by rw [hlal]; exact zDR_l hla⟩ a98 a96 (by
                  intro b e hb n0 n1
                  have hb1 : fL10 b = some e := k11 b e hb n0 n1
                  have hb2 : f53 b = some e := (k55 b n0).trans hb1
                  have hb3 : f69 b = some e := k73 b e hb2 
                  have hb4 : f79 b = some e := k83 b e hb3 
                  have hb5 : f88 b = some e := (k90 b n1).trans hb4
                  have hb6 : f95 b = some e := (k97 b n1).trans hb5
                  exact hb6) hz hS (lv_sub hl [4, 5, 0] rfl)
          · replace c92 : (ca = cb) := (nI_eq (a := ca) (b := cb) (by omega) (by omega)).mp c92
            refine lv_iload_n hx hb dX8_reorder_87 rfl (lv_at hl 2 rfl) ?_
            refine lv_goto (tgt := 92) hx hb dX8_reorder_88 (by decide) ?_
            refine z_iast cb C hz hS a89 rfl (by omega) (by omega) dX8_reorder_92 (fun H locs f99 a100 k101 hz hS => ?_)
            refine lv_iinc (v := nI (kx - 1) - 1) (lv' := [(2, .int (nI (kx - 1) - 1)), (5, .int (nI cb)), (4, .int (nI ca)), (3, .int (nI (zLN (zDR lkv) % kx))), (0, .ref o), (1, .int x)]) hx hb dX8_reorder_93 hl (k := 5) rfl (z_km (by omega)) (by decide) rfl (fun ls hl => ?_)
            refine lv_goto (tgt := 19) hx hb dX8_reorder_96 (by decide) ?_
            have a102 : f99 o = some (.inr (8, [.int u1, .int u2, .int u3, .ref wev, .int (nI nl), .ref wnb, .int (nI nn), .ref wki, .ref wmy, .ref wce, .ref wiw, .ref wli, .ref wha, .ref wwt, .int (nI nf), .ref wfy, .ref wfk, .int (nI nc), .ref wem, .ref wna, .ref wpl, .ref whs, .long (zDR lkv), .int (nI ks), .ref wk1, .ref wk2, .ref wk3])) := (k101 _ (z_ne a91 a89 rfl)).trans a91
            exact ih (kx - 1) (upd (upd gpv ca (nI (zLN (zDR lkv) % kx))) cb (nI (zLN (zDR lkv) % kx))) (zDR lkv) _ _ _ _ (by omega) (by omega) (by omega) (zME_swapE hMEv hca hcb heca hecb hpca hpcb c92) (fun g9 l9 h9 => hsg g9 l9 (zSG_st hk2 hca hcb heca hecb hpca hpcb (by rw [if_pos c92]) h9)) ⟨_, Nat.mod_lt _ (by omega), by rw [hlal]; exact zDR_l hla⟩ a102 a100 (by
                  intro b e hb n0 n1
                  have hb1 : fL10 b = some e := k11 b e hb n0 n1
                  have hb2 : f53 b = some e := (k55 b n0).trans hb1
                  have hb3 : f69 b = some e := k73 b e hb2 
                  have hb4 : f79 b = some e := k83 b e hb3 
                  have hb5 : f88 b = some e := (k90 b n1).trans hb4
                  have hb6 : f99 b = some e := (k101 b n1).trans hb5
                  exact hb6) hz hS (lv_sub hl [4, 5, 0] rfl)
    have a103 : f1 wpl = some (.inl (cy 0, 60, .inl gp1)) := k3 _ _ x_wpl 
    exact lp9 ((sq j) + 1) (sq j) gp1 lk _ _ _ _ (Nat.lt_succ_self _) (by omega) (Nat.le_trans (hME.2.2.2.2 j hj) hc60) hME (fun _ _ h9 => h9) hlk a5 a103 (fun b e hb n0 n1 => hb) hz hS (lv_sub hl [1, 2, 0] rfl)
  · refine lv_iload_n hx hb dX8_reorder_0 rfl (lv_at hl 1 rfl) ?_
    refine z_callSi (As := [.int x]) C hz hS hA hl (k_X8_isEnumeration_B l D cy f x  he) zyX8_isEnumeration mMX8_196 rfl rfl (Nat.le_of_ble_eq_true rfl) ⟨Nat.le_of_ble_eq_true rfl, Nat.le_of_ble_eq_true rfl⟩ ⟨Nat.le_of_ble_eq_true rfl, Nat.le_of_ble_eq_true rfl⟩ dX8_reorder_1 (fun r f104 H locs h105 hz hS => ?_)
    obtain ⟨rfl, k106⟩ := h105
    refine lv_if_ne (tgt := 10) hx hb dX8_reorder_4 (by decide) (fun c107 => ?_) (fun c107 => ?_)
    · exact absurd c107 (by decide)
    refine lv_bipush (v := (-2)) hx hb dX8_reorder_7 (by decide) ?_
    have a108 : f104 o = some (.inr (8, [.int u1, .int u2, .int u3, .ref wev, .int (nI nl), .ref wnb, .int (nI nn), .ref wki, .ref wmy, .ref wce, .ref wiw, .ref wli, .ref wha, .ref wwt, .int (nI nf), .ref wfy, .ref wfk, .int (nI nc), .ref wem, .ref wna, .ref wpl, .ref whs, .long lk, .int (nI ks), .ref wk1, .ref wk2, .ref wk3])) := k106 _ _ x_o 
    have a109 : f104 wev = some (.inl (cy 0, 8, .inl gv)) := k106 _ _ x_wev 
    have a110 : f104 wnb = some (.inl (cy 0, 12, .inl gu)) := k106 _ _ x_wnb 
    have a111 : f104 wki = some (.inl (cy 0, 60, .inl gk)) := k106 _ _ x_wki 
    have a112 : f104 wmy = some (.inl (cy 0, 60, .inl gm)) := k106 _ _ x_wmy 
    have a113 : f104 wce = some (.inl (cy 1, 960, .inr (.inl gc))) := k106 _ _ x_wce 
    have a114 : f104 wiw = some (.inl (cy 2, 60, .inl gw)) := k106 _ _ x_wiw 
    have a115 : f104 wli = some (.inl (cy 0, 60, .inl gl)) := k106 _ _ x_wli 
    have a116 : f104 wha = some (.inl (cy 0, 60, .inl gh)) := k106 _ _ x_wha 
    have a117 : f104 wwt = some (.inl (cy 1, 60, .inr (.inl gt))) := k106 _ _ x_wwt 
    have a118 : f104 wfy = some (.inl (cy 0, 6, .inl gy)) := k106 _ _ x_wfy 
    have a119 : f104 wfk = some (.inl (cy 0, 24, .inl gq)) := k106 _ _ x_wfk 
    have a120 : f104 wem = some (.inl (cy 0, 60, .inl ge1)) := k106 _ _ x_wem 
    have a121 : f104 wna = some (.inl (cy 0, 60, .inl gn1)) := k106 _ _ x_wna 
    have a122 : f104 wpl = some (.inl (cy 0, 60, .inl gp1)) := k106 _ _ x_wpl 
    have a123 : f104 whs = some (.inl (cy 0, 4, .inl gs)) := k106 _ _ x_whs 
    have a124 : f104 wk1 = some (.inl (cy 0, 40, .inl gx1)) := k106 _ _ x_wk1 
    have a125 : f104 wk2 = some (.inl (cy 0, 40, .inl gx2)) := k106 _ _ x_wk2 
    have a126 : f104 wk3 = some (.inl (cy 0, 40, .inl gx3)) := k106 _ _ x_wk3 
    exact z_iret C hr rfl hz hS ⟨u1, u2, u3, nl, nn, nf, nc, lk, ks, gv, gu, gk, gm, gc, gw, gl, gh, gt, gy, gq, ge1, gn1, gp1, gs, gx1, gx2, gx3, ln, fz, sq, rfl, rfl, rfl, rfl, rfl, rfl, rfl, rfl, rfl, rfl, rfl, rfl, rfl, rfl, rfl, rfl, rfl, rfl, rfl, rfl, rfl, rfl, rfl, (Or.inr ⟨he, rfl, rfl, rfl⟩), ⟨a108, a109, a110, a111, a112, a113, a114, a115, a116, a117, a118, a119, a120, a121, a122, a123, a124, a125, a126, hn60, hl12, hf6, hc60, hs40, hMP, hgy, hfz, hgs, hME, hlk, hgw, hfd, n_wki_wmy, n_wki_wiw, n_wki_wli, n_wki_wha, n_wki_wem, n_wki_wna, n_wki_wpl, n_wmy_wiw, n_wmy_wli, n_wmy_wha, n_wmy_wem, n_wmy_wna, n_wmy_wpl, n_wiw_wli, n_wiw_wha, n_wiw_wem, n_wiw_wna, n_wiw_wpl, n_wli_wha, n_wli_wem, n_wli_wna, n_wli_wpl, n_wha_wem, n_wha_wna, n_wha_wpl, n_wem_wna, n_wem_wpl, n_wna_wpl, n_wk1_wk2, n_wk1_wk3, n_wk2_wk3⟩⟩ (Nat.le_of_ble_eq_true rfl) (Nat.le_of_ble_eq_true rfl) dX8_reorder_9
