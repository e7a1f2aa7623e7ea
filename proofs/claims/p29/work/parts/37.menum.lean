abbrev rmX8_named : Room := { frames := 1, cells := 0, slots := 0, locals := 23 }
set_option maxHeartbeats 4000000 in
set_option maxRecDepth 100000 in
theorem k_X8_named (l : Launch) (D : va_G) (cy : Nat → ClassId) (f : zM) (o : Nat) (wev : Nat) (wnb : Nat) (wki : Nat) (wmy : Nat) (wce : Nat) (wiw : Nat) (wli : Nat) (wha : Nat) (wwt : Nat) (wfy : Nat) (wfk : Nat) (wem : Nat) (wna : Nat) (wpl : Nat) (whs : Nat) (wk1 : Nat) (wk2 : Nat) (wk3 : Nat) (u1 : Int32) (u2 : Int32) (u3 : Int32) (nl : Nat) (nn : Nat) (nf : Nat) (nc : Nat) (lk : Int64) (ks : Nat) (gv : Nat → Int32) (gu : Nat → Int32) (gk : Nat → Int32) (gm : Nat → Int32) (gc : Nat → Int64) (gw : Nat → Int32) (gl : Nat → Int32) (gh : Nat → Int32) (gt : Nat → Int64) (gy : Nat → Int32) (gq : Nat → Int32) (ge1 : Nat → Int32) (gn1 : Nat → Int32) (gp1 : Nat → Int32) (gs : Nat → Int32) (gx1 : Nat → Int32) (gx2 : Nat → Int32) (gx3 : Nat → Int32) (ln : Nat → Nat) (fz : Nat → Nat) (sq : Nat → Nat) (x : Int32) (y : Int32)    (hI : zIM cy f o wev wnb wki wmy wce wiw wli wha wwt wfy wfk wem wna wpl whs wk1 wk2 wk3 u1 u2 u3 nl nn nf nc lk ks gv gu gk gm gc gw gl gh gt gy gq ge1 gn1 gp1 gs gx1 gx2 gx3 ln fz sq) : zCi l D cy yX8_named cX8_named 4 (Option.some Jvm.ClassFile.FieldType.int) rmX8_named [.ref o, .int x, .int y] f (fun (r : Int32) (f1 : zM) => ∃ (u11 : Int32) (u21 : Int32) (u31 : Int32) (nl1 : Nat) (nn1 : Nat) (nf1 : Nat) (nc1 : Nat) (lk1 : Int64) (ks1 : Nat) (gv1 : Nat → Int32) (gu1 : Nat → Int32) (gk1 : Nat → Int32) (gm1 : Nat → Int32) (gc1 : Nat → Int64) (gw1 : Nat → Int32) (gl1 : Nat → Int32) (gh1 : Nat → Int32) (gt1 : Nat → Int64) (gy1 : Nat → Int32) (gq1 : Nat → Int32) (ge11 : Nat → Int32) (gn11 : Nat → Int32) (gp11 : Nat → Int32) (gs1 : Nat → Int32) (gx11 : Nat → Int32) (gx21 : Nat → Int32) (gx31 : Nat → Int32) (ln1 : Nat → Nat) (fz1 : Nat → Nat) (sq1 : Nat → Nat), (u11 = if r = (-4) then 1 else 0) ∧ (u21 = (-1)) ∧ (u31 = 0) ∧ (gv1 = if r = (-4) then upd gv 1 (gv 1 + 1) else gv) ∧ (nl1 = nl) ∧ (gu1 = gu) ∧ (nn1 = nn) ∧ (gk1 = gk) ∧ (ln1 = ln) ∧ (gw1 = gw) ∧ (gh1 = gh) ∧ (gc1 = gc) ∧ (nf1 = nf) ∧ (fz1 = fz) ∧ (gq1 = gq) ∧ (nc1 = nc) ∧ (ge11 = ge1) ∧ (gn11 = gn1) ∧ (gp11 = gp1) ∧ (sq1 = sq) ∧ (ks1 = ks) ∧ (gx11 = gx1) ∧ (gx21 = gx2) ∧ (gx31 = gx3) ∧ (lk1 = lk) ∧ (zYN x y nc ge1 gn1 gp1 r) ∧ zIM cy f1 o wev wnb wki wmy wce wiw wli wha wwt wfy wfk wem wna wpl whs wk1 wk2 wk3 u11 u21 u31 nl1 nn1 nf1 nc1 lk1 ks1 gv1 gu1 gk1 gm1 gc1 gw1 gl1 gh1 gt1 gy1 gq1 ge11 gn11 gp11 gs1 gx11 gx21 gx31 ln1 fz1 sq1) := by
  intro sz
  refine z_body (by decide +kernel) (Nat.le_of_ble_eq_true rfl) ?_
  intro p e s m below meth c ls C hr hin hsz hz hl
  subst hsz
  have hx := C.1
  have hb := C.2.1
  have hA : ∀ q, s.heap.size ≤ q → zA f s.heap.size q := fun q h => Or.inr h
  have hS : va_S (zA f s.heap.size) s.heap s.heap [] := va_S.rf
  have hl : lv_has ls 4 [(0, .ref o), (1, .int x), (2, .int y)] := hl
  obtain ⟨x_o, x_wev, x_wnb, x_wki, x_wmy, x_wce, x_wiw, x_wli, x_wha, x_wwt, x_wfy, x_wfk, x_wem, x_wna, x_wpl, x_whs, x_wk1, x_wk2, x_wk3, hn60, hl12, hf6, hc60, hs40, hMP, hgy, hfz, hgs, hME, hlk, hgw, hfd, n_wki_wmy, n_wki_wiw, n_wki_wli, n_wki_wha, n_wki_wem, n_wki_wna, n_wki_wpl, n_wmy_wiw, n_wmy_wli, n_wmy_wha, n_wmy_wem, n_wmy_wna, n_wmy_wpl, n_wiw_wli, n_wiw_wha, n_wiw_wem, n_wiw_wna, n_wiw_wpl, n_wli_wha, n_wli_wem, n_wli_wna, n_wli_wpl, n_wha_wem, n_wha_wna, n_wha_wpl, n_wem_wna, n_wem_wpl, n_wna_wpl, n_wk1_wk2, n_wk1_wk3, n_wk2_wk3⟩ := id hI
  by_cases he : 0 ≤ x ∧ x < 4
  · obtain ⟨j, hj, hxj⟩ := z_ix4 he
    have hIj : fI x = j := fI_of (by omega) hxj
    refine lv_aload_n hx hb dX8_named_0 rfl (lv_at hl 0 rfl) ?_
    refine z_callVv (As := []) C hz hS hA hl (k_X8_begin l D cy f o wev wnb wki wmy wce wiw wli wha wwt wfy wfk wem wna wpl whs wk1 wk2 wk3 u1 u2 u3 nl nn nf nc lk ks x_o ) zyX8_begin mMX8_116 x_o zl8 rfl rfl (Nat.le_of_ble_eq_true rfl) ⟨Nat.le_of_ble_eq_true rfl, Nat.le_of_ble_eq_true rfl⟩ ⟨Nat.le_of_ble_eq_true rfl, Nat.le_of_ble_eq_true rfl⟩ dX8_named_1 (fun  f1 H locs h2 hz hS => ?_)
    obtain ⟨a3, k4⟩ := h2
    refine lv_iload_n hx hb dX8_named_4 rfl (lv_at hl 1 rfl) ?_
    refine z_callSi (As := [.int x]) C hz hS hA hl (k_X8_isEnumeration_A l D cy f1 x j  hxj hj) zyX8_isEnumeration mMX8_196 rfl rfl (Nat.le_of_ble_eq_true rfl) ⟨Nat.le_of_ble_eq_true rfl, Nat.le_of_ble_eq_true rfl⟩ ⟨Nat.le_of_ble_eq_true rfl, Nat.le_of_ble_eq_true rfl⟩ dX8_named_5 (fun r f5 H locs h6 hz hS => ?_)
    obtain ⟨rfl, k7⟩ := h6
    refine lv_if_ne (tgt := 14) hx hb dX8_named_8 (by decide) (fun c8 => ?_) (fun c8 => ?_)
    rotate_left
    · exact absurd c8 (by decide)
    refine lv_aload_n hx hb dX8_named_14 rfl (lv_at hl 0 rfl) ?_
    refine lv_iload_n hx hb dX8_named_15 rfl (lv_at hl 1 rfl) ?_
    refine lv_iload_n hx hb dX8_named_16 rfl (lv_at hl 2 rfl) ?_
    have a9 : f5 o = some (.inr (8, [.int 0, .int (-1), .int 0, .ref wev, .int (nI nl), .ref wnb, .int (nI nn), .ref wki, .ref wmy, .ref wce, .ref wiw, .ref wli, .ref wha, .ref wwt, .int (nI nf), .ref wfy, .ref wfk, .int (nI nc), .ref wem, .ref wna, .ref wpl, .ref whs, .long lk, .int (nI ks), .ref wk1, .ref wk2, .ref wk3])) := k7 _ _ a3 
    have a10 : f1 wem = some (.inl (cy 0, 60, .inl ge1)) := k4 _ _ x_wem (z_ne x_wem x_o rfl)
    have a11 : f5 wem = some (.inl (cy 0, 60, .inl ge1)) := k7 _ _ a10 
    have a12 : f1 wna = some (.inl (cy 0, 60, .inl gn1)) := k4 _ _ x_wna (z_ne x_wna x_o rfl)
    have a13 : f5 wna = some (.inl (cy 0, 60, .inl gn1)) := k7 _ _ a12 
    have a14 : f1 wpl = some (.inl (cy 0, 60, .inl gp1)) := k4 _ _ x_wpl (z_ne x_wpl x_o rfl)
    have a15 : f5 wpl = some (.inl (cy 0, 60, .inl gp1)) := k7 _ _ a14 
    refine z_callVi (As := [.int x, .int y]) C hz hS hA hl (k_X8_constantOf l D cy f5 o wev wnb wki wmy wce wiw wli wha wwt wfy wfk wem wna wpl whs wk1 wk2 wk3 0 (-1) 0 nl nn nf nc lk ks ge1 gn1 gp1 x y a9 a11 a13 a15 hc60) zyX8_constantOf mMX8_199 a9 zl8 rfl rfl (Nat.le_of_ble_eq_true rfl) ⟨Nat.le_of_ble_eq_true rfl, Nat.le_of_ble_eq_true rfl⟩ ⟨Nat.le_of_ble_eq_true rfl, Nat.le_of_ble_eq_true rfl⟩ dX8_named_17 (fun r18 f16 H locs h17 hz hS => ?_)
    obtain ⟨pq19, k20⟩ := h17
    refine lv_istore_n (lv' := [(3, .int r18), (0, .ref o), (1, .int x), (2, .int y)]) hx hb dX8_named_20 rfl hl (by decide) rfl (fun ls hl => ?_)
    refine lv_iload_n hx hb dX8_named_21 rfl (lv_at hl 0 rfl) ?_
    refine lv_iconst (v := (-1)) hx hb dX8_named_22 (by decide) ?_
    refine lv_icmp_ne (tgt := 36) hx hb dX8_named_23 (by decide) (fun c21 => ?_) (fun c21 => ?_)
    · refine lv_iload_n hx hb dX8_named_36 rfl (lv_at hl 0 rfl) ?_
      have a22 : f16 o = some (.inr (8, [.int 0, .int (-1), .int 0, .ref wev, .int (nI nl), .ref wnb, .int (nI nn), .ref wki, .ref wmy, .ref wce, .ref wiw, .ref wli, .ref wha, .ref wwt, .int (nI nf), .ref wfy, .ref wfk, .int (nI nc), .ref wem, .ref wna, .ref wpl, .ref whs, .long lk, .int (nI ks), .ref wk1, .ref wk2, .ref wk3])) := k20 _ _ a9 
      have a23 : f1 wev = some (.inl (cy 0, 8, .inl gv)) := k4 _ _ x_wev (z_ne x_wev x_o rfl)
      have a24 : f5 wev = some (.inl (cy 0, 8, .inl gv)) := k7 _ _ a23 
      have a25 : f16 wev = some (.inl (cy 0, 8, .inl gv)) := k20 _ _ a24 
      have a26 : f1 wnb = some (.inl (cy 0, 12, .inl gu)) := k4 _ _ x_wnb (z_ne x_wnb x_o rfl)
      have a27 : f5 wnb = some (.inl (cy 0, 12, .inl gu)) := k7 _ _ a26 
      have a28 : f16 wnb = some (.inl (cy 0, 12, .inl gu)) := k20 _ _ a27 
      have a29 : f1 wki = some (.inl (cy 0, 60, .inl gk)) := k4 _ _ x_wki (z_ne x_wki x_o rfl)
      have a30 : f5 wki = some (.inl (cy 0, 60, .inl gk)) := k7 _ _ a29 
      have a31 : f16 wki = some (.inl (cy 0, 60, .inl gk)) := k20 _ _ a30 
      have a32 : f1 wmy = some (.inl (cy 0, 60, .inl gm)) := k4 _ _ x_wmy (z_ne x_wmy x_o rfl)
      have a33 : f5 wmy = some (.inl (cy 0, 60, .inl gm)) := k7 _ _ a32 
      have a34 : f16 wmy = some (.inl (cy 0, 60, .inl gm)) := k20 _ _ a33 
      have a35 : f1 wce = some (.inl (cy 1, 960, .inr (.inl gc))) := k4 _ _ x_wce (z_ne x_wce x_o rfl)
      have a36 : f5 wce = some (.inl (cy 1, 960, .inr (.inl gc))) := k7 _ _ a35 
      have a37 : f16 wce = some (.inl (cy 1, 960, .inr (.inl gc))) := k20 _ _ a36 
      have a38 : f1 wiw = some (.inl (cy 2, 60, .inl gw)) := k4 _ _ x_wiw (z_ne x_wiw x_o rfl)
      have a39 : f5 wiw = some (.inl (cy 2, 60, .inl gw)) := k7 _ _ a38 
      have a40 : f16 wiw = some (.inl (cy 2, 60, .inl gw)) := k20 _ _ a39 
      have a41 : f1 wli = some (.inl (cy 0, 60, .inl gl)) := k4 _ _ x_wli (z_ne x_wli x_o rfl)
      have a42 : f5 wli = some (.inl (cy 0, 60, .inl gl)) := k7 _ _ a41 
      have a43 : f16 wli = some (.inl (cy 0, 60, .inl gl)) := k20 _ _ a42 
      have a44 : f1 wha = some (.inl (cy 0, 60, .inl gh)) := k4 _ _ x_wha (z_ne x_wha x_o rfl)
      have a45 : f5 wha = some (.inl (cy 0, 60, .inl gh)) := k7 _ _ a44 
      have a46 : f16 wha = some (.inl (cy 0, 60, .inl gh)) := k20 _ _ a45 
      have a47 : f1 wwt = some (.inl (cy 1, 60, .inr (.inl gt))) := k4 _ _ x_wwt (z_ne x_wwt x_o rfl)
      have a48 : f5 wwt = some (.inl (cy 1, 60, .inr (.inl gt))) := k7 _ _ a47 
      have a49 : f16 wwt = some (.inl (cy 1, 60, .inr (.inl gt))) := k20 _ _ a48 
      have a50 : f1 wfy = some (.inl (cy 0, 6, .inl gy)) := k4 _ _ x_wfy (z_ne x_wfy x_o rfl)
      have a51 : f5 wfy = some (.inl (cy 0, 6, .inl gy)) := k7 _ _ a50 
      have a52 : f16 wfy = some (.inl (cy 0, 6, .inl gy)) := k20 _ _ a51 
      have a53 : f1 wfk = some (.inl (cy 0, 24, .inl gq)) := k4 _ _ x_wfk (z_ne x_wfk x_o rfl)
      have a54 : f5 wfk = some (.inl (cy 0, 24, .inl gq)) := k7 _ _ a53 
      have a55 : f16 wfk = some (.inl (cy 0, 24, .inl gq)) := k20 _ _ a54 
      have a56 : f16 wem = some (.inl (cy 0, 60, .inl ge1)) := k20 _ _ a11 
      have a57 : f16 wna = some (.inl (cy 0, 60, .inl gn1)) := k20 _ _ a13 
      have a58 : f16 wpl = some (.inl (cy 0, 60, .inl gp1)) := k20 _ _ a15 
      have a59 : f1 whs = some (.inl (cy 0, 4, .inl gs)) := k4 _ _ x_whs (z_ne x_whs x_o rfl)
      have a60 : f5 whs = some (.inl (cy 0, 4, .inl gs)) := k7 _ _ a59 
      have a61 : f16 whs = some (.inl (cy 0, 4, .inl gs)) := k20 _ _ a60 
      have a62 : f1 wk1 = some (.inl (cy 0, 40, .inl gx1)) := k4 _ _ x_wk1 (z_ne x_wk1 x_o rfl)
      have a63 : f5 wk1 = some (.inl (cy 0, 40, .inl gx1)) := k7 _ _ a62 
      have a64 : f16 wk1 = some (.inl (cy 0, 40, .inl gx1)) := k20 _ _ a63 
      have a65 : f1 wk2 = some (.inl (cy 0, 40, .inl gx2)) := k4 _ _ x_wk2 (z_ne x_wk2 x_o rfl)
      have a66 : f5 wk2 = some (.inl (cy 0, 40, .inl gx2)) := k7 _ _ a65 
      have a67 : f16 wk2 = some (.inl (cy 0, 40, .inl gx2)) := k20 _ _ a66 
      have a68 : f1 wk3 = some (.inl (cy 0, 40, .inl gx3)) := k4 _ _ x_wk3 (z_ne x_wk3 x_o rfl)
      have a69 : f5 wk3 = some (.inl (cy 0, 40, .inl gx3)) := k7 _ _ a68 
      have a70 : f16 wk3 = some (.inl (cy 0, 40, .inl gx3)) := k20 _ _ a69 
      exact z_iret C hr rfl hz hS ⟨0, (-1), 0, nl, nn, nf, nc, lk, ks, gv, gu, gk, gm, gc, gw, gl, gh, gt, gy, gq, ge1, gn1, gp1, gs, gx1, gx2, gx3, ln, fz, sq, (by rw [if_neg (zCO_n4 pq19 hc60 c21)]), rfl, rfl, (by rw [if_neg (zCO_n4 pq19 hc60 c21)]), rfl, rfl, rfl, rfl, rfl, rfl, rfl, rfl, rfl, rfl, rfl, rfl, rfl, rfl, rfl, rfl, rfl, rfl, rfl, rfl, rfl, (Or.inl ⟨j, hj, hxj, _, pq19, by rw [if_neg c21]⟩), ⟨a22, a25, a28, a31, a34, a37, a40, a43, a46, a49, a52, a55, a56, a57, a58, a61, a64, a67, a70, hn60, hl12, hf6, hc60, hs40, hMP, hgy, hfz, hgs, hME, hlk, hgw, hfd, n_wki_wmy, n_wki_wiw, n_wki_wli, n_wki_wha, n_wki_wem, n_wki_wna, n_wki_wpl, n_wmy_wiw, n_wmy_wli, n_wmy_wha, n_wmy_wem, n_wmy_wna, n_wmy_wpl, n_wiw_wli, n_wiw_wha, n_wiw_wem, n_wiw_wna, n_wiw_wpl, n_wli_wha, n_wli_wem, n_wli_wna, n_wli_wpl, n_wha_wem, n_wha_wna, n_wha_wpl, n_wem_wna, n_wem_wpl, n_wna_wpl, n_wk1_wk2, n_wk1_wk3, n_wk2_wk3⟩⟩ (Nat.le_of_ble_eq_true rfl) (Nat.le_of_ble_eq_true rfl) dX8_named_37
    · refine lv_aload_n hx hb dX8_named_26 rfl (lv_at hl 1 rfl) ?_
      refine lv_iconst (v := 1) hx hb dX8_named_27 (by decide) ?_
      refine lv_iconst (v := (-1)) hx hb dX8_named_28 (by decide) ?_
      refine lv_iconst (v := 0) hx hb dX8_named_29 (by decide) ?_
      have a71 : f16 o = some (.inr (8, [.int 0, .int (-1), .int 0, .ref wev, .int (nI nl), .ref wnb, .int (nI nn), .ref wki, .ref wmy, .ref wce, .ref wiw, .ref wli, .ref wha, .ref wwt, .int (nI nf), .ref wfy, .ref wfk, .int (nI nc), .ref wem, .ref wna, .ref wpl, .ref whs, .long lk, .int (nI ks), .ref wk1, .ref wk2, .ref wk3])) := k20 _ _ a9 
      have a72 : f1 wev = some (.inl (cy 0, 8, .inl gv)) := k4 _ _ x_wev (z_ne x_wev x_o rfl)
      have a73 : f5 wev = some (.inl (cy 0, 8, .inl gv)) := k7 _ _ a72 
      have a74 : f16 wev = some (.inl (cy 0, 8, .inl gv)) := k20 _ _ a73 
      refine z_callVi (As := [.int 1, .int (-1), .int 0]) C hz hS hA hl (k_X8_fails l D cy f16 o wev wnb wki wmy wce wiw wli wha wwt wfy wfk wem wna wpl whs wk1 wk2 wk3 0 (-1) 0 nl nn nf nc lk ks 1 (-1) 0 gv 1 a71 a74 (by decide) (Nat.le_of_ble_eq_true rfl)) zyX8_fails mMX8_135 a71 zl8 rfl rfl (Nat.le_of_ble_eq_true rfl) ⟨Nat.le_of_ble_eq_true rfl, Nat.le_of_ble_eq_true rfl⟩ ⟨Nat.le_of_ble_eq_true rfl, Nat.le_of_ble_eq_true rfl⟩ dX8_named_30 (fun r f75 H locs h76 hz hS => ?_)
      obtain ⟨rfl, a77, a78, k79⟩ := h76
      refine lv_goto (tgt := 37) hx hb dX8_named_33 (by decide) ?_
      have a80 : f1 wnb = some (.inl (cy 0, 12, .inl gu)) := k4 _ _ x_wnb (z_ne x_wnb x_o rfl)
      have a81 : f5 wnb = some (.inl (cy 0, 12, .inl gu)) := k7 _ _ a80 
      have a82 : f16 wnb = some (.inl (cy 0, 12, .inl gu)) := k20 _ _ a81 
      have a83 : f75 wnb = some (.inl (cy 0, 12, .inl gu)) := k79 _ _ a82 (z_ne a82 a71 rfl) (z_ne a82 a74 rfl)
      have a84 : f1 wki = some (.inl (cy 0, 60, .inl gk)) := k4 _ _ x_wki (z_ne x_wki x_o rfl)
      have a85 : f5 wki = some (.inl (cy 0, 60, .inl gk)) := k7 _ _ a84 
      have a86 : f16 wki = some (.inl (cy 0, 60, .inl gk)) := k20 _ _ a85 
      have a87 : f75 wki = some (.inl (cy 0, 60, .inl gk)) := k79 _ _ a86 (z_ne a86 a71 rfl) (z_ne a86 a74 rfl)
      have a88 : f1 wmy = some (.inl (cy 0, 60, .inl gm)) := k4 _ _ x_wmy (z_ne x_wmy x_o rfl)
      have a89 : f5 wmy = some (.inl (cy 0, 60, .inl gm)) := k7 _ _ a88 
      have a90 : f16 wmy = some (.inl (cy 0, 60, .inl gm)) := k20 _ _ a89 
      have a91 : f75 wmy = some (.inl (cy 0, 60, .inl gm)) := k79 _ _ a90 (z_ne a90 a71 rfl) (z_ne a90 a74 rfl)
      have a92 : f1 wce = some (.inl (cy 1, 960, .inr (.inl gc))) := k4 _ _ x_wce (z_ne x_wce x_o rfl)
      have a93 : f5 wce = some (.inl (cy 1, 960, .inr (.inl gc))) := k7 _ _ a92 
      have a94 : f16 wce = some (.inl (cy 1, 960, .inr (.inl gc))) := k20 _ _ a93 
      have a95 : f75 wce = some (.inl (cy 1, 960, .inr (.inl gc))) := k79 _ _ a94 (z_ne a94 a71 rfl) (z_ne a94 a74 rfl)
      have a96 : f1 wiw = some (.inl (cy 2, 60, .inl gw)) := k4 _ _ x_wiw (z_ne x_wiw x_o rfl)
      have a97 : f5 wiw = some (.inl (cy 2, 60, .inl gw)) := k7 _ _ a96 
      have a98 : f16 wiw = some (.inl (cy 2, 60, .inl gw)) := k20 _ _ a97 
      have a99 : f75 wiw = some (.inl (cy 2, 60, .inl gw)) := k79 _ _ a98 (z_ne a98 a71 rfl) (z_ne a98 a74 rfl)
      have a100 : f1 wli = some (.inl (cy 0, 60, .inl gl)) := k4 _ _ x_wli (z_ne x_wli x_o rfl)
      have a101 : f5 wli = some (.inl (cy 0, 60, .inl gl)) := k7 _ _ a100 
      have a102 : f16 wli = some (.inl (cy 0, 60, .inl gl)) := k20 _ _ a101 
      have a103 : f75 wli = some (.inl (cy 0, 60, .inl gl)) := k79 _ _ a102 (z_ne a102 a71 rfl) (z_ne a102 a74 rfl)
      have a104 : f1 wha = some (.inl (cy 0, 60, .inl gh)) := k4 _ _ x_wha (z_ne x_wha x_o rfl)
      have a105 : f5 wha = some (.inl (cy 0, 60, .inl gh)) := k7 _ _ a104 
      have a106 : f16 wha = some (.inl (cy 0, 60, .inl gh)) := k20 _ _ a105 
      have a107 : f75 wha = some (.inl (cy 0, 60, .inl gh)) := k79 _ _ a106 (z_ne a106 a71 rfl) (z_ne a106 a74 rfl)
      have a108 : f1 wwt = some (.inl (cy 1, 60, .inr (.inl gt))) := k4 _ _ x_wwt (z_ne x_wwt x_o rfl)
      have a109 : f5 wwt = some (.inl (cy 1, 60, .inr (.inl gt))) := k7 _ _ a108 
      have a110 : f16 wwt = some (.inl (cy 1, 60, .inr (.inl gt))) := k20 _ _ a109 
      have a111 : f75 wwt = some (.inl (cy 1, 60, .inr (.inl gt))) := k79 _ _ a110 (z_ne a110 a71 rfl) (z_ne a110 a74 rfl)
      have a112 : f1 wfy = some (.inl (cy 0, 6, .inl gy)) := k4 _ _ x_wfy (z_ne x_wfy x_o rfl)
      have a113 : f5 wfy = some (.inl (cy 0, 6, .inl gy)) := k7 _ _ a112 
      have a114 : f16 wfy = some (.inl (cy 0, 6, .inl gy)) := k20 _ _ a113 
      have a115 : f75 wfy = some (.inl (cy 0, 6, .inl gy)) := k79 _ _ a114 (z_ne a114 a71 rfl) (z_ne a114 a74 rfl)
      have a116 : f1 wfk = some (.inl (cy 0, 24, .inl gq)) := k4 _ _ x_wfk (z_ne x_wfk x_o rfl)
      have a117 : f5 wfk = some (.inl (cy 0, 24, .inl gq)) := k7 _ _ a116 
      have a118 : f16 wfk = some (.inl (cy 0, 24, .inl gq)) := k20 _ _ a117 
      have a119 : f75 wfk = some (.inl (cy 0, 24, .inl gq)) := k79 _ _ a118 (z_ne a118 a71 rfl) (z_ne a118 a74 rfl)
      have a120 : f16 wem = some (.inl (cy 0, 60, .inl ge1)) := k20 _ _ a11 
      have a121 : f75 wem = some (.inl (cy 0, 60, .inl ge1)) := k79 _ _ a120 (z_ne a120 a71 rfl) (z_ne a120 a74 rfl)
      have a122 : f16 wna = some (.inl (cy 0, 60, .inl gn1)) := k20 _ _ a13 
      have a123 : f75 wna = some (.inl (cy 0, 60, .inl gn1)) := k79 _ _ a122 (z_ne a122 a71 rfl) (z_ne a122 a74 rfl)
      have a124 : f16 wpl = some (.inl (cy 0, 60, .inl gp1)) := k20 _ _ a15 
      have a125 : f75 wpl = some (.inl (cy 0, 60, .inl gp1)) := k79 _ _ a124 (z_ne a124 a71 rfl) (z_ne a124 a74 rfl)
      have a126 : f1 whs = some (.inl (cy 0, 4, .inl gs)) := k4 _ _ x_whs (z_ne x_whs x_o rfl)
      have a127 : f5 whs = some (.inl (cy 0, 4, .inl gs)) := k7 _ _ a126 
      have a128 : f16 whs = some (.inl (cy 0, 4, .inl gs)) := k20 _ _ a127 
      have a129 : f75 whs = some (.inl (cy 0, 4, .inl gs)) := k79 _ _ a128 (z_ne a128 a71 rfl) (z_ne a128 a74 rfl)
      have a130 : f1 wk1 = some (.inl (cy 0, 40, .inl gx1)) := k4 _ _ x_wk1 (z_ne x_wk1 x_o rfl)
      have a131 : f5 wk1 = some (.inl (cy 0, 40, .inl gx1)) := k7 _ _ a130 
      have a132 : f16 wk1 = some (.inl (cy 0, 40, .inl gx1)) := k20 _ _ a131 
      have a133 : f75 wk1 = some (.inl (cy 0, 40, .inl gx1)) := k79 _ _ a132 (z_ne a132 a71 rfl) (z_ne a132 a74 rfl)
      have a134 : f1 wk2 = some (.inl (cy 0, 40, .inl gx2)) := k4 _ _ x_wk2 (z_ne x_wk2 x_o rfl)
      have a135 : f5 wk2 = some (.inl (cy 0, 40, .inl gx2)) := k7 _ _ a134 
      have a136 : f16 wk2 = some (.inl (cy 0, 40, .inl gx2)) := k20 _ _ a135 
      have a137 : f75 wk2 = some (.inl (cy 0, 40, .inl gx2)) := k79 _ _ a136 (z_ne a136 a71 rfl) (z_ne a136 a74 rfl)
      have a138 : f1 wk3 = some (.inl (cy 0, 40, .inl gx3)) := k4 _ _ x_wk3 (z_ne x_wk3 x_o rfl)
      have a139 : f5 wk3 = some (.inl (cy 0, 40, .inl gx3)) := k7 _ _ a138 
      have a140 : f16 wk3 = some (.inl (cy 0, 40, .inl gx3)) := k20 _ _ a139 
      have a141 : f75 wk3 = some (.inl (cy 0, 40, .inl gx3)) := k79 _ _ a140 (z_ne a140 a71 rfl) (z_ne a140 a74 rfl)
      exact z_iret C hr rfl hz hS ⟨1, (-1), 0, nl, nn, nf, nc, lk, ks, (upd gv 1 (gv 1 + 1)), gu, gk, gm, gc, gw, gl, gh, gt, gy, gq, ge1, gn1, gp1, gs, gx1, gx2, gx3, ln, fz, sq, (by rw [if_pos rfl]), rfl, rfl, (by rw [if_pos rfl]), rfl, rfl, rfl, rfl, rfl, rfl, rfl, rfl, rfl, rfl, rfl, rfl, rfl, rfl, rfl, rfl, rfl, rfl, rfl, rfl, rfl, (Or.inl ⟨j, hj, hxj, _, pq19, by rw [if_pos c21]⟩), ⟨a77, a78, a83, a87, a91, a95, a99, a103, a107, a111, a115, a119, a121, a123, a125, a129, a133, a137, a141, hn60, hl12, hf6, hc60, hs40, hMP, hgy, hfz, hgs, hME, hlk, hgw, hfd, n_wki_wmy, n_wki_wiw, n_wki_wli, n_wki_wha, n_wki_wem, n_wki_wna, n_wki_wpl, n_wmy_wiw, n_wmy_wli, n_wmy_wha, n_wmy_wem, n_wmy_wna, n_wmy_wpl, n_wiw_wli, n_wiw_wha, n_wiw_wem, n_wiw_wna, n_wiw_wpl, n_wli_wha, n_wli_wem, n_wli_wna, n_wli_wpl, n_wha_wem, n_wha_wna, n_wha_wpl, n_wem_wna, n_wem_wpl, n_wna_wpl, n_wk1_wk2, n_wk1_wk3, n_wk2_wk3⟩⟩ (Nat.le_of_ble_eq_true rfl) (Nat.le_of_ble_eq_true rfl) dX8_named_37
  · refine lv_aload_n hx hb dX8_named_0 rfl (lv_at hl 0 rfl) ?_
    refine z_callVv (As := []) C hz hS hA hl (k_X8_begin l D cy f o wev wnb wki wmy wce wiw wli wha wwt wfy wfk wem wna wpl whs wk1 wk2 wk3 u1 u2 u3 nl nn nf nc lk ks x_o ) zyX8_begin mMX8_116 x_o zl8 rfl rfl (Nat.le_of_ble_eq_true rfl) ⟨Nat.le_of_ble_eq_true rfl, Nat.le_of_ble_eq_true rfl⟩ ⟨Nat.le_of_ble_eq_true rfl, Nat.le_of_ble_eq_true rfl⟩ dX8_named_1 (fun  f142 H locs h143 hz hS => ?_)
    obtain ⟨a144, k145⟩ := h143
    refine lv_iload_n hx hb dX8_named_4 rfl (lv_at hl 1 rfl) ?_
    refine z_callSi (As := [.int x]) C hz hS hA hl (k_X8_isEnumeration_B l D cy f142 x  he) zyX8_isEnumeration mMX8_196 rfl rfl (Nat.le_of_ble_eq_true rfl) ⟨Nat.le_of_ble_eq_true rfl, Nat.le_of_ble_eq_true rfl⟩ ⟨Nat.le_of_ble_eq_true rfl, Nat.le_of_ble_eq_true rfl⟩ dX8_named_5 (fun r f146 H locs h147 hz hS => ?_)
    obtain ⟨rfl, k148⟩ := h147
    refine lv_if_ne (tgt := 14) hx hb dX8_named_8 (by decide) (fun c149 => ?_) (fun c149 => ?_)
    · exact absurd c149 (by decide)
    refine lv_bipush (v := (-2)) hx hb dX8_named_11 (by decide) ?_
    have a150 : f146 o = some (.inr (8, [.int 0, .int (-1), .int 0, .ref wev, .int (nI nl), .ref wnb, .int (nI nn), .ref wki, .ref wmy, .ref wce, .ref wiw, .ref wli, .ref wha, .ref wwt, .int (nI nf), .ref wfy, .ref wfk, .int (nI nc), .ref wem, .ref wna, .ref wpl, .ref whs, .long lk, .int (nI ks), .ref wk1, .ref wk2, .ref wk3])) := k148 _ _ a144 
    have a151 : f142 wev = some (.inl (cy 0, 8, .inl gv)) := k145 _ _ x_wev (z_ne x_wev x_o rfl)
    have a152 : f146 wev = some (.inl (cy 0, 8, .inl gv)) := k148 _ _ a151 
    have a153 : f142 wnb = some (.inl (cy 0, 12, .inl gu)) := k145 _ _ x_wnb (z_ne x_wnb x_o rfl)
    have a154 : f146 wnb = some (.inl (cy 0, 12, .inl gu)) := k148 _ _ a153 
    have a155 : f142 wki = some (.inl (cy 0, 60, .inl gk)) := k145 _ _ x_wki (z_ne x_wki x_o rfl)
    have a156 : f146 wki = some (.inl (cy 0, 60, .inl gk)) := k148 _ _ a155 
    have a157 : f142 wmy = some (.inl (cy 0, 60, .inl gm)) := k145 _ _ x_wmy (z_ne x_wmy x_o rfl)
    have a158 : f146 wmy = some (.inl (cy 0, 60, .inl gm)) := k148 _ _ a157 
    have a159 : f142 wce = some (.inl (cy 1, 960, .inr (.inl gc))) := k145 _ _ x_wce (z_ne x_wce x_o rfl)
    have a160 : f146 wce = some (.inl (cy 1, 960, .inr (.inl gc))) := k148 _ _ a159 
    have a161 : f142 wiw = some (.inl (cy 2, 60, .inl gw)) := k145 _ _ x_wiw (z_ne x_wiw x_o rfl)
    have a162 : f146 wiw = some (.inl (cy 2, 60, .inl gw)) := k148 _ _ a161 
    have a163 : f142 wli = some (.inl (cy 0, 60, .inl gl)) := k145 _ _ x_wli (z_ne x_wli x_o rfl)
    have a164 : f146 wli = some (.inl (cy 0, 60, .inl gl)) := k148 _ _ a163 
    have a165 : f142 wha = some (.inl (cy 0, 60, .inl gh)) := k145 _ _ x_wha (z_ne x_wha x_o rfl)
    have a166 : f146 wha = some (.inl (cy 0, 60, .inl gh)) := k148 _ _ a165 
    have a167 : f142 wwt = some (.inl (cy 1, 60, .inr (.inl gt))) := k145 _ _ x_wwt (z_ne x_wwt x_o rfl)
    have a168 : f146 wwt = some (.inl (cy 1, 60, .inr (.inl gt))) := k148 _ _ a167 
    have a169 : f142 wfy = some (.inl (cy 0, 6, .inl gy)) := k145 _ _ x_wfy (z_ne x_wfy x_o rfl)
    have a170 : f146 wfy = some (.inl (cy 0, 6, .inl gy)) := k148 _ _ a169 
    have a171 : f142 wfk = some (.inl (cy 0, 24, .inl gq)) := k145 _ _ x_wfk (z_ne x_wfk x_o rfl)
    have a172 : f146 wfk = some (.inl (cy 0, 24, .inl gq)) := k148 _ _ a171 
    have a173 : f142 wem = some (.inl (cy 0, 60, .inl ge1)) := k145 _ _ x_wem (z_ne x_wem x_o rfl)
    have a174 : f146 wem = some (.inl (cy 0, 60, .inl ge1)) := k148 _ _ a173 
    have a175 : f142 wna = some (.inl (cy 0, 60, .inl gn1)) := k145 _ _ x_wna (z_ne x_wna x_o rfl)
    have a176 : f146 wna = some (.inl (cy 0, 60, .inl gn1)) := k148 _ _ a175 
    have a177 : f142 wpl = some (.inl (cy 0, 60, .inl gp1)) := k145 _ _ x_wpl (z_ne x_wpl x_o rfl)
    have a178 : f146 wpl = some (.inl (cy 0, 60, .inl gp1)) := k148 _ _ a177 
    have a179 : f142 whs = some (.inl (cy 0, 4, .inl gs)) := k145 _ _ x_whs (z_ne x_whs x_o rfl)
    have a180 : f146 whs = some (.inl (cy 0, 4, .inl gs)) := k148 _ _ a179 
    have a181 : f142 wk1 = some (.inl (cy 0, 40, .inl gx1)) := k145 _ _ x_wk1 (z_ne x_wk1 x_o rfl)
    have a182 : f146 wk1 = some (.inl (cy 0, 40, .inl gx1)) := k148 _ _ a181 
    have a183 : f142 wk2 = some (.inl (cy 0, 40, .inl gx2)) := k145 _ _ x_wk2 (z_ne x_wk2 x_o rfl)
    have a184 : f146 wk2 = some (.inl (cy 0, 40, .inl gx2)) := k148 _ _ a183 
    have a185 : f142 wk3 = some (.inl (cy 0, 40, .inl gx3)) := k145 _ _ x_wk3 (z_ne x_wk3 x_o rfl)
    have a186 : f146 wk3 = some (.inl (cy 0, 40, .inl gx3)) := k148 _ _ a185 
    exact z_iret C hr rfl hz hS ⟨0, (-1), 0, nl, nn, nf, nc, lk, ks, gv, gu, gk, gm, gc, gw, gl, gh, gt, gy, gq, ge1, gn1, gp1, gs, gx1, gx2, gx3, ln, fz, sq, (by rw [if_neg (by decide)]), rfl, rfl, (by rw [if_neg (by decide)]), rfl, rfl, rfl, rfl, rfl, rfl, rfl, rfl, rfl, rfl, rfl, rfl, rfl, rfl, rfl, rfl, rfl, rfl, rfl, rfl, rfl, (Or.inr ⟨rfl, he⟩), ⟨a150, a152, a154, a156, a158, a160, a162, a164, a166, a168, a170, a172, a174, a176, a178, a180, a182, a184, a186, hn60, hl12, hf6, hc60, hs40, hMP, hgy, hfz, hgs, hME, hlk, hgw, hfd, n_wki_wmy, n_wki_wiw, n_wki_wli, n_wki_wha, n_wki_wem, n_wki_wna, n_wki_wpl, n_wmy_wiw, n_wmy_wli, n_wmy_wha, n_wmy_wem, n_wmy_wna, n_wmy_wpl, n_wiw_wli, n_wiw_wha, n_wiw_wem, n_wiw_wna, n_wiw_wpl, n_wli_wha, n_wli_wem, n_wli_wna, n_wli_wpl, n_wha_wem, n_wha_wna, n_wha_wpl, n_wem_wna, n_wem_wpl, n_wna_wpl, n_wk1_wk2, n_wk1_wk3, n_wk2_wk3⟩⟩ (Nat.le_of_ble_eq_true rfl) (Nat.le_of_ble_eq_true rfl) dX8_named_13
abbrev rmX8_drop : Room := { frames := 1, cells := 0, slots := 0, locals := 21 }
set_option maxHeartbeats 4000000 in
set_option maxRecDepth 100000 in
theorem k_X8_drop (l : Launch) (D : va_G) (cy : Nat → ClassId) (f : zM) (o : Nat) (wev : Nat) (wnb : Nat) (wki : Nat) (wmy : Nat) (wce : Nat) (wiw : Nat) (wli : Nat) (wha : Nat) (wwt : Nat) (wfy : Nat) (wfk : Nat) (wem : Nat) (wna : Nat) (wpl : Nat) (whs : Nat) (wk1 : Nat) (wk2 : Nat) (wk3 : Nat) (u1 : Int32) (u2 : Int32) (u3 : Int32) (nl : Nat) (nn : Nat) (nf : Nat) (nc : Nat) (lk : Int64) (ks : Nat) (gv : Nat → Int32) (gu : Nat → Int32) (gk : Nat → Int32) (gm : Nat → Int32) (gc : Nat → Int64) (gw : Nat → Int32) (gl : Nat → Int32) (gh : Nat → Int32) (gt : Nat → Int64) (gy : Nat → Int32) (gq : Nat → Int32) (ge1 : Nat → Int32) (gn1 : Nat → Int32) (gp1 : Nat → Int32) (gs : Nat → Int32) (gx1 : Nat → Int32) (gx2 : Nat → Int32) (gx3 : Nat → Int32) (ln : Nat → Nat) (fz : Nat → Nat) (sq : Nat → Nat) (x : Int32)    (hI : zIM cy f o wev wnb wki wmy wce wiw wli wha wwt wfy wfk wem wna wpl whs wk1 wk2 wk3 u1 u2 u3 nl nn nf nc lk ks gv gu gk gm gc gw gl gh gt gy gq ge1 gn1 gp1 gs gx1 gx2 gx3 ln fz sq) : zCi l D cy yX8_drop cX8_drop 4 (Option.some Jvm.ClassFile.FieldType.int) rmX8_drop [.ref o, .int x] f (fun (r : Int32) (f1 : zM) => ∃ (u11 : Int32) (u21 : Int32) (u31 : Int32) (nl1 : Nat) (nn1 : Nat) (nf1 : Nat) (nc1 : Nat) (lk1 : Int64) (ks1 : Nat) (gv1 : Nat → Int32) (gu1 : Nat → Int32) (gk1 : Nat → Int32) (gm1 : Nat → Int32) (gc1 : Nat → Int64) (gw1 : Nat → Int32) (gl1 : Nat → Int32) (gh1 : Nat → Int32) (gt1 : Nat → Int64) (gy1 : Nat → Int32) (gq1 : Nat → Int32) (ge11 : Nat → Int32) (gn11 : Nat → Int32) (gp11 : Nat → Int32) (gs1 : Nat → Int32) (gx11 : Nat → Int32) (gx21 : Nat → Int32) (gx31 : Nat → Int32) (ln1 : Nat → Nat) (fz1 : Nat → Nat) (sq1 : Nat → Nat), (u11 = u1) ∧ (u21 = u2) ∧ (u31 = u3) ∧ (gv1 = gv) ∧ (nl1 = nl) ∧ (gu1 = gu) ∧ (nn1 = nn) ∧ (gk1 = gk) ∧ (ln1 = ln) ∧ (gw1 = gw) ∧ (gh1 = gh) ∧ (gc1 = gc) ∧ (nf1 = nf) ∧ (fz1 = fz) ∧ (gq1 = gq) ∧ (nc1 = nc) ∧ (ge11 = ge1) ∧ (gn11 = gn1) ∧ (ks1 = ks) ∧ (gx11 = gx1) ∧ (gx21 = gx2) ∧ (gx31 = gx3) ∧ (lk1 = lk) ∧ (zYD nc x ge1 gp1 sq r sq1 gp11) ∧ zIM cy f1 o wev wnb wki wmy wce wiw wli wha wwt wfy wfk wem wna wpl whs wk1 wk2 wk3 u11 u21 u31 nl1 nn1 nf1 nc1 lk1 ks1 gv1 gu1 gk1 gm1 gc1 gw1 gl1 gh1 gt1 gy1 gq1 ge11 gn11 gp11 gs1 gx11 gx21 gx31 ln1 fz1 sq1) := by
  intro sz
  refine z_body (by decide +kernel) (Nat.le_of_ble_eq_true rfl) ?_
  intro p e s m below meth c ls C hr hin hsz hz hl
  subst hsz
  have hx := C.1
  have hb := C.2.1
  have hA : ∀ q, s.heap.size ≤ q → zA f s.heap.size q := fun q h => Or.inr h
  have hS : va_S (zA f s.heap.size) s.heap s.heap [] := va_S.rf
  have hl : lv_has ls 4 [(0, .ref o), (1, .int x)] := hl
  obtain ⟨x_o, x_wev, x_wnb, x_wki, x_wmy, x_wce, x_wiw, x_wli, x_wha, x_wwt, x_wfy, x_wfk, x_wem, x_wna, x_wpl, x_whs, x_wk1, x_wk2, x_wk3, hn60, hl12, hf6, hc60, hs40, hMP, hgy, hfz, hgs, hME, hlk, hgw, hfd, n_wki_wmy, n_wki_wiw, n_wki_wli, n_wki_wha, n_wki_wem, n_wki_wna, n_wki_wpl, n_wmy_wiw, n_wmy_wli, n_wmy_wha, n_wmy_wem, n_wmy_wna, n_wmy_wpl, n_wiw_wli, n_wiw_wha, n_wiw_wem, n_wiw_wna, n_wiw_wpl, n_wli_wha, n_wli_wem, n_wli_wna, n_wli_wpl, n_wha_wem, n_wha_wna, n_wha_wpl, n_wem_wna, n_wem_wpl, n_wna_wpl, n_wk1_wk2, n_wk1_wk3, n_wk2_wk3⟩ := id hI
  refine lv_aload_n hx hb dX8_drop_0 rfl (lv_at hl 0 rfl) ?_
  refine lv_iload_n hx hb dX8_drop_1 rfl (lv_at hl 1 rfl) ?_
  rcases z_findi x nc with ⟨jc, hjc, hvc⟩ | hvc
  · refine z_callVi (As := [.int x]) C hz hS hA hl (k_X8_isConstant_A l D cy f o wev wnb wki wmy wce wiw wli wha wwt wfy wfk wem wna wpl whs wk1 wk2 wk3 u1 u2 u3 nl nn nf nc lk ks x jc x_o hc60 hvc hjc) zyX8_isConstant mMX8_202 x_o zl8 rfl rfl (Nat.le_of_ble_eq_true rfl) ⟨Nat.le_of_ble_eq_true rfl, Nat.le_of_ble_eq_true rfl⟩ ⟨Nat.le_of_ble_eq_true rfl, Nat.le_of_ble_eq_true rfl⟩ dX8_drop_2 (fun r f1 H locs h2 hz hS => ?_)
    obtain ⟨rfl, k3⟩ := h2
    refine lv_if_eq (tgt := 18) hx hb dX8_drop_5 (by decide) (fun c4 => ?_) (fun c4 => ?_)
    · exact absurd c4 (by decide)
    refine lv_aload_n hx hb dX8_drop_8 rfl (lv_at hl 0 rfl) ?_
    have a5 : f1 o = some (.inr (8, [.int u1, .int u2, .int u3, .ref wev, .int (nI nl), .ref wnb, .int (nI nn), .ref wki, .ref wmy, .ref wce, .ref wiw, .ref wli, .ref wha, .ref wwt, .int (nI nf), .ref wfy, .ref wfk, .int (nI nc), .ref wem, .ref wna, .ref wpl, .ref whs, .long lk, .int (nI ks), .ref wk1, .ref wk2, .ref wk3])) := k3 _ _ x_o 
    refine z_get (v := .ref wpl) C hz a5 zl8 mFX8_55 (by decide) rfl dX8_drop_9 ?_
    refine lv_iload_n hx hb dX8_drop_12 rfl (lv_at hl 1 rfl) ?_
    have a6 : f1 wpl = some (.inl (cy 0, 60, .inl gp1)) := k3 _ _ x_wpl 
    refine z_iald jc C hz a6 hvc (by omega) (by omega) dX8_drop_13 ?_
    refine lv_iconst (v := (-1)) hx hb dX8_drop_14 (by decide) ?_
    refine lv_icmp_ne (tgt := 21) hx hb dX8_drop_15 (by decide) (fun c7 => ?_) (fun c7 => ?_)
    · obtain ⟨je, hje, hxe⟩ := hME.1 jc hjc
      obtain ⟨pj, hpj, hgp, hps⟩ := (hME.2.1 jc hjc).resolve_left c7
      have hsj := hps je hje hxe
      refine lv_aload_n hx hb dX8_drop_21 rfl (lv_at hl 0 rfl) ?_
      refine z_get (v := .ref wem) C hz a5 zl8 mFX8_49 (by decide) rfl dX8_drop_22 ?_
      refine lv_iload_n hx hb dX8_drop_25 rfl (lv_at hl 1 rfl) ?_
      have a8 : f1 wem = some (.inl (cy 0, 60, .inl ge1)) := k3 _ _ x_wem 
      refine z_iald jc C hz a8 hvc (by omega) (by omega) dX8_drop_26 ?_
      refine lv_topi (fun y9 e10 => ?_)
      obtain rfl : y9 = nI je := e10.trans hxe
      refine lv_istore_n (lv' := [(2, .int (nI je)), (0, .ref o), (1, .int x)]) hx hb dX8_drop_27 rfl hl (by decide) rfl (fun ls hl => ?_)
      refine lv_iconst (v := 0) hx hb dX8_drop_28 (by decide) ?_
      refine lv_istore_n (lv' := [(3, .int 0), (2, .int (nI je)), (0, .ref o), (1, .int x)]) hx hb dX8_drop_29 rfl hl (by decide) rfl (fun ls hl => ?_)
      have lp11 : ∀ (n : Nat) (oo : Nat) (gpv : Nat → Int32) (fL12 : zM) (H : Heap) (locs : List Loc) (ls : Array Slot), (nc - oo) < n → (oo ≤ nc) → (∀ i, gpv i = if i < oo ∧ ge1 i = nI je ∧ gp1 jc < gp1 i then gp1 i - 1 else gp1 i) → fL12 wpl = some (.inl (cy 0, 60, .inl gpv)) → (∀ (b : Nat) (e : va_E), f1 b = some e → b ≠ wpl → fL12 b = some e) → zH D (zA f s.heap.size) fL12 H → va_S (zA f s.heap.size) s.heap H locs → lv_has ls 4 [(0, .ref o), (1, .int x), (2, .int (nI je)), (3, .int (nI oo))] → W p l e rmX8_drop s m ([.ref o, .int x] : List Value).toArray below meth c H locs 0 0 (MQ below (va_Qi (fun (r : Int32) (f1 : zM) => ∃ (u11 : Int32) (u21 : Int32) (u31 : Int32) (nl1 : Nat) (nn1 : Nat) (nf1 : Nat) (nc1 : Nat) (lk1 : Int64) (ks1 : Nat) (gv1 : Nat → Int32) (gu1 : Nat → Int32) (gk1 : Nat → Int32) (gm1 : Nat → Int32) (gc1 : Nat → Int64) (gw1 : Nat → Int32) (gl1 : Nat → Int32) (gh1 : Nat → Int32) (gt1 : Nat → Int64) (gy1 : Nat → Int32) (gq1 : Nat → Int32) (ge11 : Nat → Int32) (gn11 : Nat → Int32) (gp11 : Nat → Int32) (gs1 : Nat → Int32) (gx11 : Nat → Int32) (gx21 : Nat → Int32) (gx31 : Nat → Int32) (ln1 : Nat → Nat) (fz1 : Nat → Nat) (sq1 : Nat → Nat), (u11 = u1) ∧ (u21 = u2) ∧ (u31 = u3) ∧ (gv1 = gv) ∧ (nl1 = nl) ∧ (gu1 = gu) ∧ (nn1 = nn) ∧ (gk1 = gk) ∧ (ln1 = ln) ∧ (gw1 = gw) ∧ (gh1 = gh) ∧ (gc1 = gc) ∧ (nf1 = nf) ∧ (fz1 = fz) ∧ (gq1 = gq) ∧ (nc1 = nc) ∧ (ge11 = ge1) ∧ (gn11 = gn1) ∧ (ks1 = ks) ∧ (gx11 = gx1) ∧ (gx21 = gx2) ∧ (gx31 = gx3) ∧ (lk1 = lk) ∧ (zYD nc x ge1 gp1 sq r sq1 gp11) ∧ zIM cy f1 o wev wnb wki wmy wce wiw wli wha wwt wfy wfk wem wna wpl whs wk1 wk2 wk3 u11 u21 u31 nl1 nn1 nf1 nc1 lk1 ks1 gv1 gu1 gk1 gm1 gc1 gw1 gl1 gh1 gt1 gy1 gq1 ge11 gn11 gp11 gs1 gx11 gx21 gx31 ln1 fz1 sq1) (zB D f s.heap.size) (zA f s.heap.size)) ([.ref o, .int x] : List Value).toArray s rmX8_drop.cells rmX8_drop.slots (zA f s.heap.size)) (F0 m 30 ls []) := by
        intro n
        induction n with
        | zero => intro oo gpv fL12 H locs ls hmz; exact absurd hmz (Nat.not_lt_zero _)
        | succ n ih =>
          intro oo gpv fL12 H locs ls hmz hoo hgpv a14 k13 hz hS hl
          refine lv_iload_n hx hb dX8_drop_30 rfl (lv_at hl 3 rfl) ?_
          refine lv_aload_n hx hb dX8_drop_31 rfl (lv_at hl 0 rfl) ?_
          have a15 : fL12 o = some (.inr (8, [.int u1, .int u2, .int u3, .ref wev, .int (nI nl), .ref wnb, .int (nI nn), .ref wki, .ref wmy, .ref wce, .ref wiw, .ref wli, .ref wha, .ref wwt, .int (nI nf), .ref wfy, .ref wfk, .int (nI nc), .ref wem, .ref wna, .ref wpl, .ref whs, .long lk, .int (nI ks), .ref wk1, .ref wk2, .ref wk3])) := k13 _ _ a5 (z_ne a5 a6 rfl)
          refine z_get (v := .int (nI nc)) C hz a15 zl8 mFX8_193 (by decide) rfl dX8_drop_32 ?_
          refine lv_icmp_ge (tgt := 83) hx hb dX8_drop_35 (by decide) (fun c16 => ?_) (fun c16 => ?_)
          · replace c16 : (nc ≤ oo) := (nI_leI (a := nc) (b := oo) (by omega) (by omega)).mp c16
            refine lv_aload_n hx hb dX8_drop_83 rfl (lv_at hl 0 rfl) ?_
            refine z_get (v := .ref wpl) C hz a15 zl8 mFX8_55 (by decide) rfl dX8_drop_84 ?_
            refine lv_iload_n hx hb dX8_drop_87 rfl (lv_at hl 1 rfl) ?_
            refine lv_iconst (v := (-1)) hx hb dX8_drop_88 (by decide) ?_
            refine z_iast jc C hz hS a14 hvc (by omega) (by omega) dX8_drop_89 (fun H locs f17 a18 k19 hz hS => ?_)
            refine lv_aload_n hx hb dX8_drop_90 rfl (lv_at hl 0 rfl) ?_
            have a20 : f17 o = some (.inr (8, [.int u1, .int u2, .int u3, .ref wev, .int (nI nl), .ref wnb, .int (nI nn), .ref wki, .ref wmy, .ref wce, .ref wiw, .ref wli, .ref wha, .ref wwt, .int (nI nf), .ref wfy, .ref wfk, .int (nI nc), .ref wem, .ref wna, .ref wpl, .ref whs, .long lk, .int (nI ks), .ref wk1, .ref wk2, .ref wk3])) := (k19 _ (z_ne a15 a14 rfl)).trans a15
            refine z_get (v := .ref whs) C hz a20 zl8 mFX8_58 (by decide) rfl dX8_drop_91 ?_
            refine lv_iload_n hx hb dX8_drop_94 rfl (lv_at hl 2 rfl) ?_
            refine lv_dup2_11 hx hb dX8_drop_95 rfl rfl ?_
            have a21 : f1 whs = some (.inl (cy 0, 4, .inl gs)) := k3 _ _ x_whs 
            have a22 : fL12 whs = some (.inl (cy 0, 4, .inl gs)) := k13 _ _ a21 (z_ne a21 a6 rfl)
            have a23 : f17 whs = some (.inl (cy 0, 4, .inl gs)) := (k19 _ (z_ne a22 a14 rfl)).trans a22
            refine z_iald je C hz a23 rfl (by omega) (by omega) dX8_drop_96 ?_
            refine lv_topi (fun y24 e25 => ?_)
            obtain rfl : y24 = nI (sq je) := e25.trans (hgs je hje)
            refine lv_iconst (v := 1) hx hb dX8_drop_97 (by decide) ?_
            refine lv_isub hx hb dX8_drop_98 ?_
            refine lv_topi (fun y26 e27 => ?_)
            obtain rfl : y26 = nI (sq je - 1) := e27.trans (pk_sub (a := sq je) (b := 1) (by omega))
            refine z_iast je C hz hS a23 rfl (by omega) (by omega) dX8_drop_99 (fun H locs f28 a29 k30 hz hS => ?_)
            refine lv_aload_n hx hb dX8_drop_100 rfl (lv_at hl 0 rfl) ?_
            have a31 : f28 o = some (.inr (8, [.int u1, .int u2, .int u3, .ref wev, .int (nI nl), .ref wnb, .int (nI nn), .ref wki, .ref wmy, .ref wce, .ref wiw, .ref wli, .ref wha, .ref wwt, .int (nI nf), .ref wfy, .ref wfk, .int (nI nc), .ref wem, .ref wna, .ref wpl, .ref whs, .long lk, .int (nI ks), .ref wk1, .ref wk2, .ref wk3])) := (k30 _ (z_ne a20 a23 rfl)).trans a20
            refine z_get (v := .ref whs) C hz a31 zl8 mFX8_58 (by decide) rfl dX8_drop_101 ?_
            refine lv_iload_n hx hb dX8_drop_104 rfl (lv_at hl 2 rfl) ?_
            refine z_iald je C hz a29 rfl (by omega) (by omega) dX8_drop_105 ?_
            have a32 : f1 wev = some (.inl (cy 0, 8, .inl gv)) := k3 _ _ x_wev 
            have a33 : fL12 wev = some (.inl (cy 0, 8, .inl gv)) := k13 _ _ a32 (z_ne a32 a6 rfl)
            have a34 : f17 wev = some (.inl (cy 0, 8, .inl gv)) := (k19 _ (z_ne a33 a14 rfl)).trans a33
            have a35 : f28 wev = some (.inl (cy 0, 8, .inl gv)) := (k30 _ (z_ne a34 a23 rfl)).trans a34
            have a36 : f1 wnb = some (.inl (cy 0, 12, .inl gu)) := k3 _ _ x_wnb 
            have a37 : fL12 wnb = some (.inl (cy 0, 12, .inl gu)) := k13 _ _ a36 (z_ne a36 a6 rfl)
            have a38 : f17 wnb = some (.inl (cy 0, 12, .inl gu)) := (k19 _ (z_ne a37 a14 rfl)).trans a37
            have a39 : f28 wnb = some (.inl (cy 0, 12, .inl gu)) := (k30 _ (z_ne a38 a23 rfl)).trans a38
            have a40 : f1 wki = some (.inl (cy 0, 60, .inl gk)) := k3 _ _ x_wki 
            have a41 : fL12 wki = some (.inl (cy 0, 60, .inl gk)) := k13 _ _ a40 n_wki_wpl
            have a42 : f17 wki = some (.inl (cy 0, 60, .inl gk)) := (k19 _ n_wki_wpl).trans a41
            have a43 : f28 wki = some (.inl (cy 0, 60, .inl gk)) := (k30 _ (z_ne a42 a23 rfl)).trans a42
            have a44 : f1 wmy = some (.inl (cy 0, 60, .inl gm)) := k3 _ _ x_wmy 
            have a45 : fL12 wmy = some (.inl (cy 0, 60, .inl gm)) := k13 _ _ a44 n_wmy_wpl
            have a46 : f17 wmy = some (.inl (cy 0, 60, .inl gm)) := (k19 _ n_wmy_wpl).trans a45
            have a47 : f28 wmy = some (.inl (cy 0, 60, .inl gm)) := (k30 _ (z_ne a46 a23 rfl)).trans a46
            have a48 : f1 wce = some (.inl (cy 1, 960, .inr (.inl gc))) := k3 _ _ x_wce 
            have a49 : fL12 wce = some (.inl (cy 1, 960, .inr (.inl gc))) := k13 _ _ a48 (z_ne a48 a6 rfl)
            have a50 : f17 wce = some (.inl (cy 1, 960, .inr (.inl gc))) := (k19 _ (z_ne a49 a14 rfl)).trans a49
            have a51 : f28 wce = some (.inl (cy 1, 960, .inr (.inl gc))) := (k30 _ (z_ne a50 a23 rfl)).trans a50
            have a52 : f1 wiw = some (.inl (cy 2, 60, .inl gw)) := k3 _ _ x_wiw 
            have a53 : fL12 wiw = some (.inl (cy 2, 60, .inl gw)) := k13 _ _ a52 n_wiw_wpl
            have a54 : f17 wiw = some (.inl (cy 2, 60, .inl gw)) := (k19 _ n_wiw_wpl).trans a53
            have a55 : f28 wiw = some (.inl (cy 2, 60, .inl gw)) := (k30 _ (z_ne a54 a23 rfl)).trans a54
            have a56 : f1 wli = some (.inl (cy 0, 60, .inl gl)) := k3 _ _ x_wli 
            have a57 : fL12 wli = some (.inl (cy 0, 60, .inl gl)) := k13 _ _ a56 n_wli_wpl
            have a58 : f17 wli = some (.inl (cy 0, 60, .inl gl)) := (k19 _ n_wli_wpl).trans a57
            have a59 : f28 wli = some (.inl (cy 0, 60, .inl gl)) := (k30 _ (z_ne a58 a23 rfl)).trans a58
            have a60 : f1 wha = some (.inl (cy 0, 60, .inl gh)) := k3 _ _ x_wha 
            have a61 : fL12 wha = some (.inl (cy 0, 60, .inl gh)) := k13 _ _ a60 n_wha_wpl
            have a62 : f17 wha = some (.inl (cy 0, 60, .inl gh)) := (k19 _ n_wha_wpl).trans a61
            have a63 : f28 wha = some (.inl (cy 0, 60, .inl gh)) := (k30 _ (z_ne a62 a23 rfl)).trans a62
            have a64 : f1 wwt = some (.inl (cy 1, 60, .inr (.inl gt))) := k3 _ _ x_wwt 
            have a65 : fL12 wwt = some (.inl (cy 1, 60, .inr (.inl gt))) := k13 _ _ a64 (z_ne a64 a6 rfl)
            have a66 : f17 wwt = some (.inl (cy 1, 60, .inr (.inl gt))) := (k19 _ (z_ne a65 a14 rfl)).trans a65
            have a67 : f28 wwt = some (.inl (cy 1, 60, .inr (.inl gt))) := (k30 _ (z_ne a66 a23 rfl)).trans a66
            have a68 : f1 wfy = some (.inl (cy 0, 6, .inl gy)) := k3 _ _ x_wfy 
            have a69 : fL12 wfy = some (.inl (cy 0, 6, .inl gy)) := k13 _ _ a68 (z_ne a68 a6 rfl)
            have a70 : f17 wfy = some (.inl (cy 0, 6, .inl gy)) := (k19 _ (z_ne a69 a14 rfl)).trans a69
            have a71 : f28 wfy = some (.inl (cy 0, 6, .inl gy)) := (k30 _ (z_ne a70 a23 rfl)).trans a70
            have a72 : f1 wfk = some (.inl (cy 0, 24, .inl gq)) := k3 _ _ x_wfk 
            have a73 : fL12 wfk = some (.inl (cy 0, 24, .inl gq)) := k13 _ _ a72 (z_ne a72 a6 rfl)
            have a74 : f17 wfk = some (.inl (cy 0, 24, .inl gq)) := (k19 _ (z_ne a73 a14 rfl)).trans a73
            have a75 : f28 wfk = some (.inl (cy 0, 24, .inl gq)) := (k30 _ (z_ne a74 a23 rfl)).trans a74
            have a76 : fL12 wem = some (.inl (cy 0, 60, .inl ge1)) := k13 _ _ a8 n_wem_wpl
            have a77 : f17 wem = some (.inl (cy 0, 60, .inl ge1)) := (k19 _ n_wem_wpl).trans a76
            have a78 : f28 wem = some (.inl (cy 0, 60, .inl ge1)) := (k30 _ (z_ne a77 a23 rfl)).trans a77
            have a79 : f1 wna = some (.inl (cy 0, 60, .inl gn1)) := k3 _ _ x_wna 
            have a80 : fL12 wna = some (.inl (cy 0, 60, .inl gn1)) := k13 _ _ a79 n_wna_wpl
            have a81 : f17 wna = some (.inl (cy 0, 60, .inl gn1)) := (k19 _ n_wna_wpl).trans a80
            have a82 : f28 wna = some (.inl (cy 0, 60, .inl gn1)) := (k30 _ (z_ne a81 a23 rfl)).trans a81
            have a83 : f28 wpl = some (.inl (cy 0, 60, .inl (upd gpv jc (-1)))) := (k30 _ (z_ne a18 a23 rfl)).trans a18
            have a84 : f1 wk1 = some (.inl (cy 0, 40, .inl gx1)) := k3 _ _ x_wk1 
            have a85 : fL12 wk1 = some (.inl (cy 0, 40, .inl gx1)) := k13 _ _ a84 (z_ne a84 a6 rfl)
            have a86 : f17 wk1 = some (.inl (cy 0, 40, .inl gx1)) := (k19 _ (z_ne a85 a14 rfl)).trans a85
            have a87 : f28 wk1 = some (.inl (cy 0, 40, .inl gx1)) := (k30 _ (z_ne a86 a23 rfl)).trans a86
            have a88 : f1 wk2 = some (.inl (cy 0, 40, .inl gx2)) := k3 _ _ x_wk2 
            have a89 : fL12 wk2 = some (.inl (cy 0, 40, .inl gx2)) := k13 _ _ a88 (z_ne a88 a6 rfl)
            have a90 : f17 wk2 = some (.inl (cy 0, 40, .inl gx2)) := (k19 _ (z_ne a89 a14 rfl)).trans a89
            have a91 : f28 wk2 = some (.inl (cy 0, 40, .inl gx2)) := (k30 _ (z_ne a90 a23 rfl)).trans a90
            have a92 : f1 wk3 = some (.inl (cy 0, 40, .inl gx3)) := k3 _ _ x_wk3 
            have a93 : fL12 wk3 = some (.inl (cy 0, 40, .inl gx3)) := k13 _ _ a92 (z_ne a92 a6 rfl)
            have a94 : f17 wk3 = some (.inl (cy 0, 40, .inl gx3)) := (k19 _ (z_ne a93 a14 rfl)).trans a93
            have a95 : f28 wk3 = some (.inl (cy 0, 40, .inl gx3)) := (k30 _ (z_ne a94 a23 rfl)).trans a94
            exact z_iret C hr rfl hz hS ⟨u1, u2, u3, nl, nn, nf, nc, lk, ks, gv, gu, gk, gm, gc, gw, gl, gh, gt, gy, gq, ge1, gn1, (upd gpv jc (-1)), (upd gs je (nI (sq je - 1))), gx1, gx2, gx3, ln, fz, (va_up sq je (sq je - 1)), rfl, rfl, rfl, rfl, rfl, rfl, rfl, rfl, rfl, rfl, rfl, rfl, rfl, rfl, rfl, rfl, rfl, rfl, rfl, rfl, rfl, rfl, rfl, (Or.inl ⟨jc, hjc, hvc, je, hje, hxe, pj, hsj, hpj, hgp, pk_us, rfl, gpv, (by obtain rfl : oo = nc := (by omega); exact hgpv), rfl⟩), ⟨a31, a35, a39, a43, a47, a51, a55, a59, a63, a67, a71, a75, a78, a82, a83, a29, a87, a91, a95, hn60, hl12, hf6, hc60, hs40, hMP, hgy, hfz, (z_gs1 hgs), (zME_drop hME hc60 hjc hje hxe hgp hsj hpj (by obtain rfl : oo = nc := (by omega); exact hgpv)), hlk, hgw, hfd, n_wki_wmy, n_wki_wiw, n_wki_wli, n_wki_wha, n_wki_wem, n_wki_wna, n_wki_wpl, n_wmy_wiw, n_wmy_wli, n_wmy_wha, n_wmy_wem, n_wmy_wna, n_wmy_wpl, n_wiw_wli, n_wiw_wha, n_wiw_wem, n_wiw_wna, n_wiw_wpl, n_wli_wha, n_wli_wem, n_wli_wna, n_wli_wpl, n_wha_wem, n_wha_wna, n_wha_wpl, n_wem_wna, n_wem_wpl, n_wna_wpl, n_wk1_wk2, n_wk1_wk3, n_wk2_wk3⟩⟩ (Nat.le_of_ble_eq_true rfl) (Nat.le_of_ble_eq_true rfl) dX8_drop_106
          · replace c16 : ¬ (nc ≤ oo) := fun h => c16 ((nI_leI (a := nc) (b := oo) (by omega) (by omega)).mpr h)
            refine lv_aload_n hx hb dX8_drop_38 rfl (lv_at hl 0 rfl) ?_
            refine z_get (v := .ref wpl) C hz a15 zl8 mFX8_55 (by decide) rfl dX8_drop_39 ?_
            refine lv_iload_n hx hb dX8_drop_42 rfl (lv_at hl 3 rfl) ?_
            refine lv_dup2_11 hx hb dX8_drop_43 rfl rfl ?_
            refine z_iald oo C hz a14 rfl (by omega) (by omega) dX8_drop_44 ?_
            refine lv_topi (fun y96 e97 => ?_)
            obtain rfl : y96 = gp1 oo := e97.trans ((hgpv oo).trans (if_neg (fun w9 => absurd w9.1 (Nat.lt_irrefl _))))
            refine lv_aload_n hx hb dX8_drop_45 rfl (lv_at hl 0 rfl) ?_
            refine z_get (v := .ref wem) C hz a15 zl8 mFX8_49 (by decide) rfl dX8_drop_46 ?_
            refine lv_iload_n hx hb dX8_drop_49 rfl (lv_at hl 3 rfl) ?_
            have a98 : fL12 wem = some (.inl (cy 0, 60, .inl ge1)) := k13 _ _ a8 n_wem_wpl
            refine z_iald oo C hz a98 rfl (by omega) (by omega) dX8_drop_50 ?_
            refine lv_iload_n hx hb dX8_drop_51 rfl (lv_at hl 2 rfl) ?_
            refine lv_icmp_ne (tgt := 74) hx hb dX8_drop_52 (by decide) (fun c99 => ?_) (fun c99 => ?_)
            · refine lv_iconst (v := 0) hx hb dX8_drop_74 (by decide) ?_
              refine lv_isub hx hb dX8_drop_75 ?_
              refine z_iast oo C hz hS a14 rfl (by omega) (by omega) dX8_drop_76 (fun H locs f100 a101 k102 hz hS => ?_)
              refine lv_iinc (v := nI (oo + 1)) (lv' := [(3, .int (nI (oo + 1))), (0, .ref o), (1, .int x), (2, .int (nI je))]) hx hb dX8_drop_77 hl (k := 3) rfl (nI_1 oo) (by decide) rfl (fun ls hl => ?_)
              refine lv_goto (tgt := 30) hx hb dX8_drop_80 (by decide) ?_
              exact ih (oo + 1) (upd gpv oo ((gp1 oo) - 0)) _ _ _ _ (by omega) (by omega) (z_drB hgpv (fun w9 => c99 w9.1)) a101 (by
                    intro b e hb n0
                    have hb1 : fL12 b = some e := k13 b e hb n0
                    have hb2 : f100 b = some e := (k102 b n0).trans hb1
                    exact hb2) hz hS (lv_sub hl [1, 2, 3, 0] rfl)
            · refine lv_aload_n hx hb dX8_drop_55 rfl (lv_at hl 0 rfl) ?_
              refine z_get (v := .ref wpl) C hz a15 zl8 mFX8_55 (by decide) rfl dX8_drop_56 ?_
              refine lv_iload_n hx hb dX8_drop_59 rfl (lv_at hl 3 rfl) ?_
              refine z_iald oo C hz a14 rfl (by omega) (by omega) dX8_drop_60 ?_
              refine lv_topi (fun y103 e104 => ?_)
              obtain rfl : y103 = gp1 oo := e104.trans ((hgpv oo).trans (if_neg (fun w9 => absurd w9.1 (Nat.lt_irrefl _))))
              refine lv_aload_n hx hb dX8_drop_61 rfl (lv_at hl 0 rfl) ?_
              refine z_get (v := .ref wpl) C hz a15 zl8 mFX8_55 (by decide) rfl dX8_drop_62 ?_
              refine lv_iload_n hx hb dX8_drop_65 rfl (lv_at hl 1 rfl) ?_
              refine z_iald jc C hz a14 hvc (by omega) (by omega) dX8_drop_66 ?_
              refine lv_topi (fun y105 e106 => ?_)
              obtain rfl : y105 = gp1 jc := e106.trans ((hgpv jc).trans (if_neg (fun w9 => absurd w9.2.2 Int32.lt_irrefl)))
              refine lv_icmp_le (tgt := 74) hx hb dX8_drop_67 (by decide) (fun c107 => ?_) (fun c107 => ?_)
              · refine lv_iconst (v := 0) hx hb dX8_drop_74 (by decide) ?_
                refine lv_isub hx hb dX8_drop_75 ?_
                refine z_iast oo C hz hS a14 rfl (by omega) (by omega) dX8_drop_76 (fun H locs f108 a109 k110 hz hS => ?_)
                refine lv_iinc (v := nI (oo + 1)) (lv' := [(3, .int (nI (oo + 1))), (0, .ref o), (1, .int x), (2, .int (nI je))]) hx hb dX8_drop_77 hl (k := 3) rfl (nI_1 oo) (by decide) rfl (fun ls hl => ?_)
                refine lv_goto (tgt := 30) hx hb dX8_drop_80 (by decide) ?_
                exact ih (oo + 1) (upd gpv oo ((gp1 oo) - 0)) _ _ _ _ (by omega) (by omega) (z_drB hgpv (fun w9 => absurd w9.2 (Int32.not_lt.mpr c107))) a109 (by
                      intro b e hb n0
                      have hb1 : fL12 b = some e := k13 b e hb n0
                      have hb2 : f108 b = some e := (k110 b n0).trans hb1
                      exact hb2) hz hS (lv_sub hl [1, 2, 3, 0] rfl)
              · refine lv_iconst (v := 1) hx hb dX8_drop_70 (by decide) ?_
                refine lv_goto (tgt := 75) hx hb dX8_drop_71 (by decide) ?_
                refine lv_isub hx hb dX8_drop_75 ?_
                refine z_iast oo C hz hS a14 rfl (by omega) (by omega) dX8_drop_76 (fun H locs f111 a112 k113 hz hS => ?_)
                refine lv_iinc (v := nI (oo + 1)) (lv' := [(3, .int (nI (oo + 1))), (0, .ref o), (1, .int x), (2, .int (nI je))]) hx hb dX8_drop_77 hl (k := 3) rfl (nI_1 oo) (by decide) rfl (fun ls hl => ?_)
                refine lv_goto (tgt := 30) hx hb dX8_drop_80 (by decide) ?_
                exact ih (oo + 1) (upd gpv oo ((gp1 oo) - 1)) _ _ _ _ (by omega) (by omega) (z_drA hgpv ⟨c99, Int32.not_le.mp c107⟩) a112 (by
                      intro b e hb n0
                      have hb1 : fL12 b = some e := k13 b e hb n0
                      have hb2 : f111 b = some e := (k113 b n0).trans hb1
                      exact hb2) hz hS (lv_sub hl [1, 2, 3, 0] rfl)
      exact lp11 (nc - 0 + 1) 0 gp1 _ _ _ _ (Nat.lt_succ_self _) (by omega) (fun i => by rw [if_neg (fun w9 => absurd w9.1 (Nat.not_lt_zero _))]) a6 (fun b e hb n0 => hb) hz hS (lv_sub hl [2, 3, 1, 0] rfl)
    · refine lv_bipush (v := (-2)) hx hb dX8_drop_18 (by decide) ?_
      have a114 : f1 wev = some (.inl (cy 0, 8, .inl gv)) := k3 _ _ x_wev 
      have a115 : f1 wnb = some (.inl (cy 0, 12, .inl gu)) := k3 _ _ x_wnb 
      have a116 : f1 wki = some (.inl (cy 0, 60, .inl gk)) := k3 _ _ x_wki 
      have a117 : f1 wmy = some (.inl (cy 0, 60, .inl gm)) := k3 _ _ x_wmy 
      have a118 : f1 wce = some (.inl (cy 1, 960, .inr (.inl gc))) := k3 _ _ x_wce 
      have a119 : f1 wiw = some (.inl (cy 2, 60, .inl gw)) := k3 _ _ x_wiw 
      have a120 : f1 wli = some (.inl (cy 0, 60, .inl gl)) := k3 _ _ x_wli 
      have a121 : f1 wha = some (.inl (cy 0, 60, .inl gh)) := k3 _ _ x_wha 
      have a122 : f1 wwt = some (.inl (cy 1, 60, .inr (.inl gt))) := k3 _ _ x_wwt 
      have a123 : f1 wfy = some (.inl (cy 0, 6, .inl gy)) := k3 _ _ x_wfy 
      have a124 : f1 wfk = some (.inl (cy 0, 24, .inl gq)) := k3 _ _ x_wfk 
      have a125 : f1 wem = some (.inl (cy 0, 60, .inl ge1)) := k3 _ _ x_wem 
      have a126 : f1 wna = some (.inl (cy 0, 60, .inl gn1)) := k3 _ _ x_wna 
      have a127 : f1 whs = some (.inl (cy 0, 4, .inl gs)) := k3 _ _ x_whs 
      have a128 : f1 wk1 = some (.inl (cy 0, 40, .inl gx1)) := k3 _ _ x_wk1 
      have a129 : f1 wk2 = some (.inl (cy 0, 40, .inl gx2)) := k3 _ _ x_wk2 
      have a130 : f1 wk3 = some (.inl (cy 0, 40, .inl gx3)) := k3 _ _ x_wk3 
      exact z_iret C hr rfl hz hS ⟨u1, u2, u3, nl, nn, nf, nc, lk, ks, gv, gu, gk, gm, gc, gw, gl, gh, gt, gy, gq, ge1, gn1, gp1, gs, gx1, gx2, gx3, ln, fz, sq, rfl, rfl, rfl, rfl, rfl, rfl, rfl, rfl, rfl, rfl, rfl, rfl, rfl, rfl, rfl, rfl, rfl, rfl, rfl, rfl, rfl, rfl, rfl, (Or.inr ⟨rfl, rfl, rfl, fun jc9 h9 e9 => by rw [← (nI_eq (by omega) (by omega)).mp (hvc.symm.trans e9)]; exact c7⟩), ⟨a5, a114, a115, a116, a117, a118, a119, a120, a121, a122, a123, a124, a125, a126, a6, a127, a128, a129, a130, hn60, hl12, hf6, hc60, hs40, hMP, hgy, hfz, hgs, hME, hlk, hgw, hfd, n_wki_wmy, n_wki_wiw, n_wki_wli, n_wki_wha, n_wki_wem, n_wki_wna, n_wki_wpl, n_wmy_wiw, n_wmy_wli, n_wmy_wha, n_wmy_wem, n_wmy_wna, n_wmy_wpl, n_wiw_wli, n_wiw_wha, n_wiw_wem, n_wiw_wna, n_wiw_wpl, n_wli_wha, n_wli_wem, n_wli_wna, n_wli_wpl, n_wha_wem, n_wha_wna, n_wha_wpl, n_wem_wna, n_wem_wpl, n_wna_wpl, n_wk1_wk2, n_wk1_wk3, n_wk2_wk3⟩⟩ (Nat.le_of_ble_eq_true rfl) (Nat.le_of_ble_eq_true rfl) dX8_drop_20
  · refine z_callVi (As := [.int x]) C hz hS hA hl (k_X8_isConstant_B l D cy f o wev wnb wki wmy wce wiw wli wha wwt wfy wfk wem wna wpl whs wk1 wk2 wk3 u1 u2 u3 nl nn nf nc lk ks x x_o hc60 hvc) zyX8_isConstant mMX8_202 x_o zl8 rfl rfl (Nat.le_of_ble_eq_true rfl) ⟨Nat.le_of_ble_eq_true rfl, Nat.le_of_ble_eq_true rfl⟩ ⟨Nat.le_of_ble_eq_true rfl, Nat.le_of_ble_eq_true rfl⟩ dX8_drop_2 (fun r f131 H locs h132 hz hS => ?_)
    obtain ⟨rfl, k133⟩ := h132
    refine lv_if_eq (tgt := 18) hx hb dX8_drop_5 (by decide) (fun c134 => ?_) (fun c134 => ?_)
    rotate_left
    · exact absurd c134 (by decide)
    refine lv_bipush (v := (-2)) hx hb dX8_drop_18 (by decide) ?_
    have a135 : f131 o = some (.inr (8, [.int u1, .int u2, .int u3, .ref wev, .int (nI nl), .ref wnb, .int (nI nn), .ref wki, .ref wmy, .ref wce, .ref wiw, .ref wli, .ref wha, .ref wwt, .int (nI nf), .ref wfy, .ref wfk, .int (nI nc), .ref wem, .ref wna, .ref wpl, .ref whs, .long lk, .int (nI ks), .ref wk1, .ref wk2, .ref wk3])) := k133 _ _ x_o 
    have a136 : f131 wev = some (.inl (cy 0, 8, .inl gv)) := k133 _ _ x_wev 
    have a137 : f131 wnb = some (.inl (cy 0, 12, .inl gu)) := k133 _ _ x_wnb 
    have a138 : f131 wki = some (.inl (cy 0, 60, .inl gk)) := k133 _ _ x_wki 
    have a139 : f131 wmy = some (.inl (cy 0, 60, .inl gm)) := k133 _ _ x_wmy 
    have a140 : f131 wce = some (.inl (cy 1, 960, .inr (.inl gc))) := k133 _ _ x_wce 
    have a141 : f131 wiw = some (.inl (cy 2, 60, .inl gw)) := k133 _ _ x_wiw 
    have a142 : f131 wli = some (.inl (cy 0, 60, .inl gl)) := k133 _ _ x_wli 
    have a143 : f131 wha = some (.inl (cy 0, 60, .inl gh)) := k133 _ _ x_wha 
    have a144 : f131 wwt = some (.inl (cy 1, 60, .inr (.inl gt))) := k133 _ _ x_wwt 
    have a145 : f131 wfy = some (.inl (cy 0, 6, .inl gy)) := k133 _ _ x_wfy 
    have a146 : f131 wfk = some (.inl (cy 0, 24, .inl gq)) := k133 _ _ x_wfk 
    have a147 : f131 wem = some (.inl (cy 0, 60, .inl ge1)) := k133 _ _ x_wem 
    have a148 : f131 wna = some (.inl (cy 0, 60, .inl gn1)) := k133 _ _ x_wna 
    have a149 : f131 wpl = some (.inl (cy 0, 60, .inl gp1)) := k133 _ _ x_wpl 
    have a150 : f131 whs = some (.inl (cy 0, 4, .inl gs)) := k133 _ _ x_whs 
    have a151 : f131 wk1 = some (.inl (cy 0, 40, .inl gx1)) := k133 _ _ x_wk1 
    have a152 : f131 wk2 = some (.inl (cy 0, 40, .inl gx2)) := k133 _ _ x_wk2 
    have a153 : f131 wk3 = some (.inl (cy 0, 40, .inl gx3)) := k133 _ _ x_wk3 
    exact z_iret C hr rfl hz hS ⟨u1, u2, u3, nl, nn, nf, nc, lk, ks, gv, gu, gk, gm, gc, gw, gl, gh, gt, gy, gq, ge1, gn1, gp1, gs, gx1, gx2, gx3, ln, fz, sq, rfl, rfl, rfl, rfl, rfl, rfl, rfl, rfl, rfl, rfl, rfl, rfl, rfl, rfl, rfl, rfl, rfl, rfl, rfl, rfl, rfl, rfl, rfl, (Or.inr ⟨rfl, rfl, rfl, fun jc9 h9 e9 => absurd e9 (hvc jc9 h9)⟩), ⟨a135, a136, a137, a138, a139, a140, a141, a142, a143, a144, a145, a146, a147, a148, a149, a150, a151, a152, a153, hn60, hl12, hf6, hc60, hs40, hMP, hgy, hfz, hgs, hME, hlk, hgw, hfd, n_wki_wmy, n_wki_wiw, n_wki_wli, n_wki_wha, n_wki_wem, n_wki_wna, n_wki_wpl, n_wmy_wiw, n_wmy_wli, n_wmy_wha, n_wmy_wem, n_wmy_wna, n_wmy_wpl, n_wiw_wli, n_wiw_wha, n_wiw_wem, n_wiw_wna, n_wiw_wpl, n_wli_wha, n_wli_wem, n_wli_wna, n_wli_wpl, n_wha_wem, n_wha_wna, n_wha_wpl, n_wem_wna, n_wem_wpl, n_wna_wpl, n_wk1_wk2, n_wk1_wk3, n_wk2_wk3⟩⟩ (Nat.le_of_ble_eq_true rfl) (Nat.le_of_ble_eq_true rfl) dX8_drop_20
