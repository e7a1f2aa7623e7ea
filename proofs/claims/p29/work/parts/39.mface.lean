abbrev rmX8_seed : Room := { frames := 0, cells := 0, slots := 0, locals := 0 }
set_option maxHeartbeats 4000000 in
set_option maxRecDepth 100000 in
theorem k_X8_seed (l : Launch) (D : va_G) (cy : Nat → ClassId) (f : zM) (o : Nat) (wev : Nat) (wnb : Nat) (wki : Nat) (wmy : Nat) (wce : Nat) (wiw : Nat) (wli : Nat) (wha : Nat) (wwt : Nat) (wfy : Nat) (wfk : Nat) (wem : Nat) (wna : Nat) (wpl : Nat) (whs : Nat) (wk1 : Nat) (wk2 : Nat) (wk3 : Nat) (u1 : Int32) (u2 : Int32) (u3 : Int32) (nl : Nat) (nn : Nat) (nf : Nat) (nc : Nat) (lk : Int64) (ks : Nat) (gv : Nat → Int32) (gu : Nat → Int32) (gk : Nat → Int32) (gm : Nat → Int32) (gc : Nat → Int64) (gw : Nat → Int32) (gl : Nat → Int32) (gh : Nat → Int32) (gt : Nat → Int64) (gy : Nat → Int32) (gq : Nat → Int32) (ge1 : Nat → Int32) (gn1 : Nat → Int32) (gp1 : Nat → Int32) (gs : Nat → Int32) (gx1 : Nat → Int32) (gx2 : Nat → Int32) (gx3 : Nat → Int32) (ln : Nat → Nat) (fz : Nat → Nat) (sq : Nat → Nat) (x : Int32)    (hI : zIM cy f o wev wnb wki wmy wce wiw wli wha wwt wfy wfk wem wna wpl whs wk1 wk2 wk3 u1 u2 u3 nl nn nf nc lk ks gv gu gk gm gc gw gl gh gt gy gq ge1 gn1 gp1 gs gx1 gx2 gx3 ln fz sq) : zCi l D cy yX8_seed cX8_seed 3 (Option.some Jvm.ClassFile.FieldType.int) rmX8_seed [.ref o, .int x] f (fun (r : Int32) (f1 : zM) => ∃ (u11 : Int32) (u21 : Int32) (u31 : Int32) (nl1 : Nat) (nn1 : Nat) (nf1 : Nat) (nc1 : Nat) (lk1 : Int64) (ks1 : Nat) (gv1 : Nat → Int32) (gu1 : Nat → Int32) (gk1 : Nat → Int32) (gm1 : Nat → Int32) (gc1 : Nat → Int64) (gw1 : Nat → Int32) (gl1 : Nat → Int32) (gh1 : Nat → Int32) (gt1 : Nat → Int64) (gy1 : Nat → Int32) (gq1 : Nat → Int32) (ge11 : Nat → Int32) (gn11 : Nat → Int32) (gp11 : Nat → Int32) (gs1 : Nat → Int32) (gx11 : Nat → Int32) (gx21 : Nat → Int32) (gx31 : Nat → Int32) (ln1 : Nat → Nat) (fz1 : Nat → Nat) (sq1 : Nat → Nat), r = (if isS x = true then lk.toInt32 else (-2)) ∧ (u11 = u1) ∧ (u21 = u2) ∧ (u31 = u3) ∧ (gv1 = gv) ∧ (nl1 = nl) ∧ (gu1 = gu) ∧ (nn1 = nn) ∧ (gk1 = gk) ∧ (ln1 = ln) ∧ (gw1 = gw) ∧ (gh1 = gh) ∧ (gc1 = gc) ∧ (nf1 = nf) ∧ (fz1 = fz) ∧ (gq1 = gq) ∧ (nc1 = nc) ∧ (ge11 = ge1) ∧ (gn11 = gn1) ∧ (gp11 = gp1) ∧ (sq1 = sq) ∧ (ks1 = ks) ∧ (gx11 = gx1) ∧ (gx21 = gx2) ∧ (gx31 = gx3) ∧ (lk1 = if isS x = true then x.toInt64 else lk) ∧ zIM cy f1 o wev wnb wki wmy wce wiw wli wha wwt wfy wfk wem wna wpl whs wk1 wk2 wk3 u11 u21 u31 nl1 nn1 nf1 nc1 lk1 ks1 gv1 gu1 gk1 gm1 gc1 gw1 gl1 gh1 gt1 gy1 gq1 ge11 gn11 gp11 gs1 gx11 gx21 gx31 ln1 fz1 sq1) := by
  intro sz
  refine z_body (by decide +kernel) (Nat.le_of_ble_eq_true rfl) ?_
  intro p e s m below meth c ls C hr hin hsz hz hl
  subst hsz
  have hx := C.1
  have hb := C.2.1
  have hA : ∀ q, s.heap.size ≤ q → zA f s.heap.size q := fun q h => Or.inr h
  have hS : va_S (zA f s.heap.size) s.heap s.heap [] := va_S.rf
  have hl : lv_has ls 3 [(0, .ref o), (1, .int x)] := hl
  obtain ⟨x_o, x_wev, x_wnb, x_wki, x_wmy, x_wce, x_wiw, x_wli, x_wha, x_wwt, x_wfy, x_wfk, x_wem, x_wna, x_wpl, x_whs, x_wk1, x_wk2, x_wk3, hn60, hl12, hf6, hc60, hs40, hMP, hgy, hfz, hgs, hME, hlk, hgw, hfd, n_wki_wmy, n_wki_wiw, n_wki_wli, n_wki_wha, n_wki_wem, n_wki_wna, n_wki_wpl, n_wmy_wiw, n_wmy_wli, n_wmy_wha, n_wmy_wem, n_wmy_wna, n_wmy_wpl, n_wiw_wli, n_wiw_wha, n_wiw_wem, n_wiw_wna, n_wiw_wpl, n_wli_wha, n_wli_wem, n_wli_wna, n_wli_wpl, n_wha_wem, n_wha_wna, n_wha_wpl, n_wem_wna, n_wem_wpl, n_wna_wpl, n_wk1_wk2, n_wk1_wk3, n_wk2_wk3⟩ := id hI
  refine lv_iload_n hx hb dX8_seed_0 rfl (lv_at hl 1 rfl) ?_
  refine lv_iconst (v := 1) hx hb dX8_seed_1 (by decide) ?_
  refine lv_icmp_lt (tgt := 11) hx hb dX8_seed_2 (by decide) (fun c1 => ?_) (fun c1 => ?_)
  · have hSd : isS x = false := isS_1 c1
    refine lv_bipush (v := (-2)) hx hb dX8_seed_11 (by decide) ?_
    exact z_iret C hr rfl hz hS ⟨u1, u2, u3, nl, nn, nf, nc, lk, ks, gv, gu, gk, gm, gc, gw, gl, gh, gt, gy, gq, ge1, gn1, gp1, gs, gx1, gx2, gx3, ln, fz, sq, (by simp [hSd]), rfl, rfl, rfl, rfl, rfl, rfl, rfl, rfl, rfl, rfl, rfl, rfl, rfl, rfl, rfl, rfl, rfl, rfl, rfl, rfl, rfl, rfl, rfl, rfl, (by simp [hSd]), ⟨x_o, x_wev, x_wnb, x_wki, x_wmy, x_wce, x_wiw, x_wli, x_wha, x_wwt, x_wfy, x_wfk, x_wem, x_wna, x_wpl, x_whs, x_wk1, x_wk2, x_wk3, hn60, hl12, hf6, hc60, hs40, hMP, hgy, hfz, hgs, hME, hlk, hgw, hfd, n_wki_wmy, n_wki_wiw, n_wki_wli, n_wki_wha, n_wki_wem, n_wki_wna, n_wki_wpl, n_wmy_wiw, n_wmy_wli, n_wmy_wha, n_wmy_wem, n_wmy_wna, n_wmy_wpl, n_wiw_wli, n_wiw_wha, n_wiw_wem, n_wiw_wna, n_wiw_wpl, n_wli_wha, n_wli_wem, n_wli_wna, n_wli_wpl, n_wha_wem, n_wha_wna, n_wha_wpl, n_wem_wna, n_wem_wpl, n_wna_wpl, n_wk1_wk2, n_wk1_wk3, n_wk2_wk3⟩⟩ (Nat.le_of_ble_eq_true rfl) (Nat.le_of_ble_eq_true rfl) dX8_seed_13
  · refine lv_iload_n hx hb dX8_seed_5 rfl (lv_at hl 1 rfl) ?_
    refine lv_ldc (v := 2147483647) hx hb C.2.2.2.1 (C.2.2.2.2.1 _ mKX8_212) dX8_seed_6 ?_
    refine lv_icmp_ne (tgt := 14) hx hb dX8_seed_8 (by decide) (fun c2 => ?_) (fun c2 => ?_)
    · have hSd : isS x = true := isS_t c1 c2
      refine lv_aload_n hx hb dX8_seed_14 rfl (lv_at hl 0 rfl) ?_
      refine z_get (v := .long lk) C hz x_o zl8 mFX8_61 (by decide) rfl dX8_seed_15 ?_
      refine lv_l2i (v := lk.toInt32) hx hb dX8_seed_18 rfl ?_
      refine lv_istore_n (lv' := [(2, .int lk.toInt32), (0, .ref o), (1, .int x)]) hx hb dX8_seed_19 rfl hl (by decide) rfl (fun ls hl => ?_)
      refine lv_aload_n hx hb dX8_seed_20 rfl (lv_at hl 1 rfl) ?_
      refine lv_iload_n hx hb dX8_seed_21 rfl (lv_at hl 2 rfl) ?_
      refine lv_i2l (v := x.toInt64) hx hb dX8_seed_22 rfl ?_
      refine z_put (fs' := [.int u1, .int u2, .int u3, .ref wev, .int (nI nl), .ref wnb, .int (nI nn), .ref wki, .ref wmy, .ref wce, .ref wiw, .ref wli, .ref wha, .ref wwt, .int (nI nf), .ref wfy, .ref wfk, .int (nI nc), .ref wem, .ref wna, .ref wpl, .ref whs, .long x.toInt64, .int (nI ks), .ref wk1, .ref wk2, .ref wk3]) C hz hS x_o zl8 mFX8_61 (by decide) rfl rfl rfl (Nat.le_of_ble_eq_true rfl) rfl dX8_seed_23 (fun H locs f3 a4 k5 hz hS => ?_)
      refine lv_iload_n hx hb dX8_seed_26 rfl (lv_at hl 0 rfl) ?_
      have a6 : f3 wev = some (.inl (cy 0, 8, .inl gv)) := (k5 _ (z_ne x_wev x_o rfl)).trans x_wev
      have a7 : f3 wnb = some (.inl (cy 0, 12, .inl gu)) := (k5 _ (z_ne x_wnb x_o rfl)).trans x_wnb
      have a8 : f3 wki = some (.inl (cy 0, 60, .inl gk)) := (k5 _ (z_ne x_wki x_o rfl)).trans x_wki
      have a9 : f3 wmy = some (.inl (cy 0, 60, .inl gm)) := (k5 _ (z_ne x_wmy x_o rfl)).trans x_wmy
      have a10 : f3 wce = some (.inl (cy 1, 960, .inr (.inl gc))) := (k5 _ (z_ne x_wce x_o rfl)).trans x_wce
      have a11 : f3 wiw = some (.inl (cy 2, 60, .inl gw)) := (k5 _ (z_ne x_wiw x_o rfl)).trans x_wiw
      have a12 : f3 wli = some (.inl (cy 0, 60, .inl gl)) := (k5 _ (z_ne x_wli x_o rfl)).trans x_wli
      have a13 : f3 wha = some (.inl (cy 0, 60, .inl gh)) := (k5 _ (z_ne x_wha x_o rfl)).trans x_wha
      have a14 : f3 wwt = some (.inl (cy 1, 60, .inr (.inl gt))) := (k5 _ (z_ne x_wwt x_o rfl)).trans x_wwt
      have a15 : f3 wfy = some (.inl (cy 0, 6, .inl gy)) := (k5 _ (z_ne x_wfy x_o rfl)).trans x_wfy
      have a16 : f3 wfk = some (.inl (cy 0, 24, .inl gq)) := (k5 _ (z_ne x_wfk x_o rfl)).trans x_wfk
      have a17 : f3 wem = some (.inl (cy 0, 60, .inl ge1)) := (k5 _ (z_ne x_wem x_o rfl)).trans x_wem
      have a18 : f3 wna = some (.inl (cy 0, 60, .inl gn1)) := (k5 _ (z_ne x_wna x_o rfl)).trans x_wna
      have a19 : f3 wpl = some (.inl (cy 0, 60, .inl gp1)) := (k5 _ (z_ne x_wpl x_o rfl)).trans x_wpl
      have a20 : f3 whs = some (.inl (cy 0, 4, .inl gs)) := (k5 _ (z_ne x_whs x_o rfl)).trans x_whs
      have a21 : f3 wk1 = some (.inl (cy 0, 40, .inl gx1)) := (k5 _ (z_ne x_wk1 x_o rfl)).trans x_wk1
      have a22 : f3 wk2 = some (.inl (cy 0, 40, .inl gx2)) := (k5 _ (z_ne x_wk2 x_o rfl)).trans x_wk2
      have a23 : f3 wk3 = some (.inl (cy 0, 40, .inl gx3)) := (k5 _ (z_ne x_wk3 x_o rfl)).trans x_wk3
      exact z_iret C hr rfl hz hS ⟨u1, u2, u3, nl, nn, nf, nc, x.toInt64, ks, gv, gu, gk, gm, gc, gw, gl, gh, gt, gy, gq, ge1, gn1, gp1, gs, gx1, gx2, gx3, ln, fz, sq, (by simp [hSd]), rfl, rfl, rfl, rfl, rfl, rfl, rfl, rfl, rfl, rfl, rfl, rfl, rfl, rfl, rfl, rfl, rfl, rfl, rfl, rfl, rfl, rfl, rfl, rfl, (by simp [hSd]), ⟨a4, a6, a7, a8, a9, a10, a11, a12, a13, a14, a15, a16, a17, a18, a19, a20, a21, a22, a23, hn60, hl12, hf6, hc60, hs40, hMP, hgy, hfz, hgs, hME, (z_seedk c1 ((z_seed x).mpr c2)), hgw, hfd, n_wki_wmy, n_wki_wiw, n_wki_wli, n_wki_wha, n_wki_wem, n_wki_wna, n_wki_wpl, n_wmy_wiw, n_wmy_wli, n_wmy_wha, n_wmy_wem, n_wmy_wna, n_wmy_wpl, n_wiw_wli, n_wiw_wha, n_wiw_wem, n_wiw_wna, n_wiw_wpl, n_wli_wha, n_wli_wem, n_wli_wna, n_wli_wpl, n_wha_wem, n_wha_wna, n_wha_wpl, n_wem_wna, n_wem_wpl, n_wna_wpl, n_wk1_wk2, n_wk1_wk3, n_wk2_wk3⟩⟩ (Nat.le_of_ble_eq_true rfl) (Nat.le_of_ble_eq_true rfl) dX8_seed_27
    · have hSd : isS x = false := isS_2 c2
      refine lv_bipush (v := (-2)) hx hb dX8_seed_11 (by decide) ?_
      exact z_iret C hr rfl hz hS ⟨u1, u2, u3, nl, nn, nf, nc, lk, ks, gv, gu, gk, gm, gc, gw, gl, gh, gt, gy, gq, ge1, gn1, gp1, gs, gx1, gx2, gx3, ln, fz, sq, (by simp [hSd]), rfl, rfl, rfl, rfl, rfl, rfl, rfl, rfl, rfl, rfl, rfl, rfl, rfl, rfl, rfl, rfl, rfl, rfl, rfl, rfl, rfl, rfl, rfl, rfl, (by simp [hSd]), ⟨x_o, x_wev, x_wnb, x_wki, x_wmy, x_wce, x_wiw, x_wli, x_wha, x_wwt, x_wfy, x_wfk, x_wem, x_wna, x_wpl, x_whs, x_wk1, x_wk2, x_wk3, hn60, hl12, hf6, hc60, hs40, hMP, hgy, hfz, hgs, hME, hlk, hgw, hfd, n_wki_wmy, n_wki_wiw, n_wki_wli, n_wki_wha, n_wki_wem, n_wki_wna, n_wki_wpl, n_wmy_wiw, n_wmy_wli, n_wmy_wha, n_wmy_wem, n_wmy_wna, n_wmy_wpl, n_wiw_wli, n_wiw_wha, n_wiw_wem, n_wiw_wna, n_wiw_wpl, n_wli_wha, n_wli_wem, n_wli_wna, n_wli_wpl, n_wha_wem, n_wha_wna, n_wha_wpl, n_wem_wna, n_wem_wpl, n_wna_wpl, n_wk1_wk2, n_wk1_wk3, n_wk2_wk3⟩⟩ (Nat.le_of_ble_eq_true rfl) (Nat.le_of_ble_eq_true rfl) dX8_seed_13
abbrev rmX8_told : Room := { frames := 1, cells := 0, slots := 0, locals := 21 }
set_option maxHeartbeats 4000000 in
set_option maxRecDepth 100000 in
theorem k_X8_told (l : Launch) (D : va_G) (cy : Nat → ClassId) (f : zM) (o : Nat) (wev : Nat) (wnb : Nat) (wki : Nat) (wmy : Nat) (wce : Nat) (wiw : Nat) (wli : Nat) (wha : Nat) (wwt : Nat) (wfy : Nat) (wfk : Nat) (wem : Nat) (wna : Nat) (wpl : Nat) (whs : Nat) (wk1 : Nat) (wk2 : Nat) (wk3 : Nat) (u1 : Int32) (u2 : Int32) (u3 : Int32) (nl : Nat) (nn : Nat) (nf : Nat) (nc : Nat) (lk : Int64) (ks : Nat) (gv : Nat → Int32) (gu : Nat → Int32) (gk : Nat → Int32) (gm : Nat → Int32) (gc : Nat → Int64) (gw : Nat → Int32) (gl : Nat → Int32) (gh : Nat → Int32) (gt : Nat → Int64) (gy : Nat → Int32) (gq : Nat → Int32) (ge1 : Nat → Int32) (gn1 : Nat → Int32) (gp1 : Nat → Int32) (gs : Nat → Int32) (gx1 : Nat → Int32) (gx2 : Nat → Int32) (gx3 : Nat → Int32) (ln : Nat → Nat) (fz : Nat → Nat) (sq : Nat → Nat) (x : Int32) (y : Int32)    (hI : zIM cy f o wev wnb wki wmy wce wiw wli wha wwt wfy wfk wem wna wpl whs wk1 wk2 wk3 u1 u2 u3 nl nn nf nc lk ks gv gu gk gm gc gw gl gh gt gy gq ge1 gn1 gp1 gs gx1 gx2 gx3 ln fz sq) : zCi l D cy yX8_told cX8_told 3 (Option.some Jvm.ClassFile.FieldType.int) rmX8_told [.ref o, .int x, .int y] f (fun (r : Int32) (f1 : zM) => ∃ (u11 : Int32) (u21 : Int32) (u31 : Int32) (nl1 : Nat) (nn1 : Nat) (nf1 : Nat) (nc1 : Nat) (lk1 : Int64) (ks1 : Nat) (gv1 : Nat → Int32) (gu1 : Nat → Int32) (gk1 : Nat → Int32) (gm1 : Nat → Int32) (gc1 : Nat → Int64) (gw1 : Nat → Int32) (gl1 : Nat → Int32) (gh1 : Nat → Int32) (gt1 : Nat → Int64) (gy1 : Nat → Int32) (gq1 : Nat → Int32) (ge11 : Nat → Int32) (gn11 : Nat → Int32) (gp11 : Nat → Int32) (gs1 : Nat → Int32) (gx11 : Nat → Int32) (gx21 : Nat → Int32) (gx31 : Nat → Int32) (ln1 : Nat → Nat) (fz1 : Nat → Nat) (sq1 : Nat → Nat), (u11 = u1) ∧ (u21 = u2) ∧ (u31 = u3) ∧ (gv1 = gv) ∧ (nl1 = nl) ∧ (gu1 = gu) ∧ (nn1 = nn) ∧ (gk1 = gk) ∧ (ln1 = ln) ∧ (gw1 = gw) ∧ (gh1 = gh) ∧ (gc1 = gc) ∧ (nf1 = nf) ∧ (fz1 = fz) ∧ (gq1 = gq) ∧ (nc1 = nc) ∧ (ge11 = ge1) ∧ (gn11 = gn1) ∧ (gp11 = gp1) ∧ (sq1 = sq) ∧ (ks1 = ks) ∧ (gx11 = gx1) ∧ (gx21 = gx2) ∧ (gx31 = gx3) ∧ (lk1 = lk) ∧ (zYT nc x y ge1 gn1 gp1 r) ∧ zIM cy f1 o wev wnb wki wmy wce wiw wli wha wwt wfy wfk wem wna wpl whs wk1 wk2 wk3 u11 u21 u31 nl1 nn1 nf1 nc1 lk1 ks1 gv1 gu1 gk1 gm1 gc1 gw1 gl1 gh1 gt1 gy1 gq1 ge11 gn11 gp11 gs1 gx11 gx21 gx31 ln1 fz1 sq1) := by
  intro sz
  refine z_body (by decide +kernel) (Nat.le_of_ble_eq_true rfl) ?_
  intro p e s m below meth c ls C hr hin hsz hz hl
  subst hsz
  have hx := C.1
  have hb := C.2.1
  have hA : ∀ q, s.heap.size ≤ q → zA f s.heap.size q := fun q h => Or.inr h
  have hS : va_S (zA f s.heap.size) s.heap s.heap [] := va_S.rf
  have hl : lv_has ls 3 [(0, .ref o), (1, .int x), (2, .int y)] := hl
  obtain ⟨x_o, x_wev, x_wnb, x_wki, x_wmy, x_wce, x_wiw, x_wli, x_wha, x_wwt, x_wfy, x_wfk, x_wem, x_wna, x_wpl, x_whs, x_wk1, x_wk2, x_wk3, hn60, hl12, hf6, hc60, hs40, hMP, hgy, hfz, hgs, hME, hlk, hgw, hfd, n_wki_wmy, n_wki_wiw, n_wki_wli, n_wki_wha, n_wki_wem, n_wki_wna, n_wki_wpl, n_wmy_wiw, n_wmy_wli, n_wmy_wha, n_wmy_wem, n_wmy_wna, n_wmy_wpl, n_wiw_wli, n_wiw_wha, n_wiw_wem, n_wiw_wna, n_wiw_wpl, n_wli_wha, n_wli_wem, n_wli_wna, n_wli_wpl, n_wha_wem, n_wha_wna, n_wha_wpl, n_wem_wna, n_wem_wpl, n_wna_wpl, n_wk1_wk2, n_wk1_wk3, n_wk2_wk3⟩ := id hI
  refine lv_aload_n hx hb dX8_told_0 rfl (lv_at hl 0 rfl) ?_
  refine lv_iload_n hx hb dX8_told_1 rfl (lv_at hl 1 rfl) ?_
  rcases z_findi x nc with ⟨jc, hjc, hvc⟩ | hvc
  · refine z_callVi (As := [.int x]) C hz hS hA hl (k_X8_isConstant_A l D cy f o wev wnb wki wmy wce wiw wli wha wwt wfy wfk wem wna wpl whs wk1 wk2 wk3 u1 u2 u3 nl nn nf nc lk ks x jc x_o hc60 hvc hjc) zyX8_isConstant mMX8_202 x_o zl8 rfl rfl (Nat.le_of_ble_eq_true rfl) ⟨Nat.le_of_ble_eq_true rfl, Nat.le_of_ble_eq_true rfl⟩ ⟨Nat.le_of_ble_eq_true rfl, Nat.le_of_ble_eq_true rfl⟩ dX8_told_2 (fun r f1 H locs h2 hz hS => ?_)
    obtain ⟨rfl, k3⟩ := h2
    refine lv_if_ne (tgt := 11) hx hb dX8_told_5 (by decide) (fun c4 => ?_) (fun c4 => ?_)
    rotate_left
    · exact absurd c4 (by decide)
    refine lv_iload_n hx hb dX8_told_11 rfl (lv_at hl 2 rfl) ?_
    refine lv_if_ne (tgt := 24) hx hb dX8_told_12 (by decide) (fun c5 => ?_) (fun c5 => ?_)
    · refine lv_iload_n hx hb dX8_told_24 rfl (lv_at hl 2 rfl) ?_
      refine lv_iconst (v := 1) hx hb dX8_told_25 (by decide) ?_
      refine lv_icmp_ne (tgt := 38) hx hb dX8_told_26 (by decide) (fun c6 => ?_) (fun c6 => ?_)
      · refine lv_iload_n hx hb dX8_told_38 rfl (lv_at hl 2 rfl) ?_
        refine lv_iconst (v := 2) hx hb dX8_told_39 (by decide) ?_
        refine lv_icmp_ne (tgt := 52) hx hb dX8_told_40 (by decide) (fun c7 => ?_) (fun c7 => ?_)
        · refine lv_bipush (v := (-2)) hx hb dX8_told_52 (by decide) ?_
          have a8 : f1 o = some (.inr (8, [.int u1, .int u2, .int u3, .ref wev, .int (nI nl), .ref wnb, .int (nI nn), .ref wki, .ref wmy, .ref wce, .ref wiw, .ref wli, .ref wha, .ref wwt, .int (nI nf), .ref wfy, .ref wfk, .int (nI nc), .ref wem, .ref wna, .ref wpl, .ref whs, .long lk, .int (nI ks), .ref wk1, .ref wk2, .ref wk3])) := k3 _ _ x_o 
          have a9 : f1 wev = some (.inl (cy 0, 8, .inl gv)) := k3 _ _ x_wev 
          have a10 : f1 wnb = some (.inl (cy 0, 12, .inl gu)) := k3 _ _ x_wnb 
          have a11 : f1 wki = some (.inl (cy 0, 60, .inl gk)) := k3 _ _ x_wki 
          have a12 : f1 wmy = some (.inl (cy 0, 60, .inl gm)) := k3 _ _ x_wmy 
          have a13 : f1 wce = some (.inl (cy 1, 960, .inr (.inl gc))) := k3 _ _ x_wce 
          have a14 : f1 wiw = some (.inl (cy 2, 60, .inl gw)) := k3 _ _ x_wiw 
          have a15 : f1 wli = some (.inl (cy 0, 60, .inl gl)) := k3 _ _ x_wli 
          have a16 : f1 wha = some (.inl (cy 0, 60, .inl gh)) := k3 _ _ x_wha 
          have a17 : f1 wwt = some (.inl (cy 1, 60, .inr (.inl gt))) := k3 _ _ x_wwt 
          have a18 : f1 wfy = some (.inl (cy 0, 6, .inl gy)) := k3 _ _ x_wfy 
          have a19 : f1 wfk = some (.inl (cy 0, 24, .inl gq)) := k3 _ _ x_wfk 
          have a20 : f1 wem = some (.inl (cy 0, 60, .inl ge1)) := k3 _ _ x_wem 
          have a21 : f1 wna = some (.inl (cy 0, 60, .inl gn1)) := k3 _ _ x_wna 
          have a22 : f1 wpl = some (.inl (cy 0, 60, .inl gp1)) := k3 _ _ x_wpl 
          have a23 : f1 whs = some (.inl (cy 0, 4, .inl gs)) := k3 _ _ x_whs 
          have a24 : f1 wk1 = some (.inl (cy 0, 40, .inl gx1)) := k3 _ _ x_wk1 
          have a25 : f1 wk2 = some (.inl (cy 0, 40, .inl gx2)) := k3 _ _ x_wk2 
          have a26 : f1 wk3 = some (.inl (cy 0, 40, .inl gx3)) := k3 _ _ x_wk3 
          exact z_iret C hr rfl hz hS ⟨u1, u2, u3, nl, nn, nf, nc, lk, ks, gv, gu, gk, gm, gc, gw, gl, gh, gt, gy, gq, ge1, gn1, gp1, gs, gx1, gx2, gx3, ln, fz, sq, rfl, rfl, rfl, rfl, rfl, rfl, rfl, rfl, rfl, rfl, rfl, rfl, rfl, rfl, rfl, rfl, rfl, rfl, rfl, rfl, rfl, rfl, rfl, rfl, rfl, (Or.inl ⟨jc, hjc, hvc, by simp [c4, c5, c6, c7]⟩), ⟨a8, a9, a10, a11, a12, a13, a14, a15, a16, a17, a18, a19, a20, a21, a22, a23, a24, a25, a26, hn60, hl12, hf6, hc60, hs40, hMP, hgy, hfz, hgs, hME, hlk, hgw, hfd, n_wki_wmy, n_wki_wiw, n_wki_wli, n_wki_wha, n_wki_wem, n_wki_wna, n_wki_wpl, n_wmy_wiw, n_wmy_wli, n_wmy_wha, n_wmy_wem, n_wmy_wna, n_wmy_wpl, n_wiw_wli, n_wiw_wha, n_wiw_wem, n_wiw_wna, n_wiw_wpl, n_wli_wha, n_wli_wem, n_wli_wna, n_wli_wpl, n_wha_wem, n_wha_wna, n_wha_wpl, n_wem_wna, n_wem_wpl, n_wna_wpl, n_wk1_wk2, n_wk1_wk3, n_wk2_wk3⟩⟩ (Nat.le_of_ble_eq_true rfl) (Nat.le_of_ble_eq_true rfl) dX8_told_54
        · refine lv_aload_n hx hb dX8_told_43 rfl (lv_at hl 0 rfl) ?_
          have a27 : f1 o = some (.inr (8, [.int u1, .int u2, .int u3, .ref wev, .int (nI nl), .ref wnb, .int (nI nn), .ref wki, .ref wmy, .ref wce, .ref wiw, .ref wli, .ref wha, .ref wwt, .int (nI nf), .ref wfy, .ref wfk, .int (nI nc), .ref wem, .ref wna, .ref wpl, .ref whs, .long lk, .int (nI ks), .ref wk1, .ref wk2, .ref wk3])) := k3 _ _ x_o 
          refine z_get (v := .ref wpl) C hz a27 zl8 mFX8_55 (by decide) rfl dX8_told_44 ?_
          refine lv_iload_n hx hb dX8_told_47 rfl (lv_at hl 1 rfl) ?_
          have a28 : f1 wpl = some (.inl (cy 0, 60, .inl gp1)) := k3 _ _ x_wpl 
          refine z_iald jc C hz a28 hvc (by omega) (by omega) dX8_told_48 ?_
          refine lv_goto (tgt := 54) hx hb dX8_told_49 (by decide) ?_
          have a29 : f1 wev = some (.inl (cy 0, 8, .inl gv)) := k3 _ _ x_wev 
          have a30 : f1 wnb = some (.inl (cy 0, 12, .inl gu)) := k3 _ _ x_wnb 
          have a31 : f1 wki = some (.inl (cy 0, 60, .inl gk)) := k3 _ _ x_wki 
          have a32 : f1 wmy = some (.inl (cy 0, 60, .inl gm)) := k3 _ _ x_wmy 
          have a33 : f1 wce = some (.inl (cy 1, 960, .inr (.inl gc))) := k3 _ _ x_wce 
          have a34 : f1 wiw = some (.inl (cy 2, 60, .inl gw)) := k3 _ _ x_wiw 
          have a35 : f1 wli = some (.inl (cy 0, 60, .inl gl)) := k3 _ _ x_wli 
          have a36 : f1 wha = some (.inl (cy 0, 60, .inl gh)) := k3 _ _ x_wha 
          have a37 : f1 wwt = some (.inl (cy 1, 60, .inr (.inl gt))) := k3 _ _ x_wwt 
          have a38 : f1 wfy = some (.inl (cy 0, 6, .inl gy)) := k3 _ _ x_wfy 
          have a39 : f1 wfk = some (.inl (cy 0, 24, .inl gq)) := k3 _ _ x_wfk 
          have a40 : f1 wem = some (.inl (cy 0, 60, .inl ge1)) := k3 _ _ x_wem 
          have a41 : f1 wna = some (.inl (cy 0, 60, .inl gn1)) := k3 _ _ x_wna 
          have a42 : f1 whs = some (.inl (cy 0, 4, .inl gs)) := k3 _ _ x_whs 
          have a43 : f1 wk1 = some (.inl (cy 0, 40, .inl gx1)) := k3 _ _ x_wk1 
          have a44 : f1 wk2 = some (.inl (cy 0, 40, .inl gx2)) := k3 _ _ x_wk2 
          have a45 : f1 wk3 = some (.inl (cy 0, 40, .inl gx3)) := k3 _ _ x_wk3 
          exact z_iret C hr rfl hz hS ⟨u1, u2, u3, nl, nn, nf, nc, lk, ks, gv, gu, gk, gm, gc, gw, gl, gh, gt, gy, gq, ge1, gn1, gp1, gs, gx1, gx2, gx3, ln, fz, sq, rfl, rfl, rfl, rfl, rfl, rfl, rfl, rfl, rfl, rfl, rfl, rfl, rfl, rfl, rfl, rfl, rfl, rfl, rfl, rfl, rfl, rfl, rfl, rfl, rfl, (Or.inl ⟨jc, hjc, hvc, by simp [c4, c5, c6, c7]⟩), ⟨a27, a29, a30, a31, a32, a33, a34, a35, a36, a37, a38, a39, a40, a41, a28, a42, a43, a44, a45, hn60, hl12, hf6, hc60, hs40, hMP, hgy, hfz, hgs, hME, hlk, hgw, hfd, n_wki_wmy, n_wki_wiw, n_wki_wli, n_wki_wha, n_wki_wem, n_wki_wna, n_wki_wpl, n_wmy_wiw, n_wmy_wli, n_wmy_wha, n_wmy_wem, n_wmy_wna, n_wmy_wpl, n_wiw_wli, n_wiw_wha, n_wiw_wem, n_wiw_wna, n_wiw_wpl, n_wli_wha, n_wli_wem, n_wli_wna, n_wli_wpl, n_wha_wem, n_wha_wna, n_wha_wpl, n_wem_wna, n_wem_wpl, n_wna_wpl, n_wk1_wk2, n_wk1_wk3, n_wk2_wk3⟩⟩ (Nat.le_of_ble_eq_true rfl) (Nat.le_of_ble_eq_true rfl) dX8_told_54
      · refine lv_aload_n hx hb dX8_told_29 rfl (lv_at hl 0 rfl) ?_
        have a46 : f1 o = some (.inr (8, [.int u1, .int u2, .int u3, .ref wev, .int (nI nl), .ref wnb, .int (nI nn), .ref wki, .ref wmy, .ref wce, .ref wiw, .ref wli, .ref wha, .ref wwt, .int (nI nf), .ref wfy, .ref wfk, .int (nI nc), .ref wem, .ref wna, .ref wpl, .ref whs, .long lk, .int (nI ks), .ref wk1, .ref wk2, .ref wk3])) := k3 _ _ x_o 
        refine z_get (v := .ref wna) C hz a46 zl8 mFX8_52 (by decide) rfl dX8_told_30 ?_
        refine lv_iload_n hx hb dX8_told_33 rfl (lv_at hl 1 rfl) ?_
        have a47 : f1 wna = some (.inl (cy 0, 60, .inl gn1)) := k3 _ _ x_wna 
        refine z_iald jc C hz a47 hvc (by omega) (by omega) dX8_told_34 ?_
        refine lv_goto (tgt := 54) hx hb dX8_told_35 (by decide) ?_
        have a48 : f1 wev = some (.inl (cy 0, 8, .inl gv)) := k3 _ _ x_wev 
        have a49 : f1 wnb = some (.inl (cy 0, 12, .inl gu)) := k3 _ _ x_wnb 
        have a50 : f1 wki = some (.inl (cy 0, 60, .inl gk)) := k3 _ _ x_wki 
        have a51 : f1 wmy = some (.inl (cy 0, 60, .inl gm)) := k3 _ _ x_wmy 
        have a52 : f1 wce = some (.inl (cy 1, 960, .inr (.inl gc))) := k3 _ _ x_wce 
        have a53 : f1 wiw = some (.inl (cy 2, 60, .inl gw)) := k3 _ _ x_wiw 
        have a54 : f1 wli = some (.inl (cy 0, 60, .inl gl)) := k3 _ _ x_wli 
        have a55 : f1 wha = some (.inl (cy 0, 60, .inl gh)) := k3 _ _ x_wha 
        have a56 : f1 wwt = some (.inl (cy 1, 60, .inr (.inl gt))) := k3 _ _ x_wwt 
        have a57 : f1 wfy = some (.inl (cy 0, 6, .inl gy)) := k3 _ _ x_wfy 
        have a58 : f1 wfk = some (.inl (cy 0, 24, .inl gq)) := k3 _ _ x_wfk 
        have a59 : f1 wem = some (.inl (cy 0, 60, .inl ge1)) := k3 _ _ x_wem 
        have a60 : f1 wpl = some (.inl (cy 0, 60, .inl gp1)) := k3 _ _ x_wpl 
        have a61 : f1 whs = some (.inl (cy 0, 4, .inl gs)) := k3 _ _ x_whs 
        have a62 : f1 wk1 = some (.inl (cy 0, 40, .inl gx1)) := k3 _ _ x_wk1 
        have a63 : f1 wk2 = some (.inl (cy 0, 40, .inl gx2)) := k3 _ _ x_wk2 
        have a64 : f1 wk3 = some (.inl (cy 0, 40, .inl gx3)) := k3 _ _ x_wk3 
        exact z_iret C hr rfl hz hS ⟨u1, u2, u3, nl, nn, nf, nc, lk, ks, gv, gu, gk, gm, gc, gw, gl, gh, gt, gy, gq, ge1, gn1, gp1, gs, gx1, gx2, gx3, ln, fz, sq, rfl, rfl, rfl, rfl, rfl, rfl, rfl, rfl, rfl, rfl, rfl, rfl, rfl, rfl, rfl, rfl, rfl, rfl, rfl, rfl, rfl, rfl, rfl, rfl, rfl, (Or.inl ⟨jc, hjc, hvc, by simp [c4, c5, c6]⟩), ⟨a46, a48, a49, a50, a51, a52, a53, a54, a55, a56, a57, a58, a59, a47, a60, a61, a62, a63, a64, hn60, hl12, hf6, hc60, hs40, hMP, hgy, hfz, hgs, hME, hlk, hgw, hfd, n_wki_wmy, n_wki_wiw, n_wki_wli, n_wki_wha, n_wki_wem, n_wki_wna, n_wki_wpl, n_wmy_wiw, n_wmy_wli, n_wmy_wha, n_wmy_wem, n_wmy_wna, n_wmy_wpl, n_wiw_wli, n_wiw_wha, n_wiw_wem, n_wiw_wna, n_wiw_wpl, n_wli_wha, n_wli_wem, n_wli_wna, n_wli_wpl, n_wha_wem, n_wha_wna, n_wha_wpl, n_wem_wna, n_wem_wpl, n_wna_wpl, n_wk1_wk2, n_wk1_wk3, n_wk2_wk3⟩⟩ (Nat.le_of_ble_eq_true rfl) (Nat.le_of_ble_eq_true rfl) dX8_told_54
    · refine lv_aload_n hx hb dX8_told_15 rfl (lv_at hl 0 rfl) ?_
      have a65 : f1 o = some (.inr (8, [.int u1, .int u2, .int u3, .ref wev, .int (nI nl), .ref wnb, .int (nI nn), .ref wki, .ref wmy, .ref wce, .ref wiw, .ref wli, .ref wha, .ref wwt, .int (nI nf), .ref wfy, .ref wfk, .int (nI nc), .ref wem, .ref wna, .ref wpl, .ref whs, .long lk, .int (nI ks), .ref wk1, .ref wk2, .ref wk3])) := k3 _ _ x_o 
      refine z_get (v := .ref wem) C hz a65 zl8 mFX8_49 (by decide) rfl dX8_told_16 ?_
      refine lv_iload_n hx hb dX8_told_19 rfl (lv_at hl 1 rfl) ?_
      have a66 : f1 wem = some (.inl (cy 0, 60, .inl ge1)) := k3 _ _ x_wem 
      refine z_iald jc C hz a66 hvc (by omega) (by omega) dX8_told_20 ?_
      refine lv_goto (tgt := 54) hx hb dX8_told_21 (by decide) ?_
      have a67 : f1 wev = some (.inl (cy 0, 8, .inl gv)) := k3 _ _ x_wev 
      have a68 : f1 wnb = some (.inl (cy 0, 12, .inl gu)) := k3 _ _ x_wnb 
      have a69 : f1 wki = some (.inl (cy 0, 60, .inl gk)) := k3 _ _ x_wki 
      have a70 : f1 wmy = some (.inl (cy 0, 60, .inl gm)) := k3 _ _ x_wmy 
      have a71 : f1 wce = some (.inl (cy 1, 960, .inr (.inl gc))) := k3 _ _ x_wce 
      have a72 : f1 wiw = some (.inl (cy 2, 60, .inl gw)) := k3 _ _ x_wiw 
      have a73 : f1 wli = some (.inl (cy 0, 60, .inl gl)) := k3 _ _ x_wli 
      have a74 : f1 wha = some (.inl (cy 0, 60, .inl gh)) := k3 _ _ x_wha 
      have a75 : f1 wwt = some (.inl (cy 1, 60, .inr (.inl gt))) := k3 _ _ x_wwt 
      have a76 : f1 wfy = some (.inl (cy 0, 6, .inl gy)) := k3 _ _ x_wfy 
      have a77 : f1 wfk = some (.inl (cy 0, 24, .inl gq)) := k3 _ _ x_wfk 
      have a78 : f1 wna = some (.inl (cy 0, 60, .inl gn1)) := k3 _ _ x_wna 
      have a79 : f1 wpl = some (.inl (cy 0, 60, .inl gp1)) := k3 _ _ x_wpl 
      have a80 : f1 whs = some (.inl (cy 0, 4, .inl gs)) := k3 _ _ x_whs 
      have a81 : f1 wk1 = some (.inl (cy 0, 40, .inl gx1)) := k3 _ _ x_wk1 
      have a82 : f1 wk2 = some (.inl (cy 0, 40, .inl gx2)) := k3 _ _ x_wk2 
      have a83 : f1 wk3 = some (.inl (cy 0, 40, .inl gx3)) := k3 _ _ x_wk3 
      exact z_iret C hr rfl hz hS ⟨u1, u2, u3, nl, nn, nf, nc, lk, ks, gv, gu, gk, gm, gc, gw, gl, gh, gt, gy, gq, ge1, gn1, gp1, gs, gx1, gx2, gx3, ln, fz, sq, rfl, rfl, rfl, rfl, rfl, rfl, rfl, rfl, rfl, rfl, rfl, rfl, rfl, rfl, rfl, rfl, rfl, rfl, rfl, rfl, rfl, rfl, rfl, rfl, rfl, (Or.inl ⟨jc, hjc, hvc, by simp [c4, c5]⟩), ⟨a65, a67, a68, a69, a70, a71, a72, a73, a74, a75, a76, a77, a66, a78, a79, a80, a81, a82, a83, hn60, hl12, hf6, hc60, hs40, hMP, hgy, hfz, hgs, hME, hlk, hgw, hfd, n_wki_wmy, n_wki_wiw, n_wki_wli, n_wki_wha, n_wki_wem, n_wki_wna, n_wki_wpl, n_wmy_wiw, n_wmy_wli, n_wmy_wha, n_wmy_wem, n_wmy_wna, n_wmy_wpl, n_wiw_wli, n_wiw_wha, n_wiw_wem, n_wiw_wna, n_wiw_wpl, n_wli_wha, n_wli_wem, n_wli_wna, n_wli_wpl, n_wha_wem, n_wha_wna, n_wha_wpl, n_wem_wna, n_wem_wpl, n_wna_wpl, n_wk1_wk2, n_wk1_wk3, n_wk2_wk3⟩⟩ (Nat.le_of_ble_eq_true rfl) (Nat.le_of_ble_eq_true rfl) dX8_told_54
  · refine z_callVi (As := [.int x]) C hz hS hA hl (k_X8_isConstant_B l D cy f o wev wnb wki wmy wce wiw wli wha wwt wfy wfk wem wna wpl whs wk1 wk2 wk3 u1 u2 u3 nl nn nf nc lk ks x x_o hc60 hvc) zyX8_isConstant mMX8_202 x_o zl8 rfl rfl (Nat.le_of_ble_eq_true rfl) ⟨Nat.le_of_ble_eq_true rfl, Nat.le_of_ble_eq_true rfl⟩ ⟨Nat.le_of_ble_eq_true rfl, Nat.le_of_ble_eq_true rfl⟩ dX8_told_2 (fun r f84 H locs h85 hz hS => ?_)
    obtain ⟨rfl, k86⟩ := h85
    refine lv_if_ne (tgt := 11) hx hb dX8_told_5 (by decide) (fun c87 => ?_) (fun c87 => ?_)
    · exact absurd c87 (by decide)
    refine lv_bipush (v := (-2)) hx hb dX8_told_8 (by decide) ?_
    have a88 : f84 o = some (.inr (8, [.int u1, .int u2, .int u3, .ref wev, .int (nI nl), .ref wnb, .int (nI nn), .ref wki, .ref wmy, .ref wce, .ref wiw, .ref wli, .ref wha, .ref wwt, .int (nI nf), .ref wfy, .ref wfk, .int (nI nc), .ref wem, .ref wna, .ref wpl, .ref whs, .long lk, .int (nI ks), .ref wk1, .ref wk2, .ref wk3])) := k86 _ _ x_o 
    have a89 : f84 wev = some (.inl (cy 0, 8, .inl gv)) := k86 _ _ x_wev 
    have a90 : f84 wnb = some (.inl (cy 0, 12, .inl gu)) := k86 _ _ x_wnb 
    have a91 : f84 wki = some (.inl (cy 0, 60, .inl gk)) := k86 _ _ x_wki 
    have a92 : f84 wmy = some (.inl (cy 0, 60, .inl gm)) := k86 _ _ x_wmy 
    have a93 : f84 wce = some (.inl (cy 1, 960, .inr (.inl gc))) := k86 _ _ x_wce 
    have a94 : f84 wiw = some (.inl (cy 2, 60, .inl gw)) := k86 _ _ x_wiw 
    have a95 : f84 wli = some (.inl (cy 0, 60, .inl gl)) := k86 _ _ x_wli 
    have a96 : f84 wha = some (.inl (cy 0, 60, .inl gh)) := k86 _ _ x_wha 
    have a97 : f84 wwt = some (.inl (cy 1, 60, .inr (.inl gt))) := k86 _ _ x_wwt 
    have a98 : f84 wfy = some (.inl (cy 0, 6, .inl gy)) := k86 _ _ x_wfy 
    have a99 : f84 wfk = some (.inl (cy 0, 24, .inl gq)) := k86 _ _ x_wfk 
    have a100 : f84 wem = some (.inl (cy 0, 60, .inl ge1)) := k86 _ _ x_wem 
    have a101 : f84 wna = some (.inl (cy 0, 60, .inl gn1)) := k86 _ _ x_wna 
    have a102 : f84 wpl = some (.inl (cy 0, 60, .inl gp1)) := k86 _ _ x_wpl 
    have a103 : f84 whs = some (.inl (cy 0, 4, .inl gs)) := k86 _ _ x_whs 
    have a104 : f84 wk1 = some (.inl (cy 0, 40, .inl gx1)) := k86 _ _ x_wk1 
    have a105 : f84 wk2 = some (.inl (cy 0, 40, .inl gx2)) := k86 _ _ x_wk2 
    have a106 : f84 wk3 = some (.inl (cy 0, 40, .inl gx3)) := k86 _ _ x_wk3 
    exact z_iret C hr rfl hz hS ⟨u1, u2, u3, nl, nn, nf, nc, lk, ks, gv, gu, gk, gm, gc, gw, gl, gh, gt, gy, gq, ge1, gn1, gp1, gs, gx1, gx2, gx3, ln, fz, sq, rfl, rfl, rfl, rfl, rfl, rfl, rfl, rfl, rfl, rfl, rfl, rfl, rfl, rfl, rfl, rfl, rfl, rfl, rfl, rfl, rfl, rfl, rfl, rfl, rfl, (Or.inr ⟨rfl, hvc⟩), ⟨a88, a89, a90, a91, a92, a93, a94, a95, a96, a97, a98, a99, a100, a101, a102, a103, a104, a105, a106, hn60, hl12, hf6, hc60, hs40, hMP, hgy, hfz, hgs, hME, hlk, hgw, hfd, n_wki_wmy, n_wki_wiw, n_wki_wli, n_wki_wha, n_wki_wem, n_wki_wna, n_wki_wpl, n_wmy_wiw, n_wmy_wli, n_wmy_wha, n_wmy_wem, n_wmy_wna, n_wmy_wpl, n_wiw_wli, n_wiw_wha, n_wiw_wem, n_wiw_wna, n_wiw_wpl, n_wli_wha, n_wli_wem, n_wli_wna, n_wli_wpl, n_wha_wem, n_wha_wna, n_wha_wpl, n_wem_wna, n_wem_wpl, n_wna_wpl, n_wk1_wk2, n_wk1_wk3, n_wk2_wk3⟩⟩ (Nat.le_of_ble_eq_true rfl) (Nat.le_of_ble_eq_true rfl) dX8_told_10
abbrev rmX8_placed : Room := { frames := 1, cells := 0, slots := 0, locals := 23 }
set_option maxHeartbeats 4000000 in
set_option maxRecDepth 100000 in
theorem k_X8_placed (l : Launch) (D : va_G) (cy : Nat → ClassId) (f : zM) (o : Nat) (wev : Nat) (wnb : Nat) (wki : Nat) (wmy : Nat) (wce : Nat) (wiw : Nat) (wli : Nat) (wha : Nat) (wwt : Nat) (wfy : Nat) (wfk : Nat) (wem : Nat) (wna : Nat) (wpl : Nat) (whs : Nat) (wk1 : Nat) (wk2 : Nat) (wk3 : Nat) (u1 : Int32) (u2 : Int32) (u3 : Int32) (nl : Nat) (nn : Nat) (nf : Nat) (nc : Nat) (lk : Int64) (ks : Nat) (gv : Nat → Int32) (gu : Nat → Int32) (gk : Nat → Int32) (gm : Nat → Int32) (gc : Nat → Int64) (gw : Nat → Int32) (gl : Nat → Int32) (gh : Nat → Int32) (gt : Nat → Int64) (gy : Nat → Int32) (gq : Nat → Int32) (ge1 : Nat → Int32) (gn1 : Nat → Int32) (gp1 : Nat → Int32) (gs : Nat → Int32) (gx1 : Nat → Int32) (gx2 : Nat → Int32) (gx3 : Nat → Int32) (ln : Nat → Nat) (fz : Nat → Nat) (sq : Nat → Nat) (x : Int32) (y : Int32)    (hI : zIM cy f o wev wnb wki wmy wce wiw wli wha wwt wfy wfk wem wna wpl whs wk1 wk2 wk3 u1 u2 u3 nl nn nf nc lk ks gv gu gk gm gc gw gl gh gt gy gq ge1 gn1 gp1 gs gx1 gx2 gx3 ln fz sq) : zCi l D cy yX8_placed cX8_placed 3 (Option.some Jvm.ClassFile.FieldType.int) rmX8_placed [.ref o, .int x, .int y] f (fun (r : Int32) (f1 : zM) => ∃ (u11 : Int32) (u21 : Int32) (u31 : Int32) (nl1 : Nat) (nn1 : Nat) (nf1 : Nat) (nc1 : Nat) (lk1 : Int64) (ks1 : Nat) (gv1 : Nat → Int32) (gu1 : Nat → Int32) (gk1 : Nat → Int32) (gm1 : Nat → Int32) (gc1 : Nat → Int64) (gw1 : Nat → Int32) (gl1 : Nat → Int32) (gh1 : Nat → Int32) (gt1 : Nat → Int64) (gy1 : Nat → Int32) (gq1 : Nat → Int32) (ge11 : Nat → Int32) (gn11 : Nat → Int32) (gp11 : Nat → Int32) (gs1 : Nat → Int32) (gx11 : Nat → Int32) (gx21 : Nat → Int32) (gx31 : Nat → Int32) (ln1 : Nat → Nat) (fz1 : Nat → Nat) (sq1 : Nat → Nat), (u11 = u1) ∧ (u21 = u2) ∧ (u31 = u3) ∧ (gv1 = gv) ∧ (nl1 = nl) ∧ (gu1 = gu) ∧ (nn1 = nn) ∧ (gk1 = gk) ∧ (ln1 = ln) ∧ (gw1 = gw) ∧ (gh1 = gh) ∧ (gc1 = gc) ∧ (nf1 = nf) ∧ (fz1 = fz) ∧ (gq1 = gq) ∧ (nc1 = nc) ∧ (ge11 = ge1) ∧ (gn11 = gn1) ∧ (gp11 = gp1) ∧ (sq1 = sq) ∧ (ks1 = ks) ∧ (gx11 = gx1) ∧ (gx21 = gx2) ∧ (gx31 = gx3) ∧ (lk1 = lk) ∧ (zYP nc x y ge1 gp1 r) ∧ zIM cy f1 o wev wnb wki wmy wce wiw wli wha wwt wfy wfk wem wna wpl whs wk1 wk2 wk3 u11 u21 u31 nl1 nn1 nf1 nc1 lk1 ks1 gv1 gu1 gk1 gm1 gc1 gw1 gl1 gh1 gt1 gy1 gq1 ge11 gn11 gp11 gs1 gx11 gx21 gx31 ln1 fz1 sq1) := by
  intro sz
  refine z_body (by decide +kernel) (Nat.le_of_ble_eq_true rfl) ?_
  intro p e s m below meth c ls C hr hin hsz hz hl
  subst hsz
  have hx := C.1
  have hb := C.2.1
  have hA : ∀ q, s.heap.size ≤ q → zA f s.heap.size q := fun q h => Or.inr h
  have hS : va_S (zA f s.heap.size) s.heap s.heap [] := va_S.rf
  have hl : lv_has ls 3 [(0, .ref o), (1, .int x), (2, .int y)] := hl
  obtain ⟨x_o, x_wev, x_wnb, x_wki, x_wmy, x_wce, x_wiw, x_wli, x_wha, x_wwt, x_wfy, x_wfk, x_wem, x_wna, x_wpl, x_whs, x_wk1, x_wk2, x_wk3, hn60, hl12, hf6, hc60, hs40, hMP, hgy, hfz, hgs, hME, hlk, hgw, hfd, n_wki_wmy, n_wki_wiw, n_wki_wli, n_wki_wha, n_wki_wem, n_wki_wna, n_wki_wpl, n_wmy_wiw, n_wmy_wli, n_wmy_wha, n_wmy_wem, n_wmy_wna, n_wmy_wpl, n_wiw_wli, n_wiw_wha, n_wiw_wem, n_wiw_wna, n_wiw_wpl, n_wli_wha, n_wli_wem, n_wli_wna, n_wli_wpl, n_wha_wem, n_wha_wna, n_wha_wpl, n_wem_wna, n_wem_wpl, n_wna_wpl, n_wk1_wk2, n_wk1_wk3, n_wk2_wk3⟩ := id hI
  by_cases he : 0 ≤ x ∧ x < 4
  · obtain ⟨j, hj, hxj⟩ := z_ix4 he
    have hIj : fI x = j := fI_of (by omega) hxj
    refine lv_iload_n hx hb dX8_placed_0 rfl (lv_at hl 1 rfl) ?_
    refine z_callSi (As := [.int x]) C hz hS hA hl (k_X8_isEnumeration_A l D cy f x j  hxj hj) zyX8_isEnumeration mMX8_196 rfl rfl (Nat.le_of_ble_eq_true rfl) ⟨Nat.le_of_ble_eq_true rfl, Nat.le_of_ble_eq_true rfl⟩ ⟨Nat.le_of_ble_eq_true rfl, Nat.le_of_ble_eq_true rfl⟩ dX8_placed_1 (fun r f1 H locs h2 hz hS => ?_)
    obtain ⟨rfl, k3⟩ := h2
    refine lv_if_eq (tgt := 11) hx hb dX8_placed_4 (by decide) (fun c4 => ?_) (fun c4 => ?_)
    · exact absurd c4 (by decide)
    refine lv_iload_n hx hb dX8_placed_7 rfl (lv_at hl 2 rfl) ?_
    refine lv_if_ge (tgt := 14) hx hb dX8_placed_8 (by decide) (fun c5 => ?_) (fun c5 => ?_)
    · refine lv_aload_n hx hb dX8_placed_14 rfl (lv_at hl 0 rfl) ?_
      refine lv_iload_n hx hb dX8_placed_15 rfl (lv_at hl 1 rfl) ?_
      refine lv_iload_n hx hb dX8_placed_16 rfl (lv_at hl 2 rfl) ?_
      have a6 : f1 o = some (.inr (8, [.int u1, .int u2, .int u3, .ref wev, .int (nI nl), .ref wnb, .int (nI nn), .ref wki, .ref wmy, .ref wce, .ref wiw, .ref wli, .ref wha, .ref wwt, .int (nI nf), .ref wfy, .ref wfk, .int (nI nc), .ref wem, .ref wna, .ref wpl, .ref whs, .long lk, .int (nI ks), .ref wk1, .ref wk2, .ref wk3])) := k3 _ _ x_o 
      have a7 : f1 wem = some (.inl (cy 0, 60, .inl ge1)) := k3 _ _ x_wem 
      have a8 : f1 wpl = some (.inl (cy 0, 60, .inl gp1)) := k3 _ _ x_wpl 
      refine z_callVi (As := [.int x, .int y]) C hz hS hA hl (k_X8_constantAt l D cy f1 o wev wnb wki wmy wce wiw wli wha wwt wfy wfk wem wna wpl whs wk1 wk2 wk3 u1 u2 u3 nl nn nf nc lk ks ge1 gp1 x y a6 a7 a8 hc60) zyX8_constantAt mMX8_209 a6 zl8 rfl rfl (Nat.le_of_ble_eq_true rfl) ⟨Nat.le_of_ble_eq_true rfl, Nat.le_of_ble_eq_true rfl⟩ ⟨Nat.le_of_ble_eq_true rfl, Nat.le_of_ble_eq_true rfl⟩ dX8_placed_17 (fun r11 f9 H locs h10 hz hS => ?_)
      obtain ⟨pq12, k13⟩ := h10
      have a14 : f9 o = some (.inr (8, [.int u1, .int u2, .int u3, .ref wev, .int (nI nl), .ref wnb, .int (nI nn), .ref wki, .ref wmy, .ref wce, .ref wiw, .ref wli, .ref wha, .ref wwt, .int (nI nf), .ref wfy, .ref wfk, .int (nI nc), .ref wem, .ref wna, .ref wpl, .ref whs, .long lk, .int (nI ks), .ref wk1, .ref wk2, .ref wk3])) := k13 _ _ a6 
      have a15 : f1 wev = some (.inl (cy 0, 8, .inl gv)) := k3 _ _ x_wev 
      have a16 : f9 wev = some (.inl (cy 0, 8, .inl gv)) := k13 _ _ a15 
      have a17 : f1 wnb = some (.inl (cy 0, 12, .inl gu)) := k3 _ _ x_wnb 
      have a18 : f9 wnb = some (.inl (cy 0, 12, .inl gu)) := k13 _ _ a17 
      have a19 : f1 wki = some (.inl (cy 0, 60, .inl gk)) := k3 _ _ x_wki 
      have a20 : f9 wki = some (.inl (cy 0, 60, .inl gk)) := k13 _ _ a19 
      have a21 : f1 wmy = some (.inl (cy 0, 60, .inl gm)) := k3 _ _ x_wmy 
      have a22 : f9 wmy = some (.inl (cy 0, 60, .inl gm)) := k13 _ _ a21 
      have a23 : f1 wce = some (.inl (cy 1, 960, .inr (.inl gc))) := k3 _ _ x_wce 
      have a24 : f9 wce = some (.inl (cy 1, 960, .inr (.inl gc))) := k13 _ _ a23 
      have a25 : f1 wiw = some (.inl (cy 2, 60, .inl gw)) := k3 _ _ x_wiw 
      have a26 : f9 wiw = some (.inl (cy 2, 60, .inl gw)) := k13 _ _ a25 
      have a27 : f1 wli = some (.inl (cy 0, 60, .inl gl)) := k3 _ _ x_wli 
      have a28 : f9 wli = some (.inl (cy 0, 60, .inl gl)) := k13 _ _ a27 
      have a29 : f1 wha = some (.inl (cy 0, 60, .inl gh)) := k3 _ _ x_wha 
      have a30 : f9 wha = some (.inl (cy 0, 60, .inl gh)) := k13 _ _ a29 
      have a31 : f1 wwt = some (.inl (cy 1, 60, .inr (.inl gt))) := k3 _ _ x_wwt 
      have a32 : f9 wwt = some (.inl (cy 1, 60, .inr (.inl gt))) := k13 _ _ a31 
      have a33 : f1 wfy = some (.inl (cy 0, 6, .inl gy)) := k3 _ _ x_wfy 
      have a34 : f9 wfy = some (.inl (cy 0, 6, .inl gy)) := k13 _ _ a33 
      have a35 : f1 wfk = some (.inl (cy 0, 24, .inl gq)) := k3 _ _ x_wfk 
      have a36 : f9 wfk = some (.inl (cy 0, 24, .inl gq)) := k13 _ _ a35 
      have a37 : f9 wem = some (.inl (cy 0, 60, .inl ge1)) := k13 _ _ a7 
      have a38 : f1 wna = some (.inl (cy 0, 60, .inl gn1)) := k3 _ _ x_wna 
      have a39 : f9 wna = some (.inl (cy 0, 60, .inl gn1)) := k13 _ _ a38 
      have a40 : f9 wpl = some (.inl (cy 0, 60, .inl gp1)) := k13 _ _ a8 
      have a41 : f1 whs = some (.inl (cy 0, 4, .inl gs)) := k3 _ _ x_whs 
      have a42 : f9 whs = some (.inl (cy 0, 4, .inl gs)) := k13 _ _ a41 
      have a43 : f1 wk1 = some (.inl (cy 0, 40, .inl gx1)) := k3 _ _ x_wk1 
      have a44 : f9 wk1 = some (.inl (cy 0, 40, .inl gx1)) := k13 _ _ a43 
      have a45 : f1 wk2 = some (.inl (cy 0, 40, .inl gx2)) := k3 _ _ x_wk2 
      have a46 : f9 wk2 = some (.inl (cy 0, 40, .inl gx2)) := k13 _ _ a45 
      have a47 : f1 wk3 = some (.inl (cy 0, 40, .inl gx3)) := k3 _ _ x_wk3 
      have a48 : f9 wk3 = some (.inl (cy 0, 40, .inl gx3)) := k13 _ _ a47 
      exact z_iret C hr rfl hz hS ⟨u1, u2, u3, nl, nn, nf, nc, lk, ks, gv, gu, gk, gm, gc, gw, gl, gh, gt, gy, gq, ge1, gn1, gp1, gs, gx1, gx2, gx3, ln, fz, sq, rfl, rfl, rfl, rfl, rfl, rfl, rfl, rfl, rfl, rfl, rfl, rfl, rfl, rfl, rfl, rfl, rfl, rfl, rfl, rfl, rfl, rfl, rfl, rfl, rfl, (Or.inl ⟨j, hj, hxj, c5, pq12⟩), ⟨a14, a16, a18, a20, a22, a24, a26, a28, a30, a32, a34, a36, a37, a39, a40, a42, a44, a46, a48, hn60, hl12, hf6, hc60, hs40, hMP, hgy, hfz, hgs, hME, hlk, hgw, hfd, n_wki_wmy, n_wki_wiw, n_wki_wli, n_wki_wha, n_wki_wem, n_wki_wna, n_wki_wpl, n_wmy_wiw, n_wmy_wli, n_wmy_wha, n_wmy_wem, n_wmy_wna, n_wmy_wpl, n_wiw_wli, n_wiw_wha, n_wiw_wem, n_wiw_wna, n_wiw_wpl, n_wli_wha, n_wli_wem, n_wli_wna, n_wli_wpl, n_wha_wem, n_wha_wna, n_wha_wpl, n_wem_wna, n_wem_wpl, n_wna_wpl, n_wk1_wk2, n_wk1_wk3, n_wk2_wk3⟩⟩ (Nat.le_of_ble_eq_true rfl) (Nat.le_of_ble_eq_true rfl) dX8_placed_20
    · refine lv_bipush (v := (-2)) hx hb dX8_placed_11 (by decide) ?_
      have a49 : f1 o = some (.inr (8, [.int u1, .int u2, .int u3, .ref wev, .int (nI nl), .ref wnb, .int (nI nn), .ref wki, .ref wmy, .ref wce, .ref wiw, .ref wli, .ref wha, .ref wwt, .int (nI nf), .ref wfy, .ref wfk, .int (nI nc), .ref wem, .ref wna, .ref wpl, .ref whs, .long lk, .int (nI ks), .ref wk1, .ref wk2, .ref wk3])) := k3 _ _ x_o 
      have a50 : f1 wev = some (.inl (cy 0, 8, .inl gv)) := k3 _ _ x_wev 
      have a51 : f1 wnb = some (.inl (cy 0, 12, .inl gu)) := k3 _ _ x_wnb 
      have a52 : f1 wki = some (.inl (cy 0, 60, .inl gk)) := k3 _ _ x_wki 
      have a53 : f1 wmy = some (.inl (cy 0, 60, .inl gm)) := k3 _ _ x_wmy 
      have a54 : f1 wce = some (.inl (cy 1, 960, .inr (.inl gc))) := k3 _ _ x_wce 
      have a55 : f1 wiw = some (.inl (cy 2, 60, .inl gw)) := k3 _ _ x_wiw 
      have a56 : f1 wli = some (.inl (cy 0, 60, .inl gl)) := k3 _ _ x_wli 
      have a57 : f1 wha = some (.inl (cy 0, 60, .inl gh)) := k3 _ _ x_wha 
      have a58 : f1 wwt = some (.inl (cy 1, 60, .inr (.inl gt))) := k3 _ _ x_wwt 
      have a59 : f1 wfy = some (.inl (cy 0, 6, .inl gy)) := k3 _ _ x_wfy 
      have a60 : f1 wfk = some (.inl (cy 0, 24, .inl gq)) := k3 _ _ x_wfk 
      have a61 : f1 wem = some (.inl (cy 0, 60, .inl ge1)) := k3 _ _ x_wem 
      have a62 : f1 wna = some (.inl (cy 0, 60, .inl gn1)) := k3 _ _ x_wna 
      have a63 : f1 wpl = some (.inl (cy 0, 60, .inl gp1)) := k3 _ _ x_wpl 
      have a64 : f1 whs = some (.inl (cy 0, 4, .inl gs)) := k3 _ _ x_whs 
      have a65 : f1 wk1 = some (.inl (cy 0, 40, .inl gx1)) := k3 _ _ x_wk1 
      have a66 : f1 wk2 = some (.inl (cy 0, 40, .inl gx2)) := k3 _ _ x_wk2 
      have a67 : f1 wk3 = some (.inl (cy 0, 40, .inl gx3)) := k3 _ _ x_wk3 
      exact z_iret C hr rfl hz hS ⟨u1, u2, u3, nl, nn, nf, nc, lk, ks, gv, gu, gk, gm, gc, gw, gl, gh, gt, gy, gq, ge1, gn1, gp1, gs, gx1, gx2, gx3, ln, fz, sq, rfl, rfl, rfl, rfl, rfl, rfl, rfl, rfl, rfl, rfl, rfl, rfl, rfl, rfl, rfl, rfl, rfl, rfl, rfl, rfl, rfl, rfl, rfl, rfl, rfl, (Or.inr ⟨rfl, Or.inr (Int32.not_le.mp c5)⟩), ⟨a49, a50, a51, a52, a53, a54, a55, a56, a57, a58, a59, a60, a61, a62, a63, a64, a65, a66, a67, hn60, hl12, hf6, hc60, hs40, hMP, hgy, hfz, hgs, hME, hlk, hgw, hfd, n_wki_wmy, n_wki_wiw, n_wki_wli, n_wki_wha, n_wki_wem, n_wki_wna, n_wki_wpl, n_wmy_wiw, n_wmy_wli, n_wmy_wha, n_wmy_wem, n_wmy_wna, n_wmy_wpl, n_wiw_wli, n_wiw_wha, n_wiw_wem, n_wiw_wna, n_wiw_wpl, n_wli_wha, n_wli_wem, n_wli_wna, n_wli_wpl, n_wha_wem, n_wha_wna, n_wha_wpl, n_wem_wna, n_wem_wpl, n_wna_wpl, n_wk1_wk2, n_wk1_wk3, n_wk2_wk3⟩⟩ (Nat.le_of_ble_eq_true rfl) (Nat.le_of_ble_eq_true rfl) dX8_placed_13
  · refine lv_iload_n hx hb dX8_placed_0 rfl (lv_at hl 1 rfl) ?_
    refine z_callSi (As := [.int x]) C hz hS hA hl (k_X8_isEnumeration_B l D cy f x  he) zyX8_isEnumeration mMX8_196 rfl rfl (Nat.le_of_ble_eq_true rfl) ⟨Nat.le_of_ble_eq_true rfl, Nat.le_of_ble_eq_true rfl⟩ ⟨Nat.le_of_ble_eq_true rfl, Nat.le_of_ble_eq_true rfl⟩ dX8_placed_1 (fun r f68 H locs h69 hz hS => ?_)
    obtain ⟨rfl, k70⟩ := h69
    refine lv_if_eq (tgt := 11) hx hb dX8_placed_4 (by decide) (fun c71 => ?_) (fun c71 => ?_)
    rotate_left
    · exact absurd c71 (by decide)
    refine lv_bipush (v := (-2)) hx hb dX8_placed_11 (by decide) ?_
    have a72 : f68 o = some (.inr (8, [.int u1, .int u2, .int u3, .ref wev, .int (nI nl), .ref wnb, .int (nI nn), .ref wki, .ref wmy, .ref wce, .ref wiw, .ref wli, .ref wha, .ref wwt, .int (nI nf), .ref wfy, .ref wfk, .int (nI nc), .ref wem, .ref wna, .ref wpl, .ref whs, .long lk, .int (nI ks), .ref wk1, .ref wk2, .ref wk3])) := k70 _ _ x_o 
    have a73 : f68 wev = some (.inl (cy 0, 8, .inl gv)) := k70 _ _ x_wev 
    have a74 : f68 wnb = some (.inl (cy 0, 12, .inl gu)) := k70 _ _ x_wnb 
    have a75 : f68 wki = some (.inl (cy 0, 60, .inl gk)) := k70 _ _ x_wki 
    have a76 : f68 wmy = some (.inl (cy 0, 60, .inl gm)) := k70 _ _ x_wmy 
    have a77 : f68 wce = some (.inl (cy 1, 960, .inr (.inl gc))) := k70 _ _ x_wce 
    have a78 : f68 wiw = some (.inl (cy 2, 60, .inl gw)) := k70 _ _ x_wiw 
    have a79 : f68 wli = some (.inl (cy 0, 60, .inl gl)) := k70 _ _ x_wli 
    have a80 : f68 wha = some (.inl (cy 0, 60, .inl gh)) := k70 _ _ x_wha 
    have a81 : f68 wwt = some (.inl (cy 1, 60, .inr (.inl gt))) := k70 _ _ x_wwt 
    have a82 : f68 wfy = some (.inl (cy 0, 6, .inl gy)) := k70 _ _ x_wfy 
    have a83 : f68 wfk = some (.inl (cy 0, 24, .inl gq)) := k70 _ _ x_wfk 
    have a84 : f68 wem = some (.inl (cy 0, 60, .inl ge1)) := k70 _ _ x_wem 
    have a85 : f68 wna = some (.inl (cy 0, 60, .inl gn1)) := k70 _ _ x_wna 
    have a86 : f68 wpl = some (.inl (cy 0, 60, .inl gp1)) := k70 _ _ x_wpl 
    have a87 : f68 whs = some (.inl (cy 0, 4, .inl gs)) := k70 _ _ x_whs 
    have a88 : f68 wk1 = some (.inl (cy 0, 40, .inl gx1)) := k70 _ _ x_wk1 
    have a89 : f68 wk2 = some (.inl (cy 0, 40, .inl gx2)) := k70 _ _ x_wk2 
    have a90 : f68 wk3 = some (.inl (cy 0, 40, .inl gx3)) := k70 _ _ x_wk3 
    exact z_iret C hr rfl hz hS ⟨u1, u2, u3, nl, nn, nf, nc, lk, ks, gv, gu, gk, gm, gc, gw, gl, gh, gt, gy, gq, ge1, gn1, gp1, gs, gx1, gx2, gx3, ln, fz, sq, rfl, rfl, rfl, rfl, rfl, rfl, rfl, rfl, rfl, rfl, rfl, rfl, rfl, rfl, rfl, rfl, rfl, rfl, rfl, rfl, rfl, rfl, rfl, rfl, rfl, (Or.inr ⟨rfl, Or.inl he⟩), ⟨a72, a73, a74, a75, a76, a77, a78, a79, a80, a81, a82, a83, a84, a85, a86, a87, a88, a89, a90, hn60, hl12, hf6, hc60, hs40, hMP, hgy, hfz, hgs, hME, hlk, hgw, hfd, n_wki_wmy, n_wki_wiw, n_wki_wli, n_wki_wha, n_wki_wem, n_wki_wna, n_wki_wpl, n_wmy_wiw, n_wmy_wli, n_wmy_wha, n_wmy_wem, n_wmy_wna, n_wmy_wpl, n_wiw_wli, n_wiw_wha, n_wiw_wem, n_wiw_wna, n_wiw_wpl, n_wli_wha, n_wli_wem, n_wli_wna, n_wli_wpl, n_wha_wem, n_wha_wna, n_wha_wpl, n_wem_wna, n_wem_wpl, n_wna_wpl, n_wk1_wk2, n_wk1_wk3, n_wk2_wk3⟩⟩ (Nat.le_of_ble_eq_true rfl) (Nat.le_of_ble_eq_true rfl) dX8_placed_13
abbrev rmX8_keyOf : Room := { frames := 0, cells := 0, slots := 0, locals := 0 }
set_option maxHeartbeats 4000000 in
set_option maxRecDepth 100000 in
theorem k_X8_keyOf (l : Launch) (D : va_G) (cy : Nat → ClassId) (f : zM) (o : Nat) (wev : Nat) (wnb : Nat) (wki : Nat) (wmy : Nat) (wce : Nat) (wiw : Nat) (wli : Nat) (wha : Nat) (wwt : Nat) (wfy : Nat) (wfk : Nat) (wem : Nat) (wna : Nat) (wpl : Nat) (whs : Nat) (wk1 : Nat) (wk2 : Nat) (wk3 : Nat) (u1 : Int32) (u2 : Int32) (u3 : Int32) (nl : Nat) (nn : Nat) (nf : Nat) (nc : Nat) (lk : Int64) (ks : Nat) (ge1 : Nat → Int32) (gn1 : Nat → Int32) (gx1 : Nat → Int32) (gx2 : Nat → Int32) (jc : Nat) (p0 : f o = some (.inr (8, [.int u1, .int u2, .int u3, .ref wev, .int (nI nl), .ref wnb, .int (nI nn), .ref wki, .ref wmy, .ref wce, .ref wiw, .ref wli, .ref wha, .ref wwt, .int (nI nf), .ref wfy, .ref wfk, .int (nI nc), .ref wem, .ref wna, .ref wpl, .ref whs, .long lk, .int (nI ks), .ref wk1, .ref wk2, .ref wk3]))) (p1 : f wem = some (.inl (cy 0, 60, .inl ge1))) (p2 : f wna = some (.inl (cy 0, 60, .inl gn1))) (p3 : f wk1 = some (.inl (cy 0, 40, .inl gx1))) (p4 : f wk2 = some (.inl (cy 0, 40, .inl gx2)))  (hs40 : ks ≤ 40) (hj60 : jc < 60) : zCi l D cy yX8_keyOf cX8_keyOf 3 (Option.some Jvm.ClassFile.FieldType.int) rmX8_keyOf [.ref o, .int (nI jc)] f (fun (r : Int32) (f1 : zM) => (∃ k, k ≤ ks ∧ r = nI k ∧ (∀ i, i < k → ¬ (gx1 i = ge1 jc ∧ gx2 i = gn1 jc)) ∧ (k < ks → gx1 k = ge1 jc ∧ gx2 k = gn1 jc)) ∧ (∀ (b : Nat) (e : va_E), f b = some e → f1 b = some e)) := by
  intro sz
  refine z_body (by decide +kernel) (Nat.le_of_ble_eq_true rfl) ?_
  intro p e s m below meth c ls C hr hin hsz hz hl
  subst hsz
  have hx := C.1
  have hb := C.2.1
  have hA : ∀ q, s.heap.size ≤ q → zA f s.heap.size q := fun q h => Or.inr h
  have hS : va_S (zA f s.heap.size) s.heap s.heap [] := va_S.rf
  have hl : lv_has ls 3 [(0, .ref o), (1, .int (nI jc))] := hl
  refine lv_iconst (v := 0) hx hb dX8_keyOf_0 (by decide) ?_
  refine lv_istore_n (lv' := [(2, .int 0), (0, .ref o), (1, .int (nI jc))]) hx hb dX8_keyOf_1 rfl hl (by decide) rfl (fun ls hl => ?_)
  have lp1 : ∀ (n : Nat) (kx : Nat) (fL2 : zM) (H : Heap) (locs : List Loc) (ls : Array Slot), (ks - kx) < n → (kx ≤ ks) → (∀ i, i < kx → ¬ (gx1 i = ge1 jc ∧ gx2 i = gn1 jc)) → (∀ (b : Nat) (e : va_E), f b = some e → fL2 b = some e) → zH D (zA f s.heap.size) fL2 H → va_S (zA f s.heap.size) s.heap H locs → lv_has ls 3 [(0, .ref o), (1, .int (nI jc)), (2, .int (nI kx))] → W p l e rmX8_keyOf s m ([.ref o, .int (nI jc)] : List Value).toArray below meth c H locs 0 0 (MQ below (va_Qi (fun (r : Int32) (f1 : zM) => (∃ k, k ≤ ks ∧ r = nI k ∧ (∀ i, i < k → ¬ (gx1 i = ge1 jc ∧ gx2 i = gn1 jc)) ∧ (k < ks → gx1 k = ge1 jc ∧ gx2 k = gn1 jc)) ∧ (∀ (b : Nat) (e : va_E), f b = some e → f1 b = some e)) (zB D f s.heap.size) (zA f s.heap.size)) ([.ref o, .int (nI jc)] : List Value).toArray s rmX8_keyOf.cells rmX8_keyOf.slots (zA f s.heap.size)) (F0 m 2 ls []) := by
    intro n
    induction n with
    | zero => intro kx fL2 H locs ls hmz; exact absurd hmz (Nat.not_lt_zero _)
    | succ n ih =>
      intro kx fL2 H locs ls hmz hk hne  k3 hz hS hl
      refine lv_iload_n hx hb dX8_keyOf_2 rfl (lv_at hl 2 rfl) ?_
      refine lv_aload_n hx hb dX8_keyOf_3 rfl (lv_at hl 0 rfl) ?_
      have a4 : fL2 o = some (.inr (8, [.int u1, .int u2, .int u3, .ref wev, .int (nI nl), .ref wnb, .int (nI nn), .ref wki, .ref wmy, .ref wce, .ref wiw, .ref wli, .ref wha, .ref wwt, .int (nI nf), .ref wfy, .ref wfk, .int (nI nc), .ref wem, .ref wna, .ref wpl, .ref whs, .long lk, .int (nI ks), .ref wk1, .ref wk2, .ref wk3])) := k3 _ _ p0 
      refine z_get (v := .int (nI ks)) C hz a4 zl8 mFX8_213 (by decide) rfl dX8_keyOf_4 ?_
      refine lv_icmp_ge (tgt := 46) hx hb dX8_keyOf_7 (by decide) (fun c5 => ?_) (fun c5 => ?_)
      · replace c5 : (ks ≤ kx) := (nI_leI (a := ks) (b := kx) (by omega) (by omega)).mp c5
        refine lv_iload_n hx hb dX8_keyOf_46 rfl (lv_at hl 2 rfl) ?_
        exact z_iret C hr rfl hz hS ⟨⟨kx, by omega, rfl, hne, fun h9 => absurd h9 (by omega)⟩, (by
              intro b e hb 
              have hb0 : fL2 b = some e := k3 b e hb 
              exact hb0)⟩ (Nat.le_of_ble_eq_true rfl) (Nat.le_of_ble_eq_true rfl) dX8_keyOf_47
      · replace c5 : ¬ (ks ≤ kx) := fun h => c5 ((nI_leI (a := ks) (b := kx) (by omega) (by omega)).mpr h)
        refine lv_aload_n hx hb dX8_keyOf_10 rfl (lv_at hl 0 rfl) ?_
        refine z_get (v := .ref wk1) C hz a4 zl8 mFX8_65 (by decide) rfl dX8_keyOf_11 ?_
        refine lv_iload_n hx hb dX8_keyOf_14 rfl (lv_at hl 2 rfl) ?_
        have a6 : fL2 wk1 = some (.inl (cy 0, 40, .inl gx1)) := k3 _ _ p3 
        refine z_iald kx C hz a6 rfl (by omega) (by omega) dX8_keyOf_15 ?_
        refine lv_aload_n hx hb dX8_keyOf_16 rfl (lv_at hl 0 rfl) ?_
        refine z_get (v := .ref wem) C hz a4 zl8 mFX8_49 (by decide) rfl dX8_keyOf_17 ?_
        refine lv_iload_n hx hb dX8_keyOf_20 rfl (lv_at hl 1 rfl) ?_
        have a7 : fL2 wem = some (.inl (cy 0, 60, .inl ge1)) := k3 _ _ p1 
        refine z_iald jc C hz a7 rfl hj60 (by omega) dX8_keyOf_21 ?_
        refine lv_icmp_ne (tgt := 40) hx hb dX8_keyOf_22 (by decide) (fun c8 => ?_) (fun c8 => ?_)
        · refine lv_iinc (v := nI (kx + 1)) (lv' := [(2, .int (nI (kx + 1))), (0, .ref o), (1, .int (nI jc))]) hx hb dX8_keyOf_40 hl (k := 2) rfl (nI_1 kx) (by decide) rfl (fun ls hl => ?_)
          refine lv_goto (tgt := 2) hx hb dX8_keyOf_43 (by decide) ?_
          exact ih (kx + 1) _ _ _ _ (by omega) (by omega) (fun d hd => (Nat.lt_succ_iff_lt_or_eq.mp hd).elim (hne d) (fun q => q ▸ (fun h => c8 h.1)))  (by
                intro b e hb 
                have hb0 : fL2 b = some e := k3 b e hb 
                exact hb0) hz hS (lv_sub hl [1, 2, 0] rfl)
        · refine lv_aload_n hx hb dX8_keyOf_25 rfl (lv_at hl 0 rfl) ?_
          refine z_get (v := .ref wk2) C hz a4 zl8 mFX8_68 (by decide) rfl dX8_keyOf_26 ?_
          refine lv_iload_n hx hb dX8_keyOf_29 rfl (lv_at hl 2 rfl) ?_
          have a9 : fL2 wk2 = some (.inl (cy 0, 40, .inl gx2)) := k3 _ _ p4 
          refine z_iald kx C hz a9 rfl (by omega) (by omega) dX8_keyOf_30 ?_
          refine lv_aload_n hx hb dX8_keyOf_31 rfl (lv_at hl 0 rfl) ?_
          refine z_get (v := .ref wna) C hz a4 zl8 mFX8_52 (by decide) rfl dX8_keyOf_32 ?_
          refine lv_iload_n hx hb dX8_keyOf_35 rfl (lv_at hl 1 rfl) ?_
          have a10 : fL2 wna = some (.inl (cy 0, 60, .inl gn1)) := k3 _ _ p2 
          refine z_iald jc C hz a10 rfl hj60 (by omega) dX8_keyOf_36 ?_
          refine lv_icmp_eq (tgt := 46) hx hb dX8_keyOf_37 (by decide) (fun c11 => ?_) (fun c11 => ?_)
          · refine lv_iload_n hx hb dX8_keyOf_46 rfl (lv_at hl 2 rfl) ?_
            exact z_iret C hr rfl hz hS ⟨⟨kx, by omega, rfl, hne, fun _ => ⟨c8, c11⟩⟩, (by
                  intro b e hb 
                  have hb0 : fL2 b = some e := k3 b e hb 
                  exact hb0)⟩ (Nat.le_of_ble_eq_true rfl) (Nat.le_of_ble_eq_true rfl) dX8_keyOf_47
          · refine lv_iinc (v := nI (kx + 1)) (lv' := [(2, .int (nI (kx + 1))), (0, .ref o), (1, .int (nI jc))]) hx hb dX8_keyOf_40 hl (k := 2) rfl (nI_1 kx) (by decide) rfl (fun ls hl => ?_)
            refine lv_goto (tgt := 2) hx hb dX8_keyOf_43 (by decide) ?_
            exact ih (kx + 1) _ _ _ _ (by omega) (by omega) (fun d hd => (Nat.lt_succ_iff_lt_or_eq.mp hd).elim (hne d) (fun q => q ▸ (fun h => c11 h.2)))  (by
                  intro b e hb 
                  have hb0 : fL2 b = some e := k3 b e hb 
                  exact hb0) hz hS (lv_sub hl [1, 2, 0] rfl)
  exact lp1 (ks - 0 + 1) 0 _ _ _ _ (Nat.lt_succ_self _) (by omega) (fun d hd => absurd hd (Nat.not_lt_zero d))  (fun b e hb => hb) hz hS (lv_sub hl [1, 2, 0] rfl)
abbrev rmX8_put : Room := { frames := 1, cells := 0, slots := 0, locals := 22 }
set_option maxHeartbeats 4000000 in
set_option maxRecDepth 100000 in
theorem k_X8_put (l : Launch) (D : va_G) (cy : Nat → ClassId) (f : zM) (o : Nat) (wev : Nat) (wnb : Nat) (wki : Nat) (wmy : Nat) (wce : Nat) (wiw : Nat) (wli : Nat) (wha : Nat) (wwt : Nat) (wfy : Nat) (wfk : Nat) (wem : Nat) (wna : Nat) (wpl : Nat) (whs : Nat) (wk1 : Nat) (wk2 : Nat) (wk3 : Nat) (u1 : Int32) (u2 : Int32) (u3 : Int32) (nl : Nat) (nn : Nat) (nf : Nat) (nc : Nat) (lk : Int64) (ks : Nat) (gv : Nat → Int32) (gu : Nat → Int32) (gk : Nat → Int32) (gm : Nat → Int32) (gc : Nat → Int64) (gw : Nat → Int32) (gl : Nat → Int32) (gh : Nat → Int32) (gt : Nat → Int64) (gy : Nat → Int32) (gq : Nat → Int32) (ge1 : Nat → Int32) (gn1 : Nat → Int32) (gp1 : Nat → Int32) (gs : Nat → Int32) (gx1 : Nat → Int32) (gx2 : Nat → Int32) (gx3 : Nat → Int32) (ln : Nat → Nat) (fz : Nat → Nat) (sq : Nat → Nat) (x : Int32) (y : Int32)    (hI : zIM cy f o wev wnb wki wmy wce wiw wli wha wwt wfy wfk wem wna wpl whs wk1 wk2 wk3 u1 u2 u3 nl nn nf nc lk ks gv gu gk gm gc gw gl gh gt gy gq ge1 gn1 gp1 gs gx1 gx2 gx3 ln fz sq) : zCi l D cy yX8_put cX8_put 5 (Option.some Jvm.ClassFile.FieldType.int) rmX8_put [.ref o, .int x, .int y] f (fun (r : Int32) (f1 : zM) => ∃ (u11 : Int32) (u21 : Int32) (u31 : Int32) (nl1 : Nat) (nn1 : Nat) (nf1 : Nat) (nc1 : Nat) (lk1 : Int64) (ks1 : Nat) (gv1 : Nat → Int32) (gu1 : Nat → Int32) (gk1 : Nat → Int32) (gm1 : Nat → Int32) (gc1 : Nat → Int64) (gw1 : Nat → Int32) (gl1 : Nat → Int32) (gh1 : Nat → Int32) (gt1 : Nat → Int64) (gy1 : Nat → Int32) (gq1 : Nat → Int32) (ge11 : Nat → Int32) (gn11 : Nat → Int32) (gp11 : Nat → Int32) (gs1 : Nat → Int32) (gx11 : Nat → Int32) (gx21 : Nat → Int32) (gx31 : Nat → Int32) (ln1 : Nat → Nat) (fz1 : Nat → Nat) (sq1 : Nat → Nat), (u11 = u1) ∧ (u21 = u2) ∧ (u31 = u3) ∧ (gv1 = gv) ∧ (nl1 = nl) ∧ (gu1 = gu) ∧ (nn1 = nn) ∧ (gk1 = gk) ∧ (ln1 = ln) ∧ (gw1 = gw) ∧ (gh1 = gh) ∧ (gc1 = gc) ∧ (nf1 = nf) ∧ (fz1 = fz) ∧ (gq1 = gq) ∧ (nc1 = nc) ∧ (ge11 = ge1) ∧ (gn11 = gn1) ∧ (gp11 = gp1) ∧ (sq1 = sq) ∧ (lk1 = lk) ∧ (zYU nc x y ge1 gn1 ks gx1 gx2 gx3 r ks1 gx11 gx21 gx31) ∧ zIM cy f1 o wev wnb wki wmy wce wiw wli wha wwt wfy wfk wem wna wpl whs wk1 wk2 wk3 u11 u21 u31 nl1 nn1 nf1 nc1 lk1 ks1 gv1 gu1 gk1 gm1 gc1 gw1 gl1 gh1 gt1 gy1 gq1 ge11 gn11 gp11 gs1 gx11 gx21 gx31 ln1 fz1 sq1) := by
  intro sz
  refine z_body (by decide +kernel) (Nat.le_of_ble_eq_true rfl) ?_
  intro p e s m below meth c ls C hr hin hsz hz hl
  subst hsz
  have hx := C.1
  have hb := C.2.1
  have hA : ∀ q, s.heap.size ≤ q → zA f s.heap.size q := fun q h => Or.inr h
  have hS : va_S (zA f s.heap.size) s.heap s.heap [] := va_S.rf
  have hl : lv_has ls 5 [(0, .ref o), (1, .int x), (2, .int y)] := hl
  obtain ⟨x_o, x_wev, x_wnb, x_wki, x_wmy, x_wce, x_wiw, x_wli, x_wha, x_wwt, x_wfy, x_wfk, x_wem, x_wna, x_wpl, x_whs, x_wk1, x_wk2, x_wk3, hn60, hl12, hf6, hc60, hs40, hMP, hgy, hfz, hgs, hME, hlk, hgw, hfd, n_wki_wmy, n_wki_wiw, n_wki_wli, n_wki_wha, n_wki_wem, n_wki_wna, n_wki_wpl, n_wmy_wiw, n_wmy_wli, n_wmy_wha, n_wmy_wem, n_wmy_wna, n_wmy_wpl, n_wiw_wli, n_wiw_wha, n_wiw_wem, n_wiw_wna, n_wiw_wpl, n_wli_wha, n_wli_wem, n_wli_wna, n_wli_wpl, n_wha_wem, n_wha_wna, n_wha_wpl, n_wem_wna, n_wem_wpl, n_wna_wpl, n_wk1_wk2, n_wk1_wk3, n_wk2_wk3⟩ := id hI
  refine lv_aload_n hx hb dX8_put_0 rfl (lv_at hl 0 rfl) ?_
  refine lv_iload_n hx hb dX8_put_1 rfl (lv_at hl 1 rfl) ?_
  rcases z_findi x nc with ⟨jc, hjc, hvc⟩ | hvc
  · refine z_callVi (As := [.int x]) C hz hS hA hl (k_X8_isConstant_A l D cy f o wev wnb wki wmy wce wiw wli wha wwt wfy wfk wem wna wpl whs wk1 wk2 wk3 u1 u2 u3 nl nn nf nc lk ks x jc x_o hc60 hvc hjc) zyX8_isConstant mMX8_202 x_o zl8 rfl rfl (Nat.le_of_ble_eq_true rfl) ⟨Nat.le_of_ble_eq_true rfl, Nat.le_of_ble_eq_true rfl⟩ ⟨Nat.le_of_ble_eq_true rfl, Nat.le_of_ble_eq_true rfl⟩ dX8_put_2 (fun r f1 H locs h2 hz hS => ?_)
    obtain ⟨rfl, k3⟩ := h2
    refine lv_if_ne (tgt := 11) hx hb dX8_put_5 (by decide) (fun c4 => ?_) (fun c4 => ?_)
    rotate_left
    · exact absurd c4 (by decide)
    refine lv_aload_n hx hb dX8_put_11 rfl (lv_at hl 0 rfl) ?_
    refine lv_iload_n hx hb dX8_put_12 rfl (lv_at hl 1 rfl) ?_
    refine lv_topi (fun y5 e6 => ?_)
    obtain rfl : y5 = nI jc := e6.trans hvc
    have a7 : f1 o = some (.inr (8, [.int u1, .int u2, .int u3, .ref wev, .int (nI nl), .ref wnb, .int (nI nn), .ref wki, .ref wmy, .ref wce, .ref wiw, .ref wli, .ref wha, .ref wwt, .int (nI nf), .ref wfy, .ref wfk, .int (nI nc), .ref wem, .ref wna, .ref wpl, .ref whs, .long lk, .int (nI ks), .ref wk1, .ref wk2, .ref wk3])) := k3 _ _ x_o 
    have a8 : f1 wem = some (.inl (cy 0, 60, .inl ge1)) := k3 _ _ x_wem 
    have a9 : f1 wna = some (.inl (cy 0, 60, .inl gn1)) := k3 _ _ x_wna 
    have a10 : f1 wk1 = some (.inl (cy 0, 40, .inl gx1)) := k3 _ _ x_wk1 
    have a11 : f1 wk2 = some (.inl (cy 0, 40, .inl gx2)) := k3 _ _ x_wk2 
    refine z_callVi (As := [.int (nI jc)]) C hz hS hA hl (k_X8_keyOf l D cy f1 o wev wnb wki wmy wce wiw wli wha wwt wfy wfk wem wna wpl whs wk1 wk2 wk3 u1 u2 u3 nl nn nf nc lk ks ge1 gn1 gx1 gx2 jc a7 a8 a9 a10 a11 hs40 (by omega)) zyX8_keyOf mMX8_216 a7 zl8 rfl rfl (Nat.le_of_ble_eq_true rfl) ⟨Nat.le_of_ble_eq_true rfl, Nat.le_of_ble_eq_true rfl⟩ ⟨Nat.le_of_ble_eq_true rfl, Nat.le_of_ble_eq_true rfl⟩ dX8_put_13 (fun r14 f12 H locs h13 hz hS => ?_)
    obtain ⟨pq15, k16⟩ := h13
    obtain ⟨ky, hky, hrky, hnky, hmky⟩ := pq15
    refine lv_topi (fun y17 e18 => ?_)
    obtain rfl : y17 = nI ky := e18.trans hrky
    refine lv_istore_n (lv' := [(3, .int (nI ky)), (0, .ref o), (1, .int x), (2, .int y)]) hx hb dX8_put_16 rfl hl (by decide) rfl (fun ls hl => ?_)
    refine lv_iload_n hx hb dX8_put_17 rfl (lv_at hl 0 rfl) ?_
    refine lv_bipush (v := 40) hx hb dX8_put_18 (by decide) ?_
    refine lv_icmp_ne (tgt := 26) hx hb dX8_put_20 (by decide) (fun c19 => ?_) (fun c19 => ?_)
    · replace c19 : ¬ (ky = 40) := fun h => c19 ((nI_eq (a := ky) (b := 40) (by omega) (by omega)).mpr h)
      refine lv_iload_n hx hb dX8_put_26 rfl (lv_at hl 0 rfl) ?_
      refine lv_aload_n hx hb dX8_put_27 rfl (lv_at hl 1 rfl) ?_
      have a20 : f12 o = some (.inr (8, [.int u1, .int u2, .int u3, .ref wev, .int (nI nl), .ref wnb, .int (nI nn), .ref wki, .ref wmy, .ref wce, .ref wiw, .ref wli, .ref wha, .ref wwt, .int (nI nf), .ref wfy, .ref wfk, .int (nI nc), .ref wem, .ref wna, .ref wpl, .ref whs, .long lk, .int (nI ks), .ref wk1, .ref wk2, .ref wk3])) := k16 _ _ a7 
      refine z_get (v := .int (nI ks)) C hz a20 zl8 mFX8_213 (by decide) rfl dX8_put_28 ?_
      refine lv_icmp_ge (tgt := 38) hx hb dX8_put_31 (by decide) (fun c21 => ?_) (fun c21 => ?_)
      · replace c21 : (ks ≤ ky) := (nI_leI (a := ks) (b := ky) (by omega) (by omega)).mp c21
        refine lv_iconst (v := 0) hx hb dX8_put_38 (by decide) ?_
        refine lv_istore (lv' := [(4, .int 0), (3, .int (nI ky)), (0, .ref o), (1, .int x), (2, .int y)]) hx hb dX8_put_39 hl (by decide) rfl (fun ls hl => ?_)
        refine lv_aload_n hx hb dX8_put_41 rfl (lv_at hl 2 rfl) ?_
        refine z_get (v := .ref wk1) C hz a20 zl8 mFX8_65 (by decide) rfl dX8_put_42 ?_
        refine lv_iload_n hx hb dX8_put_45 rfl (lv_at hl 1 rfl) ?_
        refine lv_aload_n hx hb dX8_put_46 rfl (lv_at hl 2 rfl) ?_
        refine z_get (v := .ref wem) C hz a20 zl8 mFX8_49 (by decide) rfl dX8_put_47 ?_
        refine lv_iload_n hx hb dX8_put_50 rfl (lv_at hl 3 rfl) ?_
        have a22 : f12 wem = some (.inl (cy 0, 60, .inl ge1)) := k16 _ _ a8 
        refine z_iald jc C hz a22 hvc (by omega) (by omega) dX8_put_51 ?_
        have a23 : f12 wk1 = some (.inl (cy 0, 40, .inl gx1)) := k16 _ _ a10 
        refine z_iast ky C hz hS a23 rfl (by omega) (by omega) dX8_put_52 (fun H locs f24 a25 k26 hz hS => ?_)
        refine lv_aload_n hx hb dX8_put_53 rfl (lv_at hl 2 rfl) ?_
        have a27 : f24 o = some (.inr (8, [.int u1, .int u2, .int u3, .ref wev, .int (nI nl), .ref wnb, .int (nI nn), .ref wki, .ref wmy, .ref wce, .ref wiw, .ref wli, .ref wha, .ref wwt, .int (nI nf), .ref wfy, .ref wfk, .int (nI nc), .ref wem, .ref wna, .ref wpl, .ref whs, .long lk, .int (nI ks), .ref wk1, .ref wk2, .ref wk3])) := (k26 _ (z_ne a20 a23 rfl)).trans a20
        refine z_get (v := .ref wk2) C hz a27 zl8 mFX8_68 (by decide) rfl dX8_put_54 ?_
        refine lv_iload_n hx hb dX8_put_57 rfl (lv_at hl 1 rfl) ?_
        refine lv_aload_n hx hb dX8_put_58 rfl (lv_at hl 2 rfl) ?_
        refine z_get (v := .ref wna) C hz a27 zl8 mFX8_52 (by decide) rfl dX8_put_59 ?_
        refine lv_iload_n hx hb dX8_put_62 rfl (lv_at hl 3 rfl) ?_
        have a28 : f12 wna = some (.inl (cy 0, 60, .inl gn1)) := k16 _ _ a9 
        have a29 : f24 wna = some (.inl (cy 0, 60, .inl gn1)) := (k26 _ (z_ne a28 a23 rfl)).trans a28
        refine z_iald jc C hz a29 hvc (by omega) (by omega) dX8_put_63 ?_
        have a30 : f12 wk2 = some (.inl (cy 0, 40, .inl gx2)) := k16 _ _ a11 
        have a31 : f24 wk2 = some (.inl (cy 0, 40, .inl gx2)) := (k26 _ (Ne.symm n_wk1_wk2)).trans a30
        refine z_iast ky C hz hS a31 rfl (by omega) (by omega) dX8_put_64 (fun H locs f32 a33 k34 hz hS => ?_)
        refine lv_aload_n hx hb dX8_put_65 rfl (lv_at hl 2 rfl) ?_
        have a35 : f32 o = some (.inr (8, [.int u1, .int u2, .int u3, .ref wev, .int (nI nl), .ref wnb, .int (nI nn), .ref wki, .ref wmy, .ref wce, .ref wiw, .ref wli, .ref wha, .ref wwt, .int (nI nf), .ref wfy, .ref wfk, .int (nI nc), .ref wem, .ref wna, .ref wpl, .ref whs, .long lk, .int (nI ks), .ref wk1, .ref wk2, .ref wk3])) := (k34 _ (z_ne a27 a31 rfl)).trans a27
        refine z_get (v := .ref wk3) C hz a35 zl8 mFX8_71 (by decide) rfl dX8_put_66 ?_
        refine lv_iload_n hx hb dX8_put_69 rfl (lv_at hl 1 rfl) ?_
        refine lv_iload_n hx hb dX8_put_70 rfl (lv_at hl 4 rfl) ?_
        have a36 : f1 wk3 = some (.inl (cy 0, 40, .inl gx3)) := k3 _ _ x_wk3 
        have a37 : f12 wk3 = some (.inl (cy 0, 40, .inl gx3)) := k16 _ _ a36 
        have a38 : f24 wk3 = some (.inl (cy 0, 40, .inl gx3)) := (k26 _ (Ne.symm n_wk1_wk3)).trans a37
        have a39 : f32 wk3 = some (.inl (cy 0, 40, .inl gx3)) := (k34 _ (Ne.symm n_wk2_wk3)).trans a38
        refine z_iast ky C hz hS a39 rfl (by omega) (by omega) dX8_put_71 (fun H locs f40 a41 k42 hz hS => ?_)
        refine lv_aload_n hx hb dX8_put_72 rfl (lv_at hl 2 rfl) ?_
        refine lv_dup hx hb dX8_put_73 rfl ?_
        have a43 : f40 o = some (.inr (8, [.int u1, .int u2, .int u3, .ref wev, .int (nI nl), .ref wnb, .int (nI nn), .ref wki, .ref wmy, .ref wce, .ref wiw, .ref wli, .ref wha, .ref wwt, .int (nI nf), .ref wfy, .ref wfk, .int (nI nc), .ref wem, .ref wna, .ref wpl, .ref whs, .long lk, .int (nI ks), .ref wk1, .ref wk2, .ref wk3])) := (k42 _ (z_ne a35 a39 rfl)).trans a35
        refine z_get (v := .int (nI ks)) C hz a43 zl8 mFX8_213 (by decide) rfl dX8_put_74 ?_
        refine lv_iload hx hb dX8_put_77 (lv_at hl 0 rfl) ?_
        refine lv_if_eq (tgt := 86) hx hb dX8_put_79 (by decide) (fun c44 => ?_) (fun c44 => ?_)
        rotate_left
        · exact absurd c44 (by decide)
        refine lv_iconst (v := 1) hx hb dX8_put_86 (by decide) ?_
        refine lv_iadd hx hb dX8_put_87 ?_
        refine lv_topi (fun y45 e46 => ?_)
        obtain rfl : y45 = nI (ks + 1) := e46.trans (nI_1 ks)
        refine z_put (fs' := [.int u1, .int u2, .int u3, .ref wev, .int (nI nl), .ref wnb, .int (nI nn), .ref wki, .ref wmy, .ref wce, .ref wiw, .ref wli, .ref wha, .ref wwt, .int (nI nf), .ref wfy, .ref wfk, .int (nI nc), .ref wem, .ref wna, .ref wpl, .ref whs, .long lk, .int (nI (ks + 1)), .ref wk1, .ref wk2, .ref wk3]) C hz hS a43 zl8 mFX8_213 (by decide) rfl rfl rfl (Nat.le_of_ble_eq_true rfl) rfl dX8_put_88 (fun H locs f47 a48 k49 hz hS => ?_)
        refine lv_iload hx hb dX8_put_91 (lv_at hl 0 rfl) ?_
        refine lv_if_eq (tgt := 100) hx hb dX8_put_93 (by decide) (fun c50 => ?_) (fun c50 => ?_)
        rotate_left
        · exact absurd c50 (by decide)
        refine lv_iconst (v := 0) hx hb dX8_put_100 (by decide) ?_
        have a51 : f1 wev = some (.inl (cy 0, 8, .inl gv)) := k3 _ _ x_wev 
        have a52 : f12 wev = some (.inl (cy 0, 8, .inl gv)) := k16 _ _ a51 
        have a53 : f24 wev = some (.inl (cy 0, 8, .inl gv)) := (k26 _ (z_ne a52 a23 rfl)).trans a52
        have a54 : f32 wev = some (.inl (cy 0, 8, .inl gv)) := (k34 _ (z_ne a53 a31 rfl)).trans a53
        have a55 : f40 wev = some (.inl (cy 0, 8, .inl gv)) := (k42 _ (z_ne a54 a39 rfl)).trans a54
        have a56 : f47 wev = some (.inl (cy 0, 8, .inl gv)) := (k49 _ (z_ne a55 a43 rfl)).trans a55
        have a57 : f1 wnb = some (.inl (cy 0, 12, .inl gu)) := k3 _ _ x_wnb 
        have a58 : f12 wnb = some (.inl (cy 0, 12, .inl gu)) := k16 _ _ a57 
        have a59 : f24 wnb = some (.inl (cy 0, 12, .inl gu)) := (k26 _ (z_ne a58 a23 rfl)).trans a58
        have a60 : f32 wnb = some (.inl (cy 0, 12, .inl gu)) := (k34 _ (z_ne a59 a31 rfl)).trans a59
        have a61 : f40 wnb = some (.inl (cy 0, 12, .inl gu)) := (k42 _ (z_ne a60 a39 rfl)).trans a60
        have a62 : f47 wnb = some (.inl (cy 0, 12, .inl gu)) := (k49 _ (z_ne a61 a43 rfl)).trans a61
        have a63 : f1 wki = some (.inl (cy 0, 60, .inl gk)) := k3 _ _ x_wki 
        have a64 : f12 wki = some (.inl (cy 0, 60, .inl gk)) := k16 _ _ a63 
        have a65 : f24 wki = some (.inl (cy 0, 60, .inl gk)) := (k26 _ (z_ne a64 a23 rfl)).trans a64
        have a66 : f32 wki = some (.inl (cy 0, 60, .inl gk)) := (k34 _ (z_ne a65 a31 rfl)).trans a65
        have a67 : f40 wki = some (.inl (cy 0, 60, .inl gk)) := (k42 _ (z_ne a66 a39 rfl)).trans a66
        have a68 : f47 wki = some (.inl (cy 0, 60, .inl gk)) := (k49 _ (z_ne a67 a43 rfl)).trans a67
        have a69 : f1 wmy = some (.inl (cy 0, 60, .inl gm)) := k3 _ _ x_wmy 
        have a70 : f12 wmy = some (.inl (cy 0, 60, .inl gm)) := k16 _ _ a69 
        have a71 : f24 wmy = some (.inl (cy 0, 60, .inl gm)) := (k26 _ (z_ne a70 a23 rfl)).trans a70
        have a72 : f32 wmy = some (.inl (cy 0, 60, .inl gm)) := (k34 _ (z_ne a71 a31 rfl)).trans a71
        have a73 : f40 wmy = some (.inl (cy 0, 60, .inl gm)) := (k42 _ (z_ne a72 a39 rfl)).trans a72
        have a74 : f47 wmy = some (.inl (cy 0, 60, .inl gm)) := (k49 _ (z_ne a73 a43 rfl)).trans a73
        have a75 : f1 wce = some (.inl (cy 1, 960, .inr (.inl gc))) := k3 _ _ x_wce 
        have a76 : f12 wce = some (.inl (cy 1, 960, .inr (.inl gc))) := k16 _ _ a75 
        have a77 : f24 wce = some (.inl (cy 1, 960, .inr (.inl gc))) := (k26 _ (z_ne a76 a23 rfl)).trans a76
        have a78 : f32 wce = some (.inl (cy 1, 960, .inr (.inl gc))) := (k34 _ (z_ne a77 a31 rfl)).trans a77
        have a79 : f40 wce = some (.inl (cy 1, 960, .inr (.inl gc))) := (k42 _ (z_ne a78 a39 rfl)).trans a78
        have a80 : f47 wce = some (.inl (cy 1, 960, .inr (.inl gc))) := (k49 _ (z_ne a79 a43 rfl)).trans a79
        have a81 : f1 wiw = some (.inl (cy 2, 60, .inl gw)) := k3 _ _ x_wiw 
        have a82 : f12 wiw = some (.inl (cy 2, 60, .inl gw)) := k16 _ _ a81 
        have a83 : f24 wiw = some (.inl (cy 2, 60, .inl gw)) := (k26 _ (z_ne a82 a23 rfl)).trans a82
        have a84 : f32 wiw = some (.inl (cy 2, 60, .inl gw)) := (k34 _ (z_ne a83 a31 rfl)).trans a83
        have a85 : f40 wiw = some (.inl (cy 2, 60, .inl gw)) := (k42 _ (z_ne a84 a39 rfl)).trans a84
        have a86 : f47 wiw = some (.inl (cy 2, 60, .inl gw)) := (k49 _ (z_ne a85 a43 rfl)).trans a85
        have a87 : f1 wli = some (.inl (cy 0, 60, .inl gl)) := k3 _ _ x_wli 
        have a88 : f12 wli = some (.inl (cy 0, 60, .inl gl)) := k16 _ _ a87 
        have a89 : f24 wli = some (.inl (cy 0, 60, .inl gl)) := (k26 _ (z_ne a88 a23 rfl)).trans a88
        have a90 : f32 wli = some (.inl (cy 0, 60, .inl gl)) := (k34 _ (z_ne a89 a31 rfl)).trans a89
        have a91 : f40 wli = some (.inl (cy 0, 60, .inl gl)) := (k42 _ (z_ne a90 a39 rfl)).trans a90
        have a92 : f47 wli = some (.inl (cy 0, 60, .inl gl)) := (k49 _ (z_ne a91 a43 rfl)).trans a91
        have a93 : f1 wha = some (.inl (cy 0, 60, .inl gh)) := k3 _ _ x_wha 
        have a94 : f12 wha = some (.inl (cy 0, 60, .inl gh)) := k16 _ _ a93 
        have a95 : f24 wha = some (.inl (cy 0, 60, .inl gh)) := (k26 _ (z_ne a94 a23 rfl)).trans a94
        have a96 : f32 wha = some (.inl (cy 0, 60, .inl gh)) := (k34 _ (z_ne a95 a31 rfl)).trans a95
        have a97 : f40 wha = some (.inl (cy 0, 60, .inl gh)) := (k42 _ (z_ne a96 a39 rfl)).trans a96
        have a98 : f47 wha = some (.inl (cy 0, 60, .inl gh)) := (k49 _ (z_ne a97 a43 rfl)).trans a97
        have a99 : f1 wwt = some (.inl (cy 1, 60, .inr (.inl gt))) := k3 _ _ x_wwt 
        have a100 : f12 wwt = some (.inl (cy 1, 60, .inr (.inl gt))) := k16 _ _ a99 
        have a101 : f24 wwt = some (.inl (cy 1, 60, .inr (.inl gt))) := (k26 _ (z_ne a100 a23 rfl)).trans a100
        have a102 : f32 wwt = some (.inl (cy 1, 60, .inr (.inl gt))) := (k34 _ (z_ne a101 a31 rfl)).trans a101
        have a103 : f40 wwt = some (.inl (cy 1, 60, .inr (.inl gt))) := (k42 _ (z_ne a102 a39 rfl)).trans a102
        have a104 : f47 wwt = some (.inl (cy 1, 60, .inr (.inl gt))) := (k49 _ (z_ne a103 a43 rfl)).trans a103
        have a105 : f1 wfy = some (.inl (cy 0, 6, .inl gy)) := k3 _ _ x_wfy 
        have a106 : f12 wfy = some (.inl (cy 0, 6, .inl gy)) := k16 _ _ a105 
        have a107 : f24 wfy = some (.inl (cy 0, 6, .inl gy)) := (k26 _ (z_ne a106 a23 rfl)).trans a106
        have a108 : f32 wfy = some (.inl (cy 0, 6, .inl gy)) := (k34 _ (z_ne a107 a31 rfl)).trans a107
        have a109 : f40 wfy = some (.inl (cy 0, 6, .inl gy)) := (k42 _ (z_ne a108 a39 rfl)).trans a108
        have a110 : f47 wfy = some (.inl (cy 0, 6, .inl gy)) := (k49 _ (z_ne a109 a43 rfl)).trans a109
        have a111 : f1 wfk = some (.inl (cy 0, 24, .inl gq)) := k3 _ _ x_wfk 
        have a112 : f12 wfk = some (.inl (cy 0, 24, .inl gq)) := k16 _ _ a111 
        have a113 : f24 wfk = some (.inl (cy 0, 24, .inl gq)) := (k26 _ (z_ne a112 a23 rfl)).trans a112
        have a114 : f32 wfk = some (.inl (cy 0, 24, .inl gq)) := (k34 _ (z_ne a113 a31 rfl)).trans a113
        have a115 : f40 wfk = some (.inl (cy 0, 24, .inl gq)) := (k42 _ (z_ne a114 a39 rfl)).trans a114
        have a116 : f47 wfk = some (.inl (cy 0, 24, .inl gq)) := (k49 _ (z_ne a115 a43 rfl)).trans a115
        have a117 : f24 wem = some (.inl (cy 0, 60, .inl ge1)) := (k26 _ (z_ne a22 a23 rfl)).trans a22
        have a118 : f32 wem = some (.inl (cy 0, 60, .inl ge1)) := (k34 _ (z_ne a117 a31 rfl)).trans a117
        have a119 : f40 wem = some (.inl (cy 0, 60, .inl ge1)) := (k42 _ (z_ne a118 a39 rfl)).trans a118
        have a120 : f47 wem = some (.inl (cy 0, 60, .inl ge1)) := (k49 _ (z_ne a119 a43 rfl)).trans a119
        have a121 : f32 wna = some (.inl (cy 0, 60, .inl gn1)) := (k34 _ (z_ne a29 a31 rfl)).trans a29
        have a122 : f40 wna = some (.inl (cy 0, 60, .inl gn1)) := (k42 _ (z_ne a121 a39 rfl)).trans a121
        have a123 : f47 wna = some (.inl (cy 0, 60, .inl gn1)) := (k49 _ (z_ne a122 a43 rfl)).trans a122
        have a124 : f1 wpl = some (.inl (cy 0, 60, .inl gp1)) := k3 _ _ x_wpl 
        have a125 : f12 wpl = some (.inl (cy 0, 60, .inl gp1)) := k16 _ _ a124 
        have a126 : f24 wpl = some (.inl (cy 0, 60, .inl gp1)) := (k26 _ (z_ne a125 a23 rfl)).trans a125
        have a127 : f32 wpl = some (.inl (cy 0, 60, .inl gp1)) := (k34 _ (z_ne a126 a31 rfl)).trans a126
        have a128 : f40 wpl = some (.inl (cy 0, 60, .inl gp1)) := (k42 _ (z_ne a127 a39 rfl)).trans a127
        have a129 : f47 wpl = some (.inl (cy 0, 60, .inl gp1)) := (k49 _ (z_ne a128 a43 rfl)).trans a128
        have a130 : f1 whs = some (.inl (cy 0, 4, .inl gs)) := k3 _ _ x_whs 
        have a131 : f12 whs = some (.inl (cy 0, 4, .inl gs)) := k16 _ _ a130 
        have a132 : f24 whs = some (.inl (cy 0, 4, .inl gs)) := (k26 _ (z_ne a131 a23 rfl)).trans a131
        have a133 : f32 whs = some (.inl (cy 0, 4, .inl gs)) := (k34 _ (z_ne a132 a31 rfl)).trans a132
        have a134 : f40 whs = some (.inl (cy 0, 4, .inl gs)) := (k42 _ (z_ne a133 a39 rfl)).trans a133
        have a135 : f47 whs = some (.inl (cy 0, 4, .inl gs)) := (k49 _ (z_ne a134 a43 rfl)).trans a134
        have a136 : f32 wk1 = some (.inl (cy 0, 40, .inl (upd gx1 ky (ge1 jc)))) := (k34 _ n_wk1_wk2).trans a25
        have a137 : f40 wk1 = some (.inl (cy 0, 40, .inl (upd gx1 ky (ge1 jc)))) := (k42 _ n_wk1_wk3).trans a136
        have a138 : f47 wk1 = some (.inl (cy 0, 40, .inl (upd gx1 ky (ge1 jc)))) := (k49 _ (z_ne a137 a43 rfl)).trans a137
        have a139 : f40 wk2 = some (.inl (cy 0, 40, .inl (upd gx2 ky (gn1 jc)))) := (k42 _ n_wk2_wk3).trans a33
        have a140 : f47 wk2 = some (.inl (cy 0, 40, .inl (upd gx2 ky (gn1 jc)))) := (k49 _ (z_ne a139 a43 rfl)).trans a139
        have a141 : f47 wk3 = some (.inl (cy 0, 40, .inl (upd gx3 ky y))) := (k49 _ (z_ne a41 a43 rfl)).trans a41
        exact z_iret C hr rfl hz hS ⟨u1, u2, u3, nl, nn, nf, nc, lk, (ks + 1), gv, gu, gk, gm, gc, gw, gl, gh, gt, gy, gq, ge1, gn1, gp1, gs, (upd gx1 ky (ge1 jc)), (upd gx2 ky (gn1 jc)), (upd gx3 ky y), ln, fz, sq, rfl, rfl, rfl, rfl, rfl, rfl, rfl, rfl, rfl, rfl, rfl, rfl, rfl, rfl, rfl, rfl, rfl, rfl, rfl, rfl, rfl, (Or.inl ⟨jc, hjc, hvc, ky, ⟨hky, hnky, hmky⟩, Or.inl ⟨by omega, (by first | rw [if_pos (by omega)] | rw [if_neg (by omega)]), (by first | rw [if_pos (by omega)] | rw [if_neg (by omega)]), rfl, rfl, rfl⟩⟩), ⟨a48, a56, a62, a68, a74, a80, a86, a92, a98, a104, a110, a116, a120, a123, a129, a135, a138, a140, a141, hn60, hl12, hf6, hc60, (by omega), hMP, hgy, hfz, hgs, hME, hlk, hgw, hfd, n_wki_wmy, n_wki_wiw, n_wki_wli, n_wki_wha, n_wki_wem, n_wki_wna, n_wki_wpl, n_wmy_wiw, n_wmy_wli, n_wmy_wha, n_wmy_wem, n_wmy_wna, n_wmy_wpl, n_wiw_wli, n_wiw_wha, n_wiw_wem, n_wiw_wna, n_wiw_wpl, n_wli_wha, n_wli_wem, n_wli_wna, n_wli_wpl, n_wha_wem, n_wha_wna, n_wha_wpl, n_wem_wna, n_wem_wpl, n_wna_wpl, n_wk1_wk2, n_wk1_wk3, n_wk2_wk3⟩⟩ (Nat.le_of_ble_eq_true rfl) (Nat.le_of_ble_eq_true rfl) dX8_put_101
      · replace c21 : ¬ (ks ≤ ky) := fun h => c21 ((nI_leI (a := ks) (b := ky) (by omega) (by omega)).mpr h)
        refine lv_iconst (v := 1) hx hb dX8_put_34 (by decide) ?_
        refine lv_goto (tgt := 39) hx hb dX8_put_35 (by decide) ?_
        refine lv_istore (lv' := [(4, .int 1), (3, .int (nI ky)), (0, .ref o), (1, .int x), (2, .int y)]) hx hb dX8_put_39 hl (by decide) rfl (fun ls hl => ?_)
        refine lv_aload_n hx hb dX8_put_41 rfl (lv_at hl 2 rfl) ?_
        refine z_get (v := .ref wk1) C hz a20 zl8 mFX8_65 (by decide) rfl dX8_put_42 ?_
        refine lv_iload_n hx hb dX8_put_45 rfl (lv_at hl 1 rfl) ?_
        refine lv_aload_n hx hb dX8_put_46 rfl (lv_at hl 2 rfl) ?_
        refine z_get (v := .ref wem) C hz a20 zl8 mFX8_49 (by decide) rfl dX8_put_47 ?_
        refine lv_iload_n hx hb dX8_put_50 rfl (lv_at hl 3 rfl) ?_
        have a142 : f12 wem = some (.inl (cy 0, 60, .inl ge1)) := k16 _ _ a8 
        refine z_iald jc C hz a142 hvc (by omega) (by omega) dX8_put_51 ?_
        have a143 : f12 wk1 = some (.inl (cy 0, 40, .inl gx1)) := k16 _ _ a10 
        refine z_iast ky C hz hS a143 rfl (by omega) (by omega) dX8_put_52 (fun H locs f144 a145 k146 hz hS => ?_)
        refine lv_aload_n hx hb dX8_put_53 rfl (lv_at hl 2 rfl) ?_
        have a147 : f144 o = some (.inr (8, [.int u1, .int u2, .int u3, .ref wev, .int (nI nl), .ref wnb, .int (nI nn), .ref wki, .ref wmy, .ref wce, .ref wiw, .ref wli, .ref wha, .ref wwt, .int (nI nf), .ref wfy, .ref wfk, .int (nI nc), .ref wem, .ref wna, .ref wpl, .ref whs, .long lk, .int (nI ks), .ref wk1, .ref wk2, .ref wk3])) := (k146 _ (z_ne a20 a143 rfl)).trans a20
        refine z_get (v := .ref wk2) C hz a147 zl8 mFX8_68 (by decide) rfl dX8_put_54 ?_
        refine lv_iload_n hx hb dX8_put_57 rfl (lv_at hl 1 rfl) ?_
        refine lv_aload_n hx hb dX8_put_58 rfl (lv_at hl 2 rfl) ?_
        refine z_get (v := .ref wna) C hz a147 zl8 mFX8_52 (by decide) rfl dX8_put_59 ?_
        refine lv_iload_n hx hb dX8_put_62 rfl (lv_at hl 3 rfl) ?_
        have a148 : f12 wna = some (.inl (cy 0, 60, .inl gn1)) := k16 _ _ a9 
        have a149 : f144 wna = some (.inl (cy 0, 60, .inl gn1)) := (k146 _ (z_ne a148 a143 rfl)).trans a148
        refine z_iald jc C hz a149 hvc (by omega) (by omega) dX8_put_63 ?_
        have a150 : f12 wk2 = some (.inl (cy 0, 40, .inl gx2)) := k16 _ _ a11 
        have a151 : f144 wk2 = some (.inl (cy 0, 40, .inl gx2)) := (k146 _ (Ne.symm n_wk1_wk2)).trans a150
        refine z_iast ky C hz hS a151 rfl (by omega) (by omega) dX8_put_64 (fun H locs f152 a153 k154 hz hS => ?_)
        refine lv_aload_n hx hb dX8_put_65 rfl (lv_at hl 2 rfl) ?_
        have a155 : f152 o = some (.inr (8, [.int u1, .int u2, .int u3, .ref wev, .int (nI nl), .ref wnb, .int (nI nn), .ref wki, .ref wmy, .ref wce, .ref wiw, .ref wli, .ref wha, .ref wwt, .int (nI nf), .ref wfy, .ref wfk, .int (nI nc), .ref wem, .ref wna, .ref wpl, .ref whs, .long lk, .int (nI ks), .ref wk1, .ref wk2, .ref wk3])) := (k154 _ (z_ne a147 a151 rfl)).trans a147
        refine z_get (v := .ref wk3) C hz a155 zl8 mFX8_71 (by decide) rfl dX8_put_66 ?_
        refine lv_iload_n hx hb dX8_put_69 rfl (lv_at hl 1 rfl) ?_
        refine lv_iload_n hx hb dX8_put_70 rfl (lv_at hl 4 rfl) ?_
        have a156 : f1 wk3 = some (.inl (cy 0, 40, .inl gx3)) := k3 _ _ x_wk3 
        have a157 : f12 wk3 = some (.inl (cy 0, 40, .inl gx3)) := k16 _ _ a156 
        have a158 : f144 wk3 = some (.inl (cy 0, 40, .inl gx3)) := (k146 _ (Ne.symm n_wk1_wk3)).trans a157
        have a159 : f152 wk3 = some (.inl (cy 0, 40, .inl gx3)) := (k154 _ (Ne.symm n_wk2_wk3)).trans a158
        refine z_iast ky C hz hS a159 rfl (by omega) (by omega) dX8_put_71 (fun H locs f160 a161 k162 hz hS => ?_)
        refine lv_aload_n hx hb dX8_put_72 rfl (lv_at hl 2 rfl) ?_
        refine lv_dup hx hb dX8_put_73 rfl ?_
        have a163 : f160 o = some (.inr (8, [.int u1, .int u2, .int u3, .ref wev, .int (nI nl), .ref wnb, .int (nI nn), .ref wki, .ref wmy, .ref wce, .ref wiw, .ref wli, .ref wha, .ref wwt, .int (nI nf), .ref wfy, .ref wfk, .int (nI nc), .ref wem, .ref wna, .ref wpl, .ref whs, .long lk, .int (nI ks), .ref wk1, .ref wk2, .ref wk3])) := (k162 _ (z_ne a155 a159 rfl)).trans a155
        refine z_get (v := .int (nI ks)) C hz a163 zl8 mFX8_213 (by decide) rfl dX8_put_74 ?_
        refine lv_iload hx hb dX8_put_77 (lv_at hl 0 rfl) ?_
        refine lv_if_eq (tgt := 86) hx hb dX8_put_79 (by decide) (fun c164 => ?_) (fun c164 => ?_)
        · exact absurd c164 (by decide)
        refine lv_iconst (v := 0) hx hb dX8_put_82 (by decide) ?_
        refine lv_goto (tgt := 87) hx hb dX8_put_83 (by decide) ?_
        refine lv_iadd hx hb dX8_put_87 ?_
        refine lv_topi (fun y165 e166 => ?_)
        obtain rfl : y165 = nI ks := e166.trans (Int32.add_zero _)
        refine z_put (fs' := [.int u1, .int u2, .int u3, .ref wev, .int (nI nl), .ref wnb, .int (nI nn), .ref wki, .ref wmy, .ref wce, .ref wiw, .ref wli, .ref wha, .ref wwt, .int (nI nf), .ref wfy, .ref wfk, .int (nI nc), .ref wem, .ref wna, .ref wpl, .ref whs, .long lk, .int (nI ks), .ref wk1, .ref wk2, .ref wk3]) C hz hS a163 zl8 mFX8_213 (by decide) rfl rfl rfl (Nat.le_of_ble_eq_true rfl) rfl dX8_put_88 (fun H locs f167 a168 k169 hz hS => ?_)
        refine lv_iload hx hb dX8_put_91 (lv_at hl 0 rfl) ?_
        refine lv_if_eq (tgt := 100) hx hb dX8_put_93 (by decide) (fun c170 => ?_) (fun c170 => ?_)
        · exact absurd c170 (by decide)
        refine lv_iconst (v := 1) hx hb dX8_put_96 (by decide) ?_
        refine lv_goto (tgt := 101) hx hb dX8_put_97 (by decide) ?_
        have a171 : f1 wev = some (.inl (cy 0, 8, .inl gv)) := k3 _ _ x_wev 
        have a172 : f12 wev = some (.inl (cy 0, 8, .inl gv)) := k16 _ _ a171 
        have a173 : f144 wev = some (.inl (cy 0, 8, .inl gv)) := (k146 _ (z_ne a172 a143 rfl)).trans a172
        have a174 : f152 wev = some (.inl (cy 0, 8, .inl gv)) := (k154 _ (z_ne a173 a151 rfl)).trans a173
        have a175 : f160 wev = some (.inl (cy 0, 8, .inl gv)) := (k162 _ (z_ne a174 a159 rfl)).trans a174
        have a176 : f167 wev = some (.inl (cy 0, 8, .inl gv)) := (k169 _ (z_ne a175 a163 rfl)).trans a175
        have a177 : f1 wnb = some (.inl (cy 0, 12, .inl gu)) := k3 _ _ x_wnb 
        have a178 : f12 wnb = some (.inl (cy 0, 12, .inl gu)) := k16 _ _ a177 
        have a179 : f144 wnb = some (.inl (cy 0, 12, .inl gu)) := (k146 _ (z_ne a178 a143 rfl)).trans a178
        have a180 : f152 wnb = some (.inl (cy 0, 12, .inl gu)) := (k154 _ (z_ne a179 a151 rfl)).trans a179
        have a181 : f160 wnb = some (.inl (cy 0, 12, .inl gu)) := (k162 _ (z_ne a180 a159 rfl)).trans a180
        have a182 : f167 wnb = some (.inl (cy 0, 12, .inl gu)) := (k169 _ (z_ne a181 a163 rfl)).trans a181
        have a183 : f1 wki = some (.inl (cy 0, 60, .inl gk)) := k3 _ _ x_wki 
        have a184 : f12 wki = some (.inl (cy 0, 60, .inl gk)) := k16 _ _ a183 
        have a185 : f144 wki = some (.inl (cy 0, 60, .inl gk)) := (k146 _ (z_ne a184 a143 rfl)).trans a184
        have a186 : f152 wki = some (.inl (cy 0, 60, .inl gk)) := (k154 _ (z_ne a185 a151 rfl)).trans a185
        have a187 : f160 wki = some (.inl (cy 0, 60, .inl gk)) := (k162 _ (z_ne a186 a159 rfl)).trans a186
        have a188 : f167 wki = some (.inl (cy 0, 60, .inl gk)) := (k169 _ (z_ne a187 a163 rfl)).trans a187
        have a189 : f1 wmy = some (.inl (cy 0, 60, .inl gm)) := k3 _ _ x_wmy 
        have a190 : f12 wmy = some (.inl (cy 0, 60, .inl gm)) := k16 _ _ a189 
        have a191 : f144 wmy = some (.inl (cy 0, 60, .inl gm)) := (k146 _ (z_ne a190 a143 rfl)).trans a190
        have a192 : f152 wmy = some (.inl (cy 0, 60, .inl gm)) := (k154 _ (z_ne a191 a151 rfl)).trans a191
        have a193 : f160 wmy = some (.inl (cy 0, 60, .inl gm)) := (k162 _ (z_ne a192 a159 rfl)).trans a192
        have a194 : f167 wmy = some (.inl (cy 0, 60, .inl gm)) := (k169 _ (z_ne a193 a163 rfl)).trans a193
        have a195 : f1 wce = some (.inl (cy 1, 960, .inr (.inl gc))) := k3 _ _ x_wce 
        have a196 : f12 wce = some (.inl (cy 1, 960, .inr (.inl gc))) := k16 _ _ a195 
        have a197 : f144 wce = some (.inl (cy 1, 960, .inr (.inl gc))) := (k146 _ (z_ne a196 a143 rfl)).trans a196
        have a198 : f152 wce = some (.inl (cy 1, 960, .inr (.inl gc))) := (k154 _ (z_ne a197 a151 rfl)).trans a197
        have a199 : f160 wce = some (.inl (cy 1, 960, .inr (.inl gc))) := (k162 _ (z_ne a198 a159 rfl)).trans a198
        have a200 : f167 wce = some (.inl (cy 1, 960, .inr (.inl gc))) := (k169 _ (z_ne a199 a163 rfl)).trans a199
        have a201 : f1 wiw = some (.inl (cy 2, 60, .inl gw)) := k3 _ _ x_wiw 
        have a202 : f12 wiw = some (.inl (cy 2, 60, .inl gw)) := k16 _ _ a201 
        have a203 : f144 wiw = some (.inl (cy 2, 60, .inl gw)) := (k146 _ (z_ne a202 a143 rfl)).trans a202
        have a204 : f152 wiw = some (.inl (cy 2, 60, .inl gw)) := (k154 _ (z_ne a203 a151 rfl)).trans a203
        have a205 : f160 wiw = some (.inl (cy 2, 60, .inl gw)) := (k162 _ (z_ne a204 a159 rfl)).trans a204
        have a206 : f167 wiw = some (.inl (cy 2, 60, .inl gw)) := (k169 _ (z_ne a205 a163 rfl)).trans a205
        have a207 : f1 wli = some (.inl (cy 0, 60, .inl gl)) := k3 _ _ x_wli 
        have a208 : f12 wli = some (.inl (cy 0, 60, .inl gl)) := k16 _ _ a207 
        have a209 : f144 wli = some (.inl (cy 0, 60, .inl gl)) := (k146 _ (z_ne a208 a143 rfl)).trans a208
        have a210 : f152 wli = some (.inl (cy 0, 60, .inl gl)) := (k154 _ (z_ne a209 a151 rfl)).trans a209
        have a211 : f160 wli = some (.inl (cy 0, 60, .inl gl)) := (k162 _ (z_ne a210 a159 rfl)).trans a210
        have a212 : f167 wli = some (.inl (cy 0, 60, .inl gl)) := (k169 _ (z_ne a211 a163 rfl)).trans a211
        have a213 : f1 wha = some (.inl (cy 0, 60, .inl gh)) := k3 _ _ x_wha 
        have a214 : f12 wha = some (.inl (cy 0, 60, .inl gh)) := k16 _ _ a213 
        have a215 : f144 wha = some (.inl (cy 0, 60, .inl gh)) := (k146 _ (z_ne a214 a143 rfl)).trans a214
        have a216 : f152 wha = some (.inl (cy 0, 60, .inl gh)) := (k154 _ (z_ne a215 a151 rfl)).trans a215
        have a217 : f160 wha = some (.inl (cy 0, 60, .inl gh)) := (k162 _ (z_ne a216 a159 rfl)).trans a216
        have a218 : f167 wha = some (.inl (cy 0, 60, .inl gh)) := (k169 _ (z_ne a217 a163 rfl)).trans a217
        have a219 : f1 wwt = some (.inl (cy 1, 60, .inr (.inl gt))) := k3 _ _ x_wwt 
        have a220 : f12 wwt = some (.inl (cy 1, 60, .inr (.inl gt))) := k16 _ _ a219 
        have a221 : f144 wwt = some (.inl (cy 1, 60, .inr (.inl gt))) := (k146 _ (z_ne a220 a143 rfl)).trans a220
        have a222 : f152 wwt = some (.inl (cy 1, 60, .inr (.inl gt))) := (k154 _ (z_ne a221 a151 rfl)).trans a221
        have a223 : f160 wwt = some (.inl (cy 1, 60, .inr (.inl gt))) := (k162 _ (z_ne a222 a159 rfl)).trans a222
        have a224 : f167 wwt = some (.inl (cy 1, 60, .inr (.inl gt))) := (k169 _ (z_ne a223 a163 rfl)).trans a223
        have a225 : f1 wfy = some (.inl (cy 0, 6, .inl gy)) := k3 _ _ x_wfy 
        have a226 : f12 wfy = some (.inl (cy 0, 6, .inl gy)) := k16 _ _ a225 
        have a227 : f144 wfy = some (.inl (cy 0, 6, .inl gy)) := (k146 _ (z_ne a226 a143 rfl)).trans a226
        have a228 : f152 wfy = some (.inl (cy 0, 6, .inl gy)) := (k154 _ (z_ne a227 a151 rfl)).trans a227
        have a229 : f160 wfy = some (.inl (cy 0, 6, .inl gy)) := (k162 _ (z_ne a228 a159 rfl)).trans a228
        have a230 : f167 wfy = some (.inl (cy 0, 6, .inl gy)) := (k169 _ (z_ne a229 a163 rfl)).trans a229
        have a231 : f1 wfk = some (.inl (cy 0, 24, .inl gq)) := k3 _ _ x_wfk 
        have a232 : f12 wfk = some (.inl (cy 0, 24, .inl gq)) := k16 _ _ a231 
        have a233 : f144 wfk = some (.inl (cy 0, 24, .inl gq)) := (k146 _ (z_ne a232 a143 rfl)).trans a232
        have a234 : f152 wfk = some (.inl (cy 0, 24, .inl gq)) := (k154 _ (z_ne a233 a151 rfl)).trans a233
        have a235 : f160 wfk = some (.inl (cy 0, 24, .inl gq)) := (k162 _ (z_ne a234 a159 rfl)).trans a234
        have a236 : f167 wfk = some (.inl (cy 0, 24, .inl gq)) := (k169 _ (z_ne a235 a163 rfl)).trans a235
        have a237 : f144 wem = some (.inl (cy 0, 60, .inl ge1)) := (k146 _ (z_ne a142 a143 rfl)).trans a142
        have a238 : f152 wem = some (.inl (cy 0, 60, .inl ge1)) := (k154 _ (z_ne a237 a151 rfl)).trans a237
        have a239 : f160 wem = some (.inl (cy 0, 60, .inl ge1)) := (k162 _ (z_ne a238 a159 rfl)).trans a238
        have a240 : f167 wem = some (.inl (cy 0, 60, .inl ge1)) := (k169 _ (z_ne a239 a163 rfl)).trans a239
        have a241 : f152 wna = some (.inl (cy 0, 60, .inl gn1)) := (k154 _ (z_ne a149 a151 rfl)).trans a149
        have a242 : f160 wna = some (.inl (cy 0, 60, .inl gn1)) := (k162 _ (z_ne a241 a159 rfl)).trans a241
        have a243 : f167 wna = some (.inl (cy 0, 60, .inl gn1)) := (k169 _ (z_ne a242 a163 rfl)).trans a242
        have a244 : f1 wpl = some (.inl (cy 0, 60, .inl gp1)) := k3 _ _ x_wpl 
        have a245 : f12 wpl = some (.inl (cy 0, 60, .inl gp1)) := k16 _ _ a244 
        have a246 : f144 wpl = some (.inl (cy 0, 60, .inl gp1)) := (k146 _ (z_ne a245 a143 rfl)).trans a245
        have a247 : f152 wpl = some (.inl (cy 0, 60, .inl gp1)) := (k154 _ (z_ne a246 a151 rfl)).trans a246
        have a248 : f160 wpl = some (.inl (cy 0, 60, .inl gp1)) := (k162 _ (z_ne a247 a159 rfl)).trans a247
        have a249 : f167 wpl = some (.inl (cy 0, 60, .inl gp1)) := (k169 _ (z_ne a248 a163 rfl)).trans a248
        have a250 : f1 whs = some (.inl (cy 0, 4, .inl gs)) := k3 _ _ x_whs 
        have a251 : f12 whs = some (.inl (cy 0, 4, .inl gs)) := k16 _ _ a250 
        have a252 : f144 whs = some (.inl (cy 0, 4, .inl gs)) := (k146 _ (z_ne a251 a143 rfl)).trans a251
        have a253 : f152 whs = some (.inl (cy 0, 4, .inl gs)) := (k154 _ (z_ne a252 a151 rfl)).trans a252
        have a254 : f160 whs = some (.inl (cy 0, 4, .inl gs)) := (k162 _ (z_ne a253 a159 rfl)).trans a253
        have a255 : f167 whs = some (.inl (cy 0, 4, .inl gs)) := (k169 _ (z_ne a254 a163 rfl)).trans a254
        have a256 : f152 wk1 = some (.inl (cy 0, 40, .inl (upd gx1 ky (ge1 jc)))) := (k154 _ n_wk1_wk2).trans a145
        have a257 : f160 wk1 = some (.inl (cy 0, 40, .inl (upd gx1 ky (ge1 jc)))) := (k162 _ n_wk1_wk3).trans a256
        have a258 : f167 wk1 = some (.inl (cy 0, 40, .inl (upd gx1 ky (ge1 jc)))) := (k169 _ (z_ne a257 a163 rfl)).trans a257
        have a259 : f160 wk2 = some (.inl (cy 0, 40, .inl (upd gx2 ky (gn1 jc)))) := (k162 _ n_wk2_wk3).trans a153
        have a260 : f167 wk2 = some (.inl (cy 0, 40, .inl (upd gx2 ky (gn1 jc)))) := (k169 _ (z_ne a259 a163 rfl)).trans a259
        have a261 : f167 wk3 = some (.inl (cy 0, 40, .inl (upd gx3 ky y))) := (k169 _ (z_ne a161 a163 rfl)).trans a161
        exact z_iret C hr rfl hz hS ⟨u1, u2, u3, nl, nn, nf, nc, lk, ks, gv, gu, gk, gm, gc, gw, gl, gh, gt, gy, gq, ge1, gn1, gp1, gs, (upd gx1 ky (ge1 jc)), (upd gx2 ky (gn1 jc)), (upd gx3 ky y), ln, fz, sq, rfl, rfl, rfl, rfl, rfl, rfl, rfl, rfl, rfl, rfl, rfl, rfl, rfl, rfl, rfl, rfl, rfl, rfl, rfl, rfl, rfl, (Or.inl ⟨jc, hjc, hvc, ky, ⟨hky, hnky, hmky⟩, Or.inl ⟨by omega, (by first | rw [if_pos (by omega)] | rw [if_neg (by omega)]), (by first | rw [if_pos (by omega)] | rw [if_neg (by omega)]), rfl, rfl, rfl⟩⟩), ⟨a168, a176, a182, a188, a194, a200, a206, a212, a218, a224, a230, a236, a240, a243, a249, a255, a258, a260, a261, hn60, hl12, hf6, hc60, hs40, hMP, hgy, hfz, hgs, hME, hlk, hgw, hfd, n_wki_wmy, n_wki_wiw, n_wki_wli, n_wki_wha, n_wki_wem, n_wki_wna, n_wki_wpl, n_wmy_wiw, n_wmy_wli, n_wmy_wha, n_wmy_wem, n_wmy_wna, n_wmy_wpl, n_wiw_wli, n_wiw_wha, n_wiw_wem, n_wiw_wna, n_wiw_wpl, n_wli_wha, n_wli_wem, n_wli_wna, n_wli_wpl, n_wha_wem, n_wha_wna, n_wha_wpl, n_wem_wna, n_wem_wpl, n_wna_wpl, n_wk1_wk2, n_wk1_wk3, n_wk2_wk3⟩⟩ (Nat.le_of_ble_eq_true rfl) (Nat.le_of_ble_eq_true rfl) dX8_put_101
    · replace c19 : (ky = 40) := (nI_eq (a := ky) (b := 40) (by omega) (by omega)).mp c19
      refine lv_bipush (v := (-3)) hx hb dX8_put_23 (by decide) ?_
      have a262 : f12 o = some (.inr (8, [.int u1, .int u2, .int u3, .ref wev, .int (nI nl), .ref wnb, .int (nI nn), .ref wki, .ref wmy, .ref wce, .ref wiw, .ref wli, .ref wha, .ref wwt, .int (nI nf), .ref wfy, .ref wfk, .int (nI nc), .ref wem, .ref wna, .ref wpl, .ref whs, .long lk, .int (nI ks), .ref wk1, .ref wk2, .ref wk3])) := k16 _ _ a7 
      have a263 : f1 wev = some (.inl (cy 0, 8, .inl gv)) := k3 _ _ x_wev 
      have a264 : f12 wev = some (.inl (cy 0, 8, .inl gv)) := k16 _ _ a263 
      have a265 : f1 wnb = some (.inl (cy 0, 12, .inl gu)) := k3 _ _ x_wnb 
      have a266 : f12 wnb = some (.inl (cy 0, 12, .inl gu)) := k16 _ _ a265 
      have a267 : f1 wki = some (.inl (cy 0, 60, .inl gk)) := k3 _ _ x_wki 
      have a268 : f12 wki = some (.inl (cy 0, 60, .inl gk)) := k16 _ _ a267 
      have a269 : f1 wmy = some (.inl (cy 0, 60, .inl gm)) := k3 _ _ x_wmy 
      have a270 : f12 wmy = some (.inl (cy 0, 60, .inl gm)) := k16 _ _ a269 
      have a271 : f1 wce = some (.inl (cy 1, 960, .inr (.inl gc))) := k3 _ _ x_wce 
      have a272 : f12 wce = some (.inl (cy 1, 960, .inr (.inl gc))) := k16 _ _ a271 
      have a273 : f1 wiw = some (.inl (cy 2, 60, .inl gw)) := k3 _ _ x_wiw 
      have a274 : f12 wiw = some (.inl (cy 2, 60, .inl gw)) := k16 _ _ a273 
      have a275 : f1 wli = some (.inl (cy 0, 60, .inl gl)) := k3 _ _ x_wli 
      have a276 : f12 wli = some (.inl (cy 0, 60, .inl gl)) := k16 _ _ a275 
      have a277 : f1 wha = some (.inl (cy 0, 60, .inl gh)) := k3 _ _ x_wha 
      have a278 : f12 wha = some (.inl (cy 0, 60, .inl gh)) := k16 _ _ a277 
      have a279 : f1 wwt = some (.inl (cy 1, 60, .inr (.inl gt))) := k3 _ _ x_wwt 
      have a280 : f12 wwt = some (.inl (cy 1, 60, .inr (.inl gt))) := k16 _ _ a279 
      have a281 : f1 wfy = some (.inl (cy 0, 6, .inl gy)) := k3 _ _ x_wfy 
      have a282 : f12 wfy = some (.inl (cy 0, 6, .inl gy)) := k16 _ _ a281 
      have a283 : f1 wfk = some (.inl (cy 0, 24, .inl gq)) := k3 _ _ x_wfk 
      have a284 : f12 wfk = some (.inl (cy 0, 24, .inl gq)) := k16 _ _ a283 
      have a285 : f12 wem = some (.inl (cy 0, 60, .inl ge1)) := k16 _ _ a8 
      have a286 : f12 wna = some (.inl (cy 0, 60, .inl gn1)) := k16 _ _ a9 
      have a287 : f1 wpl = some (.inl (cy 0, 60, .inl gp1)) := k3 _ _ x_wpl 
      have a288 : f12 wpl = some (.inl (cy 0, 60, .inl gp1)) := k16 _ _ a287 
      have a289 : f1 whs = some (.inl (cy 0, 4, .inl gs)) := k3 _ _ x_whs 
      have a290 : f12 whs = some (.inl (cy 0, 4, .inl gs)) := k16 _ _ a289 
      have a291 : f12 wk1 = some (.inl (cy 0, 40, .inl gx1)) := k16 _ _ a10 
      have a292 : f12 wk2 = some (.inl (cy 0, 40, .inl gx2)) := k16 _ _ a11 
      have a293 : f1 wk3 = some (.inl (cy 0, 40, .inl gx3)) := k3 _ _ x_wk3 
      have a294 : f12 wk3 = some (.inl (cy 0, 40, .inl gx3)) := k16 _ _ a293 
      exact z_iret C hr rfl hz hS ⟨u1, u2, u3, nl, nn, nf, nc, lk, ks, gv, gu, gk, gm, gc, gw, gl, gh, gt, gy, gq, ge1, gn1, gp1, gs, gx1, gx2, gx3, ln, fz, sq, rfl, rfl, rfl, rfl, rfl, rfl, rfl, rfl, rfl, rfl, rfl, rfl, rfl, rfl, rfl, rfl, rfl, rfl, rfl, rfl, rfl, (Or.inl ⟨jc, hjc, hvc, ky, ⟨hky, hnky, hmky⟩, Or.inr ⟨by omega, rfl, rfl, rfl, rfl, rfl⟩⟩), ⟨a262, a264, a266, a268, a270, a272, a274, a276, a278, a280, a282, a284, a285, a286, a288, a290, a291, a292, a294, hn60, hl12, hf6, hc60, hs40, hMP, hgy, hfz, hgs, hME, hlk, hgw, hfd, n_wki_wmy, n_wki_wiw, n_wki_wli, n_wki_wha, n_wki_wem, n_wki_wna, n_wki_wpl, n_wmy_wiw, n_wmy_wli, n_wmy_wha, n_wmy_wem, n_wmy_wna, n_wmy_wpl, n_wiw_wli, n_wiw_wha, n_wiw_wem, n_wiw_wna, n_wiw_wpl, n_wli_wha, n_wli_wem, n_wli_wna, n_wli_wpl, n_wha_wem, n_wha_wna, n_wha_wpl, n_wem_wna, n_wem_wpl, n_wna_wpl, n_wk1_wk2, n_wk1_wk3, n_wk2_wk3⟩⟩ (Nat.le_of_ble_eq_true rfl) (Nat.le_of_ble_eq_true rfl) dX8_put_25
  · refine z_callVi (As := [.int x]) C hz hS hA hl (k_X8_isConstant_B l D cy f o wev wnb wki wmy wce wiw wli wha wwt wfy wfk wem wna wpl whs wk1 wk2 wk3 u1 u2 u3 nl nn nf nc lk ks x x_o hc60 hvc) zyX8_isConstant mMX8_202 x_o zl8 rfl rfl (Nat.le_of_ble_eq_true rfl) ⟨Nat.le_of_ble_eq_true rfl, Nat.le_of_ble_eq_true rfl⟩ ⟨Nat.le_of_ble_eq_true rfl, Nat.le_of_ble_eq_true rfl⟩ dX8_put_2 (fun r f295 H locs h296 hz hS => ?_)
    obtain ⟨rfl, k297⟩ := h296
    refine lv_if_ne (tgt := 11) hx hb dX8_put_5 (by decide) (fun c298 => ?_) (fun c298 => ?_)
    · exact absurd c298 (by decide)
    refine lv_bipush (v := (-2)) hx hb dX8_put_8 (by decide) ?_
    have a299 : f295 o = some (.inr (8, [.int u1, .int u2, .int u3, .ref wev, .int (nI nl), .ref wnb, .int (nI nn), .ref wki, .ref wmy, .ref wce, .ref wiw, .ref wli, .ref wha, .ref wwt, .int (nI nf), .ref wfy, .ref wfk, .int (nI nc), .ref wem, .ref wna, .ref wpl, .ref whs, .long lk, .int (nI ks), .ref wk1, .ref wk2, .ref wk3])) := k297 _ _ x_o 
    have a300 : f295 wev = some (.inl (cy 0, 8, .inl gv)) := k297 _ _ x_wev 
    have a301 : f295 wnb = some (.inl (cy 0, 12, .inl gu)) := k297 _ _ x_wnb 
    have a302 : f295 wki = some (.inl (cy 0, 60, .inl gk)) := k297 _ _ x_wki 
    have a303 : f295 wmy = some (.inl (cy 0, 60, .inl gm)) := k297 _ _ x_wmy 
    have a304 : f295 wce = some (.inl (cy 1, 960, .inr (.inl gc))) := k297 _ _ x_wce 
    have a305 : f295 wiw = some (.inl (cy 2, 60, .inl gw)) := k297 _ _ x_wiw 
    have a306 : f295 wli = some (.inl (cy 0, 60, .inl gl)) := k297 _ _ x_wli 
    have a307 : f295 wha = some (.inl (cy 0, 60, .inl gh)) := k297 _ _ x_wha 
    have a308 : f295 wwt = some (.inl (cy 1, 60, .inr (.inl gt))) := k297 _ _ x_wwt 
    have a309 : f295 wfy = some (.inl (cy 0, 6, .inl gy)) := k297 _ _ x_wfy 
    have a310 : f295 wfk = some (.inl (cy 0, 24, .inl gq)) := k297 _ _ x_wfk 
    have a311 : f295 wem = some (.inl (cy 0, 60, .inl ge1)) := k297 _ _ x_wem 
    have a312 : f295 wna = some (.inl (cy 0, 60, .inl gn1)) := k297 _ _ x_wna 
    have a313 : f295 wpl = some (.inl (cy 0, 60, .inl gp1)) := k297 _ _ x_wpl 
    have a314 : f295 whs = some (.inl (cy 0, 4, .inl gs)) := k297 _ _ x_whs 
    have a315 : f295 wk1 = some (.inl (cy 0, 40, .inl gx1)) := k297 _ _ x_wk1 
    have a316 : f295 wk2 = some (.inl (cy 0, 40, .inl gx2)) := k297 _ _ x_wk2 
    have a317 : f295 wk3 = some (.inl (cy 0, 40, .inl gx3)) := k297 _ _ x_wk3 
    exact z_iret C hr rfl hz hS ⟨u1, u2, u3, nl, nn, nf, nc, lk, ks, gv, gu, gk, gm, gc, gw, gl, gh, gt, gy, gq, ge1, gn1, gp1, gs, gx1, gx2, gx3, ln, fz, sq, rfl, rfl, rfl, rfl, rfl, rfl, rfl, rfl, rfl, rfl, rfl, rfl, rfl, rfl, rfl, rfl, rfl, rfl, rfl, rfl, rfl, (Or.inr ⟨hvc, rfl, rfl, rfl, rfl, rfl⟩), ⟨a299, a300, a301, a302, a303, a304, a305, a306, a307, a308, a309, a310, a311, a312, a313, a314, a315, a316, a317, hn60, hl12, hf6, hc60, hs40, hMP, hgy, hfz, hgs, hME, hlk, hgw, hfd, n_wki_wmy, n_wki_wiw, n_wki_wli, n_wki_wha, n_wki_wem, n_wki_wna, n_wki_wpl, n_wmy_wiw, n_wmy_wli, n_wmy_wha, n_wmy_wem, n_wmy_wna, n_wmy_wpl, n_wiw_wli, n_wiw_wha, n_wiw_wem, n_wiw_wna, n_wiw_wpl, n_wli_wha, n_wli_wem, n_wli_wna, n_wli_wpl, n_wha_wem, n_wha_wna, n_wha_wpl, n_wem_wna, n_wem_wpl, n_wna_wpl, n_wk1_wk2, n_wk1_wk3, n_wk2_wk3⟩⟩ (Nat.le_of_ble_eq_true rfl) (Nat.le_of_ble_eq_true rfl) dX8_put_10
abbrev rmX8_get : Room := { frames := 1, cells := 0, slots := 0, locals := 22 }
set_option maxHeartbeats 4000000 in
set_option maxRecDepth 100000 in
theorem k_X8_get (l : Launch) (D : va_G) (cy : Nat → ClassId) (f : zM) (o : Nat) (wev : Nat) (wnb : Nat) (wki : Nat) (wmy : Nat) (wce : Nat) (wiw : Nat) (wli : Nat) (wha : Nat) (wwt : Nat) (wfy : Nat) (wfk : Nat) (wem : Nat) (wna : Nat) (wpl : Nat) (whs : Nat) (wk1 : Nat) (wk2 : Nat) (wk3 : Nat) (u1 : Int32) (u2 : Int32) (u3 : Int32) (nl : Nat) (nn : Nat) (nf : Nat) (nc : Nat) (lk : Int64) (ks : Nat) (gv : Nat → Int32) (gu : Nat → Int32) (gk : Nat → Int32) (gm : Nat → Int32) (gc : Nat → Int64) (gw : Nat → Int32) (gl : Nat → Int32) (gh : Nat → Int32) (gt : Nat → Int64) (gy : Nat → Int32) (gq : Nat → Int32) (ge1 : Nat → Int32) (gn1 : Nat → Int32) (gp1 : Nat → Int32) (gs : Nat → Int32) (gx1 : Nat → Int32) (gx2 : Nat → Int32) (gx3 : Nat → Int32) (ln : Nat → Nat) (fz : Nat → Nat) (sq : Nat → Nat) (x : Int32)    (hI : zIM cy f o wev wnb wki wmy wce wiw wli wha wwt wfy wfk wem wna wpl whs wk1 wk2 wk3 u1 u2 u3 nl nn nf nc lk ks gv gu gk gm gc gw gl gh gt gy gq ge1 gn1 gp1 gs gx1 gx2 gx3 ln fz sq) : zCi l D cy yX8_get cX8_get 2 (Option.some Jvm.ClassFile.FieldType.int) rmX8_get [.ref o, .int x] f (fun (r : Int32) (f1 : zM) => ∃ (u11 : Int32) (u21 : Int32) (u31 : Int32) (nl1 : Nat) (nn1 : Nat) (nf1 : Nat) (nc1 : Nat) (lk1 : Int64) (ks1 : Nat) (gv1 : Nat → Int32) (gu1 : Nat → Int32) (gk1 : Nat → Int32) (gm1 : Nat → Int32) (gc1 : Nat → Int64) (gw1 : Nat → Int32) (gl1 : Nat → Int32) (gh1 : Nat → Int32) (gt1 : Nat → Int64) (gy1 : Nat → Int32) (gq1 : Nat → Int32) (ge11 : Nat → Int32) (gn11 : Nat → Int32) (gp11 : Nat → Int32) (gs1 : Nat → Int32) (gx11 : Nat → Int32) (gx21 : Nat → Int32) (gx31 : Nat → Int32) (ln1 : Nat → Nat) (fz1 : Nat → Nat) (sq1 : Nat → Nat), (u11 = u1) ∧ (u21 = u2) ∧ (u31 = u3) ∧ (gv1 = gv) ∧ (nl1 = nl) ∧ (gu1 = gu) ∧ (nn1 = nn) ∧ (gk1 = gk) ∧ (ln1 = ln) ∧ (gw1 = gw) ∧ (gh1 = gh) ∧ (gc1 = gc) ∧ (nf1 = nf) ∧ (fz1 = fz) ∧ (gq1 = gq) ∧ (nc1 = nc) ∧ (ge11 = ge1) ∧ (gn11 = gn1) ∧ (gp11 = gp1) ∧ (sq1 = sq) ∧ (ks1 = ks) ∧ (gx11 = gx1) ∧ (gx21 = gx2) ∧ (gx31 = gx3) ∧ (lk1 = lk) ∧ (zYG nc x ge1 gn1 ks gx1 gx2 gx3 r) ∧ zIM cy f1 o wev wnb wki wmy wce wiw wli wha wwt wfy wfk wem wna wpl whs wk1 wk2 wk3 u11 u21 u31 nl1 nn1 nf1 nc1 lk1 ks1 gv1 gu1 gk1 gm1 gc1 gw1 gl1 gh1 gt1 gy1 gq1 ge11 gn11 gp11 gs1 gx11 gx21 gx31 ln1 fz1 sq1) := by
  intro sz
  refine z_body (by decide +kernel) (Nat.le_of_ble_eq_true rfl) ?_
  intro p e s m below meth c ls C hr hin hsz hz hl
  subst hsz
  have hx := C.1
  have hb := C.2.1
  have hA : ∀ q, s.heap.size ≤ q → zA f s.heap.size q := fun q h => Or.inr h
  have hS : va_S (zA f s.heap.size) s.heap s.heap [] := va_S.rf
  have hl : lv_has ls 2 [(0, .ref o), (1, .int x)] := hl
  obtain ⟨x_o, x_wev, x_wnb, x_wki, x_wmy, x_wce, x_wiw, x_wli, x_wha, x_wwt, x_wfy, x_wfk, x_wem, x_wna, x_wpl, x_whs, x_wk1, x_wk2, x_wk3, hn60, hl12, hf6, hc60, hs40, hMP, hgy, hfz, hgs, hME, hlk, hgw, hfd, n_wki_wmy, n_wki_wiw, n_wki_wli, n_wki_wha, n_wki_wem, n_wki_wna, n_wki_wpl, n_wmy_wiw, n_wmy_wli, n_wmy_wha, n_wmy_wem, n_wmy_wna, n_wmy_wpl, n_wiw_wli, n_wiw_wha, n_wiw_wem, n_wiw_wna, n_wiw_wpl, n_wli_wha, n_wli_wem, n_wli_wna, n_wli_wpl, n_wha_wem, n_wha_wna, n_wha_wpl, n_wem_wna, n_wem_wpl, n_wna_wpl, n_wk1_wk2, n_wk1_wk3, n_wk2_wk3⟩ := id hI
  refine lv_aload_n hx hb dX8_get_0 rfl (lv_at hl 0 rfl) ?_
  refine lv_iload_n hx hb dX8_get_1 rfl (lv_at hl 1 rfl) ?_
  rcases z_findi x nc with ⟨jc, hjc, hvc⟩ | hvc
  · refine z_callVi (As := [.int x]) C hz hS hA hl (k_X8_isConstant_A l D cy f o wev wnb wki wmy wce wiw wli wha wwt wfy wfk wem wna wpl whs wk1 wk2 wk3 u1 u2 u3 nl nn nf nc lk ks x jc x_o hc60 hvc hjc) zyX8_isConstant mMX8_202 x_o zl8 rfl rfl (Nat.le_of_ble_eq_true rfl) ⟨Nat.le_of_ble_eq_true rfl, Nat.le_of_ble_eq_true rfl⟩ ⟨Nat.le_of_ble_eq_true rfl, Nat.le_of_ble_eq_true rfl⟩ dX8_get_2 (fun r f1 H locs h2 hz hS => ?_)
    obtain ⟨rfl, k3⟩ := h2
    refine lv_if_eq (tgt := 33) hx hb dX8_get_5 (by decide) (fun c4 => ?_) (fun c4 => ?_)
    · exact absurd c4 (by decide)
    refine lv_aload_n hx hb dX8_get_8 rfl (lv_at hl 0 rfl) ?_
    refine lv_iload_n hx hb dX8_get_9 rfl (lv_at hl 1 rfl) ?_
    refine lv_topi (fun y5 e6 => ?_)
    obtain rfl : y5 = nI jc := e6.trans hvc
    have a7 : f1 o = some (.inr (8, [.int u1, .int u2, .int u3, .ref wev, .int (nI nl), .ref wnb, .int (nI nn), .ref wki, .ref wmy, .ref wce, .ref wiw, .ref wli, .ref wha, .ref wwt, .int (nI nf), .ref wfy, .ref wfk, .int (nI nc), .ref wem, .ref wna, .ref wpl, .ref whs, .long lk, .int (nI ks), .ref wk1, .ref wk2, .ref wk3])) := k3 _ _ x_o 
    have a8 : f1 wem = some (.inl (cy 0, 60, .inl ge1)) := k3 _ _ x_wem 
    have a9 : f1 wna = some (.inl (cy 0, 60, .inl gn1)) := k3 _ _ x_wna 
    have a10 : f1 wk1 = some (.inl (cy 0, 40, .inl gx1)) := k3 _ _ x_wk1 
    have a11 : f1 wk2 = some (.inl (cy 0, 40, .inl gx2)) := k3 _ _ x_wk2 
    refine z_callVi (As := [.int (nI jc)]) C hz hS hA hl (k_X8_keyOf l D cy f1 o wev wnb wki wmy wce wiw wli wha wwt wfy wfk wem wna wpl whs wk1 wk2 wk3 u1 u2 u3 nl nn nf nc lk ks ge1 gn1 gx1 gx2 jc a7 a8 a9 a10 a11 hs40 (by omega)) zyX8_keyOf mMX8_216 a7 zl8 rfl rfl (Nat.le_of_ble_eq_true rfl) ⟨Nat.le_of_ble_eq_true rfl, Nat.le_of_ble_eq_true rfl⟩ ⟨Nat.le_of_ble_eq_true rfl, Nat.le_of_ble_eq_true rfl⟩ dX8_get_10 (fun r14 f12 H locs h13 hz hS => ?_)
    obtain ⟨pq15, k16⟩ := h13
    obtain ⟨ky, hky, hrky, hnky, hmky⟩ := pq15
    refine lv_topi (fun y17 e18 => ?_)
    obtain rfl : y17 = nI ky := e18.trans hrky
    refine lv_aload_n hx hb dX8_get_13 rfl (lv_at hl 0 rfl) ?_
    have a19 : f12 o = some (.inr (8, [.int u1, .int u2, .int u3, .ref wev, .int (nI nl), .ref wnb, .int (nI nn), .ref wki, .ref wmy, .ref wce, .ref wiw, .ref wli, .ref wha, .ref wwt, .int (nI nf), .ref wfy, .ref wfk, .int (nI nc), .ref wem, .ref wna, .ref wpl, .ref whs, .long lk, .int (nI ks), .ref wk1, .ref wk2, .ref wk3])) := k16 _ _ a7 
    refine z_get (v := .int (nI ks)) C hz a19 zl8 mFX8_213 (by decide) rfl dX8_get_14 ?_
    refine lv_icmp_ge (tgt := 33) hx hb dX8_get_17 (by decide) (fun c20 => ?_) (fun c20 => ?_)
    · replace c20 : (ks ≤ ky) := (nI_leI (a := ks) (b := ky) (by omega) (by omega)).mp c20
      refine lv_iconst (v := 0) hx hb dX8_get_33 (by decide) ?_
      have a21 : f1 wev = some (.inl (cy 0, 8, .inl gv)) := k3 _ _ x_wev 
      have a22 : f12 wev = some (.inl (cy 0, 8, .inl gv)) := k16 _ _ a21 
      have a23 : f1 wnb = some (.inl (cy 0, 12, .inl gu)) := k3 _ _ x_wnb 
      have a24 : f12 wnb = some (.inl (cy 0, 12, .inl gu)) := k16 _ _ a23 
      have a25 : f1 wki = some (.inl (cy 0, 60, .inl gk)) := k3 _ _ x_wki 
      have a26 : f12 wki = some (.inl (cy 0, 60, .inl gk)) := k16 _ _ a25 
      have a27 : f1 wmy = some (.inl (cy 0, 60, .inl gm)) := k3 _ _ x_wmy 
      have a28 : f12 wmy = some (.inl (cy 0, 60, .inl gm)) := k16 _ _ a27 
      have a29 : f1 wce = some (.inl (cy 1, 960, .inr (.inl gc))) := k3 _ _ x_wce 
      have a30 : f12 wce = some (.inl (cy 1, 960, .inr (.inl gc))) := k16 _ _ a29 
      have a31 : f1 wiw = some (.inl (cy 2, 60, .inl gw)) := k3 _ _ x_wiw 
      have a32 : f12 wiw = some (.inl (cy 2, 60, .inl gw)) := k16 _ _ a31 
      have a33 : f1 wli = some (.inl (cy 0, 60, .inl gl)) := k3 _ _ x_wli 
      have a34 : f12 wli = some (.inl (cy 0, 60, .inl gl)) := k16 _ _ a33 
      have a35 : f1 wha = some (.inl (cy 0, 60, .inl gh)) := k3 _ _ x_wha 
      have a36 : f12 wha = some (.inl (cy 0, 60, .inl gh)) := k16 _ _ a35 
      have a37 : f1 wwt = some (.inl (cy 1, 60, .inr (.inl gt))) := k3 _ _ x_wwt 
      have a38 : f12 wwt = some (.inl (cy 1, 60, .inr (.inl gt))) := k16 _ _ a37 
      have a39 : f1 wfy = some (.inl (cy 0, 6, .inl gy)) := k3 _ _ x_wfy 
      have a40 : f12 wfy = some (.inl (cy 0, 6, .inl gy)) := k16 _ _ a39 
      have a41 : f1 wfk = some (.inl (cy 0, 24, .inl gq)) := k3 _ _ x_wfk 
      have a42 : f12 wfk = some (.inl (cy 0, 24, .inl gq)) := k16 _ _ a41 
      have a43 : f12 wem = some (.inl (cy 0, 60, .inl ge1)) := k16 _ _ a8 
      have a44 : f12 wna = some (.inl (cy 0, 60, .inl gn1)) := k16 _ _ a9 
      have a45 : f1 wpl = some (.inl (cy 0, 60, .inl gp1)) := k3 _ _ x_wpl 
      have a46 : f12 wpl = some (.inl (cy 0, 60, .inl gp1)) := k16 _ _ a45 
      have a47 : f1 whs = some (.inl (cy 0, 4, .inl gs)) := k3 _ _ x_whs 
      have a48 : f12 whs = some (.inl (cy 0, 4, .inl gs)) := k16 _ _ a47 
      have a49 : f12 wk1 = some (.inl (cy 0, 40, .inl gx1)) := k16 _ _ a10 
      have a50 : f12 wk2 = some (.inl (cy 0, 40, .inl gx2)) := k16 _ _ a11 
      have a51 : f1 wk3 = some (.inl (cy 0, 40, .inl gx3)) := k3 _ _ x_wk3 
      have a52 : f12 wk3 = some (.inl (cy 0, 40, .inl gx3)) := k16 _ _ a51 
      exact z_iret C hr rfl hz hS ⟨u1, u2, u3, nl, nn, nf, nc, lk, ks, gv, gu, gk, gm, gc, gw, gl, gh, gt, gy, gq, ge1, gn1, gp1, gs, gx1, gx2, gx3, ln, fz, sq, rfl, rfl, rfl, rfl, rfl, rfl, rfl, rfl, rfl, rfl, rfl, rfl, rfl, rfl, rfl, rfl, rfl, rfl, rfl, rfl, rfl, rfl, rfl, rfl, rfl, (Or.inl ⟨jc, hjc, hvc, ky, ⟨hky, hnky, hmky⟩, by rw [if_neg (by omega)]⟩), ⟨a19, a22, a24, a26, a28, a30, a32, a34, a36, a38, a40, a42, a43, a44, a46, a48, a49, a50, a52, hn60, hl12, hf6, hc60, hs40, hMP, hgy, hfz, hgs, hME, hlk, hgw, hfd, n_wki_wmy, n_wki_wiw, n_wki_wli, n_wki_wha, n_wki_wem, n_wki_wna, n_wki_wpl, n_wmy_wiw, n_wmy_wli, n_wmy_wha, n_wmy_wem, n_wmy_wna, n_wmy_wpl, n_wiw_wli, n_wiw_wha, n_wiw_wem, n_wiw_wna, n_wiw_wpl, n_wli_wha, n_wli_wem, n_wli_wna, n_wli_wpl, n_wha_wem, n_wha_wna, n_wha_wpl, n_wem_wna, n_wem_wpl, n_wna_wpl, n_wk1_wk2, n_wk1_wk3, n_wk2_wk3⟩⟩ (Nat.le_of_ble_eq_true rfl) (Nat.le_of_ble_eq_true rfl) dX8_get_34
    · replace c20 : ¬ (ks ≤ ky) := fun h => c20 ((nI_leI (a := ks) (b := ky) (by omega) (by omega)).mpr h)
      refine lv_aload_n hx hb dX8_get_20 rfl (lv_at hl 0 rfl) ?_
      refine z_get (v := .ref wk3) C hz a19 zl8 mFX8_71 (by decide) rfl dX8_get_21 ?_
      refine lv_aload_n hx hb dX8_get_24 rfl (lv_at hl 0 rfl) ?_
      refine lv_iload_n hx hb dX8_get_25 rfl (lv_at hl 1 rfl) ?_
      refine lv_topi (fun y53 e54 => ?_)
      obtain rfl : y53 = nI jc := e54.trans hvc
      have a55 : f12 wem = some (.inl (cy 0, 60, .inl ge1)) := k16 _ _ a8 
      have a56 : f12 wna = some (.inl (cy 0, 60, .inl gn1)) := k16 _ _ a9 
      have a57 : f12 wk1 = some (.inl (cy 0, 40, .inl gx1)) := k16 _ _ a10 
      have a58 : f12 wk2 = some (.inl (cy 0, 40, .inl gx2)) := k16 _ _ a11 
      refine z_callVi (As := [.int (nI jc)]) C hz hS hA hl (k_X8_keyOf l D cy f12 o wev wnb wki wmy wce wiw wli wha wwt wfy wfk wem wna wpl whs wk1 wk2 wk3 u1 u2 u3 nl nn nf nc lk ks ge1 gn1 gx1 gx2 jc a19 a55 a56 a57 a58 hs40 (by omega)) zyX8_keyOf mMX8_216 a19 zl8 rfl rfl (Nat.le_of_ble_eq_true rfl) ⟨Nat.le_of_ble_eq_true rfl, Nat.le_of_ble_eq_true rfl⟩ ⟨Nat.le_of_ble_eq_true rfl, Nat.le_of_ble_eq_true rfl⟩ dX8_get_26 (fun r61 f59 H locs h60 hz hS => ?_)
      obtain ⟨pq62, k63⟩ := h60
      obtain ⟨kw, hkw, hrkw, hnkw, hmkw⟩ := pq62
      refine lv_topi (fun y64 e65 => ?_)
      obtain rfl : y64 = nI kw := e65.trans hrkw
      have hkk := z_key (Nat.not_le.mp c20) hmky hnkw
      have a66 : f1 wk3 = some (.inl (cy 0, 40, .inl gx3)) := k3 _ _ x_wk3 
      have a67 : f12 wk3 = some (.inl (cy 0, 40, .inl gx3)) := k16 _ _ a66 
      have a68 : f59 wk3 = some (.inl (cy 0, 40, .inl gx3)) := k63 _ _ a67 
      refine z_iald kw C hz a68 rfl (by omega) (by omega) dX8_get_29 ?_
      refine lv_goto (tgt := 34) hx hb dX8_get_30 (by decide) ?_
      have a69 : f59 o = some (.inr (8, [.int u1, .int u2, .int u3, .ref wev, .int (nI nl), .ref wnb, .int (nI nn), .ref wki, .ref wmy, .ref wce, .ref wiw, .ref wli, .ref wha, .ref wwt, .int (nI nf), .ref wfy, .ref wfk, .int (nI nc), .ref wem, .ref wna, .ref wpl, .ref whs, .long lk, .int (nI ks), .ref wk1, .ref wk2, .ref wk3])) := k63 _ _ a19 
      have a70 : f1 wev = some (.inl (cy 0, 8, .inl gv)) := k3 _ _ x_wev 
      have a71 : f12 wev = some (.inl (cy 0, 8, .inl gv)) := k16 _ _ a70 
      have a72 : f59 wev = some (.inl (cy 0, 8, .inl gv)) := k63 _ _ a71 
      have a73 : f1 wnb = some (.inl (cy 0, 12, .inl gu)) := k3 _ _ x_wnb 
      have a74 : f12 wnb = some (.inl (cy 0, 12, .inl gu)) := k16 _ _ a73 
      have a75 : f59 wnb = some (.inl (cy 0, 12, .inl gu)) := k63 _ _ a74 
      have a76 : f1 wki = some (.inl (cy 0, 60, .inl gk)) := k3 _ _ x_wki 
      have a77 : f12 wki = some (.inl (cy 0, 60, .inl gk)) := k16 _ _ a76 
      have a78 : f59 wki = some (.inl (cy 0, 60, .inl gk)) := k63 _ _ a77 
      have a79 : f1 wmy = some (.inl (cy 0, 60, .inl gm)) := k3 _ _ x_wmy 
      have a80 : f12 wmy = some (.inl (cy 0, 60, .inl gm)) := k16 _ _ a79 
      have a81 : f59 wmy = some (.inl (cy 0, 60, .inl gm)) := k63 _ _ a80 
      have a82 : f1 wce = some (.inl (cy 1, 960, .inr (.inl gc))) := k3 _ _ x_wce 
      have a83 : f12 wce = some (.inl (cy 1, 960, .inr (.inl gc))) := k16 _ _ a82 
      have a84 : f59 wce = some (.inl (cy 1, 960, .inr (.inl gc))) := k63 _ _ a83 
      have a85 : f1 wiw = some (.inl (cy 2, 60, .inl gw)) := k3 _ _ x_wiw 
      have a86 : f12 wiw = some (.inl (cy 2, 60, .inl gw)) := k16 _ _ a85 
      have a87 : f59 wiw = some (.inl (cy 2, 60, .inl gw)) := k63 _ _ a86 
      have a88 : f1 wli = some (.inl (cy 0, 60, .inl gl)) := k3 _ _ x_wli 
      have a89 : f12 wli = some (.inl (cy 0, 60, .inl gl)) := k16 _ _ a88 
      have a90 : f59 wli = some (.inl (cy 0, 60, .inl gl)) := k63 _ _ a89 
      have a91 : f1 wha = some (.inl (cy 0, 60, .inl gh)) := k3 _ _ x_wha 
      have a92 : f12 wha = some (.inl (cy 0, 60, .inl gh)) := k16 _ _ a91 
      have a93 : f59 wha = some (.inl (cy 0, 60, .inl gh)) := k63 _ _ a92 
      have a94 : f1 wwt = some (.inl (cy 1, 60, .inr (.inl gt))) := k3 _ _ x_wwt 
      have a95 : f12 wwt = some (.inl (cy 1, 60, .inr (.inl gt))) := k16 _ _ a94 
      have a96 : f59 wwt = some (.inl (cy 1, 60, .inr (.inl gt))) := k63 _ _ a95 
      have a97 : f1 wfy = some (.inl (cy 0, 6, .inl gy)) := k3 _ _ x_wfy 
      have a98 : f12 wfy = some (.inl (cy 0, 6, .inl gy)) := k16 _ _ a97 
      have a99 : f59 wfy = some (.inl (cy 0, 6, .inl gy)) := k63 _ _ a98 
      have a100 : f1 wfk = some (.inl (cy 0, 24, .inl gq)) := k3 _ _ x_wfk 
      have a101 : f12 wfk = some (.inl (cy 0, 24, .inl gq)) := k16 _ _ a100 
      have a102 : f59 wfk = some (.inl (cy 0, 24, .inl gq)) := k63 _ _ a101 
      have a103 : f59 wem = some (.inl (cy 0, 60, .inl ge1)) := k63 _ _ a55 
      have a104 : f59 wna = some (.inl (cy 0, 60, .inl gn1)) := k63 _ _ a56 
      have a105 : f1 wpl = some (.inl (cy 0, 60, .inl gp1)) := k3 _ _ x_wpl 
      have a106 : f12 wpl = some (.inl (cy 0, 60, .inl gp1)) := k16 _ _ a105 
      have a107 : f59 wpl = some (.inl (cy 0, 60, .inl gp1)) := k63 _ _ a106 
      have a108 : f1 whs = some (.inl (cy 0, 4, .inl gs)) := k3 _ _ x_whs 
      have a109 : f12 whs = some (.inl (cy 0, 4, .inl gs)) := k16 _ _ a108 
      have a110 : f59 whs = some (.inl (cy 0, 4, .inl gs)) := k63 _ _ a109 
      have a111 : f59 wk1 = some (.inl (cy 0, 40, .inl gx1)) := k63 _ _ a57 
      have a112 : f59 wk2 = some (.inl (cy 0, 40, .inl gx2)) := k63 _ _ a58 
      exact z_iret C hr rfl hz hS ⟨u1, u2, u3, nl, nn, nf, nc, lk, ks, gv, gu, gk, gm, gc, gw, gl, gh, gt, gy, gq, ge1, gn1, gp1, gs, gx1, gx2, gx3, ln, fz, sq, rfl, rfl, rfl, rfl, rfl, rfl, rfl, rfl, rfl, rfl, rfl, rfl, rfl, rfl, rfl, rfl, rfl, rfl, rfl, rfl, rfl, rfl, rfl, rfl, rfl, (Or.inl ⟨jc, hjc, hvc, kw, ⟨hkw, hnkw, hmkw⟩, by rw [if_pos (by omega)]⟩), ⟨a69, a72, a75, a78, a81, a84, a87, a90, a93, a96, a99, a102, a103, a104, a107, a110, a111, a112, a68, hn60, hl12, hf6, hc60, hs40, hMP, hgy, hfz, hgs, hME, hlk, hgw, hfd, n_wki_wmy, n_wki_wiw, n_wki_wli, n_wki_wha, n_wki_wem, n_wki_wna, n_wki_wpl, n_wmy_wiw, n_wmy_wli, n_wmy_wha, n_wmy_wem, n_wmy_wna, n_wmy_wpl, n_wiw_wli, n_wiw_wha, n_wiw_wem, n_wiw_wna, n_wiw_wpl, n_wli_wha, n_wli_wem, n_wli_wna, n_wli_wpl, n_wha_wem, n_wha_wna, n_wha_wpl, n_wem_wna, n_wem_wpl, n_wna_wpl, n_wk1_wk2, n_wk1_wk3, n_wk2_wk3⟩⟩ (Nat.le_of_ble_eq_true rfl) (Nat.le_of_ble_eq_true rfl) dX8_get_34
  · refine z_callVi (As := [.int x]) C hz hS hA hl (k_X8_isConstant_B l D cy f o wev wnb wki wmy wce wiw wli wha wwt wfy wfk wem wna wpl whs wk1 wk2 wk3 u1 u2 u3 nl nn nf nc lk ks x x_o hc60 hvc) zyX8_isConstant mMX8_202 x_o zl8 rfl rfl (Nat.le_of_ble_eq_true rfl) ⟨Nat.le_of_ble_eq_true rfl, Nat.le_of_ble_eq_true rfl⟩ ⟨Nat.le_of_ble_eq_true rfl, Nat.le_of_ble_eq_true rfl⟩ dX8_get_2 (fun r f113 H locs h114 hz hS => ?_)
    obtain ⟨rfl, k115⟩ := h114
    refine lv_if_eq (tgt := 33) hx hb dX8_get_5 (by decide) (fun c116 => ?_) (fun c116 => ?_)
    rotate_left
    · exact absurd c116 (by decide)
    refine lv_iconst (v := 0) hx hb dX8_get_33 (by decide) ?_
    have a117 : f113 o = some (.inr (8, [.int u1, .int u2, .int u3, .ref wev, .int (nI nl), .ref wnb, .int (nI nn), .ref wki, .ref wmy, .ref wce, .ref wiw, .ref wli, .ref wha, .ref wwt, .int (nI nf), .ref wfy, .ref wfk, .int (nI nc), .ref wem, .ref wna, .ref wpl, .ref whs, .long lk, .int (nI ks), .ref wk1, .ref wk2, .ref wk3])) := k115 _ _ x_o 
    have a118 : f113 wev = some (.inl (cy 0, 8, .inl gv)) := k115 _ _ x_wev 
    have a119 : f113 wnb = some (.inl (cy 0, 12, .inl gu)) := k115 _ _ x_wnb 
    have a120 : f113 wki = some (.inl (cy 0, 60, .inl gk)) := k115 _ _ x_wki 
    have a121 : f113 wmy = some (.inl (cy 0, 60, .inl gm)) := k115 _ _ x_wmy 
    have a122 : f113 wce = some (.inl (cy 1, 960, .inr (.inl gc))) := k115 _ _ x_wce 
    have a123 : f113 wiw = some (.inl (cy 2, 60, .inl gw)) := k115 _ _ x_wiw 
    have a124 : f113 wli = some (.inl (cy 0, 60, .inl gl)) := k115 _ _ x_wli 
    have a125 : f113 wha = some (.inl (cy 0, 60, .inl gh)) := k115 _ _ x_wha 
    have a126 : f113 wwt = some (.inl (cy 1, 60, .inr (.inl gt))) := k115 _ _ x_wwt 
    have a127 : f113 wfy = some (.inl (cy 0, 6, .inl gy)) := k115 _ _ x_wfy 
    have a128 : f113 wfk = some (.inl (cy 0, 24, .inl gq)) := k115 _ _ x_wfk 
    have a129 : f113 wem = some (.inl (cy 0, 60, .inl ge1)) := k115 _ _ x_wem 
    have a130 : f113 wna = some (.inl (cy 0, 60, .inl gn1)) := k115 _ _ x_wna 
    have a131 : f113 wpl = some (.inl (cy 0, 60, .inl gp1)) := k115 _ _ x_wpl 
    have a132 : f113 whs = some (.inl (cy 0, 4, .inl gs)) := k115 _ _ x_whs 
    have a133 : f113 wk1 = some (.inl (cy 0, 40, .inl gx1)) := k115 _ _ x_wk1 
    have a134 : f113 wk2 = some (.inl (cy 0, 40, .inl gx2)) := k115 _ _ x_wk2 
    have a135 : f113 wk3 = some (.inl (cy 0, 40, .inl gx3)) := k115 _ _ x_wk3 
    exact z_iret C hr rfl hz hS ⟨u1, u2, u3, nl, nn, nf, nc, lk, ks, gv, gu, gk, gm, gc, gw, gl, gh, gt, gy, gq, ge1, gn1, gp1, gs, gx1, gx2, gx3, ln, fz, sq, rfl, rfl, rfl, rfl, rfl, rfl, rfl, rfl, rfl, rfl, rfl, rfl, rfl, rfl, rfl, rfl, rfl, rfl, rfl, rfl, rfl, rfl, rfl, rfl, rfl, (Or.inr ⟨hvc, rfl⟩), ⟨a117, a118, a119, a120, a121, a122, a123, a124, a125, a126, a127, a128, a129, a130, a131, a132, a133, a134, a135, hn60, hl12, hf6, hc60, hs40, hMP, hgy, hfz, hgs, hME, hlk, hgw, hfd, n_wki_wmy, n_wki_wiw, n_wki_wli, n_wki_wha, n_wki_wem, n_wki_wna, n_wki_wpl, n_wmy_wiw, n_wmy_wli, n_wmy_wha, n_wmy_wem, n_wmy_wna, n_wmy_wpl, n_wiw_wli, n_wiw_wha, n_wiw_wem, n_wiw_wna, n_wiw_wpl, n_wli_wha, n_wli_wem, n_wli_wna, n_wli_wpl, n_wha_wem, n_wha_wna, n_wha_wpl, n_wem_wna, n_wem_wpl, n_wna_wpl, n_wk1_wk2, n_wk1_wk3, n_wk2_wk3⟩⟩ (Nat.le_of_ble_eq_true rfl) (Nat.le_of_ble_eq_true rfl) dX8_get_34
abbrev rmX8_count : Room := { frames := 0, cells := 0, slots := 0, locals := 0 }
set_option maxHeartbeats 4000000 in
set_option maxRecDepth 100000 in
theorem k_X8_count (l : Launch) (D : va_G) (cy : Nat → ClassId) (f : zM) (o : Nat) (wev : Nat) (wnb : Nat) (wki : Nat) (wmy : Nat) (wce : Nat) (wiw : Nat) (wli : Nat) (wha : Nat) (wwt : Nat) (wfy : Nat) (wfk : Nat) (wem : Nat) (wna : Nat) (wpl : Nat) (whs : Nat) (wk1 : Nat) (wk2 : Nat) (wk3 : Nat) (u1 : Int32) (u2 : Int32) (u3 : Int32) (nl : Nat) (nn : Nat) (nf : Nat) (nc : Nat) (lk : Int64) (ks : Nat) (gv : Nat → Int32) (gu : Nat → Int32) (gk : Nat → Int32) (gm : Nat → Int32) (gc : Nat → Int64) (gw : Nat → Int32) (gl : Nat → Int32) (gh : Nat → Int32) (gt : Nat → Int64) (gy : Nat → Int32) (gq : Nat → Int32) (ge1 : Nat → Int32) (gn1 : Nat → Int32) (gp1 : Nat → Int32) (gs : Nat → Int32) (gx1 : Nat → Int32) (gx2 : Nat → Int32) (gx3 : Nat → Int32) (ln : Nat → Nat) (fz : Nat → Nat) (sq : Nat → Nat) (x : Int32)    (hI : zIM cy f o wev wnb wki wmy wce wiw wli wha wwt wfy wfk wem wna wpl whs wk1 wk2 wk3 u1 u2 u3 nl nn nf nc lk ks gv gu gk gm gc gw gl gh gt gy gq ge1 gn1 gp1 gs gx1 gx2 gx3 ln fz sq) : zCi l D cy yX8_count cX8_count 2 (Option.some Jvm.ClassFile.FieldType.int) rmX8_count [.ref o, .int x] f (fun (r : Int32) (f1 : zM) => ∃ (u11 : Int32) (u21 : Int32) (u31 : Int32) (nl1 : Nat) (nn1 : Nat) (nf1 : Nat) (nc1 : Nat) (lk1 : Int64) (ks1 : Nat) (gv1 : Nat → Int32) (gu1 : Nat → Int32) (gk1 : Nat → Int32) (gm1 : Nat → Int32) (gc1 : Nat → Int64) (gw1 : Nat → Int32) (gl1 : Nat → Int32) (gh1 : Nat → Int32) (gt1 : Nat → Int64) (gy1 : Nat → Int32) (gq1 : Nat → Int32) (ge11 : Nat → Int32) (gn11 : Nat → Int32) (gp11 : Nat → Int32) (gs1 : Nat → Int32) (gx11 : Nat → Int32) (gx21 : Nat → Int32) (gx31 : Nat → Int32) (ln1 : Nat → Nat) (fz1 : Nat → Nat) (sq1 : Nat → Nat), r = (q_count nn nl nf ks sq gv x) ∧ (u11 = u1) ∧ (u21 = u2) ∧ (u31 = u3) ∧ (gv1 = gv) ∧ (nl1 = nl) ∧ (gu1 = gu) ∧ (nn1 = nn) ∧ (gk1 = gk) ∧ (ln1 = ln) ∧ (gw1 = gw) ∧ (gh1 = gh) ∧ (gc1 = gc) ∧ (nf1 = nf) ∧ (fz1 = fz) ∧ (gq1 = gq) ∧ (nc1 = nc) ∧ (ge11 = ge1) ∧ (gn11 = gn1) ∧ (gp11 = gp1) ∧ (sq1 = sq) ∧ (ks1 = ks) ∧ (gx11 = gx1) ∧ (gx21 = gx2) ∧ (gx31 = gx3) ∧ (lk1 = lk) ∧ zIM cy f1 o wev wnb wki wmy wce wiw wli wha wwt wfy wfk wem wna wpl whs wk1 wk2 wk3 u11 u21 u31 nl1 nn1 nf1 nc1 lk1 ks1 gv1 gu1 gk1 gm1 gc1 gw1 gl1 gh1 gt1 gy1 gq1 ge11 gn11 gp11 gs1 gx11 gx21 gx31 ln1 fz1 sq1) := by
  intro sz
  refine z_body (by decide +kernel) (Nat.le_of_ble_eq_true rfl) ?_
  intro p e s m below meth c ls C hr hin hsz hz hl
  subst hsz
  have hx := C.1
  have hb := C.2.1
  have hA : ∀ q, s.heap.size ≤ q → zA f s.heap.size q := fun q h => Or.inr h
  have hS : va_S (zA f s.heap.size) s.heap s.heap [] := va_S.rf
  have hl : lv_has ls 2 [(0, .ref o), (1, .int x)] := hl
  obtain ⟨x_o, x_wev, x_wnb, x_wki, x_wmy, x_wce, x_wiw, x_wli, x_wha, x_wwt, x_wfy, x_wfk, x_wem, x_wna, x_wpl, x_whs, x_wk1, x_wk2, x_wk3, hn60, hl12, hf6, hc60, hs40, hMP, hgy, hfz, hgs, hME, hlk, hgw, hfd, n_wki_wmy, n_wki_wiw, n_wki_wli, n_wki_wha, n_wki_wem, n_wki_wna, n_wki_wpl, n_wmy_wiw, n_wmy_wli, n_wmy_wha, n_wmy_wem, n_wmy_wna, n_wmy_wpl, n_wiw_wli, n_wiw_wha, n_wiw_wem, n_wiw_wna, n_wiw_wpl, n_wli_wha, n_wli_wem, n_wli_wna, n_wli_wpl, n_wha_wem, n_wha_wna, n_wha_wpl, n_wem_wna, n_wem_wpl, n_wna_wpl, n_wk1_wk2, n_wk1_wk3, n_wk2_wk3⟩ := id hI
  refine lv_iload_n hx hb dX8_count_0 rfl (lv_at hl 1 rfl) ?_
  refine lv_bipush (v := 11) hx hb dX8_count_1 (by decide) ?_
  refine lv_icmp_lt (tgt := 22) hx hb dX8_count_3 (by decide) (fun c1 => ?_) (fun c1 => ?_)
  · refine lv_iload_n hx hb dX8_count_22 rfl (lv_at hl 1 rfl) ?_
    by_cases c2_0 : x = 0
    · refine lv_tableIn (off := 33) (tgt := 56) hx hb dX8_count_23 (by rw [c2_0]; decide) (by rw [c2_0]; decide) (by rw [c2_0]; decide) (by decide) ?_
      refine lv_aload_n hx hb dX8_count_56 rfl (lv_at hl 0 rfl) ?_
      refine z_get (v := .int (nI nn)) C hz x_o zl8 mFX8_83 (by decide) rfl dX8_count_57 ?_
      exact z_iret C hr rfl hz hS ⟨u1, u2, u3, nl, nn, nf, nc, lk, ks, gv, gu, gk, gm, gc, gw, gl, gh, gt, gy, gq, ge1, gn1, gp1, gs, gx1, gx2, gx3, ln, fz, sq, (by simp [q_count, hgs 0 (by decide), hgs 1 (by decide), hgs 2 (by decide), hgs 3 (by decide), c1, c2_0]), rfl, rfl, rfl, rfl, rfl, rfl, rfl, rfl, rfl, rfl, rfl, rfl, rfl, rfl, rfl, rfl, rfl, rfl, rfl, rfl, rfl, rfl, rfl, rfl, rfl, ⟨x_o, x_wev, x_wnb, x_wki, x_wmy, x_wce, x_wiw, x_wli, x_wha, x_wwt, x_wfy, x_wfk, x_wem, x_wna, x_wpl, x_whs, x_wk1, x_wk2, x_wk3, hn60, hl12, hf6, hc60, hs40, hMP, hgy, hfz, hgs, hME, hlk, hgw, hfd, n_wki_wmy, n_wki_wiw, n_wki_wli, n_wki_wha, n_wki_wem, n_wki_wna, n_wki_wpl, n_wmy_wiw, n_wmy_wli, n_wmy_wha, n_wmy_wem, n_wmy_wna, n_wmy_wpl, n_wiw_wli, n_wiw_wha, n_wiw_wem, n_wiw_wna, n_wiw_wpl, n_wli_wha, n_wli_wem, n_wli_wna, n_wli_wpl, n_wha_wem, n_wha_wna, n_wha_wpl, n_wem_wna, n_wem_wpl, n_wna_wpl, n_wk1_wk2, n_wk1_wk3, n_wk2_wk3⟩⟩ (Nat.le_of_ble_eq_true rfl) (Nat.le_of_ble_eq_true rfl) dX8_count_60
    by_cases c2_1 : x = 1
    · refine lv_tableIn (off := 38) (tgt := 61) hx hb dX8_count_23 (by rw [c2_1]; decide) (by rw [c2_1]; decide) (by rw [c2_1]; decide) (by decide) ?_
      refine lv_aload_n hx hb dX8_count_61 rfl (lv_at hl 0 rfl) ?_
      refine z_get (v := .int (nI nl)) C hz x_o zl8 mFX8_80 (by decide) rfl dX8_count_62 ?_
      exact z_iret C hr rfl hz hS ⟨u1, u2, u3, nl, nn, nf, nc, lk, ks, gv, gu, gk, gm, gc, gw, gl, gh, gt, gy, gq, ge1, gn1, gp1, gs, gx1, gx2, gx3, ln, fz, sq, (by simp [q_count, hgs 0 (by decide), hgs 1 (by decide), hgs 2 (by decide), hgs 3 (by decide), c1, c2_1, c2_0]), rfl, rfl, rfl, rfl, rfl, rfl, rfl, rfl, rfl, rfl, rfl, rfl, rfl, rfl, rfl, rfl, rfl, rfl, rfl, rfl, rfl, rfl, rfl, rfl, rfl, ⟨x_o, x_wev, x_wnb, x_wki, x_wmy, x_wce, x_wiw, x_wli, x_wha, x_wwt, x_wfy, x_wfk, x_wem, x_wna, x_wpl, x_whs, x_wk1, x_wk2, x_wk3, hn60, hl12, hf6, hc60, hs40, hMP, hgy, hfz, hgs, hME, hlk, hgw, hfd, n_wki_wmy, n_wki_wiw, n_wki_wli, n_wki_wha, n_wki_wem, n_wki_wna, n_wki_wpl, n_wmy_wiw, n_wmy_wli, n_wmy_wha, n_wmy_wem, n_wmy_wna, n_wmy_wpl, n_wiw_wli, n_wiw_wha, n_wiw_wem, n_wiw_wna, n_wiw_wpl, n_wli_wha, n_wli_wem, n_wli_wna, n_wli_wpl, n_wha_wem, n_wha_wna, n_wha_wpl, n_wem_wna, n_wem_wpl, n_wna_wpl, n_wk1_wk2, n_wk1_wk3, n_wk2_wk3⟩⟩ (Nat.le_of_ble_eq_true rfl) (Nat.le_of_ble_eq_true rfl) dX8_count_65
    by_cases c2_2 : x = 2
    · refine lv_tableIn (off := 43) (tgt := 66) hx hb dX8_count_23 (by rw [c2_2]; decide) (by rw [c2_2]; decide) (by rw [c2_2]; decide) (by decide) ?_
      refine lv_aload_n hx hb dX8_count_66 rfl (lv_at hl 0 rfl) ?_
      refine z_get (v := .int (nI nf)) C hz x_o zl8 mFX8_187 (by decide) rfl dX8_count_67 ?_
      exact z_iret C hr rfl hz hS ⟨u1, u2, u3, nl, nn, nf, nc, lk, ks, gv, gu, gk, gm, gc, gw, gl, gh, gt, gy, gq, ge1, gn1, gp1, gs, gx1, gx2, gx3, ln, fz, sq, (by simp [q_count, hgs 0 (by decide), hgs 1 (by decide), hgs 2 (by decide), hgs 3 (by decide), c1, c2_2, c2_0, c2_1]), rfl, rfl, rfl, rfl, rfl, rfl, rfl, rfl, rfl, rfl, rfl, rfl, rfl, rfl, rfl, rfl, rfl, rfl, rfl, rfl, rfl, rfl, rfl, rfl, rfl, ⟨x_o, x_wev, x_wnb, x_wki, x_wmy, x_wce, x_wiw, x_wli, x_wha, x_wwt, x_wfy, x_wfk, x_wem, x_wna, x_wpl, x_whs, x_wk1, x_wk2, x_wk3, hn60, hl12, hf6, hc60, hs40, hMP, hgy, hfz, hgs, hME, hlk, hgw, hfd, n_wki_wmy, n_wki_wiw, n_wki_wli, n_wki_wha, n_wki_wem, n_wki_wna, n_wki_wpl, n_wmy_wiw, n_wmy_wli, n_wmy_wha, n_wmy_wem, n_wmy_wna, n_wmy_wpl, n_wiw_wli, n_wiw_wha, n_wiw_wem, n_wiw_wna, n_wiw_wpl, n_wli_wha, n_wli_wem, n_wli_wna, n_wli_wpl, n_wha_wem, n_wha_wna, n_wha_wpl, n_wem_wna, n_wem_wpl, n_wna_wpl, n_wk1_wk2, n_wk1_wk3, n_wk2_wk3⟩⟩ (Nat.le_of_ble_eq_true rfl) (Nat.le_of_ble_eq_true rfl) dX8_count_70
    by_cases c2_3 : x = 3
    · refine lv_tableIn (off := 48) (tgt := 71) hx hb dX8_count_23 (by rw [c2_3]; decide) (by rw [c2_3]; decide) (by rw [c2_3]; decide) (by decide) ?_
      refine lv_aload_n hx hb dX8_count_71 rfl (lv_at hl 0 rfl) ?_
      refine z_get (v := .ref whs) C hz x_o zl8 mFX8_58 (by decide) rfl dX8_count_72 ?_
      refine lv_iconst (v := 0) hx hb dX8_count_75 (by decide) ?_
      refine z_iald 0 C hz x_whs (by decide) (Nat.le_of_ble_eq_true rfl) (by omega) dX8_count_76 ?_
      refine lv_aload_n hx hb dX8_count_77 rfl (lv_at hl 0 rfl) ?_
      refine z_get (v := .ref whs) C hz x_o zl8 mFX8_58 (by decide) rfl dX8_count_78 ?_
      refine lv_iconst (v := 1) hx hb dX8_count_81 (by decide) ?_
      refine z_iald 1 C hz x_whs (by decide) (Nat.le_of_ble_eq_true rfl) (by omega) dX8_count_82 ?_
      refine lv_iadd hx hb dX8_count_83 ?_
      refine lv_aload_n hx hb dX8_count_84 rfl (lv_at hl 0 rfl) ?_
      refine z_get (v := .ref whs) C hz x_o zl8 mFX8_58 (by decide) rfl dX8_count_85 ?_
      refine lv_iconst (v := 2) hx hb dX8_count_88 (by decide) ?_
      refine z_iald 2 C hz x_whs (by decide) (Nat.le_of_ble_eq_true rfl) (by omega) dX8_count_89 ?_
      refine lv_iadd hx hb dX8_count_90 ?_
      refine lv_aload_n hx hb dX8_count_91 rfl (lv_at hl 0 rfl) ?_
      refine z_get (v := .ref whs) C hz x_o zl8 mFX8_58 (by decide) rfl dX8_count_92 ?_
      refine lv_iconst (v := 3) hx hb dX8_count_95 (by decide) ?_
      refine z_iald 3 C hz x_whs (by decide) (Nat.le_of_ble_eq_true rfl) (by omega) dX8_count_96 ?_
      refine lv_iadd hx hb dX8_count_97 ?_
      exact z_iret C hr rfl hz hS ⟨u1, u2, u3, nl, nn, nf, nc, lk, ks, gv, gu, gk, gm, gc, gw, gl, gh, gt, gy, gq, ge1, gn1, gp1, gs, gx1, gx2, gx3, ln, fz, sq, (by simp [q_count, hgs 0 (by decide), hgs 1 (by decide), hgs 2 (by decide), hgs 3 (by decide), c1, c2_3, c2_0, c2_1, c2_2]), rfl, rfl, rfl, rfl, rfl, rfl, rfl, rfl, rfl, rfl, rfl, rfl, rfl, rfl, rfl, rfl, rfl, rfl, rfl, rfl, rfl, rfl, rfl, rfl, rfl, ⟨x_o, x_wev, x_wnb, x_wki, x_wmy, x_wce, x_wiw, x_wli, x_wha, x_wwt, x_wfy, x_wfk, x_wem, x_wna, x_wpl, x_whs, x_wk1, x_wk2, x_wk3, hn60, hl12, hf6, hc60, hs40, hMP, hgy, hfz, hgs, hME, hlk, hgw, hfd, n_wki_wmy, n_wki_wiw, n_wki_wli, n_wki_wha, n_wki_wem, n_wki_wna, n_wki_wpl, n_wmy_wiw, n_wmy_wli, n_wmy_wha, n_wmy_wem, n_wmy_wna, n_wmy_wpl, n_wiw_wli, n_wiw_wha, n_wiw_wem, n_wiw_wna, n_wiw_wpl, n_wli_wha, n_wli_wem, n_wli_wna, n_wli_wpl, n_wha_wem, n_wha_wna, n_wha_wpl, n_wem_wna, n_wem_wpl, n_wna_wpl, n_wk1_wk2, n_wk1_wk3, n_wk2_wk3⟩⟩ (Nat.le_of_ble_eq_true rfl) (Nat.le_of_ble_eq_true rfl) dX8_count_98
    by_cases c2_4 : x = 4
    · refine lv_tableIn (off := 76) (tgt := 99) hx hb dX8_count_23 (by rw [c2_4]; decide) (by rw [c2_4]; decide) (by rw [c2_4]; decide) (by decide) ?_
      refine lv_aload_n hx hb dX8_count_99 rfl (lv_at hl 0 rfl) ?_
      refine z_get (v := .int (nI ks)) C hz x_o zl8 mFX8_213 (by decide) rfl dX8_count_100 ?_
      exact z_iret C hr rfl hz hS ⟨u1, u2, u3, nl, nn, nf, nc, lk, ks, gv, gu, gk, gm, gc, gw, gl, gh, gt, gy, gq, ge1, gn1, gp1, gs, gx1, gx2, gx3, ln, fz, sq, (by simp [q_count, hgs 0 (by decide), hgs 1 (by decide), hgs 2 (by decide), hgs 3 (by decide), c1, c2_4, c2_0, c2_1, c2_2, c2_3]), rfl, rfl, rfl, rfl, rfl, rfl, rfl, rfl, rfl, rfl, rfl, rfl, rfl, rfl, rfl, rfl, rfl, rfl, rfl, rfl, rfl, rfl, rfl, rfl, rfl, ⟨x_o, x_wev, x_wnb, x_wki, x_wmy, x_wce, x_wiw, x_wli, x_wha, x_wwt, x_wfy, x_wfk, x_wem, x_wna, x_wpl, x_whs, x_wk1, x_wk2, x_wk3, hn60, hl12, hf6, hc60, hs40, hMP, hgy, hfz, hgs, hME, hlk, hgw, hfd, n_wki_wmy, n_wki_wiw, n_wki_wli, n_wki_wha, n_wki_wem, n_wki_wna, n_wki_wpl, n_wmy_wiw, n_wmy_wli, n_wmy_wha, n_wmy_wem, n_wmy_wna, n_wmy_wpl, n_wiw_wli, n_wiw_wha, n_wiw_wem, n_wiw_wna, n_wiw_wpl, n_wli_wha, n_wli_wem, n_wli_wna, n_wli_wpl, n_wha_wem, n_wha_wna, n_wha_wpl, n_wem_wna, n_wem_wpl, n_wna_wpl, n_wk1_wk2, n_wk1_wk3, n_wk2_wk3⟩⟩ (Nat.le_of_ble_eq_true rfl) (Nat.le_of_ble_eq_true rfl) dX8_count_103
    refine lv_tableOut (tgt := 104) hx hb dX8_count_23 (by have t0 := lv_neT c2_0 (a := 0) (by decide); have t1 := lv_neT c2_1 (a := 1) (by decide); have t2 := lv_neT c2_2 (a := 2) (by decide); have t3 := lv_neT c2_3 (a := 3) (by decide); have t4 := lv_neT c2_4 (a := 4) (by decide);  omega) (by decide) ?_
    refine lv_bipush (v := (-2)) hx hb dX8_count_104 (by decide) ?_
    exact z_iret C hr rfl hz hS ⟨u1, u2, u3, nl, nn, nf, nc, lk, ks, gv, gu, gk, gm, gc, gw, gl, gh, gt, gy, gq, ge1, gn1, gp1, gs, gx1, gx2, gx3, ln, fz, sq, (by simp [q_count, hgs 0 (by decide), hgs 1 (by decide), hgs 2 (by decide), hgs 3 (by decide), c1, c2_0, c2_1, c2_2, c2_3, c2_4]), rfl, rfl, rfl, rfl, rfl, rfl, rfl, rfl, rfl, rfl, rfl, rfl, rfl, rfl, rfl, rfl, rfl, rfl, rfl, rfl, rfl, rfl, rfl, rfl, rfl, ⟨x_o, x_wev, x_wnb, x_wki, x_wmy, x_wce, x_wiw, x_wli, x_wha, x_wwt, x_wfy, x_wfk, x_wem, x_wna, x_wpl, x_whs, x_wk1, x_wk2, x_wk3, hn60, hl12, hf6, hc60, hs40, hMP, hgy, hfz, hgs, hME, hlk, hgw, hfd, n_wki_wmy, n_wki_wiw, n_wki_wli, n_wki_wha, n_wki_wem, n_wki_wna, n_wki_wpl, n_wmy_wiw, n_wmy_wli, n_wmy_wha, n_wmy_wem, n_wmy_wna, n_wmy_wpl, n_wiw_wli, n_wiw_wha, n_wiw_wem, n_wiw_wna, n_wiw_wpl, n_wli_wha, n_wli_wem, n_wli_wna, n_wli_wpl, n_wha_wem, n_wha_wna, n_wha_wpl, n_wem_wna, n_wem_wpl, n_wna_wpl, n_wk1_wk2, n_wk1_wk3, n_wk2_wk3⟩⟩ (Nat.le_of_ble_eq_true rfl) (Nat.le_of_ble_eq_true rfl) dX8_count_106
  · refine lv_iload_n hx hb dX8_count_6 rfl (lv_at hl 1 rfl) ?_
    refine lv_bipush (v := 17) hx hb dX8_count_7 (by decide) ?_
    refine lv_icmp_gt (tgt := 22) hx hb dX8_count_9 (by decide) (fun c3 => ?_) (fun c3 => ?_)
    · refine lv_iload_n hx hb dX8_count_22 rfl (lv_at hl 1 rfl) ?_
      by_cases c4_0 : x = 0
      · refine lv_tableIn (off := 33) (tgt := 56) hx hb dX8_count_23 (by rw [c4_0]; decide) (by rw [c4_0]; decide) (by rw [c4_0]; decide) (by decide) ?_
        refine lv_aload_n hx hb dX8_count_56 rfl (lv_at hl 0 rfl) ?_
        refine z_get (v := .int (nI nn)) C hz x_o zl8 mFX8_83 (by decide) rfl dX8_count_57 ?_
        exact z_iret C hr rfl hz hS ⟨u1, u2, u3, nl, nn, nf, nc, lk, ks, gv, gu, gk, gm, gc, gw, gl, gh, gt, gy, gq, ge1, gn1, gp1, gs, gx1, gx2, gx3, ln, fz, sq, (by simp [q_count, hgs 0 (by decide), hgs 1 (by decide), hgs 2 (by decide), hgs 3 (by decide), c1, c3, c4_0]), rfl, rfl, rfl, rfl, rfl, rfl, rfl, rfl, rfl, rfl, rfl, rfl, rfl, rfl, rfl, rfl, rfl, rfl, rfl, rfl, rfl, rfl, rfl, rfl, rfl, ⟨x_o, x_wev, x_wnb, x_wki, x_wmy, x_wce, x_wiw, x_wli, x_wha, x_wwt, x_wfy, x_wfk, x_wem, x_wna, x_wpl, x_whs, x_wk1, x_wk2, x_wk3, hn60, hl12, hf6, hc60, hs40, hMP, hgy, hfz, hgs, hME, hlk, hgw, hfd, n_wki_wmy, n_wki_wiw, n_wki_wli, n_wki_wha, n_wki_wem, n_wki_wna, n_wki_wpl, n_wmy_wiw, n_wmy_wli, n_wmy_wha, n_wmy_wem, n_wmy_wna, n_wmy_wpl, n_wiw_wli, n_wiw_wha, n_wiw_wem, n_wiw_wna, n_wiw_wpl, n_wli_wha, n_wli_wem, n_wli_wna, n_wli_wpl, n_wha_wem, n_wha_wna, n_wha_wpl, n_wem_wna, n_wem_wpl, n_wna_wpl, n_wk1_wk2, n_wk1_wk3, n_wk2_wk3⟩⟩ (Nat.le_of_ble_eq_true rfl) (Nat.le_of_ble_eq_true rfl) dX8_count_60
      by_cases c4_1 : x = 1
      · refine lv_tableIn (off := 38) (tgt := 61) hx hb dX8_count_23 (by rw [c4_1]; decide) (by rw [c4_1]; decide) (by rw [c4_1]; decide) (by decide) ?_
        refine lv_aload_n hx hb dX8_count_61 rfl (lv_at hl 0 rfl) ?_
        refine z_get (v := .int (nI nl)) C hz x_o zl8 mFX8_80 (by decide) rfl dX8_count_62 ?_
        exact z_iret C hr rfl hz hS ⟨u1, u2, u3, nl, nn, nf, nc, lk, ks, gv, gu, gk, gm, gc, gw, gl, gh, gt, gy, gq, ge1, gn1, gp1, gs, gx1, gx2, gx3, ln, fz, sq, (by simp [q_count, hgs 0 (by decide), hgs 1 (by decide), hgs 2 (by decide), hgs 3 (by decide), c1, c3, c4_1, c4_0]), rfl, rfl, rfl, rfl, rfl, rfl, rfl, rfl, rfl, rfl, rfl, rfl, rfl, rfl, rfl, rfl, rfl, rfl, rfl, rfl, rfl, rfl, rfl, rfl, rfl, ⟨x_o, x_wev, x_wnb, x_wki, x_wmy, x_wce, x_wiw, x_wli, x_wha, x_wwt, x_wfy, x_wfk, x_wem, x_wna, x_wpl, x_whs, x_wk1, x_wk2, x_wk3, hn60, hl12, hf6, hc60, hs40, hMP, hgy, hfz, hgs, hME, hlk, hgw, hfd, n_wki_wmy, n_wki_wiw, n_wki_wli, n_wki_wha, n_wki_wem, n_wki_wna, n_wki_wpl, n_wmy_wiw, n_wmy_wli, n_wmy_wha, n_wmy_wem, n_wmy_wna, n_wmy_wpl, n_wiw_wli, n_wiw_wha, n_wiw_wem, n_wiw_wna, n_wiw_wpl, n_wli_wha, n_wli_wem, n_wli_wna, n_wli_wpl, n_wha_wem, n_wha_wna, n_wha_wpl, n_wem_wna, n_wem_wpl, n_wna_wpl, n_wk1_wk2, n_wk1_wk3, n_wk2_wk3⟩⟩ (Nat.le_of_ble_eq_true rfl) (Nat.le_of_ble_eq_true rfl) dX8_count_65
      by_cases c4_2 : x = 2
      · refine lv_tableIn (off := 43) (tgt := 66) hx hb dX8_count_23 (by rw [c4_2]; decide) (by rw [c4_2]; decide) (by rw [c4_2]; decide) (by decide) ?_
        refine lv_aload_n hx hb dX8_count_66 rfl (lv_at hl 0 rfl) ?_
        refine z_get (v := .int (nI nf)) C hz x_o zl8 mFX8_187 (by decide) rfl dX8_count_67 ?_
        exact z_iret C hr rfl hz hS ⟨u1, u2, u3, nl, nn, nf, nc, lk, ks, gv, gu, gk, gm, gc, gw, gl, gh, gt, gy, gq, ge1, gn1, gp1, gs, gx1, gx2, gx3, ln, fz, sq, (by simp [q_count, hgs 0 (by decide), hgs 1 (by decide), hgs 2 (by decide), hgs 3 (by decide), c1, c3, c4_2, c4_0, c4_1]), rfl, rfl, rfl, rfl, rfl, rfl, rfl, rfl, rfl, rfl, rfl, rfl, rfl, rfl, rfl, rfl, rfl, rfl, rfl, rfl, rfl, rfl, rfl, rfl, rfl, ⟨x_o, x_wev, x_wnb, x_wki, x_wmy, x_wce, x_wiw, x_wli, x_wha, x_wwt, x_wfy, x_wfk, x_wem, x_wna, x_wpl, x_whs, x_wk1, x_wk2, x_wk3, hn60, hl12, hf6, hc60, hs40, hMP, hgy, hfz, hgs, hME, hlk, hgw, hfd, n_wki_wmy, n_wki_wiw, n_wki_wli, n_wki_wha, n_wki_wem, n_wki_wna, n_wki_wpl, n_wmy_wiw, n_wmy_wli, n_wmy_wha, n_wmy_wem, n_wmy_wna, n_wmy_wpl, n_wiw_wli, n_wiw_wha, n_wiw_wem, n_wiw_wna, n_wiw_wpl, n_wli_wha, n_wli_wem, n_wli_wna, n_wli_wpl, n_wha_wem, n_wha_wna, n_wha_wpl, n_wem_wna, n_wem_wpl, n_wna_wpl, n_wk1_wk2, n_wk1_wk3, n_wk2_wk3⟩⟩ (Nat.le_of_ble_eq_true rfl) (Nat.le_of_ble_eq_true rfl) dX8_count_70
      by_cases c4_3 : x = 3
      · refine lv_tableIn (off := 48) (tgt := 71) hx hb dX8_count_23 (by rw [c4_3]; decide) (by rw [c4_3]; decide) (by rw [c4_3]; decide) (by decide) ?_
        refine lv_aload_n hx hb dX8_count_71 rfl (lv_at hl 0 rfl) ?_
        refine z_get (v := .ref whs) C hz x_o zl8 mFX8_58 (by decide) rfl dX8_count_72 ?_
        refine lv_iconst (v := 0) hx hb dX8_count_75 (by decide) ?_
        refine z_iald 0 C hz x_whs (by decide) (Nat.le_of_ble_eq_true rfl) (by omega) dX8_count_76 ?_
        refine lv_aload_n hx hb dX8_count_77 rfl (lv_at hl 0 rfl) ?_
        refine z_get (v := .ref whs) C hz x_o zl8 mFX8_58 (by decide) rfl dX8_count_78 ?_
        refine lv_iconst (v := 1) hx hb dX8_count_81 (by decide) ?_
        refine z_iald 1 C hz x_whs (by decide) (Nat.le_of_ble_eq_true rfl) (by omega) dX8_count_82 ?_
        refine lv_iadd hx hb dX8_count_83 ?_
        refine lv_aload_n hx hb dX8_count_84 rfl (lv_at hl 0 rfl) ?_
        refine z_get (v := .ref whs) C hz x_o zl8 mFX8_58 (by decide) rfl dX8_count_85 ?_
        refine lv_iconst (v := 2) hx hb dX8_count_88 (by decide) ?_
        refine z_iald 2 C hz x_whs (by decide) (Nat.le_of_ble_eq_true rfl) (by omega) dX8_count_89 ?_
        refine lv_iadd hx hb dX8_count_90 ?_
        refine lv_aload_n hx hb dX8_count_91 rfl (lv_at hl 0 rfl) ?_
        refine z_get (v := .ref whs) C hz x_o zl8 mFX8_58 (by decide) rfl dX8_count_92 ?_
        refine lv_iconst (v := 3) hx hb dX8_count_95 (by decide) ?_
        refine z_iald 3 C hz x_whs (by decide) (Nat.le_of_ble_eq_true rfl) (by omega) dX8_count_96 ?_
        refine lv_iadd hx hb dX8_count_97 ?_
        exact z_iret C hr rfl hz hS ⟨u1, u2, u3, nl, nn, nf, nc, lk, ks, gv, gu, gk, gm, gc, gw, gl, gh, gt, gy, gq, ge1, gn1, gp1, gs, gx1, gx2, gx3, ln, fz, sq, (by simp [q_count, hgs 0 (by decide), hgs 1 (by decide), hgs 2 (by decide), hgs 3 (by decide), c1, c3, c4_3, c4_0, c4_1, c4_2]), rfl, rfl, rfl, rfl, rfl, rfl, rfl, rfl, rfl, rfl, rfl, rfl, rfl, rfl, rfl, rfl, rfl, rfl, rfl, rfl, rfl, rfl, rfl, rfl, rfl, ⟨x_o, x_wev, x_wnb, x_wki, x_wmy, x_wce, x_wiw, x_wli, x_wha, x_wwt, x_wfy, x_wfk, x_wem, x_wna, x_wpl, x_whs, x_wk1, x_wk2, x_wk3, hn60, hl12, hf6, hc60, hs40, hMP, hgy, hfz, hgs, hME, hlk, hgw, hfd, n_wki_wmy, n_wki_wiw, n_wki_wli, n_wki_wha, n_wki_wem, n_wki_wna, n_wki_wpl, n_wmy_wiw, n_wmy_wli, n_wmy_wha, n_wmy_wem, n_wmy_wna, n_wmy_wpl, n_wiw_wli, n_wiw_wha, n_wiw_wem, n_wiw_wna, n_wiw_wpl, n_wli_wha, n_wli_wem, n_wli_wna, n_wli_wpl, n_wha_wem, n_wha_wna, n_wha_wpl, n_wem_wna, n_wem_wpl, n_wna_wpl, n_wk1_wk2, n_wk1_wk3, n_wk2_wk3⟩⟩ (Nat.le_of_ble_eq_true rfl) (Nat.le_of_ble_eq_true rfl) dX8_count_98
      by_cases c4_4 : x = 4
      · refine lv_tableIn (off := 76) (tgt := 99) hx hb dX8_count_23 (by rw [c4_4]; decide) (by rw [c4_4]; decide) (by rw [c4_4]; decide) (by decide) ?_
        refine lv_aload_n hx hb dX8_count_99 rfl (lv_at hl 0 rfl) ?_
        refine z_get (v := .int (nI ks)) C hz x_o zl8 mFX8_213 (by decide) rfl dX8_count_100 ?_
        exact z_iret C hr rfl hz hS ⟨u1, u2, u3, nl, nn, nf, nc, lk, ks, gv, gu, gk, gm, gc, gw, gl, gh, gt, gy, gq, ge1, gn1, gp1, gs, gx1, gx2, gx3, ln, fz, sq, (by simp [q_count, hgs 0 (by decide), hgs 1 (by decide), hgs 2 (by decide), hgs 3 (by decide), c1, c3, c4_4, c4_0, c4_1, c4_2, c4_3]), rfl, rfl, rfl, rfl, rfl, rfl, rfl, rfl, rfl, rfl, rfl, rfl, rfl, rfl, rfl, rfl, rfl, rfl, rfl, rfl, rfl, rfl, rfl, rfl, rfl, ⟨x_o, x_wev, x_wnb, x_wki, x_wmy, x_wce, x_wiw, x_wli, x_wha, x_wwt, x_wfy, x_wfk, x_wem, x_wna, x_wpl, x_whs, x_wk1, x_wk2, x_wk3, hn60, hl12, hf6, hc60, hs40, hMP, hgy, hfz, hgs, hME, hlk, hgw, hfd, n_wki_wmy, n_wki_wiw, n_wki_wli, n_wki_wha, n_wki_wem, n_wki_wna, n_wki_wpl, n_wmy_wiw, n_wmy_wli, n_wmy_wha, n_wmy_wem, n_wmy_wna, n_wmy_wpl, n_wiw_wli, n_wiw_wha, n_wiw_wem, n_wiw_wna, n_wiw_wpl, n_wli_wha, n_wli_wem, n_wli_wna, n_wli_wpl, n_wha_wem, n_wha_wna, n_wha_wpl, n_wem_wna, n_wem_wpl, n_wna_wpl, n_wk1_wk2, n_wk1_wk3, n_wk2_wk3⟩⟩ (Nat.le_of_ble_eq_true rfl) (Nat.le_of_ble_eq_true rfl) dX8_count_103
      refine lv_tableOut (tgt := 104) hx hb dX8_count_23 (by have t0 := lv_neT c4_0 (a := 0) (by decide); have t1 := lv_neT c4_1 (a := 1) (by decide); have t2 := lv_neT c4_2 (a := 2) (by decide); have t3 := lv_neT c4_3 (a := 3) (by decide); have t4 := lv_neT c4_4 (a := 4) (by decide);  omega) (by decide) ?_
      refine lv_bipush (v := (-2)) hx hb dX8_count_104 (by decide) ?_
      exact z_iret C hr rfl hz hS ⟨u1, u2, u3, nl, nn, nf, nc, lk, ks, gv, gu, gk, gm, gc, gw, gl, gh, gt, gy, gq, ge1, gn1, gp1, gs, gx1, gx2, gx3, ln, fz, sq, (by simp [q_count, hgs 0 (by decide), hgs 1 (by decide), hgs 2 (by decide), hgs 3 (by decide), c1, c3, c4_0, c4_1, c4_2, c4_3, c4_4]), rfl, rfl, rfl, rfl, rfl, rfl, rfl, rfl, rfl, rfl, rfl, rfl, rfl, rfl, rfl, rfl, rfl, rfl, rfl, rfl, rfl, rfl, rfl, rfl, rfl, ⟨x_o, x_wev, x_wnb, x_wki, x_wmy, x_wce, x_wiw, x_wli, x_wha, x_wwt, x_wfy, x_wfk, x_wem, x_wna, x_wpl, x_whs, x_wk1, x_wk2, x_wk3, hn60, hl12, hf6, hc60, hs40, hMP, hgy, hfz, hgs, hME, hlk, hgw, hfd, n_wki_wmy, n_wki_wiw, n_wki_wli, n_wki_wha, n_wki_wem, n_wki_wna, n_wki_wpl, n_wmy_wiw, n_wmy_wli, n_wmy_wha, n_wmy_wem, n_wmy_wna, n_wmy_wpl, n_wiw_wli, n_wiw_wha, n_wiw_wem, n_wiw_wna, n_wiw_wpl, n_wli_wha, n_wli_wem, n_wli_wna, n_wli_wpl, n_wha_wem, n_wha_wna, n_wha_wpl, n_wem_wna, n_wem_wpl, n_wna_wpl, n_wk1_wk2, n_wk1_wk3, n_wk2_wk3⟩⟩ (Nat.le_of_ble_eq_true rfl) (Nat.le_of_ble_eq_true rfl) dX8_count_106
    · obtain ⟨kx, hk8, hxk⟩ := z_c10 c1 c3
      refine lv_aload_n hx hb dX8_count_12 rfl (lv_at hl 0 rfl) ?_
      refine z_get (v := .ref wev) C hz x_o zl8 mFX8_13 (by decide) rfl dX8_count_13 ?_
      refine lv_iload_n hx hb dX8_count_16 rfl (lv_at hl 1 rfl) ?_
      refine lv_bipush (v := 10) hx hb dX8_count_17 (by decide) ?_
      refine lv_isub hx hb dX8_count_19 ?_
      refine z_iald kx C hz x_wev hxk hk8 (by omega) dX8_count_20 ?_
      exact z_iret C hr rfl hz hS ⟨u1, u2, u3, nl, nn, nf, nc, lk, ks, gv, gu, gk, gm, gc, gw, gl, gh, gt, gy, gq, ge1, gn1, gp1, gs, gx1, gx2, gx3, ln, fz, sq, (by rw [q_count_g c1 c3, hxk, fI_of (j := kx) (by omega) rfl]), rfl, rfl, rfl, rfl, rfl, rfl, rfl, rfl, rfl, rfl, rfl, rfl, rfl, rfl, rfl, rfl, rfl, rfl, rfl, rfl, rfl, rfl, rfl, rfl, rfl, ⟨x_o, x_wev, x_wnb, x_wki, x_wmy, x_wce, x_wiw, x_wli, x_wha, x_wwt, x_wfy, x_wfk, x_wem, x_wna, x_wpl, x_whs, x_wk1, x_wk2, x_wk3, hn60, hl12, hf6, hc60, hs40, hMP, hgy, hfz, hgs, hME, hlk, hgw, hfd, n_wki_wmy, n_wki_wiw, n_wki_wli, n_wki_wha, n_wki_wem, n_wki_wna, n_wki_wpl, n_wmy_wiw, n_wmy_wli, n_wmy_wha, n_wmy_wem, n_wmy_wna, n_wmy_wpl, n_wiw_wli, n_wiw_wha, n_wiw_wem, n_wiw_wna, n_wiw_wpl, n_wli_wha, n_wli_wem, n_wli_wna, n_wli_wpl, n_wha_wem, n_wha_wna, n_wha_wpl, n_wem_wna, n_wem_wpl, n_wna_wpl, n_wk1_wk2, n_wk1_wk3, n_wk2_wk3⟩⟩ (Nat.le_of_ble_eq_true rfl) (Nat.le_of_ble_eq_true rfl) dX8_count_21
