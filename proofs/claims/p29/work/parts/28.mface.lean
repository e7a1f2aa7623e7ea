abbrev rmX8_laid : Room := { frames := 0, cells := 0, slots := 0, locals := 0 }
set_option maxHeartbeats 4000000 in
set_option maxRecDepth 100000 in
theorem k_X8_laid (l : Launch) (D : va_G) (cy : Nat → ClassId) (f : zM) (o : Nat) (wev : Nat) (wnb : Nat) (wki : Nat) (wmy : Nat) (wce : Nat) (wiw : Nat) (wli : Nat) (wha : Nat) (wwt : Nat) (wfy : Nat) (wfk : Nat) (wem : Nat) (wna : Nat) (wpl : Nat) (whs : Nat) (wk1 : Nat) (wk2 : Nat) (wk3 : Nat) (u1 : Int32) (u2 : Int32) (u3 : Int32) (nl : Nat) (nn : Nat) (nf : Nat) (nc : Nat) (lk : Int64) (ks : Nat) (gu : Nat → Int32) (x : Int32) (p0 : f o = some (.inr (8, [.int u1, .int u2, .int u3, .ref wev, .int (nI nl), .ref wnb, .int (nI nn), .ref wki, .ref wmy, .ref wce, .ref wiw, .ref wli, .ref wha, .ref wwt, .int (nI nf), .ref wfy, .ref wfk, .int (nI nc), .ref wem, .ref wna, .ref wpl, .ref whs, .long lk, .int (nI ks), .ref wk1, .ref wk2, .ref wk3]))) (p1 : f wnb = some (.inl (cy 0, 12, .inl gu)))  (hl12 : nl ≤ 12) (hx0 : 0 ≤ x) : zCi l D cy yX8_laid cX8_laid 2 (Option.some Jvm.ClassFile.FieldType.int) rmX8_laid [.ref o, .int x] f (fun (r : Int32) (f1 : zM) => r = (qlaid nl gu x) ∧ (∀ (b : Nat) (e : va_E), f b = some e → f1 b = some e)) := by
  intro sz
  refine z_body (by decide +kernel) (Nat.le_of_ble_eq_true rfl) ?_
  intro p e s m below meth c ls C hr hin hsz hz hl
  subst hsz
  have hx := C.1
  have hb := C.2.1
  have hA : ∀ q, s.heap.size ≤ q → zA f s.heap.size q := fun q h => Or.inr h
  have hS : va_S (zA f s.heap.size) s.heap s.heap [] := va_S.rf
  have hl : lv_has ls 2 [(0, .ref o), (1, .int x)] := hl
  refine lv_iload_n hx hb dX8_laid_0 rfl (lv_at hl 1 rfl) ?_
  refine lv_aload_n hx hb dX8_laid_1 rfl (lv_at hl 0 rfl) ?_
  refine z_get (v := .int (nI nl)) C hz p0 zl8 mFX8_80 (by decide) rfl dX8_laid_2 ?_
  refine lv_icmp_ge (tgt := 17) hx hb dX8_laid_5 (by decide) (fun c1 => ?_) (fun c1 => ?_)
  · refine lv_iconst (v := 0) hx hb dX8_laid_17 (by decide) ?_
    exact z_iret C hr rfl hz hS ⟨(by rw [qlaid, if_neg (Int32.not_lt.mpr hx0), if_pos c1]), (fun b e hb => hb)⟩ (Nat.le_of_ble_eq_true rfl) (Nat.le_of_ble_eq_true rfl) dX8_laid_18
  · obtain ⟨j, hj, hxj⟩ := z_ixl (Int32.not_lt.mpr hx0) c1 (by omega)
    refine lv_aload_n hx hb dX8_laid_8 rfl (lv_at hl 0 rfl) ?_
    refine z_get (v := .ref wnb) C hz p0 zl8 mFX8_17 (by decide) rfl dX8_laid_9 ?_
    refine lv_iload_n hx hb dX8_laid_12 rfl (lv_at hl 1 rfl) ?_
    refine z_iald j C hz p1 hxj (by omega) (by omega) dX8_laid_13 ?_
    refine lv_goto (tgt := 18) hx hb dX8_laid_14 (by decide) ?_
    exact z_iret C hr rfl hz hS ⟨(by rw [qlaid, if_neg (Int32.not_lt.mpr hx0), if_neg c1, fI_of (by omega) hxj]), (fun b e hb => hb)⟩ (Nat.le_of_ble_eq_true rfl) (Nat.le_of_ble_eq_true rfl) dX8_laid_18
abbrev rmX8_row : Room := { frames := 3, cells := 0, slots := 0, locals := 67 }
set_option maxHeartbeats 4000000 in
set_option maxRecDepth 100000 in
theorem k_X8_row (l : Launch) (D : va_G) (cy : Nat → ClassId) (f : zM) (o : Nat) (wev : Nat) (wnb : Nat) (wki : Nat) (wmy : Nat) (wce : Nat) (wiw : Nat) (wli : Nat) (wha : Nat) (wwt : Nat) (wfy : Nat) (wfk : Nat) (wem : Nat) (wna : Nat) (wpl : Nat) (whs : Nat) (wk1 : Nat) (wk2 : Nat) (wk3 : Nat) (u1 : Int32) (u2 : Int32) (u3 : Int32) (nl : Nat) (nn : Nat) (nf : Nat) (nc : Nat) (lk : Int64) (ks : Nat) (gv : Nat → Int32) (gu : Nat → Int32) (gk : Nat → Int32) (gm : Nat → Int32) (gc : Nat → Int64) (gw : Nat → Int32) (gl : Nat → Int32) (gh : Nat → Int32) (gt : Nat → Int64) (gy : Nat → Int32) (gq : Nat → Int32) (ge1 : Nat → Int32) (gn1 : Nat → Int32) (gp1 : Nat → Int32) (gs : Nat → Int32) (gx1 : Nat → Int32) (gx2 : Nat → Int32) (gx3 : Nat → Int32) (ln : Nat → Nat) (fz : Nat → Nat) (sq : Nat → Nat) (x : Int32) (y : Int32)    (hI : zIM cy f o wev wnb wki wmy wce wiw wli wha wwt wfy wfk wem wna wpl whs wk1 wk2 wk3 u1 u2 u3 nl nn nf nc lk ks gv gu gk gm gc gw gl gh gt gy gq ge1 gn1 gp1 gs gx1 gx2 gx3 ln fz sq) : zCi l D cy yX8_row cX8_row 4 (Option.some Jvm.ClassFile.FieldType.int) rmX8_row [.ref o, .int x, .int y] f (fun (r : Int32) (f1 : zM) => ∃ (u11 : Int32) (u21 : Int32) (u31 : Int32) (nl1 : Nat) (nn1 : Nat) (nf1 : Nat) (nc1 : Nat) (lk1 : Int64) (ks1 : Nat) (gv1 : Nat → Int32) (gu1 : Nat → Int32) (gk1 : Nat → Int32) (gm1 : Nat → Int32) (gc1 : Nat → Int64) (gw1 : Nat → Int32) (gl1 : Nat → Int32) (gh1 : Nat → Int32) (gt1 : Nat → Int64) (gy1 : Nat → Int32) (gq1 : Nat → Int32) (ge11 : Nat → Int32) (gn11 : Nat → Int32) (gp11 : Nat → Int32) (gs1 : Nat → Int32) (gx11 : Nat → Int32) (gx21 : Nat → Int32) (gx31 : Nat → Int32) (ln1 : Nat → Nat) (fz1 : Nat → Nat) (sq1 : Nat → Nat), r = ((q_row nn x y).1) ∧ (u11 = (q_row nn x y).2.1) ∧ (u21 = (q_row nn x y).2.2.1) ∧ (u31 = (q_row nn x y).2.2.2) ∧ (gv1 = zEV gv (q_row nn x y).2.1) ∧ (nl1 = nl) ∧ (gu1 = gu) ∧ (nn1 = if 0 ≤ r then nn + 1 else nn) ∧ (gk1 = if 0 ≤ r then va_up gk nn 5 else gk) ∧ (ln1 = if 0 ≤ r then va_up ln nn (3 + fI x) else ln) ∧ (gw1 = if 0 ≤ r then va_up gw nn 0 else gw) ∧ (gh1 = if 0 ≤ r then va_up gh nn (zHash 5 nn (3 + fI x) (qrow nl gu x y) gh) else gh) ∧ (zGC nn (0 ≤ r) (3 + fI x) (qrow nl gu x y) gc gc1) ∧ (nf1 = nf) ∧ (fz1 = fz) ∧ (gq1 = gq) ∧ (nc1 = nc) ∧ (ge11 = ge1) ∧ (gn11 = gn1) ∧ (gp11 = gp1) ∧ (sq1 = sq) ∧ (ks1 = ks) ∧ (gx11 = gx1) ∧ (gx21 = gx2) ∧ (gx31 = gx3) ∧ (lk1 = lk) ∧ zIM cy f1 o wev wnb wki wmy wce wiw wli wha wwt wfy wfk wem wna wpl whs wk1 wk2 wk3 u11 u21 u31 nl1 nn1 nf1 nc1 lk1 ks1 gv1 gu1 gk1 gm1 gc1 gw1 gl1 gh1 gt1 gy1 gq1 ge11 gn11 gp11 gs1 gx11 gx21 gx31 ln1 fz1 sq1) := by
  intro sz
  refine z_body (by decide +kernel) (Nat.le_of_ble_eq_true rfl) ?_
  intro p e s m below meth c ls C hr hin hsz hz hl
  subst hsz
  have hx := C.1
  have hb := C.2.1
  have hA : ∀ q, s.heap.size ≤ q → zA f s.heap.size q := fun q h => Or.inr h
  have hS : va_S (zA f s.heap.size) s.heap s.heap [] := va_S.rf
  have hl : lv_has ls 4 [(0, .ref o), (1, .int x), (2, .int y)] := hl
  obtain ⟨x_o, x_wev, x_wnb, x_wki, x_wmy, x_wce, x_wiw, x_wli, x_wha, x_wwt, x_wfy, x_wfk, x_wem, x_wna, x_wpl, x_whs, x_wk1, x_wk2, x_wk3, hn60, hl12, hf6, hc60, hs40, hMP, hgy, hfz, hgs, hME, hlk, hgw, hfd, n_wki_wmy, n_wki_wiw, n_wki_wli, n_wki_wha, n_wki_wem, n_wki_wna, n_wki_wpl, n_wmy_wiw, n_wmy_wli, n_wmy_wha, n_wmy_wem, n_wmy_wna, n_wmy_wpl, n_wiw_wli, n_wiw_wha, n_wiw_wem, n_wiw_wna, n_wiw_wpl, n_wli_wha, n_wli_wem, n_wli_wna, n_wli_wpl, n_wha_wem, n_wha_wna, n_wha_wpl, n_wem_wna, n_wem_wpl, n_wna_wpl, n_wk1_wk2, n_wk1_wk3, n_wk2_wk3⟩ := id hI
  refine lv_aload_n hx hb dX8_row_0 rfl (lv_at hl 0 rfl) ?_
  refine z_callVv (As := []) C hz hS hA hl (k_X8_begin l D cy f o wev wnb wki wmy wce wiw wli wha wwt wfy wfk wem wna wpl whs wk1 wk2 wk3 u1 u2 u3 nl nn nf nc lk ks x_o ) zyX8_begin mMX8_116 x_o zl8 rfl rfl (Nat.le_of_ble_eq_true rfl) ⟨Nat.le_of_ble_eq_true rfl, Nat.le_of_ble_eq_true rfl⟩ ⟨Nat.le_of_ble_eq_true rfl, Nat.le_of_ble_eq_true rfl⟩ dX8_row_1 (fun  f1 H locs h2 hz hS => ?_)
  obtain ⟨a3, k4⟩ := h2
  refine lv_iload_n hx hb dX8_row_4 rfl (lv_at hl 1 rfl) ?_
  refine lv_bipush (v := 12) hx hb dX8_row_5 (by decide) ?_
  refine lv_icmp_le (tgt := 13) hx hb dX8_row_7 (by decide) (fun c5 => ?_) (fun c5 => ?_)
  · refine lv_aload_n hx hb dX8_row_13 rfl (lv_at hl 0 rfl) ?_
    refine z_get (v := .int (nI nn)) C hz a3 zl8 mFX8_83 (by decide) rfl dX8_row_14 ?_
    refine lv_bipush (v := 60) hx hb dX8_row_17 (by decide) ?_
    refine lv_icmp_ne (tgt := 25) hx hb dX8_row_19 (by decide) (fun c6 => ?_) (fun c6 => ?_)
    · replace c6 : ¬ (nn = 60) := fun h => c6 ((nI_eq (a := nn) (b := 60) (by omega) (by omega)).mpr h)
      have h60 : nn < 60 := by omega
      refine lv_iload_n hx hb dX8_row_25 rfl (lv_at hl 1 rfl) ?_
      refine lv_if_ge (tgt := 37) hx hb dX8_row_26 (by decide) (fun c7 => ?_) (fun c7 => ?_)
      · refine lv_iload_n hx hb dX8_row_37 rfl (lv_at hl 2 rfl) ?_
        refine lv_if_lt (tgt := 46) hx hb dX8_row_38 (by decide) (fun c8 => ?_) (fun c8 => ?_)
        · refine lv_aload_n hx hb dX8_row_46 rfl (lv_at hl 0 rfl) ?_
          refine lv_iconst (v := 2) hx hb dX8_row_47 (by decide) ?_
          refine lv_iconst (v := 1) hx hb dX8_row_48 (by decide) ?_
          refine lv_iconst (v := 0) hx hb dX8_row_49 (by decide) ?_
          have a9 : f1 wev = some (.inl (cy 0, 8, .inl gv)) := k4 _ _ x_wev (z_ne x_wev x_o rfl)
          refine z_callVi (As := [.int 2, .int 1, .int 0]) C hz hS hA hl (k_X8_fails l D cy f1 o wev wnb wki wmy wce wiw wli wha wwt wfy wfk wem wna wpl whs wk1 wk2 wk3 0 (-1) 0 nl nn nf nc lk ks 2 1 0 gv 2 a3 a9 (by decide) (Nat.le_of_ble_eq_true rfl)) zyX8_fails mMX8_135 a3 zl8 rfl rfl (Nat.le_of_ble_eq_true rfl) ⟨Nat.le_of_ble_eq_true rfl, Nat.le_of_ble_eq_true rfl⟩ ⟨Nat.le_of_ble_eq_true rfl, Nat.le_of_ble_eq_true rfl⟩ dX8_row_50 (fun r f10 H locs h11 hz hS => ?_)
          obtain ⟨rfl, a12, a13, k14⟩ := h11
          have a15 : f1 wnb = some (.inl (cy 0, 12, .inl gu)) := k4 _ _ x_wnb (z_ne x_wnb x_o rfl)
          have a16 : f10 wnb = some (.inl (cy 0, 12, .inl gu)) := k14 _ _ a15 (z_ne a15 a3 rfl) (z_ne a15 a9 rfl)
          have a17 : f1 wki = some (.inl (cy 0, 60, .inl gk)) := k4 _ _ x_wki (z_ne x_wki x_o rfl)
          have a18 : f10 wki = some (.inl (cy 0, 60, .inl gk)) := k14 _ _ a17 (z_ne a17 a3 rfl) (z_ne a17 a9 rfl)
          have a19 : f1 wmy = some (.inl (cy 0, 60, .inl gm)) := k4 _ _ x_wmy (z_ne x_wmy x_o rfl)
          have a20 : f10 wmy = some (.inl (cy 0, 60, .inl gm)) := k14 _ _ a19 (z_ne a19 a3 rfl) (z_ne a19 a9 rfl)
          have a21 : f1 wce = some (.inl (cy 1, 960, .inr (.inl gc))) := k4 _ _ x_wce (z_ne x_wce x_o rfl)
          have a22 : f10 wce = some (.inl (cy 1, 960, .inr (.inl gc))) := k14 _ _ a21 (z_ne a21 a3 rfl) (z_ne a21 a9 rfl)
          have a23 : f1 wiw = some (.inl (cy 2, 60, .inl gw)) := k4 _ _ x_wiw (z_ne x_wiw x_o rfl)
          have a24 : f10 wiw = some (.inl (cy 2, 60, .inl gw)) := k14 _ _ a23 (z_ne a23 a3 rfl) (z_ne a23 a9 rfl)
          have a25 : f1 wli = some (.inl (cy 0, 60, .inl gl)) := k4 _ _ x_wli (z_ne x_wli x_o rfl)
          have a26 : f10 wli = some (.inl (cy 0, 60, .inl gl)) := k14 _ _ a25 (z_ne a25 a3 rfl) (z_ne a25 a9 rfl)
          have a27 : f1 wha = some (.inl (cy 0, 60, .inl gh)) := k4 _ _ x_wha (z_ne x_wha x_o rfl)
          have a28 : f10 wha = some (.inl (cy 0, 60, .inl gh)) := k14 _ _ a27 (z_ne a27 a3 rfl) (z_ne a27 a9 rfl)
          have a29 : f1 wwt = some (.inl (cy 1, 60, .inr (.inl gt))) := k4 _ _ x_wwt (z_ne x_wwt x_o rfl)
          have a30 : f10 wwt = some (.inl (cy 1, 60, .inr (.inl gt))) := k14 _ _ a29 (z_ne a29 a3 rfl) (z_ne a29 a9 rfl)
          have a31 : f1 wfy = some (.inl (cy 0, 6, .inl gy)) := k4 _ _ x_wfy (z_ne x_wfy x_o rfl)
          have a32 : f10 wfy = some (.inl (cy 0, 6, .inl gy)) := k14 _ _ a31 (z_ne a31 a3 rfl) (z_ne a31 a9 rfl)
          have a33 : f1 wfk = some (.inl (cy 0, 24, .inl gq)) := k4 _ _ x_wfk (z_ne x_wfk x_o rfl)
          have a34 : f10 wfk = some (.inl (cy 0, 24, .inl gq)) := k14 _ _ a33 (z_ne a33 a3 rfl) (z_ne a33 a9 rfl)
          have a35 : f1 wem = some (.inl (cy 0, 60, .inl ge1)) := k4 _ _ x_wem (z_ne x_wem x_o rfl)
          have a36 : f10 wem = some (.inl (cy 0, 60, .inl ge1)) := k14 _ _ a35 (z_ne a35 a3 rfl) (z_ne a35 a9 rfl)
          have a37 : f1 wna = some (.inl (cy 0, 60, .inl gn1)) := k4 _ _ x_wna (z_ne x_wna x_o rfl)
          have a38 : f10 wna = some (.inl (cy 0, 60, .inl gn1)) := k14 _ _ a37 (z_ne a37 a3 rfl) (z_ne a37 a9 rfl)
          have a39 : f1 wpl = some (.inl (cy 0, 60, .inl gp1)) := k4 _ _ x_wpl (z_ne x_wpl x_o rfl)
          have a40 : f10 wpl = some (.inl (cy 0, 60, .inl gp1)) := k14 _ _ a39 (z_ne a39 a3 rfl) (z_ne a39 a9 rfl)
          have a41 : f1 whs = some (.inl (cy 0, 4, .inl gs)) := k4 _ _ x_whs (z_ne x_whs x_o rfl)
          have a42 : f10 whs = some (.inl (cy 0, 4, .inl gs)) := k14 _ _ a41 (z_ne a41 a3 rfl) (z_ne a41 a9 rfl)
          have a43 : f1 wk1 = some (.inl (cy 0, 40, .inl gx1)) := k4 _ _ x_wk1 (z_ne x_wk1 x_o rfl)
          have a44 : f10 wk1 = some (.inl (cy 0, 40, .inl gx1)) := k14 _ _ a43 (z_ne a43 a3 rfl) (z_ne a43 a9 rfl)
          have a45 : f1 wk2 = some (.inl (cy 0, 40, .inl gx2)) := k4 _ _ x_wk2 (z_ne x_wk2 x_o rfl)
          have a46 : f10 wk2 = some (.inl (cy 0, 40, .inl gx2)) := k14 _ _ a45 (z_ne a45 a3 rfl) (z_ne a45 a9 rfl)
          have a47 : f1 wk3 = some (.inl (cy 0, 40, .inl gx3)) := k4 _ _ x_wk3 (z_ne x_wk3 x_o rfl)
          have a48 : f10 wk3 = some (.inl (cy 0, 40, .inl gx3)) := k14 _ _ a47 (z_ne a47 a3 rfl) (z_ne a47 a9 rfl)
          have hq : q_row nn x y = ((-4), 2, 1, 0) := by simp [q_row, h60, c5, c7, c8]
          exact z_iret C hr rfl hz hS ⟨2, 1, 0, nl, nn, nf, nc, lk, ks, (upd gv 2 (gv 2 + 1)), gu, gk, gm, gc, gw, gl, gh, gt, gy, gq, ge1, gn1, gp1, gs, gx1, gx2, gx3, ln, fz, sq, (by rw [hq]), (by rw [hq]), (by rw [hq]), (by rw [hq]), (by rw [hq]; exact (zEV2 gv).symm), rfl, rfl, (by rw [if_neg (by decide)]), (by rw [if_neg (by decide)]), (by rw [if_neg (by decide)]), (by rw [if_neg (by decide)]), (by rw [if_neg (by decide)]), (zGC_no (by decide)), rfl, rfl, rfl, rfl, rfl, rfl, rfl, rfl, rfl, rfl, rfl, rfl, rfl, ⟨a12, a13, a16, a18, a20, a22, a24, a26, a28, a30, a32, a34, a36, a38, a40, a42, a44, a46, a48, hn60, hl12, hf6, hc60, hs40, hMP, hgy, hfz, hgs, hME, hlk, hgw, hfd, n_wki_wmy, n_wki_wiw, n_wki_wli, n_wki_wha, n_wki_wem, n_wki_wna, n_wki_wpl, n_wmy_wiw, n_wmy_wli, n_wmy_wha, n_wmy_wem, n_wmy_wna, n_wmy_wpl, n_wiw_wli, n_wiw_wha, n_wiw_wem, n_wiw_wna, n_wiw_wpl, n_wli_wha, n_wli_wem, n_wli_wna, n_wli_wpl, n_wha_wem, n_wha_wna, n_wha_wpl, n_wem_wna, n_wem_wpl, n_wna_wpl, n_wk1_wk2, n_wk1_wk3, n_wk2_wk3⟩⟩ (Nat.le_of_ble_eq_true rfl) (Nat.le_of_ble_eq_true rfl) dX8_row_53
        · refine lv_iload_n hx hb dX8_row_41 rfl (lv_at hl 2 rfl) ?_
          refine lv_iload_n hx hb dX8_row_42 rfl (lv_at hl 1 rfl) ?_
          refine lv_icmp_lt (tgt := 54) hx hb dX8_row_43 (by decide) (fun c49 => ?_) (fun c49 => ?_)
          · obtain ⟨t, ht, hxt⟩ := z_ixn (n := 12) (by decide) c7 c5
            have hIx : fI x = t := fI_of (by omega) hxt
            refine lv_aload_n hx hb dX8_row_54 rfl (lv_at hl 0 rfl) ?_
            refine lv_iconst (v := 5) hx hb dX8_row_55 (by decide) ?_
            have a50 : f1 wki = some (.inl (cy 0, 60, .inl gk)) := k4 _ _ x_wki (z_ne x_wki x_o rfl)
            have a51 : f1 wmy = some (.inl (cy 0, 60, .inl gm)) := k4 _ _ x_wmy (z_ne x_wmy x_o rfl)
            refine z_callVv (As := [.int 5]) C hz hS hA hl (k_X8_start l D cy f1 o wev wnb wki wmy wce wiw wli wha wwt wfy wfk wem wna wpl whs wk1 wk2 wk3 0 (-1) 0 nl nn nf nc lk ks gk gm 5 a3 a50 a51 (by omega) n_wki_wmy) zyX8_start mMX8_119 a3 zl8 rfl rfl (Nat.le_of_ble_eq_true rfl) ⟨Nat.le_of_ble_eq_true rfl, Nat.le_of_ble_eq_true rfl⟩ ⟨Nat.le_of_ble_eq_true rfl, Nat.le_of_ble_eq_true rfl⟩ dX8_row_56 (fun  f52 H locs h53 hz hS => ?_)
            obtain ⟨a54, a55, k56⟩ := h53
            refine lv_aload_n hx hb dX8_row_59 rfl (lv_at hl 0 rfl) ?_
            refine lv_iload_n hx hb dX8_row_60 rfl (lv_at hl 1 rfl) ?_
            refine lv_i2l (v := x.toInt64) hx hb dX8_row_61 rfl ?_
            have a57 : f52 o = some (.inr (8, [.int 0, .int (-1), .int 0, .ref wev, .int (nI nl), .ref wnb, .int (nI nn), .ref wki, .ref wmy, .ref wce, .ref wiw, .ref wli, .ref wha, .ref wwt, .int (nI nf), .ref wfy, .ref wfk, .int (nI nc), .ref wem, .ref wna, .ref wpl, .ref whs, .long lk, .int (nI ks), .ref wk1, .ref wk2, .ref wk3])) := k56 _ _ a3 (z_ne a3 a50 rfl) (z_ne a3 a51 rfl)
            have a58 : f1 wce = some (.inl (cy 1, 960, .inr (.inl gc))) := k4 _ _ x_wce (z_ne x_wce x_o rfl)
            have a59 : f52 wce = some (.inl (cy 1, 960, .inr (.inl gc))) := k56 _ _ a58 (z_ne a58 a50 rfl) (z_ne a58 a51 rfl)
            refine z_callVv (As := [.long x.toInt64]) C hz hS hA hl (k_X8_part l D cy f52 o wev wnb wki wmy wce wiw wli wha wwt wfy wfk wem wna wpl whs wk1 wk2 wk3 0 (-1) 0 nl nn nf nc lk ks gc (upd gm nn 0) x.toInt64 0 a57 a59 a55 (by omega) pk_us (by omega)) zyX8_part mMX8_127 a57 zl8 rfl rfl (Nat.le_of_ble_eq_true rfl) ⟨Nat.le_of_ble_eq_true rfl, Nat.le_of_ble_eq_true rfl⟩ ⟨Nat.le_of_ble_eq_true rfl, Nat.le_of_ble_eq_true rfl⟩ dX8_row_62 (fun  f60 H locs h61 hz hS => ?_)
            obtain ⟨a62, a63, k64⟩ := h61
            refine lv_aload_n hx hb dX8_row_65 rfl (lv_at hl 0 rfl) ?_
            refine lv_iload_n hx hb dX8_row_66 rfl (lv_at hl 2 rfl) ?_
            refine lv_i2l (v := y.toInt64) hx hb dX8_row_67 rfl ?_
            have a65 : f60 o = some (.inr (8, [.int 0, .int (-1), .int 0, .ref wev, .int (nI nl), .ref wnb, .int (nI nn), .ref wki, .ref wmy, .ref wce, .ref wiw, .ref wli, .ref wha, .ref wwt, .int (nI nf), .ref wfy, .ref wfk, .int (nI nc), .ref wem, .ref wna, .ref wpl, .ref whs, .long lk, .int (nI ks), .ref wk1, .ref wk2, .ref wk3])) := k64 _ _ a57 (z_ne a57 a59 rfl) (z_ne a57 a55 rfl)
            refine z_callVv (As := [.long y.toInt64]) C hz hS hA hl (k_X8_part l D cy f60 o wev wnb wki wmy wce wiw wli wha wwt wfy wfk wem wna wpl whs wk1 wk2 wk3 0 (-1) 0 nl nn nf nc lk ks (vp_updL gc (16 * nn + 0) x.toInt64) (upd (upd gm nn 0) nn (nI (0 + 1))) y.toInt64 1 a65 a62 a63 (by omega) pk_us (by omega)) zyX8_part mMX8_127 a65 zl8 rfl rfl (Nat.le_of_ble_eq_true rfl) ⟨Nat.le_of_ble_eq_true rfl, Nat.le_of_ble_eq_true rfl⟩ ⟨Nat.le_of_ble_eq_true rfl, Nat.le_of_ble_eq_true rfl⟩ dX8_row_68 (fun  f66 H locs h67 hz hS => ?_)
            obtain ⟨a68, a69, k70⟩ := h67
            refine lv_aload_n hx hb dX8_row_71 rfl (lv_at hl 0 rfl) ?_
            refine lv_aload_n hx hb dX8_row_72 rfl (lv_at hl 0 rfl) ?_
            refine lv_iload_n hx hb dX8_row_73 rfl (lv_at hl 2 rfl) ?_
            have a71 : f66 o = some (.inr (8, [.int 0, .int (-1), .int 0, .ref wev, .int (nI nl), .ref wnb, .int (nI nn), .ref wki, .ref wmy, .ref wce, .ref wiw, .ref wli, .ref wha, .ref wwt, .int (nI nf), .ref wfy, .ref wfk, .int (nI nc), .ref wem, .ref wna, .ref wpl, .ref whs, .long lk, .int (nI ks), .ref wk1, .ref wk2, .ref wk3])) := k70 _ _ a65 (z_ne a65 a62 rfl) (z_ne a65 a63 rfl)
            have a72 : f1 wnb = some (.inl (cy 0, 12, .inl gu)) := k4 _ _ x_wnb (z_ne x_wnb x_o rfl)
            have a73 : f52 wnb = some (.inl (cy 0, 12, .inl gu)) := k56 _ _ a72 (z_ne a72 a50 rfl) (z_ne a72 a51 rfl)
            have a74 : f60 wnb = some (.inl (cy 0, 12, .inl gu)) := k64 _ _ a73 (z_ne a73 a59 rfl) (z_ne a73 a55 rfl)
            have a75 : f66 wnb = some (.inl (cy 0, 12, .inl gu)) := k70 _ _ a74 (z_ne a74 a62 rfl) (z_ne a74 a63 rfl)
            refine z_callVi (As := [.int y]) C hz hS hA hl (k_X8_laid l D cy f66 o wev wnb wki wmy wce wiw wli wha wwt wfy wfk wem wna wpl whs wk1 wk2 wk3 0 (-1) 0 nl nn nf nc lk ks gu y a71 a75 hl12 (Int32.not_lt.mp c8)) zyX8_laid mMX8_142 a71 zl8 rfl rfl (Nat.le_of_ble_eq_true rfl) ⟨Nat.le_of_ble_eq_true rfl, Nat.le_of_ble_eq_true rfl⟩ ⟨Nat.le_of_ble_eq_true rfl, Nat.le_of_ble_eq_true rfl⟩ dX8_row_74 (fun r f76 H locs h77 hz hS => ?_)
            obtain ⟨rfl, k78⟩ := h77
            refine lv_i2l (v := (qlaid nl gu y).toInt64) hx hb dX8_row_77 rfl ?_
            have a79 : f76 o = some (.inr (8, [.int 0, .int (-1), .int 0, .ref wev, .int (nI nl), .ref wnb, .int (nI nn), .ref wki, .ref wmy, .ref wce, .ref wiw, .ref wli, .ref wha, .ref wwt, .int (nI nf), .ref wfy, .ref wfk, .int (nI nc), .ref wem, .ref wna, .ref wpl, .ref whs, .long lk, .int (nI ks), .ref wk1, .ref wk2, .ref wk3])) := k78 _ _ a71 
            have a80 : f76 wce = some (.inl (cy 1, 960, .inr (.inl (vp_updL (vp_updL gc (16 * nn + 0) x.toInt64) (16 * nn + 1) y.toInt64)))) := k78 _ _ a68 
            have a81 : f76 wmy = some (.inl (cy 0, 60, .inl (upd (upd (upd gm nn 0) nn (nI (0 + 1))) nn (nI (1 + 1))))) := k78 _ _ a69 
            refine z_callVv (As := [.long ((qlaid nl gu y).toInt64)]) C hz hS hA hl (k_X8_part l D cy f76 o wev wnb wki wmy wce wiw wli wha wwt wfy wfk wem wna wpl whs wk1 wk2 wk3 0 (-1) 0 nl nn nf nc lk ks (vp_updL (vp_updL gc (16 * nn + 0) x.toInt64) (16 * nn + 1) y.toInt64) (upd (upd (upd gm nn 0) nn (nI (0 + 1))) nn (nI (1 + 1))) ((qlaid nl gu y).toInt64) 2 a79 a80 a81 (by omega) pk_us (by omega)) zyX8_part mMX8_127 a79 zl8 rfl rfl (Nat.le_of_ble_eq_true rfl) ⟨Nat.le_of_ble_eq_true rfl, Nat.le_of_ble_eq_true rfl⟩ ⟨Nat.le_of_ble_eq_true rfl, Nat.le_of_ble_eq_true rfl⟩ dX8_row_78 (fun  f82 H locs h83 hz hS => ?_)
            obtain ⟨a84, a85, k86⟩ := h83
            refine lv_iconst (v := 0) hx hb dX8_row_81 (by decide) ?_
            refine lv_istore_n (lv' := [(3, .int 0), (0, .ref o), (1, .int x), (2, .int y)]) hx hb dX8_row_82 rfl hl (by decide) rfl (fun ls hl => ?_)
            have lp87 : ∀ (n : Nat) (i : Nat) (gcv : Nat → Int64) (gmv : Nat → Int32) (fL88 : zM) (H : Heap) (locs : List Loc) (ls : Array Slot), (t - i) < n → (i ≤ t) → (gmv nn = nI (3 + i)) → (∀ i9, i9 < nn → gmv i9 = gm i9) → (∀ i9, i9 < nn → ∀ j9, j9 < 16 → gcv (16 * i9 + j9) = gc (16 * i9 + j9)) → (gcv (16 * nn) = lN t) → (∀ j, j < 3 + i → gcv (16 * nn + j) = qrow nl gu x y j) → fL88 wce = some (.inl (cy 1, 960, .inr (.inl gcv))) → fL88 wmy = some (.inl (cy 0, 60, .inl gmv)) → (∀ (b : Nat) (e : va_E), f82 b = some e → b ≠ wce → b ≠ wmy → fL88 b = some e) → zH D (zA f s.heap.size) fL88 H → va_S (zA f s.heap.size) s.heap H locs → lv_has ls 4 [(0, .ref o), (1, .int x), (3, .int (nI i))] → W p l e rmX8_row s m ([.ref o, .int x, .int y] : List Value).toArray below meth c H locs 0 0 (MQ below (va_Qi (fun (r : Int32) (f1 : zM) => ∃ (u11 : Int32) (u21 : Int32) (u31 : Int32) (nl1 : Nat) (nn1 : Nat) (nf1 : Nat) (nc1 : Nat) (lk1 : Int64) (ks1 : Nat) (gv1 : Nat → Int32) (gu1 : Nat → Int32) (gk1 : Nat → Int32) (gm1 : Nat → Int32) (gc1 : Nat → Int64) (gw1 : Nat → Int32) (gl1 : Nat → Int32) (gh1 : Nat → Int32) (gt1 : Nat → Int64) (gy1 : Nat → Int32) (gq1 : Nat → Int32) (ge11 : Nat → Int32) (gn11 : Nat → Int32) (gp11 : Nat → Int32) (gs1 : Nat → Int32) (gx11 : Nat → Int32) (gx21 : Nat → Int32) (gx31 : Nat → Int32) (ln1 : Nat → Nat) (fz1 : Nat → Nat) (sq1 : Nat → Nat), r = ((q_row nn x y).1) ∧ (u11 = (q_row nn x y).2.1) ∧ (u21 = (q_row nn x y).2.2.1) ∧ (u31 = (q_row nn x y).2.2.2) ∧ (gv1 = zEV gv (q_row nn x y).2.1) ∧ (nl1 = nl) ∧ (gu1 = gu) ∧ (nn1 = if 0 ≤ r then nn + 1 else nn) ∧ (gk1 = if 0 ≤ r then va_up gk nn 5 else gk) ∧ (ln1 = if 0 ≤ r then va_up ln nn (3 + fI x) else ln) ∧ (gw1 = if 0 ≤ r then va_up gw nn 0 else gw) ∧ (gh1 = if 0 ≤ r then va_up gh nn (zHash 5 nn (3 + fI x) (qrow nl gu x y) gh) else gh) ∧ (zGC nn (0 ≤ r) (3 + fI x) (qrow nl gu x y) gc gc1) ∧ (nf1 = nf) ∧ (fz1 = fz) ∧ (gq1 = gq) ∧ (nc1 = nc) ∧ (ge11 = ge1) ∧ (gn11 = gn1) ∧ (gp11 = gp1) ∧ (sq1 = sq) ∧ (ks1 = ks) ∧ (gx11 = gx1) ∧ (gx21 = gx2) ∧ (gx31 = gx3) ∧ (lk1 = lk) ∧ zIM cy f1 o wev wnb wki wmy wce wiw wli wha wwt wfy wfk wem wna wpl whs wk1 wk2 wk3 u11 u21 u31 nl1 nn1 nf1 nc1 lk1 ks1 gv1 gu1 gk1 gm1 gc1 gw1 gl1 gh1 gt1 gy1 gq1 ge11 gn11 gp11 gs1 gx11 gx21 gx31 ln1 fz1 sq1) (zB D f s.heap.size) (zA f s.heap.size)) ([.ref o, .int x, .int y] : List Value).toArray s rmX8_row.cells rmX8_row.slots (zA f s.heap.size)) (F0 m 83 ls []) := by
              intro n
              induction n with
              | zero => intro i gcv gmv fL88 H locs ls hmz; exact absurd hmz (Nat.not_lt_zero _)
              | succ n ih =>
                intro i gcv gmv fL88 H locs ls hmz hi hgm hgk9 hgc9 hgc0 hgr a90 a91 k89 hz hS hl
                refine lv_iload_n hx hb dX8_row_83 rfl (lv_at hl 2 rfl) ?_
                refine lv_iload_n hx hb dX8_row_84 rfl (lv_at hl 1 rfl) ?_
                refine lv_icmp_ge (tgt := 104) hx hb dX8_row_85 (by decide) (fun c92 => ?_) (fun c92 => ?_)
                · replace c92 : t ≤ i := by rw [hxt] at c92; exact (nI_leI (by omega) (by omega)).mp c92
                  refine lv_aload_n hx hb dX8_row_104 rfl (lv_at hl 0 rfl) ?_
                  have a93 : f82 o = some (.inr (8, [.int 0, .int (-1), .int 0, .ref wev, .int (nI nl), .ref wnb, .int (nI nn), .ref wki, .ref wmy, .ref wce, .ref wiw, .ref wli, .ref wha, .ref wwt, .int (nI nf), .ref wfy, .ref wfk, .int (nI nc), .ref wem, .ref wna, .ref wpl, .ref whs, .long lk, .int (nI ks), .ref wk1, .ref wk2, .ref wk3])) := k86 _ _ a79 (z_ne a79 a80 rfl) (z_ne a79 a81 rfl)
                  have a94 : fL88 o = some (.inr (8, [.int 0, .int (-1), .int 0, .ref wev, .int (nI nl), .ref wnb, .int (nI nn), .ref wki, .ref wmy, .ref wce, .ref wiw, .ref wli, .ref wha, .ref wwt, .int (nI nf), .ref wfy, .ref wfk, .int (nI nc), .ref wem, .ref wna, .ref wpl, .ref whs, .long lk, .int (nI ks), .ref wk1, .ref wk2, .ref wk3])) := k89 _ _ a93 (z_ne a93 a84 rfl) (z_ne a93 a85 rfl)
                  have a95 : f60 wki = some (.inl (cy 0, 60, .inl (upd gk nn 5))) := k64 _ _ a54 (z_ne a54 a59 rfl) n_wki_wmy
                  have a96 : f66 wki = some (.inl (cy 0, 60, .inl (upd gk nn 5))) := k70 _ _ a95 (z_ne a95 a62 rfl) n_wki_wmy
                  have a97 : f76 wki = some (.inl (cy 0, 60, .inl (upd gk nn 5))) := k78 _ _ a96 
                  have a98 : f82 wki = some (.inl (cy 0, 60, .inl (upd gk nn 5))) := k86 _ _ a97 (z_ne a97 a80 rfl) n_wki_wmy
                  have a99 : fL88 wki = some (.inl (cy 0, 60, .inl (upd gk nn 5))) := k89 _ _ a98 (z_ne a98 a84 rfl) n_wki_wmy
                  have a100 : f1 wli = some (.inl (cy 0, 60, .inl gl)) := k4 _ _ x_wli (z_ne x_wli x_o rfl)
                  have a101 : f52 wli = some (.inl (cy 0, 60, .inl gl)) := k56 _ _ a100 (Ne.symm n_wki_wli) (Ne.symm n_wmy_wli)
                  have a102 : f60 wli = some (.inl (cy 0, 60, .inl gl)) := k64 _ _ a101 (z_ne a101 a59 rfl) (Ne.symm n_wmy_wli)
                  have a103 : f66 wli = some (.inl (cy 0, 60, .inl gl)) := k70 _ _ a102 (z_ne a102 a62 rfl) (Ne.symm n_wmy_wli)
                  have a104 : f76 wli = some (.inl (cy 0, 60, .inl gl)) := k78 _ _ a103 
                  have a105 : f82 wli = some (.inl (cy 0, 60, .inl gl)) := k86 _ _ a104 (z_ne a104 a80 rfl) (Ne.symm n_wmy_wli)
                  have a106 : fL88 wli = some (.inl (cy 0, 60, .inl gl)) := k89 _ _ a105 (z_ne a105 a84 rfl) (Ne.symm n_wmy_wli)
                  have a107 : f1 wha = some (.inl (cy 0, 60, .inl gh)) := k4 _ _ x_wha (z_ne x_wha x_o rfl)
                  have a108 : f52 wha = some (.inl (cy 0, 60, .inl gh)) := k56 _ _ a107 (Ne.symm n_wki_wha) (Ne.symm n_wmy_wha)
                  have a109 : f60 wha = some (.inl (cy 0, 60, .inl gh)) := k64 _ _ a108 (z_ne a108 a59 rfl) (Ne.symm n_wmy_wha)
                  have a110 : f66 wha = some (.inl (cy 0, 60, .inl gh)) := k70 _ _ a109 (z_ne a109 a62 rfl) (Ne.symm n_wmy_wha)
                  have a111 : f76 wha = some (.inl (cy 0, 60, .inl gh)) := k78 _ _ a110 
                  have a112 : f82 wha = some (.inl (cy 0, 60, .inl gh)) := k86 _ _ a111 (z_ne a111 a80 rfl) (Ne.symm n_wmy_wha)
                  have a113 : fL88 wha = some (.inl (cy 0, 60, .inl gh)) := k89 _ _ a112 (z_ne a112 a84 rfl) (Ne.symm n_wmy_wha)
                  refine z_callVi (As := []) C hz hS hA hl (k_X8_made l D cy fL88 o wev wnb wki wmy wce wiw wli wha wwt wfy wfk wem wna wpl whs wk1 wk2 wk3 0 (-1) 0 nl nn nf nc lk ks (upd gk nn 5) gmv gcv gl gh ln (3 + i) a94 a99 a91 a90 a106 a113 (by omega) (zMP_keep hMP (fun i9 h9 => by simp only [upd, if_neg (show ¬ i9 = nn by omega)]) hgk9 hgc9) hgm (by omega) (by rw [pk_us]; exact fun h9 => absurd h9 (by decide)) n_wki_wmy n_wki_wli n_wki_wha n_wmy_wli n_wmy_wha n_wli_wha) zyX8_made mMX8_131 a94 zl8 rfl rfl (Nat.le_of_ble_eq_true rfl) ⟨Nat.le_of_ble_eq_true rfl, Nat.le_of_ble_eq_true rfl⟩ ⟨Nat.le_of_ble_eq_true rfl, Nat.le_of_ble_eq_true rfl⟩ dX8_row_105 (fun r f114 H locs h115 hz hS => ?_)
                  obtain ⟨gl_116, rfl, a117, a118, a119, k120⟩ := h115
                  have a121 : f1 wev = some (.inl (cy 0, 8, .inl gv)) := k4 _ _ x_wev (z_ne x_wev x_o rfl)
                  have a122 : f52 wev = some (.inl (cy 0, 8, .inl gv)) := k56 _ _ a121 (z_ne a121 a50 rfl) (z_ne a121 a51 rfl)
                  have a123 : f60 wev = some (.inl (cy 0, 8, .inl gv)) := k64 _ _ a122 (z_ne a122 a59 rfl) (z_ne a122 a55 rfl)
                  have a124 : f66 wev = some (.inl (cy 0, 8, .inl gv)) := k70 _ _ a123 (z_ne a123 a62 rfl) (z_ne a123 a63 rfl)
                  have a125 : f76 wev = some (.inl (cy 0, 8, .inl gv)) := k78 _ _ a124 
                  have a126 : f82 wev = some (.inl (cy 0, 8, .inl gv)) := k86 _ _ a125 (z_ne a125 a80 rfl) (z_ne a125 a81 rfl)
                  have a127 : fL88 wev = some (.inl (cy 0, 8, .inl gv)) := k89 _ _ a126 (z_ne a126 a84 rfl) (z_ne a126 a85 rfl)
                  have a128 : f114 wev = some (.inl (cy 0, 8, .inl gv)) := k120 _ _ a127 (z_ne a127 a94 rfl) (z_ne a127 a106 rfl) (z_ne a127 a113 rfl)
                  have a129 : f76 wnb = some (.inl (cy 0, 12, .inl gu)) := k78 _ _ a75 
                  have a130 : f82 wnb = some (.inl (cy 0, 12, .inl gu)) := k86 _ _ a129 (z_ne a129 a80 rfl) (z_ne a129 a81 rfl)
                  have a131 : fL88 wnb = some (.inl (cy 0, 12, .inl gu)) := k89 _ _ a130 (z_ne a130 a84 rfl) (z_ne a130 a85 rfl)
                  have a132 : f114 wnb = some (.inl (cy 0, 12, .inl gu)) := k120 _ _ a131 (z_ne a131 a94 rfl) (z_ne a131 a106 rfl) (z_ne a131 a113 rfl)
                  have a133 : f114 wki = some (.inl (cy 0, 60, .inl (upd gk nn 5))) := k120 _ _ a99 (z_ne a99 a94 rfl) n_wki_wli n_wki_wha
                  have a134 : f114 wmy = some (.inl (cy 0, 60, .inl gmv)) := k120 _ _ a91 (z_ne a91 a94 rfl) n_wmy_wli n_wmy_wha
                  have a135 : f114 wce = some (.inl (cy 1, 960, .inr (.inl gcv))) := k120 _ _ a90 (z_ne a90 a94 rfl) (z_ne a90 a106 rfl) (z_ne a90 a113 rfl)
                  have a136 : f1 wiw = some (.inl (cy 2, 60, .inl gw)) := k4 _ _ x_wiw (z_ne x_wiw x_o rfl)
                  have a137 : f52 wiw = some (.inl (cy 2, 60, .inl gw)) := k56 _ _ a136 (Ne.symm n_wki_wiw) (Ne.symm n_wmy_wiw)
                  have a138 : f60 wiw = some (.inl (cy 2, 60, .inl gw)) := k64 _ _ a137 (z_ne a137 a59 rfl) (Ne.symm n_wmy_wiw)
                  have a139 : f66 wiw = some (.inl (cy 2, 60, .inl gw)) := k70 _ _ a138 (z_ne a138 a62 rfl) (Ne.symm n_wmy_wiw)
                  have a140 : f76 wiw = some (.inl (cy 2, 60, .inl gw)) := k78 _ _ a139 
                  have a141 : f82 wiw = some (.inl (cy 2, 60, .inl gw)) := k86 _ _ a140 (z_ne a140 a80 rfl) (Ne.symm n_wmy_wiw)
                  have a142 : fL88 wiw = some (.inl (cy 2, 60, .inl gw)) := k89 _ _ a141 (z_ne a141 a84 rfl) (Ne.symm n_wmy_wiw)
                  have a143 : f114 wiw = some (.inl (cy 2, 60, .inl gw)) := k120 _ _ a142 (z_ne a142 a94 rfl) n_wiw_wli n_wiw_wha
                  have a144 : f1 wwt = some (.inl (cy 1, 60, .inr (.inl gt))) := k4 _ _ x_wwt (z_ne x_wwt x_o rfl)
                  have a145 : f52 wwt = some (.inl (cy 1, 60, .inr (.inl gt))) := k56 _ _ a144 (z_ne a144 a50 rfl) (z_ne a144 a51 rfl)
                  have a146 : f60 wwt = some (.inl (cy 1, 60, .inr (.inl gt))) := k64 _ _ a145 (z_ne a145 a59 rfl) (z_ne a145 a55 rfl)
                  have a147 : f66 wwt = some (.inl (cy 1, 60, .inr (.inl gt))) := k70 _ _ a146 (z_ne a146 a62 rfl) (z_ne a146 a63 rfl)
                  have a148 : f76 wwt = some (.inl (cy 1, 60, .inr (.inl gt))) := k78 _ _ a147 
                  have a149 : f82 wwt = some (.inl (cy 1, 60, .inr (.inl gt))) := k86 _ _ a148 (z_ne a148 a80 rfl) (z_ne a148 a81 rfl)
                  have a150 : fL88 wwt = some (.inl (cy 1, 60, .inr (.inl gt))) := k89 _ _ a149 (z_ne a149 a84 rfl) (z_ne a149 a85 rfl)
                  have a151 : f114 wwt = some (.inl (cy 1, 60, .inr (.inl gt))) := k120 _ _ a150 (z_ne a150 a94 rfl) (z_ne a150 a106 rfl) (z_ne a150 a113 rfl)
                  have a152 : f1 wfy = some (.inl (cy 0, 6, .inl gy)) := k4 _ _ x_wfy (z_ne x_wfy x_o rfl)
                  have a153 : f52 wfy = some (.inl (cy 0, 6, .inl gy)) := k56 _ _ a152 (z_ne a152 a50 rfl) (z_ne a152 a51 rfl)
                  have a154 : f60 wfy = some (.inl (cy 0, 6, .inl gy)) := k64 _ _ a153 (z_ne a153 a59 rfl) (z_ne a153 a55 rfl)
                  have a155 : f66 wfy = some (.inl (cy 0, 6, .inl gy)) := k70 _ _ a154 (z_ne a154 a62 rfl) (z_ne a154 a63 rfl)
                  have a156 : f76 wfy = some (.inl (cy 0, 6, .inl gy)) := k78 _ _ a155 
                  have a157 : f82 wfy = some (.inl (cy 0, 6, .inl gy)) := k86 _ _ a156 (z_ne a156 a80 rfl) (z_ne a156 a81 rfl)
                  have a158 : fL88 wfy = some (.inl (cy 0, 6, .inl gy)) := k89 _ _ a157 (z_ne a157 a84 rfl) (z_ne a157 a85 rfl)
                  have a159 : f114 wfy = some (.inl (cy 0, 6, .inl gy)) := k120 _ _ a158 (z_ne a158 a94 rfl) (z_ne a158 a106 rfl) (z_ne a158 a113 rfl)
                  have a160 : f1 wfk = some (.inl (cy 0, 24, .inl gq)) := k4 _ _ x_wfk (z_ne x_wfk x_o rfl)
                  have a161 : f52 wfk = some (.inl (cy 0, 24, .inl gq)) := k56 _ _ a160 (z_ne a160 a50 rfl) (z_ne a160 a51 rfl)
                  have a162 : f60 wfk = some (.inl (cy 0, 24, .inl gq)) := k64 _ _ a161 (z_ne a161 a59 rfl) (z_ne a161 a55 rfl)
                  have a163 : f66 wfk = some (.inl (cy 0, 24, .inl gq)) := k70 _ _ a162 (z_ne a162 a62 rfl) (z_ne a162 a63 rfl)
                  have a164 : f76 wfk = some (.inl (cy 0, 24, .inl gq)) := k78 _ _ a163 
                  have a165 : f82 wfk = some (.inl (cy 0, 24, .inl gq)) := k86 _ _ a164 (z_ne a164 a80 rfl) (z_ne a164 a81 rfl)
                  have a166 : fL88 wfk = some (.inl (cy 0, 24, .inl gq)) := k89 _ _ a165 (z_ne a165 a84 rfl) (z_ne a165 a85 rfl)
                  have a167 : f114 wfk = some (.inl (cy 0, 24, .inl gq)) := k120 _ _ a166 (z_ne a166 a94 rfl) (z_ne a166 a106 rfl) (z_ne a166 a113 rfl)
                  have a168 : f1 wem = some (.inl (cy 0, 60, .inl ge1)) := k4 _ _ x_wem (z_ne x_wem x_o rfl)
                  have a169 : f52 wem = some (.inl (cy 0, 60, .inl ge1)) := k56 _ _ a168 (Ne.symm n_wki_wem) (Ne.symm n_wmy_wem)
                  have a170 : f60 wem = some (.inl (cy 0, 60, .inl ge1)) := k64 _ _ a169 (z_ne a169 a59 rfl) (Ne.symm n_wmy_wem)
                  have a171 : f66 wem = some (.inl (cy 0, 60, .inl ge1)) := k70 _ _ a170 (z_ne a170 a62 rfl) (Ne.symm n_wmy_wem)
                  have a172 : f76 wem = some (.inl (cy 0, 60, .inl ge1)) := k78 _ _ a171 
                  have a173 : f82 wem = some (.inl (cy 0, 60, .inl ge1)) := k86 _ _ a172 (z_ne a172 a80 rfl) (Ne.symm n_wmy_wem)
                  have a174 : fL88 wem = some (.inl (cy 0, 60, .inl ge1)) := k89 _ _ a173 (z_ne a173 a84 rfl) (Ne.symm n_wmy_wem)
                  have a175 : f114 wem = some (.inl (cy 0, 60, .inl ge1)) := k120 _ _ a174 (z_ne a174 a94 rfl) (Ne.symm n_wli_wem) (Ne.symm n_wha_wem)
                  have a176 : f1 wna = some (.inl (cy 0, 60, .inl gn1)) := k4 _ _ x_wna (z_ne x_wna x_o rfl)
                  have a177 : f52 wna = some (.inl (cy 0, 60, .inl gn1)) := k56 _ _ a176 (Ne.symm n_wki_wna) (Ne.symm n_wmy_wna)
                  have a178 : f60 wna = some (.inl (cy 0, 60, .inl gn1)) := k64 _ _ a177 (z_ne a177 a59 rfl) (Ne.symm n_wmy_wna)
                  have a179 : f66 wna = some (.inl (cy 0, 60, .inl gn1)) := k70 _ _ a178 (z_ne a178 a62 rfl) (Ne.symm n_wmy_wna)
                  have a180 : f76 wna = some (.inl (cy 0, 60, .inl gn1)) := k78 _ _ a179 
                  have a181 : f82 wna = some (.inl (cy 0, 60, .inl gn1)) := k86 _ _ a180 (z_ne a180 a80 rfl) (Ne.symm n_wmy_wna)
                  have a182 : fL88 wna = some (.inl (cy 0, 60, .inl gn1)) := k89 _ _ a181 (z_ne a181 a84 rfl) (Ne.symm n_wmy_wna)
                  have a183 : f114 wna = some (.inl (cy 0, 60, .inl gn1)) := k120 _ _ a182 (z_ne a182 a94 rfl) (Ne.symm n_wli_wna) (Ne.symm n_wha_wna)
                  have a184 : f1 wpl = some (.inl (cy 0, 60, .inl gp1)) := k4 _ _ x_wpl (z_ne x_wpl x_o rfl)
                  have a185 : f52 wpl = some (.inl (cy 0, 60, .inl gp1)) := k56 _ _ a184 (Ne.symm n_wki_wpl) (Ne.symm n_wmy_wpl)
                  have a186 : f60 wpl = some (.inl (cy 0, 60, .inl gp1)) := k64 _ _ a185 (z_ne a185 a59 rfl) (Ne.symm n_wmy_wpl)
                  have a187 : f66 wpl = some (.inl (cy 0, 60, .inl gp1)) := k70 _ _ a186 (z_ne a186 a62 rfl) (Ne.symm n_wmy_wpl)
                  have a188 : f76 wpl = some (.inl (cy 0, 60, .inl gp1)) := k78 _ _ a187 
                  have a189 : f82 wpl = some (.inl (cy 0, 60, .inl gp1)) := k86 _ _ a188 (z_ne a188 a80 rfl) (Ne.symm n_wmy_wpl)
                  have a190 : fL88 wpl = some (.inl (cy 0, 60, .inl gp1)) := k89 _ _ a189 (z_ne a189 a84 rfl) (Ne.symm n_wmy_wpl)
                  have a191 : f114 wpl = some (.inl (cy 0, 60, .inl gp1)) := k120 _ _ a190 (z_ne a190 a94 rfl) (Ne.symm n_wli_wpl) (Ne.symm n_wha_wpl)
                  have a192 : f1 whs = some (.inl (cy 0, 4, .inl gs)) := k4 _ _ x_whs (z_ne x_whs x_o rfl)
                  have a193 : f52 whs = some (.inl (cy 0, 4, .inl gs)) := k56 _ _ a192 (z_ne a192 a50 rfl) (z_ne a192 a51 rfl)
                  have a194 : f60 whs = some (.inl (cy 0, 4, .inl gs)) := k64 _ _ a193 (z_ne a193 a59 rfl) (z_ne a193 a55 rfl)
                  have a195 : f66 whs = some (.inl (cy 0, 4, .inl gs)) := k70 _ _ a194 (z_ne a194 a62 rfl) (z_ne a194 a63 rfl)
                  have a196 : f76 whs = some (.inl (cy 0, 4, .inl gs)) := k78 _ _ a195 
                  have a197 : f82 whs = some (.inl (cy 0, 4, .inl gs)) := k86 _ _ a196 (z_ne a196 a80 rfl) (z_ne a196 a81 rfl)
                  have a198 : fL88 whs = some (.inl (cy 0, 4, .inl gs)) := k89 _ _ a197 (z_ne a197 a84 rfl) (z_ne a197 a85 rfl)
                  have a199 : f114 whs = some (.inl (cy 0, 4, .inl gs)) := k120 _ _ a198 (z_ne a198 a94 rfl) (z_ne a198 a106 rfl) (z_ne a198 a113 rfl)
                  have a200 : f1 wk1 = some (.inl (cy 0, 40, .inl gx1)) := k4 _ _ x_wk1 (z_ne x_wk1 x_o rfl)
                  have a201 : f52 wk1 = some (.inl (cy 0, 40, .inl gx1)) := k56 _ _ a200 (z_ne a200 a50 rfl) (z_ne a200 a51 rfl)
                  have a202 : f60 wk1 = some (.inl (cy 0, 40, .inl gx1)) := k64 _ _ a201 (z_ne a201 a59 rfl) (z_ne a201 a55 rfl)
                  have a203 : f66 wk1 = some (.inl (cy 0, 40, .inl gx1)) := k70 _ _ a202 (z_ne a202 a62 rfl) (z_ne a202 a63 rfl)
                  have a204 : f76 wk1 = some (.inl (cy 0, 40, .inl gx1)) := k78 _ _ a203 
                  have a205 : f82 wk1 = some (.inl (cy 0, 40, .inl gx1)) := k86 _ _ a204 (z_ne a204 a80 rfl) (z_ne a204 a81 rfl)
                  have a206 : fL88 wk1 = some (.inl (cy 0, 40, .inl gx1)) := k89 _ _ a205 (z_ne a205 a84 rfl) (z_ne a205 a85 rfl)
                  have a207 : f114 wk1 = some (.inl (cy 0, 40, .inl gx1)) := k120 _ _ a206 (z_ne a206 a94 rfl) (z_ne a206 a106 rfl) (z_ne a206 a113 rfl)
                  have a208 : f1 wk2 = some (.inl (cy 0, 40, .inl gx2)) := k4 _ _ x_wk2 (z_ne x_wk2 x_o rfl)
                  have a209 : f52 wk2 = some (.inl (cy 0, 40, .inl gx2)) := k56 _ _ a208 (z_ne a208 a50 rfl) (z_ne a208 a51 rfl)
                  have a210 : f60 wk2 = some (.inl (cy 0, 40, .inl gx2)) := k64 _ _ a209 (z_ne a209 a59 rfl) (z_ne a209 a55 rfl)
                  have a211 : f66 wk2 = some (.inl (cy 0, 40, .inl gx2)) := k70 _ _ a210 (z_ne a210 a62 rfl) (z_ne a210 a63 rfl)
                  have a212 : f76 wk2 = some (.inl (cy 0, 40, .inl gx2)) := k78 _ _ a211 
                  have a213 : f82 wk2 = some (.inl (cy 0, 40, .inl gx2)) := k86 _ _ a212 (z_ne a212 a80 rfl) (z_ne a212 a81 rfl)
                  have a214 : fL88 wk2 = some (.inl (cy 0, 40, .inl gx2)) := k89 _ _ a213 (z_ne a213 a84 rfl) (z_ne a213 a85 rfl)
                  have a215 : f114 wk2 = some (.inl (cy 0, 40, .inl gx2)) := k120 _ _ a214 (z_ne a214 a94 rfl) (z_ne a214 a106 rfl) (z_ne a214 a113 rfl)
                  have a216 : f1 wk3 = some (.inl (cy 0, 40, .inl gx3)) := k4 _ _ x_wk3 (z_ne x_wk3 x_o rfl)
                  have a217 : f52 wk3 = some (.inl (cy 0, 40, .inl gx3)) := k56 _ _ a216 (z_ne a216 a50 rfl) (z_ne a216 a51 rfl)
                  have a218 : f60 wk3 = some (.inl (cy 0, 40, .inl gx3)) := k64 _ _ a217 (z_ne a217 a59 rfl) (z_ne a217 a55 rfl)
                  have a219 : f66 wk3 = some (.inl (cy 0, 40, .inl gx3)) := k70 _ _ a218 (z_ne a218 a62 rfl) (z_ne a218 a63 rfl)
                  have a220 : f76 wk3 = some (.inl (cy 0, 40, .inl gx3)) := k78 _ _ a219 
                  have a221 : f82 wk3 = some (.inl (cy 0, 40, .inl gx3)) := k86 _ _ a220 (z_ne a220 a80 rfl) (z_ne a220 a81 rfl)
                  have a222 : fL88 wk3 = some (.inl (cy 0, 40, .inl gx3)) := k89 _ _ a221 (z_ne a221 a84 rfl) (z_ne a221 a85 rfl)
                  have a223 : f114 wk3 = some (.inl (cy 0, 40, .inl gx3)) := k120 _ _ a222 (z_ne a222 a94 rfl) (z_ne a222 a106 rfl) (z_ne a222 a113 rfl)
                  have hgpf : ∀ j, j < 3 + fI x → gcv (16 * nn + j) = (qrow nl gu x y) j := (by obtain rfl : i = t := (by omega); rw [hIx]; exact hgr)
                  have hgkp : ∀ i, i < nn → ∀ j, j < 16 → gcv (16 * i + j) = gc (16 * i + j) := hgc9
                  have hq : q_row nn x y = (nI nn, 0, (-1), 0) := by simp [q_row, h60, c5, c7, c8, c49, c92]
                  exact z_iret C hr rfl hz hS ⟨0, (-1), 0, nl, (nn + 1), nf, nc, lk, ks, gv, gu, (upd gk nn 5), gmv, gcv, gw, gl_116, (upd gh nn (zHash ((upd gk nn 5) nn) nn (3 + i) (fun k => gcv (16 * nn + k)) gh)), gt, gy, gq, ge1, gn1, gp1, gs, gx1, gx2, gx3, (va_up ln nn (3 + i)), fz, sq, (by rw [hq]), (by rw [hq]), (by rw [hq]), (by rw [hq]), (by rw [hq]; exact (zEV0 gv).symm), rfl, rfl, (by rw [if_pos (nI_pos' (by omega))]), (by rw [if_pos (nI_pos' (by omega))]; exact z_uv _ _ _), (by rw [if_pos (nI_pos' (by omega)), hIx, show t = i by omega]), (by rw [if_pos (nI_pos' (by omega))]; exact z_gw0 hgw), (by rw [if_pos (nI_pos' (by omega))]; exact z_hs1 pk_us (by rw [hIx, show t = i by omega]) hgpf), ⟨hgkp, fun _ => hgpf⟩, rfl, rfl, rfl, rfl, rfl, rfl, rfl, rfl, rfl, rfl, rfl, rfl, rfl, ⟨a117, a128, a132, a133, a134, a135, a143, a118, a119, a151, a159, a167, a175, a183, a191, a199, a207, a215, a223, (by omega), hl12, hf6, hc60, hs40, (zMP_new (zMP_keep hMP (fun i9 h9 => by simp only [upd, if_neg (show ¬ i9 = nn by omega)]) hgk9 hgc9) hgm (by rw [pk_us]; exact ⟨by omega, fun h9 => absurd h9 (by decide), fun h9 => absurd h9 (by decide), fun _ => ⟨t, ht, hgc0⟩⟩)), hgy, hfz, hgs, hME, hlk, (fun i9 h9 => hgw i9 (by omega)), hfd, n_wki_wmy, n_wki_wiw, n_wki_wli, n_wki_wha, n_wki_wem, n_wki_wna, n_wki_wpl, n_wmy_wiw, n_wmy_wli, n_wmy_wha, n_wmy_wem, n_wmy_wna, n_wmy_wpl, n_wiw_wli, n_wiw_wha, n_wiw_wem, n_wiw_wna, n_wiw_wpl, n_wli_wha, n_wli_wem, n_wli_wna, n_wli_wpl, n_wha_wem, n_wha_wna, n_wha_wpl, n_wem_wna, n_wem_wpl, n_wna_wpl, n_wk1_wk2, n_wk1_wk3, n_wk2_wk3⟩⟩ (Nat.le_of_ble_eq_true rfl) (Nat.le_of_ble_eq_true rfl) dX8_row_108
                · replace c92 : i < t := by rw [hxt] at c92; exact Nat.not_le.mp (fun h => c92 ((nI_leI (by omega) (by omega)).mpr h))
                  refine lv_aload_n hx hb dX8_row_88 rfl (lv_at hl 0 rfl) ?_
                  refine lv_aload_n hx hb dX8_row_89 rfl (lv_at hl 0 rfl) ?_
                  refine lv_iload_n hx hb dX8_row_90 rfl (lv_at hl 2 rfl) ?_
                  have a224 : f82 o = some (.inr (8, [.int 0, .int (-1), .int 0, .ref wev, .int (nI nl), .ref wnb, .int (nI nn), .ref wki, .ref wmy, .ref wce, .ref wiw, .ref wli, .ref wha, .ref wwt, .int (nI nf), .ref wfy, .ref wfk, .int (nI nc), .ref wem, .ref wna, .ref wpl, .ref whs, .long lk, .int (nI ks), .ref wk1, .ref wk2, .ref wk3])) := k86 _ _ a79 (z_ne a79 a80 rfl) (z_ne a79 a81 rfl)
                  have a225 : fL88 o = some (.inr (8, [.int 0, .int (-1), .int 0, .ref wev, .int (nI nl), .ref wnb, .int (nI nn), .ref wki, .ref wmy, .ref wce, .ref wiw, .ref wli, .ref wha, .ref wwt, .int (nI nf), .ref wfy, .ref wfk, .int (nI nc), .ref wem, .ref wna, .ref wpl, .ref whs, .long lk, .int (nI ks), .ref wk1, .ref wk2, .ref wk3])) := k89 _ _ a224 (z_ne a224 a84 rfl) (z_ne a224 a85 rfl)
                  have a226 : f76 wnb = some (.inl (cy 0, 12, .inl gu)) := k78 _ _ a75 
                  have a227 : f82 wnb = some (.inl (cy 0, 12, .inl gu)) := k86 _ _ a226 (z_ne a226 a80 rfl) (z_ne a226 a81 rfl)
                  have a228 : fL88 wnb = some (.inl (cy 0, 12, .inl gu)) := k89 _ _ a227 (z_ne a227 a84 rfl) (z_ne a227 a85 rfl)
                  refine z_callVi (As := [.int (nI i)]) C hz hS hA hl (k_X8_laid l D cy fL88 o wev wnb wki wmy wce wiw wli wha wwt wfy wfk wem wna wpl whs wk1 wk2 wk3 0 (-1) 0 nl nn nf nc lk ks gu (nI i) a225 a228 hl12 (nI_pos' (by omega))) zyX8_laid mMX8_142 a225 zl8 rfl rfl (Nat.le_of_ble_eq_true rfl) ⟨Nat.le_of_ble_eq_true rfl, Nat.le_of_ble_eq_true rfl⟩ ⟨Nat.le_of_ble_eq_true rfl, Nat.le_of_ble_eq_true rfl⟩ dX8_row_91 (fun r f229 H locs h230 hz hS => ?_)
                  obtain ⟨rfl, k231⟩ := h230
                  refine lv_i2l (v := (qlaid nl gu (nI i)).toInt64) hx hb dX8_row_94 rfl ?_
                  have a232 : f229 o = some (.inr (8, [.int 0, .int (-1), .int 0, .ref wev, .int (nI nl), .ref wnb, .int (nI nn), .ref wki, .ref wmy, .ref wce, .ref wiw, .ref wli, .ref wha, .ref wwt, .int (nI nf), .ref wfy, .ref wfk, .int (nI nc), .ref wem, .ref wna, .ref wpl, .ref whs, .long lk, .int (nI ks), .ref wk1, .ref wk2, .ref wk3])) := k231 _ _ a225 
                  have a233 : f229 wce = some (.inl (cy 1, 960, .inr (.inl gcv))) := k231 _ _ a90 
                  have a234 : f229 wmy = some (.inl (cy 0, 60, .inl gmv)) := k231 _ _ a91 
                  refine z_callVv (As := [.long ((qlaid nl gu (nI i)).toInt64)]) C hz hS hA hl (k_X8_part l D cy f229 o wev wnb wki wmy wce wiw wli wha wwt wfy wfk wem wna wpl whs wk1 wk2 wk3 0 (-1) 0 nl nn nf nc lk ks gcv gmv ((qlaid nl gu (nI i)).toInt64) (3 + i) a232 a233 a234 (by omega) hgm (by omega)) zyX8_part mMX8_127 a232 zl8 rfl rfl (Nat.le_of_ble_eq_true rfl) ⟨Nat.le_of_ble_eq_true rfl, Nat.le_of_ble_eq_true rfl⟩ ⟨Nat.le_of_ble_eq_true rfl, Nat.le_of_ble_eq_true rfl⟩ dX8_row_95 (fun  f235 H locs h236 hz hS => ?_)
                  obtain ⟨a237, a238, k239⟩ := h236
                  refine lv_iinc (v := nI (i + 1)) (lv' := [(3, .int (nI (i + 1))), (0, .ref o), (1, .int x)]) hx hb dX8_row_98 hl (k := 2) rfl (nI_1 i) (by decide) rfl (fun ls hl => ?_)
                  refine lv_goto (tgt := 83) hx hb dX8_row_101 (by decide) ?_
                  exact ih (i + 1) (vp_updL gcv (16 * nn + (3 + i)) ((qlaid nl gu (nI i)).toInt64)) (upd gmv nn (nI ((3 + i) + 1))) _ _ _ _ (by omega) (by omega) pk_us (fun i9 h9 => by rw [pk_un (show i9 ≠ nn by omega)]; exact hgk9 i9 h9) (fun i9 h9 j9 h8 => by rw [pk_uLn (show 16 * i9 + j9 ≠ 16 * nn + (3 + i) by omega)]; exact hgc9 i9 h9 j9 h8) (by rw [pk_uLn (show 16 * nn ≠ 16 * nn + (3 + i) by omega)]; exact hgc0) (zrowM_1 hgr) a237 a238 (by
                        intro b e hb n0 n1
                        have hb6 : fL88 b = some e := k89 b e hb n0 n1
                        have hb7 : f229 b = some e := k231 b e hb6 
                        have hb8 : f235 b = some e := k239 b e hb7 n0 n1
                        exact hb8) hz hS (lv_sub hl [1, 2, 0] rfl)
            exact lp87 (t - 0 + 1) 0 (vp_updL (vp_updL (vp_updL gc (16 * nn + 0) x.toInt64) (16 * nn + 1) y.toInt64) (16 * nn + 2) ((qlaid nl gu y).toInt64)) (upd (upd (upd (upd gm nn 0) nn (nI (0 + 1))) nn (nI (1 + 1))) nn (nI (2 + 1))) _ _ _ _ (Nat.lt_succ_self _) (by omega) pk_us (fun i9 h9 => by simp only [upd, if_neg (show ¬ i9 = nn by omega)]) (fun i9 h9 j9 h8 => by simp (disch := omega) only [pk_uLn]) (by rw [pk_uLn (show 16 * nn ≠ 16 * nn + (1 + 1) by omega), pk_uLn (show 16 * nn ≠ 16 * nn + (0 + 1) by omega)]; exact (pk_uLs (k := 16 * nn + 0)).trans (z_cr (by omega) hxt)) zrowM_0 a84 a85 (fun b e hb n0 n1 => hb) hz hS (lv_sub hl [1, 2, 0] rfl)
          · refine lv_aload_n hx hb dX8_row_46 rfl (lv_at hl 0 rfl) ?_
            refine lv_iconst (v := 2) hx hb dX8_row_47 (by decide) ?_
            refine lv_iconst (v := 1) hx hb dX8_row_48 (by decide) ?_
            refine lv_iconst (v := 0) hx hb dX8_row_49 (by decide) ?_
            have a240 : f1 wev = some (.inl (cy 0, 8, .inl gv)) := k4 _ _ x_wev (z_ne x_wev x_o rfl)
            refine z_callVi (As := [.int 2, .int 1, .int 0]) C hz hS hA hl (k_X8_fails l D cy f1 o wev wnb wki wmy wce wiw wli wha wwt wfy wfk wem wna wpl whs wk1 wk2 wk3 0 (-1) 0 nl nn nf nc lk ks 2 1 0 gv 2 a3 a240 (by decide) (Nat.le_of_ble_eq_true rfl)) zyX8_fails mMX8_135 a3 zl8 rfl rfl (Nat.le_of_ble_eq_true rfl) ⟨Nat.le_of_ble_eq_true rfl, Nat.le_of_ble_eq_true rfl⟩ ⟨Nat.le_of_ble_eq_true rfl, Nat.le_of_ble_eq_true rfl⟩ dX8_row_50 (fun r f241 H locs h242 hz hS => ?_)
            obtain ⟨rfl, a243, a244, k245⟩ := h242
            have a246 : f1 wnb = some (.inl (cy 0, 12, .inl gu)) := k4 _ _ x_wnb (z_ne x_wnb x_o rfl)
            have a247 : f241 wnb = some (.inl (cy 0, 12, .inl gu)) := k245 _ _ a246 (z_ne a246 a3 rfl) (z_ne a246 a240 rfl)
            have a248 : f1 wki = some (.inl (cy 0, 60, .inl gk)) := k4 _ _ x_wki (z_ne x_wki x_o rfl)
            have a249 : f241 wki = some (.inl (cy 0, 60, .inl gk)) := k245 _ _ a248 (z_ne a248 a3 rfl) (z_ne a248 a240 rfl)
            have a250 : f1 wmy = some (.inl (cy 0, 60, .inl gm)) := k4 _ _ x_wmy (z_ne x_wmy x_o rfl)
            have a251 : f241 wmy = some (.inl (cy 0, 60, .inl gm)) := k245 _ _ a250 (z_ne a250 a3 rfl) (z_ne a250 a240 rfl)
            have a252 : f1 wce = some (.inl (cy 1, 960, .inr (.inl gc))) := k4 _ _ x_wce (z_ne x_wce x_o rfl)
            have a253 : f241 wce = some (.inl (cy 1, 960, .inr (.inl gc))) := k245 _ _ a252 (z_ne a252 a3 rfl) (z_ne a252 a240 rfl)
            have a254 : f1 wiw = some (.inl (cy 2, 60, .inl gw)) := k4 _ _ x_wiw (z_ne x_wiw x_o rfl)
            have a255 : f241 wiw = some (.inl (cy 2, 60, .inl gw)) := k245 _ _ a254 (z_ne a254 a3 rfl) (z_ne a254 a240 rfl)
            have a256 : f1 wli = some (.inl (cy 0, 60, .inl gl)) := k4 _ _ x_wli (z_ne x_wli x_o rfl)
            have a257 : f241 wli = some (.inl (cy 0, 60, .inl gl)) := k245 _ _ a256 (z_ne a256 a3 rfl) (z_ne a256 a240 rfl)
            have a258 : f1 wha = some (.inl (cy 0, 60, .inl gh)) := k4 _ _ x_wha (z_ne x_wha x_o rfl)
            have a259 : f241 wha = some (.inl (cy 0, 60, .inl gh)) := k245 _ _ a258 (z_ne a258 a3 rfl) (z_ne a258 a240 rfl)
            have a260 : f1 wwt = some (.inl (cy 1, 60, .inr (.inl gt))) := k4 _ _ x_wwt (z_ne x_wwt x_o rfl)
            have a261 : f241 wwt = some (.inl (cy 1, 60, .inr (.inl gt))) := k245 _ _ a260 (z_ne a260 a3 rfl) (z_ne a260 a240 rfl)
            have a262 : f1 wfy = some (.inl (cy 0, 6, .inl gy)) := k4 _ _ x_wfy (z_ne x_wfy x_o rfl)
            have a263 : f241 wfy = some (.inl (cy 0, 6, .inl gy)) := k245 _ _ a262 (z_ne a262 a3 rfl) (z_ne a262 a240 rfl)
            have a264 : f1 wfk = some (.inl (cy 0, 24, .inl gq)) := k4 _ _ x_wfk (z_ne x_wfk x_o rfl)
            have a265 : f241 wfk = some (.inl (cy 0, 24, .inl gq)) := k245 _ _ a264 (z_ne a264 a3 rfl) (z_ne a264 a240 rfl)
            have a266 : f1 wem = some (.inl (cy 0, 60, .inl ge1)) := k4 _ _ x_wem (z_ne x_wem x_o rfl)
            have a267 : f241 wem = some (.inl (cy 0, 60, .inl ge1)) := k245 _ _ a266 (z_ne a266 a3 rfl) (z_ne a266 a240 rfl)
            have a268 : f1 wna = some (.inl (cy 0, 60, .inl gn1)) := k4 _ _ x_wna (z_ne x_wna x_o rfl)
            have a269 : f241 wna = some (.inl (cy 0, 60, .inl gn1)) := k245 _ _ a268 (z_ne a268 a3 rfl) (z_ne a268 a240 rfl)
            have a270 : f1 wpl = some (.inl (cy 0, 60, .inl gp1)) := k4 _ _ x_wpl (z_ne x_wpl x_o rfl)
            have a271 : f241 wpl = some (.inl (cy 0, 60, .inl gp1)) := k245 _ _ a270 (z_ne a270 a3 rfl) (z_ne a270 a240 rfl)
            have a272 : f1 whs = some (.inl (cy 0, 4, .inl gs)) := k4 _ _ x_whs (z_ne x_whs x_o rfl)
            have a273 : f241 whs = some (.inl (cy 0, 4, .inl gs)) := k245 _ _ a272 (z_ne a272 a3 rfl) (z_ne a272 a240 rfl)
            have a274 : f1 wk1 = some (.inl (cy 0, 40, .inl gx1)) := k4 _ _ x_wk1 (z_ne x_wk1 x_o rfl)
            have a275 : f241 wk1 = some (.inl (cy 0, 40, .inl gx1)) := k245 _ _ a274 (z_ne a274 a3 rfl) (z_ne a274 a240 rfl)
            have a276 : f1 wk2 = some (.inl (cy 0, 40, .inl gx2)) := k4 _ _ x_wk2 (z_ne x_wk2 x_o rfl)
            have a277 : f241 wk2 = some (.inl (cy 0, 40, .inl gx2)) := k245 _ _ a276 (z_ne a276 a3 rfl) (z_ne a276 a240 rfl)
            have a278 : f1 wk3 = some (.inl (cy 0, 40, .inl gx3)) := k4 _ _ x_wk3 (z_ne x_wk3 x_o rfl)
            have a279 : f241 wk3 = some (.inl (cy 0, 40, .inl gx3)) := k245 _ _ a278 (z_ne a278 a3 rfl) (z_ne a278 a240 rfl)
            have hq : q_row nn x y = ((-4), 2, 1, 0) := by simp [q_row, h60, c5, c7, c8, c49]
            exact z_iret C hr rfl hz hS ⟨2, 1, 0, nl, nn, nf, nc, lk, ks, (upd gv 2 (gv 2 + 1)), gu, gk, gm, gc, gw, gl, gh, gt, gy, gq, ge1, gn1, gp1, gs, gx1, gx2, gx3, ln, fz, sq, (by rw [hq]), (by rw [hq]), (by rw [hq]), (by rw [hq]), (by rw [hq]; exact (zEV2 gv).symm), rfl, rfl, (by rw [if_neg (by decide)]), (by rw [if_neg (by decide)]), (by rw [if_neg (by decide)]), (by rw [if_neg (by decide)]), (by rw [if_neg (by decide)]), (zGC_no (by decide)), rfl, rfl, rfl, rfl, rfl, rfl, rfl, rfl, rfl, rfl, rfl, rfl, rfl, ⟨a243, a244, a247, a249, a251, a253, a255, a257, a259, a261, a263, a265, a267, a269, a271, a273, a275, a277, a279, hn60, hl12, hf6, hc60, hs40, hMP, hgy, hfz, hgs, hME, hlk, hgw, hfd, n_wki_wmy, n_wki_wiw, n_wki_wli, n_wki_wha, n_wki_wem, n_wki_wna, n_wki_wpl, n_wmy_wiw, n_wmy_wli, n_wmy_wha, n_wmy_wem, n_wmy_wna, n_wmy_wpl, n_wiw_wli, n_wiw_wha, n_wiw_wem, n_wiw_wna, n_wiw_wpl, n_wli_wha, n_wli_wem, n_wli_wna, n_wli_wpl, n_wha_wem, n_wha_wna, n_wha_wpl, n_wem_wna, n_wem_wpl, n_wna_wpl, n_wk1_wk2, n_wk1_wk3, n_wk2_wk3⟩⟩ (Nat.le_of_ble_eq_true rfl) (Nat.le_of_ble_eq_true rfl) dX8_row_53
      · refine lv_aload_n hx hb dX8_row_29 rfl (lv_at hl 0 rfl) ?_
        refine lv_iconst (v := 5) hx hb dX8_row_30 (by decide) ?_
        refine lv_iconst (v := 0) hx hb dX8_row_31 (by decide) ?_
        refine lv_iconst (v := 0) hx hb dX8_row_32 (by decide) ?_
        have a280 : f1 wev = some (.inl (cy 0, 8, .inl gv)) := k4 _ _ x_wev (z_ne x_wev x_o rfl)
        refine z_callVi (As := [.int 5, .int 0, .int 0]) C hz hS hA hl (k_X8_fails l D cy f1 o wev wnb wki wmy wce wiw wli wha wwt wfy wfk wem wna wpl whs wk1 wk2 wk3 0 (-1) 0 nl nn nf nc lk ks 5 0 0 gv 5 a3 a280 (by decide) (Nat.le_of_ble_eq_true rfl)) zyX8_fails mMX8_135 a3 zl8 rfl rfl (Nat.le_of_ble_eq_true rfl) ⟨Nat.le_of_ble_eq_true rfl, Nat.le_of_ble_eq_true rfl⟩ ⟨Nat.le_of_ble_eq_true rfl, Nat.le_of_ble_eq_true rfl⟩ dX8_row_33 (fun r f281 H locs h282 hz hS => ?_)
        obtain ⟨rfl, a283, a284, k285⟩ := h282
        have a286 : f1 wnb = some (.inl (cy 0, 12, .inl gu)) := k4 _ _ x_wnb (z_ne x_wnb x_o rfl)
        have a287 : f281 wnb = some (.inl (cy 0, 12, .inl gu)) := k285 _ _ a286 (z_ne a286 a3 rfl) (z_ne a286 a280 rfl)
        have a288 : f1 wki = some (.inl (cy 0, 60, .inl gk)) := k4 _ _ x_wki (z_ne x_wki x_o rfl)
        have a289 : f281 wki = some (.inl (cy 0, 60, .inl gk)) := k285 _ _ a288 (z_ne a288 a3 rfl) (z_ne a288 a280 rfl)
        have a290 : f1 wmy = some (.inl (cy 0, 60, .inl gm)) := k4 _ _ x_wmy (z_ne x_wmy x_o rfl)
        have a291 : f281 wmy = some (.inl (cy 0, 60, .inl gm)) := k285 _ _ a290 (z_ne a290 a3 rfl) (z_ne a290 a280 rfl)
        have a292 : f1 wce = some (.inl (cy 1, 960, .inr (.inl gc))) := k4 _ _ x_wce (z_ne x_wce x_o rfl)
        have a293 : f281 wce = some (.inl (cy 1, 960, .inr (.inl gc))) := k285 _ _ a292 (z_ne a292 a3 rfl) (z_ne a292 a280 rfl)
        have a294 : f1 wiw = some (.inl (cy 2, 60, .inl gw)) := k4 _ _ x_wiw (z_ne x_wiw x_o rfl)
        have a295 : f281 wiw = some (.inl (cy 2, 60, .inl gw)) := k285 _ _ a294 (z_ne a294 a3 rfl) (z_ne a294 a280 rfl)
        have a296 : f1 wli = some (.inl (cy 0, 60, .inl gl)) := k4 _ _ x_wli (z_ne x_wli x_o rfl)
        have a297 : f281 wli = some (.inl (cy 0, 60, .inl gl)) := k285 _ _ a296 (z_ne a296 a3 rfl) (z_ne a296 a280 rfl)
        have a298 : f1 wha = some (.inl (cy 0, 60, .inl gh)) := k4 _ _ x_wha (z_ne x_wha x_o rfl)
        have a299 : f281 wha = some (.inl (cy 0, 60, .inl gh)) := k285 _ _ a298 (z_ne a298 a3 rfl) (z_ne a298 a280 rfl)
        have a300 : f1 wwt = some (.inl (cy 1, 60, .inr (.inl gt))) := k4 _ _ x_wwt (z_ne x_wwt x_o rfl)
        have a301 : f281 wwt = some (.inl (cy 1, 60, .inr (.inl gt))) := k285 _ _ a300 (z_ne a300 a3 rfl) (z_ne a300 a280 rfl)
        have a302 : f1 wfy = some (.inl (cy 0, 6, .inl gy)) := k4 _ _ x_wfy (z_ne x_wfy x_o rfl)
        have a303 : f281 wfy = some (.inl (cy 0, 6, .inl gy)) := k285 _ _ a302 (z_ne a302 a3 rfl) (z_ne a302 a280 rfl)
        have a304 : f1 wfk = some (.inl (cy 0, 24, .inl gq)) := k4 _ _ x_wfk (z_ne x_wfk x_o rfl)
        have a305 : f281 wfk = some (.inl (cy 0, 24, .inl gq)) := k285 _ _ a304 (z_ne a304 a3 rfl) (z_ne a304 a280 rfl)
        have a306 : f1 wem = some (.inl (cy 0, 60, .inl ge1)) := k4 _ _ x_wem (z_ne x_wem x_o rfl)
        have a307 : f281 wem = some (.inl (cy 0, 60, .inl ge1)) := k285 _ _ a306 (z_ne a306 a3 rfl) (z_ne a306 a280 rfl)
        have a308 : f1 wna = some (.inl (cy 0, 60, .inl gn1)) := k4 _ _ x_wna (z_ne x_wna x_o rfl)
        have a309 : f281 wna = some (.inl (cy 0, 60, .inl gn1)) := k285 _ _ a308 (z_ne a308 a3 rfl) (z_ne a308 a280 rfl)
        have a310 : f1 wpl = some (.inl (cy 0, 60, .inl gp1)) := k4 _ _ x_wpl (z_ne x_wpl x_o rfl)
        have a311 : f281 wpl = some (.inl (cy 0, 60, .inl gp1)) := k285 _ _ a310 (z_ne a310 a3 rfl) (z_ne a310 a280 rfl)
        have a312 : f1 whs = some (.inl (cy 0, 4, .inl gs)) := k4 _ _ x_whs (z_ne x_whs x_o rfl)
        have a313 : f281 whs = some (.inl (cy 0, 4, .inl gs)) := k285 _ _ a312 (z_ne a312 a3 rfl) (z_ne a312 a280 rfl)
        have a314 : f1 wk1 = some (.inl (cy 0, 40, .inl gx1)) := k4 _ _ x_wk1 (z_ne x_wk1 x_o rfl)
        have a315 : f281 wk1 = some (.inl (cy 0, 40, .inl gx1)) := k285 _ _ a314 (z_ne a314 a3 rfl) (z_ne a314 a280 rfl)
        have a316 : f1 wk2 = some (.inl (cy 0, 40, .inl gx2)) := k4 _ _ x_wk2 (z_ne x_wk2 x_o rfl)
        have a317 : f281 wk2 = some (.inl (cy 0, 40, .inl gx2)) := k285 _ _ a316 (z_ne a316 a3 rfl) (z_ne a316 a280 rfl)
        have a318 : f1 wk3 = some (.inl (cy 0, 40, .inl gx3)) := k4 _ _ x_wk3 (z_ne x_wk3 x_o rfl)
        have a319 : f281 wk3 = some (.inl (cy 0, 40, .inl gx3)) := k285 _ _ a318 (z_ne a318 a3 rfl) (z_ne a318 a280 rfl)
        have hq : q_row nn x y = ((-4), 5, 0, 0) := by simp [q_row, h60, c5, c7]
        exact z_iret C hr rfl hz hS ⟨5, 0, 0, nl, nn, nf, nc, lk, ks, (upd gv 5 (gv 5 + 1)), gu, gk, gm, gc, gw, gl, gh, gt, gy, gq, ge1, gn1, gp1, gs, gx1, gx2, gx3, ln, fz, sq, (by rw [hq]), (by rw [hq]), (by rw [hq]), (by rw [hq]), (by rw [hq]; exact (zEV5 gv).symm), rfl, rfl, (by rw [if_neg (by decide)]), (by rw [if_neg (by decide)]), (by rw [if_neg (by decide)]), (by rw [if_neg (by decide)]), (by rw [if_neg (by decide)]), (zGC_no (by decide)), rfl, rfl, rfl, rfl, rfl, rfl, rfl, rfl, rfl, rfl, rfl, rfl, rfl, ⟨a283, a284, a287, a289, a291, a293, a295, a297, a299, a301, a303, a305, a307, a309, a311, a313, a315, a317, a319, hn60, hl12, hf6, hc60, hs40, hMP, hgy, hfz, hgs, hME, hlk, hgw, hfd, n_wki_wmy, n_wki_wiw, n_wki_wli, n_wki_wha, n_wki_wem, n_wki_wna, n_wki_wpl, n_wmy_wiw, n_wmy_wli, n_wmy_wha, n_wmy_wem, n_wmy_wna, n_wmy_wpl, n_wiw_wli, n_wiw_wha, n_wiw_wem, n_wiw_wna, n_wiw_wpl, n_wli_wha, n_wli_wem, n_wli_wna, n_wli_wpl, n_wha_wem, n_wha_wna, n_wha_wpl, n_wem_wna, n_wem_wpl, n_wna_wpl, n_wk1_wk2, n_wk1_wk3, n_wk2_wk3⟩⟩ (Nat.le_of_ble_eq_true rfl) (Nat.le_of_ble_eq_true rfl) dX8_row_36
    · replace c6 : (nn = 60) := (nI_eq (a := nn) (b := 60) (by omega) (by omega)).mp c6
      have h60 : ¬ nn < 60 := by omega
      refine lv_bipush (v := (-3)) hx hb dX8_row_22 (by decide) ?_
      have a320 : f1 wev = some (.inl (cy 0, 8, .inl gv)) := k4 _ _ x_wev (z_ne x_wev x_o rfl)
      have a321 : f1 wnb = some (.inl (cy 0, 12, .inl gu)) := k4 _ _ x_wnb (z_ne x_wnb x_o rfl)
      have a322 : f1 wki = some (.inl (cy 0, 60, .inl gk)) := k4 _ _ x_wki (z_ne x_wki x_o rfl)
      have a323 : f1 wmy = some (.inl (cy 0, 60, .inl gm)) := k4 _ _ x_wmy (z_ne x_wmy x_o rfl)
      have a324 : f1 wce = some (.inl (cy 1, 960, .inr (.inl gc))) := k4 _ _ x_wce (z_ne x_wce x_o rfl)
      have a325 : f1 wiw = some (.inl (cy 2, 60, .inl gw)) := k4 _ _ x_wiw (z_ne x_wiw x_o rfl)
      have a326 : f1 wli = some (.inl (cy 0, 60, .inl gl)) := k4 _ _ x_wli (z_ne x_wli x_o rfl)
      have a327 : f1 wha = some (.inl (cy 0, 60, .inl gh)) := k4 _ _ x_wha (z_ne x_wha x_o rfl)
      have a328 : f1 wwt = some (.inl (cy 1, 60, .inr (.inl gt))) := k4 _ _ x_wwt (z_ne x_wwt x_o rfl)
      have a329 : f1 wfy = some (.inl (cy 0, 6, .inl gy)) := k4 _ _ x_wfy (z_ne x_wfy x_o rfl)
      have a330 : f1 wfk = some (.inl (cy 0, 24, .inl gq)) := k4 _ _ x_wfk (z_ne x_wfk x_o rfl)
      have a331 : f1 wem = some (.inl (cy 0, 60, .inl ge1)) := k4 _ _ x_wem (z_ne x_wem x_o rfl)
      have a332 : f1 wna = some (.inl (cy 0, 60, .inl gn1)) := k4 _ _ x_wna (z_ne x_wna x_o rfl)
      have a333 : f1 wpl = some (.inl (cy 0, 60, .inl gp1)) := k4 _ _ x_wpl (z_ne x_wpl x_o rfl)
      have a334 : f1 whs = some (.inl (cy 0, 4, .inl gs)) := k4 _ _ x_whs (z_ne x_whs x_o rfl)
      have a335 : f1 wk1 = some (.inl (cy 0, 40, .inl gx1)) := k4 _ _ x_wk1 (z_ne x_wk1 x_o rfl)
      have a336 : f1 wk2 = some (.inl (cy 0, 40, .inl gx2)) := k4 _ _ x_wk2 (z_ne x_wk2 x_o rfl)
      have a337 : f1 wk3 = some (.inl (cy 0, 40, .inl gx3)) := k4 _ _ x_wk3 (z_ne x_wk3 x_o rfl)
      have hq : q_row nn x y = ((-3), 0, (-1), 0) := by simp [q_row, h60, c5]
      exact z_iret C hr rfl hz hS ⟨0, (-1), 0, nl, nn, nf, nc, lk, ks, gv, gu, gk, gm, gc, gw, gl, gh, gt, gy, gq, ge1, gn1, gp1, gs, gx1, gx2, gx3, ln, fz, sq, (by rw [hq]), (by rw [hq]), (by rw [hq]), (by rw [hq]), (by rw [hq]; exact (zEV0 gv).symm), rfl, rfl, (by rw [if_neg (by decide)]), (by rw [if_neg (by decide)]), (by rw [if_neg (by decide)]), (by rw [if_neg (by decide)]), (by rw [if_neg (by decide)]), (zGC_no (by decide)), rfl, rfl, rfl, rfl, rfl, rfl, rfl, rfl, rfl, rfl, rfl, rfl, rfl, ⟨a3, a320, a321, a322, a323, a324, a325, a326, a327, a328, a329, a330, a331, a332, a333, a334, a335, a336, a337, hn60, hl12, hf6, hc60, hs40, hMP, hgy, hfz, hgs, hME, hlk, hgw, hfd, n_wki_wmy, n_wki_wiw, n_wki_wli, n_wki_wha, n_wki_wem, n_wki_wna, n_wki_wpl, n_wmy_wiw, n_wmy_wli, n_wmy_wha, n_wmy_wem, n_wmy_wna, n_wmy_wpl, n_wiw_wli, n_wiw_wha, n_wiw_wem, n_wiw_wna, n_wiw_wpl, n_wli_wha, n_wli_wem, n_wli_wna, n_wli_wpl, n_wha_wem, n_wha_wna, n_wha_wpl, n_wem_wna, n_wem_wpl, n_wna_wpl, n_wk1_wk2, n_wk1_wk3, n_wk2_wk3⟩⟩ (Nat.le_of_ble_eq_true rfl) (Nat.le_of_ble_eq_true rfl) dX8_row_24
  · refine lv_bipush (v := (-2)) hx hb dX8_row_10 (by decide) ?_
    have a338 : f1 wev = some (.inl (cy 0, 8, .inl gv)) := k4 _ _ x_wev (z_ne x_wev x_o rfl)
    have a339 : f1 wnb = some (.inl (cy 0, 12, .inl gu)) := k4 _ _ x_wnb (z_ne x_wnb x_o rfl)
    have a340 : f1 wki = some (.inl (cy 0, 60, .inl gk)) := k4 _ _ x_wki (z_ne x_wki x_o rfl)
    have a341 : f1 wmy = some (.inl (cy 0, 60, .inl gm)) := k4 _ _ x_wmy (z_ne x_wmy x_o rfl)
    have a342 : f1 wce = some (.inl (cy 1, 960, .inr (.inl gc))) := k4 _ _ x_wce (z_ne x_wce x_o rfl)
    have a343 : f1 wiw = some (.inl (cy 2, 60, .inl gw)) := k4 _ _ x_wiw (z_ne x_wiw x_o rfl)
    have a344 : f1 wli = some (.inl (cy 0, 60, .inl gl)) := k4 _ _ x_wli (z_ne x_wli x_o rfl)
    have a345 : f1 wha = some (.inl (cy 0, 60, .inl gh)) := k4 _ _ x_wha (z_ne x_wha x_o rfl)
    have a346 : f1 wwt = some (.inl (cy 1, 60, .inr (.inl gt))) := k4 _ _ x_wwt (z_ne x_wwt x_o rfl)
    have a347 : f1 wfy = some (.inl (cy 0, 6, .inl gy)) := k4 _ _ x_wfy (z_ne x_wfy x_o rfl)
    have a348 : f1 wfk = some (.inl (cy 0, 24, .inl gq)) := k4 _ _ x_wfk (z_ne x_wfk x_o rfl)
    have a349 : f1 wem = some (.inl (cy 0, 60, .inl ge1)) := k4 _ _ x_wem (z_ne x_wem x_o rfl)
    have a350 : f1 wna = some (.inl (cy 0, 60, .inl gn1)) := k4 _ _ x_wna (z_ne x_wna x_o rfl)
    have a351 : f1 wpl = some (.inl (cy 0, 60, .inl gp1)) := k4 _ _ x_wpl (z_ne x_wpl x_o rfl)
    have a352 : f1 whs = some (.inl (cy 0, 4, .inl gs)) := k4 _ _ x_whs (z_ne x_whs x_o rfl)
    have a353 : f1 wk1 = some (.inl (cy 0, 40, .inl gx1)) := k4 _ _ x_wk1 (z_ne x_wk1 x_o rfl)
    have a354 : f1 wk2 = some (.inl (cy 0, 40, .inl gx2)) := k4 _ _ x_wk2 (z_ne x_wk2 x_o rfl)
    have a355 : f1 wk3 = some (.inl (cy 0, 40, .inl gx3)) := k4 _ _ x_wk3 (z_ne x_wk3 x_o rfl)
    have hq : q_row nn x y = ((-2), 0, (-1), 0) := by simp [q_row, c5]
    exact z_iret C hr rfl hz hS ⟨0, (-1), 0, nl, nn, nf, nc, lk, ks, gv, gu, gk, gm, gc, gw, gl, gh, gt, gy, gq, ge1, gn1, gp1, gs, gx1, gx2, gx3, ln, fz, sq, (by rw [hq]), (by rw [hq]), (by rw [hq]), (by rw [hq]), (by rw [hq]; exact (zEV0 gv).symm), rfl, rfl, (by rw [if_neg (by decide)]), (by rw [if_neg (by decide)]), (by rw [if_neg (by decide)]), (by rw [if_neg (by decide)]), (by rw [if_neg (by decide)]), (zGC_no (by decide)), rfl, rfl, rfl, rfl, rfl, rfl, rfl, rfl, rfl, rfl, rfl, rfl, rfl, ⟨a3, a338, a339, a340, a341, a342, a343, a344, a345, a346, a347, a348, a349, a350, a351, a352, a353, a354, a355, hn60, hl12, hf6, hc60, hs40, hMP, hgy, hfz, hgs, hME, hlk, hgw, hfd, n_wki_wmy, n_wki_wiw, n_wki_wli, n_wki_wha, n_wki_wem, n_wki_wna, n_wki_wpl, n_wmy_wiw, n_wmy_wli, n_wmy_wha, n_wmy_wem, n_wmy_wna, n_wmy_wpl, n_wiw_wli, n_wiw_wha, n_wiw_wem, n_wiw_wna, n_wiw_wpl, n_wli_wha, n_wli_wem, n_wli_wna, n_wli_wpl, n_wha_wem, n_wha_wna, n_wha_wpl, n_wem_wna, n_wem_wpl, n_wna_wpl, n_wk1_wk2, n_wk1_wk3, n_wk2_wk3⟩⟩ (Nat.le_of_ble_eq_true rfl) (Nat.le_of_ble_eq_true rfl) dX8_row_12
