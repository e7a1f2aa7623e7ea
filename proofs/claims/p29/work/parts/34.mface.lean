abbrev rmX8_cause : Room := { frames := 0, cells := 0, slots := 0, locals := 0 }
set_option maxHeartbeats 4000000 in
set_option maxRecDepth 100000 in
theorem k_X8_cause (l : Launch) (D : va_G) (cy : Nat → ClassId) (f : zM) (o : Nat) (wev : Nat) (wnb : Nat) (wki : Nat) (wmy : Nat) (wce : Nat) (wiw : Nat) (wli : Nat) (wha : Nat) (wwt : Nat) (wfy : Nat) (wfk : Nat) (wem : Nat) (wna : Nat) (wpl : Nat) (whs : Nat) (wk1 : Nat) (wk2 : Nat) (wk3 : Nat) (u1 : Int32) (u2 : Int32) (u3 : Int32) (nl : Nat) (nn : Nat) (nf : Nat) (nc : Nat) (lk : Int64) (ks : Nat) (gv : Nat → Int32) (gu : Nat → Int32) (gk : Nat → Int32) (gm : Nat → Int32) (gc : Nat → Int64) (gw : Nat → Int32) (gl : Nat → Int32) (gh : Nat → Int32) (gt : Nat → Int64) (gy : Nat → Int32) (gq : Nat → Int32) (ge1 : Nat → Int32) (gn1 : Nat → Int32) (gp1 : Nat → Int32) (gs : Nat → Int32) (gx1 : Nat → Int32) (gx2 : Nat → Int32) (gx3 : Nat → Int32) (ln : Nat → Nat) (fz : Nat → Nat) (sq : Nat → Nat) (x : Int32)    (hI : zIM cy f o wev wnb wki wmy wce wiw wli wha wwt wfy wfk wem wna wpl whs wk1 wk2 wk3 u1 u2 u3 nl nn nf nc lk ks gv gu gk gm gc gw gl gh gt gy gq ge1 gn1 gp1 gs gx1 gx2 gx3 ln fz sq) : zCi l D cy yX8_cause cX8_cause 2 (Option.some Jvm.ClassFile.FieldType.int) rmX8_cause [.ref o, .int x] f (fun (r : Int32) (f1 : zM) => ∃ (u11 : Int32) (u21 : Int32) (u31 : Int32) (nl1 : Nat) (nn1 : Nat) (nf1 : Nat) (nc1 : Nat) (lk1 : Int64) (ks1 : Nat) (gv1 : Nat → Int32) (gu1 : Nat → Int32) (gk1 : Nat → Int32) (gm1 : Nat → Int32) (gc1 : Nat → Int64) (gw1 : Nat → Int32) (gl1 : Nat → Int32) (gh1 : Nat → Int32) (gt1 : Nat → Int64) (gy1 : Nat → Int32) (gq1 : Nat → Int32) (ge11 : Nat → Int32) (gn11 : Nat → Int32) (gp11 : Nat → Int32) (gs1 : Nat → Int32) (gx11 : Nat → Int32) (gx21 : Nat → Int32) (gx31 : Nat → Int32) (ln1 : Nat → Nat) (fz1 : Nat → Nat) (sq1 : Nat → Nat), r = (if x = 0 then u1 else if x = 1 then u2 else if x = 2 then u3 else (-2)) ∧ (u11 = u1) ∧ (u21 = u2) ∧ (u31 = u3) ∧ (gv1 = gv) ∧ (nl1 = nl) ∧ (gu1 = gu) ∧ (nn1 = nn) ∧ (gk1 = gk) ∧ (ln1 = ln) ∧ (gw1 = gw) ∧ (gh1 = gh) ∧ (gc1 = gc) ∧ (nf1 = nf) ∧ (fz1 = fz) ∧ (gq1 = gq) ∧ (nc1 = nc) ∧ (ge11 = ge1) ∧ (gn11 = gn1) ∧ (gp11 = gp1) ∧ (sq1 = sq) ∧ (ks1 = ks) ∧ (gx11 = gx1) ∧ (gx21 = gx2) ∧ (gx31 = gx3) ∧ (lk1 = lk) ∧ zIM cy f1 o wev wnb wki wmy wce wiw wli wha wwt wfy wfk wem wna wpl whs wk1 wk2 wk3 u11 u21 u31 nl1 nn1 nf1 nc1 lk1 ks1 gv1 gu1 gk1 gm1 gc1 gw1 gl1 gh1 gt1 gy1 gq1 ge11 gn11 gp11 gs1 gx11 gx21 gx31 ln1 fz1 sq1) := by
  intro sz
  refine z_body (by decide +kernel) (Nat.le_of_ble_eq_true rfl) ?_
  intro p e s m below meth c ls C hr hin hsz hz hl
  subst hsz
  have hx := C.1
  have hb := C.2.1
  have hA : ∀ q, s.heap.size ≤ q → zA f s.heap.size q := fun q h => Or.inr h
  have hS : va_S (zA f s.heap.size) s.heap s.heap [] := va_S.rf
  have hl : lv_has ls 2 [(0, .ref o), (1, .int x)] := hl
  obtain ⟨x_o, x_wev, x_wnb, x_wki, x_wmy, x_wce, x_wiw, x_wli, x_wha, x_wwt, x_wfy, x_wfk, x_wem, x_wna, x_wpl, x_whs, x_wk1, x_wk2, x_wk3, hn60, hl12, hf6, hc60, hs40, hMP, hgy, hfz, hgs, hME, hlk, hgw, hfd, n_wki_wmy, n_wki_wiw, n_wki_wli, n_wki_wha, n_wki_wem, n_wki_wna, n_wki_wpl, n_wmy_wiw, n_wmy_wli, n_wmy_wha, n_wmy_wem, n_wmy_wna, n_wmy_wpl, n_wiw_wli, n_wiw_wha, n_wiw_wem, n_wiw_wna, n_wiw_wpl, n_wli_wha, n_wli_wem, n_wli_wna, n_wli_wpl, n_wha_wem, n_wha_wna, n_wha_wpl, n_wem_wna, n_wem_wpl, n_wna_wpl, n_wk1_wk2, n_wk1_wk3, n_wk2_wk3⟩ := id hI
  refine lv_iload_n hx hb dX8_cause_0 rfl (lv_at hl 1 rfl) ?_
  refine lv_if_ne (tgt := 11) hx hb dX8_cause_1 (by decide) (fun c1 => ?_) (fun c1 => ?_)
  · refine lv_iload_n hx hb dX8_cause_11 rfl (lv_at hl 1 rfl) ?_
    refine lv_iconst (v := 1) hx hb dX8_cause_12 (by decide) ?_
    refine lv_icmp_ne (tgt := 23) hx hb dX8_cause_13 (by decide) (fun c2 => ?_) (fun c2 => ?_)
    · refine lv_iload_n hx hb dX8_cause_23 rfl (lv_at hl 1 rfl) ?_
      refine lv_iconst (v := 2) hx hb dX8_cause_24 (by decide) ?_
      refine lv_icmp_ne (tgt := 35) hx hb dX8_cause_25 (by decide) (fun c3 => ?_) (fun c3 => ?_)
      · refine lv_bipush (v := (-2)) hx hb dX8_cause_35 (by decide) ?_
        exact z_iret C hr rfl hz hS ⟨u1, u2, u3, nl, nn, nf, nc, lk, ks, gv, gu, gk, gm, gc, gw, gl, gh, gt, gy, gq, ge1, gn1, gp1, gs, gx1, gx2, gx3, ln, fz, sq, (by simp [c1, c2, c3]), rfl, rfl, rfl, rfl, rfl, rfl, rfl, rfl, rfl, rfl, rfl, rfl, rfl, rfl, rfl, rfl, rfl, rfl, rfl, rfl, rfl, rfl, rfl, rfl, rfl, ⟨x_o, x_wev, x_wnb, x_wki, x_wmy, x_wce, x_wiw, x_wli, x_wha, x_wwt, x_wfy, x_wfk, x_wem, x_wna, x_wpl, x_whs, x_wk1, x_wk2, x_wk3, hn60, hl12, hf6, hc60, hs40, hMP, hgy, hfz, hgs, hME, hlk, hgw, hfd, n_wki_wmy, n_wki_wiw, n_wki_wli, n_wki_wha, n_wki_wem, n_wki_wna, n_wki_wpl, n_wmy_wiw, n_wmy_wli, n_wmy_wha, n_wmy_wem, n_wmy_wna, n_wmy_wpl, n_wiw_wli, n_wiw_wha, n_wiw_wem, n_wiw_wna, n_wiw_wpl, n_wli_wha, n_wli_wem, n_wli_wna, n_wli_wpl, n_wha_wem, n_wha_wna, n_wha_wpl, n_wem_wna, n_wem_wpl, n_wna_wpl, n_wk1_wk2, n_wk1_wk3, n_wk2_wk3⟩⟩ (Nat.le_of_ble_eq_true rfl) (Nat.le_of_ble_eq_true rfl) dX8_cause_37
      · refine lv_aload_n hx hb dX8_cause_28 rfl (lv_at hl 0 rfl) ?_
        refine z_get (v := .int u3) C hz x_o zl8 mFX8_77 (by decide) rfl dX8_cause_29 ?_
        refine lv_goto (tgt := 37) hx hb dX8_cause_32 (by decide) ?_
        exact z_iret C hr rfl hz hS ⟨u1, u2, u3, nl, nn, nf, nc, lk, ks, gv, gu, gk, gm, gc, gw, gl, gh, gt, gy, gq, ge1, gn1, gp1, gs, gx1, gx2, gx3, ln, fz, sq, (by simp [c1, c2, c3]), rfl, rfl, rfl, rfl, rfl, rfl, rfl, rfl, rfl, rfl, rfl, rfl, rfl, rfl, rfl, rfl, rfl, rfl, rfl, rfl, rfl, rfl, rfl, rfl, rfl, ⟨x_o, x_wev, x_wnb, x_wki, x_wmy, x_wce, x_wiw, x_wli, x_wha, x_wwt, x_wfy, x_wfk, x_wem, x_wna, x_wpl, x_whs, x_wk1, x_wk2, x_wk3, hn60, hl12, hf6, hc60, hs40, hMP, hgy, hfz, hgs, hME, hlk, hgw, hfd, n_wki_wmy, n_wki_wiw, n_wki_wli, n_wki_wha, n_wki_wem, n_wki_wna, n_wki_wpl, n_wmy_wiw, n_wmy_wli, n_wmy_wha, n_wmy_wem, n_wmy_wna, n_wmy_wpl, n_wiw_wli, n_wiw_wha, n_wiw_wem, n_wiw_wna, n_wiw_wpl, n_wli_wha, n_wli_wem, n_wli_wna, n_wli_wpl, n_wha_wem, n_wha_wna, n_wha_wpl, n_wem_wna, n_wem_wpl, n_wna_wpl, n_wk1_wk2, n_wk1_wk3, n_wk2_wk3⟩⟩ (Nat.le_of_ble_eq_true rfl) (Nat.le_of_ble_eq_true rfl) dX8_cause_37
    · refine lv_aload_n hx hb dX8_cause_16 rfl (lv_at hl 0 rfl) ?_
      refine z_get (v := .int u2) C hz x_o zl8 mFX8_9 (by decide) rfl dX8_cause_17 ?_
      refine lv_goto (tgt := 37) hx hb dX8_cause_20 (by decide) ?_
      exact z_iret C hr rfl hz hS ⟨u1, u2, u3, nl, nn, nf, nc, lk, ks, gv, gu, gk, gm, gc, gw, gl, gh, gt, gy, gq, ge1, gn1, gp1, gs, gx1, gx2, gx3, ln, fz, sq, (by simp [c1, c2]), rfl, rfl, rfl, rfl, rfl, rfl, rfl, rfl, rfl, rfl, rfl, rfl, rfl, rfl, rfl, rfl, rfl, rfl, rfl, rfl, rfl, rfl, rfl, rfl, rfl, ⟨x_o, x_wev, x_wnb, x_wki, x_wmy, x_wce, x_wiw, x_wli, x_wha, x_wwt, x_wfy, x_wfk, x_wem, x_wna, x_wpl, x_whs, x_wk1, x_wk2, x_wk3, hn60, hl12, hf6, hc60, hs40, hMP, hgy, hfz, hgs, hME, hlk, hgw, hfd, n_wki_wmy, n_wki_wiw, n_wki_wli, n_wki_wha, n_wki_wem, n_wki_wna, n_wki_wpl, n_wmy_wiw, n_wmy_wli, n_wmy_wha, n_wmy_wem, n_wmy_wna, n_wmy_wpl, n_wiw_wli, n_wiw_wha, n_wiw_wem, n_wiw_wna, n_wiw_wpl, n_wli_wha, n_wli_wem, n_wli_wna, n_wli_wpl, n_wha_wem, n_wha_wna, n_wha_wpl, n_wem_wna, n_wem_wpl, n_wna_wpl, n_wk1_wk2, n_wk1_wk3, n_wk2_wk3⟩⟩ (Nat.le_of_ble_eq_true rfl) (Nat.le_of_ble_eq_true rfl) dX8_cause_37
  · refine lv_aload_n hx hb dX8_cause_4 rfl (lv_at hl 0 rfl) ?_
    refine z_get (v := .int u1) C hz x_o zl8 mFX8_74 (by decide) rfl dX8_cause_5 ?_
    refine lv_goto (tgt := 37) hx hb dX8_cause_8 (by decide) ?_
    exact z_iret C hr rfl hz hS ⟨u1, u2, u3, nl, nn, nf, nc, lk, ks, gv, gu, gk, gm, gc, gw, gl, gh, gt, gy, gq, ge1, gn1, gp1, gs, gx1, gx2, gx3, ln, fz, sq, (by simp [c1]), rfl, rfl, rfl, rfl, rfl, rfl, rfl, rfl, rfl, rfl, rfl, rfl, rfl, rfl, rfl, rfl, rfl, rfl, rfl, rfl, rfl, rfl, rfl, rfl, rfl, ⟨x_o, x_wev, x_wnb, x_wki, x_wmy, x_wce, x_wiw, x_wli, x_wha, x_wwt, x_wfy, x_wfk, x_wem, x_wna, x_wpl, x_whs, x_wk1, x_wk2, x_wk3, hn60, hl12, hf6, hc60, hs40, hMP, hgy, hfz, hgs, hME, hlk, hgw, hfd, n_wki_wmy, n_wki_wiw, n_wki_wli, n_wki_wha, n_wki_wem, n_wki_wna, n_wki_wpl, n_wmy_wiw, n_wmy_wli, n_wmy_wha, n_wmy_wem, n_wmy_wna, n_wmy_wpl, n_wiw_wli, n_wiw_wha, n_wiw_wem, n_wiw_wna, n_wiw_wpl, n_wli_wha, n_wli_wem, n_wli_wna, n_wli_wpl, n_wha_wem, n_wha_wna, n_wha_wpl, n_wem_wna, n_wem_wpl, n_wna_wpl, n_wk1_wk2, n_wk1_wk3, n_wk2_wk3⟩⟩ (Nat.le_of_ble_eq_true rfl) (Nat.le_of_ble_eq_true rfl) dX8_cause_37
abbrev rmX8_lay : Room := { frames := 0, cells := 0, slots := 0, locals := 0 }
set_option maxHeartbeats 4000000 in
set_option maxRecDepth 100000 in
theorem k_X8_lay (l : Launch) (D : va_G) (cy : Nat → ClassId) (f : zM) (o : Nat) (wev : Nat) (wnb : Nat) (wki : Nat) (wmy : Nat) (wce : Nat) (wiw : Nat) (wli : Nat) (wha : Nat) (wwt : Nat) (wfy : Nat) (wfk : Nat) (wem : Nat) (wna : Nat) (wpl : Nat) (whs : Nat) (wk1 : Nat) (wk2 : Nat) (wk3 : Nat) (u1 : Int32) (u2 : Int32) (u3 : Int32) (nl : Nat) (nn : Nat) (nf : Nat) (nc : Nat) (lk : Int64) (ks : Nat) (gv : Nat → Int32) (gu : Nat → Int32) (gk : Nat → Int32) (gm : Nat → Int32) (gc : Nat → Int64) (gw : Nat → Int32) (gl : Nat → Int32) (gh : Nat → Int32) (gt : Nat → Int64) (gy : Nat → Int32) (gq : Nat → Int32) (ge1 : Nat → Int32) (gn1 : Nat → Int32) (gp1 : Nat → Int32) (gs : Nat → Int32) (gx1 : Nat → Int32) (gx2 : Nat → Int32) (gx3 : Nat → Int32) (ln : Nat → Nat) (fz : Nat → Nat) (sq : Nat → Nat) (x : Int32)    (hI : zIM cy f o wev wnb wki wmy wce wiw wli wha wwt wfy wfk wem wna wpl whs wk1 wk2 wk3 u1 u2 u3 nl nn nf nc lk ks gv gu gk gm gc gw gl gh gt gy gq ge1 gn1 gp1 gs gx1 gx2 gx3 ln fz sq) : zCi l D cy yX8_lay cX8_lay 2 (Option.some Jvm.ClassFile.FieldType.int) rmX8_lay [.ref o, .int x] f (fun (r : Int32) (f1 : zM) => ∃ (u11 : Int32) (u21 : Int32) (u31 : Int32) (nl1 : Nat) (nn1 : Nat) (nf1 : Nat) (nc1 : Nat) (lk1 : Int64) (ks1 : Nat) (gv1 : Nat → Int32) (gu1 : Nat → Int32) (gk1 : Nat → Int32) (gm1 : Nat → Int32) (gc1 : Nat → Int64) (gw1 : Nat → Int32) (gl1 : Nat → Int32) (gh1 : Nat → Int32) (gt1 : Nat → Int64) (gy1 : Nat → Int32) (gq1 : Nat → Int32) (ge11 : Nat → Int32) (gn11 : Nat → Int32) (gp11 : Nat → Int32) (gs1 : Nat → Int32) (gx11 : Nat → Int32) (gx21 : Nat → Int32) (gx31 : Nat → Int32) (ln1 : Nat → Nat) (fz1 : Nat → Nat) (sq1 : Nat → Nat), r = (if nl < 12 then nI (nl + 1) else (-3)) ∧ (u11 = u1) ∧ (u21 = u2) ∧ (u31 = u3) ∧ (gv1 = gv) ∧ (nl1 = if nl < 12 then nl + 1 else nl) ∧ (gu1 = if nl < 12 then upd gu nl x else gu) ∧ (nn1 = nn) ∧ (gk1 = gk) ∧ (ln1 = ln) ∧ (gw1 = gw) ∧ (gh1 = gh) ∧ (gc1 = gc) ∧ (nf1 = nf) ∧ (fz1 = fz) ∧ (gq1 = gq) ∧ (nc1 = nc) ∧ (ge11 = ge1) ∧ (gn11 = gn1) ∧ (gp11 = gp1) ∧ (sq1 = sq) ∧ (ks1 = ks) ∧ (gx11 = gx1) ∧ (gx21 = gx2) ∧ (gx31 = gx3) ∧ (lk1 = lk) ∧ zIM cy f1 o wev wnb wki wmy wce wiw wli wha wwt wfy wfk wem wna wpl whs wk1 wk2 wk3 u11 u21 u31 nl1 nn1 nf1 nc1 lk1 ks1 gv1 gu1 gk1 gm1 gc1 gw1 gl1 gh1 gt1 gy1 gq1 ge11 gn11 gp11 gs1 gx11 gx21 gx31 ln1 fz1 sq1) := by
  intro sz
  refine z_body (by decide +kernel) (Nat.le_of_ble_eq_true rfl) ?_
  intro p e s m below meth c ls C hr hin hsz hz hl
  subst hsz
  have hx := C.1
  have hb := C.2.1
  have hA : ∀ q, s.heap.size ≤ q → zA f s.heap.size q := fun q h => Or.inr h
  have hS : va_S (zA f s.heap.size) s.heap s.heap [] := va_S.rf
  have hl : lv_has ls 2 [(0, .ref o), (1, .int x)] := hl
  obtain ⟨x_o, x_wev, x_wnb, x_wki, x_wmy, x_wce, x_wiw, x_wli, x_wha, x_wwt, x_wfy, x_wfk, x_wem, x_wna, x_wpl, x_whs, x_wk1, x_wk2, x_wk3, hn60, hl12, hf6, hc60, hs40, hMP, hgy, hfz, hgs, hME, hlk, hgw, hfd, n_wki_wmy, n_wki_wiw, n_wki_wli, n_wki_wha, n_wki_wem, n_wki_wna, n_wki_wpl, n_wmy_wiw, n_wmy_wli, n_wmy_wha, n_wmy_wem, n_wmy_wna, n_wmy_wpl, n_wiw_wli, n_wiw_wha, n_wiw_wem, n_wiw_wna, n_wiw_wpl, n_wli_wha, n_wli_wem, n_wli_wna, n_wli_wpl, n_wha_wem, n_wha_wna, n_wha_wpl, n_wem_wna, n_wem_wpl, n_wna_wpl, n_wk1_wk2, n_wk1_wk3, n_wk2_wk3⟩ := id hI
  refine lv_aload_n hx hb dX8_lay_0 rfl (lv_at hl 0 rfl) ?_
  refine z_get (v := .int (nI nl)) C hz x_o zl8 mFX8_80 (by decide) rfl dX8_lay_1 ?_
  refine lv_bipush (v := 12) hx hb dX8_lay_4 (by decide) ?_
  refine lv_icmp_ne (tgt := 12) hx hb dX8_lay_6 (by decide) (fun c1 => ?_) (fun c1 => ?_)
  · replace c1 : ¬ (nl = 12) := fun h => c1 ((nI_eq (a := nl) (b := 12) (by omega) (by omega)).mpr h)
    refine lv_aload_n hx hb dX8_lay_12 rfl (lv_at hl 0 rfl) ?_
    refine z_get (v := .ref wnb) C hz x_o zl8 mFX8_17 (by decide) rfl dX8_lay_13 ?_
    refine lv_aload_n hx hb dX8_lay_16 rfl (lv_at hl 0 rfl) ?_
    refine z_get (v := .int (nI nl)) C hz x_o zl8 mFX8_80 (by decide) rfl dX8_lay_17 ?_
    refine lv_iload_n hx hb dX8_lay_20 rfl (lv_at hl 1 rfl) ?_
    refine z_iast nl C hz hS x_wnb rfl (by omega) (by omega) dX8_lay_21 (fun H locs f2 a3 k4 hz hS => ?_)
    refine lv_aload_n hx hb dX8_lay_22 rfl (lv_at hl 0 rfl) ?_
    refine lv_dup hx hb dX8_lay_23 rfl ?_
    have a5 : f2 o = some (.inr (8, [.int u1, .int u2, .int u3, .ref wev, .int (nI nl), .ref wnb, .int (nI nn), .ref wki, .ref wmy, .ref wce, .ref wiw, .ref wli, .ref wha, .ref wwt, .int (nI nf), .ref wfy, .ref wfk, .int (nI nc), .ref wem, .ref wna, .ref wpl, .ref whs, .long lk, .int (nI ks), .ref wk1, .ref wk2, .ref wk3])) := (k4 _ (z_ne x_o x_wnb rfl)).trans x_o
    refine z_get (v := .int (nI nl)) C hz a5 zl8 mFX8_80 (by decide) rfl dX8_lay_24 ?_
    refine lv_iconst (v := 1) hx hb dX8_lay_27 (by decide) ?_
    refine lv_iadd hx hb dX8_lay_28 ?_
    refine lv_topi (fun y6 e7 => ?_)
    obtain rfl : y6 = nI (nl + 1) := e7.trans (nI_1 nl)
    refine z_put (fs' := [.int u1, .int u2, .int u3, .ref wev, .int (nI (nl + 1)), .ref wnb, .int (nI nn), .ref wki, .ref wmy, .ref wce, .ref wiw, .ref wli, .ref wha, .ref wwt, .int (nI nf), .ref wfy, .ref wfk, .int (nI nc), .ref wem, .ref wna, .ref wpl, .ref whs, .long lk, .int (nI ks), .ref wk1, .ref wk2, .ref wk3]) C hz hS a5 zl8 mFX8_80 (by decide) rfl rfl rfl (Nat.le_of_ble_eq_true rfl) rfl dX8_lay_29 (fun H locs f8 a9 k10 hz hS => ?_)
    refine lv_aload_n hx hb dX8_lay_32 rfl (lv_at hl 0 rfl) ?_
    refine z_get (v := .int (nI (nl + 1))) C hz a9 zl8 mFX8_80 (by decide) rfl dX8_lay_33 ?_
    have a11 : f2 wev = some (.inl (cy 0, 8, .inl gv)) := (k4 _ (z_ne x_wev x_wnb rfl)).trans x_wev
    have a12 : f8 wev = some (.inl (cy 0, 8, .inl gv)) := (k10 _ (z_ne a11 a5 rfl)).trans a11
    have a13 : f8 wnb = some (.inl (cy 0, 12, .inl (upd gu nl x))) := (k10 _ (z_ne a3 a5 rfl)).trans a3
    have a14 : f2 wki = some (.inl (cy 0, 60, .inl gk)) := (k4 _ (z_ne x_wki x_wnb rfl)).trans x_wki
    have a15 : f8 wki = some (.inl (cy 0, 60, .inl gk)) := (k10 _ (z_ne a14 a5 rfl)).trans a14
    have a16 : f2 wmy = some (.inl (cy 0, 60, .inl gm)) := (k4 _ (z_ne x_wmy x_wnb rfl)).trans x_wmy
    have a17 : f8 wmy = some (.inl (cy 0, 60, .inl gm)) := (k10 _ (z_ne a16 a5 rfl)).trans a16
    have a18 : f2 wce = some (.inl (cy 1, 960, .inr (.inl gc))) := (k4 _ (z_ne x_wce x_wnb rfl)).trans x_wce
    have a19 : f8 wce = some (.inl (cy 1, 960, .inr (.inl gc))) := (k10 _ (z_ne a18 a5 rfl)).trans a18
    have a20 : f2 wiw = some (.inl (cy 2, 60, .inl gw)) := (k4 _ (z_ne x_wiw x_wnb rfl)).trans x_wiw
    have a21 : f8 wiw = some (.inl (cy 2, 60, .inl gw)) := (k10 _ (z_ne a20 a5 rfl)).trans a20
    have a22 : f2 wli = some (.inl (cy 0, 60, .inl gl)) := (k4 _ (z_ne x_wli x_wnb rfl)).trans x_wli
    have a23 : f8 wli = some (.inl (cy 0, 60, .inl gl)) := (k10 _ (z_ne a22 a5 rfl)).trans a22
    have a24 : f2 wha = some (.inl (cy 0, 60, .inl gh)) := (k4 _ (z_ne x_wha x_wnb rfl)).trans x_wha
    have a25 : f8 wha = some (.inl (cy 0, 60, .inl gh)) := (k10 _ (z_ne a24 a5 rfl)).trans a24
    have a26 : f2 wwt = some (.inl (cy 1, 60, .inr (.inl gt))) := (k4 _ (z_ne x_wwt x_wnb rfl)).trans x_wwt
    have a27 : f8 wwt = some (.inl (cy 1, 60, .inr (.inl gt))) := (k10 _ (z_ne a26 a5 rfl)).trans a26
    have a28 : f2 wfy = some (.inl (cy 0, 6, .inl gy)) := (k4 _ (z_ne x_wfy x_wnb rfl)).trans x_wfy
    have a29 : f8 wfy = some (.inl (cy 0, 6, .inl gy)) := (k10 _ (z_ne a28 a5 rfl)).trans a28
    have a30 : f2 wfk = some (.inl (cy 0, 24, .inl gq)) := (k4 _ (z_ne x_wfk x_wnb rfl)).trans x_wfk
    have a31 : f8 wfk = some (.inl (cy 0, 24, .inl gq)) := (k10 _ (z_ne a30 a5 rfl)).trans a30
    have a32 : f2 wem = some (.inl (cy 0, 60, .inl ge1)) := (k4 _ (z_ne x_wem x_wnb rfl)).trans x_wem
    have a33 : f8 wem = some (.inl (cy 0, 60, .inl ge1)) := (k10 _ (z_ne a32 a5 rfl)).trans a32
    have a34 : f2 wna = some (.inl (cy 0, 60, .inl gn1)) := (k4 _ (z_ne x_wna x_wnb rfl)).trans x_wna
    have a35 : f8 wna = some (.inl (cy 0, 60, .inl gn1)) := (k10 _ (z_ne a34 a5 rfl)).trans a34
    have a36 : f2 wpl = some (.inl (cy 0, 60, .inl gp1)) := (k4 _ (z_ne x_wpl x_wnb rfl)).trans x_wpl
    have a37 : f8 wpl = some (.inl (cy 0, 60, .inl gp1)) := (k10 _ (z_ne a36 a5 rfl)).trans a36
    have a38 : f2 whs = some (.inl (cy 0, 4, .inl gs)) := (k4 _ (z_ne x_whs x_wnb rfl)).trans x_whs
    have a39 : f8 whs = some (.inl (cy 0, 4, .inl gs)) := (k10 _ (z_ne a38 a5 rfl)).trans a38
    have a40 : f2 wk1 = some (.inl (cy 0, 40, .inl gx1)) := (k4 _ (z_ne x_wk1 x_wnb rfl)).trans x_wk1
    have a41 : f8 wk1 = some (.inl (cy 0, 40, .inl gx1)) := (k10 _ (z_ne a40 a5 rfl)).trans a40
    have a42 : f2 wk2 = some (.inl (cy 0, 40, .inl gx2)) := (k4 _ (z_ne x_wk2 x_wnb rfl)).trans x_wk2
    have a43 : f8 wk2 = some (.inl (cy 0, 40, .inl gx2)) := (k10 _ (z_ne a42 a5 rfl)).trans a42
    have a44 : f2 wk3 = some (.inl (cy 0, 40, .inl gx3)) := (k4 _ (z_ne x_wk3 x_wnb rfl)).trans x_wk3
    have a45 : f8 wk3 = some (.inl (cy 0, 40, .inl gx3)) := (k10 _ (z_ne a44 a5 rfl)).trans a44
    exact z_iret C hr rfl hz hS ⟨u1, u2, u3, (nl + 1), nn, nf, nc, lk, ks, gv, (upd gu nl x), gk, gm, gc, gw, gl, gh, gt, gy, gq, ge1, gn1, gp1, gs, gx1, gx2, gx3, ln, fz, sq, (by first | rw [if_pos (by omega)] | rw [if_neg (by omega)]), rfl, rfl, rfl, rfl, (by first | rw [if_pos (by omega)] | rw [if_neg (by omega)]), (by first | rw [if_pos (by omega)] | rw [if_neg (by omega)]), rfl, rfl, rfl, rfl, rfl, rfl, rfl, rfl, rfl, rfl, rfl, rfl, rfl, rfl, rfl, rfl, rfl, rfl, rfl, ⟨a9, a12, a13, a15, a17, a19, a21, a23, a25, a27, a29, a31, a33, a35, a37, a39, a41, a43, a45, hn60, (by omega), hf6, hc60, hs40, hMP, hgy, hfz, hgs, hME, hlk, hgw, hfd, n_wki_wmy, n_wki_wiw, n_wki_wli, n_wki_wha, n_wki_wem, n_wki_wna, n_wki_wpl, n_wmy_wiw, n_wmy_wli, n_wmy_wha, n_wmy_wem, n_wmy_wna, n_wmy_wpl, n_wiw_wli, n_wiw_wha, n_wiw_wem, n_wiw_wna, n_wiw_wpl, n_wli_wha, n_wli_wem, n_wli_wna, n_wli_wpl, n_wha_wem, n_wha_wna, n_wha_wpl, n_wem_wna, n_wem_wpl, n_wna_wpl, n_wk1_wk2, n_wk1_wk3, n_wk2_wk3⟩⟩ (Nat.le_of_ble_eq_true rfl) (Nat.le_of_ble_eq_true rfl) dX8_lay_36
  · replace c1 : (nl = 12) := (nI_eq (a := nl) (b := 12) (by omega) (by omega)).mp c1
    refine lv_bipush (v := (-3)) hx hb dX8_lay_9 (by decide) ?_
    exact z_iret C hr rfl hz hS ⟨u1, u2, u3, nl, nn, nf, nc, lk, ks, gv, gu, gk, gm, gc, gw, gl, gh, gt, gy, gq, ge1, gn1, gp1, gs, gx1, gx2, gx3, ln, fz, sq, (by first | rw [if_pos (by omega)] | rw [if_neg (by omega)]), rfl, rfl, rfl, rfl, (by first | rw [if_pos (by omega)] | rw [if_neg (by omega)]), (by first | rw [if_pos (by omega)] | rw [if_neg (by omega)]), rfl, rfl, rfl, rfl, rfl, rfl, rfl, rfl, rfl, rfl, rfl, rfl, rfl, rfl, rfl, rfl, rfl, rfl, rfl, ⟨x_o, x_wev, x_wnb, x_wki, x_wmy, x_wce, x_wiw, x_wli, x_wha, x_wwt, x_wfy, x_wfk, x_wem, x_wna, x_wpl, x_whs, x_wk1, x_wk2, x_wk3, hn60, hl12, hf6, hc60, hs40, hMP, hgy, hfz, hgs, hME, hlk, hgw, hfd, n_wki_wmy, n_wki_wiw, n_wki_wli, n_wki_wha, n_wki_wem, n_wki_wna, n_wki_wpl, n_wmy_wiw, n_wmy_wli, n_wmy_wha, n_wmy_wem, n_wmy_wna, n_wmy_wpl, n_wiw_wli, n_wiw_wha, n_wiw_wem, n_wiw_wna, n_wiw_wpl, n_wli_wha, n_wli_wem, n_wli_wna, n_wli_wpl, n_wha_wem, n_wha_wna, n_wha_wpl, n_wem_wna, n_wem_wpl, n_wna_wpl, n_wk1_wk2, n_wk1_wk3, n_wk2_wk3⟩⟩ (Nat.le_of_ble_eq_true rfl) (Nat.le_of_ble_eq_true rfl) dX8_lay_11
abbrev rmX8_wipe : Room := { frames := 0, cells := 0, slots := 0, locals := 0 }
set_option maxHeartbeats 4000000 in
set_option maxRecDepth 100000 in
theorem k_X8_wipe (l : Launch) (D : va_G) (cy : Nat → ClassId) (f : zM) (o : Nat) (wev : Nat) (wnb : Nat) (wki : Nat) (wmy : Nat) (wce : Nat) (wiw : Nat) (wli : Nat) (wha : Nat) (wwt : Nat) (wfy : Nat) (wfk : Nat) (wem : Nat) (wna : Nat) (wpl : Nat) (whs : Nat) (wk1 : Nat) (wk2 : Nat) (wk3 : Nat) (u1 : Int32) (u2 : Int32) (u3 : Int32) (nl : Nat) (nn : Nat) (nf : Nat) (nc : Nat) (lk : Int64) (ks : Nat) (gv : Nat → Int32) (gu : Nat → Int32) (gk : Nat → Int32) (gm : Nat → Int32) (gc : Nat → Int64) (gw : Nat → Int32) (gl : Nat → Int32) (gh : Nat → Int32) (gt : Nat → Int64) (gy : Nat → Int32) (gq : Nat → Int32) (ge1 : Nat → Int32) (gn1 : Nat → Int32) (gp1 : Nat → Int32) (gs : Nat → Int32) (gx1 : Nat → Int32) (gx2 : Nat → Int32) (gx3 : Nat → Int32) (ln : Nat → Nat) (fz : Nat → Nat) (sq : Nat → Nat)    (hI : zIM cy f o wev wnb wki wmy wce wiw wli wha wwt wfy wfk wem wna wpl whs wk1 wk2 wk3 u1 u2 u3 nl nn nf nc lk ks gv gu gk gm gc gw gl gh gt gy gq ge1 gn1 gp1 gs gx1 gx2 gx3 ln fz sq) : zCi l D cy yX8_wipe cX8_wipe 2 (Option.some Jvm.ClassFile.FieldType.int) rmX8_wipe [.ref o] f (fun (r : Int32) (f1 : zM) => ∃ (u11 : Int32) (u21 : Int32) (u31 : Int32) (nl1 : Nat) (nn1 : Nat) (nf1 : Nat) (nc1 : Nat) (lk1 : Int64) (ks1 : Nat) (gv1 : Nat → Int32) (gu1 : Nat → Int32) (gk1 : Nat → Int32) (gm1 : Nat → Int32) (gc1 : Nat → Int64) (gw1 : Nat → Int32) (gl1 : Nat → Int32) (gh1 : Nat → Int32) (gt1 : Nat → Int64) (gy1 : Nat → Int32) (gq1 : Nat → Int32) (ge11 : Nat → Int32) (gn11 : Nat → Int32) (gp11 : Nat → Int32) (gs1 : Nat → Int32) (gx11 : Nat → Int32) (gx21 : Nat → Int32) (gx31 : Nat → Int32) (ln1 : Nat → Nat) (fz1 : Nat → Nat) (sq1 : Nat → Nat), r = (nI nl) ∧ (u11 = u1) ∧ (u21 = u2) ∧ (u31 = u3) ∧ (gv1 = gv) ∧ (nl1 = 0) ∧ (gu1 = gu) ∧ (nn1 = nn) ∧ (gk1 = gk) ∧ (ln1 = ln) ∧ (gw1 = gw) ∧ (gh1 = gh) ∧ (gc1 = gc) ∧ (nf1 = nf) ∧ (fz1 = fz) ∧ (gq1 = gq) ∧ (nc1 = nc) ∧ (ge11 = ge1) ∧ (gn11 = gn1) ∧ (gp11 = gp1) ∧ (sq1 = sq) ∧ (ks1 = ks) ∧ (gx11 = gx1) ∧ (gx21 = gx2) ∧ (gx31 = gx3) ∧ (lk1 = lk) ∧ zIM cy f1 o wev wnb wki wmy wce wiw wli wha wwt wfy wfk wem wna wpl whs wk1 wk2 wk3 u11 u21 u31 nl1 nn1 nf1 nc1 lk1 ks1 gv1 gu1 gk1 gm1 gc1 gw1 gl1 gh1 gt1 gy1 gq1 ge11 gn11 gp11 gs1 gx11 gx21 gx31 ln1 fz1 sq1) := by
  intro sz
  refine z_body (by decide +kernel) (Nat.le_of_ble_eq_true rfl) ?_
  intro p e s m below meth c ls C hr hin hsz hz hl
  subst hsz
  have hx := C.1
  have hb := C.2.1
  have hA : ∀ q, s.heap.size ≤ q → zA f s.heap.size q := fun q h => Or.inr h
  have hS : va_S (zA f s.heap.size) s.heap s.heap [] := va_S.rf
  have hl : lv_has ls 2 [(0, .ref o)] := hl
  obtain ⟨x_o, x_wev, x_wnb, x_wki, x_wmy, x_wce, x_wiw, x_wli, x_wha, x_wwt, x_wfy, x_wfk, x_wem, x_wna, x_wpl, x_whs, x_wk1, x_wk2, x_wk3, hn60, hl12, hf6, hc60, hs40, hMP, hgy, hfz, hgs, hME, hlk, hgw, hfd, n_wki_wmy, n_wki_wiw, n_wki_wli, n_wki_wha, n_wki_wem, n_wki_wna, n_wki_wpl, n_wmy_wiw, n_wmy_wli, n_wmy_wha, n_wmy_wem, n_wmy_wna, n_wmy_wpl, n_wiw_wli, n_wiw_wha, n_wiw_wem, n_wiw_wna, n_wiw_wpl, n_wli_wha, n_wli_wem, n_wli_wna, n_wli_wpl, n_wha_wem, n_wha_wna, n_wha_wpl, n_wem_wna, n_wem_wpl, n_wna_wpl, n_wk1_wk2, n_wk1_wk3, n_wk2_wk3⟩ := id hI
  refine lv_aload_n hx hb dX8_wipe_0 rfl (lv_at hl 0 rfl) ?_
  refine z_get (v := .int (nI nl)) C hz x_o zl8 mFX8_80 (by decide) rfl dX8_wipe_1 ?_
  refine lv_istore_n (lv' := [(1, .int (nI nl)), (0, .ref o)]) hx hb dX8_wipe_4 rfl hl (by decide) rfl (fun ls hl => ?_)
  refine lv_aload_n hx hb dX8_wipe_5 rfl (lv_at hl 1 rfl) ?_
  refine lv_iconst (v := 0) hx hb dX8_wipe_6 (by decide) ?_
  refine z_put (fs' := [.int u1, .int u2, .int u3, .ref wev, .int 0, .ref wnb, .int (nI nn), .ref wki, .ref wmy, .ref wce, .ref wiw, .ref wli, .ref wha, .ref wwt, .int (nI nf), .ref wfy, .ref wfk, .int (nI nc), .ref wem, .ref wna, .ref wpl, .ref whs, .long lk, .int (nI ks), .ref wk1, .ref wk2, .ref wk3]) C hz hS x_o zl8 mFX8_80 (by decide) rfl rfl rfl (Nat.le_of_ble_eq_true rfl) rfl dX8_wipe_7 (fun H locs f1 a2 k3 hz hS => ?_)
  refine lv_iload_n hx hb dX8_wipe_10 rfl (lv_at hl 0 rfl) ?_
  have a4 : f1 wev = some (.inl (cy 0, 8, .inl gv)) := (k3 _ (z_ne x_wev x_o rfl)).trans x_wev
  have a5 : f1 wnb = some (.inl (cy 0, 12, .inl gu)) := (k3 _ (z_ne x_wnb x_o rfl)).trans x_wnb
  have a6 : f1 wki = some (.inl (cy 0, 60, .inl gk)) := (k3 _ (z_ne x_wki x_o rfl)).trans x_wki
  have a7 : f1 wmy = some (.inl (cy 0, 60, .inl gm)) := (k3 _ (z_ne x_wmy x_o rfl)).trans x_wmy
  have a8 : f1 wce = some (.inl (cy 1, 960, .inr (.inl gc))) := (k3 _ (z_ne x_wce x_o rfl)).trans x_wce
  have a9 : f1 wiw = some (.inl (cy 2, 60, .inl gw)) := (k3 _ (z_ne x_wiw x_o rfl)).trans x_wiw
  have a10 : f1 wli = some (.inl (cy 0, 60, .inl gl)) := (k3 _ (z_ne x_wli x_o rfl)).trans x_wli
  have a11 : f1 wha = some (.inl (cy 0, 60, .inl gh)) := (k3 _ (z_ne x_wha x_o rfl)).trans x_wha
  have a12 : f1 wwt = some (.inl (cy 1, 60, .inr (.inl gt))) := (k3 _ (z_ne x_wwt x_o rfl)).trans x_wwt
  have a13 : f1 wfy = some (.inl (cy 0, 6, .inl gy)) := (k3 _ (z_ne x_wfy x_o rfl)).trans x_wfy
  have a14 : f1 wfk = some (.inl (cy 0, 24, .inl gq)) := (k3 _ (z_ne x_wfk x_o rfl)).trans x_wfk
  have a15 : f1 wem = some (.inl (cy 0, 60, .inl ge1)) := (k3 _ (z_ne x_wem x_o rfl)).trans x_wem
  have a16 : f1 wna = some (.inl (cy 0, 60, .inl gn1)) := (k3 _ (z_ne x_wna x_o rfl)).trans x_wna
  have a17 : f1 wpl = some (.inl (cy 0, 60, .inl gp1)) := (k3 _ (z_ne x_wpl x_o rfl)).trans x_wpl
  have a18 : f1 whs = some (.inl (cy 0, 4, .inl gs)) := (k3 _ (z_ne x_whs x_o rfl)).trans x_whs
  have a19 : f1 wk1 = some (.inl (cy 0, 40, .inl gx1)) := (k3 _ (z_ne x_wk1 x_o rfl)).trans x_wk1
  have a20 : f1 wk2 = some (.inl (cy 0, 40, .inl gx2)) := (k3 _ (z_ne x_wk2 x_o rfl)).trans x_wk2
  have a21 : f1 wk3 = some (.inl (cy 0, 40, .inl gx3)) := (k3 _ (z_ne x_wk3 x_o rfl)).trans x_wk3
  exact z_iret C hr rfl hz hS ⟨u1, u2, u3, 0, nn, nf, nc, lk, ks, gv, gu, gk, gm, gc, gw, gl, gh, gt, gy, gq, ge1, gn1, gp1, gs, gx1, gx2, gx3, ln, fz, sq, rfl, rfl, rfl, rfl, rfl, rfl, rfl, rfl, rfl, rfl, rfl, rfl, rfl, rfl, rfl, rfl, rfl, rfl, rfl, rfl, rfl, rfl, rfl, rfl, rfl, rfl, ⟨a2, a4, a5, a6, a7, a8, a9, a10, a11, a12, a13, a14, a15, a16, a17, a18, a19, a20, a21, hn60, (by omega), hf6, hc60, hs40, hMP, hgy, hfz, hgs, hME, hlk, hgw, hfd, n_wki_wmy, n_wki_wiw, n_wki_wli, n_wki_wha, n_wki_wem, n_wki_wna, n_wki_wpl, n_wmy_wiw, n_wmy_wli, n_wmy_wha, n_wmy_wem, n_wmy_wna, n_wmy_wpl, n_wiw_wli, n_wiw_wha, n_wiw_wem, n_wiw_wna, n_wiw_wpl, n_wli_wha, n_wli_wem, n_wli_wna, n_wli_wpl, n_wha_wem, n_wha_wna, n_wha_wpl, n_wem_wna, n_wem_wpl, n_wna_wpl, n_wk1_wk2, n_wk1_wk3, n_wk2_wk3⟩⟩ (Nat.le_of_ble_eq_true rfl) (Nat.le_of_ble_eq_true rfl) dX8_wipe_11
theorem z_gs1 {gs : Nat → Int32} {sq : Nat → Nat} {j t : Nat} (h : ∀ i, i < 4 → gs i = nI (sq i)) : ∀ i, i < 4 → upd gs j (nI t) i = nI (va_up sq j t i) := by
  intro i hi
  by_cases e : i = j
  · subst e
    rw [pk_us, va_up_self]
  · rw [pk_un e, va_up_ne _ _ e]
    exact h i hi
theorem z_gy1 {gy : Nat → Int32} {fz : Nat → Nat} {n t : Nat} (h : ∀ i, i < n → gy i = nI (fz i)) : ∀ i, i < n + 1 → upd gy n (nI t) i = nI (va_up fz n t i) := by
  intro i hi
  by_cases e : i = n
  · subst e
    rw [pk_us, va_up_self]
  · rw [pk_un e, va_up_ne _ _ e]
    exact h i (by omega)
theorem z_nIm1 {j : Nat} (hj : j < 2 ^ 31) : ¬ (-1 : Int32) = nI j := fun h => z_nim1 hj h.symm
/-- one more constant, at its enumeration's end -/
theorem zME_new {nc j : Nat} {ge gp : Nat → Int32} {sq : Nat → Nat} {x : Int32} (h : zME nc ge gp sq) (hn : nc < 60) (hj : j < 4) (hx : x = nI j) : zME (nc + 1) (upd ge nc x) (upd gp nc (nI (sq j))) (va_up sq j (sq j + 1)) := by
  obtain ⟨h1, h2, h3, h4, h5⟩ := h
  subst hx
  have hs := h5 j hj
  have up : ∀ e, sq e ≤ va_up sq j (sq j + 1) e := fun e => by
    by_cases q : e = j
    · rw [q, va_up_self]; omega
    · rw [va_up_ne _ _ q]; exact Nat.le_refl _
  refine ⟨?_, ?_, ?_, ?_, ?_⟩
  · intro c hc
    by_cases q : c = nc
    · rw [q, pk_us]; exact ⟨j, hj, rfl⟩
    · rw [pk_un q]; exact h1 c (by omega)
  · intro c hc
    by_cases q : c = nc
    · rw [q, pk_us, pk_us]
      refine Or.inr ⟨sq j, by omega, rfl, fun e he hee => ?_⟩
      have : j = e := (nI_eq (by omega) (by omega)).mp hee
      rw [← this, va_up_self]
      omega
    · rw [pk_un q, pk_un q]
      rcases h2 c (by omega) with a | ⟨p, hp, e1, e2⟩
      · exact Or.inl a
      · exact Or.inr ⟨p, by omega, e1, fun e he hee => Nat.lt_of_lt_of_le (e2 e he hee) (up e)⟩
  · intro e he p hp
    by_cases q : e = j
    · subst q
      rw [va_up_self] at hp
      by_cases q2 : p = sq e
      · exact ⟨nc, by omega, by rw [pk_us], by rw [pk_us, q2]⟩
      · obtain ⟨c, hc, a, b⟩ := h3 e he p (by omega)
        exact ⟨c, by omega, by rw [pk_un (by omega)]; exact a, by rw [pk_un (by omega)]; exact b⟩
    · rw [va_up_ne _ _ q] at hp
      obtain ⟨c, hc, a, b⟩ := h3 e he p hp
      exact ⟨c, by omega, by rw [pk_un (by omega)]; exact a, by rw [pk_un (by omega)]; exact b⟩
  · have key : ∀ d, d < nc → nI j = ge d → nI (sq j) = gp d → False := fun d hd a b => by
      rcases h2 d hd with a1 | ⟨p, hp, e1, e2⟩
      · exact z_nIm1 (j := sq j) (by omega) (a1.symm.trans b.symm)
      · have h6 := e2 j hj a.symm
        have h7 : p = sq j := (nI_eq (by omega) (by omega)).mp (e1.symm.trans b.symm)
        omega
    intro c hc d hd
    by_cases q : c = nc
    · by_cases q2 : d = nc
      · intro _ _ _; omega
      · rw [q, pk_us, pk_us, pk_un q2, pk_un q2]
        exact fun a b _ => (key d (by omega) a b).elim
    · by_cases q2 : d = nc
      · rw [q2, pk_us, pk_us, pk_un q, pk_un q]
        exact fun a b _ => (key c (by omega) a.symm b.symm).elim
      · rw [pk_un q, pk_un q, pk_un q2, pk_un q2]
        exact h4 c (by omega) d (by omega)
  · intro e he
    by_cases q : e = j
    · rw [q, va_up_self]; omega
    · rw [va_up_ne _ _ q]; have := h5 e he; omega
/-- places told anew by a turning over of constants of one enumeration -/
theorem zME_perm {nc : Nat} {ge gp gp' : Nat → Int32} {sq : Nat → Nat} {σ : Nat → Nat} (h : zME nc ge gp sq) (s1 : ∀ c, c < nc → σ c < nc) (s2 : ∀ c, c < nc → σ (σ c) = c) (s3 : ∀ c, c < nc → ge (σ c) = ge c) (s4 : ∀ c, c < nc → gp' c = gp (σ c)) : zME nc ge gp' sq := by
  obtain ⟨h1, h2, h3, h4, h5⟩ := h
  refine ⟨h1, ?_, ?_, ?_, h5⟩
  · intro c hc
    rw [s4 c hc]
    rcases h2 (σ c) (s1 c hc) with a | ⟨p, hp, e1, e2⟩
    · exact Or.inl a
    · exact Or.inr ⟨p, hp, e1, fun e he hee => e2 e he ((s3 c hc).trans hee)⟩
  · intro e he p hp
    obtain ⟨c, hc, a, b⟩ := h3 e he p hp
    exact ⟨σ c, s1 c hc, (s3 c hc).trans a, by rw [s4 _ (s1 c hc), s2 c hc]; exact b⟩
  · intro c hc d hd a b n
    rw [s4 c hc] at b n
    rw [s4 d hd] at b
    have := h4 (σ c) (s1 c hc) (σ d) (s1 d hd) (by rw [s3 c hc, s3 d hd]; exact a) b n
    rw [← s2 c hc, ← s2 d hd, this]
theorem zME_swap {nc ca cb a b j : Nat} {ge gp : Nat → Int32} {sq : Nat → Nat} (h : zME nc ge gp sq) (hca : ca < nc) (hcb : cb < nc) (ea : ge ca = nI j) (eb : ge cb = nI j) (pa : gp ca = nI a) (pb : gp cb = nI b) : zME nc ge (upd (upd gp ca (nI b)) cb (nI a)) sq := by
  refine zME_perm (σ := fun c => if c = cb then ca else if c = ca then cb else c) h ?_ ?_ ?_ ?_ <;> intro c hc
  · split
    · exact hca
    · split
      · exact hcb
      · exact hc
  · by_cases q : c = cb
    · rw [if_pos q]
      by_cases q2 : ca = cb
      · rw [if_pos q2]; omega
      · rw [if_neg q2, if_pos rfl]; omega
    · rw [if_neg q]
      by_cases q2 : c = ca
      · rw [if_pos q2, if_pos rfl]; omega
      · rw [if_neg q2, if_neg q, if_neg q2]
  · split
    · rename_i q; rw [q, ea, eb]
    · split
      · rename_i q; rw [q, ea, eb]
      · rfl
  · by_cases q : c = cb
    · rw [if_pos q, q, pk_us, pa]
    · rw [if_neg q, pk_un q]
      by_cases q2 : c = ca
      · rw [if_pos q2, q2, pk_us, pb]
      · rw [if_neg q2, pk_un q2]
theorem zME_swapE {nc ca cb a b j : Nat} {ge gp : Nat → Int32} {sq : Nat → Nat} (h : zME nc ge gp sq) (hca : ca < nc) (hcb : cb < nc) (ea : ge ca = nI j) (eb : ge cb = nI j) (pa : gp ca = nI a) (pb : gp cb = nI b) (e2 : ca = cb) : zME nc ge (upd (upd gp ca (nI b)) cb (nI b)) sq := by
  have e3 : nI a = nI b := by rw [← pa, ← pb, e2]
  have h2 := zME_swap h hca hcb ea eb pa pb
  rw [e3] at h2
  exact h2
theorem z_drA {gp gv ge : Nat → Int32} {oo : Nat} {E P : Int32} (h : ∀ i, gv i = if i < oo ∧ ge i = E ∧ P < gp i then gp i - 1 else gp i) (hc : ge oo = E ∧ P < gp oo) : ∀ i, upd gv oo (gp oo - 1) i = if i < oo + 1 ∧ ge i = E ∧ P < gp i then gp i - 1 else gp i := by
  intro i
  by_cases q : i = oo
  · subst q
    rw [pk_us, if_pos ⟨by omega, hc⟩]
  · rw [pk_un q, h i]
    by_cases hq : i < oo ∧ ge i = E ∧ P < gp i
    · rw [if_pos hq, if_pos ⟨by omega, hq.2⟩]
    · rw [if_neg hq, if_neg (fun w => hq ⟨by have := w.1; omega, w.2⟩)]
theorem z_drB {gp gv ge : Nat → Int32} {oo : Nat} {E P : Int32} (h : ∀ i, gv i = if i < oo ∧ ge i = E ∧ P < gp i then gp i - 1 else gp i) (hc : ¬ (ge oo = E ∧ P < gp oo)) : ∀ i, upd gv oo (gp oo - 0) i = if i < oo + 1 ∧ ge i = E ∧ P < gp i then gp i - 1 else gp i := by
  intro i
  by_cases q : i = oo
  · subst q
    rw [pk_us, if_neg (fun w => hc w.2), Int32.sub_zero]
  · rw [pk_un q, h i]
    by_cases hq : i < oo ∧ ge i = E ∧ P < gp i
    · rw [if_pos hq, if_pos ⟨by omega, hq.2⟩]
    · rw [if_neg hq, if_neg (fun w => hq ⟨by have := w.1; omega, w.2⟩)]
/-- a constant that is gone: those behind it in its enumeration move up -/
theorem zME_drop {nc jc je pj : Nat} {ge gp gv : Nat → Int32} {sq : Nat → Nat} (h : zME nc ge gp sq) (hn : nc ≤ 60) (hjc : jc < nc) (hje : je < 4) (ej : ge jc = nI je) (pj1 : gp jc = nI pj) (hps : pj < sq je) (hpn : pj < nc) (hv : ∀ i, gv i = if i < nc ∧ ge i = nI je ∧ gp jc < gp i then gp i - 1 else gp i) : zME nc ge (upd gv jc (-1)) (va_up sq je (sq je - 1)) := by
  obtain ⟨h1, h2, h3, h4, h5⟩ := h
  have hs := h5 je hje
  have nm1 : ∀ k, k < 60 → ¬ nI k = (-1) := fun k hk => z_nim1 (by omega)
  have lt1 : ∀ a b, a < 60 → b < 60 → (nI a < nI b ↔ a < b) := fun a b ha hb => nI_ltI (by omega) (by omega)
  have eq1 : ∀ a b, a < 60 → b < 60 → (nI a = nI b ↔ a = b) := fun a b ha hb => nI_eq (by omega) (by omega)
  have A : ∀ c, c < nc → ¬ ge c = nI je → upd gv jc (-1) c = gp c := fun c hc w => by
    rw [pk_un (fun q => w (by rw [q]; exact ej)), hv c, if_neg (fun q => w q.2.1)]
  have B : ∀ c, c < nc → ¬ c = jc → gp c = (-1) → upd gv jc (-1) c = (-1) := fun c hc q w => by
    rw [pk_un q, hv c, if_neg (fun r => ?_), w]
    have r2 := r.2.2
    rw [w, pj1, Int32.lt_iff_toInt_lt] at r2
    have p0 : ¬ nI pj < 0 := nI_pos (by omega)
    rw [Int32.lt_iff_toInt_lt] at p0
    have e0 : (0 : Int32).toInt = 0 := by decide
    have e1 : (-1 : Int32).toInt = -1 := by decide
    rw [e0] at p0
    rw [e1] at r2
    omega
  have C : ∀ c, c < nc → ge c = nI je → ¬ c = jc → ¬ gp c = (-1) → ∃ p, p < sq je ∧ p < nc ∧ gp c = nI p ∧ p ≠ pj ∧ upd gv jc (-1) c = nI (if pj < p then p - 1 else p) := fun c hc a q w => by
    rcases h2 c hc with x | ⟨p, hp, e1, e2⟩
    · exact absurd x w
    · have hp2 := e2 je hje a
      have ne : p ≠ pj := fun r => q (h4 c hc jc hjc (a.trans ej.symm) (by rw [e1, pj1, r]) w)
      refine ⟨p, hp2, hp, e1, ne, ?_⟩
      rw [pk_un q, hv c]
      by_cases l : pj < p
      · rw [if_pos ⟨hc, a, by rw [pj1, e1]; exact (lt1 _ _ (by omega) (by omega)).mpr l⟩, if_pos l, e1]
        exact pk_sub (a := p) (b := 1) (by omega)
      · rw [if_neg (fun r => l ((lt1 _ _ (by omega) (by omega)).mp (by rw [← pj1, ← e1]; exact r.2.2))), if_neg l, e1]
  have J : upd gv jc (-1) jc = (-1) := pk_us
  refine ⟨h1, ?_, ?_, ?_, ?_⟩
  · intro c hc
    by_cases q : c = jc
    · exact Or.inl (by rw [q]; exact J)
    · by_cases w : gp c = (-1)
      · exact Or.inl (B c hc q w)
      · by_cases a : ge c = nI je
        · obtain ⟨p, hp, hpc, e1, ne, e2⟩ := C c hc a q w
          refine Or.inr ⟨if pj < p then p - 1 else p, by split <;> omega, e2, fun e he hee => ?_⟩
          have : je = e := (eq1 _ _ (by omega) (by omega)).mp (a.symm.trans hee)
          rw [← this, va_up_self]
          split <;> omega
        · rw [A c hc a]
          rcases h2 c hc with x | ⟨p, hp, e1, e2⟩
          · exact absurd x w
          · refine Or.inr ⟨p, hp, e1, fun e he hee => ?_⟩
            rw [va_up_ne _ _ (fun r => a (by rw [← r]; exact hee))]
            exact e2 e he hee
  · intro e he p hp
    by_cases r : e = je
    · subst r
      rw [va_up_self] at hp
      by_cases l : p < pj
      · obtain ⟨c, hc, a, b⟩ := h3 e he p (by omega)
        have q : ¬ c = jc := fun w => by
          rw [w, pj1] at b
          have := (eq1 _ _ (by omega) (by omega)).mp b
          omega
        obtain ⟨p2, -, hpc, e1, -, e2⟩ := C c hc a q (by rw [b]; exact nm1 p (by omega))
        have : p = p2 := (eq1 _ _ (by omega) (by omega)).mp (b.symm.trans e1)
        exact ⟨c, hc, a, by rw [e2, if_neg (by omega), this]⟩
      · obtain ⟨c, hc, a, b⟩ := h3 e he (p + 1) (by omega)
        have q : ¬ c = jc := fun w => by
          rw [w, pj1] at b
          have := (eq1 _ _ (by omega) (by omega)).mp b
          omega
        obtain ⟨p2, -, hpc, e1, -, e2⟩ := C c hc a q (by rw [b]; exact nm1 (p + 1) (by omega))
        have : p + 1 = p2 := (eq1 _ _ (by omega) (by omega)).mp (b.symm.trans e1)
        exact ⟨c, hc, a, by rw [e2, if_pos (by omega), show p = p2 - 1 by omega]⟩
    · rw [va_up_ne _ _ r] at hp
      obtain ⟨c, hc, a, b⟩ := h3 e he p hp
      exact ⟨c, hc, a, by rw [A c hc (fun w => r ((eq1 _ _ (by omega) (by omega)).mp (a.symm.trans w)))]; exact b⟩
  · intro c hc d hd a b n
    have qc : ¬ c = jc := fun w => n (by rw [w]; exact J)
    have qd : ¬ d = jc := fun w => n (by rw [b, w]; exact J)
    have wc : ¬ gp c = (-1) := fun w => n (B c hc qc w)
    have wd : ¬ gp d = (-1) := fun w => n (by rw [b]; exact B d hd qd w)
    by_cases g : ge c = nI je
    · obtain ⟨p, hp, hpc, e1, n1, e2⟩ := C c hc g qc wc
      obtain ⟨p2, hp2, hpc2, e3, n2, e4⟩ := C d hd (a.symm.trans g) qd wd
      rw [e2, e4] at b
      have b2 := (eq1 _ _ (by split <;> omega) (by split <;> omega)).mp b
      have : p = p2 := by
        split at b2 <;> split at b2 <;> omega
      exact h4 c hc d hd a (by rw [e1, e3, this]) wc
    · rw [A c hc g, A d hd (fun w => g (a.trans w))] at b
      exact h4 c hc d hd a b wc
  · intro e he
    by_cases r : e = je
    · rw [r, va_up_self]; omega
    · rw [va_up_ne _ _ r]; exact h5 e he
theorem z_k2' {k : Nat} (hk : k < 2 ^ 31) (h : ¬ nI k - 1 ≤ 0) : 2 ≤ k := by
  rcases (show k = 0 ∨ k = 1 ∨ 2 ≤ k by omega) with rfl | rfl | h2
  · exact absurd (by decide) h
  · exact absurd (by decide) h
  · exact h2
theorem z_cat {nc j p : Nat} {ge gp : Nat → Int32} {sq : Nat → Nat} {x y r : Int32} (hM : zME nc ge gp sq) (h : (∃ c, c < nc ∧ r = nI c ∧ ge c = x ∧ gp c = y) ∨ (r = (-1) ∧ ∀ c, c < nc → ¬ (ge c = x ∧ gp c = y))) (hj : j < 4) (hx : x = nI j) (hy : y = nI p) (hp : p < sq j) : ∃ c, c < nc ∧ r = nI c ∧ ge c = nI j ∧ gp c = nI p := by
  subst hx hy
  rcases h with h | ⟨-, h⟩
  · exact h
  · obtain ⟨c, hc, a, b⟩ := hM.2.2.1 j hj p hp
    exact absurd ⟨a, b⟩ (h c hc)
theorem z_c10 {x : Int32} (h1 : ¬ x < 11) (h2 : ¬ 17 < x) : ∃ k, k < 8 ∧ x - 10 = nI k := by
  rw [Int32.lt_iff_toInt_lt] at h1 h2
  have e1 : (11 : Int32).toInt = 11 := by decide
  have e2 : (17 : Int32).toInt = 17 := by decide
  rw [e1] at h1
  rw [e2] at h2
  obtain ⟨k, hk, e⟩ := vp_in_of (x := x) (n := 18) (vp_in_iff.mpr ⟨by omega, by omega⟩) (by omega)
  subst e
  have e3 : (nI k).toInt = k := nI_toInt (by omega)
  rw [e3] at h1
  exact ⟨k - 10, by omega, pk_sub (a := k) (b := 10) (by omega)⟩
theorem z_key {ks k0 k1 jc : Nat} {g1 g2 ge gn : Nat → Int32} (h0 : k0 < ks) (m0 : k0 < ks → g1 k0 = ge jc ∧ g2 k0 = gn jc) (m1 : ∀ i, i < k1 → ¬ (g1 i = ge jc ∧ g2 i = gn jc)) : k1 ≤ k0 := Nat.le_of_not_lt (fun h => m1 k0 h (m0 h0))
abbrev rmX8_told4 : Room := { frames := 0, cells := 0, slots := 0, locals := 0 }
set_option maxHeartbeats 4000000 in
set_option maxRecDepth 100000 in
theorem k_X8_told4 (l : Launch) (D : va_G) (cy : Nat → ClassId) (f : zM) (k : Int32) (x : Int32) (y : Int32) (z : Int32) (v : Int32)    : zCi l D cy yX8_told4 cX8_told4 5 (Option.some Jvm.ClassFile.FieldType.int) rmX8_told4 [.int k, .int x, .int y, .int z, .int v] f (fun (r : Int32) (f1 : zM) => r = (if k = 0 then x else if k = 1 then y else if k = 2 then z else v) ∧ (∀ (b : Nat) (e : va_E), f b = some e → f1 b = some e)) := by
  intro sz
  refine z_body (by decide +kernel) (Nat.le_of_ble_eq_true rfl) ?_
  intro p e s m below meth c ls C hr hin hsz hz hl
  subst hsz
  have hx := C.1
  have hb := C.2.1
  have hA : ∀ q, s.heap.size ≤ q → zA f s.heap.size q := fun q h => Or.inr h
  have hS : va_S (zA f s.heap.size) s.heap s.heap [] := va_S.rf
  have hl : lv_has ls 5 [(0, .int k), (1, .int x), (2, .int y), (3, .int z), (4, .int v)] := hl
  refine lv_iload_n hx hb dX8_told4_0 rfl (lv_at hl 0 rfl) ?_
  refine lv_if_ne (tgt := 8) hx hb dX8_told4_1 (by decide) (fun c1 => ?_) (fun c1 => ?_)
  · refine lv_iload_n hx hb dX8_told4_8 rfl (lv_at hl 0 rfl) ?_
    refine lv_iconst (v := 1) hx hb dX8_told4_9 (by decide) ?_
    refine lv_icmp_ne (tgt := 17) hx hb dX8_told4_10 (by decide) (fun c2 => ?_) (fun c2 => ?_)
    · refine lv_iload_n hx hb dX8_told4_17 rfl (lv_at hl 0 rfl) ?_
      refine lv_iconst (v := 2) hx hb dX8_told4_18 (by decide) ?_
      refine lv_icmp_ne (tgt := 26) hx hb dX8_told4_19 (by decide) (fun c3 => ?_) (fun c3 => ?_)
      · refine lv_iload hx hb dX8_told4_26 (lv_at hl 4 rfl) ?_
        exact z_iret C hr rfl hz hS ⟨(by simp [c1, c2, c3]), (fun b e hb => hb)⟩ (Nat.le_of_ble_eq_true rfl) (Nat.le_of_ble_eq_true rfl) dX8_told4_28
      · refine lv_iload_n hx hb dX8_told4_22 rfl (lv_at hl 3 rfl) ?_
        refine lv_goto (tgt := 28) hx hb dX8_told4_23 (by decide) ?_
        exact z_iret C hr rfl hz hS ⟨(by simp [c1, c2, c3]), (fun b e hb => hb)⟩ (Nat.le_of_ble_eq_true rfl) (Nat.le_of_ble_eq_true rfl) dX8_told4_28
    · refine lv_iload_n hx hb dX8_told4_13 rfl (lv_at hl 2 rfl) ?_
      refine lv_goto (tgt := 28) hx hb dX8_told4_14 (by decide) ?_
      exact z_iret C hr rfl hz hS ⟨(by simp [c1, c2]), (fun b e hb => hb)⟩ (Nat.le_of_ble_eq_true rfl) (Nat.le_of_ble_eq_true rfl) dX8_told4_28
  · refine lv_iload_n hx hb dX8_told4_4 rfl (lv_at hl 1 rfl) ?_
    refine lv_goto (tgt := 28) hx hb dX8_told4_5 (by decide) ?_
    exact z_iret C hr rfl hz hS ⟨(by simp [c1]), (fun b e hb => hb)⟩ (Nat.le_of_ble_eq_true rfl) (Nat.le_of_ble_eq_true rfl) dX8_told4_28
abbrev rmX8_family : Room := { frames := 1, cells := 0, slots := 0, locals := 24 }
set_option maxHeartbeats 4000000 in
set_option maxRecDepth 100000 in
theorem k_X8_family (l : Launch) (D : va_G) (cy : Nat → ClassId) (f : zM) (o : Nat) (wev : Nat) (wnb : Nat) (wki : Nat) (wmy : Nat) (wce : Nat) (wiw : Nat) (wli : Nat) (wha : Nat) (wwt : Nat) (wfy : Nat) (wfk : Nat) (wem : Nat) (wna : Nat) (wpl : Nat) (whs : Nat) (wk1 : Nat) (wk2 : Nat) (wk3 : Nat) (u1 : Int32) (u2 : Int32) (u3 : Int32) (nl : Nat) (nn : Nat) (nf : Nat) (nc : Nat) (lk : Int64) (ks : Nat) (gv : Nat → Int32) (gu : Nat → Int32) (gk : Nat → Int32) (gm : Nat → Int32) (gc : Nat → Int64) (gw : Nat → Int32) (gl : Nat → Int32) (gh : Nat → Int32) (gt : Nat → Int64) (gy : Nat → Int32) (gq : Nat → Int32) (ge1 : Nat → Int32) (gn1 : Nat → Int32) (gp1 : Nat → Int32) (gs : Nat → Int32) (gx1 : Nat → Int32) (gx2 : Nat → Int32) (gx3 : Nat → Int32) (ln : Nat → Nat) (fz : Nat → Nat) (sq : Nat → Nat) (x : Int32) (y : Int32) (z : Int32) (v : Int32)    (hI : zIM cy f o wev wnb wki wmy wce wiw wli wha wwt wfy wfk wem wna wpl whs wk1 wk2 wk3 u1 u2 u3 nl nn nf nc lk ks gv gu gk gm gc gw gl gh gt gy gq ge1 gn1 gp1 gs gx1 gx2 gx3 ln fz sq) : zCi l D cy yX8_family cX8_family 9 (Option.some Jvm.ClassFile.FieldType.int) rmX8_family [.ref o, .int x, .int y, .int z, .int v] f (fun (r : Int32) (f1 : zM) => ∃ (u11 : Int32) (u21 : Int32) (u31 : Int32) (nl1 : Nat) (nn1 : Nat) (nf1 : Nat) (nc1 : Nat) (lk1 : Int64) (ks1 : Nat) (gv1 : Nat → Int32) (gu1 : Nat → Int32) (gk1 : Nat → Int32) (gm1 : Nat → Int32) (gc1 : Nat → Int64) (gw1 : Nat → Int32) (gl1 : Nat → Int32) (gh1 : Nat → Int32) (gt1 : Nat → Int64) (gy1 : Nat → Int32) (gq1 : Nat → Int32) (ge11 : Nat → Int32) (gn11 : Nat → Int32) (gp11 : Nat → Int32) (gs1 : Nat → Int32) (gx11 : Nat → Int32) (gx21 : Nat → Int32) (gx31 : Nat → Int32) (ln1 : Nat → Nat) (fz1 : Nat → Nat) (sq1 : Nat → Nat), r = (q_family nf (zks (g4 x y z v) 4).isSome) ∧ (u11 = u1) ∧ (u21 = u2) ∧ (u31 = u3) ∧ (gv1 = gv) ∧ (nl1 = nl) ∧ (gu1 = gu) ∧ (nn1 = nn) ∧ (gk1 = gk) ∧ (ln1 = ln) ∧ (gw1 = gw) ∧ (gh1 = gh) ∧ (gc1 = gc) ∧ (nf1 = if 0 ≤ r then nf + 1 else nf) ∧ (fz1 = if 0 ≤ r then va_up fz nf (zfn (g4 x y z v) 4) else fz) ∧ (zGQ nf (0 ≤ r) (zfn (g4 x y z v) 4) (zfg (g4 x y z v) 4) gq gq1) ∧ (nc1 = nc) ∧ (ge11 = ge1) ∧ (gn11 = gn1) ∧ (gp11 = gp1) ∧ (sq1 = sq) ∧ (ks1 = ks) ∧ (gx11 = gx1) ∧ (gx21 = gx2) ∧ (gx31 = gx3) ∧ (lk1 = lk) ∧ zIM cy f1 o wev wnb wki wmy wce wiw wli wha wwt wfy wfk wem wna wpl whs wk1 wk2 wk3 u11 u21 u31 nl1 nn1 nf1 nc1 lk1 ks1 gv1 gu1 gk1 gm1 gc1 gw1 gl1 gh1 gt1 gy1 gq1 ge11 gn11 gp11 gs1 gx11 gx21 gx31 ln1 fz1 sq1) := by
  intro sz
  refine z_body (by decide +kernel) (Nat.le_of_ble_eq_true rfl) ?_
  intro p e s m below meth c ls C hr hin hsz hz hl
  subst hsz
  have hx := C.1
  have hb := C.2.1
  have hA : ∀ q, s.heap.size ≤ q → zA f s.heap.size q := fun q h => Or.inr h
  have hS : va_S (zA f s.heap.size) s.heap s.heap [] := va_S.rf
  have hl : lv_has ls 9 [(0, .ref o), (1, .int x), (2, .int y), (3, .int z), (4, .int v)] := hl
  obtain ⟨x_o, x_wev, x_wnb, x_wki, x_wmy, x_wce, x_wiw, x_wli, x_wha, x_wwt, x_wfy, x_wfk, x_wem, x_wna, x_wpl, x_whs, x_wk1, x_wk2, x_wk3, hn60, hl12, hf6, hc60, hs40, hMP, hgy, hfz, hgs, hME, hlk, hgw, hfd, n_wki_wmy, n_wki_wiw, n_wki_wli, n_wki_wha, n_wki_wem, n_wki_wna, n_wki_wpl, n_wmy_wiw, n_wmy_wli, n_wmy_wha, n_wmy_wem, n_wmy_wna, n_wmy_wpl, n_wiw_wli, n_wiw_wha, n_wiw_wem, n_wiw_wna, n_wiw_wpl, n_wli_wha, n_wli_wem, n_wli_wna, n_wli_wpl, n_wha_wem, n_wha_wna, n_wha_wpl, n_wem_wna, n_wem_wpl, n_wna_wpl, n_wk1_wk2, n_wk1_wk3, n_wk2_wk3⟩ := id hI
  refine lv_iconst (v := 0) hx hb dX8_family_0 (by decide) ?_
  refine lv_istore (lv' := [(5, .int 0), (0, .ref o), (1, .int x), (2, .int y), (3, .int z), (4, .int v)]) hx hb dX8_family_1 hl (by decide) rfl (fun ls hl => ?_)
  refine lv_iconst (v := 0) hx hb dX8_family_3 (by decide) ?_
  refine lv_istore (lv' := [(6, .int 0), (5, .int 0), (0, .ref o), (1, .int x), (2, .int y), (3, .int z), (4, .int v)]) hx hb dX8_family_4 hl (by decide) rfl (fun ls hl => ?_)
  have lp1 : ∀ (n : Nat) (kx : Nat) (bits : Int32) (fL2 : zM) (H : Heap) (locs : List Loc) (ls : Array Slot), (4 - kx) < n → (kx ≤ 4) → (zks (g4 x y z v) kx = some bits) → (∀ (b : Nat) (e : va_E), f b = some e → fL2 b = some e) → zH D (zA f s.heap.size) fL2 H → va_S (zA f s.heap.size) s.heap H locs → lv_has ls 9 [(0, .ref o), (1, .int x), (2, .int y), (3, .int z), (4, .int v), (5, .int bits), (6, .int (nI kx))] → W p l e rmX8_family s m ([.ref o, .int x, .int y, .int z, .int v] : List Value).toArray below meth c H locs 0 0 (MQ below (va_Qi (fun (r : Int32) (f1 : zM) => ∃ (u11 : Int32) (u21 : Int32) (u31 : Int32) (nl1 : Nat) (nn1 : Nat) (nf1 : Nat) (nc1 : Nat) (lk1 : Int64) (ks1 : Nat) (gv1 : Nat → Int32) (gu1 : Nat → Int32) (gk1 : Nat → Int32) (gm1 : Nat → Int32) (gc1 : Nat → Int64) (gw1 : Nat → Int32) (gl1 : Nat → Int32) (gh1 : Nat → Int32) (gt1 : Nat → Int64) (gy1 : Nat → Int32) (gq1 : Nat → Int32) (ge11 : Nat → Int32) (gn11 : Nat → Int32) (gp11 : Nat → Int32) (gs1 : Nat → Int32) (gx11 : Nat → Int32) (gx21 : Nat → Int32) (gx31 : Nat → Int32) (ln1 : Nat → Nat) (fz1 : Nat → Nat) (sq1 : Nat → Nat), r = (q_family nf (zks (g4 x y z v) 4).isSome) ∧ (u11 = u1) ∧ (u21 = u2) ∧ (u31 = u3) ∧ (gv1 = gv) ∧ (nl1 = nl) ∧ (gu1 = gu) ∧ (nn1 = nn) ∧ (gk1 = gk) ∧ (ln1 = ln) ∧ (gw1 = gw) ∧ (gh1 = gh) ∧ (gc1 = gc) ∧ (nf1 = if 0 ≤ r then nf + 1 else nf) ∧ (fz1 = if 0 ≤ r then va_up fz nf (zfn (g4 x y z v) 4) else fz) ∧ (zGQ nf (0 ≤ r) (zfn (g4 x y z v) 4) (zfg (g4 x y z v) 4) gq gq1) ∧ (nc1 = nc) ∧ (ge11 = ge1) ∧ (gn11 = gn1) ∧ (gp11 = gp1) ∧ (sq1 = sq) ∧ (ks1 = ks) ∧ (gx11 = gx1) ∧ (gx21 = gx2) ∧ (gx31 = gx3) ∧ (lk1 = lk) ∧ zIM cy f1 o wev wnb wki wmy wce wiw wli wha wwt wfy wfk wem wna wpl whs wk1 wk2 wk3 u11 u21 u31 nl1 nn1 nf1 nc1 lk1 ks1 gv1 gu1 gk1 gm1 gc1 gw1 gl1 gh1 gt1 gy1 gq1 ge11 gn11 gp11 gs1 gx11 gx21 gx31 ln1 fz1 sq1) (zB D f s.heap.size) (zA f s.heap.size)) ([.ref o, .int x, .int y, .int z, .int v] : List Value).toArray s rmX8_family.cells rmX8_family.slots (zA f s.heap.size)) (F0 m 6 ls []) := by
    intro n
    induction n with
    | zero => intro kx bits fL2 H locs ls hmz; exact absurd hmz (Nat.not_lt_zero _)
    | succ n ih =>
      intro kx bits fL2 H locs ls hmz hk hs  k3 hz hS hl
      refine lv_iload hx hb dX8_family_6 (lv_at hl 6 rfl) ?_
      refine lv_iconst (v := 4) hx hb dX8_family_8 (by decide) ?_
      refine lv_icmp_ge (tgt := 82) hx hb dX8_family_9 (by decide) (fun c4 => ?_) (fun c4 => ?_)
      · replace c4 : (4 ≤ kx) := (nI_leI (a := 4) (b := kx) (by omega) (by omega)).mp c4
        obtain rfl : kx = 4 := by omega
        have hk4 : (zks (g4 x y z v) 4).isSome = true := by rw [hs]; rfl
        refine lv_aload_n hx hb dX8_family_82 rfl (lv_at hl 0 rfl) ?_
        have a5 : fL2 o = some (.inr (8, [.int u1, .int u2, .int u3, .ref wev, .int (nI nl), .ref wnb, .int (nI nn), .ref wki, .ref wmy, .ref wce, .ref wiw, .ref wli, .ref wha, .ref wwt, .int (nI nf), .ref wfy, .ref wfk, .int (nI nc), .ref wem, .ref wna, .ref wpl, .ref whs, .long lk, .int (nI ks), .ref wk1, .ref wk2, .ref wk3])) := k3 _ _ x_o 
        refine z_get (v := .int (nI nf)) C hz a5 zl8 mFX8_187 (by decide) rfl dX8_family_83 ?_
        refine lv_bipush (v := 6) hx hb dX8_family_86 (by decide) ?_
        refine lv_icmp_ne (tgt := 94) hx hb dX8_family_88 (by decide) (fun c6 => ?_) (fun c6 => ?_)
        · replace c6 : ¬ (nf = 6) := fun h => c6 ((nI_eq (a := nf) (b := 6) (by omega) (by omega)).mpr h)
          refine lv_iconst (v := 0) hx hb dX8_family_94 (by decide) ?_
          refine lv_istore (lv' := [(6, .int 0), (0, .ref o), (1, .int x), (2, .int y), (3, .int z), (4, .int v), (5, .int bits)]) hx hb dX8_family_95 hl (by decide) rfl (fun ls hl => ?_)
          refine lv_iconst (v := 0) hx hb dX8_family_97 (by decide) ?_
          refine lv_istore (lv' := [(7, .int 0), (6, .int 0), (0, .ref o), (1, .int x), (2, .int y), (3, .int z), (4, .int v), (5, .int bits)]) hx hb dX8_family_98 hl (by decide) rfl (fun ls hl => ?_)
          have lp7 : ∀ (n : Nat) (kx : Nat) (nz : Nat) (gqv : Nat → Int32) (fL8 : zM) (H : Heap) (locs : List Loc) (ls : Array Slot), (4 - kx) < n → (nz = zfn (g4 x y z v) kx) → (kx ≤ 4) → (∀ i, i < nf → ∀ j, j < 4 → gqv (4 * i + j) = gq (4 * i + j)) → (∀ j, j < zfn (g4 x y z v) kx → gqv (4 * nf + j) = zfg (g4 x y z v) kx j) → fL8 wfk = some (.inl (cy 0, 24, .inl gqv)) → (∀ (b : Nat) (e : va_E), fL2 b = some e → b ≠ wfk → fL8 b = some e) → zH D (zA f s.heap.size) fL8 H → va_S (zA f s.heap.size) s.heap H locs → lv_has ls 9 [(0, .ref o), (1, .int x), (2, .int y), (3, .int z), (4, .int v), (6, .int (nI nz)), (7, .int (nI kx))] → W p l e rmX8_family s m ([.ref o, .int x, .int y, .int z, .int v] : List Value).toArray below meth c H locs 0 0 (MQ below (va_Qi (fun (r : Int32) (f1 : zM) => ∃ (u11 : Int32) (u21 : Int32) (u31 : Int32) (nl1 : Nat) (nn1 : Nat) (nf1 : Nat) (nc1 : Nat) (lk1 : Int64) (ks1 : Nat) (gv1 : Nat → Int32) (gu1 : Nat → Int32) (gk1 : Nat → Int32) (gm1 : Nat → Int32) (gc1 : Nat → Int64) (gw1 : Nat → Int32) (gl1 : Nat → Int32) (gh1 : Nat → Int32) (gt1 : Nat → Int64) (gy1 : Nat → Int32) (gq1 : Nat → Int32) (ge11 : Nat → Int32) (gn11 : Nat → Int32) (gp11 : Nat → Int32) (gs1 : Nat → Int32) (gx11 : Nat → Int32) (gx21 : Nat → Int32) (gx31 : Nat → Int32) (ln1 : Nat → Nat) (fz1 : Nat → Nat) (sq1 : Nat → Nat), r = (q_family nf (zks (g4 x y z v) 4).isSome) ∧ (u11 = u1) ∧ (u21 = u2) ∧ (u31 = u3) ∧ (gv1 = gv) ∧ (nl1 = nl) ∧ (gu1 = gu) ∧ (nn1 = nn) ∧ (gk1 = gk) ∧ (ln1 = ln) ∧ (gw1 = gw) ∧ (gh1 = gh) ∧ (gc1 = gc) ∧ (nf1 = if 0 ≤ r then nf + 1 else nf) ∧ (fz1 = if 0 ≤ r then va_up fz nf (zfn (g4 x y z v) 4) else fz) ∧ (zGQ nf (0 ≤ r) (zfn (g4 x y z v) 4) (zfg (g4 x y z v) 4) gq gq1) ∧ (nc1 = nc) ∧ (ge11 = ge1) ∧ (gn11 = gn1) ∧ (gp11 = gp1) ∧ (sq1 = sq) ∧ (ks1 = ks) ∧ (gx11 = gx1) ∧ (gx21 = gx2) ∧ (gx31 = gx3) ∧ (lk1 = lk) ∧ zIM cy f1 o wev wnb wki wmy wce wiw wli wha wwt wfy wfk wem wna wpl whs wk1 wk2 wk3 u11 u21 u31 nl1 nn1 nf1 nc1 lk1 ks1 gv1 gu1 gk1 gm1 gc1 gw1 gl1 gh1 gt1 gy1 gq1 ge11 gn11 gp11 gs1 gx11 gx21 gx31 ln1 fz1 sq1) (zB D f s.heap.size) (zA f s.heap.size)) ([.ref o, .int x, .int y, .int z, .int v] : List Value).toArray s rmX8_family.cells rmX8_family.slots (zA f s.heap.size)) (F0 m 100 ls []) := by
            intro n
            induction n with
            | zero => intro kx nz gqv fL8 H locs ls hmz; exact absurd hmz (Nat.not_lt_zero _)
            | succ n ih =>
              intro kx nz gqv fL8 H locs ls hmz hnz hk hq1 hq2 a10 k9 hz hS hl
              refine lv_iload hx hb dX8_family_100 (lv_at hl 6 rfl) ?_
              refine lv_iconst (v := 4) hx hb dX8_family_102 (by decide) ?_
              refine lv_icmp_ge (tgt := 152) hx hb dX8_family_103 (by decide) (fun c11 => ?_) (fun c11 => ?_)
              · replace c11 : (4 ≤ kx) := (nI_leI (a := 4) (b := kx) (by omega) (by omega)).mp c11
                obtain rfl : kx = 4 := by omega
                refine lv_aload_n hx hb dX8_family_152 rfl (lv_at hl 0 rfl) ?_
                have a12 : fL2 wfk = some (.inl (cy 0, 24, .inl gq)) := k3 _ _ x_wfk 
                have a13 : fL8 o = some (.inr (8, [.int u1, .int u2, .int u3, .ref wev, .int (nI nl), .ref wnb, .int (nI nn), .ref wki, .ref wmy, .ref wce, .ref wiw, .ref wli, .ref wha, .ref wwt, .int (nI nf), .ref wfy, .ref wfk, .int (nI nc), .ref wem, .ref wna, .ref wpl, .ref whs, .long lk, .int (nI ks), .ref wk1, .ref wk2, .ref wk3])) := k9 _ _ a5 (z_ne a5 a12 rfl)
                refine z_get (v := .ref wfy) C hz a13 zl8 mFX8_43 (by decide) rfl dX8_family_153 ?_
                refine lv_aload_n hx hb dX8_family_156 rfl (lv_at hl 0 rfl) ?_
                refine z_get (v := .int (nI nf)) C hz a13 zl8 mFX8_187 (by decide) rfl dX8_family_157 ?_
                refine lv_iload hx hb dX8_family_160 (lv_at hl 5 rfl) ?_
                have hz9 : nz = zfn (g4 x y z v) 4 := hnz
                have hz4 := zfn_le (g4 x y z v) 4
                have hq4 : ∀ j, j < nz → gqv (4 * nf + j) = zfg (g4 x y z v) 4 j := fun j h => hq2 j (by rw [← hz9]; exact h)
                have a14 : fL2 wfy = some (.inl (cy 0, 6, .inl gy)) := k3 _ _ x_wfy 
                have a15 : fL8 wfy = some (.inl (cy 0, 6, .inl gy)) := k9 _ _ a14 (z_ne a14 a12 rfl)
                refine z_iast nf C hz hS a15 rfl (by omega) (by omega) dX8_family_162 (fun H locs f16 a17 k18 hz hS => ?_)
                refine lv_aload_n hx hb dX8_family_163 rfl (lv_at hl 0 rfl) ?_
                refine lv_dup hx hb dX8_family_164 rfl ?_
                have a19 : f16 o = some (.inr (8, [.int u1, .int u2, .int u3, .ref wev, .int (nI nl), .ref wnb, .int (nI nn), .ref wki, .ref wmy, .ref wce, .ref wiw, .ref wli, .ref wha, .ref wwt, .int (nI nf), .ref wfy, .ref wfk, .int (nI nc), .ref wem, .ref wna, .ref wpl, .ref whs, .long lk, .int (nI ks), .ref wk1, .ref wk2, .ref wk3])) := (k18 _ (z_ne a13 a15 rfl)).trans a13
                refine z_get (v := .int (nI nf)) C hz a19 zl8 mFX8_187 (by decide) rfl dX8_family_165 ?_
                refine lv_iconst (v := 1) hx hb dX8_family_168 (by decide) ?_
                refine lv_iadd hx hb dX8_family_169 ?_
                refine lv_topi (fun y20 e21 => ?_)
                obtain rfl : y20 = nI (nf + 1) := e21.trans (nI_1 nf)
                refine z_put (fs' := [.int u1, .int u2, .int u3, .ref wev, .int (nI nl), .ref wnb, .int (nI nn), .ref wki, .ref wmy, .ref wce, .ref wiw, .ref wli, .ref wha, .ref wwt, .int (nI (nf + 1)), .ref wfy, .ref wfk, .int (nI nc), .ref wem, .ref wna, .ref wpl, .ref whs, .long lk, .int (nI ks), .ref wk1, .ref wk2, .ref wk3]) C hz hS a19 zl8 mFX8_187 (by decide) rfl rfl rfl (Nat.le_of_ble_eq_true rfl) rfl dX8_family_170 (fun H locs f22 a23 k24 hz hS => ?_)
                refine lv_aload_n hx hb dX8_family_173 rfl (lv_at hl 0 rfl) ?_
                refine z_get (v := .int (nI (nf + 1))) C hz a23 zl8 mFX8_187 (by decide) rfl dX8_family_174 ?_
                refine lv_iconst (v := 1) hx hb dX8_family_177 (by decide) ?_
                refine lv_isub hx hb dX8_family_178 ?_
                refine lv_topi (fun y25 e26 => ?_)
                obtain rfl : y25 = nI nf := e26.trans (pk_sub (a := nf + 1) (b := 1) (by omega))
                have a27 : fL2 wev = some (.inl (cy 0, 8, .inl gv)) := k3 _ _ x_wev 
                have a28 : fL8 wev = some (.inl (cy 0, 8, .inl gv)) := k9 _ _ a27 (z_ne a27 a12 rfl)
                have a29 : f16 wev = some (.inl (cy 0, 8, .inl gv)) := (k18 _ (z_ne a28 a15 rfl)).trans a28
                have a30 : f22 wev = some (.inl (cy 0, 8, .inl gv)) := (k24 _ (z_ne a29 a19 rfl)).trans a29
                have a31 : fL2 wnb = some (.inl (cy 0, 12, .inl gu)) := k3 _ _ x_wnb 
                have a32 : fL8 wnb = some (.inl (cy 0, 12, .inl gu)) := k9 _ _ a31 (z_ne a31 a12 rfl)
                have a33 : f16 wnb = some (.inl (cy 0, 12, .inl gu)) := (k18 _ (z_ne a32 a15 rfl)).trans a32
                have a34 : f22 wnb = some (.inl (cy 0, 12, .inl gu)) := (k24 _ (z_ne a33 a19 rfl)).trans a33
                have a35 : fL2 wki = some (.inl (cy 0, 60, .inl gk)) := k3 _ _ x_wki 
                have a36 : fL8 wki = some (.inl (cy 0, 60, .inl gk)) := k9 _ _ a35 (z_ne a35 a12 rfl)
                have a37 : f16 wki = some (.inl (cy 0, 60, .inl gk)) := (k18 _ (z_ne a36 a15 rfl)).trans a36
                have a38 : f22 wki = some (.inl (cy 0, 60, .inl gk)) := (k24 _ (z_ne a37 a19 rfl)).trans a37
                have a39 : fL2 wmy = some (.inl (cy 0, 60, .inl gm)) := k3 _ _ x_wmy 
                have a40 : fL8 wmy = some (.inl (cy 0, 60, .inl gm)) := k9 _ _ a39 (z_ne a39 a12 rfl)
                have a41 : f16 wmy = some (.inl (cy 0, 60, .inl gm)) := (k18 _ (z_ne a40 a15 rfl)).trans a40
                have a42 : f22 wmy = some (.inl (cy 0, 60, .inl gm)) := (k24 _ (z_ne a41 a19 rfl)).trans a41
                have a43 : fL2 wce = some (.inl (cy 1, 960, .inr (.inl gc))) := k3 _ _ x_wce 
                have a44 : fL8 wce = some (.inl (cy 1, 960, .inr (.inl gc))) := k9 _ _ a43 (z_ne a43 a12 rfl)
                have a45 : f16 wce = some (.inl (cy 1, 960, .inr (.inl gc))) := (k18 _ (z_ne a44 a15 rfl)).trans a44
                have a46 : f22 wce = some (.inl (cy 1, 960, .inr (.inl gc))) := (k24 _ (z_ne a45 a19 rfl)).trans a45
                have a47 : fL2 wiw = some (.inl (cy 2, 60, .inl gw)) := k3 _ _ x_wiw 
                have a48 : fL8 wiw = some (.inl (cy 2, 60, .inl gw)) := k9 _ _ a47 (z_ne a47 a12 rfl)
                have a49 : f16 wiw = some (.inl (cy 2, 60, .inl gw)) := (k18 _ (z_ne a48 a15 rfl)).trans a48
                have a50 : f22 wiw = some (.inl (cy 2, 60, .inl gw)) := (k24 _ (z_ne a49 a19 rfl)).trans a49
                have a51 : fL2 wli = some (.inl (cy 0, 60, .inl gl)) := k3 _ _ x_wli 
                have a52 : fL8 wli = some (.inl (cy 0, 60, .inl gl)) := k9 _ _ a51 (z_ne a51 a12 rfl)
                have a53 : f16 wli = some (.inl (cy 0, 60, .inl gl)) := (k18 _ (z_ne a52 a15 rfl)).trans a52
                have a54 : f22 wli = some (.inl (cy 0, 60, .inl gl)) := (k24 _ (z_ne a53 a19 rfl)).trans a53
                have a55 : fL2 wha = some (.inl (cy 0, 60, .inl gh)) := k3 _ _ x_wha 
                have a56 : fL8 wha = some (.inl (cy 0, 60, .inl gh)) := k9 _ _ a55 (z_ne a55 a12 rfl)
                have a57 : f16 wha = some (.inl (cy 0, 60, .inl gh)) := (k18 _ (z_ne a56 a15 rfl)).trans a56
                have a58 : f22 wha = some (.inl (cy 0, 60, .inl gh)) := (k24 _ (z_ne a57 a19 rfl)).trans a57
                have a59 : fL2 wwt = some (.inl (cy 1, 60, .inr (.inl gt))) := k3 _ _ x_wwt 
                have a60 : fL8 wwt = some (.inl (cy 1, 60, .inr (.inl gt))) := k9 _ _ a59 (z_ne a59 a12 rfl)
                have a61 : f16 wwt = some (.inl (cy 1, 60, .inr (.inl gt))) := (k18 _ (z_ne a60 a15 rfl)).trans a60
                have a62 : f22 wwt = some (.inl (cy 1, 60, .inr (.inl gt))) := (k24 _ (z_ne a61 a19 rfl)).trans a61
                have a63 : f22 wfy = some (.inl (cy 0, 6, .inl (upd gy nf (nI nz)))) := (k24 _ (z_ne a17 a19 rfl)).trans a17
                have a64 : f16 wfk = some (.inl (cy 0, 24, .inl gqv)) := (k18 _ (z_ne a10 a15 rfl)).trans a10
                have a65 : f22 wfk = some (.inl (cy 0, 24, .inl gqv)) := (k24 _ (z_ne a64 a19 rfl)).trans a64
                have a66 : fL2 wem = some (.inl (cy 0, 60, .inl ge1)) := k3 _ _ x_wem 
                have a67 : fL8 wem = some (.inl (cy 0, 60, .inl ge1)) := k9 _ _ a66 (z_ne a66 a12 rfl)
                have a68 : f16 wem = some (.inl (cy 0, 60, .inl ge1)) := (k18 _ (z_ne a67 a15 rfl)).trans a67
                have a69 : f22 wem = some (.inl (cy 0, 60, .inl ge1)) := (k24 _ (z_ne a68 a19 rfl)).trans a68
                have a70 : fL2 wna = some (.inl (cy 0, 60, .inl gn1)) := k3 _ _ x_wna 
                have a71 : fL8 wna = some (.inl (cy 0, 60, .inl gn1)) := k9 _ _ a70 (z_ne a70 a12 rfl)
                have a72 : f16 wna = some (.inl (cy 0, 60, .inl gn1)) := (k18 _ (z_ne a71 a15 rfl)).trans a71
                have a73 : f22 wna = some (.inl (cy 0, 60, .inl gn1)) := (k24 _ (z_ne a72 a19 rfl)).trans a72
                have a74 : fL2 wpl = some (.inl (cy 0, 60, .inl gp1)) := k3 _ _ x_wpl 
                have a75 : fL8 wpl = some (.inl (cy 0, 60, .inl gp1)) := k9 _ _ a74 (z_ne a74 a12 rfl)
                have a76 : f16 wpl = some (.inl (cy 0, 60, .inl gp1)) := (k18 _ (z_ne a75 a15 rfl)).trans a75
                have a77 : f22 wpl = some (.inl (cy 0, 60, .inl gp1)) := (k24 _ (z_ne a76 a19 rfl)).trans a76
                have a78 : fL2 whs = some (.inl (cy 0, 4, .inl gs)) := k3 _ _ x_whs 
                have a79 : fL8 whs = some (.inl (cy 0, 4, .inl gs)) := k9 _ _ a78 (z_ne a78 a12 rfl)
                have a80 : f16 whs = some (.inl (cy 0, 4, .inl gs)) := (k18 _ (z_ne a79 a15 rfl)).trans a79
                have a81 : f22 whs = some (.inl (cy 0, 4, .inl gs)) := (k24 _ (z_ne a80 a19 rfl)).trans a80
                have a82 : fL2 wk1 = some (.inl (cy 0, 40, .inl gx1)) := k3 _ _ x_wk1 
                have a83 : fL8 wk1 = some (.inl (cy 0, 40, .inl gx1)) := k9 _ _ a82 (z_ne a82 a12 rfl)
                have a84 : f16 wk1 = some (.inl (cy 0, 40, .inl gx1)) := (k18 _ (z_ne a83 a15 rfl)).trans a83
                have a85 : f22 wk1 = some (.inl (cy 0, 40, .inl gx1)) := (k24 _ (z_ne a84 a19 rfl)).trans a84
                have a86 : fL2 wk2 = some (.inl (cy 0, 40, .inl gx2)) := k3 _ _ x_wk2 
                have a87 : fL8 wk2 = some (.inl (cy 0, 40, .inl gx2)) := k9 _ _ a86 (z_ne a86 a12 rfl)
                have a88 : f16 wk2 = some (.inl (cy 0, 40, .inl gx2)) := (k18 _ (z_ne a87 a15 rfl)).trans a87
                have a89 : f22 wk2 = some (.inl (cy 0, 40, .inl gx2)) := (k24 _ (z_ne a88 a19 rfl)).trans a88
                have a90 : fL2 wk3 = some (.inl (cy 0, 40, .inl gx3)) := k3 _ _ x_wk3 
                have a91 : fL8 wk3 = some (.inl (cy 0, 40, .inl gx3)) := k9 _ _ a90 (z_ne a90 a12 rfl)
                have a92 : f16 wk3 = some (.inl (cy 0, 40, .inl gx3)) := (k18 _ (z_ne a91 a15 rfl)).trans a91
                have a93 : f22 wk3 = some (.inl (cy 0, 40, .inl gx3)) := (k24 _ (z_ne a92 a19 rfl)).trans a92
                exact z_iret C hr rfl hz hS ⟨u1, u2, u3, nl, nn, (nf + 1), nc, lk, ks, gv, gu, gk, gm, gc, gw, gl, gh, gt, (upd gy nf (nI nz)), gqv, ge1, gn1, gp1, gs, gx1, gx2, gx3, ln, (va_up fz nf nz), sq, (by rw [q_family, if_pos hk4, if_pos (by omega)]), rfl, rfl, rfl, rfl, rfl, rfl, rfl, rfl, rfl, rfl, rfl, rfl, (by rw [if_pos (nI_pos' (by omega))]), (by rw [if_pos (nI_pos' (by omega)), ← hz9]), ⟨hq1, fun _ j9 h9 => hq4 j9 (by rw [hz9]; exact h9)⟩, rfl, rfl, rfl, rfl, rfl, rfl, rfl, rfl, rfl, rfl, ⟨a23, a30, a34, a38, a42, a46, a50, a54, a58, a62, a63, a65, a69, a73, a77, a81, a85, a89, a93, hn60, hl12, (by omega), hc60, hs40, hMP, (z_gy1 hgy), (z_up1 (P := fun _ a9 => a9 ≤ 4) hfz (by omega)), hgs, hME, hlk, hgw, (zFD_new hfd hfz hq1 hq4 (fun a9 h9 => (zks_dis _ 4 _ hs).2.2 a9 (by rw [← hz9]; exact h9))), n_wki_wmy, n_wki_wiw, n_wki_wli, n_wki_wha, n_wki_wem, n_wki_wna, n_wki_wpl, n_wmy_wiw, n_wmy_wli, n_wmy_wha, n_wmy_wem, n_wmy_wna, n_wmy_wpl, n_wiw_wli, n_wiw_wha, n_wiw_wem, n_wiw_wna, n_wiw_wpl, n_wli_wha, n_wli_wem, n_wli_wna, n_wli_wpl, n_wha_wem, n_wha_wna, n_wha_wpl, n_wem_wna, n_wem_wpl, n_wna_wpl, n_wk1_wk2, n_wk1_wk3, n_wk2_wk3⟩⟩ (Nat.le_of_ble_eq_true rfl) (Nat.le_of_ble_eq_true rfl) dX8_family_179
              · replace c11 : ¬ (4 ≤ kx) := fun h => c11 ((nI_leI (a := 4) (b := kx) (by omega) (by omega)).mpr h)
                refine lv_iload hx hb dX8_family_106 (lv_at hl 6 rfl) ?_
                refine lv_iload_n hx hb dX8_family_108 rfl (lv_at hl 1 rfl) ?_
                refine lv_iload_n hx hb dX8_family_109 rfl (lv_at hl 2 rfl) ?_
                refine lv_iload_n hx hb dX8_family_110 rfl (lv_at hl 3 rfl) ?_
                refine lv_iload hx hb dX8_family_111 (lv_at hl 4 rfl) ?_
                refine z_callSi (As := [.int (nI kx), .int x, .int y, .int z, .int v]) C hz hS hA hl (k_X8_told4 l D cy fL8 (nI kx) x y z v  ) zyX8_told4 mMX8_183 rfl rfl (Nat.le_of_ble_eq_true rfl) ⟨Nat.le_of_ble_eq_true rfl, Nat.le_of_ble_eq_true rfl⟩ ⟨Nat.le_of_ble_eq_true rfl, Nat.le_of_ble_eq_true rfl⟩ dX8_family_113 (fun r f94 H locs h95 hz hS => ?_)
                obtain ⟨rfl, k96⟩ := h95
                refine lv_topi (fun y97 e98 => ?_)
                obtain rfl : y97 = g4 x y z v kx := e98.trans (z_t4 (by omega))
                refine lv_istore (lv' := [(8, .int (g4 x y z v kx)), (0, .ref o), (1, .int x), (2, .int y), (3, .int z), (4, .int v), (6, .int (nI nz)), (7, .int (nI kx))]) hx hb dX8_family_116 hl (by decide) rfl (fun ls hl => ?_)
                refine lv_iload hx hb dX8_family_118 (lv_at hl 0 rfl) ?_
                refine lv_iconst (v := (-1)) hx hb dX8_family_120 (by decide) ?_
                refine lv_icmp_ne (tgt := 127) hx hb dX8_family_121 (by decide) (fun c99 => ?_) (fun c99 => ?_)
                · refine lv_aload_n hx hb dX8_family_127 rfl (lv_at hl 1 rfl) ?_
                  have a100 : fL2 wfk = some (.inl (cy 0, 24, .inl gq)) := k3 _ _ x_wfk 
                  have a101 : fL8 o = some (.inr (8, [.int u1, .int u2, .int u3, .ref wev, .int (nI nl), .ref wnb, .int (nI nn), .ref wki, .ref wmy, .ref wce, .ref wiw, .ref wli, .ref wha, .ref wwt, .int (nI nf), .ref wfy, .ref wfk, .int (nI nc), .ref wem, .ref wna, .ref wpl, .ref whs, .long lk, .int (nI ks), .ref wk1, .ref wk2, .ref wk3])) := k9 _ _ a5 (z_ne a5 a100 rfl)
                  have a102 : f94 o = some (.inr (8, [.int u1, .int u2, .int u3, .ref wev, .int (nI nl), .ref wnb, .int (nI nn), .ref wki, .ref wmy, .ref wce, .ref wiw, .ref wli, .ref wha, .ref wwt, .int (nI nf), .ref wfy, .ref wfk, .int (nI nc), .ref wem, .ref wna, .ref wpl, .ref whs, .long lk, .int (nI ks), .ref wk1, .ref wk2, .ref wk3])) := k96 _ _ a101 
                  refine z_get (v := .ref wfk) C hz a102 zl8 mFX8_46 (by decide) rfl dX8_family_128 ?_
                  refine lv_iconst (v := 4) hx hb dX8_family_131 (by decide) ?_
                  refine lv_aload_n hx hb dX8_family_132 rfl (lv_at hl 1 rfl) ?_
                  refine z_get (v := .int (nI nf)) C hz a102 zl8 mFX8_187 (by decide) rfl dX8_family_133 ?_
                  refine lv_imul hx hb dX8_family_136 ?_
                  refine lv_iload hx hb dX8_family_137 (lv_at hl 6 rfl) ?_
                  refine lv_iadd hx hb dX8_family_139 ?_
                  refine lv_iload hx hb dX8_family_140 (lv_at hl 0 rfl) ?_
                  have a103 : f94 wfk = some (.inl (cy 0, 24, .inl gqv)) := k96 _ _ a10 
                  refine z_iast (4 * nf + nz) C hz hS a103 (z_c4 nf nz) (by have h9 := zfn_le (g4 x y z v) kx; omega) (by omega) dX8_family_142 (fun H locs f104 a105 k106 hz hS => ?_)
                  refine lv_iinc (v := nI (nz + 1)) (lv' := [(6, .int (nI (nz + 1))), (8, .int (g4 x y z v kx)), (0, .ref o), (1, .int x), (2, .int y), (3, .int z), (4, .int v), (7, .int (nI kx))]) hx hb dX8_family_143 hl (k := 6) rfl (nI_1 nz) (by decide) rfl (fun ls hl => ?_)
                  refine lv_iinc (v := nI (kx + 1)) (lv' := [(7, .int (nI (kx + 1))), (6, .int (nI (nz + 1))), (8, .int (g4 x y z v kx)), (0, .ref o), (1, .int x), (2, .int y), (3, .int z), (4, .int v)]) hx hb dX8_family_146 hl (k := 7) rfl (nI_1 kx) (by decide) rfl (fun ls hl => ?_)
                  refine lv_goto (tgt := 100) hx hb dX8_family_149 (by decide) ?_
                  exact ih (kx + 1) (nz + 1) (upd gqv (4 * nf + nz) (g4 x y z v kx)) _ _ _ _ (by omega) (by rw [zfn, if_neg c99, hnz]) (by omega) (fun i9 h9 j9 h8 => by rw [pk_un (show 4 * i9 + j9 ≠ 4 * nf + nz by have h7 := zfn_le (g4 x y z v) kx; omega)]; exact hq1 i9 h9 j9 h8) (by rw [hnz]; exact zfgM_1 hq2 c99) a105 (by
                        intro b e hb n0
                        have hb1 : fL8 b = some e := k9 b e hb n0
                        have hb2 : f94 b = some e := k96 b e hb1 
                        have hb3 : f104 b = some e := (k106 b n0).trans hb2
                        exact hb3) hz hS (lv_sub hl [3, 4, 5, 6, 7, 1, 0] rfl)
                · refine lv_goto (tgt := 146) hx hb dX8_family_124 (by decide) ?_
                  refine lv_iinc (v := nI (kx + 1)) (lv' := [(7, .int (nI (kx + 1))), (8, .int (g4 x y z v kx)), (0, .ref o), (1, .int x), (2, .int y), (3, .int z), (4, .int v), (6, .int (nI nz))]) hx hb dX8_family_146 hl (k := 7) rfl (nI_1 kx) (by decide) rfl (fun ls hl => ?_)
                  refine lv_goto (tgt := 100) hx hb dX8_family_149 (by decide) ?_
                  have a107 : f94 wfk = some (.inl (cy 0, 24, .inl gqv)) := k96 _ _ a10 
                  exact ih (kx + 1) nz gqv _ _ _ _ (by omega) (by rw [zfn, if_pos c99]; exact hnz) (by omega) hq1 (zfgM_0 hq2 c99) a107 (by
                        intro b e hb n0
                        have hb1 : fL8 b = some e := k9 b e hb n0
                        have hb2 : f94 b = some e := k96 b e hb1 
                        exact hb2) hz hS (lv_sub hl [2, 3, 4, 5, 6, 7, 0] rfl)
          have a108 : fL2 wfk = some (.inl (cy 0, 24, .inl gq)) := k3 _ _ x_wfk 
          exact lp7 (4 - 0 + 1) 0 0 gq _ _ _ _ (Nat.lt_succ_self _) rfl (by omega) (fun _ _ _ _ => rfl) (fun j9 h9 => absurd h9 (Nat.not_lt_zero _)) a108 (fun b e hb n0 => hb) hz hS (lv_sub hl [2, 3, 4, 5, 6, 1, 0] rfl)
        · replace c6 : (nf = 6) := (nI_eq (a := nf) (b := 6) (by omega) (by omega)).mp c6
          refine lv_bipush (v := (-3)) hx hb dX8_family_91 (by decide) ?_
          have a109 : fL2 wev = some (.inl (cy 0, 8, .inl gv)) := k3 _ _ x_wev 
          have a110 : fL2 wnb = some (.inl (cy 0, 12, .inl gu)) := k3 _ _ x_wnb 
          have a111 : fL2 wki = some (.inl (cy 0, 60, .inl gk)) := k3 _ _ x_wki 
          have a112 : fL2 wmy = some (.inl (cy 0, 60, .inl gm)) := k3 _ _ x_wmy 
          have a113 : fL2 wce = some (.inl (cy 1, 960, .inr (.inl gc))) := k3 _ _ x_wce 
          have a114 : fL2 wiw = some (.inl (cy 2, 60, .inl gw)) := k3 _ _ x_wiw 
          have a115 : fL2 wli = some (.inl (cy 0, 60, .inl gl)) := k3 _ _ x_wli 
          have a116 : fL2 wha = some (.inl (cy 0, 60, .inl gh)) := k3 _ _ x_wha 
          have a117 : fL2 wwt = some (.inl (cy 1, 60, .inr (.inl gt))) := k3 _ _ x_wwt 
          have a118 : fL2 wfy = some (.inl (cy 0, 6, .inl gy)) := k3 _ _ x_wfy 
          have a119 : fL2 wfk = some (.inl (cy 0, 24, .inl gq)) := k3 _ _ x_wfk 
          have a120 : fL2 wem = some (.inl (cy 0, 60, .inl ge1)) := k3 _ _ x_wem 
          have a121 : fL2 wna = some (.inl (cy 0, 60, .inl gn1)) := k3 _ _ x_wna 
          have a122 : fL2 wpl = some (.inl (cy 0, 60, .inl gp1)) := k3 _ _ x_wpl 
          have a123 : fL2 whs = some (.inl (cy 0, 4, .inl gs)) := k3 _ _ x_whs 
          have a124 : fL2 wk1 = some (.inl (cy 0, 40, .inl gx1)) := k3 _ _ x_wk1 
          have a125 : fL2 wk2 = some (.inl (cy 0, 40, .inl gx2)) := k3 _ _ x_wk2 
          have a126 : fL2 wk3 = some (.inl (cy 0, 40, .inl gx3)) := k3 _ _ x_wk3 
          exact z_iret C hr rfl hz hS ⟨u1, u2, u3, nl, nn, nf, nc, lk, ks, gv, gu, gk, gm, gc, gw, gl, gh, gt, gy, gq, ge1, gn1, gp1, gs, gx1, gx2, gx3, ln, fz, sq, (by rw [q_family, if_pos hk4, if_neg (by omega)]), rfl, rfl, rfl, rfl, rfl, rfl, rfl, rfl, rfl, rfl, rfl, rfl, (by rw [if_neg (by decide)]), (by rw [if_neg (by decide)]), ⟨fun _ _ _ _ => rfl, fun h9 => absurd h9 (by decide)⟩, rfl, rfl, rfl, rfl, rfl, rfl, rfl, rfl, rfl, rfl, ⟨a5, a109, a110, a111, a112, a113, a114, a115, a116, a117, a118, a119, a120, a121, a122, a123, a124, a125, a126, hn60, hl12, hf6, hc60, hs40, hMP, hgy, hfz, hgs, hME, hlk, hgw, hfd, n_wki_wmy, n_wki_wiw, n_wki_wli, n_wki_wha, n_wki_wem, n_wki_wna, n_wki_wpl, n_wmy_wiw, n_wmy_wli, n_wmy_wha, n_wmy_wem, n_wmy_wna, n_wmy_wpl, n_wiw_wli, n_wiw_wha, n_wiw_wem, n_wiw_wna, n_wiw_wpl, n_wli_wha, n_wli_wem, n_wli_wna, n_wli_wpl, n_wha_wem, n_wha_wna, n_wha_wpl, n_wem_wna, n_wem_wpl, n_wna_wpl, n_wk1_wk2, n_wk1_wk3, n_wk2_wk3⟩⟩ (Nat.le_of_ble_eq_true rfl) (Nat.le_of_ble_eq_true rfl) dX8_family_93
      · replace c4 : ¬ (4 ≤ kx) := fun h => c4 ((nI_leI (a := 4) (b := kx) (by omega) (by omega)).mpr h)
        refine lv_iload hx hb dX8_family_12 (lv_at hl 6 rfl) ?_
        refine lv_iload_n hx hb dX8_family_14 rfl (lv_at hl 1 rfl) ?_
        refine lv_iload_n hx hb dX8_family_15 rfl (lv_at hl 2 rfl) ?_
        refine lv_iload_n hx hb dX8_family_16 rfl (lv_at hl 3 rfl) ?_
        refine lv_iload hx hb dX8_family_17 (lv_at hl 4 rfl) ?_
        refine z_callSi (As := [.int (nI kx), .int x, .int y, .int z, .int v]) C hz hS hA hl (k_X8_told4 l D cy fL2 (nI kx) x y z v  ) zyX8_told4 mMX8_183 rfl rfl (Nat.le_of_ble_eq_true rfl) ⟨Nat.le_of_ble_eq_true rfl, Nat.le_of_ble_eq_true rfl⟩ ⟨Nat.le_of_ble_eq_true rfl, Nat.le_of_ble_eq_true rfl⟩ dX8_family_19 (fun r f127 H locs h128 hz hS => ?_)
        obtain ⟨rfl, k129⟩ := h128
        refine lv_topi (fun y130 e131 => ?_)
        obtain rfl : y130 = g4 x y z v kx := e131.trans (z_t4 (by omega))
        refine lv_istore (lv' := [(7, .int (g4 x y z v kx)), (0, .ref o), (1, .int x), (2, .int y), (3, .int z), (4, .int v), (5, .int bits), (6, .int (nI kx))]) hx hb dX8_family_22 hl (by decide) rfl (fun ls hl => ?_)
        refine lv_iload hx hb dX8_family_24 (lv_at hl 0 rfl) ?_
        refine lv_iconst (v := (-1)) hx hb dX8_family_26 (by decide) ?_
        refine lv_icmp_lt (tgt := 54) hx hb dX8_family_27 (by decide) (fun c132 => ?_) (fun c132 => ?_)
        · refine lv_bipush (v := (-2)) hx hb dX8_family_54 (by decide) ?_
          have a133 : fL2 o = some (.inr (8, [.int u1, .int u2, .int u3, .ref wev, .int (nI nl), .ref wnb, .int (nI nn), .ref wki, .ref wmy, .ref wce, .ref wiw, .ref wli, .ref wha, .ref wwt, .int (nI nf), .ref wfy, .ref wfk, .int (nI nc), .ref wem, .ref wna, .ref wpl, .ref whs, .long lk, .int (nI ks), .ref wk1, .ref wk2, .ref wk3])) := k3 _ _ x_o 
          have a134 : f127 o = some (.inr (8, [.int u1, .int u2, .int u3, .ref wev, .int (nI nl), .ref wnb, .int (nI nn), .ref wki, .ref wmy, .ref wce, .ref wiw, .ref wli, .ref wha, .ref wwt, .int (nI nf), .ref wfy, .ref wfk, .int (nI nc), .ref wem, .ref wna, .ref wpl, .ref whs, .long lk, .int (nI ks), .ref wk1, .ref wk2, .ref wk3])) := k129 _ _ a133 
          have a135 : fL2 wev = some (.inl (cy 0, 8, .inl gv)) := k3 _ _ x_wev 
          have a136 : f127 wev = some (.inl (cy 0, 8, .inl gv)) := k129 _ _ a135 
          have a137 : fL2 wnb = some (.inl (cy 0, 12, .inl gu)) := k3 _ _ x_wnb 
          have a138 : f127 wnb = some (.inl (cy 0, 12, .inl gu)) := k129 _ _ a137 
          have a139 : fL2 wki = some (.inl (cy 0, 60, .inl gk)) := k3 _ _ x_wki 
          have a140 : f127 wki = some (.inl (cy 0, 60, .inl gk)) := k129 _ _ a139 
          have a141 : fL2 wmy = some (.inl (cy 0, 60, .inl gm)) := k3 _ _ x_wmy 
          have a142 : f127 wmy = some (.inl (cy 0, 60, .inl gm)) := k129 _ _ a141 
          have a143 : fL2 wce = some (.inl (cy 1, 960, .inr (.inl gc))) := k3 _ _ x_wce 
          have a144 : f127 wce = some (.inl (cy 1, 960, .inr (.inl gc))) := k129 _ _ a143 
          have a145 : fL2 wiw = some (.inl (cy 2, 60, .inl gw)) := k3 _ _ x_wiw 
          have a146 : f127 wiw = some (.inl (cy 2, 60, .inl gw)) := k129 _ _ a145 
          have a147 : fL2 wli = some (.inl (cy 0, 60, .inl gl)) := k3 _ _ x_wli 
          have a148 : f127 wli = some (.inl (cy 0, 60, .inl gl)) := k129 _ _ a147 
          have a149 : fL2 wha = some (.inl (cy 0, 60, .inl gh)) := k3 _ _ x_wha 
          have a150 : f127 wha = some (.inl (cy 0, 60, .inl gh)) := k129 _ _ a149 
          have a151 : fL2 wwt = some (.inl (cy 1, 60, .inr (.inl gt))) := k3 _ _ x_wwt 
          have a152 : f127 wwt = some (.inl (cy 1, 60, .inr (.inl gt))) := k129 _ _ a151 
          have a153 : fL2 wfy = some (.inl (cy 0, 6, .inl gy)) := k3 _ _ x_wfy 
          have a154 : f127 wfy = some (.inl (cy 0, 6, .inl gy)) := k129 _ _ a153 
          have a155 : fL2 wfk = some (.inl (cy 0, 24, .inl gq)) := k3 _ _ x_wfk 
          have a156 : f127 wfk = some (.inl (cy 0, 24, .inl gq)) := k129 _ _ a155 
          have a157 : fL2 wem = some (.inl (cy 0, 60, .inl ge1)) := k3 _ _ x_wem 
          have a158 : f127 wem = some (.inl (cy 0, 60, .inl ge1)) := k129 _ _ a157 
          have a159 : fL2 wna = some (.inl (cy 0, 60, .inl gn1)) := k3 _ _ x_wna 
          have a160 : f127 wna = some (.inl (cy 0, 60, .inl gn1)) := k129 _ _ a159 
          have a161 : fL2 wpl = some (.inl (cy 0, 60, .inl gp1)) := k3 _ _ x_wpl 
          have a162 : f127 wpl = some (.inl (cy 0, 60, .inl gp1)) := k129 _ _ a161 
          have a163 : fL2 whs = some (.inl (cy 0, 4, .inl gs)) := k3 _ _ x_whs 
          have a164 : f127 whs = some (.inl (cy 0, 4, .inl gs)) := k129 _ _ a163 
          have a165 : fL2 wk1 = some (.inl (cy 0, 40, .inl gx1)) := k3 _ _ x_wk1 
          have a166 : f127 wk1 = some (.inl (cy 0, 40, .inl gx1)) := k129 _ _ a165 
          have a167 : fL2 wk2 = some (.inl (cy 0, 40, .inl gx2)) := k3 _ _ x_wk2 
          have a168 : f127 wk2 = some (.inl (cy 0, 40, .inl gx2)) := k129 _ _ a167 
          have a169 : fL2 wk3 = some (.inl (cy 0, 40, .inl gx3)) := k3 _ _ x_wk3 
          have a170 : f127 wk3 = some (.inl (cy 0, 40, .inl gx3)) := k129 _ _ a169 
          exact z_iret C hr rfl hz hS ⟨u1, u2, u3, nl, nn, nf, nc, lk, ks, gv, gu, gk, gm, gc, gw, gl, gh, gt, gy, gq, ge1, gn1, gp1, gs, gx1, gx2, gx3, ln, fz, sq, (by rw [q_family, if_neg (zks_none4 (i := kx) (by omega) (zksA hs c132))]), rfl, rfl, rfl, rfl, rfl, rfl, rfl, rfl, rfl, rfl, rfl, rfl, (by rw [if_neg (by decide)]), (by rw [if_neg (by decide)]), ⟨fun _ _ _ _ => rfl, fun h9 => absurd h9 (by decide)⟩, rfl, rfl, rfl, rfl, rfl, rfl, rfl, rfl, rfl, rfl, ⟨a134, a136, a138, a140, a142, a144, a146, a148, a150, a152, a154, a156, a158, a160, a162, a164, a166, a168, a170, hn60, hl12, hf6, hc60, hs40, hMP, hgy, hfz, hgs, hME, hlk, hgw, hfd, n_wki_wmy, n_wki_wiw, n_wki_wli, n_wki_wha, n_wki_wem, n_wki_wna, n_wki_wpl, n_wmy_wiw, n_wmy_wli, n_wmy_wha, n_wmy_wem, n_wmy_wna, n_wmy_wpl, n_wiw_wli, n_wiw_wha, n_wiw_wem, n_wiw_wna, n_wiw_wpl, n_wli_wha, n_wli_wem, n_wli_wna, n_wli_wpl, n_wha_wem, n_wha_wna, n_wha_wpl, n_wem_wna, n_wem_wpl, n_wna_wpl, n_wk1_wk2, n_wk1_wk3, n_wk2_wk3⟩⟩ (Nat.le_of_ble_eq_true rfl) (Nat.le_of_ble_eq_true rfl) dX8_family_56
        · refine lv_iload hx hb dX8_family_30 (lv_at hl 0 rfl) ?_
          refine lv_bipush (v := 6) hx hb dX8_family_32 (by decide) ?_
          refine lv_icmp_gt (tgt := 54) hx hb dX8_family_34 (by decide) (fun c171 => ?_) (fun c171 => ?_)
          · refine lv_bipush (v := (-2)) hx hb dX8_family_54 (by decide) ?_
            have a172 : fL2 o = some (.inr (8, [.int u1, .int u2, .int u3, .ref wev, .int (nI nl), .ref wnb, .int (nI nn), .ref wki, .ref wmy, .ref wce, .ref wiw, .ref wli, .ref wha, .ref wwt, .int (nI nf), .ref wfy, .ref wfk, .int (nI nc), .ref wem, .ref wna, .ref wpl, .ref whs, .long lk, .int (nI ks), .ref wk1, .ref wk2, .ref wk3])) := k3 _ _ x_o 
            have a173 : f127 o = some (.inr (8, [.int u1, .int u2, .int u3, .ref wev, .int (nI nl), .ref wnb, .int (nI nn), .ref wki, .ref wmy, .ref wce, .ref wiw, .ref wli, .ref wha, .ref wwt, .int (nI nf), .ref wfy, .ref wfk, .int (nI nc), .ref wem, .ref wna, .ref wpl, .ref whs, .long lk, .int (nI ks), .ref wk1, .ref wk2, .ref wk3])) := k129 _ _ a172 
            have a174 : fL2 wev = some (.inl (cy 0, 8, .inl gv)) := k3 _ _ x_wev 
            have a175 : f127 wev = some (.inl (cy 0, 8, .inl gv)) := k129 _ _ a174 
            have a176 : fL2 wnb = some (.inl (cy 0, 12, .inl gu)) := k3 _ _ x_wnb 
            have a177 : f127 wnb = some (.inl (cy 0, 12, .inl gu)) := k129 _ _ a176 
            have a178 : fL2 wki = some (.inl (cy 0, 60, .inl gk)) := k3 _ _ x_wki 
            have a179 : f127 wki = some (.inl (cy 0, 60, .inl gk)) := k129 _ _ a178 
            have a180 : fL2 wmy = some (.inl (cy 0, 60, .inl gm)) := k3 _ _ x_wmy 
            have a181 : f127 wmy = some (.inl (cy 0, 60, .inl gm)) := k129 _ _ a180 
            have a182 : fL2 wce = some (.inl (cy 1, 960, .inr (.inl gc))) := k3 _ _ x_wce 
            have a183 : f127 wce = some (.inl (cy 1, 960, .inr (.inl gc))) := k129 _ _ a182 
            have a184 : fL2 wiw = some (.inl (cy 2, 60, .inl gw)) := k3 _ _ x_wiw 
            have a185 : f127 wiw = some (.inl (cy 2, 60, .inl gw)) := k129 _ _ a184 
            have a186 : fL2 wli = some (.inl (cy 0, 60, .inl gl)) := k3 _ _ x_wli 
            have a187 : f127 wli = some (.inl (cy 0, 60, .inl gl)) := k129 _ _ a186 
            have a188 : fL2 wha = some (.inl (cy 0, 60, .inl gh)) := k3 _ _ x_wha 
            have a189 : f127 wha = some (.inl (cy 0, 60, .inl gh)) := k129 _ _ a188 
            have a190 : fL2 wwt = some (.inl (cy 1, 60, .inr (.inl gt))) := k3 _ _ x_wwt 
            have a191 : f127 wwt = some (.inl (cy 1, 60, .inr (.inl gt))) := k129 _ _ a190 
            have a192 : fL2 wfy = some (.inl (cy 0, 6, .inl gy)) := k3 _ _ x_wfy 
            have a193 : f127 wfy = some (.inl (cy 0, 6, .inl gy)) := k129 _ _ a192 
            have a194 : fL2 wfk = some (.inl (cy 0, 24, .inl gq)) := k3 _ _ x_wfk 
            have a195 : f127 wfk = some (.inl (cy 0, 24, .inl gq)) := k129 _ _ a194 
            have a196 : fL2 wem = some (.inl (cy 0, 60, .inl ge1)) := k3 _ _ x_wem 
            have a197 : f127 wem = some (.inl (cy 0, 60, .inl ge1)) := k129 _ _ a196 
            have a198 : fL2 wna = some (.inl (cy 0, 60, .inl gn1)) := k3 _ _ x_wna 
            have a199 : f127 wna = some (.inl (cy 0, 60, .inl gn1)) := k129 _ _ a198 
            have a200 : fL2 wpl = some (.inl (cy 0, 60, .inl gp1)) := k3 _ _ x_wpl 
            have a201 : f127 wpl = some (.inl (cy 0, 60, .inl gp1)) := k129 _ _ a200 
            have a202 : fL2 whs = some (.inl (cy 0, 4, .inl gs)) := k3 _ _ x_whs 
            have a203 : f127 whs = some (.inl (cy 0, 4, .inl gs)) := k129 _ _ a202 
            have a204 : fL2 wk1 = some (.inl (cy 0, 40, .inl gx1)) := k3 _ _ x_wk1 
            have a205 : f127 wk1 = some (.inl (cy 0, 40, .inl gx1)) := k129 _ _ a204 
            have a206 : fL2 wk2 = some (.inl (cy 0, 40, .inl gx2)) := k3 _ _ x_wk2 
            have a207 : f127 wk2 = some (.inl (cy 0, 40, .inl gx2)) := k129 _ _ a206 
            have a208 : fL2 wk3 = some (.inl (cy 0, 40, .inl gx3)) := k3 _ _ x_wk3 
            have a209 : f127 wk3 = some (.inl (cy 0, 40, .inl gx3)) := k129 _ _ a208 
            exact z_iret C hr rfl hz hS ⟨u1, u2, u3, nl, nn, nf, nc, lk, ks, gv, gu, gk, gm, gc, gw, gl, gh, gt, gy, gq, ge1, gn1, gp1, gs, gx1, gx2, gx3, ln, fz, sq, (by rw [q_family, if_neg (zks_none4 (i := kx) (by omega) (zksB hs c132 c171))]), rfl, rfl, rfl, rfl, rfl, rfl, rfl, rfl, rfl, rfl, rfl, rfl, (by rw [if_neg (by decide)]), (by rw [if_neg (by decide)]), ⟨fun _ _ _ _ => rfl, fun h9 => absurd h9 (by decide)⟩, rfl, rfl, rfl, rfl, rfl, rfl, rfl, rfl, rfl, rfl, ⟨a173, a175, a177, a179, a181, a183, a185, a187, a189, a191, a193, a195, a197, a199, a201, a203, a205, a207, a209, hn60, hl12, hf6, hc60, hs40, hMP, hgy, hfz, hgs, hME, hlk, hgw, hfd, n_wki_wmy, n_wki_wiw, n_wki_wli, n_wki_wha, n_wki_wem, n_wki_wna, n_wki_wpl, n_wmy_wiw, n_wmy_wli, n_wmy_wha, n_wmy_wem, n_wmy_wna, n_wmy_wpl, n_wiw_wli, n_wiw_wha, n_wiw_wem, n_wiw_wna, n_wiw_wpl, n_wli_wha, n_wli_wem, n_wli_wna, n_wli_wpl, n_wha_wem, n_wha_wna, n_wha_wpl, n_wem_wna, n_wem_wpl, n_wna_wpl, n_wk1_wk2, n_wk1_wk3, n_wk2_wk3⟩⟩ (Nat.le_of_ble_eq_true rfl) (Nat.le_of_ble_eq_true rfl) dX8_family_56
          · refine lv_iload hx hb dX8_family_37 (lv_at hl 0 rfl) ?_
            refine lv_iconst (v := (-1)) hx hb dX8_family_39 (by decide) ?_
            refine lv_icmp_eq (tgt := 57) hx hb dX8_family_40 (by decide) (fun c210 => ?_) (fun c210 => ?_)
            · refine lv_iload hx hb dX8_family_57 (lv_at hl 6 rfl) ?_
              refine lv_iload hx hb dX8_family_59 (lv_at hl 0 rfl) ?_
              refine lv_iconst (v := (-1)) hx hb dX8_family_61 (by decide) ?_
              refine lv_icmp_ne (tgt := 69) hx hb dX8_family_62 (by decide) (fun c211 => ?_) (fun c211 => ?_)
              · exact absurd c210 c211
              refine lv_iconst (v := 0) hx hb dX8_family_65 (by decide) ?_
              refine lv_goto (tgt := 73) hx hb dX8_family_66 (by decide) ?_
              refine lv_ior hx hb dX8_family_73 ?_
              refine lv_istore (lv' := [(5, .int (bits ||| 0)), (7, .int (g4 x y z v kx)), (0, .ref o), (1, .int x), (2, .int y), (3, .int z), (4, .int v), (6, .int (nI kx))]) hx hb dX8_family_74 hl (by decide) rfl (fun ls hl => ?_)
              refine lv_iinc (v := nI (kx + 1)) (lv' := [(6, .int (nI (kx + 1))), (5, .int (bits ||| 0)), (7, .int (g4 x y z v kx)), (0, .ref o), (1, .int x), (2, .int y), (3, .int z), (4, .int v)]) hx hb dX8_family_76 hl (k := 7) rfl (nI_1 kx) (by decide) rfl (fun ls hl => ?_)
              refine lv_goto (tgt := 6) hx hb dX8_family_79 (by decide) ?_
              exact ih (kx + 1) (bits ||| 0) _ _ _ _ (by omega) (by omega) (zksD hs c210)  (by
                    intro b e hb 
                    have hb0 : fL2 b = some e := k3 b e hb 
                    have hb1 : f127 b = some e := k129 b e hb0 
                    exact hb1) hz hS (lv_sub hl [3, 4, 5, 6, 7, 1, 0] rfl)
            · refine lv_iload hx hb dX8_family_43 (lv_at hl 6 rfl) ?_
              refine lv_iload hx hb dX8_family_45 (lv_at hl 0 rfl) ?_
              refine lv_ishr hx hb dX8_family_47 ?_
              refine lv_iconst (v := 1) hx hb dX8_family_48 (by decide) ?_
              refine lv_iand hx hb dX8_family_49 ?_
              refine lv_iconst (v := 1) hx hb dX8_family_50 (by decide) ?_
              refine lv_icmp_ne (tgt := 57) hx hb dX8_family_51 (by decide) (fun c212 => ?_) (fun c212 => ?_)
              · refine lv_iload hx hb dX8_family_57 (lv_at hl 6 rfl) ?_
                refine lv_iload hx hb dX8_family_59 (lv_at hl 0 rfl) ?_
                refine lv_iconst (v := (-1)) hx hb dX8_family_61 (by decide) ?_
                refine lv_icmp_ne (tgt := 69) hx hb dX8_family_62 (by decide) (fun c213 => ?_) (fun c213 => ?_)
                rotate_left
                · exact absurd c213 c210
                refine lv_iconst (v := 1) hx hb dX8_family_69 (by decide) ?_
                refine lv_iload hx hb dX8_family_70 (lv_at hl 0 rfl) ?_
                refine lv_ishl hx hb dX8_family_72 ?_
                refine lv_ior hx hb dX8_family_73 ?_
                refine lv_istore (lv' := [(5, .int (bits ||| (1 <<< ((g4 x y z v kx) &&& 31)))), (7, .int (g4 x y z v kx)), (0, .ref o), (1, .int x), (2, .int y), (3, .int z), (4, .int v), (6, .int (nI kx))]) hx hb dX8_family_74 hl (by decide) rfl (fun ls hl => ?_)
                refine lv_iinc (v := nI (kx + 1)) (lv' := [(6, .int (nI (kx + 1))), (5, .int (bits ||| (1 <<< ((g4 x y z v kx) &&& 31)))), (7, .int (g4 x y z v kx)), (0, .ref o), (1, .int x), (2, .int y), (3, .int z), (4, .int v)]) hx hb dX8_family_76 hl (k := 7) rfl (nI_1 kx) (by decide) rfl (fun ls hl => ?_)
                refine lv_goto (tgt := 6) hx hb dX8_family_79 (by decide) ?_
                exact ih (kx + 1) (bits ||| (1 <<< ((g4 x y z v kx) &&& 31))) _ _ _ _ (by omega) (by omega) (zksE hs c132 c171 c210 c212)  (by
                      intro b e hb 
                      have hb0 : fL2 b = some e := k3 b e hb 
                      have hb1 : f127 b = some e := k129 b e hb0 
                      exact hb1) hz hS (lv_sub hl [3, 4, 5, 6, 7, 1, 0] rfl)
              · refine lv_bipush (v := (-2)) hx hb dX8_family_54 (by decide) ?_
                have a214 : fL2 o = some (.inr (8, [.int u1, .int u2, .int u3, .ref wev, .int (nI nl), .ref wnb, .int (nI nn), .ref wki, .ref wmy, .ref wce, .ref wiw, .ref wli, .ref wha, .ref wwt, .int (nI nf), .ref wfy, .ref wfk, .int (nI nc), .ref wem, .ref wna, .ref wpl, .ref whs, .long lk, .int (nI ks), .ref wk1, .ref wk2, .ref wk3])) := k3 _ _ x_o 
                have a215 : f127 o = some (.inr (8, [.int u1, .int u2, .int u3, .ref wev, .int (nI nl), .ref wnb, .int (nI nn), .ref wki, .ref wmy, .ref wce, .ref wiw, .ref wli, .ref wha, .ref wwt, .int (nI nf), .ref wfy, .ref wfk, .int (nI nc), .ref wem, .ref wna, .ref wpl, .ref whs, .long lk, .int (nI ks), .ref wk1, .ref wk2, .ref wk3])) := k129 _ _ a214 
                have a216 : fL2 wev = some (.inl (cy 0, 8, .inl gv)) := k3 _ _ x_wev 
                have a217 : f127 wev = some (.inl (cy 0, 8, .inl gv)) := k129 _ _ a216 
                have a218 : fL2 wnb = some (.inl (cy 0, 12, .inl gu)) := k3 _ _ x_wnb 
                have a219 : f127 wnb = some (.inl (cy 0, 12, .inl gu)) := k129 _ _ a218 
                have a220 : fL2 wki = some (.inl (cy 0, 60, .inl gk)) := k3 _ _ x_wki 
                have a221 : f127 wki = some (.inl (cy 0, 60, .inl gk)) := k129 _ _ a220 
                have a222 : fL2 wmy = some (.inl (cy 0, 60, .inl gm)) := k3 _ _ x_wmy 
                have a223 : f127 wmy = some (.inl (cy 0, 60, .inl gm)) := k129 _ _ a222 
                have a224 : fL2 wce = some (.inl (cy 1, 960, .inr (.inl gc))) := k3 _ _ x_wce 
                have a225 : f127 wce = some (.inl (cy 1, 960, .inr (.inl gc))) := k129 _ _ a224 
                have a226 : fL2 wiw = some (.inl (cy 2, 60, .inl gw)) := k3 _ _ x_wiw 
                have a227 : f127 wiw = some (.inl (cy 2, 60, .inl gw)) := k129 _ _ a226 
                have a228 : fL2 wli = some (.inl (cy 0, 60, .inl gl)) := k3 _ _ x_wli 
                have a229 : f127 wli = some (.inl (cy 0, 60, .inl gl)) := k129 _ _ a228 
                have a230 : fL2 wha = some (.inl (cy 0, 60, .inl gh)) := k3 _ _ x_wha 
                have a231 : f127 wha = some (.inl (cy 0, 60, .inl gh)) := k129 _ _ a230 
                have a232 : fL2 wwt = some (.inl (cy 1, 60, .inr (.inl gt))) := k3 _ _ x_wwt 
                have a233 : f127 wwt = some (.inl (cy 1, 60, .inr (.inl gt))) := k129 _ _ a232 
                have a234 : fL2 wfy = some (.inl (cy 0, 6, .inl gy)) := k3 _ _ x_wfy 
                have a235 : f127 wfy = some (.inl (cy 0, 6, .inl gy)) := k129 _ _ a234 
                have a236 : fL2 wfk = some (.inl (cy 0, 24, .inl gq)) := k3 _ _ x_wfk 
                have a237 : f127 wfk = some (.inl (cy 0, 24, .inl gq)) := k129 _ _ a236 
                have a238 : fL2 wem = some (.inl (cy 0, 60, .inl ge1)) := k3 _ _ x_wem 
                have a239 : f127 wem = some (.inl (cy 0, 60, .inl ge1)) := k129 _ _ a238 
                have a240 : fL2 wna = some (.inl (cy 0, 60, .inl gn1)) := k3 _ _ x_wna 
                have a241 : f127 wna = some (.inl (cy 0, 60, .inl gn1)) := k129 _ _ a240 
                have a242 : fL2 wpl = some (.inl (cy 0, 60, .inl gp1)) := k3 _ _ x_wpl 
                have a243 : f127 wpl = some (.inl (cy 0, 60, .inl gp1)) := k129 _ _ a242 
                have a244 : fL2 whs = some (.inl (cy 0, 4, .inl gs)) := k3 _ _ x_whs 
                have a245 : f127 whs = some (.inl (cy 0, 4, .inl gs)) := k129 _ _ a244 
                have a246 : fL2 wk1 = some (.inl (cy 0, 40, .inl gx1)) := k3 _ _ x_wk1 
                have a247 : f127 wk1 = some (.inl (cy 0, 40, .inl gx1)) := k129 _ _ a246 
                have a248 : fL2 wk2 = some (.inl (cy 0, 40, .inl gx2)) := k3 _ _ x_wk2 
                have a249 : f127 wk2 = some (.inl (cy 0, 40, .inl gx2)) := k129 _ _ a248 
                have a250 : fL2 wk3 = some (.inl (cy 0, 40, .inl gx3)) := k3 _ _ x_wk3 
                have a251 : f127 wk3 = some (.inl (cy 0, 40, .inl gx3)) := k129 _ _ a250 
                exact z_iret C hr rfl hz hS ⟨u1, u2, u3, nl, nn, nf, nc, lk, ks, gv, gu, gk, gm, gc, gw, gl, gh, gt, gy, gq, ge1, gn1, gp1, gs, gx1, gx2, gx3, ln, fz, sq, (by rw [q_family, if_neg (zks_none4 (i := kx) (by omega) (zksC hs c132 c171 c210 c212))]), rfl, rfl, rfl, rfl, rfl, rfl, rfl, rfl, rfl, rfl, rfl, rfl, (by rw [if_neg (by decide)]), (by rw [if_neg (by decide)]), ⟨fun _ _ _ _ => rfl, fun h9 => absurd h9 (by decide)⟩, rfl, rfl, rfl, rfl, rfl, rfl, rfl, rfl, rfl, rfl, ⟨a215, a217, a219, a221, a223, a225, a227, a229, a231, a233, a235, a237, a239, a241, a243, a245, a247, a249, a251, hn60, hl12, hf6, hc60, hs40, hMP, hgy, hfz, hgs, hME, hlk, hgw, hfd, n_wki_wmy, n_wki_wiw, n_wki_wli, n_wki_wha, n_wki_wem, n_wki_wna, n_wki_wpl, n_wmy_wiw, n_wmy_wli, n_wmy_wha, n_wmy_wem, n_wmy_wna, n_wmy_wpl, n_wiw_wli, n_wiw_wha, n_wiw_wem, n_wiw_wna, n_wiw_wpl, n_wli_wha, n_wli_wem, n_wli_wna, n_wli_wpl, n_wha_wem, n_wha_wna, n_wha_wpl, n_wem_wna, n_wem_wpl, n_wna_wpl, n_wk1_wk2, n_wk1_wk3, n_wk2_wk3⟩⟩ (Nat.le_of_ble_eq_true rfl) (Nat.le_of_ble_eq_true rfl) dX8_family_56
  exact lp1 (4 - 0 + 1) 0 0 _ _ _ _ (Nat.lt_succ_self _) (by omega) rfl  (fun b e hb => hb) hz hS (lv_sub hl [2, 3, 4, 5, 6, 1, 0] rfl)
