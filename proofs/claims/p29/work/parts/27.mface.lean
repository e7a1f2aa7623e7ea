abbrev rmX8_pair : Room := { frames := 3, cells := 0, slots := 0, locals := 67 }
set_option maxHeartbeats 4000000 in
set_option maxRecDepth 100000 in
theorem k_X8_pair (l : Launch) (D : va_G) (cy : Nat → ClassId) (f : zM) (o : Nat) (wev : Nat) (wnb : Nat) (wki : Nat) (wmy : Nat) (wce : Nat) (wiw : Nat) (wli : Nat) (wha : Nat) (wwt : Nat) (wfy : Nat) (wfk : Nat) (wem : Nat) (wna : Nat) (wpl : Nat) (whs : Nat) (wk1 : Nat) (wk2 : Nat) (wk3 : Nat) (u1 : Int32) (u2 : Int32) (u3 : Int32) (nl : Nat) (nn : Nat) (nf : Nat) (nc : Nat) (lk : Int64) (ks : Nat) (gv : Nat → Int32) (gu : Nat → Int32) (gk : Nat → Int32) (gm : Nat → Int32) (gc : Nat → Int64) (gw : Nat → Int32) (gl : Nat → Int32) (gh : Nat → Int32) (gt : Nat → Int64) (gy : Nat → Int32) (gq : Nat → Int32) (ge1 : Nat → Int32) (gn1 : Nat → Int32) (gp1 : Nat → Int32) (gs : Nat → Int32) (gx1 : Nat → Int32) (gx2 : Nat → Int32) (gx3 : Nat → Int32) (ln : Nat → Nat) (fz : Nat → Nat) (sq : Nat → Nat) (x : Int32) (y : Int32)    (hI : zIM cy f o wev wnb wki wmy wce wiw wli wha wwt wfy wfk wem wna wpl whs wk1 wk2 wk3 u1 u2 u3 nl nn nf nc lk ks gv gu gk gm gc gw gl gh gt gy gq ge1 gn1 gp1 gs gx1 gx2 gx3 ln fz sq) : zCi l D cy yX8_pair cX8_pair 3 (Option.some Jvm.ClassFile.FieldType.int) rmX8_pair [.ref o, .int x, .int y] f (fun (r : Int32) (f1 : zM) => ∃ (u11 : Int32) (u21 : Int32) (u31 : Int32) (nl1 : Nat) (nn1 : Nat) (nf1 : Nat) (nc1 : Nat) (lk1 : Int64) (ks1 : Nat) (gv1 : Nat → Int32) (gu1 : Nat → Int32) (gk1 : Nat → Int32) (gm1 : Nat → Int32) (gc1 : Nat → Int64) (gw1 : Nat → Int32) (gl1 : Nat → Int32) (gh1 : Nat → Int32) (gt1 : Nat → Int64) (gy1 : Nat → Int32) (gq1 : Nat → Int32) (ge11 : Nat → Int32) (gn11 : Nat → Int32) (gp11 : Nat → Int32) (gs1 : Nat → Int32) (gx11 : Nat → Int32) (gx21 : Nat → Int32) (gx31 : Nat → Int32) (ln1 : Nat → Nat) (fz1 : Nat → Nat) (sq1 : Nat → Nat), r = ((q_pair nn x y).1) ∧ (u11 = (q_pair nn x y).2.1) ∧ (u21 = (q_pair nn x y).2.2.1) ∧ (u31 = (q_pair nn x y).2.2.2) ∧ (gv1 = zEV gv (q_pair nn x y).2.1) ∧ (nl1 = nl) ∧ (gu1 = gu) ∧ (nn1 = if 0 ≤ r then nn + 1 else nn) ∧ (gk1 = if 0 ≤ r then va_up gk nn 4 else gk) ∧ (ln1 = if 0 ≤ r then va_up ln nn (2) else ln) ∧ (gw1 = if 0 ≤ r then va_up gw nn 0 else gw) ∧ (gh1 = if 0 ≤ r then va_up gh nn (zHash 4 nn (2) (q2 x.toInt64 y.toInt64) gh) else gh) ∧ (zGC nn (0 ≤ r) (2) (q2 x.toInt64 y.toInt64) gc gc1) ∧ (nf1 = nf) ∧ (fz1 = fz) ∧ (gq1 = gq) ∧ (nc1 = nc) ∧ (ge11 = ge1) ∧ (gn11 = gn1) ∧ (gp11 = gp1) ∧ (sq1 = sq) ∧ (ks1 = ks) ∧ (gx11 = gx1) ∧ (gx21 = gx2) ∧ (gx31 = gx3) ∧ (lk1 = lk) ∧ zIM cy f1 o wev wnb wki wmy wce wiw wli wha wwt wfy wfk wem wna wpl whs wk1 wk2 wk3 u11 u21 u31 nl1 nn1 nf1 nc1 lk1 ks1 gv1 gu1 gk1 gm1 gc1 gw1 gl1 gh1 gt1 gy1 gq1 ge11 gn11 gp11 gs1 gx11 gx21 gx31 ln1 fz1 sq1) := by
  intro sz
  refine z_body (by decide +kernel) (Nat.le_of_ble_eq_true rfl) ?_
  intro p e s m below meth c ls C hr hin hsz hz hl
  subst hsz
  have hx := C.1
  have hb := C.2.1
  have hA : ∀ q, s.heap.size ≤ q → zA f s.heap.size q := fun q h => Or.inr h
  have hS : va_S (zA f s.heap.size) s.heap s.heap [] := va_S.rf
  have hl : lv_has ls 3 [(0, .ref o), (1, .int x), (2, .int y)] := hl
  obtain ⟨x_o, x_wev, x_wnb, x_wki, x_wmy, x_wce, x_wiw, x_wli, x_wha, x_wwt, x_wfy, x_wfk, x_wem, x_wna, x_wpl, x_whs, x_wk1, x_wk2, x_wk3, hn60, hl12, hf6, hc60, hs40, hMP, hgy, hfz, hgs, hME, hlk, hgw, hfd, n_wki_wmy, n_wki_wiw, n_wki_wli, n_wki_wha, n_wki_wem, n_wki_wna, n_wki_wpl, n_wmy_wiw, n_wmy_wli, n_wmy_wha, n_wmy_wem, n_wmy_wna, n_wmy_wpl, n_wiw_wli, n_wiw_wha, n_wiw_wem, n_wiw_wna, n_wiw_wpl, n_wli_wha, n_wli_wem, n_wli_wna, n_wli_wpl, n_wha_wem, n_wha_wna, n_wha_wpl, n_wem_wna, n_wem_wpl, n_wna_wpl, n_wk1_wk2, n_wk1_wk3, n_wk2_wk3⟩ := id hI
  refine lv_aload_n hx hb dX8_pair_0 rfl (lv_at hl 0 rfl) ?_
  refine z_callVv (As := []) C hz hS hA hl (k_X8_begin l D cy f o wev wnb wki wmy wce wiw wli wha wwt wfy wfk wem wna wpl whs wk1 wk2 wk3 u1 u2 u3 nl nn nf nc lk ks x_o ) zyX8_begin mMX8_116 x_o zl8 rfl rfl (Nat.le_of_ble_eq_true rfl) ⟨Nat.le_of_ble_eq_true rfl, Nat.le_of_ble_eq_true rfl⟩ ⟨Nat.le_of_ble_eq_true rfl, Nat.le_of_ble_eq_true rfl⟩ dX8_pair_1 (fun  f1 H locs h2 hz hS => ?_)
  obtain ⟨a3, k4⟩ := h2
  refine lv_iload_n hx hb dX8_pair_4 rfl (lv_at hl 1 rfl) ?_
  refine lv_iconst (v := (-1)) hx hb dX8_pair_5 (by decide) ?_
  refine lv_icmp_eq (tgt := 17) hx hb dX8_pair_6 (by decide) (fun c5 => ?_) (fun c5 => ?_)
  · have hOlf : oF nn x = true := oF_m c5
    refine lv_iload_n hx hb dX8_pair_17 rfl (lv_at hl 2 rfl) ?_
    refine lv_iconst (v := (-1)) hx hb dX8_pair_18 (by decide) ?_
    refine lv_icmp_eq (tgt := 33) hx hb dX8_pair_19 (by decide) (fun c6 => ?_) (fun c6 => ?_)
    · have hOrt : oF nn y = true := oF_m c6
      refine lv_aload_n hx hb dX8_pair_33 rfl (lv_at hl 0 rfl) ?_
      refine z_get (v := .int (nI nn)) C hz a3 zl8 mFX8_83 (by decide) rfl dX8_pair_34 ?_
      refine lv_bipush (v := 60) hx hb dX8_pair_37 (by decide) ?_
      refine lv_icmp_ne (tgt := 45) hx hb dX8_pair_39 (by decide) (fun c7 => ?_) (fun c7 => ?_)
      · replace c7 : ¬ (nn = 60) := fun h => c7 ((nI_eq (a := nn) (b := 60) (by omega) (by omega)).mpr h)
        have h60 : nn < 60 := by omega
        refine lv_iload_n hx hb dX8_pair_45 rfl (lv_at hl 1 rfl) ?_
        refine lv_iconst (v := (-1)) hx hb dX8_pair_46 (by decide) ?_
        refine lv_icmp_ne (tgt := 58) hx hb dX8_pair_47 (by decide) (fun c8 => ?_) (fun c8 => ?_)
        · exact absurd c5 c8
        refine lv_aload_n hx hb dX8_pair_50 rfl (lv_at hl 0 rfl) ?_
        refine lv_iconst (v := 1) hx hb dX8_pair_51 (by decide) ?_
        refine lv_iconst (v := 0) hx hb dX8_pair_52 (by decide) ?_
        refine lv_iconst (v := 0) hx hb dX8_pair_53 (by decide) ?_
        have a9 : f1 wev = some (.inl (cy 0, 8, .inl gv)) := k4 _ _ x_wev (z_ne x_wev x_o rfl)
        refine z_callVi (As := [.int 1, .int 0, .int 0]) C hz hS hA hl (k_X8_fails l D cy f1 o wev wnb wki wmy wce wiw wli wha wwt wfy wfk wem wna wpl whs wk1 wk2 wk3 0 (-1) 0 nl nn nf nc lk ks 1 0 0 gv 1 a3 a9 (by decide) (Nat.le_of_ble_eq_true rfl)) zyX8_fails mMX8_135 a3 zl8 rfl rfl (Nat.le_of_ble_eq_true rfl) ⟨Nat.le_of_ble_eq_true rfl, Nat.le_of_ble_eq_true rfl⟩ ⟨Nat.le_of_ble_eq_true rfl, Nat.le_of_ble_eq_true rfl⟩ dX8_pair_54 (fun r f10 H locs h11 hz hS => ?_)
        obtain ⟨rfl, a12, a13, k14⟩ := h11
        have a15 : f1 wnb = some (.inl (cy 0, 12, .inl gu)) := k4 _ _ x_wnb (z_ne x_wnb x_o rfl)
        have a16 : f10 wnb = some (.inl (cy 0, 12, .inl gu)) := k14 _ _ a15 (z_ne a15 a3 rfl) (z_ne a15 a9 rfl)
        have a17 : f1 wki = some (.inl (cy 0, 60, .inl gk)) := k4 _ _ x_wki (z_ne x_wki x_o rfl)
        have a18 : f10 wki = some (.inl (cy 0, 60, .inl gk)) := k14 _ _ a17 (z_ne a17 a3 rfl) (z_ne a17 a9 rfl)
        have a19 : f1 wmy = some (.inl (cy 0, 60, .inl gm)) := k4 _ _ x_wmy (z_ne x_wmy x_o rfl)
        have a20 : f10 wmy = some (.inl (cy 0, 60, .inl gm)) := k14 _ _ a19 (z_ne a19 a3 rfl) (z_ne a19 a9 rfl)
        have a21 : f1 wce = some (.inl (cy 1, 960, .inr (.inl gc))) := k4 _ _ x_wce (z_ne x_wce x_o rfl)
        have a22 : f10 wce = some (.inl (cy 1, 960, .inr (.inl gc))) := k14 _ _ a21 (z_ne a21 a3 rfl) (z_ne a21 a9 rfl)
        have a23 : f1 wiw = some (.inl (cy 2, 60, .inl gw)) := k4 _ _ x_wiw (z_ne x_wiw x_o rfl)
        have a24 : f10 wiw = some (.inl (cy 2, 60, .inl gw)) := k14 _ _ a23 (z_ne a23 a3 rfl) (z_ne a23 a9 rfl)
        have a25 : f1 wli = some (.inl (cy 0, 60, .inl gl)) := k4 _ _ x_wli (z_ne x_wli x_o rfl)
        have a26 : f10 wli = some (.inl (cy 0, 60, .inl gl)) := k14 _ _ a25 (z_ne a25 a3 rfl) (z_ne a25 a9 rfl)
        have a27 : f1 wha = some (.inl (cy 0, 60, .inl gh)) := k4 _ _ x_wha (z_ne x_wha x_o rfl)
        have a28 : f10 wha = some (.inl (cy 0, 60, .inl gh)) := k14 _ _ a27 (z_ne a27 a3 rfl) (z_ne a27 a9 rfl)
        have a29 : f1 wwt = some (.inl (cy 1, 60, .inr (.inl gt))) := k4 _ _ x_wwt (z_ne x_wwt x_o rfl)
        have a30 : f10 wwt = some (.inl (cy 1, 60, .inr (.inl gt))) := k14 _ _ a29 (z_ne a29 a3 rfl) (z_ne a29 a9 rfl)
        have a31 : f1 wfy = some (.inl (cy 0, 6, .inl gy)) := k4 _ _ x_wfy (z_ne x_wfy x_o rfl)
        have a32 : f10 wfy = some (.inl (cy 0, 6, .inl gy)) := k14 _ _ a31 (z_ne a31 a3 rfl) (z_ne a31 a9 rfl)
        have a33 : f1 wfk = some (.inl (cy 0, 24, .inl gq)) := k4 _ _ x_wfk (z_ne x_wfk x_o rfl)
        have a34 : f10 wfk = some (.inl (cy 0, 24, .inl gq)) := k14 _ _ a33 (z_ne a33 a3 rfl) (z_ne a33 a9 rfl)
        have a35 : f1 wem = some (.inl (cy 0, 60, .inl ge1)) := k4 _ _ x_wem (z_ne x_wem x_o rfl)
        have a36 : f10 wem = some (.inl (cy 0, 60, .inl ge1)) := k14 _ _ a35 (z_ne a35 a3 rfl) (z_ne a35 a9 rfl)
        have a37 : f1 wna = some (.inl (cy 0, 60, .inl gn1)) := k4 _ _ x_wna (z_ne x_wna x_o rfl)
        have a38 : f10 wna = some (.inl (cy 0, 60, .inl gn1)) := k14 _ _ a37 (z_ne a37 a3 rfl) (z_ne a37 a9 rfl)
        have a39 : f1 wpl = some (.inl (cy 0, 60, .inl gp1)) := k4 _ _ x_wpl (z_ne x_wpl x_o rfl)
        have a40 : f10 wpl = some (.inl (cy 0, 60, .inl gp1)) := k14 _ _ a39 (z_ne a39 a3 rfl) (z_ne a39 a9 rfl)
        have a41 : f1 whs = some (.inl (cy 0, 4, .inl gs)) := k4 _ _ x_whs (z_ne x_whs x_o rfl)
        have a42 : f10 whs = some (.inl (cy 0, 4, .inl gs)) := k14 _ _ a41 (z_ne a41 a3 rfl) (z_ne a41 a9 rfl)
        have a43 : f1 wk1 = some (.inl (cy 0, 40, .inl gx1)) := k4 _ _ x_wk1 (z_ne x_wk1 x_o rfl)
        have a44 : f10 wk1 = some (.inl (cy 0, 40, .inl gx1)) := k14 _ _ a43 (z_ne a43 a3 rfl) (z_ne a43 a9 rfl)
        have a45 : f1 wk2 = some (.inl (cy 0, 40, .inl gx2)) := k4 _ _ x_wk2 (z_ne x_wk2 x_o rfl)
        have a46 : f10 wk2 = some (.inl (cy 0, 40, .inl gx2)) := k14 _ _ a45 (z_ne a45 a3 rfl) (z_ne a45 a9 rfl)
        have a47 : f1 wk3 = some (.inl (cy 0, 40, .inl gx3)) := k4 _ _ x_wk3 (z_ne x_wk3 x_o rfl)
        have a48 : f10 wk3 = some (.inl (cy 0, 40, .inl gx3)) := k14 _ _ a47 (z_ne a47 a3 rfl) (z_ne a47 a9 rfl)
        have hq : q_pair nn x y = ((-4), 1, 0, 0) := by simp [q_pair, oF_m1 nn, h60, hOlf, hOrt, c5, c6, c8]
        exact z_iret C hr rfl hz hS ⟨1, 0, 0, nl, nn, nf, nc, lk, ks, (upd gv 1 (gv 1 + 1)), gu, gk, gm, gc, gw, gl, gh, gt, gy, gq, ge1, gn1, gp1, gs, gx1, gx2, gx3, ln, fz, sq, (by rw [hq]), (by rw [hq]), (by rw [hq]), (by rw [hq]), (by rw [hq]; exact (zEV1 gv).symm), rfl, rfl, (by rw [if_neg (by decide)]), (by rw [if_neg (by decide)]), (by rw [if_neg (by decide)]), (by rw [if_neg (by decide)]), (by rw [if_neg (by decide)]), (zGC_no (by decide)), rfl, rfl, rfl, rfl, rfl, rfl, rfl, rfl, rfl, rfl, rfl, rfl, rfl, ⟨a12, a13, a16, a18, a20, a22, a24, a26, a28, a30, a32, a34, a36, a38, a40, a42, a44, a46, a48, hn60, hl12, hf6, hc60, hs40, hMP, hgy, hfz, hgs, hME, hlk, hgw, hfd, n_wki_wmy, n_wki_wiw, n_wki_wli, n_wki_wha, n_wki_wem, n_wki_wna, n_wki_wpl, n_wmy_wiw, n_wmy_wli, n_wmy_wha, n_wmy_wem, n_wmy_wna, n_wmy_wpl, n_wiw_wli, n_wiw_wha, n_wiw_wem, n_wiw_wna, n_wiw_wpl, n_wli_wha, n_wli_wem, n_wli_wna, n_wli_wpl, n_wha_wem, n_wha_wna, n_wha_wpl, n_wem_wna, n_wem_wpl, n_wna_wpl, n_wk1_wk2, n_wk1_wk3, n_wk2_wk3⟩⟩ (Nat.le_of_ble_eq_true rfl) (Nat.le_of_ble_eq_true rfl) dX8_pair_57
      · replace c7 : (nn = 60) := (nI_eq (a := nn) (b := 60) (by omega) (by omega)).mp c7
        have h60 : ¬ nn < 60 := by omega
        refine lv_bipush (v := (-3)) hx hb dX8_pair_42 (by decide) ?_
        have a49 : f1 wev = some (.inl (cy 0, 8, .inl gv)) := k4 _ _ x_wev (z_ne x_wev x_o rfl)
        have a50 : f1 wnb = some (.inl (cy 0, 12, .inl gu)) := k4 _ _ x_wnb (z_ne x_wnb x_o rfl)
        have a51 : f1 wki = some (.inl (cy 0, 60, .inl gk)) := k4 _ _ x_wki (z_ne x_wki x_o rfl)
        have a52 : f1 wmy = some (.inl (cy 0, 60, .inl gm)) := k4 _ _ x_wmy (z_ne x_wmy x_o rfl)
        have a53 : f1 wce = some (.inl (cy 1, 960, .inr (.inl gc))) := k4 _ _ x_wce (z_ne x_wce x_o rfl)
        have a54 : f1 wiw = some (.inl (cy 2, 60, .inl gw)) := k4 _ _ x_wiw (z_ne x_wiw x_o rfl)
        have a55 : f1 wli = some (.inl (cy 0, 60, .inl gl)) := k4 _ _ x_wli (z_ne x_wli x_o rfl)
        have a56 : f1 wha = some (.inl (cy 0, 60, .inl gh)) := k4 _ _ x_wha (z_ne x_wha x_o rfl)
        have a57 : f1 wwt = some (.inl (cy 1, 60, .inr (.inl gt))) := k4 _ _ x_wwt (z_ne x_wwt x_o rfl)
        have a58 : f1 wfy = some (.inl (cy 0, 6, .inl gy)) := k4 _ _ x_wfy (z_ne x_wfy x_o rfl)
        have a59 : f1 wfk = some (.inl (cy 0, 24, .inl gq)) := k4 _ _ x_wfk (z_ne x_wfk x_o rfl)
        have a60 : f1 wem = some (.inl (cy 0, 60, .inl ge1)) := k4 _ _ x_wem (z_ne x_wem x_o rfl)
        have a61 : f1 wna = some (.inl (cy 0, 60, .inl gn1)) := k4 _ _ x_wna (z_ne x_wna x_o rfl)
        have a62 : f1 wpl = some (.inl (cy 0, 60, .inl gp1)) := k4 _ _ x_wpl (z_ne x_wpl x_o rfl)
        have a63 : f1 whs = some (.inl (cy 0, 4, .inl gs)) := k4 _ _ x_whs (z_ne x_whs x_o rfl)
        have a64 : f1 wk1 = some (.inl (cy 0, 40, .inl gx1)) := k4 _ _ x_wk1 (z_ne x_wk1 x_o rfl)
        have a65 : f1 wk2 = some (.inl (cy 0, 40, .inl gx2)) := k4 _ _ x_wk2 (z_ne x_wk2 x_o rfl)
        have a66 : f1 wk3 = some (.inl (cy 0, 40, .inl gx3)) := k4 _ _ x_wk3 (z_ne x_wk3 x_o rfl)
        have hq : q_pair nn x y = ((-3), 0, (-1), 0) := by simp [q_pair, oF_m1 nn, h60, hOlf, hOrt, c5, c6]
        exact z_iret C hr rfl hz hS ⟨0, (-1), 0, nl, nn, nf, nc, lk, ks, gv, gu, gk, gm, gc, gw, gl, gh, gt, gy, gq, ge1, gn1, gp1, gs, gx1, gx2, gx3, ln, fz, sq, (by rw [hq]), (by rw [hq]), (by rw [hq]), (by rw [hq]), (by rw [hq]; exact (zEV0 gv).symm), rfl, rfl, (by rw [if_neg (by decide)]), (by rw [if_neg (by decide)]), (by rw [if_neg (by decide)]), (by rw [if_neg (by decide)]), (by rw [if_neg (by decide)]), (zGC_no (by decide)), rfl, rfl, rfl, rfl, rfl, rfl, rfl, rfl, rfl, rfl, rfl, rfl, rfl, ⟨a3, a49, a50, a51, a52, a53, a54, a55, a56, a57, a58, a59, a60, a61, a62, a63, a64, a65, a66, hn60, hl12, hf6, hc60, hs40, hMP, hgy, hfz, hgs, hME, hlk, hgw, hfd, n_wki_wmy, n_wki_wiw, n_wki_wli, n_wki_wha, n_wki_wem, n_wki_wna, n_wki_wpl, n_wmy_wiw, n_wmy_wli, n_wmy_wha, n_wmy_wem, n_wmy_wna, n_wmy_wpl, n_wiw_wli, n_wiw_wha, n_wiw_wem, n_wiw_wna, n_wiw_wpl, n_wli_wha, n_wli_wem, n_wli_wna, n_wli_wpl, n_wha_wem, n_wha_wna, n_wha_wpl, n_wem_wna, n_wem_wpl, n_wna_wpl, n_wk1_wk2, n_wk1_wk3, n_wk2_wk3⟩⟩ (Nat.le_of_ble_eq_true rfl) (Nat.le_of_ble_eq_true rfl) dX8_pair_44
    · refine lv_aload_n hx hb dX8_pair_22 rfl (lv_at hl 0 rfl) ?_
      refine lv_iload_n hx hb dX8_pair_23 rfl (lv_at hl 2 rfl) ?_
      rcases z_findi y nn with ⟨jr, hjr, hvrt⟩ | hvrt
      · have hOrt : oF nn y = true := oF_t hn60 hjr hvrt
        have hNrt : ¬ y = (-1) := by rw [hvrt]; exact z_nim1 (by omega)
        refine z_callVi (As := [.int y]) C hz hS hA hl (k_X8_isFigure_A l D cy f1 o wev wnb wki wmy wce wiw wli wha wwt wfy wfk wem wna wpl whs wk1 wk2 wk3 0 (-1) 0 nl nn nf nc lk ks y jr a3 hn60 hvrt hjr) zyX8_isFigure mMX8_139 a3 zl8 rfl rfl (Nat.le_of_ble_eq_true rfl) ⟨Nat.le_of_ble_eq_true rfl, Nat.le_of_ble_eq_true rfl⟩ ⟨Nat.le_of_ble_eq_true rfl, Nat.le_of_ble_eq_true rfl⟩ dX8_pair_24 (fun r f67 H locs h68 hz hS => ?_)
        obtain ⟨rfl, k69⟩ := h68
        refine lv_if_ne (tgt := 33) hx hb dX8_pair_27 (by decide) (fun c70 => ?_) (fun c70 => ?_)
        rotate_left
        · exact absurd c70 (by decide)
        refine lv_aload_n hx hb dX8_pair_33 rfl (lv_at hl 0 rfl) ?_
        have a71 : f67 o = some (.inr (8, [.int 0, .int (-1), .int 0, .ref wev, .int (nI nl), .ref wnb, .int (nI nn), .ref wki, .ref wmy, .ref wce, .ref wiw, .ref wli, .ref wha, .ref wwt, .int (nI nf), .ref wfy, .ref wfk, .int (nI nc), .ref wem, .ref wna, .ref wpl, .ref whs, .long lk, .int (nI ks), .ref wk1, .ref wk2, .ref wk3])) := k69 _ _ a3 
        refine z_get (v := .int (nI nn)) C hz a71 zl8 mFX8_83 (by decide) rfl dX8_pair_34 ?_
        refine lv_bipush (v := 60) hx hb dX8_pair_37 (by decide) ?_
        refine lv_icmp_ne (tgt := 45) hx hb dX8_pair_39 (by decide) (fun c72 => ?_) (fun c72 => ?_)
        · replace c72 : ¬ (nn = 60) := fun h => c72 ((nI_eq (a := nn) (b := 60) (by omega) (by omega)).mpr h)
          have h60 : nn < 60 := by omega
          refine lv_iload_n hx hb dX8_pair_45 rfl (lv_at hl 1 rfl) ?_
          refine lv_iconst (v := (-1)) hx hb dX8_pair_46 (by decide) ?_
          refine lv_icmp_ne (tgt := 58) hx hb dX8_pair_47 (by decide) (fun c73 => ?_) (fun c73 => ?_)
          · exact absurd c5 c73
          refine lv_aload_n hx hb dX8_pair_50 rfl (lv_at hl 0 rfl) ?_
          refine lv_iconst (v := 1) hx hb dX8_pair_51 (by decide) ?_
          refine lv_iconst (v := 0) hx hb dX8_pair_52 (by decide) ?_
          refine lv_iconst (v := 0) hx hb dX8_pair_53 (by decide) ?_
          have a74 : f1 wev = some (.inl (cy 0, 8, .inl gv)) := k4 _ _ x_wev (z_ne x_wev x_o rfl)
          have a75 : f67 wev = some (.inl (cy 0, 8, .inl gv)) := k69 _ _ a74 
          refine z_callVi (As := [.int 1, .int 0, .int 0]) C hz hS hA hl (k_X8_fails l D cy f67 o wev wnb wki wmy wce wiw wli wha wwt wfy wfk wem wna wpl whs wk1 wk2 wk3 0 (-1) 0 nl nn nf nc lk ks 1 0 0 gv 1 a71 a75 (by decide) (Nat.le_of_ble_eq_true rfl)) zyX8_fails mMX8_135 a71 zl8 rfl rfl (Nat.le_of_ble_eq_true rfl) ⟨Nat.le_of_ble_eq_true rfl, Nat.le_of_ble_eq_true rfl⟩ ⟨Nat.le_of_ble_eq_true rfl, Nat.le_of_ble_eq_true rfl⟩ dX8_pair_54 (fun r f76 H locs h77 hz hS => ?_)
          obtain ⟨rfl, a78, a79, k80⟩ := h77
          have a81 : f1 wnb = some (.inl (cy 0, 12, .inl gu)) := k4 _ _ x_wnb (z_ne x_wnb x_o rfl)
          have a82 : f67 wnb = some (.inl (cy 0, 12, .inl gu)) := k69 _ _ a81 
          have a83 : f76 wnb = some (.inl (cy 0, 12, .inl gu)) := k80 _ _ a82 (z_ne a82 a71 rfl) (z_ne a82 a75 rfl)
          have a84 : f1 wki = some (.inl (cy 0, 60, .inl gk)) := k4 _ _ x_wki (z_ne x_wki x_o rfl)
          have a85 : f67 wki = some (.inl (cy 0, 60, .inl gk)) := k69 _ _ a84 
          have a86 : f76 wki = some (.inl (cy 0, 60, .inl gk)) := k80 _ _ a85 (z_ne a85 a71 rfl) (z_ne a85 a75 rfl)
          have a87 : f1 wmy = some (.inl (cy 0, 60, .inl gm)) := k4 _ _ x_wmy (z_ne x_wmy x_o rfl)
          have a88 : f67 wmy = some (.inl (cy 0, 60, .inl gm)) := k69 _ _ a87 
          have a89 : f76 wmy = some (.inl (cy 0, 60, .inl gm)) := k80 _ _ a88 (z_ne a88 a71 rfl) (z_ne a88 a75 rfl)
          have a90 : f1 wce = some (.inl (cy 1, 960, .inr (.inl gc))) := k4 _ _ x_wce (z_ne x_wce x_o rfl)
          have a91 : f67 wce = some (.inl (cy 1, 960, .inr (.inl gc))) := k69 _ _ a90 
          have a92 : f76 wce = some (.inl (cy 1, 960, .inr (.inl gc))) := k80 _ _ a91 (z_ne a91 a71 rfl) (z_ne a91 a75 rfl)
          have a93 : f1 wiw = some (.inl (cy 2, 60, .inl gw)) := k4 _ _ x_wiw (z_ne x_wiw x_o rfl)
          have a94 : f67 wiw = some (.inl (cy 2, 60, .inl gw)) := k69 _ _ a93 
          have a95 : f76 wiw = some (.inl (cy 2, 60, .inl gw)) := k80 _ _ a94 (z_ne a94 a71 rfl) (z_ne a94 a75 rfl)
          have a96 : f1 wli = some (.inl (cy 0, 60, .inl gl)) := k4 _ _ x_wli (z_ne x_wli x_o rfl)
          have a97 : f67 wli = some (.inl (cy 0, 60, .inl gl)) := k69 _ _ a96 
          have a98 : f76 wli = some (.inl (cy 0, 60, .inl gl)) := k80 _ _ a97 (z_ne a97 a71 rfl) (z_ne a97 a75 rfl)
          have a99 : f1 wha = some (.inl (cy 0, 60, .inl gh)) := k4 _ _ x_wha (z_ne x_wha x_o rfl)
          have a100 : f67 wha = some (.inl (cy 0, 60, .inl gh)) := k69 _ _ a99 
          have a101 : f76 wha = some (.inl (cy 0, 60, .inl gh)) := k80 _ _ a100 (z_ne a100 a71 rfl) (z_ne a100 a75 rfl)
          have a102 : f1 wwt = some (.inl (cy 1, 60, .inr (.inl gt))) := k4 _ _ x_wwt (z_ne x_wwt x_o rfl)
          have a103 : f67 wwt = some (.inl (cy 1, 60, .inr (.inl gt))) := k69 _ _ a102 
          have a104 : f76 wwt = some (.inl (cy 1, 60, .inr (.inl gt))) := k80 _ _ a103 (z_ne a103 a71 rfl) (z_ne a103 a75 rfl)
          have a105 : f1 wfy = some (.inl (cy 0, 6, .inl gy)) := k4 _ _ x_wfy (z_ne x_wfy x_o rfl)
          have a106 : f67 wfy = some (.inl (cy 0, 6, .inl gy)) := k69 _ _ a105 
          have a107 : f76 wfy = some (.inl (cy 0, 6, .inl gy)) := k80 _ _ a106 (z_ne a106 a71 rfl) (z_ne a106 a75 rfl)
          have a108 : f1 wfk = some (.inl (cy 0, 24, .inl gq)) := k4 _ _ x_wfk (z_ne x_wfk x_o rfl)
          have a109 : f67 wfk = some (.inl (cy 0, 24, .inl gq)) := k69 _ _ a108 
          have a110 : f76 wfk = some (.inl (cy 0, 24, .inl gq)) := k80 _ _ a109 (z_ne a109 a71 rfl) (z_ne a109 a75 rfl)
          have a111 : f1 wem = some (.inl (cy 0, 60, .inl ge1)) := k4 _ _ x_wem (z_ne x_wem x_o rfl)
          have a112 : f67 wem = some (.inl (cy 0, 60, .inl ge1)) := k69 _ _ a111 
          have a113 : f76 wem = some (.inl (cy 0, 60, .inl ge1)) := k80 _ _ a112 (z_ne a112 a71 rfl) (z_ne a112 a75 rfl)
          have a114 : f1 wna = some (.inl (cy 0, 60, .inl gn1)) := k4 _ _ x_wna (z_ne x_wna x_o rfl)
          have a115 : f67 wna = some (.inl (cy 0, 60, .inl gn1)) := k69 _ _ a114 
          have a116 : f76 wna = some (.inl (cy 0, 60, .inl gn1)) := k80 _ _ a115 (z_ne a115 a71 rfl) (z_ne a115 a75 rfl)
          have a117 : f1 wpl = some (.inl (cy 0, 60, .inl gp1)) := k4 _ _ x_wpl (z_ne x_wpl x_o rfl)
          have a118 : f67 wpl = some (.inl (cy 0, 60, .inl gp1)) := k69 _ _ a117 
          have a119 : f76 wpl = some (.inl (cy 0, 60, .inl gp1)) := k80 _ _ a118 (z_ne a118 a71 rfl) (z_ne a118 a75 rfl)
          have a120 : f1 whs = some (.inl (cy 0, 4, .inl gs)) := k4 _ _ x_whs (z_ne x_whs x_o rfl)
          have a121 : f67 whs = some (.inl (cy 0, 4, .inl gs)) := k69 _ _ a120 
          have a122 : f76 whs = some (.inl (cy 0, 4, .inl gs)) := k80 _ _ a121 (z_ne a121 a71 rfl) (z_ne a121 a75 rfl)
          have a123 : f1 wk1 = some (.inl (cy 0, 40, .inl gx1)) := k4 _ _ x_wk1 (z_ne x_wk1 x_o rfl)
          have a124 : f67 wk1 = some (.inl (cy 0, 40, .inl gx1)) := k69 _ _ a123 
          have a125 : f76 wk1 = some (.inl (cy 0, 40, .inl gx1)) := k80 _ _ a124 (z_ne a124 a71 rfl) (z_ne a124 a75 rfl)
          have a126 : f1 wk2 = some (.inl (cy 0, 40, .inl gx2)) := k4 _ _ x_wk2 (z_ne x_wk2 x_o rfl)
          have a127 : f67 wk2 = some (.inl (cy 0, 40, .inl gx2)) := k69 _ _ a126 
          have a128 : f76 wk2 = some (.inl (cy 0, 40, .inl gx2)) := k80 _ _ a127 (z_ne a127 a71 rfl) (z_ne a127 a75 rfl)
          have a129 : f1 wk3 = some (.inl (cy 0, 40, .inl gx3)) := k4 _ _ x_wk3 (z_ne x_wk3 x_o rfl)
          have a130 : f67 wk3 = some (.inl (cy 0, 40, .inl gx3)) := k69 _ _ a129 
          have a131 : f76 wk3 = some (.inl (cy 0, 40, .inl gx3)) := k80 _ _ a130 (z_ne a130 a71 rfl) (z_ne a130 a75 rfl)
          have hq : q_pair nn x y = ((-4), 1, 0, 0) := by simp [q_pair, oF_m1 nn, h60, hOlf, hOrt, hNrt, c5, c6, c70, c73]
          exact z_iret C hr rfl hz hS ⟨1, 0, 0, nl, nn, nf, nc, lk, ks, (upd gv 1 (gv 1 + 1)), gu, gk, gm, gc, gw, gl, gh, gt, gy, gq, ge1, gn1, gp1, gs, gx1, gx2, gx3, ln, fz, sq, (by rw [hq]), (by rw [hq]), (by rw [hq]), (by rw [hq]), (by rw [hq]; exact (zEV1 gv).symm), rfl, rfl, (by rw [if_neg (by decide)]), (by rw [if_neg (by decide)]), (by rw [if_neg (by decide)]), (by rw [if_neg (by decide)]), (by rw [if_neg (by decide)]), (zGC_no (by decide)), rfl, rfl, rfl, rfl, rfl, rfl, rfl, rfl, rfl, rfl, rfl, rfl, rfl, ⟨a78, a79, a83, a86, a89, a92, a95, a98, a101, a104, a107, a110, a113, a116, a119, a122, a125, a128, a131, hn60, hl12, hf6, hc60, hs40, hMP, hgy, hfz, hgs, hME, hlk, hgw, hfd, n_wki_wmy, n_wki_wiw, n_wki_wli, n_wki_wha, n_wki_wem, n_wki_wna, n_wki_wpl, n_wmy_wiw, n_wmy_wli, n_wmy_wha, n_wmy_wem, n_wmy_wna, n_wmy_wpl, n_wiw_wli, n_wiw_wha, n_wiw_wem, n_wiw_wna, n_wiw_wpl, n_wli_wha, n_wli_wem, n_wli_wna, n_wli_wpl, n_wha_wem, n_wha_wna, n_wha_wpl, n_wem_wna, n_wem_wpl, n_wna_wpl, n_wk1_wk2, n_wk1_wk3, n_wk2_wk3⟩⟩ (Nat.le_of_ble_eq_true rfl) (Nat.le_of_ble_eq_true rfl) dX8_pair_57
        · replace c72 : (nn = 60) := (nI_eq (a := nn) (b := 60) (by omega) (by omega)).mp c72
          have h60 : ¬ nn < 60 := by omega
          refine lv_bipush (v := (-3)) hx hb dX8_pair_42 (by decide) ?_
          have a132 : f1 wev = some (.inl (cy 0, 8, .inl gv)) := k4 _ _ x_wev (z_ne x_wev x_o rfl)
          have a133 : f67 wev = some (.inl (cy 0, 8, .inl gv)) := k69 _ _ a132 
          have a134 : f1 wnb = some (.inl (cy 0, 12, .inl gu)) := k4 _ _ x_wnb (z_ne x_wnb x_o rfl)
          have a135 : f67 wnb = some (.inl (cy 0, 12, .inl gu)) := k69 _ _ a134 
          have a136 : f1 wki = some (.inl (cy 0, 60, .inl gk)) := k4 _ _ x_wki (z_ne x_wki x_o rfl)
          have a137 : f67 wki = some (.inl (cy 0, 60, .inl gk)) := k69 _ _ a136 
          have a138 : f1 wmy = some (.inl (cy 0, 60, .inl gm)) := k4 _ _ x_wmy (z_ne x_wmy x_o rfl)
          have a139 : f67 wmy = some (.inl (cy 0, 60, .inl gm)) := k69 _ _ a138 
          have a140 : f1 wce = some (.inl (cy 1, 960, .inr (.inl gc))) := k4 _ _ x_wce (z_ne x_wce x_o rfl)
          have a141 : f67 wce = some (.inl (cy 1, 960, .inr (.inl gc))) := k69 _ _ a140 
          have a142 : f1 wiw = some (.inl (cy 2, 60, .inl gw)) := k4 _ _ x_wiw (z_ne x_wiw x_o rfl)
          have a143 : f67 wiw = some (.inl (cy 2, 60, .inl gw)) := k69 _ _ a142 
          have a144 : f1 wli = some (.inl (cy 0, 60, .inl gl)) := k4 _ _ x_wli (z_ne x_wli x_o rfl)
          have a145 : f67 wli = some (.inl (cy 0, 60, .inl gl)) := k69 _ _ a144 
          have a146 : f1 wha = some (.inl (cy 0, 60, .inl gh)) := k4 _ _ x_wha (z_ne x_wha x_o rfl)
          have a147 : f67 wha = some (.inl (cy 0, 60, .inl gh)) := k69 _ _ a146 
          have a148 : f1 wwt = some (.inl (cy 1, 60, .inr (.inl gt))) := k4 _ _ x_wwt (z_ne x_wwt x_o rfl)
          have a149 : f67 wwt = some (.inl (cy 1, 60, .inr (.inl gt))) := k69 _ _ a148 
          have a150 : f1 wfy = some (.inl (cy 0, 6, .inl gy)) := k4 _ _ x_wfy (z_ne x_wfy x_o rfl)
          have a151 : f67 wfy = some (.inl (cy 0, 6, .inl gy)) := k69 _ _ a150 
          have a152 : f1 wfk = some (.inl (cy 0, 24, .inl gq)) := k4 _ _ x_wfk (z_ne x_wfk x_o rfl)
          have a153 : f67 wfk = some (.inl (cy 0, 24, .inl gq)) := k69 _ _ a152 
          have a154 : f1 wem = some (.inl (cy 0, 60, .inl ge1)) := k4 _ _ x_wem (z_ne x_wem x_o rfl)
          have a155 : f67 wem = some (.inl (cy 0, 60, .inl ge1)) := k69 _ _ a154 
          have a156 : f1 wna = some (.inl (cy 0, 60, .inl gn1)) := k4 _ _ x_wna (z_ne x_wna x_o rfl)
          have a157 : f67 wna = some (.inl (cy 0, 60, .inl gn1)) := k69 _ _ a156 
          have a158 : f1 wpl = some (.inl (cy 0, 60, .inl gp1)) := k4 _ _ x_wpl (z_ne x_wpl x_o rfl)
          have a159 : f67 wpl = some (.inl (cy 0, 60, .inl gp1)) := k69 _ _ a158 
          have a160 : f1 whs = some (.inl (cy 0, 4, .inl gs)) := k4 _ _ x_whs (z_ne x_whs x_o rfl)
          have a161 : f67 whs = some (.inl (cy 0, 4, .inl gs)) := k69 _ _ a160 
          have a162 : f1 wk1 = some (.inl (cy 0, 40, .inl gx1)) := k4 _ _ x_wk1 (z_ne x_wk1 x_o rfl)
          have a163 : f67 wk1 = some (.inl (cy 0, 40, .inl gx1)) := k69 _ _ a162 
          have a164 : f1 wk2 = some (.inl (cy 0, 40, .inl gx2)) := k4 _ _ x_wk2 (z_ne x_wk2 x_o rfl)
          have a165 : f67 wk2 = some (.inl (cy 0, 40, .inl gx2)) := k69 _ _ a164 
          have a166 : f1 wk3 = some (.inl (cy 0, 40, .inl gx3)) := k4 _ _ x_wk3 (z_ne x_wk3 x_o rfl)
          have a167 : f67 wk3 = some (.inl (cy 0, 40, .inl gx3)) := k69 _ _ a166 
          have hq : q_pair nn x y = ((-3), 0, (-1), 0) := by simp [q_pair, oF_m1 nn, h60, hOlf, hOrt, hNrt, c5, c6, c70]
          exact z_iret C hr rfl hz hS ⟨0, (-1), 0, nl, nn, nf, nc, lk, ks, gv, gu, gk, gm, gc, gw, gl, gh, gt, gy, gq, ge1, gn1, gp1, gs, gx1, gx2, gx3, ln, fz, sq, (by rw [hq]), (by rw [hq]), (by rw [hq]), (by rw [hq]), (by rw [hq]; exact (zEV0 gv).symm), rfl, rfl, (by rw [if_neg (by decide)]), (by rw [if_neg (by decide)]), (by rw [if_neg (by decide)]), (by rw [if_neg (by decide)]), (by rw [if_neg (by decide)]), (zGC_no (by decide)), rfl, rfl, rfl, rfl, rfl, rfl, rfl, rfl, rfl, rfl, rfl, rfl, rfl, ⟨a71, a133, a135, a137, a139, a141, a143, a145, a147, a149, a151, a153, a155, a157, a159, a161, a163, a165, a167, hn60, hl12, hf6, hc60, hs40, hMP, hgy, hfz, hgs, hME, hlk, hgw, hfd, n_wki_wmy, n_wki_wiw, n_wki_wli, n_wki_wha, n_wki_wem, n_wki_wna, n_wki_wpl, n_wmy_wiw, n_wmy_wli, n_wmy_wha, n_wmy_wem, n_wmy_wna, n_wmy_wpl, n_wiw_wli, n_wiw_wha, n_wiw_wem, n_wiw_wna, n_wiw_wpl, n_wli_wha, n_wli_wem, n_wli_wna, n_wli_wpl, n_wha_wem, n_wha_wna, n_wha_wpl, n_wem_wna, n_wem_wpl, n_wna_wpl, n_wk1_wk2, n_wk1_wk3, n_wk2_wk3⟩⟩ (Nat.le_of_ble_eq_true rfl) (Nat.le_of_ble_eq_true rfl) dX8_pair_44
      · have hOrt : oF nn y = false := oF_f hn60 c6 hvrt
        refine z_callVi (As := [.int y]) C hz hS hA hl (k_X8_isFigure_B l D cy f1 o wev wnb wki wmy wce wiw wli wha wwt wfy wfk wem wna wpl whs wk1 wk2 wk3 0 (-1) 0 nl nn nf nc lk ks y a3 hn60 hvrt) zyX8_isFigure mMX8_139 a3 zl8 rfl rfl (Nat.le_of_ble_eq_true rfl) ⟨Nat.le_of_ble_eq_true rfl, Nat.le_of_ble_eq_true rfl⟩ ⟨Nat.le_of_ble_eq_true rfl, Nat.le_of_ble_eq_true rfl⟩ dX8_pair_24 (fun r f168 H locs h169 hz hS => ?_)
        obtain ⟨rfl, k170⟩ := h169
        refine lv_if_ne (tgt := 33) hx hb dX8_pair_27 (by decide) (fun c171 => ?_) (fun c171 => ?_)
        · exact absurd c171 (by decide)
        refine lv_bipush (v := (-2)) hx hb dX8_pair_30 (by decide) ?_
        have a172 : f168 o = some (.inr (8, [.int 0, .int (-1), .int 0, .ref wev, .int (nI nl), .ref wnb, .int (nI nn), .ref wki, .ref wmy, .ref wce, .ref wiw, .ref wli, .ref wha, .ref wwt, .int (nI nf), .ref wfy, .ref wfk, .int (nI nc), .ref wem, .ref wna, .ref wpl, .ref whs, .long lk, .int (nI ks), .ref wk1, .ref wk2, .ref wk3])) := k170 _ _ a3 
        have a173 : f1 wev = some (.inl (cy 0, 8, .inl gv)) := k4 _ _ x_wev (z_ne x_wev x_o rfl)
        have a174 : f168 wev = some (.inl (cy 0, 8, .inl gv)) := k170 _ _ a173 
        have a175 : f1 wnb = some (.inl (cy 0, 12, .inl gu)) := k4 _ _ x_wnb (z_ne x_wnb x_o rfl)
        have a176 : f168 wnb = some (.inl (cy 0, 12, .inl gu)) := k170 _ _ a175 
        have a177 : f1 wki = some (.inl (cy 0, 60, .inl gk)) := k4 _ _ x_wki (z_ne x_wki x_o rfl)
        have a178 : f168 wki = some (.inl (cy 0, 60, .inl gk)) := k170 _ _ a177 
        have a179 : f1 wmy = some (.inl (cy 0, 60, .inl gm)) := k4 _ _ x_wmy (z_ne x_wmy x_o rfl)
        have a180 : f168 wmy = some (.inl (cy 0, 60, .inl gm)) := k170 _ _ a179 
        have a181 : f1 wce = some (.inl (cy 1, 960, .inr (.inl gc))) := k4 _ _ x_wce (z_ne x_wce x_o rfl)
        have a182 : f168 wce = some (.inl (cy 1, 960, .inr (.inl gc))) := k170 _ _ a181 
        have a183 : f1 wiw = some (.inl (cy 2, 60, .inl gw)) := k4 _ _ x_wiw (z_ne x_wiw x_o rfl)
        have a184 : f168 wiw = some (.inl (cy 2, 60, .inl gw)) := k170 _ _ a183 
        have a185 : f1 wli = some (.inl (cy 0, 60, .inl gl)) := k4 _ _ x_wli (z_ne x_wli x_o rfl)
        have a186 : f168 wli = some (.inl (cy 0, 60, .inl gl)) := k170 _ _ a185 
        have a187 : f1 wha = some (.inl (cy 0, 60, .inl gh)) := k4 _ _ x_wha (z_ne x_wha x_o rfl)
        have a188 : f168 wha = some (.inl (cy 0, 60, .inl gh)) := k170 _ _ a187 
        have a189 : f1 wwt = some (.inl (cy 1, 60, .inr (.inl gt))) := k4 _ _ x_wwt (z_ne x_wwt x_o rfl)
        have a190 : f168 wwt = some (.inl (cy 1, 60, .inr (.inl gt))) := k170 _ _ a189 
        have a191 : f1 wfy = some (.inl (cy 0, 6, .inl gy)) := k4 _ _ x_wfy (z_ne x_wfy x_o rfl)
        have a192 : f168 wfy = some (.inl (cy 0, 6, .inl gy)) := k170 _ _ a191 
        have a193 : f1 wfk = some (.inl (cy 0, 24, .inl gq)) := k4 _ _ x_wfk (z_ne x_wfk x_o rfl)
        have a194 : f168 wfk = some (.inl (cy 0, 24, .inl gq)) := k170 _ _ a193 
        have a195 : f1 wem = some (.inl (cy 0, 60, .inl ge1)) := k4 _ _ x_wem (z_ne x_wem x_o rfl)
        have a196 : f168 wem = some (.inl (cy 0, 60, .inl ge1)) := k170 _ _ a195 
        have a197 : f1 wna = some (.inl (cy 0, 60, .inl gn1)) := k4 _ _ x_wna (z_ne x_wna x_o rfl)
        have a198 : f168 wna = some (.inl (cy 0, 60, .inl gn1)) := k170 _ _ a197 
        have a199 : f1 wpl = some (.inl (cy 0, 60, .inl gp1)) := k4 _ _ x_wpl (z_ne x_wpl x_o rfl)
        have a200 : f168 wpl = some (.inl (cy 0, 60, .inl gp1)) := k170 _ _ a199 
        have a201 : f1 whs = some (.inl (cy 0, 4, .inl gs)) := k4 _ _ x_whs (z_ne x_whs x_o rfl)
        have a202 : f168 whs = some (.inl (cy 0, 4, .inl gs)) := k170 _ _ a201 
        have a203 : f1 wk1 = some (.inl (cy 0, 40, .inl gx1)) := k4 _ _ x_wk1 (z_ne x_wk1 x_o rfl)
        have a204 : f168 wk1 = some (.inl (cy 0, 40, .inl gx1)) := k170 _ _ a203 
        have a205 : f1 wk2 = some (.inl (cy 0, 40, .inl gx2)) := k4 _ _ x_wk2 (z_ne x_wk2 x_o rfl)
        have a206 : f168 wk2 = some (.inl (cy 0, 40, .inl gx2)) := k170 _ _ a205 
        have a207 : f1 wk3 = some (.inl (cy 0, 40, .inl gx3)) := k4 _ _ x_wk3 (z_ne x_wk3 x_o rfl)
        have a208 : f168 wk3 = some (.inl (cy 0, 40, .inl gx3)) := k170 _ _ a207 
        have hq : q_pair nn x y = ((-2), 0, (-1), 0) := by simp [q_pair, oF_m1 nn, hOlf, hOrt, c5, c6, c171]
        exact z_iret C hr rfl hz hS ⟨0, (-1), 0, nl, nn, nf, nc, lk, ks, gv, gu, gk, gm, gc, gw, gl, gh, gt, gy, gq, ge1, gn1, gp1, gs, gx1, gx2, gx3, ln, fz, sq, (by rw [hq]), (by rw [hq]), (by rw [hq]), (by rw [hq]), (by rw [hq]; exact (zEV0 gv).symm), rfl, rfl, (by rw [if_neg (by decide)]), (by rw [if_neg (by decide)]), (by rw [if_neg (by decide)]), (by rw [if_neg (by decide)]), (by rw [if_neg (by decide)]), (zGC_no (by decide)), rfl, rfl, rfl, rfl, rfl, rfl, rfl, rfl, rfl, rfl, rfl, rfl, rfl, ⟨a172, a174, a176, a178, a180, a182, a184, a186, a188, a190, a192, a194, a196, a198, a200, a202, a204, a206, a208, hn60, hl12, hf6, hc60, hs40, hMP, hgy, hfz, hgs, hME, hlk, hgw, hfd, n_wki_wmy, n_wki_wiw, n_wki_wli, n_wki_wha, n_wki_wem, n_wki_wna, n_wki_wpl, n_wmy_wiw, n_wmy_wli, n_wmy_wha, n_wmy_wem, n_wmy_wna, n_wmy_wpl, n_wiw_wli, n_wiw_wha, n_wiw_wem, n_wiw_wna, n_wiw_wpl, n_wli_wha, n_wli_wem, n_wli_wna, n_wli_wpl, n_wha_wem, n_wha_wna, n_wha_wpl, n_wem_wna, n_wem_wpl, n_wna_wpl, n_wk1_wk2, n_wk1_wk3, n_wk2_wk3⟩⟩ (Nat.le_of_ble_eq_true rfl) (Nat.le_of_ble_eq_true rfl) dX8_pair_32
  · refine lv_aload_n hx hb dX8_pair_9 rfl (lv_at hl 0 rfl) ?_
    refine lv_iload_n hx hb dX8_pair_10 rfl (lv_at hl 1 rfl) ?_
    rcases z_findi x nn with ⟨jl, hjl, hvlf⟩ | hvlf
    · have hOlf : oF nn x = true := oF_t hn60 hjl hvlf
      have hNlf : ¬ x = (-1) := by rw [hvlf]; exact z_nim1 (by omega)
      refine z_callVi (As := [.int x]) C hz hS hA hl (k_X8_isFigure_A l D cy f1 o wev wnb wki wmy wce wiw wli wha wwt wfy wfk wem wna wpl whs wk1 wk2 wk3 0 (-1) 0 nl nn nf nc lk ks x jl a3 hn60 hvlf hjl) zyX8_isFigure mMX8_139 a3 zl8 rfl rfl (Nat.le_of_ble_eq_true rfl) ⟨Nat.le_of_ble_eq_true rfl, Nat.le_of_ble_eq_true rfl⟩ ⟨Nat.le_of_ble_eq_true rfl, Nat.le_of_ble_eq_true rfl⟩ dX8_pair_11 (fun r f209 H locs h210 hz hS => ?_)
      obtain ⟨rfl, k211⟩ := h210
      refine lv_if_eq (tgt := 30) hx hb dX8_pair_14 (by decide) (fun c212 => ?_) (fun c212 => ?_)
      · exact absurd c212 (by decide)
      refine lv_iload_n hx hb dX8_pair_17 rfl (lv_at hl 2 rfl) ?_
      refine lv_iconst (v := (-1)) hx hb dX8_pair_18 (by decide) ?_
      refine lv_icmp_eq (tgt := 33) hx hb dX8_pair_19 (by decide) (fun c213 => ?_) (fun c213 => ?_)
      · have hOrt : oF nn y = true := oF_m c213
        refine lv_aload_n hx hb dX8_pair_33 rfl (lv_at hl 0 rfl) ?_
        have a214 : f209 o = some (.inr (8, [.int 0, .int (-1), .int 0, .ref wev, .int (nI nl), .ref wnb, .int (nI nn), .ref wki, .ref wmy, .ref wce, .ref wiw, .ref wli, .ref wha, .ref wwt, .int (nI nf), .ref wfy, .ref wfk, .int (nI nc), .ref wem, .ref wna, .ref wpl, .ref whs, .long lk, .int (nI ks), .ref wk1, .ref wk2, .ref wk3])) := k211 _ _ a3 
        refine z_get (v := .int (nI nn)) C hz a214 zl8 mFX8_83 (by decide) rfl dX8_pair_34 ?_
        refine lv_bipush (v := 60) hx hb dX8_pair_37 (by decide) ?_
        refine lv_icmp_ne (tgt := 45) hx hb dX8_pair_39 (by decide) (fun c215 => ?_) (fun c215 => ?_)
        · replace c215 : ¬ (nn = 60) := fun h => c215 ((nI_eq (a := nn) (b := 60) (by omega) (by omega)).mpr h)
          have h60 : nn < 60 := by omega
          refine lv_iload_n hx hb dX8_pair_45 rfl (lv_at hl 1 rfl) ?_
          refine lv_iconst (v := (-1)) hx hb dX8_pair_46 (by decide) ?_
          refine lv_icmp_ne (tgt := 58) hx hb dX8_pair_47 (by decide) (fun c216 => ?_) (fun c216 => ?_)
          rotate_left
          · exact absurd c216 (by rw [hvlf]; exact z_nim1 (by omega))
          refine lv_aload_n hx hb dX8_pair_58 rfl (lv_at hl 0 rfl) ?_
          refine lv_iconst (v := 4) hx hb dX8_pair_59 (by decide) ?_
          have a217 : f1 wki = some (.inl (cy 0, 60, .inl gk)) := k4 _ _ x_wki (z_ne x_wki x_o rfl)
          have a218 : f209 wki = some (.inl (cy 0, 60, .inl gk)) := k211 _ _ a217 
          have a219 : f1 wmy = some (.inl (cy 0, 60, .inl gm)) := k4 _ _ x_wmy (z_ne x_wmy x_o rfl)
          have a220 : f209 wmy = some (.inl (cy 0, 60, .inl gm)) := k211 _ _ a219 
          refine z_callVv (As := [.int 4]) C hz hS hA hl (k_X8_start l D cy f209 o wev wnb wki wmy wce wiw wli wha wwt wfy wfk wem wna wpl whs wk1 wk2 wk3 0 (-1) 0 nl nn nf nc lk ks gk gm 4 a214 a218 a220 (by omega) n_wki_wmy) zyX8_start mMX8_119 a214 zl8 rfl rfl (Nat.le_of_ble_eq_true rfl) ⟨Nat.le_of_ble_eq_true rfl, Nat.le_of_ble_eq_true rfl⟩ ⟨Nat.le_of_ble_eq_true rfl, Nat.le_of_ble_eq_true rfl⟩ dX8_pair_60 (fun  f221 H locs h222 hz hS => ?_)
          obtain ⟨a223, a224, k225⟩ := h222
          refine lv_aload_n hx hb dX8_pair_63 rfl (lv_at hl 0 rfl) ?_
          refine lv_iload_n hx hb dX8_pair_64 rfl (lv_at hl 1 rfl) ?_
          refine lv_i2l (v := x.toInt64) hx hb dX8_pair_65 rfl ?_
          have a226 : f221 o = some (.inr (8, [.int 0, .int (-1), .int 0, .ref wev, .int (nI nl), .ref wnb, .int (nI nn), .ref wki, .ref wmy, .ref wce, .ref wiw, .ref wli, .ref wha, .ref wwt, .int (nI nf), .ref wfy, .ref wfk, .int (nI nc), .ref wem, .ref wna, .ref wpl, .ref whs, .long lk, .int (nI ks), .ref wk1, .ref wk2, .ref wk3])) := k225 _ _ a214 (z_ne a214 a218 rfl) (z_ne a214 a220 rfl)
          have a227 : f1 wce = some (.inl (cy 1, 960, .inr (.inl gc))) := k4 _ _ x_wce (z_ne x_wce x_o rfl)
          have a228 : f209 wce = some (.inl (cy 1, 960, .inr (.inl gc))) := k211 _ _ a227 
          have a229 : f221 wce = some (.inl (cy 1, 960, .inr (.inl gc))) := k225 _ _ a228 (z_ne a228 a218 rfl) (z_ne a228 a220 rfl)
          refine z_callVv (As := [.long x.toInt64]) C hz hS hA hl (k_X8_part l D cy f221 o wev wnb wki wmy wce wiw wli wha wwt wfy wfk wem wna wpl whs wk1 wk2 wk3 0 (-1) 0 nl nn nf nc lk ks gc (upd gm nn 0) x.toInt64 0 a226 a229 a224 (by omega) pk_us (by omega)) zyX8_part mMX8_127 a226 zl8 rfl rfl (Nat.le_of_ble_eq_true rfl) ⟨Nat.le_of_ble_eq_true rfl, Nat.le_of_ble_eq_true rfl⟩ ⟨Nat.le_of_ble_eq_true rfl, Nat.le_of_ble_eq_true rfl⟩ dX8_pair_66 (fun  f230 H locs h231 hz hS => ?_)
          obtain ⟨a232, a233, k234⟩ := h231
          refine lv_aload_n hx hb dX8_pair_69 rfl (lv_at hl 0 rfl) ?_
          refine lv_iload_n hx hb dX8_pair_70 rfl (lv_at hl 2 rfl) ?_
          refine lv_i2l (v := y.toInt64) hx hb dX8_pair_71 rfl ?_
          have a235 : f230 o = some (.inr (8, [.int 0, .int (-1), .int 0, .ref wev, .int (nI nl), .ref wnb, .int (nI nn), .ref wki, .ref wmy, .ref wce, .ref wiw, .ref wli, .ref wha, .ref wwt, .int (nI nf), .ref wfy, .ref wfk, .int (nI nc), .ref wem, .ref wna, .ref wpl, .ref whs, .long lk, .int (nI ks), .ref wk1, .ref wk2, .ref wk3])) := k234 _ _ a226 (z_ne a226 a229 rfl) (z_ne a226 a224 rfl)
          refine z_callVv (As := [.long y.toInt64]) C hz hS hA hl (k_X8_part l D cy f230 o wev wnb wki wmy wce wiw wli wha wwt wfy wfk wem wna wpl whs wk1 wk2 wk3 0 (-1) 0 nl nn nf nc lk ks (vp_updL gc (16 * nn + 0) x.toInt64) (upd (upd gm nn 0) nn (nI (0 + 1))) y.toInt64 1 a235 a232 a233 (by omega) pk_us (by omega)) zyX8_part mMX8_127 a235 zl8 rfl rfl (Nat.le_of_ble_eq_true rfl) ⟨Nat.le_of_ble_eq_true rfl, Nat.le_of_ble_eq_true rfl⟩ ⟨Nat.le_of_ble_eq_true rfl, Nat.le_of_ble_eq_true rfl⟩ dX8_pair_72 (fun  f236 H locs h237 hz hS => ?_)
          obtain ⟨a238, a239, k240⟩ := h237
          refine lv_aload_n hx hb dX8_pair_75 rfl (lv_at hl 0 rfl) ?_
          have a241 : f236 o = some (.inr (8, [.int 0, .int (-1), .int 0, .ref wev, .int (nI nl), .ref wnb, .int (nI nn), .ref wki, .ref wmy, .ref wce, .ref wiw, .ref wli, .ref wha, .ref wwt, .int (nI nf), .ref wfy, .ref wfk, .int (nI nc), .ref wem, .ref wna, .ref wpl, .ref whs, .long lk, .int (nI ks), .ref wk1, .ref wk2, .ref wk3])) := k240 _ _ a235 (z_ne a235 a232 rfl) (z_ne a235 a233 rfl)
          have a242 : f230 wki = some (.inl (cy 0, 60, .inl (upd gk nn 4))) := k234 _ _ a223 (z_ne a223 a229 rfl) n_wki_wmy
          have a243 : f236 wki = some (.inl (cy 0, 60, .inl (upd gk nn 4))) := k240 _ _ a242 (z_ne a242 a232 rfl) n_wki_wmy
          have a244 : f1 wli = some (.inl (cy 0, 60, .inl gl)) := k4 _ _ x_wli (z_ne x_wli x_o rfl)
          have a245 : f209 wli = some (.inl (cy 0, 60, .inl gl)) := k211 _ _ a244 
          have a246 : f221 wli = some (.inl (cy 0, 60, .inl gl)) := k225 _ _ a245 (Ne.symm n_wki_wli) (Ne.symm n_wmy_wli)
          have a247 : f230 wli = some (.inl (cy 0, 60, .inl gl)) := k234 _ _ a246 (z_ne a246 a229 rfl) (Ne.symm n_wmy_wli)
          have a248 : f236 wli = some (.inl (cy 0, 60, .inl gl)) := k240 _ _ a247 (z_ne a247 a232 rfl) (Ne.symm n_wmy_wli)
          have a249 : f1 wha = some (.inl (cy 0, 60, .inl gh)) := k4 _ _ x_wha (z_ne x_wha x_o rfl)
          have a250 : f209 wha = some (.inl (cy 0, 60, .inl gh)) := k211 _ _ a249 
          have a251 : f221 wha = some (.inl (cy 0, 60, .inl gh)) := k225 _ _ a250 (Ne.symm n_wki_wha) (Ne.symm n_wmy_wha)
          have a252 : f230 wha = some (.inl (cy 0, 60, .inl gh)) := k234 _ _ a251 (z_ne a251 a229 rfl) (Ne.symm n_wmy_wha)
          have a253 : f236 wha = some (.inl (cy 0, 60, .inl gh)) := k240 _ _ a252 (z_ne a252 a232 rfl) (Ne.symm n_wmy_wha)
          have hc0 := (show vp_updL (vp_updL gc (16 * nn + 0) x.toInt64) (16 * nn + (0 + 1)) y.toInt64 (16 * nn) = lN jl by rw [pk_uLn (by omega)]; exact (pk_uLs (k := 16 * nn + 0)).trans (z_cr (by omega) hvlf))
          have hc1 := (show vp_updL (vp_updL gc (16 * nn + 0) x.toInt64) (16 * nn + (0 + 1)) y.toInt64 (16 * nn + 1) = y.toInt64 from pk_uLs)
          have hcr : y.toInt64 = (-1) ∨ ∃ j9, j9 < nn ∧ y.toInt64 = lN j9 := (Or.inl (by rw [c213]; exact z_m64))
          refine z_callVi (As := []) C hz hS hA hl (k_X8_made l D cy f236 o wev wnb wki wmy wce wiw wli wha wwt wfy wfk wem wna wpl whs wk1 wk2 wk3 0 (-1) 0 nl nn nf nc lk ks (upd gk nn 4) (upd (upd (upd gm nn 0) nn (nI (0 + 1))) nn (nI (1 + 1))) (vp_updL (vp_updL gc (16 * nn + 0) x.toInt64) (16 * nn + 1) y.toInt64) gl gh ln 2 a241 a243 a239 a238 a248 a253 (by omega) (zMP_keep hMP (fun i9 h9 => by simp only [upd, if_neg (show ¬ i9 = nn by omega)]) (fun i9 h9 => by simp only [upd, if_neg (show ¬ i9 = nn by omega)]) (fun i9 h9 j9 h8 => by simp (disch := omega) only [pk_uLn])) pk_us (by omega) (fun _ k9 h9 => by rcases (show k9 = 0 ∨ k9 = 1 by omega) with rfl | rfl; exact Or.inr ⟨jl, by omega, hc0⟩; rw [hc1]; exact hcr.elim Or.inl (fun ⟨j8, h8, e8⟩ => Or.inr ⟨j8, by omega, e8⟩)) n_wki_wmy n_wki_wli n_wki_wha n_wmy_wli n_wmy_wha n_wli_wha) zyX8_made mMX8_131 a241 zl8 rfl rfl (Nat.le_of_ble_eq_true rfl) ⟨Nat.le_of_ble_eq_true rfl, Nat.le_of_ble_eq_true rfl⟩ ⟨Nat.le_of_ble_eq_true rfl, Nat.le_of_ble_eq_true rfl⟩ dX8_pair_76 (fun r f254 H locs h255 hz hS => ?_)
          obtain ⟨gl_256, rfl, a257, a258, a259, k260⟩ := h255
          have a261 : f1 wev = some (.inl (cy 0, 8, .inl gv)) := k4 _ _ x_wev (z_ne x_wev x_o rfl)
          have a262 : f209 wev = some (.inl (cy 0, 8, .inl gv)) := k211 _ _ a261 
          have a263 : f221 wev = some (.inl (cy 0, 8, .inl gv)) := k225 _ _ a262 (z_ne a262 a218 rfl) (z_ne a262 a220 rfl)
          have a264 : f230 wev = some (.inl (cy 0, 8, .inl gv)) := k234 _ _ a263 (z_ne a263 a229 rfl) (z_ne a263 a224 rfl)
          have a265 : f236 wev = some (.inl (cy 0, 8, .inl gv)) := k240 _ _ a264 (z_ne a264 a232 rfl) (z_ne a264 a233 rfl)
          have a266 : f254 wev = some (.inl (cy 0, 8, .inl gv)) := k260 _ _ a265 (z_ne a265 a241 rfl) (z_ne a265 a248 rfl) (z_ne a265 a253 rfl)
          have a267 : f1 wnb = some (.inl (cy 0, 12, .inl gu)) := k4 _ _ x_wnb (z_ne x_wnb x_o rfl)
          have a268 : f209 wnb = some (.inl (cy 0, 12, .inl gu)) := k211 _ _ a267 
          have a269 : f221 wnb = some (.inl (cy 0, 12, .inl gu)) := k225 _ _ a268 (z_ne a268 a218 rfl) (z_ne a268 a220 rfl)
          have a270 : f230 wnb = some (.inl (cy 0, 12, .inl gu)) := k234 _ _ a269 (z_ne a269 a229 rfl) (z_ne a269 a224 rfl)
          have a271 : f236 wnb = some (.inl (cy 0, 12, .inl gu)) := k240 _ _ a270 (z_ne a270 a232 rfl) (z_ne a270 a233 rfl)
          have a272 : f254 wnb = some (.inl (cy 0, 12, .inl gu)) := k260 _ _ a271 (z_ne a271 a241 rfl) (z_ne a271 a248 rfl) (z_ne a271 a253 rfl)
          have a273 : f254 wki = some (.inl (cy 0, 60, .inl (upd gk nn 4))) := k260 _ _ a243 (z_ne a243 a241 rfl) n_wki_wli n_wki_wha
          have a274 : f254 wmy = some (.inl (cy 0, 60, .inl (upd (upd (upd gm nn 0) nn (nI (0 + 1))) nn (nI (1 + 1))))) := k260 _ _ a239 (z_ne a239 a241 rfl) n_wmy_wli n_wmy_wha
          have a275 : f254 wce = some (.inl (cy 1, 960, .inr (.inl (vp_updL (vp_updL gc (16 * nn + 0) x.toInt64) (16 * nn + 1) y.toInt64)))) := k260 _ _ a238 (z_ne a238 a241 rfl) (z_ne a238 a248 rfl) (z_ne a238 a253 rfl)
          have a276 : f1 wiw = some (.inl (cy 2, 60, .inl gw)) := k4 _ _ x_wiw (z_ne x_wiw x_o rfl)
          have a277 : f209 wiw = some (.inl (cy 2, 60, .inl gw)) := k211 _ _ a276 
          have a278 : f221 wiw = some (.inl (cy 2, 60, .inl gw)) := k225 _ _ a277 (Ne.symm n_wki_wiw) (Ne.symm n_wmy_wiw)
          have a279 : f230 wiw = some (.inl (cy 2, 60, .inl gw)) := k234 _ _ a278 (z_ne a278 a229 rfl) (Ne.symm n_wmy_wiw)
          have a280 : f236 wiw = some (.inl (cy 2, 60, .inl gw)) := k240 _ _ a279 (z_ne a279 a232 rfl) (Ne.symm n_wmy_wiw)
          have a281 : f254 wiw = some (.inl (cy 2, 60, .inl gw)) := k260 _ _ a280 (z_ne a280 a241 rfl) n_wiw_wli n_wiw_wha
          have a282 : f1 wwt = some (.inl (cy 1, 60, .inr (.inl gt))) := k4 _ _ x_wwt (z_ne x_wwt x_o rfl)
          have a283 : f209 wwt = some (.inl (cy 1, 60, .inr (.inl gt))) := k211 _ _ a282 
          have a284 : f221 wwt = some (.inl (cy 1, 60, .inr (.inl gt))) := k225 _ _ a283 (z_ne a283 a218 rfl) (z_ne a283 a220 rfl)
          have a285 : f230 wwt = some (.inl (cy 1, 60, .inr (.inl gt))) := k234 _ _ a284 (z_ne a284 a229 rfl) (z_ne a284 a224 rfl)
          have a286 : f236 wwt = some (.inl (cy 1, 60, .inr (.inl gt))) := k240 _ _ a285 (z_ne a285 a232 rfl) (z_ne a285 a233 rfl)
          have a287 : f254 wwt = some (.inl (cy 1, 60, .inr (.inl gt))) := k260 _ _ a286 (z_ne a286 a241 rfl) (z_ne a286 a248 rfl) (z_ne a286 a253 rfl)
          have a288 : f1 wfy = some (.inl (cy 0, 6, .inl gy)) := k4 _ _ x_wfy (z_ne x_wfy x_o rfl)
          have a289 : f209 wfy = some (.inl (cy 0, 6, .inl gy)) := k211 _ _ a288 
          have a290 : f221 wfy = some (.inl (cy 0, 6, .inl gy)) := k225 _ _ a289 (z_ne a289 a218 rfl) (z_ne a289 a220 rfl)
          have a291 : f230 wfy = some (.inl (cy 0, 6, .inl gy)) := k234 _ _ a290 (z_ne a290 a229 rfl) (z_ne a290 a224 rfl)
          have a292 : f236 wfy = some (.inl (cy 0, 6, .inl gy)) := k240 _ _ a291 (z_ne a291 a232 rfl) (z_ne a291 a233 rfl)
          have a293 : f254 wfy = some (.inl (cy 0, 6, .inl gy)) := k260 _ _ a292 (z_ne a292 a241 rfl) (z_ne a292 a248 rfl) (z_ne a292 a253 rfl)
          have a294 : f1 wfk = some (.inl (cy 0, 24, .inl gq)) := k4 _ _ x_wfk (z_ne x_wfk x_o rfl)
          have a295 : f209 wfk = some (.inl (cy 0, 24, .inl gq)) := k211 _ _ a294 
          have a296 : f221 wfk = some (.inl (cy 0, 24, .inl gq)) := k225 _ _ a295 (z_ne a295 a218 rfl) (z_ne a295 a220 rfl)
          have a297 : f230 wfk = some (.inl (cy 0, 24, .inl gq)) := k234 _ _ a296 (z_ne a296 a229 rfl) (z_ne a296 a224 rfl)
          have a298 : f236 wfk = some (.inl (cy 0, 24, .inl gq)) := k240 _ _ a297 (z_ne a297 a232 rfl) (z_ne a297 a233 rfl)
          have a299 : f254 wfk = some (.inl (cy 0, 24, .inl gq)) := k260 _ _ a298 (z_ne a298 a241 rfl) (z_ne a298 a248 rfl) (z_ne a298 a253 rfl)
          have a300 : f1 wem = some (.inl (cy 0, 60, .inl ge1)) := k4 _ _ x_wem (z_ne x_wem x_o rfl)
          have a301 : f209 wem = some (.inl (cy 0, 60, .inl ge1)) := k211 _ _ a300 
          have a302 : f221 wem = some (.inl (cy 0, 60, .inl ge1)) := k225 _ _ a301 (Ne.symm n_wki_wem) (Ne.symm n_wmy_wem)
          have a303 : f230 wem = some (.inl (cy 0, 60, .inl ge1)) := k234 _ _ a302 (z_ne a302 a229 rfl) (Ne.symm n_wmy_wem)
          have a304 : f236 wem = some (.inl (cy 0, 60, .inl ge1)) := k240 _ _ a303 (z_ne a303 a232 rfl) (Ne.symm n_wmy_wem)
          have a305 : f254 wem = some (.inl (cy 0, 60, .inl ge1)) := k260 _ _ a304 (z_ne a304 a241 rfl) (Ne.symm n_wli_wem) (Ne.symm n_wha_wem)
          have a306 : f1 wna = some (.inl (cy 0, 60, .inl gn1)) := k4 _ _ x_wna (z_ne x_wna x_o rfl)
          have a307 : f209 wna = some (.inl (cy 0, 60, .inl gn1)) := k211 _ _ a306 
          have a308 : f221 wna = some (.inl (cy 0, 60, .inl gn1)) := k225 _ _ a307 (Ne.symm n_wki_wna) (Ne.symm n_wmy_wna)
          have a309 : f230 wna = some (.inl (cy 0, 60, .inl gn1)) := k234 _ _ a308 (z_ne a308 a229 rfl) (Ne.symm n_wmy_wna)
          have a310 : f236 wna = some (.inl (cy 0, 60, .inl gn1)) := k240 _ _ a309 (z_ne a309 a232 rfl) (Ne.symm n_wmy_wna)
          have a311 : f254 wna = some (.inl (cy 0, 60, .inl gn1)) := k260 _ _ a310 (z_ne a310 a241 rfl) (Ne.symm n_wli_wna) (Ne.symm n_wha_wna)
          have a312 : f1 wpl = some (.inl (cy 0, 60, .inl gp1)) := k4 _ _ x_wpl (z_ne x_wpl x_o rfl)
          have a313 : f209 wpl = some (.inl (cy 0, 60, .inl gp1)) := k211 _ _ a312 
          have a314 : f221 wpl = some (.inl (cy 0, 60, .inl gp1)) := k225 _ _ a313 (Ne.symm n_wki_wpl) (Ne.symm n_wmy_wpl)
          have a315 : f230 wpl = some (.inl (cy 0, 60, .inl gp1)) := k234 _ _ a314 (z_ne a314 a229 rfl) (Ne.symm n_wmy_wpl)
          have a316 : f236 wpl = some (.inl (cy 0, 60, .inl gp1)) := k240 _ _ a315 (z_ne a315 a232 rfl) (Ne.symm n_wmy_wpl)
          have a317 : f254 wpl = some (.inl (cy 0, 60, .inl gp1)) := k260 _ _ a316 (z_ne a316 a241 rfl) (Ne.symm n_wli_wpl) (Ne.symm n_wha_wpl)
          have a318 : f1 whs = some (.inl (cy 0, 4, .inl gs)) := k4 _ _ x_whs (z_ne x_whs x_o rfl)
          have a319 : f209 whs = some (.inl (cy 0, 4, .inl gs)) := k211 _ _ a318 
          have a320 : f221 whs = some (.inl (cy 0, 4, .inl gs)) := k225 _ _ a319 (z_ne a319 a218 rfl) (z_ne a319 a220 rfl)
          have a321 : f230 whs = some (.inl (cy 0, 4, .inl gs)) := k234 _ _ a320 (z_ne a320 a229 rfl) (z_ne a320 a224 rfl)
          have a322 : f236 whs = some (.inl (cy 0, 4, .inl gs)) := k240 _ _ a321 (z_ne a321 a232 rfl) (z_ne a321 a233 rfl)
          have a323 : f254 whs = some (.inl (cy 0, 4, .inl gs)) := k260 _ _ a322 (z_ne a322 a241 rfl) (z_ne a322 a248 rfl) (z_ne a322 a253 rfl)
          have a324 : f1 wk1 = some (.inl (cy 0, 40, .inl gx1)) := k4 _ _ x_wk1 (z_ne x_wk1 x_o rfl)
          have a325 : f209 wk1 = some (.inl (cy 0, 40, .inl gx1)) := k211 _ _ a324 
          have a326 : f221 wk1 = some (.inl (cy 0, 40, .inl gx1)) := k225 _ _ a325 (z_ne a325 a218 rfl) (z_ne a325 a220 rfl)
          have a327 : f230 wk1 = some (.inl (cy 0, 40, .inl gx1)) := k234 _ _ a326 (z_ne a326 a229 rfl) (z_ne a326 a224 rfl)
          have a328 : f236 wk1 = some (.inl (cy 0, 40, .inl gx1)) := k240 _ _ a327 (z_ne a327 a232 rfl) (z_ne a327 a233 rfl)
          have a329 : f254 wk1 = some (.inl (cy 0, 40, .inl gx1)) := k260 _ _ a328 (z_ne a328 a241 rfl) (z_ne a328 a248 rfl) (z_ne a328 a253 rfl)
          have a330 : f1 wk2 = some (.inl (cy 0, 40, .inl gx2)) := k4 _ _ x_wk2 (z_ne x_wk2 x_o rfl)
          have a331 : f209 wk2 = some (.inl (cy 0, 40, .inl gx2)) := k211 _ _ a330 
          have a332 : f221 wk2 = some (.inl (cy 0, 40, .inl gx2)) := k225 _ _ a331 (z_ne a331 a218 rfl) (z_ne a331 a220 rfl)
          have a333 : f230 wk2 = some (.inl (cy 0, 40, .inl gx2)) := k234 _ _ a332 (z_ne a332 a229 rfl) (z_ne a332 a224 rfl)
          have a334 : f236 wk2 = some (.inl (cy 0, 40, .inl gx2)) := k240 _ _ a333 (z_ne a333 a232 rfl) (z_ne a333 a233 rfl)
          have a335 : f254 wk2 = some (.inl (cy 0, 40, .inl gx2)) := k260 _ _ a334 (z_ne a334 a241 rfl) (z_ne a334 a248 rfl) (z_ne a334 a253 rfl)
          have a336 : f1 wk3 = some (.inl (cy 0, 40, .inl gx3)) := k4 _ _ x_wk3 (z_ne x_wk3 x_o rfl)
          have a337 : f209 wk3 = some (.inl (cy 0, 40, .inl gx3)) := k211 _ _ a336 
          have a338 : f221 wk3 = some (.inl (cy 0, 40, .inl gx3)) := k225 _ _ a337 (z_ne a337 a218 rfl) (z_ne a337 a220 rfl)
          have a339 : f230 wk3 = some (.inl (cy 0, 40, .inl gx3)) := k234 _ _ a338 (z_ne a338 a229 rfl) (z_ne a338 a224 rfl)
          have a340 : f236 wk3 = some (.inl (cy 0, 40, .inl gx3)) := k240 _ _ a339 (z_ne a339 a232 rfl) (z_ne a339 a233 rfl)
          have a341 : f254 wk3 = some (.inl (cy 0, 40, .inl gx3)) := k260 _ _ a340 (z_ne a340 a241 rfl) (z_ne a340 a248 rfl) (z_ne a340 a253 rfl)
          have hgpf : ∀ j, j < 2 → (vp_updL (vp_updL gc (16 * nn + 0) x.toInt64) (16 * nn + 1) y.toInt64) (16 * nn + j) = (q2 x.toInt64 y.toInt64) j := (z_m2 _ _ _ _)
          have hgkp : ∀ i, i < nn → ∀ j, j < 16 → (vp_updL (vp_updL gc (16 * nn + 0) x.toInt64) (16 * nn + 1) y.toInt64) (16 * i + j) = gc (16 * i + j) := (fun i9 h9 j9 h8 => by simp (disch := omega) only [pk_uLn])
          have hq : q_pair nn x y = (nI nn, 0, (-1), 0) := by simp [q_pair, oF_m1 nn, h60, hOlf, hNlf, hOrt, c5, c212, c213, c216]
          exact z_iret C hr rfl hz hS ⟨0, (-1), 0, nl, (nn + 1), nf, nc, lk, ks, gv, gu, (upd gk nn 4), (upd (upd (upd gm nn 0) nn (nI (0 + 1))) nn (nI (1 + 1))), (vp_updL (vp_updL gc (16 * nn + 0) x.toInt64) (16 * nn + 1) y.toInt64), gw, gl_256, (upd gh nn (zHash ((upd gk nn 4) nn) nn 2 (fun k => (vp_updL (vp_updL gc (16 * nn + 0) x.toInt64) (16 * nn + 1) y.toInt64) (16 * nn + k)) gh)), gt, gy, gq, ge1, gn1, gp1, gs, gx1, gx2, gx3, (va_up ln nn 2), fz, sq, (by rw [hq]), (by rw [hq]), (by rw [hq]), (by rw [hq]), (by rw [hq]; exact (zEV0 gv).symm), rfl, rfl, (by rw [if_pos (nI_pos' (by omega))]), (by rw [if_pos (nI_pos' (by omega))]; exact z_uv _ _ _), (by rw [if_pos (nI_pos' (by omega))]), (by rw [if_pos (nI_pos' (by omega))]; exact z_gw0 hgw), (by rw [if_pos (nI_pos' (by omega))]; exact z_hs1 pk_us rfl hgpf), ⟨hgkp, fun _ => hgpf⟩, rfl, rfl, rfl, rfl, rfl, rfl, rfl, rfl, rfl, rfl, rfl, rfl, rfl, ⟨a257, a266, a272, a273, a274, a275, a281, a258, a259, a287, a293, a299, a305, a311, a317, a323, a329, a335, a341, (by omega), hl12, hf6, hc60, hs40, (zMP_new (zMP_keep hMP (fun i9 h9 => by simp only [upd, if_neg (show ¬ i9 = nn by omega)]) (fun i9 h9 => by simp only [upd, if_neg (show ¬ i9 = nn by omega)]) (fun i9 h9 j9 h8 => by simp (disch := omega) only [pk_uLn])) pk_us (by rw [pk_us]; exact ⟨by omega, fun _ => ⟨rfl, ⟨jl, hjl, hc0⟩, by rw [hc1]; exact hcr⟩, fun h9 => absurd h9 (by decide), fun h9 => absurd h9 (by decide)⟩)), hgy, hfz, hgs, hME, hlk, (fun i9 h9 => hgw i9 (by omega)), hfd, n_wki_wmy, n_wki_wiw, n_wki_wli, n_wki_wha, n_wki_wem, n_wki_wna, n_wki_wpl, n_wmy_wiw, n_wmy_wli, n_wmy_wha, n_wmy_wem, n_wmy_wna, n_wmy_wpl, n_wiw_wli, n_wiw_wha, n_wiw_wem, n_wiw_wna, n_wiw_wpl, n_wli_wha, n_wli_wem, n_wli_wna, n_wli_wpl, n_wha_wem, n_wha_wna, n_wha_wpl, n_wem_wna, n_wem_wpl, n_wna_wpl, n_wk1_wk2, n_wk1_wk3, n_wk2_wk3⟩⟩ (Nat.le_of_ble_eq_true rfl) (Nat.le_of_ble_eq_true rfl) dX8_pair_79
        · replace c215 : (nn = 60) := (nI_eq (a := nn) (b := 60) (by omega) (by omega)).mp c215
          have h60 : ¬ nn < 60 := by omega
          refine lv_bipush (v := (-3)) hx hb dX8_pair_42 (by decide) ?_
          have a342 : f1 wev = some (.inl (cy 0, 8, .inl gv)) := k4 _ _ x_wev (z_ne x_wev x_o rfl)
          have a343 : f209 wev = some (.inl (cy 0, 8, .inl gv)) := k211 _ _ a342 
          have a344 : f1 wnb = some (.inl (cy 0, 12, .inl gu)) := k4 _ _ x_wnb (z_ne x_wnb x_o rfl)
          have a345 : f209 wnb = some (.inl (cy 0, 12, .inl gu)) := k211 _ _ a344 
          have a346 : f1 wki = some (.inl (cy 0, 60, .inl gk)) := k4 _ _ x_wki (z_ne x_wki x_o rfl)
          have a347 : f209 wki = some (.inl (cy 0, 60, .inl gk)) := k211 _ _ a346 
          have a348 : f1 wmy = some (.inl (cy 0, 60, .inl gm)) := k4 _ _ x_wmy (z_ne x_wmy x_o rfl)
          have a349 : f209 wmy = some (.inl (cy 0, 60, .inl gm)) := k211 _ _ a348 
          have a350 : f1 wce = some (.inl (cy 1, 960, .inr (.inl gc))) := k4 _ _ x_wce (z_ne x_wce x_o rfl)
          have a351 : f209 wce = some (.inl (cy 1, 960, .inr (.inl gc))) := k211 _ _ a350 
          have a352 : f1 wiw = some (.inl (cy 2, 60, .inl gw)) := k4 _ _ x_wiw (z_ne x_wiw x_o rfl)
          have a353 : f209 wiw = some (.inl (cy 2, 60, .inl gw)) := k211 _ _ a352 
          have a354 : f1 wli = some (.inl (cy 0, 60, .inl gl)) := k4 _ _ x_wli (z_ne x_wli x_o rfl)
          have a355 : f209 wli = some (.inl (cy 0, 60, .inl gl)) := k211 _ _ a354 
          have a356 : f1 wha = some (.inl (cy 0, 60, .inl gh)) := k4 _ _ x_wha (z_ne x_wha x_o rfl)
          have a357 : f209 wha = some (.inl (cy 0, 60, .inl gh)) := k211 _ _ a356 
          have a358 : f1 wwt = some (.inl (cy 1, 60, .inr (.inl gt))) := k4 _ _ x_wwt (z_ne x_wwt x_o rfl)
          have a359 : f209 wwt = some (.inl (cy 1, 60, .inr (.inl gt))) := k211 _ _ a358 
          have a360 : f1 wfy = some (.inl (cy 0, 6, .inl gy)) := k4 _ _ x_wfy (z_ne x_wfy x_o rfl)
          have a361 : f209 wfy = some (.inl (cy 0, 6, .inl gy)) := k211 _ _ a360 
          have a362 : f1 wfk = some (.inl (cy 0, 24, .inl gq)) := k4 _ _ x_wfk (z_ne x_wfk x_o rfl)
          have a363 : f209 wfk = some (.inl (cy 0, 24, .inl gq)) := k211 _ _ a362 
          have a364 : f1 wem = some (.inl (cy 0, 60, .inl ge1)) := k4 _ _ x_wem (z_ne x_wem x_o rfl)
          have a365 : f209 wem = some (.inl (cy 0, 60, .inl ge1)) := k211 _ _ a364 
          have a366 : f1 wna = some (.inl (cy 0, 60, .inl gn1)) := k4 _ _ x_wna (z_ne x_wna x_o rfl)
          have a367 : f209 wna = some (.inl (cy 0, 60, .inl gn1)) := k211 _ _ a366 
          have a368 : f1 wpl = some (.inl (cy 0, 60, .inl gp1)) := k4 _ _ x_wpl (z_ne x_wpl x_o rfl)
          have a369 : f209 wpl = some (.inl (cy 0, 60, .inl gp1)) := k211 _ _ a368 
          have a370 : f1 whs = some (.inl (cy 0, 4, .inl gs)) := k4 _ _ x_whs (z_ne x_whs x_o rfl)
          have a371 : f209 whs = some (.inl (cy 0, 4, .inl gs)) := k211 _ _ a370 
          have a372 : f1 wk1 = some (.inl (cy 0, 40, .inl gx1)) := k4 _ _ x_wk1 (z_ne x_wk1 x_o rfl)
          have a373 : f209 wk1 = some (.inl (cy 0, 40, .inl gx1)) := k211 _ _ a372 
          have a374 : f1 wk2 = some (.inl (cy 0, 40, .inl gx2)) := k4 _ _ x_wk2 (z_ne x_wk2 x_o rfl)
          have a375 : f209 wk2 = some (.inl (cy 0, 40, .inl gx2)) := k211 _ _ a374 
          have a376 : f1 wk3 = some (.inl (cy 0, 40, .inl gx3)) := k4 _ _ x_wk3 (z_ne x_wk3 x_o rfl)
          have a377 : f209 wk3 = some (.inl (cy 0, 40, .inl gx3)) := k211 _ _ a376 
          have hq : q_pair nn x y = ((-3), 0, (-1), 0) := by simp [q_pair, oF_m1 nn, h60, hOlf, hNlf, hOrt, c5, c212, c213]
          exact z_iret C hr rfl hz hS ⟨0, (-1), 0, nl, nn, nf, nc, lk, ks, gv, gu, gk, gm, gc, gw, gl, gh, gt, gy, gq, ge1, gn1, gp1, gs, gx1, gx2, gx3, ln, fz, sq, (by rw [hq]), (by rw [hq]), (by rw [hq]), (by rw [hq]), (by rw [hq]; exact (zEV0 gv).symm), rfl, rfl, (by rw [if_neg (by decide)]), (by rw [if_neg (by decide)]), (by rw [if_neg (by decide)]), (by rw [if_neg (by decide)]), (by rw [if_neg (by decide)]), (zGC_no (by decide)), rfl, rfl, rfl, rfl, rfl, rfl, rfl, rfl, rfl, rfl, rfl, rfl, rfl, ⟨a214, a343, a345, a347, a349, a351, a353, a355, a357, a359, a361, a363, a365, a367, a369, a371, a373, a375, a377, hn60, hl12, hf6, hc60, hs40, hMP, hgy, hfz, hgs, hME, hlk, hgw, hfd, n_wki_wmy, n_wki_wiw, n_wki_wli, n_wki_wha, n_wki_wem, n_wki_wna, n_wki_wpl, n_wmy_wiw, n_wmy_wli, n_wmy_wha, n_wmy_wem, n_wmy_wna, n_wmy_wpl, n_wiw_wli, n_wiw_wha, n_wiw_wem, n_wiw_wna, n_wiw_wpl, n_wli_wha, n_wli_wem, n_wli_wna, n_wli_wpl, n_wha_wem, n_wha_wna, n_wha_wpl, n_wem_wna, n_wem_wpl, n_wna_wpl, n_wk1_wk2, n_wk1_wk3, n_wk2_wk3⟩⟩ (Nat.le_of_ble_eq_true rfl) (Nat.le_of_ble_eq_true rfl) dX8_pair_44
      · refine lv_aload_n hx hb dX8_pair_22 rfl (lv_at hl 0 rfl) ?_
        refine lv_iload_n hx hb dX8_pair_23 rfl (lv_at hl 2 rfl) ?_
        rcases z_findi y nn with ⟨jr, hjr, hvrt⟩ | hvrt
        · have hOrt : oF nn y = true := oF_t hn60 hjr hvrt
          have hNrt : ¬ y = (-1) := by rw [hvrt]; exact z_nim1 (by omega)
          have a378 : f209 o = some (.inr (8, [.int 0, .int (-1), .int 0, .ref wev, .int (nI nl), .ref wnb, .int (nI nn), .ref wki, .ref wmy, .ref wce, .ref wiw, .ref wli, .ref wha, .ref wwt, .int (nI nf), .ref wfy, .ref wfk, .int (nI nc), .ref wem, .ref wna, .ref wpl, .ref whs, .long lk, .int (nI ks), .ref wk1, .ref wk2, .ref wk3])) := k211 _ _ a3 
          refine z_callVi (As := [.int y]) C hz hS hA hl (k_X8_isFigure_A l D cy f209 o wev wnb wki wmy wce wiw wli wha wwt wfy wfk wem wna wpl whs wk1 wk2 wk3 0 (-1) 0 nl nn nf nc lk ks y jr a378 hn60 hvrt hjr) zyX8_isFigure mMX8_139 a378 zl8 rfl rfl (Nat.le_of_ble_eq_true rfl) ⟨Nat.le_of_ble_eq_true rfl, Nat.le_of_ble_eq_true rfl⟩ ⟨Nat.le_of_ble_eq_true rfl, Nat.le_of_ble_eq_true rfl⟩ dX8_pair_24 (fun r f379 H locs h380 hz hS => ?_)
          obtain ⟨rfl, k381⟩ := h380
          refine lv_if_ne (tgt := 33) hx hb dX8_pair_27 (by decide) (fun c382 => ?_) (fun c382 => ?_)
          rotate_left
          · exact absurd c382 (by decide)
          refine lv_aload_n hx hb dX8_pair_33 rfl (lv_at hl 0 rfl) ?_
          have a383 : f379 o = some (.inr (8, [.int 0, .int (-1), .int 0, .ref wev, .int (nI nl), .ref wnb, .int (nI nn), .ref wki, .ref wmy, .ref wce, .ref wiw, .ref wli, .ref wha, .ref wwt, .int (nI nf), .ref wfy, .ref wfk, .int (nI nc), .ref wem, .ref wna, .ref wpl, .ref whs, .long lk, .int (nI ks), .ref wk1, .ref wk2, .ref wk3])) := k381 _ _ a378 
          refine z_get (v := .int (nI nn)) C hz a383 zl8 mFX8_83 (by decide) rfl dX8_pair_34 ?_
          refine lv_bipush (v := 60) hx hb dX8_pair_37 (by decide) ?_
          refine lv_icmp_ne (tgt := 45) hx hb dX8_pair_39 (by decide) (fun c384 => ?_) (fun c384 => ?_)
          · replace c384 : ¬ (nn = 60) := fun h => c384 ((nI_eq (a := nn) (b := 60) (by omega) (by omega)).mpr h)
            have h60 : nn < 60 := by omega
            refine lv_iload_n hx hb dX8_pair_45 rfl (lv_at hl 1 rfl) ?_
            refine lv_iconst (v := (-1)) hx hb dX8_pair_46 (by decide) ?_
            refine lv_icmp_ne (tgt := 58) hx hb dX8_pair_47 (by decide) (fun c385 => ?_) (fun c385 => ?_)
            rotate_left
            · exact absurd c385 (by rw [hvlf]; exact z_nim1 (by omega))
            refine lv_aload_n hx hb dX8_pair_58 rfl (lv_at hl 0 rfl) ?_
            refine lv_iconst (v := 4) hx hb dX8_pair_59 (by decide) ?_
            have a386 : f1 wki = some (.inl (cy 0, 60, .inl gk)) := k4 _ _ x_wki (z_ne x_wki x_o rfl)
            have a387 : f209 wki = some (.inl (cy 0, 60, .inl gk)) := k211 _ _ a386 
            have a388 : f379 wki = some (.inl (cy 0, 60, .inl gk)) := k381 _ _ a387 
            have a389 : f1 wmy = some (.inl (cy 0, 60, .inl gm)) := k4 _ _ x_wmy (z_ne x_wmy x_o rfl)
            have a390 : f209 wmy = some (.inl (cy 0, 60, .inl gm)) := k211 _ _ a389 
            have a391 : f379 wmy = some (.inl (cy 0, 60, .inl gm)) := k381 _ _ a390 
            refine z_callVv (As := [.int 4]) C hz hS hA hl (k_X8_start l D cy f379 o wev wnb wki wmy wce wiw wli wha wwt wfy wfk wem wna wpl whs wk1 wk2 wk3 0 (-1) 0 nl nn nf nc lk ks gk gm 4 a383 a388 a391 (by omega) n_wki_wmy) zyX8_start mMX8_119 a383 zl8 rfl rfl (Nat.le_of_ble_eq_true rfl) ⟨Nat.le_of_ble_eq_true rfl, Nat.le_of_ble_eq_true rfl⟩ ⟨Nat.le_of_ble_eq_true rfl, Nat.le_of_ble_eq_true rfl⟩ dX8_pair_60 (fun  f392 H locs h393 hz hS => ?_)
            obtain ⟨a394, a395, k396⟩ := h393
            refine lv_aload_n hx hb dX8_pair_63 rfl (lv_at hl 0 rfl) ?_
            refine lv_iload_n hx hb dX8_pair_64 rfl (lv_at hl 1 rfl) ?_
            refine lv_i2l (v := x.toInt64) hx hb dX8_pair_65 rfl ?_
            have a397 : f392 o = some (.inr (8, [.int 0, .int (-1), .int 0, .ref wev, .int (nI nl), .ref wnb, .int (nI nn), .ref wki, .ref wmy, .ref wce, .ref wiw, .ref wli, .ref wha, .ref wwt, .int (nI nf), .ref wfy, .ref wfk, .int (nI nc), .ref wem, .ref wna, .ref wpl, .ref whs, .long lk, .int (nI ks), .ref wk1, .ref wk2, .ref wk3])) := k396 _ _ a383 (z_ne a383 a388 rfl) (z_ne a383 a391 rfl)
            have a398 : f1 wce = some (.inl (cy 1, 960, .inr (.inl gc))) := k4 _ _ x_wce (z_ne x_wce x_o rfl)
            have a399 : f209 wce = some (.inl (cy 1, 960, .inr (.inl gc))) := k211 _ _ a398 
            have a400 : f379 wce = some (.inl (cy 1, 960, .inr (.inl gc))) := k381 _ _ a399 
            have a401 : f392 wce = some (.inl (cy 1, 960, .inr (.inl gc))) := k396 _ _ a400 (z_ne a400 a388 rfl) (z_ne a400 a391 rfl)
            refine z_callVv (As := [.long x.toInt64]) C hz hS hA hl (k_X8_part l D cy f392 o wev wnb wki wmy wce wiw wli wha wwt wfy wfk wem wna wpl whs wk1 wk2 wk3 0 (-1) 0 nl nn nf nc lk ks gc (upd gm nn 0) x.toInt64 0 a397 a401 a395 (by omega) pk_us (by omega)) zyX8_part mMX8_127 a397 zl8 rfl rfl (Nat.le_of_ble_eq_true rfl) ⟨Nat.le_of_ble_eq_true rfl, Nat.le_of_ble_eq_true rfl⟩ ⟨Nat.le_of_ble_eq_true rfl, Nat.le_of_ble_eq_true rfl⟩ dX8_pair_66 (fun  f402 H locs h403 hz hS => ?_)
            obtain ⟨a404, a405, k406⟩ := h403
            refine lv_aload_n hx hb dX8_pair_69 rfl (lv_at hl 0 rfl) ?_
            refine lv_iload_n hx hb dX8_pair_70 rfl (lv_at hl 2 rfl) ?_
            refine lv_i2l (v := y.toInt64) hx hb dX8_pair_71 rfl ?_
            have a407 : f402 o = some (.inr (8, [.int 0, .int (-1), .int 0, .ref wev, .int (nI nl), .ref wnb, .int (nI nn), .ref wki, .ref wmy, .ref wce, .ref wiw, .ref wli, .ref wha, .ref wwt, .int (nI nf), .ref wfy, .ref wfk, .int (nI nc), .ref wem, .ref wna, .ref wpl, .ref whs, .long lk, .int (nI ks), .ref wk1, .ref wk2, .ref wk3])) := k406 _ _ a397 (z_ne a397 a401 rfl) (z_ne a397 a395 rfl)
            refine z_callVv (As := [.long y.toInt64]) C hz hS hA hl (k_X8_part l D cy f402 o wev wnb wki wmy wce wiw wli wha wwt wfy wfk wem wna wpl whs wk1 wk2 wk3 0 (-1) 0 nl nn nf nc lk ks (vp_updL gc (16 * nn + 0) x.toInt64) (upd (upd gm nn 0) nn (nI (0 + 1))) y.toInt64 1 a407 a404 a405 (by omega) pk_us (by omega)) zyX8_part mMX8_127 a407 zl8 rfl rfl (Nat.le_of_ble_eq_true rfl) ⟨Nat.le_of_ble_eq_true rfl, Nat.le_of_ble_eq_true rfl⟩ ⟨Nat.le_of_ble_eq_true rfl, Nat.le_of_ble_eq_true rfl⟩ dX8_pair_72 (fun  f408 H locs h409 hz hS => ?_)
            obtain ⟨a410, a411, k412⟩ := h409
            refine lv_aload_n hx hb dX8_pair_75 rfl (lv_at hl 0 rfl) ?_
            have a413 : f408 o = some (.inr (8, [.int 0, .int (-1), .int 0, .ref wev, .int (nI nl), .ref wnb, .int (nI nn), .ref wki, .ref wmy, .ref wce, .ref wiw, .ref wli, .ref wha, .ref wwt, .int (nI nf), .ref wfy, .ref wfk, .int (nI nc), .ref wem, .ref wna, .ref wpl, .ref whs, .long lk, .int (nI ks), .ref wk1, .ref wk2, .ref wk3])) := k412 _ _ a407 (z_ne a407 a404 rfl) (z_ne a407 a405 rfl)
            have a414 : f402 wki = some (.inl (cy 0, 60, .inl (upd gk nn 4))) := k406 _ _ a394 (z_ne a394 a401 rfl) n_wki_wmy
            have a415 : f408 wki = some (.inl (cy 0, 60, .inl (upd gk nn 4))) := k412 _ _ a414 (z_ne a414 a404 rfl) n_wki_wmy
            have a416 : f1 wli = some (.inl (cy 0, 60, .inl gl)) := k4 _ _ x_wli (z_ne x_wli x_o rfl)
            have a417 : f209 wli = some (.inl (cy 0, 60, .inl gl)) := k211 _ _ a416 
            have a418 : f379 wli = some (.inl (cy 0, 60, .inl gl)) := k381 _ _ a417 
            have a419 : f392 wli = some (.inl (cy 0, 60, .inl gl)) := k396 _ _ a418 (Ne.symm n_wki_wli) (Ne.symm n_wmy_wli)
            have a420 : f402 wli = some (.inl (cy 0, 60, .inl gl)) := k406 _ _ a419 (z_ne a419 a401 rfl) (Ne.symm n_wmy_wli)
            have a421 : f408 wli = some (.inl (cy 0, 60, .inl gl)) := k412 _ _ a420 (z_ne a420 a404 rfl) (Ne.symm n_wmy_wli)
            have a422 : f1 wha = some (.inl (cy 0, 60, .inl gh)) := k4 _ _ x_wha (z_ne x_wha x_o rfl)
            have a423 : f209 wha = some (.inl (cy 0, 60, .inl gh)) := k211 _ _ a422 
            have a424 : f379 wha = some (.inl (cy 0, 60, .inl gh)) := k381 _ _ a423 
            have a425 : f392 wha = some (.inl (cy 0, 60, .inl gh)) := k396 _ _ a424 (Ne.symm n_wki_wha) (Ne.symm n_wmy_wha)
            have a426 : f402 wha = some (.inl (cy 0, 60, .inl gh)) := k406 _ _ a425 (z_ne a425 a401 rfl) (Ne.symm n_wmy_wha)
            have a427 : f408 wha = some (.inl (cy 0, 60, .inl gh)) := k412 _ _ a426 (z_ne a426 a404 rfl) (Ne.symm n_wmy_wha)
            have hc0 := (show vp_updL (vp_updL gc (16 * nn + 0) x.toInt64) (16 * nn + (0 + 1)) y.toInt64 (16 * nn) = lN jl by rw [pk_uLn (by omega)]; exact (pk_uLs (k := 16 * nn + 0)).trans (z_cr (by omega) hvlf))
            have hc1 := (show vp_updL (vp_updL gc (16 * nn + 0) x.toInt64) (16 * nn + (0 + 1)) y.toInt64 (16 * nn + 1) = y.toInt64 from pk_uLs)
            have hcr : y.toInt64 = (-1) ∨ ∃ j9, j9 < nn ∧ y.toInt64 = lN j9 := (Or.inr ⟨jr, hjr, z_cr (by omega) hvrt⟩)
            refine z_callVi (As := []) C hz hS hA hl (k_X8_made l D cy f408 o wev wnb wki wmy wce wiw wli wha wwt wfy wfk wem wna wpl whs wk1 wk2 wk3 0 (-1) 0 nl nn nf nc lk ks (upd gk nn 4) (upd (upd (upd gm nn 0) nn (nI (0 + 1))) nn (nI (1 + 1))) (vp_updL (vp_updL gc (16 * nn + 0) x.toInt64) (16 * nn + 1) y.toInt64) gl gh ln 2 a413 a415 a411 a410 a421 a427 (by omega) (zMP_keep hMP (fun i9 h9 => by simp only [upd, if_neg (show ¬ i9 = nn by omega)]) (fun i9 h9 => by simp only [upd, if_neg (show ¬ i9 = nn by omega)]) (fun i9 h9 j9 h8 => by simp (disch := omega) only [pk_uLn])) pk_us (by omega) (fun _ k9 h9 => by rcases (show k9 = 0 ∨ k9 = 1 by omega) with rfl | rfl; exact Or.inr ⟨jl, by omega, hc0⟩; rw [hc1]; exact hcr.elim Or.inl (fun ⟨j8, h8, e8⟩ => Or.inr ⟨j8, by omega, e8⟩)) n_wki_wmy n_wki_wli n_wki_wha n_wmy_wli n_wmy_wha n_wli_wha) zyX8_made mMX8_131 a413 zl8 rfl rfl (Nat.le_of_ble_eq_true rfl) ⟨Nat.le_of_ble_eq_true rfl, Nat.le_of_ble_eq_true rfl⟩ ⟨Nat.le_of_ble_eq_true rfl, Nat.le_of_ble_eq_true rfl⟩ dX8_pair_76 (fun r f428 H locs h429 hz hS => ?_)
            obtain ⟨gl_430, rfl, a431, a432, a433, k434⟩ := h429
            have a435 : f1 wev = some (.inl (cy 0, 8, .inl gv)) := k4 _ _ x_wev (z_ne x_wev x_o rfl)
            have a436 : f209 wev = some (.inl (cy 0, 8, .inl gv)) := k211 _ _ a435 
            have a437 : f379 wev = some (.inl (cy 0, 8, .inl gv)) := k381 _ _ a436 
            have a438 : f392 wev = some (.inl (cy 0, 8, .inl gv)) := k396 _ _ a437 (z_ne a437 a388 rfl) (z_ne a437 a391 rfl)
            have a439 : f402 wev = some (.inl (cy 0, 8, .inl gv)) := k406 _ _ a438 (z_ne a438 a401 rfl) (z_ne a438 a395 rfl)
            have a440 : f408 wev = some (.inl (cy 0, 8, .inl gv)) := k412 _ _ a439 (z_ne a439 a404 rfl) (z_ne a439 a405 rfl)
            have a441 : f428 wev = some (.inl (cy 0, 8, .inl gv)) := k434 _ _ a440 (z_ne a440 a413 rfl) (z_ne a440 a421 rfl) (z_ne a440 a427 rfl)
            have a442 : f1 wnb = some (.inl (cy 0, 12, .inl gu)) := k4 _ _ x_wnb (z_ne x_wnb x_o rfl)
            have a443 : f209 wnb = some (.inl (cy 0, 12, .inl gu)) := k211 _ _ a442 
            have a444 : f379 wnb = some (.inl (cy 0, 12, .inl gu)) := k381 _ _ a443 
            have a445 : f392 wnb = some (.inl (cy 0, 12, .inl gu)) := k396 _ _ a444 (z_ne a444 a388 rfl) (z_ne a444 a391 rfl)
            have a446 : f402 wnb = some (.inl (cy 0, 12, .inl gu)) := k406 _ _ a445 (z_ne a445 a401 rfl) (z_ne a445 a395 rfl)
            have a447 : f408 wnb = some (.inl (cy 0, 12, .inl gu)) := k412 _ _ a446 (z_ne a446 a404 rfl) (z_ne a446 a405 rfl)
            have a448 : f428 wnb = some (.inl (cy 0, 12, .inl gu)) := k434 _ _ a447 (z_ne a447 a413 rfl) (z_ne a447 a421 rfl) (z_ne a447 a427 rfl)
            have a449 : f428 wki = some (.inl (cy 0, 60, .inl (upd gk nn 4))) := k434 _ _ a415 (z_ne a415 a413 rfl) n_wki_wli n_wki_wha
            have a450 : f428 wmy = some (.inl (cy 0, 60, .inl (upd (upd (upd gm nn 0) nn (nI (0 + 1))) nn (nI (1 + 1))))) := k434 _ _ a411 (z_ne a411 a413 rfl) n_wmy_wli n_wmy_wha
            have a451 : f428 wce = some (.inl (cy 1, 960, .inr (.inl (vp_updL (vp_updL gc (16 * nn + 0) x.toInt64) (16 * nn + 1) y.toInt64)))) := k434 _ _ a410 (z_ne a410 a413 rfl) (z_ne a410 a421 rfl) (z_ne a410 a427 rfl)
            have a452 : f1 wiw = some (.inl (cy 2, 60, .inl gw)) := k4 _ _ x_wiw (z_ne x_wiw x_o rfl)
            have a453 : f209 wiw = some (.inl (cy 2, 60, .inl gw)) := k211 _ _ a452 
            have a454 : f379 wiw = some (.inl (cy 2, 60, .inl gw)) := k381 _ _ a453 
            have a455 : f392 wiw = some (.inl (cy 2, 60, .inl gw)) := k396 _ _ a454 (Ne.symm n_wki_wiw) (Ne.symm n_wmy_wiw)
            have a456 : f402 wiw = some (.inl (cy 2, 60, .inl gw)) := k406 _ _ a455 (z_ne a455 a401 rfl) (Ne.symm n_wmy_wiw)
            have a457 : f408 wiw = some (.inl (cy 2, 60, .inl gw)) := k412 _ _ a456 (z_ne a456 a404 rfl) (Ne.symm n_wmy_wiw)
            have a458 : f428 wiw = some (.inl (cy 2, 60, .inl gw)) := k434 _ _ a457 (z_ne a457 a413 rfl) n_wiw_wli n_wiw_wha
            have a459 : f1 wwt = some (.inl (cy 1, 60, .inr (.inl gt))) := k4 _ _ x_wwt (z_ne x_wwt x_o rfl)
            have a460 : f209 wwt = some (.inl (cy 1, 60, .inr (.inl gt))) := k211 _ _ a459 
            have a461 : f379 wwt = some (.inl (cy 1, 60, .inr (.inl gt))) := k381 _ _ a460 
            have a462 : f392 wwt = some (.inl (cy 1, 60, .inr (.inl gt))) := k396 _ _ a461 (z_ne a461 a388 rfl) (z_ne a461 a391 rfl)
            have a463 : f402 wwt = some (.inl (cy 1, 60, .inr (.inl gt))) := k406 _ _ a462 (z_ne a462 a401 rfl) (z_ne a462 a395 rfl)
            have a464 : f408 wwt = some (.inl (cy 1, 60, .inr (.inl gt))) := k412 _ _ a463 (z_ne a463 a404 rfl) (z_ne a463 a405 rfl)
            have a465 : f428 wwt = some (.inl (cy 1, 60, .inr (.inl gt))) := k434 _ _ a464 (z_ne a464 a413 rfl) (z_ne a464 a421 rfl) (z_ne a464 a427 rfl)
            have a466 : f1 wfy = some (.inl (cy 0, 6, .inl gy)) := k4 _ _ x_wfy (z_ne x_wfy x_o rfl)
            have a467 : f209 wfy = some (.inl (cy 0, 6, .inl gy)) := k211 _ _ a466 
            have a468 : f379 wfy = some (.inl (cy 0, 6, .inl gy)) := k381 _ _ a467 
            have a469 : f392 wfy = some (.inl (cy 0, 6, .inl gy)) := k396 _ _ a468 (z_ne a468 a388 rfl) (z_ne a468 a391 rfl)
            have a470 : f402 wfy = some (.inl (cy 0, 6, .inl gy)) := k406 _ _ a469 (z_ne a469 a401 rfl) (z_ne a469 a395 rfl)
            have a471 : f408 wfy = some (.inl (cy 0, 6, .inl gy)) := k412 _ _ a470 (z_ne a470 a404 rfl) (z_ne a470 a405 rfl)
            have a472 : f428 wfy = some (.inl (cy 0, 6, .inl gy)) := k434 _ _ a471 (z_ne a471 a413 rfl) (z_ne a471 a421 rfl) (z_ne a471 a427 rfl)
            have a473 : f1 wfk = some (.inl (cy 0, 24, .inl gq)) := k4 _ _ x_wfk (z_ne x_wfk x_o rfl)
            have a474 : f209 wfk = some (.inl (cy 0, 24, .inl gq)) := k211 _ _ a473 
            have a475 : f379 wfk = some (.inl (cy 0, 24, .inl gq)) := k381 _ _ a474 
            have a476 : f392 wfk = some (.inl (cy 0, 24, .inl gq)) := k396 _ _ a475 (z_ne a475 a388 rfl) (z_ne a475 a391 rfl)
            have a477 : f402 wfk = some (.inl (cy 0, 24, .inl gq)) := k406 _ _ a476 (z_ne a476 a401 rfl) (z_ne a476 a395 rfl)
            have a478 : f408 wfk = some (.inl (cy 0, 24, .inl gq)) := k412 _ _ a477 (z_ne a477 a404 rfl) (z_ne a477 a405 rfl)
            have a479 : f428 wfk = some (.inl (cy 0, 24, .inl gq)) := k434 _ _ a478 (z_ne a478 a413 rfl) (z_ne a478 a421 rfl) (z_ne a478 a427 rfl)
            have a480 : f1 wem = some (.inl (cy 0, 60, .inl ge1)) := k4 _ _ x_wem (z_ne x_wem x_o rfl)
            have a481 : f209 wem = some (.inl (cy 0, 60, .inl ge1)) := k211 _ _ a480 
            have a482 : f379 wem = some (.inl (cy 0, 60, .inl ge1)) := k381 _ _ a481 
            have a483 : f392 wem = some (.inl (cy 0, 60, .inl ge1)) := k396 _ _ a482 (Ne.symm n_wki_wem) (Ne.symm n_wmy_wem)
            have a484 : f402 wem = some (.inl (cy 0, 60, .inl ge1)) := k406 _ _ a483 (z_ne a483 a401 rfl) (Ne.symm n_wmy_wem)
            have a485 : f408 wem = some (.inl (cy 0, 60, .inl ge1)) := k412 _ _ a484 (z_ne a484 a404 rfl) (Ne.symm n_wmy_wem)
            have a486 : f428 wem = some (.inl (cy 0, 60, .inl ge1)) := k434 _ _ a485 (z_ne a485 a413 rfl) (Ne.symm n_wli_wem) (Ne.symm n_wha_wem)
            have a487 : f1 wna = some (.inl (cy 0, 60, .inl gn1)) := k4 _ _ x_wna (z_ne x_wna x_o rfl)
            have a488 : f209 wna = some (.inl (cy 0, 60, .inl gn1)) := k211 _ _ a487 
            have a489 : f379 wna = some (.inl (cy 0, 60, .inl gn1)) := k381 _ _ a488 
            have a490 : f392 wna = some (.inl (cy 0, 60, .inl gn1)) := k396 _ _ a489 (Ne.symm n_wki_wna) (Ne.symm n_wmy_wna)
            have a491 : f402 wna = some (.inl (cy 0, 60, .inl gn1)) := k406 _ _ a490 (z_ne a490 a401 rfl) (Ne.symm n_wmy_wna)
            have a492 : f408 wna = some (.inl (cy 0, 60, .inl gn1)) := k412 _ _ a491 (z_ne a491 a404 rfl) (Ne.symm n_wmy_wna)
            have a493 : f428 wna = some (.inl (cy 0, 60, .inl gn1)) := k434 _ _ a492 (z_ne a492 a413 rfl) (Ne.symm n_wli_wna) (Ne.symm n_wha_wna)
            have a494 : f1 wpl = some (.inl (cy 0, 60, .inl gp1)) := k4 _ _ x_wpl (z_ne x_wpl x_o rfl)
            have a495 : f209 wpl = some (.inl (cy 0, 60, .inl gp1)) := k211 _ _ a494 
            have a496 : f379 wpl = some (.inl (cy 0, 60, .inl gp1)) := k381 _ _ a495 
            have a497 : f392 wpl = some (.inl (cy 0, 60, .inl gp1)) := k396 _ _ a496 (Ne.symm n_wki_wpl) (Ne.symm n_wmy_wpl)
            have a498 : f402 wpl = some (.inl (cy 0, 60, .inl gp1)) := k406 _ _ a497 (z_ne a497 a401 rfl) (Ne.symm n_wmy_wpl)
            have a499 : f408 wpl = some (.inl (cy 0, 60, .inl gp1)) := k412 _ _ a498 (z_ne a498 a404 rfl) (Ne.symm n_wmy_wpl)
            have a500 : f428 wpl = some (.inl (cy 0, 60, .inl gp1)) := k434 _ _ a499 (z_ne a499 a413 rfl) (Ne.symm n_wli_wpl) (Ne.symm n_wha_wpl)
            have a501 : f1 whs = some (.inl (cy 0, 4, .inl gs)) := k4 _ _ x_whs (z_ne x_whs x_o rfl)
            have a502 : f209 whs = some (.inl (cy 0, 4, .inl gs)) := k211 _ _ a501 
            have a503 : f379 whs = some (.inl (cy 0, 4, .inl gs)) := k381 _ _ a502 
            have a504 : f392 whs = some (.inl (cy 0, 4, .inl gs)) := k396 _ _ a503 (z_ne a503 a388 rfl) (z_ne a503 a391 rfl)
            have a505 : f402 whs = some (.inl (cy 0, 4, .inl gs)) := k406 _ _ a504 (z_ne a504 a401 rfl) (z_ne a504 a395 rfl)
            have a506 : f408 whs = some (.inl (cy 0, 4, .inl gs)) := k412 _ _ a505 (z_ne a505 a404 rfl) (z_ne a505 a405 rfl)
            have a507 : f428 whs = some (.inl (cy 0, 4, .inl gs)) := k434 _ _ a506 (z_ne a506 a413 rfl) (z_ne a506 a421 rfl) (z_ne a506 a427 rfl)
            have a508 : f1 wk1 = some (.inl (cy 0, 40, .inl gx1)) := k4 _ _ x_wk1 (z_ne x_wk1 x_o rfl)
            have a509 : f209 wk1 = some (.inl (cy 0, 40, .inl gx1)) := k211 _ _ a508 
            have a510 : f379 wk1 = some (.inl (cy 0, 40, .inl gx1)) := k381 _ _ a509 
            have a511 : f392 wk1 = some (.inl (cy 0, 40, .inl gx1)) := k396 _ _ a510 (z_ne a510 a388 rfl) (z_ne a510 a391 rfl)
            have a512 : f402 wk1 = some (.inl (cy 0, 40, .inl gx1)) := k406 _ _ a511 (z_ne a511 a401 rfl) (z_ne a511 a395 rfl)
            have a513 : f408 wk1 = some (.inl (cy 0, 40, .inl gx1)) := k412 _ _ a512 (z_ne a512 a404 rfl) (z_ne a512 a405 rfl)
            have a514 : f428 wk1 = some (.inl (cy 0, 40, .inl gx1)) := k434 _ _ a513 (z_ne a513 a413 rfl) (z_ne a513 a421 rfl) (z_ne a513 a427 rfl)
            have a515 : f1 wk2 = some (.inl (cy 0, 40, .inl gx2)) := k4 _ _ x_wk2 (z_ne x_wk2 x_o rfl)
            have a516 : f209 wk2 = some (.inl (cy 0, 40, .inl gx2)) := k211 _ _ a515 
            have a517 : f379 wk2 = some (.inl (cy 0, 40, .inl gx2)) := k381 _ _ a516 
            have a518 : f392 wk2 = some (.inl (cy 0, 40, .inl gx2)) := k396 _ _ a517 (z_ne a517 a388 rfl) (z_ne a517 a391 rfl)
            have a519 : f402 wk2 = some (.inl (cy 0, 40, .inl gx2)) := k406 _ _ a518 (z_ne a518 a401 rfl) (z_ne a518 a395 rfl)
            have a520 : f408 wk2 = some (.inl (cy 0, 40, .inl gx2)) := k412 _ _ a519 (z_ne a519 a404 rfl) (z_ne a519 a405 rfl)
            have a521 : f428 wk2 = some (.inl (cy 0, 40, .inl gx2)) := k434 _ _ a520 (z_ne a520 a413 rfl) (z_ne a520 a421 rfl) (z_ne a520 a427 rfl)
            have a522 : f1 wk3 = some (.inl (cy 0, 40, .inl gx3)) := k4 _ _ x_wk3 (z_ne x_wk3 x_o rfl)
            have a523 : f209 wk3 = some (.inl (cy 0, 40, .inl gx3)) := k211 _ _ a522 
            have a524 : f379 wk3 = some (.inl (cy 0, 40, .inl gx3)) := k381 _ _ a523 
            have a525 : f392 wk3 = some (.inl (cy 0, 40, .inl gx3)) := k396 _ _ a524 (z_ne a524 a388 rfl) (z_ne a524 a391 rfl)
            have a526 : f402 wk3 = some (.inl (cy 0, 40, .inl gx3)) := k406 _ _ a525 (z_ne a525 a401 rfl) (z_ne a525 a395 rfl)
            have a527 : f408 wk3 = some (.inl (cy 0, 40, .inl gx3)) := k412 _ _ a526 (z_ne a526 a404 rfl) (z_ne a526 a405 rfl)
            have a528 : f428 wk3 = some (.inl (cy 0, 40, .inl gx3)) := k434 _ _ a527 (z_ne a527 a413 rfl) (z_ne a527 a421 rfl) (z_ne a527 a427 rfl)
            have hgpf : ∀ j, j < 2 → (vp_updL (vp_updL gc (16 * nn + 0) x.toInt64) (16 * nn + 1) y.toInt64) (16 * nn + j) = (q2 x.toInt64 y.toInt64) j := (z_m2 _ _ _ _)
            have hgkp : ∀ i, i < nn → ∀ j, j < 16 → (vp_updL (vp_updL gc (16 * nn + 0) x.toInt64) (16 * nn + 1) y.toInt64) (16 * i + j) = gc (16 * i + j) := (fun i9 h9 j9 h8 => by simp (disch := omega) only [pk_uLn])
            have hq : q_pair nn x y = (nI nn, 0, (-1), 0) := by simp [q_pair, oF_m1 nn, h60, hOlf, hNlf, hOrt, hNrt, c5, c212, c213, c382, c385]
            exact z_iret C hr rfl hz hS ⟨0, (-1), 0, nl, (nn + 1), nf, nc, lk, ks, gv, gu, (upd gk nn 4), (upd (upd (upd gm nn 0) nn (nI (0 + 1))) nn (nI (1 + 1))), (vp_updL (vp_updL gc (16 * nn + 0) x.toInt64) (16 * nn + 1) y.toInt64), gw, gl_430, (upd gh nn (zHash ((upd gk nn 4) nn) nn 2 (fun k => (vp_updL (vp_updL gc (16 * nn + 0) x.toInt64) (16 * nn + 1) y.toInt64) (16 * nn + k)) gh)), gt, gy, gq, ge1, gn1, gp1, gs, gx1, gx2, gx3, (va_up ln nn 2), fz, sq, (by rw [hq]), (by rw [hq]), (by rw [hq]), (by rw [hq]), (by rw [hq]; exact (zEV0 gv).symm), rfl, rfl, (by rw [if_pos (nI_pos' (by omega))]), (by rw [if_pos (nI_pos' (by omega))]; exact z_uv _ _ _), (by rw [if_pos (nI_pos' (by omega))]), (by rw [if_pos (nI_pos' (by omega))]; exact z_gw0 hgw), (by rw [if_pos (nI_pos' (by omega))]; exact z_hs1 pk_us rfl hgpf), ⟨hgkp, fun _ => hgpf⟩, rfl, rfl, rfl, rfl, rfl, rfl, rfl, rfl, rfl, rfl, rfl, rfl, rfl, ⟨a431, a441, a448, a449, a450, a451, a458, a432, a433, a465, a472, a479, a486, a493, a500, a507, a514, a521, a528, (by omega), hl12, hf6, hc60, hs40, (zMP_new (zMP_keep hMP (fun i9 h9 => by simp only [upd, if_neg (show ¬ i9 = nn by omega)]) (fun i9 h9 => by simp only [upd, if_neg (show ¬ i9 = nn by omega)]) (fun i9 h9 j9 h8 => by simp (disch := omega) only [pk_uLn])) pk_us (by rw [pk_us]; exact ⟨by omega, fun _ => ⟨rfl, ⟨jl, hjl, hc0⟩, by rw [hc1]; exact hcr⟩, fun h9 => absurd h9 (by decide), fun h9 => absurd h9 (by decide)⟩)), hgy, hfz, hgs, hME, hlk, (fun i9 h9 => hgw i9 (by omega)), hfd, n_wki_wmy, n_wki_wiw, n_wki_wli, n_wki_wha, n_wki_wem, n_wki_wna, n_wki_wpl, n_wmy_wiw, n_wmy_wli, n_wmy_wha, n_wmy_wem, n_wmy_wna, n_wmy_wpl, n_wiw_wli, n_wiw_wha, n_wiw_wem, n_wiw_wna, n_wiw_wpl, n_wli_wha, n_wli_wem, n_wli_wna, n_wli_wpl, n_wha_wem, n_wha_wna, n_wha_wpl, n_wem_wna, n_wem_wpl, n_wna_wpl, n_wk1_wk2, n_wk1_wk3, n_wk2_wk3⟩⟩ (Nat.le_of_ble_eq_true rfl) (Nat.le_of_ble_eq_true rfl) dX8_pair_79
          · replace c384 : (nn = 60) := (nI_eq (a := nn) (b := 60) (by omega) (by omega)).mp c384
            have h60 : ¬ nn < 60 := by omega
            refine lv_bipush (v := (-3)) hx hb dX8_pair_42 (by decide) ?_
            have a529 : f1 wev = some (.inl (cy 0, 8, .inl gv)) := k4 _ _ x_wev (z_ne x_wev x_o rfl)
            have a530 : f209 wev = some (.inl (cy 0, 8, .inl gv)) := k211 _ _ a529 
            have a531 : f379 wev = some (.inl (cy 0, 8, .inl gv)) := k381 _ _ a530 
            have a532 : f1 wnb = some (.inl (cy 0, 12, .inl gu)) := k4 _ _ x_wnb (z_ne x_wnb x_o rfl)
            have a533 : f209 wnb = some (.inl (cy 0, 12, .inl gu)) := k211 _ _ a532 
            have a534 : f379 wnb = some (.inl (cy 0, 12, .inl gu)) := k381 _ _ a533 
            have a535 : f1 wki = some (.inl (cy 0, 60, .inl gk)) := k4 _ _ x_wki (z_ne x_wki x_o rfl)
            have a536 : f209 wki = some (.inl (cy 0, 60, .inl gk)) := k211 _ _ a535 
            have a537 : f379 wki = some (.inl (cy 0, 60, .inl gk)) := k381 _ _ a536 
            have a538 : f1 wmy = some (.inl (cy 0, 60, .inl gm)) := k4 _ _ x_wmy (z_ne x_wmy x_o rfl)
            have a539 : f209 wmy = some (.inl (cy 0, 60, .inl gm)) := k211 _ _ a538 
            have a540 : f379 wmy = some (.inl (cy 0, 60, .inl gm)) := k381 _ _ a539 
            have a541 : f1 wce = some (.inl (cy 1, 960, .inr (.inl gc))) := k4 _ _ x_wce (z_ne x_wce x_o rfl)
            have a542 : f209 wce = some (.inl (cy 1, 960, .inr (.inl gc))) := k211 _ _ a541 
            have a543 : f379 wce = some (.inl (cy 1, 960, .inr (.inl gc))) := k381 _ _ a542 
            have a544 : f1 wiw = some (.inl (cy 2, 60, .inl gw)) := k4 _ _ x_wiw (z_ne x_wiw x_o rfl)
            have a545 : f209 wiw = some (.inl (cy 2, 60, .inl gw)) := k211 _ _ a544 
            have a546 : f379 wiw = some (.inl (cy 2, 60, .inl gw)) := k381 _ _ a545 
            have a547 : f1 wli = some (.inl (cy 0, 60, .inl gl)) := k4 _ _ x_wli (z_ne x_wli x_o rfl)
            have a548 : f209 wli = some (.inl (cy 0, 60, .inl gl)) := k211 _ _ a547 
            have a549 : f379 wli = some (.inl (cy 0, 60, .inl gl)) := k381 _ _ a548 
            have a550 : f1 wha = some (.inl (cy 0, 60, .inl gh)) := k4 _ _ x_wha (z_ne x_wha x_o rfl)
            have a551 : f209 wha = some (.inl (cy 0, 60, .inl gh)) := k211 _ _ a550 
            have a552 : f379 wha = some (.inl (cy 0, 60, .inl gh)) := k381 _ _ a551 
            have a553 : f1 wwt = some (.inl (cy 1, 60, .inr (.inl gt))) := k4 _ _ x_wwt (z_ne x_wwt x_o rfl)
            have a554 : f209 wwt = some (.inl (cy 1, 60, .inr (.inl gt))) := k211 _ _ a553 
            have a555 : f379 wwt = some (.inl (cy 1, 60, .inr (.inl gt))) := k381 _ _ a554 
            have a556 : f1 wfy = some (.inl (cy 0, 6, .inl gy)) := k4 _ _ x_wfy (z_ne x_wfy x_o rfl)
            have a557 : f209 wfy = some (.inl (cy 0, 6, .inl gy)) := k211 _ _ a556 
            have a558 : f379 wfy = some (.inl (cy 0, 6, .inl gy)) := k381 _ _ a557 
            have a559 : f1 wfk = some (.inl (cy 0, 24, .inl gq)) := k4 _ _ x_wfk (z_ne x_wfk x_o rfl)
            have a560 : f209 wfk = some (.inl (cy 0, 24, .inl gq)) := k211 _ _ a559 
            have a561 : f379 wfk = some (.inl (cy 0, 24, .inl gq)) := k381 _ _ a560 
            have a562 : f1 wem = some (.inl (cy 0, 60, .inl ge1)) := k4 _ _ x_wem (z_ne x_wem x_o rfl)
            have a563 : f209 wem = some (.inl (cy 0, 60, .inl ge1)) := k211 _ _ a562 
            have a564 : f379 wem = some (.inl (cy 0, 60, .inl ge1)) := k381 _ _ a563 
            have a565 : f1 wna = some (.inl (cy 0, 60, .inl gn1)) := k4 _ _ x_wna (z_ne x_wna x_o rfl)
            have a566 : f209 wna = some (.inl (cy 0, 60, .inl gn1)) := k211 _ _ a565 
            have a567 : f379 wna = some (.inl (cy 0, 60, .inl gn1)) := k381 _ _ a566 
            have a568 : f1 wpl = some (.inl (cy 0, 60, .inl gp1)) := k4 _ _ x_wpl (z_ne x_wpl x_o rfl)
            have a569 : f209 wpl = some (.inl (cy 0, 60, .inl gp1)) := k211 _ _ a568 
            have a570 : f379 wpl = some (.inl (cy 0, 60, .inl gp1)) := k381 _ _ a569 
            have a571 : f1 whs = some (.inl (cy 0, 4, .inl gs)) := k4 _ _ x_whs (z_ne x_whs x_o rfl)
            have a572 : f209 whs = some (.inl (cy 0, 4, .inl gs)) := k211 _ _ a571 
            have a573 : f379 whs = some (.inl (cy 0, 4, .inl gs)) := k381 _ _ a572 
            have a574 : f1 wk1 = some (.inl (cy 0, 40, .inl gx1)) := k4 _ _ x_wk1 (z_ne x_wk1 x_o rfl)
            have a575 : f209 wk1 = some (.inl (cy 0, 40, .inl gx1)) := k211 _ _ a574 
            have a576 : f379 wk1 = some (.inl (cy 0, 40, .inl gx1)) := k381 _ _ a575 
            have a577 : f1 wk2 = some (.inl (cy 0, 40, .inl gx2)) := k4 _ _ x_wk2 (z_ne x_wk2 x_o rfl)
            have a578 : f209 wk2 = some (.inl (cy 0, 40, .inl gx2)) := k211 _ _ a577 
            have a579 : f379 wk2 = some (.inl (cy 0, 40, .inl gx2)) := k381 _ _ a578 
            have a580 : f1 wk3 = some (.inl (cy 0, 40, .inl gx3)) := k4 _ _ x_wk3 (z_ne x_wk3 x_o rfl)
            have a581 : f209 wk3 = some (.inl (cy 0, 40, .inl gx3)) := k211 _ _ a580 
            have a582 : f379 wk3 = some (.inl (cy 0, 40, .inl gx3)) := k381 _ _ a581 
            have hq : q_pair nn x y = ((-3), 0, (-1), 0) := by simp [q_pair, oF_m1 nn, h60, hOlf, hNlf, hOrt, hNrt, c5, c212, c213, c382]
            exact z_iret C hr rfl hz hS ⟨0, (-1), 0, nl, nn, nf, nc, lk, ks, gv, gu, gk, gm, gc, gw, gl, gh, gt, gy, gq, ge1, gn1, gp1, gs, gx1, gx2, gx3, ln, fz, sq, (by rw [hq]), (by rw [hq]), (by rw [hq]), (by rw [hq]), (by rw [hq]; exact (zEV0 gv).symm), rfl, rfl, (by rw [if_neg (by decide)]), (by rw [if_neg (by decide)]), (by rw [if_neg (by decide)]), (by rw [if_neg (by decide)]), (by rw [if_neg (by decide)]), (zGC_no (by decide)), rfl, rfl, rfl, rfl, rfl, rfl, rfl, rfl, rfl, rfl, rfl, rfl, rfl, ⟨a383, a531, a534, a537, a540, a543, a546, a549, a552, a555, a558, a561, a564, a567, a570, a573, a576, a579, a582, hn60, hl12, hf6, hc60, hs40, hMP, hgy, hfz, hgs, hME, hlk, hgw, hfd, n_wki_wmy, n_wki_wiw, n_wki_wli, n_wki_wha, n_wki_wem, n_wki_wna, n_wki_wpl, n_wmy_wiw, n_wmy_wli, n_wmy_wha, n_wmy_wem, n_wmy_wna, n_wmy_wpl, n_wiw_wli, n_wiw_wha, n_wiw_wem, n_wiw_wna, n_wiw_wpl, n_wli_wha, n_wli_wem, n_wli_wna, n_wli_wpl, n_wha_wem, n_wha_wna, n_wha_wpl, n_wem_wna, n_wem_wpl, n_wna_wpl, n_wk1_wk2, n_wk1_wk3, n_wk2_wk3⟩⟩ (Nat.le_of_ble_eq_true rfl) (Nat.le_of_ble_eq_true rfl) dX8_pair_44
        · have hOrt : oF nn y = false := oF_f hn60 c213 hvrt
          have a583 : f209 o = some (.inr (8, [.int 0, .int (-1), .int 0, .ref wev, .int (nI nl), .ref wnb, .int (nI nn), .ref wki, .ref wmy, .ref wce, .ref wiw, .ref wli, .ref wha, .ref wwt, .int (nI nf), .ref wfy, .ref wfk, .int (nI nc), .ref wem, .ref wna, .ref wpl, .ref whs, .long lk, .int (nI ks), .ref wk1, .ref wk2, .ref wk3])) := k211 _ _ a3 
          refine z_callVi (As := [.int y]) C hz hS hA hl (k_X8_isFigure_B l D cy f209 o wev wnb wki wmy wce wiw wli wha wwt wfy wfk wem wna wpl whs wk1 wk2 wk3 0 (-1) 0 nl nn nf nc lk ks y a583 hn60 hvrt) zyX8_isFigure mMX8_139 a583 zl8 rfl rfl (Nat.le_of_ble_eq_true rfl) ⟨Nat.le_of_ble_eq_true rfl, Nat.le_of_ble_eq_true rfl⟩ ⟨Nat.le_of_ble_eq_true rfl, Nat.le_of_ble_eq_true rfl⟩ dX8_pair_24 (fun r f584 H locs h585 hz hS => ?_)
          obtain ⟨rfl, k586⟩ := h585
          refine lv_if_ne (tgt := 33) hx hb dX8_pair_27 (by decide) (fun c587 => ?_) (fun c587 => ?_)
          · exact absurd c587 (by decide)
          refine lv_bipush (v := (-2)) hx hb dX8_pair_30 (by decide) ?_
          have a588 : f584 o = some (.inr (8, [.int 0, .int (-1), .int 0, .ref wev, .int (nI nl), .ref wnb, .int (nI nn), .ref wki, .ref wmy, .ref wce, .ref wiw, .ref wli, .ref wha, .ref wwt, .int (nI nf), .ref wfy, .ref wfk, .int (nI nc), .ref wem, .ref wna, .ref wpl, .ref whs, .long lk, .int (nI ks), .ref wk1, .ref wk2, .ref wk3])) := k586 _ _ a583 
          have a589 : f1 wev = some (.inl (cy 0, 8, .inl gv)) := k4 _ _ x_wev (z_ne x_wev x_o rfl)
          have a590 : f209 wev = some (.inl (cy 0, 8, .inl gv)) := k211 _ _ a589 
          have a591 : f584 wev = some (.inl (cy 0, 8, .inl gv)) := k586 _ _ a590 
          have a592 : f1 wnb = some (.inl (cy 0, 12, .inl gu)) := k4 _ _ x_wnb (z_ne x_wnb x_o rfl)
          have a593 : f209 wnb = some (.inl (cy 0, 12, .inl gu)) := k211 _ _ a592 
          have a594 : f584 wnb = some (.inl (cy 0, 12, .inl gu)) := k586 _ _ a593 
          have a595 : f1 wki = some (.inl (cy 0, 60, .inl gk)) := k4 _ _ x_wki (z_ne x_wki x_o rfl)
          have a596 : f209 wki = some (.inl (cy 0, 60, .inl gk)) := k211 _ _ a595 
          have a597 : f584 wki = some (.inl (cy 0, 60, .inl gk)) := k586 _ _ a596 
          have a598 : f1 wmy = some (.inl (cy 0, 60, .inl gm)) := k4 _ _ x_wmy (z_ne x_wmy x_o rfl)
          have a599 : f209 wmy = some (.inl (cy 0, 60, .inl gm)) := k211 _ _ a598 
          have a600 : f584 wmy = some (.inl (cy 0, 60, .inl gm)) := k586 _ _ a599 
          have a601 : f1 wce = some (.inl (cy 1, 960, .inr (.inl gc))) := k4 _ _ x_wce (z_ne x_wce x_o rfl)
          have a602 : f209 wce = some (.inl (cy 1, 960, .inr (.inl gc))) := k211 _ _ a601 
          have a603 : f584 wce = some (.inl (cy 1, 960, .inr (.inl gc))) := k586 _ _ a602 
          have a604 : f1 wiw = some (.inl (cy 2, 60, .inl gw)) := k4 _ _ x_wiw (z_ne x_wiw x_o rfl)
          have a605 : f209 wiw = some (.inl (cy 2, 60, .inl gw)) := k211 _ _ a604 
          have a606 : f584 wiw = some (.inl (cy 2, 60, .inl gw)) := k586 _ _ a605 
          have a607 : f1 wli = some (.inl (cy 0, 60, .inl gl)) := k4 _ _ x_wli (z_ne x_wli x_o rfl)
          have a608 : f209 wli = some (.inl (cy 0, 60, .inl gl)) := k211 _ _ a607 
          have a609 : f584 wli = some (.inl (cy 0, 60, .inl gl)) := k586 _ _ a608 
          have a610 : f1 wha = some (.inl (cy 0, 60, .inl gh)) := k4 _ _ x_wha (z_ne x_wha x_o rfl)
          have a611 : f209 wha = some (.inl (cy 0, 60, .inl gh)) := k211 _ _ a610 
          have a612 : f584 wha = some (.inl (cy 0, 60, .inl gh)) := k586 _ _ a611 
          have a613 : f1 wwt = some (.inl (cy 1, 60, .inr (.inl gt))) := k4 _ _ x_wwt (z_ne x_wwt x_o rfl)
          have a614 : f209 wwt = some (.inl (cy 1, 60, .inr (.inl gt))) := k211 _ _ a613 
          have a615 : f584 wwt = some (.inl (cy 1, 60, .inr (.inl gt))) := k586 _ _ a614 
          have a616 : f1 wfy = some (.inl (cy 0, 6, .inl gy)) := k4 _ _ x_wfy (z_ne x_wfy x_o rfl)
          have a617 : f209 wfy = some (.inl (cy 0, 6, .inl gy)) := k211 _ _ a616 
          have a618 : f584 wfy = some (.inl (cy 0, 6, .inl gy)) := k586 _ _ a617 
          have a619 : f1 wfk = some (.inl (cy 0, 24, .inl gq)) := k4 _ _ x_wfk (z_ne x_wfk x_o rfl)
          have a620 : f209 wfk = some (.inl (cy 0, 24, .inl gq)) := k211 _ _ a619 
          have a621 : f584 wfk = some (.inl (cy 0, 24, .inl gq)) := k586 _ _ a620 
          have a622 : f1 wem = some (.inl (cy 0, 60, .inl ge1)) := k4 _ _ x_wem (z_ne x_wem x_o rfl)
          have a623 : f209 wem = some (.inl (cy 0, 60, .inl ge1)) := k211 _ _ a622 
          have a624 : f584 wem = some (.inl (cy 0, 60, .inl ge1)) := k586 _ _ a623 
          have a625 : f1 wna = some (.inl (cy 0, 60, .inl gn1)) := k4 _ _ x_wna (z_ne x_wna x_o rfl)
          have a626 : f209 wna = some (.inl (cy 0, 60, .inl gn1)) := k211 _ _ a625 
          have a627 : f584 wna = some (.inl (cy 0, 60, .inl gn1)) := k586 _ _ a626 
          have a628 : f1 wpl = some (.inl (cy 0, 60, .inl gp1)) := k4 _ _ x_wpl (z_ne x_wpl x_o rfl)
          have a629 : f209 wpl = some (.inl (cy 0, 60, .inl gp1)) := k211 _ _ a628 
          have a630 : f584 wpl = some (.inl (cy 0, 60, .inl gp1)) := k586 _ _ a629 
          have a631 : f1 whs = some (.inl (cy 0, 4, .inl gs)) := k4 _ _ x_whs (z_ne x_whs x_o rfl)
          have a632 : f209 whs = some (.inl (cy 0, 4, .inl gs)) := k211 _ _ a631 
          have a633 : f584 whs = some (.inl (cy 0, 4, .inl gs)) := k586 _ _ a632 
          have a634 : f1 wk1 = some (.inl (cy 0, 40, .inl gx1)) := k4 _ _ x_wk1 (z_ne x_wk1 x_o rfl)
          have a635 : f209 wk1 = some (.inl (cy 0, 40, .inl gx1)) := k211 _ _ a634 
          have a636 : f584 wk1 = some (.inl (cy 0, 40, .inl gx1)) := k586 _ _ a635 
          have a637 : f1 wk2 = some (.inl (cy 0, 40, .inl gx2)) := k4 _ _ x_wk2 (z_ne x_wk2 x_o rfl)
          have a638 : f209 wk2 = some (.inl (cy 0, 40, .inl gx2)) := k211 _ _ a637 
          have a639 : f584 wk2 = some (.inl (cy 0, 40, .inl gx2)) := k586 _ _ a638 
          have a640 : f1 wk3 = some (.inl (cy 0, 40, .inl gx3)) := k4 _ _ x_wk3 (z_ne x_wk3 x_o rfl)
          have a641 : f209 wk3 = some (.inl (cy 0, 40, .inl gx3)) := k211 _ _ a640 
          have a642 : f584 wk3 = some (.inl (cy 0, 40, .inl gx3)) := k586 _ _ a641 
          have hq : q_pair nn x y = ((-2), 0, (-1), 0) := by simp [q_pair, oF_m1 nn, hOlf, hNlf, hOrt, c5, c212, c213, c587]
          exact z_iret C hr rfl hz hS ⟨0, (-1), 0, nl, nn, nf, nc, lk, ks, gv, gu, gk, gm, gc, gw, gl, gh, gt, gy, gq, ge1, gn1, gp1, gs, gx1, gx2, gx3, ln, fz, sq, (by rw [hq]), (by rw [hq]), (by rw [hq]), (by rw [hq]), (by rw [hq]; exact (zEV0 gv).symm), rfl, rfl, (by rw [if_neg (by decide)]), (by rw [if_neg (by decide)]), (by rw [if_neg (by decide)]), (by rw [if_neg (by decide)]), (by rw [if_neg (by decide)]), (zGC_no (by decide)), rfl, rfl, rfl, rfl, rfl, rfl, rfl, rfl, rfl, rfl, rfl, rfl, rfl, ⟨a588, a591, a594, a597, a600, a603, a606, a609, a612, a615, a618, a621, a624, a627, a630, a633, a636, a639, a642, hn60, hl12, hf6, hc60, hs40, hMP, hgy, hfz, hgs, hME, hlk, hgw, hfd, n_wki_wmy, n_wki_wiw, n_wki_wli, n_wki_wha, n_wki_wem, n_wki_wna, n_wki_wpl, n_wmy_wiw, n_wmy_wli, n_wmy_wha, n_wmy_wem, n_wmy_wna, n_wmy_wpl, n_wiw_wli, n_wiw_wha, n_wiw_wem, n_wiw_wna, n_wiw_wpl, n_wli_wha, n_wli_wem, n_wli_wna, n_wli_wpl, n_wha_wem, n_wha_wna, n_wha_wpl, n_wem_wna, n_wem_wpl, n_wna_wpl, n_wk1_wk2, n_wk1_wk3, n_wk2_wk3⟩⟩ (Nat.le_of_ble_eq_true rfl) (Nat.le_of_ble_eq_true rfl) dX8_pair_32
    · have hOlf : oF nn x = false := oF_f hn60 c5 hvlf
      refine z_callVi (As := [.int x]) C hz hS hA hl (k_X8_isFigure_B l D cy f1 o wev wnb wki wmy wce wiw wli wha wwt wfy wfk wem wna wpl whs wk1 wk2 wk3 0 (-1) 0 nl nn nf nc lk ks x a3 hn60 hvlf) zyX8_isFigure mMX8_139 a3 zl8 rfl rfl (Nat.le_of_ble_eq_true rfl) ⟨Nat.le_of_ble_eq_true rfl, Nat.le_of_ble_eq_true rfl⟩ ⟨Nat.le_of_ble_eq_true rfl, Nat.le_of_ble_eq_true rfl⟩ dX8_pair_11 (fun r f643 H locs h644 hz hS => ?_)
      obtain ⟨rfl, k645⟩ := h644
      refine lv_if_eq (tgt := 30) hx hb dX8_pair_14 (by decide) (fun c646 => ?_) (fun c646 => ?_)
      rotate_left
      · exact absurd c646 (by decide)
      refine lv_bipush (v := (-2)) hx hb dX8_pair_30 (by decide) ?_
      have a647 : f643 o = some (.inr (8, [.int 0, .int (-1), .int 0, .ref wev, .int (nI nl), .ref wnb, .int (nI nn), .ref wki, .ref wmy, .ref wce, .ref wiw, .ref wli, .ref wha, .ref wwt, .int (nI nf), .ref wfy, .ref wfk, .int (nI nc), .ref wem, .ref wna, .ref wpl, .ref whs, .long lk, .int (nI ks), .ref wk1, .ref wk2, .ref wk3])) := k645 _ _ a3 
      have a648 : f1 wev = some (.inl (cy 0, 8, .inl gv)) := k4 _ _ x_wev (z_ne x_wev x_o rfl)
      have a649 : f643 wev = some (.inl (cy 0, 8, .inl gv)) := k645 _ _ a648 
      have a650 : f1 wnb = some (.inl (cy 0, 12, .inl gu)) := k4 _ _ x_wnb (z_ne x_wnb x_o rfl)
      have a651 : f643 wnb = some (.inl (cy 0, 12, .inl gu)) := k645 _ _ a650 
      have a652 : f1 wki = some (.inl (cy 0, 60, .inl gk)) := k4 _ _ x_wki (z_ne x_wki x_o rfl)
      have a653 : f643 wki = some (.inl (cy 0, 60, .inl gk)) := k645 _ _ a652 
      have a654 : f1 wmy = some (.inl (cy 0, 60, .inl gm)) := k4 _ _ x_wmy (z_ne x_wmy x_o rfl)
      have a655 : f643 wmy = some (.inl (cy 0, 60, .inl gm)) := k645 _ _ a654 
      have a656 : f1 wce = some (.inl (cy 1, 960, .inr (.inl gc))) := k4 _ _ x_wce (z_ne x_wce x_o rfl)
      have a657 : f643 wce = some (.inl (cy 1, 960, .inr (.inl gc))) := k645 _ _ a656 
      have a658 : f1 wiw = some (.inl (cy 2, 60, .inl gw)) := k4 _ _ x_wiw (z_ne x_wiw x_o rfl)
      have a659 : f643 wiw = some (.inl (cy 2, 60, .inl gw)) := k645 _ _ a658 
      have a660 : f1 wli = some (.inl (cy 0, 60, .inl gl)) := k4 _ _ x_wli (z_ne x_wli x_o rfl)
      have a661 : f643 wli = some (.inl (cy 0, 60, .inl gl)) := k645 _ _ a660 
      have a662 : f1 wha = some (.inl (cy 0, 60, .inl gh)) := k4 _ _ x_wha (z_ne x_wha x_o rfl)
      have a663 : f643 wha = some (.inl (cy 0, 60, .inl gh)) := k645 _ _ a662 
      have a664 : f1 wwt = some (.inl (cy 1, 60, .inr (.inl gt))) := k4 _ _ x_wwt (z_ne x_wwt x_o rfl)
      have a665 : f643 wwt = some (.inl (cy 1, 60, .inr (.inl gt))) := k645 _ _ a664 
      have a666 : f1 wfy = some (.inl (cy 0, 6, .inl gy)) := k4 _ _ x_wfy (z_ne x_wfy x_o rfl)
      have a667 : f643 wfy = some (.inl (cy 0, 6, .inl gy)) := k645 _ _ a666 
      have a668 : f1 wfk = some (.inl (cy 0, 24, .inl gq)) := k4 _ _ x_wfk (z_ne x_wfk x_o rfl)
      have a669 : f643 wfk = some (.inl (cy 0, 24, .inl gq)) := k645 _ _ a668 
      have a670 : f1 wem = some (.inl (cy 0, 60, .inl ge1)) := k4 _ _ x_wem (z_ne x_wem x_o rfl)
      have a671 : f643 wem = some (.inl (cy 0, 60, .inl ge1)) := k645 _ _ a670 
      have a672 : f1 wna = some (.inl (cy 0, 60, .inl gn1)) := k4 _ _ x_wna (z_ne x_wna x_o rfl)
      have a673 : f643 wna = some (.inl (cy 0, 60, .inl gn1)) := k645 _ _ a672 
      have a674 : f1 wpl = some (.inl (cy 0, 60, .inl gp1)) := k4 _ _ x_wpl (z_ne x_wpl x_o rfl)
      have a675 : f643 wpl = some (.inl (cy 0, 60, .inl gp1)) := k645 _ _ a674 
      have a676 : f1 whs = some (.inl (cy 0, 4, .inl gs)) := k4 _ _ x_whs (z_ne x_whs x_o rfl)
      have a677 : f643 whs = some (.inl (cy 0, 4, .inl gs)) := k645 _ _ a676 
      have a678 : f1 wk1 = some (.inl (cy 0, 40, .inl gx1)) := k4 _ _ x_wk1 (z_ne x_wk1 x_o rfl)
      have a679 : f643 wk1 = some (.inl (cy 0, 40, .inl gx1)) := k645 _ _ a678 
      have a680 : f1 wk2 = some (.inl (cy 0, 40, .inl gx2)) := k4 _ _ x_wk2 (z_ne x_wk2 x_o rfl)
      have a681 : f643 wk2 = some (.inl (cy 0, 40, .inl gx2)) := k645 _ _ a680 
      have a682 : f1 wk3 = some (.inl (cy 0, 40, .inl gx3)) := k4 _ _ x_wk3 (z_ne x_wk3 x_o rfl)
      have a683 : f643 wk3 = some (.inl (cy 0, 40, .inl gx3)) := k645 _ _ a682 
      have hq : q_pair nn x y = ((-2), 0, (-1), 0) := by simp [q_pair, oF_m1 nn, hOlf, c5, c646]
      exact z_iret C hr rfl hz hS ⟨0, (-1), 0, nl, nn, nf, nc, lk, ks, gv, gu, gk, gm, gc, gw, gl, gh, gt, gy, gq, ge1, gn1, gp1, gs, gx1, gx2, gx3, ln, fz, sq, (by rw [hq]), (by rw [hq]), (by rw [hq]), (by rw [hq]), (by rw [hq]; exact (zEV0 gv).symm), rfl, rfl, (by rw [if_neg (by decide)]), (by rw [if_neg (by decide)]), (by rw [if_neg (by decide)]), (by rw [if_neg (by decide)]), (by rw [if_neg (by decide)]), (zGC_no (by decide)), rfl, rfl, rfl, rfl, rfl, rfl, rfl, rfl, rfl, rfl, rfl, rfl, rfl, ⟨a647, a649, a651, a653, a655, a657, a659, a661, a663, a665, a667, a669, a671, a673, a675, a677, a679, a681, a683, hn60, hl12, hf6, hc60, hs40, hMP, hgy, hfz, hgs, hME, hlk, hgw, hfd, n_wki_wmy, n_wki_wiw, n_wki_wli, n_wki_wha, n_wki_wem, n_wki_wna, n_wki_wpl, n_wmy_wiw, n_wmy_wli, n_wmy_wha, n_wmy_wem, n_wmy_wna, n_wmy_wpl, n_wiw_wli, n_wiw_wha, n_wiw_wem, n_wiw_wna, n_wiw_wpl, n_wli_wha, n_wli_wem, n_wli_wna, n_wli_wpl, n_wha_wem, n_wha_wna, n_wha_wpl, n_wem_wna, n_wem_wpl, n_wna_wpl, n_wk1_wk2, n_wk1_wk3, n_wk2_wk3⟩⟩ (Nat.le_of_ble_eq_true rfl) (Nat.le_of_ble_eq_true rfl) dX8_pair_32
