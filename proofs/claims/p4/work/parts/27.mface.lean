abbrev rmX8_pair : Room := { frames := 3, cells := 0, slots := 0, locals := 67 }
set_option maxHeartbeats 4000000 in
set_option maxRecDepth 100000 in
theorem k_X8_pair (l : Launch) (D : va_G) (cy : Nat → ClassId) (f : zM) (o : Nat) (wev : Nat) (wnb : Nat) (wki : Nat) (wmy : Nat) (wce : Nat) (wiw : Nat) (wli : Nat) (wha : Nat) (wwt : Nat) (wfy : Nat) (wfk : Nat) (wem : Nat) (wna : Nat) (wpl : Nat) (whs : Nat) (wk1 : Nat) (wk2 : Nat) (wk3 : Nat) (u1 : Int32) (u2 : Int32) (u3 : Int32) (nl : Nat) (nn : Nat) (nf : Nat) (nc : Nat) (lk : Int64) (ks : Nat) (gv : Nat → Int32) (gu : Nat → Int32) (gk : Nat → Int32) (gm : Nat → Int32) (gc : Nat → Int64) (gw : Nat → Int32) (gl : Nat → Int32) (gh : Nat → Int32) (gt : Nat → Int64) (gy : Nat → Int32) (gq : Nat → Int32) (ge1 : Nat → Int32) (gn1 : Nat → Int32) (gp1 : Nat → Int32) (gs : Nat → Int32) (gx1 : Nat → Int32) (gx2 : Nat → Int32) (gx3 : Nat → Int32) (ln : Nat → Nat) (fz : Nat → Nat) (sq : Nat → Nat) (x : Int32) (y : Int32)    (hI : zIM cy f o wev wnb wki wmy wce wiw wli wha wwt wfy wfk wem wna wpl whs wk1 wk2 wk3 u1 u2 u3 nl nn nf nc lk ks gv gu gk gm gc gw gl gh gt gy gq ge1 gn1 gp1 gs gx1 gx2 gx3 ln fz sq) : zCi l D cy yX8_pair cX8_pair 3 (Option.some Jvm.ClassFile.FieldType.int) rmX8_pair [.ref o, .int x, .int y] f (fun (r : Int32) (f1 : zM) => ∃ (u11 : Int32) (u21 : Int32) (u31 : Int32) (nl1 : Nat) (nn1 : Nat) (nf1 : Nat) (nc1 : Nat) (lk1 : Int64) (ks1 : Nat) (gv1 : Nat → Int32) (gu1 : Nat → Int32) (gk1 : Nat → Int32) (gm1 : Nat → Int32) (gc1 : Nat → Int64) (gw1 : Nat → Int32) (gl1 : Nat → Int32) (gh1 : Nat → Int32) (gt1 : Nat → Int64) (gy1 : Nat → Int32) (gq1 : Nat → Int32) (ge11 : Nat → Int32) (gn11 : Nat → Int32) (gp11 : Nat → Int32) (gs1 : Nat → Int32) (gx11 : Nat → Int32) (gx21 : Nat → Int32) (gx31 : Nat → Int32) (ln1 : Nat → Nat) (fz1 : Nat → Nat) (sq1 : Nat → Nat), (nl1 = nl) ∧ (nn1 = if 0 ≤ r then nn + 1 else nn) ∧ zIM cy f1 o wev wnb wki wmy wce wiw wli wha wwt wfy wfk wem wna wpl whs wk1 wk2 wk3 u11 u21 u31 nl1 nn1 nf1 nc1 lk1 ks1 gv1 gu1 gk1 gm1 gc1 gw1 gl1 gh1 gt1 gy1 gq1 ge11 gn11 gp11 gs1 gx11 gx21 gx31 ln1 fz1 sq1) := by
  intro sz
  refine z_body (by decide +kernel) (Nat.le_of_ble_eq_true rfl) ?_
  intro p e s m below meth c ls C hr hin hsz hz hl
  subst hsz
  have hx := C.1
  have hb := C.2.1
  have hA : ∀ q, s.heap.size ≤ q → zA f s.heap.size q := fun q h => Or.inr h
  have hS : va_S (zA f s.heap.size) s.heap s.heap [] := va_S.rf
  have hl : lv_has ls 3 [(0, .ref o), (1, .int x), (2, .int y)] := hl
  obtain ⟨x_o, x_wev, x_wnb, x_wki, x_wmy, x_wce, x_wiw, x_wli, x_wha, x_wwt, x_wfy, x_wfk, x_wem, x_wna, x_wpl, x_whs, x_wk1, x_wk2, x_wk3, hn60, hl12, hf6, hc60, hs40, hMP, hgy, hfz, hgs, hME, hlk, n_wki_wmy, n_wki_wiw, n_wki_wli, n_wki_wha, n_wki_wem, n_wki_wna, n_wki_wpl, n_wmy_wiw, n_wmy_wli, n_wmy_wha, n_wmy_wem, n_wmy_wna, n_wmy_wpl, n_wiw_wli, n_wiw_wha, n_wiw_wem, n_wiw_wna, n_wiw_wpl, n_wli_wha, n_wli_wem, n_wli_wna, n_wli_wpl, n_wha_wem, n_wha_wna, n_wha_wpl, n_wem_wna, n_wem_wpl, n_wna_wpl, n_wk1_wk2, n_wk1_wk3, n_wk2_wk3⟩ := id hI
  refine lv_aload_n hx hb dX8_pair_0 rfl (lv_at hl 0 rfl) ?_
  refine z_callVv (As := []) C hz hS hA hl (k_X8_begin l D cy f o wev wnb wki wmy wce wiw wli wha wwt wfy wfk wem wna wpl whs wk1 wk2 wk3 u1 u2 u3 nl nn nf nc lk ks x_o ) zyX8_begin mMX8_116 x_o zl8 rfl rfl (Nat.le_of_ble_eq_true rfl) ⟨Nat.le_of_ble_eq_true rfl, Nat.le_of_ble_eq_true rfl⟩ ⟨Nat.le_of_ble_eq_true rfl, Nat.le_of_ble_eq_true rfl⟩ dX8_pair_1 (fun  f1 H locs h2 hz hS => ?_)
  obtain ⟨a3, k4⟩ := h2
  refine lv_iload_n hx hb dX8_pair_4 rfl (lv_at hl 1 rfl) ?_
  refine lv_iconst (v := (-1)) hx hb dX8_pair_5 (by decide) ?_
  refine lv_icmp_eq (tgt := 17) hx hb dX8_pair_6 (by decide) (fun c5 => ?_) (fun c5 => ?_)
  · refine lv_iload_n hx hb dX8_pair_17 rfl (lv_at hl 2 rfl) ?_
    refine lv_iconst (v := (-1)) hx hb dX8_pair_18 (by decide) ?_
    refine lv_icmp_eq (tgt := 33) hx hb dX8_pair_19 (by decide) (fun c6 => ?_) (fun c6 => ?_)
    · refine lv_aload_n hx hb dX8_pair_33 rfl (lv_at hl 0 rfl) ?_
      refine z_get (v := .int (nI nn)) C hz a3 zl8 mFX8_83 (by decide) rfl dX8_pair_34 ?_
      refine lv_bipush (v := 60) hx hb dX8_pair_37 (by decide) ?_
      refine lv_icmp_ne (tgt := 45) hx hb dX8_pair_39 (by decide) (fun c7 => ?_) (fun c7 => ?_)
      · replace c7 : ¬ (nn = 60) := fun h => c7 ((nI_eq (a := nn) (b := 60) (by omega) (by omega)).mpr h)
        have h60 : nn < 60 := by omega
        refine lv_iload_n hx hb dX8_pair_45 rfl (lv_at hl 1 rfl) ?_
        refine lv_iconst (v := (-1)) hx hb dX8_pair_46 (by decide) ?_
        refine lv_icmp_ne (tgt := 58) hx hb dX8_pair_47 (by decide) (fun c8 => ?_) (fun c8 => ?_)
        · exact absurd c5 c8
        refine lv_aload_n hx hb dX8_pair_50 rfl (lv_at hl 0 rfl) ?_
        refine lv_iconst (v := 1) hx hb dX8_pair_51 (by decide) ?_
        refine lv_iconst (v := 0) hx hb dX8_pair_52 (by decide) ?_
        refine lv_iconst (v := 0) hx hb dX8_pair_53 (by decide) ?_
        have a9 : f1 wev = some (.inl (cy 0, 8, .inl gv)) := k4 _ _ x_wev (z_ne x_wev x_o rfl)
        refine z_callVi (As := [.int 1, .int 0, .int 0]) C hz hS hA hl (k_X8_fails l D cy f1 o wev wnb wki wmy wce wiw wli wha wwt wfy wfk wem wna wpl whs wk1 wk2 wk3 0 (-1) 0 nl nn nf nc lk ks 1 0 0 gv 1 a3 a9 (by decide) (Nat.le_of_ble_eq_true rfl)) zyX8_fails mMX8_135 a3 zl8 rfl rfl (Nat.le_of_ble_eq_true rfl) ⟨Nat.le_of_ble_eq_true rfl, Nat.le_of_ble_eq_true rfl⟩ ⟨Nat.le_of_ble_eq_true rfl, Nat.le_of_ble_eq_true rfl⟩ dX8_pair_54 (fun r f10 H locs h11 hz hS => ?_)
        obtain ⟨rfl, a12, a13, k14⟩ := h11
        have a15 : f1 wnb = some (.inl (cy 0, 12, .inl gu)) := k4 _ _ x_wnb (z_ne x_wnb x_o rfl)
        have a16 : f10 wnb = some (.inl (cy 0, 12, .inl gu)) := k14 _ _ a15 (z_ne a15 a3 rfl) (z_ne a15 a9 rfl)
        have a17 : f1 wki = some (.inl (cy 0, 60, .inl gk)) := k4 _ _ x_wki (z_ne x_wki x_o rfl)
        have a18 : f10 wki = some (.inl (cy 0, 60, .inl gk)) := k14 _ _ a17 (z_ne a17 a3 rfl) (z_ne a17 a9 rfl)
        have a19 : f1 wmy = some (.inl (cy 0, 60, .inl gm)) := k4 _ _ x_wmy (z_ne x_wmy x_o rfl)
        have a20 : f10 wmy = some (.inl (cy 0, 60, .inl gm)) := k14 _ _ a19 (z_ne a19 a3 rfl) (z_ne a19 a9 rfl)
        have a21 : f1 wce = some (.inl (cy 1, 960, .inr (.inl gc))) := k4 _ _ x_wce (z_ne x_wce x_o rfl)
        have a22 : f10 wce = some (.inl (cy 1, 960, .inr (.inl gc))) := k14 _ _ a21 (z_ne a21 a3 rfl) (z_ne a21 a9 rfl)
        have a23 : f1 wiw = some (.inl (cy 2, 60, .inl gw)) := k4 _ _ x_wiw (z_ne x_wiw x_o rfl)
        have a24 : f10 wiw = some (.inl (cy 2, 60, .inl gw)) := k14 _ _ a23 (z_ne a23 a3 rfl) (z_ne a23 a9 rfl)
        have a25 : f1 wli = some (.inl (cy 0, 60, .inl gl)) := k4 _ _ x_wli (z_ne x_wli x_o rfl)
        have a26 : f10 wli = some (.inl (cy 0, 60, .inl gl)) := k14 _ _ a25 (z_ne a25 a3 rfl) (z_ne a25 a9 rfl)
        have a27 : f1 wha = some (.inl (cy 0, 60, .inl gh)) := k4 _ _ x_wha (z_ne x_wha x_o rfl)
        have a28 : f10 wha = some (.inl (cy 0, 60, .inl gh)) := k14 _ _ a27 (z_ne a27 a3 rfl) (z_ne a27 a9 rfl)
        have a29 : f1 wwt = some (.inl (cy 1, 60, .inr (.inl gt))) := k4 _ _ x_wwt (z_ne x_wwt x_o rfl)
        have a30 : f10 wwt = some (.inl (cy 1, 60, .inr (.inl gt))) := k14 _ _ a29 (z_ne a29 a3 rfl) (z_ne a29 a9 rfl)
        have a31 : f1 wfy = some (.inl (cy 0, 6, .inl gy)) := k4 _ _ x_wfy (z_ne x_wfy x_o rfl)
        have a32 : f10 wfy = some (.inl (cy 0, 6, .inl gy)) := k14 _ _ a31 (z_ne a31 a3 rfl) (z_ne a31 a9 rfl)
        have a33 : f1 wfk = some (.inl (cy 0, 24, .inl gq)) := k4 _ _ x_wfk (z_ne x_wfk x_o rfl)
        have a34 : f10 wfk = some (.inl (cy 0, 24, .inl gq)) := k14 _ _ a33 (z_ne a33 a3 rfl) (z_ne a33 a9 rfl)
        have a35 : f1 wem = some (.inl (cy 0, 60, .inl ge1)) := k4 _ _ x_wem (z_ne x_wem x_o rfl)
        have a36 : f10 wem = some (.inl (cy 0, 60, .inl ge1)) := k14 _ _ a35 (z_ne a35 a3 rfl) (z_ne a35 a9 rfl)
        have a37 : f1 wna = some (.inl (cy 0, 60, .inl gn1)) := k4 _ _ x_wna (z_ne x_wna x_o rfl)
        have a38 : f10 wna = some (.inl (cy 0, 60, .inl gn1)) := k14 _ _ a37 (z_ne a37 a3 rfl) (z_ne a37 a9 rfl)
        have a39 : f1 wpl = some (.inl (cy 0, 60, .inl gp1)) := k4 _ _ x_wpl (z_ne x_wpl x_o rfl)
        have a40 : f10 wpl = some (.inl (cy 0, 60, .inl gp1)) := k14 _ _ a39 (z_ne a39 a3 rfl) (z_ne a39 a9 rfl)
        have a41 : f1 whs = some (.inl (cy 0, 4, .inl gs)) := k4 _ _ x_whs (z_ne x_whs x_o rfl)
        have a42 : f10 whs = some (.inl (cy 0, 4, .inl gs)) := k14 _ _ a41 (z_ne a41 a3 rfl) (z_ne a41 a9 rfl)
        have a43 : f1 wk1 = some (.inl (cy 0, 40, .inl gx1)) := k4 _ _ x_wk1 (z_ne x_wk1 x_o rfl)
        have a44 : f10 wk1 = some (.inl (cy 0, 40, .inl gx1)) := k14 _ _ a43 (z_ne a43 a3 rfl) (z_ne a43 a9 rfl)
        have a45 : f1 wk2 = some (.inl (cy 0, 40, .inl gx2)) := k4 _ _ x_wk2 (z_ne x_wk2 x_o rfl)
        have a46 : f10 wk2 = some (.inl (cy 0, 40, .inl gx2)) := k14 _ _ a45 (z_ne a45 a3 rfl) (z_ne a45 a9 rfl)
        have a47 : f1 wk3 = some (.inl (cy 0, 40, .inl gx3)) := k4 _ _ x_wk3 (z_ne x_wk3 x_o rfl)
        have a48 : f10 wk3 = some (.inl (cy 0, 40, .inl gx3)) := k14 _ _ a47 (z_ne a47 a3 rfl) (z_ne a47 a9 rfl)
        exact z_iret C hr rfl hz hS ⟨1, 0, 0, nl, nn, nf, nc, lk, ks, (upd gv 1 (gv 1 + 1)), gu, gk, gm, gc, gw, gl, gh, gt, gy, gq, ge1, gn1, gp1, gs, gx1, gx2, gx3, ln, fz, sq, rfl, (by rw [if_neg (by decide)]), ⟨a12, a13, a16, a18, a20, a22, a24, a26, a28, a30, a32, a34, a36, a38, a40, a42, a44, a46, a48, hn60, hl12, hf6, hc60, hs40, hMP, hgy, hfz, hgs, hME, hlk, n_wki_wmy, n_wki_wiw, n_wki_wli, n_wki_wha, n_wki_wem, n_wki_wna, n_wki_wpl, n_wmy_wiw, n_wmy_wli, n_wmy_wha, n_wmy_wem, n_wmy_wna, n_wmy_wpl, n_wiw_wli, n_wiw_wha, n_wiw_wem, n_wiw_wna, n_wiw_wpl, n_wli_wha, n_wli_wem, n_wli_wna, n_wli_wpl, n_wha_wem, n_wha_wna, n_wha_wpl, n_wem_wna, n_wem_wpl, n_wna_wpl, n_wk1_wk2, n_wk1_wk3, n_wk2_wk3⟩⟩ (Nat.le_of_ble_eq_true rfl) (Nat.le_of_ble_eq_true rfl) dX8_pair_57
      · replace c7 : (nn = 60) := (nI_eq (a := nn) (b := 60) (by omega) (by omega)).mp c7
        have h60 : ¬ nn < 60 := by omega
        refine lv_bipush (v := (-3)) hx hb dX8_pair_42 (by decide) ?_
        have a49 : f1 wev = some (.inl (cy 0, 8, .inl gv)) := k4 _ _ x_wev (z_ne x_wev x_o rfl)
        have a50 : f1 wnb = some (.inl (cy 0, 12, .inl gu)) := k4 _ _ x_wnb (z_ne x_wnb x_o rfl)
        have a51 : f1 wki = some (.inl (cy 0, 60, .inl gk)) := k4 _ _ x_wki (z_ne x_wki x_o rfl)
        have a52 : f1 wmy = some (.inl (cy 0, 60, .inl gm)) := k4 _ _ x_wmy (z_ne x_wmy x_o rfl)
        have a53 : f1 wce = some (.inl (cy 1, 960, .inr (.inl gc))) := k4 _ _ x_wce (z_ne x_wce x_o rfl)
        have a54 : f1 wiw = some (.inl (cy 2, 60, .inl gw)) := k4 _ _ x_wiw (z_ne x_wiw x_o rfl)
        have a55 : f1 wli = some (.inl (cy 0, 60, .inl gl)) := k4 _ _ x_wli (z_ne x_wli x_o rfl)
        have a56 : f1 wha = some (.inl (cy 0, 60, .inl gh)) := k4 _ _ x_wha (z_ne x_wha x_o rfl)
        have a57 : f1 wwt = some (.inl (cy 1, 60, .inr (.inl gt))) := k4 _ _ x_wwt (z_ne x_wwt x_o rfl)
        have a58 : f1 wfy = some (.inl (cy 0, 6, .inl gy)) := k4 _ _ x_wfy (z_ne x_wfy x_o rfl)
        have a59 : f1 wfk = some (.inl (cy 0, 24, .inl gq)) := k4 _ _ x_wfk (z_ne x_wfk x_o rfl)
        have a60 : f1 wem = some (.inl (cy 0, 60, .inl ge1)) := k4 _ _ x_wem (z_ne x_wem x_o rfl)
        have a61 : f1 wna = some (.inl (cy 0, 60, .inl gn1)) := k4 _ _ x_wna (z_ne x_wna x_o rfl)
        have a62 : f1 wpl = some (.inl (cy 0, 60, .inl gp1)) := k4 _ _ x_wpl (z_ne x_wpl x_o rfl)
        have a63 : f1 whs = some (.inl (cy 0, 4, .inl gs)) := k4 _ _ x_whs (z_ne x_whs x_o rfl)
        have a64 : f1 wk1 = some (.inl (cy 0, 40, .inl gx1)) := k4 _ _ x_wk1 (z_ne x_wk1 x_o rfl)
        have a65 : f1 wk2 = some (.inl (cy 0, 40, .inl gx2)) := k4 _ _ x_wk2 (z_ne x_wk2 x_o rfl)
        have a66 : f1 wk3 = some (.inl (cy 0, 40, .inl gx3)) := k4 _ _ x_wk3 (z_ne x_wk3 x_o rfl)
        exact z_iret C hr rfl hz hS ⟨0, (-1), 0, nl, nn, nf, nc, lk, ks, gv, gu, gk, gm, gc, gw, gl, gh, gt, gy, gq, ge1, gn1, gp1, gs, gx1, gx2, gx3, ln, fz, sq, rfl, (by rw [if_neg (by decide)]), ⟨a3, a49, a50, a51, a52, a53, a54, a55, a56, a57, a58, a59, a60, a61, a62, a63, a64, a65, a66, hn60, hl12, hf6, hc60, hs40, hMP, hgy, hfz, hgs, hME, hlk, n_wki_wmy, n_wki_wiw, n_wki_wli, n_wki_wha, n_wki_wem, n_wki_wna, n_wki_wpl, n_wmy_wiw, n_wmy_wli, n_wmy_wha, n_wmy_wem, n_wmy_wna, n_wmy_wpl, n_wiw_wli, n_wiw_wha, n_wiw_wem, n_wiw_wna, n_wiw_wpl, n_wli_wha, n_wli_wem, n_wli_wna, n_wli_wpl, n_wha_wem, n_wha_wna, n_wha_wpl, n_wem_wna, n_wem_wpl, n_wna_wpl, n_wk1_wk2, n_wk1_wk3, n_wk2_wk3⟩⟩ (Nat.le_of_ble_eq_true rfl) (Nat.le_of_ble_eq_true rfl) dX8_pair_44
    · refine lv_aload_n hx hb dX8_pair_22 rfl (lv_at hl 0 rfl) ?_
      refine lv_iload_n hx hb dX8_pair_23 rfl (lv_at hl 2 rfl) ?_
      rcases z_findi y nn with ⟨jr, hjr, hvrt⟩ | hvrt
      · refine z_callVi (As := [.int y]) C hz hS hA hl (k_X8_isFigure_A l D cy f1 o wev wnb wki wmy wce wiw wli wha wwt wfy wfk wem wna wpl whs wk1 wk2 wk3 0 (-1) 0 nl nn nf nc lk ks y jr a3 hn60 hvrt hjr) zyX8_isFigure mMX8_139 a3 zl8 rfl rfl (Nat.le_of_ble_eq_true rfl) ⟨Nat.le_of_ble_eq_true rfl, Nat.le_of_ble_eq_true rfl⟩ ⟨Nat.le_of_ble_eq_true rfl, Nat.le_of_ble_eq_true rfl⟩ dX8_pair_24 (fun r f67 H locs h68 hz hS => ?_)
        obtain ⟨rfl, k69⟩ := h68
        refine lv_if_ne (tgt := 33) hx hb dX8_pair_27 (by decide) (fun c70 => ?_) (fun c70 => ?_)
        rotate_left
        · exact absurd c70 (by decide)
        refine lv_aload_n hx hb dX8_pair_33 rfl (lv_at hl 0 rfl) ?_
        have a71 : f67 o = some (.inr (8, [.int 0, .int (-1), .int 0, .ref wev, .int (nI nl), .ref wnb, .int (nI nn), .ref wki, .ref wmy, .ref wce, .ref wiw, .ref wli, .ref wha, .ref wwt, .int (nI nf), .ref wfy, .ref wfk, .int (nI nc), .ref wem, .ref wna, .ref wpl, .ref whs, .long lk, .int (nI ks), .ref wk1, .ref wk2, .ref wk3])) := k69 _ _ a3 
        refine z_get (v := .int (nI nn)) C hz a71 zl8 mFX8_83 (by decide) rfl dX8_pair_34 ?_
        refine lv_bipush (v := 60) hx hb dX8_pair_37 (by decide) ?_
        refine lv_icmp_ne (tgt := 45) hx hb dX8_pair_39 (by decide) (fun c72 => ?_) (fun c72 => ?_)
        · replace c72 : ¬ (nn = 60) := fun h => c72 ((nI_eq (a := nn) (b := 60) (by omega) (by omega)).mpr h)
          have h60 : nn < 60 := by omega
          refine lv_iload_n hx hb dX8_pair_45 rfl (lv_at hl 1 rfl) ?_
          refine lv_iconst (v := (-1)) hx hb dX8_pair_46 (by decide) ?_
          refine lv_icmp_ne (tgt := 58) hx hb dX8_pair_47 (by decide) (fun c73 => ?_) (fun c73 => ?_)
          · exact absurd c5 c73
          refine lv_aload_n hx hb dX8_pair_50 rfl (lv_at hl 0 rfl) ?_
          refine lv_iconst (v := 1) hx hb dX8_pair_51 (by decide) ?_
          refine lv_iconst (v := 0) hx hb dX8_pair_52 (by decide) ?_
          refine lv_iconst (v := 0) hx hb dX8_pair_53 (by decide) ?_
          have a74 : f1 wev = some (.inl (cy 0, 8, .inl gv)) := k4 _ _ x_wev (z_ne x_wev x_o rfl)
          have a75 : f67 wev = some (.inl (cy 0, 8, .inl gv)) := k69 _ _ a74 
          refine z_callVi (As := [.int 1, .int 0, .int 0]) C hz hS hA hl (k_X8_fails l D cy f67 o wev wnb wki wmy wce wiw wli wha wwt wfy wfk wem wna wpl whs wk1 wk2 wk3 0 (-1) 0 nl nn nf nc lk ks 1 0 0 gv 1 a71 a75 (by decide) (Nat.le_of_ble_eq_true rfl)) zyX8_fails mMX8_135 a71 zl8 rfl rfl (Nat.le_of_ble_eq_true rfl) ⟨Nat.le_of_ble_eq_true rfl, Nat.le_of_ble_eq_true rfl⟩ ⟨Nat.le_of_ble_eq_true rfl, Nat.le_of_ble_eq_true rfl⟩ dX8_pair_54 (fun r f76 H locs h77 hz hS => ?_)
          obtain ⟨rfl, a78, a79, k80⟩ := h77
          have a81 : f1 wnb = some (.inl (cy 0, 12, .inl gu)) := k4 _ _ x_wnb (z_ne x_wnb x_o rfl)
          have a82 : f67 wnb = some (.inl (cy 0, 12, .inl gu)) := k69 _ _ a81 
          have a83 : f76 wnb = some (.inl (cy 0, 12, .inl gu)) := k80 _ _ a82 (z_ne a82 a71 rfl) (z_ne a82 a75 rfl)
          have a84 : f1 wki = some (.inl (cy 0, 60, .inl gk)) := k4 _ _ x_wki (z_ne x_wki x_o rfl)
          have a85 : f67 wki = some (.inl (cy 0, 60, .inl gk)) := k69 _ _ a84 
          have a86 : f76 wki = some (.inl (cy 0, 60, .inl gk)) := k80 _ _ a85 (z_ne a85 a71 rfl) (z_ne a85 a75 rfl)
          have a87 : f1 wmy = some (.inl (cy 0, 60, .inl gm)) := k4 _ _ x_wmy (z_ne x_wmy x_o rfl)
          have a88 : f67 wmy = some (.inl (cy 0, 60, .inl gm)) := k69 _ _ a87 
          have a89 : f76 wmy = some (.inl (cy 0, 60, .inl gm)) := k80 _ _ a88 (z_ne a88 a71 rfl) (z_ne a88 a75 rfl)
          have a90 : f1 wce = some (.inl (cy 1, 960, .inr (.inl gc))) := k4 _ _ x_wce (z_ne x_wce x_o rfl)
          have a91 : f67 wce = some (.inl (cy 1, 960, .inr (.inl gc))) := k69 _ _ a90 
          have a92 : f76 wce = some (.inl (cy 1, 960, .inr (.inl gc))) := k80 _ _ a91 (z_ne a91 a71 rfl) (z_ne a91 a75 rfl)
          have a93 : f1 wiw = some (.inl (cy 2, 60, .inl gw)) := k4 _ _ x_wiw (z_ne x_wiw x_o rfl)
          have a94 : f67 wiw = some (.inl (cy 2, 60, .inl gw)) := k69 _ _ a93 
          have a95 : f76 wiw = some (.inl (cy 2, 60, .inl gw)) := k80 _ _ a94 (z_ne a94 a71 rfl) (z_ne a94 a75 rfl)
          have a96 : f1 wli = some (.inl (cy 0, 60, .inl gl)) := k4 _ _ x_wli (z_ne x_wli x_o rfl)
          have a97 : f67 wli = some (.inl (cy 0, 60, .inl gl)) := k69 _ _ a96 
          have a98 : f76 wli = some (.inl (cy 0, 60, .inl gl)) := k80 _ _ a97 (z_ne a97 a71 rfl) (z_ne a97 a75 rfl)
          have a99 : f1 wha = some (.inl (cy 0, 60, .inl gh)) := k4 _ _ x_wha (z_ne x_wha x_o rfl)
          have a100 : f67 wha = some (.inl (cy 0, 60, .inl gh)) := k69 _ _ a99 
          have a101 : f76 wha = some (.inl (cy 0, 60, .inl gh)) := k80 _ _ a100 (z_ne a100 a71 rfl) (z_ne a100 a75 rfl)
          have a102 : f1 wwt = some (.inl (cy 1, 60, .inr (.inl gt))) := k4 _ _ x_wwt (z_ne x_wwt x_o rfl)
          have a103 : f67 wwt = some (.inl (cy 1, 60, .inr (.inl gt))) := k69 _ _ a102 
          have a104 : f76 wwt = some (.inl (cy 1, 60, .inr (.inl gt))) := k80 _ _ a103 (z_ne a103 a71 rfl) (z_ne a103 a75 rfl)
          have a105 : f1 wfy = some (.inl (cy 0, 6, .inl gy)) := k4 _ _ x_wfy (z_ne x_wfy x_o rfl)
          have a106 : f67 wfy = some (.inl (cy 0, 6, .inl gy)) := k69 _ _ a105 
          have a107 : f76 wfy = some (.inl (cy 0, 6, .inl gy)) := k80 _ _ a106 (z_ne a106 a71 rfl) (z_ne a106 a75 rfl)
          have a108 : f1 wfk = some (.inl (cy 0, 24, .inl gq)) := k4 _ _ x_wfk (z_ne x_wfk x_o rfl)
          have a109 : f67 wfk = some (.inl (cy 0, 24, .inl gq)) := k69 _ _ a108 
          have a110 : f76 wfk = some (.inl (cy 0, 24, .inl gq)) := k80 _ _ a109 (z_ne a109 a71 rfl) (z_ne a109 a75 rfl)
          have a111 : f1 wem = some (.inl (cy 0, 60, .inl ge1)) := k4 _ _ x_wem (z_ne x_wem x_o rfl)
          have a112 : f67 wem = some (.inl (cy 0, 60, .inl ge1)) := k69 _ _ a111 
          have a113 : f76 wem = some (.inl (cy 0, 60, .inl ge1)) := k80 _ _ a112 (z_ne a112 a71 rfl) (z_ne a112 a75 rfl)
          have a114 : f1 wna = some (.inl (cy 0, 60, .inl gn1)) := k4 _ _ x_wna (z_ne x_wna x_o rfl)
          have a115 : f67 wna = some (.inl (cy 0, 60, .inl gn1)) := k69 _ _ a114 
          have a116 : f76 wna = some (.inl (cy 0, 60, .inl gn1)) := k80 _ _ a115 (z_ne a115 a71 rfl) (z_ne a115 a75 rfl)
          have a117 : f1 wpl = some (.inl (cy 0, 60, .inl gp1)) := k4 _ _ x_wpl (z_ne x_wpl x_o rfl)
          have a118 : f67 wpl = some (.inl (cy 0, 60, .inl gp1)) := k69 _ _ a117 
          have a119 : f76 wpl = some (.inl (cy 0, 60, .inl gp1)) := k80 _ _ a118 (z_ne a118 a71 rfl) (z_ne a118 a75 rfl)
          have a120 : f1 whs = some (.inl (cy 0, 4, .inl gs)) := k4 _ _ x_whs (z_ne x_whs x_o rfl)
          have a121 : f67 whs = some (.inl (cy 0, 4, .inl gs)) := k69 _ _ a120 
          have a122 : f76 whs = some (.inl (cy 0, 4, .inl gs)) := k80 _ _ a121 (z_ne a121 a71 rfl) (z_ne a121 a75 rfl)
          have a123 : f1 wk1 = some (.inl (cy 0, 40, .inl gx1)) := k4 _ _ x_wk1 (z_ne x_wk1 x_o rfl)
          have a124 : f67 wk1 = some (.inl (cy 0, 40, .inl gx1)) := k69 _ _ a123 
          have a125 : f76 wk1 = some (.inl (cy 0, 40, .inl gx1)) := k80 _ _ a124 (z_ne a124 a71 rfl) (z_ne a124 a75 rfl)
          have a126 : f1 wk2 = some (.inl (cy 0, 40, .inl gx2)) := k4 _ _ x_wk2 (z_ne x_wk2 x_o rfl)
          have a127 : f67 wk2 = some (.inl (cy 0, 40, .inl gx2)) := k69 _ _ a126 
          have a128 : f76 wk2 = some (.inl (cy 0, 40, .inl gx2)) := k80 _ _ a127 (z_ne a127 a71 rfl) (z_ne a127 a75 rfl)
          have a129 : f1 wk3 = some (.inl (cy 0, 40, .inl gx3)) := k4 _ _ x_wk3 (z_ne x_wk3 x_o rfl)
          have a130 : f67 wk3 = some (.inl (cy 0, 40, .inl gx3)) := k69 _ _ a129 
          have a131 : f76 wk3 = some (.inl (cy 0, 40, .inl gx3)) := k80 _ _ a130 (z_ne a130 a71 rfl) (z_ne a130 a75 rfl)
          exact z_iret C hr rfl hz hS ⟨1, 0, 0, nl, nn, nf, nc, lk, ks, (upd gv 1 (gv 1 + 1)), gu, gk, gm, gc, gw, gl, gh, gt, gy, gq, ge1, gn1, gp1, gs, gx1, gx2, gx3, ln, fz, sq, rfl, (by rw [if_neg (by decide)]), ⟨a78, a79, a83, a86, a89, a92, a95, a98, a101, a104, a107, a110, a113, a116, a119, a122, a125, a128, a131, hn60, hl12, hf6, hc60, hs40, hMP, hgy, hfz, hgs, hME, hlk, n_wki_wmy, n_wki_wiw, n_wki_wli, n_wki_wha, n_wki_wem, n_wki_wna, n_wki_wpl, n_wmy_wiw, n_wmy_wli, n_wmy_wha, n_wmy_wem, n_wmy_wna, n_wmy_wpl, n_wiw_wli, n_wiw_wha, n_wiw_wem, n_wiw_wna, n_wiw_wpl, n_wli_wha, n_wli_wem, n_wli_wna, n_wli_wpl, n_wha_wem, n_wha_wna, n_wha_wpl, n_wem_wna, n_wem_wpl, n_wna_wpl, n_wk1_wk2, n_wk1_wk3, n_wk2_wk3⟩⟩ (Nat.le_of_ble_eq_true rfl) (Nat.le_of_ble_eq_true rfl) dX8_pair_57
        · replace c72 : (nn = 60) := (nI_eq (a := nn) (b := 60) (by omega) (by omega)).mp c72
          have h60 : ¬ nn < 60 := by omega
          refine lv_bipush (v := (-3)) hx hb dX8_pair_42 (by decide) ?_
          have a132 : f1 wev = some (.inl (cy 0, 8, .inl gv)) := k4 _ _ x_wev (z_ne x_wev x_o rfl)
          have a133 : f67 wev = some (.inl (cy 0, 8, .inl gv)) := k69 _ _ a132 
          have a134 : f1 wnb = some (.inl (cy 0, 12, .inl gu)) := k4 _ _ x_wnb (z_ne x_wnb x_o rfl)
          have a135 : f67 wnb = some (.inl (cy 0, 12, .inl gu)) := k69 _ _ a134 
          have a136 : f1 wki = some (.inl (cy 0, 60, .inl gk)) := k4 _ _ x_wki (z_ne x_wki x_o rfl)
          have a137 : f67 wki = some (.inl (cy 0, 60, .inl gk)) := k69 _ _ a136 
          have a138 : f1 wmy = some (.inl (cy 0, 60, .inl gm)) := k4 _ _ x_wmy (z_ne x_wmy x_o rfl)
          have a139 : f67 wmy = some (.inl (cy 0, 60, .inl gm)) := k69 _ _ a138 
          have a140 : f1 wce = some (.inl (cy 1, 960, .inr (.inl gc))) := k4 _ _ x_wce (z_ne x_wce x_o rfl)
          have a141 : f67 wce = some (.inl (cy 1, 960, .inr (.inl gc))) := k69 _ _ a140 
          have a142 : f1 wiw = some (.inl (cy 2, 60, .inl gw)) := k4 _ _ x_wiw (z_ne x_wiw x_o rfl)
          have a143 : f67 wiw = some (.inl (cy 2, 60, .inl gw)) := k69 _ _ a142 
          have a144 : f1 wli = some (.inl (cy 0, 60, .inl gl)) := k4 _ _ x_wli (z_ne x_wli x_o rfl)
          have a145 : f67 wli = some (.inl (cy 0, 60, .inl gl)) := k69 _ _ a144 
          have a146 : f1 wha = some (.inl (cy 0, 60, .inl gh)) := k4 _ _ x_wha (z_ne x_wha x_o rfl)
          have a147 : f67 wha = some (.inl (cy 0, 60, .inl gh)) := k69 _ _ a146 
          have a148 : f1 wwt = some (.inl (cy 1, 60, .inr (.inl gt))) := k4 _ _ x_wwt (z_ne x_wwt x_o rfl)
          have a149 : f67 wwt = some (.inl (cy 1, 60, .inr (.inl gt))) := k69 _ _ a148 
          have a150 : f1 wfy = some (.inl (cy 0, 6, .inl gy)) := k4 _ _ x_wfy (z_ne x_wfy x_o rfl)
          have a151 : f67 wfy = some (.inl (cy 0, 6, .inl gy)) := k69 _ _ a150 
          have a152 : f1 wfk = some (.inl (cy 0, 24, .inl gq)) := k4 _ _ x_wfk (z_ne x_wfk x_o rfl)
          have a153 : f67 wfk = some (.inl (cy 0, 24, .inl gq)) := k69 _ _ a152 
          have a154 : f1 wem = some (.inl (cy 0, 60, .inl ge1)) := k4 _ _ x_wem (z_ne x_wem x_o rfl)
          have a155 : f67 wem = some (.inl (cy 0, 60, .inl ge1)) := k69 _ _ a154 
          have a156 : f1 wna = some (.inl (cy 0, 60, .inl gn1)) := k4 _ _ x_wna (z_ne x_wna x_o rfl)
          have a157 : f67 wna = some (.inl (cy 0, 60, .inl gn1)) := k69 _ _ a156 
          have a158 : f1 wpl = some (.inl (cy 0, 60, .inl gp1)) := k4 _ _ x_wpl (z_ne x_wpl x_o rfl)
          have a159 : f67 wpl = some (.inl (cy 0, 60, .inl gp1)) := k69 _ _ a158 
          have a160 : f1 whs = some (.inl (cy 0, 4, .inl gs)) := k4 _ _ x_whs (z_ne x_whs x_o rfl)
          have a161 : f67 whs = some (.inl (cy 0, 4, .inl gs)) := k69 _ _ a160 
          have a162 : f1 wk1 = some (.inl (cy 0, 40, .inl gx1)) := k4 _ _ x_wk1 (z_ne x_wk1 x_o rfl)
          have a163 : f67 wk1 = some (.inl (cy 0, 40, .inl gx1)) := k69 _ _ a162 
          have a164 : f1 wk2 = some (.inl (cy 0, 40, .inl gx2)) := k4 _ _ x_wk2 (z_ne x_wk2 x_o rfl)
          have a165 : f67 wk2 = some (.inl (cy 0, 40, .inl gx2)) := k69 _ _ a164 
          have a166 : f1 wk3 = some (.inl (cy 0, 40, .inl gx3)) := k4 _ _ x_wk3 (z_ne x_wk3 x_o rfl)
          have a167 : f67 wk3 = some (.inl (cy 0, 40, .inl gx3)) := k69 _ _ a166 
          exact z_iret C hr rfl hz hS ⟨0, (-1), 0, nl, nn, nf, nc, lk, ks, gv, gu, gk, gm, gc, gw, gl, gh, gt, gy, gq, ge1, gn1, gp1, gs, gx1, gx2, gx3, ln, fz, sq, rfl, (by rw [if_neg (by decide)]), ⟨a71, a133, a135, a137, a139, a141, a143, a145, a147, a149, a151, a153, a155, a157, a159, a161, a163, a165, a167, hn60, hl12, hf6, hc60, hs40, hMP, hgy, hfz, hgs, hME, hlk, n_wki_wmy, n_wki_wiw, n_wki_wli, n_wki_wha, n_wki_wem, n_wki_wna, n_wki_wpl, n_wmy_wiw, n_wmy_wli, n_wmy_wha, n_wmy_wem, n_wmy_wna, n_wmy_wpl, n_wiw_wli, n_wiw_wha, n_wiw_wem, n_wiw_wna, n_wiw_wpl, n_wli_wha, n_wli_wem, n_wli_wna, n_wli_wpl, n_wha_wem, n_wha_wna, n_wha_wpl, n_wem_wna, n_wem_wpl, n_wna_wpl, n_wk1_wk2, n_wk1_wk3, n_wk2_wk3⟩⟩ (Nat.le_of_ble_eq_true rfl) (Nat.le_of_ble_eq_true rfl) dX8_pair_44
      · refine z_callVi (As := [.int y]) C hz hS hA hl (k_X8_isFigure_B l D cy f1 o wev wnb wki wmy wce wiw wli wha wwt wfy wfk wem wna wpl whs wk1 wk2 wk3 0 (-1) 0 nl nn nf nc lk ks y a3 hn60 hvrt) zyX8_isFigure mMX8_139 a3 zl8 rfl rfl (Nat.le_of_ble_eq_true rfl) ⟨Nat.le_of_ble_eq_true rfl, Nat.le_of_ble_eq_true rfl⟩ ⟨Nat.le_of_ble_eq_true rfl, Nat.le_of_ble_eq_true rfl⟩ dX8_pair_24 (fun r f168 H locs h169 hz hS => ?_)
        obtain ⟨rfl, k170⟩ := h169
        refine lv_if_ne (tgt := 33) hx hb dX8_pair_27 (by decide) (fun c171 => ?_) (fun c171 => ?_)
        · exact absurd c171 (by decide)
        refine lv_bipush (v := (-2)) hx hb dX8_pair_30 (by decide) ?_
        have a172 : f168 o = some (.inr (8, [.int 0, .int (-1), .int 0, .ref wev, .int (nI nl), .ref wnb, .int (nI nn), .ref wki, .ref wmy, .ref wce, .ref wiw, .ref wli, .ref wha, .ref wwt, .int (nI nf), .ref wfy, .ref wfk, .int (nI nc), .ref wem, .ref wna, .ref wpl, .ref whs, .long lk, .int (nI ks), .ref wk1, .ref wk2, .ref wk3])) := k170 _ _ a3 
        have a173 : f1 wev = some (.inl (cy 0, 8, .inl gv)) := k4 _ _ x_wev (z_ne x_wev x_o rfl)
        have a174 : f168 wev = some (.inl (cy 0, 8, .inl gv)) := k170 _ _ a173 
        have a175 : f1 wnb = some (.inl (cy 0, 12, .inl gu)) := k4 _ _ x_wnb (z_ne x_wnb x_o rfl)
        have a176 : f168 wnb = some (.inl (cy 0, 12, .inl gu)) := k170 _ _ a175 
        have a177 : f1 wki = some (.inl (cy 0, 60, .inl gk)) := k4 _ _ x_wki (z_ne x_wki x_o rfl)
        have a178 : f168 wki = some (.inl (cy 0, 60, .inl gk)) := k170 _ _ a177 
        have a179 : f1 wmy = some (.inl (cy 0, 60, .inl gm)) := k4 _ _ x_wmy (z_ne x_wmy x_o rfl)
        have a180 : f168 wmy = some (.inl (cy 0, 60, .inl gm)) := k170 _ _ a179 
        have a181 : f1 wce = some (.inl (cy 1, 960, .inr (.inl gc))) := k4 _ _ x_wce (z_ne x_wce x_o rfl)
        have a182 : f168 wce = some (.inl (cy 1, 960, .inr (.inl gc))) := k170 _ _ a181 
        have a183 : f1 wiw = some (.inl (cy 2, 60, .inl gw)) := k4 _ _ x_wiw (z_ne x_wiw x_o rfl)
        have a184 : f168 wiw = some (.inl (cy 2, 60, .inl gw)) := k170 _ _ a183 
        have a185 : f1 wli = some (.inl (cy 0, 60, .inl gl)) := k4 _ _ x_wli (z_ne x_wli x_o rfl)
        have a186 : f168 wli = some (.inl (cy 0, 60, .inl gl)) := k170 _ _ a185 
        have a187 : f1 wha = some (.inl (cy 0, 60, .inl gh)) := k4 _ _ x_wha (z_ne x_wha x_o rfl)
        have a188 : f168 wha = some (.inl (cy 0, 60, .inl gh)) := k170 _ _ a187 
        have a189 : f1 wwt = some (.inl (cy 1, 60, .inr (.inl gt))) := k4 _ _ x_wwt (z_ne x_wwt x_o rfl)
        have a190 : f168 wwt = some (.inl (cy 1, 60, .inr (.inl gt))) := k170 _ _ a189 
        have a191 : f1 wfy = some (.inl (cy 0, 6, .inl gy)) := k4 _ _ x_wfy (z_ne x_wfy x_o rfl)
        have a192 : f168 wfy = some (.inl (cy 0, 6, .inl gy)) := k170 _ _ a191 
        have a193 : f1 wfk = some (.inl (cy 0, 24, .inl gq)) := k4 _ _ x_wfk (z_ne x_wfk x_o rfl)
        have a194 : f168 wfk = some (.inl (cy 0, 24, .inl gq)) := k170 _ _ a193 
        have a195 : f1 wem = some (.inl (cy 0, 60, .inl ge1)) := k4 _ _ x_wem (z_ne x_wem x_o rfl)
        have a196 : f168 wem = some (.inl (cy 0, 60, .inl ge1)) := k170 _ _ a195 
        have a197 : f1 wna = some (.inl (cy 0, 60, .inl gn1)) := k4 _ _ x_wna (z_ne x_wna x_o rfl)
        have a198 : f168 wna = some (.inl (cy 0, 60, .inl gn1)) := k170 _ _ a197 
        have a199 : f1 wpl = some (.inl (cy 0, 60, .inl gp1)) := k4 _ _ x_wpl (z_ne x_wpl x_o rfl)
        have a200 : f168 wpl = some (.inl (cy 0, 60, .inl gp1)) := k170 _ _ a199 
        have a201 : f1 whs = some (.inl (cy 0, 4, .inl gs)) := k4 _ _ x_whs (z_ne x_whs x_o rfl)
        have a202 : f168 whs = some (.inl (cy 0, 4, .inl gs)) := k170 _ _ a201 
        have a203 : f1 wk1 = some (.inl (cy 0, 40, .inl gx1)) := k4 _ _ x_wk1 (z_ne x_wk1 x_o rfl)
        have a204 : f168 wk1 = some (.inl (cy 0, 40, .inl gx1)) := k170 _ _ a203 
        have a205 : f1 wk2 = some (.inl (cy 0, 40, .inl gx2)) := k4 _ _ x_wk2 (z_ne x_wk2 x_o rfl)
        have a206 : f168 wk2 = some (.inl (cy 0, 40, .inl gx2)) := k170 _ _ a205 
        have a207 : f1 wk3 = some (.inl (cy 0, 40, .inl gx3)) := k4 _ _ x_wk3 (z_ne x_wk3 x_o rfl)
        have a208 : f168 wk3 = some (.inl (cy 0, 40, .inl gx3)) := k170 _ _ a207 
        exact z_iret C hr rfl hz hS ⟨0, (-1), 0, nl, nn, nf, nc, lk, ks, gv, gu, gk, gm, gc, gw, gl, gh, gt, gy, gq, ge1, gn1, gp1, gs, gx1, gx2, gx3, ln, fz, sq, rfl, (by rw [if_neg (by decide)]), ⟨a172, a174, a176, a178, a180, a182, a184, a186, a188, a190, a192, a194, a196, a198, a200, a202, a204, a206, a208, hn60, hl12, hf6, hc60, hs40, hMP, hgy, hfz, hgs, hME, hlk, n_wki_wmy, n_wki_wiw, n_wki_wli, n_wki_wha, n_wki_wem, n_wki_wna, n_wki_wpl, n_wmy_wiw, n_wmy_wli, n_wmy_wha, n_wmy_wem, n_wmy_wna, n_wmy_wpl, n_wiw_wli, n_wiw_wha, n_wiw_wem, n_wiw_wna, n_wiw_wpl, n_wli_wha, n_wli_wem, n_wli_wna, n_wli_wpl, n_wha_wem, n_wha_wna, n_wha_wpl, n_wem_wna, n_wem_wpl, n_wna_wpl, n_wk1_wk2, n_wk1_wk3, n_wk2_wk3⟩⟩ (Nat.le_of_ble_eq_true rfl) (Nat.le_of_ble_eq_true rfl) dX8_pair_32
  · refine lv_aload_n hx hb dX8_pair_9 rfl (lv_at hl 0 rfl) ?_
    refine lv_iload_n hx hb dX8_pair_10 rfl (lv_at hl 1 rfl) ?_
    rcases z_findi x nn with ⟨jl, hjl, hvlf⟩ | hvlf
    · refine z_callVi (As := [.int x]) C hz hS hA hl (k_X8_isFigure_A l D cy f1 o wev wnb wki wmy wce wiw wli wha wwt wfy wfk wem wna wpl whs wk1 wk2 wk3 0 (-1) 0 nl nn nf nc lk ks x jl a3 hn60 hvlf hjl) zyX8_isFigure mMX8_139 a3 zl8 rfl rfl (Nat.le_of_ble_eq_true rfl) ⟨Nat.le_of_ble_eq_true rfl, Nat.le_of_ble_eq_true rfl⟩ ⟨Nat.le_of_ble_eq_true rfl, Nat.le_of_ble_eq_true rfl⟩ dX8_pair_11 (fun r f209 H locs h210 hz hS => ?_)
      obtain ⟨rfl, k211⟩ := h210
      refine lv_if_eq (tgt := 30) hx hb dX8_pair_14 (by decide) (fun c212 => ?_) (fun c212 => ?_)
      · exact absurd c212 (by decide)
      refine lv_iload_n hx hb dX8_pair_17 rfl (lv_at hl 2 rfl) ?_
      refine lv_iconst (v := (-1)) hx hb dX8_pair_18 (by decide) ?_
      refine lv_icmp_eq (tgt := 33) hx hb dX8_pair_19 (by decide) (fun c213 => ?_) (fun c213 => ?_)
      · refine lv_aload_n hx hb dX8_pair_33 rfl (lv_at hl 0 rfl) ?_
        have a214 : f209 o = some (.inr (8, [.int 0, .int (-1), .int 0, .ref wev, .int (nI nl), .ref wnb, .int (nI nn), .ref wki, .ref wmy, .ref wce, .ref wiw, .ref wli, .ref wha, .ref wwt, .int (nI nf), .ref wfy, .ref wfk, .int (nI nc), .ref wem, .ref wna, .ref wpl, .ref whs, .long lk, .int (nI ks), .ref wk1, .ref wk2, .ref wk3])) := k211 _ _ a3 
        refine z_get (v := .int (nI nn)) C hz a214 zl8 mFX8_83 (by decide) rfl dX8_pair_34 ?_
        refine lv_bipush (v := 60) hx hb dX8_pair_37 (by decide) ?_
        refine lv_icmp_ne (tgt := 45) hx hb dX8_pair_39 (by decide) (fun c215 => ?_) (fun c215 => ?_)
        · replace c215 : ¬ (nn = 60) := fun h => c215 ((nI_eq (a := nn) (b := 60) (by omega) (by omega)).mpr h)
          have h60 : nn < 60 := by omega
          refine lv_iload_n hx hb dX8_pair_45 rfl (lv_at hl 1 rfl) ?_
          refine lv_iconst (v := (-1)) hx hb dX8_pair_46 (by decide) ?_
          refine lv_icmp_ne (tgt := 58) hx hb dX8_pair_47 (by decide) (fun c216 => ?_) (fun c216 => ?_)
          rotate_left
          · exact absurd c216 (by rw [hvlf]; exact z_nim1 (by omega))
          refine lv_aload_n hx hb dX8_pair_58 rfl (lv_at hl 0 rfl) ?_
          refine lv_iconst (v := 4) hx hb dX8_pair_59 (by decide) ?_
          have a217 : f1 wki = some (.inl (cy 0, 60, .inl gk)) := k4 _ _ x_wki (z_ne x_wki x_o rfl)
          have a218 : f209 wki = some (.inl (cy 0, 60, .inl gk)) := k211 _ _ a217 
          have a219 : f1 wmy = some (.inl (cy 0, 60, .inl gm)) := k4 _ _ x_wmy (z_ne x_wmy x_o rfl)
          have a220 : f209 wmy = some (.inl (cy 0, 60, .inl gm)) := k211 _ _ a219 
          refine z_callVv (As := [.int 4]) C hz hS hA hl (k_X8_start l D cy f209 o wev wnb wki wmy wce wiw wli wha wwt wfy wfk wem wna wpl whs wk1 wk2 wk3 0 (-1) 0 nl nn nf nc lk ks gk gm 4 a214 a218 a220 (by omega) n_wki_wmy) zyX8_start mMX8_119 a214 zl8 rfl rfl (Nat.le_of_ble_eq_true rfl) ⟨Nat.le_of_ble_eq_true rfl, Nat.le_of_ble_eq_true rfl⟩ ⟨Nat.le_of_ble_eq_true rfl, Nat.le_of_ble_eq_true rfl⟩ dX8_pair_60 (fun  f221 H locs h222 hz hS => ?_)
          obtain ⟨a223, a224, k225⟩ := h222
          refine lv_aload_n hx hb dX8_pair_63 rfl (lv_at hl 0 rfl) ?_
          refine lv_iload_n hx hb dX8_pair_64 rfl (lv_at hl 1 rfl) ?_
          refine lv_i2l (v := x.toInt64) hx hb dX8_pair_65 rfl ?_
          have a226 : f221 o = some (.inr (8, [.int 0, .int (-1), .int 0, .ref wev, .int (nI nl), .ref wnb, .int (nI nn), .ref wki, .ref wmy, .ref wce, .ref wiw, .ref wli, .ref wha, .ref wwt, .int (nI nf), .ref wfy, .ref wfk, .int (nI nc), .ref wem, .ref wna, .ref wpl, .ref whs, .long lk, .int (nI ks), .ref wk1, .ref wk2, .ref wk3])) := k225 _ _ a214 (z_ne a214 a218 rfl) (z_ne a214 a220 rfl)
          have a227 : f1 wce = some (.inl (cy 1, 960, .inr (.inl gc))) := k4 _ _ x_wce (z_ne x_wce x_o rfl)
          have a228 : f209 wce = some (.inl (cy 1, 960, .inr (.inl gc))) := k211 _ _ a227 
          have a229 : f221 wce = some (.inl (cy 1, 960, .inr (.inl gc))) := k225 _ _ a228 (z_ne a228 a218 rfl) (z_ne a228 a220 rfl)
          refine z_callVv (As := [.long x.toInt64]) C hz hS hA hl (k_X8_part l D cy f221 o wev wnb wki wmy wce wiw wli wha wwt wfy wfk wem wna wpl whs wk1 wk2 wk3 0 (-1) 0 nl nn nf nc lk ks gc (upd gm nn 0) x.toInt64 0 a226 a229 a224 (by omega) pk_us (by omega)) zyX8_part mMX8_127 a226 zl8 rfl rfl (Nat.le_of_ble_eq_true rfl) ⟨Nat.le_of_ble_eq_true rfl, Nat.le_of_ble_eq_true rfl⟩ ⟨Nat.le_of_ble_eq_true rfl, Nat.le_of_ble_eq_true rfl⟩ dX8_pair_66 (fun  f230 H locs h231 hz hS => ?_)
          obtain ⟨a232, a233, k234⟩ := h231
          refine lv_aload_n hx hb dX8_pair_69 rfl (lv_at hl 0 rfl) ?_
          refine lv_iload_n hx hb dX8_pair_70 rfl (lv_at hl 2 rfl) ?_
          refine lv_i2l (v := y.toInt64) hx hb dX8_pair_71 rfl ?_
          have a235 : f230 o = some (.inr (8, [.int 0, .int (-1), .int 0, .ref wev, .int (nI nl), .ref wnb, .int (nI nn), .ref wki, .ref wmy, .ref wce, .ref wiw, .ref wli, .ref wha, .ref wwt, .int (nI nf), .ref wfy, .ref wfk, .int (nI nc), .ref wem, .ref wna, .ref wpl, .ref whs, .long lk, .int (nI ks), .ref wk1, .ref wk2, .ref wk3])) := k234 _ _ a226 (z_ne a226 a229 rfl) (z_ne a226 a224 rfl)
          refine z_callVv (As := [.long y.toInt64]) C hz hS hA hl (k_X8_part l D cy f230 o wev wnb wki wmy wce wiw wli wha wwt wfy wfk wem wna wpl whs wk1 wk2 wk3 0 (-1) 0 nl nn nf nc lk ks (vp_updL gc (16 * nn + 0) x.toInt64) (upd (upd gm nn 0) nn (nI (0 + 1))) y.toInt64 1 a235 a232 a233 (by omega) pk_us (by omega)) zyX8_part mMX8_127 a235 zl8 rfl rfl (Nat.le_of_ble_eq_true rfl) ⟨Nat.le_of_ble_eq_true rfl, Nat.le_of_ble_eq_true rfl⟩ ⟨Nat.le_of_ble_eq_true rfl, Nat.le_of_ble_eq_true rfl⟩ dX8_pair_72 (fun  f236 H locs h237 hz hS => ?_)
          obtain ⟨a238, a239, k240⟩ := h237
          refine lv_aload_n hx hb dX8_pair_75 rfl (lv_at hl 0 rfl) ?_
          have a241 : f236 o = some (.inr (8, [.int 0, .int (-1), .int 0, .ref wev, .int (nI nl), .ref wnb, .int (nI nn), .ref wki, .ref wmy, .ref wce, .ref wiw, .ref wli, .ref wha, .ref wwt, .int (nI nf), .ref wfy, .ref wfk, .int (nI nc), .ref wem, .ref wna, .ref wpl, .ref whs, .long lk, .int (nI ks), .ref wk1, .ref wk2, .ref wk3])) := k240 _ _ a235 (z_ne a235 a232 rfl) (z_ne a235 a233 rfl)
          have a242 : f230 wki = some (.inl (cy 0, 60, .inl (upd gk nn 4))) := k234 _ _ a223 (z_ne a223 a229 rfl) n_wki_wmy
          have a243 : f236 wki = some (.inl (cy 0, 60, .inl (upd gk nn 4))) := k240 _ _ a242 (z_ne a242 a232 rfl) n_wki_wmy
          have a244 : f1 wli = some (.inl (cy 0, 60, .inl gl)) := k4 _ _ x_wli (z_ne x_wli x_o rfl)
          have a245 : f209 wli = some (.inl (cy 0, 60, .inl gl)) := k211 _ _ a244 
          have a246 : f221 wli = some (.inl (cy 0, 60, .inl gl)) := k225 _ _ a245 (Ne.symm n_wki_wli) (Ne.symm n_wmy_wli)
          have a247 : f230 wli = some (.inl (cy 0, 60, .inl gl)) := k234 _ _ a246 (z_ne a246 a229 rfl) (Ne.symm n_wmy_wli)
          have a248 : f236 wli = some (.inl (cy 0, 60, .inl gl)) := k240 _ _ a247 (z_ne a247 a232 rfl) (Ne.symm n_wmy_wli)
          have a249 : f1 wha = some (.inl (cy 0, 60, .inl gh)) := k4 _ _ x_wha (z_ne x_wha x_o rfl)
          have a250 : f209 wha = some (.inl (cy 0, 60, .inl gh)) := k211 _ _ a249 
          have a251 : f221 wha = some (.inl (cy 0, 60, .inl gh)) := k225 _ _ a250 (Ne.symm n_wki_wha) (Ne.symm n_wmy_wha)
          have a252 : f230 wha = some (.inl (cy 0, 60, .inl gh)) := k234 _ _ a251 (z_ne a251 a229 rfl) (Ne.symm n_wmy_wha)
          have a253 : f236 wha = some (.inl (cy 0, 60, .inl gh)) := k240 _ _ a252 (z_ne a252 a232 rfl) (Ne.symm n_wmy_wha)
          have hc0 := (show vp_updL (vp_updL gc (16 * nn + 0) x.toInt64) (16 * nn + (0 + 1)) y.toInt64 (16 * nn) = lN jl by rw [pk_uLn (by omega)]; exact (pk_uLs (k := 16 * nn + 0)).trans (z_cr (by omega) hvlf))
          have hc1 := (show vp_updL (vp_updL gc (16 * nn + 0) x.toInt64) (16 * nn + (0 + 1)) y.toInt64 (16 * nn + 1) = y.toInt64 from pk_uLs)
          have hcr : y.toInt64 = (-1) ∨ ∃ j9, j9 < nn ∧ y.toInt64 = lN j9 := (Or.inl (by rw [c213]; exact z_m64))
          refine z_callVi (As := []) C hz hS hA hl (k_X8_made l D cy f236 o wev wnb wki wmy wce wiw wli wha wwt wfy wfk wem wna wpl whs wk1 wk2 wk3 0 (-1) 0 nl nn nf nc lk ks (upd gk nn 4) (upd (upd (upd gm nn 0) nn (nI (0 + 1))) nn (nI (1 + 1))) (vp_updL (vp_updL gc (16 * nn + 0) x.toInt64) (16 * nn + 1) y.toInt64) gl gh ln 2 a241 a243 a239 a238 a248 a253 (by omega) (zMP_keep hMP (fun i9 h9 => by simp only [upd, if_neg (show ¬ i9 = nn by omega)]) (fun i9 h9 => by simp only [upd, if_neg (show ¬ i9 = nn by omega)]) (fun i9 h9 j9 h8 => by simp (disch := omega) only [pk_uLn])) pk_us (by omega) (fun _ k9 h9 => by rcases (show k9 = 0 ∨ k9 = 1 by omega) with rfl | rfl; exact Or.inr ⟨jl, by omega, hc0⟩; rw [hc1]; exact hcr.elim Or.inl (fun ⟨j8, h8, e8⟩ => Or.inr ⟨j8, by omega, e8⟩)) n_wki_wmy n_wki_wli n_wki_wha n_wmy_wli n_wmy_wha n_wli_wha) zyX8_made mMX8_131 a241 zl8 rfl rfl (Nat.le_of_ble_eq_true rfl) ⟨Nat.le_of_ble_eq_true rfl, Nat.le_of_ble_eq_true rfl⟩ ⟨Nat.le_of_ble_eq_true rfl, Nat.le_of_ble_eq_true rfl⟩ dX8_pair_76 (fun r f254 H locs h255 hz hS => ?_)
          obtain ⟨gl_256, gh_257, rfl, a258, a259, a260, k261⟩ := h255
          have a262 : f1 wev = some (.inl (cy 0, 8, .inl gv)) := k4 _ _ x_wev (z_ne x_wev x_o rfl)
          have a263 : f209 wev = some (.inl (cy 0, 8, .inl gv)) := k211 _ _ a262 
          have a264 : f221 wev = some (.inl (cy 0, 8, .inl gv)) := k225 _ _ a263 (z_ne a263 a218 rfl) (z_ne a263 a220 rfl)
          have a265 : f230 wev = some (.inl (cy 0, 8, .inl gv)) := k234 _ _ a264 (z_ne a264 a229 rfl) (z_ne a264 a224 rfl)
          have a266 : f236 wev = some (.inl (cy 0, 8, .inl gv)) := k240 _ _ a265 (z_ne a265 a232 rfl) (z_ne a265 a233 rfl)
          have a267 : f254 wev = some (.inl (cy 0, 8, .inl gv)) := k261 _ _ a266 (z_ne a266 a241 rfl) (z_ne a266 a248 rfl) (z_ne a266 a253 rfl)
          have a268 : f1 wnb = some (.inl (cy 0, 12, .inl gu)) := k4 _ _ x_wnb (z_ne x_wnb x_o rfl)
          have a269 : f209 wnb = some (.inl (cy 0, 12, .inl gu)) := k211 _ _ a268 
          have a270 : f221 wnb = some (.inl (cy 0, 12, .inl gu)) := k225 _ _ a269 (z_ne a269 a218 rfl) (z_ne a269 a220 rfl)
          have a271 : f230 wnb = some (.inl (cy 0, 12, .inl gu)) := k234 _ _ a270 (z_ne a270 a229 rfl) (z_ne a270 a224 rfl)
          have a272 : f236 wnb = some (.inl (cy 0, 12, .inl gu)) := k240 _ _ a271 (z_ne a271 a232 rfl) (z_ne a271 a233 rfl)
          have a273 : f254 wnb = some (.inl (cy 0, 12, .inl gu)) := k261 _ _ a272 (z_ne a272 a241 rfl) (z_ne a272 a248 rfl) (z_ne a272 a253 rfl)
          have a274 : f254 wki = some (.inl (cy 0, 60, .inl (upd gk nn 4))) := k261 _ _ a243 (z_ne a243 a241 rfl) n_wki_wli n_wki_wha
          have a275 : f254 wmy = some (.inl (cy 0, 60, .inl (upd (upd (upd gm nn 0) nn (nI (0 + 1))) nn (nI (1 + 1))))) := k261 _ _ a239 (z_ne a239 a241 rfl) n_wmy_wli n_wmy_wha
          have a276 : f254 wce = some (.inl (cy 1, 960, .inr (.inl (vp_updL (vp_updL gc (16 * nn + 0) x.toInt64) (16 * nn + 1) y.toInt64)))) := k261 _ _ a238 (z_ne a238 a241 rfl) (z_ne a238 a248 rfl) (z_ne a238 a253 rfl)
          have a277 : f1 wiw = some (.inl (cy 2, 60, .inl gw)) := k4 _ _ x_wiw (z_ne x_wiw x_o rfl)
          have a278 : f209 wiw = some (.inl (cy 2, 60, .inl gw)) := k211 _ _ a277 
          have a279 : f221 wiw = some (.inl (cy 2, 60, .inl gw)) := k225 _ _ a278 (Ne.symm n_wki_wiw) (Ne.symm n_wmy_wiw)
          have a280 : f230 wiw = some (.inl (cy 2, 60, .inl gw)) := k234 _ _ a279 (z_ne a279 a229 rfl) (Ne.symm n_wmy_wiw)
          have a281 : f236 wiw = some (.inl (cy 2, 60, .inl gw)) := k240 _ _ a280 (z_ne a280 a232 rfl) (Ne.symm n_wmy_wiw)
          have a282 : f254 wiw = some (.inl (cy 2, 60, .inl gw)) := k261 _ _ a281 (z_ne a281 a241 rfl) n_wiw_wli n_wiw_wha
          have a283 : f1 wwt = some (.inl (cy 1, 60, .inr (.inl gt))) := k4 _ _ x_wwt (z_ne x_wwt x_o rfl)
          have a284 : f209 wwt = some (.inl (cy 1, 60, .inr (.inl gt))) := k211 _ _ a283 
          have a285 : f221 wwt = some (.inl (cy 1, 60, .inr (.inl gt))) := k225 _ _ a284 (z_ne a284 a218 rfl) (z_ne a284 a220 rfl)
          have a286 : f230 wwt = some (.inl (cy 1, 60, .inr (.inl gt))) := k234 _ _ a285 (z_ne a285 a229 rfl) (z_ne a285 a224 rfl)
          have a287 : f236 wwt = some (.inl (cy 1, 60, .inr (.inl gt))) := k240 _ _ a286 (z_ne a286 a232 rfl) (z_ne a286 a233 rfl)
          have a288 : f254 wwt = some (.inl (cy 1, 60, .inr (.inl gt))) := k261 _ _ a287 (z_ne a287 a241 rfl) (z_ne a287 a248 rfl) (z_ne a287 a253 rfl)
          have a289 : f1 wfy = some (.inl (cy 0, 6, .inl gy)) := k4 _ _ x_wfy (z_ne x_wfy x_o rfl)
          have a290 : f209 wfy = some (.inl (cy 0, 6, .inl gy)) := k211 _ _ a289 
          have a291 : f221 wfy = some (.inl (cy 0, 6, .inl gy)) := k225 _ _ a290 (z_ne a290 a218 rfl) (z_ne a290 a220 rfl)
          have a292 : f230 wfy = some (.inl (cy 0, 6, .inl gy)) := k234 _ _ a291 (z_ne a291 a229 rfl) (z_ne a291 a224 rfl)
          have a293 : f236 wfy = some (.inl (cy 0, 6, .inl gy)) := k240 _ _ a292 (z_ne a292 a232 rfl) (z_ne a292 a233 rfl)
          have a294 : f254 wfy = some (.inl (cy 0, 6, .inl gy)) := k261 _ _ a293 (z_ne a293 a241 rfl) (z_ne a293 a248 rfl) (z_ne a293 a253 rfl)
          have a295 : f1 wfk = some (.inl (cy 0, 24, .inl gq)) := k4 _ _ x_wfk (z_ne x_wfk x_o rfl)
          have a296 : f209 wfk = some (.inl (cy 0, 24, .inl gq)) := k211 _ _ a295 
          have a297 : f221 wfk = some (.inl (cy 0, 24, .inl gq)) := k225 _ _ a296 (z_ne a296 a218 rfl) (z_ne a296 a220 rfl)
          have a298 : f230 wfk = some (.inl (cy 0, 24, .inl gq)) := k234 _ _ a297 (z_ne a297 a229 rfl) (z_ne a297 a224 rfl)
          have a299 : f236 wfk = some (.inl (cy 0, 24, .inl gq)) := k240 _ _ a298 (z_ne a298 a232 rfl) (z_ne a298 a233 rfl)
          have a300 : f254 wfk = some (.inl (cy 0, 24, .inl gq)) := k261 _ _ a299 (z_ne a299 a241 rfl) (z_ne a299 a248 rfl) (z_ne a299 a253 rfl)
          have a301 : f1 wem = some (.inl (cy 0, 60, .inl ge1)) := k4 _ _ x_wem (z_ne x_wem x_o rfl)
          have a302 : f209 wem = some (.inl (cy 0, 60, .inl ge1)) := k211 _ _ a301 
          have a303 : f221 wem = some (.inl (cy 0, 60, .inl ge1)) := k225 _ _ a302 (Ne.symm n_wki_wem) (Ne.symm n_wmy_wem)
          have a304 : f230 wem = some (.inl (cy 0, 60, .inl ge1)) := k234 _ _ a303 (z_ne a303 a229 rfl) (Ne.symm n_wmy_wem)
          have a305 : f236 wem = some (.inl (cy 0, 60, .inl ge1)) := k240 _ _ a304 (z_ne a304 a232 rfl) (Ne.symm n_wmy_wem)
          have a306 : f254 wem = some (.inl (cy 0, 60, .inl ge1)) := k261 _ _ a305 (z_ne a305 a241 rfl) (Ne.symm n_wli_wem) (Ne.symm n_wha_wem)
          have a307 : f1 wna = some (.inl (cy 0, 60, .inl gn1)) := k4 _ _ x_wna (z_ne x_wna x_o rfl)
          have a308 : f209 wna = some (.inl (cy 0, 60, .inl gn1)) := k211 _ _ a307 
          have a309 : f221 wna = some (.inl (cy 0, 60, .inl gn1)) := k225 _ _ a308 (Ne.symm n_wki_wna) (Ne.symm n_wmy_wna)
          have a310 : f230 wna = some (.inl (cy 0, 60, .inl gn1)) := k234 _ _ a309 (z_ne a309 a229 rfl) (Ne.symm n_wmy_wna)
          have a311 : f236 wna = some (.inl (cy 0, 60, .inl gn1)) := k240 _ _ a310 (z_ne a310 a232 rfl) (Ne.symm n_wmy_wna)
          have a312 : f254 wna = some (.inl (cy 0, 60, .inl gn1)) := k261 _ _ a311 (z_ne a311 a241 rfl) (Ne.symm n_wli_wna) (Ne.symm n_wha_wna)
          have a313 : f1 wpl = some (.inl (cy 0, 60, .inl gp1)) := k4 _ _ x_wpl (z_ne x_wpl x_o rfl)
          have a314 : f209 wpl = some (.inl (cy 0, 60, .inl gp1)) := k211 _ _ a313 
          have a315 : f221 wpl = some (.inl (cy 0, 60, .inl gp1)) := k225 _ _ a314 (Ne.symm n_wki_wpl) (Ne.symm n_wmy_wpl)
          have a316 : f230 wpl = some (.inl (cy 0, 60, .inl gp1)) := k234 _ _ a315 (z_ne a315 a229 rfl) (Ne.symm n_wmy_wpl)
          have a317 : f236 wpl = some (.inl (cy 0, 60, .inl gp1)) := k240 _ _ a316 (z_ne a316 a232 rfl) (Ne.symm n_wmy_wpl)
          have a318 : f254 wpl = some (.inl (cy 0, 60, .inl gp1)) := k261 _ _ a317 (z_ne a317 a241 rfl) (Ne.symm n_wli_wpl) (Ne.symm n_wha_wpl)
          have a319 : f1 whs = some (.inl (cy 0, 4, .inl gs)) := k4 _ _ x_whs (z_ne x_whs x_o rfl)
          have a320 : f209 whs = some (.inl (cy 0, 4, .inl gs)) := k211 _ _ a319 
          have a321 : f221 whs = some (.inl (cy 0, 4, .inl gs)) := k225 _ _ a320 (z_ne a320 a218 rfl) (z_ne a320 a220 rfl)
          have a322 : f230 whs = some (.inl (cy 0, 4, .inl gs)) := k234 _ _ a321 (z_ne a321 a229 rfl) (z_ne a321 a224 rfl)
          have a323 : f236 whs = some (.inl (cy 0, 4, .inl gs)) := k240 _ _ a322 (z_ne a322 a232 rfl) (z_ne a322 a233 rfl)
          have a324 : f254 whs = some (.inl (cy 0, 4, .inl gs)) := k261 _ _ a323 (z_ne a323 a241 rfl) (z_ne a323 a248 rfl) (z_ne a323 a253 rfl)
          have a325 : f1 wk1 = some (.inl (cy 0, 40, .inl gx1)) := k4 _ _ x_wk1 (z_ne x_wk1 x_o rfl)
          have a326 : f209 wk1 = some (.inl (cy 0, 40, .inl gx1)) := k211 _ _ a325 
          have a327 : f221 wk1 = some (.inl (cy 0, 40, .inl gx1)) := k225 _ _ a326 (z_ne a326 a218 rfl) (z_ne a326 a220 rfl)
          have a328 : f230 wk1 = some (.inl (cy 0, 40, .inl gx1)) := k234 _ _ a327 (z_ne a327 a229 rfl) (z_ne a327 a224 rfl)
          have a329 : f236 wk1 = some (.inl (cy 0, 40, .inl gx1)) := k240 _ _ a328 (z_ne a328 a232 rfl) (z_ne a328 a233 rfl)
          have a330 : f254 wk1 = some (.inl (cy 0, 40, .inl gx1)) := k261 _ _ a329 (z_ne a329 a241 rfl) (z_ne a329 a248 rfl) (z_ne a329 a253 rfl)
          have a331 : f1 wk2 = some (.inl (cy 0, 40, .inl gx2)) := k4 _ _ x_wk2 (z_ne x_wk2 x_o rfl)
          have a332 : f209 wk2 = some (.inl (cy 0, 40, .inl gx2)) := k211 _ _ a331 
          have a333 : f221 wk2 = some (.inl (cy 0, 40, .inl gx2)) := k225 _ _ a332 (z_ne a332 a218 rfl) (z_ne a332 a220 rfl)
          have a334 : f230 wk2 = some (.inl (cy 0, 40, .inl gx2)) := k234 _ _ a333 (z_ne a333 a229 rfl) (z_ne a333 a224 rfl)
          have a335 : f236 wk2 = some (.inl (cy 0, 40, .inl gx2)) := k240 _ _ a334 (z_ne a334 a232 rfl) (z_ne a334 a233 rfl)
          have a336 : f254 wk2 = some (.inl (cy 0, 40, .inl gx2)) := k261 _ _ a335 (z_ne a335 a241 rfl) (z_ne a335 a248 rfl) (z_ne a335 a253 rfl)
          have a337 : f1 wk3 = some (.inl (cy 0, 40, .inl gx3)) := k4 _ _ x_wk3 (z_ne x_wk3 x_o rfl)
          have a338 : f209 wk3 = some (.inl (cy 0, 40, .inl gx3)) := k211 _ _ a337 
          have a339 : f221 wk3 = some (.inl (cy 0, 40, .inl gx3)) := k225 _ _ a338 (z_ne a338 a218 rfl) (z_ne a338 a220 rfl)
          have a340 : f230 wk3 = some (.inl (cy 0, 40, .inl gx3)) := k234 _ _ a339 (z_ne a339 a229 rfl) (z_ne a339 a224 rfl)
          have a341 : f236 wk3 = some (.inl (cy 0, 40, .inl gx3)) := k240 _ _ a340 (z_ne a340 a232 rfl) (z_ne a340 a233 rfl)
          have a342 : f254 wk3 = some (.inl (cy 0, 40, .inl gx3)) := k261 _ _ a341 (z_ne a341 a241 rfl) (z_ne a341 a248 rfl) (z_ne a341 a253 rfl)
          exact z_iret C hr rfl hz hS ⟨0, (-1), 0, nl, (nn + 1), nf, nc, lk, ks, gv, gu, (upd gk nn 4), (upd (upd (upd gm nn 0) nn (nI (0 + 1))) nn (nI (1 + 1))), (vp_updL (vp_updL gc (16 * nn + 0) x.toInt64) (16 * nn + 1) y.toInt64), gw, gl_256, gh_257, gt, gy, gq, ge1, gn1, gp1, gs, gx1, gx2, gx3, (va_up ln nn 2), fz, sq, rfl, (by rw [if_pos (nI_pos' (by omega))]), ⟨a258, a267, a273, a274, a275, a276, a282, a259, a260, a288, a294, a300, a306, a312, a318, a324, a330, a336, a342, (by omega), hl12, hf6, hc60, hs40, (zMP_new (zMP_keep hMP (fun i9 h9 => by simp only [upd, if_neg (show ¬ i9 = nn by omega)]) (fun i9 h9 => by simp only [upd, if_neg (show ¬ i9 = nn by omega)]) (fun i9 h9 j9 h8 => by simp (disch := omega) only [pk_uLn])) pk_us (by rw [pk_us]; exact ⟨by omega, fun _ => ⟨rfl, ⟨jl, hjl, hc0⟩, by rw [hc1]; exact hcr⟩, fun h9 => absurd h9 (by decide), fun h9 => absurd h9 (by decide)⟩)), hgy, hfz, hgs, hME, hlk, n_wki_wmy, n_wki_wiw, n_wki_wli, n_wki_wha, n_wki_wem, n_wki_wna, n_wki_wpl, n_wmy_wiw, n_wmy_wli, n_wmy_wha, n_wmy_wem, n_wmy_wna, n_wmy_wpl, n_wiw_wli, n_wiw_wha, n_wiw_wem, n_wiw_wna, n_wiw_wpl, n_wli_wha, n_wli_wem, n_wli_wna, n_wli_wpl, n_wha_wem, n_wha_wna, n_wha_wpl, n_wem_wna, n_wem_wpl, n_wna_wpl, n_wk1_wk2, n_wk1_wk3, n_wk2_wk3⟩⟩ (Nat.le_of_ble_eq_true rfl) (Nat.le_of_ble_eq_true rfl) dX8_pair_79
        · replace c215 : (nn = 60) := (nI_eq (a := nn) (b := 60) (by omega) (by omega)).mp c215
          have h60 : ¬ nn < 60 := by omega
          refine lv_bipush (v := (-3)) hx hb dX8_pair_42 (by decide) ?_
          have a343 : f1 wev = some (.inl (cy 0, 8, .inl gv)) := k4 _ _ x_wev (z_ne x_wev x_o rfl)
          have a344 : f209 wev = some (.inl (cy 0, 8, .inl gv)) := k211 _ _ a343 
          have a345 : f1 wnb = some (.inl (cy 0, 12, .inl gu)) := k4 _ _ x_wnb (z_ne x_wnb x_o rfl)
          have a346 : f209 wnb = some (.inl (cy 0, 12, .inl gu)) := k211 _ _ a345 
          have a347 : f1 wki = some (.inl (cy 0, 60, .inl gk)) := k4 _ _ x_wki (z_ne x_wki x_o rfl)
          have a348 : f209 wki = some (.inl (cy 0, 60, .inl gk)) := k211 _ _ a347 
          have a349 : f1 wmy = some (.inl (cy 0, 60, .inl gm)) := k4 _ _ x_wmy (z_ne x_wmy x_o rfl)
          have a350 : f209 wmy = some (.inl (cy 0, 60, .inl gm)) := k211 _ _ a349 
          have a351 : f1 wce = some (.inl (cy 1, 960, .inr (.inl gc))) := k4 _ _ x_wce (z_ne x_wce x_o rfl)
          have a352 : f209 wce = some (.inl (cy 1, 960, .inr (.inl gc))) := k211 _ _ a351 
          have a353 : f1 wiw = some (.inl (cy 2, 60, .inl gw)) := k4 _ _ x_wiw (z_ne x_wiw x_o rfl)
          have a354 : f209 wiw = some (.inl (cy 2, 60, .inl gw)) := k211 _ _ a353 
          have a355 : f1 wli = some (.inl (cy 0, 60, .inl gl)) := k4 _ _ x_wli (z_ne x_wli x_o rfl)
          have a356 : f209 wli = some (.inl (cy 0, 60, .inl gl)) := k211 _ _ a355 
          have a357 : f1 wha = some (.inl (cy 0, 60, .inl gh)) := k4 _ _ x_wha (z_ne x_wha x_o rfl)
          have a358 : f209 wha = some (.inl (cy 0, 60, .inl gh)) := k211 _ _ a357 
          have a359 : f1 wwt = some (.inl (cy 1, 60, .inr (.inl gt))) := k4 _ _ x_wwt (z_ne x_wwt x_o rfl)
          have a360 : f209 wwt = some (.inl (cy 1, 60, .inr (.inl gt))) := k211 _ _ a359 
          have a361 : f1 wfy = some (.inl (cy 0, 6, .inl gy)) := k4 _ _ x_wfy (z_ne x_wfy x_o rfl)
          have a362 : f209 wfy = some (.inl (cy 0, 6, .inl gy)) := k211 _ _ a361 
          have a363 : f1 wfk = some (.inl (cy 0, 24, .inl gq)) := k4 _ _ x_wfk (z_ne x_wfk x_o rfl)
          have a364 : f209 wfk = some (.inl (cy 0, 24, .inl gq)) := k211 _ _ a363 
          have a365 : f1 wem = some (.inl (cy 0, 60, .inl ge1)) := k4 _ _ x_wem (z_ne x_wem x_o rfl)
          have a366 : f209 wem = some (.inl (cy 0, 60, .inl ge1)) := k211 _ _ a365 
          have a367 : f1 wna = some (.inl (cy 0, 60, .inl gn1)) := k4 _ _ x_wna (z_ne x_wna x_o rfl)
          have a368 : f209 wna = some (.inl (cy 0, 60, .inl gn1)) := k211 _ _ a367 
          have a369 : f1 wpl = some (.inl (cy 0, 60, .inl gp1)) := k4 _ _ x_wpl (z_ne x_wpl x_o rfl)
          have a370 : f209 wpl = some (.inl (cy 0, 60, .inl gp1)) := k211 _ _ a369 
          have a371 : f1 whs = some (.inl (cy 0, 4, .inl gs)) := k4 _ _ x_whs (z_ne x_whs x_o rfl)
          have a372 : f209 whs = some (.inl (cy 0, 4, .inl gs)) := k211 _ _ a371 
          have a373 : f1 wk1 = some (.inl (cy 0, 40, .inl gx1)) := k4 _ _ x_wk1 (z_ne x_wk1 x_o rfl)
          have a374 : f209 wk1 = some (.inl (cy 0, 40, .inl gx1)) := k211 _ _ a373 
          have a375 : f1 wk2 = some (.inl (cy 0, 40, .inl gx2)) := k4 _ _ x_wk2 (z_ne x_wk2 x_o rfl)
          have a376 : f209 wk2 = some (.inl (cy 0, 40, .inl gx2)) := k211 _ _ a375 
          have a377 : f1 wk3 = some (.inl (cy 0, 40, .inl gx3)) := k4 _ _ x_wk3 (z_ne x_wk3 x_o rfl)
          have a378 : f209 wk3 = some (.inl (cy 0, 40, .inl gx3)) := k211 _ _ a377 
          exact z_iret C hr rfl hz hS ⟨0, (-1), 0, nl, nn, nf, nc, lk, ks, gv, gu, gk, gm, gc, gw, gl, gh, gt, gy, gq, ge1, gn1, gp1, gs, gx1, gx2, gx3, ln, fz, sq, rfl, (by rw [if_neg (by decide)]), ⟨a214, a344, a346, a348, a350, a352, a354, a356, a358, a360, a362, a364, a366, a368, a370, a372, a374, a376, a378, hn60, hl12, hf6, hc60, hs40, hMP, hgy, hfz, hgs, hME, hlk, n_wki_wmy, n_wki_wiw, n_wki_wli, n_wki_wha, n_wki_wem, n_wki_wna, n_wki_wpl, n_wmy_wiw, n_wmy_wli, n_wmy_wha, n_wmy_wem, n_wmy_wna, n_wmy_wpl, n_wiw_wli, n_wiw_wha, n_wiw_wem, n_wiw_wna, n_wiw_wpl, n_wli_wha, n_wli_wem, n_wli_wna, n_wli_wpl, n_wha_wem, n_wha_wna, n_wha_wpl, n_wem_wna, n_wem_wpl, n_wna_wpl, n_wk1_wk2, n_wk1_wk3, n_wk2_wk3⟩⟩ (Nat.le_of_ble_eq_true rfl) (Nat.le_of_ble_eq_true rfl) dX8_pair_44
      · refine lv_aload_n hx hb dX8_pair_22 rfl (lv_at hl 0 rfl) ?_
        refine lv_iload_n hx hb dX8_pair_23 rfl (lv_at hl 2 rfl) ?_
        rcases z_findi y nn with ⟨jr, hjr, hvrt⟩ | hvrt
        · have a379 : f209 o = some (.inr (8, [.int 0, .int (-1), .int 0, .ref wev, .int (nI nl), .ref wnb, .int (nI nn), .ref wki, .ref wmy, .ref wce, .ref wiw, .ref wli, .ref wha, .ref wwt, .int (nI nf), .ref wfy, .ref wfk, .int (nI nc), .ref wem, .ref wna, .ref wpl, .ref whs, .long lk, .int (nI ks), .ref wk1, .ref wk2, .ref wk3])) := k211 _ _ a3 
          refine z_callVi (As := [.int y]) C hz hS hA hl (k_X8_isFigure_A l D cy f209 o wev wnb wki wmy wce wiw wli wha wwt wfy wfk wem wna wpl whs wk1 wk2 wk3 0 (-1) 0 nl nn nf nc lk ks y jr a379 hn60 hvrt hjr) zyX8_isFigure mMX8_139 a379 zl8 rfl rfl (Nat.le_of_ble_eq_true rfl) ⟨Nat.le_of_ble_eq_true rfl, Nat.le_of_ble_eq_true rfl⟩ ⟨Nat.le_of_ble_eq_true rfl, Nat.le_of_ble_eq_true rfl⟩ dX8_pair_24 (fun r f380 H locs h381 hz hS => ?_)
          obtain ⟨rfl, k382⟩ := h381
          refine lv_if_ne (tgt := 33) hx hb dX8_pair_27 (by decide) (fun c383 => ?_) (fun c383 => ?_)
          rotate_left
          · exact absurd c383 (by decide)
          refine lv_aload_n hx hb dX8_pair_33 rfl (lv_at hl 0 rfl) ?_
          have a384 : f380 o = some (.inr (8, [.int 0, .int (-1), .int 0, .ref wev, .int (nI nl), .ref wnb, .int (nI nn), .ref wki, .ref wmy, .ref wce, .ref wiw, .ref wli, .ref wha, .ref wwt, .int (nI nf), .ref wfy, .ref wfk, .int (nI nc), .ref wem, .ref wna, .ref wpl, .ref whs, .long lk, .int (nI ks), .ref wk1, .ref wk2, .ref wk3])) := k382 _ _ a379 
          refine z_get (v := .int (nI nn)) C hz a384 zl8 mFX8_83 (by decide) rfl dX8_pair_34 ?_
          refine lv_bipush (v := 60) hx hb dX8_pair_37 (by decide) ?_
          refine lv_icmp_ne (tgt := 45) hx hb dX8_pair_39 (by decide) (fun c385 => ?_) (fun c385 => ?_)
          · replace c385 : ¬ (nn = 60) := fun h => c385 ((nI_eq (a := nn) (b := 60) (by omega) (by omega)).mpr h)
            have h60 : nn < 60 := by omega
            refine lv_iload_n hx hb dX8_pair_45 rfl (lv_at hl 1 rfl) ?_
            refine lv_iconst (v := (-1)) hx hb dX8_pair_46 (by decide) ?_
            refine lv_icmp_ne (tgt := 58) hx hb dX8_pair_47 (by decide) (fun c386 => ?_) (fun c386 => ?_)
            rotate_left
            · exact absurd c386 (by rw [hvlf]; exact z_nim1 (by omega))
            refine lv_aload_n hx hb dX8_pair_58 rfl (lv_at hl 0 rfl) ?_
            refine lv_iconst (v := 4) hx hb dX8_pair_59 (by decide) ?_
            have a387 : f1 wki = some (.inl (cy 0, 60, .inl gk)) := k4 _ _ x_wki (z_ne x_wki x_o rfl)
            have a388 : f209 wki = some (.inl (cy 0, 60, .inl gk)) := k211 _ _ a387 
            have a389 : f380 wki = some (.inl (cy 0, 60, .inl gk)) := k382 _ _ a388 
            have a390 : f1 wmy = some (.inl (cy 0, 60, .inl gm)) := k4 _ _ x_wmy (z_ne x_wmy x_o rfl)
            have a391 : f209 wmy = some (.inl (cy 0, 60, .inl gm)) := k211 _ _ a390 
            have a392 : f380 wmy = some (.inl (cy 0, 60, .inl gm)) := k382 _ _ a391 
            refine z_callVv (As := [.int 4]) C hz hS hA hl (k_X8_start l D cy f380 o wev wnb wki wmy wce wiw wli wha wwt wfy wfk wem wna wpl whs wk1 wk2 wk3 0 (-1) 0 nl nn nf nc lk ks gk gm 4 a384 a389 a392 (by omega) n_wki_wmy) zyX8_start mMX8_119 a384 zl8 rfl rfl (Nat.le_of_ble_eq_true rfl) ⟨Nat.le_of_ble_eq_true rfl, Nat.le_of_ble_eq_true rfl⟩ ⟨Nat.le_of_ble_eq_true rfl, Nat.le_of_ble_eq_true rfl⟩ dX8_pair_60 (fun  f393 H locs h394 hz hS => ?_)
            obtain ⟨a395, a396, k397⟩ := h394
            refine lv_aload_n hx hb dX8_pair_63 rfl (lv_at hl 0 rfl) ?_
            refine lv_iload_n hx hb dX8_pair_64 rfl (lv_at hl 1 rfl) ?_
            refine lv_i2l (v := x.toInt64) hx hb dX8_pair_65 rfl ?_
            have a398 : f393 o = some (.inr (8, [.int 0, .int (-1), .int 0, .ref wev, .int (nI nl), .ref wnb, .int (nI nn), .ref wki, .ref wmy, .ref wce, .ref wiw, .ref wli, .ref wha, .ref wwt, .int (nI nf), .ref wfy, .ref wfk, .int (nI nc), .ref wem, .ref wna, .ref wpl, .ref whs, .long lk, .int (nI ks), .ref wk1, .ref wk2, .ref wk3])) := k397 _ _ a384 (z_ne a384 a389 rfl) (z_ne a384 a392 rfl)
            have a399 : f1 wce = some (.inl (cy 1, 960, .inr (.inl gc))) := k4 _ _ x_wce (z_ne x_wce x_o rfl)
            have a400 : f209 wce = some (.inl (cy 1, 960, .inr (.inl gc))) := k211 _ _ a399 
            have a401 : f380 wce = some (.inl (cy 1, 960, .inr (.inl gc))) := k382 _ _ a400 
            have a402 : f393 wce = some (.inl (cy 1, 960, .inr (.inl gc))) := k397 _ _ a401 (z_ne a401 a389 rfl) (z_ne a401 a392 rfl)
            refine z_callVv (As := [.long x.toInt64]) C hz hS hA hl (k_X8_part l D cy f393 o wev wnb wki wmy wce wiw wli wha wwt wfy wfk wem wna wpl whs wk1 wk2 wk3 0 (-1) 0 nl nn nf nc lk ks gc (upd gm nn 0) x.toInt64 0 a398 a402 a396 (by omega) pk_us (by omega)) zyX8_part mMX8_127 a398 zl8 rfl rfl (Nat.le_of_ble_eq_true rfl) ⟨Nat.le_of_ble_eq_true rfl, Nat.le_of_ble_eq_true rfl⟩ ⟨Nat.le_of_ble_eq_true rfl, Nat.le_of_ble_eq_true rfl⟩ dX8_pair_66 (fun  f403 H locs h404 hz hS => ?_)
            obtain ⟨a405, a406, k407⟩ := h404
            refine lv_aload_n hx hb dX8_pair_69 rfl (lv_at hl 0 rfl) ?_
            refine lv_iload_n hx hb dX8_pair_70 rfl (lv_at hl 2 rfl) ?_
            refine lv_i2l (v := y.toInt64) hx hb dX8_pair_71 rfl ?_
            have a408 : f403 o = some (.inr (8, [.int 0, .int (-1), .int 0, .ref wev, .int (nI nl), .ref wnb, .int (nI nn), .ref wki, .ref wmy, .ref wce, .ref wiw, .ref wli, .ref wha, .ref wwt, .int (nI nf), .ref wfy, .ref wfk, .int (nI nc), .ref wem, .ref wna, .ref wpl, .ref whs, .long lk, .int (nI ks), .ref wk1, .ref wk2, .ref wk3])) := k407 _ _ a398 (z_ne a398 a402 rfl) (z_ne a398 a396 rfl)
            refine z_callVv (As := [.long y.toInt64]) C hz hS hA hl (k_X8_part l D cy f403 o wev wnb wki wmy wce wiw wli wha wwt wfy wfk wem wna wpl whs wk1 wk2 wk3 0 (-1) 0 nl nn nf nc lk ks (vp_updL gc (16 * nn + 0) x.toInt64) (upd (upd gm nn 0) nn (nI (0 + 1))) y.toInt64 1 a408 a405 a406 (by omega) pk_us (by omega)) zyX8_part mMX8_127 a408 zl8 rfl rfl (Nat.le_of_ble_eq_true rfl) ⟨Nat.le_of_ble_eq_true rfl, Nat.le_of_ble_eq_true rfl⟩ ⟨Nat.le_of_ble_eq_true rfl, Nat.le_of_ble_eq_true rfl⟩ dX8_pair_72 (fun  f409 H locs h410 hz hS => ?_)
            obtain ⟨a411, a412, k413⟩ := h410
            refine lv_aload_n hx hb dX8_pair_75 rfl (lv_at hl 0 rfl) ?_
            have a414 : f409 o = some (.inr (8, [.int 0, .int (-1), .int 0, .ref wev, .int (nI nl), .ref wnb, .int (nI nn), .ref wki, .ref wmy, .ref wce, .ref wiw, .ref wli, .ref wha, .ref wwt, .int (nI nf), .ref wfy, .ref wfk, .int (nI nc), .ref wem, .ref wna, .ref wpl, .ref whs, .long lk, .int (nI ks), .ref wk1, .ref wk2, .ref wk3])) := k413 _ _ a408 (z_ne a408 a405 rfl) (z_ne a408 a406 rfl)
            have a415 : f403 wki = some (.inl (cy 0, 60, .inl (upd gk nn 4))) := k407 _ _ a395 (z_ne a395 a402 rfl) n_wki_wmy
            have a416 : f409 wki = some (.inl (cy 0, 60, .inl (upd gk nn 4))) := k413 _ _ a415 (z_ne a415 a405 rfl) n_wki_wmy
            have a417 : f1 wli = some (.inl (cy 0, 60, .inl gl)) := k4 _ _ x_wli (z_ne x_wli x_o rfl)
            have a418 : f209 wli = some (.inl (cy 0, 60, .inl gl)) := k211 _ _ a417 
            have a419 : f380 wli = some (.inl (cy 0, 60, .inl gl)) := k382 _ _ a418 
            have a420 : f393 wli = some (.inl (cy 0, 60, .inl gl)) := k397 _ _ a419 (Ne.symm n_wki_wli) (Ne.symm n_wmy_wli)
            have a421 : f403 wli = some (.inl (cy 0, 60, .inl gl)) := k407 _ _ a420 (z_ne a420 a402 rfl) (Ne.symm n_wmy_wli)
            have a422 : f409 wli = some (.inl (cy 0, 60, .inl gl)) := k413 _ _ a421 (z_ne a421 a405 rfl) (Ne.symm n_wmy_wli)
            have a423 : f1 wha = some (.inl (cy 0, 60, .inl gh)) := k4 _ _ x_wha (z_ne x_wha x_o rfl)
            have a424 : f209 wha = some (.inl (cy 0, 60, .inl gh)) := k211 _ _ a423 
            have a425 : f380 wha = some (.inl (cy 0, 60, .inl gh)) := k382 _ _ a424 
            have a426 : f393 wha = some (.inl (cy 0, 60, .inl gh)) := k397 _ _ a425 (Ne.symm n_wki_wha) (Ne.symm n_wmy_wha)
            have a427 : f403 wha = some (.inl (cy 0, 60, .inl gh)) := k407 _ _ a426 (z_ne a426 a402 rfl) (Ne.symm n_wmy_wha)
            have a428 : f409 wha = some (.inl (cy 0, 60, .inl gh)) := k413 _ _ a427 (z_ne a427 a405 rfl) (Ne.symm n_wmy_wha)
            have hc0 := (show vp_updL (vp_updL gc (16 * nn + 0) x.toInt64) (16 * nn + (0 + 1)) y.toInt64 (16 * nn) = lN jl by rw [pk_uLn (by omega)]; exact (pk_uLs (k := 16 * nn + 0)).trans (z_cr (by omega) hvlf))
            have hc1 := (show vp_updL (vp_updL gc (16 * nn + 0) x.toInt64) (16 * nn + (0 + 1)) y.toInt64 (16 * nn + 1) = y.toInt64 from pk_uLs)
            have hcr : y.toInt64 = (-1) ∨ ∃ j9, j9 < nn ∧ y.toInt64 = lN j9 := (Or.inr ⟨jr, hjr, z_cr (by omega) hvrt⟩)
            refine z_callVi (As := []) C hz hS hA hl (k_X8_made l D cy f409 o wev wnb wki wmy wce wiw wli wha wwt wfy wfk wem wna wpl whs wk1 wk2 wk3 0 (-1) 0 nl nn nf nc lk ks (upd gk nn 4) (upd (upd (upd gm nn 0) nn (nI (0 + 1))) nn (nI (1 + 1))) (vp_updL (vp_updL gc (16 * nn + 0) x.toInt64) (16 * nn + 1) y.toInt64) gl gh ln 2 a414 a416 a412 a411 a422 a428 (by omega) (zMP_keep hMP (fun i9 h9 => by simp only [upd, if_neg (show ¬ i9 = nn by omega)]) (fun i9 h9 => by simp only [upd, if_neg (show ¬ i9 = nn by omega)]) (fun i9 h9 j9 h8 => by simp (disch := omega) only [pk_uLn])) pk_us (by omega) (fun _ k9 h9 => by rcases (show k9 = 0 ∨ k9 = 1 by omega) with rfl | rfl; exact Or.inr ⟨jl, by omega, hc0⟩; rw [hc1]; exact hcr.elim Or.inl (fun ⟨j8, h8, e8⟩ => Or.inr ⟨j8, by omega, e8⟩)) n_wki_wmy n_wki_wli n_wki_wha n_wmy_wli n_wmy_wha n_wli_wha) zyX8_made mMX8_131 a414 zl8 rfl rfl (Nat.le_of_ble_eq_true rfl) ⟨Nat.le_of_ble_eq_true rfl, Nat.le_of_ble_eq_true rfl⟩ ⟨Nat.le_of_ble_eq_true rfl, Nat.le_of_ble_eq_true rfl⟩ dX8_pair_76 (fun r f429 H locs h430 hz hS => ?_)
            obtain ⟨gl_431, gh_432, rfl, a433, a434, a435, k436⟩ := h430
            have a437 : f1 wev = some (.inl (cy 0, 8, .inl gv)) := k4 _ _ x_wev (z_ne x_wev x_o rfl)
            have a438 : f209 wev = some (.inl (cy 0, 8, .inl gv)) := k211 _ _ a437 
            have a439 : f380 wev = some (.inl (cy 0, 8, .inl gv)) := k382 _ _ a438 
            have a440 : f393 wev = some (.inl (cy 0, 8, .inl gv)) := k397 _ _ a439 (z_ne a439 a389 rfl) (z_ne a439 a392 rfl)
            have a441 : f403 wev = some (.inl (cy 0, 8, .inl gv)) := k407 _ _ a440 (z_ne a440 a402 rfl) (z_ne a440 a396 rfl)
            have a442 : f409 wev = some (.inl (cy 0, 8, .inl gv)) := k413 _ _ a441 (z_ne a441 a405 rfl) (z_ne a441 a406 rfl)
            have a443 : f429 wev = some (.inl (cy 0, 8, .inl gv)) := k436 _ _ a442 (z_ne a442 a414 rfl) (z_ne a442 a422 rfl) (z_ne a442 a428 rfl)
            have a444 : f1 wnb = some (.inl (cy 0, 12, .inl gu)) := k4 _ _ x_wnb (z_ne x_wnb x_o rfl)
            have a445 : f209 wnb = some (.inl (cy 0, 12, .inl gu)) := k211 _ _ a444 
            have a446 : f380 wnb = some (.inl (cy 0, 12, .inl gu)) := k382 _ _ a445 
            have a447 : f393 wnb = some (.inl (cy 0, 12, .inl gu)) := k397 _ _ a446 (z_ne a446 a389 rfl) (z_ne a446 a392 rfl)
            have a448 : f403 wnb = some (.inl (cy 0, 12, .inl gu)) := k407 _ _ a447 (z_ne a447 a402 rfl) (z_ne a447 a396 rfl)
            have a449 : f409 wnb = some (.inl (cy 0, 12, .inl gu)) := k413 _ _ a448 (z_ne a448 a405 rfl) (z_ne a448 a406 rfl)
            have a450 : f429 wnb = some (.inl (cy 0, 12, .inl gu)) := k436 _ _ a449 (z_ne a449 a414 rfl) (z_ne a449 a422 rfl) (z_ne a449 a428 rfl)
            have a451 : f429 wki = some (.inl (cy 0, 60, .inl (upd gk nn 4))) := k436 _ _ a416 (z_ne a416 a414 rfl) n_wki_wli n_wki_wha
            have a452 : f429 wmy = some (.inl (cy 0, 60, .inl (upd (upd (upd gm nn 0) nn (nI (0 + 1))) nn (nI (1 + 1))))) := k436 _ _ a412 (z_ne a412 a414 rfl) n_wmy_wli n_wmy_wha
            have a453 : f429 wce = some (.inl (cy 1, 960, .inr (.inl (vp_updL (vp_updL gc (16 * nn + 0) x.toInt64) (16 * nn + 1) y.toInt64)))) := k436 _ _ a411 (z_ne a411 a414 rfl) (z_ne a411 a422 rfl) (z_ne a411 a428 rfl)
            have a454 : f1 wiw = some (.inl (cy 2, 60, .inl gw)) := k4 _ _ x_wiw (z_ne x_wiw x_o rfl)
            have a455 : f209 wiw = some (.inl (cy 2, 60, .inl gw)) := k211 _ _ a454 
            have a456 : f380 wiw = some (.inl (cy 2, 60, .inl gw)) := k382 _ _ a455 
            have a457 : f393 wiw = some (.inl (cy 2, 60, .inl gw)) := k397 _ _ a456 (Ne.symm n_wki_wiw) (Ne.symm n_wmy_wiw)
            have a458 : f403 wiw = some (.inl (cy 2, 60, .inl gw)) := k407 _ _ a457 (z_ne a457 a402 rfl) (Ne.symm n_wmy_wiw)
            have a459 : f409 wiw = some (.inl (cy 2, 60, .inl gw)) := k413 _ _ a458 (z_ne a458 a405 rfl) (Ne.symm n_wmy_wiw)
            have a460 : f429 wiw = some (.inl (cy 2, 60, .inl gw)) := k436 _ _ a459 (z_ne a459 a414 rfl) n_wiw_wli n_wiw_wha
            have a461 : f1 wwt = some (.inl (cy 1, 60, .inr (.inl gt))) := k4 _ _ x_wwt (z_ne x_wwt x_o rfl)
            have a462 : f209 wwt = some (.inl (cy 1, 60, .inr (.inl gt))) := k211 _ _ a461 
            have a463 : f380 wwt = some (.inl (cy 1, 60, .inr (.inl gt))) := k382 _ _ a462 
            have a464 : f393 wwt = some (.inl (cy 1, 60, .inr (.inl gt))) := k397 _ _ a463 (z_ne a463 a389 rfl) (z_ne a463 a392 rfl)
            have a465 : f403 wwt = some (.inl (cy 1, 60, .inr (.inl gt))) := k407 _ _ a464 (z_ne a464 a402 rfl) (z_ne a464 a396 rfl)
            have a466 : f409 wwt = some (.inl (cy 1, 60, .inr (.inl gt))) := k413 _ _ a465 (z_ne a465 a405 rfl) (z_ne a465 a406 rfl)
            have a467 : f429 wwt = some (.inl (cy 1, 60, .inr (.inl gt))) := k436 _ _ a466 (z_ne a466 a414 rfl) (z_ne a466 a422 rfl) (z_ne a466 a428 rfl)
            have a468 : f1 wfy = some (.inl (cy 0, 6, .inl gy)) := k4 _ _ x_wfy (z_ne x_wfy x_o rfl)
            have a469 : f209 wfy = some (.inl (cy 0, 6, .inl gy)) := k211 _ _ a468 
            have a470 : f380 wfy = some (.inl (cy 0, 6, .inl gy)) := k382 _ _ a469 
            have a471 : f393 wfy = some (.inl (cy 0, 6, .inl gy)) := k397 _ _ a470 (z_ne a470 a389 rfl) (z_ne a470 a392 rfl)
            have a472 : f403 wfy = some (.inl (cy 0, 6, .inl gy)) := k407 _ _ a471 (z_ne a471 a402 rfl) (z_ne a471 a396 rfl)
            have a473 : f409 wfy = some (.inl (cy 0, 6, .inl gy)) := k413 _ _ a472 (z_ne a472 a405 rfl) (z_ne a472 a406 rfl)
            have a474 : f429 wfy = some (.inl (cy 0, 6, .inl gy)) := k436 _ _ a473 (z_ne a473 a414 rfl) (z_ne a473 a422 rfl) (z_ne a473 a428 rfl)
            have a475 : f1 wfk = some (.inl (cy 0, 24, .inl gq)) := k4 _ _ x_wfk (z_ne x_wfk x_o rfl)
            have a476 : f209 wfk = some (.inl (cy 0, 24, .inl gq)) := k211 _ _ a475 
            have a477 : f380 wfk = some (.inl (cy 0, 24, .inl gq)) := k382 _ _ a476 
            have a478 : f393 wfk = some (.inl (cy 0, 24, .inl gq)) := k397 _ _ a477 (z_ne a477 a389 rfl) (z_ne a477 a392 rfl)
            have a479 : f403 wfk = some (.inl (cy 0, 24, .inl gq)) := k407 _ _ a478 (z_ne a478 a402 rfl) (z_ne a478 a396 rfl)
            have a480 : f409 wfk = some (.inl (cy 0, 24, .inl gq)) := k413 _ _ a479 (z_ne a479 a405 rfl) (z_ne a479 a406 rfl)
            have a481 : f429 wfk = some (.inl (cy 0, 24, .inl gq)) := k436 _ _ a480 (z_ne a480 a414 rfl) (z_ne a480 a422 rfl) (z_ne a480 a428 rfl)
            have a482 : f1 wem = some (.inl (cy 0, 60, .inl ge1)) := k4 _ _ x_wem (z_ne x_wem x_o rfl)
            have a483 : f209 wem = some (.inl (cy 0, 60, .inl ge1)) := k211 _ _ a482 
            have a484 : f380 wem = some (.inl (cy 0, 60, .inl ge1)) := k382 _ _ a483 
            have a485 : f393 wem = some (.inl (cy 0, 60, .inl ge1)) := k397 _ _ a484 (Ne.symm n_wki_wem) (Ne.symm n_wmy_wem)
            have a486 : f403 wem = some (.inl (cy 0, 60, .inl ge1)) := k407 _ _ a485 (z_ne a485 a402 rfl) (Ne.symm n_wmy_wem)
            have a487 : f409 wem = some (.inl (cy 0, 60, .inl ge1)) := k413 _ _ a486 (z_ne a486 a405 rfl) (Ne.symm n_wmy_wem)
            have a488 : f429 wem = some (.inl (cy 0, 60, .inl ge1)) := k436 _ _ a487 (z_ne a487 a414 rfl) (Ne.symm n_wli_wem) (Ne.symm n_wha_wem)
            have a489 : f1 wna = some (.inl (cy 0, 60, .inl gn1)) := k4 _ _ x_wna (z_ne x_wna x_o rfl)
            have a490 : f209 wna = some (.inl (cy 0, 60, .inl gn1)) := k211 _ _ a489 
            have a491 : f380 wna = some (.inl (cy 0, 60, .inl gn1)) := k382 _ _ a490 
            have a492 : f393 wna = some (.inl (cy 0, 60, .inl gn1)) := k397 _ _ a491 (Ne.symm n_wki_wna) (Ne.symm n_wmy_wna)
            have a493 : f403 wna = some (.inl (cy 0, 60, .inl gn1)) := k407 _ _ a492 (z_ne a492 a402 rfl) (Ne.symm n_wmy_wna)
            have a494 : f409 wna = some (.inl (cy 0, 60, .inl gn1)) := k413 _ _ a493 (z_ne a493 a405 rfl) (Ne.symm n_wmy_wna)
            have a495 : f429 wna = some (.inl (cy 0, 60, .inl gn1)) := k436 _ _ a494 (z_ne a494 a414 rfl) (Ne.symm n_wli_wna) (Ne.symm n_wha_wna)
            have a496 : f1 wpl = some (.inl (cy 0, 60, .inl gp1)) := k4 _ _ x_wpl (z_ne x_wpl x_o rfl)
            have a497 : f209 wpl = some (.inl (cy 0, 60, .inl gp1)) := k211 _ _ a496 
            have a498 : f380 wpl = some (.inl (cy 0, 60, .inl gp1)) := k382 _ _ a497 
            have a499 : f393 wpl = some (.inl (cy 0, 60, .inl gp1)) := k397 _ _ a498 (Ne.symm n_wki_wpl) (Ne.symm n_wmy_wpl)
            have a500 : f403 wpl = some (.inl (cy 0, 60, .inl gp1)) := k407 _ _ a499 (z_ne a499 a402 rfl) (Ne.symm n_wmy_wpl)
            have a501 : f409 wpl = some (.inl (cy 0, 60, .inl gp1)) := k413 _ _ a500 (z_ne a500 a405 rfl) (Ne.symm n_wmy_wpl)
            have a502 : f429 wpl = some (.inl (cy 0, 60, .inl gp1)) := k436 _ _ a501 (z_ne a501 a414 rfl) (Ne.symm n_wli_wpl) (Ne.symm n_wha_wpl)
            have a503 : f1 whs = some (.inl (cy 0, 4, .inl gs)) := k4 _ _ x_whs (z_ne x_whs x_o rfl)
            have a504 : f209 whs = some (.inl (cy 0, 4, .inl gs)) := k211 _ _ a503 
            have a505 : f380 whs = some (.inl (cy 0, 4, .inl gs)) := k382 _ _ a504 
            have a506 : f393 whs = some (.inl (cy 0, 4, .inl gs)) := k397 _ _ a505 (z_ne a505 a389 rfl) (z_ne a505 a392 rfl)
            have a507 : f403 whs = some (.inl (cy 0, 4, .inl gs)) := k407 _ _ a506 (z_ne a506 a402 rfl) (z_ne a506 a396 rfl)
            have a508 : f409 whs = some (.inl (cy 0, 4, .inl gs)) := k413 _ _ a507 (z_ne a507 a405 rfl) (z_ne a507 a406 rfl)
            have a509 : f429 whs = some (.inl (cy 0, 4, .inl gs)) := k436 _ _ a508 (z_ne a508 a414 rfl) (z_ne a508 a422 rfl) (z_ne a508 a428 rfl)
            have a510 : f1 wk1 = some (.inl (cy 0, 40, .inl gx1)) := k4 _ _ x_wk1 (z_ne x_wk1 x_o rfl)
            have a511 : f209 wk1 = some (.inl (cy 0, 40, .inl gx1)) := k211 _ _ a510 
            have a512 : f380 wk1 = some (.inl (cy 0, 40, .inl gx1)) := k382 _ _ a511 
            have a513 : f393 wk1 = some (.inl (cy 0, 40, .inl gx1)) := k397 _ _ a512 (z_ne a512 a389 rfl) (z_ne a512 a392 rfl)
            have a514 : f403 wk1 = some (.inl (cy 0, 40, .inl gx1)) := k407 _ _ a513 (z_ne a513 a402 rfl) (z_ne a513 a396 rfl)
            have a515 : f409 wk1 = some (.inl (cy 0, 40, .inl gx1)) := k413 _ _ a514 (z_ne a514 a405 rfl) (z_ne a514 a406 rfl)
            have a516 : f429 wk1 = some (.inl (cy 0, 40, .inl gx1)) := k436 _ _ a515 (z_ne a515 a414 rfl) (z_ne a515 a422 rfl) (z_ne a515 a428 rfl)
            have a517 : f1 wk2 = some (.inl (cy 0, 40, .inl gx2)) := k4 _ _ x_wk2 (z_ne x_wk2 x_o rfl)
            have a518 : f209 wk2 = some (.inl (cy 0, 40, .inl gx2)) := k211 _ _ a517 
            have a519 : f380 wk2 = some (.inl (cy 0, 40, .inl gx2)) := k382 _ _ a518 
            have a520 : f393 wk2 = some (.inl (cy 0, 40, .inl gx2)) := k397 _ _ a519 (z_ne a519 a389 rfl) (z_ne a519 a392 rfl)
            have a521 : f403 wk2 = some (.inl (cy 0, 40, .inl gx2)) := k407 _ _ a520 (z_ne a520 a402 rfl) (z_ne a520 a396 rfl)
            have a522 : f409 wk2 = some (.inl (cy 0, 40, .inl gx2)) := k413 _ _ a521 (z_ne a521 a405 rfl) (z_ne a521 a406 rfl)
            have a523 : f429 wk2 = some (.inl (cy 0, 40, .inl gx2)) := k436 _ _ a522 (z_ne a522 a414 rfl) (z_ne a522 a422 rfl) (z_ne a522 a428 rfl)
            have a524 : f1 wk3 = some (.inl (cy 0, 40, .inl gx3)) := k4 _ _ x_wk3 (z_ne x_wk3 x_o rfl)
            have a525 : f209 wk3 = some (.inl (cy 0, 40, .inl gx3)) := k211 _ _ a524 
            have a526 : f380 wk3 = some (.inl (cy 0, 40, .inl gx3)) := k382 _ _ a525 
            have a527 : f393 wk3 = some (.inl (cy 0, 40, .inl gx3)) := k397 _ _ a526 (z_ne a526 a389 rfl) (z_ne a526 a392 rfl)
            have a528 : f403 wk3 = some (.inl (cy 0, 40, .inl gx3)) := k407 _ _ a527 (z_ne a527 a402 rfl) (z_ne a527 a396 rfl)
            have a529 : f409 wk3 = some (.inl (cy 0, 40, .inl gx3)) := k413 _ _ a528 (z_ne a528 a405 rfl) (z_ne a528 a406 rfl)
            have a530 : f429 wk3 = some (.inl (cy 0, 40, .inl gx3)) := k436 _ _ a529 (z_ne a529 a414 rfl) (z_ne a529 a422 rfl) (z_ne a529 a428 rfl)
            exact z_iret C hr rfl hz hS ⟨0, (-1), 0, nl, (nn + 1), nf, nc, lk, ks, gv, gu, (upd gk nn 4), (upd (upd (upd gm nn 0) nn (nI (0 + 1))) nn (nI (1 + 1))), (vp_updL (vp_updL gc (16 * nn + 0) x.toInt64) (16 * nn + 1) y.toInt64), gw, gl_431, gh_432, gt, gy, gq, ge1, gn1, gp1, gs, gx1, gx2, gx3, (va_up ln nn 2), fz, sq, rfl, (by rw [if_pos (nI_pos' (by omega))]), ⟨a433, a443, a450, a451, a452, a453, a460, a434, a435, a467, a474, a481, a488, a495, a502, a509, a516, a523, a530, (by omega), hl12, hf6, hc60, hs40, (zMP_new (zMP_keep hMP (fun i9 h9 => by simp only [upd, if_neg (show ¬ i9 = nn by omega)]) (fun i9 h9 => by simp only [upd, if_neg (show ¬ i9 = nn by omega)]) (fun i9 h9 j9 h8 => by simp (disch := omega) only [pk_uLn])) pk_us (by rw [pk_us]; exact ⟨by omega, fun _ => ⟨rfl, ⟨jl, hjl, hc0⟩, by rw [hc1]; exact hcr⟩, fun h9 => absurd h9 (by decide), fun h9 => absurd h9 (by decide)⟩)), hgy, hfz, hgs, hME, hlk, n_wki_wmy, n_wki_wiw, n_wki_wli, n_wki_wha, n_wki_wem, n_wki_wna, n_wki_wpl, n_wmy_wiw, n_wmy_wli, n_wmy_wha, n_wmy_wem, n_wmy_wna, n_wmy_wpl, n_wiw_wli, n_wiw_wha, n_wiw_wem, n_wiw_wna, n_wiw_wpl, n_wli_wha, n_wli_wem, n_wli_wna, n_wli_wpl, n_wha_wem, n_wha_wna, n_wha_wpl, n_wem_wna, n_wem_wpl, n_wna_wpl, n_wk1_wk2, n_wk1_wk3, n_wk2_wk3⟩⟩ (Nat.le_of_ble_eq_true rfl) (Nat.le_of_ble_eq_true rfl) dX8_pair_79
          · replace c385 : (nn = 60) := (nI_eq (a := nn) (b := 60) (by omega) (by omega)).mp c385
            have h60 : ¬ nn < 60 := by omega
            refine lv_bipush (v := (-3)) hx hb dX8_pair_42 (by decide) ?_
            have a531 : f1 wev = some (.inl (cy 0, 8, .inl gv)) := k4 _ _ x_wev (z_ne x_wev x_o rfl)
            have a532 : f209 wev = some (.inl (cy 0, 8, .inl gv)) := k211 _ _ a531 
            have a533 : f380 wev = some (.inl (cy 0, 8, .inl gv)) := k382 _ _ a532 
            have a534 : f1 wnb = some (.inl (cy 0, 12, .inl gu)) := k4 _ _ x_wnb (z_ne x_wnb x_o rfl)
            have a535 : f209 wnb = some (.inl (cy 0, 12, .inl gu)) := k211 _ _ a534 
            have a536 : f380 wnb = some (.inl (cy 0, 12, .inl gu)) := k382 _ _ a535 
            have a537 : f1 wki = some (.inl (cy 0, 60, .inl gk)) := k4 _ _ x_wki (z_ne x_wki x_o rfl)
            have a538 : f209 wki = some (.inl (cy 0, 60, .inl gk)) := k211 _ _ a537 
            have a539 : f380 wki = some (.inl (cy 0, 60, .inl gk)) := k382 _ _ a538 
            have a540 : f1 wmy = some (.inl (cy 0, 60, .inl gm)) := k4 _ _ x_wmy (z_ne x_wmy x_o rfl)
            have a541 : f209 wmy = some (.inl (cy 0, 60, .inl gm)) := k211 _ _ a540 
            have a542 : f380 wmy = some (.inl (cy 0, 60, .inl gm)) := k382 _ _ a541 
            have a543 : f1 wce = some (.inl (cy 1, 960, .inr (.inl gc))) := k4 _ _ x_wce (z_ne x_wce x_o rfl)
            have a544 : f209 wce = some (.inl (cy 1, 960, .inr (.inl gc))) := k211 _ _ a543 
            have a545 : f380 wce = some (.inl (cy 1, 960, .inr (.inl gc))) := k382 _ _ a544 
            have a546 : f1 wiw = some (.inl (cy 2, 60, .inl gw)) := k4 _ _ x_wiw (z_ne x_wiw x_o rfl)
            have a547 : f209 wiw = some (.inl (cy 2, 60, .inl gw)) := k211 _ _ a546 
            have a548 : f380 wiw = some (.inl (cy 2, 60, .inl gw)) := k382 _ _ a547 
            have a549 : f1 wli = some (.inl (cy 0, 60, .inl gl)) := k4 _ _ x_wli (z_ne x_wli x_o rfl)
            have a550 : f209 wli = some (.inl (cy 0, 60, .inl gl)) := k211 _ _ a549 
            have a551 : f380 wli = some (.inl (cy 0, 60, .inl gl)) := k382 _ _ a550 
            have a552 : f1 wha = some (.inl (cy 0, 60, .inl gh)) := k4 _ _ x_wha (z_ne x_wha x_o rfl)
            have a553 : f209 wha = some (.inl (cy 0, 60, .inl gh)) := k211 _ _ a552 
            have a554 : f380 wha = some (.inl (cy 0, 60, .inl gh)) := k382 _ _ a553 
            have a555 : f1 wwt = some (.inl (cy 1, 60, .inr (.inl gt))) := k4 _ _ x_wwt (z_ne x_wwt x_o rfl)
            have a556 : f209 wwt = some (.inl (cy 1, 60, .inr (.inl gt))) := k211 _ _ a555 
            have a557 : f380 wwt = some (.inl (cy 1, 60, .inr (.inl gt))) := k382 _ _ a556 
            have a558 : f1 wfy = some (.inl (cy 0, 6, .inl gy)) := k4 _ _ x_wfy (z_ne x_wfy x_o rfl)
            have a559 : f209 wfy = some (.inl (cy 0, 6, .inl gy)) := k211 _ _ a558 
            have a560 : f380 wfy = some (.inl (cy 0, 6, .inl gy)) := k382 _ _ a559 
            have a561 : f1 wfk = some (.inl (cy 0, 24, .inl gq)) := k4 _ _ x_wfk (z_ne x_wfk x_o rfl)
            have a562 : f209 wfk = some (.inl (cy 0, 24, .inl gq)) := k211 _ _ a561 
            have a563 : f380 wfk = some (.inl (cy 0, 24, .inl gq)) := k382 _ _ a562 
            have a564 : f1 wem = some (.inl (cy 0, 60, .inl ge1)) := k4 _ _ x_wem (z_ne x_wem x_o rfl)
            have a565 : f209 wem = some (.inl (cy 0, 60, .inl ge1)) := k211 _ _ a564 
            have a566 : f380 wem = some (.inl (cy 0, 60, .inl ge1)) := k382 _ _ a565 
            have a567 : f1 wna = some (.inl (cy 0, 60, .inl gn1)) := k4 _ _ x_wna (z_ne x_wna x_o rfl)
            have a568 : f209 wna = some (.inl (cy 0, 60, .inl gn1)) := k211 _ _ a567 
            have a569 : f380 wna = some (.inl (cy 0, 60, .inl gn1)) := k382 _ _ a568 
            have a570 : f1 wpl = some (.inl (cy 0, 60, .inl gp1)) := k4 _ _ x_wpl (z_ne x_wpl x_o rfl)
            have a571 : f209 wpl = some (.inl (cy 0, 60, .inl gp1)) := k211 _ _ a570 
            have a572 : f380 wpl = some (.inl (cy 0, 60, .inl gp1)) := k382 _ _ a571 
            have a573 : f1 whs = some (.inl (cy 0, 4, .inl gs)) := k4 _ _ x_whs (z_ne x_whs x_o rfl)
            have a574 : f209 whs = some (.inl (cy 0, 4, .inl gs)) := k211 _ _ a573 
            have a575 : f380 whs = some (.inl (cy 0, 4, .inl gs)) := k382 _ _ a574 
            have a576 : f1 wk1 = some (.inl (cy 0, 40, .inl gx1)) := k4 _ _ x_wk1 (z_ne x_wk1 x_o rfl)
            have a577 : f209 wk1 = some (.inl (cy 0, 40, .inl gx1)) := k211 _ _ a576 
            have a578 : f380 wk1 = some (.inl (cy 0, 40, .inl gx1)) := k382 _ _ a577 
            have a579 : f1 wk2 = some (.inl (cy 0, 40, .inl gx2)) := k4 _ _ x_wk2 (z_ne x_wk2 x_o rfl)
            have a580 : f209 wk2 = some (.inl (cy 0, 40, .inl gx2)) := k211 _ _ a579 
            have a581 : f380 wk2 = some (.inl (cy 0, 40, .inl gx2)) := k382 _ _ a580 
            have a582 : f1 wk3 = some (.inl (cy 0, 40, .inl gx3)) := k4 _ _ x_wk3 (z_ne x_wk3 x_o rfl)
            have a583 : f209 wk3 = some (.inl (cy 0, 40, .inl gx3)) := k211 _ _ a582 
            have a584 : f380 wk3 = some (.inl (cy 0, 40, .inl gx3)) := k382 _ _ a583 
            exact z_iret C hr rfl hz hS ⟨0, (-1), 0, nl, nn, nf, nc, lk, ks, gv, gu, gk, gm, gc, gw, gl, gh, gt, gy, gq, ge1, gn1, gp1, gs, gx1, gx2, gx3, ln, fz, sq, rfl, (by rw [if_neg (by decide)]), ⟨a384, a533, a536, a539, a542, a545, a548, a551, a554, a557, a560, a563, a566, a569, a572, a575, a578, a581, a584, hn60, hl12, hf6, hc60, hs40, hMP, hgy, hfz, hgs, hME, hlk, n_wki_wmy, n_wki_wiw, n_wki_wli, n_wki_wha, n_wki_wem, n_wki_wna, n_wki_wpl, n_wmy_wiw, n_wmy_wli, n_wmy_wha, n_wmy_wem, n_wmy_wna, n_wmy_wpl, n_wiw_wli, n_wiw_wha, n_wiw_wem, n_wiw_wna, n_wiw_wpl, n_wli_wha, n_wli_wem, n_wli_wna, n_wli_wpl, n_wha_wem, n_wha_wna, n_wha_wpl, n_wem_wna, n_wem_wpl, n_wna_wpl, n_wk1_wk2, n_wk1_wk3, n_wk2_wk3⟩⟩ (Nat.le_of_ble_eq_true rfl) (Nat.le_of_ble_eq_true rfl) dX8_pair_44
        · have a585 : f209 o = some (.inr (8, [.int 0, .int (-1), .int 0, .ref wev, .int (nI nl), .ref wnb, .int (nI nn), .ref wki, .ref wmy, .ref wce, .ref wiw, .ref wli, .ref wha, .ref wwt, .int (nI nf), .ref wfy, .ref wfk, .int (nI nc), .ref wem, .ref wna, .ref wpl, .ref whs, .long lk, .int (nI ks), .ref wk1, .ref wk2, .ref wk3])) := k211 _ _ a3 
          refine z_callVi (As := [.int y]) C hz hS hA hl (k_X8_isFigure_B l D cy f209 o wev wnb wki wmy wce wiw wli wha wwt wfy wfk wem wna wpl whs wk1 wk2 wk3 0 (-1) 0 nl nn nf nc lk ks y a585 hn60 hvrt) zyX8_isFigure mMX8_139 a585 zl8 rfl rfl (Nat.le_of_ble_eq_true rfl) ⟨Nat.le_of_ble_eq_true rfl, Nat.le_of_ble_eq_true rfl⟩ ⟨Nat.le_of_ble_eq_true rfl, Nat.le_of_ble_eq_true rfl⟩ dX8_pair_24 (fun r f586 H locs h587 hz hS => ?_)
          obtain ⟨rfl, k588⟩ := h587
          refine lv_if_ne (tgt := 33) hx hb dX8_pair_27 (by decide) (fun c589 => ?_) (fun c589 => ?_)
          · exact absurd c589 (by decide)
          refine lv_bipush (v := (-2)) hx hb dX8_pair_30 (by decide) ?_
          have a590 : f586 o = some (.inr (8, [.int 0, .int (-1), .int 0, .ref wev, .int (nI nl), .ref wnb, .int (nI nn), .ref wki, .ref wmy, .ref wce, .ref wiw, .ref wli, .ref wha, .ref wwt, .int (nI nf), .ref wfy, .ref wfk, .int (nI nc), .ref wem, .ref wna, .ref wpl, .ref whs, .long lk, .int (nI ks), .ref wk1, .ref wk2, .ref wk3])) := k588 _ _ a585 
          have a591 : f1 wev = some (.inl (cy 0, 8, .inl gv)) := k4 _ _ x_wev (z_ne x_wev x_o rfl)
          have a592 : f209 wev = some (.inl (cy 0, 8, .inl gv)) := k211 _ _ a591 
          have a593 : f586 wev = some (.inl (cy 0, 8, .inl gv)) := k588 _ _ a592 
          have a594 : f1 wnb = some (.inl (cy 0, 12, .inl gu)) := k4 _ _ x_wnb (z_ne x_wnb x_o rfl)
          have a595 : f209 wnb = some (.inl (cy 0, 12, .inl gu)) := k211 _ _ a594 
          have a596 : f586 wnb = some (.inl (cy 0, 12, .inl gu)) := k588 _ _ a595 
          have a597 : f1 wki = some (.inl (cy 0, 60, .inl gk)) := k4 _ _ x_wki (z_ne x_wki x_o rfl)
          have a598 : f209 wki = some (.inl (cy 0, 60, .inl gk)) := k211 _ _ a597 
          have a599 : f586 wki = some (.inl (cy 0, 60, .inl gk)) := k588 _ _ a598 
          have a600 : f1 wmy = some (.inl (cy 0, 60, .inl gm)) := k4 _ _ x_wmy (z_ne x_wmy x_o rfl)
          have a601 : f209 wmy = some (.inl (cy 0, 60, .inl gm)) := k211 _ _ a600 
          have a602 : f586 wmy = some (.inl (cy 0, 60, .inl gm)) := k588 _ _ a601 
          have a603 : f1 wce = some (.inl (cy 1, 960, .inr (.inl gc))) := k4 _ _ x_wce (z_ne x_wce x_o rfl)
          have a604 : f209 wce = some (.inl (cy 1, 960, .inr (.inl gc))) := k211 _ _ a603 
          have a605 : f586 wce = some (.inl (cy 1, 960, .inr (.inl gc))) := k588 _ _ a604 
          have a606 : f1 wiw = some (.inl (cy 2, 60, .inl gw)) := k4 _ _ x_wiw (z_ne x_wiw x_o rfl)
          have a607 : f209 wiw = some (.inl (cy 2, 60, .inl gw)) := k211 _ _ a606 
          have a608 : f586 wiw = some (.inl (cy 2, 60, .inl gw)) := k588 _ _ a607 
          have a609 : f1 wli = some (.inl (cy 0, 60, .inl gl)) := k4 _ _ x_wli (z_ne x_wli x_o rfl)
          have a610 : f209 wli = some (.inl (cy 0, 60, .inl gl)) := k211 _ _ a609 
          have a611 : f586 wli = some (.inl (cy 0, 60, .inl gl)) := k588 _ _ a610 
          have a612 : f1 wha = some (.inl (cy 0, 60, .inl gh)) := k4 _ _ x_wha (z_ne x_wha x_o rfl)
          have a613 : f209 wha = some (.inl (cy 0, 60, .inl gh)) := k211 _ _ a612 
          have a614 : f586 wha = some (.inl (cy 0, 60, .inl gh)) := k588 _ _ a613 
          have a615 : f1 wwt = some (.inl (cy 1, 60, .inr (.inl gt))) := k4 _ _ x_wwt (z_ne x_wwt x_o rfl)
          have a616 : f209 wwt = some (.inl (cy 1, 60, .inr (.inl gt))) := k211 _ _ a615 
          have a617 : f586 wwt = some (.inl (cy 1, 60, .inr (.inl gt))) := k588 _ _ a616 
          have a618 : f1 wfy = some (.inl (cy 0, 6, .inl gy)) := k4 _ _ x_wfy (z_ne x_wfy x_o rfl)
          have a619 : f209 wfy = some (.inl (cy 0, 6, .inl gy)) := k211 _ _ a618 
          have a620 : f586 wfy = some (.inl (cy 0, 6, .inl gy)) := k588 _ _ a619 
          have a621 : f1 wfk = some (.inl (cy 0, 24, .inl gq)) := k4 _ _ x_wfk (z_ne x_wfk x_o rfl)
          have a622 : f209 wfk = some (.inl (cy 0, 24, .inl gq)) := k211 _ _ a621 
          have a623 : f586 wfk = some (.inl (cy 0, 24, .inl gq)) := k588 _ _ a622 
          have a624 : f1 wem = some (.inl (cy 0, 60, .inl ge1)) := k4 _ _ x_wem (z_ne x_wem x_o rfl)
          have a625 : f209 wem = some (.inl (cy 0, 60, .inl ge1)) := k211 _ _ a624 
          have a626 : f586 wem = some (.inl (cy 0, 60, .inl ge1)) := k588 _ _ a625 
          have a627 : f1 wna = some (.inl (cy 0, 60, .inl gn1)) := k4 _ _ x_wna (z_ne x_wna x_o rfl)
          have a628 : f209 wna = some (.inl (cy 0, 60, .inl gn1)) := k211 _ _ a627 
          have a629 : f586 wna = some (.inl (cy 0, 60, .inl gn1)) := k588 _ _ a628 
          have a630 : f1 wpl = some (.inl (cy 0, 60, .inl gp1)) := k4 _ _ x_wpl (z_ne x_wpl x_o rfl)
          have a631 : f209 wpl = some (.inl (cy 0, 60, .inl gp1)) := k211 _ _ a630 
          have a632 : f586 wpl = some (.inl (cy 0, 60, .inl gp1)) := k588 _ _ a631 
          have a633 : f1 whs = some (.inl (cy 0, 4, .inl gs)) := k4 _ _ x_whs (z_ne x_whs x_o rfl)
          have a634 : f209 whs = some (.inl (cy 0, 4, .inl gs)) := k211 _ _ a633 
          have a635 : f586 whs = some (.inl (cy 0, 4, .inl gs)) := k588 _ _ a634 
          have a636 : f1 wk1 = some (.inl (cy 0, 40, .inl gx1)) := k4 _ _ x_wk1 (z_ne x_wk1 x_o rfl)
          have a637 : f209 wk1 = some (.inl (cy 0, 40, .inl gx1)) := k211 _ _ a636 
          have a638 : f586 wk1 = some (.inl (cy 0, 40, .inl gx1)) := k588 _ _ a637 
          have a639 : f1 wk2 = some (.inl (cy 0, 40, .inl gx2)) := k4 _ _ x_wk2 (z_ne x_wk2 x_o rfl)
          have a640 : f209 wk2 = some (.inl (cy 0, 40, .inl gx2)) := k211 _ _ a639 
          have a641 : f586 wk2 = some (.inl (cy 0, 40, .inl gx2)) := k588 _ _ a640 
          have a642 : f1 wk3 = some (.inl (cy 0, 40, .inl gx3)) := k4 _ _ x_wk3 (z_ne x_wk3 x_o rfl)
          have a643 : f209 wk3 = some (.inl (cy 0, 40, .inl gx3)) := k211 _ _ a642 
          have a644 : f586 wk3 = some (.inl (cy 0, 40, .inl gx3)) := k588 _ _ a643 
          exact z_iret C hr rfl hz hS ⟨0, (-1), 0, nl, nn, nf, nc, lk, ks, gv, gu, gk, gm, gc, gw, gl, gh, gt, gy, gq, ge1, gn1, gp1, gs, gx1, gx2, gx3, ln, fz, sq, rfl, (by rw [if_neg (by decide)]), ⟨a590, a593, a596, a599, a602, a605, a608, a611, a614, a617, a620, a623, a626, a629, a632, a635, a638, a641, a644, hn60, hl12, hf6, hc60, hs40, hMP, hgy, hfz, hgs, hME, hlk, n_wki_wmy, n_wki_wiw, n_wki_wli, n_wki_wha, n_wki_wem, n_wki_wna, n_wki_wpl, n_wmy_wiw, n_wmy_wli, n_wmy_wha, n_wmy_wem, n_wmy_wna, n_wmy_wpl, n_wiw_wli, n_wiw_wha, n_wiw_wem, n_wiw_wna, n_wiw_wpl, n_wli_wha, n_wli_wem, n_wli_wna, n_wli_wpl, n_wha_wem, n_wha_wna, n_wha_wpl, n_wem_wna, n_wem_wpl, n_wna_wpl, n_wk1_wk2, n_wk1_wk3, n_wk2_wk3⟩⟩ (Nat.le_of_ble_eq_true rfl) (Nat.le_of_ble_eq_true rfl) dX8_pair_32
    · refine z_callVi (As := [.int x]) C hz hS hA hl (k_X8_isFigure_B l D cy f1 o wev wnb wki wmy wce wiw wli wha wwt wfy wfk wem wna wpl whs wk1 wk2 wk3 0 (-1) 0 nl nn nf nc lk ks x a3 hn60 hvlf) zyX8_isFigure mMX8_139 a3 zl8 rfl rfl (Nat.le_of_ble_eq_true rfl) ⟨Nat.le_of_ble_eq_true rfl, Nat.le_of_ble_eq_true rfl⟩ ⟨Nat.le_of_ble_eq_true rfl, Nat.le_of_ble_eq_true rfl⟩ dX8_pair_11 (fun r f645 H locs h646 hz hS => ?_)
      obtain ⟨rfl, k647⟩ := h646
      refine lv_if_eq (tgt := 30) hx hb dX8_pair_14 (by decide) (fun c648 => ?_) (fun c648 => ?_)
      rotate_left
      · exact absurd c648 (by decide)
      refine lv_bipush (v := (-2)) hx hb dX8_pair_30 (by decide) ?_
      have a649 : f645 o = some (.inr (8, [.int 0, .int (-1), .int 0, .ref wev, .int (nI nl), .ref wnb, .int (nI nn), .ref wki, .ref wmy, .ref wce, .ref wiw, .ref wli, .ref wha, .ref wwt, .int (nI nf), .ref wfy, .ref wfk, .int (nI nc), .ref wem, .ref wna, .ref wpl, .ref whs, .long lk, .int (nI ks), .ref wk1, .ref wk2, .ref wk3])) := k647 _ _ a3 
      have a650 : f1 wev = some (.inl (cy 0, 8, .inl gv)) := k4 _ _ x_wev (z_ne x_wev x_o rfl)
      have a651 : f645 wev = some (.inl (cy 0, 8, .inl gv)) := k647 _ _ a650 
      have a652 : f1 wnb = some (.inl (cy 0, 12, .inl gu)) := k4 _ _ x_wnb (z_ne x_wnb x_o rfl)
      have a653 : f645 wnb = some (.inl (cy 0, 12, .inl gu)) := k647 _ _ a652 
      have a654 : f1 wki = some (.inl (cy 0, 60, .inl gk)) := k4 _ _ x_wki (z_ne x_wki x_o rfl)
      have a655 : f645 wki = some (.inl (cy 0, 60, .inl gk)) := k647 _ _ a654 
      have a656 : f1 wmy = some (.inl (cy 0, 60, .inl gm)) := k4 _ _ x_wmy (z_ne x_wmy x_o rfl)
      have a657 : f645 wmy = some (.inl (cy 0, 60, .inl gm)) := k647 _ _ a656 
      have a658 : f1 wce = some (.inl (cy 1, 960, .inr (.inl gc))) := k4 _ _ x_wce (z_ne x_wce x_o rfl)
      have a659 : f645 wce = some (.inl (cy 1, 960, .inr (.inl gc))) := k647 _ _ a658 
      have a660 : f1 wiw = some (.inl (cy 2, 60, .inl gw)) := k4 _ _ x_wiw (z_ne x_wiw x_o rfl)
      have a661 : f645 wiw = some (.inl (cy 2, 60, .inl gw)) := k647 _ _ a660 
      have a662 : f1 wli = some (.inl (cy 0, 60, .inl gl)) := k4 _ _ x_wli (z_ne x_wli x_o rfl)
      have a663 : f645 wli = some (.inl (cy 0, 60, .inl gl)) := k647 _ _ a662 
      have a664 : f1 wha = some (.inl (cy 0, 60, .inl gh)) := k4 _ _ x_wha (z_ne x_wha x_o rfl)
      have a665 : f645 wha = some (.inl (cy 0, 60, .inl gh)) := k647 _ _ a664 
      have a666 : f1 wwt = some (.inl (cy 1, 60, .inr (.inl gt))) := k4 _ _ x_wwt (z_ne x_wwt x_o rfl)
      have a667 : f645 wwt = some (.inl (cy 1, 60, .inr (.inl gt))) := k647 _ _ a666 
      have a668 : f1 wfy = some (.inl (cy 0, 6, .inl gy)) := k4 _ _ x_wfy (z_ne x_wfy x_o rfl)
      have a669 : f645 wfy = some (.inl (cy 0, 6, .inl gy)) := k647 _ _ a668 
      have a670 : f1 wfk = some (.inl (cy 0, 24, .inl gq)) := k4 _ _ x_wfk (z_ne x_wfk x_o rfl)
      have a671 : f645 wfk = some (.inl (cy 0, 24, .inl gq)) := k647 _ _ a670 
      have a672 : f1 wem = some (.inl (cy 0, 60, .inl ge1)) := k4 _ _ x_wem (z_ne x_wem x_o rfl)
      have a673 : f645 wem = some (.inl (cy 0, 60, .inl ge1)) := k647 _ _ a672 
      have a674 : f1 wna = some (.inl (cy 0, 60, .inl gn1)) := k4 _ _ x_wna (z_ne x_wna x_o rfl)
      have a675 : f645 wna = some (.inl (cy 0, 60, .inl gn1)) := k647 _ _ a674 
      have a676 : f1 wpl = some (.inl (cy 0, 60, .inl gp1)) := k4 _ _ x_wpl (z_ne x_wpl x_o rfl)
      have a677 : f645 wpl = some (.inl (cy 0, 60, .inl gp1)) := k647 _ _ a676 
      have a678 : f1 whs = some (.inl (cy 0, 4, .inl gs)) := k4 _ _ x_whs (z_ne x_whs x_o rfl)
      have a679 : f645 whs = some (.inl (cy 0, 4, .inl gs)) := k647 _ _ a678 
      have a680 : f1 wk1 = some (.inl (cy 0, 40, .inl gx1)) := k4 _ _ x_wk1 (z_ne x_wk1 x_o rfl)
      have a681 : f645 wk1 = some (.inl (cy 0, 40, .inl gx1)) := k647 _ _ a680 
      have a682 : f1 wk2 = some (.inl (cy 0, 40, .inl gx2)) := k4 _ _ x_wk2 (z_ne x_wk2 x_o rfl)
      have a683 : f645 wk2 = some (.inl (cy 0, 40, .inl gx2)) := k647 _ _ a682 
      have a684 : f1 wk3 = some (.inl (cy 0, 40, .inl gx3)) := k4 _ _ x_wk3 (z_ne x_wk3 x_o rfl)
      have a685 : f645 wk3 = some (.inl (cy 0, 40, .inl gx3)) := k647 _ _ a684 
      exact z_iret C hr rfl hz hS ⟨0, (-1), 0, nl, nn, nf, nc, lk, ks, gv, gu, gk, gm, gc, gw, gl, gh, gt, gy, gq, ge1, gn1, gp1, gs, gx1, gx2, gx3, ln, fz, sq, rfl, (by rw [if_neg (by decide)]), ⟨a649, a651, a653, a655, a657, a659, a661, a663, a665, a667, a669, a671, a673, a675, a677, a679, a681, a683, a685, hn60, hl12, hf6, hc60, hs40, hMP, hgy, hfz, hgs, hME, hlk, n_wki_wmy, n_wki_wiw, n_wki_wli, n_wki_wha, n_wki_wem, n_wki_wna, n_wki_wpl, n_wmy_wiw, n_wmy_wli, n_wmy_wha, n_wmy_wem, n_wmy_wna, n_wmy_wpl, n_wiw_wli, n_wiw_wha, n_wiw_wem, n_wiw_wna, n_wiw_wpl, n_wli_wha, n_wli_wem, n_wli_wna, n_wli_wpl, n_wha_wem, n_wha_wna, n_wha_wpl, n_wem_wna, n_wem_wpl, n_wna_wpl, n_wk1_wk2, n_wk1_wk3, n_wk2_wk3⟩⟩ (Nat.le_of_ble_eq_true rfl) (Nat.le_of_ble_eq_true rfl) dX8_pair_32
