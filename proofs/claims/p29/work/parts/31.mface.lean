abbrev rmX8_set : Room := { frames := 1, cells := 0, slots := 0, locals := 23 }
set_option maxHeartbeats 4000000 in
set_option maxRecDepth 100000 in
theorem k_X8_set (l : Launch) (D : va_G) (cy : Nat → ClassId) (f : zM) (o : Nat) (wev : Nat) (wnb : Nat) (wki : Nat) (wmy : Nat) (wce : Nat) (wiw : Nat) (wli : Nat) (wha : Nat) (wwt : Nat) (wfy : Nat) (wfk : Nat) (wem : Nat) (wna : Nat) (wpl : Nat) (whs : Nat) (wk1 : Nat) (wk2 : Nat) (wk3 : Nat) (u1 : Int32) (u2 : Int32) (u3 : Int32) (nl : Nat) (nn : Nat) (nf : Nat) (nc : Nat) (lk : Int64) (ks : Nat) (gv : Nat → Int32) (gu : Nat → Int32) (gk : Nat → Int32) (gm : Nat → Int32) (gc : Nat → Int64) (gw : Nat → Int32) (gl : Nat → Int32) (gh : Nat → Int32) (gt : Nat → Int64) (gy : Nat → Int32) (gq : Nat → Int32) (ge1 : Nat → Int32) (gn1 : Nat → Int32) (gp1 : Nat → Int32) (gs : Nat → Int32) (gx1 : Nat → Int32) (gx2 : Nat → Int32) (gx3 : Nat → Int32) (ln : Nat → Nat) (fz : Nat → Nat) (sq : Nat → Nat) (x : Int32) (y : Int32) (z : Int32)    (hI : zIM cy f o wev wnb wki wmy wce wiw wli wha wwt wfy wfk wem wna wpl whs wk1 wk2 wk3 u1 u2 u3 nl nn nf nc lk ks gv gu gk gm gc gw gl gh gt gy gq ge1 gn1 gp1 gs gx1 gx2 gx3 ln fz sq) : zCi l D cy yX8_set cX8_set 4 (Option.some Jvm.ClassFile.FieldType.int) rmX8_set [.ref o, .int x, .int y, .int z] f (fun (r : Int32) (f1 : zM) => ∃ (u11 : Int32) (u21 : Int32) (u31 : Int32) (nl1 : Nat) (nn1 : Nat) (nf1 : Nat) (nc1 : Nat) (lk1 : Int64) (ks1 : Nat) (gv1 : Nat → Int32) (gu1 : Nat → Int32) (gk1 : Nat → Int32) (gm1 : Nat → Int32) (gc1 : Nat → Int64) (gw1 : Nat → Int32) (gl1 : Nat → Int32) (gh1 : Nat → Int32) (gt1 : Nat → Int64) (gy1 : Nat → Int32) (gq1 : Nat → Int32) (ge11 : Nat → Int32) (gn11 : Nat → Int32) (gp11 : Nat → Int32) (gs1 : Nat → Int32) (gx11 : Nat → Int32) (gx21 : Nat → Int32) (gx31 : Nat → Int32) (ln1 : Nat → Nat) (fz1 : Nat → Nat) (sq1 : Nat → Nat), r = ((q_set nn gk ln gw x y z).1) ∧ (u11 = (q_set nn gk ln gw x y z).2.1) ∧ (u21 = (q_set nn gk ln gw x y z).2.2.1) ∧ (u31 = (q_set nn gk ln gw x y z).2.2.2) ∧ (gv1 = zEV gv (q_set nn gk ln gw x y z).2.1) ∧ (nl1 = nl) ∧ (gu1 = gu) ∧ (nn1 = nn) ∧ (gk1 = gk) ∧ (ln1 = ln) ∧ (gw1 = gw) ∧ (gh1 = gh) ∧ (gc1 = if r = 1 then vp_updL gc (16 * fI x + 1 + fI y) z.toInt64 else gc) ∧ (nf1 = nf) ∧ (fz1 = fz) ∧ (gq1 = gq) ∧ (nc1 = nc) ∧ (ge11 = ge1) ∧ (gn11 = gn1) ∧ (gp11 = gp1) ∧ (sq1 = sq) ∧ (ks1 = ks) ∧ (gx11 = gx1) ∧ (gx21 = gx2) ∧ (gx31 = gx3) ∧ (lk1 = lk) ∧ zIM cy f1 o wev wnb wki wmy wce wiw wli wha wwt wfy wfk wem wna wpl whs wk1 wk2 wk3 u11 u21 u31 nl1 nn1 nf1 nc1 lk1 ks1 gv1 gu1 gk1 gm1 gc1 gw1 gl1 gh1 gt1 gy1 gq1 ge11 gn11 gp11 gs1 gx11 gx21 gx31 ln1 fz1 sq1) := by
  intro sz
  refine z_body (by decide +kernel) (Nat.le_of_ble_eq_true rfl) ?_
  intro p e s m below meth c ls C hr hin hsz hz hl
  subst hsz
  have hx := C.1
  have hb := C.2.1
  have hA : ∀ q, s.heap.size ≤ q → zA f s.heap.size q := fun q h => Or.inr h
  have hS : va_S (zA f s.heap.size) s.heap s.heap [] := va_S.rf
  have hl : lv_has ls 4 [(0, .ref o), (1, .int x), (2, .int y), (3, .int z)] := hl
  obtain ⟨x_o, x_wev, x_wnb, x_wki, x_wmy, x_wce, x_wiw, x_wli, x_wha, x_wwt, x_wfy, x_wfk, x_wem, x_wna, x_wpl, x_whs, x_wk1, x_wk2, x_wk3, hn60, hl12, hf6, hc60, hs40, hMP, hgy, hfz, hgs, hME, hlk, hgw, hfd, n_wki_wmy, n_wki_wiw, n_wki_wli, n_wki_wha, n_wki_wem, n_wki_wna, n_wki_wpl, n_wmy_wiw, n_wmy_wli, n_wmy_wha, n_wmy_wem, n_wmy_wna, n_wmy_wpl, n_wiw_wli, n_wiw_wha, n_wiw_wem, n_wiw_wna, n_wiw_wpl, n_wli_wha, n_wli_wem, n_wli_wna, n_wli_wpl, n_wha_wem, n_wha_wna, n_wha_wpl, n_wem_wna, n_wem_wpl, n_wna_wpl, n_wk1_wk2, n_wk1_wk3, n_wk2_wk3⟩ := id hI
  refine lv_aload_n hx hb dX8_set_0 rfl (lv_at hl 0 rfl) ?_
  refine z_callVv (As := []) C hz hS hA hl (k_X8_begin l D cy f o wev wnb wki wmy wce wiw wli wha wwt wfy wfk wem wna wpl whs wk1 wk2 wk3 u1 u2 u3 nl nn nf nc lk ks x_o ) zyX8_begin mMX8_116 x_o zl8 rfl rfl (Nat.le_of_ble_eq_true rfl) ⟨Nat.le_of_ble_eq_true rfl, Nat.le_of_ble_eq_true rfl⟩ ⟨Nat.le_of_ble_eq_true rfl, Nat.le_of_ble_eq_true rfl⟩ dX8_set_1 (fun  f1 H locs h2 hz hS => ?_)
  obtain ⟨a3, k4⟩ := h2
  refine lv_aload_n hx hb dX8_set_4 rfl (lv_at hl 0 rfl) ?_
  refine lv_iload_n hx hb dX8_set_5 rfl (lv_at hl 1 rfl) ?_
  rcases z_findi x nn with ⟨ja, hja, hva⟩ | hva
  · have hFa : isF nn x = true := isF_t hn60 hja hva
    have hIa : fI x = ja := fI_of (by omega) hva
    have hNa : ¬ x = (-1) := by rw [hva]; exact z_nim1 (by omega)
    refine z_callVi (As := [.int x]) C hz hS hA hl (k_X8_isFigure_A l D cy f1 o wev wnb wki wmy wce wiw wli wha wwt wfy wfk wem wna wpl whs wk1 wk2 wk3 0 (-1) 0 nl nn nf nc lk ks x ja a3 hn60 hva hja) zyX8_isFigure mMX8_139 a3 zl8 rfl rfl (Nat.le_of_ble_eq_true rfl) ⟨Nat.le_of_ble_eq_true rfl, Nat.le_of_ble_eq_true rfl⟩ ⟨Nat.le_of_ble_eq_true rfl, Nat.le_of_ble_eq_true rfl⟩ dX8_set_6 (fun r f5 H locs h6 hz hS => ?_)
    obtain ⟨rfl, k7⟩ := h6
    refine lv_if_eq (tgt := 25) hx hb dX8_set_9 (by decide) (fun c8 => ?_) (fun c8 => ?_)
    · exact absurd c8 (by decide)
    refine lv_iload_n hx hb dX8_set_12 rfl (lv_at hl 3 rfl) ?_
    refine lv_iconst (v := (-1)) hx hb dX8_set_13 (by decide) ?_
    refine lv_icmp_eq (tgt := 28) hx hb dX8_set_14 (by decide) (fun c9 => ?_) (fun c9 => ?_)
    · have hOb : oF nn z = true := oF_m c9
      refine lv_aload_n hx hb dX8_set_28 rfl (lv_at hl 0 rfl) ?_
      have a10 : f5 o = some (.inr (8, [.int 0, .int (-1), .int 0, .ref wev, .int (nI nl), .ref wnb, .int (nI nn), .ref wki, .ref wmy, .ref wce, .ref wiw, .ref wli, .ref wha, .ref wwt, .int (nI nf), .ref wfy, .ref wfk, .int (nI nc), .ref wem, .ref wna, .ref wpl, .ref whs, .long lk, .int (nI ks), .ref wk1, .ref wk2, .ref wk3])) := k7 _ _ a3 
      refine z_get (v := .ref wki) C hz a10 zl8 mFX8_20 (by decide) rfl dX8_set_29 ?_
      refine lv_iload_n hx hb dX8_set_32 rfl (lv_at hl 1 rfl) ?_
      have a11 : f1 wki = some (.inl (cy 0, 60, .inl gk)) := k4 _ _ x_wki (z_ne x_wki x_o rfl)
      have a12 : f5 wki = some (.inl (cy 0, 60, .inl gk)) := k7 _ _ a11 
      refine z_iald ja C hz a12 hva (by omega) (by omega) dX8_set_33 ?_
      refine lv_bipush (v := 6) hx hb dX8_set_34 (by decide) ?_
      refine lv_icmp_ne (tgt := 64) hx hb dX8_set_36 (by decide) (fun c13 => ?_) (fun c13 => ?_)
      · refine lv_aload_n hx hb dX8_set_64 rfl (lv_at hl 0 rfl) ?_
        refine lv_iconst (v := 3) hx hb dX8_set_65 (by decide) ?_
        refine lv_iconst (v := (-1)) hx hb dX8_set_66 (by decide) ?_
        refine lv_iconst (v := 0) hx hb dX8_set_67 (by decide) ?_
        have a14 : f1 wev = some (.inl (cy 0, 8, .inl gv)) := k4 _ _ x_wev (z_ne x_wev x_o rfl)
        have a15 : f5 wev = some (.inl (cy 0, 8, .inl gv)) := k7 _ _ a14 
        refine z_callVi (As := [.int 3, .int (-1), .int 0]) C hz hS hA hl (k_X8_fails l D cy f5 o wev wnb wki wmy wce wiw wli wha wwt wfy wfk wem wna wpl whs wk1 wk2 wk3 0 (-1) 0 nl nn nf nc lk ks 3 (-1) 0 gv 3 a10 a15 (by decide) (Nat.le_of_ble_eq_true rfl)) zyX8_fails mMX8_135 a10 zl8 rfl rfl (Nat.le_of_ble_eq_true rfl) ⟨Nat.le_of_ble_eq_true rfl, Nat.le_of_ble_eq_true rfl⟩ ⟨Nat.le_of_ble_eq_true rfl, Nat.le_of_ble_eq_true rfl⟩ dX8_set_68 (fun r f16 H locs h17 hz hS => ?_)
        obtain ⟨rfl, a18, a19, k20⟩ := h17
        have a21 : f1 wnb = some (.inl (cy 0, 12, .inl gu)) := k4 _ _ x_wnb (z_ne x_wnb x_o rfl)
        have a22 : f5 wnb = some (.inl (cy 0, 12, .inl gu)) := k7 _ _ a21 
        have a23 : f16 wnb = some (.inl (cy 0, 12, .inl gu)) := k20 _ _ a22 (z_ne a22 a10 rfl) (z_ne a22 a15 rfl)
        have a24 : f16 wki = some (.inl (cy 0, 60, .inl gk)) := k20 _ _ a12 (z_ne a12 a10 rfl) (z_ne a12 a15 rfl)
        have a25 : f1 wmy = some (.inl (cy 0, 60, .inl gm)) := k4 _ _ x_wmy (z_ne x_wmy x_o rfl)
        have a26 : f5 wmy = some (.inl (cy 0, 60, .inl gm)) := k7 _ _ a25 
        have a27 : f16 wmy = some (.inl (cy 0, 60, .inl gm)) := k20 _ _ a26 (z_ne a26 a10 rfl) (z_ne a26 a15 rfl)
        have a28 : f1 wce = some (.inl (cy 1, 960, .inr (.inl gc))) := k4 _ _ x_wce (z_ne x_wce x_o rfl)
        have a29 : f5 wce = some (.inl (cy 1, 960, .inr (.inl gc))) := k7 _ _ a28 
        have a30 : f16 wce = some (.inl (cy 1, 960, .inr (.inl gc))) := k20 _ _ a29 (z_ne a29 a10 rfl) (z_ne a29 a15 rfl)
        have a31 : f1 wiw = some (.inl (cy 2, 60, .inl gw)) := k4 _ _ x_wiw (z_ne x_wiw x_o rfl)
        have a32 : f5 wiw = some (.inl (cy 2, 60, .inl gw)) := k7 _ _ a31 
        have a33 : f16 wiw = some (.inl (cy 2, 60, .inl gw)) := k20 _ _ a32 (z_ne a32 a10 rfl) (z_ne a32 a15 rfl)
        have a34 : f1 wli = some (.inl (cy 0, 60, .inl gl)) := k4 _ _ x_wli (z_ne x_wli x_o rfl)
        have a35 : f5 wli = some (.inl (cy 0, 60, .inl gl)) := k7 _ _ a34 
        have a36 : f16 wli = some (.inl (cy 0, 60, .inl gl)) := k20 _ _ a35 (z_ne a35 a10 rfl) (z_ne a35 a15 rfl)
        have a37 : f1 wha = some (.inl (cy 0, 60, .inl gh)) := k4 _ _ x_wha (z_ne x_wha x_o rfl)
        have a38 : f5 wha = some (.inl (cy 0, 60, .inl gh)) := k7 _ _ a37 
        have a39 : f16 wha = some (.inl (cy 0, 60, .inl gh)) := k20 _ _ a38 (z_ne a38 a10 rfl) (z_ne a38 a15 rfl)
        have a40 : f1 wwt = some (.inl (cy 1, 60, .inr (.inl gt))) := k4 _ _ x_wwt (z_ne x_wwt x_o rfl)
        have a41 : f5 wwt = some (.inl (cy 1, 60, .inr (.inl gt))) := k7 _ _ a40 
        have a42 : f16 wwt = some (.inl (cy 1, 60, .inr (.inl gt))) := k20 _ _ a41 (z_ne a41 a10 rfl) (z_ne a41 a15 rfl)
        have a43 : f1 wfy = some (.inl (cy 0, 6, .inl gy)) := k4 _ _ x_wfy (z_ne x_wfy x_o rfl)
        have a44 : f5 wfy = some (.inl (cy 0, 6, .inl gy)) := k7 _ _ a43 
        have a45 : f16 wfy = some (.inl (cy 0, 6, .inl gy)) := k20 _ _ a44 (z_ne a44 a10 rfl) (z_ne a44 a15 rfl)
        have a46 : f1 wfk = some (.inl (cy 0, 24, .inl gq)) := k4 _ _ x_wfk (z_ne x_wfk x_o rfl)
        have a47 : f5 wfk = some (.inl (cy 0, 24, .inl gq)) := k7 _ _ a46 
        have a48 : f16 wfk = some (.inl (cy 0, 24, .inl gq)) := k20 _ _ a47 (z_ne a47 a10 rfl) (z_ne a47 a15 rfl)
        have a49 : f1 wem = some (.inl (cy 0, 60, .inl ge1)) := k4 _ _ x_wem (z_ne x_wem x_o rfl)
        have a50 : f5 wem = some (.inl (cy 0, 60, .inl ge1)) := k7 _ _ a49 
        have a51 : f16 wem = some (.inl (cy 0, 60, .inl ge1)) := k20 _ _ a50 (z_ne a50 a10 rfl) (z_ne a50 a15 rfl)
        have a52 : f1 wna = some (.inl (cy 0, 60, .inl gn1)) := k4 _ _ x_wna (z_ne x_wna x_o rfl)
        have a53 : f5 wna = some (.inl (cy 0, 60, .inl gn1)) := k7 _ _ a52 
        have a54 : f16 wna = some (.inl (cy 0, 60, .inl gn1)) := k20 _ _ a53 (z_ne a53 a10 rfl) (z_ne a53 a15 rfl)
        have a55 : f1 wpl = some (.inl (cy 0, 60, .inl gp1)) := k4 _ _ x_wpl (z_ne x_wpl x_o rfl)
        have a56 : f5 wpl = some (.inl (cy 0, 60, .inl gp1)) := k7 _ _ a55 
        have a57 : f16 wpl = some (.inl (cy 0, 60, .inl gp1)) := k20 _ _ a56 (z_ne a56 a10 rfl) (z_ne a56 a15 rfl)
        have a58 : f1 whs = some (.inl (cy 0, 4, .inl gs)) := k4 _ _ x_whs (z_ne x_whs x_o rfl)
        have a59 : f5 whs = some (.inl (cy 0, 4, .inl gs)) := k7 _ _ a58 
        have a60 : f16 whs = some (.inl (cy 0, 4, .inl gs)) := k20 _ _ a59 (z_ne a59 a10 rfl) (z_ne a59 a15 rfl)
        have a61 : f1 wk1 = some (.inl (cy 0, 40, .inl gx1)) := k4 _ _ x_wk1 (z_ne x_wk1 x_o rfl)
        have a62 : f5 wk1 = some (.inl (cy 0, 40, .inl gx1)) := k7 _ _ a61 
        have a63 : f16 wk1 = some (.inl (cy 0, 40, .inl gx1)) := k20 _ _ a62 (z_ne a62 a10 rfl) (z_ne a62 a15 rfl)
        have a64 : f1 wk2 = some (.inl (cy 0, 40, .inl gx2)) := k4 _ _ x_wk2 (z_ne x_wk2 x_o rfl)
        have a65 : f5 wk2 = some (.inl (cy 0, 40, .inl gx2)) := k7 _ _ a64 
        have a66 : f16 wk2 = some (.inl (cy 0, 40, .inl gx2)) := k20 _ _ a65 (z_ne a65 a10 rfl) (z_ne a65 a15 rfl)
        have a67 : f1 wk3 = some (.inl (cy 0, 40, .inl gx3)) := k4 _ _ x_wk3 (z_ne x_wk3 x_o rfl)
        have a68 : f5 wk3 = some (.inl (cy 0, 40, .inl gx3)) := k7 _ _ a67 
        have a69 : f16 wk3 = some (.inl (cy 0, 40, .inl gx3)) := k20 _ _ a68 (z_ne a68 a10 rfl) (z_ne a68 a15 rfl)
        have hq : q_set nn gk ln gw x y z = ((-4), 3, (-1), 0) := by simp [q_set, oF_m1 nn, hFa, hIa, hNa, hOb, c8, c9, c13]
        exact z_iret C hr rfl hz hS ⟨3, (-1), 0, nl, nn, nf, nc, lk, ks, (upd gv 3 (gv 3 + 1)), gu, gk, gm, gc, gw, gl, gh, gt, gy, gq, ge1, gn1, gp1, gs, gx1, gx2, gx3, ln, fz, sq, (by rw [hq]), (by rw [hq]), (by rw [hq]), (by rw [hq]), (by rw [hq]; exact (zEV3 gv).symm), rfl, rfl, rfl, rfl, rfl, rfl, rfl, (by rw [if_neg (by decide)]), rfl, rfl, rfl, rfl, rfl, rfl, rfl, rfl, rfl, rfl, rfl, rfl, rfl, ⟨a18, a19, a23, a24, a27, a30, a33, a36, a39, a42, a45, a48, a51, a54, a57, a60, a63, a66, a69, hn60, hl12, hf6, hc60, hs40, hMP, hgy, hfz, hgs, hME, hlk, hgw, hfd, n_wki_wmy, n_wki_wiw, n_wki_wli, n_wki_wha, n_wki_wem, n_wki_wna, n_wki_wpl, n_wmy_wiw, n_wmy_wli, n_wmy_wha, n_wmy_wem, n_wmy_wna, n_wmy_wpl, n_wiw_wli, n_wiw_wha, n_wiw_wem, n_wiw_wna, n_wiw_wpl, n_wli_wha, n_wli_wem, n_wli_wna, n_wli_wpl, n_wha_wem, n_wha_wna, n_wha_wpl, n_wem_wna, n_wem_wpl, n_wna_wpl, n_wk1_wk2, n_wk1_wk3, n_wk2_wk3⟩⟩ (Nat.le_of_ble_eq_true rfl) (Nat.le_of_ble_eq_true rfl) dX8_set_71
      · have hk6 := c13
        refine lv_iload_n hx hb dX8_set_39 rfl (lv_at hl 3 rfl) ?_
        refine lv_iconst (v := (-1)) hx hb dX8_set_40 (by decide) ?_
        refine lv_icmp_eq (tgt := 72) hx hb dX8_set_41 (by decide) (fun c70 => ?_) (fun c70 => ?_)
        rotate_left
        · exact absurd c9 c70
        refine lv_aload_n hx hb dX8_set_72 rfl (lv_at hl 0 rfl) ?_
        refine lv_iload_n hx hb dX8_set_73 rfl (lv_at hl 1 rfl) ?_
        refine lv_iload_n hx hb dX8_set_74 rfl (lv_at hl 2 rfl) ?_
        have a71 : f1 wmy = some (.inl (cy 0, 60, .inl gm)) := k4 _ _ x_wmy (z_ne x_wmy x_o rfl)
        have a72 : f5 wmy = some (.inl (cy 0, 60, .inl gm)) := k7 _ _ a71 
        refine z_callVi (As := [.int x, .int y]) C hz hS hA hl (k_X8_hasPlace l D cy f5 o wev wnb wki wmy wce wiw wli wha wwt wfy wfk wem wna wpl whs wk1 wk2 wk3 0 (-1) 0 nl nn nf nc lk ks gm x y ja (ln ja) a10 a72 hva (by omega) (hMP ja (by omega)).1) zyX8_hasPlace mMX8_145 a10 zl8 rfl rfl (Nat.le_of_ble_eq_true rfl) ⟨Nat.le_of_ble_eq_true rfl, Nat.le_of_ble_eq_true rfl⟩ ⟨Nat.le_of_ble_eq_true rfl, Nat.le_of_ble_eq_true rfl⟩ dX8_set_75 (fun r f73 H locs h74 hz hS => ?_)
        obtain ⟨rfl, k75⟩ := h74
        refine lv_if_ne (tgt := 89) hx hb dX8_set_78 (by decide) (fun c76 => ?_) (fun c76 => ?_)
        · have hPa : isP (ln ja) y = true := isP_t c76
          obtain ⟨kx, hyk, hkx⟩ := z_place (by have h9 := (hMP ja (by omega)).2.1; omega) c76
          have hIy : fI y = kx := fI_of (by have h9 := (hMP ja (by omega)).2.1; omega) hyk
          refine lv_aload_n hx hb dX8_set_89 rfl (lv_at hl 0 rfl) ?_
          have a77 : f73 o = some (.inr (8, [.int 0, .int (-1), .int 0, .ref wev, .int (nI nl), .ref wnb, .int (nI nn), .ref wki, .ref wmy, .ref wce, .ref wiw, .ref wli, .ref wha, .ref wwt, .int (nI nf), .ref wfy, .ref wfk, .int (nI nc), .ref wem, .ref wna, .ref wpl, .ref whs, .long lk, .int (nI ks), .ref wk1, .ref wk2, .ref wk3])) := k75 _ _ a10 
          refine z_get (v := .ref wiw) C hz a77 zl8 mFX8_30 (by decide) rfl dX8_set_90 ?_
          refine lv_iload_n hx hb dX8_set_93 rfl (lv_at hl 1 rfl) ?_
          have a78 : f1 wiw = some (.inl (cy 2, 60, .inl gw)) := k4 _ _ x_wiw (z_ne x_wiw x_o rfl)
          have a79 : f5 wiw = some (.inl (cy 2, 60, .inl gw)) := k7 _ _ a78 
          have a80 : f73 wiw = some (.inl (cy 2, 60, .inl gw)) := k75 _ _ a79 
          refine z_zald ja C hz a80 hva (by omega) (by omega) dX8_set_94 ?_
          refine lv_if_eq (tgt := 121) hx hb dX8_set_95 (by decide) (fun c81 => ?_) (fun c81 => ?_)
          · refine lv_aload_n hx hb dX8_set_121 rfl (lv_at hl 0 rfl) ?_
            refine z_get (v := .ref wce) C hz a77 zl8 mFX8_26 (by decide) rfl dX8_set_122 ?_
            refine lv_bipush (v := 16) hx hb dX8_set_125 (by decide) ?_
            refine lv_iload_n hx hb dX8_set_127 rfl (lv_at hl 1 rfl) ?_
            refine lv_imul hx hb dX8_set_128 ?_
            refine lv_iconst (v := 1) hx hb dX8_set_129 (by decide) ?_
            refine lv_iadd hx hb dX8_set_130 ?_
            refine lv_iload_n hx hb dX8_set_131 rfl (lv_at hl 2 rfl) ?_
            refine lv_iadd hx hb dX8_set_132 ?_
            refine lv_iload_n hx hb dX8_set_133 rfl (lv_at hl 3 rfl) ?_
            refine lv_i2l (v := z.toInt64) hx hb dX8_set_134 rfl ?_
            have a82 : f1 wce = some (.inl (cy 1, 960, .inr (.inl gc))) := k4 _ _ x_wce (z_ne x_wce x_o rfl)
            have a83 : f5 wce = some (.inl (cy 1, 960, .inr (.inl gc))) := k7 _ _ a82 
            have a84 : f73 wce = some (.inl (cy 1, 960, .inr (.inl gc))) := k75 _ _ a83 
            refine z_last (16 * ja + 1 + kx) C hz hS a84 (by rw [hva, hyk]; exact z_ce1 ja kx) (by have h9 := (hMP ja (by omega)).2.1; omega) (by omega) dX8_set_135 (fun H locs f85 a86 k87 hz hS => ?_)
            refine lv_iconst (v := 1) hx hb dX8_set_136 (by decide) ?_
            have a88 : f85 o = some (.inr (8, [.int 0, .int (-1), .int 0, .ref wev, .int (nI nl), .ref wnb, .int (nI nn), .ref wki, .ref wmy, .ref wce, .ref wiw, .ref wli, .ref wha, .ref wwt, .int (nI nf), .ref wfy, .ref wfk, .int (nI nc), .ref wem, .ref wna, .ref wpl, .ref whs, .long lk, .int (nI ks), .ref wk1, .ref wk2, .ref wk3])) := (k87 _ (z_ne a77 a84 rfl)).trans a77
            have a89 : f1 wev = some (.inl (cy 0, 8, .inl gv)) := k4 _ _ x_wev (z_ne x_wev x_o rfl)
            have a90 : f5 wev = some (.inl (cy 0, 8, .inl gv)) := k7 _ _ a89 
            have a91 : f73 wev = some (.inl (cy 0, 8, .inl gv)) := k75 _ _ a90 
            have a92 : f85 wev = some (.inl (cy 0, 8, .inl gv)) := (k87 _ (z_ne a91 a84 rfl)).trans a91
            have a93 : f1 wnb = some (.inl (cy 0, 12, .inl gu)) := k4 _ _ x_wnb (z_ne x_wnb x_o rfl)
            have a94 : f5 wnb = some (.inl (cy 0, 12, .inl gu)) := k7 _ _ a93 
            have a95 : f73 wnb = some (.inl (cy 0, 12, .inl gu)) := k75 _ _ a94 
            have a96 : f85 wnb = some (.inl (cy 0, 12, .inl gu)) := (k87 _ (z_ne a95 a84 rfl)).trans a95
            have a97 : f73 wki = some (.inl (cy 0, 60, .inl gk)) := k75 _ _ a12 
            have a98 : f85 wki = some (.inl (cy 0, 60, .inl gk)) := (k87 _ (z_ne a97 a84 rfl)).trans a97
            have a99 : f73 wmy = some (.inl (cy 0, 60, .inl gm)) := k75 _ _ a72 
            have a100 : f85 wmy = some (.inl (cy 0, 60, .inl gm)) := (k87 _ (z_ne a99 a84 rfl)).trans a99
            have a101 : f85 wiw = some (.inl (cy 2, 60, .inl gw)) := (k87 _ (z_ne a80 a84 rfl)).trans a80
            have a102 : f1 wli = some (.inl (cy 0, 60, .inl gl)) := k4 _ _ x_wli (z_ne x_wli x_o rfl)
            have a103 : f5 wli = some (.inl (cy 0, 60, .inl gl)) := k7 _ _ a102 
            have a104 : f73 wli = some (.inl (cy 0, 60, .inl gl)) := k75 _ _ a103 
            have a105 : f85 wli = some (.inl (cy 0, 60, .inl gl)) := (k87 _ (z_ne a104 a84 rfl)).trans a104
            have a106 : f1 wha = some (.inl (cy 0, 60, .inl gh)) := k4 _ _ x_wha (z_ne x_wha x_o rfl)
            have a107 : f5 wha = some (.inl (cy 0, 60, .inl gh)) := k7 _ _ a106 
            have a108 : f73 wha = some (.inl (cy 0, 60, .inl gh)) := k75 _ _ a107 
            have a109 : f85 wha = some (.inl (cy 0, 60, .inl gh)) := (k87 _ (z_ne a108 a84 rfl)).trans a108
            have a110 : f1 wwt = some (.inl (cy 1, 60, .inr (.inl gt))) := k4 _ _ x_wwt (z_ne x_wwt x_o rfl)
            have a111 : f5 wwt = some (.inl (cy 1, 60, .inr (.inl gt))) := k7 _ _ a110 
            have a112 : f73 wwt = some (.inl (cy 1, 60, .inr (.inl gt))) := k75 _ _ a111 
            have a113 : f85 wwt = some (.inl (cy 1, 60, .inr (.inl gt))) := (k87 _ (z_ne a112 a84 rfl)).trans a112
            have a114 : f1 wfy = some (.inl (cy 0, 6, .inl gy)) := k4 _ _ x_wfy (z_ne x_wfy x_o rfl)
            have a115 : f5 wfy = some (.inl (cy 0, 6, .inl gy)) := k7 _ _ a114 
            have a116 : f73 wfy = some (.inl (cy 0, 6, .inl gy)) := k75 _ _ a115 
            have a117 : f85 wfy = some (.inl (cy 0, 6, .inl gy)) := (k87 _ (z_ne a116 a84 rfl)).trans a116
            have a118 : f1 wfk = some (.inl (cy 0, 24, .inl gq)) := k4 _ _ x_wfk (z_ne x_wfk x_o rfl)
            have a119 : f5 wfk = some (.inl (cy 0, 24, .inl gq)) := k7 _ _ a118 
            have a120 : f73 wfk = some (.inl (cy 0, 24, .inl gq)) := k75 _ _ a119 
            have a121 : f85 wfk = some (.inl (cy 0, 24, .inl gq)) := (k87 _ (z_ne a120 a84 rfl)).trans a120
            have a122 : f1 wem = some (.inl (cy 0, 60, .inl ge1)) := k4 _ _ x_wem (z_ne x_wem x_o rfl)
            have a123 : f5 wem = some (.inl (cy 0, 60, .inl ge1)) := k7 _ _ a122 
            have a124 : f73 wem = some (.inl (cy 0, 60, .inl ge1)) := k75 _ _ a123 
            have a125 : f85 wem = some (.inl (cy 0, 60, .inl ge1)) := (k87 _ (z_ne a124 a84 rfl)).trans a124
            have a126 : f1 wna = some (.inl (cy 0, 60, .inl gn1)) := k4 _ _ x_wna (z_ne x_wna x_o rfl)
            have a127 : f5 wna = some (.inl (cy 0, 60, .inl gn1)) := k7 _ _ a126 
            have a128 : f73 wna = some (.inl (cy 0, 60, .inl gn1)) := k75 _ _ a127 
            have a129 : f85 wna = some (.inl (cy 0, 60, .inl gn1)) := (k87 _ (z_ne a128 a84 rfl)).trans a128
            have a130 : f1 wpl = some (.inl (cy 0, 60, .inl gp1)) := k4 _ _ x_wpl (z_ne x_wpl x_o rfl)
            have a131 : f5 wpl = some (.inl (cy 0, 60, .inl gp1)) := k7 _ _ a130 
            have a132 : f73 wpl = some (.inl (cy 0, 60, .inl gp1)) := k75 _ _ a131 
            have a133 : f85 wpl = some (.inl (cy 0, 60, .inl gp1)) := (k87 _ (z_ne a132 a84 rfl)).trans a132
            have a134 : f1 whs = some (.inl (cy 0, 4, .inl gs)) := k4 _ _ x_whs (z_ne x_whs x_o rfl)
            have a135 : f5 whs = some (.inl (cy 0, 4, .inl gs)) := k7 _ _ a134 
            have a136 : f73 whs = some (.inl (cy 0, 4, .inl gs)) := k75 _ _ a135 
            have a137 : f85 whs = some (.inl (cy 0, 4, .inl gs)) := (k87 _ (z_ne a136 a84 rfl)).trans a136
            have a138 : f1 wk1 = some (.inl (cy 0, 40, .inl gx1)) := k4 _ _ x_wk1 (z_ne x_wk1 x_o rfl)
            have a139 : f5 wk1 = some (.inl (cy 0, 40, .inl gx1)) := k7 _ _ a138 
            have a140 : f73 wk1 = some (.inl (cy 0, 40, .inl gx1)) := k75 _ _ a139 
            have a141 : f85 wk1 = some (.inl (cy 0, 40, .inl gx1)) := (k87 _ (z_ne a140 a84 rfl)).trans a140
            have a142 : f1 wk2 = some (.inl (cy 0, 40, .inl gx2)) := k4 _ _ x_wk2 (z_ne x_wk2 x_o rfl)
            have a143 : f5 wk2 = some (.inl (cy 0, 40, .inl gx2)) := k7 _ _ a142 
            have a144 : f73 wk2 = some (.inl (cy 0, 40, .inl gx2)) := k75 _ _ a143 
            have a145 : f85 wk2 = some (.inl (cy 0, 40, .inl gx2)) := (k87 _ (z_ne a144 a84 rfl)).trans a144
            have a146 : f1 wk3 = some (.inl (cy 0, 40, .inl gx3)) := k4 _ _ x_wk3 (z_ne x_wk3 x_o rfl)
            have a147 : f5 wk3 = some (.inl (cy 0, 40, .inl gx3)) := k7 _ _ a146 
            have a148 : f73 wk3 = some (.inl (cy 0, 40, .inl gx3)) := k75 _ _ a147 
            have a149 : f85 wk3 = some (.inl (cy 0, 40, .inl gx3)) := (k87 _ (z_ne a148 a84 rfl)).trans a148
            have hq : q_set nn gk ln gw x y z = (1, 0, (-1), 0) := by simp [q_set, oF_m1 nn, hFa, hIa, hNa, hOb, hPa, hIy, c8, c9, c13, c70, c76, c81]
            exact z_iret C hr rfl hz hS ⟨0, (-1), 0, nl, nn, nf, nc, lk, ks, gv, gu, gk, gm, (vp_updL gc (16 * ja + 1 + kx) z.toInt64), gw, gl, gh, gt, gy, gq, ge1, gn1, gp1, gs, gx1, gx2, gx3, ln, fz, sq, (by rw [hq]), (by rw [hq]), (by rw [hq]), (by rw [hq]), (by rw [hq]; exact (zEV0 gv).symm), rfl, rfl, rfl, rfl, rfl, rfl, rfl, (by rw [if_pos rfl, hIa, hIy]), rfl, rfl, rfl, rfl, rfl, rfl, rfl, rfl, rfl, rfl, rfl, rfl, rfl, ⟨a88, a92, a96, a98, a100, a86, a101, a105, a109, a113, a117, a121, a125, a129, a133, a137, a141, a145, a149, hn60, hl12, hf6, hc60, hs40, (zMP_set hMP hk6 (by have h9 := (hMP ja (by omega)).2.1; omega)), hgy, hfz, hgs, hME, hlk, hgw, hfd, n_wki_wmy, n_wki_wiw, n_wki_wli, n_wki_wha, n_wki_wem, n_wki_wna, n_wki_wpl, n_wmy_wiw, n_wmy_wli, n_wmy_wha, n_wmy_wem, n_wmy_wna, n_wmy_wpl, n_wiw_wli, n_wiw_wha, n_wiw_wem, n_wiw_wna, n_wiw_wpl, n_wli_wha, n_wli_wem, n_wli_wna, n_wli_wpl, n_wha_wem, n_wha_wna, n_wha_wpl, n_wem_wna, n_wem_wpl, n_wna_wpl, n_wk1_wk2, n_wk1_wk3, n_wk2_wk3⟩⟩ (Nat.le_of_ble_eq_true rfl) (Nat.le_of_ble_eq_true rfl) dX8_set_137
          · refine lv_iload_n hx hb dX8_set_98 rfl (lv_at hl 3 rfl) ?_
            refine lv_iconst (v := (-1)) hx hb dX8_set_99 (by decide) ?_
            refine lv_icmp_eq (tgt := 121) hx hb dX8_set_100 (by decide) (fun c150 => ?_) (fun c150 => ?_)
            rotate_left
            · exact absurd c9 c150
            refine lv_aload_n hx hb dX8_set_121 rfl (lv_at hl 0 rfl) ?_
            refine z_get (v := .ref wce) C hz a77 zl8 mFX8_26 (by decide) rfl dX8_set_122 ?_
            refine lv_bipush (v := 16) hx hb dX8_set_125 (by decide) ?_
            refine lv_iload_n hx hb dX8_set_127 rfl (lv_at hl 1 rfl) ?_
            refine lv_imul hx hb dX8_set_128 ?_
            refine lv_iconst (v := 1) hx hb dX8_set_129 (by decide) ?_
            refine lv_iadd hx hb dX8_set_130 ?_
            refine lv_iload_n hx hb dX8_set_131 rfl (lv_at hl 2 rfl) ?_
            refine lv_iadd hx hb dX8_set_132 ?_
            refine lv_iload_n hx hb dX8_set_133 rfl (lv_at hl 3 rfl) ?_
            refine lv_i2l (v := z.toInt64) hx hb dX8_set_134 rfl ?_
            have a151 : f1 wce = some (.inl (cy 1, 960, .inr (.inl gc))) := k4 _ _ x_wce (z_ne x_wce x_o rfl)
            have a152 : f5 wce = some (.inl (cy 1, 960, .inr (.inl gc))) := k7 _ _ a151 
            have a153 : f73 wce = some (.inl (cy 1, 960, .inr (.inl gc))) := k75 _ _ a152 
            refine z_last (16 * ja + 1 + kx) C hz hS a153 (by rw [hva, hyk]; exact z_ce1 ja kx) (by have h9 := (hMP ja (by omega)).2.1; omega) (by omega) dX8_set_135 (fun H locs f154 a155 k156 hz hS => ?_)
            refine lv_iconst (v := 1) hx hb dX8_set_136 (by decide) ?_
            have a157 : f154 o = some (.inr (8, [.int 0, .int (-1), .int 0, .ref wev, .int (nI nl), .ref wnb, .int (nI nn), .ref wki, .ref wmy, .ref wce, .ref wiw, .ref wli, .ref wha, .ref wwt, .int (nI nf), .ref wfy, .ref wfk, .int (nI nc), .ref wem, .ref wna, .ref wpl, .ref whs, .long lk, .int (nI ks), .ref wk1, .ref wk2, .ref wk3])) := (k156 _ (z_ne a77 a153 rfl)).trans a77
            have a158 : f1 wev = some (.inl (cy 0, 8, .inl gv)) := k4 _ _ x_wev (z_ne x_wev x_o rfl)
            have a159 : f5 wev = some (.inl (cy 0, 8, .inl gv)) := k7 _ _ a158 
            have a160 : f73 wev = some (.inl (cy 0, 8, .inl gv)) := k75 _ _ a159 
            have a161 : f154 wev = some (.inl (cy 0, 8, .inl gv)) := (k156 _ (z_ne a160 a153 rfl)).trans a160
            have a162 : f1 wnb = some (.inl (cy 0, 12, .inl gu)) := k4 _ _ x_wnb (z_ne x_wnb x_o rfl)
            have a163 : f5 wnb = some (.inl (cy 0, 12, .inl gu)) := k7 _ _ a162 
            have a164 : f73 wnb = some (.inl (cy 0, 12, .inl gu)) := k75 _ _ a163 
            have a165 : f154 wnb = some (.inl (cy 0, 12, .inl gu)) := (k156 _ (z_ne a164 a153 rfl)).trans a164
            have a166 : f73 wki = some (.inl (cy 0, 60, .inl gk)) := k75 _ _ a12 
            have a167 : f154 wki = some (.inl (cy 0, 60, .inl gk)) := (k156 _ (z_ne a166 a153 rfl)).trans a166
            have a168 : f73 wmy = some (.inl (cy 0, 60, .inl gm)) := k75 _ _ a72 
            have a169 : f154 wmy = some (.inl (cy 0, 60, .inl gm)) := (k156 _ (z_ne a168 a153 rfl)).trans a168
            have a170 : f154 wiw = some (.inl (cy 2, 60, .inl gw)) := (k156 _ (z_ne a80 a153 rfl)).trans a80
            have a171 : f1 wli = some (.inl (cy 0, 60, .inl gl)) := k4 _ _ x_wli (z_ne x_wli x_o rfl)
            have a172 : f5 wli = some (.inl (cy 0, 60, .inl gl)) := k7 _ _ a171 
            have a173 : f73 wli = some (.inl (cy 0, 60, .inl gl)) := k75 _ _ a172 
            have a174 : f154 wli = some (.inl (cy 0, 60, .inl gl)) := (k156 _ (z_ne a173 a153 rfl)).trans a173
            have a175 : f1 wha = some (.inl (cy 0, 60, .inl gh)) := k4 _ _ x_wha (z_ne x_wha x_o rfl)
            have a176 : f5 wha = some (.inl (cy 0, 60, .inl gh)) := k7 _ _ a175 
            have a177 : f73 wha = some (.inl (cy 0, 60, .inl gh)) := k75 _ _ a176 
            have a178 : f154 wha = some (.inl (cy 0, 60, .inl gh)) := (k156 _ (z_ne a177 a153 rfl)).trans a177
            have a179 : f1 wwt = some (.inl (cy 1, 60, .inr (.inl gt))) := k4 _ _ x_wwt (z_ne x_wwt x_o rfl)
            have a180 : f5 wwt = some (.inl (cy 1, 60, .inr (.inl gt))) := k7 _ _ a179 
            have a181 : f73 wwt = some (.inl (cy 1, 60, .inr (.inl gt))) := k75 _ _ a180 
            have a182 : f154 wwt = some (.inl (cy 1, 60, .inr (.inl gt))) := (k156 _ (z_ne a181 a153 rfl)).trans a181
            have a183 : f1 wfy = some (.inl (cy 0, 6, .inl gy)) := k4 _ _ x_wfy (z_ne x_wfy x_o rfl)
            have a184 : f5 wfy = some (.inl (cy 0, 6, .inl gy)) := k7 _ _ a183 
            have a185 : f73 wfy = some (.inl (cy 0, 6, .inl gy)) := k75 _ _ a184 
            have a186 : f154 wfy = some (.inl (cy 0, 6, .inl gy)) := (k156 _ (z_ne a185 a153 rfl)).trans a185
            have a187 : f1 wfk = some (.inl (cy 0, 24, .inl gq)) := k4 _ _ x_wfk (z_ne x_wfk x_o rfl)
            have a188 : f5 wfk = some (.inl (cy 0, 24, .inl gq)) := k7 _ _ a187 
            have a189 : f73 wfk = some (.inl (cy 0, 24, .inl gq)) := k75 _ _ a188 
            have a190 : f154 wfk = some (.inl (cy 0, 24, .inl gq)) := (k156 _ (z_ne a189 a153 rfl)).trans a189
            have a191 : f1 wem = some (.inl (cy 0, 60, .inl ge1)) := k4 _ _ x_wem (z_ne x_wem x_o rfl)
            have a192 : f5 wem = some (.inl (cy 0, 60, .inl ge1)) := k7 _ _ a191 
            have a193 : f73 wem = some (.inl (cy 0, 60, .inl ge1)) := k75 _ _ a192 
            have a194 : f154 wem = some (.inl (cy 0, 60, .inl ge1)) := (k156 _ (z_ne a193 a153 rfl)).trans a193
            have a195 : f1 wna = some (.inl (cy 0, 60, .inl gn1)) := k4 _ _ x_wna (z_ne x_wna x_o rfl)
            have a196 : f5 wna = some (.inl (cy 0, 60, .inl gn1)) := k7 _ _ a195 
            have a197 : f73 wna = some (.inl (cy 0, 60, .inl gn1)) := k75 _ _ a196 
            have a198 : f154 wna = some (.inl (cy 0, 60, .inl gn1)) := (k156 _ (z_ne a197 a153 rfl)).trans a197
            have a199 : f1 wpl = some (.inl (cy 0, 60, .inl gp1)) := k4 _ _ x_wpl (z_ne x_wpl x_o rfl)
            have a200 : f5 wpl = some (.inl (cy 0, 60, .inl gp1)) := k7 _ _ a199 
            have a201 : f73 wpl = some (.inl (cy 0, 60, .inl gp1)) := k75 _ _ a200 
            have a202 : f154 wpl = some (.inl (cy 0, 60, .inl gp1)) := (k156 _ (z_ne a201 a153 rfl)).trans a201
            have a203 : f1 whs = some (.inl (cy 0, 4, .inl gs)) := k4 _ _ x_whs (z_ne x_whs x_o rfl)
            have a204 : f5 whs = some (.inl (cy 0, 4, .inl gs)) := k7 _ _ a203 
            have a205 : f73 whs = some (.inl (cy 0, 4, .inl gs)) := k75 _ _ a204 
            have a206 : f154 whs = some (.inl (cy 0, 4, .inl gs)) := (k156 _ (z_ne a205 a153 rfl)).trans a205
            have a207 : f1 wk1 = some (.inl (cy 0, 40, .inl gx1)) := k4 _ _ x_wk1 (z_ne x_wk1 x_o rfl)
            have a208 : f5 wk1 = some (.inl (cy 0, 40, .inl gx1)) := k7 _ _ a207 
            have a209 : f73 wk1 = some (.inl (cy 0, 40, .inl gx1)) := k75 _ _ a208 
            have a210 : f154 wk1 = some (.inl (cy 0, 40, .inl gx1)) := (k156 _ (z_ne a209 a153 rfl)).trans a209
            have a211 : f1 wk2 = some (.inl (cy 0, 40, .inl gx2)) := k4 _ _ x_wk2 (z_ne x_wk2 x_o rfl)
            have a212 : f5 wk2 = some (.inl (cy 0, 40, .inl gx2)) := k7 _ _ a211 
            have a213 : f73 wk2 = some (.inl (cy 0, 40, .inl gx2)) := k75 _ _ a212 
            have a214 : f154 wk2 = some (.inl (cy 0, 40, .inl gx2)) := (k156 _ (z_ne a213 a153 rfl)).trans a213
            have a215 : f1 wk3 = some (.inl (cy 0, 40, .inl gx3)) := k4 _ _ x_wk3 (z_ne x_wk3 x_o rfl)
            have a216 : f5 wk3 = some (.inl (cy 0, 40, .inl gx3)) := k7 _ _ a215 
            have a217 : f73 wk3 = some (.inl (cy 0, 40, .inl gx3)) := k75 _ _ a216 
            have a218 : f154 wk3 = some (.inl (cy 0, 40, .inl gx3)) := (k156 _ (z_ne a217 a153 rfl)).trans a217
            have hq : q_set nn gk ln gw x y z = (1, 0, (-1), 0) := by simp [q_set, oF_m1 nn, hFa, hIa, hNa, hOb, hPa, hIy, c8, c9, c13, c70, c76, c81, c150]
            exact z_iret C hr rfl hz hS ⟨0, (-1), 0, nl, nn, nf, nc, lk, ks, gv, gu, gk, gm, (vp_updL gc (16 * ja + 1 + kx) z.toInt64), gw, gl, gh, gt, gy, gq, ge1, gn1, gp1, gs, gx1, gx2, gx3, ln, fz, sq, (by rw [hq]), (by rw [hq]), (by rw [hq]), (by rw [hq]), (by rw [hq]; exact (zEV0 gv).symm), rfl, rfl, rfl, rfl, rfl, rfl, rfl, (by rw [if_pos rfl, hIa, hIy]), rfl, rfl, rfl, rfl, rfl, rfl, rfl, rfl, rfl, rfl, rfl, rfl, rfl, ⟨a157, a161, a165, a167, a169, a155, a170, a174, a178, a182, a186, a190, a194, a198, a202, a206, a210, a214, a218, hn60, hl12, hf6, hc60, hs40, (zMP_set hMP hk6 (by have h9 := (hMP ja (by omega)).2.1; omega)), hgy, hfz, hgs, hME, hlk, hgw, hfd, n_wki_wmy, n_wki_wiw, n_wki_wli, n_wki_wha, n_wki_wem, n_wki_wna, n_wki_wpl, n_wmy_wiw, n_wmy_wli, n_wmy_wha, n_wmy_wem, n_wmy_wna, n_wmy_wpl, n_wiw_wli, n_wiw_wha, n_wiw_wem, n_wiw_wna, n_wiw_wpl, n_wli_wha, n_wli_wem, n_wli_wna, n_wli_wpl, n_wha_wem, n_wha_wna, n_wha_wpl, n_wem_wna, n_wem_wpl, n_wna_wpl, n_wk1_wk2, n_wk1_wk3, n_wk2_wk3⟩⟩ (Nat.le_of_ble_eq_true rfl) (Nat.le_of_ble_eq_true rfl) dX8_set_137
        · have hPa : isP (ln ja) y = false := isP_f c76
          refine lv_aload_n hx hb dX8_set_81 rfl (lv_at hl 0 rfl) ?_
          refine lv_iconst (v := 2) hx hb dX8_set_82 (by decide) ?_
          refine lv_iconst (v := (-1)) hx hb dX8_set_83 (by decide) ?_
          refine lv_iconst (v := 0) hx hb dX8_set_84 (by decide) ?_
          have a219 : f73 o = some (.inr (8, [.int 0, .int (-1), .int 0, .ref wev, .int (nI nl), .ref wnb, .int (nI nn), .ref wki, .ref wmy, .ref wce, .ref wiw, .ref wli, .ref wha, .ref wwt, .int (nI nf), .ref wfy, .ref wfk, .int (nI nc), .ref wem, .ref wna, .ref wpl, .ref whs, .long lk, .int (nI ks), .ref wk1, .ref wk2, .ref wk3])) := k75 _ _ a10 
          have a220 : f1 wev = some (.inl (cy 0, 8, .inl gv)) := k4 _ _ x_wev (z_ne x_wev x_o rfl)
          have a221 : f5 wev = some (.inl (cy 0, 8, .inl gv)) := k7 _ _ a220 
          have a222 : f73 wev = some (.inl (cy 0, 8, .inl gv)) := k75 _ _ a221 
          refine z_callVi (As := [.int 2, .int (-1), .int 0]) C hz hS hA hl (k_X8_fails l D cy f73 o wev wnb wki wmy wce wiw wli wha wwt wfy wfk wem wna wpl whs wk1 wk2 wk3 0 (-1) 0 nl nn nf nc lk ks 2 (-1) 0 gv 2 a219 a222 (by decide) (Nat.le_of_ble_eq_true rfl)) zyX8_fails mMX8_135 a219 zl8 rfl rfl (Nat.le_of_ble_eq_true rfl) ⟨Nat.le_of_ble_eq_true rfl, Nat.le_of_ble_eq_true rfl⟩ ⟨Nat.le_of_ble_eq_true rfl, Nat.le_of_ble_eq_true rfl⟩ dX8_set_85 (fun r f223 H locs h224 hz hS => ?_)
          obtain ⟨rfl, a225, a226, k227⟩ := h224
          have a228 : f1 wnb = some (.inl (cy 0, 12, .inl gu)) := k4 _ _ x_wnb (z_ne x_wnb x_o rfl)
          have a229 : f5 wnb = some (.inl (cy 0, 12, .inl gu)) := k7 _ _ a228 
          have a230 : f73 wnb = some (.inl (cy 0, 12, .inl gu)) := k75 _ _ a229 
          have a231 : f223 wnb = some (.inl (cy 0, 12, .inl gu)) := k227 _ _ a230 (z_ne a230 a219 rfl) (z_ne a230 a222 rfl)
          have a232 : f73 wki = some (.inl (cy 0, 60, .inl gk)) := k75 _ _ a12 
          have a233 : f223 wki = some (.inl (cy 0, 60, .inl gk)) := k227 _ _ a232 (z_ne a232 a219 rfl) (z_ne a232 a222 rfl)
          have a234 : f73 wmy = some (.inl (cy 0, 60, .inl gm)) := k75 _ _ a72 
          have a235 : f223 wmy = some (.inl (cy 0, 60, .inl gm)) := k227 _ _ a234 (z_ne a234 a219 rfl) (z_ne a234 a222 rfl)
          have a236 : f1 wce = some (.inl (cy 1, 960, .inr (.inl gc))) := k4 _ _ x_wce (z_ne x_wce x_o rfl)
          have a237 : f5 wce = some (.inl (cy 1, 960, .inr (.inl gc))) := k7 _ _ a236 
          have a238 : f73 wce = some (.inl (cy 1, 960, .inr (.inl gc))) := k75 _ _ a237 
          have a239 : f223 wce = some (.inl (cy 1, 960, .inr (.inl gc))) := k227 _ _ a238 (z_ne a238 a219 rfl) (z_ne a238 a222 rfl)
          have a240 : f1 wiw = some (.inl (cy 2, 60, .inl gw)) := k4 _ _ x_wiw (z_ne x_wiw x_o rfl)
          have a241 : f5 wiw = some (.inl (cy 2, 60, .inl gw)) := k7 _ _ a240 
          have a242 : f73 wiw = some (.inl (cy 2, 60, .inl gw)) := k75 _ _ a241 
          have a243 : f223 wiw = some (.inl (cy 2, 60, .inl gw)) := k227 _ _ a242 (z_ne a242 a219 rfl) (z_ne a242 a222 rfl)
          have a244 : f1 wli = some (.inl (cy 0, 60, .inl gl)) := k4 _ _ x_wli (z_ne x_wli x_o rfl)
          have a245 : f5 wli = some (.inl (cy 0, 60, .inl gl)) := k7 _ _ a244 
          have a246 : f73 wli = some (.inl (cy 0, 60, .inl gl)) := k75 _ _ a245 
          have a247 : f223 wli = some (.inl (cy 0, 60, .inl gl)) := k227 _ _ a246 (z_ne a246 a219 rfl) (z_ne a246 a222 rfl)
          have a248 : f1 wha = some (.inl (cy 0, 60, .inl gh)) := k4 _ _ x_wha (z_ne x_wha x_o rfl)
          have a249 : f5 wha = some (.inl (cy 0, 60, .inl gh)) := k7 _ _ a248 
          have a250 : f73 wha = some (.inl (cy 0, 60, .inl gh)) := k75 _ _ a249 
          have a251 : f223 wha = some (.inl (cy 0, 60, .inl gh)) := k227 _ _ a250 (z_ne a250 a219 rfl) (z_ne a250 a222 rfl)
          have a252 : f1 wwt = some (.inl (cy 1, 60, .inr (.inl gt))) := k4 _ _ x_wwt (z_ne x_wwt x_o rfl)
          have a253 : f5 wwt = some (.inl (cy 1, 60, .inr (.inl gt))) := k7 _ _ a252 
          have a254 : f73 wwt = some (.inl (cy 1, 60, .inr (.inl gt))) := k75 _ _ a253 
          have a255 : f223 wwt = some (.inl (cy 1, 60, .inr (.inl gt))) := k227 _ _ a254 (z_ne a254 a219 rfl) (z_ne a254 a222 rfl)
          have a256 : f1 wfy = some (.inl (cy 0, 6, .inl gy)) := k4 _ _ x_wfy (z_ne x_wfy x_o rfl)
          have a257 : f5 wfy = some (.inl (cy 0, 6, .inl gy)) := k7 _ _ a256 
          have a258 : f73 wfy = some (.inl (cy 0, 6, .inl gy)) := k75 _ _ a257 
          have a259 : f223 wfy = some (.inl (cy 0, 6, .inl gy)) := k227 _ _ a258 (z_ne a258 a219 rfl) (z_ne a258 a222 rfl)
          have a260 : f1 wfk = some (.inl (cy 0, 24, .inl gq)) := k4 _ _ x_wfk (z_ne x_wfk x_o rfl)
          have a261 : f5 wfk = some (.inl (cy 0, 24, .inl gq)) := k7 _ _ a260 
          have a262 : f73 wfk = some (.inl (cy 0, 24, .inl gq)) := k75 _ _ a261 
          have a263 : f223 wfk = some (.inl (cy 0, 24, .inl gq)) := k227 _ _ a262 (z_ne a262 a219 rfl) (z_ne a262 a222 rfl)
          have a264 : f1 wem = some (.inl (cy 0, 60, .inl ge1)) := k4 _ _ x_wem (z_ne x_wem x_o rfl)
          have a265 : f5 wem = some (.inl (cy 0, 60, .inl ge1)) := k7 _ _ a264 
          have a266 : f73 wem = some (.inl (cy 0, 60, .inl ge1)) := k75 _ _ a265 
          have a267 : f223 wem = some (.inl (cy 0, 60, .inl ge1)) := k227 _ _ a266 (z_ne a266 a219 rfl) (z_ne a266 a222 rfl)
          have a268 : f1 wna = some (.inl (cy 0, 60, .inl gn1)) := k4 _ _ x_wna (z_ne x_wna x_o rfl)
          have a269 : f5 wna = some (.inl (cy 0, 60, .inl gn1)) := k7 _ _ a268 
          have a270 : f73 wna = some (.inl (cy 0, 60, .inl gn1)) := k75 _ _ a269 
          have a271 : f223 wna = some (.inl (cy 0, 60, .inl gn1)) := k227 _ _ a270 (z_ne a270 a219 rfl) (z_ne a270 a222 rfl)
          have a272 : f1 wpl = some (.inl (cy 0, 60, .inl gp1)) := k4 _ _ x_wpl (z_ne x_wpl x_o rfl)
          have a273 : f5 wpl = some (.inl (cy 0, 60, .inl gp1)) := k7 _ _ a272 
          have a274 : f73 wpl = some (.inl (cy 0, 60, .inl gp1)) := k75 _ _ a273 
          have a275 : f223 wpl = some (.inl (cy 0, 60, .inl gp1)) := k227 _ _ a274 (z_ne a274 a219 rfl) (z_ne a274 a222 rfl)
          have a276 : f1 whs = some (.inl (cy 0, 4, .inl gs)) := k4 _ _ x_whs (z_ne x_whs x_o rfl)
          have a277 : f5 whs = some (.inl (cy 0, 4, .inl gs)) := k7 _ _ a276 
          have a278 : f73 whs = some (.inl (cy 0, 4, .inl gs)) := k75 _ _ a277 
          have a279 : f223 whs = some (.inl (cy 0, 4, .inl gs)) := k227 _ _ a278 (z_ne a278 a219 rfl) (z_ne a278 a222 rfl)
          have a280 : f1 wk1 = some (.inl (cy 0, 40, .inl gx1)) := k4 _ _ x_wk1 (z_ne x_wk1 x_o rfl)
          have a281 : f5 wk1 = some (.inl (cy 0, 40, .inl gx1)) := k7 _ _ a280 
          have a282 : f73 wk1 = some (.inl (cy 0, 40, .inl gx1)) := k75 _ _ a281 
          have a283 : f223 wk1 = some (.inl (cy 0, 40, .inl gx1)) := k227 _ _ a282 (z_ne a282 a219 rfl) (z_ne a282 a222 rfl)
          have a284 : f1 wk2 = some (.inl (cy 0, 40, .inl gx2)) := k4 _ _ x_wk2 (z_ne x_wk2 x_o rfl)
          have a285 : f5 wk2 = some (.inl (cy 0, 40, .inl gx2)) := k7 _ _ a284 
          have a286 : f73 wk2 = some (.inl (cy 0, 40, .inl gx2)) := k75 _ _ a285 
          have a287 : f223 wk2 = some (.inl (cy 0, 40, .inl gx2)) := k227 _ _ a286 (z_ne a286 a219 rfl) (z_ne a286 a222 rfl)
          have a288 : f1 wk3 = some (.inl (cy 0, 40, .inl gx3)) := k4 _ _ x_wk3 (z_ne x_wk3 x_o rfl)
          have a289 : f5 wk3 = some (.inl (cy 0, 40, .inl gx3)) := k7 _ _ a288 
          have a290 : f73 wk3 = some (.inl (cy 0, 40, .inl gx3)) := k75 _ _ a289 
          have a291 : f223 wk3 = some (.inl (cy 0, 40, .inl gx3)) := k227 _ _ a290 (z_ne a290 a219 rfl) (z_ne a290 a222 rfl)
          have hq : q_set nn gk ln gw x y z = ((-4), 2, (-1), 0) := by simp [q_set, oF_m1 nn, hFa, hIa, hNa, hOb, hPa, c8, c9, c13, c70, c76]
          exact z_iret C hr rfl hz hS ⟨2, (-1), 0, nl, nn, nf, nc, lk, ks, (upd gv 2 (gv 2 + 1)), gu, gk, gm, gc, gw, gl, gh, gt, gy, gq, ge1, gn1, gp1, gs, gx1, gx2, gx3, ln, fz, sq, (by rw [hq]), (by rw [hq]), (by rw [hq]), (by rw [hq]), (by rw [hq]; exact (zEV2 gv).symm), rfl, rfl, rfl, rfl, rfl, rfl, rfl, (by rw [if_neg (by decide)]), rfl, rfl, rfl, rfl, rfl, rfl, rfl, rfl, rfl, rfl, rfl, rfl, rfl, ⟨a225, a226, a231, a233, a235, a239, a243, a247, a251, a255, a259, a263, a267, a271, a275, a279, a283, a287, a291, hn60, hl12, hf6, hc60, hs40, hMP, hgy, hfz, hgs, hME, hlk, hgw, hfd, n_wki_wmy, n_wki_wiw, n_wki_wli, n_wki_wha, n_wki_wem, n_wki_wna, n_wki_wpl, n_wmy_wiw, n_wmy_wli, n_wmy_wha, n_wmy_wem, n_wmy_wna, n_wmy_wpl, n_wiw_wli, n_wiw_wha, n_wiw_wem, n_wiw_wna, n_wiw_wpl, n_wli_wha, n_wli_wem, n_wli_wna, n_wli_wpl, n_wha_wem, n_wha_wna, n_wha_wpl, n_wem_wna, n_wem_wpl, n_wna_wpl, n_wk1_wk2, n_wk1_wk3, n_wk2_wk3⟩⟩ (Nat.le_of_ble_eq_true rfl) (Nat.le_of_ble_eq_true rfl) dX8_set_88
    · refine lv_aload_n hx hb dX8_set_17 rfl (lv_at hl 0 rfl) ?_
      refine lv_iload_n hx hb dX8_set_18 rfl (lv_at hl 3 rfl) ?_
      rcases z_findi z nn with ⟨jb, hjb, hvb⟩ | hvb
      · have hOb : oF nn z = true := oF_t hn60 hjb hvb
        have hNb : ¬ z = (-1) := by rw [hvb]; exact z_nim1 (by omega)
        have hIb : fI z = jb := fI_of (by omega) hvb
        have a292 : f5 o = some (.inr (8, [.int 0, .int (-1), .int 0, .ref wev, .int (nI nl), .ref wnb, .int (nI nn), .ref wki, .ref wmy, .ref wce, .ref wiw, .ref wli, .ref wha, .ref wwt, .int (nI nf), .ref wfy, .ref wfk, .int (nI nc), .ref wem, .ref wna, .ref wpl, .ref whs, .long lk, .int (nI ks), .ref wk1, .ref wk2, .ref wk3])) := k7 _ _ a3 
        refine z_callVi (As := [.int z]) C hz hS hA hl (k_X8_isFigure_A l D cy f5 o wev wnb wki wmy wce wiw wli wha wwt wfy wfk wem wna wpl whs wk1 wk2 wk3 0 (-1) 0 nl nn nf nc lk ks z jb a292 hn60 hvb hjb) zyX8_isFigure mMX8_139 a292 zl8 rfl rfl (Nat.le_of_ble_eq_true rfl) ⟨Nat.le_of_ble_eq_true rfl, Nat.le_of_ble_eq_true rfl⟩ ⟨Nat.le_of_ble_eq_true rfl, Nat.le_of_ble_eq_true rfl⟩ dX8_set_19 (fun r f293 H locs h294 hz hS => ?_)
        obtain ⟨rfl, k295⟩ := h294
        refine lv_if_ne (tgt := 28) hx hb dX8_set_22 (by decide) (fun c296 => ?_) (fun c296 => ?_)
        rotate_left
        · exact absurd c296 (by decide)
        refine lv_aload_n hx hb dX8_set_28 rfl (lv_at hl 0 rfl) ?_
        have a297 : f293 o = some (.inr (8, [.int 0, .int (-1), .int 0, .ref wev, .int (nI nl), .ref wnb, .int (nI nn), .ref wki, .ref wmy, .ref wce, .ref wiw, .ref wli, .ref wha, .ref wwt, .int (nI nf), .ref wfy, .ref wfk, .int (nI nc), .ref wem, .ref wna, .ref wpl, .ref whs, .long lk, .int (nI ks), .ref wk1, .ref wk2, .ref wk3])) := k295 _ _ a292 
        refine z_get (v := .ref wki) C hz a297 zl8 mFX8_20 (by decide) rfl dX8_set_29 ?_
        refine lv_iload_n hx hb dX8_set_32 rfl (lv_at hl 1 rfl) ?_
        have a298 : f1 wki = some (.inl (cy 0, 60, .inl gk)) := k4 _ _ x_wki (z_ne x_wki x_o rfl)
        have a299 : f5 wki = some (.inl (cy 0, 60, .inl gk)) := k7 _ _ a298 
        have a300 : f293 wki = some (.inl (cy 0, 60, .inl gk)) := k295 _ _ a299 
        refine z_iald ja C hz a300 hva (by omega) (by omega) dX8_set_33 ?_
        refine lv_bipush (v := 6) hx hb dX8_set_34 (by decide) ?_
        refine lv_icmp_ne (tgt := 64) hx hb dX8_set_36 (by decide) (fun c301 => ?_) (fun c301 => ?_)
        · refine lv_aload_n hx hb dX8_set_64 rfl (lv_at hl 0 rfl) ?_
          refine lv_iconst (v := 3) hx hb dX8_set_65 (by decide) ?_
          refine lv_iconst (v := (-1)) hx hb dX8_set_66 (by decide) ?_
          refine lv_iconst (v := 0) hx hb dX8_set_67 (by decide) ?_
          have a302 : f1 wev = some (.inl (cy 0, 8, .inl gv)) := k4 _ _ x_wev (z_ne x_wev x_o rfl)
          have a303 : f5 wev = some (.inl (cy 0, 8, .inl gv)) := k7 _ _ a302 
          have a304 : f293 wev = some (.inl (cy 0, 8, .inl gv)) := k295 _ _ a303 
          refine z_callVi (As := [.int 3, .int (-1), .int 0]) C hz hS hA hl (k_X8_fails l D cy f293 o wev wnb wki wmy wce wiw wli wha wwt wfy wfk wem wna wpl whs wk1 wk2 wk3 0 (-1) 0 nl nn nf nc lk ks 3 (-1) 0 gv 3 a297 a304 (by decide) (Nat.le_of_ble_eq_true rfl)) zyX8_fails mMX8_135 a297 zl8 rfl rfl (Nat.le_of_ble_eq_true rfl) ⟨Nat.le_of_ble_eq_true rfl, Nat.le_of_ble_eq_true rfl⟩ ⟨Nat.le_of_ble_eq_true rfl, Nat.le_of_ble_eq_true rfl⟩ dX8_set_68 (fun r f305 H locs h306 hz hS => ?_)
          obtain ⟨rfl, a307, a308, k309⟩ := h306
          have a310 : f1 wnb = some (.inl (cy 0, 12, .inl gu)) := k4 _ _ x_wnb (z_ne x_wnb x_o rfl)
          have a311 : f5 wnb = some (.inl (cy 0, 12, .inl gu)) := k7 _ _ a310 
          have a312 : f293 wnb = some (.inl (cy 0, 12, .inl gu)) := k295 _ _ a311 
          have a313 : f305 wnb = some (.inl (cy 0, 12, .inl gu)) := k309 _ _ a312 (z_ne a312 a297 rfl) (z_ne a312 a304 rfl)
          have a314 : f305 wki = some (.inl (cy 0, 60, .inl gk)) := k309 _ _ a300 (z_ne a300 a297 rfl) (z_ne a300 a304 rfl)
          have a315 : f1 wmy = some (.inl (cy 0, 60, .inl gm)) := k4 _ _ x_wmy (z_ne x_wmy x_o rfl)
          have a316 : f5 wmy = some (.inl (cy 0, 60, .inl gm)) := k7 _ _ a315 
          have a317 : f293 wmy = some (.inl (cy 0, 60, .inl gm)) := k295 _ _ a316 
          have a318 : f305 wmy = some (.inl (cy 0, 60, .inl gm)) := k309 _ _ a317 (z_ne a317 a297 rfl) (z_ne a317 a304 rfl)
          have a319 : f1 wce = some (.inl (cy 1, 960, .inr (.inl gc))) := k4 _ _ x_wce (z_ne x_wce x_o rfl)
          have a320 : f5 wce = some (.inl (cy 1, 960, .inr (.inl gc))) := k7 _ _ a319 
          have a321 : f293 wce = some (.inl (cy 1, 960, .inr (.inl gc))) := k295 _ _ a320 
          have a322 : f305 wce = some (.inl (cy 1, 960, .inr (.inl gc))) := k309 _ _ a321 (z_ne a321 a297 rfl) (z_ne a321 a304 rfl)
          have a323 : f1 wiw = some (.inl (cy 2, 60, .inl gw)) := k4 _ _ x_wiw (z_ne x_wiw x_o rfl)
          have a324 : f5 wiw = some (.inl (cy 2, 60, .inl gw)) := k7 _ _ a323 
          have a325 : f293 wiw = some (.inl (cy 2, 60, .inl gw)) := k295 _ _ a324 
          have a326 : f305 wiw = some (.inl (cy 2, 60, .inl gw)) := k309 _ _ a325 (z_ne a325 a297 rfl) (z_ne a325 a304 rfl)
          have a327 : f1 wli = some (.inl (cy 0, 60, .inl gl)) := k4 _ _ x_wli (z_ne x_wli x_o rfl)
          have a328 : f5 wli = some (.inl (cy 0, 60, .inl gl)) := k7 _ _ a327 
          have a329 : f293 wli = some (.inl (cy 0, 60, .inl gl)) := k295 _ _ a328 
          have a330 : f305 wli = some (.inl (cy 0, 60, .inl gl)) := k309 _ _ a329 (z_ne a329 a297 rfl) (z_ne a329 a304 rfl)
          have a331 : f1 wha = some (.inl (cy 0, 60, .inl gh)) := k4 _ _ x_wha (z_ne x_wha x_o rfl)
          have a332 : f5 wha = some (.inl (cy 0, 60, .inl gh)) := k7 _ _ a331 
          have a333 : f293 wha = some (.inl (cy 0, 60, .inl gh)) := k295 _ _ a332 
          have a334 : f305 wha = some (.inl (cy 0, 60, .inl gh)) := k309 _ _ a333 (z_ne a333 a297 rfl) (z_ne a333 a304 rfl)
          have a335 : f1 wwt = some (.inl (cy 1, 60, .inr (.inl gt))) := k4 _ _ x_wwt (z_ne x_wwt x_o rfl)
          have a336 : f5 wwt = some (.inl (cy 1, 60, .inr (.inl gt))) := k7 _ _ a335 
          have a337 : f293 wwt = some (.inl (cy 1, 60, .inr (.inl gt))) := k295 _ _ a336 
          have a338 : f305 wwt = some (.inl (cy 1, 60, .inr (.inl gt))) := k309 _ _ a337 (z_ne a337 a297 rfl) (z_ne a337 a304 rfl)
          have a339 : f1 wfy = some (.inl (cy 0, 6, .inl gy)) := k4 _ _ x_wfy (z_ne x_wfy x_o rfl)
          have a340 : f5 wfy = some (.inl (cy 0, 6, .inl gy)) := k7 _ _ a339 
          have a341 : f293 wfy = some (.inl (cy 0, 6, .inl gy)) := k295 _ _ a340 
          have a342 : f305 wfy = some (.inl (cy 0, 6, .inl gy)) := k309 _ _ a341 (z_ne a341 a297 rfl) (z_ne a341 a304 rfl)
          have a343 : f1 wfk = some (.inl (cy 0, 24, .inl gq)) := k4 _ _ x_wfk (z_ne x_wfk x_o rfl)
          have a344 : f5 wfk = some (.inl (cy 0, 24, .inl gq)) := k7 _ _ a343 
          have a345 : f293 wfk = some (.inl (cy 0, 24, .inl gq)) := k295 _ _ a344 
          have a346 : f305 wfk = some (.inl (cy 0, 24, .inl gq)) := k309 _ _ a345 (z_ne a345 a297 rfl) (z_ne a345 a304 rfl)
          have a347 : f1 wem = some (.inl (cy 0, 60, .inl ge1)) := k4 _ _ x_wem (z_ne x_wem x_o rfl)
          have a348 : f5 wem = some (.inl (cy 0, 60, .inl ge1)) := k7 _ _ a347 
          have a349 : f293 wem = some (.inl (cy 0, 60, .inl ge1)) := k295 _ _ a348 
          have a350 : f305 wem = some (.inl (cy 0, 60, .inl ge1)) := k309 _ _ a349 (z_ne a349 a297 rfl) (z_ne a349 a304 rfl)
          have a351 : f1 wna = some (.inl (cy 0, 60, .inl gn1)) := k4 _ _ x_wna (z_ne x_wna x_o rfl)
          have a352 : f5 wna = some (.inl (cy 0, 60, .inl gn1)) := k7 _ _ a351 
          have a353 : f293 wna = some (.inl (cy 0, 60, .inl gn1)) := k295 _ _ a352 
          have a354 : f305 wna = some (.inl (cy 0, 60, .inl gn1)) := k309 _ _ a353 (z_ne a353 a297 rfl) (z_ne a353 a304 rfl)
          have a355 : f1 wpl = some (.inl (cy 0, 60, .inl gp1)) := k4 _ _ x_wpl (z_ne x_wpl x_o rfl)
          have a356 : f5 wpl = some (.inl (cy 0, 60, .inl gp1)) := k7 _ _ a355 
          have a357 : f293 wpl = some (.inl (cy 0, 60, .inl gp1)) := k295 _ _ a356 
          have a358 : f305 wpl = some (.inl (cy 0, 60, .inl gp1)) := k309 _ _ a357 (z_ne a357 a297 rfl) (z_ne a357 a304 rfl)
          have a359 : f1 whs = some (.inl (cy 0, 4, .inl gs)) := k4 _ _ x_whs (z_ne x_whs x_o rfl)
          have a360 : f5 whs = some (.inl (cy 0, 4, .inl gs)) := k7 _ _ a359 
          have a361 : f293 whs = some (.inl (cy 0, 4, .inl gs)) := k295 _ _ a360 
          have a362 : f305 whs = some (.inl (cy 0, 4, .inl gs)) := k309 _ _ a361 (z_ne a361 a297 rfl) (z_ne a361 a304 rfl)
          have a363 : f1 wk1 = some (.inl (cy 0, 40, .inl gx1)) := k4 _ _ x_wk1 (z_ne x_wk1 x_o rfl)
          have a364 : f5 wk1 = some (.inl (cy 0, 40, .inl gx1)) := k7 _ _ a363 
          have a365 : f293 wk1 = some (.inl (cy 0, 40, .inl gx1)) := k295 _ _ a364 
          have a366 : f305 wk1 = some (.inl (cy 0, 40, .inl gx1)) := k309 _ _ a365 (z_ne a365 a297 rfl) (z_ne a365 a304 rfl)
          have a367 : f1 wk2 = some (.inl (cy 0, 40, .inl gx2)) := k4 _ _ x_wk2 (z_ne x_wk2 x_o rfl)
          have a368 : f5 wk2 = some (.inl (cy 0, 40, .inl gx2)) := k7 _ _ a367 
          have a369 : f293 wk2 = some (.inl (cy 0, 40, .inl gx2)) := k295 _ _ a368 
          have a370 : f305 wk2 = some (.inl (cy 0, 40, .inl gx2)) := k309 _ _ a369 (z_ne a369 a297 rfl) (z_ne a369 a304 rfl)
          have a371 : f1 wk3 = some (.inl (cy 0, 40, .inl gx3)) := k4 _ _ x_wk3 (z_ne x_wk3 x_o rfl)
          have a372 : f5 wk3 = some (.inl (cy 0, 40, .inl gx3)) := k7 _ _ a371 
          have a373 : f293 wk3 = some (.inl (cy 0, 40, .inl gx3)) := k295 _ _ a372 
          have a374 : f305 wk3 = some (.inl (cy 0, 40, .inl gx3)) := k309 _ _ a373 (z_ne a373 a297 rfl) (z_ne a373 a304 rfl)
          have hq : q_set nn gk ln gw x y z = ((-4), 3, (-1), 0) := by simp [q_set, oF_m1 nn, hFa, hIa, hNa, hOb, hNb, hIb, c8, c9, c296, c301]
          exact z_iret C hr rfl hz hS ⟨3, (-1), 0, nl, nn, nf, nc, lk, ks, (upd gv 3 (gv 3 + 1)), gu, gk, gm, gc, gw, gl, gh, gt, gy, gq, ge1, gn1, gp1, gs, gx1, gx2, gx3, ln, fz, sq, (by rw [hq]), (by rw [hq]), (by rw [hq]), (by rw [hq]), (by rw [hq]; exact (zEV3 gv).symm), rfl, rfl, rfl, rfl, rfl, rfl, rfl, (by rw [if_neg (by decide)]), rfl, rfl, rfl, rfl, rfl, rfl, rfl, rfl, rfl, rfl, rfl, rfl, rfl, ⟨a307, a308, a313, a314, a318, a322, a326, a330, a334, a338, a342, a346, a350, a354, a358, a362, a366, a370, a374, hn60, hl12, hf6, hc60, hs40, hMP, hgy, hfz, hgs, hME, hlk, hgw, hfd, n_wki_wmy, n_wki_wiw, n_wki_wli, n_wki_wha, n_wki_wem, n_wki_wna, n_wki_wpl, n_wmy_wiw, n_wmy_wli, n_wmy_wha, n_wmy_wem, n_wmy_wna, n_wmy_wpl, n_wiw_wli, n_wiw_wha, n_wiw_wem, n_wiw_wna, n_wiw_wpl, n_wli_wha, n_wli_wem, n_wli_wna, n_wli_wpl, n_wha_wem, n_wha_wna, n_wha_wpl, n_wem_wna, n_wem_wpl, n_wna_wpl, n_wk1_wk2, n_wk1_wk3, n_wk2_wk3⟩⟩ (Nat.le_of_ble_eq_true rfl) (Nat.le_of_ble_eq_true rfl) dX8_set_71
        · have hk6 := c301
          refine lv_iload_n hx hb dX8_set_39 rfl (lv_at hl 3 rfl) ?_
          refine lv_iconst (v := (-1)) hx hb dX8_set_40 (by decide) ?_
          refine lv_icmp_eq (tgt := 72) hx hb dX8_set_41 (by decide) (fun c375 => ?_) (fun c375 => ?_)
          · exact absurd c375 (by rw [hvb]; exact z_nim1 (by omega))
          refine lv_aload_n hx hb dX8_set_44 rfl (lv_at hl 0 rfl) ?_
          refine z_get (v := .ref wki) C hz a297 zl8 mFX8_20 (by decide) rfl dX8_set_45 ?_
          refine lv_iload_n hx hb dX8_set_48 rfl (lv_at hl 3 rfl) ?_
          refine z_iald jb C hz a300 hvb (by omega) (by omega) dX8_set_49 ?_
          refine lv_iconst (v := 1) hx hb dX8_set_50 (by decide) ?_
          refine lv_icmp_eq (tgt := 72) hx hb dX8_set_51 (by decide) (fun c376 => ?_) (fun c376 => ?_)
          · refine lv_aload_n hx hb dX8_set_72 rfl (lv_at hl 0 rfl) ?_
            refine lv_iload_n hx hb dX8_set_73 rfl (lv_at hl 1 rfl) ?_
            refine lv_iload_n hx hb dX8_set_74 rfl (lv_at hl 2 rfl) ?_
            have a377 : f1 wmy = some (.inl (cy 0, 60, .inl gm)) := k4 _ _ x_wmy (z_ne x_wmy x_o rfl)
            have a378 : f5 wmy = some (.inl (cy 0, 60, .inl gm)) := k7 _ _ a377 
            have a379 : f293 wmy = some (.inl (cy 0, 60, .inl gm)) := k295 _ _ a378 
            refine z_callVi (As := [.int x, .int y]) C hz hS hA hl (k_X8_hasPlace l D cy f293 o wev wnb wki wmy wce wiw wli wha wwt wfy wfk wem wna wpl whs wk1 wk2 wk3 0 (-1) 0 nl nn nf nc lk ks gm x y ja (ln ja) a297 a379 hva (by omega) (hMP ja (by omega)).1) zyX8_hasPlace mMX8_145 a297 zl8 rfl rfl (Nat.le_of_ble_eq_true rfl) ⟨Nat.le_of_ble_eq_true rfl, Nat.le_of_ble_eq_true rfl⟩ ⟨Nat.le_of_ble_eq_true rfl, Nat.le_of_ble_eq_true rfl⟩ dX8_set_75 (fun r f380 H locs h381 hz hS => ?_)
            obtain ⟨rfl, k382⟩ := h381
            refine lv_if_ne (tgt := 89) hx hb dX8_set_78 (by decide) (fun c383 => ?_) (fun c383 => ?_)
            · have hPa : isP (ln ja) y = true := isP_t c383
              obtain ⟨kx, hyk, hkx⟩ := z_place (by have h9 := (hMP ja (by omega)).2.1; omega) c383
              have hIy : fI y = kx := fI_of (by have h9 := (hMP ja (by omega)).2.1; omega) hyk
              refine lv_aload_n hx hb dX8_set_89 rfl (lv_at hl 0 rfl) ?_
              have a384 : f380 o = some (.inr (8, [.int 0, .int (-1), .int 0, .ref wev, .int (nI nl), .ref wnb, .int (nI nn), .ref wki, .ref wmy, .ref wce, .ref wiw, .ref wli, .ref wha, .ref wwt, .int (nI nf), .ref wfy, .ref wfk, .int (nI nc), .ref wem, .ref wna, .ref wpl, .ref whs, .long lk, .int (nI ks), .ref wk1, .ref wk2, .ref wk3])) := k382 _ _ a297 
              refine z_get (v := .ref wiw) C hz a384 zl8 mFX8_30 (by decide) rfl dX8_set_90 ?_
              refine lv_iload_n hx hb dX8_set_93 rfl (lv_at hl 1 rfl) ?_
              have a385 : f1 wiw = some (.inl (cy 2, 60, .inl gw)) := k4 _ _ x_wiw (z_ne x_wiw x_o rfl)
              have a386 : f5 wiw = some (.inl (cy 2, 60, .inl gw)) := k7 _ _ a385 
              have a387 : f293 wiw = some (.inl (cy 2, 60, .inl gw)) := k295 _ _ a386 
              have a388 : f380 wiw = some (.inl (cy 2, 60, .inl gw)) := k382 _ _ a387 
              refine z_zald ja C hz a388 hva (by omega) (by omega) dX8_set_94 ?_
              refine lv_if_eq (tgt := 121) hx hb dX8_set_95 (by decide) (fun c389 => ?_) (fun c389 => ?_)
              · refine lv_aload_n hx hb dX8_set_121 rfl (lv_at hl 0 rfl) ?_
                refine z_get (v := .ref wce) C hz a384 zl8 mFX8_26 (by decide) rfl dX8_set_122 ?_
                refine lv_bipush (v := 16) hx hb dX8_set_125 (by decide) ?_
                refine lv_iload_n hx hb dX8_set_127 rfl (lv_at hl 1 rfl) ?_
                refine lv_imul hx hb dX8_set_128 ?_
                refine lv_iconst (v := 1) hx hb dX8_set_129 (by decide) ?_
                refine lv_iadd hx hb dX8_set_130 ?_
                refine lv_iload_n hx hb dX8_set_131 rfl (lv_at hl 2 rfl) ?_
                refine lv_iadd hx hb dX8_set_132 ?_
                refine lv_iload_n hx hb dX8_set_133 rfl (lv_at hl 3 rfl) ?_
                refine lv_i2l (v := z.toInt64) hx hb dX8_set_134 rfl ?_
                have a390 : f1 wce = some (.inl (cy 1, 960, .inr (.inl gc))) := k4 _ _ x_wce (z_ne x_wce x_o rfl)
                have a391 : f5 wce = some (.inl (cy 1, 960, .inr (.inl gc))) := k7 _ _ a390 
                have a392 : f293 wce = some (.inl (cy 1, 960, .inr (.inl gc))) := k295 _ _ a391 
                have a393 : f380 wce = some (.inl (cy 1, 960, .inr (.inl gc))) := k382 _ _ a392 
                refine z_last (16 * ja + 1 + kx) C hz hS a393 (by rw [hva, hyk]; exact z_ce1 ja kx) (by have h9 := (hMP ja (by omega)).2.1; omega) (by omega) dX8_set_135 (fun H locs f394 a395 k396 hz hS => ?_)
                refine lv_iconst (v := 1) hx hb dX8_set_136 (by decide) ?_
                have a397 : f394 o = some (.inr (8, [.int 0, .int (-1), .int 0, .ref wev, .int (nI nl), .ref wnb, .int (nI nn), .ref wki, .ref wmy, .ref wce, .ref wiw, .ref wli, .ref wha, .ref wwt, .int (nI nf), .ref wfy, .ref wfk, .int (nI nc), .ref wem, .ref wna, .ref wpl, .ref whs, .long lk, .int (nI ks), .ref wk1, .ref wk2, .ref wk3])) := (k396 _ (z_ne a384 a393 rfl)).trans a384
                have a398 : f1 wev = some (.inl (cy 0, 8, .inl gv)) := k4 _ _ x_wev (z_ne x_wev x_o rfl)
                have a399 : f5 wev = some (.inl (cy 0, 8, .inl gv)) := k7 _ _ a398 
                have a400 : f293 wev = some (.inl (cy 0, 8, .inl gv)) := k295 _ _ a399 
                have a401 : f380 wev = some (.inl (cy 0, 8, .inl gv)) := k382 _ _ a400 
                have a402 : f394 wev = some (.inl (cy 0, 8, .inl gv)) := (k396 _ (z_ne a401 a393 rfl)).trans a401
                have a403 : f1 wnb = some (.inl (cy 0, 12, .inl gu)) := k4 _ _ x_wnb (z_ne x_wnb x_o rfl)
                have a404 : f5 wnb = some (.inl (cy 0, 12, .inl gu)) := k7 _ _ a403 
                have a405 : f293 wnb = some (.inl (cy 0, 12, .inl gu)) := k295 _ _ a404 
                have a406 : f380 wnb = some (.inl (cy 0, 12, .inl gu)) := k382 _ _ a405 
                have a407 : f394 wnb = some (.inl (cy 0, 12, .inl gu)) := (k396 _ (z_ne a406 a393 rfl)).trans a406
                have a408 : f380 wki = some (.inl (cy 0, 60, .inl gk)) := k382 _ _ a300 
                have a409 : f394 wki = some (.inl (cy 0, 60, .inl gk)) := (k396 _ (z_ne a408 a393 rfl)).trans a408
                have a410 : f380 wmy = some (.inl (cy 0, 60, .inl gm)) := k382 _ _ a379 
                have a411 : f394 wmy = some (.inl (cy 0, 60, .inl gm)) := (k396 _ (z_ne a410 a393 rfl)).trans a410
                have a412 : f394 wiw = some (.inl (cy 2, 60, .inl gw)) := (k396 _ (z_ne a388 a393 rfl)).trans a388
                have a413 : f1 wli = some (.inl (cy 0, 60, .inl gl)) := k4 _ _ x_wli (z_ne x_wli x_o rfl)
                have a414 : f5 wli = some (.inl (cy 0, 60, .inl gl)) := k7 _ _ a413 
                have a415 : f293 wli = some (.inl (cy 0, 60, .inl gl)) := k295 _ _ a414 
                have a416 : f380 wli = some (.inl (cy 0, 60, .inl gl)) := k382 _ _ a415 
                have a417 : f394 wli = some (.inl (cy 0, 60, .inl gl)) := (k396 _ (z_ne a416 a393 rfl)).trans a416
                have a418 : f1 wha = some (.inl (cy 0, 60, .inl gh)) := k4 _ _ x_wha (z_ne x_wha x_o rfl)
                have a419 : f5 wha = some (.inl (cy 0, 60, .inl gh)) := k7 _ _ a418 
                have a420 : f293 wha = some (.inl (cy 0, 60, .inl gh)) := k295 _ _ a419 
                have a421 : f380 wha = some (.inl (cy 0, 60, .inl gh)) := k382 _ _ a420 
                have a422 : f394 wha = some (.inl (cy 0, 60, .inl gh)) := (k396 _ (z_ne a421 a393 rfl)).trans a421
                have a423 : f1 wwt = some (.inl (cy 1, 60, .inr (.inl gt))) := k4 _ _ x_wwt (z_ne x_wwt x_o rfl)
                have a424 : f5 wwt = some (.inl (cy 1, 60, .inr (.inl gt))) := k7 _ _ a423 
                have a425 : f293 wwt = some (.inl (cy 1, 60, .inr (.inl gt))) := k295 _ _ a424 
                have a426 : f380 wwt = some (.inl (cy 1, 60, .inr (.inl gt))) := k382 _ _ a425 
                have a427 : f394 wwt = some (.inl (cy 1, 60, .inr (.inl gt))) := (k396 _ (z_ne a426 a393 rfl)).trans a426
                have a428 : f1 wfy = some (.inl (cy 0, 6, .inl gy)) := k4 _ _ x_wfy (z_ne x_wfy x_o rfl)
                have a429 : f5 wfy = some (.inl (cy 0, 6, .inl gy)) := k7 _ _ a428 
                have a430 : f293 wfy = some (.inl (cy 0, 6, .inl gy)) := k295 _ _ a429 
                have a431 : f380 wfy = some (.inl (cy 0, 6, .inl gy)) := k382 _ _ a430 
                have a432 : f394 wfy = some (.inl (cy 0, 6, .inl gy)) := (k396 _ (z_ne a431 a393 rfl)).trans a431
                have a433 : f1 wfk = some (.inl (cy 0, 24, .inl gq)) := k4 _ _ x_wfk (z_ne x_wfk x_o rfl)
                have a434 : f5 wfk = some (.inl (cy 0, 24, .inl gq)) := k7 _ _ a433 
                have a435 : f293 wfk = some (.inl (cy 0, 24, .inl gq)) := k295 _ _ a434 
                have a436 : f380 wfk = some (.inl (cy 0, 24, .inl gq)) := k382 _ _ a435 
                have a437 : f394 wfk = some (.inl (cy 0, 24, .inl gq)) := (k396 _ (z_ne a436 a393 rfl)).trans a436
                have a438 : f1 wem = some (.inl (cy 0, 60, .inl ge1)) := k4 _ _ x_wem (z_ne x_wem x_o rfl)
                have a439 : f5 wem = some (.inl (cy 0, 60, .inl ge1)) := k7 _ _ a438 
                have a440 : f293 wem = some (.inl (cy 0, 60, .inl ge1)) := k295 _ _ a439 
                have a441 : f380 wem = some (.inl (cy 0, 60, .inl ge1)) := k382 _ _ a440 
                have a442 : f394 wem = some (.inl (cy 0, 60, .inl ge1)) := (k396 _ (z_ne a441 a393 rfl)).trans a441
                have a443 : f1 wna = some (.inl (cy 0, 60, .inl gn1)) := k4 _ _ x_wna (z_ne x_wna x_o rfl)
                have a444 : f5 wna = some (.inl (cy 0, 60, .inl gn1)) := k7 _ _ a443 
                have a445 : f293 wna = some (.inl (cy 0, 60, .inl gn1)) := k295 _ _ a444 
                have a446 : f380 wna = some (.inl (cy 0, 60, .inl gn1)) := k382 _ _ a445 
                have a447 : f394 wna = some (.inl (cy 0, 60, .inl gn1)) := (k396 _ (z_ne a446 a393 rfl)).trans a446
                have a448 : f1 wpl = some (.inl (cy 0, 60, .inl gp1)) := k4 _ _ x_wpl (z_ne x_wpl x_o rfl)
                have a449 : f5 wpl = some (.inl (cy 0, 60, .inl gp1)) := k7 _ _ a448 
                have a450 : f293 wpl = some (.inl (cy 0, 60, .inl gp1)) := k295 _ _ a449 
                have a451 : f380 wpl = some (.inl (cy 0, 60, .inl gp1)) := k382 _ _ a450 
                have a452 : f394 wpl = some (.inl (cy 0, 60, .inl gp1)) := (k396 _ (z_ne a451 a393 rfl)).trans a451
                have a453 : f1 whs = some (.inl (cy 0, 4, .inl gs)) := k4 _ _ x_whs (z_ne x_whs x_o rfl)
                have a454 : f5 whs = some (.inl (cy 0, 4, .inl gs)) := k7 _ _ a453 
                have a455 : f293 whs = some (.inl (cy 0, 4, .inl gs)) := k295 _ _ a454 
                have a456 : f380 whs = some (.inl (cy 0, 4, .inl gs)) := k382 _ _ a455 
                have a457 : f394 whs = some (.inl (cy 0, 4, .inl gs)) := (k396 _ (z_ne a456 a393 rfl)).trans a456
                have a458 : f1 wk1 = some (.inl (cy 0, 40, .inl gx1)) := k4 _ _ x_wk1 (z_ne x_wk1 x_o rfl)
                have a459 : f5 wk1 = some (.inl (cy 0, 40, .inl gx1)) := k7 _ _ a458 
                have a460 : f293 wk1 = some (.inl (cy 0, 40, .inl gx1)) := k295 _ _ a459 
                have a461 : f380 wk1 = some (.inl (cy 0, 40, .inl gx1)) := k382 _ _ a460 
                have a462 : f394 wk1 = some (.inl (cy 0, 40, .inl gx1)) := (k396 _ (z_ne a461 a393 rfl)).trans a461
                have a463 : f1 wk2 = some (.inl (cy 0, 40, .inl gx2)) := k4 _ _ x_wk2 (z_ne x_wk2 x_o rfl)
                have a464 : f5 wk2 = some (.inl (cy 0, 40, .inl gx2)) := k7 _ _ a463 
                have a465 : f293 wk2 = some (.inl (cy 0, 40, .inl gx2)) := k295 _ _ a464 
                have a466 : f380 wk2 = some (.inl (cy 0, 40, .inl gx2)) := k382 _ _ a465 
                have a467 : f394 wk2 = some (.inl (cy 0, 40, .inl gx2)) := (k396 _ (z_ne a466 a393 rfl)).trans a466
                have a468 : f1 wk3 = some (.inl (cy 0, 40, .inl gx3)) := k4 _ _ x_wk3 (z_ne x_wk3 x_o rfl)
                have a469 : f5 wk3 = some (.inl (cy 0, 40, .inl gx3)) := k7 _ _ a468 
                have a470 : f293 wk3 = some (.inl (cy 0, 40, .inl gx3)) := k295 _ _ a469 
                have a471 : f380 wk3 = some (.inl (cy 0, 40, .inl gx3)) := k382 _ _ a470 
                have a472 : f394 wk3 = some (.inl (cy 0, 40, .inl gx3)) := (k396 _ (z_ne a471 a393 rfl)).trans a471
                have hq : q_set nn gk ln gw x y z = (1, 0, (-1), 0) := by simp [q_set, oF_m1 nn, hFa, hIa, hNa, hOb, hNb, hIb, hPa, hIy, c8, c9, c296, c301, c375, c376, c383, c389]
                exact z_iret C hr rfl hz hS ⟨0, (-1), 0, nl, nn, nf, nc, lk, ks, gv, gu, gk, gm, (vp_updL gc (16 * ja + 1 + kx) z.toInt64), gw, gl, gh, gt, gy, gq, ge1, gn1, gp1, gs, gx1, gx2, gx3, ln, fz, sq, (by rw [hq]), (by rw [hq]), (by rw [hq]), (by rw [hq]), (by rw [hq]; exact (zEV0 gv).symm), rfl, rfl, rfl, rfl, rfl, rfl, rfl, (by rw [if_pos rfl, hIa, hIy]), rfl, rfl, rfl, rfl, rfl, rfl, rfl, rfl, rfl, rfl, rfl, rfl, rfl, ⟨a397, a402, a407, a409, a411, a395, a412, a417, a422, a427, a432, a437, a442, a447, a452, a457, a462, a467, a472, hn60, hl12, hf6, hc60, hs40, (zMP_set hMP hk6 (by have h9 := (hMP ja (by omega)).2.1; omega)), hgy, hfz, hgs, hME, hlk, hgw, hfd, n_wki_wmy, n_wki_wiw, n_wki_wli, n_wki_wha, n_wki_wem, n_wki_wna, n_wki_wpl, n_wmy_wiw, n_wmy_wli, n_wmy_wha, n_wmy_wem, n_wmy_wna, n_wmy_wpl, n_wiw_wli, n_wiw_wha, n_wiw_wem, n_wiw_wna, n_wiw_wpl, n_wli_wha, n_wli_wem, n_wli_wna, n_wli_wpl, n_wha_wem, n_wha_wna, n_wha_wpl, n_wem_wna, n_wem_wpl, n_wna_wpl, n_wk1_wk2, n_wk1_wk3, n_wk2_wk3⟩⟩ (Nat.le_of_ble_eq_true rfl) (Nat.le_of_ble_eq_true rfl) dX8_set_137
              · refine lv_iload_n hx hb dX8_set_98 rfl (lv_at hl 3 rfl) ?_
                refine lv_iconst (v := (-1)) hx hb dX8_set_99 (by decide) ?_
                refine lv_icmp_eq (tgt := 121) hx hb dX8_set_100 (by decide) (fun c473 => ?_) (fun c473 => ?_)
                · exact absurd c473 (by rw [hvb]; exact z_nim1 (by omega))
                refine lv_aload_n hx hb dX8_set_103 rfl (lv_at hl 0 rfl) ?_
                refine z_get (v := .ref wki) C hz a384 zl8 mFX8_20 (by decide) rfl dX8_set_104 ?_
                refine lv_iload_n hx hb dX8_set_107 rfl (lv_at hl 3 rfl) ?_
                have a474 : f380 wki = some (.inl (cy 0, 60, .inl gk)) := k382 _ _ a300 
                refine z_iald jb C hz a474 hvb (by omega) (by omega) dX8_set_108 ?_
                refine lv_iconst (v := 2) hx hb dX8_set_109 (by decide) ?_
                refine lv_icmp_eq (tgt := 121) hx hb dX8_set_110 (by decide) (fun c475 => ?_) (fun c475 => ?_)
                · exact absurd (c376.symm.trans c475) (by decide)
                refine lv_aload_n hx hb dX8_set_113 rfl (lv_at hl 0 rfl) ?_
                refine lv_iconst (v := 4) hx hb dX8_set_114 (by decide) ?_
                refine lv_iconst (v := (-1)) hx hb dX8_set_115 (by decide) ?_
                refine lv_iconst (v := 0) hx hb dX8_set_116 (by decide) ?_
                have a476 : f1 wev = some (.inl (cy 0, 8, .inl gv)) := k4 _ _ x_wev (z_ne x_wev x_o rfl)
                have a477 : f5 wev = some (.inl (cy 0, 8, .inl gv)) := k7 _ _ a476 
                have a478 : f293 wev = some (.inl (cy 0, 8, .inl gv)) := k295 _ _ a477 
                have a479 : f380 wev = some (.inl (cy 0, 8, .inl gv)) := k382 _ _ a478 
                refine z_callVi (As := [.int 4, .int (-1), .int 0]) C hz hS hA hl (k_X8_fails l D cy f380 o wev wnb wki wmy wce wiw wli wha wwt wfy wfk wem wna wpl whs wk1 wk2 wk3 0 (-1) 0 nl nn nf nc lk ks 4 (-1) 0 gv 4 a384 a479 (by decide) (Nat.le_of_ble_eq_true rfl)) zyX8_fails mMX8_135 a384 zl8 rfl rfl (Nat.le_of_ble_eq_true rfl) ⟨Nat.le_of_ble_eq_true rfl, Nat.le_of_ble_eq_true rfl⟩ ⟨Nat.le_of_ble_eq_true rfl, Nat.le_of_ble_eq_true rfl⟩ dX8_set_117 (fun r f480 H locs h481 hz hS => ?_)
                obtain ⟨rfl, a482, a483, k484⟩ := h481
                have a485 : f1 wnb = some (.inl (cy 0, 12, .inl gu)) := k4 _ _ x_wnb (z_ne x_wnb x_o rfl)
                have a486 : f5 wnb = some (.inl (cy 0, 12, .inl gu)) := k7 _ _ a485 
                have a487 : f293 wnb = some (.inl (cy 0, 12, .inl gu)) := k295 _ _ a486 
                have a488 : f380 wnb = some (.inl (cy 0, 12, .inl gu)) := k382 _ _ a487 
                have a489 : f480 wnb = some (.inl (cy 0, 12, .inl gu)) := k484 _ _ a488 (z_ne a488 a384 rfl) (z_ne a488 a479 rfl)
                have a490 : f480 wki = some (.inl (cy 0, 60, .inl gk)) := k484 _ _ a474 (z_ne a474 a384 rfl) (z_ne a474 a479 rfl)
                have a491 : f380 wmy = some (.inl (cy 0, 60, .inl gm)) := k382 _ _ a379 
                have a492 : f480 wmy = some (.inl (cy 0, 60, .inl gm)) := k484 _ _ a491 (z_ne a491 a384 rfl) (z_ne a491 a479 rfl)
                have a493 : f1 wce = some (.inl (cy 1, 960, .inr (.inl gc))) := k4 _ _ x_wce (z_ne x_wce x_o rfl)
                have a494 : f5 wce = some (.inl (cy 1, 960, .inr (.inl gc))) := k7 _ _ a493 
                have a495 : f293 wce = some (.inl (cy 1, 960, .inr (.inl gc))) := k295 _ _ a494 
                have a496 : f380 wce = some (.inl (cy 1, 960, .inr (.inl gc))) := k382 _ _ a495 
                have a497 : f480 wce = some (.inl (cy 1, 960, .inr (.inl gc))) := k484 _ _ a496 (z_ne a496 a384 rfl) (z_ne a496 a479 rfl)
                have a498 : f480 wiw = some (.inl (cy 2, 60, .inl gw)) := k484 _ _ a388 (z_ne a388 a384 rfl) (z_ne a388 a479 rfl)
                have a499 : f1 wli = some (.inl (cy 0, 60, .inl gl)) := k4 _ _ x_wli (z_ne x_wli x_o rfl)
                have a500 : f5 wli = some (.inl (cy 0, 60, .inl gl)) := k7 _ _ a499 
                have a501 : f293 wli = some (.inl (cy 0, 60, .inl gl)) := k295 _ _ a500 
                have a502 : f380 wli = some (.inl (cy 0, 60, .inl gl)) := k382 _ _ a501 
                have a503 : f480 wli = some (.inl (cy 0, 60, .inl gl)) := k484 _ _ a502 (z_ne a502 a384 rfl) (z_ne a502 a479 rfl)
                have a504 : f1 wha = some (.inl (cy 0, 60, .inl gh)) := k4 _ _ x_wha (z_ne x_wha x_o rfl)
                have a505 : f5 wha = some (.inl (cy 0, 60, .inl gh)) := k7 _ _ a504 
                have a506 : f293 wha = some (.inl (cy 0, 60, .inl gh)) := k295 _ _ a505 
                have a507 : f380 wha = some (.inl (cy 0, 60, .inl gh)) := k382 _ _ a506 
                have a508 : f480 wha = some (.inl (cy 0, 60, .inl gh)) := k484 _ _ a507 (z_ne a507 a384 rfl) (z_ne a507 a479 rfl)
                have a509 : f1 wwt = some (.inl (cy 1, 60, .inr (.inl gt))) := k4 _ _ x_wwt (z_ne x_wwt x_o rfl)
                have a510 : f5 wwt = some (.inl (cy 1, 60, .inr (.inl gt))) := k7 _ _ a509 
                have a511 : f293 wwt = some (.inl (cy 1, 60, .inr (.inl gt))) := k295 _ _ a510 
                have a512 : f380 wwt = some (.inl (cy 1, 60, .inr (.inl gt))) := k382 _ _ a511 
                have a513 : f480 wwt = some (.inl (cy 1, 60, .inr (.inl gt))) := k484 _ _ a512 (z_ne a512 a384 rfl) (z_ne a512 a479 rfl)
                have a514 : f1 wfy = some (.inl (cy 0, 6, .inl gy)) := k4 _ _ x_wfy (z_ne x_wfy x_o rfl)
                have a515 : f5 wfy = some (.inl (cy 0, 6, .inl gy)) := k7 _ _ a514 
                have a516 : f293 wfy = some (.inl (cy 0, 6, .inl gy)) := k295 _ _ a515 
                have a517 : f380 wfy = some (.inl (cy 0, 6, .inl gy)) := k382 _ _ a516 
                have a518 : f480 wfy = some (.inl (cy 0, 6, .inl gy)) := k484 _ _ a517 (z_ne a517 a384 rfl) (z_ne a517 a479 rfl)
                have a519 : f1 wfk = some (.inl (cy 0, 24, .inl gq)) := k4 _ _ x_wfk (z_ne x_wfk x_o rfl)
                have a520 : f5 wfk = some (.inl (cy 0, 24, .inl gq)) := k7 _ _ a519 
                have a521 : f293 wfk = some (.inl (cy 0, 24, .inl gq)) := k295 _ _ a520 
                have a522 : f380 wfk = some (.inl (cy 0, 24, .inl gq)) := k382 _ _ a521 
                have a523 : f480 wfk = some (.inl (cy 0, 24, .inl gq)) := k484 _ _ a522 (z_ne a522 a384 rfl) (z_ne a522 a479 rfl)
                have a524 : f1 wem = some (.inl (cy 0, 60, .inl ge1)) := k4 _ _ x_wem (z_ne x_wem x_o rfl)
                have a525 : f5 wem = some (.inl (cy 0, 60, .inl ge1)) := k7 _ _ a524 
                have a526 : f293 wem = some (.inl (cy 0, 60, .inl ge1)) := k295 _ _ a525 
                have a527 : f380 wem = some (.inl (cy 0, 60, .inl ge1)) := k382 _ _ a526 
                have a528 : f480 wem = some (.inl (cy 0, 60, .inl ge1)) := k484 _ _ a527 (z_ne a527 a384 rfl) (z_ne a527 a479 rfl)
                have a529 : f1 wna = some (.inl (cy 0, 60, .inl gn1)) := k4 _ _ x_wna (z_ne x_wna x_o rfl)
                have a530 : f5 wna = some (.inl (cy 0, 60, .inl gn1)) := k7 _ _ a529 
                have a531 : f293 wna = some (.inl (cy 0, 60, .inl gn1)) := k295 _ _ a530 
                have a532 : f380 wna = some (.inl (cy 0, 60, .inl gn1)) := k382 _ _ a531 
                have a533 : f480 wna = some (.inl (cy 0, 60, .inl gn1)) := k484 _ _ a532 (z_ne a532 a384 rfl) (z_ne a532 a479 rfl)
                have a534 : f1 wpl = some (.inl (cy 0, 60, .inl gp1)) := k4 _ _ x_wpl (z_ne x_wpl x_o rfl)
                have a535 : f5 wpl = some (.inl (cy 0, 60, .inl gp1)) := k7 _ _ a534 
                have a536 : f293 wpl = some (.inl (cy 0, 60, .inl gp1)) := k295 _ _ a535 
                have a537 : f380 wpl = some (.inl (cy 0, 60, .inl gp1)) := k382 _ _ a536 
                have a538 : f480 wpl = some (.inl (cy 0, 60, .inl gp1)) := k484 _ _ a537 (z_ne a537 a384 rfl) (z_ne a537 a479 rfl)
                have a539 : f1 whs = some (.inl (cy 0, 4, .inl gs)) := k4 _ _ x_whs (z_ne x_whs x_o rfl)
                have a540 : f5 whs = some (.inl (cy 0, 4, .inl gs)) := k7 _ _ a539 
                have a541 : f293 whs = some (.inl (cy 0, 4, .inl gs)) := k295 _ _ a540 
                have a542 : f380 whs = some (.inl (cy 0, 4, .inl gs)) := k382 _ _ a541 
                have a543 : f480 whs = some (.inl (cy 0, 4, .inl gs)) := k484 _ _ a542 (z_ne a542 a384 rfl) (z_ne a542 a479 rfl)
                have a544 : f1 wk1 = some (.inl (cy 0, 40, .inl gx1)) := k4 _ _ x_wk1 (z_ne x_wk1 x_o rfl)
                have a545 : f5 wk1 = some (.inl (cy 0, 40, .inl gx1)) := k7 _ _ a544 
                have a546 : f293 wk1 = some (.inl (cy 0, 40, .inl gx1)) := k295 _ _ a545 
                have a547 : f380 wk1 = some (.inl (cy 0, 40, .inl gx1)) := k382 _ _ a546 
                have a548 : f480 wk1 = some (.inl (cy 0, 40, .inl gx1)) := k484 _ _ a547 (z_ne a547 a384 rfl) (z_ne a547 a479 rfl)
                have a549 : f1 wk2 = some (.inl (cy 0, 40, .inl gx2)) := k4 _ _ x_wk2 (z_ne x_wk2 x_o rfl)
                have a550 : f5 wk2 = some (.inl (cy 0, 40, .inl gx2)) := k7 _ _ a549 
                have a551 : f293 wk2 = some (.inl (cy 0, 40, .inl gx2)) := k295 _ _ a550 
                have a552 : f380 wk2 = some (.inl (cy 0, 40, .inl gx2)) := k382 _ _ a551 
                have a553 : f480 wk2 = some (.inl (cy 0, 40, .inl gx2)) := k484 _ _ a552 (z_ne a552 a384 rfl) (z_ne a552 a479 rfl)
                have a554 : f1 wk3 = some (.inl (cy 0, 40, .inl gx3)) := k4 _ _ x_wk3 (z_ne x_wk3 x_o rfl)
                have a555 : f5 wk3 = some (.inl (cy 0, 40, .inl gx3)) := k7 _ _ a554 
                have a556 : f293 wk3 = some (.inl (cy 0, 40, .inl gx3)) := k295 _ _ a555 
                have a557 : f380 wk3 = some (.inl (cy 0, 40, .inl gx3)) := k382 _ _ a556 
                have a558 : f480 wk3 = some (.inl (cy 0, 40, .inl gx3)) := k484 _ _ a557 (z_ne a557 a384 rfl) (z_ne a557 a479 rfl)
                have hq : q_set nn gk ln gw x y z = ((-4), 4, (-1), 0) := by simp [q_set, oF_m1 nn, hFa, hIa, hNa, hOb, hNb, hIb, hPa, hIy, c8, c9, c296, c301, c375, c376, c383, c389, c473, c475]
                exact z_iret C hr rfl hz hS ⟨4, (-1), 0, nl, nn, nf, nc, lk, ks, (upd gv 4 (gv 4 + 1)), gu, gk, gm, gc, gw, gl, gh, gt, gy, gq, ge1, gn1, gp1, gs, gx1, gx2, gx3, ln, fz, sq, (by rw [hq]), (by rw [hq]), (by rw [hq]), (by rw [hq]), (by rw [hq]; exact (zEV4 gv).symm), rfl, rfl, rfl, rfl, rfl, rfl, rfl, (by rw [if_neg (by decide)]), rfl, rfl, rfl, rfl, rfl, rfl, rfl, rfl, rfl, rfl, rfl, rfl, rfl, ⟨a482, a483, a489, a490, a492, a497, a498, a503, a508, a513, a518, a523, a528, a533, a538, a543, a548, a553, a558, hn60, hl12, hf6, hc60, hs40, hMP, hgy, hfz, hgs, hME, hlk, hgw, hfd, n_wki_wmy, n_wki_wiw, n_wki_wli, n_wki_wha, n_wki_wem, n_wki_wna, n_wki_wpl, n_wmy_wiw, n_wmy_wli, n_wmy_wha, n_wmy_wem, n_wmy_wna, n_wmy_wpl, n_wiw_wli, n_wiw_wha, n_wiw_wem, n_wiw_wna, n_wiw_wpl, n_wli_wha, n_wli_wem, n_wli_wna, n_wli_wpl, n_wha_wem, n_wha_wna, n_wha_wpl, n_wem_wna, n_wem_wpl, n_wna_wpl, n_wk1_wk2, n_wk1_wk3, n_wk2_wk3⟩⟩ (Nat.le_of_ble_eq_true rfl) (Nat.le_of_ble_eq_true rfl) dX8_set_120
            · have hPa : isP (ln ja) y = false := isP_f c383
              refine lv_aload_n hx hb dX8_set_81 rfl (lv_at hl 0 rfl) ?_
              refine lv_iconst (v := 2) hx hb dX8_set_82 (by decide) ?_
              refine lv_iconst (v := (-1)) hx hb dX8_set_83 (by decide) ?_
              refine lv_iconst (v := 0) hx hb dX8_set_84 (by decide) ?_
              have a559 : f380 o = some (.inr (8, [.int 0, .int (-1), .int 0, .ref wev, .int (nI nl), .ref wnb, .int (nI nn), .ref wki, .ref wmy, .ref wce, .ref wiw, .ref wli, .ref wha, .ref wwt, .int (nI nf), .ref wfy, .ref wfk, .int (nI nc), .ref wem, .ref wna, .ref wpl, .ref whs, .long lk, .int (nI ks), .ref wk1, .ref wk2, .ref wk3])) := k382 _ _ a297 
              have a560 : f1 wev = some (.inl (cy 0, 8, .inl gv)) := k4 _ _ x_wev (z_ne x_wev x_o rfl)
              have a561 : f5 wev = some (.inl (cy 0, 8, .inl gv)) := k7 _ _ a560 
              have a562 : f293 wev = some (.inl (cy 0, 8, .inl gv)) := k295 _ _ a561 
              have a563 : f380 wev = some (.inl (cy 0, 8, .inl gv)) := k382 _ _ a562 
              refine z_callVi (As := [.int 2, .int (-1), .int 0]) C hz hS hA hl (k_X8_fails l D cy f380 o wev wnb wki wmy wce wiw wli wha wwt wfy wfk wem wna wpl whs wk1 wk2 wk3 0 (-1) 0 nl nn nf nc lk ks 2 (-1) 0 gv 2 a559 a563 (by decide) (Nat.le_of_ble_eq_true rfl)) zyX8_fails mMX8_135 a559 zl8 rfl rfl (Nat.le_of_ble_eq_true rfl) ⟨Nat.le_of_ble_eq_true rfl, Nat.le_of_ble_eq_true rfl⟩ ⟨Nat.le_of_ble_eq_true rfl, Nat.le_of_ble_eq_true rfl⟩ dX8_set_85 (fun r f564 H locs h565 hz hS => ?_)
              obtain ⟨rfl, a566, a567, k568⟩ := h565
              have a569 : f1 wnb = some (.inl (cy 0, 12, .inl gu)) := k4 _ _ x_wnb (z_ne x_wnb x_o rfl)
              have a570 : f5 wnb = some (.inl (cy 0, 12, .inl gu)) := k7 _ _ a569 
              have a571 : f293 wnb = some (.inl (cy 0, 12, .inl gu)) := k295 _ _ a570 
              have a572 : f380 wnb = some (.inl (cy 0, 12, .inl gu)) := k382 _ _ a571 
              have a573 : f564 wnb = some (.inl (cy 0, 12, .inl gu)) := k568 _ _ a572 (z_ne a572 a559 rfl) (z_ne a572 a563 rfl)
              have a574 : f380 wki = some (.inl (cy 0, 60, .inl gk)) := k382 _ _ a300 
              have a575 : f564 wki = some (.inl (cy 0, 60, .inl gk)) := k568 _ _ a574 (z_ne a574 a559 rfl) (z_ne a574 a563 rfl)
              have a576 : f380 wmy = some (.inl (cy 0, 60, .inl gm)) := k382 _ _ a379 
              have a577 : f564 wmy = some (.inl (cy 0, 60, .inl gm)) := k568 _ _ a576 (z_ne a576 a559 rfl) (z_ne a576 a563 rfl)
              have a578 : f1 wce = some (.inl (cy 1, 960, .inr (.inl gc))) := k4 _ _ x_wce (z_ne x_wce x_o rfl)
              have a579 : f5 wce = some (.inl (cy 1, 960, .inr (.inl gc))) := k7 _ _ a578 
              have a580 : f293 wce = some (.inl (cy 1, 960, .inr (.inl gc))) := k295 _ _ a579 
              have a581 : f380 wce = some (.inl (cy 1, 960, .inr (.inl gc))) := k382 _ _ a580 
              have a582 : f564 wce = some (.inl (cy 1, 960, .inr (.inl gc))) := k568 _ _ a581 (z_ne a581 a559 rfl) (z_ne a581 a563 rfl)
              have a583 : f1 wiw = some (.inl (cy 2, 60, .inl gw)) := k4 _ _ x_wiw (z_ne x_wiw x_o rfl)
              have a584 : f5 wiw = some (.inl (cy 2, 60, .inl gw)) := k7 _ _ a583 
              have a585 : f293 wiw = some (.inl (cy 2, 60, .inl gw)) := k295 _ _ a584 
              have a586 : f380 wiw = some (.inl (cy 2, 60, .inl gw)) := k382 _ _ a585 
              have a587 : f564 wiw = some (.inl (cy 2, 60, .inl gw)) := k568 _ _ a586 (z_ne a586 a559 rfl) (z_ne a586 a563 rfl)
              have a588 : f1 wli = some (.inl (cy 0, 60, .inl gl)) := k4 _ _ x_wli (z_ne x_wli x_o rfl)
              have a589 : f5 wli = some (.inl (cy 0, 60, .inl gl)) := k7 _ _ a588 
              have a590 : f293 wli = some (.inl (cy 0, 60, .inl gl)) := k295 _ _ a589 
              have a591 : f380 wli = some (.inl (cy 0, 60, .inl gl)) := k382 _ _ a590 
              have a592 : f564 wli = some (.inl (cy 0, 60, .inl gl)) := k568 _ _ a591 (z_ne a591 a559 rfl) (z_ne a591 a563 rfl)
              have a593 : f1 wha = some (.inl (cy 0, 60, .inl gh)) := k4 _ _ x_wha (z_ne x_wha x_o rfl)
              have a594 : f5 wha = some (.inl (cy 0, 60, .inl gh)) := k7 _ _ a593 
              have a595 : f293 wha = some (.inl (cy 0, 60, .inl gh)) := k295 _ _ a594 
              have a596 : f380 wha = some (.inl (cy 0, 60, .inl gh)) := k382 _ _ a595 
              have a597 : f564 wha = some (.inl (cy 0, 60, .inl gh)) := k568 _ _ a596 (z_ne a596 a559 rfl) (z_ne a596 a563 rfl)
              have a598 : f1 wwt = some (.inl (cy 1, 60, .inr (.inl gt))) := k4 _ _ x_wwt (z_ne x_wwt x_o rfl)
              have a599 : f5 wwt = some (.inl (cy 1, 60, .inr (.inl gt))) := k7 _ _ a598 
              have a600 : f293 wwt = some (.inl (cy 1, 60, .inr (.inl gt))) := k295 _ _ a599 
              have a601 : f380 wwt = some (.inl (cy 1, 60, .inr (.inl gt))) := k382 _ _ a600 
              have a602 : f564 wwt = some (.inl (cy 1, 60, .inr (.inl gt))) := k568 _ _ a601 (z_ne a601 a559 rfl) (z_ne a601 a563 rfl)
              have a603 : f1 wfy = some (.inl (cy 0, 6, .inl gy)) := k4 _ _ x_wfy (z_ne x_wfy x_o rfl)
              have a604 : f5 wfy = some (.inl (cy 0, 6, .inl gy)) := k7 _ _ a603 
              have a605 : f293 wfy = some (.inl (cy 0, 6, .inl gy)) := k295 _ _ a604 
              have a606 : f380 wfy = some (.inl (cy 0, 6, .inl gy)) := k382 _ _ a605 
              have a607 : f564 wfy = some (.inl (cy 0, 6, .inl gy)) := k568 _ _ a606 (z_ne a606 a559 rfl) (z_ne a606 a563 rfl)
              have a608 : f1 wfk = some (.inl (cy 0, 24, .inl gq)) := k4 _ _ x_wfk (z_ne x_wfk x_o rfl)
              have a609 : f5 wfk = some (.inl (cy 0, 24, .inl gq)) := k7 _ _ a608 
              have a610 : f293 wfk = some (.inl (cy 0, 24, .inl gq)) := k295 _ _ a609 
              have a611 : f380 wfk = some (.inl (cy 0, 24, .inl gq)) := k382 _ _ a610 
              have a612 : f564 wfk = some (.inl (cy 0, 24, .inl gq)) := k568 _ _ a611 (z_ne a611 a559 rfl) (z_ne a611 a563 rfl)
              have a613 : f1 wem = some (.inl (cy 0, 60, .inl ge1)) := k4 _ _ x_wem (z_ne x_wem x_o rfl)
              have a614 : f5 wem = some (.inl (cy 0, 60, .inl ge1)) := k7 _ _ a613 
              have a615 : f293 wem = some (.inl (cy 0, 60, .inl ge1)) := k295 _ _ a614 
              have a616 : f380 wem = some (.inl (cy 0, 60, .inl ge1)) := k382 _ _ a615 
              have a617 : f564 wem = some (.inl (cy 0, 60, .inl ge1)) := k568 _ _ a616 (z_ne a616 a559 rfl) (z_ne a616 a563 rfl)
              have a618 : f1 wna = some (.inl (cy 0, 60, .inl gn1)) := k4 _ _ x_wna (z_ne x_wna x_o rfl)
              have a619 : f5 wna = some (.inl (cy 0, 60, .inl gn1)) := k7 _ _ a618 
              have a620 : f293 wna = some (.inl (cy 0, 60, .inl gn1)) := k295 _ _ a619 
              have a621 : f380 wna = some (.inl (cy 0, 60, .inl gn1)) := k382 _ _ a620 
              have a622 : f564 wna = some (.inl (cy 0, 60, .inl gn1)) := k568 _ _ a621 (z_ne a621 a559 rfl) (z_ne a621 a563 rfl)
              have a623 : f1 wpl = some (.inl (cy 0, 60, .inl gp1)) := k4 _ _ x_wpl (z_ne x_wpl x_o rfl)
              have a624 : f5 wpl = some (.inl (cy 0, 60, .inl gp1)) := k7 _ _ a623 
              have a625 : f293 wpl = some (.inl (cy 0, 60, .inl gp1)) := k295 _ _ a624 
              have a626 : f380 wpl = some (.inl (cy 0, 60, .inl gp1)) := k382 _ _ a625 
              have a627 : f564 wpl = some (.inl (cy 0, 60, .inl gp1)) := k568 _ _ a626 (z_ne a626 a559 rfl) (z_ne a626 a563 rfl)
              have a628 : f1 whs = some (.inl (cy 0, 4, .inl gs)) := k4 _ _ x_whs (z_ne x_whs x_o rfl)
              have a629 : f5 whs = some (.inl (cy 0, 4, .inl gs)) := k7 _ _ a628 
              have a630 : f293 whs = some (.inl (cy 0, 4, .inl gs)) := k295 _ _ a629 
              have a631 : f380 whs = some (.inl (cy 0, 4, .inl gs)) := k382 _ _ a630 
              have a632 : f564 whs = some (.inl (cy 0, 4, .inl gs)) := k568 _ _ a631 (z_ne a631 a559 rfl) (z_ne a631 a563 rfl)
              have a633 : f1 wk1 = some (.inl (cy 0, 40, .inl gx1)) := k4 _ _ x_wk1 (z_ne x_wk1 x_o rfl)
              have a634 : f5 wk1 = some (.inl (cy 0, 40, .inl gx1)) := k7 _ _ a633 
              have a635 : f293 wk1 = some (.inl (cy 0, 40, .inl gx1)) := k295 _ _ a634 
              have a636 : f380 wk1 = some (.inl (cy 0, 40, .inl gx1)) := k382 _ _ a635 
              have a637 : f564 wk1 = some (.inl (cy 0, 40, .inl gx1)) := k568 _ _ a636 (z_ne a636 a559 rfl) (z_ne a636 a563 rfl)
              have a638 : f1 wk2 = some (.inl (cy 0, 40, .inl gx2)) := k4 _ _ x_wk2 (z_ne x_wk2 x_o rfl)
              have a639 : f5 wk2 = some (.inl (cy 0, 40, .inl gx2)) := k7 _ _ a638 
              have a640 : f293 wk2 = some (.inl (cy 0, 40, .inl gx2)) := k295 _ _ a639 
              have a641 : f380 wk2 = some (.inl (cy 0, 40, .inl gx2)) := k382 _ _ a640 
              have a642 : f564 wk2 = some (.inl (cy 0, 40, .inl gx2)) := k568 _ _ a641 (z_ne a641 a559 rfl) (z_ne a641 a563 rfl)
              have a643 : f1 wk3 = some (.inl (cy 0, 40, .inl gx3)) := k4 _ _ x_wk3 (z_ne x_wk3 x_o rfl)
              have a644 : f5 wk3 = some (.inl (cy 0, 40, .inl gx3)) := k7 _ _ a643 
              have a645 : f293 wk3 = some (.inl (cy 0, 40, .inl gx3)) := k295 _ _ a644 
              have a646 : f380 wk3 = some (.inl (cy 0, 40, .inl gx3)) := k382 _ _ a645 
              have a647 : f564 wk3 = some (.inl (cy 0, 40, .inl gx3)) := k568 _ _ a646 (z_ne a646 a559 rfl) (z_ne a646 a563 rfl)
              have hq : q_set nn gk ln gw x y z = ((-4), 2, (-1), 0) := by simp [q_set, oF_m1 nn, hFa, hIa, hNa, hOb, hNb, hIb, hPa, c8, c9, c296, c301, c375, c376, c383]
              exact z_iret C hr rfl hz hS ⟨2, (-1), 0, nl, nn, nf, nc, lk, ks, (upd gv 2 (gv 2 + 1)), gu, gk, gm, gc, gw, gl, gh, gt, gy, gq, ge1, gn1, gp1, gs, gx1, gx2, gx3, ln, fz, sq, (by rw [hq]), (by rw [hq]), (by rw [hq]), (by rw [hq]), (by rw [hq]; exact (zEV2 gv).symm), rfl, rfl, rfl, rfl, rfl, rfl, rfl, (by rw [if_neg (by decide)]), rfl, rfl, rfl, rfl, rfl, rfl, rfl, rfl, rfl, rfl, rfl, rfl, rfl, ⟨a566, a567, a573, a575, a577, a582, a587, a592, a597, a602, a607, a612, a617, a622, a627, a632, a637, a642, a647, hn60, hl12, hf6, hc60, hs40, hMP, hgy, hfz, hgs, hME, hlk, hgw, hfd, n_wki_wmy, n_wki_wiw, n_wki_wli, n_wki_wha, n_wki_wem, n_wki_wna, n_wki_wpl, n_wmy_wiw, n_wmy_wli, n_wmy_wha, n_wmy_wem, n_wmy_wna, n_wmy_wpl, n_wiw_wli, n_wiw_wha, n_wiw_wem, n_wiw_wna, n_wiw_wpl, n_wli_wha, n_wli_wem, n_wli_wna, n_wli_wpl, n_wha_wem, n_wha_wna, n_wha_wpl, n_wem_wna, n_wem_wpl, n_wna_wpl, n_wk1_wk2, n_wk1_wk3, n_wk2_wk3⟩⟩ (Nat.le_of_ble_eq_true rfl) (Nat.le_of_ble_eq_true rfl) dX8_set_88
          · refine lv_aload_n hx hb dX8_set_54 rfl (lv_at hl 0 rfl) ?_
            refine z_get (v := .ref wki) C hz a297 zl8 mFX8_20 (by decide) rfl dX8_set_55 ?_
            refine lv_iload_n hx hb dX8_set_58 rfl (lv_at hl 3 rfl) ?_
            refine z_iald jb C hz a300 hvb (by omega) (by omega) dX8_set_59 ?_
            refine lv_iconst (v := 2) hx hb dX8_set_60 (by decide) ?_
            refine lv_icmp_eq (tgt := 72) hx hb dX8_set_61 (by decide) (fun c648 => ?_) (fun c648 => ?_)
            · refine lv_aload_n hx hb dX8_set_72 rfl (lv_at hl 0 rfl) ?_
              refine lv_iload_n hx hb dX8_set_73 rfl (lv_at hl 1 rfl) ?_
              refine lv_iload_n hx hb dX8_set_74 rfl (lv_at hl 2 rfl) ?_
              have a649 : f1 wmy = some (.inl (cy 0, 60, .inl gm)) := k4 _ _ x_wmy (z_ne x_wmy x_o rfl)
              have a650 : f5 wmy = some (.inl (cy 0, 60, .inl gm)) := k7 _ _ a649 
              have a651 : f293 wmy = some (.inl (cy 0, 60, .inl gm)) := k295 _ _ a650 
              refine z_callVi (As := [.int x, .int y]) C hz hS hA hl (k_X8_hasPlace l D cy f293 o wev wnb wki wmy wce wiw wli wha wwt wfy wfk wem wna wpl whs wk1 wk2 wk3 0 (-1) 0 nl nn nf nc lk ks gm x y ja (ln ja) a297 a651 hva (by omega) (hMP ja (by omega)).1) zyX8_hasPlace mMX8_145 a297 zl8 rfl rfl (Nat.le_of_ble_eq_true rfl) ⟨Nat.le_of_ble_eq_true rfl, Nat.le_of_ble_eq_true rfl⟩ ⟨Nat.le_of_ble_eq_true rfl, Nat.le_of_ble_eq_true rfl⟩ dX8_set_75 (fun r f652 H locs h653 hz hS => ?_)
              obtain ⟨rfl, k654⟩ := h653
              refine lv_if_ne (tgt := 89) hx hb dX8_set_78 (by decide) (fun c655 => ?_) (fun c655 => ?_)
              · have hPa : isP (ln ja) y = true := isP_t c655
                obtain ⟨kx, hyk, hkx⟩ := z_place (by have h9 := (hMP ja (by omega)).2.1; omega) c655
                have hIy : fI y = kx := fI_of (by have h9 := (hMP ja (by omega)).2.1; omega) hyk
                refine lv_aload_n hx hb dX8_set_89 rfl (lv_at hl 0 rfl) ?_
                have a656 : f652 o = some (.inr (8, [.int 0, .int (-1), .int 0, .ref wev, .int (nI nl), .ref wnb, .int (nI nn), .ref wki, .ref wmy, .ref wce, .ref wiw, .ref wli, .ref wha, .ref wwt, .int (nI nf), .ref wfy, .ref wfk, .int (nI nc), .ref wem, .ref wna, .ref wpl, .ref whs, .long lk, .int (nI ks), .ref wk1, .ref wk2, .ref wk3])) := k654 _ _ a297 
                refine z_get (v := .ref wiw) C hz a656 zl8 mFX8_30 (by decide) rfl dX8_set_90 ?_
                refine lv_iload_n hx hb dX8_set_93 rfl (lv_at hl 1 rfl) ?_
                have a657 : f1 wiw = some (.inl (cy 2, 60, .inl gw)) := k4 _ _ x_wiw (z_ne x_wiw x_o rfl)
                have a658 : f5 wiw = some (.inl (cy 2, 60, .inl gw)) := k7 _ _ a657 
                have a659 : f293 wiw = some (.inl (cy 2, 60, .inl gw)) := k295 _ _ a658 
                have a660 : f652 wiw = some (.inl (cy 2, 60, .inl gw)) := k654 _ _ a659 
                refine z_zald ja C hz a660 hva (by omega) (by omega) dX8_set_94 ?_
                refine lv_if_eq (tgt := 121) hx hb dX8_set_95 (by decide) (fun c661 => ?_) (fun c661 => ?_)
                · refine lv_aload_n hx hb dX8_set_121 rfl (lv_at hl 0 rfl) ?_
                  refine z_get (v := .ref wce) C hz a656 zl8 mFX8_26 (by decide) rfl dX8_set_122 ?_
                  refine lv_bipush (v := 16) hx hb dX8_set_125 (by decide) ?_
                  refine lv_iload_n hx hb dX8_set_127 rfl (lv_at hl 1 rfl) ?_
                  refine lv_imul hx hb dX8_set_128 ?_
                  refine lv_iconst (v := 1) hx hb dX8_set_129 (by decide) ?_
                  refine lv_iadd hx hb dX8_set_130 ?_
                  refine lv_iload_n hx hb dX8_set_131 rfl (lv_at hl 2 rfl) ?_
                  refine lv_iadd hx hb dX8_set_132 ?_
                  refine lv_iload_n hx hb dX8_set_133 rfl (lv_at hl 3 rfl) ?_
                  refine lv_i2l (v := z.toInt64) hx hb dX8_set_134 rfl ?_
                  have a662 : f1 wce = some (.inl (cy 1, 960, .inr (.inl gc))) := k4 _ _ x_wce (z_ne x_wce x_o rfl)
                  have a663 : f5 wce = some (.inl (cy 1, 960, .inr (.inl gc))) := k7 _ _ a662 
                  have a664 : f293 wce = some (.inl (cy 1, 960, .inr (.inl gc))) := k295 _ _ a663 
                  have a665 : f652 wce = some (.inl (cy 1, 960, .inr (.inl gc))) := k654 _ _ a664 
                  refine z_last (16 * ja + 1 + kx) C hz hS a665 (by rw [hva, hyk]; exact z_ce1 ja kx) (by have h9 := (hMP ja (by omega)).2.1; omega) (by omega) dX8_set_135 (fun H locs f666 a667 k668 hz hS => ?_)
                  refine lv_iconst (v := 1) hx hb dX8_set_136 (by decide) ?_
                  have a669 : f666 o = some (.inr (8, [.int 0, .int (-1), .int 0, .ref wev, .int (nI nl), .ref wnb, .int (nI nn), .ref wki, .ref wmy, .ref wce, .ref wiw, .ref wli, .ref wha, .ref wwt, .int (nI nf), .ref wfy, .ref wfk, .int (nI nc), .ref wem, .ref wna, .ref wpl, .ref whs, .long lk, .int (nI ks), .ref wk1, .ref wk2, .ref wk3])) := (k668 _ (z_ne a656 a665 rfl)).trans a656
                  have a670 : f1 wev = some (.inl (cy 0, 8, .inl gv)) := k4 _ _ x_wev (z_ne x_wev x_o rfl)
                  have a671 : f5 wev = some (.inl (cy 0, 8, .inl gv)) := k7 _ _ a670 
                  have a672 : f293 wev = some (.inl (cy 0, 8, .inl gv)) := k295 _ _ a671 
                  have a673 : f652 wev = some (.inl (cy 0, 8, .inl gv)) := k654 _ _ a672 
                  have a674 : f666 wev = some (.inl (cy 0, 8, .inl gv)) := (k668 _ (z_ne a673 a665 rfl)).trans a673
                  have a675 : f1 wnb = some (.inl (cy 0, 12, .inl gu)) := k4 _ _ x_wnb (z_ne x_wnb x_o rfl)
                  have a676 : f5 wnb = some (.inl (cy 0, 12, .inl gu)) := k7 _ _ a675 
                  have a677 : f293 wnb = some (.inl (cy 0, 12, .inl gu)) := k295 _ _ a676 
                  have a678 : f652 wnb = some (.inl (cy 0, 12, .inl gu)) := k654 _ _ a677 
                  have a679 : f666 wnb = some (.inl (cy 0, 12, .inl gu)) := (k668 _ (z_ne a678 a665 rfl)).trans a678
                  have a680 : f652 wki = some (.inl (cy 0, 60, .inl gk)) := k654 _ _ a300 
                  have a681 : f666 wki = some (.inl (cy 0, 60, .inl gk)) := (k668 _ (z_ne a680 a665 rfl)).trans a680
                  have a682 : f652 wmy = some (.inl (cy 0, 60, .inl gm)) := k654 _ _ a651 
                  have a683 : f666 wmy = some (.inl (cy 0, 60, .inl gm)) := (k668 _ (z_ne a682 a665 rfl)).trans a682
                  have a684 : f666 wiw = some (.inl (cy 2, 60, .inl gw)) := (k668 _ (z_ne a660 a665 rfl)).trans a660
                  have a685 : f1 wli = some (.inl (cy 0, 60, .inl gl)) := k4 _ _ x_wli (z_ne x_wli x_o rfl)
                  have a686 : f5 wli = some (.inl (cy 0, 60, .inl gl)) := k7 _ _ a685 
                  have a687 : f293 wli = some (.inl (cy 0, 60, .inl gl)) := k295 _ _ a686 
                  have a688 : f652 wli = some (.inl (cy 0, 60, .inl gl)) := k654 _ _ a687 
                  have a689 : f666 wli = some (.inl (cy 0, 60, .inl gl)) := (k668 _ (z_ne a688 a665 rfl)).trans a688
                  have a690 : f1 wha = some (.inl (cy 0, 60, .inl gh)) := k4 _ _ x_wha (z_ne x_wha x_o rfl)
                  have a691 : f5 wha = some (.inl (cy 0, 60, .inl gh)) := k7 _ _ a690 
                  have a692 : f293 wha = some (.inl (cy 0, 60, .inl gh)) := k295 _ _ a691 
                  have a693 : f652 wha = some (.inl (cy 0, 60, .inl gh)) := k654 _ _ a692 
                  have a694 : f666 wha = some (.inl (cy 0, 60, .inl gh)) := (k668 _ (z_ne a693 a665 rfl)).trans a693
                  have a695 : f1 wwt = some (.inl (cy 1, 60, .inr (.inl gt))) := k4 _ _ x_wwt (z_ne x_wwt x_o rfl)
                  have a696 : f5 wwt = some (.inl (cy 1, 60, .inr (.inl gt))) := k7 _ _ a695 
                  have a697 : f293 wwt = some (.inl (cy 1, 60, .inr (.inl gt))) := k295 _ _ a696 
                  have a698 : f652 wwt = some (.inl (cy 1, 60, .inr (.inl gt))) := k654 _ _ a697 
                  have a699 : f666 wwt = some (.inl (cy 1, 60, .inr (.inl gt))) := (k668 _ (z_ne a698 a665 rfl)).trans a698
                  have a700 : f1 wfy = some (.inl (cy 0, 6, .inl gy)) := k4 _ _ x_wfy (z_ne x_wfy x_o rfl)
                  have a701 : f5 wfy = some (.inl (cy 0, 6, .inl gy)) := k7 _ _ a700 
                  have a702 : f293 wfy = some (.inl (cy 0, 6, .inl gy)) := k295 _ _ a701 
                  have a703 : f652 wfy = some (.inl (cy 0, 6, .inl gy)) := k654 _ _ a702 
                  have a704 : f666 wfy = some (.inl (cy 0, 6, .inl gy)) := (k668 _ (z_ne a703 a665 rfl)).trans a703
                  have a705 : f1 wfk = some (.inl (cy 0, 24, .inl gq)) := k4 _ _ x_wfk (z_ne x_wfk x_o rfl)
                  have a706 : f5 wfk = some (.inl (cy 0, 24, .inl gq)) := k7 _ _ a705 
                  have a707 : f293 wfk = some (.inl (cy 0, 24, .inl gq)) := k295 _ _ a706 
                  have a708 : f652 wfk = some (.inl (cy 0, 24, .inl gq)) := k654 _ _ a707 
                  have a709 : f666 wfk = some (.inl (cy 0, 24, .inl gq)) := (k668 _ (z_ne a708 a665 rfl)).trans a708
                  have a710 : f1 wem = some (.inl (cy 0, 60, .inl ge1)) := k4 _ _ x_wem (z_ne x_wem x_o rfl)
                  have a711 : f5 wem = some (.inl (cy 0, 60, .inl ge1)) := k7 _ _ a710 
                  have a712 : f293 wem = some (.inl (cy 0, 60, .inl ge1)) := k295 _ _ a711 
                  have a713 : f652 wem = some (.inl (cy 0, 60, .inl ge1)) := k654 _ _ a712 
                  have a714 : f666 wem = some (.inl (cy 0, 60, .inl ge1)) := (k668 _ (z_ne a713 a665 rfl)).trans a713
                  have a715 : f1 wna = some (.inl (cy 0, 60, .inl gn1)) := k4 _ _ x_wna (z_ne x_wna x_o rfl)
                  have a716 : f5 wna = some (.inl (cy 0, 60, .inl gn1)) := k7 _ _ a715 
                  have a717 : f293 wna = some (.inl (cy 0, 60, .inl gn1)) := k295 _ _ a716 
                  have a718 : f652 wna = some (.inl (cy 0, 60, .inl gn1)) := k654 _ _ a717 
                  have a719 : f666 wna = some (.inl (cy 0, 60, .inl gn1)) := (k668 _ (z_ne a718 a665 rfl)).trans a718
                  have a720 : f1 wpl = some (.inl (cy 0, 60, .inl gp1)) := k4 _ _ x_wpl (z_ne x_wpl x_o rfl)
                  have a721 : f5 wpl = some (.inl (cy 0, 60, .inl gp1)) := k7 _ _ a720 
                  have a722 : f293 wpl = some (.inl (cy 0, 60, .inl gp1)) := k295 _ _ a721 
                  have a723 : f652 wpl = some (.inl (cy 0, 60, .inl gp1)) := k654 _ _ a722 
                  have a724 : f666 wpl = some (.inl (cy 0, 60, .inl gp1)) := (k668 _ (z_ne a723 a665 rfl)).trans a723
                  have a725 : f1 whs = some (.inl (cy 0, 4, .inl gs)) := k4 _ _ x_whs (z_ne x_whs x_o rfl)
                  have a726 : f5 whs = some (.inl (cy 0, 4, .inl gs)) := k7 _ _ a725 
                  have a727 : f293 whs = some (.inl (cy 0, 4, .inl gs)) := k295 _ _ a726 
                  have a728 : f652 whs = some (.inl (cy 0, 4, .inl gs)) := k654 _ _ a727 
                  have a729 : f666 whs = some (.inl (cy 0, 4, .inl gs)) := (k668 _ (z_ne a728 a665 rfl)).trans a728
                  have a730 : f1 wk1 = some (.inl (cy 0, 40, .inl gx1)) := k4 _ _ x_wk1 (z_ne x_wk1 x_o rfl)
                  have a731 : f5 wk1 = some (.inl (cy 0, 40, .inl gx1)) := k7 _ _ a730 
                  have a732 : f293 wk1 = some (.inl (cy 0, 40, .inl gx1)) := k295 _ _ a731 
                  have a733 : f652 wk1 = some (.inl (cy 0, 40, .inl gx1)) := k654 _ _ a732 
                  have a734 : f666 wk1 = some (.inl (cy 0, 40, .inl gx1)) := (k668 _ (z_ne a733 a665 rfl)).trans a733
                  have a735 : f1 wk2 = some (.inl (cy 0, 40, .inl gx2)) := k4 _ _ x_wk2 (z_ne x_wk2 x_o rfl)
                  have a736 : f5 wk2 = some (.inl (cy 0, 40, .inl gx2)) := k7 _ _ a735 
                  have a737 : f293 wk2 = some (.inl (cy 0, 40, .inl gx2)) := k295 _ _ a736 
                  have a738 : f652 wk2 = some (.inl (cy 0, 40, .inl gx2)) := k654 _ _ a737 
                  have a739 : f666 wk2 = some (.inl (cy 0, 40, .inl gx2)) := (k668 _ (z_ne a738 a665 rfl)).trans a738
                  have a740 : f1 wk3 = some (.inl (cy 0, 40, .inl gx3)) := k4 _ _ x_wk3 (z_ne x_wk3 x_o rfl)
                  have a741 : f5 wk3 = some (.inl (cy 0, 40, .inl gx3)) := k7 _ _ a740 
                  have a742 : f293 wk3 = some (.inl (cy 0, 40, .inl gx3)) := k295 _ _ a741 
                  have a743 : f652 wk3 = some (.inl (cy 0, 40, .inl gx3)) := k654 _ _ a742 
                  have a744 : f666 wk3 = some (.inl (cy 0, 40, .inl gx3)) := (k668 _ (z_ne a743 a665 rfl)).trans a743
                  have hq : q_set nn gk ln gw x y z = (1, 0, (-1), 0) := by simp [q_set, oF_m1 nn, hFa, hIa, hNa, hOb, hNb, hIb, hPa, hIy, c8, c9, c296, c301, c375, c376, c648, c655, c661]
                  exact z_iret C hr rfl hz hS ⟨0, (-1), 0, nl, nn, nf, nc, lk, ks, gv, gu, gk, gm, (vp_updL gc (16 * ja + 1 + kx) z.toInt64), gw, gl, gh, gt, gy, gq, ge1, gn1, gp1, gs, gx1, gx2, gx3, ln, fz, sq, (by rw [hq]), (by rw [hq]), (by rw [hq]), (by rw [hq]), (by rw [hq]; exact (zEV0 gv).symm), rfl, rfl, rfl, rfl, rfl, rfl, rfl, (by rw [if_pos rfl, hIa, hIy]), rfl, rfl, rfl, rfl, rfl, rfl, rfl, rfl, rfl, rfl, rfl, rfl, rfl, ⟨a669, a674, a679, a681, a683, a667, a684, a689, a694, a699, a704, a709, a714, a719, a724, a729, a734, a739, a744, hn60, hl12, hf6, hc60, hs40, (zMP_set hMP hk6 (by have h9 := (hMP ja (by omega)).2.1; omega)), hgy, hfz, hgs, hME, hlk, hgw, hfd, n_wki_wmy, n_wki_wiw, n_wki_wli, n_wki_wha, n_wki_wem, n_wki_wna, n_wki_wpl, n_wmy_wiw, n_wmy_wli, n_wmy_wha, n_wmy_wem, n_wmy_wna, n_wmy_wpl, n_wiw_wli, n_wiw_wha, n_wiw_wem, n_wiw_wna, n_wiw_wpl, n_wli_wha, n_wli_wem, n_wli_wna, n_wli_wpl, n_wha_wem, n_wha_wna, n_wha_wpl, n_wem_wna, n_wem_wpl, n_wna_wpl, n_wk1_wk2, n_wk1_wk3, n_wk2_wk3⟩⟩ (Nat.le_of_ble_eq_true rfl) (Nat.le_of_ble_eq_true rfl) dX8_set_137
                · refine lv_iload_n hx hb dX8_set_98 rfl (lv_at hl 3 rfl) ?_
                  refine lv_iconst (v := (-1)) hx hb dX8_set_99 (by decide) ?_
                  refine lv_icmp_eq (tgt := 121) hx hb dX8_set_100 (by decide) (fun c745 => ?_) (fun c745 => ?_)
                  · exact absurd c745 (by rw [hvb]; exact z_nim1 (by omega))
                  refine lv_aload_n hx hb dX8_set_103 rfl (lv_at hl 0 rfl) ?_
                  refine z_get (v := .ref wki) C hz a656 zl8 mFX8_20 (by decide) rfl dX8_set_104 ?_
                  refine lv_iload_n hx hb dX8_set_107 rfl (lv_at hl 3 rfl) ?_
                  have a746 : f652 wki = some (.inl (cy 0, 60, .inl gk)) := k654 _ _ a300 
                  refine z_iald jb C hz a746 hvb (by omega) (by omega) dX8_set_108 ?_
                  refine lv_iconst (v := 2) hx hb dX8_set_109 (by decide) ?_
                  refine lv_icmp_eq (tgt := 121) hx hb dX8_set_110 (by decide) (fun c747 => ?_) (fun c747 => ?_)
                  rotate_left
                  · exact absurd c648 c747
                  refine lv_aload_n hx hb dX8_set_121 rfl (lv_at hl 0 rfl) ?_
                  refine z_get (v := .ref wce) C hz a656 zl8 mFX8_26 (by decide) rfl dX8_set_122 ?_
                  refine lv_bipush (v := 16) hx hb dX8_set_125 (by decide) ?_
                  refine lv_iload_n hx hb dX8_set_127 rfl (lv_at hl 1 rfl) ?_
                  refine lv_imul hx hb dX8_set_128 ?_
                  refine lv_iconst (v := 1) hx hb dX8_set_129 (by decide) ?_
                  refine lv_iadd hx hb dX8_set_130 ?_
                  refine lv_iload_n hx hb dX8_set_131 rfl (lv_at hl 2 rfl) ?_
                  refine lv_iadd hx hb dX8_set_132 ?_
                  refine lv_iload_n hx hb dX8_set_133 rfl (lv_at hl 3 rfl) ?_
                  refine lv_i2l (v := z.toInt64) hx hb dX8_set_134 rfl ?_
                  have a748 : f1 wce = some (.inl (cy 1, 960, .inr (.inl gc))) := k4 _ _ x_wce (z_ne x_wce x_o rfl)
                  have a749 : f5 wce = some (.inl (cy 1, 960, .inr (.inl gc))) := k7 _ _ a748 
                  have a750 : f293 wce = some (.inl (cy 1, 960, .inr (.inl gc))) := k295 _ _ a749 
                  have a751 : f652 wce = some (.inl (cy 1, 960, .inr (.inl gc))) := k654 _ _ a750 
                  refine z_last (16 * ja + 1 + kx) C hz hS a751 (by rw [hva, hyk]; exact z_ce1 ja kx) (by have h9 := (hMP ja (by omega)).2.1; omega) (by omega) dX8_set_135 (fun H locs f752 a753 k754 hz hS => ?_)
                  refine lv_iconst (v := 1) hx hb dX8_set_136 (by decide) ?_
                  have a755 : f752 o = some (.inr (8, [.int 0, .int (-1), .int 0, .ref wev, .int (nI nl), .ref wnb, .int (nI nn), .ref wki, .ref wmy, .ref wce, .ref wiw, .ref wli, .ref wha, .ref wwt, .int (nI nf), .ref wfy, .ref wfk, .int (nI nc), .ref wem, .ref wna, .ref wpl, .ref whs, .long lk, .int (nI ks), .ref wk1, .ref wk2, .ref wk3])) := (k754 _ (z_ne a656 a751 rfl)).trans a656
                  have a756 : f1 wev = some (.inl (cy 0, 8, .inl gv)) := k4 _ _ x_wev (z_ne x_wev x_o rfl)
                  have a757 : f5 wev = some (.inl (cy 0, 8, .inl gv)) := k7 _ _ a756 
                  have a758 : f293 wev = some (.inl (cy 0, 8, .inl gv)) := k295 _ _ a757 
                  have a759 : f652 wev = some (.inl (cy 0, 8, .inl gv)) := k654 _ _ a758 
                  have a760 : f752 wev = some (.inl (cy 0, 8, .inl gv)) := (k754 _ (z_ne a759 a751 rfl)).trans a759
                  have a761 : f1 wnb = some (.inl (cy 0, 12, .inl gu)) := k4 _ _ x_wnb (z_ne x_wnb x_o rfl)
                  have a762 : f5 wnb = some (.inl (cy 0, 12, .inl gu)) := k7 _ _ a761 
                  have a763 : f293 wnb = some (.inl (cy 0, 12, .inl gu)) := k295 _ _ a762 
                  have a764 : f652 wnb = some (.inl (cy 0, 12, .inl gu)) := k654 _ _ a763 
                  have a765 : f752 wnb = some (.inl (cy 0, 12, .inl gu)) := (k754 _ (z_ne a764 a751 rfl)).trans a764
                  have a766 : f752 wki = some (.inl (cy 0, 60, .inl gk)) := (k754 _ (z_ne a746 a751 rfl)).trans a746
                  have a767 : f652 wmy = some (.inl (cy 0, 60, .inl gm)) := k654 _ _ a651 
                  have a768 : f752 wmy = some (.inl (cy 0, 60, .inl gm)) := (k754 _ (z_ne a767 a751 rfl)).trans a767
                  have a769 : f752 wiw = some (.inl (cy 2, 60, .inl gw)) := (k754 _ (z_ne a660 a751 rfl)).trans a660
                  have a770 : f1 wli = some (.inl (cy 0, 60, .inl gl)) := k4 _ _ x_wli (z_ne x_wli x_o rfl)
                  have a771 : f5 wli = some (.inl (cy 0, 60, .inl gl)) := k7 _ _ a770 
                  have a772 : f293 wli = some (.inl (cy 0, 60, .inl gl)) := k295 _ _ a771 
                  have a773 : f652 wli = some (.inl (cy 0, 60, .inl gl)) := k654 _ _ a772 
                  have a774 : f752 wli = some (.inl (cy 0, 60, .inl gl)) := (k754 _ (z_ne a773 a751 rfl)).trans a773
                  have a775 : f1 wha = some (.inl (cy 0, 60, .inl gh)) := k4 _ _ x_wha (z_ne x_wha x_o rfl)
                  have a776 : f5 wha = some (.inl (cy 0, 60, .inl gh)) := k7 _ _ a775 
                  have a777 : f293 wha = some (.inl (cy 0, 60, .inl gh)) := k295 _ _ a776 
                  have a778 : f652 wha = some (.inl (cy 0, 60, .inl gh)) := k654 _ _ a777 
                  have a779 : f752 wha = some (.inl (cy 0, 60, .inl gh)) := (k754 _ (z_ne a778 a751 rfl)).trans a778
                  have a780 : f1 wwt = some (.inl (cy 1, 60, .inr (.inl gt))) := k4 _ _ x_wwt (z_ne x_wwt x_o rfl)
                  have a781 : f5 wwt = some (.inl (cy 1, 60, .inr (.inl gt))) := k7 _ _ a780 
                  have a782 : f293 wwt = some (.inl (cy 1, 60, .inr (.inl gt))) := k295 _ _ a781 
                  have a783 : f652 wwt = some (.inl (cy 1, 60, .inr (.inl gt))) := k654 _ _ a782 
                  have a784 : f752 wwt = some (.inl (cy 1, 60, .inr (.inl gt))) := (k754 _ (z_ne a783 a751 rfl)).trans a783
                  have a785 : f1 wfy = some (.inl (cy 0, 6, .inl gy)) := k4 _ _ x_wfy (z_ne x_wfy x_o rfl)
                  have a786 : f5 wfy = some (.inl (cy 0, 6, .inl gy)) := k7 _ _ a785 
                  have a787 : f293 wfy = some (.inl (cy 0, 6, .inl gy)) := k295 _ _ a786 
                  have a788 : f652 wfy = some (.inl (cy 0, 6, .inl gy)) := k654 _ _ a787 
                  have a789 : f752 wfy = some (.inl (cy 0, 6, .inl gy)) := (k754 _ (z_ne a788 a751 rfl)).trans a788
                  have a790 : f1 wfk = some (.inl (cy 0, 24, .inl gq)) := k4 _ _ x_wfk (z_ne x_wfk x_o rfl)
                  have a791 : f5 wfk = some (.inl (cy 0, 24, .inl gq)) := k7 _ _ a790 
                  have a792 : f293 wfk = some (.inl (cy 0, 24, .inl gq)) := k295 _ _ a791 
                  have a793 : f652 wfk = some (.inl (cy 0, 24, .inl gq)) := k654 _ _ a792 
                  have a794 : f752 wfk = some (.inl (cy 0, 24, .inl gq)) := (k754 _ (z_ne a793 a751 rfl)).trans a793
                  have a795 : f1 wem = some (.inl (cy 0, 60, .inl ge1)) := k4 _ _ x_wem (z_ne x_wem x_o rfl)
                  have a796 : f5 wem = some (.inl (cy 0, 60, .inl ge1)) := k7 _ _ a795 
                  have a797 : f293 wem = some (.inl (cy 0, 60, .inl ge1)) := k295 _ _ a796 
                  have a798 : f652 wem = some (.inl (cy 0, 60, .inl ge1)) := k654 _ _ a797 
                  have a799 : f752 wem = some (.inl (cy 0, 60, .inl ge1)) := (k754 _ (z_ne a798 a751 rfl)).trans a798
                  have a800 : f1 wna = some (.inl (cy 0, 60, .inl gn1)) := k4 _ _ x_wna (z_ne x_wna x_o rfl)
                  have a801 : f5 wna = some (.inl (cy 0, 60, .inl gn1)) := k7 _ _ a800 
                  have a802 : f293 wna = some (.inl (cy 0, 60, .inl gn1)) := k295 _ _ a801 
                  have a803 : f652 wna = some (.inl (cy 0, 60, .inl gn1)) := k654 _ _ a802 
                  have a804 : f752 wna = some (.inl (cy 0, 60, .inl gn1)) := (k754 _ (z_ne a803 a751 rfl)).trans a803
                  have a805 : f1 wpl = some (.inl (cy 0, 60, .inl gp1)) := k4 _ _ x_wpl (z_ne x_wpl x_o rfl)
                  have a806 : f5 wpl = some (.inl (cy 0, 60, .inl gp1)) := k7 _ _ a805 
                  have a807 : f293 wpl = some (.inl (cy 0, 60, .inl gp1)) := k295 _ _ a806 
                  have a808 : f652 wpl = some (.inl (cy 0, 60, .inl gp1)) := k654 _ _ a807 
                  have a809 : f752 wpl = some (.inl (cy 0, 60, .inl gp1)) := (k754 _ (z_ne a808 a751 rfl)).trans a808
                  have a810 : f1 whs = some (.inl (cy 0, 4, .inl gs)) := k4 _ _ x_whs (z_ne x_whs x_o rfl)
                  have a811 : f5 whs = some (.inl (cy 0, 4, .inl gs)) := k7 _ _ a810 
                  have a812 : f293 whs = some (.inl (cy 0, 4, .inl gs)) := k295 _ _ a811 
                  have a813 : f652 whs = some (.inl (cy 0, 4, .inl gs)) := k654 _ _ a812 
                  have a814 : f752 whs = some (.inl (cy 0, 4, .inl gs)) := (k754 _ (z_ne a813 a751 rfl)).trans a813
                  have a815 : f1 wk1 = some (.inl (cy 0, 40, .inl gx1)) := k4 _ _ x_wk1 (z_ne x_wk1 x_o rfl)
                  have a816 : f5 wk1 = some (.inl (cy 0, 40, .inl gx1)) := k7 _ _ a815 
                  have a817 : f293 wk1 = some (.inl (cy 0, 40, .inl gx1)) := k295 _ _ a816 
                  have a818 : f652 wk1 = some (.inl (cy 0, 40, .inl gx1)) := k654 _ _ a817 
                  have a819 : f752 wk1 = some (.inl (cy 0, 40, .inl gx1)) := (k754 _ (z_ne a818 a751 rfl)).trans a818
                  have a820 : f1 wk2 = some (.inl (cy 0, 40, .inl gx2)) := k4 _ _ x_wk2 (z_ne x_wk2 x_o rfl)
                  have a821 : f5 wk2 = some (.inl (cy 0, 40, .inl gx2)) := k7 _ _ a820 
                  have a822 : f293 wk2 = some (.inl (cy 0, 40, .inl gx2)) := k295 _ _ a821 
                  have a823 : f652 wk2 = some (.inl (cy 0, 40, .inl gx2)) := k654 _ _ a822 
                  have a824 : f752 wk2 = some (.inl (cy 0, 40, .inl gx2)) := (k754 _ (z_ne a823 a751 rfl)).trans a823
                  have a825 : f1 wk3 = some (.inl (cy 0, 40, .inl gx3)) := k4 _ _ x_wk3 (z_ne x_wk3 x_o rfl)
                  have a826 : f5 wk3 = some (.inl (cy 0, 40, .inl gx3)) := k7 _ _ a825 
                  have a827 : f293 wk3 = some (.inl (cy 0, 40, .inl gx3)) := k295 _ _ a826 
                  have a828 : f652 wk3 = some (.inl (cy 0, 40, .inl gx3)) := k654 _ _ a827 
                  have a829 : f752 wk3 = some (.inl (cy 0, 40, .inl gx3)) := (k754 _ (z_ne a828 a751 rfl)).trans a828
                  have hq : q_set nn gk ln gw x y z = (1, 0, (-1), 0) := by simp [q_set, oF_m1 nn, hFa, hIa, hNa, hOb, hNb, hIb, hPa, hIy, c8, c9, c296, c301, c375, c376, c648, c655, c661, c745, c747]
                  exact z_iret C hr rfl hz hS ⟨0, (-1), 0, nl, nn, nf, nc, lk, ks, gv, gu, gk, gm, (vp_updL gc (16 * ja + 1 + kx) z.toInt64), gw, gl, gh, gt, gy, gq, ge1, gn1, gp1, gs, gx1, gx2, gx3, ln, fz, sq, (by rw [hq]), (by rw [hq]), (by rw [hq]), (by rw [hq]), (by rw [hq]; exact (zEV0 gv).symm), rfl, rfl, rfl, rfl, rfl, rfl, rfl, (by rw [if_pos rfl, hIa, hIy]), rfl, rfl, rfl, rfl, rfl, rfl, rfl, rfl, rfl, rfl, rfl, rfl, rfl, ⟨a755, a760, a765, a766, a768, a753, a769, a774, a779, a784, a789, a794, a799, a804, a809, a814, a819, a824, a829, hn60, hl12, hf6, hc60, hs40, (zMP_set hMP hk6 (by have h9 := (hMP ja (by omega)).2.1; omega)), hgy, hfz, hgs, hME, hlk, hgw, hfd, n_wki_wmy, n_wki_wiw, n_wki_wli, n_wki_wha, n_wki_wem, n_wki_wna, n_wki_wpl, n_wmy_wiw, n_wmy_wli, n_wmy_wha, n_wmy_wem, n_wmy_wna, n_wmy_wpl, n_wiw_wli, n_wiw_wha, n_wiw_wem, n_wiw_wna, n_wiw_wpl, n_wli_wha, n_wli_wem, n_wli_wna, n_wli_wpl, n_wha_wem, n_wha_wna, n_wha_wpl, n_wem_wna, n_wem_wpl, n_wna_wpl, n_wk1_wk2, n_wk1_wk3, n_wk2_wk3⟩⟩ (Nat.le_of_ble_eq_true rfl) (Nat.le_of_ble_eq_true rfl) dX8_set_137
              · have hPa : isP (ln ja) y = false := isP_f c655
                refine lv_aload_n hx hb dX8_set_81 rfl (lv_at hl 0 rfl) ?_
                refine lv_iconst (v := 2) hx hb dX8_set_82 (by decide) ?_
                refine lv_iconst (v := (-1)) hx hb dX8_set_83 (by decide) ?_
                refine lv_iconst (v := 0) hx hb dX8_set_84 (by decide) ?_
                have a830 : f652 o = some (.inr (8, [.int 0, .int (-1), .int 0, .ref wev, .int (nI nl), .ref wnb, .int (nI nn), .ref wki, .ref wmy, .ref wce, .ref wiw, .ref wli, .ref wha, .ref wwt, .int (nI nf), .ref wfy, .ref wfk, .int (nI nc), .ref wem, .ref wna, .ref wpl, .ref whs, .long lk, .int (nI ks), .ref wk1, .ref wk2, .ref wk3])) := k654 _ _ a297 
                have a831 : f1 wev = some (.inl (cy 0, 8, .inl gv)) := k4 _ _ x_wev (z_ne x_wev x_o rfl)
                have a832 : f5 wev = some (.inl (cy 0, 8, .inl gv)) := k7 _ _ a831 
                have a833 : f293 wev = some (.inl (cy 0, 8, .inl gv)) := k295 _ _ a832 
                have a834 : f652 wev = some (.inl (cy 0, 8, .inl gv)) := k654 _ _ a833 
                refine z_callVi (As := [.int 2, .int (-1), .int 0]) C hz hS hA hl (k_X8_fails l D cy f652 o wev wnb wki wmy wce wiw wli wha wwt wfy wfk wem wna wpl whs wk1 wk2 wk3 0 (-1) 0 nl nn nf nc lk ks 2 (-1) 0 gv 2 a830 a834 (by decide) (Nat.le_of_ble_eq_true rfl)) zyX8_fails mMX8_135 a830 zl8 rfl rfl (Nat.le_of_ble_eq_true rfl) ⟨Nat.le_of_ble_eq_true rfl, Nat.le_of_ble_eq_true rfl⟩ ⟨Nat.le_of_ble_eq_true rfl, Nat.le_of_ble_eq_true rfl⟩ dX8_set_85 (fun r f835 H locs h836 hz hS => ?_)
                obtain ⟨rfl, a837, a838, k839⟩ := h836
                have a840 : f1 wnb = some (.inl (cy 0, 12, .inl gu)) := k4 _ _ x_wnb (z_ne x_wnb x_o rfl)
                have a841 : f5 wnb = some (.inl (cy 0, 12, .inl gu)) := k7 _ _ a840 
                have a842 : f293 wnb = some (.inl (cy 0, 12, .inl gu)) := k295 _ _ a841 
                have a843 : f652 wnb = some (.inl (cy 0, 12, .inl gu)) := k654 _ _ a842 
                have a844 : f835 wnb = some (.inl (cy 0, 12, .inl gu)) := k839 _ _ a843 (z_ne a843 a830 rfl) (z_ne a843 a834 rfl)
                have a845 : f652 wki = some (.inl (cy 0, 60, .inl gk)) := k654 _ _ a300 
                have a846 : f835 wki = some (.inl (cy 0, 60, .inl gk)) := k839 _ _ a845 (z_ne a845 a830 rfl) (z_ne a845 a834 rfl)
                have a847 : f652 wmy = some (.inl (cy 0, 60, .inl gm)) := k654 _ _ a651 
                have a848 : f835 wmy = some (.inl (cy 0, 60, .inl gm)) := k839 _ _ a847 (z_ne a847 a830 rfl) (z_ne a847 a834 rfl)
                have a849 : f1 wce = some (.inl (cy 1, 960, .inr (.inl gc))) := k4 _ _ x_wce (z_ne x_wce x_o rfl)
                have a850 : f5 wce = some (.inl (cy 1, 960, .inr (.inl gc))) := k7 _ _ a849 
                have a851 : f293 wce = some (.inl (cy 1, 960, .inr (.inl gc))) := k295 _ _ a850 
                have a852 : f652 wce = some (.inl (cy 1, 960, .inr (.inl gc))) := k654 _ _ a851 
                have a853 : f835 wce = some (.inl (cy 1, 960, .inr (.inl gc))) := k839 _ _ a852 (z_ne a852 a830 rfl) (z_ne a852 a834 rfl)
                have a854 : f1 wiw = some (.inl (cy 2, 60, .inl gw)) := k4 _ _ x_wiw (z_ne x_wiw x_o rfl)
                have a855 : f5 wiw = some (.inl (cy 2, 60, .inl gw)) := k7 _ _ a854 
                have a856 : f293 wiw = some (.inl (cy 2, 60, .inl gw)) := k295 _ _ a855 
                have a857 : f652 wiw = some (.inl (cy 2, 60, .inl gw)) := k654 _ _ a856 
                have a858 : f835 wiw = some (.inl (cy 2, 60, .inl gw)) := k839 _ _ a857 (z_ne a857 a830 rfl) (z_ne a857 a834 rfl)
                have a859 : f1 wli = some (.inl (cy 0, 60, .inl gl)) := k4 _ _ x_wli (z_ne x_wli x_o rfl)
                have a860 : f5 wli = some (.inl (cy 0, 60, .inl gl)) := k7 _ _ a859 
                have a861 : f293 wli = some (.inl (cy 0, 60, .inl gl)) := k295 _ _ a860 
                have a862 : f652 wli = some (.inl (cy 0, 60, .inl gl)) := k654 _ _ a861 
                have a863 : f835 wli = some (.inl (cy 0, 60, .inl gl)) := k839 _ _ a862 (z_ne a862 a830 rfl) (z_ne a862 a834 rfl)
                have a864 : f1 wha = some (.inl (cy 0, 60, .inl gh)) := k4 _ _ x_wha (z_ne x_wha x_o rfl)
                have a865 : f5 wha = some (.inl (cy 0, 60, .inl gh)) := k7 _ _ a864 
                have a866 : f293 wha = some (.inl (cy 0, 60, .inl gh)) := k295 _ _ a865 
                have a867 : f652 wha = some (.inl (cy 0, 60, .inl gh)) := k654 _ _ a866 
                have a868 : f835 wha = some (.inl (cy 0, 60, .inl gh)) := k839 _ _ a867 (z_ne a867 a830 rfl) (z_ne a867 a834 rfl)
                have a869 : f1 wwt = some (.inl (cy 1, 60, .inr (.inl gt))) := k4 _ _ x_wwt (z_ne x_wwt x_o rfl)
                have a870 : f5 wwt = some (.inl (cy 1, 60, .inr (.inl gt))) := k7 _ _ a869 
                have a871 : f293 wwt = some (.inl (cy 1, 60, .inr (.inl gt))) := k295 _ _ a870 
                have a872 : f652 wwt = some (.inl (cy 1, 60, .inr (.inl gt))) := k654 _ _ a871 
                have a873 : f835 wwt = some (.inl (cy 1, 60, .inr (.inl gt))) := k839 _ _ a872 (z_ne a872 a830 rfl) (z_ne a872 a834 rfl)
                have a874 : f1 wfy = some (.inl (cy 0, 6, .inl gy)) := k4 _ _ x_wfy (z_ne x_wfy x_o rfl)
                have a875 : f5 wfy = some (.inl (cy 0, 6, .inl gy)) := k7 _ _ a874 
                have a876 : f293 wfy = some (.inl (cy 0, 6, .inl gy)) := k295 _ _ a875 
                have a877 : f652 wfy = some (.inl (cy 0, 6, .inl gy)) := k654 _ _ a876 
                have a878 : f835 wfy = some (.inl (cy 0, 6, .inl gy)) := k839 _ _ a877 (z_ne a877 a830 rfl) (z_ne a877 a834 rfl)
                have a879 : f1 wfk = some (.inl (cy 0, 24, .inl gq)) := k4 _ _ x_wfk (z_ne x_wfk x_o rfl)
                have a880 : f5 wfk = some (.inl (cy 0, 24, .inl gq)) := k7 _ _ a879 
                have a881 : f293 wfk = some (.inl (cy 0, 24, .inl gq)) := k295 _ _ a880 
                have a882 : f652 wfk = some (.inl (cy 0, 24, .inl gq)) := k654 _ _ a881 
                have a883 : f835 wfk = some (.inl (cy 0, 24, .inl gq)) := k839 _ _ a882 (z_ne a882 a830 rfl) (z_ne a882 a834 rfl)
                have a884 : f1 wem = some (.inl (cy 0, 60, .inl ge1)) := k4 _ _ x_wem (z_ne x_wem x_o rfl)
                have a885 : f5 wem = some (.inl (cy 0, 60, .inl ge1)) := k7 _ _ a884 
                have a886 : f293 wem = some (.inl (cy 0, 60, .inl ge1)) := k295 _ _ a885 
                have a887 : f652 wem = some (.inl (cy 0, 60, .inl ge1)) := k654 _ _ a886 
                have a888 : f835 wem = some (.inl (cy 0, 60, .inl ge1)) := k839 _ _ a887 (z_ne a887 a830 rfl) (z_ne a887 a834 rfl)
                have a889 : f1 wna = some (.inl (cy 0, 60, .inl gn1)) := k4 _ _ x_wna (z_ne x_wna x_o rfl)
                have a890 : f5 wna = some (.inl (cy 0, 60, .inl gn1)) := k7 _ _ a889 
                have a891 : f293 wna = some (.inl (cy 0, 60, .inl gn1)) := k295 _ _ a890 
                have a892 : f652 wna = some (.inl (cy 0, 60, .inl gn1)) := k654 _ _ a891 
                have a893 : f835 wna = some (.inl (cy 0, 60, .inl gn1)) := k839 _ _ a892 (z_ne a892 a830 rfl) (z_ne a892 a834 rfl)
                have a894 : f1 wpl = some (.inl (cy 0, 60, .inl gp1)) := k4 _ _ x_wpl (z_ne x_wpl x_o rfl)
                have a895 : f5 wpl = some (.inl (cy 0, 60, .inl gp1)) := k7 _ _ a894 
                have a896 : f293 wpl = some (.inl (cy 0, 60, .inl gp1)) := k295 _ _ a895 
                have a897 : f652 wpl = some (.inl (cy 0, 60, .inl gp1)) := k654 _ _ a896 
                have a898 : f835 wpl = some (.inl (cy 0, 60, .inl gp1)) := k839 _ _ a897 (z_ne a897 a830 rfl) (z_ne a897 a834 rfl)
                have a899 : f1 whs = some (.inl (cy 0, 4, .inl gs)) := k4 _ _ x_whs (z_ne x_whs x_o rfl)
                have a900 : f5 whs = some (.inl (cy 0, 4, .inl gs)) := k7 _ _ a899 
                have a901 : f293 whs = some (.inl (cy 0, 4, .inl gs)) := k295 _ _ a900 
                have a902 : f652 whs = some (.inl (cy 0, 4, .inl gs)) := k654 _ _ a901 
                have a903 : f835 whs = some (.inl (cy 0, 4, .inl gs)) := k839 _ _ a902 (z_ne a902 a830 rfl) (z_ne a902 a834 rfl)
                have a904 : f1 wk1 = some (.inl (cy 0, 40, .inl gx1)) := k4 _ _ x_wk1 (z_ne x_wk1 x_o rfl)
                have a905 : f5 wk1 = some (.inl (cy 0, 40, .inl gx1)) := k7 _ _ a904 
                have a906 : f293 wk1 = some (.inl (cy 0, 40, .inl gx1)) := k295 _ _ a905 
                have a907 : f652 wk1 = some (.inl (cy 0, 40, .inl gx1)) := k654 _ _ a906 
                have a908 : f835 wk1 = some (.inl (cy 0, 40, .inl gx1)) := k839 _ _ a907 (z_ne a907 a830 rfl) (z_ne a907 a834 rfl)
                have a909 : f1 wk2 = some (.inl (cy 0, 40, .inl gx2)) := k4 _ _ x_wk2 (z_ne x_wk2 x_o rfl)
                have a910 : f5 wk2 = some (.inl (cy 0, 40, .inl gx2)) := k7 _ _ a909 
                have a911 : f293 wk2 = some (.inl (cy 0, 40, .inl gx2)) := k295 _ _ a910 
                have a912 : f652 wk2 = some (.inl (cy 0, 40, .inl gx2)) := k654 _ _ a911 
                have a913 : f835 wk2 = some (.inl (cy 0, 40, .inl gx2)) := k839 _ _ a912 (z_ne a912 a830 rfl) (z_ne a912 a834 rfl)
                have a914 : f1 wk3 = some (.inl (cy 0, 40, .inl gx3)) := k4 _ _ x_wk3 (z_ne x_wk3 x_o rfl)
                have a915 : f5 wk3 = some (.inl (cy 0, 40, .inl gx3)) := k7 _ _ a914 
                have a916 : f293 wk3 = some (.inl (cy 0, 40, .inl gx3)) := k295 _ _ a915 
                have a917 : f652 wk3 = some (.inl (cy 0, 40, .inl gx3)) := k654 _ _ a916 
                have a918 : f835 wk3 = some (.inl (cy 0, 40, .inl gx3)) := k839 _ _ a917 (z_ne a917 a830 rfl) (z_ne a917 a834 rfl)
                have hq : q_set nn gk ln gw x y z = ((-4), 2, (-1), 0) := by simp [q_set, oF_m1 nn, hFa, hIa, hNa, hOb, hNb, hIb, hPa, c8, c9, c296, c301, c375, c376, c648, c655]
                exact z_iret C hr rfl hz hS ⟨2, (-1), 0, nl, nn, nf, nc, lk, ks, (upd gv 2 (gv 2 + 1)), gu, gk, gm, gc, gw, gl, gh, gt, gy, gq, ge1, gn1, gp1, gs, gx1, gx2, gx3, ln, fz, sq, (by rw [hq]), (by rw [hq]), (by rw [hq]), (by rw [hq]), (by rw [hq]; exact (zEV2 gv).symm), rfl, rfl, rfl, rfl, rfl, rfl, rfl, (by rw [if_neg (by decide)]), rfl, rfl, rfl, rfl, rfl, rfl, rfl, rfl, rfl, rfl, rfl, rfl, rfl, ⟨a837, a838, a844, a846, a848, a853, a858, a863, a868, a873, a878, a883, a888, a893, a898, a903, a908, a913, a918, hn60, hl12, hf6, hc60, hs40, hMP, hgy, hfz, hgs, hME, hlk, hgw, hfd, n_wki_wmy, n_wki_wiw, n_wki_wli, n_wki_wha, n_wki_wem, n_wki_wna, n_wki_wpl, n_wmy_wiw, n_wmy_wli, n_wmy_wha, n_wmy_wem, n_wmy_wna, n_wmy_wpl, n_wiw_wli, n_wiw_wha, n_wiw_wem, n_wiw_wna, n_wiw_wpl, n_wli_wha, n_wli_wem, n_wli_wna, n_wli_wpl, n_wha_wem, n_wha_wna, n_wha_wpl, n_wem_wna, n_wem_wpl, n_wna_wpl, n_wk1_wk2, n_wk1_wk3, n_wk2_wk3⟩⟩ (Nat.le_of_ble_eq_true rfl) (Nat.le_of_ble_eq_true rfl) dX8_set_88
            · refine lv_aload_n hx hb dX8_set_64 rfl (lv_at hl 0 rfl) ?_
              refine lv_iconst (v := 3) hx hb dX8_set_65 (by decide) ?_
              refine lv_iconst (v := (-1)) hx hb dX8_set_66 (by decide) ?_
              refine lv_iconst (v := 0) hx hb dX8_set_67 (by decide) ?_
              have a919 : f1 wev = some (.inl (cy 0, 8, .inl gv)) := k4 _ _ x_wev (z_ne x_wev x_o rfl)
              have a920 : f5 wev = some (.inl (cy 0, 8, .inl gv)) := k7 _ _ a919 
              have a921 : f293 wev = some (.inl (cy 0, 8, .inl gv)) := k295 _ _ a920 
              refine z_callVi (As := [.int 3, .int (-1), .int 0]) C hz hS hA hl (k_X8_fails l D cy f293 o wev wnb wki wmy wce wiw wli wha wwt wfy wfk wem wna wpl whs wk1 wk2 wk3 0 (-1) 0 nl nn nf nc lk ks 3 (-1) 0 gv 3 a297 a921 (by decide) (Nat.le_of_ble_eq_true rfl)) zyX8_fails mMX8_135 a297 zl8 rfl rfl (Nat.le_of_ble_eq_true rfl) ⟨Nat.le_of_ble_eq_true rfl, Nat.le_of_ble_eq_true rfl⟩ ⟨Nat.le_of_ble_eq_true rfl, Nat.le_of_ble_eq_true rfl⟩ dX8_set_68 (fun r f922 H locs h923 hz hS => ?_)
              obtain ⟨rfl, a924, a925, k926⟩ := h923
              have a927 : f1 wnb = some (.inl (cy 0, 12, .inl gu)) := k4 _ _ x_wnb (z_ne x_wnb x_o rfl)
              have a928 : f5 wnb = some (.inl (cy 0, 12, .inl gu)) := k7 _ _ a927 
              have a929 : f293 wnb = some (.inl (cy 0, 12, .inl gu)) := k295 _ _ a928 
              have a930 : f922 wnb = some (.inl (cy 0, 12, .inl gu)) := k926 _ _ a929 (z_ne a929 a297 rfl) (z_ne a929 a921 rfl)
              have a931 : f922 wki = some (.inl (cy 0, 60, .inl gk)) := k926 _ _ a300 (z_ne a300 a297 rfl) (z_ne a300 a921 rfl)
              have a932 : f1 wmy = some (.inl (cy 0, 60, .inl gm)) := k4 _ _ x_wmy (z_ne x_wmy x_o rfl)
              have a933 : f5 wmy = some (.inl (cy 0, 60, .inl gm)) := k7 _ _ a932 
              have a934 : f293 wmy = some (.inl (cy 0, 60, .inl gm)) := k295 _ _ a933 
              have a935 : f922 wmy = some (.inl (cy 0, 60, .inl gm)) := k926 _ _ a934 (z_ne a934 a297 rfl) (z_ne a934 a921 rfl)
              have a936 : f1 wce = some (.inl (cy 1, 960, .inr (.inl gc))) := k4 _ _ x_wce (z_ne x_wce x_o rfl)
              have a937 : f5 wce = some (.inl (cy 1, 960, .inr (.inl gc))) := k7 _ _ a936 
              have a938 : f293 wce = some (.inl (cy 1, 960, .inr (.inl gc))) := k295 _ _ a937 
              have a939 : f922 wce = some (.inl (cy 1, 960, .inr (.inl gc))) := k926 _ _ a938 (z_ne a938 a297 rfl) (z_ne a938 a921 rfl)
              have a940 : f1 wiw = some (.inl (cy 2, 60, .inl gw)) := k4 _ _ x_wiw (z_ne x_wiw x_o rfl)
              have a941 : f5 wiw = some (.inl (cy 2, 60, .inl gw)) := k7 _ _ a940 
              have a942 : f293 wiw = some (.inl (cy 2, 60, .inl gw)) := k295 _ _ a941 
              have a943 : f922 wiw = some (.inl (cy 2, 60, .inl gw)) := k926 _ _ a942 (z_ne a942 a297 rfl) (z_ne a942 a921 rfl)
              have a944 : f1 wli = some (.inl (cy 0, 60, .inl gl)) := k4 _ _ x_wli (z_ne x_wli x_o rfl)
              have a945 : f5 wli = some (.inl (cy 0, 60, .inl gl)) := k7 _ _ a944 
              have a946 : f293 wli = some (.inl (cy 0, 60, .inl gl)) := k295 _ _ a945 
              have a947 : f922 wli = some (.inl (cy 0, 60, .inl gl)) := k926 _ _ a946 (z_ne a946 a297 rfl) (z_ne a946 a921 rfl)
              have a948 : f1 wha = some (.inl (cy 0, 60, .inl gh)) := k4 _ _ x_wha (z_ne x_wha x_o rfl)
              have a949 : f5 wha = some (.inl (cy 0, 60, .inl gh)) := k7 _ _ a948 
              have a950 : f293 wha = some (.inl (cy 0, 60, .inl gh)) := k295 _ _ a949 
              have a951 : f922 wha = some (.inl (cy 0, 60, .inl gh)) := k926 _ _ a950 (z_ne a950 a297 rfl) (z_ne a950 a921 rfl)
              have a952 : f1 wwt = some (.inl (cy 1, 60, .inr (.inl gt))) := k4 _ _ x_wwt (z_ne x_wwt x_o rfl)
              have a953 : f5 wwt = some (.inl (cy 1, 60, .inr (.inl gt))) := k7 _ _ a952 
              have a954 : f293 wwt = some (.inl (cy 1, 60, .inr (.inl gt))) := k295 _ _ a953 
              have a955 : f922 wwt = some (.inl (cy 1, 60, .inr (.inl gt))) := k926 _ _ a954 (z_ne a954 a297 rfl) (z_ne a954 a921 rfl)
              have a956 : f1 wfy = some (.inl (cy 0, 6, .inl gy)) := k4 _ _ x_wfy (z_ne x_wfy x_o rfl)
              have a957 : f5 wfy = some (.inl (cy 0, 6, .inl gy)) := k7 _ _ a956 
              have a958 : f293 wfy = some (.inl (cy 0, 6, .inl gy)) := k295 _ _ a957 
              have a959 : f922 wfy = some (.inl (cy 0, 6, .inl gy)) := k926 _ _ a958 (z_ne a958 a297 rfl) (z_ne a958 a921 rfl)
              have a960 : f1 wfk = some (.inl (cy 0, 24, .inl gq)) := k4 _ _ x_wfk (z_ne x_wfk x_o rfl)
              have a961 : f5 wfk = some (.inl (cy 0, 24, .inl gq)) := k7 _ _ a960 
              have a962 : f293 wfk = some (.inl (cy 0, 24, .inl gq)) := k295 _ _ a961 
              have a963 : f922 wfk = some (.inl (cy 0, 24, .inl gq)) := k926 _ _ a962 (z_ne a962 a297 rfl) (z_ne a962 a921 rfl)
              have a964 : f1 wem = some (.inl (cy 0, 60, .inl ge1)) := k4 _ _ x_wem (z_ne x_wem x_o rfl)
              have a965 : f5 wem = some (.inl (cy 0, 60, .inl ge1)) := k7 _ _ a964 
              have a966 : f293 wem = some (.inl (cy 0, 60, .inl ge1)) := k295 _ _ a965 
              have a967 : f922 wem = some (.inl (cy 0, 60, .inl ge1)) := k926 _ _ a966 (z_ne a966 a297 rfl) (z_ne a966 a921 rfl)
              have a968 : f1 wna = some (.inl (cy 0, 60, .inl gn1)) := k4 _ _ x_wna (z_ne x_wna x_o rfl)
              have a969 : f5 wna = some (.inl (cy 0, 60, .inl gn1)) := k7 _ _ a968 
              have a970 : f293 wna = some (.inl (cy 0, 60, .inl gn1)) := k295 _ _ a969 
              have a971 : f922 wna = some (.inl (cy 0, 60, .inl gn1)) := k926 _ _ a970 (z_ne a970 a297 rfl) (z_ne a970 a921 rfl)
              have a972 : f1 wpl = some (.inl (cy 0, 60, .inl gp1)) := k4 _ _ x_wpl (z_ne x_wpl x_o rfl)
              have a973 : f5 wpl = some (.inl (cy 0, 60, .inl gp1)) := k7 _ _ a972 
              have a974 : f293 wpl = some (.inl (cy 0, 60, .inl gp1)) := k295 _ _ a973 
              have a975 : f922 wpl = some (.inl (cy 0, 60, .inl gp1)) := k926 _ _ a974 (z_ne a974 a297 rfl) (z_ne a974 a921 rfl)
              have a976 : f1 whs = some (.inl (cy 0, 4, .inl gs)) := k4 _ _ x_whs (z_ne x_whs x_o rfl)
              have a977 : f5 whs = some (.inl (cy 0, 4, .inl gs)) := k7 _ _ a976 
              have a978 : f293 whs = some (.inl (cy 0, 4, .inl gs)) := k295 _ _ a977 
              have a979 : f922 whs = some (.inl (cy 0, 4, .inl gs)) := k926 _ _ a978 (z_ne a978 a297 rfl) (z_ne a978 a921 rfl)
              have a980 : f1 wk1 = some (.inl (cy 0, 40, .inl gx1)) := k4 _ _ x_wk1 (z_ne x_wk1 x_o rfl)
              have a981 : f5 wk1 = some (.inl (cy 0, 40, .inl gx1)) := k7 _ _ a980 
              have a982 : f293 wk1 = some (.inl (cy 0, 40, .inl gx1)) := k295 _ _ a981 
              have a983 : f922 wk1 = some (.inl (cy 0, 40, .inl gx1)) := k926 _ _ a982 (z_ne a982 a297 rfl) (z_ne a982 a921 rfl)
              have a984 : f1 wk2 = some (.inl (cy 0, 40, .inl gx2)) := k4 _ _ x_wk2 (z_ne x_wk2 x_o rfl)
              have a985 : f5 wk2 = some (.inl (cy 0, 40, .inl gx2)) := k7 _ _ a984 
              have a986 : f293 wk2 = some (.inl (cy 0, 40, .inl gx2)) := k295 _ _ a985 
              have a987 : f922 wk2 = some (.inl (cy 0, 40, .inl gx2)) := k926 _ _ a986 (z_ne a986 a297 rfl) (z_ne a986 a921 rfl)
              have a988 : f1 wk3 = some (.inl (cy 0, 40, .inl gx3)) := k4 _ _ x_wk3 (z_ne x_wk3 x_o rfl)
              have a989 : f5 wk3 = some (.inl (cy 0, 40, .inl gx3)) := k7 _ _ a988 
              have a990 : f293 wk3 = some (.inl (cy 0, 40, .inl gx3)) := k295 _ _ a989 
              have a991 : f922 wk3 = some (.inl (cy 0, 40, .inl gx3)) := k926 _ _ a990 (z_ne a990 a297 rfl) (z_ne a990 a921 rfl)
              have hq : q_set nn gk ln gw x y z = ((-4), 3, (-1), 0) := by simp [q_set, oF_m1 nn, hFa, hIa, hNa, hOb, hNb, hIb, c8, c9, c296, c301, c375, c376, c648]
              exact z_iret C hr rfl hz hS ⟨3, (-1), 0, nl, nn, nf, nc, lk, ks, (upd gv 3 (gv 3 + 1)), gu, gk, gm, gc, gw, gl, gh, gt, gy, gq, ge1, gn1, gp1, gs, gx1, gx2, gx3, ln, fz, sq, (by rw [hq]), (by rw [hq]), (by rw [hq]), (by rw [hq]), (by rw [hq]; exact (zEV3 gv).symm), rfl, rfl, rfl, rfl, rfl, rfl, rfl, (by rw [if_neg (by decide)]), rfl, rfl, rfl, rfl, rfl, rfl, rfl, rfl, rfl, rfl, rfl, rfl, rfl, ⟨a924, a925, a930, a931, a935, a939, a943, a947, a951, a955, a959, a963, a967, a971, a975, a979, a983, a987, a991, hn60, hl12, hf6, hc60, hs40, hMP, hgy, hfz, hgs, hME, hlk, hgw, hfd, n_wki_wmy, n_wki_wiw, n_wki_wli, n_wki_wha, n_wki_wem, n_wki_wna, n_wki_wpl, n_wmy_wiw, n_wmy_wli, n_wmy_wha, n_wmy_wem, n_wmy_wna, n_wmy_wpl, n_wiw_wli, n_wiw_wha, n_wiw_wem, n_wiw_wna, n_wiw_wpl, n_wli_wha, n_wli_wem, n_wli_wna, n_wli_wpl, n_wha_wem, n_wha_wna, n_wha_wpl, n_wem_wna, n_wem_wpl, n_wna_wpl, n_wk1_wk2, n_wk1_wk3, n_wk2_wk3⟩⟩ (Nat.le_of_ble_eq_true rfl) (Nat.le_of_ble_eq_true rfl) dX8_set_71
      · have hOb : oF nn z = false := oF_f hn60 c9 hvb
        have a992 : f5 o = some (.inr (8, [.int 0, .int (-1), .int 0, .ref wev, .int (nI nl), .ref wnb, .int (nI nn), .ref wki, .ref wmy, .ref wce, .ref wiw, .ref wli, .ref wha, .ref wwt, .int (nI nf), .ref wfy, .ref wfk, .int (nI nc), .ref wem, .ref wna, .ref wpl, .ref whs, .long lk, .int (nI ks), .ref wk1, .ref wk2, .ref wk3])) := k7 _ _ a3 
        refine z_callVi (As := [.int z]) C hz hS hA hl (k_X8_isFigure_B l D cy f5 o wev wnb wki wmy wce wiw wli wha wwt wfy wfk wem wna wpl whs wk1 wk2 wk3 0 (-1) 0 nl nn nf nc lk ks z a992 hn60 hvb) zyX8_isFigure mMX8_139 a992 zl8 rfl rfl (Nat.le_of_ble_eq_true rfl) ⟨Nat.le_of_ble_eq_true rfl, Nat.le_of_ble_eq_true rfl⟩ ⟨Nat.le_of_ble_eq_true rfl, Nat.le_of_ble_eq_true rfl⟩ dX8_set_19 (fun r f993 H locs h994 hz hS => ?_)
        obtain ⟨rfl, k995⟩ := h994
        refine lv_if_ne (tgt := 28) hx hb dX8_set_22 (by decide) (fun c996 => ?_) (fun c996 => ?_)
        · exact absurd c996 (by decide)
        refine lv_bipush (v := (-2)) hx hb dX8_set_25 (by decide) ?_
        have a997 : f993 o = some (.inr (8, [.int 0, .int (-1), .int 0, .ref wev, .int (nI nl), .ref wnb, .int (nI nn), .ref wki, .ref wmy, .ref wce, .ref wiw, .ref wli, .ref wha, .ref wwt, .int (nI nf), .ref wfy, .ref wfk, .int (nI nc), .ref wem, .ref wna, .ref wpl, .ref whs, .long lk, .int (nI ks), .ref wk1, .ref wk2, .ref wk3])) := k995 _ _ a992 
        have a998 : f1 wev = some (.inl (cy 0, 8, .inl gv)) := k4 _ _ x_wev (z_ne x_wev x_o rfl)
        have a999 : f5 wev = some (.inl (cy 0, 8, .inl gv)) := k7 _ _ a998 
        have a1000 : f993 wev = some (.inl (cy 0, 8, .inl gv)) := k995 _ _ a999 
        have a1001 : f1 wnb = some (.inl (cy 0, 12, .inl gu)) := k4 _ _ x_wnb (z_ne x_wnb x_o rfl)
        have a1002 : f5 wnb = some (.inl (cy 0, 12, .inl gu)) := k7 _ _ a1001 
        have a1003 : f993 wnb = some (.inl (cy 0, 12, .inl gu)) := k995 _ _ a1002 
        have a1004 : f1 wki = some (.inl (cy 0, 60, .inl gk)) := k4 _ _ x_wki (z_ne x_wki x_o rfl)
        have a1005 : f5 wki = some (.inl (cy 0, 60, .inl gk)) := k7 _ _ a1004 
        have a1006 : f993 wki = some (.inl (cy 0, 60, .inl gk)) := k995 _ _ a1005 
        have a1007 : f1 wmy = some (.inl (cy 0, 60, .inl gm)) := k4 _ _ x_wmy (z_ne x_wmy x_o rfl)
        have a1008 : f5 wmy = some (.inl (cy 0, 60, .inl gm)) := k7 _ _ a1007 
        have a1009 : f993 wmy = some (.inl (cy 0, 60, .inl gm)) := k995 _ _ a1008 
        have a1010 : f1 wce = some (.inl (cy 1, 960, .inr (.inl gc))) := k4 _ _ x_wce (z_ne x_wce x_o rfl)
        have a1011 : f5 wce = some (.inl (cy 1, 960, .inr (.inl gc))) := k7 _ _ a1010 
        have a1012 : f993 wce = some (.inl (cy 1, 960, .inr (.inl gc))) := k995 _ _ a1011 
        have a1013 : f1 wiw = some (.inl (cy 2, 60, .inl gw)) := k4 _ _ x_wiw (z_ne x_wiw x_o rfl)
        have a1014 : f5 wiw = some (.inl (cy 2, 60, .inl gw)) := k7 _ _ a1013 
        have a1015 : f993 wiw = some (.inl (cy 2, 60, .inl gw)) := k995 _ _ a1014 
        have a1016 : f1 wli = some (.inl (cy 0, 60, .inl gl)) := k4 _ _ x_wli (z_ne x_wli x_o rfl)
        have a1017 : f5 wli = some (.inl (cy 0, 60, .inl gl)) := k7 _ _ a1016 
        have a1018 : f993 wli = some (.inl (cy 0, 60, .inl gl)) := k995 _ _ a1017 
        have a1019 : f1 wha = some (.inl (cy 0, 60, .inl gh)) := k4 _ _ x_wha (z_ne x_wha x_o rfl)
        have a1020 : f5 wha = some (.inl (cy 0, 60, .inl gh)) := k7 _ _ a1019 
        have a1021 : f993 wha = some (.inl (cy 0, 60, .inl gh)) := k995 _ _ a1020 
        have a1022 : f1 wwt = some (.inl (cy 1, 60, .inr (.inl gt))) := k4 _ _ x_wwt (z_ne x_wwt x_o rfl)
        have a1023 : f5 wwt = some (.inl (cy 1, 60, .inr (.inl gt))) := k7 _ _ a1022 
        have a1024 : f993 wwt = some (.inl (cy 1, 60, .inr (.inl gt))) := k995 _ _ a1023 
        have a1025 : f1 wfy = some (.inl (cy 0, 6, .inl gy)) := k4 _ _ x_wfy (z_ne x_wfy x_o rfl)
        have a1026 : f5 wfy = some (.inl (cy 0, 6, .inl gy)) := k7 _ _ a1025 
        have a1027 : f993 wfy = some (.inl (cy 0, 6, .inl gy)) := k995 _ _ a1026 
        have a1028 : f1 wfk = some (.inl (cy 0, 24, .inl gq)) := k4 _ _ x_wfk (z_ne x_wfk x_o rfl)
        have a1029 : f5 wfk = some (.inl (cy 0, 24, .inl gq)) := k7 _ _ a1028 
        have a1030 : f993 wfk = some (.inl (cy 0, 24, .inl gq)) := k995 _ _ a1029 
        have a1031 : f1 wem = some (.inl (cy 0, 60, .inl ge1)) := k4 _ _ x_wem (z_ne x_wem x_o rfl)
        have a1032 : f5 wem = some (.inl (cy 0, 60, .inl ge1)) := k7 _ _ a1031 
        have a1033 : f993 wem = some (.inl (cy 0, 60, .inl ge1)) := k995 _ _ a1032 
        have a1034 : f1 wna = some (.inl (cy 0, 60, .inl gn1)) := k4 _ _ x_wna (z_ne x_wna x_o rfl)
        have a1035 : f5 wna = some (.inl (cy 0, 60, .inl gn1)) := k7 _ _ a1034 
        have a1036 : f993 wna = some (.inl (cy 0, 60, .inl gn1)) := k995 _ _ a1035 
        have a1037 : f1 wpl = some (.inl (cy 0, 60, .inl gp1)) := k4 _ _ x_wpl (z_ne x_wpl x_o rfl)
        have a1038 : f5 wpl = some (.inl (cy 0, 60, .inl gp1)) := k7 _ _ a1037 
        have a1039 : f993 wpl = some (.inl (cy 0, 60, .inl gp1)) := k995 _ _ a1038 
        have a1040 : f1 whs = some (.inl (cy 0, 4, .inl gs)) := k4 _ _ x_whs (z_ne x_whs x_o rfl)
        have a1041 : f5 whs = some (.inl (cy 0, 4, .inl gs)) := k7 _ _ a1040 
        have a1042 : f993 whs = some (.inl (cy 0, 4, .inl gs)) := k995 _ _ a1041 
        have a1043 : f1 wk1 = some (.inl (cy 0, 40, .inl gx1)) := k4 _ _ x_wk1 (z_ne x_wk1 x_o rfl)
        have a1044 : f5 wk1 = some (.inl (cy 0, 40, .inl gx1)) := k7 _ _ a1043 
        have a1045 : f993 wk1 = some (.inl (cy 0, 40, .inl gx1)) := k995 _ _ a1044 
        have a1046 : f1 wk2 = some (.inl (cy 0, 40, .inl gx2)) := k4 _ _ x_wk2 (z_ne x_wk2 x_o rfl)
        have a1047 : f5 wk2 = some (.inl (cy 0, 40, .inl gx2)) := k7 _ _ a1046 
        have a1048 : f993 wk2 = some (.inl (cy 0, 40, .inl gx2)) := k995 _ _ a1047 
        have a1049 : f1 wk3 = some (.inl (cy 0, 40, .inl gx3)) := k4 _ _ x_wk3 (z_ne x_wk3 x_o rfl)
        have a1050 : f5 wk3 = some (.inl (cy 0, 40, .inl gx3)) := k7 _ _ a1049 
        have a1051 : f993 wk3 = some (.inl (cy 0, 40, .inl gx3)) := k995 _ _ a1050 
        have hq : q_set nn gk ln gw x y z = ((-2), 0, (-1), 0) := by simp [q_set, oF_m1 nn, hFa, hIa, hNa, hOb, c8, c9, c996]
        exact z_iret C hr rfl hz hS ⟨0, (-1), 0, nl, nn, nf, nc, lk, ks, gv, gu, gk, gm, gc, gw, gl, gh, gt, gy, gq, ge1, gn1, gp1, gs, gx1, gx2, gx3, ln, fz, sq, (by rw [hq]), (by rw [hq]), (by rw [hq]), (by rw [hq]), (by rw [hq]; exact (zEV0 gv).symm), rfl, rfl, rfl, rfl, rfl, rfl, rfl, (by rw [if_neg (by decide)]), rfl, rfl, rfl, rfl, rfl, rfl, rfl, rfl, rfl, rfl, rfl, rfl, rfl, ⟨a997, a1000, a1003, a1006, a1009, a1012, a1015, a1018, a1021, a1024, a1027, a1030, a1033, a1036, a1039, a1042, a1045, a1048, a1051, hn60, hl12, hf6, hc60, hs40, hMP, hgy, hfz, hgs, hME, hlk, hgw, hfd, n_wki_wmy, n_wki_wiw, n_wki_wli, n_wki_wha, n_wki_wem, n_wki_wna, n_wki_wpl, n_wmy_wiw, n_wmy_wli, n_wmy_wha, n_wmy_wem, n_wmy_wna, n_wmy_wpl, n_wiw_wli, n_wiw_wha, n_wiw_wem, n_wiw_wna, n_wiw_wpl, n_wli_wha, n_wli_wem, n_wli_wna, n_wli_wpl, n_wha_wem, n_wha_wna, n_wha_wpl, n_wem_wna, n_wem_wpl, n_wna_wpl, n_wk1_wk2, n_wk1_wk3, n_wk2_wk3⟩⟩ (Nat.le_of_ble_eq_true rfl) (Nat.le_of_ble_eq_true rfl) dX8_set_27
  · have hFa : isF nn x = false := isF_f hn60 hva
    refine z_callVi (As := [.int x]) C hz hS hA hl (k_X8_isFigure_B l D cy f1 o wev wnb wki wmy wce wiw wli wha wwt wfy wfk wem wna wpl whs wk1 wk2 wk3 0 (-1) 0 nl nn nf nc lk ks x a3 hn60 hva) zyX8_isFigure mMX8_139 a3 zl8 rfl rfl (Nat.le_of_ble_eq_true rfl) ⟨Nat.le_of_ble_eq_true rfl, Nat.le_of_ble_eq_true rfl⟩ ⟨Nat.le_of_ble_eq_true rfl, Nat.le_of_ble_eq_true rfl⟩ dX8_set_6 (fun r f1052 H locs h1053 hz hS => ?_)
    obtain ⟨rfl, k1054⟩ := h1053
    refine lv_if_eq (tgt := 25) hx hb dX8_set_9 (by decide) (fun c1055 => ?_) (fun c1055 => ?_)
    rotate_left
    · exact absurd c1055 (by decide)
    refine lv_bipush (v := (-2)) hx hb dX8_set_25 (by decide) ?_
    have a1056 : f1052 o = some (.inr (8, [.int 0, .int (-1), .int 0, .ref wev, .int (nI nl), .ref wnb, .int (nI nn), .ref wki, .ref wmy, .ref wce, .ref wiw, .ref wli, .ref wha, .ref wwt, .int (nI nf), .ref wfy, .ref wfk, .int (nI nc), .ref wem, .ref wna, .ref wpl, .ref whs, .long lk, .int (nI ks), .ref wk1, .ref wk2, .ref wk3])) := k1054 _ _ a3 
    have a1057 : f1 wev = some (.inl (cy 0, 8, .inl gv)) := k4 _ _ x_wev (z_ne x_wev x_o rfl)
    have a1058 : f1052 wev = some (.inl (cy 0, 8, .inl gv)) := k1054 _ _ a1057 
    have a1059 : f1 wnb = some (.inl (cy 0, 12, .inl gu)) := k4 _ _ x_wnb (z_ne x_wnb x_o rfl)
    have a1060 : f1052 wnb = some (.inl (cy 0, 12, .inl gu)) := k1054 _ _ a1059 
    have a1061 : f1 wki = some (.inl (cy 0, 60, .inl gk)) := k4 _ _ x_wki (z_ne x_wki x_o rfl)
    have a1062 : f1052 wki = some (.inl (cy 0, 60, .inl gk)) := k1054 _ _ a1061 
    have a1063 : f1 wmy = some (.inl (cy 0, 60, .inl gm)) := k4 _ _ x_wmy (z_ne x_wmy x_o rfl)
    have a1064 : f1052 wmy = some (.inl (cy 0, 60, .inl gm)) := k1054 _ _ a1063 
    have a1065 : f1 wce = some (.inl (cy 1, 960, .inr (.inl gc))) := k4 _ _ x_wce (z_ne x_wce x_o rfl)
    have a1066 : f1052 wce = some (.inl (cy 1, 960, .inr (.inl gc))) := k1054 _ _ a1065 
    have a1067 : f1 wiw = some (.inl (cy 2, 60, .inl gw)) := k4 _ _ x_wiw (z_ne x_wiw x_o rfl)
    have a1068 : f1052 wiw = some (.inl (cy 2, 60, .inl gw)) := k1054 _ _ a1067 
    have a1069 : f1 wli = some (.inl (cy 0, 60, .inl gl)) := k4 _ _ x_wli (z_ne x_wli x_o rfl)
    have a1070 : f1052 wli = some (.inl (cy 0, 60, .inl gl)) := k1054 _ _ a1069 
    have a1071 : f1 wha = some (.inl (cy 0, 60, .inl gh)) := k4 _ _ x_wha (z_ne x_wha x_o rfl)
    have a1072 : f1052 wha = some (.inl (cy 0, 60, .inl gh)) := k1054 _ _ a1071 
    have a1073 : f1 wwt = some (.inl (cy 1, 60, .inr (.inl gt))) := k4 _ _ x_wwt (z_ne x_wwt x_o rfl)
    have a1074 : f1052 wwt = some (.inl (cy 1, 60, .inr (.inl gt))) := k1054 _ _ a1073 
    have a1075 : f1 wfy = some (.inl (cy 0, 6, .inl gy)) := k4 _ _ x_wfy (z_ne x_wfy x_o rfl)
    have a1076 : f1052 wfy = some (.inl (cy 0, 6, .inl gy)) := k1054 _ _ a1075 
    have a1077 : f1 wfk = some (.inl (cy 0, 24, .inl gq)) := k4 _ _ x_wfk (z_ne x_wfk x_o rfl)
    have a1078 : f1052 wfk = some (.inl (cy 0, 24, .inl gq)) := k1054 _ _ a1077 
    have a1079 : f1 wem = some (.inl (cy 0, 60, .inl ge1)) := k4 _ _ x_wem (z_ne x_wem x_o rfl)
    have a1080 : f1052 wem = some (.inl (cy 0, 60, .inl ge1)) := k1054 _ _ a1079 
    have a1081 : f1 wna = some (.inl (cy 0, 60, .inl gn1)) := k4 _ _ x_wna (z_ne x_wna x_o rfl)
    have a1082 : f1052 wna = some (.inl (cy 0, 60, .inl gn1)) := k1054 _ _ a1081 
    have a1083 : f1 wpl = some (.inl (cy 0, 60, .inl gp1)) := k4 _ _ x_wpl (z_ne x_wpl x_o rfl)
    have a1084 : f1052 wpl = some (.inl (cy 0, 60, .inl gp1)) := k1054 _ _ a1083 
    have a1085 : f1 whs = some (.inl (cy 0, 4, .inl gs)) := k4 _ _ x_whs (z_ne x_whs x_o rfl)
    have a1086 : f1052 whs = some (.inl (cy 0, 4, .inl gs)) := k1054 _ _ a1085 
    have a1087 : f1 wk1 = some (.inl (cy 0, 40, .inl gx1)) := k4 _ _ x_wk1 (z_ne x_wk1 x_o rfl)
    have a1088 : f1052 wk1 = some (.inl (cy 0, 40, .inl gx1)) := k1054 _ _ a1087 
    have a1089 : f1 wk2 = some (.inl (cy 0, 40, .inl gx2)) := k4 _ _ x_wk2 (z_ne x_wk2 x_o rfl)
    have a1090 : f1052 wk2 = some (.inl (cy 0, 40, .inl gx2)) := k1054 _ _ a1089 
    have a1091 : f1 wk3 = some (.inl (cy 0, 40, .inl gx3)) := k4 _ _ x_wk3 (z_ne x_wk3 x_o rfl)
    have a1092 : f1052 wk3 = some (.inl (cy 0, 40, .inl gx3)) := k1054 _ _ a1091 
    have hq : q_set nn gk ln gw x y z = ((-2), 0, (-1), 0) := by simp [q_set, oF_m1 nn, hFa, c1055]
    exact z_iret C hr rfl hz hS ⟨0, (-1), 0, nl, nn, nf, nc, lk, ks, gv, gu, gk, gm, gc, gw, gl, gh, gt, gy, gq, ge1, gn1, gp1, gs, gx1, gx2, gx3, ln, fz, sq, (by rw [hq]), (by rw [hq]), (by rw [hq]), (by rw [hq]), (by rw [hq]; exact (zEV0 gv).symm), rfl, rfl, rfl, rfl, rfl, rfl, rfl, (by rw [if_neg (by decide)]), rfl, rfl, rfl, rfl, rfl, rfl, rfl, rfl, rfl, rfl, rfl, rfl, rfl, ⟨a1056, a1058, a1060, a1062, a1064, a1066, a1068, a1070, a1072, a1074, a1076, a1078, a1080, a1082, a1084, a1086, a1088, a1090, a1092, hn60, hl12, hf6, hc60, hs40, hMP, hgy, hfz, hgs, hME, hlk, hgw, hfd, n_wki_wmy, n_wki_wiw, n_wki_wli, n_wki_wha, n_wki_wem, n_wki_wna, n_wki_wpl, n_wmy_wiw, n_wmy_wli, n_wmy_wha, n_wmy_wem, n_wmy_wna, n_wmy_wpl, n_wiw_wli, n_wiw_wha, n_wiw_wem, n_wiw_wna, n_wiw_wpl, n_wli_wha, n_wli_wem, n_wli_wna, n_wli_wpl, n_wha_wem, n_wha_wna, n_wha_wpl, n_wem_wna, n_wem_wpl, n_wna_wpl, n_wk1_wk2, n_wk1_wk3, n_wk2_wk3⟩⟩ (Nat.le_of_ble_eq_true rfl) (Nat.le_of_ble_eq_true rfl) dX8_set_27
