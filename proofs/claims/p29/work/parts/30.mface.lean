theorem z_ce1 (j k : Nat) : 16 * nI j + 1 + nI k = nI (16 * j + 1 + k) := by
  have e1 : (1 : Int32) = nI 1 := by decide
  rw [e1, z_ce, nI_add]
theorem zMP_set {nn ja kx : Nat} {gk gm : Nat → Int32} {gc : Nat → Int64} {ln : Nat → Nat} {v : Int64} (h : zMP nn gk gm gc ln) (hk : gk ja = 6) (hx : 1 + kx < 16) : zMP nn gk gm (vp_updL gc (16 * ja + 1 + kx) v) ln := by
  intro i hi
  refine ⟨(h i hi).1, ?_⟩
  by_cases e : i = ja
  · subst e
    exact zMP1_of (h i hi).2.1 (by rw [hk]; decide) (by rw [hk]; decide) (by rw [hk]; decide)
  · exact zMP1_keep (h i hi).2 (fun j hj => pk_uLn (by omega))
abbrev rmX8_hasPlace : Room := { frames := 0, cells := 0, slots := 0, locals := 0 }
set_option maxHeartbeats 4000000 in
set_option maxRecDepth 100000 in
theorem k_X8_hasPlace (l : Launch) (D : va_G) (cy : Nat → ClassId) (f : zM) (o : Nat) (wev : Nat) (wnb : Nat) (wki : Nat) (wmy : Nat) (wce : Nat) (wiw : Nat) (wli : Nat) (wha : Nat) (wwt : Nat) (wfy : Nat) (wfk : Nat) (wem : Nat) (wna : Nat) (wpl : Nat) (whs : Nat) (wk1 : Nat) (wk2 : Nat) (wk3 : Nat) (u1 : Int32) (u2 : Int32) (u3 : Int32) (nl : Nat) (nn : Nat) (nf : Nat) (nc : Nat) (lk : Int64) (ks : Nat) (gm : Nat → Int32) (x : Int32) (y : Int32) (j : Nat) (t : Nat) (p0 : f o = some (.inr (8, [.int u1, .int u2, .int u3, .ref wev, .int (nI nl), .ref wnb, .int (nI nn), .ref wki, .ref wmy, .ref wce, .ref wiw, .ref wli, .ref wha, .ref wwt, .int (nI nf), .ref wfy, .ref wfk, .int (nI nc), .ref wem, .ref wna, .ref wpl, .ref whs, .long lk, .int (nI ks), .ref wk1, .ref wk2, .ref wk3]))) (p1 : f wmy = some (.inl (cy 0, 60, .inl gm)))  (hxj : x = nI j) (hj60 : j < 60) (hmt : gm j = nI t) : zCi l D cy yX8_hasPlace cX8_hasPlace 3 (Option.some Jvm.ClassFile.FieldType.boolean) rmX8_hasPlace [.ref o, .int x, .int y] f (fun (r : Int32) (f1 : zM) => r = (if y < 0 then 0 else if nI t - 1 ≤ y then 0 else 1) ∧ (∀ (b : Nat) (e : va_E), f b = some e → f1 b = some e)) := by
  intro sz
  refine z_body (by decide +kernel) (Nat.le_of_ble_eq_true rfl) ?_
  intro p e s m below meth c ls C hr hin hsz hz hl
  subst hsz
  have hx := C.1
  have hb := C.2.1
  have hA : ∀ q, s.heap.size ≤ q → zA f s.heap.size q := fun q h => Or.inr h
  have hS : va_S (zA f s.heap.size) s.heap s.heap [] := va_S.rf
  have hl : lv_has ls 3 [(0, .ref o), (1, .int x), (2, .int y)] := hl
  refine lv_iload_n hx hb dX8_hasPlace_0 rfl (lv_at hl 2 rfl) ?_
  refine lv_if_lt (tgt := 20) hx hb dX8_hasPlace_1 (by decide) (fun c1 => ?_) (fun c1 => ?_)
  · refine lv_iconst (v := 0) hx hb dX8_hasPlace_20 (by decide) ?_
    exact z_iret C hr (by decide) hz hS ⟨(by first | simp [c1] | simp_all), (fun b e hb => hb)⟩ (Nat.le_of_ble_eq_true rfl) (Nat.le_of_ble_eq_true rfl) dX8_hasPlace_21
  · refine lv_iload_n hx hb dX8_hasPlace_4 rfl (lv_at hl 2 rfl) ?_
    refine lv_aload_n hx hb dX8_hasPlace_5 rfl (lv_at hl 0 rfl) ?_
    refine z_get (v := .ref wmy) C hz p0 zl8 mFX8_23 (by decide) rfl dX8_hasPlace_6 ?_
    refine lv_iload_n hx hb dX8_hasPlace_9 rfl (lv_at hl 1 rfl) ?_
    refine z_iald j C hz p1 hxj hj60 (by omega) dX8_hasPlace_10 ?_
    refine lv_topi (fun y2 e3 => ?_)
    obtain rfl : y2 = nI t := e3.trans hmt
    refine lv_iconst (v := 1) hx hb dX8_hasPlace_11 (by decide) ?_
    refine lv_isub hx hb dX8_hasPlace_12 ?_
    refine lv_icmp_ge (tgt := 20) hx hb dX8_hasPlace_13 (by decide) (fun c4 => ?_) (fun c4 => ?_)
    · refine lv_iconst (v := 0) hx hb dX8_hasPlace_20 (by decide) ?_
      exact z_iret C hr (by decide) hz hS ⟨(by first | simp [c1, c4] | simp_all), (fun b e hb => hb)⟩ (Nat.le_of_ble_eq_true rfl) (Nat.le_of_ble_eq_true rfl) dX8_hasPlace_21
    · refine lv_iconst (v := 1) hx hb dX8_hasPlace_16 (by decide) ?_
      refine lv_goto (tgt := 21) hx hb dX8_hasPlace_17 (by decide) ?_
      exact z_iret C hr (by decide) hz hS ⟨(by first | simp [c1, c4] | simp_all), (fun b e hb => hb)⟩ (Nat.le_of_ble_eq_true rfl) (Nat.le_of_ble_eq_true rfl) dX8_hasPlace_21
abbrev rmX8_kind : Room := { frames := 1, cells := 0, slots := 0, locals := 21 }
set_option maxHeartbeats 4000000 in
set_option maxRecDepth 100000 in
theorem k_X8_kind (l : Launch) (D : va_G) (cy : Nat → ClassId) (f : zM) (o : Nat) (wev : Nat) (wnb : Nat) (wki : Nat) (wmy : Nat) (wce : Nat) (wiw : Nat) (wli : Nat) (wha : Nat) (wwt : Nat) (wfy : Nat) (wfk : Nat) (wem : Nat) (wna : Nat) (wpl : Nat) (whs : Nat) (wk1 : Nat) (wk2 : Nat) (wk3 : Nat) (u1 : Int32) (u2 : Int32) (u3 : Int32) (nl : Nat) (nn : Nat) (nf : Nat) (nc : Nat) (lk : Int64) (ks : Nat) (gv : Nat → Int32) (gu : Nat → Int32) (gk : Nat → Int32) (gm : Nat → Int32) (gc : Nat → Int64) (gw : Nat → Int32) (gl : Nat → Int32) (gh : Nat → Int32) (gt : Nat → Int64) (gy : Nat → Int32) (gq : Nat → Int32) (ge1 : Nat → Int32) (gn1 : Nat → Int32) (gp1 : Nat → Int32) (gs : Nat → Int32) (gx1 : Nat → Int32) (gx2 : Nat → Int32) (gx3 : Nat → Int32) (ln : Nat → Nat) (fz : Nat → Nat) (sq : Nat → Nat) (x : Int32)    (hI : zIM cy f o wev wnb wki wmy wce wiw wli wha wwt wfy wfk wem wna wpl whs wk1 wk2 wk3 u1 u2 u3 nl nn nf nc lk ks gv gu gk gm gc gw gl gh gt gy gq ge1 gn1 gp1 gs gx1 gx2 gx3 ln fz sq) : zCi l D cy yX8_kind cX8_kind 2 (Option.some Jvm.ClassFile.FieldType.int) rmX8_kind [.ref o, .int x] f (fun (r : Int32) (f1 : zM) => ∃ (u11 : Int32) (u21 : Int32) (u31 : Int32) (nl1 : Nat) (nn1 : Nat) (nf1 : Nat) (nc1 : Nat) (lk1 : Int64) (ks1 : Nat) (gv1 : Nat → Int32) (gu1 : Nat → Int32) (gk1 : Nat → Int32) (gm1 : Nat → Int32) (gc1 : Nat → Int64) (gw1 : Nat → Int32) (gl1 : Nat → Int32) (gh1 : Nat → Int32) (gt1 : Nat → Int64) (gy1 : Nat → Int32) (gq1 : Nat → Int32) (ge11 : Nat → Int32) (gn11 : Nat → Int32) (gp11 : Nat → Int32) (gs1 : Nat → Int32) (gx11 : Nat → Int32) (gx21 : Nat → Int32) (gx31 : Nat → Int32) (ln1 : Nat → Nat) (fz1 : Nat → Nat) (sq1 : Nat → Nat), r = (q_kind nn gk x) ∧ (u11 = u1) ∧ (u21 = u2) ∧ (u31 = u3) ∧ (gv1 = gv) ∧ (nl1 = nl) ∧ (gu1 = gu) ∧ (nn1 = nn) ∧ (gk1 = gk) ∧ (ln1 = ln) ∧ (gw1 = gw) ∧ (gh1 = gh) ∧ (gc1 = gc) ∧ (nf1 = nf) ∧ (fz1 = fz) ∧ (gq1 = gq) ∧ (nc1 = nc) ∧ (ge11 = ge1) ∧ (gn11 = gn1) ∧ (gp11 = gp1) ∧ (sq1 = sq) ∧ (ks1 = ks) ∧ (gx11 = gx1) ∧ (gx21 = gx2) ∧ (gx31 = gx3) ∧ (lk1 = lk) ∧ zIM cy f1 o wev wnb wki wmy wce wiw wli wha wwt wfy wfk wem wna wpl whs wk1 wk2 wk3 u11 u21 u31 nl1 nn1 nf1 nc1 lk1 ks1 gv1 gu1 gk1 gm1 gc1 gw1 gl1 gh1 gt1 gy1 gq1 ge11 gn11 gp11 gs1 gx11 gx21 gx31 ln1 fz1 sq1) := by
  intro sz
  refine z_body (by decide +kernel) (Nat.le_of_ble_eq_true rfl) ?_
  intro p e s m below meth c ls C hr hin hsz hz hl
  subst hsz
  have hx := C.1
  have hb := C.2.1
  have hA : ∀ q, s.heap.size ≤ q → zA f s.heap.size q := fun q h => Or.inr h
  have hS : va_S (zA f s.heap.size) s.heap s.heap [] := va_S.rf
  have hl : lv_has ls 2 [(0, .ref o), (1, .int x)] := hl
  obtain ⟨x_o, x_wev, x_wnb, x_wki, x_wmy, x_wce, x_wiw, x_wli, x_wha, x_wwt, x_wfy, x_wfk, x_wem, x_wna, x_wpl, x_whs, x_wk1, x_wk2, x_wk3, hn60, hl12, hf6, hc60, hs40, hMP, hgy, hfz, hgs, hME, hlk, hgw, hfd, n_wki_wmy, n_wki_wiw, n_wki_wli, n_wki_wha, n_wki_wem, n_wki_wna, n_wki_wpl, n_wmy_wiw, n_wmy_wli, n_wmy_wha, n_wmy_wem, n_wmy_wna, n_wmy_wpl, n_wiw_wli, n_wiw_wha, n_wiw_wem, n_wiw_wna, n_wiw_wpl, n_wli_wha, n_wli_wem, n_wli_wna, n_wli_wpl, n_wha_wem, n_wha_wna, n_wha_wpl, n_wem_wna, n_wem_wpl, n_wna_wpl, n_wk1_wk2, n_wk1_wk3, n_wk2_wk3⟩ := id hI
  refine lv_aload_n hx hb dX8_kind_0 rfl (lv_at hl 0 rfl) ?_
  refine lv_iload_n hx hb dX8_kind_1 rfl (lv_at hl 1 rfl) ?_
  rcases z_findi x nn with ⟨ja, hja, hva⟩ | hva
  · have hFa : isF nn x = true := isF_t hn60 hja hva
    have hIa : fI x = ja := fI_of (by omega) hva
    have hNa : ¬ x = (-1) := by rw [hva]; exact z_nim1 (by omega)
    refine z_callVi (As := [.int x]) C hz hS hA hl (k_X8_isFigure_A l D cy f o wev wnb wki wmy wce wiw wli wha wwt wfy wfk wem wna wpl whs wk1 wk2 wk3 u1 u2 u3 nl nn nf nc lk ks x ja x_o hn60 hva hja) zyX8_isFigure mMX8_139 x_o zl8 rfl rfl (Nat.le_of_ble_eq_true rfl) ⟨Nat.le_of_ble_eq_true rfl, Nat.le_of_ble_eq_true rfl⟩ ⟨Nat.le_of_ble_eq_true rfl, Nat.le_of_ble_eq_true rfl⟩ dX8_kind_2 (fun r f1 H locs h2 hz hS => ?_)
    obtain ⟨rfl, k3⟩ := h2
    refine lv_if_eq (tgt := 17) hx hb dX8_kind_5 (by decide) (fun c4 => ?_) (fun c4 => ?_)
    · exact absurd c4 (by decide)
    refine lv_aload_n hx hb dX8_kind_8 rfl (lv_at hl 0 rfl) ?_
    have a5 : f1 o = some (.inr (8, [.int u1, .int u2, .int u3, .ref wev, .int (nI nl), .ref wnb, .int (nI nn), .ref wki, .ref wmy, .ref wce, .ref wiw, .ref wli, .ref wha, .ref wwt, .int (nI nf), .ref wfy, .ref wfk, .int (nI nc), .ref wem, .ref wna, .ref wpl, .ref whs, .long lk, .int (nI ks), .ref wk1, .ref wk2, .ref wk3])) := k3 _ _ x_o 
    refine z_get (v := .ref wki) C hz a5 zl8 mFX8_20 (by decide) rfl dX8_kind_9 ?_
    refine lv_iload_n hx hb dX8_kind_12 rfl (lv_at hl 1 rfl) ?_
    have a6 : f1 wki = some (.inl (cy 0, 60, .inl gk)) := k3 _ _ x_wki 
    refine z_iald ja C hz a6 hva (by omega) (by omega) dX8_kind_13 ?_
    refine lv_goto (tgt := 19) hx hb dX8_kind_14 (by decide) ?_
    have a7 : f1 wev = some (.inl (cy 0, 8, .inl gv)) := k3 _ _ x_wev 
    have a8 : f1 wnb = some (.inl (cy 0, 12, .inl gu)) := k3 _ _ x_wnb 
    have a9 : f1 wmy = some (.inl (cy 0, 60, .inl gm)) := k3 _ _ x_wmy 
    have a10 : f1 wce = some (.inl (cy 1, 960, .inr (.inl gc))) := k3 _ _ x_wce 
    have a11 : f1 wiw = some (.inl (cy 2, 60, .inl gw)) := k3 _ _ x_wiw 
    have a12 : f1 wli = some (.inl (cy 0, 60, .inl gl)) := k3 _ _ x_wli 
    have a13 : f1 wha = some (.inl (cy 0, 60, .inl gh)) := k3 _ _ x_wha 
    have a14 : f1 wwt = some (.inl (cy 1, 60, .inr (.inl gt))) := k3 _ _ x_wwt 
    have a15 : f1 wfy = some (.inl (cy 0, 6, .inl gy)) := k3 _ _ x_wfy 
    have a16 : f1 wfk = some (.inl (cy 0, 24, .inl gq)) := k3 _ _ x_wfk 
    have a17 : f1 wem = some (.inl (cy 0, 60, .inl ge1)) := k3 _ _ x_wem 
    have a18 : f1 wna = some (.inl (cy 0, 60, .inl gn1)) := k3 _ _ x_wna 
    have a19 : f1 wpl = some (.inl (cy 0, 60, .inl gp1)) := k3 _ _ x_wpl 
    have a20 : f1 whs = some (.inl (cy 0, 4, .inl gs)) := k3 _ _ x_whs 
    have a21 : f1 wk1 = some (.inl (cy 0, 40, .inl gx1)) := k3 _ _ x_wk1 
    have a22 : f1 wk2 = some (.inl (cy 0, 40, .inl gx2)) := k3 _ _ x_wk2 
    have a23 : f1 wk3 = some (.inl (cy 0, 40, .inl gx3)) := k3 _ _ x_wk3 
    exact z_iret C hr rfl hz hS ⟨u1, u2, u3, nl, nn, nf, nc, lk, ks, gv, gu, gk, gm, gc, gw, gl, gh, gt, gy, gq, ge1, gn1, gp1, gs, gx1, gx2, gx3, ln, fz, sq, (by simp [q_kind, hFa, hIa, hNa, c4]), rfl, rfl, rfl, rfl, rfl, rfl, rfl, rfl, rfl, rfl, rfl, rfl, rfl, rfl, rfl, rfl, rfl, rfl, rfl, rfl, rfl, rfl, rfl, rfl, rfl, ⟨a5, a7, a8, a6, a9, a10, a11, a12, a13, a14, a15, a16, a17, a18, a19, a20, a21, a22, a23, hn60, hl12, hf6, hc60, hs40, hMP, hgy, hfz, hgs, hME, hlk, hgw, hfd, n_wki_wmy, n_wki_wiw, n_wki_wli, n_wki_wha, n_wki_wem, n_wki_wna, n_wki_wpl, n_wmy_wiw, n_wmy_wli, n_wmy_wha, n_wmy_wem, n_wmy_wna, n_wmy_wpl, n_wiw_wli, n_wiw_wha, n_wiw_wem, n_wiw_wna, n_wiw_wpl, n_wli_wha, n_wli_wem, n_wli_wna, n_wli_wpl, n_wha_wem, n_wha_wna, n_wha_wpl, n_wem_wna, n_wem_wpl, n_wna_wpl, n_wk1_wk2, n_wk1_wk3, n_wk2_wk3⟩⟩ (Nat.le_of_ble_eq_true rfl) (Nat.le_of_ble_eq_true rfl) dX8_kind_19
  · have hFa : isF nn x = false := isF_f hn60 hva
    refine z_callVi (As := [.int x]) C hz hS hA hl (k_X8_isFigure_B l D cy f o wev wnb wki wmy wce wiw wli wha wwt wfy wfk wem wna wpl whs wk1 wk2 wk3 u1 u2 u3 nl nn nf nc lk ks x x_o hn60 hva) zyX8_isFigure mMX8_139 x_o zl8 rfl rfl (Nat.le_of_ble_eq_true rfl) ⟨Nat.le_of_ble_eq_true rfl, Nat.le_of_ble_eq_true rfl⟩ ⟨Nat.le_of_ble_eq_true rfl, Nat.le_of_ble_eq_true rfl⟩ dX8_kind_2 (fun r f24 H locs h25 hz hS => ?_)
    obtain ⟨rfl, k26⟩ := h25
    refine lv_if_eq (tgt := 17) hx hb dX8_kind_5 (by decide) (fun c27 => ?_) (fun c27 => ?_)
    rotate_left
    · exact absurd c27 (by decide)
    refine lv_bipush (v := (-2)) hx hb dX8_kind_17 (by decide) ?_
    have a28 : f24 o = some (.inr (8, [.int u1, .int u2, .int u3, .ref wev, .int (nI nl), .ref wnb, .int (nI nn), .ref wki, .ref wmy, .ref wce, .ref wiw, .ref wli, .ref wha, .ref wwt, .int (nI nf), .ref wfy, .ref wfk, .int (nI nc), .ref wem, .ref wna, .ref wpl, .ref whs, .long lk, .int (nI ks), .ref wk1, .ref wk2, .ref wk3])) := k26 _ _ x_o 
    have a29 : f24 wev = some (.inl (cy 0, 8, .inl gv)) := k26 _ _ x_wev 
    have a30 : f24 wnb = some (.inl (cy 0, 12, .inl gu)) := k26 _ _ x_wnb 
    have a31 : f24 wki = some (.inl (cy 0, 60, .inl gk)) := k26 _ _ x_wki 
    have a32 : f24 wmy = some (.inl (cy 0, 60, .inl gm)) := k26 _ _ x_wmy 
    have a33 : f24 wce = some (.inl (cy 1, 960, .inr (.inl gc))) := k26 _ _ x_wce 
    have a34 : f24 wiw = some (.inl (cy 2, 60, .inl gw)) := k26 _ _ x_wiw 
    have a35 : f24 wli = some (.inl (cy 0, 60, .inl gl)) := k26 _ _ x_wli 
    have a36 : f24 wha = some (.inl (cy 0, 60, .inl gh)) := k26 _ _ x_wha 
    have a37 : f24 wwt = some (.inl (cy 1, 60, .inr (.inl gt))) := k26 _ _ x_wwt 
    have a38 : f24 wfy = some (.inl (cy 0, 6, .inl gy)) := k26 _ _ x_wfy 
    have a39 : f24 wfk = some (.inl (cy 0, 24, .inl gq)) := k26 _ _ x_wfk 
    have a40 : f24 wem = some (.inl (cy 0, 60, .inl ge1)) := k26 _ _ x_wem 
    have a41 : f24 wna = some (.inl (cy 0, 60, .inl gn1)) := k26 _ _ x_wna 
    have a42 : f24 wpl = some (.inl (cy 0, 60, .inl gp1)) := k26 _ _ x_wpl 
    have a43 : f24 whs = some (.inl (cy 0, 4, .inl gs)) := k26 _ _ x_whs 
    have a44 : f24 wk1 = some (.inl (cy 0, 40, .inl gx1)) := k26 _ _ x_wk1 
    have a45 : f24 wk2 = some (.inl (cy 0, 40, .inl gx2)) := k26 _ _ x_wk2 
    have a46 : f24 wk3 = some (.inl (cy 0, 40, .inl gx3)) := k26 _ _ x_wk3 
    exact z_iret C hr rfl hz hS ⟨u1, u2, u3, nl, nn, nf, nc, lk, ks, gv, gu, gk, gm, gc, gw, gl, gh, gt, gy, gq, ge1, gn1, gp1, gs, gx1, gx2, gx3, ln, fz, sq, (by simp [q_kind, hFa, c27]), rfl, rfl, rfl, rfl, rfl, rfl, rfl, rfl, rfl, rfl, rfl, rfl, rfl, rfl, rfl, rfl, rfl, rfl, rfl, rfl, rfl, rfl, rfl, rfl, rfl, ⟨a28, a29, a30, a31, a32, a33, a34, a35, a36, a37, a38, a39, a40, a41, a42, a43, a44, a45, a46, hn60, hl12, hf6, hc60, hs40, hMP, hgy, hfz, hgs, hME, hlk, hgw, hfd, n_wki_wmy, n_wki_wiw, n_wki_wli, n_wki_wha, n_wki_wem, n_wki_wna, n_wki_wpl, n_wmy_wiw, n_wmy_wli, n_wmy_wha, n_wmy_wem, n_wmy_wna, n_wmy_wpl, n_wiw_wli, n_wiw_wha, n_wiw_wem, n_wiw_wna, n_wiw_wpl, n_wli_wha, n_wli_wem, n_wli_wna, n_wli_wpl, n_wha_wem, n_wha_wna, n_wha_wpl, n_wem_wna, n_wem_wpl, n_wna_wpl, n_wk1_wk2, n_wk1_wk3, n_wk2_wk3⟩⟩ (Nat.le_of_ble_eq_true rfl) (Nat.le_of_ble_eq_true rfl) dX8_kind_19
abbrev rmX8_parts : Room := { frames := 1, cells := 0, slots := 0, locals := 21 }
set_option maxHeartbeats 4000000 in
set_option maxRecDepth 100000 in
theorem k_X8_parts (l : Launch) (D : va_G) (cy : Nat → ClassId) (f : zM) (o : Nat) (wev : Nat) (wnb : Nat) (wki : Nat) (wmy : Nat) (wce : Nat) (wiw : Nat) (wli : Nat) (wha : Nat) (wwt : Nat) (wfy : Nat) (wfk : Nat) (wem : Nat) (wna : Nat) (wpl : Nat) (whs : Nat) (wk1 : Nat) (wk2 : Nat) (wk3 : Nat) (u1 : Int32) (u2 : Int32) (u3 : Int32) (nl : Nat) (nn : Nat) (nf : Nat) (nc : Nat) (lk : Int64) (ks : Nat) (gv : Nat → Int32) (gu : Nat → Int32) (gk : Nat → Int32) (gm : Nat → Int32) (gc : Nat → Int64) (gw : Nat → Int32) (gl : Nat → Int32) (gh : Nat → Int32) (gt : Nat → Int64) (gy : Nat → Int32) (gq : Nat → Int32) (ge1 : Nat → Int32) (gn1 : Nat → Int32) (gp1 : Nat → Int32) (gs : Nat → Int32) (gx1 : Nat → Int32) (gx2 : Nat → Int32) (gx3 : Nat → Int32) (ln : Nat → Nat) (fz : Nat → Nat) (sq : Nat → Nat) (x : Int32)    (hI : zIM cy f o wev wnb wki wmy wce wiw wli wha wwt wfy wfk wem wna wpl whs wk1 wk2 wk3 u1 u2 u3 nl nn nf nc lk ks gv gu gk gm gc gw gl gh gt gy gq ge1 gn1 gp1 gs gx1 gx2 gx3 ln fz sq) : zCi l D cy yX8_parts cX8_parts 2 (Option.some Jvm.ClassFile.FieldType.int) rmX8_parts [.ref o, .int x] f (fun (r : Int32) (f1 : zM) => ∃ (u11 : Int32) (u21 : Int32) (u31 : Int32) (nl1 : Nat) (nn1 : Nat) (nf1 : Nat) (nc1 : Nat) (lk1 : Int64) (ks1 : Nat) (gv1 : Nat → Int32) (gu1 : Nat → Int32) (gk1 : Nat → Int32) (gm1 : Nat → Int32) (gc1 : Nat → Int64) (gw1 : Nat → Int32) (gl1 : Nat → Int32) (gh1 : Nat → Int32) (gt1 : Nat → Int64) (gy1 : Nat → Int32) (gq1 : Nat → Int32) (ge11 : Nat → Int32) (gn11 : Nat → Int32) (gp11 : Nat → Int32) (gs1 : Nat → Int32) (gx11 : Nat → Int32) (gx21 : Nat → Int32) (gx31 : Nat → Int32) (ln1 : Nat → Nat) (fz1 : Nat → Nat) (sq1 : Nat → Nat), r = (q_parts nn ln x) ∧ (u11 = u1) ∧ (u21 = u2) ∧ (u31 = u3) ∧ (gv1 = gv) ∧ (nl1 = nl) ∧ (gu1 = gu) ∧ (nn1 = nn) ∧ (gk1 = gk) ∧ (ln1 = ln) ∧ (gw1 = gw) ∧ (gh1 = gh) ∧ (gc1 = gc) ∧ (nf1 = nf) ∧ (fz1 = fz) ∧ (gq1 = gq) ∧ (nc1 = nc) ∧ (ge11 = ge1) ∧ (gn11 = gn1) ∧ (gp11 = gp1) ∧ (sq1 = sq) ∧ (ks1 = ks) ∧ (gx11 = gx1) ∧ (gx21 = gx2) ∧ (gx31 = gx3) ∧ (lk1 = lk) ∧ zIM cy f1 o wev wnb wki wmy wce wiw wli wha wwt wfy wfk wem wna wpl whs wk1 wk2 wk3 u11 u21 u31 nl1 nn1 nf1 nc1 lk1 ks1 gv1 gu1 gk1 gm1 gc1 gw1 gl1 gh1 gt1 gy1 gq1 ge11 gn11 gp11 gs1 gx11 gx21 gx31 ln1 fz1 sq1) := by
  intro sz
  refine z_body (by decide +kernel) (Nat.le_of_ble_eq_true rfl) ?_
  intro p e s m below meth c ls C hr hin hsz hz hl
  subst hsz
  have hx := C.1
  have hb := C.2.1
  have hA : ∀ q, s.heap.size ≤ q → zA f s.heap.size q := fun q h => Or.inr h
  have hS : va_S (zA f s.heap.size) s.heap s.heap [] := va_S.rf
  have hl : lv_has ls 2 [(0, .ref o), (1, .int x)] := hl
  obtain ⟨x_o, x_wev, x_wnb, x_wki, x_wmy, x_wce, x_wiw, x_wli, x_wha, x_wwt, x_wfy, x_wfk, x_wem, x_wna, x_wpl, x_whs, x_wk1, x_wk2, x_wk3, hn60, hl12, hf6, hc60, hs40, hMP, hgy, hfz, hgs, hME, hlk, hgw, hfd, n_wki_wmy, n_wki_wiw, n_wki_wli, n_wki_wha, n_wki_wem, n_wki_wna, n_wki_wpl, n_wmy_wiw, n_wmy_wli, n_wmy_wha, n_wmy_wem, n_wmy_wna, n_wmy_wpl, n_wiw_wli, n_wiw_wha, n_wiw_wem, n_wiw_wna, n_wiw_wpl, n_wli_wha, n_wli_wem, n_wli_wna, n_wli_wpl, n_wha_wem, n_wha_wna, n_wha_wpl, n_wem_wna, n_wem_wpl, n_wna_wpl, n_wk1_wk2, n_wk1_wk3, n_wk2_wk3⟩ := id hI
  refine lv_aload_n hx hb dX8_parts_0 rfl (lv_at hl 0 rfl) ?_
  refine lv_iload_n hx hb dX8_parts_1 rfl (lv_at hl 1 rfl) ?_
  rcases z_findi x nn with ⟨ja, hja, hva⟩ | hva
  · have hFa : isF nn x = true := isF_t hn60 hja hva
    have hIa : fI x = ja := fI_of (by omega) hva
    have hNa : ¬ x = (-1) := by rw [hva]; exact z_nim1 (by omega)
    refine z_callVi (As := [.int x]) C hz hS hA hl (k_X8_isFigure_A l D cy f o wev wnb wki wmy wce wiw wli wha wwt wfy wfk wem wna wpl whs wk1 wk2 wk3 u1 u2 u3 nl nn nf nc lk ks x ja x_o hn60 hva hja) zyX8_isFigure mMX8_139 x_o zl8 rfl rfl (Nat.le_of_ble_eq_true rfl) ⟨Nat.le_of_ble_eq_true rfl, Nat.le_of_ble_eq_true rfl⟩ ⟨Nat.le_of_ble_eq_true rfl, Nat.le_of_ble_eq_true rfl⟩ dX8_parts_2 (fun r f1 H locs h2 hz hS => ?_)
    obtain ⟨rfl, k3⟩ := h2
    refine lv_if_eq (tgt := 17) hx hb dX8_parts_5 (by decide) (fun c4 => ?_) (fun c4 => ?_)
    · exact absurd c4 (by decide)
    refine lv_aload_n hx hb dX8_parts_8 rfl (lv_at hl 0 rfl) ?_
    have a5 : f1 o = some (.inr (8, [.int u1, .int u2, .int u3, .ref wev, .int (nI nl), .ref wnb, .int (nI nn), .ref wki, .ref wmy, .ref wce, .ref wiw, .ref wli, .ref wha, .ref wwt, .int (nI nf), .ref wfy, .ref wfk, .int (nI nc), .ref wem, .ref wna, .ref wpl, .ref whs, .long lk, .int (nI ks), .ref wk1, .ref wk2, .ref wk3])) := k3 _ _ x_o 
    refine z_get (v := .ref wmy) C hz a5 zl8 mFX8_23 (by decide) rfl dX8_parts_9 ?_
    refine lv_iload_n hx hb dX8_parts_12 rfl (lv_at hl 1 rfl) ?_
    have a6 : f1 wmy = some (.inl (cy 0, 60, .inl gm)) := k3 _ _ x_wmy 
    refine z_iald ja C hz a6 hva (by omega) (by omega) dX8_parts_13 ?_
    refine lv_topi (fun y7 e8 => ?_)
    obtain rfl : y7 = nI (ln ja) := e8.trans (hMP ja hja).1
    refine lv_goto (tgt := 19) hx hb dX8_parts_14 (by decide) ?_
    have a9 : f1 wev = some (.inl (cy 0, 8, .inl gv)) := k3 _ _ x_wev 
    have a10 : f1 wnb = some (.inl (cy 0, 12, .inl gu)) := k3 _ _ x_wnb 
    have a11 : f1 wki = some (.inl (cy 0, 60, .inl gk)) := k3 _ _ x_wki 
    have a12 : f1 wce = some (.inl (cy 1, 960, .inr (.inl gc))) := k3 _ _ x_wce 
    have a13 : f1 wiw = some (.inl (cy 2, 60, .inl gw)) := k3 _ _ x_wiw 
    have a14 : f1 wli = some (.inl (cy 0, 60, .inl gl)) := k3 _ _ x_wli 
    have a15 : f1 wha = some (.inl (cy 0, 60, .inl gh)) := k3 _ _ x_wha 
    have a16 : f1 wwt = some (.inl (cy 1, 60, .inr (.inl gt))) := k3 _ _ x_wwt 
    have a17 : f1 wfy = some (.inl (cy 0, 6, .inl gy)) := k3 _ _ x_wfy 
    have a18 : f1 wfk = some (.inl (cy 0, 24, .inl gq)) := k3 _ _ x_wfk 
    have a19 : f1 wem = some (.inl (cy 0, 60, .inl ge1)) := k3 _ _ x_wem 
    have a20 : f1 wna = some (.inl (cy 0, 60, .inl gn1)) := k3 _ _ x_wna 
    have a21 : f1 wpl = some (.inl (cy 0, 60, .inl gp1)) := k3 _ _ x_wpl 
    have a22 : f1 whs = some (.inl (cy 0, 4, .inl gs)) := k3 _ _ x_whs 
    have a23 : f1 wk1 = some (.inl (cy 0, 40, .inl gx1)) := k3 _ _ x_wk1 
    have a24 : f1 wk2 = some (.inl (cy 0, 40, .inl gx2)) := k3 _ _ x_wk2 
    have a25 : f1 wk3 = some (.inl (cy 0, 40, .inl gx3)) := k3 _ _ x_wk3 
    exact z_iret C hr rfl hz hS ⟨u1, u2, u3, nl, nn, nf, nc, lk, ks, gv, gu, gk, gm, gc, gw, gl, gh, gt, gy, gq, ge1, gn1, gp1, gs, gx1, gx2, gx3, ln, fz, sq, (by simp [q_parts, hFa, hIa, hNa, c4]), rfl, rfl, rfl, rfl, rfl, rfl, rfl, rfl, rfl, rfl, rfl, rfl, rfl, rfl, rfl, rfl, rfl, rfl, rfl, rfl, rfl, rfl, rfl, rfl, rfl, ⟨a5, a9, a10, a11, a6, a12, a13, a14, a15, a16, a17, a18, a19, a20, a21, a22, a23, a24, a25, hn60, hl12, hf6, hc60, hs40, hMP, hgy, hfz, hgs, hME, hlk, hgw, hfd, n_wki_wmy, n_wki_wiw, n_wki_wli, n_wki_wha, n_wki_wem, n_wki_wna, n_wki_wpl, n_wmy_wiw, n_wmy_wli, n_wmy_wha, n_wmy_wem, n_wmy_wna, n_wmy_wpl, n_wiw_wli, n_wiw_wha, n_wiw_wem, n_wiw_wna, n_wiw_wpl, n_wli_wha, n_wli_wem, n_wli_wna, n_wli_wpl, n_wha_wem, n_wha_wna, n_wha_wpl, n_wem_wna, n_wem_wpl, n_wna_wpl, n_wk1_wk2, n_wk1_wk3, n_wk2_wk3⟩⟩ (Nat.le_of_ble_eq_true rfl) (Nat.le_of_ble_eq_true rfl) dX8_parts_19
  · have hFa : isF nn x = false := isF_f hn60 hva
    refine z_callVi (As := [.int x]) C hz hS hA hl (k_X8_isFigure_B l D cy f o wev wnb wki wmy wce wiw wli wha wwt wfy wfk wem wna wpl whs wk1 wk2 wk3 u1 u2 u3 nl nn nf nc lk ks x x_o hn60 hva) zyX8_isFigure mMX8_139 x_o zl8 rfl rfl (Nat.le_of_ble_eq_true rfl) ⟨Nat.le_of_ble_eq_true rfl, Nat.le_of_ble_eq_true rfl⟩ ⟨Nat.le_of_ble_eq_true rfl, Nat.le_of_ble_eq_true rfl⟩ dX8_parts_2 (fun r f26 H locs h27 hz hS => ?_)
    obtain ⟨rfl, k28⟩ := h27
    refine lv_if_eq (tgt := 17) hx hb dX8_parts_5 (by decide) (fun c29 => ?_) (fun c29 => ?_)
    rotate_left
    · exact absurd c29 (by decide)
    refine lv_bipush (v := (-2)) hx hb dX8_parts_17 (by decide) ?_
    have a30 : f26 o = some (.inr (8, [.int u1, .int u2, .int u3, .ref wev, .int (nI nl), .ref wnb, .int (nI nn), .ref wki, .ref wmy, .ref wce, .ref wiw, .ref wli, .ref wha, .ref wwt, .int (nI nf), .ref wfy, .ref wfk, .int (nI nc), .ref wem, .ref wna, .ref wpl, .ref whs, .long lk, .int (nI ks), .ref wk1, .ref wk2, .ref wk3])) := k28 _ _ x_o 
    have a31 : f26 wev = some (.inl (cy 0, 8, .inl gv)) := k28 _ _ x_wev 
    have a32 : f26 wnb = some (.inl (cy 0, 12, .inl gu)) := k28 _ _ x_wnb 
    have a33 : f26 wki = some (.inl (cy 0, 60, .inl gk)) := k28 _ _ x_wki 
    have a34 : f26 wmy = some (.inl (cy 0, 60, .inl gm)) := k28 _ _ x_wmy 
    have a35 : f26 wce = some (.inl (cy 1, 960, .inr (.inl gc))) := k28 _ _ x_wce 
    have a36 : f26 wiw = some (.inl (cy 2, 60, .inl gw)) := k28 _ _ x_wiw 
    have a37 : f26 wli = some (.inl (cy 0, 60, .inl gl)) := k28 _ _ x_wli 
    have a38 : f26 wha = some (.inl (cy 0, 60, .inl gh)) := k28 _ _ x_wha 
    have a39 : f26 wwt = some (.inl (cy 1, 60, .inr (.inl gt))) := k28 _ _ x_wwt 
    have a40 : f26 wfy = some (.inl (cy 0, 6, .inl gy)) := k28 _ _ x_wfy 
    have a41 : f26 wfk = some (.inl (cy 0, 24, .inl gq)) := k28 _ _ x_wfk 
    have a42 : f26 wem = some (.inl (cy 0, 60, .inl ge1)) := k28 _ _ x_wem 
    have a43 : f26 wna = some (.inl (cy 0, 60, .inl gn1)) := k28 _ _ x_wna 
    have a44 : f26 wpl = some (.inl (cy 0, 60, .inl gp1)) := k28 _ _ x_wpl 
    have a45 : f26 whs = some (.inl (cy 0, 4, .inl gs)) := k28 _ _ x_whs 
    have a46 : f26 wk1 = some (.inl (cy 0, 40, .inl gx1)) := k28 _ _ x_wk1 
    have a47 : f26 wk2 = some (.inl (cy 0, 40, .inl gx2)) := k28 _ _ x_wk2 
    have a48 : f26 wk3 = some (.inl (cy 0, 40, .inl gx3)) := k28 _ _ x_wk3 
    exact z_iret C hr rfl hz hS ⟨u1, u2, u3, nl, nn, nf, nc, lk, ks, gv, gu, gk, gm, gc, gw, gl, gh, gt, gy, gq, ge1, gn1, gp1, gs, gx1, gx2, gx3, ln, fz, sq, (by simp [q_parts, hFa, c29]), rfl, rfl, rfl, rfl, rfl, rfl, rfl, rfl, rfl, rfl, rfl, rfl, rfl, rfl, rfl, rfl, rfl, rfl, rfl, rfl, rfl, rfl, rfl, rfl, rfl, ⟨a30, a31, a32, a33, a34, a35, a36, a37, a38, a39, a40, a41, a42, a43, a44, a45, a46, a47, a48, hn60, hl12, hf6, hc60, hs40, hMP, hgy, hfz, hgs, hME, hlk, hgw, hfd, n_wki_wmy, n_wki_wiw, n_wki_wli, n_wki_wha, n_wki_wem, n_wki_wna, n_wki_wpl, n_wmy_wiw, n_wmy_wli, n_wmy_wha, n_wmy_wem, n_wmy_wna, n_wmy_wpl, n_wiw_wli, n_wiw_wha, n_wiw_wem, n_wiw_wna, n_wiw_wpl, n_wli_wha, n_wli_wem, n_wli_wna, n_wli_wpl, n_wha_wem, n_wha_wna, n_wha_wpl, n_wem_wna, n_wem_wpl, n_wna_wpl, n_wk1_wk2, n_wk1_wk3, n_wk2_wk3⟩⟩ (Nat.le_of_ble_eq_true rfl) (Nat.le_of_ble_eq_true rfl) dX8_parts_19
abbrev rmX8_at : Room := { frames := 0, cells := 0, slots := 0, locals := 0 }
set_option maxHeartbeats 4000000 in
set_option maxRecDepth 100000 in
theorem k_X8_at (l : Launch) (D : va_G) (cy : Nat → ClassId) (f : zM) (o : Nat) (wev : Nat) (wnb : Nat) (wki : Nat) (wmy : Nat) (wce : Nat) (wiw : Nat) (wli : Nat) (wha : Nat) (wwt : Nat) (wfy : Nat) (wfk : Nat) (wem : Nat) (wna : Nat) (wpl : Nat) (whs : Nat) (wk1 : Nat) (wk2 : Nat) (wk3 : Nat) (u1 : Int32) (u2 : Int32) (u3 : Int32) (nl : Nat) (nn : Nat) (nf : Nat) (nc : Nat) (lk : Int64) (ks : Nat) (gm : Nat → Int32) (gc : Nat → Int64) (j : Nat) (y : Int32) (v : Int64) (t : Nat) (p0 : f o = some (.inr (8, [.int u1, .int u2, .int u3, .ref wev, .int (nI nl), .ref wnb, .int (nI nn), .ref wki, .ref wmy, .ref wce, .ref wiw, .ref wli, .ref wha, .ref wwt, .int (nI nf), .ref wfy, .ref wfk, .int (nI nc), .ref wem, .ref wna, .ref wpl, .ref whs, .long lk, .int (nI ks), .ref wk1, .ref wk2, .ref wk3]))) (p1 : f wmy = some (.inl (cy 0, 60, .inl gm))) (p2 : f wce = some (.inl (cy 1, 960, .inr (.inl gc))))  (hj60 : j < 60) (hmt : gm j = nI t) (ht : t ≤ 15) : zCl l D cy yX8_at cX8_at 5 (Option.some Jvm.ClassFile.FieldType.long) rmX8_at [.ref o, .int (nI j), .int y, .long v] f (fun (r : Int64) (f1 : zM) => r = (if y < 0 then v else if nI t ≤ y then v else gc (16 * j + fI y)) ∧ (∀ (b : Nat) (e : va_E), f b = some e → f1 b = some e)) := by
  intro sz
  refine z_body (by decide +kernel) (Nat.le_of_ble_eq_true rfl) ?_
  intro p e s m below meth c ls C hr hin hsz hz hl
  subst hsz
  have hx := C.1
  have hb := C.2.1
  have hA : ∀ q, s.heap.size ≤ q → zA f s.heap.size q := fun q h => Or.inr h
  have hS : va_S (zA f s.heap.size) s.heap s.heap [] := va_S.rf
  have hl : lv_has ls 5 [(0, .ref o), (1, .int (nI j)), (2, .int y), (3, .long v)] := hl
  refine lv_iload_n hx hb dX8_at_0 rfl (lv_at hl 2 rfl) ?_
  refine lv_if_lt (tgt := 28) hx hb dX8_at_1 (by decide) (fun c1 => ?_) (fun c1 => ?_)
  · refine lv_lload_n hx hb dX8_at_28 rfl (lv_at hl 3 rfl) ?_
    exact z_lret C hr hz hS ⟨(by simp [c1]), (fun b e hb => hb)⟩ (Nat.le_of_ble_eq_true rfl) (Nat.le_of_ble_eq_true rfl) dX8_at_29
  · refine lv_iload_n hx hb dX8_at_4 rfl (lv_at hl 2 rfl) ?_
    refine lv_aload_n hx hb dX8_at_5 rfl (lv_at hl 0 rfl) ?_
    refine z_get (v := .ref wmy) C hz p0 zl8 mFX8_23 (by decide) rfl dX8_at_6 ?_
    refine lv_iload_n hx hb dX8_at_9 rfl (lv_at hl 1 rfl) ?_
    refine z_iald j C hz p1 rfl (by omega) (by omega) dX8_at_10 ?_
    refine lv_topi (fun y2 e3 => ?_)
    obtain rfl : y2 = nI t := e3.trans hmt
    refine lv_icmp_ge (tgt := 28) hx hb dX8_at_11 (by decide) (fun c4 => ?_) (fun c4 => ?_)
    · refine lv_lload_n hx hb dX8_at_28 rfl (lv_at hl 3 rfl) ?_
      exact z_lret C hr hz hS ⟨(by simp [c1, c4]), (fun b e hb => hb)⟩ (Nat.le_of_ble_eq_true rfl) (Nat.le_of_ble_eq_true rfl) dX8_at_29
    · obtain ⟨ky, hky, hyk⟩ := z_ixl c1 c4 (by omega)
      refine lv_aload_n hx hb dX8_at_14 rfl (lv_at hl 0 rfl) ?_
      refine z_get (v := .ref wce) C hz p0 zl8 mFX8_26 (by decide) rfl dX8_at_15 ?_
      refine lv_bipush (v := 16) hx hb dX8_at_18 (by decide) ?_
      refine lv_iload_n hx hb dX8_at_20 rfl (lv_at hl 1 rfl) ?_
      refine lv_imul hx hb dX8_at_21 ?_
      refine lv_iload_n hx hb dX8_at_22 rfl (lv_at hl 2 rfl) ?_
      refine lv_iadd hx hb dX8_at_23 ?_
      refine z_lald (16 * j + ky) C hz p2 (by rw [hyk]; exact z_ce j ky) (by omega) (by omega) dX8_at_24 ?_
      refine lv_goto (tgt := 29) hx hb dX8_at_25 (by decide) ?_
      exact z_lret C hr hz hS ⟨(by rw [if_neg c1, if_neg (Int32.not_le.mpr (by rw [hyk]; exact (nI_ltI (by omega) (by omega)).mpr hky)), fI_of (by omega) hyk]), (fun b e hb => hb)⟩ (Nat.le_of_ble_eq_true rfl) (Nat.le_of_ble_eq_true rfl) dX8_at_29
abbrev rmX8_part_ : Room := { frames := 1, cells := 0, slots := 0, locals := 24 }
set_option maxHeartbeats 4000000 in
set_option maxRecDepth 100000 in
theorem k_X8_part_ (l : Launch) (D : va_G) (cy : Nat → ClassId) (f : zM) (o : Nat) (wev : Nat) (wnb : Nat) (wki : Nat) (wmy : Nat) (wce : Nat) (wiw : Nat) (wli : Nat) (wha : Nat) (wwt : Nat) (wfy : Nat) (wfk : Nat) (wem : Nat) (wna : Nat) (wpl : Nat) (whs : Nat) (wk1 : Nat) (wk2 : Nat) (wk3 : Nat) (u1 : Int32) (u2 : Int32) (u3 : Int32) (nl : Nat) (nn : Nat) (nf : Nat) (nc : Nat) (lk : Int64) (ks : Nat) (gv : Nat → Int32) (gu : Nat → Int32) (gk : Nat → Int32) (gm : Nat → Int32) (gc : Nat → Int64) (gw : Nat → Int32) (gl : Nat → Int32) (gh : Nat → Int32) (gt : Nat → Int64) (gy : Nat → Int32) (gq : Nat → Int32) (ge1 : Nat → Int32) (gn1 : Nat → Int32) (gp1 : Nat → Int32) (gs : Nat → Int32) (gx1 : Nat → Int32) (gx2 : Nat → Int32) (gx3 : Nat → Int32) (ln : Nat → Nat) (fz : Nat → Nat) (sq : Nat → Nat) (x : Int32) (y : Int32)    (hI : zIM cy f o wev wnb wki wmy wce wiw wli wha wwt wfy wfk wem wna wpl whs wk1 wk2 wk3 u1 u2 u3 nl nn nf nc lk ks gv gu gk gm gc gw gl gh gt gy gq ge1 gn1 gp1 gs gx1 gx2 gx3 ln fz sq) : zCl l D cy yX8_part_ cX8_part_ 3 (Option.some Jvm.ClassFile.FieldType.long) rmX8_part_ [.ref o, .int x, .int y] f (fun (r : Int64) (f1 : zM) => ∃ (u11 : Int32) (u21 : Int32) (u31 : Int32) (nl1 : Nat) (nn1 : Nat) (nf1 : Nat) (nc1 : Nat) (lk1 : Int64) (ks1 : Nat) (gv1 : Nat → Int32) (gu1 : Nat → Int32) (gk1 : Nat → Int32) (gm1 : Nat → Int32) (gc1 : Nat → Int64) (gw1 : Nat → Int32) (gl1 : Nat → Int32) (gh1 : Nat → Int32) (gt1 : Nat → Int64) (gy1 : Nat → Int32) (gq1 : Nat → Int32) (ge11 : Nat → Int32) (gn11 : Nat → Int32) (gp11 : Nat → Int32) (gs1 : Nat → Int32) (gx11 : Nat → Int32) (gx21 : Nat → Int32) (gx31 : Nat → Int32) (ln1 : Nat → Nat) (fz1 : Nat → Nat) (sq1 : Nat → Nat), r = (q_part nn ln (fun i j => gc (16 * i + j)) x y) ∧ (u11 = u1) ∧ (u21 = u2) ∧ (u31 = u3) ∧ (gv1 = gv) ∧ (nl1 = nl) ∧ (gu1 = gu) ∧ (nn1 = nn) ∧ (gk1 = gk) ∧ (ln1 = ln) ∧ (gw1 = gw) ∧ (gh1 = gh) ∧ (gc1 = gc) ∧ (nf1 = nf) ∧ (fz1 = fz) ∧ (gq1 = gq) ∧ (nc1 = nc) ∧ (ge11 = ge1) ∧ (gn11 = gn1) ∧ (gp11 = gp1) ∧ (sq1 = sq) ∧ (ks1 = ks) ∧ (gx11 = gx1) ∧ (gx21 = gx2) ∧ (gx31 = gx3) ∧ (lk1 = lk) ∧ zIM cy f1 o wev wnb wki wmy wce wiw wli wha wwt wfy wfk wem wna wpl whs wk1 wk2 wk3 u11 u21 u31 nl1 nn1 nf1 nc1 lk1 ks1 gv1 gu1 gk1 gm1 gc1 gw1 gl1 gh1 gt1 gy1 gq1 ge11 gn11 gp11 gs1 gx11 gx21 gx31 ln1 fz1 sq1) := by
  intro sz
  refine z_body (by decide +kernel) (Nat.le_of_ble_eq_true rfl) ?_
  intro p e s m below meth c ls C hr hin hsz hz hl
  subst hsz
  have hx := C.1
  have hb := C.2.1
  have hA : ∀ q, s.heap.size ≤ q → zA f s.heap.size q := fun q h => Or.inr h
  have hS : va_S (zA f s.heap.size) s.heap s.heap [] := va_S.rf
  have hl : lv_has ls 3 [(0, .ref o), (1, .int x), (2, .int y)] := hl
  obtain ⟨x_o, x_wev, x_wnb, x_wki, x_wmy, x_wce, x_wiw, x_wli, x_wha, x_wwt, x_wfy, x_wfk, x_wem, x_wna, x_wpl, x_whs, x_wk1, x_wk2, x_wk3, hn60, hl12, hf6, hc60, hs40, hMP, hgy, hfz, hgs, hME, hlk, hgw, hfd, n_wki_wmy, n_wki_wiw, n_wki_wli, n_wki_wha, n_wki_wem, n_wki_wna, n_wki_wpl, n_wmy_wiw, n_wmy_wli, n_wmy_wha, n_wmy_wem, n_wmy_wna, n_wmy_wpl, n_wiw_wli, n_wiw_wha, n_wiw_wem, n_wiw_wna, n_wiw_wpl, n_wli_wha, n_wli_wem, n_wli_wna, n_wli_wpl, n_wha_wem, n_wha_wna, n_wha_wpl, n_wem_wna, n_wem_wpl, n_wna_wpl, n_wk1_wk2, n_wk1_wk3, n_wk2_wk3⟩ := id hI
  refine lv_aload_n hx hb dX8_part__0 rfl (lv_at hl 0 rfl) ?_
  refine lv_iload_n hx hb dX8_part__1 rfl (lv_at hl 1 rfl) ?_
  rcases z_findi x nn with ⟨ja, hja, hva⟩ | hva
  · have hFa : isF nn x = true := isF_t hn60 hja hva
    have hIa : fI x = ja := fI_of (by omega) hva
    have hNa : ¬ x = (-1) := by rw [hva]; exact z_nim1 (by omega)
    refine z_callVi (As := [.int x]) C hz hS hA hl (k_X8_isFigure_A l D cy f o wev wnb wki wmy wce wiw wli wha wwt wfy wfk wem wna wpl whs wk1 wk2 wk3 u1 u2 u3 nl nn nf nc lk ks x ja x_o hn60 hva hja) zyX8_isFigure mMX8_139 x_o zl8 rfl rfl (Nat.le_of_ble_eq_true rfl) ⟨Nat.le_of_ble_eq_true rfl, Nat.le_of_ble_eq_true rfl⟩ ⟨Nat.le_of_ble_eq_true rfl, Nat.le_of_ble_eq_true rfl⟩ dX8_part__2 (fun r f1 H locs h2 hz hS => ?_)
    obtain ⟨rfl, k3⟩ := h2
    refine lv_if_eq (tgt := 20) hx hb dX8_part__5 (by decide) (fun c4 => ?_) (fun c4 => ?_)
    · exact absurd c4 (by decide)
    refine lv_aload_n hx hb dX8_part__8 rfl (lv_at hl 0 rfl) ?_
    refine lv_iload_n hx hb dX8_part__9 rfl (lv_at hl 1 rfl) ?_
    refine lv_topi (fun y5 e6 => ?_)
    obtain rfl : y5 = nI ja := e6.trans hva
    refine lv_iload_n hx hb dX8_part__10 rfl (lv_at hl 2 rfl) ?_
    refine lv_ldc2 (v := (-3000000000000000000)) hx hb C.2.2.2.1 (C.2.2.2.2.1 _ mKX8_149) dX8_part__11 ?_
    have a7 : f1 o = some (.inr (8, [.int u1, .int u2, .int u3, .ref wev, .int (nI nl), .ref wnb, .int (nI nn), .ref wki, .ref wmy, .ref wce, .ref wiw, .ref wli, .ref wha, .ref wwt, .int (nI nf), .ref wfy, .ref wfk, .int (nI nc), .ref wem, .ref wna, .ref wpl, .ref whs, .long lk, .int (nI ks), .ref wk1, .ref wk2, .ref wk3])) := k3 _ _ x_o 
    have a8 : f1 wmy = some (.inl (cy 0, 60, .inl gm)) := k3 _ _ x_wmy 
    have a9 : f1 wce = some (.inl (cy 1, 960, .inr (.inl gc))) := k3 _ _ x_wce 
    refine z_callVl (As := [.int (nI ja), .int y, .long (-3000000000000000000)]) C hz hS hA hl (k_X8_at l D cy f1 o wev wnb wki wmy wce wiw wli wha wwt wfy wfk wem wna wpl whs wk1 wk2 wk3 u1 u2 u3 nl nn nf nc lk ks gm gc ja y (-3000000000000000000) (ln ja) a7 a8 a9 (by omega) (hMP ja (by omega)).1 (by have h9 := (hMP ja (by omega)).2.1; omega)) zyX8_at mMX8_151 a7 zl8 rfl rfl (Nat.le_of_ble_eq_true rfl) ⟨Nat.le_of_ble_eq_true rfl, Nat.le_of_ble_eq_true rfl⟩ ⟨Nat.le_of_ble_eq_true rfl, Nat.le_of_ble_eq_true rfl⟩ dX8_part__14 (fun r f10 H locs h11 hz hS => ?_)
    obtain ⟨rfl, k12⟩ := h11
    refine lv_goto (tgt := 23) hx hb dX8_part__17 (by decide) ?_
    have a13 : f10 o = some (.inr (8, [.int u1, .int u2, .int u3, .ref wev, .int (nI nl), .ref wnb, .int (nI nn), .ref wki, .ref wmy, .ref wce, .ref wiw, .ref wli, .ref wha, .ref wwt, .int (nI nf), .ref wfy, .ref wfk, .int (nI nc), .ref wem, .ref wna, .ref wpl, .ref whs, .long lk, .int (nI ks), .ref wk1, .ref wk2, .ref wk3])) := k12 _ _ a7 
    have a14 : f1 wev = some (.inl (cy 0, 8, .inl gv)) := k3 _ _ x_wev 
    have a15 : f10 wev = some (.inl (cy 0, 8, .inl gv)) := k12 _ _ a14 
    have a16 : f1 wnb = some (.inl (cy 0, 12, .inl gu)) := k3 _ _ x_wnb 
    have a17 : f10 wnb = some (.inl (cy 0, 12, .inl gu)) := k12 _ _ a16 
    have a18 : f1 wki = some (.inl (cy 0, 60, .inl gk)) := k3 _ _ x_wki 
    have a19 : f10 wki = some (.inl (cy 0, 60, .inl gk)) := k12 _ _ a18 
    have a20 : f10 wmy = some (.inl (cy 0, 60, .inl gm)) := k12 _ _ a8 
    have a21 : f10 wce = some (.inl (cy 1, 960, .inr (.inl gc))) := k12 _ _ a9 
    have a22 : f1 wiw = some (.inl (cy 2, 60, .inl gw)) := k3 _ _ x_wiw 
    have a23 : f10 wiw = some (.inl (cy 2, 60, .inl gw)) := k12 _ _ a22 
    have a24 : f1 wli = some (.inl (cy 0, 60, .inl gl)) := k3 _ _ x_wli 
    have a25 : f10 wli = some (.inl (cy 0, 60, .inl gl)) := k12 _ _ a24 
    have a26 : f1 wha = some (.inl (cy 0, 60, .inl gh)) := k3 _ _ x_wha 
    have a27 : f10 wha = some (.inl (cy 0, 60, .inl gh)) := k12 _ _ a26 
    have a28 : f1 wwt = some (.inl (cy 1, 60, .inr (.inl gt))) := k3 _ _ x_wwt 
    have a29 : f10 wwt = some (.inl (cy 1, 60, .inr (.inl gt))) := k12 _ _ a28 
    have a30 : f1 wfy = some (.inl (cy 0, 6, .inl gy)) := k3 _ _ x_wfy 
    have a31 : f10 wfy = some (.inl (cy 0, 6, .inl gy)) := k12 _ _ a30 
    have a32 : f1 wfk = some (.inl (cy 0, 24, .inl gq)) := k3 _ _ x_wfk 
    have a33 : f10 wfk = some (.inl (cy 0, 24, .inl gq)) := k12 _ _ a32 
    have a34 : f1 wem = some (.inl (cy 0, 60, .inl ge1)) := k3 _ _ x_wem 
    have a35 : f10 wem = some (.inl (cy 0, 60, .inl ge1)) := k12 _ _ a34 
    have a36 : f1 wna = some (.inl (cy 0, 60, .inl gn1)) := k3 _ _ x_wna 
    have a37 : f10 wna = some (.inl (cy 0, 60, .inl gn1)) := k12 _ _ a36 
    have a38 : f1 wpl = some (.inl (cy 0, 60, .inl gp1)) := k3 _ _ x_wpl 
    have a39 : f10 wpl = some (.inl (cy 0, 60, .inl gp1)) := k12 _ _ a38 
    have a40 : f1 whs = some (.inl (cy 0, 4, .inl gs)) := k3 _ _ x_whs 
    have a41 : f10 whs = some (.inl (cy 0, 4, .inl gs)) := k12 _ _ a40 
    have a42 : f1 wk1 = some (.inl (cy 0, 40, .inl gx1)) := k3 _ _ x_wk1 
    have a43 : f10 wk1 = some (.inl (cy 0, 40, .inl gx1)) := k12 _ _ a42 
    have a44 : f1 wk2 = some (.inl (cy 0, 40, .inl gx2)) := k3 _ _ x_wk2 
    have a45 : f10 wk2 = some (.inl (cy 0, 40, .inl gx2)) := k12 _ _ a44 
    have a46 : f1 wk3 = some (.inl (cy 0, 40, .inl gx3)) := k3 _ _ x_wk3 
    have a47 : f10 wk3 = some (.inl (cy 0, 40, .inl gx3)) := k12 _ _ a46 
    exact z_lret C hr hz hS ⟨u1, u2, u3, nl, nn, nf, nc, lk, ks, gv, gu, gk, gm, gc, gw, gl, gh, gt, gy, gq, ge1, gn1, gp1, gs, gx1, gx2, gx3, ln, fz, sq, (by simp [q_part, hFa, hIa, hNa, c4]), rfl, rfl, rfl, rfl, rfl, rfl, rfl, rfl, rfl, rfl, rfl, rfl, rfl, rfl, rfl, rfl, rfl, rfl, rfl, rfl, rfl, rfl, rfl, rfl, rfl, ⟨a13, a15, a17, a19, a20, a21, a23, a25, a27, a29, a31, a33, a35, a37, a39, a41, a43, a45, a47, hn60, hl12, hf6, hc60, hs40, hMP, hgy, hfz, hgs, hME, hlk, hgw, hfd, n_wki_wmy, n_wki_wiw, n_wki_wli, n_wki_wha, n_wki_wem, n_wki_wna, n_wki_wpl, n_wmy_wiw, n_wmy_wli, n_wmy_wha, n_wmy_wem, n_wmy_wna, n_wmy_wpl, n_wiw_wli, n_wiw_wha, n_wiw_wem, n_wiw_wna, n_wiw_wpl, n_wli_wha, n_wli_wem, n_wli_wna, n_wli_wpl, n_wha_wem, n_wha_wna, n_wha_wpl, n_wem_wna, n_wem_wpl, n_wna_wpl, n_wk1_wk2, n_wk1_wk3, n_wk2_wk3⟩⟩ (Nat.le_of_ble_eq_true rfl) (Nat.le_of_ble_eq_true rfl) dX8_part__23
  · have hFa : isF nn x = false := isF_f hn60 hva
    refine z_callVi (As := [.int x]) C hz hS hA hl (k_X8_isFigure_B l D cy f o wev wnb wki wmy wce wiw wli wha wwt wfy wfk wem wna wpl whs wk1 wk2 wk3 u1 u2 u3 nl nn nf nc lk ks x x_o hn60 hva) zyX8_isFigure mMX8_139 x_o zl8 rfl rfl (Nat.le_of_ble_eq_true rfl) ⟨Nat.le_of_ble_eq_true rfl, Nat.le_of_ble_eq_true rfl⟩ ⟨Nat.le_of_ble_eq_true rfl, Nat.le_of_ble_eq_true rfl⟩ dX8_part__2 (fun r f48 H locs h49 hz hS => ?_)
    obtain ⟨rfl, k50⟩ := h49
    refine lv_if_eq (tgt := 20) hx hb dX8_part__5 (by decide) (fun c51 => ?_) (fun c51 => ?_)
    rotate_left
    · exact absurd c51 (by decide)
    refine lv_ldc2 (v := (-3000000000000000000)) hx hb C.2.2.2.1 (C.2.2.2.2.1 _ mKX8_149) dX8_part__20 ?_
    have a52 : f48 o = some (.inr (8, [.int u1, .int u2, .int u3, .ref wev, .int (nI nl), .ref wnb, .int (nI nn), .ref wki, .ref wmy, .ref wce, .ref wiw, .ref wli, .ref wha, .ref wwt, .int (nI nf), .ref wfy, .ref wfk, .int (nI nc), .ref wem, .ref wna, .ref wpl, .ref whs, .long lk, .int (nI ks), .ref wk1, .ref wk2, .ref wk3])) := k50 _ _ x_o 
    have a53 : f48 wev = some (.inl (cy 0, 8, .inl gv)) := k50 _ _ x_wev 
    have a54 : f48 wnb = some (.inl (cy 0, 12, .inl gu)) := k50 _ _ x_wnb 
    have a55 : f48 wki = some (.inl (cy 0, 60, .inl gk)) := k50 _ _ x_wki 
    have a56 : f48 wmy = some (.inl (cy 0, 60, .inl gm)) := k50 _ _ x_wmy 
    have a57 : f48 wce = some (.inl (cy 1, 960, .inr (.inl gc))) := k50 _ _ x_wce 
    have a58 : f48 wiw = some (.inl (cy 2, 60, .inl gw)) := k50 _ _ x_wiw 
    have a59 : f48 wli = some (.inl (cy 0, 60, .inl gl)) := k50 _ _ x_wli 
    have a60 : f48 wha = some (.inl (cy 0, 60, .inl gh)) := k50 _ _ x_wha 
    have a61 : f48 wwt = some (.inl (cy 1, 60, .inr (.inl gt))) := k50 _ _ x_wwt 
    have a62 : f48 wfy = some (.inl (cy 0, 6, .inl gy)) := k50 _ _ x_wfy 
    have a63 : f48 wfk = some (.inl (cy 0, 24, .inl gq)) := k50 _ _ x_wfk 
    have a64 : f48 wem = some (.inl (cy 0, 60, .inl ge1)) := k50 _ _ x_wem 
    have a65 : f48 wna = some (.inl (cy 0, 60, .inl gn1)) := k50 _ _ x_wna 
    have a66 : f48 wpl = some (.inl (cy 0, 60, .inl gp1)) := k50 _ _ x_wpl 
    have a67 : f48 whs = some (.inl (cy 0, 4, .inl gs)) := k50 _ _ x_whs 
    have a68 : f48 wk1 = some (.inl (cy 0, 40, .inl gx1)) := k50 _ _ x_wk1 
    have a69 : f48 wk2 = some (.inl (cy 0, 40, .inl gx2)) := k50 _ _ x_wk2 
    have a70 : f48 wk3 = some (.inl (cy 0, 40, .inl gx3)) := k50 _ _ x_wk3 
    exact z_lret C hr hz hS ⟨u1, u2, u3, nl, nn, nf, nc, lk, ks, gv, gu, gk, gm, gc, gw, gl, gh, gt, gy, gq, ge1, gn1, gp1, gs, gx1, gx2, gx3, ln, fz, sq, (by simp [q_part, hFa, c51]), rfl, rfl, rfl, rfl, rfl, rfl, rfl, rfl, rfl, rfl, rfl, rfl, rfl, rfl, rfl, rfl, rfl, rfl, rfl, rfl, rfl, rfl, rfl, rfl, rfl, ⟨a52, a53, a54, a55, a56, a57, a58, a59, a60, a61, a62, a63, a64, a65, a66, a67, a68, a69, a70, hn60, hl12, hf6, hc60, hs40, hMP, hgy, hfz, hgs, hME, hlk, hgw, hfd, n_wki_wmy, n_wki_wiw, n_wki_wli, n_wki_wha, n_wki_wem, n_wki_wna, n_wki_wpl, n_wmy_wiw, n_wmy_wli, n_wmy_wha, n_wmy_wem, n_wmy_wna, n_wmy_wpl, n_wiw_wli, n_wiw_wha, n_wiw_wem, n_wiw_wna, n_wiw_wpl, n_wli_wha, n_wli_wem, n_wli_wna, n_wli_wpl, n_wha_wem, n_wha_wna, n_wha_wpl, n_wem_wna, n_wem_wpl, n_wna_wpl, n_wk1_wk2, n_wk1_wk3, n_wk2_wk3⟩⟩ (Nat.le_of_ble_eq_true rfl) (Nat.le_of_ble_eq_true rfl) dX8_part__23
abbrev rmX8_at_ : Room := { frames := 1, cells := 0, slots := 0, locals := 23 }
set_option maxHeartbeats 4000000 in
set_option maxRecDepth 100000 in
theorem k_X8_at_ (l : Launch) (D : va_G) (cy : Nat → ClassId) (f : zM) (o : Nat) (wev : Nat) (wnb : Nat) (wki : Nat) (wmy : Nat) (wce : Nat) (wiw : Nat) (wli : Nat) (wha : Nat) (wwt : Nat) (wfy : Nat) (wfk : Nat) (wem : Nat) (wna : Nat) (wpl : Nat) (whs : Nat) (wk1 : Nat) (wk2 : Nat) (wk3 : Nat) (u1 : Int32) (u2 : Int32) (u3 : Int32) (nl : Nat) (nn : Nat) (nf : Nat) (nc : Nat) (lk : Int64) (ks : Nat) (gv : Nat → Int32) (gu : Nat → Int32) (gk : Nat → Int32) (gm : Nat → Int32) (gc : Nat → Int64) (gw : Nat → Int32) (gl : Nat → Int32) (gh : Nat → Int32) (gt : Nat → Int64) (gy : Nat → Int32) (gq : Nat → Int32) (ge1 : Nat → Int32) (gn1 : Nat → Int32) (gp1 : Nat → Int32) (gs : Nat → Int32) (gx1 : Nat → Int32) (gx2 : Nat → Int32) (gx3 : Nat → Int32) (ln : Nat → Nat) (fz : Nat → Nat) (sq : Nat → Nat) (x : Int32) (y : Int32)    (hI : zIM cy f o wev wnb wki wmy wce wiw wli wha wwt wfy wfk wem wna wpl whs wk1 wk2 wk3 u1 u2 u3 nl nn nf nc lk ks gv gu gk gm gc gw gl gh gt gy gq ge1 gn1 gp1 gs gx1 gx2 gx3 ln fz sq) : zCi l D cy yX8_at_ cX8_at_ 3 (Option.some Jvm.ClassFile.FieldType.int) rmX8_at_ [.ref o, .int x, .int y] f (fun (r : Int32) (f1 : zM) => ∃ (u11 : Int32) (u21 : Int32) (u31 : Int32) (nl1 : Nat) (nn1 : Nat) (nf1 : Nat) (nc1 : Nat) (lk1 : Int64) (ks1 : Nat) (gv1 : Nat → Int32) (gu1 : Nat → Int32) (gk1 : Nat → Int32) (gm1 : Nat → Int32) (gc1 : Nat → Int64) (gw1 : Nat → Int32) (gl1 : Nat → Int32) (gh1 : Nat → Int32) (gt1 : Nat → Int64) (gy1 : Nat → Int32) (gq1 : Nat → Int32) (ge11 : Nat → Int32) (gn11 : Nat → Int32) (gp11 : Nat → Int32) (gs1 : Nat → Int32) (gx11 : Nat → Int32) (gx21 : Nat → Int32) (gx31 : Nat → Int32) (ln1 : Nat → Nat) (fz1 : Nat → Nat) (sq1 : Nat → Nat), r = ((q_at nn gk ln (fun i j => gc (16 * i + j)) x y).1) ∧ (u11 = (q_at nn gk ln (fun i j => gc (16 * i + j)) x y).2.1) ∧ (u21 = (q_at nn gk ln (fun i j => gc (16 * i + j)) x y).2.2.1) ∧ (u31 = (q_at nn gk ln (fun i j => gc (16 * i + j)) x y).2.2.2) ∧ (gv1 = zEV gv (q_at nn gk ln (fun i j => gc (16 * i + j)) x y).2.1) ∧ (nl1 = nl) ∧ (gu1 = gu) ∧ (nn1 = nn) ∧ (gk1 = gk) ∧ (ln1 = ln) ∧ (gw1 = gw) ∧ (gh1 = gh) ∧ (gc1 = gc) ∧ (nf1 = nf) ∧ (fz1 = fz) ∧ (gq1 = gq) ∧ (nc1 = nc) ∧ (ge11 = ge1) ∧ (gn11 = gn1) ∧ (gp11 = gp1) ∧ (sq1 = sq) ∧ (ks1 = ks) ∧ (gx11 = gx1) ∧ (gx21 = gx2) ∧ (gx31 = gx3) ∧ (lk1 = lk) ∧ zIM cy f1 o wev wnb wki wmy wce wiw wli wha wwt wfy wfk wem wna wpl whs wk1 wk2 wk3 u11 u21 u31 nl1 nn1 nf1 nc1 lk1 ks1 gv1 gu1 gk1 gm1 gc1 gw1 gl1 gh1 gt1 gy1 gq1 ge11 gn11 gp11 gs1 gx11 gx21 gx31 ln1 fz1 sq1) := by
  intro sz
  refine z_body (by decide +kernel) (Nat.le_of_ble_eq_true rfl) ?_
  intro p e s m below meth c ls C hr hin hsz hz hl
  subst hsz
  have hx := C.1
  have hb := C.2.1
  have hA : ∀ q, s.heap.size ≤ q → zA f s.heap.size q := fun q h => Or.inr h
  have hS : va_S (zA f s.heap.size) s.heap s.heap [] := va_S.rf
  have hl : lv_has ls 3 [(0, .ref o), (1, .int x), (2, .int y)] := hl
  obtain ⟨x_o, x_wev, x_wnb, x_wki, x_wmy, x_wce, x_wiw, x_wli, x_wha, x_wwt, x_wfy, x_wfk, x_wem, x_wna, x_wpl, x_whs, x_wk1, x_wk2, x_wk3, hn60, hl12, hf6, hc60, hs40, hMP, hgy, hfz, hgs, hME, hlk, hgw, hfd, n_wki_wmy, n_wki_wiw, n_wki_wli, n_wki_wha, n_wki_wem, n_wki_wna, n_wki_wpl, n_wmy_wiw, n_wmy_wli, n_wmy_wha, n_wmy_wem, n_wmy_wna, n_wmy_wpl, n_wiw_wli, n_wiw_wha, n_wiw_wem, n_wiw_wna, n_wiw_wpl, n_wli_wha, n_wli_wem, n_wli_wna, n_wli_wpl, n_wha_wem, n_wha_wna, n_wha_wpl, n_wem_wna, n_wem_wpl, n_wna_wpl, n_wk1_wk2, n_wk1_wk3, n_wk2_wk3⟩ := id hI
  refine lv_aload_n hx hb dX8_at__0 rfl (lv_at hl 0 rfl) ?_
  refine z_callVv (As := []) C hz hS hA hl (k_X8_begin l D cy f o wev wnb wki wmy wce wiw wli wha wwt wfy wfk wem wna wpl whs wk1 wk2 wk3 u1 u2 u3 nl nn nf nc lk ks x_o ) zyX8_begin mMX8_116 x_o zl8 rfl rfl (Nat.le_of_ble_eq_true rfl) ⟨Nat.le_of_ble_eq_true rfl, Nat.le_of_ble_eq_true rfl⟩ ⟨Nat.le_of_ble_eq_true rfl, Nat.le_of_ble_eq_true rfl⟩ dX8_at__1 (fun  f1 H locs h2 hz hS => ?_)
  obtain ⟨a3, k4⟩ := h2
  refine lv_aload_n hx hb dX8_at__4 rfl (lv_at hl 0 rfl) ?_
  refine lv_iload_n hx hb dX8_at__5 rfl (lv_at hl 1 rfl) ?_
  rcases z_findi x nn with ⟨ja, hja, hva⟩ | hva
  · have hFa : isF nn x = true := isF_t hn60 hja hva
    have hIa : fI x = ja := fI_of (by omega) hva
    have hNa : ¬ x = (-1) := by rw [hva]; exact z_nim1 (by omega)
    refine z_callVi (As := [.int x]) C hz hS hA hl (k_X8_isFigure_A l D cy f1 o wev wnb wki wmy wce wiw wli wha wwt wfy wfk wem wna wpl whs wk1 wk2 wk3 0 (-1) 0 nl nn nf nc lk ks x ja a3 hn60 hva hja) zyX8_isFigure mMX8_139 a3 zl8 rfl rfl (Nat.le_of_ble_eq_true rfl) ⟨Nat.le_of_ble_eq_true rfl, Nat.le_of_ble_eq_true rfl⟩ ⟨Nat.le_of_ble_eq_true rfl, Nat.le_of_ble_eq_true rfl⟩ dX8_at__6 (fun r f5 H locs h6 hz hS => ?_)
    obtain ⟨rfl, k7⟩ := h6
    refine lv_if_ne (tgt := 15) hx hb dX8_at__9 (by decide) (fun c8 => ?_) (fun c8 => ?_)
    rotate_left
    · exact absurd c8 (by decide)
    refine lv_aload_n hx hb dX8_at__15 rfl (lv_at hl 0 rfl) ?_
    have a9 : f5 o = some (.inr (8, [.int 0, .int (-1), .int 0, .ref wev, .int (nI nl), .ref wnb, .int (nI nn), .ref wki, .ref wmy, .ref wce, .ref wiw, .ref wli, .ref wha, .ref wwt, .int (nI nf), .ref wfy, .ref wfk, .int (nI nc), .ref wem, .ref wna, .ref wpl, .ref whs, .long lk, .int (nI ks), .ref wk1, .ref wk2, .ref wk3])) := k7 _ _ a3 
    refine z_get (v := .ref wki) C hz a9 zl8 mFX8_20 (by decide) rfl dX8_at__16 ?_
    refine lv_iload_n hx hb dX8_at__19 rfl (lv_at hl 1 rfl) ?_
    have a10 : f1 wki = some (.inl (cy 0, 60, .inl gk)) := k4 _ _ x_wki (z_ne x_wki x_o rfl)
    have a11 : f5 wki = some (.inl (cy 0, 60, .inl gk)) := k7 _ _ a10 
    refine z_iald ja C hz a11 hva (by omega) (by omega) dX8_at__20 ?_
    refine lv_bipush (v := 6) hx hb dX8_at__21 (by decide) ?_
    refine lv_icmp_eq (tgt := 34) hx hb dX8_at__23 (by decide) (fun c12 => ?_) (fun c12 => ?_)
    · refine lv_aload_n hx hb dX8_at__34 rfl (lv_at hl 0 rfl) ?_
      refine lv_iload_n hx hb dX8_at__35 rfl (lv_at hl 1 rfl) ?_
      refine lv_iload_n hx hb dX8_at__36 rfl (lv_at hl 2 rfl) ?_
      have a13 : f1 wmy = some (.inl (cy 0, 60, .inl gm)) := k4 _ _ x_wmy (z_ne x_wmy x_o rfl)
      have a14 : f5 wmy = some (.inl (cy 0, 60, .inl gm)) := k7 _ _ a13 
      refine z_callVi (As := [.int x, .int y]) C hz hS hA hl (k_X8_hasPlace l D cy f5 o wev wnb wki wmy wce wiw wli wha wwt wfy wfk wem wna wpl whs wk1 wk2 wk3 0 (-1) 0 nl nn nf nc lk ks gm x y ja (ln ja) a9 a14 hva (by omega) (hMP ja (by omega)).1) zyX8_hasPlace mMX8_145 a9 zl8 rfl rfl (Nat.le_of_ble_eq_true rfl) ⟨Nat.le_of_ble_eq_true rfl, Nat.le_of_ble_eq_true rfl⟩ ⟨Nat.le_of_ble_eq_true rfl, Nat.le_of_ble_eq_true rfl⟩ dX8_at__37 (fun r f15 H locs h16 hz hS => ?_)
      obtain ⟨rfl, k17⟩ := h16
      refine lv_if_ne (tgt := 51) hx hb dX8_at__40 (by decide) (fun c18 => ?_) (fun c18 => ?_)
      · have hPa : isP (ln ja) y = true := isP_t c18
        obtain ⟨kx, hyk, hkx⟩ := z_place (by have h9 := (hMP ja (by omega)).2.1; omega) c18
        have hIy : fI y = kx := fI_of (by have h9 := (hMP ja (by omega)).2.1; omega) hyk
        refine lv_aload_n hx hb dX8_at__51 rfl (lv_at hl 0 rfl) ?_
        refine lv_iload_n hx hb dX8_at__52 rfl (lv_at hl 1 rfl) ?_
        refine lv_topi (fun y19 e20 => ?_)
        obtain rfl : y19 = nI ja := e20.trans hva
        refine lv_iconst (v := 1) hx hb dX8_at__53 (by decide) ?_
        refine lv_iload_n hx hb dX8_at__54 rfl (lv_at hl 2 rfl) ?_
        refine lv_iadd hx hb dX8_at__55 ?_
        refine lv_topi (fun y21 e22 => ?_)
        obtain rfl : y21 = nI (1 + kx) := e22.trans (by rw [hyk]; exact nI_add 1 kx)
        have a23 : f15 o = some (.inr (8, [.int 0, .int (-1), .int 0, .ref wev, .int (nI nl), .ref wnb, .int (nI nn), .ref wki, .ref wmy, .ref wce, .ref wiw, .ref wli, .ref wha, .ref wwt, .int (nI nf), .ref wfy, .ref wfk, .int (nI nc), .ref wem, .ref wna, .ref wpl, .ref whs, .long lk, .int (nI ks), .ref wk1, .ref wk2, .ref wk3])) := k17 _ _ a9 
        have a24 : f1 wce = some (.inl (cy 1, 960, .inr (.inl gc))) := k4 _ _ x_wce (z_ne x_wce x_o rfl)
        have a25 : f5 wce = some (.inl (cy 1, 960, .inr (.inl gc))) := k7 _ _ a24 
        have a26 : f15 wce = some (.inl (cy 1, 960, .inr (.inl gc))) := k17 _ _ a25 
        refine z_callVl (As := [.int (nI ja), .int (nI (1 + kx))]) C hz hS hA hl (k_X8_cellOf l D cy f15 o wev wnb wki wmy wce wiw wli wha wwt wfy wfk wem wna wpl whs wk1 wk2 wk3 0 (-1) 0 nl nn nf nc lk ks gc ja (1 + kx) a23 a26 (by have h9 := (hMP ja (by omega)).2.1; omega)) zyX8_cellOf mMX8_90 a23 zl8 rfl rfl (Nat.le_of_ble_eq_true rfl) ⟨Nat.le_of_ble_eq_true rfl, Nat.le_of_ble_eq_true rfl⟩ ⟨Nat.le_of_ble_eq_true rfl, Nat.le_of_ble_eq_true rfl⟩ dX8_at__56 (fun r f27 H locs h28 hz hS => ?_)
        obtain ⟨rfl, k29⟩ := h28
        refine lv_l2i (v := (gc (16 * ja + (1 + kx))).toInt32) hx hb dX8_at__59 rfl ?_
        have a30 : f27 o = some (.inr (8, [.int 0, .int (-1), .int 0, .ref wev, .int (nI nl), .ref wnb, .int (nI nn), .ref wki, .ref wmy, .ref wce, .ref wiw, .ref wli, .ref wha, .ref wwt, .int (nI nf), .ref wfy, .ref wfk, .int (nI nc), .ref wem, .ref wna, .ref wpl, .ref whs, .long lk, .int (nI ks), .ref wk1, .ref wk2, .ref wk3])) := k29 _ _ a23 
        have a31 : f1 wev = some (.inl (cy 0, 8, .inl gv)) := k4 _ _ x_wev (z_ne x_wev x_o rfl)
        have a32 : f5 wev = some (.inl (cy 0, 8, .inl gv)) := k7 _ _ a31 
        have a33 : f15 wev = some (.inl (cy 0, 8, .inl gv)) := k17 _ _ a32 
        have a34 : f27 wev = some (.inl (cy 0, 8, .inl gv)) := k29 _ _ a33 
        have a35 : f1 wnb = some (.inl (cy 0, 12, .inl gu)) := k4 _ _ x_wnb (z_ne x_wnb x_o rfl)
        have a36 : f5 wnb = some (.inl (cy 0, 12, .inl gu)) := k7 _ _ a35 
        have a37 : f15 wnb = some (.inl (cy 0, 12, .inl gu)) := k17 _ _ a36 
        have a38 : f27 wnb = some (.inl (cy 0, 12, .inl gu)) := k29 _ _ a37 
        have a39 : f15 wki = some (.inl (cy 0, 60, .inl gk)) := k17 _ _ a11 
        have a40 : f27 wki = some (.inl (cy 0, 60, .inl gk)) := k29 _ _ a39 
        have a41 : f15 wmy = some (.inl (cy 0, 60, .inl gm)) := k17 _ _ a14 
        have a42 : f27 wmy = some (.inl (cy 0, 60, .inl gm)) := k29 _ _ a41 
        have a43 : f27 wce = some (.inl (cy 1, 960, .inr (.inl gc))) := k29 _ _ a26 
        have a44 : f1 wiw = some (.inl (cy 2, 60, .inl gw)) := k4 _ _ x_wiw (z_ne x_wiw x_o rfl)
        have a45 : f5 wiw = some (.inl (cy 2, 60, .inl gw)) := k7 _ _ a44 
        have a46 : f15 wiw = some (.inl (cy 2, 60, .inl gw)) := k17 _ _ a45 
        have a47 : f27 wiw = some (.inl (cy 2, 60, .inl gw)) := k29 _ _ a46 
        have a48 : f1 wli = some (.inl (cy 0, 60, .inl gl)) := k4 _ _ x_wli (z_ne x_wli x_o rfl)
        have a49 : f5 wli = some (.inl (cy 0, 60, .inl gl)) := k7 _ _ a48 
        have a50 : f15 wli = some (.inl (cy 0, 60, .inl gl)) := k17 _ _ a49 
        have a51 : f27 wli = some (.inl (cy 0, 60, .inl gl)) := k29 _ _ a50 
        have a52 : f1 wha = some (.inl (cy 0, 60, .inl gh)) := k4 _ _ x_wha (z_ne x_wha x_o rfl)
        have a53 : f5 wha = some (.inl (cy 0, 60, .inl gh)) := k7 _ _ a52 
        have a54 : f15 wha = some (.inl (cy 0, 60, .inl gh)) := k17 _ _ a53 
        have a55 : f27 wha = some (.inl (cy 0, 60, .inl gh)) := k29 _ _ a54 
        have a56 : f1 wwt = some (.inl (cy 1, 60, .inr (.inl gt))) := k4 _ _ x_wwt (z_ne x_wwt x_o rfl)
        have a57 : f5 wwt = some (.inl (cy 1, 60, .inr (.inl gt))) := k7 _ _ a56 
        have a58 : f15 wwt = some (.inl (cy 1, 60, .inr (.inl gt))) := k17 _ _ a57 
        have a59 : f27 wwt = some (.inl (cy 1, 60, .inr (.inl gt))) := k29 _ _ a58 
        have a60 : f1 wfy = some (.inl (cy 0, 6, .inl gy)) := k4 _ _ x_wfy (z_ne x_wfy x_o rfl)
        have a61 : f5 wfy = some (.inl (cy 0, 6, .inl gy)) := k7 _ _ a60 
        have a62 : f15 wfy = some (.inl (cy 0, 6, .inl gy)) := k17 _ _ a61 
        have a63 : f27 wfy = some (.inl (cy 0, 6, .inl gy)) := k29 _ _ a62 
        have a64 : f1 wfk = some (.inl (cy 0, 24, .inl gq)) := k4 _ _ x_wfk (z_ne x_wfk x_o rfl)
        have a65 : f5 wfk = some (.inl (cy 0, 24, .inl gq)) := k7 _ _ a64 
        have a66 : f15 wfk = some (.inl (cy 0, 24, .inl gq)) := k17 _ _ a65 
        have a67 : f27 wfk = some (.inl (cy 0, 24, .inl gq)) := k29 _ _ a66 
        have a68 : f1 wem = some (.inl (cy 0, 60, .inl ge1)) := k4 _ _ x_wem (z_ne x_wem x_o rfl)
        have a69 : f5 wem = some (.inl (cy 0, 60, .inl ge1)) := k7 _ _ a68 
        have a70 : f15 wem = some (.inl (cy 0, 60, .inl ge1)) := k17 _ _ a69 
        have a71 : f27 wem = some (.inl (cy 0, 60, .inl ge1)) := k29 _ _ a70 
        have a72 : f1 wna = some (.inl (cy 0, 60, .inl gn1)) := k4 _ _ x_wna (z_ne x_wna x_o rfl)
        have a73 : f5 wna = some (.inl (cy 0, 60, .inl gn1)) := k7 _ _ a72 
        have a74 : f15 wna = some (.inl (cy 0, 60, .inl gn1)) := k17 _ _ a73 
        have a75 : f27 wna = some (.inl (cy 0, 60, .inl gn1)) := k29 _ _ a74 
        have a76 : f1 wpl = some (.inl (cy 0, 60, .inl gp1)) := k4 _ _ x_wpl (z_ne x_wpl x_o rfl)
        have a77 : f5 wpl = some (.inl (cy 0, 60, .inl gp1)) := k7 _ _ a76 
        have a78 : f15 wpl = some (.inl (cy 0, 60, .inl gp1)) := k17 _ _ a77 
        have a79 : f27 wpl = some (.inl (cy 0, 60, .inl gp1)) := k29 _ _ a78 
        have a80 : f1 whs = some (.inl (cy 0, 4, .inl gs)) := k4 _ _ x_whs (z_ne x_whs x_o rfl)
        have a81 : f5 whs = some (.inl (cy 0, 4, .inl gs)) := k7 _ _ a80 
        have a82 : f15 whs = some (.inl (cy 0, 4, .inl gs)) := k17 _ _ a81 
        have a83 : f27 whs = some (.inl (cy 0, 4, .inl gs)) := k29 _ _ a82 
        have a84 : f1 wk1 = some (.inl (cy 0, 40, .inl gx1)) := k4 _ _ x_wk1 (z_ne x_wk1 x_o rfl)
        have a85 : f5 wk1 = some (.inl (cy 0, 40, .inl gx1)) := k7 _ _ a84 
        have a86 : f15 wk1 = some (.inl (cy 0, 40, .inl gx1)) := k17 _ _ a85 
        have a87 : f27 wk1 = some (.inl (cy 0, 40, .inl gx1)) := k29 _ _ a86 
        have a88 : f1 wk2 = some (.inl (cy 0, 40, .inl gx2)) := k4 _ _ x_wk2 (z_ne x_wk2 x_o rfl)
        have a89 : f5 wk2 = some (.inl (cy 0, 40, .inl gx2)) := k7 _ _ a88 
        have a90 : f15 wk2 = some (.inl (cy 0, 40, .inl gx2)) := k17 _ _ a89 
        have a91 : f27 wk2 = some (.inl (cy 0, 40, .inl gx2)) := k29 _ _ a90 
        have a92 : f1 wk3 = some (.inl (cy 0, 40, .inl gx3)) := k4 _ _ x_wk3 (z_ne x_wk3 x_o rfl)
        have a93 : f5 wk3 = some (.inl (cy 0, 40, .inl gx3)) := k7 _ _ a92 
        have a94 : f15 wk3 = some (.inl (cy 0, 40, .inl gx3)) := k17 _ _ a93 
        have a95 : f27 wk3 = some (.inl (cy 0, 40, .inl gx3)) := k29 _ _ a94 
        have hq : q_at nn gk ln (fun i j => gc (16 * i + j)) x y = ((gc (16 * ja + (1 + kx))).toInt32, 0, (-1), 0) := by simp [q_at, hFa, hIa, hNa, hPa, hIy, c8, c12, c18]
        exact z_iret C hr rfl hz hS ⟨0, (-1), 0, nl, nn, nf, nc, lk, ks, gv, gu, gk, gm, gc, gw, gl, gh, gt, gy, gq, ge1, gn1, gp1, gs, gx1, gx2, gx3, ln, fz, sq, (by rw [hq]), (by rw [hq]), (by rw [hq]), (by rw [hq]), (by rw [hq]; exact (zEV0 gv).symm), rfl, rfl, rfl, rfl, rfl, rfl, rfl, rfl, rfl, rfl, rfl, rfl, rfl, rfl, rfl, rfl, rfl, rfl, rfl, rfl, rfl, ⟨a30, a34, a38, a40, a42, a43, a47, a51, a55, a59, a63, a67, a71, a75, a79, a83, a87, a91, a95, hn60, hl12, hf6, hc60, hs40, hMP, hgy, hfz, hgs, hME, hlk, hgw, hfd, n_wki_wmy, n_wki_wiw, n_wki_wli, n_wki_wha, n_wki_wem, n_wki_wna, n_wki_wpl, n_wmy_wiw, n_wmy_wli, n_wmy_wha, n_wmy_wem, n_wmy_wna, n_wmy_wpl, n_wiw_wli, n_wiw_wha, n_wiw_wem, n_wiw_wna, n_wiw_wpl, n_wli_wha, n_wli_wem, n_wli_wna, n_wli_wpl, n_wha_wem, n_wha_wna, n_wha_wpl, n_wem_wna, n_wem_wpl, n_wna_wpl, n_wk1_wk2, n_wk1_wk3, n_wk2_wk3⟩⟩ (Nat.le_of_ble_eq_true rfl) (Nat.le_of_ble_eq_true rfl) dX8_at__60
      · have hPa : isP (ln ja) y = false := isP_f c18
        refine lv_aload_n hx hb dX8_at__43 rfl (lv_at hl 0 rfl) ?_
        refine lv_iconst (v := 2) hx hb dX8_at__44 (by decide) ?_
        refine lv_iconst (v := (-1)) hx hb dX8_at__45 (by decide) ?_
        refine lv_iconst (v := 0) hx hb dX8_at__46 (by decide) ?_
        have a96 : f15 o = some (.inr (8, [.int 0, .int (-1), .int 0, .ref wev, .int (nI nl), .ref wnb, .int (nI nn), .ref wki, .ref wmy, .ref wce, .ref wiw, .ref wli, .ref wha, .ref wwt, .int (nI nf), .ref wfy, .ref wfk, .int (nI nc), .ref wem, .ref wna, .ref wpl, .ref whs, .long lk, .int (nI ks), .ref wk1, .ref wk2, .ref wk3])) := k17 _ _ a9 
        have a97 : f1 wev = some (.inl (cy 0, 8, .inl gv)) := k4 _ _ x_wev (z_ne x_wev x_o rfl)
        have a98 : f5 wev = some (.inl (cy 0, 8, .inl gv)) := k7 _ _ a97 
        have a99 : f15 wev = some (.inl (cy 0, 8, .inl gv)) := k17 _ _ a98 
        refine z_callVi (As := [.int 2, .int (-1), .int 0]) C hz hS hA hl (k_X8_fails l D cy f15 o wev wnb wki wmy wce wiw wli wha wwt wfy wfk wem wna wpl whs wk1 wk2 wk3 0 (-1) 0 nl nn nf nc lk ks 2 (-1) 0 gv 2 a96 a99 (by decide) (Nat.le_of_ble_eq_true rfl)) zyX8_fails mMX8_135 a96 zl8 rfl rfl (Nat.le_of_ble_eq_true rfl) ⟨Nat.le_of_ble_eq_true rfl, Nat.le_of_ble_eq_true rfl⟩ ⟨Nat.le_of_ble_eq_true rfl, Nat.le_of_ble_eq_true rfl⟩ dX8_at__47 (fun r f100 H locs h101 hz hS => ?_)
        obtain ⟨rfl, a102, a103, k104⟩ := h101
        have a105 : f1 wnb = some (.inl (cy 0, 12, .inl gu)) := k4 _ _ x_wnb (z_ne x_wnb x_o rfl)
        have a106 : f5 wnb = some (.inl (cy 0, 12, .inl gu)) := k7 _ _ a105 
        have a107 : f15 wnb = some (.inl (cy 0, 12, .inl gu)) := k17 _ _ a106 
        have a108 : f100 wnb = some (.inl (cy 0, 12, .inl gu)) := k104 _ _ a107 (z_ne a107 a96 rfl) (z_ne a107 a99 rfl)
        have a109 : f15 wki = some (.inl (cy 0, 60, .inl gk)) := k17 _ _ a11 
        have a110 : f100 wki = some (.inl (cy 0, 60, .inl gk)) := k104 _ _ a109 (z_ne a109 a96 rfl) (z_ne a109 a99 rfl)
        have a111 : f15 wmy = some (.inl (cy 0, 60, .inl gm)) := k17 _ _ a14 
        have a112 : f100 wmy = some (.inl (cy 0, 60, .inl gm)) := k104 _ _ a111 (z_ne a111 a96 rfl) (z_ne a111 a99 rfl)
        have a113 : f1 wce = some (.inl (cy 1, 960, .inr (.inl gc))) := k4 _ _ x_wce (z_ne x_wce x_o rfl)
        have a114 : f5 wce = some (.inl (cy 1, 960, .inr (.inl gc))) := k7 _ _ a113 
        have a115 : f15 wce = some (.inl (cy 1, 960, .inr (.inl gc))) := k17 _ _ a114 
        have a116 : f100 wce = some (.inl (cy 1, 960, .inr (.inl gc))) := k104 _ _ a115 (z_ne a115 a96 rfl) (z_ne a115 a99 rfl)
        have a117 : f1 wiw = some (.inl (cy 2, 60, .inl gw)) := k4 _ _ x_wiw (z_ne x_wiw x_o rfl)
        have a118 : f5 wiw = some (.inl (cy 2, 60, .inl gw)) := k7 _ _ a117 
        have a119 : f15 wiw = some (.inl (cy 2, 60, .inl gw)) := k17 _ _ a118 
        have a120 : f100 wiw = some (.inl (cy 2, 60, .inl gw)) := k104 _ _ a119 (z_ne a119 a96 rfl) (z_ne a119 a99 rfl)
        have a121 : f1 wli = some (.inl (cy 0, 60, .inl gl)) := k4 _ _ x_wli (z_ne x_wli x_o rfl)
        have a122 : f5 wli = some (.inl (cy 0, 60, .inl gl)) := k7 _ _ a121 
        have a123 : f15 wli = some (.inl (cy 0, 60, .inl gl)) := k17 _ _ a122 
        have a124 : f100 wli = some (.inl (cy 0, 60, .inl gl)) := k104 _ _ a123 (z_ne a123 a96 rfl) (z_ne a123 a99 rfl)
        have a125 : f1 wha = some (.inl (cy 0, 60, .inl gh)) := k4 _ _ x_wha (z_ne x_wha x_o rfl)
        have a126 : f5 wha = some (.inl (cy 0, 60, .inl gh)) := k7 _ _ a125 
        have a127 : f15 wha = some (.inl (cy 0, 60, .inl gh)) := k17 _ _ a126 
        have a128 : f100 wha = some (.inl (cy 0, 60, .inl gh)) := k104 _ _ a127 (z_ne a127 a96 rfl) (z_ne a127 a99 rfl)
        have a129 : f1 wwt = some (.inl (cy 1, 60, .inr (.inl gt))) := k4 _ _ x_wwt (z_ne x_wwt x_o rfl)
        have a130 : f5 wwt = some (.inl (cy 1, 60, .inr (.inl gt))) := k7 _ _ a129 
        have a131 : f15 wwt = some (.inl (cy 1, 60, .inr (.inl gt))) := k17 _ _ a130 
        have a132 : f100 wwt = some (.inl (cy 1, 60, .inr (.inl gt))) := k104 _ _ a131 (z_ne a131 a96 rfl) (z_ne a131 a99 rfl)
        have a133 : f1 wfy = some (.inl (cy 0, 6, .inl gy)) := k4 _ _ x_wfy (z_ne x_wfy x_o rfl)
        have a134 : f5 wfy = some (.inl (cy 0, 6, .inl gy)) := k7 _ _ a133 
        have a135 : f15 wfy = some (.inl (cy 0, 6, .inl gy)) := k17 _ _ a134 
        have a136 : f100 wfy = some (.inl (cy 0, 6, .inl gy)) := k104 _ _ a135 (z_ne a135 a96 rfl) (z_ne a135 a99 rfl)
        have a137 : f1 wfk = some (.inl (cy 0, 24, .inl gq)) := k4 _ _ x_wfk (z_ne x_wfk x_o rfl)
        have a138 : f5 wfk = some (.inl (cy 0, 24, .inl gq)) := k7 _ _ a137 
        have a139 : f15 wfk = some (.inl (cy 0, 24, .inl gq)) := k17 _ _ a138 
        have a140 : f100 wfk = some (.inl (cy 0, 24, .inl gq)) := k104 _ _ a139 (z_ne a139 a96 rfl) (z_ne a139 a99 rfl)
        have a141 : f1 wem = some (.inl (cy 0, 60, .inl ge1)) := k4 _ _ x_wem (z_ne x_wem x_o rfl)
        have a142 : f5 wem = some (.inl (cy 0, 60, .inl ge1)) := k7 _ _ a141 
        have a143 : f15 wem = some (.inl (cy 0, 60, .inl ge1)) := k17 _ _ a142 
        have a144 : f100 wem = some (.inl (cy 0, 60, .inl ge1)) := k104 _ _ a143 (z_ne a143 a96 rfl) (z_ne a143 a99 rfl)
        have a145 : f1 wna = some (.inl (cy 0, 60, .inl gn1)) := k4 _ _ x_wna (z_ne x_wna x_o rfl)
        have a146 : f5 wna = some (.inl (cy 0, 60, .inl gn1)) := k7 _ _ a145 
        have a147 : f15 wna = some (.inl (cy 0, 60, .inl gn1)) := k17 _ _ a146 
        have a148 : f100 wna = some (.inl (cy 0, 60, .inl gn1)) := k104 _ _ a147 (z_ne a147 a96 rfl) (z_ne a147 a99 rfl)
        have a149 : f1 wpl = some (.inl (cy 0, 60, .inl gp1)) := k4 _ _ x_wpl (z_ne x_wpl x_o rfl)
        have a150 : f5 wpl = some (.inl (cy 0, 60, .inl gp1)) := k7 _ _ a149 
        have a151 : f15 wpl = some (.inl (cy 0, 60, .inl gp1)) := k17 _ _ a150 
        have a152 : f100 wpl = some (.inl (cy 0, 60, .inl gp1)) := k104 _ _ a151 (z_ne a151 a96 rfl) (z_ne a151 a99 rfl)
        have a153 : f1 whs = some (.inl (cy 0, 4, .inl gs)) := k4 _ _ x_whs (z_ne x_whs x_o rfl)
        have a154 : f5 whs = some (.inl (cy 0, 4, .inl gs)) := k7 _ _ a153 
        have a155 : f15 whs = some (.inl (cy 0, 4, .inl gs)) := k17 _ _ a154 
        have a156 : f100 whs = some (.inl (cy 0, 4, .inl gs)) := k104 _ _ a155 (z_ne a155 a96 rfl) (z_ne a155 a99 rfl)
        have a157 : f1 wk1 = some (.inl (cy 0, 40, .inl gx1)) := k4 _ _ x_wk1 (z_ne x_wk1 x_o rfl)
        have a158 : f5 wk1 = some (.inl (cy 0, 40, .inl gx1)) := k7 _ _ a157 
        have a159 : f15 wk1 = some (.inl (cy 0, 40, .inl gx1)) := k17 _ _ a158 
        have a160 : f100 wk1 = some (.inl (cy 0, 40, .inl gx1)) := k104 _ _ a159 (z_ne a159 a96 rfl) (z_ne a159 a99 rfl)
        have a161 : f1 wk2 = some (.inl (cy 0, 40, .inl gx2)) := k4 _ _ x_wk2 (z_ne x_wk2 x_o rfl)
        have a162 : f5 wk2 = some (.inl (cy 0, 40, .inl gx2)) := k7 _ _ a161 
        have a163 : f15 wk2 = some (.inl (cy 0, 40, .inl gx2)) := k17 _ _ a162 
        have a164 : f100 wk2 = some (.inl (cy 0, 40, .inl gx2)) := k104 _ _ a163 (z_ne a163 a96 rfl) (z_ne a163 a99 rfl)
        have a165 : f1 wk3 = some (.inl (cy 0, 40, .inl gx3)) := k4 _ _ x_wk3 (z_ne x_wk3 x_o rfl)
        have a166 : f5 wk3 = some (.inl (cy 0, 40, .inl gx3)) := k7 _ _ a165 
        have a167 : f15 wk3 = some (.inl (cy 0, 40, .inl gx3)) := k17 _ _ a166 
        have a168 : f100 wk3 = some (.inl (cy 0, 40, .inl gx3)) := k104 _ _ a167 (z_ne a167 a96 rfl) (z_ne a167 a99 rfl)
        have hq : q_at nn gk ln (fun i j => gc (16 * i + j)) x y = ((-4), 2, (-1), 0) := by simp [q_at, hFa, hIa, hNa, hPa, c8, c12, c18]
        exact z_iret C hr rfl hz hS ⟨2, (-1), 0, nl, nn, nf, nc, lk, ks, (upd gv 2 (gv 2 + 1)), gu, gk, gm, gc, gw, gl, gh, gt, gy, gq, ge1, gn1, gp1, gs, gx1, gx2, gx3, ln, fz, sq, (by rw [hq]), (by rw [hq]), (by rw [hq]), (by rw [hq]), (by rw [hq]; exact (zEV2 gv).symm), rfl, rfl, rfl, rfl, rfl, rfl, rfl, rfl, rfl, rfl, rfl, rfl, rfl, rfl, rfl, rfl, rfl, rfl, rfl, rfl, rfl, ⟨a102, a103, a108, a110, a112, a116, a120, a124, a128, a132, a136, a140, a144, a148, a152, a156, a160, a164, a168, hn60, hl12, hf6, hc60, hs40, hMP, hgy, hfz, hgs, hME, hlk, hgw, hfd, n_wki_wmy, n_wki_wiw, n_wki_wli, n_wki_wha, n_wki_wem, n_wki_wna, n_wki_wpl, n_wmy_wiw, n_wmy_wli, n_wmy_wha, n_wmy_wem, n_wmy_wna, n_wmy_wpl, n_wiw_wli, n_wiw_wha, n_wiw_wem, n_wiw_wna, n_wiw_wpl, n_wli_wha, n_wli_wem, n_wli_wna, n_wli_wpl, n_wha_wem, n_wha_wna, n_wha_wpl, n_wem_wna, n_wem_wpl, n_wna_wpl, n_wk1_wk2, n_wk1_wk3, n_wk2_wk3⟩⟩ (Nat.le_of_ble_eq_true rfl) (Nat.le_of_ble_eq_true rfl) dX8_at__50
    · refine lv_aload_n hx hb dX8_at__26 rfl (lv_at hl 0 rfl) ?_
      refine lv_iconst (v := 3) hx hb dX8_at__27 (by decide) ?_
      refine lv_iconst (v := (-1)) hx hb dX8_at__28 (by decide) ?_
      refine lv_iconst (v := 0) hx hb dX8_at__29 (by decide) ?_
      have a169 : f1 wev = some (.inl (cy 0, 8, .inl gv)) := k4 _ _ x_wev (z_ne x_wev x_o rfl)
      have a170 : f5 wev = some (.inl (cy 0, 8, .inl gv)) := k7 _ _ a169 
      refine z_callVi (As := [.int 3, .int (-1), .int 0]) C hz hS hA hl (k_X8_fails l D cy f5 o wev wnb wki wmy wce wiw wli wha wwt wfy wfk wem wna wpl whs wk1 wk2 wk3 0 (-1) 0 nl nn nf nc lk ks 3 (-1) 0 gv 3 a9 a170 (by decide) (Nat.le_of_ble_eq_true rfl)) zyX8_fails mMX8_135 a9 zl8 rfl rfl (Nat.le_of_ble_eq_true rfl) ⟨Nat.le_of_ble_eq_true rfl, Nat.le_of_ble_eq_true rfl⟩ ⟨Nat.le_of_ble_eq_true rfl, Nat.le_of_ble_eq_true rfl⟩ dX8_at__30 (fun r f171 H locs h172 hz hS => ?_)
      obtain ⟨rfl, a173, a174, k175⟩ := h172
      have a176 : f1 wnb = some (.inl (cy 0, 12, .inl gu)) := k4 _ _ x_wnb (z_ne x_wnb x_o rfl)
      have a177 : f5 wnb = some (.inl (cy 0, 12, .inl gu)) := k7 _ _ a176 
      have a178 : f171 wnb = some (.inl (cy 0, 12, .inl gu)) := k175 _ _ a177 (z_ne a177 a9 rfl) (z_ne a177 a170 rfl)
      have a179 : f171 wki = some (.inl (cy 0, 60, .inl gk)) := k175 _ _ a11 (z_ne a11 a9 rfl) (z_ne a11 a170 rfl)
      have a180 : f1 wmy = some (.inl (cy 0, 60, .inl gm)) := k4 _ _ x_wmy (z_ne x_wmy x_o rfl)
      have a181 : f5 wmy = some (.inl (cy 0, 60, .inl gm)) := k7 _ _ a180 
      have a182 : f171 wmy = some (.inl (cy 0, 60, .inl gm)) := k175 _ _ a181 (z_ne a181 a9 rfl) (z_ne a181 a170 rfl)
      have a183 : f1 wce = some (.inl (cy 1, 960, .inr (.inl gc))) := k4 _ _ x_wce (z_ne x_wce x_o rfl)
      have a184 : f5 wce = some (.inl (cy 1, 960, .inr (.inl gc))) := k7 _ _ a183 
      have a185 : f171 wce = some (.inl (cy 1, 960, .inr (.inl gc))) := k175 _ _ a184 (z_ne a184 a9 rfl) (z_ne a184 a170 rfl)
      have a186 : f1 wiw = some (.inl (cy 2, 60, .inl gw)) := k4 _ _ x_wiw (z_ne x_wiw x_o rfl)
      have a187 : f5 wiw = some (.inl (cy 2, 60, .inl gw)) := k7 _ _ a186 
      have a188 : f171 wiw = some (.inl (cy 2, 60, .inl gw)) := k175 _ _ a187 (z_ne a187 a9 rfl) (z_ne a187 a170 rfl)
      have a189 : f1 wli = some (.inl (cy 0, 60, .inl gl)) := k4 _ _ x_wli (z_ne x_wli x_o rfl)
      have a190 : f5 wli = some (.inl (cy 0, 60, .inl gl)) := k7 _ _ a189 
      have a191 : f171 wli = some (.inl (cy 0, 60, .inl gl)) := k175 _ _ a190 (z_ne a190 a9 rfl) (z_ne a190 a170 rfl)
      have a192 : f1 wha = some (.inl (cy 0, 60, .inl gh)) := k4 _ _ x_wha (z_ne x_wha x_o rfl)
      have a193 : f5 wha = some (.inl (cy 0, 60, .inl gh)) := k7 _ _ a192 
      have a194 : f171 wha = some (.inl (cy 0, 60, .inl gh)) := k175 _ _ a193 (z_ne a193 a9 rfl) (z_ne a193 a170 rfl)
      have a195 : f1 wwt = some (.inl (cy 1, 60, .inr (.inl gt))) := k4 _ _ x_wwt (z_ne x_wwt x_o rfl)
      have a196 : f5 wwt = some (.inl (cy 1, 60, .inr (.inl gt))) := k7 _ _ a195 
      have a197 : f171 wwt = some (.inl (cy 1, 60, .inr (.inl gt))) := k175 _ _ a196 (z_ne a196 a9 rfl) (z_ne a196 a170 rfl)
      have a198 : f1 wfy = some (.inl (cy 0, 6, .inl gy)) := k4 _ _ x_wfy (z_ne x_wfy x_o rfl)
      have a199 : f5 wfy = some (.inl (cy 0, 6, .inl gy)) := k7 _ _ a198 
      have a200 : f171 wfy = some (.inl (cy 0, 6, .inl gy)) := k175 _ _ a199 (z_ne a199 a9 rfl) (z_ne a199 a170 rfl)
      have a201 : f1 wfk = some (.inl (cy 0, 24, .inl gq)) := k4 _ _ x_wfk (z_ne x_wfk x_o rfl)
      have a202 : f5 wfk = some (.inl (cy 0, 24, .inl gq)) := k7 _ _ a201 
      have a203 : f171 wfk = some (.inl (cy 0, 24, .inl gq)) := k175 _ _ a202 (z_ne a202 a9 rfl) (z_ne a202 a170 rfl)
      have a204 : f1 wem = some (.inl (cy 0, 60, .inl ge1)) := k4 _ _ x_wem (z_ne x_wem x_o rfl)
      have a205 : f5 wem = some (.inl (cy 0, 60, .inl ge1)) := k7 _ _ a204 
      have a206 : f171 wem = some (.inl (cy 0, 60, .inl ge1)) := k175 _ _ a205 (z_ne a205 a9 rfl) (z_ne a205 a170 rfl)
      have a207 : f1 wna = some (.inl (cy 0, 60, .inl gn1)) := k4 _ _ x_wna (z_ne x_wna x_o rfl)
      have a208 : f5 wna = some (.inl (cy 0, 60, .inl gn1)) := k7 _ _ a207 
      have a209 : f171 wna = some (.inl (cy 0, 60, .inl gn1)) := k175 _ _ a208 (z_ne a208 a9 rfl) (z_ne a208 a170 rfl)
      have a210 : f1 wpl = some (.inl (cy 0, 60, .inl gp1)) := k4 _ _ x_wpl (z_ne x_wpl x_o rfl)
      have a211 : f5 wpl = some (.inl (cy 0, 60, .inl gp1)) := k7 _ _ a210 
      have a212 : f171 wpl = some (.inl (cy 0, 60, .inl gp1)) := k175 _ _ a211 (z_ne a211 a9 rfl) (z_ne a211 a170 rfl)
      have a213 : f1 whs = some (.inl (cy 0, 4, .inl gs)) := k4 _ _ x_whs (z_ne x_whs x_o rfl)
      have a214 : f5 whs = some (.inl (cy 0, 4, .inl gs)) := k7 _ _ a213 
      have a215 : f171 whs = some (.inl (cy 0, 4, .inl gs)) := k175 _ _ a214 (z_ne a214 a9 rfl) (z_ne a214 a170 rfl)
      have a216 : f1 wk1 = some (.inl (cy 0, 40, .inl gx1)) := k4 _ _ x_wk1 (z_ne x_wk1 x_o rfl)
      have a217 : f5 wk1 = some (.inl (cy 0, 40, .inl gx1)) := k7 _ _ a216 
      have a218 : f171 wk1 = some (.inl (cy 0, 40, .inl gx1)) := k175 _ _ a217 (z_ne a217 a9 rfl) (z_ne a217 a170 rfl)
      have a219 : f1 wk2 = some (.inl (cy 0, 40, .inl gx2)) := k4 _ _ x_wk2 (z_ne x_wk2 x_o rfl)
      have a220 : f5 wk2 = some (.inl (cy 0, 40, .inl gx2)) := k7 _ _ a219 
      have a221 : f171 wk2 = some (.inl (cy 0, 40, .inl gx2)) := k175 _ _ a220 (z_ne a220 a9 rfl) (z_ne a220 a170 rfl)
      have a222 : f1 wk3 = some (.inl (cy 0, 40, .inl gx3)) := k4 _ _ x_wk3 (z_ne x_wk3 x_o rfl)
      have a223 : f5 wk3 = some (.inl (cy 0, 40, .inl gx3)) := k7 _ _ a222 
      have a224 : f171 wk3 = some (.inl (cy 0, 40, .inl gx3)) := k175 _ _ a223 (z_ne a223 a9 rfl) (z_ne a223 a170 rfl)
      have hq : q_at nn gk ln (fun i j => gc (16 * i + j)) x y = ((-4), 3, (-1), 0) := by simp [q_at, hFa, hIa, hNa, c8, c12]
      exact z_iret C hr rfl hz hS ⟨3, (-1), 0, nl, nn, nf, nc, lk, ks, (upd gv 3 (gv 3 + 1)), gu, gk, gm, gc, gw, gl, gh, gt, gy, gq, ge1, gn1, gp1, gs, gx1, gx2, gx3, ln, fz, sq, (by rw [hq]), (by rw [hq]), (by rw [hq]), (by rw [hq]), (by rw [hq]; exact (zEV3 gv).symm), rfl, rfl, rfl, rfl, rfl, rfl, rfl, rfl, rfl, rfl, rfl, rfl, rfl, rfl, rfl, rfl, rfl, rfl, rfl, rfl, rfl, ⟨a173, a174, a178, a179, a182, a185, a188, a191, a194, a197, a200, a203, a206, a209, a212, a215, a218, a221, a224, hn60, hl12, hf6, hc60, hs40, hMP, hgy, hfz, hgs, hME, hlk, hgw, hfd, n_wki_wmy, n_wki_wiw, n_wki_wli, n_wki_wha, n_wki_wem, n_wki_wna, n_wki_wpl, n_wmy_wiw, n_wmy_wli, n_wmy_wha, n_wmy_wem, n_wmy_wna, n_wmy_wpl, n_wiw_wli, n_wiw_wha, n_wiw_wem, n_wiw_wna, n_wiw_wpl, n_wli_wha, n_wli_wem, n_wli_wna, n_wli_wpl, n_wha_wem, n_wha_wna, n_wha_wpl, n_wem_wna, n_wem_wpl, n_wna_wpl, n_wk1_wk2, n_wk1_wk3, n_wk2_wk3⟩⟩ (Nat.le_of_ble_eq_true rfl) (Nat.le_of_ble_eq_true rfl) dX8_at__33
  · have hFa : isF nn x = false := isF_f hn60 hva
    refine z_callVi (As := [.int x]) C hz hS hA hl (k_X8_isFigure_B l D cy f1 o wev wnb wki wmy wce wiw wli wha wwt wfy wfk wem wna wpl whs wk1 wk2 wk3 0 (-1) 0 nl nn nf nc lk ks x a3 hn60 hva) zyX8_isFigure mMX8_139 a3 zl8 rfl rfl (Nat.le_of_ble_eq_true rfl) ⟨Nat.le_of_ble_eq_true rfl, Nat.le_of_ble_eq_true rfl⟩ ⟨Nat.le_of_ble_eq_true rfl, Nat.le_of_ble_eq_true rfl⟩ dX8_at__6 (fun r f225 H locs h226 hz hS => ?_)
    obtain ⟨rfl, k227⟩ := h226
    refine lv_if_ne (tgt := 15) hx hb dX8_at__9 (by decide) (fun c228 => ?_) (fun c228 => ?_)
    · exact absurd c228 (by decide)
    refine lv_bipush (v := (-2)) hx hb dX8_at__12 (by decide) ?_
    have a229 : f225 o = some (.inr (8, [.int 0, .int (-1), .int 0, .ref wev, .int (nI nl), .ref wnb, .int (nI nn), .ref wki, .ref wmy, .ref wce, .ref wiw, .ref wli, .ref wha, .ref wwt, .int (nI nf), .ref wfy, .ref wfk, .int (nI nc), .ref wem, .ref wna, .ref wpl, .ref whs, .long lk, .int (nI ks), .ref wk1, .ref wk2, .ref wk3])) := k227 _ _ a3 
    have a230 : f1 wev = some (.inl (cy 0, 8, .inl gv)) := k4 _ _ x_wev (z_ne x_wev x_o rfl)
    have a231 : f225 wev = some (.inl (cy 0, 8, .inl gv)) := k227 _ _ a230 
    have a232 : f1 wnb = some (.inl (cy 0, 12, .inl gu)) := k4 _ _ x_wnb (z_ne x_wnb x_o rfl)
    have a233 : f225 wnb = some (.inl (cy 0, 12, .inl gu)) := k227 _ _ a232 
    have a234 : f1 wki = some (.inl (cy 0, 60, .inl gk)) := k4 _ _ x_wki (z_ne x_wki x_o rfl)
    have a235 : f225 wki = some (.inl (cy 0, 60, .inl gk)) := k227 _ _ a234 
    have a236 : f1 wmy = some (.inl (cy 0, 60, .inl gm)) := k4 _ _ x_wmy (z_ne x_wmy x_o rfl)
    have a237 : f225 wmy = some (.inl (cy 0, 60, .inl gm)) := k227 _ _ a236 
    have a238 : f1 wce = some (.inl (cy 1, 960, .inr (.inl gc))) := k4 _ _ x_wce (z_ne x_wce x_o rfl)
    have a239 : f225 wce = some (.inl (cy 1, 960, .inr (.inl gc))) := k227 _ _ a238 
    have a240 : f1 wiw = some (.inl (cy 2, 60, .inl gw)) := k4 _ _ x_wiw (z_ne x_wiw x_o rfl)
    have a241 : f225 wiw = some (.inl (cy 2, 60, .inl gw)) := k227 _ _ a240 
    have a242 : f1 wli = some (.inl (cy 0, 60, .inl gl)) := k4 _ _ x_wli (z_ne x_wli x_o rfl)
    have a243 : f225 wli = some (.inl (cy 0, 60, .inl gl)) := k227 _ _ a242 
    have a244 : f1 wha = some (.inl (cy 0, 60, .inl gh)) := k4 _ _ x_wha (z_ne x_wha x_o rfl)
    have a245 : f225 wha = some (.inl (cy 0, 60, .inl gh)) := k227 _ _ a244 
    have a246 : f1 wwt = some (.inl (cy 1, 60, .inr (.inl gt))) := k4 _ _ x_wwt (z_ne x_wwt x_o rfl)
    have a247 : f225 wwt = some (.inl (cy 1, 60, .inr (.inl gt))) := k227 _ _ a246 
    have a248 : f1 wfy = some (.inl (cy 0, 6, .inl gy)) := k4 _ _ x_wfy (z_ne x_wfy x_o rfl)
    have a249 : f225 wfy = some (.inl (cy 0, 6, .inl gy)) := k227 _ _ a248 
    have a250 : f1 wfk = some (.inl (cy 0, 24, .inl gq)) := k4 _ _ x_wfk (z_ne x_wfk x_o rfl)
    have a251 : f225 wfk = some (.inl (cy 0, 24, .inl gq)) := k227 _ _ a250 
    have a252 : f1 wem = some (.inl (cy 0, 60, .inl ge1)) := k4 _ _ x_wem (z_ne x_wem x_o rfl)
    have a253 : f225 wem = some (.inl (cy 0, 60, .inl ge1)) := k227 _ _ a252 
    have a254 : f1 wna = some (.inl (cy 0, 60, .inl gn1)) := k4 _ _ x_wna (z_ne x_wna x_o rfl)
    have a255 : f225 wna = some (.inl (cy 0, 60, .inl gn1)) := k227 _ _ a254 
    have a256 : f1 wpl = some (.inl (cy 0, 60, .inl gp1)) := k4 _ _ x_wpl (z_ne x_wpl x_o rfl)
    have a257 : f225 wpl = some (.inl (cy 0, 60, .inl gp1)) := k227 _ _ a256 
    have a258 : f1 whs = some (.inl (cy 0, 4, .inl gs)) := k4 _ _ x_whs (z_ne x_whs x_o rfl)
    have a259 : f225 whs = some (.inl (cy 0, 4, .inl gs)) := k227 _ _ a258 
    have a260 : f1 wk1 = some (.inl (cy 0, 40, .inl gx1)) := k4 _ _ x_wk1 (z_ne x_wk1 x_o rfl)
    have a261 : f225 wk1 = some (.inl (cy 0, 40, .inl gx1)) := k227 _ _ a260 
    have a262 : f1 wk2 = some (.inl (cy 0, 40, .inl gx2)) := k4 _ _ x_wk2 (z_ne x_wk2 x_o rfl)
    have a263 : f225 wk2 = some (.inl (cy 0, 40, .inl gx2)) := k227 _ _ a262 
    have a264 : f1 wk3 = some (.inl (cy 0, 40, .inl gx3)) := k4 _ _ x_wk3 (z_ne x_wk3 x_o rfl)
    have a265 : f225 wk3 = some (.inl (cy 0, 40, .inl gx3)) := k227 _ _ a264 
    have hq : q_at nn gk ln (fun i j => gc (16 * i + j)) x y = ((-2), 0, (-1), 0) := by simp [q_at, hFa, c228]
    exact z_iret C hr rfl hz hS ⟨0, (-1), 0, nl, nn, nf, nc, lk, ks, gv, gu, gk, gm, gc, gw, gl, gh, gt, gy, gq, ge1, gn1, gp1, gs, gx1, gx2, gx3, ln, fz, sq, (by rw [hq]), (by rw [hq]), (by rw [hq]), (by rw [hq]), (by rw [hq]; exact (zEV0 gv).symm), rfl, rfl, rfl, rfl, rfl, rfl, rfl, rfl, rfl, rfl, rfl, rfl, rfl, rfl, rfl, rfl, rfl, rfl, rfl, rfl, rfl, ⟨a229, a231, a233, a235, a237, a239, a241, a243, a245, a247, a249, a251, a253, a255, a257, a259, a261, a263, a265, hn60, hl12, hf6, hc60, hs40, hMP, hgy, hfz, hgs, hME, hlk, hgw, hfd, n_wki_wmy, n_wki_wiw, n_wki_wli, n_wki_wha, n_wki_wem, n_wki_wna, n_wki_wpl, n_wmy_wiw, n_wmy_wli, n_wmy_wha, n_wmy_wem, n_wmy_wna, n_wmy_wpl, n_wiw_wli, n_wiw_wha, n_wiw_wem, n_wiw_wna, n_wiw_wpl, n_wli_wha, n_wli_wem, n_wli_wna, n_wli_wpl, n_wha_wem, n_wha_wna, n_wha_wpl, n_wem_wna, n_wem_wpl, n_wna_wpl, n_wk1_wk2, n_wk1_wk3, n_wk2_wk3⟩⟩ (Nat.le_of_ble_eq_true rfl) (Nat.le_of_ble_eq_true rfl) dX8_at__14
