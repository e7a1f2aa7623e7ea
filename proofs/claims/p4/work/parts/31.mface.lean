abbrev rmX8_set : Room := { frames := 1, cells := 0, slots := 0, locals := 23 }
set_option maxHeartbeats 4000000 in
set_option maxRecDepth 100000 in
theorem k_X8_set (l : Launch) (D : va_G) (cy : Nat → ClassId) (f : zM) (o : Nat) (wev : Nat) (wnb : Nat) (wki : Nat) (wmy : Nat) (wce : Nat) (wiw : Nat) (wli : Nat) (wha : Nat) (wwt : Nat) (wfy : Nat) (wfk : Nat) (wem : Nat) (wna : Nat) (wpl : Nat) (whs : Nat) (wk1 : Nat) (wk2 : Nat) (wk3 : Nat) (u1 : Int32) (u2 : Int32) (u3 : Int32) (nl : Nat) (nn : Nat) (nf : Nat) (nc : Nat) (lk : Int64) (ks : Nat) (gv : Nat → Int32) (gu : Nat → Int32) (gk : Nat → Int32) (gm : Nat → Int32) (gc : Nat → Int64) (gw : Nat → Int32) (gl : Nat → Int32) (gh : Nat → Int32) (gt : Nat → Int64) (gy : Nat → Int32) (gq : Nat → Int32) (ge1 : Nat → Int32) (gn1 : Nat → Int32) (gp1 : Nat → Int32) (gs : Nat → Int32) (gx1 : Nat → Int32) (gx2 : Nat → Int32) (gx3 : Nat → Int32) (ln : Nat → Nat) (fz : Nat → Nat) (sq : Nat → Nat) (x : Int32) (y : Int32) (z : Int32)    (hI : zIM cy f o wev wnb wki wmy wce wiw wli wha wwt wfy wfk wem wna wpl whs wk1 wk2 wk3 u1 u2 u3 nl nn nf nc lk ks gv gu gk gm gc gw gl gh gt gy gq ge1 gn1 gp1 gs gx1 gx2 gx3 ln fz sq) : zCi l D cy yX8_set cX8_set 4 (Option.some Jvm.ClassFile.FieldType.int) rmX8_set [.ref o, .int x, .int y, .int z] f (fun (r : Int32) (f1 : zM) => ∃ (u11 : Int32) (u21 : Int32) (u31 : Int32) (nl1 : Nat) (nn1 : Nat) (nf1 : Nat) (nc1 : Nat) (lk1 : Int64) (ks1 : Nat) (gv1 : Nat → Int32) (gu1 : Nat → Int32) (gk1 : Nat → Int32) (gm1 : Nat → Int32) (gc1 : Nat → Int64) (gw1 : Nat → Int32) (gl1 : Nat → Int32) (gh1 : Nat → Int32) (gt1 : Nat → Int64) (gy1 : Nat → Int32) (gq1 : Nat → Int32) (ge11 : Nat → Int32) (gn11 : Nat → Int32) (gp11 : Nat → Int32) (gs1 : Nat → Int32) (gx11 : Nat → Int32) (gx21 : Nat → Int32) (gx31 : Nat → Int32) (ln1 : Nat → Nat) (fz1 : Nat → Nat) (sq1 : Nat → Nat), (nl1 = nl) ∧ (nn1 = nn) ∧ zIM cy f1 o wev wnb wki wmy wce wiw wli wha wwt wfy wfk wem wna wpl whs wk1 wk2 wk3 u11 u21 u31 nl1 nn1 nf1 nc1 lk1 ks1 gv1 gu1 gk1 gm1 gc1 gw1 gl1 gh1 gt1 gy1 gq1 ge11 gn11 gp11 gs1 gx11 gx21 gx31 ln1 fz1 sq1) := by
  intro sz
  refine z_body (by decide +kernel) (Nat.le_of_ble_eq_true rfl) ?_
  intro p e s m below meth c ls C hr hin hsz hz hl
  subst hsz
  have hx := C.1
  have hb := C.2.1
  have hA : ∀ q, s.heap.size ≤ q → zA f s.heap.size q := fun q h => Or.inr h
  have hS : va_S (zA f s.heap.size) s.heap s.heap [] := va_S.rf
  have hl : lv_has ls 4 [(0, .ref o), (1, .int x), (2, .int y), (3, .int z)] := hl
  obtain ⟨x_o, x_wev, x_wnb, x_wki, x_wmy, x_wce, x_wiw, x_wli, x_wha, x_wwt, x_wfy, x_wfk, x_wem, x_wna, x_wpl, x_whs, x_wk1, x_wk2, x_wk3, hn60, hl12, hf6, hc60, hs40, hMP, hgy, hfz, hgs, hME, hlk, n_wki_wmy, n_wki_wiw, n_wki_wli, n_wki_wha, n_wki_wem, n_wki_wna, n_wki_wpl, n_wmy_wiw, n_wmy_wli, n_wmy_wha, n_wmy_wem, n_wmy_wna, n_wmy_wpl, n_wiw_wli, n_wiw_wha, n_wiw_wem, n_wiw_wna, n_wiw_wpl, n_wli_wha, n_wli_wem, n_wli_wna, n_wli_wpl, n_wha_wem, n_wha_wna, n_wha_wpl, n_wem_wna, n_wem_wpl, n_wna_wpl, n_wk1_wk2, n_wk1_wk3, n_wk2_wk3⟩ := id hI
  refine lv_aload_n hx hb dX8_set_0 rfl (lv_at hl 0 rfl) ?_
  refine z_callVv (As := []) C hz hS hA hl (k_X8_begin l D cy f o wev wnb wki wmy wce wiw wli wha wwt wfy wfk wem wna wpl whs wk1 wk2 wk3 u1 u2 u3 nl nn nf nc lk ks x_o ) zyX8_begin mMX8_116 x_o zl8 rfl rfl (Nat.le_of_ble_eq_true rfl) ⟨Nat.le_of_ble_eq_true rfl, Nat.le_of_ble_eq_true rfl⟩ ⟨Nat.le_of_ble_eq_true rfl, Nat.le_of_ble_eq_true rfl⟩ dX8_set_1 (fun  f1 H locs h2 hz hS => ?_)
  obtain ⟨a3, k4⟩ := h2
  refine lv_aload_n hx hb dX8_set_4 rfl (lv_at hl 0 rfl) ?_
  refine lv_iload_n hx hb dX8_set_5 rfl (lv_at hl 1 rfl) ?_
  rcases z_findi x nn with ⟨ja, hja, hva⟩ | hva
  · refine z_callVi (As := [.int x]) C hz hS hA hl (k_X8_isFigure_A l D cy f1 o wev wnb wki wmy wce wiw wli wha wwt wfy wfk wem wna wpl whs wk1 wk2 wk3 0 (-1) 0 nl nn nf nc lk ks x ja a3 hn60 hva hja) zyX8_isFigure mMX8_139 a3 zl8 rfl rfl (Nat.le_of_ble_eq_true rfl) ⟨Nat.le_of_ble_eq_true rfl, Nat.le_of_ble_eq_true rfl⟩ ⟨Nat.le_of_ble_eq_true rfl, Nat.le_of_ble_eq_true rfl⟩ dX8_set_6 (fun r f5 H locs h6 hz hS => ?_)
    obtain ⟨rfl, k7⟩ := h6
    refine lv_if_eq (tgt := 25) hx hb dX8_set_9 (by decide) (fun c8 => ?_) (fun c8 => ?_)
    · exact absurd c8 (by decide)
    refine lv_iload_n hx hb dX8_set_12 rfl (lv_at hl 3 rfl) ?_
    refine lv_iconst (v := (-1)) hx hb dX8_set_13 (by decide) ?_
    refine lv_icmp_eq (tgt := 28) hx hb dX8_set_14 (by decide) (fun c9 => ?_) (fun c9 => ?_)
    · refine lv_aload_n hx hb dX8_set_28 rfl (lv_at hl 0 rfl) ?_
      have a10 : f5 o = some (.inr (8, [.int 0, .int (-1), .int 0, .ref wev, .int (nI nl), .ref wnb, .int (nI nn), .ref wki, .ref wmy, .ref wce, .ref wiw, .ref wli, .ref wha, .ref wwt, .int (nI nf), .ref wfy, .ref wfk, .int (nI nc), .ref wem, .ref wna, .ref wpl, .ref whs, .long lk, .int (nI ks), .ref wk1, .ref wk2, .ref wk3])) := k7 _ _ a3 
      refine z_get (v := .ref wki) C hz a10 zl8 mFX8_20 (by decide) rfl dX8_set_29 ?_
      refine lv_iload_n hx hb dX8_set_32 rfl (lv_at hl 1 rfl) ?_
      have a11 : f1 wki = some (.inl (cy 0, 60, .inl gk)) := k4 _ _ x_wki (z_ne x_wki x_o rfl)
      have a12 : f5 wki = some (.inl (cy 0, 60, .inl gk)) := k7 _ _ a11 
      refine z_iald ja C hz a12 hva (by omega) (by omega) dX8_set_33 ?_
      refine lv_bipush (v := 6) hx hb dX8_set_34 (by decide) ?_
      refine lv_icmp_ne (tgt := 64) hx hb dX8_set_36 (by decide) (fun c13 => ?_) (fun c13 => ?_)
      · refine lv_aload_n hx hb dX8_set_64 rfl (lv_at hl 0 rfl) ?_
        refine lv_iconst (v := 3) hx hb dX8_set_65 (by decide) ?_
        refine lv_iconst (v := (-1)) hx hb dX8_set_66 (by decide) ?_
        refine lv_iconst (v := 0) hx hb dX8_set_67 (by decide) ?_
        have a14 : f1 wev = some (.inl (cy 0, 8, .inl gv)) := k4 _ _ x_wev (z_ne x_wev x_o rfl)
        have a15 : f5 wev = some (.inl (cy 0, 8, .inl gv)) := k7 _ _ a14 
        refine z_callVi (As := [.int 3, .int (-1), .int 0]) C hz hS hA hl (k_X8_fails l D cy f5 o wev wnb wki wmy wce wiw wli wha wwt wfy wfk wem wna wpl whs wk1 wk2 wk3 0 (-1) 0 nl nn nf nc lk ks 3 (-1) 0 gv 3 a10 a15 (by decide) (Nat.le_of_ble_eq_true rfl)) zyX8_fails mMX8_135 a10 zl8 rfl rfl (Nat.le_of_ble_eq_true rfl) ⟨Nat.le_of_ble_eq_true rfl, Nat.le_of_ble_eq_true rfl⟩ ⟨Nat.le_of_ble_eq_true rfl, Nat.le_of_ble_eq_true rfl⟩ dX8_set_68 (fun r f16 H locs h17 hz hS => ?_)
        obtain ⟨rfl, a18, a19, k20⟩ := h17
        have a21 : f1 wnb = some (.inl (cy 0, 12, .inl gu)) := k4 _ _ x_wnb (z_ne x_wnb x_o rfl)
        have a22 : f5 wnb = some (.inl (cy 0, 12, .inl gu)) := k7 _ _ a21 
        have a23 : f16 wnb = some (.inl (cy 0, 12, .inl gu)) := k20 _ _ a22 (z_ne a22 a10 rfl) (z_ne a22 a15 rfl)
        have a24 : f16 wki = some (.inl (cy 0, 60, .inl gk)) := k20 _ _ a12 (z_ne a12 a10 rfl) (z_ne a12 a15 rfl)
        have a25 : f1 wmy = some (.inl (cy 0, 60, .inl gm)) := k4 _ _ x_wmy (z_ne x_wmy x_o rfl)
        have a26 : f5 wmy = some (.inl (cy 0, 60, .inl gm)) := k7 _ _ a25 
        have a27 : f16 wmy = some (.inl (cy 0, 60, .inl gm)) := k20 _ _ a26 (z_ne a26 a10 rfl) (z_ne a26 a15 rfl)
        have a28 : f1 wce = some (.inl (cy 1, 960, .inr (.inl gc))) := k4 _ _ x_wce (z_ne x_wce x_o rfl)
        have a29 : f5 wce = some (.inl (cy 1, 960, .inr (.inl gc))) := k7 _ _ a28 
        have a30 : f16 wce = some (.inl (cy 1, 960, .inr (.inl gc))) := k20 _ _ a29 (z_ne a29 a10 rfl) (z_ne a29 a15 rfl)
        have a31 : f1 wiw = some (.inl (cy 2, 60, .inl gw)) := k4 _ _ x_wiw (z_ne x_wiw x_o rfl)
        have a32 : f5 wiw = some (.inl (cy 2, 60, .inl gw)) := k7 _ _ a31 
        have a33 : f16 wiw = some (.inl (cy 2, 60, .inl gw)) := k20 _ _ a32 (z_ne a32 a10 rfl) (z_ne a32 a15 rfl)
        have a34 : f1 wli = some (.inl (cy 0, 60, .inl gl)) := k4 _ _ x_wli (z_ne x_wli x_o rfl)
        have a35 : f5 wli = some (.inl (cy 0, 60, .inl gl)) := k7 _ _ a34 
        have a36 : f16 wli = some (.inl (cy 0, 60, .inl gl)) := k20 _ _ a35 (z_ne a35 a10 rfl) (z_ne a35 a15 rfl)
        have a37 : f1 wha = some (.inl (cy 0, 60, .inl gh)) := k4 _ _ x_wha (z_ne x_wha x_o rfl)
        have a38 : f5 wha = some (.inl (cy 0, 60, .inl gh)) := k7 _ _ a37 
        have a39 : f16 wha = some (.inl (cy 0, 60, .inl gh)) := k20 _ _ a38 (z_ne a38 a10 rfl) (z_ne a38 a15 rfl)
        have a40 : f1 wwt = some (.inl (cy 1, 60, .inr (.inl gt))) := k4 _ _ x_wwt (z_ne x_wwt x_o rfl)
        have a41 : f5 wwt = some (.inl (cy 1, 60, .inr (.inl gt))) := k7 _ _ a40 
        have a42 : f16 wwt = some (.inl (cy 1, 60, .inr (.inl gt))) := k20 _ _ a41 (z_ne a41 a10 rfl) (z_ne a41 a15 rfl)
        have a43 : f1 wfy = some (.inl (cy 0, 6, .inl gy)) := k4 _ _ x_wfy (z_ne x_wfy x_o rfl)
        have a44 : f5 wfy = some (.inl (cy 0, 6, .inl gy)) := k7 _ _ a43 
        have a45 : f16 wfy = some (.inl (cy 0, 6, .inl gy)) := k20 _ _ a44 (z_ne a44 a10 rfl) (z_ne a44 a15 rfl)
        have a46 : f1 wfk = some (.inl (cy 0, 24, .inl gq)) := k4 _ _ x_wfk (z_ne x_wfk x_o rfl)
        have a47 : f5 wfk = some (.inl (cy 0, 24, .inl gq)) := k7 _ _ a46 
        have a48 : f16 wfk = some (.inl (cy 0, 24, .inl gq)) := k20 _ _ a47 (z_ne a47 a10 rfl) (z_ne a47 a15 rfl)
        have a49 : f1 wem = some (.inl (cy 0, 60, .inl ge1)) := k4 _ _ x_wem (z_ne x_wem x_o rfl)
        have a50 : f5 wem = some (.inl (cy 0, 60, .inl ge1)) := k7 _ _ a49 
        have a51 : f16 wem = some (.inl (cy 0, 60, .inl ge1)) := k20 _ _ a50 (z_ne a50 a10 rfl) (z_ne a50 a15 rfl)
        have a52 : f1 wna = some (.inl (cy 0, 60, .inl gn1)) := k4 _ _ x_wna (z_ne x_wna x_o rfl)
        have a53 : f5 wna = some (.inl (cy 0, 60, .inl gn1)) := k7 _ _ a52 
        have a54 : f16 wna = some (.inl (cy 0, 60, .inl gn1)) := k20 _ _ a53 (z_ne a53 a10 rfl) (z_ne a53 a15 rfl)
        have a55 : f1 wpl = some (.inl (cy 0, 60, .inl gp1)) := k4 _ _ x_wpl (z_ne x_wpl x_o rfl)
        have a56 : f5 wpl = some (.inl (cy 0, 60, .inl gp1)) := k7 _ _ a55 
        have a57 : f16 wpl = some (.inl (cy 0, 60, .inl gp1)) := k20 _ _ a56 (z_ne a56 a10 rfl) (z_ne a56 a15 rfl)
        have a58 : f1 whs = some (.inl (cy 0, 4, .inl gs)) := k4 _ _ x_whs (z_ne x_whs x_o rfl)
        have a59 : f5 whs = some (.inl (cy 0, 4, .inl gs)) := k7 _ _ a58 
        have a60 : f16 whs = some (.inl (cy 0, 4, .inl gs)) := k20 _ _ a59 (z_ne a59 a10 rfl) (z_ne a59 a15 rfl)
        have a61 : f1 wk1 = some (.inl (cy 0, 40, .inl gx1)) := k4 _ _ x_wk1 (z_ne x_wk1 x_o rfl)
        have a62 : f5 wk1 = some (.inl (cy 0, 40, .inl gx1)) := k7 _ _ a61 
        have a63 : f16 wk1 = some (.inl (cy 0, 40, .inl gx1)) := k20 _ _ a62 (z_ne a62 a10 rfl) (z_ne a62 a15 rfl)
        have a64 : f1 wk2 = some (.inl (cy 0, 40, .inl gx2)) := k4 _ _ x_wk2 (z_ne x_wk2 x_o rfl)
        have a65 : f5 wk2 = some (.inl (cy 0, 40, .inl gx2)) := k7 _ _ a64 
        have a66 : f16 wk2 = some (.inl (cy 0, 40, .inl gx2)) := k20 _ _ a65 (z_ne a65 a10 rfl) (z_ne a65 a15 rfl)
        have a67 : f1 wk3 = some (.inl (cy 0, 40, .inl gx3)) := k4 _ _ x_wk3 (z_ne x_wk3 x_o rfl)
        have a68 : f5 wk3 = some (.inl (cy 0, 40, .inl gx3)) := k7 _ _ a67 
        have a69 : f16 wk3 = some (.inl (cy 0, 40, .inl gx3)) := k20 _ _ a68 (z_ne a68 a10 rfl) (z_ne a68 a15 rfl)
        exact z_iret C hr rfl hz hS ⟨3, (-1), 0, nl, nn, nf, nc, lk, ks, (upd gv 3 (gv 3 + 1)), gu, gk, gm, gc, gw, gl, gh, gt, gy, gq, ge1, gn1, gp1, gs, gx1, gx2, gx3, ln, fz, sq, rfl, rfl, ⟨a18, a19, a23, a24, a27, a30, a33, a36, a39, a42, a45, a48, a51, a54, a57, a60, a63, a66, a69, hn60, hl12, hf6, hc60, hs40, hMP, hgy, hfz, hgs, hME, hlk, n_wki_wmy, n_wki_wiw, n_wki_wli, n_wki_wha, n_wki_wem, n_wki_wna, n_wki_wpl, n_wmy_wiw, n_wmy_wli, n_wmy_wha, n_wmy_wem, n_wmy_wna, n_wmy_wpl, n_wiw_wli, n_wiw_wha, n_wiw_wem, n_wiw_wna, n_wiw_wpl, n_wli_wha, n_wli_wem, n_wli_wna, n_wli_wpl, n_wha_wem, n_wha_wna, n_wha_wpl, n_wem_wna, n_wem_wpl, n_wna_wpl, n_wk1_wk2, n_wk1_wk3, n_wk2_wk3⟩⟩ (Nat.le_of_ble_eq_true rfl) (Nat.le_of_ble_eq_true rfl) dX8_set_71
      · have hk6 := c13
        refine lv_iload_n hx hb dX8_set_39 rfl (lv_at hl 3 rfl) ?_
        refine lv_iconst (v := (-1)) hx hb dX8_set_40 (by decide) ?_
        refine lv_icmp_eq (tgt := 72) hx hb dX8_set_41 (by decide) (fun c70 => ?_) (fun c70 => ?_)
        rotate_left
        · exact absurd c9 c70
        refine lv_aload_n hx hb dX8_set_72 rfl (lv_at hl 0 rfl) ?_
        refine lv_iload_n hx hb dX8_set_73 rfl (lv_at hl 1 rfl) ?_
        refine lv_iload_n hx hb dX8_set_74 rfl (lv_at hl 2 rfl) ?_
        have a71 : f1 wmy = some (.inl (cy 0, 60, .inl gm)) := k4 _ _ x_wmy (z_ne x_wmy x_o rfl)
        have a72 : f5 wmy = some (.inl (cy 0, 60, .inl gm)) := k7 _ _ a71 
        refine z_callVi (As := [.int x, .int y]) C hz hS hA hl (k_X8_hasPlace l D cy f5 o wev wnb wki wmy wce wiw wli wha wwt wfy wfk wem wna wpl whs wk1 wk2 wk3 0 (-1) 0 nl nn nf nc lk ks gm x y ja (ln ja) a10 a72 hva (by omega) (hMP ja (by omega)).1) zyX8_hasPlace mMX8_145 a10 zl8 rfl rfl (Nat.le_of_ble_eq_true rfl) ⟨Nat.le_of_ble_eq_true rfl, Nat.le_of_ble_eq_true rfl⟩ ⟨Nat.le_of_ble_eq_true rfl, Nat.le_of_ble_eq_true rfl⟩ dX8_set_75 (fun r f73 H locs h74 hz hS => ?_)
        obtain ⟨rfl, k75⟩ := h74
        refine lv_if_ne (tgt := 89) hx hb dX8_set_78 (by decide) (fun c76 => ?_) (fun c76 => ?_)
        · obtain ⟨kx, hyk, hkx⟩ := z_place (by have h9 := (hMP ja (by omega)).2.1; omega) c76
          refine lv_aload_n hx hb dX8_set_89 rfl (lv_at hl 0 rfl) ?_
          have a77 : f73 o = some (.inr (8, [.int 0, .int (-1), .int 0, .ref wev, .int (nI nl), .ref wnb, .int (nI nn), .ref wki, .ref wmy, .ref wce, .ref wiw, .ref wli, .ref wha, .ref wwt, .int (nI nf), .ref wfy, .ref wfk, .int (nI nc), .ref wem, .ref wna, .ref wpl, .ref whs, .long lk, .int (nI ks), .ref wk1, .ref wk2, .ref wk3])) := k75 _ _ a10 
          refine z_get (v := .ref wiw) C hz a77 zl8 mFX8_30 (by decide) rfl dX8_set_90 ?_
          refine lv_iload_n hx hb dX8_set_93 rfl (lv_at hl 1 rfl) ?_
          have a78 : f1 wiw = some (.inl (cy 2, 60, .inl gw)) := k4 _ _ x_wiw (z_ne x_wiw x_o rfl)
          have a79 : f5 wiw = some (.inl (cy 2, 60, .inl gw)) := k7 _ _ a78 
          have a80 : f73 wiw = some (.inl (cy 2, 60, .inl gw)) := k75 _ _ a79 
          refine z_zald ja C hz a80 hva (by omega) (by omega) dX8_set_94 ?_
          refine lv_if_eq (tgt := 121) hx hb dX8_set_95 (by decide) (fun c81 => ?_) (fun c81 => ?_)
          · refine lv_aload_n hx hb dX8_set_121 rfl (lv_at hl 0 rfl) ?_
            refine z_get (v := .ref wce) C hz a77 zl8 mFX8_26 (by decide) rfl dX8_set_122 ?_
            refine lv_bipush (v := 16) hx hb dX8_set_125 (by decide) ?_
            refine lv_iload_n hx hb dX8_set_127 rfl (lv_at hl 1 rfl) ?_
            refine lv_imul hx hb dX8_set_128 ?_
            refine lv_iconst (v := 1) hx hb dX8_set_129 (by decide) ?_
            refine lv_iadd hx hb dX8_set_130 ?_
            refine lv_iload_n hx hb dX8_set_131 rfl (lv_at hl 2 rfl) ?_
            refine lv_iadd hx hb dX8_set_132 ?_
            refine lv_iload_n hx hb dX8_set_133 rfl (lv_at hl 3 rfl) ?_
            refine lv_i2l (v := z.toInt64) hx hb dX8_set_134 rfl ?_
            have a82 : f1 wce = some (.inl (cy 1, 960, .inr (.inl gc))) := k4 _ _ x_wce (z_ne x_wce x_o rfl)
            have a83 : f5 wce = some (.inl (cy 1, 960, .inr (.inl gc))) := k7 _ _ a82 
            have a84 : f73 wce = some (.inl (cy 1, 960, .inr (.inl gc))) := k75 _ _ a83 
            refine z_last (16 * ja + 1 + kx) C hz hS a84 (by rw [hva, hyk]; exact z_ce1 ja kx) (by have h9 := (hMP ja (by omega)).2.1; omega) (by omega) dX8_set_135 (fun H locs f85 a86 k87 hz hS => ?_)
            refine lv_iconst (v := 1) hx hb dX8_set_136 (by decide) ?_
            have a88 : f85 o = some (.inr (8, [.int 0, .int (-1), .int 0, .ref wev, .int (nI nl), .ref wnb, .int (nI nn), .ref wki, .ref wmy, .ref wce, .ref wiw, .ref wli, .ref wha, .ref wwt, .int (nI nf), .ref wfy, .ref wfk, .int (nI nc), .ref wem, .ref wna, .ref wpl, .ref whs, .long lk, .int (nI ks), .ref wk1, .ref wk2, .ref wk3])) := (k87 _ (z_ne a77 a84 rfl)).trans a77
            have a89 : f1 wev = some (.inl (cy 0, 8, .inl gv)) := k4 _ _ x_wev (z_ne x_wev x_o rfl)
            have a90 : f5 wev = some (.inl (cy 0, 8, .inl gv)) := k7 _ _ a89 
            have a91 : f73 wev = some (.inl (cy 0, 8, .inl gv)) := k75 _ _ a90 
            have a92 : f85 wev = some (.inl (cy 0, 8, .inl gv)) := (k87 _ (z_ne a91 a84 rfl)).trans a91
            have a93 : f1 wnb = some (.inl (cy 0, 12, .inl gu)) := k4 _ _ x_wnb (z_ne x_wnb x_o rfl)
            have a94 : f5 wnb = some (.inl (cy 0, 12, .inl gu)) := k7 _ _ a93 
            have a95 : f73 wnb = some (.inl (cy 0, 12, .inl gu)) := k75 _ _ a94 
            have a96 : f85 wnb = some (.inl (cy 0, 12, .inl gu)) := (k87 _ (z_ne a95 a84 rfl)).trans a95
            have a97 : f73 wki = some (.inl (cy 0, 60, .inl gk)) := k75 _ _ a12 
            have a98 : f85 wki = some (.inl (cy 0, 60, .inl gk)) := (k87 _ (z_ne a97 a84 rfl)).trans a97
            have a99 : f73 wmy = some (.inl (cy 0, 60, .inl gm)) := k75 _ _ a72 
            have a100 : f85 wmy = some (.inl (cy 0, 60, .inl gm)) := (k87 _ (z_ne a99 a84 rfl)).trans a99
            have a101 : f85 wiw = some (.inl (cy 2, 60, .inl gw)) := (k87 _ (z_ne a80 a84 rfl)).trans a80
            have a102 : f1 wli = some (.inl (cy 0, 60, .inl gl)) := k4 _ _ x_wli (z_ne x_wli x_o rfl)
            have a103 : f5 wli = some (.inl (cy 0, 60, .inl gl)) := k7 _ _ a102 
            have a104 : f73 wli = some (.inl (cy 0, 60, .inl gl)) := k75 _ _ a103 
            have a105 : f85 wli = some (.inl (cy 0, 60, .inl gl)) := (k87 _ (z_ne a104 a84 rfl)).trans a104
            have a106 : f1 wha = some (.inl (cy 0, 60, .inl gh)) := k4 _ _ x_wha (z_ne x_wha x_o rfl)
            have a107 : f5 wha = some (.inl (cy 0, 60, .inl gh)) := k7 _ _ a106 
            have a108 : f73 wha = some (.inl (cy 0, 60, .inl gh)) := k75 _ _ a107 
            have a109 : f85 wha = some (.inl (cy 0, 60, .inl gh)) := (k87 _ (z_ne a108 a84 rfl)).trans a108
            have a110 : f1 wwt = some (.inl (cy 1, 60, .inr (.inl gt))) := k4 _ _ x_wwt (z_ne x_wwt x_o rfl)
            have a111 : f5 wwt = some (.inl (cy 1, 60, .inr (.inl gt))) := k7 _ _ a110 
            have a112 : f73 wwt = some (.inl (cy 1, 60, .inr (.inl gt))) := k75 _ _ a111 
            have a113 : f85 wwt = some (.inl (cy 1, 60, .inr (.inl gt))) := (k87 _ (z_ne a112 a84 rfl)).trans a112
            have a114 : f1 wfy = some (.inl (cy 0, 6, .inl gy)) := k4 _ _ x_wfy (z_ne x_wfy x_o rfl)
            have a115 : f5 wfy = some (.inl (cy 0, 6, .inl gy)) := k7 _ _ a114 
            have a116 : f73 wfy = some (.inl (cy 0, 6, .inl gy)) := k75 _ _ a115 
            have a117 : f85 wfy = some (.inl (cy 0, 6, .inl gy)) := (k87 _ (z_ne a116 a84 rfl)).trans a116
            have a118 : f1 wfk = some (.inl (cy 0, 24, .inl gq)) := k4 _ _ x_wfk (z_ne x_wfk x_o rfl)
            have a119 : f5 wfk = some (.inl (cy 0, 24, .inl gq)) := k7 _ _ a118 
            have a120 : f73 wfk = some (.inl (cy 0, 24, .inl gq)) := k75 _ _ a119 
            have a121 : f85 wfk = some (.inl (cy 0, 24, .inl gq)) := (k87 _ (z_ne a120 a84 rfl)).trans a120
            have a122 : f1 wem = some (.inl (cy 0, 60, .inl ge1)) := k4 _ _ x_wem (z_ne x_wem x_o rfl)
            have a123 : f5 wem = some (.inl (cy 0, 60, .inl ge1)) := k7 _ _ a122 
            have a124 : f73 wem = some (.inl (cy 0, 60, .inl ge1)) := k75 _ _ a123 
            have a125 : f85 wem = some (.inl (cy 0, 60, .inl ge1)) := (k87 _ (z_ne a124 a84 rfl)).trans a124
            have a126 : f1 wna = some (.inl (cy 0, 60, .inl gn1)) := k4 _ _ x_wna (z_ne x_wna x_o rfl)
            have a127 : f5 wna = some (.inl (cy 0, 60, .inl gn1)) := k7 _ _ a126 
            have a128 : f73 wna = some (.inl (cy 0, 60, .inl gn1)) := k75 _ _ a127 
            have a129 : f85 wna = some (.inl (cy 0, 60, .inl gn1)) := (k87 _ (z_ne a128 a84 rfl)).trans a128
            have a130 : f1 wpl = some (.inl (cy 0, 60, .inl gp1)) := k4 _ _ x_wpl (z_ne x_wpl x_o rfl)
            have a131 : f5 wpl = some (.inl (cy 0, 60, .inl gp1)) := k7 _ _ a130 
            have a132 : f73 wpl = some (.inl (cy 0, 60, .inl gp1)) := k75 _ _ a131 
            have a133 : f85 wpl = some (.inl (cy 0, 60, .inl gp1)) := (k87 _ (z_ne a132 a84 rfl)).trans a132
            have a134 : f1 whs = some (.inl (cy 0, 4, .inl gs)) := k4 _ _ x_whs (z_ne x_whs x_o rfl)
            have a135 : f5 whs = some (.inl (cy 0, 4, .inl gs)) := k7 _ _ a134 
            have a136 : f73 whs = some (.inl (cy 0, 4, .inl gs)) := k75 _ _ a135 
            have a137 : f85 whs = some (.inl (cy 0, 4, .inl gs)) := (k87 _ (z_ne a136 a84 rfl)).trans a136
            have a138 : f1 wk1 = some (.inl (cy 0, 40, .inl gx1)) := k4 _ _ x_wk1 (z_ne x_wk1 x_o rfl)
            have a139 : f5 wk1 = some (.inl (cy 0, 40, .inl gx1)) := k7 _ _ a138 
            have a140 : f73 wk1 = some (.inl (cy 0, 40, .inl gx1)) := k75 _ _ a139 
            have a141 : f85 wk1 = some (.inl (cy 0, 40, .inl gx1)) := (k87 _ (z_ne a140 a84 rfl)).trans a140
            have a142 : f1 wk2 = some (.inl (cy 0, 40, .inl gx2)) := k4 _ _ x_wk2 (z_ne x_wk2 x_o rfl)
            have a143 : f5 wk2 = some (.inl (cy 0, 40, .inl gx2)) := k7 _ _ a142 
            have a144 : f73 wk2 = some (.inl (cy 0, 40, .inl gx2)) := k75 _ _ a143 
            have a145 : f85 wk2 = some (.inl (cy 0, 40, .inl gx2)) := (k87 _ (z_ne a144 a84 rfl)).trans a144
            have a146 : f1 wk3 = some (.inl (cy 0, 40, .inl gx3)) := k4 _ _ x_wk3 (z_ne x_wk3 x_o rfl)
            have a147 : f5 wk3 = some (.inl (cy 0, 40, .inl gx3)) := k7 _ _ a146 
            have a148 : f73 wk3 = some (.inl (cy 0, 40, .inl gx3)) := k75 _ _ a147 
            have a149 : f85 wk3 = some (.inl (cy 0, 40, .inl gx3)) := (k87 _ (z_ne a148 a84 rfl)).trans a148
            exact z_iret C hr rfl hz hS ⟨0, (-1), 0, nl, nn, nf, nc, lk, ks, gv, gu, gk, gm, (vp_updL gc (16 * ja + 1 + kx) z.toInt64), gw, gl, gh, gt, gy, gq, ge1, gn1, gp1, gs, gx1, gx2, gx3, ln, fz, sq, rfl, rfl, ⟨a88, a92, a96, a98, a100, a86, a101, a105, a109, a113, a117, a121, a125, a129, a133, a137, a141, a145, a149, hn60, hl12, hf6, hc60, hs40, (zMP_set hMP hk6 (by have h9 := (hMP ja (by omega)).2.1; omega)), hgy, hfz, hgs, hME, hlk, n_wki_wmy, n_wki_wiw, n_wki_wli, n_wki_wha, n_wki_wem, n_wki_wna, n_wki_wpl, n_wmy_wiw, n_wmy_wli, n_wmy_wha, n_wmy_wem, n_wmy_wna, n_wmy_wpl, n_wiw_wli, n_wiw_wha, n_wiw_wem, n_wiw_wna, n_wiw_wpl, n_wli_wha, n_wli_wem, n_wli_wna, n_wli_wpl, n_wha_wem, n_wha_wna, n_wha_wpl, n_wem_wna, n_wem_wpl, n_wna_wpl, n_wk1_wk2, n_wk1_wk3, n_wk2_wk3⟩⟩ (Nat.le_of_ble_eq_true rfl) (Nat.le_of_ble_eq_true rfl) dX8_set_137
          · refine lv_iload_n hx hb dX8_set_98 rfl (lv_at hl 3 rfl) ?_
            refine lv_iconst (v := (-1)) hx hb dX8_set_99 (by decide) ?_
            refine lv_icmp_eq (tgt := 121) hx hb dX8_set_100 (by decide) (fun c150 => ?_) (fun c150 => ?_)
            rotate_left
            · exact absurd c9 c150
            refine lv_aload_n hx hb dX8_set_121 rfl (lv_at hl 0 rfl) ?_
            refine z_get (v := .ref wce) C hz a77 zl8 mFX8_26 (by decide) rfl dX8_set_122 ?_
            refine lv_bipush (v := 16) hx hb dX8_set_125 (by decide) ?_
            refine lv_iload_n hx hb dX8_set_127 rfl (lv_at hl 1 rfl) ?_
            refine lv_imul hx hb dX8_set_128 ?_
            refine lv_iconst (v := 1) hx hb dX8_set_129 (by decide) ?_
            refine lv_iadd hx hb dX8_set_130 ?_
            refine lv_iload_n hx hb dX8_set_131 rfl (lv_at hl 2 rfl) ?_
            refine lv_iadd hx hb dX8_set_132 ?_
            refine lv_iload_n hx hb dX8_set_133 rfl (lv_at hl 3 rfl) ?_
            refine lv_i2l (v := z.toInt64) hx hb dX8_set_134 rfl ?_
            have a151 : f1 wce = some (.inl (cy 1, 960, .inr (.inl gc))) := k4 _ _ x_wce (z_ne x_wce x_o rfl)
            have a152 : f5 wce = some (.inl (cy 1, 960, .inr (.inl gc))) := k7 _ _ a151 
            have a153 : f73 wce = some (.inl (cy 1, 960, .inr (.inl gc))) := k75 _ _ a152 
            refine z_last (16 * ja + 1 + kx) C hz hS a153 (by rw [hva, hyk]; exact z_ce1 ja kx) (by have h9 := (hMP ja (by omega)).2.1; omega) (by omega) dX8_set_135 (fun H locs f154 a155 k156 hz hS => ?_)
            refine lv_iconst (v := 1) hx hb dX8_set_136 (by decide) ?_
            have a157 : f154 o = some (.inr (8, [.int 0, .int (-1), .int 0, .ref wev, .int (nI nl), .ref wnb, .int (nI nn), .ref wki, .ref wmy, .ref wce, .ref wiw, .ref wli, .ref wha, .ref wwt, .int (nI nf), .ref wfy, .ref wfk, .int (nI nc), .ref wem, .ref wna, .ref wpl, .ref whs, .long lk, .int (nI ks), .ref wk1, .ref wk2, .ref wk3])) := (k156 _ (z_ne a77 a153 rfl)).trans a77
            have a158 : f1 wev = some (.inl (cy 0, 8, .inl gv)) := k4 _ _ x_wev (z_ne x_wev x_o rfl)
            have a159 : f5 wev = some (.inl (cy 0, 8, .inl gv)) := k7 _ _ a158 
            have a160 : f73 wev = some (.inl (cy 0, 8, .inl gv)) := k75 _ _ a159 
            have a161 : f154 wev = some (.inl (cy 0, 8, .inl gv)) := (k156 _ (z_ne a160 a153 rfl)).trans a160
            have a162 : f1 wnb = some (.inl (cy 0, 12, .inl gu)) := k4 _ _ x_wnb (z_ne x_wnb x_o rfl)
            have a163 : f5 wnb = some (.inl (cy 0, 12, .inl gu)) := k7 _ _ a162 
            have a164 : f73 wnb = some (.inl (cy 0, 12, .inl gu)) := k75 _ _ a163 
            have a165 : f154 wnb = some (.inl (cy 0, 12, .inl gu)) := (k156 _ (z_ne a164 a153 rfl)).trans a164
            have a166 : f73 wki = some (.inl (cy 0, 60, .inl gk)) := k75 _ _ a12 
            have a167 : f154 wki = some (.inl (cy 0, 60, .inl gk)) := (k156 _ (z_ne a166 a153 rfl)).trans a166
            have a168 : f73 wmy = some (.inl (cy 0, 60, .inl gm)) := k75 _ _ a72 
            have a169 : f154 wmy = some (.inl (cy 0, 60, .inl gm)) := (k156 _ (z_ne a168 a153 rfl)).trans a168
            have a170 : f154 wiw = some (.inl (cy 2, 60, .inl gw)) := (k156 _ (z_ne a80 a153 rfl)).trans a80
            have a171 : f1 wli = some (.inl (cy 0, 60, .inl gl)) := k4 _ _ x_wli (z_ne x_wli x_o rfl)
            have a172 : f5 wli = some (.inl (cy 0, 60, .inl gl)) := k7 _ _ a171 
            have a173 : f73 wli = some (.inl (cy 0, 60, .inl gl)) := k75 _ _ a172 
            have a174 : f154 wli = some (.inl (cy 0, 60, .inl gl)) := (k156 _ (z_ne a173 a153 rfl)).trans a173
            have a175 : f1 wha = some (.inl (cy 0, 60, .inl gh)) := k4 _ _ x_wha (z_ne x_wha x_o rfl)
            have a176 : f5 wha = some (.inl (cy 0, 60, .inl gh)) := k7 _ _ a175 
            have a177 : f73 wha = some (.inl (cy 0, 60, .inl gh)) := k75 _ _ a176 
            have a178 : f154 wha = some (.inl (cy 0, 60, .inl gh)) := (k156 _ (z_ne a177 a153 rfl)).trans a177
            have a179 : f1 wwt = some (.inl (cy 1, 60, .inr (.inl gt))) := k4 _ _ x_wwt (z_ne x_wwt x_o rfl)
            have a180 : f5 wwt = some (.inl (cy 1, 60, .inr (.inl gt))) := k7 _ _ a179 
            have a181 : f73 wwt = some (.inl (cy 1, 60, .inr (.inl gt))) := k75 _ _ a180 
            have a182 : f154 wwt = some (.inl (cy 1, 60, .inr (.inl gt))) := (k156 _ (z_ne a181 a153 rfl)).trans a181
            have a183 : f1 wfy = some (.inl (cy 0, 6, .inl gy)) := k4 _ _ x_wfy (z_ne x_wfy x_o rfl)
            have a184 : f5 wfy = some (.inl (cy 0, 6, .inl gy)) := k7 _ _ a183 
            have a185 : f73 wfy = some (.inl (cy 0, 6, .inl gy)) := k75 _ _ a184 
            have a186 : f154 wfy = some (.inl (cy 0, 6, .inl gy)) := (k156 _ (z_ne a185 a153 rfl)).trans a185
            have a187 : f1 wfk = some (.inl (cy 0, 24, .inl gq)) := k4 _ _ x_wfk (z_ne x_wfk x_o rfl)
            have a188 : f5 wfk = some (.inl (cy 0, 24, .inl gq)) := k7 _ _ a187 
            have a189 : f73 wfk = some (.inl (cy 0, 24, .inl gq)) := k75 _ _ a188 
            have a190 : f154 wfk = some (.inl (cy 0, 24, .inl gq)) := (k156 _ (z_ne a189 a153 rfl)).trans a189
            have a191 : f1 wem = some (.inl (cy 0, 60, .inl ge1)) := k4 _ _ x_wem (z_ne x_wem x_o rfl)
            have a192 : f5 wem = some (.inl (cy 0, 60, .inl ge1)) := k7 _ _ a191 
            have a193 : f73 wem = some (.inl (cy 0, 60, .inl ge1)) := k75 _ _ a192 
            have a194 : f154 wem = some (.inl (cy 0, 60, .inl ge1)) := (k156 _ (z_ne a193 a153 rfl)).trans a193
            have a195 : f1 wna = some (.inl (cy 0, 60, .inl gn1)) := k4 _ _ x_wna (z_ne x_wna x_o rfl)
            have a196 : f5 wna = some (.inl (cy 0, 60, .inl gn1)) := k7 _ _ a195 
            have a197 : f73 wna = some (.inl (cy 0, 60, .inl gn1)) := k75 _ _ a196 
            have a198 : f154 wna = some (.inl (cy 0, 60, .inl gn1)) := (k156 _ (z_ne a197 a153 rfl)).trans a197
            have a199 : f1 wpl = some (.inl (cy 0, 60, .inl gp1)) := k4 _ _ x_wpl (z_ne x_wpl x_o rfl)
            have a200 : f5 wpl = some (.inl (cy 0, 60, .inl gp1)) := k7 _ _ a199 
            have a201 : f73 wpl = some (.inl (cy 0, 60, .inl gp1)) := k75 _ _ a200 
            have a202 : f154 wpl = some (.inl (cy 0, 60, .inl gp1)) := (k156 _ (z_ne a201 a153 rfl)).trans a201
            have a203 : f1 whs = some (.inl (cy 0, 4, .inl gs)) := k4 _ _ x_whs (z_ne x_whs x_o rfl)
            have a204 : f5 whs = some (.inl (cy 0, 4, .inl gs)) := k7 _ _ a203 
            have a205 : f73 whs = some (.inl (cy 0, 4, .inl gs)) := k75 _ _ a204 
            have a206 : f154 whs = some (.inl (cy 0, 4, .inl gs)) := (k156 _ (z_ne a205 a153 rfl)).trans a205
            have a207 : f1 wk1 = some (.inl (cy 0, 40, .inl gx1)) := k4 _ _ x_wk1 (z_ne x_wk1 x_o rfl)
            have a208 : f5 wk1 = some (.inl (cy 0, 40, .inl gx1)) := k7 _ _ a207 
            have a209 : f73 wk1 = some (.inl (cy 0, 40, .inl gx1)) := k75 _ _ a208 
            have a210 : f154 wk1 = some (.inl (cy 0, 40, .inl gx1)) := (k156 _ (z_ne a209 a153 rfl)).trans a209
            have a211 : f1 wk2 = some (.inl (cy 0, 40, .inl gx2)) := k4 _ _ x_wk2 (z_ne x_wk2 x_o rfl)
            have a212 : f5 wk2 = some (.inl (cy 0, 40, .inl gx2)) := k7 _ _ a211 
            have a213 : f73 wk2 = some (.inl (cy 0, 40, .inl gx2)) := k75 _ _ a212 
            have a214 : f154 wk2 = some (.inl (cy 0, 40, .inl gx2)) := (k156 _ (z_ne a213 a153 rfl)).trans a213
            have a215 : f1 wk3 = some (.inl (cy 0, 40, .inl gx3)) := k4 _ _ x_wk3 (z_ne x_wk3 x_o rfl)
            have a216 : f5 wk3 = some (.inl (cy 0, 40, .inl gx3)) := k7 _ _ a215 
            have a217 : f73 wk3 = some (.inl (cy 0, 40, .inl gx3)) := k75 _ _ a216 
            have a218 : f154 wk3 = some (.inl (cy 0, 40, .inl gx3)) := (k156 _ (z_ne a217 a153 rfl)).trans a217
            exact z_iret C hr rfl hz hS ⟨0, (-1), 0, nl, nn, nf, nc, lk, ks, gv, gu, gk, gm, (vp_updL gc (16 * ja + 1 + kx) z.toInt64), gw, gl, gh, gt, gy, gq, ge1, gn1, gp1, gs, gx1, gx2, gx3, ln, fz, sq, rfl, rfl, ⟨a157, a161, a165, a167, a169, a155, a170, a174, a178, a182, a186, a190, a194, a198, a202, a206, a210, a214, a218, hn60, hl12, hf6, hc60, hs40, (zMP_set hMP hk6 (by have h9 := (hMP ja (by omega)).2.1; omega)), hgy, hfz, hgs, hME, hlk, n_wki_wmy, n_wki_wiw, n_wki_wli, n_wki_wha, n_wki_wem, n_wki_wna, n_wki_wpl, n_wmy_wiw, n_wmy_wli, n_wmy_wha, n_wmy_wem, n_wmy_wna, n_wmy_wpl, n_wiw_wli, n_wiw_wha, n_wiw_wem, n_wiw_wna, n_wiw_wpl, n_wli_wha, n_wli_wem, n_wli_wna, n_wli_wpl, n_wha_wem, n_wha_wna, n_wha_wpl, n_wem_wna, n_wem_wpl, n_wna_wpl, n_wk1_wk2, n_wk1_wk3, n_wk2_wk3⟩⟩ (Nat.le_of_ble_eq_true rfl) (Nat.le_of_ble_eq_true rfl) dX8_set_137
        · refine lv_aload_n hx hb dX8_set_81 rfl (lv_at hl 0 rfl) ?_
          refine lv_iconst (v := 2) hx hb dX8_set_82 (by decide) ?_
          refine lv_iconst (v := (-1)) hx hb dX8_set_83 (by decide) ?_
          refine lv_iconst (v := 0) hx hb dX8_set_84 (by decide) ?_
          have a219 : f73 o = some (.inr (8, [.int 0, .int (-1), .int 0, .ref wev, .int (nI nl), .ref wnb, .int (nI nn), .ref wki, .ref wmy, .ref wce, .ref wiw, .ref wli, .ref wha, .ref wwt, .int (nI nf), .ref wfy, .ref wfk, .int (nI nc), .ref wem, .ref wna, .ref wpl, .ref whs, .long lk, .int (nI ks), .ref wk1, .ref wk2, .ref wk3])) := k75 _ _ a10 
          have a220 : f1 wev = some (.inl (cy 0, 8, .inl gv)) := k4 _ _ x_wev (z_ne x_wev x_o rfl)
          have a221 : f5 wev = some (.inl (cy 0, 8, .inl gv)) := k7 _ _ a220 
          have a222 : f73 wev = some (.inl (cy 0, 8, .inl gv)) := k75 _ _ a221 
          refine z_callVi (As := [.int 2, .int (-1), .int 0]) C hz hS hA hl (k_X8_fails l D cy f73 o wev wnb wki wmy wce wiw wli wha wwt wfy wfk wem wna wpl whs wk1 wk2 wk3 0 (-1) 0 nl nn nf nc lk ks 2 (-1) 0 gv 2 a219 a222 (by decide) (Nat.le_of_ble_eq_true rfl)) zyX8_fails mMX8_135 a219 zl8 rfl rfl (Nat.le_of_ble_eq_true rfl) ⟨Nat.le_of_ble_eq_true rfl, Nat.le_of_ble_eq_true rfl⟩ ⟨Nat.le_of_ble_eq_true rfl, Nat.le_of_ble_eq_true rfl⟩ dX8_set_85 (fun r f223 H locs h224 hz hS => ?_)
          obtain ⟨rfl, a225, a226, k227⟩ := h224
          have a228 : f1 wnb = some (.inl (cy 0, 12, .inl gu)) := k4 _ _ x_wnb (z_ne x_wnb x_o rfl)
          have a229 : f5 wnb = some (.inl (cy 0, 12, .inl gu)) := k7 _ _ a228 
          have a230 : f73 wnb = some (.inl (cy 0, 12, .inl gu)) := k75 _ _ a229 
          have a231 : f223 wnb = some (.inl (cy 0, 12, .inl gu)) := k227 _ _ a230 (z_ne a230 a219 rfl) (z_ne a230 a222 rfl)
          have a232 : f73 wki = some (.inl (cy 0, 60, .inl gk)) := k75 _ _ a12 
          have a233 : f223 wki = some (.inl (cy 0, 60, .inl gk)) := k227 _ _ a232 (z_ne a232 a219 rfl) (z_ne a232 a222 rfl)
          have a234 : f73 wmy = some (.inl (cy 0, 60, .inl gm)) := k75 _ _ a72 
          have a235 : f223 wmy = some (.inl (cy 0, 60, .inl gm)) := k227 _ _ a234 (z_ne a234 a219 rfl) (z_ne a234 a222 rfl)
          have a236 : f1 wce = some (.inl (cy 1, 960, .inr (.inl gc))) := k4 _ _ x_wce (z_ne x_wce x_o rfl)
          have a237 : f5 wce = some (.inl (cy 1, 960, .inr (.inl gc))) := k7 _ _ a236 
          have a238 : f73 wce = some (.inl (cy 1, 960, .inr (.inl gc))) := k75 _ _ a237 
          have a239 : f223 wce = some (.inl (cy 1, 960, .inr (.inl gc))) := k227 _ _ a238 (z_ne a238 a219 rfl) (z_ne a238 a222 rfl)
          have a240 : f1 wiw = some (.inl (cy 2, 60, .inl gw)) := k4 _ _ x_wiw (z_ne x_wiw x_o rfl)
          have a241 : f5 wiw = some (.inl (cy 2, 60, .inl gw)) := k7 _ _ a240 
          have a242 : f73 wiw = some (.inl (cy 2, 60, .inl gw)) := k75 _ _ a241 
          have a243 : f223 wiw = some (.inl (cy 2, 60, .inl gw)) := k227 _ _ a242 (z_ne a242 a219 rfl) (z_ne a242 a222 rfl)
          have a244 : f1 wli = some (.inl (cy 0, 60, .inl gl)) := k4 _ _ x_wli (z_ne x_wli x_o rfl)
          have a245 : f5 wli = some (.inl (cy 0, 60, .inl gl)) := k7 _ _ a244 
          have a246 : f73 wli = some (.inl (cy 0, 60, .inl gl)) := k75 _ _ a245 
          have a247 : f223 wli = some (.inl (cy 0, 60, .inl gl)) := k227 _ _ a246 (z_ne a246 a219 rfl) (z_ne a246 a222 rfl)
          have a248 : f1 wha = some (.inl (cy 0, 60, .inl gh)) := k4 _ _ x_wha (z_ne x_wha x_o rfl)
          have a249 : f5 wha = some (.inl (cy 0, 60, .inl gh)) := k7 _ _ a248 
          have a250 : f73 wha = some (.inl (cy 0, 60, .inl gh)) := k75 _ _ a249 
          have a251 : f223 wha = some (.inl (cy 0, 60, .inl gh)) := k227 _ _ a250 (z_ne a250 a219 rfl) (z_ne a250 a222 rfl)
          have a252 : f1 wwt = some (.inl (cy 1, 60, .inr (.inl gt))) := k4 _ _ x_wwt (z_ne x_wwt x_o rfl)
          have a253 : f5 wwt = some (.inl (cy 1, 60, .inr (.inl gt))) := k7 _ _ a252 
          have a254 : f73 wwt = some (.inl (cy 1, 60, .inr (.inl gt))) := k75 _ _ a253 
          have a255 : f223 wwt = some (.inl (cy 1, 60, .inr (.inl gt))) := k227 _ _ a254 (z_ne a254 a219 rfl) (z_ne a254 a222 rfl)
          have a256 : f1 wfy = some (.inl (cy 0, 6, .inl gy)) := k4 _ _ x_wfy (z_ne x_wfy x_o rfl)
          have a257 : f5 wfy = some (.inl (cy 0, 6, .inl gy)) := k7 _ _ a256 
          have a258 : f73 wfy = some (.inl (cy 0, 6, .inl gy)) := k75 _ _ a257 
          have a259 : f223 wfy = some (.inl (cy 0, 6, .inl gy)) := k227 _ _ a258 (z_ne a258 a219 rfl) (z_ne a258 a222 rfl)
          have a260 : f1 wfk = some (.inl (cy 0, 24, .inl gq)) := k4 _ _ x_wfk (z_ne x_wfk x_o rfl)
          have a261 : f5 wfk = some (.inl (cy 0, 24, .inl gq)) := k7 _ _ a260 
          have a262 : f73 wfk = some (.inl (cy 0, 24, .inl gq)) := k75 _ _ a261 
          have a263 : f223 wfk = some (.inl (cy 0, 24, .inl gq)) := k227 _ _ a262 (z_ne a262 a219 rfl) (z_ne a262 a222 rfl)
          have a264 : f1 wem = some (.inl (cy 0, 60, .inl ge1)) := k4 _ _ x_wem (z_ne x_wem x_o rfl)
          have a265 : f5 wem = some (.inl (cy 0, 60, .inl ge1)) := k7 _ _ a264 
          have a266 : f73 wem = some (.inl (cy 0, 60, .inl ge1)) := k75 _ _ a265 
          have a267 : f223 wem = some (.inl (cy 0, 60, .inl ge1)) := k227 _ _ a266 (z_ne a266 a219 rfl) (z_ne a266 a222 rfl)
          have a268 : f1 wna = some (.inl (cy 0, 60, .inl gn1)) := k4 _ _ x_wna (z_ne x_wna x_o rfl)
          have a269 : f5 wna = some (.inl (cy 0, 60, .inl gn1)) := k7 _ _ a268 
          have a270 : f73 wna = some (.inl (cy 0, 60, .inl gn1)) := k75 _ _ a269 
          have a271 : f223 wna = some (.inl (cy 0, 60, .inl gn1)) := k227 _ _ a270 (z_ne a270 a219 rfl) (z_ne a270 a222 rfl)
          have a272 : f1 wpl = some (.inl (cy 0, 60, .inl gp1)) := k4 _ _ x_wpl (z_ne x_wpl x_o rfl)
          have a273 : f5 wpl = some (.inl (cy 0, 60, .inl gp1)) := k7 _ _ a272 
          have a274 : f73 wpl = some (.inl (cy 0, 60, .inl gp1)) := k75 _ _ a273 
          have a275 : f223 wpl = some (.inl (cy 0, 60, .inl gp1)) := k227 _ _ a274 (z_ne a274 a219 rfl) (z_ne a274 a222 rfl)
          have a276 : f1 whs = some (.inl (cy 0, 4, .inl gs)) := k4 _ _ x_whs (z_ne x_whs x_o rfl)
          have a277 : f5 whs = some (.inl (cy 0, 4, .inl gs)) := k7 _ _ a276 
          have a278 : f73 whs = some (.inl (cy 0, 4, .inl gs)) := k75 _ _ a277 
          have a279 : f223 whs = some (.inl (cy 0, 4, .inl gs)) := k227 _ _ a278 (z_ne a278 a219 rfl) (z_ne a278 a222 rfl)
          have a280 : f1 wk1 = some (.inl (cy 0, 40, .inl gx1)) := k4 _ _ x_wk1 (z_ne x_wk1 x_o rfl)
          have a281 : f5 wk1 = some (.inl (cy 0, 40, .inl gx1)) := k7 _ _ a280 
          have a282 : f73 wk1 = some (.inl (cy 0, 40, .inl gx1)) := k75 _ _ a281 
          have a283 : f223 wk1 = some (.inl (cy 0, 40, .inl gx1)) := k227 _ _ a282 (z_ne a282 a219 rfl) (z_ne a282 a222 rfl)
          have a284 : f1 wk2 = some (.inl (cy 0, 40, .inl gx2)) := k4 _ _ x_wk2 (z_ne x_wk2 x_o rfl)
          have a285 : f5 wk2 = some (.inl (cy 0, 40, .inl gx2)) := k7 _ _ a284 
          have a286 : f73 wk2 = some (.inl (cy 0, 40, .inl gx2)) := k75 _ _ a285 
          have a287 : f223 wk2 = some (.inl (cy 0, 40, .inl gx2)) := k227 _ _ a286 (z_ne a286 a219 rfl) (z_ne a286 a222 rfl)
          have a288 : f1 wk3 = some (.inl (cy 0, 40, .inl gx3)) := k4 _ _ x_wk3 (z_ne x_wk3 x_o rfl)
          have a289 : f5 wk3 = some (.inl (cy 0, 40, .inl gx3)) := k7 _ _ a288 
          have a290 : f73 wk3 = some (.inl (cy 0, 40, .inl gx3)) := k75 _ _ a289 
          have a291 : f223 wk3 = some (.inl (cy 0, 40, .inl gx3)) := k227 _ _ a290 (z_ne a290 a219 rfl) (z_ne a290 a222 rfl)
          exact z_iret C hr rfl hz hS ⟨2, (-1), 0, nl, nn, nf, nc, lk, ks, (upd gv 2 (gv 2 + 1)), gu, gk, gm, gc, gw, gl, gh, gt, gy, gq, ge1, gn1, gp1, gs, gx1, gx2, gx3, ln, fz, sq, rfl, rfl, ⟨a225, a226, a231, a233, a235, a239, a243, a247, a251, a255, a259, a263, a267, a271, a275, a279, a283, a287, a291, hn60, hl12, hf6, hc60, hs40, hMP, hgy, hfz, hgs, hME, hlk, n_wki_wmy, n_wki_wiw, n_wki_wli, n_wki_wha, n_wki_wem, n_wki_wna, n_wki_wpl, n_wmy_wiw, n_wmy_wli, n_wmy_wha, n_wmy_wem, n_wmy_wna, n_wmy_wpl, n_wiw_wli, n_wiw_wha, n_wiw_wem, n_wiw_wna, n_wiw_wpl, n_wli_wha, n_wli_wem, n_wli_wna, n_wli_wpl, n_wha_wem, n_wha_wna, n_wha_wpl, n_wem_wna, n_wem_wpl, n_wna_wpl, n_wk1_wk2, n_wk1_wk3, n_wk2_wk3⟩⟩ (Nat.le_of_ble_eq_true rfl) (Nat.le_of_ble_eq_true rfl) dX8_set_88
    · refine lv_aload_n hx hb dX8_set_17 rfl (lv_at hl 0 rfl) ?_
      refine lv_iload_n hx hb dX8_set_18 rfl (lv_at hl 3 rfl) ?_
      rcases z_findi z nn with ⟨jb, hjb, hvb⟩ | hvb
      · have a292 : f5 o = some (.inr (8, [.int 0, .int (-1), .int 0, .ref wev, .int (nI nl), .ref wnb, .int (nI nn), .ref wki, .ref wmy, .ref wce, .ref wiw, .ref wli, .ref wha, .ref wwt, .int (nI nf), .ref wfy, .ref wfk, .int (nI nc), .ref wem, .ref wna, .ref wpl, .ref whs, .long lk, .int (nI ks), .ref wk1, .ref wk2, .ref wk3])) := k7 _ _ a3 
        refine z_callVi (As := [.int z]) C hz hS hA hl (k_X8_isFigure_A l D cy f5 o wev wnb wki wmy wce wiw wli wha wwt wfy wfk wem wna wpl whs wk1 wk2 wk3 0 (-1) 0 nl nn nf nc lk ks z jb a292 hn60 hvb hjb) zyX8_isFigure mMX8_139 a292 zl8 rfl rfl (Nat.le_of_ble_eq_true rfl) ⟨Nat.le_of_ble_eq_true rfl, Nat.le_of_ble_eq_true rfl⟩ ⟨Nat.le_of_ble_eq_true rfl, Nat.le_of_ble_eq_true rfl⟩ dX8_set_19 (fun r f293 H locs h294 hz hS => ?_)
        obtain ⟨rfl, k295⟩ := h294
        refine lv_if_ne (tgt := 28) hx hb dX8_set_22 (by decide) (fun c296 => ?_) (fun c296 => ?_)
        rotate_left
        · exact absurd c296 (by decide)
        refine lv_aload_n hx hb dX8_set_28 rfl (lv_at hl 0 rfl) ?_
        have a297 : f293 o = some (.inr (8, [.int 0, .int (-1), .int 0, .ref wev, .int (nI nl), .ref wnb, .int (nI nn), .ref wki, .ref wmy, .ref wce, .ref wiw, .ref wli, .ref wha, .ref wwt, .int (nI nf), .ref wfy, .ref wfk, .int (nI nc), .ref wem, .ref wna, .ref wpl, .ref whs, .long lk, .int (nI ks), .ref wk1, .ref wk2, .ref wk3])) := k295 _ _ a292 
        refine z_get (v := .ref wki) C hz a297 zl8 mFX8_20 (by decide) rfl dX8_set_29 ?_
        refine lv_iload_n hx hb dX8_set_32 rfl (lv_at hl 1 rfl) ?_
        have a298 : f1 wki = some (.inl (cy 0, 60, .inl gk)) := k4 _ _ x_wki (z_ne x_wki x_o rfl)
        have a299 : f5 wki = some (.inl (cy 0, 60, .inl gk)) := k7 _ _ a298 
        have a300 : f293 wki = some (.inl (cy 0, 60, .inl gk)) := k295 _ _ a299 
        refine z_iald ja C hz a300 hva (by omega) (by omega) dX8_set_33 ?_
        refine lv_bipush (v := 6) hx hb dX8_set_34 (by decide) ?_
        refine lv_icmp_ne (tgt := 64) hx hb dX8_set_36 (by decide) (fun c301 => ?_) (fun c301 => ?_)
        · refine lv_aload_n hx hb dX8_set_64 rfl (lv_at hl 0 rfl) ?_
          refine lv_iconst (v := 3) hx hb dX8_set_65 (by decide) ?_
          refine lv_iconst (v := (-1)) hx hb dX8_set_66 (by decide) ?_
          refine lv_iconst (v := 0) hx hb dX8_set_67 (by decide) ?_
          have a302 : f1 wev = some (.inl (cy 0, 8, .inl gv)) := k4 _ _ x_wev (z_ne x_wev x_o rfl)
          have a303 : f5 wev = some (.inl (cy 0, 8, .inl gv)) := k7 _ _ a302 
          have a304 : f293 wev = some (.inl (cy 0, 8, .inl gv)) := k295 _ _ a303 
          refine z_callVi (As := [.int 3, .int (-1), .int 0]) C hz hS hA hl (k_X8_fails l D cy f293 o wev wnb wki wmy wce wiw wli wha wwt wfy wfk wem wna wpl whs wk1 wk2 wk3 0 (-1) 0 nl nn nf nc lk ks 3 (-1) 0 gv 3 a297 a304 (by decide) (Nat.le_of_ble_eq_true rfl)) zyX8_fails mMX8_135 a297 zl8 rfl rfl (Nat.le_of_ble_eq_true rfl) ⟨Nat.le_of_ble_eq_true rfl, Nat.le_of_ble_eq_true rfl⟩ ⟨Nat.le_of_ble_eq_true rfl, Nat.le_of_ble_eq_true rfl⟩ dX8_set_68 (fun r f305 H locs h306 hz hS => ?_)
          obtain ⟨rfl, a307, a308, k309⟩ := h306
          have a310 : f1 wnb = some (.inl (cy 0, 12, .inl gu)) := k4 _ _ x_wnb (z_ne x_wnb x_o rfl)
          have a311 : f5 wnb = some (.inl (cy 0, 12, .inl gu)) := k7 _ _ a310 
          have a312 : f293 wnb = some (.inl (cy 0, 12, .inl gu)) := k295 _ _ a311 
          have a313 : f305 wnb = some (.inl (cy 0, 12, .inl gu)) := k309 _ _ a312 (z_ne a312 a297 rfl) (z_ne a312 a304 rfl)
          have a314 : f305 wki = some (.inl (cy 0, 60, .inl gk)) := k309 _ _ a300 (z_ne a300 a297 rfl) (z_ne a300 a304 rfl)
          have a315 : f1 wmy = some (.inl (cy 0, 60, .inl gm)) := k4 _ _ x_wmy (z_ne x_wmy x_o rfl)
          have a316 : f5 wmy = some (.inl (cy 0, 60, .inl gm)) := k7 _ _ a315 
          have a317 : f293 wmy = some (.inl (cy 0, 60, .inl gm)) := k295 _ _ a316 
          have a318 : f305 wmy = some (.inl (cy 0, 60, .inl gm)) := k309 _ _ a317 (z_ne a317 a297 rfl) (z_ne a317 a304 rfl)
          have a319 : f1 wce = some (.inl (cy 1, 960, .inr (.inl gc))) := k4 _ _ x_wce (z_ne x_wce x_o rfl)
          have a320 : f5 wce = some (.inl (cy 1, 960, .inr (.inl gc))) := k7 _ _ a319 
          have a321 : f293 wce = some (.inl (cy 1, 960, .inr (.inl gc))) := k295 _ _ a320 
          have a322 : f305 wce = some (.inl (cy 1, 960, .inr (.inl gc))) := k309 _ _ a321 (z_ne a321 a297 rfl) (z_ne a321 a304 rfl)
          have a323 : f1 wiw = some (.inl (cy 2, 60, .inl gw)) := k4 _ _ x_wiw (z_ne x_wiw x_o rfl)
          have a324 : f5 wiw = some (.inl (cy 2, 60, .inl gw)) := k7 _ _ a323 
          have a325 : f293 wiw = some (.inl (cy 2, 60, .inl gw)) := k295 _ _ a324 
          have a326 : f305 wiw = some (.inl (cy 2, 60, .inl gw)) := k309 _ _ a325 (z_ne a325 a297 rfl) (z_ne a325 a304 rfl)
          have a327 : f1 wli = some (.inl (cy 0, 60, .inl gl)) := k4 _ _ x_wli (z_ne x_wli x_o rfl)
          have a328 : f5 wli = some (.inl (cy 0, 60, .inl gl)) := k7 _ _ a327 
          have a329 : f293 wli = some (.inl (cy 0, 60, .inl gl)) := k295 _ _ a328 
          have a330 : f305 wli = some (.inl (cy 0, 60, .inl gl)) := k309 _ _ a329 (z_ne a329 a297 rfl) (z_ne a329 a304 rfl)
          have a331 : f1 wha = some (.inl (cy 0, 60, .inl gh)) := k4 _ _ x_wha (z_ne x_wha x_o rfl)
          have a332 : f5 wha = some (.inl (cy 0, 60, .inl gh)) := k7 _ _ a331 
          have a333 : f293 wha = some (.inl (cy 0, 60, .inl gh)) := k295 _ _ a332 
          have a334 : f305 wha = some (.inl (cy 0, 60, .inl gh)) := k309 _ _ a333 (z_ne a333 a297 rfl) (z_ne a333 a304 rfl)
          have a335 : f1 wwt = some (.inl (cy 1, 60, .inr (.inl gt))) := k4 _ _ x_wwt (z_ne x_wwt x_o rfl)
          have a336 : f5 wwt = some (.inl (cy 1, 60, .inr (.inl gt))) := k7 _ _ a335 
          have a337 : f293 wwt = some (.inl (cy 1, 60, .inr (.inl gt))) := k295 _ _ a336 
          have a338 : f305 wwt = some (.inl (cy 1, 60, .inr (.inl gt))) := k309 _ _ a337 (z_ne a337 a297 rfl) (z_ne a337 a304 rfl)
          have a339 : f1 wfy = some (.inl (cy 0, 6, .inl gy)) := k4 _ _ x_wfy (z_ne x_wfy x_o rfl)
          have a340 : f5 wfy = some (.inl (cy 0, 6, .inl gy)) := k7 _ _ a339 
          have a341 : f293 wfy = some (.inl (cy 0, 6, .inl gy)) := k295 _ _ a340 
          have a342 : f305 wfy = some (.inl (cy 0, 6, .inl gy)) := k309 _ _ a341 (z_ne a341 a297 rfl) (z_ne a341 a304 rfl)
          have a343 : f1 wfk = some (.inl (cy 0, 24, .inl gq)) := k4 _ _ x_wfk (z_ne x_wfk x_o rfl)
          have a344 : f5 wfk = some (.inl (cy 0, 24, .inl gq)) := k7 _ _ a343 
          have a345 : f293 wfk = some (.inl (cy 0, 24, .inl gq)) := k295 _ _ a344 
          have a346 : f305 wfk = some (.inl (cy 0, 24, .inl gq)) := k309 _ _ a345 (z_ne a345 a297 rfl) (z_ne a345 a304 rfl)
          have a347 : f1 wem = some (.inl (cy 0, 60, .inl ge1)) := k4 _ _ x_wem (z_ne x_wem x_o rfl)
          have a348 : f5 wem = some (.inl (cy 0, 60, .inl ge1)) := k7 _ _ a347 
          have a349 : f293 wem = some (.inl (cy 0, 60, .inl ge1)) := k295 _ _ a348 
          have a350 : f305 wem = some (.inl (cy 0, 60, .inl ge1)) := k309 _ _ a349 (z_ne a349 a297 rfl) (z_ne a349 a304 rfl)
          have a351 : f1 wna = some (.inl (cy 0, 60, .inl gn1)) := k4 _ _ x_wna (z_ne x_wna x_o rfl)
          have a352 : f5 wna = some (.inl (cy 0, 60, .inl gn1)) := k7 _ _ a351 
          have a353 : f293 wna = some (.inl (cy 0, 60, .inl gn1)) := k295 _ _ a352 
          have a354 : f305 wna = some (.inl (cy 0, 60, .inl gn1)) := k309 _ _ a353 (z_ne a353 a297 rfl) (z_ne a353 a304 rfl)
          have a355 : f1 wpl = some (.inl (cy 0, 60, .inl gp1)) := k4 _ _ x_wpl (z_ne x_wpl x_o rfl)
          have a356 : f5 wpl = some (.inl (cy 0, 60, .inl gp1)) := k7 _ _ a355 
          have a357 : f293 wpl = some (.inl (cy 0, 60, .inl gp1)) := k295 _ _ a356 
          have a358 : f305 wpl = some (.inl (cy 0, 60, .inl gp1)) := k309 _ _ a357 (z_ne a357 a297 rfl) (z_ne a357 a304 rfl)
          have a359 : f1 whs = some (.inl (cy 0, 4, .inl gs)) := k4 _ _ x_whs (z_ne x_whs x_o rfl)
          have a360 : f5 whs = some (.inl (cy 0, 4, .inl gs)) := k7 _ _ a359 
          have a361 : f293 whs = some (.inl (cy 0, 4, .inl gs)) := k295 _ _ a360 
          have a362 : f305 whs = some (.inl (cy 0, 4, .inl gs)) := k309 _ _ a361 (z_ne a361 a297 rfl) (z_ne a361 a304 rfl)
          have a363 : f1 wk1 = some (.inl (cy 0, 40, .inl gx1)) := k4 _ _ x_wk1 (z_ne x_wk1 x_o rfl)
          have a364 : f5 wk1 = some (.inl (cy 0, 40, .inl gx1)) := k7 _ _ a363 
          have a365 : f293 wk1 = some (.inl (cy 0, 40, .inl gx1)) := k295 _ _ a364 
          have a366 : f305 wk1 = some (.inl (cy 0, 40, .inl gx1)) := k309 _ _ a365 (z_ne a365 a297 rfl) (z_ne a365 a304 rfl)
          have a367 : f1 wk2 = some (.inl (cy 0, 40, .inl gx2)) := k4 _ _ x_wk2 (z_ne x_wk2 x_o rfl)
          have a368 : f5 wk2 = some (.inl (cy 0, 40, .inl gx2)) := k7 _ _ a367 
          have a369 : f293 wk2 = some (.inl (cy 0, 40, .inl gx2)) := k295 _ _ a368 
          have a370 : f305 wk2 = some (.inl (cy 0, 40, .inl gx2)) := k309 _ _ a369 (z_ne a369 a297 rfl) (z_ne a369 a304 rfl)
          have a371 : f1 wk3 = some (.inl (cy 0, 40, .inl gx3)) := k4 _ _ x_wk3 (z_ne x_wk3 x_o rfl)
          have a372 : f5 wk3 = some (.inl (cy 0, 40, .inl gx3)) := k7 _ _ a371 
          have a373 : f293 wk3 = some (.inl (cy 0, 40, .inl gx3)) := k295 _ _ a372 
          have a374 : f305 wk3 = some (.inl (cy 0, 40, .inl gx3)) := k309 _ _ a373 (z_ne a373 a297 rfl) (z_ne a373 a304 rfl)
          exact z_iret C hr rfl hz hS ⟨3, (-1), 0, nl, nn, nf, nc, lk, ks, (upd gv 3 (gv 3 + 1)), gu, gk, gm, gc, gw, gl, gh, gt, gy, gq, ge1, gn1, gp1, gs, gx1, gx2, gx3, ln, fz, sq, rfl, rfl, ⟨a307, a308, a313, a314, a318, a322, a326, a330, a334, a338, a342, a346, a350, a354, a358, a362, a366, a370, a374, hn60, hl12, hf6, hc60, hs40, hMP, hgy, hfz, hgs, hME, hlk, n_wki_wmy, n_wki_wiw, n_wki_wli, n_wki_wha, n_wki_wem, n_wki_wna, n_wki_wpl, n_wmy_wiw, n_wmy_wli, n_wmy_wha, n_wmy_wem, n_wmy_wna, n_wmy_wpl, n_wiw_wli, n_wiw_wha, n_wiw_wem, n_wiw_wna, n_wiw_wpl, n_wli_wha, n_wli_wem, n_wli_wna, n_wli_wpl, n_wha_wem, n_wha_wna, n_wha_wpl, n_wem_wna, n_wem_wpl, n_wna_wpl, n_wk1_wk2, n_wk1_wk3, n_wk2_wk3⟩⟩ (Nat.le_of_ble_eq_true rfl) (Nat.le_of_ble_eq_true rfl) dX8_set_71
        · have hk6 := c301
          refine lv_iload_n hx hb dX8_set_39 rfl (lv_at hl 3 rfl) ?_
          refine lv_iconst (v := (-1)) hx hb dX8_set_40 (by decide) ?_
          refine lv_icmp_eq (tgt := 72) hx hb dX8_set_41 (by decide) (fun c375 => ?_) (fun c375 => ?_)
          · exact absurd c375 (by rw [hvb]; exact z_nim1 (by omega))
          refine lv_aload_n hx hb dX8_set_44 rfl (lv_at hl 0 rfl) ?_
          refine z_get (v := .ref wki) C hz a297 zl8 mFX8_20 (by decide) rfl dX8_set_45 ?_
          refine lv_iload_n hx hb dX8_set_48 rfl (lv_at hl 3 rfl) ?_
          refine z_iald jb C hz a300 hvb (by omega) (by omega) dX8_set_49 ?_
          refine lv_iconst (v := 1) hx hb dX8_set_50 (by decide) ?_
          refine lv_icmp_eq (tgt := 72) hx hb dX8_set_51 (by decide) (fun c376 => ?_) (fun c376 => ?_)
          · refine lv_aload_n hx hb dX8_set_72 rfl (lv_at hl 0 rfl) ?_
            refine lv_iload_n hx hb dX8_set_73 rfl (lv_at hl 1 rfl) ?_
            refine lv_iload_n hx hb dX8_set_74 rfl (lv_at hl 2 rfl) ?_
            have a377 : f1 wmy = some (.inl (cy 0, 60, .inl gm)) := k4 _ _ x_wmy (z_ne x_wmy x_o rfl)
            have a378 : f5 wmy = some (.inl (cy 0, 60, .inl gm)) := k7 _ _ a377 
            have a379 : f293 wmy = some (.inl (cy 0, 60, .inl gm)) := k295 _ _ a378 
            refine z_callVi (As := [.int x, .int y]) C hz hS hA hl (k_X8_hasPlace l D cy f293 o wev wnb wki wmy wce wiw wli wha wwt wfy wfk wem wna wpl whs wk1 wk2 wk3 0 (-1) 0 nl nn nf nc lk ks gm x y ja (ln ja) a297 a379 hva (by omega) (hMP ja (by omega)).1) zyX8_hasPlace mMX8_145 a297 zl8 rfl rfl (Nat.le_of_ble_eq_true rfl) ⟨Nat.le_of_ble_eq_true rfl, Nat.le_of_ble_eq_true rfl⟩ ⟨Nat.le_of_ble_eq_true rfl, Nat.le_of_ble_eq_true rfl⟩ dX8_set_75 (fun r f380 H locs h381 hz hS => ?_)
            obtain ⟨rfl, k382⟩ := h381
            refine lv_if_ne (tgt := 89) hx hb dX8_set_78 (by decide) (fun c383 => ?_) (fun c383 => ?_)
            · obtain ⟨kx, hyk, hkx⟩ := z_place (by have h9 := (hMP ja (by omega)).2.1; omega) c383
              refine lv_aload_n hx hb dX8_set_89 rfl (lv_at hl 0 rfl) ?_
              have a384 : f380 o = some (.inr (8, [.int 0, .int (-1), .int 0, .ref wev, .int (nI nl), .ref wnb, .int (nI nn), .ref wki, .ref wmy, .ref wce, .ref wiw, .ref wli, .ref wha, .ref wwt, .int (nI nf), .ref wfy, .ref wfk, .int (nI nc), .ref wem, .ref wna, .ref wpl, .ref whs, .long lk, .int (nI ks), .ref wk1, .ref wk2, .ref wk3])) := k382 _ _ a297 
              refine z_get (v := .ref wiw) C hz a384 zl8 mFX8_30 (by decide) rfl dX8_set_90 ?_
              refine lv_iload_n hx hb dX8_set_93 rfl (lv_at hl 1 rfl) ?_
              have a385 : f1 wiw = some (.inl (cy 2, 60, .inl gw)) := k4 _ _ x_wiw (z_ne x_wiw x_o rfl)
              have a386 : f5 wiw = some (.inl (cy 2, 60, .inl gw)) := k7 _ _ a385 
              have a387 : f293 wiw = some (.inl (cy 2, 60, .inl gw)) := k295 _ _ a386 
              have a388 : f380 wiw = some (.inl (cy 2, 60, .inl gw)) := k382 _ _ a387 
              refine z_zald ja C hz a388 hva (by omega) (by omega) dX8_set_94 ?_
              refine lv_if_eq (tgt := 121) hx hb dX8_set_95 (by decide) (fun c389 => ?_) (fun c389 => ?_)
              · refine lv_aload_n hx hb dX8_set_121 rfl (lv_at hl 0 rfl) ?_
                refine z_get (v := .ref wce) C hz a384 zl8 mFX8_26 (by decide) rfl dX8_set_122 ?_
                refine lv_bipush (v := 16) hx hb dX8_set_125 (by decide) ?_
                refine lv_iload_n hx hb dX8_set_127 rfl (lv_at hl 1 rfl) ?_
                refine lv_imul hx hb dX8_set_128 ?_
                refine lv_iconst (v := 1) hx hb dX8_set_129 (by decide) ?_
                refine lv_iadd hx hb dX8_set_130 ?_
                refine lv_iload_n hx hb dX8_set_131 rfl (lv_at hl 2 rfl) ?_
                refine lv_iadd hx hb dX8_set_132 ?_
                refine lv_iload_n hx hb dX8_set_133 rfl (lv_at hl 3 rfl) ?_
                refine lv_i2l (v := z.toInt64) hx hb dX8_set_134 rfl ?_
                have a390 : f1 wce = some (.inl (cy 1, 960, .inr (.inl gc))) := k4 _ _ x_wce (z_ne x_wce x_o rfl)
                have a391 : f5 wce = some (.inl (cy 1, 960, .inr (.inl gc))) := k7 _ _ a390 
                have a392 : f293 wce = some (.inl (cy 1, 960, .inr (.inl gc))) := k295 _ _ a391 
                have a393 : f380 wce = some (.inl (cy 1, 960, .inr (.inl gc))) := k382 _ _ a392 
                refine z_last (16 * ja + 1 + kx) C hz hS a393 (by rw [hva, hyk]; exact z_ce1 ja kx) (by have h9 := (hMP ja (by omega)).2.1; omega) (by omega) dX8_set_135 (fun H locs f394 a395 k396 hz hS => ?_)
                refine lv_iconst (v := 1) hx hb dX8_set_136 (by decide) ?_
                have a397 : f394 o = some (.inr (8, [.int 0, .int (-1), .int 0, .ref wev, .int (nI nl), .ref wnb, .int (nI nn), .ref wki, .ref wmy, .ref wce, .ref wiw, .ref wli, .ref wha, .ref wwt, .int (nI nf), .ref wfy, .ref wfk, .int (nI nc), .ref wem, .ref wna, .ref wpl, .ref whs, .long lk, .int (nI ks), .ref wk1, .ref wk2, .ref wk3])) := (k396 _ (z_ne a384 a393 rfl)).trans a384
                have a398 : f1 wev = some (.inl (cy 0, 8, .inl gv)) := k4 _ _ x_wev (z_ne x_wev x_o rfl)
                have a399 : f5 wev = some (.inl (cy 0, 8, .inl gv)) := k7 _ _ a398 
                have a400 : f293 wev = some (.inl (cy 0, 8, .inl gv)) := k295 _ _ a399 
                have a401 : f380 wev = some (.inl (cy 0, 8, .inl gv)) := k382 _ _ a400 
                have a402 : f394 wev = some (.inl (cy 0, 8, .inl gv)) := (k396 _ (z_ne a401 a393 rfl)).trans a401
                have a403 : f1 wnb = some (.inl (cy 0, 12, .inl gu)) := k4 _ _ x_wnb (z_ne x_wnb x_o rfl)
                have a404 : f5 wnb = some (.inl (cy 0, 12, .inl gu)) := k7 _ _ a403 
                have a405 : f293 wnb = some (.inl (cy 0, 12, .inl gu)) := k295 _ _ a404 
                have a406 : f380 wnb = some (.inl (cy 0, 12, .inl gu)) := k382 _ _ a405 
                have a407 : f394 wnb = some (.inl (cy 0, 12, .inl gu)) := (k396 _ (z_ne a406 a393 rfl)).trans a406
                have a408 : f380 wki = some (.inl (cy 0, 60, .inl gk)) := k382 _ _ a300 
                have a409 : f394 wki = some (.inl (cy 0, 60, .inl gk)) := (k396 _ (z_ne a408 a393 rfl)).trans a408
                have a410 : f380 wmy = some (.inl (cy 0, 60, .inl gm)) := k382 _ _ a379 
                have a411 : f394 wmy = some (.inl (cy 0, 60, .inl gm)) := (k396 _ (z_ne a410 a393 rfl)).trans a410
                have a412 : f394 wiw = some (.inl (cy 2, 60, .inl gw)) := (k396 _ (z_ne a388 a393 rfl)).trans a388
                have a413 : f1 wli = some (.inl (cy 0, 60, .inl gl)) := k4 _ _ x_wli (z_ne x_wli x_o rfl)
                have a414 : f5 wli = some (.inl (cy 0, 60, .inl gl)) := k7 _ _ a413 
                have a415 : f293 wli = some (.inl (cy 0, 60, .inl gl)) := k295 _ _ a414 
                have a416 : f380 wli = some (.inl (cy 0, 60, .inl gl)) := k382 _ _ a415 
                have a417 : f394 wli = some (.inl (cy 0, 60, .inl gl)) := (k396 _ (z_ne a416 a393 rfl)).trans a416
                have a418 : f1 wha = some (.inl (cy 0, 60, .inl gh)) := k4 _ _ x_wha (z_ne x_wha x_o rfl)
                have a419 : f5 wha = some (.inl (cy 0, 60, .inl gh)) := k7 _ _ a418 
                have a420 : f293 wha = some (.inl (cy 0, 60, .inl gh)) := k295 _ _ a419 
                have a421 : f380 wha = some (.inl (cy 0, 60, .inl gh)) := k382 _ _ a420 
                have a422 : f394 wha = some (.inl (cy 0, 60, .inl gh)) := (k396 _ (z_ne a421 a393 rfl)).trans a421
                have a423 : f1 wwt = some (.inl (cy 1, 60, .inr (.inl gt))) := k4 _ _ x_wwt (z_ne x_wwt x_o rfl)
                have a424 : f5 wwt = some (.inl (cy 1, 60, .inr (.inl gt))) := k7 _ _ a423 
                have a425 : f293 wwt = some (.inl (cy 1, 60, .inr (.inl gt))) := k295 _ _ a424 
                have a426 : f380 wwt = some (.inl (cy 1, 60, .inr (.inl gt))) := k382 _ _ a425 
                have a427 : f394 wwt = some (.inl (cy 1, 60, .inr (.inl gt))) := (k396 _ (z_ne a426 a393 rfl)).trans a426
                have a428 : f1 wfy = some (.inl (cy 0, 6, .inl gy)) := k4 _ _ x_wfy (z_ne x_wfy x_o rfl)
                have a429 : f5 wfy = some (.inl (cy 0, 6, .inl gy)) := k7 _ _ a428 
                have a430 : f293 wfy = some (.inl (cy 0, 6, .inl gy)) := k295 _ _ a429 
                have a431 : f380 wfy = some (.inl (cy 0, 6, .inl gy)) := k382 _ _ a430 
                have a432 : f394 wfy = some (.inl (cy 0, 6, .inl gy)) := (k396 _ (z_ne a431 a393 rfl)).trans a431
                have a433 : f1 wfk = some (.inl (cy 0, 24, .inl gq)) := k4 _ _ x_wfk (z_ne x_wfk x_o rfl)
                have a434 : f5 wfk = some (.inl (cy 0, 24, .inl gq)) := k7 _ _ a433 
                have a435 : f293 wfk = some (.inl (cy 0, 24, .inl gq)) := k295 _ _ a434 
                have a436 : f380 wfk = some (.inl (cy 0, 24, .inl gq)) := k382 _ _ a435 
                have a437 : f394 wfk = some (.inl (cy 0, 24, .inl gq)) := (k396 _ (z_ne a436 a393 rfl)).trans a436
                have a438 : f1 wem = some (.inl (cy 0, 60, .inl ge1)) := k4 _ _ x_wem (z_ne x_wem x_o rfl)
                have a439 : f5 wem = some (.inl (cy 0, 60, .inl ge1)) := k7 _ _ a438 
                have a440 : f293 wem = some (.inl (cy 0, 60, .inl ge1)) := k295 _ _ a439 
                have a441 : f380 wem = some (.inl (cy 0, 60, .inl ge1)) := k382 _ _ a440 
                have a442 : f394 wem = some (.inl (cy 0, 60, .inl ge1)) := (k396 _ (z_ne a441 a393 rfl)).trans a441
                have a443 : f1 wna = some (.inl (cy 0, 60, .inl gn1)) := k4 _ _ x_wna (z_ne x_wna x_o rfl)
                have a444 : f5 wna = some (.inl (cy 0, 60, .inl gn1)) := k7 _ _ a443 
                have a445 : f293 wna = some (.inl (cy 0, 60, .inl gn1)) := k295 _ _ a444 
                have a446 : f380 wna = some (.inl (cy 0, 60, .inl gn1)) := k382 _ _ a445 
                have a447 : f394 wna = some (.inl (cy 0, 60, .inl gn1)) := (k396 _ (z_ne a446 a393 rfl)).trans a446
                have a448 : f1 wpl = some (.inl (cy 0, 60, .inl gp1)) := k4 _ _ x_wpl (z_ne x_wpl x_o rfl)
                have a449 : f5 wpl = some (.inl (cy 0, 60, .inl gp1)) := k7 _ _ a448 
                have a450 : f293 wpl = some (.inl (cy 0, 60, .inl gp1)) := k295 _ _ a449 
                have a451 : f380 wpl = some (.inl (cy 0, 60, .inl gp1)) := k382 _ _ a450 
                have a452 : f394 wpl = some (.inl (cy 0, 60, .inl gp1)) := (k396 _ (z_ne a451 a393 rfl)).trans a451
                have a453 : f1 whs = some (.inl (cy 0, 4, .inl gs)) := k4 _ _ x_whs (z_ne x_whs x_o rfl)
                have a454 : f5 whs = some (.inl (cy 0, 4, .inl gs)) := k7 _ _ a453 
                have a455 : f293 whs = some (.inl (cy 0, 4, .inl gs)) := k295 _ _ a454 
                have a456 : f380 whs = some (.inl (cy 0, 4, .inl gs)) := k382 _ _ a455 
                have a457 : f394 whs = some (.inl (cy 0, 4, .inl gs)) := (k396 _ (z_ne a456 a393 rfl)).trans a456
                have a458 : f1 wk1 = some (.inl (cy 0, 40, .inl gx1)) := k4 _ _ x_wk1 (z_ne x_wk1 x_o rfl)
                have a459 : f5 wk1 = some (.inl (cy 0, 40, .inl gx1)) := k7 _ _ a458 
                have a460 : f293 wk1 = some (.inl (cy 0, 40, .inl gx1)) := k295 _ _ a459 
                have a461 : f380 wk1 = some (.inl (cy 0, 40, .inl gx1)) := k382 _ _ a460 
                have a462 : f394 wk1 = some (.inl (cy 0, 40, .inl gx1)) := (k396 _ (z_ne a461 a393 rfl)).trans a461
                have a463 : f1 wk2 = some (.inl (cy 0, 40, .inl gx2)) := k4 _ _ x_wk2 (z_ne x_wk2 x_o rfl)
                have a464 : f5 wk2 = some (.inl (cy 0, 40, .inl gx2)) := k7 _ _ a463 
                have a465 : f293 wk2 = some (.inl (cy 0, 40, .inl gx2)) := k295 _ _ a464 
                have a466 : f380 wk2 = some (.inl (cy 0, 40, .inl gx2)) := k382 _ _ a465 
                have a467 : f394 wk2 = some (.inl (cy 0, 40, .inl gx2)) := (k396 _ (z_ne a466 a393 rfl)).trans a466
                have a468 : f1 wk3 = some (.inl (cy 0, 40, .inl gx3)) := k4 _ _ x_wk3 (z_ne x_wk3 x_o rfl)
                have a469 : f5 wk3 = some (.inl (cy 0, 40, .inl gx3)) := k7 _ _ a468 
                have a470 : f293 wk3 = some (.inl (cy 0, 40, .inl gx3)) := k295 _ _ a469 
                have a471 : f380 wk3 = some (.inl (cy 0, 40, .inl gx3)) := k382 _ _ a470 
                have a472 : f394 wk3 = some (.inl (cy 0, 40, .inl gx3)) := (k396 _ (z_ne a471 a393 rfl)).trans a471
                exact z_iret C hr rfl hz hS ⟨0, (-1), 0, nl, nn, nf, nc, lk, ks, gv, gu, gk, gm, (vp_updL gc (16 * ja + 1 + kx) z.toInt64), gw, gl, gh, gt, gy, gq, ge1, gn1, gp1, gs, gx1, gx2, gx3, ln, fz, sq, rfl, rfl, ⟨a397, a402, a407, a409, a411, a395, a412, a417, a422, a427, a432, a437, a442, a447, a452, a457, a462, a467, a472, hn60, hl12, hf6, hc60, hs40, (zMP_set hMP hk6 (by have h9 := (hMP ja (by omega)).2.1; omega)), hgy, hfz, hgs, hME, hlk, n_wki_wmy, n_wki_wiw, n_wki_wli, n_wki_wha, n_wki_wem, n_wki_wna, n_wki_wpl, n_wmy_wiw, n_wmy_wli, n_wmy_wha, n_wmy_wem, n_wmy_wna, n_wmy_wpl, n_wiw_wli, n_wiw_wha, n_wiw_wem, n_wiw_wna, n_wiw_wpl, n_wli_wha, n_wli_wem, n_wli_wna, n_wli_wpl, n_wha_wem, n_wha_wna, n_wha_wpl, n_wem_wna, n_wem_wpl, n_wna_wpl, n_wk1_wk2, n_wk1_wk3, n_wk2_wk3⟩⟩ (Nat.le_of_ble_eq_true rfl) (Nat.le_of_ble_eq_true rfl) dX8_set_137
              · refine lv_iload_n hx hb dX8_set_98 rfl (lv_at hl 3 rfl) ?_
                refine lv_iconst (v := (-1)) hx hb dX8_set_99 (by decide) ?_
                refine lv_icmp_eq (tgt := 121) hx hb dX8_set_100 (by decide) (fun c473 => ?_) (fun c473 => ?_)
                · exact absurd c473 (by rw [hvb]; exact z_nim1 (by omega))
                refine lv_aload_n hx hb dX8_set_103 rfl (lv_at hl 0 rfl) ?_
                refine z_get (v := .ref wki) C hz a384 zl8 mFX8_20 (by decide) rfl dX8_set_104 ?_
                refine lv_iload_n hx hb dX8_set_107 rfl (lv_at hl 3 rfl) ?_
                have a474 : f380 wki = some (.inl (cy 0, 60, .inl gk)) := k382 _ _ a300 
                refine z_iald jb C hz a474 hvb (by omega) (by omega) dX8_set_108 ?_
                refine lv_iconst (v := 2) hx hb dX8_set_109 (by decide) ?_
                refine lv_icmp_eq (tgt := 121) hx hb dX8_set_110 (by decide) (fun c475 => ?_) (fun c475 => ?_)
                · refine lv_aload_n hx hb dX8_set_121 rfl (lv_at hl 0 rfl) ?_
                  refine z_get (v := .ref wce) C hz a384 zl8 mFX8_26 (by decide) rfl dX8_set_122 ?_
                  refine lv_bipush (v := 16) hx hb dX8_set_125 (by decide) ?_
                  refine lv_iload_n hx hb dX8_set_127 rfl (lv_at hl 1 rfl) ?_
                  refine lv_imul hx hb dX8_set_128 ?_
                  refine lv_iconst (v := 1) hx hb dX8_set_129 (by decide) ?_
                  refine lv_iadd hx hb dX8_set_130 ?_
                  refine lv_iload_n hx hb dX8_set_131 rfl (lv_at hl 2 rfl) ?_
                  refine lv_iadd hx hb dX8_set_132 ?_
                  refine lv_iload_n hx hb dX8_set_133 rfl (lv_at hl 3 rfl) ?_
                  refine lv_i2l (v := z.toInt64) hx hb dX8_set_134 rfl ?_
                  have a476 : f1 wce = some (.inl (cy 1, 960, .inr (.inl gc))) := k4 _ _ x_wce (z_ne x_wce x_o rfl)
                  have a477 : f5 wce = some (.inl (cy 1, 960, .inr (.inl gc))) := k7 _ _ a476 
                  have a478 : f293 wce = some (.inl (cy 1, 960, .inr (.inl gc))) := k295 _ _ a477 
                  have a479 : f380 wce = some (.inl (cy 1, 960, .inr (.inl gc))) := k382 _ _ a478 
                  refine z_last (16 * ja + 1 + kx) C hz hS a479 (by rw [hva, hyk]; exact z_ce1 ja kx) (by have h9 := (hMP ja (by omega)).2.1; omega) (by omega) dX8_set_135 (fun H locs f480 a481 k482 hz hS => ?_)
                  refine lv_iconst (v := 1) hx hb dX8_set_136 (by decide) ?_
                  have a483 : f480 o = some (.inr (8, [.int 0, .int (-1), .int 0, .ref wev, .int (nI nl), .ref wnb, .int (nI nn), .ref wki, .ref wmy, .ref wce, .ref wiw, .ref wli, .ref wha, .ref wwt, .int (nI nf), .ref wfy, .ref wfk, .int (nI nc), .ref wem, .ref wna, .ref wpl, .ref whs, .long lk, .int (nI ks), .ref wk1, .ref wk2, .ref wk3])) := (k482 _ (z_ne a384 a479 rfl)).trans a384
                  have a484 : f1 wev = some (.inl (cy 0, 8, .inl gv)) := k4 _ _ x_wev (z_ne x_wev x_o rfl)
                  have a485 : f5 wev = some (.inl (cy 0, 8, .inl gv)) := k7 _ _ a484 
                  have a486 : f293 wev = some (.inl (cy 0, 8, .inl gv)) := k295 _ _ a485 
                  have a487 : f380 wev = some (.inl (cy 0, 8, .inl gv)) := k382 _ _ a486 
                  have a488 : f480 wev = some (.inl (cy 0, 8, .inl gv)) := (k482 _ (z_ne a487 a479 rfl)).trans a487
                  have a489 : f1 wnb = some (.inl (cy 0, 12, .inl gu)) := k4 _ _ x_wnb (z_ne x_wnb x_o rfl)
                  have a490 : f5 wnb = some (.inl (cy 0, 12, .inl gu)) := k7 _ _ a489 
                  have a491 : f293 wnb = some (.inl (cy 0, 12, .inl gu)) := k295 _ _ a490 
                  have a492 : f380 wnb = some (.inl (cy 0, 12, .inl gu)) := k382 _ _ a491 
                  have a493 : f480 wnb = some (.inl (cy 0, 12, .inl gu)) := (k482 _ (z_ne a492 a479 rfl)).trans a492
                  have a494 : f480 wki = some (.inl (cy 0, 60, .inl gk)) := (k482 _ (z_ne a474 a479 rfl)).trans a474
                  have a495 : f380 wmy = some (.inl (cy 0, 60, .inl gm)) := k382 _ _ a379 
                  have a496 : f480 wmy = some (.inl (cy 0, 60, .inl gm)) := (k482 _ (z_ne a495 a479 rfl)).trans a495
                  have a497 : f480 wiw = some (.inl (cy 2, 60, .inl gw)) := (k482 _ (z_ne a388 a479 rfl)).trans a388
                  have a498 : f1 wli = some (.inl (cy 0, 60, .inl gl)) := k4 _ _ x_wli (z_ne x_wli x_o rfl)
                  have a499 : f5 wli = some (.inl (cy 0, 60, .inl gl)) := k7 _ _ a498 
                  have a500 : f293 wli = some (.inl (cy 0, 60, .inl gl)) := k295 _ _ a499 
                  have a501 : f380 wli = some (.inl (cy 0, 60, .inl gl)) := k382 _ _ a500 
                  have a502 : f480 wli = some (.inl (cy 0, 60, .inl gl)) := (k482 _ (z_ne a501 a479 rfl)).trans a501
                  have a503 : f1 wha = some (.inl (cy 0, 60, .inl gh)) := k4 _ _ x_wha (z_ne x_wha x_o rfl)
                  have a504 : f5 wha = some (.inl (cy 0, 60, .inl gh)) := k7 _ _ a503 
                  have a505 : f293 wha = some (.inl (cy 0, 60, .inl gh)) := k295 _ _ a504 
                  have a506 : f380 wha = some (.inl (cy 0, 60, .inl gh)) := k382 _ _ a505 
                  have a507 : f480 wha = some (.inl (cy 0, 60, .inl gh)) := (k482 _ (z_ne a506 a479 rfl)).trans a506
                  have a508 : f1 wwt = some (.inl (cy 1, 60, .inr (.inl gt))) := k4 _ _ x_wwt (z_ne x_wwt x_o rfl)
                  have a509 : f5 wwt = some (.inl (cy 1, 60, .inr (.inl gt))) := k7 _ _ a508 
                  have a510 : f293 wwt = some (.inl (cy 1, 60, .inr (.inl gt))) := k295 _ _ a509 
                  have a511 : f380 wwt = some (.inl (cy 1, 60, .inr (.inl gt))) := k382 _ _ a510 
                  have a512 : f480 wwt = some (.inl (cy 1, 60, .inr (.inl gt))) := (k482 _ (z_ne a511 a479 rfl)).trans a511
                  have a513 : f1 wfy = some (.inl (cy 0, 6, .inl gy)) := k4 _ _ x_wfy (z_ne x_wfy x_o rfl)
                  have a514 : f5 wfy = some (.inl (cy 0, 6, .inl gy)) := k7 _ _ a513 
                  have a515 : f293 wfy = some (.inl (cy 0, 6, .inl gy)) := k295 _ _ a514 
                  have a516 : f380 wfy = some (.inl (cy 0, 6, .inl gy)) := k382 _ _ a515 
                  have a517 : f480 wfy = some (.inl (cy 0, 6, .inl gy)) := (k482 _ (z_ne a516 a479 rfl)).trans a516
                  have a518 : f1 wfk = some (.inl (cy 0, 24, .inl gq)) := k4 _ _ x_wfk (z_ne x_wfk x_o rfl)
                  have a519 : f5 wfk = some (.inl (cy 0, 24, .inl gq)) := k7 _ _ a518 
                  have a520 : f293 wfk = some (.inl (cy 0, 24, .inl gq)) := k295 _ _ a519 
                  have a521 : f380 wfk = some (.inl (cy 0, 24, .inl gq)) := k382 _ _ a520 
                  have a522 : f480 wfk = some (.inl (cy 0, 24, .inl gq)) := (k482 _ (z_ne a521 a479 rfl)).trans a521
                  have a523 : f1 wem = some (.inl (cy 0, 60, .inl ge1)) := k4 _ _ x_wem (z_ne x_wem x_o rfl)
                  have a524 : f5 wem = some (.inl (cy 0, 60, .inl ge1)) := k7 _ _ a523 
                  have a525 : f293 wem = some (.inl (cy 0, 60, .inl ge1)) := k295 _ _ a524 
                  have a526 : f380 wem = some (.inl (cy 0, 60, .inl ge1)) := k382 _ _ a525 
                  have a527 : f480 wem = some (.inl (cy 0, 60, .inl ge1)) := (k482 _ (z_ne a526 a479 rfl)).trans a526
                  have a528 : f1 wna = some (.inl (cy 0, 60, .inl gn1)) := k4 _ _ x_wna (z_ne x_wna x_o rfl)
                  have a529 : f5 wna = some (.inl (cy 0, 60, .inl gn1)) := k7 _ _ a528 
                  have a530 : f293 wna = some (.inl (cy 0, 60, .inl gn1)) := k295 _ _ a529 
                  have a531 : f380 wna = some (.inl (cy 0, 60, .inl gn1)) := k382 _ _ a530 
                  have a532 : f480 wna = some (.inl (cy 0, 60, .inl gn1)) := (k482 _ (z_ne a531 a479 rfl)).trans a531
                  have a533 : f1 wpl = some (.inl (cy 0, 60, .inl gp1)) := k4 _ _ x_wpl (z_ne x_wpl x_o rfl)
                  have a534 : f5 wpl = some (.inl (cy 0, 60, .inl gp1)) := k7 _ _ a533 
                  have a535 : f293 wpl = some (.inl (cy 0, 60, .inl gp1)) := k295 _ _ a534 
                  have a536 : f380 wpl = some (.inl (cy 0, 60, .inl gp1)) := k382 _ _ a535 
                  have a537 : f480 wpl = some (.inl (cy 0, 60, .inl gp1)) := (k482 _ (z_ne a536 a479 rfl)).trans a536
                  have a538 : f1 whs = some (.inl (cy 0, 4, .inl gs)) := k4 _ _ x_whs (z_ne x_whs x_o rfl)
                  have a539 : f5 whs = some (.inl (cy 0, 4, .inl gs)) := k7 _ _ a538 
                  have a540 : f293 whs = some (.inl (cy 0, 4, .inl gs)) := k295 _ _ a539 
                  have a541 : f380 whs = some (.inl (cy 0, 4, .inl gs)) := k382 _ _ a540 
                  have a542 : f480 whs = some (.inl (cy 0, 4, .inl gs)) := (k482 _ (z_ne a541 a479 rfl)).trans a541
                  have a543 : f1 wk1 = some (.inl (cy 0, 40, .inl gx1)) := k4 _ _ x_wk1 (z_ne x_wk1 x_o rfl)
                  have a544 : f5 wk1 = some (.inl (cy 0, 40, .inl gx1)) := k7 _ _ a543 
                  have a545 : f293 wk1 = some (.inl (cy 0, 40, .inl gx1)) := k295 _ _ a544 
                  have a546 : f380 wk1 = some (.inl (cy 0, 40, .inl gx1)) := k382 _ _ a545 
                  have a547 : f480 wk1 = some (.inl (cy 0, 40, .inl gx1)) := (k482 _ (z_ne a546 a479 rfl)).trans a546
                  have a548 : f1 wk2 = some (.inl (cy 0, 40, .inl gx2)) := k4 _ _ x_wk2 (z_ne x_wk2 x_o rfl)
                  have a549 : f5 wk2 = some (.inl (cy 0, 40, .inl gx2)) := k7 _ _ a548 
                  have a550 : f293 wk2 = some (.inl (cy 0, 40, .inl gx2)) := k295 _ _ a549 
                  have a551 : f380 wk2 = some (.inl (cy 0, 40, .inl gx2)) := k382 _ _ a550 
                  have a552 : f480 wk2 = some (.inl (cy 0, 40, .inl gx2)) := (k482 _ (z_ne a551 a479 rfl)).trans a551
                  have a553 : f1 wk3 = some (.inl (cy 0, 40, .inl gx3)) := k4 _ _ x_wk3 (z_ne x_wk3 x_o rfl)
                  have a554 : f5 wk3 = some (.inl (cy 0, 40, .inl gx3)) := k7 _ _ a553 
                  have a555 : f293 wk3 = some (.inl (cy 0, 40, .inl gx3)) := k295 _ _ a554 
                  have a556 : f380 wk3 = some (.inl (cy 0, 40, .inl gx3)) := k382 _ _ a555 
                  have a557 : f480 wk3 = some (.inl (cy 0, 40, .inl gx3)) := (k482 _ (z_ne a556 a479 rfl)).trans a556
                  exact z_iret C hr rfl hz hS ⟨0, (-1), 0, nl, nn, nf, nc, lk, ks, gv, gu, gk, gm, (vp_updL gc (16 * ja + 1 + kx) z.toInt64), gw, gl, gh, gt, gy, gq, ge1, gn1, gp1, gs, gx1, gx2, gx3, ln, fz, sq, rfl, rfl, ⟨a483, a488, a493, a494, a496, a481, a497, a502, a507, a512, a517, a522, a527, a532, a537, a542, a547, a552, a557, hn60, hl12, hf6, hc60, hs40, (zMP_set hMP hk6 (by have h9 := (hMP ja (by omega)).2.1; omega)), hgy, hfz, hgs, hME, hlk, n_wki_wmy, n_wki_wiw, n_wki_wli, n_wki_wha, n_wki_wem, n_wki_wna, n_wki_wpl, n_wmy_wiw, n_wmy_wli, n_wmy_wha, n_wmy_wem, n_wmy_wna, n_wmy_wpl, n_wiw_wli, n_wiw_wha, n_wiw_wem, n_wiw_wna, n_wiw_wpl, n_wli_wha, n_wli_wem, n_wli_wna, n_wli_wpl, n_wha_wem, n_wha_wna, n_wha_wpl, n_wem_wna, n_wem_wpl, n_wna_wpl, n_wk1_wk2, n_wk1_wk3, n_wk2_wk3⟩⟩ (Nat.le_of_ble_eq_true rfl) (Nat.le_of_ble_eq_true rfl) dX8_set_137
                · refine lv_aload_n hx hb dX8_set_113 rfl (lv_at hl 0 rfl) ?_
                  refine lv_iconst (v := 4) hx hb dX8_set_114 (by decide) ?_
                  refine lv_iconst (v := (-1)) hx hb dX8_set_115 (by decide) ?_
                  refine lv_iconst (v := 0) hx hb dX8_set_116 (by decide) ?_
                  have a558 : f1 wev = some (.inl (cy 0, 8, .inl gv)) := k4 _ _ x_wev (z_ne x_wev x_o rfl)
                  have a559 : f5 wev = some (.inl (cy 0, 8, .inl gv)) := k7 _ _ a558 
                  have a560 : f293 wev = some (.inl (cy 0, 8, .inl gv)) := k295 _ _ a559 
                  have a561 : f380 wev = some (.inl (cy 0, 8, .inl gv)) := k382 _ _ a560 
                  refine z_callVi (As := [.int 4, .int (-1), .int 0]) C hz hS hA hl (k_X8_fails l D cy f380 o wev wnb wki wmy wce wiw wli wha wwt wfy wfk wem wna wpl whs wk1 wk2 wk3 0 (-1) 0 nl nn nf nc lk ks 4 (-1) 0 gv 4 a384 a561 (by decide) (Nat.le_of_ble_eq_true rfl)) zyX8_fails mMX8_135 a384 zl8 rfl rfl (Nat.le_of_ble_eq_true rfl) ⟨Nat.le_of_ble_eq_true rfl, Nat.le_of_ble_eq_true rfl⟩ ⟨Nat.le_of_ble_eq_true rfl, Nat.le_of_ble_eq_true rfl⟩ dX8_set_117 (fun r f562 H locs h563 hz hS => ?_)
                  obtain ⟨rfl, a564, a565, k566⟩ := h563
                  have a567 : f1 wnb = some (.inl (cy 0, 12, .inl gu)) := k4 _ _ x_wnb (z_ne x_wnb x_o rfl)
                  have a568 : f5 wnb = some (.inl (cy 0, 12, .inl gu)) := k7 _ _ a567 
                  have a569 : f293 wnb = some (.inl (cy 0, 12, .inl gu)) := k295 _ _ a568 
                  have a570 : f380 wnb = some (.inl (cy 0, 12, .inl gu)) := k382 _ _ a569 
                  have a571 : f562 wnb = some (.inl (cy 0, 12, .inl gu)) := k566 _ _ a570 (z_ne a570 a384 rfl) (z_ne a570 a561 rfl)
                  have a572 : f562 wki = some (.inl (cy 0, 60, .inl gk)) := k566 _ _ a474 (z_ne a474 a384 rfl) (z_ne a474 a561 rfl)
                  have a573 : f380 wmy = some (.inl (cy 0, 60, .inl gm)) := k382 _ _ a379 
                  have a574 : f562 wmy = some (.inl (cy 0, 60, .inl gm)) := k566 _ _ a573 (z_ne a573 a384 rfl) (z_ne a573 a561 rfl)
                  have a575 : f1 wce = some (.inl (cy 1, 960, .inr (.inl gc))) := k4 _ _ x_wce (z_ne x_wce x_o rfl)
                  have a576 : f5 wce = some (.inl (cy 1, 960, .inr (.inl gc))) := k7 _ _ a575 
                  have a577 : f293 wce = some (.inl (cy 1, 960, .inr (.inl gc))) := k295 _ _ a576 
                  have a578 : f380 wce = some (.inl (cy 1, 960, .inr (.inl gc))) := k382 _ _ a577 
                  have a579 : f562 wce = some (.inl (cy 1, 960, .inr (.inl gc))) := k566 _ _ a578 (z_ne a578 a384 rfl) (z_ne a578 a561 rfl)
                  have a580 : f562 wiw = some (.inl (cy 2, 60, .inl gw)) := k566 _ _ a388 (z_ne a388 a384 rfl) (z_ne a388 a561 rfl)
                  have a581 : f1 wli = some (.inl (cy 0, 60, .inl gl)) := k4 _ _ x_wli (z_ne x_wli x_o rfl)
                  have a582 : f5 wli = some (.inl (cy 0, 60, .inl gl)) := k7 _ _ a581 
                  have a583 : f293 wli = some (.inl (cy 0, 60, .inl gl)) := k295 _ _ a582 
                  have a584 : f380 wli = some (.inl (cy 0, 60, .inl gl)) := k382 _ _ a583 
                  have a585 : f562 wli = some (.inl (cy 0, 60, .inl gl)) := k566 _ _ a584 (z_ne a584 a384 rfl) (z_ne a584 a561 rfl)
                  have a586 : f1 wha = some (.inl (cy 0, 60, .inl gh)) := k4 _ _ x_wha (z_ne x_wha x_o rfl)
                  have a587 : f5 wha = some (.inl (cy 0, 60, .inl gh)) := k7 _ _ a586 
                  have a588 : f293 wha = some (.inl (cy 0, 60, .inl gh)) := k295 _ _ a587 
                  have a589 : f380 wha = some (.inl (cy 0, 60, .inl gh)) := k382 _ _ a588 
                  have a590 : f562 wha = some (.inl (cy 0, 60, .inl gh)) := k566 _ _ a589 (z_ne a589 a384 rfl) (z_ne a589 a561 rfl)
                  have a591 : f1 wwt = some (.inl (cy 1, 60, .inr (.inl gt))) := k4 _ _ x_wwt (z_ne x_wwt x_o rfl)
                  have a592 : f5 wwt = some (.inl (cy 1, 60, .inr (.inl gt))) := k7 _ _ a591 
                  have a593 : f293 wwt = some (.inl (cy 1, 60, .inr (.inl gt))) := k295 _ _ a592 
                  have a594 : f380 wwt = some (.inl (cy 1, 60, .inr (.inl gt))) := k382 _ _ a593 
                  have a595 : f562 wwt = some (.inl (cy 1, 60, .inr (.inl gt))) := k566 _ _ a594 (z_ne a594 a384 rfl) (z_ne a594 a561 rfl)
                  have a596 : f1 wfy = some (.inl (cy 0, 6, .inl gy)) := k4 _ _ x_wfy (z_ne x_wfy x_o rfl)
                  have a597 : f5 wfy = some (.inl (cy 0, 6, .inl gy)) := k7 _ _ a596 
                  have a598 : f293 wfy = some (.inl (cy 0, 6, .inl gy)) := k295 _ _ a597 
                  have a599 : f380 wfy = some (.inl (cy 0, 6, .inl gy)) := k382 _ _ a598 
                  have a600 : f562 wfy = some (.inl (cy 0, 6, .inl gy)) := k566 _ _ a599 (z_ne a599 a384 rfl) (z_ne a599 a561 rfl)
                  have a601 : f1 wfk = some (.inl (cy 0, 24, .inl gq)) := k4 _ _ x_wfk (z_ne x_wfk x_o rfl)
                  have a602 : f5 wfk = some (.inl (cy 0, 24, .inl gq)) := k7 _ _ a601 
                  have a603 : f293 wfk = some (.inl (cy 0, 24, .inl gq)) := k295 _ _ a602 
                  have a604 : f380 wfk = some (.inl (cy 0, 24, .inl gq)) := k382 _ _ a603 
                  have a605 : f562 wfk = some (.inl (cy 0, 24, .inl gq)) := k566 _ _ a604 (z_ne a604 a384 rfl) (z_ne a604 a561 rfl)
                  have a606 : f1 wem = some (.inl (cy 0, 60, .inl ge1)) := k4 _ _ x_wem (z_ne x_wem x_o rfl)
                  have a607 : f5 wem = some (.inl (cy 0, 60, .inl ge1)) := k7 _ _ a606 
                  have a608 : f293 wem = some (.inl (cy 0, 60, .inl ge1)) := k295 _ _ a607 
                  have a609 : f380 wem = some (.inl (cy 0, 60, .inl ge1)) := k382 _ _ a608 
                  have a610 : f562 wem = some (.inl (cy 0, 60, .inl ge1)) := k566 _ _ a609 (z_ne a609 a384 rfl) (z_ne a609 a561 rfl)
                  have a611 : f1 wna = some (.inl (cy 0, 60, .inl gn1)) := k4 _ _ x_wna (z_ne x_wna x_o rfl)
                  have a612 : f5 wna = some (.inl (cy 0, 60, .inl gn1)) := k7 _ _ a611 
                  have a613 : f293 wna = some (.inl (cy 0, 60, .inl gn1)) := k295 _ _ a612 
                  have a614 : f380 wna = some (.inl (cy 0, 60, .inl gn1)) := k382 _ _ a613 
                  have a615 : f562 wna = some (.inl (cy 0, 60, .inl gn1)) := k566 _ _ a614 (z_ne a614 a384 rfl) (z_ne a614 a561 rfl)
                  have a616 : f1 wpl = some (.inl (cy 0, 60, .inl gp1)) := k4 _ _ x_wpl (z_ne x_wpl x_o rfl)
                  have a617 : f5 wpl = some (.inl (cy 0, 60, .inl gp1)) := k7 _ _ a616 
                  have a618 : f293 wpl = some (.inl (cy 0, 60, .inl gp1)) := k295 _ _ a617 
                  have a619 : f380 wpl = some (.inl (cy 0, 60, .inl gp1)) := k382 _ _ a618 
                  have a620 : f562 wpl = some (.inl (cy 0, 60, .inl gp1)) := k566 _ _ a619 (z_ne a619 a384 rfl) (z_ne a619 a561 rfl)
                  have a621 : f1 whs = some (.inl (cy 0, 4, .inl gs)) := k4 _ _ x_whs (z_ne x_whs x_o rfl)
                  have a622 : f5 whs = some (.inl (cy 0, 4, .inl gs)) := k7 _ _ a621 
                  have a623 : f293 whs = some (.inl (cy 0, 4, .inl gs)) := k295 _ _ a622 
                  have a624 : f380 whs = some (.inl (cy 0, 4, .inl gs)) := k382 _ _ a623 
                  have a625 : f562 whs = some (.inl (cy 0, 4, .inl gs)) := k566 _ _ a624 (z_ne a624 a384 rfl) (z_ne a624 a561 rfl)
                  have a626 : f1 wk1 = some (.inl (cy 0, 40, .inl gx1)) := k4 _ _ x_wk1 (z_ne x_wk1 x_o rfl)
                  have a627 : f5 wk1 = some (.inl (cy 0, 40, .inl gx1)) := k7 _ _ a626 
                  have a628 : f293 wk1 = some (.inl (cy 0, 40, .inl gx1)) := k295 _ _ a627 
                  have a629 : f380 wk1 = some (.inl (cy 0, 40, .inl gx1)) := k382 _ _ a628 
                  have a630 : f562 wk1 = some (.inl (cy 0, 40, .inl gx1)) := k566 _ _ a629 (z_ne a629 a384 rfl) (z_ne a629 a561 rfl)
                  have a631 : f1 wk2 = some (.inl (cy 0, 40, .inl gx2)) := k4 _ _ x_wk2 (z_ne x_wk2 x_o rfl)
                  have a632 : f5 wk2 = some (.inl (cy 0, 40, .inl gx2)) := k7 _ _ a631 
                  have a633 : f293 wk2 = some (.inl (cy 0, 40, .inl gx2)) := k295 _ _ a632 
                  have a634 : f380 wk2 = some (.inl (cy 0, 40, .inl gx2)) := k382 _ _ a633 
                  have a635 : f562 wk2 = some (.inl (cy 0, 40, .inl gx2)) := k566 _ _ a634 (z_ne a634 a384 rfl) (z_ne a634 a561 rfl)
                  have a636 : f1 wk3 = some (.inl (cy 0, 40, .inl gx3)) := k4 _ _ x_wk3 (z_ne x_wk3 x_o rfl)
                  have a637 : f5 wk3 = some (.inl (cy 0, 40, .inl gx3)) := k7 _ _ a636 
                  have a638 : f293 wk3 = some (.inl (cy 0, 40, .inl gx3)) := k295 _ _ a637 
                  have a639 : f380 wk3 = some (.inl (cy 0, 40, .inl gx3)) := k382 _ _ a638 
                  have a640 : f562 wk3 = some (.inl (cy 0, 40, .inl gx3)) := k566 _ _ a639 (z_ne a639 a384 rfl) (z_ne a639 a561 rfl)
                  exact z_iret C hr rfl hz hS ⟨4, (-1), 0, nl, nn, nf, nc, lk, ks, (upd gv 4 (gv 4 + 1)), gu, gk, gm, gc, gw, gl, gh, gt, gy, gq, ge1, gn1, gp1, gs, gx1, gx2, gx3, ln, fz, sq, rfl, rfl, ⟨a564, a565, a571, a572, a574, a579, a580, a585, a590, a595, a600, a605, a610, a615, a620, a625, a630, a635, a640, hn60, hl12, hf6, hc60, hs40, hMP, hgy, hfz, hgs, hME, hlk, n_wki_wmy, n_wki_wiw, n_wki_wli, n_wki_wha, n_wki_wem, n_wki_wna, n_wki_wpl, n_wmy_wiw, n_wmy_wli, n_wmy_wha, n_wmy_wem, n_wmy_wna, n_wmy_wpl, n_wiw_wli, n_wiw_wha, n_wiw_wem, n_wiw_wna, n_wiw_wpl, n_wli_wha, n_wli_wem, n_wli_wna, n_wli_wpl, n_wha_wem, n_wha_wna, n_wha_wpl, n_wem_wna, n_wem_wpl, n_wna_wpl, n_wk1_wk2, n_wk1_wk3, n_wk2_wk3⟩⟩ (Nat.le_of_ble_eq_true rfl) (Nat.le_of_ble_eq_true rfl) dX8_set_120
            · refine lv_aload_n hx hb dX8_set_81 rfl (lv_at hl 0 rfl) ?_
              refine lv_iconst (v := 2) hx hb dX8_set_82 (by decide) ?_
              refine lv_iconst (v := (-1)) hx hb dX8_set_83 (by decide) ?_
              refine lv_iconst (v := 0) hx hb dX8_set_84 (by decide) ?_
              have a641 : f380 o = some (.inr (8, [.int 0, .int (-1), .int 0, .ref wev, .int (nI nl), .ref wnb, .int (nI nn), .ref wki, .ref wmy, .ref wce, .ref wiw, .ref wli, .ref wha, .ref wwt, .int (nI nf), .ref wfy, .ref wfk, .int (nI nc), .ref wem, .ref wna, .ref wpl, .ref whs, .long lk, .int (nI ks), .ref wk1, .ref wk2, .ref wk3])) := k382 _ _ a297 
              have a642 : f1 wev = some (.inl (cy 0, 8, .inl gv)) := k4 _ _ x_wev (z_ne x_wev x_o rfl)
              have a643 : f5 wev = some (.inl (cy 0, 8, .inl gv)) := k7 _ _ a642 
              have a644 : f293 wev = some (.inl (cy 0, 8, .inl gv)) := k295 _ _ a643 
              have a645 : f380 wev = some (.inl (cy 0, 8, .inl gv)) := k382 _ _ a644 
              refine z_callVi (As := [.int 2, .int (-1), .int 0]) C hz hS hA hl (k_X8_fails l D cy f380 o wev wnb wki wmy wce wiw wli wha wwt wfy wfk wem wna wpl whs wk1 wk2 wk3 0 (-1) 0 nl nn nf nc lk ks 2 (-1) 0 gv 2 a641 a645 (by decide) (Nat.le_of_ble_eq_true rfl)) zyX8_fails mMX8_135 a641 zl8 rfl rfl (Nat.le_of_ble_eq_true rfl) ⟨Nat.le_of_ble_eq_true rfl, Nat.le_of_ble_eq_true rfl⟩ ⟨Nat.le_of_ble_eq_true rfl, Nat.le_of_ble_eq_true rfl⟩ dX8_set_85 (fun r f646 H locs h647 hz hS => ?_)
              obtain ⟨rfl, a648, a649, k650⟩ := h647
              have a651 : f1 wnb = some (.inl (cy 0, 12, .inl gu)) := k4 _ _ x_wnb (z_ne x_wnb x_o rfl)
              have a652 : f5 wnb = some (.inl (cy 0, 12, .inl gu)) := k7 _ _ a651 
              have a653 : f293 wnb = some (.inl (cy 0, 12, .inl gu)) := k295 _ _ a652 
              have a654 : f380 wnb = some (.inl (cy 0, 12, .inl gu)) := k382 _ _ a653 
              have a655 : f646 wnb = some (.inl (cy 0, 12, .inl gu)) := k650 _ _ a654 (z_ne a654 a641 rfl) (z_ne a654 a645 rfl)
              have a656 : f380 wki = some (.inl (cy 0, 60, .inl gk)) := k382 _ _ a300 
              have a657 : f646 wki = some (.inl (cy 0, 60, .inl gk)) := k650 _ _ a656 (z_ne a656 a641 rfl) (z_ne a656 a645 rfl)
              have a658 : f380 wmy = some (.inl (cy 0, 60, .inl gm)) := k382 _ _ a379 
              have a659 : f646 wmy = some (.inl (cy 0, 60, .inl gm)) := k650 _ _ a658 (z_ne a658 a641 rfl) (z_ne a658 a645 rfl)
              have a660 : f1 wce = some (.inl (cy 1, 960, .inr (.inl gc))) := k4 _ _ x_wce (z_ne x_wce x_o rfl)
              have a661 : f5 wce = some (.inl (cy 1, 960, .inr (.inl gc))) := k7 _ _ a660 
              have a662 : f293 wce = some (.inl (cy 1, 960, .inr (.inl gc))) := k295 _ _ a661 
              have a663 : f380 wce = some (.inl (cy 1, 960, .inr (.inl gc))) := k382 _ _ a662 
              have a664 : f646 wce = some (.inl (cy 1, 960, .inr (.inl gc))) := k650 _ _ a663 (z_ne a663 a641 rfl) (z_ne a663 a645 rfl)
              have a665 : f1 wiw = some (.inl (cy 2, 60, .inl gw)) := k4 _ _ x_wiw (z_ne x_wiw x_o rfl)
              have a666 : f5 wiw = some (.inl (cy 2, 60, .inl gw)) := k7 _ _ a665 
              have a667 : f293 wiw = some (.inl (cy 2, 60, .inl gw)) := k295 _ _ a666 
              have a668 : f380 wiw = some (.inl (cy 2, 60, .inl gw)) := k382 _ _ a667 
              have a669 : f646 wiw = some (.inl (cy 2, 60, .inl gw)) := k650 _ _ a668 (z_ne a668 a641 rfl) (z_ne a668 a645 rfl)
              have a670 : f1 wli = some (.inl (cy 0, 60, .inl gl)) := k4 _ _ x_wli (z_ne x_wli x_o rfl)
              have a671 : f5 wli = some (.inl (cy 0, 60, .inl gl)) := k7 _ _ a670 
              have a672 : f293 wli = some (.inl (cy 0, 60, .inl gl)) := k295 _ _ a671 
              have a673 : f380 wli = some (.inl (cy 0, 60, .inl gl)) := k382 _ _ a672 
              have a674 : f646 wli = some (.inl (cy 0, 60, .inl gl)) := k650 _ _ a673 (z_ne a673 a641 rfl) (z_ne a673 a645 rfl)
              have a675 : f1 wha = some (.inl (cy 0, 60, .inl gh)) := k4 _ _ x_wha (z_ne x_wha x_o rfl)
              have a676 : f5 wha = some (.inl (cy 0, 60, .inl gh)) := k7 _ _ a675 
              have a677 : f293 wha = some (.inl (cy 0, 60, .inl gh)) := k295 _ _ a676 
              have a678 : f380 wha = some (.inl (cy 0, 60, .inl gh)) := k382 _ _ a677 
              have a679 : f646 wha = some (.inl (cy 0, 60, .inl gh)) := k650 _ _ a678 (z_ne a678 a641 rfl) (z_ne a678 a645 rfl)
              have a680 : f1 wwt = some (.inl (cy 1, 60, .inr (.inl gt))) := k4 _ _ x_wwt (z_ne x_wwt x_o rfl)
              have a681 : f5 wwt = some (.inl (cy 1, 60, .inr (.inl gt))) := k7 _ _ a680 
              have a682 : f293 wwt = some (.inl (cy 1, 60, .inr (.inl gt))) := k295 _ _ a681 
              have a683 : f380 wwt = some (.inl (cy 1, 60, .inr (.inl gt))) := k382 _ _ a682 
              have a684 : f646 wwt = some (.inl (cy 1, 60, .inr (.inl gt))) := k650 _ _ a683 (z_ne a683 a641 rfl) (z_ne a683 a645 rfl)
              have a685 : f1 wfy = some (.inl (cy 0, 6, .inl gy)) := k4 _ _ x_wfy (z_ne x_wfy x_o rfl)
              have a686 : f5 wfy = some (.inl (cy 0, 6, .inl gy)) := k7 _ _ a685 
              have a687 : f293 wfy = some (.inl (cy 0, 6, .inl gy)) := k295 _ _ a686 
              have a688 : f380 wfy = some (.inl (cy 0, 6, .inl gy)) := k382 _ _ a687 
              have a689 : f646 wfy = some (.inl (cy 0, 6, .inl gy)) := k650 _ _ a688 (z_ne a688 a641 rfl) (z_ne a688 a645 rfl)
              have a690 : f1 wfk = some (.inl (cy 0, 24, .inl gq)) := k4 _ _ x_wfk (z_ne x_wfk x_o rfl)
              have a691 : f5 wfk = some (.inl (cy 0, 24, .inl gq)) := k7 _ _ a690 
              have a692 : f293 wfk = some (.inl (cy 0, 24, .inl gq)) := k295 _ _ a691 
              have a693 : f380 wfk = some (.inl (cy 0, 24, .inl gq)) := k382 _ _ a692 
              have a694 : f646 wfk = some (.inl (cy 0, 24, .inl gq)) := k650 _ _ a693 (z_ne a693 a641 rfl) (z_ne a693 a645 rfl)
              have a695 : f1 wem = some (.inl (cy 0, 60, .inl ge1)) := k4 _ _ x_wem (z_ne x_wem x_o rfl)
              have a696 : f5 wem = some (.inl (cy 0, 60, .inl ge1)) := k7 _ _ a695 
              have a697 : f293 wem = some (.inl (cy 0, 60, .inl ge1)) := k295 _ _ a696 
              have a698 : f380 wem = some (.inl (cy 0, 60, .inl ge1)) := k382 _ _ a697 
              have a699 : f646 wem = some (.inl (cy 0, 60, .inl ge1)) := k650 _ _ a698 (z_ne a698 a641 rfl) (z_ne a698 a645 rfl)
              have a700 : f1 wna = some (.inl (cy 0, 60, .inl gn1)) := k4 _ _ x_wna (z_ne x_wna x_o rfl)
              have a701 : f5 wna = some (.inl (cy 0, 60, .inl gn1)) := k7 _ _ a700 
              have a702 : f293 wna = some (.inl (cy 0, 60, .inl gn1)) := k295 _ _ a701 
              have a703 : f380 wna = some (.inl (cy 0, 60, .inl gn1)) := k382 _ _ a702 
              have a704 : f646 wna = some (.inl (cy 0, 60, .inl gn1)) := k650 _ _ a703 (z_ne a703 a641 rfl) (z_ne a703 a645 rfl)
              have a705 : f1 wpl = some (.inl (cy 0, 60, .inl gp1)) := k4 _ _ x_wpl (z_ne x_wpl x_o rfl)
              have a706 : f5 wpl = some (.inl (cy 0, 60, .inl gp1)) := k7 _ _ a705 
              have a707 : f293 wpl = some (.inl (cy 0, 60, .inl gp1)) := k295 _ _ a706 
              have a708 : f380 wpl = some (.inl (cy 0, 60, .inl gp1)) := k382 _ _ a707 
              have a709 : f646 wpl = some (.inl (cy 0, 60, .inl gp1)) := k650 _ _ a708 (z_ne a708 a641 rfl) (z_ne a708 a645 rfl)
              have a710 : f1 whs = some (.inl (cy 0, 4, .inl gs)) := k4 _ _ x_whs (z_ne x_whs x_o rfl)
              have a711 : f5 whs = some (.inl (cy 0, 4, .inl gs)) := k7 _ _ a710 
              have a712 : f293 whs = some (.inl (cy 0, 4, .inl gs)) := k295 _ _ a711 
              have a713 : f380 whs = some (.inl (cy 0, 4, .inl gs)) := k382 _ _ a712 
              have a714 : f646 whs = some (.inl (cy 0, 4, .inl gs)) := k650 _ _ a713 (z_ne a713 a641 rfl) (z_ne a713 a645 rfl)
              have a715 : f1 wk1 = some (.inl (cy 0, 40, .inl gx1)) := k4 _ _ x_wk1 (z_ne x_wk1 x_o rfl)
              have a716 : f5 wk1 = some (.inl (cy 0, 40, .inl gx1)) := k7 _ _ a715 
              have a717 : f293 wk1 = some (.inl (cy 0, 40, .inl gx1)) := k295 _ _ a716 
              have a718 : f380 wk1 = some (.inl (cy 0, 40, .inl gx1)) := k382 _ _ a717 
              have a719 : f646 wk1 = some (.inl (cy 0, 40, .inl gx1)) := k650 _ _ a718 (z_ne a718 a641 rfl) (z_ne a718 a645 rfl)
              have a720 : f1 wk2 = some (.inl (cy 0, 40, .inl gx2)) := k4 _ _ x_wk2 (z_ne x_wk2 x_o rfl)
              have a721 : f5 wk2 = some (.inl (cy 0, 40, .inl gx2)) := k7 _ _ a720 
              have a722 : f293 wk2 = some (.inl (cy 0, 40, .inl gx2)) := k295 _ _ a721 
              have a723 : f380 wk2 = some (.inl (cy 0, 40, .inl gx2)) := k382 _ _ a722 
              have a724 : f646 wk2 = some (.inl (cy 0, 40, .inl gx2)) := k650 _ _ a723 (z_ne a723 a641 rfl) (z_ne a723 a645 rfl)
              have a725 : f1 wk3 = some (.inl (cy 0, 40, .inl gx3)) := k4 _ _ x_wk3 (z_ne x_wk3 x_o rfl)
              have a726 : f5 wk3 = some (.inl (cy 0, 40, .inl gx3)) := k7 _ _ a725 
              have a727 : f293 wk3 = some (.inl (cy 0, 40, .inl gx3)) := k295 _ _ a726 
              have a728 : f380 wk3 = some (.inl (cy 0, 40, .inl gx3)) := k382 _ _ a727 
              have a729 : f646 wk3 = some (.inl (cy 0, 40, .inl gx3)) := k650 _ _ a728 (z_ne a728 a641 rfl) (z_ne a728 a645 rfl)
              exact z_iret C hr rfl hz hS ⟨2, (-1), 0, nl, nn, nf, nc, lk, ks, (upd gv 2 (gv 2 + 1)), gu, gk, gm, gc, gw, gl, gh, gt, gy, gq, ge1, gn1, gp1, gs, gx1, gx2, gx3, ln, fz, sq, rfl, rfl, ⟨a648, a649, a655, a657, a659, a664, a669, a674, a679, a684, a689, a694, a699, a704, a709, a714, a719, a724, a729, hn60, hl12, hf6, hc60, hs40, hMP, hgy, hfz, hgs, hME, hlk, n_wki_wmy, n_wki_wiw, n_wki_wli, n_wki_wha, n_wki_wem, n_wki_wna, n_wki_wpl, n_wmy_wiw, n_wmy_wli, n_wmy_wha, n_wmy_wem, n_wmy_wna, n_wmy_wpl, n_wiw_wli, n_wiw_wha, n_wiw_wem, n_wiw_wna, n_wiw_wpl, n_wli_wha, n_wli_wem, n_wli_wna, n_wli_wpl, n_wha_wem, n_wha_wna, n_wha_wpl, n_wem_wna, n_wem_wpl, n_wna_wpl, n_wk1_wk2, n_wk1_wk3, n_wk2_wk3⟩⟩ (Nat.le_of_ble_eq_true rfl) (Nat.le_of_ble_eq_true rfl) dX8_set_88
          · refine lv_aload_n hx hb dX8_set_54 rfl (lv_at hl 0 rfl) ?_
            refine z_get (v := .ref wki) C hz a297 zl8 mFX8_20 (by decide) rfl dX8_set_55 ?_
            refine lv_iload_n hx hb dX8_set_58 rfl (lv_at hl 3 rfl) ?_
            refine z_iald jb C hz a300 hvb (by omega) (by omega) dX8_set_59 ?_
            refine lv_iconst (v := 2) hx hb dX8_set_60 (by decide) ?_
            refine lv_icmp_eq (tgt := 72) hx hb dX8_set_61 (by decide) (fun c730 => ?_) (fun c730 => ?_)
            · refine lv_aload_n hx hb dX8_set_72 rfl (lv_at hl 0 rfl) ?_
              refine lv_iload_n hx hb dX8_set_73 rfl (lv_at hl 1 rfl) ?_
              refine lv_iload_n hx hb dX8_set_74 rfl (lv_at hl 2 rfl) ?_
              have a731 : f1 wmy = some (.inl (cy 0, 60, .inl gm)) := k4 _ _ x_wmy (z_ne x_wmy x_o rfl)
              have a732 : f5 wmy = some (.inl (cy 0, 60, .inl gm)) := k7 _ _ a731 
              have a733 : f293 wmy = some (.inl (cy 0, 60, .inl gm)) := k295 _ _ a732 
              refine z_callVi (As := [.int x, .int y]) C hz hS hA hl (k_X8_hasPlace l D cy f293 o wev wnb wki wmy wce wiw wli wha wwt wfy wfk wem wna wpl whs wk1 wk2 wk3 0 (-1) 0 nl nn nf nc lk ks gm x y ja (ln ja) a297 a733 hva (by omega) (hMP ja (by omega)).1) zyX8_hasPlace mMX8_145 a297 zl8 rfl rfl (Nat.le_of_ble_eq_true rfl) ⟨Nat.le_of_ble_eq_true rfl, Nat.le_of_ble_eq_true rfl⟩ ⟨Nat.le_of_ble_eq_true rfl, Nat.le_of_ble_eq_true rfl⟩ dX8_set_75 (fun r f734 H locs h735 hz hS => ?_)
              obtain ⟨rfl, k736⟩ := h735
              refine lv_if_ne (tgt := 89) hx hb dX8_set_78 (by decide) (fun c737 => ?_) (fun c737 => ?_)
              · obtain ⟨kx, hyk, hkx⟩ := z_place (by have h9 := (hMP ja (by omega)).2.1; omega) c737
                refine lv_aload_n hx hb dX8_set_89 rfl (lv_at hl 0 rfl) ?_
                have a738 : f734 o = some (.inr (8, [.int 0, .int (-1), .int 0, .ref wev, .int (nI nl), .ref wnb, .int (nI nn), .ref wki, .ref wmy, .ref wce, .ref wiw, .ref wli, .ref wha, .ref wwt, .int (nI nf), .ref wfy, .ref wfk, .int (nI nc), .ref wem, .ref wna, .ref wpl, .ref whs, .long lk, .int (nI ks), .ref wk1, .ref wk2, .ref wk3])) := k736 _ _ a297 
                refine z_get (v := .ref wiw) C hz a738 zl8 mFX8_30 (by decide) rfl dX8_set_90 ?_
                refine lv_iload_n hx hb dX8_set_93 rfl (lv_at hl 1 rfl) ?_
                have a739 : f1 wiw = some (.inl (cy 2, 60, .inl gw)) := k4 _ _ x_wiw (z_ne x_wiw x_o rfl)
                have a740 : f5 wiw = some (.inl (cy 2, 60, .inl gw)) := k7 _ _ a739 
                have a741 : f293 wiw = some (.inl (cy 2, 60, .inl gw)) := k295 _ _ a740 
                have a742 : f734 wiw = some (.inl (cy 2, 60, .inl gw)) := k736 _ _ a741 
                refine z_zald ja C hz a742 hva (by omega) (by omega) dX8_set_94 ?_
                refine lv_if_eq (tgt := 121) hx hb dX8_set_95 (by decide) (fun c743 => ?_) (fun c743 => ?_)
                · refine lv_aload_n hx hb dX8_set_121 rfl (lv_at hl 0 rfl) ?_
                  refine z_get (v := .ref wce) C hz a738 zl8 mFX8_26 (by decide) rfl dX8_set_122 ?_
                  refine lv_bipush (v := 16) hx hb dX8_set_125 (by decide) ?_
                  refine lv_iload_n hx hb dX8_set_127 rfl (lv_at hl 1 rfl) ?_
                  refine lv_imul hx hb dX8_set_128 ?_
                  refine lv_iconst (v := 1) hx hb dX8_set_129 (by decide) ?_
                  refine lv_iadd hx hb dX8_set_130 ?_
                  refine lv_iload_n hx hb dX8_set_131 rfl (lv_at hl 2 rfl) ?_
                  refine lv_iadd hx hb dX8_set_132 ?_
                  refine lv_iload_n hx hb dX8_set_133 rfl (lv_at hl 3 rfl) ?_
                  refine lv_i2l (v := z.toInt64) hx hb dX8_set_134 rfl ?_
                  have a744 : f1 wce = some (.inl (cy 1, 960, .inr (.inl gc))) := k4 _ _ x_wce (z_ne x_wce x_o rfl)
                  have a745 : f5 wce = some (.inl (cy 1, 960, .inr (.inl gc))) := k7 _ _ a744 
                  have a746 : f293 wce = some (.inl (cy 1, 960, .inr (.inl gc))) := k295 _ _ a745 
                  have a747 : f734 wce = some (.inl (cy 1, 960, .inr (.inl gc))) := k736 _ _ a746 
                  refine z_last (16 * ja + 1 + kx) C hz hS a747 (by rw [hva, hyk]; exact z_ce1 ja kx) (by have h9 := (hMP ja (by omega)).2.1; omega) (by omega) dX8_set_135 (fun H locs f748 a749 k750 hz hS => ?_)
                  refine lv_iconst (v := 1) hx hb dX8_set_136 (by decide) ?_
                  have a751 : f748 o = some (.inr (8, [.int 0, .int (-1), .int 0, .ref wev, .int (nI nl), .ref wnb, .int (nI nn), .ref wki, .ref wmy, .ref wce, .ref wiw, .ref wli, .ref wha, .ref wwt, .int (nI nf), .ref wfy, .ref wfk, .int (nI nc), .ref wem, .ref wna, .ref wpl, .ref whs, .long lk, .int (nI ks), .ref wk1, .ref wk2, .ref wk3])) := (k750 _ (z_ne a738 a747 rfl)).trans a738
                  have a752 : f1 wev = some (.inl (cy 0, 8, .inl gv)) := k4 _ _ x_wev (z_ne x_wev x_o rfl)
                  have a753 : f5 wev = some (.inl (cy 0, 8, .inl gv)) := k7 _ _ a752 
                  have a754 : f293 wev = some (.inl (cy 0, 8, .inl gv)) := k295 _ _ a753 
                  have a755 : f734 wev = some (.inl (cy 0, 8, .inl gv)) := k736 _ _ a754 
                  have a756 : f748 wev = some (.inl (cy 0, 8, .inl gv)) := (k750 _ (z_ne a755 a747 rfl)).trans a755
                  have a757 : f1 wnb = some (.inl (cy 0, 12, .inl gu)) := k4 _ _ x_wnb (z_ne x_wnb x_o rfl)
                  have a758 : f5 wnb = some (.inl (cy 0, 12, .inl gu)) := k7 _ _ a757 
                  have a759 : f293 wnb = some (.inl (cy 0, 12, .inl gu)) := k295 _ _ a758 
                  have a760 : f734 wnb = some (.inl (cy 0, 12, .inl gu)) := k736 _ _ a759 
                  have a761 : f748 wnb = some (.inl (cy 0, 12, .inl gu)) := (k750 _ (z_ne a760 a747 rfl)).trans a760
                  have a762 : f734 wki = some (.inl (cy 0, 60, .inl gk)) := k736 _ _ a300 
                  have a763 : f748 wki = some (.inl (cy 0, 60, .inl gk)) := (k750 _ (z_ne a762 a747 rfl)).trans a762
                  have a764 : f734 wmy = some (.inl (cy 0, 60, .inl gm)) := k736 _ _ a733 
                  have a765 : f748 wmy = some (.inl (cy 0, 60, .inl gm)) := (k750 _ (z_ne a764 a747 rfl)).trans a764
                  have a766 : f748 wiw = some (.inl (cy 2, 60, .inl gw)) := (k750 _ (z_ne a742 a747 rfl)).trans a742
                  have a767 : f1 wli = some (.inl (cy 0, 60, .inl gl)) := k4 _ _ x_wli (z_ne x_wli x_o rfl)
                  have a768 : f5 wli = some (.inl (cy 0, 60, .inl gl)) := k7 _ _ a767 
                  have a769 : f293 wli = some (.inl (cy 0, 60, .inl gl)) := k295 _ _ a768 
                  have a770 : f734 wli = some (.inl (cy 0, 60, .inl gl)) := k736 _ _ a769 
                  have a771 : f748 wli = some (.inl (cy 0, 60, .inl gl)) := (k750 _ (z_ne a770 a747 rfl)).trans a770
                  have a772 : f1 wha = some (.inl (cy 0, 60, .inl gh)) := k4 _ _ x_wha (z_ne x_wha x_o rfl)
                  have a773 : f5 wha = some (.inl (cy 0, 60, .inl gh)) := k7 _ _ a772 
                  have a774 : f293 wha = some (.inl (cy 0, 60, .inl gh)) := k295 _ _ a773 
                  have a775 : f734 wha = some (.inl (cy 0, 60, .inl gh)) := k736 _ _ a774 
                  have a776 : f748 wha = some (.inl (cy 0, 60, .inl gh)) := (k750 _ (z_ne a775 a747 rfl)).trans a775
                  have a777 : f1 wwt = some (.inl (cy 1, 60, .inr (.inl gt))) := k4 _ _ x_wwt (z_ne x_wwt x_o rfl)
                  have a778 : f5 wwt = some (.inl (cy 1, 60, .inr (.inl gt))) := k7 _ _ a777 
                  have a779 : f293 wwt = some (.inl (cy 1, 60, .inr (.inl gt))) := k295 _ _ a778 
                  have a780 : f734 wwt = some (.inl (cy 1, 60, .inr (.inl gt))) := k736 _ _ a779 
                  have a781 : f748 wwt = some (.inl (cy 1, 60, .inr (.inl gt))) := (k750 _ (z_ne a780 a747 rfl)).trans a780
                  have a782 : f1 wfy = some (.inl (cy 0, 6, .inl gy)) := k4 _ _ x_wfy (z_ne x_wfy x_o rfl)
                  have a783 : f5 wfy = some (.inl (cy 0, 6, .inl gy)) := k7 _ _ a782 
                  have a784 : f293 wfy = some (.inl (cy 0, 6, .inl gy)) := k295 _ _ a783 
                  have a785 : f734 wfy = some (.inl (cy 0, 6, .inl gy)) := k736 _ _ a784 
                  have a786 : f748 wfy = some (.inl (cy 0, 6, .inl gy)) := (k750 _ (z_ne a785 a747 rfl)).trans a785
                  have a787 : f1 wfk = some (.inl (cy 0, 24, .inl gq)) := k4 _ _ x_wfk (z_ne x_wfk x_o rfl)
                  have a788 : f5 wfk = some (.inl (cy 0, 24, .inl gq)) := k7 _ _ a787 
                  have a789 : f293 wfk = some (.inl (cy 0, 24, .inl gq)) := k295 _ _ a788 
                  have a790 : f734 wfk = some (.inl (cy 0, 24, .inl gq)) := k736 _ _ a789 
                  have a791 : f748 wfk = some (.inl (cy 0, 24, .inl gq)) := (k750 _ (z_ne a790 a747 rfl)).trans a790
                  have a792 : f1 wem = some (.inl (cy 0, 60, .inl ge1)) := k4 _ _ x_wem (z_ne x_wem x_o rfl)
                  have a793 : f5 wem = some (.inl (cy 0, 60, .inl ge1)) := k7 _ _ a792 
                  have a794 : f293 wem = some (.inl (cy 0, 60, .inl ge1)) := k295 _ _ a793 
                  have a795 : f734 wem = some (.inl (cy 0, 60, .inl ge1)) := k736 _ _ a794 
                  have a796 : f748 wem = some (.inl (cy 0, 60, .inl ge1)) := (k750 _ (z_ne a795 a747 rfl)).trans a795
                  have a797 : f1 wna = some (.inl (cy 0, 60, .inl gn1)) := k4 _ _ x_wna (z_ne x_wna x_o rfl)
                  have a798 : f5 wna = some (.inl (cy 0, 60, .inl gn1)) := k7 _ _ a797 
                  have a799 : f293 wna = some (.inl (cy 0, 60, .inl gn1)) := k295 _ _ a798 
                  have a800 : f734 wna = some (.inl (cy 0, 60, .inl gn1)) := k736 _ _ a799 
                  have a801 : f748 wna = some (.inl (cy 0, 60, .inl gn1)) := (k750 _ (z_ne a800 a747 rfl)).trans a800
                  have a802 : f1 wpl = some (.inl (cy 0, 60, .inl gp1)) := k4 _ _ x_wpl (z_ne x_wpl x_o rfl)
                  have a803 : f5 wpl = some (.inl (cy 0, 60, .inl gp1)) := k7 _ _ a802 
                  have a804 : f293 wpl = some (.inl (cy 0, 60, .inl gp1)) := k295 _ _ a803 
                  have a805 : f734 wpl = some (.inl (cy 0, 60, .inl gp1)) := k736 _ _ a804 
                  have a806 : f748 wpl = some (.inl (cy 0, 60, .inl gp1)) := (k750 _ (z_ne a805 a747 rfl)).trans a805
                  have a807 : f1 whs = some (.inl (cy 0, 4, .inl gs)) := k4 _ _ x_whs (z_ne x_whs x_o rfl)
                  have a808 : f5 whs = some (.inl (cy 0, 4, .inl gs)) := k7 _ _ a807 
                  have a809 : f293 whs = some (.inl (cy 0, 4, .inl gs)) := k295 _ _ a808 
                  have a810 : f734 whs = some (.inl (cy 0, 4, .inl gs)) := k736 _ _ a809 
                  have a811 : f748 whs = some (.inl (cy 0, 4, .inl gs)) := (k750 _ (z_ne a810 a747 rfl)).trans a810
                  have a812 : f1 wk1 = some (.inl (cy 0, 40, .inl gx1)) := k4 _ _ x_wk1 (z_ne x_wk1 x_o rfl)
                  have a813 : f5 wk1 = some (.inl (cy 0, 40, .inl gx1)) := k7 _ _ a812 
                  have a814 : f293 wk1 = some (.inl (cy 0, 40, .inl gx1)) := k295 _ _ a813 
                  have a815 : f734 wk1 = some (.inl (cy 0, 40, .inl gx1)) := k736 _ _ a814 
                  have a816 : f748 wk1 = some (.inl (cy 0, 40, .inl gx1)) := (k750 _ (z_ne a815 a747 rfl)).trans a815
                  have a817 : f1 wk2 = some (.inl (cy 0, 40, .inl gx2)) := k4 _ _ x_wk2 (z_ne x_wk2 x_o rfl)
                  have a818 : f5 wk2 = some (.inl (cy 0, 40, .inl gx2)) := k7 _ _ a817 
                  have a819 : f293 wk2 = some (.inl (cy 0, 40, .inl gx2)) := k295 _ _ a818 
                  have a820 : f734 wk2 = some (.inl (cy 0, 40, .inl gx2)) := k736 _ _ a819 
                  have a821 : f748 wk2 = some (.inl (cy 0, 40, .inl gx2)) := (k750 _ (z_ne a820 a747 rfl)).trans a820
                  have a822 : f1 wk3 = some (.inl (cy 0, 40, .inl gx3)) := k4 _ _ x_wk3 (z_ne x_wk3 x_o rfl)
                  have a823 : f5 wk3 = some (.inl (cy 0, 40, .inl gx3)) := k7 _ _ a822 
                  have a824 : f293 wk3 = some (.inl (cy 0, 40, .inl gx3)) := k295 _ _ a823 
                  have a825 : f734 wk3 = some (.inl (cy 0, 40, .inl gx3)) := k736 _ _ a824 
                  have a826 : f748 wk3 = some (.inl (cy 0, 40, .inl gx3)) := (k750 _ (z_ne a825 a747 rfl)).trans a825
                  exact z_iret C hr rfl hz hS ⟨0, (-1), 0, nl, nn, nf, nc, lk, ks, gv, gu, gk, gm, (vp_updL gc (16 * ja + 1 + kx) z.toInt64), gw, gl, gh, gt, gy, gq, ge1, gn1, gp1, gs, gx1, gx2, gx3, ln, fz, sq, rfl, rfl, ⟨a751, a756, a761, a763, a765, a749, a766, a771, a776, a781, a786, a791, a796, a801, a806, a811, a816, a821, a826, hn60, hl12, hf6, hc60, hs40, (zMP_set hMP hk6 (by have h9 := (hMP ja (by omega)).2.1; omega)), hgy, hfz, hgs, hME, hlk, n_wki_wmy, n_wki_wiw, n_wki_wli, n_wki_wha, n_wki_wem, n_wki_wna, n_wki_wpl, n_wmy_wiw, n_wmy_wli, n_wmy_wha, n_wmy_wem, n_wmy_wna, n_wmy_wpl, n_wiw_wli, n_wiw_wha, n_wiw_wem, n_wiw_wna, n_wiw_wpl, n_wli_wha, n_wli_wem, n_wli_wna, n_wli_wpl, n_wha_wem, n_wha_wna, n_wha_wpl, n_wem_wna, n_wem_wpl, n_wna_wpl, n_wk1_wk2, n_wk1_wk3, n_wk2_wk3⟩⟩ (Nat.le_of_ble_eq_true rfl) (Nat.le_of_ble_eq_true rfl) dX8_set_137
                · refine lv_iload_n hx hb dX8_set_98 rfl (lv_at hl 3 rfl) ?_
                  refine lv_iconst (v := (-1)) hx hb dX8_set_99 (by decide) ?_
                  refine lv_icmp_eq (tgt := 121) hx hb dX8_set_100 (by decide) (fun c827 => ?_) (fun c827 => ?_)
                  · exact absurd c827 (by rw [hvb]; exact z_nim1 (by omega))
                  refine lv_aload_n hx hb dX8_set_103 rfl (lv_at hl 0 rfl) ?_
                  refine z_get (v := .ref wki) C hz a738 zl8 mFX8_20 (by decide) rfl dX8_set_104 ?_
                  refine lv_iload_n hx hb dX8_set_107 rfl (lv_at hl 3 rfl) ?_
                  have a828 : f734 wki = some (.inl (cy 0, 60, .inl gk)) := k736 _ _ a300 
                  refine z_iald jb C hz a828 hvb (by omega) (by omega) dX8_set_108 ?_
                  refine lv_iconst (v := 2) hx hb dX8_set_109 (by decide) ?_
                  refine lv_icmp_eq (tgt := 121) hx hb dX8_set_110 (by decide) (fun c829 => ?_) (fun c829 => ?_)
                  · refine lv_aload_n hx hb dX8_set_121 rfl (lv_at hl 0 rfl) ?_
                    refine z_get (v := .ref wce) C hz a738 zl8 mFX8_26 (by decide) rfl dX8_set_122 ?_
                    refine lv_bipush (v := 16) hx hb dX8_set_125 (by decide) ?_
                    refine lv_iload_n hx hb dX8_set_127 rfl (lv_at hl 1 rfl) ?_
                    refine lv_imul hx hb dX8_set_128 ?_
                    refine lv_iconst (v := 1) hx hb dX8_set_129 (by decide) ?_
                    refine lv_iadd hx hb dX8_set_130 ?_
                    refine lv_iload_n hx hb dX8_set_131 rfl (lv_at hl 2 rfl) ?_
                    refine lv_iadd hx hb dX8_set_132 ?_
                    refine lv_iload_n hx hb dX8_set_133 rfl (lv_at hl 3 rfl) ?_
                    refine lv_i2l (v := z.toInt64) hx hb dX8_set_134 rfl ?_
                    have a830 : f1 wce = some (.inl (cy 1, 960, .inr (.inl gc))) := k4 _ _ x_wce (z_ne x_wce x_o rfl)
                    have a831 : f5 wce = some (.inl (cy 1, 960, .inr (.inl gc))) := k7 _ _ a830 
                    have a832 : f293 wce = some (.inl (cy 1, 960, .inr (.inl gc))) := k295 _ _ a831 
                    have a833 : f734 wce = some (.inl (cy 1, 960, .inr (.inl gc))) := k736 _ _ a832 
                    refine z_last (16 * ja + 1 + kx) C hz hS a833 (by rw [hva, hyk]; exact z_ce1 ja kx) (by have h9 := (hMP ja (by omega)).2.1; omega) (by omega) dX8_set_135 (fun H locs f834 a835 k836 hz hS => ?_)
                    refine lv_iconst (v := 1) hx hb dX8_set_136 (by decide) ?_
                    have a837 : f834 o = some (.inr (8, [.int 0, .int (-1), .int 0, .ref wev, .int (nI nl), .ref wnb, .int (nI nn), .ref wki, .ref wmy, .ref wce, .ref wiw, .ref wli, .ref wha, .ref wwt, .int (nI nf), .ref wfy, .ref wfk, .int (nI nc), .ref wem, .ref wna, .ref wpl, .ref whs, .long lk, .int (nI ks), .ref wk1, .ref wk2, .ref wk3])) := (k836 _ (z_ne a738 a833 rfl)).trans a738
                    have a838 : f1 wev = some (.inl (cy 0, 8, .inl gv)) := k4 _ _ x_wev (z_ne x_wev x_o rfl)
                    have a839 : f5 wev = some (.inl (cy 0, 8, .inl gv)) := k7 _ _ a838 
                    have a840 : f293 wev = some (.inl (cy 0, 8, .inl gv)) := k295 _ _ a839 
                    have a841 : f734 wev = some (.inl (cy 0, 8, .inl gv)) := k736 _ _ a840 
                    have a842 : f834 wev = some (.inl (cy 0, 8, .inl gv)) := (k836 _ (z_ne a841 a833 rfl)).trans a841
                    have a843 : f1 wnb = some (.inl (cy 0, 12, .inl gu)) := k4 _ _ x_wnb (z_ne x_wnb x_o rfl)
                    have a844 : f5 wnb = some (.inl (cy 0, 12, .inl gu)) := k7 _ _ a843 
                    have a845 : f293 wnb = some (.inl (cy 0, 12, .inl gu)) := k295 _ _ a844 
                    have a846 : f734 wnb = some (.inl (cy 0, 12, .inl gu)) := k736 _ _ a845 
                    have a847 : f834 wnb = some (.inl (cy 0, 12, .inl gu)) := (k836 _ (z_ne a846 a833 rfl)).trans a846
                    have a848 : f834 wki = some (.inl (cy 0, 60, .inl gk)) := (k836 _ (z_ne a828 a833 rfl)).trans a828
                    have a849 : f734 wmy = some (.inl (cy 0, 60, .inl gm)) := k736 _ _ a733 
                    have a850 : f834 wmy = some (.inl (cy 0, 60, .inl gm)) := (k836 _ (z_ne a849 a833 rfl)).trans a849
                    have a851 : f834 wiw = some (.inl (cy 2, 60, .inl gw)) := (k836 _ (z_ne a742 a833 rfl)).trans a742
                    have a852 : f1 wli = some (.inl (cy 0, 60, .inl gl)) := k4 _ _ x_wli (z_ne x_wli x_o rfl)
                    have a853 : f5 wli = some (.inl (cy 0, 60, .inl gl)) := k7 _ _ a852 
                    have a854 : f293 wli = some (.inl (cy 0, 60, .inl gl)) := k295 _ _ a853 
                    have a855 : f734 wli = some (.inl (cy 0, 60, .inl gl)) := k736 _ _ a854 
                    have a856 : f834 wli = some (.inl (cy 0, 60, .inl gl)) := (k836 _ (z_ne a855 a833 rfl)).trans a855
                    have a857 : f1 wha = some (.inl (cy 0, 60, .inl gh)) := k4 _ _ x_wha (z_ne x_wha x_o rfl)
                    have a858 : f5 wha = some (.inl (cy 0, 60, .inl gh)) := k7 _ _ a857 
                    have a859 : f293 wha = some (.inl (cy 0, 60, .inl gh)) := k295 _ _ a858 
                    have a860 : f734 wha = some (.inl (cy 0, 60, .inl gh)) := k736 _ _ a859 
                    have a861 : f834 wha = some (.inl (cy 0, 60, .inl gh)) := (k836 _ (z_ne a860 a833 rfl)).trans a860
                    have a862 : f1 wwt = some (.inl (cy 1, 60, .inr (.inl gt))) := k4 _ _ x_wwt (z_ne x_wwt x_o rfl)
                    have a863 : f5 wwt = some (.inl (cy 1, 60, .inr (.inl gt))) := k7 _ _ a862 
                    have a864 : f293 wwt = some (.inl (cy 1, 60, .inr (.inl gt))) := k295 _ _ a863 
                    have a865 : f734 wwt = some (.inl (cy 1, 60, .inr (.inl gt))) := k736 _ _ a864 
                    have a866 : f834 wwt = some (.inl (cy 1, 60, .inr (.inl gt))) := (k836 _ (z_ne a865 a833 rfl)).trans a865
                    have a867 : f1 wfy = some (.inl (cy 0, 6, .inl gy)) := k4 _ _ x_wfy (z_ne x_wfy x_o rfl)
                    have a868 : f5 wfy = some (.inl (cy 0, 6, .inl gy)) := k7 _ _ a867 
                    have a869 : f293 wfy = some (.inl (cy 0, 6, .inl gy)) := k295 _ _ a868 
                    have a870 : f734 wfy = some (.inl (cy 0, 6, .inl gy)) := k736 _ _ a869 
                    have a871 : f834 wfy = some (.inl (cy 0, 6, .inl gy)) := (k836 _ (z_ne a870 a833 rfl)).trans a870
                    have a872 : f1 wfk = some (.inl (cy 0, 24, .inl gq)) := k4 _ _ x_wfk (z_ne x_wfk x_o rfl)
                    have a873 : f5 wfk = some (.inl (cy 0, 24, .inl gq)) := k7 _ _ a872 
                    have a874 : f293 wfk = some (.inl (cy 0, 24, .inl gq)) := k295 _ _ a873 
                    have a875 : f734 wfk = some (.inl (cy 0, 24, .inl gq)) := k736 _ _ a874 
                    have a876 : f834 wfk = some (.inl (cy 0, 24, .inl gq)) := (k836 _ (z_ne a875 a833 rfl)).trans a875
                    have a877 : f1 wem = some (.inl (cy 0, 60, .inl ge1)) := k4 _ _ x_wem (z_ne x_wem x_o rfl)
                    have a878 : f5 wem = some (.inl (cy 0, 60, .inl ge1)) := k7 _ _ a877 
                    have a879 : f293 wem = some (.inl (cy 0, 60, .inl ge1)) := k295 _ _ a878 
                    have a880 : f734 wem = some (.inl (cy 0, 60, .inl ge1)) := k736 _ _ a879 
                    have a881 : f834 wem = some (.inl (cy 0, 60, .inl ge1)) := (k836 _ (z_ne a880 a833 rfl)).trans a880
                    have a882 : f1 wna = some (.inl (cy 0, 60, .inl gn1)) := k4 _ _ x_wna (z_ne x_wna x_o rfl)
                    have a883 : f5 wna = some (.inl (cy 0, 60, .inl gn1)) := k7 _ _ a882 
                    have a884 : f293 wna = some (.inl (cy 0, 60, .inl gn1)) := k295 _ _ a883 
                    have a885 : f734 wna = some (.inl (cy 0, 60, .inl gn1)) := k736 _ _ a884 
                    have a886 : f834 wna = some (.inl (cy 0, 60, .inl gn1)) := (k836 _ (z_ne a885 a833 rfl)).trans a885
                    have a887 : f1 wpl = some (.inl (cy 0, 60, .inl gp1)) := k4 _ _ x_wpl (z_ne x_wpl x_o rfl)
                    have a888 : f5 wpl = some (.inl (cy 0, 60, .inl gp1)) := k7 _ _ a887 
                    have a889 : f293 wpl = some (.inl (cy 0, 60, .inl gp1)) := k295 _ _ a888 
                    have a890 : f734 wpl = some (.inl (cy 0, 60, .inl gp1)) := k736 _ _ a889 
                    have a891 : f834 wpl = some (.inl (cy 0, 60, .inl gp1)) := (k836 _ (z_ne a890 a833 rfl)).trans a890
                    have a892 : f1 whs = some (.inl (cy 0, 4, .inl gs)) := k4 _ _ x_whs (z_ne x_whs x_o rfl)
                    have a893 : f5 whs = some (.inl (cy 0, 4, .inl gs)) := k7 _ _ a892 
                    have a894 : f293 whs = some (.inl (cy 0, 4, .inl gs)) := k295 _ _ a893 
                    have a895 : f734 whs = some (.inl (cy 0, 4, .inl gs)) := k736 _ _ a894 
                    have a896 : f834 whs = some (.inl (cy 0, 4, .inl gs)) := (k836 _ (z_ne a895 a833 rfl)).trans a895
                    have a897 : f1 wk1 = some (.inl (cy 0, 40, .inl gx1)) := k4 _ _ x_wk1 (z_ne x_wk1 x_o rfl)
                    have a898 : f5 wk1 = some (.inl (cy 0, 40, .inl gx1)) := k7 _ _ a897 
                    have a899 : f293 wk1 = some (.inl (cy 0, 40, .inl gx1)) := k295 _ _ a898 
                    have a900 : f734 wk1 = some (.inl (cy 0, 40, .inl gx1)) := k736 _ _ a899 
                    have a901 : f834 wk1 = some (.inl (cy 0, 40, .inl gx1)) := (k836 _ (z_ne a900 a833 rfl)).trans a900
                    have a902 : f1 wk2 = some (.inl (cy 0, 40, .inl gx2)) := k4 _ _ x_wk2 (z_ne x_wk2 x_o rfl)
                    have a903 : f5 wk2 = some (.inl (cy 0, 40, .inl gx2)) := k7 _ _ a902 
                    have a904 : f293 wk2 = some (.inl (cy 0, 40, .inl gx2)) := k295 _ _ a903 
                    have a905 : f734 wk2 = some (.inl (cy 0, 40, .inl gx2)) := k736 _ _ a904 
                    have a906 : f834 wk2 = some (.inl (cy 0, 40, .inl gx2)) := (k836 _ (z_ne a905 a833 rfl)).trans a905
                    have a907 : f1 wk3 = some (.inl (cy 0, 40, .inl gx3)) := k4 _ _ x_wk3 (z_ne x_wk3 x_o rfl)
                    have a908 : f5 wk3 = some (.inl (cy 0, 40, .inl gx3)) := k7 _ _ a907 
                    have a909 : f293 wk3 = some (.inl (cy 0, 40, .inl gx3)) := k295 _ _ a908 
                    have a910 : f734 wk3 = some (.inl (cy 0, 40, .inl gx3)) := k736 _ _ a909 
                    have a911 : f834 wk3 = some (.inl (cy 0, 40, .inl gx3)) := (k836 _ (z_ne a910 a833 rfl)).trans a910
                    exact z_iret C hr rfl hz hS ⟨0, (-1), 0, nl, nn, nf, nc, lk, ks, gv, gu, gk, gm, (vp_updL gc (16 * ja + 1 + kx) z.toInt64), gw, gl, gh, gt, gy, gq, ge1, gn1, gp1, gs, gx1, gx2, gx3, ln, fz, sq, rfl, rfl, ⟨a837, a842, a847, a848, a850, a835, a851, a856, a861, a866, a871, a876, a881, a886, a891, a896, a901, a906, a911, hn60, hl12, hf6, hc60, hs40, (zMP_set hMP hk6 (by have h9 := (hMP ja (by omega)).2.1; omega)), hgy, hfz, hgs, hME, hlk, n_wki_wmy, n_wki_wiw, n_wki_wli, n_wki_wha, n_wki_wem, n_wki_wna, n_wki_wpl, n_wmy_wiw, n_wmy_wli, n_wmy_wha, n_wmy_wem, n_wmy_wna, n_wmy_wpl, n_wiw_wli, n_wiw_wha, n_wiw_wem, n_wiw_wna, n_wiw_wpl, n_wli_wha, n_wli_wem, n_wli_wna, n_wli_wpl, n_wha_wem, n_wha_wna, n_wha_wpl, n_wem_wna, n_wem_wpl, n_wna_wpl, n_wk1_wk2, n_wk1_wk3, n_wk2_wk3⟩⟩ (Nat.le_of_ble_eq_true rfl) (Nat.le_of_ble_eq_true rfl) dX8_set_137
                  · refine lv_aload_n hx hb dX8_set_113 rfl (lv_at hl 0 rfl) ?_
                    refine lv_iconst (v := 4) hx hb dX8_set_114 (by decide) ?_
                    refine lv_iconst (v := (-1)) hx hb dX8_set_115 (by decide) ?_
                    refine lv_iconst (v := 0) hx hb dX8_set_116 (by decide) ?_
                    have a912 : f1 wev = some (.inl (cy 0, 8, .inl gv)) := k4 _ _ x_wev (z_ne x_wev x_o rfl)
                    have a913 : f5 wev = some (.inl (cy 0, 8, .inl gv)) := k7 _ _ a912 
                    have a914 : f293 wev = some (.inl (cy 0, 8, .inl gv)) := k295 _ _ a913 
                    have a915 : f734 wev = some (.inl (cy 0, 8, .inl gv)) := k736 _ _ a914 
                    refine z_callVi (As := [.int 4, .int (-1), .int 0]) C hz hS hA hl (k_X8_fails l D cy f734 o wev wnb wki wmy wce wiw wli wha wwt wfy wfk wem wna wpl whs wk1 wk2 wk3 0 (-1) 0 nl nn nf nc lk ks 4 (-1) 0 gv 4 a738 a915 (by decide) (Nat.le_of_ble_eq_true rfl)) zyX8_fails mMX8_135 a738 zl8 rfl rfl (Nat.le_of_ble_eq_true rfl) ⟨Nat.le_of_ble_eq_true rfl, Nat.le_of_ble_eq_true rfl⟩ ⟨Nat.le_of_ble_eq_true rfl, Nat.le_of_ble_eq_true rfl⟩ dX8_set_117 (fun r f916 H locs h917 hz hS => ?_)
                    obtain ⟨rfl, a918, a919, k920⟩ := h917
                    have a921 : f1 wnb = some (.inl (cy 0, 12, .inl gu)) := k4 _ _ x_wnb (z_ne x_wnb x_o rfl)
                    have a922 : f5 wnb = some (.inl (cy 0, 12, .inl gu)) := k7 _ _ a921 
                    have a923 : f293 wnb = some (.inl (cy 0, 12, .inl gu)) := k295 _ _ a922 
                    have a924 : f734 wnb = some (.inl (cy 0, 12, .inl gu)) := k736 _ _ a923 
                    have a925 : f916 wnb = some (.inl (cy 0, 12, .inl gu)) := k920 _ _ a924 (z_ne a924 a738 rfl) (z_ne a924 a915 rfl)
                    have a926 : f916 wki = some (.inl (cy 0, 60, .inl gk)) := k920 _ _ a828 (z_ne a828 a738 rfl) (z_ne a828 a915 rfl)
                    have a927 : f734 wmy = some (.inl (cy 0, 60, .inl gm)) := k736 _ _ a733 
                    have a928 : f916 wmy = some (.inl (cy 0, 60, .inl gm)) := k920 _ _ a927 (z_ne a927 a738 rfl) (z_ne a927 a915 rfl)
                    have a929 : f1 wce = some (.inl (cy 1, 960, .inr (.inl gc))) := k4 _ _ x_wce (z_ne x_wce x_o rfl)
                    have a930 : f5 wce = some (.inl (cy 1, 960, .inr (.inl gc))) := k7 _ _ a929 
                    have a931 : f293 wce = some (.inl (cy 1, 960, .inr (.inl gc))) := k295 _ _ a930 
                    have a932 : f734 wce = some (.inl (cy 1, 960, .inr (.inl gc))) := k736 _ _ a931 
                    have a933 : f916 wce = some (.inl (cy 1, 960, .inr (.inl gc))) := k920 _ _ a932 (z_ne a932 a738 rfl) (z_ne a932 a915 rfl)
                    have a934 : f916 wiw = some (.inl (cy 2, 60, .inl gw)) := k920 _ _ a742 (z_ne a742 a738 rfl) (z_ne a742 a915 rfl)
                    have a935 : f1 wli = some (.inl (cy 0, 60, .inl gl)) := k4 _ _ x_wli (z_ne x_wli x_o rfl)
                    have a936 : f5 wli = some (.inl (cy 0, 60, .inl gl)) := k7 _ _ a935 
                    have a937 : f293 wli = some (.inl (cy 0, 60, .inl gl)) := k295 _ _ a936 
                    have a938 : f734 wli = some (.inl (cy 0, 60, .inl gl)) := k736 _ _ a937 
                    have a939 : f916 wli = some (.inl (cy 0, 60, .inl gl)) := k920 _ _ a938 (z_ne a938 a738 rfl) (z_ne a938 a915 rfl)
                    have a940 : f1 wha = some (.inl (cy 0, 60, .inl gh)) := k4 _ _ x_wha (z_ne x_wha x_o rfl)
                    have a941 : f5 wha = some (.inl (cy 0, 60, .inl gh)) := k7 _ _ a940 
                    have a942 : f293 wha = some (.inl (cy 0, 60, .inl gh)) := k295 _ _ a941 
                    have a943 : f734 wha = some (.inl (cy 0, 60, .inl gh)) := k736 _ _ a942 
                    have a944 : f916 wha = some (.inl (cy 0, 60, .inl gh)) := k920 _ _ a943 (z_ne a943 a738 rfl) (z_ne a943 a915 rfl)
                    have a945 : f1 wwt = some (.inl (cy 1, 60, .inr (.inl gt))) := k4 _ _ x_wwt (z_ne x_wwt x_o rfl)
                    have a946 : f5 wwt = some (.inl (cy 1, 60, .inr (.inl gt))) := k7 _ _ a945 
                    have a947 : f293 wwt = some (.inl (cy 1, 60, .inr (.inl gt))) := k295 _ _ a946 
                    have a948 : f734 wwt = some (.inl (cy 1, 60, .inr (.inl gt))) := k736 _ _ a947 
                    have a949 : f916 wwt = some (.inl (cy 1, 60, .inr (.inl gt))) := k920 _ _ a948 (z_ne a948 a738 rfl) (z_ne a948 a915 rfl)
                    have a950 : f1 wfy = some (.inl (cy 0, 6, .inl gy)) := k4 _ _ x_wfy (z_ne x_wfy x_o rfl)
                    have a951 : f5 wfy = some (.inl (cy 0, 6, .inl gy)) := k7 _ _ a950 
                    have a952 : f293 wfy = some (.inl (cy 0, 6, .inl gy)) := k295 _ _ a951 
                    have a953 : f734 wfy = some (.inl (cy 0, 6, .inl gy)) := k736 _ _ a952 
                    have a954 : f916 wfy = some (.inl (cy 0, 6, .inl gy)) := k920 _ _ a953 (z_ne a953 a738 rfl) (z_ne a953 a915 rfl)
                    have a955 : f1 wfk = some (.inl (cy 0, 24, .inl gq)) := k4 _ _ x_wfk (z_ne x_wfk x_o rfl)
                    have a956 : f5 wfk = some (.inl (cy 0, 24, .inl gq)) := k7 _ _ a955 
                    have a957 : f293 wfk = some (.inl (cy 0, 24, .inl gq)) := k295 _ _ a956 
                    have a958 : f734 wfk = some (.inl (cy 0, 24, .inl gq)) := k736 _ _ a957 
                    have a959 : f916 wfk = some (.inl (cy 0, 24, .inl gq)) := k920 _ _ a958 (z_ne a958 a738 rfl) (z_ne a958 a915 rfl)
                    have a960 : f1 wem = some (.inl (cy 0, 60, .inl ge1)) := k4 _ _ x_wem (z_ne x_wem x_o rfl)
                    have a961 : f5 wem = some (.inl (cy 0, 60, .inl ge1)) := k7 _ _ a960 
                    have a962 : f293 wem = some (.inl (cy 0, 60, .inl ge1)) := k295 _ _ a961 
                    have a963 : f734 wem = some (.inl (cy 0, 60, .inl ge1)) := k736 _ _ a962 
                    have a964 : f916 wem = some (.inl (cy 0, 60, .inl ge1)) := k920 _ _ a963 (z_ne a963 a738 rfl) (z_ne a963 a915 rfl)
                    have a965 : f1 wna = some (.inl (cy 0, 60, .inl gn1)) := k4 _ _ x_wna (z_ne x_wna x_o rfl)
                    have a966 : f5 wna = some (.inl (cy 0, 60, .inl gn1)) := k7 _ _ a965 
                    have a967 : f293 wna = some (.inl (cy 0, 60, .inl gn1)) := k295 _ _ a966 
                    have a968 : f734 wna = some (.inl (cy 0, 60, .inl gn1)) := k736 _ _ a967 
                    have a969 : f916 wna = some (.inl (cy 0, 60, .inl gn1)) := k920 _ _ a968 (z_ne a968 a738 rfl) (z_ne a968 a915 rfl)
                    have a970 : f1 wpl = some (.inl (cy 0, 60, .inl gp1)) := k4 _ _ x_wpl (z_ne x_wpl x_o rfl)
                    have a971 : f5 wpl = some (.inl (cy 0, 60, .inl gp1)) := k7 _ _ a970 
                    have a972 : f293 wpl = some (.inl (cy 0, 60, .inl gp1)) := k295 _ _ a971 
                    have a973 : f734 wpl = some (.inl (cy 0, 60, .inl gp1)) := k736 _ _ a972 
                    have a974 : f916 wpl = some (.inl (cy 0, 60, .inl gp1)) := k920 _ _ a973 (z_ne a973 a738 rfl) (z_ne a973 a915 rfl)
                    have a975 : f1 whs = some (.inl (cy 0, 4, .inl gs)) := k4 _ _ x_whs (z_ne x_whs x_o rfl)
                    have a976 : f5 whs = some (.inl (cy 0, 4, .inl gs)) := k7 _ _ a975 
                    have a977 : f293 whs = some (.inl (cy 0, 4, .inl gs)) := k295 _ _ a976 
                    have a978 : f734 whs = some (.inl (cy 0, 4, .inl gs)) := k736 _ _ a977 
                    have a979 : f916 whs = some (.inl (cy 0, 4, .inl gs)) := k920 _ _ a978 (z_ne a978 a738 rfl) (z_ne a978 a915 rfl)
                    have a980 : f1 wk1 = some (.inl (cy 0, 40, .inl gx1)) := k4 _ _ x_wk1 (z_ne x_wk1 x_o rfl)
                    have a981 : f5 wk1 = some (.inl (cy 0, 40, .inl gx1)) := k7 _ _ a980 
                    have a982 : f293 wk1 = some (.inl (cy 0, 40, .inl gx1)) := k295 _ _ a981 
                    have a983 : f734 wk1 = some (.inl (cy 0, 40, .inl gx1)) := k736 _ _ a982 
                    have a984 : f916 wk1 = some (.inl (cy 0, 40, .inl gx1)) := k920 _ _ a983 (z_ne a983 a738 rfl) (z_ne a983 a915 rfl)
                    have a985 : f1 wk2 = some (.inl (cy 0, 40, .inl gx2)) := k4 _ _ x_wk2 (z_ne x_wk2 x_o rfl)
                    have a986 : f5 wk2 = some (.inl (cy 0, 40, .inl gx2)) := k7 _ _ a985 
                    have a987 : f293 wk2 = some (.inl (cy 0, 40, .inl gx2)) := k295 _ _ a986 
                    have a988 : f734 wk2 = some (.inl (cy 0, 40, .inl gx2)) := k736 _ _ a987 
                    have a989 : f916 wk2 = some (.inl (cy 0, 40, .inl gx2)) := k920 _ _ a988 (z_ne a988 a738 rfl) (z_ne a988 a915 rfl)
                    have a990 : f1 wk3 = some (.inl (cy 0, 40, .inl gx3)) := k4 _ _ x_wk3 (z_ne x_wk3 x_o rfl)
                    have a991 : f5 wk3 = some (.inl (cy 0, 40, .inl gx3)) := k7 _ _ a990 
                    have a992 : f293 wk3 = some (.inl (cy 0, 40, .inl gx3)) := k295 _ _ a991 
                    have a993 : f734 wk3 = some (.inl (cy 0, 40, .inl gx3)) := k736 _ _ a992 
                    have a994 : f916 wk3 = some (.inl (cy 0, 40, .inl gx3)) := k920 _ _ a993 (z_ne a993 a738 rfl) (z_ne a993 a915 rfl)
                    exact z_iret C hr rfl hz hS ⟨4, (-1), 0, nl, nn, nf, nc, lk, ks, (upd gv 4 (gv 4 + 1)), gu, gk, gm, gc, gw, gl, gh, gt, gy, gq, ge1, gn1, gp1, gs, gx1, gx2, gx3, ln, fz, sq, rfl, rfl, ⟨a918, a919, a925, a926, a928, a933, a934, a939, a944, a949, a954, a959, a964, a969, a974, a979, a984, a989, a994, hn60, hl12, hf6, hc60, hs40, hMP, hgy, hfz, hgs, hME, hlk, n_wki_wmy, n_wki_wiw, n_wki_wli, n_wki_wha, n_wki_wem, n_wki_wna, n_wki_wpl, n_wmy_wiw, n_wmy_wli, n_wmy_wha, n_wmy_wem, n_wmy_wna, n_wmy_wpl, n_wiw_wli, n_wiw_wha, n_wiw_wem, n_wiw_wna, n_wiw_wpl, n_wli_wha, n_wli_wem, n_wli_wna, n_wli_wpl, n_wha_wem, n_wha_wna, n_wha_wpl, n_wem_wna, n_wem_wpl, n_wna_wpl, n_wk1_wk2, n_wk1_wk3, n_wk2_wk3⟩⟩ (Nat.le_of_ble_eq_true rfl) (Nat.le_of_ble_eq_true rfl) dX8_set_120
              · refine lv_aload_n hx hb dX8_set_81 rfl (lv_at hl 0 rfl) ?_
                refine lv_iconst (v := 2) hx hb dX8_set_82 (by decide) ?_
                refine lv_iconst (v := (-1)) hx hb dX8_set_83 (by decide) ?_
                refine lv_iconst (v := 0) hx hb dX8_set_84 (by decide) ?_
                have a995 : f734 o = some (.inr (8, [.int 0, .int (-1), .int 0, .ref wev, .int (nI nl), .ref wnb, .int (nI nn), .ref wki, .ref wmy, .ref wce, .ref wiw, .ref wli, .ref wha, .ref wwt, .int (nI nf), .ref wfy, .ref wfk, .int (nI nc), .ref wem, .ref wna, .ref wpl, .ref whs, .long lk, .int (nI ks), .ref wk1, .ref wk2, .ref wk3])) := k736 _ _ a297 
                have a996 : f1 wev = some (.inl (cy 0, 8, .inl gv)) := k4 _ _ x_wev (z_ne x_wev x_o rfl)
                have a997 : f5 wev = some (.inl (cy 0, 8, .inl gv)) := k7 _ _ a996 
                have a998 : f293 wev = some (.inl (cy 0, 8, .inl gv)) := k295 _ _ a997 
                have a999 : f734 wev = some (.inl (cy 0, 8, .inl gv)) := k736 _ _ a998 
                refine z_callVi (As := [.int 2, .int (-1), .int 0]) C hz hS hA hl (k_X8_fails l D cy f734 o wev wnb wki wmy wce wiw wli wha wwt wfy wfk wem wna wpl whs wk1 wk2 wk3 0 (-1) 0 nl nn nf nc lk ks 2 (-1) 0 gv 2 a995 a999 (by decide) (Nat.le_of_ble_eq_true rfl)) zyX8_fails mMX8_135 a995 zl8 rfl rfl (Nat.le_of_ble_eq_true rfl) ⟨Nat.le_of_ble_eq_true rfl, Nat.le_of_ble_eq_true rfl⟩ ⟨Nat.le_of_ble_eq_true rfl, Nat.le_of_ble_eq_true rfl⟩ dX8_set_85 (fun r f1000 H locs h1001 hz hS => ?_)
                obtain ⟨rfl, a1002, a1003, k1004⟩ := h1001
                have a1005 : f1 wnb = some (.inl (cy 0, 12, .inl gu)) := k4 _ _ x_wnb (z_ne x_wnb x_o rfl)
                have a1006 : f5 wnb = some (.inl (cy 0, 12, .inl gu)) := k7 _ _ a1005 
                have a1007 : f293 wnb = some (.inl (cy 0, 12, .inl gu)) := k295 _ _ a1006 
                have a1008 : f734 wnb = some (.inl (cy 0, 12, .inl gu)) := k736 _ _ a1007 
                have a1009 : f1000 wnb = some (.inl (cy 0, 12, .inl gu)) := k1004 _ _ a1008 (z_ne a1008 a995 rfl) (z_ne a1008 a999 rfl)
                have a1010 : f734 wki = some (.inl (cy 0, 60, .inl gk)) := k736 _ _ a300 
                have a1011 : f1000 wki = some (.inl (cy 0, 60, .inl gk)) := k1004 _ _ a1010 (z_ne a1010 a995 rfl) (z_ne a1010 a999 rfl)
                have a1012 : f734 wmy = some (.inl (cy 0, 60, .inl gm)) := k736 _ _ a733 
                have a1013 : f1000 wmy = some (.inl (cy 0, 60, .inl gm)) := k1004 _ _ a1012 (z_ne a1012 a995 rfl) (z_ne a1012 a999 rfl)
                have a1014 : f1 wce = some (.inl (cy 1, 960, .inr (.inl gc))) := k4 _ _ x_wce (z_ne x_wce x_o rfl)
                have a1015 : f5 wce = some (.inl (cy 1, 960, .inr (.inl gc))) := k7 _ _ a1014 
                have a1016 : f293 wce = some (.inl (cy 1, 960, .inr (.inl gc))) := k295 _ _ a1015 
                have a1017 : f734 wce = some (.inl (cy 1, 960, .inr (.inl gc))) := k736 _ _ a1016 
                have a1018 : f1000 wce = some (.inl (cy 1, 960, .inr (.inl gc))) := k1004 _ _ a1017 (z_ne a1017 a995 rfl) (z_ne a1017 a999 rfl)
                have a1019 : f1 wiw = some (.inl (cy 2, 60, .inl gw)) := k4 _ _ x_wiw (z_ne x_wiw x_o rfl)
                have a1020 : f5 wiw = some (.inl (cy 2, 60, .inl gw)) := k7 _ _ a1019 
                have a1021 : f293 wiw = some (.inl (cy 2, 60, .inl gw)) := k295 _ _ a1020 
                have a1022 : f734 wiw = some (.inl (cy 2, 60, .inl gw)) := k736 _ _ a1021 
                have a1023 : f1000 wiw = some (.inl (cy 2, 60, .inl gw)) := k1004 _ _ a1022 (z_ne a1022 a995 rfl) (z_ne a1022 a999 rfl)
                have a1024 : f1 wli = some (.inl (cy 0, 60, .inl gl)) := k4 _ _ x_wli (z_ne x_wli x_o rfl)
                have a1025 : f5 wli = some (.inl (cy 0, 60, .inl gl)) := k7 _ _ a1024 
                have a1026 : f293 wli = some (.inl (cy 0, 60, .inl gl)) := k295 _ _ a1025 
                have a1027 : f734 wli = some (.inl (cy 0, 60, .inl gl)) := k736 _ _ a1026 
                have a1028 : f1000 wli = some (.inl (cy 0, 60, .inl gl)) := k1004 _ _ a1027 (z_ne a1027 a995 rfl) (z_ne a1027 a999 rfl)
                have a1029 : f1 wha = some (.inl (cy 0, 60, .inl gh)) := k4 _ _ x_wha (z_ne x_wha x_o rfl)
                have a1030 : f5 wha = some (.inl (cy 0, 60, .inl gh)) := k7 _ _ a1029 
                have a1031 : f293 wha = some (.inl (cy 0, 60, .inl gh)) := k295 _ _ a1030 
                have a1032 : f734 wha = some (.inl (cy 0, 60, .inl gh)) := k736 _ _ a1031 
                have a1033 : f1000 wha = some (.inl (cy 0, 60, .inl gh)) := k1004 _ _ a1032 (z_ne a1032 a995 rfl) (z_ne a1032 a999 rfl)
                have a1034 : f1 wwt = some (.inl (cy 1, 60, .inr (.inl gt))) := k4 _ _ x_wwt (z_ne x_wwt x_o rfl)
                have a1035 : f5 wwt = some (.inl (cy 1, 60, .inr (.inl gt))) := k7 _ _ a1034 
                have a1036 : f293 wwt = some (.inl (cy 1, 60, .inr (.inl gt))) := k295 _ _ a1035 
                have a1037 : f734 wwt = some (.inl (cy 1, 60, .inr (.inl gt))) := k736 _ _ a1036 
                have a1038 : f1000 wwt = some (.inl (cy 1, 60, .inr (.inl gt))) := k1004 _ _ a1037 (z_ne a1037 a995 rfl) (z_ne a1037 a999 rfl)
                have a1039 : f1 wfy = some (.inl (cy 0, 6, .inl gy)) := k4 _ _ x_wfy (z_ne x_wfy x_o rfl)
                have a1040 : f5 wfy = some (.inl (cy 0, 6, .inl gy)) := k7 _ _ a1039 
                have a1041 : f293 wfy = some (.inl (cy 0, 6, .inl gy)) := k295 _ _ a1040 
                have a1042 : f734 wfy = some (.inl (cy 0, 6, .inl gy)) := k736 _ _ a1041 
                have a1043 : f1000 wfy = some (.inl (cy 0, 6, .inl gy)) := k1004 _ _ a1042 (z_ne a1042 a995 rfl) (z_ne a1042 a999 rfl)
                have a1044 : f1 wfk = some (.inl (cy 0, 24, .inl gq)) := k4 _ _ x_wfk (z_ne x_wfk x_o rfl)
                have a1045 : f5 wfk = some (.inl (cy 0, 24, .inl gq)) := k7 _ _ a1044 
                have a1046 : f293 wfk = some (.inl (cy 0, 24, .inl gq)) := k295 _ _ a1045 
                have a1047 : f734 wfk = some (.inl (cy 0, 24, .inl gq)) := k736 _ _ a1046 
                have a1048 : f1000 wfk = some (.inl (cy 0, 24, .inl gq)) := k1004 _ _ a1047 (z_ne a1047 a995 rfl) (z_ne a1047 a999 rfl)
                have a1049 : f1 wem = some (.inl (cy 0, 60, .inl ge1)) := k4 _ _ x_wem (z_ne x_wem x_o rfl)
                have a1050 : f5 wem = some (.inl (cy 0, 60, .inl ge1)) := k7 _ _ a1049 
                have a1051 : f293 wem = some (.inl (cy 0, 60, .inl ge1)) := k295 _ _ a1050 
                have a1052 : f734 wem = some (.inl (cy 0, 60, .inl ge1)) := k736 _ _ a1051 
                have a1053 : f1000 wem = some (.inl (cy 0, 60, .inl ge1)) := k1004 _ _ a1052 (z_ne a1052 a995 rfl) (z_ne a1052 a999 rfl)
                have a1054 : f1 wna = some (.inl (cy 0, 60, .inl gn1)) := k4 _ _ x_wna (z_ne x_wna x_o rfl)
                have a1055 : f5 wna = some (.inl (cy 0, 60, .inl gn1)) := k7 _ _ a1054 
                have a1056 : f293 wna = some (.inl (cy 0, 60, .inl gn1)) := k295 _ _ a1055 
                have a1057 : f734 wna = some (.inl (cy 0, 60, .inl gn1)) := k736 _ _ a1056 
                have a1058 : f1000 wna = some (.inl (cy 0, 60, .inl gn1)) := k1004 _ _ a1057 (z_ne a1057 a995 rfl) (z_ne a1057 a999 rfl)
                have a1059 : f1 wpl = some (.inl (cy 0, 60, .inl gp1)) := k4 _ _ x_wpl (z_ne x_wpl x_o rfl)
                have a1060 : f5 wpl = some (.inl (cy 0, 60, .inl gp1)) := k7 _ _ a1059 
                have a1061 : f293 wpl = some (.inl (cy 0, 60, .inl gp1)) := k295 _ _ a1060 
                have a1062 : f734 wpl = some (.inl (cy 0, 60, .inl gp1)) := k736 _ _ a1061 
                have a1063 : f1000 wpl = some (.inl (cy 0, 60, .inl gp1)) := k1004 _ _ a1062 (z_ne a1062 a995 rfl) (z_ne a1062 a999 rfl)
                have a1064 : f1 whs = some (.inl (cy 0, 4, .inl gs)) := k4 _ _ x_whs (z_ne x_whs x_o rfl)
                have a1065 : f5 whs = some (.inl (cy 0, 4, .inl gs)) := k7 _ _ a1064 
                have a1066 : f293 whs = some (.inl (cy 0, 4, .inl gs)) := k295 _ _ a1065 
                have a1067 : f734 whs = some (.inl (cy 0, 4, .inl gs)) := k736 _ _ a1066 
                have a1068 : f1000 whs = some (.inl (cy 0, 4, .inl gs)) := k1004 _ _ a1067 (z_ne a1067 a995 rfl) (z_ne a1067 a999 rfl)
                have a1069 : f1 wk1 = some (.inl (cy 0, 40, .inl gx1)) := k4 _ _ x_wk1 (z_ne x_wk1 x_o rfl)
                have a1070 : f5 wk1 = some (.inl (cy 0, 40, .inl gx1)) := k7 _ _ a1069 
                have a1071 : f293 wk1 = some (.inl (cy 0, 40, .inl gx1)) := k295 _ _ a1070 
                have a1072 : f734 wk1 = some (.inl (cy 0, 40, .inl gx1)) := k736 _ _ a1071 
                have a1073 : f1000 wk1 = some (.inl (cy 0, 40, .inl gx1)) := k1004 _ _ a1072 (z_ne a1072 a995 rfl) (z_ne a1072 a999 rfl)
                have a1074 : f1 wk2 = some (.inl (cy 0, 40, .inl gx2)) := k4 _ _ x_wk2 (z_ne x_wk2 x_o rfl)
                have a1075 : f5 wk2 = some (.inl (cy 0, 40, .inl gx2)) := k7 _ _ a1074 
                have a1076 : f293 wk2 = some (.inl (cy 0, 40, .inl gx2)) := k295 _ _ a1075 
                have a1077 : f734 wk2 = some (.inl (cy 0, 40, .inl gx2)) := k736 _ _ a1076 
                have a1078 : f1000 wk2 = some (.inl (cy 0, 40, .inl gx2)) := k1004 _ _ a1077 (z_ne a1077 a995 rfl) (z_ne a1077 a999 rfl)
                have a1079 : f1 wk3 = some (.inl (cy 0, 40, .inl gx3)) := k4 _ _ x_wk3 (z_ne x_wk3 x_o rfl)
                have a1080 : f5 wk3 = some (.inl (cy 0, 40, .inl gx3)) := k7 _ _ a1079 
                have a1081 : f293 wk3 = some (.inl (cy 0, 40, .inl gx3)) := k295 _ _ a1080 
                have a1082 : f734 wk3 = some (.inl (cy 0, 40, .inl gx3)) := k736 _ _ a1081 
                have a1083 : f1000 wk3 = some (.inl (cy 0, 40, .inl gx3)) := k1004 _ _ a1082 (z_ne a1082 a995 rfl) (z_ne a1082 a999 rfl)
                exact z_iret C hr rfl hz hS ⟨2, (-1), 0, nl, nn, nf, nc, lk, ks, (upd gv 2 (gv 2 + 1)), gu, gk, gm, gc, gw, gl, gh, gt, gy, gq, ge1, gn1, gp1, gs, gx1, gx2, gx3, ln, fz, sq, rfl, rfl, ⟨a1002, a1003, a1009, a1011, a1013, a1018, a1023, a1028, a1033, a1038, a1043, a1048, a1053, a1058, a1063, a1068, a1073, a1078, a1083, hn60, hl12, hf6, hc60, hs40, hMP, hgy, hfz, hgs, hME, hlk, n_wki_wmy, n_wki_wiw, n_wki_wli, n_wki_wha, n_wki_wem, n_wki_wna, n_wki_wpl, n_wmy_wiw, n_wmy_wli, n_wmy_wha, n_wmy_wem, n_wmy_wna, n_wmy_wpl, n_wiw_wli, n_wiw_wha, n_wiw_wem, n_wiw_wna, n_wiw_wpl, n_wli_wha, n_wli_wem, n_wli_wna, n_wli_wpl, n_wha_wem, n_wha_wna, n_wha_wpl, n_wem_wna, n_wem_wpl, n_wna_wpl, n_wk1_wk2, n_wk1_wk3, n_wk2_wk3⟩⟩ (Nat.le_of_ble_eq_true rfl) (Nat.le_of_ble_eq_true rfl) dX8_set_88
            · refine lv_aload_n hx hb dX8_set_64 rfl (lv_at hl 0 rfl) ?_
              refine lv_iconst (v := 3) hx hb dX8_set_65 (by decide) ?_
              refine lv_iconst (v := (-1)) hx hb dX8_set_66 (by decide) ?_
              refine lv_iconst (v := 0) hx hb dX8_set_67 (by decide) ?_
              have a1084 : f1 wev = some (.inl (cy 0, 8, .inl gv)) := k4 _ _ x_wev (z_ne x_wev x_o rfl)
              have a1085 : f5 wev = some (.inl (cy 0, 8, .inl gv)) := k7 _ _ a1084 
              have a1086 : f293 wev = some (.inl (cy 0, 8, .inl gv)) := k295 _ _ a1085 
              refine z_callVi (As := [.int 3, .int (-1), .int 0]) C hz hS hA hl (k_X8_fails l D cy f293 o wev wnb wki wmy wce wiw wli wha wwt wfy wfk wem wna wpl whs wk1 wk2 wk3 0 (-1) 0 nl nn nf nc lk ks 3 (-1) 0 gv 3 a297 a1086 (by decide) (Nat.le_of_ble_eq_true rfl)) zyX8_fails mMX8_135 a297 zl8 rfl rfl (Nat.le_of_ble_eq_true rfl) ⟨Nat.le_of_ble_eq_true rfl, Nat.le_of_ble_eq_true rfl⟩ ⟨Nat.le_of_ble_eq_true rfl, Nat.le_of_ble_eq_true rfl⟩ dX8_set_68 (fun r f1087 H locs h1088 hz hS => ?_)
              obtain ⟨rfl, a1089, a1090, k1091⟩ := h1088
              have a1092 : f1 wnb = some (.inl (cy 0, 12, .inl gu)) := k4 _ _ x_wnb (z_ne x_wnb x_o rfl)
              have a1093 : f5 wnb = some (.inl (cy 0, 12, .inl gu)) := k7 _ _ a1092 
              have a1094 : f293 wnb = some (.inl (cy 0, 12, .inl gu)) := k295 _ _ a1093 
              have a1095 : f1087 wnb = some (.inl (cy 0, 12, .inl gu)) := k1091 _ _ a1094 (z_ne a1094 a297 rfl) (z_ne a1094 a1086 rfl)
              have a1096 : f1087 wki = some (.inl (cy 0, 60, .inl gk)) := k1091 _ _ a300 (z_ne a300 a297 rfl) (z_ne a300 a1086 rfl)
              have a1097 : f1 wmy = some (.inl (cy 0, 60, .inl gm)) := k4 _ _ x_wmy (z_ne x_wmy x_o rfl)
              have a1098 : f5 wmy = some (.inl (cy 0, 60, .inl gm)) := k7 _ _ a1097 
              have a1099 : f293 wmy = some (.inl (cy 0, 60, .inl gm)) := k295 _ _ a1098 
              have a1100 : f1087 wmy = some (.inl (cy 0, 60, .inl gm)) := k1091 _ _ a1099 (z_ne a1099 a297 rfl) (z_ne a1099 a1086 rfl)
              have a1101 : f1 wce = some (.inl (cy 1, 960, .inr (.inl gc))) := k4 _ _ x_wce (z_ne x_wce x_o rfl)
              have a1102 : f5 wce = some (.inl (cy 1, 960, .inr (.inl gc))) := k7 _ _ a1101 
              have a1103 : f293 wce = some (.inl (cy 1, 960, .inr (.inl gc))) := k295 _ _ a1102 
              have a1104 : f1087 wce = some (.inl (cy 1, 960, .inr (.inl gc))) := k1091 _ _ a1103 (z_ne a1103 a297 rfl) (z_ne a1103 a1086 rfl)
              have a1105 : f1 wiw = some (.inl (cy 2, 60, .inl gw)) := k4 _ _ x_wiw (z_ne x_wiw x_o rfl)
              have a1106 : f5 wiw = some (.inl (cy 2, 60, .inl gw)) := k7 _ _ a1105 
              have a1107 : f293 wiw = some (.inl (cy 2, 60, .inl gw)) := k295 _ _ a1106 
              have a1108 : f1087 wiw = some (.inl (cy 2, 60, .inl gw)) := k1091 _ _ a1107 (z_ne a1107 a297 rfl) (z_ne a1107 a1086 rfl)
              have a1109 : f1 wli = some (.inl (cy 0, 60, .inl gl)) := k4 _ _ x_wli (z_ne x_wli x_o rfl)
              have a1110 : f5 wli = some (.inl (cy 0, 60, .inl gl)) := k7 _ _ a1109 
              have a1111 : f293 wli = some (.inl (cy 0, 60, .inl gl)) := k295 _ _ a1110 
              have a1112 : f1087 wli = some (.inl (cy 0, 60, .inl gl)) := k1091 _ _ a1111 (z_ne a1111 a297 rfl) (z_ne a1111 a1086 rfl)
              have a1113 : f1 wha = some (.inl (cy 0, 60, .inl gh)) := k4 _ _ x_wha (z_ne x_wha x_o rfl)
              have a1114 : f5 wha = some (.inl (cy 0, 60, .inl gh)) := k7 _ _ a1113 
              have a1115 : f293 wha = some (.inl (cy 0, 60, .inl gh)) := k295 _ _ a1114 
              have a1116 : f1087 wha = some (.inl (cy 0, 60, .inl gh)) := k1091 _ _ a1115 (z_ne a1115 a297 rfl) (z_ne a1115 a1086 rfl)
              have a1117 : f1 wwt = some (.inl (cy 1, 60, .inr (.inl gt))) := k4 _ _ x_wwt (z_ne x_wwt x_o rfl)
              have a1118 : f5 wwt = some (.inl (cy 1, 60, .inr (.inl gt))) := k7 _ _ a1117 
              have a1119 : f293 wwt = some (.inl (cy 1, 60, .inr (.inl gt))) := k295 _ _ a1118 
              have a1120 : f1087 wwt = some (.inl (cy 1, 60, .inr (.inl gt))) := k1091 _ _ a1119 (z_ne a1119 a297 rfl) (z_ne a1119 a1086 rfl)
              have a1121 : f1 wfy = some (.inl (cy 0, 6, .inl gy)) := k4 _ _ x_wfy (z_ne x_wfy x_o rfl)
              have a1122 : f5 wfy = some (.inl (cy 0, 6, .inl gy)) := k7 _ _ a1121 
              have a1123 : f293 wfy = some (.inl (cy 0, 6, .inl gy)) := k295 _ _ a1122 
              have a1124 : f1087 wfy = some (.inl (cy 0, 6, .inl gy)) := k1091 _ _ a1123 (z_ne a1123 a297 rfl) (z_ne a1123 a1086 rfl)
              have a1125 : f1 wfk = some (.inl (cy 0, 24, .inl gq)) := k4 _ _ x_wfk (z_ne x_wfk x_o rfl)
              have a1126 : f5 wfk = some (.inl (cy 0, 24, .inl gq)) := k7 _ _ a1125 
              have a1127 : f293 wfk = some (.inl (cy 0, 24, .inl gq)) := k295 _ _ a1126 
              have a1128 : f1087 wfk = some (.inl (cy 0, 24, .inl gq)) := k1091 _ _ a1127 (z_ne a1127 a297 rfl) (z_ne a1127 a1086 rfl)
              have a1129 : f1 wem = some (.inl (cy 0, 60, .inl ge1)) := k4 _ _ x_wem (z_ne x_wem x_o rfl)
              have a1130 : f5 wem = some (.inl (cy 0, 60, .inl ge1)) := k7 _ _ a1129 
              have a1131 : f293 wem = some (.inl (cy 0, 60, .inl ge1)) := k295 _ _ a1130 
              have a1132 : f1087 wem = some (.inl (cy 0, 60, .inl ge1)) := k1091 _ _ a1131 (z_ne a1131 a297 rfl) (z_ne a1131 a1086 rfl)
              have a1133 : f1 wna = some (.inl (cy 0, 60, .inl gn1)) := k4 _ _ x_wna (z_ne x_wna x_o rfl)
              have a1134 : f5 wna = some (.inl (cy 0, 60, .inl gn1)) := k7 _ _ a1133 
              have a1135 : f293 wna = some (.inl (cy 0, 60, .inl gn1)) := k295 _ _ a1134 
              have a1136 : f1087 wna = some (.inl (cy 0, 60, .inl gn1)) := k1091 _ _ a1135 (z_ne a1135 a297 rfl) (z_ne a1135 a1086 rfl)
              have a1137 : f1 wpl = some (.inl (cy 0, 60, .inl gp1)) := k4 _ _ x_wpl (z_ne x_wpl x_o rfl)
              have a1138 : f5 wpl = some (.inl (cy 0, 60, .inl gp1)) := k7 _ _ a1137 
              have a1139 : f293 wpl = some (.inl (cy 0, 60, .inl gp1)) := k295 _ _ a1138 
              have a1140 : f1087 wpl = some (.inl (cy 0, 60, .inl gp1)) := k1091 _ _ a1139 (z_ne a1139 a297 rfl) (z_ne a1139 a1086 rfl)
              have a1141 : f1 whs = some (.inl (cy 0, 4, .inl gs)) := k4 _ _ x_whs (z_ne x_whs x_o rfl)
              have a1142 : f5 whs = some (.inl (cy 0, 4, .inl gs)) := k7 _ _ a1141 
              have a1143 : f293 whs = some (.inl (cy 0, 4, .inl gs)) := k295 _ _ a1142 
              have a1144 : f1087 whs = some (.inl (cy 0, 4, .inl gs)) := k1091 _ _ a1143 (z_ne a1143 a297 rfl) (z_ne a1143 a1086 rfl)
              have a1145 : f1 wk1 = some (.inl (cy 0, 40, .inl gx1)) := k4 _ _ x_wk1 (z_ne x_wk1 x_o rfl)
              have a1146 : f5 wk1 = some (.inl (cy 0, 40, .inl gx1)) := k7 _ _ a1145 
              have a1147 : f293 wk1 = some (.inl (cy 0, 40, .inl gx1)) := k295 _ _ a1146 
              have a1148 : f1087 wk1 = some (.inl (cy 0, 40, .inl gx1)) := k1091 _ _ a1147 (z_ne a1147 a297 rfl) (z_ne a1147 a1086 rfl)
              have a1149 : f1 wk2 = some (.inl (cy 0, 40, .inl gx2)) := k4 _ _ x_wk2 (z_ne x_wk2 x_o rfl)
              have a1150 : f5 wk2 = some (.inl (cy 0, 40, .inl gx2)) := k7 _ _ a1149 
              have a1151 : f293 wk2 = some (.inl (cy 0, 40, .inl gx2)) := k295 _ _ a1150 
              have a1152 : f1087 wk2 = some (.inl (cy 0, 40, .inl gx2)) := k1091 _ _ a1151 (z_ne a1151 a297 rfl) (z_ne a1151 a1086 rfl)
              have a1153 : f1 wk3 = some (.inl (cy 0, 40, .inl gx3)) := k4 _ _ x_wk3 (z_ne x_wk3 x_o rfl)
              have a1154 : f5 wk3 = some (.inl (cy 0, 40, .inl gx3)) := k7 _ _ a1153 
              have a1155 : f293 wk3 = some (.inl (cy 0, 40, .inl gx3)) := k295 _ _ a1154 
              have a1156 : f1087 wk3 = some (.inl (cy 0, 40, .inl gx3)) := k1091 _ _ a1155 (z_ne a1155 a297 rfl) (z_ne a1155 a1086 rfl)
              exact z_iret C hr rfl hz hS ⟨3, (-1), 0, nl, nn, nf, nc, lk, ks, (upd gv 3 (gv 3 + 1)), gu, gk, gm, gc, gw, gl, gh, gt, gy, gq, ge1, gn1, gp1, gs, gx1, gx2, gx3, ln, fz, sq, rfl, rfl, ⟨a1089, a1090, a1095, a1096, a1100, a1104, a1108, a1112, a1116, a1120, a1124, a1128, a1132, a1136, a1140, a1144, a1148, a1152, a1156, hn60, hl12, hf6, hc60, hs40, hMP, hgy, hfz, hgs, hME, hlk, n_wki_wmy, n_wki_wiw, n_wki_wli, n_wki_wha, n_wki_wem, n_wki_wna, n_wki_wpl, n_wmy_wiw, n_wmy_wli, n_wmy_wha, n_wmy_wem, n_wmy_wna, n_wmy_wpl, n_wiw_wli, n_wiw_wha, n_wiw_wem, n_wiw_wna, n_wiw_wpl, n_wli_wha, n_wli_wem, n_wli_wna, n_wli_wpl, n_wha_wem, n_wha_wna, n_wha_wpl, n_wem_wna, n_wem_wpl, n_wna_wpl, n_wk1_wk2, n_wk1_wk3, n_wk2_wk3⟩⟩ (Nat.le_of_ble_eq_true rfl) (Nat.le_of_ble_eq_true rfl) dX8_set_71
      · have a1157 : f5 o = some (.inr (8, [.int 0, .int (-1), .int 0, .ref wev, .int (nI nl), .ref wnb, .int (nI nn), .ref wki, .ref wmy, .ref wce, .ref wiw, .ref wli, .ref wha, .ref wwt, .int (nI nf), .ref wfy, .ref wfk, .int (nI nc), .ref wem, .ref wna, .ref wpl, .ref whs, .long lk, .int (nI ks), .ref wk1, .ref wk2, .ref wk3])) := k7 _ _ a3 
        refine z_callVi (As := [.int z]) C hz hS hA hl (k_X8_isFigure_B l D cy f5 o wev wnb wki wmy wce wiw wli wha wwt wfy wfk wem wna wpl whs wk1 wk2 wk3 0 (-1) 0 nl nn nf nc lk ks z a1157 hn60 hvb) zyX8_isFigure mMX8_139 a1157 zl8 rfl rfl (Nat.le_of_ble_eq_true rfl) ⟨Nat.le_of_ble_eq_true rfl, Nat.le_of_ble_eq_true rfl⟩ ⟨Nat.le_of_ble_eq_true rfl, Nat.le_of_ble_eq_true rfl⟩ dX8_set_19 (fun r f1158 H locs h1159 hz hS => ?_)
        obtain ⟨rfl, k1160⟩ := h1159
        refine lv_if_ne (tgt := 28) hx hb dX8_set_22 (by decide) (fun c1161 => ?_) (fun c1161 => ?_)
        · exact absurd c1161 (by decide)
        refine lv_bipush (v := (-2)) hx hb dX8_set_25 (by decide) ?_
        have a1162 : f1158 o = some (.inr (8, [.int 0, .int (-1), .int 0, .ref wev, .int (nI nl), .ref wnb, .int (nI nn), .ref wki, .ref wmy, .ref wce, .ref wiw, .ref wli, .ref wha, .ref wwt, .int (nI nf), .ref wfy, .ref wfk, .int (nI nc), .ref wem, .ref wna, .ref wpl, .ref whs, .long lk, .int (nI ks), .ref wk1, .ref wk2, .ref wk3])) := k1160 _ _ a1157 
        have a1163 : f1 wev = some (.inl (cy 0, 8, .inl gv)) := k4 _ _ x_wev (z_ne x_wev x_o rfl)
        have a1164 : f5 wev = some (.inl (cy 0, 8, .inl gv)) := k7 _ _ a1163 
        have a1165 : f1158 wev = some (.inl (cy 0, 8, .inl gv)) := k1160 _ _ a1164 
        have a1166 : f1 wnb = some (.inl (cy 0, 12, .inl gu)) := k4 _ _ x_wnb (z_ne x_wnb x_o rfl)
        have a1167 : f5 wnb = some (.inl (cy 0, 12, .inl gu)) := k7 _ _ a1166 
        have a1168 : f1158 wnb = some (.inl (cy 0, 12, .inl gu)) := k1160 _ _ a1167 
        have a1169 : f1 wki = some (.inl (cy 0, 60, .inl gk)) := k4 _ _ x_wki (z_ne x_wki x_o rfl)
        have a1170 : f5 wki = some (.inl (cy 0, 60, .inl gk)) := k7 _ _ a1169 
        have a1171 : f1158 wki = some (.inl (cy 0, 60, .inl gk)) := k1160 _ _ a1170 
        have a1172 : f1 wmy = some (.inl (cy 0, 60, .inl gm)) := k4 _ _ x_wmy (z_ne x_wmy x_o rfl)
        have a1173 : f5 wmy = some (.inl (cy 0, 60, .inl gm)) := k7 _ _ a1172 
        have a1174 : f1158 wmy = some (.inl (cy 0, 60, .inl gm)) := k1160 _ _ a1173 
        have a1175 : f1 wce = some (.inl (cy 1, 960, .inr (.inl gc))) := k4 _ _ x_wce (z_ne x_wce x_o rfl)
        have a1176 : f5 wce = some (.inl (cy 1, 960, .inr (.inl gc))) := k7 _ _ a1175 
        have a1177 : f1158 wce = some (.inl (cy 1, 960, .inr (.inl gc))) := k1160 _ _ a1176 
        have a1178 : f1 wiw = some (.inl (cy 2, 60, .inl gw)) := k4 _ _ x_wiw (z_ne x_wiw x_o rfl)
        have a1179 : f5 wiw = some (.inl (cy 2, 60, .inl gw)) := k7 _ _ a1178 
        have a1180 : f1158 wiw = some (.inl (cy 2, 60, .inl gw)) := k1160 _ _ a1179 
        have a1181 : f1 wli = some (.inl (cy 0, 60, .inl gl)) := k4 _ _ x_wli (z_ne x_wli x_o rfl)
        have a1182 : f5 wli = some (.inl (cy 0, 60, .inl gl)) := k7 _ _ a1181 
        have a1183 : f1158 wli = some (.inl (cy 0, 60, .inl gl)) := k1160 _ _ a1182 
        have a1184 : f1 wha = some (.inl (cy 0, 60, .inl gh)) := k4 _ _ x_wha (z_ne x_wha x_o rfl)
        have a1185 : f5 wha = some (.inl (cy 0, 60, .inl gh)) := k7 _ _ a1184 
        have a1186 : f1158 wha = some (.inl (cy 0, 60, .inl gh)) := k1160 _ _ a1185 
        have a1187 : f1 wwt = some (.inl (cy 1, 60, .inr (.inl gt))) := k4 _ _ x_wwt (z_ne x_wwt x_o rfl)
        have a1188 : f5 wwt = some (.inl (cy 1, 60, .inr (.inl gt))) := k7 _ _ a1187 
        have a1189 : f1158 wwt = some (.inl (cy 1, 60, .inr (.inl gt))) := k1160 _ _ a1188 
        have a1190 : f1 wfy = some (.inl (cy 0, 6, .inl gy)) := k4 _ _ x_wfy (z_ne x_wfy x_o rfl)
        have a1191 : f5 wfy = some (.inl (cy 0, 6, .inl gy)) := k7 _ _ a1190 
        have a1192 : f1158 wfy = some (.inl (cy 0, 6, .inl gy)) := k1160 _ _ a1191 
        have a1193 : f1 wfk = some (.inl (cy 0, 24, .inl gq)) := k4 _ _ x_wfk (z_ne x_wfk x_o rfl)
        have a1194 : f5 wfk = some (.inl (cy 0, 24, .inl gq)) := k7 _ _ a1193 
        have a1195 : f1158 wfk = some (.inl (cy 0, 24, .inl gq)) := k1160 _ _ a1194 
        have a1196 : f1 wem = some (.inl (cy 0, 60, .inl ge1)) := k4 _ _ x_wem (z_ne x_wem x_o rfl)
        have a1197 : f5 wem = some (.inl (cy 0, 60, .inl ge1)) := k7 _ _ a1196 
        have a1198 : f1158 wem = some (.inl (cy 0, 60, .inl ge1)) := k1160 _ _ a1197 
        have a1199 : f1 wna = some (.inl (cy 0, 60, .inl gn1)) := k4 _ _ x_wna (z_ne x_wna x_o rfl)
        have a1200 : f5 wna = some (.inl (cy 0, 60, .inl gn1)) := k7 _ _ a1199 
        have a1201 : f1158 wna = some (.inl (cy 0, 60, .inl gn1)) := k1160 _ _ a1200 
        have a1202 : f1 wpl = some (.inl (cy 0, 60, .inl gp1)) := k4 _ _ x_wpl (z_ne x_wpl x_o rfl)
        have a1203 : f5 wpl = some (.inl (cy 0, 60, .inl gp1)) := k7 _ _ a1202 
        have a1204 : f1158 wpl = some (.inl (cy 0, 60, .inl gp1)) := k1160 _ _ a1203 
        have a1205 : f1 whs = some (.inl (cy 0, 4, .inl gs)) := k4 _ _ x_whs (z_ne x_whs x_o rfl)
        have a1206 : f5 whs = some (.inl (cy 0, 4, .inl gs)) := k7 _ _ a1205 
        have a1207 : f1158 whs = some (.inl (cy 0, 4, .inl gs)) := k1160 _ _ a1206 
        have a1208 : f1 wk1 = some (.inl (cy 0, 40, .inl gx1)) := k4 _ _ x_wk1 (z_ne x_wk1 x_o rfl)
        have a1209 : f5 wk1 = some (.inl (cy 0, 40, .inl gx1)) := k7 _ _ a1208 
        have a1210 : f1158 wk1 = some (.inl (cy 0, 40, .inl gx1)) := k1160 _ _ a1209 
        have a1211 : f1 wk2 = some (.inl (cy 0, 40, .inl gx2)) := k4 _ _ x_wk2 (z_ne x_wk2 x_o rfl)
        have a1212 : f5 wk2 = some (.inl (cy 0, 40, .inl gx2)) := k7 _ _ a1211 
        have a1213 : f1158 wk2 = some (.inl (cy 0, 40, .inl gx2)) := k1160 _ _ a1212 
        have a1214 : f1 wk3 = some (.inl (cy 0, 40, .inl gx3)) := k4 _ _ x_wk3 (z_ne x_wk3 x_o rfl)
        have a1215 : f5 wk3 = some (.inl (cy 0, 40, .inl gx3)) := k7 _ _ a1214 
        have a1216 : f1158 wk3 = some (.inl (cy 0, 40, .inl gx3)) := k1160 _ _ a1215 
        exact z_iret C hr rfl hz hS ⟨0, (-1), 0, nl, nn, nf, nc, lk, ks, gv, gu, gk, gm, gc, gw, gl, gh, gt, gy, gq, ge1, gn1, gp1, gs, gx1, gx2, gx3, ln, fz, sq, rfl, rfl, ⟨a1162, a1165, a1168, a1171, a1174, a1177, a1180, a1183, a1186, a1189, a1192, a1195, a1198, a1201, a1204, a1207, a1210, a1213, a1216, hn60, hl12, hf6, hc60, hs40, hMP, hgy, hfz, hgs, hME, hlk, n_wki_wmy, n_wki_wiw, n_wki_wli, n_wki_wha, n_wki_wem, n_wki_wna, n_wki_wpl, n_wmy_wiw, n_wmy_wli, n_wmy_wha, n_wmy_wem, n_wmy_wna, n_wmy_wpl, n_wiw_wli, n_wiw_wha, n_wiw_wem, n_wiw_wna, n_wiw_wpl, n_wli_wha, n_wli_wem, n_wli_wna, n_wli_wpl, n_wha_wem, n_wha_wna, n_wha_wpl, n_wem_wna, n_wem_wpl, n_wna_wpl, n_wk1_wk2, n_wk1_wk3, n_wk2_wk3⟩⟩ (Nat.le_of_ble_eq_true rfl) (Nat.le_of_ble_eq_true rfl) dX8_set_27
  · refine z_callVi (As := [.int x]) C hz hS hA hl (k_X8_isFigure_B l D cy f1 o wev wnb wki wmy wce wiw wli wha wwt wfy wfk wem wna wpl whs wk1 wk2 wk3 0 (-1) 0 nl nn nf nc lk ks x a3 hn60 hva) zyX8_isFigure mMX8_139 a3 zl8 rfl rfl (Nat.le_of_ble_eq_true rfl) ⟨Nat.le_of_ble_eq_true rfl, Nat.le_of_ble_eq_true rfl⟩ ⟨Nat.le_of_ble_eq_true rfl, Nat.le_of_ble_eq_true rfl⟩ dX8_set_6 (fun r f1217 H locs h1218 hz hS => ?_)
    obtain ⟨rfl, k1219⟩ := h1218
    refine lv_if_eq (tgt := 25) hx hb dX8_set_9 (by decide) (fun c1220 => ?_) (fun c1220 => ?_)
    rotate_left
    · exact absurd c1220 (by decide)
    refine lv_bipush (v := (-2)) hx hb dX8_set_25 (by decide) ?_
    have a1221 : f1217 o = some (.inr (8, [.int 0, .int (-1), .int 0, .ref wev, .int (nI nl), .ref wnb, .int (nI nn), .ref wki, .ref wmy, .ref wce, .ref wiw, .ref wli, .ref wha, .ref wwt, .int (nI nf), .ref wfy, .ref wfk, .int (nI nc), .ref wem, .ref wna, .ref wpl, .ref whs, .long lk, .int (nI ks), .ref wk1, .ref wk2, .ref wk3])) := k1219 _ _ a3 
    have a1222 : f1 wev = some (.inl (cy 0, 8, .inl gv)) := k4 _ _ x_wev (z_ne x_wev x_o rfl)
    have a1223 : f1217 wev = some (.inl (cy 0, 8, .inl gv)) := k1219 _ _ a1222 
    have a1224 : f1 wnb = some (.inl (cy 0, 12, .inl gu)) := k4 _ _ x_wnb (z_ne x_wnb x_o rfl)
    have a1225 : f1217 wnb = some (.inl (cy 0, 12, .inl gu)) := k1219 _ _ a1224 
    have a1226 : f1 wki = some (.inl (cy 0, 60, .inl gk)) := k4 _ _ x_wki (z_ne x_wki x_o rfl)
    have a1227 : f1217 wki = some (.inl (cy 0, 60, .inl gk)) := k1219 _ _ a1226 
    have a1228 : f1 wmy = some (.inl (cy 0, 60, .inl gm)) := k4 _ _ x_wmy (z_ne x_wmy x_o rfl)
    have a1229 : f1217 wmy = some (.inl (cy 0, 60, .inl gm)) := k1219 _ _ a1228 
    have a1230 : f1 wce = some (.inl (cy 1, 960, .inr (.inl gc))) := k4 _ _ x_wce (z_ne x_wce x_o rfl)
    have a1231 : f1217 wce = some (.inl (cy 1, 960, .inr (.inl gc))) := k1219 _ _ a1230 
    have a1232 : f1 wiw = some (.inl (cy 2, 60, .inl gw)) := k4 _ _ x_wiw (z_ne x_wiw x_o rfl)
    have a1233 : f1217 wiw = some (.inl (cy 2, 60, .inl gw)) := k1219 _ _ a1232 
    have a1234 : f1 wli = some (.inl (cy 0, 60, .inl gl)) := k4 _ _ x_wli (z_ne x_wli x_o rfl)
    have a1235 : f1217 wli = some (.inl (cy 0, 60, .inl gl)) := k1219 _ _ a1234 
    have a1236 : f1 wha = some (.inl (cy 0, 60, .inl gh)) := k4 _ _ x_wha (z_ne x_wha x_o rfl)
    have a1237 : f1217 wha = some (.inl (cy 0, 60, .inl gh)) := k1219 _ _ a1236 
    have a1238 : f1 wwt = some (.inl (cy 1, 60, .inr (.inl gt))) := k4 _ _ x_wwt (z_ne x_wwt x_o rfl)
    have a1239 : f1217 wwt = some (.inl (cy 1, 60, .inr (.inl gt))) := k1219 _ _ a1238 
    have a1240 : f1 wfy = some (.inl (cy 0, 6, .inl gy)) := k4 _ _ x_wfy (z_ne x_wfy x_o rfl)
    have a1241 : f1217 wfy = some (.inl (cy 0, 6, .inl gy)) := k1219 _ _ a1240 
    have a1242 : f1 wfk = some (.inl (cy 0, 24, .inl gq)) := k4 _ _ x_wfk (z_ne x_wfk x_o rfl)
    have a1243 : f1217 wfk = some (.inl (cy 0, 24, .inl gq)) := k1219 _ _ a1242 
    have a1244 : f1 wem = some (.inl (cy 0, 60, .inl ge1)) := k4 _ _ x_wem (z_ne x_wem x_o rfl)
    have a1245 : f1217 wem = some (.inl (cy 0, 60, .inl ge1)) := k1219 _ _ a1244 
    have a1246 : f1 wna = some (.inl (cy 0, 60, .inl gn1)) := k4 _ _ x_wna (z_ne x_wna x_o rfl)
    have a1247 : f1217 wna = some (.inl (cy 0, 60, .inl gn1)) := k1219 _ _ a1246 
    have a1248 : f1 wpl = some (.inl (cy 0, 60, .inl gp1)) := k4 _ _ x_wpl (z_ne x_wpl x_o rfl)
    have a1249 : f1217 wpl = some (.inl (cy 0, 60, .inl gp1)) := k1219 _ _ a1248 
    have a1250 : f1 whs = some (.inl (cy 0, 4, .inl gs)) := k4 _ _ x_whs (z_ne x_whs x_o rfl)
    have a1251 : f1217 whs = some (.inl (cy 0, 4, .inl gs)) := k1219 _ _ a1250 
    have a1252 : f1 wk1 = some (.inl (cy 0, 40, .inl gx1)) := k4 _ _ x_wk1 (z_ne x_wk1 x_o rfl)
    have a1253 : f1217 wk1 = some (.inl (cy 0, 40, .inl gx1)) := k1219 _ _ a1252 
    have a1254 : f1 wk2 = some (.inl (cy 0, 40, .inl gx2)) := k4 _ _ x_wk2 (z_ne x_wk2 x_o rfl)
    have a1255 : f1217 wk2 = some (.inl (cy 0, 40, .inl gx2)) := k1219 _ _ a1254 
    have a1256 : f1 wk3 = some (.inl (cy 0, 40, .inl gx3)) := k4 _ _ x_wk3 (z_ne x_wk3 x_o rfl)
    have a1257 : f1217 wk3 = some (.inl (cy 0, 40, .inl gx3)) := k1219 _ _ a1256 
    exact z_iret C hr rfl hz hS ⟨0, (-1), 0, nl, nn, nf, nc, lk, ks, gv, gu, gk, gm, gc, gw, gl, gh, gt, gy, gq, ge1, gn1, gp1, gs, gx1, gx2, gx3, ln, fz, sq, rfl, rfl, ⟨a1221, a1223, a1225, a1227, a1229, a1231, a1233, a1235, a1237, a1239, a1241, a1243, a1245, a1247, a1249, a1251, a1253, a1255, a1257, hn60, hl12, hf6, hc60, hs40, hMP, hgy, hfz, hgs, hME, hlk, n_wki_wmy, n_wki_wiw, n_wki_wli, n_wki_wha, n_wki_wem, n_wki_wna, n_wki_wpl, n_wmy_wiw, n_wmy_wli, n_wmy_wha, n_wmy_wem, n_wmy_wna, n_wmy_wpl, n_wiw_wli, n_wiw_wha, n_wiw_wem, n_wiw_wna, n_wiw_wpl, n_wli_wha, n_wli_wem, n_wli_wna, n_wli_wpl, n_wha_wem, n_wha_wna, n_wha_wpl, n_wem_wna, n_wem_wpl, n_wna_wpl, n_wk1_wk2, n_wk1_wk3, n_wk2_wk3⟩⟩ (Nat.le_of_ble_eq_true rfl) (Nat.le_of_ble_eq_true rfl) dX8_set_27
