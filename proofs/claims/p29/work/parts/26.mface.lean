theorem z_tl0 {z : Int32} (h : ¬ z = 0) : ¬ z.toInt64 = 0 := by
  intro q
  apply h
  have q2 : z.toInt64.toInt = (0 : Int64).toInt := by rw [q]
  rw [Int32.toInt_toInt64] at q2
  exact Int32.toInt_inj.mp (by rw [q2]; rfl)
abbrev rmX8_share : Room := { frames := 3, cells := 0, slots := 0, locals := 67 }
set_option maxHeartbeats 4000000 in
set_option maxRecDepth 100000 in
theorem k_X8_share (l : Launch) (D : va_G) (cy : Nat → ClassId) (f : zM) (o : Nat) (wev : Nat) (wnb : Nat) (wki : Nat) (wmy : Nat) (wce : Nat) (wiw : Nat) (wli : Nat) (wha : Nat) (wwt : Nat) (wfy : Nat) (wfk : Nat) (wem : Nat) (wna : Nat) (wpl : Nat) (whs : Nat) (wk1 : Nat) (wk2 : Nat) (wk3 : Nat) (u1 : Int32) (u2 : Int32) (u3 : Int32) (nl : Nat) (nn : Nat) (nf : Nat) (nc : Nat) (lk : Int64) (ks : Nat) (gv : Nat → Int32) (gu : Nat → Int32) (gk : Nat → Int32) (gm : Nat → Int32) (gc : Nat → Int64) (gw : Nat → Int32) (gl : Nat → Int32) (gh : Nat → Int32) (gt : Nat → Int64) (gy : Nat → Int32) (gq : Nat → Int32) (ge1 : Nat → Int32) (gn1 : Nat → Int32) (gp1 : Nat → Int32) (gs : Nat → Int32) (gx1 : Nat → Int32) (gx2 : Nat → Int32) (gx3 : Nat → Int32) (ln : Nat → Nat) (fz : Nat → Nat) (sq : Nat → Nat) (x : Int64) (y : Int64)    (hI : zIM cy f o wev wnb wki wmy wce wiw wli wha wwt wfy wfk wem wna wpl whs wk1 wk2 wk3 u1 u2 u3 nl nn nf nc lk ks gv gu gk gm gc gw gl gh gt gy gq ge1 gn1 gp1 gs gx1 gx2 gx3 ln fz sq) : zCi l D cy yX8_share cX8_share 5 (Option.some Jvm.ClassFile.FieldType.int) rmX8_share [.ref o, .long x, .long y] f (fun (r : Int32) (f1 : zM) => ∃ (u11 : Int32) (u21 : Int32) (u31 : Int32) (nl1 : Nat) (nn1 : Nat) (nf1 : Nat) (nc1 : Nat) (lk1 : Int64) (ks1 : Nat) (gv1 : Nat → Int32) (gu1 : Nat → Int32) (gk1 : Nat → Int32) (gm1 : Nat → Int32) (gc1 : Nat → Int64) (gw1 : Nat → Int32) (gl1 : Nat → Int32) (gh1 : Nat → Int32) (gt1 : Nat → Int64) (gy1 : Nat → Int32) (gq1 : Nat → Int32) (ge11 : Nat → Int32) (gn11 : Nat → Int32) (gp11 : Nat → Int32) (gs1 : Nat → Int32) (gx11 : Nat → Int32) (gx21 : Nat → Int32) (gx31 : Nat → Int32) (ln1 : Nat → Nat) (fz1 : Nat → Nat) (sq1 : Nat → Nat), r = ((q_share nn y).1) ∧ (u11 = (q_share nn y).2.1) ∧ (u21 = (q_share nn y).2.2.1) ∧ (u31 = (q_share nn y).2.2.2) ∧ (gv1 = zEV gv (q_share nn y).2.1) ∧ (nl1 = nl) ∧ (gu1 = gu) ∧ (nn1 = if 0 ≤ r then nn + 1 else nn) ∧ (gk1 = if 0 ≤ r then va_up gk nn 3 else gk) ∧ (ln1 = if 0 ≤ r then va_up ln nn (3) else ln) ∧ (gw1 = if 0 ≤ r then va_up gw nn 0 else gw) ∧ (gh1 = if 0 ≤ r then va_up gh nn (zHash 3 nn (3) (q3 x y (x / y)) gh) else gh) ∧ (zGC nn (0 ≤ r) (3) (q3 x y (x / y)) gc gc1) ∧ (nf1 = nf) ∧ (fz1 = fz) ∧ (gq1 = gq) ∧ (nc1 = nc) ∧ (ge11 = ge1) ∧ (gn11 = gn1) ∧ (gp11 = gp1) ∧ (sq1 = sq) ∧ (ks1 = ks) ∧ (gx11 = gx1) ∧ (gx21 = gx2) ∧ (gx31 = gx3) ∧ (lk1 = lk) ∧ zIM cy f1 o wev wnb wki wmy wce wiw wli wha wwt wfy wfk wem wna wpl whs wk1 wk2 wk3 u11 u21 u31 nl1 nn1 nf1 nc1 lk1 ks1 gv1 gu1 gk1 gm1 gc1 gw1 gl1 gh1 gt1 gy1 gq1 ge11 gn11 gp11 gs1 gx11 gx21 gx31 ln1 fz1 sq1) := by
  intro sz
  refine z_body (by decide +kernel) (Nat.le_of_ble_eq_true rfl) ?_
  intro p e s m below meth c ls C hr hin hsz hz hl
  subst hsz
  have hx := C.1
  have hb := C.2.1
  have hA : ∀ q, s.heap.size ≤ q → zA f s.heap.size q := fun q h => Or.inr h
  have hS : va_S (zA f s.heap.size) s.heap s.heap [] := va_S.rf
  have hl : lv_has ls 5 [(0, .ref o), (1, .long x), (3, .long y)] := hl
  obtain ⟨x_o, x_wev, x_wnb, x_wki, x_wmy, x_wce, x_wiw, x_wli, x_wha, x_wwt, x_wfy, x_wfk, x_wem, x_wna, x_wpl, x_whs, x_wk1, x_wk2, x_wk3, hn60, hl12, hf6, hc60, hs40, hMP, hgy, hfz, hgs, hME, hlk, hgw, hfd, n_wki_wmy, n_wki_wiw, n_wki_wli, n_wki_wha, n_wki_wem, n_wki_wna, n_wki_wpl, n_wmy_wiw, n_wmy_wli, n_wmy_wha, n_wmy_wem, n_wmy_wna, n_wmy_wpl, n_wiw_wli, n_wiw_wha, n_wiw_wem, n_wiw_wna, n_wiw_wpl, n_wli_wha, n_wli_wem, n_wli_wna, n_wli_wpl, n_wha_wem, n_wha_wna, n_wha_wpl, n_wem_wna, n_wem_wpl, n_wna_wpl, n_wk1_wk2, n_wk1_wk3, n_wk2_wk3⟩ := id hI
  refine lv_aload_n hx hb dX8_share_0 rfl (lv_at hl 0 rfl) ?_
  refine z_callVv (As := []) C hz hS hA hl (k_X8_begin l D cy f o wev wnb wki wmy wce wiw wli wha wwt wfy wfk wem wna wpl whs wk1 wk2 wk3 u1 u2 u3 nl nn nf nc lk ks x_o ) zyX8_begin mMX8_116 x_o zl8 rfl rfl (Nat.le_of_ble_eq_true rfl) ⟨Nat.le_of_ble_eq_true rfl, Nat.le_of_ble_eq_true rfl⟩ ⟨Nat.le_of_ble_eq_true rfl, Nat.le_of_ble_eq_true rfl⟩ dX8_share_1 (fun  f1 H locs h2 hz hS => ?_)
  obtain ⟨a3, k4⟩ := h2
  refine lv_aload_n hx hb dX8_share_4 rfl (lv_at hl 0 rfl) ?_
  refine z_get (v := .int (nI nn)) C hz a3 zl8 mFX8_83 (by decide) rfl dX8_share_5 ?_
  refine lv_bipush (v := 60) hx hb dX8_share_8 (by decide) ?_
  refine lv_icmp_ne (tgt := 16) hx hb dX8_share_10 (by decide) (fun c5 => ?_) (fun c5 => ?_)
  · replace c5 : ¬ (nn = 60) := fun h => c5 ((nI_eq (a := nn) (b := 60) (by omega) (by omega)).mpr h)
    have h60 : nn < 60 := by omega
    refine lv_lload_n hx hb dX8_share_16 rfl (lv_at hl 2 rfl) ?_
    refine lv_lconst (v := 0) hx hb dX8_share_17 (by decide) ?_
    refine W.lcmp hx hb dX8_share_18 ?_
    refine lv_if_ne (tgt := 31) hx hb dX8_share_19 (by decide) (fun c6 => ?_) (fun c6 => ?_)
    · have hy0 : ¬ y = 0 := (fun h9 => c6 ((lg_cmp_eq y 0).mpr h9))
      refine lv_aload_n hx hb dX8_share_31 rfl (lv_at hl 0 rfl) ?_
      refine lv_iconst (v := 3) hx hb dX8_share_32 (by decide) ?_
      have a7 : f1 wki = some (.inl (cy 0, 60, .inl gk)) := k4 _ _ x_wki (z_ne x_wki x_o rfl)
      have a8 : f1 wmy = some (.inl (cy 0, 60, .inl gm)) := k4 _ _ x_wmy (z_ne x_wmy x_o rfl)
      refine z_callVv (As := [.int 3]) C hz hS hA hl (k_X8_start l D cy f1 o wev wnb wki wmy wce wiw wli wha wwt wfy wfk wem wna wpl whs wk1 wk2 wk3 0 (-1) 0 nl nn nf nc lk ks gk gm 3 a3 a7 a8 (by omega) n_wki_wmy) zyX8_start mMX8_119 a3 zl8 rfl rfl (Nat.le_of_ble_eq_true rfl) ⟨Nat.le_of_ble_eq_true rfl, Nat.le_of_ble_eq_true rfl⟩ ⟨Nat.le_of_ble_eq_true rfl, Nat.le_of_ble_eq_true rfl⟩ dX8_share_33 (fun  f9 H locs h10 hz hS => ?_)
      obtain ⟨a11, a12, k13⟩ := h10
      refine lv_aload_n hx hb dX8_share_36 rfl (lv_at hl 0 rfl) ?_
      refine lv_lload_n hx hb dX8_share_37 rfl (lv_at hl 1 rfl) ?_
      have a14 : f9 o = some (.inr (8, [.int 0, .int (-1), .int 0, .ref wev, .int (nI nl), .ref wnb, .int (nI nn), .ref wki, .ref wmy, .ref wce, .ref wiw, .ref wli, .ref wha, .ref wwt, .int (nI nf), .ref wfy, .ref wfk, .int (nI nc), .ref wem, .ref wna, .ref wpl, .ref whs, .long lk, .int (nI ks), .ref wk1, .ref wk2, .ref wk3])) := k13 _ _ a3 (z_ne a3 a7 rfl) (z_ne a3 a8 rfl)
      have a15 : f1 wce = some (.inl (cy 1, 960, .inr (.inl gc))) := k4 _ _ x_wce (z_ne x_wce x_o rfl)
      have a16 : f9 wce = some (.inl (cy 1, 960, .inr (.inl gc))) := k13 _ _ a15 (z_ne a15 a7 rfl) (z_ne a15 a8 rfl)
      refine z_callVv (As := [.long x]) C hz hS hA hl (k_X8_part l D cy f9 o wev wnb wki wmy wce wiw wli wha wwt wfy wfk wem wna wpl whs wk1 wk2 wk3 0 (-1) 0 nl nn nf nc lk ks gc (upd gm nn 0) x 0 a14 a16 a12 (by omega) pk_us (by omega)) zyX8_part mMX8_127 a14 zl8 rfl rfl (Nat.le_of_ble_eq_true rfl) ⟨Nat.le_of_ble_eq_true rfl, Nat.le_of_ble_eq_true rfl⟩ ⟨Nat.le_of_ble_eq_true rfl, Nat.le_of_ble_eq_true rfl⟩ dX8_share_38 (fun  f17 H locs h18 hz hS => ?_)
      obtain ⟨a19, a20, k21⟩ := h18
      refine lv_aload_n hx hb dX8_share_41 rfl (lv_at hl 0 rfl) ?_
      refine lv_lload_n hx hb dX8_share_42 rfl (lv_at hl 2 rfl) ?_
      have a22 : f17 o = some (.inr (8, [.int 0, .int (-1), .int 0, .ref wev, .int (nI nl), .ref wnb, .int (nI nn), .ref wki, .ref wmy, .ref wce, .ref wiw, .ref wli, .ref wha, .ref wwt, .int (nI nf), .ref wfy, .ref wfk, .int (nI nc), .ref wem, .ref wna, .ref wpl, .ref whs, .long lk, .int (nI ks), .ref wk1, .ref wk2, .ref wk3])) := k21 _ _ a14 (z_ne a14 a16 rfl) (z_ne a14 a12 rfl)
      refine z_callVv (As := [.long y]) C hz hS hA hl (k_X8_part l D cy f17 o wev wnb wki wmy wce wiw wli wha wwt wfy wfk wem wna wpl whs wk1 wk2 wk3 0 (-1) 0 nl nn nf nc lk ks (vp_updL gc (16 * nn + 0) x) (upd (upd gm nn 0) nn (nI (0 + 1))) y 1 a22 a19 a20 (by omega) pk_us (by omega)) zyX8_part mMX8_127 a22 zl8 rfl rfl (Nat.le_of_ble_eq_true rfl) ⟨Nat.le_of_ble_eq_true rfl, Nat.le_of_ble_eq_true rfl⟩ ⟨Nat.le_of_ble_eq_true rfl, Nat.le_of_ble_eq_true rfl⟩ dX8_share_43 (fun  f23 H locs h24 hz hS => ?_)
      obtain ⟨a25, a26, k27⟩ := h24
      refine lv_aload_n hx hb dX8_share_46 rfl (lv_at hl 0 rfl) ?_
      refine lv_lload_n hx hb dX8_share_47 rfl (lv_at hl 1 rfl) ?_
      refine lv_lload_n hx hb dX8_share_48 rfl (lv_at hl 2 rfl) ?_
      refine lv_ldiv hx hb dX8_share_49 hy0 ?_
      have a28 : f23 o = some (.inr (8, [.int 0, .int (-1), .int 0, .ref wev, .int (nI nl), .ref wnb, .int (nI nn), .ref wki, .ref wmy, .ref wce, .ref wiw, .ref wli, .ref wha, .ref wwt, .int (nI nf), .ref wfy, .ref wfk, .int (nI nc), .ref wem, .ref wna, .ref wpl, .ref whs, .long lk, .int (nI ks), .ref wk1, .ref wk2, .ref wk3])) := k27 _ _ a22 (z_ne a22 a19 rfl) (z_ne a22 a20 rfl)
      refine z_callVv (As := [.long (x / y)]) C hz hS hA hl (k_X8_part l D cy f23 o wev wnb wki wmy wce wiw wli wha wwt wfy wfk wem wna wpl whs wk1 wk2 wk3 0 (-1) 0 nl nn nf nc lk ks (vp_updL (vp_updL gc (16 * nn + 0) x) (16 * nn + 1) y) (upd (upd (upd gm nn 0) nn (nI (0 + 1))) nn (nI (1 + 1))) (x / y) 2 a28 a25 a26 (by omega) pk_us (by omega)) zyX8_part mMX8_127 a28 zl8 rfl rfl (Nat.le_of_ble_eq_true rfl) ⟨Nat.le_of_ble_eq_true rfl, Nat.le_of_ble_eq_true rfl⟩ ⟨Nat.le_of_ble_eq_true rfl, Nat.le_of_ble_eq_true rfl⟩ dX8_share_50 (fun  f29 H locs h30 hz hS => ?_)
      obtain ⟨a31, a32, k33⟩ := h30
      refine lv_aload_n hx hb dX8_share_53 rfl (lv_at hl 0 rfl) ?_
      have a34 : f29 o = some (.inr (8, [.int 0, .int (-1), .int 0, .ref wev, .int (nI nl), .ref wnb, .int (nI nn), .ref wki, .ref wmy, .ref wce, .ref wiw, .ref wli, .ref wha, .ref wwt, .int (nI nf), .ref wfy, .ref wfk, .int (nI nc), .ref wem, .ref wna, .ref wpl, .ref whs, .long lk, .int (nI ks), .ref wk1, .ref wk2, .ref wk3])) := k33 _ _ a28 (z_ne a28 a25 rfl) (z_ne a28 a26 rfl)
      have a35 : f17 wki = some (.inl (cy 0, 60, .inl (upd gk nn 3))) := k21 _ _ a11 (z_ne a11 a16 rfl) n_wki_wmy
      have a36 : f23 wki = some (.inl (cy 0, 60, .inl (upd gk nn 3))) := k27 _ _ a35 (z_ne a35 a19 rfl) n_wki_wmy
      have a37 : f29 wki = some (.inl (cy 0, 60, .inl (upd gk nn 3))) := k33 _ _ a36 (z_ne a36 a25 rfl) n_wki_wmy
      have a38 : f1 wli = some (.inl (cy 0, 60, .inl gl)) := k4 _ _ x_wli (z_ne x_wli x_o rfl)
      have a39 : f9 wli = some (.inl (cy 0, 60, .inl gl)) := k13 _ _ a38 (Ne.symm n_wki_wli) (Ne.symm n_wmy_wli)
      have a40 : f17 wli = some (.inl (cy 0, 60, .inl gl)) := k21 _ _ a39 (z_ne a39 a16 rfl) (Ne.symm n_wmy_wli)
      have a41 : f23 wli = some (.inl (cy 0, 60, .inl gl)) := k27 _ _ a40 (z_ne a40 a19 rfl) (Ne.symm n_wmy_wli)
      have a42 : f29 wli = some (.inl (cy 0, 60, .inl gl)) := k33 _ _ a41 (z_ne a41 a25 rfl) (Ne.symm n_wmy_wli)
      have a43 : f1 wha = some (.inl (cy 0, 60, .inl gh)) := k4 _ _ x_wha (z_ne x_wha x_o rfl)
      have a44 : f9 wha = some (.inl (cy 0, 60, .inl gh)) := k13 _ _ a43 (Ne.symm n_wki_wha) (Ne.symm n_wmy_wha)
      have a45 : f17 wha = some (.inl (cy 0, 60, .inl gh)) := k21 _ _ a44 (z_ne a44 a16 rfl) (Ne.symm n_wmy_wha)
      have a46 : f23 wha = some (.inl (cy 0, 60, .inl gh)) := k27 _ _ a45 (z_ne a45 a19 rfl) (Ne.symm n_wmy_wha)
      have a47 : f29 wha = some (.inl (cy 0, 60, .inl gh)) := k33 _ _ a46 (z_ne a46 a25 rfl) (Ne.symm n_wmy_wha)
      refine z_callVi (As := []) C hz hS hA hl (k_X8_made l D cy f29 o wev wnb wki wmy wce wiw wli wha wwt wfy wfk wem wna wpl whs wk1 wk2 wk3 0 (-1) 0 nl nn nf nc lk ks (upd gk nn 3) (upd (upd (upd (upd gm nn 0) nn (nI (0 + 1))) nn (nI (1 + 1))) nn (nI (2 + 1))) (vp_updL (vp_updL (vp_updL gc (16 * nn + 0) x) (16 * nn + 1) y) (16 * nn + 2) (x / y)) gl gh ln 3 a34 a37 a32 a31 a42 a47 (by omega) (zMP_keep hMP (fun i9 h9 => by simp only [upd, if_neg (show ¬ i9 = nn by omega)]) (fun i9 h9 => by simp only [upd, if_neg (show ¬ i9 = nn by omega)]) (fun i9 h9 j9 h8 => by simp (disch := omega) only [pk_uLn])) pk_us (by omega) (by rw [pk_us]; exact fun h9 => absurd h9 (by decide)) n_wki_wmy n_wki_wli n_wki_wha n_wmy_wli n_wmy_wha n_wli_wha) zyX8_made mMX8_131 a34 zl8 rfl rfl (Nat.le_of_ble_eq_true rfl) ⟨Nat.le_of_ble_eq_true rfl, Nat.le_of_ble_eq_true rfl⟩ ⟨Nat.le_of_ble_eq_true rfl, Nat.le_of_ble_eq_true rfl⟩ dX8_share_54 (fun r f48 H locs h49 hz hS => ?_)
      obtain ⟨gl_50, rfl, a51, a52, a53, k54⟩ := h49
      have a55 : f1 wev = some (.inl (cy 0, 8, .inl gv)) := k4 _ _ x_wev (z_ne x_wev x_o rfl)
      have a56 : f9 wev = some (.inl (cy 0, 8, .inl gv)) := k13 _ _ a55 (z_ne a55 a7 rfl) (z_ne a55 a8 rfl)
      have a57 : f17 wev = some (.inl (cy 0, 8, .inl gv)) := k21 _ _ a56 (z_ne a56 a16 rfl) (z_ne a56 a12 rfl)
      have a58 : f23 wev = some (.inl (cy 0, 8, .inl gv)) := k27 _ _ a57 (z_ne a57 a19 rfl) (z_ne a57 a20 rfl)
      have a59 : f29 wev = some (.inl (cy 0, 8, .inl gv)) := k33 _ _ a58 (z_ne a58 a25 rfl) (z_ne a58 a26 rfl)
      have a60 : f48 wev = some (.inl (cy 0, 8, .inl gv)) := k54 _ _ a59 (z_ne a59 a34 rfl) (z_ne a59 a42 rfl) (z_ne a59 a47 rfl)
      have a61 : f1 wnb = some (.inl (cy 0, 12, .inl gu)) := k4 _ _ x_wnb (z_ne x_wnb x_o rfl)
      have a62 : f9 wnb = some (.inl (cy 0, 12, .inl gu)) := k13 _ _ a61 (z_ne a61 a7 rfl) (z_ne a61 a8 rfl)
      have a63 : f17 wnb = some (.inl (cy 0, 12, .inl gu)) := k21 _ _ a62 (z_ne a62 a16 rfl) (z_ne a62 a12 rfl)
      have a64 : f23 wnb = some (.inl (cy 0, 12, .inl gu)) := k27 _ _ a63 (z_ne a63 a19 rfl) (z_ne a63 a20 rfl)
      have a65 : f29 wnb = some (.inl (cy 0, 12, .inl gu)) := k33 _ _ a64 (z_ne a64 a25 rfl) (z_ne a64 a26 rfl)
      have a66 : f48 wnb = some (.inl (cy 0, 12, .inl gu)) := k54 _ _ a65 (z_ne a65 a34 rfl) (z_ne a65 a42 rfl) (z_ne a65 a47 rfl)
      have a67 : f48 wki = some (.inl (cy 0, 60, .inl (upd gk nn 3))) := k54 _ _ a37 (z_ne a37 a34 rfl) n_wki_wli n_wki_wha
      have a68 : f48 wmy = some (.inl (cy 0, 60, .inl (upd (upd (upd (upd gm nn 0) nn (nI (0 + 1))) nn (nI (1 + 1))) nn (nI (2 + 1))))) := k54 _ _ a32 (z_ne a32 a34 rfl) n_wmy_wli n_wmy_wha
      have a69 : f48 wce = some (.inl (cy 1, 960, .inr (.inl (vp_updL (vp_updL (vp_updL gc (16 * nn + 0) x) (16 * nn + 1) y) (16 * nn + 2) (x / y))))) := k54 _ _ a31 (z_ne a31 a34 rfl) (z_ne a31 a42 rfl) (z_ne a31 a47 rfl)
      have a70 : f1 wiw = some (.inl (cy 2, 60, .inl gw)) := k4 _ _ x_wiw (z_ne x_wiw x_o rfl)
      have a71 : f9 wiw = some (.inl (cy 2, 60, .inl gw)) := k13 _ _ a70 (Ne.symm n_wki_wiw) (Ne.symm n_wmy_wiw)
      have a72 : f17 wiw = some (.inl (cy 2, 60, .inl gw)) := k21 _ _ a71 (z_ne a71 a16 rfl) (Ne.symm n_wmy_wiw)
      have a73 : f23 wiw = some (.inl (cy 2, 60, .inl gw)) := k27 _ _ a72 (z_ne a72 a19 rfl) (Ne.symm n_wmy_wiw)
      have a74 : f29 wiw = some (.inl (cy 2, 60, .inl gw)) := k33 _ _ a73 (z_ne a73 a25 rfl) (Ne.symm n_wmy_wiw)
      have a75 : f48 wiw = some (.inl (cy 2, 60, .inl gw)) := k54 _ _ a74 (z_ne a74 a34 rfl) n_wiw_wli n_wiw_wha
      have a76 : f1 wwt = some (.inl (cy 1, 60, .inr (.inl gt))) := k4 _ _ x_wwt (z_ne x_wwt x_o rfl)
      have a77 : f9 wwt = some (.inl (cy 1, 60, .inr (.inl gt))) := k13 _ _ a76 (z_ne a76 a7 rfl) (z_ne a76 a8 rfl)
      have a78 : f17 wwt = some (.inl (cy 1, 60, .inr (.inl gt))) := k21 _ _ a77 (z_ne a77 a16 rfl) (z_ne a77 a12 rfl)
      have a79 : f23 wwt = some (.inl (cy 1, 60, .inr (.inl gt))) := k27 _ _ a78 (z_ne a78 a19 rfl) (z_ne a78 a20 rfl)
      have a80 : f29 wwt = some (.inl (cy 1, 60, .inr (.inl gt))) := k33 _ _ a79 (z_ne a79 a25 rfl) (z_ne a79 a26 rfl)
      have a81 : f48 wwt = some (.inl (cy 1, 60, .inr (.inl gt))) := k54 _ _ a80 (z_ne a80 a34 rfl) (z_ne a80 a42 rfl) (z_ne a80 a47 rfl)
      have a82 : f1 wfy = some (.inl (cy 0, 6, .inl gy)) := k4 _ _ x_wfy (z_ne x_wfy x_o rfl)
      have a83 : f9 wfy = some (.inl (cy 0, 6, .inl gy)) := k13 _ _ a82 (z_ne a82 a7 rfl) (z_ne a82 a8 rfl)
      have a84 : f17 wfy = some (.inl (cy 0, 6, .inl gy)) := k21 _ _ a83 (z_ne a83 a16 rfl) (z_ne a83 a12 rfl)
      have a85 : f23 wfy = some (.inl (cy 0, 6, .inl gy)) := k27 _ _ a84 (z_ne a84 a19 rfl) (z_ne a84 a20 rfl)
      have a86 : f29 wfy = some (.inl (cy 0, 6, .inl gy)) := k33 _ _ a85 (z_ne a85 a25 rfl) (z_ne a85 a26 rfl)
      have a87 : f48 wfy = some (.inl (cy 0, 6, .inl gy)) := k54 _ _ a86 (z_ne a86 a34 rfl) (z_ne a86 a42 rfl) (z_ne a86 a47 rfl)
      have a88 : f1 wfk = some (.inl (cy 0, 24, .inl gq)) := k4 _ _ x_wfk (z_ne x_wfk x_o rfl)
      have a89 : f9 wfk = some (.inl (cy 0, 24, .inl gq)) := k13 _ _ a88 (z_ne a88 a7 rfl) (z_ne a88 a8 rfl)
      have a90 : f17 wfk = some (.inl (cy 0, 24, .inl gq)) := k21 _ _ a89 (z_ne a89 a16 rfl) (z_ne a89 a12 rfl)
      have a91 : f23 wfk = some (.inl (cy 0, 24, .inl gq)) := k27 _ _ a90 (z_ne a90 a19 rfl) (z_ne a90 a20 rfl)
      have a92 : f29 wfk = some (.inl (cy 0, 24, .inl gq)) := k33 _ _ a91 (z_ne a91 a25 rfl) (z_ne a91 a26 rfl)
      have a93 : f48 wfk = some (.inl (cy 0, 24, .inl gq)) := k54 _ _ a92 (z_ne a92 a34 rfl) (z_ne a92 a42 rfl) (z_ne a92 a47 rfl)
      have a94 : f1 wem = some (.inl (cy 0, 60, .inl ge1)) := k4 _ _ x_wem (z_ne x_wem x_o rfl)
      have a95 : f9 wem = some (.inl (cy 0, 60, .inl ge1)) := k13 _ _ a94 (Ne.symm n_wki_wem) (Ne.symm n_wmy_wem)
      have a96 : f17 wem = some (.inl (cy 0, 60, .inl ge1)) := k21 _ _ a95 (z_ne a95 a16 rfl) (Ne.symm n_wmy_wem)
      have a97 : f23 wem = some (.inl (cy 0, 60, .inl ge1)) := k27 _ _ a96 (z_ne a96 a19 rfl) (Ne.symm n_wmy_wem)
      have a98 : f29 wem = some (.inl (cy 0, 60, .inl ge1)) := k33 _ _ a97 (z_ne a97 a25 rfl) (Ne.symm n_wmy_wem)
      have a99 : f48 wem = some (.inl (cy 0, 60, .inl ge1)) := k54 _ _ a98 (z_ne a98 a34 rfl) (Ne.symm n_wli_wem) (Ne.symm n_wha_wem)
      have a100 : f1 wna = some (.inl (cy 0, 60, .inl gn1)) := k4 _ _ x_wna (z_ne x_wna x_o rfl)
      have a101 : f9 wna = some (.inl (cy 0, 60, .inl gn1)) := k13 _ _ a100 (Ne.symm n_wki_wna) (Ne.symm n_wmy_wna)
      have a102 : f17 wna = some (.inl (cy 0, 60, .inl gn1)) := k21 _ _ a101 (z_ne a101 a16 rfl) (Ne.symm n_wmy_wna)
      have a103 : f23 wna = some (.inl (cy 0, 60, .inl gn1)) := k27 _ _ a102 (z_ne a102 a19 rfl) (Ne.symm n_wmy_wna)
      have a104 : f29 wna = some (.inl (cy 0, 60, .inl gn1)) := k33 _ _ a103 (z_ne a103 a25 rfl) (Ne.symm n_wmy_wna)
      have a105 : f48 wna = some (.inl (cy 0, 60, .inl gn1)) := k54 _ _ a104 (z_ne a104 a34 rfl) (Ne.symm n_wli_wna) (Ne.symm n_wha_wna)
      have a106 : f1 wpl = some (.inl (cy 0, 60, .inl gp1)) := k4 _ _ x_wpl (z_ne x_wpl x_o rfl)
      have a107 : f9 wpl = some (.inl (cy 0, 60, .inl gp1)) := k13 _ _ a106 (Ne.symm n_wki_wpl) (Ne.symm n_wmy_wpl)
      have a108 : f17 wpl = some (.inl (cy 0, 60, .inl gp1)) := k21 _ _ a107 (z_ne a107 a16 rfl) (Ne.symm n_wmy_wpl)
      have a109 : f23 wpl = some (.inl (cy 0, 60, .inl gp1)) := k27 _ _ a108 (z_ne a108 a19 rfl) (Ne.symm n_wmy_wpl)
      have a110 : f29 wpl = some (.inl (cy 0, 60, .inl gp1)) := k33 _ _ a109 (z_ne a109 a25 rfl) (Ne.symm n_wmy_wpl)
      have a111 : f48 wpl = some (.inl (cy 0, 60, .inl gp1)) := k54 _ _ a110 (z_ne a110 a34 rfl) (Ne.symm n_wli_wpl) (Ne.symm n_wha_wpl)
      have a112 : f1 whs = some (.inl (cy 0, 4, .inl gs)) := k4 _ _ x_whs (z_ne x_whs x_o rfl)
      have a113 : f9 whs = some (.inl (cy 0, 4, .inl gs)) := k13 _ _ a112 (z_ne a112 a7 rfl) (z_ne a112 a8 rfl)
      have a114 : f17 whs = some (.inl (cy 0, 4, .inl gs)) := k21 _ _ a113 (z_ne a113 a16 rfl) (z_ne a113 a12 rfl)
      have a115 : f23 whs = some (.inl (cy 0, 4, .inl gs)) := k27 _ _ a114 (z_ne a114 a19 rfl) (z_ne a114 a20 rfl)
      have a116 : f29 whs = some (.inl (cy 0, 4, .inl gs)) := k33 _ _ a115 (z_ne a115 a25 rfl) (z_ne a115 a26 rfl)
      have a117 : f48 whs = some (.inl (cy 0, 4, .inl gs)) := k54 _ _ a116 (z_ne a116 a34 rfl) (z_ne a116 a42 rfl) (z_ne a116 a47 rfl)
      have a118 : f1 wk1 = some (.inl (cy 0, 40, .inl gx1)) := k4 _ _ x_wk1 (z_ne x_wk1 x_o rfl)
      have a119 : f9 wk1 = some (.inl (cy 0, 40, .inl gx1)) := k13 _ _ a118 (z_ne a118 a7 rfl) (z_ne a118 a8 rfl)
      have a120 : f17 wk1 = some (.inl (cy 0, 40, .inl gx1)) := k21 _ _ a119 (z_ne a119 a16 rfl) (z_ne a119 a12 rfl)
      have a121 : f23 wk1 = some (.inl (cy 0, 40, .inl gx1)) := k27 _ _ a120 (z_ne a120 a19 rfl) (z_ne a120 a20 rfl)
      have a122 : f29 wk1 = some (.inl (cy 0, 40, .inl gx1)) := k33 _ _ a121 (z_ne a121 a25 rfl) (z_ne a121 a26 rfl)
      have a123 : f48 wk1 = some (.inl (cy 0, 40, .inl gx1)) := k54 _ _ a122 (z_ne a122 a34 rfl) (z_ne a122 a42 rfl) (z_ne a122 a47 rfl)
      have a124 : f1 wk2 = some (.inl (cy 0, 40, .inl gx2)) := k4 _ _ x_wk2 (z_ne x_wk2 x_o rfl)
      have a125 : f9 wk2 = some (.inl (cy 0, 40, .inl gx2)) := k13 _ _ a124 (z_ne a124 a7 rfl) (z_ne a124 a8 rfl)
      have a126 : f17 wk2 = some (.inl (cy 0, 40, .inl gx2)) := k21 _ _ a125 (z_ne a125 a16 rfl) (z_ne a125 a12 rfl)
      have a127 : f23 wk2 = some (.inl (cy 0, 40, .inl gx2)) := k27 _ _ a126 (z_ne a126 a19 rfl) (z_ne a126 a20 rfl)
      have a128 : f29 wk2 = some (.inl (cy 0, 40, .inl gx2)) := k33 _ _ a127 (z_ne a127 a25 rfl) (z_ne a127 a26 rfl)
      have a129 : f48 wk2 = some (.inl (cy 0, 40, .inl gx2)) := k54 _ _ a128 (z_ne a128 a34 rfl) (z_ne a128 a42 rfl) (z_ne a128 a47 rfl)
      have a130 : f1 wk3 = some (.inl (cy 0, 40, .inl gx3)) := k4 _ _ x_wk3 (z_ne x_wk3 x_o rfl)
      have a131 : f9 wk3 = some (.inl (cy 0, 40, .inl gx3)) := k13 _ _ a130 (z_ne a130 a7 rfl) (z_ne a130 a8 rfl)
      have a132 : f17 wk3 = some (.inl (cy 0, 40, .inl gx3)) := k21 _ _ a131 (z_ne a131 a16 rfl) (z_ne a131 a12 rfl)
      have a133 : f23 wk3 = some (.inl (cy 0, 40, .inl gx3)) := k27 _ _ a132 (z_ne a132 a19 rfl) (z_ne a132 a20 rfl)
      have a134 : f29 wk3 = some (.inl (cy 0, 40, .inl gx3)) := k33 _ _ a133 (z_ne a133 a25 rfl) (z_ne a133 a26 rfl)
      have a135 : f48 wk3 = some (.inl (cy 0, 40, .inl gx3)) := k54 _ _ a134 (z_ne a134 a34 rfl) (z_ne a134 a42 rfl) (z_ne a134 a47 rfl)
      have hgpf : ∀ j, j < 3 → (vp_updL (vp_updL (vp_updL gc (16 * nn + 0) x) (16 * nn + 1) y) (16 * nn + 2) (x / y)) (16 * nn + j) = (q3 x y (x / y)) j := (z_m3 _ _ _ _ _)
      have hgkp : ∀ i, i < nn → ∀ j, j < 16 → (vp_updL (vp_updL (vp_updL gc (16 * nn + 0) x) (16 * nn + 1) y) (16 * nn + 2) (x / y)) (16 * i + j) = gc (16 * i + j) := (fun i9 h9 j9 h8 => by simp (disch := omega) only [pk_uLn])
      have hq : q_share nn y = (nI nn, 0, (-1), 0) := by simp [q_share, h60, hy0, c6]
      exact z_iret C hr rfl hz hS ⟨0, (-1), 0, nl, (nn + 1), nf, nc, lk, ks, gv, gu, (upd gk nn 3), (upd (upd (upd (upd gm nn 0) nn (nI (0 + 1))) nn (nI (1 + 1))) nn (nI (2 + 1))), (vp_updL (vp_updL (vp_updL gc (16 * nn + 0) x) (16 * nn + 1) y) (16 * nn + 2) (x / y)), gw, gl_50, (upd gh nn (zHash ((upd gk nn 3) nn) nn 3 (fun k => (vp_updL (vp_updL (vp_updL gc (16 * nn + 0) x) (16 * nn + 1) y) (16 * nn + 2) (x / y)) (16 * nn + k)) gh)), gt, gy, gq, ge1, gn1, gp1, gs, gx1, gx2, gx3, (va_up ln nn 3), fz, sq, (by rw [hq]), (by rw [hq]), (by rw [hq]), (by rw [hq]), (by rw [hq]; exact (zEV0 gv).symm), rfl, rfl, (by rw [if_pos (nI_pos' (by omega))]), (by rw [if_pos (nI_pos' (by omega))]; exact z_uv _ _ _), (by rw [if_pos (nI_pos' (by omega))]), (by rw [if_pos (nI_pos' (by omega))]; exact z_gw0 hgw), (by rw [if_pos (nI_pos' (by omega))]; exact z_hs1 pk_us rfl hgpf), ⟨hgkp, fun _ => hgpf⟩, rfl, rfl, rfl, rfl, rfl, rfl, rfl, rfl, rfl, rfl, rfl, rfl, rfl, ⟨a51, a60, a66, a67, a68, a69, a75, a52, a53, a81, a87, a93, a99, a105, a111, a117, a123, a129, a135, (by omega), hl12, hf6, hc60, hs40, (zMP_new (zMP_keep hMP (fun i9 h9 => by simp only [upd, if_neg (show ¬ i9 = nn by omega)]) (fun i9 h9 => by simp only [upd, if_neg (show ¬ i9 = nn by omega)]) (fun i9 h9 j9 h8 => by simp (disch := omega) only [pk_uLn])) pk_us (by rw [pk_us]; exact zMP1_of (by omega) (by decide) (by decide) (by decide))), hgy, hfz, hgs, hME, hlk, (fun i9 h9 => hgw i9 (by omega)), hfd, n_wki_wmy, n_wki_wiw, n_wki_wli, n_wki_wha, n_wki_wem, n_wki_wna, n_wki_wpl, n_wmy_wiw, n_wmy_wli, n_wmy_wha, n_wmy_wem, n_wmy_wna, n_wmy_wpl, n_wiw_wli, n_wiw_wha, n_wiw_wem, n_wiw_wna, n_wiw_wpl, n_wli_wha, n_wli_wem, n_wli_wna, n_wli_wpl, n_wha_wem, n_wha_wna, n_wha_wpl, n_wem_wna, n_wem_wpl, n_wna_wpl, n_wk1_wk2, n_wk1_wk3, n_wk2_wk3⟩⟩ (Nat.le_of_ble_eq_true rfl) (Nat.le_of_ble_eq_true rfl) dX8_share_57
    · have hy0 : y = 0 := ((lg_cmp_eq y 0).mp c6)
      refine lv_aload_n hx hb dX8_share_22 rfl (lv_at hl 0 rfl) ?_
      refine lv_bipush (v := 6) hx hb dX8_share_23 (by decide) ?_
      refine lv_iconst (v := 1) hx hb dX8_share_25 (by decide) ?_
      refine lv_iconst (v := 0) hx hb dX8_share_26 (by decide) ?_
      have a136 : f1 wev = some (.inl (cy 0, 8, .inl gv)) := k4 _ _ x_wev (z_ne x_wev x_o rfl)
      refine z_callVi (As := [.int 6, .int 1, .int 0]) C hz hS hA hl (k_X8_fails l D cy f1 o wev wnb wki wmy wce wiw wli wha wwt wfy wfk wem wna wpl whs wk1 wk2 wk3 0 (-1) 0 nl nn nf nc lk ks 6 1 0 gv 6 a3 a136 (by decide) (Nat.le_of_ble_eq_true rfl)) zyX8_fails mMX8_135 a3 zl8 rfl rfl (Nat.le_of_ble_eq_true rfl) ⟨Nat.le_of_ble_eq_true rfl, Nat.le_of_ble_eq_true rfl⟩ ⟨Nat.le_of_ble_eq_true rfl, Nat.le_of_ble_eq_true rfl⟩ dX8_share_27 (fun r f137 H locs h138 hz hS => ?_)
      obtain ⟨rfl, a139, a140, k141⟩ := h138
      have a142 : f1 wnb = some (.inl (cy 0, 12, .inl gu)) := k4 _ _ x_wnb (z_ne x_wnb x_o rfl)
      have a143 : f137 wnb = some (.inl (cy 0, 12, .inl gu)) := k141 _ _ a142 (z_ne a142 a3 rfl) (z_ne a142 a136 rfl)
      have a144 : f1 wki = some (.inl (cy 0, 60, .inl gk)) := k4 _ _ x_wki (z_ne x_wki x_o rfl)
      have a145 : f137 wki = some (.inl (cy 0, 60, .inl gk)) := k141 _ _ a144 (z_ne a144 a3 rfl) (z_ne a144 a136 rfl)
      have a146 : f1 wmy = some (.inl (cy 0, 60, .inl gm)) := k4 _ _ x_wmy (z_ne x_wmy x_o rfl)
      have a147 : f137 wmy = some (.inl (cy 0, 60, .inl gm)) := k141 _ _ a146 (z_ne a146 a3 rfl) (z_ne a146 a136 rfl)
      have a148 : f1 wce = some (.inl (cy 1, 960, .inr (.inl gc))) := k4 _ _ x_wce (z_ne x_wce x_o rfl)
      have a149 : f137 wce = some (.inl (cy 1, 960, .inr (.inl gc))) := k141 _ _ a148 (z_ne a148 a3 rfl) (z_ne a148 a136 rfl)
      have a150 : f1 wiw = some (.inl (cy 2, 60, .inl gw)) := k4 _ _ x_wiw (z_ne x_wiw x_o rfl)
      have a151 : f137 wiw = some (.inl (cy 2, 60, .inl gw)) := k141 _ _ a150 (z_ne a150 a3 rfl) (z_ne a150 a136 rfl)
      have a152 : f1 wli = some (.inl (cy 0, 60, .inl gl)) := k4 _ _ x_wli (z_ne x_wli x_o rfl)
      have a153 : f137 wli = some (.inl (cy 0, 60, .inl gl)) := k141 _ _ a152 (z_ne a152 a3 rfl) (z_ne a152 a136 rfl)
      have a154 : f1 wha = some (.inl (cy 0, 60, .inl gh)) := k4 _ _ x_wha (z_ne x_wha x_o rfl)
      have a155 : f137 wha = some (.inl (cy 0, 60, .inl gh)) := k141 _ _ a154 (z_ne a154 a3 rfl) (z_ne a154 a136 rfl)
      have a156 : f1 wwt = some (.inl (cy 1, 60, .inr (.inl gt))) := k4 _ _ x_wwt (z_ne x_wwt x_o rfl)
      have a157 : f137 wwt = some (.inl (cy 1, 60, .inr (.inl gt))) := k141 _ _ a156 (z_ne a156 a3 rfl) (z_ne a156 a136 rfl)
      have a158 : f1 wfy = some (.inl (cy 0, 6, .inl gy)) := k4 _ _ x_wfy (z_ne x_wfy x_o rfl)
      have a159 : f137 wfy = some (.inl (cy 0, 6, .inl gy)) := k141 _ _ a158 (z_ne a158 a3 rfl) (z_ne a158 a136 rfl)
      have a160 : f1 wfk = some (.inl (cy 0, 24, .inl gq)) := k4 _ _ x_wfk (z_ne x_wfk x_o rfl)
      have a161 : f137 wfk = some (.inl (cy 0, 24, .inl gq)) := k141 _ _ a160 (z_ne a160 a3 rfl) (z_ne a160 a136 rfl)
      have a162 : f1 wem = some (.inl (cy 0, 60, .inl ge1)) := k4 _ _ x_wem (z_ne x_wem x_o rfl)
      have a163 : f137 wem = some (.inl (cy 0, 60, .inl ge1)) := k141 _ _ a162 (z_ne a162 a3 rfl) (z_ne a162 a136 rfl)
      have a164 : f1 wna = some (.inl (cy 0, 60, .inl gn1)) := k4 _ _ x_wna (z_ne x_wna x_o rfl)
      have a165 : f137 wna = some (.inl (cy 0, 60, .inl gn1)) := k141 _ _ a164 (z_ne a164 a3 rfl) (z_ne a164 a136 rfl)
      have a166 : f1 wpl = some (.inl (cy 0, 60, .inl gp1)) := k4 _ _ x_wpl (z_ne x_wpl x_o rfl)
      have a167 : f137 wpl = some (.inl (cy 0, 60, .inl gp1)) := k141 _ _ a166 (z_ne a166 a3 rfl) (z_ne a166 a136 rfl)
      have a168 : f1 whs = some (.inl (cy 0, 4, .inl gs)) := k4 _ _ x_whs (z_ne x_whs x_o rfl)
      have a169 : f137 whs = some (.inl (cy 0, 4, .inl gs)) := k141 _ _ a168 (z_ne a168 a3 rfl) (z_ne a168 a136 rfl)
      have a170 : f1 wk1 = some (.inl (cy 0, 40, .inl gx1)) := k4 _ _ x_wk1 (z_ne x_wk1 x_o rfl)
      have a171 : f137 wk1 = some (.inl (cy 0, 40, .inl gx1)) := k141 _ _ a170 (z_ne a170 a3 rfl) (z_ne a170 a136 rfl)
      have a172 : f1 wk2 = some (.inl (cy 0, 40, .inl gx2)) := k4 _ _ x_wk2 (z_ne x_wk2 x_o rfl)
      have a173 : f137 wk2 = some (.inl (cy 0, 40, .inl gx2)) := k141 _ _ a172 (z_ne a172 a3 rfl) (z_ne a172 a136 rfl)
      have a174 : f1 wk3 = some (.inl (cy 0, 40, .inl gx3)) := k4 _ _ x_wk3 (z_ne x_wk3 x_o rfl)
      have a175 : f137 wk3 = some (.inl (cy 0, 40, .inl gx3)) := k141 _ _ a174 (z_ne a174 a3 rfl) (z_ne a174 a136 rfl)
      have hq : q_share nn y = ((-4), 6, 1, 0) := by simp [q_share, h60, hy0, c6]
      exact z_iret C hr rfl hz hS ⟨6, 1, 0, nl, nn, nf, nc, lk, ks, (upd gv 6 (gv 6 + 1)), gu, gk, gm, gc, gw, gl, gh, gt, gy, gq, ge1, gn1, gp1, gs, gx1, gx2, gx3, ln, fz, sq, (by rw [hq]), (by rw [hq]), (by rw [hq]), (by rw [hq]), (by rw [hq]; exact (zEV6 gv).symm), rfl, rfl, (by rw [if_neg (by decide)]), (by rw [if_neg (by decide)]), (by rw [if_neg (by decide)]), (by rw [if_neg (by decide)]), (by rw [if_neg (by decide)]), (zGC_no (by decide)), rfl, rfl, rfl, rfl, rfl, rfl, rfl, rfl, rfl, rfl, rfl, rfl, rfl, ⟨a139, a140, a143, a145, a147, a149, a151, a153, a155, a157, a159, a161, a163, a165, a167, a169, a171, a173, a175, hn60, hl12, hf6, hc60, hs40, hMP, hgy, hfz, hgs, hME, hlk, hgw, hfd, n_wki_wmy, n_wki_wiw, n_wki_wli, n_wki_wha, n_wki_wem, n_wki_wna, n_wki_wpl, n_wmy_wiw, n_wmy_wli, n_wmy_wha, n_wmy_wem, n_wmy_wna, n_wmy_wpl, n_wiw_wli, n_wiw_wha, n_wiw_wem, n_wiw_wna, n_wiw_wpl, n_wli_wha, n_wli_wem, n_wli_wna, n_wli_wpl, n_wha_wem, n_wha_wna, n_wha_wpl, n_wem_wna, n_wem_wpl, n_wna_wpl, n_wk1_wk2, n_wk1_wk3, n_wk2_wk3⟩⟩ (Nat.le_of_ble_eq_true rfl) (Nat.le_of_ble_eq_true rfl) dX8_share_30
  · replace c5 : (nn = 60) := (nI_eq (a := nn) (b := 60) (by omega) (by omega)).mp c5
    have h60 : ¬ nn < 60 := by omega
    refine lv_bipush (v := (-3)) hx hb dX8_share_13 (by decide) ?_
    have a176 : f1 wev = some (.inl (cy 0, 8, .inl gv)) := k4 _ _ x_wev (z_ne x_wev x_o rfl)
    have a177 : f1 wnb = some (.inl (cy 0, 12, .inl gu)) := k4 _ _ x_wnb (z_ne x_wnb x_o rfl)
    have a178 : f1 wki = some (.inl (cy 0, 60, .inl gk)) := k4 _ _ x_wki (z_ne x_wki x_o rfl)
    have a179 : f1 wmy = some (.inl (cy 0, 60, .inl gm)) := k4 _ _ x_wmy (z_ne x_wmy x_o rfl)
    have a180 : f1 wce = some (.inl (cy 1, 960, .inr (.inl gc))) := k4 _ _ x_wce (z_ne x_wce x_o rfl)
    have a181 : f1 wiw = some (.inl (cy 2, 60, .inl gw)) := k4 _ _ x_wiw (z_ne x_wiw x_o rfl)
    have a182 : f1 wli = some (.inl (cy 0, 60, .inl gl)) := k4 _ _ x_wli (z_ne x_wli x_o rfl)
    have a183 : f1 wha = some (.inl (cy 0, 60, .inl gh)) := k4 _ _ x_wha (z_ne x_wha x_o rfl)
    have a184 : f1 wwt = some (.inl (cy 1, 60, .inr (.inl gt))) := k4 _ _ x_wwt (z_ne x_wwt x_o rfl)
    have a185 : f1 wfy = some (.inl (cy 0, 6, .inl gy)) := k4 _ _ x_wfy (z_ne x_wfy x_o rfl)
    have a186 : f1 wfk = some (.inl (cy 0, 24, .inl gq)) := k4 _ _ x_wfk (z_ne x_wfk x_o rfl)
    have a187 : f1 wem = some (.inl (cy 0, 60, .inl ge1)) := k4 _ _ x_wem (z_ne x_wem x_o rfl)
    have a188 : f1 wna = some (.inl (cy 0, 60, .inl gn1)) := k4 _ _ x_wna (z_ne x_wna x_o rfl)
    have a189 : f1 wpl = some (.inl (cy 0, 60, .inl gp1)) := k4 _ _ x_wpl (z_ne x_wpl x_o rfl)
    have a190 : f1 whs = some (.inl (cy 0, 4, .inl gs)) := k4 _ _ x_whs (z_ne x_whs x_o rfl)
    have a191 : f1 wk1 = some (.inl (cy 0, 40, .inl gx1)) := k4 _ _ x_wk1 (z_ne x_wk1 x_o rfl)
    have a192 : f1 wk2 = some (.inl (cy 0, 40, .inl gx2)) := k4 _ _ x_wk2 (z_ne x_wk2 x_o rfl)
    have a193 : f1 wk3 = some (.inl (cy 0, 40, .inl gx3)) := k4 _ _ x_wk3 (z_ne x_wk3 x_o rfl)
    have hq : q_share nn y = ((-3), 0, (-1), 0) := by simp [q_share, h60]
    exact z_iret C hr rfl hz hS ⟨0, (-1), 0, nl, nn, nf, nc, lk, ks, gv, gu, gk, gm, gc, gw, gl, gh, gt, gy, gq, ge1, gn1, gp1, gs, gx1, gx2, gx3, ln, fz, sq, (by rw [hq]), (by rw [hq]), (by rw [hq]), (by rw [hq]), (by rw [hq]; exact (zEV0 gv).symm), rfl, rfl, (by rw [if_neg (by decide)]), (by rw [if_neg (by decide)]), (by rw [if_neg (by decide)]), (by rw [if_neg (by decide)]), (by rw [if_neg (by decide)]), (zGC_no (by decide)), rfl, rfl, rfl, rfl, rfl, rfl, rfl, rfl, rfl, rfl, rfl, rfl, rfl, ⟨a3, a176, a177, a178, a179, a180, a181, a182, a183, a184, a185, a186, a187, a188, a189, a190, a191, a192, a193, hn60, hl12, hf6, hc60, hs40, hMP, hgy, hfz, hgs, hME, hlk, hgw, hfd, n_wki_wmy, n_wki_wiw, n_wki_wli, n_wki_wha, n_wki_wem, n_wki_wna, n_wki_wpl, n_wmy_wiw, n_wmy_wli, n_wmy_wha, n_wmy_wem, n_wmy_wna, n_wmy_wpl, n_wiw_wli, n_wiw_wha, n_wiw_wem, n_wiw_wna, n_wiw_wpl, n_wli_wha, n_wli_wem, n_wli_wna, n_wli_wpl, n_wha_wem, n_wha_wna, n_wha_wpl, n_wem_wna, n_wem_wpl, n_wna_wpl, n_wk1_wk2, n_wk1_wk3, n_wk2_wk3⟩⟩ (Nat.le_of_ble_eq_true rfl) (Nat.le_of_ble_eq_true rfl) dX8_share_15
abbrev rmX8_wide : Room := { frames := 3, cells := 0, slots := 0, locals := 67 }
set_option maxHeartbeats 4000000 in
set_option maxRecDepth 100000 in
theorem k_X8_wide (l : Launch) (D : va_G) (cy : Nat → ClassId) (f : zM) (o : Nat) (wev : Nat) (wnb : Nat) (wki : Nat) (wmy : Nat) (wce : Nat) (wiw : Nat) (wli : Nat) (wha : Nat) (wwt : Nat) (wfy : Nat) (wfk : Nat) (wem : Nat) (wna : Nat) (wpl : Nat) (whs : Nat) (wk1 : Nat) (wk2 : Nat) (wk3 : Nat) (u1 : Int32) (u2 : Int32) (u3 : Int32) (nl : Nat) (nn : Nat) (nf : Nat) (nc : Nat) (lk : Int64) (ks : Nat) (gv : Nat → Int32) (gu : Nat → Int32) (gk : Nat → Int32) (gm : Nat → Int32) (gc : Nat → Int64) (gw : Nat → Int32) (gl : Nat → Int32) (gh : Nat → Int32) (gt : Nat → Int64) (gy : Nat → Int32) (gq : Nat → Int32) (ge1 : Nat → Int32) (gn1 : Nat → Int32) (gp1 : Nat → Int32) (gs : Nat → Int32) (gx1 : Nat → Int32) (gx2 : Nat → Int32) (gx3 : Nat → Int32) (ln : Nat → Nat) (fz : Nat → Nat) (sq : Nat → Nat) (x : Int32) (y : Int32) (z : Int32)    (hI : zIM cy f o wev wnb wki wmy wce wiw wli wha wwt wfy wfk wem wna wpl whs wk1 wk2 wk3 u1 u2 u3 nl nn nf nc lk ks gv gu gk gm gc gw gl gh gt gy gq ge1 gn1 gp1 gs gx1 gx2 gx3 ln fz sq) : zCi l D cy yX8_wide cX8_wide 4 (Option.some Jvm.ClassFile.FieldType.int) rmX8_wide [.ref o, .int x, .int y, .int z] f (fun (r : Int32) (f1 : zM) => ∃ (u11 : Int32) (u21 : Int32) (u31 : Int32) (nl1 : Nat) (nn1 : Nat) (nf1 : Nat) (nc1 : Nat) (lk1 : Int64) (ks1 : Nat) (gv1 : Nat → Int32) (gu1 : Nat → Int32) (gk1 : Nat → Int32) (gm1 : Nat → Int32) (gc1 : Nat → Int64) (gw1 : Nat → Int32) (gl1 : Nat → Int32) (gh1 : Nat → Int32) (gt1 : Nat → Int64) (gy1 : Nat → Int32) (gq1 : Nat → Int32) (ge11 : Nat → Int32) (gn11 : Nat → Int32) (gp11 : Nat → Int32) (gs1 : Nat → Int32) (gx11 : Nat → Int32) (gx21 : Nat → Int32) (gx31 : Nat → Int32) (ln1 : Nat → Nat) (fz1 : Nat → Nat) (sq1 : Nat → Nat), r = ((q_wide nn x y z).1) ∧ (u11 = (q_wide nn x y z).2.1) ∧ (u21 = (q_wide nn x y z).2.2.1) ∧ (u31 = (q_wide nn x y z).2.2.2) ∧ (gv1 = zEV gv (q_wide nn x y z).2.1) ∧ (nl1 = nl) ∧ (gu1 = gu) ∧ (nn1 = if 0 ≤ r then nn + 1 else nn) ∧ (gk1 = if 0 ≤ r then va_up gk nn 2 else gk) ∧ (ln1 = if 0 ≤ r then va_up ln nn (3) else ln) ∧ (gw1 = if 0 ≤ r then va_up gw nn 0 else gw) ∧ (gh1 = if 0 ≤ r then va_up gh nn (zHash 2 nn (3) (q3 x.toInt64 y.toInt64 z.toInt64) gh) else gh) ∧ (zGC nn (0 ≤ r) (3) (q3 x.toInt64 y.toInt64 z.toInt64) gc gc1) ∧ (nf1 = nf) ∧ (fz1 = fz) ∧ (gq1 = gq) ∧ (nc1 = nc) ∧ (ge11 = ge1) ∧ (gn11 = gn1) ∧ (gp11 = gp1) ∧ (sq1 = sq) ∧ (ks1 = ks) ∧ (gx11 = gx1) ∧ (gx21 = gx2) ∧ (gx31 = gx3) ∧ (lk1 = lk) ∧ zIM cy f1 o wev wnb wki wmy wce wiw wli wha wwt wfy wfk wem wna wpl whs wk1 wk2 wk3 u11 u21 u31 nl1 nn1 nf1 nc1 lk1 ks1 gv1 gu1 gk1 gm1 gc1 gw1 gl1 gh1 gt1 gy1 gq1 ge11 gn11 gp11 gs1 gx11 gx21 gx31 ln1 fz1 sq1) := by
  intro sz
  refine z_body (by decide +kernel) (Nat.le_of_ble_eq_true rfl) ?_
  intro p e s m below meth c ls C hr hin hsz hz hl
  subst hsz
  have hx := C.1
  have hb := C.2.1
  have hA : ∀ q, s.heap.size ≤ q → zA f s.heap.size q := fun q h => Or.inr h
  have hS : va_S (zA f s.heap.size) s.heap s.heap [] := va_S.rf
  have hl : lv_has ls 4 [(0, .ref o), (1, .int x), (2, .int y), (3, .int z)] := hl
  obtain ⟨x_o, x_wev, x_wnb, x_wki, x_wmy, x_wce, x_wiw, x_wli, x_wha, x_wwt, x_wfy, x_wfk, x_wem, x_wna, x_wpl, x_whs, x_wk1, x_wk2, x_wk3, hn60, hl12, hf6, hc60, hs40, hMP, hgy, hfz, hgs, hME, hlk, hgw, hfd, n_wki_wmy, n_wki_wiw, n_wki_wli, n_wki_wha, n_wki_wem, n_wki_wna, n_wki_wpl, n_wmy_wiw, n_wmy_wli, n_wmy_wha, n_wmy_wem, n_wmy_wna, n_wmy_wpl, n_wiw_wli, n_wiw_wha, n_wiw_wem, n_wiw_wna, n_wiw_wpl, n_wli_wha, n_wli_wem, n_wli_wna, n_wli_wpl, n_wha_wem, n_wha_wna, n_wha_wpl, n_wem_wna, n_wem_wpl, n_wna_wpl, n_wk1_wk2, n_wk1_wk3, n_wk2_wk3⟩ := id hI
  refine lv_aload_n hx hb dX8_wide_0 rfl (lv_at hl 0 rfl) ?_
  refine z_callVv (As := []) C hz hS hA hl (k_X8_begin l D cy f o wev wnb wki wmy wce wiw wli wha wwt wfy wfk wem wna wpl whs wk1 wk2 wk3 u1 u2 u3 nl nn nf nc lk ks x_o ) zyX8_begin mMX8_116 x_o zl8 rfl rfl (Nat.le_of_ble_eq_true rfl) ⟨Nat.le_of_ble_eq_true rfl, Nat.le_of_ble_eq_true rfl⟩ ⟨Nat.le_of_ble_eq_true rfl, Nat.le_of_ble_eq_true rfl⟩ dX8_wide_1 (fun  f1 H locs h2 hz hS => ?_)
  obtain ⟨a3, k4⟩ := h2
  refine lv_aload_n hx hb dX8_wide_4 rfl (lv_at hl 0 rfl) ?_
  refine z_get (v := .int (nI nn)) C hz a3 zl8 mFX8_83 (by decide) rfl dX8_wide_5 ?_
  refine lv_bipush (v := 60) hx hb dX8_wide_8 (by decide) ?_
  refine lv_icmp_ne (tgt := 16) hx hb dX8_wide_10 (by decide) (fun c5 => ?_) (fun c5 => ?_)
  · replace c5 : ¬ (nn = 60) := fun h => c5 ((nI_eq (a := nn) (b := 60) (by omega) (by omega)).mpr h)
    have h60 : nn < 60 := by omega
    refine lv_iload_n hx hb dX8_wide_16 rfl (lv_at hl 1 rfl) ?_
    refine lv_iload_n hx hb dX8_wide_17 rfl (lv_at hl 2 rfl) ?_
    refine lv_icmp_le (tgt := 30) hx hb dX8_wide_18 (by decide) (fun c6 => ?_) (fun c6 => ?_)
    · refine lv_iload_n hx hb dX8_wide_30 rfl (lv_at hl 3 rfl) ?_
      refine lv_if_ne (tgt := 43) hx hb dX8_wide_31 (by decide) (fun c7 => ?_) (fun c7 => ?_)
      · have hz0 := c7
        refine lv_iload_n hx hb dX8_wide_43 rfl (lv_at hl 2 rfl) ?_
        refine lv_iload_n hx hb dX8_wide_44 rfl (lv_at hl 1 rfl) ?_
        refine lv_isub hx hb dX8_wide_45 ?_
        refine lv_iload_n hx hb dX8_wide_46 rfl (lv_at hl 3 rfl) ?_
        refine lv_irem hx hb dX8_wide_47 c7 ?_
        refine lv_if_eq (tgt := 60) hx hb dX8_wide_48 (by decide) (fun c8 => ?_) (fun c8 => ?_)
        · refine lv_aload_n hx hb dX8_wide_60 rfl (lv_at hl 0 rfl) ?_
          refine lv_iconst (v := 2) hx hb dX8_wide_61 (by decide) ?_
          have a9 : f1 wki = some (.inl (cy 0, 60, .inl gk)) := k4 _ _ x_wki (z_ne x_wki x_o rfl)
          have a10 : f1 wmy = some (.inl (cy 0, 60, .inl gm)) := k4 _ _ x_wmy (z_ne x_wmy x_o rfl)
          refine z_callVv (As := [.int 2]) C hz hS hA hl (k_X8_start l D cy f1 o wev wnb wki wmy wce wiw wli wha wwt wfy wfk wem wna wpl whs wk1 wk2 wk3 0 (-1) 0 nl nn nf nc lk ks gk gm 2 a3 a9 a10 (by omega) n_wki_wmy) zyX8_start mMX8_119 a3 zl8 rfl rfl (Nat.le_of_ble_eq_true rfl) ⟨Nat.le_of_ble_eq_true rfl, Nat.le_of_ble_eq_true rfl⟩ ⟨Nat.le_of_ble_eq_true rfl, Nat.le_of_ble_eq_true rfl⟩ dX8_wide_62 (fun  f11 H locs h12 hz hS => ?_)
          obtain ⟨a13, a14, k15⟩ := h12
          refine lv_aload_n hx hb dX8_wide_65 rfl (lv_at hl 0 rfl) ?_
          refine lv_iload_n hx hb dX8_wide_66 rfl (lv_at hl 1 rfl) ?_
          refine lv_i2l (v := x.toInt64) hx hb dX8_wide_67 rfl ?_
          have a16 : f11 o = some (.inr (8, [.int 0, .int (-1), .int 0, .ref wev, .int (nI nl), .ref wnb, .int (nI nn), .ref wki, .ref wmy, .ref wce, .ref wiw, .ref wli, .ref wha, .ref wwt, .int (nI nf), .ref wfy, .ref wfk, .int (nI nc), .ref wem, .ref wna, .ref wpl, .ref whs, .long lk, .int (nI ks), .ref wk1, .ref wk2, .ref wk3])) := k15 _ _ a3 (z_ne a3 a9 rfl) (z_ne a3 a10 rfl)
          have a17 : f1 wce = some (.inl (cy 1, 960, .inr (.inl gc))) := k4 _ _ x_wce (z_ne x_wce x_o rfl)
          have a18 : f11 wce = some (.inl (cy 1, 960, .inr (.inl gc))) := k15 _ _ a17 (z_ne a17 a9 rfl) (z_ne a17 a10 rfl)
          refine z_callVv (As := [.long x.toInt64]) C hz hS hA hl (k_X8_part l D cy f11 o wev wnb wki wmy wce wiw wli wha wwt wfy wfk wem wna wpl whs wk1 wk2 wk3 0 (-1) 0 nl nn nf nc lk ks gc (upd gm nn 0) x.toInt64 0 a16 a18 a14 (by omega) pk_us (by omega)) zyX8_part mMX8_127 a16 zl8 rfl rfl (Nat.le_of_ble_eq_true rfl) ⟨Nat.le_of_ble_eq_true rfl, Nat.le_of_ble_eq_true rfl⟩ ⟨Nat.le_of_ble_eq_true rfl, Nat.le_of_ble_eq_true rfl⟩ dX8_wide_68 (fun  f19 H locs h20 hz hS => ?_)
          obtain ⟨a21, a22, k23⟩ := h20
          refine lv_aload_n hx hb dX8_wide_71 rfl (lv_at hl 0 rfl) ?_
          refine lv_iload_n hx hb dX8_wide_72 rfl (lv_at hl 2 rfl) ?_
          refine lv_i2l (v := y.toInt64) hx hb dX8_wide_73 rfl ?_
          have a24 : f19 o = some (.inr (8, [.int 0, .int (-1), .int 0, .ref wev, .int (nI nl), .ref wnb, .int (nI nn), .ref wki, .ref wmy, .ref wce, .ref wiw, .ref wli, .ref wha, .ref wwt, .int (nI nf), .ref wfy, .ref wfk, .int (nI nc), .ref wem, .ref wna, .ref wpl, .ref whs, .long lk, .int (nI ks), .ref wk1, .ref wk2, .ref wk3])) := k23 _ _ a16 (z_ne a16 a18 rfl) (z_ne a16 a14 rfl)
          refine z_callVv (As := [.long y.toInt64]) C hz hS hA hl (k_X8_part l D cy f19 o wev wnb wki wmy wce wiw wli wha wwt wfy wfk wem wna wpl whs wk1 wk2 wk3 0 (-1) 0 nl nn nf nc lk ks (vp_updL gc (16 * nn + 0) x.toInt64) (upd (upd gm nn 0) nn (nI (0 + 1))) y.toInt64 1 a24 a21 a22 (by omega) pk_us (by omega)) zyX8_part mMX8_127 a24 zl8 rfl rfl (Nat.le_of_ble_eq_true rfl) ⟨Nat.le_of_ble_eq_true rfl, Nat.le_of_ble_eq_true rfl⟩ ⟨Nat.le_of_ble_eq_true rfl, Nat.le_of_ble_eq_true rfl⟩ dX8_wide_74 (fun  f25 H locs h26 hz hS => ?_)
          obtain ⟨a27, a28, k29⟩ := h26
          refine lv_aload_n hx hb dX8_wide_77 rfl (lv_at hl 0 rfl) ?_
          refine lv_iload_n hx hb dX8_wide_78 rfl (lv_at hl 3 rfl) ?_
          refine lv_i2l (v := z.toInt64) hx hb dX8_wide_79 rfl ?_
          have a30 : f25 o = some (.inr (8, [.int 0, .int (-1), .int 0, .ref wev, .int (nI nl), .ref wnb, .int (nI nn), .ref wki, .ref wmy, .ref wce, .ref wiw, .ref wli, .ref wha, .ref wwt, .int (nI nf), .ref wfy, .ref wfk, .int (nI nc), .ref wem, .ref wna, .ref wpl, .ref whs, .long lk, .int (nI ks), .ref wk1, .ref wk2, .ref wk3])) := k29 _ _ a24 (z_ne a24 a21 rfl) (z_ne a24 a22 rfl)
          refine z_callVv (As := [.long z.toInt64]) C hz hS hA hl (k_X8_part l D cy f25 o wev wnb wki wmy wce wiw wli wha wwt wfy wfk wem wna wpl whs wk1 wk2 wk3 0 (-1) 0 nl nn nf nc lk ks (vp_updL (vp_updL gc (16 * nn + 0) x.toInt64) (16 * nn + 1) y.toInt64) (upd (upd (upd gm nn 0) nn (nI (0 + 1))) nn (nI (1 + 1))) z.toInt64 2 a30 a27 a28 (by omega) pk_us (by omega)) zyX8_part mMX8_127 a30 zl8 rfl rfl (Nat.le_of_ble_eq_true rfl) ⟨Nat.le_of_ble_eq_true rfl, Nat.le_of_ble_eq_true rfl⟩ ⟨Nat.le_of_ble_eq_true rfl, Nat.le_of_ble_eq_true rfl⟩ dX8_wide_80 (fun  f31 H locs h32 hz hS => ?_)
          obtain ⟨a33, a34, k35⟩ := h32
          refine lv_aload_n hx hb dX8_wide_83 rfl (lv_at hl 0 rfl) ?_
          have a36 : f31 o = some (.inr (8, [.int 0, .int (-1), .int 0, .ref wev, .int (nI nl), .ref wnb, .int (nI nn), .ref wki, .ref wmy, .ref wce, .ref wiw, .ref wli, .ref wha, .ref wwt, .int (nI nf), .ref wfy, .ref wfk, .int (nI nc), .ref wem, .ref wna, .ref wpl, .ref whs, .long lk, .int (nI ks), .ref wk1, .ref wk2, .ref wk3])) := k35 _ _ a30 (z_ne a30 a27 rfl) (z_ne a30 a28 rfl)
          have a37 : f19 wki = some (.inl (cy 0, 60, .inl (upd gk nn 2))) := k23 _ _ a13 (z_ne a13 a18 rfl) n_wki_wmy
          have a38 : f25 wki = some (.inl (cy 0, 60, .inl (upd gk nn 2))) := k29 _ _ a37 (z_ne a37 a21 rfl) n_wki_wmy
          have a39 : f31 wki = some (.inl (cy 0, 60, .inl (upd gk nn 2))) := k35 _ _ a38 (z_ne a38 a27 rfl) n_wki_wmy
          have a40 : f1 wli = some (.inl (cy 0, 60, .inl gl)) := k4 _ _ x_wli (z_ne x_wli x_o rfl)
          have a41 : f11 wli = some (.inl (cy 0, 60, .inl gl)) := k15 _ _ a40 (Ne.symm n_wki_wli) (Ne.symm n_wmy_wli)
          have a42 : f19 wli = some (.inl (cy 0, 60, .inl gl)) := k23 _ _ a41 (z_ne a41 a18 rfl) (Ne.symm n_wmy_wli)
          have a43 : f25 wli = some (.inl (cy 0, 60, .inl gl)) := k29 _ _ a42 (z_ne a42 a21 rfl) (Ne.symm n_wmy_wli)
          have a44 : f31 wli = some (.inl (cy 0, 60, .inl gl)) := k35 _ _ a43 (z_ne a43 a27 rfl) (Ne.symm n_wmy_wli)
          have a45 : f1 wha = some (.inl (cy 0, 60, .inl gh)) := k4 _ _ x_wha (z_ne x_wha x_o rfl)
          have a46 : f11 wha = some (.inl (cy 0, 60, .inl gh)) := k15 _ _ a45 (Ne.symm n_wki_wha) (Ne.symm n_wmy_wha)
          have a47 : f19 wha = some (.inl (cy 0, 60, .inl gh)) := k23 _ _ a46 (z_ne a46 a18 rfl) (Ne.symm n_wmy_wha)
          have a48 : f25 wha = some (.inl (cy 0, 60, .inl gh)) := k29 _ _ a47 (z_ne a47 a21 rfl) (Ne.symm n_wmy_wha)
          have a49 : f31 wha = some (.inl (cy 0, 60, .inl gh)) := k35 _ _ a48 (z_ne a48 a27 rfl) (Ne.symm n_wmy_wha)
          refine z_callVi (As := []) C hz hS hA hl (k_X8_made l D cy f31 o wev wnb wki wmy wce wiw wli wha wwt wfy wfk wem wna wpl whs wk1 wk2 wk3 0 (-1) 0 nl nn nf nc lk ks (upd gk nn 2) (upd (upd (upd (upd gm nn 0) nn (nI (0 + 1))) nn (nI (1 + 1))) nn (nI (2 + 1))) (vp_updL (vp_updL (vp_updL gc (16 * nn + 0) x.toInt64) (16 * nn + 1) y.toInt64) (16 * nn + 2) z.toInt64) gl gh ln 3 a36 a39 a34 a33 a44 a49 (by omega) (zMP_keep hMP (fun i9 h9 => by simp only [upd, if_neg (show ¬ i9 = nn by omega)]) (fun i9 h9 => by simp only [upd, if_neg (show ¬ i9 = nn by omega)]) (fun i9 h9 j9 h8 => by simp (disch := omega) only [pk_uLn])) pk_us (by omega) (by rw [pk_us]; exact fun h9 => absurd h9 (by decide)) n_wki_wmy n_wki_wli n_wki_wha n_wmy_wli n_wmy_wha n_wli_wha) zyX8_made mMX8_131 a36 zl8 rfl rfl (Nat.le_of_ble_eq_true rfl) ⟨Nat.le_of_ble_eq_true rfl, Nat.le_of_ble_eq_true rfl⟩ ⟨Nat.le_of_ble_eq_true rfl, Nat.le_of_ble_eq_true rfl⟩ dX8_wide_84 (fun r f50 H locs h51 hz hS => ?_)
          obtain ⟨gl_52, rfl, a53, a54, a55, k56⟩ := h51
          have a57 : f1 wev = some (.inl (cy 0, 8, .inl gv)) := k4 _ _ x_wev (z_ne x_wev x_o rfl)
          have a58 : f11 wev = some (.inl (cy 0, 8, .inl gv)) := k15 _ _ a57 (z_ne a57 a9 rfl) (z_ne a57 a10 rfl)
          have a59 : f19 wev = some (.inl (cy 0, 8, .inl gv)) := k23 _ _ a58 (z_ne a58 a18 rfl) (z_ne a58 a14 rfl)
          have a60 : f25 wev = some (.inl (cy 0, 8, .inl gv)) := k29 _ _ a59 (z_ne a59 a21 rfl) (z_ne a59 a22 rfl)
          have a61 : f31 wev = some (.inl (cy 0, 8, .inl gv)) := k35 _ _ a60 (z_ne a60 a27 rfl) (z_ne a60 a28 rfl)
          have a62 : f50 wev = some (.inl (cy 0, 8, .inl gv)) := k56 _ _ a61 (z_ne a61 a36 rfl) (z_ne a61 a44 rfl) (z_ne a61 a49 rfl)
          have a63 : f1 wnb = some (.inl (cy 0, 12, .inl gu)) := k4 _ _ x_wnb (z_ne x_wnb x_o rfl)
          have a64 : f11 wnb = some (.inl (cy 0, 12, .inl gu)) := k15 _ _ a63 (z_ne a63 a9 rfl) (z_ne a63 a10 rfl)
          have a65 : f19 wnb = some (.inl (cy 0, 12, .inl gu)) := k23 _ _ a64 (z_ne a64 a18 rfl) (z_ne a64 a14 rfl)
          have a66 : f25 wnb = some (.inl (cy 0, 12, .inl gu)) := k29 _ _ a65 (z_ne a65 a21 rfl) (z_ne a65 a22 rfl)
          have a67 : f31 wnb = some (.inl (cy 0, 12, .inl gu)) := k35 _ _ a66 (z_ne a66 a27 rfl) (z_ne a66 a28 rfl)
          have a68 : f50 wnb = some (.inl (cy 0, 12, .inl gu)) := k56 _ _ a67 (z_ne a67 a36 rfl) (z_ne a67 a44 rfl) (z_ne a67 a49 rfl)
          have a69 : f50 wki = some (.inl (cy 0, 60, .inl (upd gk nn 2))) := k56 _ _ a39 (z_ne a39 a36 rfl) n_wki_wli n_wki_wha
          have a70 : f50 wmy = some (.inl (cy 0, 60, .inl (upd (upd (upd (upd gm nn 0) nn (nI (0 + 1))) nn (nI (1 + 1))) nn (nI (2 + 1))))) := k56 _ _ a34 (z_ne a34 a36 rfl) n_wmy_wli n_wmy_wha
          have a71 : f50 wce = some (.inl (cy 1, 960, .inr (.inl (vp_updL (vp_updL (vp_updL gc (16 * nn + 0) x.toInt64) (16 * nn + 1) y.toInt64) (16 * nn + 2) z.toInt64)))) := k56 _ _ a33 (z_ne a33 a36 rfl) (z_ne a33 a44 rfl) (z_ne a33 a49 rfl)
          have a72 : f1 wiw = some (.inl (cy 2, 60, .inl gw)) := k4 _ _ x_wiw (z_ne x_wiw x_o rfl)
          have a73 : f11 wiw = some (.inl (cy 2, 60, .inl gw)) := k15 _ _ a72 (Ne.symm n_wki_wiw) (Ne.symm n_wmy_wiw)
          have a74 : f19 wiw = some (.inl (cy 2, 60, .inl gw)) := k23 _ _ a73 (z_ne a73 a18 rfl) (Ne.symm n_wmy_wiw)
          have a75 : f25 wiw = some (.inl (cy 2, 60, .inl gw)) := k29 _ _ a74 (z_ne a74 a21 rfl) (Ne.symm n_wmy_wiw)
          have a76 : f31 wiw = some (.inl (cy 2, 60, .inl gw)) := k35 _ _ a75 (z_ne a75 a27 rfl) (Ne.symm n_wmy_wiw)
          have a77 : f50 wiw = some (.inl (cy 2, 60, .inl gw)) := k56 _ _ a76 (z_ne a76 a36 rfl) n_wiw_wli n_wiw_wha
          have a78 : f1 wwt = some (.inl (cy 1, 60, .inr (.inl gt))) := k4 _ _ x_wwt (z_ne x_wwt x_o rfl)
          have a79 : f11 wwt = some (.inl (cy 1, 60, .inr (.inl gt))) := k15 _ _ a78 (z_ne a78 a9 rfl) (z_ne a78 a10 rfl)
          have a80 : f19 wwt = some (.inl (cy 1, 60, .inr (.inl gt))) := k23 _ _ a79 (z_ne a79 a18 rfl) (z_ne a79 a14 rfl)
          have a81 : f25 wwt = some (.inl (cy 1, 60, .inr (.inl gt))) := k29 _ _ a80 (z_ne a80 a21 rfl) (z_ne a80 a22 rfl)
          have a82 : f31 wwt = some (.inl (cy 1, 60, .inr (.inl gt))) := k35 _ _ a81 (z_ne a81 a27 rfl) (z_ne a81 a28 rfl)
          have a83 : f50 wwt = some (.inl (cy 1, 60, .inr (.inl gt))) := k56 _ _ a82 (z_ne a82 a36 rfl) (z_ne a82 a44 rfl) (z_ne a82 a49 rfl)
          have a84 : f1 wfy = some (.inl (cy 0, 6, .inl gy)) := k4 _ _ x_wfy (z_ne x_wfy x_o rfl)
          have a85 : f11 wfy = some (.inl (cy 0, 6, .inl gy)) := k15 _ _ a84 (z_ne a84 a9 rfl) (z_ne a84 a10 rfl)
          have a86 : f19 wfy = some (.inl (cy 0, 6, .inl gy)) := k23 _ _ a85 (z_ne a85 a18 rfl) (z_ne a85 a14 rfl)
          have a87 : f25 wfy = some (.inl (cy 0, 6, .inl gy)) := k29 _ _ a86 (z_ne a86 a21 rfl) (z_ne a86 a22 rfl)
          have a88 : f31 wfy = some (.inl (cy 0, 6, .inl gy)) := k35 _ _ a87 (z_ne a87 a27 rfl) (z_ne a87 a28 rfl)
          have a89 : f50 wfy = some (.inl (cy 0, 6, .inl gy)) := k56 _ _ a88 (z_ne a88 a36 rfl) (z_ne a88 a44 rfl) (z_ne a88 a49 rfl)
          have a90 : f1 wfk = some (.inl (cy 0, 24, .inl gq)) := k4 _ _ x_wfk (z_ne x_wfk x_o rfl)
          have a91 : f11 wfk = some (.inl (cy 0, 24, .inl gq)) := k15 _ _ a90 (z_ne a90 a9 rfl) (z_ne a90 a10 rfl)
          have a92 : f19 wfk = some (.inl (cy 0, 24, .inl gq)) := k23 _ _ a91 (z_ne a91 a18 rfl) (z_ne a91 a14 rfl)
          have a93 : f25 wfk = some (.inl (cy 0, 24, .inl gq)) := k29 _ _ a92 (z_ne a92 a21 rfl) (z_ne a92 a22 rfl)
          have a94 : f31 wfk = some (.inl (cy 0, 24, .inl gq)) := k35 _ _ a93 (z_ne a93 a27 rfl) (z_ne a93 a28 rfl)
          have a95 : f50 wfk = some (.inl (cy 0, 24, .inl gq)) := k56 _ _ a94 (z_ne a94 a36 rfl) (z_ne a94 a44 rfl) (z_ne a94 a49 rfl)
          have a96 : f1 wem = some (.inl (cy 0, 60, .inl ge1)) := k4 _ _ x_wem (z_ne x_wem x_o rfl)
          have a97 : f11 wem = some (.inl (cy 0, 60, .inl ge1)) := k15 _ _ a96 (Ne.symm n_wki_wem) (Ne.symm n_wmy_wem)
          have a98 : f19 wem = some (.inl (cy 0, 60, .inl ge1)) := k23 _ _ a97 (z_ne a97 a18 rfl) (Ne.symm n_wmy_wem)
          have a99 : f25 wem = some (.inl (cy 0, 60, .inl ge1)) := k29 _ _ a98 (z_ne a98 a21 rfl) (Ne.symm n_wmy_wem)
          have a100 : f31 wem = some (.inl (cy 0, 60, .inl ge1)) := k35 _ _ a99 (z_ne a99 a27 rfl) (Ne.symm n_wmy_wem)
          have a101 : f50 wem = some (.inl (cy 0, 60, .inl ge1)) := k56 _ _ a100 (z_ne a100 a36 rfl) (Ne.symm n_wli_wem) (Ne.symm n_wha_wem)
          have a102 : f1 wna = some (.inl (cy 0, 60, .inl gn1)) := k4 _ _ x_wna (z_ne x_wna x_o rfl)
          have a103 : f11 wna = some (.inl (cy 0, 60, .inl gn1)) := k15 _ _ a102 (Ne.symm n_wki_wna) (Ne.symm n_wmy_wna)
          have a104 : f19 wna = some (.inl (cy 0, 60, .inl gn1)) := k23 _ _ a103 (z_ne a103 a18 rfl) (Ne.symm n_wmy_wna)
          have a105 : f25 wna = some (.inl (cy 0, 60, .inl gn1)) := k29 _ _ a104 (z_ne a104 a21 rfl) (Ne.symm n_wmy_wna)
          have a106 : f31 wna = some (.inl (cy 0, 60, .inl gn1)) := k35 _ _ a105 (z_ne a105 a27 rfl) (Ne.symm n_wmy_wna)
          have a107 : f50 wna = some (.inl (cy 0, 60, .inl gn1)) := k56 _ _ a106 (z_ne a106 a36 rfl) (Ne.symm n_wli_wna) (Ne.symm n_wha_wna)
          have a108 : f1 wpl = some (.inl (cy 0, 60, .inl gp1)) := k4 _ _ x_wpl (z_ne x_wpl x_o rfl)
          have a109 : f11 wpl = some (.inl (cy 0, 60, .inl gp1)) := k15 _ _ a108 (Ne.symm n_wki_wpl) (Ne.symm n_wmy_wpl)
          have a110 : f19 wpl = some (.inl (cy 0, 60, .inl gp1)) := k23 _ _ a109 (z_ne a109 a18 rfl) (Ne.symm n_wmy_wpl)
          have a111 : f25 wpl = some (.inl (cy 0, 60, .inl gp1)) := k29 _ _ a110 (z_ne a110 a21 rfl) (Ne.symm n_wmy_wpl)
          have a112 : f31 wpl = some (.inl (cy 0, 60, .inl gp1)) := k35 _ _ a111 (z_ne a111 a27 rfl) (Ne.symm n_wmy_wpl)
          have a113 : f50 wpl = some (.inl (cy 0, 60, .inl gp1)) := k56 _ _ a112 (z_ne a112 a36 rfl) (Ne.symm n_wli_wpl) (Ne.symm n_wha_wpl)
          have a114 : f1 whs = some (.inl (cy 0, 4, .inl gs)) := k4 _ _ x_whs (z_ne x_whs x_o rfl)
          have a115 : f11 whs = some (.inl (cy 0, 4, .inl gs)) := k15 _ _ a114 (z_ne a114 a9 rfl) (z_ne a114 a10 rfl)
          have a116 : f19 whs = some (.inl (cy 0, 4, .inl gs)) := k23 _ _ a115 (z_ne a115 a18 rfl) (z_ne a115 a14 rfl)
          have a117 : f25 whs = some (.inl (cy 0, 4, .inl gs)) := k29 _ _ a116 (z_ne a116 a21 rfl) (z_ne a116 a22 rfl)
          have a118 : f31 whs = some (.inl (cy 0, 4, .inl gs)) := k35 _ _ a117 (z_ne a117 a27 rfl) (z_ne a117 a28 rfl)
          have a119 : f50 whs = some (.inl (cy 0, 4, .inl gs)) := k56 _ _ a118 (z_ne a118 a36 rfl) (z_ne a118 a44 rfl) (z_ne a118 a49 rfl)
          have a120 : f1 wk1 = some (.inl (cy 0, 40, .inl gx1)) := k4 _ _ x_wk1 (z_ne x_wk1 x_o rfl)
          have a121 : f11 wk1 = some (.inl (cy 0, 40, .inl gx1)) := k15 _ _ a120 (z_ne a120 a9 rfl) (z_ne a120 a10 rfl)
          have a122 : f19 wk1 = some (.inl (cy 0, 40, .inl gx1)) := k23 _ _ a121 (z_ne a121 a18 rfl) (z_ne a121 a14 rfl)
          have a123 : f25 wk1 = some (.inl (cy 0, 40, .inl gx1)) := k29 _ _ a122 (z_ne a122 a21 rfl) (z_ne a122 a22 rfl)
          have a124 : f31 wk1 = some (.inl (cy 0, 40, .inl gx1)) := k35 _ _ a123 (z_ne a123 a27 rfl) (z_ne a123 a28 rfl)
          have a125 : f50 wk1 = some (.inl (cy 0, 40, .inl gx1)) := k56 _ _ a124 (z_ne a124 a36 rfl) (z_ne a124 a44 rfl) (z_ne a124 a49 rfl)
          have a126 : f1 wk2 = some (.inl (cy 0, 40, .inl gx2)) := k4 _ _ x_wk2 (z_ne x_wk2 x_o rfl)
          have a127 : f11 wk2 = some (.inl (cy 0, 40, .inl gx2)) := k15 _ _ a126 (z_ne a126 a9 rfl) (z_ne a126 a10 rfl)
          have a128 : f19 wk2 = some (.inl (cy 0, 40, .inl gx2)) := k23 _ _ a127 (z_ne a127 a18 rfl) (z_ne a127 a14 rfl)
          have a129 : f25 wk2 = some (.inl (cy 0, 40, .inl gx2)) := k29 _ _ a128 (z_ne a128 a21 rfl) (z_ne a128 a22 rfl)
          have a130 : f31 wk2 = some (.inl (cy 0, 40, .inl gx2)) := k35 _ _ a129 (z_ne a129 a27 rfl) (z_ne a129 a28 rfl)
          have a131 : f50 wk2 = some (.inl (cy 0, 40, .inl gx2)) := k56 _ _ a130 (z_ne a130 a36 rfl) (z_ne a130 a44 rfl) (z_ne a130 a49 rfl)
          have a132 : f1 wk3 = some (.inl (cy 0, 40, .inl gx3)) := k4 _ _ x_wk3 (z_ne x_wk3 x_o rfl)
          have a133 : f11 wk3 = some (.inl (cy 0, 40, .inl gx3)) := k15 _ _ a132 (z_ne a132 a9 rfl) (z_ne a132 a10 rfl)
          have a134 : f19 wk3 = some (.inl (cy 0, 40, .inl gx3)) := k23 _ _ a133 (z_ne a133 a18 rfl) (z_ne a133 a14 rfl)
          have a135 : f25 wk3 = some (.inl (cy 0, 40, .inl gx3)) := k29 _ _ a134 (z_ne a134 a21 rfl) (z_ne a134 a22 rfl)
          have a136 : f31 wk3 = some (.inl (cy 0, 40, .inl gx3)) := k35 _ _ a135 (z_ne a135 a27 rfl) (z_ne a135 a28 rfl)
          have a137 : f50 wk3 = some (.inl (cy 0, 40, .inl gx3)) := k56 _ _ a136 (z_ne a136 a36 rfl) (z_ne a136 a44 rfl) (z_ne a136 a49 rfl)
          have hgpf : ∀ j, j < 3 → (vp_updL (vp_updL (vp_updL gc (16 * nn + 0) x.toInt64) (16 * nn + 1) y.toInt64) (16 * nn + 2) z.toInt64) (16 * nn + j) = (q3 x.toInt64 y.toInt64 z.toInt64) j := (z_m3 _ _ _ _ _)
          have hgkp : ∀ i, i < nn → ∀ j, j < 16 → (vp_updL (vp_updL (vp_updL gc (16 * nn + 0) x.toInt64) (16 * nn + 1) y.toInt64) (16 * nn + 2) z.toInt64) (16 * i + j) = gc (16 * i + j) := (fun i9 h9 j9 h8 => by simp (disch := omega) only [pk_uLn])
          have hq : q_wide nn x y z = (nI nn, 0, (-1), 0) := by simp [q_wide, h60, c6, c7, c8]
          exact z_iret C hr rfl hz hS ⟨0, (-1), 0, nl, (nn + 1), nf, nc, lk, ks, gv, gu, (upd gk nn 2), (upd (upd (upd (upd gm nn 0) nn (nI (0 + 1))) nn (nI (1 + 1))) nn (nI (2 + 1))), (vp_updL (vp_updL (vp_updL gc (16 * nn + 0) x.toInt64) (16 * nn + 1) y.toInt64) (16 * nn + 2) z.toInt64), gw, gl_52, (upd gh nn (zHash ((upd gk nn 2) nn) nn 3 (fun k => (vp_updL (vp_updL (vp_updL gc (16 * nn + 0) x.toInt64) (16 * nn + 1) y.toInt64) (16 * nn + 2) z.toInt64) (16 * nn + k)) gh)), gt, gy, gq, ge1, gn1, gp1, gs, gx1, gx2, gx3, (va_up ln nn 3), fz, sq, (by rw [hq]), (by rw [hq]), (by rw [hq]), (by rw [hq]), (by rw [hq]; exact (zEV0 gv).symm), rfl, rfl, (by rw [if_pos (nI_pos' (by omega))]), (by rw [if_pos (nI_pos' (by omega))]; exact z_uv _ _ _), (by rw [if_pos (nI_pos' (by omega))]), (by rw [if_pos (nI_pos' (by omega))]; exact z_gw0 hgw), (by rw [if_pos (nI_pos' (by omega))]; exact z_hs1 pk_us rfl hgpf), ⟨hgkp, fun _ => hgpf⟩, rfl, rfl, rfl, rfl, rfl, rfl, rfl, rfl, rfl, rfl, rfl, rfl, rfl, ⟨a53, a62, a68, a69, a70, a71, a77, a54, a55, a83, a89, a95, a101, a107, a113, a119, a125, a131, a137, (by omega), hl12, hf6, hc60, hs40, (zMP_new (zMP_keep hMP (fun i9 h9 => by simp only [upd, if_neg (show ¬ i9 = nn by omega)]) (fun i9 h9 => by simp only [upd, if_neg (show ¬ i9 = nn by omega)]) (fun i9 h9 j9 h8 => by simp (disch := omega) only [pk_uLn])) pk_us (by rw [pk_us]; exact ⟨by omega, fun h9 => absurd h9 (by decide), fun _ => by rw [show 16 * nn + (1 + 1) = 16 * nn + 2 from rfl, pk_uLs]; exact z_tl0 hz0, fun h9 => absurd h9 (by decide)⟩)), hgy, hfz, hgs, hME, hlk, (fun i9 h9 => hgw i9 (by omega)), hfd, n_wki_wmy, n_wki_wiw, n_wki_wli, n_wki_wha, n_wki_wem, n_wki_wna, n_wki_wpl, n_wmy_wiw, n_wmy_wli, n_wmy_wha, n_wmy_wem, n_wmy_wna, n_wmy_wpl, n_wiw_wli, n_wiw_wha, n_wiw_wem, n_wiw_wna, n_wiw_wpl, n_wli_wha, n_wli_wem, n_wli_wna, n_wli_wpl, n_wha_wem, n_wha_wna, n_wha_wpl, n_wem_wna, n_wem_wpl, n_wna_wpl, n_wk1_wk2, n_wk1_wk3, n_wk2_wk3⟩⟩ (Nat.le_of_ble_eq_true rfl) (Nat.le_of_ble_eq_true rfl) dX8_wide_87
        · refine lv_aload_n hx hb dX8_wide_51 rfl (lv_at hl 0 rfl) ?_
          refine lv_bipush (v := 7) hx hb dX8_wide_52 (by decide) ?_
          refine lv_iconst (v := 2) hx hb dX8_wide_54 (by decide) ?_
          refine lv_iconst (v := 2) hx hb dX8_wide_55 (by decide) ?_
          have a138 : f1 wev = some (.inl (cy 0, 8, .inl gv)) := k4 _ _ x_wev (z_ne x_wev x_o rfl)
          refine z_callVi (As := [.int 7, .int 2, .int 2]) C hz hS hA hl (k_X8_fails l D cy f1 o wev wnb wki wmy wce wiw wli wha wwt wfy wfk wem wna wpl whs wk1 wk2 wk3 0 (-1) 0 nl nn nf nc lk ks 7 2 2 gv 7 a3 a138 (by decide) (Nat.le_of_ble_eq_true rfl)) zyX8_fails mMX8_135 a3 zl8 rfl rfl (Nat.le_of_ble_eq_true rfl) ⟨Nat.le_of_ble_eq_true rfl, Nat.le_of_ble_eq_true rfl⟩ ⟨Nat.le_of_ble_eq_true rfl, Nat.le_of_ble_eq_true rfl⟩ dX8_wide_56 (fun r f139 H locs h140 hz hS => ?_)
          obtain ⟨rfl, a141, a142, k143⟩ := h140
          have a144 : f1 wnb = some (.inl (cy 0, 12, .inl gu)) := k4 _ _ x_wnb (z_ne x_wnb x_o rfl)
          have a145 : f139 wnb = some (.inl (cy 0, 12, .inl gu)) := k143 _ _ a144 (z_ne a144 a3 rfl) (z_ne a144 a138 rfl)
          have a146 : f1 wki = some (.inl (cy 0, 60, .inl gk)) := k4 _ _ x_wki (z_ne x_wki x_o rfl)
          have a147 : f139 wki = some (.inl (cy 0, 60, .inl gk)) := k143 _ _ a146 (z_ne a146 a3 rfl) (z_ne a146 a138 rfl)
          have a148 : f1 wmy = some (.inl (cy 0, 60, .inl gm)) := k4 _ _ x_wmy (z_ne x_wmy x_o rfl)
          have a149 : f139 wmy = some (.inl (cy 0, 60, .inl gm)) := k143 _ _ a148 (z_ne a148 a3 rfl) (z_ne a148 a138 rfl)
          have a150 : f1 wce = some (.inl (cy 1, 960, .inr (.inl gc))) := k4 _ _ x_wce (z_ne x_wce x_o rfl)
          have a151 : f139 wce = some (.inl (cy 1, 960, .inr (.inl gc))) := k143 _ _ a150 (z_ne a150 a3 rfl) (z_ne a150 a138 rfl)
          have a152 : f1 wiw = some (.inl (cy 2, 60, .inl gw)) := k4 _ _ x_wiw (z_ne x_wiw x_o rfl)
          have a153 : f139 wiw = some (.inl (cy 2, 60, .inl gw)) := k143 _ _ a152 (z_ne a152 a3 rfl) (z_ne a152 a138 rfl)
          have a154 : f1 wli = some (.inl (cy 0, 60, .inl gl)) := k4 _ _ x_wli (z_ne x_wli x_o rfl)
          have a155 : f139 wli = some (.inl (cy 0, 60, .inl gl)) := k143 _ _ a154 (z_ne a154 a3 rfl) (z_ne a154 a138 rfl)
          have a156 : f1 wha = some (.inl (cy 0, 60, .inl gh)) := k4 _ _ x_wha (z_ne x_wha x_o rfl)
          have a157 : f139 wha = some (.inl (cy 0, 60, .inl gh)) := k143 _ _ a156 (z_ne a156 a3 rfl) (z_ne a156 a138 rfl)
          have a158 : f1 wwt = some (.inl (cy 1, 60, .inr (.inl gt))) := k4 _ _ x_wwt (z_ne x_wwt x_o rfl)
          have a159 : f139 wwt = some (.inl (cy 1, 60, .inr (.inl gt))) := k143 _ _ a158 (z_ne a158 a3 rfl) (z_ne a158 a138 rfl)
          have a160 : f1 wfy = some (.inl (cy 0, 6, .inl gy)) := k4 _ _ x_wfy (z_ne x_wfy x_o rfl)
          have a161 : f139 wfy = some (.inl (cy 0, 6, .inl gy)) := k143 _ _ a160 (z_ne a160 a3 rfl) (z_ne a160 a138 rfl)
          have a162 : f1 wfk = some (.inl (cy 0, 24, .inl gq)) := k4 _ _ x_wfk (z_ne x_wfk x_o rfl)
          have a163 : f139 wfk = some (.inl (cy 0, 24, .inl gq)) := k143 _ _ a162 (z_ne a162 a3 rfl) (z_ne a162 a138 rfl)
          have a164 : f1 wem = some (.inl (cy 0, 60, .inl ge1)) := k4 _ _ x_wem (z_ne x_wem x_o rfl)
          have a165 : f139 wem = some (.inl (cy 0, 60, .inl ge1)) := k143 _ _ a164 (z_ne a164 a3 rfl) (z_ne a164 a138 rfl)
          have a166 : f1 wna = some (.inl (cy 0, 60, .inl gn1)) := k4 _ _ x_wna (z_ne x_wna x_o rfl)
          have a167 : f139 wna = some (.inl (cy 0, 60, .inl gn1)) := k143 _ _ a166 (z_ne a166 a3 rfl) (z_ne a166 a138 rfl)
          have a168 : f1 wpl = some (.inl (cy 0, 60, .inl gp1)) := k4 _ _ x_wpl (z_ne x_wpl x_o rfl)
          have a169 : f139 wpl = some (.inl (cy 0, 60, .inl gp1)) := k143 _ _ a168 (z_ne a168 a3 rfl) (z_ne a168 a138 rfl)
          have a170 : f1 whs = some (.inl (cy 0, 4, .inl gs)) := k4 _ _ x_whs (z_ne x_whs x_o rfl)
          have a171 : f139 whs = some (.inl (cy 0, 4, .inl gs)) := k143 _ _ a170 (z_ne a170 a3 rfl) (z_ne a170 a138 rfl)
          have a172 : f1 wk1 = some (.inl (cy 0, 40, .inl gx1)) := k4 _ _ x_wk1 (z_ne x_wk1 x_o rfl)
          have a173 : f139 wk1 = some (.inl (cy 0, 40, .inl gx1)) := k143 _ _ a172 (z_ne a172 a3 rfl) (z_ne a172 a138 rfl)
          have a174 : f1 wk2 = some (.inl (cy 0, 40, .inl gx2)) := k4 _ _ x_wk2 (z_ne x_wk2 x_o rfl)
          have a175 : f139 wk2 = some (.inl (cy 0, 40, .inl gx2)) := k143 _ _ a174 (z_ne a174 a3 rfl) (z_ne a174 a138 rfl)
          have a176 : f1 wk3 = some (.inl (cy 0, 40, .inl gx3)) := k4 _ _ x_wk3 (z_ne x_wk3 x_o rfl)
          have a177 : f139 wk3 = some (.inl (cy 0, 40, .inl gx3)) := k143 _ _ a176 (z_ne a176 a3 rfl) (z_ne a176 a138 rfl)
          have hq : q_wide nn x y z = ((-4), 7, 2, 2) := by simp [q_wide, h60, c6, c7, c8]
          exact z_iret C hr rfl hz hS ⟨7, 2, 2, nl, nn, nf, nc, lk, ks, (upd gv 7 (gv 7 + 1)), gu, gk, gm, gc, gw, gl, gh, gt, gy, gq, ge1, gn1, gp1, gs, gx1, gx2, gx3, ln, fz, sq, (by rw [hq]), (by rw [hq]), (by rw [hq]), (by rw [hq]), (by rw [hq]; exact (zEV7 gv).symm), rfl, rfl, (by rw [if_neg (by decide)]), (by rw [if_neg (by decide)]), (by rw [if_neg (by decide)]), (by rw [if_neg (by decide)]), (by rw [if_neg (by decide)]), (zGC_no (by decide)), rfl, rfl, rfl, rfl, rfl, rfl, rfl, rfl, rfl, rfl, rfl, rfl, rfl, ⟨a141, a142, a145, a147, a149, a151, a153, a155, a157, a159, a161, a163, a165, a167, a169, a171, a173, a175, a177, hn60, hl12, hf6, hc60, hs40, hMP, hgy, hfz, hgs, hME, hlk, hgw, hfd, n_wki_wmy, n_wki_wiw, n_wki_wli, n_wki_wha, n_wki_wem, n_wki_wna, n_wki_wpl, n_wmy_wiw, n_wmy_wli, n_wmy_wha, n_wmy_wem, n_wmy_wna, n_wmy_wpl, n_wiw_wli, n_wiw_wha, n_wiw_wem, n_wiw_wna, n_wiw_wpl, n_wli_wha, n_wli_wem, n_wli_wna, n_wli_wpl, n_wha_wem, n_wha_wna, n_wha_wpl, n_wem_wna, n_wem_wpl, n_wna_wpl, n_wk1_wk2, n_wk1_wk3, n_wk2_wk3⟩⟩ (Nat.le_of_ble_eq_true rfl) (Nat.le_of_ble_eq_true rfl) dX8_wide_59
      · refine lv_aload_n hx hb dX8_wide_34 rfl (lv_at hl 0 rfl) ?_
        refine lv_bipush (v := 6) hx hb dX8_wide_35 (by decide) ?_
        refine lv_iconst (v := 2) hx hb dX8_wide_37 (by decide) ?_
        refine lv_iconst (v := 0) hx hb dX8_wide_38 (by decide) ?_
        have a178 : f1 wev = some (.inl (cy 0, 8, .inl gv)) := k4 _ _ x_wev (z_ne x_wev x_o rfl)
        refine z_callVi (As := [.int 6, .int 2, .int 0]) C hz hS hA hl (k_X8_fails l D cy f1 o wev wnb wki wmy wce wiw wli wha wwt wfy wfk wem wna wpl whs wk1 wk2 wk3 0 (-1) 0 nl nn nf nc lk ks 6 2 0 gv 6 a3 a178 (by decide) (Nat.le_of_ble_eq_true rfl)) zyX8_fails mMX8_135 a3 zl8 rfl rfl (Nat.le_of_ble_eq_true rfl) ⟨Nat.le_of_ble_eq_true rfl, Nat.le_of_ble_eq_true rfl⟩ ⟨Nat.le_of_ble_eq_true rfl, Nat.le_of_ble_eq_true rfl⟩ dX8_wide_39 (fun r f179 H locs h180 hz hS => ?_)
        obtain ⟨rfl, a181, a182, k183⟩ := h180
        have a184 : f1 wnb = some (.inl (cy 0, 12, .inl gu)) := k4 _ _ x_wnb (z_ne x_wnb x_o rfl)
        have a185 : f179 wnb = some (.inl (cy 0, 12, .inl gu)) := k183 _ _ a184 (z_ne a184 a3 rfl) (z_ne a184 a178 rfl)
        have a186 : f1 wki = some (.inl (cy 0, 60, .inl gk)) := k4 _ _ x_wki (z_ne x_wki x_o rfl)
        have a187 : f179 wki = some (.inl (cy 0, 60, .inl gk)) := k183 _ _ a186 (z_ne a186 a3 rfl) (z_ne a186 a178 rfl)
        have a188 : f1 wmy = some (.inl (cy 0, 60, .inl gm)) := k4 _ _ x_wmy (z_ne x_wmy x_o rfl)
        have a189 : f179 wmy = some (.inl (cy 0, 60, .inl gm)) := k183 _ _ a188 (z_ne a188 a3 rfl) (z_ne a188 a178 rfl)
        have a190 : f1 wce = some (.inl (cy 1, 960, .inr (.inl gc))) := k4 _ _ x_wce (z_ne x_wce x_o rfl)
        have a191 : f179 wce = some (.inl (cy 1, 960, .inr (.inl gc))) := k183 _ _ a190 (z_ne a190 a3 rfl) (z_ne a190 a178 rfl)
        have a192 : f1 wiw = some (.inl (cy 2, 60, .inl gw)) := k4 _ _ x_wiw (z_ne x_wiw x_o rfl)
        have a193 : f179 wiw = some (.inl (cy 2, 60, .inl gw)) := k183 _ _ a192 (z_ne a192 a3 rfl) (z_ne a192 a178 rfl)
        have a194 : f1 wli = some (.inl (cy 0, 60, .inl gl)) := k4 _ _ x_wli (z_ne x_wli x_o rfl)
        have a195 : f179 wli = some (.inl (cy 0, 60, .inl gl)) := k183 _ _ a194 (z_ne a194 a3 rfl) (z_ne a194 a178 rfl)
        have a196 : f1 wha = some (.inl (cy 0, 60, .inl gh)) := k4 _ _ x_wha (z_ne x_wha x_o rfl)
        have a197 : f179 wha = some (.inl (cy 0, 60, .inl gh)) := k183 _ _ a196 (z_ne a196 a3 rfl) (z_ne a196 a178 rfl)
        have a198 : f1 wwt = some (.inl (cy 1, 60, .inr (.inl gt))) := k4 _ _ x_wwt (z_ne x_wwt x_o rfl)
        have a199 : f179 wwt = some (.inl (cy 1, 60, .inr (.inl gt))) := k183 _ _ a198 (z_ne a198 a3 rfl) (z_ne a198 a178 rfl)
        have a200 : f1 wfy = some (.inl (cy 0, 6, .inl gy)) := k4 _ _ x_wfy (z_ne x_wfy x_o rfl)
        have a201 : f179 wfy = some (.inl (cy 0, 6, .inl gy)) := k183 _ _ a200 (z_ne a200 a3 rfl) (z_ne a200 a178 rfl)
        have a202 : f1 wfk = some (.inl (cy 0, 24, .inl gq)) := k4 _ _ x_wfk (z_ne x_wfk x_o rfl)
        have a203 : f179 wfk = some (.inl (cy 0, 24, .inl gq)) := k183 _ _ a202 (z_ne a202 a3 rfl) (z_ne a202 a178 rfl)
        have a204 : f1 wem = some (.inl (cy 0, 60, .inl ge1)) := k4 _ _ x_wem (z_ne x_wem x_o rfl)
        have a205 : f179 wem = some (.inl (cy 0, 60, .inl ge1)) := k183 _ _ a204 (z_ne a204 a3 rfl) (z_ne a204 a178 rfl)
        have a206 : f1 wna = some (.inl (cy 0, 60, .inl gn1)) := k4 _ _ x_wna (z_ne x_wna x_o rfl)
        have a207 : f179 wna = some (.inl (cy 0, 60, .inl gn1)) := k183 _ _ a206 (z_ne a206 a3 rfl) (z_ne a206 a178 rfl)
        have a208 : f1 wpl = some (.inl (cy 0, 60, .inl gp1)) := k4 _ _ x_wpl (z_ne x_wpl x_o rfl)
        have a209 : f179 wpl = some (.inl (cy 0, 60, .inl gp1)) := k183 _ _ a208 (z_ne a208 a3 rfl) (z_ne a208 a178 rfl)
        have a210 : f1 whs = some (.inl (cy 0, 4, .inl gs)) := k4 _ _ x_whs (z_ne x_whs x_o rfl)
        have a211 : f179 whs = some (.inl (cy 0, 4, .inl gs)) := k183 _ _ a210 (z_ne a210 a3 rfl) (z_ne a210 a178 rfl)
        have a212 : f1 wk1 = some (.inl (cy 0, 40, .inl gx1)) := k4 _ _ x_wk1 (z_ne x_wk1 x_o rfl)
        have a213 : f179 wk1 = some (.inl (cy 0, 40, .inl gx1)) := k183 _ _ a212 (z_ne a212 a3 rfl) (z_ne a212 a178 rfl)
        have a214 : f1 wk2 = some (.inl (cy 0, 40, .inl gx2)) := k4 _ _ x_wk2 (z_ne x_wk2 x_o rfl)
        have a215 : f179 wk2 = some (.inl (cy 0, 40, .inl gx2)) := k183 _ _ a214 (z_ne a214 a3 rfl) (z_ne a214 a178 rfl)
        have a216 : f1 wk3 = some (.inl (cy 0, 40, .inl gx3)) := k4 _ _ x_wk3 (z_ne x_wk3 x_o rfl)
        have a217 : f179 wk3 = some (.inl (cy 0, 40, .inl gx3)) := k183 _ _ a216 (z_ne a216 a3 rfl) (z_ne a216 a178 rfl)
        have hq : q_wide nn x y z = ((-4), 6, 2, 0) := by simp [q_wide, h60, c6, c7]
        exact z_iret C hr rfl hz hS ⟨6, 2, 0, nl, nn, nf, nc, lk, ks, (upd gv 6 (gv 6 + 1)), gu, gk, gm, gc, gw, gl, gh, gt, gy, gq, ge1, gn1, gp1, gs, gx1, gx2, gx3, ln, fz, sq, (by rw [hq]), (by rw [hq]), (by rw [hq]), (by rw [hq]), (by rw [hq]; exact (zEV6 gv).symm), rfl, rfl, (by rw [if_neg (by decide)]), (by rw [if_neg (by decide)]), (by rw [if_neg (by decide)]), (by rw [if_neg (by decide)]), (by rw [if_neg (by decide)]), (zGC_no (by decide)), rfl, rfl, rfl, rfl, rfl, rfl, rfl, rfl, rfl, rfl, rfl, rfl, rfl, ⟨a181, a182, a185, a187, a189, a191, a193, a195, a197, a199, a201, a203, a205, a207, a209, a211, a213, a215, a217, hn60, hl12, hf6, hc60, hs40, hMP, hgy, hfz, hgs, hME, hlk, hgw, hfd, n_wki_wmy, n_wki_wiw, n_wki_wli, n_wki_wha, n_wki_wem, n_wki_wna, n_wki_wpl, n_wmy_wiw, n_wmy_wli, n_wmy_wha, n_wmy_wem, n_wmy_wna, n_wmy_wpl, n_wiw_wli, n_wiw_wha, n_wiw_wem, n_wiw_wna, n_wiw_wpl, n_wli_wha, n_wli_wem, n_wli_wna, n_wli_wpl, n_wha_wem, n_wha_wna, n_wha_wpl, n_wem_wna, n_wem_wpl, n_wna_wpl, n_wk1_wk2, n_wk1_wk3, n_wk2_wk3⟩⟩ (Nat.le_of_ble_eq_true rfl) (Nat.le_of_ble_eq_true rfl) dX8_wide_42
    · refine lv_aload_n hx hb dX8_wide_21 rfl (lv_at hl 0 rfl) ?_
      refine lv_bipush (v := 7) hx hb dX8_wide_22 (by decide) ?_
      refine lv_iconst (v := 1) hx hb dX8_wide_24 (by decide) ?_
      refine lv_iconst (v := 1) hx hb dX8_wide_25 (by decide) ?_
      have a218 : f1 wev = some (.inl (cy 0, 8, .inl gv)) := k4 _ _ x_wev (z_ne x_wev x_o rfl)
      refine z_callVi (As := [.int 7, .int 1, .int 1]) C hz hS hA hl (k_X8_fails l D cy f1 o wev wnb wki wmy wce wiw wli wha wwt wfy wfk wem wna wpl whs wk1 wk2 wk3 0 (-1) 0 nl nn nf nc lk ks 7 1 1 gv 7 a3 a218 (by decide) (Nat.le_of_ble_eq_true rfl)) zyX8_fails mMX8_135 a3 zl8 rfl rfl (Nat.le_of_ble_eq_true rfl) ⟨Nat.le_of_ble_eq_true rfl, Nat.le_of_ble_eq_true rfl⟩ ⟨Nat.le_of_ble_eq_true rfl, Nat.le_of_ble_eq_true rfl⟩ dX8_wide_26 (fun r f219 H locs h220 hz hS => ?_)
      obtain ⟨rfl, a221, a222, k223⟩ := h220
      have a224 : f1 wnb = some (.inl (cy 0, 12, .inl gu)) := k4 _ _ x_wnb (z_ne x_wnb x_o rfl)
      have a225 : f219 wnb = some (.inl (cy 0, 12, .inl gu)) := k223 _ _ a224 (z_ne a224 a3 rfl) (z_ne a224 a218 rfl)
      have a226 : f1 wki = some (.inl (cy 0, 60, .inl gk)) := k4 _ _ x_wki (z_ne x_wki x_o rfl)
      have a227 : f219 wki = some (.inl (cy 0, 60, .inl gk)) := k223 _ _ a226 (z_ne a226 a3 rfl) (z_ne a226 a218 rfl)
      have a228 : f1 wmy = some (.inl (cy 0, 60, .inl gm)) := k4 _ _ x_wmy (z_ne x_wmy x_o rfl)
      have a229 : f219 wmy = some (.inl (cy 0, 60, .inl gm)) := k223 _ _ a228 (z_ne a228 a3 rfl) (z_ne a228 a218 rfl)
      have a230 : f1 wce = some (.inl (cy 1, 960, .inr (.inl gc))) := k4 _ _ x_wce (z_ne x_wce x_o rfl)
      have a231 : f219 wce = some (.inl (cy 1, 960, .inr (.inl gc))) := k223 _ _ a230 (z_ne a230 a3 rfl) (z_ne a230 a218 rfl)
      have a232 : f1 wiw = some (.inl (cy 2, 60, .inl gw)) := k4 _ _ x_wiw (z_ne x_wiw x_o rfl)
      have a233 : f219 wiw = some (.inl (cy 2, 60, .inl gw)) := k223 _ _ a232 (z_ne a232 a3 rfl) (z_ne a232 a218 rfl)
      have a234 : f1 wli = some (.inl (cy 0, 60, .inl gl)) := k4 _ _ x_wli (z_ne x_wli x_o rfl)
      have a235 : f219 wli = some (.inl (cy 0, 60, .inl gl)) := k223 _ _ a234 (z_ne a234 a3 rfl) (z_ne a234 a218 rfl)
      have a236 : f1 wha = some (.inl (cy 0, 60, .inl gh)) := k4 _ _ x_wha (z_ne x_wha x_o rfl)
      have a237 : f219 wha = some (.inl (cy 0, 60, .inl gh)) := k223 _ _ a236 (z_ne a236 a3 rfl) (z_ne a236 a218 rfl)
      have a238 : f1 wwt = some (.inl (cy 1, 60, .inr (.inl gt))) := k4 _ _ x_wwt (z_ne x_wwt x_o rfl)
      have a239 : f219 wwt = some (.inl (cy 1, 60, .inr (.inl gt))) := k223 _ _ a238 (z_ne a238 a3 rfl) (z_ne a238 a218 rfl)
      have a240 : f1 wfy = some (.inl (cy 0, 6, .inl gy)) := k4 _ _ x_wfy (z_ne x_wfy x_o rfl)
      have a241 : f219 wfy = some (.inl (cy 0, 6, .inl gy)) := k223 _ _ a240 (z_ne a240 a3 rfl) (z_ne a240 a218 rfl)
      have a242 : f1 wfk = some (.inl (cy 0, 24, .inl gq)) := k4 _ _ x_wfk (z_ne x_wfk x_o rfl)
      have a243 : f219 wfk = some (.inl (cy 0, 24, .inl gq)) := k223 _ _ a242 (z_ne a242 a3 rfl) (z_ne a242 a218 rfl)
      have a244 : f1 wem = some (.inl (cy 0, 60, .inl ge1)) := k4 _ _ x_wem (z_ne x_wem x_o rfl)
      have a245 : f219 wem = some (.inl (cy 0, 60, .inl ge1)) := k223 _ _ a244 (z_ne a244 a3 rfl) (z_ne a244 a218 rfl)
      have a246 : f1 wna = some (.inl (cy 0, 60, .inl gn1)) := k4 _ _ x_wna (z_ne x_wna x_o rfl)
      have a247 : f219 wna = some (.inl (cy 0, 60, .inl gn1)) := k223 _ _ a246 (z_ne a246 a3 rfl) (z_ne a246 a218 rfl)
      have a248 : f1 wpl = some (.inl (cy 0, 60, .inl gp1)) := k4 _ _ x_wpl (z_ne x_wpl x_o rfl)
      have a249 : f219 wpl = some (.inl (cy 0, 60, .inl gp1)) := k223 _ _ a248 (z_ne a248 a3 rfl) (z_ne a248 a218 rfl)
      have a250 : f1 whs = some (.inl (cy 0, 4, .inl gs)) := k4 _ _ x_whs (z_ne x_whs x_o rfl)
      have a251 : f219 whs = some (.inl (cy 0, 4, .inl gs)) := k223 _ _ a250 (z_ne a250 a3 rfl) (z_ne a250 a218 rfl)
      have a252 : f1 wk1 = some (.inl (cy 0, 40, .inl gx1)) := k4 _ _ x_wk1 (z_ne x_wk1 x_o rfl)
      have a253 : f219 wk1 = some (.inl (cy 0, 40, .inl gx1)) := k223 _ _ a252 (z_ne a252 a3 rfl) (z_ne a252 a218 rfl)
      have a254 : f1 wk2 = some (.inl (cy 0, 40, .inl gx2)) := k4 _ _ x_wk2 (z_ne x_wk2 x_o rfl)
      have a255 : f219 wk2 = some (.inl (cy 0, 40, .inl gx2)) := k223 _ _ a254 (z_ne a254 a3 rfl) (z_ne a254 a218 rfl)
      have a256 : f1 wk3 = some (.inl (cy 0, 40, .inl gx3)) := k4 _ _ x_wk3 (z_ne x_wk3 x_o rfl)
      have a257 : f219 wk3 = some (.inl (cy 0, 40, .inl gx3)) := k223 _ _ a256 (z_ne a256 a3 rfl) (z_ne a256 a218 rfl)
      have hq : q_wide nn x y z = ((-4), 7, 1, 1) := by simp [q_wide, h60, c6]
      exact z_iret C hr rfl hz hS ⟨7, 1, 1, nl, nn, nf, nc, lk, ks, (upd gv 7 (gv 7 + 1)), gu, gk, gm, gc, gw, gl, gh, gt, gy, gq, ge1, gn1, gp1, gs, gx1, gx2, gx3, ln, fz, sq, (by rw [hq]), (by rw [hq]), (by rw [hq]), (by rw [hq]), (by rw [hq]; exact (zEV7 gv).symm), rfl, rfl, (by rw [if_neg (by decide)]), (by rw [if_neg (by decide)]), (by rw [if_neg (by decide)]), (by rw [if_neg (by decide)]), (by rw [if_neg (by decide)]), (zGC_no (by decide)), rfl, rfl, rfl, rfl, rfl, rfl, rfl, rfl, rfl, rfl, rfl, rfl, rfl, ⟨a221, a222, a225, a227, a229, a231, a233, a235, a237, a239, a241, a243, a245, a247, a249, a251, a253, a255, a257, hn60, hl12, hf6, hc60, hs40, hMP, hgy, hfz, hgs, hME, hlk, hgw, hfd, n_wki_wmy, n_wki_wiw, n_wki_wli, n_wki_wha, n_wki_wem, n_wki_wna, n_wki_wpl, n_wmy_wiw, n_wmy_wli, n_wmy_wha, n_wmy_wem, n_wmy_wna, n_wmy_wpl, n_wiw_wli, n_wiw_wha, n_wiw_wem, n_wiw_wna, n_wiw_wpl, n_wli_wha, n_wli_wem, n_wli_wna, n_wli_wpl, n_wha_wem, n_wha_wna, n_wha_wpl, n_wem_wna, n_wem_wpl, n_wna_wpl, n_wk1_wk2, n_wk1_wk3, n_wk2_wk3⟩⟩ (Nat.le_of_ble_eq_true rfl) (Nat.le_of_ble_eq_true rfl) dX8_wide_29
  · replace c5 : (nn = 60) := (nI_eq (a := nn) (b := 60) (by omega) (by omega)).mp c5
    have h60 : ¬ nn < 60 := by omega
    refine lv_bipush (v := (-3)) hx hb dX8_wide_13 (by decide) ?_
    have a258 : f1 wev = some (.inl (cy 0, 8, .inl gv)) := k4 _ _ x_wev (z_ne x_wev x_o rfl)
    have a259 : f1 wnb = some (.inl (cy 0, 12, .inl gu)) := k4 _ _ x_wnb (z_ne x_wnb x_o rfl)
    have a260 : f1 wki = some (.inl (cy 0, 60, .inl gk)) := k4 _ _ x_wki (z_ne x_wki x_o rfl)
    have a261 : f1 wmy = some (.inl (cy 0, 60, .inl gm)) := k4 _ _ x_wmy (z_ne x_wmy x_o rfl)
    have a262 : f1 wce = some (.inl (cy 1, 960, .inr (.inl gc))) := k4 _ _ x_wce (z_ne x_wce x_o rfl)
    have a263 : f1 wiw = some (.inl (cy 2, 60, .inl gw)) := k4 _ _ x_wiw (z_ne x_wiw x_o rfl)
    have a264 : f1 wli = some (.inl (cy 0, 60, .inl gl)) := k4 _ _ x_wli (z_ne x_wli x_o rfl)
    have a265 : f1 wha = some (.inl (cy 0, 60, .inl gh)) := k4 _ _ x_wha (z_ne x_wha x_o rfl)
    have a266 : f1 wwt = some (.inl (cy 1, 60, .inr (.inl gt))) := k4 _ _ x_wwt (z_ne x_wwt x_o rfl)
    have a267 : f1 wfy = some (.inl (cy 0, 6, .inl gy)) := k4 _ _ x_wfy (z_ne x_wfy x_o rfl)
    have a268 : f1 wfk = some (.inl (cy 0, 24, .inl gq)) := k4 _ _ x_wfk (z_ne x_wfk x_o rfl)
    have a269 : f1 wem = some (.inl (cy 0, 60, .inl ge1)) := k4 _ _ x_wem (z_ne x_wem x_o rfl)
    have a270 : f1 wna = some (.inl (cy 0, 60, .inl gn1)) := k4 _ _ x_wna (z_ne x_wna x_o rfl)
    have a271 : f1 wpl = some (.inl (cy 0, 60, .inl gp1)) := k4 _ _ x_wpl (z_ne x_wpl x_o rfl)
    have a272 : f1 whs = some (.inl (cy 0, 4, .inl gs)) := k4 _ _ x_whs (z_ne x_whs x_o rfl)
    have a273 : f1 wk1 = some (.inl (cy 0, 40, .inl gx1)) := k4 _ _ x_wk1 (z_ne x_wk1 x_o rfl)
    have a274 : f1 wk2 = some (.inl (cy 0, 40, .inl gx2)) := k4 _ _ x_wk2 (z_ne x_wk2 x_o rfl)
    have a275 : f1 wk3 = some (.inl (cy 0, 40, .inl gx3)) := k4 _ _ x_wk3 (z_ne x_wk3 x_o rfl)
    have hq : q_wide nn x y z = ((-3), 0, (-1), 0) := by simp [q_wide, h60]
    exact z_iret C hr rfl hz hS ⟨0, (-1), 0, nl, nn, nf, nc, lk, ks, gv, gu, gk, gm, gc, gw, gl, gh, gt, gy, gq, ge1, gn1, gp1, gs, gx1, gx2, gx3, ln, fz, sq, (by rw [hq]), (by rw [hq]), (by rw [hq]), (by rw [hq]), (by rw [hq]; exact (zEV0 gv).symm), rfl, rfl, (by rw [if_neg (by decide)]), (by rw [if_neg (by decide)]), (by rw [if_neg (by decide)]), (by rw [if_neg (by decide)]), (by rw [if_neg (by decide)]), (zGC_no (by decide)), rfl, rfl, rfl, rfl, rfl, rfl, rfl, rfl, rfl, rfl, rfl, rfl, rfl, ⟨a3, a258, a259, a260, a261, a262, a263, a264, a265, a266, a267, a268, a269, a270, a271, a272, a273, a274, a275, hn60, hl12, hf6, hc60, hs40, hMP, hgy, hfz, hgs, hME, hlk, hgw, hfd, n_wki_wmy, n_wki_wiw, n_wki_wli, n_wki_wha, n_wki_wem, n_wki_wna, n_wki_wpl, n_wmy_wiw, n_wmy_wli, n_wmy_wha, n_wmy_wem, n_wmy_wna, n_wmy_wpl, n_wiw_wli, n_wiw_wha, n_wiw_wem, n_wiw_wna, n_wiw_wpl, n_wli_wha, n_wli_wem, n_wli_wna, n_wli_wpl, n_wha_wem, n_wha_wna, n_wha_wpl, n_wem_wna, n_wem_wpl, n_wna_wpl, n_wk1_wk2, n_wk1_wk3, n_wk2_wk3⟩⟩ (Nat.le_of_ble_eq_true rfl) (Nat.le_of_ble_eq_true rfl) dX8_wide_15
