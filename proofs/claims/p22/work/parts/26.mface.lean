theorem z_tl0 {z : Int32} (h : ¬ z = 0) : ¬ z.toInt64 = 0 := by
  intro q
  apply h
  have q2 : z.toInt64.toInt = (0 : Int64).toInt := by rw [q]
  rw [Int32.toInt_toInt64] at q2
  exact Int32.toInt_inj.mp (by rw [q2]; rfl)
abbrev rmX8_share : Room := { frames := 3, cells := 0, slots := 0, locals := 67 }
set_option maxHeartbeats 4000000 in
set_option maxRecDepth 100000 in
theorem k_X8_share (l : Launch) (D : va_G) (cy : Nat → ClassId) (f : zM) (o : Nat) (wev : Nat) (wnb : Nat) (wki : Nat) (wmy : Nat) (wce : Nat) (wiw : Nat) (wli : Nat) (wha : Nat) (wwt : Nat) (wfy : Nat) (wfk : Nat) (wem : Nat) (wna : Nat) (wpl : Nat) (whs : Nat) (wk1 : Nat) (wk2 : Nat) (wk3 : Nat) (u1 : Int32) (u2 : Int32) (u3 : Int32) (nl : Nat) (nn : Nat) (nf : Nat) (nc : Nat) (lk : Int64) (ks : Nat) (gv : Nat → Int32) (gu : Nat → Int32) (gk : Nat → Int32) (gm : Nat → Int32) (gc : Nat → Int64) (gw : Nat → Int32) (gl : Nat → Int32) (gh : Nat → Int32) (gt : Nat → Int64) (gy : Nat → Int32) (gq : Nat → Int32) (ge1 : Nat → Int32) (gn1 : Nat → Int32) (gp1 : Nat → Int32) (gs : Nat → Int32) (gx1 : Nat → Int32) (gx2 : Nat → Int32) (gx3 : Nat → Int32) (ln : Nat → Nat) (fz : Nat → Nat) (sq : Nat → Nat) (x : Int64) (y : Int64)    (hI : zIM cy f o wev wnb wki wmy wce wiw wli wha wwt wfy wfk wem wna wpl whs wk1 wk2 wk3 u1 u2 u3 nl nn nf nc lk ks gv gu gk gm gc gw gl gh gt gy gq ge1 gn1 gp1 gs gx1 gx2 gx3 ln fz sq) : zCi l D cy yX8_share cX8_share 5 (Option.some Jvm.ClassFile.FieldType.int) rmX8_share [.ref o, .long x, .long y] f (fun (r : Int32) (f1 : zM) => ∃ (u11 : Int32) (u21 : Int32) (u31 : Int32) (nl1 : Nat) (nn1 : Nat) (nf1 : Nat) (nc1 : Nat) (lk1 : Int64) (ks1 : Nat) (gv1 : Nat → Int32) (gu1 : Nat → Int32) (gk1 : Nat → Int32) (gm1 : Nat → Int32) (gc1 : Nat → Int64) (gw1 : Nat → Int32) (gl1 : Nat → Int32) (gh1 : Nat → Int32) (gt1 : Nat → Int64) (gy1 : Nat → Int32) (gq1 : Nat → Int32) (ge11 : Nat → Int32) (gn11 : Nat → Int32) (gp11 : Nat → Int32) (gs1 : Nat → Int32) (gx11 : Nat → Int32) (gx21 : Nat → Int32) (gx31 : Nat → Int32) (ln1 : Nat → Nat) (fz1 : Nat → Nat) (sq1 : Nat → Nat), r = ((q_share nn y).1) ∧ (u11 = (q_share nn y).2.1) ∧ (u21 = (q_share nn y).2.2.1) ∧ (u31 = (q_share nn y).2.2.2) ∧ (gv1 = zEV gv (q_share nn y).2.1) ∧ (nl1 = nl) ∧ (gu1 = gu) ∧ (nn1 = if 0 ≤ r then nn + 1 else nn) ∧ (gk1 = if 0 ≤ r then va_up gk nn 3 else gk) ∧ (ln1 = if 0 ≤ r then va_up ln nn (3) else ln) ∧ (gw1 = if 0 ≤ r then va_up gw nn 0 else gw) ∧ (gh1 = if 0 ≤ r then va_up gh nn (zHash 3 nn (3) (q3 x y (x / y)) gh) else gh) ∧ (zGC nn (0 ≤ r) (3) (q3 x y (x / y)) gc gc1) ∧ (nf1 = nf) ∧ (fz1 = fz) ∧ (gq1 = gq) ∧ (nc1 = nc) ∧ (ge11 = ge1) ∧ (gn11 = gn1) ∧ (gp11 = gp1) ∧ (sq1 = sq) ∧ (ks1 = ks) ∧ (gx11 = gx1) ∧ (gx21 = gx2) ∧ (gx31 = gx3) ∧ (lk1 = lk) ∧ ((0 ≤ r → ∃ jl, jl ≤ nn ∧ gl1 = upd gl nn (nI jl) ∧ (jl < nn → zLC1 gk1 gl gc1 ln nn (3) jl) ∧ ∀ o, o < jl → ¬ zLC1 gk1 gl gc1 ln nn (3) o) ∧ (¬ 0 ≤ r → gl1 = gl)) ∧ zIM cy f1 o wev wnb wki wmy wce wiw wli wha wwt wfy wfk wem wna wpl whs wk1 wk2 wk3 u11 u21 u31 nl1 nn1 nf1 nc1 lk1 ks1 gv1 gu1 gk1 gm1 gc1 gw1 gl1 gh1 gt1 gy1 gq1 ge11 gn11 gp11 gs1 gx11 gx21 gx31 ln1 fz1 sq1) := by
  intro sz
  refine z_body (by decide +kernel) (Nat.le_of_ble_eq_true rfl) ?_
  intro p e s m below meth c ls C hr hin hsz hz hl
  subst hsz
  have hx := C.1
  have hb := C.2.1
  have hA : ∀ q, s.heap.size ≤ q → zA f s.heap.size q := fun q h => Or.inr h
  have hS : va_S (zA f s.heap.size) s.heap s.heap [] := va_S.rf
  have hl : lv_has ls 5 [(0, .ref o), (1, .long x), (3, .long y)] := hl
  obtain ⟨x_o, x_wev, x_wnb, x_wki, x_wmy, x_wce, x_wiw, x_wli, x_wha, x_wwt, x_wfy, x_wfk, x_wem, x_wna, x_wpl, x_whs, x_wk1, x_wk2, x_wk3, hn60, hl12, hf6, hc60, hs40, hMP, hgy, hfz, hgs, hME, hlk, hgw, hfd, n_wki_wmy, n_wki_wiw, n_wki_wli, n_wki_wha, n_wki_wem, n_wki_wna, n_wki_wpl, n_wmy_wiw, n_wmy_wli, n_wmy_wha, n_wmy_wem, n_wmy_wna, n_wmy_wpl, n_wiw_wli, n_wiw_wha, n_wiw_wem, n_wiw_wna, n_wiw_wpl, n_wli_wha, n_wli_wem, n_wli_wna, n_wli_wpl, n_wha_wem, n_wha_wna, n_wha_wpl, n_wem_wna, n_wem_wpl, n_wna_wpl, n_wk1_wk2, n_wk1_wk3, n_wk2_wk3⟩ := id hI
  refine lv_aload_n hx hb dX8_share_0 rfl (lv_at hl 0 rfl) ?_
  refine z_callVv (As := []) C hz hS hA hl (k_X8_begin l D cy f o wev wnb wki wmy wce wiw wli wha wwt wfy wfk wem wna wpl whs wk1 wk2 wk3 u1 u2 u3 nl nn nf nc lk ks x_o ) zyX8_begin mMX8_116 x_o zl8 rfl rfl (Nat.le_of_ble_eq_true rfl) ⟨Nat.le_of_ble_eq_true rfl, Nat.le_of_ble_eq_true rfl⟩ ⟨Nat.le_of_ble_eq_true rfl, Nat.le_of_ble_eq_true rfl⟩ dX8_share_1 (fun  f1 H locs h2 hz hS => ?_)
  obtain ⟨a3, k4⟩ := h2
  refine lv_aload_n hx hb dX8_share_4 rfl (lv_at hl 0 rfl) ?_
  refine z_get (v := .int (nI nn)) C hz a3 zl8 mFX8_83 (by decide) rfl dX8_share_5 ?_
  refine lv_bipush (v := 60) hx hb dX8_share_8 (by decide) ?_
  refine lv_icmp_ne (tgt := 16) hx hb dX8_share_10 (by decide) (fun c5 => ?_) (fun c5 => ?_)
  · replace c5 : ¬ (nn = 60) := fun h => c5 ((nI_eq (a := nn) (b := 60) (by omega) (by omega)).mpr h)
    have h60 : nn < 60 := by omega
    refine lv_lload_n hx hb dX8_share_16 rfl (lv_at hl 2 rfl) ?_
    refine lv_lconst (v := 0) hx hb dX8_share_17 (by decide) ?_
    refine W.lcmp hx hb dX8_share_18 ?_
    refine lv_if_ne (tgt := 31) hx hb dX8_share_19 (by decide) (fun c6 => ?_) (fun c6 => ?_)
    · have hy0 : ¬ y = 0 := (fun h9 => c6 ((lg_cmp_eq y 0).mpr h9))
      refine lv_aload_n hx hb dX8_share_31 rfl (lv_at hl 0 rfl) ?_
      refine lv_iconst (v := 3) hx hb dX8_share_32 (by decide) ?_
      have a7 : f1 wki = some (.inl (cy 0, 60, .inl gk)) := k4 _ _ x_wki (z_ne x_wki x_o rfl)
      have a8 : f1 wmy = some (.inl (cy 0, 60, .inl gm)) := k4 _ _ x_wmy (z_ne x_wmy x_o rfl)
      refine z_callVv (As := [.int 3]) C hz hS hA hl (k_X8_start l D cy f1 o wev wnb wki wmy wce wiw wli wha wwt wfy wfk wem wna wpl whs wk1 wk2 wk3 0 (-1) 0 nl nn nf nc lk ks gk gm 3 a3 a7 a8 (by omega) n_wki_wmy) zyX8_start mMX8_119 a3 zl8 rfl rfl (Nat.le_of_ble_eq_true rfl) ⟨Nat.le_of_ble_eq_true rfl, Nat.le_of_ble_eq_true rfl⟩ ⟨Nat.le_of_ble_eq_true rfl, Nat.le_of_ble_eq_true rfl⟩ dX8_share_33 (fun  f9 H locs h10 hz hS => ?_)
      obtain ⟨a11, a12, k13⟩ := h10
      refine lv_aload_n hx hb dX8_share_36 rfl (lv_at hl 0 rfl) ?_
      refine lv_lload_n hx hb dX8_share_37 rfl (lv_at hl 1 rfl) ?_
      have a14 : f9 o = some (.inr (8, [.int 0, .int (-1), .int 0, .ref wev, .int (nI nl), .ref wnb, .int (nI nn), .ref wki, .ref wmy, .ref wce, .ref wiw, .ref wli, .ref wha, .ref wwt, .int (nI nf), .ref wfy, .ref wfk, .int (nI nc), .ref wem, .ref wna, .ref wpl, .ref whs, .long lk, .int (nI ks), .ref wk1, .ref wk2, .ref wk3])) := k13 _ _ a3 (z_ne a3 a7 rfl) (z_ne a3 a8 rfl)
      have a15 : f1 wce = some (.inl (cy 1, 960, .inr (.inl gc))) := k4 _ _ x_wce (z_ne x_wce x_o rfl)
      have a16 : f9 wce = some (.inl (cy 1, 960, .inr (.inl gc))) := k13 _ _ a15 (z_ne a15 a7 rfl) (z_ne a15 a8 rfl)
      refine z_callVv (As := [.long x]) C hz hS hA hl (k_X8_part l D cy f9 o wev wnb wki wmy wce wiw wli wha wwt wfy wfk wem wna wpl whs wk1 wk2 wk3 0 (-1) 0 nl nn nf nc lk ks gc (upd gm nn 0) x 0 a14 a16 a12 (by omega) pk_us (by omega)) zyX8_part mMX8_127 a14 zl8 rfl rfl (Nat.le_of_ble_eq_true rfl) ⟨Nat.le_of_ble_eq_true rfl, Nat.le_of_ble_eq_true rfl⟩ ⟨Nat.le_of_ble_eq_true rfl, Nat.le_of_ble_eq_true rfl⟩ dX8_share_38 (fun  f17 H locs h18 hz hS => ?_)
      obtain ⟨a19, a20, k21⟩ := h18
      refine lv_aload_n hx hb dX8_share_41 rfl (lv_at hl 0 rfl) ?_
      refine lv_lload_n hx hb dX8_share_42 rfl (lv_at hl 2 rfl) ?_
      have a22 : f17 o = some (.inr (8, [.int 0, .int (-1), .int 0, .ref wev, .int (nI nl), .ref wnb, .int (nI nn), .ref wki, .ref wmy, .ref wce, .ref wiw, .ref wli, .ref wha, .ref wwt, .int (nI nf), .ref wfy, .ref wfk, .int (nI nc), .ref wem, .ref wna, .ref wpl, .ref whs, .long lk, .int (nI ks), .ref wk1, .ref wk2, .ref wk3])) := k21 _ _ a14 (z_ne a14 a16 rfl) (z_ne a14 a12 rfl)
      refine z_callVv (As := [.long y]) C hz hS hA hl (k_X8_part l D cy f17 o wev wnb wki wmy wce wiw wli wha wwt wfy wfk wem wna wpl whs wk1 wk2 wk3 0 (-1) 0 nl nn nf nc lk ks (vp_updL gc (16 * nn + 0) x) (upd (upd gm nn 0) nn (nI (0 + 1))) y 1 a22 a19 a20 (by omega) pk_us (by omega)) zyX8_part mMX8_127 a22 zl8 rfl rfl (Nat.le_of_ble_eq_true rfl) ⟨Nat.le_of_ble_eq_true rfl, Nat.le_of_ble_eq_true rfl⟩ ⟨Nat.le_of_ble_eq_true rfl, Nat.le_of_ble_eq_true rfl⟩ dX8_share_43 (fun  f23 H locs h24 hz hS => ?_)
      obtain ⟨a25, a26, k27⟩ := h24
      refine lv_aload_n hx hb dX8_share_46 rfl (lv_at hl 0 rfl) ?_
      refine lv_lload_n hx hb dX8_share_47 rfl (lv_at hl 1 rfl) ?_
      refine lv_lload_n hx hb dX8_share_48 rfl (lv_at hl 2 rfl) ?_
      refine lv_ldiv hx hb dX8_share_49 hy0 ?_
      have a28 : f23 o = some (.inr (8, [.int 0, .int (-1), .int 0, .ref wev, .int (nI nl), .ref wnb, .int (nI nn), .ref wki, .ref wmy, .ref wce, .ref wiw, .ref wli, .ref wha, .ref wwt, .int (nI nf), .ref wfy, .ref wfk, .int (nI nc), .ref wem, .ref wna, .ref wpl, .ref whs, .long lk, .int (nI ks), .ref wk1, .ref wk2, .ref wk3])) := k27 _ _ a22 (z_ne a22 a19 rfl) (z_ne a22 a20 rfl)
      refine z_callVv (As := [.long (x / y)]) C hz hS hA hl (k_X8_part l D cy f23 o wev wnb wki wmy wce wiw wli wha wwt wfy wfk wem wna wpl whs wk1 wk2 wk3 0 (-1) 0 nl nn nf nc lk ks (vp_updL (vp_updL gc (16 * nn + 0) x) (16 * nn + 1) y) (upd (upd (upd gm nn 0) nn (nI (0 + 1))) nn (nI (1 + 1))) (x / y) 2 a28 a25 a26 (by omega) pk_us (by omega)) zyX8_part mMX8_127 a28 zl8 rfl rfl (Nat.le_of_ble_eq_true rfl) ⟨Nat.le_of_ble_eq_true rfl, Nat.le_of_ble_eq_true rfl⟩ ⟨Nat.le_of_ble_eq_true rfl, Nat.le_of_ble_eq_true rfl⟩ dX8_share_50 (fun  f29 H locs h30 hz hS => ?_)
      obtain ⟨a31, a32, k33⟩ := h30
      refine lv_aload_n hx hb dX8_share_53 rfl (lv_at hl 0 rfl) ?_
      have a34 : f29 o = some (.inr (8, [.int 0, .int (-1), .int 0, .ref wev, .int (nI nl), .ref wnb, .int (nI nn), .ref wki, .ref wmy, .ref wce, .ref wiw, .ref wli, .ref wha, .ref wwt, .int (nI nf), .ref wfy, .ref wfk, .int (nI nc), .ref wem, .ref wna, .ref wpl, .ref whs, .long lk, .int (nI ks), .ref wk1, .ref wk2, .ref wk3])) := k33 _ _ a28 (z_ne a28 a25 rfl) (z_ne a28 a26 rfl)
      have a35 : f17 wki = some (.inl (cy 0, 60, .inl (upd gk nn 3))) := k21 _ _ a11 (z_ne a11 a16 rfl) n_wki_wmy
      have a36 : f23 wki = some (.inl (cy 0, 60, .inl (upd gk nn 3))) := k27 _ _ a35 (z_ne a35 a19 rfl) n_wki_wmy
      have a37 : f29 wki = some (.inl (cy 0, 60, .inl (upd gk nn 3))) := k33 _ _ a36 (z_ne a36 a25 rfl) n_wki_wmy
      have a38 : f1 wli = some (.inl (cy 0, 60, .inl gl)) := k4 _ _ x_wli (z_ne x_wli x_o rfl)
      have a39 : f9 wli = some (.inl (cy 0, 60, .inl gl)) := k13 _ _ a38 (Ne.symm n_wki_wli) (Ne.symm n_wmy_wli)
      have a40 : f17 wli = some (.inl (cy 0, 60, .inl gl)) := k21 _ _ a39 (z_ne a39 a16 rfl) (Ne.symm n_wmy_wli)
      have a41 : f23 wli = some (.inl (cy 0, 60, .inl gl)) := k27 _ _ a40 (z_ne a40 a19 rfl) (Ne.symm n_wmy_wli)
      have a42 : f29 wli = some (.inl (cy 0, 60, .inl gl)) := k33 _ _ a41 (z_ne a41 a25 rfl) (Ne.symm n_wmy_wli)
      have a43 : f1 wha = some (.inl (cy 0, 60, .inl gh)) := k4 _ _ x_wha (z_ne x_wha x_o rfl)
      have a44 : f9 wha = some (.inl (cy 0, 60, .inl gh)) := k13 _ _ a43 (Ne.symm n_wki_wha) (Ne.symm n_wmy_wha)
      have a45 : f17 wha = some (.inl (cy 0, 60, .inl gh)) := k21 _ _ a44 (z_ne a44 a16 rfl) (Ne.symm n_wmy_wha)
      have a46 : f23 wha = some (.inl (cy 0, 60, .inl gh)) := k27 _ _ a45 (z_ne a45 a19 rfl) (Ne.symm n_wmy_wha)
      have a47 : f29 wha = some (.inl (cy 0, 60, .inl gh)) := k33 _ _ a46 (z_ne a46 a25 rfl) (Ne.symm n_wmy_wha)
      refine z_callVi (As := []) C hz hS hA hl (k_X8_made l D cy f29 o wev wnb wki wmy wce wiw wli wha wwt wfy wfk wem wna wpl whs wk1 wk2 wk3 0 (-1) 0 nl nn nf nc lk ks (upd gk nn 3) (upd (upd (upd (upd gm nn 0) nn (nI (0 + 1))) nn (nI (1 + 1))) nn (nI (2 + 1))) (vp_updL (vp_updL (vp_updL gc (16 * nn + 0) x) (16 * nn + 1) y) (16 * nn + 2) (x / y)) gl gh ln 3 a34 a37 a32 a31 a42 a47 (by omega) (zMP_keep hMP (fun i9 h9 => by simp only [upd, if_neg (show ¬ i9 = nn by omega)]) (fun i9 h9 => by simp only [upd, if_neg (show ¬ i9 = nn by omega)]) (fun i9 h9 j9 h8 => by simp (disch := omega) only [pk_uLn])) pk_us (by omega) (by rw [pk_us]; exact fun h9 => absurd h9 (by decide)) n_wki_wmy n_wki_wli n_wki_wha n_wmy_wli n_wmy_wha n_wli_wha) zyX8_made mMX8_131 a34 zl8 rfl rfl (Nat.le_of_ble_eq_true rfl) ⟨Nat.le_of_ble_eq_true rfl, Nat.le_of_ble_eq_true rfl⟩ ⟨Nat.le_of_ble_eq_true rfl, Nat.le_of_ble_eq_true rfl⟩ dX8_share_54 (fun r f48 H locs h49 hz hS => ?_)
      obtain ⟨jl_50, rfl, pq51, pq52, pq53, a54, a55, a56, k57⟩ := h49
      have a58 : f1 wev = some (.inl (cy 0, 8, .inl gv)) := k4 _ _ x_wev (z_ne x_wev x_o rfl)
      have a59 : f9 wev = some (.inl (cy 0, 8, .inl gv)) := k13 _ _ a58 (z_ne a58 a7 rfl) (z_ne a58 a8 rfl)
      have a60 : f17 wev = some (.inl (cy 0, 8, .inl gv)) := k21 _ _ a59 (z_ne a59 a16 rfl) (z_ne a59 a12 rfl)
      have a61 : f23 wev = some (.inl (cy 0, 8, .inl gv)) := k27 _ _ a60 (z_ne a60 a19 rfl) (z_ne a60 a20 rfl)
      have a62 : f29 wev = some (.inl (cy 0, 8, .inl gv)) := k33 _ _ a61 (z_ne a61 a25 rfl) (z_ne a61 a26 rfl)
      have a63 : f48 wev = some (.inl (cy 0, 8, .inl gv)) := k57 _ _ a62 (z_ne a62 a34 rfl) (z_ne a62 a42 rfl) (z_ne a62 a47 rfl)
      have a64 : f1 wnb = some (.inl (cy 0, 12, .inl gu)) := k4 _ _ x_wnb (z_ne x_wnb x_o rfl)
      have a65 : f9 wnb = some (.inl (cy 0, 12, .inl gu)) := k13 _ _ a64 (z_ne a64 a7 rfl) (z_ne a64 a8 rfl)
      have a66 : f17 wnb = some (.inl (cy 0, 12, .inl gu)) := k21 _ _ a65 (z_ne a65 a16 rfl) (z_ne a65 a12 rfl)
      have a67 : f23 wnb = some (.inl (cy 0, 12, .inl gu)) := k27 _ _ a66 (z_ne a66 a19 rfl) (z_ne a66 a20 rfl)
      have a68 : f29 wnb = some (.inl (cy 0, 12, .inl gu)) := k33 _ _ a67 (z_ne a67 a25 rfl) (z_ne a67 a26 rfl)
      have a69 : f48 wnb = some (.inl (cy 0, 12, .inl gu)) := k57 _ _ a68 (z_ne a68 a34 rfl) (z_ne a68 a42 rfl) (z_ne a68 a47 rfl)
      have a70 : f48 wki = some (.inl (cy 0, 60, .inl (upd gk nn 3))) := k57 _ _ a37 (z_ne a37 a34 rfl) n_wki_wli n_wki_wha
      have a71 : f48 wmy = some (.inl (cy 0, 60, .inl (upd (upd (upd (upd gm nn 0) nn (nI (0 + 1))) nn (nI (1 + 1))) nn (nI (2 + 1))))) := k57 _ _ a32 (z_ne a32 a34 rfl) n_wmy_wli n_wmy_wha
      have a72 : f48 wce = some (.inl (cy 1, 960, .inr (.inl (vp_updL (vp_updL (vp_updL gc (16 * nn + 0) x) (16 * nn + 1) y) (16 * nn + 2) (x / y))))) := k57 _ _ a31 (z_ne a31 a34 rfl) (z_ne a31 a42 rfl) (z_ne a31 a47 rfl)
      have a73 : f1 wiw = some (.inl (cy 2, 60, .inl gw)) := k4 _ _ x_wiw (z_ne x_wiw x_o rfl)
      have a74 : f9 wiw = some (.inl (cy 2, 60, .inl gw)) := k13 _ _ a73 (Ne.symm n_wki_wiw) (Ne.symm n_wmy_wiw)
      have a75 : f17 wiw = some (.inl (cy 2, 60, .inl gw)) := k21 _ _ a74 (z_ne a74 a16 rfl) (Ne.symm n_wmy_wiw)
      have a76 : f23 wiw = some (.inl (cy 2, 60, .inl gw)) := k27 _ _ a75 (z_ne a75 a19 rfl) (Ne.symm n_wmy_wiw)
      have a77 : f29 wiw = some (.inl (cy 2, 60, .inl gw)) := k33 _ _ a76 (z_ne a76 a25 rfl) (Ne.symm n_wmy_wiw)
      have a78 : f48 wiw = some (.inl (cy 2, 60, .inl gw)) := k57 _ _ a77 (z_ne a77 a34 rfl) n_wiw_wli n_wiw_wha
      have a79 : f1 wwt = some (.inl (cy 1, 60, .inr (.inl gt))) := k4 _ _ x_wwt (z_ne x_wwt x_o rfl)
      have a80 : f9 wwt = some (.inl (cy 1, 60, .inr (.inl gt))) := k13 _ _ a79 (z_ne a79 a7 rfl) (z_ne a79 a8 rfl)
      have a81 : f17 wwt = some (.inl (cy 1, 60, .inr (.inl gt))) := k21 _ _ a80 (z_ne a80 a16 rfl) (z_ne a80 a12 rfl)
      have a82 : f23 wwt = some (.inl (cy 1, 60, .inr (.inl gt))) := k27 _ _ a81 (z_ne a81 a19 rfl) (z_ne a81 a20 rfl)
      have a83 : f29 wwt = some (.inl (cy 1, 60, .inr (.inl gt))) := k33 _ _ a82 (z_ne a82 a25 rfl) (z_ne a82 a26 rfl)
      have a84 : f48 wwt = some (.inl (cy 1, 60, .inr (.inl gt))) := k57 _ _ a83 (z_ne a83 a34 rfl) (z_ne a83 a42 rfl) (z_ne a83 a47 rfl)
      have a85 : f1 wfy = some (.inl (cy 0, 6, .inl gy)) := k4 _ _ x_wfy (z_ne x_wfy x_o rfl)
      have a86 : f9 wfy = some (.inl (cy 0, 6, .inl gy)) := k13 _ _ a85 (z_ne a85 a7 rfl) (z_ne a85 a8 rfl)
      have a87 : f17 wfy = some (.inl (cy 0, 6, .inl gy)) := k21 _ _ a86 (z_ne a86 a16 rfl) (z_ne a86 a12 rfl)
      have a88 : f23 wfy = some (.inl (cy 0, 6, .inl gy)) := k27 _ _ a87 (z_ne a87 a19 rfl) (z_ne a87 a20 rfl)
      have a89 : f29 wfy = some (.inl (cy 0, 6, .inl gy)) := k33 _ _ a88 (z_ne a88 a25 rfl) (z_ne a88 a26 rfl)
      have a90 : f48 wfy = some (.inl (cy 0, 6, .inl gy)) := k57 _ _ a89 (z_ne a89 a34 rfl) (z_ne a89 a42 rfl) (z_ne a89 a47 rfl)
      have a91 : f1 wfk = some (.inl (cy 0, 24, .inl gq)) := k4 _ _ x_wfk (z_ne x_wfk x_o rfl)
      have a92 : f9 wfk = some (.inl (cy 0, 24, .inl gq)) := k13 _ _ a91 (z_ne a91 a7 rfl) (z_ne a91 a8 rfl)
      have a93 : f17 wfk = some (.inl (cy 0, 24, .inl gq)) := k21 _ _ a92 (z_ne a92 a16 rfl) (z_ne a92 a12 rfl)
      have a94 : f23 wfk = some (.inl (cy 0, 24, .inl gq)) := k27 _ _ a93 (z_ne a93 a19 rfl) (z_ne a93 a20 rfl)
      have a95 : f29 wfk = some (.inl (cy 0, 24, .inl gq)) := k33 _ _ a94 (z_ne a94 a25 rfl) (z_ne a94 a26 rfl)
      have a96 : f48 wfk = some (.inl (cy 0, 24, .inl gq)) := k57 _ _ a95 (z_ne a95 a34 rfl) (z_ne a95 a42 rfl) (z_ne a95 a47 rfl)
      have a97 : f1 wem = some (.inl (cy 0, 60, .inl ge1)) := k4 _ _ x_wem (z_ne x_wem x_o rfl)
      have a98 : f9 wem = some (.inl (cy 0, 60, .inl ge1)) := k13 _ _ a97 (Ne.symm n_wki_wem) (Ne.symm n_wmy_wem)
      have a99 : f17 wem = some (.inl (cy 0, 60, .inl ge1)) := k21 _ _ a98 (z_ne a98 a16 rfl) (Ne.symm n_wmy_wem)
      have a100 : f23 wem = some (.inl (cy 0, 60, .inl ge1)) := k27 _ _ a99 (z_ne a99 a19 rfl) (Ne.symm n_wmy_wem)
      have a101 : f29 wem = some (.inl (cy 0, 60, .inl ge1)) := k33 _ _ a100 (z_ne a100 a25 rfl) (Ne.symm n_wmy_wem)
      have a102 : f48 wem = some (.inl (cy 0, 60, .inl ge1)) := k57 _ _ a101 (z_ne a101 a34 rfl) (Ne.symm n_wli_wem) (Ne.symm n_wha_wem)
      have a103 : f1 wna = some (.inl (cy 0, 60, .inl gn1)) := k4 _ _ x_wna (z_ne x_wna x_o rfl)
      have a104 : f9 wna = some (.inl (cy 0, 60, .inl gn1)) := k13 _ _ a103 (Ne.symm n_wki_wna) (Ne.symm n_wmy_wna)
      have a105 : f17 wna = some (.inl (cy 0, 60, .inl gn1)) := k21 _ _ a104 (z_ne a104 a16 rfl) (Ne.symm n_wmy_wna)
      have a106 : f23 wna = some (.inl (cy 0, 60, .inl gn1)) := k27 _ _ a105 (z_ne a105 a19 rfl) (Ne.symm n_wmy_wna)
      have a107 : f29 wna = some (.inl (cy 0, 60, .inl gn1)) := k33 _ _ a106 (z_ne a106 a25 rfl) (Ne.symm n_wmy_wna)
      have a108 : f48 wna = some (.inl (cy 0, 60, .inl gn1)) := k57 _ _ a107 (z_ne a107 a34 rfl) (Ne.symm n_wli_wna) (Ne.symm n_wha_wna)
      have a109 : f1 wpl = some (.inl (cy 0, 60, .inl gp1)) := k4 _ _ x_wpl (z_ne x_wpl x_o rfl)
      have a110 : f9 wpl = some (.inl (cy 0, 60, .inl gp1)) := k13 _ _ a109 (Ne.symm n_wki_wpl) (Ne.symm n_wmy_wpl)
      have a111 : f17 wpl = some (.inl (cy 0, 60, .inl gp1)) := k21 _ _ a110 (z_ne a110 a16 rfl) (Ne.symm n_wmy_wpl)
      have a112 : f23 wpl = some (.inl (cy 0, 60, .inl gp1)) := k27 _ _ a111 (z_ne a111 a19 rfl) (Ne.symm n_wmy_wpl)
      have a113 : f29 wpl = some (.inl (cy 0, 60, .inl gp1)) := k33 _ _ a112 (z_ne a112 a25 rfl) (Ne.symm n_wmy_wpl)
      have a114 : f48 wpl = some (.inl (cy 0, 60, .inl gp1)) := k57 _ _ a113 (z_ne a113 a34 rfl) (Ne.symm n_wli_wpl) (Ne.symm n_wha_wpl)
      have a115 : f1 whs = some (.inl (cy 0, 4, .inl gs)) := k4 _ _ x_whs (z_ne x_whs x_o rfl)
      have a116 : f9 whs = some (.inl (cy 0, 4, .inl gs)) := k13 _ _ a115 (z_ne a115 a7 rfl) (z_ne a115 a8 rfl)
      have a117 : f17 whs = some (.inl (cy 0, 4, .inl gs)) := k21 _ _ a116 (z_ne a116 a16 rfl) (z_ne a116 a12 rfl)
      have a118 : f23 whs = some (.inl (cy 0, 4, .inl gs)) := k27 _ _ a117 (z_ne a117 a19 rfl) (z_ne a117 a20 rfl)
      have a119 : f29 whs = some (.inl (cy 0, 4, .inl gs)) := k33 _ _ a118 (z_ne a118 a25 rfl) (z_ne a118 a26 rfl)
      have a120 : f48 whs = some (.inl (cy 0, 4, .inl gs)) := k57 _ _ a119 (z_ne a119 a34 rfl) (z_ne a119 a42 rfl) (z_ne a119 a47 rfl)
      have a121 : f1 wk1 = some (.inl (cy 0, 40, .inl gx1)) := k4 _ _ x_wk1 (z_ne x_wk1 x_o rfl)
      have a122 : f9 wk1 = some (.inl (cy 0, 40, .inl gx1)) := k13 _ _ a121 (z_ne a121 a7 rfl) (z_ne a121 a8 rfl)
      have a123 : f17 wk1 = some (.inl (cy 0, 40, .inl gx1)) := k21 _ _ a122 (z_ne a122 a16 rfl) (z_ne a122 a12 rfl)
      have a124 : f23 wk1 = some (.inl (cy 0, 40, .inl gx1)) := k27 _ _ a123 (z_ne a123 a19 rfl) (z_ne a123 a20 rfl)
      have a125 : f29 wk1 = some (.inl (cy 0, 40, .inl gx1)) := k33 _ _ a124 (z_ne a124 a25 rfl) (z_ne a124 a26 rfl)
      have a126 : f48 wk1 = some (.inl (cy 0, 40, .inl gx1)) := k57 _ _ a125 (z_ne a125 a34 rfl) (z_ne a125 a42 rfl) (z_ne a125 a47 rfl)
      have a127 : f1 wk2 = some (.inl (cy 0, 40, .inl gx2)) := k4 _ _ x_wk2 (z_ne x_wk2 x_o rfl)
      have a128 : f9 wk2 = some (.inl (cy 0, 40, .inl gx2)) := k13 _ _ a127 (z_ne a127 a7 rfl) (z_ne a127 a8 rfl)
      have a129 : f17 wk2 = some (.inl (cy 0, 40, .inl gx2)) := k21 _ _ a128 (z_ne a128 a16 rfl) (z_ne a128 a12 rfl)
      have a130 : f23 wk2 = some (.inl (cy 0, 40, .inl gx2)) := k27 _ _ a129 (z_ne a129 a19 rfl) (z_ne a129 a20 rfl)
      have a131 : f29 wk2 = some (.inl (cy 0, 40, .inl gx2)) := k33 _ _ a130 (z_ne a130 a25 rfl) (z_ne a130 a26 rfl)
      have a132 : f48 wk2 = some (.inl (cy 0, 40, .inl gx2)) := k57 _ _ a131 (z_ne a131 a34 rfl) (z_ne a131 a42 rfl) (z_ne a131 a47 rfl)
      have a133 : f1 wk3 = some (.inl (cy 0, 40, .inl gx3)) := k4 _ _ x_wk3 (z_ne x_wk3 x_o rfl)
      have a134 : f9 wk3 = some (.inl (cy 0, 40, .inl gx3)) := k13 _ _ a133 (z_ne a133 a7 rfl) (z_ne a133 a8 rfl)
      have a135 : f17 wk3 = some (.inl (cy 0, 40, .inl gx3)) := k21 _ _ a134 (z_ne a134 a16 rfl) (z_ne a134 a12 rfl)
      have a136 : f23 wk3 = some (.inl (cy 0, 40, .inl gx3)) := k27 _ _ a135 (z_ne a135 a19 rfl) (z_ne a135 a20 rfl)
      have a137 : f29 wk3 = some (.inl (cy 0, 40, .inl gx3)) := k33 _ _ a136 (z_ne a136 a25 rfl) (z_ne a136 a26 rfl)
      have a138 : f48 wk3 = some (.inl (cy 0, 40, .inl gx3)) := k57 _ _ a137 (z_ne a137 a34 rfl) (z_ne a137 a42 rfl) (z_ne a137 a47 rfl)
      have hgpf : ∀ j, j < 3 → (vp_updL (vp_updL (vp_updL gc (16 * nn + 0) x) (16 * nn + 1) y) (16 * nn + 2) (x / y)) (16 * nn + j) = (q3 x y (x / y)) j := (z_m3 _ _ _ _ _)
      have hgkp : ∀ i, i < nn → ∀ j, j < 16 → (vp_updL (vp_updL (vp_updL gc (16 * nn + 0) x) (16 * nn + 1) y) (16 * nn + 2) (x / y)) (16 * i + j) = gc (16 * i + j) := (fun i9 h9 j9 h8 => by simp (disch := omega) only [pk_uLn])
      have hq : q_share nn y = (nI nn, 0, (-1), 0) := by simp [q_share, h60, hy0, c6]
      exact z_iret C hr rfl hz hS ⟨0, (-1), 0, nl, (nn + 1), nf, nc, lk, ks, gv, gu, (upd gk nn 3), (upd (upd (upd (upd gm nn 0) nn (nI (0 + 1))) nn (nI (1 + 1))) nn (nI (2 + 1))), (vp_updL (vp_updL (vp_updL gc (16 * nn + 0) x) (16 * nn + 1) y) (16 * nn + 2) (x / y)), gw, (upd gl nn (nI jl_50)), (upd gh nn (zHash ((upd gk nn 3) nn) nn 3 (fun k => (vp_updL (vp_updL (vp_updL gc (16 * nn + 0) x) (16 * nn + 1) y) (16 * nn + 2) (x / y)) (16 * nn + k)) gh)), gt, gy, gq, ge1, gn1, gp1, gs, gx1, gx2, gx3, (va_up ln nn 3), fz, sq, (by rw [hq]), (by rw [hq]), (by rw [hq]), (by rw [hq]), (by rw [hq]; exact (zEV0 gv).symm), rfl, rfl, (by rw [if_pos (nI_pos' (by omega))]), (by rw [if_pos (nI_pos' (by omega))]; exact z_uv _ _ _), (by rw [if_pos (nI_pos' (by omega))]), (by rw [if_pos (nI_pos' (by omega))]; exact z_gw0 hgw), (by rw [if_pos (nI_pos' (by omega))]; exact z_hs1 pk_us rfl hgpf), ⟨hgkp, fun _ => hgpf⟩, rfl, rfl, rfl, rfl, rfl, rfl, rfl, rfl, rfl, rfl, rfl, rfl, rfl, ⟨fun _ => ⟨jl_50, pq51, rfl, pq52, pq53⟩, fun h9 => absurd (nI_pos' (by omega)) h9⟩, ⟨a54, a63, a69, a70, a71, a72, a78, a55, a56, a84, a90, a96, a102, a108, a114, a120, a126, a132, a138, (by omega), hl12, hf6, hc60, hs40, (zMP_new (zMP_keep hMP (fun i9 h9 => by simp only [upd, if_neg (show ¬ i9 = nn by omega)]) (fun i9 h9 => by simp only [upd, if_neg (show ¬ i9 = nn by omega)]) (fun i9 h9 j9 h8 => by simp (disch := omega) only [pk_uLn])) pk_us (by rw [pk_us]; exact zMP1_of (by omega) (by decide) (by decide) (by decide))), hgy, hfz, hgs, hME, hlk, (fun i9 h9 => hgw i9 (by omega)), hfd, n_wki_wmy, n_wki_wiw, n_wki_wli, n_wki_wha, n_wki_wem, n_wki_wna, n_wki_wpl, n_wmy_wiw, n_wmy_wli, n_wmy_wha, n_wmy_wem, n_wmy_wna, n_wmy_wpl, n_wiw_wli, n_wiw_wha, n_wiw_wem, n_wiw_wna, n_wiw_wpl, n_wli_wha, n_wli_wem, n_wli_wna, n_wli_wpl, n_wha_wem, n_wha_wna, n_wha_wpl, n_wem_wna, n_wem_wpl, n_wna_wpl, n_wk1_wk2, n_wk1_wk3, n_wk2_wk3⟩⟩ (Nat.le_of_ble_eq_true rfl) (Nat.le_of_ble_eq_true rfl) dX8_share_57
    · have hy0 : y = 0 := ((lg_cmp_eq y 0).mp c6)
      refine lv_aload_n hx hb dX8_share_22 rfl (lv_at hl 0 rfl) ?_
      refine lv_bipush (v := 6) hx hb dX8_share_23 (by decide) ?_
      refine lv_iconst (v := 1) hx hb dX8_share_25 (by decide) ?_
      refine lv_iconst (v := 0) hx hb dX8_share_26 (by decide) ?_
      have a139 : f1 wev = some (.inl (cy 0, 8, .inl gv)) := k4 _ _ x_wev (z_ne x_wev x_o rfl)
      refine z_callVi (As := [.int 6, .int 1, .int 0]) C hz hS hA hl (k_X8_fails l D cy f1 o wev wnb wki wmy wce wiw wli wha wwt wfy wfk wem wna wpl whs wk1 wk2 wk3 0 (-1) 0 nl nn nf nc lk ks 6 1 0 gv 6 a3 a139 (by decide) (Nat.le_of_ble_eq_true rfl)) zyX8_fails mMX8_135 a3 zl8 rfl rfl (Nat.le_of_ble_eq_true rfl) ⟨Nat.le_of_ble_eq_true rfl, Nat.le_of_ble_eq_true rfl⟩ ⟨Nat.le_of_ble_eq_true rfl, Nat.le_of_ble_eq_true rfl⟩ dX8_share_27 (fun r f140 H locs h141 hz hS => ?_)
      obtain ⟨rfl, a142, a143, k144⟩ := h141
      have a145 : f1 wnb = some (.inl (cy 0, 12, .inl gu)) := k4 _ _ x_wnb (z_ne x_wnb x_o rfl)
      have a146 : f140 wnb = some (.inl (cy 0, 12, .inl gu)) := k144 _ _ a145 (z_ne a145 a3 rfl) (z_ne a145 a139 rfl)
      have a147 : f1 wki = some (.inl (cy 0, 60, .inl gk)) := k4 _ _ x_wki (z_ne x_wki x_o rfl)
      have a148 : f140 wki = some (.inl (cy 0, 60, .inl gk)) := k144 _ _ a147 (z_ne a147 a3 rfl) (z_ne a147 a139 rfl)
      have a149 : f1 wmy = some (.inl (cy 0, 60, .inl gm)) := k4 _ _ x_wmy (z_ne x_wmy x_o rfl)
      have a150 : f140 wmy = some (.inl (cy 0, 60, .inl gm)) := k144 _ _ a149 (z_ne a149 a3 rfl) (z_ne a149 a139 rfl)
      have a151 : f1 wce = some (.inl (cy 1, 960, .inr (.inl gc))) := k4 _ _ x_wce (z_ne x_wce x_o rfl)
      have a152 : f140 wce = some (.inl (cy 1, 960, .inr (.inl gc))) := k144 _ _ a151 (z_ne a151 a3 rfl) (z_ne a151 a139 rfl)
      have a153 : f1 wiw = some (.inl (cy 2, 60, .inl gw)) := k4 _ _ x_wiw (z_ne x_wiw x_o rfl)
      have a154 : f140 wiw = some (.inl (cy 2, 60, .inl gw)) := k144 _ _ a153 (z_ne a153 a3 rfl) (z_ne a153 a139 rfl)
      have a155 : f1 wli = some (.inl (cy 0, 60, .inl gl)) := k4 _ _ x_wli (z_ne x_wli x_o rfl)
      have a156 : f140 wli = some (.inl (cy 0, 60, .inl gl)) := k144 _ _ a155 (z_ne a155 a3 rfl) (z_ne a155 a139 rfl)
      have a157 : f1 wha = some (.inl (cy 0, 60, .inl gh)) := k4 _ _ x_wha (z_ne x_wha x_o rfl)
      have a158 : f140 wha = some (.inl (cy 0, 60, .inl gh)) := k144 _ _ a157 (z_ne a157 a3 rfl) (z_ne a157 a139 rfl)
      have a159 : f1 wwt = some (.inl (cy 1, 60, .inr (.inl gt))) := k4 _ _ x_wwt (z_ne x_wwt x_o rfl)
      have a160 : f140 wwt = some (.inl (cy 1, 60, .inr (.inl gt))) := k144 _ _ a159 (z_ne a159 a3 rfl) (z_ne a159 a139 rfl)
      have a161 : f1 wfy = some (.inl (cy 0, 6, .inl gy)) := k4 _ _ x_wfy (z_ne x_wfy x_o rfl)
      have a162 : f140 wfy = some (.inl (cy 0, 6, .inl gy)) := k144 _ _ a161 (z_ne a161 a3 rfl) (z_ne a161 a139 rfl)
      have a163 : f1 wfk = some (.inl (cy 0, 24, .inl gq)) := k4 _ _ x_wfk (z_ne x_wfk x_o rfl)
      have a164 : f140 wfk = some (.inl (cy 0, 24, .inl gq)) := k144 _ _ a163 (z_ne a163 a3 rfl) (z_ne a163 a139 rfl)
      have a165 : f1 wem = some (.inl (cy 0, 60, .inl ge1)) := k4 _ _ x_wem (z_ne x_wem x_o rfl)
      have a166 : f140 wem = some (.inl (cy 0, 60, .inl ge1)) := k144 _ _ a165 (z_ne a165 a3 rfl) (z_ne a165 a139 rfl)
      have a167 : f1 wna = some (.inl (cy 0, 60, .inl gn1)) := k4 _ _ x_wna (z_ne x_wna x_o rfl)
      have a168 : f140 wna = some (.inl (cy 0, 60, .inl gn1)) := k144 _ _ a167 (z_ne a167 a3 rfl) (z_ne a167 a139 rfl)
      have a169 : f1 wpl = some (.inl (cy 0, 60, .inl gp1)) := k4 _ _ x_wpl (z_ne x_wpl x_o rfl)
      have a170 : f140 wpl = some (.inl (cy 0, 60, .inl gp1)) := k144 _ _ a169 (z_ne a169 a3 rfl) (z_ne a169 a139 rfl)
      have a171 : f1 whs = some (.inl (cy 0, 4, .inl gs)) := k4 _ _ x_whs (z_ne x_whs x_o rfl)
      have a172 : f140 whs = some (.inl (cy 0, 4, .inl gs)) := k144 _ _ a171 (z_ne a171 a3 rfl) (z_ne a171 a139 rfl)
      have a173 : f1 wk1 = some (.inl (cy 0, 40, .inl gx1)) := k4 _ _ x_wk1 (z_ne x_wk1 x_o rfl)
      have a174 : f140 wk1 = some (.inl (cy 0, 40, .inl gx1)) := k144 _ _ a173 (z_ne a173 a3 rfl) (z_ne a173 a139 rfl)
      have a175 : f1 wk2 = some (.inl (cy 0, 40, .inl gx2)) := k4 _ _ x_wk2 (z_ne x_wk2 x_o rfl)
      have a176 : f140 wk2 = some (.inl (cy 0, 40, .inl gx2)) := k144 _ _ a175 (z_ne a175 a3 rfl) (z_ne a175 a139 rfl)
      have a177 : f1 wk3 = some (.inl (cy 0, 40, .inl gx3)) := k4 _ _ x_wk3 (z_ne x_wk3 x_o rfl)
      have a178 : f140 wk3 = some (.inl (cy 0, 40, .inl gx3)) := k144 _ _ a177 (z_ne a177 a3 rfl) (z_ne a177 a139 rfl)
      have hq : q_share nn y = ((-4), 6, 1, 0) := by simp [q_share, h60, hy0, c6]
      exact z_iret C hr rfl hz hS ⟨6, 1, 0, nl, nn, nf, nc, lk, ks, (upd gv 6 (gv 6 + 1)), gu, gk, gm, gc, gw, gl, gh, gt, gy, gq, ge1, gn1, gp1, gs, gx1, gx2, gx3, ln, fz, sq, (by rw [hq]), (by rw [hq]), (by rw [hq]), (by rw [hq]), (by rw [hq]; exact (zEV6 gv).symm), rfl, rfl, (by rw [if_neg (by decide)]), (by rw [if_neg (by decide)]), (by rw [if_neg (by decide)]), (by rw [if_neg (by decide)]), (by rw [if_neg (by decide)]), (zGC_no (by decide)), rfl, rfl, rfl, rfl, rfl, rfl, rfl, rfl, rfl, rfl, rfl, rfl, rfl, ⟨fun h9 => absurd h9 (by decide), fun _ => rfl⟩, ⟨a142, a143, a146, a148, a150, a152, a154, a156, a158, a160, a162, a164, a166, a168, a170, a172, a174, a176, a178, hn60, hl12, hf6, hc60, hs40, hMP, hgy, hfz, hgs, hME, hlk, hgw, hfd, n_wki_wmy, n_wki_wiw, n_wki_wli, n_wki_wha, n_wki_wem, n_wki_wna, n_wki_wpl, n_wmy_wiw, n_wmy_wli, n_wmy_wha, n_wmy_wem, n_wmy_wna, n_wmy_wpl, n_wiw_wli, n_wiw_wha, n_wiw_wem, n_wiw_wna, n_wiw_wpl, n_wli_wha, n_wli_wem, n_wli_wna, n_wli_wpl, n_wha_wem, n_wha_wna, n_wha_wpl, n_wem_wna, n_wem_wpl, n_wna_wpl, n_wk1_wk2, n_wk1_wk3, n_wk2_wk3⟩⟩ (Nat.le_of_ble_eq_true rfl) (Nat.le_of_ble_eq_true rfl) dX8_share_30
  · replace c5 : (nn = 60) := (nI_eq (a := nn) (b := 60) (by omega) (by omega)).mp c5
    have h60 : ¬ nn < 60 := by omega
    refine lv_bipush (v := (-3)) hx hb dX8_share_13 (by decide) ?_
    have a179 : f1 wev = some (.inl (cy 0, 8, .inl gv)) := k4 _ _ x_wev (z_ne x_wev x_o rfl)
    have a180 : f1 wnb = some (.inl (cy 0, 12, .inl gu)) := k4 _ _ x_wnb (z_ne x_wnb x_o rfl)
    have a181 : f1 wki = some (.inl (cy 0, 60, .inl gk)) := k4 _ _ x_wki (z_ne x_wki x_o rfl)
    have a182 : f1 wmy = some (.inl (cy 0, 60, .inl gm)) := k4 _ _ x_wmy (z_ne x_wmy x_o rfl)
    have a183 : f1 wce = some (.inl (cy 1, 960, .inr (.inl gc))) := k4 _ _ x_wce (z_ne x_wce x_o rfl)
    have a184 : f1 wiw = some (.inl (cy 2, 60, .inl gw)) := k4 _ _ x_wiw (z_ne x_wiw x_o rfl)
    have a185 : f1 wli = some (.inl (cy 0, 60, .inl gl)) := k4 _ _ x_wli (z_ne x_wli x_o rfl)
    have a186 : f1 wha = some (.inl (cy 0, 60, .inl gh)) := k4 _ _ x_wha (z_ne x_wha x_o rfl)
    have a187 : f1 wwt = some (.inl (cy 1, 60, .inr (.inl gt))) := k4 _ _ x_wwt (z_ne x_wwt x_o rfl)
    have a188 : f1 wfy = some (.inl (cy 0, 6, .inl gy)) := k4 _ _ x_wfy (z_ne x_wfy x_o rfl)
    have a189 : f1 wfk = some (.inl (cy 0, 24, .inl gq)) := k4 _ _ x_wfk (z_ne x_wfk x_o rfl)
    have a190 : f1 wem = some (.inl (cy 0, 60, .inl ge1)) := k4 _ _ x_wem (z_ne x_wem x_o rfl)
    have a191 : f1 wna = some (.inl (cy 0, 60, .inl gn1)) := k4 _ _ x_wna (z_ne x_wna x_o rfl)
    have a192 : f1 wpl = some (.inl (cy 0, 60, .inl gp1)) := k4 _ _ x_wpl (z_ne x_wpl x_o rfl)
    have a193 : f1 whs = some (.inl (cy 0, 4, .inl gs)) := k4 _ _ x_whs (z_ne x_whs x_o rfl)
    have a194 : f1 wk1 = some (.inl (cy 0, 40, .inl gx1)) := k4 _ _ x_wk1 (z_ne x_wk1 x_o rfl)
    have a195 : f1 wk2 = some (.inl (cy 0, 40, .inl gx2)) := k4 _ _ x_wk2 (z_ne x_wk2 x_o rfl)
    have a196 : f1 wk3 = some (.inl (cy 0, 40, .inl gx3)) := k4 _ _ x_wk3 (z_ne x_wk3 x_o rfl)
    have hq : q_share nn y = ((-3), 0, (-1), 0) := by simp [q_share, h60]
    exact z_iret C hr rfl hz hS ⟨0, (-1), 0, nl, nn, nf, nc, lk, ks, gv, gu, gk, gm, gc, gw, gl, gh, gt, gy, gq, ge1, gn1, gp1, gs, gx1, gx2, gx3, ln, fz, sq, (by rw [hq]), (by rw [hq]), (by rw [hq]), (by rw [hq]), (by rw [hq]; exact (zEV0 gv).symm), rfl, rfl, (by rw [if_neg (by decide)]), (by rw [if_neg (by decide)]), (by rw [if_neg (by decide)]), (by rw [if_neg (by decide)]), (by rw [if_neg (by decide)]), (zGC_no (by decide)), rfl, rfl, rfl, rfl, rfl, rfl, rfl, rfl, rfl, rfl, rfl, rfl, rfl, ⟨fun h9 => absurd h9 (by decide), fun _ => rfl⟩, ⟨a3, a179, a180, a181, a182, a183, a184, a185, a186, a187, a188, a189, a190, a191, a192, a193, a194, a195, a196, hn60, hl12, hf6, hc60, hs40, hMP, hgy, hfz, hgs, hME, hlk, hgw, hfd, n_wki_wmy, n_wki_wiw, n_wki_wli, n_wki_wha, n_wki_wem, n_wki_wna, n_wki_wpl, n_wmy_wiw, n_wmy_wli, n_wmy_wha, n_wmy_wem, n_wmy_wna, n_wmy_wpl, n_wiw_wli, n_wiw_wha, n_wiw_wem, n_wiw_wna, n_wiw_wpl, n_wli_wha, n_wli_wem, n_wli_wna, n_wli_wpl, n_wha_wem, n_wha_wna, n_wha_wpl, n_wem_wna, n_wem_wpl, n_wna_wpl, n_wk1_wk2, n_wk1_wk3, n_wk2_wk3⟩⟩ (Nat.le_of_ble_eq_true rfl) (Nat.le_of_ble_eq_true rfl) dX8_share_15
abbrev rmX8_wide : Room := { frames := 3, cells := 0, slots := 0, locals := 67 }
set_option maxHeartbeats 4000000 in
set_option maxRecDepth 100000 in
theorem k_X8_wide (l : Launch) (D : va_G) (cy : Nat → ClassId) (f : zM) (o : Nat) (wev : Nat) (wnb : Nat) (wki : Nat) (wmy : Nat) (wce : Nat) (wiw : Nat) (wli : Nat) (wha : Nat) (wwt : Nat) (wfy : Nat) (wfk : Nat) (wem : Nat) (wna : Nat) (wpl : Nat) (whs : Nat) (wk1 : Nat) (wk2 : Nat) (wk3 : Nat) (u1 : Int32) (u2 : Int32) (u3 : Int32) (nl : Nat) (nn : Nat) (nf : Nat) (nc : Nat) (lk : Int64) (ks : Nat) (gv : Nat → Int32) (gu : Nat → Int32) (gk : Nat → Int32) (gm : Nat → Int32) (gc : Nat → Int64) (gw : Nat → Int32) (gl : Nat → Int32) (gh : Nat → Int32) (gt : Nat → Int64) (gy : Nat → Int32) (gq : Nat → Int32) (ge1 : Nat → Int32) (gn1 : Nat → Int32) (gp1 : Nat → Int32) (gs : Nat → Int32) (gx1 : Nat → Int32) (gx2 : Nat → Int32) (gx3 : Nat → Int32) (ln : Nat → Nat) (fz : Nat → Nat) (sq : Nat → Nat) (x : Int32) (y : Int32) (z : Int32)    (hI : zIM cy f o wev wnb wki wmy wce wiw wli wha wwt wfy wfk wem wna wpl whs wk1 wk2 wk3 u1 u2 u3 nl nn nf nc lk ks gv gu gk gm gc gw gl gh gt gy gq ge1 gn1 gp1 gs gx1 gx2 gx3 ln fz sq) : zCi l D cy yX8_wide cX8_wide 4 (Option.some Jvm.ClassFile.FieldType.int) rmX8_wide [.ref o, .int x, .int y, .int z] f (fun (r : Int32) (f1 : zM) => ∃ (u11 : Int32) (u21 : Int32) (u31 : Int32) (nl1 : Nat) (nn1 : Nat) (nf1 : Nat) (nc1 : Nat) (lk1 : Int64) (ks1 : Nat) (gv1 : Nat → Int32) (gu1 : Nat → Int32) (gk1 : Nat → Int32) (gm1 : Nat → Int32) (gc1 : Nat → Int64) (gw1 : Nat → Int32) (gl1 : Nat → Int32) (gh1 : Nat → Int32) (gt1 : Nat → Int64) (gy1 : Nat → Int32) (gq1 : Nat → Int32) (ge11 : Nat → Int32) (gn11 : Nat → Int32) (gp11 : Nat → Int32) (gs1 : Nat → Int32) (gx11 : Nat → Int32) (gx21 : Nat → Int32) (gx31 : Nat → Int32) (ln1 : Nat → Nat) (fz1 : Nat → Nat) (sq1 : Nat → Nat), r = ((q_wide nn x y z).1) ∧ (u11 = (q_wide nn x y z).2.1) ∧ (u21 = (q_wide nn x y z).2.2.1) ∧ (u31 = (q_wide nn x y z).2.2.2) ∧ (gv1 = zEV gv (q_wide nn x y z).2.1) ∧ (nl1 = nl) ∧ (gu1 = gu) ∧ (nn1 = if 0 ≤ r then nn + 1 else nn) ∧ (gk1 = if 0 ≤ r then va_up gk nn 2 else gk) ∧ (ln1 = if 0 ≤ r then va_up ln nn (3) else ln) ∧ (gw1 = if 0 ≤ r then va_up gw nn 0 else gw) ∧ (gh1 = if 0 ≤ r then va_up gh nn (zHash 2 nn (3) (q3 x.toInt64 y.toInt64 z.toInt64) gh) else gh) ∧ (zGC nn (0 ≤ r) (3) (q3 x.toInt64 y.toInt64 z.toInt64) gc gc1) ∧ (nf1 = nf) ∧ (fz1 = fz) ∧ (gq1 = gq) ∧ (nc1 = nc) ∧ (ge11 = ge1) ∧ (gn11 = gn1) ∧ (gp11 = gp1) ∧ (sq1 = sq) ∧ (ks1 = ks) ∧ (gx11 = gx1) ∧ (gx21 = gx2) ∧ (gx31 = gx3) ∧ (lk1 = lk) ∧ ((0 ≤ r → ∃ jl, jl ≤ nn ∧ gl1 = upd gl nn (nI jl) ∧ (jl < nn → zLC1 gk1 gl gc1 ln nn (3) jl) ∧ ∀ o, o < jl → ¬ zLC1 gk1 gl gc1 ln nn (3) o) ∧ (¬ 0 ≤ r → gl1 = gl)) ∧ zIM cy f1 o wev wnb wki wmy wce wiw wli wha wwt wfy wfk wem wna wpl whs wk1 wk2 wk3 u11 u21 u31 nl1 nn1 nf1 nc1 lk1 ks1 gv1 gu1 gk1 gm1 gc1 gw1 gl1 gh1 gt1 gy1 gq1 ge11 gn11 gp11 gs1 gx11 gx21 gx31 ln1 fz1 sq1) := by
  intro sz
  refine z_body (by decide +kernel) (Nat.le_of_ble_eq_true rfl) ?_
  intro p e s m below meth c ls C hr hin hsz hz hl
  subst hsz
  have hx := C.1
  have hb := C.2.1
  have hA : ∀ q, s.heap.size ≤ q → zA f s.heap.size q := fun q h => Or.inr h
  have hS : va_S (zA f s.heap.size) s.heap s.heap [] := va_S.rf
  have hl : lv_has ls 4 [(0, .ref o), (1, .int x), (2, .int y), (3, .int z)] := hl
  obtain ⟨x_o, x_wev, x_wnb, x_wki, x_wmy, x_wce, x_wiw, x_wli, x_wha, x_wwt, x_wfy, x_wfk, x_wem, x_wna, x_wpl, x_whs, x_wk1, x_wk2, x_wk3, hn60, hl12, hf6, hc60, hs40, hMP, hgy, hfz, hgs, hME, hlk, hgw, hfd, n_wki_wmy, n_wki_wiw, n_wki_wli, n_wki_wha, n_wki_wem, n_wki_wna, n_wki_wpl, n_wmy_wiw, n_wmy_wli, n_wmy_wha, n_wmy_wem, n_wmy_wna, n_wmy_wpl, n_wiw_wli, n_wiw_wha, n_wiw_wem, n_wiw_wna, n_wiw_wpl, n_wli_wha, n_wli_wem, n_wli_wna, n_wli_wpl, n_wha_wem, n_wha_wna, n_wha_wpl, n_wem_wna, n_wem_wpl, n_wna_wpl, n_wk1_wk2, n_wk1_wk3, n_wk2_wk3⟩ := id hI
  refine lv_aload_n hx hb dX8_wide_0 rfl (lv_at hl 0 rfl) ?_
  refine z_callVv (As := []) C hz hS hA hl (k_X8_begin l D cy f o wev wnb wki wmy wce wiw wli wha wwt wfy wfk wem wna wpl whs wk1 wk2 wk3 u1 u2 u3 nl nn nf nc lk ks x_o ) zyX8_begin mMX8_116 x_o zl8 rfl rfl (Nat.le_of_ble_eq_true rfl) ⟨Nat.le_of_ble_eq_true rfl, Nat.le_of_ble_eq_true rfl⟩ ⟨Nat.le_of_ble_eq_true rfl, Nat.le_of_ble_eq_true rfl⟩ dX8_wide_1 (fun  f1 H locs h2 hz hS => ?_)
  obtain ⟨a3, k4⟩ := h2
  refine lv_aload_n hx hb dX8_wide_4 rfl (lv_at hl 0 rfl) ?_
  refine z_get (v := .int (nI nn)) C hz a3 zl8 mFX8_83 (by decide) rfl dX8_wide_5 ?_
  refine lv_bipush (v := 60) hx hb dX8_wide_8 (by decide) ?_
  refine lv_icmp_ne (tgt := 16) hx hb dX8_wide_10 (by decide) (fun c5 => ?_) (fun c5 => ?_)
  · replace c5 : ¬ (nn = 60) := fun h => c5 ((nI_eq (a := nn) (b := 60) (by omega) (by omega)).mpr h)
    have h60 : nn < 60 := by omega
    refine lv_iload_n hx hb dX8_wide_16 rfl (lv_at hl 1 rfl) ?_
    refine lv_iload_n hx hb dX8_wide_17 rfl (lv_at hl 2 rfl) ?_
    refine lv_icmp_le (tgt := 30) hx hb dX8_wide_18 (by decide) (fun c6 => ?_) (fun c6 => ?_)
    · refine lv_iload_n hx hb dX8_wide_30 rfl (lv_at hl 3 rfl) ?_
      refine lv_if_ne (tgt := 43) hx hb dX8_wide_31 (by decide) (fun c7 => ?_) (fun c7 => ?_)
      · have hz0 := c7
        refine lv_iload_n hx hb dX8_wide_43 rfl (lv_at hl 2 rfl) ?_
        refine lv_iload_n hx hb dX8_wide_44 rfl (lv_at hl 1 rfl) ?_
        refine lv_isub hx hb dX8_wide_45 ?_
        refine lv_iload_n hx hb dX8_wide_46 rfl (lv_at hl 3 rfl) ?_
        refine lv_irem hx hb dX8_wide_47 c7 ?_
        refine lv_if_eq (tgt := 60) hx hb dX8_wide_48 (by decide) (fun c8 => ?_) (fun c8 => ?_)
        · refine lv_aload_n hx hb dX8_wide_60 rfl (lv_at hl 0 rfl) ?_
          refine lv_iconst (v := 2) hx hb dX8_wide_61 (by decide) ?_
          have a9 : f1 wki = some (.inl (cy 0, 60, .inl gk)) := k4 _ _ x_wki (z_ne x_wki x_o rfl)
          have a10 : f1 wmy = some (.inl (cy 0, 60, .inl gm)) := k4 _ _ x_wmy (z_ne x_wmy x_o rfl)
          refine z_callVv (As := [.int 2]) C hz hS hA hl (k_X8_start l D cy f1 o wev wnb wki wmy wce wiw wli wha wwt wfy wfk wem wna wpl whs wk1 wk2 wk3 0 (-1) 0 nl nn nf nc lk ks gk gm 2 a3 a9 a10 (by omega) n_wki_wmy) zyX8_start mMX8_119 a3 zl8 rfl rfl (Nat.le_of_ble_eq_true rfl) ⟨Nat.le_of_ble_eq_true rfl, Nat.le_of_ble_eq_true rfl⟩ ⟨Nat.le_of_ble_eq_true rfl, Nat.le_of_ble_eq_true rfl⟩ dX8_wide_62 (fun  f11 H locs h12 hz hS => ?_)
          obtain ⟨a13, a14, k15⟩ := h12
          refine lv_aload_n hx hb dX8_wide_65 rfl (lv_at hl 0 rfl) ?_
          refine lv_iload_n hx hb dX8_wide_66 rfl (lv_at hl 1 rfl) ?_
          refine lv_i2l (v := x.toInt64) hx hb dX8_wide_67 rfl ?_
          have a16 : f11 o = some (.inr (8, [.int 0, .int (-1), .int 0, .ref wev, .int (nI nl), .ref wnb, .int (nI nn), .ref wki, .ref wmy, .ref wce, .ref wiw, .ref wli, .ref wha, .ref wwt, .int (nI nf), .ref wfy, .ref wfk, .int (nI nc), .ref wem, .ref wna, .ref wpl, .ref whs, .long lk, .int (nI ks), .ref wk1, .ref wk2, .ref wk3])) := k15 _ _ a3 (z_ne a3 a9 rfl) (z_ne a3 a10 rfl)
          have a17 : f1 wce = some (.inl (cy 1, 960, .inr (.inl gc))) := k4 _ _ x_wce (z_ne x_wce x_o rfl)
          have a18 : f11 wce = some (.inl (cy 1, 960, .inr (.inl gc))) := k15 _ _ a17 (z_ne a17 a9 rfl) (z_ne a17 a10 rfl)
          refine z_callVv (As := [.long x.toInt64]) C hz hS hA hl (k_X8_part l D cy f11 o wev wnb wki wmy wce wiw wli wha wwt wfy wfk wem wna wpl whs wk1 wk2 wk3 0 (-1) 0 nl nn nf nc lk ks gc (upd gm nn 0) x.toInt64 0 a16 a18 a14 (by omega) pk_us (by omega)) zyX8_part mMX8_127 a16 zl8 rfl rfl (Nat.le_of_ble_eq_true rfl) ⟨Nat.le_of_ble_eq_true rfl, Nat.le_of_ble_eq_true rfl⟩ ⟨Nat.le_of_ble_eq_true rfl, Nat.le_of_ble_eq_true rfl⟩ dX8_wide_68 (fun  f19 H locs h20 hz hS => ?_)
          obtain ⟨a21, a22, k23⟩ := h20
          refine lv_aload_n hx hb dX8_wide_71 rfl (lv_at hl 0 rfl) ?_
          refine lv_iload_n hx hb dX8_wide_72 rfl (lv_at hl 2 rfl) ?_
          refine lv_i2l (v := y.toInt64) hx hb dX8_wide_73 rfl ?_
          have a24 : f19 o = some (.inr (8, [.int 0, .int (-1), .int 0, .ref wev, .int (nI nl), .ref wnb, .int (nI nn), .ref wki, .ref wmy, .ref wce, .ref wiw, .ref wli, .ref wha, .ref wwt, .int (nI nf), .ref wfy, .ref wfk, .int (nI nc), .ref wem, .ref wna, .ref wpl, .ref whs, .long lk, .int (nI ks), .ref wk1, .ref wk2, .ref wk3])) := k23 _ _ a16 (z_ne a16 a18 rfl) (z_ne a16 a14 rfl)
          refine z_callVv (As := [.long y.toInt64]) C hz hS hA hl (k_X8_part l D cy f19 o wev wnb wki wmy wce wiw wli wha wwt wfy wfk wem wna wpl whs wk1 wk2 wk3 0 (-1) 0 nl nn nf nc lk ks (vp_updL gc (16 * nn + 0) x.toInt64) (upd (upd gm nn 0) nn (nI (0 + 1))) y.toInt64 1 a24 a21 a22 (by omega) pk_us (by omega)) zyX8_part mMX8_127 a24 zl8 rfl rfl (Nat.le_of_ble_eq_true rfl) ⟨Nat.le_of_ble_eq_true rfl, Nat.le_of_ble_eq_true rfl⟩ ⟨Nat.le_of_ble_eq_true rfl, Nat.le_of_ble_eq_true rfl⟩ dX8_wide_74 (fun  f25 H locs h26 hz hS => ?_)
          obtain ⟨a27, a28, k29⟩ := h26
          refine lv_aload_n hx hb dX8_wide_77 rfl (lv_at hl 0 rfl) ?_
          refine lv_iload_n hx hb dX8_wide_78 rfl (lv_at hl 3 rfl) ?_
          refine lv_i2l (v := z.toInt64) hx hb dX8_wide_79 rfl ?_
          have a30 : f25 o = some (.inr (8, [.int 0, .int (-1), .int 0, .ref wev, .int (nI nl), .ref wnb, .int (nI nn), .ref wki, .ref wmy, .ref wce, .ref wiw, .ref wli, .ref wha, .ref wwt, .int (nI nf), .ref wfy, .ref wfk, .int (nI nc), .ref wem, .ref wna, .ref wpl, .ref whs, .long lk, .int (nI ks), .ref wk1, .ref wk2, .ref wk3])) := k29 _ _ a24 (z_ne a24 a21 rfl) (z_ne a24 a22 rfl)
          refine z_callVv (As := [.long z.toInt64]) C hz hS hA hl (k_X8_part l D cy f25 o wev wnb wki wmy wce wiw wli wha wwt wfy wfk wem wna wpl whs wk1 wk2 wk3 0 (-1) 0 nl nn nf nc lk ks (vp_updL (vp_updL gc (16 * nn + 0) x.toInt64) (16 * nn + 1) y.toInt64) (upd (upd (upd gm nn 0) nn (nI (0 + 1))) nn (nI (1 + 1))) z.toInt64 2 a30 a27 a28 (by omega) pk_us (by omega)) zyX8_part mMX8_127 a30 zl8 rfl rfl (Nat.le_of_ble_eq_true rfl) ⟨Nat.le_of_ble_eq_true rfl, Nat.le_of_ble_eq_true rfl⟩ ⟨Nat.le_of_ble_eq_true rfl, Nat.le_of_ble_eq_true rfl⟩ dX8_wide_80 (fun  f31 H locs h32 hz hS => ?_)
          obtain ⟨a33, a34, k35⟩ := h32
          refine lv_aload_n hx hb dX8_wide_83 rfl (lv_at hl 0 rfl) ?_
          have a36 : f31 o = some (.inr (8, [.int 0, .int (-1), .int 0, .ref wev, .int (nI nl), .ref wnb, .int (nI nn), .ref wki, .ref wmy, .ref wce, .ref wiw, .ref wli, .ref wha, .ref wwt, .int (nI nf), .ref wfy, .ref wfk, .int (nI nc), .ref wem, .ref wna, .ref wpl, .ref whs, .long lk, .int (nI ks), .ref wk1, .ref wk2, .ref wk3])) := k35 _ _ a30 (z_ne a30 a27 rfl) (z_ne a30 a28 rfl)
          have a37 : f19 wki = some (.inl (cy 0, 60, .inl (upd gk nn 2))) := k23 _ _ a13 (z_ne a13 a18 rfl) n_wki_wmy
          have a38 : f25 wki = some (.inl (cy 0, 60, .inl (upd gk nn 2))) := k29 _ _ a37 (z_ne a37 a21 rfl) n_wki_wmy
          have a39 : f31 wki = some (.inl (cy 0, 60, .inl (upd gk nn 2))) := k35 _ _ a38 (z_ne a38 a27 rfl) n_wki_wmy
          have a40 : f1 wli = some (.inl (cy 0, 60, .inl gl)) := k4 _ _ x_wli (z_ne x_wli x_o rfl)
          have a41 : f11 wli = some (.inl (cy 0, 60, .inl gl)) := k15 _ _ a40 (Ne.symm n_wki_wli) (Ne.symm n_wmy_wli)
          have a42 : f19 wli = some (.inl (cy 0, 60, .inl gl)) := k23 _ _ a41 (z_ne a41 a18 rfl) (Ne.symm n_wmy_wli)
          have a43 : f25 wli = some (.inl (cy 0, 60, .inl gl)) := k29 _ _ a42 (z_ne a42 a21 rfl) (Ne.symm n_wmy_wli)
          have a44 : f31 wli = some (.inl (cy 0, 60, .inl gl)) := k35 _ _ a43 (z_ne a43 a27 rfl) (Ne.symm n_wmy_wli)
          have a45 : f1 wha = some (.inl (cy 0, 60, .inl gh)) := k4 _ _ x_wha (z_ne x_wha x_o rfl)
          have a46 : f11 wha = some (.inl (cy 0, 60, .inl gh)) := k15 _ _ a45 (Ne.symm n_wki_wha) (Ne.symm n_wmy_wha)
          have a47 : f19 wha = some (.inl (cy 0, 60, .inl gh)) := k23 _ _ a46 (z_ne a46 a18 rfl) (Ne.symm n_wmy_wha)
          have a48 : f25 wha = some (.inl (cy 0, 60, .inl gh)) := k29 _ _ a47 (z_ne a47 a21 rfl) (Ne.symm n_wmy_wha)
          have a49 : f31 wha = some (.inl (cy 0, 60, .inl gh)) := k35 _ _ a48 (z_ne a48 a27 rfl) (Ne.symm n_wmy_wha)
          refine z_callVi (As := []) C hz hS hA hl (k_X8_made l D cy f31 o wev wnb wki wmy wce wiw wli wha wwt wfy wfk wem wna wpl whs wk1 wk2 wk3 0 (-1) 0 nl nn nf nc lk ks (upd gk nn 2) (upd (upd (upd (upd gm nn 0) nn (nI (0 + 1))) nn (nI (1 + 1))) nn (nI (2 + 1))) (vp_updL (vp_updL (vp_updL gc (16 * nn + 0) x.toInt64) (16 * nn + 1) y.toInt64) (16 * nn + 2) z.toInt64) gl gh ln 3 a36 a39 a34 a33 a44 a49 (by omega) (zMP_keep hMP (fun i9 h9 => by simp only [upd, if_neg (show ¬ i9 = nn by omega)]) (fun i9 h9 => by simp only [upd, if_neg (show ¬ i9 = nn by omega)]) (fun i9 h9 j9 h8 => by simp (disch := omega) only [pk_uLn])) pk_us (by omega) (by rw [pk_us]; exact fun h9 => absurd h9 (by decide)) n_wki_wmy n_wki_wli n_wki_wha n_wmy_wli n_wmy_wha n_wli_wha) zyX8_made mMX8_131 a36 zl8 rfl rfl (Nat.le_of_ble_eq_true rfl) ⟨Nat.le_of_ble_eq_true rfl, Nat.le_of_ble_eq_true rfl⟩ ⟨Nat.le_of_ble_eq_true rfl, Nat.le_of_ble_eq_true rfl⟩ dX8_wide_84 (fun r f50 H locs h51 hz hS => ?_)
          obtain ⟨jl_52, rfl, pq53, pq54, pq55, a56, a57, a58, k59⟩ := h51
          have a60 : f1 wev = some (.inl (cy 0, 8, .inl gv)) := k4 _ _ x_wev (z_ne x_wev x_o rfl)
          have a61 : f11 wev = some (.inl (cy 0, 8, .inl gv)) := k15 _ _ a60 (z_ne a60 a9 rfl) (z_ne a60 a10 rfl)
          have a62 : f19 wev = some (.inl (cy 0, 8, .inl gv)) := k23 _ _ a61 (z_ne a61 a18 rfl) (z_ne a61 a14 rfl)
          have a63 : f25 wev = some (.inl (cy 0, 8, .inl gv)) := k29 _ _ a62 (z_ne a62 a21 rfl) (z_ne a62 a22 rfl)
          have a64 : f31 wev = some (.inl (cy 0, 8, .inl gv)) := k35 _ _ a63 (z_ne a63 a27 rfl) (z_ne a63 a28 rfl)
          have a65 : f50 wev = some (.inl (cy 0, 8, .inl gv)) := k59 _ _ a64 (z_ne a64 a36 rfl) (z_ne a64 a44 rfl) (z_ne a64 a49 rfl)
          have a66 : f1 wnb = some (.inl (cy 0, 12, .inl gu)) := k4 _ _ x_wnb (z_ne x_wnb x_o rfl)
          have a67 : f11 wnb = some (.inl (cy 0, 12, .inl gu)) := k15 _ _ a66 (z_ne a66 a9 rfl) (z_ne a66 a10 rfl)
          have a68 : f19 wnb = some (.inl (cy 0, 12, .inl gu)) := k23 _ _ a67 (z_ne a67 a18 rfl) (z_ne a67 a14 rfl)
          have a69 : f25 wnb = some (.inl (cy 0, 12, .inl gu)) := k29 _ _ a68 (z_ne a68 a21 rfl) (z_ne a68 a22 rfl)
          have a70 : f31 wnb = some (.inl (cy 0, 12, .inl gu)) := k35 _ _ a69 (z_ne a69 a27 rfl) (z_ne a69 a28 rfl)
          have a71 : f50 wnb = some (.inl (cy 0, 12, .inl gu)) := k59 _ _ a70 (z_ne a70 a36 rfl) (z_ne a70 a44 rfl) (z_ne a70 a49 rfl)
          have a72 : f50 wki = some (.inl (cy 0, 60, .inl (upd gk nn 2))) := k59 _ _ a39 (z_ne a39 a36 rfl) n_wki_wli n_wki_wha
          have a73 : f50 wmy = some (.inl (cy 0, 60, .inl (upd (upd (upd (upd gm nn 0) nn (nI (0 + 1))) nn (nI (1 + 1))) nn (nI (2 + 1))))) := k59 _ _ a34 (z_ne a34 a36 rfl) n_wmy_wli n_wmy_wha
          have a74 : f50 wce = some (.inl (cy 1, 960, .inr (.inl (vp_updL (vp_updL (vp_updL gc (16 * nn + 0) x.toInt64) (16 * nn + 1) y.toInt64) (16 * nn + 2) z.toInt64)))) := k59 _ _ a33 (z_ne a33 a36 rfl) (z_ne a33 a44 rfl) (z_ne a33 a49 rfl)
          have a75 : f1 wiw = some (.inl (cy 2, 60, .inl gw)) := k4 _ _ x_wiw (z_ne x_wiw x_o rfl)
          have a76 : f11 wiw = some (.inl (cy 2, 60, .inl gw)) := k15 _ _ a75 (Ne.symm n_wki_wiw) (Ne.symm n_wmy_wiw)
          have a77 : f19 wiw = some (.inl (cy 2, 60, .inl gw)) := k23 _ _ a76 (z_ne a76 a18 rfl) (Ne.symm n_wmy_wiw)
          have a78 : f25 wiw = some (.inl (cy 2, 60, .inl gw)) := k29 _ _ a77 (z_ne a77 a21 rfl) (Ne.symm n_wmy_wiw)
          have a79 : f31 wiw = some (.inl (cy 2, 60, .inl gw)) := k35 _ _ a78 (z_ne a78 a27 rfl) (Ne.symm n_wmy_wiw)
          have a80 : f50 wiw = some (.inl (cy 2, 60, .inl gw)) := k59 _ _ a79 (z_ne a79 a36 rfl) n_wiw_wli n_wiw_wha
          have a81 : f1 wwt = some (.inl (cy 1, 60, .inr (.inl gt))) := k4 _ _ x_wwt (z_ne x_wwt x_o rfl)
          have a82 : f11 wwt = some (.inl (cy 1, 60, .inr (.inl gt))) := k15 _ _ a81 (z_ne a81 a9 rfl) (z_ne a81 a10 rfl)
          have a83 : f19 wwt = some (.inl (cy 1, 60, .inr (.inl gt))) := k23 _ _ a82 (z_ne a82 a18 rfl) (z_ne a82 a14 rfl)
          have a84 : f25 wwt = some (.inl (cy 1, 60, .inr (.inl gt))) := k29 _ _ a83 (z_ne a83 a21 rfl) (z_ne a83 a22 rfl)
          have a85 : f31 wwt = some (.inl (cy 1, 60, .inr (.inl gt))) := k35 _ _ a84 (z_ne a84 a27 rfl) (z_ne a84 a28 rfl)
          have a86 : f50 wwt = some (.inl (cy 1, 60, .inr (.inl gt))) := k59 _ _ a85 (z_ne a85 a36 rfl) (z_ne a85 a44 rfl) (z_ne a85 a49 rfl)
          have a87 : f1 wfy = some (.inl (cy 0, 6, .inl gy)) := k4 _ _ x_wfy (z_ne x_wfy x_o rfl)
          have a88 : f11 wfy = some (.inl (cy 0, 6, .inl gy)) := k15 _ _ a87 (z_ne a87 a9 rfl) (z_ne a87 a10 rfl)
          have a89 : f19 wfy = some (.inl (cy 0, 6, .inl gy)) := k23 _ _ a88 (z_ne a88 a18 rfl) (z_ne a88 a14 rfl)
          have a90 : f25 wfy = some (.inl (cy 0, 6, .inl gy)) := k29 _ _ a89 (z_ne a89 a21 rfl) (z_ne a89 a22 rfl)
          have a91 : f31 wfy = some (.inl (cy 0, 6, .inl gy)) := k35 _ _ a90 (z_ne a90 a27 rfl) (z_ne a90 a28 rfl)
          have a92 : f50 wfy = some (.inl (cy 0, 6, .inl gy)) := k59 _ _ a91 (z_ne a91 a36 rfl) (z_ne a91 a44 rfl) (z_ne a91 a49 rfl)
          have a93 : f1 wfk = some (.inl (cy 0, 24, .inl gq)) := k4 _ _ x_wfk (z_ne x_wfk x_o rfl)
          have a94 : f11 wfk = some (.inl (cy 0, 24, .inl gq)) := k15 _ _ a93 (z_ne a93 a9 rfl) (z_ne a93 a10 rfl)
          have a95 : f19 wfk = some (.inl (cy 0, 24, .inl gq)) := k23 _ _ a94 (z_ne a94 a18 rfl) (z_ne a94 a14 rfl)
          have a96 : f25 wfk = some (.inl (cy 0, 24, .inl gq)) := k29 _ _ a95 (z_ne a95 a21 rfl) (z_ne a95 a22 rfl)
          have a97 : f31 wfk = some (.inl (cy 0, 24, .inl gq)) := k35 _ _ a96 (z_ne a96 a27 rfl) (z_ne a96 a28 rfl)
          have a98 : f50 wfk = some (.inl (cy 0, 24, .inl gq)) := k59 _ _ a97 (z_ne a97 a36 rfl) (z_ne a97 a44 rfl) (z_ne a97 a49 rfl)
          have a99 : f1 wem = some (.inl (cy 0, 60, .inl ge1)) := k4 _ _ x_wem (z_ne x_wem x_o rfl)
          have a100 : f11 wem = some (.inl (cy 0, 60, .inl ge1)) := k15 _ _ a99 (Ne.symm n_wki_wem) (Ne.symm n_wmy_wem)
          have a101 : f19 wem = some (.inl (cy 0, 60, .inl ge1)) := k23 _ _ a100 (z_ne a100 a18 rfl) (Ne.symm n_wmy_wem)
          have a102 : f25 wem = some (.inl (cy 0, 60, .inl ge1)) := k29 _ _ a101 (z_ne a101 a21 rfl) (Ne.symm n_wmy_wem)
          have a103 : f31 wem = some (.inl (cy 0, 60, .inl ge1)) := k35 _ _ a102 (z_ne a102 a27 rfl) (Ne.symm n_wmy_wem)
          have a104 : f50 wem = some (.inl (cy 0, 60, .inl ge1)) := k59 _ _ a103 (z_ne a103 a36 rfl) (Ne.symm n_wli_wem) (Ne.symm n_wha_wem)
          have a105 : f1 wna = some (.inl (cy 0, 60, .inl gn1)) := k4 _ _ x_wna (z_ne x_wna x_o rfl)
          have a106 : f11 wna = some (.inl (cy 0, 60, .inl gn1)) := k15 _ _ a105 (Ne.symm n_wki_wna) (Ne.symm n_wmy_wna)
          have a107 : f19 wna = some (.inl (cy 0, 60, .inl gn1)) := k23 _ _ a106 (z_ne a106 a18 rfl) (Ne.symm n_wmy_wna)
          have a108 : f25 wna = some (.inl (cy 0, 60, .inl gn1)) := k29 _ _ a107 (z_ne a107 a21 rfl) (Ne.symm n_wmy_wna)
          have a109 : f31 wna = some (.inl (cy 0, 60, .inl gn1)) := k35 _ _ a108 (z_ne a108 a27 rfl) (Ne.symm n_wmy_wna)
          have a110 : f50 wna = some (.inl (cy 0, 60, .inl gn1)) := k59 _ _ a109 (z_ne a109 a36 rfl) (Ne.symm n_wli_wna) (Ne.symm n_wha_wna)
          have a111 : f1 wpl = some (.inl (cy 0, 60, .inl gp1)) := k4 _ _ x_wpl (z_ne x_wpl x_o rfl)
          have a112 : f11 wpl = some (.inl (cy 0, 60, .inl gp1)) := k15 _ _ a111 (Ne.symm n_wki_wpl) (Ne.symm n_wmy_wpl)
          have a113 : f19 wpl = some (.inl (cy 0, 60, .inl gp1)) := k23 _ _ a112 (z_ne a112 a18 rfl) (Ne.symm n_wmy_wpl)
          have a114 : f25 wpl = some (.inl (cy 0, 60, .inl gp1)) := k29 _ _ a113 (z_ne a113 a21 rfl) (Ne.symm n_wmy_wpl)
          have a115 : f31 wpl = some (.inl (cy 0, 60, .inl gp1)) := k35 _ _ a114 (z_ne a114 a27 rfl) (Ne.symm n_wmy_wpl)
          have a116 : f50 wpl = some (.inl (cy 0, 60, .inl gp1)) := k59 _ _ a115 (z_ne a115 a36 rfl) (Ne.symm n_wli_wpl) (Ne.symm n_wha_wpl)
          have a117 : f1 whs = some (.inl (cy 0, 4, .inl gs)) := k4 _ _ x_whs (z_ne x_whs x_o rfl)
          have a118 : f11 whs = some (.inl (cy 0, 4, .inl gs)) := k15 _ _ a117 (z_ne a117 a9 rfl) (z_ne a117 a10 rfl)
          have a119 : f19 whs = some (.inl (cy 0, 4, .inl gs)) := k23 _ _ a118 (z_ne a118 a18 rfl) (z_ne a118 a14 rfl)
          have a120 : f25 whs = some (.inl (cy 0, 4, .inl gs)) := k29 _ _ a119 (z_ne a119 a21 rfl) (z_ne a119 a22 rfl)
          have a121 : f31 whs = some (.inl (cy 0, 4, .inl gs)) := k35 _ _ a120 (z_ne a120 a27 rfl) (z_ne a120 a28 rfl)
          have a122 : f50 whs = some (.inl (cy 0, 4, .inl gs)) := k59 _ _ a121 (z_ne a121 a36 rfl) (z_ne a121 a44 rfl) (z_ne a121 a49 rfl)
          have a123 : f1 wk1 = some (.inl (cy 0, 40, .inl gx1)) := k4 _ _ x_wk1 (z_ne x_wk1 x_o rfl)
          have a124 : f11 wk1 = some (.inl (cy 0, 40, .inl gx1)) := k15 _ _ a123 (z_ne a123 a9 rfl) (z_ne a123 a10 rfl)
          have a125 : f19 wk1 = some (.inl (cy 0, 40, .inl gx1)) := k23 _ _ a124 (z_ne a124 a18 rfl) (z_ne a124 a14 rfl)
          have a126 : f25 wk1 = some (.inl (cy 0, 40, .inl gx1)) := k29 _ _ a125 (z_ne a125 a21 rfl) (z_ne a125 a22 rfl)
          have a127 : f31 wk1 = some (.inl (cy 0, 40, .inl gx1)) := k35 _ _ a126 (z_ne a126 a27 rfl) (z_ne a126 a28 rfl)
          have a128 : f50 wk1 = some (.inl (cy 0, 40, .inl gx1)) := k59 _ _ a127 (z_ne a127 a36 rfl) (z_ne a127 a44 rfl) (z_ne a127 a49 rfl)
          have a129 : f1 wk2 = some (.inl (cy 0, 40, .inl gx2)) := k4 _ _ x_wk2 (z_ne x_wk2 x_o rfl)
          have a130 : f11 wk2 = some (.inl (cy 0, 40, .inl gx2)) := k15 _ _ a129 (z_ne a129 a9 rfl) (z_ne a129 a10 rfl)
          have a131 : f19 wk2 = some (.inl (cy 0, 40, .inl gx2)) := k23 _ _ a130 (z_ne a130 a18 rfl) (z_ne a130 a14 rfl)
          have a132 : f25 wk2 = some (.inl (cy 0, 40, .inl gx2)) := k29 _ _ a131 (z_ne a131 a21 rfl) (z_ne a131 a22 rfl)
          have a133 : f31 wk2 = some (.inl (cy 0, 40, .inl gx2)) := k35 _ _ a132 (z_ne a132 a27 rfl) (z_ne a132 a28 rfl)
          have a134 : f50 wk2 = some (.inl (cy 0, 40, .inl gx2)) := k59 _ _ a133 (z_ne a133 a36 rfl) (z_ne a133 a44 rfl) (z_ne a133 a49 rfl)
          have a135 : f1 wk3 = some (.inl (cy 0, 40, .inl gx3)) := k4 _ _ x_wk3 (z_ne x_wk3 x_o rfl)
          have a136 : f11 wk3 = some (.inl (cy 0, 40, .inl gx3)) := k15 _ _ a135 (z_ne a135 a9 rfl) (z_ne a135 a10 rfl)
          have a137 : f19 wk3 = some (.inl (cy 0, 40, .inl gx3)) := k23 _ _ a136 (z_ne a136 a18 rfl) (z_ne a136 a14 rfl)
          have a138 : f25 wk3 = some (.inl (cy 0, 40, .inl gx3)) := k29 _ _ a137 (z_ne a137 a21 rfl) (z_ne a137 a22 rfl)
          have a139 : f31 wk3 = some (.inl (cy 0, 40, .inl gx3)) := k35 _ _ a138 (z_ne a138 a27 rfl) (z_ne a138 a28 rfl)
          have a140 : f50 wk3 = some (.inl (cy 0, 40, .inl gx3)) := k59 _ _ a139 (z_ne a139 a36 rfl) (z_ne a139 a44 rfl) (z_ne a139 a49 rfl)
          have hgpf : ∀ j, j < 3 → (vp_updL (vp_updL (vp_updL gc (16 * nn + 0) x.toInt64) (16 * nn + 1) y.toInt64) (16 * nn + 2) z.toInt64) (16 * nn + j) = (q3 x.toInt64 y.toInt64 z.toInt64) j := (z_m3 _ _ _ _ _)
          have hgkp : ∀ i, i < nn → ∀ j, j < 16 → (vp_updL (vp_updL (vp_updL gc (16 * nn + 0) x.toInt64) (16 * nn + 1) y.toInt64) (16 * nn + 2) z.toInt64) (16 * i + j) = gc (16 * i + j) := (fun i9 h9 j9 h8 => by simp (disch := omega) only [pk_uLn])
          have hq : q_wide nn x y z = (nI nn, 0, (-1), 0) := by simp [q_wide, h60, c6, c7, c8]
          exact z_iret C hr rfl hz hS ⟨0, (-1), 0, nl, (nn + 1), nf, nc, lk, ks, gv, gu, (upd gk nn 2), (upd (upd (upd (upd gm nn 0) nn (nI (0 + 1))) nn (nI (1 + 1))) nn (nI (2 + 1))), (vp_updL (vp_updL (vp_updL gc (16 * nn + 0) x.toInt64) (16 * nn + 1) y.toInt64) (16 * nn + 2) z.toInt64), gw, (upd gl nn (nI jl_52)), (upd gh nn (zHash ((upd gk nn 2) nn) nn 3 (fun k => (vp_updL (vp_updL (vp_updL gc (16 * nn + 0) x.toInt64) (16 * nn + 1) y.toInt64) (16 * nn + 2) z.toInt64) (16 * nn + k)) gh)), gt, gy, gq, ge1, gn1, gp1, gs, gx1, gx2, gx3, (va_up ln nn 3), fz, sq, (by rw [hq]), (by rw [hq]), (by rw [hq]), (by rw [hq]), (by rw [hq]; exact (zEV0 gv).symm), rfl, rfl, (by rw [if_pos (nI_pos' (by omega))]), (by rw [if_pos (nI_pos' (by omega))]; exact z_uv _ _ _), (by rw [if_pos (nI_pos' (by omega))]), (by rw [if_pos (nI_pos' (by omega))]; exact z_gw0 hgw), (by rw [if_pos (nI_pos' (by omega))]; exact z_hs1 pk_us rfl hgpf), ⟨hgkp, fun _ => hgpf⟩, rfl, rfl, rfl, rfl, rfl, rfl, rfl, rfl, rfl, rfl, rfl, rfl, rfl, ⟨fun _ => ⟨jl_52, pq53, rfl, pq54, pq55⟩, fun h9 => absurd (nI_pos' (by omega)) h9⟩, ⟨a56, a65, a71, a72, a73, a74, a80, a57, a58, a86, a92, a98, a104, a110, a116, a122, a128, a134, a140, (by omega), hl12, hf6, hc60, hs40, (zMP_new (zMP_keep hMP (fun i9 h9 => by simp only [upd, if_neg (show ¬ i9 = nn by omega)]) (fun i9 h9 => by simp only [upd, if_neg (show ¬ i9 = nn by omega)]) (fun i9 h9 j9 h8 => by simp (disch := omega) only [pk_uLn])) pk_us (by rw [pk_us]; exact ⟨by omega, fun h9 => absurd h9 (by decide), fun _ => by rw [show 16 * nn + (1 + 1) = 16 * nn + 2 from rfl, pk_uLs]; exact z_tl0 hz0, fun h9 => absurd h9 (by decide)⟩)), hgy, hfz, hgs, hME, hlk, (fun i9 h9 => hgw i9 (by omega)), hfd, n_wki_wmy, n_wki_wiw, n_wki_wli, n_wki_wha, n_wki_wem, n_wki_wna, n_wki_wpl, n_wmy_wiw, n_wmy_wli, n_wmy_wha, n_wmy_wem, n_wmy_wna, n_wmy_wpl, n_wiw_wli, n_wiw_wha, n_wiw_wem, n_wiw_wna, n_wiw_wpl, n_wli_wha, n_wli_wem, n_wli_wna, n_wli_wpl, n_wha_wem, n_wha_wna, n_wha_wpl, n_wem_wna, n_wem_wpl, n_wna_wpl, n_wk1_wk2, n_wk1_wk3, n_wk2_wk3⟩⟩ (Nat.le_of_ble_eq_true rfl) (Nat.le_of_ble_eq_true rfl) dX8_wide_87
        · refine lv_aload_n hx hb dX8_wide_51 rfl (lv_at hl 0 rfl) ?_
          refine lv_bipush (v := 7) hx hb dX8_wide_52 (by decide) ?_
          refine lv_iconst (v := 2) hx hb dX8_wide_54 (by decide) ?_
          refine lv_iconst (v := 2) hx hb dX8_wide_55 (by decide) ?_
          have a141 : f1 wev = some (.inl (cy 0, 8, .inl gv)) := k4 _ _ x_wev (z_ne x_wev x_o rfl)
          refine z_callVi (As := [.int 7, .int 2, .int 2]) C hz hS hA hl (k_X8_fails l D cy f1 o wev wnb wki wmy wce wiw wli wha wwt wfy wfk wem wna wpl whs wk1 wk2 wk3 0 (-1) 0 nl nn nf nc lk ks 7 2 2 gv 7 a3 a141 (by decide) (Nat.le_of_ble_eq_true rfl)) zyX8_fails mMX8_135 a3 zl8 rfl rfl (Nat.le_of_ble_eq_true rfl) ⟨Nat.le_of_ble_eq_true rfl, Nat.le_of_ble_eq_true rfl⟩ ⟨Nat.le_of_ble_eq_true rfl, Nat.le_of_ble_eq_true rfl⟩ dX8_wide_56 (fun r f142 H locs h143 hz hS => ?_)
          obtain ⟨rfl, a144, a145, k146⟩ := h143
          have a147 : f1 wnb = some (.inl (cy 0, 12, .inl gu)) := k4 _ _ x_wnb (z_ne x_wnb x_o rfl)
          have a148 : f142 wnb = some (.inl (cy 0, 12, .inl gu)) := k146 _ _ a147 (z_ne a147 a3 rfl) (z_ne a147 a141 rfl)
          have a149 : f1 wki = some (.inl (cy 0, 60, .inl gk)) := k4 _ _ x_wki (z_ne x_wki x_o rfl)
          have a150 : f142 wki = some (.inl (cy 0, 60, .inl gk)) := k146 _ _ a149 (z_ne a149 a3 rfl) (z_ne a149 a141 rfl)
          have a151 : f1 wmy = some (.inl (cy 0, 60, .inl gm)) := k4 _ _ x_wmy (z_ne x_wmy x_o rfl)
          have a152 : f142 wmy = some (.inl (cy 0, 60, .inl gm)) := k146 _ _ a151 (z_ne a151 a3 rfl) (z_ne a151 a141 rfl)
          have a153 : f1 wce = some (.inl (cy 1, 960, .inr (.inl gc))) := k4 _ _ x_wce (z_ne x_wce x_o rfl)
          have a154 : f142 wce = some (.inl (cy 1, 960, .inr (.inl gc))) := k146 _ _ a153 (z_ne a153 a3 rfl) (z_ne a153 a141 rfl)
          have a155 : f1 wiw = some (.inl (cy 2, 60, .inl gw)) := k4 _ _ x_wiw (z_ne x_wiw x_o rfl)
          have a156 : f142 wiw = some (.inl (cy 2, 60, .inl gw)) := k146 _ _ a155 (z_ne a155 a3 rfl) (z_ne a155 a141 rfl)
          have a157 : f1 wli = some (.inl (cy 0, 60, .inl gl)) := k4 _ _ x_wli (z_ne x_wli x_o rfl)
          have a158 : f142 wli = some (.inl (cy 0, 60, .inl gl)) := k146 _ _ a157 (z_ne a157 a3 rfl) (z_ne a157 a141 rfl)
          have a159 : f1 wha = some (.inl (cy 0, 60, .inl gh)) := k4 _ _ x_wha (z_ne x_wha x_o rfl)
          have a160 : f142 wha = some (.inl (cy 0, 60, .inl gh)) := k146 _ _ a159 (z_ne a159 a3 rfl) (z_ne a159 a141 rfl)
          have a161 : f1 wwt = some (.inl (cy 1, 60, .inr (.inl gt))) := k4 _ _ x_wwt (z_ne x_wwt x_o rfl)
          have a162 : f142 wwt = some (.inl (cy 1, 60, .inr (.inl gt))) := k146 _ _ a161 (z_ne a161 a3 rfl) (z_ne a161 a141 rfl)
          have a163 : f1 wfy = some (.inl (cy 0, 6, .inl gy)) := k4 _ _ x_wfy (z_ne x_wfy x_o rfl)
          have a164 : f142 wfy = some (.inl (cy 0, 6, .inl gy)) := k146 _ _ a163 (z_ne a163 a3 rfl) (z_ne a163 a141 rfl)
          have a165 : f1 wfk = some (.inl (cy 0, 24, .inl gq)) := k4 _ _ x_wfk (z_ne x_wfk x_o rfl)
          have a166 : f142 wfk = some (.inl (cy 0, 24, .inl gq)) := k146 _ _ a165 (z_ne a165 a3 rfl) (z_ne a165 a141 rfl)
          have a167 : f1 wem = some (.inl (cy 0, 60, .inl ge1)) := k4 _ _ x_wem (z_ne x_wem x_o rfl)
          have a168 : f142 wem = some (.inl (cy 0, 60, .inl ge1)) := k146 _ _ a167 (z_ne a167 a3 rfl) (z_ne a167 a141 rfl)
          have a169 : f1 wna = some (.inl (cy 0, 60, .inl gn1)) := k4 _ _ x_wna (z_ne x_wna x_o rfl)
          have a170 : f142 wna = some (.inl (cy 0, 60, .inl gn1)) := k146 _ _ a169 (z_ne a169 a3 rfl) (z_ne a169 a141 rfl)
          have a171 : f1 wpl = some (.inl (cy 0, 60, .inl gp1)) := k4 _ _ x_wpl (z_ne x_wpl x_o rfl)
          have a172 : f142 wpl = some (.inl (cy 0, 60, .inl gp1)) := k146 _ _ a171 (z_ne a171 a3 rfl) (z_ne a171 a141 rfl)
          have a173 : f1 whs = some (.inl (cy 0, 4, .inl gs)) := k4 _ _ x_whs (z_ne x_whs x_o rfl)
          have a174 : f142 whs = some (.inl (cy 0, 4, .inl gs)) := k146 _ _ a173 (z_ne a173 a3 rfl) (z_ne a173 a141 rfl)
          have a175 : f1 wk1 = some (.inl (cy 0, 40, .inl gx1)) := k4 _ _ x_wk1 (z_ne x_wk1 x_o rfl)
          have a176 : f142 wk1 = some (.inl (cy 0, 40, .inl gx1)) := k146 _ _ a175 (z_ne a175 a3 rfl) (z_ne a175 a141 rfl)
          have a177 : f1 wk2 = some (.inl (cy 0, 40, .inl gx2)) := k4 _ _ x_wk2 (z_ne x_wk2 x_o rfl)
          have a178 : f142 wk2 = some (.inl (cy 0, 40, .inl gx2)) := k146 _ _ a177 (z_ne a177 a3 rfl) (z_ne a177 a141 rfl)
          have a179 : f1 wk3 = some (.inl (cy 0, 40, .inl gx3)) := k4 _ _ x_wk3 (z_ne x_wk3 x_o rfl)
          have a180 : f142 wk3 = some (.inl (cy 0, 40, .inl gx3)) := k146 _ _ a179 (z_ne a179 a3 rfl) (z_ne a179 a141 rfl)
          have hq : q_wide nn x y z = ((-4), 7, 2, 2) := by simp [q_wide, h60, c6, c7, c8]
          exact z_iret C hr rfl hz hS ⟨7, 2, 2, nl, nn, nf, nc, lk, ks, (upd gv 7 (gv 7 + 1)), gu, gk, gm, gc, gw, gl, gh, gt, gy, gq, ge1, gn1, gp1, gs, gx1, gx2, gx3, ln, fz, sq, (by rw [hq]), (by rw [hq]), (by rw [hq]), (by rw [hq]), (by rw [hq]; exact (zEV7 gv).symm), rfl, rfl, (by rw [if_neg (by decide)]), (by rw [if_neg (by decide)]), (by rw [if_neg (by decide)]), (by rw [if_neg (by decide)]), (by rw [if_neg (by decide)]), (zGC_no (by decide)), rfl, rfl, rfl, rfl, rfl, rfl, rfl, rfl, rfl, rfl, rfl, rfl, rfl, ⟨fun h9 => absurd h9 (by decide), fun _ => rfl⟩, ⟨a144, a145, a148, a150, a152, a154, a156, a158, a160, a162, a164, a166, a168, a170, a172, a174, a176, a178, a180, hn60, hl12, hf6, hc60, hs40, hMP, hgy, hfz, hgs, hME, hlk, hgw, hfd, n_wki_wmy, n_wki_wiw, n_wki_wli, n_wki_wha, n_wki_wem, n_wki_wna, n_wki_wpl, n_wmy_wiw, n_wmy_wli, n_wmy_wha, n_wmy_wem, n_wmy_wna, n_wmy_wpl, n_wiw_wli, n_wiw_wha, n_wiw_wem, n_wiw_wna, n_wiw_wpl, n_wli_wha, n_wli_wem, n_wli_wna, n_wli_wpl, n_wha_wem, n_wha_wna, n_wha_wpl, n_wem_wna, n_wem_wpl, n_wna_wpl, n_wk1_wk2, n_wk1_wk3, n_wk2_wk3⟩⟩ (Nat.le_of_ble_eq_true rfl) (Nat.le_of_ble_eq_true rfl) dX8_wide_59
      · refine lv_aload_n hx hb dX8_wide_34 rfl (lv_at hl 0 rfl) ?_
        refine lv_bipush (v := 6) hx hb dX8_wide_35 (by decide) ?_
        refine lv_iconst (v := 2) hx hb dX8_wide_37 (by decide) ?_
        refine lv_iconst (v := 0) hx hb dX8_wide_38 (by decide) ?_
        have a181 : f1 wev = some (.inl (cy 0, 8, .inl gv)) := k4 _ _ x_wev (z_ne x_wev x_o rfl)
        refine z_callVi (As := [.int 6, .int 2, .int 0]) C hz hS hA hl (k_X8_fails l D cy f1 o wev wnb wki wmy wce wiw wli wha wwt wfy wfk wem wna wpl whs wk1 wk2 wk3 0 (-1) 0 nl nn nf nc lk ks 6 2 0 gv 6 a3 a181 (by decide) (Nat.le_of_ble_eq_true rfl)) zyX8_fails mMX8_135 a3 zl8 rfl rfl (Nat.le_of_ble_eq_true rfl) ⟨Nat.le_of_ble_eq_true rfl, Nat.le_of_ble_eq_true rfl⟩ ⟨Nat.le_of_ble_eq_true rfl, Nat.le_of_ble_eq_true rfl⟩ dX8_wide_39 (fun r f182 H locs h183 hz hS => ?_)
        obtain ⟨rfl, a184, a185, k186⟩ := h183
        have a187 : f1 wnb = some (.inl (cy 0, 12, .inl gu)) := k4 _ _ x_wnb (z_ne x_wnb x_o rfl)
        have a188 : f182 wnb = some (.inl (cy 0, 12, .inl gu)) := k186 _ _ a187 (z_ne a187 a3 rfl) (z_ne a187 a181 rfl)
        have a189 : f1 wki = some (.inl (cy 0, 60, .inl gk)) := k4 _ _ x_wki (z_ne x_wki x_o rfl)
        have a190 : f182 wki = some (.inl (cy 0, 60, .inl gk)) := k186 _ _ a189 (z_ne a189 a3 rfl) (z_ne a189 a181 rfl)
        have a191 : f1 wmy = some (.inl (cy 0, 60, .inl gm)) := k4 _ _ x_wmy (z_ne x_wmy x_o rfl)
        have a192 : f182 wmy = some (.inl (cy 0, 60, .inl gm)) := k186 _ _ a191 (z_ne a191 a3 rfl) (z_ne a191 a181 rfl)
        have a193 : f1 wce = some (.inl (cy 1, 960, .inr (.inl gc))) := k4 _ _ x_wce (z_ne x_wce x_o rfl)
        have a194 : f182 wce = some (.inl (cy 1, 960, .inr (.inl gc))) := k186 _ _ a193 (z_ne a193 a3 rfl) (z_ne a193 a181 rfl)
        have a195 : f1 wiw = some (.inl (cy 2, 60, .inl gw)) := k4 _ _ x_wiw (z_ne x_wiw x_o rfl)
        have a196 : f182 wiw = some (.inl (cy 2, 60, .inl gw)) := k186 _ _ a195 (z_ne a195 a3 rfl) (z_ne a195 a181 rfl)
        have a197 : f1 wli = some (.inl (cy 0, 60, .inl gl)) := k4 _ _ x_wli (z_ne x_wli x_o rfl)
        have a198 : f182 wli = some (.inl (cy 0, 60, .inl gl)) := k186 _ _ a197 (z_ne a197 a3 rfl) (z_ne a197 a181 rfl)
        have a199 : f1 wha = some (.inl (cy 0, 60, .inl gh)) := k4 _ _ x_wha (z_ne x_wha x_o rfl)
        have a200 : f182 wha = some (.inl (cy 0, 60, .inl gh)) := k186 _ _ a199 (z_ne a199 a3 rfl) (z_ne a199 a181 rfl)
        have a201 : f1 wwt = some (.inl (cy 1, 60, .inr (.inl gt))) := k4 _ _ x_wwt (z_ne x_wwt x_o rfl)
        have a202 : f182 wwt = some (.inl (cy 1, 60, .inr (.inl gt))) := k186 _ _ a201 (z_ne a201 a3 rfl) (z_ne a201 a181 rfl)
        have a203 : f1 wfy = some (.inl (cy 0, 6, .inl gy)) := k4 _ _ x_wfy (z_ne x_wfy x_o rfl)
        have a204 : f182 wfy = some (.inl (cy 0, 6, .inl gy)) := k186 _ _ a203 (z_ne a203 a3 rfl) (z_ne a203 a181 rfl)
        have a205 : f1 wfk = some (.inl (cy 0, 24, .inl gq)) := k4 _ _ x_wfk (z_ne x_wfk x_o rfl)
        have a206 : f182 wfk = some (.inl (cy 0, 24, .inl gq)) := k186 _ _ a205 (z_ne a205 a3 rfl) (z_ne a205 a181 rfl)
        have a207 : f1 wem = some (.inl (cy 0, 60, .inl ge1)) := k4 _ _ x_wem (z_ne x_wem x_o rfl)
        have a208 : f182 wem = some (.inl (cy 0, 60, .inl ge1)) := k186 _ _ a207 (z_ne a207 a3 rfl) (z_ne a207 a181 rfl)
        have a209 : f1 wna = some (.inl (cy 0, 60, .inl gn1)) := k4 _ _ x_wna (z_ne x_wna x_o rfl)
        have a210 : f182 wna = some (.inl (cy 0, 60, .inl gn1)) := k186 _ _ a209 (z_ne a209 a3 rfl) (z_ne a209 a181 rfl)
        have a211 : f1 wpl = some (.inl (cy 0, 60, .inl gp1)) := k4 _ _ x_wpl (z_ne x_wpl x_o rfl)
        have a212 : f182 wpl = some (.inl (cy 0, 60, .inl gp1)) := k186 _ _ a211 (z_ne a211 a3 rfl) (z_ne a211 a181 rfl)
        have a213 : f1 whs = some (.inl (cy 0, 4, .inl gs)) := k4 _ _ x_whs (z_ne x_whs x_o rfl)
        have a214 : f182 whs = some (.inl (cy 0, 4, .inl gs)) := k186 _ _ a213 (z_ne a213 a3 rfl) (z_ne a213 a181 rfl)
        have a215 : f1 wk1 = some (.inl (cy 0, 40, .inl gx1)) := k4 _ _ x_wk1 (z_ne x_wk1 x_o rfl)
        have a216 : f182 wk1 = some (.inl (cy 0, 40, .inl gx1)) := k186 _ _ a215 (z_ne a215 a3 rfl) (z_ne a215 a181 rfl)
        have a217 : f1 wk2 = some (.inl (cy 0, 40, .inl gx2)) := k4 _ _ x_wk2 (z_ne x_wk2 x_o rfl)
        have a218 : f182 wk2 = some (.inl (cy 0, 40, .inl gx2)) := k186 _ _ a217 (z_ne a217 a3 rfl) (z_ne a217 a181 rfl)
        have a219 : f1 wk3 = some (.inl (cy 0, 40, .inl gx3)) := k4 _ _ x_wk3 (z_ne x_wk3 x_o rfl)
        have a220 : f182 wk3 = some (.inl (cy 0, 40, .inl gx3)) := k186 _ _ a219 (z_ne a219 a3 rfl) (z_ne a219 a181 rfl)
        have hq : q_wide nn x y z = ((-4), 6, 2, 0) := by simp [q_wide, h60, c6, c7]
        exact z_iret C hr rfl hz hS ⟨6, 2, 0, nl, nn, nf, nc, lk, ks, (upd gv 6 (gv 6 + 1)), gu, gk, gm, gc, gw, gl, gh, gt, gy, gq, ge1, gn1, gp1, gs, gx1, gx2, gx3, ln, fz, sq, (by rw [hq]), (by rw [hq]), (by rw [hq]), (by rw [hq]), (by rw [hq]; exact (zEV6 gv).symm), rfl, rfl, (by rw [if_neg (by decide)]), (by rw [if_neg (by decide)]), (by rw [if_neg (by decide)]), (by rw [if_neg (by decide)]), (by rw [if_neg (by decide)]), (zGC_no (by decide)), rfl, rfl, rfl, rfl, rfl, rfl, rfl, rfl, rfl, rfl, rfl, rfl, rfl, ⟨fun h9 => absurd h9 (by decide), fun _ => rfl⟩, ⟨a184, a185, a188, a190, a192, a194, a196, a198, a200, a202, a204, a206, a208, a210, a212, a214, a216, a218, a220, hn60, hl12, hf6, hc60, hs40, hMP, hgy, hfz, hgs, hME, hlk, hgw, hfd, n_wki_wmy, n_wki_wiw, n_wki_wli, n_wki_wha, n_wki_wem, n_wki_wna, n_wki_wpl, n_wmy_wiw, n_wmy_wli, n_wmy_wha, n_wmy_wem, n_wmy_wna, n_wmy_wpl, n_wiw_wli, n_wiw_wha, n_wiw_wem, n_wiw_wna, n_wiw_wpl, n_wli_wha, n_wli_wem, n_wli_wna, n_wli_wpl, n_wha_wem, n_wha_wna, n_wha_wpl, n_wem_wna, n_wem_wpl, n_wna_wpl, n_wk1_wk2, n_wk1_wk3, n_wk2_wk3⟩⟩ (Nat.le_of_ble_eq_true rfl) (Nat.le_of_ble_eq_true rfl) dX8_wide_42
    · refine lv_aload_n hx hb dX8_wide_21 rfl (lv_at hl 0 rfl) ?_
      refine lv_bipush (v := 7) hx hb dX8_wide_22 (by decide) ?_
      refine lv_iconst (v := 1) hx hb dX8_wide_24 (by decide) ?_
      refine lv_iconst (v := 1) hx hb dX8_wide_25 (by decide) ?_
      have a221 : f1 wev = some (.inl (cy 0, 8, .inl gv)) := k4 _ _ x_wev (z_ne x_wev x_o rfl)
      refine z_callVi (As := [.int 7, .int 1, .int 1]) C hz hS hA hl (k_X8_fails l D cy f1 o wev wnb wki wmy wce wiw wli wha wwt wfy wfk wem wna wpl whs wk1 wk2 wk3 0 (-1) 0 nl nn nf nc lk ks 7 1 1 gv 7 a3 a221 (by decide) (Nat.le_of_ble_eq_true rfl)) zyX8_fails mMX8_135 a3 zl8 rfl rfl (Nat.le_of_ble_eq_true rfl) ⟨Nat.le_of_ble_eq_true rfl, Nat.le_of_ble_eq_true rfl⟩ ⟨Nat.le_of_ble_eq_true rfl, Nat.le_of_ble_eq_true rfl⟩ dX8_wide_26 (fun r f222 H locs h223 hz hS => ?_)
      obtain ⟨rfl, a224, a225, k226⟩ := h223
      have a227 : f1 wnb = some (.inl (cy 0, 12, .inl gu)) := k4 _ _ x_wnb (z_ne x_wnb x_o rfl)
      have a228 : f222 wnb = some (.inl (cy 0, 12, .inl gu)) := k226 _ _ a227 (z_ne a227 a3 rfl) (z_ne a227 a221 rfl)
      have a229 : f1 wki = some (.inl (cy 0, 60, .inl gk)) := k4 _ _ x_wki (z_ne x_wki x_o rfl)
      have a230 : f222 wki = some (.inl (cy 0, 60, .inl gk)) := k226 _ _ a229 (z_ne a229 a3 rfl) (z_ne a229 a221 rfl)
      have a231 : f1 wmy = some (.inl (cy 0, 60, .inl gm)) := k4 _ _ x_wmy (z_ne x_wmy x_o rfl)
      have a232 : f222 wmy = some (.inl (cy 0, 60, .inl gm)) := k226 _ _ a231 (z_ne a231 a3 rfl) (z_ne a231 a221 rfl)
      have a233 : f1 wce = some (.inl (cy 1, 960, .inr (.inl gc))) := k4 _ _ x_wce (z_ne x_wce x_o rfl)
      have a234 : f222 wce = some (.inl (cy 1, 960, .inr (.inl gc))) := k226 _ _ a233 (z_ne a233 a3 rfl) (z_ne a233 a221 rfl)
      have a235 : f1 wiw = some (.inl (cy 2, 60, .inl gw)) := k4 _ _ x_wiw (z_ne x_wiw x_o rfl)
      have a236 : f222 wiw = some (.inl (cy 2, 60, .inl gw)) := k226 _ _ a235 (z_ne a235 a3 rfl) (z_ne a235 a221 rfl)
      have a237 : f1 wli = some (.inl (cy 0, 60, .inl gl)) := k4 _ _ x_wli (z_ne x_wli x_o rfl)
      have a238 : f222 wli = some (.inl (cy 0, 60, .inl gl)) := k226 _ _ a237 (z_ne a237 a3 rfl) (z_ne a237 a221 rfl)
      have a239 : f1 wha = some (.inl (cy 0, 60, .inl gh)) := k4 _ _ x_wha (z_ne x_wha x_o rfl)
      have a240 : f222 wha = some (.inl (cy 0, 60, .inl gh)) := k226 _ _ a239 (z_ne a239 a3 rfl) (z_ne a239 a221 rfl)
      have a241 : f1 wwt = some (.inl (cy 1, 60, .inr (.inl gt))) := k4 _ _ x_wwt (z_ne x_wwt x_o rfl)
      have a242 : f222 wwt = some (.inl (cy 1, 60, .inr (.inl gt))) := k226 _ _ a241 (z_ne a241 a3 rfl) (z_ne a241 a221 rfl)
      have a243 : f1 wfy = some (.inl (cy 0, 6, .inl gy)) := k4 _ _ x_wfy (z_ne x_wfy x_o rfl)
      have a244 : f222 wfy = some (.inl (cy 0, 6, .inl gy)) := k226 _ _ a243 (z_ne a243 a3 rfl) (z_ne a243 a221 rfl)
      have a245 : f1 wfk = some (.inl (cy 0, 24, .inl gq)) := k4 _ _ x_wfk (z_ne x_wfk x_o rfl)
      have a246 : f222 wfk = some (.inl (cy 0, 24, .inl gq)) := k226 _ _ a245 (z_ne a245 a3 rfl) (z_ne a245 a221 rfl)
      have a247 : f1 wem = some (.inl (cy 0, 60, .inl ge1)) := k4 _ _ x_wem (z_ne x_wem x_o rfl)
      have a248 : f222 wem = some (.inl (cy 0, 60, .inl ge1)) := k226 _ _ a247 (z_ne a247 a3 rfl) (z_ne a247 a221 rfl)
      have a249 : f1 wna = some (.inl (cy 0, 60, .inl gn1)) := k4 _ _ x_wna (z_ne x_wna x_o rfl)
      have a250 : f222 wna = some (.inl (cy 0, 60, .inl gn1)) := k226 _ _ a249 (z_ne a249 a3 rfl) (z_ne a249 a221 rfl)
      have a251 : f1 wpl = some (.inl (cy 0, 60, .inl gp1)) := k4 _ _ x_wpl (z_ne x_wpl x_o rfl)
      have a252 : f222 wpl = some (.inl (cy 0, 60, .inl gp1)) := k226 _ _ a251 (z_ne a251 a3 rfl) (z_ne a251 a221 rfl)
      have a253 : f1 whs = some (.inl (cy 0, 4, .inl gs)) := k4 _ _ x_whs (z_ne x_whs x_o rfl)
      have a254 : f222 whs = some (.inl (cy 0, 4, .inl gs)) := k226 _ _ a253 (z_ne a253 a3 rfl) (z_ne a253 a221 rfl)
      have a255 : f1 wk1 = some (.inl (cy 0, 40, .inl gx1)) := k4 _ _ x_wk1 (z_ne x_wk1 x_o rfl)
      have a256 : f222 wk1 = some (.inl (cy 0, 40, .inl gx1)) := k226 _ _ a255 (z_ne a255 a3 rfl) (z_ne a255 a221 rfl)
      have a257 : f1 wk2 = some (.inl (cy 0, 40, .inl gx2)) := k4 _ _ x_wk2 (z_ne x_wk2 x_o rfl)
      have a258 : f222 wk2 = some (.inl (cy 0, 40, .inl gx2)) := k226 _ _ a257 (z_ne a257 a3 rfl) (z_ne a257 a221 rfl)
      have a259 : f1 wk3 = some (.inl (cy 0, 40, .inl gx3)) := k4 _ _ x_wk3 (z_ne x_wk3 x_o rfl)
      have a260 : f222 wk3 = some (.inl (cy 0, 40, .inl gx3)) := k226 _ _ a259 (z_ne a259 a3 rfl) (z_ne a259 a221 rfl)
      have hq : q_wide nn x y z = ((-4), 7, 1, 1) := by simp [q_wide, h60, c6]
      exact z_iret C hr rfl hz hS ⟨7, 1, 1, nl, nn, nf, nc, lk, ks, (upd gv 7 (gv 7 + 1)), gu, gk, gm, gc, gw, gl, gh, gt, gy, gq, ge1, gn1, gp1, gs, gx1, gx2, gx3, ln, fz, sq, (by rw [hq]), (by rw [hq]), (by rw [hq]), (by rw [hq]), (by rw [hq]; exact (zEV7 gv).symm), rfl, rfl, (by rw [if_neg (by decide)]), (by rw [if_neg (by decide)]), (by rw [if_neg (by decide)]), (by rw [if_neg (by decide)]), (by rw [if_neg (by decide)]), (zGC_no (by decide)), rfl, rfl, rfl, rfl, rfl, rfl, rfl, rfl, rfl, rfl, rfl, rfl, rfl, ⟨fun h9 => absurd h9 (by decide), fun _ => rfl⟩, ⟨a224, a225, a228, a230, a232, a234, a236, a238, a240, a242, a244, a246, a248, a250, a252, a254, a256, a258, a260, hn60, hl12, hf6, hc60, hs40, hMP, hgy, hfz, hgs, hME, hlk, hgw, hfd, n_wki_wmy, n_wki_wiw, n_wki_wli, n_wki_wha, n_wki_wem, n_wki_wna, n_wki_wpl, n_wmy_wiw, n_wmy_wli, n_wmy_wha, n_wmy_wem, n_wmy_wna, n_wmy_wpl, n_wiw_wli, n_wiw_wha, n_wiw_wem, n_wiw_wna, n_wiw_wpl, n_wli_wha, n_wli_wem, n_wli_wna, n_wli_wpl, n_wha_wem, n_wha_wna, n_wha_wpl, n_wem_wna, n_wem_wpl, n_wna_wpl, n_wk1_wk2, n_wk1_wk3, n_wk2_wk3⟩⟩ (Nat.le_of_ble_eq_true rfl) (Nat.le_of_ble_eq_true rfl) dX8_wide_29
  · replace c5 : (nn = 60) := (nI_eq (a := nn) (b := 60) (by omega) (by omega)).mp c5
    have h60 : ¬ nn < 60 := by omega
    refine lv_bipush (v := (-3)) hx hb dX8_wide_13 (by decide) ?_
    have a261 : f1 wev = some (.inl (cy 0, 8, .inl gv)) := k4 _ _ x_wev (z_ne x_wev x_o rfl)
    have a262 : f1 wnb = some (.inl (cy 0, 12, .inl gu)) := k4 _ _ x_wnb (z_ne x_wnb x_o rfl)
    have a263 : f1 wki = some (.inl (cy 0, 60, .inl gk)) := k4 _ _ x_wki (z_ne x_wki x_o rfl)
    have a264 : f1 wmy = some (.inl (cy 0, 60, .inl gm)) := k4 _ _ x_wmy (z_ne x_wmy x_o rfl)
    have a265 : f1 wce = some (.inl (cy 1, 960, .inr (.inl gc))) := k4 _ _ x_wce (z_ne x_wce x_o rfl)
    have a266 : f1 wiw = some (.inl (cy 2, 60, .inl gw)) := k4 _ _ x_wiw (z_ne x_wiw x_o rfl)
    have a267 : f1 wli = some (.inl (cy 0, 60, .inl gl)) := k4 _ _ x_wli (z_ne x_wli x_o rfl)
    have a268 : f1 wha = some (.inl (cy 0, 60, .inl gh)) := k4 _ _ x_wha (z_ne x_wha x_o rfl)
    have a269 : f1 wwt = some (.inl (cy 1, 60, .inr (.inl gt))) := k4 _ _ x_wwt (z_ne x_wwt x_o rfl)
    have a270 : f1 wfy = some (.inl (cy 0, 6, .inl gy)) := k4 _ _ x_wfy (z_ne x_wfy x_o rfl)
    have a271 : f1 wfk = some (.inl (cy 0, 24, .inl gq)) := k4 _ _ x_wfk (z_ne x_wfk x_o rfl)
    have a272 : f1 wem = some (.inl (cy 0, 60, .inl ge1)) := k4 _ _ x_wem (z_ne x_wem x_o rfl)
    have a273 : f1 wna = some (.inl (cy 0, 60, .inl gn1)) := k4 _ _ x_wna (z_ne x_wna x_o rfl)
    have a274 : f1 wpl = some (.inl (cy 0, 60, .inl gp1)) := k4 _ _ x_wpl (z_ne x_wpl x_o rfl)
    have a275 : f1 whs = some (.inl (cy 0, 4, .inl gs)) := k4 _ _ x_whs (z_ne x_whs x_o rfl)
    have a276 : f1 wk1 = some (.inl (cy 0, 40, .inl gx1)) := k4 _ _ x_wk1 (z_ne x_wk1 x_o rfl)
    have a277 : f1 wk2 = some (.inl (cy 0, 40, .inl gx2)) := k4 _ _ x_wk2 (z_ne x_wk2 x_o rfl)
    have a278 : f1 wk3 = some (.inl (cy 0, 40, .inl gx3)) := k4 _ _ x_wk3 (z_ne x_wk3 x_o rfl)
    have hq : q_wide nn x y z = ((-3), 0, (-1), 0) := by simp [q_wide, h60]
    exact z_iret C hr rfl hz hS ⟨0, (-1), 0, nl, nn, nf, nc, lk, ks, gv, gu, gk, gm, gc, gw, gl, gh, gt, gy, gq, ge1, gn1, gp1, gs, gx1, gx2, gx3, ln, fz, sq, (by rw [hq]), (by rw [hq]), (by rw [hq]), (by rw [hq]), (by rw [hq]; exact (zEV0 gv).symm), rfl, rfl, (by rw [if_neg (by decide)]), (by rw [if_neg (by decide)]), (by rw [if_neg (by decide)]), (by rw [if_neg (by decide)]), (by rw [if_neg (by decide)]), (zGC_no (by decide)), rfl, rfl, rfl, rfl, rfl, rfl, rfl, rfl, rfl, rfl, rfl, rfl, rfl, ⟨fun h9 => absurd h9 (by decide), fun _ => rfl⟩, ⟨a3, a261, a262, a263, a264, a265, a266, a267, a268, a269, a270, a271, a272, a273, a274, a275, a276, a277, a278, hn60, hl12, hf6, hc60, hs40, hMP, hgy, hfz, hgs, hME, hlk, hgw, hfd, n_wki_wmy, n_wki_wiw, n_wki_wli, n_wki_wha, n_wki_wem, n_wki_wna, n_wki_wpl, n_wmy_wiw, n_wmy_wli, n_wmy_wha, n_wmy_wem, n_wmy_wna, n_wmy_wpl, n_wiw_wli, n_wiw_wha, n_wiw_wem, n_wiw_wna, n_wiw_wpl, n_wli_wha, n_wli_wem, n_wli_wna, n_wli_wpl, n_wha_wem, n_wha_wna, n_wha_wpl, n_wem_wna, n_wem_wpl, n_wna_wpl, n_wk1_wk2, n_wk1_wk3, n_wk2_wk3⟩⟩ (Nat.le_of_ble_eq_true rfl) (Nat.le_of_ble_eq_true rfl) dX8_wide_15
