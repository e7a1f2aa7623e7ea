abbrev rmX8_point : Room := { frames := 3, cells := 0, slots := 0, locals := 67 }
set_option maxHeartbeats 4000000 in
set_option maxRecDepth 100000 in
theorem k_X8_point (l : Launch) (D : va_G) (cy : Nat → ClassId) (f : zM) (o : Nat) (wev : Nat) (wnb : Nat) (wki : Nat) (wmy : Nat) (wce : Nat) (wiw : Nat) (wli : Nat) (wha : Nat) (wwt : Nat) (wfy : Nat) (wfk : Nat) (wem : Nat) (wna : Nat) (wpl : Nat) (whs : Nat) (wk1 : Nat) (wk2 : Nat) (wk3 : Nat) (u1 : Int32) (u2 : Int32) (u3 : Int32) (nl : Nat) (nn : Nat) (nf : Nat) (nc : Nat) (lk : Int64) (ks : Nat) (gv : Nat → Int32) (gu : Nat → Int32) (gk : Nat → Int32) (gm : Nat → Int32) (gc : Nat → Int64) (gw : Nat → Int32) (gl : Nat → Int32) (gh : Nat → Int32) (gt : Nat → Int64) (gy : Nat → Int32) (gq : Nat → Int32) (ge1 : Nat → Int32) (gn1 : Nat → Int32) (gp1 : Nat → Int32) (gs : Nat → Int32) (gx1 : Nat → Int32) (gx2 : Nat → Int32) (gx3 : Nat → Int32) (ln : Nat → Nat) (fz : Nat → Nat) (sq : Nat → Nat) (x : Int64) (y : Int64)    (hI : zIM cy f o wev wnb wki wmy wce wiw wli wha wwt wfy wfk wem wna wpl whs wk1 wk2 wk3 u1 u2 u3 nl nn nf nc lk ks gv gu gk gm gc gw gl gh gt gy gq ge1 gn1 gp1 gs gx1 gx2 gx3 ln fz sq) : zCi l D cy yX8_point cX8_point 5 (Option.some Jvm.ClassFile.FieldType.int) rmX8_point [.ref o, .long x, .long y] f (fun (r : Int32) (f1 : zM) => ∃ (u11 : Int32) (u21 : Int32) (u31 : Int32) (nl1 : Nat) (nn1 : Nat) (nf1 : Nat) (nc1 : Nat) (lk1 : Int64) (ks1 : Nat) (gv1 : Nat → Int32) (gu1 : Nat → Int32) (gk1 : Nat → Int32) (gm1 : Nat → Int32) (gc1 : Nat → Int64) (gw1 : Nat → Int32) (gl1 : Nat → Int32) (gh1 : Nat → Int32) (gt1 : Nat → Int64) (gy1 : Nat → Int32) (gq1 : Nat → Int32) (ge11 : Nat → Int32) (gn11 : Nat → Int32) (gp11 : Nat → Int32) (gs1 : Nat → Int32) (gx11 : Nat → Int32) (gx21 : Nat → Int32) (gx31 : Nat → Int32) (ln1 : Nat → Nat) (fz1 : Nat → Nat) (sq1 : Nat → Nat), r = ((q_point nn).1) ∧ (u11 = (q_point nn).2.1) ∧ (u21 = (q_point nn).2.2.1) ∧ (u31 = (q_point nn).2.2.2) ∧ (gv1 = zEV gv (q_point nn).2.1) ∧ (nl1 = nl) ∧ (gu1 = gu) ∧ (nn1 = if 0 ≤ r then nn + 1 else nn) ∧ (gk1 = if 0 ≤ r then va_up gk nn 0 else gk) ∧ (ln1 = if 0 ≤ r then va_up ln nn (2) else ln) ∧ (gw1 = if 0 ≤ r then va_up gw nn 0 else gw) ∧ (gh1 = if 0 ≤ r then va_up gh nn (zHash 0 nn (2) (q2 (zcl x) (zcl y)) gh) else gh) ∧ (zGC nn (0 ≤ r) (2) (q2 (zcl x) (zcl y)) gc gc1) ∧ (nf1 = nf) ∧ (fz1 = fz) ∧ (gq1 = gq) ∧ (nc1 = nc) ∧ (ge11 = ge1) ∧ (gn11 = gn1) ∧ (gp11 = gp1) ∧ (sq1 = sq) ∧ (ks1 = ks) ∧ (gx11 = gx1) ∧ (gx21 = gx2) ∧ (gx31 = gx3) ∧ (lk1 = lk) ∧ zIM cy f1 o wev wnb wki wmy wce wiw wli wha wwt wfy wfk wem wna wpl whs wk1 wk2 wk3 u11 u21 u31 nl1 nn1 nf1 nc1 lk1 ks1 gv1 gu1 gk1 gm1 gc1 gw1 gl1 gh1 gt1 gy1 gq1 ge11 gn11 gp11 gs1 gx11 gx21 gx31 ln1 fz1 sq1) := by
  intro sz
  refine z_body (by decide +kernel) (Nat.le_of_ble_eq_true rfl) ?_
  intro p e s m below meth c ls C hr hin hsz hz hl
  subst hsz
  have hx := C.1
  have hb := C.2.1
  have hA : ∀ q, s.heap.size ≤ q → zA f s.heap.size q := fun q h => Or.inr h
  have hS : va_S (zA f s.heap.size) s.heap s.heap [] := va_S.rf
  have hl : lv_has ls 5 [(0, .ref o), (1, .long x), (3, .long y)] := hl
  obtain ⟨x_o, x_wev, x_wnb, x_wki, x_wmy, x_wce, x_wiw, x_wli, x_wha, x_wwt, x_wfy, x_wfk, x_wem, x_wna, x_wpl, x_whs, x_wk1, x_wk2, x_wk3, hn60, hl12, hf6, hc60, hs40, hMP, hgy, hfz, hgs, hME, hlk, hgw, hfd, n_wki_wmy, n_wki_wiw, n_wki_wli, n_wki_wha, n_wki_wem, n_wki_wna, n_wki_wpl, n_wmy_wiw, n_wmy_wli, n_wmy_wha, n_wmy_wem, n_wmy_wna, n_wmy_wpl, n_wiw_wli, n_wiw_wha, n_wiw_wem, n_wiw_wna, n_wiw_wpl, n_wli_wha, n_wli_wem, n_wli_wna, n_wli_wpl, n_wha_wem, n_wha_wna, n_wha_wpl, n_wem_wna, n_wem_wpl, n_wna_wpl, n_wk1_wk2, n_wk1_wk3, n_wk2_wk3⟩ := id hI
  refine lv_aload_n hx hb dX8_point_0 rfl (lv_at hl 0 rfl) ?_
  refine z_callVv (As := []) C hz hS hA hl (k_X8_begin l D cy f o wev wnb wki wmy wce wiw wli wha wwt wfy wfk wem wna wpl whs wk1 wk2 wk3 u1 u2 u3 nl nn nf nc lk ks x_o ) zyX8_begin mMX8_116 x_o zl8 rfl rfl (Nat.le_of_ble_eq_true rfl) ⟨Nat.le_of_ble_eq_true rfl, Nat.le_of_ble_eq_true rfl⟩ ⟨Nat.le_of_ble_eq_true rfl, Nat.le_of_ble_eq_true rfl⟩ dX8_point_1 (fun  f1 H locs h2 hz hS => ?_)
  obtain ⟨a3, k4⟩ := h2
  refine lv_aload_n hx hb dX8_point_4 rfl (lv_at hl 0 rfl) ?_
  refine z_get (v := .int (nI nn)) C hz a3 zl8 mFX8_83 (by decide) rfl dX8_point_5 ?_
  refine lv_bipush (v := 60) hx hb dX8_point_8 (by decide) ?_
  refine lv_icmp_ne (tgt := 16) hx hb dX8_point_10 (by decide) (fun c5 => ?_) (fun c5 => ?_)
  · replace c5 : ¬ (nn = 60) := fun h => c5 ((nI_eq (a := nn) (b := 60) (by omega) (by omega)).mpr h)
    have h60 : nn < 60 := by omega
    refine lv_aload_n hx hb dX8_point_16 rfl (lv_at hl 0 rfl) ?_
    refine lv_iconst (v := 0) hx hb dX8_point_17 (by decide) ?_
    have a6 : f1 wki = some (.inl (cy 0, 60, .inl gk)) := k4 _ _ x_wki (z_ne x_wki x_o rfl)
    have a7 : f1 wmy = some (.inl (cy 0, 60, .inl gm)) := k4 _ _ x_wmy (z_ne x_wmy x_o rfl)
    refine z_callVv (As := [.int 0]) C hz hS hA hl (k_X8_start l D cy f1 o wev wnb wki wmy wce wiw wli wha wwt wfy wfk wem wna wpl whs wk1 wk2 wk3 0 (-1) 0 nl nn nf nc lk ks gk gm 0 a3 a6 a7 (by omega) n_wki_wmy) zyX8_start mMX8_119 a3 zl8 rfl rfl (Nat.le_of_ble_eq_true rfl) ⟨Nat.le_of_ble_eq_true rfl, Nat.le_of_ble_eq_true rfl⟩ ⟨Nat.le_of_ble_eq_true rfl, Nat.le_of_ble_eq_true rfl⟩ dX8_point_18 (fun  f8 H locs h9 hz hS => ?_)
    obtain ⟨a10, a11, k12⟩ := h9
    refine lv_aload_n hx hb dX8_point_21 rfl (lv_at hl 0 rfl) ?_
    refine lv_lload_n hx hb dX8_point_22 rfl (lv_at hl 1 rfl) ?_
    refine z_callSl (As := [.long x]) C hz hS hA hl (k_X8_clean l D cy f8 x  ) zyX8_clean mMX8_123 rfl rfl (Nat.le_of_ble_eq_true rfl) ⟨Nat.le_of_ble_eq_true rfl, Nat.le_of_ble_eq_true rfl⟩ ⟨Nat.le_of_ble_eq_true rfl, Nat.le_of_ble_eq_true rfl⟩ dX8_point_23 (fun r f13 H locs h14 hz hS => ?_)
    obtain ⟨rfl, k15⟩ := h14
    have a16 : f8 o = some (.inr (8, [.int 0, .int (-1), .int 0, .ref wev, .int (nI nl), .ref wnb, .int (nI nn), .ref wki, .ref wmy, .ref wce, .ref wiw, .ref wli, .ref wha, .ref wwt, .int (nI nf), .ref wfy, .ref wfk, .int (nI nc), .ref wem, .ref wna, .ref wpl, .ref whs, .long lk, .int (nI ks), .ref wk1, .ref wk2, .ref wk3])) := k12 _ _ a3 (z_ne a3 a6 rfl) (z_ne a3 a7 rfl)
    have a17 : f13 o = some (.inr (8, [.int 0, .int (-1), .int 0, .ref wev, .int (nI nl), .ref wnb, .int (nI nn), .ref wki, .ref wmy, .ref wce, .ref wiw, .ref wli, .ref wha, .ref wwt, .int (nI nf), .ref wfy, .ref wfk, .int (nI nc), .ref wem, .ref wna, .ref wpl, .ref whs, .long lk, .int (nI ks), .ref wk1, .ref wk2, .ref wk3])) := k15 _ _ a16 
    have a18 : f1 wce = some (.inl (cy 1, 960, .inr (.inl gc))) := k4 _ _ x_wce (z_ne x_wce x_o rfl)
    have a19 : f8 wce = some (.inl (cy 1, 960, .inr (.inl gc))) := k12 _ _ a18 (z_ne a18 a6 rfl) (z_ne a18 a7 rfl)
    have a20 : f13 wce = some (.inl (cy 1, 960, .inr (.inl gc))) := k15 _ _ a19 
    have a21 : f13 wmy = some (.inl (cy 0, 60, .inl (upd gm nn 0))) := k15 _ _ a11 
    refine z_callVv (As := [.long (zcl x)]) C hz hS hA hl (k_X8_part l D cy f13 o wev wnb wki wmy wce wiw wli wha wwt wfy wfk wem wna wpl whs wk1 wk2 wk3 0 (-1) 0 nl nn nf nc lk ks gc (upd gm nn 0) (zcl x) 0 a17 a20 a21 (by omega) pk_us (by omega)) zyX8_part mMX8_127 a17 zl8 rfl rfl (Nat.le_of_ble_eq_true rfl) ⟨Nat.le_of_ble_eq_true rfl, Nat.le_of_ble_eq_true rfl⟩ ⟨Nat.le_of_ble_eq_true rfl, Nat.le_of_ble_eq_true rfl⟩ dX8_point_26 (fun  f22 H locs h23 hz hS => ?_)
    obtain ⟨a24, a25, k26⟩ := h23
    refine lv_aload_n hx hb dX8_point_29 rfl (lv_at hl 0 rfl) ?_
    refine lv_lload_n hx hb dX8_point_30 rfl (lv_at hl 2 rfl) ?_
    refine z_callSl (As := [.long y]) C hz hS hA hl (k_X8_clean l D cy f22 y  ) zyX8_clean mMX8_123 rfl rfl (Nat.le_of_ble_eq_true rfl) ⟨Nat.le_of_ble_eq_true rfl, Nat.le_of_ble_eq_true rfl⟩ ⟨Nat.le_of_ble_eq_true rfl, Nat.le_of_ble_eq_true rfl⟩ dX8_point_31 (fun r f27 H locs h28 hz hS => ?_)
    obtain ⟨rfl, k29⟩ := h28
    have a30 : f22 o = some (.inr (8, [.int 0, .int (-1), .int 0, .ref wev, .int (nI nl), .ref wnb, .int (nI nn), .ref wki, .ref wmy, .ref wce, .ref wiw, .ref wli, .ref wha, .ref wwt, .int (nI nf), .ref wfy, .ref wfk, .int (nI nc), .ref wem, .ref wna, .ref wpl, .ref whs, .long lk, .int (nI ks), .ref wk1, .ref wk2, .ref wk3])) := k26 _ _ a17 (z_ne a17 a20 rfl) (z_ne a17 a21 rfl)
    have a31 : f27 o = some (.inr (8, [.int 0, .int (-1), .int 0, .ref wev, .int (nI nl), .ref wnb, .int (nI nn), .ref wki, .ref wmy, .ref wce, .ref wiw, .ref wli, .ref wha, .ref wwt, .int (nI nf), .ref wfy, .ref wfk, .int (nI nc), .ref wem, .ref wna, .ref wpl, .ref whs, .long lk, .int (nI ks), .ref wk1, .ref wk2, .ref wk3])) := k29 _ _ a30 
    have a32 : f27 wce = some (.inl (cy 1, 960, .inr (.inl (vp_updL gc (16 * nn + 0) (zcl x))))) := k29 _ _ a24 
    have a33 : f27 wmy = some (.inl (cy 0, 60, .inl (upd (upd gm nn 0) nn (nI (0 + 1))))) := k29 _ _ a25 
    refine z_callVv (As := [.long (zcl y)]) C hz hS hA hl (k_X8_part l D cy f27 o wev wnb wki wmy wce wiw wli wha wwt wfy wfk wem wna wpl whs wk1 wk2 wk3 0 (-1) 0 nl nn nf nc lk ks (vp_updL gc (16 * nn + 0) (zcl x)) (upd (upd gm nn 0) nn (nI (0 + 1))) (zcl y) 1 a31 a32 a33 (by omega) pk_us (by omega)) zyX8_part mMX8_127 a31 zl8 rfl rfl (Nat.le_of_ble_eq_true rfl) ⟨Nat.le_of_ble_eq_true rfl, Nat.le_of_ble_eq_true rfl⟩ ⟨Nat.le_of_ble_eq_true rfl, Nat.le_of_ble_eq_true rfl⟩ dX8_point_34 (fun  f34 H locs h35 hz hS => ?_)
    obtain ⟨a36, a37, k38⟩ := h35
    refine lv_aload_n hx hb dX8_point_37 rfl (lv_at hl 0 rfl) ?_
    have a39 : f34 o = some (.inr (8, [.int 0, .int (-1), .int 0, .ref wev, .int (nI nl), .ref wnb, .int (nI nn), .ref wki, .ref wmy, .ref wce, .ref wiw, .ref wli, .ref wha, .ref wwt, .int (nI nf), .ref wfy, .ref wfk, .int (nI nc), .ref wem, .ref wna, .ref wpl, .ref whs, .long lk, .int (nI ks), .ref wk1, .ref wk2, .ref wk3])) := k38 _ _ a31 (z_ne a31 a32 rfl) (z_ne a31 a33 rfl)
    have a40 : f13 wki = some (.inl (cy 0, 60, .inl (upd gk nn 0))) := k15 _ _ a10 
    have a41 : f22 wki = some (.inl (cy 0, 60, .inl (upd gk nn 0))) := k26 _ _ a40 (z_ne a40 a20 rfl) n_wki_wmy
    have a42 : f27 wki = some (.inl (cy 0, 60, .inl (upd gk nn 0))) := k29 _ _ a41 
    have a43 : f34 wki = some (.inl (cy 0, 60, .inl (upd gk nn 0))) := k38 _ _ a42 (z_ne a42 a32 rfl) n_wki_wmy
    have a44 : f1 wli = some (.inl (cy 0, 60, .inl gl)) := k4 _ _ x_wli (z_ne x_wli x_o rfl)
    have a45 : f8 wli = some (.inl (cy 0, 60, .inl gl)) := k12 _ _ a44 (Ne.symm n_wki_wli) (Ne.symm n_wmy_wli)
    have a46 : f13 wli = some (.inl (cy 0, 60, .inl gl)) := k15 _ _ a45 
    have a47 : f22 wli = some (.inl (cy 0, 60, .inl gl)) := k26 _ _ a46 (z_ne a46 a20 rfl) (Ne.symm n_wmy_wli)
    have a48 : f27 wli = some (.inl (cy 0, 60, .inl gl)) := k29 _ _ a47 
    have a49 : f34 wli = some (.inl (cy 0, 60, .inl gl)) := k38 _ _ a48 (z_ne a48 a32 rfl) (Ne.symm n_wmy_wli)
    have a50 : f1 wha = some (.inl (cy 0, 60, .inl gh)) := k4 _ _ x_wha (z_ne x_wha x_o rfl)
    have a51 : f8 wha = some (.inl (cy 0, 60, .inl gh)) := k12 _ _ a50 (Ne.symm n_wki_wha) (Ne.symm n_wmy_wha)
    have a52 : f13 wha = some (.inl (cy 0, 60, .inl gh)) := k15 _ _ a51 
    have a53 : f22 wha = some (.inl (cy 0, 60, .inl gh)) := k26 _ _ a52 (z_ne a52 a20 rfl) (Ne.symm n_wmy_wha)
    have a54 : f27 wha = some (.inl (cy 0, 60, .inl gh)) := k29 _ _ a53 
    have a55 : f34 wha = some (.inl (cy 0, 60, .inl gh)) := k38 _ _ a54 (z_ne a54 a32 rfl) (Ne.symm n_wmy_wha)
    refine z_callVi (As := []) C hz hS hA hl (k_X8_made l D cy f34 o wev wnb wki wmy wce wiw wli wha wwt wfy wfk wem wna wpl whs wk1 wk2 wk3 0 (-1) 0 nl nn nf nc lk ks (upd gk nn 0) (upd (upd (upd gm nn 0) nn (nI (0 + 1))) nn (nI (1 + 1))) (vp_updL (vp_updL gc (16 * nn + 0) (zcl x)) (16 * nn + 1) (zcl y)) gl gh ln 2 a39 a43 a37 a36 a49 a55 (by omega) (zMP_keep hMP (fun i9 h9 => by simp only [upd, if_neg (show ¬ i9 = nn by omega)]) (fun i9 h9 => by simp only [upd, if_neg (show ¬ i9 = nn by omega)]) (fun i9 h9 j9 h8 => by simp (disch := omega) only [pk_uLn])) pk_us (by omega) (by rw [pk_us]; exact fun h9 => absurd h9 (by decide)) n_wki_wmy n_wki_wli n_wki_wha n_wmy_wli n_wmy_wha n_wli_wha) zyX8_made mMX8_131 a39 zl8 rfl rfl (Nat.le_of_ble_eq_true rfl) ⟨Nat.le_of_ble_eq_true rfl, Nat.le_of_ble_eq_true rfl⟩ ⟨Nat.le_of_ble_eq_true rfl, Nat.le_of_ble_eq_true rfl⟩ dX8_point_38 (fun r f56 H locs h57 hz hS => ?_)
    obtain ⟨gl_58, rfl, a59, a60, a61, k62⟩ := h57
    have a63 : f1 wev = some (.inl (cy 0, 8, .inl gv)) := k4 _ _ x_wev (z_ne x_wev x_o rfl)
    have a64 : f8 wev = some (.inl (cy 0, 8, .inl gv)) := k12 _ _ a63 (z_ne a63 a6 rfl) (z_ne a63 a7 rfl)
    have a65 : f13 wev = some (.inl (cy 0, 8, .inl gv)) := k15 _ _ a64 
    have a66 : f22 wev = some (.inl (cy 0, 8, .inl gv)) := k26 _ _ a65 (z_ne a65 a20 rfl) (z_ne a65 a21 rfl)
    have a67 : f27 wev = some (.inl (cy 0, 8, .inl gv)) := k29 _ _ a66 
    have a68 : f34 wev = some (.inl (cy 0, 8, .inl gv)) := k38 _ _ a67 (z_ne a67 a32 rfl) (z_ne a67 a33 rfl)
    have a69 : f56 wev = some (.inl (cy 0, 8, .inl gv)) := k62 _ _ a68 (z_ne a68 a39 rfl) (z_ne a68 a49 rfl) (z_ne a68 a55 rfl)
    have a70 : f1 wnb = some (.inl (cy 0, 12, .inl gu)) := k4 _ _ x_wnb (z_ne x_wnb x_o rfl)
    have a71 : f8 wnb = some (.inl (cy 0, 12, .inl gu)) := k12 _ _ a70 (z_ne a70 a6 rfl) (z_ne a70 a7 rfl)
    have a72 : f13 wnb = some (.inl (cy 0, 12, .inl gu)) := k15 _ _ a71 
    have a73 : f22 wnb = some (.inl (cy 0, 12, .inl gu)) := k26 _ _ a72 (z_ne a72 a20 rfl) (z_ne a72 a21 rfl)
    have a74 : f27 wnb = some (.inl (cy 0, 12, .inl gu)) := k29 _ _ a73 
    have a75 : f34 wnb = some (.inl (cy 0, 12, .inl gu)) := k38 _ _ a74 (z_ne a74 a32 rfl) (z_ne a74 a33 rfl)
    have a76 : f56 wnb = some (.inl (cy 0, 12, .inl gu)) := k62 _ _ a75 (z_ne a75 a39 rfl) (z_ne a75 a49 rfl) (z_ne a75 a55 rfl)
    have a77 : f56 wki = some (.inl (cy 0, 60, .inl (upd gk nn 0))) := k62 _ _ a43 (z_ne a43 a39 rfl) n_wki_wli n_wki_wha
    have a78 : f56 wmy = some (.inl (cy 0, 60, .inl (upd (upd (upd gm nn 0) nn (nI (0 + 1))) nn (nI (1 + 1))))) := k62 _ _ a37 (z_ne a37 a39 rfl) n_wmy_wli n_wmy_wha
    have a79 : f56 wce = some (.inl (cy 1, 960, .inr (.inl (vp_updL (vp_updL gc (16 * nn + 0) (zcl x)) (16 * nn + 1) (zcl y))))) := k62 _ _ a36 (z_ne a36 a39 rfl) (z_ne a36 a49 rfl) (z_ne a36 a55 rfl)
    have a80 : f1 wiw = some (.inl (cy 2, 60, .inl gw)) := k4 _ _ x_wiw (z_ne x_wiw x_o rfl)
    have a81 : f8 wiw = some (.inl (cy 2, 60, .inl gw)) := k12 _ _ a80 (Ne.symm n_wki_wiw) (Ne.symm n_wmy_wiw)
    have a82 : f13 wiw = some (.inl (cy 2, 60, .inl gw)) := k15 _ _ a81 
    have a83 : f22 wiw = some (.inl (cy 2, 60, .inl gw)) := k26 _ _ a82 (z_ne a82 a20 rfl) (Ne.symm n_wmy_wiw)
    have a84 : f27 wiw = some (.inl (cy 2, 60, .inl gw)) := k29 _ _ a83 
    have a85 : f34 wiw = some (.inl (cy 2, 60, .inl gw)) := k38 _ _ a84 (z_ne a84 a32 rfl) (Ne.symm n_wmy_wiw)
    have a86 : f56 wiw = some (.inl (cy 2, 60, .inl gw)) := k62 _ _ a85 (z_ne a85 a39 rfl) n_wiw_wli n_wiw_wha
    have a87 : f1 wwt = some (.inl (cy 1, 60, .inr (.inl gt))) := k4 _ _ x_wwt (z_ne x_wwt x_o rfl)
    have a88 : f8 wwt = some (.inl (cy 1, 60, .inr (.inl gt))) := k12 _ _ a87 (z_ne a87 a6 rfl) (z_ne a87 a7 rfl)
    have a89 : f13 wwt = some (.inl (cy 1, 60, .inr (.inl gt))) := k15 _ _ a88 
    have a90 : f22 wwt = some (.inl (cy 1, 60, .inr (.inl gt))) := k26 _ _ a89 (z_ne a89 a20 rfl) (z_ne a89 a21 rfl)
    have a91 : f27 wwt = some (.inl (cy 1, 60, .inr (.inl gt))) := k29 _ _ a90 
    have a92 : f34 wwt = some (.inl (cy 1, 60, .inr (.inl gt))) := k38 _ _ a91 (z_ne a91 a32 rfl) (z_ne a91 a33 rfl)
    have a93 : f56 wwt = some (.inl (cy 1, 60, .inr (.inl gt))) := k62 _ _ a92 (z_ne a92 a39 rfl) (z_ne a92 a49 rfl) (z_ne a92 a55 rfl)
    have a94 : f1 wfy = some (.inl (cy 0, 6, .inl gy)) := k4 _ _ x_wfy (z_ne x_wfy x_o rfl)
    have a95 : f8 wfy = some (.inl (cy 0, 6, .inl gy)) := k12 _ _ a94 (z_ne a94 a6 rfl) (z_ne a94 a7 rfl)
    have a96 : f13 wfy = some (.inl (cy 0, 6, .inl gy)) := k15 _ _ a95 
    have a97 : f22 wfy = some (.inl (cy 0, 6, .inl gy)) := k26 _ _ a96 (z_ne a96 a20 rfl) (z_ne a96 a21 rfl)
    have a98 : f27 wfy = some (.inl (cy 0, 6, .inl gy)) := k29 _ _ a97 
    have a99 : f34 wfy = some (.inl (cy 0, 6, .inl gy)) := k38 _ _ a98 (z_ne a98 a32 rfl) (z_ne a98 a33 rfl)
    have a100 : f56 wfy = some (.inl (cy 0, 6, .inl gy)) := k62 _ _ a99 (z_ne a99 a39 rfl) (z_ne a99 a49 rfl) (z_ne a99 a55 rfl)
    have a101 : f1 wfk = some (.inl (cy 0, 24, .inl gq)) := k4 _ _ x_wfk (z_ne x_wfk x_o rfl)
    have a102 : f8 wfk = some (.inl (cy 0, 24, .inl gq)) := k12 _ _ a101 (z_ne a101 a6 rfl) (z_ne a101 a7 rfl)
    have a103 : f13 wfk = some (.inl (cy 0, 24, .inl gq)) := k15 _ _ a102 
    have a104 : f22 wfk = some (.inl (cy 0, 24, .inl gq)) := k26 _ _ a103 (z_ne a103 a20 rfl) (z_ne a103 a21 rfl)
    have a105 : f27 wfk = some (.inl (cy 0, 24, .inl gq)) := k29 _ _ a104 
    have a106 : f34 wfk = some (.inl (cy 0, 24, .inl gq)) := k38 _ _ a105 (z_ne a105 a32 rfl) (z_ne a105 a33 rfl)
    have a107 : f56 wfk = some (.inl (cy 0, 24, .inl gq)) := k62 _ _ a106 (z_ne a106 a39 rfl) (z_ne a106 a49 rfl) (z_ne a106 a55 rfl)
    have a108 : f1 wem = some (.inl (cy 0, 60, .inl ge1)) := k4 _ _ x_wem (z_ne x_wem x_o rfl)
    have a109 : f8 wem = some (.inl (cy 0, 60, .inl ge1)) := k12 _ _ a108 (Ne.symm n_wki_wem) (Ne.symm n_wmy_wem)
    have a110 : f13 wem = some (.inl (cy 0, 60, .inl ge1)) := k15 _ _ a109 
    have a111 : f22 wem = some (.inl (cy 0, 60, .inl ge1)) := k26 _ _ a110 (z_ne a110 a20 rfl) (Ne.symm n_wmy_wem)
    have a112 : f27 wem = some (.inl (cy 0, 60, .inl ge1)) := k29 _ _ a111 
    have a113 : f34 wem = some (.inl (cy 0, 60, .inl ge1)) := k38 _ _ a112 (z_ne a112 a32 rfl) (Ne.symm n_wmy_wem)
    have a114 : f56 wem = some (.inl (cy 0, 60, .inl ge1)) := k62 _ _ a113 (z_ne a113 a39 rfl) (Ne.symm n_wli_wem) (Ne.symm n_wha_wem)
    have a115 : f1 wna = some (.inl (cy 0, 60, .inl gn1)) := k4 _ _ x_wna (z_ne x_wna x_o rfl)
    have a116 : f8 wna = some (.inl (cy 0, 60, .inl gn1)) := k12 _ _ a115 (Ne.symm n_wki_wna) (Ne.symm n_wmy_wna)
    have a117 : f13 wna = some (.inl (cy 0, 60, .inl gn1)) := k15 _ _ a116 
    have a118 : f22 wna = some (.inl (cy 0, 60, .inl gn1)) := k26 _ _ a117 (z_ne a117 a20 rfl) (Ne.symm n_wmy_wna)
    have a119 : f27 wna = some (.inl (cy 0, 60, .inl gn1)) := k29 _ _ a118 
    have a120 : f34 wna = some (.inl (cy 0, 60, .inl gn1)) := k38 _ _ a119 (z_ne a119 a32 rfl) (Ne.symm n_wmy_wna)
    have a121 : f56 wna = some (.inl (cy 0, 60, .inl gn1)) := k62 _ _ a120 (z_ne a120 a39 rfl) (Ne.symm n_wli_wna) (Ne.symm n_wha_wna)
    have a122 : f1 wpl = some (.inl (cy 0, 60, .inl gp1)) := k4 _ _ x_wpl (z_ne x_wpl x_o rfl)
    have a123 : f8 wpl = some (.inl (cy 0, 60, .inl gp1)) := k12 _ _ a122 (Ne.symm n_wki_wpl) (Ne.symm n_wmy_wpl)
    have a124 : f13 wpl = some (.inl (cy 0, 60, .inl gp1)) := k15 _ _ a123 
    have a125 : f22 wpl = some (.inl (cy 0, 60, .inl gp1)) := k26 _ _ a124 (z_ne a124 a20 rfl) (Ne.symm n_wmy_wpl)
    have a126 : f27 wpl = some (.inl (cy 0, 60, .inl gp1)) := k29 _ _ a125 
    have a127 : f34 wpl = some (.inl (cy 0, 60, .inl gp1)) := k38 _ _ a126 (z_ne a126 a32 rfl) (Ne.symm n_wmy_wpl)
    have a128 : f56 wpl = some (.inl (cy 0, 60, .inl gp1)) := k62 _ _ a127 (z_ne a127 a39 rfl) (Ne.symm n_wli_wpl) (Ne.symm n_wha_wpl)
    have a129 : f1 whs = some (.inl (cy 0, 4, .inl gs)) := k4 _ _ x_whs (z_ne x_whs x_o rfl)
    have a130 : f8 whs = some (.inl (cy 0, 4, .inl gs)) := k12 _ _ a129 (z_ne a129 a6 rfl) (z_ne a129 a7 rfl)
    have a131 : f13 whs = some (.inl (cy 0, 4, .inl gs)) := k15 _ _ a130 
    have a132 : f22 whs = some (.inl (cy 0, 4, .inl gs)) := k26 _ _ a131 (z_ne a131 a20 rfl) (z_ne a131 a21 rfl)
    have a133 : f27 whs = some (.inl (cy 0, 4, .inl gs)) := k29 _ _ a132 
    have a134 : f34 whs = some (.inl (cy 0, 4, .inl gs)) := k38 _ _ a133 (z_ne a133 a32 rfl) (z_ne a133 a33 rfl)
    have a135 : f56 whs = some (.inl (cy 0, 4, .inl gs)) := k62 _ _ a134 (z_ne a134 a39 rfl) (z_ne a134 a49 rfl) (z_ne a134 a55 rfl)
    have a136 : f1 wk1 = some (.inl (cy 0, 40, .inl gx1)) := k4 _ _ x_wk1 (z_ne x_wk1 x_o rfl)
    have a137 : f8 wk1 = some (.inl (cy 0, 40, .inl gx1)) := k12 _ _ a136 (z_ne a136 a6 rfl) (z_ne a136 a7 rfl)
    have a138 : f13 wk1 = some (.inl (cy 0, 40, .inl gx1)) := k15 _ _ a137 
    have a139 : f22 wk1 = some (.inl (cy 0, 40, .inl gx1)) := k26 _ _ a138 (z_ne a138 a20 rfl) (z_ne a138 a21 rfl)
    have a140 : f27 wk1 = some (.inl (cy 0, 40, .inl gx1)) := k29 _ _ a139 
    have a141 : f34 wk1 = some (.inl (cy 0, 40, .inl gx1)) := k38 _ _ a140 (z_ne a140 a32 rfl) (z_ne a140 a33 rfl)
    have a142 : f56 wk1 = some (.inl (cy 0, 40, .inl gx1)) := k62 _ _ a141 (z_ne a141 a39 rfl) (z_ne a141 a49 rfl) (z_ne a141 a55 rfl)
    have a143 : f1 wk2 = some (.inl (cy 0, 40, .inl gx2)) := k4 _ _ x_wk2 (z_ne x_wk2 x_o rfl)
    have a144 : f8 wk2 = some (.inl (cy 0, 40, .inl gx2)) := k12 _ _ a143 (z_ne a143 a6 rfl) (z_ne a143 a7 rfl)
    have a145 : f13 wk2 = some (.inl (cy 0, 40, .inl gx2)) := k15 _ _ a144 
    have a146 : f22 wk2 = some (.inl (cy 0, 40, .inl gx2)) := k26 _ _ a145 (z_ne a145 a20 rfl) (z_ne a145 a21 rfl)
    have a147 : f27 wk2 = some (.inl (cy 0, 40, .inl gx2)) := k29 _ _ a146 
    have a148 : f34 wk2 = some (.inl (cy 0, 40, .inl gx2)) := k38 _ _ a147 (z_ne a147 a32 rfl) (z_ne a147 a33 rfl)
    have a149 : f56 wk2 = some (.inl (cy 0, 40, .inl gx2)) := k62 _ _ a148 (z_ne a148 a39 rfl) (z_ne a148 a49 rfl) (z_ne a148 a55 rfl)
    have a150 : f1 wk3 = some (.inl (cy 0, 40, .inl gx3)) := k4 _ _ x_wk3 (z_ne x_wk3 x_o rfl)
    have a151 : f8 wk3 = some (.inl (cy 0, 40, .inl gx3)) := k12 _ _ a150 (z_ne a150 a6 rfl) (z_ne a150 a7 rfl)
    have a152 : f13 wk3 = some (.inl (cy 0, 40, .inl gx3)) := k15 _ _ a151 
    have a153 : f22 wk3 = some (.inl (cy 0, 40, .inl gx3)) := k26 _ _ a152 (z_ne a152 a20 rfl) (z_ne a152 a21 rfl)
    have a154 : f27 wk3 = some (.inl (cy 0, 40, .inl gx3)) := k29 _ _ a153 
    have a155 : f34 wk3 = some (.inl (cy 0, 40, .inl gx3)) := k38 _ _ a154 (z_ne a154 a32 rfl) (z_ne a154 a33 rfl)
    have a156 : f56 wk3 = some (.inl (cy 0, 40, .inl gx3)) := k62 _ _ a155 (z_ne a155 a39 rfl) (z_ne a155 a49 rfl) (z_ne a155 a55 rfl)
    have hgpf : ∀ j, j < 2 → (vp_updL (vp_updL gc (16 * nn + 0) (zcl x)) (16 * nn + 1) (zcl y)) (16 * nn + j) = (q2 (zcl x) (zcl y)) j := (z_m2 _ _ _ _)
    have hgkp : ∀ i, i < nn → ∀ j, j < 16 → (vp_updL (vp_updL gc (16 * nn + 0) (zcl x)) (16 * nn + 1) (zcl y)) (16 * i + j) = gc (16 * i + j) := (fun i9 h9 j9 h8 => by simp (disch := omega) only [pk_uLn])
    have hq : q_point nn = (nI nn, 0, (-1), 0) := by simp [q_point, h60]
    exact z_iret C hr rfl hz hS ⟨0, (-1), 0, nl, (nn + 1), nf, nc, lk, ks, gv, gu, (upd gk nn 0), (upd (upd (upd gm nn 0) nn (nI (0 + 1))) nn (nI (1 + 1))), (vp_updL (vp_updL gc (16 * nn + 0) (zcl x)) (16 * nn + 1) (zcl y)), gw, gl_58, (upd gh nn (zHash ((upd gk nn 0) nn) nn 2 (fun k => (vp_updL (vp_updL gc (16 * nn + 0) (zcl x)) (16 * nn + 1) (zcl y)) (16 * nn + k)) gh)), gt, gy, gq, ge1, gn1, gp1, gs, gx1, gx2, gx3, (va_up ln nn 2), fz, sq, (by rw [hq]), (by rw [hq]), (by rw [hq]), (by rw [hq]), (by rw [hq]; exact (zEV0 gv).symm), rfl, rfl, (by rw [if_pos (nI_pos' (by omega))]), (by rw [if_pos (nI_pos' (by omega))]; exact z_uv _ _ _), (by rw [if_pos (nI_pos' (by omega))]), (by rw [if_pos (nI_pos' (by omega))]; exact z_gw0 hgw), (by rw [if_pos (nI_pos' (by omega))]; exact z_hs1 pk_us rfl hgpf), ⟨hgkp, fun _ => hgpf⟩, rfl, rfl, rfl, rfl, rfl, rfl, rfl, rfl, rfl, rfl, rfl, rfl, rfl, ⟨a59, a69, a76, a77, a78, a79, a86, a60, a61, a93, a100, a107, a114, a121, a128, a135, a142, a149, a156, (by omega), hl12, hf6, hc60, hs40, (zMP_new (zMP_keep hMP (fun i9 h9 => by simp only [upd, if_neg (show ¬ i9 = nn by omega)]) (fun i9 h9 => by simp only [upd, if_neg (show ¬ i9 = nn by omega)]) (fun i9 h9 j9 h8 => by simp (disch := omega) only [pk_uLn])) pk_us (by rw [pk_us]; exact zMP1_of (by omega) (by decide) (by decide) (by decide))), hgy, hfz, hgs, hME, hlk, (fun i9 h9 => hgw i9 (by omega)), hfd, n_wki_wmy, n_wki_wiw, n_wki_wli, n_wki_wha, n_wki_wem, n_wki_wna, n_wki_wpl, n_wmy_wiw, n_wmy_wli, n_wmy_wha, n_wmy_wem, n_wmy_wna, n_wmy_wpl, n_wiw_wli, n_wiw_wha, n_wiw_wem, n_wiw_wna, n_wiw_wpl, n_wli_wha, n_wli_wem, n_wli_wna, n_wli_wpl, n_wha_wem, n_wha_wna, n_wha_wpl, n_wem_wna, n_wem_wpl, n_wna_wpl, n_wk1_wk2, n_wk1_wk3, n_wk2_wk3⟩⟩ (Nat.le_of_ble_eq_true rfl) (Nat.le_of_ble_eq_true rfl) dX8_point_41
  · replace c5 : (nn = 60) := (nI_eq (a := nn) (b := 60) (by omega) (by omega)).mp c5
    have h60 : ¬ nn < 60 := by omega
    refine lv_bipush (v := (-3)) hx hb dX8_point_13 (by decide) ?_
    have a157 : f1 wev = some (.inl (cy 0, 8, .inl gv)) := k4 _ _ x_wev (z_ne x_wev x_o rfl)
    have a158 : f1 wnb = some (.inl (cy 0, 12, .inl gu)) := k4 _ _ x_wnb (z_ne x_wnb x_o rfl)
    have a159 : f1 wki = some (.inl (cy 0, 60, .inl gk)) := k4 _ _ x_wki (z_ne x_wki x_o rfl)
    have a160 : f1 wmy = some (.inl (cy 0, 60, .inl gm)) := k4 _ _ x_wmy (z_ne x_wmy x_o rfl)
    have a161 : f1 wce = some (.inl (cy 1, 960, .inr (.inl gc))) := k4 _ _ x_wce (z_ne x_wce x_o rfl)
    have a162 : f1 wiw = some (.inl (cy 2, 60, .inl gw)) := k4 _ _ x_wiw (z_ne x_wiw x_o rfl)
    have a163 : f1 wli = some (.inl (cy 0, 60, .inl gl)) := k4 _ _ x_wli (z_ne x_wli x_o rfl)
    have a164 : f1 wha = some (.inl (cy 0, 60, .inl gh)) := k4 _ _ x_wha (z_ne x_wha x_o rfl)
    have a165 : f1 wwt = some (.inl (cy 1, 60, .inr (.inl gt))) := k4 _ _ x_wwt (z_ne x_wwt x_o rfl)
    have a166 : f1 wfy = some (.inl (cy 0, 6, .inl gy)) := k4 _ _ x_wfy (z_ne x_wfy x_o rfl)
    have a167 : f1 wfk = some (.inl (cy 0, 24, .inl gq)) := k4 _ _ x_wfk (z_ne x_wfk x_o rfl)
    have a168 : f1 wem = some (.inl (cy 0, 60, .inl ge1)) := k4 _ _ x_wem (z_ne x_wem x_o rfl)
    have a169 : f1 wna = some (.inl (cy 0, 60, .inl gn1)) := k4 _ _ x_wna (z_ne x_wna x_o rfl)
    have a170 : f1 wpl = some (.inl (cy 0, 60, .inl gp1)) := k4 _ _ x_wpl (z_ne x_wpl x_o rfl)
    have a171 : f1 whs = some (.inl (cy 0, 4, .inl gs)) := k4 _ _ x_whs (z_ne x_whs x_o rfl)
    have a172 : f1 wk1 = some (.inl (cy 0, 40, .inl gx1)) := k4 _ _ x_wk1 (z_ne x_wk1 x_o rfl)
    have a173 : f1 wk2 = some (.inl (cy 0, 40, .inl gx2)) := k4 _ _ x_wk2 (z_ne x_wk2 x_o rfl)
    have a174 : f1 wk3 = some (.inl (cy 0, 40, .inl gx3)) := k4 _ _ x_wk3 (z_ne x_wk3 x_o rfl)
    have hq : q_point nn = ((-3), 0, (-1), 0) := by simp [q_point, h60]
    exact z_iret C hr rfl hz hS ⟨0, (-1), 0, nl, nn, nf, nc, lk, ks, gv, gu, gk, gm, gc, gw, gl, gh, gt, gy, gq, ge1, gn1, gp1, gs, gx1, gx2, gx3, ln, fz, sq, (by rw [hq]), (by rw [hq]), (by rw [hq]), (by rw [hq]), (by rw [hq]; exact (zEV0 gv).symm), rfl, rfl, (by rw [if_neg (by decide)]), (by rw [if_neg (by decide)]), (by rw [if_neg (by decide)]), (by rw [if_neg (by decide)]), (by rw [if_neg (by decide)]), (zGC_no (by decide)), rfl, rfl, rfl, rfl, rfl, rfl, rfl, rfl, rfl, rfl, rfl, rfl, rfl, ⟨a3, a157, a158, a159, a160, a161, a162, a163, a164, a165, a166, a167, a168, a169, a170, a171, a172, a173, a174, hn60, hl12, hf6, hc60, hs40, hMP, hgy, hfz, hgs, hME, hlk, hgw, hfd, n_wki_wmy, n_wki_wiw, n_wki_wli, n_wki_wha, n_wki_wem, n_wki_wna, n_wki_wpl, n_wmy_wiw, n_wmy_wli, n_wmy_wha, n_wmy_wem, n_wmy_wna, n_wmy_wpl, n_wiw_wli, n_wiw_wha, n_wiw_wem, n_wiw_wna, n_wiw_wpl, n_wli_wha, n_wli_wem, n_wli_wna, n_wli_wpl, n_wha_wem, n_wha_wna, n_wha_wpl, n_wem_wna, n_wem_wpl, n_wna_wpl, n_wk1_wk2, n_wk1_wk3, n_wk2_wk3⟩⟩ (Nat.le_of_ble_eq_true rfl) (Nat.le_of_ble_eq_true rfl) dX8_point_15
abbrev rmX8_span : Room := { frames := 3, cells := 0, slots := 0, locals := 67 }
set_option maxHeartbeats 4000000 in
set_option maxRecDepth 100000 in
theorem k_X8_span (l : Launch) (D : va_G) (cy : Nat → ClassId) (f : zM) (o : Nat) (wev : Nat) (wnb : Nat) (wki : Nat) (wmy : Nat) (wce : Nat) (wiw : Nat) (wli : Nat) (wha : Nat) (wwt : Nat) (wfy : Nat) (wfk : Nat) (wem : Nat) (wna : Nat) (wpl : Nat) (whs : Nat) (wk1 : Nat) (wk2 : Nat) (wk3 : Nat) (u1 : Int32) (u2 : Int32) (u3 : Int32) (nl : Nat) (nn : Nat) (nf : Nat) (nc : Nat) (lk : Int64) (ks : Nat) (gv : Nat → Int32) (gu : Nat → Int32) (gk : Nat → Int32) (gm : Nat → Int32) (gc : Nat → Int64) (gw : Nat → Int32) (gl : Nat → Int32) (gh : Nat → Int32) (gt : Nat → Int64) (gy : Nat → Int32) (gq : Nat → Int32) (ge1 : Nat → Int32) (gn1 : Nat → Int32) (gp1 : Nat → Int32) (gs : Nat → Int32) (gx1 : Nat → Int32) (gx2 : Nat → Int32) (gx3 : Nat → Int32) (ln : Nat → Nat) (fz : Nat → Nat) (sq : Nat → Nat) (x : Int32) (y : Int32)    (hI : zIM cy f o wev wnb wki wmy wce wiw wli wha wwt wfy wfk wem wna wpl whs wk1 wk2 wk3 u1 u2 u3 nl nn nf nc lk ks gv gu gk gm gc gw gl gh gt gy gq ge1 gn1 gp1 gs gx1 gx2 gx3 ln fz sq) : zCi l D cy yX8_span cX8_span 3 (Option.some Jvm.ClassFile.FieldType.int) rmX8_span [.ref o, .int x, .int y] f (fun (r : Int32) (f1 : zM) => ∃ (u11 : Int32) (u21 : Int32) (u31 : Int32) (nl1 : Nat) (nn1 : Nat) (nf1 : Nat) (nc1 : Nat) (lk1 : Int64) (ks1 : Nat) (gv1 : Nat → Int32) (gu1 : Nat → Int32) (gk1 : Nat → Int32) (gm1 : Nat → Int32) (gc1 : Nat → Int64) (gw1 : Nat → Int32) (gl1 : Nat → Int32) (gh1 : Nat → Int32) (gt1 : Nat → Int64) (gy1 : Nat → Int32) (gq1 : Nat → Int32) (ge11 : Nat → Int32) (gn11 : Nat → Int32) (gp11 : Nat → Int32) (gs1 : Nat → Int32) (gx11 : Nat → Int32) (gx21 : Nat → Int32) (gx31 : Nat → Int32) (ln1 : Nat → Nat) (fz1 : Nat → Nat) (sq1 : Nat → Nat), r = ((q_span nn x y).1) ∧ (u11 = (q_span nn x y).2.1) ∧ (u21 = (q_span nn x y).2.2.1) ∧ (u31 = (q_span nn x y).2.2.2) ∧ (gv1 = zEV gv (q_span nn x y).2.1) ∧ (nl1 = nl) ∧ (gu1 = gu) ∧ (nn1 = if 0 ≤ r then nn + 1 else nn) ∧ (gk1 = if 0 ≤ r then va_up gk nn 1 else gk) ∧ (ln1 = if 0 ≤ r then va_up ln nn (2) else ln) ∧ (gw1 = if 0 ≤ r then va_up gw nn 0 else gw) ∧ (gh1 = if 0 ≤ r then va_up gh nn (zHash 1 nn (2) (q2 x.toInt64 y.toInt64) gh) else gh) ∧ (zGC nn (0 ≤ r) (2) (q2 x.toInt64 y.toInt64) gc gc1) ∧ (nf1 = nf) ∧ (fz1 = fz) ∧ (gq1 = gq) ∧ (nc1 = nc) ∧ (ge11 = ge1) ∧ (gn11 = gn1) ∧ (gp11 = gp1) ∧ (sq1 = sq) ∧ (ks1 = ks) ∧ (gx11 = gx1) ∧ (gx21 = gx2) ∧ (gx31 = gx3) ∧ (lk1 = lk) ∧ zIM cy f1 o wev wnb wki wmy wce wiw wli wha wwt wfy wfk wem wna wpl whs wk1 wk2 wk3 u11 u21 u31 nl1 nn1 nf1 nc1 lk1 ks1 gv1 gu1 gk1 gm1 gc1 gw1 gl1 gh1 gt1 gy1 gq1 ge11 gn11 gp11 gs1 gx11 gx21 gx31 ln1 fz1 sq1) := by
  intro sz
  refine z_body (by decide +kernel) (Nat.le_of_ble_eq_true rfl) ?_
  intro p e s m below meth c ls C hr hin hsz hz hl
  subst hsz
  have hx := C.1
  have hb := C.2.1
  have hA : ∀ q, s.heap.size ≤ q → zA f s.heap.size q := fun q h => Or.inr h
  have hS : va_S (zA f s.heap.size) s.heap s.heap [] := va_S.rf
  have hl : lv_has ls 3 [(0, .ref o), (1, .int x), (2, .int y)] := hl
  obtain ⟨x_o, x_wev, x_wnb, x_wki, x_wmy, x_wce, x_wiw, x_wli, x_wha, x_wwt, x_wfy, x_wfk, x_wem, x_wna, x_wpl, x_whs, x_wk1, x_wk2, x_wk3, hn60, hl12, hf6, hc60, hs40, hMP, hgy, hfz, hgs, hME, hlk, hgw, hfd, n_wki_wmy, n_wki_wiw, n_wki_wli, n_wki_wha, n_wki_wem, n_wki_wna, n_wki_wpl, n_wmy_wiw, n_wmy_wli, n_wmy_wha, n_wmy_wem, n_wmy_wna, n_wmy_wpl, n_wiw_wli, n_wiw_wha, n_wiw_wem, n_wiw_wna, n_wiw_wpl, n_wli_wha, n_wli_wem, n_wli_wna, n_wli_wpl, n_wha_wem, n_wha_wna, n_wha_wpl, n_wem_wna, n_wem_wpl, n_wna_wpl, n_wk1_wk2, n_wk1_wk3, n_wk2_wk3⟩ := id hI
  refine lv_aload_n hx hb dX8_span_0 rfl (lv_at hl 0 rfl) ?_
  refine z_callVv (As := []) C hz hS hA hl (k_X8_begin l D cy f o wev wnb wki wmy wce wiw wli wha wwt wfy wfk wem wna wpl whs wk1 wk2 wk3 u1 u2 u3 nl nn nf nc lk ks x_o ) zyX8_begin mMX8_116 x_o zl8 rfl rfl (Nat.le_of_ble_eq_true rfl) ⟨Nat.le_of_ble_eq_true rfl, Nat.le_of_ble_eq_true rfl⟩ ⟨Nat.le_of_ble_eq_true rfl, Nat.le_of_ble_eq_true rfl⟩ dX8_span_1 (fun  f1 H locs h2 hz hS => ?_)
  obtain ⟨a3, k4⟩ := h2
  refine lv_aload_n hx hb dX8_span_4 rfl (lv_at hl 0 rfl) ?_
  refine z_get (v := .int (nI nn)) C hz a3 zl8 mFX8_83 (by decide) rfl dX8_span_5 ?_
  refine lv_bipush (v := 60) hx hb dX8_span_8 (by decide) ?_
  refine lv_icmp_ne (tgt := 16) hx hb dX8_span_10 (by decide) (fun c5 => ?_) (fun c5 => ?_)
  · replace c5 : ¬ (nn = 60) := fun h => c5 ((nI_eq (a := nn) (b := 60) (by omega) (by omega)).mpr h)
    have h60 : nn < 60 := by omega
    refine lv_iload_n hx hb dX8_span_16 rfl (lv_at hl 1 rfl) ?_
    refine lv_iload_n hx hb dX8_span_17 rfl (lv_at hl 2 rfl) ?_
    refine lv_icmp_le (tgt := 30) hx hb dX8_span_18 (by decide) (fun c6 => ?_) (fun c6 => ?_)
    · refine lv_aload_n hx hb dX8_span_30 rfl (lv_at hl 0 rfl) ?_
      refine lv_iconst (v := 1) hx hb dX8_span_31 (by decide) ?_
      have a7 : f1 wki = some (.inl (cy 0, 60, .inl gk)) := k4 _ _ x_wki (z_ne x_wki x_o rfl)
      have a8 : f1 wmy = some (.inl (cy 0, 60, .inl gm)) := k4 _ _ x_wmy (z_ne x_wmy x_o rfl)
      refine z_callVv (As := [.int 1]) C hz hS hA hl (k_X8_start l D cy f1 o wev wnb wki wmy wce wiw wli wha wwt wfy wfk wem wna wpl whs wk1 wk2 wk3 0 (-1) 0 nl nn nf nc lk ks gk gm 1 a3 a7 a8 (by omega) n_wki_wmy) zyX8_start mMX8_119 a3 zl8 rfl rfl (Nat.le_of_ble_eq_true rfl) ⟨Nat.le_of_ble_eq_true rfl, Nat.le_of_ble_eq_true rfl⟩ ⟨Nat.le_of_ble_eq_true rfl, Nat.le_of_ble_eq_true rfl⟩ dX8_span_32 (fun  f9 H locs h10 hz hS => ?_)
      obtain ⟨a11, a12, k13⟩ := h10
      refine lv_aload_n hx hb dX8_span_35 rfl (lv_at hl 0 rfl) ?_
      refine lv_iload_n hx hb dX8_span_36 rfl (lv_at hl 1 rfl) ?_
      refine lv_i2l (v := x.toInt64) hx hb dX8_span_37 rfl ?_
      have a14 : f9 o = some (.inr (8, [.int 0, .int (-1), .int 0, .ref wev, .int (nI nl), .ref wnb, .int (nI nn), .ref wki, .ref wmy, .ref wce, .ref wiw, .ref wli, .ref wha, .ref wwt, .int (nI nf), .ref wfy, .ref wfk, .int (nI nc), .ref wem, .ref wna, .ref wpl, .ref whs, .long lk, .int (nI ks), .ref wk1, .ref wk2, .ref wk3])) := k13 _ _ a3 (z_ne a3 a7 rfl) (z_ne a3 a8 rfl)
      have a15 : f1 wce = some (.inl (cy 1, 960, .inr (.inl gc))) := k4 _ _ x_wce (z_ne x_wce x_o rfl)
      have a16 : f9 wce = some (.inl (cy 1, 960, .inr (.inl gc))) := k13 _ _ a15 (z_ne a15 a7 rfl) (z_ne a15 a8 rfl)
      refine z_callVv (As := [.long x.toInt64]) C hz hS hA hl (k_X8_part l D cy f9 o wev wnb wki wmy wce wiw wli wha wwt wfy wfk wem wna wpl whs wk1 wk2 wk3 0 (-1) 0 nl nn nf nc lk ks gc (upd gm nn 0) x.toInt64 0 a14 a16 a12 (by omega) pk_us (by omega)) zyX8_part mMX8_127 a14 zl8 rfl rfl (Nat.le_of_ble_eq_true rfl) ⟨Nat.le_of_ble_eq_true rfl, Nat.le_of_ble_eq_true rfl⟩ ⟨Nat.le_of_ble_eq_true rfl, Nat.le_of_ble_eq_true rfl⟩ dX8_span_38 (fun  f17 H locs h18 hz hS => ?_)
      obtain ⟨a19, a20, k21⟩ := h18
      refine lv_aload_n hx hb dX8_span_41 rfl (lv_at hl 0 rfl) ?_
      refine lv_iload_n hx hb dX8_span_42 rfl (lv_at hl 2 rfl) ?_
      refine lv_i2l (v := y.toInt64) hx hb dX8_span_43 rfl ?_
      have a22 : f17 o = some (.inr (8, [.int 0, .int (-1), .int 0, .ref wev, .int (nI nl), .ref wnb, .int (nI nn), .ref wki, .ref wmy, .ref wce, .ref wiw, .ref wli, .ref wha, .ref wwt, .int (nI nf), .ref wfy, .ref wfk, .int (nI nc), .ref wem, .ref wna, .ref wpl, .ref whs, .long lk, .int (nI ks), .ref wk1, .ref wk2, .ref wk3])) := k21 _ _ a14 (z_ne a14 a16 rfl) (z_ne a14 a12 rfl)
      refine z_callVv (As := [.long y.toInt64]) C hz hS hA hl (k_X8_part l D cy f17 o wev wnb wki wmy wce wiw wli wha wwt wfy wfk wem wna wpl whs wk1 wk2 wk3 0 (-1) 0 nl nn nf nc lk ks (vp_updL gc (16 * nn + 0) x.toInt64) (upd (upd gm nn 0) nn (nI (0 + 1))) y.toInt64 1 a22 a19 a20 (by omega) pk_us (by omega)) zyX8_part mMX8_127 a22 zl8 rfl rfl (Nat.le_of_ble_eq_true rfl) ⟨Nat.le_of_ble_eq_true rfl, Nat.le_of_ble_eq_true rfl⟩ ⟨Nat.le_of_ble_eq_true rfl, Nat.le_of_ble_eq_true rfl⟩ dX8_span_44 (fun  f23 H locs h24 hz hS => ?_)
      obtain ⟨a25, a26, k27⟩ := h24
      refine lv_aload_n hx hb dX8_span_47 rfl (lv_at hl 0 rfl) ?_
      have a28 : f23 o = some (.inr (8, [.int 0, .int (-1), .int 0, .ref wev, .int (nI nl), .ref wnb, .int (nI nn), .ref wki, .ref wmy, .ref wce, .ref wiw, .ref wli, .ref wha, .ref wwt, .int (nI nf), .ref wfy, .ref wfk, .int (nI nc), .ref wem, .ref wna, .ref wpl, .ref whs, .long lk, .int (nI ks), .ref wk1, .ref wk2, .ref wk3])) := k27 _ _ a22 (z_ne a22 a19 rfl) (z_ne a22 a20 rfl)
      have a29 : f17 wki = some (.inl (cy 0, 60, .inl (upd gk nn 1))) := k21 _ _ a11 (z_ne a11 a16 rfl) n_wki_wmy
      have a30 : f23 wki = some (.inl (cy 0, 60, .inl (upd gk nn 1))) := k27 _ _ a29 (z_ne a29 a19 rfl) n_wki_wmy
      have a31 : f1 wli = some (.inl (cy 0, 60, .inl gl)) := k4 _ _ x_wli (z_ne x_wli x_o rfl)
      have a32 : f9 wli = some (.inl (cy 0, 60, .inl gl)) := k13 _ _ a31 (Ne.symm n_wki_wli) (Ne.symm n_wmy_wli)
      have a33 : f17 wli = some (.inl (cy 0, 60, .inl gl)) := k21 _ _ a32 (z_ne a32 a16 rfl) (Ne.symm n_wmy_wli)
      have a34 : f23 wli = some (.inl (cy 0, 60, .inl gl)) := k27 _ _ a33 (z_ne a33 a19 rfl) (Ne.symm n_wmy_wli)
      have a35 : f1 wha = some (.inl (cy 0, 60, .inl gh)) := k4 _ _ x_wha (z_ne x_wha x_o rfl)
      have a36 : f9 wha = some (.inl (cy 0, 60, .inl gh)) := k13 _ _ a35 (Ne.symm n_wki_wha) (Ne.symm n_wmy_wha)
      have a37 : f17 wha = some (.inl (cy 0, 60, .inl gh)) := k21 _ _ a36 (z_ne a36 a16 rfl) (Ne.symm n_wmy_wha)
      have a38 : f23 wha = some (.inl (cy 0, 60, .inl gh)) := k27 _ _ a37 (z_ne a37 a19 rfl) (Ne.symm n_wmy_wha)
      refine z_callVi (As := []) C hz hS hA hl (k_X8_made l D cy f23 o wev wnb wki wmy wce wiw wli wha wwt wfy wfk wem wna wpl whs wk1 wk2 wk3 0 (-1) 0 nl nn nf nc lk ks (upd gk nn 1) (upd (upd (upd gm nn 0) nn (nI (0 + 1))) nn (nI (1 + 1))) (vp_updL (vp_updL gc (16 * nn + 0) x.toInt64) (16 * nn + 1) y.toInt64) gl gh ln 2 a28 a30 a26 a25 a34 a38 (by omega) (zMP_keep hMP (fun i9 h9 => by simp only [upd, if_neg (show ¬ i9 = nn by omega)]) (fun i9 h9 => by simp only [upd, if_neg (show ¬ i9 = nn by omega)]) (fun i9 h9 j9 h8 => by simp (disch := omega) only [pk_uLn])) pk_us (by omega) (by rw [pk_us]; exact fun h9 => absurd h9 (by decide)) n_wki_wmy n_wki_wli n_wki_wha n_wmy_wli n_wmy_wha n_wli_wha) zyX8_made mMX8_131 a28 zl8 rfl rfl (Nat.le_of_ble_eq_true rfl) ⟨Nat.le_of_ble_eq_true rfl, Nat.le_of_ble_eq_true rfl⟩ ⟨Nat.le_of_ble_eq_true rfl, Nat.le_of_ble_eq_true rfl⟩ dX8_span_48 (fun r f39 H locs h40 hz hS => ?_)
      obtain ⟨gl_41, rfl, a42, a43, a44, k45⟩ := h40
      have a46 : f1 wev = some (.inl (cy 0, 8, .inl gv)) := k4 _ _ x_wev (z_ne x_wev x_o rfl)
      have a47 : f9 wev = some (.inl (cy 0, 8, .inl gv)) := k13 _ _ a46 (z_ne a46 a7 rfl) (z_ne a46 a8 rfl)
      have a48 : f17 wev = some (.inl (cy 0, 8, .inl gv)) := k21 _ _ a47 (z_ne a47 a16 rfl) (z_ne a47 a12 rfl)
      have a49 : f23 wev = some (.inl (cy 0, 8, .inl gv)) := k27 _ _ a48 (z_ne a48 a19 rfl) (z_ne a48 a20 rfl)
      have a50 : f39 wev = some (.inl (cy 0, 8, .inl gv)) := k45 _ _ a49 (z_ne a49 a28 rfl) (z_ne a49 a34 rfl) (z_ne a49 a38 rfl)
      have a51 : f1 wnb = some (.inl (cy 0, 12, .inl gu)) := k4 _ _ x_wnb (z_ne x_wnb x_o rfl)
      have a52 : f9 wnb = some (.inl (cy 0, 12, .inl gu)) := k13 _ _ a51 (z_ne a51 a7 rfl) (z_ne a51 a8 rfl)
      have a53 : f17 wnb = some (.inl (cy 0, 12, .inl gu)) := k21 _ _ a52 (z_ne a52 a16 rfl) (z_ne a52 a12 rfl)
      have a54 : f23 wnb = some (.inl (cy 0, 12, .inl gu)) := k27 _ _ a53 (z_ne a53 a19 rfl) (z_ne a53 a20 rfl)
      have a55 : f39 wnb = some (.inl (cy 0, 12, .inl gu)) := k45 _ _ a54 (z_ne a54 a28 rfl) (z_ne a54 a34 rfl) (z_ne a54 a38 rfl)
      have a56 : f39 wki = some (.inl (cy 0, 60, .inl (upd gk nn 1))) := k45 _ _ a30 (z_ne a30 a28 rfl) n_wki_wli n_wki_wha
      have a57 : f39 wmy = some (.inl (cy 0, 60, .inl (upd (upd (upd gm nn 0) nn (nI (0 + 1))) nn (nI (1 + 1))))) := k45 _ _ a26 (z_ne a26 a28 rfl) n_wmy_wli n_wmy_wha
      have a58 : f39 wce = some (.inl (cy 1, 960, .inr (.inl (vp_updL (vp_updL gc (16 * nn + 0) x.toInt64) (16 * nn + 1) y.toInt64)))) := k45 _ _ a25 (z_ne a25 a28 rfl) (z_ne a25 a34 rfl) (z_ne a25 a38 rfl)
      have a59 : f1 wiw = some (.inl (cy 2, 60, .inl gw)) := k4 _ _ x_wiw (z_ne x_wiw x_o rfl)
      have a60 : f9 wiw = some (.inl (cy 2, 60, .inl gw)) := k13 _ _ a59 (Ne.symm n_wki_wiw) (Ne.symm n_wmy_wiw)
      have a61 : f17 wiw = some (.inl (cy 2, 60, .inl gw)) := k21 _ _ a60 (z_ne a60 a16 rfl) (Ne.symm n_wmy_wiw)
      have a62 : f23 wiw = some (.inl (cy 2, 60, .inl gw)) := k27 _ _ a61 (z_ne a61 a19 rfl) (Ne.symm n_wmy_wiw)
      have a63 : f39 wiw = some (.inl (cy 2, 60, .inl gw)) := k45 _ _ a62 (z_ne a62 a28 rfl) n_wiw_wli n_wiw_wha
      have a64 : f1 wwt = some (.inl (cy 1, 60, .inr (.inl gt))) := k4 _ _ x_wwt (z_ne x_wwt x_o rfl)
      have a65 : f9 wwt = some (.inl (cy 1, 60, .inr (.inl gt))) := k13 _ _ a64 (z_ne a64 a7 rfl) (z_ne a64 a8 rfl)
      have a66 : f17 wwt = some (.inl (cy 1, 60, .inr (.inl gt))) := k21 _ _ a65 (z_ne a65 a16 rfl) (z_ne a65 a12 rfl)
      have a67 : f23 wwt = some (.inl (cy 1, 60, .inr (.inl gt))) := k27 _ _ a66 (z_ne a66 a19 rfl) (z_ne a66 a20 rfl)
      have a68 : f39 wwt = some (.inl (cy 1, 60, .inr (.inl gt))) := k45 _ _ a67 (z_ne a67 a28 rfl) (z_ne a67 a34 rfl) (z_ne a67 a38 rfl)
      have a69 : f1 wfy = some (.inl (cy 0, 6, .inl gy)) := k4 _ _ x_wfy (z_ne x_wfy x_o rfl)
      have a70 : f9 wfy = some (.inl (cy 0, 6, .inl gy)) := k13 _ _ a69 (z_ne a69 a7 rfl) (z_ne a69 a8 rfl)
      have a71 : f17 wfy = some (.inl (cy 0, 6, .inl gy)) := k21 _ _ a70 (z_ne a70 a16 rfl) (z_ne a70 a12 rfl)
      have a72 : f23 wfy = some (.inl (cy 0, 6, .inl gy)) := k27 _ _ a71 (z_ne a71 a19 rfl) (z_ne a71 a20 rfl)
      have a73 : f39 wfy = some (.inl (cy 0, 6, .inl gy)) := k45 _ _ a72 (z_ne a72 a28 rfl) (z_ne a72 a34 rfl) (z_ne a72 a38 rfl)
      have a74 : f1 wfk = some (.inl (cy 0, 24, .inl gq)) := k4 _ _ x_wfk (z_ne x_wfk x_o rfl)
      have a75 : f9 wfk = some (.inl (cy 0, 24, .inl gq)) := k13 _ _ a74 (z_ne a74 a7 rfl) (z_ne a74 a8 rfl)
      have a76 : f17 wfk = some (.inl (cy 0, 24, .inl gq)) := k21 _ _ a75 (z_ne a75 a16 rfl) (z_ne a75 a12 rfl)
      have a77 : f23 wfk = some (.inl (cy 0, 24, .inl gq)) := k27 _ _ a76 (z_ne a76 a19 rfl) (z_ne a76 a20 rfl)
      have a78 : f39 wfk = some (.inl (cy 0, 24, .inl gq)) := k45 _ _ a77 (z_ne a77 a28 rfl) (z_ne a77 a34 rfl) (z_ne a77 a38 rfl)
      have a79 : f1 wem = some (.inl (cy 0, 60, .inl ge1)) := k4 _ _ x_wem (z_ne x_wem x_o rfl)
      have a80 : f9 wem = some (.inl (cy 0, 60, .inl ge1)) := k13 _ _ a79 (Ne.symm n_wki_wem) (Ne.symm n_wmy_wem)
      have a81 : f17 wem = some (.inl (cy 0, 60, .inl ge1)) := k21 _ _ a80 (z_ne a80 a16 rfl) (Ne.symm n_wmy_wem)
      have a82 : f23 wem = some (.inl (cy 0, 60, .inl ge1)) := k27 _ _ a81 (z_ne a81 a19 rfl) (Ne.symm n_wmy_wem)
      have a83 : f39 wem = some (.inl (cy 0, 60, .inl ge1)) := k45 _ _ a82 (z_ne a82 a28 rfl) (Ne.symm n_wli_wem) (Ne.symm n_wha_wem)
      have a84 : f1 wna = some (.inl (cy 0, 60, .inl gn1)) := k4 _ _ x_wna (z_ne x_wna x_o rfl)
      have a85 : f9 wna = some (.inl (cy 0, 60, .inl gn1)) := k13 _ _ a84 (Ne.symm n_wki_wna) (Ne.symm n_wmy_wna)
      have a86 : f17 wna = some (.inl (cy 0, 60, .inl gn1)) := k21 _ _ a85 (z_ne a85 a16 rfl) (Ne.symm n_wmy_wna)
      have a87 : f23 wna = some (.inl (cy 0, 60, .inl gn1)) := k27 _ _ a86 (z_ne a86 a19 rfl) (Ne.symm n_wmy_wna)
      have a88 : f39 wna = some (.inl (cy 0, 60, .inl gn1)) := k45 _ _ a87 (z_ne a87 a28 rfl) (Ne.symm n_wli_wna) (Ne.symm n_wha_wna)
      have a89 : f1 wpl = some (.inl (cy 0, 60, .inl gp1)) := k4 _ _ x_wpl (z_ne x_wpl x_o rfl)
      have a90 : f9 wpl = some (.inl (cy 0, 60, .inl gp1)) := k13 _ _ a89 (Ne.symm n_wki_wpl) (Ne.symm n_wmy_wpl)
      have a91 : f17 wpl = some (.inl (cy 0, 60, .inl gp1)) := k21 _ _ a90 (z_ne a90 a16 rfl) (Ne.symm n_wmy_wpl)
      have a92 : f23 wpl = some (.inl (cy 0, 60, .inl gp1)) := k27 _ _ a91 (z_ne a91 a19 rfl) (Ne.symm n_wmy_wpl)
      have a93 : f39 wpl = some (.inl (cy 0, 60, .inl gp1)) := k45 _ _ a92 (z_ne a92 a28 rfl) (Ne.symm n_wli_wpl) (Ne.symm n_wha_wpl)
      have a94 : f1 whs = some (.inl (cy 0, 4, .inl gs)) := k4 _ _ x_whs (z_ne x_whs x_o rfl)
      have a95 : f9 whs = some (.inl (cy 0, 4, .inl gs)) := k13 _ _ a94 (z_ne a94 a7 rfl) (z_ne a94 a8 rfl)
      have a96 : f17 whs = some (.inl (cy 0, 4, .inl gs)) := k21 _ _ a95 (z_ne a95 a16 rfl) (z_ne a95 a12 rfl)
      have a97 : f23 whs = some (.inl (cy 0, 4, .inl gs)) := k27 _ _ a96 (z_ne a96 a19 rfl) (z_ne a96 a20 rfl)
      have a98 : f39 whs = some (.inl (cy 0, 4, .inl gs)) := k45 _ _ a97 (z_ne a97 a28 rfl) (z_ne a97 a34 rfl) (z_ne a97 a38 rfl)
      have a99 : f1 wk1 = some (.inl (cy 0, 40, .inl gx1)) := k4 _ _ x_wk1 (z_ne x_wk1 x_o rfl)
      have a100 : f9 wk1 = some (.inl (cy 0, 40, .inl gx1)) := k13 _ _ a99 (z_ne a99 a7 rfl) (z_ne a99 a8 rfl)
      have a101 : f17 wk1 = some (.inl (cy 0, 40, .inl gx1)) := k21 _ _ a100 (z_ne a100 a16 rfl) (z_ne a100 a12 rfl)
      have a102 : f23 wk1 = some (.inl (cy 0, 40, .inl gx1)) := k27 _ _ a101 (z_ne a101 a19 rfl) (z_ne a101 a20 rfl)
      have a103 : f39 wk1 = some (.inl (cy 0, 40, .inl gx1)) := k45 _ _ a102 (z_ne a102 a28 rfl) (z_ne a102 a34 rfl) (z_ne a102 a38 rfl)
      have a104 : f1 wk2 = some (.inl (cy 0, 40, .inl gx2)) := k4 _ _ x_wk2 (z_ne x_wk2 x_o rfl)
      have a105 : f9 wk2 = some (.inl (cy 0, 40, .inl gx2)) := k13 _ _ a104 (z_ne a104 a7 rfl) (z_ne a104 a8 rfl)
      have a106 : f17 wk2 = some (.inl (cy 0, 40, .inl gx2)) := k21 _ _ a105 (z_ne a105 a16 rfl) (z_ne a105 a12 rfl)
      have a107 : f23 wk2 = some (.inl (cy 0, 40, .inl gx2)) := k27 _ _ a106 (z_ne a106 a19 rfl) (z_ne a106 a20 rfl)
      have a108 : f39 wk2 = some (.inl (cy 0, 40, .inl gx2)) := k45 _ _ a107 (z_ne a107 a28 rfl) (z_ne a107 a34 rfl) (z_ne a107 a38 rfl)
      have a109 : f1 wk3 = some (.inl (cy 0, 40, .inl gx3)) := k4 _ _ x_wk3 (z_ne x_wk3 x_o rfl)
      have a110 : f9 wk3 = some (.inl (cy 0, 40, .inl gx3)) := k13 _ _ a109 (z_ne a109 a7 rfl) (z_ne a109 a8 rfl)
      have a111 : f17 wk3 = some (.inl (cy 0, 40, .inl gx3)) := k21 _ _ a110 (z_ne a110 a16 rfl) (z_ne a110 a12 rfl)
      have a112 : f23 wk3 = some (.inl (cy 0, 40, .inl gx3)) := k27 _ _ a111 (z_ne a111 a19 rfl) (z_ne a111 a20 rfl)
      have a113 : f39 wk3 = some (.inl (cy 0, 40, .inl gx3)) := k45 _ _ a112 (z_ne a112 a28 rfl) (z_ne a112 a34 rfl) (z_ne a112 a38 rfl)
      have hgpf : ∀ j, j < 2 → (vp_updL (vp_updL gc (16 * nn + 0) x.toInt64) (16 * nn + 1) y.toInt64) (16 * nn + j) = (q2 x.toInt64 y.toInt64) j := (z_m2 _ _ _ _)
      have hgkp : ∀ i, i < nn → ∀ j, j < 16 → (vp_updL (vp_updL gc (16 * nn + 0) x.toInt64) (16 * nn + 1) y.toInt64) (16 * i + j) = gc (16 * i + j) := (fun i9 h9 j9 h8 => by simp (disch := omega) only [pk_uLn])
      have hq : q_span nn x y = (nI nn, 0, (-1), 0) := by simp [q_span, h60, c6]
      exact z_iret C hr rfl hz hS ⟨0, (-1), 0, nl, (nn + 1), nf, nc, lk, ks, gv, gu, (upd gk nn 1), (upd (upd (upd gm nn 0) nn (nI (0 + 1))) nn (nI (1 + 1))), (vp_updL (vp_updL gc (16 * nn + 0) x.toInt64) (16 * nn + 1) y.toInt64), gw, gl_41, (upd gh nn (zHash ((upd gk nn 1) nn) nn 2 (fun k => (vp_updL (vp_updL gc (16 * nn + 0) x.toInt64) (16 * nn + 1) y.toInt64) (16 * nn + k)) gh)), gt, gy, gq, ge1, gn1, gp1, gs, gx1, gx2, gx3, (va_up ln nn 2), fz, sq, (by rw [hq]), (by rw [hq]), (by rw [hq]), (by rw [hq]), (by rw [hq]; exact (zEV0 gv).symm), rfl, rfl, (by rw [if_pos (nI_pos' (by omega))]), (by rw [if_pos (nI_pos' (by omega))]; exact z_uv _ _ _), (by rw [if_pos (nI_pos' (by omega))]), (by rw [if_pos (nI_pos' (by omega))]; exact z_gw0 hgw), (by rw [if_pos (nI_pos' (by omega))]; exact z_hs1 pk_us rfl hgpf), ⟨hgkp, fun _ => hgpf⟩, rfl, rfl, rfl, rfl, rfl, rfl, rfl, rfl, rfl, rfl, rfl, rfl, rfl, ⟨a42, a50, a55, a56, a57, a58, a63, a43, a44, a68, a73, a78, a83, a88, a93, a98, a103, a108, a113, (by omega), hl12, hf6, hc60, hs40, (zMP_new (zMP_keep hMP (fun i9 h9 => by simp only [upd, if_neg (show ¬ i9 = nn by omega)]) (fun i9 h9 => by simp only [upd, if_neg (show ¬ i9 = nn by omega)]) (fun i9 h9 j9 h8 => by simp (disch := omega) only [pk_uLn])) pk_us (by rw [pk_us]; exact zMP1_of (by omega) (by decide) (by decide) (by decide))), hgy, hfz, hgs, hME, hlk, (fun i9 h9 => hgw i9 (by omega)), hfd, n_wki_wmy, n_wki_wiw, n_wki_wli, n_wki_wha, n_wki_wem, n_wki_wna, n_wki_wpl, n_wmy_wiw, n_wmy_wli, n_wmy_wha, n_wmy_wem, n_wmy_wna, n_wmy_wpl, n_wiw_wli, n_wiw_wha, n_wiw_wem, n_wiw_wna, n_wiw_wpl, n_wli_wha, n_wli_wem, n_wli_wna, n_wli_wpl, n_wha_wem, n_wha_wna, n_wha_wpl, n_wem_wna, n_wem_wpl, n_wna_wpl, n_wk1_wk2, n_wk1_wk3, n_wk2_wk3⟩⟩ (Nat.le_of_ble_eq_true rfl) (Nat.le_of_ble_eq_true rfl) dX8_span_51
    · refine lv_aload_n hx hb dX8_span_21 rfl (lv_at hl 0 rfl) ?_
      refine lv_bipush (v := 7) hx hb dX8_span_22 (by decide) ?_
      refine lv_iconst (v := 1) hx hb dX8_span_24 (by decide) ?_
      refine lv_iconst (v := 1) hx hb dX8_span_25 (by decide) ?_
      have a114 : f1 wev = some (.inl (cy 0, 8, .inl gv)) := k4 _ _ x_wev (z_ne x_wev x_o rfl)
      refine z_callVi (As := [.int 7, .int 1, .int 1]) C hz hS hA hl (k_X8_fails l D cy f1 o wev wnb wki wmy wce wiw wli wha wwt wfy wfk wem wna wpl whs wk1 wk2 wk3 0 (-1) 0 nl nn nf nc lk ks 7 1 1 gv 7 a3 a114 (by decide) (Nat.le_of_ble_eq_true rfl)) zyX8_fails mMX8_135 a3 zl8 rfl rfl (Nat.le_of_ble_eq_true rfl) ⟨Nat.le_of_ble_eq_true rfl, Nat.le_of_ble_eq_true rfl⟩ ⟨Nat.le_of_ble_eq_true rfl, Nat.le_of_ble_eq_true rfl⟩ dX8_span_26 (fun r f115 H locs h116 hz hS => ?_)
      obtain ⟨rfl, a117, a118, k119⟩ := h116
      have a120 : f1 wnb = some (.inl (cy 0, 12, .inl gu)) := k4 _ _ x_wnb (z_ne x_wnb x_o rfl)
      have a121 : f115 wnb = some (.inl (cy 0, 12, .inl gu)) := k119 _ _ a120 (z_ne a120 a3 rfl) (z_ne a120 a114 rfl)
      have a122 : f1 wki = some (.inl (cy 0, 60, .inl gk)) := k4 _ _ x_wki (z_ne x_wki x_o rfl)
      have a123 : f115 wki = some (.inl (cy 0, 60, .inl gk)) := k119 _ _ a122 (z_ne a122 a3 rfl) (z_ne a122 a114 rfl)
      have a124 : f1 wmy = some (.inl (cy 0, 60, .inl gm)) := k4 _ _ x_wmy (z_ne x_wmy x_o rfl)
      have a125 : f115 wmy = some (.inl (cy 0, 60, .inl gm)) := k119 _ _ a124 (z_ne a124 a3 rfl) (z_ne a124 a114 rfl)
      have a126 : f1 wce = some (.inl (cy 1, 960, .inr (.inl gc))) := k4 _ _ x_wce (z_ne x_wce x_o rfl)
      have a127 : f115 wce = some (.inl (cy 1, 960, .inr (.inl gc))) := k119 _ _ a126 (z_ne a126 a3 rfl) (z_ne a126 a114 rfl)
      have a128 : f1 wiw = some (.inl (cy 2, 60, .inl gw)) := k4 _ _ x_wiw (z_ne x_wiw x_o rfl)
      have a129 : f115 wiw = some (.inl (cy 2, 60, .inl gw)) := k119 _ _ a128 (z_ne a128 a3 rfl) (z_ne a128 a114 rfl)
      have a130 : f1 wli = some (.inl (cy 0, 60, .inl gl)) := k4 _ _ x_wli (z_ne x_wli x_o rfl)
      have a131 : f115 wli = some (.inl (cy 0, 60, .inl gl)) := k119 _ _ a130 (z_ne a130 a3 rfl) (z_ne a130 a114 rfl)
      have a132 : f1 wha = some (.inl (cy 0, 60, .inl gh)) := k4 _ _ x_wha (z_ne x_wha x_o rfl)
      have a133 : f115 wha = some (.inl (cy 0, 60, .inl gh)) := k119 _ _ a132 (z_ne a132 a3 rfl) (z_ne a132 a114 rfl)
      have a134 : f1 wwt = some (.inl (cy 1, 60, .inr (.inl gt))) := k4 _ _ x_wwt (z_ne x_wwt x_o rfl)
      have a135 : f115 wwt = some (.inl (cy 1, 60, .inr (.inl gt))) := k119 _ _ a134 (z_ne a134 a3 rfl) (z_ne a134 a114 rfl)
      have a136 : f1 wfy = some (.inl (cy 0, 6, .inl gy)) := k4 _ _ x_wfy (z_ne x_wfy x_o rfl)
      have a137 : f115 wfy = some (.inl (cy 0, 6, .inl gy)) := k119 _ _ a136 (z_ne a136 a3 rfl) (z_ne a136 a114 rfl)
      have a138 : f1 wfk = some (.inl (cy 0, 24, .inl gq)) := k4 _ _ x_wfk (z_ne x_wfk x_o rfl)
      have a139 : f115 wfk = some (.inl (cy 0, 24, .inl gq)) := k119 _ _ a138 (z_ne a138 a3 rfl) (z_ne a138 a114 rfl)
      have a140 : f1 wem = some (.inl (cy 0, 60, .inl ge1)) := k4 _ _ x_wem (z_ne x_wem x_o rfl)
      have a141 : f115 wem = some (.inl (cy 0, 60, .inl ge1)) := k119 _ _ a140 (z_ne a140 a3 rfl) (z_ne a140 a114 rfl)
      have a142 : f1 wna = some (.inl (cy 0, 60, .inl gn1)) := k4 _ _ x_wna (z_ne x_wna x_o rfl)
      have a143 : f115 wna = some (.inl (cy 0, 60, .inl gn1)) := k119 _ _ a142 (z_ne a142 a3 rfl) (z_ne a142 a114 rfl)
      have a144 : f1 wpl = some (.inl (cy 0, 60, .inl gp1)) := k4 _ _ x_wpl (z_ne x_wpl x_o rfl)
      have a145 : f115 wpl = some (.inl (cy 0, 60, .inl gp1)) := k119 _ _ a144 (z_ne a144 a3 rfl) (z_ne a144 a114 rfl)
      have a146 : f1 whs = some (.inl (cy 0, 4, .inl gs)) := k4 _ _ x_whs (z_ne x_whs x_o rfl)
      have a147 : f115 whs = some (.inl (cy 0, 4, .inl gs)) := k119 _ _ a146 (z_ne a146 a3 rfl) (z_ne a146 a114 rfl)
      have a148 : f1 wk1 = some (.inl (cy 0, 40, .inl gx1)) := k4 _ _ x_wk1 (z_ne x_wk1 x_o rfl)
      have a149 : f115 wk1 = some (.inl (cy 0, 40, .inl gx1)) := k119 _ _ a148 (z_ne a148 a3 rfl) (z_ne a148 a114 rfl)
      have a150 : f1 wk2 = some (.inl (cy 0, 40, .inl gx2)) := k4 _ _ x_wk2 (z_ne x_wk2 x_o rfl)
      have a151 : f115 wk2 = some (.inl (cy 0, 40, .inl gx2)) := k119 _ _ a150 (z_ne a150 a3 rfl) (z_ne a150 a114 rfl)
      have a152 : f1 wk3 = some (.inl (cy 0, 40, .inl gx3)) := k4 _ _ x_wk3 (z_ne x_wk3 x_o rfl)
      have a153 : f115 wk3 = some (.inl (cy 0, 40, .inl gx3)) := k119 _ _ a152 (z_ne a152 a3 rfl) (z_ne a152 a114 rfl)
      have hq : q_span nn x y = ((-4), 7, 1, 1) := by simp [q_span, h60, c6]
      exact z_iret C hr rfl hz hS ⟨7, 1, 1, nl, nn, nf, nc, lk, ks, (upd gv 7 (gv 7 + 1)), gu, gk, gm, gc, gw, gl, gh, gt, gy, gq, ge1, gn1, gp1, gs, gx1, gx2, gx3, ln, fz, sq, (by rw [hq]), (by rw [hq]), (by rw [hq]), (by rw [hq]), (by rw [hq]; exact (zEV7 gv).symm), rfl, rfl, (by rw [if_neg (by decide)]), (by rw [if_neg (by decide)]), (by rw [if_neg (by decide)]), (by rw [if_neg (by decide)]), (by rw [if_neg (by decide)]), (zGC_no (by decide)), rfl, rfl, rfl, rfl, rfl, rfl, rfl, rfl, rfl, rfl, rfl, rfl, rfl, ⟨a117, a118, a121, a123, a125, a127, a129, a131, a133, a135, a137, a139, a141, a143, a145, a147, a149, a151, a153, hn60, hl12, hf6, hc60, hs40, hMP, hgy, hfz, hgs, hME, hlk, hgw, hfd, n_wki_wmy, n_wki_wiw, n_wki_wli, n_wki_wha, n_wki_wem, n_wki_wna, n_wki_wpl, n_wmy_wiw, n_wmy_wli, n_wmy_wha, n_wmy_wem, n_wmy_wna, n_wmy_wpl, n_wiw_wli, n_wiw_wha, n_wiw_wem, n_wiw_wna, n_wiw_wpl, n_wli_wha, n_wli_wem, n_wli_wna, n_wli_wpl, n_wha_wem, n_wha_wna, n_wha_wpl, n_wem_wna, n_wem_wpl, n_wna_wpl, n_wk1_wk2, n_wk1_wk3, n_wk2_wk3⟩⟩ (Nat.le_of_ble_eq_true rfl) (Nat.le_of_ble_eq_true rfl) dX8_span_29
  · replace c5 : (nn = 60) := (nI_eq (a := nn) (b := 60) (by omega) (by omega)).mp c5
    have h60 : ¬ nn < 60 := by omega
    refine lv_bipush (v := (-3)) hx hb dX8_span_13 (by decide) ?_
    have a154 : f1 wev = some (.inl (cy 0, 8, .inl gv)) := k4 _ _ x_wev (z_ne x_wev x_o rfl)
    have a155 : f1 wnb = some (.inl (cy 0, 12, .inl gu)) := k4 _ _ x_wnb (z_ne x_wnb x_o rfl)
    have a156 : f1 wki = some (.inl (cy 0, 60, .inl gk)) := k4 _ _ x_wki (z_ne x_wki x_o rfl)
    have a157 : f1 wmy = some (.inl (cy 0, 60, .inl gm)) := k4 _ _ x_wmy (z_ne x_wmy x_o rfl)
    have a158 : f1 wce = some (.inl (cy 1, 960, .inr (.inl gc))) := k4 _ _ x_wce (z_ne x_wce x_o rfl)
    have a159 : f1 wiw = some (.inl (cy 2, 60, .inl gw)) := k4 _ _ x_wiw (z_ne x_wiw x_o rfl)
    have a160 : f1 wli = some (.inl (cy 0, 60, .inl gl)) := k4 _ _ x_wli (z_ne x_wli x_o rfl)
    have a161 : f1 wha = some (.inl (cy 0, 60, .inl gh)) := k4 _ _ x_wha (z_ne x_wha x_o rfl)
    have a162 : f1 wwt = some (.inl (cy 1, 60, .inr (.inl gt))) := k4 _ _ x_wwt (z_ne x_wwt x_o rfl)
    have a163 : f1 wfy = some (.inl (cy 0, 6, .inl gy)) := k4 _ _ x_wfy (z_ne x_wfy x_o rfl)
    have a164 : f1 wfk = some (.inl (cy 0, 24, .inl gq)) := k4 _ _ x_wfk (z_ne x_wfk x_o rfl)
    have a165 : f1 wem = some (.inl (cy 0, 60, .inl ge1)) := k4 _ _ x_wem (z_ne x_wem x_o rfl)
    have a166 : f1 wna = some (.inl (cy 0, 60, .inl gn1)) := k4 _ _ x_wna (z_ne x_wna x_o rfl)
    have a167 : f1 wpl = some (.inl (cy 0, 60, .inl gp1)) := k4 _ _ x_wpl (z_ne x_wpl x_o rfl)
    have a168 : f1 whs = some (.inl (cy 0, 4, .inl gs)) := k4 _ _ x_whs (z_ne x_whs x_o rfl)
    have a169 : f1 wk1 = some (.inl (cy 0, 40, .inl gx1)) := k4 _ _ x_wk1 (z_ne x_wk1 x_o rfl)
    have a170 : f1 wk2 = some (.inl (cy 0, 40, .inl gx2)) := k4 _ _ x_wk2 (z_ne x_wk2 x_o rfl)
    have a171 : f1 wk3 = some (.inl (cy 0, 40, .inl gx3)) := k4 _ _ x_wk3 (z_ne x_wk3 x_o rfl)
    have hq : q_span nn x y = ((-3), 0, (-1), 0) := by simp [q_span, h60]
    exact z_iret C hr rfl hz hS ⟨0, (-1), 0, nl, nn, nf, nc, lk, ks, gv, gu, gk, gm, gc, gw, gl, gh, gt, gy, gq, ge1, gn1, gp1, gs, gx1, gx2, gx3, ln, fz, sq, (by rw [hq]), (by rw [hq]), (by rw [hq]), (by rw [hq]), (by rw [hq]; exact (zEV0 gv).symm), rfl, rfl, (by rw [if_neg (by decide)]), (by rw [if_neg (by decide)]), (by rw [if_neg (by decide)]), (by rw [if_neg (by decide)]), (by rw [if_neg (by decide)]), (zGC_no (by decide)), rfl, rfl, rfl, rfl, rfl, rfl, rfl, rfl, rfl, rfl, rfl, rfl, rfl, ⟨a3, a154, a155, a156, a157, a158, a159, a160, a161, a162, a163, a164, a165, a166, a167, a168, a169, a170, a171, hn60, hl12, hf6, hc60, hs40, hMP, hgy, hfz, hgs, hME, hlk, hgw, hfd, n_wki_wmy, n_wki_wiw, n_wki_wli, n_wki_wha, n_wki_wem, n_wki_wna, n_wki_wpl, n_wmy_wiw, n_wmy_wli, n_wmy_wha, n_wmy_wem, n_wmy_wna, n_wmy_wpl, n_wiw_wli, n_wiw_wha, n_wiw_wem, n_wiw_wna, n_wiw_wpl, n_wli_wha, n_wli_wem, n_wli_wna, n_wli_wpl, n_wha_wem, n_wha_wna, n_wha_wpl, n_wem_wna, n_wem_wpl, n_wna_wpl, n_wk1_wk2, n_wk1_wk3, n_wk2_wk3⟩⟩ (Nat.le_of_ble_eq_true rfl) (Nat.le_of_ble_eq_true rfl) dX8_span_15
