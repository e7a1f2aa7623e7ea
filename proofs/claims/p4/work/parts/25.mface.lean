abbrev rmX8_point : Room := { frames := 3, cells := 0, slots := 0, locals := 67 }
set_option maxHeartbeats 4000000 in
set_option maxRecDepth 100000 in
theorem k_X8_point (l : Launch) (D : va_G) (cy : Nat → ClassId) (f : zM) (o : Nat) (wev : Nat) (wnb : Nat) (wki : Nat) (wmy : Nat) (wce : Nat) (wiw : Nat) (wli : Nat) (wha : Nat) (wwt : Nat) (wfy : Nat) (wfk : Nat) (wem : Nat) (wna : Nat) (wpl : Nat) (whs : Nat) (wk1 : Nat) (wk2 : Nat) (wk3 : Nat) (u1 : Int32) (u2 : Int32) (u3 : Int32) (nl : Nat) (nn : Nat) (nf : Nat) (nc : Nat) (lk : Int64) (ks : Nat) (gv : Nat → Int32) (gu : Nat → Int32) (gk : Nat → Int32) (gm : Nat → Int32) (gc : Nat → Int64) (gw : Nat → Int32) (gl : Nat → Int32) (gh : Nat → Int32) (gt : Nat → Int64) (gy : Nat → Int32) (gq : Nat → Int32) (ge1 : Nat → Int32) (gn1 : Nat → Int32) (gp1 : Nat → Int32) (gs : Nat → Int32) (gx1 : Nat → Int32) (gx2 : Nat → Int32) (gx3 : Nat → Int32) (ln : Nat → Nat) (fz : Nat → Nat) (sq : Nat → Nat) (x : Int64) (y : Int64)    (hI : zIM cy f o wev wnb wki wmy wce wiw wli wha wwt wfy wfk wem wna wpl whs wk1 wk2 wk3 u1 u2 u3 nl nn nf nc lk ks gv gu gk gm gc gw gl gh gt gy gq ge1 gn1 gp1 gs gx1 gx2 gx3 ln fz sq) : zCi l D cy yX8_point cX8_point 5 (Option.some Jvm.ClassFile.FieldType.int) rmX8_point [.ref o, .long x, .long y] f (fun (r : Int32) (f1 : zM) => ∃ (u11 : Int32) (u21 : Int32) (u31 : Int32) (nl1 : Nat) (nn1 : Nat) (nf1 : Nat) (nc1 : Nat) (lk1 : Int64) (ks1 : Nat) (gv1 : Nat → Int32) (gu1 : Nat → Int32) (gk1 : Nat → Int32) (gm1 : Nat → Int32) (gc1 : Nat → Int64) (gw1 : Nat → Int32) (gl1 : Nat → Int32) (gh1 : Nat → Int32) (gt1 : Nat → Int64) (gy1 : Nat → Int32) (gq1 : Nat → Int32) (ge11 : Nat → Int32) (gn11 : Nat → Int32) (gp11 : Nat → Int32) (gs1 : Nat → Int32) (gx11 : Nat → Int32) (gx21 : Nat → Int32) (gx31 : Nat → Int32) (ln1 : Nat → Nat) (fz1 : Nat → Nat) (sq1 : Nat → Nat), r = (if nn < 60 then nI nn else (-3)) ∧ (nl1 = nl) ∧ (nn1 = if 0 ≤ r then nn + 1 else nn) ∧ zIM cy f1 o wev wnb wki wmy wce wiw wli wha wwt wfy wfk wem wna wpl whs wk1 wk2 wk3 u11 u21 u31 nl1 nn1 nf1 nc1 lk1 ks1 gv1 gu1 gk1 gm1 gc1 gw1 gl1 gh1 gt1 gy1 gq1 ge11 gn11 gp11 gs1 gx11 gx21 gx31 ln1 fz1 sq1) := by
  intro sz
  refine z_body (by decide +kernel) (Nat.le_of_ble_eq_true rfl) ?_
  intro p e s m below meth c ls C hr hin hsz hz hl
  subst hsz
  have hx := C.1
  have hb := C.2.1
  have hA : ∀ q, s.heap.size ≤ q → zA f s.heap.size q := fun q h => Or.inr h
  have hS : va_S (zA f s.heap.size) s.heap s.heap [] := va_S.rf
  have hl : lv_has ls 5 [(0, .ref o), (1, .long x), (3, .long y)] := hl
  obtain ⟨x_o, x_wev, x_wnb, x_wki, x_wmy, x_wce, x_wiw, x_wli, x_wha, x_wwt, x_wfy, x_wfk, x_wem, x_wna, x_wpl, x_whs, x_wk1, x_wk2, x_wk3, hn60, hl12, hf6, hc60, hs40, hMP, hgy, hfz, hgs, hME, hlk, n_wki_wmy, n_wki_wiw, n_wki_wli, n_wki_wha, n_wki_wem, n_wki_wna, n_wki_wpl, n_wmy_wiw, n_wmy_wli, n_wmy_wha, n_wmy_wem, n_wmy_wna, n_wmy_wpl, n_wiw_wli, n_wiw_wha, n_wiw_wem, n_wiw_wna, n_wiw_wpl, n_wli_wha, n_wli_wem, n_wli_wna, n_wli_wpl, n_wha_wem, n_wha_wna, n_wha_wpl, n_wem_wna, n_wem_wpl, n_wna_wpl, n_wk1_wk2, n_wk1_wk3, n_wk2_wk3⟩ := id hI
  refine lv_aload_n hx hb dX8_point_0 rfl (lv_at hl 0 rfl) ?_
  refine z_callVv (As := []) C hz hS hA hl (k_X8_begin l D cy f o wev wnb wki wmy wce wiw wli wha wwt wfy wfk wem wna wpl whs wk1 wk2 wk3 u1 u2 u3 nl nn nf nc lk ks x_o ) zyX8_begin mMX8_116 x_o zl8 rfl rfl (Nat.le_of_ble_eq_true rfl) ⟨Nat.le_of_ble_eq_true rfl, Nat.le_of_ble_eq_true rfl⟩ ⟨Nat.le_of_ble_eq_true rfl, Nat.le_of_ble_eq_true rfl⟩ dX8_point_1 (fun  f1 H locs h2 hz hS => ?_)
  obtain ⟨a3, k4⟩ := h2
  refine lv_aload_n hx hb dX8_point_4 rfl (lv_at hl 0 rfl) ?_
  refine z_get (v := .int (nI nn)) C hz a3 zl8 mFX8_83 (by decide) rfl dX8_point_5 ?_
  refine lv_bipush (v := 60) hx hb dX8_point_8 (by decide) ?_
  refine lv_icmp_ne (tgt := 16) hx hb dX8_point_10 (by decide) (fun c5 => ?_) (fun c5 => ?_)
  · replace c5 : ¬ (nn = 60) := fun h => c5 ((nI_eq (a := nn) (b := 60) (by omega) (by omega)).mpr h)
    have h60 : nn < 60 := by omega
    refine lv_aload_n hx hb dX8_point_16 rfl (lv_at hl 0 rfl) ?_
    refine lv_iconst (v := 0) hx hb dX8_point_17 (by decide) ?_
    have a6 : f1 wki = some (.inl (cy 0, 60, .inl gk)) := k4 _ _ x_wki (z_ne x_wki x_o rfl)
    have a7 : f1 wmy = some (.inl (cy 0, 60, .inl gm)) := k4 _ _ x_wmy (z_ne x_wmy x_o rfl)
    refine z_callVv (As := [.int 0]) C hz hS hA hl (k_X8_start l D cy f1 o wev wnb wki wmy wce wiw wli wha wwt wfy wfk wem wna wpl whs wk1 wk2 wk3 0 (-1) 0 nl nn nf nc lk ks gk gm 0 a3 a6 a7 (by omega) n_wki_wmy) zyX8_start mMX8_119 a3 zl8 rfl rfl (Nat.le_of_ble_eq_true rfl) ⟨Nat.le_of_ble_eq_true rfl, Nat.le_of_ble_eq_true rfl⟩ ⟨Nat.le_of_ble_eq_true rfl, Nat.le_of_ble_eq_true rfl⟩ dX8_point_18 (fun  f8 H locs h9 hz hS => ?_)
    obtain ⟨a10, a11, k12⟩ := h9
    refine lv_aload_n hx hb dX8_point_21 rfl (lv_at hl 0 rfl) ?_
    refine lv_lload_n hx hb dX8_point_22 rfl (lv_at hl 1 rfl) ?_
    refine z_callSl (As := [.long x]) C hz hS hA hl (k_X8_clean l D cy f8 x  ) zyX8_clean mMX8_123 rfl rfl (Nat.le_of_ble_eq_true rfl) ⟨Nat.le_of_ble_eq_true rfl, Nat.le_of_ble_eq_true rfl⟩ ⟨Nat.le_of_ble_eq_true rfl, Nat.le_of_ble_eq_true rfl⟩ dX8_point_23 (fun r15 f13 H locs h14 hz hS => ?_)
    have k16 := h14
    have a17 : f8 o = some (.inr (8, [.int 0, .int (-1), .int 0, .ref wev, .int (nI nl), .ref wnb, .int (nI nn), .ref wki, .ref wmy, .ref wce, .ref wiw, .ref wli, .ref wha, .ref wwt, .int (nI nf), .ref wfy, .ref wfk, .int (nI nc), .ref wem, .ref wna, .ref wpl, .ref whs, .long lk, .int (nI ks), .ref wk1, .ref wk2, .ref wk3])) := k12 _ _ a3 (z_ne a3 a6 rfl) (z_ne a3 a7 rfl)
    have a18 : f13 o = some (.inr (8, [.int 0, .int (-1), .int 0, .ref wev, .int (nI nl), .ref wnb, .int (nI nn), .ref wki, .ref wmy, .ref wce, .ref wiw, .ref wli, .ref wha, .ref wwt, .int (nI nf), .ref wfy, .ref wfk, .int (nI nc), .ref wem, .ref wna, .ref wpl, .ref whs, .long lk, .int (nI ks), .ref wk1, .ref wk2, .ref wk3])) := k16 _ _ a17 
    have a19 : f1 wce = some (.inl (cy 1, 960, .inr (.inl gc))) := k4 _ _ x_wce (z_ne x_wce x_o rfl)
    have a20 : f8 wce = some (.inl (cy 1, 960, .inr (.inl gc))) := k12 _ _ a19 (z_ne a19 a6 rfl) (z_ne a19 a7 rfl)
    have a21 : f13 wce = some (.inl (cy 1, 960, .inr (.inl gc))) := k16 _ _ a20 
    have a22 : f13 wmy = some (.inl (cy 0, 60, .inl (upd gm nn 0))) := k16 _ _ a11 
    refine z_callVv (As := [.long r15]) C hz hS hA hl (k_X8_part l D cy f13 o wev wnb wki wmy wce wiw wli wha wwt wfy wfk wem wna wpl whs wk1 wk2 wk3 0 (-1) 0 nl nn nf nc lk ks gc (upd gm nn 0) r15 0 a18 a21 a22 (by omega) pk_us (by omega)) zyX8_part mMX8_127 a18 zl8 rfl rfl (Nat.le_of_ble_eq_true rfl) ⟨Nat.le_of_ble_eq_true rfl, Nat.le_of_ble_eq_true rfl⟩ ⟨Nat.le_of_ble_eq_true rfl, Nat.le_of_ble_eq_true rfl⟩ dX8_point_26 (fun  f23 H locs h24 hz hS => ?_)
    obtain ⟨a25, a26, k27⟩ := h24
    refine lv_aload_n hx hb dX8_point_29 rfl (lv_at hl 0 rfl) ?_
    refine lv_lload_n hx hb dX8_point_30 rfl (lv_at hl 2 rfl) ?_
    refine z_callSl (As := [.long y]) C hz hS hA hl (k_X8_clean l D cy f23 y  ) zyX8_clean mMX8_123 rfl rfl (Nat.le_of_ble_eq_true rfl) ⟨Nat.le_of_ble_eq_true rfl, Nat.le_of_ble_eq_true rfl⟩ ⟨Nat.le_of_ble_eq_true rfl, Nat.le_of_ble_eq_true rfl⟩ dX8_point_31 (fun r30 f28 H locs h29 hz hS => ?_)
    have k31 := h29
    have a32 : f23 o = some (.inr (8, [.int 0, .int (-1), .int 0, .ref wev, .int (nI nl), .ref wnb, .int (nI nn), .ref wki, .ref wmy, .ref wce, .ref wiw, .ref wli, .ref wha, .ref wwt, .int (nI nf), .ref wfy, .ref wfk, .int (nI nc), .ref wem, .ref wna, .ref wpl, .ref whs, .long lk, .int (nI ks), .ref wk1, .ref wk2, .ref wk3])) := k27 _ _ a18 (z_ne a18 a21 rfl) (z_ne a18 a22 rfl)
    have a33 : f28 o = some (.inr (8, [.int 0, .int (-1), .int 0, .ref wev, .int (nI nl), .ref wnb, .int (nI nn), .ref wki, .ref wmy, .ref wce, .ref wiw, .ref wli, .ref wha, .ref wwt, .int (nI nf), .ref wfy, .ref wfk, .int (nI nc), .ref wem, .ref wna, .ref wpl, .ref whs, .long lk, .int (nI ks), .ref wk1, .ref wk2, .ref wk3])) := k31 _ _ a32 
    have a34 : f28 wce = some (.inl (cy 1, 960, .inr (.inl (vp_updL gc (16 * nn + 0) r15)))) := k31 _ _ a25 
    have a35 : f28 wmy = some (.inl (cy 0, 60, .inl (upd (upd gm nn 0) nn (nI (0 + 1))))) := k31 _ _ a26 
    refine z_callVv (As := [.long r30]) C hz hS hA hl (k_X8_part l D cy f28 o wev wnb wki wmy wce wiw wli wha wwt wfy wfk wem wna wpl whs wk1 wk2 wk3 0 (-1) 0 nl nn nf nc lk ks (vp_updL gc (16 * nn + 0) r15) (upd (upd gm nn 0) nn (nI (0 + 1))) r30 1 a33 a34 a35 (by omega) pk_us (by omega)) zyX8_part mMX8_127 a33 zl8 rfl rfl (Nat.le_of_ble_eq_true rfl) ⟨Nat.le_of_ble_eq_true rfl, Nat.le_of_ble_eq_true rfl⟩ ⟨Nat.le_of_ble_eq_true rfl, Nat.le_of_ble_eq_true rfl⟩ dX8_point_34 (fun  f36 H locs h37 hz hS => ?_)
    obtain ⟨a38, a39, k40⟩ := h37
    refine lv_aload_n hx hb dX8_point_37 rfl (lv_at hl 0 rfl) ?_
    have a41 : f36 o = some (.inr (8, [.int 0, .int (-1), .int 0, .ref wev, .int (nI nl), .ref wnb, .int (nI nn), .ref wki, .ref wmy, .ref wce, .ref wiw, .ref wli, .ref wha, .ref wwt, .int (nI nf), .ref wfy, .ref wfk, .int (nI nc), .ref wem, .ref wna, .ref wpl, .ref whs, .long lk, .int (nI ks), .ref wk1, .ref wk2, .ref wk3])) := k40 _ _ a33 (z_ne a33 a34 rfl) (z_ne a33 a35 rfl)
    have a42 : f13 wki = some (.inl (cy 0, 60, .inl (upd gk nn 0))) := k16 _ _ a10 
    have a43 : f23 wki = some (.inl (cy 0, 60, .inl (upd gk nn 0))) := k27 _ _ a42 (z_ne a42 a21 rfl) n_wki_wmy
    have a44 : f28 wki = some (.inl (cy 0, 60, .inl (upd gk nn 0))) := k31 _ _ a43 
    have a45 : f36 wki = some (.inl (cy 0, 60, .inl (upd gk nn 0))) := k40 _ _ a44 (z_ne a44 a34 rfl) n_wki_wmy
    have a46 : f1 wli = some (.inl (cy 0, 60, .inl gl)) := k4 _ _ x_wli (z_ne x_wli x_o rfl)
    have a47 : f8 wli = some (.inl (cy 0, 60, .inl gl)) := k12 _ _ a46 (Ne.symm n_wki_wli) (Ne.symm n_wmy_wli)
    have a48 : f13 wli = some (.inl (cy 0, 60, .inl gl)) := k16 _ _ a47 
    have a49 : f23 wli = some (.inl (cy 0, 60, .inl gl)) := k27 _ _ a48 (z_ne a48 a21 rfl) (Ne.symm n_wmy_wli)
    have a50 : f28 wli = some (.inl (cy 0, 60, .inl gl)) := k31 _ _ a49 
    have a51 : f36 wli = some (.inl (cy 0, 60, .inl gl)) := k40 _ _ a50 (z_ne a50 a34 rfl) (Ne.symm n_wmy_wli)
    have a52 : f1 wha = some (.inl (cy 0, 60, .inl gh)) := k4 _ _ x_wha (z_ne x_wha x_o rfl)
    have a53 : f8 wha = some (.inl (cy 0, 60, .inl gh)) := k12 _ _ a52 (Ne.symm n_wki_wha) (Ne.symm n_wmy_wha)
    have a54 : f13 wha = some (.inl (cy 0, 60, .inl gh)) := k16 _ _ a53 
    have a55 : f23 wha = some (.inl (cy 0, 60, .inl gh)) := k27 _ _ a54 (z_ne a54 a21 rfl) (Ne.symm n_wmy_wha)
    have a56 : f28 wha = some (.inl (cy 0, 60, .inl gh)) := k31 _ _ a55 
    have a57 : f36 wha = some (.inl (cy 0, 60, .inl gh)) := k40 _ _ a56 (z_ne a56 a34 rfl) (Ne.symm n_wmy_wha)
    refine z_callVi (As := []) C hz hS hA hl (k_X8_made l D cy f36 o wev wnb wki wmy wce wiw wli wha wwt wfy wfk wem wna wpl whs wk1 wk2 wk3 0 (-1) 0 nl nn nf nc lk ks (upd gk nn 0) (upd (upd (upd gm nn 0) nn (nI (0 + 1))) nn (nI (1 + 1))) (vp_updL (vp_updL gc (16 * nn + 0) r15) (16 * nn + 1) r30) gl gh ln 2 a41 a45 a39 a38 a51 a57 (by omega) (zMP_keep hMP (fun i9 h9 => by simp only [upd, if_neg (show ¬ i9 = nn by omega)]) (fun i9 h9 => by simp only [upd, if_neg (show ¬ i9 = nn by omega)]) (fun i9 h9 j9 h8 => by simp (disch := omega) only [pk_uLn])) pk_us (by omega) (by rw [pk_us]; exact fun h9 => absurd h9 (by decide)) n_wki_wmy n_wki_wli n_wki_wha n_wmy_wli n_wmy_wha n_wli_wha) zyX8_made mMX8_131 a41 zl8 rfl rfl (Nat.le_of_ble_eq_true rfl) ⟨Nat.le_of_ble_eq_true rfl, Nat.le_of_ble_eq_true rfl⟩ ⟨Nat.le_of_ble_eq_true rfl, Nat.le_of_ble_eq_true rfl⟩ dX8_point_38 (fun r f58 H locs h59 hz hS => ?_)
    obtain ⟨gl_60, gh_61, rfl, a62, a63, a64, k65⟩ := h59
    have a66 : f1 wev = some (.inl (cy 0, 8, .inl gv)) := k4 _ _ x_wev (z_ne x_wev x_o rfl)
    have a67 : f8 wev = some (.inl (cy 0, 8, .inl gv)) := k12 _ _ a66 (z_ne a66 a6 rfl) (z_ne a66 a7 rfl)
    have a68 : f13 wev = some (.inl (cy 0, 8, .inl gv)) := k16 _ _ a67 
    have a69 : f23 wev = some (.inl (cy 0, 8, .inl gv)) := k27 _ _ a68 (z_ne a68 a21 rfl) (z_ne a68 a22 rfl)
    have a70 : f28 wev = some (.inl (cy 0, 8, .inl gv)) := k31 _ _ a69 
    have a71 : f36 wev = some (.inl (cy 0, 8, .inl gv)) := k40 _ _ a70 (z_ne a70 a34 rfl) (z_ne a70 a35 rfl)
    have a72 : f58 wev = some (.inl (cy 0, 8, .inl gv)) := k65 _ _ a71 (z_ne a71 a41 rfl) (z_ne a71 a51 rfl) (z_ne a71 a57 rfl)
    have a73 : f1 wnb = some (.inl (cy 0, 12, .inl gu)) := k4 _ _ x_wnb (z_ne x_wnb x_o rfl)
    have a74 : f8 wnb = some (.inl (cy 0, 12, .inl gu)) := k12 _ _ a73 (z_ne a73 a6 rfl) (z_ne a73 a7 rfl)
    have a75 : f13 wnb = some (.inl (cy 0, 12, .inl gu)) := k16 _ _ a74 
    have a76 : f23 wnb = some (.inl (cy 0, 12, .inl gu)) := k27 _ _ a75 (z_ne a75 a21 rfl) (z_ne a75 a22 rfl)
    have a77 : f28 wnb = some (.inl (cy 0, 12, .inl gu)) := k31 _ _ a76 
    have a78 : f36 wnb = some (.inl (cy 0, 12, .inl gu)) := k40 _ _ a77 (z_ne a77 a34 rfl) (z_ne a77 a35 rfl)
    have a79 : f58 wnb = some (.inl (cy 0, 12, .inl gu)) := k65 _ _ a78 (z_ne a78 a41 rfl) (z_ne a78 a51 rfl) (z_ne a78 a57 rfl)
    have a80 : f58 wki = some (.inl (cy 0, 60, .inl (upd gk nn 0))) := k65 _ _ a45 (z_ne a45 a41 rfl) n_wki_wli n_wki_wha
    have a81 : f58 wmy = some (.inl (cy 0, 60, .inl (upd (upd (upd gm nn 0) nn (nI (0 + 1))) nn (nI (1 + 1))))) := k65 _ _ a39 (z_ne a39 a41 rfl) n_wmy_wli n_wmy_wha
    have a82 : f58 wce = some (.inl (cy 1, 960, .inr (.inl (vp_updL (vp_updL gc (16 * nn + 0) r15) (16 * nn + 1) r30)))) := k65 _ _ a38 (z_ne a38 a41 rfl) (z_ne a38 a51 rfl) (z_ne a38 a57 rfl)
    have a83 : f1 wiw = some (.inl (cy 2, 60, .inl gw)) := k4 _ _ x_wiw (z_ne x_wiw x_o rfl)
    have a84 : f8 wiw = some (.inl (cy 2, 60, .inl gw)) := k12 _ _ a83 (Ne.symm n_wki_wiw) (Ne.symm n_wmy_wiw)
    have a85 : f13 wiw = some (.inl (cy 2, 60, .inl gw)) := k16 _ _ a84 
    have a86 : f23 wiw = some (.inl (cy 2, 60, .inl gw)) := k27 _ _ a85 (z_ne a85 a21 rfl) (Ne.symm n_wmy_wiw)
    have a87 : f28 wiw = some (.inl (cy 2, 60, .inl gw)) := k31 _ _ a86 
    have a88 : f36 wiw = some (.inl (cy 2, 60, .inl gw)) := k40 _ _ a87 (z_ne a87 a34 rfl) (Ne.symm n_wmy_wiw)
    have a89 : f58 wiw = some (.inl (cy 2, 60, .inl gw)) := k65 _ _ a88 (z_ne a88 a41 rfl) n_wiw_wli n_wiw_wha
    have a90 : f1 wwt = some (.inl (cy 1, 60, .inr (.inl gt))) := k4 _ _ x_wwt (z_ne x_wwt x_o rfl)
    have a91 : f8 wwt = some (.inl (cy 1, 60, .inr (.inl gt))) := k12 _ _ a90 (z_ne a90 a6 rfl) (z_ne a90 a7 rfl)
    have a92 : f13 wwt = some (.inl (cy 1, 60, .inr (.inl gt))) := k16 _ _ a91 
    have a93 : f23 wwt = some (.inl (cy 1, 60, .inr (.inl gt))) := k27 _ _ a92 (z_ne a92 a21 rfl) (z_ne a92 a22 rfl)
    have a94 : f28 wwt = some (.inl (cy 1, 60, .inr (.inl gt))) := k31 _ _ a93 
    have a95 : f36 wwt = some (.inl (cy 1, 60, .inr (.inl gt))) := k40 _ _ a94 (z_ne a94 a34 rfl) (z_ne a94 a35 rfl)
    have a96 : f58 wwt = some (.inl (cy 1, 60, .inr (.inl gt))) := k65 _ _ a95 (z_ne a95 a41 rfl) (z_ne a95 a51 rfl) (z_ne a95 a57 rfl)
    have a97 : f1 wfy = some (.inl (cy 0, 6, .inl gy)) := k4 _ _ x_wfy (z_ne x_wfy x_o rfl)
    have a98 : f8 wfy = some (.inl (cy 0, 6, .inl gy)) := k12 _ _ a97 (z_ne a97 a6 rfl) (z_ne a97 a7 rfl)
    have a99 : f13 wfy = some (.inl (cy 0, 6, .inl gy)) := k16 _ _ a98 
    have a100 : f23 wfy = some (.inl (cy 0, 6, .inl gy)) := k27 _ _ a99 (z_ne a99 a21 rfl) (z_ne a99 a22 rfl)
    have a101 : f28 wfy = some (.inl (cy 0, 6, .inl gy)) := k31 _ _ a100 
    have a102 : f36 wfy = some (.inl (cy 0, 6, .inl gy)) := k40 _ _ a101 (z_ne a101 a34 rfl) (z_ne a101 a35 rfl)
    have a103 : f58 wfy = some (.inl (cy 0, 6, .inl gy)) := k65 _ _ a102 (z_ne a102 a41 rfl) (z_ne a102 a51 rfl) (z_ne a102 a57 rfl)
    have a104 : f1 wfk = some (.inl (cy 0, 24, .inl gq)) := k4 _ _ x_wfk (z_ne x_wfk x_o rfl)
    have a105 : f8 wfk = some (.inl (cy 0, 24, .inl gq)) := k12 _ _ a104 (z_ne a104 a6 rfl) (z_ne a104 a7 rfl)
    have a106 : f13 wfk = some (.inl (cy 0, 24, .inl gq)) := k16 _ _ a105 
    have a107 : f23 wfk = some (.inl (cy 0, 24, .inl gq)) := k27 _ _ a106 (z_ne a106 a21 rfl) (z_ne a106 a22 rfl)
    have a108 : f28 wfk = some (.inl (cy 0, 24, .inl gq)) := k31 _ _ a107 
    have a109 : f36 wfk = some (.inl (cy 0, 24, .inl gq)) := k40 _ _ a108 (z_ne a108 a34 rfl) (z_ne a108 a35 rfl)
    have a110 : f58 wfk = some (.inl (cy 0, 24, .inl gq)) := k65 _ _ a109 (z_ne a109 a41 rfl) (z_ne a109 a51 rfl) (z_ne a109 a57 rfl)
    have a111 : f1 wem = some (.inl (cy 0, 60, .inl ge1)) := k4 _ _ x_wem (z_ne x_wem x_o rfl)
    have a112 : f8 wem = some (.inl (cy 0, 60, .inl ge1)) := k12 _ _ a111 (Ne.symm n_wki_wem) (Ne.symm n_wmy_wem)
    have a113 : f13 wem = some (.inl (cy 0, 60, .inl ge1)) := k16 _ _ a112 
    have a114 : f23 wem = some (.inl (cy 0, 60, .inl ge1)) := k27 _ _ a113 (z_ne a113 a21 rfl) (Ne.symm n_wmy_wem)
    have a115 : f28 wem = some (.inl (cy 0, 60, .inl ge1)) := k31 _ _ a114 
    have a116 : f36 wem = some (.inl (cy 0, 60, .inl ge1)) := k40 _ _ a115 (z_ne a115 a34 rfl) (Ne.symm n_wmy_wem)
    have a117 : f58 wem = some (.inl (cy 0, 60, .inl ge1)) := k65 _ _ a116 (z_ne a116 a41 rfl) (Ne.symm n_wli_wem) (Ne.symm n_wha_wem)
    have a118 : f1 wna = some (.inl (cy 0, 60, .inl gn1)) := k4 _ _ x_wna (z_ne x_wna x_o rfl)
    have a119 : f8 wna = some (.inl (cy 0, 60, .inl gn1)) := k12 _ _ a118 (Ne.symm n_wki_wna) (Ne.symm n_wmy_wna)
    have a120 : f13 wna = some (.inl (cy 0, 60, .inl gn1)) := k16 _ _ a119 
    have a121 : f23 wna = some (.inl (cy 0, 60, .inl gn1)) := k27 _ _ a120 (z_ne a120 a21 rfl) (Ne.symm n_wmy_wna)
    have a122 : f28 wna = some (.inl (cy 0, 60, .inl gn1)) := k31 _ _ a121 
    have a123 : f36 wna = some (.inl (cy 0, 60, .inl gn1)) := k40 _ _ a122 (z_ne a122 a34 rfl) (Ne.symm n_wmy_wna)
    have a124 : f58 wna = some (.inl (cy 0, 60, .inl gn1)) := k65 _ _ a123 (z_ne a123 a41 rfl) (Ne.symm n_wli_wna) (Ne.symm n_wha_wna)
    have a125 : f1 wpl = some (.inl (cy 0, 60, .inl gp1)) := k4 _ _ x_wpl (z_ne x_wpl x_o rfl)
    have a126 : f8 wpl = some (.inl (cy 0, 60, .inl gp1)) := k12 _ _ a125 (Ne.symm n_wki_wpl) (Ne.symm n_wmy_wpl)
    have a127 : f13 wpl = some (.inl (cy 0, 60, .inl gp1)) := k16 _ _ a126 
    have a128 : f23 wpl = some (.inl (cy 0, 60, .inl gp1)) := k27 _ _ a127 (z_ne a127 a21 rfl) (Ne.symm n_wmy_wpl)
    have a129 : f28 wpl = some (.inl (cy 0, 60, .inl gp1)) := k31 _ _ a128 
    have a130 : f36 wpl = some (.inl (cy 0, 60, .inl gp1)) := k40 _ _ a129 (z_ne a129 a34 rfl) (Ne.symm n_wmy_wpl)
    have a131 : f58 wpl = some (.inl (cy 0, 60, .inl gp1)) := k65 _ _ a130 (z_ne a130 a41 rfl) (Ne.symm n_wli_wpl) (Ne.symm n_wha_wpl)
    have a132 : f1 whs = some (.inl (cy 0, 4, .inl gs)) := k4 _ _ x_whs (z_ne x_whs x_o rfl)
    have a133 : f8 whs = some (.inl (cy 0, 4, .inl gs)) := k12 _ _ a132 (z_ne a132 a6 rfl) (z_ne a132 a7 rfl)
    have a134 : f13 whs = some (.inl (cy 0, 4, .inl gs)) := k16 _ _ a133 
    have a135 : f23 whs = some (.inl (cy 0, 4, .inl gs)) := k27 _ _ a134 (z_ne a134 a21 rfl) (z_ne a134 a22 rfl)
    have a136 : f28 whs = some (.inl (cy 0, 4, .inl gs)) := k31 _ _ a135 
    have a137 : f36 whs = some (.inl (cy 0, 4, .inl gs)) := k40 _ _ a136 (z_ne a136 a34 rfl) (z_ne a136 a35 rfl)
    have a138 : f58 whs = some (.inl (cy 0, 4, .inl gs)) := k65 _ _ a137 (z_ne a137 a41 rfl) (z_ne a137 a51 rfl) (z_ne a137 a57 rfl)
    have a139 : f1 wk1 = some (.inl (cy 0, 40, .inl gx1)) := k4 _ _ x_wk1 (z_ne x_wk1 x_o rfl)
    have a140 : f8 wk1 = some (.inl (cy 0, 40, .inl gx1)) := k12 _ _ a139 (z_ne a139 a6 rfl) (z_ne a139 a7 rfl)
    have a141 : f13 wk1 = some (.inl (cy 0, 40, .inl gx1)) := k16 _ _ a140 
    have a142 : f23 wk1 = some (.inl (cy 0, 40, .inl gx1)) := k27 _ _ a141 (z_ne a141 a21 rfl) (z_ne a141 a22 rfl)
    have a143 : f28 wk1 = some (.inl (cy 0, 40, .inl gx1)) := k31 _ _ a142 
    have a144 : f36 wk1 = some (.inl (cy 0, 40, .inl gx1)) := k40 _ _ a143 (z_ne a143 a34 rfl) (z_ne a143 a35 rfl)
    have a145 : f58 wk1 = some (.inl (cy 0, 40, .inl gx1)) := k65 _ _ a144 (z_ne a144 a41 rfl) (z_ne a144 a51 rfl) (z_ne a144 a57 rfl)
    have a146 : f1 wk2 = some (.inl (cy 0, 40, .inl gx2)) := k4 _ _ x_wk2 (z_ne x_wk2 x_o rfl)
    have a147 : f8 wk2 = some (.inl (cy 0, 40, .inl gx2)) := k12 _ _ a146 (z_ne a146 a6 rfl) (z_ne a146 a7 rfl)
    have a148 : f13 wk2 = some (.inl (cy 0, 40, .inl gx2)) := k16 _ _ a147 
    have a149 : f23 wk2 = some (.inl (cy 0, 40, .inl gx2)) := k27 _ _ a148 (z_ne a148 a21 rfl) (z_ne a148 a22 rfl)
    have a150 : f28 wk2 = some (.inl (cy 0, 40, .inl gx2)) := k31 _ _ a149 
    have a151 : f36 wk2 = some (.inl (cy 0, 40, .inl gx2)) := k40 _ _ a150 (z_ne a150 a34 rfl) (z_ne a150 a35 rfl)
    have a152 : f58 wk2 = some (.inl (cy 0, 40, .inl gx2)) := k65 _ _ a151 (z_ne a151 a41 rfl) (z_ne a151 a51 rfl) (z_ne a151 a57 rfl)
    have a153 : f1 wk3 = some (.inl (cy 0, 40, .inl gx3)) := k4 _ _ x_wk3 (z_ne x_wk3 x_o rfl)
    have a154 : f8 wk3 = some (.inl (cy 0, 40, .inl gx3)) := k12 _ _ a153 (z_ne a153 a6 rfl) (z_ne a153 a7 rfl)
    have a155 : f13 wk3 = some (.inl (cy 0, 40, .inl gx3)) := k16 _ _ a154 
    have a156 : f23 wk3 = some (.inl (cy 0, 40, .inl gx3)) := k27 _ _ a155 (z_ne a155 a21 rfl) (z_ne a155 a22 rfl)
    have a157 : f28 wk3 = some (.inl (cy 0, 40, .inl gx3)) := k31 _ _ a156 
    have a158 : f36 wk3 = some (.inl (cy 0, 40, .inl gx3)) := k40 _ _ a157 (z_ne a157 a34 rfl) (z_ne a157 a35 rfl)
    have a159 : f58 wk3 = some (.inl (cy 0, 40, .inl gx3)) := k65 _ _ a158 (z_ne a158 a41 rfl) (z_ne a158 a51 rfl) (z_ne a158 a57 rfl)
    exact z_iret C hr rfl hz hS ⟨0, (-1), 0, nl, (nn + 1), nf, nc, lk, ks, gv, gu, (upd gk nn 0), (upd (upd (upd gm nn 0) nn (nI (0 + 1))) nn (nI (1 + 1))), (vp_updL (vp_updL gc (16 * nn + 0) r15) (16 * nn + 1) r30), gw, gl_60, gh_61, gt, gy, gq, ge1, gn1, gp1, gs, gx1, gx2, gx3, (va_up ln nn 2), fz, sq, (by simp [h60]), rfl, (by rw [if_pos (nI_pos' (by omega))]), ⟨a62, a72, a79, a80, a81, a82, a89, a63, a64, a96, a103, a110, a117, a124, a131, a138, a145, a152, a159, (by omega), hl12, hf6, hc60, hs40, (zMP_new (zMP_keep hMP (fun i9 h9 => by simp only [upd, if_neg (show ¬ i9 = nn by omega)]) (fun i9 h9 => by simp only [upd, if_neg (show ¬ i9 = nn by omega)]) (fun i9 h9 j9 h8 => by simp (disch := omega) only [pk_uLn])) pk_us (by rw [pk_us]; exact zMP1_of (by omega) (by decide) (by decide) (by decide))), hgy, hfz, hgs, hME, hlk, n_wki_wmy, n_wki_wiw, n_wki_wli, n_wki_wha, n_wki_wem, n_wki_wna, n_wki_wpl, n_wmy_wiw, n_wmy_wli, n_wmy_wha, n_wmy_wem, n_wmy_wna, n_wmy_wpl, n_wiw_wli, n_wiw_wha, n_wiw_wem, n_wiw_wna, n_wiw_wpl, n_wli_wha, n_wli_wem, n_wli_wna, n_wli_wpl, n_wha_wem, n_wha_wna, n_wha_wpl, n_wem_wna, n_wem_wpl, n_wna_wpl, n_wk1_wk2, n_wk1_wk3, n_wk2_wk3⟩⟩ (Nat.le_of_ble_eq_true rfl) (Nat.le_of_ble_eq_true rfl) dX8_point_41
  · replace c5 : (nn = 60) := (nI_eq (a := nn) (b := 60) (by omega) (by omega)).mp c5
    have h60 : ¬ nn < 60 := by omega
    refine lv_bipush (v := (-3)) hx hb dX8_point_13 (by decide) ?_
    have a160 : f1 wev = some (.inl (cy 0, 8, .inl gv)) := k4 _ _ x_wev (z_ne x_wev x_o rfl)
    have a161 : f1 wnb = some (.inl (cy 0, 12, .inl gu)) := k4 _ _ x_wnb (z_ne x_wnb x_o rfl)
    have a162 : f1 wki = some (.inl (cy 0, 60, .inl gk)) := k4 _ _ x_wki (z_ne x_wki x_o rfl)
    have a163 : f1 wmy = some (.inl (cy 0, 60, .inl gm)) := k4 _ _ x_wmy (z_ne x_wmy x_o rfl)
    have a164 : f1 wce = some (.inl (cy 1, 960, .inr (.inl gc))) := k4 _ _ x_wce (z_ne x_wce x_o rfl)
    have a165 : f1 wiw = some (.inl (cy 2, 60, .inl gw)) := k4 _ _ x_wiw (z_ne x_wiw x_o rfl)
    have a166 : f1 wli = some (.inl (cy 0, 60, .inl gl)) := k4 _ _ x_wli (z_ne x_wli x_o rfl)
    have a167 : f1 wha = some (.inl (cy 0, 60, .inl gh)) := k4 _ _ x_wha (z_ne x_wha x_o rfl)
    have a168 : f1 wwt = some (.inl (cy 1, 60, .inr (.inl gt))) := k4 _ _ x_wwt (z_ne x_wwt x_o rfl)
    have a169 : f1 wfy = some (.inl (cy 0, 6, .inl gy)) := k4 _ _ x_wfy (z_ne x_wfy x_o rfl)
    have a170 : f1 wfk = some (.inl (cy 0, 24, .inl gq)) := k4 _ _ x_wfk (z_ne x_wfk x_o rfl)
    have a171 : f1 wem = some (.inl (cy 0, 60, .inl ge1)) := k4 _ _ x_wem (z_ne x_wem x_o rfl)
    have a172 : f1 wna = some (.inl (cy 0, 60, .inl gn1)) := k4 _ _ x_wna (z_ne x_wna x_o rfl)
    have a173 : f1 wpl = some (.inl (cy 0, 60, .inl gp1)) := k4 _ _ x_wpl (z_ne x_wpl x_o rfl)
    have a174 : f1 whs = some (.inl (cy 0, 4, .inl gs)) := k4 _ _ x_whs (z_ne x_whs x_o rfl)
    have a175 : f1 wk1 = some (.inl (cy 0, 40, .inl gx1)) := k4 _ _ x_wk1 (z_ne x_wk1 x_o rfl)
    have a176 : f1 wk2 = some (.inl (cy 0, 40, .inl gx2)) := k4 _ _ x_wk2 (z_ne x_wk2 x_o rfl)
    have a177 : f1 wk3 = some (.inl (cy 0, 40, .inl gx3)) := k4 _ _ x_wk3 (z_ne x_wk3 x_o rfl)
    exact z_iret C hr rfl hz hS ⟨0, (-1), 0, nl, nn, nf, nc, lk, ks, gv, gu, gk, gm, gc, gw, gl, gh, gt, gy, gq, ge1, gn1, gp1, gs, gx1, gx2, gx3, ln, fz, sq, (by simp [h60]), rfl, (by rw [if_neg (by decide)]), ⟨a3, a160, a161, a162, a163, a164, a165, a166, a167, a168, a169, a170, a171, a172, a173, a174, a175, a176, a177, hn60, hl12, hf6, hc60, hs40, hMP, hgy, hfz, hgs, hME, hlk, n_wki_wmy, n_wki_wiw, n_wki_wli, n_wki_wha, n_wki_wem, n_wki_wna, n_wki_wpl, n_wmy_wiw, n_wmy_wli, n_wmy_wha, n_wmy_wem, n_wmy_wna, n_wmy_wpl, n_wiw_wli, n_wiw_wha, n_wiw_wem, n_wiw_wna, n_wiw_wpl, n_wli_wha, n_wli_wem, n_wli_wna, n_wli_wpl, n_wha_wem, n_wha_wna, n_wha_wpl, n_wem_wna, n_wem_wpl, n_wna_wpl, n_wk1_wk2, n_wk1_wk3, n_wk2_wk3⟩⟩ (Nat.le_of_ble_eq_true rfl) (Nat.le_of_ble_eq_true rfl) dX8_point_15
abbrev rmX8_span : Room := { frames := 3, cells := 0, slots := 0, locals := 67 }
set_option maxHeartbeats 4000000 in
set_option maxRecDepth 100000 in
theorem k_X8_span (l : Launch) (D : va_G) (cy : Nat → ClassId) (f : zM) (o : Nat) (wev : Nat) (wnb : Nat) (wki : Nat) (wmy : Nat) (wce : Nat) (wiw : Nat) (wli : Nat) (wha : Nat) (wwt : Nat) (wfy : Nat) (wfk : Nat) (wem : Nat) (wna : Nat) (wpl : Nat) (whs : Nat) (wk1 : Nat) (wk2 : Nat) (wk3 : Nat) (u1 : Int32) (u2 : Int32) (u3 : Int32) (nl : Nat) (nn : Nat) (nf : Nat) (nc : Nat) (lk : Int64) (ks : Nat) (gv : Nat → Int32) (gu : Nat → Int32) (gk : Nat → Int32) (gm : Nat → Int32) (gc : Nat → Int64) (gw : Nat → Int32) (gl : Nat → Int32) (gh : Nat → Int32) (gt : Nat → Int64) (gy : Nat → Int32) (gq : Nat → Int32) (ge1 : Nat → Int32) (gn1 : Nat → Int32) (gp1 : Nat → Int32) (gs : Nat → Int32) (gx1 : Nat → Int32) (gx2 : Nat → Int32) (gx3 : Nat → Int32) (ln : Nat → Nat) (fz : Nat → Nat) (sq : Nat → Nat) (x : Int32) (y : Int32)    (hI : zIM cy f o wev wnb wki wmy wce wiw wli wha wwt wfy wfk wem wna wpl whs wk1 wk2 wk3 u1 u2 u3 nl nn nf nc lk ks gv gu gk gm gc gw gl gh gt gy gq ge1 gn1 gp1 gs gx1 gx2 gx3 ln fz sq) : zCi l D cy yX8_span cX8_span 3 (Option.some Jvm.ClassFile.FieldType.int) rmX8_span [.ref o, .int x, .int y] f (fun (r : Int32) (f1 : zM) => ∃ (u11 : Int32) (u21 : Int32) (u31 : Int32) (nl1 : Nat) (nn1 : Nat) (nf1 : Nat) (nc1 : Nat) (lk1 : Int64) (ks1 : Nat) (gv1 : Nat → Int32) (gu1 : Nat → Int32) (gk1 : Nat → Int32) (gm1 : Nat → Int32) (gc1 : Nat → Int64) (gw1 : Nat → Int32) (gl1 : Nat → Int32) (gh1 : Nat → Int32) (gt1 : Nat → Int64) (gy1 : Nat → Int32) (gq1 : Nat → Int32) (ge11 : Nat → Int32) (gn11 : Nat → Int32) (gp11 : Nat → Int32) (gs1 : Nat → Int32) (gx11 : Nat → Int32) (gx21 : Nat → Int32) (gx31 : Nat → Int32) (ln1 : Nat → Nat) (fz1 : Nat → Nat) (sq1 : Nat → Nat), r = (if nn < 60 then (if x ≤ y then nI nn else (-4)) else (-3)) ∧ (nl1 = nl) ∧ (nn1 = if 0 ≤ r then nn + 1 else nn) ∧ zIM cy f1 o wev wnb wki wmy wce wiw wli wha wwt wfy wfk wem wna wpl whs wk1 wk2 wk3 u11 u21 u31 nl1 nn1 nf1 nc1 lk1 ks1 gv1 gu1 gk1 gm1 gc1 gw1 gl1 gh1 gt1 gy1 gq1 ge11 gn11 gp11 gs1 gx11 gx21 gx31 ln1 fz1 sq1) := by
  intro sz
  refine z_body (by decide +kernel) (Nat.le_of_ble_eq_true rfl) ?_
  intro p e s m below meth c ls C hr hin hsz hz hl
  subst hsz
  have hx := C.1
  have hb := C.2.1
  have hA : ∀ q, s.heap.size ≤ q → zA f s.heap.size q := fun q h => Or.inr h
  have hS : va_S (zA f s.heap.size) s.heap s.heap [] := va_S.rf
  have hl : lv_has ls 3 [(0, .ref o), (1, .int x), (2, .int y)] := hl
  obtain ⟨x_o, x_wev, x_wnb, x_wki, x_wmy, x_wce, x_wiw, x_wli, x_wha, x_wwt, x_wfy, x_wfk, x_wem, x_wna, x_wpl, x_whs, x_wk1, x_wk2, x_wk3, hn60, hl12, hf6, hc60, hs40, hMP, hgy, hfz, hgs, hME, hlk, n_wki_wmy, n_wki_wiw, n_wki_wli, n_wki_wha, n_wki_wem, n_wki_wna, n_wki_wpl, n_wmy_wiw, n_wmy_wli, n_wmy_wha, n_wmy_wem, n_wmy_wna, n_wmy_wpl, n_wiw_wli, n_wiw_wha, n_wiw_wem, n_wiw_wna, n_wiw_wpl, n_wli_wha, n_wli_wem, n_wli_wna, n_wli_wpl, n_wha_wem, n_wha_wna, n_wha_wpl, n_wem_wna, n_wem_wpl, n_wna_wpl, n_wk1_wk2, n_wk1_wk3, n_wk2_wk3⟩ := id hI
  refine lv_aload_n hx hb dX8_span_0 rfl (lv_at hl 0 rfl) ?_
  refine z_callVv (As := []) C hz hS hA hl (k_X8_begin l D cy f o wev wnb wki wmy wce wiw wli wha wwt wfy wfk wem wna wpl whs wk1 wk2 wk3 u1 u2 u3 nl nn nf nc lk ks x_o ) zyX8_begin mMX8_116 x_o zl8 rfl rfl (Nat.le_of_ble_eq_true rfl) ⟨Nat.le_of_ble_eq_true rfl, Nat.le_of_ble_eq_true rfl⟩ ⟨Nat.le_of_ble_eq_true rfl, Nat.le_of_ble_eq_true rfl⟩ dX8_span_1 (fun  f1 H locs h2 hz hS => ?_)
  obtain ⟨a3, k4⟩ := h2
  refine lv_aload_n hx hb dX8_span_4 rfl (lv_at hl 0 rfl) ?_
  refine z_get (v := .int (nI nn)) C hz a3 zl8 mFX8_83 (by decide) rfl dX8_span_5 ?_
  refine lv_bipush (v := 60) hx hb dX8_span_8 (by decide) ?_
  refine lv_icmp_ne (tgt := 16) hx hb dX8_span_10 (by decide) (fun c5 => ?_) (fun c5 => ?_)
  · replace c5 : ¬ (nn = 60) := fun h => c5 ((nI_eq (a := nn) (b := 60) (by omega) (by omega)).mpr h)
    have h60 : nn < 60 := by omega
    refine lv_iload_n hx hb dX8_span_16 rfl (lv_at hl 1 rfl) ?_
    refine lv_iload_n hx hb dX8_span_17 rfl (lv_at hl 2 rfl) ?_
    refine lv_icmp_le (tgt := 30) hx hb dX8_span_18 (by decide) (fun c6 => ?_) (fun c6 => ?_)
    · refine lv_aload_n hx hb dX8_span_30 rfl (lv_at hl 0 rfl) ?_
      refine lv_iconst (v := 1) hx hb dX8_span_31 (by decide) ?_
      have a7 : f1 wki = some (.inl (cy 0, 60, .inl gk)) := k4 _ _ x_wki (z_ne x_wki x_o rfl)
      have a8 : f1 wmy = some (.inl (cy 0, 60, .inl gm)) := k4 _ _ x_wmy (z_ne x_wmy x_o rfl)
      refine z_callVv (As := [.int 1]) C hz hS hA hl (k_X8_start l D cy f1 o wev wnb wki wmy wce wiw wli wha wwt wfy wfk wem wna wpl whs wk1 wk2 wk3 0 (-1) 0 nl nn nf nc lk ks gk gm 1 a3 a7 a8 (by omega) n_wki_wmy) zyX8_start mMX8_119 a3 zl8 rfl rfl (Nat.le_of_ble_eq_true rfl) ⟨Nat.le_of_ble_eq_true rfl, Nat.le_of_ble_eq_true rfl⟩ ⟨Nat.le_of_ble_eq_true rfl, Nat.le_of_ble_eq_true rfl⟩ dX8_span_32 (fun  f9 H locs h10 hz hS => ?_)
      obtain ⟨a11, a12, k13⟩ := h10
      refine lv_aload_n hx hb dX8_span_35 rfl (lv_at hl 0 rfl) ?_
      refine lv_iload_n hx hb dX8_span_36 rfl (lv_at hl 1 rfl) ?_
      refine lv_i2l (v := x.toInt64) hx hb dX8_span_37 rfl ?_
      have a14 : f9 o = some (.inr (8, [.int 0, .int (-1), .int 0, .ref wev, .int (nI nl), .ref wnb, .int (nI nn), .ref wki, .ref wmy, .ref wce, .ref wiw, .ref wli, .ref wha, .ref wwt, .int (nI nf), .ref wfy, .ref wfk, .int (nI nc), .ref wem, .ref wna, .ref wpl, .ref whs, .long lk, .int (nI ks), .ref wk1, .ref wk2, .ref wk3])) := k13 _ _ a3 (z_ne a3 a7 rfl) (z_ne a3 a8 rfl)
      have a15 : f1 wce = some (.inl (cy 1, 960, .inr (.inl gc))) := k4 _ _ x_wce (z_ne x_wce x_o rfl)
      have a16 : f9 wce = some (.inl (cy 1, 960, .inr (.inl gc))) := k13 _ _ a15 (z_ne a15 a7 rfl) (z_ne a15 a8 rfl)
      refine z_callVv (As := [.long x.toInt64]) C hz hS hA hl (k_X8_part l D cy f9 o wev wnb wki wmy wce wiw wli wha wwt wfy wfk wem wna wpl whs wk1 wk2 wk3 0 (-1) 0 nl nn nf nc lk ks gc (upd gm nn 0) x.toInt64 0 a14 a16 a12 (by omega) pk_us (by omega)) zyX8_part mMX8_127 a14 zl8 rfl rfl (Nat.le_of_ble_eq_true rfl) ⟨Nat.le_of_ble_eq_true rfl, Nat.le_of_ble_eq_true rfl⟩ ⟨Nat.le_of_ble_eq_true rfl, Nat.le_of_ble_eq_true rfl⟩ dX8_span_38 (fun  f17 H locs h18 hz hS => ?_)
      obtain ⟨a19, a20, k21⟩ := h18
      refine lv_aload_n hx hb dX8_span_41 rfl (lv_at hl 0 rfl) ?_
      refine lv_iload_n hx hb dX8_span_42 rfl (lv_at hl 2 rfl) ?_
      refine lv_i2l (v := y.toInt64) hx hb dX8_span_43 rfl ?_
      have a22 : f17 o = some (.inr (8, [.int 0, .int (-1), .int 0, .ref wev, .int (nI nl), .ref wnb, .int (nI nn), .ref wki, .ref wmy, .ref wce, .ref wiw, .ref wli, .ref wha, .ref wwt, .int (nI nf), .ref wfy, .ref wfk, .int (nI nc), .ref wem, .ref wna, .ref wpl, .ref whs, .long lk, .int (nI ks), .ref wk1, .ref wk2, .ref wk3])) := k21 _ _ a14 (z_ne a14 a16 rfl) (z_ne a14 a12 rfl)
      refine z_callVv (As := [.long y.toInt64]) C hz hS hA hl (k_X8_part l D cy f17 o wev wnb wki wmy wce wiw wli wha wwt wfy wfk wem wna wpl whs wk1 wk2 wk3 0 (-1) 0 nl nn nf nc lk ks (vp_updL gc (16 * nn + 0) x.toInt64) (upd (upd gm nn 0) nn (nI (0 + 1))) y.toInt64 1 a22 a19 a20 (by omega) pk_us (by omega)) zyX8_part mMX8_127 a22 zl8 rfl rfl (Nat.le_of_ble_eq_true rfl) ⟨Nat.le_of_ble_eq_true rfl, Nat.le_of_ble_eq_true rfl⟩ ⟨Nat.le_of_ble_eq_true rfl, Nat.le_of_ble_eq_true rfl⟩ dX8_span_44 (fun  f23 H locs h24 hz hS => ?_)
      obtain ⟨a25, a26, k27⟩ := h24
      refine lv_aload_n hx hb dX8_span_47 rfl (lv_at hl 0 rfl) ?_
      have a28 : f23 o = some (.inr (8, [.int 0, .int (-1), .int 0, .ref wev, .int (nI nl), .ref wnb, .int (nI nn), .ref wki, .ref wmy, .ref wce, .ref wiw, .ref wli, .ref wha, .ref wwt, .int (nI nf), .ref wfy, .ref wfk, .int (nI nc), .ref wem, .ref wna, .ref wpl, .ref whs, .long lk, .int (nI ks), .ref wk1, .ref wk2, .ref wk3])) := k27 _ _ a22 (z_ne a22 a19 rfl) (z_ne a22 a20 rfl)
      have a29 : f17 wki = some (.inl (cy 0, 60, .inl (upd gk nn 1))) := k21 _ _ a11 (z_ne a11 a16 rfl) n_wki_wmy
      have a30 : f23 wki = some (.inl (cy 0, 60, .inl (upd gk nn 1))) := k27 _ _ a29 (z_ne a29 a19 rfl) n_wki_wmy
      have a31 : f1 wli = some (.inl (cy 0, 60, .inl gl)) := k4 _ _ x_wli (z_ne x_wli x_o rfl)
      have a32 : f9 wli = some (.inl (cy 0, 60, .inl gl)) := k13 _ _ a31 (Ne.symm n_wki_wli) (Ne.symm n_wmy_wli)
      have a33 : f17 wli = some (.inl (cy 0, 60, .inl gl)) := k21 _ _ a32 (z_ne a32 a16 rfl) (Ne.symm n_wmy_wli)
      have a34 : f23 wli = some (.inl (cy 0, 60, .inl gl)) := k27 _ _ a33 (z_ne a33 a19 rfl) (Ne.symm n_wmy_wli)
      have a35 : f1 wha = some (.inl (cy 0, 60, .inl gh)) := k4 _ _ x_wha (z_ne x_wha x_o rfl)
      have a36 : f9 wha = some (.inl (cy 0, 60, .inl gh)) := k13 _ _ a35 (Ne.symm n_wki_wha) (Ne.symm n_wmy_wha)
      have a37 : f17 wha = some (.inl (cy 0, 60, .inl gh)) := k21 _ _ a36 (z_ne a36 a16 rfl) (Ne.symm n_wmy_wha)
      have a38 : f23 wha = some (.inl (cy 0, 60, .inl gh)) := k27 _ _ a37 (z_ne a37 a19 rfl) (Ne.symm n_wmy_wha)
      refine z_callVi (As := []) C hz hS hA hl (k_X8_made l D cy f23 o wev wnb wki wmy wce wiw wli wha wwt wfy wfk wem wna wpl whs wk1 wk2 wk3 0 (-1) 0 nl nn nf nc lk ks (upd gk nn 1) (upd (upd (upd gm nn 0) nn (nI (0 + 1))) nn (nI (1 + 1))) (vp_updL (vp_updL gc (16 * nn + 0) x.toInt64) (16 * nn + 1) y.toInt64) gl gh ln 2 a28 a30 a26 a25 a34 a38 (by omega) (zMP_keep hMP (fun i9 h9 => by simp only [upd, if_neg (show ¬ i9 = nn by omega)]) (fun i9 h9 => by simp only [upd, if_neg (show ¬ i9 = nn by omega)]) (fun i9 h9 j9 h8 => by simp (disch := omega) only [pk_uLn])) pk_us (by omega) (by rw [pk_us]; exact fun h9 => absurd h9 (by decide)) n_wki_wmy n_wki_wli n_wki_wha n_wmy_wli n_wmy_wha n_wli_wha) zyX8_made mMX8_131 a28 zl8 rfl rfl (Nat.le_of_ble_eq_true rfl) ⟨Nat.le_of_ble_eq_true rfl, Nat.le_of_ble_eq_true rfl⟩ ⟨Nat.le_of_ble_eq_true rfl, Nat.le_of_ble_eq_true rfl⟩ dX8_span_48 (fun r f39 H locs h40 hz hS => ?_)
      obtain ⟨gl_41, gh_42, rfl, a43, a44, a45, k46⟩ := h40
      have a47 : f1 wev = some (.inl (cy 0, 8, .inl gv)) := k4 _ _ x_wev (z_ne x_wev x_o rfl)
      have a48 : f9 wev = some (.inl (cy 0, 8, .inl gv)) := k13 _ _ a47 (z_ne a47 a7 rfl) (z_ne a47 a8 rfl)
      have a49 : f17 wev = some (.inl (cy 0, 8, .inl gv)) := k21 _ _ a48 (z_ne a48 a16 rfl) (z_ne a48 a12 rfl)
      have a50 : f23 wev = some (.inl (cy 0, 8, .inl gv)) := k27 _ _ a49 (z_ne a49 a19 rfl) (z_ne a49 a20 rfl)
      have a51 : f39 wev = some (.inl (cy 0, 8, .inl gv)) := k46 _ _ a50 (z_ne a50 a28 rfl) (z_ne a50 a34 rfl) (z_ne a50 a38 rfl)
      have a52 : f1 wnb = some (.inl (cy 0, 12, .inl gu)) := k4 _ _ x_wnb (z_ne x_wnb x_o rfl)
      have a53 : f9 wnb = some (.inl (cy 0, 12, .inl gu)) := k13 _ _ a52 (z_ne a52 a7 rfl) (z_ne a52 a8 rfl)
      have a54 : f17 wnb = some (.inl (cy 0, 12, .inl gu)) := k21 _ _ a53 (z_ne a53 a16 rfl) (z_ne a53 a12 rfl)
      have a55 : f23 wnb = some (.inl (cy 0, 12, .inl gu)) := k27 _ _ a54 (z_ne a54 a19 rfl) (z_ne a54 a20 rfl)
      have a56 : f39 wnb = some (.inl (cy 0, 12, .inl gu)) := k46 _ _ a55 (z_ne a55 a28 rfl) (z_ne a55 a34 rfl) (z_ne a55 a38 rfl)
      have a57 : f39 wki = some (.inl (cy 0, 60, .inl (upd gk nn 1))) := k46 _ _ a30 (z_ne a30 a28 rfl) n_wki_wli n_wki_wha
      have a58 : f39 wmy = some (.inl (cy 0, 60, .inl (upd (upd (upd gm nn 0) nn (nI (0 + 1))) nn (nI (1 + 1))))) := k46 _ _ a26 (z_ne a26 a28 rfl) n_wmy_wli n_wmy_wha
      have a59 : f39 wce = some (.inl (cy 1, 960, .inr (.inl (vp_updL (vp_updL gc (16 * nn + 0) x.toInt64) (16 * nn + 1) y.toInt64)))) := k46 _ _ a25 (z_ne a25 a28 rfl) (z_ne a25 a34 rfl) (z_ne a25 a38 rfl)
      have a60 : f1 wiw = some (.inl (cy 2, 60, .inl gw)) := k4 _ _ x_wiw (z_ne x_wiw x_o rfl)
      have a61 : f9 wiw = some (.inl (cy 2, 60, .inl gw)) := k13 _ _ a60 (Ne.symm n_wki_wiw) (Ne.symm n_wmy_wiw)
      have a62 : f17 wiw = some (.inl (cy 2, 60, .inl gw)) := k21 _ _ a61 (z_ne a61 a16 rfl) (Ne.symm n_wmy_wiw)
      have a63 : f23 wiw = some (.inl (cy 2, 60, .inl gw)) := k27 _ _ a62 (z_ne a62 a19 rfl) (Ne.symm n_wmy_wiw)
      have a64 : f39 wiw = some (.inl (cy 2, 60, .inl gw)) := k46 _ _ a63 (z_ne a63 a28 rfl) n_wiw_wli n_wiw_wha
      have a65 : f1 wwt = some (.inl (cy 1, 60, .inr (.inl gt))) := k4 _ _ x_wwt (z_ne x_wwt x_o rfl)
      have a66 : f9 wwt = some (.inl (cy 1, 60, .inr (.inl gt))) := k13 _ _ a65 (z_ne a65 a7 rfl) (z_ne a65 a8 rfl)
      have a67 : f17 wwt = some (.inl (cy 1, 60, .inr (.inl gt))) := k21 _ _ a66 (z_ne a66 a16 rfl) (z_ne a66 a12 rfl)
      have a68 : f23 wwt = some (.inl (cy 1, 60, .inr (.inl gt))) := k27 _ _ a67 (z_ne a67 a19 rfl) (z_ne a67 a20 rfl)
      have a69 : f39 wwt = some (.inl (cy 1, 60, .inr (.inl gt))) := k46 _ _ a68 (z_ne a68 a28 rfl) (z_ne a68 a34 rfl) (z_ne a68 a38 rfl)
      have a70 : f1 wfy = some (.inl (cy 0, 6, .inl gy)) := k4 _ _ x_wfy (z_ne x_wfy x_o rfl)
      have a71 : f9 wfy = some (.inl (cy 0, 6, .inl gy)) := k13 _ _ a70 (z_ne a70 a7 rfl) (z_ne a70 a8 rfl)
      have a72 : f17 wfy = some (.inl (cy 0, 6, .inl gy)) := k21 _ _ a71 (z_ne a71 a16 rfl) (z_ne a71 a12 rfl)
      have a73 : f23 wfy = some (.inl (cy 0, 6, .inl gy)) := k27 _ _ a72 (z_ne a72 a19 rfl) (z_ne a72 a20 rfl)
      have a74 : f39 wfy = some (.inl (cy 0, 6, .inl gy)) := k46 _ _ a73 (z_ne a73 a28 rfl) (z_ne a73 a34 rfl) (z_ne a73 a38 rfl)
      have a75 : f1 wfk = some (.inl (cy 0, 24, .inl gq)) := k4 _ _ x_wfk (z_ne x_wfk x_o rfl)
      have a76 : f9 wfk = some (.inl (cy 0, 24, .inl gq)) := k13 _ _ a75 (z_ne a75 a7 rfl) (z_ne a75 a8 rfl)
      have a77 : f17 wfk = some (.inl (cy 0, 24, .inl gq)) := k21 _ _ a76 (z_ne a76 a16 rfl) (z_ne a76 a12 rfl)
      have a78 : f23 wfk = some (.inl (cy 0, 24, .inl gq)) := k27 _ _ a77 (z_ne a77 a19 rfl) (z_ne a77 a20 rfl)
      have a79 : f39 wfk = some (.inl (cy 0, 24, .inl gq)) := k46 _ _ a78 (z_ne a78 a28 rfl) (z_ne a78 a34 rfl) (z_ne a78 a38 rfl)
      have a80 : f1 wem = some (.inl (cy 0, 60, .inl ge1)) := k4 _ _ x_wem (z_ne x_wem x_o rfl)
      have a81 : f9 wem = some (.inl (cy 0, 60, .inl ge1)) := k13 _ _ a80 (Ne.symm n_wki_wem) (Ne.symm n_wmy_wem)
      have a82 : f17 wem = some (.inl (cy 0, 60, .inl ge1)) := k21 _ _ a81 (z_ne a81 a16 rfl) (Ne.symm n_wmy_wem)
      have a83 : f23 wem = some (.inl (cy 0, 60, .inl ge1)) := k27 _ _ a82 (z_ne a82 a19 rfl) (Ne.symm n_wmy_wem)
      have a84 : f39 wem = some (.inl (cy 0, 60, .inl ge1)) := k46 _ _ a83 (z_ne a83 a28 rfl) (Ne.symm n_wli_wem) (Ne.symm n_wha_wem)
      have a85 : f1 wna = some (.inl (cy 0, 60, .inl gn1)) := k4 _ _ x_wna (z_ne x_wna x_o rfl)
      have a86 : f9 wna = some (.inl (cy 0, 60, .inl gn1)) := k13 _ _ a85 (Ne.symm n_wki_wna) (Ne.symm n_wmy_wna)
      have a87 : f17 wna = some (.inl (cy 0, 60, .inl gn1)) := k21 _ _ a86 (z_ne a86 a16 rfl) (Ne.symm n_wmy_wna)
      have a88 : f23 wna = some (.inl (cy 0, 60, .inl gn1)) := k27 _ _ a87 (z_ne a87 a19 rfl) (Ne.symm n_wmy_wna)
      have a89 : f39 wna = some (.inl (cy 0, 60, .inl gn1)) := k46 _ _ a88 (z_ne a88 a28 rfl) (Ne.symm n_wli_wna) (Ne.symm n_wha_wna)
      have a90 : f1 wpl = some (.inl (cy 0, 60, .inl gp1)) := k4 _ _ x_wpl (z_ne x_wpl x_o rfl)
      have a91 : f9 wpl = some (.inl (cy 0, 60, .inl gp1)) := k13 _ _ a90 (Ne.symm n_wki_wpl) (Ne.symm n_wmy_wpl)
      have a92 : f17 wpl = some (.inl (cy 0, 60, .inl gp1)) := k21 _ _ a91 (z_ne a91 a16 rfl) (Ne.symm n_wmy_wpl)
      have a93 : f23 wpl = some (.inl (cy 0, 60, .inl gp1)) := k27 _ _ a92 (z_ne a92 a19 rfl) (Ne.symm n_wmy_wpl)
      have a94 : f39 wpl = some (.inl (cy 0, 60, .inl gp1)) := k46 _ _ a93 (z_ne a93 a28 rfl) (Ne.symm n_wli_wpl) (Ne.symm n_wha_wpl)
      have a95 : f1 whs = some (.inl (cy 0, 4, .inl gs)) := k4 _ _ x_whs (z_ne x_whs x_o rfl)
      have a96 : f9 whs = some (.inl (cy 0, 4, .inl gs)) := k13 _ _ a95 (z_ne a95 a7 rfl) (z_ne a95 a8 rfl)
      have a97 : f17 whs = some (.inl (cy 0, 4, .inl gs)) := k21 _ _ a96 (z_ne a96 a16 rfl) (z_ne a96 a12 rfl)
      have a98 : f23 whs = some (.inl (cy 0, 4, .inl gs)) := k27 _ _ a97 (z_ne a97 a19 rfl) (z_ne a97 a20 rfl)
      have a99 : f39 whs = some (.inl (cy 0, 4, .inl gs)) := k46 _ _ a98 (z_ne a98 a28 rfl) (z_ne a98 a34 rfl) (z_ne a98 a38 rfl)
      have a100 : f1 wk1 = some (.inl (cy 0, 40, .inl gx1)) := k4 _ _ x_wk1 (z_ne x_wk1 x_o rfl)
      have a101 : f9 wk1 = some (.inl (cy 0, 40, .inl gx1)) := k13 _ _ a100 (z_ne a100 a7 rfl) (z_ne a100 a8 rfl)
      have a102 : f17 wk1 = some (.inl (cy 0, 40, .inl gx1)) := k21 _ _ a101 (z_ne a101 a16 rfl) (z_ne a101 a12 rfl)
      have a103 : f23 wk1 = some (.inl (cy 0, 40, .inl gx1)) := k27 _ _ a102 (z_ne a102 a19 rfl) (z_ne a102 a20 rfl)
      have a104 : f39 wk1 = some (.inl (cy 0, 40, .inl gx1)) := k46 _ _ a103 (z_ne a103 a28 rfl) (z_ne a103 a34 rfl) (z_ne a103 a38 rfl)
      have a105 : f1 wk2 = some (.inl (cy 0, 40, .inl gx2)) := k4 _ _ x_wk2 (z_ne x_wk2 x_o rfl)
      have a106 : f9 wk2 = some (.inl (cy 0, 40, .inl gx2)) := k13 _ _ a105 (z_ne a105 a7 rfl) (z_ne a105 a8 rfl)
      have a107 : f17 wk2 = some (.inl (cy 0, 40, .inl gx2)) := k21 _ _ a106 (z_ne a106 a16 rfl) (z_ne a106 a12 rfl)
      have a108 : f23 wk2 = some (.inl (cy 0, 40, .inl gx2)) := k27 _ _ a107 (z_ne a107 a19 rfl) (z_ne a107 a20 rfl)
      have a109 : f39 wk2 = some (.inl (cy 0, 40, .inl gx2)) := k46 _ _ a108 (z_ne a108 a28 rfl) (z_ne a108 a34 rfl) (z_ne a108 a38 rfl)
      have a110 : f1 wk3 = some (.inl (cy 0, 40, .inl gx3)) := k4 _ _ x_wk3 (z_ne x_wk3 x_o rfl)
      have a111 : f9 wk3 = some (.inl (cy 0, 40, .inl gx3)) := k13 _ _ a110 (z_ne a110 a7 rfl) (z_ne a110 a8 rfl)
      have a112 : f17 wk3 = some (.inl (cy 0, 40, .inl gx3)) := k21 _ _ a111 (z_ne a111 a16 rfl) (z_ne a111 a12 rfl)
      have a113 : f23 wk3 = some (.inl (cy 0, 40, .inl gx3)) := k27 _ _ a112 (z_ne a112 a19 rfl) (z_ne a112 a20 rfl)
      have a114 : f39 wk3 = some (.inl (cy 0, 40, .inl gx3)) := k46 _ _ a113 (z_ne a113 a28 rfl) (z_ne a113 a34 rfl) (z_ne a113 a38 rfl)
      exact z_iret C hr rfl hz hS ⟨0, (-1), 0, nl, (nn + 1), nf, nc, lk, ks, gv, gu, (upd gk nn 1), (upd (upd (upd gm nn 0) nn (nI (0 + 1))) nn (nI (1 + 1))), (vp_updL (vp_updL gc (16 * nn + 0) x.toInt64) (16 * nn + 1) y.toInt64), gw, gl_41, gh_42, gt, gy, gq, ge1, gn1, gp1, gs, gx1, gx2, gx3, (va_up ln nn 2), fz, sq, (by simp [h60, c6]), rfl, (by rw [if_pos (nI_pos' (by omega))]), ⟨a43, a51, a56, a57, a58, a59, a64, a44, a45, a69, a74, a79, a84, a89, a94, a99, a104, a109, a114, (by omega), hl12, hf6, hc60, hs40, (zMP_new (zMP_keep hMP (fun i9 h9 => by simp only [upd, if_neg (show ¬ i9 = nn by omega)]) (fun i9 h9 => by simp only [upd, if_neg (show ¬ i9 = nn by omega)]) (fun i9 h9 j9 h8 => by simp (disch := omega) only [pk_uLn])) pk_us (by rw [pk_us]; exact zMP1_of (by omega) (by decide) (by decide) (by decide))), hgy, hfz, hgs, hME, hlk, n_wki_wmy, n_wki_wiw, n_wki_wli, n_wki_wha, n_wki_wem, n_wki_wna, n_wki_wpl, n_wmy_wiw, n_wmy_wli, n_wmy_wha, n_wmy_wem, n_wmy_wna, n_wmy_wpl, n_wiw_wli, n_wiw_wha, n_wiw_wem, n_wiw_wna, n_wiw_wpl, n_wli_wha, n_wli_wem, n_wli_wna, n_wli_wpl, n_wha_wem, n_wha_wna, n_wha_wpl, n_wem_wna, n_wem_wpl, n_wna_wpl, n_wk1_wk2, n_wk1_wk3, n_wk2_wk3⟩⟩ (Nat.le_of_ble_eq_true rfl) (Nat.le_of_ble_eq_true rfl) dX8_span_51
    · refine lv_aload_n hx hb dX8_span_21 rfl (lv_at hl 0 rfl) ?_
      refine lv_bipush (v := 7) hx hb dX8_span_22 (by decide) ?_
      refine lv_iconst (v := 1) hx hb dX8_span_24 (by decide) ?_
      refine lv_iconst (v := 1) hx hb dX8_span_25 (by decide) ?_
      have a115 : f1 wev = some (.inl (cy 0, 8, .inl gv)) := k4 _ _ x_wev (z_ne x_wev x_o rfl)
      refine z_callVi (As := [.int 7, .int 1, .int 1]) C hz hS hA hl (k_X8_fails l D cy f1 o wev wnb wki wmy wce wiw wli wha wwt wfy wfk wem wna wpl whs wk1 wk2 wk3 0 (-1) 0 nl nn nf nc lk ks 7 1 1 gv 7 a3 a115 (by decide) (Nat.le_of_ble_eq_true rfl)) zyX8_fails mMX8_135 a3 zl8 rfl rfl (Nat.le_of_ble_eq_true rfl) ⟨Nat.le_of_ble_eq_true rfl, Nat.le_of_ble_eq_true rfl⟩ ⟨Nat.le_of_ble_eq_true rfl, Nat.le_of_ble_eq_true rfl⟩ dX8_span_26 (fun r f116 H locs h117 hz hS => ?_)
      obtain ⟨rfl, a118, a119, k120⟩ := h117
      have a121 : f1 wnb = some (.inl (cy 0, 12, .inl gu)) := k4 _ _ x_wnb (z_ne x_wnb x_o rfl)
      have a122 : f116 wnb = some (.inl (cy 0, 12, .inl gu)) := k120 _ _ a121 (z_ne a121 a3 rfl) (z_ne a121 a115 rfl)
      have a123 : f1 wki = some (.inl (cy 0, 60, .inl gk)) := k4 _ _ x_wki (z_ne x_wki x_o rfl)
      have a124 : f116 wki = some (.inl (cy 0, 60, .inl gk)) := k120 _ _ a123 (z_ne a123 a3 rfl) (z_ne a123 a115 rfl)
      have a125 : f1 wmy = some (.inl (cy 0, 60, .inl gm)) := k4 _ _ x_wmy (z_ne x_wmy x_o rfl)
      have a126 : f116 wmy = some (.inl (cy 0, 60, .inl gm)) := k120 _ _ a125 (z_ne a125 a3 rfl) (z_ne a125 a115 rfl)
      have a127 : f1 wce = some (.inl (cy 1, 960, .inr (.inl gc))) := k4 _ _ x_wce (z_ne x_wce x_o rfl)
      have a128 : f116 wce = some (.inl (cy 1, 960, .inr (.inl gc))) := k120 _ _ a127 (z_ne a127 a3 rfl) (z_ne a127 a115 rfl)
      have a129 : f1 wiw = some (.inl (cy 2, 60, .inl gw)) := k4 _ _ x_wiw (z_ne x_wiw x_o rfl)
      have a130 : f116 wiw = some (.inl (cy 2, 60, .inl gw)) := k120 _ _ a129 (z_ne a129 a3 rfl) (z_ne a129 a115 rfl)
      have a131 : f1 wli = some (.inl (cy 0, 60, .inl gl)) := k4 _ _ x_wli (z_ne x_wli x_o rfl)
      have a132 : f116 wli = some (.inl (cy 0, 60, .inl gl)) := k120 _ _ a131 (z_ne a131 a3 rfl) (z_ne a131 a115 rfl)
      have a133 : f1 wha = some (.inl (cy 0, 60, .inl gh)) := k4 _ _ x_wha (z_ne x_wha x_o rfl)
      have a134 : f116 wha = some (.inl (cy 0, 60, .inl gh)) := k120 _ _ a133 (z_ne a133 a3 rfl) (z_ne a133 a115 rfl)
      have a135 : f1 wwt = some (.inl (cy 1, 60, .inr (.inl gt))) := k4 _ _ x_wwt (z_ne x_wwt x_o rfl)
      have a136 : f116 wwt = some (.inl (cy 1, 60, .inr (.inl gt))) := k120 _ _ a135 (z_ne a135 a3 rfl) (z_ne a135 a115 rfl)
      have a137 : f1 wfy = some (.inl (cy 0, 6, .inl gy)) := k4 _ _ x_wfy (z_ne x_wfy x_o rfl)
      have a138 : f116 wfy = some (.inl (cy 0, 6, .inl gy)) := k120 _ _ a137 (z_ne a137 a3 rfl) (z_ne a137 a115 rfl)
      have a139 : f1 wfk = some (.inl (cy 0, 24, .inl gq)) := k4 _ _ x_wfk (z_ne x_wfk x_o rfl)
      have a140 : f116 wfk = some (.inl (cy 0, 24, .inl gq)) := k120 _ _ a139 (z_ne a139 a3 rfl) (z_ne a139 a115 rfl)
      have a141 : f1 wem = some (.inl (cy 0, 60, .inl ge1)) := k4 _ _ x_wem (z_ne x_wem x_o rfl)
      have a142 : f116 wem = some (.inl (cy 0, 60, .inl ge1)) := k120 _ _ a141 (z_ne a141 a3 rfl) (z_ne a141 a115 rfl)
      have a143 : f1 wna = some (.inl (cy 0, 60, .inl gn1)) := k4 _ _ x_wna (z_ne x_wna x_o rfl)
      have a144 : f116 wna = some (.inl (cy 0, 60, .inl gn1)) := k120 _ _ a143 (z_ne a143 a3 rfl) (z_ne a143 a115 rfl)
      have a145 : f1 wpl = some (.inl (cy 0, 60, .inl gp1)) := k4 _ _ x_wpl (z_ne x_wpl x_o rfl)
      have a146 : f116 wpl = some (.inl (cy 0, 60, .inl gp1)) := k120 _ _ a145 (z_ne a145 a3 rfl) (z_ne a145 a115 rfl)
      have a147 : f1 whs = some (.inl (cy 0, 4, .inl gs)) := k4 _ _ x_whs (z_ne x_whs x_o rfl)
      have a148 : f116 whs = some (.inl (cy 0, 4, .inl gs)) := k120 _ _ a147 (z_ne a147 a3 rfl) (z_ne a147 a115 rfl)
      have a149 : f1 wk1 = some (.inl (cy 0, 40, .inl gx1)) := k4 _ _ x_wk1 (z_ne x_wk1 x_o rfl)
      have a150 : f116 wk1 = some (.inl (cy 0, 40, .inl gx1)) := k120 _ _ a149 (z_ne a149 a3 rfl) (z_ne a149 a115 rfl)
      have a151 : f1 wk2 = some (.inl (cy 0, 40, .inl gx2)) := k4 _ _ x_wk2 (z_ne x_wk2 x_o rfl)
      have a152 : f116 wk2 = some (.inl (cy 0, 40, .inl gx2)) := k120 _ _ a151 (z_ne a151 a3 rfl) (z_ne a151 a115 rfl)
      have a153 : f1 wk3 = some (.inl (cy 0, 40, .inl gx3)) := k4 _ _ x_wk3 (z_ne x_wk3 x_o rfl)
      have a154 : f116 wk3 = some (.inl (cy 0, 40, .inl gx3)) := k120 _ _ a153 (z_ne a153 a3 rfl) (z_ne a153 a115 rfl)
      exact z_iret C hr rfl hz hS ⟨7, 1, 1, nl, nn, nf, nc, lk, ks, (upd gv 7 (gv 7 + 1)), gu, gk, gm, gc, gw, gl, gh, gt, gy, gq, ge1, gn1, gp1, gs, gx1, gx2, gx3, ln, fz, sq, (by simp [h60, c6]), rfl, (by rw [if_neg (by decide)]), ⟨a118, a119, a122, a124, a126, a128, a130, a132, a134, a136, a138, a140, a142, a144, a146, a148, a150, a152, a154, hn60, hl12, hf6, hc60, hs40, hMP, hgy, hfz, hgs, hME, hlk, n_wki_wmy, n_wki_wiw, n_wki_wli, n_wki_wha, n_wki_wem, n_wki_wna, n_wki_wpl, n_wmy_wiw, n_wmy_wli, n_wmy_wha, n_wmy_wem, n_wmy_wna, n_wmy_wpl, n_wiw_wli, n_wiw_wha, n_wiw_wem, n_wiw_wna, n_wiw_wpl, n_wli_wha, n_wli_wem, n_wli_wna, n_wli_wpl, n_wha_wem, n_wha_wna, n_wha_wpl, n_wem_wna, n_wem_wpl, n_wna_wpl, n_wk1_wk2, n_wk1_wk3, n_wk2_wk3⟩⟩ (Nat.le_of_ble_eq_true rfl) (Nat.le_of_ble_eq_true rfl) dX8_span_29
  · replace c5 : (nn = 60) := (nI_eq (a := nn) (b := 60) (by omega) (by omega)).mp c5
    have h60 : ¬ nn < 60 := by omega
    refine lv_bipush (v := (-3)) hx hb dX8_span_13 (by decide) ?_
    have a155 : f1 wev = some (.inl (cy 0, 8, .inl gv)) := k4 _ _ x_wev (z_ne x_wev x_o rfl)
    have a156 : f1 wnb = some (.inl (cy 0, 12, .inl gu)) := k4 _ _ x_wnb (z_ne x_wnb x_o rfl)
    have a157 : f1 wki = some (.inl (cy 0, 60, .inl gk)) := k4 _ _ x_wki (z_ne x_wki x_o rfl)
    have a158 : f1 wmy = some (.inl (cy 0, 60, .inl gm)) := k4 _ _ x_wmy (z_ne x_wmy x_o rfl)
    have a159 : f1 wce = some (.inl (cy 1, 960, .inr (.inl gc))) := k4 _ _ x_wce (z_ne x_wce x_o rfl)
    have a160 : f1 wiw = some (.inl (cy 2, 60, .inl gw)) := k4 _ _ x_wiw (z_ne x_wiw x_o rfl)
    have a161 : f1 wli = some (.inl (cy 0, 60, .inl gl)) := k4 _ _ x_wli (z_ne x_wli x_o rfl)
    have a162 : f1 wha = some (.inl (cy 0, 60, .inl gh)) := k4 _ _ x_wha (z_ne x_wha x_o rfl)
    have a163 : f1 wwt = some (.inl (cy 1, 60, .inr (.inl gt))) := k4 _ _ x_wwt (z_ne x_wwt x_o rfl)
    have a164 : f1 wfy = some (.inl (cy 0, 6, .inl gy)) := k4 _ _ x_wfy (z_ne x_wfy x_o rfl)
    have a165 : f1 wfk = some (.inl (cy 0, 24, .inl gq)) := k4 _ _ x_wfk (z_ne x_wfk x_o rfl)
    have a166 : f1 wem = some (.inl (cy 0, 60, .inl ge1)) := k4 _ _ x_wem (z_ne x_wem x_o rfl)
    have a167 : f1 wna = some (.inl (cy 0, 60, .inl gn1)) := k4 _ _ x_wna (z_ne x_wna x_o rfl)
    have a168 : f1 wpl = some (.inl (cy 0, 60, .inl gp1)) := k4 _ _ x_wpl (z_ne x_wpl x_o rfl)
    have a169 : f1 whs = some (.inl (cy 0, 4, .inl gs)) := k4 _ _ x_whs (z_ne x_whs x_o rfl)
    have a170 : f1 wk1 = some (.inl (cy 0, 40, .inl gx1)) := k4 _ _ x_wk1 (z_ne x_wk1 x_o rfl)
    have a171 : f1 wk2 = some (.inl (cy 0, 40, .inl gx2)) := k4 _ _ x_wk2 (z_ne x_wk2 x_o rfl)
    have a172 : f1 wk3 = some (.inl (cy 0, 40, .inl gx3)) := k4 _ _ x_wk3 (z_ne x_wk3 x_o rfl)
    exact z_iret C hr rfl hz hS ⟨0, (-1), 0, nl, nn, nf, nc, lk, ks, gv, gu, gk, gm, gc, gw, gl, gh, gt, gy, gq, ge1, gn1, gp1, gs, gx1, gx2, gx3, ln, fz, sq, (by simp [h60]), rfl, (by rw [if_neg (by decide)]), ⟨a3, a155, a156, a157, a158, a159, a160, a161, a162, a163, a164, a165, a166, a167, a168, a169, a170, a171, a172, hn60, hl12, hf6, hc60, hs40, hMP, hgy, hfz, hgs, hME, hlk, n_wki_wmy, n_wki_wiw, n_wki_wli, n_wki_wha, n_wki_wem, n_wki_wna, n_wki_wpl, n_wmy_wiw, n_wmy_wli, n_wmy_wha, n_wmy_wem, n_wmy_wna, n_wmy_wpl, n_wiw_wli, n_wiw_wha, n_wiw_wem, n_wiw_wna, n_wiw_wpl, n_wli_wha, n_wli_wem, n_wli_wna, n_wli_wpl, n_wha_wem, n_wha_wna, n_wha_wpl, n_wem_wna, n_wem_wpl, n_wna_wpl, n_wk1_wk2, n_wk1_wk3, n_wk2_wk3⟩⟩ (Nat.le_of_ble_eq_true rfl) (Nat.le_of_ble_eq_true rfl) dX8_span_15
