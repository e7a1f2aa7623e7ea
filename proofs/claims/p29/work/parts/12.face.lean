abbrev rmX7_pair : Room := { frames := 6, cells := 2, slots := 9, locals := 140 }
set_option maxHeartbeats 4000000 in
set_option maxRecDepth 100000 in
theorem k_X7_pair (l : Launch) (D : va_G) (cy : Nat → ClassId) (f : zM) (o : Nat) (fa : Nat) (fi : Nat) (nu : Nat) (fm : Nat) (co : Nat) (en : Nat) (ke : Nat) (ev : Nat) (al : Nat) (ra : Nat) (kn : Nat) (vq : Nat) (ge : Nat → Option Nat) (ea : Nat → Nat) (ma : Nat → Nat) (u1 : Int32) (u2 : Int32) (u3 : Int32) (gv : Nat → Int32) (nl : Nat) (gu : Nat → Int32) (nn : Nat) (ga : Nat → Option Nat) (gr : Nat → Option Nat) (fg : Nat → Nat) (pt : Nat → Nat) (kd : Nat → Int32) (ln : Nat → Nat) (pp : Nat → Nat → Int64) (wg : Nat → Int64) (wd : Nat → Int32) (hs : Nat → Int32) (bf : Nat → Int32) (nf : Nat) (gf : Nat → Option Nat) (fq : Nat → Nat) (fk : Nat → Nat) (fz : Nat → Nat) (fc : Nat → Nat → Int32) (nc : Nat) (gc : Nat → Option Nat) (cn : Nat → Nat) (ce : Nat → Int32) (cm : Nat → Int32) (sq : Nat → Nat) (mb : Nat → Nat → Int32) (ks : Nat) (kk : Nat → Int32) (kv : Nat → Int32) (lk : Int64) (x : Int32) (y : Int32)    (hI : zIX cy f o fa fi nu fm co en ke ev al ra kn vq ge ea ma u1 u2 u3 gv nl gu nn ga gr fg pt kd ln pp wg wd hs bf nf gf fq fk fz fc nc gc cn ce cm sq mb ks kk kv lk) : zCi l D cy yX7_pair cX7_pair 3 (Option.some Jvm.ClassFile.FieldType.int) rmX7_pair [.ref o, .int x, .int y] f (fun (r : Int32) (f1 : zM) => ∃ (u11 : Int32) (u21 : Int32) (u31 : Int32) (gv1 : Nat → Int32) (nl1 : Nat) (gu1 : Nat → Int32) (nn1 : Nat) (ga1 : Nat → Option Nat) (gr1 : Nat → Option Nat) (fg1 : Nat → Nat) (pt1 : Nat → Nat) (kd1 : Nat → Int32) (ln1 : Nat → Nat) (pp1 : Nat → Nat → Int64) (wg1 : Nat → Int64) (wd1 : Nat → Int32) (hs1 : Nat → Int32) (bf1 : Nat → Int32) (nf1 : Nat) (gf1 : Nat → Option Nat) (fq1 : Nat → Nat) (fk1 : Nat → Nat) (fz1 : Nat → Nat) (fc1 : Nat → Nat → Int32) (nc1 : Nat) (gc1 : Nat → Option Nat) (cn1 : Nat → Nat) (ce1 : Nat → Int32) (cm1 : Nat → Int32) (sq1 : Nat → Nat) (mb1 : Nat → Nat → Int32) (ks1 : Nat) (kk1 : Nat → Int32) (kv1 : Nat → Int32) (lk1 : Int64), r = ((q_pair nn x y).1) ∧ (u11 = (q_pair nn x y).2.1) ∧ (u21 = (q_pair nn x y).2.2.1) ∧ (u31 = (q_pair nn x y).2.2.2) ∧ (gv1 = zEV gv (q_pair nn x y).2.1) ∧ (nl1 = nl) ∧ (gu1 = gu) ∧ (nn1 = if 0 ≤ r then nn + 1 else nn) ∧ (kd1 = if 0 ≤ r then va_up kd nn 4 else kd) ∧ (ln1 = if 0 ≤ r then va_up ln nn (2) else ln) ∧ (zPP nn (0 ≤ r) (2) (q2 x.toInt64 y.toInt64) pp pp1) ∧ (wd1 = if 0 ≤ r then va_up wd nn 0 else wd) ∧ (hs1 = if 0 ≤ r then va_up hs nn (zHash 4 nn (2) (q2 x.toInt64 y.toInt64) hs) else hs) ∧ (nf1 = nf) ∧ (fz1 = fz) ∧ (fc1 = fc) ∧ (nc1 = nc) ∧ (ce1 = ce) ∧ (cm1 = cm) ∧ (sq1 = sq) ∧ (mb1 = mb) ∧ (ks1 = ks) ∧ (kk1 = kk) ∧ (kv1 = kv) ∧ (lk1 = lk) ∧ zIX cy f1 o fa fi nu fm co en ke ev al ra kn vq ge ea ma u11 u21 u31 gv1 nl1 gu1 nn1 ga1 gr1 fg1 pt1 kd1 ln1 pp1 wg1 wd1 hs1 bf1 nf1 gf1 fq1 fk1 fz1 fc1 nc1 gc1 cn1 ce1 cm1 sq1 mb1 ks1 kk1 kv1 lk1) := by
  intro sz
  refine z_body (by decide +kernel) (Nat.le_of_ble_eq_true rfl) ?_
  intro p e s m below meth c ls C hr hin hsz hz hl
  subst hsz
  have hx := C.1
  have hb := C.2.1
  have hA : ∀ q, s.heap.size ≤ q → zA f s.heap.size q := fun q h => Or.inr h
  have hS : va_S (zA f s.heap.size) s.heap s.heap [] := va_S.rf
  have hl : lv_has ls 3 [(0, .ref o), (1, .int x), (2, .int y)] := hl
  obtain ⟨x_o, x_fa, x_ev, x_fi, x_al, x_ra, x_nu, x_fm, x_co, x_en, x_ke, x_kn, x_vq, hF, hP, hFq, hFk, hCn, hEa, hMa, hn60, hl12, hf6, hc60, hs40, hga, hgr, hln, hk5, hk4, hfi, hpi, har, hgf, hfz, hgc, hG, hsq, hei, hmi, kne, hca, hcr, hlk⟩ := id hI
  refine lv_aload_n hx hb dX7_pair_0 rfl (lv_at hl 0 rfl) ?_
  refine z_get (v := .ref fa) C hz x_o zl7 mFX7_10 (by decide) rfl dX7_pair_1 ?_
  refine z_callVv (As := []) C hz hS hA hl (k_X2_none l D cy f fa u1 u2 u3 ev x_fa ) zyX2_none mMX7_76 x_fa zl2 rfl rfl (Nat.le_of_ble_eq_true rfl) ⟨Nat.le_of_ble_eq_true rfl, Nat.le_of_ble_eq_true rfl⟩ ⟨Nat.le_of_ble_eq_true rfl, Nat.le_of_ble_eq_true rfl⟩ dX7_pair_4 (fun  f1 H locs h2 hz hS => ?_)
  obtain ⟨a3, k4⟩ := h2
  refine lv_aload_n hx hb dX7_pair_7 rfl (lv_at hl 0 rfl) ?_
  have a5 : f1 o = some (.inr (7, [.ref fa, .ref fi, .ref nu, .int (nI nl), .ref fm, .int (nI nf), .ref co, .int (nI nc), .ref en, .ref ke, .long lk])) := k4 _ _ x_o (z_ne x_o x_fa rfl)
  refine z_get (v := .ref fi) C hz a5 zl7 mFX7_19 (by decide) rfl dX7_pair_8 ?_
  refine lv_iload_n hx hb dX7_pair_11 rfl (lv_at hl 1 rfl) ?_
  rcases z_hon x nn with hlf | ⟨jl, hjl, hlf⟩ | ⟨hlf, hlf2⟩
  · have hOlf : oF nn x = true := oF_m hlf
    have a6 : f1 fi = some (.inr (5, [.ref al, .ref ra, .int (nI nn)])) := k4 _ _ x_fi (z_ne x_fi x_fa rfl)
    refine z_callVi (As := [.int x]) C hz hS hA hl (k_X5_hasOrNone_N l D cy f1 fi al ra nn x a6 hlf) zyX5_hasOrNone mMX7_112 a6 zl5 rfl rfl (Nat.le_of_ble_eq_true rfl) ⟨Nat.le_of_ble_eq_true rfl, Nat.le_of_ble_eq_true rfl⟩ ⟨Nat.le_of_ble_eq_true rfl, Nat.le_of_ble_eq_true rfl⟩ dX7_pair_12 (fun r f7 H locs h8 hz hS => ?_)
    obtain ⟨rfl, k9⟩ := h8
    refine lv_if_eq (tgt := 29) hx hb dX7_pair_15 (by decide) (fun c10 => ?_) (fun c10 => ?_)
    · exact absurd c10 (by decide)
    refine lv_aload_n hx hb dX7_pair_18 rfl (lv_at hl 0 rfl) ?_
    have a11 : f7 o = some (.inr (7, [.ref fa, .ref fi, .ref nu, .int (nI nl), .ref fm, .int (nI nf), .ref co, .int (nI nc), .ref en, .ref ke, .long lk])) := k9 _ _ a5 
    refine z_get (v := .ref fi) C hz a11 zl7 mFX7_19 (by decide) rfl dX7_pair_19 ?_
    refine lv_iload_n hx hb dX7_pair_22 rfl (lv_at hl 2 rfl) ?_
    rcases z_hon y nn with hrt | ⟨jr, hjr, hrt⟩ | ⟨hrt, hrt2⟩
    · have hOrt : oF nn y = true := oF_m hrt
      have a12 : f7 fi = some (.inr (5, [.ref al, .ref ra, .int (nI nn)])) := k9 _ _ a6 
      refine z_callVi (As := [.int y]) C hz hS hA hl (k_X5_hasOrNone_N l D cy f7 fi al ra nn y a12 hrt) zyX5_hasOrNone mMX7_112 a12 zl5 rfl rfl (Nat.le_of_ble_eq_true rfl) ⟨Nat.le_of_ble_eq_true rfl, Nat.le_of_ble_eq_true rfl⟩ ⟨Nat.le_of_ble_eq_true rfl, Nat.le_of_ble_eq_true rfl⟩ dX7_pair_23 (fun r f13 H locs h14 hz hS => ?_)
      obtain ⟨rfl, k15⟩ := h14
      refine lv_if_ne (tgt := 32) hx hb dX7_pair_26 (by decide) (fun c16 => ?_) (fun c16 => ?_)
      rotate_left
      · exact absurd c16 (by decide)
      refine lv_aload_n hx hb dX7_pair_32 rfl (lv_at hl 0 rfl) ?_
      have a17 : f13 o = some (.inr (7, [.ref fa, .ref fi, .ref nu, .int (nI nl), .ref fm, .int (nI nf), .ref co, .int (nI nc), .ref en, .ref ke, .long lk])) := k15 _ _ a11 
      refine z_get (v := .ref fi) C hz a17 zl7 mFX7_19 (by decide) rfl dX7_pair_33 ?_
      by_cases h60 : nn < 60
      · have a18 : f13 fi = some (.inr (5, [.ref al, .ref ra, .int (nI nn)])) := k15 _ _ a12 
        refine z_callVi (As := []) C hz hS hA hl (k_X5_isFull_A l D cy f13 fi al ra nn a18 hn60 h60) zyX5_isFull mMX7_79 a18 zl5 rfl rfl (Nat.le_of_ble_eq_true rfl) ⟨Nat.le_of_ble_eq_true rfl, Nat.le_of_ble_eq_true rfl⟩ ⟨Nat.le_of_ble_eq_true rfl, Nat.le_of_ble_eq_true rfl⟩ dX7_pair_36 (fun r f19 H locs h20 hz hS => ?_)
        obtain ⟨rfl, k21⟩ := h20
        refine lv_if_eq (tgt := 45) hx hb dX7_pair_39 (by decide) (fun c22 => ?_) (fun c22 => ?_)
        rotate_left
        · exact absurd c22 (by decide)
        refine lv_iload_n hx hb dX7_pair_45 rfl (lv_at hl 1 rfl) ?_
        refine lv_iconst (v := (-1)) hx hb dX7_pair_46 (by decide) ?_
        refine lv_icmp_ne (tgt := 60) hx hb dX7_pair_47 (by decide) (fun c23 => ?_) (fun c23 => ?_)
        · exact absurd hlf c23
        refine lv_aload_n hx hb dX7_pair_50 rfl (lv_at hl 0 rfl) ?_
        have a24 : f19 o = some (.inr (7, [.ref fa, .ref fi, .ref nu, .int (nI nl), .ref fm, .int (nI nf), .ref co, .int (nI nc), .ref en, .ref ke, .long lk])) := k21 _ _ a17 
        refine z_get (v := .ref fa) C hz a24 zl7 mFX7_10 (by decide) rfl dX7_pair_51 ?_
        refine lv_iconst (v := 1) hx hb dX7_pair_54 (by decide) ?_
        refine lv_iconst (v := 0) hx hb dX7_pair_55 (by decide) ?_
        have a25 : f7 fa = some (.inr (2, [.int 0, .int (-1), .int 0, .ref ev])) := k9 _ _ a3 
        have a26 : f13 fa = some (.inr (2, [.int 0, .int (-1), .int 0, .ref ev])) := k15 _ _ a25 
        have a27 : f19 fa = some (.inr (2, [.int 0, .int (-1), .int 0, .ref ev])) := k21 _ _ a26 
        have a28 : f1 ev = some (.inl (cy 0, 8, .inl gv)) := k4 _ _ x_ev (z_ne x_ev x_fa rfl)
        have a29 : f7 ev = some (.inl (cy 0, 8, .inl gv)) := k9 _ _ a28 
        have a30 : f13 ev = some (.inl (cy 0, 8, .inl gv)) := k15 _ _ a29 
        have a31 : f19 ev = some (.inl (cy 0, 8, .inl gv)) := k21 _ _ a30 
        refine z_callVi (As := [.int 1, .int 0]) C hz hS hA hl (k_X2_inPart l D cy f19 fa 1 0 0 (-1) 0 ev gv 1 a27 a31 (by decide) (Nat.le_of_ble_eq_true rfl)) zyX2_inPart mMX7_104 a27 zl2 rfl rfl (Nat.le_of_ble_eq_true rfl) ⟨Nat.le_of_ble_eq_true rfl, Nat.le_of_ble_eq_true rfl⟩ ⟨Nat.le_of_ble_eq_true rfl, Nat.le_of_ble_eq_true rfl⟩ dX7_pair_56 (fun r f32 H locs h33 hz hS => ?_)
        obtain ⟨rfl, a34, a35, k36⟩ := h33
        have a37 : f32 o = some (.inr (7, [.ref fa, .ref fi, .ref nu, .int (nI nl), .ref fm, .int (nI nf), .ref co, .int (nI nc), .ref en, .ref ke, .long lk])) := k36 _ _ a24 (z_ne a24 a27 rfl) (z_ne a24 a31 rfl)
        have a38 : f19 fi = some (.inr (5, [.ref al, .ref ra, .int (nI nn)])) := k21 _ _ a18 
        have a39 : f32 fi = some (.inr (5, [.ref al, .ref ra, .int (nI nn)])) := k36 _ _ a38 (z_ne a38 a27 rfl) (z_ne a38 a31 rfl)
        have a40 : f1 al = some (.inl (cy 3, 60, .inr (.inr (.inr (.inr ga))))) := k4 _ _ x_al (z_ne x_al x_fa rfl)
        have a41 : f7 al = some (.inl (cy 3, 60, .inr (.inr (.inr (.inr ga))))) := k9 _ _ a40 
        have a42 : f13 al = some (.inl (cy 3, 60, .inr (.inr (.inr (.inr ga))))) := k15 _ _ a41 
        have a43 : f19 al = some (.inl (cy 3, 60, .inr (.inr (.inr (.inr ga))))) := k21 _ _ a42 
        have a44 : f32 al = some (.inl (cy 3, 60, .inr (.inr (.inr (.inr ga))))) := k36 _ _ a43 (z_ne a43 a27 rfl) (z_ne a43 a31 rfl)
        have a45 : f1 ra = some (.inl (cy 3, 60, .inr (.inr (.inr (.inr gr))))) := k4 _ _ x_ra (z_ne x_ra x_fa rfl)
        have a46 : f7 ra = some (.inl (cy 3, 60, .inr (.inr (.inr (.inr gr))))) := k9 _ _ a45 
        have a47 : f13 ra = some (.inl (cy 3, 60, .inr (.inr (.inr (.inr gr))))) := k15 _ _ a46 
        have a48 : f19 ra = some (.inl (cy 3, 60, .inr (.inr (.inr (.inr gr))))) := k21 _ _ a47 
        have a49 : f32 ra = some (.inl (cy 3, 60, .inr (.inr (.inr (.inr gr))))) := k36 _ _ a48 (z_ne a48 a27 rfl) (z_ne a48 a31 rfl)
        have a50 : f1 nu = some (.inl (cy 0, 12, .inl gu)) := k4 _ _ x_nu (z_ne x_nu x_fa rfl)
        have a51 : f7 nu = some (.inl (cy 0, 12, .inl gu)) := k9 _ _ a50 
        have a52 : f13 nu = some (.inl (cy 0, 12, .inl gu)) := k15 _ _ a51 
        have a53 : f19 nu = some (.inl (cy 0, 12, .inl gu)) := k21 _ _ a52 
        have a54 : f32 nu = some (.inl (cy 0, 12, .inl gu)) := k36 _ _ a53 (z_ne a53 a27 rfl) (z_ne a53 a31 rfl)
        have a55 : f1 fm = some (.inl (cy 4, 6, .inr (.inr (.inr (.inr gf))))) := k4 _ _ x_fm (z_ne x_fm x_fa rfl)
        have a56 : f7 fm = some (.inl (cy 4, 6, .inr (.inr (.inr (.inr gf))))) := k9 _ _ a55 
        have a57 : f13 fm = some (.inl (cy 4, 6, .inr (.inr (.inr (.inr gf))))) := k15 _ _ a56 
        have a58 : f19 fm = some (.inl (cy 4, 6, .inr (.inr (.inr (.inr gf))))) := k21 _ _ a57 
        have a59 : f32 fm = some (.inl (cy 4, 6, .inr (.inr (.inr (.inr gf))))) := k36 _ _ a58 (z_ne a58 a27 rfl) (z_ne a58 a31 rfl)
        have a60 : f1 co = some (.inl (cy 5, 60, .inr (.inr (.inr (.inr gc))))) := k4 _ _ x_co (z_ne x_co x_fa rfl)
        have a61 : f7 co = some (.inl (cy 5, 60, .inr (.inr (.inr (.inr gc))))) := k9 _ _ a60 
        have a62 : f13 co = some (.inl (cy 5, 60, .inr (.inr (.inr (.inr gc))))) := k15 _ _ a61 
        have a63 : f19 co = some (.inl (cy 5, 60, .inr (.inr (.inr (.inr gc))))) := k21 _ _ a62 
        have a64 : f32 co = some (.inl (cy 5, 60, .inr (.inr (.inr (.inr gc))))) := k36 _ _ a63 (z_ne a63 a27 rfl) (z_ne a63 a31 rfl)
        have a65 : f1 en = some (.inl (cy 6, 4, .inr (.inr (.inr (.inr ge))))) := k4 _ _ x_en (z_ne x_en x_fa rfl)
        have a66 : f7 en = some (.inl (cy 6, 4, .inr (.inr (.inr (.inr ge))))) := k9 _ _ a65 
        have a67 : f13 en = some (.inl (cy 6, 4, .inr (.inr (.inr (.inr ge))))) := k15 _ _ a66 
        have a68 : f19 en = some (.inl (cy 6, 4, .inr (.inr (.inr (.inr ge))))) := k21 _ _ a67 
        have a69 : f32 en = some (.inl (cy 6, 4, .inr (.inr (.inr (.inr ge))))) := k36 _ _ a68 (z_ne a68 a27 rfl) (z_ne a68 a31 rfl)
        have a70 : f1 ke = some (.inr (6, [.ref kn, .ref vq, .int (nI ks)])) := k4 _ _ x_ke (z_ne x_ke x_fa rfl)
        have a71 : f7 ke = some (.inr (6, [.ref kn, .ref vq, .int (nI ks)])) := k9 _ _ a70 
        have a72 : f13 ke = some (.inr (6, [.ref kn, .ref vq, .int (nI ks)])) := k15 _ _ a71 
        have a73 : f19 ke = some (.inr (6, [.ref kn, .ref vq, .int (nI ks)])) := k21 _ _ a72 
        have a74 : f32 ke = some (.inr (6, [.ref kn, .ref vq, .int (nI ks)])) := k36 _ _ a73 (z_ne a73 a27 rfl) (z_ne a73 a31 rfl)
        have a75 : f1 kn = some (.inl (cy 0, 40, .inl kk)) := k4 _ _ x_kn (z_ne x_kn x_fa rfl)
        have a76 : f7 kn = some (.inl (cy 0, 40, .inl kk)) := k9 _ _ a75 
        have a77 : f13 kn = some (.inl (cy 0, 40, .inl kk)) := k15 _ _ a76 
        have a78 : f19 kn = some (.inl (cy 0, 40, .inl kk)) := k21 _ _ a77 
        have a79 : f32 kn = some (.inl (cy 0, 40, .inl kk)) := k36 _ _ a78 (z_ne a78 a27 rfl) (z_ne a78 a31 rfl)
        have a80 : f1 vq = some (.inl (cy 0, 40, .inl kv)) := k4 _ _ x_vq (z_ne x_vq x_fa rfl)
        have a81 : f7 vq = some (.inl (cy 0, 40, .inl kv)) := k9 _ _ a80 
        have a82 : f13 vq = some (.inl (cy 0, 40, .inl kv)) := k15 _ _ a81 
        have a83 : f19 vq = some (.inl (cy 0, 40, .inl kv)) := k21 _ _ a82 
        have a84 : f32 vq = some (.inl (cy 0, 40, .inl kv)) := k36 _ _ a83 (z_ne a83 a27 rfl) (z_ne a83 a31 rfl)
        have F85 : ∀ i9 : Nat, i9 < nn → f1 (fg i9) = some (.inr (4, [.int (kd i9), .ref (pt i9), .long (wg i9), .int (wd i9), .int (nI i9), .int (hs i9), .int (bf i9)])) := fun i9 h9 => k4 _ _ (hF i9 h9) (z_ne (hF i9 h9) x_fa rfl)
        have F86 : ∀ i9 : Nat, i9 < nn → f7 (fg i9) = some (.inr (4, [.int (kd i9), .ref (pt i9), .long (wg i9), .int (wd i9), .int (nI i9), .int (hs i9), .int (bf i9)])) := fun i9 h9 => k9 _ _ (F85 i9 h9) 
        have F87 : ∀ i9 : Nat, i9 < nn → f13 (fg i9) = some (.inr (4, [.int (kd i9), .ref (pt i9), .long (wg i9), .int (wd i9), .int (nI i9), .int (hs i9), .int (bf i9)])) := fun i9 h9 => k15 _ _ (F86 i9 h9) 
        have F88 : ∀ i9 : Nat, i9 < nn → f19 (fg i9) = some (.inr (4, [.int (kd i9), .ref (pt i9), .long (wg i9), .int (wd i9), .int (nI i9), .int (hs i9), .int (bf i9)])) := fun i9 h9 => k21 _ _ (F87 i9 h9) 
        have F89 : ∀ i9 : Nat, i9 < nn → f32 (fg i9) = some (.inr (4, [.int (kd i9), .ref (pt i9), .long (wg i9), .int (wd i9), .int (nI i9), .int (hs i9), .int (bf i9)])) := fun i9 h9 => k36 _ _ (F88 i9 h9) (z_ne (F88 i9 h9) a27 rfl) (z_ne (F88 i9 h9) a31 rfl)
        have F90 : ∀ i9 : Nat, i9 < nn → f1 (pt i9) = some (.inl (cy 1, (ln i9), .inr (.inl (pp i9)))) := fun i9 h9 => k4 _ _ (hP i9 h9) (z_neO (hP i9 h9) x_fa rfl)
        have F91 : ∀ i9 : Nat, i9 < nn → f7 (pt i9) = some (.inl (cy 1, (ln i9), .inr (.inl (pp i9)))) := fun i9 h9 => k9 _ _ (F90 i9 h9) 
        have F92 : ∀ i9 : Nat, i9 < nn → f13 (pt i9) = some (.inl (cy 1, (ln i9), .inr (.inl (pp i9)))) := fun i9 h9 => k15 _ _ (F91 i9 h9) 
        have F93 : ∀ i9 : Nat, i9 < nn → f19 (pt i9) = some (.inl (cy 1, (ln i9), .inr (.inl (pp i9)))) := fun i9 h9 => k21 _ _ (F92 i9 h9) 
        have F94 : ∀ i9 : Nat, i9 < nn → f32 (pt i9) = some (.inl (cy 1, (ln i9), .inr (.inl (pp i9)))) := fun i9 h9 => k36 _ _ (F93 i9 h9) (z_neO (F93 i9 h9) a27 rfl) (z_neA (F93 i9 h9) a31 rfl)
        have F95 : ∀ i9 : Nat, i9 < nf → f1 (fq i9) = some (.inr (3, [.ref (fk i9), .int (nI (fz i9))])) := fun i9 h9 => k4 _ _ (hFq i9 h9) (z_ne (hFq i9 h9) x_fa rfl)
        have F96 : ∀ i9 : Nat, i9 < nf → f7 (fq i9) = some (.inr (3, [.ref (fk i9), .int (nI (fz i9))])) := fun i9 h9 => k9 _ _ (F95 i9 h9) 
        have F97 : ∀ i9 : Nat, i9 < nf → f13 (fq i9) = some (.inr (3, [.ref (fk i9), .int (nI (fz i9))])) := fun i9 h9 => k15 _ _ (F96 i9 h9) 
        have F98 : ∀ i9 : Nat, i9 < nf → f19 (fq i9) = some (.inr (3, [.ref (fk i9), .int (nI (fz i9))])) := fun i9 h9 => k21 _ _ (F97 i9 h9) 
        have F99 : ∀ i9 : Nat, i9 < nf → f32 (fq i9) = some (.inr (3, [.ref (fk i9), .int (nI (fz i9))])) := fun i9 h9 => k36 _ _ (F98 i9 h9) (z_ne (F98 i9 h9) a27 rfl) (z_ne (F98 i9 h9) a31 rfl)
        have F100 : ∀ i9 : Nat, i9 < nf → f1 (fk i9) = some (.inl (cy 0, 4, .inl (fc i9))) := fun i9 h9 => k4 _ _ (hFk i9 h9) (z_ne (hFk i9 h9) x_fa rfl)
        have F101 : ∀ i9 : Nat, i9 < nf → f7 (fk i9) = some (.inl (cy 0, 4, .inl (fc i9))) := fun i9 h9 => k9 _ _ (F100 i9 h9) 
        have F102 : ∀ i9 : Nat, i9 < nf → f13 (fk i9) = some (.inl (cy 0, 4, .inl (fc i9))) := fun i9 h9 => k15 _ _ (F101 i9 h9) 
        have F103 : ∀ i9 : Nat, i9 < nf → f19 (fk i9) = some (.inl (cy 0, 4, .inl (fc i9))) := fun i9 h9 => k21 _ _ (F102 i9 h9) 
        have F104 : ∀ i9 : Nat, i9 < nf → f32 (fk i9) = some (.inl (cy 0, 4, .inl (fc i9))) := fun i9 h9 => k36 _ _ (F103 i9 h9) (z_ne (F103 i9 h9) a27 rfl) (z_ne (F103 i9 h9) a31 rfl)
        have F105 : ∀ i9 : Nat, i9 < nc → f1 (cn i9) = some (.inr (0, [.int (ce i9), .int (cm i9)])) := fun i9 h9 => k4 _ _ (hCn i9 h9) (z_ne (hCn i9 h9) x_fa rfl)
        have F106 : ∀ i9 : Nat, i9 < nc → f7 (cn i9) = some (.inr (0, [.int (ce i9), .int (cm i9)])) := fun i9 h9 => k9 _ _ (F105 i9 h9) 
        have F107 : ∀ i9 : Nat, i9 < nc → f13 (cn i9) = some (.inr (0, [.int (ce i9), .int (cm i9)])) := fun i9 h9 => k15 _ _ (F106 i9 h9) 
        have F108 : ∀ i9 : Nat, i9 < nc → f19 (cn i9) = some (.inr (0, [.int (ce i9), .int (cm i9)])) := fun i9 h9 => k21 _ _ (F107 i9 h9) 
        have F109 : ∀ i9 : Nat, i9 < nc → f32 (cn i9) = some (.inr (0, [.int (ce i9), .int (cm i9)])) := fun i9 h9 => k36 _ _ (F108 i9 h9) (z_ne (F108 i9 h9) a27 rfl) (z_ne (F108 i9 h9) a31 rfl)
        have F110 : ∀ i9 : Nat, i9 < 4 → f1 (ea i9) = some (.inr (1, [.ref (ma i9), .int (nI (sq i9))])) := fun i9 h9 => k4 _ _ (hEa i9 h9) (z_ne (hEa i9 h9) x_fa rfl)
        have F111 : ∀ i9 : Nat, i9 < 4 → f7 (ea i9) = some (.inr (1, [.ref (ma i9), .int (nI (sq i9))])) := fun i9 h9 => k9 _ _ (F110 i9 h9) 
        have F112 : ∀ i9 : Nat, i9 < 4 → f13 (ea i9) = some (.inr (1, [.ref (ma i9), .int (nI (sq i9))])) := fun i9 h9 => k15 _ _ (F111 i9 h9) 
        have F113 : ∀ i9 : Nat, i9 < 4 → f19 (ea i9) = some (.inr (1, [.ref (ma i9), .int (nI (sq i9))])) := fun i9 h9 => k21 _ _ (F112 i9 h9) 
        have F114 : ∀ i9 : Nat, i9 < 4 → f32 (ea i9) = some (.inr (1, [.ref (ma i9), .int (nI (sq i9))])) := fun i9 h9 => k36 _ _ (F113 i9 h9) (z_ne (F113 i9 h9) a27 rfl) (z_ne (F113 i9 h9) a31 rfl)
        have F115 : ∀ i9 : Nat, i9 < 4 → f1 (ma i9) = some (.inl (cy 0, 60, .inl (mb i9))) := fun i9 h9 => k4 _ _ (hMa i9 h9) (z_ne (hMa i9 h9) x_fa rfl)
        have F116 : ∀ i9 : Nat, i9 < 4 → f7 (ma i9) = some (.inl (cy 0, 60, .inl (mb i9))) := fun i9 h9 => k9 _ _ (F115 i9 h9) 
        have F117 : ∀ i9 : Nat, i9 < 4 → f13 (ma i9) = some (.inl (cy 0, 60, .inl (mb i9))) := fun i9 h9 => k15 _ _ (F116 i9 h9) 
        have F118 : ∀ i9 : Nat, i9 < 4 → f19 (ma i9) = some (.inl (cy 0, 60, .inl (mb i9))) := fun i9 h9 => k21 _ _ (F117 i9 h9) 
        have F119 : ∀ i9 : Nat, i9 < 4 → f32 (ma i9) = some (.inl (cy 0, 60, .inl (mb i9))) := fun i9 h9 => k36 _ _ (F118 i9 h9) (z_ne (F118 i9 h9) a27 rfl) (z_ne (F118 i9 h9) a31 rfl)
        have hq : q_pair nn x y = ((-4), 1, 0, 0) := by simp [q_pair, oF_m1 nn, h60, hOlf, hOrt, c10, c16, c22, c23]
        exact z_iret C hr rfl hz hS ⟨1, 0, 0, (upd gv 1 (gv 1 + 1)), nl, gu, nn, ga, gr, fg, pt, kd, ln, pp, wg, wd, hs, bf, nf, gf, fq, fk, fz, fc, nc, gc, cn, ce, cm, sq, mb, ks, kk, kv, lk, (by rw [hq]), (by rw [hq]), (by rw [hq]), (by rw [hq]), (by rw [hq]; exact (zEV1 gv).symm), rfl, rfl, (by rw [if_neg (by decide)]), (by rw [if_neg (by decide)]), (by rw [if_neg (by decide)]), (zPP_no (by decide)), (by rw [if_neg (by decide)]), (by rw [if_neg (by decide)]), rfl, rfl, rfl, rfl, rfl, rfl, rfl, rfl, rfl, rfl, rfl, rfl, ⟨a37, a34, a35, a39, a44, a49, a54, a59, a64, a69, a74, a79, a84, F89, F94, F99, F104, F109, F114, F119, hn60, hl12, hf6, hc60, hs40, hga, hgr, hln, hk5, hk4, hfi, hpi, har, hgf, hfz, hgc, hG, hsq, hei, hmi, kne, hca, hcr, hlk⟩⟩ (Nat.le_of_ble_eq_true rfl) (Nat.le_of_ble_eq_true rfl) dX7_pair_59
      · have a120 : f13 fi = some (.inr (5, [.ref al, .ref ra, .int (nI nn)])) := k15 _ _ a12 
        refine z_callVi (As := []) C hz hS hA hl (k_X5_isFull_B l D cy f13 fi al ra nn a120 hn60 h60) zyX5_isFull mMX7_79 a120 zl5 rfl rfl (Nat.le_of_ble_eq_true rfl) ⟨Nat.le_of_ble_eq_true rfl, Nat.le_of_ble_eq_true rfl⟩ ⟨Nat.le_of_ble_eq_true rfl, Nat.le_of_ble_eq_true rfl⟩ dX7_pair_36 (fun r f121 H locs h122 hz hS => ?_)
        obtain ⟨rfl, k123⟩ := h122
        refine lv_if_eq (tgt := 45) hx hb dX7_pair_39 (by decide) (fun c124 => ?_) (fun c124 => ?_)
        · exact absurd c124 (by decide)
        refine lv_bipush (v := (-3)) hx hb dX7_pair_42 (by decide) ?_
        have a125 : f121 o = some (.inr (7, [.ref fa, .ref fi, .ref nu, .int (nI nl), .ref fm, .int (nI nf), .ref co, .int (nI nc), .ref en, .ref ke, .long lk])) := k123 _ _ a17 
        have a126 : f7 fa = some (.inr (2, [.int 0, .int (-1), .int 0, .ref ev])) := k9 _ _ a3 
        have a127 : f13 fa = some (.inr (2, [.int 0, .int (-1), .int 0, .ref ev])) := k15 _ _ a126 
        have a128 : f121 fa = some (.inr (2, [.int 0, .int (-1), .int 0, .ref ev])) := k123 _ _ a127 
        have a129 : f1 ev = some (.inl (cy 0, 8, .inl gv)) := k4 _ _ x_ev (z_ne x_ev x_fa rfl)
        have a130 : f7 ev = some (.inl (cy 0, 8, .inl gv)) := k9 _ _ a129 
        have a131 : f13 ev = some (.inl (cy 0, 8, .inl gv)) := k15 _ _ a130 
        have a132 : f121 ev = some (.inl (cy 0, 8, .inl gv)) := k123 _ _ a131 
        have a133 : f121 fi = some (.inr (5, [.ref al, .ref ra, .int (nI nn)])) := k123 _ _ a120 
        have a134 : f1 al = some (.inl (cy 3, 60, .inr (.inr (.inr (.inr ga))))) := k4 _ _ x_al (z_ne x_al x_fa rfl)
        have a135 : f7 al = some (.inl (cy 3, 60, .inr (.inr (.inr (.inr ga))))) := k9 _ _ a134 
        have a136 : f13 al = some (.inl (cy 3, 60, .inr (.inr (.inr (.inr ga))))) := k15 _ _ a135 
        have a137 : f121 al = some (.inl (cy 3, 60, .inr (.inr (.inr (.inr ga))))) := k123 _ _ a136 
        have a138 : f1 ra = some (.inl (cy 3, 60, .inr (.inr (.inr (.inr gr))))) := k4 _ _ x_ra (z_ne x_ra x_fa rfl)
        have a139 : f7 ra = some (.inl (cy 3, 60, .inr (.inr (.inr (.inr gr))))) := k9 _ _ a138 
        have a140 : f13 ra = some (.inl (cy 3, 60, .inr (.inr (.inr (.inr gr))))) := k15 _ _ a139 
        have a141 : f121 ra = some (.inl (cy 3, 60, .inr (.inr (.inr (.inr gr))))) := k123 _ _ a140 
        have a142 : f1 nu = some (.inl (cy 0, 12, .inl gu)) := k4 _ _ x_nu (z_ne x_nu x_fa rfl)
        have a143 : f7 nu = some (.inl (cy 0, 12, .inl gu)) := k9 _ _ a142 
        have a144 : f13 nu = some (.inl (cy 0, 12, .inl gu)) := k15 _ _ a143 
        have a145 : f121 nu = some (.inl (cy 0, 12, .inl gu)) := k123 _ _ a144 
        have a146 : f1 fm = some (.inl (cy 4, 6, .inr (.inr (.inr (.inr gf))))) := k4 _ _ x_fm (z_ne x_fm x_fa rfl)
        have a147 : f7 fm = some (.inl (cy 4, 6, .inr (.inr (.inr (.inr gf))))) := k9 _ _ a146 
        have a148 : f13 fm = some (.inl (cy 4, 6, .inr (.inr (.inr (.inr gf))))) := k15 _ _ a147 
        have a149 : f121 fm = some (.inl (cy 4, 6, .inr (.inr (.inr (.inr gf))))) := k123 _ _ a148 
        have a150 : f1 co = some (.inl (cy 5, 60, .inr (.inr (.inr (.inr gc))))) := k4 _ _ x_co (z_ne x_co x_fa rfl)
        have a151 : f7 co = some (.inl (cy 5, 60, .inr (.inr (.inr (.inr gc))))) := k9 _ _ a150 
        have a152 : f13 co = some (.inl (cy 5, 60, .inr (.inr (.inr (.inr gc))))) := k15 _ _ a151 
        have a153 : f121 co = some (.inl (cy 5, 60, .inr (.inr (.inr (.inr gc))))) := k123 _ _ a152 
        have a154 : f1 en = some (.inl (cy 6, 4, .inr (.inr (.inr (.inr ge))))) := k4 _ _ x_en (z_ne x_en x_fa rfl)
        have a155 : f7 en = some (.inl (cy 6, 4, .inr (.inr (.inr (.inr ge))))) := k9 _ _ a154 
        have a156 : f13 en = some (.inl (cy 6, 4, .inr (.inr (.inr (.inr ge))))) := k15 _ _ a155 
        have a157 : f121 en = some (.inl (cy 6, 4, .inr (.inr (.inr (.inr ge))))) := k123 _ _ a156 
        have a158 : f1 ke = some (.inr (6, [.ref kn, .ref vq, .int (nI ks)])) := k4 _ _ x_ke (z_ne x_ke x_fa rfl)
        have a159 : f7 ke = some (.inr (6, [.ref kn, .ref vq, .int (nI ks)])) := k9 _ _ a158 
        have a160 : f13 ke = some (.inr (6, [.ref kn, .ref vq, .int (nI ks)])) := k15 _ _ a159 
        have a161 : f121 ke = some (.inr (6, [.ref kn, .ref vq, .int (nI ks)])) := k123 _ _ a160 
        have a162 : f1 kn = some (.inl (cy 0, 40, .inl kk)) := k4 _ _ x_kn (z_ne x_kn x_fa rfl)
        have a163 : f7 kn = some (.inl (cy 0, 40, .inl kk)) := k9 _ _ a162 
        have a164 : f13 kn = some (.inl (cy 0, 40, .inl kk)) := k15 _ _ a163 
        have a165 : f121 kn = some (.inl (cy 0, 40, .inl kk)) := k123 _ _ a164 
        have a166 : f1 vq = some (.inl (cy 0, 40, .inl kv)) := k4 _ _ x_vq (z_ne x_vq x_fa rfl)
        have a167 : f7 vq = some (.inl (cy 0, 40, .inl kv)) := k9 _ _ a166 
        have a168 : f13 vq = some (.inl (cy 0, 40, .inl kv)) := k15 _ _ a167 
        have a169 : f121 vq = some (.inl (cy 0, 40, .inl kv)) := k123 _ _ a168 
        have F170 : ∀ i9 : Nat, i9 < nn → f1 (fg i9) = some (.inr (4, [.int (kd i9), .ref (pt i9), .long (wg i9), .int (wd i9), .int (nI i9), .int (hs i9), .int (bf i9)])) := fun i9 h9 => k4 _ _ (hF i9 h9) (z_ne (hF i9 h9) x_fa rfl)
        have F171 : ∀ i9 : Nat, i9 < nn → f7 (fg i9) = some (.inr (4, [.int (kd i9), .ref (pt i9), .long (wg i9), .int (wd i9), .int (nI i9), .int (hs i9), .int (bf i9)])) := fun i9 h9 => k9 _ _ (F170 i9 h9) 
        have F172 : ∀ i9 : Nat, i9 < nn → f13 (fg i9) = some (.inr (4, [.int (kd i9), .ref (pt i9), .long (wg i9), .int (wd i9), .int (nI i9), .int (hs i9), .int (bf i9)])) := fun i9 h9 => k15 _ _ (F171 i9 h9) 
        have F173 : ∀ i9 : Nat, i9 < nn → f121 (fg i9) = some (.inr (4, [.int (kd i9), .ref (pt i9), .long (wg i9), .int (wd i9), .int (nI i9), .int (hs i9), .int (bf i9)])) := fun i9 h9 => k123 _ _ (F172 i9 h9) 
        have F174 : ∀ i9 : Nat, i9 < nn → f1 (pt i9) = some (.inl (cy 1, (ln i9), .inr (.inl (pp i9)))) := fun i9 h9 => k4 _ _ (hP i9 h9) (z_neO (hP i9 h9) x_fa rfl)
        have F175 : ∀ i9 : Nat, i9 < nn → f7 (pt i9) = some (.inl (cy 1, (ln i9), .inr (.inl (pp i9)))) := fun i9 h9 => k9 _ _ (F174 i9 h9) 
        have F176 : ∀ i9 : Nat, i9 < nn → f13 (pt i9) = some (.inl (cy 1, (ln i9), .inr (.inl (pp i9)))) := fun i9 h9 => k15 _ _ (F175 i9 h9) 
        have F177 : ∀ i9 : Nat, i9 < nn → f121 (pt i9) = some (.inl (cy 1, (ln i9), .inr (.inl (pp i9)))) := fun i9 h9 => k123 _ _ (F176 i9 h9) 
        have F178 : ∀ i9 : Nat, i9 < nf → f1 (fq i9) = some (.inr (3, [.ref (fk i9), .int (nI (fz i9))])) := fun i9 h9 => k4 _ _ (hFq i9 h9) (z_ne (hFq i9 h9) x_fa rfl)
        have F179 : ∀ i9 : Nat, i9 < nf → f7 (fq i9) = some (.inr (3, [.ref (fk i9), .int (nI (fz i9))])) := fun i9 h9 => k9 _ _ (F178 i9 h9) 
        have F180 : ∀ i9 : Nat, i9 < nf → f13 (fq i9) = some (.inr (3, [.ref (fk i9), .int (nI (fz i9))])) := fun i9 h9 => k15 _ _ (F179 i9 h9) 
        have F181 : ∀ i9 : Nat, i9 < nf → f121 (fq i9) = some (.inr (3, [.ref (fk i9), .int (nI (fz i9))])) := fun i9 h9 => k123 _ _ (F180 i9 h9) 
        have F182 : ∀ i9 : Nat, i9 < nf → f1 (fk i9) = some (.inl (cy 0, 4, .inl (fc i9))) := fun i9 h9 => k4 _ _ (hFk i9 h9) (z_ne (hFk i9 h9) x_fa rfl)
        have F183 : ∀ i9 : Nat, i9 < nf → f7 (fk i9) = some (.inl (cy 0, 4, .inl (fc i9))) := fun i9 h9 => k9 _ _ (F182 i9 h9) 
        have F184 : ∀ i9 : Nat, i9 < nf → f13 (fk i9) = some (.inl (cy 0, 4, .inl (fc i9))) := fun i9 h9 => k15 _ _ (F183 i9 h9) 
        have F185 : ∀ i9 : Nat, i9 < nf → f121 (fk i9) = some (.inl (cy 0, 4, .inl (fc i9))) := fun i9 h9 => k123 _ _ (F184 i9 h9) 
        have F186 : ∀ i9 : Nat, i9 < nc → f1 (cn i9) = some (.inr (0, [.int (ce i9), .int (cm i9)])) := fun i9 h9 => k4 _ _ (hCn i9 h9) (z_ne (hCn i9 h9) x_fa rfl)
        have F187 : ∀ i9 : Nat, i9 < nc → f7 (cn i9) = some (.inr (0, [.int (ce i9), .int (cm i9)])) := fun i9 h9 => k9 _ _ (F186 i9 h9) 
        have F188 : ∀ i9 : Nat, i9 < nc → f13 (cn i9) = some (.inr (0, [.int (ce i9), .int (cm i9)])) := fun i9 h9 => k15 _ _ (F187 i9 h9) 
        have F189 : ∀ i9 : Nat, i9 < nc → f121 (cn i9) = some (.inr (0, [.int (ce i9), .int (cm i9)])) := fun i9 h9 => k123 _ _ (F188 i9 h9) 
        have F190 : ∀ i9 : Nat, i9 < 4 → f1 (ea i9) = some (.inr (1, [.ref (ma i9), .int (nI (sq i9))])) := fun i9 h9 => k4 _ _ (hEa i9 h9) (z_ne (hEa i9 h9) x_fa rfl)
        have F191 : ∀ i9 : Nat, i9 < 4 → f7 (ea i9) = some (.inr (1, [.ref (ma i9), .int (nI (sq i9))])) := fun i9 h9 => k9 _ _ (F190 i9 h9) 
        have F192 : ∀ i9 : Nat, i9 < 4 → f13 (ea i9) = some (.inr (1, [.ref (ma i9), .int (nI (sq i9))])) := fun i9 h9 => k15 _ _ (F191 i9 h9) 
        have F193 : ∀ i9 : Nat, i9 < 4 → f121 (ea i9) = some (.inr (1, [.ref (ma i9), .int (nI (sq i9))])) := fun i9 h9 => k123 _ _ (F192 i9 h9) 
        have F194 : ∀ i9 : Nat, i9 < 4 → f1 (ma i9) = some (.inl (cy 0, 60, .inl (mb i9))) := fun i9 h9 => k4 _ _ (hMa i9 h9) (z_ne (hMa i9 h9) x_fa rfl)
        have F195 : ∀ i9 : Nat, i9 < 4 → f7 (ma i9) = some (.inl (cy 0, 60, .inl (mb i9))) := fun i9 h9 => k9 _ _ (F194 i9 h9) 
        have F196 : ∀ i9 : Nat, i9 < 4 → f13 (ma i9) = some (.inl (cy 0, 60, .inl (mb i9))) := fun i9 h9 => k15 _ _ (F195 i9 h9) 
        have F197 : ∀ i9 : Nat, i9 < 4 → f121 (ma i9) = some (.inl (cy 0, 60, .inl (mb i9))) := fun i9 h9 => k123 _ _ (F196 i9 h9) 
        have hq : q_pair nn x y = ((-3), 0, (-1), 0) := by simp [q_pair, oF_m1 nn, h60, hOlf, hOrt, c10, c16, c124]
        exact z_iret C hr rfl hz hS ⟨0, (-1), 0, gv, nl, gu, nn, ga, gr, fg, pt, kd, ln, pp, wg, wd, hs, bf, nf, gf, fq, fk, fz, fc, nc, gc, cn, ce, cm, sq, mb, ks, kk, kv, lk, (by rw [hq]), (by rw [hq]), (by rw [hq]), (by rw [hq]), (by rw [hq]; exact (zEV0 gv).symm), rfl, rfl, (by rw [if_neg (by decide)]), (by rw [if_neg (by decide)]), (by rw [if_neg (by decide)]), (zPP_no (by decide)), (by rw [if_neg (by decide)]), (by rw [if_neg (by decide)]), rfl, rfl, rfl, rfl, rfl, rfl, rfl, rfl, rfl, rfl, rfl, rfl, ⟨a125, a128, a132, a133, a137, a141, a145, a149, a153, a157, a161, a165, a169, F173, F177, F181, F185, F189, F193, F197, hn60, hl12, hf6, hc60, hs40, hga, hgr, hln, hk5, hk4, hfi, hpi, har, hgf, hfz, hgc, hG, hsq, hei, hmi, kne, hca, hcr, hlk⟩⟩ (Nat.le_of_ble_eq_true rfl) (Nat.le_of_ble_eq_true rfl) dX7_pair_44
    · have hOrt : oF nn y = true := oF_t hn60 hjr hrt
      have hNrt : ¬ y = (-1) := by rw [hrt]; exact z_nim1 (by omega)
      have a198 : f7 fi = some (.inr (5, [.ref al, .ref ra, .int (nI nn)])) := k9 _ _ a6 
      have a199 : f1 al = some (.inl (cy 3, 60, .inr (.inr (.inr (.inr ga))))) := k4 _ _ x_al (z_ne x_al x_fa rfl)
      have a200 : f7 al = some (.inl (cy 3, 60, .inr (.inr (.inr (.inr ga))))) := k9 _ _ a199 
      refine z_callVi (As := [.int y]) C hz hS hA hl (k_X5_hasOrNone_A l D cy f7 fi al ra ga nn fg jr y a198 a200 hrt hjr hn60 hga) zyX5_hasOrNone mMX7_112 a198 zl5 rfl rfl (Nat.le_of_ble_eq_true rfl) ⟨Nat.le_of_ble_eq_true rfl, Nat.le_of_ble_eq_true rfl⟩ ⟨Nat.le_of_ble_eq_true rfl, Nat.le_of_ble_eq_true rfl⟩ dX7_pair_23 (fun r f201 H locs h202 hz hS => ?_)
      obtain ⟨rfl, k203⟩ := h202
      refine lv_if_ne (tgt := 32) hx hb dX7_pair_26 (by decide) (fun c204 => ?_) (fun c204 => ?_)
      rotate_left
      · exact absurd c204 (by decide)
      refine lv_aload_n hx hb dX7_pair_32 rfl (lv_at hl 0 rfl) ?_
      have a205 : f201 o = some (.inr (7, [.ref fa, .ref fi, .ref nu, .int (nI nl), .ref fm, .int (nI nf), .ref co, .int (nI nc), .ref en, .ref ke, .long lk])) := k203 _ _ a11 
      refine z_get (v := .ref fi) C hz a205 zl7 mFX7_19 (by decide) rfl dX7_pair_33 ?_
      by_cases h60 : nn < 60
      · have a206 : f201 fi = some (.inr (5, [.ref al, .ref ra, .int (nI nn)])) := k203 _ _ a198 
        refine z_callVi (As := []) C hz hS hA hl (k_X5_isFull_A l D cy f201 fi al ra nn a206 hn60 h60) zyX5_isFull mMX7_79 a206 zl5 rfl rfl (Nat.le_of_ble_eq_true rfl) ⟨Nat.le_of_ble_eq_true rfl, Nat.le_of_ble_eq_true rfl⟩ ⟨Nat.le_of_ble_eq_true rfl, Nat.le_of_ble_eq_true rfl⟩ dX7_pair_36 (fun r f207 H locs h208 hz hS => ?_)
        obtain ⟨rfl, k209⟩ := h208
        refine lv_if_eq (tgt := 45) hx hb dX7_pair_39 (by decide) (fun c210 => ?_) (fun c210 => ?_)
        rotate_left
        · exact absurd c210 (by decide)
        refine lv_iload_n hx hb dX7_pair_45 rfl (lv_at hl 1 rfl) ?_
        refine lv_iconst (v := (-1)) hx hb dX7_pair_46 (by decide) ?_
        refine lv_icmp_ne (tgt := 60) hx hb dX7_pair_47 (by decide) (fun c211 => ?_) (fun c211 => ?_)
        · exact absurd hlf c211
        refine lv_aload_n hx hb dX7_pair_50 rfl (lv_at hl 0 rfl) ?_
        have a212 : f207 o = some (.inr (7, [.ref fa, .ref fi, .ref nu, .int (nI nl), .ref fm, .int (nI nf), .ref co, .int (nI nc), .ref en, .ref ke, .long lk])) := k209 _ _ a205 
        refine z_get (v := .ref fa) C hz a212 zl7 mFX7_10 (by decide) rfl dX7_pair_51 ?_
        refine lv_iconst (v := 1) hx hb dX7_pair_54 (by decide) ?_
        refine lv_iconst (v := 0) hx hb dX7_pair_55 (by decide) ?_
        have a213 : f7 fa = some (.inr (2, [.int 0, .int (-1), .int 0, .ref ev])) := k9 _ _ a3 
        have a214 : f201 fa = some (.inr (2, [.int 0, .int (-1), .int 0, .ref ev])) := k203 _ _ a213 
        have a215 : f207 fa = some (.inr (2, [.int 0, .int (-1), .int 0, .ref ev])) := k209 _ _ a214 
        have a216 : f1 ev = some (.inl (cy 0, 8, .inl gv)) := k4 _ _ x_ev (z_ne x_ev x_fa rfl)
        have a217 : f7 ev = some (.inl (cy 0, 8, .inl gv)) := k9 _ _ a216 
        have a218 : f201 ev = some (.inl (cy 0, 8, .inl gv)) := k203 _ _ a217 
        have a219 : f207 ev = some (.inl (cy 0, 8, .inl gv)) := k209 _ _ a218 
        refine z_callVi (As := [.int 1, .int 0]) C hz hS hA hl (k_X2_inPart l D cy f207 fa 1 0 0 (-1) 0 ev gv 1 a215 a219 (by decide) (Nat.le_of_ble_eq_true rfl)) zyX2_inPart mMX7_104 a215 zl2 rfl rfl (Nat.le_of_ble_eq_true rfl) ⟨Nat.le_of_ble_eq_true rfl, Nat.le_of_ble_eq_true rfl⟩ ⟨Nat.le_of_ble_eq_true rfl, Nat.le_of_ble_eq_true rfl⟩ dX7_pair_56 (fun r f220 H locs h221 hz hS => ?_)
        obtain ⟨rfl, a222, a223, k224⟩ := h221
        have a225 : f220 o = some (.inr (7, [.ref fa, .ref fi, .ref nu, .int (nI nl), .ref fm, .int (nI nf), .ref co, .int (nI nc), .ref en, .ref ke, .long lk])) := k224 _ _ a212 (z_ne a212 a215 rfl) (z_ne a212 a219 rfl)
        have a226 : f207 fi = some (.inr (5, [.ref al, .ref ra, .int (nI nn)])) := k209 _ _ a206 
        have a227 : f220 fi = some (.inr (5, [.ref al, .ref ra, .int (nI nn)])) := k224 _ _ a226 (z_ne a226 a215 rfl) (z_ne a226 a219 rfl)
        have a228 : f201 al = some (.inl (cy 3, 60, .inr (.inr (.inr (.inr ga))))) := k203 _ _ a200 
        have a229 : f207 al = some (.inl (cy 3, 60, .inr (.inr (.inr (.inr ga))))) := k209 _ _ a228 
        have a230 : f220 al = some (.inl (cy 3, 60, .inr (.inr (.inr (.inr ga))))) := k224 _ _ a229 (z_ne a229 a215 rfl) (z_ne a229 a219 rfl)
        have a231 : f1 ra = some (.inl (cy 3, 60, .inr (.inr (.inr (.inr gr))))) := k4 _ _ x_ra (z_ne x_ra x_fa rfl)
        have a232 : f7 ra = some (.inl (cy 3, 60, .inr (.inr (.inr (.inr gr))))) := k9 _ _ a231 
        have a233 : f201 ra = some (.inl (cy 3, 60, .inr (.inr (.inr (.inr gr))))) := k203 _ _ a232 
        have a234 : f207 ra = some (.inl (cy 3, 60, .inr (.inr (.inr (.inr gr))))) := k209 _ _ a233 
        have a235 : f220 ra = some (.inl (cy 3, 60, .inr (.inr (.inr (.inr gr))))) := k224 _ _ a234 (z_ne a234 a215 rfl) (z_ne a234 a219 rfl)
        have a236 : f1 nu = some (.inl (cy 0, 12, .inl gu)) := k4 _ _ x_nu (z_ne x_nu x_fa rfl)
        have a237 : f7 nu = some (.inl (cy 0, 12, .inl gu)) := k9 _ _ a236 
        have a238 : f201 nu = some (.inl (cy 0, 12, .inl gu)) := k203 _ _ a237 
        have a239 : f207 nu = some (.inl (cy 0, 12, .inl gu)) := k209 _ _ a238 
        have a240 : f220 nu = some (.inl (cy 0, 12, .inl gu)) := k224 _ _ a239 (z_ne a239 a215 rfl) (z_ne a239 a219 rfl)
        have a241 : f1 fm = some (.inl (cy 4, 6, .inr (.inr (.inr (.inr gf))))) := k4 _ _ x_fm (z_ne x_fm x_fa rfl)
        have a242 : f7 fm = some (.inl (cy 4, 6, .inr (.inr (.inr (.inr gf))))) := k9 _ _ a241 
        have a243 : f201 fm = some (.inl (cy 4, 6, .inr (.inr (.inr (.inr gf))))) := k203 _ _ a242 
        have a244 : f207 fm = some (.inl (cy 4, 6, .inr (.inr (.inr (.inr gf))))) := k209 _ _ a243 
        have a245 : f220 fm = some (.inl (cy 4, 6, .inr (.inr (.inr (.inr gf))))) := k224 _ _ a244 (z_ne a244 a215 rfl) (z_ne a244 a219 rfl)
        have a246 : f1 co = some (.inl (cy 5, 60, .inr (.inr (.inr (.inr gc))))) := k4 _ _ x_co (z_ne x_co x_fa rfl)
        have a247 : f7 co = some (.inl (cy 5, 60, .inr (.inr (.inr (.inr gc))))) := k9 _ _ a246 
        have a248 : f201 co = some (.inl (cy 5, 60, .inr (.inr (.inr (.inr gc))))) := k203 _ _ a247 
        have a249 : f207 co = some (.inl (cy 5, 60, .inr (.inr (.inr (.inr gc))))) := k209 _ _ a248 
        have a250 : f220 co = some (.inl (cy 5, 60, .inr (.inr (.inr (.inr gc))))) := k224 _ _ a249 (z_ne a249 a215 rfl) (z_ne a249 a219 rfl)
        have a251 : f1 en = some (.inl (cy 6, 4, .inr (.inr (.inr (.inr ge))))) := k4 _ _ x_en (z_ne x_en x_fa rfl)
        have a252 : f7 en = some (.inl (cy 6, 4, .inr (.inr (.inr (.inr ge))))) := k9 _ _ a251 
        have a253 : f201 en = some (.inl (cy 6, 4, .inr (.inr (.inr (.inr ge))))) := k203 _ _ a252 
        have a254 : f207 en = some (.inl (cy 6, 4, .inr (.inr (.inr (.inr ge))))) := k209 _ _ a253 
        have a255 : f220 en = some (.inl (cy 6, 4, .inr (.inr (.inr (.inr ge))))) := k224 _ _ a254 (z_ne a254 a215 rfl) (z_ne a254 a219 rfl)
        have a256 : f1 ke = some (.inr (6, [.ref kn, .ref vq, .int (nI ks)])) := k4 _ _ x_ke (z_ne x_ke x_fa rfl)
        have a257 : f7 ke = some (.inr (6, [.ref kn, .ref vq, .int (nI ks)])) := k9 _ _ a256 
        have a258 : f201 ke = some (.inr (6, [.ref kn, .ref vq, .int (nI ks)])) := k203 _ _ a257 
        have a259 : f207 ke = some (.inr (6, [.ref kn, .ref vq, .int (nI ks)])) := k209 _ _ a258 
        have a260 : f220 ke = some (.inr (6, [.ref kn, .ref vq, .int (nI ks)])) := k224 _ _ a259 (z_ne a259 a215 rfl) (z_ne a259 a219 rfl)
        have a261 : f1 kn = some (.inl (cy 0, 40, .inl kk)) := k4 _ _ x_kn (z_ne x_kn x_fa rfl)
        have a262 : f7 kn = some (.inl (cy 0, 40, .inl kk)) := k9 _ _ a261 
        have a263 : f201 kn = some (.inl (cy 0, 40, .inl kk)) := k203 _ _ a262 
        have a264 : f207 kn = some (.inl (cy 0, 40, .inl kk)) := k209 _ _ a263 
        have a265 : f220 kn = some (.inl (cy 0, 40, .inl kk)) := k224 _ _ a264 (z_ne a264 a215 rfl) (z_ne a264 a219 rfl)
        have a266 : f1 vq = some (.inl (cy 0, 40, .inl kv)) := k4 _ _ x_vq (z_ne x_vq x_fa rfl)
        have a267 : f7 vq = some (.inl (cy 0, 40, .inl kv)) := k9 _ _ a266 
        have a268 : f201 vq = some (.inl (cy 0, 40, .inl kv)) := k203 _ _ a267 
        have a269 : f207 vq = some (.inl (cy 0, 40, .inl kv)) := k209 _ _ a268 
        have a270 : f220 vq = some (.inl (cy 0, 40, .inl kv)) := k224 _ _ a269 (z_ne a269 a215 rfl) (z_ne a269 a219 rfl)
        have F271 : ∀ i9 : Nat, i9 < nn → f1 (fg i9) = some (.inr (4, [.int (kd i9), .ref (pt i9), .long (wg i9), .int (wd i9), .int (nI i9), .int (hs i9), .int (bf i9)])) := fun i9 h9 => k4 _ _ (hF i9 h9) (z_ne (hF i9 h9) x_fa rfl)
        have F272 : ∀ i9 : Nat, i9 < nn → f7 (fg i9) = some (.inr (4, [.int (kd i9), .ref (pt i9), .long (wg i9), .int (wd i9), .int (nI i9), .int (hs i9), .int (bf i9)])) := fun i9 h9 => k9 _ _ (F271 i9 h9) 
        have F273 : ∀ i9 : Nat, i9 < nn → f201 (fg i9) = some (.inr (4, [.int (kd i9), .ref (pt i9), .long (wg i9), .int (wd i9), .int (nI i9), .int (hs i9), .int (bf i9)])) := fun i9 h9 => k203 _ _ (F272 i9 h9) 
        have F274 : ∀ i9 : Nat, i9 < nn → f207 (fg i9) = some (.inr (4, [.int (kd i9), .ref (pt i9), .long (wg i9), .int (wd i9), .int (nI i9), .int (hs i9), .int (bf i9)])) := fun i9 h9 => k209 _ _ (F273 i9 h9) 
        have F275 : ∀ i9 : Nat, i9 < nn → f220 (fg i9) = some (.inr (4, [.int (kd i9), .ref (pt i9), .long (wg i9), .int (wd i9), .int (nI i9), .int (hs i9), .int (bf i9)])) := fun i9 h9 => k224 _ _ (F274 i9 h9) (z_ne (F274 i9 h9) a215 rfl) (z_ne (F274 i9 h9) a219 rfl)
        have F276 : ∀ i9 : Nat, i9 < nn → f1 (pt i9) = some (.inl (cy 1, (ln i9), .inr (.inl (pp i9)))) := fun i9 h9 => k4 _ _ (hP i9 h9) (z_neO (hP i9 h9) x_fa rfl)
        have F277 : ∀ i9 : Nat, i9 < nn → f7 (pt i9) = some (.inl (cy 1, (ln i9), .inr (.inl (pp i9)))) := fun i9 h9 => k9 _ _ (F276 i9 h9) 
        have F278 : ∀ i9 : Nat, i9 < nn → f201 (pt i9) = some (.inl (cy 1, (ln i9), .inr (.inl (pp i9)))) := fun i9 h9 => k203 _ _ (F277 i9 h9) 
        have F279 : ∀ i9 : Nat, i9 < nn → f207 (pt i9) = some (.inl (cy 1, (ln i9), .inr (.inl (pp i9)))) := fun i9 h9 => k209 _ _ (F278 i9 h9) 
        have F280 : ∀ i9 : Nat, i9 < nn → f220 (pt i9) = some (.inl (cy 1, (ln i9), .inr (.inl (pp i9)))) := fun i9 h9 => k224 _ _ (F279 i9 h9) (z_neO (F279 i9 h9) a215 rfl) (z_neA (F279 i9 h9) a219 rfl)
        have F281 : ∀ i9 : Nat, i9 < nf → f1 (fq i9) = some (.inr (3, [.ref (fk i9), .int (nI (fz i9))])) := fun i9 h9 => k4 _ _ (hFq i9 h9) (z_ne (hFq i9 h9) x_fa rfl)
        have F282 : ∀ i9 : Nat, i9 < nf → f7 (fq i9) = some (.inr (3, [.ref (fk i9), .int (nI (fz i9))])) := fun i9 h9 => k9 _ _ (F281 i9 h9) 
        have F283 : ∀ i9 : Nat, i9 < nf → f201 (fq i9) = some (.inr (3, [.ref (fk i9), .int (nI (fz i9))])) := fun i9 h9 => k203 _ _ (F282 i9 h9) 
        have F284 : ∀ i9 : Nat, i9 < nf → f207 (fq i9) = some (.inr (3, [.ref (fk i9), .int (nI (fz i9))])) := fun i9 h9 => k209 _ _ (F283 i9 h9) 
        have F285 : ∀ i9 : Nat, i9 < nf → f220 (fq i9) = some (.inr (3, [.ref (fk i9), .int (nI (fz i9))])) := fun i9 h9 => k224 _ _ (F284 i9 h9) (z_ne (F284 i9 h9) a215 rfl) (z_ne (F284 i9 h9) a219 rfl)
        have F286 : ∀ i9 : Nat, i9 < nf → f1 (fk i9) = some (.inl (cy 0, 4, .inl (fc i9))) := fun i9 h9 => k4 _ _ (hFk i9 h9) (z_ne (hFk i9 h9) x_fa rfl)
        have F287 : ∀ i9 : Nat, i9 < nf → f7 (fk i9) = some (.inl (cy 0, 4, .inl (fc i9))) := fun i9 h9 => k9 _ _ (F286 i9 h9) 
        have F288 : ∀ i9 : Nat, i9 < nf → f201 (fk i9) = some (.inl (cy 0, 4, .inl (fc i9))) := fun i9 h9 => k203 _ _ (F287 i9 h9) 
        have F289 : ∀ i9 : Nat, i9 < nf → f207 (fk i9) = some (.inl (cy 0, 4, .inl (fc i9))) := fun i9 h9 => k209 _ _ (F288 i9 h9) 
        have F290 : ∀ i9 : Nat, i9 < nf → f220 (fk i9) = some (.inl (cy 0, 4, .inl (fc i9))) := fun i9 h9 => k224 _ _ (F289 i9 h9) (z_ne (F289 i9 h9) a215 rfl) (z_ne (F289 i9 h9) a219 rfl)
        have F291 : ∀ i9 : Nat, i9 < nc → f1 (cn i9) = some (.inr (0, [.int (ce i9), .int (cm i9)])) := fun i9 h9 => k4 _ _ (hCn i9 h9) (z_ne (hCn i9 h9) x_fa rfl)
        have F292 : ∀ i9 : Nat, i9 < nc → f7 (cn i9) = some (.inr (0, [.int (ce i9), .int (cm i9)])) := fun i9 h9 => k9 _ _ (F291 i9 h9) 
        have F293 : ∀ i9 : Nat, i9 < nc → f201 (cn i9) = some (.inr (0, [.int (ce i9), .int (cm i9)])) := fun i9 h9 => k203 _ _ (F292 i9 h9) 
        have F294 : ∀ i9 : Nat, i9 < nc → f207 (cn i9) = some (.inr (0, [.int (ce i9), .int (cm i9)])) := fun i9 h9 => k209 _ _ (F293 i9 h9) 
        have F295 : ∀ i9 : Nat, i9 < nc → f220 (cn i9) = some (.inr (0, [.int (ce i9), .int (cm i9)])) := fun i9 h9 => k224 _ _ (F294 i9 h9) (z_ne (F294 i9 h9) a215 rfl) (z_ne (F294 i9 h9) a219 rfl)
        have F296 : ∀ i9 : Nat, i9 < 4 → f1 (ea i9) = some (.inr (1, [.ref (ma i9), .int (nI (sq i9))])) := fun i9 h9 => k4 _ _ (hEa i9 h9) (z_ne (hEa i9 h9) x_fa rfl)
        have F297 : ∀ i9 : Nat, i9 < 4 → f7 (ea i9) = some (.inr (1, [.ref (ma i9), .int (nI (sq i9))])) := fun i9 h9 => k9 _ _ (F296 i9 h9) 
        have F298 : ∀ i9 : Nat, i9 < 4 → f201 (ea i9) = some (.inr (1, [.ref (ma i9), .int (nI (sq i9))])) := fun i9 h9 => k203 _ _ (F297 i9 h9) 
        have F299 : ∀ i9 : Nat, i9 < 4 → f207 (ea i9) = some (.inr (1, [.ref (ma i9), .int (nI (sq i9))])) := fun i9 h9 => k209 _ _ (F298 i9 h9) 
        have F300 : ∀ i9 : Nat, i9 < 4 → f220 (ea i9) = some (.inr (1, [.ref (ma i9), .int (nI (sq i9))])) := fun i9 h9 => k224 _ _ (F299 i9 h9) (z_ne (F299 i9 h9) a215 rfl) (z_ne (F299 i9 h9) a219 rfl)
        have F301 : ∀ i9 : Nat, i9 < 4 → f1 (ma i9) = some (.inl (cy 0, 60, .inl (mb i9))) := fun i9 h9 => k4 _ _ (hMa i9 h9) (z_ne (hMa i9 h9) x_fa rfl)
        have F302 : ∀ i9 : Nat, i9 < 4 → f7 (ma i9) = some (.inl (cy 0, 60, .inl (mb i9))) := fun i9 h9 => k9 _ _ (F301 i9 h9) 
        have F303 : ∀ i9 : Nat, i9 < 4 → f201 (ma i9) = some (.inl (cy 0, 60, .inl (mb i9))) := fun i9 h9 => k203 _ _ (F302 i9 h9) 
        have F304 : ∀ i9 : Nat, i9 < 4 → f207 (ma i9) = some (.inl (cy 0, 60, .inl (mb i9))) := fun i9 h9 => k209 _ _ (F303 i9 h9) 
        have F305 : ∀ i9 : Nat, i9 < 4 → f220 (ma i9) = some (.inl (cy 0, 60, .inl (mb i9))) := fun i9 h9 => k224 _ _ (F304 i9 h9) (z_ne (F304 i9 h9) a215 rfl) (z_ne (F304 i9 h9) a219 rfl)
        have hq : q_pair nn x y = ((-4), 1, 0, 0) := by simp [q_pair, oF_m1 nn, h60, hOlf, hOrt, hNrt, c10, c204, c210, c211]
        exact z_iret C hr rfl hz hS ⟨1, 0, 0, (upd gv 1 (gv 1 + 1)), nl, gu, nn, ga, gr, fg, pt, kd, ln, pp, wg, wd, hs, bf, nf, gf, fq, fk, fz, fc, nc, gc, cn, ce, cm, sq, mb, ks, kk, kv, lk, (by rw [hq]), (by rw [hq]), (by rw [hq]), (by rw [hq]), (by rw [hq]; exact (zEV1 gv).symm), rfl, rfl, (by rw [if_neg (by decide)]), (by rw [if_neg (by decide)]), (by rw [if_neg (by decide)]), (zPP_no (by decide)), (by rw [if_neg (by decide)]), (by rw [if_neg (by decide)]), rfl, rfl, rfl, rfl, rfl, rfl, rfl, rfl, rfl, rfl, rfl, rfl, ⟨a225, a222, a223, a227, a230, a235, a240, a245, a250, a255, a260, a265, a270, F275, F280, F285, F290, F295, F300, F305, hn60, hl12, hf6, hc60, hs40, hga, hgr, hln, hk5, hk4, hfi, hpi, har, hgf, hfz, hgc, hG, hsq, hei, hmi, kne, hca, hcr, hlk⟩⟩ (Nat.le_of_ble_eq_true rfl) (Nat.le_of_ble_eq_true rfl) dX7_pair_59
      · have a306 : f201 fi = some (.inr (5, [.ref al, .ref ra, .int (nI nn)])) := k203 _ _ a198 
        refine z_callVi (As := []) C hz hS hA hl (k_X5_isFull_B l D cy f201 fi al ra nn a306 hn60 h60) zyX5_isFull mMX7_79 a306 zl5 rfl rfl (Nat.le_of_ble_eq_true rfl) ⟨Nat.le_of_ble_eq_true rfl, Nat.le_of_ble_eq_true rfl⟩ ⟨Nat.le_of_ble_eq_true rfl, Nat.le_of_ble_eq_true rfl⟩ dX7_pair_36 (fun r f307 H locs h308 hz hS => ?_)
        obtain ⟨rfl, k309⟩ := h308
        refine lv_if_eq (tgt := 45) hx hb dX7_pair_39 (by decide) (fun c310 => ?_) (fun c310 => ?_)
        · exact absurd c310 (by decide)
        refine lv_bipush (v := (-3)) hx hb dX7_pair_42 (by decide) ?_
        have a311 : f307 o = some (.inr (7, [.ref fa, .ref fi, .ref nu, .int (nI nl), .ref fm, .int (nI nf), .ref co, .int (nI nc), .ref en, .ref ke, .long lk])) := k309 _ _ a205 
        have a312 : f7 fa = some (.inr (2, [.int 0, .int (-1), .int 0, .ref ev])) := k9 _ _ a3 
        have a313 : f201 fa = some (.inr (2, [.int 0, .int (-1), .int 0, .ref ev])) := k203 _ _ a312 
        have a314 : f307 fa = some (.inr (2, [.int 0, .int (-1), .int 0, .ref ev])) := k309 _ _ a313 
        have a315 : f1 ev = some (.inl (cy 0, 8, .inl gv)) := k4 _ _ x_ev (z_ne x_ev x_fa rfl)
        have a316 : f7 ev = some (.inl (cy 0, 8, .inl gv)) := k9 _ _ a315 
        have a317 : f201 ev = some (.inl (cy 0, 8, .inl gv)) := k203 _ _ a316 
        have a318 : f307 ev = some (.inl (cy 0, 8, .inl gv)) := k309 _ _ a317 
        have a319 : f307 fi = some (.inr (5, [.ref al, .ref ra, .int (nI nn)])) := k309 _ _ a306 
        have a320 : f201 al = some (.inl (cy 3, 60, .inr (.inr (.inr (.inr ga))))) := k203 _ _ a200 
        have a321 : f307 al = some (.inl (cy 3, 60, .inr (.inr (.inr (.inr ga))))) := k309 _ _ a320 
        have a322 : f1 ra = some (.inl (cy 3, 60, .inr (.inr (.inr (.inr gr))))) := k4 _ _ x_ra (z_ne x_ra x_fa rfl)
        have a323 : f7 ra = some (.inl (cy 3, 60, .inr (.inr (.inr (.inr gr))))) := k9 _ _ a322 
        have a324 : f201 ra = some (.inl (cy 3, 60, .inr (.inr (.inr (.inr gr))))) := k203 _ _ a323 
        have a325 : f307 ra = some (.inl (cy 3, 60, .inr (.inr (.inr (.inr gr))))) := k309 _ _ a324 
        have a326 : f1 nu = some (.inl (cy 0, 12, .inl gu)) := k4 _ _ x_nu (z_ne x_nu x_fa rfl)
        have a327 : f7 nu = some (.inl (cy 0, 12, .inl gu)) := k9 _ _ a326 
        have a328 : f201 nu = some (.inl (cy 0, 12, .inl gu)) := k203 _ _ a327 
        have a329 : f307 nu = some (.inl (cy 0, 12, .inl gu)) := k309 _ _ a328 
        have a330 : f1 fm = some (.inl (cy 4, 6, .inr (.inr (.inr (.inr gf))))) := k4 _ _ x_fm (z_ne x_fm x_fa rfl)
        have a331 : f7 fm = some (.inl (cy 4, 6, .inr (.inr (.inr (.inr gf))))) := k9 _ _ a330 
        have a332 : f201 fm = some (.inl (cy 4, 6, .inr (.inr (.inr (.inr gf))))) := k203 _ _ a331 
        have a333 : f307 fm = some (.inl (cy 4, 6, .inr (.inr (.inr (.inr gf))))) := k309 _ _ a332 
        have a334 : f1 co = some (.inl (cy 5, 60, .inr (.inr (.inr (.inr gc))))) := k4 _ _ x_co (z_ne x_co x_fa rfl)
        have a335 : f7 co = some (.inl (cy 5, 60, .inr (.inr (.inr (.inr gc))))) := k9 _ _ a334 
        have a336 : f201 co = some (.inl (cy 5, 60, .inr (.inr (.inr (.inr gc))))) := k203 _ _ a335 
        have a337 : f307 co = some (.inl (cy 5, 60, .inr (.inr (.inr (.inr gc))))) := k309 _ _ a336 
        have a338 : f1 en = some (.inl (cy 6, 4, .inr (.inr (.inr (.inr ge))))) := k4 _ _ x_en (z_ne x_en x_fa rfl)
        have a339 : f7 en = some (.inl (cy 6, 4, .inr (.inr (.inr (.inr ge))))) := k9 _ _ a338 
        have a340 : f201 en = some (.inl (cy 6, 4, .inr (.inr (.inr (.inr ge))))) := k203 _ _ a339 
        have a341 : f307 en = some (.inl (cy 6, 4, .inr (.inr (.inr (.inr ge))))) := k309 _ _ a340 
        have a342 : f1 ke = some (.inr (6, [.ref kn, .ref vq, .int (nI ks)])) := k4 _ _ x_ke (z_ne x_ke x_fa rfl)
        have a343 : f7 ke = some (.inr (6, [.ref kn, .ref vq, .int (nI ks)])) := k9 _ _ a342 
        have a344 : f201 ke = some (.inr (6, [.ref kn, .ref vq, .int (nI ks)])) := k203 _ _ a343 
        have a345 : f307 ke = some (.inr (6, [.ref kn, .ref vq, .int (nI ks)])) := k309 _ _ a344 
        have a346 : f1 kn = some (.inl (cy 0, 40, .inl kk)) := k4 _ _ x_kn (z_ne x_kn x_fa rfl)
        have a347 : f7 kn = some (.inl (cy 0, 40, .inl kk)) := k9 _ _ a346 
        have a348 : f201 kn = some (.inl (cy 0, 40, .inl kk)) := k203 _ _ a347 
        have a349 : f307 kn = some (.inl (cy 0, 40, .inl kk)) := k309 _ _ a348 
        have a350 : f1 vq = some (.inl (cy 0, 40, .inl kv)) := k4 _ _ x_vq (z_ne x_vq x_fa rfl)
        have a351 : f7 vq = some (.inl (cy 0, 40, .inl kv)) := k9 _ _ a350 
        have a352 : f201 vq = some (.inl (cy 0, 40, .inl kv)) := k203 _ _ a351 
        have a353 : f307 vq = some (.inl (cy 0, 40, .inl kv)) := k309 _ _ a352 
        have F354 : ∀ i9 : Nat, i9 < nn → f1 (fg i9) = some (.inr (4, [.int (kd i9), .ref (pt i9), .long (wg i9), .int (wd i9), .int (nI i9), .int (hs i9), .int (bf i9)])) := fun i9 h9 => k4 _ _ (hF i9 h9) (z_ne (hF i9 h9) x_fa rfl)
        have F355 : ∀ i9 : Nat, i9 < nn → f7 (fg i9) = some (.inr (4, [.int (kd i9), .ref (pt i9), .long (wg i9), .int (wd i9), .int (nI i9), .int (hs i9), .int (bf i9)])) := fun i9 h9 => k9 _ _ (F354 i9 h9) 
        have F356 : ∀ i9 : Nat, i9 < nn → f201 (fg i9) = some (.inr (4, [.int (kd i9), .ref (pt i9), .long (wg i9), .int (wd i9), .int (nI i9), .int (hs i9), .int (bf i9)])) := fun i9 h9 => k203 _ _ (F355 i9 h9) 
        have F357 : ∀ i9 : Nat, i9 < nn → f307 (fg i9) = some (.inr (4, [.int (kd i9), .ref (pt i9), .long (wg i9), .int (wd i9), .int (nI i9), .int (hs i9), .int (bf i9)])) := fun i9 h9 => k309 _ _ (F356 i9 h9) 
        have F358 : ∀ i9 : Nat, i9 < nn → f1 (pt i9) = some (.inl (cy 1, (ln i9), .inr (.inl (pp i9)))) := fun i9 h9 => k4 _ _ (hP i9 h9) (z_neO (hP i9 h9) x_fa rfl)
        have F359 : ∀ i9 : Nat, i9 < nn → f7 (pt i9) = some (.inl (cy 1, (ln i9), .inr (.inl (pp i9)))) := fun i9 h9 => k9 _ _ (F358 i9 h9) 
        have F360 : ∀ i9 : Nat, i9 < nn → f201 (pt i9) = some (.inl (cy 1, (ln i9), .inr (.inl (pp i9)))) := fun i9 h9 => k203 _ _ (F359 i9 h9) 
        have F361 : ∀ i9 : Nat, i9 < nn → f307 (pt i9) = some (.inl (cy 1, (ln i9), .inr (.inl (pp i9)))) := fun i9 h9 => k309 _ _ (F360 i9 h9) 
        have F362 : ∀ i9 : Nat, i9 < nf → f1 (fq i9) = some (.inr (3, [.ref (fk i9), .int (nI (fz i9))])) := fun i9 h9 => k4 _ _ (hFq i9 h9) (z_ne (hFq i9 h9) x_fa rfl)
        have F363 : ∀ i9 : Nat, i9 < nf → f7 (fq i9) = some (.inr (3, [.ref (fk i9), .int (nI (fz i9))])) := fun i9 h9 => k9 _ _ (F362 i9 h9) 
        have F364 : ∀ i9 : Nat, i9 < nf → f201 (fq i9) = some (.inr (3, [.ref (fk i9), .int (nI (fz i9))])) := fun i9 h9 => k203 _ _ (F363 i9 h9) 
        have F365 : ∀ i9 : Nat, i9 < nf → f307 (fq i9) = some (.inr (3, [.ref (fk i9), .int (nI (fz i9))])) := fun i9 h9 => k309 _ _ (F364 i9 h9) 
        have F366 : ∀ i9 : Nat, i9 < nf → f1 (fk i9) = some (.inl (cy 0, 4, .inl (fc i9))) := fun i9 h9 => k4 _ _ (hFk i9 h9) (z_ne (hFk i9 h9) x_fa rfl)
        have F367 : ∀ i9 : Nat, i9 < nf → f7 (fk i9) = some (.inl (cy 0, 4, .inl (fc i9))) := fun i9 h9 => k9 _ _ (F366 i9 h9) 
        have F368 : ∀ i9 : Nat, i9 < nf → f201 (fk i9) = some (.inl (cy 0, 4, .inl (fc i9))) := fun i9 h9 => k203 _ _ (F367 i9 h9) 
        have F369 : ∀ i9 : Nat, i9 < nf → f307 (fk i9) = some (.inl (cy 0, 4, .inl (fc i9))) := fun i9 h9 => k309 _ _ (F368 i9 h9) 
        have F370 : ∀ i9 : Nat, i9 < nc → f1 (cn i9) = some (.inr (0, [.int (ce i9), .int (cm i9)])) := fun i9 h9 => k4 _ _ (hCn i9 h9) (z_ne (hCn i9 h9) x_fa rfl)
        have F371 : ∀ i9 : Nat, i9 < nc → f7 (cn i9) = some (.inr (0, [.int (ce i9), .int (cm i9)])) := fun i9 h9 => k9 _ _ (F370 i9 h9) 
        have F372 : ∀ i9 : Nat, i9 < nc → f201 (cn i9) = some (.inr (0, [.int (ce i9), .int (cm i9)])) := fun i9 h9 => k203 _ _ (F371 i9 h9) 
        have F373 : ∀ i9 : Nat, i9 < nc → f307 (cn i9) = some (.inr (0, [.int (ce i9), .int (cm i9)])) := fun i9 h9 => k309 _ _ (F372 i9 h9) 
        have F374 : ∀ i9 : Nat, i9 < 4 → f1 (ea i9) = some (.inr (1, [.ref (ma i9), .int (nI (sq i9))])) := fun i9 h9 => k4 _ _ (hEa i9 h9) (z_ne (hEa i9 h9) x_fa rfl)
        have F375 : ∀ i9 : Nat, i9 < 4 → f7 (ea i9) = some (.inr (1, [.ref (ma i9), .int (nI (sq i9))])) := fun i9 h9 => k9 _ _ (F374 i9 h9) 
        have F376 : ∀ i9 : Nat, i9 < 4 → f201 (ea i9) = some (.inr (1, [.ref (ma i9), .int (nI (sq i9))])) := fun i9 h9 => k203 _ _ (F375 i9 h9) 
        have F377 : ∀ i9 : Nat, i9 < 4 → f307 (ea i9) = some (.inr (1, [.ref (ma i9), .int (nI (sq i9))])) := fun i9 h9 => k309 _ _ (F376 i9 h9) 
        have F378 : ∀ i9 : Nat, i9 < 4 → f1 (ma i9) = some (.inl (cy 0, 60, .inl (mb i9))) := fun i9 h9 => k4 _ _ (hMa i9 h9) (z_ne (hMa i9 h9) x_fa rfl)
        have F379 : ∀ i9 : Nat, i9 < 4 → f7 (ma i9) = some (.inl (cy 0, 60, .inl (mb i9))) := fun i9 h9 => k9 _ _ (F378 i9 h9) 
        have F380 : ∀ i9 : Nat, i9 < 4 → f201 (ma i9) = some (.inl (cy 0, 60, .inl (mb i9))) := fun i9 h9 => k203 _ _ (F379 i9 h9) 
        have F381 : ∀ i9 : Nat, i9 < 4 → f307 (ma i9) = some (.inl (cy 0, 60, .inl (mb i9))) := fun i9 h9 => k309 _ _ (F380 i9 h9) 
        have hq : q_pair nn x y = ((-3), 0, (-1), 0) := by simp [q_pair, oF_m1 nn, h60, hOlf, hOrt, hNrt, c10, c204, c310]
        exact z_iret C hr rfl hz hS ⟨0, (-1), 0, gv, nl, gu, nn, ga, gr, fg, pt, kd, ln, pp, wg, wd, hs, bf, nf, gf, fq, fk, fz, fc, nc, gc, cn, ce, cm, sq, mb, ks, kk, kv, lk, (by rw [hq]), (by rw [hq]), (by rw [hq]), (by rw [hq]), (by rw [hq]; exact (zEV0 gv).symm), rfl, rfl, (by rw [if_neg (by decide)]), (by rw [if_neg (by decide)]), (by rw [if_neg (by decide)]), (zPP_no (by decide)), (by rw [if_neg (by decide)]), (by rw [if_neg (by decide)]), rfl, rfl, rfl, rfl, rfl, rfl, rfl, rfl, rfl, rfl, rfl, rfl, ⟨a311, a314, a318, a319, a321, a325, a329, a333, a337, a341, a345, a349, a353, F357, F361, F365, F369, F373, F377, F381, hn60, hl12, hf6, hc60, hs40, hga, hgr, hln, hk5, hk4, hfi, hpi, har, hgf, hfz, hgc, hG, hsq, hei, hmi, kne, hca, hcr, hlk⟩⟩ (Nat.le_of_ble_eq_true rfl) (Nat.le_of_ble_eq_true rfl) dX7_pair_44
    · have hOrt : oF nn y = false := oF_f hn60 hrt hrt2
      have a382 : f7 fi = some (.inr (5, [.ref al, .ref ra, .int (nI nn)])) := k9 _ _ a6 
      refine z_callVi (As := [.int y]) C hz hS hA hl (k_X5_hasOrNone_B l D cy f7 fi al ra nn y a382 hrt hrt2 hn60) zyX5_hasOrNone mMX7_112 a382 zl5 rfl rfl (Nat.le_of_ble_eq_true rfl) ⟨Nat.le_of_ble_eq_true rfl, Nat.le_of_ble_eq_true rfl⟩ ⟨Nat.le_of_ble_eq_true rfl, Nat.le_of_ble_eq_true rfl⟩ dX7_pair_23 (fun r f383 H locs h384 hz hS => ?_)
      obtain ⟨rfl, k385⟩ := h384
      refine lv_if_ne (tgt := 32) hx hb dX7_pair_26 (by decide) (fun c386 => ?_) (fun c386 => ?_)
      · exact absurd c386 (by decide)
      refine lv_bipush (v := (-2)) hx hb dX7_pair_29 (by decide) ?_
      have a387 : f383 o = some (.inr (7, [.ref fa, .ref fi, .ref nu, .int (nI nl), .ref fm, .int (nI nf), .ref co, .int (nI nc), .ref en, .ref ke, .long lk])) := k385 _ _ a11 
      have a388 : f7 fa = some (.inr (2, [.int 0, .int (-1), .int 0, .ref ev])) := k9 _ _ a3 
      have a389 : f383 fa = some (.inr (2, [.int 0, .int (-1), .int 0, .ref ev])) := k385 _ _ a388 
      have a390 : f1 ev = some (.inl (cy 0, 8, .inl gv)) := k4 _ _ x_ev (z_ne x_ev x_fa rfl)
      have a391 : f7 ev = some (.inl (cy 0, 8, .inl gv)) := k9 _ _ a390 
      have a392 : f383 ev = some (.inl (cy 0, 8, .inl gv)) := k385 _ _ a391 
      have a393 : f383 fi = some (.inr (5, [.ref al, .ref ra, .int (nI nn)])) := k385 _ _ a382 
      have a394 : f1 al = some (.inl (cy 3, 60, .inr (.inr (.inr (.inr ga))))) := k4 _ _ x_al (z_ne x_al x_fa rfl)
      have a395 : f7 al = some (.inl (cy 3, 60, .inr (.inr (.inr (.inr ga))))) := k9 _ _ a394 
      have a396 : f383 al = some (.inl (cy 3, 60, .inr (.inr (.inr (.inr ga))))) := k385 _ _ a395 
      have a397 : f1 ra = some (.inl (cy 3, 60, .inr (.inr (.inr (.inr gr))))) := k4 _ _ x_ra (z_ne x_ra x_fa rfl)
      have a398 : f7 ra = some (.inl (cy 3, 60, .inr (.inr (.inr (.inr gr))))) := k9 _ _ a397 
      have a399 : f383 ra = some (.inl (cy 3, 60, .inr (.inr (.inr (.inr gr))))) := k385 _ _ a398 
      have a400 : f1 nu = some (.inl (cy 0, 12, .inl gu)) := k4 _ _ x_nu (z_ne x_nu x_fa rfl)
      have a401 : f7 nu = some (.inl (cy 0, 12, .inl gu)) := k9 _ _ a400 
      have a402 : f383 nu = some (.inl (cy 0, 12, .inl gu)) := k385 _ _ a401 
      have a403 : f1 fm = some (.inl (cy 4, 6, .inr (.inr (.inr (.inr gf))))) := k4 _ _ x_fm (z_ne x_fm x_fa rfl)
      have a404 : f7 fm = some (.inl (cy 4, 6, .inr (.inr (.inr (.inr gf))))) := k9 _ _ a403 
      have a405 : f383 fm = some (.inl (cy 4, 6, .inr (.inr (.inr (.inr gf))))) := k385 _ _ a404 
      have a406 : f1 co = some (.inl (cy 5, 60, .inr (.inr (.inr (.inr gc))))) := k4 _ _ x_co (z_ne x_co x_fa rfl)
      have a407 : f7 co = some (.inl (cy 5, 60, .inr (.inr (.inr (.inr gc))))) := k9 _ _ a406 
      have a408 : f383 co = some (.inl (cy 5, 60, .inr (.inr (.inr (.inr gc))))) := k385 _ _ a407 
      have a409 : f1 en = some (.inl (cy 6, 4, .inr (.inr (.inr (.inr ge))))) := k4 _ _ x_en (z_ne x_en x_fa rfl)
      have a410 : f7 en = some (.inl (cy 6, 4, .inr (.inr (.inr (.inr ge))))) := k9 _ _ a409 
      have a411 : f383 en = some (.inl (cy 6, 4, .inr (.inr (.inr (.inr ge))))) := k385 _ _ a410 
      have a412 : f1 ke = some (.inr (6, [.ref kn, .ref vq, .int (nI ks)])) := k4 _ _ x_ke (z_ne x_ke x_fa rfl)
      have a413 : f7 ke = some (.inr (6, [.ref kn, .ref vq, .int (nI ks)])) := k9 _ _ a412 
      have a414 : f383 ke = some (.inr (6, [.ref kn, .ref vq, .int (nI ks)])) := k385 _ _ a413 
      have a415 : f1 kn = some (.inl (cy 0, 40, .inl kk)) := k4 _ _ x_kn (z_ne x_kn x_fa rfl)
      have a416 : f7 kn = some (.inl (cy 0, 40, .inl kk)) := k9 _ _ a415 
      have a417 : f383 kn = some (.inl (cy 0, 40, .inl kk)) := k385 _ _ a416 
      have a418 : f1 vq = some (.inl (cy 0, 40, .inl kv)) := k4 _ _ x_vq (z_ne x_vq x_fa rfl)
      have a419 : f7 vq = some (.inl (cy 0, 40, .inl kv)) := k9 _ _ a418 
      have a420 : f383 vq = some (.inl (cy 0, 40, .inl kv)) := k385 _ _ a419 
      have F421 : ∀ i9 : Nat, i9 < nn → f1 (fg i9) = some (.inr (4, [.int (kd i9), .ref (pt i9), .long (wg i9), .int (wd i9), .int (nI i9), .int (hs i9), .int (bf i9)])) := fun i9 h9 => k4 _ _ (hF i9 h9) (z_ne (hF i9 h9) x_fa rfl)
      have F422 : ∀ i9 : Nat, i9 < nn → f7 (fg i9) = some (.inr (4, [.int (kd i9), .ref (pt i9), .long (wg i9), .int (wd i9), .int (nI i9), .int (hs i9), .int (bf i9)])) := fun i9 h9 => k9 _ _ (F421 i9 h9) 
      have F423 : ∀ i9 : Nat, i9 < nn → f383 (fg i9) = some (.inr (4, [.int (kd i9), .ref (pt i9), .long (wg i9), .int (wd i9), .int (nI i9), .int (hs i9), .int (bf i9)])) := fun i9 h9 => k385 _ _ (F422 i9 h9) 
      have F424 : ∀ i9 : Nat, i9 < nn → f1 (pt i9) = some (.inl (cy 1, (ln i9), .inr (.inl (pp i9)))) := fun i9 h9 => k4 _ _ (hP i9 h9) (z_neO (hP i9 h9) x_fa rfl)
      have F425 : ∀ i9 : Nat, i9 < nn → f7 (pt i9) = some (.inl (cy 1, (ln i9), .inr (.inl (pp i9)))) := fun i9 h9 => k9 _ _ (F424 i9 h9) 
      have F426 : ∀ i9 : Nat, i9 < nn → f383 (pt i9) = some (.inl (cy 1, (ln i9), .inr (.inl (pp i9)))) := fun i9 h9 => k385 _ _ (F425 i9 h9) 
      have F427 : ∀ i9 : Nat, i9 < nf → f1 (fq i9) = some (.inr (3, [.ref (fk i9), .int (nI (fz i9))])) := fun i9 h9 => k4 _ _ (hFq i9 h9) (z_ne (hFq i9 h9) x_fa rfl)
      have F428 : ∀ i9 : Nat, i9 < nf → f7 (fq i9) = some (.inr (3, [.ref (fk i9), .int (nI (fz i9))])) := fun i9 h9 => k9 _ _ (F427 i9 h9) 
      have F429 : ∀ i9 : Nat, i9 < nf → f383 (fq i9) = some (.inr (3, [.ref (fk i9), .int (nI (fz i9))])) := fun i9 h9 => k385 _ _ (F428 i9 h9) 
      have F430 : ∀ i9 : Nat, i9 < nf → f1 (fk i9) = some (.inl (cy 0, 4, .inl (fc i9))) := fun i9 h9 => k4 _ _ (hFk i9 h9) (z_ne (hFk i9 h9) x_fa rfl)
      have F431 : ∀ i9 : Nat, i9 < nf → f7 (fk i9) = some (.inl (cy 0, 4, .inl (fc i9))) := fun i9 h9 => k9 _ _ (F430 i9 h9) 
      have F432 : ∀ i9 : Nat, i9 < nf → f383 (fk i9) = some (.inl (cy 0, 4, .inl (fc i9))) := fun i9 h9 => k385 _ _ (F431 i9 h9) 
      have F433 : ∀ i9 : Nat, i9 < nc → f1 (cn i9) = some (.inr (0, [.int (ce i9), .int (cm i9)])) := fun i9 h9 => k4 _ _ (hCn i9 h9) (z_ne (hCn i9 h9) x_fa rfl)
      have F434 : ∀ i9 : Nat, i9 < nc → f7 (cn i9) = some (.inr (0, [.int (ce i9), .int (cm i9)])) := fun i9 h9 => k9 _ _ (F433 i9 h9) 
      have F435 : ∀ i9 : Nat, i9 < nc → f383 (cn i9) = some (.inr (0, [.int (ce i9), .int (cm i9)])) := fun i9 h9 => k385 _ _ (F434 i9 h9) 
      have F436 : ∀ i9 : Nat, i9 < 4 → f1 (ea i9) = some (.inr (1, [.ref (ma i9), .int (nI (sq i9))])) := fun i9 h9 => k4 _ _ (hEa i9 h9) (z_ne (hEa i9 h9) x_fa rfl)
      have F437 : ∀ i9 : Nat, i9 < 4 → f7 (ea i9) = some (.inr (1, [.ref (ma i9), .int (nI (sq i9))])) := fun i9 h9 => k9 _ _ (F436 i9 h9) 
      have F438 : ∀ i9 : Nat, i9 < 4 → f383 (ea i9) = some (.inr (1, [.ref (ma i9), .int (nI (sq i9))])) := fun i9 h9 => k385 _ _ (F437 i9 h9) 
      have F439 : ∀ i9 : Nat, i9 < 4 → f1 (ma i9) = some (.inl (cy 0, 60, .inl (mb i9))) := fun i9 h9 => k4 _ _ (hMa i9 h9) (z_ne (hMa i9 h9) x_fa rfl)
      have F440 : ∀ i9 : Nat, i9 < 4 → f7 (ma i9) = some (.inl (cy 0, 60, .inl (mb i9))) := fun i9 h9 => k9 _ _ (F439 i9 h9) 
      have F441 : ∀ i9 : Nat, i9 < 4 → f383 (ma i9) = some (.inl (cy 0, 60, .inl (mb i9))) := fun i9 h9 => k385 _ _ (F440 i9 h9) 
      have hq : q_pair nn x y = ((-2), 0, (-1), 0) := by simp [q_pair, oF_m1 nn, hOlf, hOrt, c10, c386]
      exact z_iret C hr rfl hz hS ⟨0, (-1), 0, gv, nl, gu, nn, ga, gr, fg, pt, kd, ln, pp, wg, wd, hs, bf, nf, gf, fq, fk, fz, fc, nc, gc, cn, ce, cm, sq, mb, ks, kk, kv, lk, (by rw [hq]), (by rw [hq]), (by rw [hq]), (by rw [hq]), (by rw [hq]; exact (zEV0 gv).symm), rfl, rfl, (by rw [if_neg (by decide)]), (by rw [if_neg (by decide)]), (by rw [if_neg (by decide)]), (zPP_no (by decide)), (by rw [if_neg (by decide)]), (by rw [if_neg (by decide)]), rfl, rfl, rfl, rfl, rfl, rfl, rfl, rfl, rfl, rfl, rfl, rfl, ⟨a387, a389, a392, a393, a396, a399, a402, a405, a408, a411, a414, a417, a420, F423, F426, F429, F432, F435, F438, F441, hn60, hl12, hf6, hc60, hs40, hga, hgr, hln, hk5, hk4, hfi, hpi, har, hgf, hfz, hgc, hG, hsq, hei, hmi, kne, hca, hcr, hlk⟩⟩ (Nat.le_of_ble_eq_true rfl) (Nat.le_of_ble_eq_true rfl) dX7_pair_31
  · have hOlf : oF nn x = true := oF_t hn60 hjl hlf
    have hNlf : ¬ x = (-1) := by rw [hlf]; exact z_nim1 (by omega)
    have a442 : f1 fi = some (.inr (5, [.ref al, .ref ra, .int (nI nn)])) := k4 _ _ x_fi (z_ne x_fi x_fa rfl)
    have a443 : f1 al = some (.inl (cy 3, 60, .inr (.inr (.inr (.inr ga))))) := k4 _ _ x_al (z_ne x_al x_fa rfl)
    refine z_callVi (As := [.int x]) C hz hS hA hl (k_X5_hasOrNone_A l D cy f1 fi al ra ga nn fg jl x a442 a443 hlf hjl hn60 hga) zyX5_hasOrNone mMX7_112 a442 zl5 rfl rfl (Nat.le_of_ble_eq_true rfl) ⟨Nat.le_of_ble_eq_true rfl, Nat.le_of_ble_eq_true rfl⟩ ⟨Nat.le_of_ble_eq_true rfl, Nat.le_of_ble_eq_true rfl⟩ dX7_pair_12 (fun r f444 H locs h445 hz hS => ?_)
    obtain ⟨rfl, k446⟩ := h445
    refine lv_if_eq (tgt := 29) hx hb dX7_pair_15 (by decide) (fun c447 => ?_) (fun c447 => ?_)
    · exact absurd c447 (by decide)
    refine lv_aload_n hx hb dX7_pair_18 rfl (lv_at hl 0 rfl) ?_
    have a448 : f444 o = some (.inr (7, [.ref fa, .ref fi, .ref nu, .int (nI nl), .ref fm, .int (nI nf), .ref co, .int (nI nc), .ref en, .ref ke, .long lk])) := k446 _ _ a5 
    refine z_get (v := .ref fi) C hz a448 zl7 mFX7_19 (by decide) rfl dX7_pair_19 ?_
    refine lv_iload_n hx hb dX7_pair_22 rfl (lv_at hl 2 rfl) ?_
    rcases z_hon y nn with hrt | ⟨jr, hjr, hrt⟩ | ⟨hrt, hrt2⟩
    · have hOrt : oF nn y = true := oF_m hrt
      have a449 : f444 fi = some (.inr (5, [.ref al, .ref ra, .int (nI nn)])) := k446 _ _ a442 
      refine z_callVi (As := [.int y]) C hz hS hA hl (k_X5_hasOrNone_N l D cy f444 fi al ra nn y a449 hrt) zyX5_hasOrNone mMX7_112 a449 zl5 rfl rfl (Nat.le_of_ble_eq_true rfl) ⟨Nat.le_of_ble_eq_true rfl, Nat.le_of_ble_eq_true rfl⟩ ⟨Nat.le_of_ble_eq_true rfl, Nat.le_of_ble_eq_true rfl⟩ dX7_pair_23 (fun r f450 H locs h451 hz hS => ?_)
      obtain ⟨rfl, k452⟩ := h451
      refine lv_if_ne (tgt := 32) hx hb dX7_pair_26 (by decide) (fun c453 => ?_) (fun c453 => ?_)
      rotate_left
      · exact absurd c453 (by decide)
      refine lv_aload_n hx hb dX7_pair_32 rfl (lv_at hl 0 rfl) ?_
      have a454 : f450 o = some (.inr (7, [.ref fa, .ref fi, .ref nu, .int (nI nl), .ref fm, .int (nI nf), .ref co, .int (nI nc), .ref en, .ref ke, .long lk])) := k452 _ _ a448 
      refine z_get (v := .ref fi) C hz a454 zl7 mFX7_19 (by decide) rfl dX7_pair_33 ?_
      by_cases h60 : nn < 60
      · have a455 : f450 fi = some (.inr (5, [.ref al, .ref ra, .int (nI nn)])) := k452 _ _ a449 
        refine z_callVi (As := []) C hz hS hA hl (k_X5_isFull_A l D cy f450 fi al ra nn a455 hn60 h60) zyX5_isFull mMX7_79 a455 zl5 rfl rfl (Nat.le_of_ble_eq_true rfl) ⟨Nat.le_of_ble_eq_true rfl, Nat.le_of_ble_eq_true rfl⟩ ⟨Nat.le_of_ble_eq_true rfl, Nat.le_of_ble_eq_true rfl⟩ dX7_pair_36 (fun r f456 H locs h457 hz hS => ?_)
        obtain ⟨rfl, k458⟩ := h457
        refine lv_if_eq (tgt := 45) hx hb dX7_pair_39 (by decide) (fun c459 => ?_) (fun c459 => ?_)
        rotate_left
        · exact absurd c459 (by decide)
        refine lv_iload_n hx hb dX7_pair_45 rfl (lv_at hl 1 rfl) ?_
        refine lv_iconst (v := (-1)) hx hb dX7_pair_46 (by decide) ?_
        refine lv_icmp_ne (tgt := 60) hx hb dX7_pair_47 (by decide) (fun c460 => ?_) (fun c460 => ?_)
        rotate_left
        · exact absurd c460 hNlf
        refine lv_aload_n hx hb dX7_pair_60 rfl (lv_at hl 0 rfl) ?_
        have a461 : f456 o = some (.inr (7, [.ref fa, .ref fi, .ref nu, .int (nI nl), .ref fm, .int (nI nf), .ref co, .int (nI nc), .ref en, .ref ke, .long lk])) := k458 _ _ a454 
        refine z_get (v := .ref fi) C hz a461 zl7 mFX7_19 (by decide) rfl dX7_pair_61 ?_
        refine z_new (fs := [.int 0, .null, .long 0, .int 0, .int 0, .int 0, .int 0]) C hz hS hA zl4 mLX7_83 mIa_RX4 mIn_RX4 (by decide +kernel) (Nat.le_of_ble_eq_true rfl) (Nat.le_of_ble_eq_true rfl) dX7_pair_64 (fun q462 H f464 u463 a465 k466 hz hS => ?_)
        refine lv_dup hx hb dX7_pair_67 rfl ?_
        refine lv_iconst (v := 4) hx hb dX7_pair_68 (by decide) ?_
        refine lv_iconst (v := 2) hx hb dX7_pair_69 (by decide) ?_
        refine z_newa (atype := .long) (t0 := 1) (N' := 2) (x := (.inr (.inl (fun _ => 0)))) C hz hS hA rfl mA_long rfl (fun _ => rfl) (by decide) (Nat.le_of_ble_eq_true rfl) (by decide) (Nat.le_of_ble_eq_true rfl) (Nat.le_of_ble_eq_true rfl) dX7_pair_70 (fun q467 H f469 u468 a470 k471 hz hS => ?_)
        refine lv_dup hx hb dX7_pair_72 rfl ?_
        refine lv_iconst (v := 0) hx hb dX7_pair_73 (by decide) ?_
        refine lv_iload_n hx hb dX7_pair_74 rfl (lv_at hl 1 rfl) ?_
        refine lv_i2l (v := x.toInt64) hx hb dX7_pair_75 rfl ?_
        refine z_last 0 C hz hS a470 (by decide) (Nat.le_of_ble_eq_true rfl) (by omega) dX7_pair_76 (fun H locs f472 a473 k474 hz hS => ?_)
        refine lv_dup hx hb dX7_pair_77 rfl ?_
        refine lv_iconst (v := 1) hx hb dX7_pair_78 (by decide) ?_
        refine lv_iload_n hx hb dX7_pair_79 rfl (lv_at hl 2 rfl) ?_
        refine lv_i2l (v := y.toInt64) hx hb dX7_pair_80 rfl ?_
        refine z_last 1 C hz hS a473 (by decide) (Nat.le_of_ble_eq_true rfl) (by omega) dX7_pair_81 (fun H locs f475 a476 k477 hz hS => ?_)
        refine lv_lconst (v := 0) hx hb dX7_pair_82 (by decide) ?_
        have a478 : f469 q462 = some (.inr (4, [.int 0, .null, .long 0, .int 0, .int 0, .int 0, .int 0])) := (k471 _ (z_nn u468 a465)).trans a465
        have a479 : f472 q462 = some (.inr (4, [.int 0, .null, .long 0, .int 0, .int 0, .int 0, .int 0])) := (k474 _ (z_nn u468 a465)).trans a478
        have a480 : f475 q462 = some (.inr (4, [.int 0, .null, .long 0, .int 0, .int 0, .int 0, .int 0])) := (k477 _ (z_nn u468 a465)).trans a479
        refine z_callIv (ret := none) (As := [.int 4, .ref q467, .long 0]) C hz hS hA hl (k_X4_init l D cy f475 q462 4 q467 0 a480 ) zyX4_init mMX7_89 rfl rfl (Nat.le_of_ble_eq_true rfl) ⟨Nat.le_of_ble_eq_true rfl, Nat.le_of_ble_eq_true rfl⟩ ⟨Nat.le_of_ble_eq_true rfl, Nat.le_of_ble_eq_true rfl⟩ dX7_pair_83 (fun  f481 H locs h482 hz hS => ?_)
        obtain ⟨a483, k484⟩ := h482
        have a485 : f456 fi = some (.inr (5, [.ref al, .ref ra, .int (nI nn)])) := k458 _ _ a455 
        have a486 : f464 fi = some (.inr (5, [.ref al, .ref ra, .int (nI nn)])) := (k466 _ (z_nn u463 a485)).trans a485
        have a487 : f469 fi = some (.inr (5, [.ref al, .ref ra, .int (nI nn)])) := (k471 _ (z_nn u468 a486)).trans a486
        have a488 : f472 fi = some (.inr (5, [.ref al, .ref ra, .int (nI nn)])) := (k474 _ (z_nn u468 a486)).trans a487
        have a489 : f475 fi = some (.inr (5, [.ref al, .ref ra, .int (nI nn)])) := (k477 _ (z_nn u468 a486)).trans a488
        have a490 : f481 fi = some (.inr (5, [.ref al, .ref ra, .int (nI nn)])) := k484 _ _ a489 (z_nn u463 a485)
        have a491 : f444 al = some (.inl (cy 3, 60, .inr (.inr (.inr (.inr ga))))) := k446 _ _ a443 
        have a492 : f450 al = some (.inl (cy 3, 60, .inr (.inr (.inr (.inr ga))))) := k452 _ _ a491 
        have a493 : f456 al = some (.inl (cy 3, 60, .inr (.inr (.inr (.inr ga))))) := k458 _ _ a492 
        have a494 : f464 al = some (.inl (cy 3, 60, .inr (.inr (.inr (.inr ga))))) := (k466 _ (z_nn u463 a493)).trans a493
        have a495 : f469 al = some (.inl (cy 3, 60, .inr (.inr (.inr (.inr ga))))) := (k471 _ (z_nn u468 a494)).trans a494
        have a496 : f472 al = some (.inl (cy 3, 60, .inr (.inr (.inr (.inr ga))))) := (k474 _ (z_nn u468 a494)).trans a495
        have a497 : f475 al = some (.inl (cy 3, 60, .inr (.inr (.inr (.inr ga))))) := (k477 _ (z_nn u468 a494)).trans a496
        have a498 : f481 al = some (.inl (cy 3, 60, .inr (.inr (.inr (.inr ga))))) := k484 _ _ a497 (z_nn u463 a493)
        have a499 : f1 ra = some (.inl (cy 3, 60, .inr (.inr (.inr (.inr gr))))) := k4 _ _ x_ra (z_ne x_ra x_fa rfl)
        have a500 : f444 ra = some (.inl (cy 3, 60, .inr (.inr (.inr (.inr gr))))) := k446 _ _ a499 
        have a501 : f450 ra = some (.inl (cy 3, 60, .inr (.inr (.inr (.inr gr))))) := k452 _ _ a500 
        have a502 : f456 ra = some (.inl (cy 3, 60, .inr (.inr (.inr (.inr gr))))) := k458 _ _ a501 
        have a503 : f464 ra = some (.inl (cy 3, 60, .inr (.inr (.inr (.inr gr))))) := (k466 _ (z_nn u463 a502)).trans a502
        have a504 : f469 ra = some (.inl (cy 3, 60, .inr (.inr (.inr (.inr gr))))) := (k471 _ (z_nn u468 a503)).trans a503
        have a505 : f472 ra = some (.inl (cy 3, 60, .inr (.inr (.inr (.inr gr))))) := (k474 _ (z_nn u468 a503)).trans a504
        have a506 : f475 ra = some (.inl (cy 3, 60, .inr (.inr (.inr (.inr gr))))) := (k477 _ (z_nn u468 a503)).trans a505
        have a507 : f481 ra = some (.inl (cy 3, 60, .inr (.inr (.inr (.inr gr))))) := k484 _ _ a506 (z_nn u463 a502)
        have a508 : f481 q467 = some (.inl (cy 1, 2, .inr (.inl (vp_updL (vp_updL (fun _ => 0) 0 x.toInt64) 1 y.toInt64)))) := k484 _ _ a476 (Ne.symm (z_nn u468 a465))
        have F509 : ∀ i9 : Nat, i9 < nn → f1 (fg i9) = some (.inr (4, [.int (kd i9), .ref (pt i9), .long (wg i9), .int (wd i9), .int (nI i9), .int (hs i9), .int (bf i9)])) := fun i9 h9 => k4 _ _ (hF i9 h9) (z_ne (hF i9 h9) x_fa rfl)
        have F510 : ∀ i9 : Nat, i9 < nn → f444 (fg i9) = some (.inr (4, [.int (kd i9), .ref (pt i9), .long (wg i9), .int (wd i9), .int (nI i9), .int (hs i9), .int (bf i9)])) := fun i9 h9 => k446 _ _ (F509 i9 h9) 
        have F511 : ∀ i9 : Nat, i9 < nn → f450 (fg i9) = some (.inr (4, [.int (kd i9), .ref (pt i9), .long (wg i9), .int (wd i9), .int (nI i9), .int (hs i9), .int (bf i9)])) := fun i9 h9 => k452 _ _ (F510 i9 h9) 
        have F512 : ∀ i9 : Nat, i9 < nn → f456 (fg i9) = some (.inr (4, [.int (kd i9), .ref (pt i9), .long (wg i9), .int (wd i9), .int (nI i9), .int (hs i9), .int (bf i9)])) := fun i9 h9 => k458 _ _ (F511 i9 h9) 
        have F513 : ∀ i9 : Nat, i9 < nn → f464 (fg i9) = some (.inr (4, [.int (kd i9), .ref (pt i9), .long (wg i9), .int (wd i9), .int (nI i9), .int (hs i9), .int (bf i9)])) := fun i9 h9 => (k466 _ (z_nn u463 (F512 i9 h9))).trans (F512 i9 h9)
        have F514 : ∀ i9 : Nat, i9 < nn → f469 (fg i9) = some (.inr (4, [.int (kd i9), .ref (pt i9), .long (wg i9), .int (wd i9), .int (nI i9), .int (hs i9), .int (bf i9)])) := fun i9 h9 => (k471 _ (z_nn u468 (F513 i9 h9))).trans (F513 i9 h9)
        have F515 : ∀ i9 : Nat, i9 < nn → f472 (fg i9) = some (.inr (4, [.int (kd i9), .ref (pt i9), .long (wg i9), .int (wd i9), .int (nI i9), .int (hs i9), .int (bf i9)])) := fun i9 h9 => (k474 _ (z_nn u468 (F513 i9 h9))).trans (F514 i9 h9)
        have F516 : ∀ i9 : Nat, i9 < nn → f475 (fg i9) = some (.inr (4, [.int (kd i9), .ref (pt i9), .long (wg i9), .int (wd i9), .int (nI i9), .int (hs i9), .int (bf i9)])) := fun i9 h9 => (k477 _ (z_nn u468 (F513 i9 h9))).trans (F515 i9 h9)
        have F517 : ∀ i9 : Nat, i9 < nn → f481 (fg i9) = some (.inr (4, [.int (kd i9), .ref (pt i9), .long (wg i9), .int (wd i9), .int (nI i9), .int (hs i9), .int (bf i9)])) := fun i9 h9 => k484 _ _ (F516 i9 h9) (z_nn u463 (F512 i9 h9))
        have F518 : ∀ i9 : Nat, i9 < nn → f1 (pt i9) = some (.inl (cy 1, (ln i9), .inr (.inl (pp i9)))) := fun i9 h9 => k4 _ _ (hP i9 h9) (z_neO (hP i9 h9) x_fa rfl)
        have F519 : ∀ i9 : Nat, i9 < nn → f444 (pt i9) = some (.inl (cy 1, (ln i9), .inr (.inl (pp i9)))) := fun i9 h9 => k446 _ _ (F518 i9 h9) 
        have F520 : ∀ i9 : Nat, i9 < nn → f450 (pt i9) = some (.inl (cy 1, (ln i9), .inr (.inl (pp i9)))) := fun i9 h9 => k452 _ _ (F519 i9 h9) 
        have F521 : ∀ i9 : Nat, i9 < nn → f456 (pt i9) = some (.inl (cy 1, (ln i9), .inr (.inl (pp i9)))) := fun i9 h9 => k458 _ _ (F520 i9 h9) 
        have F522 : ∀ i9 : Nat, i9 < nn → f464 (pt i9) = some (.inl (cy 1, (ln i9), .inr (.inl (pp i9)))) := fun i9 h9 => (k466 _ (z_nn u463 (F521 i9 h9))).trans (F521 i9 h9)
        have F523 : ∀ i9 : Nat, i9 < nn → f469 (pt i9) = some (.inl (cy 1, (ln i9), .inr (.inl (pp i9)))) := fun i9 h9 => (k471 _ (z_nn u468 (F522 i9 h9))).trans (F522 i9 h9)
        have F524 : ∀ i9 : Nat, i9 < nn → f472 (pt i9) = some (.inl (cy 1, (ln i9), .inr (.inl (pp i9)))) := fun i9 h9 => (k474 _ (z_nn u468 (F522 i9 h9))).trans (F523 i9 h9)
        have F525 : ∀ i9 : Nat, i9 < nn → f475 (pt i9) = some (.inl (cy 1, (ln i9), .inr (.inl (pp i9)))) := fun i9 h9 => (k477 _ (z_nn u468 (F522 i9 h9))).trans (F524 i9 h9)
        have F526 : ∀ i9 : Nat, i9 < nn → f481 (pt i9) = some (.inl (cy 1, (ln i9), .inr (.inl (pp i9)))) := fun i9 h9 => k484 _ _ (F525 i9 h9) (z_nn u463 (F521 i9 h9))
        refine z_callVi (As := [.ref q462]) C hz hS hA hl (k_X5_add l D cy f481 fi al ra ga gr nn fg pt kd ln pp wg wd hs bf q462 4 q467 0 0 (-1) 0 0 2 (vp_updL (vp_updL (fun _ => 0) 0 x.toInt64) 1 y.toInt64) a490 a498 a507 a483 a508 F517 F526 h60 hga hgr hln hk5 hfi (fun j9 h9 => z_nn u463 (F512 j9 h9)) (by omega) (fun h9 => absurd h9 (by decide)) har (fun _ k9 h9 => by rcases (show k9 = 0 ∨ k9 = 1 by omega) with rfl | rfl; exact Or.inr ⟨jl, hjl, (z_crG (by omega) hlf)⟩; exact Or.inl (by rw [hrt]; exact pk_uLs.trans z_m1i))) zyX5_add mMX7_92 a490 zl5 rfl rfl (Nat.le_of_ble_eq_true rfl) ⟨Nat.le_of_ble_eq_true rfl, Nat.le_of_ble_eq_true rfl⟩ ⟨Nat.le_of_ble_eq_true rfl, Nat.le_of_ble_eq_true rfl⟩ dX7_pair_86 (fun r f527 H locs h528 hz hS => ?_)
        obtain ⟨hq_529, bq_530, gr_531, bf_532, rfl, p533, p534, a535, a536, a537, F538, F539, k540⟩ := h528
        have a541 : f464 o = some (.inr (7, [.ref fa, .ref fi, .ref nu, .int (nI nl), .ref fm, .int (nI nf), .ref co, .int (nI nc), .ref en, .ref ke, .long lk])) := (k466 _ (z_nn u463 a461)).trans a461
        have a542 : f469 o = some (.inr (7, [.ref fa, .ref fi, .ref nu, .int (nI nl), .ref fm, .int (nI nf), .ref co, .int (nI nc), .ref en, .ref ke, .long lk])) := (k471 _ (z_nn u468 a541)).trans a541
        have a543 : f472 o = some (.inr (7, [.ref fa, .ref fi, .ref nu, .int (nI nl), .ref fm, .int (nI nf), .ref co, .int (nI nc), .ref en, .ref ke, .long lk])) := (k474 _ (z_nn u468 a541)).trans a542
        have a544 : f475 o = some (.inr (7, [.ref fa, .ref fi, .ref nu, .int (nI nl), .ref fm, .int (nI nf), .ref co, .int (nI nc), .ref en, .ref ke, .long lk])) := (k477 _ (z_nn u468 a541)).trans a543
        have a545 : f481 o = some (.inr (7, [.ref fa, .ref fi, .ref nu, .int (nI nl), .ref fm, .int (nI nf), .ref co, .int (nI nc), .ref en, .ref ke, .long lk])) := k484 _ _ a544 (z_nn u463 a461)
        have a546 : f527 o = some (.inr (7, [.ref fa, .ref fi, .ref nu, .int (nI nl), .ref fm, .int (nI nf), .ref co, .int (nI nc), .ref en, .ref ke, .long lk])) := k540 _ _ a545 (z_ne a545 a490 rfl) (z_ne a545 a498 rfl) (z_ne a545 a507 rfl) (z_nn u463 a461) (fun j9 h8 => (z_ne a545 (F517 j9 h8) rfl))
        have a547 : f444 fa = some (.inr (2, [.int 0, .int (-1), .int 0, .ref ev])) := k446 _ _ a3 
        have a548 : f450 fa = some (.inr (2, [.int 0, .int (-1), .int 0, .ref ev])) := k452 _ _ a547 
        have a549 : f456 fa = some (.inr (2, [.int 0, .int (-1), .int 0, .ref ev])) := k458 _ _ a548 
        have a550 : f464 fa = some (.inr (2, [.int 0, .int (-1), .int 0, .ref ev])) := (k466 _ (z_nn u463 a549)).trans a549
        have a551 : f469 fa = some (.inr (2, [.int 0, .int (-1), .int 0, .ref ev])) := (k471 _ (z_nn u468 a550)).trans a550
        have a552 : f472 fa = some (.inr (2, [.int 0, .int (-1), .int 0, .ref ev])) := (k474 _ (z_nn u468 a550)).trans a551
        have a553 : f475 fa = some (.inr (2, [.int 0, .int (-1), .int 0, .ref ev])) := (k477 _ (z_nn u468 a550)).trans a552
        have a554 : f481 fa = some (.inr (2, [.int 0, .int (-1), .int 0, .ref ev])) := k484 _ _ a553 (z_nn u463 a549)
        have a555 : f527 fa = some (.inr (2, [.int 0, .int (-1), .int 0, .ref ev])) := k540 _ _ a554 (z_ne a554 a490 rfl) (z_ne a554 a498 rfl) (z_ne a554 a507 rfl) (z_nn u463 a549) (fun j9 h8 => (z_ne a554 (F517 j9 h8) rfl))
        have a556 : f1 ev = some (.inl (cy 0, 8, .inl gv)) := k4 _ _ x_ev (z_ne x_ev x_fa rfl)
        have a557 : f444 ev = some (.inl (cy 0, 8, .inl gv)) := k446 _ _ a556 
        have a558 : f450 ev = some (.inl (cy 0, 8, .inl gv)) := k452 _ _ a557 
        have a559 : f456 ev = some (.inl (cy 0, 8, .inl gv)) := k458 _ _ a558 
        have a560 : f464 ev = some (.inl (cy 0, 8, .inl gv)) := (k466 _ (z_nn u463 a559)).trans a559
        have a561 : f469 ev = some (.inl (cy 0, 8, .inl gv)) := (k471 _ (z_nn u468 a560)).trans a560
        have a562 : f472 ev = some (.inl (cy 0, 8, .inl gv)) := (k474 _ (z_nn u468 a560)).trans a561
        have a563 : f475 ev = some (.inl (cy 0, 8, .inl gv)) := (k477 _ (z_nn u468 a560)).trans a562
        have a564 : f481 ev = some (.inl (cy 0, 8, .inl gv)) := k484 _ _ a563 (z_nn u463 a559)
        have a565 : f527 ev = some (.inl (cy 0, 8, .inl gv)) := k540 _ _ a564 (z_ne a564 a490 rfl) (z_ne a564 a498 rfl) (z_ne a564 a507 rfl) (z_nn u463 a559) (fun j9 h8 => (z_ne a564 (F517 j9 h8) rfl))
        have a566 : f1 nu = some (.inl (cy 0, 12, .inl gu)) := k4 _ _ x_nu (z_ne x_nu x_fa rfl)
        have a567 : f444 nu = some (.inl (cy 0, 12, .inl gu)) := k446 _ _ a566 
        have a568 : f450 nu = some (.inl (cy 0, 12, .inl gu)) := k452 _ _ a567 
        have a569 : f456 nu = some (.inl (cy 0, 12, .inl gu)) := k458 _ _ a568 
        have a570 : f464 nu = some (.inl (cy 0, 12, .inl gu)) := (k466 _ (z_nn u463 a569)).trans a569
        have a571 : f469 nu = some (.inl (cy 0, 12, .inl gu)) := (k471 _ (z_nn u468 a570)).trans a570
        have a572 : f472 nu = some (.inl (cy 0, 12, .inl gu)) := (k474 _ (z_nn u468 a570)).trans a571
        have a573 : f475 nu = some (.inl (cy 0, 12, .inl gu)) := (k477 _ (z_nn u468 a570)).trans a572
        have a574 : f481 nu = some (.inl (cy 0, 12, .inl gu)) := k484 _ _ a573 (z_nn u463 a569)
        have a575 : f527 nu = some (.inl (cy 0, 12, .inl gu)) := k540 _ _ a574 (z_ne a574 a490 rfl) (z_ne a574 a498 rfl) (z_ne a574 a507 rfl) (z_nn u463 a569) (fun j9 h8 => (z_ne a574 (F517 j9 h8) rfl))
        have a576 : f1 fm = some (.inl (cy 4, 6, .inr (.inr (.inr (.inr gf))))) := k4 _ _ x_fm (z_ne x_fm x_fa rfl)
        have a577 : f444 fm = some (.inl (cy 4, 6, .inr (.inr (.inr (.inr gf))))) := k446 _ _ a576 
        have a578 : f450 fm = some (.inl (cy 4, 6, .inr (.inr (.inr (.inr gf))))) := k452 _ _ a577 
        have a579 : f456 fm = some (.inl (cy 4, 6, .inr (.inr (.inr (.inr gf))))) := k458 _ _ a578 
        have a580 : f464 fm = some (.inl (cy 4, 6, .inr (.inr (.inr (.inr gf))))) := (k466 _ (z_nn u463 a579)).trans a579
        have a581 : f469 fm = some (.inl (cy 4, 6, .inr (.inr (.inr (.inr gf))))) := (k471 _ (z_nn u468 a580)).trans a580
        have a582 : f472 fm = some (.inl (cy 4, 6, .inr (.inr (.inr (.inr gf))))) := (k474 _ (z_nn u468 a580)).trans a581
        have a583 : f475 fm = some (.inl (cy 4, 6, .inr (.inr (.inr (.inr gf))))) := (k477 _ (z_nn u468 a580)).trans a582
        have a584 : f481 fm = some (.inl (cy 4, 6, .inr (.inr (.inr (.inr gf))))) := k484 _ _ a583 (z_nn u463 a579)
        have a585 : f527 fm = some (.inl (cy 4, 6, .inr (.inr (.inr (.inr gf))))) := k540 _ _ a584 (z_ne a584 a490 rfl) (z_ne a584 a498 rfl) (z_ne a584 a507 rfl) (z_nn u463 a579) (fun j9 h8 => (z_ne a584 (F517 j9 h8) rfl))
        have a586 : f1 co = some (.inl (cy 5, 60, .inr (.inr (.inr (.inr gc))))) := k4 _ _ x_co (z_ne x_co x_fa rfl)
        have a587 : f444 co = some (.inl (cy 5, 60, .inr (.inr (.inr (.inr gc))))) := k446 _ _ a586 
        have a588 : f450 co = some (.inl (cy 5, 60, .inr (.inr (.inr (.inr gc))))) := k452 _ _ a587 
        have a589 : f456 co = some (.inl (cy 5, 60, .inr (.inr (.inr (.inr gc))))) := k458 _ _ a588 
        have a590 : f464 co = some (.inl (cy 5, 60, .inr (.inr (.inr (.inr gc))))) := (k466 _ (z_nn u463 a589)).trans a589
        have a591 : f469 co = some (.inl (cy 5, 60, .inr (.inr (.inr (.inr gc))))) := (k471 _ (z_nn u468 a590)).trans a590
        have a592 : f472 co = some (.inl (cy 5, 60, .inr (.inr (.inr (.inr gc))))) := (k474 _ (z_nn u468 a590)).trans a591
        have a593 : f475 co = some (.inl (cy 5, 60, .inr (.inr (.inr (.inr gc))))) := (k477 _ (z_nn u468 a590)).trans a592
        have a594 : f481 co = some (.inl (cy 5, 60, .inr (.inr (.inr (.inr gc))))) := k484 _ _ a593 (z_nn u463 a589)
        have a595 : f527 co = some (.inl (cy 5, 60, .inr (.inr (.inr (.inr gc))))) := k540 _ _ a594 (z_ne a594 a490 rfl) hca hcr (z_nn u463 a589) (fun j9 h8 => (z_ne a594 (F517 j9 h8) rfl))
        have a596 : f1 en = some (.inl (cy 6, 4, .inr (.inr (.inr (.inr ge))))) := k4 _ _ x_en (z_ne x_en x_fa rfl)
        have a597 : f444 en = some (.inl (cy 6, 4, .inr (.inr (.inr (.inr ge))))) := k446 _ _ a596 
        have a598 : f450 en = some (.inl (cy 6, 4, .inr (.inr (.inr (.inr ge))))) := k452 _ _ a597 
        have a599 : f456 en = some (.inl (cy 6, 4, .inr (.inr (.inr (.inr ge))))) := k458 _ _ a598 
        have a600 : f464 en = some (.inl (cy 6, 4, .inr (.inr (.inr (.inr ge))))) := (k466 _ (z_nn u463 a599)).trans a599
        have a601 : f469 en = some (.inl (cy 6, 4, .inr (.inr (.inr (.inr ge))))) := (k471 _ (z_nn u468 a600)).trans a600
        have a602 : f472 en = some (.inl (cy 6, 4, .inr (.inr (.inr (.inr ge))))) := (k474 _ (z_nn u468 a600)).trans a601
        have a603 : f475 en = some (.inl (cy 6, 4, .inr (.inr (.inr (.inr ge))))) := (k477 _ (z_nn u468 a600)).trans a602
        have a604 : f481 en = some (.inl (cy 6, 4, .inr (.inr (.inr (.inr ge))))) := k484 _ _ a603 (z_nn u463 a599)
        have a605 : f527 en = some (.inl (cy 6, 4, .inr (.inr (.inr (.inr ge))))) := k540 _ _ a604 (z_ne a604 a490 rfl) (z_ne a604 a498 rfl) (z_ne a604 a507 rfl) (z_nn u463 a599) (fun j9 h8 => (z_ne a604 (F517 j9 h8) rfl))
        have a606 : f1 ke = some (.inr (6, [.ref kn, .ref vq, .int (nI ks)])) := k4 _ _ x_ke (z_ne x_ke x_fa rfl)
        have a607 : f444 ke = some (.inr (6, [.ref kn, .ref vq, .int (nI ks)])) := k446 _ _ a606 
        have a608 : f450 ke = some (.inr (6, [.ref kn, .ref vq, .int (nI ks)])) := k452 _ _ a607 
        have a609 : f456 ke = some (.inr (6, [.ref kn, .ref vq, .int (nI ks)])) := k458 _ _ a608 
        have a610 : f464 ke = some (.inr (6, [.ref kn, .ref vq, .int (nI ks)])) := (k466 _ (z_nn u463 a609)).trans a609
        have a611 : f469 ke = some (.inr (6, [.ref kn, .ref vq, .int (nI ks)])) := (k471 _ (z_nn u468 a610)).trans a610
        have a612 : f472 ke = some (.inr (6, [.ref kn, .ref vq, .int (nI ks)])) := (k474 _ (z_nn u468 a610)).trans a611
        have a613 : f475 ke = some (.inr (6, [.ref kn, .ref vq, .int (nI ks)])) := (k477 _ (z_nn u468 a610)).trans a612
        have a614 : f481 ke = some (.inr (6, [.ref kn, .ref vq, .int (nI ks)])) := k484 _ _ a613 (z_nn u463 a609)
        have a615 : f527 ke = some (.inr (6, [.ref kn, .ref vq, .int (nI ks)])) := k540 _ _ a614 (z_ne a614 a490 rfl) (z_ne a614 a498 rfl) (z_ne a614 a507 rfl) (z_nn u463 a609) (fun j9 h8 => (z_ne a614 (F517 j9 h8) rfl))
        have a616 : f1 kn = some (.inl (cy 0, 40, .inl kk)) := k4 _ _ x_kn (z_ne x_kn x_fa rfl)
        have a617 : f444 kn = some (.inl (cy 0, 40, .inl kk)) := k446 _ _ a616 
        have a618 : f450 kn = some (.inl (cy 0, 40, .inl kk)) := k452 _ _ a617 
        have a619 : f456 kn = some (.inl (cy 0, 40, .inl kk)) := k458 _ _ a618 
        have a620 : f464 kn = some (.inl (cy 0, 40, .inl kk)) := (k466 _ (z_nn u463 a619)).trans a619
        have a621 : f469 kn = some (.inl (cy 0, 40, .inl kk)) := (k471 _ (z_nn u468 a620)).trans a620
        have a622 : f472 kn = some (.inl (cy 0, 40, .inl kk)) := (k474 _ (z_nn u468 a620)).trans a621
        have a623 : f475 kn = some (.inl (cy 0, 40, .inl kk)) := (k477 _ (z_nn u468 a620)).trans a622
        have a624 : f481 kn = some (.inl (cy 0, 40, .inl kk)) := k484 _ _ a623 (z_nn u463 a619)
        have a625 : f527 kn = some (.inl (cy 0, 40, .inl kk)) := k540 _ _ a624 (z_ne a624 a490 rfl) (z_ne a624 a498 rfl) (z_ne a624 a507 rfl) (z_nn u463 a619) (fun j9 h8 => (z_ne a624 (F517 j9 h8) rfl))
        have a626 : f1 vq = some (.inl (cy 0, 40, .inl kv)) := k4 _ _ x_vq (z_ne x_vq x_fa rfl)
        have a627 : f444 vq = some (.inl (cy 0, 40, .inl kv)) := k446 _ _ a626 
        have a628 : f450 vq = some (.inl (cy 0, 40, .inl kv)) := k452 _ _ a627 
        have a629 : f456 vq = some (.inl (cy 0, 40, .inl kv)) := k458 _ _ a628 
        have a630 : f464 vq = some (.inl (cy 0, 40, .inl kv)) := (k466 _ (z_nn u463 a629)).trans a629
        have a631 : f469 vq = some (.inl (cy 0, 40, .inl kv)) := (k471 _ (z_nn u468 a630)).trans a630
        have a632 : f472 vq = some (.inl (cy 0, 40, .inl kv)) := (k474 _ (z_nn u468 a630)).trans a631
        have a633 : f475 vq = some (.inl (cy 0, 40, .inl kv)) := (k477 _ (z_nn u468 a630)).trans a632
        have a634 : f481 vq = some (.inl (cy 0, 40, .inl kv)) := k484 _ _ a633 (z_nn u463 a629)
        have a635 : f527 vq = some (.inl (cy 0, 40, .inl kv)) := k540 _ _ a634 (z_ne a634 a490 rfl) (z_ne a634 a498 rfl) (z_ne a634 a507 rfl) (z_nn u463 a629) (fun j9 h8 => (z_ne a634 (F517 j9 h8) rfl))
        have F636 : ∀ i9 : Nat, i9 < nf → f1 (fq i9) = some (.inr (3, [.ref (fk i9), .int (nI (fz i9))])) := fun i9 h9 => k4 _ _ (hFq i9 h9) (z_ne (hFq i9 h9) x_fa rfl)
        have F637 : ∀ i9 : Nat, i9 < nf → f444 (fq i9) = some (.inr (3, [.ref (fk i9), .int (nI (fz i9))])) := fun i9 h9 => k446 _ _ (F636 i9 h9) 
        have F638 : ∀ i9 : Nat, i9 < nf → f450 (fq i9) = some (.inr (3, [.ref (fk i9), .int (nI (fz i9))])) := fun i9 h9 => k452 _ _ (F637 i9 h9) 
        have F639 : ∀ i9 : Nat, i9 < nf → f456 (fq i9) = some (.inr (3, [.ref (fk i9), .int (nI (fz i9))])) := fun i9 h9 => k458 _ _ (F638 i9 h9) 
        have F640 : ∀ i9 : Nat, i9 < nf → f464 (fq i9) = some (.inr (3, [.ref (fk i9), .int (nI (fz i9))])) := fun i9 h9 => (k466 _ (z_nn u463 (F639 i9 h9))).trans (F639 i9 h9)
        have F641 : ∀ i9 : Nat, i9 < nf → f469 (fq i9) = some (.inr (3, [.ref (fk i9), .int (nI (fz i9))])) := fun i9 h9 => (k471 _ (z_nn u468 (F640 i9 h9))).trans (F640 i9 h9)
        have F642 : ∀ i9 : Nat, i9 < nf → f472 (fq i9) = some (.inr (3, [.ref (fk i9), .int (nI (fz i9))])) := fun i9 h9 => (k474 _ (z_nn u468 (F640 i9 h9))).trans (F641 i9 h9)
        have F643 : ∀ i9 : Nat, i9 < nf → f475 (fq i9) = some (.inr (3, [.ref (fk i9), .int (nI (fz i9))])) := fun i9 h9 => (k477 _ (z_nn u468 (F640 i9 h9))).trans (F642 i9 h9)
        have F644 : ∀ i9 : Nat, i9 < nf → f481 (fq i9) = some (.inr (3, [.ref (fk i9), .int (nI (fz i9))])) := fun i9 h9 => k484 _ _ (F643 i9 h9) (z_nn u463 (F639 i9 h9))
        have F645 : ∀ i9 : Nat, i9 < nf → f527 (fq i9) = some (.inr (3, [.ref (fk i9), .int (nI (fz i9))])) := fun i9 h9 => k540 _ _ (F644 i9 h9) (z_ne (F644 i9 h9) a490 rfl) (z_ne (F644 i9 h9) a498 rfl) (z_ne (F644 i9 h9) a507 rfl) (z_nn u463 (F639 i9 h9)) (fun j9 h8 => (z_ne (F644 i9 h9) (F517 j9 h8) rfl))
        have F646 : ∀ i9 : Nat, i9 < nf → f1 (fk i9) = some (.inl (cy 0, 4, .inl (fc i9))) := fun i9 h9 => k4 _ _ (hFk i9 h9) (z_ne (hFk i9 h9) x_fa rfl)
        have F647 : ∀ i9 : Nat, i9 < nf → f444 (fk i9) = some (.inl (cy 0, 4, .inl (fc i9))) := fun i9 h9 => k446 _ _ (F646 i9 h9) 
        have F648 : ∀ i9 : Nat, i9 < nf → f450 (fk i9) = some (.inl (cy 0, 4, .inl (fc i9))) := fun i9 h9 => k452 _ _ (F647 i9 h9) 
        have F649 : ∀ i9 : Nat, i9 < nf → f456 (fk i9) = some (.inl (cy 0, 4, .inl (fc i9))) := fun i9 h9 => k458 _ _ (F648 i9 h9) 
        have F650 : ∀ i9 : Nat, i9 < nf → f464 (fk i9) = some (.inl (cy 0, 4, .inl (fc i9))) := fun i9 h9 => (k466 _ (z_nn u463 (F649 i9 h9))).trans (F649 i9 h9)
        have F651 : ∀ i9 : Nat, i9 < nf → f469 (fk i9) = some (.inl (cy 0, 4, .inl (fc i9))) := fun i9 h9 => (k471 _ (z_nn u468 (F650 i9 h9))).trans (F650 i9 h9)
        have F652 : ∀ i9 : Nat, i9 < nf → f472 (fk i9) = some (.inl (cy 0, 4, .inl (fc i9))) := fun i9 h9 => (k474 _ (z_nn u468 (F650 i9 h9))).trans (F651 i9 h9)
        have F653 : ∀ i9 : Nat, i9 < nf → f475 (fk i9) = some (.inl (cy 0, 4, .inl (fc i9))) := fun i9 h9 => (k477 _ (z_nn u468 (F650 i9 h9))).trans (F652 i9 h9)
        have F654 : ∀ i9 : Nat, i9 < nf → f481 (fk i9) = some (.inl (cy 0, 4, .inl (fc i9))) := fun i9 h9 => k484 _ _ (F653 i9 h9) (z_nn u463 (F649 i9 h9))
        have F655 : ∀ i9 : Nat, i9 < nf → f527 (fk i9) = some (.inl (cy 0, 4, .inl (fc i9))) := fun i9 h9 => k540 _ _ (F654 i9 h9) (z_ne (F654 i9 h9) a490 rfl) (z_ne (F654 i9 h9) a498 rfl) (z_ne (F654 i9 h9) a507 rfl) (z_nn u463 (F649 i9 h9)) (fun j9 h8 => (z_ne (F654 i9 h9) (F517 j9 h8) rfl))
        have F656 : ∀ i9 : Nat, i9 < nc → f1 (cn i9) = some (.inr (0, [.int (ce i9), .int (cm i9)])) := fun i9 h9 => k4 _ _ (hCn i9 h9) (z_ne (hCn i9 h9) x_fa rfl)
        have F657 : ∀ i9 : Nat, i9 < nc → f444 (cn i9) = some (.inr (0, [.int (ce i9), .int (cm i9)])) := fun i9 h9 => k446 _ _ (F656 i9 h9) 
        have F658 : ∀ i9 : Nat, i9 < nc → f450 (cn i9) = some (.inr (0, [.int (ce i9), .int (cm i9)])) := fun i9 h9 => k452 _ _ (F657 i9 h9) 
        have F659 : ∀ i9 : Nat, i9 < nc → f456 (cn i9) = some (.inr (0, [.int (ce i9), .int (cm i9)])) := fun i9 h9 => k458 _ _ (F658 i9 h9) 
        have F660 : ∀ i9 : Nat, i9 < nc → f464 (cn i9) = some (.inr (0, [.int (ce i9), .int (cm i9)])) := fun i9 h9 => (k466 _ (z_nn u463 (F659 i9 h9))).trans (F659 i9 h9)
        have F661 : ∀ i9 : Nat, i9 < nc → f469 (cn i9) = some (.inr (0, [.int (ce i9), .int (cm i9)])) := fun i9 h9 => (k471 _ (z_nn u468 (F660 i9 h9))).trans (F660 i9 h9)
        have F662 : ∀ i9 : Nat, i9 < nc → f472 (cn i9) = some (.inr (0, [.int (ce i9), .int (cm i9)])) := fun i9 h9 => (k474 _ (z_nn u468 (F660 i9 h9))).trans (F661 i9 h9)
        have F663 : ∀ i9 : Nat, i9 < nc → f475 (cn i9) = some (.inr (0, [.int (ce i9), .int (cm i9)])) := fun i9 h9 => (k477 _ (z_nn u468 (F660 i9 h9))).trans (F662 i9 h9)
        have F664 : ∀ i9 : Nat, i9 < nc → f481 (cn i9) = some (.inr (0, [.int (ce i9), .int (cm i9)])) := fun i9 h9 => k484 _ _ (F663 i9 h9) (z_nn u463 (F659 i9 h9))
        have F665 : ∀ i9 : Nat, i9 < nc → f527 (cn i9) = some (.inr (0, [.int (ce i9), .int (cm i9)])) := fun i9 h9 => k540 _ _ (F664 i9 h9) (z_ne (F664 i9 h9) a490 rfl) (z_ne (F664 i9 h9) a498 rfl) (z_ne (F664 i9 h9) a507 rfl) (z_nn u463 (F659 i9 h9)) (fun j9 h8 => (z_ne (F664 i9 h9) (F517 j9 h8) rfl))
        have F666 : ∀ i9 : Nat, i9 < 4 → f1 (ea i9) = some (.inr (1, [.ref (ma i9), .int (nI (sq i9))])) := fun i9 h9 => k4 _ _ (hEa i9 h9) (z_ne (hEa i9 h9) x_fa rfl)
        have F667 : ∀ i9 : Nat, i9 < 4 → f444 (ea i9) = some (.inr (1, [.ref (ma i9), .int (nI (sq i9))])) := fun i9 h9 => k446 _ _ (F666 i9 h9) 
        have F668 : ∀ i9 : Nat, i9 < 4 → f450 (ea i9) = some (.inr (1, [.ref (ma i9), .int (nI (sq i9))])) := fun i9 h9 => k452 _ _ (F667 i9 h9) 
        have F669 : ∀ i9 : Nat, i9 < 4 → f456 (ea i9) = some (.inr (1, [.ref (ma i9), .int (nI (sq i9))])) := fun i9 h9 => k458 _ _ (F668 i9 h9) 
        have F670 : ∀ i9 : Nat, i9 < 4 → f464 (ea i9) = some (.inr (1, [.ref (ma i9), .int (nI (sq i9))])) := fun i9 h9 => (k466 _ (z_nn u463 (F669 i9 h9))).trans (F669 i9 h9)
        have F671 : ∀ i9 : Nat, i9 < 4 → f469 (ea i9) = some (.inr (1, [.ref (ma i9), .int (nI (sq i9))])) := fun i9 h9 => (k471 _ (z_nn u468 (F670 i9 h9))).trans (F670 i9 h9)
        have F672 : ∀ i9 : Nat, i9 < 4 → f472 (ea i9) = some (.inr (1, [.ref (ma i9), .int (nI (sq i9))])) := fun i9 h9 => (k474 _ (z_nn u468 (F670 i9 h9))).trans (F671 i9 h9)
        have F673 : ∀ i9 : Nat, i9 < 4 → f475 (ea i9) = some (.inr (1, [.ref (ma i9), .int (nI (sq i9))])) := fun i9 h9 => (k477 _ (z_nn u468 (F670 i9 h9))).trans (F672 i9 h9)
        have F674 : ∀ i9 : Nat, i9 < 4 → f481 (ea i9) = some (.inr (1, [.ref (ma i9), .int (nI (sq i9))])) := fun i9 h9 => k484 _ _ (F673 i9 h9) (z_nn u463 (F669 i9 h9))
        have F675 : ∀ i9 : Nat, i9 < 4 → f527 (ea i9) = some (.inr (1, [.ref (ma i9), .int (nI (sq i9))])) := fun i9 h9 => k540 _ _ (F674 i9 h9) (z_ne (F674 i9 h9) a490 rfl) (z_ne (F674 i9 h9) a498 rfl) (z_ne (F674 i9 h9) a507 rfl) (z_nn u463 (F669 i9 h9)) (fun j9 h8 => (z_ne (F674 i9 h9) (F517 j9 h8) rfl))
        have F676 : ∀ i9 : Nat, i9 < 4 → f1 (ma i9) = some (.inl (cy 0, 60, .inl (mb i9))) := fun i9 h9 => k4 _ _ (hMa i9 h9) (z_ne (hMa i9 h9) x_fa rfl)
        have F677 : ∀ i9 : Nat, i9 < 4 → f444 (ma i9) = some (.inl (cy 0, 60, .inl (mb i9))) := fun i9 h9 => k446 _ _ (F676 i9 h9) 
        have F678 : ∀ i9 : Nat, i9 < 4 → f450 (ma i9) = some (.inl (cy 0, 60, .inl (mb i9))) := fun i9 h9 => k452 _ _ (F677 i9 h9) 
        have F679 : ∀ i9 : Nat, i9 < 4 → f456 (ma i9) = some (.inl (cy 0, 60, .inl (mb i9))) := fun i9 h9 => k458 _ _ (F678 i9 h9) 
        have F680 : ∀ i9 : Nat, i9 < 4 → f464 (ma i9) = some (.inl (cy 0, 60, .inl (mb i9))) := fun i9 h9 => (k466 _ (z_nn u463 (F679 i9 h9))).trans (F679 i9 h9)
        have F681 : ∀ i9 : Nat, i9 < 4 → f469 (ma i9) = some (.inl (cy 0, 60, .inl (mb i9))) := fun i9 h9 => (k471 _ (z_nn u468 (F680 i9 h9))).trans (F680 i9 h9)
        have F682 : ∀ i9 : Nat, i9 < 4 → f472 (ma i9) = some (.inl (cy 0, 60, .inl (mb i9))) := fun i9 h9 => (k474 _ (z_nn u468 (F680 i9 h9))).trans (F681 i9 h9)
        have F683 : ∀ i9 : Nat, i9 < 4 → f475 (ma i9) = some (.inl (cy 0, 60, .inl (mb i9))) := fun i9 h9 => (k477 _ (z_nn u468 (F680 i9 h9))).trans (F682 i9 h9)
        have F684 : ∀ i9 : Nat, i9 < 4 → f481 (ma i9) = some (.inl (cy 0, 60, .inl (mb i9))) := fun i9 h9 => k484 _ _ (F683 i9 h9) (z_nn u463 (F679 i9 h9))
        have F685 : ∀ i9 : Nat, i9 < 4 → f527 (ma i9) = some (.inl (cy 0, 60, .inl (mb i9))) := fun i9 h9 => k540 _ _ (F684 i9 h9) (z_ne (F684 i9 h9) a490 rfl) (z_ne (F684 i9 h9) a498 rfl) (z_ne (F684 i9 h9) a507 rfl) (z_nn u463 (F679 i9 h9)) (fun j9 h8 => (z_ne (F684 i9 h9) (F517 j9 h8) rfl))
        have a686 : f527 q467 = some (.inl (cy 1, 2, .inr (.inl (vp_updL (vp_updL (fun _ => 0) 0 x.toInt64) 1 y.toInt64)))) := k540 _ _ a508 (Ne.symm (z_nn u468 a486)) (Ne.symm (z_nn u468 a494)) (Ne.symm (z_nn u468 a503)) (Ne.symm (z_nn u468 a465)) (fun j9 h8 => (z_ne a508 (F517 j9 h8) rfl))
        have hgpf : ∀ j, j < 2 → (vp_updL (vp_updL (fun _ => 0) 0 x.toInt64) 1 y.toInt64) j = (q2 x.toInt64 y.toInt64) j := (z_j2 _ _ _)
        have hq : q_pair nn x y = (nI nn, 0, (-1), 0) := by simp [q_pair, oF_m1 nn, h60, hOlf, hNlf, hOrt, c447, c453, c459, c460]
        exact z_iret C hr rfl hz hS ⟨0, (-1), 0, gv, nl, gu, (nn + 1), (va_up ga nn (some q462)), gr_531, (va_up fg nn q462), (va_up pt nn q467), (va_up kd nn 4), (va_up ln nn 2), (va_up pp nn (vp_updL (vp_updL (fun _ => 0) 0 x.toInt64) 1 y.toInt64)), (va_up wg nn 0), (va_up wd nn 0), (va_up hs nn hq_529), (va_up bf_532 nn bq_530), nf, gf, fq, fk, fz, fc, nc, gc, cn, ce, cm, sq, mb, ks, kk, kv, lk, (by rw [hq]), (by rw [hq]), (by rw [hq]), (by rw [hq]), (by rw [hq]; exact (zEV0 gv).symm), rfl, rfl, (by rw [if_pos (nI_pos' (by omega))]), (by rw [if_pos (nI_pos' (by omega))]), (by rw [if_pos (nI_pos' (by omega))]), (zPP_new hgpf), (by rw [if_pos (nI_pos' (by omega))]), (by rw [if_pos (nI_pos' (by omega)), p533, zHash_congr (gp' := q2 x.toInt64 y.toInt64) hgpf]), rfl, rfl, rfl, rfl, rfl, rfl, rfl, rfl, rfl, rfl, rfl, rfl, ⟨a546, a555, a565, a535, a536, a537, a575, a585, a595, a605, a615, a625, a635, F538, F539, F645, F655, F665, F675, F685, (by omega), hl12, hf6, hc60, hs40, (z_ga1 hga), (z_gr1 p534), (z_up1 (P := fun _ a9 => a9 ≤ 15) hln (by omega)), (z_up2 (P := fun (a9 : Int32) (b9 : Nat) => a9 = 5 → 3 ≤ b9) hk5 (fun h9 => absurd h9 (by decide))), (z_up2 (P := fun (a9 : Int32) (b9 : Nat) => a9 = 4 → 2 ≤ b9) hk4 (fun _ => by omega)), (z_inj1 hfi (fun j9 h9 => z_nn u463 (F512 j9 h9))), (z_inj1 hpi (fun j9 h9 => z_nn u468 (F522 j9 h9))), har, hgf, hfz, hgc, hG, hsq, hei, hmi, kne, hca, hcr, hlk⟩⟩ (Nat.le_of_ble_eq_true rfl) (Nat.le_of_ble_eq_true rfl) dX7_pair_89
      · have a687 : f450 fi = some (.inr (5, [.ref al, .ref ra, .int (nI nn)])) := k452 _ _ a449 
        refine z_callVi (As := []) C hz hS hA hl (k_X5_isFull_B l D cy f450 fi al ra nn a687 hn60 h60) zyX5_isFull mMX7_79 a687 zl5 rfl rfl (Nat.le_of_ble_eq_true rfl) ⟨Nat.le_of_ble_eq_true rfl, Nat.le_of_ble_eq_true rfl⟩ ⟨Nat.le_of_ble_eq_true rfl, Nat.le_of_ble_eq_true rfl⟩ dX7_pair_36 (fun r f688 H locs h689 hz hS => ?_)
        obtain ⟨rfl, k690⟩ := h689
        refine lv_if_eq (tgt := 45) hx hb dX7_pair_39 (by decide) (fun c691 => ?_) (fun c691 => ?_)
        · exact absurd c691 (by decide)
        refine lv_bipush (v := (-3)) hx hb dX7_pair_42 (by decide) ?_
        have a692 : f688 o = some (.inr (7, [.ref fa, .ref fi, .ref nu, .int (nI nl), .ref fm, .int (nI nf), .ref co, .int (nI nc), .ref en, .ref ke, .long lk])) := k690 _ _ a454 
        have a693 : f444 fa = some (.inr (2, [.int 0, .int (-1), .int 0, .ref ev])) := k446 _ _ a3 
        have a694 : f450 fa = some (.inr (2, [.int 0, .int (-1), .int 0, .ref ev])) := k452 _ _ a693 
        have a695 : f688 fa = some (.inr (2, [.int 0, .int (-1), .int 0, .ref ev])) := k690 _ _ a694 
        have a696 : f1 ev = some (.inl (cy 0, 8, .inl gv)) := k4 _ _ x_ev (z_ne x_ev x_fa rfl)
        have a697 : f444 ev = some (.inl (cy 0, 8, .inl gv)) := k446 _ _ a696 
        have a698 : f450 ev = some (.inl (cy 0, 8, .inl gv)) := k452 _ _ a697 
        have a699 : f688 ev = some (.inl (cy 0, 8, .inl gv)) := k690 _ _ a698 
        have a700 : f688 fi = some (.inr (5, [.ref al, .ref ra, .int (nI nn)])) := k690 _ _ a687 
        have a701 : f444 al = some (.inl (cy 3, 60, .inr (.inr (.inr (.inr ga))))) := k446 _ _ a443 
        have a702 : f450 al = some (.inl (cy 3, 60, .inr (.inr (.inr (.inr ga))))) := k452 _ _ a701 
        have a703 : f688 al = some (.inl (cy 3, 60, .inr (.inr (.inr (.inr ga))))) := k690 _ _ a702 
        have a704 : f1 ra = some (.inl (cy 3, 60, .inr (.inr (.inr (.inr gr))))) := k4 _ _ x_ra (z_ne x_ra x_fa rfl)
        have a705 : f444 ra = some (.inl (cy 3, 60, .inr (.inr (.inr (.inr gr))))) := k446 _ _ a704 
        have a706 : f450 ra = some (.inl (cy 3, 60, .inr (.inr (.inr (.inr gr))))) := k452 _ _ a705 
        have a707 : f688 ra = some (.inl (cy 3, 60, .inr (.inr (.inr (.inr gr))))) := k690 _ _ a706 
        have a708 : f1 nu = some (.inl (cy 0, 12, .inl gu)) := k4 _ _ x_nu (z_ne x_nu x_fa rfl)
        have a709 : f444 nu = some (.inl (cy 0, 12, .inl gu)) := k446 _ _ a708 
        have a710 : f450 nu = some (.inl (cy 0, 12, .inl gu)) := k452 _ _ a709 
        have a711 : f688 nu = some (.inl (cy 0, 12, .inl gu)) := k690 _ _ a710 
        have a712 : f1 fm = some (.inl (cy 4, 6, .inr (.inr (.inr (.inr gf))))) := k4 _ _ x_fm (z_ne x_fm x_fa rfl)
        have a713 : f444 fm = some (.inl (cy 4, 6, .inr (.inr (.inr (.inr gf))))) := k446 _ _ a712 
        have a714 : f450 fm = some (.inl (cy 4, 6, .inr (.inr (.inr (.inr gf))))) := k452 _ _ a713 
        have a715 : f688 fm = some (.inl (cy 4, 6, .inr (.inr (.inr (.inr gf))))) := k690 _ _ a714 
        have a716 : f1 co = some (.inl (cy 5, 60, .inr (.inr (.inr (.inr gc))))) := k4 _ _ x_co (z_ne x_co x_fa rfl)
        have a717 : f444 co = some (.inl (cy 5, 60, .inr (.inr (.inr (.inr gc))))) := k446 _ _ a716 
        have a718 : f450 co = some (.inl (cy 5, 60, .inr (.inr (.inr (.inr gc))))) := k452 _ _ a717 
        have a719 : f688 co = some (.inl (cy 5, 60, .inr (.inr (.inr (.inr gc))))) := k690 _ _ a718 
        have a720 : f1 en = some (.inl (cy 6, 4, .inr (.inr (.inr (.inr ge))))) := k4 _ _ x_en (z_ne x_en x_fa rfl)
        have a721 : f444 en = some (.inl (cy 6, 4, .inr (.inr (.inr (.inr ge))))) := k446 _ _ a720 
        have a722 : f450 en = some (.inl (cy 6, 4, .inr (.inr (.inr (.inr ge))))) := k452 _ _ a721 
        have a723 : f688 en = some (.inl (cy 6, 4, .inr (.inr (.inr (.inr ge))))) := k690 _ _ a722 
        have a724 : f1 ke = some (.inr (6, [.ref kn, .ref vq, .int (nI ks)])) := k4 _ _ x_ke (z_ne x_ke x_fa rfl)
        have a725 : f444 ke = some (.inr (6, [.ref kn, .ref vq, .int (nI ks)])) := k446 _ _ a724 
        have a726 : f450 ke = some (.inr (6, [.ref kn, .ref vq, .int (nI ks)])) := k452 _ _ a725 
        have a727 : f688 ke = some (.inr (6, [.ref kn, .ref vq, .int (nI ks)])) := k690 _ _ a726 
        have a728 : f1 kn = some (.inl (cy 0, 40, .inl kk)) := k4 _ _ x_kn (z_ne x_kn x_fa rfl)
        have a729 : f444 kn = some (.inl (cy 0, 40, .inl kk)) := k446 _ _ a728 
        have a730 : f450 kn = some (.inl (cy 0, 40, .inl kk)) := k452 _ _ a729 
        have a731 : f688 kn = some (.inl (cy 0, 40, .inl kk)) := k690 _ _ a730 
        have a732 : f1 vq = some (.inl (cy 0, 40, .inl kv)) := k4 _ _ x_vq (z_ne x_vq x_fa rfl)
        have a733 : f444 vq = some (.inl (cy 0, 40, .inl kv)) := k446 _ _ a732 
        have a734 : f450 vq = some (.inl (cy 0, 40, .inl kv)) := k452 _ _ a733 
        have a735 : f688 vq = some (.inl (cy 0, 40, .inl kv)) := k690 _ _ a734 
        have F736 : ∀ i9 : Nat, i9 < nn → f1 (fg i9) = some (.inr (4, [.int (kd i9), .ref (pt i9), .long (wg i9), .int (wd i9), .int (nI i9), .int (hs i9), .int (bf i9)])) := fun i9 h9 => k4 _ _ (hF i9 h9) (z_ne (hF i9 h9) x_fa rfl)
        have F737 : ∀ i9 : Nat, i9 < nn → f444 (fg i9) = some (.inr (4, [.int (kd i9), .ref (pt i9), .long (wg i9), .int (wd i9), .int (nI i9), .int (hs i9), .int (bf i9)])) := fun i9 h9 => k446 _ _ (F736 i9 h9) 
        have F738 : ∀ i9 : Nat, i9 < nn → f450 (fg i9) = some (.inr (4, [.int (kd i9), .ref (pt i9), .long (wg i9), .int (wd i9), .int (nI i9), .int (hs i9), .int (bf i9)])) := fun i9 h9 => k452 _ _ (F737 i9 h9) 
        have F739 : ∀ i9 : Nat, i9 < nn → f688 (fg i9) = some (.inr (4, [.int (kd i9), .ref (pt i9), .long (wg i9), .int (wd i9), .int (nI i9), .int (hs i9), .int (bf i9)])) := fun i9 h9 => k690 _ _ (F738 i9 h9) 
        have F740 : ∀ i9 : Nat, i9 < nn → f1 (pt i9) = some (.inl (cy 1, (ln i9), .inr (.inl (pp i9)))) := fun i9 h9 => k4 _ _ (hP i9 h9) (z_neO (hP i9 h9) x_fa rfl)
        have F741 : ∀ i9 : Nat, i9 < nn → f444 (pt i9) = some (.inl (cy 1, (ln i9), .inr (.inl (pp i9)))) := fun i9 h9 => k446 _ _ (F740 i9 h9) 
        have F742 : ∀ i9 : Nat, i9 < nn → f450 (pt i9) = some (.inl (cy 1, (ln i9), .inr (.inl (pp i9)))) := fun i9 h9 => k452 _ _ (F741 i9 h9) 
        have F743 : ∀ i9 : Nat, i9 < nn → f688 (pt i9) = some (.inl (cy 1, (ln i9), .inr (.inl (pp i9)))) := fun i9 h9 => k690 _ _ (F742 i9 h9) 
        have F744 : ∀ i9 : Nat, i9 < nf → f1 (fq i9) = some (.inr (3, [.ref (fk i9), .int (nI (fz i9))])) := fun i9 h9 => k4 _ _ (hFq i9 h9) (z_ne (hFq i9 h9) x_fa rfl)
        have F745 : ∀ i9 : Nat, i9 < nf → f444 (fq i9) = some (.inr (3, [.ref (fk i9), .int (nI (fz i9))])) := fun i9 h9 => k446 _ _ (F744 i9 h9) 
        have F746 : ∀ i9 : Nat, i9 < nf → f450 (fq i9) = some (.inr (3, [.ref (fk i9), .int (nI (fz i9))])) := fun i9 h9 => k452 _ _ (F745 i9 h9) 
        have F747 : ∀ i9 : Nat, i9 < nf → f688 (fq i9) = some (.inr (3, [.ref (fk i9), .int (nI (fz i9))])) := fun i9 h9 => k690 _ _ (F746 i9 h9) 
        have F748 : ∀ i9 : Nat, i9 < nf → f1 (fk i9) = some (.inl (cy 0, 4, .inl (fc i9))) := fun i9 h9 => k4 _ _ (hFk i9 h9) (z_ne (hFk i9 h9) x_fa rfl)
        have F749 : ∀ i9 : Nat, i9 < nf → f444 (fk i9) = some (.inl (cy 0, 4, .inl (fc i9))) := fun i9 h9 => k446 _ _ (F748 i9 h9) 
        have F750 : ∀ i9 : Nat, i9 < nf → f450 (fk i9) = some (.inl (cy 0, 4, .inl (fc i9))) := fun i9 h9 => k452 _ _ (F749 i9 h9) 
        have F751 : ∀ i9 : Nat, i9 < nf → f688 (fk i9) = some (.inl (cy 0, 4, .inl (fc i9))) := fun i9 h9 => k690 _ _ (F750 i9 h9) 
        have F752 : ∀ i9 : Nat, i9 < nc → f1 (cn i9) = some (.inr (0, [.int (ce i9), .int (cm i9)])) := fun i9 h9 => k4 _ _ (hCn i9 h9) (z_ne (hCn i9 h9) x_fa rfl)
        have F753 : ∀ i9 : Nat, i9 < nc → f444 (cn i9) = some (.inr (0, [.int (ce i9), .int (cm i9)])) := fun i9 h9 => k446 _ _ (F752 i9 h9) 
        have F754 : ∀ i9 : Nat, i9 < nc → f450 (cn i9) = some (.inr (0, [.int (ce i9), .int (cm i9)])) := fun i9 h9 => k452 _ _ (F753 i9 h9) 
        have F755 : ∀ i9 : Nat, i9 < nc → f688 (cn i9) = some (.inr (0, [.int (ce i9), .int (cm i9)])) := fun i9 h9 => k690 _ _ (F754 i9 h9) 
        have F756 : ∀ i9 : Nat, i9 < 4 → f1 (ea i9) = some (.inr (1, [.ref (ma i9), .int (nI (sq i9))])) := fun i9 h9 => k4 _ _ (hEa i9 h9) (z_ne (hEa i9 h9) x_fa rfl)
        have F757 : ∀ i9 : Nat, i9 < 4 → f444 (ea i9) = some (.inr (1, [.ref (ma i9), .int (nI (sq i9))])) := fun i9 h9 => k446 _ _ (F756 i9 h9) 
        have F758 : ∀ i9 : Nat, i9 < 4 → f450 (ea i9) = some (.inr (1, [.ref (ma i9), .int (nI (sq i9))])) := fun i9 h9 => k452 _ _ (F757 i9 h9) 
        have F759 : ∀ i9 : Nat, i9 < 4 → f688 (ea i9) = some (.inr (1, [.ref (ma i9), .int (nI (sq i9))])) := fun i9 h9 => k690 _ _ (F758 i9 h9) 
        have F760 : ∀ i9 : Nat, i9 < 4 → f1 (ma i9) = some (.inl (cy 0, 60, .inl (mb i9))) := fun i9 h9 => k4 _ _ (hMa i9 h9) (z_ne (hMa i9 h9) x_fa rfl)
        have F761 : ∀ i9 : Nat, i9 < 4 → f444 (ma i9) = some (.inl (cy 0, 60, .inl (mb i9))) := fun i9 h9 => k446 _ _ (F760 i9 h9) 
        have F762 : ∀ i9 : Nat, i9 < 4 → f450 (ma i9) = some (.inl (cy 0, 60, .inl (mb i9))) := fun i9 h9 => k452 _ _ (F761 i9 h9) 
        have F763 : ∀ i9 : Nat, i9 < 4 → f688 (ma i9) = some (.inl (cy 0, 60, .inl (mb i9))) := fun i9 h9 => k690 _ _ (F762 i9 h9) 
        have hq : q_pair nn x y = ((-3), 0, (-1), 0) := by simp [q_pair, oF_m1 nn, h60, hOlf, hNlf, hOrt, c447, c453, c691]
        exact z_iret C hr rfl hz hS ⟨0, (-1), 0, gv, nl, gu, nn, ga, gr, fg, pt, kd, ln, pp, wg, wd, hs, bf, nf, gf, fq, fk, fz, fc, nc, gc, cn, ce, cm, sq, mb, ks, kk, kv, lk, (by rw [hq]), (by rw [hq]), (by rw [hq]), (by rw [hq]), (by rw [hq]; exact (zEV0 gv).symm), rfl, rfl, (by rw [if_neg (by decide)]), (by rw [if_neg (by decide)]), (by rw [if_neg (by decide)]), (zPP_no (by decide)), (by rw [if_neg (by decide)]), (by rw [if_neg (by decide)]), rfl, rfl, rfl, rfl, rfl, rfl, rfl, rfl, rfl, rfl, rfl, rfl, ⟨a692, a695, a699, a700, a703, a707, a711, a715, a719, a723, a727, a731, a735, F739, F743, F747, F751, F755, F759, F763, hn60, hl12, hf6, hc60, hs40, hga, hgr, hln, hk5, hk4, hfi, hpi, har, hgf, hfz, hgc, hG, hsq, hei, hmi, kne, hca, hcr, hlk⟩⟩ (Nat.le_of_ble_eq_true rfl) (Nat.le_of_ble_eq_true rfl) dX7_pair_44
    · have hOrt : oF nn y = true := oF_t hn60 hjr hrt
      have hNrt : ¬ y = (-1) := by rw [hrt]; exact z_nim1 (by omega)
      have a764 : f444 fi = some (.inr (5, [.ref al, .ref ra, .int (nI nn)])) := k446 _ _ a442 
      have a765 : f444 al = some (.inl (cy 3, 60, .inr (.inr (.inr (.inr ga))))) := k446 _ _ a443 
      refine z_callVi (As := [.int y]) C hz hS hA hl (k_X5_hasOrNone_A l D cy f444 fi al ra ga nn fg jr y a764 a765 hrt hjr hn60 hga) zyX5_hasOrNone mMX7_112 a764 zl5 rfl rfl (Nat.le_of_ble_eq_true rfl) ⟨Nat.le_of_ble_eq_true rfl, Nat.le_of_ble_eq_true rfl⟩ ⟨Nat.le_of_ble_eq_true rfl, Nat.le_of_ble_eq_true rfl⟩ dX7_pair_23 (fun r f766 H locs h767 hz hS => ?_)
      obtain ⟨rfl, k768⟩ := h767
      refine lv_if_ne (tgt := 32) hx hb dX7_pair_26 (by decide) (fun c769 => ?_) (fun c769 => ?_)
      rotate_left
      · exact absurd c769 (by decide)
      refine lv_aload_n hx hb dX7_pair_32 rfl (lv_at hl 0 rfl) ?_
      have a770 : f766 o = some (.inr (7, [.ref fa, .ref fi, .ref nu, .int (nI nl), .ref fm, .int (nI nf), .ref co, .int (nI nc), .ref en, .ref ke, .long lk])) := k768 _ _ a448 
      refine z_get (v := .ref fi) C hz a770 zl7 mFX7_19 (by decide) rfl dX7_pair_33 ?_
      by_cases h60 : nn < 60
      · have a771 : f766 fi = some (.inr (5, [.ref al, .ref ra, .int (nI nn)])) := k768 _ _ a764 
        refine z_callVi (As := []) C hz hS hA hl (k_X5_isFull_A l D cy f766 fi al ra nn a771 hn60 h60) zyX5_isFull mMX7_79 a771 zl5 rfl rfl (Nat.le_of_ble_eq_true rfl) ⟨Nat.le_of_ble_eq_true rfl, Nat.le_of_ble_eq_true rfl⟩ ⟨Nat.le_of_ble_eq_true rfl, Nat.le_of_ble_eq_true rfl⟩ dX7_pair_36 (fun r f772 H locs h773 hz hS => ?_)
        obtain ⟨rfl, k774⟩ := h773
        refine lv_if_eq (tgt := 45) hx hb dX7_pair_39 (by decide) (fun c775 => ?_) (fun c775 => ?_)
        rotate_left
        · exact absurd c775 (by decide)
        refine lv_iload_n hx hb dX7_pair_45 rfl (lv_at hl 1 rfl) ?_
        refine lv_iconst (v := (-1)) hx hb dX7_pair_46 (by decide) ?_
        refine lv_icmp_ne (tgt := 60) hx hb dX7_pair_47 (by decide) (fun c776 => ?_) (fun c776 => ?_)
        rotate_left
        · exact absurd c776 hNlf
        refine lv_aload_n hx hb dX7_pair_60 rfl (lv_at hl 0 rfl) ?_
        have a777 : f772 o = some (.inr (7, [.ref fa, .ref fi, .ref nu, .int (nI nl), .ref fm, .int (nI nf), .ref co, .int (nI nc), .ref en, .ref ke, .long lk])) := k774 _ _ a770 
        refine z_get (v := .ref fi) C hz a777 zl7 mFX7_19 (by decide) rfl dX7_pair_61 ?_
        refine z_new (fs := [.int 0, .null, .long 0, .int 0, .int 0, .int 0, .int 0]) C hz hS hA zl4 mLX7_83 mIa_RX4 mIn_RX4 (by decide +kernel) (Nat.le_of_ble_eq_true rfl) (Nat.le_of_ble_eq_true rfl) dX7_pair_64 (fun q778 H f780 u779 a781 k782 hz hS => ?_)
        refine lv_dup hx hb dX7_pair_67 rfl ?_
        refine lv_iconst (v := 4) hx hb dX7_pair_68 (by decide) ?_
        refine lv_iconst (v := 2) hx hb dX7_pair_69 (by decide) ?_
        refine z_newa (atype := .long) (t0 := 1) (N' := 2) (x := (.inr (.inl (fun _ => 0)))) C hz hS hA rfl mA_long rfl (fun _ => rfl) (by decide) (Nat.le_of_ble_eq_true rfl) (by decide) (Nat.le_of_ble_eq_true rfl) (Nat.le_of_ble_eq_true rfl) dX7_pair_70 (fun q783 H f785 u784 a786 k787 hz hS => ?_)
        refine lv_dup hx hb dX7_pair_72 rfl ?_
        refine lv_iconst (v := 0) hx hb dX7_pair_73 (by decide) ?_
        refine lv_iload_n hx hb dX7_pair_74 rfl (lv_at hl 1 rfl) ?_
        refine lv_i2l (v := x.toInt64) hx hb dX7_pair_75 rfl ?_
        refine z_last 0 C hz hS a786 (by decide) (Nat.le_of_ble_eq_true rfl) (by omega) dX7_pair_76 (fun H locs f788 a789 k790 hz hS => ?_)
        refine lv_dup hx hb dX7_pair_77 rfl ?_
        refine lv_iconst (v := 1) hx hb dX7_pair_78 (by decide) ?_
        refine lv_iload_n hx hb dX7_pair_79 rfl (lv_at hl 2 rfl) ?_
        refine lv_i2l (v := y.toInt64) hx hb dX7_pair_80 rfl ?_
        refine z_last 1 C hz hS a789 (by decide) (Nat.le_of_ble_eq_true rfl) (by omega) dX7_pair_81 (fun H locs f791 a792 k793 hz hS => ?_)
        refine lv_lconst (v := 0) hx hb dX7_pair_82 (by decide) ?_
        have a794 : f785 q778 = some (.inr (4, [.int 0, .null, .long 0, .int 0, .int 0, .int 0, .int 0])) := (k787 _ (z_nn u784 a781)).trans a781
        have a795 : f788 q778 = some (.inr (4, [.int 0, .null, .long 0, .int 0, .int 0, .int 0, .int 0])) := (k790 _ (z_nn u784 a781)).trans a794
        have a796 : f791 q778 = some (.inr (4, [.int 0, .null, .long 0, .int 0, .int 0, .int 0, .int 0])) := (k793 _ (z_nn u784 a781)).trans a795
        refine z_callIv (ret := none) (As := [.int 4, .ref q783, .long 0]) C hz hS hA hl (k_X4_init l D cy f791 q778 4 q783 0 a796 ) zyX4_init mMX7_89 rfl rfl (Nat.le_of_ble_eq_true rfl) ⟨Nat.le_of_ble_eq_true rfl, Nat.le_of_ble_eq_true rfl⟩ ⟨Nat.le_of_ble_eq_true rfl, Nat.le_of_ble_eq_true rfl⟩ dX7_pair_83 (fun  f797 H locs h798 hz hS => ?_)
        obtain ⟨a799, k800⟩ := h798
        have a801 : f772 fi = some (.inr (5, [.ref al, .ref ra, .int (nI nn)])) := k774 _ _ a771 
        have a802 : f780 fi = some (.inr (5, [.ref al, .ref ra, .int (nI nn)])) := (k782 _ (z_nn u779 a801)).trans a801
        have a803 : f785 fi = some (.inr (5, [.ref al, .ref ra, .int (nI nn)])) := (k787 _ (z_nn u784 a802)).trans a802
        have a804 : f788 fi = some (.inr (5, [.ref al, .ref ra, .int (nI nn)])) := (k790 _ (z_nn u784 a802)).trans a803
        have a805 : f791 fi = some (.inr (5, [.ref al, .ref ra, .int (nI nn)])) := (k793 _ (z_nn u784 a802)).trans a804
        have a806 : f797 fi = some (.inr (5, [.ref al, .ref ra, .int (nI nn)])) := k800 _ _ a805 (z_nn u779 a801)
        have a807 : f766 al = some (.inl (cy 3, 60, .inr (.inr (.inr (.inr ga))))) := k768 _ _ a765 
        have a808 : f772 al = some (.inl (cy 3, 60, .inr (.inr (.inr (.inr ga))))) := k774 _ _ a807 
        have a809 : f780 al = some (.inl (cy 3, 60, .inr (.inr (.inr (.inr ga))))) := (k782 _ (z_nn u779 a808)).trans a808
        have a810 : f785 al = some (.inl (cy 3, 60, .inr (.inr (.inr (.inr ga))))) := (k787 _ (z_nn u784 a809)).trans a809
        have a811 : f788 al = some (.inl (cy 3, 60, .inr (.inr (.inr (.inr ga))))) := (k790 _ (z_nn u784 a809)).trans a810
        have a812 : f791 al = some (.inl (cy 3, 60, .inr (.inr (.inr (.inr ga))))) := (k793 _ (z_nn u784 a809)).trans a811
        have a813 : f797 al = some (.inl (cy 3, 60, .inr (.inr (.inr (.inr ga))))) := k800 _ _ a812 (z_nn u779 a808)
        have a814 : f1 ra = some (.inl (cy 3, 60, .inr (.inr (.inr (.inr gr))))) := k4 _ _ x_ra (z_ne x_ra x_fa rfl)
        have a815 : f444 ra = some (.inl (cy 3, 60, .inr (.inr (.inr (.inr gr))))) := k446 _ _ a814 
        have a816 : f766 ra = some (.inl (cy 3, 60, .inr (.inr (.inr (.inr gr))))) := k768 _ _ a815 
        have a817 : f772 ra = some (.inl (cy 3, 60, .inr (.inr (.inr (.inr gr))))) := k774 _ _ a816 
        have a818 : f780 ra = some (.inl (cy 3, 60, .inr (.inr (.inr (.inr gr))))) := (k782 _ (z_nn u779 a817)).trans a817
        have a819 : f785 ra = some (.inl (cy 3, 60, .inr (.inr (.inr (.inr gr))))) := (k787 _ (z_nn u784 a818)).trans a818
        have a820 : f788 ra = some (.inl (cy 3, 60, .inr (.inr (.inr (.inr gr))))) := (k790 _ (z_nn u784 a818)).trans a819
        have a821 : f791 ra = some (.inl (cy 3, 60, .inr (.inr (.inr (.inr gr))))) := (k793 _ (z_nn u784 a818)).trans a820
        have a822 : f797 ra = some (.inl (cy 3, 60, .inr (.inr (.inr (.inr gr))))) := k800 _ _ a821 (z_nn u779 a817)
        have a823 : f797 q783 = some (.inl (cy 1, 2, .inr (.inl (vp_updL (vp_updL (fun _ => 0) 0 x.toInt64) 1 y.toInt64)))) := k800 _ _ a792 (Ne.symm (z_nn u784 a781))
        have F824 : ∀ i9 : Nat, i9 < nn → f1 (fg i9) = some (.inr (4, [.int (kd i9), .ref (pt i9), .long (wg i9), .int (wd i9), .int (nI i9), .int (hs i9), .int (bf i9)])) := fun i9 h9 => k4 _ _ (hF i9 h9) (z_ne (hF i9 h9) x_fa rfl)
        have F825 : ∀ i9 : Nat, i9 < nn → f444 (fg i9) = some (.inr (4, [.int (kd i9), .ref (pt i9), .long (wg i9), .int (wd i9), .int (nI i9), .int (hs i9), .int (bf i9)])) := fun i9 h9 => k446 _ _ (F824 i9 h9) 
        have F826 : ∀ i9 : Nat, i9 < nn → f766 (fg i9) = some (.inr (4, [.int (kd i9), .ref (pt i9), .long (wg i9), .int (wd i9), .int (nI i9), .int (hs i9), .int (bf i9)])) := fun i9 h9 => k768 _ _ (F825 i9 h9) 
        have F827 : ∀ i9 : Nat, i9 < nn → f772 (fg i9) = some (.inr (4, [.int (kd i9), .ref (pt i9), .long (wg i9), .int (wd i9), .int (nI i9), .int (hs i9), .int (bf i9)])) := fun i9 h9 => k774 _ _ (F826 i9 h9) 
        have F828 : ∀ i9 : Nat, i9 < nn → f780 (fg i9) = some (.inr (4, [.int (kd i9), .ref (pt i9), .long (wg i9), .int (wd i9), .int (nI i9), .int (hs i9), .int (bf i9)])) := fun i9 h9 => (k782 _ (z_nn u779 (F827 i9 h9))).trans (F827 i9 h9)
        have F829 : ∀ i9 : Nat, i9 < nn → f785 (fg i9) = some (.inr (4, [.int (kd i9), .ref (pt i9), .long (wg i9), .int (wd i9), .int (nI i9), .int (hs i9), .int (bf i9)])) := fun i9 h9 => (k787 _ (z_nn u784 (F828 i9 h9))).trans (F828 i9 h9)
        have F830 : ∀ i9 : Nat, i9 < nn → f788 (fg i9) = some (.inr (4, [.int (kd i9), .ref (pt i9), .long (wg i9), .int (wd i9), .int (nI i9), .int (hs i9), .int (bf i9)])) := fun i9 h9 => (k790 _ (z_nn u784 (F828 i9 h9))).trans (F829 i9 h9)
        have F831 : ∀ i9 : Nat, i9 < nn → f791 (fg i9) = some (.inr (4, [.int (kd i9), .ref (pt i9), .long (wg i9), .int (wd i9), .int (nI i9), .int (hs i9), .int (bf i9)])) := fun i9 h9 => (k793 _ (z_nn u784 (F828 i9 h9))).trans (F830 i9 h9)
        have F832 : ∀ i9 : Nat, i9 < nn → f797 (fg i9) = some (.inr (4, [.int (kd i9), .ref (pt i9), .long (wg i9), .int (wd i9), .int (nI i9), .int (hs i9), .int (bf i9)])) := fun i9 h9 => k800 _ _ (F831 i9 h9) (z_nn u779 (F827 i9 h9))
        have F833 : ∀ i9 : Nat, i9 < nn → f1 (pt i9) = some (.inl (cy 1, (ln i9), .inr (.inl (pp i9)))) := fun i9 h9 => k4 _ _ (hP i9 h9) (z_neO (hP i9 h9) x_fa rfl)
        have F834 : ∀ i9 : Nat, i9 < nn → f444 (pt i9) = some (.inl (cy 1, (ln i9), .inr (.inl (pp i9)))) := fun i9 h9 => k446 _ _ (F833 i9 h9) 
        have F835 : ∀ i9 : Nat, i9 < nn → f766 (pt i9) = some (.inl (cy 1, (ln i9), .inr (.inl (pp i9)))) := fun i9 h9 => k768 _ _ (F834 i9 h9) 
        have F836 : ∀ i9 : Nat, i9 < nn → f772 (pt i9) = some (.inl (cy 1, (ln i9), .inr (.inl (pp i9)))) := fun i9 h9 => k774 _ _ (F835 i9 h9) 
        have F837 : ∀ i9 : Nat, i9 < nn → f780 (pt i9) = some (.inl (cy 1, (ln i9), .inr (.inl (pp i9)))) := fun i9 h9 => (k782 _ (z_nn u779 (F836 i9 h9))).trans (F836 i9 h9)
        have F838 : ∀ i9 : Nat, i9 < nn → f785 (pt i9) = some (.inl (cy 1, (ln i9), .inr (.inl (pp i9)))) := fun i9 h9 => (k787 _ (z_nn u784 (F837 i9 h9))).trans (F837 i9 h9)
        have F839 : ∀ i9 : Nat, i9 < nn → f788 (pt i9) = some (.inl (cy 1, (ln i9), .inr (.inl (pp i9)))) := fun i9 h9 => (k790 _ (z_nn u784 (F837 i9 h9))).trans (F838 i9 h9)
        have F840 : ∀ i9 : Nat, i9 < nn → f791 (pt i9) = some (.inl (cy 1, (ln i9), .inr (.inl (pp i9)))) := fun i9 h9 => (k793 _ (z_nn u784 (F837 i9 h9))).trans (F839 i9 h9)
        have F841 : ∀ i9 : Nat, i9 < nn → f797 (pt i9) = some (.inl (cy 1, (ln i9), .inr (.inl (pp i9)))) := fun i9 h9 => k800 _ _ (F840 i9 h9) (z_nn u779 (F836 i9 h9))
        refine z_callVi (As := [.ref q778]) C hz hS hA hl (k_X5_add l D cy f797 fi al ra ga gr nn fg pt kd ln pp wg wd hs bf q778 4 q783 0 0 (-1) 0 0 2 (vp_updL (vp_updL (fun _ => 0) 0 x.toInt64) 1 y.toInt64) a806 a813 a822 a799 a823 F832 F841 h60 hga hgr hln hk5 hfi (fun j9 h9 => z_nn u779 (F827 j9 h9)) (by omega) (fun h9 => absurd h9 (by decide)) har (fun _ k9 h9 => by rcases (show k9 = 0 ∨ k9 = 1 by omega) with rfl | rfl; exact Or.inr ⟨jl, hjl, (z_crG (by omega) hlf)⟩; exact Or.inr ⟨jr, hjr, (z_crG (by omega) hrt)⟩)) zyX5_add mMX7_92 a806 zl5 rfl rfl (Nat.le_of_ble_eq_true rfl) ⟨Nat.le_of_ble_eq_true rfl, Nat.le_of_ble_eq_true rfl⟩ ⟨Nat.le_of_ble_eq_true rfl, Nat.le_of_ble_eq_true rfl⟩ dX7_pair_86 (fun r f842 H locs h843 hz hS => ?_)
        obtain ⟨hq_844, bq_845, gr_846, bf_847, rfl, p848, p849, a850, a851, a852, F853, F854, k855⟩ := h843
        have a856 : f780 o = some (.inr (7, [.ref fa, .ref fi, .ref nu, .int (nI nl), .ref fm, .int (nI nf), .ref co, .int (nI nc), .ref en, .ref ke, .long lk])) := (k782 _ (z_nn u779 a777)).trans a777
        have a857 : f785 o = some (.inr (7, [.ref fa, .ref fi, .ref nu, .int (nI nl), .ref fm, .int (nI nf), .ref co, .int (nI nc), .ref en, .ref ke, .long lk])) := (k787 _ (z_nn u784 a856)).trans a856
        have a858 : f788 o = some (.inr (7, [.ref fa, .ref fi, .ref nu, .int (nI nl), .ref fm, .int (nI nf), .ref co, .int (nI nc), .ref en, .ref ke, .long lk])) := (k790 _ (z_nn u784 a856)).trans a857
        have a859 : f791 o = some (.inr (7, [.ref fa, .ref fi, .ref nu, .int (nI nl), .ref fm, .int (nI nf), .ref co, .int (nI nc), .ref en, .ref ke, .long lk])) := (k793 _ (z_nn u784 a856)).trans a858
        have a860 : f797 o = some (.inr (7, [.ref fa, .ref fi, .ref nu, .int (nI nl), .ref fm, .int (nI nf), .ref co, .int (nI nc), .ref en, .ref ke, .long lk])) := k800 _ _ a859 (z_nn u779 a777)
        have a861 : f842 o = some (.inr (7, [.ref fa, .ref fi, .ref nu, .int (nI nl), .ref fm, .int (nI nf), .ref co, .int (nI nc), .ref en, .ref ke, .long lk])) := k855 _ _ a860 (z_ne a860 a806 rfl) (z_ne a860 a813 rfl) (z_ne a860 a822 rfl) (z_nn u779 a777) (fun j9 h8 => (z_ne a860 (F832 j9 h8) rfl))
        have a862 : f444 fa = some (.inr (2, [.int 0, .int (-1), .int 0, .ref ev])) := k446 _ _ a3 
        have a863 : f766 fa = some (.inr (2, [.int 0, .int (-1), .int 0, .ref ev])) := k768 _ _ a862 
        have a864 : f772 fa = some (.inr (2, [.int 0, .int (-1), .int 0, .ref ev])) := k774 _ _ a863 
        have a865 : f780 fa = some (.inr (2, [.int 0, .int (-1), .int 0, .ref ev])) := (k782 _ (z_nn u779 a864)).trans a864
        have a866 : f785 fa = some (.inr (2, [.int 0, .int (-1), .int 0, .ref ev])) := (k787 _ (z_nn u784 a865)).trans a865
        have a867 : f788 fa = some (.inr (2, [.int 0, .int (-1), .int 0, .ref ev])) := (k790 _ (z_nn u784 a865)).trans a866
        have a868 : f791 fa = some (.inr (2, [.int 0, .int (-1), .int 0, .ref ev])) := (k793 _ (z_nn u784 a865)).trans a867
        have a869 : f797 fa = some (.inr (2, [.int 0, .int (-1), .int 0, .ref ev])) := k800 _ _ a868 (z_nn u779 a864)
        have a870 : f842 fa = some (.inr (2, [.int 0, .int (-1), .int 0, .ref ev])) := k855 _ _ a869 (z_ne a869 a806 rfl) (z_ne a869 a813 rfl) (z_ne a869 a822 rfl) (z_nn u779 a864) (fun j9 h8 => (z_ne a869 (F832 j9 h8) rfl))
        have a871 : f1 ev = some (.inl (cy 0, 8, .inl gv)) := k4 _ _ x_ev (z_ne x_ev x_fa rfl)
        have a872 : f444 ev = some (.inl (cy 0, 8, .inl gv)) := k446 _ _ a871 
        have a873 : f766 ev = some (.inl (cy 0, 8, .inl gv)) := k768 _ _ a872 
        have a874 : f772 ev = some (.inl (cy 0, 8, .inl gv)) := k774 _ _ a873 
        have a875 : f780 ev = some (.inl (cy 0, 8, .inl gv)) := (k782 _ (z_nn u779 a874)).trans a874
        have a876 : f785 ev = some (.inl (cy 0, 8, .inl gv)) := (k787 _ (z_nn u784 a875)).trans a875
        have a877 : f788 ev = some (.inl (cy 0, 8, .inl gv)) := (k790 _ (z_nn u784 a875)).trans a876
        have a878 : f791 ev = some (.inl (cy 0, 8, .inl gv)) := (k793 _ (z_nn u784 a875)).trans a877
        have a879 : f797 ev = some (.inl (cy 0, 8, .inl gv)) := k800 _ _ a878 (z_nn u779 a874)
        have a880 : f842 ev = some (.inl (cy 0, 8, .inl gv)) := k855 _ _ a879 (z_ne a879 a806 rfl) (z_ne a879 a813 rfl) (z_ne a879 a822 rfl) (z_nn u779 a874) (fun j9 h8 => (z_ne a879 (F832 j9 h8) rfl))
        have a881 : f1 nu = some (.inl (cy 0, 12, .inl gu)) := k4 _ _ x_nu (z_ne x_nu x_fa rfl)
        have a882 : f444 nu = some (.inl (cy 0, 12, .inl gu)) := k446 _ _ a881 
        have a883 : f766 nu = some (.inl (cy 0, 12, .inl gu)) := k768 _ _ a882 
        have a884 : f772 nu = some (.inl (cy 0, 12, .inl gu)) := k774 _ _ a883 
        have a885 : f780 nu = some (.inl (cy 0, 12, .inl gu)) := (k782 _ (z_nn u779 a884)).trans a884
        have a886 : f785 nu = some (.inl (cy 0, 12, .inl gu)) := (k787 _ (z_nn u784 a885)).trans a885
        have a887 : f788 nu = some (.inl (cy 0, 12, .inl gu)) := (k790 _ (z_nn u784 a885)).trans a886
        have a888 : f791 nu = some (.inl (cy 0, 12, .inl gu)) := (k793 _ (z_nn u784 a885)).trans a887
        have a889 : f797 nu = some (.inl (cy 0, 12, .inl gu)) := k800 _ _ a888 (z_nn u779 a884)
        have a890 : f842 nu = some (.inl (cy 0, 12, .inl gu)) := k855 _ _ a889 (z_ne a889 a806 rfl) (z_ne a889 a813 rfl) (z_ne a889 a822 rfl) (z_nn u779 a884) (fun j9 h8 => (z_ne a889 (F832 j9 h8) rfl))
        have a891 : f1 fm = some (.inl (cy 4, 6, .inr (.inr (.inr (.inr gf))))) := k4 _ _ x_fm (z_ne x_fm x_fa rfl)
        have a892 : f444 fm = some (.inl (cy 4, 6, .inr (.inr (.inr (.inr gf))))) := k446 _ _ a891 
        have a893 : f766 fm = some (.inl (cy 4, 6, .inr (.inr (.inr (.inr gf))))) := k768 _ _ a892 
        have a894 : f772 fm = some (.inl (cy 4, 6, .inr (.inr (.inr (.inr gf))))) := k774 _ _ a893 
        have a895 : f780 fm = some (.inl (cy 4, 6, .inr (.inr (.inr (.inr gf))))) := (k782 _ (z_nn u779 a894)).trans a894
        have a896 : f785 fm = some (.inl (cy 4, 6, .inr (.inr (.inr (.inr gf))))) := (k787 _ (z_nn u784 a895)).trans a895
        have a897 : f788 fm = some (.inl (cy 4, 6, .inr (.inr (.inr (.inr gf))))) := (k790 _ (z_nn u784 a895)).trans a896
        have a898 : f791 fm = some (.inl (cy 4, 6, .inr (.inr (.inr (.inr gf))))) := (k793 _ (z_nn u784 a895)).trans a897
        have a899 : f797 fm = some (.inl (cy 4, 6, .inr (.inr (.inr (.inr gf))))) := k800 _ _ a898 (z_nn u779 a894)
        have a900 : f842 fm = some (.inl (cy 4, 6, .inr (.inr (.inr (.inr gf))))) := k855 _ _ a899 (z_ne a899 a806 rfl) (z_ne a899 a813 rfl) (z_ne a899 a822 rfl) (z_nn u779 a894) (fun j9 h8 => (z_ne a899 (F832 j9 h8) rfl))
        have a901 : f1 co = some (.inl (cy 5, 60, .inr (.inr (.inr (.inr gc))))) := k4 _ _ x_co (z_ne x_co x_fa rfl)
        have a902 : f444 co = some (.inl (cy 5, 60, .inr (.inr (.inr (.inr gc))))) := k446 _ _ a901 
        have a903 : f766 co = some (.inl (cy 5, 60, .inr (.inr (.inr (.inr gc))))) := k768 _ _ a902 
        have a904 : f772 co = some (.inl (cy 5, 60, .inr (.inr (.inr (.inr gc))))) := k774 _ _ a903 
        have a905 : f780 co = some (.inl (cy 5, 60, .inr (.inr (.inr (.inr gc))))) := (k782 _ (z_nn u779 a904)).trans a904
        have a906 : f785 co = some (.inl (cy 5, 60, .inr (.inr (.inr (.inr gc))))) := (k787 _ (z_nn u784 a905)).trans a905
        have a907 : f788 co = some (.inl (cy 5, 60, .inr (.inr (.inr (.inr gc))))) := (k790 _ (z_nn u784 a905)).trans a906
        have a908 : f791 co = some (.inl (cy 5, 60, .inr (.inr (.inr (.inr gc))))) := (k793 _ (z_nn u784 a905)).trans a907
        have a909 : f797 co = some (.inl (cy 5, 60, .inr (.inr (.inr (.inr gc))))) := k800 _ _ a908 (z_nn u779 a904)
        have a910 : f842 co = some (.inl (cy 5, 60, .inr (.inr (.inr (.inr gc))))) := k855 _ _ a909 (z_ne a909 a806 rfl) hca hcr (z_nn u779 a904) (fun j9 h8 => (z_ne a909 (F832 j9 h8) rfl))
        have a911 : f1 en = some (.inl (cy 6, 4, .inr (.inr (.inr (.inr ge))))) := k4 _ _ x_en (z_ne x_en x_fa rfl)
        have a912 : f444 en = some (.inl (cy 6, 4, .inr (.inr (.inr (.inr ge))))) := k446 _ _ a911 
        have a913 : f766 en = some (.inl (cy 6, 4, .inr (.inr (.inr (.inr ge))))) := k768 _ _ a912 
        have a914 : f772 en = some (.inl (cy 6, 4, .inr (.inr (.inr (.inr ge))))) := k774 _ _ a913 
        have a915 : f780 en = some (.inl (cy 6, 4, .inr (.inr (.inr (.inr ge))))) := (k782 _ (z_nn u779 a914)).trans a914
        have a916 : f785 en = some (.inl (cy 6, 4, .inr (.inr (.inr (.inr ge))))) := (k787 _ (z_nn u784 a915)).trans a915
        have a917 : f788 en = some (.inl (cy 6, 4, .inr (.inr (.inr (.inr ge))))) := (k790 _ (z_nn u784 a915)).trans a916
        have a918 : f791 en = some (.inl (cy 6, 4, .inr (.inr (.inr (.inr ge))))) := (k793 _ (z_nn u784 a915)).trans a917
        have a919 : f797 en = some (.inl (cy 6, 4, .inr (.inr (.inr (.inr ge))))) := k800 _ _ a918 (z_nn u779 a914)
        have a920 : f842 en = some (.inl (cy 6, 4, .inr (.inr (.inr (.inr ge))))) := k855 _ _ a919 (z_ne a919 a806 rfl) (z_ne a919 a813 rfl) (z_ne a919 a822 rfl) (z_nn u779 a914) (fun j9 h8 => (z_ne a919 (F832 j9 h8) rfl))
        have a921 : f1 ke = some (.inr (6, [.ref kn, .ref vq, .int (nI ks)])) := k4 _ _ x_ke (z_ne x_ke x_fa rfl)
        have a922 : f444 ke = some (.inr (6, [.ref kn, .ref vq, .int (nI ks)])) := k446 _ _ a921 
        have a923 : f766 ke = some (.inr (6, [.ref kn, .ref vq, .int (nI ks)])) := k768 _ _ a922 
        have a924 : f772 ke = some (.inr (6, [.ref kn, .ref vq, .int (nI ks)])) := k774 _ _ a923 
        have a925 : f780 ke = some (.inr (6, [.ref kn, .ref vq, .int (nI ks)])) := (k782 _ (z_nn u779 a924)).trans a924
        have a926 : f785 ke = some (.inr (6, [.ref kn, .ref vq, .int (nI ks)])) := (k787 _ (z_nn u784 a925)).trans a925
        have a927 : f788 ke = some (.inr (6, [.ref kn, .ref vq, .int (nI ks)])) := (k790 _ (z_nn u784 a925)).trans a926
        have a928 : f791 ke = some (.inr (6, [.ref kn, .ref vq, .int (nI ks)])) := (k793 _ (z_nn u784 a925)).trans a927
        have a929 : f797 ke = some (.inr (6, [.ref kn, .ref vq, .int (nI ks)])) := k800 _ _ a928 (z_nn u779 a924)
        have a930 : f842 ke = some (.inr (6, [.ref kn, .ref vq, .int (nI ks)])) := k855 _ _ a929 (z_ne a929 a806 rfl) (z_ne a929 a813 rfl) (z_ne a929 a822 rfl) (z_nn u779 a924) (fun j9 h8 => (z_ne a929 (F832 j9 h8) rfl))
        have a931 : f1 kn = some (.inl (cy 0, 40, .inl kk)) := k4 _ _ x_kn (z_ne x_kn x_fa rfl)
        have a932 : f444 kn = some (.inl (cy 0, 40, .inl kk)) := k446 _ _ a931 
        have a933 : f766 kn = some (.inl (cy 0, 40, .inl kk)) := k768 _ _ a932 
        have a934 : f772 kn = some (.inl (cy 0, 40, .inl kk)) := k774 _ _ a933 
        have a935 : f780 kn = some (.inl (cy 0, 40, .inl kk)) := (k782 _ (z_nn u779 a934)).trans a934
        have a936 : f785 kn = some (.inl (cy 0, 40, .inl kk)) := (k787 _ (z_nn u784 a935)).trans a935
        have a937 : f788 kn = some (.inl (cy 0, 40, .inl kk)) := (k790 _ (z_nn u784 a935)).trans a936
        have a938 : f791 kn = some (.inl (cy 0, 40, .inl kk)) := (k793 _ (z_nn u784 a935)).trans a937
        have a939 : f797 kn = some (.inl (cy 0, 40, .inl kk)) := k800 _ _ a938 (z_nn u779 a934)
        have a940 : f842 kn = some (.inl (cy 0, 40, .inl kk)) := k855 _ _ a939 (z_ne a939 a806 rfl) (z_ne a939 a813 rfl) (z_ne a939 a822 rfl) (z_nn u779 a934) (fun j9 h8 => (z_ne a939 (F832 j9 h8) rfl))
        have a941 : f1 vq = some (.inl (cy 0, 40, .inl kv)) := k4 _ _ x_vq (z_ne x_vq x_fa rfl)
        have a942 : f444 vq = some (.inl (cy 0, 40, .inl kv)) := k446 _ _ a941 
        have a943 : f766 vq = some (.inl (cy 0, 40, .inl kv)) := k768 _ _ a942 
        have a944 : f772 vq = some (.inl (cy 0, 40, .inl kv)) := k774 _ _ a943 
        have a945 : f780 vq = some (.inl (cy 0, 40, .inl kv)) := (k782 _ (z_nn u779 a944)).trans a944
        have a946 : f785 vq = some (.inl (cy 0, 40, .inl kv)) := (k787 _ (z_nn u784 a945)).trans a945
        have a947 : f788 vq = some (.inl (cy 0, 40, .inl kv)) := (k790 _ (z_nn u784 a945)).trans a946
        have a948 : f791 vq = some (.inl (cy 0, 40, .inl kv)) := (k793 _ (z_nn u784 a945)).trans a947
        have a949 : f797 vq = some (.inl (cy 0, 40, .inl kv)) := k800 _ _ a948 (z_nn u779 a944)
        have a950 : f842 vq = some (.inl (cy 0, 40, .inl kv)) := k855 _ _ a949 (z_ne a949 a806 rfl) (z_ne a949 a813 rfl) (z_ne a949 a822 rfl) (z_nn u779 a944) (fun j9 h8 => (z_ne a949 (F832 j9 h8) rfl))
        have F951 : ∀ i9 : Nat, i9 < nf → f1 (fq i9) = some (.inr (3, [.ref (fk i9), .int (nI (fz i9))])) := fun i9 h9 => k4 _ _ (hFq i9 h9) (z_ne (hFq i9 h9) x_fa rfl)
        have F952 : ∀ i9 : Nat, i9 < nf → f444 (fq i9) = some (.inr (3, [.ref (fk i9), .int (nI (fz i9))])) := fun i9 h9 => k446 _ _ (F951 i9 h9) 
        have F953 : ∀ i9 : Nat, i9 < nf → f766 (fq i9) = some (.inr (3, [.ref (fk i9), .int (nI (fz i9))])) := fun i9 h9 => k768 _ _ (F952 i9 h9) 
        have F954 : ∀ i9 : Nat, i9 < nf → f772 (fq i9) = some (.inr (3, [.ref (fk i9), .int (nI (fz i9))])) := fun i9 h9 => k774 _ _ (F953 i9 h9) 
        have F955 : ∀ i9 : Nat, i9 < nf → f780 (fq i9) = some (.inr (3, [.ref (fk i9), .int (nI (fz i9))])) := fun i9 h9 => (k782 _ (z_nn u779 (F954 i9 h9))).trans (F954 i9 h9)
        have F956 : ∀ i9 : Nat, i9 < nf → f785 (fq i9) = some (.inr (3, [.ref (fk i9), .int (nI (fz i9))])) := fun i9 h9 => (k787 _ (z_nn u784 (F955 i9 h9))).trans (F955 i9 h9)
        have F957 : ∀ i9 : Nat, i9 < nf → f788 (fq i9) = some (.inr (3, [.ref (fk i9), .int (nI (fz i9))])) := fun i9 h9 => (k790 _ (z_nn u784 (F955 i9 h9))).trans (F956 i9 h9)
        have F958 : ∀ i9 : Nat, i9 < nf → f791 (fq i9) = some (.inr (3, [.ref (fk i9), .int (nI (fz i9))])) := fun i9 h9 => (k793 _ (z_nn u784 (F955 i9 h9))).trans (F957 i9 h9)
        have F959 : ∀ i9 : Nat, i9 < nf → f797 (fq i9) = some (.inr (3, [.ref (fk i9), .int (nI (fz i9))])) := fun i9 h9 => k800 _ _ (F958 i9 h9) (z_nn u779 (F954 i9 h9))
        have F960 : ∀ i9 : Nat, i9 < nf → f842 (fq i9) = some (.inr (3, [.ref (fk i9), .int (nI (fz i9))])) := fun i9 h9 => k855 _ _ (F959 i9 h9) (z_ne (F959 i9 h9) a806 rfl) (z_ne (F959 i9 h9) a813 rfl) (z_ne (F959 i9 h9) a822 rfl) (z_nn u779 (F954 i9 h9)) (fun j9 h8 => (z_ne (F959 i9 h9) (F832 j9 h8) rfl))
        have F961 : ∀ i9 : Nat, i9 < nf → f1 (fk i9) = some (.inl (cy 0, 4, .inl (fc i9))) := fun i9 h9 => k4 _ _ (hFk i9 h9) (z_ne (hFk i9 h9) x_fa rfl)
        have F962 : ∀ i9 : Nat, i9 < nf → f444 (fk i9) = some (.inl (cy 0, 4, .inl (fc i9))) := fun i9 h9 => k446 _ _ (F961 i9 h9) 
        have F963 : ∀ i9 : Nat, i9 < nf → f766 (fk i9) = some (.inl (cy 0, 4, .inl (fc i9))) := fun i9 h9 => k768 _ _ (F962 i9 h9) 
        have F964 : ∀ i9 : Nat, i9 < nf → f772 (fk i9) = some (.inl (cy 0, 4, .inl (fc i9))) := fun i9 h9 => k774 _ _ (F963 i9 h9) 
        have F965 : ∀ i9 : Nat, i9 < nf → f780 (fk i9) = some (.inl (cy 0, 4, .inl (fc i9))) := fun i9 h9 => (k782 _ (z_nn u779 (F964 i9 h9))).trans (F964 i9 h9)
        have F966 : ∀ i9 : Nat, i9 < nf → f785 (fk i9) = some (.inl (cy 0, 4, .inl (fc i9))) := fun i9 h9 => (k787 _ (z_nn u784 (F965 i9 h9))).trans (F965 i9 h9)
        have F967 : ∀ i9 : Nat, i9 < nf → f788 (fk i9) = some (.inl (cy 0, 4, .inl (fc i9))) := fun i9 h9 => (k790 _ (z_nn u784 (F965 i9 h9))).trans (F966 i9 h9)
        have F968 : ∀ i9 : Nat, i9 < nf → f791 (fk i9) = some (.inl (cy 0, 4, .inl (fc i9))) := fun i9 h9 => (k793 _ (z_nn u784 (F965 i9 h9))).trans (F967 i9 h9)
        have F969 : ∀ i9 : Nat, i9 < nf → f797 (fk i9) = some (.inl (cy 0, 4, .inl (fc i9))) := fun i9 h9 => k800 _ _ (F968 i9 h9) (z_nn u779 (F964 i9 h9))
        have F970 : ∀ i9 : Nat, i9 < nf → f842 (fk i9) = some (.inl (cy 0, 4, .inl (fc i9))) := fun i9 h9 => k855 _ _ (F969 i9 h9) (z_ne (F969 i9 h9) a806 rfl) (z_ne (F969 i9 h9) a813 rfl) (z_ne (F969 i9 h9) a822 rfl) (z_nn u779 (F964 i9 h9)) (fun j9 h8 => (z_ne (F969 i9 h9) (F832 j9 h8) rfl))
        have F971 : ∀ i9 : Nat, i9 < nc → f1 (cn i9) = some (.inr (0, [.int (ce i9), .int (cm i9)])) := fun i9 h9 => k4 _ _ (hCn i9 h9) (z_ne (hCn i9 h9) x_fa rfl)
        have F972 : ∀ i9 : Nat, i9 < nc → f444 (cn i9) = some (.inr (0, [.int (ce i9), .int (cm i9)])) := fun i9 h9 => k446 _ _ (F971 i9 h9) 
        have F973 : ∀ i9 : Nat, i9 < nc → f766 (cn i9) = some (.inr (0, [.int (ce i9), .int (cm i9)])) := fun i9 h9 => k768 _ _ (F972 i9 h9) 
        have F974 : ∀ i9 : Nat, i9 < nc → f772 (cn i9) = some (.inr (0, [.int (ce i9), .int (cm i9)])) := fun i9 h9 => k774 _ _ (F973 i9 h9) 
        have F975 : ∀ i9 : Nat, i9 < nc → f780 (cn i9) = some (.inr (0, [.int (ce i9), .int (cm i9)])) := fun i9 h9 => (k782 _ (z_nn u779 (F974 i9 h9))).trans (F974 i9 h9)
        have F976 : ∀ i9 : Nat, i9 < nc → f785 (cn i9) = some (.inr (0, [.int (ce i9), .int (cm i9)])) := fun i9 h9 => (k787 _ (z_nn u784 (F975 i9 h9))).trans (F975 i9 h9)
        have F977 : ∀ i9 : Nat, i9 < nc → f788 (cn i9) = some (.inr (0, [.int (ce i9), .int (cm i9)])) := fun i9 h9 => (k790 _ (z_nn u784 (F975 i9 h9))).trans (F976 i9 h9)
        have F978 : ∀ i9 : Nat, i9 < nc → f791 (cn i9) = some (.inr (0, [.int (ce i9), .int (cm i9)])) := fun i9 h9 => (k793 _ (z_nn u784 (F975 i9 h9))).trans (F977 i9 h9)
        have F979 : ∀ i9 : Nat, i9 < nc → f797 (cn i9) = some (.inr (0, [.int (ce i9), .int (cm i9)])) := fun i9 h9 => k800 _ _ (F978 i9 h9) (z_nn u779 (F974 i9 h9))
        have F980 : ∀ i9 : Nat, i9 < nc → f842 (cn i9) = some (.inr (0, [.int (ce i9), .int (cm i9)])) := fun i9 h9 => k855 _ _ (F979 i9 h9) (z_ne (F979 i9 h9) a806 rfl) (z_ne (F979 i9 h9) a813 rfl) (z_ne (F979 i9 h9) a822 rfl) (z_nn u779 (F974 i9 h9)) (fun j9 h8 => (z_ne (F979 i9 h9) (F832 j9 h8) rfl))
        have F981 : ∀ i9 : Nat, i9 < 4 → f1 (ea i9) = some (.inr (1, [.ref (ma i9), .int (nI (sq i9))])) := fun i9 h9 => k4 _ _ (hEa i9 h9) (z_ne (hEa i9 h9) x_fa rfl)
        have F982 : ∀ i9 : Nat, i9 < 4 → f444 (ea i9) = some (.inr (1, [.ref (ma i9), .int (nI (sq i9))])) := fun i9 h9 => k446 _ _ (F981 i9 h9) 
        have F983 : ∀ i9 : Nat, i9 < 4 → f766 (ea i9) = some (.inr (1, [.ref (ma i9), .int (nI (sq i9))])) := fun i9 h9 => k768 _ _ (F982 i9 h9) 
        have F984 : ∀ i9 : Nat, i9 < 4 → f772 (ea i9) = some (.inr (1, [.ref (ma i9), .int (nI (sq i9))])) := fun i9 h9 => k774 _ _ (F983 i9 h9) 
        have F985 : ∀ i9 : Nat, i9 < 4 → f780 (ea i9) = some (.inr (1, [.ref (ma i9), .int (nI (sq i9))])) := fun i9 h9 => (k782 _ (z_nn u779 (F984 i9 h9))).trans (F984 i9 h9)
        have F986 : ∀ i9 : Nat, i9 < 4 → f785 (ea i9) = some (.inr (1, [.ref (ma i9), .int (nI (sq i9))])) := fun i9 h9 => (k787 _ (z_nn u784 (F985 i9 h9))).trans (F985 i9 h9)
        have F987 : ∀ i9 : Nat, i9 < 4 → f788 (ea i9) = some (.inr (1, [.ref (ma i9), .int (nI (sq i9))])) := fun i9 h9 => (k790 _ (z_nn u784 (F985 i9 h9))).trans (F986 i9 h9)
        have F988 : ∀ i9 : Nat, i9 < 4 → f791 (ea i9) = some (.inr (1, [.ref (ma i9), .int (nI (sq i9))])) := fun i9 h9 => (k793 _ (z_nn u784 (F985 i9 h9))).trans (F987 i9 h9)
        have F989 : ∀ i9 : Nat, i9 < 4 → f797 (ea i9) = some (.inr (1, [.ref (ma i9), .int (nI (sq i9))])) := fun i9 h9 => k800 _ _ (F988 i9 h9) (z_nn u779 (F984 i9 h9))
        have F990 : ∀ i9 : Nat, i9 < 4 → f842 (ea i9) = some (.inr (1, [.ref (ma i9), .int (nI (sq i9))])) := fun i9 h9 => k855 _ _ (F989 i9 h9) (z_ne (F989 i9 h9) a806 rfl) (z_ne (F989 i9 h9) a813 rfl) (z_ne (F989 i9 h9) a822 rfl) (z_nn u779 (F984 i9 h9)) (fun j9 h8 => (z_ne (F989 i9 h9) (F832 j9 h8) rfl))
        have F991 : ∀ i9 : Nat, i9 < 4 → f1 (ma i9) = some (.inl (cy 0, 60, .inl (mb i9))) := fun i9 h9 => k4 _ _ (hMa i9 h9) (z_ne (hMa i9 h9) x_fa rfl)
        have F992 : ∀ i9 : Nat, i9 < 4 → f444 (ma i9) = some (.inl (cy 0, 60, .inl (mb i9))) := fun i9 h9 => k446 _ _ (F991 i9 h9) 
        have F993 : ∀ i9 : Nat, i9 < 4 → f766 (ma i9) = some (.inl (cy 0, 60, .inl (mb i9))) := fun i9 h9 => k768 _ _ (F992 i9 h9) 
        have F994 : ∀ i9 : Nat, i9 < 4 → f772 (ma i9) = some (.inl (cy 0, 60, .inl (mb i9))) := fun i9 h9 => k774 _ _ (F993 i9 h9) 
        have F995 : ∀ i9 : Nat, i9 < 4 → f780 (ma i9) = some (.inl (cy 0, 60, .inl (mb i9))) := fun i9 h9 => (k782 _ (z_nn u779 (F994 i9 h9))).trans (F994 i9 h9)
        have F996 : ∀ i9 : Nat, i9 < 4 → f785 (ma i9) = some (.inl (cy 0, 60, .inl (mb i9))) := fun i9 h9 => (k787 _ (z_nn u784 (F995 i9 h9))).trans (F995 i9 h9)
        have F997 : ∀ i9 : Nat, i9 < 4 → f788 (ma i9) = some (.inl (cy 0, 60, .inl (mb i9))) := fun i9 h9 => (k790 _ (z_nn u784 (F995 i9 h9))).trans (F996 i9 h9)
        have F998 : ∀ i9 : Nat, i9 < 4 → f791 (ma i9) = some (.inl (cy 0, 60, .inl (mb i9))) := fun i9 h9 => (k793 _ (z_nn u784 (F995 i9 h9))).trans (F997 i9 h9)
        have F999 : ∀ i9 : Nat, i9 < 4 → f797 (ma i9) = some (.inl (cy 0, 60, .inl (mb i9))) := fun i9 h9 => k800 _ _ (F998 i9 h9) (z_nn u779 (F994 i9 h9))
        have F1000 : ∀ i9 : Nat, i9 < 4 → f842 (ma i9) = some (.inl (cy 0, 60, .inl (mb i9))) := fun i9 h9 => k855 _ _ (F999 i9 h9) (z_ne (F999 i9 h9) a806 rfl) (z_ne (F999 i9 h9) a813 rfl) (z_ne (F999 i9 h9) a822 rfl) (z_nn u779 (F994 i9 h9)) (fun j9 h8 => (z_ne (F999 i9 h9) (F832 j9 h8) rfl))
        have a1001 : f842 q783 = some (.inl (cy 1, 2, .inr (.inl (vp_updL (vp_updL (fun _ => 0) 0 x.toInt64) 1 y.toInt64)))) := k855 _ _ a823 (Ne.symm (z_nn u784 a802)) (Ne.symm (z_nn u784 a809)) (Ne.symm (z_nn u784 a818)) (Ne.symm (z_nn u784 a781)) (fun j9 h8 => (z_ne a823 (F832 j9 h8) rfl))
        have hgpf : ∀ j, j < 2 → (vp_updL (vp_updL (fun _ => 0) 0 x.toInt64) 1 y.toInt64) j = (q2 x.toInt64 y.toInt64) j := (z_j2 _ _ _)
        have hq : q_pair nn x y = (nI nn, 0, (-1), 0) := by simp [q_pair, oF_m1 nn, h60, hOlf, hNlf, hOrt, hNrt, c447, c769, c775, c776]
        exact z_iret C hr rfl hz hS ⟨0, (-1), 0, gv, nl, gu, (nn + 1), (va_up ga nn (some q778)), gr_846, (va_up fg nn q778), (va_up pt nn q783), (va_up kd nn 4), (va_up ln nn 2), (va_up pp nn (vp_updL (vp_updL (fun _ => 0) 0 x.toInt64) 1 y.toInt64)), (va_up wg nn 0), (va_up wd nn 0), (va_up hs nn hq_844), (va_up bf_847 nn bq_845), nf, gf, fq, fk, fz, fc, nc, gc, cn, ce, cm, sq, mb, ks, kk, kv, lk, (by rw [hq]), (by rw [hq]), (by rw [hq]), (by rw [hq]), (by rw [hq]; exact (zEV0 gv).symm), rfl, rfl, (by rw [if_pos (nI_pos' (by omega))]), (by rw [if_pos (nI_pos' (by omega))]), (by rw [if_pos (nI_pos' (by omega))]), (zPP_new hgpf), (by rw [if_pos (nI_pos' (by omega))]), (by rw [if_pos (nI_pos' (by omega)), p848, zHash_congr (gp' := q2 x.toInt64 y.toInt64) hgpf]), rfl, rfl, rfl, rfl, rfl, rfl, rfl, rfl, rfl, rfl, rfl, rfl, ⟨a861, a870, a880, a850, a851, a852, a890, a900, a910, a920, a930, a940, a950, F853, F854, F960, F970, F980, F990, F1000, (by omega), hl12, hf6, hc60, hs40, (z_ga1 hga), (z_gr1 p849), (z_up1 (P := fun _ a9 => a9 ≤ 15) hln (by omega)), (z_up2 (P := fun (a9 : Int32) (b9 : Nat) => a9 = 5 → 3 ≤ b9) hk5 (fun h9 => absurd h9 (by decide))), (z_up2 (P := fun (a9 : Int32) (b9 : Nat) => a9 = 4 → 2 ≤ b9) hk4 (fun _ => by omega)), (z_inj1 hfi (fun j9 h9 => z_nn u779 (F827 j9 h9))), (z_inj1 hpi (fun j9 h9 => z_nn u784 (F837 j9 h9))), har, hgf, hfz, hgc, hG, hsq, hei, hmi, kne, hca, hcr, hlk⟩⟩ (Nat.le_of_ble_eq_true rfl) (Nat.le_of_ble_eq_true rfl) dX7_pair_89
      · have a1002 : f766 fi = some (.inr (5, [.ref al, .ref ra, .int (nI nn)])) := k768 _ _ a764 
        refine z_callVi (As := []) C hz hS hA hl (k_X5_isFull_B l D cy f766 fi al ra nn a1002 hn60 h60) zyX5_isFull mMX7_79 a1002 zl5 rfl rfl (Nat.le_of_ble_eq_true rfl) ⟨Nat.le_of_ble_eq_true rfl, Nat.le_of_ble_eq_true rfl⟩ ⟨Nat.le_of_ble_eq_true rfl, Nat.le_of_ble_eq_true rfl⟩ dX7_pair_36 (fun r f1003 H locs h1004 hz hS => ?_)
        obtain ⟨rfl, k1005⟩ := h1004
        refine lv_if_eq (tgt := 45) hx hb dX7_pair_39 (by decide) (fun c1006 => ?_) (fun c1006 => ?_)
        · exact absurd c1006 (by decide)
        refine lv_bipush (v := (-3)) hx hb dX7_pair_42 (by decide) ?_
        have a1007 : f1003 o = some (.inr (7, [.ref fa, .ref fi, .ref nu, .int (nI nl), .ref fm, .int (nI nf), .ref co, .int (nI nc), .ref en, .ref ke, .long lk])) := k1005 _ _ a770 
        have a1008 : f444 fa = some (.inr (2, [.int 0, .int (-1), .int 0, .ref ev])) := k446 _ _ a3 
        have a1009 : f766 fa = some (.inr (2, [.int 0, .int (-1), .int 0, .ref ev])) := k768 _ _ a1008 
        have a1010 : f1003 fa = some (.inr (2, [.int 0, .int (-1), .int 0, .ref ev])) := k1005 _ _ a1009 
        have a1011 : f1 ev = some (.inl (cy 0, 8, .inl gv)) := k4 _ _ x_ev (z_ne x_ev x_fa rfl)
        have a1012 : f444 ev = some (.inl (cy 0, 8, .inl gv)) := k446 _ _ a1011 
        have a1013 : f766 ev = some (.inl (cy 0, 8, .inl gv)) := k768 _ _ a1012 
        have a1014 : f1003 ev = some (.inl (cy 0, 8, .inl gv)) := k1005 _ _ a1013 
        have a1015 : f1003 fi = some (.inr (5, [.ref al, .ref ra, .int (nI nn)])) := k1005 _ _ a1002 
        have a1016 : f766 al = some (.inl (cy 3, 60, .inr (.inr (.inr (.inr ga))))) := k768 _ _ a765 
        have a1017 : f1003 al = some (.inl (cy 3, 60, .inr (.inr (.inr (.inr ga))))) := k1005 _ _ a1016 
        have a1018 : f1 ra = some (.inl (cy 3, 60, .inr (.inr (.inr (.inr gr))))) := k4 _ _ x_ra (z_ne x_ra x_fa rfl)
        have a1019 : f444 ra = some (.inl (cy 3, 60, .inr (.inr (.inr (.inr gr))))) := k446 _ _ a1018 
        have a1020 : f766 ra = some (.inl (cy 3, 60, .inr (.inr (.inr (.inr gr))))) := k768 _ _ a1019 
        have a1021 : f1003 ra = some (.inl (cy 3, 60, .inr (.inr (.inr (.inr gr))))) := k1005 _ _ a1020 
        have a1022 : f1 nu = some (.inl (cy 0, 12, .inl gu)) := k4 _ _ x_nu (z_ne x_nu x_fa rfl)
        have a1023 : f444 nu = some (.inl (cy 0, 12, .inl gu)) := k446 _ _ a1022 
        have a1024 : f766 nu = some (.inl (cy 0, 12, .inl gu)) := k768 _ _ a1023 
        have a1025 : f1003 nu = some (.inl (cy 0, 12, .inl gu)) := k1005 _ _ a1024 
        have a1026 : f1 fm = some (.inl (cy 4, 6, .inr (.inr (.inr (.inr gf))))) := k4 _ _ x_fm (z_ne x_fm x_fa rfl)
        have a1027 : f444 fm = some (.inl (cy 4, 6, .inr (.inr (.inr (.inr gf))))) := k446 _ _ a1026 
        have a1028 : f766 fm = some (.inl (cy 4, 6, .inr (.inr (.inr (.inr gf))))) := k768 _ _ a1027 
        have a1029 : f1003 fm = some (.inl (cy 4, 6, .inr (.inr (.inr (.inr gf))))) := k1005 _ _ a1028 
        have a1030 : f1 co = some (.inl (cy 5, 60, .inr (.inr (.inr (.inr gc))))) := k4 _ _ x_co (z_ne x_co x_fa rfl)
        have a1031 : f444 co = some (.inl (cy 5, 60, .inr (.inr (.inr (.inr gc))))) := k446 _ _ a1030 
        have a1032 : f766 co = some (.inl (cy 5, 60, .inr (.inr (.inr (.inr gc))))) := k768 _ _ a1031 
        have a1033 : f1003 co = some (.inl (cy 5, 60, .inr (.inr (.inr (.inr gc))))) := k1005 _ _ a1032 
        have a1034 : f1 en = some (.inl (cy 6, 4, .inr (.inr (.inr (.inr ge))))) := k4 _ _ x_en (z_ne x_en x_fa rfl)
        have a1035 : f444 en = some (.inl (cy 6, 4, .inr (.inr (.inr (.inr ge))))) := k446 _ _ a1034 
        have a1036 : f766 en = some (.inl (cy 6, 4, .inr (.inr (.inr (.inr ge))))) := k768 _ _ a1035 
        have a1037 : f1003 en = some (.inl (cy 6, 4, .inr (.inr (.inr (.inr ge))))) := k1005 _ _ a1036 
        have a1038 : f1 ke = some (.inr (6, [.ref kn, .ref vq, .int (nI ks)])) := k4 _ _ x_ke (z_ne x_ke x_fa rfl)
        have a1039 : f444 ke = some (.inr (6, [.ref kn, .ref vq, .int (nI ks)])) := k446 _ _ a1038 
        have a1040 : f766 ke = some (.inr (6, [.ref kn, .ref vq, .int (nI ks)])) := k768 _ _ a1039 
        have a1041 : f1003 ke = some (.inr (6, [.ref kn, .ref vq, .int (nI ks)])) := k1005 _ _ a1040 
        have a1042 : f1 kn = some (.inl (cy 0, 40, .inl kk)) := k4 _ _ x_kn (z_ne x_kn x_fa rfl)
        have a1043 : f444 kn = some (.inl (cy 0, 40, .inl kk)) := k446 _ _ a1042 
        have a1044 : f766 kn = some (.inl (cy 0, 40, .inl kk)) := k768 _ _ a1043 
        have a1045 : f1003 kn = some (.inl (cy 0, 40, .inl kk)) := k1005 _ _ a1044 
        have a1046 : f1 vq = some (.inl (cy 0, 40, .inl kv)) := k4 _ _ x_vq (z_ne x_vq x_fa rfl)
        have a1047 : f444 vq = some (.inl (cy 0, 40, .inl kv)) := k446 _ _ a1046 
        have a1048 : f766 vq = some (.inl (cy 0, 40, .inl kv)) := k768 _ _ a1047 
        have a1049 : f1003 vq = some (.inl (cy 0, 40, .inl kv)) := k1005 _ _ a1048 
        have F1050 : ∀ i9 : Nat, i9 < nn → f1 (fg i9) = some (.inr (4, [.int (kd i9), .ref (pt i9), .long (wg i9), .int (wd i9), .int (nI i9), .int (hs i9), .int (bf i9)])) := fun i9 h9 => k4 _ _ (hF i9 h9) (z_ne (hF i9 h9) x_fa rfl)
        have F1051 : ∀ i9 : Nat, i9 < nn → f444 (fg i9) = some (.inr (4, [.int (kd i9), .ref (pt i9), .long (wg i9), .int (wd i9), .int (nI i9), .int (hs i9), .int (bf i9)])) := fun i9 h9 => k446 _ _ (F1050 i9 h9) 
        have F1052 : ∀ i9 : Nat, i9 < nn → f766 (fg i9) = some (.inr (4, [.int (kd i9), .ref (pt i9), .long (wg i9), .int (wd i9), .int (nI i9), .int (hs i9), .int (bf i9)])) := fun i9 h9 => k768 _ _ (F1051 i9 h9) 
        have F1053 : ∀ i9 : Nat, i9 < nn → f1003 (fg i9) = some (.inr (4, [.int (kd i9), .ref (pt i9), .long (wg i9), .int (wd i9), .int (nI i9), .int (hs i9), .int (bf i9)])) := fun i9 h9 => k1005 _ _ (F1052 i9 h9) 
        have F1054 : ∀ i9 : Nat, i9 < nn → f1 (pt i9) = some (.inl (cy 1, (ln i9), .inr (.inl (pp i9)))) := fun i9 h9 => k4 _ _ (hP i9 h9) (z_neO (hP i9 h9) x_fa rfl)
        have F1055 : ∀ i9 : Nat, i9 < nn → f444 (pt i9) = some (.inl (cy 1, (ln i9), .inr (.inl (pp i9)))) := fun i9 h9 => k446 _ _ (F1054 i9 h9) 
        have F1056 : ∀ i9 : Nat, i9 < nn → f766 (pt i9) = some (.inl (cy 1, (ln i9), .inr (.inl (pp i9)))) := fun i9 h9 => k768 _ _ (F1055 i9 h9) 
        have F1057 : ∀ i9 : Nat, i9 < nn → f1003 (pt i9) = some (.inl (cy 1, (ln i9), .inr (.inl (pp i9)))) := fun i9 h9 => k1005 _ _ (F1056 i9 h9) 
        have F1058 : ∀ i9 : Nat, i9 < nf → f1 (fq i9) = some (.inr (3, [.ref (fk i9), .int (nI (fz i9))])) := fun i9 h9 => k4 _ _ (hFq i9 h9) (z_ne (hFq i9 h9) x_fa rfl)
        have F1059 : ∀ i9 : Nat, i9 < nf → f444 (fq i9) = some (.inr (3, [.ref (fk i9), .int (nI (fz i9))])) := fun i9 h9 => k446 _ _ (F1058 i9 h9) 
        have F1060 : ∀ i9 : Nat, i9 < nf → f766 (fq i9) = some (.inr (3, [.ref (fk i9), .int (nI (fz i9))])) := fun i9 h9 => k768 _ _ (F1059 i9 h9) 
        have F1061 : ∀ i9 : Nat, i9 < nf → f1003 (fq i9) = some (.inr (3, [.ref (fk i9), .int (nI (fz i9))])) := fun i9 h9 => k1005 _ _ (F1060 i9 h9) 
        have F1062 : ∀ i9 : Nat, i9 < nf → f1 (fk i9) = some (.inl (cy 0, 4, .inl (fc i9))) := fun i9 h9 => k4 _ _ (hFk i9 h9) (z_ne (hFk i9 h9) x_fa rfl)
        have F1063 : ∀ i9 : Nat, i9 < nf → f444 (fk i9) = some (.inl (cy 0, 4, .inl (fc i9))) := fun i9 h9 => k446 _ _ (F1062 i9 h9) 
        have F1064 : ∀ i9 : Nat, i9 < nf → f766 (fk i9) = some (.inl (cy 0, 4, .inl (fc i9))) := fun i9 h9 => k768 _ _ (F1063 i9 h9) 
        have F1065 : ∀ i9 : Nat, i9 < nf → f1003 (fk i9) = some (.inl (cy 0, 4, .inl (fc i9))) := fun i9 h9 => k1005 _ _ (F1064 i9 h9) 
        have F1066 : ∀ i9 : Nat, i9 < nc → f1 (cn i9) = some (.inr (0, [.int (ce i9), .int (cm i9)])) := fun i9 h9 => k4 _ _ (hCn i9 h9) (z_ne (hCn i9 h9) x_fa rfl)
        have F1067 : ∀ i9 : Nat, i9 < nc → f444 (cn i9) = some (.inr (0, [.int (ce i9), .int (cm i9)])) := fun i9 h9 => k446 _ _ (F1066 i9 h9) 
        have F1068 : ∀ i9 : Nat, i9 < nc → f766 (cn i9) = some (.inr (0, [.int (ce i9), .int (cm i9)])) := fun i9 h9 => k768 _ _ (F1067 i9 h9) 
        have F1069 : ∀ i9 : Nat, i9 < nc → f1003 (cn i9) = some (.inr (0, [.int (ce i9), .int (cm i9)])) := fun i9 h9 => k1005 _ _ (F1068 i9 h9) 
        have F1070 : ∀ i9 : Nat, i9 < 4 → f1 (ea i9) = some (.inr (1, [.ref (ma i9), .int (nI (sq i9))])) := fun i9 h9 => k4 _ _ (hEa i9 h9) (z_ne (hEa i9 h9) x_fa rfl)
        have F1071 : ∀ i9 : Nat, i9 < 4 → f444 (ea i9) = some (.inr (1, [.ref (ma i9), .int (nI (sq i9))])) := fun i9 h9 => k446 _ _ (F1070 i9 h9) 
        have F1072 : ∀ i9 : Nat, i9 < 4 → f766 (ea i9) = some (.inr (1, [.ref (ma i9), .int (nI (sq i9))])) := fun i9 h9 => k768 _ _ (F1071 i9 h9) 
        have F1073 : ∀ i9 : Nat, i9 < 4 → f1003 (ea i9) = some (.inr (1, [.ref (ma i9), .int (nI (sq i9))])) := fun i9 h9 => k1005 _ _ (F1072 i9 h9) 
        have F1074 : ∀ i9 : Nat, i9 < 4 → f1 (ma i9) = some (.inl (cy 0, 60, .inl (mb i9))) := fun i9 h9 => k4 _ _ (hMa i9 h9) (z_ne (hMa i9 h9) x_fa rfl)
        have F1075 : ∀ i9 : Nat, i9 < 4 → f444 (ma i9) = some (.inl (cy 0, 60, .inl (mb i9))) := fun i9 h9 => k446 _ _ (F1074 i9 h9) 
        have F1076 : ∀ i9 : Nat, i9 < 4 → f766 (ma i9) = some (.inl (cy 0, 60, .inl (mb i9))) := fun i9 h9 => k768 _ _ (F1075 i9 h9) 
        have F1077 : ∀ i9 : Nat, i9 < 4 → f1003 (ma i9) = some (.inl (cy 0, 60, .inl (mb i9))) := fun i9 h9 => k1005 _ _ (F1076 i9 h9) 
        have hq : q_pair nn x y = ((-3), 0, (-1), 0) := by simp [q_pair, oF_m1 nn, h60, hOlf, hNlf, hOrt, hNrt, c447, c769, c1006]
        exact z_iret C hr rfl hz hS ⟨0, (-1), 0, gv, nl, gu, nn, ga, gr, fg, pt, kd, ln, pp, wg, wd, hs, bf, nf, gf, fq, fk, fz, fc, nc, gc, cn, ce, cm, sq, mb, ks, kk, kv, lk, (by rw [hq]), (by rw [hq]), (by rw [hq]), (by rw [hq]), (by rw [hq]; exact (zEV0 gv).symm), rfl, rfl, (by rw [if_neg (by decide)]), (by rw [if_neg (by decide)]), (by rw [if_neg (by decide)]), (zPP_no (by decide)), (by rw [if_neg (by decide)]), (by rw [if_neg (by decide)]), rfl, rfl, rfl, rfl, rfl, rfl, rfl, rfl, rfl, rfl, rfl, rfl, ⟨a1007, a1010, a1014, a1015, a1017, a1021, a1025, a1029, a1033, a1037, a1041, a1045, a1049, F1053, F1057, F1061, F1065, F1069, F1073, F1077, hn60, hl12, hf6, hc60, hs40, hga, hgr, hln, hk5, hk4, hfi, hpi, har, hgf, hfz, hgc, hG, hsq, hei, hmi, kne, hca, hcr, hlk⟩⟩ (Nat.le_of_ble_eq_true rfl) (Nat.le_of_ble_eq_true rfl) dX7_pair_44
    · have hOrt : oF nn y = false := oF_f hn60 hrt hrt2
      have a1078 : f444 fi = some (.inr (5, [.ref al, .ref ra, .int (nI nn)])) := k446 _ _ a442 
      refine z_callVi (As := [.int y]) C hz hS hA hl (k_X5_hasOrNone_B l D cy f444 fi al ra nn y a1078 hrt hrt2 hn60) zyX5_hasOrNone mMX7_112 a1078 zl5 rfl rfl (Nat.le_of_ble_eq_true rfl) ⟨Nat.le_of_ble_eq_true rfl, Nat.le_of_ble_eq_true rfl⟩ ⟨Nat.le_of_ble_eq_true rfl, Nat.le_of_ble_eq_true rfl⟩ dX7_pair_23 (fun r f1079 H locs h1080 hz hS => ?_)
      obtain ⟨rfl, k1081⟩ := h1080
      refine lv_if_ne (tgt := 32) hx hb dX7_pair_26 (by decide) (fun c1082 => ?_) (fun c1082 => ?_)
      · exact absurd c1082 (by decide)
      refine lv_bipush (v := (-2)) hx hb dX7_pair_29 (by decide) ?_
      have a1083 : f1079 o = some (.inr (7, [.ref fa, .ref fi, .ref nu, .int (nI nl), .ref fm, .int (nI nf), .ref co, .int (nI nc), .ref en, .ref ke, .long lk])) := k1081 _ _ a448 
      have a1084 : f444 fa = some (.inr (2, [.int 0, .int (-1), .int 0, .ref ev])) := k446 _ _ a3 
      have a1085 : f1079 fa = some (.inr (2, [.int 0, .int (-1), .int 0, .ref ev])) := k1081 _ _ a1084 
      have a1086 : f1 ev = some (.inl (cy 0, 8, .inl gv)) := k4 _ _ x_ev (z_ne x_ev x_fa rfl)
      have a1087 : f444 ev = some (.inl (cy 0, 8, .inl gv)) := k446 _ _ a1086 
      have a1088 : f1079 ev = some (.inl (cy 0, 8, .inl gv)) := k1081 _ _ a1087 
      have a1089 : f1079 fi = some (.inr (5, [.ref al, .ref ra, .int (nI nn)])) := k1081 _ _ a1078 
      have a1090 : f444 al = some (.inl (cy 3, 60, .inr (.inr (.inr (.inr ga))))) := k446 _ _ a443 
      have a1091 : f1079 al = some (.inl (cy 3, 60, .inr (.inr (.inr (.inr ga))))) := k1081 _ _ a1090 
      have a1092 : f1 ra = some (.inl (cy 3, 60, .inr (.inr (.inr (.inr gr))))) := k4 _ _ x_ra (z_ne x_ra x_fa rfl)
      have a1093 : f444 ra = some (.inl (cy 3, 60, .inr (.inr (.inr (.inr gr))))) := k446 _ _ a1092 
      have a1094 : f1079 ra = some (.inl (cy 3, 60, .inr (.inr (.inr (.inr gr))))) := k1081 _ _ a1093 
      have a1095 : f1 nu = some (.inl (cy 0, 12, .inl gu)) := k4 _ _ x_nu (z_ne x_nu x_fa rfl)
      have a1096 : f444 nu = some (.inl (cy 0, 12, .inl gu)) := k446 _ _ a1095 
      have a1097 : f1079 nu = some (.inl (cy 0, 12, .inl gu)) := k1081 _ _ a1096 
      have a1098 : f1 fm = some (.inl (cy 4, 6, .inr (.inr (.inr (.inr gf))))) := k4 _ _ x_fm (z_ne x_fm x_fa rfl)
      have a1099 : f444 fm = some (.inl (cy 4, 6, .inr (.inr (.inr (.inr gf))))) := k446 _ _ a1098 
      have a1100 : f1079 fm = some (.inl (cy 4, 6, .inr (.inr (.inr (.inr gf))))) := k1081 _ _ a1099 
      have a1101 : f1 co = some (.inl (cy 5, 60, .inr (.inr (.inr (.inr gc))))) := k4 _ _ x_co (z_ne x_co x_fa rfl)
      have a1102 : f444 co = some (.inl (cy 5, 60, .inr (.inr (.inr (.inr gc))))) := k446 _ _ a1101 
      have a1103 : f1079 co = some (.inl (cy 5, 60, .inr (.inr (.inr (.inr gc))))) := k1081 _ _ a1102 
      have a1104 : f1 en = some (.inl (cy 6, 4, .inr (.inr (.inr (.inr ge))))) := k4 _ _ x_en (z_ne x_en x_fa rfl)
      have a1105 : f444 en = some (.inl (cy 6, 4, .inr (.inr (.inr (.inr ge))))) := k446 _ _ a1104 
      have a1106 : f1079 en = some (.inl (cy 6, 4, .inr (.inr (.inr (.inr ge))))) := k1081 _ _ a1105 
      have a1107 : f1 ke = some (.inr (6, [.ref kn, .ref vq, .int (nI ks)])) := k4 _ _ x_ke (z_ne x_ke x_fa rfl)
      have a1108 : f444 ke = some (.inr (6, [.ref kn, .ref vq, .int (nI ks)])) := k446 _ _ a1107 
      have a1109 : f1079 ke = some (.inr (6, [.ref kn, .ref vq, .int (nI ks)])) := k1081 _ _ a1108 
      have a1110 : f1 kn = some (.inl (cy 0, 40, .inl kk)) := k4 _ _ x_kn (z_ne x_kn x_fa rfl)
      have a1111 : f444 kn = some (.inl (cy 0, 40, .inl kk)) := k446 _ _ a1110 
      have a1112 : f1079 kn = some (.inl (cy 0, 40, .inl kk)) := k1081 _ _ a1111 
      have a1113 : f1 vq = some (.inl (cy 0, 40, .inl kv)) := k4 _ _ x_vq (z_ne x_vq x_fa rfl)
      have a1114 : f444 vq = some (.inl (cy 0, 40, .inl kv)) := k446 _ _ a1113 
      have a1115 : f1079 vq = some (.inl (cy 0, 40, .inl kv)) := k1081 _ _ a1114 
      have F1116 : ∀ i9 : Nat, i9 < nn → f1 (fg i9) = some (.inr (4, [.int (kd i9), .ref (pt i9), .long (wg i9), .int (wd i9), .int (nI i9), .int (hs i9), .int (bf i9)])) := fun i9 h9 => k4 _ _ (hF i9 h9) (z_ne (hF i9 h9) x_fa rfl)
      have F1117 : ∀ i9 : Nat, i9 < nn → f444 (fg i9) = some (.inr (4, [.int (kd i9), .ref (pt i9), .long (wg i9), .int (wd i9), .int (nI i9), .int (hs i9), .int (bf i9)])) := fun i9 h9 => k446 _ _ (F1116 i9 h9) 
      have F1118 : ∀ i9 : Nat, i9 < nn → f1079 (fg i9) = some (.inr (4, [.int (kd i9), .ref (pt i9), .long (wg i9), .int (wd i9), .int (nI i9), .int (hs i9), .int (bf i9)])) := fun i9 h9 => k1081 _ _ (F1117 i9 h9) 
      have F1119 : ∀ i9 : Nat, i9 < nn → f1 (pt i9) = some (.inl (cy 1, (ln i9), .inr (.inl (pp i9)))) := fun i9 h9 => k4 _ _ (hP i9 h9) (z_neO (hP i9 h9) x_fa rfl)
      have F1120 : ∀ i9 : Nat, i9 < nn → f444 (pt i9) = some (.inl (cy 1, (ln i9), .inr (.inl (pp i9)))) := fun i9 h9 => k446 _ _ (F1119 i9 h9) 
      have F1121 : ∀ i9 : Nat, i9 < nn → f1079 (pt i9) = some (.inl (cy 1, (ln i9), .inr (.inl (pp i9)))) := fun i9 h9 => k1081 _ _ (F1120 i9 h9) 
      have F1122 : ∀ i9 : Nat, i9 < nf → f1 (fq i9) = some (.inr (3, [.ref (fk i9), .int (nI (fz i9))])) := fun i9 h9 => k4 _ _ (hFq i9 h9) (z_ne (hFq i9 h9) x_fa rfl)
      have F1123 : ∀ i9 : Nat, i9 < nf → f444 (fq i9) = some (.inr (3, [.ref (fk i9), .int (nI (fz i9))])) := fun i9 h9 => k446 _ _ (F1122 i9 h9) 
      have F1124 : ∀ i9 : Nat, i9 < nf → f1079 (fq i9) = some (.inr (3, [.ref (fk i9), .int (nI (fz i9))])) := fun i9 h9 => k1081 _ _ (F1123 i9 h9) 
      have F1125 : ∀ i9 : Nat, i9 < nf → f1 (fk i9) = some (.inl (cy 0, 4, .inl (fc i9))) := fun i9 h9 => k4 _ _ (hFk i9 h9) (z_ne (hFk i9 h9) x_fa rfl)
      have F1126 : ∀ i9 : Nat, i9 < nf → f444 (fk i9) = some (.inl (cy 0, 4, .inl (fc i9))) := fun i9 h9 => k446 _ _ (F1125 i9 h9) 
      have F1127 : ∀ i9 : Nat, i9 < nf → f1079 (fk i9) = some (.inl (cy 0, 4, .inl (fc i9))) := fun i9 h9 => k1081 _ _ (F1126 i9 h9) 
      have F1128 : ∀ i9 : Nat, i9 < nc → f1 (cn i9) = some (.inr (0, [.int (ce i9), .int (cm i9)])) := fun i9 h9 => k4 _ _ (hCn i9 h9) (z_ne (hCn i9 h9) x_fa rfl)
      have F1129 : ∀ i9 : Nat, i9 < nc → f444 (cn i9) = some (.inr (0, [.int (ce i9), .int (cm i9)])) := fun i9 h9 => k446 _ _ (F1128 i9 h9) 
      have F1130 : ∀ i9 : Nat, i9 < nc → f1079 (cn i9) = some (.inr (0, [.int (ce i9), .int (cm i9)])) := fun i9 h9 => k1081 _ _ (F1129 i9 h9) 
      have F1131 : ∀ i9 : Nat, i9 < 4 → f1 (ea i9) = some (.inr (1, [.ref (ma i9), .int (nI (sq i9))])) := fun i9 h9 => k4 _ _ (hEa i9 h9) (z_ne (hEa i9 h9) x_fa rfl)
      have F1132 : ∀ i9 : Nat, i9 < 4 → f444 (ea i9) = some (.inr (1, [.ref (ma i9), .int (nI (sq i9))])) := fun i9 h9 => k446 _ _ (F1131 i9 h9) 
      have F1133 : ∀ i9 : Nat, i9 < 4 → f1079 (ea i9) = some (.inr (1, [.ref (ma i9), .int (nI (sq i9))])) := fun i9 h9 => k1081 _ _ (F1132 i9 h9) 
      have F1134 : ∀ i9 : Nat, i9 < 4 → f1 (ma i9) = some (.inl (cy 0, 60, .inl (mb i9))) := fun i9 h9 => k4 _ _ (hMa i9 h9) (z_ne (hMa i9 h9) x_fa rfl)
      have F1135 : ∀ i9 : Nat, i9 < 4 → f444 (ma i9) = some (.inl (cy 0, 60, .inl (mb i9))) := fun i9 h9 => k446 _ _ (F1134 i9 h9) 
      have F1136 : ∀ i9 : Nat, i9 < 4 → f1079 (ma i9) = some (.inl (cy 0, 60, .inl (mb i9))) := fun i9 h9 => k1081 _ _ (F1135 i9 h9) 
      have hq : q_pair nn x y = ((-2), 0, (-1), 0) := by simp [q_pair, oF_m1 nn, hOlf, hNlf, hOrt, c447, c1082]
      exact z_iret C hr rfl hz hS ⟨0, (-1), 0, gv, nl, gu, nn, ga, gr, fg, pt, kd, ln, pp, wg, wd, hs, bf, nf, gf, fq, fk, fz, fc, nc, gc, cn, ce, cm, sq, mb, ks, kk, kv, lk, (by rw [hq]), (by rw [hq]), (by rw [hq]), (by rw [hq]), (by rw [hq]; exact (zEV0 gv).symm), rfl, rfl, (by rw [if_neg (by decide)]), (by rw [if_neg (by decide)]), (by rw [if_neg (by decide)]), (zPP_no (by decide)), (by rw [if_neg (by decide)]), (by rw [if_neg (by decide)]), rfl, rfl, rfl, rfl, rfl, rfl, rfl, rfl, rfl, rfl, rfl, rfl, ⟨a1083, a1085, a1088, a1089, a1091, a1094, a1097, a1100, a1103, a1106, a1109, a1112, a1115, F1118, F1121, F1124, F1127, F1130, F1133, F1136, hn60, hl12, hf6, hc60, hs40, hga, hgr, hln, hk5, hk4, hfi, hpi, har, hgf, hfz, hgc, hG, hsq, hei, hmi, kne, hca, hcr, hlk⟩⟩ (Nat.le_of_ble_eq_true rfl) (Nat.le_of_ble_eq_true rfl) dX7_pair_31
  · have hOlf : oF nn x = false := oF_f hn60 hlf hlf2
    have a1137 : f1 fi = some (.inr (5, [.ref al, .ref ra, .int (nI nn)])) := k4 _ _ x_fi (z_ne x_fi x_fa rfl)
    refine z_callVi (As := [.int x]) C hz hS hA hl (k_X5_hasOrNone_B l D cy f1 fi al ra nn x a1137 hlf hlf2 hn60) zyX5_hasOrNone mMX7_112 a1137 zl5 rfl rfl (Nat.le_of_ble_eq_true rfl) ⟨Nat.le_of_ble_eq_true rfl, Nat.le_of_ble_eq_true rfl⟩ ⟨Nat.le_of_ble_eq_true rfl, Nat.le_of_ble_eq_true rfl⟩ dX7_pair_12 (fun r f1138 H locs h1139 hz hS => ?_)
    obtain ⟨rfl, k1140⟩ := h1139
    refine lv_if_eq (tgt := 29) hx hb dX7_pair_15 (by decide) (fun c1141 => ?_) (fun c1141 => ?_)
    rotate_left
    · exact absurd c1141 (by decide)
    refine lv_bipush (v := (-2)) hx hb dX7_pair_29 (by decide) ?_
    have a1142 : f1138 o = some (.inr (7, [.ref fa, .ref fi, .ref nu, .int (nI nl), .ref fm, .int (nI nf), .ref co, .int (nI nc), .ref en, .ref ke, .long lk])) := k1140 _ _ a5 
    have a1143 : f1138 fa = some (.inr (2, [.int 0, .int (-1), .int 0, .ref ev])) := k1140 _ _ a3 
    have a1144 : f1 ev = some (.inl (cy 0, 8, .inl gv)) := k4 _ _ x_ev (z_ne x_ev x_fa rfl)
    have a1145 : f1138 ev = some (.inl (cy 0, 8, .inl gv)) := k1140 _ _ a1144 
    have a1146 : f1138 fi = some (.inr (5, [.ref al, .ref ra, .int (nI nn)])) := k1140 _ _ a1137 
    have a1147 : f1 al = some (.inl (cy 3, 60, .inr (.inr (.inr (.inr ga))))) := k4 _ _ x_al (z_ne x_al x_fa rfl)
    have a1148 : f1138 al = some (.inl (cy 3, 60, .inr (.inr (.inr (.inr ga))))) := k1140 _ _ a1147 
    have a1149 : f1 ra = some (.inl (cy 3, 60, .inr (.inr (.inr (.inr gr))))) := k4 _ _ x_ra (z_ne x_ra x_fa rfl)
    have a1150 : f1138 ra = some (.inl (cy 3, 60, .inr (.inr (.inr (.inr gr))))) := k1140 _ _ a1149 
    have a1151 : f1 nu = some (.inl (cy 0, 12, .inl gu)) := k4 _ _ x_nu (z_ne x_nu x_fa rfl)
    have a1152 : f1138 nu = some (.inl (cy 0, 12, .inl gu)) := k1140 _ _ a1151 
    have a1153 : f1 fm = some (.inl (cy 4, 6, .inr (.inr (.inr (.inr gf))))) := k4 _ _ x_fm (z_ne x_fm x_fa rfl)
    have a1154 : f1138 fm = some (.inl (cy 4, 6, .inr (.inr (.inr (.inr gf))))) := k1140 _ _ a1153 
    have a1155 : f1 co = some (.inl (cy 5, 60, .inr (.inr (.inr (.inr gc))))) := k4 _ _ x_co (z_ne x_co x_fa rfl)
    have a1156 : f1138 co = some (.inl (cy 5, 60, .inr (.inr (.inr (.inr gc))))) := k1140 _ _ a1155 
    have a1157 : f1 en = some (.inl (cy 6, 4, .inr (.inr (.inr (.inr ge))))) := k4 _ _ x_en (z_ne x_en x_fa rfl)
    have a1158 : f1138 en = some (.inl (cy 6, 4, .inr (.inr (.inr (.inr ge))))) := k1140 _ _ a1157 
    have a1159 : f1 ke = some (.inr (6, [.ref kn, .ref vq, .int (nI ks)])) := k4 _ _ x_ke (z_ne x_ke x_fa rfl)
    have a1160 : f1138 ke = some (.inr (6, [.ref kn, .ref vq, .int (nI ks)])) := k1140 _ _ a1159 
    have a1161 : f1 kn = some (.inl (cy 0, 40, .inl kk)) := k4 _ _ x_kn (z_ne x_kn x_fa rfl)
    have a1162 : f1138 kn = some (.inl (cy 0, 40, .inl kk)) := k1140 _ _ a1161 
    have a1163 : f1 vq = some (.inl (cy 0, 40, .inl kv)) := k4 _ _ x_vq (z_ne x_vq x_fa rfl)
    have a1164 : f1138 vq = some (.inl (cy 0, 40, .inl kv)) := k1140 _ _ a1163 
    have F1165 : ∀ i9 : Nat, i9 < nn → f1 (fg i9) = some (.inr (4, [.int (kd i9), .ref (pt i9), .long (wg i9), .int (wd i9), .int (nI i9), .int (hs i9), .int (bf i9)])) := fun i9 h9 => k4 _ _ (hF i9 h9) (z_ne (hF i9 h9) x_fa rfl)
    have F1166 : ∀ i9 : Nat, i9 < nn → f1138 (fg i9) = some (.inr (4, [.int (kd i9), .ref (pt i9), .long (wg i9), .int (wd i9), .int (nI i9), .int (hs i9), .int (bf i9)])) := fun i9 h9 => k1140 _ _ (F1165 i9 h9) 
    have F1167 : ∀ i9 : Nat, i9 < nn → f1 (pt i9) = some (.inl (cy 1, (ln i9), .inr (.inl (pp i9)))) := fun i9 h9 => k4 _ _ (hP i9 h9) (z_neO (hP i9 h9) x_fa rfl)
    have F1168 : ∀ i9 : Nat, i9 < nn → f1138 (pt i9) = some (.inl (cy 1, (ln i9), .inr (.inl (pp i9)))) := fun i9 h9 => k1140 _ _ (F1167 i9 h9) 
    have F1169 : ∀ i9 : Nat, i9 < nf → f1 (fq i9) = some (.inr (3, [.ref (fk i9), .int (nI (fz i9))])) := fun i9 h9 => k4 _ _ (hFq i9 h9) (z_ne (hFq i9 h9) x_fa rfl)
    have F1170 : ∀ i9 : Nat, i9 < nf → f1138 (fq i9) = some (.inr (3, [.ref (fk i9), .int (nI (fz i9))])) := fun i9 h9 => k1140 _ _ (F1169 i9 h9) 
    have F1171 : ∀ i9 : Nat, i9 < nf → f1 (fk i9) = some (.inl (cy 0, 4, .inl (fc i9))) := fun i9 h9 => k4 _ _ (hFk i9 h9) (z_ne (hFk i9 h9) x_fa rfl)
    have F1172 : ∀ i9 : Nat, i9 < nf → f1138 (fk i9) = some (.inl (cy 0, 4, .inl (fc i9))) := fun i9 h9 => k1140 _ _ (F1171 i9 h9) 
    have F1173 : ∀ i9 : Nat, i9 < nc → f1 (cn i9) = some (.inr (0, [.int (ce i9), .int (cm i9)])) := fun i9 h9 => k4 _ _ (hCn i9 h9) (z_ne (hCn i9 h9) x_fa rfl)
    have F1174 : ∀ i9 : Nat, i9 < nc → f1138 (cn i9) = some (.inr (0, [.int (ce i9), .int (cm i9)])) := fun i9 h9 => k1140 _ _ (F1173 i9 h9) 
    have F1175 : ∀ i9 : Nat, i9 < 4 → f1 (ea i9) = some (.inr (1, [.ref (ma i9), .int (nI (sq i9))])) := fun i9 h9 => k4 _ _ (hEa i9 h9) (z_ne (hEa i9 h9) x_fa rfl)
    have F1176 : ∀ i9 : Nat, i9 < 4 → f1138 (ea i9) = some (.inr (1, [.ref (ma i9), .int (nI (sq i9))])) := fun i9 h9 => k1140 _ _ (F1175 i9 h9) 
    have F1177 : ∀ i9 : Nat, i9 < 4 → f1 (ma i9) = some (.inl (cy 0, 60, .inl (mb i9))) := fun i9 h9 => k4 _ _ (hMa i9 h9) (z_ne (hMa i9 h9) x_fa rfl)
    have F1178 : ∀ i9 : Nat, i9 < 4 → f1138 (ma i9) = some (.inl (cy 0, 60, .inl (mb i9))) := fun i9 h9 => k1140 _ _ (F1177 i9 h9) 
    have hq : q_pair nn x y = ((-2), 0, (-1), 0) := by simp [q_pair, oF_m1 nn, hOlf, c1141]
    exact z_iret C hr rfl hz hS ⟨0, (-1), 0, gv, nl, gu, nn, ga, gr, fg, pt, kd, ln, pp, wg, wd, hs, bf, nf, gf, fq, fk, fz, fc, nc, gc, cn, ce, cm, sq, mb, ks, kk, kv, lk, (by rw [hq]), (by rw [hq]), (by rw [hq]), (by rw [hq]), (by rw [hq]; exact (zEV0 gv).symm), rfl, rfl, (by rw [if_neg (by decide)]), (by rw [if_neg (by decide)]), (by rw [if_neg (by decide)]), (zPP_no (by decide)), (by rw [if_neg (by decide)]), (by rw [if_neg (by decide)]), rfl, rfl, rfl, rfl, rfl, rfl, rfl, rfl, rfl, rfl, rfl, rfl, ⟨a1142, a1143, a1145, a1146, a1148, a1150, a1152, a1154, a1156, a1158, a1160, a1162, a1164, F1166, F1168, F1170, F1172, F1174, F1176, F1178, hn60, hl12, hf6, hc60, hs40, hga, hgr, hln, hk5, hk4, hfi, hpi, har, hgf, hfz, hgc, hG, hsq, hei, hmi, kne, hca, hcr, hlk⟩⟩ (Nat.le_of_ble_eq_true rfl) (Nat.le_of_ble_eq_true rfl) dX7_pair_31
abbrev rmX7_numberAt : Room := { frames := 0, cells := 0, slots := 0, locals := 0 }
set_option maxHeartbeats 4000000 in
set_option maxRecDepth 100000 in
theorem k_X7_numberAt (l : Launch) (D : va_G) (cy : Nat → ClassId) (f : zM) (o : Nat) (fa : Nat) (fi : Nat) (nu : Nat) (nl : Nat) (fm : Nat) (nf : Nat) (co : Nat) (nc : Nat) (en : Nat) (ke : Nat) (lk : Int64) (gu : Nat → Int32) (x : Int32) (p0 : f o = some (.inr (7, [.ref fa, .ref fi, .ref nu, .int (nI nl), .ref fm, .int (nI nf), .ref co, .int (nI nc), .ref en, .ref ke, .long lk]))) (p1 : f nu = some (.inl (cy 0, 12, .inl gu)))  (hl12 : nl ≤ 12) : zCi l D cy yX7_numberAt cX7_numberAt 2 (Option.some Jvm.ClassFile.FieldType.int) rmX7_numberAt [.ref o, .int x] f (fun (r : Int32) (f1 : zM) => r = (qlaid nl gu x) ∧ (∀ (b : Nat) (e : va_E), f b = some e → f1 b = some e)) := by
  intro sz
  refine z_body (by decide +kernel) (Nat.le_of_ble_eq_true rfl) ?_
  intro p e s m below meth c ls C hr hin hsz hz hl
  subst hsz
  have hx := C.1
  have hb := C.2.1
  have hA : ∀ q, s.heap.size ≤ q → zA f s.heap.size q := fun q h => Or.inr h
  have hS : va_S (zA f s.heap.size) s.heap s.heap [] := va_S.rf
  have hl : lv_has ls 2 [(0, .ref o), (1, .int x)] := hl
  refine lv_iload_n hx hb dX7_numberAt_0 rfl (lv_at hl 1 rfl) ?_
  refine lv_if_lt (tgt := 21) hx hb dX7_numberAt_1 (by decide) (fun c1 => ?_) (fun c1 => ?_)
  · refine lv_iconst (v := 0) hx hb dX7_numberAt_21 (by decide) ?_
    exact z_iret C hr rfl hz hS ⟨(by simp [qlaid, c1]), (fun b e hb => hb)⟩ (Nat.le_of_ble_eq_true rfl) (Nat.le_of_ble_eq_true rfl) dX7_numberAt_22
  · refine lv_iload_n hx hb dX7_numberAt_4 rfl (lv_at hl 1 rfl) ?_
    refine lv_aload_n hx hb dX7_numberAt_5 rfl (lv_at hl 0 rfl) ?_
    refine z_get (v := .int (nI nl)) C hz p0 zl7 mFX7_27 (by decide) rfl dX7_numberAt_6 ?_
    refine lv_icmp_ge (tgt := 21) hx hb dX7_numberAt_9 (by decide) (fun c2 => ?_) (fun c2 => ?_)
    · refine lv_iconst (v := 0) hx hb dX7_numberAt_21 (by decide) ?_
      exact z_iret C hr rfl hz hS ⟨(by simp [qlaid, c1, c2]), (fun b e hb => hb)⟩ (Nat.le_of_ble_eq_true rfl) (Nat.le_of_ble_eq_true rfl) dX7_numberAt_22
    · obtain ⟨j, hj, hxj⟩ := z_ixl c1 c2 (by omega)
      refine lv_aload_n hx hb dX7_numberAt_12 rfl (lv_at hl 0 rfl) ?_
      refine z_get (v := .ref nu) C hz p0 zl7 mFX7_23 (by decide) rfl dX7_numberAt_13 ?_
      refine lv_iload_n hx hb dX7_numberAt_16 rfl (lv_at hl 1 rfl) ?_
      refine z_iald j C hz p1 hxj (by omega) (by omega) dX7_numberAt_17 ?_
      refine lv_goto (tgt := 22) hx hb dX7_numberAt_18 (by decide) ?_
      exact z_iret C hr rfl hz hS ⟨(by rw [qlaid, if_neg c1, if_neg c2, fI_of (by omega) hxj]), (fun b e hb => hb)⟩ (Nat.le_of_ble_eq_true rfl) (Nat.le_of_ble_eq_true rfl) dX7_numberAt_22
abbrev rmX7_rowParts : Room := { frames := 1, cells := 1, slots := 15, locals := 21 }
set_option maxHeartbeats 4000000 in
set_option maxRecDepth 100000 in
theorem k_X7_rowParts (l : Launch) (D : va_G) (cy : Nat → ClassId) (f : zM) (o : Nat) (fa : Nat) (fi : Nat) (nu : Nat) (nl : Nat) (fm : Nat) (nf : Nat) (co : Nat) (nc : Nat) (en : Nat) (ke : Nat) (lk : Int64) (gu : Nat → Int32) (x : Int32) (y : Int32) (z : Int32) (t : Nat) (p0 : f o = some (.inr (7, [.ref fa, .ref fi, .ref nu, .int (nI nl), .ref fm, .int (nI nf), .ref co, .int (nI nc), .ref en, .ref ke, .long lk]))) (p1 : f nu = some (.inl (cy 0, 12, .inl gu)))  (hl12 : nl ≤ 12) (hxt : x = nI t) (ht : t ≤ 12) (hz9 : z = qlaid nl gu y) : zCq l D cy yX7_rowParts cX7_rowParts 6 (Option.some (Jvm.ClassFile.FieldType.array Jvm.ClassFile.FieldType.long)) rmX7_rowParts [.ref o, .int x, .int y, .int z] f (fun (r : Option Nat) (f1 : zM) => ∃ (pa : Nat) (gp : Nat → Int64), r = (some pa) ∧ (f pa = none) ∧ (∀ j, j < 3 + t → gp j = qrow nl gu x y j) ∧ f1 pa = some (.inl (cy 1, (3 + t), .inr (.inl gp))) ∧ (∀ (b : Nat) (e : va_E), f b = some e → f1 b = some e)) := by
  intro sz
  refine z_body (by decide +kernel) (Nat.le_of_ble_eq_true rfl) ?_
  intro p e s m below meth c ls C hr hin hsz hz hl
  subst hsz
  have hx := C.1
  have hb := C.2.1
  have hA : ∀ q, s.heap.size ≤ q → zA f s.heap.size q := fun q h => Or.inr h
  have hS : va_S (zA f s.heap.size) s.heap s.heap [] := va_S.rf
  have hl : lv_has ls 6 [(0, .ref o), (1, .int x), (2, .int y), (3, .int z)] := hl
  refine lv_iconst (v := 3) hx hb dX7_rowParts_0 (by decide) ?_
  refine lv_iload_n hx hb dX7_rowParts_1 rfl (lv_at hl 1 rfl) ?_
  refine lv_iadd hx hb dX7_rowParts_2 ?_
  refine z_newa (atype := .long) (t0 := 1) (N' := 3 + t) (x := (.inr (.inl (fun _ => 0)))) C hz hS hA rfl mA_long rfl (fun _ => rfl) (by rw [hxt]; exact nI_add 3 t) (by omega) (by decide) (Nat.le_of_ble_eq_true rfl) (Nat.le_trans (Nat.add_le_add_left (show 3 + t ≤ 15 by omega) _) (Nat.le_of_ble_eq_true rfl)) dX7_rowParts_3 (fun q1 H f3 u2 a4 k5 hz hS => ?_)
  refine W.widen (k := 1) (n := 15) (Nat.le_of_ble_eq_true rfl) (Nat.le_trans (Nat.add_le_add_left (show 3 + t ≤ 15 by omega) _) (Nat.le_of_ble_eq_true rfl)) ?_
  refine lv_astore (lv' := [(4, .ref q1), (0, .ref o), (1, .int x), (2, .int y), (3, .int z)]) hx hb dX7_rowParts_5 hl (by decide) rfl (fun ls hl => ?_)
  refine lv_aload hx hb dX7_rowParts_7 (lv_at hl 0 rfl) ?_
  refine lv_iconst (v := 0) hx hb dX7_rowParts_9 (by decide) ?_
  refine lv_iload_n hx hb dX7_rowParts_10 rfl (lv_at hl 2 rfl) ?_
  refine lv_i2l (v := x.toInt64) hx hb dX7_rowParts_11 rfl ?_
  refine z_last 0 C hz hS a4 (by decide) (by omega) (by omega) dX7_rowParts_12 (fun H locs f6 a7 k8 hz hS => ?_)
  refine lv_aload hx hb dX7_rowParts_13 (lv_at hl 0 rfl) ?_
  refine lv_iconst (v := 1) hx hb dX7_rowParts_15 (by decide) ?_
  refine lv_iload_n hx hb dX7_rowParts_16 rfl (lv_at hl 3 rfl) ?_
  refine lv_i2l (v := y.toInt64) hx hb dX7_rowParts_17 rfl ?_
  refine z_last 1 C hz hS a7 (by decide) (by omega) (by omega) dX7_rowParts_18 (fun H locs f9 a10 k11 hz hS => ?_)
  refine lv_aload hx hb dX7_rowParts_19 (lv_at hl 0 rfl) ?_
  refine lv_iconst (v := 2) hx hb dX7_rowParts_21 (by decide) ?_
  refine lv_iload_n hx hb dX7_rowParts_22 rfl (lv_at hl 4 rfl) ?_
  refine lv_i2l (v := z.toInt64) hx hb dX7_rowParts_23 rfl ?_
  refine z_last 2 C hz hS a10 (by decide) (by omega) (by omega) dX7_rowParts_24 (fun H locs f12 a13 k14 hz hS => ?_)
  refine lv_iconst (v := 0) hx hb dX7_rowParts_25 (by decide) ?_
  refine lv_istore (lv' := [(5, .int 0), (4, .ref q1), (0, .ref o), (1, .int x), (2, .int y), (3, .int z)]) hx hb dX7_rowParts_26 hl (by decide) rfl (fun ls hl => ?_)
  have lp15 : ∀ (n : Nat) (i : Nat) (gp : Nat → Int64) (fL16 : zM) (H : Heap) (locs : List Loc) (ls : Array Slot), (t - i) < n → (i ≤ t) → (∀ j, j < 3 + i → gp j = qrow nl gu x y j) → fL16 q1 = some (.inl (cy 1, (3 + t), .inr (.inl gp))) → (∀ (b : Nat) (e : va_E), f12 b = some e → b ≠ q1 → fL16 b = some e) → zH D (zA f s.heap.size) fL16 H → va_S (zA f s.heap.size) s.heap H locs → lv_has ls 6 [(0, .ref o), (1, .int x), (4, .ref q1), (5, .int (nI i))] → W p l e rmX7_rowParts s m ([.ref o, .int x, .int y, .int z] : List Value).toArray below meth c H locs 1 15 (MQ below (va_Qq (fun (r : Option Nat) (f1 : zM) => ∃ (pa : Nat) (gp : Nat → Int64), r = (some pa) ∧ (f pa = none) ∧ (∀ j, j < 3 + t → gp j = qrow nl gu x y j) ∧ f1 pa = some (.inl (cy 1, (3 + t), .inr (.inl gp))) ∧ (∀ (b : Nat) (e : va_E), f b = some e → f1 b = some e)) (zB D f s.heap.size) (zA f s.heap.size)) ([.ref o, .int x, .int y, .int z] : List Value).toArray s rmX7_rowParts.cells rmX7_rowParts.slots (zA f s.heap.size)) (F0 m 28 ls []) := by
    intro n
    induction n with
    | zero => intro i gp fL16 H locs ls hmz; exact absurd hmz (Nat.not_lt_zero _)
    | succ n ih =>
      intro i gp fL16 H locs ls hmz hi hgp a18 k17 hz hS hl
      refine lv_iload hx hb dX7_rowParts_28 (lv_at hl 3 rfl) ?_
      refine lv_iload_n hx hb dX7_rowParts_30 rfl (lv_at hl 1 rfl) ?_
      refine lv_icmp_ge (tgt := 54) hx hb dX7_rowParts_31 (by decide) (fun c19 => ?_) (fun c19 => ?_)
      · replace c19 : t ≤ i := by rw [hxt] at c19; exact (nI_leI (by omega) (by omega)).mp c19
        refine lv_aload hx hb dX7_rowParts_54 (lv_at hl 2 rfl) ?_
        have w20 : f q1 = none := by
          rcases h9 : f q1 with _ | e9
          · rfl
          · exfalso
            rw [u2] at h9
            cases h9
        exact z_aret (r := some q1) C hr (Or.inr ⟨_, rfl⟩) rfl hz hS ⟨q1, gp, rfl, w20, (by obtain rfl : i = t := (by omega); exact hgp), a18, (by
              intro b e hb 
              have nn0 : b ≠ q1 := z_nn u2 hb
              have hb0 : f3 b = some e := (k5 b nn0).trans hb
              have hb1 : f6 b = some e := (k8 b nn0).trans hb0
              have hb2 : f9 b = some e := (k11 b nn0).trans hb1
              have hb3 : f12 b = some e := (k14 b nn0).trans hb2
              have hb4 : fL16 b = some e := k17 b e hb3 nn0
              exact hb4)⟩ (Nat.le_of_ble_eq_true rfl) (Nat.le_of_ble_eq_true rfl) dX7_rowParts_56
      · replace c19 : i < t := by rw [hxt] at c19; exact Nat.not_le.mp (fun h => c19 ((nI_leI (by omega) (by omega)).mpr h))
        refine lv_aload hx hb dX7_rowParts_34 (lv_at hl 2 rfl) ?_
        refine lv_iconst (v := 3) hx hb dX7_rowParts_36 (by decide) ?_
        refine lv_iload hx hb dX7_rowParts_37 (lv_at hl 3 rfl) ?_
        refine lv_iadd hx hb dX7_rowParts_39 ?_
        refine lv_aload_n hx hb dX7_rowParts_40 rfl (lv_at hl 0 rfl) ?_
        refine lv_iload hx hb dX7_rowParts_41 (lv_at hl 3 rfl) ?_
        have a21 : f3 o = some (.inr (7, [.ref fa, .ref fi, .ref nu, .int (nI nl), .ref fm, .int (nI nf), .ref co, .int (nI nc), .ref en, .ref ke, .long lk])) := (k5 _ (z_nn u2 p0)).trans p0
        have a22 : f6 o = some (.inr (7, [.ref fa, .ref fi, .ref nu, .int (nI nl), .ref fm, .int (nI nf), .ref co, .int (nI nc), .ref en, .ref ke, .long lk])) := (k8 _ (z_nn u2 p0)).trans a21
        have a23 : f9 o = some (.inr (7, [.ref fa, .ref fi, .ref nu, .int (nI nl), .ref fm, .int (nI nf), .ref co, .int (nI nc), .ref en, .ref ke, .long lk])) := (k11 _ (z_nn u2 p0)).trans a22
        have a24 : f12 o = some (.inr (7, [.ref fa, .ref fi, .ref nu, .int (nI nl), .ref fm, .int (nI nf), .ref co, .int (nI nc), .ref en, .ref ke, .long lk])) := (k14 _ (z_nn u2 p0)).trans a23
        have a25 : fL16 o = some (.inr (7, [.ref fa, .ref fi, .ref nu, .int (nI nl), .ref fm, .int (nI nf), .ref co, .int (nI nc), .ref en, .ref ke, .long lk])) := k17 _ _ a24 (z_nn u2 p0)
        have a26 : f3 nu = some (.inl (cy 0, 12, .inl gu)) := (k5 _ (z_nn u2 p1)).trans p1
        have a27 : f6 nu = some (.inl (cy 0, 12, .inl gu)) := (k8 _ (z_nn u2 p1)).trans a26
        have a28 : f9 nu = some (.inl (cy 0, 12, .inl gu)) := (k11 _ (z_nn u2 p1)).trans a27
        have a29 : f12 nu = some (.inl (cy 0, 12, .inl gu)) := (k14 _ (z_nn u2 p1)).trans a28
        have a30 : fL16 nu = some (.inl (cy 0, 12, .inl gu)) := k17 _ _ a29 (z_nn u2 p1)
        refine z_callVi (As := [.int (nI i)]) C hz hS hA hl (k_X7_numberAt l D cy fL16 o fa fi nu nl fm nf co nc en ke lk gu (nI i) a25 a30 hl12) zyX7_numberAt mMX7_116 a25 zl7 rfl rfl (Nat.le_of_ble_eq_true rfl) ⟨Nat.le_of_ble_eq_true rfl, Nat.le_of_ble_eq_true rfl⟩ ⟨Nat.le_of_ble_eq_true rfl, Nat.le_of_ble_eq_true rfl⟩ dX7_rowParts_43 (fun r f31 H locs h32 hz hS => ?_)
        obtain ⟨rfl, k33⟩ := h32
        refine lv_i2l (v := (qlaid nl gu (nI i)).toInt64) hx hb dX7_rowParts_46 rfl ?_
        have a34 : f31 q1 = some (.inl (cy 1, (3 + t), .inr (.inl gp))) := k33 _ _ a18 
        refine z_last (3 + i) C hz hS a34 (nI_add 3 i) (by omega) (by omega) dX7_rowParts_47 (fun H locs f35 a36 k37 hz hS => ?_)
        refine lv_iinc (v := nI (i + 1)) (lv' := [(5, .int (nI (i + 1))), (0, .ref o), (1, .int x), (4, .ref q1)]) hx hb dX7_rowParts_48 hl (k := 3) rfl (nI_1 i) (by decide) rfl (fun ls hl => ?_)
        refine lv_goto (tgt := 28) hx hb dX7_rowParts_51 (by decide) ?_
        exact ih (i + 1) (vp_updL gp (3 + i) ((qlaid nl gu (nI i)).toInt64)) _ _ _ _ (by omega) (by omega) (zrow_1 hgp) a36 (by
              intro b e hb n0
              have hb4 : fL16 b = some e := k17 b e hb n0
              have hb5 : f31 b = some e := k33 b e hb4 
              have hb6 : f35 b = some e := (k37 b n0).trans hb5
              exact hb6) hz hS (lv_sub hl [1, 2, 3, 0] rfl)
  exact lp15 (t - 0 + 1) 0 (vp_updL (vp_updL (vp_updL (fun _ => 0) 0 x.toInt64) 1 y.toInt64) 2 z.toInt64) _ _ _ _ (Nat.lt_succ_self _) (by omega) (zrow_0 ((pk_uLn (by decide)).trans ((pk_uLn (by decide)).trans pk_uLs)) ((pk_uLn (by decide)).trans pk_uLs) (by rw [hz9]; exact pk_uLs)) a13 (fun b e hb n0 => hb) hz hS (lv_sub hl [2, 3, 1, 0] rfl)
abbrev rmX7_row : Room := { frames := 6, cells := 2, slots := 22, locals := 140 }
set_option maxHeartbeats 4000000 in
set_option maxRecDepth 100000 in
theorem k_X7_row (l : Launch) (D : va_G) (cy : Nat → ClassId) (f : zM) (o : Nat) (fa : Nat) (fi : Nat) (nu : Nat) (fm : Nat) (co : Nat) (en : Nat) (ke : Nat) (ev : Nat) (al : Nat) (ra : Nat) (kn : Nat) (vq : Nat) (ge : Nat → Option Nat) (ea : Nat → Nat) (ma : Nat → Nat) (u1 : Int32) (u2 : Int32) (u3 : Int32) (gv : Nat → Int32) (nl : Nat) (gu : Nat → Int32) (nn : Nat) (ga : Nat → Option Nat) (gr : Nat → Option Nat) (fg : Nat → Nat) (pt : Nat → Nat) (kd : Nat → Int32) (ln : Nat → Nat) (pp : Nat → Nat → Int64) (wg : Nat → Int64) (wd : Nat → Int32) (hs : Nat → Int32) (bf : Nat → Int32) (nf : Nat) (gf : Nat → Option Nat) (fq : Nat → Nat) (fk : Nat → Nat) (fz : Nat → Nat) (fc : Nat → Nat → Int32) (nc : Nat) (gc : Nat → Option Nat) (cn : Nat → Nat) (ce : Nat → Int32) (cm : Nat → Int32) (sq : Nat → Nat) (mb : Nat → Nat → Int32) (ks : Nat) (kk : Nat → Int32) (kv : Nat → Int32) (lk : Int64) (x : Int32) (y : Int32)    (hI : zIX cy f o fa fi nu fm co en ke ev al ra kn vq ge ea ma u1 u2 u3 gv nl gu nn ga gr fg pt kd ln pp wg wd hs bf nf gf fq fk fz fc nc gc cn ce cm sq mb ks kk kv lk) : zCi l D cy yX7_row cX7_row 4 (Option.some Jvm.ClassFile.FieldType.int) rmX7_row [.ref o, .int x, .int y] f (fun (r : Int32) (f1 : zM) => ∃ (u11 : Int32) (u21 : Int32) (u31 : Int32) (gv1 : Nat → Int32) (nl1 : Nat) (gu1 : Nat → Int32) (nn1 : Nat) (ga1 : Nat → Option Nat) (gr1 : Nat → Option Nat) (fg1 : Nat → Nat) (pt1 : Nat → Nat) (kd1 : Nat → Int32) (ln1 : Nat → Nat) (pp1 : Nat → Nat → Int64) (wg1 : Nat → Int64) (wd1 : Nat → Int32) (hs1 : Nat → Int32) (bf1 : Nat → Int32) (nf1 : Nat) (gf1 : Nat → Option Nat) (fq1 : Nat → Nat) (fk1 : Nat → Nat) (fz1 : Nat → Nat) (fc1 : Nat → Nat → Int32) (nc1 : Nat) (gc1 : Nat → Option Nat) (cn1 : Nat → Nat) (ce1 : Nat → Int32) (cm1 : Nat → Int32) (sq1 : Nat → Nat) (mb1 : Nat → Nat → Int32) (ks1 : Nat) (kk1 : Nat → Int32) (kv1 : Nat → Int32) (lk1 : Int64), r = ((q_row nn x y).1) ∧ (u11 = (q_row nn x y).2.1) ∧ (u21 = (q_row nn x y).2.2.1) ∧ (u31 = (q_row nn x y).2.2.2) ∧ (gv1 = zEV gv (q_row nn x y).2.1) ∧ (nl1 = nl) ∧ (gu1 = gu) ∧ (nn1 = if 0 ≤ r then nn + 1 else nn) ∧ (kd1 = if 0 ≤ r then va_up kd nn 5 else kd) ∧ (ln1 = if 0 ≤ r then va_up ln nn (3 + fI x) else ln) ∧ (zPP nn (0 ≤ r) (3 + fI x) (qrow nl gu x y) pp pp1) ∧ (wd1 = if 0 ≤ r then va_up wd nn 0 else wd) ∧ (hs1 = if 0 ≤ r then va_up hs nn (zHash 5 nn (3 + fI x) (qrow nl gu x y) hs) else hs) ∧ (nf1 = nf) ∧ (fz1 = fz) ∧ (fc1 = fc) ∧ (nc1 = nc) ∧ (ce1 = ce) ∧ (cm1 = cm) ∧ (sq1 = sq) ∧ (mb1 = mb) ∧ (ks1 = ks) ∧ (kk1 = kk) ∧ (kv1 = kv) ∧ (lk1 = lk) ∧ zIX cy f1 o fa fi nu fm co en ke ev al ra kn vq ge ea ma u11 u21 u31 gv1 nl1 gu1 nn1 ga1 gr1 fg1 pt1 kd1 ln1 pp1 wg1 wd1 hs1 bf1 nf1 gf1 fq1 fk1 fz1 fc1 nc1 gc1 cn1 ce1 cm1 sq1 mb1 ks1 kk1 kv1 lk1) := by
  intro sz
  refine z_body (by decide +kernel) (Nat.le_of_ble_eq_true rfl) ?_
  intro p e s m below meth c ls C hr hin hsz hz hl
  subst hsz
  have hx := C.1
  have hb := C.2.1
  have hA : ∀ q, s.heap.size ≤ q → zA f s.heap.size q := fun q h => Or.inr h
  have hS : va_S (zA f s.heap.size) s.heap s.heap [] := va_S.rf
  have hl : lv_has ls 4 [(0, .ref o), (1, .int x), (2, .int y)] := hl
  obtain ⟨x_o, x_fa, x_ev, x_fi, x_al, x_ra, x_nu, x_fm, x_co, x_en, x_ke, x_kn, x_vq, hF, hP, hFq, hFk, hCn, hEa, hMa, hn60, hl12, hf6, hc60, hs40, hga, hgr, hln, hk5, hk4, hfi, hpi, har, hgf, hfz, hgc, hG, hsq, hei, hmi, kne, hca, hcr, hlk⟩ := id hI
  refine lv_aload_n hx hb dX7_row_0 rfl (lv_at hl 0 rfl) ?_
  refine z_get (v := .ref fa) C hz x_o zl7 mFX7_10 (by decide) rfl dX7_row_1 ?_
  refine z_callVv (As := []) C hz hS hA hl (k_X2_none l D cy f fa u1 u2 u3 ev x_fa ) zyX2_none mMX7_76 x_fa zl2 rfl rfl (Nat.le_of_ble_eq_true rfl) ⟨Nat.le_of_ble_eq_true rfl, Nat.le_of_ble_eq_true rfl⟩ ⟨Nat.le_of_ble_eq_true rfl, Nat.le_of_ble_eq_true rfl⟩ dX7_row_4 (fun  f1 H locs h2 hz hS => ?_)
  obtain ⟨a3, k4⟩ := h2
  refine lv_iload_n hx hb dX7_row_7 rfl (lv_at hl 1 rfl) ?_
  refine lv_bipush (v := 12) hx hb dX7_row_8 (by decide) ?_
  refine lv_icmp_le (tgt := 16) hx hb dX7_row_10 (by decide) (fun c5 => ?_) (fun c5 => ?_)
  · refine lv_aload_n hx hb dX7_row_16 rfl (lv_at hl 0 rfl) ?_
    have a6 : f1 o = some (.inr (7, [.ref fa, .ref fi, .ref nu, .int (nI nl), .ref fm, .int (nI nf), .ref co, .int (nI nc), .ref en, .ref ke, .long lk])) := k4 _ _ x_o (z_ne x_o x_fa rfl)
    refine z_get (v := .ref fi) C hz a6 zl7 mFX7_19 (by decide) rfl dX7_row_17 ?_
    by_cases h60 : nn < 60
    · have a7 : f1 fi = some (.inr (5, [.ref al, .ref ra, .int (nI nn)])) := k4 _ _ x_fi (z_ne x_fi x_fa rfl)
      refine z_callVi (As := []) C hz hS hA hl (k_X5_isFull_A l D cy f1 fi al ra nn a7 hn60 h60) zyX5_isFull mMX7_79 a7 zl5 rfl rfl (Nat.le_of_ble_eq_true rfl) ⟨Nat.le_of_ble_eq_true rfl, Nat.le_of_ble_eq_true rfl⟩ ⟨Nat.le_of_ble_eq_true rfl, Nat.le_of_ble_eq_true rfl⟩ dX7_row_20 (fun r f8 H locs h9 hz hS => ?_)
      obtain ⟨rfl, k10⟩ := h9
      refine lv_if_eq (tgt := 29) hx hb dX7_row_23 (by decide) (fun c11 => ?_) (fun c11 => ?_)
      rotate_left
      · exact absurd c11 (by decide)
      refine lv_iload_n hx hb dX7_row_29 rfl (lv_at hl 1 rfl) ?_
      refine lv_if_ge (tgt := 43) hx hb dX7_row_30 (by decide) (fun c12 => ?_) (fun c12 => ?_)
      · refine lv_iload_n hx hb dX7_row_43 rfl (lv_at hl 2 rfl) ?_
        refine lv_if_lt (tgt := 52) hx hb dX7_row_44 (by decide) (fun c13 => ?_) (fun c13 => ?_)
        · refine lv_aload_n hx hb dX7_row_52 rfl (lv_at hl 0 rfl) ?_
          have a14 : f8 o = some (.inr (7, [.ref fa, .ref fi, .ref nu, .int (nI nl), .ref fm, .int (nI nf), .ref co, .int (nI nc), .ref en, .ref ke, .long lk])) := k10 _ _ a6 
          refine z_get (v := .ref fa) C hz a14 zl7 mFX7_10 (by decide) rfl dX7_row_53 ?_
          refine lv_iconst (v := 2) hx hb dX7_row_56 (by decide) ?_
          refine lv_iconst (v := 1) hx hb dX7_row_57 (by decide) ?_
          have a15 : f8 fa = some (.inr (2, [.int 0, .int (-1), .int 0, .ref ev])) := k10 _ _ a3 
          have a16 : f1 ev = some (.inl (cy 0, 8, .inl gv)) := k4 _ _ x_ev (z_ne x_ev x_fa rfl)
          have a17 : f8 ev = some (.inl (cy 0, 8, .inl gv)) := k10 _ _ a16 
          refine z_callVi (As := [.int 2, .int 1]) C hz hS hA hl (k_X2_inPart l D cy f8 fa 2 1 0 (-1) 0 ev gv 2 a15 a17 (by decide) (Nat.le_of_ble_eq_true rfl)) zyX2_inPart mMX7_104 a15 zl2 rfl rfl (Nat.le_of_ble_eq_true rfl) ⟨Nat.le_of_ble_eq_true rfl, Nat.le_of_ble_eq_true rfl⟩ ⟨Nat.le_of_ble_eq_true rfl, Nat.le_of_ble_eq_true rfl⟩ dX7_row_58 (fun r f18 H locs h19 hz hS => ?_)
          obtain ⟨rfl, a20, a21, k22⟩ := h19
          have a23 : f18 o = some (.inr (7, [.ref fa, .ref fi, .ref nu, .int (nI nl), .ref fm, .int (nI nf), .ref co, .int (nI nc), .ref en, .ref ke, .long lk])) := k22 _ _ a14 (z_ne a14 a15 rfl) (z_ne a14 a17 rfl)
          have a24 : f8 fi = some (.inr (5, [.ref al, .ref ra, .int (nI nn)])) := k10 _ _ a7 
          have a25 : f18 fi = some (.inr (5, [.ref al, .ref ra, .int (nI nn)])) := k22 _ _ a24 (z_ne a24 a15 rfl) (z_ne a24 a17 rfl)
          have a26 : f1 al = some (.inl (cy 3, 60, .inr (.inr (.inr (.inr ga))))) := k4 _ _ x_al (z_ne x_al x_fa rfl)
          have a27 : f8 al = some (.inl (cy 3, 60, .inr (.inr (.inr (.inr ga))))) := k10 _ _ a26 
          have a28 : f18 al = some (.inl (cy 3, 60, .inr (.inr (.inr (.inr ga))))) := k22 _ _ a27 (z_ne a27 a15 rfl) (z_ne a27 a17 rfl)
          have a29 : f1 ra = some (.inl (cy 3, 60, .inr (.inr (.inr (.inr gr))))) := k4 _ _ x_ra (z_ne x_ra x_fa rfl)
          have a30 : f8 ra = some (.inl (cy 3, 60, .inr (.inr (.inr (.inr gr))))) := k10 _ _ a29 
          have a31 : f18 ra = some (.inl (cy 3, 60, .inr (.inr (.inr (.inr gr))))) := k22 _ _ a30 (z_ne a30 a15 rfl) (z_ne a30 a17 rfl)
          have a32 : f1 nu = some (.inl (cy 0, 12, .inl gu)) := k4 _ _ x_nu (z_ne x_nu x_fa rfl)
          have a33 : f8 nu = some (.inl (cy 0, 12, .inl gu)) := k10 _ _ a32 
          have a34 : f18 nu = some (.inl (cy 0, 12, .inl gu)) := k22 _ _ a33 (z_ne a33 a15 rfl) (z_ne a33 a17 rfl)
          have a35 : f1 fm = some (.inl (cy 4, 6, .inr (.inr (.inr (.inr gf))))) := k4 _ _ x_fm (z_ne x_fm x_fa rfl)
          have a36 : f8 fm = some (.inl (cy 4, 6, .inr (.inr (.inr (.inr gf))))) := k10 _ _ a35 
          have a37 : f18 fm = some (.inl (cy 4, 6, .inr (.inr (.inr (.inr gf))))) := k22 _ _ a36 (z_ne a36 a15 rfl) (z_ne a36 a17 rfl)
          have a38 : f1 co = some (.inl (cy 5, 60, .inr (.inr (.inr (.inr gc))))) := k4 _ _ x_co (z_ne x_co x_fa rfl)
          have a39 : f8 co = some (.inl (cy 5, 60, .inr (.inr (.inr (.inr gc))))) := k10 _ _ a38 
          have a40 : f18 co = some (.inl (cy 5, 60, .inr (.inr (.inr (.inr gc))))) := k22 _ _ a39 (z_ne a39 a15 rfl) (z_ne a39 a17 rfl)
          have a41 : f1 en = some (.inl (cy 6, 4, .inr (.inr (.inr (.inr ge))))) := k4 _ _ x_en (z_ne x_en x_fa rfl)
          have a42 : f8 en = some (.inl (cy 6, 4, .inr (.inr (.inr (.inr ge))))) := k10 _ _ a41 
          have a43 : f18 en = some (.inl (cy 6, 4, .inr (.inr (.inr (.inr ge))))) := k22 _ _ a42 (z_ne a42 a15 rfl) (z_ne a42 a17 rfl)
          have a44 : f1 ke = some (.inr (6, [.ref kn, .ref vq, .int (nI ks)])) := k4 _ _ x_ke (z_ne x_ke x_fa rfl)
          have a45 : f8 ke = some (.inr (6, [.ref kn, .ref vq, .int (nI ks)])) := k10 _ _ a44 
          have a46 : f18 ke = some (.inr (6, [.ref kn, .ref vq, .int (nI ks)])) := k22 _ _ a45 (z_ne a45 a15 rfl) (z_ne a45 a17 rfl)
          have a47 : f1 kn = some (.inl (cy 0, 40, .inl kk)) := k4 _ _ x_kn (z_ne x_kn x_fa rfl)
          have a48 : f8 kn = some (.inl (cy 0, 40, .inl kk)) := k10 _ _ a47 
          have a49 : f18 kn = some (.inl (cy 0, 40, .inl kk)) := k22 _ _ a48 (z_ne a48 a15 rfl) (z_ne a48 a17 rfl)
          have a50 : f1 vq = some (.inl (cy 0, 40, .inl kv)) := k4 _ _ x_vq (z_ne x_vq x_fa rfl)
          have a51 : f8 vq = some (.inl (cy 0, 40, .inl kv)) := k10 _ _ a50 
          have a52 : f18 vq = some (.inl (cy 0, 40, .inl kv)) := k22 _ _ a51 (z_ne a51 a15 rfl) (z_ne a51 a17 rfl)
          have F53 : ∀ i9 : Nat, i9 < nn → f1 (fg i9) = some (.inr (4, [.int (kd i9), .ref (pt i9), .long (wg i9), .int (wd i9), .int (nI i9), .int (hs i9), .int (bf i9)])) := fun i9 h9 => k4 _ _ (hF i9 h9) (z_ne (hF i9 h9) x_fa rfl)
          have F54 : ∀ i9 : Nat, i9 < nn → f8 (fg i9) = some (.inr (4, [.int (kd i9), .ref (pt i9), .long (wg i9), .int (wd i9), .int (nI i9), .int (hs i9), .int (bf i9)])) := fun i9 h9 => k10 _ _ (F53 i9 h9) 
          have F55 : ∀ i9 : Nat, i9 < nn → f18 (fg i9) = some (.inr (4, [.int (kd i9), .ref (pt i9), .long (wg i9), .int (wd i9), .int (nI i9), .int (hs i9), .int (bf i9)])) := fun i9 h9 => k22 _ _ (F54 i9 h9) (z_ne (F54 i9 h9) a15 rfl) (z_ne (F54 i9 h9) a17 rfl)
          have F56 : ∀ i9 : Nat, i9 < nn → f1 (pt i9) = some (.inl (cy 1, (ln i9), .inr (.inl (pp i9)))) := fun i9 h9 => k4 _ _ (hP i9 h9) (z_neO (hP i9 h9) x_fa rfl)
          have F57 : ∀ i9 : Nat, i9 < nn → f8 (pt i9) = some (.inl (cy 1, (ln i9), .inr (.inl (pp i9)))) := fun i9 h9 => k10 _ _ (F56 i9 h9) 
          have F58 : ∀ i9 : Nat, i9 < nn → f18 (pt i9) = some (.inl (cy 1, (ln i9), .inr (.inl (pp i9)))) := fun i9 h9 => k22 _ _ (F57 i9 h9) (z_neO (F57 i9 h9) a15 rfl) (z_neA (F57 i9 h9) a17 rfl)
          have F59 : ∀ i9 : Nat, i9 < nf → f1 (fq i9) = some (.inr (3, [.ref (fk i9), .int (nI (fz i9))])) := fun i9 h9 => k4 _ _ (hFq i9 h9) (z_ne (hFq i9 h9) x_fa rfl)
          have F60 : ∀ i9 : Nat, i9 < nf → f8 (fq i9) = some (.inr (3, [.ref (fk i9), .int (nI (fz i9))])) := fun i9 h9 => k10 _ _ (F59 i9 h9) 
          have F61 : ∀ i9 : Nat, i9 < nf → f18 (fq i9) = some (.inr (3, [.ref (fk i9), .int (nI (fz i9))])) := fun i9 h9 => k22 _ _ (F60 i9 h9) (z_ne (F60 i9 h9) a15 rfl) (z_ne (F60 i9 h9) a17 rfl)
          have F62 : ∀ i9 : Nat, i9 < nf → f1 (fk i9) = some (.inl (cy 0, 4, .inl (fc i9))) := fun i9 h9 => k4 _ _ (hFk i9 h9) (z_ne (hFk i9 h9) x_fa rfl)
          have F63 : ∀ i9 : Nat, i9 < nf → f8 (fk i9) = some (.inl (cy 0, 4, .inl (fc i9))) := fun i9 h9 => k10 _ _ (F62 i9 h9) 
          have F64 : ∀ i9 : Nat, i9 < nf → f18 (fk i9) = some (.inl (cy 0, 4, .inl (fc i9))) := fun i9 h9 => k22 _ _ (F63 i9 h9) (z_ne (F63 i9 h9) a15 rfl) (z_ne (F63 i9 h9) a17 rfl)
          have F65 : ∀ i9 : Nat, i9 < nc → f1 (cn i9) = some (.inr (0, [.int (ce i9), .int (cm i9)])) := fun i9 h9 => k4 _ _ (hCn i9 h9) (z_ne (hCn i9 h9) x_fa rfl)
          have F66 : ∀ i9 : Nat, i9 < nc → f8 (cn i9) = some (.inr (0, [.int (ce i9), .int (cm i9)])) := fun i9 h9 => k10 _ _ (F65 i9 h9) 
          have F67 : ∀ i9 : Nat, i9 < nc → f18 (cn i9) = some (.inr (0, [.int (ce i9), .int (cm i9)])) := fun i9 h9 => k22 _ _ (F66 i9 h9) (z_ne (F66 i9 h9) a15 rfl) (z_ne (F66 i9 h9) a17 rfl)
          have F68 : ∀ i9 : Nat, i9 < 4 → f1 (ea i9) = some (.inr (1, [.ref (ma i9), .int (nI (sq i9))])) := fun i9 h9 => k4 _ _ (hEa i9 h9) (z_ne (hEa i9 h9) x_fa rfl)
          have F69 : ∀ i9 : Nat, i9 < 4 → f8 (ea i9) = some (.inr (1, [.ref (ma i9), .int (nI (sq i9))])) := fun i9 h9 => k10 _ _ (F68 i9 h9) 
          have F70 : ∀ i9 : Nat, i9 < 4 → f18 (ea i9) = some (.inr (1, [.ref (ma i9), .int (nI (sq i9))])) := fun i9 h9 => k22 _ _ (F69 i9 h9) (z_ne (F69 i9 h9) a15 rfl) (z_ne (F69 i9 h9) a17 rfl)
          have F71 : ∀ i9 : Nat, i9 < 4 → f1 (ma i9) = some (.inl (cy 0, 60, .inl (mb i9))) := fun i9 h9 => k4 _ _ (hMa i9 h9) (z_ne (hMa i9 h9) x_fa rfl)
          have F72 : ∀ i9 : Nat, i9 < 4 → f8 (ma i9) = some (.inl (cy 0, 60, .inl (mb i9))) := fun i9 h9 => k10 _ _ (F71 i9 h9) 
          have F73 : ∀ i9 : Nat, i9 < 4 → f18 (ma i9) = some (.inl (cy 0, 60, .inl (mb i9))) := fun i9 h9 => k22 _ _ (F72 i9 h9) (z_ne (F72 i9 h9) a15 rfl) (z_ne (F72 i9 h9) a17 rfl)
          have hq : q_row nn x y = ((-4), 2, 1, 0) := by simp [q_row, h60, c5, c11, c12, c13]
          exact z_iret C hr rfl hz hS ⟨2, 1, 0, (upd gv 2 (gv 2 + 1)), nl, gu, nn, ga, gr, fg, pt, kd, ln, pp, wg, wd, hs, bf, nf, gf, fq, fk, fz, fc, nc, gc, cn, ce, cm, sq, mb, ks, kk, kv, lk, (by rw [hq]), (by rw [hq]), (by rw [hq]), (by rw [hq]), (by rw [hq]; exact (zEV2 gv).symm), rfl, rfl, (by rw [if_neg (by decide)]), (by rw [if_neg (by decide)]), (by rw [if_neg (by decide)]), (zPP_no (by decide)), (by rw [if_neg (by decide)]), (by rw [if_neg (by decide)]), rfl, rfl, rfl, rfl, rfl, rfl, rfl, rfl, rfl, rfl, rfl, rfl, ⟨a23, a20, a21, a25, a28, a31, a34, a37, a40, a43, a46, a49, a52, F55, F58, F61, F64, F67, F70, F73, hn60, hl12, hf6, hc60, hs40, hga, hgr, hln, hk5, hk4, hfi, hpi, har, hgf, hfz, hgc, hG, hsq, hei, hmi, kne, hca, hcr, hlk⟩⟩ (Nat.le_of_ble_eq_true rfl) (Nat.le_of_ble_eq_true rfl) dX7_row_61
        · refine lv_iload_n hx hb dX7_row_47 rfl (lv_at hl 2 rfl) ?_
          refine lv_iload_n hx hb dX7_row_48 rfl (lv_at hl 1 rfl) ?_
          refine lv_icmp_lt (tgt := 62) hx hb dX7_row_49 (by decide) (fun c74 => ?_) (fun c74 => ?_)
          · obtain ⟨t, ht, hxt⟩ := z_ixn (n := 12) (by decide) c12 c5
            have hIx : fI x = t := fI_of (by omega) hxt
            refine lv_aload_n hx hb dX7_row_62 rfl (lv_at hl 0 rfl) ?_
            refine lv_iload_n hx hb dX7_row_63 rfl (lv_at hl 2 rfl) ?_
            have a75 : f8 o = some (.inr (7, [.ref fa, .ref fi, .ref nu, .int (nI nl), .ref fm, .int (nI nf), .ref co, .int (nI nc), .ref en, .ref ke, .long lk])) := k10 _ _ a6 
            have a76 : f1 nu = some (.inl (cy 0, 12, .inl gu)) := k4 _ _ x_nu (z_ne x_nu x_fa rfl)
            have a77 : f8 nu = some (.inl (cy 0, 12, .inl gu)) := k10 _ _ a76 
            refine z_callVi (As := [.int y]) C hz hS hA hl (k_X7_numberAt l D cy f8 o fa fi nu nl fm nf co nc en ke lk gu y a75 a77 hl12) zyX7_numberAt mMX7_116 a75 zl7 rfl rfl (Nat.le_of_ble_eq_true rfl) ⟨Nat.le_of_ble_eq_true rfl, Nat.le_of_ble_eq_true rfl⟩ ⟨Nat.le_of_ble_eq_true rfl, Nat.le_of_ble_eq_true rfl⟩ dX7_row_64 (fun r f78 H locs h79 hz hS => ?_)
            obtain ⟨rfl, k80⟩ := h79
            refine lv_istore_n (lv' := [(3, .int (qlaid nl gu y)), (0, .ref o), (1, .int x), (2, .int y)]) hx hb dX7_row_67 rfl hl (by decide) rfl (fun ls hl => ?_)
            refine lv_aload_n hx hb dX7_row_68 rfl (lv_at hl 1 rfl) ?_
            have a81 : f78 o = some (.inr (7, [.ref fa, .ref fi, .ref nu, .int (nI nl), .ref fm, .int (nI nf), .ref co, .int (nI nc), .ref en, .ref ke, .long lk])) := k80 _ _ a75 
            refine z_get (v := .ref fi) C hz a81 zl7 mFX7_19 (by decide) rfl dX7_row_69 ?_
            refine z_new (fs := [.int 0, .null, .long 0, .int 0, .int 0, .int 0, .int 0]) C hz hS hA zl4 mLX7_83 mIa_RX4 mIn_RX4 (by decide +kernel) (Nat.le_of_ble_eq_true rfl) (Nat.le_of_ble_eq_true rfl) dX7_row_72 (fun q82 H f84 u83 a85 k86 hz hS => ?_)
            refine lv_dup hx hb dX7_row_75 rfl ?_
            refine lv_iconst (v := 5) hx hb dX7_row_76 (by decide) ?_
            refine lv_aload_n hx hb dX7_row_77 rfl (lv_at hl 1 rfl) ?_
            refine lv_iload_n hx hb dX7_row_78 rfl (lv_at hl 2 rfl) ?_
            refine lv_iload_n hx hb dX7_row_79 rfl (lv_at hl 3 rfl) ?_
            refine lv_iload_n hx hb dX7_row_80 rfl (lv_at hl 0 rfl) ?_
            have a87 : f84 o = some (.inr (7, [.ref fa, .ref fi, .ref nu, .int (nI nl), .ref fm, .int (nI nf), .ref co, .int (nI nc), .ref en, .ref ke, .long lk])) := (k86 _ (z_nn u83 a81)).trans a81
            have a88 : f78 nu = some (.inl (cy 0, 12, .inl gu)) := k80 _ _ a77 
            have a89 : f84 nu = some (.inl (cy 0, 12, .inl gu)) := (k86 _ (z_nn u83 a88)).trans a88
            refine z_callVq (As := [.int x, .int y, .int (qlaid nl gu y)]) C hz hS hA hl (k_X7_rowParts l D cy f84 o fa fi nu nl fm nf co nc en ke lk gu x y (qlaid nl gu y) t a87 a89 hl12 hxt ht rfl) zyX7_rowParts mMX7_120 a87 zl7 rfl rfl (Nat.le_of_ble_eq_true rfl) ⟨Nat.le_of_ble_eq_true rfl, Nat.le_of_ble_eq_true rfl⟩ ⟨Nat.le_of_ble_eq_true rfl, Nat.le_of_ble_eq_true rfl⟩ dX7_row_81 (fun r f90 H locs h91 hz hS => ?_)
            obtain ⟨pa_92, gp_93, rfl, p94, p95, a96, k97⟩ := h91
            refine W.eq (g2 := F0 m 84 ls [.ref pa_92, .int 5, .ref q82, .ref q82, .ref fi]) rfl ?_
            refine lv_iload_n hx hb dX7_row_84 rfl (lv_at hl 0 rfl) ?_
            refine lv_i2l (v := (qlaid nl gu y).toInt64) hx hb dX7_row_85 rfl ?_
            have a98 : f90 q82 = some (.inr (4, [.int 0, .null, .long 0, .int 0, .int 0, .int 0, .int 0])) := k97 _ _ a85 
            refine z_callIv (ret := none) (As := [.int 5, .ref pa_92, .long ((qlaid nl gu y).toInt64)]) C hz hS hA hl (k_X4_init l D cy f90 q82 5 pa_92 ((qlaid nl gu y).toInt64) a98 ) zyX4_init mMX7_89 rfl rfl (Nat.le_of_ble_eq_true rfl) ⟨Nat.le_of_ble_eq_true rfl, Nat.le_of_ble_eq_true rfl⟩ ⟨Nat.le_of_ble_eq_true rfl, Nat.le_of_ble_eq_true rfl⟩ dX7_row_86 (fun  f99 H locs h100 hz hS => ?_)
            obtain ⟨a101, k102⟩ := h100
            have a103 : f8 fi = some (.inr (5, [.ref al, .ref ra, .int (nI nn)])) := k10 _ _ a7 
            have a104 : f78 fi = some (.inr (5, [.ref al, .ref ra, .int (nI nn)])) := k80 _ _ a103 
            have a105 : f84 fi = some (.inr (5, [.ref al, .ref ra, .int (nI nn)])) := (k86 _ (z_nn u83 a104)).trans a104
            have a106 : f90 fi = some (.inr (5, [.ref al, .ref ra, .int (nI nn)])) := k97 _ _ a105 
            have a107 : f99 fi = some (.inr (5, [.ref al, .ref ra, .int (nI nn)])) := k102 _ _ a106 (z_nn u83 a104)
            have a108 : f1 al = some (.inl (cy 3, 60, .inr (.inr (.inr (.inr ga))))) := k4 _ _ x_al (z_ne x_al x_fa rfl)
            have a109 : f8 al = some (.inl (cy 3, 60, .inr (.inr (.inr (.inr ga))))) := k10 _ _ a108 
            have a110 : f78 al = some (.inl (cy 3, 60, .inr (.inr (.inr (.inr ga))))) := k80 _ _ a109 
            have a111 : f84 al = some (.inl (cy 3, 60, .inr (.inr (.inr (.inr ga))))) := (k86 _ (z_nn u83 a110)).trans a110
            have a112 : f90 al = some (.inl (cy 3, 60, .inr (.inr (.inr (.inr ga))))) := k97 _ _ a111 
            have a113 : f99 al = some (.inl (cy 3, 60, .inr (.inr (.inr (.inr ga))))) := k102 _ _ a112 (z_nn u83 a110)
            have a114 : f1 ra = some (.inl (cy 3, 60, .inr (.inr (.inr (.inr gr))))) := k4 _ _ x_ra (z_ne x_ra x_fa rfl)
            have a115 : f8 ra = some (.inl (cy 3, 60, .inr (.inr (.inr (.inr gr))))) := k10 _ _ a114 
            have a116 : f78 ra = some (.inl (cy 3, 60, .inr (.inr (.inr (.inr gr))))) := k80 _ _ a115 
            have a117 : f84 ra = some (.inl (cy 3, 60, .inr (.inr (.inr (.inr gr))))) := (k86 _ (z_nn u83 a116)).trans a116
            have a118 : f90 ra = some (.inl (cy 3, 60, .inr (.inr (.inr (.inr gr))))) := k97 _ _ a117 
            have a119 : f99 ra = some (.inl (cy 3, 60, .inr (.inr (.inr (.inr gr))))) := k102 _ _ a118 (z_nn u83 a116)
            have a120 : f99 pa_92 = some (.inl (cy 1, (3 + t), .inr (.inl gp_93))) := k102 _ _ a96 (Ne.symm (z_nn p94 a85))
            have F121 : ∀ i9 : Nat, i9 < nn → f1 (fg i9) = some (.inr (4, [.int (kd i9), .ref (pt i9), .long (wg i9), .int (wd i9), .int (nI i9), .int (hs i9), .int (bf i9)])) := fun i9 h9 => k4 _ _ (hF i9 h9) (z_ne (hF i9 h9) x_fa rfl)
            have F122 : ∀ i9 : Nat, i9 < nn → f8 (fg i9) = some (.inr (4, [.int (kd i9), .ref (pt i9), .long (wg i9), .int (wd i9), .int (nI i9), .int (hs i9), .int (bf i9)])) := fun i9 h9 => k10 _ _ (F121 i9 h9) 
            have F123 : ∀ i9 : Nat, i9 < nn → f78 (fg i9) = some (.inr (4, [.int (kd i9), .ref (pt i9), .long (wg i9), .int (wd i9), .int (nI i9), .int (hs i9), .int (bf i9)])) := fun i9 h9 => k80 _ _ (F122 i9 h9) 
            have F124 : ∀ i9 : Nat, i9 < nn → f84 (fg i9) = some (.inr (4, [.int (kd i9), .ref (pt i9), .long (wg i9), .int (wd i9), .int (nI i9), .int (hs i9), .int (bf i9)])) := fun i9 h9 => (k86 _ (z_nn u83 (F123 i9 h9))).trans (F123 i9 h9)
            have F125 : ∀ i9 : Nat, i9 < nn → f90 (fg i9) = some (.inr (4, [.int (kd i9), .ref (pt i9), .long (wg i9), .int (wd i9), .int (nI i9), .int (hs i9), .int (bf i9)])) := fun i9 h9 => k97 _ _ (F124 i9 h9) 
            have F126 : ∀ i9 : Nat, i9 < nn → f99 (fg i9) = some (.inr (4, [.int (kd i9), .ref (pt i9), .long (wg i9), .int (wd i9), .int (nI i9), .int (hs i9), .int (bf i9)])) := fun i9 h9 => k102 _ _ (F125 i9 h9) (z_nn u83 (F123 i9 h9))
            have F127 : ∀ i9 : Nat, i9 < nn → f1 (pt i9) = some (.inl (cy 1, (ln i9), .inr (.inl (pp i9)))) := fun i9 h9 => k4 _ _ (hP i9 h9) (z_neO (hP i9 h9) x_fa rfl)
            have F128 : ∀ i9 : Nat, i9 < nn → f8 (pt i9) = some (.inl (cy 1, (ln i9), .inr (.inl (pp i9)))) := fun i9 h9 => k10 _ _ (F127 i9 h9) 
            have F129 : ∀ i9 : Nat, i9 < nn → f78 (pt i9) = some (.inl (cy 1, (ln i9), .inr (.inl (pp i9)))) := fun i9 h9 => k80 _ _ (F128 i9 h9) 
            have F130 : ∀ i9 : Nat, i9 < nn → f84 (pt i9) = some (.inl (cy 1, (ln i9), .inr (.inl (pp i9)))) := fun i9 h9 => (k86 _ (z_nn u83 (F129 i9 h9))).trans (F129 i9 h9)
            have F131 : ∀ i9 : Nat, i9 < nn → f90 (pt i9) = some (.inl (cy 1, (ln i9), .inr (.inl (pp i9)))) := fun i9 h9 => k97 _ _ (F130 i9 h9) 
            have F132 : ∀ i9 : Nat, i9 < nn → f99 (pt i9) = some (.inl (cy 1, (ln i9), .inr (.inl (pp i9)))) := fun i9 h9 => k102 _ _ (F131 i9 h9) (z_nn u83 (F129 i9 h9))
            refine z_callVi (As := [.ref q82]) C hz hS hA hl (k_X5_add l D cy f99 fi al ra ga gr nn fg pt kd ln pp wg wd hs bf q82 5 pa_92 ((qlaid nl gu y).toInt64) 0 (-1) 0 0 (3 + t) gp_93 a107 a113 a119 a101 a120 F126 F132 h60 hga hgr hln hk5 hfi (fun j9 h9 => z_nn u83 (F123 j9 h9)) (by omega) (fun _ => by omega) har (fun h9 => absurd h9 (by decide))) zyX5_add mMX7_92 a107 zl5 rfl rfl (Nat.le_of_ble_eq_true rfl) ⟨Nat.le_of_ble_eq_true rfl, Nat.le_of_ble_eq_true rfl⟩ ⟨Nat.le_of_ble_eq_true rfl, Nat.le_of_ble_eq_true rfl⟩ dX7_row_89 (fun r f133 H locs h134 hz hS => ?_)
            obtain ⟨hq_135, bq_136, gr_137, bf_138, rfl, p139, p140, a141, a142, a143, F144, F145, k146⟩ := h134
            have a147 : f90 o = some (.inr (7, [.ref fa, .ref fi, .ref nu, .int (nI nl), .ref fm, .int (nI nf), .ref co, .int (nI nc), .ref en, .ref ke, .long lk])) := k97 _ _ a87 
            have a148 : f99 o = some (.inr (7, [.ref fa, .ref fi, .ref nu, .int (nI nl), .ref fm, .int (nI nf), .ref co, .int (nI nc), .ref en, .ref ke, .long lk])) := k102 _ _ a147 (z_nn u83 a81)
            have a149 : f133 o = some (.inr (7, [.ref fa, .ref fi, .ref nu, .int (nI nl), .ref fm, .int (nI nf), .ref co, .int (nI nc), .ref en, .ref ke, .long lk])) := k146 _ _ a148 (z_ne a148 a107 rfl) (z_ne a148 a113 rfl) (z_ne a148 a119 rfl) (z_nn u83 a81) (fun j9 h8 => (z_ne a148 (F126 j9 h8) rfl))
            have a150 : f8 fa = some (.inr (2, [.int 0, .int (-1), .int 0, .ref ev])) := k10 _ _ a3 
            have a151 : f78 fa = some (.inr (2, [.int 0, .int (-1), .int 0, .ref ev])) := k80 _ _ a150 
            have a152 : f84 fa = some (.inr (2, [.int 0, .int (-1), .int 0, .ref ev])) := (k86 _ (z_nn u83 a151)).trans a151
            have a153 : f90 fa = some (.inr (2, [.int 0, .int (-1), .int 0, .ref ev])) := k97 _ _ a152 
            have a154 : f99 fa = some (.inr (2, [.int 0, .int (-1), .int 0, .ref ev])) := k102 _ _ a153 (z_nn u83 a151)
            have a155 : f133 fa = some (.inr (2, [.int 0, .int (-1), .int 0, .ref ev])) := k146 _ _ a154 (z_ne a154 a107 rfl) (z_ne a154 a113 rfl) (z_ne a154 a119 rfl) (z_nn u83 a151) (fun j9 h8 => (z_ne a154 (F126 j9 h8) rfl))
            have a156 : f1 ev = some (.inl (cy 0, 8, .inl gv)) := k4 _ _ x_ev (z_ne x_ev x_fa rfl)
            have a157 : f8 ev = some (.inl (cy 0, 8, .inl gv)) := k10 _ _ a156 
            have a158 : f78 ev = some (.inl (cy 0, 8, .inl gv)) := k80 _ _ a157 
            have a159 : f84 ev = some (.inl (cy 0, 8, .inl gv)) := (k86 _ (z_nn u83 a158)).trans a158
            have a160 : f90 ev = some (.inl (cy 0, 8, .inl gv)) := k97 _ _ a159 
            have a161 : f99 ev = some (.inl (cy 0, 8, .inl gv)) := k102 _ _ a160 (z_nn u83 a158)
            have a162 : f133 ev = some (.inl (cy 0, 8, .inl gv)) := k146 _ _ a161 (z_ne a161 a107 rfl) (z_ne a161 a113 rfl) (z_ne a161 a119 rfl) (z_nn u83 a158) (fun j9 h8 => (z_ne a161 (F126 j9 h8) rfl))
            have a163 : f90 nu = some (.inl (cy 0, 12, .inl gu)) := k97 _ _ a89 
            have a164 : f99 nu = some (.inl (cy 0, 12, .inl gu)) := k102 _ _ a163 (z_nn u83 a88)
            have a165 : f133 nu = some (.inl (cy 0, 12, .inl gu)) := k146 _ _ a164 (z_ne a164 a107 rfl) (z_ne a164 a113 rfl) (z_ne a164 a119 rfl) (z_nn u83 a88) (fun j9 h8 => (z_ne a164 (F126 j9 h8) rfl))
            have a166 : f1 fm = some (.inl (cy 4, 6, .inr (.inr (.inr (.inr gf))))) := k4 _ _ x_fm (z_ne x_fm x_fa rfl)
            have a167 : f8 fm = some (.inl (cy 4, 6, .inr (.inr (.inr (.inr gf))))) := k10 _ _ a166 
            have a168 : f78 fm = some (.inl (cy 4, 6, .inr (.inr (.inr (.inr gf))))) := k80 _ _ a167 
            have a169 : f84 fm = some (.inl (cy 4, 6, .inr (.inr (.inr (.inr gf))))) := (k86 _ (z_nn u83 a168)).trans a168
            have a170 : f90 fm = some (.inl (cy 4, 6, .inr (.inr (.inr (.inr gf))))) := k97 _ _ a169 
            have a171 : f99 fm = some (.inl (cy 4, 6, .inr (.inr (.inr (.inr gf))))) := k102 _ _ a170 (z_nn u83 a168)
            have a172 : f133 fm = some (.inl (cy 4, 6, .inr (.inr (.inr (.inr gf))))) := k146 _ _ a171 (z_ne a171 a107 rfl) (z_ne a171 a113 rfl) (z_ne a171 a119 rfl) (z_nn u83 a168) (fun j9 h8 => (z_ne a171 (F126 j9 h8) rfl))
            have a173 : f1 co = some (.inl (cy 5, 60, .inr (.inr (.inr (.inr gc))))) := k4 _ _ x_co (z_ne x_co x_fa rfl)
            have a174 : f8 co = some (.inl (cy 5, 60, .inr (.inr (.inr (.inr gc))))) := k10 _ _ a173 
            have a175 : f78 co = some (.inl (cy 5, 60, .inr (.inr (.inr (.inr gc))))) := k80 _ _ a174 
            have a176 : f84 co = some (.inl (cy 5, 60, .inr (.inr (.inr (.inr gc))))) := (k86 _ (z_nn u83 a175)).trans a175
            have a177 : f90 co = some (.inl (cy 5, 60, .inr (.inr (.inr (.inr gc))))) := k97 _ _ a176 
            have a178 : f99 co = some (.inl (cy 5, 60, .inr (.inr (.inr (.inr gc))))) := k102 _ _ a177 (z_nn u83 a175)
            have a179 : f133 co = some (.inl (cy 5, 60, .inr (.inr (.inr (.inr gc))))) := k146 _ _ a178 (z_ne a178 a107 rfl) hca hcr (z_nn u83 a175) (fun j9 h8 => (z_ne a178 (F126 j9 h8) rfl))
            have a180 : f1 en = some (.inl (cy 6, 4, .inr (.inr (.inr (.inr ge))))) := k4 _ _ x_en (z_ne x_en x_fa rfl)
            have a181 : f8 en = some (.inl (cy 6, 4, .inr (.inr (.inr (.inr ge))))) := k10 _ _ a180 
            have a182 : f78 en = some (.inl (cy 6, 4, .inr (.inr (.inr (.inr ge))))) := k80 _ _ a181 
            have a183 : f84 en = some (.inl (cy 6, 4, .inr (.inr (.inr (.inr ge))))) := (k86 _ (z_nn u83 a182)).trans a182
            have a184 : f90 en = some (.inl (cy 6, 4, .inr (.inr (.inr (.inr ge))))) := k97 _ _ a183 
            have a185 : f99 en = some (.inl (cy 6, 4, .inr (.inr (.inr (.inr ge))))) := k102 _ _ a184 (z_nn u83 a182)
            have a186 : f133 en = some (.inl (cy 6, 4, .inr (.inr (.inr (.inr ge))))) := k146 _ _ a185 (z_ne a185 a107 rfl) (z_ne a185 a113 rfl) (z_ne a185 a119 rfl) (z_nn u83 a182) (fun j9 h8 => (z_ne a185 (F126 j9 h8) rfl))
            have a187 : f1 ke = some (.inr (6, [.ref kn, .ref vq, .int (nI ks)])) := k4 _ _ x_ke (z_ne x_ke x_fa rfl)
            have a188 : f8 ke = some (.inr (6, [.ref kn, .ref vq, .int (nI ks)])) := k10 _ _ a187 
            have a189 : f78 ke = some (.inr (6, [.ref kn, .ref vq, .int (nI ks)])) := k80 _ _ a188 
            have a190 : f84 ke = some (.inr (6, [.ref kn, .ref vq, .int (nI ks)])) := (k86 _ (z_nn u83 a189)).trans a189
            have a191 : f90 ke = some (.inr (6, [.ref kn, .ref vq, .int (nI ks)])) := k97 _ _ a190 
            have a192 : f99 ke = some (.inr (6, [.ref kn, .ref vq, .int (nI ks)])) := k102 _ _ a191 (z_nn u83 a189)
            have a193 : f133 ke = some (.inr (6, [.ref kn, .ref vq, .int (nI ks)])) := k146 _ _ a192 (z_ne a192 a107 rfl) (z_ne a192 a113 rfl) (z_ne a192 a119 rfl) (z_nn u83 a189) (fun j9 h8 => (z_ne a192 (F126 j9 h8) rfl))
            have a194 : f1 kn = some (.inl (cy 0, 40, .inl kk)) := k4 _ _ x_kn (z_ne x_kn x_fa rfl)
            have a195 : f8 kn = some (.inl (cy 0, 40, .inl kk)) := k10 _ _ a194 
            have a196 : f78 kn = some (.inl (cy 0, 40, .inl kk)) := k80 _ _ a195 
            have a197 : f84 kn = some (.inl (cy 0, 40, .inl kk)) := (k86 _ (z_nn u83 a196)).trans a196
            have a198 : f90 kn = some (.inl (cy 0, 40, .inl kk)) := k97 _ _ a197 
            have a199 : f99 kn = some (.inl (cy 0, 40, .inl kk)) := k102 _ _ a198 (z_nn u83 a196)
            have a200 : f133 kn = some (.inl (cy 0, 40, .inl kk)) := k146 _ _ a199 (z_ne a199 a107 rfl) (z_ne a199 a113 rfl) (z_ne a199 a119 rfl) (z_nn u83 a196) (fun j9 h8 => (z_ne a199 (F126 j9 h8) rfl))
            have a201 : f1 vq = some (.inl (cy 0, 40, .inl kv)) := k4 _ _ x_vq (z_ne x_vq x_fa rfl)
            have a202 : f8 vq = some (.inl (cy 0, 40, .inl kv)) := k10 _ _ a201 
            have a203 : f78 vq = some (.inl (cy 0, 40, .inl kv)) := k80 _ _ a202 
            have a204 : f84 vq = some (.inl (cy 0, 40, .inl kv)) := (k86 _ (z_nn u83 a203)).trans a203
            have a205 : f90 vq = some (.inl (cy 0, 40, .inl kv)) := k97 _ _ a204 
            have a206 : f99 vq = some (.inl (cy 0, 40, .inl kv)) := k102 _ _ a205 (z_nn u83 a203)
            have a207 : f133 vq = some (.inl (cy 0, 40, .inl kv)) := k146 _ _ a206 (z_ne a206 a107 rfl) (z_ne a206 a113 rfl) (z_ne a206 a119 rfl) (z_nn u83 a203) (fun j9 h8 => (z_ne a206 (F126 j9 h8) rfl))
            have F208 : ∀ i9 : Nat, i9 < nf → f1 (fq i9) = some (.inr (3, [.ref (fk i9), .int (nI (fz i9))])) := fun i9 h9 => k4 _ _ (hFq i9 h9) (z_ne (hFq i9 h9) x_fa rfl)
            have F209 : ∀ i9 : Nat, i9 < nf → f8 (fq i9) = some (.inr (3, [.ref (fk i9), .int (nI (fz i9))])) := fun i9 h9 => k10 _ _ (F208 i9 h9) 
            have F210 : ∀ i9 : Nat, i9 < nf → f78 (fq i9) = some (.inr (3, [.ref (fk i9), .int (nI (fz i9))])) := fun i9 h9 => k80 _ _ (F209 i9 h9) 
            have F211 : ∀ i9 : Nat, i9 < nf → f84 (fq i9) = some (.inr (3, [.ref (fk i9), .int (nI (fz i9))])) := fun i9 h9 => (k86 _ (z_nn u83 (F210 i9 h9))).trans (F210 i9 h9)
            have F212 : ∀ i9 : Nat, i9 < nf → f90 (fq i9) = some (.inr (3, [.ref (fk i9), .int (nI (fz i9))])) := fun i9 h9 => k97 _ _ (F211 i9 h9) 
            have F213 : ∀ i9 : Nat, i9 < nf → f99 (fq i9) = some (.inr (3, [.ref (fk i9), .int (nI (fz i9))])) := fun i9 h9 => k102 _ _ (F212 i9 h9) (z_nn u83 (F210 i9 h9))
            have F214 : ∀ i9 : Nat, i9 < nf → f133 (fq i9) = some (.inr (3, [.ref (fk i9), .int (nI (fz i9))])) := fun i9 h9 => k146 _ _ (F213 i9 h9) (z_ne (F213 i9 h9) a107 rfl) (z_ne (F213 i9 h9) a113 rfl) (z_ne (F213 i9 h9) a119 rfl) (z_nn u83 (F210 i9 h9)) (fun j9 h8 => (z_ne (F213 i9 h9) (F126 j9 h8) rfl))
            have F215 : ∀ i9 : Nat, i9 < nf → f1 (fk i9) = some (.inl (cy 0, 4, .inl (fc i9))) := fun i9 h9 => k4 _ _ (hFk i9 h9) (z_ne (hFk i9 h9) x_fa rfl)
            have F216 : ∀ i9 : Nat, i9 < nf → f8 (fk i9) = some (.inl (cy 0, 4, .inl (fc i9))) := fun i9 h9 => k10 _ _ (F215 i9 h9) 
            have F217 : ∀ i9 : Nat, i9 < nf → f78 (fk i9) = some (.inl (cy 0, 4, .inl (fc i9))) := fun i9 h9 => k80 _ _ (F216 i9 h9) 
            have F218 : ∀ i9 : Nat, i9 < nf → f84 (fk i9) = some (.inl (cy 0, 4, .inl (fc i9))) := fun i9 h9 => (k86 _ (z_nn u83 (F217 i9 h9))).trans (F217 i9 h9)
            have F219 : ∀ i9 : Nat, i9 < nf → f90 (fk i9) = some (.inl (cy 0, 4, .inl (fc i9))) := fun i9 h9 => k97 _ _ (F218 i9 h9) 
            have F220 : ∀ i9 : Nat, i9 < nf → f99 (fk i9) = some (.inl (cy 0, 4, .inl (fc i9))) := fun i9 h9 => k102 _ _ (F219 i9 h9) (z_nn u83 (F217 i9 h9))
            have F221 : ∀ i9 : Nat, i9 < nf → f133 (fk i9) = some (.inl (cy 0, 4, .inl (fc i9))) := fun i9 h9 => k146 _ _ (F220 i9 h9) (z_ne (F220 i9 h9) a107 rfl) (z_ne (F220 i9 h9) a113 rfl) (z_ne (F220 i9 h9) a119 rfl) (z_nn u83 (F217 i9 h9)) (fun j9 h8 => (z_ne (F220 i9 h9) (F126 j9 h8) rfl))
            have F222 : ∀ i9 : Nat, i9 < nc → f1 (cn i9) = some (.inr (0, [.int (ce i9), .int (cm i9)])) := fun i9 h9 => k4 _ _ (hCn i9 h9) (z_ne (hCn i9 h9) x_fa rfl)
            have F223 : ∀ i9 : Nat, i9 < nc → f8 (cn i9) = some (.inr (0, [.int (ce i9), .int (cm i9)])) := fun i9 h9 => k10 _ _ (F222 i9 h9) 
            have F224 : ∀ i9 : Nat, i9 < nc → f78 (cn i9) = some (.inr (0, [.int (ce i9), .int (cm i9)])) := fun i9 h9 => k80 _ _ (F223 i9 h9) 
            have F225 : ∀ i9 : Nat, i9 < nc → f84 (cn i9) = some (.inr (0, [.int (ce i9), .int (cm i9)])) := fun i9 h9 => (k86 _ (z_nn u83 (F224 i9 h9))).trans (F224 i9 h9)
            have F226 : ∀ i9 : Nat, i9 < nc → f90 (cn i9) = some (.inr (0, [.int (ce i9), .int (cm i9)])) := fun i9 h9 => k97 _ _ (F225 i9 h9) 
            have F227 : ∀ i9 : Nat, i9 < nc → f99 (cn i9) = some (.inr (0, [.int (ce i9), .int (cm i9)])) := fun i9 h9 => k102 _ _ (F226 i9 h9) (z_nn u83 (F224 i9 h9))
            have F228 : ∀ i9 : Nat, i9 < nc → f133 (cn i9) = some (.inr (0, [.int (ce i9), .int (cm i9)])) := fun i9 h9 => k146 _ _ (F227 i9 h9) (z_ne (F227 i9 h9) a107 rfl) (z_ne (F227 i9 h9) a113 rfl) (z_ne (F227 i9 h9) a119 rfl) (z_nn u83 (F224 i9 h9)) (fun j9 h8 => (z_ne (F227 i9 h9) (F126 j9 h8) rfl))
            have F229 : ∀ i9 : Nat, i9 < 4 → f1 (ea i9) = some (.inr (1, [.ref (ma i9), .int (nI (sq i9))])) := fun i9 h9 => k4 _ _ (hEa i9 h9) (z_ne (hEa i9 h9) x_fa rfl)
            have F230 : ∀ i9 : Nat, i9 < 4 → f8 (ea i9) = some (.inr (1, [.ref (ma i9), .int (nI (sq i9))])) := fun i9 h9 => k10 _ _ (F229 i9 h9) 
            have F231 : ∀ i9 : Nat, i9 < 4 → f78 (ea i9) = some (.inr (1, [.ref (ma i9), .int (nI (sq i9))])) := fun i9 h9 => k80 _ _ (F230 i9 h9) 
            have F232 : ∀ i9 : Nat, i9 < 4 → f84 (ea i9) = some (.inr (1, [.ref (ma i9), .int (nI (sq i9))])) := fun i9 h9 => (k86 _ (z_nn u83 (F231 i9 h9))).trans (F231 i9 h9)
            have F233 : ∀ i9 : Nat, i9 < 4 → f90 (ea i9) = some (.inr (1, [.ref (ma i9), .int (nI (sq i9))])) := fun i9 h9 => k97 _ _ (F232 i9 h9) 
            have F234 : ∀ i9 : Nat, i9 < 4 → f99 (ea i9) = some (.inr (1, [.ref (ma i9), .int (nI (sq i9))])) := fun i9 h9 => k102 _ _ (F233 i9 h9) (z_nn u83 (F231 i9 h9))
            have F235 : ∀ i9 : Nat, i9 < 4 → f133 (ea i9) = some (.inr (1, [.ref (ma i9), .int (nI (sq i9))])) := fun i9 h9 => k146 _ _ (F234 i9 h9) (z_ne (F234 i9 h9) a107 rfl) (z_ne (F234 i9 h9) a113 rfl) (z_ne (F234 i9 h9) a119 rfl) (z_nn u83 (F231 i9 h9)) (fun j9 h8 => (z_ne (F234 i9 h9) (F126 j9 h8) rfl))
            have F236 : ∀ i9 : Nat, i9 < 4 → f1 (ma i9) = some (.inl (cy 0, 60, .inl (mb i9))) := fun i9 h9 => k4 _ _ (hMa i9 h9) (z_ne (hMa i9 h9) x_fa rfl)
            have F237 : ∀ i9 : Nat, i9 < 4 → f8 (ma i9) = some (.inl (cy 0, 60, .inl (mb i9))) := fun i9 h9 => k10 _ _ (F236 i9 h9) 
            have F238 : ∀ i9 : Nat, i9 < 4 → f78 (ma i9) = some (.inl (cy 0, 60, .inl (mb i9))) := fun i9 h9 => k80 _ _ (F237 i9 h9) 
            have F239 : ∀ i9 : Nat, i9 < 4 → f84 (ma i9) = some (.inl (cy 0, 60, .inl (mb i9))) := fun i9 h9 => (k86 _ (z_nn u83 (F238 i9 h9))).trans (F238 i9 h9)
            have F240 : ∀ i9 : Nat, i9 < 4 → f90 (ma i9) = some (.inl (cy 0, 60, .inl (mb i9))) := fun i9 h9 => k97 _ _ (F239 i9 h9) 
            have F241 : ∀ i9 : Nat, i9 < 4 → f99 (ma i9) = some (.inl (cy 0, 60, .inl (mb i9))) := fun i9 h9 => k102 _ _ (F240 i9 h9) (z_nn u83 (F238 i9 h9))
            have F242 : ∀ i9 : Nat, i9 < 4 → f133 (ma i9) = some (.inl (cy 0, 60, .inl (mb i9))) := fun i9 h9 => k146 _ _ (F241 i9 h9) (z_ne (F241 i9 h9) a107 rfl) (z_ne (F241 i9 h9) a113 rfl) (z_ne (F241 i9 h9) a119 rfl) (z_nn u83 (F238 i9 h9)) (fun j9 h8 => (z_ne (F241 i9 h9) (F126 j9 h8) rfl))
            have a243 : f133 pa_92 = some (.inl (cy 1, (3 + t), .inr (.inl gp_93))) := k146 _ _ a120 (Ne.symm (z_nn p94 a105)) (Ne.symm (z_nn p94 a111)) (Ne.symm (z_nn p94 a117)) (Ne.symm (z_nn p94 a85)) (fun j9 h8 => (z_neO a120 (F126 j9 h8) rfl))
            have hgpf : ∀ j, j < 3 + t → gp_93 j = (qrow nl gu x y) j := p95
            have hq : q_row nn x y = (nI nn, 0, (-1), 0) := by simp [q_row, h60, c5, c11, c12, c13, c74]
            exact z_iret C hr rfl hz hS ⟨0, (-1), 0, gv, nl, gu, (nn + 1), (va_up ga nn (some q82)), gr_137, (va_up fg nn q82), (va_up pt nn pa_92), (va_up kd nn 5), (va_up ln nn (3 + t)), (va_up pp nn gp_93), (va_up wg nn ((qlaid nl gu y).toInt64)), (va_up wd nn 0), (va_up hs nn hq_135), (va_up bf_138 nn bq_136), nf, gf, fq, fk, fz, fc, nc, gc, cn, ce, cm, sq, mb, ks, kk, kv, lk, (by rw [hq]), (by rw [hq]), (by rw [hq]), (by rw [hq]), (by rw [hq]; exact (zEV0 gv).symm), rfl, rfl, (by rw [if_pos (nI_pos' (by omega))]), (by rw [if_pos (nI_pos' (by omega))]), (by rw [if_pos (nI_pos' (by omega)), hIx]), (by rw [hIx]; exact zPP_new hgpf), (by rw [if_pos (nI_pos' (by omega))]), (by rw [if_pos (nI_pos' (by omega)), p139, hIx, zHash_congr (gp' := qrow nl gu x y) hgpf]), rfl, rfl, rfl, rfl, rfl, rfl, rfl, rfl, rfl, rfl, rfl, rfl, ⟨a149, a155, a162, a141, a142, a143, a165, a172, a179, a186, a193, a200, a207, F144, F145, F214, F221, F228, F235, F242, (by omega), hl12, hf6, hc60, hs40, (z_ga1 hga), (z_gr1 p140), (z_up1 (P := fun _ a9 => a9 ≤ 15) hln (by omega)), (z_up2 (P := fun (a9 : Int32) (b9 : Nat) => a9 = 5 → 3 ≤ b9) hk5 (fun _ => by omega)), (z_up2 (P := fun (a9 : Int32) (b9 : Nat) => a9 = 4 → 2 ≤ b9) hk4 (fun h9 => absurd h9 (by decide))), (z_inj1 hfi (fun j9 h9 => z_nn u83 (F123 j9 h9))), (z_inj1 hpi (fun j9 h9 => z_nn p94 (F130 j9 h9))), har, hgf, hfz, hgc, hG, hsq, hei, hmi, kne, hca, hcr, hlk⟩⟩ (Nat.le_of_ble_eq_true rfl) (Nat.le_of_ble_eq_true rfl) dX7_row_92
          · refine lv_aload_n hx hb dX7_row_52 rfl (lv_at hl 0 rfl) ?_
            have a244 : f8 o = some (.inr (7, [.ref fa, .ref fi, .ref nu, .int (nI nl), .ref fm, .int (nI nf), .ref co, .int (nI nc), .ref en, .ref ke, .long lk])) := k10 _ _ a6 
            refine z_get (v := .ref fa) C hz a244 zl7 mFX7_10 (by decide) rfl dX7_row_53 ?_
            refine lv_iconst (v := 2) hx hb dX7_row_56 (by decide) ?_
            refine lv_iconst (v := 1) hx hb dX7_row_57 (by decide) ?_
            have a245 : f8 fa = some (.inr (2, [.int 0, .int (-1), .int 0, .ref ev])) := k10 _ _ a3 
            have a246 : f1 ev = some (.inl (cy 0, 8, .inl gv)) := k4 _ _ x_ev (z_ne x_ev x_fa rfl)
            have a247 : f8 ev = some (.inl (cy 0, 8, .inl gv)) := k10 _ _ a246 
            refine z_callVi (As := [.int 2, .int 1]) C hz hS hA hl (k_X2_inPart l D cy f8 fa 2 1 0 (-1) 0 ev gv 2 a245 a247 (by decide) (Nat.le_of_ble_eq_true rfl)) zyX2_inPart mMX7_104 a245 zl2 rfl rfl (Nat.le_of_ble_eq_true rfl) ⟨Nat.le_of_ble_eq_true rfl, Nat.le_of_ble_eq_true rfl⟩ ⟨Nat.le_of_ble_eq_true rfl, Nat.le_of_ble_eq_true rfl⟩ dX7_row_58 (fun r f248 H locs h249 hz hS => ?_)
            obtain ⟨rfl, a250, a251, k252⟩ := h249
            have a253 : f248 o = some (.inr (7, [.ref fa, .ref fi, .ref nu, .int (nI nl), .ref fm, .int (nI nf), .ref co, .int (nI nc), .ref en, .ref ke, .long lk])) := k252 _ _ a244 (z_ne a244 a245 rfl) (z_ne a244 a247 rfl)
            have a254 : f8 fi = some (.inr (5, [.ref al, .ref ra, .int (nI nn)])) := k10 _ _ a7 
            have a255 : f248 fi = some (.inr (5, [.ref al, .ref ra, .int (nI nn)])) := k252 _ _ a254 (z_ne a254 a245 rfl) (z_ne a254 a247 rfl)
            have a256 : f1 al = some (.inl (cy 3, 60, .inr (.inr (.inr (.inr ga))))) := k4 _ _ x_al (z_ne x_al x_fa rfl)
            have a257 : f8 al = some (.inl (cy 3, 60, .inr (.inr (.inr (.inr ga))))) := k10 _ _ a256 
            have a258 : f248 al = some (.inl (cy 3, 60, .inr (.inr (.inr (.inr ga))))) := k252 _ _ a257 (z_ne a257 a245 rfl) (z_ne a257 a247 rfl)
            have a259 : f1 ra = some (.inl (cy 3, 60, .inr (.inr (.inr (.inr gr))))) := k4 _ _ x_ra (z_ne x_ra x_fa rfl)
            have a260 : f8 ra = some (.inl (cy 3, 60, .inr (.inr (.inr (.inr gr))))) := k10 _ _ a259 
            have a261 : f248 ra = some (.inl (cy 3, 60, .inr (.inr (.inr (.inr gr))))) := k252 _ _ a260 (z_ne a260 a245 rfl) (z_ne a260 a247 rfl)
            have a262 : f1 nu = some (.inl (cy 0, 12, .inl gu)) := k4 _ _ x_nu (z_ne x_nu x_fa rfl)
            have a263 : f8 nu = some (.inl (cy 0, 12, .inl gu)) := k10 _ _ a262 
            have a264 : f248 nu = some (.inl (cy 0, 12, .inl gu)) := k252 _ _ a263 (z_ne a263 a245 rfl) (z_ne a263 a247 rfl)
            have a265 : f1 fm = some (.inl (cy 4, 6, .inr (.inr (.inr (.inr gf))))) := k4 _ _ x_fm (z_ne x_fm x_fa rfl)
            have a266 : f8 fm = some (.inl (cy 4, 6, .inr (.inr (.inr (.inr gf))))) := k10 _ _ a265 
            have a267 : f248 fm = some (.inl (cy 4, 6, .inr (.inr (.inr (.inr gf))))) := k252 _ _ a266 (z_ne a266 a245 rfl) (z_ne a266 a247 rfl)
            have a268 : f1 co = some (.inl (cy 5, 60, .inr (.inr (.inr (.inr gc))))) := k4 _ _ x_co (z_ne x_co x_fa rfl)
            have a269 : f8 co = some (.inl (cy 5, 60, .inr (.inr (.inr (.inr gc))))) := k10 _ _ a268 
            have a270 : f248 co = some (.inl (cy 5, 60, .inr (.inr (.inr (.inr gc))))) := k252 _ _ a269 (z_ne a269 a245 rfl) (z_ne a269 a247 rfl)
            have a271 : f1 en = some (.inl (cy 6, 4, .inr (.inr (.inr (.inr ge))))) := k4 _ _ x_en (z_ne x_en x_fa rfl)
            have a272 : f8 en = some (.inl (cy 6, 4, .inr (.inr (.inr (.inr ge))))) := k10 _ _ a271 
            have a273 : f248 en = some (.inl (cy 6, 4, .inr (.inr (.inr (.inr ge))))) := k252 _ _ a272 (z_ne a272 a245 rfl) (z_ne a272 a247 rfl)
            have a274 : f1 ke = some (.inr (6, [.ref kn, .ref vq, .int (nI ks)])) := k4 _ _ x_ke (z_ne x_ke x_fa rfl)
            have a275 : f8 ke = some (.inr (6, [.ref kn, .ref vq, .int (nI ks)])) := k10 _ _ a274 
            have a276 : f248 ke = some (.inr (6, [.ref kn, .ref vq, .int (nI ks)])) := k252 _ _ a275 (z_ne a275 a245 rfl) (z_ne a275 a247 rfl)
            have a277 : f1 kn = some (.inl (cy 0, 40, .inl kk)) := k4 _ _ x_kn (z_ne x_kn x_fa rfl)
            have a278 : f8 kn = some (.inl (cy 0, 40, .inl kk)) := k10 _ _ a277 
            have a279 : f248 kn = some (.inl (cy 0, 40, .inl kk)) := k252 _ _ a278 (z_ne a278 a245 rfl) (z_ne a278 a247 rfl)
            have a280 : f1 vq = some (.inl (cy 0, 40, .inl kv)) := k4 _ _ x_vq (z_ne x_vq x_fa rfl)
            have a281 : f8 vq = some (.inl (cy 0, 40, .inl kv)) := k10 _ _ a280 
            have a282 : f248 vq = some (.inl (cy 0, 40, .inl kv)) := k252 _ _ a281 (z_ne a281 a245 rfl) (z_ne a281 a247 rfl)
            have F283 : ∀ i9 : Nat, i9 < nn → f1 (fg i9) = some (.inr (4, [.int (kd i9), .ref (pt i9), .long (wg i9), .int (wd i9), .int (nI i9), .int (hs i9), .int (bf i9)])) := fun i9 h9 => k4 _ _ (hF i9 h9) (z_ne (hF i9 h9) x_fa rfl)
            have F284 : ∀ i9 : Nat, i9 < nn → f8 (fg i9) = some (.inr (4, [.int (kd i9), .ref (pt i9), .long (wg i9), .int (wd i9), .int (nI i9), .int (hs i9), .int (bf i9)])) := fun i9 h9 => k10 _ _ (F283 i9 h9) 
            have F285 : ∀ i9 : Nat, i9 < nn → f248 (fg i9) = some (.inr (4, [.int (kd i9), .ref (pt i9), .long (wg i9), .int (wd i9), .int (nI i9), .int (hs i9), .int (bf i9)])) := fun i9 h9 => k252 _ _ (F284 i9 h9) (z_ne (F284 i9 h9) a245 rfl) (z_ne (F284 i9 h9) a247 rfl)
            have F286 : ∀ i9 : Nat, i9 < nn → f1 (pt i9) = some (.inl (cy 1, (ln i9), .inr (.inl (pp i9)))) := fun i9 h9 => k4 _ _ (hP i9 h9) (z_neO (hP i9 h9) x_fa rfl)
            have F287 : ∀ i9 : Nat, i9 < nn → f8 (pt i9) = some (.inl (cy 1, (ln i9), .inr (.inl (pp i9)))) := fun i9 h9 => k10 _ _ (F286 i9 h9) 
            have F288 : ∀ i9 : Nat, i9 < nn → f248 (pt i9) = some (.inl (cy 1, (ln i9), .inr (.inl (pp i9)))) := fun i9 h9 => k252 _ _ (F287 i9 h9) (z_neO (F287 i9 h9) a245 rfl) (z_neA (F287 i9 h9) a247 rfl)
            have F289 : ∀ i9 : Nat, i9 < nf → f1 (fq i9) = some (.inr (3, [.ref (fk i9), .int (nI (fz i9))])) := fun i9 h9 => k4 _ _ (hFq i9 h9) (z_ne (hFq i9 h9) x_fa rfl)
            have F290 : ∀ i9 : Nat, i9 < nf → f8 (fq i9) = some (.inr (3, [.ref (fk i9), .int (nI (fz i9))])) := fun i9 h9 => k10 _ _ (F289 i9 h9) 
            have F291 : ∀ i9 : Nat, i9 < nf → f248 (fq i9) = some (.inr (3, [.ref (fk i9), .int (nI (fz i9))])) := fun i9 h9 => k252 _ _ (F290 i9 h9) (z_ne (F290 i9 h9) a245 rfl) (z_ne (F290 i9 h9) a247 rfl)
            have F292 : ∀ i9 : Nat, i9 < nf → f1 (fk i9) = some (.inl (cy 0, 4, .inl (fc i9))) := fun i9 h9 => k4 _ _ (hFk i9 h9) (z_ne (hFk i9 h9) x_fa rfl)
            have F293 : ∀ i9 : Nat, i9 < nf → f8 (fk i9) = some (.inl (cy 0, 4, .inl (fc i9))) := fun i9 h9 => k10 _ _ (F292 i9 h9) 
            have F294 : ∀ i9 : Nat, i9 < nf → f248 (fk i9) = some (.inl (cy 0, 4, .inl (fc i9))) := fun i9 h9 => k252 _ _ (F293 i9 h9) (z_ne (F293 i9 h9) a245 rfl) (z_ne (F293 i9 h9) a247 rfl)
            have F295 : ∀ i9 : Nat, i9 < nc → f1 (cn i9) = some (.inr (0, [.int (ce i9), .int (cm i9)])) := fun i9 h9 => k4 _ _ (hCn i9 h9) (z_ne (hCn i9 h9) x_fa rfl)
            have F296 : ∀ i9 : Nat, i9 < nc → f8 (cn i9) = some (.inr (0, [.int (ce i9), .int (cm i9)])) := fun i9 h9 => k10 _ _ (F295 i9 h9) 
            have F297 : ∀ i9 : Nat, i9 < nc → f248 (cn i9) = some (.inr (0, [.int (ce i9), .int (cm i9)])) := fun i9 h9 => k252 _ _ (F296 i9 h9) (z_ne (F296 i9 h9) a245 rfl) (z_ne (F296 i9 h9) a247 rfl)
            have F298 : ∀ i9 : Nat, i9 < 4 → f1 (ea i9) = some (.inr (1, [.ref (ma i9), .int (nI (sq i9))])) := fun i9 h9 => k4 _ _ (hEa i9 h9) (z_ne (hEa i9 h9) x_fa rfl)
            have F299 : ∀ i9 : Nat, i9 < 4 → f8 (ea i9) = some (.inr (1, [.ref (ma i9), .int (nI (sq i9))])) := fun i9 h9 => k10 _ _ (F298 i9 h9) 
            have F300 : ∀ i9 : Nat, i9 < 4 → f248 (ea i9) = some (.inr (1, [.ref (ma i9), .int (nI (sq i9))])) := fun i9 h9 => k252 _ _ (F299 i9 h9) (z_ne (F299 i9 h9) a245 rfl) (z_ne (F299 i9 h9) a247 rfl)
            have F301 : ∀ i9 : Nat, i9 < 4 → f1 (ma i9) = some (.inl (cy 0, 60, .inl (mb i9))) := fun i9 h9 => k4 _ _ (hMa i9 h9) (z_ne (hMa i9 h9) x_fa rfl)
            have F302 : ∀ i9 : Nat, i9 < 4 → f8 (ma i9) = some (.inl (cy 0, 60, .inl (mb i9))) := fun i9 h9 => k10 _ _ (F301 i9 h9) 
            have F303 : ∀ i9 : Nat, i9 < 4 → f248 (ma i9) = some (.inl (cy 0, 60, .inl (mb i9))) := fun i9 h9 => k252 _ _ (F302 i9 h9) (z_ne (F302 i9 h9) a245 rfl) (z_ne (F302 i9 h9) a247 rfl)
            have hq : q_row nn x y = ((-4), 2, 1, 0) := by simp [q_row, h60, c5, c11, c12, c13, c74]
            exact z_iret C hr rfl hz hS ⟨2, 1, 0, (upd gv 2 (gv 2 + 1)), nl, gu, nn, ga, gr, fg, pt, kd, ln, pp, wg, wd, hs, bf, nf, gf, fq, fk, fz, fc, nc, gc, cn, ce, cm, sq, mb, ks, kk, kv, lk, (by rw [hq]), (by rw [hq]), (by rw [hq]), (by rw [hq]), (by rw [hq]; exact (zEV2 gv).symm), rfl, rfl, (by rw [if_neg (by decide)]), (by rw [if_neg (by decide)]), (by rw [if_neg (by decide)]), (zPP_no (by decide)), (by rw [if_neg (by decide)]), (by rw [if_neg (by decide)]), rfl, rfl, rfl, rfl, rfl, rfl, rfl, rfl, rfl, rfl, rfl, rfl, ⟨a253, a250, a251, a255, a258, a261, a264, a267, a270, a273, a276, a279, a282, F285, F288, F291, F294, F297, F300, F303, hn60, hl12, hf6, hc60, hs40, hga, hgr, hln, hk5, hk4, hfi, hpi, har, hgf, hfz, hgc, hG, hsq, hei, hmi, kne, hca, hcr, hlk⟩⟩ (Nat.le_of_ble_eq_true rfl) (Nat.le_of_ble_eq_true rfl) dX7_row_61
      · refine lv_aload_n hx hb dX7_row_33 rfl (lv_at hl 0 rfl) ?_
        have a304 : f8 o = some (.inr (7, [.ref fa, .ref fi, .ref nu, .int (nI nl), .ref fm, .int (nI nf), .ref co, .int (nI nc), .ref en, .ref ke, .long lk])) := k10 _ _ a6 
        refine z_get (v := .ref fa) C hz a304 zl7 mFX7_10 (by decide) rfl dX7_row_34 ?_
        refine lv_iconst (v := 5) hx hb dX7_row_37 (by decide) ?_
        refine lv_iconst (v := 0) hx hb dX7_row_38 (by decide) ?_
        have a305 : f8 fa = some (.inr (2, [.int 0, .int (-1), .int 0, .ref ev])) := k10 _ _ a3 
        have a306 : f1 ev = some (.inl (cy 0, 8, .inl gv)) := k4 _ _ x_ev (z_ne x_ev x_fa rfl)
        have a307 : f8 ev = some (.inl (cy 0, 8, .inl gv)) := k10 _ _ a306 
        refine z_callVi (As := [.int 5, .int 0]) C hz hS hA hl (k_X2_inPart l D cy f8 fa 5 0 0 (-1) 0 ev gv 5 a305 a307 (by decide) (Nat.le_of_ble_eq_true rfl)) zyX2_inPart mMX7_104 a305 zl2 rfl rfl (Nat.le_of_ble_eq_true rfl) ⟨Nat.le_of_ble_eq_true rfl, Nat.le_of_ble_eq_true rfl⟩ ⟨Nat.le_of_ble_eq_true rfl, Nat.le_of_ble_eq_true rfl⟩ dX7_row_39 (fun r f308 H locs h309 hz hS => ?_)
        obtain ⟨rfl, a310, a311, k312⟩ := h309
        have a313 : f308 o = some (.inr (7, [.ref fa, .ref fi, .ref nu, .int (nI nl), .ref fm, .int (nI nf), .ref co, .int (nI nc), .ref en, .ref ke, .long lk])) := k312 _ _ a304 (z_ne a304 a305 rfl) (z_ne a304 a307 rfl)
        have a314 : f8 fi = some (.inr (5, [.ref al, .ref ra, .int (nI nn)])) := k10 _ _ a7 
        have a315 : f308 fi = some (.inr (5, [.ref al, .ref ra, .int (nI nn)])) := k312 _ _ a314 (z_ne a314 a305 rfl) (z_ne a314 a307 rfl)
        have a316 : f1 al = some (.inl (cy 3, 60, .inr (.inr (.inr (.inr ga))))) := k4 _ _ x_al (z_ne x_al x_fa rfl)
        have a317 : f8 al = some (.inl (cy 3, 60, .inr (.inr (.inr (.inr ga))))) := k10 _ _ a316 
        have a318 : f308 al = some (.inl (cy 3, 60, .inr (.inr (.inr (.inr ga))))) := k312 _ _ a317 (z_ne a317 a305 rfl) (z_ne a317 a307 rfl)
        have a319 : f1 ra = some (.inl (cy 3, 60, .inr (.inr (.inr (.inr gr))))) := k4 _ _ x_ra (z_ne x_ra x_fa rfl)
        have a320 : f8 ra = some (.inl (cy 3, 60, .inr (.inr (.inr (.inr gr))))) := k10 _ _ a319 
        have a321 : f308 ra = some (.inl (cy 3, 60, .inr (.inr (.inr (.inr gr))))) := k312 _ _ a320 (z_ne a320 a305 rfl) (z_ne a320 a307 rfl)
        have a322 : f1 nu = some (.inl (cy 0, 12, .inl gu)) := k4 _ _ x_nu (z_ne x_nu x_fa rfl)
        have a323 : f8 nu = some (.inl (cy 0, 12, .inl gu)) := k10 _ _ a322 
        have a324 : f308 nu = some (.inl (cy 0, 12, .inl gu)) := k312 _ _ a323 (z_ne a323 a305 rfl) (z_ne a323 a307 rfl)
        have a325 : f1 fm = some (.inl (cy 4, 6, .inr (.inr (.inr (.inr gf))))) := k4 _ _ x_fm (z_ne x_fm x_fa rfl)
        have a326 : f8 fm = some (.inl (cy 4, 6, .inr (.inr (.inr (.inr gf))))) := k10 _ _ a325 
        have a327 : f308 fm = some (.inl (cy 4, 6, .inr (.inr (.inr (.inr gf))))) := k312 _ _ a326 (z_ne a326 a305 rfl) (z_ne a326 a307 rfl)
        have a328 : f1 co = some (.inl (cy 5, 60, .inr (.inr (.inr (.inr gc))))) := k4 _ _ x_co (z_ne x_co x_fa rfl)
        have a329 : f8 co = some (.inl (cy 5, 60, .inr (.inr (.inr (.inr gc))))) := k10 _ _ a328 
        have a330 : f308 co = some (.inl (cy 5, 60, .inr (.inr (.inr (.inr gc))))) := k312 _ _ a329 (z_ne a329 a305 rfl) (z_ne a329 a307 rfl)
        have a331 : f1 en = some (.inl (cy 6, 4, .inr (.inr (.inr (.inr ge))))) := k4 _ _ x_en (z_ne x_en x_fa rfl)
        have a332 : f8 en = some (.inl (cy 6, 4, .inr (.inr (.inr (.inr ge))))) := k10 _ _ a331 
        have a333 : f308 en = some (.inl (cy 6, 4, .inr (.inr (.inr (.inr ge))))) := k312 _ _ a332 (z_ne a332 a305 rfl) (z_ne a332 a307 rfl)
        have a334 : f1 ke = some (.inr (6, [.ref kn, .ref vq, .int (nI ks)])) := k4 _ _ x_ke (z_ne x_ke x_fa rfl)
        have a335 : f8 ke = some (.inr (6, [.ref kn, .ref vq, .int (nI ks)])) := k10 _ _ a334 
        have a336 : f308 ke = some (.inr (6, [.ref kn, .ref vq, .int (nI ks)])) := k312 _ _ a335 (z_ne a335 a305 rfl) (z_ne a335 a307 rfl)
        have a337 : f1 kn = some (.inl (cy 0, 40, .inl kk)) := k4 _ _ x_kn (z_ne x_kn x_fa rfl)
        have a338 : f8 kn = some (.inl (cy 0, 40, .inl kk)) := k10 _ _ a337 
        have a339 : f308 kn = some (.inl (cy 0, 40, .inl kk)) := k312 _ _ a338 (z_ne a338 a305 rfl) (z_ne a338 a307 rfl)
        have a340 : f1 vq = some (.inl (cy 0, 40, .inl kv)) := k4 _ _ x_vq (z_ne x_vq x_fa rfl)
        have a341 : f8 vq = some (.inl (cy 0, 40, .inl kv)) := k10 _ _ a340 
        have a342 : f308 vq = some (.inl (cy 0, 40, .inl kv)) := k312 _ _ a341 (z_ne a341 a305 rfl) (z_ne a341 a307 rfl)
        have F343 : ∀ i9 : Nat, i9 < nn → f1 (fg i9) = some (.inr (4, [.int (kd i9), .ref (pt i9), .long (wg i9), .int (wd i9), .int (nI i9), .int (hs i9), .int (bf i9)])) := fun i9 h9 => k4 _ _ (hF i9 h9) (z_ne (hF i9 h9) x_fa rfl)
        have F344 : ∀ i9 : Nat, i9 < nn → f8 (fg i9) = some (.inr (4, [.int (kd i9), .ref (pt i9), .long (wg i9), .int (wd i9), .int (nI i9), .int (hs i9), .int (bf i9)])) := fun i9 h9 => k10 _ _ (F343 i9 h9) 
        have F345 : ∀ i9 : Nat, i9 < nn → f308 (fg i9) = some (.inr (4, [.int (kd i9), .ref (pt i9), .long (wg i9), .int (wd i9), .int (nI i9), .int (hs i9), .int (bf i9)])) := fun i9 h9 => k312 _ _ (F344 i9 h9) (z_ne (F344 i9 h9) a305 rfl) (z_ne (F344 i9 h9) a307 rfl)
        have F346 : ∀ i9 : Nat, i9 < nn → f1 (pt i9) = some (.inl (cy 1, (ln i9), .inr (.inl (pp i9)))) := fun i9 h9 => k4 _ _ (hP i9 h9) (z_neO (hP i9 h9) x_fa rfl)
        have F347 : ∀ i9 : Nat, i9 < nn → f8 (pt i9) = some (.inl (cy 1, (ln i9), .inr (.inl (pp i9)))) := fun i9 h9 => k10 _ _ (F346 i9 h9) 
        have F348 : ∀ i9 : Nat, i9 < nn → f308 (pt i9) = some (.inl (cy 1, (ln i9), .inr (.inl (pp i9)))) := fun i9 h9 => k312 _ _ (F347 i9 h9) (z_neO (F347 i9 h9) a305 rfl) (z_neA (F347 i9 h9) a307 rfl)
        have F349 : ∀ i9 : Nat, i9 < nf → f1 (fq i9) = some (.inr (3, [.ref (fk i9), .int (nI (fz i9))])) := fun i9 h9 => k4 _ _ (hFq i9 h9) (z_ne (hFq i9 h9) x_fa rfl)
        have F350 : ∀ i9 : Nat, i9 < nf → f8 (fq i9) = some (.inr (3, [.ref (fk i9), .int (nI (fz i9))])) := fun i9 h9 => k10 _ _ (F349 i9 h9) 
        have F351 : ∀ i9 : Nat, i9 < nf → f308 (fq i9) = some (.inr (3, [.ref (fk i9), .int (nI (fz i9))])) := fun i9 h9 => k312 _ _ (F350 i9 h9) (z_ne (F350 i9 h9) a305 rfl) (z_ne (F350 i9 h9) a307 rfl)
        have F352 : ∀ i9 : Nat, i9 < nf → f1 (fk i9) = some (.inl (cy 0, 4, .inl (fc i9))) := fun i9 h9 => k4 _ _ (hFk i9 h9) (z_ne (hFk i9 h9) x_fa rfl)
        have F353 : ∀ i9 : Nat, i9 < nf → f8 (fk i9) = some (.inl (cy 0, 4, .inl (fc i9))) := fun i9 h9 => k10 _ _ (F352 i9 h9) 
        have F354 : ∀ i9 : Nat, i9 < nf → f308 (fk i9) = some (.inl (cy 0, 4, .inl (fc i9))) := fun i9 h9 => k312 _ _ (F353 i9 h9) (z_ne (F353 i9 h9) a305 rfl) (z_ne (F353 i9 h9) a307 rfl)
        have F355 : ∀ i9 : Nat, i9 < nc → f1 (cn i9) = some (.inr (0, [.int (ce i9), .int (cm i9)])) := fun i9 h9 => k4 _ _ (hCn i9 h9) (z_ne (hCn i9 h9) x_fa rfl)
        have F356 : ∀ i9 : Nat, i9 < nc → f8 (cn i9) = some (.inr (0, [.int (ce i9), .int (cm i9)])) := fun i9 h9 => k10 _ _ (F355 i9 h9) 
        have F357 : ∀ i9 : Nat, i9 < nc → f308 (cn i9) = some (.inr (0, [.int (ce i9), .int (cm i9)])) := fun i9 h9 => k312 _ _ (F356 i9 h9) (z_ne (F356 i9 h9) a305 rfl) (z_ne (F356 i9 h9) a307 rfl)
        have F358 : ∀ i9 : Nat, i9 < 4 → f1 (ea i9) = some (.inr (1, [.ref (ma i9), .int (nI (sq i9))])) := fun i9 h9 => k4 _ _ (hEa i9 h9) (z_ne (hEa i9 h9) x_fa rfl)
        have F359 : ∀ i9 : Nat, i9 < 4 → f8 (ea i9) = some (.inr (1, [.ref (ma i9), .int (nI (sq i9))])) := fun i9 h9 => k10 _ _ (F358 i9 h9) 
        have F360 : ∀ i9 : Nat, i9 < 4 → f308 (ea i9) = some (.inr (1, [.ref (ma i9), .int (nI (sq i9))])) := fun i9 h9 => k312 _ _ (F359 i9 h9) (z_ne (F359 i9 h9) a305 rfl) (z_ne (F359 i9 h9) a307 rfl)
        have F361 : ∀ i9 : Nat, i9 < 4 → f1 (ma i9) = some (.inl (cy 0, 60, .inl (mb i9))) := fun i9 h9 => k4 _ _ (hMa i9 h9) (z_ne (hMa i9 h9) x_fa rfl)
        have F362 : ∀ i9 : Nat, i9 < 4 → f8 (ma i9) = some (.inl (cy 0, 60, .inl (mb i9))) := fun i9 h9 => k10 _ _ (F361 i9 h9) 
        have F363 : ∀ i9 : Nat, i9 < 4 → f308 (ma i9) = some (.inl (cy 0, 60, .inl (mb i9))) := fun i9 h9 => k312 _ _ (F362 i9 h9) (z_ne (F362 i9 h9) a305 rfl) (z_ne (F362 i9 h9) a307 rfl)
        have hq : q_row nn x y = ((-4), 5, 0, 0) := by simp [q_row, h60, c5, c11, c12]
        exact z_iret C hr rfl hz hS ⟨5, 0, 0, (upd gv 5 (gv 5 + 1)), nl, gu, nn, ga, gr, fg, pt, kd, ln, pp, wg, wd, hs, bf, nf, gf, fq, fk, fz, fc, nc, gc, cn, ce, cm, sq, mb, ks, kk, kv, lk, (by rw [hq]), (by rw [hq]), (by rw [hq]), (by rw [hq]), (by rw [hq]; exact (zEV5 gv).symm), rfl, rfl, (by rw [if_neg (by decide)]), (by rw [if_neg (by decide)]), (by rw [if_neg (by decide)]), (zPP_no (by decide)), (by rw [if_neg (by decide)]), (by rw [if_neg (by decide)]), rfl, rfl, rfl, rfl, rfl, rfl, rfl, rfl, rfl, rfl, rfl, rfl, ⟨a313, a310, a311, a315, a318, a321, a324, a327, a330, a333, a336, a339, a342, F345, F348, F351, F354, F357, F360, F363, hn60, hl12, hf6, hc60, hs40, hga, hgr, hln, hk5, hk4, hfi, hpi, har, hgf, hfz, hgc, hG, hsq, hei, hmi, kne, hca, hcr, hlk⟩⟩ (Nat.le_of_ble_eq_true rfl) (Nat.le_of_ble_eq_true rfl) dX7_row_42
    · have a364 : f1 fi = some (.inr (5, [.ref al, .ref ra, .int (nI nn)])) := k4 _ _ x_fi (z_ne x_fi x_fa rfl)
      refine z_callVi (As := []) C hz hS hA hl (k_X5_isFull_B l D cy f1 fi al ra nn a364 hn60 h60) zyX5_isFull mMX7_79 a364 zl5 rfl rfl (Nat.le_of_ble_eq_true rfl) ⟨Nat.le_of_ble_eq_true rfl, Nat.le_of_ble_eq_true rfl⟩ ⟨Nat.le_of_ble_eq_true rfl, Nat.le_of_ble_eq_true rfl⟩ dX7_row_20 (fun r f365 H locs h366 hz hS => ?_)
      obtain ⟨rfl, k367⟩ := h366
      refine lv_if_eq (tgt := 29) hx hb dX7_row_23 (by decide) (fun c368 => ?_) (fun c368 => ?_)
      · exact absurd c368 (by decide)
      refine lv_bipush (v := (-3)) hx hb dX7_row_26 (by decide) ?_
      have a369 : f365 o = some (.inr (7, [.ref fa, .ref fi, .ref nu, .int (nI nl), .ref fm, .int (nI nf), .ref co, .int (nI nc), .ref en, .ref ke, .long lk])) := k367 _ _ a6 
      have a370 : f365 fa = some (.inr (2, [.int 0, .int (-1), .int 0, .ref ev])) := k367 _ _ a3 
      have a371 : f1 ev = some (.inl (cy 0, 8, .inl gv)) := k4 _ _ x_ev (z_ne x_ev x_fa rfl)
      have a372 : f365 ev = some (.inl (cy 0, 8, .inl gv)) := k367 _ _ a371 
      have a373 : f365 fi = some (.inr (5, [.ref al, .ref ra, .int (nI nn)])) := k367 _ _ a364 
      have a374 : f1 al = some (.inl (cy 3, 60, .inr (.inr (.inr (.inr ga))))) := k4 _ _ x_al (z_ne x_al x_fa rfl)
      have a375 : f365 al = some (.inl (cy 3, 60, .inr (.inr (.inr (.inr ga))))) := k367 _ _ a374 
      have a376 : f1 ra = some (.inl (cy 3, 60, .inr (.inr (.inr (.inr gr))))) := k4 _ _ x_ra (z_ne x_ra x_fa rfl)
      have a377 : f365 ra = some (.inl (cy 3, 60, .inr (.inr (.inr (.inr gr))))) := k367 _ _ a376 
      have a378 : f1 nu = some (.inl (cy 0, 12, .inl gu)) := k4 _ _ x_nu (z_ne x_nu x_fa rfl)
      have a379 : f365 nu = some (.inl (cy 0, 12, .inl gu)) := k367 _ _ a378 
      have a380 : f1 fm = some (.inl (cy 4, 6, .inr (.inr (.inr (.inr gf))))) := k4 _ _ x_fm (z_ne x_fm x_fa rfl)
      have a381 : f365 fm = some (.inl (cy 4, 6, .inr (.inr (.inr (.inr gf))))) := k367 _ _ a380 
      have a382 : f1 co = some (.inl (cy 5, 60, .inr (.inr (.inr (.inr gc))))) := k4 _ _ x_co (z_ne x_co x_fa rfl)
      have a383 : f365 co = some (.inl (cy 5, 60, .inr (.inr (.inr (.inr gc))))) := k367 _ _ a382 
      have a384 : f1 en = some (.inl (cy 6, 4, .inr (.inr (.inr (.inr ge))))) := k4 _ _ x_en (z_ne x_en x_fa rfl)
      have a385 : f365 en = some (.inl (cy 6, 4, .inr (.inr (.inr (.inr ge))))) := k367 _ _ a384 
      have a386 : f1 ke = some (.inr (6, [.ref kn, .ref vq, .int (nI ks)])) := k4 _ _ x_ke (z_ne x_ke x_fa rfl)
      have a387 : f365 ke = some (.inr (6, [.ref kn, .ref vq, .int (nI ks)])) := k367 _ _ a386 
      have a388 : f1 kn = some (.inl (cy 0, 40, .inl kk)) := k4 _ _ x_kn (z_ne x_kn x_fa rfl)
      have a389 : f365 kn = some (.inl (cy 0, 40, .inl kk)) := k367 _ _ a388 
      have a390 : f1 vq = some (.inl (cy 0, 40, .inl kv)) := k4 _ _ x_vq (z_ne x_vq x_fa rfl)
      have a391 : f365 vq = some (.inl (cy 0, 40, .inl kv)) := k367 _ _ a390 
      have F392 : ∀ i9 : Nat, i9 < nn → f1 (fg i9) = some (.inr (4, [.int (kd i9), .ref (pt i9), .long (wg i9), .int (wd i9), .int (nI i9), .int (hs i9), .int (bf i9)])) := fun i9 h9 => k4 _ _ (hF i9 h9) (z_ne (hF i9 h9) x_fa rfl)
      have F393 : ∀ i9 : Nat, i9 < nn → f365 (fg i9) = some (.inr (4, [.int (kd i9), .ref (pt i9), .long (wg i9), .int (wd i9), .int (nI i9), .int (hs i9), .int (bf i9)])) := fun i9 h9 => k367 _ _ (F392 i9 h9) 
      have F394 : ∀ i9 : Nat, i9 < nn → f1 (pt i9) = some (.inl (cy 1, (ln i9), .inr (.inl (pp i9)))) := fun i9 h9 => k4 _ _ (hP i9 h9) (z_neO (hP i9 h9) x_fa rfl)
      have F395 : ∀ i9 : Nat, i9 < nn → f365 (pt i9) = some (.inl (cy 1, (ln i9), .inr (.inl (pp i9)))) := fun i9 h9 => k367 _ _ (F394 i9 h9) 
      have F396 : ∀ i9 : Nat, i9 < nf → f1 (fq i9) = some (.inr (3, [.ref (fk i9), .int (nI (fz i9))])) := fun i9 h9 => k4 _ _ (hFq i9 h9) (z_ne (hFq i9 h9) x_fa rfl)
      have F397 : ∀ i9 : Nat, i9 < nf → f365 (fq i9) = some (.inr (3, [.ref (fk i9), .int (nI (fz i9))])) := fun i9 h9 => k367 _ _ (F396 i9 h9) 
      have F398 : ∀ i9 : Nat, i9 < nf → f1 (fk i9) = some (.inl (cy 0, 4, .inl (fc i9))) := fun i9 h9 => k4 _ _ (hFk i9 h9) (z_ne (hFk i9 h9) x_fa rfl)
      have F399 : ∀ i9 : Nat, i9 < nf → f365 (fk i9) = some (.inl (cy 0, 4, .inl (fc i9))) := fun i9 h9 => k367 _ _ (F398 i9 h9) 
      have F400 : ∀ i9 : Nat, i9 < nc → f1 (cn i9) = some (.inr (0, [.int (ce i9), .int (cm i9)])) := fun i9 h9 => k4 _ _ (hCn i9 h9) (z_ne (hCn i9 h9) x_fa rfl)
      have F401 : ∀ i9 : Nat, i9 < nc → f365 (cn i9) = some (.inr (0, [.int (ce i9), .int (cm i9)])) := fun i9 h9 => k367 _ _ (F400 i9 h9) 
      have F402 : ∀ i9 : Nat, i9 < 4 → f1 (ea i9) = some (.inr (1, [.ref (ma i9), .int (nI (sq i9))])) := fun i9 h9 => k4 _ _ (hEa i9 h9) (z_ne (hEa i9 h9) x_fa rfl)
      have F403 : ∀ i9 : Nat, i9 < 4 → f365 (ea i9) = some (.inr (1, [.ref (ma i9), .int (nI (sq i9))])) := fun i9 h9 => k367 _ _ (F402 i9 h9) 
      have F404 : ∀ i9 : Nat, i9 < 4 → f1 (ma i9) = some (.inl (cy 0, 60, .inl (mb i9))) := fun i9 h9 => k4 _ _ (hMa i9 h9) (z_ne (hMa i9 h9) x_fa rfl)
      have F405 : ∀ i9 : Nat, i9 < 4 → f365 (ma i9) = some (.inl (cy 0, 60, .inl (mb i9))) := fun i9 h9 => k367 _ _ (F404 i9 h9) 
      have hq : q_row nn x y = ((-3), 0, (-1), 0) := by simp [q_row, h60, c5, c368]
      exact z_iret C hr rfl hz hS ⟨0, (-1), 0, gv, nl, gu, nn, ga, gr, fg, pt, kd, ln, pp, wg, wd, hs, bf, nf, gf, fq, fk, fz, fc, nc, gc, cn, ce, cm, sq, mb, ks, kk, kv, lk, (by rw [hq]), (by rw [hq]), (by rw [hq]), (by rw [hq]), (by rw [hq]; exact (zEV0 gv).symm), rfl, rfl, (by rw [if_neg (by decide)]), (by rw [if_neg (by decide)]), (by rw [if_neg (by decide)]), (zPP_no (by decide)), (by rw [if_neg (by decide)]), (by rw [if_neg (by decide)]), rfl, rfl, rfl, rfl, rfl, rfl, rfl, rfl, rfl, rfl, rfl, rfl, ⟨a369, a370, a372, a373, a375, a377, a379, a381, a383, a385, a387, a389, a391, F393, F395, F397, F399, F401, F403, F405, hn60, hl12, hf6, hc60, hs40, hga, hgr, hln, hk5, hk4, hfi, hpi, har, hgf, hfz, hgc, hG, hsq, hei, hmi, kne, hca, hcr, hlk⟩⟩ (Nat.le_of_ble_eq_true rfl) (Nat.le_of_ble_eq_true rfl) dX7_row_28
  · refine lv_bipush (v := (-2)) hx hb dX7_row_13 (by decide) ?_
    have a406 : f1 o = some (.inr (7, [.ref fa, .ref fi, .ref nu, .int (nI nl), .ref fm, .int (nI nf), .ref co, .int (nI nc), .ref en, .ref ke, .long lk])) := k4 _ _ x_o (z_ne x_o x_fa rfl)
    have a407 : f1 ev = some (.inl (cy 0, 8, .inl gv)) := k4 _ _ x_ev (z_ne x_ev x_fa rfl)
    have a408 : f1 fi = some (.inr (5, [.ref al, .ref ra, .int (nI nn)])) := k4 _ _ x_fi (z_ne x_fi x_fa rfl)
    have a409 : f1 al = some (.inl (cy 3, 60, .inr (.inr (.inr (.inr ga))))) := k4 _ _ x_al (z_ne x_al x_fa rfl)
    have a410 : f1 ra = some (.inl (cy 3, 60, .inr (.inr (.inr (.inr gr))))) := k4 _ _ x_ra (z_ne x_ra x_fa rfl)
    have a411 : f1 nu = some (.inl (cy 0, 12, .inl gu)) := k4 _ _ x_nu (z_ne x_nu x_fa rfl)
    have a412 : f1 fm = some (.inl (cy 4, 6, .inr (.inr (.inr (.inr gf))))) := k4 _ _ x_fm (z_ne x_fm x_fa rfl)
    have a413 : f1 co = some (.inl (cy 5, 60, .inr (.inr (.inr (.inr gc))))) := k4 _ _ x_co (z_ne x_co x_fa rfl)
    have a414 : f1 en = some (.inl (cy 6, 4, .inr (.inr (.inr (.inr ge))))) := k4 _ _ x_en (z_ne x_en x_fa rfl)
    have a415 : f1 ke = some (.inr (6, [.ref kn, .ref vq, .int (nI ks)])) := k4 _ _ x_ke (z_ne x_ke x_fa rfl)
    have a416 : f1 kn = some (.inl (cy 0, 40, .inl kk)) := k4 _ _ x_kn (z_ne x_kn x_fa rfl)
    have a417 : f1 vq = some (.inl (cy 0, 40, .inl kv)) := k4 _ _ x_vq (z_ne x_vq x_fa rfl)
    have F418 : ∀ i9 : Nat, i9 < nn → f1 (fg i9) = some (.inr (4, [.int (kd i9), .ref (pt i9), .long (wg i9), .int (wd i9), .int (nI i9), .int (hs i9), .int (bf i9)])) := fun i9 h9 => k4 _ _ (hF i9 h9) (z_ne (hF i9 h9) x_fa rfl)
    have F419 : ∀ i9 : Nat, i9 < nn → f1 (pt i9) = some (.inl (cy 1, (ln i9), .inr (.inl (pp i9)))) := fun i9 h9 => k4 _ _ (hP i9 h9) (z_neO (hP i9 h9) x_fa rfl)
    have F420 : ∀ i9 : Nat, i9 < nf → f1 (fq i9) = some (.inr (3, [.ref (fk i9), .int (nI (fz i9))])) := fun i9 h9 => k4 _ _ (hFq i9 h9) (z_ne (hFq i9 h9) x_fa rfl)
    have F421 : ∀ i9 : Nat, i9 < nf → f1 (fk i9) = some (.inl (cy 0, 4, .inl (fc i9))) := fun i9 h9 => k4 _ _ (hFk i9 h9) (z_ne (hFk i9 h9) x_fa rfl)
    have F422 : ∀ i9 : Nat, i9 < nc → f1 (cn i9) = some (.inr (0, [.int (ce i9), .int (cm i9)])) := fun i9 h9 => k4 _ _ (hCn i9 h9) (z_ne (hCn i9 h9) x_fa rfl)
    have F423 : ∀ i9 : Nat, i9 < 4 → f1 (ea i9) = some (.inr (1, [.ref (ma i9), .int (nI (sq i9))])) := fun i9 h9 => k4 _ _ (hEa i9 h9) (z_ne (hEa i9 h9) x_fa rfl)
    have F424 : ∀ i9 : Nat, i9 < 4 → f1 (ma i9) = some (.inl (cy 0, 60, .inl (mb i9))) := fun i9 h9 => k4 _ _ (hMa i9 h9) (z_ne (hMa i9 h9) x_fa rfl)
    have hq : q_row nn x y = ((-2), 0, (-1), 0) := by simp [q_row, c5]
    exact z_iret C hr rfl hz hS ⟨0, (-1), 0, gv, nl, gu, nn, ga, gr, fg, pt, kd, ln, pp, wg, wd, hs, bf, nf, gf, fq, fk, fz, fc, nc, gc, cn, ce, cm, sq, mb, ks, kk, kv, lk, (by rw [hq]), (by rw [hq]), (by rw [hq]), (by rw [hq]), (by rw [hq]; exact (zEV0 gv).symm), rfl, rfl, (by rw [if_neg (by decide)]), (by rw [if_neg (by decide)]), (by rw [if_neg (by decide)]), (zPP_no (by decide)), (by rw [if_neg (by decide)]), (by rw [if_neg (by decide)]), rfl, rfl, rfl, rfl, rfl, rfl, rfl, rfl, rfl, rfl, rfl, rfl, ⟨a406, a3, a407, a408, a409, a410, a411, a412, a413, a414, a415, a416, a417, F418, F419, F420, F421, F422, F423, F424, hn60, hl12, hf6, hc60, hs40, hga, hgr, hln, hk5, hk4, hfi, hpi, har, hgf, hfz, hgc, hG, hsq, hei, hmi, kne, hca, hcr, hlk⟩⟩ (Nat.le_of_ble_eq_true rfl) (Nat.le_of_ble_eq_true rfl) dX7_row_15
abbrev rmX7_shelf : Room := { frames := 6, cells := 2, slots := 20, locals := 140 }
set_option maxHeartbeats 4000000 in
set_option maxRecDepth 100000 in
theorem k_X7_shelf (l : Launch) (D : va_G) (cy : Nat → ClassId) (f : zM) (o : Nat) (fa : Nat) (fi : Nat) (nu : Nat) (fm : Nat) (co : Nat) (en : Nat) (ke : Nat) (ev : Nat) (al : Nat) (ra : Nat) (kn : Nat) (vq : Nat) (ge : Nat → Option Nat) (ea : Nat → Nat) (ma : Nat → Nat) (u1 : Int32) (u2 : Int32) (u3 : Int32) (gv : Nat → Int32) (nl : Nat) (gu : Nat → Int32) (nn : Nat) (ga : Nat → Option Nat) (gr : Nat → Option Nat) (fg : Nat → Nat) (pt : Nat → Nat) (kd : Nat → Int32) (ln : Nat → Nat) (pp : Nat → Nat → Int64) (wg : Nat → Int64) (wd : Nat → Int32) (hs : Nat → Int32) (bf : Nat → Int32) (nf : Nat) (gf : Nat → Option Nat) (fq : Nat → Nat) (fk : Nat → Nat) (fz : Nat → Nat) (fc : Nat → Nat → Int32) (nc : Nat) (gc : Nat → Option Nat) (cn : Nat → Nat) (ce : Nat → Int32) (cm : Nat → Int32) (sq : Nat → Nat) (mb : Nat → Nat → Int32) (ks : Nat) (kk : Nat → Int32) (kv : Nat → Int32) (lk : Int64) (w : Int32) (x : Int32)   (hw : w = 0 ∨ w = 1) (hI : zIX cy f o fa fi nu fm co en ke ev al ra kn vq ge ea ma u1 u2 u3 gv nl gu nn ga gr fg pt kd ln pp wg wd hs bf nf gf fq fk fz fc nc gc cn ce cm sq mb ks kk kv lk) : zCi l D cy yX7_shelf cX7_shelf 5 (Option.some Jvm.ClassFile.FieldType.int) rmX7_shelf [.ref o, .int w, .int x] f (fun (r : Int32) (f1 : zM) => ∃ (u11 : Int32) (u21 : Int32) (u31 : Int32) (gv1 : Nat → Int32) (nl1 : Nat) (gu1 : Nat → Int32) (nn1 : Nat) (ga1 : Nat → Option Nat) (gr1 : Nat → Option Nat) (fg1 : Nat → Nat) (pt1 : Nat → Nat) (kd1 : Nat → Int32) (ln1 : Nat → Nat) (pp1 : Nat → Nat → Int64) (wg1 : Nat → Int64) (wd1 : Nat → Int32) (hs1 : Nat → Int32) (bf1 : Nat → Int32) (nf1 : Nat) (gf1 : Nat → Option Nat) (fq1 : Nat → Nat) (fk1 : Nat → Nat) (fz1 : Nat → Nat) (fc1 : Nat → Nat → Int32) (nc1 : Nat) (gc1 : Nat → Option Nat) (cn1 : Nat → Nat) (ce1 : Nat → Int32) (cm1 : Nat → Int32) (sq1 : Nat → Nat) (mb1 : Nat → Nat → Int32) (ks1 : Nat) (kk1 : Nat → Int32) (kv1 : Nat → Int32) (lk1 : Int64), r = ((q_shelf nn x).1) ∧ (u11 = (q_shelf nn x).2.1) ∧ (u21 = (q_shelf nn x).2.2.1) ∧ (u31 = (q_shelf nn x).2.2.2) ∧ (gv1 = zEV gv (q_shelf nn x).2.1) ∧ (nl1 = nl) ∧ (gu1 = gu) ∧ (nn1 = if 0 ≤ r then nn + 1 else nn) ∧ (kd1 = if 0 ≤ r then va_up kd nn 6 else kd) ∧ (ln1 = if 0 ≤ r then va_up ln nn (1 + fI x) else ln) ∧ (zPP nn (0 ≤ r) (1 + fI x) (qshelf x) pp pp1) ∧ (wd1 = if 0 ≤ r then va_up wd nn w else wd) ∧ (hs1 = if 0 ≤ r then va_up hs nn (zHash 6 nn (1 + fI x) (qshelf x) hs) else hs) ∧ (nf1 = nf) ∧ (fz1 = fz) ∧ (fc1 = fc) ∧ (nc1 = nc) ∧ (ce1 = ce) ∧ (cm1 = cm) ∧ (sq1 = sq) ∧ (mb1 = mb) ∧ (ks1 = ks) ∧ (kk1 = kk) ∧ (kv1 = kv) ∧ (lk1 = lk) ∧ zIX cy f1 o fa fi nu fm co en ke ev al ra kn vq ge ea ma u11 u21 u31 gv1 nl1 gu1 nn1 ga1 gr1 fg1 pt1 kd1 ln1 pp1 wg1 wd1 hs1 bf1 nf1 gf1 fq1 fk1 fz1 fc1 nc1 gc1 cn1 ce1 cm1 sq1 mb1 ks1 kk1 kv1 lk1) := by
  intro sz
  refine z_body (by decide +kernel) (Nat.le_of_ble_eq_true rfl) ?_
  intro p e s m below meth c ls C hr hin hsz hz hl
  subst hsz
  have hx := C.1
  have hb := C.2.1
  have hA : ∀ q, s.heap.size ≤ q → zA f s.heap.size q := fun q h => Or.inr h
  have hS : va_S (zA f s.heap.size) s.heap s.heap [] := va_S.rf
  have hl : lv_has ls 5 [(0, .ref o), (1, .int w), (2, .int x)] := hl
  obtain ⟨x_o, x_fa, x_ev, x_fi, x_al, x_ra, x_nu, x_fm, x_co, x_en, x_ke, x_kn, x_vq, hF, hP, hFq, hFk, hCn, hEa, hMa, hn60, hl12, hf6, hc60, hs40, hga, hgr, hln, hk5, hk4, hfi, hpi, har, hgf, hfz, hgc, hG, hsq, hei, hmi, kne, hca, hcr, hlk⟩ := id hI
  refine lv_aload_n hx hb dX7_shelf_0 rfl (lv_at hl 0 rfl) ?_
  refine z_get (v := .ref fa) C hz x_o zl7 mFX7_10 (by decide) rfl dX7_shelf_1 ?_
  refine z_callVv (As := []) C hz hS hA hl (k_X2_none l D cy f fa u1 u2 u3 ev x_fa ) zyX2_none mMX7_76 x_fa zl2 rfl rfl (Nat.le_of_ble_eq_true rfl) ⟨Nat.le_of_ble_eq_true rfl, Nat.le_of_ble_eq_true rfl⟩ ⟨Nat.le_of_ble_eq_true rfl, Nat.le_of_ble_eq_true rfl⟩ dX7_shelf_4 (fun  f1 H locs h2 hz hS => ?_)
  obtain ⟨a3, k4⟩ := h2
  refine lv_iload_n hx hb dX7_shelf_7 rfl (lv_at hl 2 rfl) ?_
  refine lv_bipush (v := 12) hx hb dX7_shelf_8 (by decide) ?_
  refine lv_icmp_le (tgt := 16) hx hb dX7_shelf_10 (by decide) (fun c5 => ?_) (fun c5 => ?_)
  · refine lv_aload_n hx hb dX7_shelf_16 rfl (lv_at hl 0 rfl) ?_
    have a6 : f1 o = some (.inr (7, [.ref fa, .ref fi, .ref nu, .int (nI nl), .ref fm, .int (nI nf), .ref co, .int (nI nc), .ref en, .ref ke, .long lk])) := k4 _ _ x_o (z_ne x_o x_fa rfl)
    refine z_get (v := .ref fi) C hz a6 zl7 mFX7_19 (by decide) rfl dX7_shelf_17 ?_
    by_cases h60 : nn < 60
    · have a7 : f1 fi = some (.inr (5, [.ref al, .ref ra, .int (nI nn)])) := k4 _ _ x_fi (z_ne x_fi x_fa rfl)
      refine z_callVi (As := []) C hz hS hA hl (k_X5_isFull_A l D cy f1 fi al ra nn a7 hn60 h60) zyX5_isFull mMX7_79 a7 zl5 rfl rfl (Nat.le_of_ble_eq_true rfl) ⟨Nat.le_of_ble_eq_true rfl, Nat.le_of_ble_eq_true rfl⟩ ⟨Nat.le_of_ble_eq_true rfl, Nat.le_of_ble_eq_true rfl⟩ dX7_shelf_20 (fun r f8 H locs h9 hz hS => ?_)
      obtain ⟨rfl, k10⟩ := h9
      refine lv_if_eq (tgt := 29) hx hb dX7_shelf_23 (by decide) (fun c11 => ?_) (fun c11 => ?_)
      rotate_left
      · exact absurd c11 (by decide)
      refine lv_iload_n hx hb dX7_shelf_29 rfl (lv_at hl 2 rfl) ?_
      refine lv_if_ge (tgt := 43) hx hb dX7_shelf_30 (by decide) (fun c12 => ?_) (fun c12 => ?_)
      · obtain ⟨t, ht, hxt⟩ := z_ixn (n := 12) (by decide) c12 c5
        have hIx : fI x = t := fI_of (by omega) hxt
        refine lv_iconst (v := 1) hx hb dX7_shelf_43 (by decide) ?_
        refine lv_iload_n hx hb dX7_shelf_44 rfl (lv_at hl 2 rfl) ?_
        refine lv_iadd hx hb dX7_shelf_45 ?_
        refine z_newa (atype := .long) (t0 := 1) (N' := 1 + t) (x := (.inr (.inl (fun _ => 0)))) C hz hS hA rfl mA_long rfl (fun _ => rfl) (by rw [hxt]; exact nI_add 1 t) (by omega) (by decide) (Nat.le_of_ble_eq_true rfl) (Nat.le_trans (Nat.add_le_add_left (show 1 + t ≤ 13 by omega) _) (Nat.le_of_ble_eq_true rfl)) dX7_shelf_46 (fun q13 H f15 u14 a16 k17 hz hS => ?_)
        refine W.widen (k := 1) (n := 13) (Nat.le_of_ble_eq_true rfl) (Nat.le_trans (Nat.add_le_add_left (show 1 + t ≤ 13 by omega) _) (Nat.le_of_ble_eq_true rfl)) ?_
        refine lv_astore_n (lv' := [(3, .ref q13), (0, .ref o), (1, .int w), (2, .int x)]) hx hb dX7_shelf_48 rfl hl (by decide) rfl (fun ls hl => ?_)
        refine lv_aload_n hx hb dX7_shelf_49 rfl (lv_at hl 0 rfl) ?_
        refine lv_iconst (v := 0) hx hb dX7_shelf_50 (by decide) ?_
        refine lv_iload_n hx hb dX7_shelf_51 rfl (lv_at hl 3 rfl) ?_
        refine lv_i2l (v := x.toInt64) hx hb dX7_shelf_52 rfl ?_
        refine z_last 0 C hz hS a16 (by decide) (by omega) (by omega) dX7_shelf_53 (fun H locs f18 a19 k20 hz hS => ?_)
        refine lv_iconst (v := 1) hx hb dX7_shelf_54 (by decide) ?_
        refine lv_istore (lv' := [(4, .int 1), (3, .ref q13), (0, .ref o), (1, .int w), (2, .int x)]) hx hb dX7_shelf_55 hl (by decide) rfl (fun ls hl => ?_)
        have lp21 : ∀ (n : Nat) (i : Nat) (gp : Nat → Int64) (fL22 : zM) (H : Heap) (locs : List Loc) (ls : Array Slot), (1 + t - i) < n → (1 ≤ i) → (i ≤ 1 + t) → (∀ j, j < i → gp j = qshelf x j) → fL22 q13 = some (.inl (cy 1, (1 + t), .inr (.inl gp))) → (∀ (b : Nat) (e : va_E), f18 b = some e → b ≠ q13 → fL22 b = some e) → zH D (zA f s.heap.size) fL22 H → va_S (zA f s.heap.size) s.heap H locs → lv_has ls 5 [(0, .ref o), (1, .int w), (3, .ref q13), (4, .int (nI i))] → W p l e rmX7_shelf s m ([.ref o, .int w, .int x] : List Value).toArray below meth c H locs 1 13 (MQ below (va_Qi (fun (r : Int32) (f1 : zM) => ∃ (u11 : Int32) (u21 : Int32) (u31 : Int32) (gv1 : Nat → Int32) (nl1 : Nat) (gu1 : Nat → Int32) (nn1 : Nat) (ga1 : Nat → Option Nat) (gr1 : Nat → Option Nat) (fg1 : Nat → Nat) (pt1 : Nat → Nat) (kd1 : Nat → Int32) (ln1 : Nat → Nat) (pp1 : Nat → Nat → Int64) (wg1 : Nat → Int64) (wd1 : Nat → Int32) (hs1 : Nat → Int32) (bf1 : Nat → Int32) (nf1 : Nat) (gf1 : Nat → Option Nat) (fq1 : Nat → Nat) (fk1 : Nat → Nat) (fz1 : Nat → Nat) (fc1 : Nat → Nat → Int32) (nc1 : Nat) (gc1 : Nat → Option Nat) (cn1 : Nat → Nat) (ce1 : Nat → Int32) (cm1 : Nat → Int32) (sq1 : Nat → Nat) (mb1 : Nat → Nat → Int32) (ks1 : Nat) (kk1 : Nat → Int32) (kv1 : Nat → Int32) (lk1 : Int64), r = ((q_shelf nn x).1) ∧ (u11 = (q_shelf nn x).2.1) ∧ (u21 = (q_shelf nn x).2.2.1) ∧ (u31 = (q_shelf nn x).2.2.2) ∧ (gv1 = zEV gv (q_shelf nn x).2.1) ∧ (nl1 = nl) ∧ (gu1 = gu) ∧ (nn1 = if 0 ≤ r then nn + 1 else nn) ∧ (kd1 = if 0 ≤ r then va_up kd nn 6 else kd) ∧ (ln1 = if 0 ≤ r then va_up ln nn (1 + fI x) else ln) ∧ (zPP nn (0 ≤ r) (1 + fI x) (qshelf x) pp pp1) ∧ (wd1 = if 0 ≤ r then va_up wd nn w else wd) ∧ (hs1 = if 0 ≤ r then va_up hs nn (zHash 6 nn (1 + fI x) (qshelf x) hs) else hs) ∧ (nf1 = nf) ∧ (fz1 = fz) ∧ (fc1 = fc) ∧ (nc1 = nc) ∧ (ce1 = ce) ∧ (cm1 = cm) ∧ (sq1 = sq) ∧ (mb1 = mb) ∧ (ks1 = ks) ∧ (kk1 = kk) ∧ (kv1 = kv) ∧ (lk1 = lk) ∧ zIX cy f1 o fa fi nu fm co en ke ev al ra kn vq ge ea ma u11 u21 u31 gv1 nl1 gu1 nn1 ga1 gr1 fg1 pt1 kd1 ln1 pp1 wg1 wd1 hs1 bf1 nf1 gf1 fq1 fk1 fz1 fc1 nc1 gc1 cn1 ce1 cm1 sq1 mb1 ks1 kk1 kv1 lk1) (zB D f s.heap.size) (zA f s.heap.size)) ([.ref o, .int w, .int x] : List Value).toArray s rmX7_shelf.cells rmX7_shelf.slots (zA f s.heap.size)) (F0 m 57 ls []) := by
          intro n
          induction n with
          | zero => intro i gp fL22 H locs ls hmz; exact absurd hmz (Nat.not_lt_zero _)
          | succ n ih =>
            intro i gp fL22 H locs ls hmz hi1 hi hgp a24 k23 hz hS hl
            refine lv_iload hx hb dX7_shelf_57 (lv_at hl 3 rfl) ?_
            refine lv_aload_n hx hb dX7_shelf_59 rfl (lv_at hl 2 rfl) ?_
            refine z_alen (v := nI (1 + t)) 1 C hz a24 rfl rfl dX7_shelf_60 ?_
            refine lv_icmp_ge (tgt := 77) hx hb dX7_shelf_61 (by decide) (fun c25 => ?_) (fun c25 => ?_)
            · replace c25 : (1 + t ≤ i) := (nI_leI (a := 1 + t) (b := i) (by omega) (by omega)).mp c25
              refine z_new (fs := [.int 0, .null, .long 0, .int 0, .int 0, .int 0, .int 0]) C hz hS hA zl4 mLX7_83 mIa_RX4 mIn_RX4 (by decide +kernel) (Nat.le_of_ble_eq_true rfl) (Nat.le_of_ble_eq_true rfl) dX7_shelf_77 (fun q26 H f28 u27 a29 k30 hz hS => ?_)
              refine lv_dup hx hb dX7_shelf_80 rfl ?_
              refine lv_bipush (v := 6) hx hb dX7_shelf_81 (by decide) ?_
              refine lv_aload_n hx hb dX7_shelf_83 rfl (lv_at hl 2 rfl) ?_
              refine lv_lconst (v := 0) hx hb dX7_shelf_84 (by decide) ?_
              refine z_callIv (ret := none) (As := [.int 6, .ref q13, .long 0]) C hz hS hA hl (k_X4_init l D cy f28 q26 6 q13 0 a29 ) zyX4_init mMX7_89 rfl rfl (Nat.le_of_ble_eq_true rfl) ⟨Nat.le_of_ble_eq_true rfl, Nat.le_of_ble_eq_true rfl⟩ ⟨Nat.le_of_ble_eq_true rfl, Nat.le_of_ble_eq_true rfl⟩ dX7_shelf_85 (fun  f31 H locs h32 hz hS => ?_)
              obtain ⟨a33, k34⟩ := h32
              refine lv_astore (lv' := [(4, .ref q26), (0, .ref o), (1, .int w), (3, .ref q13)]) hx hb dX7_shelf_88 hl (by decide) rfl (fun ls hl => ?_)
              refine lv_aload hx hb dX7_shelf_90 (lv_at hl 0 rfl) ?_
              refine lv_iload_n hx hb dX7_shelf_92 rfl (lv_at hl 2 rfl) ?_
              refine z_putN (fs' := [.int 6, .ref q13, .long 0, .int w, .int (-1), .int 0, .int 0]) C hz hS a33 zl4 mFNX7_126 (by decide) rfl (by rcases hw with rfl | rfl <;> rfl) (by rcases hw with rfl | rfl <;> rfl) (Nat.le_of_ble_eq_true rfl) rfl dX7_shelf_93 (fun H locs f35 a36 k37 hz hS => ?_)
              refine lv_aload_n hx hb dX7_shelf_96 rfl (lv_at hl 1 rfl) ?_
              have a38 : f8 o = some (.inr (7, [.ref fa, .ref fi, .ref nu, .int (nI nl), .ref fm, .int (nI nf), .ref co, .int (nI nc), .ref en, .ref ke, .long lk])) := k10 _ _ a6 
              have a39 : f15 o = some (.inr (7, [.ref fa, .ref fi, .ref nu, .int (nI nl), .ref fm, .int (nI nf), .ref co, .int (nI nc), .ref en, .ref ke, .long lk])) := (k17 _ (z_nn u14 a38)).trans a38
              have a40 : f18 o = some (.inr (7, [.ref fa, .ref fi, .ref nu, .int (nI nl), .ref fm, .int (nI nf), .ref co, .int (nI nc), .ref en, .ref ke, .long lk])) := (k20 _ (z_nn u14 a38)).trans a39
              have a41 : fL22 o = some (.inr (7, [.ref fa, .ref fi, .ref nu, .int (nI nl), .ref fm, .int (nI nf), .ref co, .int (nI nc), .ref en, .ref ke, .long lk])) := k23 _ _ a40 (z_nn u14 a38)
              have a42 : f28 o = some (.inr (7, [.ref fa, .ref fi, .ref nu, .int (nI nl), .ref fm, .int (nI nf), .ref co, .int (nI nc), .ref en, .ref ke, .long lk])) := (k30 _ (z_nn u27 a41)).trans a41
              have a43 : f31 o = some (.inr (7, [.ref fa, .ref fi, .ref nu, .int (nI nl), .ref fm, .int (nI nf), .ref co, .int (nI nc), .ref en, .ref ke, .long lk])) := k34 _ _ a42 (z_nn u27 a41)
              have a44 : f35 o = some (.inr (7, [.ref fa, .ref fi, .ref nu, .int (nI nl), .ref fm, .int (nI nf), .ref co, .int (nI nc), .ref en, .ref ke, .long lk])) := (k37 _ (z_nn u27 a41)).trans a43
              refine z_get (v := .ref fi) C hz a44 zl7 mFX7_19 (by decide) rfl dX7_shelf_97 ?_
              refine lv_aload hx hb dX7_shelf_100 (lv_at hl 0 rfl) ?_
              have a45 : f8 fi = some (.inr (5, [.ref al, .ref ra, .int (nI nn)])) := k10 _ _ a7 
              have a46 : f15 fi = some (.inr (5, [.ref al, .ref ra, .int (nI nn)])) := (k17 _ (z_nn u14 a45)).trans a45
              have a47 : f18 fi = some (.inr (5, [.ref al, .ref ra, .int (nI nn)])) := (k20 _ (z_nn u14 a45)).trans a46
              have a48 : fL22 fi = some (.inr (5, [.ref al, .ref ra, .int (nI nn)])) := k23 _ _ a47 (z_nn u14 a45)
              have a49 : f28 fi = some (.inr (5, [.ref al, .ref ra, .int (nI nn)])) := (k30 _ (z_nn u27 a48)).trans a48
              have a50 : f31 fi = some (.inr (5, [.ref al, .ref ra, .int (nI nn)])) := k34 _ _ a49 (z_nn u27 a48)
              have a51 : f35 fi = some (.inr (5, [.ref al, .ref ra, .int (nI nn)])) := (k37 _ (z_nn u27 a48)).trans a50
              have a52 : f1 al = some (.inl (cy 3, 60, .inr (.inr (.inr (.inr ga))))) := k4 _ _ x_al (z_ne x_al x_fa rfl)
              have a53 : f8 al = some (.inl (cy 3, 60, .inr (.inr (.inr (.inr ga))))) := k10 _ _ a52 
              have a54 : f15 al = some (.inl (cy 3, 60, .inr (.inr (.inr (.inr ga))))) := (k17 _ (z_nn u14 a53)).trans a53
              have a55 : f18 al = some (.inl (cy 3, 60, .inr (.inr (.inr (.inr ga))))) := (k20 _ (z_nn u14 a53)).trans a54
              have a56 : fL22 al = some (.inl (cy 3, 60, .inr (.inr (.inr (.inr ga))))) := k23 _ _ a55 (z_nn u14 a53)
              have a57 : f28 al = some (.inl (cy 3, 60, .inr (.inr (.inr (.inr ga))))) := (k30 _ (z_nn u27 a56)).trans a56
              have a58 : f31 al = some (.inl (cy 3, 60, .inr (.inr (.inr (.inr ga))))) := k34 _ _ a57 (z_nn u27 a56)
              have a59 : f35 al = some (.inl (cy 3, 60, .inr (.inr (.inr (.inr ga))))) := (k37 _ (z_nn u27 a56)).trans a58
              have a60 : f1 ra = some (.inl (cy 3, 60, .inr (.inr (.inr (.inr gr))))) := k4 _ _ x_ra (z_ne x_ra x_fa rfl)
              have a61 : f8 ra = some (.inl (cy 3, 60, .inr (.inr (.inr (.inr gr))))) := k10 _ _ a60 
              have a62 : f15 ra = some (.inl (cy 3, 60, .inr (.inr (.inr (.inr gr))))) := (k17 _ (z_nn u14 a61)).trans a61
              have a63 : f18 ra = some (.inl (cy 3, 60, .inr (.inr (.inr (.inr gr))))) := (k20 _ (z_nn u14 a61)).trans a62
              have a64 : fL22 ra = some (.inl (cy 3, 60, .inr (.inr (.inr (.inr gr))))) := k23 _ _ a63 (z_nn u14 a61)
              have a65 : f28 ra = some (.inl (cy 3, 60, .inr (.inr (.inr (.inr gr))))) := (k30 _ (z_nn u27 a64)).trans a64
              have a66 : f31 ra = some (.inl (cy 3, 60, .inr (.inr (.inr (.inr gr))))) := k34 _ _ a65 (z_nn u27 a64)
              have a67 : f35 ra = some (.inl (cy 3, 60, .inr (.inr (.inr (.inr gr))))) := (k37 _ (z_nn u27 a64)).trans a66
              have a68 : f28 q13 = some (.inl (cy 1, (1 + t), .inr (.inl gp))) := (k30 _ (z_nn u27 a24)).trans a24
              have a69 : f31 q13 = some (.inl (cy 1, (1 + t), .inr (.inl gp))) := k34 _ _ a68 (z_nn u27 a24)
              have a70 : f35 q13 = some (.inl (cy 1, (1 + t), .inr (.inl gp))) := (k37 _ (z_nn u27 a24)).trans a69
              have F71 : ∀ i9 : Nat, i9 < nn → f1 (fg i9) = some (.inr (4, [.int (kd i9), .ref (pt i9), .long (wg i9), .int (wd i9), .int (nI i9), .int (hs i9), .int (bf i9)])) := fun i9 h9 => k4 _ _ (hF i9 h9) (z_ne (hF i9 h9) x_fa rfl)
              have F72 : ∀ i9 : Nat, i9 < nn → f8 (fg i9) = some (.inr (4, [.int (kd i9), .ref (pt i9), .long (wg i9), .int (wd i9), .int (nI i9), .int (hs i9), .int (bf i9)])) := fun i9 h9 => k10 _ _ (F71 i9 h9) 
              have F73 : ∀ i9 : Nat, i9 < nn → f15 (fg i9) = some (.inr (4, [.int (kd i9), .ref (pt i9), .long (wg i9), .int (wd i9), .int (nI i9), .int (hs i9), .int (bf i9)])) := fun i9 h9 => (k17 _ (z_nn u14 (F72 i9 h9))).trans (F72 i9 h9)
              have F74 : ∀ i9 : Nat, i9 < nn → f18 (fg i9) = some (.inr (4, [.int (kd i9), .ref (pt i9), .long (wg i9), .int (wd i9), .int (nI i9), .int (hs i9), .int (bf i9)])) := fun i9 h9 => (k20 _ (z_nn u14 (F72 i9 h9))).trans (F73 i9 h9)
              have F75 : ∀ i9 : Nat, i9 < nn → fL22 (fg i9) = some (.inr (4, [.int (kd i9), .ref (pt i9), .long (wg i9), .int (wd i9), .int (nI i9), .int (hs i9), .int (bf i9)])) := fun i9 h9 => k23 _ _ (F74 i9 h9) (z_nn u14 (F72 i9 h9))
              have F76 : ∀ i9 : Nat, i9 < nn → f28 (fg i9) = some (.inr (4, [.int (kd i9), .ref (pt i9), .long (wg i9), .int (wd i9), .int (nI i9), .int (hs i9), .int (bf i9)])) := fun i9 h9 => (k30 _ (z_nn u27 (F75 i9 h9))).trans (F75 i9 h9)
              have F77 : ∀ i9 : Nat, i9 < nn → f31 (fg i9) = some (.inr (4, [.int (kd i9), .ref (pt i9), .long (wg i9), .int (wd i9), .int (nI i9), .int (hs i9), .int (bf i9)])) := fun i9 h9 => k34 _ _ (F76 i9 h9) (z_nn u27 (F75 i9 h9))
              have F78 : ∀ i9 : Nat, i9 < nn → f35 (fg i9) = some (.inr (4, [.int (kd i9), .ref (pt i9), .long (wg i9), .int (wd i9), .int (nI i9), .int (hs i9), .int (bf i9)])) := fun i9 h9 => (k37 _ (z_nn u27 (F75 i9 h9))).trans (F77 i9 h9)
              have F79 : ∀ i9 : Nat, i9 < nn → f1 (pt i9) = some (.inl (cy 1, (ln i9), .inr (.inl (pp i9)))) := fun i9 h9 => k4 _ _ (hP i9 h9) (z_neO (hP i9 h9) x_fa rfl)
              have F80 : ∀ i9 : Nat, i9 < nn → f8 (pt i9) = some (.inl (cy 1, (ln i9), .inr (.inl (pp i9)))) := fun i9 h9 => k10 _ _ (F79 i9 h9) 
              have F81 : ∀ i9 : Nat, i9 < nn → f15 (pt i9) = some (.inl (cy 1, (ln i9), .inr (.inl (pp i9)))) := fun i9 h9 => (k17 _ (z_nn u14 (F80 i9 h9))).trans (F80 i9 h9)
              have F82 : ∀ i9 : Nat, i9 < nn → f18 (pt i9) = some (.inl (cy 1, (ln i9), .inr (.inl (pp i9)))) := fun i9 h9 => (k20 _ (z_nn u14 (F80 i9 h9))).trans (F81 i9 h9)
              have F83 : ∀ i9 : Nat, i9 < nn → fL22 (pt i9) = some (.inl (cy 1, (ln i9), .inr (.inl (pp i9)))) := fun i9 h9 => k23 _ _ (F82 i9 h9) (z_nn u14 (F80 i9 h9))
              have F84 : ∀ i9 : Nat, i9 < nn → f28 (pt i9) = some (.inl (cy 1, (ln i9), .inr (.inl (pp i9)))) := fun i9 h9 => (k30 _ (z_nn u27 (F83 i9 h9))).trans (F83 i9 h9)
              have F85 : ∀ i9 : Nat, i9 < nn → f31 (pt i9) = some (.inl (cy 1, (ln i9), .inr (.inl (pp i9)))) := fun i9 h9 => k34 _ _ (F84 i9 h9) (z_nn u27 (F83 i9 h9))
              have F86 : ∀ i9 : Nat, i9 < nn → f35 (pt i9) = some (.inl (cy 1, (ln i9), .inr (.inl (pp i9)))) := fun i9 h9 => (k37 _ (z_nn u27 (F83 i9 h9))).trans (F85 i9 h9)
              refine z_callVi (As := [.ref q26]) C hz hS hA hl (k_X5_add l D cy f35 fi al ra ga gr nn fg pt kd ln pp wg wd hs bf q26 6 q13 0 w (-1) 0 0 (1 + t) gp a51 a59 a67 a36 a70 F78 F86 h60 hga hgr hln hk5 hfi (fun j9 h9 => z_nn u27 (F75 j9 h9)) (by omega) (fun h9 => absurd h9 (by decide)) har (fun h9 => absurd h9 (by decide))) zyX5_add mMX7_92 a51 zl5 rfl rfl (Nat.le_of_ble_eq_true rfl) ⟨Nat.le_of_ble_eq_true rfl, Nat.le_of_ble_eq_true rfl⟩ ⟨Nat.le_of_ble_eq_true rfl, Nat.le_of_ble_eq_true rfl⟩ dX7_shelf_102 (fun r f87 H locs h88 hz hS => ?_)
              obtain ⟨hq_89, bq_90, gr_91, bf_92, rfl, p93, p94, a95, a96, a97, F98, F99, k100⟩ := h88
              have a101 : f87 o = some (.inr (7, [.ref fa, .ref fi, .ref nu, .int (nI nl), .ref fm, .int (nI nf), .ref co, .int (nI nc), .ref en, .ref ke, .long lk])) := k100 _ _ a44 (z_ne a44 a51 rfl) (z_ne a44 a59 rfl) (z_ne a44 a67 rfl) (z_nn u27 a41) (fun j9 h8 => (z_ne a44 (F78 j9 h8) rfl))
              have a102 : f8 fa = some (.inr (2, [.int 0, .int (-1), .int 0, .ref ev])) := k10 _ _ a3 
              have a103 : f15 fa = some (.inr (2, [.int 0, .int (-1), .int 0, .ref ev])) := (k17 _ (z_nn u14 a102)).trans a102
              have a104 : f18 fa = some (.inr (2, [.int 0, .int (-1), .int 0, .ref ev])) := (k20 _ (z_nn u14 a102)).trans a103
              have a105 : fL22 fa = some (.inr (2, [.int 0, .int (-1), .int 0, .ref ev])) := k23 _ _ a104 (z_nn u14 a102)
              have a106 : f28 fa = some (.inr (2, [.int 0, .int (-1), .int 0, .ref ev])) := (k30 _ (z_nn u27 a105)).trans a105
              have a107 : f31 fa = some (.inr (2, [.int 0, .int (-1), .int 0, .ref ev])) := k34 _ _ a106 (z_nn u27 a105)
              have a108 : f35 fa = some (.inr (2, [.int 0, .int (-1), .int 0, .ref ev])) := (k37 _ (z_nn u27 a105)).trans a107
              have a109 : f87 fa = some (.inr (2, [.int 0, .int (-1), .int 0, .ref ev])) := k100 _ _ a108 (z_ne a108 a51 rfl) (z_ne a108 a59 rfl) (z_ne a108 a67 rfl) (z_nn u27 a105) (fun j9 h8 => (z_ne a108 (F78 j9 h8) rfl))
              have a110 : f1 ev = some (.inl (cy 0, 8, .inl gv)) := k4 _ _ x_ev (z_ne x_ev x_fa rfl)
              have a111 : f8 ev = some (.inl (cy 0, 8, .inl gv)) := k10 _ _ a110 
              have a112 : f15 ev = some (.inl (cy 0, 8, .inl gv)) := (k17 _ (z_nn u14 a111)).trans a111
              have a113 : f18 ev = some (.inl (cy 0, 8, .inl gv)) := (k20 _ (z_nn u14 a111)).trans a112
              have a114 : fL22 ev = some (.inl (cy 0, 8, .inl gv)) := k23 _ _ a113 (z_nn u14 a111)
              have a115 : f28 ev = some (.inl (cy 0, 8, .inl gv)) := (k30 _ (z_nn u27 a114)).trans a114
              have a116 : f31 ev = some (.inl (cy 0, 8, .inl gv)) := k34 _ _ a115 (z_nn u27 a114)
              have a117 : f35 ev = some (.inl (cy 0, 8, .inl gv)) := (k37 _ (z_nn u27 a114)).trans a116
              have a118 : f87 ev = some (.inl (cy 0, 8, .inl gv)) := k100 _ _ a117 (z_ne a117 a51 rfl) (z_ne a117 a59 rfl) (z_ne a117 a67 rfl) (z_nn u27 a114) (fun j9 h8 => (z_ne a117 (F78 j9 h8) rfl))
              have a119 : f1 nu = some (.inl (cy 0, 12, .inl gu)) := k4 _ _ x_nu (z_ne x_nu x_fa rfl)
              have a120 : f8 nu = some (.inl (cy 0, 12, .inl gu)) := k10 _ _ a119 
              have a121 : f15 nu = some (.inl (cy 0, 12, .inl gu)) := (k17 _ (z_nn u14 a120)).trans a120
              have a122 : f18 nu = some (.inl (cy 0, 12, .inl gu)) := (k20 _ (z_nn u14 a120)).trans a121
              have a123 : fL22 nu = some (.inl (cy 0, 12, .inl gu)) := k23 _ _ a122 (z_nn u14 a120)
              have a124 : f28 nu = some (.inl (cy 0, 12, .inl gu)) := (k30 _ (z_nn u27 a123)).trans a123
              have a125 : f31 nu = some (.inl (cy 0, 12, .inl gu)) := k34 _ _ a124 (z_nn u27 a123)
              have a126 : f35 nu = some (.inl (cy 0, 12, .inl gu)) := (k37 _ (z_nn u27 a123)).trans a125
              have a127 : f87 nu = some (.inl (cy 0, 12, .inl gu)) := k100 _ _ a126 (z_ne a126 a51 rfl) (z_ne a126 a59 rfl) (z_ne a126 a67 rfl) (z_nn u27 a123) (fun j9 h8 => (z_ne a126 (F78 j9 h8) rfl))
              have a128 : f1 fm = some (.inl (cy 4, 6, .inr (.inr (.inr (.inr gf))))) := k4 _ _ x_fm (z_ne x_fm x_fa rfl)
              have a129 : f8 fm = some (.inl (cy 4, 6, .inr (.inr (.inr (.inr gf))))) := k10 _ _ a128 
              have a130 : f15 fm = some (.inl (cy 4, 6, .inr (.inr (.inr (.inr gf))))) := (k17 _ (z_nn u14 a129)).trans a129
              have a131 : f18 fm = some (.inl (cy 4, 6, .inr (.inr (.inr (.inr gf))))) := (k20 _ (z_nn u14 a129)).trans a130
              have a132 : fL22 fm = some (.inl (cy 4, 6, .inr (.inr (.inr (.inr gf))))) := k23 _ _ a131 (z_nn u14 a129)
              have a133 : f28 fm = some (.inl (cy 4, 6, .inr (.inr (.inr (.inr gf))))) := (k30 _ (z_nn u27 a132)).trans a132
              have a134 : f31 fm = some (.inl (cy 4, 6, .inr (.inr (.inr (.inr gf))))) := k34 _ _ a133 (z_nn u27 a132)
              have a135 : f35 fm = some (.inl (cy 4, 6, .inr (.inr (.inr (.inr gf))))) := (k37 _ (z_nn u27 a132)).trans a134
              have a136 : f87 fm = some (.inl (cy 4, 6, .inr (.inr (.inr (.inr gf))))) := k100 _ _ a135 (z_ne a135 a51 rfl) (z_ne a135 a59 rfl) (z_ne a135 a67 rfl) (z_nn u27 a132) (fun j9 h8 => (z_ne a135 (F78 j9 h8) rfl))
              have a137 : f1 co = some (.inl (cy 5, 60, .inr (.inr (.inr (.inr gc))))) := k4 _ _ x_co (z_ne x_co x_fa rfl)
              have a138 : f8 co = some (.inl (cy 5, 60, .inr (.inr (.inr (.inr gc))))) := k10 _ _ a137 
              have a139 : f15 co = some (.inl (cy 5, 60, .inr (.inr (.inr (.inr gc))))) := (k17 _ (z_nn u14 a138)).trans a138
              have a140 : f18 co = some (.inl (cy 5, 60, .inr (.inr (.inr (.inr gc))))) := (k20 _ (z_nn u14 a138)).trans a139
              have a141 : fL22 co = some (.inl (cy 5, 60, .inr (.inr (.inr (.inr gc))))) := k23 _ _ a140 (z_nn u14 a138)
              have a142 : f28 co = some (.inl (cy 5, 60, .inr (.inr (.inr (.inr gc))))) := (k30 _ (z_nn u27 a141)).trans a141
              have a143 : f31 co = some (.inl (cy 5, 60, .inr (.inr (.inr (.inr gc))))) := k34 _ _ a142 (z_nn u27 a141)
              have a144 : f35 co = some (.inl (cy 5, 60, .inr (.inr (.inr (.inr gc))))) := (k37 _ (z_nn u27 a141)).trans a143
              have a145 : f87 co = some (.inl (cy 5, 60, .inr (.inr (.inr (.inr gc))))) := k100 _ _ a144 (z_ne a144 a51 rfl) hca hcr (z_nn u27 a141) (fun j9 h8 => (z_ne a144 (F78 j9 h8) rfl))
              have a146 : f1 en = some (.inl (cy 6, 4, .inr (.inr (.inr (.inr ge))))) := k4 _ _ x_en (z_ne x_en x_fa rfl)
              have a147 : f8 en = some (.inl (cy 6, 4, .inr (.inr (.inr (.inr ge))))) := k10 _ _ a146 
              have a148 : f15 en = some (.inl (cy 6, 4, .inr (.inr (.inr (.inr ge))))) := (k17 _ (z_nn u14 a147)).trans a147
              have a149 : f18 en = some (.inl (cy 6, 4, .inr (.inr (.inr (.inr ge))))) := (k20 _ (z_nn u14 a147)).trans a148
              have a150 : fL22 en = some (.inl (cy 6, 4, .inr (.inr (.inr (.inr ge))))) := k23 _ _ a149 (z_nn u14 a147)
              have a151 : f28 en = some (.inl (cy 6, 4, .inr (.inr (.inr (.inr ge))))) := (k30 _ (z_nn u27 a150)).trans a150
              have a152 : f31 en = some (.inl (cy 6, 4, .inr (.inr (.inr (.inr ge))))) := k34 _ _ a151 (z_nn u27 a150)
              have a153 : f35 en = some (.inl (cy 6, 4, .inr (.inr (.inr (.inr ge))))) := (k37 _ (z_nn u27 a150)).trans a152
              have a154 : f87 en = some (.inl (cy 6, 4, .inr (.inr (.inr (.inr ge))))) := k100 _ _ a153 (z_ne a153 a51 rfl) (z_ne a153 a59 rfl) (z_ne a153 a67 rfl) (z_nn u27 a150) (fun j9 h8 => (z_ne a153 (F78 j9 h8) rfl))
              have a155 : f1 ke = some (.inr (6, [.ref kn, .ref vq, .int (nI ks)])) := k4 _ _ x_ke (z_ne x_ke x_fa rfl)
              have a156 : f8 ke = some (.inr (6, [.ref kn, .ref vq, .int (nI ks)])) := k10 _ _ a155 
              have a157 : f15 ke = some (.inr (6, [.ref kn, .ref vq, .int (nI ks)])) := (k17 _ (z_nn u14 a156)).trans a156
              have a158 : f18 ke = some (.inr (6, [.ref kn, .ref vq, .int (nI ks)])) := (k20 _ (z_nn u14 a156)).trans a157
              have a159 : fL22 ke = some (.inr (6, [.ref kn, .ref vq, .int (nI ks)])) := k23 _ _ a158 (z_nn u14 a156)
              have a160 : f28 ke = some (.inr (6, [.ref kn, .ref vq, .int (nI ks)])) := (k30 _ (z_nn u27 a159)).trans a159
              have a161 : f31 ke = some (.inr (6, [.ref kn, .ref vq, .int (nI ks)])) := k34 _ _ a160 (z_nn u27 a159)
              have a162 : f35 ke = some (.inr (6, [.ref kn, .ref vq, .int (nI ks)])) := (k37 _ (z_nn u27 a159)).trans a161
              have a163 : f87 ke = some (.inr (6, [.ref kn, .ref vq, .int (nI ks)])) := k100 _ _ a162 (z_ne a162 a51 rfl) (z_ne a162 a59 rfl) (z_ne a162 a67 rfl) (z_nn u27 a159) (fun j9 h8 => (z_ne a162 (F78 j9 h8) rfl))
              have a164 : f1 kn = some (.inl (cy 0, 40, .inl kk)) := k4 _ _ x_kn (z_ne x_kn x_fa rfl)
              have a165 : f8 kn = some (.inl (cy 0, 40, .inl kk)) := k10 _ _ a164 
              have a166 : f15 kn = some (.inl (cy 0, 40, .inl kk)) := (k17 _ (z_nn u14 a165)).trans a165
              have a167 : f18 kn = some (.inl (cy 0, 40, .inl kk)) := (k20 _ (z_nn u14 a165)).trans a166
              have a168 : fL22 kn = some (.inl (cy 0, 40, .inl kk)) := k23 _ _ a167 (z_nn u14 a165)
              have a169 : f28 kn = some (.inl (cy 0, 40, .inl kk)) := (k30 _ (z_nn u27 a168)).trans a168
              have a170 : f31 kn = some (.inl (cy 0, 40, .inl kk)) := k34 _ _ a169 (z_nn u27 a168)
              have a171 : f35 kn = some (.inl (cy 0, 40, .inl kk)) := (k37 _ (z_nn u27 a168)).trans a170
              have a172 : f87 kn = some (.inl (cy 0, 40, .inl kk)) := k100 _ _ a171 (z_ne a171 a51 rfl) (z_ne a171 a59 rfl) (z_ne a171 a67 rfl) (z_nn u27 a168) (fun j9 h8 => (z_ne a171 (F78 j9 h8) rfl))
              have a173 : f1 vq = some (.inl (cy 0, 40, .inl kv)) := k4 _ _ x_vq (z_ne x_vq x_fa rfl)
              have a174 : f8 vq = some (.inl (cy 0, 40, .inl kv)) := k10 _ _ a173 
              have a175 : f15 vq = some (.inl (cy 0, 40, .inl kv)) := (k17 _ (z_nn u14 a174)).trans a174
              have a176 : f18 vq = some (.inl (cy 0, 40, .inl kv)) := (k20 _ (z_nn u14 a174)).trans a175
              have a177 : fL22 vq = some (.inl (cy 0, 40, .inl kv)) := k23 _ _ a176 (z_nn u14 a174)
              have a178 : f28 vq = some (.inl (cy 0, 40, .inl kv)) := (k30 _ (z_nn u27 a177)).trans a177
              have a179 : f31 vq = some (.inl (cy 0, 40, .inl kv)) := k34 _ _ a178 (z_nn u27 a177)
              have a180 : f35 vq = some (.inl (cy 0, 40, .inl kv)) := (k37 _ (z_nn u27 a177)).trans a179
              have a181 : f87 vq = some (.inl (cy 0, 40, .inl kv)) := k100 _ _ a180 (z_ne a180 a51 rfl) (z_ne a180 a59 rfl) (z_ne a180 a67 rfl) (z_nn u27 a177) (fun j9 h8 => (z_ne a180 (F78 j9 h8) rfl))
              have F182 : ∀ i9 : Nat, i9 < nf → f1 (fq i9) = some (.inr (3, [.ref (fk i9), .int (nI (fz i9))])) := fun i9 h9 => k4 _ _ (hFq i9 h9) (z_ne (hFq i9 h9) x_fa rfl)
              have F183 : ∀ i9 : Nat, i9 < nf → f8 (fq i9) = some (.inr (3, [.ref (fk i9), .int (nI (fz i9))])) := fun i9 h9 => k10 _ _ (F182 i9 h9) 
              have F184 : ∀ i9 : Nat, i9 < nf → f15 (fq i9) = some (.inr (3, [.ref (fk i9), .int (nI (fz i9))])) := fun i9 h9 => (k17 _ (z_nn u14 (F183 i9 h9))).trans (F183 i9 h9)
              have F185 : ∀ i9 : Nat, i9 < nf → f18 (fq i9) = some (.inr (3, [.ref (fk i9), .int (nI (fz i9))])) := fun i9 h9 => (k20 _ (z_nn u14 (F183 i9 h9))).trans (F184 i9 h9)
              have F186 : ∀ i9 : Nat, i9 < nf → fL22 (fq i9) = some (.inr (3, [.ref (fk i9), .int (nI (fz i9))])) := fun i9 h9 => k23 _ _ (F185 i9 h9) (z_nn u14 (F183 i9 h9))
              have F187 : ∀ i9 : Nat, i9 < nf → f28 (fq i9) = some (.inr (3, [.ref (fk i9), .int (nI (fz i9))])) := fun i9 h9 => (k30 _ (z_nn u27 (F186 i9 h9))).trans (F186 i9 h9)
              have F188 : ∀ i9 : Nat, i9 < nf → f31 (fq i9) = some (.inr (3, [.ref (fk i9), .int (nI (fz i9))])) := fun i9 h9 => k34 _ _ (F187 i9 h9) (z_nn u27 (F186 i9 h9))
              have F189 : ∀ i9 : Nat, i9 < nf → f35 (fq i9) = some (.inr (3, [.ref (fk i9), .int (nI (fz i9))])) := fun i9 h9 => (k37 _ (z_nn u27 (F186 i9 h9))).trans (F188 i9 h9)
              have F190 : ∀ i9 : Nat, i9 < nf → f87 (fq i9) = some (.inr (3, [.ref (fk i9), .int (nI (fz i9))])) := fun i9 h9 => k100 _ _ (F189 i9 h9) (z_ne (F189 i9 h9) a51 rfl) (z_ne (F189 i9 h9) a59 rfl) (z_ne (F189 i9 h9) a67 rfl) (z_nn u27 (F186 i9 h9)) (fun j9 h8 => (z_ne (F189 i9 h9) (F78 j9 h8) rfl))
              have F191 : ∀ i9 : Nat, i9 < nf → f1 (fk i9) = some (.inl (cy 0, 4, .inl (fc i9))) := fun i9 h9 => k4 _ _ (hFk i9 h9) (z_ne (hFk i9 h9) x_fa rfl)
              have F192 : ∀ i9 : Nat, i9 < nf → f8 (fk i9) = some (.inl (cy 0, 4, .inl (fc i9))) := fun i9 h9 => k10 _ _ (F191 i9 h9) 
              have F193 : ∀ i9 : Nat, i9 < nf → f15 (fk i9) = some (.inl (cy 0, 4, .inl (fc i9))) := fun i9 h9 => (k17 _ (z_nn u14 (F192 i9 h9))).trans (F192 i9 h9)
              have F194 : ∀ i9 : Nat, i9 < nf → f18 (fk i9) = some (.inl (cy 0, 4, .inl (fc i9))) := fun i9 h9 => (k20 _ (z_nn u14 (F192 i9 h9))).trans (F193 i9 h9)
              have F195 : ∀ i9 : Nat, i9 < nf → fL22 (fk i9) = some (.inl (cy 0, 4, .inl (fc i9))) := fun i9 h9 => k23 _ _ (F194 i9 h9) (z_nn u14 (F192 i9 h9))
              have F196 : ∀ i9 : Nat, i9 < nf → f28 (fk i9) = some (.inl (cy 0, 4, .inl (fc i9))) := fun i9 h9 => (k30 _ (z_nn u27 (F195 i9 h9))).trans (F195 i9 h9)
              have F197 : ∀ i9 : Nat, i9 < nf → f31 (fk i9) = some (.inl (cy 0, 4, .inl (fc i9))) := fun i9 h9 => k34 _ _ (F196 i9 h9) (z_nn u27 (F195 i9 h9))
              have F198 : ∀ i9 : Nat, i9 < nf → f35 (fk i9) = some (.inl (cy 0, 4, .inl (fc i9))) := fun i9 h9 => (k37 _ (z_nn u27 (F195 i9 h9))).trans (F197 i9 h9)
              have F199 : ∀ i9 : Nat, i9 < nf → f87 (fk i9) = some (.inl (cy 0, 4, .inl (fc i9))) := fun i9 h9 => k100 _ _ (F198 i9 h9) (z_ne (F198 i9 h9) a51 rfl) (z_ne (F198 i9 h9) a59 rfl) (z_ne (F198 i9 h9) a67 rfl) (z_nn u27 (F195 i9 h9)) (fun j9 h8 => (z_ne (F198 i9 h9) (F78 j9 h8) rfl))
              have F200 : ∀ i9 : Nat, i9 < nc → f1 (cn i9) = some (.inr (0, [.int (ce i9), .int (cm i9)])) := fun i9 h9 => k4 _ _ (hCn i9 h9) (z_ne (hCn i9 h9) x_fa rfl)
              have F201 : ∀ i9 : Nat, i9 < nc → f8 (cn i9) = some (.inr (0, [.int (ce i9), .int (cm i9)])) := fun i9 h9 => k10 _ _ (F200 i9 h9) 
              have F202 : ∀ i9 : Nat, i9 < nc → f15 (cn i9) = some (.inr (0, [.int (ce i9), .int (cm i9)])) := fun i9 h9 => (k17 _ (z_nn u14 (F201 i9 h9))).trans (F201 i9 h9)
              have F203 : ∀ i9 : Nat, i9 < nc → f18 (cn i9) = some (.inr (0, [.int (ce i9), .int (cm i9)])) := fun i9 h9 => (k20 _ (z_nn u14 (F201 i9 h9))).trans (F202 i9 h9)
              have F204 : ∀ i9 : Nat, i9 < nc → fL22 (cn i9) = some (.inr (0, [.int (ce i9), .int (cm i9)])) := fun i9 h9 => k23 _ _ (F203 i9 h9) (z_nn u14 (F201 i9 h9))
              have F205 : ∀ i9 : Nat, i9 < nc → f28 (cn i9) = some (.inr (0, [.int (ce i9), .int (cm i9)])) := fun i9 h9 => (k30 _ (z_nn u27 (F204 i9 h9))).trans (F204 i9 h9)
              have F206 : ∀ i9 : Nat, i9 < nc → f31 (cn i9) = some (.inr (0, [.int (ce i9), .int (cm i9)])) := fun i9 h9 => k34 _ _ (F205 i9 h9) (z_nn u27 (F204 i9 h9))
              have F207 : ∀ i9 : Nat, i9 < nc → f35 (cn i9) = some (.inr (0, [.int (ce i9), .int (cm i9)])) := fun i9 h9 => (k37 _ (z_nn u27 (F204 i9 h9))).trans (F206 i9 h9)
              have F208 : ∀ i9 : Nat, i9 < nc → f87 (cn i9) = some (.inr (0, [.int (ce i9), .int (cm i9)])) := fun i9 h9 => k100 _ _ (F207 i9 h9) (z_ne (F207 i9 h9) a51 rfl) (z_ne (F207 i9 h9) a59 rfl) (z_ne (F207 i9 h9) a67 rfl) (z_nn u27 (F204 i9 h9)) (fun j9 h8 => (z_ne (F207 i9 h9) (F78 j9 h8) rfl))
              have F209 : ∀ i9 : Nat, i9 < 4 → f1 (ea i9) = some (.inr (1, [.ref (ma i9), .int (nI (sq i9))])) := fun i9 h9 => k4 _ _ (hEa i9 h9) (z_ne (hEa i9 h9) x_fa rfl)
              have F210 : ∀ i9 : Nat, i9 < 4 → f8 (ea i9) = some (.inr (1, [.ref (ma i9), .int (nI (sq i9))])) := fun i9 h9 => k10 _ _ (F209 i9 h9) 
              have F211 : ∀ i9 : Nat, i9 < 4 → f15 (ea i9) = some (.inr (1, [.ref (ma i9), .int (nI (sq i9))])) := fun i9 h9 => (k17 _ (z_nn u14 (F210 i9 h9))).trans (F210 i9 h9)
              have F212 : ∀ i9 : Nat, i9 < 4 → f18 (ea i9) = some (.inr (1, [.ref (ma i9), .int (nI (sq i9))])) := fun i9 h9 => (k20 _ (z_nn u14 (F210 i9 h9))).trans (F211 i9 h9)
              have F213 : ∀ i9 : Nat, i9 < 4 → fL22 (ea i9) = some (.inr (1, [.ref (ma i9), .int (nI (sq i9))])) := fun i9 h9 => k23 _ _ (F212 i9 h9) (z_nn u14 (F210 i9 h9))
              have F214 : ∀ i9 : Nat, i9 < 4 → f28 (ea i9) = some (.inr (1, [.ref (ma i9), .int (nI (sq i9))])) := fun i9 h9 => (k30 _ (z_nn u27 (F213 i9 h9))).trans (F213 i9 h9)
              have F215 : ∀ i9 : Nat, i9 < 4 → f31 (ea i9) = some (.inr (1, [.ref (ma i9), .int (nI (sq i9))])) := fun i9 h9 => k34 _ _ (F214 i9 h9) (z_nn u27 (F213 i9 h9))
              have F216 : ∀ i9 : Nat, i9 < 4 → f35 (ea i9) = some (.inr (1, [.ref (ma i9), .int (nI (sq i9))])) := fun i9 h9 => (k37 _ (z_nn u27 (F213 i9 h9))).trans (F215 i9 h9)
              have F217 : ∀ i9 : Nat, i9 < 4 → f87 (ea i9) = some (.inr (1, [.ref (ma i9), .int (nI (sq i9))])) := fun i9 h9 => k100 _ _ (F216 i9 h9) (z_ne (F216 i9 h9) a51 rfl) (z_ne (F216 i9 h9) a59 rfl) (z_ne (F216 i9 h9) a67 rfl) (z_nn u27 (F213 i9 h9)) (fun j9 h8 => (z_ne (F216 i9 h9) (F78 j9 h8) rfl))
              have F218 : ∀ i9 : Nat, i9 < 4 → f1 (ma i9) = some (.inl (cy 0, 60, .inl (mb i9))) := fun i9 h9 => k4 _ _ (hMa i9 h9) (z_ne (hMa i9 h9) x_fa rfl)
              have F219 : ∀ i9 : Nat, i9 < 4 → f8 (ma i9) = some (.inl (cy 0, 60, .inl (mb i9))) := fun i9 h9 => k10 _ _ (F218 i9 h9) 
              have F220 : ∀ i9 : Nat, i9 < 4 → f15 (ma i9) = some (.inl (cy 0, 60, .inl (mb i9))) := fun i9 h9 => (k17 _ (z_nn u14 (F219 i9 h9))).trans (F219 i9 h9)
              have F221 : ∀ i9 : Nat, i9 < 4 → f18 (ma i9) = some (.inl (cy 0, 60, .inl (mb i9))) := fun i9 h9 => (k20 _ (z_nn u14 (F219 i9 h9))).trans (F220 i9 h9)
              have F222 : ∀ i9 : Nat, i9 < 4 → fL22 (ma i9) = some (.inl (cy 0, 60, .inl (mb i9))) := fun i9 h9 => k23 _ _ (F221 i9 h9) (z_nn u14 (F219 i9 h9))
              have F223 : ∀ i9 : Nat, i9 < 4 → f28 (ma i9) = some (.inl (cy 0, 60, .inl (mb i9))) := fun i9 h9 => (k30 _ (z_nn u27 (F222 i9 h9))).trans (F222 i9 h9)
              have F224 : ∀ i9 : Nat, i9 < 4 → f31 (ma i9) = some (.inl (cy 0, 60, .inl (mb i9))) := fun i9 h9 => k34 _ _ (F223 i9 h9) (z_nn u27 (F222 i9 h9))
              have F225 : ∀ i9 : Nat, i9 < 4 → f35 (ma i9) = some (.inl (cy 0, 60, .inl (mb i9))) := fun i9 h9 => (k37 _ (z_nn u27 (F222 i9 h9))).trans (F224 i9 h9)
              have F226 : ∀ i9 : Nat, i9 < 4 → f87 (ma i9) = some (.inl (cy 0, 60, .inl (mb i9))) := fun i9 h9 => k100 _ _ (F225 i9 h9) (z_ne (F225 i9 h9) a51 rfl) (z_ne (F225 i9 h9) a59 rfl) (z_ne (F225 i9 h9) a67 rfl) (z_nn u27 (F222 i9 h9)) (fun j9 h8 => (z_ne (F225 i9 h9) (F78 j9 h8) rfl))
              have a227 : f87 q13 = some (.inl (cy 1, (1 + t), .inr (.inl gp))) := k100 _ _ a70 (Ne.symm (z_nn u14 a45)) (Ne.symm (z_nn u14 a53)) (Ne.symm (z_nn u14 a61)) (z_nn u27 a24) (fun j9 h8 => (z_neO a70 (F78 j9 h8) rfl))
              have hgpf : ∀ j, j < 1 + t → gp j = (qshelf x) j := (by obtain rfl : i = 1 + t := (by omega); exact hgp)
              have hq : q_shelf nn x = (nI nn, 0, (-1), 0) := by simp [q_shelf, h60, c5, c11, c12, c25]
              exact z_iret C hr rfl hz hS ⟨0, (-1), 0, gv, nl, gu, (nn + 1), (va_up ga nn (some q26)), gr_91, (va_up fg nn q26), (va_up pt nn q13), (va_up kd nn 6), (va_up ln nn (1 + t)), (va_up pp nn gp), (va_up wg nn 0), (va_up wd nn w), (va_up hs nn hq_89), (va_up bf_92 nn bq_90), nf, gf, fq, fk, fz, fc, nc, gc, cn, ce, cm, sq, mb, ks, kk, kv, lk, (by rw [hq]), (by rw [hq]), (by rw [hq]), (by rw [hq]), (by rw [hq]; exact (zEV0 gv).symm), rfl, rfl, (by rw [if_pos (nI_pos' (by omega))]), (by rw [if_pos (nI_pos' (by omega))]), (by rw [if_pos (nI_pos' (by omega)), hIx]), (by rw [hIx]; exact zPP_new hgpf), (by rw [if_pos (nI_pos' (by omega))]), (by rw [if_pos (nI_pos' (by omega)), p93, hIx, zHash_congr (gp' := qshelf x) hgpf]), rfl, rfl, rfl, rfl, rfl, rfl, rfl, rfl, rfl, rfl, rfl, rfl, ⟨a101, a109, a118, a95, a96, a97, a127, a136, a145, a154, a163, a172, a181, F98, F99, F190, F199, F208, F217, F226, (by omega), hl12, hf6, hc60, hs40, (z_ga1 hga), (z_gr1 p94), (z_up1 (P := fun _ a9 => a9 ≤ 15) hln (by omega)), (z_up2 (P := fun (a9 : Int32) (b9 : Nat) => a9 = 5 → 3 ≤ b9) hk5 (fun h9 => absurd h9 (by decide))), (z_up2 (P := fun (a9 : Int32) (b9 : Nat) => a9 = 4 → 2 ≤ b9) hk4 (fun h9 => absurd h9 (by decide))), (z_inj1 hfi (fun j9 h9 => z_nn u27 (F75 j9 h9))), (z_inj1 hpi (fun j9 h9 => z_nn u14 (F80 j9 h9))), har, hgf, hfz, hgc, hG, hsq, hei, hmi, kne, hca, hcr, hlk⟩⟩ (Nat.le_of_ble_eq_true rfl) (Nat.le_of_ble_eq_true rfl) dX7_shelf_105
            · replace c25 : ¬ (1 + t ≤ i) := fun h => c25 ((nI_leI (a := 1 + t) (b := i) (by omega) (by omega)).mpr h)
              refine lv_aload_n hx hb dX7_shelf_64 rfl (lv_at hl 2 rfl) ?_
              refine lv_iload hx hb dX7_shelf_65 (lv_at hl 3 rfl) ?_
              refine lv_ldc2 (v := (-1)) hx hb C.2.2.2.1 (C.2.2.2.2.1 _ mKX7_124) dX7_shelf_67 ?_
              refine z_last i C hz hS a24 rfl (by omega) (by omega) dX7_shelf_70 (fun H locs f228 a229 k230 hz hS => ?_)
              refine lv_iinc (v := nI (i + 1)) (lv' := [(4, .int (nI (i + 1))), (0, .ref o), (1, .int w), (3, .ref q13)]) hx hb dX7_shelf_71 hl (k := 3) rfl (nI_1 i) (by decide) rfl (fun ls hl => ?_)
              refine lv_goto (tgt := 57) hx hb dX7_shelf_74 (by decide) ?_
              exact ih (i + 1) (vp_updL gp i (-1)) _ _ _ _ (by omega) (by omega) (by omega) (zshelf_1 (by omega) hgp) a229 (by
                    intro b e hb n0
                    have hb4 : fL22 b = some e := k23 b e hb n0
                    have hb5 : f228 b = some e := (k230 b n0).trans hb4
                    exact hb5) hz hS (lv_sub hl [1, 2, 3, 0] rfl)
        exact lp21 (1 + t - 1 + 1) 1 (vp_updL (fun _ => 0) 0 x.toInt64) _ _ _ _ (Nat.lt_succ_self _) (by omega) (by omega) (zshelf_0 pk_uLs) a19 (fun b e hb n0 => hb) hz hS (lv_sub hl [2, 3, 1, 0] rfl)
      · refine lv_aload_n hx hb dX7_shelf_33 rfl (lv_at hl 0 rfl) ?_
        have a231 : f8 o = some (.inr (7, [.ref fa, .ref fi, .ref nu, .int (nI nl), .ref fm, .int (nI nf), .ref co, .int (nI nc), .ref en, .ref ke, .long lk])) := k10 _ _ a6 
        refine z_get (v := .ref fa) C hz a231 zl7 mFX7_10 (by decide) rfl dX7_shelf_34 ?_
        refine lv_iconst (v := 5) hx hb dX7_shelf_37 (by decide) ?_
        refine lv_iconst (v := 0) hx hb dX7_shelf_38 (by decide) ?_
        have a232 : f8 fa = some (.inr (2, [.int 0, .int (-1), .int 0, .ref ev])) := k10 _ _ a3 
        have a233 : f1 ev = some (.inl (cy 0, 8, .inl gv)) := k4 _ _ x_ev (z_ne x_ev x_fa rfl)
        have a234 : f8 ev = some (.inl (cy 0, 8, .inl gv)) := k10 _ _ a233 
        refine z_callVi (As := [.int 5, .int 0]) C hz hS hA hl (k_X2_inPart l D cy f8 fa 5 0 0 (-1) 0 ev gv 5 a232 a234 (by decide) (Nat.le_of_ble_eq_true rfl)) zyX2_inPart mMX7_104 a232 zl2 rfl rfl (Nat.le_of_ble_eq_true rfl) ⟨Nat.le_of_ble_eq_true rfl, Nat.le_of_ble_eq_true rfl⟩ ⟨Nat.le_of_ble_eq_true rfl, Nat.le_of_ble_eq_true rfl⟩ dX7_shelf_39 (fun r f235 H locs h236 hz hS => ?_)
        obtain ⟨rfl, a237, a238, k239⟩ := h236
        have a240 : f235 o = some (.inr (7, [.ref fa, .ref fi, .ref nu, .int (nI nl), .ref fm, .int (nI nf), .ref co, .int (nI nc), .ref en, .ref ke, .long lk])) := k239 _ _ a231 (z_ne a231 a232 rfl) (z_ne a231 a234 rfl)
        have a241 : f8 fi = some (.inr (5, [.ref al, .ref ra, .int (nI nn)])) := k10 _ _ a7 
        have a242 : f235 fi = some (.inr (5, [.ref al, .ref ra, .int (nI nn)])) := k239 _ _ a241 (z_ne a241 a232 rfl) (z_ne a241 a234 rfl)
        have a243 : f1 al = some (.inl (cy 3, 60, .inr (.inr (.inr (.inr ga))))) := k4 _ _ x_al (z_ne x_al x_fa rfl)
        have a244 : f8 al = some (.inl (cy 3, 60, .inr (.inr (.inr (.inr ga))))) := k10 _ _ a243 
        have a245 : f235 al = some (.inl (cy 3, 60, .inr (.inr (.inr (.inr ga))))) := k239 _ _ a244 (z_ne a244 a232 rfl) (z_ne a244 a234 rfl)
        have a246 : f1 ra = some (.inl (cy 3, 60, .inr (.inr (.inr (.inr gr))))) := k4 _ _ x_ra (z_ne x_ra x_fa rfl)
        have a247 : f8 ra = some (.inl (cy 3, 60, .inr (.inr (.inr (.inr gr))))) := k10 _ _ a246 
        have a248 : f235 ra = some (.inl (cy 3, 60, .inr (.inr (.inr (.inr gr))))) := k239 _ _ a247 (z_ne a247 a232 rfl) (z_ne a247 a234 rfl)
        have a249 : f1 nu = some (.inl (cy 0, 12, .inl gu)) := k4 _ _ x_nu (z_ne x_nu x_fa rfl)
        have a250 : f8 nu = some (.inl (cy 0, 12, .inl gu)) := k10 _ _ a249 
        have a251 : f235 nu = some (.inl (cy 0, 12, .inl gu)) := k239 _ _ a250 (z_ne a250 a232 rfl) (z_ne a250 a234 rfl)
        have a252 : f1 fm = some (.inl (cy 4, 6, .inr (.inr (.inr (.inr gf))))) := k4 _ _ x_fm (z_ne x_fm x_fa rfl)
        have a253 : f8 fm = some (.inl (cy 4, 6, .inr (.inr (.inr (.inr gf))))) := k10 _ _ a252 
        have a254 : f235 fm = some (.inl (cy 4, 6, .inr (.inr (.inr (.inr gf))))) := k239 _ _ a253 (z_ne a253 a232 rfl) (z_ne a253 a234 rfl)
        have a255 : f1 co = some (.inl (cy 5, 60, .inr (.inr (.inr (.inr gc))))) := k4 _ _ x_co (z_ne x_co x_fa rfl)
        have a256 : f8 co = some (.inl (cy 5, 60, .inr (.inr (.inr (.inr gc))))) := k10 _ _ a255 
        have a257 : f235 co = some (.inl (cy 5, 60, .inr (.inr (.inr (.inr gc))))) := k239 _ _ a256 (z_ne a256 a232 rfl) (z_ne a256 a234 rfl)
        have a258 : f1 en = some (.inl (cy 6, 4, .inr (.inr (.inr (.inr ge))))) := k4 _ _ x_en (z_ne x_en x_fa rfl)
        have a259 : f8 en = some (.inl (cy 6, 4, .inr (.inr (.inr (.inr ge))))) := k10 _ _ a258 
        have a260 : f235 en = some (.inl (cy 6, 4, .inr (.inr (.inr (.inr ge))))) := k239 _ _ a259 (z_ne a259 a232 rfl) (z_ne a259 a234 rfl)
        have a261 : f1 ke = some (.inr (6, [.ref kn, .ref vq, .int (nI ks)])) := k4 _ _ x_ke (z_ne x_ke x_fa rfl)
        have a262 : f8 ke = some (.inr (6, [.ref kn, .ref vq, .int (nI ks)])) := k10 _ _ a261 
        have a263 : f235 ke = some (.inr (6, [.ref kn, .ref vq, .int (nI ks)])) := k239 _ _ a262 (z_ne a262 a232 rfl) (z_ne a262 a234 rfl)
        have a264 : f1 kn = some (.inl (cy 0, 40, .inl kk)) := k4 _ _ x_kn (z_ne x_kn x_fa rfl)
        have a265 : f8 kn = some (.inl (cy 0, 40, .inl kk)) := k10 _ _ a264 
        have a266 : f235 kn = some (.inl (cy 0, 40, .inl kk)) := k239 _ _ a265 (z_ne a265 a232 rfl) (z_ne a265 a234 rfl)
        have a267 : f1 vq = some (.inl (cy 0, 40, .inl kv)) := k4 _ _ x_vq (z_ne x_vq x_fa rfl)
        have a268 : f8 vq = some (.inl (cy 0, 40, .inl kv)) := k10 _ _ a267 
        have a269 : f235 vq = some (.inl (cy 0, 40, .inl kv)) := k239 _ _ a268 (z_ne a268 a232 rfl) (z_ne a268 a234 rfl)
        have F270 : ∀ i9 : Nat, i9 < nn → f1 (fg i9) = some (.inr (4, [.int (kd i9), .ref (pt i9), .long (wg i9), .int (wd i9), .int (nI i9), .int (hs i9), .int (bf i9)])) := fun i9 h9 => k4 _ _ (hF i9 h9) (z_ne (hF i9 h9) x_fa rfl)
        have F271 : ∀ i9 : Nat, i9 < nn → f8 (fg i9) = some (.inr (4, [.int (kd i9), .ref (pt i9), .long (wg i9), .int (wd i9), .int (nI i9), .int (hs i9), .int (bf i9)])) := fun i9 h9 => k10 _ _ (F270 i9 h9) 
        have F272 : ∀ i9 : Nat, i9 < nn → f235 (fg i9) = some (.inr (4, [.int (kd i9), .ref (pt i9), .long (wg i9), .int (wd i9), .int (nI i9), .int (hs i9), .int (bf i9)])) := fun i9 h9 => k239 _ _ (F271 i9 h9) (z_ne (F271 i9 h9) a232 rfl) (z_ne (F271 i9 h9) a234 rfl)
        have F273 : ∀ i9 : Nat, i9 < nn → f1 (pt i9) = some (.inl (cy 1, (ln i9), .inr (.inl (pp i9)))) := fun i9 h9 => k4 _ _ (hP i9 h9) (z_neO (hP i9 h9) x_fa rfl)
        have F274 : ∀ i9 : Nat, i9 < nn → f8 (pt i9) = some (.inl (cy 1, (ln i9), .inr (.inl (pp i9)))) := fun i9 h9 => k10 _ _ (F273 i9 h9) 
        have F275 : ∀ i9 : Nat, i9 < nn → f235 (pt i9) = some (.inl (cy 1, (ln i9), .inr (.inl (pp i9)))) := fun i9 h9 => k239 _ _ (F274 i9 h9) (z_neO (F274 i9 h9) a232 rfl) (z_neA (F274 i9 h9) a234 rfl)
        have F276 : ∀ i9 : Nat, i9 < nf → f1 (fq i9) = some (.inr (3, [.ref (fk i9), .int (nI (fz i9))])) := fun i9 h9 => k4 _ _ (hFq i9 h9) (z_ne (hFq i9 h9) x_fa rfl)
        have F277 : ∀ i9 : Nat, i9 < nf → f8 (fq i9) = some (.inr (3, [.ref (fk i9), .int (nI (fz i9))])) := fun i9 h9 => k10 _ _ (F276 i9 h9) 
        have F278 : ∀ i9 : Nat, i9 < nf → f235 (fq i9) = some (.inr (3, [.ref (fk i9), .int (nI (fz i9))])) := fun i9 h9 => k239 _ _ (F277 i9 h9) (z_ne (F277 i9 h9) a232 rfl) (z_ne (F277 i9 h9) a234 rfl)
        have F279 : ∀ i9 : Nat, i9 < nf → f1 (fk i9) = some (.inl (cy 0, 4, .inl (fc i9))) := fun i9 h9 => k4 _ _ (hFk i9 h9) (z_ne (hFk i9 h9) x_fa rfl)
        have F280 : ∀ i9 : Nat, i9 < nf → f8 (fk i9) = some (.inl (cy 0, 4, .inl (fc i9))) := fun i9 h9 => k10 _ _ (F279 i9 h9) 
        have F281 : ∀ i9 : Nat, i9 < nf → f235 (fk i9) = some (.inl (cy 0, 4, .inl (fc i9))) := fun i9 h9 => k239 _ _ (F280 i9 h9) (z_ne (F280 i9 h9) a232 rfl) (z_ne (F280 i9 h9) a234 rfl)
        have F282 : ∀ i9 : Nat, i9 < nc → f1 (cn i9) = some (.inr (0, [.int (ce i9), .int (cm i9)])) := fun i9 h9 => k4 _ _ (hCn i9 h9) (z_ne (hCn i9 h9) x_fa rfl)
        have F283 : ∀ i9 : Nat, i9 < nc → f8 (cn i9) = some (.inr (0, [.int (ce i9), .int (cm i9)])) := fun i9 h9 => k10 _ _ (F282 i9 h9) 
        have F284 : ∀ i9 : Nat, i9 < nc → f235 (cn i9) = some (.inr (0, [.int (ce i9), .int (cm i9)])) := fun i9 h9 => k239 _ _ (F283 i9 h9) (z_ne (F283 i9 h9) a232 rfl) (z_ne (F283 i9 h9) a234 rfl)
        have F285 : ∀ i9 : Nat, i9 < 4 → f1 (ea i9) = some (.inr (1, [.ref (ma i9), .int (nI (sq i9))])) := fun i9 h9 => k4 _ _ (hEa i9 h9) (z_ne (hEa i9 h9) x_fa rfl)
        have F286 : ∀ i9 : Nat, i9 < 4 → f8 (ea i9) = some (.inr (1, [.ref (ma i9), .int (nI (sq i9))])) := fun i9 h9 => k10 _ _ (F285 i9 h9) 
        have F287 : ∀ i9 : Nat, i9 < 4 → f235 (ea i9) = some (.inr (1, [.ref (ma i9), .int (nI (sq i9))])) := fun i9 h9 => k239 _ _ (F286 i9 h9) (z_ne (F286 i9 h9) a232 rfl) (z_ne (F286 i9 h9) a234 rfl)
        have F288 : ∀ i9 : Nat, i9 < 4 → f1 (ma i9) = some (.inl (cy 0, 60, .inl (mb i9))) := fun i9 h9 => k4 _ _ (hMa i9 h9) (z_ne (hMa i9 h9) x_fa rfl)
        have F289 : ∀ i9 : Nat, i9 < 4 → f8 (ma i9) = some (.inl (cy 0, 60, .inl (mb i9))) := fun i9 h9 => k10 _ _ (F288 i9 h9) 
        have F290 : ∀ i9 : Nat, i9 < 4 → f235 (ma i9) = some (.inl (cy 0, 60, .inl (mb i9))) := fun i9 h9 => k239 _ _ (F289 i9 h9) (z_ne (F289 i9 h9) a232 rfl) (z_ne (F289 i9 h9) a234 rfl)
        have hq : q_shelf nn x = ((-4), 5, 0, 0) := by simp [q_shelf, h60, c5, c11, c12]
        exact z_iret C hr rfl hz hS ⟨5, 0, 0, (upd gv 5 (gv 5 + 1)), nl, gu, nn, ga, gr, fg, pt, kd, ln, pp, wg, wd, hs, bf, nf, gf, fq, fk, fz, fc, nc, gc, cn, ce, cm, sq, mb, ks, kk, kv, lk, (by rw [hq]), (by rw [hq]), (by rw [hq]), (by rw [hq]), (by rw [hq]; exact (zEV5 gv).symm), rfl, rfl, (by rw [if_neg (by decide)]), (by rw [if_neg (by decide)]), (by rw [if_neg (by decide)]), (zPP_no (by decide)), (by rw [if_neg (by decide)]), (by rw [if_neg (by decide)]), rfl, rfl, rfl, rfl, rfl, rfl, rfl, rfl, rfl, rfl, rfl, rfl, ⟨a240, a237, a238, a242, a245, a248, a251, a254, a257, a260, a263, a266, a269, F272, F275, F278, F281, F284, F287, F290, hn60, hl12, hf6, hc60, hs40, hga, hgr, hln, hk5, hk4, hfi, hpi, har, hgf, hfz, hgc, hG, hsq, hei, hmi, kne, hca, hcr, hlk⟩⟩ (Nat.le_of_ble_eq_true rfl) (Nat.le_of_ble_eq_true rfl) dX7_shelf_42
    · have a291 : f1 fi = some (.inr (5, [.ref al, .ref ra, .int (nI nn)])) := k4 _ _ x_fi (z_ne x_fi x_fa rfl)
      refine z_callVi (As := []) C hz hS hA hl (k_X5_isFull_B l D cy f1 fi al ra nn a291 hn60 h60) zyX5_isFull mMX7_79 a291 zl5 rfl rfl (Nat.le_of_ble_eq_true rfl) ⟨Nat.le_of_ble_eq_true rfl, Nat.le_of_ble_eq_true rfl⟩ ⟨Nat.le_of_ble_eq_true rfl, Nat.le_of_ble_eq_true rfl⟩ dX7_shelf_20 (fun r f292 H locs h293 hz hS => ?_)
      obtain ⟨rfl, k294⟩ := h293
      refine lv_if_eq (tgt := 29) hx hb dX7_shelf_23 (by decide) (fun c295 => ?_) (fun c295 => ?_)
      · exact absurd c295 (by decide)
      refine lv_bipush (v := (-3)) hx hb dX7_shelf_26 (by decide) ?_
      have a296 : f292 o = some (.inr (7, [.ref fa, .ref fi, .ref nu, .int (nI nl), .ref fm, .int (nI nf), .ref co, .int (nI nc), .ref en, .ref ke, .long lk])) := k294 _ _ a6 
      have a297 : f292 fa = some (.inr (2, [.int 0, .int (-1), .int 0, .ref ev])) := k294 _ _ a3 
      have a298 : f1 ev = some (.inl (cy 0, 8, .inl gv)) := k4 _ _ x_ev (z_ne x_ev x_fa rfl)
      have a299 : f292 ev = some (.inl (cy 0, 8, .inl gv)) := k294 _ _ a298 
      have a300 : f292 fi = some (.inr (5, [.ref al, .ref ra, .int (nI nn)])) := k294 _ _ a291 
      have a301 : f1 al = some (.inl (cy 3, 60, .inr (.inr (.inr (.inr ga))))) := k4 _ _ x_al (z_ne x_al x_fa rfl)
      have a302 : f292 al = some (.inl (cy 3, 60, .inr (.inr (.inr (.inr ga))))) := k294 _ _ a301 
      have a303 : f1 ra = some (.inl (cy 3, 60, .inr (.inr (.inr (.inr gr))))) := k4 _ _ x_ra (z_ne x_ra x_fa rfl)
      have a304 : f292 ra = some (.inl (cy 3, 60, .inr (.inr (.inr (.inr gr))))) := k294 _ _ a303 
      have a305 : f1 nu = some (.inl (cy 0, 12, .inl gu)) := k4 _ _ x_nu (z_ne x_nu x_fa rfl)
      have a306 : f292 nu = some (.inl (cy 0, 12, .inl gu)) := k294 _ _ a305 
      have a307 : f1 fm = some (.inl (cy 4, 6, .inr (.inr (.inr (.inr gf))))) := k4 _ _ x_fm (z_ne x_fm x_fa rfl)
      have a308 : f292 fm = some (.inl (cy 4, 6, .inr (.inr (.inr (.inr gf))))) := k294 _ _ a307 
      have a309 : f1 co = some (.inl (cy 5, 60, .inr (.inr (.inr (.inr gc))))) := k4 _ _ x_co (z_ne x_co x_fa rfl)
      have a310 : f292 co = some (.inl (cy 5, 60, .inr (.inr (.inr (.inr gc))))) := k294 _ _ a309 
      have a311 : f1 en = some (.inl (cy 6, 4, .inr (.inr (.inr (.inr ge))))) := k4 _ _ x_en (z_ne x_en x_fa rfl)
      have a312 : f292 en = some (.inl (cy 6, 4, .inr (.inr (.inr (.inr ge))))) := k294 _ _ a311 
      have a313 : f1 ke = some (.inr (6, [.ref kn, .ref vq, .int (nI ks)])) := k4 _ _ x_ke (z_ne x_ke x_fa rfl)
      have a314 : f292 ke = some (.inr (6, [.ref kn, .ref vq, .int (nI ks)])) := k294 _ _ a313 
      have a315 : f1 kn = some (.inl (cy 0, 40, .inl kk)) := k4 _ _ x_kn (z_ne x_kn x_fa rfl)
      have a316 : f292 kn = some (.inl (cy 0, 40, .inl kk)) := k294 _ _ a315 
      have a317 : f1 vq = some (.inl (cy 0, 40, .inl kv)) := k4 _ _ x_vq (z_ne x_vq x_fa rfl)
      have a318 : f292 vq = some (.inl (cy 0, 40, .inl kv)) := k294 _ _ a317 
      have F319 : ∀ i9 : Nat, i9 < nn → f1 (fg i9) = some (.inr (4, [.int (kd i9), .ref (pt i9), .long (wg i9), .int (wd i9), .int (nI i9), .int (hs i9), .int (bf i9)])) := fun i9 h9 => k4 _ _ (hF i9 h9) (z_ne (hF i9 h9) x_fa rfl)
      have F320 : ∀ i9 : Nat, i9 < nn → f292 (fg i9) = some (.inr (4, [.int (kd i9), .ref (pt i9), .long (wg i9), .int (wd i9), .int (nI i9), .int (hs i9), .int (bf i9)])) := fun i9 h9 => k294 _ _ (F319 i9 h9) 
      have F321 : ∀ i9 : Nat, i9 < nn → f1 (pt i9) = some (.inl (cy 1, (ln i9), .inr (.inl (pp i9)))) := fun i9 h9 => k4 _ _ (hP i9 h9) (z_neO (hP i9 h9) x_fa rfl)
      have F322 : ∀ i9 : Nat, i9 < nn → f292 (pt i9) = some (.inl (cy 1, (ln i9), .inr (.inl (pp i9)))) := fun i9 h9 => k294 _ _ (F321 i9 h9) 
      have F323 : ∀ i9 : Nat, i9 < nf → f1 (fq i9) = some (.inr (3, [.ref (fk i9), .int (nI (fz i9))])) := fun i9 h9 => k4 _ _ (hFq i9 h9) (z_ne (hFq i9 h9) x_fa rfl)
      have F324 : ∀ i9 : Nat, i9 < nf → f292 (fq i9) = some (.inr (3, [.ref (fk i9), .int (nI (fz i9))])) := fun i9 h9 => k294 _ _ (F323 i9 h9) 
      have F325 : ∀ i9 : Nat, i9 < nf → f1 (fk i9) = some (.inl (cy 0, 4, .inl (fc i9))) := fun i9 h9 => k4 _ _ (hFk i9 h9) (z_ne (hFk i9 h9) x_fa rfl)
      have F326 : ∀ i9 : Nat, i9 < nf → f292 (fk i9) = some (.inl (cy 0, 4, .inl (fc i9))) := fun i9 h9 => k294 _ _ (F325 i9 h9) 
      have F327 : ∀ i9 : Nat, i9 < nc → f1 (cn i9) = some (.inr (0, [.int (ce i9), .int (cm i9)])) := fun i9 h9 => k4 _ _ (hCn i9 h9) (z_ne (hCn i9 h9) x_fa rfl)
      have F328 : ∀ i9 : Nat, i9 < nc → f292 (cn i9) = some (.inr (0, [.int (ce i9), .int (cm i9)])) := fun i9 h9 => k294 _ _ (F327 i9 h9) 
      have F329 : ∀ i9 : Nat, i9 < 4 → f1 (ea i9) = some (.inr (1, [.ref (ma i9), .int (nI (sq i9))])) := fun i9 h9 => k4 _ _ (hEa i9 h9) (z_ne (hEa i9 h9) x_fa rfl)
      have F330 : ∀ i9 : Nat, i9 < 4 → f292 (ea i9) = some (.inr (1, [.ref (ma i9), .int (nI (sq i9))])) := fun i9 h9 => k294 _ _ (F329 i9 h9) 
      have F331 : ∀ i9 : Nat, i9 < 4 → f1 (ma i9) = some (.inl (cy 0, 60, .inl (mb i9))) := fun i9 h9 => k4 _ _ (hMa i9 h9) (z_ne (hMa i9 h9) x_fa rfl)
      have F332 : ∀ i9 : Nat, i9 < 4 → f292 (ma i9) = some (.inl (cy 0, 60, .inl (mb i9))) := fun i9 h9 => k294 _ _ (F331 i9 h9) 
      have hq : q_shelf nn x = ((-3), 0, (-1), 0) := by simp [q_shelf, h60, c5, c295]
      exact z_iret C hr rfl hz hS ⟨0, (-1), 0, gv, nl, gu, nn, ga, gr, fg, pt, kd, ln, pp, wg, wd, hs, bf, nf, gf, fq, fk, fz, fc, nc, gc, cn, ce, cm, sq, mb, ks, kk, kv, lk, (by rw [hq]), (by rw [hq]), (by rw [hq]), (by rw [hq]), (by rw [hq]; exact (zEV0 gv).symm), rfl, rfl, (by rw [if_neg (by decide)]), (by rw [if_neg (by decide)]), (by rw [if_neg (by decide)]), (zPP_no (by decide)), (by rw [if_neg (by decide)]), (by rw [if_neg (by decide)]), rfl, rfl, rfl, rfl, rfl, rfl, rfl, rfl, rfl, rfl, rfl, rfl, ⟨a296, a297, a299, a300, a302, a304, a306, a308, a310, a312, a314, a316, a318, F320, F322, F324, F326, F328, F330, F332, hn60, hl12, hf6, hc60, hs40, hga, hgr, hln, hk5, hk4, hfi, hpi, har, hgf, hfz, hgc, hG, hsq, hei, hmi, kne, hca, hcr, hlk⟩⟩ (Nat.le_of_ble_eq_true rfl) (Nat.le_of_ble_eq_true rfl) dX7_shelf_28
  · refine lv_bipush (v := (-2)) hx hb dX7_shelf_13 (by decide) ?_
    have a333 : f1 o = some (.inr (7, [.ref fa, .ref fi, .ref nu, .int (nI nl), .ref fm, .int (nI nf), .ref co, .int (nI nc), .ref en, .ref ke, .long lk])) := k4 _ _ x_o (z_ne x_o x_fa rfl)
    have a334 : f1 ev = some (.inl (cy 0, 8, .inl gv)) := k4 _ _ x_ev (z_ne x_ev x_fa rfl)
    have a335 : f1 fi = some (.inr (5, [.ref al, .ref ra, .int (nI nn)])) := k4 _ _ x_fi (z_ne x_fi x_fa rfl)
    have a336 : f1 al = some (.inl (cy 3, 60, .inr (.inr (.inr (.inr ga))))) := k4 _ _ x_al (z_ne x_al x_fa rfl)
    have a337 : f1 ra = some (.inl (cy 3, 60, .inr (.inr (.inr (.inr gr))))) := k4 _ _ x_ra (z_ne x_ra x_fa rfl)
    have a338 : f1 nu = some (.inl (cy 0, 12, .inl gu)) := k4 _ _ x_nu (z_ne x_nu x_fa rfl)
    have a339 : f1 fm = some (.inl (cy 4, 6, .inr (.inr (.inr (.inr gf))))) := k4 _ _ x_fm (z_ne x_fm x_fa rfl)
    have a340 : f1 co = some (.inl (cy 5, 60, .inr (.inr (.inr (.inr gc))))) := k4 _ _ x_co (z_ne x_co x_fa rfl)
    have a341 : f1 en = some (.inl (cy 6, 4, .inr (.inr (.inr (.inr ge))))) := k4 _ _ x_en (z_ne x_en x_fa rfl)
    have a342 : f1 ke = some (.inr (6, [.ref kn, .ref vq, .int (nI ks)])) := k4 _ _ x_ke (z_ne x_ke x_fa rfl)
    have a343 : f1 kn = some (.inl (cy 0, 40, .inl kk)) := k4 _ _ x_kn (z_ne x_kn x_fa rfl)
    have a344 : f1 vq = some (.inl (cy 0, 40, .inl kv)) := k4 _ _ x_vq (z_ne x_vq x_fa rfl)
    have F345 : ∀ i9 : Nat, i9 < nn → f1 (fg i9) = some (.inr (4, [.int (kd i9), .ref (pt i9), .long (wg i9), .int (wd i9), .int (nI i9), .int (hs i9), .int (bf i9)])) := fun i9 h9 => k4 _ _ (hF i9 h9) (z_ne (hF i9 h9) x_fa rfl)
    have F346 : ∀ i9 : Nat, i9 < nn → f1 (pt i9) = some (.inl (cy 1, (ln i9), .inr (.inl (pp i9)))) := fun i9 h9 => k4 _ _ (hP i9 h9) (z_neO (hP i9 h9) x_fa rfl)
    have F347 : ∀ i9 : Nat, i9 < nf → f1 (fq i9) = some (.inr (3, [.ref (fk i9), .int (nI (fz i9))])) := fun i9 h9 => k4 _ _ (hFq i9 h9) (z_ne (hFq i9 h9) x_fa rfl)
    have F348 : ∀ i9 : Nat, i9 < nf → f1 (fk i9) = some (.inl (cy 0, 4, .inl (fc i9))) := fun i9 h9 => k4 _ _ (hFk i9 h9) (z_ne (hFk i9 h9) x_fa rfl)
    have F349 : ∀ i9 : Nat, i9 < nc → f1 (cn i9) = some (.inr (0, [.int (ce i9), .int (cm i9)])) := fun i9 h9 => k4 _ _ (hCn i9 h9) (z_ne (hCn i9 h9) x_fa rfl)
    have F350 : ∀ i9 : Nat, i9 < 4 → f1 (ea i9) = some (.inr (1, [.ref (ma i9), .int (nI (sq i9))])) := fun i9 h9 => k4 _ _ (hEa i9 h9) (z_ne (hEa i9 h9) x_fa rfl)
    have F351 : ∀ i9 : Nat, i9 < 4 → f1 (ma i9) = some (.inl (cy 0, 60, .inl (mb i9))) := fun i9 h9 => k4 _ _ (hMa i9 h9) (z_ne (hMa i9 h9) x_fa rfl)
    have hq : q_shelf nn x = ((-2), 0, (-1), 0) := by simp [q_shelf, c5]
    exact z_iret C hr rfl hz hS ⟨0, (-1), 0, gv, nl, gu, nn, ga, gr, fg, pt, kd, ln, pp, wg, wd, hs, bf, nf, gf, fq, fk, fz, fc, nc, gc, cn, ce, cm, sq, mb, ks, kk, kv, lk, (by rw [hq]), (by rw [hq]), (by rw [hq]), (by rw [hq]), (by rw [hq]; exact (zEV0 gv).symm), rfl, rfl, (by rw [if_neg (by decide)]), (by rw [if_neg (by decide)]), (by rw [if_neg (by decide)]), (zPP_no (by decide)), (by rw [if_neg (by decide)]), (by rw [if_neg (by decide)]), rfl, rfl, rfl, rfl, rfl, rfl, rfl, rfl, rfl, rfl, rfl, rfl, ⟨a333, a3, a334, a335, a336, a337, a338, a339, a340, a341, a342, a343, a344, F345, F346, F347, F348, F349, F350, F351, hn60, hl12, hf6, hc60, hs40, hga, hgr, hln, hk5, hk4, hfi, hpi, har, hgf, hfz, hgc, hG, hsq, hei, hmi, kne, hca, hcr, hlk⟩⟩ (Nat.le_of_ble_eq_true rfl) (Nat.le_of_ble_eq_true rfl) dX7_shelf_15
