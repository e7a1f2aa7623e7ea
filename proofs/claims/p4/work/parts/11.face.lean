abbrev rmX7_cause : Room := { frames := 0, cells := 0, slots := 0, locals := 0 }
set_option maxHeartbeats 4000000 in
set_option maxRecDepth 100000 in
theorem k_X7_cause (l : Launch) (D : va_G) (cy : Nat → ClassId) (f : zM) (o : Nat) (fa : Nat) (fi : Nat) (nu : Nat) (fm : Nat) (co : Nat) (en : Nat) (ke : Nat) (ev : Nat) (al : Nat) (ra : Nat) (kn : Nat) (vq : Nat) (ge : Nat → Option Nat) (ea : Nat → Nat) (ma : Nat → Nat) (u1 : Int32) (u2 : Int32) (u3 : Int32) (gv : Nat → Int32) (nl : Nat) (gu : Nat → Int32) (nn : Nat) (ga : Nat → Option Nat) (gr : Nat → Option Nat) (fg : Nat → Nat) (pt : Nat → Nat) (kd : Nat → Int32) (ln : Nat → Nat) (pp : Nat → Nat → Int64) (wg : Nat → Int64) (wd : Nat → Int32) (hs : Nat → Int32) (bf : Nat → Int32) (nf : Nat) (gf : Nat → Option Nat) (fq : Nat → Nat) (fk : Nat → Nat) (fz : Nat → Nat) (fc : Nat → Nat → Int32) (nc : Nat) (gc : Nat → Option Nat) (cn : Nat → Nat) (ce : Nat → Int32) (cm : Nat → Int32) (sq : Nat → Nat) (mb : Nat → Nat → Int32) (ks : Nat) (kk : Nat → Int32) (kv : Nat → Int32) (lk : Int64) (x : Int32)    (hI : zIX cy f o fa fi nu fm co en ke ev al ra kn vq ge ea ma u1 u2 u3 gv nl gu nn ga gr fg pt kd ln pp wg wd hs bf nf gf fq fk fz fc nc gc cn ce cm sq mb ks kk kv lk) : zCi l D cy yX7_cause cX7_cause 2 (Option.some Jvm.ClassFile.FieldType.int) rmX7_cause [.ref o, .int x] f (fun (r : Int32) (f1 : zM) => ∃ (u11 : Int32) (u21 : Int32) (u31 : Int32) (gv1 : Nat → Int32) (nl1 : Nat) (gu1 : Nat → Int32) (nn1 : Nat) (ga1 : Nat → Option Nat) (gr1 : Nat → Option Nat) (fg1 : Nat → Nat) (pt1 : Nat → Nat) (kd1 : Nat → Int32) (ln1 : Nat → Nat) (pp1 : Nat → Nat → Int64) (wg1 : Nat → Int64) (wd1 : Nat → Int32) (hs1 : Nat → Int32) (bf1 : Nat → Int32) (nf1 : Nat) (gf1 : Nat → Option Nat) (fq1 : Nat → Nat) (fk1 : Nat → Nat) (fz1 : Nat → Nat) (fc1 : Nat → Nat → Int32) (nc1 : Nat) (gc1 : Nat → Option Nat) (cn1 : Nat → Nat) (ce1 : Nat → Int32) (cm1 : Nat → Int32) (sq1 : Nat → Nat) (mb1 : Nat → Nat → Int32) (ks1 : Nat) (kk1 : Nat → Int32) (kv1 : Nat → Int32) (lk1 : Int64), (nl1 = nl) ∧ (nn1 = nn) ∧ zIX cy f1 o fa fi nu fm co en ke ev al ra kn vq ge ea ma u11 u21 u31 gv1 nl1 gu1 nn1 ga1 gr1 fg1 pt1 kd1 ln1 pp1 wg1 wd1 hs1 bf1 nf1 gf1 fq1 fk1 fz1 fc1 nc1 gc1 cn1 ce1 cm1 sq1 mb1 ks1 kk1 kv1 lk1) := by
  intro sz
  refine z_body (by decide +kernel) (Nat.le_of_ble_eq_true rfl) ?_
  intro p e s m below meth c ls C hr hin hsz hz hl
  subst hsz
  have hx := C.1
  have hb := C.2.1
  have hA : ∀ q, s.heap.size ≤ q → zA f s.heap.size q := fun q h => Or.inr h
  have hS : va_S (zA f s.heap.size) s.heap s.heap [] := va_S.rf
  have hl : lv_has ls 2 [(0, .ref o), (1, .int x)] := hl
  obtain ⟨x_o, x_fa, x_ev, x_fi, x_al, x_ra, x_nu, x_fm, x_co, x_en, x_ke, x_kn, x_vq, hF, hP, hFq, hFk, hCn, hEa, hMa, hn60, hl12, hf6, hc60, hs40, hga, hgr, hln, hk5, hk4, hfi, hpi, har, hgf, hfz, hgc, hG, hsq, hei, hmi, kne, hlk⟩ := id hI
  refine lv_iload_n hx hb dX7_cause_0 rfl (lv_at hl 1 rfl) ?_
  by_cases c1_0 : x = 0
  · refine lv_tableIn (off := 27) (tgt := 28) hx hb dX7_cause_1 (by rw [c1_0]; decide) (by rw [c1_0]; decide) (by rw [c1_0]; decide) (by decide) ?_
    refine lv_aload_n hx hb dX7_cause_28 rfl (lv_at hl 0 rfl) ?_
    refine z_get (v := .ref fa) C hz x_o zl7 mFX7_10 (by decide) rfl dX7_cause_29 ?_
    refine z_getN (v := .int u1) C hz x_fa zl2 mFNX7_67 (by decide) rfl dX7_cause_32 ?_
    exact z_iret C hr rfl hz hS ⟨u1, u2, u3, gv, nl, gu, nn, ga, gr, fg, pt, kd, ln, pp, wg, wd, hs, bf, nf, gf, fq, fk, fz, fc, nc, gc, cn, ce, cm, sq, mb, ks, kk, kv, lk, rfl, rfl, ⟨x_o, x_fa, x_ev, x_fi, x_al, x_ra, x_nu, x_fm, x_co, x_en, x_ke, x_kn, x_vq, hF, hP, hFq, hFk, hCn, hEa, hMa, hn60, hl12, hf6, hc60, hs40, hga, hgr, hln, hk5, hk4, hfi, hpi, har, hgf, hfz, hgc, hG, hsq, hei, hmi, kne, hlk⟩⟩ (Nat.le_of_ble_eq_true rfl) (Nat.le_of_ble_eq_true rfl) dX7_cause_35
  by_cases c1_1 : x = 1
  · refine lv_tableIn (off := 35) (tgt := 36) hx hb dX7_cause_1 (by rw [c1_1]; decide) (by rw [c1_1]; decide) (by rw [c1_1]; decide) (by decide) ?_
    refine lv_aload_n hx hb dX7_cause_36 rfl (lv_at hl 0 rfl) ?_
    refine z_get (v := .ref fa) C hz x_o zl7 mFX7_10 (by decide) rfl dX7_cause_37 ?_
    refine z_getN (v := .int u2) C hz x_fa zl2 mFNX7_70 (by decide) rfl dX7_cause_40 ?_
    exact z_iret C hr rfl hz hS ⟨u1, u2, u3, gv, nl, gu, nn, ga, gr, fg, pt, kd, ln, pp, wg, wd, hs, bf, nf, gf, fq, fk, fz, fc, nc, gc, cn, ce, cm, sq, mb, ks, kk, kv, lk, rfl, rfl, ⟨x_o, x_fa, x_ev, x_fi, x_al, x_ra, x_nu, x_fm, x_co, x_en, x_ke, x_kn, x_vq, hF, hP, hFq, hFk, hCn, hEa, hMa, hn60, hl12, hf6, hc60, hs40, hga, hgr, hln, hk5, hk4, hfi, hpi, har, hgf, hfz, hgc, hG, hsq, hei, hmi, kne, hlk⟩⟩ (Nat.le_of_ble_eq_true rfl) (Nat.le_of_ble_eq_true rfl) dX7_cause_43
  by_cases c1_2 : x = 2
  · refine lv_tableIn (off := 43) (tgt := 44) hx hb dX7_cause_1 (by rw [c1_2]; decide) (by rw [c1_2]; decide) (by rw [c1_2]; decide) (by decide) ?_
    refine lv_aload_n hx hb dX7_cause_44 rfl (lv_at hl 0 rfl) ?_
    refine z_get (v := .ref fa) C hz x_o zl7 mFX7_10 (by decide) rfl dX7_cause_45 ?_
    refine z_getN (v := .int u3) C hz x_fa zl2 mFNX7_73 (by decide) rfl dX7_cause_48 ?_
    exact z_iret C hr rfl hz hS ⟨u1, u2, u3, gv, nl, gu, nn, ga, gr, fg, pt, kd, ln, pp, wg, wd, hs, bf, nf, gf, fq, fk, fz, fc, nc, gc, cn, ce, cm, sq, mb, ks, kk, kv, lk, rfl, rfl, ⟨x_o, x_fa, x_ev, x_fi, x_al, x_ra, x_nu, x_fm, x_co, x_en, x_ke, x_kn, x_vq, hF, hP, hFq, hFk, hCn, hEa, hMa, hn60, hl12, hf6, hc60, hs40, hga, hgr, hln, hk5, hk4, hfi, hpi, har, hgf, hfz, hgc, hG, hsq, hei, hmi, kne, hlk⟩⟩ (Nat.le_of_ble_eq_true rfl) (Nat.le_of_ble_eq_true rfl) dX7_cause_51
  refine lv_tableOut (tgt := 52) hx hb dX7_cause_1 (by have t0 := lv_neT c1_0 (a := 0) (by decide); have t1 := lv_neT c1_1 (a := 1) (by decide); have t2 := lv_neT c1_2 (a := 2) (by decide);  omega) (by decide) ?_
  refine lv_bipush (v := (-2)) hx hb dX7_cause_52 (by decide) ?_
  exact z_iret C hr rfl hz hS ⟨u1, u2, u3, gv, nl, gu, nn, ga, gr, fg, pt, kd, ln, pp, wg, wd, hs, bf, nf, gf, fq, fk, fz, fc, nc, gc, cn, ce, cm, sq, mb, ks, kk, kv, lk, rfl, rfl, ⟨x_o, x_fa, x_ev, x_fi, x_al, x_ra, x_nu, x_fm, x_co, x_en, x_ke, x_kn, x_vq, hF, hP, hFq, hFk, hCn, hEa, hMa, hn60, hl12, hf6, hc60, hs40, hga, hgr, hln, hk5, hk4, hfi, hpi, har, hgf, hfz, hgc, hG, hsq, hei, hmi, kne, hlk⟩⟩ (Nat.le_of_ble_eq_true rfl) (Nat.le_of_ble_eq_true rfl) dX7_cause_54
abbrev rmX7_lay : Room := { frames := 0, cells := 0, slots := 0, locals := 0 }
set_option maxHeartbeats 4000000 in
set_option maxRecDepth 100000 in
theorem k_X7_lay (l : Launch) (D : va_G) (cy : Nat → ClassId) (f : zM) (o : Nat) (fa : Nat) (fi : Nat) (nu : Nat) (fm : Nat) (co : Nat) (en : Nat) (ke : Nat) (ev : Nat) (al : Nat) (ra : Nat) (kn : Nat) (vq : Nat) (ge : Nat → Option Nat) (ea : Nat → Nat) (ma : Nat → Nat) (u1 : Int32) (u2 : Int32) (u3 : Int32) (gv : Nat → Int32) (nl : Nat) (gu : Nat → Int32) (nn : Nat) (ga : Nat → Option Nat) (gr : Nat → Option Nat) (fg : Nat → Nat) (pt : Nat → Nat) (kd : Nat → Int32) (ln : Nat → Nat) (pp : Nat → Nat → Int64) (wg : Nat → Int64) (wd : Nat → Int32) (hs : Nat → Int32) (bf : Nat → Int32) (nf : Nat) (gf : Nat → Option Nat) (fq : Nat → Nat) (fk : Nat → Nat) (fz : Nat → Nat) (fc : Nat → Nat → Int32) (nc : Nat) (gc : Nat → Option Nat) (cn : Nat → Nat) (ce : Nat → Int32) (cm : Nat → Int32) (sq : Nat → Nat) (mb : Nat → Nat → Int32) (ks : Nat) (kk : Nat → Int32) (kv : Nat → Int32) (lk : Int64) (x : Int32)    (hI : zIX cy f o fa fi nu fm co en ke ev al ra kn vq ge ea ma u1 u2 u3 gv nl gu nn ga gr fg pt kd ln pp wg wd hs bf nf gf fq fk fz fc nc gc cn ce cm sq mb ks kk kv lk) : zCi l D cy yX7_lay cX7_lay 2 (Option.some Jvm.ClassFile.FieldType.int) rmX7_lay [.ref o, .int x] f (fun (r : Int32) (f1 : zM) => ∃ (u11 : Int32) (u21 : Int32) (u31 : Int32) (gv1 : Nat → Int32) (nl1 : Nat) (gu1 : Nat → Int32) (nn1 : Nat) (ga1 : Nat → Option Nat) (gr1 : Nat → Option Nat) (fg1 : Nat → Nat) (pt1 : Nat → Nat) (kd1 : Nat → Int32) (ln1 : Nat → Nat) (pp1 : Nat → Nat → Int64) (wg1 : Nat → Int64) (wd1 : Nat → Int32) (hs1 : Nat → Int32) (bf1 : Nat → Int32) (nf1 : Nat) (gf1 : Nat → Option Nat) (fq1 : Nat → Nat) (fk1 : Nat → Nat) (fz1 : Nat → Nat) (fc1 : Nat → Nat → Int32) (nc1 : Nat) (gc1 : Nat → Option Nat) (cn1 : Nat → Nat) (ce1 : Nat → Int32) (cm1 : Nat → Int32) (sq1 : Nat → Nat) (mb1 : Nat → Nat → Int32) (ks1 : Nat) (kk1 : Nat → Int32) (kv1 : Nat → Int32) (lk1 : Int64), r = (if nl < 12 then nI (nl + 1) else (-3)) ∧ (nl1 = if nl < 12 then nl + 1 else nl) ∧ (nn1 = nn) ∧ zIX cy f1 o fa fi nu fm co en ke ev al ra kn vq ge ea ma u11 u21 u31 gv1 nl1 gu1 nn1 ga1 gr1 fg1 pt1 kd1 ln1 pp1 wg1 wd1 hs1 bf1 nf1 gf1 fq1 fk1 fz1 fc1 nc1 gc1 cn1 ce1 cm1 sq1 mb1 ks1 kk1 kv1 lk1) := by
  intro sz
  refine z_body (by decide +kernel) (Nat.le_of_ble_eq_true rfl) ?_
  intro p e s m below meth c ls C hr hin hsz hz hl
  subst hsz
  have hx := C.1
  have hb := C.2.1
  have hA : ∀ q, s.heap.size ≤ q → zA f s.heap.size q := fun q h => Or.inr h
  have hS : va_S (zA f s.heap.size) s.heap s.heap [] := va_S.rf
  have hl : lv_has ls 2 [(0, .ref o), (1, .int x)] := hl
  obtain ⟨x_o, x_fa, x_ev, x_fi, x_al, x_ra, x_nu, x_fm, x_co, x_en, x_ke, x_kn, x_vq, hF, hP, hFq, hFk, hCn, hEa, hMa, hn60, hl12, hf6, hc60, hs40, hga, hgr, hln, hk5, hk4, hfi, hpi, har, hgf, hfz, hgc, hG, hsq, hei, hmi, kne, hlk⟩ := id hI
  refine lv_aload_n hx hb dX7_lay_0 rfl (lv_at hl 0 rfl) ?_
  refine z_get (v := .int (nI nl)) C hz x_o zl7 mFX7_27 (by decide) rfl dX7_lay_1 ?_
  refine lv_bipush (v := 12) hx hb dX7_lay_4 (by decide) ?_
  refine lv_icmp_lt (tgt := 12) hx hb dX7_lay_6 (by decide) (fun c1 => ?_) (fun c1 => ?_)
  · replace c1 : (nl < 12) := (nI_ltI (a := nl) (b := 12) (by omega) (by omega)).mp c1
    refine lv_aload_n hx hb dX7_lay_12 rfl (lv_at hl 0 rfl) ?_
    refine z_get (v := .ref nu) C hz x_o zl7 mFX7_23 (by decide) rfl dX7_lay_13 ?_
    refine lv_aload_n hx hb dX7_lay_16 rfl (lv_at hl 0 rfl) ?_
    refine z_get (v := .int (nI nl)) C hz x_o zl7 mFX7_27 (by decide) rfl dX7_lay_17 ?_
    refine lv_iload_n hx hb dX7_lay_20 rfl (lv_at hl 1 rfl) ?_
    refine z_iast nl C hz hS x_nu rfl (by omega) (by omega) dX7_lay_21 (fun H locs f2 a3 k4 hz hS => ?_)
    refine lv_aload_n hx hb dX7_lay_22 rfl (lv_at hl 0 rfl) ?_
    refine lv_dup hx hb dX7_lay_23 rfl ?_
    have a5 : f2 o = some (.inr (7, [.ref fa, .ref fi, .ref nu, .int (nI nl), .ref fm, .int (nI nf), .ref co, .int (nI nc), .ref en, .ref ke, .long lk])) := (k4 _ (z_ne x_o x_nu rfl)).trans x_o
    refine z_get (v := .int (nI nl)) C hz a5 zl7 mFX7_27 (by decide) rfl dX7_lay_24 ?_
    refine lv_iconst (v := 1) hx hb dX7_lay_27 (by decide) ?_
    refine lv_iadd hx hb dX7_lay_28 ?_
    refine lv_topi (fun y6 e7 => ?_)
    obtain rfl : y6 = nI (nl + 1) := e7.trans (nI_1 nl)
    refine z_put (fs' := [.ref fa, .ref fi, .ref nu, .int (nI (nl + 1)), .ref fm, .int (nI nf), .ref co, .int (nI nc), .ref en, .ref ke, .long lk]) C hz hS a5 zl7 mFX7_27 (by decide) rfl rfl rfl (Nat.le_of_ble_eq_true rfl) rfl dX7_lay_29 (fun H locs f8 a9 k10 hz hS => ?_)
    refine lv_aload_n hx hb dX7_lay_32 rfl (lv_at hl 0 rfl) ?_
    refine z_get (v := .int (nI (nl + 1))) C hz a9 zl7 mFX7_27 (by decide) rfl dX7_lay_33 ?_
    have a11 : f2 fa = some (.inr (2, [.int u1, .int u2, .int u3, .ref ev])) := (k4 _ (z_ne x_fa x_nu rfl)).trans x_fa
    have a12 : f8 fa = some (.inr (2, [.int u1, .int u2, .int u3, .ref ev])) := (k10 _ (z_ne a11 a5 rfl)).trans a11
    have a13 : f2 ev = some (.inl (cy 0, 8, .inl gv)) := (k4 _ (z_ne x_ev x_nu rfl)).trans x_ev
    have a14 : f8 ev = some (.inl (cy 0, 8, .inl gv)) := (k10 _ (z_ne a13 a5 rfl)).trans a13
    have a15 : f2 fi = some (.inr (5, [.ref al, .ref ra, .int (nI nn)])) := (k4 _ (z_ne x_fi x_nu rfl)).trans x_fi
    have a16 : f8 fi = some (.inr (5, [.ref al, .ref ra, .int (nI nn)])) := (k10 _ (z_ne a15 a5 rfl)).trans a15
    have a17 : f2 al = some (.inl (cy 3, 60, .inr (.inr (.inr (.inr ga))))) := (k4 _ (z_ne x_al x_nu rfl)).trans x_al
    have a18 : f8 al = some (.inl (cy 3, 60, .inr (.inr (.inr (.inr ga))))) := (k10 _ (z_ne a17 a5 rfl)).trans a17
    have a19 : f2 ra = some (.inl (cy 3, 60, .inr (.inr (.inr (.inr gr))))) := (k4 _ (z_ne x_ra x_nu rfl)).trans x_ra
    have a20 : f8 ra = some (.inl (cy 3, 60, .inr (.inr (.inr (.inr gr))))) := (k10 _ (z_ne a19 a5 rfl)).trans a19
    have a21 : f8 nu = some (.inl (cy 0, 12, .inl (upd gu nl x))) := (k10 _ (z_ne a3 a5 rfl)).trans a3
    have a22 : f2 fm = some (.inl (cy 4, 6, .inr (.inr (.inr (.inr gf))))) := (k4 _ (z_ne x_fm x_nu rfl)).trans x_fm
    have a23 : f8 fm = some (.inl (cy 4, 6, .inr (.inr (.inr (.inr gf))))) := (k10 _ (z_ne a22 a5 rfl)).trans a22
    have a24 : f2 co = some (.inl (cy 5, 60, .inr (.inr (.inr (.inr gc))))) := (k4 _ (z_ne x_co x_nu rfl)).trans x_co
    have a25 : f8 co = some (.inl (cy 5, 60, .inr (.inr (.inr (.inr gc))))) := (k10 _ (z_ne a24 a5 rfl)).trans a24
    have a26 : f2 en = some (.inl (cy 6, 4, .inr (.inr (.inr (.inr ge))))) := (k4 _ (z_ne x_en x_nu rfl)).trans x_en
    have a27 : f8 en = some (.inl (cy 6, 4, .inr (.inr (.inr (.inr ge))))) := (k10 _ (z_ne a26 a5 rfl)).trans a26
    have a28 : f2 ke = some (.inr (6, [.ref kn, .ref vq, .int (nI ks)])) := (k4 _ (z_ne x_ke x_nu rfl)).trans x_ke
    have a29 : f8 ke = some (.inr (6, [.ref kn, .ref vq, .int (nI ks)])) := (k10 _ (z_ne a28 a5 rfl)).trans a28
    have a30 : f2 kn = some (.inl (cy 0, 40, .inl kk)) := (k4 _ (z_ne x_kn x_nu rfl)).trans x_kn
    have a31 : f8 kn = some (.inl (cy 0, 40, .inl kk)) := (k10 _ (z_ne a30 a5 rfl)).trans a30
    have a32 : f2 vq = some (.inl (cy 0, 40, .inl kv)) := (k4 _ (z_ne x_vq x_nu rfl)).trans x_vq
    have a33 : f8 vq = some (.inl (cy 0, 40, .inl kv)) := (k10 _ (z_ne a32 a5 rfl)).trans a32
    have F34 : ∀ i9 : Nat, i9 < nn → f2 (fg i9) = some (.inr (4, [.int (kd i9), .ref (pt i9), .long (wg i9), .int (wd i9), .int (nI i9), .int (hs i9), .int (bf i9)])) := fun i9 h9 => (k4 _ (z_ne (hF i9 h9) x_nu rfl)).trans (hF i9 h9)
    have F35 : ∀ i9 : Nat, i9 < nn → f8 (fg i9) = some (.inr (4, [.int (kd i9), .ref (pt i9), .long (wg i9), .int (wd i9), .int (nI i9), .int (hs i9), .int (bf i9)])) := fun i9 h9 => (k10 _ (z_ne (F34 i9 h9) a5 rfl)).trans (F34 i9 h9)
    have F36 : ∀ i9 : Nat, i9 < nn → f2 (pt i9) = some (.inl (cy 1, (ln i9), .inr (.inl (pp i9)))) := fun i9 h9 => (k4 _ (z_neA (hP i9 h9) x_nu rfl)).trans (hP i9 h9)
    have F37 : ∀ i9 : Nat, i9 < nn → f8 (pt i9) = some (.inl (cy 1, (ln i9), .inr (.inl (pp i9)))) := fun i9 h9 => (k10 _ (z_neO (F36 i9 h9) a5 rfl)).trans (F36 i9 h9)
    have F38 : ∀ i9 : Nat, i9 < nf → f2 (fq i9) = some (.inr (3, [.ref (fk i9), .int (nI (fz i9))])) := fun i9 h9 => (k4 _ (z_ne (hFq i9 h9) x_nu rfl)).trans (hFq i9 h9)
    have F39 : ∀ i9 : Nat, i9 < nf → f8 (fq i9) = some (.inr (3, [.ref (fk i9), .int (nI (fz i9))])) := fun i9 h9 => (k10 _ (z_ne (F38 i9 h9) a5 rfl)).trans (F38 i9 h9)
    have F40 : ∀ i9 : Nat, i9 < nf → f2 (fk i9) = some (.inl (cy 0, 4, .inl (fc i9))) := fun i9 h9 => (k4 _ (z_ne (hFk i9 h9) x_nu rfl)).trans (hFk i9 h9)
    have F41 : ∀ i9 : Nat, i9 < nf → f8 (fk i9) = some (.inl (cy 0, 4, .inl (fc i9))) := fun i9 h9 => (k10 _ (z_ne (F40 i9 h9) a5 rfl)).trans (F40 i9 h9)
    have F42 : ∀ i9 : Nat, i9 < nc → f2 (cn i9) = some (.inr (0, [.int (ce i9), .int (cm i9)])) := fun i9 h9 => (k4 _ (z_ne (hCn i9 h9) x_nu rfl)).trans (hCn i9 h9)
    have F43 : ∀ i9 : Nat, i9 < nc → f8 (cn i9) = some (.inr (0, [.int (ce i9), .int (cm i9)])) := fun i9 h9 => (k10 _ (z_ne (F42 i9 h9) a5 rfl)).trans (F42 i9 h9)
    have F44 : ∀ i9 : Nat, i9 < 4 → f2 (ea i9) = some (.inr (1, [.ref (ma i9), .int (nI (sq i9))])) := fun i9 h9 => (k4 _ (z_ne (hEa i9 h9) x_nu rfl)).trans (hEa i9 h9)
    have F45 : ∀ i9 : Nat, i9 < 4 → f8 (ea i9) = some (.inr (1, [.ref (ma i9), .int (nI (sq i9))])) := fun i9 h9 => (k10 _ (z_ne (F44 i9 h9) a5 rfl)).trans (F44 i9 h9)
    have F46 : ∀ i9 : Nat, i9 < 4 → f2 (ma i9) = some (.inl (cy 0, 60, .inl (mb i9))) := fun i9 h9 => (k4 _ (z_ne (hMa i9 h9) x_nu rfl)).trans (hMa i9 h9)
    have F47 : ∀ i9 : Nat, i9 < 4 → f8 (ma i9) = some (.inl (cy 0, 60, .inl (mb i9))) := fun i9 h9 => (k10 _ (z_ne (F46 i9 h9) a5 rfl)).trans (F46 i9 h9)
    exact z_iret C hr rfl hz hS ⟨u1, u2, u3, gv, (nl + 1), (upd gu nl x), nn, ga, gr, fg, pt, kd, ln, pp, wg, wd, hs, bf, nf, gf, fq, fk, fz, fc, nc, gc, cn, ce, cm, sq, mb, ks, kk, kv, lk, (by first | simp [c1] | simp_all), (by first | simp [c1] | simp_all), rfl, ⟨a9, a12, a14, a16, a18, a20, a21, a23, a25, a27, a29, a31, a33, F35, F37, F39, F41, F43, F45, F47, hn60, (by omega), hf6, hc60, hs40, hga, hgr, hln, hk5, hk4, hfi, hpi, har, hgf, hfz, hgc, hG, hsq, hei, hmi, kne, hlk⟩⟩ (Nat.le_of_ble_eq_true rfl) (Nat.le_of_ble_eq_true rfl) dX7_lay_36
  · replace c1 : ¬ (nl < 12) := fun h => c1 ((nI_ltI (a := nl) (b := 12) (by omega) (by omega)).mpr h)
    refine lv_bipush (v := (-3)) hx hb dX7_lay_9 (by decide) ?_
    exact z_iret C hr rfl hz hS ⟨u1, u2, u3, gv, nl, gu, nn, ga, gr, fg, pt, kd, ln, pp, wg, wd, hs, bf, nf, gf, fq, fk, fz, fc, nc, gc, cn, ce, cm, sq, mb, ks, kk, kv, lk, (by first | simp [c1] | simp_all), (by first | simp [c1] | simp_all), rfl, ⟨x_o, x_fa, x_ev, x_fi, x_al, x_ra, x_nu, x_fm, x_co, x_en, x_ke, x_kn, x_vq, hF, hP, hFq, hFk, hCn, hEa, hMa, hn60, hl12, hf6, hc60, hs40, hga, hgr, hln, hk5, hk4, hfi, hpi, har, hgf, hfz, hgc, hG, hsq, hei, hmi, kne, hlk⟩⟩ (Nat.le_of_ble_eq_true rfl) (Nat.le_of_ble_eq_true rfl) dX7_lay_11
abbrev rmX7_wipe : Room := { frames := 0, cells := 0, slots := 0, locals := 0 }
set_option maxHeartbeats 4000000 in
set_option maxRecDepth 100000 in
theorem k_X7_wipe (l : Launch) (D : va_G) (cy : Nat → ClassId) (f : zM) (o : Nat) (fa : Nat) (fi : Nat) (nu : Nat) (fm : Nat) (co : Nat) (en : Nat) (ke : Nat) (ev : Nat) (al : Nat) (ra : Nat) (kn : Nat) (vq : Nat) (ge : Nat → Option Nat) (ea : Nat → Nat) (ma : Nat → Nat) (u1 : Int32) (u2 : Int32) (u3 : Int32) (gv : Nat → Int32) (nl : Nat) (gu : Nat → Int32) (nn : Nat) (ga : Nat → Option Nat) (gr : Nat → Option Nat) (fg : Nat → Nat) (pt : Nat → Nat) (kd : Nat → Int32) (ln : Nat → Nat) (pp : Nat → Nat → Int64) (wg : Nat → Int64) (wd : Nat → Int32) (hs : Nat → Int32) (bf : Nat → Int32) (nf : Nat) (gf : Nat → Option Nat) (fq : Nat → Nat) (fk : Nat → Nat) (fz : Nat → Nat) (fc : Nat → Nat → Int32) (nc : Nat) (gc : Nat → Option Nat) (cn : Nat → Nat) (ce : Nat → Int32) (cm : Nat → Int32) (sq : Nat → Nat) (mb : Nat → Nat → Int32) (ks : Nat) (kk : Nat → Int32) (kv : Nat → Int32) (lk : Int64)    (hI : zIX cy f o fa fi nu fm co en ke ev al ra kn vq ge ea ma u1 u2 u3 gv nl gu nn ga gr fg pt kd ln pp wg wd hs bf nf gf fq fk fz fc nc gc cn ce cm sq mb ks kk kv lk) : zCi l D cy yX7_wipe cX7_wipe 2 (Option.some Jvm.ClassFile.FieldType.int) rmX7_wipe [.ref o] f (fun (r : Int32) (f1 : zM) => ∃ (u11 : Int32) (u21 : Int32) (u31 : Int32) (gv1 : Nat → Int32) (nl1 : Nat) (gu1 : Nat → Int32) (nn1 : Nat) (ga1 : Nat → Option Nat) (gr1 : Nat → Option Nat) (fg1 : Nat → Nat) (pt1 : Nat → Nat) (kd1 : Nat → Int32) (ln1 : Nat → Nat) (pp1 : Nat → Nat → Int64) (wg1 : Nat → Int64) (wd1 : Nat → Int32) (hs1 : Nat → Int32) (bf1 : Nat → Int32) (nf1 : Nat) (gf1 : Nat → Option Nat) (fq1 : Nat → Nat) (fk1 : Nat → Nat) (fz1 : Nat → Nat) (fc1 : Nat → Nat → Int32) (nc1 : Nat) (gc1 : Nat → Option Nat) (cn1 : Nat → Nat) (ce1 : Nat → Int32) (cm1 : Nat → Int32) (sq1 : Nat → Nat) (mb1 : Nat → Nat → Int32) (ks1 : Nat) (kk1 : Nat → Int32) (kv1 : Nat → Int32) (lk1 : Int64), r = (nI nl) ∧ (nl1 = 0) ∧ (nn1 = nn) ∧ zIX cy f1 o fa fi nu fm co en ke ev al ra kn vq ge ea ma u11 u21 u31 gv1 nl1 gu1 nn1 ga1 gr1 fg1 pt1 kd1 ln1 pp1 wg1 wd1 hs1 bf1 nf1 gf1 fq1 fk1 fz1 fc1 nc1 gc1 cn1 ce1 cm1 sq1 mb1 ks1 kk1 kv1 lk1) := by
  intro sz
  refine z_body (by decide +kernel) (Nat.le_of_ble_eq_true rfl) ?_
  intro p e s m below meth c ls C hr hin hsz hz hl
  subst hsz
  have hx := C.1
  have hb := C.2.1
  have hA : ∀ q, s.heap.size ≤ q → zA f s.heap.size q := fun q h => Or.inr h
  have hS : va_S (zA f s.heap.size) s.heap s.heap [] := va_S.rf
  have hl : lv_has ls 2 [(0, .ref o)] := hl
  obtain ⟨x_o, x_fa, x_ev, x_fi, x_al, x_ra, x_nu, x_fm, x_co, x_en, x_ke, x_kn, x_vq, hF, hP, hFq, hFk, hCn, hEa, hMa, hn60, hl12, hf6, hc60, hs40, hga, hgr, hln, hk5, hk4, hfi, hpi, har, hgf, hfz, hgc, hG, hsq, hei, hmi, kne, hlk⟩ := id hI
  refine lv_aload_n hx hb dX7_wipe_0 rfl (lv_at hl 0 rfl) ?_
  refine z_get (v := .int (nI nl)) C hz x_o zl7 mFX7_27 (by decide) rfl dX7_wipe_1 ?_
  refine lv_istore_n (lv' := [(1, .int (nI nl)), (0, .ref o)]) hx hb dX7_wipe_4 rfl hl (by decide) rfl (fun ls hl => ?_)
  refine lv_aload_n hx hb dX7_wipe_5 rfl (lv_at hl 1 rfl) ?_
  refine lv_iconst (v := 0) hx hb dX7_wipe_6 (by decide) ?_
  refine z_put (fs' := [.ref fa, .ref fi, .ref nu, .int 0, .ref fm, .int (nI nf), .ref co, .int (nI nc), .ref en, .ref ke, .long lk]) C hz hS x_o zl7 mFX7_27 (by decide) rfl rfl rfl (Nat.le_of_ble_eq_true rfl) rfl dX7_wipe_7 (fun H locs f1 a2 k3 hz hS => ?_)
  refine lv_iload_n hx hb dX7_wipe_10 rfl (lv_at hl 0 rfl) ?_
  have a4 : f1 fa = some (.inr (2, [.int u1, .int u2, .int u3, .ref ev])) := (k3 _ (z_ne x_fa x_o rfl)).trans x_fa
  have a5 : f1 ev = some (.inl (cy 0, 8, .inl gv)) := (k3 _ (z_ne x_ev x_o rfl)).trans x_ev
  have a6 : f1 fi = some (.inr (5, [.ref al, .ref ra, .int (nI nn)])) := (k3 _ (z_ne x_fi x_o rfl)).trans x_fi
  have a7 : f1 al = some (.inl (cy 3, 60, .inr (.inr (.inr (.inr ga))))) := (k3 _ (z_ne x_al x_o rfl)).trans x_al
  have a8 : f1 ra = some (.inl (cy 3, 60, .inr (.inr (.inr (.inr gr))))) := (k3 _ (z_ne x_ra x_o rfl)).trans x_ra
  have a9 : f1 nu = some (.inl (cy 0, 12, .inl gu)) := (k3 _ (z_ne x_nu x_o rfl)).trans x_nu
  have a10 : f1 fm = some (.inl (cy 4, 6, .inr (.inr (.inr (.inr gf))))) := (k3 _ (z_ne x_fm x_o rfl)).trans x_fm
  have a11 : f1 co = some (.inl (cy 5, 60, .inr (.inr (.inr (.inr gc))))) := (k3 _ (z_ne x_co x_o rfl)).trans x_co
  have a12 : f1 en = some (.inl (cy 6, 4, .inr (.inr (.inr (.inr ge))))) := (k3 _ (z_ne x_en x_o rfl)).trans x_en
  have a13 : f1 ke = some (.inr (6, [.ref kn, .ref vq, .int (nI ks)])) := (k3 _ (z_ne x_ke x_o rfl)).trans x_ke
  have a14 : f1 kn = some (.inl (cy 0, 40, .inl kk)) := (k3 _ (z_ne x_kn x_o rfl)).trans x_kn
  have a15 : f1 vq = some (.inl (cy 0, 40, .inl kv)) := (k3 _ (z_ne x_vq x_o rfl)).trans x_vq
  have F16 : ∀ i9 : Nat, i9 < nn → f1 (fg i9) = some (.inr (4, [.int (kd i9), .ref (pt i9), .long (wg i9), .int (wd i9), .int (nI i9), .int (hs i9), .int (bf i9)])) := fun i9 h9 => (k3 _ (z_ne (hF i9 h9) x_o rfl)).trans (hF i9 h9)
  have F17 : ∀ i9 : Nat, i9 < nn → f1 (pt i9) = some (.inl (cy 1, (ln i9), .inr (.inl (pp i9)))) := fun i9 h9 => (k3 _ (z_neO (hP i9 h9) x_o rfl)).trans (hP i9 h9)
  have F18 : ∀ i9 : Nat, i9 < nf → f1 (fq i9) = some (.inr (3, [.ref (fk i9), .int (nI (fz i9))])) := fun i9 h9 => (k3 _ (z_ne (hFq i9 h9) x_o rfl)).trans (hFq i9 h9)
  have F19 : ∀ i9 : Nat, i9 < nf → f1 (fk i9) = some (.inl (cy 0, 4, .inl (fc i9))) := fun i9 h9 => (k3 _ (z_ne (hFk i9 h9) x_o rfl)).trans (hFk i9 h9)
  have F20 : ∀ i9 : Nat, i9 < nc → f1 (cn i9) = some (.inr (0, [.int (ce i9), .int (cm i9)])) := fun i9 h9 => (k3 _ (z_ne (hCn i9 h9) x_o rfl)).trans (hCn i9 h9)
  have F21 : ∀ i9 : Nat, i9 < 4 → f1 (ea i9) = some (.inr (1, [.ref (ma i9), .int (nI (sq i9))])) := fun i9 h9 => (k3 _ (z_ne (hEa i9 h9) x_o rfl)).trans (hEa i9 h9)
  have F22 : ∀ i9 : Nat, i9 < 4 → f1 (ma i9) = some (.inl (cy 0, 60, .inl (mb i9))) := fun i9 h9 => (k3 _ (z_ne (hMa i9 h9) x_o rfl)).trans (hMa i9 h9)
  exact z_iret C hr rfl hz hS ⟨u1, u2, u3, gv, 0, gu, nn, ga, gr, fg, pt, kd, ln, pp, wg, wd, hs, bf, nf, gf, fq, fk, fz, fc, nc, gc, cn, ce, cm, sq, mb, ks, kk, kv, lk, rfl, rfl, rfl, ⟨a2, a4, a5, a6, a7, a8, a9, a10, a11, a12, a13, a14, a15, F16, F17, F18, F19, F20, F21, F22, hn60, (by omega), hf6, hc60, hs40, hga, hgr, hln, hk5, hk4, hfi, hpi, har, hgf, hfz, hgc, hG, hsq, hei, hmi, kne, hlk⟩⟩ (Nat.le_of_ble_eq_true rfl) (Nat.le_of_ble_eq_true rfl) dX7_wipe_11
