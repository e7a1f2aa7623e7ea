abbrev rmX7_cause : Room := { frames := 0, cells := 0, slots := 0, locals := 0 }
set_option maxHeartbeats 4000000 in
set_option maxRecDepth 100000 in
theorem k_X7_cause (l : Launch) (D : va_G) (cy : Nat → ClassId) (f : zM) (o : Nat) (fa : Nat) (fi : Nat) (nu : Nat) (fm : Nat) (co : Nat) (en : Nat) (ke : Nat) (ev : Nat) (al : Nat) (ra : Nat) (kn : Nat) (vq : Nat) (ge : Nat → Option Nat) (ea : Nat → Nat) (ma : Nat → Nat) (u1 : Int32) (u2 : Int32) (u3 : Int32) (gv : Nat → Int32) (nl : Nat) (gu : Nat → Int32) (nn : Nat) (ga : Nat → Option Nat) (gr : Nat → Option Nat) (fg : Nat → Nat) (pt : Nat → Nat) (kd : Nat → Int32) (ln : Nat → Nat) (pp : Nat → Nat → Int64) (wg : Nat → Int64) (wd : Nat → Int32) (hs : Nat → Int32) (bf : Nat → Int32) (nf : Nat) (gf : Nat → Option Nat) (fq : Nat → Nat) (fk : Nat → Nat) (fz : Nat → Nat) (fc : Nat → Nat → Int32) (nc : Nat) (gc : Nat → Option Nat) (cn : Nat → Nat) (ce : Nat → Int32) (cm : Nat → Int32) (sq : Nat → Nat) (mb : Nat → Nat → Int32) (ks : Nat) (kk : Nat → Int32) (kv : Nat → Int32) (lk : Int64) (x : Int32)    (hI : zIX cy f o fa fi nu fm co en ke ev al ra kn vq ge ea ma u1 u2 u3 gv nl gu nn ga gr fg pt kd ln pp wg wd hs bf nf gf fq fk fz fc nc gc cn ce cm sq mb ks kk kv lk) : zCi l D cy yX7_cause cX7_cause 2 (Option.some Jvm.ClassFile.FieldType.int) rmX7_cause [.ref o, .int x] f (fun (r : Int32) (f1 : zM) => ∃ (u11 : Int32) (u21 : Int32) (u31 : Int32) (gv1 : Nat → Int32) (nl1 : Nat) (gu1 : Nat → Int32) (nn1 : Nat) (ga1 : Nat → Option Nat) (gr1 : Nat → Option Nat) (fg1 : Nat → Nat) (pt1 : Nat → Nat) (kd1 : Nat → Int32) (ln1 : Nat → Nat) (pp1 : Nat → Nat → Int64) (wg1 : Nat → Int64) (wd1 : Nat → Int32) (hs1 : Nat → Int32) (bf1 : Nat → Int32) (nf1 : Nat) (gf1 : Nat → Option Nat) (fq1 : Nat → Nat) (fk1 : Nat → Nat) (fz1 : Nat → Nat) (fc1 : Nat → Nat → Int32) (nc1 : Nat) (gc1 : Nat → Option Nat) (cn1 : Nat → Nat) (ce1 : Nat → Int32) (cm1 : Nat → Int32) (sq1 : Nat → Nat) (mb1 : Nat → Nat → Int32) (ks1 : Nat) (kk1 : Nat → Int32) (kv1 : Nat → Int32) (lk1 : Int64), (nl1 = nl) ∧ (nn1 = nn) ∧ zIX cy f1 o fa fi nu fm co en ke ev al ra kn vq ge ea ma u11 u21 u31 gv1 nl1 gu1 nn1 ga1 gr1 fg1 pt1 kd1 ln1 pp1 wg1 wd1 hs1 bf1 nf1 gf1 fq1 fk1 fz1 fc1 nc1 gc1 cn1 ce1 cm1 sq1 mb1 ks1 kk1 kv1 lk1) := by
  intro sz
  refine z_body (by decide +kernel) (Nat.le_of_ble_eq_true rfl) ?_
  intro p e s m below meth c ls C hr hin hsz hz hl
  subst hsz
  have hx := C.1
  have hb := C.2.1
  have hA : ∀ q, s.heap.size ≤ q → zA f s.heap.size q := fun q h => Or.inr h
  have hS : va_S (zA f s.heap.size) s.heap s.heap [] := va_S.rf
  have hl : lv_has ls 2 [(0, .ref o), (1, .int x)] := hl
  obtain ⟨x_o, x_fa, x_ev, x_fi, x_al, x_ra, x_nu, x_fm, x_co, x_en, x_ke, x_kn, x_vq, hF, hP, hFq, hFk, hCn, hEa, hMa, hn60, hl12, hf6, hc60, hs40, hga, hgr, hln, hk5, hk4, hfi, hpi, har, hgf, hfz, hgc, hG, hsq, hei, hmi, kne, hca, hcr, hlk⟩ := id hI
  refine lv_iload_n hx hb dX7_cause_0 rfl (lv_at hl 1 rfl) ?_
  by_cases c1_0 : x = 0
  · refine lv_tableIn (off := 27) (tgt := 28) hx hb dX7_cause_1 (by rw [c1_0]; decide) (by rw [c1_0]; decide) (by rw [c1_0]; decide) (by decide) ?_
    refine lv_aload_n hx hb dX7_cause_28 rfl (lv_at hl 0 rfl) ?_
    refine z_get (v := .ref fa) C hz x_o zl7 mFX7_10 (by decide) rfl dX7_cause_29 ?_
    refine z_getN (v := .int u1) C hz x_fa zl2 mFNX7_67 (by decide) rfl dX7_cause_32 ?_
    exact z_iret C hr rfl hz hS ⟨u1, u2, u3, gv, nl, gu, nn, ga, gr, fg, pt, kd, ln, pp, wg, wd, hs, bf, nf, gf, fq, fk, fz, fc, nc, gc, cn, ce, cm, sq, mb, ks, kk, kv, lk, rfl, rfl, ⟨x_o, x_fa, x_ev, x_fi, x_al, x_ra, x_nu, x_fm, x_co, x_en, x_ke, x_kn, x_vq, hF, hP, hFq, hFk, hCn, hEa, hMa, hn60, hl12, hf6, hc60, hs40, hga, hgr, hln, hk5, hk4, hfi, hpi, har, hgf, hfz, hgc, hG, hsq, hei, hmi, kne, hca, hcr, hlk⟩⟩ (Nat.le_of_ble_eq_true rfl) (Nat.le_of_ble_eq_true rfl) dX7_cause_35
  by_cases c1_1 : x = 1
  · refine lv_tableIn (off := 35) (tgt := 36) hx hb dX7_cause_1 (by rw [c1_1]; decide) (by rw [c1_1]; decide) (by rw [c1_1]; decide) (by decide) ?_
    refine lv_aload_n hx hb dX7_cause_36 rfl (lv_at hl 0 rfl) ?_
    refine z_get (v := .ref fa) C hz x_o zl7 mFX7_10 (by decide) rfl dX7_cause_37 ?_
    refine z_getN (v := .int u2) C hz x_fa zl2 mFNX7_70 (by decide) rfl dX7_cause_40 ?_
    exact z_iret C hr rfl hz hS ⟨u1, u2, u3, gv, nl, gu, nn, ga, gr, fg, pt, kd, ln, pp, wg, wd, hs, bf, nf, gf, fq, fk, fz, fc, nc, gc, cn, ce, cm, sq, mb, ks, kk, kv, lk, rfl, rfl, ⟨x_o, x_fa, x_ev, x_fi, x_al, x_ra, x_nu, x_fm, x_co, x_en, x_ke, x_kn, x_vq, hF, hP, hFq, hFk, hCn, hEa, hMa, hn60, hl12, hf6, hc60, hs40, hga, hgr, hln, hk5, hk4, hfi, hpi, har, hgf, hfz, hgc, hG, hsq, hei, hmi, kne, hca, hcr, hlk⟩⟩ (Nat.le_of_ble_eq_true rfl) (Nat.le_of_ble_eq_true rfl) dX7_cause_43
  by_cases c1_2 : x = 2
  · refine lv_tableIn (off := 43) (tgt := 44) hx hb dX7_cause_1 (by rw [c1_2]; decide) (by rw [c1_2]; decide) (by rw [c1_2]; decide) (by decide) ?_
    refine lv_aload_n hx hb dX7_cause_44 rfl (lv_at hl 0 rfl) ?_
    refine z_get (v := .ref fa) C hz x_o zl7 mFX7_10 (by decide) rfl dX7_cause_45 ?_
    refine z_getN (v := .int u3) C hz x_fa zl2 mFNX7_73 (by decide) rfl dX7_cause_48 ?_
    exact z_iret C hr rfl hz hS ⟨u1, u2, u3, gv, nl, gu, nn, ga, gr, fg, pt, kd, ln, pp, wg, wd, hs, bf, nf, gf, fq, fk, fz, fc, nc, gc, cn, ce, cm, sq, mb, ks, kk, kv, lk, rfl, rfl, ⟨x_o, x_fa, x_ev, x_fi, x_al, x_ra, x_nu, x_fm, x_co, x_en, x_ke, x_kn, x_vq, hF, hP, hFq, hFk, hCn, hEa, hMa, hn60, hl12, hf6, hc60, hs40, hga, hgr, hln, hk5, hk4, hfi, hpi, har, hgf, hfz, hgc, hG, hsq, hei, hmi, kne, hca, hcr, hlk⟩⟩ (Nat.le_of_ble_eq_true rfl) (Nat.le_of_ble_eq_true rfl) dX7_cause_51
  refine lv_tableOut (tgt := 52) hx hb dX7_cause_1 (by have t0 := lv_neT c1_0 (a := 0) (by decide); have t1 := lv_neT c1_1 (a := 1) (by decide); have t2 := lv_neT c1_2 (a := 2) (by decide);  omega) (by decide) ?_
  refine lv_bipush (v := (-2)) hx hb dX7_cause_52 (by decide) ?_
  exact z_iret C hr rfl hz hS ⟨u1, u2, u3, gv, nl, gu, nn, ga, gr, fg, pt, kd, ln, pp, wg, wd, hs, bf, nf, gf, fq, fk, fz, fc, nc, gc, cn, ce, cm, sq, mb, ks, kk, kv, lk, rfl, rfl, ⟨x_o, x_fa, x_ev, x_fi, x_al, x_ra, x_nu, x_fm, x_co, x_en, x_ke, x_kn, x_vq, hF, hP, hFq, hFk, hCn, hEa, hMa, hn60, hl12, hf6, hc60, hs40, hga, hgr, hln, hk5, hk4, hfi, hpi, har, hgf, hfz, hgc, hG, hsq, hei, hmi, kne, hca, hcr, hlk⟩⟩ (Nat.le_of_ble_eq_true rfl) (Nat.le_of_ble_eq_true rfl) dX7_cause_54
abbrev rmX7_lay : Room := { frames := 0, cells := 0, slots := 0, locals := 0 }
set_option maxHeartbeats 4000000 in
set_option maxRecDepth 100000 in
theorem k_X7_lay (l : Launch) (D : va_G) (cy : Nat → ClassId) (f : zM) (o : Nat) (fa : Nat) (fi : Nat) (nu : Nat) (fm : Nat) (co : Nat) (en : Nat) (ke : Nat) (ev : Nat) (al : Nat) (ra : Nat) (kn : Nat) (vq : Nat) (ge : Nat → Option Nat) (ea : Nat → Nat) (ma : Nat → Nat) (u1 : Int32) (u2 : Int32) (u3 : Int32) (gv : Nat → Int32) (nl : Nat) (gu : Nat → Int32) (nn : Nat) (ga : Nat → Option Nat) (gr : Nat → Option Nat) (fg : Nat → Nat) (pt : Nat → Nat) (kd : Nat → Int32) (ln : Nat → Nat) (pp : Nat → Nat → Int64) (wg : Nat → Int64) (wd : Nat → Int32) (hs : Nat → Int32) (bf : Nat → Int32) (nf : Nat) (gf : Nat → Option Nat) (fq : Nat → Nat) (fk : Nat → Nat) (fz : Nat → Nat) (fc : Nat → Nat → Int32) (nc : Nat) (gc : Nat → Option Nat) (cn : Nat → Nat) (ce : Nat → Int32) (cm : Nat → Int32) (sq : Nat → Nat) (mb : Nat → Nat → Int32) (ks : Nat) (kk : Nat → Int32) (kv : Nat → Int32) (lk : Int64) (x : Int32)    (hI : zIX cy f o fa fi nu fm co en ke ev al ra kn vq ge ea ma u1 u2 u3 gv nl gu nn ga gr fg pt kd ln pp wg wd hs bf nf gf fq fk fz fc nc gc cn ce cm sq mb ks kk kv lk) : zCi l D cy yX7_lay cX7_lay 2 (Option.some Jvm.ClassFile.FieldType.int) rmX7_lay [.ref o, .int x] f (fun (r : Int32) (f1 : zM) => ∃ (u11 : Int32) (u21 : Int32) (u31 : Int32) (gv1 : Nat → Int32) (nl1 : Nat) (gu1 : Nat → Int32) (nn1 : Nat) (ga1 : Nat → Option Nat) (gr1 : Nat → Option Nat) (fg1 : Nat → Nat) (pt1 : Nat → Nat) (kd1 : Nat → Int32) (ln1 : Nat → Nat) (pp1 : Nat → Nat → Int64) (wg1 : Nat → Int64) (wd1 : Nat → Int32) (hs1 : Nat → Int32) (bf1 : Nat → Int32) (nf1 : Nat) (gf1 : Nat → Option Nat) (fq1 : Nat → Nat) (fk1 : Nat → Nat) (fz1 : Nat → Nat) (fc1 : Nat → Nat → Int32) (nc1 : Nat) (gc1 : Nat → Option Nat) (cn1 : Nat → Nat) (ce1 : Nat → Int32) (cm1 : Nat → Int32) (sq1 : Nat → Nat) (mb1 : Nat → Nat → Int32) (ks1 : Nat) (kk1 : Nat → Int32) (kv1 : Nat → Int32) (lk1 : Int64), r = (if nl < 12 then nI (nl + 1) else (-3)) ∧ (nl1 = if nl < 12 then nl + 1 else nl) ∧ (nn1 = nn) ∧ zIX cy f1 o fa fi nu fm co en ke ev al ra kn vq ge ea ma u11 u21 u31 gv1 nl1 gu1 nn1 ga1 gr1 fg1 pt1 kd1 ln1 pp1 wg1 wd1 hs1 bf1 nf1 gf1 fq1 fk1 fz1 fc1 nc1 gc1 cn1 ce1 cm1 sq1 mb1 ks1 kk1 kv1 lk1) := by
  intro sz
  refine z_body (by decide +kernel) (Nat.le_of_ble_eq_true rfl) ?_
  intro p e s m below meth c ls C hr hin hsz hz hl
  subst hsz
  have hx := C.1
  have hb := C.2.1
  have hA : ∀ q, s.heap.size ≤ q → zA f s.heap.size q := fun q h => Or.inr h
  have hS : va_S (zA f s.heap.size) s.heap s.heap [] := va_S.rf
  have hl : lv_has ls 2 [(0, .ref o), (1, .int x)] := hl
  obtain ⟨x_o, x_fa, x_ev, x_fi, x_al, x_ra, x_nu, x_fm, x_co, x_en, x_ke, x_kn, x_vq, hF, hP, hFq, hFk, hCn, hEa, hMa, hn60, hl12, hf6, hc60, hs40, hga, hgr, hln, hk5, hk4, hfi, hpi, har, hgf, hfz, hgc, hG, hsq, hei, hmi, kne, hca, hcr, hlk⟩ := id hI
  refine lv_aload_n hx hb dX7_lay_0 rfl (lv_at hl 0 rfl) ?_
  refine z_get (v := .int (nI nl)) C hz x_o zl7 mFX7_27 (by decide) rfl dX7_lay_1 ?_
  refine lv_bipush (v := 12) hx hb dX7_lay_4 (by decide) ?_
  refine lv_icmp_lt (tgt := 12) hx hb dX7_lay_6 (by decide) (fun c1 => ?_) (fun c1 => ?_)
  · replace c1 : (nl < 12) := (nI_ltI (a := nl) (b := 12) (by omega) (by omega)).mp c1
    refine lv_aload_n hx hb dX7_lay_12 rfl (lv_at hl 0 rfl) ?_
    refine z_get (v := .ref nu) C hz x_o zl7 mFX7_23 (by decide) rfl dX7_lay_13 ?_
    refine lv_aload_n hx hb dX7_lay_16 rfl (lv_at hl 0 rfl) ?_
    refine z_get (v := .int (nI nl)) C hz x_o zl7 mFX7_27 (by decide) rfl dX7_lay_17 ?_
    refine lv_iload_n hx hb dX7_lay_20 rfl (lv_at hl 1 rfl) ?_
    refine z_iast nl C hz hS x_nu rfl (by omega) (by omega) dX7_lay_21 (fun H locs f2 a3 k4 hz hS => ?_)
    refine lv_aload_n hx hb dX7_lay_22 rfl (lv_at hl 0 rfl) ?_
    refine lv_dup hx hb dX7_lay_23 rfl ?_
    have a5 : f2 o = some (.inr (7, [.ref fa, .ref fi, .ref nu, .int (nI nl), .ref fm, .int (nI nf), .ref co, .int (nI nc), .ref en, .ref ke, .long lk])) := (k4 _ (z_ne x_o x_nu rfl)).trans x_o
    refine z_get (v := .int (nI nl)) C hz a5 zl7 mFX7_27 (by decide) rfl dX7_lay_24 ?_
    refine lv_iconst (v := 1) hx hb dX7_lay_27 (by decide) ?_
    refine lv_iadd hx hb dX7_lay_28 ?_
    refine lv_topi (fun y6 e7 => ?_)
    obtain rfl : y6 = nI (nl + 1) := e7.trans (nI_1 nl)
    refine z_put (fs' := [.ref fa, .ref fi, .ref nu, .int (nI (nl + 1)), .ref fm, .int (nI nf), .ref co, .int (nI nc), .ref en, .ref ke, .long lk]) C hz hS a5 zl7 mFX7_27 (by decide) rfl rfl rfl (Nat.le_of_ble_eq_true rfl) rfl dX7_lay_29 (fun H locs f8 a9 k10 hz hS => ?_)
    refine lv_aload_n hx hb dX7_lay_32 rfl (lv_at hl 0 rfl) ?_
    refine z_get (v := .int (nI (nl + 1))) C hz a9 zl7 mFX7_27 (by decide) rfl dX7_lay_33 ?_
    have a11 : f2 fa = some (.inr (2, [.int u1, .int u2, .int u3, .ref ev])) := (k4 _ (z_ne x_fa x_nu rfl)).trans x_fa
    have a12 : f8 fa = some (.inr (2, [.int u1, .int u2, .int u3, .ref ev])) := (k10 _ (z_ne a11 a5 rfl)).trans a11
    have a13 : f2 ev = some (.inl (cy 0, 8, .inl gv)) := (k4 _ (z_ne x_ev x_nu rfl)).trans x_ev
    have a14 : f8 ev = some (.inl (cy 0, 8, .inl gv)) := (k10 _ (z_ne a13 a5 rfl)).trans a13
    have a15 : f2 fi = some (.inr (5, [.ref al, .ref ra, .int (nI nn)])) := (k4 _ (z_ne x_fi x_nu rfl)).trans x_fi
    have a16 : f8 fi = some (.inr (5, [.ref al, .ref ra, .int (nI nn)])) := (k10 _ (z_ne a15 a5 rfl)).trans a15
    have a17 : f2 al = some (.inl (cy 3, 60, .inr (.inr (.inr (.inr ga))))) := (k4 _ (z_ne x_al x_nu rfl)).trans x_al
    have a18 : f8 al = some (.inl (cy 3, 60, .inr (.inr (.inr (.inr ga))))) := (k10 _ (z_ne a17 a5 rfl)).trans a17
    have a19 : f2 ra = some (.inl (cy 3, 60, .inr (.inr (.inr (.inr gr))))) := (k4 _ (z_ne x_ra x_nu rfl)).trans x_ra
    have a20 : f8 ra = some (.inl (cy 3, 60, .inr (.inr (.inr (.inr gr))))) := (k10 _ (z_ne a19 a5 rfl)).trans a19
    have a21 : f8 nu = some (.inl (cy 0, 12, .inl (upd gu nl x))) := (k10 _ (z_ne a3 a5 rfl)).trans a3
    have a22 : f2 fm = some (.inl (cy 4, 6, .inr (.inr (.inr (.inr gf))))) := (k4 _ (z_ne x_fm x_nu rfl)).trans x_fm
    have a23 : f8 fm = some (.inl (cy 4, 6, .inr (.inr (.inr (.inr gf))))) := (k10 _ (z_ne a22 a5 rfl)).trans a22
    have a24 : f2 co = some (.inl (cy 5, 60, .inr (.inr (.inr (.inr gc))))) := (k4 _ (z_ne x_co x_nu rfl)).trans x_co
    have a25 : f8 co = some (.inl (cy 5, 60, .inr (.inr (.inr (.inr gc))))) := (k10 _ (z_ne a24 a5 rfl)).trans a24
    have a26 : f2 en = some (.inl (cy 6, 4, .inr (.inr (.inr (.inr ge))))) := (k4 _ (z_ne x_en x_nu rfl)).trans x_en
    have a27 : f8 en = some (.inl (cy 6, 4, .inr (.inr (.inr (.inr ge))))) := (k10 _ (z_ne a26 a5 rfl)).trans a26
    have a28 : f2 ke = some (.inr (6, [.ref kn, .ref vq, .int (nI ks)])) := (k4 _ (z_ne x_ke x_nu rfl)).trans x_ke
    have a29 : f8 ke = some (.inr (6, [.ref kn, .ref vq, .int (nI ks)])) := (k10 _ (z_ne a28 a5 rfl)).trans a28
    have a30 : f2 kn = some (.inl (cy 0, 40, .inl kk)) := (k4 _ (z_ne x_kn x_nu rfl)).trans x_kn
    have a31 : f8 kn = some (.inl (cy 0, 40, .inl kk)) := (k10 _ (z_ne a30 a5 rfl)).trans a30
    have a32 : f2 vq = some (.inl (cy 0, 40, .inl kv)) := (k4 _ (z_ne x_vq x_nu rfl)).trans x_vq
    have a33 : f8 vq = some (.inl (cy 0, 40, .inl kv)) := (k10 _ (z_ne a32 a5 rfl)).trans a32
    have F34 : ∀ i9 : Nat, i9 < nn → f2 (fg i9) = some (.inr (4, [.int (kd i9), .ref (pt i9), .long (wg i9), .int (wd i9), .int (nI i9), .int (hs i9), .int (bf i9)])) := fun i9 h9 => (k4 _ (z_ne (hF i9 h9) x_nu rfl)).trans (hF i9 h9)
    have F35 : ∀ i9 : Nat, i9 < nn → f8 (fg i9) = some (.inr (4, [.int (kd i9), .ref (pt i9), .long (wg i9), .int (wd i9), .int (nI i9), .int (hs i9), .int (bf i9)])) := fun i9 h9 => (k10 _ (z_ne (F34 i9 h9) a5 rfl)).trans (F34 i9 h9)
    have F36 : ∀ i9 : Nat, i9 < nn → f2 (pt i9) = some (.inl (cy 1, (ln i9), .inr (.inl (pp i9)))) := fun i9 h9 => (k4 _ (z_neA (hP i9 h9) x_nu rfl)).trans (hP i9 h9)
    have F37 : ∀ i9 : Nat, i9 < nn → f8 (pt i9) = some (.inl (cy 1, (ln i9), .inr (.inl (pp i9)))) := fun i9 h9 => (k10 _ (z_neO (F36 i9 h9) a5 rfl)).trans (F36 i9 h9)
    have F38 : ∀ i9 : Nat, i9 < nf → f2 (fq i9) = some (.inr (3, [.ref (fk i9), .int (nI (fz i9))])) := fun i9 h9 => (k4 _ (z_ne (hFq i9 h9) x_nu rfl)).trans (hFq i9 h9)
    have F39 : ∀ i9 : Nat, i9 < nf → f8 (fq i9) = some (.inr (3, [.ref (fk i9), .int (nI (fz i9))])) := fun i9 h9 => (k10 _ (z_ne (F38 i9 h9) a5 rfl)).trans (F38 i9 h9)
    have F40 : ∀ i9 : Nat, i9 < nf → f2 (fk i9) = some (.inl (cy 0, 4, .inl (fc i9))) := fun i9 h9 => (k4 _ (z_ne (hFk i9 h9) x_nu rfl)).trans (hFk i9 h9)
    have F41 : ∀ i9 : Nat, i9 < nf → f8 (fk i9) = some (.inl (cy 0, 4, .inl (fc i9))) := fun i9 h9 => (k10 _ (z_ne (F40 i9 h9) a5 rfl)).trans (F40 i9 h9)
    have F42 : ∀ i9 : Nat, i9 < nc → f2 (cn i9) = some (.inr (0, [.int (ce i9), .int (cm i9)])) := fun i9 h9 => (k4 _ (z_ne (hCn i9 h9) x_nu rfl)).trans (hCn i9 h9)
    have F43 : ∀ i9 : Nat, i9 < nc → f8 (cn i9) = some (.inr (0, [.int (ce i9), .int (cm i9)])) := fun i9 h9 => (k10 _ (z_ne (F42 i9 h9) a5 rfl)).trans (F42 i9 h9)
    have F44 : ∀ i9 : Nat, i9 < 4 → f2 (ea i9) = some (.inr (1, [.ref (ma i9), .int (nI (sq i9))])) := fun i9 h9 => (k4 _ (z_ne (hEa i9 h9) x_nu rfl)).trans (hEa i9 h9)
    have F45 : ∀ i9 : Nat, i9 < 4 → f8 (ea i9) = some (.inr (1, [.ref (ma i9), .int (nI (sq i9))])) := fun i9 h9 => (k10 _ (z_ne (F44 i9 h9) a5 rfl)).trans (F44 i9 h9)
    have F46 : ∀ i9 : Nat, i9 < 4 → f2 (ma i9) = some (.inl (cy 0, 60, .inl (mb i9))) := fun i9 h9 => (k4 _ (z_ne (hMa i9 h9) x_nu rfl)).trans (hMa i9 h9)
    have F47 : ∀ i9 : Nat, i9 < 4 → f8 (ma i9) = some (.inl (cy 0, 60, .inl (mb i9))) := fun i9 h9 => (k10 _ (z_ne (F46 i9 h9) a5 rfl)).trans (F46 i9 h9)
    exact z_iret C hr rfl hz hS ⟨u1, u2, u3, gv, (nl + 1), (upd gu nl x), nn, ga, gr, fg, pt, kd, ln, pp, wg, wd, hs, bf, nf, gf, fq, fk, fz, fc, nc, gc, cn, ce, cm, sq, mb, ks, kk, kv, lk, (by first | simp [c1] | simp_all), (by first | simp [c1] | simp_all), rfl, ⟨a9, a12, a14, a16, a18, a20, a21, a23, a25, a27, a29, a31, a33, F35, F37, F39, F41, F43, F45, F47, hn60, (by omega), hf6, hc60, hs40, hga, hgr, hln, hk5, hk4, hfi, hpi, har, hgf, hfz, hgc, hG, hsq, hei, hmi, kne, hca, hcr, hlk⟩⟩ (Nat.le_of_ble_eq_true rfl) (Nat.le_of_ble_eq_true rfl) dX7_lay_36
  · replace c1 : ¬ (nl < 12) := fun h => c1 ((nI_ltI (a := nl) (b := 12) (by omega) (by omega)).mpr h)
    refine lv_bipush (v := (-3)) hx hb dX7_lay_9 (by decide) ?_
    exact z_iret C hr rfl hz hS ⟨u1, u2, u3, gv, nl, gu, nn, ga, gr, fg, pt, kd, ln, pp, wg, wd, hs, bf, nf, gf, fq, fk, fz, fc, nc, gc, cn, ce, cm, sq, mb, ks, kk, kv, lk, (by first | simp [c1] | simp_all), (by first | simp [c1] | simp_all), rfl, ⟨x_o, x_fa, x_ev, x_fi, x_al, x_ra, x_nu, x_fm, x_co, x_en, x_ke, x_kn, x_vq, hF, hP, hFq, hFk, hCn, hEa, hMa, hn60, hl12, hf6, hc60, hs40, hga, hgr, hln, hk5, hk4, hfi, hpi, har, hgf, hfz, hgc, hG, hsq, hei, hmi, kne, hca, hcr, hlk⟩⟩ (Nat.le_of_ble_eq_true rfl) (Nat.le_of_ble_eq_true rfl) dX7_lay_11
abbrev rmX7_wipe : Room := { frames := 0, cells := 0, slots := 0, locals := 0 }
set_option maxHeartbeats 4000000 in
set_option maxRecDepth 100000 in
theorem k_X7_wipe (l : Launch) (D : va_G) (cy : Nat → ClassId) (f : zM) (o : Nat) (fa : Nat) (fi : Nat) (nu : Nat) (fm : Nat) (co : Nat) (en : Nat) (ke : Nat) (ev : Nat) (al : Nat) (ra : Nat) (kn : Nat) (vq : Nat) (ge : Nat → Option Nat) (ea : Nat → Nat) (ma : Nat → Nat) (u1 : Int32) (u2 : Int32) (u3 : Int32) (gv : Nat → Int32) (nl : Nat) (gu : Nat → Int32) (nn : Nat) (ga : Nat → Option Nat) (gr : Nat → Option Nat) (fg : Nat → Nat) (pt : Nat → Nat) (kd : Nat → Int32) (ln : Nat → Nat) (pp : Nat → Nat → Int64) (wg : Nat → Int64) (wd : Nat → Int32) (hs : Nat → Int32) (bf : Nat → Int32) (nf : Nat) (gf : Nat → Option Nat) (fq : Nat → Nat) (fk : Nat → Nat) (fz : Nat → Nat) (fc : Nat → Nat → Int32) (nc : Nat) (gc : Nat → Option Nat) (cn : Nat → Nat) (ce : Nat → Int32) (cm : Nat → Int32) (sq : Nat → Nat) (mb : Nat → Nat → Int32) (ks : Nat) (kk : Nat → Int32) (kv : Nat → Int32) (lk : Int64)    (hI : zIX cy f o fa fi nu fm co en ke ev al ra kn vq ge ea ma u1 u2 u3 gv nl gu nn ga gr fg pt kd ln pp wg wd hs bf nf gf fq fk fz fc nc gc cn ce cm sq mb ks kk kv lk) : zCi l D cy yX7_wipe cX7_wipe 2 (Option.some Jvm.ClassFile.FieldType.int) rmX7_wipe [.ref o] f (fun (r : Int32) (f1 : zM) => ∃ (u11 : Int32) (u21 : Int32) (u31 : Int32) (gv1 : Nat → Int32) (nl1 : Nat) (gu1 : Nat → Int32) (nn1 : Nat) (ga1 : Nat → Option Nat) (gr1 : Nat → Option Nat) (fg1 : Nat → Nat) (pt1 : Nat → Nat) (kd1 : Nat → Int32) (ln1 : Nat → Nat) (pp1 : Nat → Nat → Int64) (wg1 : Nat → Int64) (wd1 : Nat → Int32) (hs1 : Nat → Int32) (bf1 : Nat → Int32) (nf1 : Nat) (gf1 : Nat → Option Nat) (fq1 : Nat → Nat) (fk1 : Nat → Nat) (fz1 : Nat → Nat) (fc1 : Nat → Nat → Int32) (nc1 : Nat) (gc1 : Nat → Option Nat) (cn1 : Nat → Nat) (ce1 : Nat → Int32) (cm1 : Nat → Int32) (sq1 : Nat → Nat) (mb1 : Nat → Nat → Int32) (ks1 : Nat) (kk1 : Nat → Int32) (kv1 : Nat → Int32) (lk1 : Int64), r = (nI nl) ∧ (nl1 = 0) ∧ (nn1 = nn) ∧ zIX cy f1 o fa fi nu fm co en ke ev al ra kn vq ge ea ma u11 u21 u31 gv1 nl1 gu1 nn1 ga1 gr1 fg1 pt1 kd1 ln1 pp1 wg1 wd1 hs1 bf1 nf1 gf1 fq1 fk1 fz1 fc1 nc1 gc1 cn1 ce1 cm1 sq1 mb1 ks1 kk1 kv1 lk1) := by
  intro sz
  refine z_body (by decide +kernel) (Nat.le_of_ble_eq_true rfl) ?_
  intro p e s m below meth c ls C hr hin hsz hz hl
  subst hsz
  have hx := C.1
  have hb := C.2.1
  have hA : ∀ q, s.heap.size ≤ q → zA f s.heap.size q := fun q h => Or.inr h
  have hS : va_S (zA f s.heap.size) s.heap s.heap [] := va_S.rf
  have hl : lv_has ls 2 [(0, .ref o)] := hl
  obtain ⟨x_o, x_fa, x_ev, x_fi, x_al, x_ra, x_nu, x_fm, x_co, x_en, x_ke, x_kn, x_vq, hF, hP, hFq, hFk, hCn, hEa, hMa, hn60, hl12, hf6, hc60, hs40, hga, hgr, hln, hk5, hk4, hfi, hpi, har, hgf, hfz, hgc, hG, hsq, hei, hmi, kne, hca, hcr, hlk⟩ := id hI
  refine lv_aload_n hx hb dX7_wipe_0 rfl (lv_at hl 0 rfl) ?_
  refine z_get (v := .int (nI nl)) C hz x_o zl7 mFX7_27 (by decide) rfl dX7_wipe_1 ?_
  refine lv_istore_n (lv' := [(1, .int (nI nl)), (0, .ref o)]) hx hb dX7_wipe_4 rfl hl (by decide) rfl (fun ls hl => ?_)
  refine lv_aload_n hx hb dX7_wipe_5 rfl (lv_at hl 1 rfl) ?_
  refine lv_iconst (v := 0) hx hb dX7_wipe_6 (by decide) ?_
  refine z_put (fs' := [.ref fa, .ref fi, .ref nu, .int 0, .ref fm, .int (nI nf), .ref co, .int (nI nc), .ref en, .ref ke, .long lk]) C hz hS x_o zl7 mFX7_27 (by decide) rfl rfl rfl (Nat.le_of_ble_eq_true rfl) rfl dX7_wipe_7 (fun H locs f1 a2 k3 hz hS => ?_)
  refine lv_iload_n hx hb dX7_wipe_10 rfl (lv_at hl 0 rfl) ?_
  have a4 : f1 fa = some (.inr (2, [.int u1, .int u2, .int u3, .ref ev])) := (k3 _ (z_ne x_fa x_o rfl)).trans x_fa
  have a5 : f1 ev = some (.inl (cy 0, 8, .inl gv)) := (k3 _ (z_ne x_ev x_o rfl)).trans x_ev
  have a6 : f1 fi = some (.inr (5, [.ref al, .ref ra, .int (nI nn)])) := (k3 _ (z_ne x_fi x_o rfl)).trans x_fi
  have a7 : f1 al = some (.inl (cy 3, 60, .inr (.inr (.inr (.inr ga))))) := (k3 _ (z_ne x_al x_o rfl)).trans x_al
  have a8 : f1 ra = some (.inl (cy 3, 60, .inr (.inr (.inr (.inr gr))))) := (k3 _ (z_ne x_ra x_o rfl)).trans x_ra
  have a9 : f1 nu = some (.inl (cy 0, 12, .inl gu)) := (k3 _ (z_ne x_nu x_o rfl)).trans x_nu
  have a10 : f1 fm = some (.inl (cy 4, 6, .inr (.inr (.inr (.inr gf))))) := (k3 _ (z_ne x_fm x_o rfl)).trans x_fm
  have a11 : f1 co = some (.inl (cy 5, 60, .inr (.inr (.inr (.inr gc))))) := (k3 _ (z_ne x_co x_o rfl)).trans x_co
  have a12 : f1 en = some (.inl (cy 6, 4, .inr (.inr (.inr (.inr ge))))) := (k3 _ (z_ne x_en x_o rfl)).trans x_en
  have a13 : f1 ke = some (.inr (6, [.ref kn, .ref vq, .int (nI ks)])) := (k3 _ (z_ne x_ke x_o rfl)).trans x_ke
  have a14 : f1 kn = some (.inl (cy 0, 40, .inl kk)) := (k3 _ (z_ne x_kn x_o rfl)).trans x_kn
  have a15 : f1 vq = some (.inl (cy 0, 40, .inl kv)) := (k3 _ (z_ne x_vq x_o rfl)).trans x_vq
  have F16 : ∀ i9 : Nat, i9 < nn → f1 (fg i9) = some (.inr (4, [.int (kd i9), .ref (pt i9), .long (wg i9), .int (wd i9), .int (nI i9), .int (hs i9), .int (bf i9)])) := fun i9 h9 => (k3 _ (z_ne (hF i9 h9) x_o rfl)).trans (hF i9 h9)
  have F17 : ∀ i9 : Nat, i9 < nn → f1 (pt i9) = some (.inl (cy 1, (ln i9), .inr (.inl (pp i9)))) := fun i9 h9 => (k3 _ (z_neO (hP i9 h9) x_o rfl)).trans (hP i9 h9)
  have F18 : ∀ i9 : Nat, i9 < nf → f1 (fq i9) = some (.inr (3, [.ref (fk i9), .int (nI (fz i9))])) := fun i9 h9 => (k3 _ (z_ne (hFq i9 h9) x_o rfl)).trans (hFq i9 h9)
  have F19 : ∀ i9 : Nat, i9 < nf → f1 (fk i9) = some (.inl (cy 0, 4, .inl (fc i9))) := fun i9 h9 => (k3 _ (z_ne (hFk i9 h9) x_o rfl)).trans (hFk i9 h9)
  have F20 : ∀ i9 : Nat, i9 < nc → f1 (cn i9) = some (.inr (0, [.int (ce i9), .int (cm i9)])) := fun i9 h9 => (k3 _ (z_ne (hCn i9 h9) x_o rfl)).trans (hCn i9 h9)
  have F21 : ∀ i9 : Nat, i9 < 4 → f1 (ea i9) = some (.inr (1, [.ref (ma i9), .int (nI (sq i9))])) := fun i9 h9 => (k3 _ (z_ne (hEa i9 h9) x_o rfl)).trans (hEa i9 h9)
  have F22 : ∀ i9 : Nat, i9 < 4 → f1 (ma i9) = some (.inl (cy 0, 60, .inl (mb i9))) := fun i9 h9 => (k3 _ (z_ne (hMa i9 h9) x_o rfl)).trans (hMa i9 h9)
  exact z_iret C hr rfl hz hS ⟨u1, u2, u3, gv, 0, gu, nn, ga, gr, fg, pt, kd, ln, pp, wg, wd, hs, bf, nf, gf, fq, fk, fz, fc, nc, gc, cn, ce, cm, sq, mb, ks, kk, kv, lk, rfl, rfl, rfl, ⟨a2, a4, a5, a6, a7, a8, a9, a10, a11, a12, a13, a14, a15, F16, F17, F18, F19, F20, F21, F22, hn60, (by omega), hf6, hc60, hs40, hga, hgr, hln, hk5, hk4, hfi, hpi, har, hgf, hfz, hgc, hG, hsq, hei, hmi, kne, hca, hcr, hlk⟩⟩ (Nat.le_of_ble_eq_true rfl) (Nat.le_of_ble_eq_true rfl) dX7_wipe_11
abbrev rmX7_oneNan : Room := { frames := 0, cells := 0, slots := 0, locals := 0 }
set_option maxHeartbeats 4000000 in
set_option maxRecDepth 100000 in
theorem k_X7_oneNan (l : Launch) (D : va_G) (cy : Nat → ClassId) (f : zM) (v : Int64)    : zCl l D cy yX7_oneNan cX7_oneNan 3 (Option.some Jvm.ClassFile.FieldType.long) rmX7_oneNan [.long v] f (fun (r : Int64) (f1 : zM) => (∀ (b : Nat) (e : va_E), f b = some e → f1 b = some e)) := by
  intro sz
  refine z_body (by decide +kernel) (Nat.le_of_ble_eq_true rfl) ?_
  intro p e s m below meth c ls C hr hin hsz hz hl
  subst hsz
  have hx := C.1
  have hb := C.2.1
  have hA : ∀ q, s.heap.size ≤ q → zA f s.heap.size q := fun q h => Or.inr h
  have hS : va_S (zA f s.heap.size) s.heap s.heap [] := va_S.rf
  have hl : lv_has ls 3 [(0, .long v)] := hl
  refine lv_lload_n hx hb dX7_oneNan_0 rfl (lv_at hl 0 rfl) ?_
  refine lv_ldc2 (v := 9223372036854775807) hx hb C.2.2.2.1 (C.2.2.2.2.1 _ mKX7_269) dX7_oneNan_1 ?_
  refine lv_land hx hb dX7_oneNan_4 ?_
  refine lv_ldc2 (v := 9218868437227405312) hx hb C.2.2.2.1 (C.2.2.2.2.1 _ mKX7_271) dX7_oneNan_5 ?_
  refine W.lcmp hx hb dX7_oneNan_8 ?_
  refine lv_if_le (tgt := 16) hx hb dX7_oneNan_9 (by decide) (fun c1 => ?_) (fun c1 => ?_)
  · refine lv_iconst (v := 0) hx hb dX7_oneNan_16 (by decide) ?_
    refine lv_istore_n (lv' := [(2, .int 0), (0, .long v)]) hx hb dX7_oneNan_17 rfl hl (by decide) rfl (fun ls hl => ?_)
    refine lv_iload_n hx hb dX7_oneNan_18 rfl (lv_at hl 0 rfl) ?_
    refine lv_if_eq (tgt := 28) hx hb dX7_oneNan_19 (by decide) (fun c2 => ?_) (fun c2 => ?_)
    rotate_left
    · exact absurd c2 (by decide)
    refine lv_lload_n hx hb dX7_oneNan_28 rfl (lv_at hl 1 rfl) ?_
    exact z_lret C hr hz hS (fun b e hb => hb) (Nat.le_of_ble_eq_true rfl) (Nat.le_of_ble_eq_true rfl) dX7_oneNan_29
  · refine lv_iconst (v := 1) hx hb dX7_oneNan_12 (by decide) ?_
    refine lv_goto (tgt := 17) hx hb dX7_oneNan_13 (by decide) ?_
    refine lv_istore_n (lv' := [(2, .int 1), (0, .long v)]) hx hb dX7_oneNan_17 rfl hl (by decide) rfl (fun ls hl => ?_)
    refine lv_iload_n hx hb dX7_oneNan_18 rfl (lv_at hl 0 rfl) ?_
    refine lv_if_eq (tgt := 28) hx hb dX7_oneNan_19 (by decide) (fun c3 => ?_) (fun c3 => ?_)
    · exact absurd c3 (by decide)
    refine lv_ldc2 (v := 9221120237041090560) hx hb C.2.2.2.1 (C.2.2.2.2.1 _ mKX7_273) dX7_oneNan_22 ?_
    refine lv_goto (tgt := 29) hx hb dX7_oneNan_25 (by decide) ?_
    exact z_lret C hr hz hS (fun b e hb => hb) (Nat.le_of_ble_eq_true rfl) (Nat.le_of_ble_eq_true rfl) dX7_oneNan_29
abbrev rmX7_lengthOf : Room := { frames := 0, cells := 0, slots := 0, locals := 0 }
set_option maxHeartbeats 4000000 in
set_option maxRecDepth 100000 in
theorem k_X7_lengthOf (l : Launch) (D : va_G) (cy : Nat → ClassId) (f : zM) (x : Int32) (y : Int32)    : zCl l D cy yX7_lengthOf cX7_lengthOf 2 (Option.some Jvm.ClassFile.FieldType.long) rmX7_lengthOf [.int x, .int y] f (fun (r : Int64) (f1 : zM) => (∀ (b : Nat) (e : va_E), f b = some e → f1 b = some e)) := by
  intro sz
  refine z_body (by decide +kernel) (Nat.le_of_ble_eq_true rfl) ?_
  intro p e s m below meth c ls C hr hin hsz hz hl
  subst hsz
  have hx := C.1
  have hb := C.2.1
  have hA : ∀ q, s.heap.size ≤ q → zA f s.heap.size q := fun q h => Or.inr h
  have hS : va_S (zA f s.heap.size) s.heap s.heap [] := va_S.rf
  have hl : lv_has ls 2 [(0, .int x), (1, .int y)] := hl
  refine lv_iload_n hx hb dX7_lengthOf_0 rfl (lv_at hl 1 rfl) ?_
  refine lv_i2l (v := y.toInt64) hx hb dX7_lengthOf_1 rfl ?_
  refine lv_iload_n hx hb dX7_lengthOf_2 rfl (lv_at hl 0 rfl) ?_
  refine lv_i2l (v := x.toInt64) hx hb dX7_lengthOf_3 rfl ?_
  refine lv_lsub hx hb dX7_lengthOf_4 ?_
  refine lv_lconst (v := 1) hx hb dX7_lengthOf_5 (by decide) ?_
  refine lv_ladd hx hb dX7_lengthOf_6 ?_
  exact z_lret C hr hz hS (fun b e hb => hb) (Nat.le_of_ble_eq_true rfl) (Nat.le_of_ble_eq_true rfl) dX7_lengthOf_7
abbrev rmX7_point : Room := { frames := 6, cells := 2, slots := 9, locals := 140 }
set_option maxHeartbeats 4000000 in
set_option maxRecDepth 100000 in
theorem k_X7_point (l : Launch) (D : va_G) (cy : Nat → ClassId) (f : zM) (o : Nat) (fa : Nat) (fi : Nat) (nu : Nat) (fm : Nat) (co : Nat) (en : Nat) (ke : Nat) (ev : Nat) (al : Nat) (ra : Nat) (kn : Nat) (vq : Nat) (ge : Nat → Option Nat) (ea : Nat → Nat) (ma : Nat → Nat) (u1 : Int32) (u2 : Int32) (u3 : Int32) (gv : Nat → Int32) (nl : Nat) (gu : Nat → Int32) (nn : Nat) (ga : Nat → Option Nat) (gr : Nat → Option Nat) (fg : Nat → Nat) (pt : Nat → Nat) (kd : Nat → Int32) (ln : Nat → Nat) (pp : Nat → Nat → Int64) (wg : Nat → Int64) (wd : Nat → Int32) (hs : Nat → Int32) (bf : Nat → Int32) (nf : Nat) (gf : Nat → Option Nat) (fq : Nat → Nat) (fk : Nat → Nat) (fz : Nat → Nat) (fc : Nat → Nat → Int32) (nc : Nat) (gc : Nat → Option Nat) (cn : Nat → Nat) (ce : Nat → Int32) (cm : Nat → Int32) (sq : Nat → Nat) (mb : Nat → Nat → Int32) (ks : Nat) (kk : Nat → Int32) (kv : Nat → Int32) (lk : Int64) (x : Int64) (y : Int64)    (hI : zIX cy f o fa fi nu fm co en ke ev al ra kn vq ge ea ma u1 u2 u3 gv nl gu nn ga gr fg pt kd ln pp wg wd hs bf nf gf fq fk fz fc nc gc cn ce cm sq mb ks kk kv lk) : zCi l D cy yX7_point cX7_point 5 (Option.some Jvm.ClassFile.FieldType.int) rmX7_point [.ref o, .long x, .long y] f (fun (r : Int32) (f1 : zM) => ∃ (u11 : Int32) (u21 : Int32) (u31 : Int32) (gv1 : Nat → Int32) (nl1 : Nat) (gu1 : Nat → Int32) (nn1 : Nat) (ga1 : Nat → Option Nat) (gr1 : Nat → Option Nat) (fg1 : Nat → Nat) (pt1 : Nat → Nat) (kd1 : Nat → Int32) (ln1 : Nat → Nat) (pp1 : Nat → Nat → Int64) (wg1 : Nat → Int64) (wd1 : Nat → Int32) (hs1 : Nat → Int32) (bf1 : Nat → Int32) (nf1 : Nat) (gf1 : Nat → Option Nat) (fq1 : Nat → Nat) (fk1 : Nat → Nat) (fz1 : Nat → Nat) (fc1 : Nat → Nat → Int32) (nc1 : Nat) (gc1 : Nat → Option Nat) (cn1 : Nat → Nat) (ce1 : Nat → Int32) (cm1 : Nat → Int32) (sq1 : Nat → Nat) (mb1 : Nat → Nat → Int32) (ks1 : Nat) (kk1 : Nat → Int32) (kv1 : Nat → Int32) (lk1 : Int64), r = (if nn < 60 then nI nn else (-3)) ∧ (nl1 = nl) ∧ (nn1 = if 0 ≤ r then nn + 1 else nn) ∧ zIX cy f1 o fa fi nu fm co en ke ev al ra kn vq ge ea ma u11 u21 u31 gv1 nl1 gu1 nn1 ga1 gr1 fg1 pt1 kd1 ln1 pp1 wg1 wd1 hs1 bf1 nf1 gf1 fq1 fk1 fz1 fc1 nc1 gc1 cn1 ce1 cm1 sq1 mb1 ks1 kk1 kv1 lk1) := by
  intro sz
  refine z_body (by decide +kernel) (Nat.le_of_ble_eq_true rfl) ?_
  intro p e s m below meth c ls C hr hin hsz hz hl
  subst hsz
  have hx := C.1
  have hb := C.2.1
  have hA : ∀ q, s.heap.size ≤ q → zA f s.heap.size q := fun q h => Or.inr h
  have hS : va_S (zA f s.heap.size) s.heap s.heap [] := va_S.rf
  have hl : lv_has ls 5 [(0, .ref o), (1, .long x), (3, .long y)] := hl
  obtain ⟨x_o, x_fa, x_ev, x_fi, x_al, x_ra, x_nu, x_fm, x_co, x_en, x_ke, x_kn, x_vq, hF, hP, hFq, hFk, hCn, hEa, hMa, hn60, hl12, hf6, hc60, hs40, hga, hgr, hln, hk5, hk4, hfi, hpi, har, hgf, hfz, hgc, hG, hsq, hei, hmi, kne, hca, hcr, hlk⟩ := id hI
  refine lv_aload_n hx hb dX7_point_0 rfl (lv_at hl 0 rfl) ?_
  refine z_get (v := .ref fa) C hz x_o zl7 mFX7_10 (by decide) rfl dX7_point_1 ?_
  refine z_callVv (As := []) C hz hS hA hl (k_X2_none l D cy f fa u1 u2 u3 ev x_fa ) zyX2_none mMX7_76 x_fa zl2 rfl rfl (Nat.le_of_ble_eq_true rfl) ⟨Nat.le_of_ble_eq_true rfl, Nat.le_of_ble_eq_true rfl⟩ ⟨Nat.le_of_ble_eq_true rfl, Nat.le_of_ble_eq_true rfl⟩ dX7_point_4 (fun  f1 H locs h2 hz hS => ?_)
  obtain ⟨a3, k4⟩ := h2
  refine lv_aload_n hx hb dX7_point_7 rfl (lv_at hl 0 rfl) ?_
  have a5 : f1 o = some (.inr (7, [.ref fa, .ref fi, .ref nu, .int (nI nl), .ref fm, .int (nI nf), .ref co, .int (nI nc), .ref en, .ref ke, .long lk])) := k4 _ _ x_o (z_ne x_o x_fa rfl)
  refine z_get (v := .ref fi) C hz a5 zl7 mFX7_19 (by decide) rfl dX7_point_8 ?_
  by_cases h60 : nn < 60
  · have a6 : f1 fi = some (.inr (5, [.ref al, .ref ra, .int (nI nn)])) := k4 _ _ x_fi (z_ne x_fi x_fa rfl)
    refine z_callVi (As := []) C hz hS hA hl (k_X5_isFull_A l D cy f1 fi al ra nn a6 hn60 h60) zyX5_isFull mMX7_79 a6 zl5 rfl rfl (Nat.le_of_ble_eq_true rfl) ⟨Nat.le_of_ble_eq_true rfl, Nat.le_of_ble_eq_true rfl⟩ ⟨Nat.le_of_ble_eq_true rfl, Nat.le_of_ble_eq_true rfl⟩ dX7_point_11 (fun r f7 H locs h8 hz hS => ?_)
    obtain ⟨rfl, k9⟩ := h8
    refine lv_if_eq (tgt := 20) hx hb dX7_point_14 (by decide) (fun c10 => ?_) (fun c10 => ?_)
    rotate_left
    · exact absurd c10 (by decide)
    refine lv_aload_n hx hb dX7_point_20 rfl (lv_at hl 0 rfl) ?_
    have a11 : f7 o = some (.inr (7, [.ref fa, .ref fi, .ref nu, .int (nI nl), .ref fm, .int (nI nf), .ref co, .int (nI nc), .ref en, .ref ke, .long lk])) := k9 _ _ a5 
    refine z_get (v := .ref fi) C hz a11 zl7 mFX7_19 (by decide) rfl dX7_point_21 ?_
    refine z_new (fs := [.int 0, .null, .long 0, .int 0, .int 0, .int 0, .int 0]) C hz hS hA zl4 mLX7_83 mIa_RX4 mIn_RX4 (by decide +kernel) (Nat.le_of_ble_eq_true rfl) (Nat.le_of_ble_eq_true rfl) dX7_point_24 (fun q12 H f14 u13 a15 k16 hz hS => ?_)
    refine lv_dup hx hb dX7_point_27 rfl ?_
    refine lv_iconst (v := 0) hx hb dX7_point_28 (by decide) ?_
    refine lv_iconst (v := 2) hx hb dX7_point_29 (by decide) ?_
    refine z_newa (atype := .long) (t0 := 1) (N' := 2) (x := (.inr (.inl (fun _ => 0)))) C hz hS hA rfl mA_long rfl (fun _ => rfl) (by decide) (Nat.le_of_ble_eq_true rfl) (by decide) (Nat.le_of_ble_eq_true rfl) (Nat.le_of_ble_eq_true rfl) dX7_point_30 (fun q17 H f19 u18 a20 k21 hz hS => ?_)
    refine lv_dup hx hb dX7_point_32 rfl ?_
    refine lv_iconst (v := 0) hx hb dX7_point_33 (by decide) ?_
    refine lv_lload_n hx hb dX7_point_34 rfl (lv_at hl 1 rfl) ?_
    refine z_callSl (As := [.long x]) C hz hS hA hl (k_X7_oneNan l D cy f19 x  ) zyX7_oneNan mMX7_85 rfl rfl (Nat.le_of_ble_eq_true rfl) ⟨Nat.le_of_ble_eq_true rfl, Nat.le_of_ble_eq_true rfl⟩ ⟨Nat.le_of_ble_eq_true rfl, Nat.le_of_ble_eq_true rfl⟩ dX7_point_35 (fun r24 f22 H locs h23 hz hS => ?_)
    have k25 := h23
    have a26 : f22 q17 = some (.inl (cy 1, 2, .inr (.inl (fun _ => 0)))) := k25 _ _ a20 
    refine z_last 0 C hz hS a26 (by decide) (Nat.le_of_ble_eq_true rfl) (by omega) dX7_point_38 (fun H locs f27 a28 k29 hz hS => ?_)
    refine lv_dup hx hb dX7_point_39 rfl ?_
    refine lv_iconst (v := 1) hx hb dX7_point_40 (by decide) ?_
    refine lv_lload_n hx hb dX7_point_41 rfl (lv_at hl 2 rfl) ?_
    refine z_callSl (As := [.long y]) C hz hS hA hl (k_X7_oneNan l D cy f27 y  ) zyX7_oneNan mMX7_85 rfl rfl (Nat.le_of_ble_eq_true rfl) ⟨Nat.le_of_ble_eq_true rfl, Nat.le_of_ble_eq_true rfl⟩ ⟨Nat.le_of_ble_eq_true rfl, Nat.le_of_ble_eq_true rfl⟩ dX7_point_42 (fun r32 f30 H locs h31 hz hS => ?_)
    have k33 := h31
    have a34 : f30 q17 = some (.inl (cy 1, 2, .inr (.inl (vp_updL (fun _ => 0) 0 r24)))) := k33 _ _ a28 
    refine z_last 1 C hz hS a34 (by decide) (Nat.le_of_ble_eq_true rfl) (by omega) dX7_point_45 (fun H locs f35 a36 k37 hz hS => ?_)
    refine lv_lconst (v := 1) hx hb dX7_point_46 (by decide) ?_
    have a38 : f19 q12 = some (.inr (4, [.int 0, .null, .long 0, .int 0, .int 0, .int 0, .int 0])) := (k21 _ (z_nn u18 a15)).trans a15
    have a39 : f22 q12 = some (.inr (4, [.int 0, .null, .long 0, .int 0, .int 0, .int 0, .int 0])) := k25 _ _ a38 
    have a40 : f27 q12 = some (.inr (4, [.int 0, .null, .long 0, .int 0, .int 0, .int 0, .int 0])) := (k29 _ (z_nn u18 a15)).trans a39
    have a41 : f30 q12 = some (.inr (4, [.int 0, .null, .long 0, .int 0, .int 0, .int 0, .int 0])) := k33 _ _ a40 
    have a42 : f35 q12 = some (.inr (4, [.int 0, .null, .long 0, .int 0, .int 0, .int 0, .int 0])) := (k37 _ (z_nn u18 a15)).trans a41
    refine z_callIv (ret := none) (As := [.int 0, .ref q17, .long 1]) C hz hS hA hl (k_X4_init l D cy f35 q12 0 q17 1 a42 ) zyX4_init mMX7_89 rfl rfl (Nat.le_of_ble_eq_true rfl) ⟨Nat.le_of_ble_eq_true rfl, Nat.le_of_ble_eq_true rfl⟩ ⟨Nat.le_of_ble_eq_true rfl, Nat.le_of_ble_eq_true rfl⟩ dX7_point_47 (fun  f43 H locs h44 hz hS => ?_)
    obtain ⟨a45, k46⟩ := h44
    have a47 : f7 fi = some (.inr (5, [.ref al, .ref ra, .int (nI nn)])) := k9 _ _ a6 
    have a48 : f14 fi = some (.inr (5, [.ref al, .ref ra, .int (nI nn)])) := (k16 _ (z_nn u13 a47)).trans a47
    have a49 : f19 fi = some (.inr (5, [.ref al, .ref ra, .int (nI nn)])) := (k21 _ (z_nn u18 a48)).trans a48
    have a50 : f22 fi = some (.inr (5, [.ref al, .ref ra, .int (nI nn)])) := k25 _ _ a49 
    have a51 : f27 fi = some (.inr (5, [.ref al, .ref ra, .int (nI nn)])) := (k29 _ (z_nn u18 a48)).trans a50
    have a52 : f30 fi = some (.inr (5, [.ref al, .ref ra, .int (nI nn)])) := k33 _ _ a51 
    have a53 : f35 fi = some (.inr (5, [.ref al, .ref ra, .int (nI nn)])) := (k37 _ (z_nn u18 a48)).trans a52
    have a54 : f43 fi = some (.inr (5, [.ref al, .ref ra, .int (nI nn)])) := k46 _ _ a53 (z_nn u13 a47)
    have a55 : f1 al = some (.inl (cy 3, 60, .inr (.inr (.inr (.inr ga))))) := k4 _ _ x_al (z_ne x_al x_fa rfl)
    have a56 : f7 al = some (.inl (cy 3, 60, .inr (.inr (.inr (.inr ga))))) := k9 _ _ a55 
    have a57 : f14 al = some (.inl (cy 3, 60, .inr (.inr (.inr (.inr ga))))) := (k16 _ (z_nn u13 a56)).trans a56
    have a58 : f19 al = some (.inl (cy 3, 60, .inr (.inr (.inr (.inr ga))))) := (k21 _ (z_nn u18 a57)).trans a57
    have a59 : f22 al = some (.inl (cy 3, 60, .inr (.inr (.inr (.inr ga))))) := k25 _ _ a58 
    have a60 : f27 al = some (.inl (cy 3, 60, .inr (.inr (.inr (.inr ga))))) := (k29 _ (z_nn u18 a57)).trans a59
    have a61 : f30 al = some (.inl (cy 3, 60, .inr (.inr (.inr (.inr ga))))) := k33 _ _ a60 
    have a62 : f35 al = some (.inl (cy 3, 60, .inr (.inr (.inr (.inr ga))))) := (k37 _ (z_nn u18 a57)).trans a61
    have a63 : f43 al = some (.inl (cy 3, 60, .inr (.inr (.inr (.inr ga))))) := k46 _ _ a62 (z_nn u13 a56)
    have a64 : f1 ra = some (.inl (cy 3, 60, .inr (.inr (.inr (.inr gr))))) := k4 _ _ x_ra (z_ne x_ra x_fa rfl)
    have a65 : f7 ra = some (.inl (cy 3, 60, .inr (.inr (.inr (.inr gr))))) := k9 _ _ a64 
    have a66 : f14 ra = some (.inl (cy 3, 60, .inr (.inr (.inr (.inr gr))))) := (k16 _ (z_nn u13 a65)).trans a65
    have a67 : f19 ra = some (.inl (cy 3, 60, .inr (.inr (.inr (.inr gr))))) := (k21 _ (z_nn u18 a66)).trans a66
    have a68 : f22 ra = some (.inl (cy 3, 60, .inr (.inr (.inr (.inr gr))))) := k25 _ _ a67 
    have a69 : f27 ra = some (.inl (cy 3, 60, .inr (.inr (.inr (.inr gr))))) := (k29 _ (z_nn u18 a66)).trans a68
    have a70 : f30 ra = some (.inl (cy 3, 60, .inr (.inr (.inr (.inr gr))))) := k33 _ _ a69 
    have a71 : f35 ra = some (.inl (cy 3, 60, .inr (.inr (.inr (.inr gr))))) := (k37 _ (z_nn u18 a66)).trans a70
    have a72 : f43 ra = some (.inl (cy 3, 60, .inr (.inr (.inr (.inr gr))))) := k46 _ _ a71 (z_nn u13 a65)
    have a73 : f43 q17 = some (.inl (cy 1, 2, .inr (.inl (vp_updL (vp_updL (fun _ => 0) 0 r24) 1 r32)))) := k46 _ _ a36 (Ne.symm (z_nn u18 a15))
    have F74 : ∀ i9 : Nat, i9 < nn → f1 (fg i9) = some (.inr (4, [.int (kd i9), .ref (pt i9), .long (wg i9), .int (wd i9), .int (nI i9), .int (hs i9), .int (bf i9)])) := fun i9 h9 => k4 _ _ (hF i9 h9) (z_ne (hF i9 h9) x_fa rfl)
    have F75 : ∀ i9 : Nat, i9 < nn → f7 (fg i9) = some (.inr (4, [.int (kd i9), .ref (pt i9), .long (wg i9), .int (wd i9), .int (nI i9), .int (hs i9), .int (bf i9)])) := fun i9 h9 => k9 _ _ (F74 i9 h9) 
    have F76 : ∀ i9 : Nat, i9 < nn → f14 (fg i9) = some (.inr (4, [.int (kd i9), .ref (pt i9), .long (wg i9), .int (wd i9), .int (nI i9), .int (hs i9), .int (bf i9)])) := fun i9 h9 => (k16 _ (z_nn u13 (F75 i9 h9))).trans (F75 i9 h9)
    have F77 : ∀ i9 : Nat, i9 < nn → f19 (fg i9) = some (.inr (4, [.int (kd i9), .ref (pt i9), .long (wg i9), .int (wd i9), .int (nI i9), .int (hs i9), .int (bf i9)])) := fun i9 h9 => (k21 _ (z_nn u18 (F76 i9 h9))).trans (F76 i9 h9)
    have F78 : ∀ i9 : Nat, i9 < nn → f22 (fg i9) = some (.inr (4, [.int (kd i9), .ref (pt i9), .long (wg i9), .int (wd i9), .int (nI i9), .int (hs i9), .int (bf i9)])) := fun i9 h9 => k25 _ _ (F77 i9 h9) 
    have F79 : ∀ i9 : Nat, i9 < nn → f27 (fg i9) = some (.inr (4, [.int (kd i9), .ref (pt i9), .long (wg i9), .int (wd i9), .int (nI i9), .int (hs i9), .int (bf i9)])) := fun i9 h9 => (k29 _ (z_nn u18 (F76 i9 h9))).trans (F78 i9 h9)
    have F80 : ∀ i9 : Nat, i9 < nn → f30 (fg i9) = some (.inr (4, [.int (kd i9), .ref (pt i9), .long (wg i9), .int (wd i9), .int (nI i9), .int (hs i9), .int (bf i9)])) := fun i9 h9 => k33 _ _ (F79 i9 h9) 
    have F81 : ∀ i9 : Nat, i9 < nn → f35 (fg i9) = some (.inr (4, [.int (kd i9), .ref (pt i9), .long (wg i9), .int (wd i9), .int (nI i9), .int (hs i9), .int (bf i9)])) := fun i9 h9 => (k37 _ (z_nn u18 (F76 i9 h9))).trans (F80 i9 h9)
    have F82 : ∀ i9 : Nat, i9 < nn → f43 (fg i9) = some (.inr (4, [.int (kd i9), .ref (pt i9), .long (wg i9), .int (wd i9), .int (nI i9), .int (hs i9), .int (bf i9)])) := fun i9 h9 => k46 _ _ (F81 i9 h9) (z_nn u13 (F75 i9 h9))
    have F83 : ∀ i9 : Nat, i9 < nn → f1 (pt i9) = some (.inl (cy 1, (ln i9), .inr (.inl (pp i9)))) := fun i9 h9 => k4 _ _ (hP i9 h9) (z_neO (hP i9 h9) x_fa rfl)
    have F84 : ∀ i9 : Nat, i9 < nn → f7 (pt i9) = some (.inl (cy 1, (ln i9), .inr (.inl (pp i9)))) := fun i9 h9 => k9 _ _ (F83 i9 h9) 
    have F85 : ∀ i9 : Nat, i9 < nn → f14 (pt i9) = some (.inl (cy 1, (ln i9), .inr (.inl (pp i9)))) := fun i9 h9 => (k16 _ (z_nn u13 (F84 i9 h9))).trans (F84 i9 h9)
    have F86 : ∀ i9 : Nat, i9 < nn → f19 (pt i9) = some (.inl (cy 1, (ln i9), .inr (.inl (pp i9)))) := fun i9 h9 => (k21 _ (z_nn u18 (F85 i9 h9))).trans (F85 i9 h9)
    have F87 : ∀ i9 : Nat, i9 < nn → f22 (pt i9) = some (.inl (cy 1, (ln i9), .inr (.inl (pp i9)))) := fun i9 h9 => k25 _ _ (F86 i9 h9) 
    have F88 : ∀ i9 : Nat, i9 < nn → f27 (pt i9) = some (.inl (cy 1, (ln i9), .inr (.inl (pp i9)))) := fun i9 h9 => (k29 _ (z_nn u18 (F85 i9 h9))).trans (F87 i9 h9)
    have F89 : ∀ i9 : Nat, i9 < nn → f30 (pt i9) = some (.inl (cy 1, (ln i9), .inr (.inl (pp i9)))) := fun i9 h9 => k33 _ _ (F88 i9 h9) 
    have F90 : ∀ i9 : Nat, i9 < nn → f35 (pt i9) = some (.inl (cy 1, (ln i9), .inr (.inl (pp i9)))) := fun i9 h9 => (k37 _ (z_nn u18 (F85 i9 h9))).trans (F89 i9 h9)
    have F91 : ∀ i9 : Nat, i9 < nn → f43 (pt i9) = some (.inl (cy 1, (ln i9), .inr (.inl (pp i9)))) := fun i9 h9 => k46 _ _ (F90 i9 h9) (z_nn u13 (F84 i9 h9))
    refine z_callVi (As := [.ref q12]) C hz hS hA hl (k_X5_add l D cy f43 fi al ra ga gr nn fg pt kd ln pp wg wd hs bf q12 0 q17 1 0 (-1) 0 0 2 (vp_updL (vp_updL (fun _ => 0) 0 r24) 1 r32) a54 a63 a72 a45 a73 F82 F91 h60 hga hgr hln hk5 hfi (fun j9 h9 => z_nn u13 (F75 j9 h9)) (by omega) (fun h9 => absurd h9 (by decide)) har) zyX5_add mMX7_92 a54 zl5 rfl rfl (Nat.le_of_ble_eq_true rfl) ⟨Nat.le_of_ble_eq_true rfl, Nat.le_of_ble_eq_true rfl⟩ ⟨Nat.le_of_ble_eq_true rfl, Nat.le_of_ble_eq_true rfl⟩ dX7_point_50 (fun r f92 H locs h93 hz hS => ?_)
    obtain ⟨hq_94, bq_95, gr_96, bf_97, rfl, p98, a99, a100, a101, F102, F103, k104⟩ := h93
    have a105 : f14 o = some (.inr (7, [.ref fa, .ref fi, .ref nu, .int (nI nl), .ref fm, .int (nI nf), .ref co, .int (nI nc), .ref en, .ref ke, .long lk])) := (k16 _ (z_nn u13 a11)).trans a11
    have a106 : f19 o = some (.inr (7, [.ref fa, .ref fi, .ref nu, .int (nI nl), .ref fm, .int (nI nf), .ref co, .int (nI nc), .ref en, .ref ke, .long lk])) := (k21 _ (z_nn u18 a105)).trans a105
    have a107 : f22 o = some (.inr (7, [.ref fa, .ref fi, .ref nu, .int (nI nl), .ref fm, .int (nI nf), .ref co, .int (nI nc), .ref en, .ref ke, .long lk])) := k25 _ _ a106 
    have a108 : f27 o = some (.inr (7, [.ref fa, .ref fi, .ref nu, .int (nI nl), .ref fm, .int (nI nf), .ref co, .int (nI nc), .ref en, .ref ke, .long lk])) := (k29 _ (z_nn u18 a105)).trans a107
    have a109 : f30 o = some (.inr (7, [.ref fa, .ref fi, .ref nu, .int (nI nl), .ref fm, .int (nI nf), .ref co, .int (nI nc), .ref en, .ref ke, .long lk])) := k33 _ _ a108 
    have a110 : f35 o = some (.inr (7, [.ref fa, .ref fi, .ref nu, .int (nI nl), .ref fm, .int (nI nf), .ref co, .int (nI nc), .ref en, .ref ke, .long lk])) := (k37 _ (z_nn u18 a105)).trans a109
    have a111 : f43 o = some (.inr (7, [.ref fa, .ref fi, .ref nu, .int (nI nl), .ref fm, .int (nI nf), .ref co, .int (nI nc), .ref en, .ref ke, .long lk])) := k46 _ _ a110 (z_nn u13 a11)
    have a112 : f92 o = some (.inr (7, [.ref fa, .ref fi, .ref nu, .int (nI nl), .ref fm, .int (nI nf), .ref co, .int (nI nc), .ref en, .ref ke, .long lk])) := k104 _ _ a111 (z_ne a111 a54 rfl) (z_ne a111 a63 rfl) (z_ne a111 a72 rfl) (z_nn u13 a11) (fun j9 h8 => (z_ne a111 (F82 j9 h8) rfl))
    have a113 : f7 fa = some (.inr (2, [.int 0, .int (-1), .int 0, .ref ev])) := k9 _ _ a3 
    have a114 : f14 fa = some (.inr (2, [.int 0, .int (-1), .int 0, .ref ev])) := (k16 _ (z_nn u13 a113)).trans a113
    have a115 : f19 fa = some (.inr (2, [.int 0, .int (-1), .int 0, .ref ev])) := (k21 _ (z_nn u18 a114)).trans a114
    have a116 : f22 fa = some (.inr (2, [.int 0, .int (-1), .int 0, .ref ev])) := k25 _ _ a115 
    have a117 : f27 fa = some (.inr (2, [.int 0, .int (-1), .int 0, .ref ev])) := (k29 _ (z_nn u18 a114)).trans a116
    have a118 : f30 fa = some (.inr (2, [.int 0, .int (-1), .int 0, .ref ev])) := k33 _ _ a117 
    have a119 : f35 fa = some (.inr (2, [.int 0, .int (-1), .int 0, .ref ev])) := (k37 _ (z_nn u18 a114)).trans a118
    have a120 : f43 fa = some (.inr (2, [.int 0, .int (-1), .int 0, .ref ev])) := k46 _ _ a119 (z_nn u13 a113)
    have a121 : f92 fa = some (.inr (2, [.int 0, .int (-1), .int 0, .ref ev])) := k104 _ _ a120 (z_ne a120 a54 rfl) (z_ne a120 a63 rfl) (z_ne a120 a72 rfl) (z_nn u13 a113) (fun j9 h8 => (z_ne a120 (F82 j9 h8) rfl))
    have a122 : f1 ev = some (.inl (cy 0, 8, .inl gv)) := k4 _ _ x_ev (z_ne x_ev x_fa rfl)
    have a123 : f7 ev = some (.inl (cy 0, 8, .inl gv)) := k9 _ _ a122 
    have a124 : f14 ev = some (.inl (cy 0, 8, .inl gv)) := (k16 _ (z_nn u13 a123)).trans a123
    have a125 : f19 ev = some (.inl (cy 0, 8, .inl gv)) := (k21 _ (z_nn u18 a124)).trans a124
    have a126 : f22 ev = some (.inl (cy 0, 8, .inl gv)) := k25 _ _ a125 
    have a127 : f27 ev = some (.inl (cy 0, 8, .inl gv)) := (k29 _ (z_nn u18 a124)).trans a126
    have a128 : f30 ev = some (.inl (cy 0, 8, .inl gv)) := k33 _ _ a127 
    have a129 : f35 ev = some (.inl (cy 0, 8, .inl gv)) := (k37 _ (z_nn u18 a124)).trans a128
    have a130 : f43 ev = some (.inl (cy 0, 8, .inl gv)) := k46 _ _ a129 (z_nn u13 a123)
    have a131 : f92 ev = some (.inl (cy 0, 8, .inl gv)) := k104 _ _ a130 (z_ne a130 a54 rfl) (z_ne a130 a63 rfl) (z_ne a130 a72 rfl) (z_nn u13 a123) (fun j9 h8 => (z_ne a130 (F82 j9 h8) rfl))
    have a132 : f1 nu = some (.inl (cy 0, 12, .inl gu)) := k4 _ _ x_nu (z_ne x_nu x_fa rfl)
    have a133 : f7 nu = some (.inl (cy 0, 12, .inl gu)) := k9 _ _ a132 
    have a134 : f14 nu = some (.inl (cy 0, 12, .inl gu)) := (k16 _ (z_nn u13 a133)).trans a133
    have a135 : f19 nu = some (.inl (cy 0, 12, .inl gu)) := (k21 _ (z_nn u18 a134)).trans a134
    have a136 : f22 nu = some (.inl (cy 0, 12, .inl gu)) := k25 _ _ a135 
    have a137 : f27 nu = some (.inl (cy 0, 12, .inl gu)) := (k29 _ (z_nn u18 a134)).trans a136
    have a138 : f30 nu = some (.inl (cy 0, 12, .inl gu)) := k33 _ _ a137 
    have a139 : f35 nu = some (.inl (cy 0, 12, .inl gu)) := (k37 _ (z_nn u18 a134)).trans a138
    have a140 : f43 nu = some (.inl (cy 0, 12, .inl gu)) := k46 _ _ a139 (z_nn u13 a133)
    have a141 : f92 nu = some (.inl (cy 0, 12, .inl gu)) := k104 _ _ a140 (z_ne a140 a54 rfl) (z_ne a140 a63 rfl) (z_ne a140 a72 rfl) (z_nn u13 a133) (fun j9 h8 => (z_ne a140 (F82 j9 h8) rfl))
    have a142 : f1 fm = some (.inl (cy 4, 6, .inr (.inr (.inr (.inr gf))))) := k4 _ _ x_fm (z_ne x_fm x_fa rfl)
    have a143 : f7 fm = some (.inl (cy 4, 6, .inr (.inr (.inr (.inr gf))))) := k9 _ _ a142 
    have a144 : f14 fm = some (.inl (cy 4, 6, .inr (.inr (.inr (.inr gf))))) := (k16 _ (z_nn u13 a143)).trans a143
    have a145 : f19 fm = some (.inl (cy 4, 6, .inr (.inr (.inr (.inr gf))))) := (k21 _ (z_nn u18 a144)).trans a144
    have a146 : f22 fm = some (.inl (cy 4, 6, .inr (.inr (.inr (.inr gf))))) := k25 _ _ a145 
    have a147 : f27 fm = some (.inl (cy 4, 6, .inr (.inr (.inr (.inr gf))))) := (k29 _ (z_nn u18 a144)).trans a146
    have a148 : f30 fm = some (.inl (cy 4, 6, .inr (.inr (.inr (.inr gf))))) := k33 _ _ a147 
    have a149 : f35 fm = some (.inl (cy 4, 6, .inr (.inr (.inr (.inr gf))))) := (k37 _ (z_nn u18 a144)).trans a148
    have a150 : f43 fm = some (.inl (cy 4, 6, .inr (.inr (.inr (.inr gf))))) := k46 _ _ a149 (z_nn u13 a143)
    have a151 : f92 fm = some (.inl (cy 4, 6, .inr (.inr (.inr (.inr gf))))) := k104 _ _ a150 (z_ne a150 a54 rfl) (z_ne a150 a63 rfl) (z_ne a150 a72 rfl) (z_nn u13 a143) (fun j9 h8 => (z_ne a150 (F82 j9 h8) rfl))
    have a152 : f1 co = some (.inl (cy 5, 60, .inr (.inr (.inr (.inr gc))))) := k4 _ _ x_co (z_ne x_co x_fa rfl)
    have a153 : f7 co = some (.inl (cy 5, 60, .inr (.inr (.inr (.inr gc))))) := k9 _ _ a152 
    have a154 : f14 co = some (.inl (cy 5, 60, .inr (.inr (.inr (.inr gc))))) := (k16 _ (z_nn u13 a153)).trans a153
    have a155 : f19 co = some (.inl (cy 5, 60, .inr (.inr (.inr (.inr gc))))) := (k21 _ (z_nn u18 a154)).trans a154
    have a156 : f22 co = some (.inl (cy 5, 60, .inr (.inr (.inr (.inr gc))))) := k25 _ _ a155 
    have a157 : f27 co = some (.inl (cy 5, 60, .inr (.inr (.inr (.inr gc))))) := (k29 _ (z_nn u18 a154)).trans a156
    have a158 : f30 co = some (.inl (cy 5, 60, .inr (.inr (.inr (.inr gc))))) := k33 _ _ a157 
    have a159 : f35 co = some (.inl (cy 5, 60, .inr (.inr (.inr (.inr gc))))) := (k37 _ (z_nn u18 a154)).trans a158
    have a160 : f43 co = some (.inl (cy 5, 60, .inr (.inr (.inr (.inr gc))))) := k46 _ _ a159 (z_nn u13 a153)
    have a161 : f92 co = some (.inl (cy 5, 60, .inr (.inr (.inr (.inr gc))))) := k104 _ _ a160 (z_ne a160 a54 rfl) hca hcr (z_nn u13 a153) (fun j9 h8 => (z_ne a160 (F82 j9 h8) rfl))
    have a162 : f1 en = some (.inl (cy 6, 4, .inr (.inr (.inr (.inr ge))))) := k4 _ _ x_en (z_ne x_en x_fa rfl)
    have a163 : f7 en = some (.inl (cy 6, 4, .inr (.inr (.inr (.inr ge))))) := k9 _ _ a162 
    have a164 : f14 en = some (.inl (cy 6, 4, .inr (.inr (.inr (.inr ge))))) := (k16 _ (z_nn u13 a163)).trans a163
    have a165 : f19 en = some (.inl (cy 6, 4, .inr (.inr (.inr (.inr ge))))) := (k21 _ (z_nn u18 a164)).trans a164
    have a166 : f22 en = some (.inl (cy 6, 4, .inr (.inr (.inr (.inr ge))))) := k25 _ _ a165 
    have a167 : f27 en = some (.inl (cy 6, 4, .inr (.inr (.inr (.inr ge))))) := (k29 _ (z_nn u18 a164)).trans a166
    have a168 : f30 en = some (.inl (cy 6, 4, .inr (.inr (.inr (.inr ge))))) := k33 _ _ a167 
    have a169 : f35 en = some (.inl (cy 6, 4, .inr (.inr (.inr (.inr ge))))) := (k37 _ (z_nn u18 a164)).trans a168
    have a170 : f43 en = some (.inl (cy 6, 4, .inr (.inr (.inr (.inr ge))))) := k46 _ _ a169 (z_nn u13 a163)
    have a171 : f92 en = some (.inl (cy 6, 4, .inr (.inr (.inr (.inr ge))))) := k104 _ _ a170 (z_ne a170 a54 rfl) (z_ne a170 a63 rfl) (z_ne a170 a72 rfl) (z_nn u13 a163) (fun j9 h8 => (z_ne a170 (F82 j9 h8) rfl))
    have a172 : f1 ke = some (.inr (6, [.ref kn, .ref vq, .int (nI ks)])) := k4 _ _ x_ke (z_ne x_ke x_fa rfl)
    have a173 : f7 ke = some (.inr (6, [.ref kn, .ref vq, .int (nI ks)])) := k9 _ _ a172 
    have a174 : f14 ke = some (.inr (6, [.ref kn, .ref vq, .int (nI ks)])) := (k16 _ (z_nn u13 a173)).trans a173
    have a175 : f19 ke = some (.inr (6, [.ref kn, .ref vq, .int (nI ks)])) := (k21 _ (z_nn u18 a174)).trans a174
    have a176 : f22 ke = some (.inr (6, [.ref kn, .ref vq, .int (nI ks)])) := k25 _ _ a175 
    have a177 : f27 ke = some (.inr (6, [.ref kn, .ref vq, .int (nI ks)])) := (k29 _ (z_nn u18 a174)).trans a176
    have a178 : f30 ke = some (.inr (6, [.ref kn, .ref vq, .int (nI ks)])) := k33 _ _ a177 
    have a179 : f35 ke = some (.inr (6, [.ref kn, .ref vq, .int (nI ks)])) := (k37 _ (z_nn u18 a174)).trans a178
    have a180 : f43 ke = some (.inr (6, [.ref kn, .ref vq, .int (nI ks)])) := k46 _ _ a179 (z_nn u13 a173)
    have a181 : f92 ke = some (.inr (6, [.ref kn, .ref vq, .int (nI ks)])) := k104 _ _ a180 (z_ne a180 a54 rfl) (z_ne a180 a63 rfl) (z_ne a180 a72 rfl) (z_nn u13 a173) (fun j9 h8 => (z_ne a180 (F82 j9 h8) rfl))
    have a182 : f1 kn = some (.inl (cy 0, 40, .inl kk)) := k4 _ _ x_kn (z_ne x_kn x_fa rfl)
    have a183 : f7 kn = some (.inl (cy 0, 40, .inl kk)) := k9 _ _ a182 
    have a184 : f14 kn = some (.inl (cy 0, 40, .inl kk)) := (k16 _ (z_nn u13 a183)).trans a183
    have a185 : f19 kn = some (.inl (cy 0, 40, .inl kk)) := (k21 _ (z_nn u18 a184)).trans a184
    have a186 : f22 kn = some (.inl (cy 0, 40, .inl kk)) := k25 _ _ a185 
    have a187 : f27 kn = some (.inl (cy 0, 40, .inl kk)) := (k29 _ (z_nn u18 a184)).trans a186
    have a188 : f30 kn = some (.inl (cy 0, 40, .inl kk)) := k33 _ _ a187 
    have a189 : f35 kn = some (.inl (cy 0, 40, .inl kk)) := (k37 _ (z_nn u18 a184)).trans a188
    have a190 : f43 kn = some (.inl (cy 0, 40, .inl kk)) := k46 _ _ a189 (z_nn u13 a183)
    have a191 : f92 kn = some (.inl (cy 0, 40, .inl kk)) := k104 _ _ a190 (z_ne a190 a54 rfl) (z_ne a190 a63 rfl) (z_ne a190 a72 rfl) (z_nn u13 a183) (fun j9 h8 => (z_ne a190 (F82 j9 h8) rfl))
    have a192 : f1 vq = some (.inl (cy 0, 40, .inl kv)) := k4 _ _ x_vq (z_ne x_vq x_fa rfl)
    have a193 : f7 vq = some (.inl (cy 0, 40, .inl kv)) := k9 _ _ a192 
    have a194 : f14 vq = some (.inl (cy 0, 40, .inl kv)) := (k16 _ (z_nn u13 a193)).trans a193
    have a195 : f19 vq = some (.inl (cy 0, 40, .inl kv)) := (k21 _ (z_nn u18 a194)).trans a194
    have a196 : f22 vq = some (.inl (cy 0, 40, .inl kv)) := k25 _ _ a195 
    have a197 : f27 vq = some (.inl (cy 0, 40, .inl kv)) := (k29 _ (z_nn u18 a194)).trans a196
    have a198 : f30 vq = some (.inl (cy 0, 40, .inl kv)) := k33 _ _ a197 
    have a199 : f35 vq = some (.inl (cy 0, 40, .inl kv)) := (k37 _ (z_nn u18 a194)).trans a198
    have a200 : f43 vq = some (.inl (cy 0, 40, .inl kv)) := k46 _ _ a199 (z_nn u13 a193)
    have a201 : f92 vq = some (.inl (cy 0, 40, .inl kv)) := k104 _ _ a200 (z_ne a200 a54 rfl) (z_ne a200 a63 rfl) (z_ne a200 a72 rfl) (z_nn u13 a193) (fun j9 h8 => (z_ne a200 (F82 j9 h8) rfl))
    have F202 : ∀ i9 : Nat, i9 < nf → f1 (fq i9) = some (.inr (3, [.ref (fk i9), .int (nI (fz i9))])) := fun i9 h9 => k4 _ _ (hFq i9 h9) (z_ne (hFq i9 h9) x_fa rfl)
    have F203 : ∀ i9 : Nat, i9 < nf → f7 (fq i9) = some (.inr (3, [.ref (fk i9), .int (nI (fz i9))])) := fun i9 h9 => k9 _ _ (F202 i9 h9) 
    have F204 : ∀ i9 : Nat, i9 < nf → f14 (fq i9) = some (.inr (3, [.ref (fk i9), .int (nI (fz i9))])) := fun i9 h9 => (k16 _ (z_nn u13 (F203 i9 h9))).trans (F203 i9 h9)
    have F205 : ∀ i9 : Nat, i9 < nf → f19 (fq i9) = some (.inr (3, [.ref (fk i9), .int (nI (fz i9))])) := fun i9 h9 => (k21 _ (z_nn u18 (F204 i9 h9))).trans (F204 i9 h9)
    have F206 : ∀ i9 : Nat, i9 < nf → f22 (fq i9) = some (.inr (3, [.ref (fk i9), .int (nI (fz i9))])) := fun i9 h9 => k25 _ _ (F205 i9 h9) 
    have F207 : ∀ i9 : Nat, i9 < nf → f27 (fq i9) = some (.inr (3, [.ref (fk i9), .int (nI (fz i9))])) := fun i9 h9 => (k29 _ (z_nn u18 (F204 i9 h9))).trans (F206 i9 h9)
    have F208 : ∀ i9 : Nat, i9 < nf → f30 (fq i9) = some (.inr (3, [.ref (fk i9), .int (nI (fz i9))])) := fun i9 h9 => k33 _ _ (F207 i9 h9) 
    have F209 : ∀ i9 : Nat, i9 < nf → f35 (fq i9) = some (.inr (3, [.ref (fk i9), .int (nI (fz i9))])) := fun i9 h9 => (k37 _ (z_nn u18 (F204 i9 h9))).trans (F208 i9 h9)
    have F210 : ∀ i9 : Nat, i9 < nf → f43 (fq i9) = some (.inr (3, [.ref (fk i9), .int (nI (fz i9))])) := fun i9 h9 => k46 _ _ (F209 i9 h9) (z_nn u13 (F203 i9 h9))
    have F211 : ∀ i9 : Nat, i9 < nf → f92 (fq i9) = some (.inr (3, [.ref (fk i9), .int (nI (fz i9))])) := fun i9 h9 => k104 _ _ (F210 i9 h9) (z_ne (F210 i9 h9) a54 rfl) (z_ne (F210 i9 h9) a63 rfl) (z_ne (F210 i9 h9) a72 rfl) (z_nn u13 (F203 i9 h9)) (fun j9 h8 => (z_ne (F210 i9 h9) (F82 j9 h8) rfl))
    have F212 : ∀ i9 : Nat, i9 < nf → f1 (fk i9) = some (.inl (cy 0, 4, .inl (fc i9))) := fun i9 h9 => k4 _ _ (hFk i9 h9) (z_ne (hFk i9 h9) x_fa rfl)
    have F213 : ∀ i9 : Nat, i9 < nf → f7 (fk i9) = some (.inl (cy 0, 4, .inl (fc i9))) := fun i9 h9 => k9 _ _ (F212 i9 h9) 
    have F214 : ∀ i9 : Nat, i9 < nf → f14 (fk i9) = some (.inl (cy 0, 4, .inl (fc i9))) := fun i9 h9 => (k16 _ (z_nn u13 (F213 i9 h9))).trans (F213 i9 h9)
    have F215 : ∀ i9 : Nat, i9 < nf → f19 (fk i9) = some (.inl (cy 0, 4, .inl (fc i9))) := fun i9 h9 => (k21 _ (z_nn u18 (F214 i9 h9))).trans (F214 i9 h9)
    have F216 : ∀ i9 : Nat, i9 < nf → f22 (fk i9) = some (.inl (cy 0, 4, .inl (fc i9))) := fun i9 h9 => k25 _ _ (F215 i9 h9) 
    have F217 : ∀ i9 : Nat, i9 < nf → f27 (fk i9) = some (.inl (cy 0, 4, .inl (fc i9))) := fun i9 h9 => (k29 _ (z_nn u18 (F214 i9 h9))).trans (F216 i9 h9)
    have F218 : ∀ i9 : Nat, i9 < nf → f30 (fk i9) = some (.inl (cy 0, 4, .inl (fc i9))) := fun i9 h9 => k33 _ _ (F217 i9 h9) 
    have F219 : ∀ i9 : Nat, i9 < nf → f35 (fk i9) = some (.inl (cy 0, 4, .inl (fc i9))) := fun i9 h9 => (k37 _ (z_nn u18 (F214 i9 h9))).trans (F218 i9 h9)
    have F220 : ∀ i9 : Nat, i9 < nf → f43 (fk i9) = some (.inl (cy 0, 4, .inl (fc i9))) := fun i9 h9 => k46 _ _ (F219 i9 h9) (z_nn u13 (F213 i9 h9))
    have F221 : ∀ i9 : Nat, i9 < nf → f92 (fk i9) = some (.inl (cy 0, 4, .inl (fc i9))) := fun i9 h9 => k104 _ _ (F220 i9 h9) (z_ne (F220 i9 h9) a54 rfl) (z_ne (F220 i9 h9) a63 rfl) (z_ne (F220 i9 h9) a72 rfl) (z_nn u13 (F213 i9 h9)) (fun j9 h8 => (z_ne (F220 i9 h9) (F82 j9 h8) rfl))
    have F222 : ∀ i9 : Nat, i9 < nc → f1 (cn i9) = some (.inr (0, [.int (ce i9), .int (cm i9)])) := fun i9 h9 => k4 _ _ (hCn i9 h9) (z_ne (hCn i9 h9) x_fa rfl)
    have F223 : ∀ i9 : Nat, i9 < nc → f7 (cn i9) = some (.inr (0, [.int (ce i9), .int (cm i9)])) := fun i9 h9 => k9 _ _ (F222 i9 h9) 
    have F224 : ∀ i9 : Nat, i9 < nc → f14 (cn i9) = some (.inr (0, [.int (ce i9), .int (cm i9)])) := fun i9 h9 => (k16 _ (z_nn u13 (F223 i9 h9))).trans (F223 i9 h9)
    have F225 : ∀ i9 : Nat, i9 < nc → f19 (cn i9) = some (.inr (0, [.int (ce i9), .int (cm i9)])) := fun i9 h9 => (k21 _ (z_nn u18 (F224 i9 h9))).trans (F224 i9 h9)
    have F226 : ∀ i9 : Nat, i9 < nc → f22 (cn i9) = some (.inr (0, [.int (ce i9), .int (cm i9)])) := fun i9 h9 => k25 _ _ (F225 i9 h9) 
    have F227 : ∀ i9 : Nat, i9 < nc → f27 (cn i9) = some (.inr (0, [.int (ce i9), .int (cm i9)])) := fun i9 h9 => (k29 _ (z_nn u18 (F224 i9 h9))).trans (F226 i9 h9)
    have F228 : ∀ i9 : Nat, i9 < nc → f30 (cn i9) = some (.inr (0, [.int (ce i9), .int (cm i9)])) := fun i9 h9 => k33 _ _ (F227 i9 h9) 
    have F229 : ∀ i9 : Nat, i9 < nc → f35 (cn i9) = some (.inr (0, [.int (ce i9), .int (cm i9)])) := fun i9 h9 => (k37 _ (z_nn u18 (F224 i9 h9))).trans (F228 i9 h9)
    have F230 : ∀ i9 : Nat, i9 < nc → f43 (cn i9) = some (.inr (0, [.int (ce i9), .int (cm i9)])) := fun i9 h9 => k46 _ _ (F229 i9 h9) (z_nn u13 (F223 i9 h9))
    have F231 : ∀ i9 : Nat, i9 < nc → f92 (cn i9) = some (.inr (0, [.int (ce i9), .int (cm i9)])) := fun i9 h9 => k104 _ _ (F230 i9 h9) (z_ne (F230 i9 h9) a54 rfl) (z_ne (F230 i9 h9) a63 rfl) (z_ne (F230 i9 h9) a72 rfl) (z_nn u13 (F223 i9 h9)) (fun j9 h8 => (z_ne (F230 i9 h9) (F82 j9 h8) rfl))
    have F232 : ∀ i9 : Nat, i9 < 4 → f1 (ea i9) = some (.inr (1, [.ref (ma i9), .int (nI (sq i9))])) := fun i9 h9 => k4 _ _ (hEa i9 h9) (z_ne (hEa i9 h9) x_fa rfl)
    have F233 : ∀ i9 : Nat, i9 < 4 → f7 (ea i9) = some (.inr (1, [.ref (ma i9), .int (nI (sq i9))])) := fun i9 h9 => k9 _ _ (F232 i9 h9) 
    have F234 : ∀ i9 : Nat, i9 < 4 → f14 (ea i9) = some (.inr (1, [.ref (ma i9), .int (nI (sq i9))])) := fun i9 h9 => (k16 _ (z_nn u13 (F233 i9 h9))).trans (F233 i9 h9)
    have F235 : ∀ i9 : Nat, i9 < 4 → f19 (ea i9) = some (.inr (1, [.ref (ma i9), .int (nI (sq i9))])) := fun i9 h9 => (k21 _ (z_nn u18 (F234 i9 h9))).trans (F234 i9 h9)
    have F236 : ∀ i9 : Nat, i9 < 4 → f22 (ea i9) = some (.inr (1, [.ref (ma i9), .int (nI (sq i9))])) := fun i9 h9 => k25 _ _ (F235 i9 h9) 
    have F237 : ∀ i9 : Nat, i9 < 4 → f27 (ea i9) = some (.inr (1, [.ref (ma i9), .int (nI (sq i9))])) := fun i9 h9 => (k29 _ (z_nn u18 (F234 i9 h9))).trans (F236 i9 h9)
    have F238 : ∀ i9 : Nat, i9 < 4 → f30 (ea i9) = some (.inr (1, [.ref (ma i9), .int (nI (sq i9))])) := fun i9 h9 => k33 _ _ (F237 i9 h9) 
    have F239 : ∀ i9 : Nat, i9 < 4 → f35 (ea i9) = some (.inr (1, [.ref (ma i9), .int (nI (sq i9))])) := fun i9 h9 => (k37 _ (z_nn u18 (F234 i9 h9))).trans (F238 i9 h9)
    have F240 : ∀ i9 : Nat, i9 < 4 → f43 (ea i9) = some (.inr (1, [.ref (ma i9), .int (nI (sq i9))])) := fun i9 h9 => k46 _ _ (F239 i9 h9) (z_nn u13 (F233 i9 h9))
    have F241 : ∀ i9 : Nat, i9 < 4 → f92 (ea i9) = some (.inr (1, [.ref (ma i9), .int (nI (sq i9))])) := fun i9 h9 => k104 _ _ (F240 i9 h9) (z_ne (F240 i9 h9) a54 rfl) (z_ne (F240 i9 h9) a63 rfl) (z_ne (F240 i9 h9) a72 rfl) (z_nn u13 (F233 i9 h9)) (fun j9 h8 => (z_ne (F240 i9 h9) (F82 j9 h8) rfl))
    have F242 : ∀ i9 : Nat, i9 < 4 → f1 (ma i9) = some (.inl (cy 0, 60, .inl (mb i9))) := fun i9 h9 => k4 _ _ (hMa i9 h9) (z_ne (hMa i9 h9) x_fa rfl)
    have F243 : ∀ i9 : Nat, i9 < 4 → f7 (ma i9) = some (.inl (cy 0, 60, .inl (mb i9))) := fun i9 h9 => k9 _ _ (F242 i9 h9) 
    have F244 : ∀ i9 : Nat, i9 < 4 → f14 (ma i9) = some (.inl (cy 0, 60, .inl (mb i9))) := fun i9 h9 => (k16 _ (z_nn u13 (F243 i9 h9))).trans (F243 i9 h9)
    have F245 : ∀ i9 : Nat, i9 < 4 → f19 (ma i9) = some (.inl (cy 0, 60, .inl (mb i9))) := fun i9 h9 => (k21 _ (z_nn u18 (F244 i9 h9))).trans (F244 i9 h9)
    have F246 : ∀ i9 : Nat, i9 < 4 → f22 (ma i9) = some (.inl (cy 0, 60, .inl (mb i9))) := fun i9 h9 => k25 _ _ (F245 i9 h9) 
    have F247 : ∀ i9 : Nat, i9 < 4 → f27 (ma i9) = some (.inl (cy 0, 60, .inl (mb i9))) := fun i9 h9 => (k29 _ (z_nn u18 (F244 i9 h9))).trans (F246 i9 h9)
    have F248 : ∀ i9 : Nat, i9 < 4 → f30 (ma i9) = some (.inl (cy 0, 60, .inl (mb i9))) := fun i9 h9 => k33 _ _ (F247 i9 h9) 
    have F249 : ∀ i9 : Nat, i9 < 4 → f35 (ma i9) = some (.inl (cy 0, 60, .inl (mb i9))) := fun i9 h9 => (k37 _ (z_nn u18 (F244 i9 h9))).trans (F248 i9 h9)
    have F250 : ∀ i9 : Nat, i9 < 4 → f43 (ma i9) = some (.inl (cy 0, 60, .inl (mb i9))) := fun i9 h9 => k46 _ _ (F249 i9 h9) (z_nn u13 (F243 i9 h9))
    have F251 : ∀ i9 : Nat, i9 < 4 → f92 (ma i9) = some (.inl (cy 0, 60, .inl (mb i9))) := fun i9 h9 => k104 _ _ (F250 i9 h9) (z_ne (F250 i9 h9) a54 rfl) (z_ne (F250 i9 h9) a63 rfl) (z_ne (F250 i9 h9) a72 rfl) (z_nn u13 (F243 i9 h9)) (fun j9 h8 => (z_ne (F250 i9 h9) (F82 j9 h8) rfl))
    exact z_iret C hr rfl hz hS ⟨0, (-1), 0, gv, nl, gu, (nn + 1), (va_up ga nn (some q12)), gr_96, (va_up fg nn q12), (va_up pt nn q17), (va_up kd nn 0), (va_up ln nn 2), (va_up pp nn (vp_updL (vp_updL (fun _ => 0) 0 r24) 1 r32)), (va_up wg nn 1), (va_up wd nn 0), (va_up hs nn hq_94), (va_up bf_97 nn bq_95), nf, gf, fq, fk, fz, fc, nc, gc, cn, ce, cm, sq, mb, ks, kk, kv, lk, (by simp [h60, c10]), rfl, (by rw [if_pos (nI_pos' (by omega))]), ⟨a112, a121, a131, a99, a100, a101, a141, a151, a161, a171, a181, a191, a201, F102, F103, F211, F221, F231, F241, F251, (by omega), hl12, hf6, hc60, hs40, (z_ga1 hga), (z_gr1 p98), (z_up1 (P := fun _ a9 => a9 ≤ 15) hln (by omega)), (z_up2 (P := fun (a9 : Int32) (b9 : Nat) => a9 = 5 → 3 ≤ b9) hk5 (fun h9 => absurd h9 (by decide))), (z_up2 (P := fun (a9 : Int32) (b9 : Nat) => a9 = 4 → 2 ≤ b9) hk4 (fun h9 => absurd h9 (by decide))), (z_inj1 hfi (fun j9 h9 => z_nn u13 (F75 j9 h9))), (z_inj1 hpi (fun j9 h9 => z_nn u18 (F85 j9 h9))), har, hgf, hfz, hgc, hG, hsq, hei, hmi, kne, hca, hcr, hlk⟩⟩ (Nat.le_of_ble_eq_true rfl) (Nat.le_of_ble_eq_true rfl) dX7_point_53
  · have a252 : f1 fi = some (.inr (5, [.ref al, .ref ra, .int (nI nn)])) := k4 _ _ x_fi (z_ne x_fi x_fa rfl)
    refine z_callVi (As := []) C hz hS hA hl (k_X5_isFull_B l D cy f1 fi al ra nn a252 hn60 h60) zyX5_isFull mMX7_79 a252 zl5 rfl rfl (Nat.le_of_ble_eq_true rfl) ⟨Nat.le_of_ble_eq_true rfl, Nat.le_of_ble_eq_true rfl⟩ ⟨Nat.le_of_ble_eq_true rfl, Nat.le_of_ble_eq_true rfl⟩ dX7_point_11 (fun r f253 H locs h254 hz hS => ?_)
    obtain ⟨rfl, k255⟩ := h254
    refine lv_if_eq (tgt := 20) hx hb dX7_point_14 (by decide) (fun c256 => ?_) (fun c256 => ?_)
    · exact absurd c256 (by decide)
    refine lv_bipush (v := (-3)) hx hb dX7_point_17 (by decide) ?_
    have a257 : f253 o = some (.inr (7, [.ref fa, .ref fi, .ref nu, .int (nI nl), .ref fm, .int (nI nf), .ref co, .int (nI nc), .ref en, .ref ke, .long lk])) := k255 _ _ a5 
    have a258 : f253 fa = some (.inr (2, [.int 0, .int (-1), .int 0, .ref ev])) := k255 _ _ a3 
    have a259 : f1 ev = some (.inl (cy 0, 8, .inl gv)) := k4 _ _ x_ev (z_ne x_ev x_fa rfl)
    have a260 : f253 ev = some (.inl (cy 0, 8, .inl gv)) := k255 _ _ a259 
    have a261 : f253 fi = some (.inr (5, [.ref al, .ref ra, .int (nI nn)])) := k255 _ _ a252 
    have a262 : f1 al = some (.inl (cy 3, 60, .inr (.inr (.inr (.inr ga))))) := k4 _ _ x_al (z_ne x_al x_fa rfl)
    have a263 : f253 al = some (.inl (cy 3, 60, .inr (.inr (.inr (.inr ga))))) := k255 _ _ a262 
    have a264 : f1 ra = some (.inl (cy 3, 60, .inr (.inr (.inr (.inr gr))))) := k4 _ _ x_ra (z_ne x_ra x_fa rfl)
    have a265 : f253 ra = some (.inl (cy 3, 60, .inr (.inr (.inr (.inr gr))))) := k255 _ _ a264 
    have a266 : f1 nu = some (.inl (cy 0, 12, .inl gu)) := k4 _ _ x_nu (z_ne x_nu x_fa rfl)
    have a267 : f253 nu = some (.inl (cy 0, 12, .inl gu)) := k255 _ _ a266 
    have a268 : f1 fm = some (.inl (cy 4, 6, .inr (.inr (.inr (.inr gf))))) := k4 _ _ x_fm (z_ne x_fm x_fa rfl)
    have a269 : f253 fm = some (.inl (cy 4, 6, .inr (.inr (.inr (.inr gf))))) := k255 _ _ a268 
    have a270 : f1 co = some (.inl (cy 5, 60, .inr (.inr (.inr (.inr gc))))) := k4 _ _ x_co (z_ne x_co x_fa rfl)
    have a271 : f253 co = some (.inl (cy 5, 60, .inr (.inr (.inr (.inr gc))))) := k255 _ _ a270 
    have a272 : f1 en = some (.inl (cy 6, 4, .inr (.inr (.inr (.inr ge))))) := k4 _ _ x_en (z_ne x_en x_fa rfl)
    have a273 : f253 en = some (.inl (cy 6, 4, .inr (.inr (.inr (.inr ge))))) := k255 _ _ a272 
    have a274 : f1 ke = some (.inr (6, [.ref kn, .ref vq, .int (nI ks)])) := k4 _ _ x_ke (z_ne x_ke x_fa rfl)
    have a275 : f253 ke = some (.inr (6, [.ref kn, .ref vq, .int (nI ks)])) := k255 _ _ a274 
    have a276 : f1 kn = some (.inl (cy 0, 40, .inl kk)) := k4 _ _ x_kn (z_ne x_kn x_fa rfl)
    have a277 : f253 kn = some (.inl (cy 0, 40, .inl kk)) := k255 _ _ a276 
    have a278 : f1 vq = some (.inl (cy 0, 40, .inl kv)) := k4 _ _ x_vq (z_ne x_vq x_fa rfl)
    have a279 : f253 vq = some (.inl (cy 0, 40, .inl kv)) := k255 _ _ a278 
    have F280 : ∀ i9 : Nat, i9 < nn → f1 (fg i9) = some (.inr (4, [.int (kd i9), .ref (pt i9), .long (wg i9), .int (wd i9), .int (nI i9), .int (hs i9), .int (bf i9)])) := fun i9 h9 => k4 _ _ (hF i9 h9) (z_ne (hF i9 h9) x_fa rfl)
    have F281 : ∀ i9 : Nat, i9 < nn → f253 (fg i9) = some (.inr (4, [.int (kd i9), .ref (pt i9), .long (wg i9), .int (wd i9), .int (nI i9), .int (hs i9), .int (bf i9)])) := fun i9 h9 => k255 _ _ (F280 i9 h9) 
    have F282 : ∀ i9 : Nat, i9 < nn → f1 (pt i9) = some (.inl (cy 1, (ln i9), .inr (.inl (pp i9)))) := fun i9 h9 => k4 _ _ (hP i9 h9) (z_neO (hP i9 h9) x_fa rfl)
    have F283 : ∀ i9 : Nat, i9 < nn → f253 (pt i9) = some (.inl (cy 1, (ln i9), .inr (.inl (pp i9)))) := fun i9 h9 => k255 _ _ (F282 i9 h9) 
    have F284 : ∀ i9 : Nat, i9 < nf → f1 (fq i9) = some (.inr (3, [.ref (fk i9), .int (nI (fz i9))])) := fun i9 h9 => k4 _ _ (hFq i9 h9) (z_ne (hFq i9 h9) x_fa rfl)
    have F285 : ∀ i9 : Nat, i9 < nf → f253 (fq i9) = some (.inr (3, [.ref (fk i9), .int (nI (fz i9))])) := fun i9 h9 => k255 _ _ (F284 i9 h9) 
    have F286 : ∀ i9 : Nat, i9 < nf → f1 (fk i9) = some (.inl (cy 0, 4, .inl (fc i9))) := fun i9 h9 => k4 _ _ (hFk i9 h9) (z_ne (hFk i9 h9) x_fa rfl)
    have F287 : ∀ i9 : Nat, i9 < nf → f253 (fk i9) = some (.inl (cy 0, 4, .inl (fc i9))) := fun i9 h9 => k255 _ _ (F286 i9 h9) 
    have F288 : ∀ i9 : Nat, i9 < nc → f1 (cn i9) = some (.inr (0, [.int (ce i9), .int (cm i9)])) := fun i9 h9 => k4 _ _ (hCn i9 h9) (z_ne (hCn i9 h9) x_fa rfl)
    have F289 : ∀ i9 : Nat, i9 < nc → f253 (cn i9) = some (.inr (0, [.int (ce i9), .int (cm i9)])) := fun i9 h9 => k255 _ _ (F288 i9 h9) 
    have F290 : ∀ i9 : Nat, i9 < 4 → f1 (ea i9) = some (.inr (1, [.ref (ma i9), .int (nI (sq i9))])) := fun i9 h9 => k4 _ _ (hEa i9 h9) (z_ne (hEa i9 h9) x_fa rfl)
    have F291 : ∀ i9 : Nat, i9 < 4 → f253 (ea i9) = some (.inr (1, [.ref (ma i9), .int (nI (sq i9))])) := fun i9 h9 => k255 _ _ (F290 i9 h9) 
    have F292 : ∀ i9 : Nat, i9 < 4 → f1 (ma i9) = some (.inl (cy 0, 60, .inl (mb i9))) := fun i9 h9 => k4 _ _ (hMa i9 h9) (z_ne (hMa i9 h9) x_fa rfl)
    have F293 : ∀ i9 : Nat, i9 < 4 → f253 (ma i9) = some (.inl (cy 0, 60, .inl (mb i9))) := fun i9 h9 => k255 _ _ (F292 i9 h9) 
    exact z_iret C hr rfl hz hS ⟨0, (-1), 0, gv, nl, gu, nn, ga, gr, fg, pt, kd, ln, pp, wg, wd, hs, bf, nf, gf, fq, fk, fz, fc, nc, gc, cn, ce, cm, sq, mb, ks, kk, kv, lk, (by simp [h60, c256]), rfl, (by rw [if_neg (by decide)]), ⟨a257, a258, a260, a261, a263, a265, a267, a269, a271, a273, a275, a277, a279, F281, F283, F285, F287, F289, F291, F293, hn60, hl12, hf6, hc60, hs40, hga, hgr, hln, hk5, hk4, hfi, hpi, har, hgf, hfz, hgc, hG, hsq, hei, hmi, kne, hca, hcr, hlk⟩⟩ (Nat.le_of_ble_eq_true rfl) (Nat.le_of_ble_eq_true rfl) dX7_point_19
abbrev rmX7_span : Room := { frames := 6, cells := 2, slots := 9, locals := 140 }
set_option maxHeartbeats 4000000 in
set_option maxRecDepth 100000 in
theorem k_X7_span (l : Launch) (D : va_G) (cy : Nat → ClassId) (f : zM) (o : Nat) (fa : Nat) (fi : Nat) (nu : Nat) (fm : Nat) (co : Nat) (en : Nat) (ke : Nat) (ev : Nat) (al : Nat) (ra : Nat) (kn : Nat) (vq : Nat) (ge : Nat → Option Nat) (ea : Nat → Nat) (ma : Nat → Nat) (u1 : Int32) (u2 : Int32) (u3 : Int32) (gv : Nat → Int32) (nl : Nat) (gu : Nat → Int32) (nn : Nat) (ga : Nat → Option Nat) (gr : Nat → Option Nat) (fg : Nat → Nat) (pt : Nat → Nat) (kd : Nat → Int32) (ln : Nat → Nat) (pp : Nat → Nat → Int64) (wg : Nat → Int64) (wd : Nat → Int32) (hs : Nat → Int32) (bf : Nat → Int32) (nf : Nat) (gf : Nat → Option Nat) (fq : Nat → Nat) (fk : Nat → Nat) (fz : Nat → Nat) (fc : Nat → Nat → Int32) (nc : Nat) (gc : Nat → Option Nat) (cn : Nat → Nat) (ce : Nat → Int32) (cm : Nat → Int32) (sq : Nat → Nat) (mb : Nat → Nat → Int32) (ks : Nat) (kk : Nat → Int32) (kv : Nat → Int32) (lk : Int64) (x : Int32) (y : Int32)    (hI : zIX cy f o fa fi nu fm co en ke ev al ra kn vq ge ea ma u1 u2 u3 gv nl gu nn ga gr fg pt kd ln pp wg wd hs bf nf gf fq fk fz fc nc gc cn ce cm sq mb ks kk kv lk) : zCi l D cy yX7_span cX7_span 3 (Option.some Jvm.ClassFile.FieldType.int) rmX7_span [.ref o, .int x, .int y] f (fun (r : Int32) (f1 : zM) => ∃ (u11 : Int32) (u21 : Int32) (u31 : Int32) (gv1 : Nat → Int32) (nl1 : Nat) (gu1 : Nat → Int32) (nn1 : Nat) (ga1 : Nat → Option Nat) (gr1 : Nat → Option Nat) (fg1 : Nat → Nat) (pt1 : Nat → Nat) (kd1 : Nat → Int32) (ln1 : Nat → Nat) (pp1 : Nat → Nat → Int64) (wg1 : Nat → Int64) (wd1 : Nat → Int32) (hs1 : Nat → Int32) (bf1 : Nat → Int32) (nf1 : Nat) (gf1 : Nat → Option Nat) (fq1 : Nat → Nat) (fk1 : Nat → Nat) (fz1 : Nat → Nat) (fc1 : Nat → Nat → Int32) (nc1 : Nat) (gc1 : Nat → Option Nat) (cn1 : Nat → Nat) (ce1 : Nat → Int32) (cm1 : Nat → Int32) (sq1 : Nat → Nat) (mb1 : Nat → Nat → Int32) (ks1 : Nat) (kk1 : Nat → Int32) (kv1 : Nat → Int32) (lk1 : Int64), r = (if nn < 60 then (if x ≤ y then nI nn else (-4)) else (-3)) ∧ (nl1 = nl) ∧ (nn1 = if 0 ≤ r then nn + 1 else nn) ∧ zIX cy f1 o fa fi nu fm co en ke ev al ra kn vq ge ea ma u11 u21 u31 gv1 nl1 gu1 nn1 ga1 gr1 fg1 pt1 kd1 ln1 pp1 wg1 wd1 hs1 bf1 nf1 gf1 fq1 fk1 fz1 fc1 nc1 gc1 cn1 ce1 cm1 sq1 mb1 ks1 kk1 kv1 lk1) := by
  intro sz
  refine z_body (by decide +kernel) (Nat.le_of_ble_eq_true rfl) ?_
  intro p e s m below meth c ls C hr hin hsz hz hl
  subst hsz
  have hx := C.1
  have hb := C.2.1
  have hA : ∀ q, s.heap.size ≤ q → zA f s.heap.size q := fun q h => Or.inr h
  have hS : va_S (zA f s.heap.size) s.heap s.heap [] := va_S.rf
  have hl : lv_has ls 3 [(0, .ref o), (1, .int x), (2, .int y)] := hl
  obtain ⟨x_o, x_fa, x_ev, x_fi, x_al, x_ra, x_nu, x_fm, x_co, x_en, x_ke, x_kn, x_vq, hF, hP, hFq, hFk, hCn, hEa, hMa, hn60, hl12, hf6, hc60, hs40, hga, hgr, hln, hk5, hk4, hfi, hpi, har, hgf, hfz, hgc, hG, hsq, hei, hmi, kne, hca, hcr, hlk⟩ := id hI
  refine lv_aload_n hx hb dX7_span_0 rfl (lv_at hl 0 rfl) ?_
  refine z_get (v := .ref fa) C hz x_o zl7 mFX7_10 (by decide) rfl dX7_span_1 ?_
  refine z_callVv (As := []) C hz hS hA hl (k_X2_none l D cy f fa u1 u2 u3 ev x_fa ) zyX2_none mMX7_76 x_fa zl2 rfl rfl (Nat.le_of_ble_eq_true rfl) ⟨Nat.le_of_ble_eq_true rfl, Nat.le_of_ble_eq_true rfl⟩ ⟨Nat.le_of_ble_eq_true rfl, Nat.le_of_ble_eq_true rfl⟩ dX7_span_4 (fun  f1 H locs h2 hz hS => ?_)
  obtain ⟨a3, k4⟩ := h2
  refine lv_aload_n hx hb dX7_span_7 rfl (lv_at hl 0 rfl) ?_
  have a5 : f1 o = some (.inr (7, [.ref fa, .ref fi, .ref nu, .int (nI nl), .ref fm, .int (nI nf), .ref co, .int (nI nc), .ref en, .ref ke, .long lk])) := k4 _ _ x_o (z_ne x_o x_fa rfl)
  refine z_get (v := .ref fi) C hz a5 zl7 mFX7_19 (by decide) rfl dX7_span_8 ?_
  by_cases h60 : nn < 60
  · have a6 : f1 fi = some (.inr (5, [.ref al, .ref ra, .int (nI nn)])) := k4 _ _ x_fi (z_ne x_fi x_fa rfl)
    refine z_callVi (As := []) C hz hS hA hl (k_X5_isFull_A l D cy f1 fi al ra nn a6 hn60 h60) zyX5_isFull mMX7_79 a6 zl5 rfl rfl (Nat.le_of_ble_eq_true rfl) ⟨Nat.le_of_ble_eq_true rfl, Nat.le_of_ble_eq_true rfl⟩ ⟨Nat.le_of_ble_eq_true rfl, Nat.le_of_ble_eq_true rfl⟩ dX7_span_11 (fun r f7 H locs h8 hz hS => ?_)
    obtain ⟨rfl, k9⟩ := h8
    refine lv_if_eq (tgt := 20) hx hb dX7_span_14 (by decide) (fun c10 => ?_) (fun c10 => ?_)
    rotate_left
    · exact absurd c10 (by decide)
    refine lv_iload_n hx hb dX7_span_20 rfl (lv_at hl 1 rfl) ?_
    refine lv_iload_n hx hb dX7_span_21 rfl (lv_at hl 2 rfl) ?_
    refine lv_icmp_le (tgt := 35) hx hb dX7_span_22 (by decide) (fun c11 => ?_) (fun c11 => ?_)
    · refine lv_aload_n hx hb dX7_span_35 rfl (lv_at hl 0 rfl) ?_
      have a12 : f7 o = some (.inr (7, [.ref fa, .ref fi, .ref nu, .int (nI nl), .ref fm, .int (nI nf), .ref co, .int (nI nc), .ref en, .ref ke, .long lk])) := k9 _ _ a5 
      refine z_get (v := .ref fi) C hz a12 zl7 mFX7_19 (by decide) rfl dX7_span_36 ?_
      refine z_new (fs := [.int 0, .null, .long 0, .int 0, .int 0, .int 0, .int 0]) C hz hS hA zl4 mLX7_83 mIa_RX4 mIn_RX4 (by decide +kernel) (Nat.le_of_ble_eq_true rfl) (Nat.le_of_ble_eq_true rfl) dX7_span_39 (fun q13 H f15 u14 a16 k17 hz hS => ?_)
      refine lv_dup hx hb dX7_span_42 rfl ?_
      refine lv_iconst (v := 1) hx hb dX7_span_43 (by decide) ?_
      refine lv_iconst (v := 2) hx hb dX7_span_44 (by decide) ?_
      refine z_newa (atype := .long) (t0 := 1) (N' := 2) (x := (.inr (.inl (fun _ => 0)))) C hz hS hA rfl mA_long rfl (fun _ => rfl) (by decide) (Nat.le_of_ble_eq_true rfl) (by decide) (Nat.le_of_ble_eq_true rfl) (Nat.le_of_ble_eq_true rfl) dX7_span_45 (fun q18 H f20 u19 a21 k22 hz hS => ?_)
      refine lv_dup hx hb dX7_span_47 rfl ?_
      refine lv_iconst (v := 0) hx hb dX7_span_48 (by decide) ?_
      refine lv_iload_n hx hb dX7_span_49 rfl (lv_at hl 1 rfl) ?_
      refine lv_i2l (v := x.toInt64) hx hb dX7_span_50 rfl ?_
      refine z_last 0 C hz hS a21 (by decide) (Nat.le_of_ble_eq_true rfl) (by omega) dX7_span_51 (fun H locs f23 a24 k25 hz hS => ?_)
      refine lv_dup hx hb dX7_span_52 rfl ?_
      refine lv_iconst (v := 1) hx hb dX7_span_53 (by decide) ?_
      refine lv_iload_n hx hb dX7_span_54 rfl (lv_at hl 2 rfl) ?_
      refine lv_i2l (v := y.toInt64) hx hb dX7_span_55 rfl ?_
      refine z_last 1 C hz hS a24 (by decide) (Nat.le_of_ble_eq_true rfl) (by omega) dX7_span_56 (fun H locs f26 a27 k28 hz hS => ?_)
      refine lv_iload_n hx hb dX7_span_57 rfl (lv_at hl 1 rfl) ?_
      refine lv_iload_n hx hb dX7_span_58 rfl (lv_at hl 2 rfl) ?_
      refine z_callSl (As := [.int x, .int y]) C hz hS hA hl (k_X7_lengthOf l D cy f26 x y  ) zyX7_lengthOf mMX7_100 rfl rfl (Nat.le_of_ble_eq_true rfl) ⟨Nat.le_of_ble_eq_true rfl, Nat.le_of_ble_eq_true rfl⟩ ⟨Nat.le_of_ble_eq_true rfl, Nat.le_of_ble_eq_true rfl⟩ dX7_span_59 (fun r31 f29 H locs h30 hz hS => ?_)
      have k32 := h30
      have a33 : f20 q13 = some (.inr (4, [.int 0, .null, .long 0, .int 0, .int 0, .int 0, .int 0])) := (k22 _ (z_nn u19 a16)).trans a16
      have a34 : f23 q13 = some (.inr (4, [.int 0, .null, .long 0, .int 0, .int 0, .int 0, .int 0])) := (k25 _ (z_nn u19 a16)).trans a33
      have a35 : f26 q13 = some (.inr (4, [.int 0, .null, .long 0, .int 0, .int 0, .int 0, .int 0])) := (k28 _ (z_nn u19 a16)).trans a34
      have a36 : f29 q13 = some (.inr (4, [.int 0, .null, .long 0, .int 0, .int 0, .int 0, .int 0])) := k32 _ _ a35 
      refine z_callIv (ret := none) (As := [.int 1, .ref q18, .long r31]) C hz hS hA hl (k_X4_init l D cy f29 q13 1 q18 r31 a36 ) zyX4_init mMX7_89 rfl rfl (Nat.le_of_ble_eq_true rfl) ⟨Nat.le_of_ble_eq_true rfl, Nat.le_of_ble_eq_true rfl⟩ ⟨Nat.le_of_ble_eq_true rfl, Nat.le_of_ble_eq_true rfl⟩ dX7_span_62 (fun  f37 H locs h38 hz hS => ?_)
      obtain ⟨a39, k40⟩ := h38
      have a41 : f7 fi = some (.inr (5, [.ref al, .ref ra, .int (nI nn)])) := k9 _ _ a6 
      have a42 : f15 fi = some (.inr (5, [.ref al, .ref ra, .int (nI nn)])) := (k17 _ (z_nn u14 a41)).trans a41
      have a43 : f20 fi = some (.inr (5, [.ref al, .ref ra, .int (nI nn)])) := (k22 _ (z_nn u19 a42)).trans a42
      have a44 : f23 fi = some (.inr (5, [.ref al, .ref ra, .int (nI nn)])) := (k25 _ (z_nn u19 a42)).trans a43
      have a45 : f26 fi = some (.inr (5, [.ref al, .ref ra, .int (nI nn)])) := (k28 _ (z_nn u19 a42)).trans a44
      have a46 : f29 fi = some (.inr (5, [.ref al, .ref ra, .int (nI nn)])) := k32 _ _ a45 
      have a47 : f37 fi = some (.inr (5, [.ref al, .ref ra, .int (nI nn)])) := k40 _ _ a46 (z_nn u14 a41)
      have a48 : f1 al = some (.inl (cy 3, 60, .inr (.inr (.inr (.inr ga))))) := k4 _ _ x_al (z_ne x_al x_fa rfl)
      have a49 : f7 al = some (.inl (cy 3, 60, .inr (.inr (.inr (.inr ga))))) := k9 _ _ a48 
      have a50 : f15 al = some (.inl (cy 3, 60, .inr (.inr (.inr (.inr ga))))) := (k17 _ (z_nn u14 a49)).trans a49
      have a51 : f20 al = some (.inl (cy 3, 60, .inr (.inr (.inr (.inr ga))))) := (k22 _ (z_nn u19 a50)).trans a50
      have a52 : f23 al = some (.inl (cy 3, 60, .inr (.inr (.inr (.inr ga))))) := (k25 _ (z_nn u19 a50)).trans a51
      have a53 : f26 al = some (.inl (cy 3, 60, .inr (.inr (.inr (.inr ga))))) := (k28 _ (z_nn u19 a50)).trans a52
      have a54 : f29 al = some (.inl (cy 3, 60, .inr (.inr (.inr (.inr ga))))) := k32 _ _ a53 
      have a55 : f37 al = some (.inl (cy 3, 60, .inr (.inr (.inr (.inr ga))))) := k40 _ _ a54 (z_nn u14 a49)
      have a56 : f1 ra = some (.inl (cy 3, 60, .inr (.inr (.inr (.inr gr))))) := k4 _ _ x_ra (z_ne x_ra x_fa rfl)
      have a57 : f7 ra = some (.inl (cy 3, 60, .inr (.inr (.inr (.inr gr))))) := k9 _ _ a56 
      have a58 : f15 ra = some (.inl (cy 3, 60, .inr (.inr (.inr (.inr gr))))) := (k17 _ (z_nn u14 a57)).trans a57
      have a59 : f20 ra = some (.inl (cy 3, 60, .inr (.inr (.inr (.inr gr))))) := (k22 _ (z_nn u19 a58)).trans a58
      have a60 : f23 ra = some (.inl (cy 3, 60, .inr (.inr (.inr (.inr gr))))) := (k25 _ (z_nn u19 a58)).trans a59
      have a61 : f26 ra = some (.inl (cy 3, 60, .inr (.inr (.inr (.inr gr))))) := (k28 _ (z_nn u19 a58)).trans a60
      have a62 : f29 ra = some (.inl (cy 3, 60, .inr (.inr (.inr (.inr gr))))) := k32 _ _ a61 
      have a63 : f37 ra = some (.inl (cy 3, 60, .inr (.inr (.inr (.inr gr))))) := k40 _ _ a62 (z_nn u14 a57)
      have a64 : f29 q18 = some (.inl (cy 1, 2, .inr (.inl (vp_updL (vp_updL (fun _ => 0) 0 x.toInt64) 1 y.toInt64)))) := k32 _ _ a27 
      have a65 : f37 q18 = some (.inl (cy 1, 2, .inr (.inl (vp_updL (vp_updL (fun _ => 0) 0 x.toInt64) 1 y.toInt64)))) := k40 _ _ a64 (Ne.symm (z_nn u19 a16))
      have F66 : ∀ i9 : Nat, i9 < nn → f1 (fg i9) = some (.inr (4, [.int (kd i9), .ref (pt i9), .long (wg i9), .int (wd i9), .int (nI i9), .int (hs i9), .int (bf i9)])) := fun i9 h9 => k4 _ _ (hF i9 h9) (z_ne (hF i9 h9) x_fa rfl)
      have F67 : ∀ i9 : Nat, i9 < nn → f7 (fg i9) = some (.inr (4, [.int (kd i9), .ref (pt i9), .long (wg i9), .int (wd i9), .int (nI i9), .int (hs i9), .int (bf i9)])) := fun i9 h9 => k9 _ _ (F66 i9 h9) 
      have F68 : ∀ i9 : Nat, i9 < nn → f15 (fg i9) = some (.inr (4, [.int (kd i9), .ref (pt i9), .long (wg i9), .int (wd i9), .int (nI i9), .int (hs i9), .int (bf i9)])) := fun i9 h9 => (k17 _ (z_nn u14 (F67 i9 h9))).trans (F67 i9 h9)
      have F69 : ∀ i9 : Nat, i9 < nn → f20 (fg i9) = some (.inr (4, [.int (kd i9), .ref (pt i9), .long (wg i9), .int (wd i9), .int (nI i9), .int (hs i9), .int (bf i9)])) := fun i9 h9 => (k22 _ (z_nn u19 (F68 i9 h9))).trans (F68 i9 h9)
      have F70 : ∀ i9 : Nat, i9 < nn → f23 (fg i9) = some (.inr (4, [.int (kd i9), .ref (pt i9), .long (wg i9), .int (wd i9), .int (nI i9), .int (hs i9), .int (bf i9)])) := fun i9 h9 => (k25 _ (z_nn u19 (F68 i9 h9))).trans (F69 i9 h9)
      have F71 : ∀ i9 : Nat, i9 < nn → f26 (fg i9) = some (.inr (4, [.int (kd i9), .ref (pt i9), .long (wg i9), .int (wd i9), .int (nI i9), .int (hs i9), .int (bf i9)])) := fun i9 h9 => (k28 _ (z_nn u19 (F68 i9 h9))).trans (F70 i9 h9)
      have F72 : ∀ i9 : Nat, i9 < nn → f29 (fg i9) = some (.inr (4, [.int (kd i9), .ref (pt i9), .long (wg i9), .int (wd i9), .int (nI i9), .int (hs i9), .int (bf i9)])) := fun i9 h9 => k32 _ _ (F71 i9 h9) 
      have F73 : ∀ i9 : Nat, i9 < nn → f37 (fg i9) = some (.inr (4, [.int (kd i9), .ref (pt i9), .long (wg i9), .int (wd i9), .int (nI i9), .int (hs i9), .int (bf i9)])) := fun i9 h9 => k40 _ _ (F72 i9 h9) (z_nn u14 (F67 i9 h9))
      have F74 : ∀ i9 : Nat, i9 < nn → f1 (pt i9) = some (.inl (cy 1, (ln i9), .inr (.inl (pp i9)))) := fun i9 h9 => k4 _ _ (hP i9 h9) (z_neO (hP i9 h9) x_fa rfl)
      have F75 : ∀ i9 : Nat, i9 < nn → f7 (pt i9) = some (.inl (cy 1, (ln i9), .inr (.inl (pp i9)))) := fun i9 h9 => k9 _ _ (F74 i9 h9) 
      have F76 : ∀ i9 : Nat, i9 < nn → f15 (pt i9) = some (.inl (cy 1, (ln i9), .inr (.inl (pp i9)))) := fun i9 h9 => (k17 _ (z_nn u14 (F75 i9 h9))).trans (F75 i9 h9)
      have F77 : ∀ i9 : Nat, i9 < nn → f20 (pt i9) = some (.inl (cy 1, (ln i9), .inr (.inl (pp i9)))) := fun i9 h9 => (k22 _ (z_nn u19 (F76 i9 h9))).trans (F76 i9 h9)
      have F78 : ∀ i9 : Nat, i9 < nn → f23 (pt i9) = some (.inl (cy 1, (ln i9), .inr (.inl (pp i9)))) := fun i9 h9 => (k25 _ (z_nn u19 (F76 i9 h9))).trans (F77 i9 h9)
      have F79 : ∀ i9 : Nat, i9 < nn → f26 (pt i9) = some (.inl (cy 1, (ln i9), .inr (.inl (pp i9)))) := fun i9 h9 => (k28 _ (z_nn u19 (F76 i9 h9))).trans (F78 i9 h9)
      have F80 : ∀ i9 : Nat, i9 < nn → f29 (pt i9) = some (.inl (cy 1, (ln i9), .inr (.inl (pp i9)))) := fun i9 h9 => k32 _ _ (F79 i9 h9) 
      have F81 : ∀ i9 : Nat, i9 < nn → f37 (pt i9) = some (.inl (cy 1, (ln i9), .inr (.inl (pp i9)))) := fun i9 h9 => k40 _ _ (F80 i9 h9) (z_nn u14 (F75 i9 h9))
      refine z_callVi (As := [.ref q13]) C hz hS hA hl (k_X5_add l D cy f37 fi al ra ga gr nn fg pt kd ln pp wg wd hs bf q13 1 q18 r31 0 (-1) 0 0 2 (vp_updL (vp_updL (fun _ => 0) 0 x.toInt64) 1 y.toInt64) a47 a55 a63 a39 a65 F73 F81 h60 hga hgr hln hk5 hfi (fun j9 h9 => z_nn u14 (F67 j9 h9)) (by omega) (fun h9 => absurd h9 (by decide)) har) zyX5_add mMX7_92 a47 zl5 rfl rfl (Nat.le_of_ble_eq_true rfl) ⟨Nat.le_of_ble_eq_true rfl, Nat.le_of_ble_eq_true rfl⟩ ⟨Nat.le_of_ble_eq_true rfl, Nat.le_of_ble_eq_true rfl⟩ dX7_span_65 (fun r f82 H locs h83 hz hS => ?_)
      obtain ⟨hq_84, bq_85, gr_86, bf_87, rfl, p88, a89, a90, a91, F92, F93, k94⟩ := h83
      have a95 : f15 o = some (.inr (7, [.ref fa, .ref fi, .ref nu, .int (nI nl), .ref fm, .int (nI nf), .ref co, .int (nI nc), .ref en, .ref ke, .long lk])) := (k17 _ (z_nn u14 a12)).trans a12
      have a96 : f20 o = some (.inr (7, [.ref fa, .ref fi, .ref nu, .int (nI nl), .ref fm, .int (nI nf), .ref co, .int (nI nc), .ref en, .ref ke, .long lk])) := (k22 _ (z_nn u19 a95)).trans a95
      have a97 : f23 o = some (.inr (7, [.ref fa, .ref fi, .ref nu, .int (nI nl), .ref fm, .int (nI nf), .ref co, .int (nI nc), .ref en, .ref ke, .long lk])) := (k25 _ (z_nn u19 a95)).trans a96
      have a98 : f26 o = some (.inr (7, [.ref fa, .ref fi, .ref nu, .int (nI nl), .ref fm, .int (nI nf), .ref co, .int (nI nc), .ref en, .ref ke, .long lk])) := (k28 _ (z_nn u19 a95)).trans a97
      have a99 : f29 o = some (.inr (7, [.ref fa, .ref fi, .ref nu, .int (nI nl), .ref fm, .int (nI nf), .ref co, .int (nI nc), .ref en, .ref ke, .long lk])) := k32 _ _ a98 
      have a100 : f37 o = some (.inr (7, [.ref fa, .ref fi, .ref nu, .int (nI nl), .ref fm, .int (nI nf), .ref co, .int (nI nc), .ref en, .ref ke, .long lk])) := k40 _ _ a99 (z_nn u14 a12)
      have a101 : f82 o = some (.inr (7, [.ref fa, .ref fi, .ref nu, .int (nI nl), .ref fm, .int (nI nf), .ref co, .int (nI nc), .ref en, .ref ke, .long lk])) := k94 _ _ a100 (z_ne a100 a47 rfl) (z_ne a100 a55 rfl) (z_ne a100 a63 rfl) (z_nn u14 a12) (fun j9 h8 => (z_ne a100 (F73 j9 h8) rfl))
      have a102 : f7 fa = some (.inr (2, [.int 0, .int (-1), .int 0, .ref ev])) := k9 _ _ a3 
      have a103 : f15 fa = some (.inr (2, [.int 0, .int (-1), .int 0, .ref ev])) := (k17 _ (z_nn u14 a102)).trans a102
      have a104 : f20 fa = some (.inr (2, [.int 0, .int (-1), .int 0, .ref ev])) := (k22 _ (z_nn u19 a103)).trans a103
      have a105 : f23 fa = some (.inr (2, [.int 0, .int (-1), .int 0, .ref ev])) := (k25 _ (z_nn u19 a103)).trans a104
      have a106 : f26 fa = some (.inr (2, [.int 0, .int (-1), .int 0, .ref ev])) := (k28 _ (z_nn u19 a103)).trans a105
      have a107 : f29 fa = some (.inr (2, [.int 0, .int (-1), .int 0, .ref ev])) := k32 _ _ a106 
      have a108 : f37 fa = some (.inr (2, [.int 0, .int (-1), .int 0, .ref ev])) := k40 _ _ a107 (z_nn u14 a102)
      have a109 : f82 fa = some (.inr (2, [.int 0, .int (-1), .int 0, .ref ev])) := k94 _ _ a108 (z_ne a108 a47 rfl) (z_ne a108 a55 rfl) (z_ne a108 a63 rfl) (z_nn u14 a102) (fun j9 h8 => (z_ne a108 (F73 j9 h8) rfl))
      have a110 : f1 ev = some (.inl (cy 0, 8, .inl gv)) := k4 _ _ x_ev (z_ne x_ev x_fa rfl)
      have a111 : f7 ev = some (.inl (cy 0, 8, .inl gv)) := k9 _ _ a110 
      have a112 : f15 ev = some (.inl (cy 0, 8, .inl gv)) := (k17 _ (z_nn u14 a111)).trans a111
      have a113 : f20 ev = some (.inl (cy 0, 8, .inl gv)) := (k22 _ (z_nn u19 a112)).trans a112
      have a114 : f23 ev = some (.inl (cy 0, 8, .inl gv)) := (k25 _ (z_nn u19 a112)).trans a113
      have a115 : f26 ev = some (.inl (cy 0, 8, .inl gv)) := (k28 _ (z_nn u19 a112)).trans a114
      have a116 : f29 ev = some (.inl (cy 0, 8, .inl gv)) := k32 _ _ a115 
      have a117 : f37 ev = some (.inl (cy 0, 8, .inl gv)) := k40 _ _ a116 (z_nn u14 a111)
      have a118 : f82 ev = some (.inl (cy 0, 8, .inl gv)) := k94 _ _ a117 (z_ne a117 a47 rfl) (z_ne a117 a55 rfl) (z_ne a117 a63 rfl) (z_nn u14 a111) (fun j9 h8 => (z_ne a117 (F73 j9 h8) rfl))
      have a119 : f1 nu = some (.inl (cy 0, 12, .inl gu)) := k4 _ _ x_nu (z_ne x_nu x_fa rfl)
      have a120 : f7 nu = some (.inl (cy 0, 12, .inl gu)) := k9 _ _ a119 
      have a121 : f15 nu = some (.inl (cy 0, 12, .inl gu)) := (k17 _ (z_nn u14 a120)).trans a120
      have a122 : f20 nu = some (.inl (cy 0, 12, .inl gu)) := (k22 _ (z_nn u19 a121)).trans a121
      have a123 : f23 nu = some (.inl (cy 0, 12, .inl gu)) := (k25 _ (z_nn u19 a121)).trans a122
      have a124 : f26 nu = some (.inl (cy 0, 12, .inl gu)) := (k28 _ (z_nn u19 a121)).trans a123
      have a125 : f29 nu = some (.inl (cy 0, 12, .inl gu)) := k32 _ _ a124 
      have a126 : f37 nu = some (.inl (cy 0, 12, .inl gu)) := k40 _ _ a125 (z_nn u14 a120)
      have a127 : f82 nu = some (.inl (cy 0, 12, .inl gu)) := k94 _ _ a126 (z_ne a126 a47 rfl) (z_ne a126 a55 rfl) (z_ne a126 a63 rfl) (z_nn u14 a120) (fun j9 h8 => (z_ne a126 (F73 j9 h8) rfl))
      have a128 : f1 fm = some (.inl (cy 4, 6, .inr (.inr (.inr (.inr gf))))) := k4 _ _ x_fm (z_ne x_fm x_fa rfl)
      have a129 : f7 fm = some (.inl (cy 4, 6, .inr (.inr (.inr (.inr gf))))) := k9 _ _ a128 
      have a130 : f15 fm = some (.inl (cy 4, 6, .inr (.inr (.inr (.inr gf))))) := (k17 _ (z_nn u14 a129)).trans a129
      have a131 : f20 fm = some (.inl (cy 4, 6, .inr (.inr (.inr (.inr gf))))) := (k22 _ (z_nn u19 a130)).trans a130
      have a132 : f23 fm = some (.inl (cy 4, 6, .inr (.inr (.inr (.inr gf))))) := (k25 _ (z_nn u19 a130)).trans a131
      have a133 : f26 fm = some (.inl (cy 4, 6, .inr (.inr (.inr (.inr gf))))) := (k28 _ (z_nn u19 a130)).trans a132
      have a134 : f29 fm = some (.inl (cy 4, 6, .inr (.inr (.inr (.inr gf))))) := k32 _ _ a133 
      have a135 : f37 fm = some (.inl (cy 4, 6, .inr (.inr (.inr (.inr gf))))) := k40 _ _ a134 (z_nn u14 a129)
      have a136 : f82 fm = some (.inl (cy 4, 6, .inr (.inr (.inr (.inr gf))))) := k94 _ _ a135 (z_ne a135 a47 rfl) (z_ne a135 a55 rfl) (z_ne a135 a63 rfl) (z_nn u14 a129) (fun j9 h8 => (z_ne a135 (F73 j9 h8) rfl))
      have a137 : f1 co = some (.inl (cy 5, 60, .inr (.inr (.inr (.inr gc))))) := k4 _ _ x_co (z_ne x_co x_fa rfl)
      have a138 : f7 co = some (.inl (cy 5, 60, .inr (.inr (.inr (.inr gc))))) := k9 _ _ a137 
      have a139 : f15 co = some (.inl (cy 5, 60, .inr (.inr (.inr (.inr gc))))) := (k17 _ (z_nn u14 a138)).trans a138
      have a140 : f20 co = some (.inl (cy 5, 60, .inr (.inr (.inr (.inr gc))))) := (k22 _ (z_nn u19 a139)).trans a139
      have a141 : f23 co = some (.inl (cy 5, 60, .inr (.inr (.inr (.inr gc))))) := (k25 _ (z_nn u19 a139)).trans a140
      have a142 : f26 co = some (.inl (cy 5, 60, .inr (.inr (.inr (.inr gc))))) := (k28 _ (z_nn u19 a139)).trans a141
      have a143 : f29 co = some (.inl (cy 5, 60, .inr (.inr (.inr (.inr gc))))) := k32 _ _ a142 
      have a144 : f37 co = some (.inl (cy 5, 60, .inr (.inr (.inr (.inr gc))))) := k40 _ _ a143 (z_nn u14 a138)
      have a145 : f82 co = some (.inl (cy 5, 60, .inr (.inr (.inr (.inr gc))))) := k94 _ _ a144 (z_ne a144 a47 rfl) hca hcr (z_nn u14 a138) (fun j9 h8 => (z_ne a144 (F73 j9 h8) rfl))
      have a146 : f1 en = some (.inl (cy 6, 4, .inr (.inr (.inr (.inr ge))))) := k4 _ _ x_en (z_ne x_en x_fa rfl)
      have a147 : f7 en = some (.inl (cy 6, 4, .inr (.inr (.inr (.inr ge))))) := k9 _ _ a146 
      have a148 : f15 en = some (.inl (cy 6, 4, .inr (.inr (.inr (.inr ge))))) := (k17 _ (z_nn u14 a147)).trans a147
      have a149 : f20 en = some (.inl (cy 6, 4, .inr (.inr (.inr (.inr ge))))) := (k22 _ (z_nn u19 a148)).trans a148
      have a150 : f23 en = some (.inl (cy 6, 4, .inr (.inr (.inr (.inr ge))))) := (k25 _ (z_nn u19 a148)).trans a149
      have a151 : f26 en = some (.inl (cy 6, 4, .inr (.inr (.inr (.inr ge))))) := (k28 _ (z_nn u19 a148)).trans a150
      have a152 : f29 en = some (.inl (cy 6, 4, .inr (.inr (.inr (.inr ge))))) := k32 _ _ a151 
      have a153 : f37 en = some (.inl (cy 6, 4, .inr (.inr (.inr (.inr ge))))) := k40 _ _ a152 (z_nn u14 a147)
      have a154 : f82 en = some (.inl (cy 6, 4, .inr (.inr (.inr (.inr ge))))) := k94 _ _ a153 (z_ne a153 a47 rfl) (z_ne a153 a55 rfl) (z_ne a153 a63 rfl) (z_nn u14 a147) (fun j9 h8 => (z_ne a153 (F73 j9 h8) rfl))
      have a155 : f1 ke = some (.inr (6, [.ref kn, .ref vq, .int (nI ks)])) := k4 _ _ x_ke (z_ne x_ke x_fa rfl)
      have a156 : f7 ke = some (.inr (6, [.ref kn, .ref vq, .int (nI ks)])) := k9 _ _ a155 
      have a157 : f15 ke = some (.inr (6, [.ref kn, .ref vq, .int (nI ks)])) := (k17 _ (z_nn u14 a156)).trans a156
      have a158 : f20 ke = some (.inr (6, [.ref kn, .ref vq, .int (nI ks)])) := (k22 _ (z_nn u19 a157)).trans a157
      have a159 : f23 ke = some (.inr (6, [.ref kn, .ref vq, .int (nI ks)])) := (k25 _ (z_nn u19 a157)).trans a158
      have a160 : f26 ke = some (.inr (6, [.ref kn, .ref vq, .int (nI ks)])) := (k28 _ (z_nn u19 a157)).trans a159
      have a161 : f29 ke = some (.inr (6, [.ref kn, .ref vq, .int (nI ks)])) := k32 _ _ a160 
      have a162 : f37 ke = some (.inr (6, [.ref kn, .ref vq, .int (nI ks)])) := k40 _ _ a161 (z_nn u14 a156)
      have a163 : f82 ke = some (.inr (6, [.ref kn, .ref vq, .int (nI ks)])) := k94 _ _ a162 (z_ne a162 a47 rfl) (z_ne a162 a55 rfl) (z_ne a162 a63 rfl) (z_nn u14 a156) (fun j9 h8 => (z_ne a162 (F73 j9 h8) rfl))
      have a164 : f1 kn = some (.inl (cy 0, 40, .inl kk)) := k4 _ _ x_kn (z_ne x_kn x_fa rfl)
      have a165 : f7 kn = some (.inl (cy 0, 40, .inl kk)) := k9 _ _ a164 
      have a166 : f15 kn = some (.inl (cy 0, 40, .inl kk)) := (k17 _ (z_nn u14 a165)).trans a165
      have a167 : f20 kn = some (.inl (cy 0, 40, .inl kk)) := (k22 _ (z_nn u19 a166)).trans a166
      have a168 : f23 kn = some (.inl (cy 0, 40, .inl kk)) := (k25 _ (z_nn u19 a166)).trans a167
      have a169 : f26 kn = some (.inl (cy 0, 40, .inl kk)) := (k28 _ (z_nn u19 a166)).trans a168
      have a170 : f29 kn = some (.inl (cy 0, 40, .inl kk)) := k32 _ _ a169 
      have a171 : f37 kn = some (.inl (cy 0, 40, .inl kk)) := k40 _ _ a170 (z_nn u14 a165)
      have a172 : f82 kn = some (.inl (cy 0, 40, .inl kk)) := k94 _ _ a171 (z_ne a171 a47 rfl) (z_ne a171 a55 rfl) (z_ne a171 a63 rfl) (z_nn u14 a165) (fun j9 h8 => (z_ne a171 (F73 j9 h8) rfl))
      have a173 : f1 vq = some (.inl (cy 0, 40, .inl kv)) := k4 _ _ x_vq (z_ne x_vq x_fa rfl)
      have a174 : f7 vq = some (.inl (cy 0, 40, .inl kv)) := k9 _ _ a173 
      have a175 : f15 vq = some (.inl (cy 0, 40, .inl kv)) := (k17 _ (z_nn u14 a174)).trans a174
      have a176 : f20 vq = some (.inl (cy 0, 40, .inl kv)) := (k22 _ (z_nn u19 a175)).trans a175
      have a177 : f23 vq = some (.inl (cy 0, 40, .inl kv)) := (k25 _ (z_nn u19 a175)).trans a176
      have a178 : f26 vq = some (.inl (cy 0, 40, .inl kv)) := (k28 _ (z_nn u19 a175)).trans a177
      have a179 : f29 vq = some (.inl (cy 0, 40, .inl kv)) := k32 _ _ a178 
      have a180 : f37 vq = some (.inl (cy 0, 40, .inl kv)) := k40 _ _ a179 (z_nn u14 a174)
      have a181 : f82 vq = some (.inl (cy 0, 40, .inl kv)) := k94 _ _ a180 (z_ne a180 a47 rfl) (z_ne a180 a55 rfl) (z_ne a180 a63 rfl) (z_nn u14 a174) (fun j9 h8 => (z_ne a180 (F73 j9 h8) rfl))
      have F182 : ∀ i9 : Nat, i9 < nf → f1 (fq i9) = some (.inr (3, [.ref (fk i9), .int (nI (fz i9))])) := fun i9 h9 => k4 _ _ (hFq i9 h9) (z_ne (hFq i9 h9) x_fa rfl)
      have F183 : ∀ i9 : Nat, i9 < nf → f7 (fq i9) = some (.inr (3, [.ref (fk i9), .int (nI (fz i9))])) := fun i9 h9 => k9 _ _ (F182 i9 h9) 
      have F184 : ∀ i9 : Nat, i9 < nf → f15 (fq i9) = some (.inr (3, [.ref (fk i9), .int (nI (fz i9))])) := fun i9 h9 => (k17 _ (z_nn u14 (F183 i9 h9))).trans (F183 i9 h9)
      have F185 : ∀ i9 : Nat, i9 < nf → f20 (fq i9) = some (.inr (3, [.ref (fk i9), .int (nI (fz i9))])) := fun i9 h9 => (k22 _ (z_nn u19 (F184 i9 h9))).trans (F184 i9 h9)
      have F186 : ∀ i9 : Nat, i9 < nf → f23 (fq i9) = some (.inr (3, [.ref (fk i9), .int (nI (fz i9))])) := fun i9 h9 => (k25 _ (z_nn u19 (F184 i9 h9))).trans (F185 i9 h9)
      have F187 : ∀ i9 : Nat, i9 < nf → f26 (fq i9) = some (.inr (3, [.ref (fk i9), .int (nI (fz i9))])) := fun i9 h9 => (k28 _ (z_nn u19 (F184 i9 h9))).trans (F186 i9 h9)
      have F188 : ∀ i9 : Nat, i9 < nf → f29 (fq i9) = some (.inr (3, [.ref (fk i9), .int (nI (fz i9))])) := fun i9 h9 => k32 _ _ (F187 i9 h9) 
      have F189 : ∀ i9 : Nat, i9 < nf → f37 (fq i9) = some (.inr (3, [.ref (fk i9), .int (nI (fz i9))])) := fun i9 h9 => k40 _ _ (F188 i9 h9) (z_nn u14 (F183 i9 h9))
      have F190 : ∀ i9 : Nat, i9 < nf → f82 (fq i9) = some (.inr (3, [.ref (fk i9), .int (nI (fz i9))])) := fun i9 h9 => k94 _ _ (F189 i9 h9) (z_ne (F189 i9 h9) a47 rfl) (z_ne (F189 i9 h9) a55 rfl) (z_ne (F189 i9 h9) a63 rfl) (z_nn u14 (F183 i9 h9)) (fun j9 h8 => (z_ne (F189 i9 h9) (F73 j9 h8) rfl))
      have F191 : ∀ i9 : Nat, i9 < nf → f1 (fk i9) = some (.inl (cy 0, 4, .inl (fc i9))) := fun i9 h9 => k4 _ _ (hFk i9 h9) (z_ne (hFk i9 h9) x_fa rfl)
      have F192 : ∀ i9 : Nat, i9 < nf → f7 (fk i9) = some (.inl (cy 0, 4, .inl (fc i9))) := fun i9 h9 => k9 _ _ (F191 i9 h9) 
      have F193 : ∀ i9 : Nat, i9 < nf → f15 (fk i9) = some (.inl (cy 0, 4, .inl (fc i9))) := fun i9 h9 => (k17 _ (z_nn u14 (F192 i9 h9))).trans (F192 i9 h9)
      have F194 : ∀ i9 : Nat, i9 < nf → f20 (fk i9) = some (.inl (cy 0, 4, .inl (fc i9))) := fun i9 h9 => (k22 _ (z_nn u19 (F193 i9 h9))).trans (F193 i9 h9)
      have F195 : ∀ i9 : Nat, i9 < nf → f23 (fk i9) = some (.inl (cy 0, 4, .inl (fc i9))) := fun i9 h9 => (k25 _ (z_nn u19 (F193 i9 h9))).trans (F194 i9 h9)
      have F196 : ∀ i9 : Nat, i9 < nf → f26 (fk i9) = some (.inl (cy 0, 4, .inl (fc i9))) := fun i9 h9 => (k28 _ (z_nn u19 (F193 i9 h9))).trans (F195 i9 h9)
      have F197 : ∀ i9 : Nat, i9 < nf → f29 (fk i9) = some (.inl (cy 0, 4, .inl (fc i9))) := fun i9 h9 => k32 _ _ (F196 i9 h9) 
      have F198 : ∀ i9 : Nat, i9 < nf → f37 (fk i9) = some (.inl (cy 0, 4, .inl (fc i9))) := fun i9 h9 => k40 _ _ (F197 i9 h9) (z_nn u14 (F192 i9 h9))
      have F199 : ∀ i9 : Nat, i9 < nf → f82 (fk i9) = some (.inl (cy 0, 4, .inl (fc i9))) := fun i9 h9 => k94 _ _ (F198 i9 h9) (z_ne (F198 i9 h9) a47 rfl) (z_ne (F198 i9 h9) a55 rfl) (z_ne (F198 i9 h9) a63 rfl) (z_nn u14 (F192 i9 h9)) (fun j9 h8 => (z_ne (F198 i9 h9) (F73 j9 h8) rfl))
      have F200 : ∀ i9 : Nat, i9 < nc → f1 (cn i9) = some (.inr (0, [.int (ce i9), .int (cm i9)])) := fun i9 h9 => k4 _ _ (hCn i9 h9) (z_ne (hCn i9 h9) x_fa rfl)
      have F201 : ∀ i9 : Nat, i9 < nc → f7 (cn i9) = some (.inr (0, [.int (ce i9), .int (cm i9)])) := fun i9 h9 => k9 _ _ (F200 i9 h9) 
      have F202 : ∀ i9 : Nat, i9 < nc → f15 (cn i9) = some (.inr (0, [.int (ce i9), .int (cm i9)])) := fun i9 h9 => (k17 _ (z_nn u14 (F201 i9 h9))).trans (F201 i9 h9)
      have F203 : ∀ i9 : Nat, i9 < nc → f20 (cn i9) = some (.inr (0, [.int (ce i9), .int (cm i9)])) := fun i9 h9 => (k22 _ (z_nn u19 (F202 i9 h9))).trans (F202 i9 h9)
      have F204 : ∀ i9 : Nat, i9 < nc → f23 (cn i9) = some (.inr (0, [.int (ce i9), .int (cm i9)])) := fun i9 h9 => (k25 _ (z_nn u19 (F202 i9 h9))).trans (F203 i9 h9)
      have F205 : ∀ i9 : Nat, i9 < nc → f26 (cn i9) = some (.inr (0, [.int (ce i9), .int (cm i9)])) := fun i9 h9 => (k28 _ (z_nn u19 (F202 i9 h9))).trans (F204 i9 h9)
      have F206 : ∀ i9 : Nat, i9 < nc → f29 (cn i9) = some (.inr (0, [.int (ce i9), .int (cm i9)])) := fun i9 h9 => k32 _ _ (F205 i9 h9) 
      have F207 : ∀ i9 : Nat, i9 < nc → f37 (cn i9) = some (.inr (0, [.int (ce i9), .int (cm i9)])) := fun i9 h9 => k40 _ _ (F206 i9 h9) (z_nn u14 (F201 i9 h9))
      have F208 : ∀ i9 : Nat, i9 < nc → f82 (cn i9) = some (.inr (0, [.int (ce i9), .int (cm i9)])) := fun i9 h9 => k94 _ _ (F207 i9 h9) (z_ne (F207 i9 h9) a47 rfl) (z_ne (F207 i9 h9) a55 rfl) (z_ne (F207 i9 h9) a63 rfl) (z_nn u14 (F201 i9 h9)) (fun j9 h8 => (z_ne (F207 i9 h9) (F73 j9 h8) rfl))
      have F209 : ∀ i9 : Nat, i9 < 4 → f1 (ea i9) = some (.inr (1, [.ref (ma i9), .int (nI (sq i9))])) := fun i9 h9 => k4 _ _ (hEa i9 h9) (z_ne (hEa i9 h9) x_fa rfl)
      have F210 : ∀ i9 : Nat, i9 < 4 → f7 (ea i9) = some (.inr (1, [.ref (ma i9), .int (nI (sq i9))])) := fun i9 h9 => k9 _ _ (F209 i9 h9) 
      have F211 : ∀ i9 : Nat, i9 < 4 → f15 (ea i9) = some (.inr (1, [.ref (ma i9), .int (nI (sq i9))])) := fun i9 h9 => (k17 _ (z_nn u14 (F210 i9 h9))).trans (F210 i9 h9)
      have F212 : ∀ i9 : Nat, i9 < 4 → f20 (ea i9) = some (.inr (1, [.ref (ma i9), .int (nI (sq i9))])) := fun i9 h9 => (k22 _ (z_nn u19 (F211 i9 h9))).trans (F211 i9 h9)
      have F213 : ∀ i9 : Nat, i9 < 4 → f23 (ea i9) = some (.inr (1, [.ref (ma i9), .int (nI (sq i9))])) := fun i9 h9 => (k25 _ (z_nn u19 (F211 i9 h9))).trans (F212 i9 h9)
      have F214 : ∀ i9 : Nat, i9 < 4 → f26 (ea i9) = some (.inr (1, [.ref (ma i9), .int (nI (sq i9))])) := fun i9 h9 => (k28 _ (z_nn u19 (F211 i9 h9))).trans (F213 i9 h9)
      have F215 : ∀ i9 : Nat, i9 < 4 → f29 (ea i9) = some (.inr (1, [.ref (ma i9), .int (nI (sq i9))])) := fun i9 h9 => k32 _ _ (F214 i9 h9) 
      have F216 : ∀ i9 : Nat, i9 < 4 → f37 (ea i9) = some (.inr (1, [.ref (ma i9), .int (nI (sq i9))])) := fun i9 h9 => k40 _ _ (F215 i9 h9) (z_nn u14 (F210 i9 h9))
      have F217 : ∀ i9 : Nat, i9 < 4 → f82 (ea i9) = some (.inr (1, [.ref (ma i9), .int (nI (sq i9))])) := fun i9 h9 => k94 _ _ (F216 i9 h9) (z_ne (F216 i9 h9) a47 rfl) (z_ne (F216 i9 h9) a55 rfl) (z_ne (F216 i9 h9) a63 rfl) (z_nn u14 (F210 i9 h9)) (fun j9 h8 => (z_ne (F216 i9 h9) (F73 j9 h8) rfl))
      have F218 : ∀ i9 : Nat, i9 < 4 → f1 (ma i9) = some (.inl (cy 0, 60, .inl (mb i9))) := fun i9 h9 => k4 _ _ (hMa i9 h9) (z_ne (hMa i9 h9) x_fa rfl)
      have F219 : ∀ i9 : Nat, i9 < 4 → f7 (ma i9) = some (.inl (cy 0, 60, .inl (mb i9))) := fun i9 h9 => k9 _ _ (F218 i9 h9) 
      have F220 : ∀ i9 : Nat, i9 < 4 → f15 (ma i9) = some (.inl (cy 0, 60, .inl (mb i9))) := fun i9 h9 => (k17 _ (z_nn u14 (F219 i9 h9))).trans (F219 i9 h9)
      have F221 : ∀ i9 : Nat, i9 < 4 → f20 (ma i9) = some (.inl (cy 0, 60, .inl (mb i9))) := fun i9 h9 => (k22 _ (z_nn u19 (F220 i9 h9))).trans (F220 i9 h9)
      have F222 : ∀ i9 : Nat, i9 < 4 → f23 (ma i9) = some (.inl (cy 0, 60, .inl (mb i9))) := fun i9 h9 => (k25 _ (z_nn u19 (F220 i9 h9))).trans (F221 i9 h9)
      have F223 : ∀ i9 : Nat, i9 < 4 → f26 (ma i9) = some (.inl (cy 0, 60, .inl (mb i9))) := fun i9 h9 => (k28 _ (z_nn u19 (F220 i9 h9))).trans (F222 i9 h9)
      have F224 : ∀ i9 : Nat, i9 < 4 → f29 (ma i9) = some (.inl (cy 0, 60, .inl (mb i9))) := fun i9 h9 => k32 _ _ (F223 i9 h9) 
      have F225 : ∀ i9 : Nat, i9 < 4 → f37 (ma i9) = some (.inl (cy 0, 60, .inl (mb i9))) := fun i9 h9 => k40 _ _ (F224 i9 h9) (z_nn u14 (F219 i9 h9))
      have F226 : ∀ i9 : Nat, i9 < 4 → f82 (ma i9) = some (.inl (cy 0, 60, .inl (mb i9))) := fun i9 h9 => k94 _ _ (F225 i9 h9) (z_ne (F225 i9 h9) a47 rfl) (z_ne (F225 i9 h9) a55 rfl) (z_ne (F225 i9 h9) a63 rfl) (z_nn u14 (F219 i9 h9)) (fun j9 h8 => (z_ne (F225 i9 h9) (F73 j9 h8) rfl))
      exact z_iret C hr rfl hz hS ⟨0, (-1), 0, gv, nl, gu, (nn + 1), (va_up ga nn (some q13)), gr_86, (va_up fg nn q13), (va_up pt nn q18), (va_up kd nn 1), (va_up ln nn 2), (va_up pp nn (vp_updL (vp_updL (fun _ => 0) 0 x.toInt64) 1 y.toInt64)), (va_up wg nn r31), (va_up wd nn 0), (va_up hs nn hq_84), (va_up bf_87 nn bq_85), nf, gf, fq, fk, fz, fc, nc, gc, cn, ce, cm, sq, mb, ks, kk, kv, lk, (by simp [h60, c10, c11]), rfl, (by rw [if_pos (nI_pos' (by omega))]), ⟨a101, a109, a118, a89, a90, a91, a127, a136, a145, a154, a163, a172, a181, F92, F93, F190, F199, F208, F217, F226, (by omega), hl12, hf6, hc60, hs40, (z_ga1 hga), (z_gr1 p88), (z_up1 (P := fun _ a9 => a9 ≤ 15) hln (by omega)), (z_up2 (P := fun (a9 : Int32) (b9 : Nat) => a9 = 5 → 3 ≤ b9) hk5 (fun h9 => absurd h9 (by decide))), (z_up2 (P := fun (a9 : Int32) (b9 : Nat) => a9 = 4 → 2 ≤ b9) hk4 (fun h9 => absurd h9 (by decide))), (z_inj1 hfi (fun j9 h9 => z_nn u14 (F67 j9 h9))), (z_inj1 hpi (fun j9 h9 => z_nn u19 (F76 j9 h9))), har, hgf, hfz, hgc, hG, hsq, hei, hmi, kne, hca, hcr, hlk⟩⟩ (Nat.le_of_ble_eq_true rfl) (Nat.le_of_ble_eq_true rfl) dX7_span_68
    · refine lv_aload_n hx hb dX7_span_25 rfl (lv_at hl 0 rfl) ?_
      have a227 : f7 o = some (.inr (7, [.ref fa, .ref fi, .ref nu, .int (nI nl), .ref fm, .int (nI nf), .ref co, .int (nI nc), .ref en, .ref ke, .long lk])) := k9 _ _ a5 
      refine z_get (v := .ref fa) C hz a227 zl7 mFX7_10 (by decide) rfl dX7_span_26 ?_
      refine lv_iconst (v := 1) hx hb dX7_span_29 (by decide) ?_
      refine lv_iconst (v := 1) hx hb dX7_span_30 (by decide) ?_
      have a228 : f7 fa = some (.inr (2, [.int 0, .int (-1), .int 0, .ref ev])) := k9 _ _ a3 
      have a229 : f1 ev = some (.inl (cy 0, 8, .inl gv)) := k4 _ _ x_ev (z_ne x_ev x_fa rfl)
      have a230 : f7 ev = some (.inl (cy 0, 8, .inl gv)) := k9 _ _ a229 
      refine z_callVi (As := [.int 1, .int 1]) C hz hS hA hl (k_X2_own l D cy f7 fa 1 1 0 (-1) 0 ev gv a228 a230 ) zyX2_own mMX7_96 a228 zl2 rfl rfl (Nat.le_of_ble_eq_true rfl) ⟨Nat.le_of_ble_eq_true rfl, Nat.le_of_ble_eq_true rfl⟩ ⟨Nat.le_of_ble_eq_true rfl, Nat.le_of_ble_eq_true rfl⟩ dX7_span_31 (fun r f231 H locs h232 hz hS => ?_)
      obtain ⟨rfl, a233, a234, k235⟩ := h232
      have a236 : f231 o = some (.inr (7, [.ref fa, .ref fi, .ref nu, .int (nI nl), .ref fm, .int (nI nf), .ref co, .int (nI nc), .ref en, .ref ke, .long lk])) := k235 _ _ a227 (z_ne a227 a228 rfl) (z_ne a227 a230 rfl)
      have a237 : f7 fi = some (.inr (5, [.ref al, .ref ra, .int (nI nn)])) := k9 _ _ a6 
      have a238 : f231 fi = some (.inr (5, [.ref al, .ref ra, .int (nI nn)])) := k235 _ _ a237 (z_ne a237 a228 rfl) (z_ne a237 a230 rfl)
      have a239 : f1 al = some (.inl (cy 3, 60, .inr (.inr (.inr (.inr ga))))) := k4 _ _ x_al (z_ne x_al x_fa rfl)
      have a240 : f7 al = some (.inl (cy 3, 60, .inr (.inr (.inr (.inr ga))))) := k9 _ _ a239 
      have a241 : f231 al = some (.inl (cy 3, 60, .inr (.inr (.inr (.inr ga))))) := k235 _ _ a240 (z_ne a240 a228 rfl) (z_ne a240 a230 rfl)
      have a242 : f1 ra = some (.inl (cy 3, 60, .inr (.inr (.inr (.inr gr))))) := k4 _ _ x_ra (z_ne x_ra x_fa rfl)
      have a243 : f7 ra = some (.inl (cy 3, 60, .inr (.inr (.inr (.inr gr))))) := k9 _ _ a242 
      have a244 : f231 ra = some (.inl (cy 3, 60, .inr (.inr (.inr (.inr gr))))) := k235 _ _ a243 (z_ne a243 a228 rfl) (z_ne a243 a230 rfl)
      have a245 : f1 nu = some (.inl (cy 0, 12, .inl gu)) := k4 _ _ x_nu (z_ne x_nu x_fa rfl)
      have a246 : f7 nu = some (.inl (cy 0, 12, .inl gu)) := k9 _ _ a245 
      have a247 : f231 nu = some (.inl (cy 0, 12, .inl gu)) := k235 _ _ a246 (z_ne a246 a228 rfl) (z_ne a246 a230 rfl)
      have a248 : f1 fm = some (.inl (cy 4, 6, .inr (.inr (.inr (.inr gf))))) := k4 _ _ x_fm (z_ne x_fm x_fa rfl)
      have a249 : f7 fm = some (.inl (cy 4, 6, .inr (.inr (.inr (.inr gf))))) := k9 _ _ a248 
      have a250 : f231 fm = some (.inl (cy 4, 6, .inr (.inr (.inr (.inr gf))))) := k235 _ _ a249 (z_ne a249 a228 rfl) (z_ne a249 a230 rfl)
      have a251 : f1 co = some (.inl (cy 5, 60, .inr (.inr (.inr (.inr gc))))) := k4 _ _ x_co (z_ne x_co x_fa rfl)
      have a252 : f7 co = some (.inl (cy 5, 60, .inr (.inr (.inr (.inr gc))))) := k9 _ _ a251 
      have a253 : f231 co = some (.inl (cy 5, 60, .inr (.inr (.inr (.inr gc))))) := k235 _ _ a252 (z_ne a252 a228 rfl) (z_ne a252 a230 rfl)
      have a254 : f1 en = some (.inl (cy 6, 4, .inr (.inr (.inr (.inr ge))))) := k4 _ _ x_en (z_ne x_en x_fa rfl)
      have a255 : f7 en = some (.inl (cy 6, 4, .inr (.inr (.inr (.inr ge))))) := k9 _ _ a254 
      have a256 : f231 en = some (.inl (cy 6, 4, .inr (.inr (.inr (.inr ge))))) := k235 _ _ a255 (z_ne a255 a228 rfl) (z_ne a255 a230 rfl)
      have a257 : f1 ke = some (.inr (6, [.ref kn, .ref vq, .int (nI ks)])) := k4 _ _ x_ke (z_ne x_ke x_fa rfl)
      have a258 : f7 ke = some (.inr (6, [.ref kn, .ref vq, .int (nI ks)])) := k9 _ _ a257 
      have a259 : f231 ke = some (.inr (6, [.ref kn, .ref vq, .int (nI ks)])) := k235 _ _ a258 (z_ne a258 a228 rfl) (z_ne a258 a230 rfl)
      have a260 : f1 kn = some (.inl (cy 0, 40, .inl kk)) := k4 _ _ x_kn (z_ne x_kn x_fa rfl)
      have a261 : f7 kn = some (.inl (cy 0, 40, .inl kk)) := k9 _ _ a260 
      have a262 : f231 kn = some (.inl (cy 0, 40, .inl kk)) := k235 _ _ a261 (z_ne a261 a228 rfl) (z_ne a261 a230 rfl)
      have a263 : f1 vq = some (.inl (cy 0, 40, .inl kv)) := k4 _ _ x_vq (z_ne x_vq x_fa rfl)
      have a264 : f7 vq = some (.inl (cy 0, 40, .inl kv)) := k9 _ _ a263 
      have a265 : f231 vq = some (.inl (cy 0, 40, .inl kv)) := k235 _ _ a264 (z_ne a264 a228 rfl) (z_ne a264 a230 rfl)
      have F266 : ∀ i9 : Nat, i9 < nn → f1 (fg i9) = some (.inr (4, [.int (kd i9), .ref (pt i9), .long (wg i9), .int (wd i9), .int (nI i9), .int (hs i9), .int (bf i9)])) := fun i9 h9 => k4 _ _ (hF i9 h9) (z_ne (hF i9 h9) x_fa rfl)
      have F267 : ∀ i9 : Nat, i9 < nn → f7 (fg i9) = some (.inr (4, [.int (kd i9), .ref (pt i9), .long (wg i9), .int (wd i9), .int (nI i9), .int (hs i9), .int (bf i9)])) := fun i9 h9 => k9 _ _ (F266 i9 h9) 
      have F268 : ∀ i9 : Nat, i9 < nn → f231 (fg i9) = some (.inr (4, [.int (kd i9), .ref (pt i9), .long (wg i9), .int (wd i9), .int (nI i9), .int (hs i9), .int (bf i9)])) := fun i9 h9 => k235 _ _ (F267 i9 h9) (z_ne (F267 i9 h9) a228 rfl) (z_ne (F267 i9 h9) a230 rfl)
      have F269 : ∀ i9 : Nat, i9 < nn → f1 (pt i9) = some (.inl (cy 1, (ln i9), .inr (.inl (pp i9)))) := fun i9 h9 => k4 _ _ (hP i9 h9) (z_neO (hP i9 h9) x_fa rfl)
      have F270 : ∀ i9 : Nat, i9 < nn → f7 (pt i9) = some (.inl (cy 1, (ln i9), .inr (.inl (pp i9)))) := fun i9 h9 => k9 _ _ (F269 i9 h9) 
      have F271 : ∀ i9 : Nat, i9 < nn → f231 (pt i9) = some (.inl (cy 1, (ln i9), .inr (.inl (pp i9)))) := fun i9 h9 => k235 _ _ (F270 i9 h9) (z_neO (F270 i9 h9) a228 rfl) (z_neA (F270 i9 h9) a230 rfl)
      have F272 : ∀ i9 : Nat, i9 < nf → f1 (fq i9) = some (.inr (3, [.ref (fk i9), .int (nI (fz i9))])) := fun i9 h9 => k4 _ _ (hFq i9 h9) (z_ne (hFq i9 h9) x_fa rfl)
      have F273 : ∀ i9 : Nat, i9 < nf → f7 (fq i9) = some (.inr (3, [.ref (fk i9), .int (nI (fz i9))])) := fun i9 h9 => k9 _ _ (F272 i9 h9) 
      have F274 : ∀ i9 : Nat, i9 < nf → f231 (fq i9) = some (.inr (3, [.ref (fk i9), .int (nI (fz i9))])) := fun i9 h9 => k235 _ _ (F273 i9 h9) (z_ne (F273 i9 h9) a228 rfl) (z_ne (F273 i9 h9) a230 rfl)
      have F275 : ∀ i9 : Nat, i9 < nf → f1 (fk i9) = some (.inl (cy 0, 4, .inl (fc i9))) := fun i9 h9 => k4 _ _ (hFk i9 h9) (z_ne (hFk i9 h9) x_fa rfl)
      have F276 : ∀ i9 : Nat, i9 < nf → f7 (fk i9) = some (.inl (cy 0, 4, .inl (fc i9))) := fun i9 h9 => k9 _ _ (F275 i9 h9) 
      have F277 : ∀ i9 : Nat, i9 < nf → f231 (fk i9) = some (.inl (cy 0, 4, .inl (fc i9))) := fun i9 h9 => k235 _ _ (F276 i9 h9) (z_ne (F276 i9 h9) a228 rfl) (z_ne (F276 i9 h9) a230 rfl)
      have F278 : ∀ i9 : Nat, i9 < nc → f1 (cn i9) = some (.inr (0, [.int (ce i9), .int (cm i9)])) := fun i9 h9 => k4 _ _ (hCn i9 h9) (z_ne (hCn i9 h9) x_fa rfl)
      have F279 : ∀ i9 : Nat, i9 < nc → f7 (cn i9) = some (.inr (0, [.int (ce i9), .int (cm i9)])) := fun i9 h9 => k9 _ _ (F278 i9 h9) 
      have F280 : ∀ i9 : Nat, i9 < nc → f231 (cn i9) = some (.inr (0, [.int (ce i9), .int (cm i9)])) := fun i9 h9 => k235 _ _ (F279 i9 h9) (z_ne (F279 i9 h9) a228 rfl) (z_ne (F279 i9 h9) a230 rfl)
      have F281 : ∀ i9 : Nat, i9 < 4 → f1 (ea i9) = some (.inr (1, [.ref (ma i9), .int (nI (sq i9))])) := fun i9 h9 => k4 _ _ (hEa i9 h9) (z_ne (hEa i9 h9) x_fa rfl)
      have F282 : ∀ i9 : Nat, i9 < 4 → f7 (ea i9) = some (.inr (1, [.ref (ma i9), .int (nI (sq i9))])) := fun i9 h9 => k9 _ _ (F281 i9 h9) 
      have F283 : ∀ i9 : Nat, i9 < 4 → f231 (ea i9) = some (.inr (1, [.ref (ma i9), .int (nI (sq i9))])) := fun i9 h9 => k235 _ _ (F282 i9 h9) (z_ne (F282 i9 h9) a228 rfl) (z_ne (F282 i9 h9) a230 rfl)
      have F284 : ∀ i9 : Nat, i9 < 4 → f1 (ma i9) = some (.inl (cy 0, 60, .inl (mb i9))) := fun i9 h9 => k4 _ _ (hMa i9 h9) (z_ne (hMa i9 h9) x_fa rfl)
      have F285 : ∀ i9 : Nat, i9 < 4 → f7 (ma i9) = some (.inl (cy 0, 60, .inl (mb i9))) := fun i9 h9 => k9 _ _ (F284 i9 h9) 
      have F286 : ∀ i9 : Nat, i9 < 4 → f231 (ma i9) = some (.inl (cy 0, 60, .inl (mb i9))) := fun i9 h9 => k235 _ _ (F285 i9 h9) (z_ne (F285 i9 h9) a228 rfl) (z_ne (F285 i9 h9) a230 rfl)
      exact z_iret C hr rfl hz hS ⟨7, 1, 1, (upd gv 7 (gv 7 + 1)), nl, gu, nn, ga, gr, fg, pt, kd, ln, pp, wg, wd, hs, bf, nf, gf, fq, fk, fz, fc, nc, gc, cn, ce, cm, sq, mb, ks, kk, kv, lk, (by simp [h60, c10, c11]), rfl, (by rw [if_neg (by decide)]), ⟨a236, a233, a234, a238, a241, a244, a247, a250, a253, a256, a259, a262, a265, F268, F271, F274, F277, F280, F283, F286, hn60, hl12, hf6, hc60, hs40, hga, hgr, hln, hk5, hk4, hfi, hpi, har, hgf, hfz, hgc, hG, hsq, hei, hmi, kne, hca, hcr, hlk⟩⟩ (Nat.le_of_ble_eq_true rfl) (Nat.le_of_ble_eq_true rfl) dX7_span_34
  · have a287 : f1 fi = some (.inr (5, [.ref al, .ref ra, .int (nI nn)])) := k4 _ _ x_fi (z_ne x_fi x_fa rfl)
    refine z_callVi (As := []) C hz hS hA hl (k_X5_isFull_B l D cy f1 fi al ra nn a287 hn60 h60) zyX5_isFull mMX7_79 a287 zl5 rfl rfl (Nat.le_of_ble_eq_true rfl) ⟨Nat.le_of_ble_eq_true rfl, Nat.le_of_ble_eq_true rfl⟩ ⟨Nat.le_of_ble_eq_true rfl, Nat.le_of_ble_eq_true rfl⟩ dX7_span_11 (fun r f288 H locs h289 hz hS => ?_)
    obtain ⟨rfl, k290⟩ := h289
    refine lv_if_eq (tgt := 20) hx hb dX7_span_14 (by decide) (fun c291 => ?_) (fun c291 => ?_)
    · exact absurd c291 (by decide)
    refine lv_bipush (v := (-3)) hx hb dX7_span_17 (by decide) ?_
    have a292 : f288 o = some (.inr (7, [.ref fa, .ref fi, .ref nu, .int (nI nl), .ref fm, .int (nI nf), .ref co, .int (nI nc), .ref en, .ref ke, .long lk])) := k290 _ _ a5 
    have a293 : f288 fa = some (.inr (2, [.int 0, .int (-1), .int 0, .ref ev])) := k290 _ _ a3 
    have a294 : f1 ev = some (.inl (cy 0, 8, .inl gv)) := k4 _ _ x_ev (z_ne x_ev x_fa rfl)
    have a295 : f288 ev = some (.inl (cy 0, 8, .inl gv)) := k290 _ _ a294 
    have a296 : f288 fi = some (.inr (5, [.ref al, .ref ra, .int (nI nn)])) := k290 _ _ a287 
    have a297 : f1 al = some (.inl (cy 3, 60, .inr (.inr (.inr (.inr ga))))) := k4 _ _ x_al (z_ne x_al x_fa rfl)
    have a298 : f288 al = some (.inl (cy 3, 60, .inr (.inr (.inr (.inr ga))))) := k290 _ _ a297 
    have a299 : f1 ra = some (.inl (cy 3, 60, .inr (.inr (.inr (.inr gr))))) := k4 _ _ x_ra (z_ne x_ra x_fa rfl)
    have a300 : f288 ra = some (.inl (cy 3, 60, .inr (.inr (.inr (.inr gr))))) := k290 _ _ a299 
    have a301 : f1 nu = some (.inl (cy 0, 12, .inl gu)) := k4 _ _ x_nu (z_ne x_nu x_fa rfl)
    have a302 : f288 nu = some (.inl (cy 0, 12, .inl gu)) := k290 _ _ a301 
    have a303 : f1 fm = some (.inl (cy 4, 6, .inr (.inr (.inr (.inr gf))))) := k4 _ _ x_fm (z_ne x_fm x_fa rfl)
    have a304 : f288 fm = some (.inl (cy 4, 6, .inr (.inr (.inr (.inr gf))))) := k290 _ _ a303 
    have a305 : f1 co = some (.inl (cy 5, 60, .inr (.inr (.inr (.inr gc))))) := k4 _ _ x_co (z_ne x_co x_fa rfl)
    have a306 : f288 co = some (.inl (cy 5, 60, .inr (.inr (.inr (.inr gc))))) := k290 _ _ a305 
    have a307 : f1 en = some (.inl (cy 6, 4, .inr (.inr (.inr (.inr ge))))) := k4 _ _ x_en (z_ne x_en x_fa rfl)
    have a308 : f288 en = some (.inl (cy 6, 4, .inr (.inr (.inr (.inr ge))))) := k290 _ _ a307 
    have a309 : f1 ke = some (.inr (6, [.ref kn, .ref vq, .int (nI ks)])) := k4 _ _ x_ke (z_ne x_ke x_fa rfl)
    have a310 : f288 ke = some (.inr (6, [.ref kn, .ref vq, .int (nI ks)])) := k290 _ _ a309 
    have a311 : f1 kn = some (.inl (cy 0, 40, .inl kk)) := k4 _ _ x_kn (z_ne x_kn x_fa rfl)
    have a312 : f288 kn = some (.inl (cy 0, 40, .inl kk)) := k290 _ _ a311 
    have a313 : f1 vq = some (.inl (cy 0, 40, .inl kv)) := k4 _ _ x_vq (z_ne x_vq x_fa rfl)
    have a314 : f288 vq = some (.inl (cy 0, 40, .inl kv)) := k290 _ _ a313 
    have F315 : ∀ i9 : Nat, i9 < nn → f1 (fg i9) = some (.inr (4, [.int (kd i9), .ref (pt i9), .long (wg i9), .int (wd i9), .int (nI i9), .int (hs i9), .int (bf i9)])) := fun i9 h9 => k4 _ _ (hF i9 h9) (z_ne (hF i9 h9) x_fa rfl)
    have F316 : ∀ i9 : Nat, i9 < nn → f288 (fg i9) = some (.inr (4, [.int (kd i9), .ref (pt i9), .long (wg i9), .int (wd i9), .int (nI i9), .int (hs i9), .int (bf i9)])) := fun i9 h9 => k290 _ _ (F315 i9 h9) 
    have F317 : ∀ i9 : Nat, i9 < nn → f1 (pt i9) = some (.inl (cy 1, (ln i9), .inr (.inl (pp i9)))) := fun i9 h9 => k4 _ _ (hP i9 h9) (z_neO (hP i9 h9) x_fa rfl)
    have F318 : ∀ i9 : Nat, i9 < nn → f288 (pt i9) = some (.inl (cy 1, (ln i9), .inr (.inl (pp i9)))) := fun i9 h9 => k290 _ _ (F317 i9 h9) 
    have F319 : ∀ i9 : Nat, i9 < nf → f1 (fq i9) = some (.inr (3, [.ref (fk i9), .int (nI (fz i9))])) := fun i9 h9 => k4 _ _ (hFq i9 h9) (z_ne (hFq i9 h9) x_fa rfl)
    have F320 : ∀ i9 : Nat, i9 < nf → f288 (fq i9) = some (.inr (3, [.ref (fk i9), .int (nI (fz i9))])) := fun i9 h9 => k290 _ _ (F319 i9 h9) 
    have F321 : ∀ i9 : Nat, i9 < nf → f1 (fk i9) = some (.inl (cy 0, 4, .inl (fc i9))) := fun i9 h9 => k4 _ _ (hFk i9 h9) (z_ne (hFk i9 h9) x_fa rfl)
    have F322 : ∀ i9 : Nat, i9 < nf → f288 (fk i9) = some (.inl (cy 0, 4, .inl (fc i9))) := fun i9 h9 => k290 _ _ (F321 i9 h9) 
    have F323 : ∀ i9 : Nat, i9 < nc → f1 (cn i9) = some (.inr (0, [.int (ce i9), .int (cm i9)])) := fun i9 h9 => k4 _ _ (hCn i9 h9) (z_ne (hCn i9 h9) x_fa rfl)
    have F324 : ∀ i9 : Nat, i9 < nc → f288 (cn i9) = some (.inr (0, [.int (ce i9), .int (cm i9)])) := fun i9 h9 => k290 _ _ (F323 i9 h9) 
    have F325 : ∀ i9 : Nat, i9 < 4 → f1 (ea i9) = some (.inr (1, [.ref (ma i9), .int (nI (sq i9))])) := fun i9 h9 => k4 _ _ (hEa i9 h9) (z_ne (hEa i9 h9) x_fa rfl)
    have F326 : ∀ i9 : Nat, i9 < 4 → f288 (ea i9) = some (.inr (1, [.ref (ma i9), .int (nI (sq i9))])) := fun i9 h9 => k290 _ _ (F325 i9 h9) 
    have F327 : ∀ i9 : Nat, i9 < 4 → f1 (ma i9) = some (.inl (cy 0, 60, .inl (mb i9))) := fun i9 h9 => k4 _ _ (hMa i9 h9) (z_ne (hMa i9 h9) x_fa rfl)
    have F328 : ∀ i9 : Nat, i9 < 4 → f288 (ma i9) = some (.inl (cy 0, 60, .inl (mb i9))) := fun i9 h9 => k290 _ _ (F327 i9 h9) 
    exact z_iret C hr rfl hz hS ⟨0, (-1), 0, gv, nl, gu, nn, ga, gr, fg, pt, kd, ln, pp, wg, wd, hs, bf, nf, gf, fq, fk, fz, fc, nc, gc, cn, ce, cm, sq, mb, ks, kk, kv, lk, (by simp [h60, c291]), rfl, (by rw [if_neg (by decide)]), ⟨a292, a293, a295, a296, a298, a300, a302, a304, a306, a308, a310, a312, a314, F316, F318, F320, F322, F324, F326, F328, hn60, hl12, hf6, hc60, hs40, hga, hgr, hln, hk5, hk4, hfi, hpi, har, hgf, hfz, hgc, hG, hsq, hei, hmi, kne, hca, hcr, hlk⟩⟩ (Nat.le_of_ble_eq_true rfl) (Nat.le_of_ble_eq_true rfl) dX7_span_19
theorem z_absne {z : Int32} (h : ¬ z = 0) : ¬ (if 0 < z.toInt64 then z.toInt64 else -z.toInt64) = 0 := by
  have key : ¬ z.toInt64 = 0 := by
    intro q
    apply h
    have q2 : z.toInt64.toInt = (0 : Int64).toInt := by rw [q]
    rw [Int32.toInt_toInt64] at q2
    exact Int32.toInt_inj.mp (by rw [q2]; rfl)
  intro hh
  split at hh
  · exact key hh
  · apply key
    have q3 : - -z.toInt64 = -0 := by rw [hh]
    simpa using q3
abbrev rmX7_wide : Room := { frames := 6, cells := 2, slots := 10, locals := 140 }
set_option maxHeartbeats 4000000 in
set_option maxRecDepth 100000 in
theorem k_X7_wide (l : Launch) (D : va_G) (cy : Nat → ClassId) (f : zM) (o : Nat) (fa : Nat) (fi : Nat) (nu : Nat) (fm : Nat) (co : Nat) (en : Nat) (ke : Nat) (ev : Nat) (al : Nat) (ra : Nat) (kn : Nat) (vq : Nat) (ge : Nat → Option Nat) (ea : Nat → Nat) (ma : Nat → Nat) (u1 : Int32) (u2 : Int32) (u3 : Int32) (gv : Nat → Int32) (nl : Nat) (gu : Nat → Int32) (nn : Nat) (ga : Nat → Option Nat) (gr : Nat → Option Nat) (fg : Nat → Nat) (pt : Nat → Nat) (kd : Nat → Int32) (ln : Nat → Nat) (pp : Nat → Nat → Int64) (wg : Nat → Int64) (wd : Nat → Int32) (hs : Nat → Int32) (bf : Nat → Int32) (nf : Nat) (gf : Nat → Option Nat) (fq : Nat → Nat) (fk : Nat → Nat) (fz : Nat → Nat) (fc : Nat → Nat → Int32) (nc : Nat) (gc : Nat → Option Nat) (cn : Nat → Nat) (ce : Nat → Int32) (cm : Nat → Int32) (sq : Nat → Nat) (mb : Nat → Nat → Int32) (ks : Nat) (kk : Nat → Int32) (kv : Nat → Int32) (lk : Int64) (x : Int32) (y : Int32) (z : Int32)    (hI : zIX cy f o fa fi nu fm co en ke ev al ra kn vq ge ea ma u1 u2 u3 gv nl gu nn ga gr fg pt kd ln pp wg wd hs bf nf gf fq fk fz fc nc gc cn ce cm sq mb ks kk kv lk) : zCi l D cy yX7_wide cX7_wide 6 (Option.some Jvm.ClassFile.FieldType.int) rmX7_wide [.ref o, .int x, .int y, .int z] f (fun (r : Int32) (f1 : zM) => ∃ (u11 : Int32) (u21 : Int32) (u31 : Int32) (gv1 : Nat → Int32) (nl1 : Nat) (gu1 : Nat → Int32) (nn1 : Nat) (ga1 : Nat → Option Nat) (gr1 : Nat → Option Nat) (fg1 : Nat → Nat) (pt1 : Nat → Nat) (kd1 : Nat → Int32) (ln1 : Nat → Nat) (pp1 : Nat → Nat → Int64) (wg1 : Nat → Int64) (wd1 : Nat → Int32) (hs1 : Nat → Int32) (bf1 : Nat → Int32) (nf1 : Nat) (gf1 : Nat → Option Nat) (fq1 : Nat → Nat) (fk1 : Nat → Nat) (fz1 : Nat → Nat) (fc1 : Nat → Nat → Int32) (nc1 : Nat) (gc1 : Nat → Option Nat) (cn1 : Nat → Nat) (ce1 : Nat → Int32) (cm1 : Nat → Int32) (sq1 : Nat → Nat) (mb1 : Nat → Nat → Int32) (ks1 : Nat) (kk1 : Nat → Int32) (kv1 : Nat → Int32) (lk1 : Int64), r = (if nn < 60 then (if x ≤ y then (if z = 0 then (-4) else if y - x - (y - x) / z * z = 0 then nI nn else (-4)) else (-4)) else (-3)) ∧ (nl1 = nl) ∧ (nn1 = if 0 ≤ r then nn + 1 else nn) ∧ zIX cy f1 o fa fi nu fm co en ke ev al ra kn vq ge ea ma u11 u21 u31 gv1 nl1 gu1 nn1 ga1 gr1 fg1 pt1 kd1 ln1 pp1 wg1 wd1 hs1 bf1 nf1 gf1 fq1 fk1 fz1 fc1 nc1 gc1 cn1 ce1 cm1 sq1 mb1 ks1 kk1 kv1 lk1) := by
  intro sz
  refine z_body (by decide +kernel) (Nat.le_of_ble_eq_true rfl) ?_
  intro p e s m below meth c ls C hr hin hsz hz hl
  subst hsz
  have hx := C.1
  have hb := C.2.1
  have hA : ∀ q, s.heap.size ≤ q → zA f s.heap.size q := fun q h => Or.inr h
  have hS : va_S (zA f s.heap.size) s.heap s.heap [] := va_S.rf
  have hl : lv_has ls 6 [(0, .ref o), (1, .int x), (2, .int y), (3, .int z)] := hl
  obtain ⟨x_o, x_fa, x_ev, x_fi, x_al, x_ra, x_nu, x_fm, x_co, x_en, x_ke, x_kn, x_vq, hF, hP, hFq, hFk, hCn, hEa, hMa, hn60, hl12, hf6, hc60, hs40, hga, hgr, hln, hk5, hk4, hfi, hpi, har, hgf, hfz, hgc, hG, hsq, hei, hmi, kne, hca, hcr, hlk⟩ := id hI
  refine lv_aload_n hx hb dX7_wide_0 rfl (lv_at hl 0 rfl) ?_
  refine z_get (v := .ref fa) C hz x_o zl7 mFX7_10 (by decide) rfl dX7_wide_1 ?_
  refine z_callVv (As := []) C hz hS hA hl (k_X2_none l D cy f fa u1 u2 u3 ev x_fa ) zyX2_none mMX7_76 x_fa zl2 rfl rfl (Nat.le_of_ble_eq_true rfl) ⟨Nat.le_of_ble_eq_true rfl, Nat.le_of_ble_eq_true rfl⟩ ⟨Nat.le_of_ble_eq_true rfl, Nat.le_of_ble_eq_true rfl⟩ dX7_wide_4 (fun  f1 H locs h2 hz hS => ?_)
  obtain ⟨a3, k4⟩ := h2
  refine lv_aload_n hx hb dX7_wide_7 rfl (lv_at hl 0 rfl) ?_
  have a5 : f1 o = some (.inr (7, [.ref fa, .ref fi, .ref nu, .int (nI nl), .ref fm, .int (nI nf), .ref co, .int (nI nc), .ref en, .ref ke, .long lk])) := k4 _ _ x_o (z_ne x_o x_fa rfl)
  refine z_get (v := .ref fi) C hz a5 zl7 mFX7_19 (by decide) rfl dX7_wide_8 ?_
  by_cases h60 : nn < 60
  · have a6 : f1 fi = some (.inr (5, [.ref al, .ref ra, .int (nI nn)])) := k4 _ _ x_fi (z_ne x_fi x_fa rfl)
    refine z_callVi (As := []) C hz hS hA hl (k_X5_isFull_A l D cy f1 fi al ra nn a6 hn60 h60) zyX5_isFull mMX7_79 a6 zl5 rfl rfl (Nat.le_of_ble_eq_true rfl) ⟨Nat.le_of_ble_eq_true rfl, Nat.le_of_ble_eq_true rfl⟩ ⟨Nat.le_of_ble_eq_true rfl, Nat.le_of_ble_eq_true rfl⟩ dX7_wide_11 (fun r f7 H locs h8 hz hS => ?_)
    obtain ⟨rfl, k9⟩ := h8
    refine lv_if_eq (tgt := 20) hx hb dX7_wide_14 (by decide) (fun c10 => ?_) (fun c10 => ?_)
    rotate_left
    · exact absurd c10 (by decide)
    refine lv_iload_n hx hb dX7_wide_20 rfl (lv_at hl 1 rfl) ?_
    refine lv_iload_n hx hb dX7_wide_21 rfl (lv_at hl 2 rfl) ?_
    refine lv_icmp_le (tgt := 35) hx hb dX7_wide_22 (by decide) (fun c11 => ?_) (fun c11 => ?_)
    · refine lv_iload_n hx hb dX7_wide_35 rfl (lv_at hl 3 rfl) ?_
      refine lv_if_ne (tgt := 50) hx hb dX7_wide_36 (by decide) (fun c12 => ?_) (fun c12 => ?_)
      · refine lv_iload_n hx hb dX7_wide_50 rfl (lv_at hl 2 rfl) ?_
        refine lv_iload_n hx hb dX7_wide_51 rfl (lv_at hl 1 rfl) ?_
        refine lv_isub hx hb dX7_wide_52 ?_
        refine lv_iload_n hx hb dX7_wide_53 rfl (lv_at hl 3 rfl) ?_
        refine lv_irem hx hb dX7_wide_54 c12 ?_
        refine lv_if_eq (tgt := 68) hx hb dX7_wide_55 (by decide) (fun c13 => ?_) (fun c13 => ?_)
        · refine lv_iload_n hx hb dX7_wide_68 rfl (lv_at hl 1 rfl) ?_
          refine lv_iload_n hx hb dX7_wide_69 rfl (lv_at hl 2 rfl) ?_
          refine z_callSl (As := [.int x, .int y]) C hz hS hA hl (k_X7_lengthOf l D cy f7 x y  ) zyX7_lengthOf mMX7_100 rfl rfl (Nat.le_of_ble_eq_true rfl) ⟨Nat.le_of_ble_eq_true rfl, Nat.le_of_ble_eq_true rfl⟩ ⟨Nat.le_of_ble_eq_true rfl, Nat.le_of_ble_eq_true rfl⟩ dX7_wide_70 (fun r16 f14 H locs h15 hz hS => ?_)
          have k17 := h15
          refine lv_iload_n hx hb dX7_wide_73 rfl (lv_at hl 3 rfl) ?_
          refine lv_i2l (v := z.toInt64) hx hb dX7_wide_74 rfl ?_
          refine va_mabs_long hx hb (by rw [C.2.2.1]; exact hl.1.symm) C.2.2.2.1 (C.2.2.2.2.1 _ mMX7_107) (C.2.2.2.2.1 _ mS_yAbs) (C.2.2.2.2.1 _ mIn_RJ9) (C.2.2.2.2.1 _ mC_yAbs) (Nat.le_of_ble_eq_true rfl) (Nat.le_of_ble_eq_true rfl) (Nat.le_of_ble_eq_true rfl) (Nat.le_of_ble_eq_true rfl) dX7_wide_75 ?_
          refine lv_ldiv hx hb dX7_wide_78 (z_absne c12) ?_
          refine lv_lconst (v := 1) hx hb dX7_wide_79 (by decide) ?_
          refine lv_ladd hx hb dX7_wide_80 ?_
          refine lv_lstore (lv' := [(4, .long ((r16 / (if 0 < z.toInt64 then z.toInt64 else -z.toInt64)) + 1)), (0, .ref o), (1, .int x), (2, .int y), (3, .int z)]) hx hb dX7_wide_81 hl (by decide) rfl (fun ls hl => ?_)
          refine lv_aload_n hx hb dX7_wide_83 rfl (lv_at hl 1 rfl) ?_
          have a18 : f7 o = some (.inr (7, [.ref fa, .ref fi, .ref nu, .int (nI nl), .ref fm, .int (nI nf), .ref co, .int (nI nc), .ref en, .ref ke, .long lk])) := k9 _ _ a5 
          have a19 : f14 o = some (.inr (7, [.ref fa, .ref fi, .ref nu, .int (nI nl), .ref fm, .int (nI nf), .ref co, .int (nI nc), .ref en, .ref ke, .long lk])) := k17 _ _ a18 
          refine z_get (v := .ref fi) C hz a19 zl7 mFX7_19 (by decide) rfl dX7_wide_84 ?_
          refine z_new (fs := [.int 0, .null, .long 0, .int 0, .int 0, .int 0, .int 0]) C hz hS hA zl4 mLX7_83 mIa_RX4 mIn_RX4 (by decide +kernel) (Nat.le_of_ble_eq_true rfl) (Nat.le_of_ble_eq_true rfl) dX7_wide_87 (fun q20 H f22 u21 a23 k24 hz hS => ?_)
          refine lv_dup hx hb dX7_wide_90 rfl ?_
          refine lv_iconst (v := 2) hx hb dX7_wide_91 (by decide) ?_
          refine lv_iconst (v := 3) hx hb dX7_wide_92 (by decide) ?_
          refine z_newa (atype := .long) (t0 := 1) (N' := 3) (x := (.inr (.inl (fun _ => 0)))) C hz hS hA rfl mA_long rfl (fun _ => rfl) (by decide) (Nat.le_of_ble_eq_true rfl) (by decide) (Nat.le_of_ble_eq_true rfl) (Nat.le_of_ble_eq_true rfl) dX7_wide_93 (fun q25 H f27 u26 a28 k29 hz hS => ?_)
          refine lv_dup hx hb dX7_wide_95 rfl ?_
          refine lv_iconst (v := 0) hx hb dX7_wide_96 (by decide) ?_
          refine lv_iload_n hx hb dX7_wide_97 rfl (lv_at hl 2 rfl) ?_
          refine lv_i2l (v := x.toInt64) hx hb dX7_wide_98 rfl ?_
          refine z_last 0 C hz hS a28 (by decide) (Nat.le_of_ble_eq_true rfl) (by omega) dX7_wide_99 (fun H locs f30 a31 k32 hz hS => ?_)
          refine lv_dup hx hb dX7_wide_100 rfl ?_
          refine lv_iconst (v := 1) hx hb dX7_wide_101 (by decide) ?_
          refine lv_iload_n hx hb dX7_wide_102 rfl (lv_at hl 3 rfl) ?_
          refine lv_i2l (v := y.toInt64) hx hb dX7_wide_103 rfl ?_
          refine z_last 1 C hz hS a31 (by decide) (Nat.le_of_ble_eq_true rfl) (by omega) dX7_wide_104 (fun H locs f33 a34 k35 hz hS => ?_)
          refine lv_dup hx hb dX7_wide_105 rfl ?_
          refine lv_iconst (v := 2) hx hb dX7_wide_106 (by decide) ?_
          refine lv_iload_n hx hb dX7_wide_107 rfl (lv_at hl 4 rfl) ?_
          refine lv_i2l (v := z.toInt64) hx hb dX7_wide_108 rfl ?_
          refine z_last 2 C hz hS a34 (by decide) (Nat.le_of_ble_eq_true rfl) (by omega) dX7_wide_109 (fun H locs f36 a37 k38 hz hS => ?_)
          refine lv_lload hx hb dX7_wide_110 (lv_at hl 0 rfl) ?_
          have a39 : f27 q20 = some (.inr (4, [.int 0, .null, .long 0, .int 0, .int 0, .int 0, .int 0])) := (k29 _ (z_nn u26 a23)).trans a23
          have a40 : f30 q20 = some (.inr (4, [.int 0, .null, .long 0, .int 0, .int 0, .int 0, .int 0])) := (k32 _ (z_nn u26 a23)).trans a39
          have a41 : f33 q20 = some (.inr (4, [.int 0, .null, .long 0, .int 0, .int 0, .int 0, .int 0])) := (k35 _ (z_nn u26 a23)).trans a40
          have a42 : f36 q20 = some (.inr (4, [.int 0, .null, .long 0, .int 0, .int 0, .int 0, .int 0])) := (k38 _ (z_nn u26 a23)).trans a41
          refine z_callIv (ret := none) (As := [.int 2, .ref q25, .long ((r16 / (if 0 < z.toInt64 then z.toInt64 else -z.toInt64)) + 1)]) C hz hS hA hl (k_X4_init l D cy f36 q20 2 q25 ((r16 / (if 0 < z.toInt64 then z.toInt64 else -z.toInt64)) + 1) a42 ) zyX4_init mMX7_89 rfl rfl (Nat.le_of_ble_eq_true rfl) ⟨Nat.le_of_ble_eq_true rfl, Nat.le_of_ble_eq_true rfl⟩ ⟨Nat.le_of_ble_eq_true rfl, Nat.le_of_ble_eq_true rfl⟩ dX7_wide_112 (fun  f43 H locs h44 hz hS => ?_)
          obtain ⟨a45, k46⟩ := h44
          have a47 : f7 fi = some (.inr (5, [.ref al, .ref ra, .int (nI nn)])) := k9 _ _ a6 
          have a48 : f14 fi = some (.inr (5, [.ref al, .ref ra, .int (nI nn)])) := k17 _ _ a47 
          have a49 : f22 fi = some (.inr (5, [.ref al, .ref ra, .int (nI nn)])) := (k24 _ (z_nn u21 a48)).trans a48
          have a50 : f27 fi = some (.inr (5, [.ref al, .ref ra, .int (nI nn)])) := (k29 _ (z_nn u26 a49)).trans a49
          have a51 : f30 fi = some (.inr (5, [.ref al, .ref ra, .int (nI nn)])) := (k32 _ (z_nn u26 a49)).trans a50
          have a52 : f33 fi = some (.inr (5, [.ref al, .ref ra, .int (nI nn)])) := (k35 _ (z_nn u26 a49)).trans a51
          have a53 : f36 fi = some (.inr (5, [.ref al, .ref ra, .int (nI nn)])) := (k38 _ (z_nn u26 a49)).trans a52
          have a54 : f43 fi = some (.inr (5, [.ref al, .ref ra, .int (nI nn)])) := k46 _ _ a53 (z_nn u21 a48)
          have a55 : f1 al = some (.inl (cy 3, 60, .inr (.inr (.inr (.inr ga))))) := k4 _ _ x_al (z_ne x_al x_fa rfl)
          have a56 : f7 al = some (.inl (cy 3, 60, .inr (.inr (.inr (.inr ga))))) := k9 _ _ a55 
          have a57 : f14 al = some (.inl (cy 3, 60, .inr (.inr (.inr (.inr ga))))) := k17 _ _ a56 
          have a58 : f22 al = some (.inl (cy 3, 60, .inr (.inr (.inr (.inr ga))))) := (k24 _ (z_nn u21 a57)).trans a57
          have a59 : f27 al = some (.inl (cy 3, 60, .inr (.inr (.inr (.inr ga))))) := (k29 _ (z_nn u26 a58)).trans a58
          have a60 : f30 al = some (.inl (cy 3, 60, .inr (.inr (.inr (.inr ga))))) := (k32 _ (z_nn u26 a58)).trans a59
          have a61 : f33 al = some (.inl (cy 3, 60, .inr (.inr (.inr (.inr ga))))) := (k35 _ (z_nn u26 a58)).trans a60
          have a62 : f36 al = some (.inl (cy 3, 60, .inr (.inr (.inr (.inr ga))))) := (k38 _ (z_nn u26 a58)).trans a61
          have a63 : f43 al = some (.inl (cy 3, 60, .inr (.inr (.inr (.inr ga))))) := k46 _ _ a62 (z_nn u21 a57)
          have a64 : f1 ra = some (.inl (cy 3, 60, .inr (.inr (.inr (.inr gr))))) := k4 _ _ x_ra (z_ne x_ra x_fa rfl)
          have a65 : f7 ra = some (.inl (cy 3, 60, .inr (.inr (.inr (.inr gr))))) := k9 _ _ a64 
          have a66 : f14 ra = some (.inl (cy 3, 60, .inr (.inr (.inr (.inr gr))))) := k17 _ _ a65 
          have a67 : f22 ra = some (.inl (cy 3, 60, .inr (.inr (.inr (.inr gr))))) := (k24 _ (z_nn u21 a66)).trans a66
          have a68 : f27 ra = some (.inl (cy 3, 60, .inr (.inr (.inr (.inr gr))))) := (k29 _ (z_nn u26 a67)).trans a67
          have a69 : f30 ra = some (.inl (cy 3, 60, .inr (.inr (.inr (.inr gr))))) := (k32 _ (z_nn u26 a67)).trans a68
          have a70 : f33 ra = some (.inl (cy 3, 60, .inr (.inr (.inr (.inr gr))))) := (k35 _ (z_nn u26 a67)).trans a69
          have a71 : f36 ra = some (.inl (cy 3, 60, .inr (.inr (.inr (.inr gr))))) := (k38 _ (z_nn u26 a67)).trans a70
          have a72 : f43 ra = some (.inl (cy 3, 60, .inr (.inr (.inr (.inr gr))))) := k46 _ _ a71 (z_nn u21 a66)
          have a73 : f43 q25 = some (.inl (cy 1, 3, .inr (.inl (vp_updL (vp_updL (vp_updL (fun _ => 0) 0 x.toInt64) 1 y.toInt64) 2 z.toInt64)))) := k46 _ _ a37 (Ne.symm (z_nn u26 a23))
          have F74 : ∀ i9 : Nat, i9 < nn → f1 (fg i9) = some (.inr (4, [.int (kd i9), .ref (pt i9), .long (wg i9), .int (wd i9), .int (nI i9), .int (hs i9), .int (bf i9)])) := fun i9 h9 => k4 _ _ (hF i9 h9) (z_ne (hF i9 h9) x_fa rfl)
          have F75 : ∀ i9 : Nat, i9 < nn → f7 (fg i9) = some (.inr (4, [.int (kd i9), .ref (pt i9), .long (wg i9), .int (wd i9), .int (nI i9), .int (hs i9), .int (bf i9)])) := fun i9 h9 => k9 _ _ (F74 i9 h9) 
          have F76 : ∀ i9 : Nat, i9 < nn → f14 (fg i9) = some (.inr (4, [.int (kd i9), .ref (pt i9), .long (wg i9), .int (wd i9), .int (nI i9), .int (hs i9), .int (bf i9)])) := fun i9 h9 => k17 _ _ (F75 i9 h9) 
          have F77 : ∀ i9 : Nat, i9 < nn → f22 (fg i9) = some (.inr (4, [.int (kd i9), .ref (pt i9), .long (wg i9), .int (wd i9), .int (nI i9), .int (hs i9), .int (bf i9)])) := fun i9 h9 => (k24 _ (z_nn u21 (F76 i9 h9))).trans (F76 i9 h9)
          have F78 : ∀ i9 : Nat, i9 < nn → f27 (fg i9) = some (.inr (4, [.int (kd i9), .ref (pt i9), .long (wg i9), .int (wd i9), .int (nI i9), .int (hs i9), .int (bf i9)])) := fun i9 h9 => (k29 _ (z_nn u26 (F77 i9 h9))).trans (F77 i9 h9)
          have F79 : ∀ i9 : Nat, i9 < nn → f30 (fg i9) = some (.inr (4, [.int (kd i9), .ref (pt i9), .long (wg i9), .int (wd i9), .int (nI i9), .int (hs i9), .int (bf i9)])) := fun i9 h9 => (k32 _ (z_nn u26 (F77 i9 h9))).trans (F78 i9 h9)
          have F80 : ∀ i9 : Nat, i9 < nn → f33 (fg i9) = some (.inr (4, [.int (kd i9), .ref (pt i9), .long (wg i9), .int (wd i9), .int (nI i9), .int (hs i9), .int (bf i9)])) := fun i9 h9 => (k35 _ (z_nn u26 (F77 i9 h9))).trans (F79 i9 h9)
          have F81 : ∀ i9 : Nat, i9 < nn → f36 (fg i9) = some (.inr (4, [.int (kd i9), .ref (pt i9), .long (wg i9), .int (wd i9), .int (nI i9), .int (hs i9), .int (bf i9)])) := fun i9 h9 => (k38 _ (z_nn u26 (F77 i9 h9))).trans (F80 i9 h9)
          have F82 : ∀ i9 : Nat, i9 < nn → f43 (fg i9) = some (.inr (4, [.int (kd i9), .ref (pt i9), .long (wg i9), .int (wd i9), .int (nI i9), .int (hs i9), .int (bf i9)])) := fun i9 h9 => k46 _ _ (F81 i9 h9) (z_nn u21 (F76 i9 h9))
          have F83 : ∀ i9 : Nat, i9 < nn → f1 (pt i9) = some (.inl (cy 1, (ln i9), .inr (.inl (pp i9)))) := fun i9 h9 => k4 _ _ (hP i9 h9) (z_neO (hP i9 h9) x_fa rfl)
          have F84 : ∀ i9 : Nat, i9 < nn → f7 (pt i9) = some (.inl (cy 1, (ln i9), .inr (.inl (pp i9)))) := fun i9 h9 => k9 _ _ (F83 i9 h9) 
          have F85 : ∀ i9 : Nat, i9 < nn → f14 (pt i9) = some (.inl (cy 1, (ln i9), .inr (.inl (pp i9)))) := fun i9 h9 => k17 _ _ (F84 i9 h9) 
          have F86 : ∀ i9 : Nat, i9 < nn → f22 (pt i9) = some (.inl (cy 1, (ln i9), .inr (.inl (pp i9)))) := fun i9 h9 => (k24 _ (z_nn u21 (F85 i9 h9))).trans (F85 i9 h9)
          have F87 : ∀ i9 : Nat, i9 < nn → f27 (pt i9) = some (.inl (cy 1, (ln i9), .inr (.inl (pp i9)))) := fun i9 h9 => (k29 _ (z_nn u26 (F86 i9 h9))).trans (F86 i9 h9)
          have F88 : ∀ i9 : Nat, i9 < nn → f30 (pt i9) = some (.inl (cy 1, (ln i9), .inr (.inl (pp i9)))) := fun i9 h9 => (k32 _ (z_nn u26 (F86 i9 h9))).trans (F87 i9 h9)
          have F89 : ∀ i9 : Nat, i9 < nn → f33 (pt i9) = some (.inl (cy 1, (ln i9), .inr (.inl (pp i9)))) := fun i9 h9 => (k35 _ (z_nn u26 (F86 i9 h9))).trans (F88 i9 h9)
          have F90 : ∀ i9 : Nat, i9 < nn → f36 (pt i9) = some (.inl (cy 1, (ln i9), .inr (.inl (pp i9)))) := fun i9 h9 => (k38 _ (z_nn u26 (F86 i9 h9))).trans (F89 i9 h9)
          have F91 : ∀ i9 : Nat, i9 < nn → f43 (pt i9) = some (.inl (cy 1, (ln i9), .inr (.inl (pp i9)))) := fun i9 h9 => k46 _ _ (F90 i9 h9) (z_nn u21 (F85 i9 h9))
          refine z_callVi (As := [.ref q20]) C hz hS hA hl (k_X5_add l D cy f43 fi al ra ga gr nn fg pt kd ln pp wg wd hs bf q20 2 q25 ((r16 / (if 0 < z.toInt64 then z.toInt64 else -z.toInt64)) + 1) 0 (-1) 0 0 3 (vp_updL (vp_updL (vp_updL (fun _ => 0) 0 x.toInt64) 1 y.toInt64) 2 z.toInt64) a54 a63 a72 a45 a73 F82 F91 h60 hga hgr hln hk5 hfi (fun j9 h9 => z_nn u21 (F76 j9 h9)) (by omega) (fun h9 => absurd h9 (by decide)) har) zyX5_add mMX7_92 a54 zl5 rfl rfl (Nat.le_of_ble_eq_true rfl) ⟨Nat.le_of_ble_eq_true rfl, Nat.le_of_ble_eq_true rfl⟩ ⟨Nat.le_of_ble_eq_true rfl, Nat.le_of_ble_eq_true rfl⟩ dX7_wide_115 (fun r f92 H locs h93 hz hS => ?_)
          obtain ⟨hq_94, bq_95, gr_96, bf_97, rfl, p98, a99, a100, a101, F102, F103, k104⟩ := h93
          have a105 : f22 o = some (.inr (7, [.ref fa, .ref fi, .ref nu, .int (nI nl), .ref fm, .int (nI nf), .ref co, .int (nI nc), .ref en, .ref ke, .long lk])) := (k24 _ (z_nn u21 a19)).trans a19
          have a106 : f27 o = some (.inr (7, [.ref fa, .ref fi, .ref nu, .int (nI nl), .ref fm, .int (nI nf), .ref co, .int (nI nc), .ref en, .ref ke, .long lk])) := (k29 _ (z_nn u26 a105)).trans a105
          have a107 : f30 o = some (.inr (7, [.ref fa, .ref fi, .ref nu, .int (nI nl), .ref fm, .int (nI nf), .ref co, .int (nI nc), .ref en, .ref ke, .long lk])) := (k32 _ (z_nn u26 a105)).trans a106
          have a108 : f33 o = some (.inr (7, [.ref fa, .ref fi, .ref nu, .int (nI nl), .ref fm, .int (nI nf), .ref co, .int (nI nc), .ref en, .ref ke, .long lk])) := (k35 _ (z_nn u26 a105)).trans a107
          have a109 : f36 o = some (.inr (7, [.ref fa, .ref fi, .ref nu, .int (nI nl), .ref fm, .int (nI nf), .ref co, .int (nI nc), .ref en, .ref ke, .long lk])) := (k38 _ (z_nn u26 a105)).trans a108
          have a110 : f43 o = some (.inr (7, [.ref fa, .ref fi, .ref nu, .int (nI nl), .ref fm, .int (nI nf), .ref co, .int (nI nc), .ref en, .ref ke, .long lk])) := k46 _ _ a109 (z_nn u21 a19)
          have a111 : f92 o = some (.inr (7, [.ref fa, .ref fi, .ref nu, .int (nI nl), .ref fm, .int (nI nf), .ref co, .int (nI nc), .ref en, .ref ke, .long lk])) := k104 _ _ a110 (z_ne a110 a54 rfl) (z_ne a110 a63 rfl) (z_ne a110 a72 rfl) (z_nn u21 a19) (fun j9 h8 => (z_ne a110 (F82 j9 h8) rfl))
          have a112 : f7 fa = some (.inr (2, [.int 0, .int (-1), .int 0, .ref ev])) := k9 _ _ a3 
          have a113 : f14 fa = some (.inr (2, [.int 0, .int (-1), .int 0, .ref ev])) := k17 _ _ a112 
          have a114 : f22 fa = some (.inr (2, [.int 0, .int (-1), .int 0, .ref ev])) := (k24 _ (z_nn u21 a113)).trans a113
          have a115 : f27 fa = some (.inr (2, [.int 0, .int (-1), .int 0, .ref ev])) := (k29 _ (z_nn u26 a114)).trans a114
          have a116 : f30 fa = some (.inr (2, [.int 0, .int (-1), .int 0, .ref ev])) := (k32 _ (z_nn u26 a114)).trans a115
          have a117 : f33 fa = some (.inr (2, [.int 0, .int (-1), .int 0, .ref ev])) := (k35 _ (z_nn u26 a114)).trans a116
          have a118 : f36 fa = some (.inr (2, [.int 0, .int (-1), .int 0, .ref ev])) := (k38 _ (z_nn u26 a114)).trans a117
          have a119 : f43 fa = some (.inr (2, [.int 0, .int (-1), .int 0, .ref ev])) := k46 _ _ a118 (z_nn u21 a113)
          have a120 : f92 fa = some (.inr (2, [.int 0, .int (-1), .int 0, .ref ev])) := k104 _ _ a119 (z_ne a119 a54 rfl) (z_ne a119 a63 rfl) (z_ne a119 a72 rfl) (z_nn u21 a113) (fun j9 h8 => (z_ne a119 (F82 j9 h8) rfl))
          have a121 : f1 ev = some (.inl (cy 0, 8, .inl gv)) := k4 _ _ x_ev (z_ne x_ev x_fa rfl)
          have a122 : f7 ev = some (.inl (cy 0, 8, .inl gv)) := k9 _ _ a121 
          have a123 : f14 ev = some (.inl (cy 0, 8, .inl gv)) := k17 _ _ a122 
          have a124 : f22 ev = some (.inl (cy 0, 8, .inl gv)) := (k24 _ (z_nn u21 a123)).trans a123
          have a125 : f27 ev = some (.inl (cy 0, 8, .inl gv)) := (k29 _ (z_nn u26 a124)).trans a124
          have a126 : f30 ev = some (.inl (cy 0, 8, .inl gv)) := (k32 _ (z_nn u26 a124)).trans a125
          have a127 : f33 ev = some (.inl (cy 0, 8, .inl gv)) := (k35 _ (z_nn u26 a124)).trans a126
          have a128 : f36 ev = some (.inl (cy 0, 8, .inl gv)) := (k38 _ (z_nn u26 a124)).trans a127
          have a129 : f43 ev = some (.inl (cy 0, 8, .inl gv)) := k46 _ _ a128 (z_nn u21 a123)
          have a130 : f92 ev = some (.inl (cy 0, 8, .inl gv)) := k104 _ _ a129 (z_ne a129 a54 rfl) (z_ne a129 a63 rfl) (z_ne a129 a72 rfl) (z_nn u21 a123) (fun j9 h8 => (z_ne a129 (F82 j9 h8) rfl))
          have a131 : f1 nu = some (.inl (cy 0, 12, .inl gu)) := k4 _ _ x_nu (z_ne x_nu x_fa rfl)
          have a132 : f7 nu = some (.inl (cy 0, 12, .inl gu)) := k9 _ _ a131 
          have a133 : f14 nu = some (.inl (cy 0, 12, .inl gu)) := k17 _ _ a132 
          have a134 : f22 nu = some (.inl (cy 0, 12, .inl gu)) := (k24 _ (z_nn u21 a133)).trans a133
          have a135 : f27 nu = some (.inl (cy 0, 12, .inl gu)) := (k29 _ (z_nn u26 a134)).trans a134
          have a136 : f30 nu = some (.inl (cy 0, 12, .inl gu)) := (k32 _ (z_nn u26 a134)).trans a135
          have a137 : f33 nu = some (.inl (cy 0, 12, .inl gu)) := (k35 _ (z_nn u26 a134)).trans a136
          have a138 : f36 nu = some (.inl (cy 0, 12, .inl gu)) := (k38 _ (z_nn u26 a134)).trans a137
          have a139 : f43 nu = some (.inl (cy 0, 12, .inl gu)) := k46 _ _ a138 (z_nn u21 a133)
          have a140 : f92 nu = some (.inl (cy 0, 12, .inl gu)) := k104 _ _ a139 (z_ne a139 a54 rfl) (z_ne a139 a63 rfl) (z_ne a139 a72 rfl) (z_nn u21 a133) (fun j9 h8 => (z_ne a139 (F82 j9 h8) rfl))
          have a141 : f1 fm = some (.inl (cy 4, 6, .inr (.inr (.inr (.inr gf))))) := k4 _ _ x_fm (z_ne x_fm x_fa rfl)
          have a142 : f7 fm = some (.inl (cy 4, 6, .inr (.inr (.inr (.inr gf))))) := k9 _ _ a141 
          have a143 : f14 fm = some (.inl (cy 4, 6, .inr (.inr (.inr (.inr gf))))) := k17 _ _ a142 
          have a144 : f22 fm = some (.inl (cy 4, 6, .inr (.inr (.inr (.inr gf))))) := (k24 _ (z_nn u21 a143)).trans a143
          have a145 : f27 fm = some (.inl (cy 4, 6, .inr (.inr (.inr (.inr gf))))) := (k29 _ (z_nn u26 a144)).trans a144
          have a146 : f30 fm = some (.inl (cy 4, 6, .inr (.inr (.inr (.inr gf))))) := (k32 _ (z_nn u26 a144)).trans a145
          have a147 : f33 fm = some (.inl (cy 4, 6, .inr (.inr (.inr (.inr gf))))) := (k35 _ (z_nn u26 a144)).trans a146
          have a148 : f36 fm = some (.inl (cy 4, 6, .inr (.inr (.inr (.inr gf))))) := (k38 _ (z_nn u26 a144)).trans a147
          have a149 : f43 fm = some (.inl (cy 4, 6, .inr (.inr (.inr (.inr gf))))) := k46 _ _ a148 (z_nn u21 a143)
          have a150 : f92 fm = some (.inl (cy 4, 6, .inr (.inr (.inr (.inr gf))))) := k104 _ _ a149 (z_ne a149 a54 rfl) (z_ne a149 a63 rfl) (z_ne a149 a72 rfl) (z_nn u21 a143) (fun j9 h8 => (z_ne a149 (F82 j9 h8) rfl))
          have a151 : f1 co = some (.inl (cy 5, 60, .inr (.inr (.inr (.inr gc))))) := k4 _ _ x_co (z_ne x_co x_fa rfl)
          have a152 : f7 co = some (.inl (cy 5, 60, .inr (.inr (.inr (.inr gc))))) := k9 _ _ a151 
          have a153 : f14 co = some (.inl (cy 5, 60, .inr (.inr (.inr (.inr gc))))) := k17 _ _ a152 
          have a154 : f22 co = some (.inl (cy 5, 60, .inr (.inr (.inr (.inr gc))))) := (k24 _ (z_nn u21 a153)).trans a153
          have a155 : f27 co = some (.inl (cy 5, 60, .inr (.inr (.inr (.inr gc))))) := (k29 _ (z_nn u26 a154)).trans a154
          have a156 : f30 co = some (.inl (cy 5, 60, .inr (.inr (.inr (.inr gc))))) := (k32 _ (z_nn u26 a154)).trans a155
          have a157 : f33 co = some (.inl (cy 5, 60, .inr (.inr (.inr (.inr gc))))) := (k35 _ (z_nn u26 a154)).trans a156
          have a158 : f36 co = some (.inl (cy 5, 60, .inr (.inr (.inr (.inr gc))))) := (k38 _ (z_nn u26 a154)).trans a157
          have a159 : f43 co = some (.inl (cy 5, 60, .inr (.inr (.inr (.inr gc))))) := k46 _ _ a158 (z_nn u21 a153)
          have a160 : f92 co = some (.inl (cy 5, 60, .inr (.inr (.inr (.inr gc))))) := k104 _ _ a159 (z_ne a159 a54 rfl) hca hcr (z_nn u21 a153) (fun j9 h8 => (z_ne a159 (F82 j9 h8) rfl))
          have a161 : f1 en = some (.inl (cy 6, 4, .inr (.inr (.inr (.inr ge))))) := k4 _ _ x_en (z_ne x_en x_fa rfl)
          have a162 : f7 en = some (.inl (cy 6, 4, .inr (.inr (.inr (.inr ge))))) := k9 _ _ a161 
          have a163 : f14 en = some (.inl (cy 6, 4, .inr (.inr (.inr (.inr ge))))) := k17 _ _ a162 
          have a164 : f22 en = some (.inl (cy 6, 4, .inr (.inr (.inr (.inr ge))))) := (k24 _ (z_nn u21 a163)).trans a163
          have a165 : f27 en = some (.inl (cy 6, 4, .inr (.inr (.inr (.inr ge))))) := (k29 _ (z_nn u26 a164)).trans a164
          have a166 : f30 en = some (.inl (cy 6, 4, .inr (.inr (.inr (.inr ge))))) := (k32 _ (z_nn u26 a164)).trans a165
          have a167 : f33 en = some (.inl (cy 6, 4, .inr (.inr (.inr (.inr ge))))) := (k35 _ (z_nn u26 a164)).trans a166
          have a168 : f36 en = some (.inl (cy 6, 4, .inr (.inr (.inr (.inr ge))))) := (k38 _ (z_nn u26 a164)).trans a167
          have a169 : f43 en = some (.inl (cy 6, 4, .inr (.inr (.inr (.inr ge))))) := k46 _ _ a168 (z_nn u21 a163)
          have a170 : f92 en = some (.inl (cy 6, 4, .inr (.inr (.inr (.inr ge))))) := k104 _ _ a169 (z_ne a169 a54 rfl) (z_ne a169 a63 rfl) (z_ne a169 a72 rfl) (z_nn u21 a163) (fun j9 h8 => (z_ne a169 (F82 j9 h8) rfl))
          have a171 : f1 ke = some (.inr (6, [.ref kn, .ref vq, .int (nI ks)])) := k4 _ _ x_ke (z_ne x_ke x_fa rfl)
          have a172 : f7 ke = some (.inr (6, [.ref kn, .ref vq, .int (nI ks)])) := k9 _ _ a171 
          have a173 : f14 ke = some (.inr (6, [.ref kn, .ref vq, .int (nI ks)])) := k17 _ _ a172 
          have a174 : f22 ke = some (.inr (6, [.ref kn, .ref vq, .int (nI ks)])) := (k24 _ (z_nn u21 a173)).trans a173
          have a175 : f27 ke = some (.inr (6, [.ref kn, .ref vq, .int (nI ks)])) := (k29 _ (z_nn u26 a174)).trans a174
          have a176 : f30 ke = some (.inr (6, [.ref kn, .ref vq, .int (nI ks)])) := (k32 _ (z_nn u26 a174)).trans a175
          have a177 : f33 ke = some (.inr (6, [.ref kn, .ref vq, .int (nI ks)])) := (k35 _ (z_nn u26 a174)).trans a176
          have a178 : f36 ke = some (.inr (6, [.ref kn, .ref vq, .int (nI ks)])) := (k38 _ (z_nn u26 a174)).trans a177
          have a179 : f43 ke = some (.inr (6, [.ref kn, .ref vq, .int (nI ks)])) := k46 _ _ a178 (z_nn u21 a173)
          have a180 : f92 ke = some (.inr (6, [.ref kn, .ref vq, .int (nI ks)])) := k104 _ _ a179 (z_ne a179 a54 rfl) (z_ne a179 a63 rfl) (z_ne a179 a72 rfl) (z_nn u21 a173) (fun j9 h8 => (z_ne a179 (F82 j9 h8) rfl))
          have a181 : f1 kn = some (.inl (cy 0, 40, .inl kk)) := k4 _ _ x_kn (z_ne x_kn x_fa rfl)
          have a182 : f7 kn = some (.inl (cy 0, 40, .inl kk)) := k9 _ _ a181 
          have a183 : f14 kn = some (.inl (cy 0, 40, .inl kk)) := k17 _ _ a182 
          have a184 : f22 kn = some (.inl (cy 0, 40, .inl kk)) := (k24 _ (z_nn u21 a183)).trans a183
          have a185 : f27 kn = some (.inl (cy 0, 40, .inl kk)) := (k29 _ (z_nn u26 a184)).trans a184
          have a186 : f30 kn = some (.inl (cy 0, 40, .inl kk)) := (k32 _ (z_nn u26 a184)).trans a185
          have a187 : f33 kn = some (.inl (cy 0, 40, .inl kk)) := (k35 _ (z_nn u26 a184)).trans a186
          have a188 : f36 kn = some (.inl (cy 0, 40, .inl kk)) := (k38 _ (z_nn u26 a184)).trans a187
          have a189 : f43 kn = some (.inl (cy 0, 40, .inl kk)) := k46 _ _ a188 (z_nn u21 a183)
          have a190 : f92 kn = some (.inl (cy 0, 40, .inl kk)) := k104 _ _ a189 (z_ne a189 a54 rfl) (z_ne a189 a63 rfl) (z_ne a189 a72 rfl) (z_nn u21 a183) (fun j9 h8 => (z_ne a189 (F82 j9 h8) rfl))
          have a191 : f1 vq = some (.inl (cy 0, 40, .inl kv)) := k4 _ _ x_vq (z_ne x_vq x_fa rfl)
          have a192 : f7 vq = some (.inl (cy 0, 40, .inl kv)) := k9 _ _ a191 
          have a193 : f14 vq = some (.inl (cy 0, 40, .inl kv)) := k17 _ _ a192 
          have a194 : f22 vq = some (.inl (cy 0, 40, .inl kv)) := (k24 _ (z_nn u21 a193)).trans a193
          have a195 : f27 vq = some (.inl (cy 0, 40, .inl kv)) := (k29 _ (z_nn u26 a194)).trans a194
          have a196 : f30 vq = some (.inl (cy 0, 40, .inl kv)) := (k32 _ (z_nn u26 a194)).trans a195
          have a197 : f33 vq = some (.inl (cy 0, 40, .inl kv)) := (k35 _ (z_nn u26 a194)).trans a196
          have a198 : f36 vq = some (.inl (cy 0, 40, .inl kv)) := (k38 _ (z_nn u26 a194)).trans a197
          have a199 : f43 vq = some (.inl (cy 0, 40, .inl kv)) := k46 _ _ a198 (z_nn u21 a193)
          have a200 : f92 vq = some (.inl (cy 0, 40, .inl kv)) := k104 _ _ a199 (z_ne a199 a54 rfl) (z_ne a199 a63 rfl) (z_ne a199 a72 rfl) (z_nn u21 a193) (fun j9 h8 => (z_ne a199 (F82 j9 h8) rfl))
          have F201 : ∀ i9 : Nat, i9 < nf → f1 (fq i9) = some (.inr (3, [.ref (fk i9), .int (nI (fz i9))])) := fun i9 h9 => k4 _ _ (hFq i9 h9) (z_ne (hFq i9 h9) x_fa rfl)
          have F202 : ∀ i9 : Nat, i9 < nf → f7 (fq i9) = some (.inr (3, [.ref (fk i9), .int (nI (fz i9))])) := fun i9 h9 => k9 _ _ (F201 i9 h9) 
          have F203 : ∀ i9 : Nat, i9 < nf → f14 (fq i9) = some (.inr (3, [.ref (fk i9), .int (nI (fz i9))])) := fun i9 h9 => k17 _ _ (F202 i9 h9) 
          have F204 : ∀ i9 : Nat, i9 < nf → f22 (fq i9) = some (.inr (3, [.ref (fk i9), .int (nI (fz i9))])) := fun i9 h9 => (k24 _ (z_nn u21 (F203 i9 h9))).trans (F203 i9 h9)
          have F205 : ∀ i9 : Nat, i9 < nf → f27 (fq i9) = some (.inr (3, [.ref (fk i9), .int (nI (fz i9))])) := fun i9 h9 => (k29 _ (z_nn u26 (F204 i9 h9))).trans (F204 i9 h9)
          have F206 : ∀ i9 : Nat, i9 < nf → f30 (fq i9) = some (.inr (3, [.ref (fk i9), .int (nI (fz i9))])) := fun i9 h9 => (k32 _ (z_nn u26 (F204 i9 h9))).trans (F205 i9 h9)
          have F207 : ∀ i9 : Nat, i9 < nf → f33 (fq i9) = some (.inr (3, [.ref (fk i9), .int (nI (fz i9))])) := fun i9 h9 => (k35 _ (z_nn u26 (F204 i9 h9))).trans (F206 i9 h9)
          have F208 : ∀ i9 : Nat, i9 < nf → f36 (fq i9) = some (.inr (3, [.ref (fk i9), .int (nI (fz i9))])) := fun i9 h9 => (k38 _ (z_nn u26 (F204 i9 h9))).trans (F207 i9 h9)
          have F209 : ∀ i9 : Nat, i9 < nf → f43 (fq i9) = some (.inr (3, [.ref (fk i9), .int (nI (fz i9))])) := fun i9 h9 => k46 _ _ (F208 i9 h9) (z_nn u21 (F203 i9 h9))
          have F210 : ∀ i9 : Nat, i9 < nf → f92 (fq i9) = some (.inr (3, [.ref (fk i9), .int (nI (fz i9))])) := fun i9 h9 => k104 _ _ (F209 i9 h9) (z_ne (F209 i9 h9) a54 rfl) (z_ne (F209 i9 h9) a63 rfl) (z_ne (F209 i9 h9) a72 rfl) (z_nn u21 (F203 i9 h9)) (fun j9 h8 => (z_ne (F209 i9 h9) (F82 j9 h8) rfl))
          have F211 : ∀ i9 : Nat, i9 < nf → f1 (fk i9) = some (.inl (cy 0, 4, .inl (fc i9))) := fun i9 h9 => k4 _ _ (hFk i9 h9) (z_ne (hFk i9 h9) x_fa rfl)
          have F212 : ∀ i9 : Nat, i9 < nf → f7 (fk i9) = some (.inl (cy 0, 4, .inl (fc i9))) := fun i9 h9 => k9 _ _ (F211 i9 h9) 
          have F213 : ∀ i9 : Nat, i9 < nf → f14 (fk i9) = some (.inl (cy 0, 4, .inl (fc i9))) := fun i9 h9 => k17 _ _ (F212 i9 h9) 
          have F214 : ∀ i9 : Nat, i9 < nf → f22 (fk i9) = some (.inl (cy 0, 4, .inl (fc i9))) := fun i9 h9 => (k24 _ (z_nn u21 (F213 i9 h9))).trans (F213 i9 h9)
          have F215 : ∀ i9 : Nat, i9 < nf → f27 (fk i9) = some (.inl (cy 0, 4, .inl (fc i9))) := fun i9 h9 => (k29 _ (z_nn u26 (F214 i9 h9))).trans (F214 i9 h9)
          have F216 : ∀ i9 : Nat, i9 < nf → f30 (fk i9) = some (.inl (cy 0, 4, .inl (fc i9))) := fun i9 h9 => (k32 _ (z_nn u26 (F214 i9 h9))).trans (F215 i9 h9)
          have F217 : ∀ i9 : Nat, i9 < nf → f33 (fk i9) = some (.inl (cy 0, 4, .inl (fc i9))) := fun i9 h9 => (k35 _ (z_nn u26 (F214 i9 h9))).trans (F216 i9 h9)
          have F218 : ∀ i9 : Nat, i9 < nf → f36 (fk i9) = some (.inl (cy 0, 4, .inl (fc i9))) := fun i9 h9 => (k38 _ (z_nn u26 (F214 i9 h9))).trans (F217 i9 h9)
          have F219 : ∀ i9 : Nat, i9 < nf → f43 (fk i9) = some (.inl (cy 0, 4, .inl (fc i9))) := fun i9 h9 => k46 _ _ (F218 i9 h9) (z_nn u21 (F213 i9 h9))
          have F220 : ∀ i9 : Nat, i9 < nf → f92 (fk i9) = some (.inl (cy 0, 4, .inl (fc i9))) := fun i9 h9 => k104 _ _ (F219 i9 h9) (z_ne (F219 i9 h9) a54 rfl) (z_ne (F219 i9 h9) a63 rfl) (z_ne (F219 i9 h9) a72 rfl) (z_nn u21 (F213 i9 h9)) (fun j9 h8 => (z_ne (F219 i9 h9) (F82 j9 h8) rfl))
          have F221 : ∀ i9 : Nat, i9 < nc → f1 (cn i9) = some (.inr (0, [.int (ce i9), .int (cm i9)])) := fun i9 h9 => k4 _ _ (hCn i9 h9) (z_ne (hCn i9 h9) x_fa rfl)
          have F222 : ∀ i9 : Nat, i9 < nc → f7 (cn i9) = some (.inr (0, [.int (ce i9), .int (cm i9)])) := fun i9 h9 => k9 _ _ (F221 i9 h9) 
          have F223 : ∀ i9 : Nat, i9 < nc → f14 (cn i9) = some (.inr (0, [.int (ce i9), .int (cm i9)])) := fun i9 h9 => k17 _ _ (F222 i9 h9) 
          have F224 : ∀ i9 : Nat, i9 < nc → f22 (cn i9) = some (.inr (0, [.int (ce i9), .int (cm i9)])) := fun i9 h9 => (k24 _ (z_nn u21 (F223 i9 h9))).trans (F223 i9 h9)
          have F225 : ∀ i9 : Nat, i9 < nc → f27 (cn i9) = some (.inr (0, [.int (ce i9), .int (cm i9)])) := fun i9 h9 => (k29 _ (z_nn u26 (F224 i9 h9))).trans (F224 i9 h9)
          have F226 : ∀ i9 : Nat, i9 < nc → f30 (cn i9) = some (.inr (0, [.int (ce i9), .int (cm i9)])) := fun i9 h9 => (k32 _ (z_nn u26 (F224 i9 h9))).trans (F225 i9 h9)
          have F227 : ∀ i9 : Nat, i9 < nc → f33 (cn i9) = some (.inr (0, [.int (ce i9), .int (cm i9)])) := fun i9 h9 => (k35 _ (z_nn u26 (F224 i9 h9))).trans (F226 i9 h9)
          have F228 : ∀ i9 : Nat, i9 < nc → f36 (cn i9) = some (.inr (0, [.int (ce i9), .int (cm i9)])) := fun i9 h9 => (k38 _ (z_nn u26 (F224 i9 h9))).trans (F227 i9 h9)
          have F229 : ∀ i9 : Nat, i9 < nc → f43 (cn i9) = some (.inr (0, [.int (ce i9), .int (cm i9)])) := fun i9 h9 => k46 _ _ (F228 i9 h9) (z_nn u21 (F223 i9 h9))
          have F230 : ∀ i9 : Nat, i9 < nc → f92 (cn i9) = some (.inr (0, [.int (ce i9), .int (cm i9)])) := fun i9 h9 => k104 _ _ (F229 i9 h9) (z_ne (F229 i9 h9) a54 rfl) (z_ne (F229 i9 h9) a63 rfl) (z_ne (F229 i9 h9) a72 rfl) (z_nn u21 (F223 i9 h9)) (fun j9 h8 => (z_ne (F229 i9 h9) (F82 j9 h8) rfl))
          have F231 : ∀ i9 : Nat, i9 < 4 → f1 (ea i9) = some (.inr (1, [.ref (ma i9), .int (nI (sq i9))])) := fun i9 h9 => k4 _ _ (hEa i9 h9) (z_ne (hEa i9 h9) x_fa rfl)
          have F232 : ∀ i9 : Nat, i9 < 4 → f7 (ea i9) = some (.inr (1, [.ref (ma i9), .int (nI (sq i9))])) := fun i9 h9 => k9 _ _ (F231 i9 h9) 
          have F233 : ∀ i9 : Nat, i9 < 4 → f14 (ea i9) = some (.inr (1, [.ref (ma i9), .int (nI (sq i9))])) := fun i9 h9 => k17 _ _ (F232 i9 h9) 
          have F234 : ∀ i9 : Nat, i9 < 4 → f22 (ea i9) = some (.inr (1, [.ref (ma i9), .int (nI (sq i9))])) := fun i9 h9 => (k24 _ (z_nn u21 (F233 i9 h9))).trans (F233 i9 h9)
          have F235 : ∀ i9 : Nat, i9 < 4 → f27 (ea i9) = some (.inr (1, [.ref (ma i9), .int (nI (sq i9))])) := fun i9 h9 => (k29 _ (z_nn u26 (F234 i9 h9))).trans (F234 i9 h9)
          have F236 : ∀ i9 : Nat, i9 < 4 → f30 (ea i9) = some (.inr (1, [.ref (ma i9), .int (nI (sq i9))])) := fun i9 h9 => (k32 _ (z_nn u26 (F234 i9 h9))).trans (F235 i9 h9)
          have F237 : ∀ i9 : Nat, i9 < 4 → f33 (ea i9) = some (.inr (1, [.ref (ma i9), .int (nI (sq i9))])) := fun i9 h9 => (k35 _ (z_nn u26 (F234 i9 h9))).trans (F236 i9 h9)
          have F238 : ∀ i9 : Nat, i9 < 4 → f36 (ea i9) = some (.inr (1, [.ref (ma i9), .int (nI (sq i9))])) := fun i9 h9 => (k38 _ (z_nn u26 (F234 i9 h9))).trans (F237 i9 h9)
          have F239 : ∀ i9 : Nat, i9 < 4 → f43 (ea i9) = some (.inr (1, [.ref (ma i9), .int (nI (sq i9))])) := fun i9 h9 => k46 _ _ (F238 i9 h9) (z_nn u21 (F233 i9 h9))
          have F240 : ∀ i9 : Nat, i9 < 4 → f92 (ea i9) = some (.inr (1, [.ref (ma i9), .int (nI (sq i9))])) := fun i9 h9 => k104 _ _ (F239 i9 h9) (z_ne (F239 i9 h9) a54 rfl) (z_ne (F239 i9 h9) a63 rfl) (z_ne (F239 i9 h9) a72 rfl) (z_nn u21 (F233 i9 h9)) (fun j9 h8 => (z_ne (F239 i9 h9) (F82 j9 h8) rfl))
          have F241 : ∀ i9 : Nat, i9 < 4 → f1 (ma i9) = some (.inl (cy 0, 60, .inl (mb i9))) := fun i9 h9 => k4 _ _ (hMa i9 h9) (z_ne (hMa i9 h9) x_fa rfl)
          have F242 : ∀ i9 : Nat, i9 < 4 → f7 (ma i9) = some (.inl (cy 0, 60, .inl (mb i9))) := fun i9 h9 => k9 _ _ (F241 i9 h9) 
          have F243 : ∀ i9 : Nat, i9 < 4 → f14 (ma i9) = some (.inl (cy 0, 60, .inl (mb i9))) := fun i9 h9 => k17 _ _ (F242 i9 h9) 
          have F244 : ∀ i9 : Nat, i9 < 4 → f22 (ma i9) = some (.inl (cy 0, 60, .inl (mb i9))) := fun i9 h9 => (k24 _ (z_nn u21 (F243 i9 h9))).trans (F243 i9 h9)
          have F245 : ∀ i9 : Nat, i9 < 4 → f27 (ma i9) = some (.inl (cy 0, 60, .inl (mb i9))) := fun i9 h9 => (k29 _ (z_nn u26 (F244 i9 h9))).trans (F244 i9 h9)
          have F246 : ∀ i9 : Nat, i9 < 4 → f30 (ma i9) = some (.inl (cy 0, 60, .inl (mb i9))) := fun i9 h9 => (k32 _ (z_nn u26 (F244 i9 h9))).trans (F245 i9 h9)
          have F247 : ∀ i9 : Nat, i9 < 4 → f33 (ma i9) = some (.inl (cy 0, 60, .inl (mb i9))) := fun i9 h9 => (k35 _ (z_nn u26 (F244 i9 h9))).trans (F246 i9 h9)
          have F248 : ∀ i9 : Nat, i9 < 4 → f36 (ma i9) = some (.inl (cy 0, 60, .inl (mb i9))) := fun i9 h9 => (k38 _ (z_nn u26 (F244 i9 h9))).trans (F247 i9 h9)
          have F249 : ∀ i9 : Nat, i9 < 4 → f43 (ma i9) = some (.inl (cy 0, 60, .inl (mb i9))) := fun i9 h9 => k46 _ _ (F248 i9 h9) (z_nn u21 (F243 i9 h9))
          have F250 : ∀ i9 : Nat, i9 < 4 → f92 (ma i9) = some (.inl (cy 0, 60, .inl (mb i9))) := fun i9 h9 => k104 _ _ (F249 i9 h9) (z_ne (F249 i9 h9) a54 rfl) (z_ne (F249 i9 h9) a63 rfl) (z_ne (F249 i9 h9) a72 rfl) (z_nn u21 (F243 i9 h9)) (fun j9 h8 => (z_ne (F249 i9 h9) (F82 j9 h8) rfl))
          exact z_iret C hr rfl hz hS ⟨0, (-1), 0, gv, nl, gu, (nn + 1), (va_up ga nn (some q20)), gr_96, (va_up fg nn q20), (va_up pt nn q25), (va_up kd nn 2), (va_up ln nn 3), (va_up pp nn (vp_updL (vp_updL (vp_updL (fun _ => 0) 0 x.toInt64) 1 y.toInt64) 2 z.toInt64)), (va_up wg nn ((r16 / (if 0 < z.toInt64 then z.toInt64 else -z.toInt64)) + 1)), (va_up wd nn 0), (va_up hs nn hq_94), (va_up bf_97 nn bq_95), nf, gf, fq, fk, fz, fc, nc, gc, cn, ce, cm, sq, mb, ks, kk, kv, lk, (by simp [h60, c10, c11, c12, c13]), rfl, (by rw [if_pos (nI_pos' (by omega))]), ⟨a111, a120, a130, a99, a100, a101, a140, a150, a160, a170, a180, a190, a200, F102, F103, F210, F220, F230, F240, F250, (by omega), hl12, hf6, hc60, hs40, (z_ga1 hga), (z_gr1 p98), (z_up1 (P := fun _ a9 => a9 ≤ 15) hln (by omega)), (z_up2 (P := fun (a9 : Int32) (b9 : Nat) => a9 = 5 → 3 ≤ b9) hk5 (fun h9 => absurd h9 (by decide))), (z_up2 (P := fun (a9 : Int32) (b9 : Nat) => a9 = 4 → 2 ≤ b9) hk4 (fun h9 => absurd h9 (by decide))), (z_inj1 hfi (fun j9 h9 => z_nn u21 (F76 j9 h9))), (z_inj1 hpi (fun j9 h9 => z_nn u26 (F86 j9 h9))), har, hgf, hfz, hgc, hG, hsq, hei, hmi, kne, hca, hcr, hlk⟩⟩ (Nat.le_of_ble_eq_true rfl) (Nat.le_of_ble_eq_true rfl) dX7_wide_118
        · refine lv_aload_n hx hb dX7_wide_58 rfl (lv_at hl 0 rfl) ?_
          have a251 : f7 o = some (.inr (7, [.ref fa, .ref fi, .ref nu, .int (nI nl), .ref fm, .int (nI nf), .ref co, .int (nI nc), .ref en, .ref ke, .long lk])) := k9 _ _ a5 
          refine z_get (v := .ref fa) C hz a251 zl7 mFX7_10 (by decide) rfl dX7_wide_59 ?_
          refine lv_iconst (v := 2) hx hb dX7_wide_62 (by decide) ?_
          refine lv_iconst (v := 2) hx hb dX7_wide_63 (by decide) ?_
          have a252 : f7 fa = some (.inr (2, [.int 0, .int (-1), .int 0, .ref ev])) := k9 _ _ a3 
          have a253 : f1 ev = some (.inl (cy 0, 8, .inl gv)) := k4 _ _ x_ev (z_ne x_ev x_fa rfl)
          have a254 : f7 ev = some (.inl (cy 0, 8, .inl gv)) := k9 _ _ a253 
          refine z_callVi (As := [.int 2, .int 2]) C hz hS hA hl (k_X2_own l D cy f7 fa 2 2 0 (-1) 0 ev gv a252 a254 ) zyX2_own mMX7_96 a252 zl2 rfl rfl (Nat.le_of_ble_eq_true rfl) ⟨Nat.le_of_ble_eq_true rfl, Nat.le_of_ble_eq_true rfl⟩ ⟨Nat.le_of_ble_eq_true rfl, Nat.le_of_ble_eq_true rfl⟩ dX7_wide_64 (fun r f255 H locs h256 hz hS => ?_)
          obtain ⟨rfl, a257, a258, k259⟩ := h256
          have a260 : f255 o = some (.inr (7, [.ref fa, .ref fi, .ref nu, .int (nI nl), .ref fm, .int (nI nf), .ref co, .int (nI nc), .ref en, .ref ke, .long lk])) := k259 _ _ a251 (z_ne a251 a252 rfl) (z_ne a251 a254 rfl)
          have a261 : f7 fi = some (.inr (5, [.ref al, .ref ra, .int (nI nn)])) := k9 _ _ a6 
          have a262 : f255 fi = some (.inr (5, [.ref al, .ref ra, .int (nI nn)])) := k259 _ _ a261 (z_ne a261 a252 rfl) (z_ne a261 a254 rfl)
          have a263 : f1 al = some (.inl (cy 3, 60, .inr (.inr (.inr (.inr ga))))) := k4 _ _ x_al (z_ne x_al x_fa rfl)
          have a264 : f7 al = some (.inl (cy 3, 60, .inr (.inr (.inr (.inr ga))))) := k9 _ _ a263 
          have a265 : f255 al = some (.inl (cy 3, 60, .inr (.inr (.inr (.inr ga))))) := k259 _ _ a264 (z_ne a264 a252 rfl) (z_ne a264 a254 rfl)
          have a266 : f1 ra = some (.inl (cy 3, 60, .inr (.inr (.inr (.inr gr))))) := k4 _ _ x_ra (z_ne x_ra x_fa rfl)
          have a267 : f7 ra = some (.inl (cy 3, 60, .inr (.inr (.inr (.inr gr))))) := k9 _ _ a266 
          have a268 : f255 ra = some (.inl (cy 3, 60, .inr (.inr (.inr (.inr gr))))) := k259 _ _ a267 (z_ne a267 a252 rfl) (z_ne a267 a254 rfl)
          have a269 : f1 nu = some (.inl (cy 0, 12, .inl gu)) := k4 _ _ x_nu (z_ne x_nu x_fa rfl)
          have a270 : f7 nu = some (.inl (cy 0, 12, .inl gu)) := k9 _ _ a269 
          have a271 : f255 nu = some (.inl (cy 0, 12, .inl gu)) := k259 _ _ a270 (z_ne a270 a252 rfl) (z_ne a270 a254 rfl)
          have a272 : f1 fm = some (.inl (cy 4, 6, .inr (.inr (.inr (.inr gf))))) := k4 _ _ x_fm (z_ne x_fm x_fa rfl)
          have a273 : f7 fm = some (.inl (cy 4, 6, .inr (.inr (.inr (.inr gf))))) := k9 _ _ a272 
          have a274 : f255 fm = some (.inl (cy 4, 6, .inr (.inr (.inr (.inr gf))))) := k259 _ _ a273 (z_ne a273 a252 rfl) (z_ne a273 a254 rfl)
          have a275 : f1 co = some (.inl (cy 5, 60, .inr (.inr (.inr (.inr gc))))) := k4 _ _ x_co (z_ne x_co x_fa rfl)
          have a276 : f7 co = some (.inl (cy 5, 60, .inr (.inr (.inr (.inr gc))))) := k9 _ _ a275 
          have a277 : f255 co = some (.inl (cy 5, 60, .inr (.inr (.inr (.inr gc))))) := k259 _ _ a276 (z_ne a276 a252 rfl) (z_ne a276 a254 rfl)
          have a278 : f1 en = some (.inl (cy 6, 4, .inr (.inr (.inr (.inr ge))))) := k4 _ _ x_en (z_ne x_en x_fa rfl)
          have a279 : f7 en = some (.inl (cy 6, 4, .inr (.inr (.inr (.inr ge))))) := k9 _ _ a278 
          have a280 : f255 en = some (.inl (cy 6, 4, .inr (.inr (.inr (.inr ge))))) := k259 _ _ a279 (z_ne a279 a252 rfl) (z_ne a279 a254 rfl)
          have a281 : f1 ke = some (.inr (6, [.ref kn, .ref vq, .int (nI ks)])) := k4 _ _ x_ke (z_ne x_ke x_fa rfl)
          have a282 : f7 ke = some (.inr (6, [.ref kn, .ref vq, .int (nI ks)])) := k9 _ _ a281 
          have a283 : f255 ke = some (.inr (6, [.ref kn, .ref vq, .int (nI ks)])) := k259 _ _ a282 (z_ne a282 a252 rfl) (z_ne a282 a254 rfl)
          have a284 : f1 kn = some (.inl (cy 0, 40, .inl kk)) := k4 _ _ x_kn (z_ne x_kn x_fa rfl)
          have a285 : f7 kn = some (.inl (cy 0, 40, .inl kk)) := k9 _ _ a284 
          have a286 : f255 kn = some (.inl (cy 0, 40, .inl kk)) := k259 _ _ a285 (z_ne a285 a252 rfl) (z_ne a285 a254 rfl)
          have a287 : f1 vq = some (.inl (cy 0, 40, .inl kv)) := k4 _ _ x_vq (z_ne x_vq x_fa rfl)
          have a288 : f7 vq = some (.inl (cy 0, 40, .inl kv)) := k9 _ _ a287 
          have a289 : f255 vq = some (.inl (cy 0, 40, .inl kv)) := k259 _ _ a288 (z_ne a288 a252 rfl) (z_ne a288 a254 rfl)
          have F290 : ∀ i9 : Nat, i9 < nn → f1 (fg i9) = some (.inr (4, [.int (kd i9), .ref (pt i9), .long (wg i9), .int (wd i9), .int (nI i9), .int (hs i9), .int (bf i9)])) := fun i9 h9 => k4 _ _ (hF i9 h9) (z_ne (hF i9 h9) x_fa rfl)
          have F291 : ∀ i9 : Nat, i9 < nn → f7 (fg i9) = some (.inr (4, [.int (kd i9), .ref (pt i9), .long (wg i9), .int (wd i9), .int (nI i9), .int (hs i9), .int (bf i9)])) := fun i9 h9 => k9 _ _ (F290 i9 h9) 
          have F292 : ∀ i9 : Nat, i9 < nn → f255 (fg i9) = some (.inr (4, [.int (kd i9), .ref (pt i9), .long (wg i9), .int (wd i9), .int (nI i9), .int (hs i9), .int (bf i9)])) := fun i9 h9 => k259 _ _ (F291 i9 h9) (z_ne (F291 i9 h9) a252 rfl) (z_ne (F291 i9 h9) a254 rfl)
          have F293 : ∀ i9 : Nat, i9 < nn → f1 (pt i9) = some (.inl (cy 1, (ln i9), .inr (.inl (pp i9)))) := fun i9 h9 => k4 _ _ (hP i9 h9) (z_neO (hP i9 h9) x_fa rfl)
          have F294 : ∀ i9 : Nat, i9 < nn → f7 (pt i9) = some (.inl (cy 1, (ln i9), .inr (.inl (pp i9)))) := fun i9 h9 => k9 _ _ (F293 i9 h9) 
          have F295 : ∀ i9 : Nat, i9 < nn → f255 (pt i9) = some (.inl (cy 1, (ln i9), .inr (.inl (pp i9)))) := fun i9 h9 => k259 _ _ (F294 i9 h9) (z_neO (F294 i9 h9) a252 rfl) (z_neA (F294 i9 h9) a254 rfl)
          have F296 : ∀ i9 : Nat, i9 < nf → f1 (fq i9) = some (.inr (3, [.ref (fk i9), .int (nI (fz i9))])) := fun i9 h9 => k4 _ _ (hFq i9 h9) (z_ne (hFq i9 h9) x_fa rfl)
          have F297 : ∀ i9 : Nat, i9 < nf → f7 (fq i9) = some (.inr (3, [.ref (fk i9), .int (nI (fz i9))])) := fun i9 h9 => k9 _ _ (F296 i9 h9) 
          have F298 : ∀ i9 : Nat, i9 < nf → f255 (fq i9) = some (.inr (3, [.ref (fk i9), .int (nI (fz i9))])) := fun i9 h9 => k259 _ _ (F297 i9 h9) (z_ne (F297 i9 h9) a252 rfl) (z_ne (F297 i9 h9) a254 rfl)
          have F299 : ∀ i9 : Nat, i9 < nf → f1 (fk i9) = some (.inl (cy 0, 4, .inl (fc i9))) := fun i9 h9 => k4 _ _ (hFk i9 h9) (z_ne (hFk i9 h9) x_fa rfl)
          have F300 : ∀ i9 : Nat, i9 < nf → f7 (fk i9) = some (.inl (cy 0, 4, .inl (fc i9))) := fun i9 h9 => k9 _ _ (F299 i9 h9) 
          have F301 : ∀ i9 : Nat, i9 < nf → f255 (fk i9) = some (.inl (cy 0, 4, .inl (fc i9))) := fun i9 h9 => k259 _ _ (F300 i9 h9) (z_ne (F300 i9 h9) a252 rfl) (z_ne (F300 i9 h9) a254 rfl)
          have F302 : ∀ i9 : Nat, i9 < nc → f1 (cn i9) = some (.inr (0, [.int (ce i9), .int (cm i9)])) := fun i9 h9 => k4 _ _ (hCn i9 h9) (z_ne (hCn i9 h9) x_fa rfl)
          have F303 : ∀ i9 : Nat, i9 < nc → f7 (cn i9) = some (.inr (0, [.int (ce i9), .int (cm i9)])) := fun i9 h9 => k9 _ _ (F302 i9 h9) 
          have F304 : ∀ i9 : Nat, i9 < nc → f255 (cn i9) = some (.inr (0, [.int (ce i9), .int (cm i9)])) := fun i9 h9 => k259 _ _ (F303 i9 h9) (z_ne (F303 i9 h9) a252 rfl) (z_ne (F303 i9 h9) a254 rfl)
          have F305 : ∀ i9 : Nat, i9 < 4 → f1 (ea i9) = some (.inr (1, [.ref (ma i9), .int (nI (sq i9))])) := fun i9 h9 => k4 _ _ (hEa i9 h9) (z_ne (hEa i9 h9) x_fa rfl)
          have F306 : ∀ i9 : Nat, i9 < 4 → f7 (ea i9) = some (.inr (1, [.ref (ma i9), .int (nI (sq i9))])) := fun i9 h9 => k9 _ _ (F305 i9 h9) 
          have F307 : ∀ i9 : Nat, i9 < 4 → f255 (ea i9) = some (.inr (1, [.ref (ma i9), .int (nI (sq i9))])) := fun i9 h9 => k259 _ _ (F306 i9 h9) (z_ne (F306 i9 h9) a252 rfl) (z_ne (F306 i9 h9) a254 rfl)
          have F308 : ∀ i9 : Nat, i9 < 4 → f1 (ma i9) = some (.inl (cy 0, 60, .inl (mb i9))) := fun i9 h9 => k4 _ _ (hMa i9 h9) (z_ne (hMa i9 h9) x_fa rfl)
          have F309 : ∀ i9 : Nat, i9 < 4 → f7 (ma i9) = some (.inl (cy 0, 60, .inl (mb i9))) := fun i9 h9 => k9 _ _ (F308 i9 h9) 
          have F310 : ∀ i9 : Nat, i9 < 4 → f255 (ma i9) = some (.inl (cy 0, 60, .inl (mb i9))) := fun i9 h9 => k259 _ _ (F309 i9 h9) (z_ne (F309 i9 h9) a252 rfl) (z_ne (F309 i9 h9) a254 rfl)
          exact z_iret C hr rfl hz hS ⟨7, 2, 2, (upd gv 7 (gv 7 + 1)), nl, gu, nn, ga, gr, fg, pt, kd, ln, pp, wg, wd, hs, bf, nf, gf, fq, fk, fz, fc, nc, gc, cn, ce, cm, sq, mb, ks, kk, kv, lk, (by simp [h60, c10, c11, c12, c13]), rfl, (by rw [if_neg (by decide)]), ⟨a260, a257, a258, a262, a265, a268, a271, a274, a277, a280, a283, a286, a289, F292, F295, F298, F301, F304, F307, F310, hn60, hl12, hf6, hc60, hs40, hga, hgr, hln, hk5, hk4, hfi, hpi, har, hgf, hfz, hgc, hG, hsq, hei, hmi, kne, hca, hcr, hlk⟩⟩ (Nat.le_of_ble_eq_true rfl) (Nat.le_of_ble_eq_true rfl) dX7_wide_67
      · refine lv_aload_n hx hb dX7_wide_39 rfl (lv_at hl 0 rfl) ?_
        have a311 : f7 o = some (.inr (7, [.ref fa, .ref fi, .ref nu, .int (nI nl), .ref fm, .int (nI nf), .ref co, .int (nI nc), .ref en, .ref ke, .long lk])) := k9 _ _ a5 
        refine z_get (v := .ref fa) C hz a311 zl7 mFX7_10 (by decide) rfl dX7_wide_40 ?_
        refine lv_bipush (v := 6) hx hb dX7_wide_43 (by decide) ?_
        refine lv_iconst (v := 2) hx hb dX7_wide_45 (by decide) ?_
        have a312 : f7 fa = some (.inr (2, [.int 0, .int (-1), .int 0, .ref ev])) := k9 _ _ a3 
        have a313 : f1 ev = some (.inl (cy 0, 8, .inl gv)) := k4 _ _ x_ev (z_ne x_ev x_fa rfl)
        have a314 : f7 ev = some (.inl (cy 0, 8, .inl gv)) := k9 _ _ a313 
        refine z_callVi (As := [.int 6, .int 2]) C hz hS hA hl (k_X2_inPart l D cy f7 fa 6 2 0 (-1) 0 ev gv 6 a312 a314 (by decide) (Nat.le_of_ble_eq_true rfl)) zyX2_inPart mMX7_104 a312 zl2 rfl rfl (Nat.le_of_ble_eq_true rfl) ⟨Nat.le_of_ble_eq_true rfl, Nat.le_of_ble_eq_true rfl⟩ ⟨Nat.le_of_ble_eq_true rfl, Nat.le_of_ble_eq_true rfl⟩ dX7_wide_46 (fun r f315 H locs h316 hz hS => ?_)
        obtain ⟨rfl, a317, a318, k319⟩ := h316
        have a320 : f315 o = some (.inr (7, [.ref fa, .ref fi, .ref nu, .int (nI nl), .ref fm, .int (nI nf), .ref co, .int (nI nc), .ref en, .ref ke, .long lk])) := k319 _ _ a311 (z_ne a311 a312 rfl) (z_ne a311 a314 rfl)
        have a321 : f7 fi = some (.inr (5, [.ref al, .ref ra, .int (nI nn)])) := k9 _ _ a6 
        have a322 : f315 fi = some (.inr (5, [.ref al, .ref ra, .int (nI nn)])) := k319 _ _ a321 (z_ne a321 a312 rfl) (z_ne a321 a314 rfl)
        have a323 : f1 al = some (.inl (cy 3, 60, .inr (.inr (.inr (.inr ga))))) := k4 _ _ x_al (z_ne x_al x_fa rfl)
        have a324 : f7 al = some (.inl (cy 3, 60, .inr (.inr (.inr (.inr ga))))) := k9 _ _ a323 
        have a325 : f315 al = some (.inl (cy 3, 60, .inr (.inr (.inr (.inr ga))))) := k319 _ _ a324 (z_ne a324 a312 rfl) (z_ne a324 a314 rfl)
        have a326 : f1 ra = some (.inl (cy 3, 60, .inr (.inr (.inr (.inr gr))))) := k4 _ _ x_ra (z_ne x_ra x_fa rfl)
        have a327 : f7 ra = some (.inl (cy 3, 60, .inr (.inr (.inr (.inr gr))))) := k9 _ _ a326 
        have a328 : f315 ra = some (.inl (cy 3, 60, .inr (.inr (.inr (.inr gr))))) := k319 _ _ a327 (z_ne a327 a312 rfl) (z_ne a327 a314 rfl)
        have a329 : f1 nu = some (.inl (cy 0, 12, .inl gu)) := k4 _ _ x_nu (z_ne x_nu x_fa rfl)
        have a330 : f7 nu = some (.inl (cy 0, 12, .inl gu)) := k9 _ _ a329 
        have a331 : f315 nu = some (.inl (cy 0, 12, .inl gu)) := k319 _ _ a330 (z_ne a330 a312 rfl) (z_ne a330 a314 rfl)
        have a332 : f1 fm = some (.inl (cy 4, 6, .inr (.inr (.inr (.inr gf))))) := k4 _ _ x_fm (z_ne x_fm x_fa rfl)
        have a333 : f7 fm = some (.inl (cy 4, 6, .inr (.inr (.inr (.inr gf))))) := k9 _ _ a332 
        have a334 : f315 fm = some (.inl (cy 4, 6, .inr (.inr (.inr (.inr gf))))) := k319 _ _ a333 (z_ne a333 a312 rfl) (z_ne a333 a314 rfl)
        have a335 : f1 co = some (.inl (cy 5, 60, .inr (.inr (.inr (.inr gc))))) := k4 _ _ x_co (z_ne x_co x_fa rfl)
        have a336 : f7 co = some (.inl (cy 5, 60, .inr (.inr (.inr (.inr gc))))) := k9 _ _ a335 
        have a337 : f315 co = some (.inl (cy 5, 60, .inr (.inr (.inr (.inr gc))))) := k319 _ _ a336 (z_ne a336 a312 rfl) (z_ne a336 a314 rfl)
        have a338 : f1 en = some (.inl (cy 6, 4, .inr (.inr (.inr (.inr ge))))) := k4 _ _ x_en (z_ne x_en x_fa rfl)
        have a339 : f7 en = some (.inl (cy 6, 4, .inr (.inr (.inr (.inr ge))))) := k9 _ _ a338 
        have a340 : f315 en = some (.inl (cy 6, 4, .inr (.inr (.inr (.inr ge))))) := k319 _ _ a339 (z_ne a339 a312 rfl) (z_ne a339 a314 rfl)
        have a341 : f1 ke = some (.inr (6, [.ref kn, .ref vq, .int (nI ks)])) := k4 _ _ x_ke (z_ne x_ke x_fa rfl)
        have a342 : f7 ke = some (.inr (6, [.ref kn, .ref vq, .int (nI ks)])) := k9 _ _ a341 
        have a343 : f315 ke = some (.inr (6, [.ref kn, .ref vq, .int (nI ks)])) := k319 _ _ a342 (z_ne a342 a312 rfl) (z_ne a342 a314 rfl)
        have a344 : f1 kn = some (.inl (cy 0, 40, .inl kk)) := k4 _ _ x_kn (z_ne x_kn x_fa rfl)
        have a345 : f7 kn = some (.inl (cy 0, 40, .inl kk)) := k9 _ _ a344 
        have a346 : f315 kn = some (.inl (cy 0, 40, .inl kk)) := k319 _ _ a345 (z_ne a345 a312 rfl) (z_ne a345 a314 rfl)
        have a347 : f1 vq = some (.inl (cy 0, 40, .inl kv)) := k4 _ _ x_vq (z_ne x_vq x_fa rfl)
        have a348 : f7 vq = some (.inl (cy 0, 40, .inl kv)) := k9 _ _ a347 
        have a349 : f315 vq = some (.inl (cy 0, 40, .inl kv)) := k319 _ _ a348 (z_ne a348 a312 rfl) (z_ne a348 a314 rfl)
        have F350 : ∀ i9 : Nat, i9 < nn → f1 (fg i9) = some (.inr (4, [.int (kd i9), .ref (pt i9), .long (wg i9), .int (wd i9), .int (nI i9), .int (hs i9), .int (bf i9)])) := fun i9 h9 => k4 _ _ (hF i9 h9) (z_ne (hF i9 h9) x_fa rfl)
        have F351 : ∀ i9 : Nat, i9 < nn → f7 (fg i9) = some (.inr (4, [.int (kd i9), .ref (pt i9), .long (wg i9), .int (wd i9), .int (nI i9), .int (hs i9), .int (bf i9)])) := fun i9 h9 => k9 _ _ (F350 i9 h9) 
        have F352 : ∀ i9 : Nat, i9 < nn → f315 (fg i9) = some (.inr (4, [.int (kd i9), .ref (pt i9), .long (wg i9), .int (wd i9), .int (nI i9), .int (hs i9), .int (bf i9)])) := fun i9 h9 => k319 _ _ (F351 i9 h9) (z_ne (F351 i9 h9) a312 rfl) (z_ne (F351 i9 h9) a314 rfl)
        have F353 : ∀ i9 : Nat, i9 < nn → f1 (pt i9) = some (.inl (cy 1, (ln i9), .inr (.inl (pp i9)))) := fun i9 h9 => k4 _ _ (hP i9 h9) (z_neO (hP i9 h9) x_fa rfl)
        have F354 : ∀ i9 : Nat, i9 < nn → f7 (pt i9) = some (.inl (cy 1, (ln i9), .inr (.inl (pp i9)))) := fun i9 h9 => k9 _ _ (F353 i9 h9) 
        have F355 : ∀ i9 : Nat, i9 < nn → f315 (pt i9) = some (.inl (cy 1, (ln i9), .inr (.inl (pp i9)))) := fun i9 h9 => k319 _ _ (F354 i9 h9) (z_neO (F354 i9 h9) a312 rfl) (z_neA (F354 i9 h9) a314 rfl)
        have F356 : ∀ i9 : Nat, i9 < nf → f1 (fq i9) = some (.inr (3, [.ref (fk i9), .int (nI (fz i9))])) := fun i9 h9 => k4 _ _ (hFq i9 h9) (z_ne (hFq i9 h9) x_fa rfl)
        have F357 : ∀ i9 : Nat, i9 < nf → f7 (fq i9) = some (.inr (3, [.ref (fk i9), .int (nI (fz i9))])) := fun i9 h9 => k9 _ _ (F356 i9 h9) 
        have F358 : ∀ i9 : Nat, i9 < nf → f315 (fq i9) = some (.inr (3, [.ref (fk i9), .int (nI (fz i9))])) := fun i9 h9 => k319 _ _ (F357 i9 h9) (z_ne (F357 i9 h9) a312 rfl) (z_ne (F357 i9 h9) a314 rfl)
        have F359 : ∀ i9 : Nat, i9 < nf → f1 (fk i9) = some (.inl (cy 0, 4, .inl (fc i9))) := fun i9 h9 => k4 _ _ (hFk i9 h9) (z_ne (hFk i9 h9) x_fa rfl)
        have F360 : ∀ i9 : Nat, i9 < nf → f7 (fk i9) = some (.inl (cy 0, 4, .inl (fc i9))) := fun i9 h9 => k9 _ _ (F359 i9 h9) 
        have F361 : ∀ i9 : Nat, i9 < nf → f315 (fk i9) = some (.inl (cy 0, 4, .inl (fc i9))) := fun i9 h9 => k319 _ _ (F360 i9 h9) (z_ne (F360 i9 h9) a312 rfl) (z_ne (F360 i9 h9) a314 rfl)
        have F362 : ∀ i9 : Nat, i9 < nc → f1 (cn i9) = some (.inr (0, [.int (ce i9), .int (cm i9)])) := fun i9 h9 => k4 _ _ (hCn i9 h9) (z_ne (hCn i9 h9) x_fa rfl)
        have F363 : ∀ i9 : Nat, i9 < nc → f7 (cn i9) = some (.inr (0, [.int (ce i9), .int (cm i9)])) := fun i9 h9 => k9 _ _ (F362 i9 h9) 
        have F364 : ∀ i9 : Nat, i9 < nc → f315 (cn i9) = some (.inr (0, [.int (ce i9), .int (cm i9)])) := fun i9 h9 => k319 _ _ (F363 i9 h9) (z_ne (F363 i9 h9) a312 rfl) (z_ne (F363 i9 h9) a314 rfl)
        have F365 : ∀ i9 : Nat, i9 < 4 → f1 (ea i9) = some (.inr (1, [.ref (ma i9), .int (nI (sq i9))])) := fun i9 h9 => k4 _ _ (hEa i9 h9) (z_ne (hEa i9 h9) x_fa rfl)
        have F366 : ∀ i9 : Nat, i9 < 4 → f7 (ea i9) = some (.inr (1, [.ref (ma i9), .int (nI (sq i9))])) := fun i9 h9 => k9 _ _ (F365 i9 h9) 
        have F367 : ∀ i9 : Nat, i9 < 4 → f315 (ea i9) = some (.inr (1, [.ref (ma i9), .int (nI (sq i9))])) := fun i9 h9 => k319 _ _ (F366 i9 h9) (z_ne (F366 i9 h9) a312 rfl) (z_ne (F366 i9 h9) a314 rfl)
        have F368 : ∀ i9 : Nat, i9 < 4 → f1 (ma i9) = some (.inl (cy 0, 60, .inl (mb i9))) := fun i9 h9 => k4 _ _ (hMa i9 h9) (z_ne (hMa i9 h9) x_fa rfl)
        have F369 : ∀ i9 : Nat, i9 < 4 → f7 (ma i9) = some (.inl (cy 0, 60, .inl (mb i9))) := fun i9 h9 => k9 _ _ (F368 i9 h9) 
        have F370 : ∀ i9 : Nat, i9 < 4 → f315 (ma i9) = some (.inl (cy 0, 60, .inl (mb i9))) := fun i9 h9 => k319 _ _ (F369 i9 h9) (z_ne (F369 i9 h9) a312 rfl) (z_ne (F369 i9 h9) a314 rfl)
        exact z_iret C hr rfl hz hS ⟨6, 2, 0, (upd gv 6 (gv 6 + 1)), nl, gu, nn, ga, gr, fg, pt, kd, ln, pp, wg, wd, hs, bf, nf, gf, fq, fk, fz, fc, nc, gc, cn, ce, cm, sq, mb, ks, kk, kv, lk, (by simp [h60, c10, c11, c12]), rfl, (by rw [if_neg (by decide)]), ⟨a320, a317, a318, a322, a325, a328, a331, a334, a337, a340, a343, a346, a349, F352, F355, F358, F361, F364, F367, F370, hn60, hl12, hf6, hc60, hs40, hga, hgr, hln, hk5, hk4, hfi, hpi, har, hgf, hfz, hgc, hG, hsq, hei, hmi, kne, hca, hcr, hlk⟩⟩ (Nat.le_of_ble_eq_true rfl) (Nat.le_of_ble_eq_true rfl) dX7_wide_49
    · refine lv_aload_n hx hb dX7_wide_25 rfl (lv_at hl 0 rfl) ?_
      have a371 : f7 o = some (.inr (7, [.ref fa, .ref fi, .ref nu, .int (nI nl), .ref fm, .int (nI nf), .ref co, .int (nI nc), .ref en, .ref ke, .long lk])) := k9 _ _ a5 
      refine z_get (v := .ref fa) C hz a371 zl7 mFX7_10 (by decide) rfl dX7_wide_26 ?_
      refine lv_iconst (v := 1) hx hb dX7_wide_29 (by decide) ?_
      refine lv_iconst (v := 1) hx hb dX7_wide_30 (by decide) ?_
      have a372 : f7 fa = some (.inr (2, [.int 0, .int (-1), .int 0, .ref ev])) := k9 _ _ a3 
      have a373 : f1 ev = some (.inl (cy 0, 8, .inl gv)) := k4 _ _ x_ev (z_ne x_ev x_fa rfl)
      have a374 : f7 ev = some (.inl (cy 0, 8, .inl gv)) := k9 _ _ a373 
      refine z_callVi (As := [.int 1, .int 1]) C hz hS hA hl (k_X2_own l D cy f7 fa 1 1 0 (-1) 0 ev gv a372 a374 ) zyX2_own mMX7_96 a372 zl2 rfl rfl (Nat.le_of_ble_eq_true rfl) ⟨Nat.le_of_ble_eq_true rfl, Nat.le_of_ble_eq_true rfl⟩ ⟨Nat.le_of_ble_eq_true rfl, Nat.le_of_ble_eq_true rfl⟩ dX7_wide_31 (fun r f375 H locs h376 hz hS => ?_)
      obtain ⟨rfl, a377, a378, k379⟩ := h376
      have a380 : f375 o = some (.inr (7, [.ref fa, .ref fi, .ref nu, .int (nI nl), .ref fm, .int (nI nf), .ref co, .int (nI nc), .ref en, .ref ke, .long lk])) := k379 _ _ a371 (z_ne a371 a372 rfl) (z_ne a371 a374 rfl)
      have a381 : f7 fi = some (.inr (5, [.ref al, .ref ra, .int (nI nn)])) := k9 _ _ a6 
      have a382 : f375 fi = some (.inr (5, [.ref al, .ref ra, .int (nI nn)])) := k379 _ _ a381 (z_ne a381 a372 rfl) (z_ne a381 a374 rfl)
      have a383 : f1 al = some (.inl (cy 3, 60, .inr (.inr (.inr (.inr ga))))) := k4 _ _ x_al (z_ne x_al x_fa rfl)
      have a384 : f7 al = some (.inl (cy 3, 60, .inr (.inr (.inr (.inr ga))))) := k9 _ _ a383 
      have a385 : f375 al = some (.inl (cy 3, 60, .inr (.inr (.inr (.inr ga))))) := k379 _ _ a384 (z_ne a384 a372 rfl) (z_ne a384 a374 rfl)
      have a386 : f1 ra = some (.inl (cy 3, 60, .inr (.inr (.inr (.inr gr))))) := k4 _ _ x_ra (z_ne x_ra x_fa rfl)
      have a387 : f7 ra = some (.inl (cy 3, 60, .inr (.inr (.inr (.inr gr))))) := k9 _ _ a386 
      have a388 : f375 ra = some (.inl (cy 3, 60, .inr (.inr (.inr (.inr gr))))) := k379 _ _ a387 (z_ne a387 a372 rfl) (z_ne a387 a374 rfl)
      have a389 : f1 nu = some (.inl (cy 0, 12, .inl gu)) := k4 _ _ x_nu (z_ne x_nu x_fa rfl)
      have a390 : f7 nu = some (.inl (cy 0, 12, .inl gu)) := k9 _ _ a389 
      have a391 : f375 nu = some (.inl (cy 0, 12, .inl gu)) := k379 _ _ a390 (z_ne a390 a372 rfl) (z_ne a390 a374 rfl)
      have a392 : f1 fm = some (.inl (cy 4, 6, .inr (.inr (.inr (.inr gf))))) := k4 _ _ x_fm (z_ne x_fm x_fa rfl)
      have a393 : f7 fm = some (.inl (cy 4, 6, .inr (.inr (.inr (.inr gf))))) := k9 _ _ a392 
      have a394 : f375 fm = some (.inl (cy 4, 6, .inr (.inr (.inr (.inr gf))))) := k379 _ _ a393 (z_ne a393 a372 rfl) (z_ne a393 a374 rfl)
      have a395 : f1 co = some (.inl (cy 5, 60, .inr (.inr (.inr (.inr gc))))) := k4 _ _ x_co (z_ne x_co x_fa rfl)
      have a396 : f7 co = some (.inl (cy 5, 60, .inr (.inr (.inr (.inr gc))))) := k9 _ _ a395 
      have a397 : f375 co = some (.inl (cy 5, 60, .inr (.inr (.inr (.inr gc))))) := k379 _ _ a396 (z_ne a396 a372 rfl) (z_ne a396 a374 rfl)
      have a398 : f1 en = some (.inl (cy 6, 4, .inr (.inr (.inr (.inr ge))))) := k4 _ _ x_en (z_ne x_en x_fa rfl)
      have a399 : f7 en = some (.inl (cy 6, 4, .inr (.inr (.inr (.inr ge))))) := k9 _ _ a398 
      have a400 : f375 en = some (.inl (cy 6, 4, .inr (.inr (.inr (.inr ge))))) := k379 _ _ a399 (z_ne a399 a372 rfl) (z_ne a399 a374 rfl)
      have a401 : f1 ke = some (.inr (6, [.ref kn, .ref vq, .int (nI ks)])) := k4 _ _ x_ke (z_ne x_ke x_fa rfl)
      have a402 : f7 ke = some (.inr (6, [.ref kn, .ref vq, .int (nI ks)])) := k9 _ _ a401 
      have a403 : f375 ke = some (.inr (6, [.ref kn, .ref vq, .int (nI ks)])) := k379 _ _ a402 (z_ne a402 a372 rfl) (z_ne a402 a374 rfl)
      have a404 : f1 kn = some (.inl (cy 0, 40, .inl kk)) := k4 _ _ x_kn (z_ne x_kn x_fa rfl)
      have a405 : f7 kn = some (.inl (cy 0, 40, .inl kk)) := k9 _ _ a404 
      have a406 : f375 kn = some (.inl (cy 0, 40, .inl kk)) := k379 _ _ a405 (z_ne a405 a372 rfl) (z_ne a405 a374 rfl)
      have a407 : f1 vq = some (.inl (cy 0, 40, .inl kv)) := k4 _ _ x_vq (z_ne x_vq x_fa rfl)
      have a408 : f7 vq = some (.inl (cy 0, 40, .inl kv)) := k9 _ _ a407 
      have a409 : f375 vq = some (.inl (cy 0, 40, .inl kv)) := k379 _ _ a408 (z_ne a408 a372 rfl) (z_ne a408 a374 rfl)
      have F410 : ∀ i9 : Nat, i9 < nn → f1 (fg i9) = some (.inr (4, [.int (kd i9), .ref (pt i9), .long (wg i9), .int (wd i9), .int (nI i9), .int (hs i9), .int (bf i9)])) := fun i9 h9 => k4 _ _ (hF i9 h9) (z_ne (hF i9 h9) x_fa rfl)
      have F411 : ∀ i9 : Nat, i9 < nn → f7 (fg i9) = some (.inr (4, [.int (kd i9), .ref (pt i9), .long (wg i9), .int (wd i9), .int (nI i9), .int (hs i9), .int (bf i9)])) := fun i9 h9 => k9 _ _ (F410 i9 h9) 
      have F412 : ∀ i9 : Nat, i9 < nn → f375 (fg i9) = some (.inr (4, [.int (kd i9), .ref (pt i9), .long (wg i9), .int (wd i9), .int (nI i9), .int (hs i9), .int (bf i9)])) := fun i9 h9 => k379 _ _ (F411 i9 h9) (z_ne (F411 i9 h9) a372 rfl) (z_ne (F411 i9 h9) a374 rfl)
      have F413 : ∀ i9 : Nat, i9 < nn → f1 (pt i9) = some (.inl (cy 1, (ln i9), .inr (.inl (pp i9)))) := fun i9 h9 => k4 _ _ (hP i9 h9) (z_neO (hP i9 h9) x_fa rfl)
      have F414 : ∀ i9 : Nat, i9 < nn → f7 (pt i9) = some (.inl (cy 1, (ln i9), .inr (.inl (pp i9)))) := fun i9 h9 => k9 _ _ (F413 i9 h9) 
      have F415 : ∀ i9 : Nat, i9 < nn → f375 (pt i9) = some (.inl (cy 1, (ln i9), .inr (.inl (pp i9)))) := fun i9 h9 => k379 _ _ (F414 i9 h9) (z_neO (F414 i9 h9) a372 rfl) (z_neA (F414 i9 h9) a374 rfl)
      have F416 : ∀ i9 : Nat, i9 < nf → f1 (fq i9) = some (.inr (3, [.ref (fk i9), .int (nI (fz i9))])) := fun i9 h9 => k4 _ _ (hFq i9 h9) (z_ne (hFq i9 h9) x_fa rfl)
      have F417 : ∀ i9 : Nat, i9 < nf → f7 (fq i9) = some (.inr (3, [.ref (fk i9), .int (nI (fz i9))])) := fun i9 h9 => k9 _ _ (F416 i9 h9) 
      have F418 : ∀ i9 : Nat, i9 < nf → f375 (fq i9) = some (.inr (3, [.ref (fk i9), .int (nI (fz i9))])) := fun i9 h9 => k379 _ _ (F417 i9 h9) (z_ne (F417 i9 h9) a372 rfl) (z_ne (F417 i9 h9) a374 rfl)
      have F419 : ∀ i9 : Nat, i9 < nf → f1 (fk i9) = some (.inl (cy 0, 4, .inl (fc i9))) := fun i9 h9 => k4 _ _ (hFk i9 h9) (z_ne (hFk i9 h9) x_fa rfl)
      have F420 : ∀ i9 : Nat, i9 < nf → f7 (fk i9) = some (.inl (cy 0, 4, .inl (fc i9))) := fun i9 h9 => k9 _ _ (F419 i9 h9) 
      have F421 : ∀ i9 : Nat, i9 < nf → f375 (fk i9) = some (.inl (cy 0, 4, .inl (fc i9))) := fun i9 h9 => k379 _ _ (F420 i9 h9) (z_ne (F420 i9 h9) a372 rfl) (z_ne (F420 i9 h9) a374 rfl)
      have F422 : ∀ i9 : Nat, i9 < nc → f1 (cn i9) = some (.inr (0, [.int (ce i9), .int (cm i9)])) := fun i9 h9 => k4 _ _ (hCn i9 h9) (z_ne (hCn i9 h9) x_fa rfl)
      have F423 : ∀ i9 : Nat, i9 < nc → f7 (cn i9) = some (.inr (0, [.int (ce i9), .int (cm i9)])) := fun i9 h9 => k9 _ _ (F422 i9 h9) 
      have F424 : ∀ i9 : Nat, i9 < nc → f375 (cn i9) = some (.inr (0, [.int (ce i9), .int (cm i9)])) := fun i9 h9 => k379 _ _ (F423 i9 h9) (z_ne (F423 i9 h9) a372 rfl) (z_ne (F423 i9 h9) a374 rfl)
      have F425 : ∀ i9 : Nat, i9 < 4 → f1 (ea i9) = some (.inr (1, [.ref (ma i9), .int (nI (sq i9))])) := fun i9 h9 => k4 _ _ (hEa i9 h9) (z_ne (hEa i9 h9) x_fa rfl)
      have F426 : ∀ i9 : Nat, i9 < 4 → f7 (ea i9) = some (.inr (1, [.ref (ma i9), .int (nI (sq i9))])) := fun i9 h9 => k9 _ _ (F425 i9 h9) 
      have F427 : ∀ i9 : Nat, i9 < 4 → f375 (ea i9) = some (.inr (1, [.ref (ma i9), .int (nI (sq i9))])) := fun i9 h9 => k379 _ _ (F426 i9 h9) (z_ne (F426 i9 h9) a372 rfl) (z_ne (F426 i9 h9) a374 rfl)
      have F428 : ∀ i9 : Nat, i9 < 4 → f1 (ma i9) = some (.inl (cy 0, 60, .inl (mb i9))) := fun i9 h9 => k4 _ _ (hMa i9 h9) (z_ne (hMa i9 h9) x_fa rfl)
      have F429 : ∀ i9 : Nat, i9 < 4 → f7 (ma i9) = some (.inl (cy 0, 60, .inl (mb i9))) := fun i9 h9 => k9 _ _ (F428 i9 h9) 
      have F430 : ∀ i9 : Nat, i9 < 4 → f375 (ma i9) = some (.inl (cy 0, 60, .inl (mb i9))) := fun i9 h9 => k379 _ _ (F429 i9 h9) (z_ne (F429 i9 h9) a372 rfl) (z_ne (F429 i9 h9) a374 rfl)
      exact z_iret C hr rfl hz hS ⟨7, 1, 1, (upd gv 7 (gv 7 + 1)), nl, gu, nn, ga, gr, fg, pt, kd, ln, pp, wg, wd, hs, bf, nf, gf, fq, fk, fz, fc, nc, gc, cn, ce, cm, sq, mb, ks, kk, kv, lk, (by simp [h60, c10, c11]), rfl, (by rw [if_neg (by decide)]), ⟨a380, a377, a378, a382, a385, a388, a391, a394, a397, a400, a403, a406, a409, F412, F415, F418, F421, F424, F427, F430, hn60, hl12, hf6, hc60, hs40, hga, hgr, hln, hk5, hk4, hfi, hpi, har, hgf, hfz, hgc, hG, hsq, hei, hmi, kne, hca, hcr, hlk⟩⟩ (Nat.le_of_ble_eq_true rfl) (Nat.le_of_ble_eq_true rfl) dX7_wide_34
  · have a431 : f1 fi = some (.inr (5, [.ref al, .ref ra, .int (nI nn)])) := k4 _ _ x_fi (z_ne x_fi x_fa rfl)
    refine z_callVi (As := []) C hz hS hA hl (k_X5_isFull_B l D cy f1 fi al ra nn a431 hn60 h60) zyX5_isFull mMX7_79 a431 zl5 rfl rfl (Nat.le_of_ble_eq_true rfl) ⟨Nat.le_of_ble_eq_true rfl, Nat.le_of_ble_eq_true rfl⟩ ⟨Nat.le_of_ble_eq_true rfl, Nat.le_of_ble_eq_true rfl⟩ dX7_wide_11 (fun r f432 H locs h433 hz hS => ?_)
    obtain ⟨rfl, k434⟩ := h433
    refine lv_if_eq (tgt := 20) hx hb dX7_wide_14 (by decide) (fun c435 => ?_) (fun c435 => ?_)
    · exact absurd c435 (by decide)
    refine lv_bipush (v := (-3)) hx hb dX7_wide_17 (by decide) ?_
    have a436 : f432 o = some (.inr (7, [.ref fa, .ref fi, .ref nu, .int (nI nl), .ref fm, .int (nI nf), .ref co, .int (nI nc), .ref en, .ref ke, .long lk])) := k434 _ _ a5 
    have a437 : f432 fa = some (.inr (2, [.int 0, .int (-1), .int 0, .ref ev])) := k434 _ _ a3 
    have a438 : f1 ev = some (.inl (cy 0, 8, .inl gv)) := k4 _ _ x_ev (z_ne x_ev x_fa rfl)
    have a439 : f432 ev = some (.inl (cy 0, 8, .inl gv)) := k434 _ _ a438 
    have a440 : f432 fi = some (.inr (5, [.ref al, .ref ra, .int (nI nn)])) := k434 _ _ a431 
    have a441 : f1 al = some (.inl (cy 3, 60, .inr (.inr (.inr (.inr ga))))) := k4 _ _ x_al (z_ne x_al x_fa rfl)
    have a442 : f432 al = some (.inl (cy 3, 60, .inr (.inr (.inr (.inr ga))))) := k434 _ _ a441 
    have a443 : f1 ra = some (.inl (cy 3, 60, .inr (.inr (.inr (.inr gr))))) := k4 _ _ x_ra (z_ne x_ra x_fa rfl)
    have a444 : f432 ra = some (.inl (cy 3, 60, .inr (.inr (.inr (.inr gr))))) := k434 _ _ a443 
    have a445 : f1 nu = some (.inl (cy 0, 12, .inl gu)) := k4 _ _ x_nu (z_ne x_nu x_fa rfl)
    have a446 : f432 nu = some (.inl (cy 0, 12, .inl gu)) := k434 _ _ a445 
    have a447 : f1 fm = some (.inl (cy 4, 6, .inr (.inr (.inr (.inr gf))))) := k4 _ _ x_fm (z_ne x_fm x_fa rfl)
    have a448 : f432 fm = some (.inl (cy 4, 6, .inr (.inr (.inr (.inr gf))))) := k434 _ _ a447 
    have a449 : f1 co = some (.inl (cy 5, 60, .inr (.inr (.inr (.inr gc))))) := k4 _ _ x_co (z_ne x_co x_fa rfl)
    have a450 : f432 co = some (.inl (cy 5, 60, .inr (.inr (.inr (.inr gc))))) := k434 _ _ a449 
    have a451 : f1 en = some (.inl (cy 6, 4, .inr (.inr (.inr (.inr ge))))) := k4 _ _ x_en (z_ne x_en x_fa rfl)
    have a452 : f432 en = some (.inl (cy 6, 4, .inr (.inr (.inr (.inr ge))))) := k434 _ _ a451 
    have a453 : f1 ke = some (.inr (6, [.ref kn, .ref vq, .int (nI ks)])) := k4 _ _ x_ke (z_ne x_ke x_fa rfl)
    have a454 : f432 ke = some (.inr (6, [.ref kn, .ref vq, .int (nI ks)])) := k434 _ _ a453 
    have a455 : f1 kn = some (.inl (cy 0, 40, .inl kk)) := k4 _ _ x_kn (z_ne x_kn x_fa rfl)
    have a456 : f432 kn = some (.inl (cy 0, 40, .inl kk)) := k434 _ _ a455 
    have a457 : f1 vq = some (.inl (cy 0, 40, .inl kv)) := k4 _ _ x_vq (z_ne x_vq x_fa rfl)
    have a458 : f432 vq = some (.inl (cy 0, 40, .inl kv)) := k434 _ _ a457 
    have F459 : ∀ i9 : Nat, i9 < nn → f1 (fg i9) = some (.inr (4, [.int (kd i9), .ref (pt i9), .long (wg i9), .int (wd i9), .int (nI i9), .int (hs i9), .int (bf i9)])) := fun i9 h9 => k4 _ _ (hF i9 h9) (z_ne (hF i9 h9) x_fa rfl)
    have F460 : ∀ i9 : Nat, i9 < nn → f432 (fg i9) = some (.inr (4, [.int (kd i9), .ref (pt i9), .long (wg i9), .int (wd i9), .int (nI i9), .int (hs i9), .int (bf i9)])) := fun i9 h9 => k434 _ _ (F459 i9 h9) 
    have F461 : ∀ i9 : Nat, i9 < nn → f1 (pt i9) = some (.inl (cy 1, (ln i9), .inr (.inl (pp i9)))) := fun i9 h9 => k4 _ _ (hP i9 h9) (z_neO (hP i9 h9) x_fa rfl)
    have F462 : ∀ i9 : Nat, i9 < nn → f432 (pt i9) = some (.inl (cy 1, (ln i9), .inr (.inl (pp i9)))) := fun i9 h9 => k434 _ _ (F461 i9 h9) 
    have F463 : ∀ i9 : Nat, i9 < nf → f1 (fq i9) = some (.inr (3, [.ref (fk i9), .int (nI (fz i9))])) := fun i9 h9 => k4 _ _ (hFq i9 h9) (z_ne (hFq i9 h9) x_fa rfl)
    have F464 : ∀ i9 : Nat, i9 < nf → f432 (fq i9) = some (.inr (3, [.ref (fk i9), .int (nI (fz i9))])) := fun i9 h9 => k434 _ _ (F463 i9 h9) 
    have F465 : ∀ i9 : Nat, i9 < nf → f1 (fk i9) = some (.inl (cy 0, 4, .inl (fc i9))) := fun i9 h9 => k4 _ _ (hFk i9 h9) (z_ne (hFk i9 h9) x_fa rfl)
    have F466 : ∀ i9 : Nat, i9 < nf → f432 (fk i9) = some (.inl (cy 0, 4, .inl (fc i9))) := fun i9 h9 => k434 _ _ (F465 i9 h9) 
    have F467 : ∀ i9 : Nat, i9 < nc → f1 (cn i9) = some (.inr (0, [.int (ce i9), .int (cm i9)])) := fun i9 h9 => k4 _ _ (hCn i9 h9) (z_ne (hCn i9 h9) x_fa rfl)
    have F468 : ∀ i9 : Nat, i9 < nc → f432 (cn i9) = some (.inr (0, [.int (ce i9), .int (cm i9)])) := fun i9 h9 => k434 _ _ (F467 i9 h9) 
    have F469 : ∀ i9 : Nat, i9 < 4 → f1 (ea i9) = some (.inr (1, [.ref (ma i9), .int (nI (sq i9))])) := fun i9 h9 => k4 _ _ (hEa i9 h9) (z_ne (hEa i9 h9) x_fa rfl)
    have F470 : ∀ i9 : Nat, i9 < 4 → f432 (ea i9) = some (.inr (1, [.ref (ma i9), .int (nI (sq i9))])) := fun i9 h9 => k434 _ _ (F469 i9 h9) 
    have F471 : ∀ i9 : Nat, i9 < 4 → f1 (ma i9) = some (.inl (cy 0, 60, .inl (mb i9))) := fun i9 h9 => k4 _ _ (hMa i9 h9) (z_ne (hMa i9 h9) x_fa rfl)
    have F472 : ∀ i9 : Nat, i9 < 4 → f432 (ma i9) = some (.inl (cy 0, 60, .inl (mb i9))) := fun i9 h9 => k434 _ _ (F471 i9 h9) 
    exact z_iret C hr rfl hz hS ⟨0, (-1), 0, gv, nl, gu, nn, ga, gr, fg, pt, kd, ln, pp, wg, wd, hs, bf, nf, gf, fq, fk, fz, fc, nc, gc, cn, ce, cm, sq, mb, ks, kk, kv, lk, (by simp [h60, c435]), rfl, (by rw [if_neg (by decide)]), ⟨a436, a437, a439, a440, a442, a444, a446, a448, a450, a452, a454, a456, a458, F460, F462, F464, F466, F468, F470, F472, hn60, hl12, hf6, hc60, hs40, hga, hgr, hln, hk5, hk4, hfi, hpi, har, hgf, hfz, hgc, hG, hsq, hei, hmi, kne, hca, hcr, hlk⟩⟩ (Nat.le_of_ble_eq_true rfl) (Nat.le_of_ble_eq_true rfl) dX7_wide_19
abbrev rmX7_share : Room := { frames := 6, cells := 2, slots := 10, locals := 140 }
set_option maxHeartbeats 4000000 in
set_option maxRecDepth 100000 in
theorem k_X7_share (l : Launch) (D : va_G) (cy : Nat → ClassId) (f : zM) (o : Nat) (fa : Nat) (fi : Nat) (nu : Nat) (fm : Nat) (co : Nat) (en : Nat) (ke : Nat) (ev : Nat) (al : Nat) (ra : Nat) (kn : Nat) (vq : Nat) (ge : Nat → Option Nat) (ea : Nat → Nat) (ma : Nat → Nat) (u1 : Int32) (u2 : Int32) (u3 : Int32) (gv : Nat → Int32) (nl : Nat) (gu : Nat → Int32) (nn : Nat) (ga : Nat → Option Nat) (gr : Nat → Option Nat) (fg : Nat → Nat) (pt : Nat → Nat) (kd : Nat → Int32) (ln : Nat → Nat) (pp : Nat → Nat → Int64) (wg : Nat → Int64) (wd : Nat → Int32) (hs : Nat → Int32) (bf : Nat → Int32) (nf : Nat) (gf : Nat → Option Nat) (fq : Nat → Nat) (fk : Nat → Nat) (fz : Nat → Nat) (fc : Nat → Nat → Int32) (nc : Nat) (gc : Nat → Option Nat) (cn : Nat → Nat) (ce : Nat → Int32) (cm : Nat → Int32) (sq : Nat → Nat) (mb : Nat → Nat → Int32) (ks : Nat) (kk : Nat → Int32) (kv : Nat → Int32) (lk : Int64) (x : Int64) (y : Int64)    (hI : zIX cy f o fa fi nu fm co en ke ev al ra kn vq ge ea ma u1 u2 u3 gv nl gu nn ga gr fg pt kd ln pp wg wd hs bf nf gf fq fk fz fc nc gc cn ce cm sq mb ks kk kv lk) : zCi l D cy yX7_share cX7_share 7 (Option.some Jvm.ClassFile.FieldType.int) rmX7_share [.ref o, .long x, .long y] f (fun (r : Int32) (f1 : zM) => ∃ (u11 : Int32) (u21 : Int32) (u31 : Int32) (gv1 : Nat → Int32) (nl1 : Nat) (gu1 : Nat → Int32) (nn1 : Nat) (ga1 : Nat → Option Nat) (gr1 : Nat → Option Nat) (fg1 : Nat → Nat) (pt1 : Nat → Nat) (kd1 : Nat → Int32) (ln1 : Nat → Nat) (pp1 : Nat → Nat → Int64) (wg1 : Nat → Int64) (wd1 : Nat → Int32) (hs1 : Nat → Int32) (bf1 : Nat → Int32) (nf1 : Nat) (gf1 : Nat → Option Nat) (fq1 : Nat → Nat) (fk1 : Nat → Nat) (fz1 : Nat → Nat) (fc1 : Nat → Nat → Int32) (nc1 : Nat) (gc1 : Nat → Option Nat) (cn1 : Nat → Nat) (ce1 : Nat → Int32) (cm1 : Nat → Int32) (sq1 : Nat → Nat) (mb1 : Nat → Nat → Int32) (ks1 : Nat) (kk1 : Nat → Int32) (kv1 : Nat → Int32) (lk1 : Int64), r = (if nn < 60 then (if y = 0 then (-4) else nI nn) else (-3)) ∧ (nl1 = nl) ∧ (nn1 = if 0 ≤ r then nn + 1 else nn) ∧ zIX cy f1 o fa fi nu fm co en ke ev al ra kn vq ge ea ma u11 u21 u31 gv1 nl1 gu1 nn1 ga1 gr1 fg1 pt1 kd1 ln1 pp1 wg1 wd1 hs1 bf1 nf1 gf1 fq1 fk1 fz1 fc1 nc1 gc1 cn1 ce1 cm1 sq1 mb1 ks1 kk1 kv1 lk1) := by
  intro sz
  refine z_body (by decide +kernel) (Nat.le_of_ble_eq_true rfl) ?_
  intro p e s m below meth c ls C hr hin hsz hz hl
  subst hsz
  have hx := C.1
  have hb := C.2.1
  have hA : ∀ q, s.heap.size ≤ q → zA f s.heap.size q := fun q h => Or.inr h
  have hS : va_S (zA f s.heap.size) s.heap s.heap [] := va_S.rf
  have hl : lv_has ls 7 [(0, .ref o), (1, .long x), (3, .long y)] := hl
  obtain ⟨x_o, x_fa, x_ev, x_fi, x_al, x_ra, x_nu, x_fm, x_co, x_en, x_ke, x_kn, x_vq, hF, hP, hFq, hFk, hCn, hEa, hMa, hn60, hl12, hf6, hc60, hs40, hga, hgr, hln, hk5, hk4, hfi, hpi, har, hgf, hfz, hgc, hG, hsq, hei, hmi, kne, hca, hcr, hlk⟩ := id hI
  refine lv_aload_n hx hb dX7_share_0 rfl (lv_at hl 0 rfl) ?_
  refine z_get (v := .ref fa) C hz x_o zl7 mFX7_10 (by decide) rfl dX7_share_1 ?_
  refine z_callVv (As := []) C hz hS hA hl (k_X2_none l D cy f fa u1 u2 u3 ev x_fa ) zyX2_none mMX7_76 x_fa zl2 rfl rfl (Nat.le_of_ble_eq_true rfl) ⟨Nat.le_of_ble_eq_true rfl, Nat.le_of_ble_eq_true rfl⟩ ⟨Nat.le_of_ble_eq_true rfl, Nat.le_of_ble_eq_true rfl⟩ dX7_share_4 (fun  f1 H locs h2 hz hS => ?_)
  obtain ⟨a3, k4⟩ := h2
  refine lv_aload_n hx hb dX7_share_7 rfl (lv_at hl 0 rfl) ?_
  have a5 : f1 o = some (.inr (7, [.ref fa, .ref fi, .ref nu, .int (nI nl), .ref fm, .int (nI nf), .ref co, .int (nI nc), .ref en, .ref ke, .long lk])) := k4 _ _ x_o (z_ne x_o x_fa rfl)
  refine z_get (v := .ref fi) C hz a5 zl7 mFX7_19 (by decide) rfl dX7_share_8 ?_
  by_cases h60 : nn < 60
  · have a6 : f1 fi = some (.inr (5, [.ref al, .ref ra, .int (nI nn)])) := k4 _ _ x_fi (z_ne x_fi x_fa rfl)
    refine z_callVi (As := []) C hz hS hA hl (k_X5_isFull_A l D cy f1 fi al ra nn a6 hn60 h60) zyX5_isFull mMX7_79 a6 zl5 rfl rfl (Nat.le_of_ble_eq_true rfl) ⟨Nat.le_of_ble_eq_true rfl, Nat.le_of_ble_eq_true rfl⟩ ⟨Nat.le_of_ble_eq_true rfl, Nat.le_of_ble_eq_true rfl⟩ dX7_share_11 (fun r f7 H locs h8 hz hS => ?_)
    obtain ⟨rfl, k9⟩ := h8
    refine lv_if_eq (tgt := 20) hx hb dX7_share_14 (by decide) (fun c10 => ?_) (fun c10 => ?_)
    rotate_left
    · exact absurd c10 (by decide)
    refine lv_lload_n hx hb dX7_share_20 rfl (lv_at hl 2 rfl) ?_
    refine lv_lconst (v := 0) hx hb dX7_share_21 (by decide) ?_
    refine W.lcmp hx hb dX7_share_22 ?_
    refine lv_if_ne (tgt := 37) hx hb dX7_share_23 (by decide) (fun c11 => ?_) (fun c11 => ?_)
    · refine lv_lload_n hx hb dX7_share_37 rfl (lv_at hl 1 rfl) ?_
      refine lv_lload_n hx hb dX7_share_38 rfl (lv_at hl 2 rfl) ?_
      refine lv_ldiv hx hb dX7_share_39 (fun h => c11 ((lg_cmp_eq y 0).mpr h)) ?_
      refine lv_lstore (lv' := [(5, .long (x / y)), (0, .ref o), (1, .long x), (3, .long y)]) hx hb dX7_share_40 hl (by decide) rfl (fun ls hl => ?_)
      refine lv_aload_n hx hb dX7_share_42 rfl (lv_at hl 1 rfl) ?_
      have a12 : f7 o = some (.inr (7, [.ref fa, .ref fi, .ref nu, .int (nI nl), .ref fm, .int (nI nf), .ref co, .int (nI nc), .ref en, .ref ke, .long lk])) := k9 _ _ a5 
      refine z_get (v := .ref fi) C hz a12 zl7 mFX7_19 (by decide) rfl dX7_share_43 ?_
      refine z_new (fs := [.int 0, .null, .long 0, .int 0, .int 0, .int 0, .int 0]) C hz hS hA zl4 mLX7_83 mIa_RX4 mIn_RX4 (by decide +kernel) (Nat.le_of_ble_eq_true rfl) (Nat.le_of_ble_eq_true rfl) dX7_share_46 (fun q13 H f15 u14 a16 k17 hz hS => ?_)
      refine lv_dup hx hb dX7_share_49 rfl ?_
      refine lv_iconst (v := 3) hx hb dX7_share_50 (by decide) ?_
      refine lv_iconst (v := 3) hx hb dX7_share_51 (by decide) ?_
      refine z_newa (atype := .long) (t0 := 1) (N' := 3) (x := (.inr (.inl (fun _ => 0)))) C hz hS hA rfl mA_long rfl (fun _ => rfl) (by decide) (Nat.le_of_ble_eq_true rfl) (by decide) (Nat.le_of_ble_eq_true rfl) (Nat.le_of_ble_eq_true rfl) dX7_share_52 (fun q18 H f20 u19 a21 k22 hz hS => ?_)
      refine lv_dup hx hb dX7_share_54 rfl ?_
      refine lv_iconst (v := 0) hx hb dX7_share_55 (by decide) ?_
      refine lv_lload_n hx hb dX7_share_56 rfl (lv_at hl 2 rfl) ?_
      refine z_last 0 C hz hS a21 (by decide) (Nat.le_of_ble_eq_true rfl) (by omega) dX7_share_57 (fun H locs f23 a24 k25 hz hS => ?_)
      refine lv_dup hx hb dX7_share_58 rfl ?_
      refine lv_iconst (v := 1) hx hb dX7_share_59 (by decide) ?_
      refine lv_lload_n hx hb dX7_share_60 rfl (lv_at hl 3 rfl) ?_
      refine z_last 1 C hz hS a24 (by decide) (Nat.le_of_ble_eq_true rfl) (by omega) dX7_share_61 (fun H locs f26 a27 k28 hz hS => ?_)
      refine lv_dup hx hb dX7_share_62 rfl ?_
      refine lv_iconst (v := 2) hx hb dX7_share_63 (by decide) ?_
      refine lv_lload hx hb dX7_share_64 (lv_at hl 0 rfl) ?_
      refine z_last 2 C hz hS a27 (by decide) (Nat.le_of_ble_eq_true rfl) (by omega) dX7_share_66 (fun H locs f29 a30 k31 hz hS => ?_)
      refine lv_lload hx hb dX7_share_67 (lv_at hl 0 rfl) ?_
      have a32 : f20 q13 = some (.inr (4, [.int 0, .null, .long 0, .int 0, .int 0, .int 0, .int 0])) := (k22 _ (z_nn u19 a16)).trans a16
      have a33 : f23 q13 = some (.inr (4, [.int 0, .null, .long 0, .int 0, .int 0, .int 0, .int 0])) := (k25 _ (z_nn u19 a16)).trans a32
      have a34 : f26 q13 = some (.inr (4, [.int 0, .null, .long 0, .int 0, .int 0, .int 0, .int 0])) := (k28 _ (z_nn u19 a16)).trans a33
      have a35 : f29 q13 = some (.inr (4, [.int 0, .null, .long 0, .int 0, .int 0, .int 0, .int 0])) := (k31 _ (z_nn u19 a16)).trans a34
      refine z_callIv (ret := none) (As := [.int 3, .ref q18, .long (x / y)]) C hz hS hA hl (k_X4_init l D cy f29 q13 3 q18 (x / y) a35 ) zyX4_init mMX7_89 rfl rfl (Nat.le_of_ble_eq_true rfl) ⟨Nat.le_of_ble_eq_true rfl, Nat.le_of_ble_eq_true rfl⟩ ⟨Nat.le_of_ble_eq_true rfl, Nat.le_of_ble_eq_true rfl⟩ dX7_share_69 (fun  f36 H locs h37 hz hS => ?_)
      obtain ⟨a38, k39⟩ := h37
      have a40 : f7 fi = some (.inr (5, [.ref al, .ref ra, .int (nI nn)])) := k9 _ _ a6 
      have a41 : f15 fi = some (.inr (5, [.ref al, .ref ra, .int (nI nn)])) := (k17 _ (z_nn u14 a40)).trans a40
      have a42 : f20 fi = some (.inr (5, [.ref al, .ref ra, .int (nI nn)])) := (k22 _ (z_nn u19 a41)).trans a41
      have a43 : f23 fi = some (.inr (5, [.ref al, .ref ra, .int (nI nn)])) := (k25 _ (z_nn u19 a41)).trans a42
      have a44 : f26 fi = some (.inr (5, [.ref al, .ref ra, .int (nI nn)])) := (k28 _ (z_nn u19 a41)).trans a43
      have a45 : f29 fi = some (.inr (5, [.ref al, .ref ra, .int (nI nn)])) := (k31 _ (z_nn u19 a41)).trans a44
      have a46 : f36 fi = some (.inr (5, [.ref al, .ref ra, .int (nI nn)])) := k39 _ _ a45 (z_nn u14 a40)
      have a47 : f1 al = some (.inl (cy 3, 60, .inr (.inr (.inr (.inr ga))))) := k4 _ _ x_al (z_ne x_al x_fa rfl)
      have a48 : f7 al = some (.inl (cy 3, 60, .inr (.inr (.inr (.inr ga))))) := k9 _ _ a47 
      have a49 : f15 al = some (.inl (cy 3, 60, .inr (.inr (.inr (.inr ga))))) := (k17 _ (z_nn u14 a48)).trans a48
      have a50 : f20 al = some (.inl (cy 3, 60, .inr (.inr (.inr (.inr ga))))) := (k22 _ (z_nn u19 a49)).trans a49
      have a51 : f23 al = some (.inl (cy 3, 60, .inr (.inr (.inr (.inr ga))))) := (k25 _ (z_nn u19 a49)).trans a50
      have a52 : f26 al = some (.inl (cy 3, 60, .inr (.inr (.inr (.inr ga))))) := (k28 _ (z_nn u19 a49)).trans a51
      have a53 : f29 al = some (.inl (cy 3, 60, .inr (.inr (.inr (.inr ga))))) := (k31 _ (z_nn u19 a49)).trans a52
      have a54 : f36 al = some (.inl (cy 3, 60, .inr (.inr (.inr (.inr ga))))) := k39 _ _ a53 (z_nn u14 a48)
      have a55 : f1 ra = some (.inl (cy 3, 60, .inr (.inr (.inr (.inr gr))))) := k4 _ _ x_ra (z_ne x_ra x_fa rfl)
      have a56 : f7 ra = some (.inl (cy 3, 60, .inr (.inr (.inr (.inr gr))))) := k9 _ _ a55 
      have a57 : f15 ra = some (.inl (cy 3, 60, .inr (.inr (.inr (.inr gr))))) := (k17 _ (z_nn u14 a56)).trans a56
      have a58 : f20 ra = some (.inl (cy 3, 60, .inr (.inr (.inr (.inr gr))))) := (k22 _ (z_nn u19 a57)).trans a57
      have a59 : f23 ra = some (.inl (cy 3, 60, .inr (.inr (.inr (.inr gr))))) := (k25 _ (z_nn u19 a57)).trans a58
      have a60 : f26 ra = some (.inl (cy 3, 60, .inr (.inr (.inr (.inr gr))))) := (k28 _ (z_nn u19 a57)).trans a59
      have a61 : f29 ra = some (.inl (cy 3, 60, .inr (.inr (.inr (.inr gr))))) := (k31 _ (z_nn u19 a57)).trans a60
      have a62 : f36 ra = some (.inl (cy 3, 60, .inr (.inr (.inr (.inr gr))))) := k39 _ _ a61 (z_nn u14 a56)
      have a63 : f36 q18 = some (.inl (cy 1, 3, .inr (.inl (vp_updL (vp_updL (vp_updL (fun _ => 0) 0 x) 1 y) 2 (x / y))))) := k39 _ _ a30 (Ne.symm (z_nn u19 a16))
      have F64 : ∀ i9 : Nat, i9 < nn → f1 (fg i9) = some (.inr (4, [.int (kd i9), .ref (pt i9), .long (wg i9), .int (wd i9), .int (nI i9), .int (hs i9), .int (bf i9)])) := fun i9 h9 => k4 _ _ (hF i9 h9) (z_ne (hF i9 h9) x_fa rfl)
      have F65 : ∀ i9 : Nat, i9 < nn → f7 (fg i9) = some (.inr (4, [.int (kd i9), .ref (pt i9), .long (wg i9), .int (wd i9), .int (nI i9), .int (hs i9), .int (bf i9)])) := fun i9 h9 => k9 _ _ (F64 i9 h9) 
      have F66 : ∀ i9 : Nat, i9 < nn → f15 (fg i9) = some (.inr (4, [.int (kd i9), .ref (pt i9), .long (wg i9), .int (wd i9), .int (nI i9), .int (hs i9), .int (bf i9)])) := fun i9 h9 => (k17 _ (z_nn u14 (F65 i9 h9))).trans (F65 i9 h9)
      have F67 : ∀ i9 : Nat, i9 < nn → f20 (fg i9) = some (.inr (4, [.int (kd i9), .ref (pt i9), .long (wg i9), .int (wd i9), .int (nI i9), .int (hs i9), .int (bf i9)])) := fun i9 h9 => (k22 _ (z_nn u19 (F66 i9 h9))).trans (F66 i9 h9)
      have F68 : ∀ i9 : Nat, i9 < nn → f23 (fg i9) = some (.inr (4, [.int (kd i9), .ref (pt i9), .long (wg i9), .int (wd i9), .int (nI i9), .int (hs i9), .int (bf i9)])) := fun i9 h9 => (k25 _ (z_nn u19 (F66 i9 h9))).trans (F67 i9 h9)
      have F69 : ∀ i9 : Nat, i9 < nn → f26 (fg i9) = some (.inr (4, [.int (kd i9), .ref (pt i9), .long (wg i9), .int (wd i9), .int (nI i9), .int (hs i9), .int (bf i9)])) := fun i9 h9 => (k28 _ (z_nn u19 (F66 i9 h9))).trans (F68 i9 h9)
      have F70 : ∀ i9 : Nat, i9 < nn → f29 (fg i9) = some (.inr (4, [.int (kd i9), .ref (pt i9), .long (wg i9), .int (wd i9), .int (nI i9), .int (hs i9), .int (bf i9)])) := fun i9 h9 => (k31 _ (z_nn u19 (F66 i9 h9))).trans (F69 i9 h9)
      have F71 : ∀ i9 : Nat, i9 < nn → f36 (fg i9) = some (.inr (4, [.int (kd i9), .ref (pt i9), .long (wg i9), .int (wd i9), .int (nI i9), .int (hs i9), .int (bf i9)])) := fun i9 h9 => k39 _ _ (F70 i9 h9) (z_nn u14 (F65 i9 h9))
      have F72 : ∀ i9 : Nat, i9 < nn → f1 (pt i9) = some (.inl (cy 1, (ln i9), .inr (.inl (pp i9)))) := fun i9 h9 => k4 _ _ (hP i9 h9) (z_neO (hP i9 h9) x_fa rfl)
      have F73 : ∀ i9 : Nat, i9 < nn → f7 (pt i9) = some (.inl (cy 1, (ln i9), .inr (.inl (pp i9)))) := fun i9 h9 => k9 _ _ (F72 i9 h9) 
      have F74 : ∀ i9 : Nat, i9 < nn → f15 (pt i9) = some (.inl (cy 1, (ln i9), .inr (.inl (pp i9)))) := fun i9 h9 => (k17 _ (z_nn u14 (F73 i9 h9))).trans (F73 i9 h9)
      have F75 : ∀ i9 : Nat, i9 < nn → f20 (pt i9) = some (.inl (cy 1, (ln i9), .inr (.inl (pp i9)))) := fun i9 h9 => (k22 _ (z_nn u19 (F74 i9 h9))).trans (F74 i9 h9)
      have F76 : ∀ i9 : Nat, i9 < nn → f23 (pt i9) = some (.inl (cy 1, (ln i9), .inr (.inl (pp i9)))) := fun i9 h9 => (k25 _ (z_nn u19 (F74 i9 h9))).trans (F75 i9 h9)
      have F77 : ∀ i9 : Nat, i9 < nn → f26 (pt i9) = some (.inl (cy 1, (ln i9), .inr (.inl (pp i9)))) := fun i9 h9 => (k28 _ (z_nn u19 (F74 i9 h9))).trans (F76 i9 h9)
      have F78 : ∀ i9 : Nat, i9 < nn → f29 (pt i9) = some (.inl (cy 1, (ln i9), .inr (.inl (pp i9)))) := fun i9 h9 => (k31 _ (z_nn u19 (F74 i9 h9))).trans (F77 i9 h9)
      have F79 : ∀ i9 : Nat, i9 < nn → f36 (pt i9) = some (.inl (cy 1, (ln i9), .inr (.inl (pp i9)))) := fun i9 h9 => k39 _ _ (F78 i9 h9) (z_nn u14 (F73 i9 h9))
      refine z_callVi (As := [.ref q13]) C hz hS hA hl (k_X5_add l D cy f36 fi al ra ga gr nn fg pt kd ln pp wg wd hs bf q13 3 q18 (x / y) 0 (-1) 0 0 3 (vp_updL (vp_updL (vp_updL (fun _ => 0) 0 x) 1 y) 2 (x / y)) a46 a54 a62 a38 a63 F71 F79 h60 hga hgr hln hk5 hfi (fun j9 h9 => z_nn u14 (F65 j9 h9)) (by omega) (fun h9 => absurd h9 (by decide)) har) zyX5_add mMX7_92 a46 zl5 rfl rfl (Nat.le_of_ble_eq_true rfl) ⟨Nat.le_of_ble_eq_true rfl, Nat.le_of_ble_eq_true rfl⟩ ⟨Nat.le_of_ble_eq_true rfl, Nat.le_of_ble_eq_true rfl⟩ dX7_share_72 (fun r f80 H locs h81 hz hS => ?_)
      obtain ⟨hq_82, bq_83, gr_84, bf_85, rfl, p86, a87, a88, a89, F90, F91, k92⟩ := h81
      have a93 : f15 o = some (.inr (7, [.ref fa, .ref fi, .ref nu, .int (nI nl), .ref fm, .int (nI nf), .ref co, .int (nI nc), .ref en, .ref ke, .long lk])) := (k17 _ (z_nn u14 a12)).trans a12
      have a94 : f20 o = some (.inr (7, [.ref fa, .ref fi, .ref nu, .int (nI nl), .ref fm, .int (nI nf), .ref co, .int (nI nc), .ref en, .ref ke, .long lk])) := (k22 _ (z_nn u19 a93)).trans a93
      have a95 : f23 o = some (.inr (7, [.ref fa, .ref fi, .ref nu, .int (nI nl), .ref fm, .int (nI nf), .ref co, .int (nI nc), .ref en, .ref ke, .long lk])) := (k25 _ (z_nn u19 a93)).trans a94
      have a96 : f26 o = some (.inr (7, [.ref fa, .ref fi, .ref nu, .int (nI nl), .ref fm, .int (nI nf), .ref co, .int (nI nc), .ref en, .ref ke, .long lk])) := (k28 _ (z_nn u19 a93)).trans a95
      have a97 : f29 o = some (.inr (7, [.ref fa, .ref fi, .ref nu, .int (nI nl), .ref fm, .int (nI nf), .ref co, .int (nI nc), .ref en, .ref ke, .long lk])) := (k31 _ (z_nn u19 a93)).trans a96
      have a98 : f36 o = some (.inr (7, [.ref fa, .ref fi, .ref nu, .int (nI nl), .ref fm, .int (nI nf), .ref co, .int (nI nc), .ref en, .ref ke, .long lk])) := k39 _ _ a97 (z_nn u14 a12)
      have a99 : f80 o = some (.inr (7, [.ref fa, .ref fi, .ref nu, .int (nI nl), .ref fm, .int (nI nf), .ref co, .int (nI nc), .ref en, .ref ke, .long lk])) := k92 _ _ a98 (z_ne a98 a46 rfl) (z_ne a98 a54 rfl) (z_ne a98 a62 rfl) (z_nn u14 a12) (fun j9 h8 => (z_ne a98 (F71 j9 h8) rfl))
      have a100 : f7 fa = some (.inr (2, [.int 0, .int (-1), .int 0, .ref ev])) := k9 _ _ a3 
      have a101 : f15 fa = some (.inr (2, [.int 0, .int (-1), .int 0, .ref ev])) := (k17 _ (z_nn u14 a100)).trans a100
      have a102 : f20 fa = some (.inr (2, [.int 0, .int (-1), .int 0, .ref ev])) := (k22 _ (z_nn u19 a101)).trans a101
      have a103 : f23 fa = some (.inr (2, [.int 0, .int (-1), .int 0, .ref ev])) := (k25 _ (z_nn u19 a101)).trans a102
      have a104 : f26 fa = some (.inr (2, [.int 0, .int (-1), .int 0, .ref ev])) := (k28 _ (z_nn u19 a101)).trans a103
      have a105 : f29 fa = some (.inr (2, [.int 0, .int (-1), .int 0, .ref ev])) := (k31 _ (z_nn u19 a101)).trans a104
      have a106 : f36 fa = some (.inr (2, [.int 0, .int (-1), .int 0, .ref ev])) := k39 _ _ a105 (z_nn u14 a100)
      have a107 : f80 fa = some (.inr (2, [.int 0, .int (-1), .int 0, .ref ev])) := k92 _ _ a106 (z_ne a106 a46 rfl) (z_ne a106 a54 rfl) (z_ne a106 a62 rfl) (z_nn u14 a100) (fun j9 h8 => (z_ne a106 (F71 j9 h8) rfl))
      have a108 : f1 ev = some (.inl (cy 0, 8, .inl gv)) := k4 _ _ x_ev (z_ne x_ev x_fa rfl)
      have a109 : f7 ev = some (.inl (cy 0, 8, .inl gv)) := k9 _ _ a108 
      have a110 : f15 ev = some (.inl (cy 0, 8, .inl gv)) := (k17 _ (z_nn u14 a109)).trans a109
      have a111 : f20 ev = some (.inl (cy 0, 8, .inl gv)) := (k22 _ (z_nn u19 a110)).trans a110
      have a112 : f23 ev = some (.inl (cy 0, 8, .inl gv)) := (k25 _ (z_nn u19 a110)).trans a111
      have a113 : f26 ev = some (.inl (cy 0, 8, .inl gv)) := (k28 _ (z_nn u19 a110)).trans a112
      have a114 : f29 ev = some (.inl (cy 0, 8, .inl gv)) := (k31 _ (z_nn u19 a110)).trans a113
      have a115 : f36 ev = some (.inl (cy 0, 8, .inl gv)) := k39 _ _ a114 (z_nn u14 a109)
      have a116 : f80 ev = some (.inl (cy 0, 8, .inl gv)) := k92 _ _ a115 (z_ne a115 a46 rfl) (z_ne a115 a54 rfl) (z_ne a115 a62 rfl) (z_nn u14 a109) (fun j9 h8 => (z_ne a115 (F71 j9 h8) rfl))
      have a117 : f1 nu = some (.inl (cy 0, 12, .inl gu)) := k4 _ _ x_nu (z_ne x_nu x_fa rfl)
      have a118 : f7 nu = some (.inl (cy 0, 12, .inl gu)) := k9 _ _ a117 
      have a119 : f15 nu = some (.inl (cy 0, 12, .inl gu)) := (k17 _ (z_nn u14 a118)).trans a118
      have a120 : f20 nu = some (.inl (cy 0, 12, .inl gu)) := (k22 _ (z_nn u19 a119)).trans a119
      have a121 : f23 nu = some (.inl (cy 0, 12, .inl gu)) := (k25 _ (z_nn u19 a119)).trans a120
      have a122 : f26 nu = some (.inl (cy 0, 12, .inl gu)) := (k28 _ (z_nn u19 a119)).trans a121
      have a123 : f29 nu = some (.inl (cy 0, 12, .inl gu)) := (k31 _ (z_nn u19 a119)).trans a122
      have a124 : f36 nu = some (.inl (cy 0, 12, .inl gu)) := k39 _ _ a123 (z_nn u14 a118)
      have a125 : f80 nu = some (.inl (cy 0, 12, .inl gu)) := k92 _ _ a124 (z_ne a124 a46 rfl) (z_ne a124 a54 rfl) (z_ne a124 a62 rfl) (z_nn u14 a118) (fun j9 h8 => (z_ne a124 (F71 j9 h8) rfl))
      have a126 : f1 fm = some (.inl (cy 4, 6, .inr (.inr (.inr (.inr gf))))) := k4 _ _ x_fm (z_ne x_fm x_fa rfl)
      have a127 : f7 fm = some (.inl (cy 4, 6, .inr (.inr (.inr (.inr gf))))) := k9 _ _ a126 
      have a128 : f15 fm = some (.inl (cy 4, 6, .inr (.inr (.inr (.inr gf))))) := (k17 _ (z_nn u14 a127)).trans a127
      have a129 : f20 fm = some (.inl (cy 4, 6, .inr (.inr (.inr (.inr gf))))) := (k22 _ (z_nn u19 a128)).trans a128
      have a130 : f23 fm = some (.inl (cy 4, 6, .inr (.inr (.inr (.inr gf))))) := (k25 _ (z_nn u19 a128)).trans a129
      have a131 : f26 fm = some (.inl (cy 4, 6, .inr (.inr (.inr (.inr gf))))) := (k28 _ (z_nn u19 a128)).trans a130
      have a132 : f29 fm = some (.inl (cy 4, 6, .inr (.inr (.inr (.inr gf))))) := (k31 _ (z_nn u19 a128)).trans a131
      have a133 : f36 fm = some (.inl (cy 4, 6, .inr (.inr (.inr (.inr gf))))) := k39 _ _ a132 (z_nn u14 a127)
      have a134 : f80 fm = some (.inl (cy 4, 6, .inr (.inr (.inr (.inr gf))))) := k92 _ _ a133 (z_ne a133 a46 rfl) (z_ne a133 a54 rfl) (z_ne a133 a62 rfl) (z_nn u14 a127) (fun j9 h8 => (z_ne a133 (F71 j9 h8) rfl))
      have a135 : f1 co = some (.inl (cy 5, 60, .inr (.inr (.inr (.inr gc))))) := k4 _ _ x_co (z_ne x_co x_fa rfl)
      have a136 : f7 co = some (.inl (cy 5, 60, .inr (.inr (.inr (.inr gc))))) := k9 _ _ a135 
      have a137 : f15 co = some (.inl (cy 5, 60, .inr (.inr (.inr (.inr gc))))) := (k17 _ (z_nn u14 a136)).trans a136
      have a138 : f20 co = some (.inl (cy 5, 60, .inr (.inr (.inr (.inr gc))))) := (k22 _ (z_nn u19 a137)).trans a137
      have a139 : f23 co = some (.inl (cy 5, 60, .inr (.inr (.inr (.inr gc))))) := (k25 _ (z_nn u19 a137)).trans a138
      have a140 : f26 co = some (.inl (cy 5, 60, .inr (.inr (.inr (.inr gc))))) := (k28 _ (z_nn u19 a137)).trans a139
      have a141 : f29 co = some (.inl (cy 5, 60, .inr (.inr (.inr (.inr gc))))) := (k31 _ (z_nn u19 a137)).trans a140
      have a142 : f36 co = some (.inl (cy 5, 60, .inr (.inr (.inr (.inr gc))))) := k39 _ _ a141 (z_nn u14 a136)
      have a143 : f80 co = some (.inl (cy 5, 60, .inr (.inr (.inr (.inr gc))))) := k92 _ _ a142 (z_ne a142 a46 rfl) hca hcr (z_nn u14 a136) (fun j9 h8 => (z_ne a142 (F71 j9 h8) rfl))
      have a144 : f1 en = some (.inl (cy 6, 4, .inr (.inr (.inr (.inr ge))))) := k4 _ _ x_en (z_ne x_en x_fa rfl)
      have a145 : f7 en = some (.inl (cy 6, 4, .inr (.inr (.inr (.inr ge))))) := k9 _ _ a144 
      have a146 : f15 en = some (.inl (cy 6, 4, .inr (.inr (.inr (.inr ge))))) := (k17 _ (z_nn u14 a145)).trans a145
      have a147 : f20 en = some (.inl (cy 6, 4, .inr (.inr (.inr (.inr ge))))) := (k22 _ (z_nn u19 a146)).trans a146
      have a148 : f23 en = some (.inl (cy 6, 4, .inr (.inr (.inr (.inr ge))))) := (k25 _ (z_nn u19 a146)).trans a147
      have a149 : f26 en = some (.inl (cy 6, 4, .inr (.inr (.inr (.inr ge))))) := (k28 _ (z_nn u19 a146)).trans a148
      have a150 : f29 en = some (.inl (cy 6, 4, .inr (.inr (.inr (.inr ge))))) := (k31 _ (z_nn u19 a146)).trans a149
      have a151 : f36 en = some (.inl (cy 6, 4, .inr (.inr (.inr (.inr ge))))) := k39 _ _ a150 (z_nn u14 a145)
      have a152 : f80 en = some (.inl (cy 6, 4, .inr (.inr (.inr (.inr ge))))) := k92 _ _ a151 (z_ne a151 a46 rfl) (z_ne a151 a54 rfl) (z_ne a151 a62 rfl) (z_nn u14 a145) (fun j9 h8 => (z_ne a151 (F71 j9 h8) rfl))
      have a153 : f1 ke = some (.inr (6, [.ref kn, .ref vq, .int (nI ks)])) := k4 _ _ x_ke (z_ne x_ke x_fa rfl)
      have a154 : f7 ke = some (.inr (6, [.ref kn, .ref vq, .int (nI ks)])) := k9 _ _ a153 
      have a155 : f15 ke = some (.inr (6, [.ref kn, .ref vq, .int (nI ks)])) := (k17 _ (z_nn u14 a154)).trans a154
      have a156 : f20 ke = some (.inr (6, [.ref kn, .ref vq, .int (nI ks)])) := (k22 _ (z_nn u19 a155)).trans a155
      have a157 : f23 ke = some (.inr (6, [.ref kn, .ref vq, .int (nI ks)])) := (k25 _ (z_nn u19 a155)).trans a156
      have a158 : f26 ke = some (.inr (6, [.ref kn, .ref vq, .int (nI ks)])) := (k28 _ (z_nn u19 a155)).trans a157
      have a159 : f29 ke = some (.inr (6, [.ref kn, .ref vq, .int (nI ks)])) := (k31 _ (z_nn u19 a155)).trans a158
      have a160 : f36 ke = some (.inr (6, [.ref kn, .ref vq, .int (nI ks)])) := k39 _ _ a159 (z_nn u14 a154)
      have a161 : f80 ke = some (.inr (6, [.ref kn, .ref vq, .int (nI ks)])) := k92 _ _ a160 (z_ne a160 a46 rfl) (z_ne a160 a54 rfl) (z_ne a160 a62 rfl) (z_nn u14 a154) (fun j9 h8 => (z_ne a160 (F71 j9 h8) rfl))
      have a162 : f1 kn = some (.inl (cy 0, 40, .inl kk)) := k4 _ _ x_kn (z_ne x_kn x_fa rfl)
      have a163 : f7 kn = some (.inl (cy 0, 40, .inl kk)) := k9 _ _ a162 
      have a164 : f15 kn = some (.inl (cy 0, 40, .inl kk)) := (k17 _ (z_nn u14 a163)).trans a163
      have a165 : f20 kn = some (.inl (cy 0, 40, .inl kk)) := (k22 _ (z_nn u19 a164)).trans a164
      have a166 : f23 kn = some (.inl (cy 0, 40, .inl kk)) := (k25 _ (z_nn u19 a164)).trans a165
      have a167 : f26 kn = some (.inl (cy 0, 40, .inl kk)) := (k28 _ (z_nn u19 a164)).trans a166
      have a168 : f29 kn = some (.inl (cy 0, 40, .inl kk)) := (k31 _ (z_nn u19 a164)).trans a167
      have a169 : f36 kn = some (.inl (cy 0, 40, .inl kk)) := k39 _ _ a168 (z_nn u14 a163)
      have a170 : f80 kn = some (.inl (cy 0, 40, .inl kk)) := k92 _ _ a169 (z_ne a169 a46 rfl) (z_ne a169 a54 rfl) (z_ne a169 a62 rfl) (z_nn u14 a163) (fun j9 h8 => (z_ne a169 (F71 j9 h8) rfl))
      have a171 : f1 vq = some (.inl (cy 0, 40, .inl kv)) := k4 _ _ x_vq (z_ne x_vq x_fa rfl)
      have a172 : f7 vq = some (.inl (cy 0, 40, .inl kv)) := k9 _ _ a171 
      have a173 : f15 vq = some (.inl (cy 0, 40, .inl kv)) := (k17 _ (z_nn u14 a172)).trans a172
      have a174 : f20 vq = some (.inl (cy 0, 40, .inl kv)) := (k22 _ (z_nn u19 a173)).trans a173
      have a175 : f23 vq = some (.inl (cy 0, 40, .inl kv)) := (k25 _ (z_nn u19 a173)).trans a174
      have a176 : f26 vq = some (.inl (cy 0, 40, .inl kv)) := (k28 _ (z_nn u19 a173)).trans a175
      have a177 : f29 vq = some (.inl (cy 0, 40, .inl kv)) := (k31 _ (z_nn u19 a173)).trans a176
      have a178 : f36 vq = some (.inl (cy 0, 40, .inl kv)) := k39 _ _ a177 (z_nn u14 a172)
      have a179 : f80 vq = some (.inl (cy 0, 40, .inl kv)) := k92 _ _ a178 (z_ne a178 a46 rfl) (z_ne a178 a54 rfl) (z_ne a178 a62 rfl) (z_nn u14 a172) (fun j9 h8 => (z_ne a178 (F71 j9 h8) rfl))
      have F180 : ∀ i9 : Nat, i9 < nf → f1 (fq i9) = some (.inr (3, [.ref (fk i9), .int (nI (fz i9))])) := fun i9 h9 => k4 _ _ (hFq i9 h9) (z_ne (hFq i9 h9) x_fa rfl)
      have F181 : ∀ i9 : Nat, i9 < nf → f7 (fq i9) = some (.inr (3, [.ref (fk i9), .int (nI (fz i9))])) := fun i9 h9 => k9 _ _ (F180 i9 h9) 
      have F182 : ∀ i9 : Nat, i9 < nf → f15 (fq i9) = some (.inr (3, [.ref (fk i9), .int (nI (fz i9))])) := fun i9 h9 => (k17 _ (z_nn u14 (F181 i9 h9))).trans (F181 i9 h9)
      have F183 : ∀ i9 : Nat, i9 < nf → f20 (fq i9) = some (.inr (3, [.ref (fk i9), .int (nI (fz i9))])) := fun i9 h9 => (k22 _ (z_nn u19 (F182 i9 h9))).trans (F182 i9 h9)
      have F184 : ∀ i9 : Nat, i9 < nf → f23 (fq i9) = some (.inr (3, [.ref (fk i9), .int (nI (fz i9))])) := fun i9 h9 => (k25 _ (z_nn u19 (F182 i9 h9))).trans (F183 i9 h9)
      have F185 : ∀ i9 : Nat, i9 < nf → f26 (fq i9) = some (.inr (3, [.ref (fk i9), .int (nI (fz i9))])) := fun i9 h9 => (k28 _ (z_nn u19 (F182 i9 h9))).trans (F184 i9 h9)
      have F186 : ∀ i9 : Nat, i9 < nf → f29 (fq i9) = some (.inr (3, [.ref (fk i9), .int (nI (fz i9))])) := fun i9 h9 => (k31 _ (z_nn u19 (F182 i9 h9))).trans (F185 i9 h9)
      have F187 : ∀ i9 : Nat, i9 < nf → f36 (fq i9) = some (.inr (3, [.ref (fk i9), .int (nI (fz i9))])) := fun i9 h9 => k39 _ _ (F186 i9 h9) (z_nn u14 (F181 i9 h9))
      have F188 : ∀ i9 : Nat, i9 < nf → f80 (fq i9) = some (.inr (3, [.ref (fk i9), .int (nI (fz i9))])) := fun i9 h9 => k92 _ _ (F187 i9 h9) (z_ne (F187 i9 h9) a46 rfl) (z_ne (F187 i9 h9) a54 rfl) (z_ne (F187 i9 h9) a62 rfl) (z_nn u14 (F181 i9 h9)) (fun j9 h8 => (z_ne (F187 i9 h9) (F71 j9 h8) rfl))
      have F189 : ∀ i9 : Nat, i9 < nf → f1 (fk i9) = some (.inl (cy 0, 4, .inl (fc i9))) := fun i9 h9 => k4 _ _ (hFk i9 h9) (z_ne (hFk i9 h9) x_fa rfl)
      have F190 : ∀ i9 : Nat, i9 < nf → f7 (fk i9) = some (.inl (cy 0, 4, .inl (fc i9))) := fun i9 h9 => k9 _ _ (F189 i9 h9) 
      have F191 : ∀ i9 : Nat, i9 < nf → f15 (fk i9) = some (.inl (cy 0, 4, .inl (fc i9))) := fun i9 h9 => (k17 _ (z_nn u14 (F190 i9 h9))).trans (F190 i9 h9)
      have F192 : ∀ i9 : Nat, i9 < nf → f20 (fk i9) = some (.inl (cy 0, 4, .inl (fc i9))) := fun i9 h9 => (k22 _ (z_nn u19 (F191 i9 h9))).trans (F191 i9 h9)
      have F193 : ∀ i9 : Nat, i9 < nf → f23 (fk i9) = some (.inl (cy 0, 4, .inl (fc i9))) := fun i9 h9 => (k25 _ (z_nn u19 (F191 i9 h9))).trans (F192 i9 h9)
      have F194 : ∀ i9 : Nat, i9 < nf → f26 (fk i9) = some (.inl (cy 0, 4, .inl (fc i9))) := fun i9 h9 => (k28 _ (z_nn u19 (F191 i9 h9))).trans (F193 i9 h9)
      have F195 : ∀ i9 : Nat, i9 < nf → f29 (fk i9) = some (.inl (cy 0, 4, .inl (fc i9))) := fun i9 h9 => (k31 _ (z_nn u19 (F191 i9 h9))).trans (F194 i9 h9)
      have F196 : ∀ i9 : Nat, i9 < nf → f36 (fk i9) = some (.inl (cy 0, 4, .inl (fc i9))) := fun i9 h9 => k39 _ _ (F195 i9 h9) (z_nn u14 (F190 i9 h9))
      have F197 : ∀ i9 : Nat, i9 < nf → f80 (fk i9) = some (.inl (cy 0, 4, .inl (fc i9))) := fun i9 h9 => k92 _ _ (F196 i9 h9) (z_ne (F196 i9 h9) a46 rfl) (z_ne (F196 i9 h9) a54 rfl) (z_ne (F196 i9 h9) a62 rfl) (z_nn u14 (F190 i9 h9)) (fun j9 h8 => (z_ne (F196 i9 h9) (F71 j9 h8) rfl))
      have F198 : ∀ i9 : Nat, i9 < nc → f1 (cn i9) = some (.inr (0, [.int (ce i9), .int (cm i9)])) := fun i9 h9 => k4 _ _ (hCn i9 h9) (z_ne (hCn i9 h9) x_fa rfl)
      have F199 : ∀ i9 : Nat, i9 < nc → f7 (cn i9) = some (.inr (0, [.int (ce i9), .int (cm i9)])) := fun i9 h9 => k9 _ _ (F198 i9 h9) 
      have F200 : ∀ i9 : Nat, i9 < nc → f15 (cn i9) = some (.inr (0, [.int (ce i9), .int (cm i9)])) := fun i9 h9 => (k17 _ (z_nn u14 (F199 i9 h9))).trans (F199 i9 h9)
      have F201 : ∀ i9 : Nat, i9 < nc → f20 (cn i9) = some (.inr (0, [.int (ce i9), .int (cm i9)])) := fun i9 h9 => (k22 _ (z_nn u19 (F200 i9 h9))).trans (F200 i9 h9)
      have F202 : ∀ i9 : Nat, i9 < nc → f23 (cn i9) = some (.inr (0, [.int (ce i9), .int (cm i9)])) := fun i9 h9 => (k25 _ (z_nn u19 (F200 i9 h9))).trans (F201 i9 h9)
      have F203 : ∀ i9 : Nat, i9 < nc → f26 (cn i9) = some (.inr (0, [.int (ce i9), .int (cm i9)])) := fun i9 h9 => (k28 _ (z_nn u19 (F200 i9 h9))).trans (F202 i9 h9)
      have F204 : ∀ i9 : Nat, i9 < nc → f29 (cn i9) = some (.inr (0, [.int (ce i9), .int (cm i9)])) := fun i9 h9 => (k31 _ (z_nn u19 (F200 i9 h9))).trans (F203 i9 h9)
      have F205 : ∀ i9 : Nat, i9 < nc → f36 (cn i9) = some (.inr (0, [.int (ce i9), .int (cm i9)])) := fun i9 h9 => k39 _ _ (F204 i9 h9) (z_nn u14 (F199 i9 h9))
      have F206 : ∀ i9 : Nat, i9 < nc → f80 (cn i9) = some (.inr (0, [.int (ce i9), .int (cm i9)])) := fun i9 h9 => k92 _ _ (F205 i9 h9) (z_ne (F205 i9 h9) a46 rfl) (z_ne (F205 i9 h9) a54 rfl) (z_ne (F205 i9 h9) a62 rfl) (z_nn u14 (F199 i9 h9)) (fun j9 h8 => (z_ne (F205 i9 h9) (F71 j9 h8) rfl))
      have F207 : ∀ i9 : Nat, i9 < 4 → f1 (ea i9) = some (.inr (1, [.ref (ma i9), .int (nI (sq i9))])) := fun i9 h9 => k4 _ _ (hEa i9 h9) (z_ne (hEa i9 h9) x_fa rfl)
      have F208 : ∀ i9 : Nat, i9 < 4 → f7 (ea i9) = some (.inr (1, [.ref (ma i9), .int (nI (sq i9))])) := fun i9 h9 => k9 _ _ (F207 i9 h9) 
      have F209 : ∀ i9 : Nat, i9 < 4 → f15 (ea i9) = some (.inr (1, [.ref (ma i9), .int (nI (sq i9))])) := fun i9 h9 => (k17 _ (z_nn u14 (F208 i9 h9))).trans (F208 i9 h9)
      have F210 : ∀ i9 : Nat, i9 < 4 → f20 (ea i9) = some (.inr (1, [.ref (ma i9), .int (nI (sq i9))])) := fun i9 h9 => (k22 _ (z_nn u19 (F209 i9 h9))).trans (F209 i9 h9)
      have F211 : ∀ i9 : Nat, i9 < 4 → f23 (ea i9) = some (.inr (1, [.ref (ma i9), .int (nI (sq i9))])) := fun i9 h9 => (k25 _ (z_nn u19 (F209 i9 h9))).trans (F210 i9 h9)
      have F212 : ∀ i9 : Nat, i9 < 4 → f26 (ea i9) = some (.inr (1, [.ref (ma i9), .int (nI (sq i9))])) := fun i9 h9 => (k28 _ (z_nn u19 (F209 i9 h9))).trans (F211 i9 h9)
      have F213 : ∀ i9 : Nat, i9 < 4 → f29 (ea i9) = some (.inr (1, [.ref (ma i9), .int (nI (sq i9))])) := fun i9 h9 => (k31 _ (z_nn u19 (F209 i9 h9))).trans (F212 i9 h9)
      have F214 : ∀ i9 : Nat, i9 < 4 → f36 (ea i9) = some (.inr (1, [.ref (ma i9), .int (nI (sq i9))])) := fun i9 h9 => k39 _ _ (F213 i9 h9) (z_nn u14 (F208 i9 h9))
      have F215 : ∀ i9 : Nat, i9 < 4 → f80 (ea i9) = some (.inr (1, [.ref (ma i9), .int (nI (sq i9))])) := fun i9 h9 => k92 _ _ (F214 i9 h9) (z_ne (F214 i9 h9) a46 rfl) (z_ne (F214 i9 h9) a54 rfl) (z_ne (F214 i9 h9) a62 rfl) (z_nn u14 (F208 i9 h9)) (fun j9 h8 => (z_ne (F214 i9 h9) (F71 j9 h8) rfl))
      have F216 : ∀ i9 : Nat, i9 < 4 → f1 (ma i9) = some (.inl (cy 0, 60, .inl (mb i9))) := fun i9 h9 => k4 _ _ (hMa i9 h9) (z_ne (hMa i9 h9) x_fa rfl)
      have F217 : ∀ i9 : Nat, i9 < 4 → f7 (ma i9) = some (.inl (cy 0, 60, .inl (mb i9))) := fun i9 h9 => k9 _ _ (F216 i9 h9) 
      have F218 : ∀ i9 : Nat, i9 < 4 → f15 (ma i9) = some (.inl (cy 0, 60, .inl (mb i9))) := fun i9 h9 => (k17 _ (z_nn u14 (F217 i9 h9))).trans (F217 i9 h9)
      have F219 : ∀ i9 : Nat, i9 < 4 → f20 (ma i9) = some (.inl (cy 0, 60, .inl (mb i9))) := fun i9 h9 => (k22 _ (z_nn u19 (F218 i9 h9))).trans (F218 i9 h9)
      have F220 : ∀ i9 : Nat, i9 < 4 → f23 (ma i9) = some (.inl (cy 0, 60, .inl (mb i9))) := fun i9 h9 => (k25 _ (z_nn u19 (F218 i9 h9))).trans (F219 i9 h9)
      have F221 : ∀ i9 : Nat, i9 < 4 → f26 (ma i9) = some (.inl (cy 0, 60, .inl (mb i9))) := fun i9 h9 => (k28 _ (z_nn u19 (F218 i9 h9))).trans (F220 i9 h9)
      have F222 : ∀ i9 : Nat, i9 < 4 → f29 (ma i9) = some (.inl (cy 0, 60, .inl (mb i9))) := fun i9 h9 => (k31 _ (z_nn u19 (F218 i9 h9))).trans (F221 i9 h9)
      have F223 : ∀ i9 : Nat, i9 < 4 → f36 (ma i9) = some (.inl (cy 0, 60, .inl (mb i9))) := fun i9 h9 => k39 _ _ (F222 i9 h9) (z_nn u14 (F217 i9 h9))
      have F224 : ∀ i9 : Nat, i9 < 4 → f80 (ma i9) = some (.inl (cy 0, 60, .inl (mb i9))) := fun i9 h9 => k92 _ _ (F223 i9 h9) (z_ne (F223 i9 h9) a46 rfl) (z_ne (F223 i9 h9) a54 rfl) (z_ne (F223 i9 h9) a62 rfl) (z_nn u14 (F217 i9 h9)) (fun j9 h8 => (z_ne (F223 i9 h9) (F71 j9 h8) rfl))
      exact z_iret C hr rfl hz hS ⟨0, (-1), 0, gv, nl, gu, (nn + 1), (va_up ga nn (some q13)), gr_84, (va_up fg nn q13), (va_up pt nn q18), (va_up kd nn 3), (va_up ln nn 3), (va_up pp nn (vp_updL (vp_updL (vp_updL (fun _ => 0) 0 x) 1 y) 2 (x / y))), (va_up wg nn (x / y)), (va_up wd nn 0), (va_up hs nn hq_82), (va_up bf_85 nn bq_83), nf, gf, fq, fk, fz, fc, nc, gc, cn, ce, cm, sq, mb, ks, kk, kv, lk, (by have hc := lg_cmp_eq y 0; simp [hc] at c11; simp [h60, c11]), rfl, (by rw [if_pos (nI_pos' (by omega))]), ⟨a99, a107, a116, a87, a88, a89, a125, a134, a143, a152, a161, a170, a179, F90, F91, F188, F197, F206, F215, F224, (by omega), hl12, hf6, hc60, hs40, (z_ga1 hga), (z_gr1 p86), (z_up1 (P := fun _ a9 => a9 ≤ 15) hln (by omega)), (z_up2 (P := fun (a9 : Int32) (b9 : Nat) => a9 = 5 → 3 ≤ b9) hk5 (fun h9 => absurd h9 (by decide))), (z_up2 (P := fun (a9 : Int32) (b9 : Nat) => a9 = 4 → 2 ≤ b9) hk4 (fun h9 => absurd h9 (by decide))), (z_inj1 hfi (fun j9 h9 => z_nn u14 (F65 j9 h9))), (z_inj1 hpi (fun j9 h9 => z_nn u19 (F74 j9 h9))), har, hgf, hfz, hgc, hG, hsq, hei, hmi, kne, hca, hcr, hlk⟩⟩ (Nat.le_of_ble_eq_true rfl) (Nat.le_of_ble_eq_true rfl) dX7_share_75
    · refine lv_aload_n hx hb dX7_share_26 rfl (lv_at hl 0 rfl) ?_
      have a225 : f7 o = some (.inr (7, [.ref fa, .ref fi, .ref nu, .int (nI nl), .ref fm, .int (nI nf), .ref co, .int (nI nc), .ref en, .ref ke, .long lk])) := k9 _ _ a5 
      refine z_get (v := .ref fa) C hz a225 zl7 mFX7_10 (by decide) rfl dX7_share_27 ?_
      refine lv_bipush (v := 6) hx hb dX7_share_30 (by decide) ?_
      refine lv_iconst (v := 1) hx hb dX7_share_32 (by decide) ?_
      have a226 : f7 fa = some (.inr (2, [.int 0, .int (-1), .int 0, .ref ev])) := k9 _ _ a3 
      have a227 : f1 ev = some (.inl (cy 0, 8, .inl gv)) := k4 _ _ x_ev (z_ne x_ev x_fa rfl)
      have a228 : f7 ev = some (.inl (cy 0, 8, .inl gv)) := k9 _ _ a227 
      refine z_callVi (As := [.int 6, .int 1]) C hz hS hA hl (k_X2_inPart l D cy f7 fa 6 1 0 (-1) 0 ev gv 6 a226 a228 (by decide) (Nat.le_of_ble_eq_true rfl)) zyX2_inPart mMX7_104 a226 zl2 rfl rfl (Nat.le_of_ble_eq_true rfl) ⟨Nat.le_of_ble_eq_true rfl, Nat.le_of_ble_eq_true rfl⟩ ⟨Nat.le_of_ble_eq_true rfl, Nat.le_of_ble_eq_true rfl⟩ dX7_share_33 (fun r f229 H locs h230 hz hS => ?_)
      obtain ⟨rfl, a231, a232, k233⟩ := h230
      have a234 : f229 o = some (.inr (7, [.ref fa, .ref fi, .ref nu, .int (nI nl), .ref fm, .int (nI nf), .ref co, .int (nI nc), .ref en, .ref ke, .long lk])) := k233 _ _ a225 (z_ne a225 a226 rfl) (z_ne a225 a228 rfl)
      have a235 : f7 fi = some (.inr (5, [.ref al, .ref ra, .int (nI nn)])) := k9 _ _ a6 
      have a236 : f229 fi = some (.inr (5, [.ref al, .ref ra, .int (nI nn)])) := k233 _ _ a235 (z_ne a235 a226 rfl) (z_ne a235 a228 rfl)
      have a237 : f1 al = some (.inl (cy 3, 60, .inr (.inr (.inr (.inr ga))))) := k4 _ _ x_al (z_ne x_al x_fa rfl)
      have a238 : f7 al = some (.inl (cy 3, 60, .inr (.inr (.inr (.inr ga))))) := k9 _ _ a237 
      have a239 : f229 al = some (.inl (cy 3, 60, .inr (.inr (.inr (.inr ga))))) := k233 _ _ a238 (z_ne a238 a226 rfl) (z_ne a238 a228 rfl)
      have a240 : f1 ra = some (.inl (cy 3, 60, .inr (.inr (.inr (.inr gr))))) := k4 _ _ x_ra (z_ne x_ra x_fa rfl)
      have a241 : f7 ra = some (.inl (cy 3, 60, .inr (.inr (.inr (.inr gr))))) := k9 _ _ a240 
      have a242 : f229 ra = some (.inl (cy 3, 60, .inr (.inr (.inr (.inr gr))))) := k233 _ _ a241 (z_ne a241 a226 rfl) (z_ne a241 a228 rfl)
      have a243 : f1 nu = some (.inl (cy 0, 12, .inl gu)) := k4 _ _ x_nu (z_ne x_nu x_fa rfl)
      have a244 : f7 nu = some (.inl (cy 0, 12, .inl gu)) := k9 _ _ a243 
      have a245 : f229 nu = some (.inl (cy 0, 12, .inl gu)) := k233 _ _ a244 (z_ne a244 a226 rfl) (z_ne a244 a228 rfl)
      have a246 : f1 fm = some (.inl (cy 4, 6, .inr (.inr (.inr (.inr gf))))) := k4 _ _ x_fm (z_ne x_fm x_fa rfl)
      have a247 : f7 fm = some (.inl (cy 4, 6, .inr (.inr (.inr (.inr gf))))) := k9 _ _ a246 
      have a248 : f229 fm = some (.inl (cy 4, 6, .inr (.inr (.inr (.inr gf))))) := k233 _ _ a247 (z_ne a247 a226 rfl) (z_ne a247 a228 rfl)
      have a249 : f1 co = some (.inl (cy 5, 60, .inr (.inr (.inr (.inr gc))))) := k4 _ _ x_co (z_ne x_co x_fa rfl)
      have a250 : f7 co = some (.inl (cy 5, 60, .inr (.inr (.inr (.inr gc))))) := k9 _ _ a249 
      have a251 : f229 co = some (.inl (cy 5, 60, .inr (.inr (.inr (.inr gc))))) := k233 _ _ a250 (z_ne a250 a226 rfl) (z_ne a250 a228 rfl)
      have a252 : f1 en = some (.inl (cy 6, 4, .inr (.inr (.inr (.inr ge))))) := k4 _ _ x_en (z_ne x_en x_fa rfl)
      have a253 : f7 en = some (.inl (cy 6, 4, .inr (.inr (.inr (.inr ge))))) := k9 _ _ a252 
      have a254 : f229 en = some (.inl (cy 6, 4, .inr (.inr (.inr (.inr ge))))) := k233 _ _ a253 (z_ne a253 a226 rfl) (z_ne a253 a228 rfl)
      have a255 : f1 ke = some (.inr (6, [.ref kn, .ref vq, .int (nI ks)])) := k4 _ _ x_ke (z_ne x_ke x_fa rfl)
      have a256 : f7 ke = some (.inr (6, [.ref kn, .ref vq, .int (nI ks)])) := k9 _ _ a255 
      have a257 : f229 ke = some (.inr (6, [.ref kn, .ref vq, .int (nI ks)])) := k233 _ _ a256 (z_ne a256 a226 rfl) (z_ne a256 a228 rfl)
      have a258 : f1 kn = some (.inl (cy 0, 40, .inl kk)) := k4 _ _ x_kn (z_ne x_kn x_fa rfl)
      have a259 : f7 kn = some (.inl (cy 0, 40, .inl kk)) := k9 _ _ a258 
      have a260 : f229 kn = some (.inl (cy 0, 40, .inl kk)) := k233 _ _ a259 (z_ne a259 a226 rfl) (z_ne a259 a228 rfl)
      have a261 : f1 vq = some (.inl (cy 0, 40, .inl kv)) := k4 _ _ x_vq (z_ne x_vq x_fa rfl)
      have a262 : f7 vq = some (.inl (cy 0, 40, .inl kv)) := k9 _ _ a261 
      have a263 : f229 vq = some (.inl (cy 0, 40, .inl kv)) := k233 _ _ a262 (z_ne a262 a226 rfl) (z_ne a262 a228 rfl)
      have F264 : ∀ i9 : Nat, i9 < nn → f1 (fg i9) = some (.inr (4, [.int (kd i9), .ref (pt i9), .long (wg i9), .int (wd i9), .int (nI i9), .int (hs i9), .int (bf i9)])) := fun i9 h9 => k4 _ _ (hF i9 h9) (z_ne (hF i9 h9) x_fa rfl)
      have F265 : ∀ i9 : Nat, i9 < nn → f7 (fg i9) = some (.inr (4, [.int (kd i9), .ref (pt i9), .long (wg i9), .int (wd i9), .int (nI i9), .int (hs i9), .int (bf i9)])) := fun i9 h9 => k9 _ _ (F264 i9 h9) 
      have F266 : ∀ i9 : Nat, i9 < nn → f229 (fg i9) = some (.inr (4, [.int (kd i9), .ref (pt i9), .long (wg i9), .int (wd i9), .int (nI i9), .int (hs i9), .int (bf i9)])) := fun i9 h9 => k233 _ _ (F265 i9 h9) (z_ne (F265 i9 h9) a226 rfl) (z_ne (F265 i9 h9) a228 rfl)
      have F267 : ∀ i9 : Nat, i9 < nn → f1 (pt i9) = some (.inl (cy 1, (ln i9), .inr (.inl (pp i9)))) := fun i9 h9 => k4 _ _ (hP i9 h9) (z_neO (hP i9 h9) x_fa rfl)
      have F268 : ∀ i9 : Nat, i9 < nn → f7 (pt i9) = some (.inl (cy 1, (ln i9), .inr (.inl (pp i9)))) := fun i9 h9 => k9 _ _ (F267 i9 h9) 
      have F269 : ∀ i9 : Nat, i9 < nn → f229 (pt i9) = some (.inl (cy 1, (ln i9), .inr (.inl (pp i9)))) := fun i9 h9 => k233 _ _ (F268 i9 h9) (z_neO (F268 i9 h9) a226 rfl) (z_neA (F268 i9 h9) a228 rfl)
      have F270 : ∀ i9 : Nat, i9 < nf → f1 (fq i9) = some (.inr (3, [.ref (fk i9), .int (nI (fz i9))])) := fun i9 h9 => k4 _ _ (hFq i9 h9) (z_ne (hFq i9 h9) x_fa rfl)
      have F271 : ∀ i9 : Nat, i9 < nf → f7 (fq i9) = some (.inr (3, [.ref (fk i9), .int (nI (fz i9))])) := fun i9 h9 => k9 _ _ (F270 i9 h9) 
      have F272 : ∀ i9 : Nat, i9 < nf → f229 (fq i9) = some (.inr (3, [.ref (fk i9), .int (nI (fz i9))])) := fun i9 h9 => k233 _ _ (F271 i9 h9) (z_ne (F271 i9 h9) a226 rfl) (z_ne (F271 i9 h9) a228 rfl)
      have F273 : ∀ i9 : Nat, i9 < nf → f1 (fk i9) = some (.inl (cy 0, 4, .inl (fc i9))) := fun i9 h9 => k4 _ _ (hFk i9 h9) (z_ne (hFk i9 h9) x_fa rfl)
      have F274 : ∀ i9 : Nat, i9 < nf → f7 (fk i9) = some (.inl (cy 0, 4, .inl (fc i9))) := fun i9 h9 => k9 _ _ (F273 i9 h9) 
      have F275 : ∀ i9 : Nat, i9 < nf → f229 (fk i9) = some (.inl (cy 0, 4, .inl (fc i9))) := fun i9 h9 => k233 _ _ (F274 i9 h9) (z_ne (F274 i9 h9) a226 rfl) (z_ne (F274 i9 h9) a228 rfl)
      have F276 : ∀ i9 : Nat, i9 < nc → f1 (cn i9) = some (.inr (0, [.int (ce i9), .int (cm i9)])) := fun i9 h9 => k4 _ _ (hCn i9 h9) (z_ne (hCn i9 h9) x_fa rfl)
      have F277 : ∀ i9 : Nat, i9 < nc → f7 (cn i9) = some (.inr (0, [.int (ce i9), .int (cm i9)])) := fun i9 h9 => k9 _ _ (F276 i9 h9) 
      have F278 : ∀ i9 : Nat, i9 < nc → f229 (cn i9) = some (.inr (0, [.int (ce i9), .int (cm i9)])) := fun i9 h9 => k233 _ _ (F277 i9 h9) (z_ne (F277 i9 h9) a226 rfl) (z_ne (F277 i9 h9) a228 rfl)
      have F279 : ∀ i9 : Nat, i9 < 4 → f1 (ea i9) = some (.inr (1, [.ref (ma i9), .int (nI (sq i9))])) := fun i9 h9 => k4 _ _ (hEa i9 h9) (z_ne (hEa i9 h9) x_fa rfl)
      have F280 : ∀ i9 : Nat, i9 < 4 → f7 (ea i9) = some (.inr (1, [.ref (ma i9), .int (nI (sq i9))])) := fun i9 h9 => k9 _ _ (F279 i9 h9) 
      have F281 : ∀ i9 : Nat, i9 < 4 → f229 (ea i9) = some (.inr (1, [.ref (ma i9), .int (nI (sq i9))])) := fun i9 h9 => k233 _ _ (F280 i9 h9) (z_ne (F280 i9 h9) a226 rfl) (z_ne (F280 i9 h9) a228 rfl)
      have F282 : ∀ i9 : Nat, i9 < 4 → f1 (ma i9) = some (.inl (cy 0, 60, .inl (mb i9))) := fun i9 h9 => k4 _ _ (hMa i9 h9) (z_ne (hMa i9 h9) x_fa rfl)
      have F283 : ∀ i9 : Nat, i9 < 4 → f7 (ma i9) = some (.inl (cy 0, 60, .inl (mb i9))) := fun i9 h9 => k9 _ _ (F282 i9 h9) 
      have F284 : ∀ i9 : Nat, i9 < 4 → f229 (ma i9) = some (.inl (cy 0, 60, .inl (mb i9))) := fun i9 h9 => k233 _ _ (F283 i9 h9) (z_ne (F283 i9 h9) a226 rfl) (z_ne (F283 i9 h9) a228 rfl)
      exact z_iret C hr rfl hz hS ⟨6, 1, 0, (upd gv 6 (gv 6 + 1)), nl, gu, nn, ga, gr, fg, pt, kd, ln, pp, wg, wd, hs, bf, nf, gf, fq, fk, fz, fc, nc, gc, cn, ce, cm, sq, mb, ks, kk, kv, lk, (by have hc := lg_cmp_eq y 0; simp [hc] at c11; simp [h60, c11]), rfl, (by rw [if_neg (by decide)]), ⟨a234, a231, a232, a236, a239, a242, a245, a248, a251, a254, a257, a260, a263, F266, F269, F272, F275, F278, F281, F284, hn60, hl12, hf6, hc60, hs40, hga, hgr, hln, hk5, hk4, hfi, hpi, har, hgf, hfz, hgc, hG, hsq, hei, hmi, kne, hca, hcr, hlk⟩⟩ (Nat.le_of_ble_eq_true rfl) (Nat.le_of_ble_eq_true rfl) dX7_share_36
  · have a285 : f1 fi = some (.inr (5, [.ref al, .ref ra, .int (nI nn)])) := k4 _ _ x_fi (z_ne x_fi x_fa rfl)
    refine z_callVi (As := []) C hz hS hA hl (k_X5_isFull_B l D cy f1 fi al ra nn a285 hn60 h60) zyX5_isFull mMX7_79 a285 zl5 rfl rfl (Nat.le_of_ble_eq_true rfl) ⟨Nat.le_of_ble_eq_true rfl, Nat.le_of_ble_eq_true rfl⟩ ⟨Nat.le_of_ble_eq_true rfl, Nat.le_of_ble_eq_true rfl⟩ dX7_share_11 (fun r f286 H locs h287 hz hS => ?_)
    obtain ⟨rfl, k288⟩ := h287
    refine lv_if_eq (tgt := 20) hx hb dX7_share_14 (by decide) (fun c289 => ?_) (fun c289 => ?_)
    · exact absurd c289 (by decide)
    refine lv_bipush (v := (-3)) hx hb dX7_share_17 (by decide) ?_
    have a290 : f286 o = some (.inr (7, [.ref fa, .ref fi, .ref nu, .int (nI nl), .ref fm, .int (nI nf), .ref co, .int (nI nc), .ref en, .ref ke, .long lk])) := k288 _ _ a5 
    have a291 : f286 fa = some (.inr (2, [.int 0, .int (-1), .int 0, .ref ev])) := k288 _ _ a3 
    have a292 : f1 ev = some (.inl (cy 0, 8, .inl gv)) := k4 _ _ x_ev (z_ne x_ev x_fa rfl)
    have a293 : f286 ev = some (.inl (cy 0, 8, .inl gv)) := k288 _ _ a292 
    have a294 : f286 fi = some (.inr (5, [.ref al, .ref ra, .int (nI nn)])) := k288 _ _ a285 
    have a295 : f1 al = some (.inl (cy 3, 60, .inr (.inr (.inr (.inr ga))))) := k4 _ _ x_al (z_ne x_al x_fa rfl)
    have a296 : f286 al = some (.inl (cy 3, 60, .inr (.inr (.inr (.inr ga))))) := k288 _ _ a295 
    have a297 : f1 ra = some (.inl (cy 3, 60, .inr (.inr (.inr (.inr gr))))) := k4 _ _ x_ra (z_ne x_ra x_fa rfl)
    have a298 : f286 ra = some (.inl (cy 3, 60, .inr (.inr (.inr (.inr gr))))) := k288 _ _ a297 
    have a299 : f1 nu = some (.inl (cy 0, 12, .inl gu)) := k4 _ _ x_nu (z_ne x_nu x_fa rfl)
    have a300 : f286 nu = some (.inl (cy 0, 12, .inl gu)) := k288 _ _ a299 
    have a301 : f1 fm = some (.inl (cy 4, 6, .inr (.inr (.inr (.inr gf))))) := k4 _ _ x_fm (z_ne x_fm x_fa rfl)
    have a302 : f286 fm = some (.inl (cy 4, 6, .inr (.inr (.inr (.inr gf))))) := k288 _ _ a301 
    have a303 : f1 co = some (.inl (cy 5, 60, .inr (.inr (.inr (.inr gc))))) := k4 _ _ x_co (z_ne x_co x_fa rfl)
    have a304 : f286 co = some (.inl (cy 5, 60, .inr (.inr (.inr (.inr gc))))) := k288 _ _ a303 
    have a305 : f1 en = some (.inl (cy 6, 4, .inr (.inr (.inr (.inr ge))))) := k4 _ _ x_en (z_ne x_en x_fa rfl)
    have a306 : f286 en = some (.inl (cy 6, 4, .inr (.inr (.inr (.inr ge))))) := k288 _ _ a305 
    have a307 : f1 ke = some (.inr (6, [.ref kn, .ref vq, .int (nI ks)])) := k4 _ _ x_ke (z_ne x_ke x_fa rfl)
    have a308 : f286 ke = some (.inr (6, [.ref kn, .ref vq, .int (nI ks)])) := k288 _ _ a307 
    have a309 : f1 kn = some (.inl (cy 0, 40, .inl kk)) := k4 _ _ x_kn (z_ne x_kn x_fa rfl)
    have a310 : f286 kn = some (.inl (cy 0, 40, .inl kk)) := k288 _ _ a309 
    have a311 : f1 vq = some (.inl (cy 0, 40, .inl kv)) := k4 _ _ x_vq (z_ne x_vq x_fa rfl)
    have a312 : f286 vq = some (.inl (cy 0, 40, .inl kv)) := k288 _ _ a311 
    have F313 : ∀ i9 : Nat, i9 < nn → f1 (fg i9) = some (.inr (4, [.int (kd i9), .ref (pt i9), .long (wg i9), .int (wd i9), .int (nI i9), .int (hs i9), .int (bf i9)])) := fun i9 h9 => k4 _ _ (hF i9 h9) (z_ne (hF i9 h9) x_fa rfl)
    have F314 : ∀ i9 : Nat, i9 < nn → f286 (fg i9) = some (.inr (4, [.int (kd i9), .ref (pt i9), .long (wg i9), .int (wd i9), .int (nI i9), .int (hs i9), .int (bf i9)])) := fun i9 h9 => k288 _ _ (F313 i9 h9) 
    have F315 : ∀ i9 : Nat, i9 < nn → f1 (pt i9) = some (.inl (cy 1, (ln i9), .inr (.inl (pp i9)))) := fun i9 h9 => k4 _ _ (hP i9 h9) (z_neO (hP i9 h9) x_fa rfl)
    have F316 : ∀ i9 : Nat, i9 < nn → f286 (pt i9) = some (.inl (cy 1, (ln i9), .inr (.inl (pp i9)))) := fun i9 h9 => k288 _ _ (F315 i9 h9) 
    have F317 : ∀ i9 : Nat, i9 < nf → f1 (fq i9) = some (.inr (3, [.ref (fk i9), .int (nI (fz i9))])) := fun i9 h9 => k4 _ _ (hFq i9 h9) (z_ne (hFq i9 h9) x_fa rfl)
    have F318 : ∀ i9 : Nat, i9 < nf → f286 (fq i9) = some (.inr (3, [.ref (fk i9), .int (nI (fz i9))])) := fun i9 h9 => k288 _ _ (F317 i9 h9) 
    have F319 : ∀ i9 : Nat, i9 < nf → f1 (fk i9) = some (.inl (cy 0, 4, .inl (fc i9))) := fun i9 h9 => k4 _ _ (hFk i9 h9) (z_ne (hFk i9 h9) x_fa rfl)
    have F320 : ∀ i9 : Nat, i9 < nf → f286 (fk i9) = some (.inl (cy 0, 4, .inl (fc i9))) := fun i9 h9 => k288 _ _ (F319 i9 h9) 
    have F321 : ∀ i9 : Nat, i9 < nc → f1 (cn i9) = some (.inr (0, [.int (ce i9), .int (cm i9)])) := fun i9 h9 => k4 _ _ (hCn i9 h9) (z_ne (hCn i9 h9) x_fa rfl)
    have F322 : ∀ i9 : Nat, i9 < nc → f286 (cn i9) = some (.inr (0, [.int (ce i9), .int (cm i9)])) := fun i9 h9 => k288 _ _ (F321 i9 h9) 
    have F323 : ∀ i9 : Nat, i9 < 4 → f1 (ea i9) = some (.inr (1, [.ref (ma i9), .int (nI (sq i9))])) := fun i9 h9 => k4 _ _ (hEa i9 h9) (z_ne (hEa i9 h9) x_fa rfl)
    have F324 : ∀ i9 : Nat, i9 < 4 → f286 (ea i9) = some (.inr (1, [.ref (ma i9), .int (nI (sq i9))])) := fun i9 h9 => k288 _ _ (F323 i9 h9) 
    have F325 : ∀ i9 : Nat, i9 < 4 → f1 (ma i9) = some (.inl (cy 0, 60, .inl (mb i9))) := fun i9 h9 => k4 _ _ (hMa i9 h9) (z_ne (hMa i9 h9) x_fa rfl)
    have F326 : ∀ i9 : Nat, i9 < 4 → f286 (ma i9) = some (.inl (cy 0, 60, .inl (mb i9))) := fun i9 h9 => k288 _ _ (F325 i9 h9) 
    exact z_iret C hr rfl hz hS ⟨0, (-1), 0, gv, nl, gu, nn, ga, gr, fg, pt, kd, ln, pp, wg, wd, hs, bf, nf, gf, fq, fk, fz, fc, nc, gc, cn, ce, cm, sq, mb, ks, kk, kv, lk, (by simp [h60]), rfl, (by rw [if_neg (by decide)]), ⟨a290, a291, a293, a294, a296, a298, a300, a302, a304, a306, a308, a310, a312, F314, F316, F318, F320, F322, F324, F326, hn60, hl12, hf6, hc60, hs40, hga, hgr, hln, hk5, hk4, hfi, hpi, har, hgf, hfz, hgc, hG, hsq, hei, hmi, kne, hca, hcr, hlk⟩⟩ (Nat.le_of_ble_eq_true rfl) (Nat.le_of_ble_eq_true rfl) dX7_share_19
