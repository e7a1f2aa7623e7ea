abbrev rmX7_cause : Room := { frames := 0, cells := 0, slots := 0, locals := 0 }
set_option maxHeartbeats 4000000 in
set_option maxRecDepth 100000 in
theorem k_X7_cause (l : Launch) (D : va_G) (cy : Nat → ClassId) (f : zM) (o : Nat) (fa : Nat) (fi : Nat) (nu : Nat) (fm : Nat) (co : Nat) (en : Nat) (ke : Nat) (ev : Nat) (al : Nat) (ra : Nat) (kn : Nat) (vq : Nat) (ge : Nat → Option Nat) (ea : Nat → Nat) (ma : Nat → Nat) (u1 : Int32) (u2 : Int32) (u3 : Int32) (gv : Nat → Int32) (nl : Nat) (gu : Nat → Int32) (nn : Nat) (ga : Nat → Option Nat) (gr : Nat → Option Nat) (fg : Nat → Nat) (pt : Nat → Nat) (kd : Nat → Int32) (ln : Nat → Nat) (pp : Nat → Nat → Int64) (wg : Nat → Int64) (wd : Nat → Int32) (hs : Nat → Int32) (bf : Nat → Int32) (nf : Nat) (gf : Nat → Option Nat) (fq : Nat → Nat) (fk : Nat → Nat) (fz : Nat → Nat) (fc : Nat → Nat → Int32) (nc : Nat) (gc : Nat → Option Nat) (cn : Nat → Nat) (ce : Nat → Int32) (cm : Nat → Int32) (sq : Nat → Nat) (mb : Nat → Nat → Int32) (ks : Nat) (kk : Nat → Int32) (kv : Nat → Int32) (lk : Int64) (x : Int32)    (hI : zIX cy f o fa fi nu fm co en ke ev al ra kn vq ge ea ma u1 u2 u3 gv nl gu nn ga gr fg pt kd ln pp wg wd hs bf nf gf fq fk fz fc nc gc cn ce cm sq mb ks kk kv lk) : zCi l D cy yX7_cause cX7_cause 2 (Option.some Jvm.ClassFile.FieldType.int) rmX7_cause [.ref o, .int x] f (fun (r : Int32) (f1 : zM) => ∃ (u11 : Int32) (u21 : Int32) (u31 : Int32) (gv1 : Nat → Int32) (nl1 : Nat) (gu1 : Nat → Int32) (nn1 : Nat) (ga1 : Nat → Option Nat) (gr1 : Nat → Option Nat) (fg1 : Nat → Nat) (pt1 : Nat → Nat) (kd1 : Nat → Int32) (ln1 : Nat → Nat) (pp1 : Nat → Nat → Int64) (wg1 : Nat → Int64) (wd1 : Nat → Int32) (hs1 : Nat → Int32) (bf1 : Nat → Int32) (nf1 : Nat) (gf1 : Nat → Option Nat) (fq1 : Nat → Nat) (fk1 : Nat → Nat) (fz1 : Nat → Nat) (fc1 : Nat → Nat → Int32) (nc1 : Nat) (gc1 : Nat → Option Nat) (cn1 : Nat → Nat) (ce1 : Nat → Int32) (cm1 : Nat → Int32) (sq1 : Nat → Nat) (mb1 : Nat → Nat → Int32) (ks1 : Nat) (kk1 : Nat → Int32) (kv1 : Nat → Int32) (lk1 : Int64), r = (if x = 0 then u1 else if x = 1 then u2 else if x = 2 then u3 else (-2)) ∧ (u11 = u1) ∧ (u21 = u2) ∧ (u31 = u3) ∧ (gv1 = gv) ∧ (nl1 = nl) ∧ (gu1 = gu) ∧ (nn1 = nn) ∧ (kd1 = kd) ∧ (ln1 = ln) ∧ (pp1 = pp) ∧ (wd1 = wd) ∧ (hs1 = hs) ∧ (nf1 = nf) ∧ (fz1 = fz) ∧ (fc1 = fc) ∧ (nc1 = nc) ∧ (ce1 = ce) ∧ (cm1 = cm) ∧ (sq1 = sq) ∧ (mb1 = mb) ∧ (ks1 = ks) ∧ (kk1 = kk) ∧ (kv1 = kv) ∧ (lk1 = lk) ∧ zIX cy f1 o fa fi nu fm co en ke ev al ra kn vq ge ea ma u11 u21 u31 gv1 nl1 gu1 nn1 ga1 gr1 fg1 pt1 kd1 ln1 pp1 wg1 wd1 hs1 bf1 nf1 gf1 fq1 fk1 fz1 fc1 nc1 gc1 cn1 ce1 cm1 sq1 mb1 ks1 kk1 kv1 lk1) := by
  intro sz
  refine z_body (by decide +kernel) (Nat.le_of_ble_eq_true rfl) ?_
  intro p e s m below meth c ls C hr hin hsz hz hl
  subst hsz
  have hx := C.1
  have hb := C.2.1
  have hA : ∀ q, s.heap.size ≤ q → zA f s.heap.size q := fun q h => Or.inr h
  have hS : va_S (zA f s.heap.size) s.heap s.heap [] := va_S.rf
  have hl : lv_has ls 2 [(0, .ref o), (1, .int x)] := hl
  obtain ⟨x_o, x_fa, x_ev, x_fi, x_al, x_ra, x_nu, x_fm, x_co, x_en, x_ke, x_kn, x_vq, hF, hP, hFq, hFk, hCn, hEa, hMa, hn60, hl12, hf6, hc60, hs40, hga, hgr, hln, hk5, hk4, hfi, hpi, har, hgf, hfz, hgc, hG, hsq, hei, hmi, kne, hca, hcr, hlk⟩ := id hI
  refine lv_iload_n hx hb dX7_cause_0 rfl (lv_at hl 1 rfl) ?_
  by_cases c1_0 : x = 0
  · refine lv_tableIn (off := 27) (tgt := 28) hx hb dX7_cause_1 (by rw [c1_0]; decide) (by rw [c1_0]; decide) (by rw [c1_0]; decide) (by decide) ?_
    refine lv_aload_n hx hb dX7_cause_28 rfl (lv_at hl 0 rfl) ?_
    refine z_get (v := .ref fa) C hz x_o zl7 mFX7_10 (by decide) rfl dX7_cause_29 ?_
    refine z_getN (v := .int u1) C hz x_fa zl2 mFNX7_67 (by decide) rfl dX7_cause_32 ?_
    exact z_iret C hr rfl hz hS ⟨u1, u2, u3, gv, nl, gu, nn, ga, gr, fg, pt, kd, ln, pp, wg, wd, hs, bf, nf, gf, fq, fk, fz, fc, nc, gc, cn, ce, cm, sq, mb, ks, kk, kv, lk, (by simp [c1_0]), rfl, rfl, rfl, rfl, rfl, rfl, rfl, rfl, rfl, rfl, rfl, rfl, rfl, rfl, rfl, rfl, rfl, rfl, rfl, rfl, rfl, rfl, rfl, rfl, ⟨x_o, x_fa, x_ev, x_fi, x_al, x_ra, x_nu, x_fm, x_co, x_en, x_ke, x_kn, x_vq, hF, hP, hFq, hFk, hCn, hEa, hMa, hn60, hl12, hf6, hc60, hs40, hga, hgr, hln, hk5, hk4, hfi, hpi, har, hgf, hfz, hgc, hG, hsq, hei, hmi, kne, hca, hcr, hlk⟩⟩ (Nat.le_of_ble_eq_true rfl) (Nat.le_of_ble_eq_true rfl) dX7_cause_35
  by_cases c1_1 : x = 1
  · refine lv_tableIn (off := 35) (tgt := 36) hx hb dX7_cause_1 (by rw [c1_1]; decide) (by rw [c1_1]; decide) (by rw [c1_1]; decide) (by decide) ?_
    refine lv_aload_n hx hb dX7_cause_36 rfl (lv_at hl 0 rfl) ?_
    refine z_get (v := .ref fa) C hz x_o zl7 mFX7_10 (by decide) rfl dX7_cause_37 ?_
    refine z_getN (v := .int u2) C hz x_fa zl2 mFNX7_70 (by decide) rfl dX7_cause_40 ?_
    exact z_iret C hr rfl hz hS ⟨u1, u2, u3, gv, nl, gu, nn, ga, gr, fg, pt, kd, ln, pp, wg, wd, hs, bf, nf, gf, fq, fk, fz, fc, nc, gc, cn, ce, cm, sq, mb, ks, kk, kv, lk, (by simp [c1_1, c1_0]), rfl, rfl, rfl, rfl, rfl, rfl, rfl, rfl, rfl, rfl, rfl, rfl, rfl, rfl, rfl, rfl, rfl, rfl, rfl, rfl, rfl, rfl, rfl, rfl, ⟨x_o, x_fa, x_ev, x_fi, x_al, x_ra, x_nu, x_fm, x_co, x_en, x_ke, x_kn, x_vq, hF, hP, hFq, hFk, hCn, hEa, hMa, hn60, hl12, hf6, hc60, hs40, hga, hgr, hln, hk5, hk4, hfi, hpi, har, hgf, hfz, hgc, hG, hsq, hei, hmi, kne, hca, hcr, hlk⟩⟩ (Nat.le_of_ble_eq_true rfl) (Nat.le_of_ble_eq_true rfl) dX7_cause_43
  by_cases c1_2 : x = 2
  · refine lv_tableIn (off := 43) (tgt := 44) hx hb dX7_cause_1 (by rw [c1_2]; decide) (by rw [c1_2]; decide) (by rw [c1_2]; decide) (by decide) ?_
    refine lv_aload_n hx hb dX7_cause_44 rfl (lv_at hl 0 rfl) ?_
    refine z_get (v := .ref fa) C hz x_o zl7 mFX7_10 (by decide) rfl dX7_cause_45 ?_
    refine z_getN (v := .int u3) C hz x_fa zl2 mFNX7_73 (by decide) rfl dX7_cause_48 ?_
    exact z_iret C hr rfl hz hS ⟨u1, u2, u3, gv, nl, gu, nn, ga, gr, fg, pt, kd, ln, pp, wg, wd, hs, bf, nf, gf, fq, fk, fz, fc, nc, gc, cn, ce, cm, sq, mb, ks, kk, kv, lk, (by simp [c1_2, c1_0, c1_1]), rfl, rfl, rfl, rfl, rfl, rfl, rfl, rfl, rfl, rfl, rfl, rfl, rfl, rfl, rfl, rfl, rfl, rfl, rfl, rfl, rfl, rfl, rfl, rfl, ⟨x_o, x_fa, x_ev, x_fi, x_al, x_ra, x_nu, x_fm, x_co, x_en, x_ke, x_kn, x_vq, hF, hP, hFq, hFk, hCn, hEa, hMa, hn60, hl12, hf6, hc60, hs40, hga, hgr, hln, hk5, hk4, hfi, hpi, har, hgf, hfz, hgc, hG, hsq, hei, hmi, kne, hca, hcr, hlk⟩⟩ (Nat.le_of_ble_eq_true rfl) (Nat.le_of_ble_eq_true rfl) dX7_cause_51
  refine lv_tableOut (tgt := 52) hx hb dX7_cause_1 (by have t0 := lv_neT c1_0 (a := 0) (by decide); have t1 := lv_neT c1_1 (a := 1) (by decide); have t2 := lv_neT c1_2 (a := 2) (by decide);  omega) (by decide) ?_
  refine lv_bipush (v := (-2)) hx hb dX7_cause_52 (by decide) ?_
  exact z_iret C hr rfl hz hS ⟨u1, u2, u3, gv, nl, gu, nn, ga, gr, fg, pt, kd, ln, pp, wg, wd, hs, bf, nf, gf, fq, fk, fz, fc, nc, gc, cn, ce, cm, sq, mb, ks, kk, kv, lk, (by simp [c1_0, c1_1, c1_2]), rfl, rfl, rfl, rfl, rfl, rfl, rfl, rfl, rfl, rfl, rfl, rfl, rfl, rfl, rfl, rfl, rfl, rfl, rfl, rfl, rfl, rfl, rfl, rfl, ⟨x_o, x_fa, x_ev, x_fi, x_al, x_ra, x_nu, x_fm, x_co, x_en, x_ke, x_kn, x_vq, hF, hP, hFq, hFk, hCn, hEa, hMa, hn60, hl12, hf6, hc60, hs40, hga, hgr, hln, hk5, hk4, hfi, hpi, har, hgf, hfz, hgc, hG, hsq, hei, hmi, kne, hca, hcr, hlk⟩⟩ (Nat.le_of_ble_eq_true rfl) (Nat.le_of_ble_eq_true rfl) dX7_cause_54
abbrev rmX7_lay : Room := { frames := 0, cells := 0, slots := 0, locals := 0 }
set_option maxHeartbeats 4000000 in
set_option maxRecDepth 100000 in
theorem k_X7_lay (l : Launch) (D : va_G) (cy : Nat → ClassId) (f : zM) (o : Nat) (fa : Nat) (fi : Nat) (nu : Nat) (fm : Nat) (co : Nat) (en : Nat) (ke : Nat) (ev : Nat) (al : Nat) (ra : Nat) (kn : Nat) (vq : Nat) (ge : Nat → Option Nat) (ea : Nat → Nat) (ma : Nat → Nat) (u1 : Int32) (u2 : Int32) (u3 : Int32) (gv : Nat → Int32) (nl : Nat) (gu : Nat → Int32) (nn : Nat) (ga : Nat → Option Nat) (gr : Nat → Option Nat) (fg : Nat → Nat) (pt : Nat → Nat) (kd : Nat → Int32) (ln : Nat → Nat) (pp : Nat → Nat → Int64) (wg : Nat → Int64) (wd : Nat → Int32) (hs : Nat → Int32) (bf : Nat → Int32) (nf : Nat) (gf : Nat → Option Nat) (fq : Nat → Nat) (fk : Nat → Nat) (fz : Nat → Nat) (fc : Nat → Nat → Int32) (nc : Nat) (gc : Nat → Option Nat) (cn : Nat → Nat) (ce : Nat → Int32) (cm : Nat → Int32) (sq : Nat → Nat) (mb : Nat → Nat → Int32) (ks : Nat) (kk : Nat → Int32) (kv : Nat → Int32) (lk : Int64) (x : Int32)    (hI : zIX cy f o fa fi nu fm co en ke ev al ra kn vq ge ea ma u1 u2 u3 gv nl gu nn ga gr fg pt kd ln pp wg wd hs bf nf gf fq fk fz fc nc gc cn ce cm sq mb ks kk kv lk) : zCi l D cy yX7_lay cX7_lay 2 (Option.some Jvm.ClassFile.FieldType.int) rmX7_lay [.ref o, .int x] f (fun (r : Int32) (f1 : zM) => ∃ (u11 : Int32) (u21 : Int32) (u31 : Int32) (gv1 : Nat → Int32) (nl1 : Nat) (gu1 : Nat → Int32) (nn1 : Nat) (ga1 : Nat → Option Nat) (gr1 : Nat → Option Nat) (fg1 : Nat → Nat) (pt1 : Nat → Nat) (kd1 : Nat → Int32) (ln1 : Nat → Nat) (pp1 : Nat → Nat → Int64) (wg1 : Nat → Int64) (wd1 : Nat → Int32) (hs1 : Nat → Int32) (bf1 : Nat → Int32) (nf1 : Nat) (gf1 : Nat → Option Nat) (fq1 : Nat → Nat) (fk1 : Nat → Nat) (fz1 : Nat → Nat) (fc1 : Nat → Nat → Int32) (nc1 : Nat) (gc1 : Nat → Option Nat) (cn1 : Nat → Nat) (ce1 : Nat → Int32) (cm1 : Nat → Int32) (sq1 : Nat → Nat) (mb1 : Nat → Nat → Int32) (ks1 : Nat) (kk1 : Nat → Int32) (kv1 : Nat → Int32) (lk1 : Int64), r = (if nl < 12 then nI (nl + 1) else (-3)) ∧ (u11 = u1) ∧ (u21 = u2) ∧ (u31 = u3) ∧ (gv1 = gv) ∧ (nl1 = if nl < 12 then nl + 1 else nl) ∧ (gu1 = if nl < 12 then upd gu nl x else gu) ∧ (nn1 = nn) ∧ (kd1 = kd) ∧ (ln1 = ln) ∧ (pp1 = pp) ∧ (wd1 = wd) ∧ (hs1 = hs) ∧ (nf1 = nf) ∧ (fz1 = fz) ∧ (fc1 = fc) ∧ (nc1 = nc) ∧ (ce1 = ce) ∧ (cm1 = cm) ∧ (sq1 = sq) ∧ (mb1 = mb) ∧ (ks1 = ks) ∧ (kk1 = kk) ∧ (kv1 = kv) ∧ (lk1 = lk) ∧ zIX cy f1 o fa fi nu fm co en ke ev al ra kn vq ge ea ma u11 u21 u31 gv1 nl1 gu1 nn1 ga1 gr1 fg1 pt1 kd1 ln1 pp1 wg1 wd1 hs1 bf1 nf1 gf1 fq1 fk1 fz1 fc1 nc1 gc1 cn1 ce1 cm1 sq1 mb1 ks1 kk1 kv1 lk1) := by
  intro sz
  refine z_body (by decide +kernel) (Nat.le_of_ble_eq_true rfl) ?_
  intro p e s m below meth c ls C hr hin hsz hz hl
  subst hsz
  have hx := C.1
  have hb := C.2.1
  have hA : ∀ q, s.heap.size ≤ q → zA f s.heap.size q := fun q h => Or.inr h
  have hS : va_S (zA f s.heap.size) s.heap s.heap [] := va_S.rf
  have hl : lv_has ls 2 [(0, .ref o), (1, .int x)] := hl
  obtain ⟨x_o, x_fa, x_ev, x_fi, x_al, x_ra, x_nu, x_fm, x_co, x_en, x_ke, x_kn, x_vq, hF, hP, hFq, hFk, hCn, hEa, hMa, hn60, hl12, hf6, hc60, hs40, hga, hgr, hln, hk5, hk4, hfi, hpi, har, hgf, hfz, hgc, hG, hsq, hei, hmi, kne, hca, hcr, hlk⟩ := id hI
  refine lv_aload_n hx hb dX7_lay_0 rfl (lv_at hl 0 rfl) ?_
  refine z_get (v := .int (nI nl)) C hz x_o zl7 mFX7_27 (by decide) rfl dX7_lay_1 ?_
  refine lv_bipush (v := 12) hx hb dX7_lay_4 (by decide) ?_
  refine lv_icmp_lt (tgt := 12) hx hb dX7_lay_6 (by decide) (fun c1 => ?_) (fun c1 => ?_)
  · replace c1 : (nl < 12) := (nI_ltI (a := nl) (b := 12) (by omega) (by omega)).mp c1
    refine lv_aload_n hx hb dX7_lay_12 rfl (lv_at hl 0 rfl) ?_
    refine z_get (v := .ref nu) C hz x_o zl7 mFX7_23 (by decide) rfl dX7_lay_13 ?_
    refine lv_aload_n hx hb dX7_lay_16 rfl (lv_at hl 0 rfl) ?_
    refine z_get (v := .int (nI nl)) C hz x_o zl7 mFX7_27 (by decide) rfl dX7_lay_17 ?_
    refine lv_iload_n hx hb dX7_lay_20 rfl (lv_at hl 1 rfl) ?_
    refine z_iast nl C hz hS x_nu rfl (by omega) (by omega) dX7_lay_21 (fun H locs f2 a3 k4 hz hS => ?_)
    refine lv_aload_n hx hb dX7_lay_22 rfl (lv_at hl 0 rfl) ?_
    refine lv_dup hx hb dX7_lay_23 rfl ?_
    have a5 : f2 o = some (.inr (7, [.ref fa, .ref fi, .ref nu, .int (nI nl), .ref fm, .int (nI nf), .ref co, .int (nI nc), .ref en, .ref ke, .long lk])) := (k4 _ (z_ne x_o x_nu rfl)).trans x_o
    refine z_get (v := .int (nI nl)) C hz a5 zl7 mFX7_27 (by decide) rfl dX7_lay_24 ?_
    refine lv_iconst (v := 1) hx hb dX7_lay_27 (by decide) ?_
    refine lv_iadd hx hb dX7_lay_28 ?_
    refine lv_topi (fun y6 e7 => ?_)
    obtain rfl : y6 = nI (nl + 1) := e7.trans (nI_1 nl)
    refine z_put (fs' := [.ref fa, .ref fi, .ref nu, .int (nI (nl + 1)), .ref fm, .int (nI nf), .ref co, .int (nI nc), .ref en, .ref ke, .long lk]) C hz hS a5 zl7 mFX7_27 (by decide) rfl rfl rfl (Nat.le_of_ble_eq_true rfl) rfl dX7_lay_29 (fun H locs f8 a9 k10 hz hS => ?_)
    refine lv_aload_n hx hb dX7_lay_32 rfl (lv_at hl 0 rfl) ?_
    refine z_get (v := .int (nI (nl + 1))) C hz a9 zl7 mFX7_27 (by decide) rfl dX7_lay_33 ?_
    have a11 : f2 fa = some (.inr (2, [.int u1, .int u2, .int u3, .ref ev])) := (k4 _ (z_ne x_fa x_nu rfl)).trans x_fa
    have a12 : f8 fa = some (.inr (2, [.int u1, .int u2, .int u3, .ref ev])) := (k10 _ (z_ne a11 a5 rfl)).trans a11
    have a13 : f2 ev = some (.inl (cy 0, 8, .inl gv)) := (k4 _ (z_ne x_ev x_nu rfl)).trans x_ev
    have a14 : f8 ev = some (.inl (cy 0, 8, .inl gv)) := (k10 _ (z_ne a13 a5 rfl)).trans a13
    have a15 : f2 fi = some (.inr (5, [.ref al, .ref ra, .int (nI nn)])) := (k4 _ (z_ne x_fi x_nu rfl)).trans x_fi
    have a16 : f8 fi = some (.inr (5, [.ref al, .ref ra, .int (nI nn)])) := (k10 _ (z_ne a15 a5 rfl)).trans a15
    have a17 : f2 al = some (.inl (cy 3, 60, .inr (.inr (.inr (.inr ga))))) := (k4 _ (z_ne x_al x_nu rfl)).trans x_al
    have a18 : f8 al = some (.inl (cy 3, 60, .inr (.inr (.inr (.inr ga))))) := (k10 _ (z_ne a17 a5 rfl)).trans a17
    have a19 : f2 ra = some (.inl (cy 3, 60, .inr (.inr (.inr (.inr gr))))) := (k4 _ (z_ne x_ra x_nu rfl)).trans x_ra
    have a20 : f8 ra = some (.inl (cy 3, 60, .inr (.inr (.inr (.inr gr))))) := (k10 _ (z_ne a19 a5 rfl)).trans a19
    have a21 : f8 nu = some (.inl (cy 0, 12, .inl (upd gu nl x))) := (k10 _ (z_ne a3 a5 rfl)).trans a3
    have a22 : f2 fm = some (.inl (cy 4, 6, .inr (.inr (.inr (.inr gf))))) := (k4 _ (z_ne x_fm x_nu rfl)).trans x_fm
    have a23 : f8 fm = some (.inl (cy 4, 6, .inr (.inr (.inr (.inr gf))))) := (k10 _ (z_ne a22 a5 rfl)).trans a22
    have a24 : f2 co = some (.inl (cy 5, 60, .inr (.inr (.inr (.inr gc))))) := (k4 _ (z_ne x_co x_nu rfl)).trans x_co
    have a25 : f8 co = some (.inl (cy 5, 60, .inr (.inr (.inr (.inr gc))))) := (k10 _ (z_ne a24 a5 rfl)).trans a24
    have a26 : f2 en = some (.inl (cy 6, 4, .inr (.inr (.inr (.inr ge))))) := (k4 _ (z_ne x_en x_nu rfl)).trans x_en
    have a27 : f8 en = some (.inl (cy 6, 4, .inr (.inr (.inr (.inr ge))))) := (k10 _ (z_ne a26 a5 rfl)).trans a26
    have a28 : f2 ke = some (.inr (6, [.ref kn, .ref vq, .int (nI ks)])) := (k4 _ (z_ne x_ke x_nu rfl)).trans x_ke
    have a29 : f8 ke = some (.inr (6, [.ref kn, .ref vq, .int (nI ks)])) := (k10 _ (z_ne a28 a5 rfl)).trans a28
    have a30 : f2 kn = some (.inl (cy 0, 40, .inl kk)) := (k4 _ (z_ne x_kn x_nu rfl)).trans x_kn
    have a31 : f8 kn = some (.inl (cy 0, 40, .inl kk)) := (k10 _ (z_ne a30 a5 rfl)).trans a30
    have a32 : f2 vq = some (.inl (cy 0, 40, .inl kv)) := (k4 _ (z_ne x_vq x_nu rfl)).trans x_vq
    have a33 : f8 vq = some (.inl (cy 0, 40, .inl kv)) := (k10 _ (z_ne a32 a5 rfl)).trans a32
    have F34 : ∀ i9 : Nat, i9 < nn → f2 (fg i9) = some (.inr (4, [.int (kd i9), .ref (pt i9), .long (wg i9), .int (wd i9), .int (nI i9), .int (hs i9), .int (bf i9)])) := fun i9 h9 => (k4 _ (z_ne (hF i9 h9) x_nu rfl)).trans (hF i9 h9)
    have F35 : ∀ i9 : Nat, i9 < nn → f8 (fg i9) = some (.inr (4, [.int (kd i9), .ref (pt i9), .long (wg i9), .int (wd i9), .int (nI i9), .int (hs i9), .int (bf i9)])) := fun i9 h9 => (k10 _ (z_ne (F34 i9 h9) a5 rfl)).trans (F34 i9 h9)
    have F36 : ∀ i9 : Nat, i9 < nn → f2 (pt i9) = some (.inl (cy 1, (ln i9), .inr (.inl (pp i9)))) := fun i9 h9 => (k4 _ (z_neA (hP i9 h9) x_nu rfl)).trans (hP i9 h9)
    have F37 : ∀ i9 : Nat, i9 < nn → f8 (pt i9) = some (.inl (cy 1, (ln i9), .inr (.inl (pp i9)))) := fun i9 h9 => (k10 _ (z_neO (F36 i9 h9) a5 rfl)).trans (F36 i9 h9)
    have F38 : ∀ i9 : Nat, i9 < nf → f2 (fq i9) = some (.inr (3, [.ref (fk i9), .int (nI (fz i9))])) := fun i9 h9 => (k4 _ (z_ne (hFq i9 h9) x_nu rfl)).trans (hFq i9 h9)
    have F39 : ∀ i9 : Nat, i9 < nf → f8 (fq i9) = some (.inr (3, [.ref (fk i9), .int (nI (fz i9))])) := fun i9 h9 => (k10 _ (z_ne (F38 i9 h9) a5 rfl)).trans (F38 i9 h9)
    have F40 : ∀ i9 : Nat, i9 < nf → f2 (fk i9) = some (.inl (cy 0, 4, .inl (fc i9))) := fun i9 h9 => (k4 _ (z_ne (hFk i9 h9) x_nu rfl)).trans (hFk i9 h9)
    have F41 : ∀ i9 : Nat, i9 < nf → f8 (fk i9) = some (.inl (cy 0, 4, .inl (fc i9))) := fun i9 h9 => (k10 _ (z_ne (F40 i9 h9) a5 rfl)).trans (F40 i9 h9)
    have F42 : ∀ i9 : Nat, i9 < nc → f2 (cn i9) = some (.inr (0, [.int (ce i9), .int (cm i9)])) := fun i9 h9 => (k4 _ (z_ne (hCn i9 h9) x_nu rfl)).trans (hCn i9 h9)
    have F43 : ∀ i9 : Nat, i9 < nc → f8 (cn i9) = some (.inr (0, [.int (ce i9), .int (cm i9)])) := fun i9 h9 => (k10 _ (z_ne (F42 i9 h9) a5 rfl)).trans (F42 i9 h9)
    have F44 : ∀ i9 : Nat, i9 < 4 → f2 (ea i9) = some (.inr (1, [.ref (ma i9), .int (nI (sq i9))])) := fun i9 h9 => (k4 _ (z_ne (hEa i9 h9) x_nu rfl)).trans (hEa i9 h9)
    have F45 : ∀ i9 : Nat, i9 < 4 → f8 (ea i9) = some (.inr (1, [.ref (ma i9), .int (nI (sq i9))])) := fun i9 h9 => (k10 _ (z_ne (F44 i9 h9) a5 rfl)).trans (F44 i9 h9)
    have F46 : ∀ i9 : Nat, i9 < 4 → f2 (ma i9) = some (.inl (cy 0, 60, .inl (mb i9))) := fun i9 h9 => (k4 _ (z_ne (hMa i9 h9) x_nu rfl)).trans (hMa i9 h9)
    have F47 : ∀ i9 : Nat, i9 < 4 → f8 (ma i9) = some (.inl (cy 0, 60, .inl (mb i9))) := fun i9 h9 => (k10 _ (z_ne (F46 i9 h9) a5 rfl)).trans (F46 i9 h9)
    exact z_iret C hr rfl hz hS ⟨u1, u2, u3, gv, (nl + 1), (upd gu nl x), nn, ga, gr, fg, pt, kd, ln, pp, wg, wd, hs, bf, nf, gf, fq, fk, fz, fc, nc, gc, cn, ce, cm, sq, mb, ks, kk, kv, lk, (by first | simp [c1] | simp_all), rfl, rfl, rfl, rfl, (by first | simp [c1] | simp_all), (by first | simp [c1] | simp_all), rfl, rfl, rfl, rfl, rfl, rfl, rfl, rfl, rfl, rfl, rfl, rfl, rfl, rfl, rfl, rfl, rfl, rfl, ⟨a9, a12, a14, a16, a18, a20, a21, a23, a25, a27, a29, a31, a33, F35, F37, F39, F41, F43, F45, F47, hn60, (by omega), hf6, hc60, hs40, hga, hgr, hln, hk5, hk4, hfi, hpi, har, hgf, hfz, hgc, hG, hsq, hei, hmi, kne, hca, hcr, hlk⟩⟩ (Nat.le_of_ble_eq_true rfl) (Nat.le_of_ble_eq_true rfl) dX7_lay_36
  · replace c1 : ¬ (nl < 12) := fun h => c1 ((nI_ltI (a := nl) (b := 12) (by omega) (by omega)).mpr h)
    refine lv_bipush (v := (-3)) hx hb dX7_lay_9 (by decide) ?_
    exact z_iret C hr rfl hz hS ⟨u1, u2, u3, gv, nl, gu, nn, ga, gr, fg, pt, kd, ln, pp, wg, wd, hs, bf, nf, gf, fq, fk, fz, fc, nc, gc, cn, ce, cm, sq, mb, ks, kk, kv, lk, (by first | simp [c1] | simp_all), rfl, rfl, rfl, rfl, (by first | simp [c1] | simp_all), (by first | simp [c1] | simp_all), rfl, rfl, rfl, rfl, rfl, rfl, rfl, rfl, rfl, rfl, rfl, rfl, rfl, rfl, rfl, rfl, rfl, rfl, ⟨x_o, x_fa, x_ev, x_fi, x_al, x_ra, x_nu, x_fm, x_co, x_en, x_ke, x_kn, x_vq, hF, hP, hFq, hFk, hCn, hEa, hMa, hn60, hl12, hf6, hc60, hs40, hga, hgr, hln, hk5, hk4, hfi, hpi, har, hgf, hfz, hgc, hG, hsq, hei, hmi, kne, hca, hcr, hlk⟩⟩ (Nat.le_of_ble_eq_true rfl) (Nat.le_of_ble_eq_true rfl) dX7_lay_11
abbrev rmX7_wipe : Room := { frames := 0, cells := 0, slots := 0, locals := 0 }
set_option maxHeartbeats 4000000 in
set_option maxRecDepth 100000 in
theorem k_X7_wipe (l : Launch) (D : va_G) (cy : Nat → ClassId) (f : zM) (o : Nat) (fa : Nat) (fi : Nat) (nu : Nat) (fm : Nat) (co : Nat) (en : Nat) (ke : Nat) (ev : Nat) (al : Nat) (ra : Nat) (kn : Nat) (vq : Nat) (ge : Nat → Option Nat) (ea : Nat → Nat) (ma : Nat → Nat) (u1 : Int32) (u2 : Int32) (u3 : Int32) (gv : Nat → Int32) (nl : Nat) (gu : Nat → Int32) (nn : Nat) (ga : Nat → Option Nat) (gr : Nat → Option Nat) (fg : Nat → Nat) (pt : Nat → Nat) (kd : Nat → Int32) (ln : Nat → Nat) (pp : Nat → Nat → Int64) (wg : Nat → Int64) (wd : Nat → Int32) (hs : Nat → Int32) (bf : Nat → Int32) (nf : Nat) (gf : Nat → Option Nat) (fq : Nat → Nat) (fk : Nat → Nat) (fz : Nat → Nat) (fc : Nat → Nat → Int32) (nc : Nat) (gc : Nat → Option Nat) (cn : Nat → Nat) (ce : Nat → Int32) (cm : Nat → Int32) (sq : Nat → Nat) (mb : Nat → Nat → Int32) (ks : Nat) (kk : Nat → Int32) (kv : Nat → Int32) (lk : Int64)    (hI : zIX cy f o fa fi nu fm co en ke ev al ra kn vq ge ea ma u1 u2 u3 gv nl gu nn ga gr fg pt kd ln pp wg wd hs bf nf gf fq fk fz fc nc gc cn ce cm sq mb ks kk kv lk) : zCi l D cy yX7_wipe cX7_wipe 2 (Option.some Jvm.ClassFile.FieldType.int) rmX7_wipe [.ref o] f (fun (r : Int32) (f1 : zM) => ∃ (u11 : Int32) (u21 : Int32) (u31 : Int32) (gv1 : Nat → Int32) (nl1 : Nat) (gu1 : Nat → Int32) (nn1 : Nat) (ga1 : Nat → Option Nat) (gr1 : Nat → Option Nat) (fg1 : Nat → Nat) (pt1 : Nat → Nat) (kd1 : Nat → Int32) (ln1 : Nat → Nat) (pp1 : Nat → Nat → Int64) (wg1 : Nat → Int64) (wd1 : Nat → Int32) (hs1 : Nat → Int32) (bf1 : Nat → Int32) (nf1 : Nat) (gf1 : Nat → Option Nat) (fq1 : Nat → Nat) (fk1 : Nat → Nat) (fz1 : Nat → Nat) (fc1 : Nat → Nat → Int32) (nc1 : Nat) (gc1 : Nat → Option Nat) (cn1 : Nat → Nat) (ce1 : Nat → Int32) (cm1 : Nat → Int32) (sq1 : Nat → Nat) (mb1 : Nat → Nat → Int32) (ks1 : Nat) (kk1 : Nat → Int32) (kv1 : Nat → Int32) (lk1 : Int64), r = (nI nl) ∧ (u11 = u1) ∧ (u21 = u2) ∧ (u31 = u3) ∧ (gv1 = gv) ∧ (nl1 = 0) ∧ (gu1 = gu) ∧ (nn1 = nn) ∧ (kd1 = kd) ∧ (ln1 = ln) ∧ (pp1 = pp) ∧ (wd1 = wd) ∧ (hs1 = hs) ∧ (nf1 = nf) ∧ (fz1 = fz) ∧ (fc1 = fc) ∧ (nc1 = nc) ∧ (ce1 = ce) ∧ (cm1 = cm) ∧ (sq1 = sq) ∧ (mb1 = mb) ∧ (ks1 = ks) ∧ (kk1 = kk) ∧ (kv1 = kv) ∧ (lk1 = lk) ∧ zIX cy f1 o fa fi nu fm co en ke ev al ra kn vq ge ea ma u11 u21 u31 gv1 nl1 gu1 nn1 ga1 gr1 fg1 pt1 kd1 ln1 pp1 wg1 wd1 hs1 bf1 nf1 gf1 fq1 fk1 fz1 fc1 nc1 gc1 cn1 ce1 cm1 sq1 mb1 ks1 kk1 kv1 lk1) := by
  intro sz
  refine z_body (by decide +kernel) (Nat.le_of_ble_eq_true rfl) ?_
  intro p e s m below meth c ls C hr hin hsz hz hl
  subst hsz
  have hx := C.1
  have hb := C.2.1
  have hA : ∀ q, s.heap.size ≤ q → zA f s.heap.size q := fun q h => Or.inr h
  have hS : va_S (zA f s.heap.size) s.heap s.heap [] := va_S.rf
  have hl : lv_has ls 2 [(0, .ref o)] := hl
  obtain ⟨x_o, x_fa, x_ev, x_fi, x_al, x_ra, x_nu, x_fm, x_co, x_en, x_ke, x_kn, x_vq, hF, hP, hFq, hFk, hCn, hEa, hMa, hn60, hl12, hf6, hc60, hs40, hga, hgr, hln, hk5, hk4, hfi, hpi, har, hgf, hfz, hgc, hG, hsq, hei, hmi, kne, hca, hcr, hlk⟩ := id hI
  refine lv_aload_n hx hb dX7_wipe_0 rfl (lv_at hl 0 rfl) ?_
  refine z_get (v := .int (nI nl)) C hz x_o zl7 mFX7_27 (by decide) rfl dX7_wipe_1 ?_
  refine lv_istore_n (lv' := [(1, .int (nI nl)), (0, .ref o)]) hx hb dX7_wipe_4 rfl hl (by decide) rfl (fun ls hl => ?_)
  refine lv_aload_n hx hb dX7_wipe_5 rfl (lv_at hl 1 rfl) ?_
  refine lv_iconst (v := 0) hx hb dX7_wipe_6 (by decide) ?_
  refine z_put (fs' := [.ref fa, .ref fi, .ref nu, .int 0, .ref fm, .int (nI nf), .ref co, .int (nI nc), .ref en, .ref ke, .long lk]) C hz hS x_o zl7 mFX7_27 (by decide) rfl rfl rfl (Nat.le_of_ble_eq_true rfl) rfl dX7_wipe_7 (fun H locs f1 a2 k3 hz hS => ?_)
  refine lv_iload_n hx hb dX7_wipe_10 rfl (lv_at hl 0 rfl) ?_
  have a4 : f1 fa = some (.inr (2, [.int u1, .int u2, .int u3, .ref ev])) := (k3 _ (z_ne x_fa x_o rfl)).trans x_fa
  have a5 : f1 ev = some (.inl (cy 0, 8, .inl gv)) := (k3 _ (z_ne x_ev x_o rfl)).trans x_ev
  have a6 : f1 fi = some (.inr (5, [.ref al, .ref ra, .int (nI nn)])) := (k3 _ (z_ne x_fi x_o rfl)).trans x_fi
  have a7 : f1 al = some (.inl (cy 3, 60, .inr (.inr (.inr (.inr ga))))) := (k3 _ (z_ne x_al x_o rfl)).trans x_al
  have a8 : f1 ra = some (.inl (cy 3, 60, .inr (.inr (.inr (.inr gr))))) := (k3 _ (z_ne x_ra x_o rfl)).trans x_ra
  have a9 : f1 nu = some (.inl (cy 0, 12, .inl gu)) := (k3 _ (z_ne x_nu x_o rfl)).trans x_nu
  have a10 : f1 fm = some (.inl (cy 4, 6, .inr (.inr (.inr (.inr gf))))) := (k3 _ (z_ne x_fm x_o rfl)).trans x_fm
  have a11 : f1 co = some (.inl (cy 5, 60, .inr (.inr (.inr (.inr gc))))) := (k3 _ (z_ne x_co x_o rfl)).trans x_co
  have a12 : f1 en = some (.inl (cy 6, 4, .inr (.inr (.inr (.inr ge))))) := (k3 _ (z_ne x_en x_o rfl)).trans x_en
  have a13 : f1 ke = some (.inr (6, [.ref kn, .ref vq, .int (nI ks)])) := (k3 _ (z_ne x_ke x_o rfl)).trans x_ke
  have a14 : f1 kn = some (.inl (cy 0, 40, .inl kk)) := (k3 _ (z_ne x_kn x_o rfl)).trans x_kn
  have a15 : f1 vq = some (.inl (cy 0, 40, .inl kv)) := (k3 _ (z_ne x_vq x_o rfl)).trans x_vq
  have F16 : ∀ i9 : Nat, i9 < nn → f1 (fg i9) = some (.inr (4, [.int (kd i9), .ref (pt i9), .long (wg i9), .int (wd i9), .int (nI i9), .int (hs i9), .int (bf i9)])) := fun i9 h9 => (k3 _ (z_ne (hF i9 h9) x_o rfl)).trans (hF i9 h9)
  have F17 : ∀ i9 : Nat, i9 < nn → f1 (pt i9) = some (.inl (cy 1, (ln i9), .inr (.inl (pp i9)))) := fun i9 h9 => (k3 _ (z_neO (hP i9 h9) x_o rfl)).trans (hP i9 h9)
  have F18 : ∀ i9 : Nat, i9 < nf → f1 (fq i9) = some (.inr (3, [.ref (fk i9), .int (nI (fz i9))])) := fun i9 h9 => (k3 _ (z_ne (hFq i9 h9) x_o rfl)).trans (hFq i9 h9)
  have F19 : ∀ i9 : Nat, i9 < nf → f1 (fk i9) = some (.inl (cy 0, 4, .inl (fc i9))) := fun i9 h9 => (k3 _ (z_ne (hFk i9 h9) x_o rfl)).trans (hFk i9 h9)
  have F20 : ∀ i9 : Nat, i9 < nc → f1 (cn i9) = some (.inr (0, [.int (ce i9), .int (cm i9)])) := fun i9 h9 => (k3 _ (z_ne (hCn i9 h9) x_o rfl)).trans (hCn i9 h9)
  have F21 : ∀ i9 : Nat, i9 < 4 → f1 (ea i9) = some (.inr (1, [.ref (ma i9), .int (nI (sq i9))])) := fun i9 h9 => (k3 _ (z_ne (hEa i9 h9) x_o rfl)).trans (hEa i9 h9)
  have F22 : ∀ i9 : Nat, i9 < 4 → f1 (ma i9) = some (.inl (cy 0, 60, .inl (mb i9))) := fun i9 h9 => (k3 _ (z_ne (hMa i9 h9) x_o rfl)).trans (hMa i9 h9)
  exact z_iret C hr rfl hz hS ⟨u1, u2, u3, gv, 0, gu, nn, ga, gr, fg, pt, kd, ln, pp, wg, wd, hs, bf, nf, gf, fq, fk, fz, fc, nc, gc, cn, ce, cm, sq, mb, ks, kk, kv, lk, rfl, rfl, rfl, rfl, rfl, rfl, rfl, rfl, rfl, rfl, rfl, rfl, rfl, rfl, rfl, rfl, rfl, rfl, rfl, rfl, rfl, rfl, rfl, rfl, rfl, ⟨a2, a4, a5, a6, a7, a8, a9, a10, a11, a12, a13, a14, a15, F16, F17, F18, F19, F20, F21, F22, hn60, (by omega), hf6, hc60, hs40, hga, hgr, hln, hk5, hk4, hfi, hpi, har, hgf, hfz, hgc, hG, hsq, hei, hmi, kne, hca, hcr, hlk⟩⟩ (Nat.le_of_ble_eq_true rfl) (Nat.le_of_ble_eq_true rfl) dX7_wipe_11
abbrev rmX7_oneNan : Room := { frames := 0, cells := 0, slots := 0, locals := 0 }
set_option maxHeartbeats 4000000 in
set_option maxRecDepth 100000 in
theorem k_X7_oneNan (l : Launch) (D : va_G) (cy : Nat → ClassId) (f : zM) (v : Int64)    : zCl l D cy yX7_oneNan cX7_oneNan 3 (Option.some Jvm.ClassFile.FieldType.long) rmX7_oneNan [.long v] f (fun (r : Int64) (f1 : zM) => r = (zcl v) ∧ (∀ (b : Nat) (e : va_E), f b = some e → f1 b = some e)) := by
  intro sz
  refine z_body (by decide +kernel) (Nat.le_of_ble_eq_true rfl) ?_
  intro p e s m below meth c ls C hr hin hsz hz hl
  subst hsz
  have hx := C.1
  have hb := C.2.1
  have hA : ∀ q, s.heap.size ≤ q → zA f s.heap.size q := fun q h => Or.inr h
  have hS : va_S (zA f s.heap.size) s.heap s.heap [] := va_S.rf
  have hl : lv_has ls 3 [(0, .long v)] := hl
  refine lv_lload_n hx hb dX7_oneNan_0 rfl (lv_at hl 0 rfl) ?_
  refine lv_ldc2 (v := 9223372036854775807) hx hb C.2.2.2.1 (C.2.2.2.2.1 _ mKX7_269) dX7_oneNan_1 ?_
  refine lv_land hx hb dX7_oneNan_4 ?_
  refine lv_ldc2 (v := 9218868437227405312) hx hb C.2.2.2.1 (C.2.2.2.2.1 _ mKX7_271) dX7_oneNan_5 ?_
  refine W.lcmp hx hb dX7_oneNan_8 ?_
  refine lv_if_le (tgt := 16) hx hb dX7_oneNan_9 (by decide) (fun c1 => ?_) (fun c1 => ?_)
  · refine lv_iconst (v := 0) hx hb dX7_oneNan_16 (by decide) ?_
    refine lv_istore_n (lv' := [(2, .int 0), (0, .long v)]) hx hb dX7_oneNan_17 rfl hl (by decide) rfl (fun ls hl => ?_)
    refine lv_iload_n hx hb dX7_oneNan_18 rfl (lv_at hl 0 rfl) ?_
    refine lv_if_eq (tgt := 28) hx hb dX7_oneNan_19 (by decide) (fun c2 => ?_) (fun c2 => ?_)
    rotate_left
    · exact absurd c2 (by decide)
    refine lv_lload_n hx hb dX7_oneNan_28 rfl (lv_at hl 1 rfl) ?_
    exact z_lret C hr hz hS ⟨(by simp [zcl, c1, c2]), (fun b e hb => hb)⟩ (Nat.le_of_ble_eq_true rfl) (Nat.le_of_ble_eq_true rfl) dX7_oneNan_29
  · refine lv_iconst (v := 1) hx hb dX7_oneNan_12 (by decide) ?_
    refine lv_goto (tgt := 17) hx hb dX7_oneNan_13 (by decide) ?_
    refine lv_istore_n (lv' := [(2, .int 1), (0, .long v)]) hx hb dX7_oneNan_17 rfl hl (by decide) rfl (fun ls hl => ?_)
    refine lv_iload_n hx hb dX7_oneNan_18 rfl (lv_at hl 0 rfl) ?_
    refine lv_if_eq (tgt := 28) hx hb dX7_oneNan_19 (by decide) (fun c3 => ?_) (fun c3 => ?_)
    · exact absurd c3 (by decide)
    refine lv_ldc2 (v := 9221120237041090560) hx hb C.2.2.2.1 (C.2.2.2.2.1 _ mKX7_273) dX7_oneNan_22 ?_
    refine lv_goto (tgt := 29) hx hb dX7_oneNan_25 (by decide) ?_
    exact z_lret C hr hz hS ⟨(by simp [zcl, c1, c3]), (fun b e hb => hb)⟩ (Nat.le_of_ble_eq_true rfl) (Nat.le_of_ble_eq_true rfl) dX7_oneNan_29
abbrev rmX7_lengthOf : Room := { frames := 0, cells := 0, slots := 0, locals := 0 }
set_option maxHeartbeats 4000000 in
set_option maxRecDepth 100000 in
theorem k_X7_lengthOf (l : Launch) (D : va_G) (cy : Nat → ClassId) (f : zM) (x : Int32) (y : Int32)    : zCl l D cy yX7_lengthOf cX7_lengthOf 2 (Option.some Jvm.ClassFile.FieldType.long) rmX7_lengthOf [.int x, .int y] f (fun (r : Int64) (f1 : zM) => (∀ (b : Nat) (e : va_E), f b = some e → f1 b = some e)) := by
  intro sz
  refine z_body (by decide +kernel) (Nat.le_of_ble_eq_true rfl) ?_
  intro p e s m below meth c ls C hr hin hsz hz hl
  subst hsz
  have hx := C.1
  have hb := C.2.1
  have hA : ∀ q, s.heap.size ≤ q → zA f s.heap.size q := fun q h => Or.inr h
  have hS : va_S (zA f s.heap.size) s.heap s.heap [] := va_S.rf
  have hl : lv_has ls 2 [(0, .int x), (1, .int y)] := hl
  refine lv_iload_n hx hb dX7_lengthOf_0 rfl (lv_at hl 1 rfl) ?_
  refine lv_i2l (v := y.toInt64) hx hb dX7_lengthOf_1 rfl ?_
  refine lv_iload_n hx hb dX7_lengthOf_2 rfl (lv_at hl 0 rfl) ?_
  refine lv_i2l (v := x.toInt64) hx hb dX7_lengthOf_3 rfl ?_
  refine lv_lsub hx hb dX7_lengthOf_4 ?_
  refine lv_lconst (v := 1) hx hb dX7_lengthOf_5 (by decide) ?_
  refine lv_ladd hx hb dX7_lengthOf_6 ?_
  exact z_lret C hr hz hS (fun b e hb => hb) (Nat.le_of_ble_eq_true rfl) (Nat.le_of_ble_eq_true rfl) dX7_lengthOf_7
abbrev rmX7_point : Room := { frames := 6, cells := 2, slots := 9, locals := 140 }
set_option maxHeartbeats 4000000 in
set_option maxRecDepth 100000 in
theorem k_X7_point (l : Launch) (D : va_G) (cy : Nat → ClassId) (f : zM) (o : Nat) (fa : Nat) (fi : Nat) (nu : Nat) (fm : Nat) (co : Nat) (en : Nat) (ke : Nat) (ev : Nat) (al : Nat) (ra : Nat) (kn : Nat) (vq : Nat) (ge : Nat → Option Nat) (ea : Nat → Nat) (ma : Nat → Nat) (u1 : Int32) (u2 : Int32) (u3 : Int32) (gv : Nat → Int32) (nl : Nat) (gu : Nat → Int32) (nn : Nat) (ga : Nat → Option Nat) (gr : Nat → Option Nat) (fg : Nat → Nat) (pt : Nat → Nat) (kd : Nat → Int32) (ln : Nat → Nat) (pp : Nat → Nat → Int64) (wg : Nat → Int64) (wd : Nat → Int32) (hs : Nat → Int32) (bf : Nat → Int32) (nf : Nat) (gf : Nat → Option Nat) (fq : Nat → Nat) (fk : Nat → Nat) (fz : Nat → Nat) (fc : Nat → Nat → Int32) (nc : Nat) (gc : Nat → Option Nat) (cn : Nat → Nat) (ce : Nat → Int32) (cm : Nat → Int32) (sq : Nat → Nat) (mb : Nat → Nat → Int32) (ks : Nat) (kk : Nat → Int32) (kv : Nat → Int32) (lk : Int64) (x : Int64) (y : Int64)    (hI : zIX cy f o fa fi nu fm co en ke ev al ra kn vq ge ea ma u1 u2 u3 gv nl gu nn ga gr fg pt kd ln pp wg wd hs bf nf gf fq fk fz fc nc gc cn ce cm sq mb ks kk kv lk) : zCi l D cy yX7_point cX7_point 5 (Option.some Jvm.ClassFile.FieldType.int) rmX7_point [.ref o, .long x, .long y] f (fun (r : Int32) (f1 : zM) => ∃ (u11 : Int32) (u21 : Int32) (u31 : Int32) (gv1 : Nat → Int32) (nl1 : Nat) (gu1 : Nat → Int32) (nn1 : Nat) (ga1 : Nat → Option Nat) (gr1 : Nat → Option Nat) (fg1 : Nat → Nat) (pt1 : Nat → Nat) (kd1 : Nat → Int32) (ln1 : Nat → Nat) (pp1 : Nat → Nat → Int64) (wg1 : Nat → Int64) (wd1 : Nat → Int32) (hs1 : Nat → Int32) (bf1 : Nat → Int32) (nf1 : Nat) (gf1 : Nat → Option Nat) (fq1 : Nat → Nat) (fk1 : Nat → Nat) (fz1 : Nat → Nat) (fc1 : Nat → Nat → Int32) (nc1 : Nat) (gc1 : Nat → Option Nat) (cn1 : Nat → Nat) (ce1 : Nat → Int32) (cm1 : Nat → Int32) (sq1 : Nat → Nat) (mb1 : Nat → Nat → Int32) (ks1 : Nat) (kk1 : Nat → Int32) (kv1 : Nat → Int32) (lk1 : Int64), r = ((q_point nn).1) ∧ (u11 = (q_point nn).2.1) ∧ (u21 = (q_point nn).2.2.1) ∧ (u31 = (q_point nn).2.2.2) ∧ (gv1 = zEV gv (q_point nn).2.1) ∧ (nl1 = nl) ∧ (gu1 = gu) ∧ (nn1 = if 0 ≤ r then nn + 1 else nn) ∧ (kd1 = if 0 ≤ r then va_up kd nn 0 else kd) ∧ (ln1 = if 0 ≤ r then va_up ln nn (2) else ln) ∧ (zPP nn (0 ≤ r) (2) (q2 (zcl x) (zcl y)) pp pp1) ∧ (wd1 = if 0 ≤ r then va_up wd nn 0 else wd) ∧ (hs1 = if 0 ≤ r then va_up hs nn (zHash 0 nn (2) (q2 (zcl x) (zcl y)) hs) else hs) ∧ (nf1 = nf) ∧ (fz1 = fz) ∧ (fc1 = fc) ∧ (nc1 = nc) ∧ (ce1 = ce) ∧ (cm1 = cm) ∧ (sq1 = sq) ∧ (mb1 = mb) ∧ (ks1 = ks) ∧ (kk1 = kk) ∧ (kv1 = kv) ∧ (lk1 = lk) ∧ zIX cy f1 o fa fi nu fm co en ke ev al ra kn vq ge ea ma u11 u21 u31 gv1 nl1 gu1 nn1 ga1 gr1 fg1 pt1 kd1 ln1 pp1 wg1 wd1 hs1 bf1 nf1 gf1 fq1 fk1 fz1 fc1 nc1 gc1 cn1 ce1 cm1 sq1 mb1 ks1 kk1 kv1 lk1) := by
  intro sz
  refine z_body (by decide +kernel) (Nat.le_of_ble_eq_true rfl) ?_
  intro p e s m below meth c ls C hr hin hsz hz hl
  subst hsz
  have hx := C.1
  have hb := C.2.1
  have hA : ∀ q, s.heap.size ≤ q → zA f s.heap.size q := fun q h => Or.inr h
  have hS : va_S (zA f s.heap.size) s.heap s.heap [] := va_S.rf
  have hl : lv_has ls 5 [(0, .ref o), (1, .long x), (3, .long y)] := hl
  obtain ⟨x_o, x_fa, x_ev, x_fi, x_al, x_ra, x_nu, x_fm, x_co, x_en, x_ke, x_kn, x_vq, hF, hP, hFq, hFk, hCn, hEa, hMa, hn60, hl12, hf6, hc60, hs40, hga, hgr, hln, hk5, hk4, hfi, hpi, har, hgf, hfz, hgc, hG, hsq, hei, hmi, kne, hca, hcr, hlk⟩ := id hI
  refine lv_aload_n hx hb dX7_point_0 rfl (lv_at hl 0 rfl) ?_
  refine z_get (v := .ref fa) C hz x_o zl7 mFX7_10 (by decide) rfl dX7_point_1 ?_
  refine z_callVv (As := []) C hz hS hA hl (k_X2_none l D cy f fa u1 u2 u3 ev x_fa ) zyX2_none mMX7_76 x_fa zl2 rfl rfl (Nat.le_of_ble_eq_true rfl) ⟨Nat.le_of_ble_eq_true rfl, Nat.le_of_ble_eq_true rfl⟩ ⟨Nat.le_of_ble_eq_true rfl, Nat.le_of_ble_eq_true rfl⟩ dX7_point_4 (fun  f1 H locs h2 hz hS => ?_)
  obtain ⟨a3, k4⟩ := h2
  refine lv_aload_n hx hb dX7_point_7 rfl (lv_at hl 0 rfl) ?_
  have a5 : f1 o = some (.inr (7, [.ref fa, .ref fi, .ref nu, .int (nI nl), .ref fm, .int (nI nf), .ref co, .int (nI nc), .ref en, .ref ke, .long lk])) := k4 _ _ x_o (z_ne x_o x_fa rfl)
  refine z_get (v := .ref fi) C hz a5 zl7 mFX7_19 (by decide) rfl dX7_point_8 ?_
  by_cases h60 : nn < 60
  · have a6 : f1 fi = some (.inr (5, [.ref al, .ref ra, .int (nI nn)])) := k4 _ _ x_fi (z_ne x_fi x_fa rfl)
    refine z_callVi (As := []) C hz hS hA hl (k_X5_isFull_A l D cy f1 fi al ra nn a6 hn60 h60) zyX5_isFull mMX7_79 a6 zl5 rfl rfl (Nat.le_of_ble_eq_true rfl) ⟨Nat.le_of_ble_eq_true rfl, Nat.le_of_ble_eq_true rfl⟩ ⟨Nat.le_of_ble_eq_true rfl, Nat.le_of_ble_eq_true rfl⟩ dX7_point_11 (fun r f7 H locs h8 hz hS => ?_)
    obtain ⟨rfl, k9⟩ := h8
    refine lv_if_eq (tgt := 20) hx hb dX7_point_14 (by decide) (fun c10 => ?_) (fun c10 => ?_)
    rotate_left
    · exact absurd c10 (by decide)
    refine lv_aload_n hx hb dX7_point_20 rfl (lv_at hl 0 rfl) ?_
    have a11 : f7 o = some (.inr (7, [.ref fa, .ref fi, .ref nu, .int (nI nl), .ref fm, .int (nI nf), .ref co, .int (nI nc), .ref en, .ref ke, .long lk])) := k9 _ _ a5 
    refine z_get (v := .ref fi) C hz a11 zl7 mFX7_19 (by decide) rfl dX7_point_21 ?_
    refine z_new (fs := [.int 0, .null, .long 0, .int 0, .int 0, .int 0, .int 0]) C hz hS hA zl4 mLX7_83 mIa_RX4 mIn_RX4 (by decide +kernel) (Nat.le_of_ble_eq_true rfl) (Nat.le_of_ble_eq_true rfl) dX7_point_24 (fun q12 H f14 u13 a15 k16 hz hS => ?_)
    refine lv_dup hx hb dX7_point_27 rfl ?_
    refine lv_iconst (v := 0) hx hb dX7_point_28 (by decide) ?_
    refine lv_iconst (v := 2) hx hb dX7_point_29 (by decide) ?_
    refine z_newa (atype := .long) (t0 := 1) (N' := 2) (x := (.inr (.inl (fun _ => 0)))) C hz hS hA rfl mA_long rfl (fun _ => rfl) (by decide) (Nat.le_of_ble_eq_true rfl) (by decide) (Nat.le_of_ble_eq_true rfl) (Nat.le_of_ble_eq_true rfl) dX7_point_30 (fun q17 H f19 u18 a20 k21 hz hS => ?_)
    refine lv_dup hx hb dX7_point_32 rfl ?_
    refine lv_iconst (v := 0) hx hb dX7_point_33 (by decide) ?_
    refine lv_lload_n hx hb dX7_point_34 rfl (lv_at hl 1 rfl) ?_
    refine z_callSl (As := [.long x]) C hz hS hA hl (k_X7_oneNan l D cy f19 x  ) zyX7_oneNan mMX7_85 rfl rfl (Nat.le_of_ble_eq_true rfl) ⟨Nat.le_of_ble_eq_true rfl, Nat.le_of_ble_eq_true rfl⟩ ⟨Nat.le_of_ble_eq_true rfl, Nat.le_of_ble_eq_true rfl⟩ dX7_point_35 (fun r f22 H locs h23 hz hS => ?_)
    obtain ⟨rfl, k24⟩ := h23
    have a25 : f22 q17 = some (.inl (cy 1, 2, .inr (.inl (fun _ => 0)))) := k24 _ _ a20 
    refine z_last 0 C hz hS a25 (by decide) (Nat.le_of_ble_eq_true rfl) (by omega) dX7_point_38 (fun H locs f26 a27 k28 hz hS => ?_)
    refine lv_dup hx hb dX7_point_39 rfl ?_
    refine lv_iconst (v := 1) hx hb dX7_point_40 (by decide) ?_
    refine lv_lload_n hx hb dX7_point_41 rfl (lv_at hl 2 rfl) ?_
    refine z_callSl (As := [.long y]) C hz hS hA hl (k_X7_oneNan l D cy f26 y  ) zyX7_oneNan mMX7_85 rfl rfl (Nat.le_of_ble_eq_true rfl) ⟨Nat.le_of_ble_eq_true rfl, Nat.le_of_ble_eq_true rfl⟩ ⟨Nat.le_of_ble_eq_true rfl, Nat.le_of_ble_eq_true rfl⟩ dX7_point_42 (fun r f29 H locs h30 hz hS => ?_)
    obtain ⟨rfl, k31⟩ := h30
    have a32 : f29 q17 = some (.inl (cy 1, 2, .inr (.inl (vp_updL (fun _ => 0) 0 (zcl x))))) := k31 _ _ a27 
    refine z_last 1 C hz hS a32 (by decide) (Nat.le_of_ble_eq_true rfl) (by omega) dX7_point_45 (fun H locs f33 a34 k35 hz hS => ?_)
    refine lv_lconst (v := 1) hx hb dX7_point_46 (by decide) ?_
    have a36 : f19 q12 = some (.inr (4, [.int 0, .null, .long 0, .int 0, .int 0, .int 0, .int 0])) := (k21 _ (z_nn u18 a15)).trans a15
    have a37 : f22 q12 = some (.inr (4, [.int 0, .null, .long 0, .int 0, .int 0, .int 0, .int 0])) := k24 _ _ a36 
    have a38 : f26 q12 = some (.inr (4, [.int 0, .null, .long 0, .int 0, .int 0, .int 0, .int 0])) := (k28 _ (z_nn u18 a15)).trans a37
    have a39 : f29 q12 = some (.inr (4, [.int 0, .null, .long 0, .int 0, .int 0, .int 0, .int 0])) := k31 _ _ a38 
    have a40 : f33 q12 = some (.inr (4, [.int 0, .null, .long 0, .int 0, .int 0, .int 0, .int 0])) := (k35 _ (z_nn u18 a15)).trans a39
    refine z_callIv (ret := none) (As := [.int 0, .ref q17, .long 1]) C hz hS hA hl (k_X4_init l D cy f33 q12 0 q17 1 a40 ) zyX4_init mMX7_89 rfl rfl (Nat.le_of_ble_eq_true rfl) ⟨Nat.le_of_ble_eq_true rfl, Nat.le_of_ble_eq_true rfl⟩ ⟨Nat.le_of_ble_eq_true rfl, Nat.le_of_ble_eq_true rfl⟩ dX7_point_47 (fun  f41 H locs h42 hz hS => ?_)
    obtain ⟨a43, k44⟩ := h42
    have a45 : f7 fi = some (.inr (5, [.ref al, .ref ra, .int (nI nn)])) := k9 _ _ a6 
    have a46 : f14 fi = some (.inr (5, [.ref al, .ref ra, .int (nI nn)])) := (k16 _ (z_nn u13 a45)).trans a45
    have a47 : f19 fi = some (.inr (5, [.ref al, .ref ra, .int (nI nn)])) := (k21 _ (z_nn u18 a46)).trans a46
    have a48 : f22 fi = some (.inr (5, [.ref al, .ref ra, .int (nI nn)])) := k24 _ _ a47 
    have a49 : f26 fi = some (.inr (5, [.ref al, .ref ra, .int (nI nn)])) := (k28 _ (z_nn u18 a46)).trans a48
    have a50 : f29 fi = some (.inr (5, [.ref al, .ref ra, .int (nI nn)])) := k31 _ _ a49 
    have a51 : f33 fi = some (.inr (5, [.ref al, .ref ra, .int (nI nn)])) := (k35 _ (z_nn u18 a46)).trans a50
    have a52 : f41 fi = some (.inr (5, [.ref al, .ref ra, .int (nI nn)])) := k44 _ _ a51 (z_nn u13 a45)
    have a53 : f1 al = some (.inl (cy 3, 60, .inr (.inr (.inr (.inr ga))))) := k4 _ _ x_al (z_ne x_al x_fa rfl)
    have a54 : f7 al = some (.inl (cy 3, 60, .inr (.inr (.inr (.inr ga))))) := k9 _ _ a53 
    have a55 : f14 al = some (.inl (cy 3, 60, .inr (.inr (.inr (.inr ga))))) := (k16 _ (z_nn u13 a54)).trans a54
    have a56 : f19 al = some (.inl (cy 3, 60, .inr (.inr (.inr (.inr ga))))) := (k21 _ (z_nn u18 a55)).trans a55
    have a57 : f22 al = some (.inl (cy 3, 60, .inr (.inr (.inr (.inr ga))))) := k24 _ _ a56 
    have a58 : f26 al = some (.inl (cy 3, 60, .inr (.inr (.inr (.inr ga))))) := (k28 _ (z_nn u18 a55)).trans a57
    have a59 : f29 al = some (.inl (cy 3, 60, .inr (.inr (.inr (.inr ga))))) := k31 _ _ a58 
    have a60 : f33 al = some (.inl (cy 3, 60, .inr (.inr (.inr (.inr ga))))) := (k35 _ (z_nn u18 a55)).trans a59
    have a61 : f41 al = some (.inl (cy 3, 60, .inr (.inr (.inr (.inr ga))))) := k44 _ _ a60 (z_nn u13 a54)
    have a62 : f1 ra = some (.inl (cy 3, 60, .inr (.inr (.inr (.inr gr))))) := k4 _ _ x_ra (z_ne x_ra x_fa rfl)
    have a63 : f7 ra = some (.inl (cy 3, 60, .inr (.inr (.inr (.inr gr))))) := k9 _ _ a62 
    have a64 : f14 ra = some (.inl (cy 3, 60, .inr (.inr (.inr (.inr gr))))) := (k16 _ (z_nn u13 a63)).trans a63
    have a65 : f19 ra = some (.inl (cy 3, 60, .inr (.inr (.inr (.inr gr))))) := (k21 _ (z_nn u18 a64)).trans a64
    have a66 : f22 ra = some (.inl (cy 3, 60, .inr (.inr (.inr (.inr gr))))) := k24 _ _ a65 
    have a67 : f26 ra = some (.inl (cy 3, 60, .inr (.inr (.inr (.inr gr))))) := (k28 _ (z_nn u18 a64)).trans a66
    have a68 : f29 ra = some (.inl (cy 3, 60, .inr (.inr (.inr (.inr gr))))) := k31 _ _ a67 
    have a69 : f33 ra = some (.inl (cy 3, 60, .inr (.inr (.inr (.inr gr))))) := (k35 _ (z_nn u18 a64)).trans a68
    have a70 : f41 ra = some (.inl (cy 3, 60, .inr (.inr (.inr (.inr gr))))) := k44 _ _ a69 (z_nn u13 a63)
    have a71 : f41 q17 = some (.inl (cy 1, 2, .inr (.inl (vp_updL (vp_updL (fun _ => 0) 0 (zcl x)) 1 (zcl y))))) := k44 _ _ a34 (Ne.symm (z_nn u18 a15))
    have F72 : ∀ i9 : Nat, i9 < nn → f1 (fg i9) = some (.inr (4, [.int (kd i9), .ref (pt i9), .long (wg i9), .int (wd i9), .int (nI i9), .int (hs i9), .int (bf i9)])) := fun i9 h9 => k4 _ _ (hF i9 h9) (z_ne (hF i9 h9) x_fa rfl)
    have F73 : ∀ i9 : Nat, i9 < nn → f7 (fg i9) = some (.inr (4, [.int (kd i9), .ref (pt i9), .long (wg i9), .int (wd i9), .int (nI i9), .int (hs i9), .int (bf i9)])) := fun i9 h9 => k9 _ _ (F72 i9 h9) 
    have F74 : ∀ i9 : Nat, i9 < nn → f14 (fg i9) = some (.inr (4, [.int (kd i9), .ref (pt i9), .long (wg i9), .int (wd i9), .int (nI i9), .int (hs i9), .int (bf i9)])) := fun i9 h9 => (k16 _ (z_nn u13 (F73 i9 h9))).trans (F73 i9 h9)
    have F75 : ∀ i9 : Nat, i9 < nn → f19 (fg i9) = some (.inr (4, [.int (kd i9), .ref (pt i9), .long (wg i9), .int (wd i9), .int (nI i9), .int (hs i9), .int (bf i9)])) := fun i9 h9 => (k21 _ (z_nn u18 (F74 i9 h9))).trans (F74 i9 h9)
    have F76 : ∀ i9 : Nat, i9 < nn → f22 (fg i9) = some (.inr (4, [.int (kd i9), .ref (pt i9), .long (wg i9), .int (wd i9), .int (nI i9), .int (hs i9), .int (bf i9)])) := fun i9 h9 => k24 _ _ (F75 i9 h9) 
    have F77 : ∀ i9 : Nat, i9 < nn → f26 (fg i9) = some (.inr (4, [.int (kd i9), .ref (pt i9), .long (wg i9), .int (wd i9), .int (nI i9), .int (hs i9), .int (bf i9)])) := fun i9 h9 => (k28 _ (z_nn u18 (F74 i9 h9))).trans (F76 i9 h9)
    have F78 : ∀ i9 : Nat, i9 < nn → f29 (fg i9) = some (.inr (4, [.int (kd i9), .ref (pt i9), .long (wg i9), .int (wd i9), .int (nI i9), .int (hs i9), .int (bf i9)])) := fun i9 h9 => k31 _ _ (F77 i9 h9) 
    have F79 : ∀ i9 : Nat, i9 < nn → f33 (fg i9) = some (.inr (4, [.int (kd i9), .ref (pt i9), .long (wg i9), .int (wd i9), .int (nI i9), .int (hs i9), .int (bf i9)])) := fun i9 h9 => (k35 _ (z_nn u18 (F74 i9 h9))).trans (F78 i9 h9)
    have F80 : ∀ i9 : Nat, i9 < nn → f41 (fg i9) = some (.inr (4, [.int (kd i9), .ref (pt i9), .long (wg i9), .int (wd i9), .int (nI i9), .int (hs i9), .int (bf i9)])) := fun i9 h9 => k44 _ _ (F79 i9 h9) (z_nn u13 (F73 i9 h9))
    have F81 : ∀ i9 : Nat, i9 < nn → f1 (pt i9) = some (.inl (cy 1, (ln i9), .inr (.inl (pp i9)))) := fun i9 h9 => k4 _ _ (hP i9 h9) (z_neO (hP i9 h9) x_fa rfl)
    have F82 : ∀ i9 : Nat, i9 < nn → f7 (pt i9) = some (.inl (cy 1, (ln i9), .inr (.inl (pp i9)))) := fun i9 h9 => k9 _ _ (F81 i9 h9) 
    have F83 : ∀ i9 : Nat, i9 < nn → f14 (pt i9) = some (.inl (cy 1, (ln i9), .inr (.inl (pp i9)))) := fun i9 h9 => (k16 _ (z_nn u13 (F82 i9 h9))).trans (F82 i9 h9)
    have F84 : ∀ i9 : Nat, i9 < nn → f19 (pt i9) = some (.inl (cy 1, (ln i9), .inr (.inl (pp i9)))) := fun i9 h9 => (k21 _ (z_nn u18 (F83 i9 h9))).trans (F83 i9 h9)
    have F85 : ∀ i9 : Nat, i9 < nn → f22 (pt i9) = some (.inl (cy 1, (ln i9), .inr (.inl (pp i9)))) := fun i9 h9 => k24 _ _ (F84 i9 h9) 
    have F86 : ∀ i9 : Nat, i9 < nn → f26 (pt i9) = some (.inl (cy 1, (ln i9), .inr (.inl (pp i9)))) := fun i9 h9 => (k28 _ (z_nn u18 (F83 i9 h9))).trans (F85 i9 h9)
    have F87 : ∀ i9 : Nat, i9 < nn → f29 (pt i9) = some (.inl (cy 1, (ln i9), .inr (.inl (pp i9)))) := fun i9 h9 => k31 _ _ (F86 i9 h9) 
    have F88 : ∀ i9 : Nat, i9 < nn → f33 (pt i9) = some (.inl (cy 1, (ln i9), .inr (.inl (pp i9)))) := fun i9 h9 => (k35 _ (z_nn u18 (F83 i9 h9))).trans (F87 i9 h9)
    have F89 : ∀ i9 : Nat, i9 < nn → f41 (pt i9) = some (.inl (cy 1, (ln i9), .inr (.inl (pp i9)))) := fun i9 h9 => k44 _ _ (F88 i9 h9) (z_nn u13 (F82 i9 h9))
    refine z_callVi (As := [.ref q12]) C hz hS hA hl (k_X5_add l D cy f41 fi al ra ga gr nn fg pt kd ln pp wg wd hs bf q12 0 q17 1 0 (-1) 0 0 2 (vp_updL (vp_updL (fun _ => 0) 0 (zcl x)) 1 (zcl y)) a52 a61 a70 a43 a71 F80 F89 h60 hga hgr hln hk5 hfi (fun j9 h9 => z_nn u13 (F73 j9 h9)) (by omega) (fun h9 => absurd h9 (by decide)) har (fun h9 => absurd h9 (by decide))) zyX5_add mMX7_92 a52 zl5 rfl rfl (Nat.le_of_ble_eq_true rfl) ⟨Nat.le_of_ble_eq_true rfl, Nat.le_of_ble_eq_true rfl⟩ ⟨Nat.le_of_ble_eq_true rfl, Nat.le_of_ble_eq_true rfl⟩ dX7_point_50 (fun r f90 H locs h91 hz hS => ?_)
    obtain ⟨hq_92, bq_93, gr_94, bf_95, rfl, p96, p97, a98, a99, a100, F101, F102, k103⟩ := h91
    have a104 : f14 o = some (.inr (7, [.ref fa, .ref fi, .ref nu, .int (nI nl), .ref fm, .int (nI nf), .ref co, .int (nI nc), .ref en, .ref ke, .long lk])) := (k16 _ (z_nn u13 a11)).trans a11
    have a105 : f19 o = some (.inr (7, [.ref fa, .ref fi, .ref nu, .int (nI nl), .ref fm, .int (nI nf), .ref co, .int (nI nc), .ref en, .ref ke, .long lk])) := (k21 _ (z_nn u18 a104)).trans a104
    have a106 : f22 o = some (.inr (7, [.ref fa, .ref fi, .ref nu, .int (nI nl), .ref fm, .int (nI nf), .ref co, .int (nI nc), .ref en, .ref ke, .long lk])) := k24 _ _ a105 
    have a107 : f26 o = some (.inr (7, [.ref fa, .ref fi, .ref nu, .int (nI nl), .ref fm, .int (nI nf), .ref co, .int (nI nc), .ref en, .ref ke, .long lk])) := (k28 _ (z_nn u18 a104)).trans a106
    have a108 : f29 o = some (.inr (7, [.ref fa, .ref fi, .ref nu, .int (nI nl), .ref fm, .int (nI nf), .ref co, .int (nI nc), .ref en, .ref ke, .long lk])) := k31 _ _ a107 
    have a109 : f33 o = some (.inr (7, [.ref fa, .ref fi, .ref nu, .int (nI nl), .ref fm, .int (nI nf), .ref co, .int (nI nc), .ref en, .ref ke, .long lk])) := (k35 _ (z_nn u18 a104)).trans a108
    have a110 : f41 o = some (.inr (7, [.ref fa, .ref fi, .ref nu, .int (nI nl), .ref fm, .int (nI nf), .ref co, .int (nI nc), .ref en, .ref ke, .long lk])) := k44 _ _ a109 (z_nn u13 a11)
    have a111 : f90 o = some (.inr (7, [.ref fa, .ref fi, .ref nu, .int (nI nl), .ref fm, .int (nI nf), .ref co, .int (nI nc), .ref en, .ref ke, .long lk])) := k103 _ _ a110 (z_ne a110 a52 rfl) (z_ne a110 a61 rfl) (z_ne a110 a70 rfl) (z_nn u13 a11) (fun j9 h8 => (z_ne a110 (F80 j9 h8) rfl))
    have a112 : f7 fa = some (.inr (2, [.int 0, .int (-1), .int 0, .ref ev])) := k9 _ _ a3 
    have a113 : f14 fa = some (.inr (2, [.int 0, .int (-1), .int 0, .ref ev])) := (k16 _ (z_nn u13 a112)).trans a112
    have a114 : f19 fa = some (.inr (2, [.int 0, .int (-1), .int 0, .ref ev])) := (k21 _ (z_nn u18 a113)).trans a113
    have a115 : f22 fa = some (.inr (2, [.int 0, .int (-1), .int 0, .ref ev])) := k24 _ _ a114 
    have a116 : f26 fa = some (.inr (2, [.int 0, .int (-1), .int 0, .ref ev])) := (k28 _ (z_nn u18 a113)).trans a115
    have a117 : f29 fa = some (.inr (2, [.int 0, .int (-1), .int 0, .ref ev])) := k31 _ _ a116 
    have a118 : f33 fa = some (.inr (2, [.int 0, .int (-1), .int 0, .ref ev])) := (k35 _ (z_nn u18 a113)).trans a117
    have a119 : f41 fa = some (.inr (2, [.int 0, .int (-1), .int 0, .ref ev])) := k44 _ _ a118 (z_nn u13 a112)
    have a120 : f90 fa = some (.inr (2, [.int 0, .int (-1), .int 0, .ref ev])) := k103 _ _ a119 (z_ne a119 a52 rfl) (z_ne a119 a61 rfl) (z_ne a119 a70 rfl) (z_nn u13 a112) (fun j9 h8 => (z_ne a119 (F80 j9 h8) rfl))
    have a121 : f1 ev = some (.inl (cy 0, 8, .inl gv)) := k4 _ _ x_ev (z_ne x_ev x_fa rfl)
    have a122 : f7 ev = some (.inl (cy 0, 8, .inl gv)) := k9 _ _ a121 
    have a123 : f14 ev = some (.inl (cy 0, 8, .inl gv)) := (k16 _ (z_nn u13 a122)).trans a122
    have a124 : f19 ev = some (.inl (cy 0, 8, .inl gv)) := (k21 _ (z_nn u18 a123)).trans a123
    have a125 : f22 ev = some (.inl (cy 0, 8, .inl gv)) := k24 _ _ a124 
    have a126 : f26 ev = some (.inl (cy 0, 8, .inl gv)) := (k28 _ (z_nn u18 a123)).trans a125
    have a127 : f29 ev = some (.inl (cy 0, 8, .inl gv)) := k31 _ _ a126 
    have a128 : f33 ev = some (.inl (cy 0, 8, .inl gv)) := (k35 _ (z_nn u18 a123)).trans a127
    have a129 : f41 ev = some (.inl (cy 0, 8, .inl gv)) := k44 _ _ a128 (z_nn u13 a122)
    have a130 : f90 ev = some (.inl (cy 0, 8, .inl gv)) := k103 _ _ a129 (z_ne a129 a52 rfl) (z_ne a129 a61 rfl) (z_ne a129 a70 rfl) (z_nn u13 a122) (fun j9 h8 => (z_ne a129 (F80 j9 h8) rfl))
    have a131 : f1 nu = some (.inl (cy 0, 12, .inl gu)) := k4 _ _ x_nu (z_ne x_nu x_fa rfl)
    have a132 : f7 nu = some (.inl (cy 0, 12, .inl gu)) := k9 _ _ a131 
    have a133 : f14 nu = some (.inl (cy 0, 12, .inl gu)) := (k16 _ (z_nn u13 a132)).trans a132
    have a134 : f19 nu = some (.inl (cy 0, 12, .inl gu)) := (k21 _ (z_nn u18 a133)).trans a133
    have a135 : f22 nu = some (.inl (cy 0, 12, .inl gu)) := k24 _ _ a134 
    have a136 : f26 nu = some (.inl (cy 0, 12, .inl gu)) := (k28 _ (z_nn u18 a133)).trans a135
    have a137 : f29 nu = some (.inl (cy 0, 12, .inl gu)) := k31 _ _ a136 
    have a138 : f33 nu = some (.inl (cy 0, 12, .inl gu)) := (k35 _ (z_nn u18 a133)).trans a137
    have a139 : f41 nu = some (.inl (cy 0, 12, .inl gu)) := k44 _ _ a138 (z_nn u13 a132)
    have a140 : f90 nu = some (.inl (cy 0, 12, .inl gu)) := k103 _ _ a139 (z_ne a139 a52 rfl) (z_ne a139 a61 rfl) (z_ne a139 a70 rfl) (z_nn u13 a132) (fun j9 h8 => (z_ne a139 (F80 j9 h8) rfl))
    have a141 : f1 fm = some (.inl (cy 4, 6, .inr (.inr (.inr (.inr gf))))) := k4 _ _ x_fm (z_ne x_fm x_fa rfl)
    have a142 : f7 fm = some (.inl (cy 4, 6, .inr (.inr (.inr (.inr gf))))) := k9 _ _ a141 
    have a143 : f14 fm = some (.inl (cy 4, 6, .inr (.inr (.inr (.inr gf))))) := (k16 _ (z_nn u13 a142)).trans a142
    have a144 : f19 fm = some (.inl (cy 4, 6, .inr (.inr (.inr (.inr gf))))) := (k21 _ (z_nn u18 a143)).trans a143
    have a145 : f22 fm = some (.inl (cy 4, 6, .inr (.inr (.inr (.inr gf))))) := k24 _ _ a144 
    have a146 : f26 fm = some (.inl (cy 4, 6, .inr (.inr (.inr (.inr gf))))) := (k28 _ (z_nn u18 a143)).trans a145
    have a147 : f29 fm = some (.inl (cy 4, 6, .inr (.inr (.inr (.inr gf))))) := k31 _ _ a146 
    have a148 : f33 fm = some (.inl (cy 4, 6, .inr (.inr (.inr (.inr gf))))) := (k35 _ (z_nn u18 a143)).trans a147
    have a149 : f41 fm = some (.inl (cy 4, 6, .inr (.inr (.inr (.inr gf))))) := k44 _ _ a148 (z_nn u13 a142)
    have a150 : f90 fm = some (.inl (cy 4, 6, .inr (.inr (.inr (.inr gf))))) := k103 _ _ a149 (z_ne a149 a52 rfl) (z_ne a149 a61 rfl) (z_ne a149 a70 rfl) (z_nn u13 a142) (fun j9 h8 => (z_ne a149 (F80 j9 h8) rfl))
    have a151 : f1 co = some (.inl (cy 5, 60, .inr (.inr (.inr (.inr gc))))) := k4 _ _ x_co (z_ne x_co x_fa rfl)
    have a152 : f7 co = some (.inl (cy 5, 60, .inr (.inr (.inr (.inr gc))))) := k9 _ _ a151 
    have a153 : f14 co = some (.inl (cy 5, 60, .inr (.inr (.inr (.inr gc))))) := (k16 _ (z_nn u13 a152)).trans a152
    have a154 : f19 co = some (.inl (cy 5, 60, .inr (.inr (.inr (.inr gc))))) := (k21 _ (z_nn u18 a153)).trans a153
    have a155 : f22 co = some (.inl (cy 5, 60, .inr (.inr (.inr (.inr gc))))) := k24 _ _ a154 
    have a156 : f26 co = some (.inl (cy 5, 60, .inr (.inr (.inr (.inr gc))))) := (k28 _ (z_nn u18 a153)).trans a155
    have a157 : f29 co = some (.inl (cy 5, 60, .inr (.inr (.inr (.inr gc))))) := k31 _ _ a156 
    have a158 : f33 co = some (.inl (cy 5, 60, .inr (.inr (.inr (.inr gc))))) := (k35 _ (z_nn u18 a153)).trans a157
    have a159 : f41 co = some (.inl (cy 5, 60, .inr (.inr (.inr (.inr gc))))) := k44 _ _ a158 (z_nn u13 a152)
    have a160 : f90 co = some (.inl (cy 5, 60, .inr (.inr (.inr (.inr gc))))) := k103 _ _ a159 (z_ne a159 a52 rfl) hca hcr (z_nn u13 a152) (fun j9 h8 => (z_ne a159 (F80 j9 h8) rfl))
    have a161 : f1 en = some (.inl (cy 6, 4, .inr (.inr (.inr (.inr ge))))) := k4 _ _ x_en (z_ne x_en x_fa rfl)
    have a162 : f7 en = some (.inl (cy 6, 4, .inr (.inr (.inr (.inr ge))))) := k9 _ _ a161 
    have a163 : f14 en = some (.inl (cy 6, 4, .inr (.inr (.inr (.inr ge))))) := (k16 _ (z_nn u13 a162)).trans a162
    have a164 : f19 en = some (.inl (cy 6, 4, .inr (.inr (.inr (.inr ge))))) := (k21 _ (z_nn u18 a163)).trans a163
    have a165 : f22 en = some (.inl (cy 6, 4, .inr (.inr (.inr (.inr ge))))) := k24 _ _ a164 
    have a166 : f26 en = some (.inl (cy 6, 4, .inr (.inr (.inr (.inr ge))))) := (k28 _ (z_nn u18 a163)).trans a165
    have a167 : f29 en = some (.inl (cy 6, 4, .inr (.inr (.inr (.inr ge))))) := k31 _ _ a166 
    have a168 : f33 en = some (.inl (cy 6, 4, .inr (.inr (.inr (.inr ge))))) := (k35 _ (z_nn u18 a163)).trans a167
    have a169 : f41 en = some (.inl (cy 6, 4, .inr (.inr (.inr (.inr ge))))) := k44 _ _ a168 (z_nn u13 a162)
    have a170 : f90 en = some (.inl (cy 6, 4, .inr (.inr (.inr (.inr ge))))) := k103 _ _ a169 (z_ne a169 a52 rfl) (z_ne a169 a61 rfl) (z_ne a169 a70 rfl) (z_nn u13 a162) (fun j9 h8 => (z_ne a169 (F80 j9 h8) rfl))
    have a171 : f1 ke = some (.inr (6, [.ref kn, .ref vq, .int (nI ks)])) := k4 _ _ x_ke (z_ne x_ke x_fa rfl)
    have a172 : f7 ke = some (.inr (6, [.ref kn, .ref vq, .int (nI ks)])) := k9 _ _ a171 
    have a173 : f14 ke = some (.inr (6, [.ref kn, .ref vq, .int (nI ks)])) := (k16 _ (z_nn u13 a172)).trans a172
    have a174 : f19 ke = some (.inr (6, [.ref kn, .ref vq, .int (nI ks)])) := (k21 _ (z_nn u18 a173)).trans a173
    have a175 : f22 ke = some (.inr (6, [.ref kn, .ref vq, .int (nI ks)])) := k24 _ _ a174 
    have a176 : f26 ke = some (.inr (6, [.ref kn, .ref vq, .int (nI ks)])) := (k28 _ (z_nn u18 a173)).trans a175
    have a177 : f29 ke = some (.inr (6, [.ref kn, .ref vq, .int (nI ks)])) := k31 _ _ a176 
    have a178 : f33 ke = some (.inr (6, [.ref kn, .ref vq, .int (nI ks)])) := (k35 _ (z_nn u18 a173)).trans a177
    have a179 : f41 ke = some (.inr (6, [.ref kn, .ref vq, .int (nI ks)])) := k44 _ _ a178 (z_nn u13 a172)
    have a180 : f90 ke = some (.inr (6, [.ref kn, .ref vq, .int (nI ks)])) := k103 _ _ a179 (z_ne a179 a52 rfl) (z_ne a179 a61 rfl) (z_ne a179 a70 rfl) (z_nn u13 a172) (fun j9 h8 => (z_ne a179 (F80 j9 h8) rfl))
    have a181 : f1 kn = some (.inl (cy 0, 40, .inl kk)) := k4 _ _ x_kn (z_ne x_kn x_fa rfl)
    have a182 : f7 kn = some (.inl (cy 0, 40, .inl kk)) := k9 _ _ a181 
    have a183 : f14 kn = some (.inl (cy 0, 40, .inl kk)) := (k16 _ (z_nn u13 a182)).trans a182
    have a184 : f19 kn = some (.inl (cy 0, 40, .inl kk)) := (k21 _ (z_nn u18 a183)).trans a183
    have a185 : f22 kn = some (.inl (cy 0, 40, .inl kk)) := k24 _ _ a184 
    have a186 : f26 kn = some (.inl (cy 0, 40, .inl kk)) := (k28 _ (z_nn u18 a183)).trans a185
    have a187 : f29 kn = some (.inl (cy 0, 40, .inl kk)) := k31 _ _ a186 
    have a188 : f33 kn = some (.inl (cy 0, 40, .inl kk)) := (k35 _ (z_nn u18 a183)).trans a187
    have a189 : f41 kn = some (.inl (cy 0, 40, .inl kk)) := k44 _ _ a188 (z_nn u13 a182)
    have a190 : f90 kn = some (.inl (cy 0, 40, .inl kk)) := k103 _ _ a189 (z_ne a189 a52 rfl) (z_ne a189 a61 rfl) (z_ne a189 a70 rfl) (z_nn u13 a182) (fun j9 h8 => (z_ne a189 (F80 j9 h8) rfl))
    have a191 : f1 vq = some (.inl (cy 0, 40, .inl kv)) := k4 _ _ x_vq (z_ne x_vq x_fa rfl)
    have a192 : f7 vq = some (.inl (cy 0, 40, .inl kv)) := k9 _ _ a191 
    have a193 : f14 vq = some (.inl (cy 0, 40, .inl kv)) := (k16 _ (z_nn u13 a192)).trans a192
    have a194 : f19 vq = some (.inl (cy 0, 40, .inl kv)) := (k21 _ (z_nn u18 a193)).trans a193
    have a195 : f22 vq = some (.inl (cy 0, 40, .inl kv)) := k24 _ _ a194 
    have a196 : f26 vq = some (.inl (cy 0, 40, .inl kv)) := (k28 _ (z_nn u18 a193)).trans a195
    have a197 : f29 vq = some (.inl (cy 0, 40, .inl kv)) := k31 _ _ a196 
    have a198 : f33 vq = some (.inl (cy 0, 40, .inl kv)) := (k35 _ (z_nn u18 a193)).trans a197
    have a199 : f41 vq = some (.inl (cy 0, 40, .inl kv)) := k44 _ _ a198 (z_nn u13 a192)
    have a200 : f90 vq = some (.inl (cy 0, 40, .inl kv)) := k103 _ _ a199 (z_ne a199 a52 rfl) (z_ne a199 a61 rfl) (z_ne a199 a70 rfl) (z_nn u13 a192) (fun j9 h8 => (z_ne a199 (F80 j9 h8) rfl))
    have F201 : ∀ i9 : Nat, i9 < nf → f1 (fq i9) = some (.inr (3, [.ref (fk i9), .int (nI (fz i9))])) := fun i9 h9 => k4 _ _ (hFq i9 h9) (z_ne (hFq i9 h9) x_fa rfl)
    have F202 : ∀ i9 : Nat, i9 < nf → f7 (fq i9) = some (.inr (3, [.ref (fk i9), .int (nI (fz i9))])) := fun i9 h9 => k9 _ _ (F201 i9 h9) 
    have F203 : ∀ i9 : Nat, i9 < nf → f14 (fq i9) = some (.inr (3, [.ref (fk i9), .int (nI (fz i9))])) := fun i9 h9 => (k16 _ (z_nn u13 (F202 i9 h9))).trans (F202 i9 h9)
    have F204 : ∀ i9 : Nat, i9 < nf → f19 (fq i9) = some (.inr (3, [.ref (fk i9), .int (nI (fz i9))])) := fun i9 h9 => (k21 _ (z_nn u18 (F203 i9 h9))).trans (F203 i9 h9)
    have F205 : ∀ i9 : Nat, i9 < nf → f22 (fq i9) = some (.inr (3, [.ref (fk i9), .int (nI (fz i9))])) := fun i9 h9 => k24 _ _ (F204 i9 h9) 
    have F206 : ∀ i9 : Nat, i9 < nf → f26 (fq i9) = some (.inr (3, [.ref (fk i9), .int (nI (fz i9))])) := fun i9 h9 => (k28 _ (z_nn u18 (F203 i9 h9))).trans (F205 i9 h9)
    have F207 : ∀ i9 : Nat, i9 < nf → f29 (fq i9) = some (.inr (3, [.ref (fk i9), .int (nI (fz i9))])) := fun i9 h9 => k31 _ _ (F206 i9 h9) 
    have F208 : ∀ i9 : Nat, i9 < nf → f33 (fq i9) = some (.inr (3, [.ref (fk i9), .int (nI (fz i9))])) := fun i9 h9 => (k35 _ (z_nn u18 (F203 i9 h9))).trans (F207 i9 h9)
    have F209 : ∀ i9 : Nat, i9 < nf → f41 (fq i9) = some (.inr (3, [.ref (fk i9), .int (nI (fz i9))])) := fun i9 h9 => k44 _ _ (F208 i9 h9) (z_nn u13 (F202 i9 h9))
    have F210 : ∀ i9 : Nat, i9 < nf → f90 (fq i9) = some (.inr (3, [.ref (fk i9), .int (nI (fz i9))])) := fun i9 h9 => k103 _ _ (F209 i9 h9) (z_ne (F209 i9 h9) a52 rfl) (z_ne (F209 i9 h9) a61 rfl) (z_ne (F209 i9 h9) a70 rfl) (z_nn u13 (F202 i9 h9)) (fun j9 h8 => (z_ne (F209 i9 h9) (F80 j9 h8) rfl))
    have F211 : ∀ i9 : Nat, i9 < nf → f1 (fk i9) = some (.inl (cy 0, 4, .inl (fc i9))) := fun i9 h9 => k4 _ _ (hFk i9 h9) (z_ne (hFk i9 h9) x_fa rfl)
    have F212 : ∀ i9 : Nat, i9 < nf → f7 (fk i9) = some (.inl (cy 0, 4, .inl (fc i9))) := fun i9 h9 => k9 _ _ (F211 i9 h9) 
    have F213 : ∀ i9 : Nat, i9 < nf → f14 (fk i9) = some (.inl (cy 0, 4, .inl (fc i9))) := fun i9 h9 => (k16 _ (z_nn u13 (F212 i9 h9))).trans (F212 i9 h9)
    have F214 : ∀ i9 : Nat, i9 < nf → f19 (fk i9) = some (.inl (cy 0, 4, .inl (fc i9))) := fun i9 h9 => (k21 _ (z_nn u18 (F213 i9 h9))).trans (F213 i9 h9)
    have F215 : ∀ i9 : Nat, i9 < nf → f22 (fk i9) = some (.inl (cy 0, 4, .inl (fc i9))) := fun i9 h9 => k24 _ _ (F214 i9 h9) 
    have F216 : ∀ i9 : Nat, i9 < nf → f26 (fk i9) = some (.inl (cy 0, 4, .inl (fc i9))) := fun i9 h9 => (k28 _ (z_nn u18 (F213 i9 h9))).trans (F215 i9 h9)
    have F217 : ∀ i9 : Nat, i9 < nf → f29 (fk i9) = some (.inl (cy 0, 4, .inl (fc i9))) := fun i9 h9 => k31 _ _ (F216 i9 h9) 
    have F218 : ∀ i9 : Nat, i9 < nf → f33 (fk i9) = some (.inl (cy 0, 4, .inl (fc i9))) := fun i9 h9 => (k35 _ (z_nn u18 (F213 i9 h9))).trans (F217 i9 h9)
    have F219 : ∀ i9 : Nat, i9 < nf → f41 (fk i9) = some (.inl (cy 0, 4, .inl (fc i9))) := fun i9 h9 => k44 _ _ (F218 i9 h9) (z_nn u13 (F212 i9 h9))
    have F220 : ∀ i9 : Nat, i9 < nf → f90 (fk i9) = some (.inl (cy 0, 4, .inl (fc i9))) := fun i9 h9 => k103 _ _ (F219 i9 h9) (z_ne (F219 i9 h9) a52 rfl) (z_ne (F219 i9 h9) a61 rfl) (z_ne (F219 i9 h9) a70 rfl) (z_nn u13 (F212 i9 h9)) (fun j9 h8 => (z_ne (F219 i9 h9) (F80 j9 h8) rfl))
    have F221 : ∀ i9 : Nat, i9 < nc → f1 (cn i9) = some (.inr (0, [.int (ce i9), .int (cm i9)])) := fun i9 h9 => k4 _ _ (hCn i9 h9) (z_ne (hCn i9 h9) x_fa rfl)
    have F222 : ∀ i9 : Nat, i9 < nc → f7 (cn i9) = some (.inr (0, [.int (ce i9), .int (cm i9)])) := fun i9 h9 => k9 _ _ (F221 i9 h9) 
    have F223 : ∀ i9 : Nat, i9 < nc → f14 (cn i9) = some (.inr (0, [.int (ce i9), .int (cm i9)])) := fun i9 h9 => (k16 _ (z_nn u13 (F222 i9 h9))).trans (F222 i9 h9)
    have F224 : ∀ i9 : Nat, i9 < nc → f19 (cn i9) = some (.inr (0, [.int (ce i9), .int (cm i9)])) := fun i9 h9 => (k21 _ (z_nn u18 (F223 i9 h9))).trans (F223 i9 h9)
    have F225 : ∀ i9 : Nat, i9 < nc → f22 (cn i9) = some (.inr (0, [.int (ce i9), .int (cm i9)])) := fun i9 h9 => k24 _ _ (F224 i9 h9) 
    have F226 : ∀ i9 : Nat, i9 < nc → f26 (cn i9) = some (.inr (0, [.int (ce i9), .int (cm i9)])) := fun i9 h9 => (k28 _ (z_nn u18 (F223 i9 h9))).trans (F225 i9 h9)
    have F227 : ∀ i9 : Nat, i9 < nc → f29 (cn i9) = some (.inr (0, [.int (ce i9), .int (cm i9)])) := fun i9 h9 => k31 _ _ (F226 i9 h9) 
    have F228 : ∀ i9 : Nat, i9 < nc → f33 (cn i9) = some (.inr (0, [.int (ce i9), .int (cm i9)])) := fun i9 h9 => (k35 _ (z_nn u18 (F223 i9 h9))).trans (F227 i9 h9)
    have F229 : ∀ i9 : Nat, i9 < nc → f41 (cn i9) = some (.inr (0, [.int (ce i9), .int (cm i9)])) := fun i9 h9 => k44 _ _ (F228 i9 h9) (z_nn u13 (F222 i9 h9))
    have F230 : ∀ i9 : Nat, i9 < nc → f90 (cn i9) = some (.inr (0, [.int (ce i9), .int (cm i9)])) := fun i9 h9 => k103 _ _ (F229 i9 h9) (z_ne (F229 i9 h9) a52 rfl) (z_ne (F229 i9 h9) a61 rfl) (z_ne (F229 i9 h9) a70 rfl) (z_nn u13 (F222 i9 h9)) (fun j9 h8 => (z_ne (F229 i9 h9) (F80 j9 h8) rfl))
    have F231 : ∀ i9 : Nat, i9 < 4 → f1 (ea i9) = some (.inr (1, [.ref (ma i9), .int (nI (sq i9))])) := fun i9 h9 => k4 _ _ (hEa i9 h9) (z_ne (hEa i9 h9) x_fa rfl)
    have F232 : ∀ i9 : Nat, i9 < 4 → f7 (ea i9) = some (.inr (1, [.ref (ma i9), .int (nI (sq i9))])) := fun i9 h9 => k9 _ _ (F231 i9 h9) 
    have F233 : ∀ i9 : Nat, i9 < 4 → f14 (ea i9) = some (.inr (1, [.ref (ma i9), .int (nI (sq i9))])) := fun i9 h9 => (k16 _ (z_nn u13 (F232 i9 h9))).trans (F232 i9 h9)
    have F234 : ∀ i9 : Nat, i9 < 4 → f19 (ea i9) = some (.inr (1, [.ref (ma i9), .int (nI (sq i9))])) := fun i9 h9 => (k21 _ (z_nn u18 (F233 i9 h9))).trans (F233 i9 h9)
    have F235 : ∀ i9 : Nat, i9 < 4 → f22 (ea i9) = some (.inr (1, [.ref (ma i9), .int (nI (sq i9))])) := fun i9 h9 => k24 _ _ (F234 i9 h9) 
    have F236 : ∀ i9 : Nat, i9 < 4 → f26 (ea i9) = some (.inr (1, [.ref (ma i9), .int (nI (sq i9))])) := fun i9 h9 => (k28 _ (z_nn u18 (F233 i9 h9))).trans (F235 i9 h9)
    have F237 : ∀ i9 : Nat, i9 < 4 → f29 (ea i9) = some (.inr (1, [.ref (ma i9), .int (nI (sq i9))])) := fun i9 h9 => k31 _ _ (F236 i9 h9) 
    have F238 : ∀ i9 : Nat, i9 < 4 → f33 (ea i9) = some (.inr (1, [.ref (ma i9), .int (nI (sq i9))])) := fun i9 h9 => (k35 _ (z_nn u18 (F233 i9 h9))).trans (F237 i9 h9)
    have F239 : ∀ i9 : Nat, i9 < 4 → f41 (ea i9) = some (.inr (1, [.ref (ma i9), .int (nI (sq i9))])) := fun i9 h9 => k44 _ _ (F238 i9 h9) (z_nn u13 (F232 i9 h9))
    have F240 : ∀ i9 : Nat, i9 < 4 → f90 (ea i9) = some (.inr (1, [.ref (ma i9), .int (nI (sq i9))])) := fun i9 h9 => k103 _ _ (F239 i9 h9) (z_ne (F239 i9 h9) a52 rfl) (z_ne (F239 i9 h9) a61 rfl) (z_ne (F239 i9 h9) a70 rfl) (z_nn u13 (F232 i9 h9)) (fun j9 h8 => (z_ne (F239 i9 h9) (F80 j9 h8) rfl))
    have F241 : ∀ i9 : Nat, i9 < 4 → f1 (ma i9) = some (.inl (cy 0, 60, .inl (mb i9))) := fun i9 h9 => k4 _ _ (hMa i9 h9) (z_ne (hMa i9 h9) x_fa rfl)
    have F242 : ∀ i9 : Nat, i9 < 4 → f7 (ma i9) = some (.inl (cy 0, 60, .inl (mb i9))) := fun i9 h9 => k9 _ _ (F241 i9 h9) 
    have F243 : ∀ i9 : Nat, i9 < 4 → f14 (ma i9) = some (.inl (cy 0, 60, .inl (mb i9))) := fun i9 h9 => (k16 _ (z_nn u13 (F242 i9 h9))).trans (F242 i9 h9)
    have F244 : ∀ i9 : Nat, i9 < 4 → f19 (ma i9) = some (.inl (cy 0, 60, .inl (mb i9))) := fun i9 h9 => (k21 _ (z_nn u18 (F243 i9 h9))).trans (F243 i9 h9)
    have F245 : ∀ i9 : Nat, i9 < 4 → f22 (ma i9) = some (.inl (cy 0, 60, .inl (mb i9))) := fun i9 h9 => k24 _ _ (F244 i9 h9) 
    have F246 : ∀ i9 : Nat, i9 < 4 → f26 (ma i9) = some (.inl (cy 0, 60, .inl (mb i9))) := fun i9 h9 => (k28 _ (z_nn u18 (F243 i9 h9))).trans (F245 i9 h9)
    have F247 : ∀ i9 : Nat, i9 < 4 → f29 (ma i9) = some (.inl (cy 0, 60, .inl (mb i9))) := fun i9 h9 => k31 _ _ (F246 i9 h9) 
    have F248 : ∀ i9 : Nat, i9 < 4 → f33 (ma i9) = some (.inl (cy 0, 60, .inl (mb i9))) := fun i9 h9 => (k35 _ (z_nn u18 (F243 i9 h9))).trans (F247 i9 h9)
    have F249 : ∀ i9 : Nat, i9 < 4 → f41 (ma i9) = some (.inl (cy 0, 60, .inl (mb i9))) := fun i9 h9 => k44 _ _ (F248 i9 h9) (z_nn u13 (F242 i9 h9))
    have F250 : ∀ i9 : Nat, i9 < 4 → f90 (ma i9) = some (.inl (cy 0, 60, .inl (mb i9))) := fun i9 h9 => k103 _ _ (F249 i9 h9) (z_ne (F249 i9 h9) a52 rfl) (z_ne (F249 i9 h9) a61 rfl) (z_ne (F249 i9 h9) a70 rfl) (z_nn u13 (F242 i9 h9)) (fun j9 h8 => (z_ne (F249 i9 h9) (F80 j9 h8) rfl))
    have a251 : f90 q17 = some (.inl (cy 1, 2, .inr (.inl (vp_updL (vp_updL (fun _ => 0) 0 (zcl x)) 1 (zcl y))))) := k103 _ _ a71 (Ne.symm (z_nn u18 a46)) (Ne.symm (z_nn u18 a55)) (Ne.symm (z_nn u18 a64)) (Ne.symm (z_nn u18 a15)) (fun j9 h8 => (z_ne a71 (F80 j9 h8) rfl))
    have hgpf : ∀ j, j < 2 → (vp_updL (vp_updL (fun _ => 0) 0 (zcl x)) 1 (zcl y)) j = (q2 (zcl x) (zcl y)) j := (z_j2 _ _ _)
    have hq : q_point nn = (nI nn, 0, (-1), 0) := by simp [q_point, h60, c10]
    exact z_iret C hr rfl hz hS ⟨0, (-1), 0, gv, nl, gu, (nn + 1), (va_up ga nn (some q12)), gr_94, (va_up fg nn q12), (va_up pt nn q17), (va_up kd nn 0), (va_up ln nn 2), (va_up pp nn (vp_updL (vp_updL (fun _ => 0) 0 (zcl x)) 1 (zcl y))), (va_up wg nn 1), (va_up wd nn 0), (va_up hs nn hq_92), (va_up bf_95 nn bq_93), nf, gf, fq, fk, fz, fc, nc, gc, cn, ce, cm, sq, mb, ks, kk, kv, lk, (by rw [hq]), (by rw [hq]), (by rw [hq]), (by rw [hq]), (by rw [hq]; exact (zEV0 gv).symm), rfl, rfl, (by rw [if_pos (nI_pos' (by omega))]), (by rw [if_pos (nI_pos' (by omega))]), (by rw [if_pos (nI_pos' (by omega))]), (zPP_new hgpf), (by rw [if_pos (nI_pos' (by omega))]), (by rw [if_pos (nI_pos' (by omega)), p96, zHash_congr (gp' := q2 (zcl x) (zcl y)) hgpf]), rfl, rfl, rfl, rfl, rfl, rfl, rfl, rfl, rfl, rfl, rfl, rfl, ⟨a111, a120, a130, a98, a99, a100, a140, a150, a160, a170, a180, a190, a200, F101, F102, F210, F220, F230, F240, F250, (by omega), hl12, hf6, hc60, hs40, (z_ga1 hga), (z_gr1 p97), (z_up1 (P := fun _ a9 => a9 ≤ 15) hln (by omega)), (z_up2 (P := fun (a9 : Int32) (b9 : Nat) => a9 = 5 → 3 ≤ b9) hk5 (fun h9 => absurd h9 (by decide))), (z_up2 (P := fun (a9 : Int32) (b9 : Nat) => a9 = 4 → 2 ≤ b9) hk4 (fun h9 => absurd h9 (by decide))), (z_inj1 hfi (fun j9 h9 => z_nn u13 (F73 j9 h9))), (z_inj1 hpi (fun j9 h9 => z_nn u18 (F83 j9 h9))), har, hgf, hfz, hgc, hG, hsq, hei, hmi, kne, hca, hcr, hlk⟩⟩ (Nat.le_of_ble_eq_true rfl) (Nat.le_of_ble_eq_true rfl) dX7_point_53
  · have a252 : f1 fi = some (.inr (5, [.ref al, .ref ra, .int (nI nn)])) := k4 _ _ x_fi (z_ne x_fi x_fa rfl)
    refine z_callVi (As := []) C hz hS hA hl (k_X5_isFull_B l D cy f1 fi al ra nn a252 hn60 h60) zyX5_isFull mMX7_79 a252 zl5 rfl rfl (Nat.le_of_ble_eq_true rfl) ⟨Nat.le_of_ble_eq_true rfl, Nat.le_of_ble_eq_true rfl⟩ ⟨Nat.le_of_ble_eq_true rfl, Nat.le_of_ble_eq_true rfl⟩ dX7_point_11 (fun r f253 H locs h254 hz hS => ?_)
    obtain ⟨rfl, k255⟩ := h254
    refine lv_if_eq (tgt := 20) hx hb dX7_point_14 (by decide) (fun c256 => ?_) (fun c256 => ?_)
    · exact absurd c256 (by decide)
    refine lv_bipush (v := (-3)) hx hb dX7_point_17 (by decide) ?_
    have a257 : f253 o = some (.inr (7, [.ref fa, .ref fi, .ref nu, .int (nI nl), .ref fm, .int (nI nf), .ref co, .int (nI nc), .ref en, .ref ke, .long lk])) := k255 _ _ a5 
    have a258 : f253 fa = some (.inr (2, [.int 0, .int (-1), .int 0, .ref ev])) := k255 _ _ a3 
    have a259 : f1 ev = some (.inl (cy 0, 8, .inl gv)) := k4 _ _ x_ev (z_ne x_ev x_fa rfl)
    have a260 : f253 ev = some (.inl (cy 0, 8, .inl gv)) := k255 _ _ a259 
    have a261 : f253 fi = some (.inr (5, [.ref al, .ref ra, .int (nI nn)])) := k255 _ _ a252 
    have a262 : f1 al = some (.inl (cy 3, 60, .inr (.inr (.inr (.inr ga))))) := k4 _ _ x_al (z_ne x_al x_fa rfl)
    have a263 : f253 al = some (.inl (cy 3, 60, .inr (.inr (.inr (.inr ga))))) := k255 _ _ a262 
    have a264 : f1 ra = some (.inl (cy 3, 60, .inr (.inr (.inr (.inr gr))))) := k4 _ _ x_ra (z_ne x_ra x_fa rfl)
    have a265 : f253 ra = some (.inl (cy 3, 60, .inr (.inr (.inr (.inr gr))))) := k255 _ _ a264 
    have a266 : f1 nu = some (.inl (cy 0, 12, .inl gu)) := k4 _ _ x_nu (z_ne x_nu x_fa rfl)
    have a267 : f253 nu = some (.inl (cy 0, 12, .inl gu)) := k255 _ _ a266 
    have a268 : f1 fm = some (.inl (cy 4, 6, .inr (.inr (.inr (.inr gf))))) := k4 _ _ x_fm (z_ne x_fm x_fa rfl)
    have a269 : f253 fm = some (.inl (cy 4, 6, .inr (.inr (.inr (.inr gf))))) := k255 _ _ a268 
    have a270 : f1 co = some (.inl (cy 5, 60, .inr (.inr (.inr (.inr gc))))) := k4 _ _ x_co (z_ne x_co x_fa rfl)
    have a271 : f253 co = some (.inl (cy 5, 60, .inr (.inr (.inr (.inr gc))))) := k255 _ _ a270 
    have a272 : f1 en = some (.inl (cy 6, 4, .inr (.inr (.inr (.inr ge))))) := k4 _ _ x_en (z_ne x_en x_fa rfl)
    have a273 : f253 en = some (.inl (cy 6, 4, .inr (.inr (.inr (.inr ge))))) := k255 _ _ a272 
    have a274 : f1 ke = some (.inr (6, [.ref kn, .ref vq, .int (nI ks)])) := k4 _ _ x_ke (z_ne x_ke x_fa rfl)
    have a275 : f253 ke = some (.inr (6, [.ref kn, .ref vq, .int (nI ks)])) := k255 _ _ a274 
    have a276 : f1 kn = some (.inl (cy 0, 40, .inl kk)) := k4 _ _ x_kn (z_ne x_kn x_fa rfl)
    have a277 : f253 kn = some (.inl (cy 0, 40, .inl kk)) := k255 _ _ a276 
    have a278 : f1 vq = some (.inl (cy 0, 40, .inl kv)) := k4 _ _ x_vq (z_ne x_vq x_fa rfl)
    have a279 : f253 vq = some (.inl (cy 0, 40, .inl kv)) := k255 _ _ a278 
    have F280 : ∀ i9 : Nat, i9 < nn → f1 (fg i9) = some (.inr (4, [.int (kd i9), .ref (pt i9), .long (wg i9), .int (wd i9), .int (nI i9), .int (hs i9), .int (bf i9)])) := fun i9 h9 => k4 _ _ (hF i9 h9) (z_ne (hF i9 h9) x_fa rfl)
    have F281 : ∀ i9 : Nat, i9 < nn → f253 (fg i9) = some (.inr (4, [.int (kd i9), .ref (pt i9), .long (wg i9), .int (wd i9), .int (nI i9), .int (hs i9), .int (bf i9)])) := fun i9 h9 => k255 _ _ (F280 i9 h9) 
    have F282 : ∀ i9 : Nat, i9 < nn → f1 (pt i9) = some (.inl (cy 1, (ln i9), .inr (.inl (pp i9)))) := fun i9 h9 => k4 _ _ (hP i9 h9) (z_neO (hP i9 h9) x_fa rfl)
    have F283 : ∀ i9 : Nat, i9 < nn → f253 (pt i9) = some (.inl (cy 1, (ln i9), .inr (.inl (pp i9)))) := fun i9 h9 => k255 _ _ (F282 i9 h9) 
    have F284 : ∀ i9 : Nat, i9 < nf → f1 (fq i9) = some (.inr (3, [.ref (fk i9), .int (nI (fz i9))])) := fun i9 h9 => k4 _ _ (hFq i9 h9) (z_ne (hFq i9 h9) x_fa rfl)
    have F285 : ∀ i9 : Nat, i9 < nf → f253 (fq i9) = some (.inr (3, [.ref (fk i9), .int (nI (fz i9))])) := fun i9 h9 => k255 _ _ (F284 i9 h9) 
    have F286 : ∀ i9 : Nat, i9 < nf → f1 (fk i9) = some (.inl (cy 0, 4, .inl (fc i9))) := fun i9 h9 => k4 _ _ (hFk i9 h9) (z_ne (hFk i9 h9) x_fa rfl)
    have F287 : ∀ i9 : Nat, i9 < nf → f253 (fk i9) = some (.inl (cy 0, 4, .inl (fc i9))) := fun i9 h9 => k255 _ _ (F286 i9 h9) 
    have F288 : ∀ i9 : Nat, i9 < nc → f1 (cn i9) = some (.inr (0, [.int (ce i9), .int (cm i9)])) := fun i9 h9 => k4 _ _ (hCn i9 h9) (z_ne (hCn i9 h9) x_fa rfl)
    have F289 : ∀ i9 : Nat, i9 < nc → f253 (cn i9) = some (.inr (0, [.int (ce i9), .int (cm i9)])) := fun i9 h9 => k255 _ _ (F288 i9 h9) 
    have F290 : ∀ i9 : Nat, i9 < 4 → f1 (ea i9) = some (.inr (1, [.ref (ma i9), .int (nI (sq i9))])) := fun i9 h9 => k4 _ _ (hEa i9 h9) (z_ne (hEa i9 h9) x_fa rfl)
    have F291 : ∀ i9 : Nat, i9 < 4 → f253 (ea i9) = some (.inr (1, [.ref (ma i9), .int (nI (sq i9))])) := fun i9 h9 => k255 _ _ (F290 i9 h9) 
    have F292 : ∀ i9 : Nat, i9 < 4 → f1 (ma i9) = some (.inl (cy 0, 60, .inl (mb i9))) := fun i9 h9 => k4 _ _ (hMa i9 h9) (z_ne (hMa i9 h9) x_fa rfl)
    have F293 : ∀ i9 : Nat, i9 < 4 → f253 (ma i9) = some (.inl (cy 0, 60, .inl (mb i9))) := fun i9 h9 => k255 _ _ (F292 i9 h9) 
    have hq : q_point nn = ((-3), 0, (-1), 0) := by simp [q_point, h60, c256]
    exact z_iret C hr rfl hz hS ⟨0, (-1), 0, gv, nl, gu, nn, ga, gr, fg, pt, kd, ln, pp, wg, wd, hs, bf, nf, gf, fq, fk, fz, fc, nc, gc, cn, ce, cm, sq, mb, ks, kk, kv, lk, (by rw [hq]), (by rw [hq]), (by rw [hq]), (by rw [hq]), (by rw [hq]; exact (zEV0 gv).symm), rfl, rfl, (by rw [if_neg (by decide)]), (by rw [if_neg (by decide)]), (by rw [if_neg (by decide)]), (zPP_no (by decide)), (by rw [if_neg (by decide)]), (by rw [if_neg (by decide)]), rfl, rfl, rfl, rfl, rfl, rfl, rfl, rfl, rfl, rfl, rfl, rfl, ⟨a257, a258, a260, a261, a263, a265, a267, a269, a271, a273, a275, a277, a279, F281, F283, F285, F287, F289, F291, F293, hn60, hl12, hf6, hc60, hs40, hga, hgr, hln, hk5, hk4, hfi, hpi, har, hgf, hfz, hgc, hG, hsq, hei, hmi, kne, hca, hcr, hlk⟩⟩ (Nat.le_of_ble_eq_true rfl) (Nat.le_of_ble_eq_true rfl) dX7_point_19
abbrev rmX7_span : Room := { frames := 6, cells := 2, slots := 9, locals := 140 }
set_option maxHeartbeats 4000000 in
set_option maxRecDepth 100000 in
theorem k_X7_span (l : Launch) (D : va_G) (cy : Nat → ClassId) (f : zM) (o : Nat) (fa : Nat) (fi : Nat) (nu : Nat) (fm : Nat) (co : Nat) (en : Nat) (ke : Nat) (ev : Nat) (al : Nat) (ra : Nat) (kn : Nat) (vq : Nat) (ge : Nat → Option Nat) (ea : Nat → Nat) (ma : Nat → Nat) (u1 : Int32) (u2 : Int32) (u3 : Int32) (gv : Nat → Int32) (nl : Nat) (gu : Nat → Int32) (nn : Nat) (ga : Nat → Option Nat) (gr : Nat → Option Nat) (fg : Nat → Nat) (pt : Nat → Nat) (kd : Nat → Int32) (ln : Nat → Nat) (pp : Nat → Nat → Int64) (wg : Nat → Int64) (wd : Nat → Int32) (hs : Nat → Int32) (bf : Nat → Int32) (nf : Nat) (gf : Nat → Option Nat) (fq : Nat → Nat) (fk : Nat → Nat) (fz : Nat → Nat) (fc : Nat → Nat → Int32) (nc : Nat) (gc : Nat → Option Nat) (cn : Nat → Nat) (ce : Nat → Int32) (cm : Nat → Int32) (sq : Nat → Nat) (mb : Nat → Nat → Int32) (ks : Nat) (kk : Nat → Int32) (kv : Nat → Int32) (lk : Int64) (x : Int32) (y : Int32)    (hI : zIX cy f o fa fi nu fm co en ke ev al ra kn vq ge ea ma u1 u2 u3 gv nl gu nn ga gr fg pt kd ln pp wg wd hs bf nf gf fq fk fz fc nc gc cn ce cm sq mb ks kk kv lk) : zCi l D cy yX7_span cX7_span 3 (Option.some Jvm.ClassFile.FieldType.int) rmX7_span [.ref o, .int x, .int y] f (fun (r : Int32) (f1 : zM) => ∃ (u11 : Int32) (u21 : Int32) (u31 : Int32) (gv1 : Nat → Int32) (nl1 : Nat) (gu1 : Nat → Int32) (nn1 : Nat) (ga1 : Nat → Option Nat) (gr1 : Nat → Option Nat) (fg1 : Nat → Nat) (pt1 : Nat → Nat) (kd1 : Nat → Int32) (ln1 : Nat → Nat) (pp1 : Nat → Nat → Int64) (wg1 : Nat → Int64) (wd1 : Nat → Int32) (hs1 : Nat → Int32) (bf1 : Nat → Int32) (nf1 : Nat) (gf1 : Nat → Option Nat) (fq1 : Nat → Nat) (fk1 : Nat → Nat) (fz1 : Nat → Nat) (fc1 : Nat → Nat → Int32) (nc1 : Nat) (gc1 : Nat → Option Nat) (cn1 : Nat → Nat) (ce1 : Nat → Int32) (cm1 : Nat → Int32) (sq1 : Nat → Nat) (mb1 : Nat → Nat → Int32) (ks1 : Nat) (kk1 : Nat → Int32) (kv1 : Nat → Int32) (lk1 : Int64), r = ((q_span nn x y).1) ∧ (u11 = (q_span nn x y).2.1) ∧ (u21 = (q_span nn x y).2.2.1) ∧ (u31 = (q_span nn x y).2.2.2) ∧ (gv1 = zEV gv (q_span nn x y).2.1) ∧ (nl1 = nl) ∧ (gu1 = gu) ∧ (nn1 = if 0 ≤ r then nn + 1 else nn) ∧ (kd1 = if 0 ≤ r then va_up kd nn 1 else kd) ∧ (ln1 = if 0 ≤ r then va_up ln nn (2) else ln) ∧ (zPP nn (0 ≤ r) (2) (q2 x.toInt64 y.toInt64) pp pp1) ∧ (wd1 = if 0 ≤ r then va_up wd nn 0 else wd) ∧ (hs1 = if 0 ≤ r then va_up hs nn (zHash 1 nn (2) (q2 x.toInt64 y.toInt64) hs) else hs) ∧ (nf1 = nf) ∧ (fz1 = fz) ∧ (fc1 = fc) ∧ (nc1 = nc) ∧ (ce1 = ce) ∧ (cm1 = cm) ∧ (sq1 = sq) ∧ (mb1 = mb) ∧ (ks1 = ks) ∧ (kk1 = kk) ∧ (kv1 = kv) ∧ (lk1 = lk) ∧ zIX cy f1 o fa fi nu fm co en ke ev al ra kn vq ge ea ma u11 u21 u31 gv1 nl1 gu1 nn1 ga1 gr1 fg1 pt1 kd1 ln1 pp1 wg1 wd1 hs1 bf1 nf1 gf1 fq1 fk1 fz1 fc1 nc1 gc1 cn1 ce1 cm1 sq1 mb1 ks1 kk1 kv1 lk1) := by
  intro sz
  refine z_body (by decide +kernel) (Nat.le_of_ble_eq_true rfl) ?_
  intro p e s m below meth c ls C hr hin hsz hz hl
  subst hsz
  have hx := C.1
  have hb := C.2.1
  have hA : ∀ q, s.heap.size ≤ q → zA f s.heap.size q := fun q h => Or.inr h
  have hS : va_S (zA f s.heap.size) s.heap s.heap [] := va_S.rf
  have hl : lv_has ls 3 [(0, .ref o), (1, .int x), (2, .int y)] := hl
  obtain ⟨x_o, x_fa, x_ev, x_fi, x_al, x_ra, x_nu, x_fm, x_co, x_en, x_ke, x_kn, x_vq, hF, hP, hFq, hFk, hCn, hEa, hMa, hn60, hl12, hf6, hc60, hs40, hga, hgr, hln, hk5, hk4, hfi, hpi, har, hgf, hfz, hgc, hG, hsq, hei, hmi, kne, hca, hcr, hlk⟩ := id hI
  refine lv_aload_n hx hb dX7_span_0 rfl (lv_at hl 0 rfl) ?_
  refine z_get (v := .ref fa) C hz x_o zl7 mFX7_10 (by decide) rfl dX7_span_1 ?_
  refine z_callVv (As := []) C hz hS hA hl (k_X2_none l D cy f fa u1 u2 u3 ev x_fa ) zyX2_none mMX7_76 x_fa zl2 rfl rfl (Nat.le_of_ble_eq_true rfl) ⟨Nat.le_of_ble_eq_true rfl, Nat.le_of_ble_eq_true rfl⟩ ⟨Nat.le_of_ble_eq_true rfl, Nat.le_of_ble_eq_true rfl⟩ dX7_span_4 (fun  f1 H locs h2 hz hS => ?_)
  obtain ⟨a3, k4⟩ := h2
  refine lv_aload_n hx hb dX7_span_7 rfl (lv_at hl 0 rfl) ?_
  have a5 : f1 o = some (.inr (7, [.ref fa, .ref fi, .ref nu, .int (nI nl), .ref fm, .int (nI nf), .ref co, .int (nI nc), .ref en, .ref ke, .long lk])) := k4 _ _ x_o (z_ne x_o x_fa rfl)
  refine z_get (v := .ref fi) C hz a5 zl7 mFX7_19 (by decide) rfl dX7_span_8 ?_
  by_cases h60 : nn < 60
  · have a6 : f1 fi = some (.inr (5, [.ref al, .ref ra, .int (nI nn)])) := k4 _ _ x_fi (z_ne x_fi x_fa rfl)
    refine z_callVi (As := []) C hz hS hA hl (k_X5_isFull_A l D cy f1 fi al ra nn a6 hn60 h60) zyX5_isFull mMX7_79 a6 zl5 rfl rfl (Nat.le_of_ble_eq_true rfl) ⟨Nat.le_of_ble_eq_true rfl, Nat.le_of_ble_eq_true rfl⟩ ⟨Nat.le_of_ble_eq_true rfl, Nat.le_of_ble_eq_true rfl⟩ dX7_span_11 (fun r f7 H locs h8 hz hS => ?_)
    obtain ⟨rfl, k9⟩ := h8
    refine lv_if_eq (tgt := 20) hx hb dX7_span_14 (by decide) (fun c10 => ?_) (fun c10 => ?_)
    rotate_left
    · exact absurd c10 (by decide)
    refine lv_iload_n hx hb dX7_span_20 rfl (lv_at hl 1 rfl) ?_
    refine lv_iload_n hx hb dX7_span_21 rfl (lv_at hl 2 rfl) ?_
    refine lv_icmp_le (tgt := 35) hx hb dX7_span_22 (by decide) (fun c11 => ?_) (fun c11 => ?_)
    · refine lv_aload_n hx hb dX7_span_35 rfl (lv_at hl 0 rfl) ?_
      have a12 : f7 o = some (.inr (7, [.ref fa, .ref fi, .ref nu, .int (nI nl), .ref fm, .int (nI nf), .ref co, .int (nI nc), .ref en, .ref ke, .long lk])) := k9 _ _ a5 
      refine z_get (v := .ref fi) C hz a12 zl7 mFX7_19 (by decide) rfl dX7_span_36 ?_
      refine z_new (fs := [.int 0, .null, .long 0, .int 0, .int 0, .int 0, .int 0]) C hz hS hA zl4 mLX7_83 mIa_RX4 mIn_RX4 (by decide +kernel) (Nat.le_of_ble_eq_true rfl) (Nat.le_of_ble_eq_true rfl) dX7_span_39 (fun q13 H f15 u14 a16 k17 hz hS => ?_)
      refine lv_dup hx hb dX7_span_42 rfl ?_
      refine lv_iconst (v := 1) hx hb dX7_span_43 (by decide) ?_
      refine lv_iconst (v := 2) hx hb dX7_span_44 (by decide) ?_
      refine z_newa (atype := .long) (t0 := 1) (N' := 2) (x := (.inr (.inl (fun _ => 0)))) C hz hS hA rfl mA_long rfl (fun _ => rfl) (by decide) (Nat.le_of_ble_eq_true rfl) (by decide) (Nat.le_of_ble_eq_true rfl) (Nat.le_of_ble_eq_true rfl) dX7_span_45 (fun q18 H f20 u19 a21 k22 hz hS => ?_)
      refine lv_dup hx hb dX7_span_47 rfl ?_
      refine lv_iconst (v := 0) hx hb dX7_span_48 (by decide) ?_
      refine lv_iload_n hx hb dX7_span_49 rfl (lv_at hl 1 rfl) ?_
      refine lv_i2l (v := x.toInt64) hx hb dX7_span_50 rfl ?_
      refine z_last 0 C hz hS a21 (by decide) (Nat.le_of_ble_eq_true rfl) (by omega) dX7_span_51 (fun H locs f23 a24 k25 hz hS => ?_)
      refine lv_dup hx hb dX7_span_52 rfl ?_
      refine lv_iconst (v := 1) hx hb dX7_span_53 (by decide) ?_
      refine lv_iload_n hx hb dX7_span_54 rfl (lv_at hl 2 rfl) ?_
      refine lv_i2l (v := y.toInt64) hx hb dX7_span_55 rfl ?_
      refine z_last 1 C hz hS a24 (by decide) (Nat.le_of_ble_eq_true rfl) (by omega) dX7_span_56 (fun H locs f26 a27 k28 hz hS => ?_)
      refine lv_iload_n hx hb dX7_span_57 rfl (lv_at hl 1 rfl) ?_
      refine lv_iload_n hx hb dX7_span_58 rfl (lv_at hl 2 rfl) ?_
      refine z_callSl (As := [.int x, .int y]) C hz hS hA hl (k_X7_lengthOf l D cy f26 x y  ) zyX7_lengthOf mMX7_100 rfl rfl (Nat.le_of_ble_eq_true rfl) ⟨Nat.le_of_ble_eq_true rfl, Nat.le_of_ble_eq_true rfl⟩ ⟨Nat.le_of_ble_eq_true rfl, Nat.le_of_ble_eq_true rfl⟩ dX7_span_59 (fun r31 f29 H locs h30 hz hS => ?_)
      have k32 := h30
      have a33 : f20 q13 = some (.inr (4, [.int 0, .null, .long 0, .int 0, .int 0, .int 0, .int 0])) := (k22 _ (z_nn u19 a16)).trans a16
      have a34 : f23 q13 = some (.inr (4, [.int 0, .null, .long 0, .int 0, .int 0, .int 0, .int 0])) := (k25 _ (z_nn u19 a16)).trans a33
      have a35 : f26 q13 = some (.inr (4, [.int 0, .null, .long 0, .int 0, .int 0, .int 0, .int 0])) := (k28 _ (z_nn u19 a16)).trans a34
      have a36 : f29 q13 = some (.inr (4, [.int 0, .null, .long 0, .int 0, .int 0, .int 0, .int 0])) := k32 _ _ a35 
      refine z_callIv (ret := none) (As := [.int 1, .ref q18, .long r31]) C hz hS hA hl (k_X4_init l D cy f29 q13 1 q18 r31 a36 ) zyX4_init mMX7_89 rfl rfl (Nat.le_of_ble_eq_true rfl) ⟨Nat.le_of_ble_eq_true rfl, Nat.le_of_ble_eq_true rfl⟩ ⟨Nat.le_of_ble_eq_true rfl, Nat.le_of_ble_eq_true rfl⟩ dX7_span_62 (fun  f37 H locs h38 hz hS => ?_)
      obtain ⟨a39, k40⟩ := h38
      have a41 : f7 fi = some (.inr (5, [.ref al, .ref ra, .int (nI nn)])) := k9 _ _ a6 
      have a42 : f15 fi = some (.inr (5, [.ref al, .ref ra, .int (nI nn)])) := (k17 _ (z_nn u14 a41)).trans a41
      have a43 : f20 fi = some (.inr (5, [.ref al, .ref ra, .int (nI nn)])) := (k22 _ (z_nn u19 a42)).trans a42
      have a44 : f23 fi = some (.inr (5, [.ref al, .ref ra, .int (nI nn)])) := (k25 _ (z_nn u19 a42)).trans a43
      have a45 : f26 fi = some (.inr (5, [.ref al, .ref ra, .int (nI nn)])) := (k28 _ (z_nn u19 a42)).trans a44
      have a46 : f29 fi = some (.inr (5, [.ref al, .ref ra, .int (nI nn)])) := k32 _ _ a45 
      have a47 : f37 fi = some (.inr (5, [.ref al, .ref ra, .int (nI nn)])) := k40 _ _ a46 (z_nn u14 a41)
      have a48 : f1 al = some (.inl (cy 3, 60, .inr (.inr (.inr (.inr ga))))) := k4 _ _ x_al (z_ne x_al x_fa rfl)
      have a49 : f7 al = some (.inl (cy 3, 60, .inr (.inr (.inr (.inr ga))))) := k9 _ _ a48 
      have a50 : f15 al = some (.inl (cy 3, 60, .inr (.inr (.inr (.inr ga))))) := (k17 _ (z_nn u14 a49)).trans a49
      have a51 : f20 al = some (.inl (cy 3, 60, .inr (.inr (.inr (.inr ga))))) := (k22 _ (z_nn u19 a50)).trans a50
      have a52 : f23 al = some (.inl (cy 3, 60, .inr (.inr (.inr (.inr ga))))) := (k25 _ (z_nn u19 a50)).trans a51
      have a53 : f26 al = some (.inl (cy 3, 60, .inr (.inr (.inr (.inr ga))))) := (k28 _ (z_nn u19 a50)).trans a52
      have a54 : f29 al = some (.inl (cy 3, 60, .inr (.inr (.inr (.inr ga))))) := k32 _ _ a53 
      have a55 : f37 al = some (.inl (cy 3, 60, .inr (.inr (.inr (.inr ga))))) := k40 _ _ a54 (z_nn u14 a49)
      have a56 : f1 ra = some (.inl (cy 3, 60, .inr (.inr (.inr (.inr gr))))) := k4 _ _ x_ra (z_ne x_ra x_fa rfl)
      have a57 : f7 ra = some (.inl (cy 3, 60, .inr (.inr (.inr (.inr gr))))) := k9 _ _ a56 
      have a58 : f15 ra = some (.inl (cy 3, 60, .inr (.inr (.inr (.inr gr))))) := (k17 _ (z_nn u14 a57)).trans a57
      have a59 : f20 ra = some (.inl (cy 3, 60, .inr (.inr (.inr (.inr gr))))) := (k22 _ (z_nn u19 a58)).trans a58
      have a60 : f23 ra = some (.inl (cy 3, 60, .inr (.inr (.inr (.inr gr))))) := (k25 _ (z_nn u19 a58)).trans a59
      have a61 : f26 ra = some (.inl (cy 3, 60, .inr (.inr (.inr (.inr gr))))) := (k28 _ (z_nn u19 a58)).trans a60
      have a62 : f29 ra = some (.inl (cy 3, 60, .inr (.inr (.inr (.inr gr))))) := k32 _ _ a61 
      have a63 : f37 ra = some (.inl (cy 3, 60, .inr (.inr (.inr (.inr gr))))) := k40 _ _ a62 (z_nn u14 a57)
      have a64 : f29 q18 = some (.inl (cy 1, 2, .inr (.inl (vp_updL (vp_updL (fun _ => 0) 0 x.toInt64) 1 y.toInt64)))) := k32 _ _ a27 
      have a65 : f37 q18 = some (.inl (cy 1, 2, .inr (.inl (vp_updL (vp_updL (fun _ => 0) 0 x.toInt64) 1 y.toInt64)))) := k40 _ _ a64 (Ne.symm (z_nn u19 a16))
      have F66 : ∀ i9 : Nat, i9 < nn → f1 (fg i9) = some (.inr (4, [.int (kd i9), .ref (pt i9), .long (wg i9), .int (wd i9), .int (nI i9), .int (hs i9), .int (bf i9)])) := fun i9 h9 => k4 _ _ (hF i9 h9) (z_ne (hF i9 h9) x_fa rfl)
      have F67 : ∀ i9 : Nat, i9 < nn → f7 (fg i9) = some (.inr (4, [.int (kd i9), .ref (pt i9), .long (wg i9), .int (wd i9), .int (nI i9), .int (hs i9), .int (bf i9)])) := fun i9 h9 => k9 _ _ (F66 i9 h9) 
      have F68 : ∀ i9 : Nat, i9 < nn → f15 (fg i9) = some (.inr (4, [.int (kd i9), .ref (pt i9), .long (wg i9), .int (wd i9), .int (nI i9), .int (hs i9), .int (bf i9)])) := fun i9 h9 => (k17 _ (z_nn u14 (F67 i9 h9))).trans (F67 i9 h9)
      have F69 : ∀ i9 : Nat, i9 < nn → f20 (fg i9) = some (.inr (4, [.int (kd i9), .ref (pt i9), .long (wg i9), .int (wd i9), .int (nI i9), .int (hs i9), .int (bf i9)])) := fun i9 h9 => (k22 _ (z_nn u19 (F68 i9 h9))).trans (F68 i9 h9)
      have F70 : ∀ i9 : Nat, i9 < nn → f23 (fg i9) = some (.inr (4, [.int (kd i9), .ref (pt i9), .long (wg i9), .int (wd i9), .int (nI i9), .int (hs i9), .int (bf i9)])) := fun i9 h9 => (k25 _ (z_nn u19 (F68 i9 h9))).trans (F69 i9 h9)
      have F71 : ∀ i9 : Nat, i9 < nn → f26 (fg i9) = some (.inr (4, [.int (kd i9), .ref (pt i9), .long (wg i9), .int (wd i9), .int (nI i9), .int (hs i9), .int (bf i9)])) := fun i9 h9 => (k28 _ (z_nn u19 (F68 i9 h9))).trans (F70 i9 h9)
      have F72 : ∀ i9 : Nat, i9 < nn → f29 (fg i9) = some (.inr (4, [.int (kd i9), .ref (pt i9), .long (wg i9), .int (wd i9), .int (nI i9), .int (hs i9), .int (bf i9)])) := fun i9 h9 => k32 _ _ (F71 i9 h9) 
      have F73 : ∀ i9 : Nat, i9 < nn → f37 (fg i9) = some (.inr (4, [.int (kd i9), .ref (pt i9), .long (wg i9), .int (wd i9), .int (nI i9), .int (hs i9), .int (bf i9)])) := fun i9 h9 => k40 _ _ (F72 i9 h9) (z_nn u14 (F67 i9 h9))
      have F74 : ∀ i9 : Nat, i9 < nn → f1 (pt i9) = some (.inl (cy 1, (ln i9), .inr (.inl (pp i9)))) := fun i9 h9 => k4 _ _ (hP i9 h9) (z_neO (hP i9 h9) x_fa rfl)
      have F75 : ∀ i9 : Nat, i9 < nn → f7 (pt i9) = some (.inl (cy 1, (ln i9), .inr (.inl (pp i9)))) := fun i9 h9 => k9 _ _ (F74 i9 h9) 
      have F76 : ∀ i9 : Nat, i9 < nn → f15 (pt i9) = some (.inl (cy 1, (ln i9), .inr (.inl (pp i9)))) := fun i9 h9 => (k17 _ (z_nn u14 (F75 i9 h9))).trans (F75 i9 h9)
      have F77 : ∀ i9 : Nat, i9 < nn → f20 (pt i9) = some (.inl (cy 1, (ln i9), .inr (.inl (pp i9)))) := fun i9 h9 => (k22 _ (z_nn u19 (F76 i9 h9))).trans (F76 i9 h9)
      have F78 : ∀ i9 : Nat, i9 < nn → f23 (pt i9) = some (.inl (cy 1, (ln i9), .inr (.inl (pp i9)))) := fun i9 h9 => (k25 _ (z_nn u19 (F76 i9 h9))).trans (F77 i9 h9)
      have F79 : ∀ i9 : Nat, i9 < nn → f26 (pt i9) = some (.inl (cy 1, (ln i9), .inr (.inl (pp i9)))) := fun i9 h9 => (k28 _ (z_nn u19 (F76 i9 h9))).trans (F78 i9 h9)
      have F80 : ∀ i9 : Nat, i9 < nn → f29 (pt i9) = some (.inl (cy 1, (ln i9), .inr (.inl (pp i9)))) := fun i9 h9 => k32 _ _ (F79 i9 h9) 
      have F81 : ∀ i9 : Nat, i9 < nn → f37 (pt i9) = some (.inl (cy 1, (ln i9), .inr (.inl (pp i9)))) := fun i9 h9 => k40 _ _ (F80 i9 h9) (z_nn u14 (F75 i9 h9))
      refine z_callVi (As := [.ref q13]) C hz hS hA hl (k_X5_add l D cy f37 fi al ra ga gr nn fg pt kd ln pp wg wd hs bf q13 1 q18 r31 0 (-1) 0 0 2 (vp_updL (vp_updL (fun _ => 0) 0 x.toInt64) 1 y.toInt64) a47 a55 a63 a39 a65 F73 F81 h60 hga hgr hln hk5 hfi (fun j9 h9 => z_nn u14 (F67 j9 h9)) (by omega) (fun h9 => absurd h9 (by decide)) har (fun h9 => absurd h9 (by decide))) zyX5_add mMX7_92 a47 zl5 rfl rfl (Nat.le_of_ble_eq_true rfl) ⟨Nat.le_of_ble_eq_true rfl, Nat.le_of_ble_eq_true rfl⟩ ⟨Nat.le_of_ble_eq_true rfl, Nat.le_of_ble_eq_true rfl⟩ dX7_span_65 (fun r f82 H locs h83 hz hS => ?_)
      obtain ⟨hq_84, bq_85, gr_86, bf_87, rfl, p88, p89, a90, a91, a92, F93, F94, k95⟩ := h83
      have a96 : f15 o = some (.inr (7, [.ref fa, .ref fi, .ref nu, .int (nI nl), .ref fm, .int (nI nf), .ref co, .int (nI nc), .ref en, .ref ke, .long lk])) := (k17 _ (z_nn u14 a12)).trans a12
      have a97 : f20 o = some (.inr (7, [.ref fa, .ref fi, .ref nu, .int (nI nl), .ref fm, .int (nI nf), .ref co, .int (nI nc), .ref en, .ref ke, .long lk])) := (k22 _ (z_nn u19 a96)).trans a96
      have a98 : f23 o = some (.inr (7, [.ref fa, .ref fi, .ref nu, .int (nI nl), .ref fm, .int (nI nf), .ref co, .int (nI nc), .ref en, .ref ke, .long lk])) := (k25 _ (z_nn u19 a96)).trans a97
      have a99 : f26 o = some (.inr (7, [.ref fa, .ref fi, .ref nu, .int (nI nl), .ref fm, .int (nI nf), .ref co, .int (nI nc), .ref en, .ref ke, .long lk])) := (k28 _ (z_nn u19 a96)).trans a98
      have a100 : f29 o = some (.inr (7, [.ref fa, .ref fi, .ref nu, .int (nI nl), .ref fm, .int (nI nf), .ref co, .int (nI nc), .ref en, .ref ke, .long lk])) := k32 _ _ a99 
      have a101 : f37 o = some (.inr (7, [.ref fa, .ref fi, .ref nu, .int (nI nl), .ref fm, .int (nI nf), .ref co, .int (nI nc), .ref en, .ref ke, .long lk])) := k40 _ _ a100 (z_nn u14 a12)
      have a102 : f82 o = some (.inr (7, [.ref fa, .ref fi, .ref nu, .int (nI nl), .ref fm, .int (nI nf), .ref co, .int (nI nc), .ref en, .ref ke, .long lk])) := k95 _ _ a101 (z_ne a101 a47 rfl) (z_ne a101 a55 rfl) (z_ne a101 a63 rfl) (z_nn u14 a12) (fun j9 h8 => (z_ne a101 (F73 j9 h8) rfl))
      have a103 : f7 fa = some (.inr (2, [.int 0, .int (-1), .int 0, .ref ev])) := k9 _ _ a3 
      have a104 : f15 fa = some (.inr (2, [.int 0, .int (-1), .int 0, .ref ev])) := (k17 _ (z_nn u14 a103)).trans a103
      have a105 : f20 fa = some (.inr (2, [.int 0, .int (-1), .int 0, .ref ev])) := (k22 _ (z_nn u19 a104)).trans a104
      have a106 : f23 fa = some (.inr (2, [.int 0, .int (-1), .int 0, .ref ev])) := (k25 _ (z_nn u19 a104)).trans a105
      have a107 : f26 fa = some (.inr (2, [.int 0, .int (-1), .int 0, .ref ev])) := (k28 _ (z_nn u19 a104)).trans a106
      have a108 : f29 fa = some (.inr (2, [.int 0, .int (-1), .int 0, .ref ev])) := k32 _ _ a107 
      have a109 : f37 fa = some (.inr (2, [.int 0, .int (-1), .int 0, .ref ev])) := k40 _ _ a108 (z_nn u14 a103)
      have a110 : f82 fa = some (.inr (2, [.int 0, .int (-1), .int 0, .ref ev])) := k95 _ _ a109 (z_ne a109 a47 rfl) (z_ne a109 a55 rfl) (z_ne a109 a63 rfl) (z_nn u14 a103) (fun j9 h8 => (z_ne a109 (F73 j9 h8) rfl))
      have a111 : f1 ev = some (.inl (cy 0, 8, .inl gv)) := k4 _ _ x_ev (z_ne x_ev x_fa rfl)
      have a112 : f7 ev = some (.inl (cy 0, 8, .inl gv)) := k9 _ _ a111 
      have a113 : f15 ev = some (.inl (cy 0, 8, .inl gv)) := (k17 _ (z_nn u14 a112)).trans a112
      have a114 : f20 ev = some (.inl (cy 0, 8, .inl gv)) := (k22 _ (z_nn u19 a113)).trans a113
      have a115 : f23 ev = some (.inl (cy 0, 8, .inl gv)) := (k25 _ (z_nn u19 a113)).trans a114
      have a116 : f26 ev = some (.inl (cy 0, 8, .inl gv)) := (k28 _ (z_nn u19 a113)).trans a115
      have a117 : f29 ev = some (.inl (cy 0, 8, .inl gv)) := k32 _ _ a116 
      have a118 : f37 ev = some (.inl (cy 0, 8, .inl gv)) := k40 _ _ a117 (z_nn u14 a112)
      have a119 : f82 ev = some (.inl (cy 0, 8, .inl gv)) := k95 _ _ a118 (z_ne a118 a47 rfl) (z_ne a118 a55 rfl) (z_ne a118 a63 rfl) (z_nn u14 a112) (fun j9 h8 => (z_ne a118 (F73 j9 h8) rfl))
      have a120 : f1 nu = some (.inl (cy 0, 12, .inl gu)) := k4 _ _ x_nu (z_ne x_nu x_fa rfl)
      have a121 : f7 nu = some (.inl (cy 0, 12, .inl gu)) := k9 _ _ a120 
      have a122 : f15 nu = some (.inl (cy 0, 12, .inl gu)) := (k17 _ (z_nn u14 a121)).trans a121
      have a123 : f20 nu = some (.inl (cy 0, 12, .inl gu)) := (k22 _ (z_nn u19 a122)).trans a122
      have a124 : f23 nu = some (.inl (cy 0, 12, .inl gu)) := (k25 _ (z_nn u19 a122)).trans a123
      have a125 : f26 nu = some (.inl (cy 0, 12, .inl gu)) := (k28 _ (z_nn u19 a122)).trans a124
      have a126 : f29 nu = some (.inl (cy 0, 12, .inl gu)) := k32 _ _ a125 
      have a127 : f37 nu = some (.inl (cy 0, 12, .inl gu)) := k40 _ _ a126 (z_nn u14 a121)
      have a128 : f82 nu = some (.inl (cy 0, 12, .inl gu)) := k95 _ _ a127 (z_ne a127 a47 rfl) (z_ne a127 a55 rfl) (z_ne a127 a63 rfl) (z_nn u14 a121) (fun j9 h8 => (z_ne a127 (F73 j9 h8) rfl))
      have a129 : f1 fm = some (.inl (cy 4, 6, .inr (.inr (.inr (.inr gf))))) := k4 _ _ x_fm (z_ne x_fm x_fa rfl)
      have a130 : f7 fm = some (.inl (cy 4, 6, .inr (.inr (.inr (.inr gf))))) := k9 _ _ a129 
      have a131 : f15 fm = some (.inl (cy 4, 6, .inr (.inr (.inr (.inr gf))))) := (k17 _ (z_nn u14 a130)).trans a130
      have a132 : f20 fm = some (.inl (cy 4, 6, .inr (.inr (.inr (.inr gf))))) := (k22 _ (z_nn u19 a131)).trans a131
      have a133 : f23 fm = some (.inl (cy 4, 6, .inr (.inr (.inr (.inr gf))))) := (k25 _ (z_nn u19 a131)).trans a132
      have a134 : f26 fm = some (.inl (cy 4, 6, .inr (.inr (.inr (.inr gf))))) := (k28 _ (z_nn u19 a131)).trans a133
      have a135 : f29 fm = some (.inl (cy 4, 6, .inr (.inr (.inr (.inr gf))))) := k32 _ _ a134 
      have a136 : f37 fm = some (.inl (cy 4, 6, .inr (.inr (.inr (.inr gf))))) := k40 _ _ a135 (z_nn u14 a130)
      have a137 : f82 fm = some (.inl (cy 4, 6, .inr (.inr (.inr (.inr gf))))) := k95 _ _ a136 (z_ne a136 a47 rfl) (z_ne a136 a55 rfl) (z_ne a136 a63 rfl) (z_nn u14 a130) (fun j9 h8 => (z_ne a136 (F73 j9 h8) rfl))
      have a138 : f1 co = some (.inl (cy 5, 60, .inr (.inr (.inr (.inr gc))))) := k4 _ _ x_co (z_ne x_co x_fa rfl)
      have a139 : f7 co = some (.inl (cy 5, 60, .inr (.inr (.inr (.inr gc))))) := k9 _ _ a138 
      have a140 : f15 co = some (.inl (cy 5, 60, .inr (.inr (.inr (.inr gc))))) := (k17 _ (z_nn u14 a139)).trans a139
      have a141 : f20 co = some (.inl (cy 5, 60, .inr (.inr (.inr (.inr gc))))) := (k22 _ (z_nn u19 a140)).trans a140
      have a142 : f23 co = some (.inl (cy 5, 60, .inr (.inr (.inr (.inr gc))))) := (k25 _ (z_nn u19 a140)).trans a141
      have a143 : f26 co = some (.inl (cy 5, 60, .inr (.inr (.inr (.inr gc))))) := (k28 _ (z_nn u19 a140)).trans a142
      have a144 : f29 co = some (.inl (cy 5, 60, .inr (.inr (.inr (.inr gc))))) := k32 _ _ a143 
      have a145 : f37 co = some (.inl (cy 5, 60, .inr (.inr (.inr (.inr gc))))) := k40 _ _ a144 (z_nn u14 a139)
      have a146 : f82 co = some (.inl (cy 5, 60, .inr (.inr (.inr (.inr gc))))) := k95 _ _ a145 (z_ne a145 a47 rfl) hca hcr (z_nn u14 a139) (fun j9 h8 => (z_ne a145 (F73 j9 h8) rfl))
      have a147 : f1 en = some (.inl (cy 6, 4, .inr (.inr (.inr (.inr ge))))) := k4 _ _ x_en (z_ne x_en x_fa rfl)
      have a148 : f7 en = some (.inl (cy 6, 4, .inr (.inr (.inr (.inr ge))))) := k9 _ _ a147 
      have a149 : f15 en = some (.inl (cy 6, 4, .inr (.inr (.inr (.inr ge))))) := (k17 _ (z_nn u14 a148)).trans a148
      have a150 : f20 en = some (.inl (cy 6, 4, .inr (.inr (.inr (.inr ge))))) := (k22 _ (z_nn u19 a149)).trans a149
      have a151 : f23 en = some (.inl (cy 6, 4, .inr (.inr (.inr (.inr ge))))) := (k25 _ (z_nn u19 a149)).trans a150
      have a152 : f26 en = some (.inl (cy 6, 4, .inr (.inr (.inr (.inr ge))))) := (k28 _ (z_nn u19 a149)).trans a151
      have a153 : f29 en = some (.inl (cy 6, 4, .inr (.inr (.inr (.inr ge))))) := k32 _ _ a152 
      have a154 : f37 en = some (.inl (cy 6, 4, .inr (.inr (.inr (.inr ge))))) := k40 _ _ a153 (z_nn u14 a148)
      have a155 : f82 en = some (.inl (cy 6, 4, .inr (.inr (.inr (.inr ge))))) := k95 _ _ a154 (z_ne a154 a47 rfl) (z_ne a154 a55 rfl) (z_ne a154 a63 rfl) (z_nn u14 a148) (fun j9 h8 => (z_ne a154 (F73 j9 h8) rfl))
      have a156 : f1 ke = some (.inr (6, [.ref kn, .ref vq, .int (nI ks)])) := k4 _ _ x_ke (z_ne x_ke x_fa rfl)
      have a157 : f7 ke = some (.inr (6, [.ref kn, .ref vq, .int (nI ks)])) := k9 _ _ a156 
      have a158 : f15 ke = some (.inr (6, [.ref kn, .ref vq, .int (nI ks)])) := (k17 _ (z_nn u14 a157)).trans a157
      have a159 : f20 ke = some (.inr (6, [.ref kn, .ref vq, .int (nI ks)])) := (k22 _ (z_nn u19 a158)).trans a158
      have a160 : f23 ke = some (.inr (6, [.ref kn, .ref vq, .int (nI ks)])) := (k25 _ (z_nn u19 a158)).trans a159
      have a161 : f26 ke = some (.inr (6, [.ref kn, .ref vq, .int (nI ks)])) := (k28 _ (z_nn u19 a158)).trans a160
      have a162 : f29 ke = some (.inr (6, [.ref kn, .ref vq, .int (nI ks)])) := k32 _ _ a161 
      have a163 : f37 ke = some (.inr (6, [.ref kn, .ref vq, .int (nI ks)])) := k40 _ _ a162 (z_nn u14 a157)
      have a164 : f82 ke = some (.inr (6, [.ref kn, .ref vq, .int (nI ks)])) := k95 _ _ a163 (z_ne a163 a47 rfl) (z_ne a163 a55 rfl) (z_ne a163 a63 rfl) (z_nn u14 a157) (fun j9 h8 => (z_ne a163 (F73 j9 h8) rfl))
      have a165 : f1 kn = some (.inl (cy 0, 40, .inl kk)) := k4 _ _ x_kn (z_ne x_kn x_fa rfl)
      have a166 : f7 kn = some (.inl (cy 0, 40, .inl kk)) := k9 _ _ a165 
      have a167 : f15 kn = some (.inl (cy 0, 40, .inl kk)) := (k17 _ (z_nn u14 a166)).trans a166
      have a168 : f20 kn = some (.inl (cy 0, 40, .inl kk)) := (k22 _ (z_nn u19 a167)).trans a167
      have a169 : f23 kn = some (.inl (cy 0, 40, .inl kk)) := (k25 _ (z_nn u19 a167)).trans a168
      have a170 : f26 kn = some (.inl (cy 0, 40, .inl kk)) := (k28 _ (z_nn u19 a167)).trans a169
      have a171 : f29 kn = some (.inl (cy 0, 40, .inl kk)) := k32 _ _ a170 
      have a172 : f37 kn = some (.inl (cy 0, 40, .inl kk)) := k40 _ _ a171 (z_nn u14 a166)
      have a173 : f82 kn = some (.inl (cy 0, 40, .inl kk)) := k95 _ _ a172 (z_ne a172 a47 rfl) (z_ne a172 a55 rfl) (z_ne a172 a63 rfl) (z_nn u14 a166) (fun j9 h8 => (z_ne a172 (F73 j9 h8) rfl))
      have a174 : f1 vq = some (.inl (cy 0, 40, .inl kv)) := k4 _ _ x_vq (z_ne x_vq x_fa rfl)
      have a175 : f7 vq = some (.inl (cy 0, 40, .inl kv)) := k9 _ _ a174 
      have a176 : f15 vq = some (.inl (cy 0, 40, .inl kv)) := (k17 _ (z_nn u14 a175)).trans a175
      have a177 : f20 vq = some (.inl (cy 0, 40, .inl kv)) := (k22 _ (z_nn u19 a176)).trans a176
      have a178 : f23 vq = some (.inl (cy 0, 40, .inl kv)) := (k25 _ (z_nn u19 a176)).trans a177
      have a179 : f26 vq = some (.inl (cy 0, 40, .inl kv)) := (k28 _ (z_nn u19 a176)).trans a178
      have a180 : f29 vq = some (.inl (cy 0, 40, .inl kv)) := k32 _ _ a179 
      have a181 : f37 vq = some (.inl (cy 0, 40, .inl kv)) := k40 _ _ a180 (z_nn u14 a175)
      have a182 : f82 vq = some (.inl (cy 0, 40, .inl kv)) := k95 _ _ a181 (z_ne a181 a47 rfl) (z_ne a181 a55 rfl) (z_ne a181 a63 rfl) (z_nn u14 a175) (fun j9 h8 => (z_ne a181 (F73 j9 h8) rfl))
      have F183 : ∀ i9 : Nat, i9 < nf → f1 (fq i9) = some (.inr (3, [.ref (fk i9), .int (nI (fz i9))])) := fun i9 h9 => k4 _ _ (hFq i9 h9) (z_ne (hFq i9 h9) x_fa rfl)
      have F184 : ∀ i9 : Nat, i9 < nf → f7 (fq i9) = some (.inr (3, [.ref (fk i9), .int (nI (fz i9))])) := fun i9 h9 => k9 _ _ (F183 i9 h9) 
      have F185 : ∀ i9 : Nat, i9 < nf → f15 (fq i9) = some (.inr (3, [.ref (fk i9), .int (nI (fz i9))])) := fun i9 h9 => (k17 _ (z_nn u14 (F184 i9 h9))).trans (F184 i9 h9)
      have F186 : ∀ i9 : Nat, i9 < nf → f20 (fq i9) = some (.inr (3, [.ref (fk i9), .int (nI (fz i9))])) := fun i9 h9 => (k22 _ (z_nn u19 (F185 i9 h9))).trans (F185 i9 h9)
      have F187 : ∀ i9 : Nat, i9 < nf → f23 (fq i9) = some (.inr (3, [.ref (fk i9), .int (nI (fz i9))])) := fun i9 h9 => (k25 _ (z_nn u19 (F185 i9 h9))).trans (F186 i9 h9)
      have F188 : ∀ i9 : Nat, i9 < nf → f26 (fq i9) = some (.inr (3, [.ref (fk i9), .int (nI (fz i9))])) := fun i9 h9 => (k28 _ (z_nn u19 (F185 i9 h9))).trans (F187 i9 h9)
      have F189 : ∀ i9 : Nat, i9 < nf → f29 (fq i9) = some (.inr (3, [.ref (fk i9), .int (nI (fz i9))])) := fun i9 h9 => k32 _ _ (F188 i9 h9) 
      have F190 : ∀ i9 : Nat, i9 < nf → f37 (fq i9) = some (.inr (3, [.ref (fk i9), .int (nI (fz i9))])) := fun i9 h9 => k40 _ _ (F189 i9 h9) (z_nn u14 (F184 i9 h9))
      have F191 : ∀ i9 : Nat, i9 < nf → f82 (fq i9) = some (.inr (3, [.ref (fk i9), .int (nI (fz i9))])) := fun i9 h9 => k95 _ _ (F190 i9 h9) (z_ne (F190 i9 h9) a47 rfl) (z_ne (F190 i9 h9) a55 rfl) (z_ne (F190 i9 h9) a63 rfl) (z_nn u14 (F184 i9 h9)) (fun j9 h8 => (z_ne (F190 i9 h9) (F73 j9 h8) rfl))
      have F192 : ∀ i9 : Nat, i9 < nf → f1 (fk i9) = some (.inl (cy 0, 4, .inl (fc i9))) := fun i9 h9 => k4 _ _ (hFk i9 h9) (z_ne (hFk i9 h9) x_fa rfl)
      have F193 : ∀ i9 : Nat, i9 < nf → f7 (fk i9) = some (.inl (cy 0, 4, .inl (fc i9))) := fun i9 h9 => k9 _ _ (F192 i9 h9) 
      have F194 : ∀ i9 : Nat, i9 < nf → f15 (fk i9) = some (.inl (cy 0, 4, .inl (fc i9))) := fun i9 h9 => (k17 _ (z_nn u14 (F193 i9 h9))).trans (F193 i9 h9)
      have F195 : ∀ i9 : Nat, i9 < nf → f20 (fk i9) = some (.inl (cy 0, 4, .inl (fc i9))) := fun i9 h9 => (k22 _ (z_nn u19 (F194 i9 h9))).trans (F194 i9 h9)
      have F196 : ∀ i9 : Nat, i9 < nf → f23 (fk i9) = some (.inl (cy 0, 4, .inl (fc i9))) := fun i9 h9 => (k25 _ (z_nn u19 (F194 i9 h9))).trans (F195 i9 h9)
      have F197 : ∀ i9 : Nat, i9 < nf → f26 (fk i9) = some (.inl (cy 0, 4, .inl (fc i9))) := fun i9 h9 => (k28 _ (z_nn u19 (F194 i9 h9))).trans (F196 i9 h9)
      have F198 : ∀ i9 : Nat, i9 < nf → f29 (fk i9) = some (.inl (cy 0, 4, .inl (fc i9))) := fun i9 h9 => k32 _ _ (F197 i9 h9) 
      have F199 : ∀ i9 : Nat, i9 < nf → f37 (fk i9) = some (.inl (cy 0, 4, .inl (fc i9))) := fun i9 h9 => k40 _ _ (F198 i9 h9) (z_nn u14 (F193 i9 h9))
      have F200 : ∀ i9 : Nat, i9 < nf → f82 (fk i9) = some (.inl (cy 0, 4, .inl (fc i9))) := fun i9 h9 => k95 _ _ (F199 i9 h9) (z_ne (F199 i9 h9) a47 rfl) (z_ne (F199 i9 h9) a55 rfl) (z_ne (F199 i9 h9) a63 rfl) (z_nn u14 (F193 i9 h9)) (fun j9 h8 => (z_ne (F199 i9 h9) (F73 j9 h8) rfl))
      have F201 : ∀ i9 : Nat, i9 < nc → f1 (cn i9) = some (.inr (0, [.int (ce i9), .int (cm i9)])) := fun i9 h9 => k4 _ _ (hCn i9 h9) (z_ne (hCn i9 h9) x_fa rfl)
      have F202 : ∀ i9 : Nat, i9 < nc → f7 (cn i9) = some (.inr (0, [.int (ce i9), .int (cm i9)])) := fun i9 h9 => k9 _ _ (F201 i9 h9) 
      have F203 : ∀ i9 : Nat, i9 < nc → f15 (cn i9) = some (.inr (0, [.int (ce i9), .int (cm i9)])) := fun i9 h9 => (k17 _ (z_nn u14 (F202 i9 h9))).trans (F202 i9 h9)
      have F204 : ∀ i9 : Nat, i9 < nc → f20 (cn i9) = some (.inr (0, [.int (ce i9), .int (cm i9)])) := fun i9 h9 => (k22 _ (z_nn u19 (F203 i9 h9))).trans (F203 i9 h9)
      have F205 : ∀ i9 : Nat, i9 < nc → f23 (cn i9) = some (.inr (0, [.int (ce i9), .int (cm i9)])) := fun i9 h9 => (k25 _ (z_nn u19 (F203 i9 h9))).trans (F204 i9 h9)
      have F206 : ∀ i9 : Nat, i9 < nc → f26 (cn i9) = some (.inr (0, [.int (ce i9), .int (cm i9)])) := fun i9 h9 => (k28 _ (z_nn u19 (F203 i9 h9))).trans (F205 i9 h9)
      have F207 : ∀ i9 : Nat, i9 < nc → f29 (cn i9) = some (.inr (0, [.int (ce i9), .int (cm i9)])) := fun i9 h9 => k32 _ _ (F206 i9 h9) 
      have F208 : ∀ i9 : Nat, i9 < nc → f37 (cn i9) = some (.inr (0, [.int (ce i9), .int (cm i9)])) := fun i9 h9 => k40 _ _ (F207 i9 h9) (z_nn u14 (F202 i9 h9))
      have F209 : ∀ i9 : Nat, i9 < nc → f82 (cn i9) = some (.inr (0, [.int (ce i9), .int (cm i9)])) := fun i9 h9 => k95 _ _ (F208 i9 h9) (z_ne (F208 i9 h9) a47 rfl) (z_ne (F208 i9 h9) a55 rfl) (z_ne (F208 i9 h9) a63 rfl) (z_nn u14 (F202 i9 h9)) (fun j9 h8 => (z_ne (F208 i9 h9) (F73 j9 h8) rfl))
      have F210 : ∀ i9 : Nat, i9 < 4 → f1 (ea i9) = some (.inr (1, [.ref (ma i9), .int (nI (sq i9))])) := fun i9 h9 => k4 _ _ (hEa i9 h9) (z_ne (hEa i9 h9) x_fa rfl)
      have F211 : ∀ i9 : Nat, i9 < 4 → f7 (ea i9) = some (.inr (1, [.ref (ma i9), .int (nI (sq i9))])) := fun i9 h9 => k9 _ _ (F210 i9 h9) 
      have F212 : ∀ i9 : Nat, i9 < 4 → f15 (ea i9) = some (.inr (1, [.ref (ma i9), .int (nI (sq i9))])) := fun i9 h9 => (k17 _ (z_nn u14 (F211 i9 h9))).trans (F211 i9 h9)
      have F213 : ∀ i9 : Nat, i9 < 4 → f20 (ea i9) = some (.inr (1, [.ref (ma i9), .int (nI (sq i9))])) := fun i9 h9 => (k22 _ (z_nn u19 (F212 i9 h9))).trans (F212 i9 h9)
      have F214 : ∀ i9 : Nat, i9 < 4 → f23 (ea i9) = some (.inr (1, [.ref (ma i9), .int (nI (sq i9))])) := fun i9 h9 => (k25 _ (z_nn u19 (F212 i9 h9))).trans (F213 i9 h9)
      have F215 : ∀ i9 : Nat, i9 < 4 → f26 (ea i9) = some (.inr (1, [.ref (ma i9), .int (nI (sq i9))])) := fun i9 h9 => (k28 _ (z_nn u19 (F212 i9 h9))).trans (F214 i9 h9)
      have F216 : ∀ i9 : Nat, i9 < 4 → f29 (ea i9) = some (.inr (1, [.ref (ma i9), .int (nI (sq i9))])) := fun i9 h9 => k32 _ _ (F215 i9 h9) 
      have F217 : ∀ i9 : Nat, i9 < 4 → f37 (ea i9) = some (.inr (1, [.ref (ma i9), .int (nI (sq i9))])) := fun i9 h9 => k40 _ _ (F216 i9 h9) (z_nn u14 (F211 i9 h9))
      have F218 : ∀ i9 : Nat, i9 < 4 → f82 (ea i9) = some (.inr (1, [.ref (ma i9), .int (nI (sq i9))])) := fun i9 h9 => k95 _ _ (F217 i9 h9) (z_ne (F217 i9 h9) a47 rfl) (z_ne (F217 i9 h9) a55 rfl) (z_ne (F217 i9 h9) a63 rfl) (z_nn u14 (F211 i9 h9)) (fun j9 h8 => (z_ne (F217 i9 h9) (F73 j9 h8) rfl))
      have F219 : ∀ i9 : Nat, i9 < 4 → f1 (ma i9) = some (.inl (cy 0, 60, .inl (mb i9))) := fun i9 h9 => k4 _ _ (hMa i9 h9) (z_ne (hMa i9 h9) x_fa rfl)
      have F220 : ∀ i9 : Nat, i9 < 4 → f7 (ma i9) = some (.inl (cy 0, 60, .inl (mb i9))) := fun i9 h9 => k9 _ _ (F219 i9 h9) 
      have F221 : ∀ i9 : Nat, i9 < 4 → f15 (ma i9) = some (.inl (cy 0, 60, .inl (mb i9))) := fun i9 h9 => (k17 _ (z_nn u14 (F220 i9 h9))).trans (F220 i9 h9)
      have F222 : ∀ i9 : Nat, i9 < 4 → f20 (ma i9) = some (.inl (cy 0, 60, .inl (mb i9))) := fun i9 h9 => (k22 _ (z_nn u19 (F221 i9 h9))).trans (F221 i9 h9)
      have F223 : ∀ i9 : Nat, i9 < 4 → f23 (ma i9) = some (.inl (cy 0, 60, .inl (mb i9))) := fun i9 h9 => (k25 _ (z_nn u19 (F221 i9 h9))).trans (F222 i9 h9)
      have F224 : ∀ i9 : Nat, i9 < 4 → f26 (ma i9) = some (.inl (cy 0, 60, .inl (mb i9))) := fun i9 h9 => (k28 _ (z_nn u19 (F221 i9 h9))).trans (F223 i9 h9)
      have F225 : ∀ i9 : Nat, i9 < 4 → f29 (ma i9) = some (.inl (cy 0, 60, .inl (mb i9))) := fun i9 h9 => k32 _ _ (F224 i9 h9) 
      have F226 : ∀ i9 : Nat, i9 < 4 → f37 (ma i9) = some (.inl (cy 0, 60, .inl (mb i9))) := fun i9 h9 => k40 _ _ (F225 i9 h9) (z_nn u14 (F220 i9 h9))
      have F227 : ∀ i9 : Nat, i9 < 4 → f82 (ma i9) = some (.inl (cy 0, 60, .inl (mb i9))) := fun i9 h9 => k95 _ _ (F226 i9 h9) (z_ne (F226 i9 h9) a47 rfl) (z_ne (F226 i9 h9) a55 rfl) (z_ne (F226 i9 h9) a63 rfl) (z_nn u14 (F220 i9 h9)) (fun j9 h8 => (z_ne (F226 i9 h9) (F73 j9 h8) rfl))
      have a228 : f82 q18 = some (.inl (cy 1, 2, .inr (.inl (vp_updL (vp_updL (fun _ => 0) 0 x.toInt64) 1 y.toInt64)))) := k95 _ _ a65 (Ne.symm (z_nn u19 a42)) (Ne.symm (z_nn u19 a50)) (Ne.symm (z_nn u19 a58)) (Ne.symm (z_nn u19 a16)) (fun j9 h8 => (z_ne a65 (F73 j9 h8) rfl))
      have hgpf : ∀ j, j < 2 → (vp_updL (vp_updL (fun _ => 0) 0 x.toInt64) 1 y.toInt64) j = (q2 x.toInt64 y.toInt64) j := (z_j2 _ _ _)
      have hq : q_span nn x y = (nI nn, 0, (-1), 0) := by simp [q_span, h60, c10, c11]
      exact z_iret C hr rfl hz hS ⟨0, (-1), 0, gv, nl, gu, (nn + 1), (va_up ga nn (some q13)), gr_86, (va_up fg nn q13), (va_up pt nn q18), (va_up kd nn 1), (va_up ln nn 2), (va_up pp nn (vp_updL (vp_updL (fun _ => 0) 0 x.toInt64) 1 y.toInt64)), (va_up wg nn r31), (va_up wd nn 0), (va_up hs nn hq_84), (va_up bf_87 nn bq_85), nf, gf, fq, fk, fz, fc, nc, gc, cn, ce, cm, sq, mb, ks, kk, kv, lk, (by rw [hq]), (by rw [hq]), (by rw [hq]), (by rw [hq]), (by rw [hq]; exact (zEV0 gv).symm), rfl, rfl, (by rw [if_pos (nI_pos' (by omega))]), (by rw [if_pos (nI_pos' (by omega))]), (by rw [if_pos (nI_pos' (by omega))]), (zPP_new hgpf), (by rw [if_pos (nI_pos' (by omega))]), (by rw [if_pos (nI_pos' (by omega)), p88, zHash_congr (gp' := q2 x.toInt64 y.toInt64) hgpf]), rfl, rfl, rfl, rfl, rfl, rfl, rfl, rfl, rfl, rfl, rfl, rfl, ⟨a102, a110, a119, a90, a91, a92, a128, a137, a146, a155, a164, a173, a182, F93, F94, F191, F200, F209, F218, F227, (by omega), hl12, hf6, hc60, hs40, (z_ga1 hga), (z_gr1 p89), (z_up1 (P := fun _ a9 => a9 ≤ 15) hln (by omega)), (z_up2 (P := fun (a9 : Int32) (b9 : Nat) => a9 = 5 → 3 ≤ b9) hk5 (fun h9 => absurd h9 (by decide))), (z_up2 (P := fun (a9 : Int32) (b9 : Nat) => a9 = 4 → 2 ≤ b9) hk4 (fun h9 => absurd h9 (by decide))), (z_inj1 hfi (fun j9 h9 => z_nn u14 (F67 j9 h9))), (z_inj1 hpi (fun j9 h9 => z_nn u19 (F76 j9 h9))), har, hgf, hfz, hgc, hG, hsq, hei, hmi, kne, hca, hcr, hlk⟩⟩ (Nat.le_of_ble_eq_true rfl) (Nat.le_of_ble_eq_true rfl) dX7_span_68
    · refine lv_aload_n hx hb dX7_span_25 rfl (lv_at hl 0 rfl) ?_
      have a229 : f7 o = some (.inr (7, [.ref fa, .ref fi, .ref nu, .int (nI nl), .ref fm, .int (nI nf), .ref co, .int (nI nc), .ref en, .ref ke, .long lk])) := k9 _ _ a5 
      refine z_get (v := .ref fa) C hz a229 zl7 mFX7_10 (by decide) rfl dX7_span_26 ?_
      refine lv_iconst (v := 1) hx hb dX7_span_29 (by decide) ?_
      refine lv_iconst (v := 1) hx hb dX7_span_30 (by decide) ?_
      have a230 : f7 fa = some (.inr (2, [.int 0, .int (-1), .int 0, .ref ev])) := k9 _ _ a3 
      have a231 : f1 ev = some (.inl (cy 0, 8, .inl gv)) := k4 _ _ x_ev (z_ne x_ev x_fa rfl)
      have a232 : f7 ev = some (.inl (cy 0, 8, .inl gv)) := k9 _ _ a231 
      refine z_callVi (As := [.int 1, .int 1]) C hz hS hA hl (k_X2_own l D cy f7 fa 1 1 0 (-1) 0 ev gv a230 a232 ) zyX2_own mMX7_96 a230 zl2 rfl rfl (Nat.le_of_ble_eq_true rfl) ⟨Nat.le_of_ble_eq_true rfl, Nat.le_of_ble_eq_true rfl⟩ ⟨Nat.le_of_ble_eq_true rfl, Nat.le_of_ble_eq_true rfl⟩ dX7_span_31 (fun r f233 H locs h234 hz hS => ?_)
      obtain ⟨rfl, a235, a236, k237⟩ := h234
      have a238 : f233 o = some (.inr (7, [.ref fa, .ref fi, .ref nu, .int (nI nl), .ref fm, .int (nI nf), .ref co, .int (nI nc), .ref en, .ref ke, .long lk])) := k237 _ _ a229 (z_ne a229 a230 rfl) (z_ne a229 a232 rfl)
      have a239 : f7 fi = some (.inr (5, [.ref al, .ref ra, .int (nI nn)])) := k9 _ _ a6 
      have a240 : f233 fi = some (.inr (5, [.ref al, .ref ra, .int (nI nn)])) := k237 _ _ a239 (z_ne a239 a230 rfl) (z_ne a239 a232 rfl)
      have a241 : f1 al = some (.inl (cy 3, 60, .inr (.inr (.inr (.inr ga))))) := k4 _ _ x_al (z_ne x_al x_fa rfl)
      have a242 : f7 al = some (.inl (cy 3, 60, .inr (.inr (.inr (.inr ga))))) := k9 _ _ a241 
      have a243 : f233 al = some (.inl (cy 3, 60, .inr (.inr (.inr (.inr ga))))) := k237 _ _ a242 (z_ne a242 a230 rfl) (z_ne a242 a232 rfl)
      have a244 : f1 ra = some (.inl (cy 3, 60, .inr (.inr (.inr (.inr gr))))) := k4 _ _ x_ra (z_ne x_ra x_fa rfl)
      have a245 : f7 ra = some (.inl (cy 3, 60, .inr (.inr (.inr (.inr gr))))) := k9 _ _ a244 
      have a246 : f233 ra = some (.inl (cy 3, 60, .inr (.inr (.inr (.inr gr))))) := k237 _ _ a245 (z_ne a245 a230 rfl) (z_ne a245 a232 rfl)
      have a247 : f1 nu = some (.inl (cy 0, 12, .inl gu)) := k4 _ _ x_nu (z_ne x_nu x_fa rfl)
      have a248 : f7 nu = some (.inl (cy 0, 12, .inl gu)) := k9 _ _ a247 
      have a249 : f233 nu = some (.inl (cy 0, 12, .inl gu)) := k237 _ _ a248 (z_ne a248 a230 rfl) (z_ne a248 a232 rfl)
      have a250 : f1 fm = some (.inl (cy 4, 6, .inr (.inr (.inr (.inr gf))))) := k4 _ _ x_fm (z_ne x_fm x_fa rfl)
      have a251 : f7 fm = some (.inl (cy 4, 6, .inr (.inr (.inr (.inr gf))))) := k9 _ _ a250 
      have a252 : f233 fm = some (.inl (cy 4, 6, .inr (.inr (.inr (.inr gf))))) := k237 _ _ a251 (z_ne a251 a230 rfl) (z_ne a251 a232 rfl)
      have a253 : f1 co = some (.inl (cy 5, 60, .inr (.inr (.inr (.inr gc))))) := k4 _ _ x_co (z_ne x_co x_fa rfl)
      have a254 : f7 co = some (.inl (cy 5, 60, .inr (.inr (.inr (.inr gc))))) := k9 _ _ a253 
      have a255 : f233 co = some (.inl (cy 5, 60, .inr (.inr (.inr (.inr gc))))) := k237 _ _ a254 (z_ne a254 a230 rfl) (z_ne a254 a232 rfl)
      have a256 : f1 en = some (.inl (cy 6, 4, .inr (.inr (.inr (.inr ge))))) := k4 _ _ x_en (z_ne x_en x_fa rfl)
      have a257 : f7 en = some (.inl (cy 6, 4, .inr (.inr (.inr (.inr ge))))) := k9 _ _ a256 
      have a258 : f233 en = some (.inl (cy 6, 4, .inr (.inr (.inr (.inr ge))))) := k237 _ _ a257 (z_ne a257 a230 rfl) (z_ne a257 a232 rfl)
      have a259 : f1 ke = some (.inr (6, [.ref kn, .ref vq, .int (nI ks)])) := k4 _ _ x_ke (z_ne x_ke x_fa rfl)
      have a260 : f7 ke = some (.inr (6, [.ref kn, .ref vq, .int (nI ks)])) := k9 _ _ a259 
      have a261 : f233 ke = some (.inr (6, [.ref kn, .ref vq, .int (nI ks)])) := k237 _ _ a260 (z_ne a260 a230 rfl) (z_ne a260 a232 rfl)
      have a262 : f1 kn = some (.inl (cy 0, 40, .inl kk)) := k4 _ _ x_kn (z_ne x_kn x_fa rfl)
      have a263 : f7 kn = some (.inl (cy 0, 40, .inl kk)) := k9 _ _ a262 
      have a264 : f233 kn = some (.inl (cy 0, 40, .inl kk)) := k237 _ _ a263 (z_ne a263 a230 rfl) (z_ne a263 a232 rfl)
      have a265 : f1 vq = some (.inl (cy 0, 40, .inl kv)) := k4 _ _ x_vq (z_ne x_vq x_fa rfl)
      have a266 : f7 vq = some (.inl (cy 0, 40, .inl kv)) := k9 _ _ a265 
      have a267 : f233 vq = some (.inl (cy 0, 40, .inl kv)) := k237 _ _ a266 (z_ne a266 a230 rfl) (z_ne a266 a232 rfl)
      have F268 : ∀ i9 : Nat, i9 < nn → f1 (fg i9) = some (.inr (4, [.int (kd i9), .ref (pt i9), .long (wg i9), .int (wd i9), .int (nI i9), .int (hs i9), .int (bf i9)])) := fun i9 h9 => k4 _ _ (hF i9 h9) (z_ne (hF i9 h9) x_fa rfl)
      have F269 : ∀ i9 : Nat, i9 < nn → f7 (fg i9) = some (.inr (4, [.int (kd i9), .ref (pt i9), .long (wg i9), .int (wd i9), .int (nI i9), .int (hs i9), .int (bf i9)])) := fun i9 h9 => k9 _ _ (F268 i9 h9) 
      have F270 : ∀ i9 : Nat, i9 < nn → f233 (fg i9) = some (.inr (4, [.int (kd i9), .ref (pt i9), .long (wg i9), .int (wd i9), .int (nI i9), .int (hs i9), .int (bf i9)])) := fun i9 h9 => k237 _ _ (F269 i9 h9) (z_ne (F269 i9 h9) a230 rfl) (z_ne (F269 i9 h9) a232 rfl)
      have F271 : ∀ i9 : Nat, i9 < nn → f1 (pt i9) = some (.inl (cy 1, (ln i9), .inr (.inl (pp i9)))) := fun i9 h9 => k4 _ _ (hP i9 h9) (z_neO (hP i9 h9) x_fa rfl)
      have F272 : ∀ i9 : Nat, i9 < nn → f7 (pt i9) = some (.inl (cy 1, (ln i9), .inr (.inl (pp i9)))) := fun i9 h9 => k9 _ _ (F271 i9 h9) 
      have F273 : ∀ i9 : Nat, i9 < nn → f233 (pt i9) = some (.inl (cy 1, (ln i9), .inr (.inl (pp i9)))) := fun i9 h9 => k237 _ _ (F272 i9 h9) (z_neO (F272 i9 h9) a230 rfl) (z_neA (F272 i9 h9) a232 rfl)
      have F274 : ∀ i9 : Nat, i9 < nf → f1 (fq i9) = some (.inr (3, [.ref (fk i9), .int (nI (fz i9))])) := fun i9 h9 => k4 _ _ (hFq i9 h9) (z_ne (hFq i9 h9) x_fa rfl)
      have F275 : ∀ i9 : Nat, i9 < nf → f7 (fq i9) = some (.inr (3, [.ref (fk i9), .int (nI (fz i9))])) := fun i9 h9 => k9 _ _ (F274 i9 h9) 
      have F276 : ∀ i9 : Nat, i9 < nf → f233 (fq i9) = some (.inr (3, [.ref (fk i9), .int (nI (fz i9))])) := fun i9 h9 => k237 _ _ (F275 i9 h9) (z_ne (F275 i9 h9) a230 rfl) (z_ne (F275 i9 h9) a232 rfl)
      have F277 : ∀ i9 : Nat, i9 < nf → f1 (fk i9) = some (.inl (cy 0, 4, .inl (fc i9))) := fun i9 h9 => k4 _ _ (hFk i9 h9) (z_ne (hFk i9 h9) x_fa rfl)
      have F278 : ∀ i9 : Nat, i9 < nf → f7 (fk i9) = some (.inl (cy 0, 4, .inl (fc i9))) := fun i9 h9 => k9 _ _ (F277 i9 h9) 
      have F279 : ∀ i9 : Nat, i9 < nf → f233 (fk i9) = some (.inl (cy 0, 4, .inl (fc i9))) := fun i9 h9 => k237 _ _ (F278 i9 h9) (z_ne (F278 i9 h9) a230 rfl) (z_ne (F278 i9 h9) a232 rfl)
      have F280 : ∀ i9 : Nat, i9 < nc → f1 (cn i9) = some (.inr (0, [.int (ce i9), .int (cm i9)])) := fun i9 h9 => k4 _ _ (hCn i9 h9) (z_ne (hCn i9 h9) x_fa rfl)
      have F281 : ∀ i9 : Nat, i9 < nc → f7 (cn i9) = some (.inr (0, [.int (ce i9), .int (cm i9)])) := fun i9 h9 => k9 _ _ (F280 i9 h9) 
      have F282 : ∀ i9 : Nat, i9 < nc → f233 (cn i9) = some (.inr (0, [.int (ce i9), .int (cm i9)])) := fun i9 h9 => k237 _ _ (F281 i9 h9) (z_ne (F281 i9 h9) a230 rfl) (z_ne (F281 i9 h9) a232 rfl)
      have F283 : ∀ i9 : Nat, i9 < 4 → f1 (ea i9) = some (.inr (1, [.ref (ma i9), .int (nI (sq i9))])) := fun i9 h9 => k4 _ _ (hEa i9 h9) (z_ne (hEa i9 h9) x_fa rfl)
      have F284 : ∀ i9 : Nat, i9 < 4 → f7 (ea i9) = some (.inr (1, [.ref (ma i9), .int (nI (sq i9))])) := fun i9 h9 => k9 _ _ (F283 i9 h9) 
      have F285 : ∀ i9 : Nat, i9 < 4 → f233 (ea i9) = some (.inr (1, [.ref (ma i9), .int (nI (sq i9))])) := fun i9 h9 => k237 _ _ (F284 i9 h9) (z_ne (F284 i9 h9) a230 rfl) (z_ne (F284 i9 h9) a232 rfl)
      have F286 : ∀ i9 : Nat, i9 < 4 → f1 (ma i9) = some (.inl (cy 0, 60, .inl (mb i9))) := fun i9 h9 => k4 _ _ (hMa i9 h9) (z_ne (hMa i9 h9) x_fa rfl)
      have F287 : ∀ i9 : Nat, i9 < 4 → f7 (ma i9) = some (.inl (cy 0, 60, .inl (mb i9))) := fun i9 h9 => k9 _ _ (F286 i9 h9) 
      have F288 : ∀ i9 : Nat, i9 < 4 → f233 (ma i9) = some (.inl (cy 0, 60, .inl (mb i9))) := fun i9 h9 => k237 _ _ (F287 i9 h9) (z_ne (F287 i9 h9) a230 rfl) (z_ne (F287 i9 h9) a232 rfl)
      have hq : q_span nn x y = ((-4), 7, 1, 1) := by simp [q_span, h60, c10, c11]
      exact z_iret C hr rfl hz hS ⟨7, 1, 1, (upd gv 7 (gv 7 + 1)), nl, gu, nn, ga, gr, fg, pt, kd, ln, pp, wg, wd, hs, bf, nf, gf, fq, fk, fz, fc, nc, gc, cn, ce, cm, sq, mb, ks, kk, kv, lk, (by rw [hq]), (by rw [hq]), (by rw [hq]), (by rw [hq]), (by rw [hq]; exact (zEV7 gv).symm), rfl, rfl, (by rw [if_neg (by decide)]), (by rw [if_neg (by decide)]), (by rw [if_neg (by decide)]), (zPP_no (by decide)), (by rw [if_neg (by decide)]), (by rw [if_neg (by decide)]), rfl, rfl, rfl, rfl, rfl, rfl, rfl, rfl, rfl, rfl, rfl, rfl, ⟨a238, a235, a236, a240, a243, a246, a249, a252, a255, a258, a261, a264, a267, F270, F273, F276, F279, F282, F285, F288, hn60, hl12, hf6, hc60, hs40, hga, hgr, hln, hk5, hk4, hfi, hpi, har, hgf, hfz, hgc, hG, hsq, hei, hmi, kne, hca, hcr, hlk⟩⟩ (Nat.le_of_ble_eq_true rfl) (Nat.le_of_ble_eq_true rfl) dX7_span_34
  · have a289 : f1 fi = some (.inr (5, [.ref al, .ref ra, .int (nI nn)])) := k4 _ _ x_fi (z_ne x_fi x_fa rfl)
    refine z_callVi (As := []) C hz hS hA hl (k_X5_isFull_B l D cy f1 fi al ra nn a289 hn60 h60) zyX5_isFull mMX7_79 a289 zl5 rfl rfl (Nat.le_of_ble_eq_true rfl) ⟨Nat.le_of_ble_eq_true rfl, Nat.le_of_ble_eq_true rfl⟩ ⟨Nat.le_of_ble_eq_true rfl, Nat.le_of_ble_eq_true rfl⟩ dX7_span_11 (fun r f290 H locs h291 hz hS => ?_)
    obtain ⟨rfl, k292⟩ := h291
    refine lv_if_eq (tgt := 20) hx hb dX7_span_14 (by decide) (fun c293 => ?_) (fun c293 => ?_)
    · exact absurd c293 (by decide)
    refine lv_bipush (v := (-3)) hx hb dX7_span_17 (by decide) ?_
    have a294 : f290 o = some (.inr (7, [.ref fa, .ref fi, .ref nu, .int (nI nl), .ref fm, .int (nI nf), .ref co, .int (nI nc), .ref en, .ref ke, .long lk])) := k292 _ _ a5 
    have a295 : f290 fa = some (.inr (2, [.int 0, .int (-1), .int 0, .ref ev])) := k292 _ _ a3 
    have a296 : f1 ev = some (.inl (cy 0, 8, .inl gv)) := k4 _ _ x_ev (z_ne x_ev x_fa rfl)
    have a297 : f290 ev = some (.inl (cy 0, 8, .inl gv)) := k292 _ _ a296 
    have a298 : f290 fi = some (.inr (5, [.ref al, .ref ra, .int (nI nn)])) := k292 _ _ a289 
    have a299 : f1 al = some (.inl (cy 3, 60, .inr (.inr (.inr (.inr ga))))) := k4 _ _ x_al (z_ne x_al x_fa rfl)
    have a300 : f290 al = some (.inl (cy 3, 60, .inr (.inr (.inr (.inr ga))))) := k292 _ _ a299 
    have a301 : f1 ra = some (.inl (cy 3, 60, .inr (.inr (.inr (.inr gr))))) := k4 _ _ x_ra (z_ne x_ra x_fa rfl)
    have a302 : f290 ra = some (.inl (cy 3, 60, .inr (.inr (.inr (.inr gr))))) := k292 _ _ a301 
    have a303 : f1 nu = some (.inl (cy 0, 12, .inl gu)) := k4 _ _ x_nu (z_ne x_nu x_fa rfl)
    have a304 : f290 nu = some (.inl (cy 0, 12, .inl gu)) := k292 _ _ a303 
    have a305 : f1 fm = some (.inl (cy 4, 6, .inr (.inr (.inr (.inr gf))))) := k4 _ _ x_fm (z_ne x_fm x_fa rfl)
    have a306 : f290 fm = some (.inl (cy 4, 6, .inr (.inr (.inr (.inr gf))))) := k292 _ _ a305 
    have a307 : f1 co = some (.inl (cy 5, 60, .inr (.inr (.inr (.inr gc))))) := k4 _ _ x_co (z_ne x_co x_fa rfl)
    have a308 : f290 co = some (.inl (cy 5, 60, .inr (.inr (.inr (.inr gc))))) := k292 _ _ a307 
    have a309 : f1 en = some (.inl (cy 6, 4, .inr (.inr (.inr (.inr ge))))) := k4 _ _ x_en (z_ne x_en x_fa rfl)
    have a310 : f290 en = some (.inl (cy 6, 4, .inr (.inr (.inr (.inr ge))))) := k292 _ _ a309 
    have a311 : f1 ke = some (.inr (6, [.ref kn, .ref vq, .int (nI ks)])) := k4 _ _ x_ke (z_ne x_ke x_fa rfl)
    have a312 : f290 ke = some (.inr (6, [.ref kn, .ref vq, .int (nI ks)])) := k292 _ _ a311 
    have a313 : f1 kn = some (.inl (cy 0, 40, .inl kk)) := k4 _ _ x_kn (z_ne x_kn x_fa rfl)
    have a314 : f290 kn = some (.inl (cy 0, 40, .inl kk)) := k292 _ _ a313 
    have a315 : f1 vq = some (.inl (cy 0, 40, .inl kv)) := k4 _ _ x_vq (z_ne x_vq x_fa rfl)
    have a316 : f290 vq = some (.inl (cy 0, 40, .inl kv)) := k292 _ _ a315 
    have F317 : ∀ i9 : Nat, i9 < nn → f1 (fg i9) = some (.inr (4, [.int (kd i9), .ref (pt i9), .long (wg i9), .int (wd i9), .int (nI i9), .int (hs i9), .int (bf i9)])) := fun i9 h9 => k4 _ _ (hF i9 h9) (z_ne (hF i9 h9) x_fa rfl)
    have F318 : ∀ i9 : Nat, i9 < nn → f290 (fg i9) = some (.inr (4, [.int (kd i9), .ref (pt i9), .long (wg i9), .int (wd i9), .int (nI i9), .int (hs i9), .int (bf i9)])) := fun i9 h9 => k292 _ _ (F317 i9 h9) 
    have F319 : ∀ i9 : Nat, i9 < nn → f1 (pt i9) = some (.inl (cy 1, (ln i9), .inr (.inl (pp i9)))) := fun i9 h9 => k4 _ _ (hP i9 h9) (z_neO (hP i9 h9) x_fa rfl)
    have F320 : ∀ i9 : Nat, i9 < nn → f290 (pt i9) = some (.inl (cy 1, (ln i9), .inr (.inl (pp i9)))) := fun i9 h9 => k292 _ _ (F319 i9 h9) 
    have F321 : ∀ i9 : Nat, i9 < nf → f1 (fq i9) = some (.inr (3, [.ref (fk i9), .int (nI (fz i9))])) := fun i9 h9 => k4 _ _ (hFq i9 h9) (z_ne (hFq i9 h9) x_fa rfl)
    have F322 : ∀ i9 : Nat, i9 < nf → f290 (fq i9) = some (.inr (3, [.ref (fk i9), .int (nI (fz i9))])) := fun i9 h9 => k292 _ _ (F321 i9 h9) 
    have F323 : ∀ i9 : Nat, i9 < nf → f1 (fk i9) = some (.inl (cy 0, 4, .inl (fc i9))) := fun i9 h9 => k4 _ _ (hFk i9 h9) (z_ne (hFk i9 h9) x_fa rfl)
    have F324 : ∀ i9 : Nat, i9 < nf → f290 (fk i9) = some (.inl (cy 0, 4, .inl (fc i9))) := fun i9 h9 => k292 _ _ (F323 i9 h9) 
    have F325 : ∀ i9 : Nat, i9 < nc → f1 (cn i9) = some (.inr (0, [.int (ce i9), .int (cm i9)])) := fun i9 h9 => k4 _ _ (hCn i9 h9) (z_ne (hCn i9 h9) x_fa rfl)
    have F326 : ∀ i9 : Nat, i9 < nc → f290 (cn i9) = some (.inr (0, [.int (ce i9), .int (cm i9)])) := fun i9 h9 => k292 _ _ (F325 i9 h9) 
    have F327 : ∀ i9 : Nat, i9 < 4 → f1 (ea i9) = some (.inr (1, [.ref (ma i9), .int (nI (sq i9))])) := fun i9 h9 => k4 _ _ (hEa i9 h9) (z_ne (hEa i9 h9) x_fa rfl)
    have F328 : ∀ i9 : Nat, i9 < 4 → f290 (ea i9) = some (.inr (1, [.ref (ma i9), .int (nI (sq i9))])) := fun i9 h9 => k292 _ _ (F327 i9 h9) 
    have F329 : ∀ i9 : Nat, i9 < 4 → f1 (ma i9) = some (.inl (cy 0, 60, .inl (mb i9))) := fun i9 h9 => k4 _ _ (hMa i9 h9) (z_ne (hMa i9 h9) x_fa rfl)
    have F330 : ∀ i9 : Nat, i9 < 4 → f290 (ma i9) = some (.inl (cy 0, 60, .inl (mb i9))) := fun i9 h9 => k292 _ _ (F329 i9 h9) 
    have hq : q_span nn x y = ((-3), 0, (-1), 0) := by simp [q_span, h60, c293]
    exact z_iret C hr rfl hz hS ⟨0, (-1), 0, gv, nl, gu, nn, ga, gr, fg, pt, kd, ln, pp, wg, wd, hs, bf, nf, gf, fq, fk, fz, fc, nc, gc, cn, ce, cm, sq, mb, ks, kk, kv, lk, (by rw [hq]), (by rw [hq]), (by rw [hq]), (by rw [hq]), (by rw [hq]; exact (zEV0 gv).symm), rfl, rfl, (by rw [if_neg (by decide)]), (by rw [if_neg (by decide)]), (by rw [if_neg (by decide)]), (zPP_no (by decide)), (by rw [if_neg (by decide)]), (by rw [if_neg (by decide)]), rfl, rfl, rfl, rfl, rfl, rfl, rfl, rfl, rfl, rfl, rfl, rfl, ⟨a294, a295, a297, a298, a300, a302, a304, a306, a308, a310, a312, a314, a316, F318, F320, F322, F324, F326, F328, F330, hn60, hl12, hf6, hc60, hs40, hga, hgr, hln, hk5, hk4, hfi, hpi, har, hgf, hfz, hgc, hG, hsq, hei, hmi, kne, hca, hcr, hlk⟩⟩ (Nat.le_of_ble_eq_true rfl) (Nat.le_of_ble_eq_true rfl) dX7_span_19
theorem z_absne {z : Int32} (h : ¬ z = 0) : ¬ (if 0 < z.toInt64 then z.toInt64 else -z.toInt64) = 0 := by
  have key : ¬ z.toInt64 = 0 := by
    intro q
    apply h
    have q2 : z.toInt64.toInt = (0 : Int64).toInt := by rw [q]
    rw [Int32.toInt_toInt64] at q2
    exact Int32.toInt_inj.mp (by rw [q2]; rfl)
  intro hh
  split at hh
  · exact key hh
  · apply key
    have q3 : - -z.toInt64 = -0 := by rw [hh]
    simpa using q3
abbrev rmX7_wide : Room := { frames := 6, cells := 2, slots := 10, locals := 140 }
set_option maxHeartbeats 4000000 in
set_option maxRecDepth 100000 in
theorem k_X7_wide (l : Launch) (D : va_G) (cy : Nat → ClassId) (f : zM) (o : Nat) (fa : Nat) (fi : Nat) (nu : Nat) (fm : Nat) (co : Nat) (en : Nat) (ke : Nat) (ev : Nat) (al : Nat) (ra : Nat) (kn : Nat) (vq : Nat) (ge : Nat → Option Nat) (ea : Nat → Nat) (ma : Nat → Nat) (u1 : Int32) (u2 : Int32) (u3 : Int32) (gv : Nat → Int32) (nl : Nat) (gu : Nat → Int32) (nn : Nat) (ga : Nat → Option Nat) (gr : Nat → Option Nat) (fg : Nat → Nat) (pt : Nat → Nat) (kd : Nat → Int32) (ln : Nat → Nat) (pp : Nat → Nat → Int64) (wg : Nat → Int64) (wd : Nat → Int32) (hs : Nat → Int32) (bf : Nat → Int32) (nf : Nat) (gf : Nat → Option Nat) (fq : Nat → Nat) (fk : Nat → Nat) (fz : Nat → Nat) (fc : Nat → Nat → Int32) (nc : Nat) (gc : Nat → Option Nat) (cn : Nat → Nat) (ce : Nat → Int32) (cm : Nat → Int32) (sq : Nat → Nat) (mb : Nat → Nat → Int32) (ks : Nat) (kk : Nat → Int32) (kv : Nat → Int32) (lk : Int64) (x : Int32) (y : Int32) (z : Int32)    (hI : zIX cy f o fa fi nu fm co en ke ev al ra kn vq ge ea ma u1 u2 u3 gv nl gu nn ga gr fg pt kd ln pp wg wd hs bf nf gf fq fk fz fc nc gc cn ce cm sq mb ks kk kv lk) : zCi l D cy yX7_wide cX7_wide 6 (Option.some Jvm.ClassFile.FieldType.int) rmX7_wide [.ref o, .int x, .int y, .int z] f (fun (r : Int32) (f1 : zM) => ∃ (u11 : Int32) (u21 : Int32) (u31 : Int32) (gv1 : Nat → Int32) (nl1 : Nat) (gu1 : Nat → Int32) (nn1 : Nat) (ga1 : Nat → Option Nat) (gr1 : Nat → Option Nat) (fg1 : Nat → Nat) (pt1 : Nat → Nat) (kd1 : Nat → Int32) (ln1 : Nat → Nat) (pp1 : Nat → Nat → Int64) (wg1 : Nat → Int64) (wd1 : Nat → Int32) (hs1 : Nat → Int32) (bf1 : Nat → Int32) (nf1 : Nat) (gf1 : Nat → Option Nat) (fq1 : Nat → Nat) (fk1 : Nat → Nat) (fz1 : Nat → Nat) (fc1 : Nat → Nat → Int32) (nc1 : Nat) (gc1 : Nat → Option Nat) (cn1 : Nat → Nat) (ce1 : Nat → Int32) (cm1 : Nat → Int32) (sq1 : Nat → Nat) (mb1 : Nat → Nat → Int32) (ks1 : Nat) (kk1 : Nat → Int32) (kv1 : Nat → Int32) (lk1 : Int64), r = ((q_wide nn x y z).1) ∧ (u11 = (q_wide nn x y z).2.1) ∧ (u21 = (q_wide nn x y z).2.2.1) ∧ (u31 = (q_wide nn x y z).2.2.2) ∧ (gv1 = zEV gv (q_wide nn x y z).2.1) ∧ (nl1 = nl) ∧ (gu1 = gu) ∧ (nn1 = if 0 ≤ r then nn + 1 else nn) ∧ (kd1 = if 0 ≤ r then va_up kd nn 2 else kd) ∧ (ln1 = if 0 ≤ r then va_up ln nn (3) else ln) ∧ (zPP nn (0 ≤ r) (3) (q3 x.toInt64 y.toInt64 z.toInt64) pp pp1) ∧ (wd1 = if 0 ≤ r then va_up wd nn 0 else wd) ∧ (hs1 = if 0 ≤ r then va_up hs nn (zHash 2 nn (3) (q3 x.toInt64 y.toInt64 z.toInt64) hs) else hs) ∧ (nf1 = nf) ∧ (fz1 = fz) ∧ (fc1 = fc) ∧ (nc1 = nc) ∧ (ce1 = ce) ∧ (cm1 = cm) ∧ (sq1 = sq) ∧ (mb1 = mb) ∧ (ks1 = ks) ∧ (kk1 = kk) ∧ (kv1 = kv) ∧ (lk1 = lk) ∧ zIX cy f1 o fa fi nu fm co en ke ev al ra kn vq ge ea ma u11 u21 u31 gv1 nl1 gu1 nn1 ga1 gr1 fg1 pt1 kd1 ln1 pp1 wg1 wd1 hs1 bf1 nf1 gf1 fq1 fk1 fz1 fc1 nc1 gc1 cn1 ce1 cm1 sq1 mb1 ks1 kk1 kv1 lk1) := by
  intro sz
  refine z_body (by decide +kernel) (Nat.le_of_ble_eq_true rfl) ?_
  intro p e s m below meth c ls C hr hin hsz hz hl
  subst hsz
  have hx := C.1
  have hb := C.2.1
  have hA : ∀ q, s.heap.size ≤ q → zA f s.heap.size q := fun q h => Or.inr h
  have hS : va_S (zA f s.heap.size) s.heap s.heap [] := va_S.rf
  have hl : lv_has ls 6 [(0, .ref o), (1, .int x), (2, .int y), (3, .int z)] := hl
  obtain ⟨x_o, x_fa, x_ev, x_fi, x_al, x_ra, x_nu, x_fm, x_co, x_en, x_ke, x_kn, x_vq, hF, hP, hFq, hFk, hCn, hEa, hMa, hn60, hl12, hf6, hc60, hs40, hga, hgr, hln, hk5, hk4, hfi, hpi, har, hgf, hfz, hgc, hG, hsq, hei, hmi, kne, hca, hcr, hlk⟩ := id hI
  refine lv_aload_n hx hb dX7_wide_0 rfl (lv_at hl 0 rfl) ?_
  refine z_get (v := .ref fa) C hz x_o zl7 mFX7_10 (by decide) rfl dX7_wide_1 ?_
  refine z_callVv (As := []) C hz hS hA hl (k_X2_none l D cy f fa u1 u2 u3 ev x_fa ) zyX2_none mMX7_76 x_fa zl2 rfl rfl (Nat.le_of_ble_eq_true rfl) ⟨Nat.le_of_ble_eq_true rfl, Nat.le_of_ble_eq_true rfl⟩ ⟨Nat.le_of_ble_eq_true rfl, Nat.le_of_ble_eq_true rfl⟩ dX7_wide_4 (fun  f1 H locs h2 hz hS => ?_)
  obtain ⟨a3, k4⟩ := h2
  refine lv_aload_n hx hb dX7_wide_7 rfl (lv_at hl 0 rfl) ?_
  have a5 : f1 o = some (.inr (7, [.ref fa, .ref fi, .ref nu, .int (nI nl), .ref fm, .int (nI nf), .ref co, .int (nI nc), .ref en, .ref ke, .long lk])) := k4 _ _ x_o (z_ne x_o x_fa rfl)
  refine z_get (v := .ref fi) C hz a5 zl7 mFX7_19 (by decide) rfl dX7_wide_8 ?_
  by_cases h60 : nn < 60
  · have a6 : f1 fi = some (.inr (5, [.ref al, .ref ra, .int (nI nn)])) := k4 _ _ x_fi (z_ne x_fi x_fa rfl)
    refine z_callVi (As := []) C hz hS hA hl (k_X5_isFull_A l D cy f1 fi al ra nn a6 hn60 h60) zyX5_isFull mMX7_79 a6 zl5 rfl rfl (Nat.le_of_ble_eq_true rfl) ⟨Nat.le_of_ble_eq_true rfl, Nat.le_of_ble_eq_true rfl⟩ ⟨Nat.le_of_ble_eq_true rfl, Nat.le_of_ble_eq_true rfl⟩ dX7_wide_11 (fun r f7 H locs h8 hz hS => ?_)
    obtain ⟨rfl, k9⟩ := h8
    refine lv_if_eq (tgt := 20) hx hb dX7_wide_14 (by decide) (fun c10 => ?_) (fun c10 => ?_)
    rotate_left
    · exact absurd c10 (by decide)
    refine lv_iload_n hx hb dX7_wide_20 rfl (lv_at hl 1 rfl) ?_
    refine lv_iload_n hx hb dX7_wide_21 rfl (lv_at hl 2 rfl) ?_
    refine lv_icmp_le (tgt := 35) hx hb dX7_wide_22 (by decide) (fun c11 => ?_) (fun c11 => ?_)
    · refine lv_iload_n hx hb dX7_wide_35 rfl (lv_at hl 3 rfl) ?_
      refine lv_if_ne (tgt := 50) hx hb dX7_wide_36 (by decide) (fun c12 => ?_) (fun c12 => ?_)
      · refine lv_iload_n hx hb dX7_wide_50 rfl (lv_at hl 2 rfl) ?_
        refine lv_iload_n hx hb dX7_wide_51 rfl (lv_at hl 1 rfl) ?_
        refine lv_isub hx hb dX7_wide_52 ?_
        refine lv_iload_n hx hb dX7_wide_53 rfl (lv_at hl 3 rfl) ?_
        refine lv_irem hx hb dX7_wide_54 c12 ?_
        refine lv_if_eq (tgt := 68) hx hb dX7_wide_55 (by decide) (fun c13 => ?_) (fun c13 => ?_)
        · refine lv_iload_n hx hb dX7_wide_68 rfl (lv_at hl 1 rfl) ?_
          refine lv_iload_n hx hb dX7_wide_69 rfl (lv_at hl 2 rfl) ?_
          refine z_callSl (As := [.int x, .int y]) C hz hS hA hl (k_X7_lengthOf l D cy f7 x y  ) zyX7_lengthOf mMX7_100 rfl rfl (Nat.le_of_ble_eq_true rfl) ⟨Nat.le_of_ble_eq_true rfl, Nat.le_of_ble_eq_true rfl⟩ ⟨Nat.le_of_ble_eq_true rfl, Nat.le_of_ble_eq_true rfl⟩ dX7_wide_70 (fun r16 f14 H locs h15 hz hS => ?_)
          have k17 := h15
          refine lv_iload_n hx hb dX7_wide_73 rfl (lv_at hl 3 rfl) ?_
          refine lv_i2l (v := z.toInt64) hx hb dX7_wide_74 rfl ?_
          refine va_mabs_long hx hb (by rw [C.2.2.1]; exact hl.1.symm) C.2.2.2.1 (C.2.2.2.2.1 _ mMX7_107) (C.2.2.2.2.1 _ mS_yAbs) (C.2.2.2.2.1 _ mIn_RJ9) (C.2.2.2.2.1 _ mC_yAbs) (Nat.le_of_ble_eq_true rfl) (Nat.le_of_ble_eq_true rfl) (Nat.le_of_ble_eq_true rfl) (Nat.le_of_ble_eq_true rfl) dX7_wide_75 ?_
          refine lv_ldiv hx hb dX7_wide_78 (z_absne c12) ?_
          refine lv_lconst (v := 1) hx hb dX7_wide_79 (by decide) ?_
          refine lv_ladd hx hb dX7_wide_80 ?_
          refine lv_lstore (lv' := [(4, .long ((r16 / (if 0 < z.toInt64 then z.toInt64 else -z.toInt64)) + 1)), (0, .ref o), (1, .int x), (2, .int y), (3, .int z)]) hx hb dX7_wide_81 hl (by decide) rfl (fun ls hl => ?_)
          refine lv_aload_n hx hb dX7_wide_83 rfl (lv_at hl 1 rfl) ?_
          have a18 : f7 o = some (.inr (7, [.ref fa, .ref fi, .ref nu, .int (nI nl), .ref fm, .int (nI nf), .ref co, .int (nI nc), .ref en, .ref ke, .long lk])) := k9 _ _ a5 
          have a19 : f14 o = some (.inr (7, [.ref fa, .ref fi, .ref nu, .int (nI nl), .ref fm, .int (nI nf), .ref co, .int (nI nc), .ref en, .ref ke, .long lk])) := k17 _ _ a18 
          refine z_get (v := .ref fi) C hz a19 zl7 mFX7_19 (by decide) rfl dX7_wide_84 ?_
          refine z_new (fs := [.int 0, .null, .long 0, .int 0, .int 0, .int 0, .int 0]) C hz hS hA zl4 mLX7_83 mIa_RX4 mIn_RX4 (by decide +kernel) (Nat.le_of_ble_eq_true rfl) (Nat.le_of_ble_eq_true rfl) dX7_wide_87 (fun q20 H f22 u21 a23 k24 hz hS => ?_)
          refine lv_dup hx hb dX7_wide_90 rfl ?_
          refine lv_iconst (v := 2) hx hb dX7_wide_91 (by decide) ?_
          refine lv_iconst (v := 3) hx hb dX7_wide_92 (by decide) ?_
          refine z_newa (atype := .long) (t0 := 1) (N' := 3) (x := (.inr (.inl (fun _ => 0)))) C hz hS hA rfl mA_long rfl (fun _ => rfl) (by decide) (Nat.le_of_ble_eq_true rfl) (by decide) (Nat.le_of_ble_eq_true rfl) (Nat.le_of_ble_eq_true rfl) dX7_wide_93 (fun q25 H f27 u26 a28 k29 hz hS => ?_)
          refine lv_dup hx hb dX7_wide_95 rfl ?_
          refine lv_iconst (v := 0) hx hb dX7_wide_96 (by decide) ?_
          refine lv_iload_n hx hb dX7_wide_97 rfl (lv_at hl 2 rfl) ?_
          refine lv_i2l (v := x.toInt64) hx hb dX7_wide_98 rfl ?_
          refine z_last 0 C hz hS a28 (by decide) (Nat.le_of_ble_eq_true rfl) (by omega) dX7_wide_99 (fun H locs f30 a31 k32 hz hS => ?_)
          refine lv_dup hx hb dX7_wide_100 rfl ?_
          refine lv_iconst (v := 1) hx hb dX7_wide_101 (by decide) ?_
          refine lv_iload_n hx hb dX7_wide_102 rfl (lv_at hl 3 rfl) ?_
          refine lv_i2l (v := y.toInt64) hx hb dX7_wide_103 rfl ?_
          refine z_last 1 C hz hS a31 (by decide) (Nat.le_of_ble_eq_true rfl) (by omega) dX7_wide_104 (fun H locs f33 a34 k35 hz hS => ?_)
          refine lv_dup hx hb dX7_wide_105 rfl ?_
          refine lv_iconst (v := 2) hx hb dX7_wide_106 (by decide) ?_
          refine lv_iload_n hx hb dX7_wide_107 rfl (lv_at hl 4 rfl) ?_
          refine lv_i2l (v := z.toInt64) hx hb dX7_wide_108 rfl ?_
          refine z_last 2 C hz hS a34 (by decide) (Nat.le_of_ble_eq_true rfl) (by omega) dX7_wide_109 (fun H locs f36 a37 k38 hz hS => ?_)
          refine lv_lload hx hb dX7_wide_110 (lv_at hl 0 rfl) ?_
          have a39 : f27 q20 = some (.inr (4, [.int 0, .null, .long 0, .int 0, .int 0, .int 0, .int 0])) := (k29 _ (z_nn u26 a23)).trans a23
          have a40 : f30 q20 = some (.inr (4, [.int 0, .null, .long 0, .int 0, .int 0, .int 0, .int 0])) := (k32 _ (z_nn u26 a23)).trans a39
          have a41 : f33 q20 = some (.inr (4, [.int 0, .null, .long 0, .int 0, .int 0, .int 0, .int 0])) := (k35 _ (z_nn u26 a23)).trans a40
          have a42 : f36 q20 = some (.inr (4, [.int 0, .null, .long 0, .int 0, .int 0, .int 0, .int 0])) := (k38 _ (z_nn u26 a23)).trans a41
          refine z_callIv (ret := none) (As := [.int 2, .ref q25, .long ((r16 / (if 0 < z.toInt64 then z.toInt64 else -z.toInt64)) + 1)]) C hz hS hA hl (k_X4_init l D cy f36 q20 2 q25 ((r16 / (if 0 < z.toInt64 then z.toInt64 else -z.toInt64)) + 1) a42 ) zyX4_init mMX7_89 rfl rfl (Nat.le_of_ble_eq_true rfl) ⟨Nat.le_of_ble_eq_true rfl, Nat.le_of_ble_eq_true rfl⟩ ⟨Nat.le_of_ble_eq_true rfl, Nat.le_of_ble_eq_true rfl⟩ dX7_wide_112 (fun  f43 H locs h44 hz hS => ?_)
          obtain ⟨a45, k46⟩ := h44
          have a47 : f7 fi = some (.inr (5, [.ref al, .ref ra, .int (nI nn)])) := k9 _ _ a6 
          have a48 : f14 fi = some (.inr (5, [.ref al, .ref ra, .int (nI nn)])) := k17 _ _ a47 
          have a49 : f22 fi = some (.inr (5, [.ref al, .ref ra, .int (nI nn)])) := (k24 _ (z_nn u21 a48)).trans a48
          have a50 : f27 fi = some (.inr (5, [.ref al, .ref ra, .int (nI nn)])) := (k29 _ (z_nn u26 a49)).trans a49
          have a51 : f30 fi = some (.inr (5, [.ref al, .ref ra, .int (nI nn)])) := (k32 _ (z_nn u26 a49)).trans a50
          have a52 : f33 fi = some (.inr (5, [.ref al, .ref ra, .int (nI nn)])) := (k35 _ (z_nn u26 a49)).trans a51
          have a53 : f36 fi = some (.inr (5, [.ref al, .ref ra, .int (nI nn)])) := (k38 _ (z_nn u26 a49)).trans a52
          have a54 : f43 fi = some (.inr (5, [.ref al, .ref ra, .int (nI nn)])) := k46 _ _ a53 (z_nn u21 a48)
          have a55 : f1 al = some (.inl (cy 3, 60, .inr (.inr (.inr (.inr ga))))) := k4 _ _ x_al (z_ne x_al x_fa rfl)
          have a56 : f7 al = some (.inl (cy 3, 60, .inr (.inr (.inr (.inr ga))))) := k9 _ _ a55 
          have a57 : f14 al = some (.inl (cy 3, 60, .inr (.inr (.inr (.inr ga))))) := k17 _ _ a56 
          have a58 : f22 al = some (.inl (cy 3, 60, .inr (.inr (.inr (.inr ga))))) := (k24 _ (z_nn u21 a57)).trans a57
          have a59 : f27 al = some (.inl (cy 3, 60, .inr (.inr (.inr (.inr ga))))) := (k29 _ (z_nn u26 a58)).trans a58
          have a60 : f30 al = some (.inl (cy 3, 60, .inr (.inr (.inr (.inr ga))))) := (k32 _ (z_nn u26 a58)).trans a59
          have a61 : f33 al = some (.inl (cy 3, 60, .inr (.inr (.inr (.inr ga))))) := (k35 _ (z_nn u26 a58)).trans a60
          have a62 : f36 al = some (.inl (cy 3, 60, .inr (.inr (.inr (.inr ga))))) := (k38 _ (z_nn u26 a58)).trans a61
          have a63 : f43 al = some (.inl (cy 3, 60, .inr (.inr (.inr (.inr ga))))) := k46 _ _ a62 (z_nn u21 a57)
          have a64 : f1 ra = some (.inl (cy 3, 60, .inr (.inr (.inr (.inr gr))))) := k4 _ _ x_ra (z_ne x_ra x_fa rfl)
          have a65 : f7 ra = some (.inl (cy 3, 60, .inr (.inr (.inr (.inr gr))))) := k9 _ _ a64 
          have a66 : f14 ra = some (.inl (cy 3, 60, .inr (.inr (.inr (.inr gr))))) := k17 _ _ a65 
          have a67 : f22 ra = some (.inl (cy 3, 60, .inr (.inr (.inr (.inr gr))))) := (k24 _ (z_nn u21 a66)).trans a66
          have a68 : f27 ra = some (.inl (cy 3, 60, .inr (.inr (.inr (.inr gr))))) := (k29 _ (z_nn u26 a67)).trans a67
          have a69 : f30 ra = some (.inl (cy 3, 60, .inr (.inr (.inr (.inr gr))))) := (k32 _ (z_nn u26 a67)).trans a68
          have a70 : f33 ra = some (.inl (cy 3, 60, .inr (.inr (.inr (.inr gr))))) := (k35 _ (z_nn u26 a67)).trans a69
          have a71 : f36 ra = some (.inl (cy 3, 60, .inr (.inr (.inr (.inr gr))))) := (k38 _ (z_nn u26 a67)).trans a70
          have a72 : f43 ra = some (.inl (cy 3, 60, .inr (.inr (.inr (.inr gr))))) := k46 _ _ a71 (z_nn u21 a66)
          have a73 : f43 q25 = some (.inl (cy 1, 3, .inr (.inl (vp_updL (vp_updL (vp_updL (fun _ => 0) 0 x.toInt64) 1 y.toInt64) 2 z.toInt64)))) := k46 _ _ a37 (Ne.symm (z_nn u26 a23))
          have F74 : ∀ i9 : Nat, i9 < nn → f1 (fg i9) = some (.inr (4, [.int (kd i9), .ref (pt i9), .long (wg i9), .int (wd i9), .int (nI i9), .int (hs i9), .int (bf i9)])) := fun i9 h9 => k4 _ _ (hF i9 h9) (z_ne (hF i9 h9) x_fa rfl)
          have F75 : ∀ i9 : Nat, i9 < nn → f7 (fg i9) = some (.inr (4, [.int (kd i9), .ref (pt i9), .long (wg i9), .int (wd i9), .int (nI i9), .int (hs i9), .int (bf i9)])) := fun i9 h9 => k9 _ _ (F74 i9 h9) 
          have F76 : ∀ i9 : Nat, i9 < nn → f14 (fg i9) = some (.inr (4, [.int (kd i9), .ref (pt i9), .long (wg i9), .int (wd i9), .int (nI i9), .int (hs i9), .int (bf i9)])) := fun i9 h9 => k17 _ _ (F75 i9 h9) 
          have F77 : ∀ i9 : Nat, i9 < nn → f22 (fg i9) = some (.inr (4, [.int (kd i9), .ref (pt i9), .long (wg i9), .int (wd i9), .int (nI i9), .int (hs i9), .int (bf i9)])) := fun i9 h9 => (k24 _ (z_nn u21 (F76 i9 h9))).trans (F76 i9 h9)
          have F78 : ∀ i9 : Nat, i9 < nn → f27 (fg i9) = some (.inr (4, [.int (kd i9), .ref (pt i9), .long (wg i9), .int (wd i9), .int (nI i9), .int (hs i9), .int (bf i9)])) := fun i9 h9 => (k29 _ (z_nn u26 (F77 i9 h9))).trans (F77 i9 h9)
          have F79 : ∀ i9 : Nat, i9 < nn → f30 (fg i9) = some (.inr (4, [.int (kd i9), .ref (pt i9), .long (wg i9), .int (wd i9), .int (nI i9), .int (hs i9), .int (bf i9)])) := fun i9 h9 => (k32 _ (z_nn u26 (F77 i9 h9))).trans (F78 i9 h9)
          have F80 : ∀ i9 : Nat, i9 < nn → f33 (fg i9) = some (.inr (4, [.int (kd i9), .ref (pt i9), .long (wg i9), .int (wd i9), .int (nI i9), .int (hs i9), .int (bf i9)])) := fun i9 h9 => (k35 _ (z_nn u26 (F77 i9 h9))).trans (F79 i9 h9)
          have F81 : ∀ i9 : Nat, i9 < nn → f36 (fg i9) = some (.inr (4, [.int (kd i9), .ref (pt i9), .long (wg i9), .int (wd i9), .int (nI i9), .int (hs i9), .int (bf i9)])) := fun i9 h9 => (k38 _ (z_nn u26 (F77 i9 h9))).trans (F80 i9 h9)
          have F82 : ∀ i9 : Nat, i9 < nn → f43 (fg i9) = some (.inr (4, [.int (kd i9), .ref (pt i9), .long (wg i9), .int (wd i9), .int (nI i9), .int (hs i9), .int (bf i9)])) := fun i9 h9 => k46 _ _ (F81 i9 h9) (z_nn u21 (F76 i9 h9))
          have F83 : ∀ i9 : Nat, i9 < nn → f1 (pt i9) = some (.inl (cy 1, (ln i9), .inr (.inl (pp i9)))) := fun i9 h9 => k4 _ _ (hP i9 h9) (z_neO (hP i9 h9) x_fa rfl)
          have F84 : ∀ i9 : Nat, i9 < nn → f7 (pt i9) = some (.inl (cy 1, (ln i9), .inr (.inl (pp i9)))) := fun i9 h9 => k9 _ _ (F83 i9 h9) 
          have F85 : ∀ i9 : Nat, i9 < nn → f14 (pt i9) = some (.inl (cy 1, (ln i9), .inr (.inl (pp i9)))) := fun i9 h9 => k17 _ _ (F84 i9 h9) 
          have F86 : ∀ i9 : Nat, i9 < nn → f22 (pt i9) = some (.inl (cy 1, (ln i9), .inr (.inl (pp i9)))) := fun i9 h9 => (k24 _ (z_nn u21 (F85 i9 h9))).trans (F85 i9 h9)
          have F87 : ∀ i9 : Nat, i9 < nn → f27 (pt i9) = some (.inl (cy 1, (ln i9), .inr (.inl (pp i9)))) := fun i9 h9 => (k29 _ (z_nn u26 (F86 i9 h9))).trans (F86 i9 h9)
          have F88 : ∀ i9 : Nat, i9 < nn → f30 (pt i9) = some (.inl (cy 1, (ln i9), .inr (.inl (pp i9)))) := fun i9 h9 => (k32 _ (z_nn u26 (F86 i9 h9))).trans (F87 i9 h9)
          have F89 : ∀ i9 : Nat, i9 < nn → f33 (pt i9) = some (.inl (cy 1, (ln i9), .inr (.inl (pp i9)))) := fun i9 h9 => (k35 _ (z_nn u26 (F86 i9 h9))).trans (F88 i9 h9)
          have F90 : ∀ i9 : Nat, i9 < nn → f36 (pt i9) = some (.inl (cy 1, (ln i9), .inr (.inl (pp i9)))) := fun i9 h9 => (k38 _ (z_nn u26 (F86 i9 h9))).trans (F89 i9 h9)
          have F91 : ∀ i9 : Nat, i9 < nn → f43 (pt i9) = some (.inl (cy 1, (ln i9), .inr (.inl (pp i9)))) := fun i9 h9 => k46 _ _ (F90 i9 h9) (z_nn u21 (F85 i9 h9))
          refine z_callVi (As := [.ref q20]) C hz hS hA hl (k_X5_add l D cy f43 fi al ra ga gr nn fg pt kd ln pp wg wd hs bf q20 2 q25 ((r16 / (if 0 < z.toInt64 then z.toInt64 else -z.toInt64)) + 1) 0 (-1) 0 0 3 (vp_updL (vp_updL (vp_updL (fun _ => 0) 0 x.toInt64) 1 y.toInt64) 2 z.toInt64) a54 a63 a72 a45 a73 F82 F91 h60 hga hgr hln hk5 hfi (fun j9 h9 => z_nn u21 (F76 j9 h9)) (by omega) (fun h9 => absurd h9 (by decide)) har (fun h9 => absurd h9 (by decide))) zyX5_add mMX7_92 a54 zl5 rfl rfl (Nat.le_of_ble_eq_true rfl) ⟨Nat.le_of_ble_eq_true rfl, Nat.le_of_ble_eq_true rfl⟩ ⟨Nat.le_of_ble_eq_true rfl, Nat.le_of_ble_eq_true rfl⟩ dX7_wide_115 (fun r f92 H locs h93 hz hS => ?_)
          obtain ⟨hq_94, bq_95, gr_96, bf_97, rfl, p98, p99, a100, a101, a102, F103, F104, k105⟩ := h93
          have a106 : f22 o = some (.inr (7, [.ref fa, .ref fi, .ref nu, .int (nI nl), .ref fm, .int (nI nf), .ref co, .int (nI nc), .ref en, .ref ke, .long lk])) := (k24 _ (z_nn u21 a19)).trans a19
          have a107 : f27 o = some (.inr (7, [.ref fa, .ref fi, .ref nu, .int (nI nl), .ref fm, .int (nI nf), .ref co, .int (nI nc), .ref en, .ref ke, .long lk])) := (k29 _ (z_nn u26 a106)).trans a106
          have a108 : f30 o = some (.inr (7, [.ref fa, .ref fi, .ref nu, .int (nI nl), .ref fm, .int (nI nf), .ref co, .int (nI nc), .ref en, .ref ke, .long lk])) := (k32 _ (z_nn u26 a106)).trans a107
          have a109 : f33 o = some (.inr (7, [.ref fa, .ref fi, .ref nu, .int (nI nl), .ref fm, .int (nI nf), .ref co, .int (nI nc), .ref en, .ref ke, .long lk])) := (k35 _ (z_nn u26 a106)).trans a108
          have a110 : f36 o = some (.inr (7, [.ref fa, .ref fi, .ref nu, .int (nI nl), .ref fm, .int (nI nf), .ref co, .int (nI nc), .ref en, .ref ke, .long lk])) := (k38 _ (z_nn u26 a106)).trans a109
          have a111 : f43 o = some (.inr (7, [.ref fa, .ref fi, .ref nu, .int (nI nl), .ref fm, .int (nI nf), .ref co, .int (nI nc), .ref en, .ref ke, .long lk])) := k46 _ _ a110 (z_nn u21 a19)
          have a112 : f92 o = some (.inr (7, [.ref fa, .ref fi, .ref nu, .int (nI nl), .ref fm, .int (nI nf), .ref co, .int (nI nc), .ref en, .ref ke, .long lk])) := k105 _ _ a111 (z_ne a111 a54 rfl) (z_ne a111 a63 rfl) (z_ne a111 a72 rfl) (z_nn u21 a19) (fun j9 h8 => (z_ne a111 (F82 j9 h8) rfl))
          have a113 : f7 fa = some (.inr (2, [.int 0, .int (-1), .int 0, .ref ev])) := k9 _ _ a3 
          have a114 : f14 fa = some (.inr (2, [.int 0, .int (-1), .int 0, .ref ev])) := k17 _ _ a113 
          have a115 : f22 fa = some (.inr (2, [.int 0, .int (-1), .int 0, .ref ev])) := (k24 _ (z_nn u21 a114)).trans a114
          have a116 : f27 fa = some (.inr (2, [.int 0, .int (-1), .int 0, .ref ev])) := (k29 _ (z_nn u26 a115)).trans a115
          have a117 : f30 fa = some (.inr (2, [.int 0, .int (-1), .int 0, .ref ev])) := (k32 _ (z_nn u26 a115)).trans a116
          have a118 : f33 fa = some (.inr (2, [.int 0, .int (-1), .int 0, .ref ev])) := (k35 _ (z_nn u26 a115)).trans a117
          have a119 : f36 fa = some (.inr (2, [.int 0, .int (-1), .int 0, .ref ev])) := (k38 _ (z_nn u26 a115)).trans a118
          have a120 : f43 fa = some (.inr (2, [.int 0, .int (-1), .int 0, .ref ev])) := k46 _ _ a119 (z_nn u21 a114)
          have a121 : f92 fa = some (.inr (2, [.int 0, .int (-1), .int 0, .ref ev])) := k105 _ _ a120 (z_ne a120 a54 rfl) (z_ne a120 a63 rfl) (z_ne a120 a72 rfl) (z_nn u21 a114) (fun j9 h8 => (z_ne a120 (F82 j9 h8) rfl))
          have a122 : f1 ev = some (.inl (cy 0, 8, .inl gv)) := k4 _ _ x_ev (z_ne x_ev x_fa rfl)
          have a123 : f7 ev = some (.inl (cy 0, 8, .inl gv)) := k9 _ _ a122 
          have a124 : f14 ev = some (.inl (cy 0, 8, .inl gv)) := k17 _ _ a123 
          have a125 : f22 ev = some (.inl (cy 0, 8, .inl gv)) := (k24 _ (z_nn u21 a124)).trans a124
          have a126 : f27 ev = some (.inl (cy 0, 8, .inl gv)) := (k29 _ (z_nn u26 a125)).trans a125
          have a127 : f30 ev = some (.inl (cy 0, 8, .inl gv)) := (k32 _ (z_nn u26 a125)).trans a126
          have a128 : f33 ev = some (.inl (cy 0, 8, .inl gv)) := (k35 _ (z_nn u26 a125)).trans a127
          have a129 : f36 ev = some (.inl (cy 0, 8, .inl gv)) := (k38 _ (z_nn u26 a125)).trans a128
          have a130 : f43 ev = some (.inl (cy 0, 8, .inl gv)) := k46 _ _ a129 (z_nn u21 a124)
          have a131 : f92 ev = some (.inl (cy 0, 8, .inl gv)) := k105 _ _ a130 (z_ne a130 a54 rfl) (z_ne a130 a63 rfl) (z_ne a130 a72 rfl) (z_nn u21 a124) (fun j9 h8 => (z_ne a130 (F82 j9 h8) rfl))
          have a132 : f1 nu = some (.inl (cy 0, 12, .inl gu)) := k4 _ _ x_nu (z_ne x_nu x_fa rfl)
          have a133 : f7 nu = some (.inl (cy 0, 12, .inl gu)) := k9 _ _ a132 
          have a134 : f14 nu = some (.inl (cy 0, 12, .inl gu)) := k17 _ _ a133 
          have a135 : f22 nu = some (.inl (cy 0, 12, .inl gu)) := (k24 _ (z_nn u21 a134)).trans a134
          have a136 : f27 nu = some (.inl (cy 0, 12, .inl gu)) := (k29 _ (z_nn u26 a135)).trans a135
          have a137 : f30 nu = some (.inl (cy 0, 12, .inl gu)) := (k32 _ (z_nn u26 a135)).trans a136
          have a138 : f33 nu = some (.inl (cy 0, 12, .inl gu)) := (k35 _ (z_nn u26 a135)).trans a137
          have a139 : f36 nu = some (.inl (cy 0, 12, .inl gu)) := (k38 _ (z_nn u26 a135)).trans a138
          have a140 : f43 nu = some (.inl (cy 0, 12, .inl gu)) := k46 _ _ a139 (z_nn u21 a134)
          have a141 : f92 nu = some (.inl (cy 0, 12, .inl gu)) := k105 _ _ a140 (z_ne a140 a54 rfl) (z_ne a140 a63 rfl) (z_ne a140 a72 rfl) (z_nn u21 a134) (fun j9 h8 => (z_ne a140 (F82 j9 h8) rfl))
          have a142 : f1 fm = some (.inl (cy 4, 6, .inr (.inr (.inr (.inr gf))))) := k4 _ _ x_fm (z_ne x_fm x_fa rfl)
          have a143 : f7 fm = some (.inl (cy 4, 6, .inr (.inr (.inr (.inr gf))))) := k9 _ _ a142 
          have a144 : f14 fm = some (.inl (cy 4, 6, .inr (.inr (.inr (.inr gf))))) := k17 _ _ a143 
          have a145 : f22 fm = some (.inl (cy 4, 6, .inr (.inr (.inr (.inr gf))))) := (k24 _ (z_nn u21 a144)).trans a144
          have a146 : f27 fm = some (.inl (cy 4, 6, .inr (.inr (.inr (.inr gf))))) := (k29 _ (z_nn u26 a145)).trans a145
          have a147 : f30 fm = some (.inl (cy 4, 6, .inr (.inr (.inr (.inr gf))))) := (k32 _ (z_nn u26 a145)).trans a146
          have a148 : f33 fm = some (.inl (cy 4, 6, .inr (.inr (.inr (.inr gf))))) := (k35 _ (z_nn u26 a145)).trans a147
          have a149 : f36 fm = some (.inl (cy 4, 6, .inr (.inr (.inr (.inr gf))))) := (k38 _ (z_nn u26 a145)).trans a148
          have a150 : f43 fm = some (.inl (cy 4, 6, .inr (.inr (.inr (.inr gf))))) := k46 _ _ a149 (z_nn u21 a144)
          have a151 : f92 fm = some (.inl (cy 4, 6, .inr (.inr (.inr (.inr gf))))) := k105 _ _ a150 (z_ne a150 a54 rfl) (z_ne a150 a63 rfl) (z_ne a150 a72 rfl) (z_nn u21 a144) (fun j9 h8 => (z_ne a150 (F82 j9 h8) rfl))
          have a152 : f1 co = some (.inl (cy 5, 60, .inr (.inr (.inr (.inr gc))))) := k4 _ _ x_co (z_ne x_co x_fa rfl)
          have a153 : f7 co = some (.inl (cy 5, 60, .inr (.inr (.inr (.inr gc))))) := k9 _ _ a152 
          have a154 : f14 co = some (.inl (cy 5, 60, .inr (.inr (.inr (.inr gc))))) := k17 _ _ a153 
          have a155 : f22 co = some (.inl (cy 5, 60, .inr (.inr (.inr (.inr gc))))) := (k24 _ (z_nn u21 a154)).trans a154
          have a156 : f27 co = some (.inl (cy 5, 60, .inr (.inr (.inr (.inr gc))))) := (k29 _ (z_nn u26 a155)).trans a155
          have a157 : f30 co = some (.inl (cy 5, 60, .inr (.inr (.inr (.inr gc))))) := (k32 _ (z_nn u26 a155)).trans a156
          have a158 : f33 co = some (.inl (cy 5, 60, .inr (.inr (.inr (.inr gc))))) := (k35 _ (z_nn u26 a155)).trans a157
          have a159 : f36 co = some (.inl (cy 5, 60, .inr (.inr (.inr (.inr gc))))) := (k38 _ (z_nn u26 a155)).trans a158
          have a160 : f43 co = some (.inl (cy 5, 60, .inr (.inr (.inr (.inr gc))))) := k46 _ _ a159 (z_nn u21 a154)
          have a161 : f92 co = some (.inl (cy 5, 60, .inr (.inr (.inr (.inr gc))))) := k105 _ _ a160 (z_ne a160 a54 rfl) hca hcr (z_nn u21 a154) (fun j9 h8 => (z_ne a160 (F82 j9 h8) rfl))
          have a162 : f1 en = some (.inl (cy 6, 4, .inr (.inr (.inr (.inr ge))))) := k4 _ _ x_en (z_ne x_en x_fa rfl)
          have a163 : f7 en = some (.inl (cy 6, 4, .inr (.inr (.inr (.inr ge))))) := k9 _ _ a162 
          have a164 : f14 en = some (.inl (cy 6, 4, .inr (.inr (.inr (.inr ge))))) := k17 _ _ a163 
          have a165 : f22 en = some (.inl (cy 6, 4, .inr (.inr (.inr (.inr ge))))) := (k24 _ (z_nn u21 a164)).trans a164
          have a166 : f27 en = some (.inl (cy 6, 4, .inr (.inr (.inr (.inr ge))))) := (k29 _ (z_nn u26 a165)).trans a165
          have a167 : f30 en = some (.inl (cy 6, 4, .inr (.inr (.inr (.inr ge))))) := (k32 _ (z_nn u26 a165)).trans a166
          have a168 : f33 en = some (.inl (cy 6, 4, .inr (.inr (.inr (.inr ge))))) := (k35 _ (z_nn u26 a165)).trans a167
          have a169 : f36 en = some (.inl (cy 6, 4, .inr (.inr (.inr (.inr ge))))) := (k38 _ (z_nn u26 a165)).trans a168
          have a170 : f43 en = some (.inl (cy 6, 4, .inr (.inr (.inr (.inr ge))))) := k46 _ _ a169 (z_nn u21 a164)
          have a171 : f92 en = some (.inl (cy 6, 4, .inr (.inr (.inr (.inr ge))))) := k105 _ _ a170 (z_ne a170 a54 rfl) (z_ne a170 a63 rfl) (z_ne a170 a72 rfl) (z_nn u21 a164) (fun j9 h8 => (z_ne a170 (F82 j9 h8) rfl))
          have a172 : f1 ke = some (.inr (6, [.ref kn, .ref vq, .int (nI ks)])) := k4 _ _ x_ke (z_ne x_ke x_fa rfl)
          have a173 : f7 ke = some (.inr (6, [.ref kn, .ref vq, .int (nI ks)])) := k9 _ _ a172 
          have a174 : f14 ke = some (.inr (6, [.ref kn, .ref vq, .int (nI ks)])) := k17 _ _ a173 
          have a175 : f22 ke = some (.inr (6, [.ref kn, .ref vq, .int (nI ks)])) := (k24 _ (z_nn u21 a174)).trans a174
          have a176 : f27 ke = some (.inr (6, [.ref kn, .ref vq, .int (nI ks)])) := (k29 _ (z_nn u26 a175)).trans a175
          have a177 : f30 ke = some (.inr (6, [.ref kn, .ref vq, .int (nI ks)])) := (k32 _ (z_nn u26 a175)).trans a176
          have a178 : f33 ke = some (.inr (6, [.ref kn, .ref vq, .int (nI ks)])) := (k35 _ (z_nn u26 a175)).trans a177
          have a179 : f36 ke = some (.inr (6, [.ref kn, .ref vq, .int (nI ks)])) := (k38 _ (z_nn u26 a175)).trans a178
          have a180 : f43 ke = some (.inr (6, [.ref kn, .ref vq, .int (nI ks)])) := k46 _ _ a179 (z_nn u21 a174)
          have a181 : f92 ke = some (.inr (6, [.ref kn, .ref vq, .int (nI ks)])) := k105 _ _ a180 (z_ne a180 a54 rfl) (z_ne a180 a63 rfl) (z_ne a180 a72 rfl) (z_nn u21 a174) (fun j9 h8 => (z_ne a180 (F82 j9 h8) rfl))
          have a182 : f1 kn = some (.inl (cy 0, 40, .inl kk)) := k4 _ _ x_kn (z_ne x_kn x_fa rfl)
          have a183 : f7 kn = some (.inl (cy 0, 40, .inl kk)) := k9 _ _ a182 
          have a184 : f14 kn = some (.inl (cy 0, 40, .inl kk)) := k17 _ _ a183 
          have a185 : f22 kn = some (.inl (cy 0, 40, .inl kk)) := (k24 _ (z_nn u21 a184)).trans a184
          have a186 : f27 kn = some (.inl (cy 0, 40, .inl kk)) := (k29 _ (z_nn u26 a185)).trans a185
          have a187 : f30 kn = some (.inl (cy 0, 40, .inl kk)) := (k32 _ (z_nn u26 a185)).trans a186
          have a188 : f33 kn = some (.inl (cy 0, 40, .inl kk)) := (k35 _ (z_nn u26 a185)).trans a187
          have a189 : f36 kn = some (.inl (cy 0, 40, .inl kk)) := (k38 _ (z_nn u26 a185)).trans a188
          have a190 : f43 kn = some (.inl (cy 0, 40, .inl kk)) := k46 _ _ a189 (z_nn u21 a184)
          have a191 : f92 kn = some (.inl (cy 0, 40, .inl kk)) := k105 _ _ a190 (z_ne a190 a54 rfl) (z_ne a190 a63 rfl) (z_ne a190 a72 rfl) (z_nn u21 a184) (fun j9 h8 => (z_ne a190 (F82 j9 h8) rfl))
          have a192 : f1 vq = some (.inl (cy 0, 40, .inl kv)) := k4 _ _ x_vq (z_ne x_vq x_fa rfl)
          have a193 : f7 vq = some (.inl (cy 0, 40, .inl kv)) := k9 _ _ a192 
          have a194 : f14 vq = some (.inl (cy 0, 40, .inl kv)) := k17 _ _ a193 
          have a195 : f22 vq = some (.inl (cy 0, 40, .inl kv)) := (k24 _ (z_nn u21 a194)).trans a194
          have a196 : f27 vq = some (.inl (cy 0, 40, .inl kv)) := (k29 _ (z_nn u26 a195)).trans a195
          have a197 : f30 vq = some (.inl (cy 0, 40, .inl kv)) := (k32 _ (z_nn u26 a195)).trans a196
          have a198 : f33 vq = some (.inl (cy 0, 40, .inl kv)) := (k35 _ (z_nn u26 a195)).trans a197
          have a199 : f36 vq = some (.inl (cy 0, 40, .inl kv)) := (k38 _ (z_nn u26 a195)).trans a198
          have a200 : f43 vq = some (.inl (cy 0, 40, .inl kv)) := k46 _ _ a199 (z_nn u21 a194)
          have a201 : f92 vq = some (.inl (cy 0, 40, .inl kv)) := k105 _ _ a200 (z_ne a200 a54 rfl) (z_ne a200 a63 rfl) (z_ne a200 a72 rfl) (z_nn u21 a194) (fun j9 h8 => (z_ne a200 (F82 j9 h8) rfl))
          have F202 : ∀ i9 : Nat, i9 < nf → f1 (fq i9) = some (.inr (3, [.ref (fk i9), .int (nI (fz i9))])) := fun i9 h9 => k4 _ _ (hFq i9 h9) (z_ne (hFq i9 h9) x_fa rfl)
          have F203 : ∀ i9 : Nat, i9 < nf → f7 (fq i9) = some (.inr (3, [.ref (fk i9), .int (nI (fz i9))])) := fun i9 h9 => k9 _ _ (F202 i9 h9) 
          have F204 : ∀ i9 : Nat, i9 < nf → f14 (fq i9) = some (.inr (3, [.ref (fk i9), .int (nI (fz i9))])) := fun i9 h9 => k17 _ _ (F203 i9 h9) 
          have F205 : ∀ i9 : Nat, i9 < nf → f22 (fq i9) = some (.inr (3, [.ref (fk i9), .int (nI (fz i9))])) := fun i9 h9 => (k24 _ (z_nn u21 (F204 i9 h9))).trans (F204 i9 h9)
          have F206 : ∀ i9 : Nat, i9 < nf → f27 (fq i9) = some (.inr (3, [.ref (fk i9), .int (nI (fz i9))])) := fun i9 h9 => (k29 _ (z_nn u26 (F205 i9 h9))).trans (F205 i9 h9)
          have F207 : ∀ i9 : Nat, i9 < nf → f30 (fq i9) = some (.inr (3, [.ref (fk i9), .int (nI (fz i9))])) := fun i9 h9 => (k32 _ (z_nn u26 (F205 i9 h9))).trans (F206 i9 h9)
          have F208 : ∀ i9 : Nat, i9 < nf → f33 (fq i9) = some (.inr (3, [.ref (fk i9), .int (nI (fz i9))])) := fun i9 h9 => (k35 _ (z_nn u26 (F205 i9 h9))).trans (F207 i9 h9)
          have F209 : ∀ i9 : Nat, i9 < nf → f36 (fq i9) = some (.inr (3, [.ref (fk i9), .int (nI (fz i9))])) := fun i9 h9 => (k38 _ (z_nn u26 (F205 i9 h9))).trans (F208 i9 h9)
          have F210 : ∀ i9 : Nat, i9 < nf → f43 (fq i9) = some (.inr (3, [.ref (fk i9), .int (nI (fz i9))])) := fun i9 h9 => k46 _ _ (F209 i9 h9) (z_nn u21 (F204 i9 h9))
          have F211 : ∀ i9 : Nat, i9 < nf → f92 (fq i9) = some (.inr (3, [.ref (fk i9), .int (nI (fz i9))])) := fun i9 h9 => k105 _ _ (F210 i9 h9) (z_ne (F210 i9 h9) a54 rfl) (z_ne (F210 i9 h9) a63 rfl) (z_ne (F210 i9 h9) a72 rfl) (z_nn u21 (F204 i9 h9)) (fun j9 h8 => (z_ne (F210 i9 h9) (F82 j9 h8) rfl))
          have F212 : ∀ i9 : Nat, i9 < nf → f1 (fk i9) = some (.inl (cy 0, 4, .inl (fc i9))) := fun i9 h9 => k4 _ _ (hFk i9 h9) (z_ne (hFk i9 h9) x_fa rfl)
          have F213 : ∀ i9 : Nat, i9 < nf → f7 (fk i9) = some (.inl (cy 0, 4, .inl (fc i9))) := fun i9 h9 => k9 _ _ (F212 i9 h9) 
          have F214 : ∀ i9 : Nat, i9 < nf → f14 (fk i9) = some (.inl (cy 0, 4, .inl (fc i9))) := fun i9 h9 => k17 _ _ (F213 i9 h9) 
          have F215 : ∀ i9 : Nat, i9 < nf → f22 (fk i9) = some (.inl (cy 0, 4, .inl (fc i9))) := fun i9 h9 => (k24 _ (z_nn u21 (F214 i9 h9))).trans (F214 i9 h9)
          have F216 : ∀ i9 : Nat, i9 < nf → f27 (fk i9) = some (.inl (cy 0, 4, .inl (fc i9))) := fun i9 h9 => (k29 _ (z_nn u26 (F215 i9 h9))).trans (F215 i9 h9)
          have F217 : ∀ i9 : Nat, i9 < nf → f30 (fk i9) = some (.inl (cy 0, 4, .inl (fc i9))) := fun i9 h9 => (k32 _ (z_nn u26 (F215 i9 h9))).trans (F216 i9 h9)
          have F218 : ∀ i9 : Nat, i9 < nf → f33 (fk i9) = some (.inl (cy 0, 4, .inl (fc i9))) := fun i9 h9 => (k35 _ (z_nn u26 (F215 i9 h9))).trans (F217 i9 h9)
          have F219 : ∀ i9 : Nat, i9 < nf → f36 (fk i9) = some (.inl (cy 0, 4, .inl (fc i9))) := fun i9 h9 => (k38 _ (z_nn u26 (F215 i9 h9))).trans (F218 i9 h9)
          have F220 : ∀ i9 : Nat, i9 < nf → f43 (fk i9) = some (.inl (cy 0, 4, .inl (fc i9))) := fun i9 h9 => k46 _ _ (F219 i9 h9) (z_nn u21 (F214 i9 h9))
          have F221 : ∀ i9 : Nat, i9 < nf → f92 (fk i9) = some (.inl (cy 0, 4, .inl (fc i9))) := fun i9 h9 => k105 _ _ (F220 i9 h9) (z_ne (F220 i9 h9) a54 rfl) (z_ne (F220 i9 h9) a63 rfl) (z_ne (F220 i9 h9) a72 rfl) (z_nn u21 (F214 i9 h9)) (fun j9 h8 => (z_ne (F220 i9 h9) (F82 j9 h8) rfl))
          have F222 : ∀ i9 : Nat, i9 < nc → f1 (cn i9) = some (.inr (0, [.int (ce i9), .int (cm i9)])) := fun i9 h9 => k4 _ _ (hCn i9 h9) (z_ne (hCn i9 h9) x_fa rfl)
          have F223 : ∀ i9 : Nat, i9 < nc → f7 (cn i9) = some (.inr (0, [.int (ce i9), .int (cm i9)])) := fun i9 h9 => k9 _ _ (F222 i9 h9) 
          have F224 : ∀ i9 : Nat, i9 < nc → f14 (cn i9) = some (.inr (0, [.int (ce i9), .int (cm i9)])) := fun i9 h9 => k17 _ _ (F223 i9 h9) 
          have F225 : ∀ i9 : Nat, i9 < nc → f22 (cn i9) = some (.inr (0, [.int (ce i9), .int (cm i9)])) := fun i9 h9 => (k24 _ (z_nn u21 (F224 i9 h9))).trans (F224 i9 h9)
          have F226 : ∀ i9 : Nat, i9 < nc → f27 (cn i9) = some (.inr (0, [.int (ce i9), .int (cm i9)])) := fun i9 h9 => (k29 _ (z_nn u26 (F225 i9 h9))).trans (F225 i9 h9)
          have F227 : ∀ i9 : Nat, i9 < nc → f30 (cn i9) = some (.inr (0, [.int (ce i9), .int (cm i9)])) := fun i9 h9 => (k32 _ (z_nn u26 (F225 i9 h9))).trans (F226 i9 h9)
          have F228 : ∀ i9 : Nat, i9 < nc → f33 (cn i9) = some (.inr (0, [.int (ce i9), .int (cm i9)])) := fun i9 h9 => (k35 _ (z_nn u26 (F225 i9 h9))).trans (F227 i9 h9)
          have F229 : ∀ i9 : Nat, i9 < nc → f36 (cn i9) = some (.inr (0, [.int (ce i9), .int (cm i9)])) := fun i9 h9 => (k38 _ (z_nn u26 (F225 i9 h9))).trans (F228 i9 h9)
          have F230 : ∀ i9 : Nat, i9 < nc → f43 (cn i9) = some (.inr (0, [.int (ce i9), .int (cm i9)])) := fun i9 h9 => k46 _ _ (F229 i9 h9) (z_nn u21 (F224 i9 h9))
          have F231 : ∀ i9 : Nat, i9 < nc → f92 (cn i9) = some (.inr (0, [.int (ce i9), .int (cm i9)])) := fun i9 h9 => k105 _ _ (F230 i9 h9) (z_ne (F230 i9 h9) a54 rfl) (z_ne (F230 i9 h9) a63 rfl) (z_ne (F230 i9 h9) a72 rfl) (z_nn u21 (F224 i9 h9)) (fun j9 h8 => (z_ne (F230 i9 h9) (F82 j9 h8) rfl))
          have F232 : ∀ i9 : Nat, i9 < 4 → f1 (ea i9) = some (.inr (1, [.ref (ma i9), .int (nI (sq i9))])) := fun i9 h9 => k4 _ _ (hEa i9 h9) (z_ne (hEa i9 h9) x_fa rfl)
          have F233 : ∀ i9 : Nat, i9 < 4 → f7 (ea i9) = some (.inr (1, [.ref (ma i9), .int (nI (sq i9))])) := fun i9 h9 => k9 _ _ (F232 i9 h9) 
          have F234 : ∀ i9 : Nat, i9 < 4 → f14 (ea i9) = some (.inr (1, [.ref (ma i9), .int (nI (sq i9))])) := fun i9 h9 => k17 _ _ (F233 i9 h9) 
          have F235 : ∀ i9 : Nat, i9 < 4 → f22 (ea i9) = some (.inr (1, [.ref (ma i9), .int (nI (sq i9))])) := fun i9 h9 => (k24 _ (z_nn u21 (F234 i9 h9))).trans (F234 i9 h9)
          have F236 : ∀ i9 : Nat, i9 < 4 → f27 (ea i9) = some (.inr (1, [.ref (ma i9), .int (nI (sq i9))])) := fun i9 h9 => (k29 _ (z_nn u26 (F235 i9 h9))).trans (F235 i9 h9)
          have F237 : ∀ i9 : Nat, i9 < 4 → f30 (ea i9) = some (.inr (1, [.ref (ma i9), .int (nI (sq i9))])) := fun i9 h9 => (k32 _ (z_nn u26 (F235 i9 h9))).trans (F236 i9 h9)
          have F238 : ∀ i9 : Nat, i9 < 4 → f33 (ea i9) = some (.inr (1, [.ref (ma i9), .int (nI (sq i9))])) := fun i9 h9 => (k35 _ (z_nn u26 (F235 i9 h9))).trans (F237 i9 h9)
          have F239 : ∀ i9 : Nat, i9 < 4 → f36 (ea i9) = some (.inr (1, [.ref (ma i9), .int (nI (sq i9))])) := fun i9 h9 => (k38 _ (z_nn u26 (F235 i9 h9))).trans (F238 i9 h9)
          have F240 : ∀ i9 : Nat, i9 < 4 → f43 (ea i9) = some (.inr (1, [.ref (ma i9), .int (nI (sq i9))])) := fun i9 h9 => k46 _ _ (F239 i9 h9) (z_nn u21 (F234 i9 h9))
          have F241 : ∀ i9 : Nat, i9 < 4 → f92 (ea i9) = some (.inr (1, [.ref (ma i9), .int (nI (sq i9))])) := fun i9 h9 => k105 _ _ (F240 i9 h9) (z_ne (F240 i9 h9) a54 rfl) (z_ne (F240 i9 h9) a63 rfl) (z_ne (F240 i9 h9) a72 rfl) (z_nn u21 (F234 i9 h9)) (fun j9 h8 => (z_ne (F240 i9 h9) (F82 j9 h8) rfl))
          have F242 : ∀ i9 : Nat, i9 < 4 → f1 (ma i9) = some (.inl (cy 0, 60, .inl (mb i9))) := fun i9 h9 => k4 _ _ (hMa i9 h9) (z_ne (hMa i9 h9) x_fa rfl)
          have F243 : ∀ i9 : Nat, i9 < 4 → f7 (ma i9) = some (.inl (cy 0, 60, .inl (mb i9))) := fun i9 h9 => k9 _ _ (F242 i9 h9) 
          have F244 : ∀ i9 : Nat, i9 < 4 → f14 (ma i9) = some (.inl (cy 0, 60, .inl (mb i9))) := fun i9 h9 => k17 _ _ (F243 i9 h9) 
          have F245 : ∀ i9 : Nat, i9 < 4 → f22 (ma i9) = some (.inl (cy 0, 60, .inl (mb i9))) := fun i9 h9 => (k24 _ (z_nn u21 (F244 i9 h9))).trans (F244 i9 h9)
          have F246 : ∀ i9 : Nat, i9 < 4 → f27 (ma i9) = some (.inl (cy 0, 60, .inl (mb i9))) := fun i9 h9 => (k29 _ (z_nn u26 (F245 i9 h9))).trans (F245 i9 h9)
          have F247 : ∀ i9 : Nat, i9 < 4 → f30 (ma i9) = some (.inl (cy 0, 60, .inl (mb i9))) := fun i9 h9 => (k32 _ (z_nn u26 (F245 i9 h9))).trans (F246 i9 h9)
          have F248 : ∀ i9 : Nat, i9 < 4 → f33 (ma i9) = some (.inl (cy 0, 60, .inl (mb i9))) := fun i9 h9 => (k35 _ (z_nn u26 (F245 i9 h9))).trans (F247 i9 h9)
          have F249 : ∀ i9 : Nat, i9 < 4 → f36 (ma i9) = some (.inl (cy 0, 60, .inl (mb i9))) := fun i9 h9 => (k38 _ (z_nn u26 (F245 i9 h9))).trans (F248 i9 h9)
          have F250 : ∀ i9 : Nat, i9 < 4 → f43 (ma i9) = some (.inl (cy 0, 60, .inl (mb i9))) := fun i9 h9 => k46 _ _ (F249 i9 h9) (z_nn u21 (F244 i9 h9))
          have F251 : ∀ i9 : Nat, i9 < 4 → f92 (ma i9) = some (.inl (cy 0, 60, .inl (mb i9))) := fun i9 h9 => k105 _ _ (F250 i9 h9) (z_ne (F250 i9 h9) a54 rfl) (z_ne (F250 i9 h9) a63 rfl) (z_ne (F250 i9 h9) a72 rfl) (z_nn u21 (F244 i9 h9)) (fun j9 h8 => (z_ne (F250 i9 h9) (F82 j9 h8) rfl))
          have a252 : f92 q25 = some (.inl (cy 1, 3, .inr (.inl (vp_updL (vp_updL (vp_updL (fun _ => 0) 0 x.toInt64) 1 y.toInt64) 2 z.toInt64)))) := k105 _ _ a73 (Ne.symm (z_nn u26 a49)) (Ne.symm (z_nn u26 a58)) (Ne.symm (z_nn u26 a67)) (Ne.symm (z_nn u26 a23)) (fun j9 h8 => (z_ne a73 (F82 j9 h8) rfl))
          have hgpf : ∀ j, j < 3 → (vp_updL (vp_updL (vp_updL (fun _ => 0) 0 x.toInt64) 1 y.toInt64) 2 z.toInt64) j = (q3 x.toInt64 y.toInt64 z.toInt64) j := (z_j3 _ _ _ _)
          have hq : q_wide nn x y z = (nI nn, 0, (-1), 0) := by simp [q_wide, h60, c10, c11, c12, c13]
          exact z_iret C hr rfl hz hS ⟨0, (-1), 0, gv, nl, gu, (nn + 1), (va_up ga nn (some q20)), gr_96, (va_up fg nn q20), (va_up pt nn q25), (va_up kd nn 2), (va_up ln nn 3), (va_up pp nn (vp_updL (vp_updL (vp_updL (fun _ => 0) 0 x.toInt64) 1 y.toInt64) 2 z.toInt64)), (va_up wg nn ((r16 / (if 0 < z.toInt64 then z.toInt64 else -z.toInt64)) + 1)), (va_up wd nn 0), (va_up hs nn hq_94), (va_up bf_97 nn bq_95), nf, gf, fq, fk, fz, fc, nc, gc, cn, ce, cm, sq, mb, ks, kk, kv, lk, (by rw [hq]), (by rw [hq]), (by rw [hq]), (by rw [hq]), (by rw [hq]; exact (zEV0 gv).symm), rfl, rfl, (by rw [if_pos (nI_pos' (by omega))]), (by rw [if_pos (nI_pos' (by omega))]), (by rw [if_pos (nI_pos' (by omega))]), (zPP_new hgpf), (by rw [if_pos (nI_pos' (by omega))]), (by rw [if_pos (nI_pos' (by omega)), p98, zHash_congr (gp' := q3 x.toInt64 y.toInt64 z.toInt64) hgpf]), rfl, rfl, rfl, rfl, rfl, rfl, rfl, rfl, rfl, rfl, rfl, rfl, ⟨a112, a121, a131, a100, a101, a102, a141, a151, a161, a171, a181, a191, a201, F103, F104, F211, F221, F231, F241, F251, (by omega), hl12, hf6, hc60, hs40, (z_ga1 hga), (z_gr1 p99), (z_up1 (P := fun _ a9 => a9 ≤ 15) hln (by omega)), (z_up2 (P := fun (a9 : Int32) (b9 : Nat) => a9 = 5 → 3 ≤ b9) hk5 (fun h9 => absurd h9 (by decide))), (z_up2 (P := fun (a9 : Int32) (b9 : Nat) => a9 = 4 → 2 ≤ b9) hk4 (fun h9 => absurd h9 (by decide))), (z_inj1 hfi (fun j9 h9 => z_nn u21 (F76 j9 h9))), (z_inj1 hpi (fun j9 h9 => z_nn u26 (F86 j9 h9))), har, hgf, hfz, hgc, hG, hsq, hei, hmi, kne, hca, hcr, hlk⟩⟩ (Nat.le_of_ble_eq_true rfl) (Nat.le_of_ble_eq_true rfl) dX7_wide_118
        · refine lv_aload_n hx hb dX7_wide_58 rfl (lv_at hl 0 rfl) ?_
          have a253 : f7 o = some (.inr (7, [.ref fa, .ref fi, .ref nu, .int (nI nl), .ref fm, .int (nI nf), .ref co, .int (nI nc), .ref en, .ref ke, .long lk])) := k9 _ _ a5 
          refine z_get (v := .ref fa) C hz a253 zl7 mFX7_10 (by decide) rfl dX7_wide_59 ?_
          refine lv_iconst (v := 2) hx hb dX7_wide_62 (by decide) ?_
          refine lv_iconst (v := 2) hx hb dX7_wide_63 (by decide) ?_
          have a254 : f7 fa = some (.inr (2, [.int 0, .int (-1), .int 0, .ref ev])) := k9 _ _ a3 
          have a255 : f1 ev = some (.inl (cy 0, 8, .inl gv)) := k4 _ _ x_ev (z_ne x_ev x_fa rfl)
          have a256 : f7 ev = some (.inl (cy 0, 8, .inl gv)) := k9 _ _ a255 
          refine z_callVi (As := [.int 2, .int 2]) C hz hS hA hl (k_X2_own l D cy f7 fa 2 2 0 (-1) 0 ev gv a254 a256 ) zyX2_own mMX7_96 a254 zl2 rfl rfl (Nat.le_of_ble_eq_true rfl) ⟨Nat.le_of_ble_eq_true rfl, Nat.le_of_ble_eq_true rfl⟩ ⟨Nat.le_of_ble_eq_true rfl, Nat.le_of_ble_eq_true rfl⟩ dX7_wide_64 (fun r f257 H locs h258 hz hS => ?_)
          obtain ⟨rfl, a259, a260, k261⟩ := h258
          have a262 : f257 o = some (.inr (7, [.ref fa, .ref fi, .ref nu, .int (nI nl), .ref fm, .int (nI nf), .ref co, .int (nI nc), .ref en, .ref ke, .long lk])) := k261 _ _ a253 (z_ne a253 a254 rfl) (z_ne a253 a256 rfl)
          have a263 : f7 fi = some (.inr (5, [.ref al, .ref ra, .int (nI nn)])) := k9 _ _ a6 
          have a264 : f257 fi = some (.inr (5, [.ref al, .ref ra, .int (nI nn)])) := k261 _ _ a263 (z_ne a263 a254 rfl) (z_ne a263 a256 rfl)
          have a265 : f1 al = some (.inl (cy 3, 60, .inr (.inr (.inr (.inr ga))))) := k4 _ _ x_al (z_ne x_al x_fa rfl)
          have a266 : f7 al = some (.inl (cy 3, 60, .inr (.inr (.inr (.inr ga))))) := k9 _ _ a265 
          have a267 : f257 al = some (.inl (cy 3, 60, .inr (.inr (.inr (.inr ga))))) := k261 _ _ a266 (z_ne a266 a254 rfl) (z_ne a266 a256 rfl)
          have a268 : f1 ra = some (.inl (cy 3, 60, .inr (.inr (.inr (.inr gr))))) := k4 _ _ x_ra (z_ne x_ra x_fa rfl)
          have a269 : f7 ra = some (.inl (cy 3, 60, .inr (.inr (.inr (.inr gr))))) := k9 _ _ a268 
          have a270 : f257 ra = some (.inl (cy 3, 60, .inr (.inr (.inr (.inr gr))))) := k261 _ _ a269 (z_ne a269 a254 rfl) (z_ne a269 a256 rfl)
          have a271 : f1 nu = some (.inl (cy 0, 12, .inl gu)) := k4 _ _ x_nu (z_ne x_nu x_fa rfl)
          have a272 : f7 nu = some (.inl (cy 0, 12, .inl gu)) := k9 _ _ a271 
          have a273 : f257 nu = some (.inl (cy 0, 12, .inl gu)) := k261 _ _ a272 (z_ne a272 a254 rfl) (z_ne a272 a256 rfl)
          have a274 : f1 fm = some (.inl (cy 4, 6, .inr (.inr (.inr (.inr gf))))) := k4 _ _ x_fm (z_ne x_fm x_fa rfl)
          have a275 : f7 fm = some (.inl (cy 4, 6, .inr (.inr (.inr (.inr gf))))) := k9 _ _ a274 
          have a276 : f257 fm = some (.inl (cy 4, 6, .inr (.inr (.inr (.inr gf))))) := k261 _ _ a275 (z_ne a275 a254 rfl) (z_ne a275 a256 rfl)
          have a277 : f1 co = some (.inl (cy 5, 60, .inr (.inr (.inr (.inr gc))))) := k4 _ _ x_co (z_ne x_co x_fa rfl)
          have a278 : f7 co = some (.inl (cy 5, 60, .inr (.inr (.inr (.inr gc))))) := k9 _ _ a277 
          have a279 : f257 co = some (.inl (cy 5, 60, .inr (.inr (.inr (.inr gc))))) := k261 _ _ a278 (z_ne a278 a254 rfl) (z_ne a278 a256 rfl)
          have a280 : f1 en = some (.inl (cy 6, 4, .inr (.inr (.inr (.inr ge))))) := k4 _ _ x_en (z_ne x_en x_fa rfl)
          have a281 : f7 en = some (.inl (cy 6, 4, .inr (.inr (.inr (.inr ge))))) := k9 _ _ a280 
          have a282 : f257 en = some (.inl (cy 6, 4, .inr (.inr (.inr (.inr ge))))) := k261 _ _ a281 (z_ne a281 a254 rfl) (z_ne a281 a256 rfl)
          have a283 : f1 ke = some (.inr (6, [.ref kn, .ref vq, .int (nI ks)])) := k4 _ _ x_ke (z_ne x_ke x_fa rfl)
          have a284 : f7 ke = some (.inr (6, [.ref kn, .ref vq, .int (nI ks)])) := k9 _ _ a283 
          have a285 : f257 ke = some (.inr (6, [.ref kn, .ref vq, .int (nI ks)])) := k261 _ _ a284 (z_ne a284 a254 rfl) (z_ne a284 a256 rfl)
          have a286 : f1 kn = some (.inl (cy 0, 40, .inl kk)) := k4 _ _ x_kn (z_ne x_kn x_fa rfl)
          have a287 : f7 kn = some (.inl (cy 0, 40, .inl kk)) := k9 _ _ a286 
          have a288 : f257 kn = some (.inl (cy 0, 40, .inl kk)) := k261 _ _ a287 (z_ne a287 a254 rfl) (z_ne a287 a256 rfl)
          have a289 : f1 vq = some (.inl (cy 0, 40, .inl kv)) := k4 _ _ x_vq (z_ne x_vq x_fa rfl)
          have a290 : f7 vq = some (.inl (cy 0, 40, .inl kv)) := k9 _ _ a289 
          have a291 : f257 vq = some (.inl (cy 0, 40, .inl kv)) := k261 _ _ a290 (z_ne a290 a254 rfl) (z_ne a290 a256 rfl)
          have F292 : ∀ i9 : Nat, i9 < nn → f1 (fg i9) = some (.inr (4, [.int (kd i9), .ref (pt i9), .long (wg i9), .int (wd i9), .int (nI i9), .int (hs i9), .int (bf i9)])) := fun i9 h9 => k4 _ _ (hF i9 h9) (z_ne (hF i9 h9) x_fa rfl)
          have F293 : ∀ i9 : Nat, i9 < nn → f7 (fg i9) = some (.inr (4, [.int (kd i9), .ref (pt i9), .long (wg i9), .int (wd i9), .int (nI i9), .int (hs i9), .int (bf i9)])) := fun i9 h9 => k9 _ _ (F292 i9 h9) 
          have F294 : ∀ i9 : Nat, i9 < nn → f257 (fg i9) = some (.inr (4, [.int (kd i9), .ref (pt i9), .long (wg i9), .int (wd i9), .int (nI i9), .int (hs i9), .int (bf i9)])) := fun i9 h9 => k261 _ _ (F293 i9 h9) (z_ne (F293 i9 h9) a254 rfl) (z_ne (F293 i9 h9) a256 rfl)
          have F295 : ∀ i9 : Nat, i9 < nn → f1 (pt i9) = some (.inl (cy 1, (ln i9), .inr (.inl (pp i9)))) := fun i9 h9 => k4 _ _ (hP i9 h9) (z_neO (hP i9 h9) x_fa rfl)
          have F296 : ∀ i9 : Nat, i9 < nn → f7 (pt i9) = some (.inl (cy 1, (ln i9), .inr (.inl (pp i9)))) := fun i9 h9 => k9 _ _ (F295 i9 h9) 
          have F297 : ∀ i9 : Nat, i9 < nn → f257 (pt i9) = some (.inl (cy 1, (ln i9), .inr (.inl (pp i9)))) := fun i9 h9 => k261 _ _ (F296 i9 h9) (z_neO (F296 i9 h9) a254 rfl) (z_neA (F296 i9 h9) a256 rfl)
          have F298 : ∀ i9 : Nat, i9 < nf → f1 (fq i9) = some (.inr (3, [.ref (fk i9), .int (nI (fz i9))])) := fun i9 h9 => k4 _ _ (hFq i9 h9) (z_ne (hFq i9 h9) x_fa rfl)
          have F299 : ∀ i9 : Nat, i9 < nf → f7 (fq i9) = some (.inr (3, [.ref (fk i9), .int (nI (fz i9))])) := fun i9 h9 => k9 _ _ (F298 i9 h9) 
          have F300 : ∀ i9 : Nat, i9 < nf → f257 (fq i9) = some (.inr (3, [.ref (fk i9), .int (nI (fz i9))])) := fun i9 h9 => k261 _ _ (F299 i9 h9) (z_ne (F299 i9 h9) a254 rfl) (z_ne (F299 i9 h9) a256 rfl)
          have F301 : ∀ i9 : Nat, i9 < nf → f1 (fk i9) = some (.inl (cy 0, 4, .inl (fc i9))) := fun i9 h9 => k4 _ _ (hFk i9 h9) (z_ne (hFk i9 h9) x_fa rfl)
          have F302 : ∀ i9 : Nat, i9 < nf → f7 (fk i9) = some (.inl (cy 0, 4, .inl (fc i9))) := fun i9 h9 => k9 _ _ (F301 i9 h9) 
          have F303 : ∀ i9 : Nat, i9 < nf → f257 (fk i9) = some (.inl (cy 0, 4, .inl (fc i9))) := fun i9 h9 => k261 _ _ (F302 i9 h9) (z_ne (F302 i9 h9) a254 rfl) (z_ne (F302 i9 h9) a256 rfl)
          have F304 : ∀ i9 : Nat, i9 < nc → f1 (cn i9) = some (.inr (0, [.int (ce i9), .int (cm i9)])) := fun i9 h9 => k4 _ _ (hCn i9 h9) (z_ne (hCn i9 h9) x_fa rfl)
          have F305 : ∀ i9 : Nat, i9 < nc → f7 (cn i9) = some (.inr (0, [.int (ce i9), .int (cm i9)])) := fun i9 h9 => k9 _ _ (F304 i9 h9) 
          have F306 : ∀ i9 : Nat, i9 < nc → f257 (cn i9) = some (.inr (0, [.int (ce i9), .int (cm i9)])) := fun i9 h9 => k261 _ _ (F305 i9 h9) (z_ne (F305 i9 h9) a254 rfl) (z_ne (F305 i9 h9) a256 rfl)
          have F307 : ∀ i9 : Nat, i9 < 4 → f1 (ea i9) = some (.inr (1, [.ref (ma i9), .int (nI (sq i9))])) := fun i9 h9 => k4 _ _ (hEa i9 h9) (z_ne (hEa i9 h9) x_fa rfl)
          have F308 : ∀ i9 : Nat, i9 < 4 → f7 (ea i9) = some (.inr (1, [.ref (ma i9), .int (nI (sq i9))])) := fun i9 h9 => k9 _ _ (F307 i9 h9) 
          have F309 : ∀ i9 : Nat, i9 < 4 → f257 (ea i9) = some (.inr (1, [.ref (ma i9), .int (nI (sq i9))])) := fun i9 h9 => k261 _ _ (F308 i9 h9) (z_ne (F308 i9 h9) a254 rfl) (z_ne (F308 i9 h9) a256 rfl)
          have F310 : ∀ i9 : Nat, i9 < 4 → f1 (ma i9) = some (.inl (cy 0, 60, .inl (mb i9))) := fun i9 h9 => k4 _ _ (hMa i9 h9) (z_ne (hMa i9 h9) x_fa rfl)
          have F311 : ∀ i9 : Nat, i9 < 4 → f7 (ma i9) = some (.inl (cy 0, 60, .inl (mb i9))) := fun i9 h9 => k9 _ _ (F310 i9 h9) 
          have F312 : ∀ i9 : Nat, i9 < 4 → f257 (ma i9) = some (.inl (cy 0, 60, .inl (mb i9))) := fun i9 h9 => k261 _ _ (F311 i9 h9) (z_ne (F311 i9 h9) a254 rfl) (z_ne (F311 i9 h9) a256 rfl)
          have hq : q_wide nn x y z = ((-4), 7, 2, 2) := by simp [q_wide, h60, c10, c11, c12, c13]
          exact z_iret C hr rfl hz hS ⟨7, 2, 2, (upd gv 7 (gv 7 + 1)), nl, gu, nn, ga, gr, fg, pt, kd, ln, pp, wg, wd, hs, bf, nf, gf, fq, fk, fz, fc, nc, gc, cn, ce, cm, sq, mb, ks, kk, kv, lk, (by rw [hq]), (by rw [hq]), (by rw [hq]), (by rw [hq]), (by rw [hq]; exact (zEV7 gv).symm), rfl, rfl, (by rw [if_neg (by decide)]), (by rw [if_neg (by decide)]), (by rw [if_neg (by decide)]), (zPP_no (by decide)), (by rw [if_neg (by decide)]), (by rw [if_neg (by decide)]), rfl, rfl, rfl, rfl, rfl, rfl, rfl, rfl, rfl, rfl, rfl, rfl, ⟨a262, a259, a260, a264, a267, a270, a273, a276, a279, a282, a285, a288, a291, F294, F297, F300, F303, F306, F309, F312, hn60, hl12, hf6, hc60, hs40, hga, hgr, hln, hk5, hk4, hfi, hpi, har, hgf, hfz, hgc, hG, hsq, hei, hmi, kne, hca, hcr, hlk⟩⟩ (Nat.le_of_ble_eq_true rfl) (Nat.le_of_ble_eq_true rfl) dX7_wide_67
      · refine lv_aload_n hx hb dX7_wide_39 rfl (lv_at hl 0 rfl) ?_
        have a313 : f7 o = some (.inr (7, [.ref fa, .ref fi, .ref nu, .int (nI nl), .ref fm, .int (nI nf), .ref co, .int (nI nc), .ref en, .ref ke, .long lk])) := k9 _ _ a5 
        refine z_get (v := .ref fa) C hz a313 zl7 mFX7_10 (by decide) rfl dX7_wide_40 ?_
        refine lv_bipush (v := 6) hx hb dX7_wide_43 (by decide) ?_
        refine lv_iconst (v := 2) hx hb dX7_wide_45 (by decide) ?_
        have a314 : f7 fa = some (.inr (2, [.int 0, .int (-1), .int 0, .ref ev])) := k9 _ _ a3 
        have a315 : f1 ev = some (.inl (cy 0, 8, .inl gv)) := k4 _ _ x_ev (z_ne x_ev x_fa rfl)
        have a316 : f7 ev = some (.inl (cy 0, 8, .inl gv)) := k9 _ _ a315 
        refine z_callVi (As := [.int 6, .int 2]) C hz hS hA hl (k_X2_inPart l D cy f7 fa 6 2 0 (-1) 0 ev gv 6 a314 a316 (by decide) (Nat.le_of_ble_eq_true rfl)) zyX2_inPart mMX7_104 a314 zl2 rfl rfl (Nat.le_of_ble_eq_true rfl) ⟨Nat.le_of_ble_eq_true rfl, Nat.le_of_ble_eq_true rfl⟩ ⟨Nat.le_of_ble_eq_true rfl, Nat.le_of_ble_eq_true rfl⟩ dX7_wide_46 (fun r f317 H locs h318 hz hS => ?_)
        obtain ⟨rfl, a319, a320, k321⟩ := h318
        have a322 : f317 o = some (.inr (7, [.ref fa, .ref fi, .ref nu, .int (nI nl), .ref fm, .int (nI nf), .ref co, .int (nI nc), .ref en, .ref ke, .long lk])) := k321 _ _ a313 (z_ne a313 a314 rfl) (z_ne a313 a316 rfl)
        have a323 : f7 fi = some (.inr (5, [.ref al, .ref ra, .int (nI nn)])) := k9 _ _ a6 
        have a324 : f317 fi = some (.inr (5, [.ref al, .ref ra, .int (nI nn)])) := k321 _ _ a323 (z_ne a323 a314 rfl) (z_ne a323 a316 rfl)
        have a325 : f1 al = some (.inl (cy 3, 60, .inr (.inr (.inr (.inr ga))))) := k4 _ _ x_al (z_ne x_al x_fa rfl)
        have a326 : f7 al = some (.inl (cy 3, 60, .inr (.inr (.inr (.inr ga))))) := k9 _ _ a325 
        have a327 : f317 al = some (.inl (cy 3, 60, .inr (.inr (.inr (.inr ga))))) := k321 _ _ a326 (z_ne a326 a314 rfl) (z_ne a326 a316 rfl)
        have a328 : f1 ra = some (.inl (cy 3, 60, .inr (.inr (.inr (.inr gr))))) := k4 _ _ x_ra (z_ne x_ra x_fa rfl)
        have a329 : f7 ra = some (.inl (cy 3, 60, .inr (.inr (.inr (.inr gr))))) := k9 _ _ a328 
        have a330 : f317 ra = some (.inl (cy 3, 60, .inr (.inr (.inr (.inr gr))))) := k321 _ _ a329 (z_ne a329 a314 rfl) (z_ne a329 a316 rfl)
        have a331 : f1 nu = some (.inl (cy 0, 12, .inl gu)) := k4 _ _ x_nu (z_ne x_nu x_fa rfl)
        have a332 : f7 nu = some (.inl (cy 0, 12, .inl gu)) := k9 _ _ a331 
        have a333 : f317 nu = some (.inl (cy 0, 12, .inl gu)) := k321 _ _ a332 (z_ne a332 a314 rfl) (z_ne a332 a316 rfl)
        have a334 : f1 fm = some (.inl (cy 4, 6, .inr (.inr (.inr (.inr gf))))) := k4 _ _ x_fm (z_ne x_fm x_fa rfl)
        have a335 : f7 fm = some (.inl (cy 4, 6, .inr (.inr (.inr (.inr gf))))) := k9 _ _ a334 
        have a336 : f317 fm = some (.inl (cy 4, 6, .inr (.inr (.inr (.inr gf))))) := k321 _ _ a335 (z_ne a335 a314 rfl) (z_ne a335 a316 rfl)
        have a337 : f1 co = some (.inl (cy 5, 60, .inr (.inr (.inr (.inr gc))))) := k4 _ _ x_co (z_ne x_co x_fa rfl)
        have a338 : f7 co = some (.inl (cy 5, 60, .inr (.inr (.inr (.inr gc))))) := k9 _ _ a337 
        have a339 : f317 co = some (.inl (cy 5, 60, .inr (.inr (.inr (.inr gc))))) := k321 _ _ a338 (z_ne a338 a314 rfl) (z_ne a338 a316 rfl)
        have a340 : f1 en = some (.inl (cy 6, 4, .inr (.inr (.inr (.inr ge))))) := k4 _ _ x_en (z_ne x_en x_fa rfl)
        have a341 : f7 en = some (.inl (cy 6, 4, .inr (.inr (.inr (.inr ge))))) := k9 _ _ a340 
        have a342 : f317 en = some (.inl (cy 6, 4, .inr (.inr (.inr (.inr ge))))) := k321 _ _ a341 (z_ne a341 a314 rfl) (z_ne a341 a316 rfl)
        have a343 : f1 ke = some (.inr (6, [.ref kn, .ref vq, .int (nI ks)])) := k4 _ _ x_ke (z_ne x_ke x_fa rfl)
        have a344 : f7 ke = some (.inr (6, [.ref kn, .ref vq, .int (nI ks)])) := k9 _ _ a343 
        have a345 : f317 ke = some (.inr (6, [.ref kn, .ref vq, .int (nI ks)])) := k321 _ _ a344 (z_ne a344 a314 rfl) (z_ne a344 a316 rfl)
        have a346 : f1 kn = some (.inl (cy 0, 40, .inl kk)) := k4 _ _ x_kn (z_ne x_kn x_fa rfl)
        have a347 : f7 kn = some (.inl (cy 0, 40, .inl kk)) := k9 _ _ a346 
        have a348 : f317 kn = some (.inl (cy 0, 40, .inl kk)) := k321 _ _ a347 (z_ne a347 a314 rfl) (z_ne a347 a316 rfl)
        have a349 : f1 vq = some (.inl (cy 0, 40, .inl kv)) := k4 _ _ x_vq (z_ne x_vq x_fa rfl)
        have a350 : f7 vq = some (.inl (cy 0, 40, .inl kv)) := k9 _ _ a349 
        have a351 : f317 vq = some (.inl (cy 0, 40, .inl kv)) := k321 _ _ a350 (z_ne a350 a314 rfl) (z_ne a350 a316 rfl)
        have F352 : ∀ i9 : Nat, i9 < nn → f1 (fg i9) = some (.inr (4, [.int (kd i9), .ref (pt i9), .long (wg i9), .int (wd i9), .int (nI i9), .int (hs i9), .int (bf i9)])) := fun i9 h9 => k4 _ _ (hF i9 h9) (z_ne (hF i9 h9) x_fa rfl)
        have F353 : ∀ i9 : Nat, i9 < nn → f7 (fg i9) = some (.inr (4, [.int (kd i9), .ref (pt i9), .long (wg i9), .int (wd i9), .int (nI i9), .int (hs i9), .int (bf i9)])) := fun i9 h9 => k9 _ _ (F352 i9 h9) 
        have F354 : ∀ i9 : Nat, i9 < nn → f317 (fg i9) = some (.inr (4, [.int (kd i9), .ref (pt i9), .long (wg i9), .int (wd i9), .int (nI i9), .int (hs i9), .int (bf i9)])) := fun i9 h9 => k321 _ _ (F353 i9 h9) (z_ne (F353 i9 h9) a314 rfl) (z_ne (F353 i9 h9) a316 rfl)
        have F355 : ∀ i9 : Nat, i9 < nn → f1 (pt i9) = some (.inl (cy 1, (ln i9), .inr (.inl (pp i9)))) := fun i9 h9 => k4 _ _ (hP i9 h9) (z_neO (hP i9 h9) x_fa rfl)
        have F356 : ∀ i9 : Nat, i9 < nn → f7 (pt i9) = some (.inl (cy 1, (ln i9), .inr (.inl (pp i9)))) := fun i9 h9 => k9 _ _ (F355 i9 h9) 
        have F357 : ∀ i9 : Nat, i9 < nn → f317 (pt i9) = some (.inl (cy 1, (ln i9), .inr (.inl (pp i9)))) := fun i9 h9 => k321 _ _ (F356 i9 h9) (z_neO (F356 i9 h9) a314 rfl) (z_neA (F356 i9 h9) a316 rfl)
        have F358 : ∀ i9 : Nat, i9 < nf → f1 (fq i9) = some (.inr (3, [.ref (fk i9), .int (nI (fz i9))])) := fun i9 h9 => k4 _ _ (hFq i9 h9) (z_ne (hFq i9 h9) x_fa rfl)
        have F359 : ∀ i9 : Nat, i9 < nf → f7 (fq i9) = some (.inr (3, [.ref (fk i9), .int (nI (fz i9))])) := fun i9 h9 => k9 _ _ (F358 i9 h9) 
        have F360 : ∀ i9 : Nat, i9 < nf → f317 (fq i9) = some (.inr (3, [.ref (fk i9), .int (nI (fz i9))])) := fun i9 h9 => k321 _ _ (F359 i9 h9) (z_ne (F359 i9 h9) a314 rfl) (z_ne (F359 i9 h9) a316 rfl)
        have F361 : ∀ i9 : Nat, i9 < nf → f1 (fk i9) = some (.inl (cy 0, 4, .inl (fc i9))) := fun i9 h9 => k4 _ _ (hFk i9 h9) (z_ne (hFk i9 h9) x_fa rfl)
        have F362 : ∀ i9 : Nat, i9 < nf → f7 (fk i9) = some (.inl (cy 0, 4, .inl (fc i9))) := fun i9 h9 => k9 _ _ (F361 i9 h9) 
        have F363 : ∀ i9 : Nat, i9 < nf → f317 (fk i9) = some (.inl (cy 0, 4, .inl (fc i9))) := fun i9 h9 => k321 _ _ (F362 i9 h9) (z_ne (F362 i9 h9) a314 rfl) (z_ne (F362 i9 h9) a316 rfl)
        have F364 : ∀ i9 : Nat, i9 < nc → f1 (cn i9) = some (.inr (0, [.int (ce i9), .int (cm i9)])) := fun i9 h9 => k4 _ _ (hCn i9 h9) (z_ne (hCn i9 h9) x_fa rfl)
        have F365 : ∀ i9 : Nat, i9 < nc → f7 (cn i9) = some (.inr (0, [.int (ce i9), .int (cm i9)])) := fun i9 h9 => k9 _ _ (F364 i9 h9) 
        have F366 : ∀ i9 : Nat, i9 < nc → f317 (cn i9) = some (.inr (0, [.int (ce i9), .int (cm i9)])) := fun i9 h9 => k321 _ _ (F365 i9 h9) (z_ne (F365 i9 h9) a314 rfl) (z_ne (F365 i9 h9) a316 rfl)
        have F367 : ∀ i9 : Nat, i9 < 4 → f1 (ea i9) = some (.inr (1, [.ref (ma i9), .int (nI (sq i9))])) := fun i9 h9 => k4 _ _ (hEa i9 h9) (z_ne (hEa i9 h9) x_fa rfl)
        have F368 : ∀ i9 : Nat, i9 < 4 → f7 (ea i9) = some (.inr (1, [.ref (ma i9), .int (nI (sq i9))])) := fun i9 h9 => k9 _ _ (F367 i9 h9) 
        have F369 : ∀ i9 : Nat, i9 < 4 → f317 (ea i9) = some (.inr (1, [.ref (ma i9), .int (nI (sq i9))])) := fun i9 h9 => k321 _ _ (F368 i9 h9) (z_ne (F368 i9 h9) a314 rfl) (z_ne (F368 i9 h9) a316 rfl)
        have F370 : ∀ i9 : Nat, i9 < 4 → f1 (ma i9) = some (.inl (cy 0, 60, .inl (mb i9))) := fun i9 h9 => k4 _ _ (hMa i9 h9) (z_ne (hMa i9 h9) x_fa rfl)
        have F371 : ∀ i9 : Nat, i9 < 4 → f7 (ma i9) = some (.inl (cy 0, 60, .inl (mb i9))) := fun i9 h9 => k9 _ _ (F370 i9 h9) 
        have F372 : ∀ i9 : Nat, i9 < 4 → f317 (ma i9) = some (.inl (cy 0, 60, .inl (mb i9))) := fun i9 h9 => k321 _ _ (F371 i9 h9) (z_ne (F371 i9 h9) a314 rfl) (z_ne (F371 i9 h9) a316 rfl)
        have hq : q_wide nn x y z = ((-4), 6, 2, 0) := by simp [q_wide, h60, c10, c11, c12]
        exact z_iret C hr rfl hz hS ⟨6, 2, 0, (upd gv 6 (gv 6 + 1)), nl, gu, nn, ga, gr, fg, pt, kd, ln, pp, wg, wd, hs, bf, nf, gf, fq, fk, fz, fc, nc, gc, cn, ce, cm, sq, mb, ks, kk, kv, lk, (by rw [hq]), (by rw [hq]), (by rw [hq]), (by rw [hq]), (by rw [hq]; exact (zEV6 gv).symm), rfl, rfl, (by rw [if_neg (by decide)]), (by rw [if_neg (by decide)]), (by rw [if_neg (by decide)]), (zPP_no (by decide)), (by rw [if_neg (by decide)]), (by rw [if_neg (by decide)]), rfl, rfl, rfl, rfl, rfl, rfl, rfl, rfl, rfl, rfl, rfl, rfl, ⟨a322, a319, a320, a324, a327, a330, a333, a336, a339, a342, a345, a348, a351, F354, F357, F360, F363, F366, F369, F372, hn60, hl12, hf6, hc60, hs40, hga, hgr, hln, hk5, hk4, hfi, hpi, har, hgf, hfz, hgc, hG, hsq, hei, hmi, kne, hca, hcr, hlk⟩⟩ (Nat.le_of_ble_eq_true rfl) (Nat.le_of_ble_eq_true rfl) dX7_wide_49
    · refine lv_aload_n hx hb dX7_wide_25 rfl (lv_at hl 0 rfl) ?_
      have a373 : f7 o = some (.inr (7, [.ref fa, .ref fi, .ref nu, .int (nI nl), .ref fm, .int (nI nf), .ref co, .int (nI nc), .ref en, .ref ke, .long lk])) := k9 _ _ a5 
      refine z_get (v := .ref fa) C hz a373 zl7 mFX7_10 (by decide) rfl dX7_wide_26 ?_
      refine lv_iconst (v := 1) hx hb dX7_wide_29 (by decide) ?_
      refine lv_iconst (v := 1) hx hb dX7_wide_30 (by decide) ?_
      have a374 : f7 fa = some (.inr (2, [.int 0, .int (-1), .int 0, .ref ev])) := k9 _ _ a3 
      have a375 : f1 ev = some (.inl (cy 0, 8, .inl gv)) := k4 _ _ x_ev (z_ne x_ev x_fa rfl)
      have a376 : f7 ev = some (.inl (cy 0, 8, .inl gv)) := k9 _ _ a375 
      refine z_callVi (As := [.int 1, .int 1]) C hz hS hA hl (k_X2_own l D cy f7 fa 1 1 0 (-1) 0 ev gv a374 a376 ) zyX2_own mMX7_96 a374 zl2 rfl rfl (Nat.le_of_ble_eq_true rfl) ⟨Nat.le_of_ble_eq_true rfl, Nat.le_of_ble_eq_true rfl⟩ ⟨Nat.le_of_ble_eq_true rfl, Nat.le_of_ble_eq_true rfl⟩ dX7_wide_31 (fun r f377 H locs h378 hz hS => ?_)
      obtain ⟨rfl, a379, a380, k381⟩ := h378
      have a382 : f377 o = some (.inr (7, [.ref fa, .ref fi, .ref nu, .int (nI nl), .ref fm, .int (nI nf), .ref co, .int (nI nc), .ref en, .ref ke, .long lk])) := k381 _ _ a373 (z_ne a373 a374 rfl) (z_ne a373 a376 rfl)
      have a383 : f7 fi = some (.inr (5, [.ref al, .ref ra, .int (nI nn)])) := k9 _ _ a6 
      have a384 : f377 fi = some (.inr (5, [.ref al, .ref ra, .int (nI nn)])) := k381 _ _ a383 (z_ne a383 a374 rfl) (z_ne a383 a376 rfl)
      have a385 : f1 al = some (.inl (cy 3, 60, .inr (.inr (.inr (.inr ga))))) := k4 _ _ x_al (z_ne x_al x_fa rfl)
      have a386 : f7 al = some (.inl (cy 3, 60, .inr (.inr (.inr (.inr ga))))) := k9 _ _ a385 
      have a387 : f377 al = some (.inl (cy 3, 60, .inr (.inr (.inr (.inr ga))))) := k381 _ _ a386 (z_ne a386 a374 rfl) (z_ne a386 a376 rfl)
      have a388 : f1 ra = some (.inl (cy 3, 60, .inr (.inr (.inr (.inr gr))))) := k4 _ _ x_ra (z_ne x_ra x_fa rfl)
      have a389 : f7 ra = some (.inl (cy 3, 60, .inr (.inr (.inr (.inr gr))))) := k9 _ _ a388 
      have a390 : f377 ra = some (.inl (cy 3, 60, .inr (.inr (.inr (.inr gr))))) := k381 _ _ a389 (z_ne a389 a374 rfl) (z_ne a389 a376 rfl)
      have a391 : f1 nu = some (.inl (cy 0, 12, .inl gu)) := k4 _ _ x_nu (z_ne x_nu x_fa rfl)
      have a392 : f7 nu = some (.inl (cy 0, 12, .inl gu)) := k9 _ _ a391 
      have a393 : f377 nu = some (.inl (cy 0, 12, .inl gu)) := k381 _ _ a392 (z_ne a392 a374 rfl) (z_ne a392 a376 rfl)
      have a394 : f1 fm = some (.inl (cy 4, 6, .inr (.inr (.inr (.inr gf))))) := k4 _ _ x_fm (z_ne x_fm x_fa rfl)
      have a395 : f7 fm = some (.inl (cy 4, 6, .inr (.inr (.inr (.inr gf))))) := k9 _ _ a394 
      have a396 : f377 fm = some (.inl (cy 4, 6, .inr (.inr (.inr (.inr gf))))) := k381 _ _ a395 (z_ne a395 a374 rfl) (z_ne a395 a376 rfl)
      have a397 : f1 co = some (.inl (cy 5, 60, .inr (.inr (.inr (.inr gc))))) := k4 _ _ x_co (z_ne x_co x_fa rfl)
      have a398 : f7 co = some (.inl (cy 5, 60, .inr (.inr (.inr (.inr gc))))) := k9 _ _ a397 
      have a399 : f377 co = some (.inl (cy 5, 60, .inr (.inr (.inr (.inr gc))))) := k381 _ _ a398 (z_ne a398 a374 rfl) (z_ne a398 a376 rfl)
      have a400 : f1 en = some (.inl (cy 6, 4, .inr (.inr (.inr (.inr ge))))) := k4 _ _ x_en (z_ne x_en x_fa rfl)
      have a401 : f7 en = some (.inl (cy 6, 4, .inr (.inr (.inr (.inr ge))))) := k9 _ _ a400 
      have a402 : f377 en = some (.inl (cy 6, 4, .inr (.inr (.inr (.inr ge))))) := k381 _ _ a401 (z_ne a401 a374 rfl) (z_ne a401 a376 rfl)
      have a403 : f1 ke = some (.inr (6, [.ref kn, .ref vq, .int (nI ks)])) := k4 _ _ x_ke (z_ne x_ke x_fa rfl)
      have a404 : f7 ke = some (.inr (6, [.ref kn, .ref vq, .int (nI ks)])) := k9 _ _ a403 
      have a405 : f377 ke = some (.inr (6, [.ref kn, .ref vq, .int (nI ks)])) := k381 _ _ a404 (z_ne a404 a374 rfl) (z_ne a404 a376 rfl)
      have a406 : f1 kn = some (.inl (cy 0, 40, .inl kk)) := k4 _ _ x_kn (z_ne x_kn x_fa rfl)
      have a407 : f7 kn = some (.inl (cy 0, 40, .inl kk)) := k9 _ _ a406 
      have a408 : f377 kn = some (.inl (cy 0, 40, .inl kk)) := k381 _ _ a407 (z_ne a407 a374 rfl) (z_ne a407 a376 rfl)
      have a409 : f1 vq = some (.inl (cy 0, 40, .inl kv)) := k4 _ _ x_vq (z_ne x_vq x_fa rfl)
      have a410 : f7 vq = some (.inl (cy 0, 40, .inl kv)) := k9 _ _ a409 
      have a411 : f377 vq = some (.inl (cy 0, 40, .inl kv)) := k381 _ _ a410 (z_ne a410 a374 rfl) (z_ne a410 a376 rfl)
      have F412 : ∀ i9 : Nat, i9 < nn → f1 (fg i9) = some (.inr (4, [.int (kd i9), .ref (pt i9), .long (wg i9), .int (wd i9), .int (nI i9), .int (hs i9), .int (bf i9)])) := fun i9 h9 => k4 _ _ (hF i9 h9) (z_ne (hF i9 h9) x_fa rfl)
      have F413 : ∀ i9 : Nat, i9 < nn → f7 (fg i9) = some (.inr (4, [.int (kd i9), .ref (pt i9), .long (wg i9), .int (wd i9), .int (nI i9), .int (hs i9), .int (bf i9)])) := fun i9 h9 => k9 _ _ (F412 i9 h9) 
      have F414 : ∀ i9 : Nat, i9 < nn → f377 (fg i9) = some (.inr (4, [.int (kd i9), .ref (pt i9), .long (wg i9), .int (wd i9), .int (nI i9), .int (hs i9), .int (bf i9)])) := fun i9 h9 => k381 _ _ (F413 i9 h9) (z_ne (F413 i9 h9) a374 rfl) (z_ne (F413 i9 h9) a376 rfl)
      have F415 : ∀ i9 : Nat, i9 < nn → f1 (pt i9) = some (.inl (cy 1, (ln i9), .inr (.inl (pp i9)))) := fun i9 h9 => k4 _ _ (hP i9 h9) (z_neO (hP i9 h9) x_fa rfl)
      have F416 : ∀ i9 : Nat, i9 < nn → f7 (pt i9) = some (.inl (cy 1, (ln i9), .inr (.inl (pp i9)))) := fun i9 h9 => k9 _ _ (F415 i9 h9) 
      have F417 : ∀ i9 : Nat, i9 < nn → f377 (pt i9) = some (.inl (cy 1, (ln i9), .inr (.inl (pp i9)))) := fun i9 h9 => k381 _ _ (F416 i9 h9) (z_neO (F416 i9 h9) a374 rfl) (z_neA (F416 i9 h9) a376 rfl)
      have F418 : ∀ i9 : Nat, i9 < nf → f1 (fq i9) = some (.inr (3, [.ref (fk i9), .int (nI (fz i9))])) := fun i9 h9 => k4 _ _ (hFq i9 h9) (z_ne (hFq i9 h9) x_fa rfl)
      have F419 : ∀ i9 : Nat, i9 < nf → f7 (fq i9) = some (.inr (3, [.ref (fk i9), .int (nI (fz i9))])) := fun i9 h9 => k9 _ _ (F418 i9 h9) 
      have F420 : ∀ i9 : Nat, i9 < nf → f377 (fq i9) = some (.inr (3, [.ref (fk i9), .int (nI (fz i9))])) := fun i9 h9 => k381 _ _ (F419 i9 h9) (z_ne (F419 i9 h9) a374 rfl) (z_ne (F419 i9 h9) a376 rfl)
      have F421 : ∀ i9 : Nat, i9 < nf → f1 (fk i9) = some (.inl (cy 0, 4, .inl (fc i9))) := fun i9 h9 => k4 _ _ (hFk i9 h9) (z_ne (hFk i9 h9) x_fa rfl)
      have F422 : ∀ i9 : Nat, i9 < nf → f7 (fk i9) = some (.inl (cy 0, 4, .inl (fc i9))) := fun i9 h9 => k9 _ _ (F421 i9 h9) 
      have F423 : ∀ i9 : Nat, i9 < nf → f377 (fk i9) = some (.inl (cy 0, 4, .inl (fc i9))) := fun i9 h9 => k381 _ _ (F422 i9 h9) (z_ne (F422 i9 h9) a374 rfl) (z_ne (F422 i9 h9) a376 rfl)
      have F424 : ∀ i9 : Nat, i9 < nc → f1 (cn i9) = some (.inr (0, [.int (ce i9), .int (cm i9)])) := fun i9 h9 => k4 _ _ (hCn i9 h9) (z_ne (hCn i9 h9) x_fa rfl)
      have F425 : ∀ i9 : Nat, i9 < nc → f7 (cn i9) = some (.inr (0, [.int (ce i9), .int (cm i9)])) := fun i9 h9 => k9 _ _ (F424 i9 h9) 
      have F426 : ∀ i9 : Nat, i9 < nc → f377 (cn i9) = some (.inr (0, [.int (ce i9), .int (cm i9)])) := fun i9 h9 => k381 _ _ (F425 i9 h9) (z_ne (F425 i9 h9) a374 rfl) (z_ne (F425 i9 h9) a376 rfl)
      have F427 : ∀ i9 : Nat, i9 < 4 → f1 (ea i9) = some (.inr (1, [.ref (ma i9), .int (nI (sq i9))])) := fun i9 h9 => k4 _ _ (hEa i9 h9) (z_ne (hEa i9 h9) x_fa rfl)
      have F428 : ∀ i9 : Nat, i9 < 4 → f7 (ea i9) = some (.inr (1, [.ref (ma i9), .int (nI (sq i9))])) := fun i9 h9 => k9 _ _ (F427 i9 h9) 
      have F429 : ∀ i9 : Nat, i9 < 4 → f377 (ea i9) = some (.inr (1, [.ref (ma i9), .int (nI (sq i9))])) := fun i9 h9 => k381 _ _ (F428 i9 h9) (z_ne (F428 i9 h9) a374 rfl) (z_ne (F428 i9 h9) a376 rfl)
      have F430 : ∀ i9 : Nat, i9 < 4 → f1 (ma i9) = some (.inl (cy 0, 60, .inl (mb i9))) := fun i9 h9 => k4 _ _ (hMa i9 h9) (z_ne (hMa i9 h9) x_fa rfl)
      have F431 : ∀ i9 : Nat, i9 < 4 → f7 (ma i9) = some (.inl (cy 0, 60, .inl (mb i9))) := fun i9 h9 => k9 _ _ (F430 i9 h9) 
      have F432 : ∀ i9 : Nat, i9 < 4 → f377 (ma i9) = some (.inl (cy 0, 60, .inl (mb i9))) := fun i9 h9 => k381 _ _ (F431 i9 h9) (z_ne (F431 i9 h9) a374 rfl) (z_ne (F431 i9 h9) a376 rfl)
      have hq : q_wide nn x y z = ((-4), 7, 1, 1) := by simp [q_wide, h60, c10, c11]
      exact z_iret C hr rfl hz hS ⟨7, 1, 1, (upd gv 7 (gv 7 + 1)), nl, gu, nn, ga, gr, fg, pt, kd, ln, pp, wg, wd, hs, bf, nf, gf, fq, fk, fz, fc, nc, gc, cn, ce, cm, sq, mb, ks, kk, kv, lk, (by rw [hq]), (by rw [hq]), (by rw [hq]), (by rw [hq]), (by rw [hq]; exact (zEV7 gv).symm), rfl, rfl, (by rw [if_neg (by decide)]), (by rw [if_neg (by decide)]), (by rw [if_neg (by decide)]), (zPP_no (by decide)), (by rw [if_neg (by decide)]), (by rw [if_neg (by decide)]), rfl, rfl, rfl, rfl, rfl, rfl, rfl, rfl, rfl, rfl, rfl, rfl, ⟨a382, a379, a380, a384, a387, a390, a393, a396, a399, a402, a405, a408, a411, F414, F417, F420, F423, F426, F429, F432, hn60, hl12, hf6, hc60, hs40, hga, hgr, hln, hk5, hk4, hfi, hpi, har, hgf, hfz, hgc, hG, hsq, hei, hmi, kne, hca, hcr, hlk⟩⟩ (Nat.le_of_ble_eq_true rfl) (Nat.le_of_ble_eq_true rfl) dX7_wide_34
  · have a433 : f1 fi = some (.inr (5, [.ref al, .ref ra, .int (nI nn)])) := k4 _ _ x_fi (z_ne x_fi x_fa rfl)
    refine z_callVi (As := []) C hz hS hA hl (k_X5_isFull_B l D cy f1 fi al ra nn a433 hn60 h60) zyX5_isFull mMX7_79 a433 zl5 rfl rfl (Nat.le_of_ble_eq_true rfl) ⟨Nat.le_of_ble_eq_true rfl, Nat.le_of_ble_eq_true rfl⟩ ⟨Nat.le_of_ble_eq_true rfl, Nat.le_of_ble_eq_true rfl⟩ dX7_wide_11 (fun r f434 H locs h435 hz hS => ?_)
    obtain ⟨rfl, k436⟩ := h435
    refine lv_if_eq (tgt := 20) hx hb dX7_wide_14 (by decide) (fun c437 => ?_) (fun c437 => ?_)
    · exact absurd c437 (by decide)
    refine lv_bipush (v := (-3)) hx hb dX7_wide_17 (by decide) ?_
    have a438 : f434 o = some (.inr (7, [.ref fa, .ref fi, .ref nu, .int (nI nl), .ref fm, .int (nI nf), .ref co, .int (nI nc), .ref en, .ref ke, .long lk])) := k436 _ _ a5 
    have a439 : f434 fa = some (.inr (2, [.int 0, .int (-1), .int 0, .ref ev])) := k436 _ _ a3 
    have a440 : f1 ev = some (.inl (cy 0, 8, .inl gv)) := k4 _ _ x_ev (z_ne x_ev x_fa rfl)
    have a441 : f434 ev = some (.inl (cy 0, 8, .inl gv)) := k436 _ _ a440 
    have a442 : f434 fi = some (.inr (5, [.ref al, .ref ra, .int (nI nn)])) := k436 _ _ a433 
    have a443 : f1 al = some (.inl (cy 3, 60, .inr (.inr (.inr (.inr ga))))) := k4 _ _ x_al (z_ne x_al x_fa rfl)
    have a444 : f434 al = some (.inl (cy 3, 60, .inr (.inr (.inr (.inr ga))))) := k436 _ _ a443 
    have a445 : f1 ra = some (.inl (cy 3, 60, .inr (.inr (.inr (.inr gr))))) := k4 _ _ x_ra (z_ne x_ra x_fa rfl)
    have a446 : f434 ra = some (.inl (cy 3, 60, .inr (.inr (.inr (.inr gr))))) := k436 _ _ a445 
    have a447 : f1 nu = some (.inl (cy 0, 12, .inl gu)) := k4 _ _ x_nu (z_ne x_nu x_fa rfl)
    have a448 : f434 nu = some (.inl (cy 0, 12, .inl gu)) := k436 _ _ a447 
    have a449 : f1 fm = some (.inl (cy 4, 6, .inr (.inr (.inr (.inr gf))))) := k4 _ _ x_fm (z_ne x_fm x_fa rfl)
    have a450 : f434 fm = some (.inl (cy 4, 6, .inr (.inr (.inr (.inr gf))))) := k436 _ _ a449 
    have a451 : f1 co = some (.inl (cy 5, 60, .inr (.inr (.inr (.inr gc))))) := k4 _ _ x_co (z_ne x_co x_fa rfl)
    have a452 : f434 co = some (.inl (cy 5, 60, .inr (.inr (.inr (.inr gc))))) := k436 _ _ a451 
    have a453 : f1 en = some (.inl (cy 6, 4, .inr (.inr (.inr (.inr ge))))) := k4 _ _ x_en (z_ne x_en x_fa rfl)
    have a454 : f434 en = some (.inl (cy 6, 4, .inr (.inr (.inr (.inr ge))))) := k436 _ _ a453 
    have a455 : f1 ke = some (.inr (6, [.ref kn, .ref vq, .int (nI ks)])) := k4 _ _ x_ke (z_ne x_ke x_fa rfl)
    have a456 : f434 ke = some (.inr (6, [.ref kn, .ref vq, .int (nI ks)])) := k436 _ _ a455 
    have a457 : f1 kn = some (.inl (cy 0, 40, .inl kk)) := k4 _ _ x_kn (z_ne x_kn x_fa rfl)
    have a458 : f434 kn = some (.inl (cy 0, 40, .inl kk)) := k436 _ _ a457 
    have a459 : f1 vq = some (.inl (cy 0, 40, .inl kv)) := k4 _ _ x_vq (z_ne x_vq x_fa rfl)
    have a460 : f434 vq = some (.inl (cy 0, 40, .inl kv)) := k436 _ _ a459 
    have F461 : ∀ i9 : Nat, i9 < nn → f1 (fg i9) = some (.inr (4, [.int (kd i9), .ref (pt i9), .long (wg i9), .int (wd i9), .int (nI i9), .int (hs i9), .int (bf i9)])) := fun i9 h9 => k4 _ _ (hF i9 h9) (z_ne (hF i9 h9) x_fa rfl)
    have F462 : ∀ i9 : Nat, i9 < nn → f434 (fg i9) = some (.inr (4, [.int (kd i9), .ref (pt i9), .long (wg i9), .int (wd i9), .int (nI i9), .int (hs i9), .int (bf i9)])) := fun i9 h9 => k436 _ _ (F461 i9 h9) 
    have F463 : ∀ i9 : Nat, i9 < nn → f1 (pt i9) = some (.inl (cy 1, (ln i9), .inr (.inl (pp i9)))) := fun i9 h9 => k4 _ _ (hP i9 h9) (z_neO (hP i9 h9) x_fa rfl)
    have F464 : ∀ i9 : Nat, i9 < nn → f434 (pt i9) = some (.inl (cy 1, (ln i9), .inr (.inl (pp i9)))) := fun i9 h9 => k436 _ _ (F463 i9 h9) 
    have F465 : ∀ i9 : Nat, i9 < nf → f1 (fq i9) = some (.inr (3, [.ref (fk i9), .int (nI (fz i9))])) := fun i9 h9 => k4 _ _ (hFq i9 h9) (z_ne (hFq i9 h9) x_fa rfl)
    have F466 : ∀ i9 : Nat, i9 < nf → f434 (fq i9) = some (.inr (3, [.ref (fk i9), .int (nI (fz i9))])) := fun i9 h9 => k436 _ _ (F465 i9 h9) 
    have F467 : ∀ i9 : Nat, i9 < nf → f1 (fk i9) = some (.inl (cy 0, 4, .inl (fc i9))) := fun i9 h9 => k4 _ _ (hFk i9 h9) (z_ne (hFk i9 h9) x_fa rfl)
    have F468 : ∀ i9 : Nat, i9 < nf → f434 (fk i9) = some (.inl (cy 0, 4, .inl (fc i9))) := fun i9 h9 => k436 _ _ (F467 i9 h9) 
    have F469 : ∀ i9 : Nat, i9 < nc → f1 (cn i9) = some (.inr (0, [.int (ce i9), .int (cm i9)])) := fun i9 h9 => k4 _ _ (hCn i9 h9) (z_ne (hCn i9 h9) x_fa rfl)
    have F470 : ∀ i9 : Nat, i9 < nc → f434 (cn i9) = some (.inr (0, [.int (ce i9), .int (cm i9)])) := fun i9 h9 => k436 _ _ (F469 i9 h9) 
    have F471 : ∀ i9 : Nat, i9 < 4 → f1 (ea i9) = some (.inr (1, [.ref (ma i9), .int (nI (sq i9))])) := fun i9 h9 => k4 _ _ (hEa i9 h9) (z_ne (hEa i9 h9) x_fa rfl)
    have F472 : ∀ i9 : Nat, i9 < 4 → f434 (ea i9) = some (.inr (1, [.ref (ma i9), .int (nI (sq i9))])) := fun i9 h9 => k436 _ _ (F471 i9 h9) 
    have F473 : ∀ i9 : Nat, i9 < 4 → f1 (ma i9) = some (.inl (cy 0, 60, .inl (mb i9))) := fun i9 h9 => k4 _ _ (hMa i9 h9) (z_ne (hMa i9 h9) x_fa rfl)
    have F474 : ∀ i9 : Nat, i9 < 4 → f434 (ma i9) = some (.inl (cy 0, 60, .inl (mb i9))) := fun i9 h9 => k436 _ _ (F473 i9 h9) 
    have hq : q_wide nn x y z = ((-3), 0, (-1), 0) := by simp [q_wide, h60, c437]
    exact z_iret C hr rfl hz hS ⟨0, (-1), 0, gv, nl, gu, nn, ga, gr, fg, pt, kd, ln, pp, wg, wd, hs, bf, nf, gf, fq, fk, fz, fc, nc, gc, cn, ce, cm, sq, mb, ks, kk, kv, lk, (by rw [hq]), (by rw [hq]), (by rw [hq]), (by rw [hq]), (by rw [hq]; exact (zEV0 gv).symm), rfl, rfl, (by rw [if_neg (by decide)]), (by rw [if_neg (by decide)]), (by rw [if_neg (by decide)]), (zPP_no (by decide)), (by rw [if_neg (by decide)]), (by rw [if_neg (by decide)]), rfl, rfl, rfl, rfl, rfl, rfl, rfl, rfl, rfl, rfl, rfl, rfl, ⟨a438, a439, a441, a442, a444, a446, a448, a450, a452, a454, a456, a458, a460, F462, F464, F466, F468, F470, F472, F474, hn60, hl12, hf6, hc60, hs40, hga, hgr, hln, hk5, hk4, hfi, hpi, har, hgf, hfz, hgc, hG, hsq, hei, hmi, kne, hca, hcr, hlk⟩⟩ (Nat.le_of_ble_eq_true rfl) (Nat.le_of_ble_eq_true rfl) dX7_wide_19
abbrev rmX7_share : Room := { frames := 6, cells := 2, slots := 10, locals := 140 }
set_option maxHeartbeats 4000000 in
set_option maxRecDepth 100000 in
theorem k_X7_share (l : Launch) (D : va_G) (cy : Nat → ClassId) (f : zM) (o : Nat) (fa : Nat) (fi : Nat) (nu : Nat) (fm : Nat) (co : Nat) (en : Nat) (ke : Nat) (ev : Nat) (al : Nat) (ra : Nat) (kn : Nat) (vq : Nat) (ge : Nat → Option Nat) (ea : Nat → Nat) (ma : Nat → Nat) (u1 : Int32) (u2 : Int32) (u3 : Int32) (gv : Nat → Int32) (nl : Nat) (gu : Nat → Int32) (nn : Nat) (ga : Nat → Option Nat) (gr : Nat → Option Nat) (fg : Nat → Nat) (pt : Nat → Nat) (kd : Nat → Int32) (ln : Nat → Nat) (pp : Nat → Nat → Int64) (wg : Nat → Int64) (wd : Nat → Int32) (hs : Nat → Int32) (bf : Nat → Int32) (nf : Nat) (gf : Nat → Option Nat) (fq : Nat → Nat) (fk : Nat → Nat) (fz : Nat → Nat) (fc : Nat → Nat → Int32) (nc : Nat) (gc : Nat → Option Nat) (cn : Nat → Nat) (ce : Nat → Int32) (cm : Nat → Int32) (sq : Nat → Nat) (mb : Nat → Nat → Int32) (ks : Nat) (kk : Nat → Int32) (kv : Nat → Int32) (lk : Int64) (x : Int64) (y : Int64)    (hI : zIX cy f o fa fi nu fm co en ke ev al ra kn vq ge ea ma u1 u2 u3 gv nl gu nn ga gr fg pt kd ln pp wg wd hs bf nf gf fq fk fz fc nc gc cn ce cm sq mb ks kk kv lk) : zCi l D cy yX7_share cX7_share 7 (Option.some Jvm.ClassFile.FieldType.int) rmX7_share [.ref o, .long x, .long y] f (fun (r : Int32) (f1 : zM) => ∃ (u11 : Int32) (u21 : Int32) (u31 : Int32) (gv1 : Nat → Int32) (nl1 : Nat) (gu1 : Nat → Int32) (nn1 : Nat) (ga1 : Nat → Option Nat) (gr1 : Nat → Option Nat) (fg1 : Nat → Nat) (pt1 : Nat → Nat) (kd1 : Nat → Int32) (ln1 : Nat → Nat) (pp1 : Nat → Nat → Int64) (wg1 : Nat → Int64) (wd1 : Nat → Int32) (hs1 : Nat → Int32) (bf1 : Nat → Int32) (nf1 : Nat) (gf1 : Nat → Option Nat) (fq1 : Nat → Nat) (fk1 : Nat → Nat) (fz1 : Nat → Nat) (fc1 : Nat → Nat → Int32) (nc1 : Nat) (gc1 : Nat → Option Nat) (cn1 : Nat → Nat) (ce1 : Nat → Int32) (cm1 : Nat → Int32) (sq1 : Nat → Nat) (mb1 : Nat → Nat → Int32) (ks1 : Nat) (kk1 : Nat → Int32) (kv1 : Nat → Int32) (lk1 : Int64), r = ((q_share nn y).1) ∧ (u11 = (q_share nn y).2.1) ∧ (u21 = (q_share nn y).2.2.1) ∧ (u31 = (q_share nn y).2.2.2) ∧ (gv1 = zEV gv (q_share nn y).2.1) ∧ (nl1 = nl) ∧ (gu1 = gu) ∧ (nn1 = if 0 ≤ r then nn + 1 else nn) ∧ (kd1 = if 0 ≤ r then va_up kd nn 3 else kd) ∧ (ln1 = if 0 ≤ r then va_up ln nn (3) else ln) ∧ (zPP nn (0 ≤ r) (3) (q3 x y (x / y)) pp pp1) ∧ (wd1 = if 0 ≤ r then va_up wd nn 0 else wd) ∧ (hs1 = if 0 ≤ r then va_up hs nn (zHash 3 nn (3) (q3 x y (x / y)) hs) else hs) ∧ (nf1 = nf) ∧ (fz1 = fz) ∧ (fc1 = fc) ∧ (nc1 = nc) ∧ (ce1 = ce) ∧ (cm1 = cm) ∧ (sq1 = sq) ∧ (mb1 = mb) ∧ (ks1 = ks) ∧ (kk1 = kk) ∧ (kv1 = kv) ∧ (lk1 = lk) ∧ zIX cy f1 o fa fi nu fm co en ke ev al ra kn vq ge ea ma u11 u21 u31 gv1 nl1 gu1 nn1 ga1 gr1 fg1 pt1 kd1 ln1 pp1 wg1 wd1 hs1 bf1 nf1 gf1 fq1 fk1 fz1 fc1 nc1 gc1 cn1 ce1 cm1 sq1 mb1 ks1 kk1 kv1 lk1) := by
  intro sz
  refine z_body (by decide +kernel) (Nat.le_of_ble_eq_true rfl) ?_
  intro p e s m below meth c ls C hr hin hsz hz hl
  subst hsz
  have hx := C.1
  have hb := C.2.1
  have hA : ∀ q, s.heap.size ≤ q → zA f s.heap.size q := fun q h => Or.inr h
  have hS : va_S (zA f s.heap.size) s.heap s.heap [] := va_S.rf
  have hl : lv_has ls 7 [(0, .ref o), (1, .long x), (3, .long y)] := hl
  obtain ⟨x_o, x_fa, x_ev, x_fi, x_al, x_ra, x_nu, x_fm, x_co, x_en, x_ke, x_kn, x_vq, hF, hP, hFq, hFk, hCn, hEa, hMa, hn60, hl12, hf6, hc60, hs40, hga, hgr, hln, hk5, hk4, hfi, hpi, har, hgf, hfz, hgc, hG, hsq, hei, hmi, kne, hca, hcr, hlk⟩ := id hI
  refine lv_aload_n hx hb dX7_share_0 rfl (lv_at hl 0 rfl) ?_
  refine z_get (v := .ref fa) C hz x_o zl7 mFX7_10 (by decide) rfl dX7_share_1 ?_
  refine z_callVv (As := []) C hz hS hA hl (k_X2_none l D cy f fa u1 u2 u3 ev x_fa ) zyX2_none mMX7_76 x_fa zl2 rfl rfl (Nat.le_of_ble_eq_true rfl) ⟨Nat.le_of_ble_eq_true rfl, Nat.le_of_ble_eq_true rfl⟩ ⟨Nat.le_of_ble_eq_true rfl, Nat.le_of_ble_eq_true rfl⟩ dX7_share_4 (fun  f1 H locs h2 hz hS => ?_)
  obtain ⟨a3, k4⟩ := h2
  refine lv_aload_n hx hb dX7_share_7 rfl (lv_at hl 0 rfl) ?_
  have a5 : f1 o = some (.inr (7, [.ref fa, .ref fi, .ref nu, .int (nI nl), .ref fm, .int (nI nf), .ref co, .int (nI nc), .ref en, .ref ke, .long lk])) := k4 _ _ x_o (z_ne x_o x_fa rfl)
  refine z_get (v := .ref fi) C hz a5 zl7 mFX7_19 (by decide) rfl dX7_share_8 ?_
  by_cases h60 : nn < 60
  · have a6 : f1 fi = some (.inr (5, [.ref al, .ref ra, .int (nI nn)])) := k4 _ _ x_fi (z_ne x_fi x_fa rfl)
    refine z_callVi (As := []) C hz hS hA hl (k_X5_isFull_A l D cy f1 fi al ra nn a6 hn60 h60) zyX5_isFull mMX7_79 a6 zl5 rfl rfl (Nat.le_of_ble_eq_true rfl) ⟨Nat.le_of_ble_eq_true rfl, Nat.le_of_ble_eq_true rfl⟩ ⟨Nat.le_of_ble_eq_true rfl, Nat.le_of_ble_eq_true rfl⟩ dX7_share_11 (fun r f7 H locs h8 hz hS => ?_)
    obtain ⟨rfl, k9⟩ := h8
    refine lv_if_eq (tgt := 20) hx hb dX7_share_14 (by decide) (fun c10 => ?_) (fun c10 => ?_)
    rotate_left
    · exact absurd c10 (by decide)
    refine lv_lload_n hx hb dX7_share_20 rfl (lv_at hl 2 rfl) ?_
    refine lv_lconst (v := 0) hx hb dX7_share_21 (by decide) ?_
    refine W.lcmp hx hb dX7_share_22 ?_
    refine lv_if_ne (tgt := 37) hx hb dX7_share_23 (by decide) (fun c11 => ?_) (fun c11 => ?_)
    · have hy0 : ¬ y = 0 := (fun h9 => c11 ((lg_cmp_eq y 0).mpr h9))
      refine lv_lload_n hx hb dX7_share_37 rfl (lv_at hl 1 rfl) ?_
      refine lv_lload_n hx hb dX7_share_38 rfl (lv_at hl 2 rfl) ?_
      refine lv_ldiv hx hb dX7_share_39 hy0 ?_
      refine lv_lstore (lv' := [(5, .long (x / y)), (0, .ref o), (1, .long x), (3, .long y)]) hx hb dX7_share_40 hl (by decide) rfl (fun ls hl => ?_)
      refine lv_aload_n hx hb dX7_share_42 rfl (lv_at hl 1 rfl) ?_
      have a12 : f7 o = some (.inr (7, [.ref fa, .ref fi, .ref nu, .int (nI nl), .ref fm, .int (nI nf), .ref co, .int (nI nc), .ref en, .ref ke, .long lk])) := k9 _ _ a5 
      refine z_get (v := .ref fi) C hz a12 zl7 mFX7_19 (by decide) rfl dX7_share_43 ?_
      refine z_new (fs := [.int 0, .null, .long 0, .int 0, .int 0, .int 0, .int 0]) C hz hS hA zl4 mLX7_83 mIa_RX4 mIn_RX4 (by decide +kernel) (Nat.le_of_ble_eq_true rfl) (Nat.le_of_ble_eq_true rfl) dX7_share_46 (fun q13 H f15 u14 a16 k17 hz hS => ?_)
      refine lv_dup hx hb dX7_share_49 rfl ?_
      refine lv_iconst (v := 3) hx hb dX7_share_50 (by decide) ?_
      refine lv_iconst (v := 3) hx hb dX7_share_51 (by decide) ?_
      refine z_newa (atype := .long) (t0 := 1) (N' := 3) (x := (.inr (.inl (fun _ => 0)))) C hz hS hA rfl mA_long rfl (fun _ => rfl) (by decide) (Nat.le_of_ble_eq_true rfl) (by decide) (Nat.le_of_ble_eq_true rfl) (Nat.le_of_ble_eq_true rfl) dX7_share_52 (fun q18 H f20 u19 a21 k22 hz hS => ?_)
      refine lv_dup hx hb dX7_share_54 rfl ?_
      refine lv_iconst (v := 0) hx hb dX7_share_55 (by decide) ?_
      refine lv_lload_n hx hb dX7_share_56 rfl (lv_at hl 2 rfl) ?_
      refine z_last 0 C hz hS a21 (by decide) (Nat.le_of_ble_eq_true rfl) (by omega) dX7_share_57 (fun H locs f23 a24 k25 hz hS => ?_)
      refine lv_dup hx hb dX7_share_58 rfl ?_
      refine lv_iconst (v := 1) hx hb dX7_share_59 (by decide) ?_
      refine lv_lload_n hx hb dX7_share_60 rfl (lv_at hl 3 rfl) ?_
      refine z_last 1 C hz hS a24 (by decide) (Nat.le_of_ble_eq_true rfl) (by omega) dX7_share_61 (fun H locs f26 a27 k28 hz hS => ?_)
      refine lv_dup hx hb dX7_share_62 rfl ?_
      refine lv_iconst (v := 2) hx hb dX7_share_63 (by decide) ?_
      refine lv_lload hx hb dX7_share_64 (lv_at hl 0 rfl) ?_
      refine z_last 2 C hz hS a27 (by decide) (Nat.le_of_ble_eq_true rfl) (by omega) dX7_share_66 (fun H locs f29 a30 k31 hz hS => ?_)
      refine lv_lload hx hb dX7_share_67 (lv_at hl 0 rfl) ?_
      have a32 : f20 q13 = some (.inr (4, [.int 0, .null, .long 0, .int 0, .int 0, .int 0, .int 0])) := (k22 _ (z_nn u19 a16)).trans a16
      have a33 : f23 q13 = some (.inr (4, [.int 0, .null, .long 0, .int 0, .int 0, .int 0, .int 0])) := (k25 _ (z_nn u19 a16)).trans a32
      have a34 : f26 q13 = some (.inr (4, [.int 0, .null, .long 0, .int 0, .int 0, .int 0, .int 0])) := (k28 _ (z_nn u19 a16)).trans a33
      have a35 : f29 q13 = some (.inr (4, [.int 0, .null, .long 0, .int 0, .int 0, .int 0, .int 0])) := (k31 _ (z_nn u19 a16)).trans a34
      refine z_callIv (ret := none) (As := [.int 3, .ref q18, .long (x / y)]) C hz hS hA hl (k_X4_init l D cy f29 q13 3 q18 (x / y) a35 ) zyX4_init mMX7_89 rfl rfl (Nat.le_of_ble_eq_true rfl) ⟨Nat.le_of_ble_eq_true rfl, Nat.le_of_ble_eq_true rfl⟩ ⟨Nat.le_of_ble_eq_true rfl, Nat.le_of_ble_eq_true rfl⟩ dX7_share_69 (fun  f36 H locs h37 hz hS => ?_)
      obtain ⟨a38, k39⟩ := h37
      have a40 : f7 fi = some (.inr (5, [.ref al, .ref ra, .int (nI nn)])) := k9 _ _ a6 
      have a41 : f15 fi = some (.inr (5, [.ref al, .ref ra, .int (nI nn)])) := (k17 _ (z_nn u14 a40)).trans a40
      have a42 : f20 fi = some (.inr (5, [.ref al, .ref ra, .int (nI nn)])) := (k22 _ (z_nn u19 a41)).trans a41
      have a43 : f23 fi = some (.inr (5, [.ref al, .ref ra, .int (nI nn)])) := (k25 _ (z_nn u19 a41)).trans a42
      have a44 : f26 fi = some (.inr (5, [.ref al, .ref ra, .int (nI nn)])) := (k28 _ (z_nn u19 a41)).trans a43
      have a45 : f29 fi = some (.inr (5, [.ref al, .ref ra, .int (nI nn)])) := (k31 _ (z_nn u19 a41)).trans a44
      have a46 : f36 fi = some (.inr (5, [.ref al, .ref ra, .int (nI nn)])) := k39 _ _ a45 (z_nn u14 a40)
      have a47 : f1 al = some (.inl (cy 3, 60, .inr (.inr (.inr (.inr ga))))) := k4 _ _ x_al (z_ne x_al x_fa rfl)
      have a48 : f7 al = some (.inl (cy 3, 60, .inr (.inr (.inr (.inr ga))))) := k9 _ _ a47 
      have a49 : f15 al = some (.inl (cy 3, 60, .inr (.inr (.inr (.inr ga))))) := (k17 _ (z_nn u14 a48)).trans a48
      have a50 : f20 al = some (.inl (cy 3, 60, .inr (.inr (.inr (.inr ga))))) := (k22 _ (z_nn u19 a49)).trans a49
      have a51 : f23 al = some (.inl (cy 3, 60, .inr (.inr (.inr (.inr ga))))) := (k25 _ (z_nn u19 a49)).trans a50
      have a52 : f26 al = some (.inl (cy 3, 60, .inr (.inr (.inr (.inr ga))))) := (k28 _ (z_nn u19 a49)).trans a51
      have a53 : f29 al = some (.inl (cy 3, 60, .inr (.inr (.inr (.inr ga))))) := (k31 _ (z_nn u19 a49)).trans a52
      have a54 : f36 al = some (.inl (cy 3, 60, .inr (.inr (.inr (.inr ga))))) := k39 _ _ a53 (z_nn u14 a48)
      have a55 : f1 ra = some (.inl (cy 3, 60, .inr (.inr (.inr (.inr gr))))) := k4 _ _ x_ra (z_ne x_ra x_fa rfl)
      have a56 : f7 ra = some (.inl (cy 3, 60, .inr (.inr (.inr (.inr gr))))) := k9 _ _ a55 
      have a57 : f15 ra = some (.inl (cy 3, 60, .inr (.inr (.inr (.inr gr))))) := (k17 _ (z_nn u14 a56)).trans a56
      have a58 : f20 ra = some (.inl (cy 3, 60, .inr (.inr (.inr (.inr gr))))) := (k22 _ (z_nn u19 a57)).trans a57
      have a59 : f23 ra = some (.inl (cy 3, 60, .inr (.inr (.inr (.inr gr))))) := (k25 _ (z_nn u19 a57)).trans a58
      have a60 : f26 ra = some (.inl (cy 3, 60, .inr (.inr (.inr (.inr gr))))) := (k28 _ (z_nn u19 a57)).trans a59
      have a61 : f29 ra = some (.inl (cy 3, 60, .inr (.inr (.inr (.inr gr))))) := (k31 _ (z_nn u19 a57)).trans a60
      have a62 : f36 ra = some (.inl (cy 3, 60, .inr (.inr (.inr (.inr gr))))) := k39 _ _ a61 (z_nn u14 a56)
      have a63 : f36 q18 = some (.inl (cy 1, 3, .inr (.inl (vp_updL (vp_updL (vp_updL (fun _ => 0) 0 x) 1 y) 2 (x / y))))) := k39 _ _ a30 (Ne.symm (z_nn u19 a16))
      have F64 : ∀ i9 : Nat, i9 < nn → f1 (fg i9) = some (.inr (4, [.int (kd i9), .ref (pt i9), .long (wg i9), .int (wd i9), .int (nI i9), .int (hs i9), .int (bf i9)])) := fun i9 h9 => k4 _ _ (hF i9 h9) (z_ne (hF i9 h9) x_fa rfl)
      have F65 : ∀ i9 : Nat, i9 < nn → f7 (fg i9) = some (.inr (4, [.int (kd i9), .ref (pt i9), .long (wg i9), .int (wd i9), .int (nI i9), .int (hs i9), .int (bf i9)])) := fun i9 h9 => k9 _ _ (F64 i9 h9) 
      have F66 : ∀ i9 : Nat, i9 < nn → f15 (fg i9) = some (.inr (4, [.int (kd i9), .ref (pt i9), .long (wg i9), .int (wd i9), .int (nI i9), .int (hs i9), .int (bf i9)])) := fun i9 h9 => (k17 _ (z_nn u14 (F65 i9 h9))).trans (F65 i9 h9)
      have F67 : ∀ i9 : Nat, i9 < nn → f20 (fg i9) = some (.inr (4, [.int (kd i9), .ref (pt i9), .long (wg i9), .int (wd i9), .int (nI i9), .int (hs i9), .int (bf i9)])) := fun i9 h9 => (k22 _ (z_nn u19 (F66 i9 h9))).trans (F66 i9 h9)
      have F68 : ∀ i9 : Nat, i9 < nn → f23 (fg i9) = some (.inr (4, [.int (kd i9), .ref (pt i9), .long (wg i9), .int (wd i9), .int (nI i9), .int (hs i9), .int (bf i9)])) := fun i9 h9 => (k25 _ (z_nn u19 (F66 i9 h9))).trans (F67 i9 h9)
      have F69 : ∀ i9 : Nat, i9 < nn → f26 (fg i9) = some (.inr (4, [.int (kd i9), .ref (pt i9), .long (wg i9), .int (wd i9), .int (nI i9), .int (hs i9), .int (bf i9)])) := fun i9 h9 => (k28 _ (z_nn u19 (F66 i9 h9))).trans (F68 i9 h9)
      have F70 : ∀ i9 : Nat, i9 < nn → f29 (fg i9) = some (.inr (4, [.int (kd i9), .ref (pt i9), .long (wg i9), .int (wd i9), .int (nI i9), .int (hs i9), .int (bf i9)])) := fun i9 h9 => (k31 _ (z_nn u19 (F66 i9 h9))).trans (F69 i9 h9)
      have F71 : ∀ i9 : Nat, i9 < nn → f36 (fg i9) = some (.inr (4, [.int (kd i9), .ref (pt i9), .long (wg i9), .int (wd i9), .int (nI i9), .int (hs i9), .int (bf i9)])) := fun i9 h9 => k39 _ _ (F70 i9 h9) (z_nn u14 (F65 i9 h9))
      have F72 : ∀ i9 : Nat, i9 < nn → f1 (pt i9) = some (.inl (cy 1, (ln i9), .inr (.inl (pp i9)))) := fun i9 h9 => k4 _ _ (hP i9 h9) (z_neO (hP i9 h9) x_fa rfl)
      have F73 : ∀ i9 : Nat, i9 < nn → f7 (pt i9) = some (.inl (cy 1, (ln i9), .inr (.inl (pp i9)))) := fun i9 h9 => k9 _ _ (F72 i9 h9) 
      have F74 : ∀ i9 : Nat, i9 < nn → f15 (pt i9) = some (.inl (cy 1, (ln i9), .inr (.inl (pp i9)))) := fun i9 h9 => (k17 _ (z_nn u14 (F73 i9 h9))).trans (F73 i9 h9)
      have F75 : ∀ i9 : Nat, i9 < nn → f20 (pt i9) = some (.inl (cy 1, (ln i9), .inr (.inl (pp i9)))) := fun i9 h9 => (k22 _ (z_nn u19 (F74 i9 h9))).trans (F74 i9 h9)
      have F76 : ∀ i9 : Nat, i9 < nn → f23 (pt i9) = some (.inl (cy 1, (ln i9), .inr (.inl (pp i9)))) := fun i9 h9 => (k25 _ (z_nn u19 (F74 i9 h9))).trans (F75 i9 h9)
      have F77 : ∀ i9 : Nat, i9 < nn → f26 (pt i9) = some (.inl (cy 1, (ln i9), .inr (.inl (pp i9)))) := fun i9 h9 => (k28 _ (z_nn u19 (F74 i9 h9))).trans (F76 i9 h9)
      have F78 : ∀ i9 : Nat, i9 < nn → f29 (pt i9) = some (.inl (cy 1, (ln i9), .inr (.inl (pp i9)))) := fun i9 h9 => (k31 _ (z_nn u19 (F74 i9 h9))).trans (F77 i9 h9)
      have F79 : ∀ i9 : Nat, i9 < nn → f36 (pt i9) = some (.inl (cy 1, (ln i9), .inr (.inl (pp i9)))) := fun i9 h9 => k39 _ _ (F78 i9 h9) (z_nn u14 (F73 i9 h9))
      refine z_callVi (As := [.ref q13]) C hz hS hA hl (k_X5_add l D cy f36 fi al ra ga gr nn fg pt kd ln pp wg wd hs bf q13 3 q18 (x / y) 0 (-1) 0 0 3 (vp_updL (vp_updL (vp_updL (fun _ => 0) 0 x) 1 y) 2 (x / y)) a46 a54 a62 a38 a63 F71 F79 h60 hga hgr hln hk5 hfi (fun j9 h9 => z_nn u14 (F65 j9 h9)) (by omega) (fun h9 => absurd h9 (by decide)) har (fun h9 => absurd h9 (by decide))) zyX5_add mMX7_92 a46 zl5 rfl rfl (Nat.le_of_ble_eq_true rfl) ⟨Nat.le_of_ble_eq_true rfl, Nat.le_of_ble_eq_true rfl⟩ ⟨Nat.le_of_ble_eq_true rfl, Nat.le_of_ble_eq_true rfl⟩ dX7_share_72 (fun r f80 H locs h81 hz hS => ?_)
      obtain ⟨hq_82, bq_83, gr_84, bf_85, rfl, p86, p87, a88, a89, a90, F91, F92, k93⟩ := h81
      have a94 : f15 o = some (.inr (7, [.ref fa, .ref fi, .ref nu, .int (nI nl), .ref fm, .int (nI nf), .ref co, .int (nI nc), .ref en, .ref ke, .long lk])) := (k17 _ (z_nn u14 a12)).trans a12
      have a95 : f20 o = some (.inr (7, [.ref fa, .ref fi, .ref nu, .int (nI nl), .ref fm, .int (nI nf), .ref co, .int (nI nc), .ref en, .ref ke, .long lk])) := (k22 _ (z_nn u19 a94)).trans a94
      have a96 : f23 o = some (.inr (7, [.ref fa, .ref fi, .ref nu, .int (nI nl), .ref fm, .int (nI nf), .ref co, .int (nI nc), .ref en, .ref ke, .long lk])) := (k25 _ (z_nn u19 a94)).trans a95
      have a97 : f26 o = some (.inr (7, [.ref fa, .ref fi, .ref nu, .int (nI nl), .ref fm, .int (nI nf), .ref co, .int (nI nc), .ref en, .ref ke, .long lk])) := (k28 _ (z_nn u19 a94)).trans a96
      have a98 : f29 o = some (.inr (7, [.ref fa, .ref fi, .ref nu, .int (nI nl), .ref fm, .int (nI nf), .ref co, .int (nI nc), .ref en, .ref ke, .long lk])) := (k31 _ (z_nn u19 a94)).trans a97
      have a99 : f36 o = some (.inr (7, [.ref fa, .ref fi, .ref nu, .int (nI nl), .ref fm, .int (nI nf), .ref co, .int (nI nc), .ref en, .ref ke, .long lk])) := k39 _ _ a98 (z_nn u14 a12)
      have a100 : f80 o = some (.inr (7, [.ref fa, .ref fi, .ref nu, .int (nI nl), .ref fm, .int (nI nf), .ref co, .int (nI nc), .ref en, .ref ke, .long lk])) := k93 _ _ a99 (z_ne a99 a46 rfl) (z_ne a99 a54 rfl) (z_ne a99 a62 rfl) (z_nn u14 a12) (fun j9 h8 => (z_ne a99 (F71 j9 h8) rfl))
      have a101 : f7 fa = some (.inr (2, [.int 0, .int (-1), .int 0, .ref ev])) := k9 _ _ a3 
      have a102 : f15 fa = some (.inr (2, [.int 0, .int (-1), .int 0, .ref ev])) := (k17 _ (z_nn u14 a101)).trans a101
      have a103 : f20 fa = some (.inr (2, [.int 0, .int (-1), .int 0, .ref ev])) := (k22 _ (z_nn u19 a102)).trans a102
      have a104 : f23 fa = some (.inr (2, [.int 0, .int (-1), .int 0, .ref ev])) := (k25 _ (z_nn u19 a102)).trans a103
      have a105 : f26 fa = some (.inr (2, [.int 0, .int (-1), .int 0, .ref ev])) := (k28 _ (z_nn u19 a102)).trans a104
      have a106 : f29 fa = some (.inr (2, [.int 0, .int (-1), .int 0, .ref ev])) := (k31 _ (z_nn u19 a102)).trans a105
      have a107 : f36 fa = some (.inr (2, [.int 0, .int (-1), .int 0, .ref ev])) := k39 _ _ a106 (z_nn u14 a101)
      have a108 : f80 fa = some (.inr (2, [.int 0, .int (-1), .int 0, .ref ev])) := k93 _ _ a107 (z_ne a107 a46 rfl) (z_ne a107 a54 rfl) (z_ne a107 a62 rfl) (z_nn u14 a101) (fun j9 h8 => (z_ne a107 (F71 j9 h8) rfl))
      have a109 : f1 ev = some (.inl (cy 0, 8, .inl gv)) := k4 _ _ x_ev (z_ne x_ev x_fa rfl)
      have a110 : f7 ev = some (.inl (cy 0, 8, .inl gv)) := k9 _ _ a109 
      have a111 : f15 ev = some (.inl (cy 0, 8, .inl gv)) := (k17 _ (z_nn u14 a110)).trans a110
      have a112 : f20 ev = some (.inl (cy 0, 8, .inl gv)) := (k22 _ (z_nn u19 a111)).trans a111
      have a113 : f23 ev = some (.inl (cy 0, 8, .inl gv)) := (k25 _ (z_nn u19 a111)).trans a112
      have a114 : f26 ev = some (.inl (cy 0, 8, .inl gv)) := (k28 _ (z_nn u19 a111)).trans a113
      have a115 : f29 ev = some (.inl (cy 0, 8, .inl gv)) := (k31 _ (z_nn u19 a111)).trans a114
      have a116 : f36 ev = some (.inl (cy 0, 8, .inl gv)) := k39 _ _ a115 (z_nn u14 a110)
      have a117 : f80 ev = some (.inl (cy 0, 8, .inl gv)) := k93 _ _ a116 (z_ne a116 a46 rfl) (z_ne a116 a54 rfl) (z_ne a116 a62 rfl) (z_nn u14 a110) (fun j9 h8 => (z_ne a116 (F71 j9 h8) rfl))
      have a118 : f1 nu = some (.inl (cy 0, 12, .inl gu)) := k4 _ _ x_nu (z_ne x_nu x_fa rfl)
      have a119 : f7 nu = some (.inl (cy 0, 12, .inl gu)) := k9 _ _ a118 
      have a120 : f15 nu = some (.inl (cy 0, 12, .inl gu)) := (k17 _ (z_nn u14 a119)).trans a119
      have a121 : f20 nu = some (.inl (cy 0, 12, .inl gu)) := (k22 _ (z_nn u19 a120)).trans a120
      have a122 : f23 nu = some (.inl (cy 0, 12, .inl gu)) := (k25 _ (z_nn u19 a120)).trans a121
      have a123 : f26 nu = some (.inl (cy 0, 12, .inl gu)) := (k28 _ (z_nn u19 a120)).trans a122
      have a124 : f29 nu = some (.inl (cy 0, 12, .inl gu)) := (k31 _ (z_nn u19 a120)).trans a123
      have a125 : f36 nu = some (.inl (cy 0, 12, .inl gu)) := k39 _ _ a124 (z_nn u14 a119)
      have a126 : f80 nu = some (.inl (cy 0, 12, .inl gu)) := k93 _ _ a125 (z_ne a125 a46 rfl) (z_ne a125 a54 rfl) (z_ne a125 a62 rfl) (z_nn u14 a119) (fun j9 h8 => (z_ne a125 (F71 j9 h8) rfl))
      have a127 : f1 fm = some (.inl (cy 4, 6, .inr (.inr (.inr (.inr gf))))) := k4 _ _ x_fm (z_ne x_fm x_fa rfl)
      have a128 : f7 fm = some (.inl (cy 4, 6, .inr (.inr (.inr (.inr gf))))) := k9 _ _ a127 
      have a129 : f15 fm = some (.inl (cy 4, 6, .inr (.inr (.inr (.inr gf))))) := (k17 _ (z_nn u14 a128)).trans a128
      have a130 : f20 fm = some (.inl (cy 4, 6, .inr (.inr (.inr (.inr gf))))) := (k22 _ (z_nn u19 a129)).trans a129
      have a131 : f23 fm = some (.inl (cy 4, 6, .inr (.inr (.inr (.inr gf))))) := (k25 _ (z_nn u19 a129)).trans a130
      have a132 : f26 fm = some (.inl (cy 4, 6, .inr (.inr (.inr (.inr gf))))) := (k28 _ (z_nn u19 a129)).trans a131
      have a133 : f29 fm = some (.inl (cy 4, 6, .inr (.inr (.inr (.inr gf))))) := (k31 _ (z_nn u19 a129)).trans a132
      have a134 : f36 fm = some (.inl (cy 4, 6, .inr (.inr (.inr (.inr gf))))) := k39 _ _ a133 (z_nn u14 a128)
      have a135 : f80 fm = some (.inl (cy 4, 6, .inr (.inr (.inr (.inr gf))))) := k93 _ _ a134 (z_ne a134 a46 rfl) (z_ne a134 a54 rfl) (z_ne a134 a62 rfl) (z_nn u14 a128) (fun j9 h8 => (z_ne a134 (F71 j9 h8) rfl))
      have a136 : f1 co = some (.inl (cy 5, 60, .inr (.inr (.inr (.inr gc))))) := k4 _ _ x_co (z_ne x_co x_fa rfl)
      have a137 : f7 co = some (.inl (cy 5, 60, .inr (.inr (.inr (.inr gc))))) := k9 _ _ a136 
      have a138 : f15 co = some (.inl (cy 5, 60, .inr (.inr (.inr (.inr gc))))) := (k17 _ (z_nn u14 a137)).trans a137
      have a139 : f20 co = some (.inl (cy 5, 60, .inr (.inr (.inr (.inr gc))))) := (k22 _ (z_nn u19 a138)).trans a138
      have a140 : f23 co = some (.inl (cy 5, 60, .inr (.inr (.inr (.inr gc))))) := (k25 _ (z_nn u19 a138)).trans a139
      have a141 : f26 co = some (.inl (cy 5, 60, .inr (.inr (.inr (.inr gc))))) := (k28 _ (z_nn u19 a138)).trans a140
      have a142 : f29 co = some (.inl (cy 5, 60, .inr (.inr (.inr (.inr gc))))) := (k31 _ (z_nn u19 a138)).trans a141
      have a143 : f36 co = some (.inl (cy 5, 60, .inr (.inr (.inr (.inr gc))))) := k39 _ _ a142 (z_nn u14 a137)
      have a144 : f80 co = some (.inl (cy 5, 60, .inr (.inr (.inr (.inr gc))))) := k93 _ _ a143 (z_ne a143 a46 rfl) hca hcr (z_nn u14 a137) (fun j9 h8 => (z_ne a143 (F71 j9 h8) rfl))
      have a145 : f1 en = some (.inl (cy 6, 4, .inr (.inr (.inr (.inr ge))))) := k4 _ _ x_en (z_ne x_en x_fa rfl)
      have a146 : f7 en = some (.inl (cy 6, 4, .inr (.inr (.inr (.inr ge))))) := k9 _ _ a145 
      have a147 : f15 en = some (.inl (cy 6, 4, .inr (.inr (.inr (.inr ge))))) := (k17 _ (z_nn u14 a146)).trans a146
      have a148 : f20 en = some (.inl (cy 6, 4, .inr (.inr (.inr (.inr ge))))) := (k22 _ (z_nn u19 a147)).trans a147
      have a149 : f23 en = some (.inl (cy 6, 4, .inr (.inr (.inr (.inr ge))))) := (k25 _ (z_nn u19 a147)).trans a148
      have a150 : f26 en = some (.inl (cy 6, 4, .inr (.inr (.inr (.inr ge))))) := (k28 _ (z_nn u19 a147)).trans a149
      have a151 : f29 en = some (.inl (cy 6, 4, .inr (.inr (.inr (.inr ge))))) := (k31 _ (z_nn u19 a147)).trans a150
      have a152 : f36 en = some (.inl (cy 6, 4, .inr (.inr (.inr (.inr ge))))) := k39 _ _ a151 (z_nn u14 a146)
      have a153 : f80 en = some (.inl (cy 6, 4, .inr (.inr (.inr (.inr ge))))) := k93 _ _ a152 (z_ne a152 a46 rfl) (z_ne a152 a54 rfl) (z_ne a152 a62 rfl) (z_nn u14 a146) (fun j9 h8 => (z_ne a152 (F71 j9 h8) rfl))
      have a154 : f1 ke = some (.inr (6, [.ref kn, .ref vq, .int (nI ks)])) := k4 _ _ x_ke (z_ne x_ke x_fa rfl)
      have a155 : f7 ke = some (.inr (6, [.ref kn, .ref vq, .int (nI ks)])) := k9 _ _ a154 
      have a156 : f15 ke = some (.inr (6, [.ref kn, .ref vq, .int (nI ks)])) := (k17 _ (z_nn u14 a155)).trans a155
      have a157 : f20 ke = some (.inr (6, [.ref kn, .ref vq, .int (nI ks)])) := (k22 _ (z_nn u19 a156)).trans a156
      have a158 : f23 ke = some (.inr (6, [.ref kn, .ref vq, .int (nI ks)])) := (k25 _ (z_nn u19 a156)).trans a157
      have a159 : f26 ke = some (.inr (6, [.ref kn, .ref vq, .int (nI ks)])) := (k28 _ (z_nn u19 a156)).trans a158
      have a160 : f29 ke = some (.inr (6, [.ref kn, .ref vq, .int (nI ks)])) := (k31 _ (z_nn u19 a156)).trans a159
      have a161 : f36 ke = some (.inr (6, [.ref kn, .ref vq, .int (nI ks)])) := k39 _ _ a160 (z_nn u14 a155)
      have a162 : f80 ke = some (.inr (6, [.ref kn, .ref vq, .int (nI ks)])) := k93 _ _ a161 (z_ne a161 a46 rfl) (z_ne a161 a54 rfl) (z_ne a161 a62 rfl) (z_nn u14 a155) (fun j9 h8 => (z_ne a161 (F71 j9 h8) rfl))
      have a163 : f1 kn = some (.inl (cy 0, 40, .inl kk)) := k4 _ _ x_kn (z_ne x_kn x_fa rfl)
      have a164 : f7 kn = some (.inl (cy 0, 40, .inl kk)) := k9 _ _ a163 
      have a165 : f15 kn = some (.inl (cy 0, 40, .inl kk)) := (k17 _ (z_nn u14 a164)).trans a164
      have a166 : f20 kn = some (.inl (cy 0, 40, .inl kk)) := (k22 _ (z_nn u19 a165)).trans a165
      have a167 : f23 kn = some (.inl (cy 0, 40, .inl kk)) := (k25 _ (z_nn u19 a165)).trans a166
      have a168 : f26 kn = some (.inl (cy 0, 40, .inl kk)) := (k28 _ (z_nn u19 a165)).trans a167
      have a169 : f29 kn = some (.inl (cy 0, 40, .inl kk)) := (k31 _ (z_nn u19 a165)).trans a168
      have a170 : f36 kn = some (.inl (cy 0, 40, .inl kk)) := k39 _ _ a169 (z_nn u14 a164)
      have a171 : f80 kn = some (.inl (cy 0, 40, .inl kk)) := k93 _ _ a170 (z_ne a170 a46 rfl) (z_ne a170 a54 rfl) (z_ne a170 a62 rfl) (z_nn u14 a164) (fun j9 h8 => (z_ne a170 (F71 j9 h8) rfl))
      have a172 : f1 vq = some (.inl (cy 0, 40, .inl kv)) := k4 _ _ x_vq (z_ne x_vq x_fa rfl)
      have a173 : f7 vq = some (.inl (cy 0, 40, .inl kv)) := k9 _ _ a172 
      have a174 : f15 vq = some (.inl (cy 0, 40, .inl kv)) := (k17 _ (z_nn u14 a173)).trans a173
      have a175 : f20 vq = some (.inl (cy 0, 40, .inl kv)) := (k22 _ (z_nn u19 a174)).trans a174
      have a176 : f23 vq = some (.inl (cy 0, 40, .inl kv)) := (k25 _ (z_nn u19 a174)).trans a175
      have a177 : f26 vq = some (.inl (cy 0, 40, .inl kv)) := (k28 _ (z_nn u19 a174)).trans a176
      have a178 : f29 vq = some (.inl (cy 0, 40, .inl kv)) := (k31 _ (z_nn u19 a174)).trans a177
      have a179 : f36 vq = some (.inl (cy 0, 40, .inl kv)) := k39 _ _ a178 (z_nn u14 a173)
      have a180 : f80 vq = some (.inl (cy 0, 40, .inl kv)) := k93 _ _ a179 (z_ne a179 a46 rfl) (z_ne a179 a54 rfl) (z_ne a179 a62 rfl) (z_nn u14 a173) (fun j9 h8 => (z_ne a179 (F71 j9 h8) rfl))
      have F181 : ∀ i9 : Nat, i9 < nf → f1 (fq i9) = some (.inr (3, [.ref (fk i9), .int (nI (fz i9))])) := fun i9 h9 => k4 _ _ (hFq i9 h9) (z_ne (hFq i9 h9) x_fa rfl)
      have F182 : ∀ i9 : Nat, i9 < nf → f7 (fq i9) = some (.inr (3, [.ref (fk i9), .int (nI (fz i9))])) := fun i9 h9 => k9 _ _ (F181 i9 h9) 
      have F183 : ∀ i9 : Nat, i9 < nf → f15 (fq i9) = some (.inr (3, [.ref (fk i9), .int (nI (fz i9))])) := fun i9 h9 => (k17 _ (z_nn u14 (F182 i9 h9))).trans (F182 i9 h9)
      have F184 : ∀ i9 : Nat, i9 < nf → f20 (fq i9) = some (.inr (3, [.ref (fk i9), .int (nI (fz i9))])) := fun i9 h9 => (k22 _ (z_nn u19 (F183 i9 h9))).trans (F183 i9 h9)
      have F185 : ∀ i9 : Nat, i9 < nf → f23 (fq i9) = some (.inr (3, [.ref (fk i9), .int (nI (fz i9))])) := fun i9 h9 => (k25 _ (z_nn u19 (F183 i9 h9))).trans (F184 i9 h9)
      have F186 : ∀ i9 : Nat, i9 < nf → f26 (fq i9) = some (.inr (3, [.ref (fk i9), .int (nI (fz i9))])) := fun i9 h9 => (k28 _ (z_nn u19 (F183 i9 h9))).trans (F185 i9 h9)
      have F187 : ∀ i9 : Nat, i9 < nf → f29 (fq i9) = some (.inr (3, [.ref (fk i9), .int (nI (fz i9))])) := fun i9 h9 => (k31 _ (z_nn u19 (F183 i9 h9))).trans (F186 i9 h9)
      have F188 : ∀ i9 : Nat, i9 < nf → f36 (fq i9) = some (.inr (3, [.ref (fk i9), .int (nI (fz i9))])) := fun i9 h9 => k39 _ _ (F187 i9 h9) (z_nn u14 (F182 i9 h9))
      have F189 : ∀ i9 : Nat, i9 < nf → f80 (fq i9) = some (.inr (3, [.ref (fk i9), .int (nI (fz i9))])) := fun i9 h9 => k93 _ _ (F188 i9 h9) (z_ne (F188 i9 h9) a46 rfl) (z_ne (F188 i9 h9) a54 rfl) (z_ne (F188 i9 h9) a62 rfl) (z_nn u14 (F182 i9 h9)) (fun j9 h8 => (z_ne (F188 i9 h9) (F71 j9 h8) rfl))
      have F190 : ∀ i9 : Nat, i9 < nf → f1 (fk i9) = some (.inl (cy 0, 4, .inl (fc i9))) := fun i9 h9 => k4 _ _ (hFk i9 h9) (z_ne (hFk i9 h9) x_fa rfl)
      have F191 : ∀ i9 : Nat, i9 < nf → f7 (fk i9) = some (.inl (cy 0, 4, .inl (fc i9))) := fun i9 h9 => k9 _ _ (F190 i9 h9) 
      have F192 : ∀ i9 : Nat, i9 < nf → f15 (fk i9) = some (.inl (cy 0, 4, .inl (fc i9))) := fun i9 h9 => (k17 _ (z_nn u14 (F191 i9 h9))).trans (F191 i9 h9)
      have F193 : ∀ i9 : Nat, i9 < nf → f20 (fk i9) = some (.inl (cy 0, 4, .inl (fc i9))) := fun i9 h9 => (k22 _ (z_nn u19 (F192 i9 h9))).trans (F192 i9 h9)
      have F194 : ∀ i9 : Nat, i9 < nf → f23 (fk i9) = some (.inl (cy 0, 4, .inl (fc i9))) := fun i9 h9 => (k25 _ (z_nn u19 (F192 i9 h9))).trans (F193 i9 h9)
      have F195 : ∀ i9 : Nat, i9 < nf → f26 (fk i9) = some (.inl (cy 0, 4, .inl (fc i9))) := fun i9 h9 => (k28 _ (z_nn u19 (F192 i9 h9))).trans (F194 i9 h9)
      have F196 : ∀ i9 : Nat, i9 < nf → f29 (fk i9) = some (.inl (cy 0, 4, .inl (fc i9))) := fun i9 h9 => (k31 _ (z_nn u19 (F192 i9 h9))).trans (F195 i9 h9)
      have F197 : ∀ i9 : Nat, i9 < nf → f36 (fk i9) = some (.inl (cy 0, 4, .inl (fc i9))) := fun i9 h9 => k39 _ _ (F196 i9 h9) (z_nn u14 (F191 i9 h9))
      have F198 : ∀ i9 : Nat, i9 < nf → f80 (fk i9) = some (.inl (cy 0, 4, .inl (fc i9))) := fun i9 h9 => k93 _ _ (F197 i9 h9) (z_ne (F197 i9 h9) a46 rfl) (z_ne (F197 i9 h9) a54 rfl) (z_ne (F197 i9 h9) a62 rfl) (z_nn u14 (F191 i9 h9)) (fun j9 h8 => (z_ne (F197 i9 h9) (F71 j9 h8) rfl))
      have F199 : ∀ i9 : Nat, i9 < nc → f1 (cn i9) = some (.inr (0, [.int (ce i9), .int (cm i9)])) := fun i9 h9 => k4 _ _ (hCn i9 h9) (z_ne (hCn i9 h9) x_fa rfl)
      have F200 : ∀ i9 : Nat, i9 < nc → f7 (cn i9) = some (.inr (0, [.int (ce i9), .int (cm i9)])) := fun i9 h9 => k9 _ _ (F199 i9 h9) 
      have F201 : ∀ i9 : Nat, i9 < nc → f15 (cn i9) = some (.inr (0, [.int (ce i9), .int (cm i9)])) := fun i9 h9 => (k17 _ (z_nn u14 (F200 i9 h9))).trans (F200 i9 h9)
      have F202 : ∀ i9 : Nat, i9 < nc → f20 (cn i9) = some (.inr (0, [.int (ce i9), .int (cm i9)])) := fun i9 h9 => (k22 _ (z_nn u19 (F201 i9 h9))).trans (F201 i9 h9)
      have F203 : ∀ i9 : Nat, i9 < nc → f23 (cn i9) = some (.inr (0, [.int (ce i9), .int (cm i9)])) := fun i9 h9 => (k25 _ (z_nn u19 (F201 i9 h9))).trans (F202 i9 h9)
      have F204 : ∀ i9 : Nat, i9 < nc → f26 (cn i9) = some (.inr (0, [.int (ce i9), .int (cm i9)])) := fun i9 h9 => (k28 _ (z_nn u19 (F201 i9 h9))).trans (F203 i9 h9)
      have F205 : ∀ i9 : Nat, i9 < nc → f29 (cn i9) = some (.inr (0, [.int (ce i9), .int (cm i9)])) := fun i9 h9 => (k31 _ (z_nn u19 (F201 i9 h9))).trans (F204 i9 h9)
      have F206 : ∀ i9 : Nat, i9 < nc → f36 (cn i9) = some (.inr (0, [.int (ce i9), .int (cm i9)])) := fun i9 h9 => k39 _ _ (F205 i9 h9) (z_nn u14 (F200 i9 h9))
      have F207 : ∀ i9 : Nat, i9 < nc → f80 (cn i9) = some (.inr (0, [.int (ce i9), .int (cm i9)])) := fun i9 h9 => k93 _ _ (F206 i9 h9) (z_ne (F206 i9 h9) a46 rfl) (z_ne (F206 i9 h9) a54 rfl) (z_ne (F206 i9 h9) a62 rfl) (z_nn u14 (F200 i9 h9)) (fun j9 h8 => (z_ne (F206 i9 h9) (F71 j9 h8) rfl))
      have F208 : ∀ i9 : Nat, i9 < 4 → f1 (ea i9) = some (.inr (1, [.ref (ma i9), .int (nI (sq i9))])) := fun i9 h9 => k4 _ _ (hEa i9 h9) (z_ne (hEa i9 h9) x_fa rfl)
      have F209 : ∀ i9 : Nat, i9 < 4 → f7 (ea i9) = some (.inr (1, [.ref (ma i9), .int (nI (sq i9))])) := fun i9 h9 => k9 _ _ (F208 i9 h9) 
      have F210 : ∀ i9 : Nat, i9 < 4 → f15 (ea i9) = some (.inr (1, [.ref (ma i9), .int (nI (sq i9))])) := fun i9 h9 => (k17 _ (z_nn u14 (F209 i9 h9))).trans (F209 i9 h9)
      have F211 : ∀ i9 : Nat, i9 < 4 → f20 (ea i9) = some (.inr (1, [.ref (ma i9), .int (nI (sq i9))])) := fun i9 h9 => (k22 _ (z_nn u19 (F210 i9 h9))).trans (F210 i9 h9)
      have F212 : ∀ i9 : Nat, i9 < 4 → f23 (ea i9) = some (.inr (1, [.ref (ma i9), .int (nI (sq i9))])) := fun i9 h9 => (k25 _ (z_nn u19 (F210 i9 h9))).trans (F211 i9 h9)
      have F213 : ∀ i9 : Nat, i9 < 4 → f26 (ea i9) = some (.inr (1, [.ref (ma i9), .int (nI (sq i9))])) := fun i9 h9 => (k28 _ (z_nn u19 (F210 i9 h9))).trans (F212 i9 h9)
      have F214 : ∀ i9 : Nat, i9 < 4 → f29 (ea i9) = some (.inr (1, [.ref (ma i9), .int (nI (sq i9))])) := fun i9 h9 => (k31 _ (z_nn u19 (F210 i9 h9))).trans (F213 i9 h9)
      have F215 : ∀ i9 : Nat, i9 < 4 → f36 (ea i9) = some (.inr (1, [.ref (ma i9), .int (nI (sq i9))])) := fun i9 h9 => k39 _ _ (F214 i9 h9) (z_nn u14 (F209 i9 h9))
      have F216 : ∀ i9 : Nat, i9 < 4 → f80 (ea i9) = some (.inr (1, [.ref (ma i9), .int (nI (sq i9))])) := fun i9 h9 => k93 _ _ (F215 i9 h9) (z_ne (F215 i9 h9) a46 rfl) (z_ne (F215 i9 h9) a54 rfl) (z_ne (F215 i9 h9) a62 rfl) (z_nn u14 (F209 i9 h9)) (fun j9 h8 => (z_ne (F215 i9 h9) (F71 j9 h8) rfl))
      have F217 : ∀ i9 : Nat, i9 < 4 → f1 (ma i9) = some (.inl (cy 0, 60, .inl (mb i9))) := fun i9 h9 => k4 _ _ (hMa i9 h9) (z_ne (hMa i9 h9) x_fa rfl)
      have F218 : ∀ i9 : Nat, i9 < 4 → f7 (ma i9) = some (.inl (cy 0, 60, .inl (mb i9))) := fun i9 h9 => k9 _ _ (F217 i9 h9) 
      have F219 : ∀ i9 : Nat, i9 < 4 → f15 (ma i9) = some (.inl (cy 0, 60, .inl (mb i9))) := fun i9 h9 => (k17 _ (z_nn u14 (F218 i9 h9))).trans (F218 i9 h9)
      have F220 : ∀ i9 : Nat, i9 < 4 → f20 (ma i9) = some (.inl (cy 0, 60, .inl (mb i9))) := fun i9 h9 => (k22 _ (z_nn u19 (F219 i9 h9))).trans (F219 i9 h9)
      have F221 : ∀ i9 : Nat, i9 < 4 → f23 (ma i9) = some (.inl (cy 0, 60, .inl (mb i9))) := fun i9 h9 => (k25 _ (z_nn u19 (F219 i9 h9))).trans (F220 i9 h9)
      have F222 : ∀ i9 : Nat, i9 < 4 → f26 (ma i9) = some (.inl (cy 0, 60, .inl (mb i9))) := fun i9 h9 => (k28 _ (z_nn u19 (F219 i9 h9))).trans (F221 i9 h9)
      have F223 : ∀ i9 : Nat, i9 < 4 → f29 (ma i9) = some (.inl (cy 0, 60, .inl (mb i9))) := fun i9 h9 => (k31 _ (z_nn u19 (F219 i9 h9))).trans (F222 i9 h9)
      have F224 : ∀ i9 : Nat, i9 < 4 → f36 (ma i9) = some (.inl (cy 0, 60, .inl (mb i9))) := fun i9 h9 => k39 _ _ (F223 i9 h9) (z_nn u14 (F218 i9 h9))
      have F225 : ∀ i9 : Nat, i9 < 4 → f80 (ma i9) = some (.inl (cy 0, 60, .inl (mb i9))) := fun i9 h9 => k93 _ _ (F224 i9 h9) (z_ne (F224 i9 h9) a46 rfl) (z_ne (F224 i9 h9) a54 rfl) (z_ne (F224 i9 h9) a62 rfl) (z_nn u14 (F218 i9 h9)) (fun j9 h8 => (z_ne (F224 i9 h9) (F71 j9 h8) rfl))
      have a226 : f80 q18 = some (.inl (cy 1, 3, .inr (.inl (vp_updL (vp_updL (vp_updL (fun _ => 0) 0 x) 1 y) 2 (x / y))))) := k93 _ _ a63 (Ne.symm (z_nn u19 a41)) (Ne.symm (z_nn u19 a49)) (Ne.symm (z_nn u19 a57)) (Ne.symm (z_nn u19 a16)) (fun j9 h8 => (z_ne a63 (F71 j9 h8) rfl))
      have hgpf : ∀ j, j < 3 → (vp_updL (vp_updL (vp_updL (fun _ => 0) 0 x) 1 y) 2 (x / y)) j = (q3 x y (x / y)) j := (z_j3 _ _ _ _)
      have hq : q_share nn y = (nI nn, 0, (-1), 0) := by simp [q_share, h60, hy0, c10, c11]
      exact z_iret C hr rfl hz hS ⟨0, (-1), 0, gv, nl, gu, (nn + 1), (va_up ga nn (some q13)), gr_84, (va_up fg nn q13), (va_up pt nn q18), (va_up kd nn 3), (va_up ln nn 3), (va_up pp nn (vp_updL (vp_updL (vp_updL (fun _ => 0) 0 x) 1 y) 2 (x / y))), (va_up wg nn (x / y)), (va_up wd nn 0), (va_up hs nn hq_82), (va_up bf_85 nn bq_83), nf, gf, fq, fk, fz, fc, nc, gc, cn, ce, cm, sq, mb, ks, kk, kv, lk, (by rw [hq]), (by rw [hq]), (by rw [hq]), (by rw [hq]), (by rw [hq]; exact (zEV0 gv).symm), rfl, rfl, (by rw [if_pos (nI_pos' (by omega))]), (by rw [if_pos (nI_pos' (by omega))]), (by rw [if_pos (nI_pos' (by omega))]), (zPP_new hgpf), (by rw [if_pos (nI_pos' (by omega))]), (by rw [if_pos (nI_pos' (by omega)), p86, zHash_congr (gp' := q3 x y (x / y)) hgpf]), rfl, rfl, rfl, rfl, rfl, rfl, rfl, rfl, rfl, rfl, rfl, rfl, ⟨a100, a108, a117, a88, a89, a90, a126, a135, a144, a153, a162, a171, a180, F91, F92, F189, F198, F207, F216, F225, (by omega), hl12, hf6, hc60, hs40, (z_ga1 hga), (z_gr1 p87), (z_up1 (P := fun _ a9 => a9 ≤ 15) hln (by omega)), (z_up2 (P := fun (a9 : Int32) (b9 : Nat) => a9 = 5 → 3 ≤ b9) hk5 (fun h9 => absurd h9 (by decide))), (z_up2 (P := fun (a9 : Int32) (b9 : Nat) => a9 = 4 → 2 ≤ b9) hk4 (fun h9 => absurd h9 (by decide))), (z_inj1 hfi (fun j9 h9 => z_nn u14 (F65 j9 h9))), (z_inj1 hpi (fun j9 h9 => z_nn u19 (F74 j9 h9))), har, hgf, hfz, hgc, hG, hsq, hei, hmi, kne, hca, hcr, hlk⟩⟩ (Nat.le_of_ble_eq_true rfl) (Nat.le_of_ble_eq_true rfl) dX7_share_75
    · have hy0 : y = 0 := ((lg_cmp_eq y 0).mp c11)
      refine lv_aload_n hx hb dX7_share_26 rfl (lv_at hl 0 rfl) ?_
      have a227 : f7 o = some (.inr (7, [.ref fa, .ref fi, .ref nu, .int (nI nl), .ref fm, .int (nI nf), .ref co, .int (nI nc), .ref en, .ref ke, .long lk])) := k9 _ _ a5 
      refine z_get (v := .ref fa) C hz a227 zl7 mFX7_10 (by decide) rfl dX7_share_27 ?_
      refine lv_bipush (v := 6) hx hb dX7_share_30 (by decide) ?_
      refine lv_iconst (v := 1) hx hb dX7_share_32 (by decide) ?_
      have a228 : f7 fa = some (.inr (2, [.int 0, .int (-1), .int 0, .ref ev])) := k9 _ _ a3 
      have a229 : f1 ev = some (.inl (cy 0, 8, .inl gv)) := k4 _ _ x_ev (z_ne x_ev x_fa rfl)
      have a230 : f7 ev = some (.inl (cy 0, 8, .inl gv)) := k9 _ _ a229 
      refine z_callVi (As := [.int 6, .int 1]) C hz hS hA hl (k_X2_inPart l D cy f7 fa 6 1 0 (-1) 0 ev gv 6 a228 a230 (by decide) (Nat.le_of_ble_eq_true rfl)) zyX2_inPart mMX7_104 a228 zl2 rfl rfl (Nat.le_of_ble_eq_true rfl) ⟨Nat.le_of_ble_eq_true rfl, Nat.le_of_ble_eq_true rfl⟩ ⟨Nat.le_of_ble_eq_true rfl, Nat.le_of_ble_eq_true rfl⟩ dX7_share_33 (fun r f231 H locs h232 hz hS => ?_)
      obtain ⟨rfl, a233, a234, k235⟩ := h232
      have a236 : f231 o = some (.inr (7, [.ref fa, .ref fi, .ref nu, .int (nI nl), .ref fm, .int (nI nf), .ref co, .int (nI nc), .ref en, .ref ke, .long lk])) := k235 _ _ a227 (z_ne a227 a228 rfl) (z_ne a227 a230 rfl)
      have a237 : f7 fi = some (.inr (5, [.ref al, .ref ra, .int (nI nn)])) := k9 _ _ a6 
      have a238 : f231 fi = some (.inr (5, [.ref al, .ref ra, .int (nI nn)])) := k235 _ _ a237 (z_ne a237 a228 rfl) (z_ne a237 a230 rfl)
      have a239 : f1 al = some (.inl (cy 3, 60, .inr (.inr (.inr (.inr ga))))) := k4 _ _ x_al (z_ne x_al x_fa rfl)
      have a240 : f7 al = some (.inl (cy 3, 60, .inr (.inr (.inr (.inr ga))))) := k9 _ _ a239 
      have a241 : f231 al = some (.inl (cy 3, 60, .inr (.inr (.inr (.inr ga))))) := k235 _ _ a240 (z_ne a240 a228 rfl) (z_ne a240 a230 rfl)
      have a242 : f1 ra = some (.inl (cy 3, 60, .inr (.inr (.inr (.inr gr))))) := k4 _ _ x_ra (z_ne x_ra x_fa rfl)
      have a243 : f7 ra = some (.inl (cy 3, 60, .inr (.inr (.inr (.inr gr))))) := k9 _ _ a242 
      have a244 : f231 ra = some (.inl (cy 3, 60, .inr (.inr (.inr (.inr gr))))) := k235 _ _ a243 (z_ne a243 a228 rfl) (z_ne a243 a230 rfl)
      have a245 : f1 nu = some (.inl (cy 0, 12, .inl gu)) := k4 _ _ x_nu (z_ne x_nu x_fa rfl)
      have a246 : f7 nu = some (.inl (cy 0, 12, .inl gu)) := k9 _ _ a245 
      have a247 : f231 nu = some (.inl (cy 0, 12, .inl gu)) := k235 _ _ a246 (z_ne a246 a228 rfl) (z_ne a246 a230 rfl)
      have a248 : f1 fm = some (.inl (cy 4, 6, .inr (.inr (.inr (.inr gf))))) := k4 _ _ x_fm (z_ne x_fm x_fa rfl)
      have a249 : f7 fm = some (.inl (cy 4, 6, .inr (.inr (.inr (.inr gf))))) := k9 _ _ a248 
      have a250 : f231 fm = some (.inl (cy 4, 6, .inr (.inr (.inr (.inr gf))))) := k235 _ _ a249 (z_ne a249 a228 rfl) (z_ne a249 a230 rfl)
      have a251 : f1 co = some (.inl (cy 5, 60, .inr (.inr (.inr (.inr gc))))) := k4 _ _ x_co (z_ne x_co x_fa rfl)
      have a252 : f7 co = some (.inl (cy 5, 60, .inr (.inr (.inr (.inr gc))))) := k9 _ _ a251 
      have a253 : f231 co = some (.inl (cy 5, 60, .inr (.inr (.inr (.inr gc))))) := k235 _ _ a252 (z_ne a252 a228 rfl) (z_ne a252 a230 rfl)
      have a254 : f1 en = some (.inl (cy 6, 4, .inr (.inr (.inr (.inr ge))))) := k4 _ _ x_en (z_ne x_en x_fa rfl)
      have a255 : f7 en = some (.inl (cy 6, 4, .inr (.inr (.inr (.inr ge))))) := k9 _ _ a254 
      have a256 : f231 en = some (.inl (cy 6, 4, .inr (.inr (.inr (.inr ge))))) := k235 _ _ a255 (z_ne a255 a228 rfl) (z_ne a255 a230 rfl)
      have a257 : f1 ke = some (.inr (6, [.ref kn, .ref vq, .int (nI ks)])) := k4 _ _ x_ke (z_ne x_ke x_fa rfl)
      have a258 : f7 ke = some (.inr (6, [.ref kn, .ref vq, .int (nI ks)])) := k9 _ _ a257 
      have a259 : f231 ke = some (.inr (6, [.ref kn, .ref vq, .int (nI ks)])) := k235 _ _ a258 (z_ne a258 a228 rfl) (z_ne a258 a230 rfl)
      have a260 : f1 kn = some (.inl (cy 0, 40, .inl kk)) := k4 _ _ x_kn (z_ne x_kn x_fa rfl)
      have a261 : f7 kn = some (.inl (cy 0, 40, .inl kk)) := k9 _ _ a260 
      have a262 : f231 kn = some (.inl (cy 0, 40, .inl kk)) := k235 _ _ a261 (z_ne a261 a228 rfl) (z_ne a261 a230 rfl)
      have a263 : f1 vq = some (.inl (cy 0, 40, .inl kv)) := k4 _ _ x_vq (z_ne x_vq x_fa rfl)
      have a264 : f7 vq = some (.inl (cy 0, 40, .inl kv)) := k9 _ _ a263 
      have a265 : f231 vq = some (.inl (cy 0, 40, .inl kv)) := k235 _ _ a264 (z_ne a264 a228 rfl) (z_ne a264 a230 rfl)
      have F266 : ∀ i9 : Nat, i9 < nn → f1 (fg i9) = some (.inr (4, [.int (kd i9), .ref (pt i9), .long (wg i9), .int (wd i9), .int (nI i9), .int (hs i9), .int (bf i9)])) := fun i9 h9 => k4 _ _ (hF i9 h9) (z_ne (hF i9 h9) x_fa rfl)
      have F267 : ∀ i9 : Nat, i9 < nn → f7 (fg i9) = some (.inr (4, [.int (kd i9), .ref (pt i9), .long (wg i9), .int (wd i9), .int (nI i9), .int (hs i9), .int (bf i9)])) := fun i9 h9 => k9 _ _ (F266 i9 h9) 
      have F268 : ∀ i9 : Nat, i9 < nn → f231 (fg i9) = some (.inr (4, [.int (kd i9), .ref (pt i9), .long (wg i9), .int (wd i9), .int (nI i9), .int (hs i9), .int (bf i9)])) := fun i9 h9 => k235 _ _ (F267 i9 h9) (z_ne (F267 i9 h9) a228 rfl) (z_ne (F267 i9 h9) a230 rfl)
      have F269 : ∀ i9 : Nat, i9 < nn → f1 (pt i9) = some (.inl (cy 1, (ln i9), .inr (.inl (pp i9)))) := fun i9 h9 => k4 _ _ (hP i9 h9) (z_neO (hP i9 h9) x_fa rfl)
      have F270 : ∀ i9 : Nat, i9 < nn → f7 (pt i9) = some (.inl (cy 1, (ln i9), .inr (.inl (pp i9)))) := fun i9 h9 => k9 _ _ (F269 i9 h9) 
      have F271 : ∀ i9 : Nat, i9 < nn → f231 (pt i9) = some (.inl (cy 1, (ln i9), .inr (.inl (pp i9)))) := fun i9 h9 => k235 _ _ (F270 i9 h9) (z_neO (F270 i9 h9) a228 rfl) (z_neA (F270 i9 h9) a230 rfl)
      have F272 : ∀ i9 : Nat, i9 < nf → f1 (fq i9) = some (.inr (3, [.ref (fk i9), .int (nI (fz i9))])) := fun i9 h9 => k4 _ _ (hFq i9 h9) (z_ne (hFq i9 h9) x_fa rfl)
      have F273 : ∀ i9 : Nat, i9 < nf → f7 (fq i9) = some (.inr (3, [.ref (fk i9), .int (nI (fz i9))])) := fun i9 h9 => k9 _ _ (F272 i9 h9) 
      have F274 : ∀ i9 : Nat, i9 < nf → f231 (fq i9) = some (.inr (3, [.ref (fk i9), .int (nI (fz i9))])) := fun i9 h9 => k235 _ _ (F273 i9 h9) (z_ne (F273 i9 h9) a228 rfl) (z_ne (F273 i9 h9) a230 rfl)
      have F275 : ∀ i9 : Nat, i9 < nf → f1 (fk i9) = some (.inl (cy 0, 4, .inl (fc i9))) := fun i9 h9 => k4 _ _ (hFk i9 h9) (z_ne (hFk i9 h9) x_fa rfl)
      have F276 : ∀ i9 : Nat, i9 < nf → f7 (fk i9) = some (.inl (cy 0, 4, .inl (fc i9))) := fun i9 h9 => k9 _ _ (F275 i9 h9) 
      have F277 : ∀ i9 : Nat, i9 < nf → f231 (fk i9) = some (.inl (cy 0, 4, .inl (fc i9))) := fun i9 h9 => k235 _ _ (F276 i9 h9) (z_ne (F276 i9 h9) a228 rfl) (z_ne (F276 i9 h9) a230 rfl)
      have F278 : ∀ i9 : Nat, i9 < nc → f1 (cn i9) = some (.inr (0, [.int (ce i9), .int (cm i9)])) := fun i9 h9 => k4 _ _ (hCn i9 h9) (z_ne (hCn i9 h9) x_fa rfl)
      have F279 : ∀ i9 : Nat, i9 < nc → f7 (cn i9) = some (.inr (0, [.int (ce i9), .int (cm i9)])) := fun i9 h9 => k9 _ _ (F278 i9 h9) 
      have F280 : ∀ i9 : Nat, i9 < nc → f231 (cn i9) = some (.inr (0, [.int (ce i9), .int (cm i9)])) := fun i9 h9 => k235 _ _ (F279 i9 h9) (z_ne (F279 i9 h9) a228 rfl) (z_ne (F279 i9 h9) a230 rfl)
      have F281 : ∀ i9 : Nat, i9 < 4 → f1 (ea i9) = some (.inr (1, [.ref (ma i9), .int (nI (sq i9))])) := fun i9 h9 => k4 _ _ (hEa i9 h9) (z_ne (hEa i9 h9) x_fa rfl)
      have F282 : ∀ i9 : Nat, i9 < 4 → f7 (ea i9) = some (.inr (1, [.ref (ma i9), .int (nI (sq i9))])) := fun i9 h9 => k9 _ _ (F281 i9 h9) 
      have F283 : ∀ i9 : Nat, i9 < 4 → f231 (ea i9) = some (.inr (1, [.ref (ma i9), .int (nI (sq i9))])) := fun i9 h9 => k235 _ _ (F282 i9 h9) (z_ne (F282 i9 h9) a228 rfl) (z_ne (F282 i9 h9) a230 rfl)
      have F284 : ∀ i9 : Nat, i9 < 4 → f1 (ma i9) = some (.inl (cy 0, 60, .inl (mb i9))) := fun i9 h9 => k4 _ _ (hMa i9 h9) (z_ne (hMa i9 h9) x_fa rfl)
      have F285 : ∀ i9 : Nat, i9 < 4 → f7 (ma i9) = some (.inl (cy 0, 60, .inl (mb i9))) := fun i9 h9 => k9 _ _ (F284 i9 h9) 
      have F286 : ∀ i9 : Nat, i9 < 4 → f231 (ma i9) = some (.inl (cy 0, 60, .inl (mb i9))) := fun i9 h9 => k235 _ _ (F285 i9 h9) (z_ne (F285 i9 h9) a228 rfl) (z_ne (F285 i9 h9) a230 rfl)
      have hq : q_share nn y = ((-4), 6, 1, 0) := by simp [q_share, h60, hy0, c10, c11]
      exact z_iret C hr rfl hz hS ⟨6, 1, 0, (upd gv 6 (gv 6 + 1)), nl, gu, nn, ga, gr, fg, pt, kd, ln, pp, wg, wd, hs, bf, nf, gf, fq, fk, fz, fc, nc, gc, cn, ce, cm, sq, mb, ks, kk, kv, lk, (by rw [hq]), (by rw [hq]), (by rw [hq]), (by rw [hq]), (by rw [hq]; exact (zEV6 gv).symm), rfl, rfl, (by rw [if_neg (by decide)]), (by rw [if_neg (by decide)]), (by rw [if_neg (by decide)]), (zPP_no (by decide)), (by rw [if_neg (by decide)]), (by rw [if_neg (by decide)]), rfl, rfl, rfl, rfl, rfl, rfl, rfl, rfl, rfl, rfl, rfl, rfl, ⟨a236, a233, a234, a238, a241, a244, a247, a250, a253, a256, a259, a262, a265, F268, F271, F274, F277, F280, F283, F286, hn60, hl12, hf6, hc60, hs40, hga, hgr, hln, hk5, hk4, hfi, hpi, har, hgf, hfz, hgc, hG, hsq, hei, hmi, kne, hca, hcr, hlk⟩⟩ (Nat.le_of_ble_eq_true rfl) (Nat.le_of_ble_eq_true rfl) dX7_share_36
  · have a287 : f1 fi = some (.inr (5, [.ref al, .ref ra, .int (nI nn)])) := k4 _ _ x_fi (z_ne x_fi x_fa rfl)
    refine z_callVi (As := []) C hz hS hA hl (k_X5_isFull_B l D cy f1 fi al ra nn a287 hn60 h60) zyX5_isFull mMX7_79 a287 zl5 rfl rfl (Nat.le_of_ble_eq_true rfl) ⟨Nat.le_of_ble_eq_true rfl, Nat.le_of_ble_eq_true rfl⟩ ⟨Nat.le_of_ble_eq_true rfl, Nat.le_of_ble_eq_true rfl⟩ dX7_share_11 (fun r f288 H locs h289 hz hS => ?_)
    obtain ⟨rfl, k290⟩ := h289
    refine lv_if_eq (tgt := 20) hx hb dX7_share_14 (by decide) (fun c291 => ?_) (fun c291 => ?_)
    · exact absurd c291 (by decide)
    refine lv_bipush (v := (-3)) hx hb dX7_share_17 (by decide) ?_
    have a292 : f288 o = some (.inr (7, [.ref fa, .ref fi, .ref nu, .int (nI nl), .ref fm, .int (nI nf), .ref co, .int (nI nc), .ref en, .ref ke, .long lk])) := k290 _ _ a5 
    have a293 : f288 fa = some (.inr (2, [.int 0, .int (-1), .int 0, .ref ev])) := k290 _ _ a3 
    have a294 : f1 ev = some (.inl (cy 0, 8, .inl gv)) := k4 _ _ x_ev (z_ne x_ev x_fa rfl)
    have a295 : f288 ev = some (.inl (cy 0, 8, .inl gv)) := k290 _ _ a294 
    have a296 : f288 fi = some (.inr (5, [.ref al, .ref ra, .int (nI nn)])) := k290 _ _ a287 
    have a297 : f1 al = some (.inl (cy 3, 60, .inr (.inr (.inr (.inr ga))))) := k4 _ _ x_al (z_ne x_al x_fa rfl)
    have a298 : f288 al = some (.inl (cy 3, 60, .inr (.inr (.inr (.inr ga))))) := k290 _ _ a297 
    have a299 : f1 ra = some (.inl (cy 3, 60, .inr (.inr (.inr (.inr gr))))) := k4 _ _ x_ra (z_ne x_ra x_fa rfl)
    have a300 : f288 ra = some (.inl (cy 3, 60, .inr (.inr (.inr (.inr gr))))) := k290 _ _ a299 
    have a301 : f1 nu = some (.inl (cy 0, 12, .inl gu)) := k4 _ _ x_nu (z_ne x_nu x_fa rfl)
    have a302 : f288 nu = some (.inl (cy 0, 12, .inl gu)) := k290 _ _ a301 
    have a303 : f1 fm = some (.inl (cy 4, 6, .inr (.inr (.inr (.inr gf))))) := k4 _ _ x_fm (z_ne x_fm x_fa rfl)
    have a304 : f288 fm = some (.inl (cy 4, 6, .inr (.inr (.inr (.inr gf))))) := k290 _ _ a303 
    have a305 : f1 co = some (.inl (cy 5, 60, .inr (.inr (.inr (.inr gc))))) := k4 _ _ x_co (z_ne x_co x_fa rfl)
    have a306 : f288 co = some (.inl (cy 5, 60, .inr (.inr (.inr (.inr gc))))) := k290 _ _ a305 
    have a307 : f1 en = some (.inl (cy 6, 4, .inr (.inr (.inr (.inr ge))))) := k4 _ _ x_en (z_ne x_en x_fa rfl)
    have a308 : f288 en = some (.inl (cy 6, 4, .inr (.inr (.inr (.inr ge))))) := k290 _ _ a307 
    have a309 : f1 ke = some (.inr (6, [.ref kn, .ref vq, .int (nI ks)])) := k4 _ _ x_ke (z_ne x_ke x_fa rfl)
    have a310 : f288 ke = some (.inr (6, [.ref kn, .ref vq, .int (nI ks)])) := k290 _ _ a309 
    have a311 : f1 kn = some (.inl (cy 0, 40, .inl kk)) := k4 _ _ x_kn (z_ne x_kn x_fa rfl)
    have a312 : f288 kn = some (.inl (cy 0, 40, .inl kk)) := k290 _ _ a311 
    have a313 : f1 vq = some (.inl (cy 0, 40, .inl kv)) := k4 _ _ x_vq (z_ne x_vq x_fa rfl)
    have a314 : f288 vq = some (.inl (cy 0, 40, .inl kv)) := k290 _ _ a313 
    have F315 : ∀ i9 : Nat, i9 < nn → f1 (fg i9) = some (.inr (4, [.int (kd i9), .ref (pt i9), .long (wg i9), .int (wd i9), .int (nI i9), .int (hs i9), .int (bf i9)])) := fun i9 h9 => k4 _ _ (hF i9 h9) (z_ne (hF i9 h9) x_fa rfl)
    have F316 : ∀ i9 : Nat, i9 < nn → f288 (fg i9) = some (.inr (4, [.int (kd i9), .ref (pt i9), .long (wg i9), .int (wd i9), .int (nI i9), .int (hs i9), .int (bf i9)])) := fun i9 h9 => k290 _ _ (F315 i9 h9) 
    have F317 : ∀ i9 : Nat, i9 < nn → f1 (pt i9) = some (.inl (cy 1, (ln i9), .inr (.inl (pp i9)))) := fun i9 h9 => k4 _ _ (hP i9 h9) (z_neO (hP i9 h9) x_fa rfl)
    have F318 : ∀ i9 : Nat, i9 < nn → f288 (pt i9) = some (.inl (cy 1, (ln i9), .inr (.inl (pp i9)))) := fun i9 h9 => k290 _ _ (F317 i9 h9) 
    have F319 : ∀ i9 : Nat, i9 < nf → f1 (fq i9) = some (.inr (3, [.ref (fk i9), .int (nI (fz i9))])) := fun i9 h9 => k4 _ _ (hFq i9 h9) (z_ne (hFq i9 h9) x_fa rfl)
    have F320 : ∀ i9 : Nat, i9 < nf → f288 (fq i9) = some (.inr (3, [.ref (fk i9), .int (nI (fz i9))])) := fun i9 h9 => k290 _ _ (F319 i9 h9) 
    have F321 : ∀ i9 : Nat, i9 < nf → f1 (fk i9) = some (.inl (cy 0, 4, .inl (fc i9))) := fun i9 h9 => k4 _ _ (hFk i9 h9) (z_ne (hFk i9 h9) x_fa rfl)
    have F322 : ∀ i9 : Nat, i9 < nf → f288 (fk i9) = some (.inl (cy 0, 4, .inl (fc i9))) := fun i9 h9 => k290 _ _ (F321 i9 h9) 
    have F323 : ∀ i9 : Nat, i9 < nc → f1 (cn i9) = some (.inr (0, [.int (ce i9), .int (cm i9)])) := fun i9 h9 => k4 _ _ (hCn i9 h9) (z_ne (hCn i9 h9) x_fa rfl)
    have F324 : ∀ i9 : Nat, i9 < nc → f288 (cn i9) = some (.inr (0, [.int (ce i9), .int (cm i9)])) := fun i9 h9 => k290 _ _ (F323 i9 h9) 
    have F325 : ∀ i9 : Nat, i9 < 4 → f1 (ea i9) = some (.inr (1, [.ref (ma i9), .int (nI (sq i9))])) := fun i9 h9 => k4 _ _ (hEa i9 h9) (z_ne (hEa i9 h9) x_fa rfl)
    have F326 : ∀ i9 : Nat, i9 < 4 → f288 (ea i9) = some (.inr (1, [.ref (ma i9), .int (nI (sq i9))])) := fun i9 h9 => k290 _ _ (F325 i9 h9) 
    have F327 : ∀ i9 : Nat, i9 < 4 → f1 (ma i9) = some (.inl (cy 0, 60, .inl (mb i9))) := fun i9 h9 => k4 _ _ (hMa i9 h9) (z_ne (hMa i9 h9) x_fa rfl)
    have F328 : ∀ i9 : Nat, i9 < 4 → f288 (ma i9) = some (.inl (cy 0, 60, .inl (mb i9))) := fun i9 h9 => k290 _ _ (F327 i9 h9) 
    have hq : q_share nn y = ((-3), 0, (-1), 0) := by simp [q_share, h60, c291]
    exact z_iret C hr rfl hz hS ⟨0, (-1), 0, gv, nl, gu, nn, ga, gr, fg, pt, kd, ln, pp, wg, wd, hs, bf, nf, gf, fq, fk, fz, fc, nc, gc, cn, ce, cm, sq, mb, ks, kk, kv, lk, (by rw [hq]), (by rw [hq]), (by rw [hq]), (by rw [hq]), (by rw [hq]; exact (zEV0 gv).symm), rfl, rfl, (by rw [if_neg (by decide)]), (by rw [if_neg (by decide)]), (by rw [if_neg (by decide)]), (zPP_no (by decide)), (by rw [if_neg (by decide)]), (by rw [if_neg (by decide)]), rfl, rfl, rfl, rfl, rfl, rfl, rfl, rfl, rfl, rfl, rfl, rfl, ⟨a292, a293, a295, a296, a298, a300, a302, a304, a306, a308, a310, a312, a314, F316, F318, F320, F322, F324, F326, F328, hn60, hl12, hf6, hc60, hs40, hga, hgr, hln, hk5, hk4, hfi, hpi, har, hgf, hfz, hgc, hG, hsq, hei, hmi, kne, hca, hcr, hlk⟩⟩ (Nat.le_of_ble_eq_true rfl) (Nat.le_of_ble_eq_true rfl) dX7_share_19
