abbrev rmX7_cause : Room := { frames := 0, cells := 0, slots := 0, locals := 0 }
set_option maxHeartbeats 4000000 in
set_option maxRecDepth 100000 in
theorem k_X7_cause (l : Launch) (D : va_G) (cy : Nat → ClassId) (f : zM) (o : Nat) (fa : Nat) (fi : Nat) (nu : Nat) (fm : Nat) (co : Nat) (en : Nat) (ke : Nat) (ev : Nat) (al : Nat) (ra : Nat) (kn : Nat) (vq : Nat) (ge : Nat → Option Nat) (ea : Nat → Nat) (ma : Nat → Nat) (u1 : Int32) (u2 : Int32) (u3 : Int32) (gv : Nat → Int32) (nl : Nat) (gu : Nat → Int32) (nn : Nat) (ga : Nat → Option Nat) (gr : Nat → Option Nat) (fg : Nat → Nat) (pt : Nat → Nat) (kd : Nat → Int32) (ln : Nat → Nat) (pp : Nat → Nat → Int64) (wg : Nat → Int64) (wd : Nat → Int32) (hs : Nat → Int32) (bf : Nat → Int32) (nf : Nat) (gf : Nat → Option Nat) (fq : Nat → Nat) (fk : Nat → Nat) (fz : Nat → Nat) (fc : Nat → Nat → Int32) (nc : Nat) (gc : Nat → Option Nat) (cn : Nat → Nat) (ce : Nat → Int32) (cm : Nat → Int32) (sq : Nat → Nat) (mb : Nat → Nat → Int32) (ks : Nat) (kk : Nat → Int32) (kv : Nat → Int32) (lk : Int64) (x : Int32)    (hI : zIX cy f o fa fi nu fm co en ke ev al ra kn vq ge ea ma u1 u2 u3 gv nl gu nn ga gr fg pt kd ln pp wg wd hs bf nf gf fq fk fz fc nc gc cn ce cm sq mb ks kk kv lk) : zCi l D cy yX7_cause cX7_cause 2 (Option.some Jvm.ClassFile.FieldType.int) rmX7_cause [.ref o, .int x] f (fun (r : Int32) (f1 : zM) => ∃ (u11 : Int32) (u21 : Int32) (u31 : Int32) (gv1 : Nat → Int32) (nl1 : Nat) (gu1 : Nat → Int32) (nn1 : Nat) (ga1 : Nat → Option Nat) (gr1 : Nat → Option Nat) (fg1 : Nat → Nat) (pt1 : Nat → Nat) (kd1 : Nat → Int32) (ln1 : Nat → Nat) (pp1 : Nat → Nat → Int64) (wg1 : Nat → Int64) (wd1 : Nat → Int32) (hs1 : Nat → Int32) (bf1 : Nat → Int32) (nf1 : Nat) (gf1 : Nat → Option Nat) (fq1 : Nat → Nat) (fk1 : Nat → Nat) (fz1 : Nat → Nat) (fc1 : Nat → Nat → Int32) (nc1 : Nat) (gc1 : Nat → Option Nat) (cn1 : Nat → Nat) (ce1 : Nat → Int32) (cm1 : Nat → Int32) (sq1 : Nat → Nat) (mb1 : Nat → Nat → Int32) (ks1 : Nat) (kk1 : Nat → Int32) (kv1 : Nat → Int32) (lk1 : Int64), r = (if x = 0 then u1 else if x = 1 then u2 else if x = 2 then u3 else (-2)) ∧ (u11 = u1) ∧ (u21 = u2) ∧ (u31 = u3) ∧ (gv1 = gv) ∧ (nl1 = nl) ∧ (gu1 = gu) ∧ (nn1 = nn) ∧ (kd1 = kd) ∧ (ln1 = ln) ∧ (pp1 = pp) ∧ (wd1 = wd) ∧ (hs1 = hs) ∧ (nf1 = nf) ∧ (fz1 = fz) ∧ (fc1 = fc) ∧ (nc1 = nc) ∧ (ce1 = ce) ∧ (cm1 = cm) ∧ (sq1 = sq) ∧ (mb1 = mb) ∧ (ks1 = ks) ∧ (kk1 = kk) ∧ (kv1 = kv) ∧ (lk1 = lk) ∧ (wg1 = wg) ∧ zIX cy f1 o fa fi nu fm co en ke ev al ra kn vq ge ea ma u11 u21 u31 gv1 nl1 gu1 nn1 ga1 gr1 fg1 pt1 kd1 ln1 pp1 wg1 wd1 hs1 bf1 nf1 gf1 fq1 fk1 fz1 fc1 nc1 gc1 cn1 ce1 cm1 sq1 mb1 ks1 kk1 kv1 lk1) := by
  intro sz
  refine z_body (by decide +kernel) (Nat.le_of_ble_eq_true rfl) ?_
  intro p e s m below meth c ls C hr hin hsz hz hl
  subst hsz
  have hx := C.1
  have hb := C.2.1
  have hA : ∀ q, s.heap.size ≤ q → zA f s.heap.size q := fun q h => Or.inr h
  have hS : va_S (zA f s.heap.size) s.heap s.heap [] := va_S.rf
  have hl : lv_has ls 2 [(0, .ref o), (1, .int x)] := hl
  obtain ⟨x_o, x_fa, x_ev, x_fi, x_al, x_ra, x_nu, x_fm, x_co, x_en, x_ke, x_kn, x_vq, hF, hP, hFq, hFk, hCn, hEa, hMa, hn60, hl12, hf6, hc60, hs40, hga, hgr, hln, hk5, hk4, hfi, hpi, har, hgf, hfz, hgc, hG, hsq, hei, hmi, kne, hca, hcr, hlk⟩ := id hI
  refine lv_iload_n hx hb dX7_cause_0 rfl (lv_at hl 1 rfl) ?_
  by_cases c1_0 : x = 0
  · refine lv_tableIn (off := 27) (tgt := 28) hx hb dX7_cause_1 (by rw [c1_0]; decide) (by rw [c1_0]; decide) (by rw [c1_0]; decide) (by decide) ?_
    refine lv_aload_n hx hb dX7_cause_28 rfl (lv_at hl 0 rfl) ?_
    refine z_get (v := .ref fa) C hz x_o zl7 mFX7_10 (by decide) rfl dX7_cause_29 ?_
    refine z_getN (v := .int u1) C hz x_fa zl2 mFNX7_67 (by decide) rfl dX7_cause_32 ?_
    exact z_iret C hr rfl hz hS ⟨u1, u2, u3, gv, nl, gu, nn, ga, gr, fg, pt, kd, ln, pp, wg, wd, hs, bf, nf, gf, fq, fk, fz, fc, nc, gc, cn, ce, cm, sq, mb, ks, kk, kv, lk, (by simp [c1_0]), rfl, rfl, rfl, rfl, rfl, rfl, rfl, rfl, rfl, rfl, rfl, rfl, rfl, rfl, rfl, rfl, rfl, rfl, rfl, rfl, rfl, rfl, rfl, rfl, rfl, ⟨x_o, x_fa, x_ev, x_fi, x_al, x_ra, x_nu, x_fm, x_co, x_en, x_ke, x_kn, x_vq, hF, hP, hFq, hFk, hCn, hEa, hMa, hn60, hl12, hf6, hc60, hs40, hga, hgr, hln, hk5, hk4, hfi, hpi, har, hgf, hfz, hgc, hG, hsq, hei, hmi, kne, hca, hcr, hlk⟩⟩ (Nat.le_of_ble_eq_true rfl) (Nat.le_of_ble_eq_true rfl) dX7_cause_35
  by_cases c1_1 : x = 1
  · refine lv_tableIn (off := 35) (tgt := 36) hx hb dX7_cause_1 (by rw [c1_1]; decide) (by rw [c1_1]; decide) (by rw [c1_1]; decide) (by decide) ?_
    refine lv_aload_n hx hb dX7_cause_36 rfl (lv_at hl 0 rfl) ?_
    refine z_get (v := .ref fa) C hz x_o zl7 mFX7_10 (by decide) rfl dX7_cause_37 ?_
    refine z_getN (v := .int u2) C hz x_fa zl2 mFNX7_70 (by decide) rfl dX7_cause_40 ?_
    exact z_iret C hr rfl hz hS ⟨u1, u2, u3, gv, nl, gu, nn, ga, gr, fg, pt, kd, ln, pp, wg, wd, hs, bf, nf, gf, fq, fk, fz, fc, nc, gc, cn, ce, cm, sq, mb, ks, kk, kv, lk, (by simp [c1_1, c1_0]), rfl, rfl, rfl, rfl, rfl, rfl, rfl, rfl, rfl, rfl, rfl, rfl, rfl, rfl, rfl, rfl, rfl, rfl, rfl, rfl, rfl, rfl, rfl, rfl, rfl, ⟨x_o, x_fa, x_ev, x_fi, x_al, x_ra, x_nu, x_fm, x_co, x_en, x_ke, x_kn, x_vq, hF, hP, hFq, hFk, hCn, hEa, hMa, hn60, hl12, hf6, hc60, hs40, hga, hgr, hln, hk5, hk4, hfi, hpi, har, hgf, hfz, hgc, hG, hsq, hei, hmi, kne, hca, hcr, hlk⟩⟩ (Nat.le_of_ble_eq_true rfl) (Nat.le_of_ble_eq_true rfl) dX7_cause_43
  by_cases c1_2 : x = 2
  · refine lv_tableIn (off := 43) (tgt := 44) hx hb dX7_cause_1 (by rw [c1_2]; decide) (by rw [c1_2]; decide) (by rw [c1_2]; decide) (by decide) ?_
    refine lv_aload_n hx hb dX7_cause_44 rfl (lv_at hl 0 rfl) ?_
    refine z_get (v := .ref fa) C hz x_o zl7 mFX7_10 (by decide) rfl dX7_cause_45 ?_
    refine z_getN (v := .int u3) C hz x_fa zl2 mFNX7_73 (by decide) rfl dX7_cause_48 ?_
    exact z_iret C hr rfl hz hS ⟨u1, u2, u3, gv, nl, gu, nn, ga, gr, fg, pt, kd, ln, pp, wg, wd, hs, bf, nf, gf, fq, fk, fz, fc, nc, gc, cn, ce, cm, sq, mb, ks, kk, kv, lk, (by simp [c1_2, c1_0, c1_1]), rfl, rfl, rfl, rfl, rfl, rfl, rfl, rfl, rfl, rfl, rfl, rfl, rfl, rfl, rfl, rfl, rfl, rfl, rfl, rfl, rfl, rfl, rfl, rfl, rfl, ⟨x_o, x_fa, x_ev, x_fi, x_al, x_ra, x_nu, x_fm, x_co, x_en, x_ke, x_kn, x_vq, hF, hP, hFq, hFk, hCn, hEa, hMa, hn60, hl12, hf6, hc60, hs40, hga, hgr, hln, hk5, hk4, hfi, hpi, har, hgf, hfz, hgc, hG, hsq, hei, hmi, kne, hca, hcr, hlk⟩⟩ (Nat.le_of_ble_eq_true rfl) (Nat.le_of_ble_eq_true rfl) dX7_cause_51
  refine lv_tableOut (tgt := 52) hx hb dX7_cause_1 (by have t0 := lv_neT c1_0 (a := 0) (by decide); have t1 := lv_neT c1_1 (a := 1) (by decide); have t2 := lv_neT c1_2 (a := 2) (by decide);  omega) (by decide) ?_
  refine lv_bipush (v := (-2)) hx hb dX7_cause_52 (by decide) ?_
  exact z_iret C hr rfl hz hS ⟨u1, u2, u3, gv, nl, gu, nn, ga, gr, fg, pt, kd, ln, pp, wg, wd, hs, bf, nf, gf, fq, fk, fz, fc, nc, gc, cn, ce, cm, sq, mb, ks, kk, kv, lk, (by simp [c1_0, c1_1, c1_2]), rfl, rfl, rfl, rfl, rfl, rfl, rfl, rfl, rfl, rfl, rfl, rfl, rfl, rfl, rfl, rfl, rfl, rfl, rfl, rfl, rfl, rfl, rfl, rfl, rfl, ⟨x_o, x_fa, x_ev, x_fi, x_al, x_ra, x_nu, x_fm, x_co, x_en, x_ke, x_kn, x_vq, hF, hP, hFq, hFk, hCn, hEa, hMa, hn60, hl12, hf6, hc60, hs40, hga, hgr, hln, hk5, hk4, hfi, hpi, har, hgf, hfz, hgc, hG, hsq, hei, hmi, kne, hca, hcr, hlk⟩⟩ (Nat.le_of_ble_eq_true rfl) (Nat.le_of_ble_eq_true rfl) dX7_cause_54
abbrev rmX7_lay : Room := { frames := 0, cells := 0, slots := 0, locals := 0 }
set_option maxHeartbeats 4000000 in
set_option maxRecDepth 100000 in
theorem k_X7_lay (l : Launch) (D : va_G) (cy : Nat → ClassId) (f : zM) (o : Nat) (fa : Nat) (fi : Nat) (nu : Nat) (fm : Nat) (co : Nat) (en : Nat) (ke : Nat) (ev : Nat) (al : Nat) (ra : Nat) (kn : Nat) (vq : Nat) (ge : Nat → Option Nat) (ea : Nat → Nat) (ma : Nat → Nat) (u1 : Int32) (u2 : Int32) (u3 : Int32) (gv : Nat → Int32) (nl : Nat) (gu : Nat → Int32) (nn : Nat) (ga : Nat → Option Nat) (gr : Nat → Option Nat) (fg : Nat → Nat) (pt : Nat → Nat) (kd : Nat → Int32) (ln : Nat → Nat) (pp : Nat → Nat → Int64) (wg : Nat → Int64) (wd : Nat → Int32) (hs : Nat → Int32) (bf : Nat → Int32) (nf : Nat) (gf : Nat → Option Nat) (fq : Nat → Nat) (fk : Nat → Nat) (fz : Nat → Nat) (fc : Nat → Nat → Int32) (nc : Nat) (gc : Nat → Option Nat) (cn : Nat → Nat) (ce : Nat → Int32) (cm : Nat → Int32) (sq : Nat → Nat) (mb : Nat → Nat → Int32) (ks : Nat) (kk : Nat → Int32) (kv : Nat → Int32) (lk : Int64) (x : Int32)    (hI : zIX cy f o fa fi nu fm co en ke ev al ra kn vq ge ea ma u1 u2 u3 gv nl gu nn ga gr fg pt kd ln pp wg wd hs bf nf gf fq fk fz fc nc gc cn ce cm sq mb ks kk kv lk) : zCi l D cy yX7_lay cX7_lay 2 (Option.some Jvm.ClassFile.FieldType.int) rmX7_lay [.ref o, .int x] f (fun (r : Int32) (f1 : zM) => ∃ (u11 : Int32) (u21 : Int32) (u31 : Int32) (gv1 : Nat → Int32) (nl1 : Nat) (gu1 : Nat → Int32) (nn1 : Nat) (ga1 : Nat → Option Nat) (gr1 : Nat → Option Nat) (fg1 : Nat → Nat) (pt1 : Nat → Nat) (kd1 : Nat → Int32) (ln1 : Nat → Nat) (pp1 : Nat → Nat → Int64) (wg1 : Nat → Int64) (wd1 : Nat → Int32) (hs1 : Nat → Int32) (bf1 : Nat → Int32) (nf1 : Nat) (gf1 : Nat → Option Nat) (fq1 : Nat → Nat) (fk1 : Nat → Nat) (fz1 : Nat → Nat) (fc1 : Nat → Nat → Int32) (nc1 : Nat) (gc1 : Nat → Option Nat) (cn1 : Nat → Nat) (ce1 : Nat → Int32) (cm1 : Nat → Int32) (sq1 : Nat → Nat) (mb1 : Nat → Nat → Int32) (ks1 : Nat) (kk1 : Nat → Int32) (kv1 : Nat → Int32) (lk1 : Int64), r = (if nl < 12 then nI (nl + 1) else (-3)) ∧ (u11 = u1) ∧ (u21 = u2) ∧ (u31 = u3) ∧ (gv1 = gv) ∧ (nl1 = if nl < 12 then nl + 1 else nl) ∧ (gu1 = if nl < 12 then upd gu nl x else gu) ∧ (nn1 = nn) ∧ (kd1 = kd) ∧ (ln1 = ln) ∧ (pp1 = pp) ∧ (wd1 = wd) ∧ (hs1 = hs) ∧ (nf1 = nf) ∧ (fz1 = fz) ∧ (fc1 = fc) ∧ (nc1 = nc) ∧ (ce1 = ce) ∧ (cm1 = cm) ∧ (sq1 = sq) ∧ (mb1 = mb) ∧ (ks1 = ks) ∧ (kk1 = kk) ∧ (kv1 = kv) ∧ (lk1 = lk) ∧ (wg1 = wg) ∧ zIX cy f1 o fa fi nu fm co en ke ev al ra kn vq ge ea ma u11 u21 u31 gv1 nl1 gu1 nn1 ga1 gr1 fg1 pt1 kd1 ln1 pp1 wg1 wd1 hs1 bf1 nf1 gf1 fq1 fk1 fz1 fc1 nc1 gc1 cn1 ce1 cm1 sq1 mb1 ks1 kk1 kv1 lk1) := by
  intro sz
  refine z_body (by decide +kernel) (Nat.le_of_ble_eq_true rfl) ?_
  intro p e s m below meth c ls C hr hin hsz hz hl
  subst hsz
  have hx := C.1
  have hb := C.2.1
  have hA : ∀ q, s.heap.size ≤ q → zA f s.heap.size q := fun q h => Or.inr h
  have hS : va_S (zA f s.heap.size) s.heap s.heap [] := va_S.rf
  have hl : lv_has ls 2 [(0, .ref o), (1, .int x)] := hl
  obtain ⟨x_o, x_fa, x_ev, x_fi, x_al, x_ra, x_nu, x_fm, x_co, x_en, x_ke, x_kn, x_vq, hF, hP, hFq, hFk, hCn, hEa, hMa, hn60, hl12, hf6, hc60, hs40, hga, hgr, hln, hk5, hk4, hfi, hpi, har, hgf, hfz, hgc, hG, hsq, hei, hmi, kne, hca, hcr, hlk⟩ := id hI
  refine lv_aload_n hx hb dX7_lay_0 rfl (lv_at hl 0 rfl) ?_
  refine z_get (v := .int (nI nl)) C hz x_o zl7 mFX7_27 (by decide) rfl dX7_lay_1 ?_
  refine lv_bipush (v := 12) hx hb dX7_lay_4 (by decide) ?_
  refine lv_icmp_lt (tgt := 12) hx hb dX7_lay_6 (by decide) (fun c1 => ?_) (fun c1 => ?_)
  · replace c1 : (nl < 12) := (nI_ltI (a := nl) (b := 12) (by omega) (by omega)).mp c1
    refine lv_aload_n hx hb dX7_lay_12 rfl (lv_at hl 0 rfl) ?_
    refine z_get (v := .ref nu) C hz x_o zl7 mFX7_23 (by decide) rfl dX7_lay_13 ?_
    refine lv_aload_n hx hb dX7_lay_16 rfl (lv_at hl 0 rfl) ?_
    refine z_get (v := .int (nI nl)) C hz x_o zl7 mFX7_27 (by decide) rfl dX7_lay_17 ?_
    refine lv_iload_n hx hb dX7_lay_20 rfl (lv_at hl 1 rfl) ?_
    refine z_iast nl C hz hS x_nu rfl (by omega) (by omega) dX7_lay_21 (fun H locs f2 a3 k4 hz hS => ?_)
    refine lv_aload_n hx hb dX7_lay_22 rfl (lv_at hl 0 rfl) ?_
    refine lv_dup hx hb dX7_lay_23 rfl ?_
    have a5 : f2 o = some (.inr (7, [.ref fa, .ref fi, .ref nu, .int (nI nl), .ref fm, .int (nI nf), .ref co, .int (nI nc), .ref en, .ref ke, .long lk])) := (k4 _ (z_ne x_o x_nu rfl)).trans x_o
    refine z_get (v := .int (nI nl)) C hz a5 zl7 mFX7_27 (by decide) rfl dX7_lay_24 ?_
    refine lv_iconst (v := 1) hx hb dX7_lay_27 (by decide) ?_
    refine lv_iadd hx hb dX7_lay_28 ?_
    refine lv_topi (fun y6 e7 => ?_)
    obtain rfl : y6 = nI (nl + 1) := e7.trans (nI_1 nl)
    refine z_put (fs' := [.ref fa, .ref fi, .ref nu, .int (nI (nl + 1)), .ref fm, .int (nI nf), .ref co, .int (nI nc), .ref en, .ref ke, .long lk]) C hz hS a5 zl7 mFX7_27 (by decide) rfl rfl rfl (Nat.le_of_ble_eq_true rfl) rfl dX7_lay_29 (fun H locs f8 a9 k10 hz hS => ?_)
    refine lv_aload_n hx hb dX7_lay_32 rfl (lv_at hl 0 rfl) ?_
    refine z_get (v := .int (nI (nl + 1))) C hz a9 zl7 mFX7_27 (by decide) rfl dX7_lay_33 ?_
    have a11 : f2 fa = some (.inr (2, [.int u1, .int u2, .int u3, .ref ev])) := (k4 _ (z_ne x_fa x_nu rfl)).trans x_fa
    have a12 : f8 fa = some (.inr (2, [.int u1, .int u2, .int u3, .ref ev])) := (k10 _ (z_ne a11 a5 rfl)).trans a11
    have a13 : f2 ev = some (.inl (cy 0, 8, .inl gv)) := (k4 _ (z_ne x_ev x_nu rfl)).trans x_ev
    have a14 : f8 ev = some (.inl (cy 0, 8, .inl gv)) := (k10 _ (z_ne a13 a5 rfl)).trans a13
    have a15 : f2 fi = some (.inr (5, [.ref al, .ref ra, .int (nI nn)])) := (k4 _ (z_ne x_fi x_nu rfl)).trans x_fi
    have a16 : f8 fi = some (.inr (5, [.ref al, .ref ra, .int (nI nn)])) := (k10 _ (z_ne a15 a5 rfl)).trans a15
    have a17 : f2 al = some (.inl (cy 3, 60, .inr (.inr (.inr (.inr ga))))) := (k4 _ (z_ne x_al x_nu rfl)).trans x_al
    have a18 : f8 al = some (.inl (cy 3, 60, .inr (.inr (.inr (.inr ga))))) := (k10 _ (z_ne a17 a5 rfl)).trans a17
    have a19 : f2 ra = some (.inl (cy 3, 60, .inr (.inr (.inr (.inr gr))))) := (k4 _ (z_ne x_ra x_nu rfl)).trans x_ra
    have a20 : f8 ra = some (.inl (cy 3, 60, .inr (.inr (.inr (.inr gr))))) := (k10 _ (z_ne a19 a5 rfl)).trans a19
    have a21 : f8 nu = some (.inl (cy 0, 12, .inl (upd gu nl x))) := (k10 _ (z_ne a3 a5 rfl)).trans a3
    have a22 : f2 fm = some (.inl (cy 4, 6, .inr (.inr (.inr (.inr gf))))) := (k4 _ (z_ne x_fm x_nu rfl)).trans x_fm
    have a23 : f8 fm = some (.inl (cy 4, 6, .inr (.inr (.inr (.inr gf))))) := (k10 _ (z_ne a22 a5 rfl)).trans a22
    have a24 : f2 co = some (.inl (cy 5, 60, .inr (.inr (.inr (.inr gc))))) := (k4 _ (z_ne x_co x_nu rfl)).trans x_co
    have a25 : f8 co = some (.inl (cy 5, 60, .inr (.inr (.inr (.inr gc))))) := (k10 _ (z_ne a24 a5 rfl)).trans a24
    have a26 : f2 en = some (.inl (cy 6, 4, .inr (.inr (.inr (.inr ge))))) := (k4 _ (z_ne x_en x_nu rfl)).trans x_en
    have a27 : f8 en = some (.inl (cy 6, 4, .inr (.inr (.inr (.inr ge))))) := (k10 _ (z_ne a26 a5 rfl)).trans a26
    have a28 : f2 ke = some (.inr (6, [.ref kn, .ref vq, .int (nI ks)])) := (k4 _ (z_ne x_ke x_nu rfl)).trans x_ke
    have a29 : f8 ke = some (.inr (6, [.ref kn, .ref vq, .int (nI ks)])) := (k10 _ (z_ne a28 a5 rfl)).trans a28
    have a30 : f2 kn = some (.inl (cy 0, 40, .inl kk)) := (k4 _ (z_ne x_kn x_nu rfl)).trans x_kn
    have a31 : f8 kn = some (.inl (cy 0, 40, .inl kk)) := (k10 _ (z_ne a30 a5 rfl)).trans a30
    have a32 : f2 vq = some (.inl (cy 0, 40, .inl kv)) := (k4 _ (z_ne x_vq x_nu rfl)).trans x_vq
    have a33 : f8 vq = some (.inl (cy 0, 40, .inl kv)) := (k10 _ (z_ne a32 a5 rfl)).trans a32
    have F34 : ∀ i9 : Nat, i9 < nn → f2 (fg i9) = some (.inr (4, [.int (kd i9), .ref (pt i9), .long (wg i9), .int (wd i9), .int (nI i9), .int (hs i9), .int (bf i9)])) := fun i9 h9 => (k4 _ (z_ne (hF i9 h9) x_nu rfl)).trans (hF i9 h9)
    have F35 : ∀ i9 : Nat, i9 < nn → f8 (fg i9) = some (.inr (4, [.int (kd i9), .ref (pt i9), .long (wg i9), .int (wd i9), .int (nI i9), .int (hs i9), .int (bf i9)])) := fun i9 h9 => (k10 _ (z_ne (F34 i9 h9) a5 rfl)).trans (F34 i9 h9)
    have F36 : ∀ i9 : Nat, i9 < nn → f2 (pt i9) = some (.inl (cy 1, (ln i9), .inr (.inl (pp i9)))) := fun i9 h9 => (k4 _ (z_neA (hP i9 h9) x_nu rfl)).trans (hP i9 h9)
    have F37 : ∀ i9 : Nat, i9 < nn → f8 (pt i9) = some (.inl (cy 1, (ln i9), .inr (.inl (pp i9)))) := fun i9 h9 => (k10 _ (z_neO (F36 i9 h9) a5 rfl)).trans (F36 i9 h9)
    have F38 : ∀ i9 : Nat, i9 < nf → f2 (fq i9) = some (.inr (3, [.ref (fk i9), .int (nI (fz i9))])) := fun i9 h9 => (k4 _ (z_ne (hFq i9 h9) x_nu rfl)).trans (hFq i9 h9)
    have F39 : ∀ i9 : Nat, i9 < nf → f8 (fq i9) = some (.inr (3, [.ref (fk i9), .int (nI (fz i9))])) := fun i9 h9 => (k10 _ (z_ne (F38 i9 h9) a5 rfl)).trans (F38 i9 h9)
    have F40 : ∀ i9 : Nat, i9 < nf → f2 (fk i9) = some (.inl (cy 0, 4, .inl (fc i9))) := fun i9 h9 => (k4 _ (z_ne (hFk i9 h9) x_nu rfl)).trans (hFk i9 h9)
    have F41 : ∀ i9 : Nat, i9 < nf → f8 (fk i9) = some (.inl (cy 0, 4, .inl (fc i9))) := fun i9 h9 => (k10 _ (z_ne (F40 i9 h9) a5 rfl)).trans (F40 i9 h9)
    have F42 : ∀ i9 : Nat, i9 < nc → f2 (cn i9) = some (.inr (0, [.int (ce i9), .int (cm i9)])) := fun i9 h9 => (k4 _ (z_ne (hCn i9 h9) x_nu rfl)).trans (hCn i9 h9)
    have F43 : ∀ i9 : Nat, i9 < nc → f8 (cn i9) = some (.inr (0, [.int (ce i9), .int (cm i9)])) := fun i9 h9 => (k10 _ (z_ne (F42 i9 h9) a5 rfl)).trans (F42 i9 h9)
    have F44 : ∀ i9 : Nat, i9 < 4 → f2 (ea i9) = some (.inr (1, [.ref (ma i9), .int (nI (sq i9))])) := fun i9 h9 => (k4 _ (z_ne (hEa i9 h9) x_nu rfl)).trans (hEa i9 h9)
    have F45 : ∀ i9 : Nat, i9 < 4 → f8 (ea i9) = some (.inr (1, [.ref (ma i9), .int (nI (sq i9))])) := fun i9 h9 => (k10 _ (z_ne (F44 i9 h9) a5 rfl)).trans (F44 i9 h9)
    have F46 : ∀ i9 : Nat, i9 < 4 → f2 (ma i9) = some (.inl (cy 0, 60, .inl (mb i9))) := fun i9 h9 => (k4 _ (z_ne (hMa i9 h9) x_nu rfl)).trans (hMa i9 h9)
    have F47 : ∀ i9 : Nat, i9 < 4 → f8 (ma i9) = some (.inl (cy 0, 60, .inl (mb i9))) := fun i9 h9 => (k10 _ (z_ne (F46 i9 h9) a5 rfl)).trans (F46 i9 h9)
    exact z_iret C hr rfl hz hS ⟨u1, u2, u3, gv, (nl + 1), (upd gu nl x), nn, ga, gr, fg, pt, kd, ln, pp, wg, wd, hs, bf, nf, gf, fq, fk, fz, fc, nc, gc, cn, ce, cm, sq, mb, ks, kk, kv, lk, (by first | simp [c1] | simp_all), rfl, rfl, rfl, rfl, (by first | simp [c1] | simp_all), (by first | simp [c1] | simp_all), rfl, rfl, rfl, rfl, rfl, rfl, rfl, rfl, rfl, rfl, rfl, rfl, rfl, rfl, rfl, rfl, rfl, rfl, rfl, ⟨a9, a12, a14, a16, a18, a20, a21, a23, a25, a27, a29, a31, a33, F35, F37, F39, F41, F43, F45, F47, hn60, (by omega), hf6, hc60, hs40, hga, hgr, hln, hk5, hk4, hfi, hpi, har, hgf, hfz, hgc, hG, hsq, hei, hmi, kne, hca, hcr, hlk⟩⟩ (Nat.le_of_ble_eq_true rfl) (Nat.le_of_ble_eq_true rfl) dX7_lay_36
  · replace c1 : ¬ (nl < 12) := fun h => c1 ((nI_ltI (a := nl) (b := 12) (by omega) (by omega)).mpr h)
    refine lv_bipush (v := (-3)) hx hb dX7_lay_9 (by decide) ?_
    exact z_iret C hr rfl hz hS ⟨u1, u2, u3, gv, nl, gu, nn, ga, gr, fg, pt, kd, ln, pp, wg, wd, hs, bf, nf, gf, fq, fk, fz, fc, nc, gc, cn, ce, cm, sq, mb, ks, kk, kv, lk, (by first | simp [c1] | simp_all), rfl, rfl, rfl, rfl, (by first | simp [c1] | simp_all), (by first | simp [c1] | simp_all), rfl, rfl, rfl, rfl, rfl, rfl, rfl, rfl, rfl, rfl, rfl, rfl, rfl, rfl, rfl, rfl, rfl, rfl, rfl, ⟨x_o, x_fa, x_ev, x_fi, x_al, x_ra, x_nu, x_fm, x_co, x_en, x_ke, x_kn, x_vq, hF, hP, hFq, hFk, hCn, hEa, hMa, hn60, hl12, hf6, hc60, hs40, hga, hgr, hln, hk5, hk4, hfi, hpi, har, hgf, hfz, hgc, hG, hsq, hei, hmi, kne, hca, hcr, hlk⟩⟩ (Nat.le_of_ble_eq_true rfl) (Nat.le_of_ble_eq_true rfl) dX7_lay_11
abbrev rmX7_wipe : Room := { frames := 0, cells := 0, slots := 0, locals := 0 }
set_option maxHeartbeats 4000000 in
set_option maxRecDepth 100000 in
theorem k_X7_wipe (l : Launch) (D : va_G) (cy : Nat → ClassId) (f : zM) (o : Nat) (fa : Nat) (fi : Nat) (nu : Nat) (fm : Nat) (co : Nat) (en : Nat) (ke : Nat) (ev : Nat) (al : Nat) (ra : Nat) (kn : Nat) (vq : Nat) (ge : Nat → Option Nat) (ea : Nat → Nat) (ma : Nat → Nat) (u1 : Int32) (u2 : Int32) (u3 : Int32) (gv : Nat → Int32) (nl : Nat) (gu : Nat → Int32) (nn : Nat) (ga : Nat → Option Nat) (gr : Nat → Option Nat) (fg : Nat → Nat) (pt : Nat → Nat) (kd : Nat → Int32) (ln : Nat → Nat) (pp : Nat → Nat → Int64) (wg : Nat → Int64) (wd : Nat → Int32) (hs : Nat → Int32) (bf : Nat → Int32) (nf : Nat) (gf : Nat → Option Nat) (fq : Nat → Nat) (fk : Nat → Nat) (fz : Nat → Nat) (fc : Nat → Nat → Int32) (nc : Nat) (gc : Nat → Option Nat) (cn : Nat → Nat) (ce : Nat → Int32) (cm : Nat → Int32) (sq : Nat → Nat) (mb : Nat → Nat → Int32) (ks : Nat) (kk : Nat → Int32) (kv : Nat → Int32) (lk : Int64)    (hI : zIX cy f o fa fi nu fm co en ke ev al ra kn vq ge ea ma u1 u2 u3 gv nl gu nn ga gr fg pt kd ln pp wg wd hs bf nf gf fq fk fz fc nc gc cn ce cm sq mb ks kk kv lk) : zCi l D cy yX7_wipe cX7_wipe 2 (Option.some Jvm.ClassFile.FieldType.int) rmX7_wipe [.ref o] f (fun (r : Int32) (f1 : zM) => ∃ (u11 : Int32) (u21 : Int32) (u31 : Int32) (gv1 : Nat → Int32) (nl1 : Nat) (gu1 : Nat → Int32) (nn1 : Nat) (ga1 : Nat → Option Nat) (gr1 : Nat → Option Nat) (fg1 : Nat → Nat) (pt1 : Nat → Nat) (kd1 : Nat → Int32) (ln1 : Nat → Nat) (pp1 : Nat → Nat → Int64) (wg1 : Nat → Int64) (wd1 : Nat → Int32) (hs1 : Nat → Int32) (bf1 : Nat → Int32) (nf1 : Nat) (gf1 : Nat → Option Nat) (fq1 : Nat → Nat) (fk1 : Nat → Nat) (fz1 : Nat → Nat) (fc1 : Nat → Nat → Int32) (nc1 : Nat) (gc1 : Nat → Option Nat) (cn1 : Nat → Nat) (ce1 : Nat → Int32) (cm1 : Nat → Int32) (sq1 : Nat → Nat) (mb1 : Nat → Nat → Int32) (ks1 : Nat) (kk1 : Nat → Int32) (kv1 : Nat → Int32) (lk1 : Int64), r = (nI nl) ∧ (u11 = u1) ∧ (u21 = u2) ∧ (u31 = u3) ∧ (gv1 = gv) ∧ (nl1 = 0) ∧ (gu1 = gu) ∧ (nn1 = nn) ∧ (kd1 = kd) ∧ (ln1 = ln) ∧ (pp1 = pp) ∧ (wd1 = wd) ∧ (hs1 = hs) ∧ (nf1 = nf) ∧ (fz1 = fz) ∧ (fc1 = fc) ∧ (nc1 = nc) ∧ (ce1 = ce) ∧ (cm1 = cm) ∧ (sq1 = sq) ∧ (mb1 = mb) ∧ (ks1 = ks) ∧ (kk1 = kk) ∧ (kv1 = kv) ∧ (lk1 = lk) ∧ (wg1 = wg) ∧ zIX cy f1 o fa fi nu fm co en ke ev al ra kn vq ge ea ma u11 u21 u31 gv1 nl1 gu1 nn1 ga1 gr1 fg1 pt1 kd1 ln1 pp1 wg1 wd1 hs1 bf1 nf1 gf1 fq1 fk1 fz1 fc1 nc1 gc1 cn1 ce1 cm1 sq1 mb1 ks1 kk1 kv1 lk1) := by
  intro sz
  refine z_body (by decide +kernel) (Nat.le_of_ble_eq_true rfl) ?_
  intro p e s m below meth c ls C hr hin hsz hz hl
  subst hsz
  have hx := C.1
  have hb := C.2.1
  have hA : ∀ q, s.heap.size ≤ q → zA f s.heap.size q := fun q h => Or.inr h
  have hS : va_S (zA f s.heap.size) s.heap s.heap [] := va_S.rf
  have hl : lv_has ls 2 [(0, .ref o)] := hl
  obtain ⟨x_o, x_fa, x_ev, x_fi, x_al, x_ra, x_nu, x_fm, x_co, x_en, x_ke, x_kn, x_vq, hF, hP, hFq, hFk, hCn, hEa, hMa, hn60, hl12, hf6, hc60, hs40, hga, hgr, hln, hk5, hk4, hfi, hpi, har, hgf, hfz, hgc, hG, hsq, hei, hmi, kne, hca, hcr, hlk⟩ := id hI
  refine lv_aload_n hx hb dX7_wipe_0 rfl (lv_at hl 0 rfl) ?_
  refine z_get (v := .int (nI nl)) C hz x_o zl7 mFX7_27 (by decide) rfl dX7_wipe_1 ?_
  refine lv_istore_n (lv' := [(1, .int (nI nl)), (0, .ref o)]) hx hb dX7_wipe_4 rfl hl (by decide) rfl (fun ls hl => ?_)
  refine lv_aload_n hx hb dX7_wipe_5 rfl (lv_at hl 1 rfl) ?_
  refine lv_iconst (v := 0) hx hb dX7_wipe_6 (by decide) ?_
  refine z_put (fs' := [.ref fa, .ref fi, .ref nu, .int 0, .ref fm, .int (nI nf), .ref co, .int (nI nc), .ref en, .ref ke, .long lk]) C hz hS x_o zl7 mFX7_27 (by decide) rfl rfl rfl (Nat.le_of_ble_eq_true rfl) rfl dX7_wipe_7 (fun H locs f1 a2 k3 hz hS => ?_)
  refine lv_iload_n hx hb dX7_wipe_10 rfl (lv_at hl 0 rfl) ?_
  have a4 : f1 fa = some (.inr (2, [.int u1, .int u2, .int u3, .ref ev])) := (k3 _ (z_ne x_fa x_o rfl)).trans x_fa
  have a5 : f1 ev = some (.inl (cy 0, 8, .inl gv)) := (k3 _ (z_ne x_ev x_o rfl)).trans x_ev
  have a6 : f1 fi = some (.inr (5, [.ref al, .ref ra, .int (nI nn)])) := (k3 _ (z_ne x_fi x_o rfl)).trans x_fi
  have a7 : f1 al = some (.inl (cy 3, 60, .inr (.inr (.inr (.inr ga))))) := (k3 _ (z_ne x_al x_o rfl)).trans x_al
  have a8 : f1 ra = some (.inl (cy 3, 60, .inr (.inr (.inr (.inr gr))))) := (k3 _ (z_ne x_ra x_o rfl)).trans x_ra
  have a9 : f1 nu = some (.inl (cy 0, 12, .inl gu)) := (k3 _ (z_ne x_nu x_o rfl)).trans x_nu
  have a10 : f1 fm = some (.inl (cy 4, 6, .inr (.inr (.inr (.inr gf))))) := (k3 _ (z_ne x_fm x_o rfl)).trans x_fm
  have a11 : f1 co = some (.inl (cy 5, 60, .inr (.inr (.inr (.inr gc))))) := (k3 _ (z_ne x_co x_o rfl)).trans x_co
  have a12 : f1 en = some (.inl (cy 6, 4, .inr (.inr (.inr (.inr ge))))) := (k3 _ (z_ne x_en x_o rfl)).trans x_en
  have a13 : f1 ke = some (.inr (6, [.ref kn, .ref vq, .int (nI ks)])) := (k3 _ (z_ne x_ke x_o rfl)).trans x_ke
  have a14 : f1 kn = some (.inl (cy 0, 40, .inl kk)) := (k3 _ (z_ne x_kn x_o rfl)).trans x_kn
  have a15 : f1 vq = some (.inl (cy 0, 40, .inl kv)) := (k3 _ (z_ne x_vq x_o rfl)).trans x_vq
  have F16 : ∀ i9 : Nat, i9 < nn → f1 (fg i9) = some (.inr (4, [.int (kd i9), .ref (pt i9), .long (wg i9), .int (wd i9), .int (nI i9), .int (hs i9), .int (bf i9)])) := fun i9 h9 => (k3 _ (z_ne (hF i9 h9) x_o rfl)).trans (hF i9 h9)
  have F17 : ∀ i9 : Nat, i9 < nn → f1 (pt i9) = some (.inl (cy 1, (ln i9), .inr (.inl (pp i9)))) := fun i9 h9 => (k3 _ (z_neO (hP i9 h9) x_o rfl)).trans (hP i9 h9)
  have F18 : ∀ i9 : Nat, i9 < nf → f1 (fq i9) = some (.inr (3, [.ref (fk i9), .int (nI (fz i9))])) := fun i9 h9 => (k3 _ (z_ne (hFq i9 h9) x_o rfl)).trans (hFq i9 h9)
  have F19 : ∀ i9 : Nat, i9 < nf → f1 (fk i9) = some (.inl (cy 0, 4, .inl (fc i9))) := fun i9 h9 => (k3 _ (z_ne (hFk i9 h9) x_o rfl)).trans (hFk i9 h9)
  have F20 : ∀ i9 : Nat, i9 < nc → f1 (cn i9) = some (.inr (0, [.int (ce i9), .int (cm i9)])) := fun i9 h9 => (k3 _ (z_ne (hCn i9 h9) x_o rfl)).trans (hCn i9 h9)
  have F21 : ∀ i9 : Nat, i9 < 4 → f1 (ea i9) = some (.inr (1, [.ref (ma i9), .int (nI (sq i9))])) := fun i9 h9 => (k3 _ (z_ne (hEa i9 h9) x_o rfl)).trans (hEa i9 h9)
  have F22 : ∀ i9 : Nat, i9 < 4 → f1 (ma i9) = some (.inl (cy 0, 60, .inl (mb i9))) := fun i9 h9 => (k3 _ (z_ne (hMa i9 h9) x_o rfl)).trans (hMa i9 h9)
  exact z_iret C hr rfl hz hS ⟨u1, u2, u3, gv, 0, gu, nn, ga, gr, fg, pt, kd, ln, pp, wg, wd, hs, bf, nf, gf, fq, fk, fz, fc, nc, gc, cn, ce, cm, sq, mb, ks, kk, kv, lk, rfl, rfl, rfl, rfl, rfl, rfl, rfl, rfl, rfl, rfl, rfl, rfl, rfl, rfl, rfl, rfl, rfl, rfl, rfl, rfl, rfl, rfl, rfl, rfl, rfl, rfl, ⟨a2, a4, a5, a6, a7, a8, a9, a10, a11, a12, a13, a14, a15, F16, F17, F18, F19, F20, F21, F22, hn60, (by omega), hf6, hc60, hs40, hga, hgr, hln, hk5, hk4, hfi, hpi, har, hgf, hfz, hgc, hG, hsq, hei, hmi, kne, hca, hcr, hlk⟩⟩ (Nat.le_of_ble_eq_true rfl) (Nat.le_of_ble_eq_true rfl) dX7_wipe_11
abbrev rmX7_oneNan : Room := { frames := 0, cells := 0, slots := 0, locals := 0 }
set_option maxHeartbeats 4000000 in
set_option maxRecDepth 100000 in
theorem k_X7_oneNan (l : Launch) (D : va_G) (cy : Nat → ClassId) (f : zM) (v : Int64)    : zCl l D cy yX7_oneNan cX7_oneNan 3 (Option.some Jvm.ClassFile.FieldType.long) rmX7_oneNan [.long v] f (fun (r : Int64) (f1 : zM) => r = (zcl v) ∧ (∀ (b : Nat) (e : va_E), f b = some e → f1 b = some e)) := by
  intro sz
  refine z_body (by decide +kernel) (Nat.le_of_ble_eq_true rfl) ?_
  intro p e s m below meth c ls C hr hin hsz hz hl
  subst hsz
  have hx := C.1
  have hb := C.2.1
  have hA : ∀ q, s.heap.size ≤ q → zA f s.heap.size q := fun q h => Or.inr h
  have hS : va_S (zA f s.heap.size) s.heap s.heap [] := va_S.rf
  have hl : lv_has ls 3 [(0, .long v)] := hl
  refine lv_lload_n hx hb dX7_oneNan_0 rfl (lv_at hl 0 rfl) ?_
  refine lv_ldc2 (v := 9223372036854775807) hx hb C.2.2.2.1 (C.2.2.2.2.1 _ mKX7_269) dX7_oneNan_1 ?_
  refine lv_land hx hb dX7_oneNan_4 ?_
  refine lv_ldc2 (v := 9218868437227405312) hx hb C.2.2.2.1 (C.2.2.2.2.1 _ mKX7_271) dX7_oneNan_5 ?_
  refine W.lcmp hx hb dX7_oneNan_8 ?_
  refine lv_if_le (tgt := 16) hx hb dX7_oneNan_9 (by decide) (fun c1 => ?_) (fun c1 => ?_)
  · refine lv_iconst (v := 0) hx hb dX7_oneNan_16 (by decide) ?_
    refine lv_istore_n (lv' := [(2, .int 0), (0, .long v)]) hx hb dX7_oneNan_17 rfl hl (by decide) rfl (fun ls hl => ?_)
    refine lv_iload_n hx hb dX7_oneNan_18 rfl (lv_at hl 0 rfl) ?_
    refine lv_if_eq (tgt := 28) hx hb dX7_oneNan_19 (by decide) (fun c2 => ?_) (fun c2 => ?_)
    rotate_left
    · exact absurd c2 (by decide)
    refine lv_lload_n hx hb dX7_oneNan_28 rfl (lv_at hl 1 rfl) ?_
    exact z_lret C hr hz hS ⟨(by simp [zcl, c1, c2]), (fun b e hb => hb)⟩ (Nat.le_of_ble_eq_true rfl) (Nat.le_of_ble_eq_true rfl) dX7_oneNan_29
  · refine lv_iconst (v := 1) hx hb dX7_oneNan_12 (by decide) ?_
    refine lv_goto (tgt := 17) hx hb dX7_oneNan_13 (by decide) ?_
    refine lv_istore_n (lv' := [(2, .int 1), (0, .long v)]) hx hb dX7_oneNan_17 rfl hl (by decide) rfl (fun ls hl => ?_)
    refine lv_iload_n hx hb dX7_oneNan_18 rfl (lv_at hl 0 rfl) ?_
    refine lv_if_eq (tgt := 28) hx hb dX7_oneNan_19 (by decide) (fun c3 => ?_) (fun c3 => ?_)
    · exact absurd c3 (by decide)
    refine lv_ldc2 (v := 9221120237041090560) hx hb C.2.2.2.1 (C.2.2.2.2.1 _ mKX7_273) dX7_oneNan_22 ?_
    refine lv_goto (tgt := 29) hx hb dX7_oneNan_25 (by decide) ?_
    exact z_lret C hr hz hS ⟨(by simp [zcl, c1, c3]), (fun b e hb => hb)⟩ (Nat.le_of_ble_eq_true rfl) (Nat.le_of_ble_eq_true rfl) dX7_oneNan_29
abbrev rmX7_lengthOf : Room := { frames := 0, cells := 0, slots := 0, locals := 0 }
set_option maxHeartbeats 4000000 in
set_option maxRecDepth 100000 in
theorem k_X7_lengthOf (l : Launch) (D : va_G) (cy : Nat → ClassId) (f : zM) (x : Int32) (y : Int32)    : zCl l D cy yX7_lengthOf cX7_lengthOf 2 (Option.some Jvm.ClassFile.FieldType.long) rmX7_lengthOf [.int x, .int y] f (fun (r : Int64) (f1 : zM) => r = (y.toInt64 - x.toInt64 + 1) ∧ (∀ (b : Nat) (e : va_E), f b = some e → f1 b = some e)) := by
  intro sz
  refine z_body (by decide +kernel) (Nat.le_of_ble_eq_true rfl) ?_
  intro p e s m below meth c ls C hr hin hsz hz hl
  subst hsz
  have hx := C.1
  have hb := C.2.1
  have hA : ∀ q, s.heap.size ≤ q → zA f s.heap.size q := fun q h => Or.inr h
  have hS : va_S (zA f s.heap.size) s.heap s.heap [] := va_S.rf
  have hl : lv_has ls 2 [(0, .int x), (1, .int y)] := hl
  refine lv_iload_n hx hb dX7_lengthOf_0 rfl (lv_at hl 1 rfl) ?_
  refine lv_i2l (v := y.toInt64) hx hb dX7_lengthOf_1 rfl ?_
  refine lv_iload_n hx hb dX7_lengthOf_2 rfl (lv_at hl 0 rfl) ?_
  refine lv_i2l (v := x.toInt64) hx hb dX7_lengthOf_3 rfl ?_
  refine lv_lsub hx hb dX7_lengthOf_4 ?_
  refine lv_lconst (v := 1) hx hb dX7_lengthOf_5 (by decide) ?_
  refine lv_ladd hx hb dX7_lengthOf_6 ?_
  exact z_lret C hr hz hS ⟨rfl, (fun b e hb => hb)⟩ (Nat.le_of_ble_eq_true rfl) (Nat.le_of_ble_eq_true rfl) dX7_lengthOf_7
abbrev rmX7_point : Room := { frames := 6, cells := 2, slots := 9, locals := 140 }
set_option maxHeartbeats 4000000 in
set_option maxRecDepth 100000 in
theorem k_X7_point (l : Launch) (D : va_G) (cy : Nat → ClassId) (f : zM) (o : Nat) (fa : Nat) (fi : Nat) (nu : Nat) (fm : Nat) (co : Nat) (en : Nat) (ke : Nat) (ev : Nat) (al : Nat) (ra : Nat) (kn : Nat) (vq : Nat) (ge : Nat → Option Nat) (ea : Nat → Nat) (ma : Nat → Nat) (u1 : Int32) (u2 : Int32) (u3 : Int32) (gv : Nat → Int32) (nl : Nat) (gu : Nat → Int32) (nn : Nat) (ga : Nat → Option Nat) (gr : Nat → Option Nat) (fg : Nat → Nat) (pt : Nat → Nat) (kd : Nat → Int32) (ln : Nat → Nat) (pp : Nat → Nat → Int64) (wg : Nat → Int64) (wd : Nat → Int32) (hs : Nat → Int32) (bf : Nat → Int32) (nf : Nat) (gf : Nat → Option Nat) (fq : Nat → Nat) (fk : Nat → Nat) (fz : Nat → Nat) (fc : Nat → Nat → Int32) (nc : Nat) (gc : Nat → Option Nat) (cn : Nat → Nat) (ce : Nat → Int32) (cm : Nat → Int32) (sq : Nat → Nat) (mb : Nat → Nat → Int32) (ks : Nat) (kk : Nat → Int32) (kv : Nat → Int32) (lk : Int64) (x : Int64) (y : Int64)    (hI : zIX cy f o fa fi nu fm co en ke ev al ra kn vq ge ea ma u1 u2 u3 gv nl gu nn ga gr fg pt kd ln pp wg wd hs bf nf gf fq fk fz fc nc gc cn ce cm sq mb ks kk kv lk) : zCi l D cy yX7_point cX7_point 5 (Option.some Jvm.ClassFile.FieldType.int) rmX7_point [.ref o, .long x, .long y] f (fun (r : Int32) (f1 : zM) => ∃ (u11 : Int32) (u21 : Int32) (u31 : Int32) (gv1 : Nat → Int32) (nl1 : Nat) (gu1 : Nat → Int32) (nn1 : Nat) (ga1 : Nat → Option Nat) (gr1 : Nat → Option Nat) (fg1 : Nat → Nat) (pt1 : Nat → Nat) (kd1 : Nat → Int32) (ln1 : Nat → Nat) (pp1 : Nat → Nat → Int64) (wg1 : Nat → Int64) (wd1 : Nat → Int32) (hs1 : Nat → Int32) (bf1 : Nat → Int32) (nf1 : Nat) (gf1 : Nat → Option Nat) (fq1 : Nat → Nat) (fk1 : Nat → Nat) (fz1 : Nat → Nat) (fc1 : Nat → Nat → Int32) (nc1 : Nat) (gc1 : Nat → Option Nat) (cn1 : Nat → Nat) (ce1 : Nat → Int32) (cm1 : Nat → Int32) (sq1 : Nat → Nat) (mb1 : Nat → Nat → Int32) (ks1 : Nat) (kk1 : Nat → Int32) (kv1 : Nat → Int32) (lk1 : Int64), r = ((q_point nn).1) ∧ (u11 = (q_point nn).2.1) ∧ (u21 = (q_point nn).2.2.1) ∧ (u31 = (q_point nn).2.2.2) ∧ (gv1 = zEV gv (q_point nn).2.1) ∧ (nl1 = nl) ∧ (gu1 = gu) ∧ (nn1 = if 0 ≤ r then nn + 1 else nn) ∧ (kd1 = if 0 ≤ r then va_up kd nn 0 else kd) ∧ (ln1 = if 0 ≤ r then va_up ln nn (2) else ln) ∧ (zPP nn (0 ≤ r) (2) (q2 (zcl x) (zcl y)) pp pp1) ∧ (wd1 = if 0 ≤ r then va_up wd nn 0 else wd) ∧ (hs1 = if 0 ≤ r then va_up hs nn (zHash 0 nn (2) (q2 (zcl x) (zcl y)) hs) else hs) ∧ (nf1 = nf) ∧ (fz1 = fz) ∧ (fc1 = fc) ∧ (nc1 = nc) ∧ (ce1 = ce) ∧ (cm1 = cm) ∧ (sq1 = sq) ∧ (mb1 = mb) ∧ (ks1 = ks) ∧ (kk1 = kk) ∧ (kv1 = kv) ∧ (lk1 = lk) ∧ (wg1 = if 0 ≤ r then va_up wg nn (1) else wg) ∧ zIX cy f1 o fa fi nu fm co en ke ev al ra kn vq ge ea ma u11 u21 u31 gv1 nl1 gu1 nn1 ga1 gr1 fg1 pt1 kd1 ln1 pp1 wg1 wd1 hs1 bf1 nf1 gf1 fq1 fk1 fz1 fc1 nc1 gc1 cn1 ce1 cm1 sq1 mb1 ks1 kk1 kv1 lk1) := by
  intro sz
  refine z_body (by decide +kernel) (Nat.le_of_ble_eq_true rfl) ?_
  intro p e s m below meth c ls C hr hin hsz hz hl
  subst hsz
  have hx := C.1
  have hb := C.2.1
  have hA : ∀ q, s.heap.size ≤ q → zA f s.heap.size q := fun q h => Or.inr h
  have hS : va_S (zA f s.heap.size) s.heap s.heap [] := va_S.rf
  have hl : lv_has ls 5 [(0, .ref o), (1, .long x), (3, .long y)] := hl
  obtain ⟨x_o, x_fa, x_ev, x_fi, x_al, x_ra, x_nu, x_fm, x_co, x_en, x_ke, x_kn, x_vq, hF, hP, hFq, hFk, hCn, hEa, hMa, hn60, hl12, hf6, hc60, hs40, hga, hgr, hln, hk5, hk4, hfi, hpi, har, hgf, hfz, hgc, hG, hsq, hei, hmi, kne, hca, hcr, hlk⟩ := id hI
  refine lv_aload_n hx hb dX7_point_0 rfl (lv_at hl 0 rfl) ?_
  refine z_get (v := .ref fa) C hz x_o zl7 mFX7_10 (by decide) rfl dX7_point_1 ?_
  refine z_callVv (As := []) C hz hS hA hl (k_X2_none l D cy f fa u1 u2 u3 ev x_fa ) zyX2_none mMX7_76 x_fa zl2 rfl rfl (Nat.le_of_ble_eq_true rfl) ⟨Nat.le_of_ble_eq_true rfl, Nat.le_of_ble_eq_true rfl⟩ ⟨Nat.le_of_ble_eq_true rfl, Nat.le_of_ble_eq_true rfl⟩ dX7_point_4 (fun  f1 H locs h2 hz hS => ?_)
  obtain ⟨a3, k4⟩ := h2
  refine lv_aload_n hx hb dX7_point_7 rfl (lv_at hl 0 rfl) ?_
  have a5 : f1 o = some (.inr (7, [.ref fa, .ref fi, .ref nu, .int (nI nl), .ref fm, .int (nI nf), .ref co, .int (nI nc), .ref en, .ref ke, .long lk])) := k4 _ _ x_o (z_ne x_o x_fa rfl)
  refine z_get (v := .ref fi) C hz a5 zl7 mFX7_19 (by decide) rfl dX7_point_8 ?_
  by_cases h60 : nn < 60
  · have a6 : f1 fi = some (.inr (5, [.ref al, .ref ra, .int (nI nn)])) := k4 _ _ x_fi (z_ne x_fi x_fa rfl)
    refine z_callVi (As := []) C hz hS hA hl (k_X5_isFull_A l D cy f1 fi al ra nn a6 hn60 h60) zyX5_isFull mMX7_79 a6 zl5 rfl rfl (Nat.le_of_ble_eq_true rfl) ⟨Nat.le_of_ble_eq_true rfl, Nat.le_of_ble_eq_true rfl⟩ ⟨Nat.le_of_ble_eq_true rfl, Nat.le_of_ble_eq_true rfl⟩ dX7_point_11 (fun r f7 H locs h8 hz hS => ?_)
    obtain ⟨rfl, k9⟩ := h8
    refine lv_if_eq (tgt := 20) hx hb dX7_point_14 (by decide) (fun c10 => ?_) (fun c10 => ?_)
    rotate_left
    · exact absurd c10 (by decide)
    refine lv_aload_n hx hb dX7_point_20 rfl (lv_at hl 0 rfl) ?_
    have a11 : f7 o = some (.inr (7, [.ref fa, .ref fi, .ref nu, .int (nI nl), .ref fm, .int (nI nf), .ref co, .int (nI nc), .ref en, .ref ke, .long lk])) := k9 _ _ a5 
    refine z_get (v := .ref fi) C hz a11 zl7 mFX7_19 (by decide) rfl dX7_point_21 ?_
    refine z_new (fs := [.int 0, .null, .long 0, .int 0, .int 0, .int 0, .int 0]) C hz hS hA zl4 mLX7_83 mIa_RX4 mIn_RX4 (by decide +kernel) (Nat.le_of_ble_eq_true rfl) (Nat.le_of_ble_eq_true rfl) dX7_point_24 (fun q12 H f14 u13 a15 k16 hz hS => ?_)
    refine lv_dup hx hb dX7_point_27 rfl ?_
    refine lv_iconst (v := 0) hx hb dX7_point_28 (by decide) ?_
    refine lv_iconst (v := 2) hx hb dX7_point_29 (by decide) ?_
    refine z_newa (atype := .long) (t0 := 1) (N' := 2) (x := (.inr (.inl (fun _ => 0)))) C hz hS hA rfl mA_long rfl (fun _ => rfl) (by decide) (Nat.le_of_ble_eq_true rfl) (by decide) (Nat.le_of_ble_eq_true rfl) (Nat.le_of_ble_eq_true rfl) dX7_point_30 (fun q17 H f19 u18 a20 k21 hz hS => ?_)
    refine lv_dup hx hb dX7_point_32 rfl ?_
    refine lv_iconst (v := 0) hx hb dX7_point_33 (by decide) ?_
    refine lv_lload_n hx hb dX7_point_34 rfl (lv_at hl 1 rfl) ?_
    refine z_callSl (As := [.long x]) C hz hS hA hl (k_X7_oneNan l D cy f19 x  ) zyX7_oneNan mMX7_85 rfl rfl (Nat.le_of_ble_eq_true rfl) ⟨Nat.le_of_ble_eq_true rfl, Nat.le_of_ble_eq_true rfl⟩ ⟨Nat.le_of_ble_eq_true rfl, Nat.le_of_ble_eq_true rfl⟩ dX7_point_35 (fun r f22 H locs h23 hz hS => ?_)
    obtain ⟨rfl, k24⟩ := h23
    have a25 : f22 q17 = some (.inl (cy 1, 2, .inr (.inl (fun _ => 0)))) := k24 _ _ a20 
    refine z_last 0 C hz hS a25 (by decide) (Nat.le_of_ble_eq_true rfl) (by omega) dX7_point_38 (fun H locs f26 a27 k28 hz hS => ?_)
    refine lv_dup hx hb dX7_point_39 rfl ?_
    refine lv_iconst (v := 1) hx hb dX7_point_40 (by decide) ?_
    refine lv_lload_n hx hb dX7_point_41 rfl (lv_at hl 2 rfl) ?_
    refine z_callSl (As := [.long y]) C hz hS hA hl (k_X7_oneNan l D cy f26 y  ) zyX7_oneNan mMX7_85 rfl rfl (Nat.le_of_ble_eq_true rfl) ⟨Nat.le_of_ble_eq_true rfl, Nat.le_of_ble_eq_true rfl⟩ ⟨Nat.le_of_ble_eq_true rfl, Nat.le_of_ble_eq_true rfl⟩ dX7_point_42 (fun r f29 H locs h30 hz hS => ?_)
    obtain ⟨rfl, k31⟩ := h30
    have a32 : f29 q17 = some (.inl (cy 1, 2, .inr (.inl (vp_updL (fun _ => 0) 0 (zcl x))))) := k31 _ _ a27 
    refine z_last 1 C hz hS a32 (by decide) (Nat.le_of_ble_eq_true rfl) (by omega) dX7_point_45 (fun H locs f33 a34 k35 hz hS => ?_)
    refine lv_lconst (v := 1) hx hb dX7_point_46 (by decide) ?_
    have a36 : f19 q12 = some (.inr (4, [.int 0, .null, .long 0, .int 0, .int 0, .int 0, .int 0])) := (k21 _ (z_nn u18 a15)).trans a15
    have a37 : f22 q12 = some (.inr (4, [.int 0, .null, .long 0, .int 0, .int 0, .int 0, .int 0])) := k24 _ _ a36 
    have a38 : f26 q12 = some (.inr (4, [.int 0, .null, .long 0, .int 0, .int 0, .int 0, .int 0])) := (k28 _ (z_nn u18 a15)).trans a37
    have a39 : f29 q12 = some (.inr (4, [.int 0, .null, .long 0, .int 0, .int 0, .int 0, .int 0])) := k31 _ _ a38 
    have a40 : f33 q12 = some (.inr (4, [.int 0, .null, .long 0, .int 0, .int 0, .int 0, .int 0])) := (k35 _ (z_nn u18 a15)).trans a39
    refine z_callIv (ret := none) (As := [.int 0, .ref q17, .long 1]) C hz hS hA hl (k_X4_init l D cy f33 q12 0 q17 1 a40 ) zyX4_init mMX7_89 rfl rfl (Nat.le_of_ble_eq_true rfl) ⟨Nat.le_of_ble_eq_true rfl, Nat.le_of_ble_eq_true rfl⟩ ⟨Nat.le_of_ble_eq_true rfl, Nat.le_of_ble_eq_true rfl⟩ dX7_point_47 (fun  f41 H locs h42 hz hS => ?_)
    obtain ⟨a43, k44⟩ := h42
    have a45 : f7 fi = some (.inr (5, [.ref al, .ref ra, .int (nI nn)])) := k9 _ _ a6 
    have a46 : f14 fi = some (.inr (5, [.ref al, .ref ra, .int (nI nn)])) := (k16 _ (z_nn u13 a45)).trans a45
    have a47 : f19 fi = some (.inr (5, [.ref al, .ref ra, .int (nI nn)])) := (k21 _ (z_nn u18 a46)).trans a46
    have a48 : f22 fi = some (.inr (5, [.ref al, .ref ra, .int (nI nn)])) := k24 _ _ a47 
    have a49 : f26 fi = some (.inr (5, [.ref al, .ref ra, .int (nI nn)])) := (k28 _ (z_nn u18 a46)).trans a48
    have a50 : f29 fi = some (.inr (5, [.ref al, .ref ra, .int (nI nn)])) := k31 _ _ a49 
    have a51 : f33 fi = some (.inr (5, [.ref al, .ref ra, .int (nI nn)])) := (k35 _ (z_nn u18 a46)).trans a50
    have a52 : f41 fi = some (.inr (5, [.ref al, .ref ra, .int (nI nn)])) := k44 _ _ a51 (z_nn u13 a45)
    have a53 : f1 al = some (.inl (cy 3, 60, .inr (.inr (.inr (.inr ga))))) := k4 _ _ x_al (z_ne x_al x_fa rfl)
    have a54 : f7 al = some (.inl (cy 3, 60, .inr (.inr (.inr (.inr ga))))) := k9 _ _ a53 
    have a55 : f14 al = some (.inl (cy 3, 60, .inr (.inr (.inr (.inr ga))))) := (k16 _ (z_nn u13 a54)).trans a54
    have a56 : f19 al = some (.inl (cy 3, 60, .inr (.inr (.inr (.inr ga))))) := (k21 _ (z_nn u18 a55)).trans a55
    have a57 : f22 al = some (.inl (cy 3, 60, .inr (.inr (.inr (.inr ga))))) := k24 _ _ a56 
    have a58 : f26 al = some (.inl (cy 3, 60, .inr (.inr (.inr (.inr ga))))) := (k28 _ (z_nn u18 a55)).trans a57
    have a59 : f29 al = some (.inl (cy 3, 60, .inr (.inr (.inr (.inr ga))))) := k31 _ _ a58 
    have a60 : f33 al = some (.inl (cy 3, 60, .inr (.inr (.inr (.inr ga))))) := (k35 _ (z_nn u18 a55)).trans a59
    have a61 : f41 al = some (.inl (cy 3, 60, .inr (.inr (.inr (.inr ga))))) := k44 _ _ a60 (z_nn u13 a54)
    have a62 : f1 ra = some (.inl (cy 3, 60, .inr (.inr (.inr (.inr gr))))) := k4 _ _ x_ra (z_ne x_ra x_fa rfl)
    have a63 : f7 ra = some (.inl (cy 3, 60, .inr (.inr (.inr (.inr gr))))) := k9 _ _ a62 
    have a64 : f14 ra = some (.inl (cy 3, 60, .inr (.inr (.inr (.inr gr))))) := (k16 _ (z_nn u13 a63)).trans a63
    have a65 : f19 ra = some (.inl (cy 3, 60, .inr (.inr (.inr (.inr gr))))) := (k21 _ (z_nn u18 a64)).trans a64
    have a66 : f22 ra = some (.inl (cy 3, 60, .inr (.inr (.inr (.inr gr))))) := k24 _ _ a65 
    have a67 : f26 ra = some (.inl (cy 3, 60, .inr (.inr (.inr (.inr gr))))) := (k28 _ (z_nn u18 a64)).trans a66
    have a68 : f29 ra = some (.inl (cy 3, 60, .inr (.inr (.inr (.inr gr))))) := k31 _ _ a67 
    have a69 : f33 ra = some (.inl (cy 3, 60, .inr (.inr (.inr (.inr gr))))) := (k35 _ (z_nn u18 a64)).trans a68
    have a70 : f41 ra = some (.inl (cy 3, 60, .inr (.inr (.inr (.inr gr))))) := k44 _ _ a69 (z_nn u13 a63)
    have a71 : f41 q17 = some (.inl (cy 1, 2, .inr (.inl (vp_updL (vp_updL (fun _ => 0) 0 (zcl x)) 1 (zcl y))))) := k44 _ _ a34 (Ne.symm (z_nn u18 a15))
    have F72 : ∀ i9 : Nat, i9 < nn → f1 (fg i9) = some (.inr (4, [.int (kd i9), .ref (pt i9), .long (wg i9), .int (wd i9), .int (nI i9), .int (hs i9), .int (bf i9)])) := fun i9 h9 => k4 _ _ (hF i9 h9) (z_ne (hF i9 h9) x_fa rfl)
    have F73 : ∀ i9 : Nat, i9 < nn → f7 (fg i9) = some (.inr (4, [.int (kd i9), .ref (pt i9), .long (wg i9), .int (wd i9), .int (nI i9), .int (hs i9), .int (bf i9)])) := fun i9 h9 => k9 _ _ (F72 i9 h9) 
    have F74 : ∀ i9 : Nat, i9 < nn → f14 (fg i9) = some (.inr (4, [.int (kd i9), .ref (pt i9), .long (wg i9), .int (wd i9), .int (nI i9), .int (hs i9), .int (bf i9)])) := fun i9 h9 => (k16 _ (z_nn u13 (F73 i9 h9))).trans (F73 i9 h9)
    have F75 : ∀ i9 : Nat, i9 < nn → f19 (fg i9) = some (.inr (4, [.int (kd i9), .ref (pt i9), .long (wg i9), .int (wd i9), .int (nI i9), .int (hs i9), .int (bf i9)])) := fun i9 h9 => (k21 _ (z_nn u18 (F74 i9 h9))).trans (F74 i9 h9)
    have F76 : ∀ i9 : Nat, i9 < nn → f22 (fg i9) = some (.inr (4, [.int (kd i9), .ref (pt i9), .long (wg i9), .int (wd i9), .int (nI i9), .int (hs i9), .int (bf i9)])) := fun i9 h9 => k24 _ _ (F75 i9 h9) 
    have F77 : ∀ i9 : Nat, i9 < nn → f26 (fg i9) = some (.inr (4, [.int (kd i9), .ref (pt i9), .long (wg i9), .int (wd i9), .int (nI i9), .int (hs i9), .int (bf i9)])) := fun i9 h9 => (k28 _ (z_nn u18 (F74 i9 h9))).trans (F76 i9 h9)
    have F78 : ∀ i9 : Nat, i9 < nn → f29 (fg i9) = some (.inr (4, [.int (kd i9), .ref (pt i9), .long (wg i9), .int (wd i9), .int (nI i9), .int (hs i9), .int (bf i9)])) := fun i9 h9 => k31 _ _ (F77 i9 h9) 
    have F79 : ∀ i9 : Nat, i9 < nn → f33 (fg i9) = some (.inr (4, [.int (kd i9), .ref (pt i9), .long (wg i9), .int (wd i9), .int (nI i9), .int (hs i9), .int (bf i9)])) := fun i9 h9 => (k35 _ (z_nn u18 (F74 i9 h9))).trans (F78 i9 h9)
    have F80 : ∀ i9 : Nat, i9 < nn → f41 (fg i9) = some (.inr (4, [.int (kd i9), .ref (pt i9), .long (wg i9), .int (wd i9), .int (nI i9), .int (hs i9), .int (bf i9)])) := fun i9 h9 => k44 _ _ (F79 i9 h9) (z_nn u13 (F73 i9 h9))
    have F81 : ∀ i9 : Nat, i9 < nn → f1 (pt i9) = some (.inl (cy 1, (ln i9), .inr (.inl (pp i9)))) := fun i9 h9 => k4 _ _ (hP i9 h9) (z_neO (hP i9 h9) x_fa rfl)
    have F82 : ∀ i9 : Nat, i9 < nn → f7 (pt i9) = some (.inl (cy 1, (ln i9), .inr (.inl (pp i9)))) := fun i9 h9 => k9 _ _ (F81 i9 h9) 
    have F83 : ∀ i9 : Nat, i9 < nn → f14 (pt i9) = some (.inl (cy 1, (ln i9), .inr (.inl (pp i9)))) := fun i9 h9 => (k16 _ (z_nn u13 (F82 i9 h9))).trans (F82 i9 h9)
    have F84 : ∀ i9 : Nat, i9 < nn → f19 (pt i9) = some (.inl (cy 1, (ln i9), .inr (.inl (pp i9)))) := fun i9 h9 => (k21 _ (z_nn u18 (F83 i9 h9))).trans (F83 i9 h9)
    have F85 : ∀ i9 : Nat, i9 < nn → f22 (pt i9) = some (.inl (cy 1, (ln i9), .inr (.inl (pp i9)))) := fun i9 h9 => k24 _ _ (F84 i9 h9) 
    have F86 : ∀ i9 : Nat, i9 < nn → f26 (pt i9) = some (.inl (cy 1, (ln i9), .inr (.inl (pp i9)))) := fun i9 h9 => (k28 _ (z_nn u18 (F83 i9 h9))).trans (F85 i9 h9)
    have F87 : ∀ i9 : Nat, i9 < nn → f29 (pt i9) = some (.inl (cy 1, (ln i9), .inr (.inl (pp i9)))) := fun i9 h9 => k31 _ _ (F86 i9 h9) 
    have F88 : ∀ i9 : Nat, i9 < nn → f33 (pt i9) = some (.inl (cy 1, (ln i9), .inr (.inl (pp i9)))) := fun i9 h9 => (k35 _ (z_nn u18 (F83 i9 h9))).trans (F87 i9 h9)
    have F89 : ∀ i9 : Nat, i9 < nn → f41 (pt i9) = some (.inl (cy 1, (ln i9), .inr (.inl (pp i9)))) := fun i9 h9 => k44 _ _ (F88 i9 h9) (z_nn u13 (F82 i9 h9))
    refine z_callVi (As := [.ref q12]) C hz hS hA hl (k_X5_add l D cy f41 fi al ra ga gr nn fg pt kd ln pp wg wd hs bf q12 0 q17 1 0 (-1) 0 0 2 (vp_updL (vp_updL (fun _ => 0) 0 (zcl x)) 1 (zcl y)) a52 a61 a70 a43 a71 F80 F89 h60 hga hgr hln hk5 hfi (fun j9 h9 => z_nn u13 (F73 j9 h9)) (by omega) (fun h9 => absurd h9 (by decide)) har (fun h9 => absurd h9 (by decide))) zyX5_add mMX7_92 a52 zl5 rfl rfl (Nat.le_of_ble_eq_true rfl) ⟨Nat.le_of_ble_eq_true rfl, Nat.le_of_ble_eq_true rfl⟩ ⟨Nat.le_of_ble_eq_true rfl, Nat.le_of_ble_eq_true rfl⟩ dX7_point_50 (fun r f90 H locs h91 hz hS => ?_)
    obtain ⟨hq_92, bq_93, gr_94, bf_95, rfl, p96, p97, a98, a99, a100, F101, F102, k103⟩ := h91
    have a104 : f14 o = some (.inr (7, [.ref fa, .ref fi, .ref nu, .int (nI nl), .ref fm, .int (nI nf), .ref co, .int (nI nc), .ref en, .ref ke, .long lk])) := (k16 _ (z_nn u13 a11)).trans a11
    have a105 : f19 o = some (.inr (7, [.ref fa, .ref fi, .ref nu, .int (nI nl), .ref fm, .int (nI nf), .ref co, .int (nI nc), .ref en, .ref ke, .long lk])) := (k21 _ (z_nn u18 a104)).trans a104
    have a106 : f22 o = some (.inr (7, [.ref fa, .ref fi, .ref nu, .int (nI nl), .ref fm, .int (nI nf), .ref co, .int (nI nc), .ref en, .ref ke, .long lk])) := k24 _ _ a105 
    have a107 : f26 o = some (.inr (7, [.ref fa, .ref fi, .ref nu, .int (nI nl), .ref fm, .int (nI nf), .ref co, .int (nI nc), .ref en, .ref ke, .long lk])) := (k28 _ (z_nn u18 a104)).trans a106
    have a108 : f29 o = some (.inr (7, [.ref fa, .ref fi, .ref nu, .int (nI nl), .ref fm, .int (nI nf), .ref co, .int (nI nc), .ref en, .ref ke, .long lk])) := k31 _ _ a107 
    have a109 : f33 o = some (.inr (7, [.ref fa, .ref fi, .ref nu, .int (nI nl), .ref fm, .int (nI nf), .ref co, .int (nI nc), .ref en, .ref ke, .long lk])) := (k35 _ (z_nn u18 a104)).trans a108
    have a110 : f41 o = some (.inr (7, [.ref fa, .ref fi, .ref nu, .int (nI nl), .ref fm, .int (nI nf), .ref co, .int (nI nc), .ref en, .ref ke, .long lk])) := k44 _ _ a109 (z_nn u13 a11)
    have a111 : f90 o = some (.inr (7, [.ref fa, .ref fi, .ref nu, .int (nI nl), .ref fm, .int (nI nf), .ref co, .int (nI nc), .ref en, .ref ke, .long lk])) := k103 _ _ a110 (z_ne a110 a52 rfl) (z_ne a110 a61 rfl) (z_ne a110 a70 rfl) (z_nn u13 a11) (fun j9 h8 => (z_ne a110 (F80 j9 h8) rfl))
    have a112 : f7 fa = some (.inr (2, [.int 0, .int (-1), .int 0, .ref ev])) := k9 _ _ a3 
    have a113 : f14 fa = some (.inr (2, [.int 0, .int (-1), .int 0, .ref ev])) := (k16 _ (z_nn u13 a112)).trans a112
    have a114 : f19 fa = some (.inr (2, [.int 0, .int (-1), .int 0, .ref ev])) := (k21 _ (z_nn u18 a113)).trans a113
    have a115 : f22 fa = some (.inr (2, [.int 0, .int (-1), .int 0, .ref ev])) := k24 _ _ a114 
    have a116 : f26 fa = some (.inr (2, [.int 0, .int (-1), .int 0, .ref ev])) := (k28 _ (z_nn u18 a113)).trans a115
    have a117 : f29 fa = some (.inr (2, [.int 0, .int (-1), .int 0, .ref ev])) := k31 _ _ a116 
    have a118 : f33 fa = some (.inr (2, [.int 0, .int (-1), .int 0, .ref ev])) := (k35 _ (z_nn u18 a113)).trans a117
    have a119 : f41 fa = some (.inr (2, [.int 0, .int (-1), .int 0, .ref ev])) := k44 _ _ a118 (z_nn u13 a112)
    have a120 : f90 fa = some (.inr (2, [.int 0, .int (-1), .int 0, .ref ev])) := k103 _ _ a119 (z_ne a119 a52 rfl) (z_ne a119 a61 rfl) (z_ne a119 a70 rfl) (z_nn u13 a112) (fun j9 h8 => (z_ne a119 (F80 j9 h8) rfl))
    have a121 : f1 ev = some (.inl (cy 0, 8, .inl gv)) := k4 _ _ x_ev (z_ne x_ev x_fa rfl)
    have a122 : f7 ev = some (.inl (cy 0, 8, .inl gv)) := k9 _ _ a121 
    have a123 : f14 ev = some (.inl (cy 0, 8, .inl gv)) := (k16 _ (z_nn u13 a122)).trans a122
    have a124 : f19 ev = some (.inl (cy 0, 8, .inl gv)) := (k21 _ (z_nn u18 a123)).trans a123
    have a125 : f22 ev = some (.inl (cy 0, 8, .inl gv)) := k24 _ _ a124 
    have a126 : f26 ev = some (.inl (cy 0, 8, .inl gv)) := (k28 _ (z_nn u18 a123)).trans a125
    have a127 : f29 ev = some (.inl (cy 0, 8, .inl gv)) := k31 _ _ a126 
    have a128 : f33 ev = some (.inl (cy 0, 8, .inl gv)) := (k35 _ (z_nn u18 a123)).trans a127
    have a129 : f41 ev = some (.inl (cy 0, 8, .inl gv)) := k44 _ _ a128 (z_nn u13 a122)
    have a130 : f90 ev = some (.inl (cy 0, 8, .inl gv)) := k103 _ _ a129 (z_ne a129 a52 rfl) (z_ne a129 a61 rfl) (z_ne a129 a70 rfl) (z_nn u13 a122) (fun j9 h8 => (z_ne a129 (F80 j9 h8) rfl))
    have a131 : f1 nu = some (.inl (cy 0, 12, .inl gu)) := k4 _ _ x_nu (z_ne x_nu x_fa rfl)
    have a132 : f7 nu = some (.inl (cy 0, 12, .inl gu)) := k9 _ _ a131 
    have a133 : f14 nu = some (.inl (cy 0, 12, .inl gu)) := (k16 _ (z_nn u13 a132)).trans a132
    have a134 : f19 nu = some (.inl (cy 0, 12, .inl gu)) := (k21 _ (z_nn u18 a133)).trans a133
    have a135 : f22 nu = some (.inl (cy 0, 12, .inl gu)) := k24 _ _ a134 
    have a136 : f26 nu = some (.inl (cy 0, 12, .inl gu)) := (k28 _ (z_nn u18 a133)).trans a135
    have a137 : f29 nu = some (.inl (cy 0, 12, .inl gu)) := k31 _ _ a136 
    have a138 : f33 nu = some (.inl (cy 0, 12, .inl gu)) := (k35 _ (z_nn u18 a133)).trans a137
    have a139 : f41 nu = some (.inl (cy 0, 12, .inl gu)) := k44 _ _ a138 (z_nn u13 a132)
    have a140 : f90 nu = some (.inl (cy 0, 12, .inl gu)) := k103 _ _ a139 (z_ne a139 a52 rfl) (z_ne a139 a61 rfl) (z_ne a139 a70 rfl) (z_nn u13 a132) (fun j9 h8 => (z_ne a139 (F80 j9 h8) rfl))
    have a141 : f1 fm = some (.inl (cy 4, 6, .inr (.inr (.inr (.inr gf))))) := k4 _ _ x_fm (z_ne x_fm x_fa rfl)
    have a142 : f7 fm = some (.inl (cy 4, 6, .inr (.inr (.inr (.inr gf))))) := k9 _ _ a141 
    have a143 : f14 fm = some (.inl (cy 4, 6, .inr (.inr (.inr (.inr gf))))) := (k16 _ (z_nn u13 a142)).trans a142
    have a144 : f19 fm = some (.inl (cy 4, 6, .inr (.inr (.inr (.inr gf))))) := (k21 _ (z_nn u18 a143)).trans a143
    have a145 : f22 fm = some (.inl (cy 4, 6, .inr (.inr (.inr (.inr gf))))) := k24 _ _ a144 
    have a146 : f26 fm = some (.inl (cy 4, 6, .inr (.inr (.inr (.inr gf))))) := (k28 _ (z_nn u18 a143)).trans a145
    have a147 : f29 fm = some (.inl (cy 4, 6, .inr (.inr (.inr (.inr gf))))) := k31 _ _ a146 
    have a148 : f33 fm = some (.inl (cy 4, 6, .inr (.inr (.inr (.inr gf))))) := (k35 _ (z_nn u18 a143)).trans a147
    have a149 : f41 fm = some (.inl (cy 4, 6, .inr (.inr (.inr (.inr gf))))) := k44 _ _ a148 (z_nn u13 a142)
    have a150 : f90 fm = some (.inl (cy 4, 6, .inr (.inr (.inr (.inr gf))))) := k103 _ _ a149 (z_ne a149 a52 rfl) (z_ne a149 a61 rfl) (z_ne a149 a70 rfl) (z_nn u13 a142) (fun j9 h8 => (z_ne a149 (F80 j9 h8) rfl))
    have a151 : f1 co = some (.inl (cy 5, 60, .inr (.inr (.inr (.inr gc))))) := k4 _ _ x_co (z_ne x_co x_fa rfl)
    have a152 : f7 co = some (.inl (cy 5, 60, .inr (.inr (.inr (.inr gc))))) := k9 _ _ a151 
    have a153 : f14 co = some (.inl (cy 5, 60, .inr (.inr (.inr (.inr gc))))) := (k16 _ (z_nn u13 a152)).trans a152
    have a154 : f19 co = some (.inl (cy 5, 60, .inr (.inr (.inr (.inr gc))))) := (k21 _ (z_nn u18 a153)).trans a153
    have a155 : f22 co = some (.inl (cy 5, 60, .inr (.inr (.inr (.inr gc))))) := k24 _ _ a154 
    have a156 : f26 co = some (.inl (cy 5, 60, .inr (.inr (.inr (.inr gc))))) := (k28 _ (z_nn u18 a153)).trans a155
    have a157 : f29 co = some (.inl (cy 5, 60, .inr (.inr (.inr (.inr gc))))) := k31 _ _ a156 
    have a158 : f33 co = some (.inl (cy 5, 60, .inr (.inr (.inr (.inr gc))))) := (k35 _ (z_nn u18 a153)).trans a157
    have a159 : f41 co = some (.inl (cy 5, 60, .inr (.inr (.inr (.inr gc))))) := k44 _ _ a158 (z_nn u13 a152)
    have a160 : f90 co = some (.inl (cy 5, 60, .inr (.inr (.inr (.inr gc))))) := k103 _ _ a159 (z_ne a159 a52 rfl) hca hcr (z_nn u13 a152) (fun j9 h8 => (z_ne a159 (F80 j9 h8) rfl))
    have a161 : f1 en = some (.inl (cy 6, 4, .inr (.inr (.inr (.inr ge))))) := k4 _ _ x_en (z_ne x_en x_fa rfl)
    have a162 : f7 en = some (.inl (cy 6, 4, .inr (.inr (.inr (.inr ge))))) := k9 _ _ a161 
    have a163 : f14 en = some (.inl (cy 6, 4, .inr (.inr (.inr (.inr ge))))) := (k16 _ (z_nn u13 a162)).trans a162
    have a164 : f19 en = some (.inl (cy 6, 4, .inr (.inr (.inr (.inr ge))))) := (k21 _ (z_nn u18 a163)).trans a163
    have a165 : f22 en = some (.inl (cy 6, 4, .inr (.inr (.inr (.inr ge))))) := k24 _ _ a164 
    have a166 : f26 en = some (.inl (cy 6, 4, .inr (.inr (.inr (.inr ge))))) := (k28 _ (z_nn u18 a163)).trans a165
    have a167 : f29 en = some (.inl (cy 6, 4, .inr (.inr (.inr (.inr ge))))) := k31 _ _ a166 
    have a168 : f33 en = some (.inl (cy 6, 4, .inr (.inr (.inr (.inr ge))))) := (k35 _ (z_nn u18 a163)).trans a167
    have a169 : f41 en = some (.inl (cy 6, 4, .inr (.inr (.inr (.inr ge))))) := k44 _ _ a168 (z_nn u13 a162)
    have a170 : f90 en = some (.inl (cy 6, 4, .inr (.inr (.inr (.inr ge))))) := k103 _ _ a169 (z_ne a169 a52 rfl) (z_ne a169 a61 rfl) (z_ne a169 a70 rfl) (z_nn u13 a162) (fun j9 h8 => (z_ne a169 (F80 j9 h8) rfl))
    have a171 : f1 ke = some (.inr (6, [.ref kn, .ref vq, .int (nI ks)])) := k4 _ _ x_ke (z_ne x_ke x_fa rfl)
    have a172 : f7 ke = some (.inr (6, [.ref kn, .ref vq, .int (nI ks)])) := k9 _ _ a171 
    have a173 : f14 ke = some (.inr (6, [.ref kn, .ref vq, .int (nI ks)])) := (k16 _ (z_nn u13 a172)).trans a172
    have a174 : f19 ke = some (.inr (6, [.ref kn, .ref vq, .int (nI ks)])) := (k21 _ (z_nn u18 a173)).trans a173
    have a175 : f22 ke = some (.inr (6, [.ref kn, .ref vq, .int (nI ks)])) := k24 _ _ a174 
    have a176 : f26 ke = some (.inr (6, [.ref kn, .ref vq, .int (nI ks)])) := (k28 _ (z_nn u18 a173)).trans a175
    have a177 : f29 ke = some (.inr (6, [.ref kn, .ref vq, .int (nI ks)])) := k31 _ _ a176 
    have a178 : f33 ke = some (.inr (6, [.ref kn, .ref vq, .int (nI ks)])) := (k35 _ (z_nn u18 a173)).trans a177
    have a179 : f41 ke = some (.inr (6, [.ref kn, .ref vq, .int (nI ks)])) := k44 _ _ a178 (z_nn u13 a172)
    have a180 : f90 ke = some (.inr (6, [.ref kn, .ref vq, .int (nI ks)])) := k103 _ _ a179 (z_ne a179 a52 rfl) (z_ne a179 a61 rfl) (z_ne a179 a70 rfl) (z_nn u13 a172) (fun j9 h8 => (z_ne a179 (F80 j9 h8) rfl))
    have a181 : f1 kn = some (.inl (cy 0, 40, .inl kk)) := k4 _ _ x_kn (z_ne x_kn x_fa rfl)
    have a182 : f7 kn = some (.inl (cy 0, 40, .inl kk)) := k9 _ _ a181 
    have a183 : f14 kn = some (.inl (cy 0, 40, .inl kk)) := (k16 _ (z_nn u13 a182)).trans a182
    have a184 : f19 kn = some (.inl (cy 0, 40, .inl kk)) := (k21 _ (z_nn u18 a183)).trans a183
    have a185 : f22 kn = some (.inl (cy 0, 40, .inl kk)) := k24 _ _ a184 
    have a186 : f26 kn = some (.inl (cy 0, 40, .inl kk)) := (k28 _ (z_nn u18 a183)).trans a185
    have a187 : f29 kn = some (.inl (cy 0, 40, .inl kk)) := k31 _ _ a186 
    have a188 : f33 kn = some (.inl (cy 0, 40, .inl kk)) := (k35 _ (z_nn u18 a183)).trans a187
    have a189 : f41 kn = some (.inl (cy 0, 40, .inl kk)) := k44 _ _ a188 (z_nn u13 a182)
    have a190 : f90 kn = some (.inl (cy 0, 40, .inl kk)) := k103 _ _ a189 (z_ne a189 a52 rfl) (z_ne a189 a61 rfl) (z_ne a189 a70 rfl) (z_nn u13 a182) (fun j9 h8 => (z_ne a189 (F80 j9 h8) rfl))
    have a191 : f1 vq = some (.inl (cy 0, 40, .inl kv)) := k4 _ _ x_vq (z_ne x_vq x_fa rfl)
    have a192 : f7 vq = some (.inl (cy 0, 40, .inl kv)) := k9 _ _ a191 
    have a193 : f14 vq = some (.inl (cy 0, 40, .inl kv)) := (k16 _ (z_nn u13 a192)).trans a192
    have a194 : f19 vq = some (.inl (cy 0, 40, .inl kv)) := (k21 _ (z_nn u18 a193)).trans a193
    have a195 : f22 vq = some (.inl (cy 0, 40, .inl kv)) := k24 _ _ a194 
    have a196 : f26 vq = some (.inl (cy 0, 40, .inl kv)) := (k28 _ (z_nn u18 a193)).trans a195
    have a197 : f29 vq = some (.inl (cy 0, 40, .inl kv)) := k31 _ _ a196 
    have a198 : f33 vq = some (.inl (cy 0, 40, .inl kv)) := (k35 _ (z_nn u18 a193)).trans a197
    have a199 : f41 vq = some (.inl (cy 0, 40, .inl kv)) := k44 _ _ a198 (z_nn u13 a192)
    have a200 : f90 vq = some (.inl (cy 0, 40, .inl kv)) := k103 _ _ a199 (z_ne a199 a52 rfl) (z_ne a199 a61 rfl) (z_ne a199 a70 rfl) (z_nn u13 a192) (fun j9 h8 => (z_ne a199 (F80 j9 h8) rfl))
    have F201 : ∀ i9 : Nat, i9 < nf → f1 (fq i9) = some (.inr (3, [.ref (fk i9), .int (nI (fz i9))])) := fun i9 h9 => k4 _ _ (hFq i9 h9) (z_ne (hFq i9 h9) x_fa rfl)
    have F202 : ∀ i9 : Nat, i9 < nf → f7 (fq i9) = some (.inr (3, [.ref (fk i9), .int (nI (fz i9))])) := fun i9 h9 => k9 _ _ (F201 i9 h9) 
    have F203 : ∀ i9 : Nat, i9 < nf → f14 (fq i9) = some (.inr (3, [.ref (fk i9), .int (nI (fz i9))])) := fun i9 h9 => (k16 _ (z_nn u13 (F202 i9 h9))).trans (F202 i9 h9)
    have F204 : ∀ i9 : Nat, i9 < nf → f19 (fq i9) = some (.inr (3, [.ref (fk i9), .int (nI (fz i9))])) := fun i9 h9 => (k21 _ (z_nn u18 (F203 i9 h9))).trans (F203 i9 h9)
    have F205 : ∀ i9 : Nat, i9 < nf → f22 (fq i9) = some (.inr (3, [.ref (fk i9), .int (nI (fz i9))])) := fun i9 h9 => k24 _ _ (F204 i9 h9) 
    have F206 : ∀ i9 : Nat, i9 < nf → f26 (fq i9) = some (.inr (3, [.ref (fk i9), .int (nI (fz i9))])) := fun i9 h9 => (k28 _ (z_nn u18 (F203 i9 h9))).trans (F205 i9 h9)
    have F207 : ∀ i9 : Nat, i9 < nf → f29 (fq i9) = some (.inr (3, [.ref (fk i9), .int (nI (fz i9))])) := fun i9 h9 => k31 _ _ (F206 i9 h9) 
    have F208 : ∀ i9 : Nat, i9 < nf → f33 (fq i9) = some (.inr (3, [.ref (fk i9), .int (nI (fz i9))])) := fun i9 h9 => (k35 _ (z_nn u18 (F203 i9 h9))).trans (F207 i9 h9)
    have F209 : ∀ i9 : Nat, i9 < nf → f41 (fq i9) = some (.inr (3, [.ref (fk i9), .int (nI (fz i9))])) := fun i9 h9 => k44 _ _ (F208 i9 h9) (z_nn u13 (F202 i9 h9))
    have F210 : ∀ i9 : Nat, i9 < nf → f90 (fq i9) = some (.inr (3, [.ref (fk i9), .int (nI (fz i9))])) := fun i9 h9 => k103 _ _ (F209 i9 h9) (z_ne (F209 i9 h9) a52 rfl) (z_ne (F209 i9 h9) a61 rfl) (z_ne (F209 i9 h9) a70 rfl) (z_nn u13 (F202 i9 h9)) (fun j9 h8 => (z_ne (F209 i9 h9) (F80 j9 h8) rfl))
    have F211 : ∀ i9 : Nat, i9 < nf → f1 (fk i9) = some (.inl (cy 0, 4, .inl (fc i9))) := fun i9 h9 => k4 _ _ (hFk i9 h9) (z_ne (hFk i9 h9) x_fa rfl)
    have F212 : ∀ i9 : Nat, i9 < nf → f7 (fk i9) = some (.inl (cy 0, 4, .inl (fc i9))) := fun i9 h9 => k9 _ _ (F211 i9 h9) 
    have F213 : ∀ i9 : Nat, i9 < nf → f14 (fk i9) = some (.inl (cy 0, 4, .inl (fc i9))) := fun i9 h9 => (k16 _ (z_nn u13 (F212 i9 h9))).trans (F212 i9 h9)
    have F214 : ∀ i9 : Nat, i9 < nf → f19 (fk i9) = some (.inl (cy 0, 4, .inl (fc i9))) := fun i9 h9 => (k21 _ (z_nn u18 (F213 i9 h9))).trans (F213 i9 h9)
    have F215 : ∀ i9 : Nat, i9 < nf → f22 (fk i9) = some (.inl (cy 0, 4, .inl (fc i9))) := fun i9 h9 => k24 _ _ (F214 i9 h9) 
    have F216 : ∀ i9 : Nat, i9 < nf → f26 (fk i9) = some (.inl (cy 0, 4, .inl (fc i9))) := fun i9 h9 => (k28 _ (z_nn u18 (F213 i9 h9))).trans (F215 i9 h9)
    have F217 : ∀ i9 : Nat, i9 < nf → f29 (fk i9) = some (.inl (cy 0, 4, .inl (fc i9))) := fun i9 h9 => k31 _ _ (F216 i9 h9) 
    have F218 : ∀ i9 : Nat, i9 < nf → f33 (fk i9) = some (.inl (cy 0, 4, .inl (fc i9))) := fun i9 h9 => (k35 _ (z_nn u18 (F213 i9 h9))).trans (F217 i9 h9)
    have F219 : ∀ i9 : Nat, i9 < nf → f41 (fk i9) = some (.inl (cy 0, 4, .inl (fc i9))) := fun i9 h9 => k44 _ _ (F218 i9 h9) (z_nn u13 (F212 i9 h9))
    have F220 : ∀ i9 : Nat, i9 < nf → f90 (fk i9) = some (.inl (cy 0, 4, .inl (fc i9))) := fun i9 h9 => k103 _ _ (F219 i9 h9) (z_ne (F219 i9 h9) a52 rfl) (z_ne (F219 i9 h9) a61 rfl) (z_ne (F219 i9 h9) a70 rfl) (z_nn u13 (F212 i9 h9)) (fun j9 h8 => (z_ne (F219 i9 h9) (F80 j9 h8) rfl))
    have F221 : ∀ i9 : Nat, i9 < nc → f1 (cn i9) = some (.inr (0, [.int (ce i9), .int (cm i9)])) := fun i9 h9 => k4 _ _ (hCn i9 h9) (z_ne (hCn i9 h9) x_fa rfl)
    have F222 : ∀ i9 : Nat, i9 < nc → f7 (cn i9) = some (.inr (0, [.int (ce i9), .int (cm i9)])) := fun i9 h9 => k9 _ _ (F221 i9 h9) 
    have F223 : ∀ i9 : Nat, i9 < nc → f14 (cn i9) = some (.inr (0, [.int (ce i9), .int (cm i9)])) := fun i9 h9 => (k16 _ (z_nn u13 (F222 i9 h9))).trans (F222 i9 h9)
    have F224 : ∀ i9 : Nat, i9 < nc → f19 (cn i9) = some (.inr (0, [.int (ce i9), .int (cm i9)])) := fun i9 h9 => (k21 _ (z_nn u18 (F223 i9 h9))).trans (F223 i9 h9)
    have F225 : ∀ i9 : Nat, i9 < nc → f22 (cn i9) = some (.inr (0, [.int (ce i9), .int (cm i9)])) := fun i9 h9 => k24 _ _ (F224 i9 h9) 
    have F226 : ∀ i9 : Nat, i9 < nc → f26 (cn i9) = some (.inr (0, [.int (ce i9), .int (cm i9)])) := fun i9 h9 => (k28 _ (z_nn u18 (F223 i9 h9))).trans (F225 i9 h9)
    have F227 : ∀ i9 : Nat, i9 < nc → f29 (cn i9) = some (.inr (0, [.int (ce i9), .int (cm i9)])) := fun i9 h9 => k31 _ _ (F226 i9 h9) 
    have F228 : ∀ i9 : Nat, i9 < nc → f33 (cn i9) = some (.inr (0, [.int (ce i9), .int (cm i9)])) := fun i9 h9 => (k35 _ (z_nn u18 (F223 i9 h9))).trans (F227 i9 h9)
    have F229 : ∀ i9 : Nat, i9 < nc → f41 (cn i9) = some (.inr (0, [.int (ce i9), .int (cm i9)])) := fun i9 h9 => k44 _ _ (F228 i9 h9) (z_nn u13 (F222 i9 h9))
    have F230 : ∀ i9 : Nat, i9 < nc → f90 (cn i9) = some (.inr (0, [.int (ce i9), .int (cm i9)])) := fun i9 h9 => k103 _ _ (F229 i9 h9) (z_ne (F229 i9 h9) a52 rfl) (z_ne (F229 i9 h9) a61 rfl) (z_ne (F229 i9 h9) a70 rfl) (z_nn u13 (F222 i9 h9)) (fun j9 h8 => (z_ne (F229 i9 h9) (F80 j9 h8) rfl))
    have F231 : ∀ i9 : Nat, i9 < 4 → f1 (ea i9) = some (.inr (1, [.ref (ma i9), .int (nI (sq i9))])) := fun i9 h9 => k4 _ _ (hEa i9 h9) (z_ne (hEa i9 h9) x_fa rfl)
    have F232 : ∀ i9 : Nat, i9 < 4 → f7 (ea i9) = some (.inr (1, [.ref (ma i9), .int (nI (sq i9))])) := fun i9 h9 => k9 _ _ (F231 i9 h9) 
    have F233 : ∀ i9 : Nat, i9 < 4 → f14 (ea i9) = some (.inr (1, [.ref (ma i9), .int (nI (sq i9))])) := fun i9 h9 => (k16 _ (z_nn u13 (F232 i9 h9))).trans (F232 i9 h9)
    have F234 : ∀ i9 : Nat, i9 < 4 → f19 (ea i9) = some (.inr (1, [.ref (ma i9), .int (nI (sq i9))])) := fun i9 h9 => (k21 _ (z_nn u18 (F233 i9 h9))).trans (F233 i9 h9)
    have F235 : ∀ i9 : Nat, i9 < 4 → f22 (ea i9) = some (.inr (1, [.ref (ma i9), .int (nI (sq i9))])) := fun i9 h9 => k24 _ _ (F234 i9 h9) 
    have F236 : ∀ i9 : Nat, i9 < 4 → f26 (ea i9) = some (.inr (1, [.ref (ma i9), .int (nI (sq i9))])) := fun i9 h9 => (k28 _ (z_nn u18 (F233 i9 h9))).trans (F235 i9 h9)
    have F237 : ∀ i9 : Nat, i9 < 4 → f29 (ea i9) = some (.inr (1, [.ref (ma i9), .int (nI (sq i9))])) := fun i9 h9 => k31 _ _ (F236 i9 h9) 
    have F238 : ∀ i9 : Nat, i9 < 4 → f33 (ea i9) = some (.inr (1, [.ref (ma i9), .int (nI (sq i9))])) := fun i9 h9 => (k35 _ (z_nn u18 (F233 i9 h9))).trans (F237 i9 h9)
    have F239 : ∀ i9 : Nat, i9 < 4 → f41 (ea i9) = some (.inr (1, [.ref (ma i9), .int (nI (sq i9))])) := fun i9 h9 => k44 _ _ (F238 i9 h9) (z_nn u13 (F232 i9 h9))
    have F240 : ∀ i9 : Nat, i9 < 4 → f90 (ea i9) = some (.inr (1, [.ref (ma i9), .int (nI (sq i9))])) := fun i9 h9 => k103 _ _ (F239 i9 h9) (z_ne (F239 i9 h9) a52 rfl) (z_ne (F239 i9 h9) a61 rfl) (z_ne (F239 i9 h9) a70 rfl) (z_nn u13 (F232 i9 h9)) (fun j9 h8 => (z_ne (F239 i9 h9) (F80 j9 h8) rfl))
    have F241 : ∀ i9 : Nat, i9 < 4 → f1 (ma i9) = some (.inl (cy 0, 60, .inl (mb i9))) := fun i9 h9 => k4 _ _ (hMa i9 h9) (z_ne (hMa i9 h9) x_fa rfl)
    have F242 : ∀ i9 : Nat, i9 < 4 → f7 (ma i9) = some (.inl (cy 0, 60, .inl (mb i9))) := fun i9 h9 => k9 _ _ (F241 i9 h9) 
    have F243 : ∀ i9 : Nat, i9 < 4 → f14 (ma i9) = some (.inl (cy 0, 60, .inl (mb i9))) := fun i9 h9 => (k16 _ (z_nn u13 (F242 i9 h9))).trans (F242 i9 h9)
    have F244 : ∀ i9 : Nat, i9 < 4 → f19 (ma i9) = some (.inl (cy 0, 60, .inl (mb i9))) := fun i9 h9 => (k21 _ (z_nn u18 (F243 i9 h9))).trans (F243 i9 h9)
    have F245 : ∀ i9 : Nat, i9 < 4 → f22 (ma i9) = some (.inl (cy 0, 60, .inl (mb i9))) := fun i9 h9 => k24 _ _ (F244 i9 h9) 
    have F246 : ∀ i9 : Nat, i9 < 4 → f26 (ma i9) = some (.inl (cy 0, 60, .inl (mb i9))) := fun i9 h9 => (k28 _ (z_nn u18 (F243 i9 h9))).trans (F245 i9 h9)
    have F247 : ∀ i9 : Nat, i9 < 4 → f29 (ma i9) = some (.inl (cy 0, 60, .inl (mb i9))) := fun i9 h9 => k31 _ _ (F246 i9 h9) 
    have F248 : ∀ i9 : Nat, i9 < 4 → f33 (ma i9) = some (.inl (cy 0, 60, .inl (mb i9))) := fun i9 h9 => (k35 _ (z_nn u18 (F243 i9 h9))).trans (F247 i9 h9)
    have F249 : ∀ i9 : Nat, i9 < 4 → f41 (ma i9) = some (.inl (cy 0, 60, .inl (mb i9))) := fun i9 h9 => k44 _ _ (F248 i9 h9) (z_nn u13 (F242 i9 h9))
    have F250 : ∀ i9 : Nat, i9 < 4 → f90 (ma i9) = some (.inl (cy 0, 60, .inl (mb i9))) := fun i9 h9 => k103 _ _ (F249 i9 h9) (z_ne (F249 i9 h9) a52 rfl) (z_ne (F249 i9 h9) a61 rfl) (z_ne (F249 i9 h9) a70 rfl) (z_nn u13 (F242 i9 h9)) (fun j9 h8 => (z_ne (F249 i9 h9) (F80 j9 h8) rfl))
    have a251 : f90 q17 = some (.inl (cy 1, 2, .inr (.inl (vp_updL (vp_updL (fun _ => 0) 0 (zcl x)) 1 (zcl y))))) := k103 _ _ a71 (Ne.symm (z_nn u18 a46)) (Ne.symm (z_nn u18 a55)) (Ne.symm (z_nn u18 a64)) (Ne.symm (z_nn u18 a15)) (fun j9 h8 => (z_ne a71 (F80 j9 h8) rfl))
    have hgpf : ∀ j, j < 2 → (vp_updL (vp_updL (fun _ => 0) 0 (zcl x)) 1 (zcl y)) j = (q2 (zcl x) (zcl y)) j := (z_j2 _ _ _)
    have hq : q_point nn = (nI nn, 0, (-1), 0) := by simp [q_point, h60, c10]
    exact z_iret C hr rfl hz hS ⟨0, (-1), 0, gv, nl, gu, (nn + 1), (va_up ga nn (some q12)), gr_94, (va_up fg nn q12), (va_up pt nn q17), (va_up kd nn 0), (va_up ln nn 2), (va_up pp nn (vp_updL (vp_updL (fun _ => 0) 0 (zcl x)) 1 (zcl y))), (va_up wg nn 1), (va_up wd nn 0), (va_up hs nn hq_92), (va_up bf_95 nn bq_93), nf, gf, fq, fk, fz, fc, nc, gc, cn, ce, cm, sq, mb, ks, kk, kv, lk, (by rw [hq]), (by rw [hq]), (by rw [hq]), (by rw [hq]), (by rw [hq]; exact (zEV0 gv).symm), rfl, rfl, (by rw [if_pos (nI_pos' (by omega))]), (by rw [if_pos (nI_pos' (by omega))]), (by rw [if_pos (nI_pos' (by omega))]), (zPP_new hgpf), (by rw [if_pos (nI_pos' (by omega))]), (by rw [if_pos (nI_pos' (by omega)), p96, zHash_congr (gp' := q2 (zcl x) (zcl y)) hgpf]), rfl, rfl, rfl, rfl, rfl, rfl, rfl, rfl, rfl, rfl, rfl, rfl, (by rw [if_pos (nI_pos' (by omega))]), ⟨a111, a120, a130, a98, a99, a100, a140, a150, a160, a170, a180, a190, a200, F101, F102, F210, F220, F230, F240, F250, (by omega), hl12, hf6, hc60, hs40, (z_ga1 hga), (z_gr1 p97), (z_up1 (P := fun _ a9 => a9 ≤ 15) hln (by omega)), (z_up2 (P := fun (a9 : Int32) (b9 : Nat) => a9 = 5 → 3 ≤ b9) hk5 (fun h9 => absurd h9 (by decide))), (z_up2 (P := fun (a9 : Int32) (b9 : Nat) => a9 = 4 → 2 ≤ b9) hk4 (fun h9 => absurd h9 (by decide))), (z_inj1 hfi (fun j9 h9 => z_nn u13 (F73 j9 h9))), (z_inj1 hpi (fun j9 h9 => z_nn u18 (F83 j9 h9))), har, hgf, hfz, hgc, hG, hsq, hei, hmi, kne, hca, hcr, hlk⟩⟩ (Nat.le_of_ble_eq_true rfl) (Nat.le_of_ble_eq_true rfl) dX7_point_53
  · have a252 : f1 fi = some (.inr (5, [.ref al, .ref ra, .int (nI nn)])) := k4 _ _ x_fi (z_ne x_fi x_fa rfl)
    refine z_callVi (As := []) C hz hS hA hl (k_X5_isFull_B l D cy f1 fi al ra nn a252 hn60 h60) zyX5_isFull mMX7_79 a252 zl5 rfl rfl (Nat.le_of_ble_eq_true rfl) ⟨Nat.le_of_ble_eq_true rfl, Nat.le_of_ble_eq_true rfl⟩ ⟨Nat.le_of_ble_eq_true rfl, Nat.le_of_ble_eq_true rfl⟩ dX7_point_11 (fun r f253 H locs h254 hz hS => ?_)
    obtain ⟨rfl, k255⟩ := h254
    refine lv_if_eq (tgt := 20) hx hb dX7_point_14 (by decide) (fun c256 => ?_) (fun c256 => ?_)
    · exact absurd c256 (by decide)
    refine lv_bipush (v := (-3)) hx hb dX7_point_17 (by decide) ?_
    have a257 : f253 o = some (.inr (7, [.ref fa, .ref fi, .ref nu, .int (nI nl), .ref fm, .int (nI nf), .ref co, .int (nI nc), .ref en, .ref ke, .long lk])) := k255 _ _ a5 
    have a258 : f253 fa = some (.inr (2, [.int 0, .int (-1), .int 0, .ref ev])) := k255 _ _ a3 
    have a259 : f1 ev = some (.inl (cy 0, 8, .inl gv)) := k4 _ _ x_ev (z_ne x_ev x_fa rfl)
    have a260 : f253 ev = some (.inl (cy 0, 8, .inl gv)) := k255 _ _ a259 
    have a261 : f253 fi = some (.inr (5, [.ref al, .ref ra, .int (nI nn)])) := k255 _ _ a252 
    have a262 : f1 al = some (.inl (cy 3, 60, .inr (.inr (.inr (.inr ga))))) := k4 _ _ x_al (z_ne x_al x_fa rfl)
    have a263 : f253 al = some (.inl (cy 3, 60, .inr (.inr (.inr (.inr ga))))) := k255 _ _ a262 
    have a264 : f1 ra = some (.inl (cy 3, 60, .inr (.inr (.inr (.inr gr))))) := k4 _ _ x_ra (z_ne x_ra x_fa rfl)
    have a265 : f253 ra = some (.inl (cy 3, 60, .inr (.inr (.inr (.inr gr))))) := k255 _ _ a264 
    have a266 : f1 nu = some (.inl (cy 0, 12, .inl gu)) := k4 _ _ x_nu (z_ne x_nu x_fa rfl)
    have a267 : f253 nu = some (.inl (cy 0, 12, .inl gu)) := k255 _ _ a266 
    have a268 : f1 fm = some (.inl (cy 4, 6, .inr (.inr (.inr (.inr gf))))) := k4 _ _ x_fm (z_ne x_fm x_fa rfl)
    have a269 : f253 fm = some (.inl (cy 4, 6, .inr (.inr (.inr (.inr gf))))) := k255 _ _ a268 
    have a270 : f1 co = some (.inl (cy 5, 60, .inr (.inr (.inr (.inr gc))))) := k4 _ _ x_co (z_ne x_co x_fa rfl)
    have a271 : f253 co = some (.inl (cy 5, 60, .inr (.inr (.inr (.inr gc))))) := k255 _ _ a270 
    have a272 : f1 en = some (.inl (cy 6, 4, .inr (.inr (.inr (.inr ge))))) := k4 _ _ x_en (z_ne x_en x_fa rfl)
    have a273 : f253 en = some (.inl (cy 6, 4, .inr (.inr (.inr (.inr ge))))) := k255 _ _ a272 
    have a274 : f1 ke = some (.inr (6, [.ref kn, .ref vq, .int (nI ks)])) := k4 _ _ x_ke (z_ne x_ke x_fa rfl)
    have a275 : f253 ke = some (.inr (6, [.ref kn, .ref vq, .int (nI ks)])) := k255 _ _ a274 
    have a276 : f1 kn = some (.inl (cy 0, 40, .inl kk)) := k4 _ _ x_kn (z_ne x_kn x_fa rfl)
    have a277 : f253 kn = some (.inl (cy 0, 40, .inl kk)) := k255 _ _ a276 
    have a278 : f1 vq = some (.inl (cy 0, 40, .inl kv)) := k4 _ _ x_vq (z_ne x_vq x_fa rfl)
    have a279 : f253 vq = some (.inl (cy 0, 40, .inl kv)) := k255 _ _ a278 
    have F280 : ∀ i9 : Nat, i9 < nn → f1 (fg i9) = some (.inr (4, [.int (kd i9), .ref (pt i9), .long (wg i9), .int (wd i9), .int (nI i9), .int (hs i9), .int (bf i9)])) := fun i9 h9 => k4 _ _ (hF i9 h9) (z_ne (hF i9 h9) x_fa rfl)
    have F281 : ∀ i9 : Nat, i9 < nn → f253 (fg i9) = some (.inr (4, [.int (kd i9), .ref (pt i9), .long (wg i9), .int (wd i9), .int (nI i9), .int (hs i9), .int (bf i9)])) := fun i9 h9 => k255 _ _ (F280 i9 h9) 
    have F282 : ∀ i9 : Nat, i9 < nn → f1 (pt i9) = some (.inl (cy 1, (ln i9), .inr (.inl (pp i9)))) := fun i9 h9 => k4 _ _ (hP i9 h9) (z_neO (hP i9 h9) x_fa rfl)
    have F283 : ∀ i9 : Nat, i9 < nn → f253 (pt i9) = some (.inl (cy 1, (ln i9), .inr (.inl (pp i9)))) := fun i9 h9 => k255 _ _ (F282 i9 h9) 
    have F284 : ∀ i9 : Nat, i9 < nf → f1 (fq i9) = some (.inr (3, [.ref (fk i9), .int (nI (fz i9))])) := fun i9 h9 => k4 _ _ (hFq i9 h9) (z_ne (hFq i9 h9) x_fa rfl)
    have F285 : ∀ i9 : Nat, i9 < nf → f253 (fq i9) = some (.inr (3, [.ref (fk i9), .int (nI (fz i9))])) := fun i9 h9 => k255 _ _ (F284 i9 h9) 
    have F286 : ∀ i9 : Nat, i9 < nf → f1 (fk i9) = some (.inl (cy 0, 4, .inl (fc i9))) := fun i9 h9 => k4 _ _ (hFk i9 h9) (z_ne (hFk i9 h9) x_fa rfl)
    have F287 : ∀ i9 : Nat, i9 < nf → f253 (fk i9) = some (.inl (cy 0, 4, .inl (fc i9))) := fun i9 h9 => k255 _ _ (F286 i9 h9) 
    have F288 : ∀ i9 : Nat, i9 < nc → f1 (cn i9) = some (.inr (0, [.int (ce i9), .int (cm i9)])) := fun i9 h9 => k4 _ _ (hCn i9 h9) (z_ne (hCn i9 h9) x_fa rfl)
    have F289 : ∀ i9 : Nat, i9 < nc → f253 (cn i9) = some (.inr (0, [.int (ce i9), .int (cm i9)])) := fun i9 h9 => k255 _ _ (F288 i9 h9) 
    have F290 : ∀ i9 : Nat, i9 < 4 → f1 (ea i9) = some (.inr (1, [.ref (ma i9), .int (nI (sq i9))])) := fun i9 h9 => k4 _ _ (hEa i9 h9) (z_ne (hEa i9 h9) x_fa rfl)
    have F291 : ∀ i9 : Nat, i9 < 4 → f253 (ea i9) = some (.inr (1, [.ref (ma i9), .int (nI (sq i9))])) := fun i9 h9 => k255 _ _ (F290 i9 h9) 
    have F292 : ∀ i9 : Nat, i9 < 4 → f1 (ma i9) = some (.inl (cy 0, 60, .inl (mb i9))) := fun i9 h9 => k4 _ _ (hMa i9 h9) (z_ne (hMa i9 h9) x_fa rfl)
    have F293 : ∀ i9 : Nat, i9 < 4 → f253 (ma i9) = some (.inl (cy 0, 60, .inl (mb i9))) := fun i9 h9 => k255 _ _ (F292 i9 h9) 
    have hq : q_point nn = ((-3), 0, (-1), 0) := by simp [q_point, h60, c256]
    exact z_iret C hr rfl hz hS ⟨0, (-1), 0, gv, nl, gu, nn, ga, gr, fg, pt, kd, ln, pp, wg, wd, hs, bf, nf, gf, fq, fk, fz, fc, nc, gc, cn, ce, cm, sq, mb, ks, kk, kv, lk, (by rw [hq]), (by rw [hq]), (by rw [hq]), (by rw [hq]), (by rw [hq]; exact (zEV0 gv).symm), rfl, rfl, (by rw [if_neg (by decide)]), (by rw [if_neg (by decide)]), (by rw [if_neg (by decide)]), (zPP_no (by decide)), (by rw [if_neg (by decide)]), (by rw [if_neg (by decide)]), rfl, rfl, rfl, rfl, rfl, rfl, rfl, rfl, rfl, rfl, rfl, rfl, (by rw [if_neg (by decide)]), ⟨a257, a258, a260, a261, a263, a265, a267, a269, a271, a273, a275, a277, a279, F281, F283, F285, F287, F289, F291, F293, hn60, hl12, hf6, hc60, hs40, hga, hgr, hln, hk5, hk4, hfi, hpi, har, hgf, hfz, hgc, hG, hsq, hei, hmi, kne, hca, hcr, hlk⟩⟩ (Nat.le_of_ble_eq_true rfl) (Nat.le_of_ble_eq_true rfl) dX7_point_19
abbrev rmX7_span : Room := { frames := 6, cells := 2, slots := 9, locals := 140 }
set_option maxHeartbeats 4000000 in
set_option maxRecDepth 100000 in
theorem k_X7_span (l : Launch) (D : va_G) (cy : Nat → ClassId) (f : zM) (o : Nat) (fa : Nat) (fi : Nat) (nu : Nat) (fm : Nat) (co : Nat) (en : Nat) (ke : Nat) (ev : Nat) (al : Nat) (ra : Nat) (kn : Nat) (vq : Nat) (ge : Nat → Option Nat) (ea : Nat → Nat) (ma : Nat → Nat) (u1 : Int32) (u2 : Int32) (u3 : Int32) (gv : Nat → Int32) (nl : Nat) (gu : Nat → Int32) (nn : Nat) (ga : Nat → Option Nat) (gr : Nat → Option Nat) (fg : Nat → Nat) (pt : Nat → Nat) (kd : Nat → Int32) (ln : Nat → Nat) (pp : Nat → Nat → Int64) (wg : Nat → Int64) (wd : Nat → Int32) (hs : Nat → Int32) (bf : Nat → Int32) (nf : Nat) (gf : Nat → Option Nat) (fq : Nat → Nat) (fk : Nat → Nat) (fz : Nat → Nat) (fc : Nat → Nat → Int32) (nc : Nat) (gc : Nat → Option Nat) (cn : Nat → Nat) (ce : Nat → Int32) (cm : Nat → Int32) (sq : Nat → Nat) (mb : Nat → Nat → Int32) (ks : Nat) (kk : Nat → Int32) (kv : Nat → Int32) (lk : Int64) (x : Int32) (y : Int32)    (hI : zIX cy f o fa fi nu fm co en ke ev al ra kn vq ge ea ma u1 u2 u3 gv nl gu nn ga gr fg pt kd ln pp wg wd hs bf nf gf fq fk fz fc nc gc cn ce cm sq mb ks kk kv lk) : zCi l D cy yX7_span cX7_span 3 (Option.some Jvm.ClassFile.FieldType.int) rmX7_span [.ref o, .int x, .int y] f (fun (r : Int32) (f1 : zM) => ∃ (u11 : Int32) (u21 : Int32) (u31 : Int32) (gv1 : Nat → Int32) (nl1 : Nat) (gu1 : Nat → Int32) (nn1 : Nat) (ga1 : Nat → Option Nat) (gr1 : Nat → Option Nat) (fg1 : Nat → Nat) (pt1 : Nat → Nat) (kd1 : Nat → Int32) (ln1 : Nat → Nat) (pp1 : Nat → Nat → Int64) (wg1 : Nat → Int64) (wd1 : Nat → Int32) (hs1 : Nat → Int32) (bf1 : Nat → Int32) (nf1 : Nat) (gf1 : Nat → Option Nat) (fq1 : Nat → Nat) (fk1 : Nat → Nat) (fz1 : Nat → Nat) (fc1 : Nat → Nat → Int32) (nc1 : Nat) (gc1 : Nat → Option Nat) (cn1 : Nat → Nat) (ce1 : Nat → Int32) (cm1 : Nat → Int32) (sq1 : Nat → Nat) (mb1 : Nat → Nat → Int32) (ks1 : Nat) (kk1 : Nat → Int32) (kv1 : Nat → Int32) (lk1 : Int64), r = ((q_span nn x y).1) ∧ (u11 = (q_span nn x y).2.1) ∧ (u21 = (q_span nn x y).2.2.1) ∧ (u31 = (q_span nn x y).2.2.2) ∧ (gv1 = zEV gv (q_span nn x y).2.1) ∧ (nl1 = nl) ∧ (gu1 = gu) ∧ (nn1 = if 0 ≤ r then nn + 1 else nn) ∧ (kd1 = if 0 ≤ r then va_up kd nn 1 else kd) ∧ (ln1 = if 0 ≤ r then va_up ln nn (2) else ln) ∧ (zPP nn (0 ≤ r) (2) (q2 x.toInt64 y.toInt64) pp pp1) ∧ (wd1 = if 0 ≤ r then va_up wd nn 0 else wd) ∧ (hs1 = if 0 ≤ r then va_up hs nn (zHash 1 nn (2) (q2 x.toInt64 y.toInt64) hs) else hs) ∧ (nf1 = nf) ∧ (fz1 = fz) ∧ (fc1 = fc) ∧ (nc1 = nc) ∧ (ce1 = ce) ∧ (cm1 = cm) ∧ (sq1 = sq) ∧ (mb1 = mb) ∧ (ks1 = ks) ∧ (kk1 = kk) ∧ (kv1 = kv) ∧ (lk1 = lk) ∧ (wg1 = if 0 ≤ r then va_up wg nn (y.toInt64 - x.toInt64 + 1) else wg) ∧ zIX cy f1 o fa fi nu fm co en ke ev al ra kn vq ge ea ma u11 u21 u31 gv1 nl1 gu1 nn1 ga1 gr1 fg1 pt1 kd1 ln1 pp1 wg1 wd1 hs1 bf1 nf1 gf1 fq1 fk1 fz1 fc1 nc1 gc1 cn1 ce1 cm1 sq1 mb1 ks1 kk1 kv1 lk1) := by
  intro sz
  refine z_body (by decide +kernel) (Nat.le_of_ble_eq_true rfl) ?_
  intro p e s m below meth c ls C hr hin hsz hz hl
  subst hsz
  have hx := C.1
  have hb := C.2.1
  have hA : ∀ q, s.heap.size ≤ q → zA f s.heap.size q := fun q h => Or.inr h
  have hS : va_S (zA f s.heap.size) s.heap s.heap [] := va_S.rf
  have hl : lv_has ls 3 [(0, .ref o), (1, .int x), (2, .int y)] := hl
  obtain ⟨x_o, x_fa, x_ev, x_fi, x_al, x_ra, x_nu, x_fm, x_co, x_en, x_ke, x_kn, x_vq, hF, hP, hFq, hFk, hCn, hEa, hMa, hn60, hl12, hf6, hc60, hs40, hga, hgr, hln, hk5, hk4, hfi, hpi, har, hgf, hfz, hgc, hG, hsq, hei, hmi, kne, hca, hcr, hlk⟩ := id hI
  refine lv_aload_n hx hb dX7_span_0 rfl (lv_at hl 0 rfl) ?_
  refine z_get (v := .ref fa) C hz x_o zl7 mFX7_10 (by decide) rfl dX7_span_1 ?_
  refine z_callVv (As := []) C hz hS hA hl (k_X2_none l D cy f fa u1 u2 u3 ev x_fa ) zyX2_none mMX7_76 x_fa zl2 rfl rfl (Nat.le_of_ble_eq_true rfl) ⟨Nat.le_of_ble_eq_true rfl, Nat.le_of_ble_eq_true rfl⟩ ⟨Nat.le_of_ble_eq_true rfl, Nat.le_of_ble_eq_true rfl⟩ dX7_span_4 (fun  f1 H locs h2 hz hS => ?_)
  obtain ⟨a3, k4⟩ := h2
  refine lv_aload_n hx hb dX7_span_7 rfl (lv_at hl 0 rfl) ?_
  have a5 : f1 o = some (.inr (7, [.ref fa, .ref fi, .ref nu, .int (nI nl), .ref fm, .int (nI nf), .ref co, .int (nI nc), .ref en, .ref ke, .long lk])) := k4 _ _ x_o (z_ne x_o x_fa rfl)
  refine z_get (v := .ref fi) C hz a5 zl7 mFX7_19 (by decide) rfl dX7_span_8 ?_
  by_cases h60 : nn < 60
  · have a6 : f1 fi = some (.inr (5, [.ref al, .ref ra, .int (nI nn)])) := k4 _ _ x_fi (z_ne x_fi x_fa rfl)
    refine z_callVi (As := []) C hz hS hA hl (k_X5_isFull_A l D cy f1 fi al ra nn a6 hn60 h60) zyX5_isFull mMX7_79 a6 zl5 rfl rfl (Nat.le_of_ble_eq_true rfl) ⟨Nat.le_of_ble_eq_true rfl, Nat.le_of_ble_eq_true rfl⟩ ⟨Nat.le_of_ble_eq_true rfl, Nat.le_of_ble_eq_true rfl⟩ dX7_span_11 (fun r f7 H locs h8 hz hS => ?_)
    obtain ⟨rfl, k9⟩ := h8
    refine lv_if_eq (tgt := 20) hx hb dX7_span_14 (by decide) (fun c10 => ?_) (fun c10 => ?_)
    rotate_left
    · exact absurd c10 (by decide)
    refine lv_iload_n hx hb dX7_span_20 rfl (lv_at hl 1 rfl) ?_
    refine lv_iload_n hx hb dX7_span_21 rfl (lv_at hl 2 rfl) ?_
    refine lv_icmp_le (tgt := 35) hx hb dX7_span_22 (by decide) (fun c11 => ?_) (fun c11 => ?_)
    · refine lv_aload_n hx hb dX7_span_35 rfl (lv_at hl 0 rfl) ?_
      have a12 : f7 o = some (.inr (7, [.ref fa, .ref fi, .ref nu, .int (nI nl), .ref fm, .int (nI nf), .ref co, .int (nI nc), .ref en, .ref ke, .long lk])) := k9 _ _ a5 
      refine z_get (v := .ref fi) C hz a12 zl7 mFX7_19 (by decide) rfl dX7_span_36 ?_
      refine z_new (fs := [.int 0, .null, .long 0, .int 0, .int 0, .int 0, .int 0]) C hz hS hA zl4 mLX7_83 mIa_RX4 mIn_RX4 (by decide +kernel) (Nat.le_of_ble_eq_true rfl) (Nat.le_of_ble_eq_true rfl) dX7_span_39 (fun q13 H f15 u14 a16 k17 hz hS => ?_)
      refine lv_dup hx hb dX7_span_42 rfl ?_
      refine lv_iconst (v := 1) hx hb dX7_span_43 (by decide) ?_
      refine lv_iconst (v := 2) hx hb dX7_span_44 (by decide) ?_
      refine z_newa (atype := .long) (t0 := 1) (N' := 2) (x := (.inr (.inl (fun _ => 0)))) C hz hS hA rfl mA_long rfl (fun _ => rfl) (by decide) (Nat.le_of_ble_eq_true rfl) (by decide) (Nat.le_of_ble_eq_true rfl) (Nat.le_of_ble_eq_true rfl) dX7_span_45 (fun q18 H f20 u19 a21 k22 hz hS => ?_)
      refine lv_dup hx hb dX7_span_47 rfl ?_
      refine lv_iconst (v := 0) hx hb dX7_span_48 (by decide) ?_
      refine lv_iload_n hx hb dX7_span_49 rfl (lv_at hl 1 rfl) ?_
      refine lv_i2l (v := x.toInt64) hx hb dX7_span_50 rfl ?_
      refine z_last 0 C hz hS a21 (by decide) (Nat.le_of_ble_eq_true rfl) (by omega) dX7_span_51 (fun H locs f23 a24 k25 hz hS => ?_)
      refine lv_dup hx hb dX7_span_52 rfl ?_
      refine lv_iconst (v := 1) hx hb dX7_span_53 (by decide) ?_
      refine lv_iload_n hx hb dX7_span_54 rfl (lv_at hl 2 rfl) ?_
      refine lv_i2l (v := y.toInt64) hx hb dX7_span_55 rfl ?_
      refine z_last 1 C hz hS a24 (by decide) (Nat.le_of_ble_eq_true rfl) (by omega) dX7_span_56 (fun H locs f26 a27 k28 hz hS => ?_)
      refine lv_iload_n hx hb dX7_span_57 rfl (lv_at hl 1 rfl) ?_
      refine lv_iload_n hx hb dX7_span_58 rfl (lv_at hl 2 rfl) ?_
      refine z_callSl (As := [.int x, .int y]) C hz hS hA hl (k_X7_lengthOf l D cy f26 x y  ) zyX7_lengthOf mMX7_100 rfl rfl (Nat.le_of_ble_eq_true rfl) ⟨Nat.le_of_ble_eq_true rfl, Nat.le_of_ble_eq_true rfl⟩ ⟨Nat.le_of_ble_eq_true rfl, Nat.le_of_ble_eq_true rfl⟩ dX7_span_59 (fun r f29 H locs h30 hz hS => ?_)
      obtain ⟨rfl, k31⟩ := h30
      have a32 : f20 q13 = some (.inr (4, [.int 0, .null, .long 0, .int 0, .int 0, .int 0, .int 0])) := (k22 _ (z_nn u19 a16)).trans a16
      have a33 : f23 q13 = some (.inr (4, [.int 0, .null, .long 0, .int 0, .int 0, .int 0, .int 0])) := (k25 _ (z_nn u19 a16)).trans a32
      have a34 : f26 q13 = some (.inr (4, [.int 0, .null, .long 0, .int 0, .int 0, .int 0, .int 0])) := (k28 _ (z_nn u19 a16)).trans a33
      have a35 : f29 q13 = some (.inr (4, [.int 0, .null, .long 0, .int 0, .int 0, .int 0, .int 0])) := k31 _ _ a34 
      refine z_callIv (ret := none) (As := [.int 1, .ref q18, .long (y.toInt64 - x.toInt64 + 1)]) C hz hS hA hl (k_X4_init l D cy f29 q13 1 q18 (y.toInt64 - x.toInt64 + 1) a35 ) zyX4_init mMX7_89 rfl rfl (Nat.le_of_ble_eq_true rfl) ⟨Nat.le_of_ble_eq_true rfl, Nat.le_of_ble_eq_true rfl⟩ ⟨Nat.le_of_ble_eq_true rfl, Nat.le_of_ble_eq_true rfl⟩ dX7_span_62 (fun  f36 H locs h37 hz hS => ?_)
      obtain ⟨a38, k39⟩ := h37
      have a40 : f7 fi = some (.inr (5, [.ref al, .ref ra, .int (nI nn)])) := k9 _ _ a6 
      have a41 : f15 fi = some (.inr (5, [.ref al, .ref ra, .int (nI nn)])) := (k17 _ (z_nn u14 a40)).trans a40
      have a42 : f20 fi = some (.inr (5, [.ref al, .ref ra, .int (nI nn)])) := (k22 _ (z_nn u19 a41)).trans a41
      have a43 : f23 fi = some (.inr (5, [.ref al, .ref ra, .int (nI nn)])) := (k25 _ (z_nn u19 a41)).trans a42
      have a44 : f26 fi = some (.inr (5, [.ref al, .ref ra, .int (nI nn)])) := (k28 _ (z_nn u19 a41)).trans a43
      have a45 : f29 fi = some (.inr (5, [.ref al, .ref ra, .int (nI nn)])) := k31 _ _ a44 
      have a46 : f36 fi = some (.inr (5, [.ref al, .ref ra, .int (nI nn)])) := k39 _ _ a45 (z_nn u14 a40)
      have a47 : f1 al = some (.inl (cy 3, 60, .inr (.inr (.inr (.inr ga))))) := k4 _ _ x_al (z_ne x_al x_fa rfl)
      have a48 : f7 al = some (.inl (cy 3, 60, .inr (.inr (.inr (.inr ga))))) := k9 _ _ a47 
      have a49 : f15 al = some (.inl (cy 3, 60, .inr (.inr (.inr (.inr ga))))) := (k17 _ (z_nn u14 a48)).trans a48
      have a50 : f20 al = some (.inl (cy 3, 60, .inr (.inr (.inr (.inr ga))))) := (k22 _ (z_nn u19 a49)).trans a49
      have a51 : f23 al = some (.inl (cy 3, 60, .inr (.inr (.inr (.inr ga))))) := (k25 _ (z_nn u19 a49)).trans a50
      have a52 : f26 al = some (.inl (cy 3, 60, .inr (.inr (.inr (.inr ga))))) := (k28 _ (z_nn u19 a49)).trans a51
      have a53 : f29 al = some (.inl (cy 3, 60, .inr (.inr (.inr (.inr ga))))) := k31 _ _ a52 
      have a54 : f36 al = some (.inl (cy 3, 60, .inr (.inr (.inr (.inr ga))))) := k39 _ _ a53 (z_nn u14 a48)
      have a55 : f1 ra = some (.inl (cy 3, 60, .inr (.inr (.inr (.inr gr))))) := k4 _ _ x_ra (z_ne x_ra x_fa rfl)
      have a56 : f7 ra = some (.inl (cy 3, 60, .inr (.inr (.inr (.inr gr))))) := k9 _ _ a55 
      have a57 : f15 ra = some (.inl (cy 3, 60, .inr (.inr (.inr (.inr gr))))) := (k17 _ (z_nn u14 a56)).trans a56
      have a58 : f20 ra = some (.inl (cy 3, 60, .inr (.inr (.inr (.inr gr))))) := (k22 _ (z_nn u19 a57)).trans a57
      have a59 : f23 ra = some (.inl (cy 3, 60, .inr (.inr (.inr (.inr gr))))) := (k25 _ (z_nn u19 a57)).trans a58
      have a60 : f26 ra = some (.inl (cy 3, 60, .inr (.inr (.inr (.inr gr))))) := (k28 _ (z_nn u19 a57)).trans a59
      have a61 : f29 ra = some (.inl (cy 3, 60, .inr (.inr (.inr (.inr gr))))) := k31 _ _ a60 
      have a62 : f36 ra = some (.inl (cy 3, 60, .inr (.inr (.inr (.inr gr))))) := k39 _ _ a61 (z_nn u14 a56)
      have a63 : f29 q18 = some (.inl (cy 1, 2, .inr (.inl (vp_updL (vp_updL (fun _ => 0) 0 x.toInt64) 1 y.toInt64)))) := k31 _ _ a27 
      have a64 : f36 q18 = some (.inl (cy 1, 2, .inr (.inl (vp_updL (vp_updL (fun _ => 0) 0 x.toInt64) 1 y.toInt64)))) := k39 _ _ a63 (Ne.symm (z_nn u19 a16))
      have F65 : ∀ i9 : Nat, i9 < nn → f1 (fg i9) = some (.inr (4, [.int (kd i9), .ref (pt i9), .long (wg i9), .int (wd i9), .int (nI i9), .int (hs i9), .int (bf i9)])) := fun i9 h9 => k4 _ _ (hF i9 h9) (z_ne (hF i9 h9) x_fa rfl)
      have F66 : ∀ i9 : Nat, i9 < nn → f7 (fg i9) = some (.inr (4, [.int (kd i9), .ref (pt i9), .long (wg i9), .int (wd i9), .int (nI i9), .int (hs i9), .int (bf i9)])) := fun i9 h9 => k9 _ _ (F65 i9 h9) 
      have F67 : ∀ i9 : Nat, i9 < nn → f15 (fg i9) = some (.inr (4, [.int (kd i9), .ref (pt i9), .long (wg i9), .int (wd i9), .int (nI i9), .int (hs i9), .int (bf i9)])) := fun i9 h9 => (k17 _ (z_nn u14 (F66 i9 h9))).trans (F66 i9 h9)
      have F68 : ∀ i9 : Nat, i9 < nn → f20 (fg i9) = some (.inr (4, [.int (kd i9), .ref (pt i9), .long (wg i9), .int (wd i9), .int (nI i9), .int (hs i9), .int (bf i9)])) := fun i9 h9 => (k22 _ (z_nn u19 (F67 i9 h9))).trans (F67 i9 h9)
      have F69 : ∀ i9 : Nat, i9 < nn → f23 (fg i9) = some (.inr (4, [.int (kd i9), .ref (pt i9), .long (wg i9), .int (wd i9), .int (nI i9), .int (hs i9), .int (bf i9)])) := fun i9 h9 => (k25 _ (z_nn u19 (F67 i9 h9))).trans (F68 i9 h9)
      have F70 : ∀ i9 : Nat, i9 < nn → f26 (fg i9) = some (.inr (4, [.int (kd i9), .ref (pt i9), .long (wg i9), .int (wd i9), .int (nI i9), .int (hs i9), .int (bf i9)])) := fun i9 h9 => (k28 _ (z_nn u19 (F67 i9 h9))).trans (F69 i9 h9)
      have F71 : ∀ i9 : Nat, i9 < nn → f29 (fg i9) = some (.inr (4, [.int (kd i9), .ref (pt i9), .long (wg i9), .int (wd i9), .int (nI i9), .int (hs i9), .int (bf i9)])) := fun i9 h9 => k31 _ _ (F70 i9 h9) 
      have F72 : ∀ i9 : Nat, i9 < nn → f36 (fg i9) = some (.inr (4, [.int (kd i9), .ref (pt i9), .long (wg i9), .int (wd i9), .int (nI i9), .int (hs i9), .int (bf i9)])) := fun i9 h9 => k39 _ _ (F71 i9 h9) (z_nn u14 (F66 i9 h9))
      have F73 : ∀ i9 : Nat, i9 < nn → f1 (pt i9) = some (.inl (cy 1, (ln i9), .inr (.inl (pp i9)))) := fun i9 h9 => k4 _ _ (hP i9 h9) (z_neO (hP i9 h9) x_fa rfl)
      have F74 : ∀ i9 : Nat, i9 < nn → f7 (pt i9) = some (.inl (cy 1, (ln i9), .inr (.inl (pp i9)))) := fun i9 h9 => k9 _ _ (F73 i9 h9) 
      have F75 : ∀ i9 : Nat, i9 < nn → f15 (pt i9) = some (.inl (cy 1, (ln i9), .inr (.inl (pp i9)))) := fun i9 h9 => (k17 _ (z_nn u14 (F74 i9 h9))).trans (F74 i9 h9)
      have F76 : ∀ i9 : Nat, i9 < nn → f20 (pt i9) = some (.inl (cy 1, (ln i9), .inr (.inl (pp i9)))) := fun i9 h9 => (k22 _ (z_nn u19 (F75 i9 h9))).trans (F75 i9 h9)
      have F77 : ∀ i9 : Nat, i9 < nn → f23 (pt i9) = some (.inl (cy 1, (ln i9), .inr (.inl (pp i9)))) := fun i9 h9 => (k25 _ (z_nn u19 (F75 i9 h9))).trans (F76 i9 h9)
      have F78 : ∀ i9 : Nat, i9 < nn → f26 (pt i9) = some (.inl (cy 1, (ln i9), .inr (.inl (pp i9)))) := fun i9 h9 => (k28 _ (z_nn u19 (F75 i9 h9))).trans (F77 i9 h9)
      have F79 : ∀ i9 : Nat, i9 < nn → f29 (pt i9) = some (.inl (cy 1, (ln i9), .inr (.inl (pp i9)))) := fun i9 h9 => k31 _ _ (F78 i9 h9) 
      have F80 : ∀ i9 : Nat, i9 < nn → f36 (pt i9) = some (.inl (cy 1, (ln i9), .inr (.inl (pp i9)))) := fun i9 h9 => k39 _ _ (F79 i9 h9) (z_nn u14 (F74 i9 h9))
      refine z_callVi (As := [.ref q13]) C hz hS hA hl (k_X5_add l D cy f36 fi al ra ga gr nn fg pt kd ln pp wg wd hs bf q13 1 q18 (y.toInt64 - x.toInt64 + 1) 0 (-1) 0 0 2 (vp_updL (vp_updL (fun _ => 0) 0 x.toInt64) 1 y.toInt64) a46 a54 a62 a38 a64 F72 F80 h60 hga hgr hln hk5 hfi (fun j9 h9 => z_nn u14 (F66 j9 h9)) (by omega) (fun h9 => absurd h9 (by decide)) har (fun h9 => absurd h9 (by decide))) zyX5_add mMX7_92 a46 zl5 rfl rfl (Nat.le_of_ble_eq_true rfl) ⟨Nat.le_of_ble_eq_true rfl, Nat.le_of_ble_eq_true rfl⟩ ⟨Nat.le_of_ble_eq_true rfl, Nat.le_of_ble_eq_true rfl⟩ dX7_span_65 (fun r f81 H locs h82 hz hS => ?_)
      obtain ⟨hq_83, bq_84, gr_85, bf_86, rfl, p87, p88, a89, a90, a91, F92, F93, k94⟩ := h82
      have a95 : f15 o = some (.inr (7, [.ref fa, .ref fi, .ref nu, .int (nI nl), .ref fm, .int (nI nf), .ref co, .int (nI nc), .ref en, .ref ke, .long lk])) := (k17 _ (z_nn u14 a12)).trans a12
      have a96 : f20 o = some (.inr (7, [.ref fa, .ref fi, .ref nu, .int (nI nl), .ref fm, .int (nI nf), .ref co, .int (nI nc), .ref en, .ref ke, .long lk])) := (k22 _ (z_nn u19 a95)).trans a95
      have a97 : f23 o = some (.inr (7, [.ref fa, .ref fi, .ref nu, .int (nI nl), .ref fm, .int (nI nf), .ref co, .int (nI nc), .ref en, .ref ke, .long lk])) := (k25 _ (z_nn u19 a95)).trans a96
      have a98 : f26 o = some (.inr (7, [.ref fa, .ref fi, .ref nu, .int (nI nl), .ref fm, .int (nI nf), .ref co, .int (nI nc), .ref en, .ref ke, .long lk])) := (k28 _ (z_nn u19 a95)).trans a97
      have a99 : f29 o = some (.inr (7, [.ref fa, .ref fi, .ref nu, .int (nI nl), .ref fm, .int (nI nf), .ref co, .int (nI nc), .ref en, .ref ke, .long lk])) := k31 _ _ a98 
      have a100 : f36 o = some (.inr (7, [.ref fa, .ref fi, .ref nu, .int (nI nl), .ref fm, .int (nI nf), .ref co, .int (nI nc), .ref en, .ref ke, .long lk])) := k39 _ _ a99 (z_nn u14 a12)
      have a101 : f81 o = some (.inr (7, [.ref fa, .ref fi, .ref nu, .int (nI nl), .ref fm, .int (nI nf), .ref co, .int (nI nc), .ref en, .ref ke, .long lk])) := k94 _ _ a100 (z_ne a100 a46 rfl) (z_ne a100 a54 rfl) (z_ne a100 a62 rfl) (z_nn u14 a12) (fun j9 h8 => (z_ne a100 (F72 j9 h8) rfl))
      have a102 : f7 fa = some (.inr (2, [.int 0, .int (-1), .int 0, .ref ev])) := k9 _ _ a3 
      have a103 : f15 fa = some (.inr (2, [.int 0, .int (-1), .int 0, .ref ev])) := (k17 _ (z_nn u14 a102)).trans a102
      have a104 : f20 fa = some (.inr (2, [.int 0, .int (-1), .int 0, .ref ev])) := (k22 _ (z_nn u19 a103)).trans a103
      have a105 : f23 fa = some (.inr (2, [.int 0, .int (-1), .int 0, .ref ev])) := (k25 _ (z_nn u19 a103)).trans a104
      have a106 : f26 fa = some (.inr (2, [.int 0, .int (-1), .int 0, .ref ev])) := (k28 _ (z_nn u19 a103)).trans a105
      have a107 : f29 fa = some (.inr (2, [.int 0, .int (-1), .int 0, .ref ev])) := k31 _ _ a106 
      have a108 : f36 fa = some (.inr (2, [.int 0, .int (-1), .int 0, .ref ev])) := k39 _ _ a107 (z_nn u14 a102)
      have a109 : f81 fa = some (.inr (2, [.int 0, .int (-1), .int 0, .ref ev])) := k94 _ _ a108 (z_ne a108 a46 rfl) (z_ne a108 a54 rfl) (z_ne a108 a62 rfl) (z_nn u14 a102) (fun j9 h8 => (z_ne a108 (F72 j9 h8) rfl))
      have a110 : f1 ev = some (.inl (cy 0, 8, .inl gv)) := k4 _ _ x_ev (z_ne x_ev x_fa rfl)
      have a111 : f7 ev = some (.inl (cy 0, 8, .inl gv)) := k9 _ _ a110 
      have a112 : f15 ev = some (.inl (cy 0, 8, .inl gv)) := (k17 _ (z_nn u14 a111)).trans a111
      have a113 : f20 ev = some (.inl (cy 0, 8, .inl gv)) := (k22 _ (z_nn u19 a112)).trans a112
      have a114 : f23 ev = some (.inl (cy 0, 8, .inl gv)) := (k25 _ (z_nn u19 a112)).trans a113
      have a115 : f26 ev = some (.inl (cy 0, 8, .inl gv)) := (k28 _ (z_nn u19 a112)).trans a114
      have a116 : f29 ev = some (.inl (cy 0, 8, .inl gv)) := k31 _ _ a115 
      have a117 : f36 ev = some (.inl (cy 0, 8, .inl gv)) := k39 _ _ a116 (z_nn u14 a111)
      have a118 : f81 ev = some (.inl (cy 0, 8, .inl gv)) := k94 _ _ a117 (z_ne a117 a46 rfl) (z_ne a117 a54 rfl) (z_ne a117 a62 rfl) (z_nn u14 a111) (fun j9 h8 => (z_ne a117 (F72 j9 h8) rfl))
      have a119 : f1 nu = some (.inl (cy 0, 12, .inl gu)) := k4 _ _ x_nu (z_ne x_nu x_fa rfl)
      have a120 : f7 nu = some (.inl (cy 0, 12, .inl gu)) := k9 _ _ a119 
      have a121 : f15 nu = some (.inl (cy 0, 12, .inl gu)) := (k17 _ (z_nn u14 a120)).trans a120
      have a122 : f20 nu = some (.inl (cy 0, 12, .inl gu)) := (k22 _ (z_nn u19 a121)).trans a121
      have a123 : f23 nu = some (.inl (cy 0, 12, .inl gu)) := (k25 _ (z_nn u19 a121)).trans a122
      have a124 : f26 nu = some (.inl (cy 0, 12, .inl gu)) := (k28 _ (z_nn u19 a121)).trans a123
      have a125 : f29 nu = some (.inl (cy 0, 12, .inl gu)) := k31 _ _ a124 
      have a126 : f36 nu = some (.inl (cy 0, 12, .inl gu)) := k39 _ _ a125 (z_nn u14 a120)
      have a127 : f81 nu = some (.inl (cy 0, 12, .inl gu)) := k94 _ _ a126 (z_ne a126 a46 rfl) (z_ne a126 a54 rfl) (z_ne a126 a62 rfl) (z_nn u14 a120) (fun j9 h8 => (z_ne a126 (F72 j9 h8) rfl))
      have a128 : f1 fm = some (.inl (cy 4, 6, .inr (.inr (.inr (.inr gf))))) := k4 _ _ x_fm (z_ne x_fm x_fa rfl)
      have a129 : f7 fm = some (.inl (cy 4, 6, .inr (.inr (.inr (.inr gf))))) := k9 _ _ a128 
      have a130 : f15 fm = some (.inl (cy 4, 6, .inr (.inr (.inr (.inr gf))))) := (k17 _ (z_nn u14 a129)).trans a129
      have a131 : f20 fm = some (.inl (cy 4, 6, .inr (.inr (.inr (.inr gf))))) := (k22 _ (z_nn u19 a130)).trans a130
      have a132 : f23 fm = some (.inl (cy 4, 6, .inr (.inr (.inr (.inr gf))))) := (k25 _ (z_nn u19 a130)).trans a131
      have a133 : f26 fm = some (.inl (cy 4, 6, .inr (.inr (.inr (.inr gf))))) := (k28 _ (z_nn u19 a130)).trans a132
      have a134 : f29 fm = some (.inl (cy 4, 6, .inr (.inr (.inr (.inr gf))))) := k31 _ _ a133 
      have a135 : f36 fm = some (.inl (cy 4, 6, .inr (.inr (.inr (.inr gf))))) := k39 _ _ a134 (z_nn u14 a129)
      have a136 : f81 fm = some (.inl (cy 4, 6, .inr (.inr (.inr (.inr gf))))) := k94 _ _ a135 (z_ne a135 a46 rfl) (z_ne a135 a54 rfl) (z_ne a135 a62 rfl) (z_nn u14 a129) (fun j9 h8 => (z_ne a135 (F72 j9 h8) rfl))
      have a137 : f1 co = some (.inl (cy 5, 60, .inr (.inr (.inr (.inr gc))))) := k4 _ _ x_co (z_ne x_co x_fa rfl)
      have a138 : f7 co = some (.inl (cy 5, 60, .inr (.inr (.inr (.inr gc))))) := k9 _ _ a137 
      have a139 : f15 co = some (.inl (cy 5, 60, .inr (.inr (.inr (.inr gc))))) := (k17 _ (z_nn u14 a138)).trans a138
      have a140 : f20 co = some (.inl (cy 5, 60, .inr (.inr (.inr (.inr gc))))) := (k22 _ (z_nn u19 a139)).trans a139
      have a141 : f23 co = some (.inl (cy 5, 60, .inr (.inr (.inr (.inr gc))))) := (k25 _ (z_nn u19 a139)).trans a140
      have a142 : f26 co = some (.inl (cy 5, 60, .inr (.inr (.inr (.inr gc))))) := (k28 _ (z_nn u19 a139)).trans a141
      have a143 : f29 co = some (.inl (cy 5, 60, .inr (.inr (.inr (.inr gc))))) := k31 _ _ a142 
      have a144 : f36 co = some (.inl (cy 5, 60, .inr (.inr (.inr (.inr gc))))) := k39 _ _ a143 (z_nn u14 a138)
      have a145 : f81 co = some (.inl (cy 5, 60, .inr (.inr (.inr (.inr gc))))) := k94 _ _ a144 (z_ne a144 a46 rfl) hca hcr (z_nn u14 a138) (fun j9 h8 => (z_ne a144 (F72 j9 h8) rfl))
      have a146 : f1 en = some (.inl (cy 6, 4, .inr (.inr (.inr (.inr ge))))) := k4 _ _ x_en (z_ne x_en x_fa rfl)
      have a147 : f7 en = some (.inl (cy 6, 4, .inr (.inr (.inr (.inr ge))))) := k9 _ _ a146 
      have a148 : f15 en = some (.inl (cy 6, 4, .inr (.inr (.inr (.inr ge))))) := (k17 _ (z_nn u14 a147)).trans a147
      have a149 : f20 en = some (.inl (cy 6, 4, .inr (.inr (.inr (.inr ge))))) := (k22 _ (z_nn u19 a148)).trans a148
      have a150 : f23 en = some (.inl (cy 6, 4, .inr (.inr (.inr (.inr ge))))) := (k25 _ (z_nn u19 a148)).trans a149
      have a151 : f26 en = some (.inl (cy 6, 4, .inr (.inr (.inr (.inr ge))))) := (k28 _ (z_nn u19 a148)).trans a150
      have a152 : f29 en = some (.inl (cy 6, 4, .inr (.inr (.inr (.inr ge))))) := k31 _ _ a151 
      have a153 : f36 en = some (.inl (cy 6, 4, .inr (.inr (.inr (.inr ge))))) := k39 _ _ a152 (z_nn u14 a147)
      have a154 : f81 en = some (.inl (cy 6, 4, .inr (.inr (.inr (.inr ge))))) := k94 _ _ a153 (z_ne a153 a46 rfl) (z_ne a153 a54 rfl) (z_ne a153 a62 rfl) (z_nn u14 a147) (fun j9 h8 => (z_ne a153 (F72 j9 h8) rfl))
      have a155 : f1 ke = some (.inr (6, [.ref kn, .ref vq, .int (nI ks)])) := k4 _ _ x_ke (z_ne x_ke x_fa rfl)
      have a156 : f7 ke = some (.inr (6, [.ref kn, .ref vq, .int (nI ks)])) := k9 _ _ a155 
      have a157 : f15 ke = some (.inr (6, [.ref kn, .ref vq, .int (nI ks)])) := (k17 _ (z_nn u14 a156)).trans a156
      have a158 : f20 ke = some (.inr (6, [.ref kn, .ref vq, .int (nI ks)])) := (k22 _ (z_nn u19 a157)).trans a157
      have a159 : f23 ke = some (.inr (6, [.ref kn, .ref vq, .int (nI ks)])) := (k25 _ (z_nn u19 a157)).trans a158
      have a160 : f26 ke = some (.inr (6, [.ref kn, .ref vq, .int (nI ks)])) := (k28 _ (z_nn u19 a157)).trans a159
      have a161 : f29 ke = some (.inr (6, [.ref kn, .ref vq, .int (nI ks)])) := k31 _ _ a160 
      have a162 : f36 ke = some (.inr (6, [.ref kn, .ref vq, .int (nI ks)])) := k39 _ _ a161 (z_nn u14 a156)
      have a163 : f81 ke = some (.inr (6, [.ref kn, .ref vq, .int (nI ks)])) := k94 _ _ a162 (z_ne a162 a46 rfl) (z_ne a162 a54 rfl) (z_ne a162 a62 rfl) (z_nn u14 a156) (fun j9 h8 => (z_ne a162 (F72 j9 h8) rfl))
      have a164 : f1 kn = some (.inl (cy 0, 40, .inl kk)) := k4 _ _ x_kn (z_ne x_kn x_fa rfl)
      have a165 : f7 kn = some (.inl (cy 0, 40, .inl kk)) := k9 _ _ a164 
      have a166 : f15 kn = some (.inl (cy 0, 40, .inl kk)) := (k17 _ (z_nn u14 a165)).trans a165
      have a167 : f20 kn = some (.inl (cy 0, 40, .inl kk)) := (k22 _ (z_nn u19 a166)).trans a166
      have a168 : f23 kn = some (.inl (cy 0, 40, .inl kk)) := (k25 _ (z_nn u19 a166)).trans a167
      have a169 : f26 kn = some (.inl (cy 0, 40, .inl kk)) := (k28 _ (z_nn u19 a166)).trans a168
      have a170 : f29 kn = some (.inl (cy 0, 40, .inl kk)) := k31 _ _ a169 
      have a171 : f36 kn = some (.inl (cy 0, 40, .inl kk)) := k39 _ _ a170 (z_nn u14 a165)
      have a172 : f81 kn = some (.inl (cy 0, 40, .inl kk)) := k94 _ _ a171 (z_ne a171 a46 rfl) (z_ne a171 a54 rfl) (z_ne a171 a62 rfl) (z_nn u14 a165) (fun j9 h8 => (z_ne a171 (F72 j9 h8) rfl))
      have a173 : f1 vq = some (.inl (cy 0, 40, .inl kv)) := k4 _ _ x_vq (z_ne x_vq x_fa rfl)
      have a174 : f7 vq = some (.inl (cy 0, 40, .inl kv)) := k9 _ _ a173 
      have a175 : f15 vq = some (.inl (cy 0, 40, .inl kv)) := (k17 _ (z_nn u14 a174)).trans a174
      have a176 : f20 vq = some (.inl (cy 0, 40, .inl kv)) := (k22 _ (z_nn u19 a175)).trans a175
      have a177 : f23 vq = some (.inl (cy 0, 40, .inl kv)) := (k25 _ (z_nn u19 a175)).trans a176
      have a178 : f26 vq = some (.inl (cy 0, 40, .inl kv)) := (k28 _ (z_nn u19 a175)).trans a177
      have a179 : f29 vq = some (.inl (cy 0, 40, .inl kv)) := k31 _ _ a178 
      have a180 : f36 vq = some (.inl (cy 0, 40, .inl kv)) := k39 _ _ a179 (z_nn u14 a174)
      have a181 : f81 vq = some (.inl (cy 0, 40, .inl kv)) := k94 _ _ a180 (z_ne a180 a46 rfl) (z_ne a180 a54 rfl) (z_ne a180 a62 rfl) (z_nn u14 a174) (fun j9 h8 => (z_ne a180 (F72 j9 h8) rfl))
      have F182 : ∀ i9 : Nat, i9 < nf → f1 (fq i9) = some (.inr (3, [.ref (fk i9), .int (nI (fz i9))])) := fun i9 h9 => k4 _ _ (hFq i9 h9) (z_ne (hFq i9 h9) x_fa rfl)
      have F183 : ∀ i9 : Nat, i9 < nf → f7 (fq i9) = some (.inr (3, [.ref (fk i9), .int (nI (fz i9))])) := fun i9 h9 => k9 _ _ (F182 i9 h9) 
      have F184 : ∀ i9 : Nat, i9 < nf → f15 (fq i9) = some (.inr (3, [.ref (fk i9), .int (nI (fz i9))])) := fun i9 h9 => (k17 _ (z_nn u14 (F183 i9 h9))).trans (F183 i9 h9)
      have F185 : ∀ i9 : Nat, i9 < nf → f20 (fq i9) = some (.inr (3, [.ref (fk i9), .int (nI (fz i9))])) := fun i9 h9 => (k22 _ (z_nn u19 (F184 i9 h9))).trans (F184 i9 h9)
      have F186 : ∀ i9 : Nat, i9 < nf → f23 (fq i9) = some (.inr (3, [.ref (fk i9), .int (nI (fz i9))])) := fun i9 h9 => (k25 _ (z_nn u19 (F184 i9 h9))).trans (F185 i9 h9)
      have F187 : ∀ i9 : Nat, i9 < nf → f26 (fq i9) = some (.inr (3, [.ref (fk i9), .int (nI (fz i9))])) := fun i9 h9 => (k28 _ (z_nn u19 (F184 i9 h9))).trans (F186 i9 h9)
      have F188 : ∀ i9 : Nat, i9 < nf → f29 (fq i9) = some (.inr (3, [.ref (fk i9), .int (nI (fz i9))])) := fun i9 h9 => k31 _ _ (F187 i9 h9) 
      have F189 : ∀ i9 : Nat, i9 < nf → f36 (fq i9) = some (.inr (3, [.ref (fk i9), .int (nI (fz i9))])) := fun i9 h9 => k39 _ _ (F188 i9 h9) (z_nn u14 (F183 i9 h9))
      have F190 : ∀ i9 : Nat, i9 < nf → f81 (fq i9) = some (.inr (3, [.ref (fk i9), .int (nI (fz i9))])) := fun i9 h9 => k94 _ _ (F189 i9 h9) (z_ne (F189 i9 h9) a46 rfl) (z_ne (F189 i9 h9) a54 rfl) (z_ne (F189 i9 h9) a62 rfl) (z_nn u14 (F183 i9 h9)) (fun j9 h8 => (z_ne (F189 i9 h9) (F72 j9 h8) rfl))
      have F191 : ∀ i9 : Nat, i9 < nf → f1 (fk i9) = some (.inl (cy 0, 4, .inl (fc i9))) := fun i9 h9 => k4 _ _ (hFk i9 h9) (z_ne (hFk i9 h9) x_fa rfl)
      have F192 : ∀ i9 : Nat, i9 < nf → f7 (fk i9) = some (.inl (cy 0, 4, .inl (fc i9))) := fun i9 h9 => k9 _ _ (F191 i9 h9) 
      have F193 : ∀ i9 : Nat, i9 < nf → f15 (fk i9) = some (.inl (cy 0, 4, .inl (fc i9))) := fun i9 h9 => (k17 _ (z_nn u14 (F192 i9 h9))).trans (F192 i9 h9)
      have F194 : ∀ i9 : Nat, i9 < nf → f20 (fk i9) = some (.inl (cy 0, 4, .inl (fc i9))) := fun i9 h9 => (k22 _ (z_nn u19 (F193 i9 h9))).trans (F193 i9 h9)
      have F195 : ∀ i9 : Nat, i9 < nf → f23 (fk i9) = some (.inl (cy 0, 4, .inl (fc i9))) := fun i9 h9 => (k25 _ (z_nn u19 (F193 i9 h9))).trans (F194 i9 h9)
      have F196 : ∀ i9 : Nat, i9 < nf → f26 (fk i9) = some (.inl (cy 0, 4, .inl (fc i9))) := fun i9 h9 => (k28 _ (z_nn u19 (F193 i9 h9))).trans (F195 i9 h9)
      have F197 : ∀ i9 : Nat, i9 < nf → f29 (fk i9) = some (.inl (cy 0, 4, .inl (fc i9))) := fun i9 h9 => k31 _ _ (F196 i9 h9) 
      have F198 : ∀ i9 : Nat, i9 < nf → f36 (fk i9) = some (.inl (cy 0, 4, .inl (fc i9))) := fun i9 h9 => k39 _ _ (F197 i9 h9) (z_nn u14 (F192 i9 h9))
      have F199 : ∀ i9 : Nat, i9 < nf → f81 (fk i9) = some (.inl (cy 0, 4, .inl (fc i9))) := fun i9 h9 => k94 _ _ (F198 i9 h9) (z_ne (F198 i9 h9) a46 rfl) (z_ne (F198 i9 h9) a54 rfl) (z_ne (F198 i9 h9) a62 rfl) (z_nn u14 (F192 i9 h9)) (fun j9 h8 => (z_ne (F198 i9 h9) (F72 j9 h8) rfl))
      have F200 : ∀ i9 : Nat, i9 < nc → f1 (cn i9) = some (.inr (0, [.int (ce i9), .int (cm i9)])) := fun i9 h9 => k4 _ _ (hCn i9 h9) (z_ne (hCn i9 h9) x_fa rfl)
      have F201 : ∀ i9 : Nat, i9 < nc → f7 (cn i9) = some (.inr (0, [.int (ce i9), .int (cm i9)])) := fun i9 h9 => k9 _ _ (F200 i9 h9) 
      have F202 : ∀ i9 : Nat, i9 < nc → f15 (cn i9) = some (.inr (0, [.int (ce i9), .int (cm i9)])) := fun i9 h9 => (k17 _ (z_nn u14 (F201 i9 h9))).trans (F201 i9 h9)
      have F203 : ∀ i9 : Nat, i9 < nc → f20 (cn i9) = some (.inr (0, [.int (ce i9), .int (cm i9)])) := fun i9 h9 => (k22 _ (z_nn u19 (F202 i9 h9))).trans (F202 i9 h9)
      have F204 : ∀ i9 : Nat, i9 < nc → f23 (cn i9) = some (.inr (0, [.int (ce i9), .int (cm i9)])) := fun i9 h9 => (k25 _ (z_nn u19 (F202 i9 h9))).trans (F203 i9 h9)
      have F205 : ∀ i9 : Nat, i9 < nc → f26 (cn i9) = some (.inr (0, [.int (ce i9), .int (cm i9)])) := fun i9 h9 => (k28 _ (z_nn u19 (F202 i9 h9))).trans (F204 i9 h9)
      have F206 : ∀ i9 : Nat, i9 < nc → f29 (cn i9) = some (.inr (0, [.int (ce i9), .int (cm i9)])) := fun i9 h9 => k31 _ _ (F205 i9 h9) 
      have F207 : ∀ i9 : Nat, i9 < nc → f36 (cn i9) = some (.inr (0, [.int (ce i9), .int (cm i9)])) := fun i9 h9 => k39 _ _ (F206 i9 h9) (z_nn u14 (F201 i9 h9))
      have F208 : ∀ i9 : Nat, i9 < nc → f81 (cn i9) = some (.inr (0, [.int (ce i9), .int (cm i9)])) := fun i9 h9 => k94 _ _ (F207 i9 h9) (z_ne (F207 i9 h9) a46 rfl) (z_ne (F207 i9 h9) a54 rfl) (z_ne (F207 i9 h9) a62 rfl) (z_nn u14 (F201 i9 h9)) (fun j9 h8 => (z_ne (F207 i9 h9) (F72 j9 h8) rfl))
      have F209 : ∀ i9 : Nat, i9 < 4 → f1 (ea i9) = some (.inr (1, [.ref (ma i9), .int (nI (sq i9))])) := fun i9 h9 => k4 _ _ (hEa i9 h9) (z_ne (hEa i9 h9) x_fa rfl)
      have F210 : ∀ i9 : Nat, i9 < 4 → f7 (ea i9) = some (.inr (1, [.ref (ma i9), .int (nI (sq i9))])) := fun i9 h9 => k9 _ _ (F209 i9 h9) 
      have F211 : ∀ i9 : Nat, i9 < 4 → f15 (ea i9) = some (.inr (1, [.ref (ma i9), .int (nI (sq i9))])) := fun i9 h9 => (k17 _ (z_nn u14 (F210 i9 h9))).trans (F210 i9 h9)
      have F212 : ∀ i9 : Nat, i9 < 4 → f20 (ea i9) = some (.inr (1, [.ref (ma i9), .int (nI (sq i9))])) := fun i9 h9 => (k22 _ (z_nn u19 (F211 i9 h9))).trans (F211 i9 h9)
      have F213 : ∀ i9 : Nat, i9 < 4 → f23 (ea i9) = some (.inr (1, [.ref (ma i9), .int (nI (sq i9))])) := fun i9 h9 => (k25 _ (z_nn u19 (F211 i9 h9))).trans (F212 i9 h9)
      have F214 : ∀ i9 : Nat, i9 < 4 → f26 (ea i9) = some (.inr (1, [.ref (ma i9), .int (nI (sq i9))])) := fun i9 h9 => (k28 _ (z_nn u19 (F211 i9 h9))).trans (F213 i9 h9)
      have F215 : ∀ i9 : Nat, i9 < 4 → f29 (ea i9) = some (.inr (1, [.ref (ma i9), .int (nI (sq i9))])) := fun i9 h9 => k31 _ _ (F214 i9 h9) 
      have F216 : ∀ i9 : Nat, i9 < 4 → f36 (ea i9) = some (.inr (1, [.ref (ma i9), .int (nI (sq i9))])) := fun i9 h9 => k39 _ _ (F215 i9 h9) (z_nn u14 (F210 i9 h9))
      have F217 : ∀ i9 : Nat, i9 < 4 → f81 (ea i9) = some (.inr (1, [.ref (ma i9), .int (nI (sq i9))])) := fun i9 h9 => k94 _ _ (F216 i9 h9) (z_ne (F216 i9 h9) a46 rfl) (z_ne (F216 i9 h9) a54 rfl) (z_ne (F216 i9 h9) a62 rfl) (z_nn u14 (F210 i9 h9)) (fun j9 h8 => (z_ne (F216 i9 h9) (F72 j9 h8) rfl))
      have F218 : ∀ i9 : Nat, i9 < 4 → f1 (ma i9) = some (.inl (cy 0, 60, .inl (mb i9))) := fun i9 h9 => k4 _ _ (hMa i9 h9) (z_ne (hMa i9 h9) x_fa rfl)
      have F219 : ∀ i9 : Nat, i9 < 4 → f7 (ma i9) = some (.inl (cy 0, 60, .inl (mb i9))) := fun i9 h9 => k9 _ _ (F218 i9 h9) 
      have F220 : ∀ i9 : Nat, i9 < 4 → f15 (ma i9) = some (.inl (cy 0, 60, .inl (mb i9))) := fun i9 h9 => (k17 _ (z_nn u14 (F219 i9 h9))).trans (F219 i9 h9)
      have F221 : ∀ i9 : Nat, i9 < 4 → f20 (ma i9) = some (.inl (cy 0, 60, .inl (mb i9))) := fun i9 h9 => (k22 _ (z_nn u19 (F220 i9 h9))).trans (F220 i9 h9)
      have F222 : ∀ i9 : Nat, i9 < 4 → f23 (ma i9) = some (.inl (cy 0, 60, .inl (mb i9))) := fun i9 h9 => (k25 _ (z_nn u19 (F220 i9 h9))).trans (F221 i9 h9)
      have F223 : ∀ i9 : Nat, i9 < 4 → f26 (ma i9) = some (.inl (cy 0, 60, .inl (mb i9))) := fun i9 h9 => (k28 _ (z_nn u19 (F220 i9 h9))).trans (F222 i9 h9)
      have F224 : ∀ i9 : Nat, i9 < 4 → f29 (ma i9) = some (.inl (cy 0, 60, .inl (mb i9))) := fun i9 h9 => k31 _ _ (F223 i9 h9) 
      have F225 : ∀ i9 : Nat, i9 < 4 → f36 (ma i9) = some (.inl (cy 0, 60, .inl (mb i9))) := fun i9 h9 => k39 _ _ (F224 i9 h9) (z_nn u14 (F219 i9 h9))
      have F226 : ∀ i9 : Nat, i9 < 4 → f81 (ma i9) = some (.inl (cy 0, 60, .inl (mb i9))) := fun i9 h9 => k94 _ _ (F225 i9 h9) (z_ne (F225 i9 h9) a46 rfl) (z_ne (F225 i9 h9) a54 rfl) (z_ne (F225 i9 h9) a62 rfl) (z_nn u14 (F219 i9 h9)) (fun j9 h8 => (z_ne (F225 i9 h9) (F72 j9 h8) rfl))
      have a227 : f81 q18 = some (.inl (cy 1, 2, .inr (.inl (vp_updL (vp_updL (fun _ => 0) 0 x.toInt64) 1 y.toInt64)))) := k94 _ _ a64 (Ne.symm (z_nn u19 a41)) (Ne.symm (z_nn u19 a49)) (Ne.symm (z_nn u19 a57)) (Ne.symm (z_nn u19 a16)) (fun j9 h8 => (z_ne a64 (F72 j9 h8) rfl))
      have hgpf : ∀ j, j < 2 → (vp_updL (vp_updL (fun _ => 0) 0 x.toInt64) 1 y.toInt64) j = (q2 x.toInt64 y.toInt64) j := (z_j2 _ _ _)
      have hq : q_span nn x y = (nI nn, 0, (-1), 0) := by simp [q_span, h60, c10, c11]
      exact z_iret C hr rfl hz hS ⟨0, (-1), 0, gv, nl, gu, (nn + 1), (va_up ga nn (some q13)), gr_85, (va_up fg nn q13), (va_up pt nn q18), (va_up kd nn 1), (va_up ln nn 2), (va_up pp nn (vp_updL (vp_updL (fun _ => 0) 0 x.toInt64) 1 y.toInt64)), (va_up wg nn (y.toInt64 - x.toInt64 + 1)), (va_up wd nn 0), (va_up hs nn hq_83), (va_up bf_86 nn bq_84), nf, gf, fq, fk, fz, fc, nc, gc, cn, ce, cm, sq, mb, ks, kk, kv, lk, (by rw [hq]), (by rw [hq]), (by rw [hq]), (by rw [hq]), (by rw [hq]; exact (zEV0 gv).symm), rfl, rfl, (by rw [if_pos (nI_pos' (by omega))]), (by rw [if_pos (nI_pos' (by omega))]), (by rw [if_pos (nI_pos' (by omega))]), (zPP_new hgpf), (by rw [if_pos (nI_pos' (by omega))]), (by rw [if_pos (nI_pos' (by omega)), p87, zHash_congr (gp' := q2 x.toInt64 y.toInt64) hgpf]), rfl, rfl, rfl, rfl, rfl, rfl, rfl, rfl, rfl, rfl, rfl, rfl, (by rw [if_pos (nI_pos' (by omega))]), ⟨a101, a109, a118, a89, a90, a91, a127, a136, a145, a154, a163, a172, a181, F92, F93, F190, F199, F208, F217, F226, (by omega), hl12, hf6, hc60, hs40, (z_ga1 hga), (z_gr1 p88), (z_up1 (P := fun _ a9 => a9 ≤ 15) hln (by omega)), (z_up2 (P := fun (a9 : Int32) (b9 : Nat) => a9 = 5 → 3 ≤ b9) hk5 (fun h9 => absurd h9 (by decide))), (z_up2 (P := fun (a9 : Int32) (b9 : Nat) => a9 = 4 → 2 ≤ b9) hk4 (fun h9 => absurd h9 (by decide))), (z_inj1 hfi (fun j9 h9 => z_nn u14 (F66 j9 h9))), (z_inj1 hpi (fun j9 h9 => z_nn u19 (F75 j9 h9))), har, hgf, hfz, hgc, hG, hsq, hei, hmi, kne, hca, hcr, hlk⟩⟩ (Nat.le_of_ble_eq_true rfl) (Nat.le_of_ble_eq_true rfl) dX7_span_68
    · refine lv_aload_n hx hb dX7_span_25 rfl (lv_at hl 0 rfl) ?_
      have a228 : f7 o = some (.inr (7, [.ref fa, .ref fi, .ref nu, .int (nI nl), .ref fm, .int (nI nf), .ref co, .int (nI nc), .ref en, .ref ke, .long lk])) := k9 _ _ a5 
      refine z_get (v := .ref fa) C hz a228 zl7 mFX7_10 (by decide) rfl dX7_span_26 ?_
      refine lv_iconst (v := 1) hx hb dX7_span_29 (by decide) ?_
      refine lv_iconst (v := 1) hx hb dX7_span_30 (by decide) ?_
      have a229 : f7 fa = some (.inr (2, [.int 0, .int (-1), .int 0, .ref ev])) := k9 _ _ a3 
      have a230 : f1 ev = some (.inl (cy 0, 8, .inl gv)) := k4 _ _ x_ev (z_ne x_ev x_fa rfl)
      have a231 : f7 ev = some (.inl (cy 0, 8, .inl gv)) := k9 _ _ a230 
      refine z_callVi (As := [.int 1, .int 1]) C hz hS hA hl (k_X2_own l D cy f7 fa 1 1 0 (-1) 0 ev gv a229 a231 ) zyX2_own mMX7_96 a229 zl2 rfl rfl (Nat.le_of_ble_eq_true rfl) ⟨Nat.le_of_ble_eq_true rfl, Nat.le_of_ble_eq_true rfl⟩ ⟨Nat.le_of_ble_eq_true rfl, Nat.le_of_ble_eq_true rfl⟩ dX7_span_31 (fun r f232 H locs h233 hz hS => ?_)
      obtain ⟨rfl, a234, a235, k236⟩ := h233
      have a237 : f232 o = some (.inr (7, [.ref fa, .ref fi, .ref nu, .int (nI nl), .ref fm, .int (nI nf), .ref co, .int (nI nc), .ref en, .ref ke, .long lk])) := k236 _ _ a228 (z_ne a228 a229 rfl) (z_ne a228 a231 rfl)
      have a238 : f7 fi = some (.inr (5, [.ref al, .ref ra, .int (nI nn)])) := k9 _ _ a6 
      have a239 : f232 fi = some (.inr (5, [.ref al, .ref ra, .int (nI nn)])) := k236 _ _ a238 (z_ne a238 a229 rfl) (z_ne a238 a231 rfl)
      have a240 : f1 al = some (.inl (cy 3, 60, .inr (.inr (.inr (.inr ga))))) := k4 _ _ x_al (z_ne x_al x_fa rfl)
      have a241 : f7 al = some (.inl (cy 3, 60, .inr (.inr (.inr (.inr ga))))) := k9 _ _ a240 
      have a242 : f232 al = some (.inl (cy 3, 60, .inr (.inr (.inr (.inr ga))))) := k236 _ _ a241 (z_ne a241 a229 rfl) (z_ne a241 a231 rfl)
      have a243 : f1 ra = some (.inl (cy 3, 60, .inr (.inr (.inr (.inr gr))))) := k4 _ _ x_ra (z_ne x_ra x_fa rfl)
      have a244 : f7 ra = some (.inl (cy 3, 60, .inr (.inr (.inr (.inr gr))))) := k9 _ _ a243 
      have a245 : f232 ra = some (.inl (cy 3, 60, .inr (.inr (.inr (.inr gr))))) := k236 _ _ a244 (z_ne a244 a229 rfl) (z_ne a244 a231 rfl)
      have a246 : f1 nu = some (.inl (cy 0, 12, .inl gu)) := k4 _ _ x_nu (z_ne x_nu x_fa rfl)
      have a247 : f7 nu = some (.inl (cy 0, 12, .inl gu)) := k9 _ _ a246 
      have a248 : f232 nu = some (.inl (cy 0, 12, .inl gu)) := k236 _ _ a247 (z_ne a247 a229 rfl) (z_ne a247 a231 rfl)
      have a249 : f1 fm = some (.inl (cy 4, 6, .inr (.inr (.inr (.inr gf))))) := k4 _ _ x_fm (z_ne x_fm x_fa rfl)
      have a250 : f7 fm = some (.inl (cy 4, 6, .inr (.inr (.inr (.inr gf))))) := k9 _ _ a249 
      have a251 : f232 fm = some (.inl (cy 4, 6, .inr (.inr (.inr (.inr gf))))) := k236 _ _ a250 (z_ne a250 a229 rfl) (z_ne a250 a231 rfl)
      have a252 : f1 co = some (.inl (cy 5, 60, .inr (.inr (.inr (.inr gc))))) := k4 _ _ x_co (z_ne x_co x_fa rfl)
      have a253 : f7 co = some (.inl (cy 5, 60, .inr (.inr (.inr (.inr gc))))) := k9 _ _ a252 
      have a254 : f232 co = some (.inl (cy 5, 60, .inr (.inr (.inr (.inr gc))))) := k236 _ _ a253 (z_ne a253 a229 rfl) (z_ne a253 a231 rfl)
      have a255 : f1 en = some (.inl (cy 6, 4, .inr (.inr (.inr (.inr ge))))) := k4 _ _ x_en (z_ne x_en x_fa rfl)
      have a256 : f7 en = some (.inl (cy 6, 4, .inr (.inr (.inr (.inr ge))))) := k9 _ _ a255 
      have a257 : f232 en = some (.inl (cy 6, 4, .inr (.inr (.inr (.inr ge))))) := k236 _ _ a256 (z_ne a256 a229 rfl) (z_ne a256 a231 rfl)
      have a258 : f1 ke = some (.inr (6, [.ref kn, .ref vq, .int (nI ks)])) := k4 _ _ x_ke (z_ne x_ke x_fa rfl)
      have a259 : f7 ke = some (.inr (6, [.ref kn, .ref vq, .int (nI ks)])) := k9 _ _ a258 
      have a260 : f232 ke = some (.inr (6, [.ref kn, .ref vq, .int (nI ks)])) := k236 _ _ a259 (z_ne a259 a229 rfl) (z_ne a259 a231 rfl)
      have a261 : f1 kn = some (.inl (cy 0, 40, .inl kk)) := k4 _ _ x_kn (z_ne x_kn x_fa rfl)
      have a262 : f7 kn = some (.inl (cy 0, 40, .inl kk)) := k9 _ _ a261 
      have a263 : f232 kn = some (.inl (cy 0, 40, .inl kk)) := k236 _ _ a262 (z_ne a262 a229 rfl) (z_ne a262 a231 rfl)
      have a264 : f1 vq = some (.inl (cy 0, 40, .inl kv)) := k4 _ _ x_vq (z_ne x_vq x_fa rfl)
      have a265 : f7 vq = some (.inl (cy 0, 40, .inl kv)) := k9 _ _ a264 
      have a266 : f232 vq = some (.inl (cy 0, 40, .inl kv)) := k236 _ _ a265 (z_ne a265 a229 rfl) (z_ne a265 a231 rfl)
      have F267 : ∀ i9 : Nat, i9 < nn → f1 (fg i9) = some (.inr (4, [.int (kd i9), .ref (pt i9), .long (wg i9), .int (wd i9), .int (nI i9), .int (hs i9), .int (bf i9)])) := fun i9 h9 => k4 _ _ (hF i9 h9) (z_ne (hF i9 h9) x_fa rfl)
      have F268 : ∀ i9 : Nat, i9 < nn → f7 (fg i9) = some (.inr (4, [.int (kd i9), .ref (pt i9), .long (wg i9), .int (wd i9), .int (nI i9), .int (hs i9), .int (bf i9)])) := fun i9 h9 => k9 _ _ (F267 i9 h9) 
      have F269 : ∀ i9 : Nat, i9 < nn → f232 (fg i9) = some (.inr (4, [.int (kd i9), .ref (pt i9), .long (wg i9), .int (wd i9), .int (nI i9), .int (hs i9), .int (bf i9)])) := fun i9 h9 => k236 _ _ (F268 i9 h9) (z_ne (F268 i9 h9) a229 rfl) (z_ne (F268 i9 h9) a231 rfl)
      have F270 : ∀ i9 : Nat, i9 < nn → f1 (pt i9) = some (.inl (cy 1, (ln i9), .inr (.inl (pp i9)))) := fun i9 h9 => k4 _ _ (hP i9 h9) (z_neO (hP i9 h9) x_fa rfl)
      have F271 : ∀ i9 : Nat, i9 < nn → f7 (pt i9) = some (.inl (cy 1, (ln i9), .inr (.inl (pp i9)))) := fun i9 h9 => k9 _ _ (F270 i9 h9) 
      have F272 : ∀ i9 : Nat, i9 < nn → f232 (pt i9) = some (.inl (cy 1, (ln i9), .inr (.inl (pp i9)))) := fun i9 h9 => k236 _ _ (F271 i9 h9) (z_neO (F271 i9 h9) a229 rfl) (z_neA (F271 i9 h9) a231 rfl)
      have F273 : ∀ i9 : Nat, i9 < nf → f1 (fq i9) = some (.inr (3, [.ref (fk i9), .int (nI (fz i9))])) := fun i9 h9 => k4 _ _ (hFq i9 h9) (z_ne (hFq i9 h9) x_fa rfl)
      have F274 : ∀ i9 : Nat, i9 < nf → f7 (fq i9) = some (.inr (3, [.ref (fk i9), .int (nI (fz i9))])) := fun i9 h9 => k9 _ _ (F273 i9 h9) 
      have F275 : ∀ i9 : Nat, i9 < nf → f232 (fq i9) = some (.inr (3, [.ref (fk i9), .int (nI (fz i9))])) := fun i9 h9 => k236 _ _ (F274 i9 h9) (z_ne (F274 i9 h9) a229 rfl) (z_ne (F274 i9 h9) a231 rfl)
      have F276 : ∀ i9 : Nat, i9 < nf → f1 (fk i9) = some (.inl (cy 0, 4, .inl (fc i9))) := fun i9 h9 => k4 _ _ (hFk i9 h9) (z_ne (hFk i9 h9) x_fa rfl)
      have F277 : ∀ i9 : Nat, i9 < nf → f7 (fk i9) = some (.inl (cy 0, 4, .inl (fc i9))) := fun i9 h9 => k9 _ _ (F276 i9 h9) 
      have F278 : ∀ i9 : Nat, i9 < nf → f232 (fk i9) = some (.inl (cy 0, 4, .inl (fc i9))) := fun i9 h9 => k236 _ _ (F277 i9 h9) (z_ne (F277 i9 h9) a229 rfl) (z_ne (F277 i9 h9) a231 rfl)
      have F279 : ∀ i9 : Nat, i9 < nc → f1 (cn i9) = some (.inr (0, [.int (ce i9), .int (cm i9)])) := fun i9 h9 => k4 _ _ (hCn i9 h9) (z_ne (hCn i9 h9) x_fa rfl)
      have F280 : ∀ i9 : Nat, i9 < nc → f7 (cn i9) = some (.inr (0, [.int (ce i9), .int (cm i9)])) := fun i9 h9 => k9 _ _ (F279 i9 h9) 
      have F281 : ∀ i9 : Nat, i9 < nc → f232 (cn i9) = some (.inr (0, [.int (ce i9), .int (cm i9)])) := fun i9 h9 => k236 _ _ (F280 i9 h9) (z_ne (F280 i9 h9) a229 rfl) (z_ne (F280 i9 h9) a231 rfl)
      have F282 : ∀ i9 : Nat, i9 < 4 → f1 (ea i9) = some (.inr (1, [.ref (ma i9), .int (nI (sq i9))])) := fun i9 h9 => k4 _ _ (hEa i9 h9) (z_ne (hEa i9 h9) x_fa rfl)
      have F283 : ∀ i9 : Nat, i9 < 4 → f7 (ea i9) = some (.inr (1, [.ref (ma i9), .int (nI (sq i9))])) := fun i9 h9 => k9 _ _ (F282 i9 h9) 
      have F284 : ∀ i9 : Nat, i9 < 4 → f232 (ea i9) = some (.inr (1, [.ref (ma i9), .int (nI (sq i9))])) := fun i9 h9 => k236 _ _ (F283 i9 h9) (z_ne (F283 i9 h9) a229 rfl) (z_ne (F283 i9 h9) a231 rfl)
      have F285 : ∀ i9 : Nat, i9 < 4 → f1 (ma i9) = some (.inl (cy 0, 60, .inl (mb i9))) := fun i9 h9 => k4 _ _ (hMa i9 h9) (z_ne (hMa i9 h9) x_fa rfl)
      have F286 : ∀ i9 : Nat, i9 < 4 → f7 (ma i9) = some (.inl (cy 0, 60, .inl (mb i9))) := fun i9 h9 => k9 _ _ (F285 i9 h9) 
      have F287 : ∀ i9 : Nat, i9 < 4 → f232 (ma i9) = some (.inl (cy 0, 60, .inl (mb i9))) := fun i9 h9 => k236 _ _ (F286 i9 h9) (z_ne (F286 i9 h9) a229 rfl) (z_ne (F286 i9 h9) a231 rfl)
      have hq : q_span nn x y = ((-4), 7, 1, 1) := by simp [q_span, h60, c10, c11]
      exact z_iret C hr rfl hz hS ⟨7, 1, 1, (upd gv 7 (gv 7 + 1)), nl, gu, nn, ga, gr, fg, pt, kd, ln, pp, wg, wd, hs, bf, nf, gf, fq, fk, fz, fc, nc, gc, cn, ce, cm, sq, mb, ks, kk, kv, lk, (by rw [hq]), (by rw [hq]), (by rw [hq]), (by rw [hq]), (by rw [hq]; exact (zEV7 gv).symm), rfl, rfl, (by rw [if_neg (by decide)]), (by rw [if_neg (by decide)]), (by rw [if_neg (by decide)]), (zPP_no (by decide)), (by rw [if_neg (by decide)]), (by rw [if_neg (by decide)]), rfl, rfl, rfl, rfl, rfl, rfl, rfl, rfl, rfl, rfl, rfl, rfl, (by rw [if_neg (by decide)]), ⟨a237, a234, a235, a239, a242, a245, a248, a251, a254, a257, a260, a263, a266, F269, F272, F275, F278, F281, F284, F287, hn60, hl12, hf6, hc60, hs40, hga, hgr, hln, hk5, hk4, hfi, hpi, har, hgf, hfz, hgc, hG, hsq, hei, hmi, kne, hca, hcr, hlk⟩⟩ (Nat.le_of_ble_eq_true rfl) (Nat.le_of_ble_eq_true rfl) dX7_span_34
  · have a288 : f1 fi = some (.inr (5, [.ref al, .ref ra, .int (nI nn)])) := k4 _ _ x_fi (z_ne x_fi x_fa rfl)
    refine z_callVi (As := []) C hz hS hA hl (k_X5_isFull_B l D cy f1 fi al ra nn a288 hn60 h60) zyX5_isFull mMX7_79 a288 zl5 rfl rfl (Nat.le_of_ble_eq_true rfl) ⟨Nat.le_of_ble_eq_true rfl, Nat.le_of_ble_eq_true rfl⟩ ⟨Nat.le_of_ble_eq_true rfl, Nat.le_of_ble_eq_true rfl⟩ dX7_span_11 (fun r f289 H locs h290 hz hS => ?_)
    obtain ⟨rfl, k291⟩ := h290
    refine lv_if_eq (tgt := 20) hx hb dX7_span_14 (by decide) (fun c292 => ?_) (fun c292 => ?_)
    · exact absurd c292 (by decide)
    refine lv_bipush (v := (-3)) hx hb dX7_span_17 (by decide) ?_
    have a293 : f289 o = some (.inr (7, [.ref fa, .ref fi, .ref nu, .int (nI nl), .ref fm, .int (nI nf), .ref co, .int (nI nc), .ref en, .ref ke, .long lk])) := k291 _ _ a5 
    have a294 : f289 fa = some (.inr (2, [.int 0, .int (-1), .int 0, .ref ev])) := k291 _ _ a3 
    have a295 : f1 ev = some (.inl (cy 0, 8, .inl gv)) := k4 _ _ x_ev (z_ne x_ev x_fa rfl)
    have a296 : f289 ev = some (.inl (cy 0, 8, .inl gv)) := k291 _ _ a295 
    have a297 : f289 fi = some (.inr (5, [.ref al, .ref ra, .int (nI nn)])) := k291 _ _ a288 
    have a298 : f1 al = some (.inl (cy 3, 60, .inr (.inr (.inr (.inr ga))))) := k4 _ _ x_al (z_ne x_al x_fa rfl)
    have a299 : f289 al = some (.inl (cy 3, 60, .inr (.inr (.inr (.inr ga))))) := k291 _ _ a298 
    have a300 : f1 ra = some (.inl (cy 3, 60, .inr (.inr (.inr (.inr gr))))) := k4 _ _ x_ra (z_ne x_ra x_fa rfl)
    have a301 : f289 ra = some (.inl (cy 3, 60, .inr (.inr (.inr (.inr gr))))) := k291 _ _ a300 
    have a302 : f1 nu = some (.inl (cy 0, 12, .inl gu)) := k4 _ _ x_nu (z_ne x_nu x_fa rfl)
    have a303 : f289 nu = some (.inl (cy 0, 12, .inl gu)) := k291 _ _ a302 
    have a304 : f1 fm = some (.inl (cy 4, 6, .inr (.inr (.inr (.inr gf))))) := k4 _ _ x_fm (z_ne x_fm x_fa rfl)
    have a305 : f289 fm = some (.inl (cy 4, 6, .inr (.inr (.inr (.inr gf))))) := k291 _ _ a304 
    have a306 : f1 co = some (.inl (cy 5, 60, .inr (.inr (.inr (.inr gc))))) := k4 _ _ x_co (z_ne x_co x_fa rfl)
    have a307 : f289 co = some (.inl (cy 5, 60, .inr (.inr (.inr (.inr gc))))) := k291 _ _ a306 
    have a308 : f1 en = some (.inl (cy 6, 4, .inr (.inr (.inr (.inr ge))))) := k4 _ _ x_en (z_ne x_en x_fa rfl)
    have a309 : f289 en = some (.inl (cy 6, 4, .inr (.inr (.inr (.inr ge))))) := k291 _ _ a308 
    have a310 : f1 ke = some (.inr (6, [.ref kn, .ref vq, .int (nI ks)])) := k4 _ _ x_ke (z_ne x_ke x_fa rfl)
    have a311 : f289 ke = some (.inr (6, [.ref kn, .ref vq, .int (nI ks)])) := k291 _ _ a310 
    have a312 : f1 kn = some (.inl (cy 0, 40, .inl kk)) := k4 _ _ x_kn (z_ne x_kn x_fa rfl)
    have a313 : f289 kn = some (.inl (cy 0, 40, .inl kk)) := k291 _ _ a312 
    have a314 : f1 vq = some (.inl (cy 0, 40, .inl kv)) := k4 _ _ x_vq (z_ne x_vq x_fa rfl)
    have a315 : f289 vq = some (.inl (cy 0, 40, .inl kv)) := k291 _ _ a314 
    have F316 : ∀ i9 : Nat, i9 < nn → f1 (fg i9) = some (.inr (4, [.int (kd i9), .ref (pt i9), .long (wg i9), .int (wd i9), .int (nI i9), .int (hs i9), .int (bf i9)])) := fun i9 h9 => k4 _ _ (hF i9 h9) (z_ne (hF i9 h9) x_fa rfl)
    have F317 : ∀ i9 : Nat, i9 < nn → f289 (fg i9) = some (.inr (4, [.int (kd i9), .ref (pt i9), .long (wg i9), .int (wd i9), .int (nI i9), .int (hs i9), .int (bf i9)])) := fun i9 h9 => k291 _ _ (F316 i9 h9) 
    have F318 : ∀ i9 : Nat, i9 < nn → f1 (pt i9) = some (.inl (cy 1, (ln i9), .inr (.inl (pp i9)))) := fun i9 h9 => k4 _ _ (hP i9 h9) (z_neO (hP i9 h9) x_fa rfl)
    have F319 : ∀ i9 : Nat, i9 < nn → f289 (pt i9) = some (.inl (cy 1, (ln i9), .inr (.inl (pp i9)))) := fun i9 h9 => k291 _ _ (F318 i9 h9) 
    have F320 : ∀ i9 : Nat, i9 < nf → f1 (fq i9) = some (.inr (3, [.ref (fk i9), .int (nI (fz i9))])) := fun i9 h9 => k4 _ _ (hFq i9 h9) (z_ne (hFq i9 h9) x_fa rfl)
    have F321 : ∀ i9 : Nat, i9 < nf → f289 (fq i9) = some (.inr (3, [.ref (fk i9), .int (nI (fz i9))])) := fun i9 h9 => k291 _ _ (F320 i9 h9) 
    have F322 : ∀ i9 : Nat, i9 < nf → f1 (fk i9) = some (.inl (cy 0, 4, .inl (fc i9))) := fun i9 h9 => k4 _ _ (hFk i9 h9) (z_ne (hFk i9 h9) x_fa rfl)
    have F323 : ∀ i9 : Nat, i9 < nf → f289 (fk i9) = some (.inl (cy 0, 4, .inl (fc i9))) := fun i9 h9 => k291 _ _ (F322 i9 h9) 
    have F324 : ∀ i9 : Nat, i9 < nc → f1 (cn i9) = some (.inr (0, [.int (ce i9), .int (cm i9)])) := fun i9 h9 => k4 _ _ (hCn i9 h9) (z_ne (hCn i9 h9) x_fa rfl)
    have F325 : ∀ i9 : Nat, i9 < nc → f289 (cn i9) = some (.inr (0, [.int (ce i9), .int (cm i9)])) := fun i9 h9 => k291 _ _ (F324 i9 h9) 
    have F326 : ∀ i9 : Nat, i9 < 4 → f1 (ea i9) = some (.inr (1, [.ref (ma i9), .int (nI (sq i9))])) := fun i9 h9 => k4 _ _ (hEa i9 h9) (z_ne (hEa i9 h9) x_fa rfl)
    have F327 : ∀ i9 : Nat, i9 < 4 → f289 (ea i9) = some (.inr (1, [.ref (ma i9), .int (nI (sq i9))])) := fun i9 h9 => k291 _ _ (F326 i9 h9) 
    have F328 : ∀ i9 : Nat, i9 < 4 → f1 (ma i9) = some (.inl (cy 0, 60, .inl (mb i9))) := fun i9 h9 => k4 _ _ (hMa i9 h9) (z_ne (hMa i9 h9) x_fa rfl)
    have F329 : ∀ i9 : Nat, i9 < 4 → f289 (ma i9) = some (.inl (cy 0, 60, .inl (mb i9))) := fun i9 h9 => k291 _ _ (F328 i9 h9) 
    have hq : q_span nn x y = ((-3), 0, (-1), 0) := by simp [q_span, h60, c292]
    exact z_iret C hr rfl hz hS ⟨0, (-1), 0, gv, nl, gu, nn, ga, gr, fg, pt, kd, ln, pp, wg, wd, hs, bf, nf, gf, fq, fk, fz, fc, nc, gc, cn, ce, cm, sq, mb, ks, kk, kv, lk, (by rw [hq]), (by rw [hq]), (by rw [hq]), (by rw [hq]), (by rw [hq]; exact (zEV0 gv).symm), rfl, rfl, (by rw [if_neg (by decide)]), (by rw [if_neg (by decide)]), (by rw [if_neg (by decide)]), (zPP_no (by decide)), (by rw [if_neg (by decide)]), (by rw [if_neg (by decide)]), rfl, rfl, rfl, rfl, rfl, rfl, rfl, rfl, rfl, rfl, rfl, rfl, (by rw [if_neg (by decide)]), ⟨a293, a294, a296, a297, a299, a301, a303, a305, a307, a309, a311, a313, a315, F317, F319, F321, F323, F325, F327, F329, hn60, hl12, hf6, hc60, hs40, hga, hgr, hln, hk5, hk4, hfi, hpi, har, hgf, hfz, hgc, hG, hsq, hei, hmi, kne, hca, hcr, hlk⟩⟩ (Nat.le_of_ble_eq_true rfl) (Nat.le_of_ble_eq_true rfl) dX7_span_19
theorem z_absne {z : Int32} (h : ¬ z = 0) : ¬ (if 0 < z.toInt64 then z.toInt64 else -z.toInt64) = 0 := by
  have key : ¬ z.toInt64 = 0 := by
    intro q
    apply h
    have q2 : z.toInt64.toInt = (0 : Int64).toInt := by rw [q]
    rw [Int32.toInt_toInt64] at q2
    exact Int32.toInt_inj.mp (by rw [q2]; rfl)
  intro hh
  split at hh
  · exact key hh
  · apply key
    have q3 : - -z.toInt64 = -0 := by rw [hh]
    simpa using q3
abbrev rmX7_wide : Room := { frames := 6, cells := 2, slots := 10, locals := 140 }
set_option maxHeartbeats 4000000 in
set_option maxRecDepth 100000 in
theorem k_X7_wide (l : Launch) (D : va_G) (cy : Nat → ClassId) (f : zM) (o : Nat) (fa : Nat) (fi : Nat) (nu : Nat) (fm : Nat) (co : Nat) (en : Nat) (ke : Nat) (ev : Nat) (al : Nat) (ra : Nat) (kn : Nat) (vq : Nat) (ge : Nat → Option Nat) (ea : Nat → Nat) (ma : Nat → Nat) (u1 : Int32) (u2 : Int32) (u3 : Int32) (gv : Nat → Int32) (nl : Nat) (gu : Nat → Int32) (nn : Nat) (ga : Nat → Option Nat) (gr : Nat → Option Nat) (fg : Nat → Nat) (pt : Nat → Nat) (kd : Nat → Int32) (ln : Nat → Nat) (pp : Nat → Nat → Int64) (wg : Nat → Int64) (wd : Nat → Int32) (hs : Nat → Int32) (bf : Nat → Int32) (nf : Nat) (gf : Nat → Option Nat) (fq : Nat → Nat) (fk : Nat → Nat) (fz : Nat → Nat) (fc : Nat → Nat → Int32) (nc : Nat) (gc : Nat → Option Nat) (cn : Nat → Nat) (ce : Nat → Int32) (cm : Nat → Int32) (sq : Nat → Nat) (mb : Nat → Nat → Int32) (ks : Nat) (kk : Nat → Int32) (kv : Nat → Int32) (lk : Int64) (x : Int32) (y : Int32) (z : Int32)    (hI : zIX cy f o fa fi nu fm co en ke ev al ra kn vq ge ea ma u1 u2 u3 gv nl gu nn ga gr fg pt kd ln pp wg wd hs bf nf gf fq fk fz fc nc gc cn ce cm sq mb ks kk kv lk) : zCi l D cy yX7_wide cX7_wide 6 (Option.some Jvm.ClassFile.FieldType.int) rmX7_wide [.ref o, .int x, .int y, .int z] f (fun (r : Int32) (f1 : zM) => ∃ (u11 : Int32) (u21 : Int32) (u31 : Int32) (gv1 : Nat → Int32) (nl1 : Nat) (gu1 : Nat → Int32) (nn1 : Nat) (ga1 : Nat → Option Nat) (gr1 : Nat → Option Nat) (fg1 : Nat → Nat) (pt1 : Nat → Nat) (kd1 : Nat → Int32) (ln1 : Nat → Nat) (pp1 : Nat → Nat → Int64) (wg1 : Nat → Int64) (wd1 : Nat → Int32) (hs1 : Nat → Int32) (bf1 : Nat → Int32) (nf1 : Nat) (gf1 : Nat → Option Nat) (fq1 : Nat → Nat) (fk1 : Nat → Nat) (fz1 : Nat → Nat) (fc1 : Nat → Nat → Int32) (nc1 : Nat) (gc1 : Nat → Option Nat) (cn1 : Nat → Nat) (ce1 : Nat → Int32) (cm1 : Nat → Int32) (sq1 : Nat → Nat) (mb1 : Nat → Nat → Int32) (ks1 : Nat) (kk1 : Nat → Int32) (kv1 : Nat → Int32) (lk1 : Int64), r = ((q_wide nn x y z).1) ∧ (u11 = (q_wide nn x y z).2.1) ∧ (u21 = (q_wide nn x y z).2.2.1) ∧ (u31 = (q_wide nn x y z).2.2.2) ∧ (gv1 = zEV gv (q_wide nn x y z).2.1) ∧ (nl1 = nl) ∧ (gu1 = gu) ∧ (nn1 = if 0 ≤ r then nn + 1 else nn) ∧ (kd1 = if 0 ≤ r then va_up kd nn 2 else kd) ∧ (ln1 = if 0 ≤ r then va_up ln nn (3) else ln) ∧ (zPP nn (0 ≤ r) (3) (q3 x.toInt64 y.toInt64 z.toInt64) pp pp1) ∧ (wd1 = if 0 ≤ r then va_up wd nn 0 else wd) ∧ (hs1 = if 0 ≤ r then va_up hs nn (zHash 2 nn (3) (q3 x.toInt64 y.toInt64 z.toInt64) hs) else hs) ∧ (nf1 = nf) ∧ (fz1 = fz) ∧ (fc1 = fc) ∧ (nc1 = nc) ∧ (ce1 = ce) ∧ (cm1 = cm) ∧ (sq1 = sq) ∧ (mb1 = mb) ∧ (ks1 = ks) ∧ (kk1 = kk) ∧ (kv1 = kv) ∧ (lk1 = lk) ∧ (wg1 = if 0 ≤ r then va_up wg nn ((y.toInt64 - x.toInt64 + 1) / (if 0 < z.toInt64 then z.toInt64 else -z.toInt64) + 1) else wg) ∧ zIX cy f1 o fa fi nu fm co en ke ev al ra kn vq ge ea ma u11 u21 u31 gv1 nl1 gu1 nn1 ga1 gr1 fg1 pt1 kd1 ln1 pp1 wg1 wd1 hs1 bf1 nf1 gf1 fq1 fk1 fz1 fc1 nc1 gc1 cn1 ce1 cm1 sq1 mb1 ks1 kk1 kv1 lk1) := by
  intro sz
  refine z_body (by decide +kernel) (Nat.le_of_ble_eq_true rfl) ?_
  intro p e s m below meth c ls C hr hin hsz hz hl
  subst hsz
  have hx := C.1
  have hb := C.2.1
  have hA : ∀ q, s.heap.size ≤ q → zA f s.heap.size q := fun q h => Or.inr h
  have hS : va_S (zA f s.heap.size) s.heap s.heap [] := va_S.rf
  have hl : lv_has ls 6 [(0, .ref o), (1, .int x), (2, .int y), (3, .int z)] := hl
  obtain ⟨x_o, x_fa, x_ev, x_fi, x_al, x_ra, x_nu, x_fm, x_co, x_en, x_ke, x_kn, x_vq, hF, hP, hFq, hFk, hCn, hEa, hMa, hn60, hl12, hf6, hc60, hs40, hga, hgr, hln, hk5, hk4, hfi, hpi, har, hgf, hfz, hgc, hG, hsq, hei, hmi, kne, hca, hcr, hlk⟩ := id hI
  refine lv_aload_n hx hb dX7_wide_0 rfl (lv_at hl 0 rfl) ?_
  refine z_get (v := .ref fa) C hz x_o zl7 mFX7_10 (by decide) rfl dX7_wide_1 ?_
  refine z_callVv (As := []) C hz hS hA hl (k_X2_none l D cy f fa u1 u2 u3 ev x_fa ) zyX2_none mMX7_76 x_fa zl2 rfl rfl (Nat.le_of_ble_eq_true rfl) ⟨Nat.le_of_ble_eq_true rfl, Nat.le_of_ble_eq_true rfl⟩ ⟨Nat.le_of_ble_eq_true rfl, Nat.le_of_ble_eq_true rfl⟩ dX7_wide_4 (fun  f1 H locs h2 hz hS => ?_)
  obtain ⟨a3, k4⟩ := h2
  refine lv_aload_n hx hb dX7_wide_7 rfl (lv_at hl 0 rfl) ?_
  have a5 : f1 o = some (.inr (7, [.ref fa, .ref fi, .ref nu, .int (nI nl), .ref fm, .int (nI nf), .ref co, .int (nI nc), .ref en, .ref ke, .long lk])) := k4 _ _ x_o (z_ne x_o x_fa rfl)
  refine z_get (v := .ref fi) C hz a5 zl7 mFX7_19 (by decide) rfl dX7_wide_8 ?_
  by_cases h60 : nn < 60
  · have a6 : f1 fi = some (.inr (5, [.ref al, .ref ra, .int (nI nn)])) := k4 _ _ x_fi (z_ne x_fi x_fa rfl)
    refine z_callVi (As := []) C hz hS hA hl (k_X5_isFull_A l D cy f1 fi al ra nn a6 hn60 h60) zyX5_isFull mMX7_79 a6 zl5 rfl rfl (Nat.le_of_ble_eq_true rfl) ⟨Nat.le_of_ble_eq_true rfl, Nat.le_of_ble_eq_true rfl⟩ ⟨Nat.le_of_ble_eq_true rfl, Nat.le_of_ble_eq_true rfl⟩ dX7_wide_11 (fun r f7 H locs h8 hz hS => ?_)
    obtain ⟨rfl, k9⟩ := h8
    refine lv_if_eq (tgt := 20) hx hb dX7_wide_14 (by decide) (fun c10 => ?_) (fun c10 => ?_)
    rotate_left
    · exact absurd c10 (by decide)
    refine lv_iload_n hx hb dX7_wide_20 rfl (lv_at hl 1 rfl) ?_
    refine lv_iload_n hx hb dX7_wide_21 rfl (lv_at hl 2 rfl) ?_
    refine lv_icmp_le (tgt := 35) hx hb dX7_wide_22 (by decide) (fun c11 => ?_) (fun c11 => ?_)
    · refine lv_iload_n hx hb dX7_wide_35 rfl (lv_at hl 3 rfl) ?_
      refine lv_if_ne (tgt := 50) hx hb dX7_wide_36 (by decide) (fun c12 => ?_) (fun c12 => ?_)
      · refine lv_iload_n hx hb dX7_wide_50 rfl (lv_at hl 2 rfl) ?_
        refine lv_iload_n hx hb dX7_wide_51 rfl (lv_at hl 1 rfl) ?_
        refine lv_isub hx hb dX7_wide_52 ?_
        refine lv_iload_n hx hb dX7_wide_53 rfl (lv_at hl 3 rfl) ?_
        refine lv_irem hx hb dX7_wide_54 c12 ?_
        refine lv_if_eq (tgt := 68) hx hb dX7_wide_55 (by decide) (fun c13 => ?_) (fun c13 => ?_)
        · refine lv_iload_n hx hb dX7_wide_68 rfl (lv_at hl 1 rfl) ?_
          refine lv_iload_n hx hb dX7_wide_69 rfl (lv_at hl 2 rfl) ?_
          refine z_callSl (As := [.int x, .int y]) C hz hS hA hl (k_X7_lengthOf l D cy f7 x y  ) zyX7_lengthOf mMX7_100 rfl rfl (Nat.le_of_ble_eq_true rfl) ⟨Nat.le_of_ble_eq_true rfl, Nat.le_of_ble_eq_true rfl⟩ ⟨Nat.le_of_ble_eq_true rfl, Nat.le_of_ble_eq_true rfl⟩ dX7_wide_70 (fun r f14 H locs h15 hz hS => ?_)
          obtain ⟨rfl, k16⟩ := h15
          refine lv_iload_n hx hb dX7_wide_73 rfl (lv_at hl 3 rfl) ?_
          refine lv_i2l (v := z.toInt64) hx hb dX7_wide_74 rfl ?_
          refine va_mabs_long hx hb (by rw [C.2.2.1]; exact hl.1.symm) C.2.2.2.1 (C.2.2.2.2.1 _ mMX7_107) (C.2.2.2.2.1 _ mS_yAbs) (C.2.2.2.2.1 _ mIn_RJ9) (C.2.2.2.2.1 _ mC_yAbs) (Nat.le_of_ble_eq_true rfl) (Nat.le_of_ble_eq_true rfl) (Nat.le_of_ble_eq_true rfl) (Nat.le_of_ble_eq_true rfl) dX7_wide_75 ?_
          refine lv_ldiv hx hb dX7_wide_78 (z_absne c12) ?_
          refine lv_lconst (v := 1) hx hb dX7_wide_79 (by decide) ?_
          refine lv_ladd hx hb dX7_wide_80 ?_
          refine lv_lstore (lv' := [(4, .long (((y.toInt64 - x.toInt64 + 1) / (if 0 < z.toInt64 then z.toInt64 else -z.toInt64)) + 1)), (0, .ref o), (1, .int x), (2, .int y), (3, .int z)]) hx hb dX7_wide_81 hl (by decide) rfl (fun ls hl => ?_)
          refine lv_aload_n hx hb dX7_wide_83 rfl (lv_at hl 1 rfl) ?_
          have a17 : f7 o = some (.inr (7, [.ref fa, .ref fi, .ref nu, .int (nI nl), .ref fm, .int (nI nf), .ref co, .int (nI nc), .ref en, .ref ke, .long lk])) := k9 _ _ a5 
          have a18 : f14 o = some (.inr (7, [.ref fa, .ref fi, .ref nu, .int (nI nl), .ref fm, .int (nI nf), .ref co, .int (nI nc), .ref en, .ref ke, .long lk])) := k16 _ _ a17 
          refine z_get (v := .ref fi) C hz a18 zl7 mFX7_19 (by decide) rfl dX7_wide_84 ?_
          refine z_new (fs := [.int 0, .null, .long 0, .int 0, .int 0, .int 0, .int 0]) C hz hS hA zl4 mLX7_83 mIa_RX4 mIn_RX4 (by decide +kernel) (Nat.le_of_ble_eq_true rfl) (Nat.le_of_ble_eq_true rfl) dX7_wide_87 (fun q19 H f21 u20 a22 k23 hz hS => ?_)
          refine lv_dup hx hb dX7_wide_90 rfl ?_
          refine lv_iconst (v := 2) hx hb dX7_wide_91 (by decide) ?_
          refine lv_iconst (v := 3) hx hb dX7_wide_92 (by decide) ?_
          refine z_newa (atype := .long) (t0 := 1) (N' := 3) (x := (.inr (.inl (fun _ => 0)))) C hz hS hA rfl mA_long rfl (fun _ => rfl) (by decide) (Nat.le_of_ble_eq_true rfl) (by decide) (Nat.le_of_ble_eq_true rfl) (Nat.le_of_ble_eq_true rfl) dX7_wide_93 (fun q24 H f26 u25 a27 k28 hz hS => ?_)
          refine lv_dup hx hb dX7_wide_95 rfl ?_
          refine lv_iconst (v := 0) hx hb dX7_wide_96 (by decide) ?_
          refine lv_iload_n hx hb dX7_wide_97 rfl (lv_at hl 2 rfl) ?_
          refine lv_i2l (v := x.toInt64) hx hb dX7_wide_98 rfl ?_
          refine z_last 0 C hz hS a27 (by decide) (Nat.le_of_ble_eq_true rfl) (by omega) dX7_wide_99 (fun H locs f29 a30 k31 hz hS => ?_)
          refine lv_dup hx hb dX7_wide_100 rfl ?_
          refine lv_iconst (v := 1) hx hb dX7_wide_101 (by decide) ?_
          refine lv_iload_n hx hb dX7_wide_102 rfl (lv_at hl 3 rfl) ?_
          refine lv_i2l (v := y.toInt64) hx hb dX7_wide_103 rfl ?_
          refine z_last 1 C hz hS a30 (by decide) (Nat.le_of_ble_eq_true rfl) (by omega) dX7_wide_104 (fun H locs f32 a33 k34 hz hS => ?_)
          refine lv_dup hx hb dX7_wide_105 rfl ?_
          refine lv_iconst (v := 2) hx hb dX7_wide_106 (by decide) ?_
          refine lv_iload_n hx hb dX7_wide_107 rfl (lv_at hl 4 rfl) ?_
          refine lv_i2l (v := z.toInt64) hx hb dX7_wide_108 rfl ?_
          refine z_last 2 C hz hS a33 (by decide) (Nat.le_of_ble_eq_true rfl) (by omega) dX7_wide_109 (fun H locs f35 a36 k37 hz hS => ?_)
          refine lv_lload hx hb dX7_wide_110 (lv_at hl 0 rfl) ?_
          have a38 : f26 q19 = some (.inr (4, [.int 0, .null, .long 0, .int 0, .int 0, .int 0, .int 0])) := (k28 _ (z_nn u25 a22)).trans a22
          have a39 : f29 q19 = some (.inr (4, [.int 0, .null, .long 0, .int 0, .int 0, .int 0, .int 0])) := (k31 _ (z_nn u25 a22)).trans a38
          have a40 : f32 q19 = some (.inr (4, [.int 0, .null, .long 0, .int 0, .int 0, .int 0, .int 0])) := (k34 _ (z_nn u25 a22)).trans a39
          have a41 : f35 q19 = some (.inr (4, [.int 0, .null, .long 0, .int 0, .int 0, .int 0, .int 0])) := (k37 _ (z_nn u25 a22)).trans a40
          refine z_callIv (ret := none) (As := [.int 2, .ref q24, .long (((y.toInt64 - x.toInt64 + 1) / (if 0 < z.toInt64 then z.toInt64 else -z.toInt64)) + 1)]) C hz hS hA hl (k_X4_init l D cy f35 q19 2 q24 (((y.toInt64 - x.toInt64 + 1) / (if 0 < z.toInt64 then z.toInt64 else -z.toInt64)) + 1) a41 ) zyX4_init mMX7_89 rfl rfl (Nat.le_of_ble_eq_true rfl) ⟨Nat.le_of_ble_eq_true rfl, Nat.le_of_ble_eq_true rfl⟩ ⟨Nat.le_of_ble_eq_true rfl, Nat.le_of_ble_eq_true rfl⟩ dX7_wide_112 (fun  f42 H locs h43 hz hS => ?_)
          obtain ⟨a44, k45⟩ := h43
          have a46 : f7 fi = some (.inr (5, [.ref al, .ref ra, .int (nI nn)])) := k9 _ _ a6 
          have a47 : f14 fi = some (.inr (5, [.ref al, .ref ra, .int (nI nn)])) := k16 _ _ a46 
          have a48 : f21 fi = some (.inr (5, [.ref al, .ref ra, .int (nI nn)])) := (k23 _ (z_nn u20 a47)).trans a47
          have a49 : f26 fi = some (.inr (5, [.ref al, .ref ra, .int (nI nn)])) := (k28 _ (z_nn u25 a48)).trans a48
          have a50 : f29 fi = some (.inr (5, [.ref al, .ref ra, .int (nI nn)])) := (k31 _ (z_nn u25 a48)).trans a49
          have a51 : f32 fi = some (.inr (5, [.ref al, .ref ra, .int (nI nn)])) := (k34 _ (z_nn u25 a48)).trans a50
          have a52 : f35 fi = some (.inr (5, [.ref al, .ref ra, .int (nI nn)])) := (k37 _ (z_nn u25 a48)).trans a51
          have a53 : f42 fi = some (.inr (5, [.ref al, .ref ra, .int (nI nn)])) := k45 _ _ a52 (z_nn u20 a47)
          have a54 : f1 al = some (.inl (cy 3, 60, .inr (.inr (.inr (.inr ga))))) := k4 _ _ x_al (z_ne x_al x_fa rfl)
          have a55 : f7 al = some (.inl (cy 3, 60, .inr (.inr (.inr (.inr ga))))) := k9 _ _ a54 
          have a56 : f14 al = some (.inl (cy 3, 60, .inr (.inr (.inr (.inr ga))))) := k16 _ _ a55 
          have a57 : f21 al = some (.inl (cy 3, 60, .inr (.inr (.inr (.inr ga))))) := (k23 _ (z_nn u20 a56)).trans a56
          have a58 : f26 al = some (.inl (cy 3, 60, .inr (.inr (.inr (.inr ga))))) := (k28 _ (z_nn u25 a57)).trans a57
          have a59 : f29 al = some (.inl (cy 3, 60, .inr (.inr (.inr (.inr ga))))) := (k31 _ (z_nn u25 a57)).trans a58
          have a60 : f32 al = some (.inl (cy 3, 60, .inr (.inr (.inr (.inr ga))))) := (k34 _ (z_nn u25 a57)).trans a59
          have a61 : f35 al = some (.inl (cy 3, 60, .inr (.inr (.inr (.inr ga))))) := (k37 _ (z_nn u25 a57)).trans a60
          have a62 : f42 al = some (.inl (cy 3, 60, .inr (.inr (.inr (.inr ga))))) := k45 _ _ a61 (z_nn u20 a56)
          have a63 : f1 ra = some (.inl (cy 3, 60, .inr (.inr (.inr (.inr gr))))) := k4 _ _ x_ra (z_ne x_ra x_fa rfl)
          have a64 : f7 ra = some (.inl (cy 3, 60, .inr (.inr (.inr (.inr gr))))) := k9 _ _ a63 
          have a65 : f14 ra = some (.inl (cy 3, 60, .inr (.inr (.inr (.inr gr))))) := k16 _ _ a64 
          have a66 : f21 ra = some (.inl (cy 3, 60, .inr (.inr (.inr (.inr gr))))) := (k23 _ (z_nn u20 a65)).trans a65
          have a67 : f26 ra = some (.inl (cy 3, 60, .inr (.inr (.inr (.inr gr))))) := (k28 _ (z_nn u25 a66)).trans a66
          have a68 : f29 ra = some (.inl (cy 3, 60, .inr (.inr (.inr (.inr gr))))) := (k31 _ (z_nn u25 a66)).trans a67
          have a69 : f32 ra = some (.inl (cy 3, 60, .inr (.inr (.inr (.inr gr))))) := (k34 _ (z_nn u25 a66)).trans a68
          have a70 : f35 ra = some (.inl (cy 3, 60, .inr (.inr (.inr (.inr gr))))) := (k37 _ (z_nn u25 a66)).trans a69
          have a71 : f42 ra = some (.inl (cy 3, 60, .inr (.inr (.inr (.inr gr))))) := k45 _ _ a70 (z_nn u20 a65)
          have a72 : f42 q24 = some (.inl (cy 1, 3, .inr (.inl (vp_updL (vp_updL (vp_updL (fun _ => 0) 0 x.toInt64) 1 y.toInt64) 2 z.toInt64)))) := k45 _ _ a36 (Ne.symm (z_nn u25 a22))
          have F73 : ∀ i9 : Nat, i9 < nn → f1 (fg i9) = some (.inr (4, [.int (kd i9), .ref (pt i9), .long (wg i9), .int (wd i9), .int (nI i9), .int (hs i9), .int (bf i9)])) := fun i9 h9 => k4 _ _ (hF i9 h9) (z_ne (hF i9 h9) x_fa rfl)
          have F74 : ∀ i9 : Nat, i9 < nn → f7 (fg i9) = some (.inr (4, [.int (kd i9), .ref (pt i9), .long (wg i9), .int (wd i9), .int (nI i9), .int (hs i9), .int (bf i9)])) := fun i9 h9 => k9 _ _ (F73 i9 h9) 
          have F75 : ∀ i9 : Nat, i9 < nn → f14 (fg i9) = some (.inr (4, [.int (kd i9), .ref (pt i9), .long (wg i9), .int (wd i9), .int (nI i9), .int (hs i9), .int (bf i9)])) := fun i9 h9 => k16 _ _ (F74 i9 h9) 
          have F76 : ∀ i9 : Nat, i9 < nn → f21 (fg i9) = some (.inr (4, [.int (kd i9), .ref (pt i9), .long (wg i9), .int (wd i9), .int (nI i9), .int (hs i9), .int (bf i9)])) := fun i9 h9 => (k23 _ (z_nn u20 (F75 i9 h9))).trans (F75 i9 h9)
          have F77 : ∀ i9 : Nat, i9 < nn → f26 (fg i9) = some (.inr (4, [.int (kd i9), .ref (pt i9), .long (wg i9), .int (wd i9), .int (nI i9), .int (hs i9), .int (bf i9)])) := fun i9 h9 => (k28 _ (z_nn u25 (F76 i9 h9))).trans (F76 i9 h9)
          have F78 : ∀ i9 : Nat, i9 < nn → f29 (fg i9) = some (.inr (4, [.int (kd i9), .ref (pt i9), .long (wg i9), .int (wd i9), .int (nI i9), .int (hs i9), .int (bf i9)])) := fun i9 h9 => (k31 _ (z_nn u25 (F76 i9 h9))).trans (F77 i9 h9)
          have F79 : ∀ i9 : Nat, i9 < nn → f32 (fg i9) = some (.inr (4, [.int (kd i9), .ref (pt i9), .long (wg i9), .int (wd i9), .int (nI i9), .int (hs i9), .int (bf i9)])) := fun i9 h9 => (k34 _ (z_nn u25 (F76 i9 h9))).trans (F78 i9 h9)
          have F80 : ∀ i9 : Nat, i9 < nn → f35 (fg i9) = some (.inr (4, [.int (kd i9), .ref (pt i9), .long (wg i9), .int (wd i9), .int (nI i9), .int (hs i9), .int (bf i9)])) := fun i9 h9 => (k37 _ (z_nn u25 (F76 i9 h9))).trans (F79 i9 h9)
          have F81 : ∀ i9 : Nat, i9 < nn → f42 (fg i9) = some (.inr (4, [.int (kd i9), .ref (pt i9), .long (wg i9), .int (wd i9), .int (nI i9), .int (hs i9), .int (bf i9)])) := fun i9 h9 => k45 _ _ (F80 i9 h9) (z_nn u20 (F75 i9 h9))
          have F82 : ∀ i9 : Nat, i9 < nn → f1 (pt i9) = some (.inl (cy 1, (ln i9), .inr (.inl (pp i9)))) := fun i9 h9 => k4 _ _ (hP i9 h9) (z_neO (hP i9 h9) x_fa rfl)
          have F83 : ∀ i9 : Nat, i9 < nn → f7 (pt i9) = some (.inl (cy 1, (ln i9), .inr (.inl (pp i9)))) := fun i9 h9 => k9 _ _ (F82 i9 h9) 
          have F84 : ∀ i9 : Nat, i9 < nn → f14 (pt i9) = some (.inl (cy 1, (ln i9), .inr (.inl (pp i9)))) := fun i9 h9 => k16 _ _ (F83 i9 h9) 
          have F85 : ∀ i9 : Nat, i9 < nn → f21 (pt i9) = some (.inl (cy 1, (ln i9), .inr (.inl (pp i9)))) := fun i9 h9 => (k23 _ (z_nn u20 (F84 i9 h9))).trans (F84 i9 h9)
          have F86 : ∀ i9 : Nat, i9 < nn → f26 (pt i9) = some (.inl (cy 1, (ln i9), .inr (.inl (pp i9)))) := fun i9 h9 => (k28 _ (z_nn u25 (F85 i9 h9))).trans (F85 i9 h9)
          have F87 : ∀ i9 : Nat, i9 < nn → f29 (pt i9) = some (.inl (cy 1, (ln i9), .inr (.inl (pp i9)))) := fun i9 h9 => (k31 _ (z_nn u25 (F85 i9 h9))).trans (F86 i9 h9)
          have F88 : ∀ i9 : Nat, i9 < nn → f32 (pt i9) = some (.inl (cy 1, (ln i9), .inr (.inl (pp i9)))) := fun i9 h9 => (k34 _ (z_nn u25 (F85 i9 h9))).trans (F87 i9 h9)
          have F89 : ∀ i9 : Nat, i9 < nn → f35 (pt i9) = some (.inl (cy 1, (ln i9), .inr (.inl (pp i9)))) := fun i9 h9 => (k37 _ (z_nn u25 (F85 i9 h9))).trans (F88 i9 h9)
          have F90 : ∀ i9 : Nat, i9 < nn → f42 (pt i9) = some (.inl (cy 1, (ln i9), .inr (.inl (pp i9)))) := fun i9 h9 => k45 _ _ (F89 i9 h9) (z_nn u20 (F84 i9 h9))
          refine z_callVi (As := [.ref q19]) C hz hS hA hl (k_X5_add l D cy f42 fi al ra ga gr nn fg pt kd ln pp wg wd hs bf q19 2 q24 (((y.toInt64 - x.toInt64 + 1) / (if 0 < z.toInt64 then z.toInt64 else -z.toInt64)) + 1) 0 (-1) 0 0 3 (vp_updL (vp_updL (vp_updL (fun _ => 0) 0 x.toInt64) 1 y.toInt64) 2 z.toInt64) a53 a62 a71 a44 a72 F81 F90 h60 hga hgr hln hk5 hfi (fun j9 h9 => z_nn u20 (F75 j9 h9)) (by omega) (fun h9 => absurd h9 (by decide)) har (fun h9 => absurd h9 (by decide))) zyX5_add mMX7_92 a53 zl5 rfl rfl (Nat.le_of_ble_eq_true rfl) ⟨Nat.le_of_ble_eq_true rfl, Nat.le_of_ble_eq_true rfl⟩ ⟨Nat.le_of_ble_eq_true rfl, Nat.le_of_ble_eq_true rfl⟩ dX7_wide_115 (fun r f91 H locs h92 hz hS => ?_)
          obtain ⟨hq_93, bq_94, gr_95, bf_96, rfl, p97, p98, a99, a100, a101, F102, F103, k104⟩ := h92
          have a105 : f21 o = some (.inr (7, [.ref fa, .ref fi, .ref nu, .int (nI nl), .ref fm, .int (nI nf), .ref co, .int (nI nc), .ref en, .ref ke, .long lk])) := (k23 _ (z_nn u20 a18)).trans a18
          have a106 : f26 o = some (.inr (7, [.ref fa, .ref fi, .ref nu, .int (nI nl), .ref fm, .int (nI nf), .ref co, .int (nI nc), .ref en, .ref ke, .long lk])) := (k28 _ (z_nn u25 a105)).trans a105
          have a107 : f29 o = some (.inr (7, [.ref fa, .ref fi, .ref nu, .int (nI nl), .ref fm, .int (nI nf), .ref co, .int (nI nc), .ref en, .ref ke, .long lk])) := (k31 _ (z_nn u25 a105)).trans a106
          have a108 : f32 o = some (.inr (7, [.ref fa, .ref fi, .ref nu, .int (nI nl), .ref fm, .int (nI nf), .ref co, .int (nI nc), .ref en, .ref ke, .long lk])) := (k34 _ (z_nn u25 a105)).trans a107
          have a109 : f35 o = some (.inr (7, [.ref fa, .ref fi, .ref nu, .int (nI nl), .ref fm, .int (nI nf), .ref co, .int (nI nc), .ref en, .ref ke, .long lk])) := (k37 _ (z_nn u25 a105)).trans a108
          have a110 : f42 o = some (.inr (7, [.ref fa, .ref fi, .ref nu, .int (nI nl), .ref fm, .int (nI nf), .ref co, .int (nI nc), .ref en, .ref ke, .long lk])) := k45 _ _ a109 (z_nn u20 a18)
          have a111 : f91 o = some (.inr (7, [.ref fa, .ref fi, .ref nu, .int (nI nl), .ref fm, .int (nI nf), .ref co, .int (nI nc), .ref en, .ref ke, .long lk])) := k104 _ _ a110 (z_ne a110 a53 rfl) (z_ne a110 a62 rfl) (z_ne a110 a71 rfl) (z_nn u20 a18) (fun j9 h8 => (z_ne a110 (F81 j9 h8) rfl))
          have a112 : f7 fa = some (.inr (2, [.int 0, .int (-1), .int 0, .ref ev])) := k9 _ _ a3 
          have a113 : f14 fa = some (.inr (2, [.int 0, .int (-1), .int 0, .ref ev])) := k16 _ _ a112 
          have a114 : f21 fa = some (.inr (2, [.int 0, .int (-1), .int 0, .ref ev])) := (k23 _ (z_nn u20 a113)).trans a113
          have a115 : f26 fa = some (.inr (2, [.int 0, .int (-1), .int 0, .ref ev])) := (k28 _ (z_nn u25 a114)).trans a114
          have a116 : f29 fa = some (.inr (2, [.int 0, .int (-1), .int 0, .ref ev])) := (k31 _ (z_nn u25 a114)).trans a115
          have a117 : f32 fa = some (.inr (2, [.int 0, .int (-1), .int 0, .ref ev])) := (k34 _ (z_nn u25 a114)).trans a116
          have a118 : f35 fa = some (.inr (2, [.int 0, .int (-1), .int 0, .ref ev])) := (k37 _ (z_nn u25 a114)).trans a117
          have a119 : f42 fa = some (.inr (2, [.int 0, .int (-1), .int 0, .ref ev])) := k45 _ _ a118 (z_nn u20 a113)
          have a120 : f91 fa = some (.inr (2, [.int 0, .int (-1), .int 0, .ref ev])) := k104 _ _ a119 (z_ne a119 a53 rfl) (z_ne a119 a62 rfl) (z_ne a119 a71 rfl) (z_nn u20 a113) (fun j9 h8 => (z_ne a119 (F81 j9 h8) rfl))
          have a121 : f1 ev = some (.inl (cy 0, 8, .inl gv)) := k4 _ _ x_ev (z_ne x_ev x_fa rfl)
          have a122 : f7 ev = some (.inl (cy 0, 8, .inl gv)) := k9 _ _ a121 
          have a123 : f14 ev = some (.inl (cy 0, 8, .inl gv)) := k16 _ _ a122 
          have a124 : f21 ev = some (.inl (cy 0, 8, .inl gv)) := (k23 _ (z_nn u20 a123)).trans a123
          have a125 : f26 ev = some (.inl (cy 0, 8, .inl gv)) := (k28 _ (z_nn u25 a124)).trans a124
          have a126 : f29 ev = some (.inl (cy 0, 8, .inl gv)) := (k31 _ (z_nn u25 a124)).trans a125
          have a127 : f32 ev = some (.inl (cy 0, 8, .inl gv)) := (k34 _ (z_nn u25 a124)).trans a126
          have a128 : f35 ev = some (.inl (cy 0, 8, .inl gv)) := (k37 _ (z_nn u25 a124)).trans a127
          have a129 : f42 ev = some (.inl (cy 0, 8, .inl gv)) := k45 _ _ a128 (z_nn u20 a123)
          have a130 : f91 ev = some (.inl (cy 0, 8, .inl gv)) := k104 _ _ a129 (z_ne a129 a53 rfl) (z_ne a129 a62 rfl) (z_ne a129 a71 rfl) (z_nn u20 a123) (fun j9 h8 => (z_ne a129 (F81 j9 h8) rfl))
          have a131 : f1 nu = some (.inl (cy 0, 12, .inl gu)) := k4 _ _ x_nu (z_ne x_nu x_fa rfl)
          have a132 : f7 nu = some (.inl (cy 0, 12, .inl gu)) := k9 _ _ a131 
          have a133 : f14 nu = some (.inl (cy 0, 12, .inl gu)) := k16 _ _ a132 
          have a134 : f21 nu = some (.inl (cy 0, 12, .inl gu)) := (k23 _ (z_nn u20 a133)).trans a133
          have a135 : f26 nu = some (.inl (cy 0, 12, .inl gu)) := (k28 _ (z_nn u25 a134)).trans a134
          have a136 : f29 nu = some (.inl (cy 0, 12, .inl gu)) := (k31 _ (z_nn u25 a134)).trans a135
          have a137 : f32 nu = some (.inl (cy 0, 12, .inl gu)) := (k34 _ (z_nn u25 a134)).trans a136
          have a138 : f35 nu = some (.inl (cy 0, 12, .inl gu)) := (k37 _ (z_nn u25 a134)).trans a137
          have a139 : f42 nu = some (.inl (cy 0, 12, .inl gu)) := k45 _ _ a138 (z_nn u20 a133)
          have a140 : f91 nu = some (.inl (cy 0, 12, .inl gu)) := k104 _ _ a139 (z_ne a139 a53 rfl) (z_ne a139 a62 rfl) (z_ne a139 a71 rfl) (z_nn u20 a133) (fun j9 h8 => (z_ne a139 (F81 j9 h8) rfl))
          have a141 : f1 fm = some (.inl (cy 4, 6, .inr (.inr (.inr (.inr gf))))) := k4 _ _ x_fm (z_ne x_fm x_fa rfl)
          have a142 : f7 fm = some (.inl (cy 4, 6, .inr (.inr (.inr (.inr gf))))) := k9 _ _ a141 
          have a143 : f14 fm = some (.inl (cy 4, 6, .inr (.inr (.inr (.inr gf))))) := k16 _ _ a142 
          have a144 : f21 fm = some (.inl (cy 4, 6, .inr (.inr (.inr (.inr gf))))) := (k23 _ (z_nn u20 a143)).trans a143
          have a145 : f26 fm = some (.inl (cy 4, 6, .inr (.inr (.inr (.inr gf))))) := (k28 _ (z_nn u25 a144)).trans a144
          have a146 : f29 fm = some (.inl (cy 4, 6, .inr (.inr (.inr (.inr gf))))) := (k31 _ (z_nn u25 a144)).trans a145
          have a147 : f32 fm = some (.inl (cy 4, 6, .inr (.inr (.inr (.inr gf))))) := (k34 _ (z_nn u25 a144)).trans a146
          have a148 : f35 fm = some (.inl (cy 4, 6, .inr (.inr (.inr (.inr gf))))) := (k37 _ (z_nn u25 a144)).trans a147
          have a149 : f42 fm = some (.inl (cy 4, 6, .inr (.inr (.inr (.inr gf))))) := k45 _ _ a148 (z_nn u20 a143)
          have a150 : f91 fm = some (.inl (cy 4, 6, .inr (.inr (.inr (.inr gf))))) := k104 _ _ a149 (z_ne a149 a53 rfl) (z_ne a149 a62 rfl) (z_ne a149 a71 rfl) (z_nn u20 a143) (fun j9 h8 => (z_ne a149 (F81 j9 h8) rfl))
          have a151 : f1 co = some (.inl (cy 5, 60, .inr (.inr (.inr (.inr gc))))) := k4 _ _ x_co (z_ne x_co x_fa rfl)
          have a152 : f7 co = some (.inl (cy 5, 60, .inr (.inr (.inr (.inr gc))))) := k9 _ _ a151 
          have a153 : f14 co = some (.inl (cy 5, 60, .inr (.inr (.inr (.inr gc))))) := k16 _ _ a152 
          have a154 : f21 co = some (.inl (cy 5, 60, .inr (.inr (.inr (.inr gc))))) := (k23 _ (z_nn u20 a153)).trans a153
          have a155 : f26 co = some (.inl (cy 5, 60, .inr (.inr (.inr (.inr gc))))) := (k28 _ (z_nn u25 a154)).trans a154
          have a156 : f29 co = some (.inl (cy 5, 60, .inr (.inr (.inr (.inr gc))))) := (k31 _ (z_nn u25 a154)).trans a155
          have a157 : f32 co = some (.inl (cy 5, 60, .inr (.inr (.inr (.inr gc))))) := (k34 _ (z_nn u25 a154)).trans a156
          have a158 : f35 co = some (.inl (cy 5, 60, .inr (.inr (.inr (.inr gc))))) := (k37 _ (z_nn u25 a154)).trans a157
          have a159 : f42 co = some (.inl (cy 5, 60, .inr (.inr (.inr (.inr gc))))) := k45 _ _ a158 (z_nn u20 a153)
          have a160 : f91 co = some (.inl (cy 5, 60, .inr (.inr (.inr (.inr gc))))) := k104 _ _ a159 (z_ne a159 a53 rfl) hca hcr (z_nn u20 a153) (fun j9 h8 => (z_ne a159 (F81 j9 h8) rfl))
          have a161 : f1 en = some (.inl (cy 6, 4, .inr (.inr (.inr (.inr ge))))) := k4 _ _ x_en (z_ne x_en x_fa rfl)
          have a162 : f7 en = some (.inl (cy 6, 4, .inr (.inr (.inr (.inr ge))))) := k9 _ _ a161 
          have a163 : f14 en = some (.inl (cy 6, 4, .inr (.inr (.inr (.inr ge))))) := k16 _ _ a162 
          have a164 : f21 en = some (.inl (cy 6, 4, .inr (.inr (.inr (.inr ge))))) := (k23 _ (z_nn u20 a163)).trans a163
          have a165 : f26 en = some (.inl (cy 6, 4, .inr (.inr (.inr (.inr ge))))) := (k28 _ (z_nn u25 a164)).trans a164
          have a166 : f29 en = some (.inl (cy 6, 4, .inr (.inr (.inr (.inr ge))))) := (k31 _ (z_nn u25 a164)).trans a165
          have a167 : f32 en = some (.inl (cy 6, 4, .inr (.inr (.inr (.inr ge))))) := (k34 _ (z_nn u25 a164)).trans a166
          have a168 : f35 en = some (.inl (cy 6, 4, .inr (.inr (.inr (.inr ge))))) := (k37 _ (z_nn u25 a164)).trans a167
          have a169 : f42 en = some (.inl (cy 6, 4, .inr (.inr (.inr (.inr ge))))) := k45 _ _ a168 (z_nn u20 a163)
          have a170 : f91 en = some (.inl (cy 6, 4, .inr (.inr (.inr (.inr ge))))) := k104 _ _ a169 (z_ne a169 a53 rfl) (z_ne a169 a62 rfl) (z_ne a169 a71 rfl) (z_nn u20 a163) (fun j9 h8 => (z_ne a169 (F81 j9 h8) rfl))
          have a171 : f1 ke = some (.inr (6, [.ref kn, .ref vq, .int (nI ks)])) := k4 _ _ x_ke (z_ne x_ke x_fa rfl)
          have a172 : f7 ke = some (.inr (6, [.ref kn, .ref vq, .int (nI ks)])) := k9 _ _ a171 
          have a173 : f14 ke = some (.inr (6, [.ref kn, .ref vq, .int (nI ks)])) := k16 _ _ a172 
          have a174 : f21 ke = some (.inr (6, [.ref kn, .ref vq, .int (nI ks)])) := (k23 _ (z_nn u20 a173)).trans a173
          have a175 : f26 ke = some (.inr (6, [.ref kn, .ref vq, .int (nI ks)])) := (k28 _ (z_nn u25 a174)).trans a174
          have a176 : f29 ke = some (.inr (6, [.ref kn, .ref vq, .int (nI ks)])) := (k31 _ (z_nn u25 a174)).trans a175
          have a177 : f32 ke = some (.inr (6, [.ref kn, .ref vq, .int (nI ks)])) := (k34 _ (z_nn u25 a174)).trans a176
          have a178 : f35 ke = some (.inr (6, [.ref kn, .ref vq, .int (nI ks)])) := (k37 _ (z_nn u25 a174)).trans a177
          have a179 : f42 ke = some (.inr (6, [.ref kn, .ref vq, .int (nI ks)])) := k45 _ _ a178 (z_nn u20 a173)
          have a180 : f91 ke = some (.inr (6, [.ref kn, .ref vq, .int (nI ks)])) := k104 _ _ a179 (z_ne a179 a53 rfl) (z_ne a179 a62 rfl) (z_ne a179 a71 rfl) (z_nn u20 a173) (fun j9 h8 => (z_ne a179 (F81 j9 h8) rfl))
          have a181 : f1 kn = some (.inl (cy 0, 40, .inl kk)) := k4 _ _ x_kn (z_ne x_kn x_fa rfl)
          have a182 : f7 kn = some (.inl (cy 0, 40, .inl kk)) := k9 _ _ a181 
          have a183 : f14 kn = some (.inl (cy 0, 40, .inl kk)) := k16 _ _ a182 
          have a184 : f21 kn = some (.inl (cy 0, 40, .inl kk)) := (k23 _ (z_nn u20 a183)).trans a183
          have a185 : f26 kn = some (.inl (cy 0, 40, .inl kk)) := (k28 _ (z_nn u25 a184)).trans a184
          have a186 : f29 kn = some (.inl (cy 0, 40, .inl kk)) := (k31 _ (z_nn u25 a184)).trans a185
          have a187 : f32 kn = some (.inl (cy 0, 40, .inl kk)) := (k34 _ (z_nn u25 a184)).trans a186
          have a188 : f35 kn = some (.inl (cy 0, 40, .inl kk)) := (k37 _ (z_nn u25 a184)).trans a187
          have a189 : f42 kn = some (.inl (cy 0, 40, .inl kk)) := k45 _ _ a188 (z_nn u20 a183)
          have a190 : f91 kn = some (.inl (cy 0, 40, .inl kk)) := k104 _ _ a189 (z_ne a189 a53 rfl) (z_ne a189 a62 rfl) (z_ne a189 a71 rfl) (z_nn u20 a183) (fun j9 h8 => (z_ne a189 (F81 j9 h8) rfl))
          have a191 : f1 vq = some (.inl (cy 0, 40, .inl kv)) := k4 _ _ x_vq (z_ne x_vq x_fa rfl)
          have a192 : f7 vq = some (.inl (cy 0, 40, .inl kv)) := k9 _ _ a191 
          have a193 : f14 vq = some (.inl (cy 0, 40, .inl kv)) := k16 _ _ a192 
          have a194 : f21 vq = some (.inl (cy 0, 40, .inl kv)) := (k23 _ (z_nn u20 a193)).trans a193
          have a195 : f26 vq = some (.inl (cy 0, 40, .inl kv)) := (k28 _ (z_nn u25 a194)).trans a194
          have a196 : f29 vq = some (.inl (cy 0, 40, .inl kv)) := (k31 _ (z_nn u25 a194)).trans a195
          have a197 : f32 vq = some (.inl (cy 0, 40, .inl kv)) := (k34 _ (z_nn u25 a194)).trans a196
          have a198 : f35 vq = some (.inl (cy 0, 40, .inl kv)) := (k37 _ (z_nn u25 a194)).trans a197
          have a199 : f42 vq = some (.inl (cy 0, 40, .inl kv)) := k45 _ _ a198 (z_nn u20 a193)
          have a200 : f91 vq = some (.inl (cy 0, 40, .inl kv)) := k104 _ _ a199 (z_ne a199 a53 rfl) (z_ne a199 a62 rfl) (z_ne a199 a71 rfl) (z_nn u20 a193) (fun j9 h8 => (z_ne a199 (F81 j9 h8) rfl))
          have F201 : ∀ i9 : Nat, i9 < nf → f1 (fq i9) = some (.inr (3, [.ref (fk i9), .int (nI (fz i9))])) := fun i9 h9 => k4 _ _ (hFq i9 h9) (z_ne (hFq i9 h9) x_fa rfl)
          have F202 : ∀ i9 : Nat, i9 < nf → f7 (fq i9) = some (.inr (3, [.ref (fk i9), .int (nI (fz i9))])) := fun i9 h9 => k9 _ _ (F201 i9 h9) 
          have F203 : ∀ i9 : Nat, i9 < nf → f14 (fq i9) = some (.inr (3, [.ref (fk i9), .int (nI (fz i9))])) := fun i9 h9 => k16 _ _ (F202 i9 h9) 
          have F204 : ∀ i9 : Nat, i9 < nf → f21 (fq i9) = some (.inr (3, [.ref (fk i9), .int (nI (fz i9))])) := fun i9 h9 => (k23 _ (z_nn u20 (F203 i9 h9))).trans (F203 i9 h9)
          have F205 : ∀ i9 : Nat, i9 < nf → f26 (fq i9) = some (.inr (3, [.ref (fk i9), .int (nI (fz i9))])) := fun i9 h9 => (k28 _ (z_nn u25 (F204 i9 h9))).trans (F204 i9 h9)
          have F206 : ∀ i9 : Nat, i9 < nf → f29 (fq i9) = some (.inr (3, [.ref (fk i9), .int (nI (fz i9))])) := fun i9 h9 => (k31 _ (z_nn u25 (F204 i9 h9))).trans (F205 i9 h9)
          have F207 : ∀ i9 : Nat, i9 < nf → f32 (fq i9) = some (.inr (3, [.ref (fk i9), .int (nI (fz i9))])) := fun i9 h9 => (k34 _ (z_nn u25 (F204 i9 h9))).trans (F206 i9 h9)
          have F208 : ∀ i9 : Nat, i9 < nf → f35 (fq i9) = some (.inr (3, [.ref (fk i9), .int (nI (fz i9))])) := fun i9 h9 => (k37 _ (z_nn u25 (F204 i9 h9))).trans (F207 i9 h9)
          have F209 : ∀ i9 : Nat, i9 < nf → f42 (fq i9) = some (.inr (3, [.ref (fk i9), .int (nI (fz i9))])) := fun i9 h9 => k45 _ _ (F208 i9 h9) (z_nn u20 (F203 i9 h9))
          have F210 : ∀ i9 : Nat, i9 < nf → f91 (fq i9) = some (.inr (3, [.ref (fk i9), .int (nI (fz i9))])) := fun i9 h9 => k104 _ _ (F209 i9 h9) (z_ne (F209 i9 h9) a53 rfl) (z_ne (F209 i9 h9) a62 rfl) (z_ne (F209 i9 h9) a71 rfl) (z_nn u20 (F203 i9 h9)) (fun j9 h8 => (z_ne (F209 i9 h9) (F81 j9 h8) rfl))
          have F211 : ∀ i9 : Nat, i9 < nf → f1 (fk i9) = some (.inl (cy 0, 4, .inl (fc i9))) := fun i9 h9 => k4 _ _ (hFk i9 h9) (z_ne (hFk i9 h9) x_fa rfl)
          have F212 : ∀ i9 : Nat, i9 < nf → f7 (fk i9) = some (.inl (cy 0, 4, .inl (fc i9))) := fun i9 h9 => k9 _ _ (F211 i9 h9) 
          have F213 : ∀ i9 : Nat, i9 < nf → f14 (fk i9) = some (.inl (cy 0, 4, .inl (fc i9))) := fun i9 h9 => k16 _ _ (F212 i9 h9) 
          have F214 : ∀ i9 : Nat, i9 < nf → f21 (fk i9) = some (.inl (cy 0, 4, .inl (fc i9))) := fun i9 h9 => (k23 _ (z_nn u20 (F213 i9 h9))).trans (F213 i9 h9)
          have F215 : ∀ i9 : Nat, i9 < nf → f26 (fk i9) = some (.inl (cy 0, 4, .inl (fc i9))) := fun i9 h9 => (k28 _ (z_nn u25 (F214 i9 h9))).trans (F214 i9 h9)
          have F216 : ∀ i9 : Nat, i9 < nf → f29 (fk i9) = some (.inl (cy 0, 4, .inl (fc i9))) := fun i9 h9 => (k31 _ (z_nn u25 (F214 i9 h9))).trans (F215 i9 h9)
          have F217 : ∀ i9 : Nat, i9 < nf → f32 (fk i9) = some (.inl (cy 0, 4, .inl (fc i9))) := fun i9 h9 => (k34 _ (z_nn u25 (F214 i9 h9))).trans (F216 i9 h9)
          have F218 : ∀ i9 : Nat, i9 < nf → f35 (fk i9) = some (.inl (cy 0, 4, .inl (fc i9))) := fun i9 h9 => (k37 _ (z_nn u25 (F214 i9 h9))).trans (F217 i9 h9)
          have F219 : ∀ i9 : Nat, i9 < nf → f42 (fk i9) = some (.inl (cy 0, 4, .inl (fc i9))) := fun i9 h9 => k45 _ _ (F218 i9 h9) (z_nn u20 (F213 i9 h9))
          have F220 : ∀ i9 : Nat, i9 < nf → f91 (fk i9) = some (.inl (cy 0, 4, .inl (fc i9))) := fun i9 h9 => k104 _ _ (F219 i9 h9) (z_ne (F219 i9 h9) a53 rfl) (z_ne (F219 i9 h9) a62 rfl) (z_ne (F219 i9 h9) a71 rfl) (z_nn u20 (F213 i9 h9)) (fun j9 h8 => (z_ne (F219 i9 h9) (F81 j9 h8) rfl))
          have F221 : ∀ i9 : Nat, i9 < nc → f1 (cn i9) = some (.inr (0, [.int (ce i9), .int (cm i9)])) := fun i9 h9 => k4 _ _ (hCn i9 h9) (z_ne (hCn i9 h9) x_fa rfl)
          have F222 : ∀ i9 : Nat, i9 < nc → f7 (cn i9) = some (.inr (0, [.int (ce i9), .int (cm i9)])) := fun i9 h9 => k9 _ _ (F221 i9 h9) 
          have F223 : ∀ i9 : Nat, i9 < nc → f14 (cn i9) = some (.inr (0, [.int (ce i9), .int (cm i9)])) := fun i9 h9 => k16 _ _ (F222 i9 h9) 
          have F224 : ∀ i9 : Nat, i9 < nc → f21 (cn i9) = some (.inr (0, [.int (ce i9), .int (cm i9)])) := fun i9 h9 => (k23 _ (z_nn u20 (F223 i9 h9))).trans (F223 i9 h9)
          have F225 : ∀ i9 : Nat, i9 < nc → f26 (cn i9) = some (.inr (0, [.int (ce i9), .int (cm i9)])) := fun i9 h9 => (k28 _ (z_nn u25 (F224 i9 h9))).trans (F224 i9 h9)
          have F226 : ∀ i9 : Nat, i9 < nc → f29 (cn i9) = some (.inr (0, [.int (ce i9), .int (cm i9)])) := fun i9 h9 => (k31 _ (z_nn u25 (F224 i9 h9))).trans (F225 i9 h9)
          have F227 : ∀ i9 : Nat, i9 < nc → f32 (cn i9) = some (.inr (0, [.int (ce i9), .int (cm i9)])) := fun i9 h9 => (k34 _ (z_nn u25 (F224 i9 h9))).trans (F226 i9 h9)
          have F228 : ∀ i9 : Nat, i9 < nc → f35 (cn i9) = some (.inr (0, [.int (ce i9), .int (cm i9)])) := fun i9 h9 => (k37 _ (z_nn u25 (F224 i9 h9))).trans (F227 i9 h9)
          have F229 : ∀ i9 : Nat, i9 < nc → f42 (cn i9) = some (.inr (0, [.int (ce i9), .int (cm i9)])) := fun i9 h9 => k45 _ _ (F228 i9 h9) (z_nn u20 (F223 i9 h9))
          have F230 : ∀ i9 : Nat, i9 < nc → f91 (cn i9) = some (.inr (0, [.int (ce i9), .int (cm i9)])) := fun i9 h9 => k104 _ _ (F229 i9 h9) (z_ne (F229 i9 h9) a53 rfl) (z_ne (F229 i9 h9) a62 rfl) (z_ne (F229 i9 h9) a71 rfl) (z_nn u20 (F223 i9 h9)) (fun j9 h8 => (z_ne (F229 i9 h9) (F81 j9 h8) rfl))
          have F231 : ∀ i9 : Nat, i9 < 4 → f1 (ea i9) = some (.inr (1, [.ref (ma i9), .int (nI (sq i9))])) := fun i9 h9 => k4 _ _ (hEa i9 h9) (z_ne (hEa i9 h9) x_fa rfl)
          have F232 : ∀ i9 : Nat, i9 < 4 → f7 (ea i9) = some (.inr (1, [.ref (ma i9), .int (nI (sq i9))])) := fun i9 h9 => k9 _ _ (F231 i9 h9) 
          have F233 : ∀ i9 : Nat, i9 < 4 → f14 (ea i9) = some (.inr (1, [.ref (ma i9), .int (nI (sq i9))])) := fun i9 h9 => k16 _ _ (F232 i9 h9) 
          have F234 : ∀ i9 : Nat, i9 < 4 → f21 (ea i9) = some (.inr (1, [.ref (ma i9), .int (nI (sq i9))])) := fun i9 h9 => (k23 _ (z_nn u20 (F233 i9 h9))).trans (F233 i9 h9)
          have F235 : ∀ i9 : Nat, i9 < 4 → f26 (ea i9) = some (.inr (1, [.ref (ma i9), .int (nI (sq i9))])) := fun i9 h9 => (k28 _ (z_nn u25 (F234 i9 h9))).trans (F234 i9 h9)
          have F236 : ∀ i9 : Nat, i9 < 4 → f29 (ea i9) = some (.inr (1, [.ref (ma i9), .int (nI (sq i9))])) := fun i9 h9 => (k31 _ (z_nn u25 (F234 i9 h9))).trans (F235 i9 h9)
          have F237 : ∀ i9 : Nat, i9 < 4 → f32 (ea i9) = some (.inr (1, [.ref (ma i9), .int (nI (sq i9))])) := fun i9 h9 => (k34 _ (z_nn u25 (F234 i9 h9))).trans (F236 i9 h9)
          have F238 : ∀ i9 : Nat, i9 < 4 → f35 (ea i9) = some (.inr (1, [.ref (ma i9), .int (nI (sq i9))])) := fun i9 h9 => (k37 _ (z_nn u25 (F234 i9 h9))).trans (F237 i9 h9)
          have F239 : ∀ i9 : Nat, i9 < 4 → f42 (ea i9) = some (.inr (1, [.ref (ma i9), .int (nI (sq i9))])) := fun i9 h9 => k45 _ _ (F238 i9 h9) (z_nn u20 (F233 i9 h9))
          have F240 : ∀ i9 : Nat, i9 < 4 → f91 (ea i9) = some (.inr (1, [.ref (ma i9), .int (nI (sq i9))])) := fun i9 h9 => k104 _ _ (F239 i9 h9) (z_ne (F239 i9 h9) a53 rfl) (z_ne (F239 i9 h9) a62 rfl) (z_ne (F239 i9 h9) a71 rfl) (z_nn u20 (F233 i9 h9)) (fun j9 h8 => (z_ne (F239 i9 h9) (F81 j9 h8) rfl))
          have F241 : ∀ i9 : Nat, i9 < 4 → f1 (ma i9) = some (.inl (cy 0, 60, .inl (mb i9))) := fun i9 h9 => k4 _ _ (hMa i9 h9) (z_ne (hMa i9 h9) x_fa rfl)
          have F242 : ∀ i9 : Nat, i9 < 4 → f7 (ma i9) = some (.inl (cy 0, 60, .inl (mb i9))) := fun i9 h9 => k9 _ _ (F241 i9 h9) 
          have F243 : ∀ i9 : Nat, i9 < 4 → f14 (ma i9) = some (.inl (cy 0, 60, .inl (mb i9))) := fun i9 h9 => k16 _ _ (F242 i9 h9) 
          have F244 : ∀ i9 : Nat, i9 < 4 → f21 (ma i9) = some (.inl (cy 0, 60, .inl (mb i9))) := fun i9 h9 => (k23 _ (z_nn u20 (F243 i9 h9))).trans (F243 i9 h9)
          have F245 : ∀ i9 : Nat, i9 < 4 → f26 (ma i9) = some (.inl (cy 0, 60, .inl (mb i9))) := fun i9 h9 => (k28 _ (z_nn u25 (F244 i9 h9))).trans (F244 i9 h9)
          have F246 : ∀ i9 : Nat, i9 < 4 → f29 (ma i9) = some (.inl (cy 0, 60, .inl (mb i9))) := fun i9 h9 => (k31 _ (z_nn u25 (F244 i9 h9))).trans (F245 i9 h9)
          have F247 : ∀ i9 : Nat, i9 < 4 → f32 (ma i9) = some (.inl (cy 0, 60, .inl (mb i9))) := fun i9 h9 => (k34 _ (z_nn u25 (F244 i9 h9))).trans (F246 i9 h9)
          have F248 : ∀ i9 : Nat, i9 < 4 → f35 (ma i9) = some (.inl (cy 0, 60, .inl (mb i9))) := fun i9 h9 => (k37 _ (z_nn u25 (F244 i9 h9))).trans (F247 i9 h9)
          have F249 : ∀ i9 : Nat, i9 < 4 → f42 (ma i9) = some (.inl (cy 0, 60, .inl (mb i9))) := fun i9 h9 => k45 _ _ (F248 i9 h9) (z_nn u20 (F243 i9 h9))
          have F250 : ∀ i9 : Nat, i9 < 4 → f91 (ma i9) = some (.inl (cy 0, 60, .inl (mb i9))) := fun i9 h9 => k104 _ _ (F249 i9 h9) (z_ne (F249 i9 h9) a53 rfl) (z_ne (F249 i9 h9) a62 rfl) (z_ne (F249 i9 h9) a71 rfl) (z_nn u20 (F243 i9 h9)) (fun j9 h8 => (z_ne (F249 i9 h9) (F81 j9 h8) rfl))
          have a251 : f91 q24 = some (.inl (cy 1, 3, .inr (.inl (vp_updL (vp_updL (vp_updL (fun _ => 0) 0 x.toInt64) 1 y.toInt64) 2 z.toInt64)))) := k104 _ _ a72 (Ne.symm (z_nn u25 a48)) (Ne.symm (z_nn u25 a57)) (Ne.symm (z_nn u25 a66)) (Ne.symm (z_nn u25 a22)) (fun j9 h8 => (z_ne a72 (F81 j9 h8) rfl))
          have hgpf : ∀ j, j < 3 → (vp_updL (vp_updL (vp_updL (fun _ => 0) 0 x.toInt64) 1 y.toInt64) 2 z.toInt64) j = (q3 x.toInt64 y.toInt64 z.toInt64) j := (z_j3 _ _ _ _)
          have hq : q_wide nn x y z = (nI nn, 0, (-1), 0) := by simp [q_wide, h60, c10, c11, c12, c13]
          exact z_iret C hr rfl hz hS ⟨0, (-1), 0, gv, nl, gu, (nn + 1), (va_up ga nn (some q19)), gr_95, (va_up fg nn q19), (va_up pt nn q24), (va_up kd nn 2), (va_up ln nn 3), (va_up pp nn (vp_updL (vp_updL (vp_updL (fun _ => 0) 0 x.toInt64) 1 y.toInt64) 2 z.toInt64)), (va_up wg nn (((y.toInt64 - x.toInt64 + 1) / (if 0 < z.toInt64 then z.toInt64 else -z.toInt64)) + 1)), (va_up wd nn 0), (va_up hs nn hq_93), (va_up bf_96 nn bq_94), nf, gf, fq, fk, fz, fc, nc, gc, cn, ce, cm, sq, mb, ks, kk, kv, lk, (by rw [hq]), (by rw [hq]), (by rw [hq]), (by rw [hq]), (by rw [hq]; exact (zEV0 gv).symm), rfl, rfl, (by rw [if_pos (nI_pos' (by omega))]), (by rw [if_pos (nI_pos' (by omega))]), (by rw [if_pos (nI_pos' (by omega))]), (zPP_new hgpf), (by rw [if_pos (nI_pos' (by omega))]), (by rw [if_pos (nI_pos' (by omega)), p97, zHash_congr (gp' := q3 x.toInt64 y.toInt64 z.toInt64) hgpf]), rfl, rfl, rfl, rfl, rfl, rfl, rfl, rfl, rfl, rfl, rfl, rfl, (by rw [if_pos (nI_pos' (by omega))]), ⟨a111, a120, a130, a99, a100, a101, a140, a150, a160, a170, a180, a190, a200, F102, F103, F210, F220, F230, F240, F250, (by omega), hl12, hf6, hc60, hs40, (z_ga1 hga), (z_gr1 p98), (z_up1 (P := fun _ a9 => a9 ≤ 15) hln (by omega)), (z_up2 (P := fun (a9 : Int32) (b9 : Nat) => a9 = 5 → 3 ≤ b9) hk5 (fun h9 => absurd h9 (by decide))), (z_up2 (P := fun (a9 : Int32) (b9 : Nat) => a9 = 4 → 2 ≤ b9) hk4 (fun h9 => absurd h9 (by decide))), (z_inj1 hfi (fun j9 h9 => z_nn u20 (F75 j9 h9))), (z_inj1 hpi (fun j9 h9 => z_nn u25 (F85 j9 h9))), har, hgf, hfz, hgc, hG, hsq, hei, hmi, kne, hca, hcr, hlk⟩⟩ (Nat.le_of_ble_eq_true rfl) (Nat.le_of_ble_eq_true rfl) dX7_wide_118
        · refine lv_aload_n hx hb dX7_wide_58 rfl (lv_at hl 0 rfl) ?_
          have a252 : f7 o = some (.inr (7, [.ref fa, .ref fi, .ref nu, .int (nI nl), .ref fm, .int (nI nf), .ref co, .int (nI nc), .ref en, .ref ke, .long lk])) := k9 _ _ a5 
          refine z_get (v := .ref fa) C hz a252 zl7 mFX7_10 (by decide) rfl dX7_wide_59 ?_
          refine lv_iconst (v := 2) hx hb dX7_wide_62 (by decide) ?_
          refine lv_iconst (v := 2) hx hb dX7_wide_63 (by decide) ?_
          have a253 : f7 fa = some (.inr (2, [.int 0, .int (-1), .int 0, .ref ev])) := k9 _ _ a3 
          have a254 : f1 ev = some (.inl (cy 0, 8, .inl gv)) := k4 _ _ x_ev (z_ne x_ev x_fa rfl)
          have a255 : f7 ev = some (.inl (cy 0, 8, .inl gv)) := k9 _ _ a254 
          refine z_callVi (As := [.int 2, .int 2]) C hz hS hA hl (k_X2_own l D cy f7 fa 2 2 0 (-1) 0 ev gv a253 a255 ) zyX2_own mMX7_96 a253 zl2 rfl rfl (Nat.le_of_ble_eq_true rfl) ⟨Nat.le_of_ble_eq_true rfl, Nat.le_of_ble_eq_true rfl⟩ ⟨Nat.le_of_ble_eq_true rfl, Nat.le_of_ble_eq_true rfl⟩ dX7_wide_64 (fun r f256 H locs h257 hz hS => ?_)
          obtain ⟨rfl, a258, a259, k260⟩ := h257
          have a261 : f256 o = some (.inr (7, [.ref fa, .ref fi, .ref nu, .int (nI nl), .ref fm, .int (nI nf), .ref co, .int (nI nc), .ref en, .ref ke, .long lk])) := k260 _ _ a252 (z_ne a252 a253 rfl) (z_ne a252 a255 rfl)
          have a262 : f7 fi = some (.inr (5, [.ref al, .ref ra, .int (nI nn)])) := k9 _ _ a6 
          have a263 : f256 fi = some (.inr (5, [.ref al, .ref ra, .int (nI nn)])) := k260 _ _ a262 (z_ne a262 a253 rfl) (z_ne a262 a255 rfl)
          have a264 : f1 al = some (.inl (cy 3, 60, .inr (.inr (.inr (.inr ga))))) := k4 _ _ x_al (z_ne x_al x_fa rfl)
          have a265 : f7 al = some (.inl (cy 3, 60, .inr (.inr (.inr (.inr ga))))) := k9 _ _ a264 
          have a266 : f256 al = some (.inl (cy 3, 60, .inr (.inr (.inr (.inr ga))))) := k260 _ _ a265 (z_ne a265 a253 rfl) (z_ne a265 a255 rfl)
          have a267 : f1 ra = some (.inl (cy 3, 60, .inr (.inr (.inr (.inr gr))))) := k4 _ _ x_ra (z_ne x_ra x_fa rfl)
          have a268 : f7 ra = some (.inl (cy 3, 60, .inr (.inr (.inr (.inr gr))))) := k9 _ _ a267 
          have a269 : f256 ra = some (.inl (cy 3, 60, .inr (.inr (.inr (.inr gr))))) := k260 _ _ a268 (z_ne a268 a253 rfl) (z_ne a268 a255 rfl)
          have a270 : f1 nu = some (.inl (cy 0, 12, .inl gu)) := k4 _ _ x_nu (z_ne x_nu x_fa rfl)
          have a271 : f7 nu = some (.inl (cy 0, 12, .inl gu)) := k9 _ _ a270 
          have a272 : f256 nu = some (.inl (cy 0, 12, .inl gu)) := k260 _ _ a271 (z_ne a271 a253 rfl) (z_ne a271 a255 rfl)
          have a273 : f1 fm = some (.inl (cy 4, 6, .inr (.inr (.inr (.inr gf))))) := k4 _ _ x_fm (z_ne x_fm x_fa rfl)
          have a274 : f7 fm = some (.inl (cy 4, 6, .inr (.inr (.inr (.inr gf))))) := k9 _ _ a273 
          have a275 : f256 fm = some (.inl (cy 4, 6, .inr (.inr (.inr (.inr gf))))) := k260 _ _ a274 (z_ne a274 a253 rfl) (z_ne a274 a255 rfl)
          have a276 : f1 co = some (.inl (cy 5, 60, .inr (.inr (.inr (.inr gc))))) := k4 _ _ x_co (z_ne x_co x_fa rfl)
          have a277 : f7 co = some (.inl (cy 5, 60, .inr (.inr (.inr (.inr gc))))) := k9 _ _ a276 
          have a278 : f256 co = some (.inl (cy 5, 60, .inr (.inr (.inr (.inr gc))))) := k260 _ _ a277 (z_ne a277 a253 rfl) (z_ne a277 a255 rfl)
          have a279 : f1 en = some (.inl (cy 6, 4, .inr (.inr (.inr (.inr ge))))) := k4 _ _ x_en (z_ne x_en x_fa rfl)
          have a280 : f7 en = some (.inl (cy 6, 4, .inr (.inr (.inr (.inr ge))))) := k9 _ _ a279 
          have a281 : f256 en = some (.inl (cy 6, 4, .inr (.inr (.inr (.inr ge))))) := k260 _ _ a280 (z_ne a280 a253 rfl) (z_ne a280 a255 rfl)
          have a282 : f1 ke = some (.inr (6, [.ref kn, .ref vq, .int (nI ks)])) := k4 _ _ x_ke (z_ne x_ke x_fa rfl)
          have a283 : f7 ke = some (.inr (6, [.ref kn, .ref vq, .int (nI ks)])) := k9 _ _ a282 
          have a284 : f256 ke = some (.inr (6, [.ref kn, .ref vq, .int (nI ks)])) := k260 _ _ a283 (z_ne a283 a253 rfl) (z_ne a283 a255 rfl)
          have a285 : f1 kn = some (.inl (cy 0, 40, .inl kk)) := k4 _ _ x_kn (z_ne x_kn x_fa rfl)
          have a286 : f7 kn = some (.inl (cy 0, 40, .inl kk)) := k9 _ _ a285 
          have a287 : f256 kn = some (.inl (cy 0, 40, .inl kk)) := k260 _ _ a286 (z_ne a286 a253 rfl) (z_ne a286 a255 rfl)
          have a288 : f1 vq = some (.inl (cy 0, 40, .inl kv)) := k4 _ _ x_vq (z_ne x_vq x_fa rfl)
          have a289 : f7 vq = some (.inl (cy 0, 40, .inl kv)) := k9 _ _ a288 
          have a290 : f256 vq = some (.inl (cy 0, 40, .inl kv)) := k260 _ _ a289 (z_ne a289 a253 rfl) (z_ne a289 a255 rfl)
          have F291 : ∀ i9 : Nat, i9 < nn → f1 (fg i9) = some (.inr (4, [.int (kd i9), .ref (pt i9), .long (wg i9), .int (wd i9), .int (nI i9), .int (hs i9), .int (bf i9)])) := fun i9 h9 => k4 _ _ (hF i9 h9) (z_ne (hF i9 h9) x_fa rfl)
          have F292 : ∀ i9 : Nat, i9 < nn → f7 (fg i9) = some (.inr (4, [.int (kd i9), .ref (pt i9), .long (wg i9), .int (wd i9), .int (nI i9), .int (hs i9), .int (bf i9)])) := fun i9 h9 => k9 _ _ (F291 i9 h9) 
          have F293 : ∀ i9 : Nat, i9 < nn → f256 (fg i9) = some (.inr (4, [.int (kd i9), .ref (pt i9), .long (wg i9), .int (wd i9), .int (nI i9), .int (hs i9), .int (bf i9)])) := fun i9 h9 => k260 _ _ (F292 i9 h9) (z_ne (F292 i9 h9) a253 rfl) (z_ne (F292 i9 h9) a255 rfl)
          have F294 : ∀ i9 : Nat, i9 < nn → f1 (pt i9) = some (.inl (cy 1, (ln i9), .inr (.inl (pp i9)))) := fun i9 h9 => k4 _ _ (hP i9 h9) (z_neO (hP i9 h9) x_fa rfl)
          have F295 : ∀ i9 : Nat, i9 < nn → f7 (pt i9) = some (.inl (cy 1, (ln i9), .inr (.inl (pp i9)))) := fun i9 h9 => k9 _ _ (F294 i9 h9) 
          have F296 : ∀ i9 : Nat, i9 < nn → f256 (pt i9) = some (.inl (cy 1, (ln i9), .inr (.inl (pp i9)))) := fun i9 h9 => k260 _ _ (F295 i9 h9) (z_neO (F295 i9 h9) a253 rfl) (z_neA (F295 i9 h9) a255 rfl)
          have F297 : ∀ i9 : Nat, i9 < nf → f1 (fq i9) = some (.inr (3, [.ref (fk i9), .int (nI (fz i9))])) := fun i9 h9 => k4 _ _ (hFq i9 h9) (z_ne (hFq i9 h9) x_fa rfl)
          have F298 : ∀ i9 : Nat, i9 < nf → f7 (fq i9) = some (.inr (3, [.ref (fk i9), .int (nI (fz i9))])) := fun i9 h9 => k9 _ _ (F297 i9 h9) 
          have F299 : ∀ i9 : Nat, i9 < nf → f256 (fq i9) = some (.inr (3, [.ref (fk i9), .int (nI (fz i9))])) := fun i9 h9 => k260 _ _ (F298 i9 h9) (z_ne (F298 i9 h9) a253 rfl) (z_ne (F298 i9 h9) a255 rfl)
          have F300 : ∀ i9 : Nat, i9 < nf → f1 (fk i9) = some (.inl (cy 0, 4, .inl (fc i9))) := fun i9 h9 => k4 _ _ (hFk i9 h9) (z_ne (hFk i9 h9) x_fa rfl)
          have F301 : ∀ i9 : Nat, i9 < nf → f7 (fk i9) = some (.inl (cy 0, 4, .inl (fc i9))) := fun i9 h9 => k9 _ _ (F300 i9 h9) 
          have F302 : ∀ i9 : Nat, i9 < nf → f256 (fk i9) = some (.inl (cy 0, 4, .inl (fc i9))) := fun i9 h9 => k260 _ _ (F301 i9 h9) (z_ne (F301 i9 h9) a253 rfl) (z_ne (F301 i9 h9) a255 rfl)
          have F303 : ∀ i9 : Nat, i9 < nc → f1 (cn i9) = some (.inr (0, [.int (ce i9), .int (cm i9)])) := fun i9 h9 => k4 _ _ (hCn i9 h9) (z_ne (hCn i9 h9) x_fa rfl)
          have F304 : ∀ i9 : Nat, i9 < nc → f7 (cn i9) = some (.inr (0, [.int (ce i9), .int (cm i9)])) := fun i9 h9 => k9 _ _ (F303 i9 h9) 
          have F305 : ∀ i9 : Nat, i9 < nc → f256 (cn i9) = some (.inr (0, [.int (ce i9), .int (cm i9)])) := fun i9 h9 => k260 _ _ (F304 i9 h9) (z_ne (F304 i9 h9) a253 rfl) (z_ne (F304 i9 h9) a255 rfl)
          have F306 : ∀ i9 : Nat, i9 < 4 → f1 (ea i9) = some (.inr (1, [.ref (ma i9), .int (nI (sq i9))])) := fun i9 h9 => k4 _ _ (hEa i9 h9) (z_ne (hEa i9 h9) x_fa rfl)
          have F307 : ∀ i9 : Nat, i9 < 4 → f7 (ea i9) = some (.inr (1, [.ref (ma i9), .int (nI (sq i9))])) := fun i9 h9 => k9 _ _ (F306 i9 h9) 
          have F308 : ∀ i9 : Nat, i9 < 4 → f256 (ea i9) = some (.inr (1, [.ref (ma i9), .int (nI (sq i9))])) := fun i9 h9 => k260 _ _ (F307 i9 h9) (z_ne (F307 i9 h9) a253 rfl) (z_ne (F307 i9 h9) a255 rfl)
          have F309 : ∀ i9 : Nat, i9 < 4 → f1 (ma i9) = some (.inl (cy 0, 60, .inl (mb i9))) := fun i9 h9 => k4 _ _ (hMa i9 h9) (z_ne (hMa i9 h9) x_fa rfl)
          have F310 : ∀ i9 : Nat, i9 < 4 → f7 (ma i9) = some (.inl (cy 0, 60, .inl (mb i9))) := fun i9 h9 => k9 _ _ (F309 i9 h9) 
          have F311 : ∀ i9 : Nat, i9 < 4 → f256 (ma i9) = some (.inl (cy 0, 60, .inl (mb i9))) := fun i9 h9 => k260 _ _ (F310 i9 h9) (z_ne (F310 i9 h9) a253 rfl) (z_ne (F310 i9 h9) a255 rfl)
          have hq : q_wide nn x y z = ((-4), 7, 2, 2) := by simp [q_wide, h60, c10, c11, c12, c13]
          exact z_iret C hr rfl hz hS ⟨7, 2, 2, (upd gv 7 (gv 7 + 1)), nl, gu, nn, ga, gr, fg, pt, kd, ln, pp, wg, wd, hs, bf, nf, gf, fq, fk, fz, fc, nc, gc, cn, ce, cm, sq, mb, ks, kk, kv, lk, (by rw [hq]), (by rw [hq]), (by rw [hq]), (by rw [hq]), (by rw [hq]; exact (zEV7 gv).symm), rfl, rfl, (by rw [if_neg (by decide)]), (by rw [if_neg (by decide)]), (by rw [if_neg (by decide)]), (zPP_no (by decide)), (by rw [if_neg (by decide)]), (by rw [if_neg (by decide)]), rfl, rfl, rfl, rfl, rfl, rfl, rfl, rfl, rfl, rfl, rfl, rfl, (by rw [if_neg (by decide)]), ⟨a261, a258, a259, a263, a266, a269, a272, a275, a278, a281, a284, a287, a290, F293, F296, F299, F302, F305, F308, F311, hn60, hl12, hf6, hc60, hs40, hga, hgr, hln, hk5, hk4, hfi, hpi, har, hgf, hfz, hgc, hG, hsq, hei, hmi, kne, hca, hcr, hlk⟩⟩ (Nat.le_of_ble_eq_true rfl) (Nat.le_of_ble_eq_true rfl) dX7_wide_67
      · refine lv_aload_n hx hb dX7_wide_39 rfl (lv_at hl 0 rfl) ?_
        have a312 : f7 o = some (.inr (7, [.ref fa, .ref fi, .ref nu, .int (nI nl), .ref fm, .int (nI nf), .ref co, .int (nI nc), .ref en, .ref ke, .long lk])) := k9 _ _ a5 
        refine z_get (v := .ref fa) C hz a312 zl7 mFX7_10 (by decide) rfl dX7_wide_40 ?_
        refine lv_bipush (v := 6) hx hb dX7_wide_43 (by decide) ?_
        refine lv_iconst (v := 2) hx hb dX7_wide_45 (by decide) ?_
        have a313 : f7 fa = some (.inr (2, [.int 0, .int (-1), .int 0, .ref ev])) := k9 _ _ a3 
        have a314 : f1 ev = some (.inl (cy 0, 8, .inl gv)) := k4 _ _ x_ev (z_ne x_ev x_fa rfl)
        have a315 : f7 ev = some (.inl (cy 0, 8, .inl gv)) := k9 _ _ a314 
        refine z_callVi (As := [.int 6, .int 2]) C hz hS hA hl (k_X2_inPart l D cy f7 fa 6 2 0 (-1) 0 ev gv 6 a313 a315 (by decide) (Nat.le_of_ble_eq_true rfl)) zyX2_inPart mMX7_104 a313 zl2 rfl rfl (Nat.le_of_ble_eq_true rfl) ⟨Nat.le_of_ble_eq_true rfl, Nat.le_of_ble_eq_true rfl⟩ ⟨Nat.le_of_ble_eq_true rfl, Nat.le_of_ble_eq_true rfl⟩ dX7_wide_46 (fun r f316 H locs h317 hz hS => ?_)
        obtain ⟨rfl, a318, a319, k320⟩ := h317
        have a321 : f316 o = some (.inr (7, [.ref fa, .ref fi, .ref nu, .int (nI nl), .ref fm, .int (nI nf), .ref co, .int (nI nc), .ref en, .ref ke, .long lk])) := k320 _ _ a312 (z_ne a312 a313 rfl) (z_ne a312 a315 rfl)
        have a322 : f7 fi = some (.inr (5, [.ref al, .ref ra, .int (nI nn)])) := k9 _ _ a6 
        have a323 : f316 fi = some (.inr (5, [.ref al, .ref ra, .int (nI nn)])) := k320 _ _ a322 (z_ne a322 a313 rfl) (z_ne a322 a315 rfl)
        have a324 : f1 al = some (.inl (cy 3, 60, .inr (.inr (.inr (.inr ga))))) := k4 _ _ x_al (z_ne x_al x_fa rfl)
        have a325 : f7 al = some (.inl (cy 3, 60, .inr (.inr (.inr (.inr ga))))) := k9 _ _ a324 
        have a326 : f316 al = some (.inl (cy 3, 60, .inr (.inr (.inr (.inr ga))))) := k320 _ _ a325 (z_ne a325 a313 rfl) (z_ne a325 a315 rfl)
        have a327 : f1 ra = some (.inl (cy 3, 60, .inr (.inr (.inr (.inr gr))))) := k4 _ _ x_ra (z_ne x_ra x_fa rfl)
        have a328 : f7 ra = some (.inl (cy 3, 60, .inr (.inr (.inr (.inr gr))))) := k9 _ _ a327 
        have a329 : f316 ra = some (.inl (cy 3, 60, .inr (.inr (.inr (.inr gr))))) := k320 _ _ a328 (z_ne a328 a313 rfl) (z_ne a328 a315 rfl)
        have a330 : f1 nu = some (.inl (cy 0, 12, .inl gu)) := k4 _ _ x_nu (z_ne x_nu x_fa rfl)
        have a331 : f7 nu = some (.inl (cy 0, 12, .inl gu)) := k9 _ _ a330 
        have a332 : f316 nu = some (.inl (cy 0, 12, .inl gu)) := k320 _ _ a331 (z_ne a331 a313 rfl) (z_ne a331 a315 rfl)
        have a333 : f1 fm = some (.inl (cy 4, 6, .inr (.inr (.inr (.inr gf))))) := k4 _ _ x_fm (z_ne x_fm x_fa rfl)
        have a334 : f7 fm = some (.inl (cy 4, 6, .inr (.inr (.inr (.inr gf))))) := k9 _ _ a333 
        have a335 : f316 fm = some (.inl (cy 4, 6, .inr (.inr (.inr (.inr gf))))) := k320 _ _ a334 (z_ne a334 a313 rfl) (z_ne a334 a315 rfl)
        have a336 : f1 co = some (.inl (cy 5, 60, .inr (.inr (.inr (.inr gc))))) := k4 _ _ x_co (z_ne x_co x_fa rfl)
        have a337 : f7 co = some (.inl (cy 5, 60, .inr (.inr (.inr (.inr gc))))) := k9 _ _ a336 
        have a338 : f316 co = some (.inl (cy 5, 60, .inr (.inr (.inr (.inr gc))))) := k320 _ _ a337 (z_ne a337 a313 rfl) (z_ne a337 a315 rfl)
        have a339 : f1 en = some (.inl (cy 6, 4, .inr (.inr (.inr (.inr ge))))) := k4 _ _ x_en (z_ne x_en x_fa rfl)
        have a340 : f7 en = some (.inl (cy 6, 4, .inr (.inr (.inr (.inr ge))))) := k9 _ _ a339 
        have a341 : f316 en = some (.inl (cy 6, 4, .inr (.inr (.inr (.inr ge))))) := k320 _ _ a340 (z_ne a340 a313 rfl) (z_ne a340 a315 rfl)
        have a342 : f1 ke = some (.inr (6, [.ref kn, .ref vq, .int (nI ks)])) := k4 _ _ x_ke (z_ne x_ke x_fa rfl)
        have a343 : f7 ke = some (.inr (6, [.ref kn, .ref vq, .int (nI ks)])) := k9 _ _ a342 
        have a344 : f316 ke = some (.inr (6, [.ref kn, .ref vq, .int (nI ks)])) := k320 _ _ a343 (z_ne a343 a313 rfl) (z_ne a343 a315 rfl)
        have a345 : f1 kn = some (.inl (cy 0, 40, .inl kk)) := k4 _ _ x_kn (z_ne x_kn x_fa rfl)
        have a346 : f7 kn = some (.inl (cy 0, 40, .inl kk)) := k9 _ _ a345 
        have a347 : f316 kn = some (.inl (cy 0, 40, .inl kk)) := k320 _ _ a346 (z_ne a346 a313 rfl) (z_ne a346 a315 rfl)
        have a348 : f1 vq = some (.inl (cy 0, 40, .inl kv)) := k4 _ _ x_vq (z_ne x_vq x_fa rfl)
        have a349 : f7 vq = some (.inl (cy 0, 40, .inl kv)) := k9 _ _ a348 
        have a350 : f316 vq = some (.inl (cy 0, 40, .inl kv)) := k320 _ _ a349 (z_ne a349 a313 rfl) (z_ne a349 a315 rfl)
        have F351 : ∀ i9 : Nat, i9 < nn → f1 (fg i9) = some (.inr (4, [.int (kd i9), .ref (pt i9), .long (wg i9), .int (wd i9), .int (nI i9), .int (hs i9), .int (bf i9)])) := fun i9 h9 => k4 _ _ (hF i9 h9) (z_ne (hF i9 h9) x_fa rfl)
        have F352 : ∀ i9 : Nat, i9 < nn → f7 (fg i9) = some (.inr (4, [.int (kd i9), .ref (pt i9), .long (wg i9), .int (wd i9), .int (nI i9), .int (hs i9), .int (bf i9)])) := fun i9 h9 => k9 _ _ (F351 i9 h9) 
        have F353 : ∀ i9 : Nat, i9 < nn → f316 (fg i9) = some (.inr (4, [.int (kd i9), .ref (pt i9), .long (wg i9), .int (wd i9), .int (nI i9), .int (hs i9), .int (bf i9)])) := fun i9 h9 => k320 _ _ (F352 i9 h9) (z_ne (F352 i9 h9) a313 rfl) (z_ne (F352 i9 h9) a315 rfl)
        have F354 : ∀ i9 : Nat, i9 < nn → f1 (pt i9) = some (.inl (cy 1, (ln i9), .inr (.inl (pp i9)))) := fun i9 h9 => k4 _ _ (hP i9 h9) (z_neO (hP i9 h9) x_fa rfl)
        have F355 : ∀ i9 : Nat, i9 < nn → f7 (pt i9) = some (.inl (cy 1, (ln i9), .inr (.inl (pp i9)))) := fun i9 h9 => k9 _ _ (F354 i9 h9) 
        have F356 : ∀ i9 : Nat, i9 < nn → f316 (pt i9) = some (.inl (cy 1, (ln i9), .inr (.inl (pp i9)))) := fun i9 h9 => k320 _ _ (F355 i9 h9) (z_neO (F355 i9 h9) a313 rfl) (z_neA (F355 i9 h9) a315 rfl)
        have F357 : ∀ i9 : Nat, i9 < nf → f1 (fq i9) = some (.inr (3, [.ref (fk i9), .int (nI (fz i9))])) := fun i9 h9 => k4 _ _ (hFq i9 h9) (z_ne (hFq i9 h9) x_fa rfl)
        have F358 : ∀ i9 : Nat, i9 < nf → f7 (fq i9) = some (.inr (3, [.ref (fk i9), .int (nI (fz i9))])) := fun i9 h9 => k9 _ _ (F357 i9 h9) 
        have F359 : ∀ i9 : Nat, i9 < nf → f316 (fq i9) = some (.inr (3, [.ref (fk i9), .int (nI (fz i9))])) := fun i9 h9 => k320 _ _ (F358 i9 h9) (z_ne (F358 i9 h9) a313 rfl) (z_ne (F358 i9 h9) a315 rfl)
        have F360 : ∀ i9 : Nat, i9 < nf → f1 (fk i9) = some (.inl (cy 0, 4, .inl (fc i9))) := fun i9 h9 => k4 _ _ (hFk i9 h9) (z_ne (hFk i9 h9) x_fa rfl)
        have F361 : ∀ i9 : Nat, i9 < nf → f7 (fk i9) = some (.inl (cy 0, 4, .inl (fc i9))) := fun i9 h9 => k9 _ _ (F360 i9 h9) 
        have F362 : ∀ i9 : Nat, i9 < nf → f316 (fk i9) = some (.inl (cy 0, 4, .inl (fc i9))) := fun i9 h9 => k320 _ _ (F361 i9 h9) (z_ne (F361 i9 h9) a313 rfl) (z_ne (F361 i9 h9) a315 rfl)
        have F363 : ∀ i9 : Nat, i9 < nc → f1 (cn i9) = some (.inr (0, [.int (ce i9), .int (cm i9)])) := fun i9 h9 => k4 _ _ (hCn i9 h9) (z_ne (hCn i9 h9) x_fa rfl)
        have F364 : ∀ i9 : Nat, i9 < nc → f7 (cn i9) = some (.inr (0, [.int (ce i9), .int (cm i9)])) := fun i9 h9 => k9 _ _ (F363 i9 h9) 
        have F365 : ∀ i9 : Nat, i9 < nc → f316 (cn i9) = some (.inr (0, [.int (ce i9), .int (cm i9)])) := fun i9 h9 => k320 _ _ (F364 i9 h9) (z_ne (F364 i9 h9) a313 rfl) (z_ne (F364 i9 h9) a315 rfl)
        have F366 : ∀ i9 : Nat, i9 < 4 → f1 (ea i9) = some (.inr (1, [.ref (ma i9), .int (nI (sq i9))])) := fun i9 h9 => k4 _ _ (hEa i9 h9) (z_ne (hEa i9 h9) x_fa rfl)
        have F367 : ∀ i9 : Nat, i9 < 4 → f7 (ea i9) = some (.inr (1, [.ref (ma i9), .int (nI (sq i9))])) := fun i9 h9 => k9 _ _ (F366 i9 h9) 
        have F368 : ∀ i9 : Nat, i9 < 4 → f316 (ea i9) = some (.inr (1, [.ref (ma i9), .int (nI (sq i9))])) := fun i9 h9 => k320 _ _ (F367 i9 h9) (z_ne (F367 i9 h9) a313 rfl) (z_ne (F367 i9 h9) a315 rfl)
        have F369 : ∀ i9 : Nat, i9 < 4 → f1 (ma i9) = some (.inl (cy 0, 60, .inl (mb i9))) := fun i9 h9 => k4 _ _ (hMa i9 h9) (z_ne (hMa i9 h9) x_fa rfl)
        have F370 : ∀ i9 : Nat, i9 < 4 → f7 (ma i9) = some (.inl (cy 0, 60, .inl (mb i9))) := fun i9 h9 => k9 _ _ (F369 i9 h9) 
        have F371 : ∀ i9 : Nat, i9 < 4 → f316 (ma i9) = some (.inl (cy 0, 60, .inl (mb i9))) := fun i9 h9 => k320 _ _ (F370 i9 h9) (z_ne (F370 i9 h9) a313 rfl) (z_ne (F370 i9 h9) a315 rfl)
        have hq : q_wide nn x y z = ((-4), 6, 2, 0) := by simp [q_wide, h60, c10, c11, c12]
        exact z_iret C hr rfl hz hS ⟨6, 2, 0, (upd gv 6 (gv 6 + 1)), nl, gu, nn, ga, gr, fg, pt, kd, ln, pp, wg, wd, hs, bf, nf, gf, fq, fk, fz, fc, nc, gc, cn, ce, cm, sq, mb, ks, kk, kv, lk, (by rw [hq]), (by rw [hq]), (by rw [hq]), (by rw [hq]), (by rw [hq]; exact (zEV6 gv).symm), rfl, rfl, (by rw [if_neg (by decide)]), (by rw [if_neg (by decide)]), (by rw [if_neg (by decide)]), (zPP_no (by decide)), (by rw [if_neg (by decide)]), (by rw [if_neg (by decide)]), rfl, rfl, rfl, rfl, rfl, rfl, rfl, rfl, rfl, rfl, rfl, rfl, (by rw [if_neg (by decide)]), ⟨a321, a318, a319, a323, a326, a329, a332, a335, a338, a341, a344, a347, a350, F353, F356, F359, F362, F365, F368, F371, hn60, hl12, hf6, hc60, hs40, hga, hgr, hln, hk5, hk4, hfi, hpi, har, hgf, hfz, hgc, hG, hsq, hei, hmi, kne, hca, hcr, hlk⟩⟩ (Nat.le_of_ble_eq_true rfl) (Nat.le_of_ble_eq_true rfl) dX7_wide_49
    · refine lv_aload_n hx hb dX7_wide_25 rfl (lv_at hl 0 rfl) ?_
      have a372 : f7 o = some (.inr (7, [.ref fa, .ref fi, .ref nu, .int (nI nl), .ref fm, .int (nI nf), .ref co, .int (nI nc), .ref en, .ref ke, .long lk])) := k9 _ _ a5 
      refine z_get (v := .ref fa) C hz a372 zl7 mFX7_10 (by decide) rfl dX7_wide_26 ?_
      refine lv_iconst (v := 1) hx hb dX7_wide_29 (by decide) ?_
      refine lv_iconst (v := 1) hx hb dX7_wide_30 (by decide) ?_
      have a373 : f7 fa = some (.inr (2, [.int 0, .int (-1), .int 0, .ref ev])) := k9 _ _ a3 
      have a374 : f1 ev = some (.inl (cy 0, 8, .inl gv)) := k4 _ _ x_ev (z_ne x_ev x_fa rfl)
      have a375 : f7 ev = some (.inl (cy 0, 8, .inl gv)) := k9 _ _ a374 
      refine z_callVi (As := [.int 1, .int 1]) C hz hS hA hl (k_X2_own l D cy f7 fa 1 1 0 (-1) 0 ev gv a373 a375 ) zyX2_own mMX7_96 a373 zl2 rfl rfl (Nat.le_of_ble_eq_true rfl) ⟨Nat.le_of_ble_eq_true rfl, Nat.le_of_ble_eq_true rfl⟩ ⟨Nat.le_of_ble_eq_true rfl, Nat.le_of_ble_eq_true rfl⟩ dX7_wide_31 (fun r f376 H locs h377 hz hS => ?_)
      obtain ⟨rfl, a378, a379, k380⟩ := h377
      have a381 : f376 o = some (.inr (7, [.ref fa, .ref fi, .ref nu, .int (nI nl), .ref fm, .int (nI nf), .ref co, .int (nI nc), .ref en, .ref ke, .long lk])) := k380 _ _ a372 (z_ne a372 a373 rfl) (z_ne a372 a375 rfl)
      have a382 : f7 fi = some (.inr (5, [.ref al, .ref ra, .int (nI nn)])) := k9 _ _ a6 
      have a383 : f376 fi = some (.inr (5, [.ref al, .ref ra, .int (nI nn)])) := k380 _ _ a382 (z_ne a382 a373 rfl) (z_ne a382 a375 rfl)
      have a384 : f1 al = some (.inl (cy 3, 60, .inr (.inr (.inr (.inr ga))))) := k4 _ _ x_al (z_ne x_al x_fa rfl)
      have a385 : f7 al = some (.inl (cy 3, 60, .inr (.inr (.inr (.inr ga))))) := k9 _ _ a384 
      have a386 : f376 al = some (.inl (cy 3, 60, .inr (.inr (.inr (.inr ga))))) := k380 _ _ a385 (z_ne a385 a373 rfl) (z_ne a385 a375 rfl)
      have a387 : f1 ra = some (.inl (cy 3, 60, .inr (.inr (.inr (.inr gr))))) := k4 _ _ x_ra (z_ne x_ra x_fa rfl)
      have a388 : f7 ra = some (.inl (cy 3, 60, .inr (.inr (.inr (.inr gr))))) := k9 _ _ a387 
      have a389 : f376 ra = some (.inl (cy 3, 60, .inr (.inr (.inr (.inr gr))))) := k380 _ _ a388 (z_ne a388 a373 rfl) (z_ne a388 a375 rfl)
      have a390 : f1 nu = some (.inl (cy 0, 12, .inl gu)) := k4 _ _ x_nu (z_ne x_nu x_fa rfl)
      have a391 : f7 nu = some (.inl (cy 0, 12, .inl gu)) := k9 _ _ a390 
      have a392 : f376 nu = some (.inl (cy 0, 12, .inl gu)) := k380 _ _ a391 (z_ne a391 a373 rfl) (z_ne a391 a375 rfl)
      have a393 : f1 fm = some (.inl (cy 4, 6, .inr (.inr (.inr (.inr gf))))) := k4 _ _ x_fm (z_ne x_fm x_fa rfl)
      have a394 : f7 fm = some (.inl (cy 4, 6, .inr (.inr (.inr (.inr gf))))) := k9 _ _ a393 
      have a395 : f376 fm = some (.inl (cy 4, 6, .inr (.inr (.inr (.inr gf))))) := k380 _ _ a394 (z_ne a394 a373 rfl) (z_ne a394 a375 rfl)
      have a396 : f1 co = some (.inl (cy 5, 60, .inr (.inr (.inr (.inr gc))))) := k4 _ _ x_co (z_ne x_co x_fa rfl)
      have a397 : f7 co = some (.inl (cy 5, 60, .inr (.inr (.inr (.inr gc))))) := k9 _ _ a396 
      have a398 : f376 co = some (.inl (cy 5, 60, .inr (.inr (.inr (.inr gc))))) := k380 _ _ a397 (z_ne a397 a373 rfl) (z_ne a397 a375 rfl)
      have a399 : f1 en = some (.inl (cy 6, 4, .inr (.inr (.inr (.inr ge))))) := k4 _ _ x_en (z_ne x_en x_fa rfl)
      have a400 : f7 en = some (.inl (cy 6, 4, .inr (.inr (.inr (.inr ge))))) := k9 _ _ a399 
      have a401 : f376 en = some (.inl (cy 6, 4, .inr (.inr (.inr (.inr ge))))) := k380 _ _ a400 (z_ne a400 a373 rfl) (z_ne a400 a375 rfl)
      have a402 : f1 ke = some (.inr (6, [.ref kn, .ref vq, .int (nI ks)])) := k4 _ _ x_ke (z_ne x_ke x_fa rfl)
      have a403 : f7 ke = some (.inr (6, [.ref kn, .ref vq, .int (nI ks)])) := k9 _ _ a402 
      have a404 : f376 ke = some (.inr (6, [.ref kn, .ref vq, .int (nI ks)])) := k380 _ _ a403 (z_ne a403 a373 rfl) (z_ne a403 a375 rfl)
      have a405 : f1 kn = some (.inl (cy 0, 40, .inl kk)) := k4 _ _ x_kn (z_ne x_kn x_fa rfl)
      have a406 : f7 kn = some (.inl (cy 0, 40, .inl kk)) := k9 _ _ a405 
      have a407 : f376 kn = some (.inl (cy 0, 40, .inl kk)) := k380 _ _ a406 (z_ne a406 a373 rfl) (z_ne a406 a375 rfl)
      have a408 : f1 vq = some (.inl (cy 0, 40, .inl kv)) := k4 _ _ x_vq (z_ne x_vq x_fa rfl)
      have a409 : f7 vq = some (.inl (cy 0, 40, .inl kv)) := k9 _ _ a408 
      have a410 : f376 vq = some (.inl (cy 0, 40, .inl kv)) := k380 _ _ a409 (z_ne a409 a373 rfl) (z_ne a409 a375 rfl)
      have F411 : ∀ i9 : Nat, i9 < nn → f1 (fg i9) = some (.inr (4, [.int (kd i9), .ref (pt i9), .long (wg i9), .int (wd i9), .int (nI i9), .int (hs i9), .int (bf i9)])) := fun i9 h9 => k4 _ _ (hF i9 h9) (z_ne (hF i9 h9) x_fa rfl)
      have F412 : ∀ i9 : Nat, i9 < nn → f7 (fg i9) = some (.inr (4, [.int (kd i9), .ref (pt i9), .long (wg i9), .int (wd i9), .int (nI i9), .int (hs i9), .int (bf i9)])) := fun i9 h9 => k9 _ _ (F411 i9 h9) 
      have F413 : ∀ i9 : Nat, i9 < nn → f376 (fg i9) = some (.inr (4, [.int (kd i9), .ref (pt i9), .long (wg i9), .int (wd i9), .int (nI i9), .int (hs i9), .int (bf i9)])) := fun i9 h9 => k380 _ _ (F412 i9 h9) (z_ne (F412 i9 h9) a373 rfl) (z_ne (F412 i9 h9) a375 rfl)
      have F414 : ∀ i9 : Nat, i9 < nn → f1 (pt i9) = some (.inl (cy 1, (ln i9), .inr (.inl (pp i9)))) := fun i9 h9 => k4 _ _ (hP i9 h9) (z_neO (hP i9 h9) x_fa rfl)
      have F415 : ∀ i9 : Nat, i9 < nn → f7 (pt i9) = some (.inl (cy 1, (ln i9), .inr (.inl (pp i9)))) := fun i9 h9 => k9 _ _ (F414 i9 h9) 
      have F416 : ∀ i9 : Nat, i9 < nn → f376 (pt i9) = some (.inl (cy 1, (ln i9), .inr (.inl (pp i9)))) := fun i9 h9 => k380 _ _ (F415 i9 h9) (z_neO (F415 i9 h9) a373 rfl) (z_neA (F415 i9 h9) a375 rfl)
      have F417 : ∀ i9 : Nat, i9 < nf → f1 (fq i9) = some (.inr (3, [.ref (fk i9), .int (nI (fz i9))])) := fun i9 h9 => k4 _ _ (hFq i9 h9) (z_ne (hFq i9 h9) x_fa rfl)
      have F418 : ∀ i9 : Nat, i9 < nf → f7 (fq i9) = some (.inr (3, [.ref (fk i9), .int (nI (fz i9))])) := fun i9 h9 => k9 _ _ (F417 i9 h9) 
      have F419 : ∀ i9 : Nat, i9 < nf → f376 (fq i9) = some (.inr (3, [.ref (fk i9), .int (nI (fz i9))])) := fun i9 h9 => k380 _ _ (F418 i9 h9) (z_ne (F418 i9 h9) a373 rfl) (z_ne (F418 i9 h9) a375 rfl)
      have F420 : ∀ i9 : Nat, i9 < nf → f1 (fk i9) = some (.inl (cy 0, 4, .inl (fc i9))) := fun i9 h9 => k4 _ _ (hFk i9 h9) (z_ne (hFk i9 h9) x_fa rfl)
      have F421 : ∀ i9 : Nat, i9 < nf → f7 (fk i9) = some (.inl (cy 0, 4, .inl (fc i9))) := fun i9 h9 => k9 _ _ (F420 i9 h9) 
      have F422 : ∀ i9 : Nat, i9 < nf → f376 (fk i9) = some (.inl (cy 0, 4, .inl (fc i9))) := fun i9 h9 => k380 _ _ (F421 i9 h9) (z_ne (F421 i9 h9) a373 rfl) (z_ne (F421 i9 h9) a375 rfl)
      have F423 : ∀ i9 : Nat, i9 < nc → f1 (cn i9) = some (.inr (0, [.int (ce i9), .int (cm i9)])) := fun i9 h9 => k4 _ _ (hCn i9 h9) (z_ne (hCn i9 h9) x_fa rfl)
      have F424 : ∀ i9 : Nat, i9 < nc → f7 (cn i9) = some (.inr (0, [.int (ce i9), .int (cm i9)])) := fun i9 h9 => k9 _ _ (F423 i9 h9) 
      have F425 : ∀ i9 : Nat, i9 < nc → f376 (cn i9) = some (.inr (0, [.int (ce i9), .int (cm i9)])) := fun i9 h9 => k380 _ _ (F424 i9 h9) (z_ne (F424 i9 h9) a373 rfl) (z_ne (F424 i9 h9) a375 rfl)
      have F426 : ∀ i9 : Nat, i9 < 4 → f1 (ea i9) = some (.inr (1, [.ref (ma i9), .int (nI (sq i9))])) := fun i9 h9 => k4 _ _ (hEa i9 h9) (z_ne (hEa i9 h9) x_fa rfl)
      have F427 : ∀ i9 : Nat, i9 < 4 → f7 (ea i9) = some (.inr (1, [.ref (ma i9), .int (nI (sq i9))])) := fun i9 h9 => k9 _ _ (F426 i9 h9) 
      have F428 : ∀ i9 : Nat, i9 < 4 → f376 (ea i9) = some (.inr (1, [.ref (ma i9), .int (nI (sq i9))])) := fun i9 h9 => k380 _ _ (F427 i9 h9) (z_ne (F427 i9 h9) a373 rfl) (z_ne (F427 i9 h9) a375 rfl)
      have F429 : ∀ i9 : Nat, i9 < 4 → f1 (ma i9) = some (.inl (cy 0, 60, .inl (mb i9))) := fun i9 h9 => k4 _ _ (hMa i9 h9) (z_ne (hMa i9 h9) x_fa rfl)
      have F430 : ∀ i9 : Nat, i9 < 4 → f7 (ma i9) = some (.inl (cy 0, 60, .inl (mb i9))) := fun i9 h9 => k9 _ _ (F429 i9 h9) 
      have F431 : ∀ i9 : Nat, i9 < 4 → f376 (ma i9) = some (.inl (cy 0, 60, .inl (mb i9))) := fun i9 h9 => k380 _ _ (F430 i9 h9) (z_ne (F430 i9 h9) a373 rfl) (z_ne (F430 i9 h9) a375 rfl)
      have hq : q_wide nn x y z = ((-4), 7, 1, 1) := by simp [q_wide, h60, c10, c11]
      exact z_iret C hr rfl hz hS ⟨7, 1, 1, (upd gv 7 (gv 7 + 1)), nl, gu, nn, ga, gr, fg, pt, kd, ln, pp, wg, wd, hs, bf, nf, gf, fq, fk, fz, fc, nc, gc, cn, ce, cm, sq, mb, ks, kk, kv, lk, (by rw [hq]), (by rw [hq]), (by rw [hq]), (by rw [hq]), (by rw [hq]; exact (zEV7 gv).symm), rfl, rfl, (by rw [if_neg (by decide)]), (by rw [if_neg (by decide)]), (by rw [if_neg (by decide)]), (zPP_no (by decide)), (by rw [if_neg (by decide)]), (by rw [if_neg (by decide)]), rfl, rfl, rfl, rfl, rfl, rfl, rfl, rfl, rfl, rfl, rfl, rfl, (by rw [if_neg (by decide)]), ⟨a381, a378, a379, a383, a386, a389, a392, a395, a398, a401, a404, a407, a410, F413, F416, F419, F422, F425, F428, F431, hn60, hl12, hf6, hc60, hs40, hga, hgr, hln, hk5, hk4, hfi, hpi, har, hgf, hfz, hgc, hG, hsq, hei, hmi, kne, hca, hcr, hlk⟩⟩ (Nat.le_of_ble_eq_true rfl) (Nat.le_of_ble_eq_true rfl) dX7_wide_34
  · have a432 : f1 fi = some (.inr (5, [.ref al, .ref ra, .int (nI nn)])) := k4 _ _ x_fi (z_ne x_fi x_fa rfl)
    refine z_callVi (As := []) C hz hS hA hl (k_X5_isFull_B l D cy f1 fi al ra nn a432 hn60 h60) zyX5_isFull mMX7_79 a432 zl5 rfl rfl (Nat.le_of_ble_eq_true rfl) ⟨Nat.le_of_ble_eq_true rfl, Nat.le_of_ble_eq_true rfl⟩ ⟨Nat.le_of_ble_eq_true rfl, Nat.le_of_ble_eq_true rfl⟩ dX7_wide_11 (fun r f433 H locs h434 hz hS => ?_)
    obtain ⟨rfl, k435⟩ := h434
    refine lv_if_eq (tgt := 20) hx hb dX7_wide_14 (by decide) (fun c436 => ?_) (fun c436 => ?_)
    · exact absurd c436 (by decide)
    refine lv_bipush (v := (-3)) hx hb dX7_wide_17 (by decide) ?_
    have a437 : f433 o = some (.inr (7, [.ref fa, .ref fi, .ref nu, .int (nI nl), .ref fm, .int (nI nf), .ref co, .int (nI nc), .ref en, .ref ke, .long lk])) := k435 _ _ a5 
    have a438 : f433 fa = some (.inr (2, [.int 0, .int (-1), .int 0, .ref ev])) := k435 _ _ a3 
    have a439 : f1 ev = some (.inl (cy 0, 8, .inl gv)) := k4 _ _ x_ev (z_ne x_ev x_fa rfl)
    have a440 : f433 ev = some (.inl (cy 0, 8, .inl gv)) := k435 _ _ a439 
    have a441 : f433 fi = some (.inr (5, [.ref al, .ref ra, .int (nI nn)])) := k435 _ _ a432 
    have a442 : f1 al = some (.inl (cy 3, 60, .inr (.inr (.inr (.inr ga))))) := k4 _ _ x_al (z_ne x_al x_fa rfl)
    have a443 : f433 al = some (.inl (cy 3, 60, .inr (.inr (.inr (.inr ga))))) := k435 _ _ a442 
    have a444 : f1 ra = some (.inl (cy 3, 60, .inr (.inr (.inr (.inr gr))))) := k4 _ _ x_ra (z_ne x_ra x_fa rfl)
    have a445 : f433 ra = some (.inl (cy 3, 60, .inr (.inr (.inr (.inr gr))))) := k435 _ _ a444 
    have a446 : f1 nu = some (.inl (cy 0, 12, .inl gu)) := k4 _ _ x_nu (z_ne x_nu x_fa rfl)
    have a447 : f433 nu = some (.inl (cy 0, 12, .inl gu)) := k435 _ _ a446 
    have a448 : f1 fm = some (.inl (cy 4, 6, .inr (.inr (.inr (.inr gf))))) := k4 _ _ x_fm (z_ne x_fm x_fa rfl)
    have a449 : f433 fm = some (.inl (cy 4, 6, .inr (.inr (.inr (.inr gf))))) := k435 _ _ a448 
    have a450 : f1 co = some (.inl (cy 5, 60, .inr (.inr (.inr (.inr gc))))) := k4 _ _ x_co (z_ne x_co x_fa rfl)
    have a451 : f433 co = some (.inl (cy 5, 60, .inr (.inr (.inr (.inr gc))))) := k435 _ _ a450 
    have a452 : f1 en = some (.inl (cy 6, 4, .inr (.inr (.inr (.inr ge))))) := k4 _ _ x_en (z_ne x_en x_fa rfl)
    have a453 : f433 en = some (.inl (cy 6, 4, .inr (.inr (.inr (.inr ge))))) := k435 _ _ a452 
    have a454 : f1 ke = some (.inr (6, [.ref kn, .ref vq, .int (nI ks)])) := k4 _ _ x_ke (z_ne x_ke x_fa rfl)
    have a455 : f433 ke = some (.inr (6, [.ref kn, .ref vq, .int (nI ks)])) := k435 _ _ a454 
    have a456 : f1 kn = some (.inl (cy 0, 40, .inl kk)) := k4 _ _ x_kn (z_ne x_kn x_fa rfl)
    have a457 : f433 kn = some (.inl (cy 0, 40, .inl kk)) := k435 _ _ a456 
    have a458 : f1 vq = some (.inl (cy 0, 40, .inl kv)) := k4 _ _ x_vq (z_ne x_vq x_fa rfl)
    have a459 : f433 vq = some (.inl (cy 0, 40, .inl kv)) := k435 _ _ a458 
    have F460 : ∀ i9 : Nat, i9 < nn → f1 (fg i9) = some (.inr (4, [.int (kd i9), .ref (pt i9), .long (wg i9), .int (wd i9), .int (nI i9), .int (hs i9), .int (bf i9)])) := fun i9 h9 => k4 _ _ (hF i9 h9) (z_ne (hF i9 h9) x_fa rfl)
    have F461 : ∀ i9 : Nat, i9 < nn → f433 (fg i9) = some (.inr (4, [.int (kd i9), .ref (pt i9), .long (wg i9), .int (wd i9), .int (nI i9), .int (hs i9), .int (bf i9)])) := fun i9 h9 => k435 _ _ (F460 i9 h9) 
    have F462 : ∀ i9 : Nat, i9 < nn → f1 (pt i9) = some (.inl (cy 1, (ln i9), .inr (.inl (pp i9)))) := fun i9 h9 => k4 _ _ (hP i9 h9) (z_neO (hP i9 h9) x_fa rfl)
    have F463 : ∀ i9 : Nat, i9 < nn → f433 (pt i9) = some (.inl (cy 1, (ln i9), .inr (.inl (pp i9)))) := fun i9 h9 => k435 _ _ (F462 i9 h9) 
    have F464 : ∀ i9 : Nat, i9 < nf → f1 (fq i9) = some (.inr (3, [.ref (fk i9), .int (nI (fz i9))])) := fun i9 h9 => k4 _ _ (hFq i9 h9) (z_ne (hFq i9 h9) x_fa rfl)
    have F465 : ∀ i9 : Nat, i9 < nf → f433 (fq i9) = some (.inr (3, [.ref (fk i9), .int (nI (fz i9))])) := fun i9 h9 => k435 _ _ (F464 i9 h9) 
    have F466 : ∀ i9 : Nat, i9 < nf → f1 (fk i9) = some (.inl (cy 0, 4, .inl (fc i9))) := fun i9 h9 => k4 _ _ (hFk i9 h9) (z_ne (hFk i9 h9) x_fa rfl)
    have F467 : ∀ i9 : Nat, i9 < nf → f433 (fk i9) = some (.inl (cy 0, 4, .inl (fc i9))) := fun i9 h9 => k435 _ _ (F466 i9 h9) 
    have F468 : ∀ i9 : Nat, i9 < nc → f1 (cn i9) = some (.inr (0, [.int (ce i9), .int (cm i9)])) := fun i9 h9 => k4 _ _ (hCn i9 h9) (z_ne (hCn i9 h9) x_fa rfl)
    have F469 : ∀ i9 : Nat, i9 < nc → f433 (cn i9) = some (.inr (0, [.int (ce i9), .int (cm i9)])) := fun i9 h9 => k435 _ _ (F468 i9 h9) 
    have F470 : ∀ i9 : Nat, i9 < 4 → f1 (ea i9) = some (.inr (1, [.ref (ma i9), .int (nI (sq i9))])) := fun i9 h9 => k4 _ _ (hEa i9 h9) (z_ne (hEa i9 h9) x_fa rfl)
    have F471 : ∀ i9 : Nat, i9 < 4 → f433 (ea i9) = some (.inr (1, [.ref (ma i9), .int (nI (sq i9))])) := fun i9 h9 => k435 _ _ (F470 i9 h9) 
    have F472 : ∀ i9 : Nat, i9 < 4 → f1 (ma i9) = some (.inl (cy 0, 60, .inl (mb i9))) := fun i9 h9 => k4 _ _ (hMa i9 h9) (z_ne (hMa i9 h9) x_fa rfl)
    have F473 : ∀ i9 : Nat, i9 < 4 → f433 (ma i9) = some (.inl (cy 0, 60, .inl (mb i9))) := fun i9 h9 => k435 _ _ (F472 i9 h9) 
    have hq : q_wide nn x y z = ((-3), 0, (-1), 0) := by simp [q_wide, h60, c436]
    exact z_iret C hr rfl hz hS ⟨0, (-1), 0, gv, nl, gu, nn, ga, gr, fg, pt, kd, ln, pp, wg, wd, hs, bf, nf, gf, fq, fk, fz, fc, nc, gc, cn, ce, cm, sq, mb, ks, kk, kv, lk, (by rw [hq]), (by rw [hq]), (by rw [hq]), (by rw [hq]), (by rw [hq]; exact (zEV0 gv).symm), rfl, rfl, (by rw [if_neg (by decide)]), (by rw [if_neg (by decide)]), (by rw [if_neg (by decide)]), (zPP_no (by decide)), (by rw [if_neg (by decide)]), (by rw [if_neg (by decide)]), rfl, rfl, rfl, rfl, rfl, rfl, rfl, rfl, rfl, rfl, rfl, rfl, (by rw [if_neg (by decide)]), ⟨a437, a438, a440, a441, a443, a445, a447, a449, a451, a453, a455, a457, a459, F461, F463, F465, F467, F469, F471, F473, hn60, hl12, hf6, hc60, hs40, hga, hgr, hln, hk5, hk4, hfi, hpi, har, hgf, hfz, hgc, hG, hsq, hei, hmi, kne, hca, hcr, hlk⟩⟩ (Nat.le_of_ble_eq_true rfl) (Nat.le_of_ble_eq_true rfl) dX7_wide_19
abbrev rmX7_share : Room := { frames := 6, cells := 2, slots := 10, locals := 140 }
set_option maxHeartbeats 4000000 in
set_option maxRecDepth 100000 in
theorem k_X7_share (l : Launch) (D : va_G) (cy : Nat → ClassId) (f : zM) (o : Nat) (fa : Nat) (fi : Nat) (nu : Nat) (fm : Nat) (co : Nat) (en : Nat) (ke : Nat) (ev : Nat) (al : Nat) (ra : Nat) (kn : Nat) (vq : Nat) (ge : Nat → Option Nat) (ea : Nat → Nat) (ma : Nat → Nat) (u1 : Int32) (u2 : Int32) (u3 : Int32) (gv : Nat → Int32) (nl : Nat) (gu : Nat → Int32) (nn : Nat) (ga : Nat → Option Nat) (gr : Nat → Option Nat) (fg : Nat → Nat) (pt : Nat → Nat) (kd : Nat → Int32) (ln : Nat → Nat) (pp : Nat → Nat → Int64) (wg : Nat → Int64) (wd : Nat → Int32) (hs : Nat → Int32) (bf : Nat → Int32) (nf : Nat) (gf : Nat → Option Nat) (fq : Nat → Nat) (fk : Nat → Nat) (fz : Nat → Nat) (fc : Nat → Nat → Int32) (nc : Nat) (gc : Nat → Option Nat) (cn : Nat → Nat) (ce : Nat → Int32) (cm : Nat → Int32) (sq : Nat → Nat) (mb : Nat → Nat → Int32) (ks : Nat) (kk : Nat → Int32) (kv : Nat → Int32) (lk : Int64) (x : Int64) (y : Int64)    (hI : zIX cy f o fa fi nu fm co en ke ev al ra kn vq ge ea ma u1 u2 u3 gv nl gu nn ga gr fg pt kd ln pp wg wd hs bf nf gf fq fk fz fc nc gc cn ce cm sq mb ks kk kv lk) : zCi l D cy yX7_share cX7_share 7 (Option.some Jvm.ClassFile.FieldType.int) rmX7_share [.ref o, .long x, .long y] f (fun (r : Int32) (f1 : zM) => ∃ (u11 : Int32) (u21 : Int32) (u31 : Int32) (gv1 : Nat → Int32) (nl1 : Nat) (gu1 : Nat → Int32) (nn1 : Nat) (ga1 : Nat → Option Nat) (gr1 : Nat → Option Nat) (fg1 : Nat → Nat) (pt1 : Nat → Nat) (kd1 : Nat → Int32) (ln1 : Nat → Nat) (pp1 : Nat → Nat → Int64) (wg1 : Nat → Int64) (wd1 : Nat → Int32) (hs1 : Nat → Int32) (bf1 : Nat → Int32) (nf1 : Nat) (gf1 : Nat → Option Nat) (fq1 : Nat → Nat) (fk1 : Nat → Nat) (fz1 : Nat → Nat) (fc1 : Nat → Nat → Int32) (nc1 : Nat) (gc1 : Nat → Option Nat) (cn1 : Nat → Nat) (ce1 : Nat → Int32) (cm1 : Nat → Int32) (sq1 : Nat → Nat) (mb1 : Nat → Nat → Int32) (ks1 : Nat) (kk1 : Nat → Int32) (kv1 : Nat → Int32) (lk1 : Int64), r = ((q_share nn y).1) ∧ (u11 = (q_share nn y).2.1) ∧ (u21 = (q_share nn y).2.2.1) ∧ (u31 = (q_share nn y).2.2.2) ∧ (gv1 = zEV gv (q_share nn y).2.1) ∧ (nl1 = nl) ∧ (gu1 = gu) ∧ (nn1 = if 0 ≤ r then nn + 1 else nn) ∧ (kd1 = if 0 ≤ r then va_up kd nn 3 else kd) ∧ (ln1 = if 0 ≤ r then va_up ln nn (3) else ln) ∧ (zPP nn (0 ≤ r) (3) (q3 x y (x / y)) pp pp1) ∧ (wd1 = if 0 ≤ r then va_up wd nn 0 else wd) ∧ (hs1 = if 0 ≤ r then va_up hs nn (zHash 3 nn (3) (q3 x y (x / y)) hs) else hs) ∧ (nf1 = nf) ∧ (fz1 = fz) ∧ (fc1 = fc) ∧ (nc1 = nc) ∧ (ce1 = ce) ∧ (cm1 = cm) ∧ (sq1 = sq) ∧ (mb1 = mb) ∧ (ks1 = ks) ∧ (kk1 = kk) ∧ (kv1 = kv) ∧ (lk1 = lk) ∧ (wg1 = if 0 ≤ r then va_up wg nn (x / y) else wg) ∧ zIX cy f1 o fa fi nu fm co en ke ev al ra kn vq ge ea ma u11 u21 u31 gv1 nl1 gu1 nn1 ga1 gr1 fg1 pt1 kd1 ln1 pp1 wg1 wd1 hs1 bf1 nf1 gf1 fq1 fk1 fz1 fc1 nc1 gc1 cn1 ce1 cm1 sq1 mb1 ks1 kk1 kv1 lk1) := by
  intro sz
  refine z_body (by decide +kernel) (Nat.le_of_ble_eq_true rfl) ?_
  intro p e s m below meth c ls C hr hin hsz hz hl
  subst hsz
  have hx := C.1
  have hb := C.2.1
  have hA : ∀ q, s.heap.size ≤ q → zA f s.heap.size q := fun q h => Or.inr h
  have hS : va_S (zA f s.heap.size) s.heap s.heap [] := va_S.rf
  have hl : lv_has ls 7 [(0, .ref o), (1, .long x), (3, .long y)] := hl
  obtain ⟨x_o, x_fa, x_ev, x_fi, x_al, x_ra, x_nu, x_fm, x_co, x_en, x_ke, x_kn, x_vq, hF, hP, hFq, hFk, hCn, hEa, hMa, hn60, hl12, hf6, hc60, hs40, hga, hgr, hln, hk5, hk4, hfi, hpi, har, hgf, hfz, hgc, hG, hsq, hei, hmi, kne, hca, hcr, hlk⟩ := id hI
  refine lv_aload_n hx hb dX7_share_0 rfl (lv_at hl 0 rfl) ?_
  refine z_get (v := .ref fa) C hz x_o zl7 mFX7_10 (by decide) rfl dX7_share_1 ?_
  refine z_callVv (As := []) C hz hS hA hl (k_X2_none l D cy f fa u1 u2 u3 ev x_fa ) zyX2_none mMX7_76 x_fa zl2 rfl rfl (Nat.le_of_ble_eq_true rfl) ⟨Nat.le_of_ble_eq_true rfl, Nat.le_of_ble_eq_true rfl⟩ ⟨Nat.le_of_ble_eq_true rfl, Nat.le_of_ble_eq_true rfl⟩ dX7_share_4 (fun  f1 H locs h2 hz hS => ?_)
  obtain ⟨a3, k4⟩ := h2
  refine lv_aload_n hx hb dX7_share_7 rfl (lv_at hl 0 rfl) ?_
  have a5 : f1 o = some (.inr (7, [.ref fa, .ref fi, .ref nu, .int (nI nl), .ref fm, .int (nI nf), .ref co, .int (nI nc), .ref en, .ref ke, .long lk])) := k4 _ _ x_o (z_ne x_o x_fa rfl)
  refine z_get (v := .ref fi) C hz a5 zl7 mFX7_19 (by decide) rfl dX7_share_8 ?_
  by_cases h60 : nn < 60
  · have a6 : f1 fi = some (.inr (5, [.ref al, .ref ra, .int (nI nn)])) := k4 _ _ x_fi (z_ne x_fi x_fa rfl)
    refine z_callVi (As := []) C hz hS hA hl (k_X5_isFull_A l D cy f1 fi al ra nn a6 hn60 h60) zyX5_isFull mMX7_79 a6 zl5 rfl rfl (Nat.le_of_ble_eq_true rfl) ⟨Nat.le_of_ble_eq_true rfl, Nat.le_of_ble_eq_true rfl⟩ ⟨Nat.le_of_ble_eq_true rfl, Nat.le_of_ble_eq_true rfl⟩ dX7_share_11 (fun r f7 H locs h8 hz hS => ?_)
    obtain ⟨rfl, k9⟩ := h8
    refine lv_if_eq (tgt := 20) hx hb dX7_share_14 (by decide) (fun c10 => ?_) (fun c10 => ?_)
    rotate_left
    · exact absurd c10 (by decide)
    refine lv_lload_n hx hb dX7_share_20 rfl (lv_at hl 2 rfl) ?_
    refine lv_lconst (v := 0) hx hb dX7_share_21 (by decide) ?_
    refine W.lcmp hx hb dX7_share_22 ?_
    refine lv_if_ne (tgt := 37) hx hb dX7_share_23 (by decide) (fun c11 => ?_) (fun c11 => ?_)
    · have hy0 : ¬ y = 0 := (fun h9 => c11 ((lg_cmp_eq y 0).mpr h9))
      refine lv_lload_n hx hb dX7_share_37 rfl (lv_at hl 1 rfl) ?_
      refine lv_lload_n hx hb dX7_share_38 rfl (lv_at hl 2 rfl) ?_
      refine lv_ldiv hx hb dX7_share_39 hy0 ?_
      refine lv_lstore (lv' := [(5, .long (x / y)), (0, .ref o), (1, .long x), (3, .long y)]) hx hb dX7_share_40 hl (by decide) rfl (fun ls hl => ?_)
      refine lv_aload_n hx hb dX7_share_42 rfl (lv_at hl 1 rfl) ?_
      have a12 : f7 o = some (.inr (7, [.ref fa, .ref fi, .ref nu, .int (nI nl), .ref fm, .int (nI nf), .ref co, .int (nI nc), .ref en, .ref ke, .long lk])) := k9 _ _ a5 
      refine z_get (v := .ref fi) C hz a12 zl7 mFX7_19 (by decide) rfl dX7_share_43 ?_
      refine z_new (fs := [.int 0, .null, .long 0, .int 0, .int 0, .int 0, .int 0]) C hz hS hA zl4 mLX7_83 mIa_RX4 mIn_RX4 (by decide +kernel) (Nat.le_of_ble_eq_true rfl) (Nat.le_of_ble_eq_true rfl) dX7_share_46 (fun q13 H f15 u14 a16 k17 hz hS => ?_)
      refine lv_dup hx hb dX7_share_49 rfl ?_
      refine lv_iconst (v := 3) hx hb dX7_share_50 (by decide) ?_
      refine lv_iconst (v := 3) hx hb dX7_share_51 (by decide) ?_
      refine z_newa (atype := .long) (t0 := 1) (N' := 3) (x := (.inr (.inl (fun _ => 0)))) C hz hS hA rfl mA_long rfl (fun _ => rfl) (by decide) (Nat.le_of_ble_eq_true rfl) (by decide) (Nat.le_of_ble_eq_true rfl) (Nat.le_of_ble_eq_true rfl) dX7_share_52 (fun q18 H f20 u19 a21 k22 hz hS => ?_)
      refine lv_dup hx hb dX7_share_54 rfl ?_
      refine lv_iconst (v := 0) hx hb dX7_share_55 (by decide) ?_
      refine lv_lload_n hx hb dX7_share_56 rfl (lv_at hl 2 rfl) ?_
      refine z_last 0 C hz hS a21 (by decide) (Nat.le_of_ble_eq_true rfl) (by omega) dX7_share_57 (fun H locs f23 a24 k25 hz hS => ?_)
      refine lv_dup hx hb dX7_share_58 rfl ?_
      refine lv_iconst (v := 1) hx hb dX7_share_59 (by decide) ?_
      refine lv_lload_n hx hb dX7_share_60 rfl (lv_at hl 3 rfl) ?_
      refine z_last 1 C hz hS a24 (by decide) (Nat.le_of_ble_eq_true rfl) (by omega) dX7_share_61 (fun H locs f26 a27 k28 hz hS => ?_)
      refine lv_dup hx hb dX7_share_62 rfl ?_
      refine lv_iconst (v := 2) hx hb dX7_share_63 (by decide) ?_
      refine lv_lload hx hb dX7_share_64 (lv_at hl 0 rfl) ?_
      refine z_last 2 C hz hS a27 (by decide) (Nat.le_of_ble_eq_true rfl) (by omega) dX7_share_66 (fun H locs f29 a30 k31 hz hS => ?_)
      refine lv_lload hx hb dX7_share_67 (lv_at hl 0 rfl) ?_
      have a32 : f20 q13 = some (.inr (4, [.int 0, .null, .long 0, .int 0, .int 0, .int 0, .int 0])) := (k22 _ (z_nn u19 a16)).trans a16
      have a33 : f23 q13 = some (.inr (4, [.int 0, .null, .long 0, .int 0, .int 0, .int 0, .int 0])) := (k25 _ (z_nn u19 a16)).trans a32
      have a34 : f26 q13 = some (.inr (4, [.int 0, .null, .long 0, .int 0, .int 0, .int 0, .int 0])) := (k28 _ (z_nn u19 a16)).trans a33
      have a35 : f29 q13 = some (.inr (4, [.int 0, .null, .long 0, .int 0, .int 0, .int 0, .int 0])) := (k31 _ (z_nn u19 a16)).trans a34
      refine z_callIv (ret := none) (As := [.int 3, .ref q18, .long (x / y)]) C hz hS hA hl (k_X4_init l D cy f29 q13 3 q18 (x / y) a35 ) zyX4_init mMX7_89 rfl rfl (Nat.le_of_ble_eq_true rfl) ⟨Nat.le_of_ble_eq_true rfl, Nat.le_of_ble_eq_true rfl⟩ ⟨Nat.le_of_ble_eq_true rfl, Nat.le_of_ble_eq_true rfl⟩ dX7_share_69 (fun  f36 H locs h37 hz hS => ?_)
      obtain ⟨a38, k39⟩ := h37
      have a40 : f7 fi = some (.inr (5, [.ref al, .ref ra, .int (nI nn)])) := k9 _ _ a6 
      have a41 : f15 fi = some (.inr (5, [.ref al, .ref ra, .int (nI nn)])) := (k17 _ (z_nn u14 a40)).trans a40
      have a42 : f20 fi = some (.inr (5, [.ref al, .ref ra, .int (nI nn)])) := (k22 _ (z_nn u19 a41)).trans a41
      have a43 : f23 fi = some (.inr (5, [.ref al, .ref ra, .int (nI nn)])) := (k25 _ (z_nn u19 a41)).trans a42
      have a44 : f26 fi = some (.inr (5, [.ref al, .ref ra, .int (nI nn)])) := (k28 _ (z_nn u19 a41)).trans a43
      have a45 : f29 fi = some (.inr (5, [.ref al, .ref ra, .int (nI nn)])) := (k31 _ (z_nn u19 a41)).trans a44
      have a46 : f36 fi = some (.inr (5, [.ref al, .ref ra, .int (nI nn)])) := k39 _ _ a45 (z_nn u14 a40)
      have a47 : f1 al = some (.inl (cy 3, 60, .inr (.inr (.inr (.inr ga))))) := k4 _ _ x_al (z_ne x_al x_fa rfl)
      have a48 : f7 al = some (.inl (cy 3, 60, .inr (.inr (.inr (.inr ga))))) := k9 _ _ a47 
      have a49 : f15 al = some (.inl (cy 3, 60, .inr (.inr (.inr (.inr ga))))) := (k17 _ (z_nn u14 a48)).trans a48
      have a50 : f20 al = some (.inl (cy 3, 60, .inr (.inr (.inr (.inr ga))))) := (k22 _ (z_nn u19 a49)).trans a49
      have a51 : f23 al = some (.inl (cy 3, 60, .inr (.inr (.inr (.inr ga))))) := (k25 _ (z_nn u19 a49)).trans a50
      have a52 : f26 al = some (.inl (cy 3, 60, .inr (.inr (.inr (.inr ga))))) := (k28 _ (z_nn u19 a49)).trans a51
      have a53 : f29 al = some (.inl (cy 3, 60, .inr (.inr (.inr (.inr ga))))) := (k31 _ (z_nn u19 a49)).trans a52
      have a54 : f36 al = some (.inl (cy 3, 60, .inr (.inr (.inr (.inr ga))))) := k39 _ _ a53 (z_nn u14 a48)
      have a55 : f1 ra = some (.inl (cy 3, 60, .inr (.inr (.inr (.inr gr))))) := k4 _ _ x_ra (z_ne x_ra x_fa rfl)
      have a56 : f7 ra = some (.inl (cy 3, 60, .inr (.inr (.inr (.inr gr))))) := k9 _ _ a55 
      have a57 : f15 ra = some (.inl (cy 3, 60, .inr (.inr (.inr (.inr gr))))) := (k17 _ (z_nn u14 a56)).trans a56
      have a58 : f20 ra = some (.inl (cy 3, 60, .inr (.inr (.inr (.inr gr))))) := (k22 _ (z_nn u19 a57)).trans a57
      have a59 : f23 ra = some (.inl (cy 3, 60, .inr (.inr (.inr (.inr gr))))) := (k25 _ (z_nn u19 a57)).trans a58
      have a60 : f26 ra = some (.inl (cy 3, 60, .inr (.inr (.inr (.inr gr))))) := (k28 _ (z_nn u19 a57)).trans a59
      have a61 : f29 ra = some (.inl (cy 3, 60, .inr (.inr (.inr (.inr gr))))) := (k31 _ (z_nn u19 a57)).trans a60
      have a62 : f36 ra = some (.inl (cy 3, 60, .inr (.inr (.inr (.inr gr))))) := k39 _ _ a61 (z_nn u14 a56)
      have a63 : f36 q18 = some (.inl (cy 1, 3, .inr (.inl (vp_updL (vp_updL (vp_updL (fun _ => 0) 0 x) 1 y) 2 (x / y))))) := k39 _ _ a30 (Ne.symm (z_nn u19 a16))
      have F64 : ∀ i9 : Nat, i9 < nn → f1 (fg i9) = some (.inr (4, [.int (kd i9), .ref (pt i9), .long (wg i9), .int (wd i9), .int (nI i9), .int (hs i9), .int (bf i9)])) := fun i9 h9 => k4 _ _ (hF i9 h9) (z_ne (hF i9 h9) x_fa rfl)
      have F65 : ∀ i9 : Nat, i9 < nn → f7 (fg i9) = some (.inr (4, [.int (kd i9), .ref (pt i9), .long (wg i9), .int (wd i9), .int (nI i9), .int (hs i9), .int (bf i9)])) := fun i9 h9 => k9 _ _ (F64 i9 h9) 
      have F66 : ∀ i9 : Nat, i9 < nn → f15 (fg i9) = some (.inr (4, [.int (kd i9), .ref (pt i9), .long (wg i9), .int (wd i9), .int (nI i9), .int (hs i9), .int (bf i9)])) := fun i9 h9 => (k17 _ (z_nn u14 (F65 i9 h9))).trans (F65 i9 h9)
      have F67 : ∀ i9 : Nat, i9 < nn → f20 (fg i9) = some (.inr (4, [.int (kd i9), .ref (pt i9), .long (wg i9), .int (wd i9), .int (nI i9), .int (hs i9), .int (bf i9)])) := fun i9 h9 => (k22 _ (z_nn u19 (F66 i9 h9))).trans (F66 i9 h9)
      have F68 : ∀ i9 : Nat, i9 < nn → f23 (fg i9) = some (.inr (4, [.int (kd i9), .ref (pt i9), .long (wg i9), .int (wd i9), .int (nI i9), .int (hs i9), .int (bf i9)])) := fun i9 h9 => (k25 _ (z_nn u19 (F66 i9 h9))).trans (F67 i9 h9)
      have F69 : ∀ i9 : Nat, i9 < nn → f26 (fg i9) = some (.inr (4, [.int (kd i9), .ref (pt i9), .long (wg i9), .int (wd i9), .int (nI i9), .int (hs i9), .int (bf i9)])) := fun i9 h9 => (k28 _ (z_nn u19 (F66 i9 h9))).trans (F68 i9 h9)
      have F70 : ∀ i9 : Nat, i9 < nn → f29 (fg i9) = some (.inr (4, [.int (kd i9), .ref (pt i9), .long (wg i9), .int (wd i9), .int (nI i9), .int (hs i9), .int (bf i9)])) := fun i9 h9 => (k31 _ (z_nn u19 (F66 i9 h9))).trans (F69 i9 h9)
      have F71 : ∀ i9 : Nat, i9 < nn → f36 (fg i9) = some (.inr (4, [.int (kd i9), .ref (pt i9), .long (wg i9), .int (wd i9), .int (nI i9), .int (hs i9), .int (bf i9)])) := fun i9 h9 => k39 _ _ (F70 i9 h9) (z_nn u14 (F65 i9 h9))
      have F72 : ∀ i9 : Nat, i9 < nn → f1 (pt i9) = some (.inl (cy 1, (ln i9), .inr (.inl (pp i9)))) := fun i9 h9 => k4 _ _ (hP i9 h9) (z_neO (hP i9 h9) x_fa rfl)
      have F73 : ∀ i9 : Nat, i9 < nn → f7 (pt i9) = some (.inl (cy 1, (ln i9), .inr (.inl (pp i9)))) := fun i9 h9 => k9 _ _ (F72 i9 h9) 
      have F74 : ∀ i9 : Nat, i9 < nn → f15 (pt i9) = some (.inl (cy 1, (ln i9), .inr (.inl (pp i9)))) := fun i9 h9 => (k17 _ (z_nn u14 (F73 i9 h9))).trans (F73 i9 h9)
      have F75 : ∀ i9 : Nat, i9 < nn → f20 (pt i9) = some (.inl (cy 1, (ln i9), .inr (.inl (pp i9)))) := fun i9 h9 => (k22 _ (z_nn u19 (F74 i9 h9))).trans (F74 i9 h9)
      have F76 : ∀ i9 : Nat, i9 < nn → f23 (pt i9) = some (.inl (cy 1, (ln i9), .inr (.inl (pp i9)))) := fun i9 h9 => (k25 _ (z_nn u19 (F74 i9 h9))).trans (F75 i9 h9)
      have F77 : ∀ i9 : Nat, i9 < nn → f26 (pt i9) = some (.inl (cy 1, (ln i9), .inr (.inl (pp i9)))) := fun i9 h9 => (k28 _ (z_nn u19 (F74 i9 h9))).trans (F76 i9 h9)
      have F78 : ∀ i9 : Nat, i9 < nn → f29 (pt i9) = some (.inl (cy 1, (ln i9), .inr (.inl (pp i9)))) := fun i9 h9 => (k31 _ (z_nn u19 (F74 i9 h9))).trans (F77 i9 h9)
      have F79 : ∀ i9 : Nat, i9 < nn → f36 (pt i9) = some (.inl (cy 1, (ln i9), .inr (.inl (pp i9)))) := fun i9 h9 => k39 _ _ (F78 i9 h9) (z_nn u14 (F73 i9 h9))
      refine z_callVi (As := [.ref q13]) C hz hS hA hl (k_X5_add l D cy f36 fi al ra ga gr nn fg pt kd ln pp wg wd hs bf q13 3 q18 (x / y) 0 (-1) 0 0 3 (vp_updL (vp_updL (vp_updL (fun _ => 0) 0 x) 1 y) 2 (x / y)) a46 a54 a62 a38 a63 F71 F79 h60 hga hgr hln hk5 hfi (fun j9 h9 => z_nn u14 (F65 j9 h9)) (by omega) (fun h9 => absurd h9 (by decide)) har (fun h9 => absurd h9 (by decide))) zyX5_add mMX7_92 a46 zl5 rfl rfl (Nat.le_of_ble_eq_true rfl) ⟨Nat.le_of_ble_eq_true rfl, Nat.le_of_ble_eq_true rfl⟩ ⟨Nat.le_of_ble_eq_true rfl, Nat.le_of_ble_eq_true rfl⟩ dX7_share_72 (fun r f80 H locs h81 hz hS => ?_)
      obtain ⟨hq_82, bq_83, gr_84, bf_85, rfl, p86, p87, a88, a89, a90, F91, F92, k93⟩ := h81
      have a94 : f15 o = some (.inr (7, [.ref fa, .ref fi, .ref nu, .int (nI nl), .ref fm, .int (nI nf), .ref co, .int (nI nc), .ref en, .ref ke, .long lk])) := (k17 _ (z_nn u14 a12)).trans a12
      have a95 : f20 o = some (.inr (7, [.ref fa, .ref fi, .ref nu, .int (nI nl), .ref fm, .int (nI nf), .ref co, .int (nI nc), .ref en, .ref ke, .long lk])) := (k22 _ (z_nn u19 a94)).trans a94
      have a96 : f23 o = some (.inr (7, [.ref fa, .ref fi, .ref nu, .int (nI nl), .ref fm, .int (nI nf), .ref co, .int (nI nc), .ref en, .ref ke, .long lk])) := (k25 _ (z_nn u19 a94)).trans a95
      have a97 : f26 o = some (.inr (7, [.ref fa, .ref fi, .ref nu, .int (nI nl), .ref fm, .int (nI nf), .ref co, .int (nI nc), .ref en, .ref ke, .long lk])) := (k28 _ (z_nn u19 a94)).trans a96
      have a98 : f29 o = some (.inr (7, [.ref fa, .ref fi, .ref nu, .int (nI nl), .ref fm, .int (nI nf), .ref co, .int (nI nc), .ref en, .ref ke, .long lk])) := (k31 _ (z_nn u19 a94)).trans a97
      have a99 : f36 o = some (.inr (7, [.ref fa, .ref fi, .ref nu, .int (nI nl), .ref fm, .int (nI nf), .ref co, .int (nI nc), .ref en, .ref ke, .long lk])) := k39 _ _ a98 (z_nn u14 a12)
      have a100 : f80 o = some (.inr (7, [.ref fa, .ref fi, .ref nu, .int (nI nl), .ref fm, .int (nI nf), .ref co, .int (nI nc), .ref en, .ref ke, .long lk])) := k93 _ _ a99 (z_ne a99 a46 rfl) (z_ne a99 a54 rfl) (z_ne a99 a62 rfl) (z_nn u14 a12) (fun j9 h8 => (z_ne a99 (F71 j9 h8) rfl))
      have a101 : f7 fa = some (.inr (2, [.int 0, .int (-1), .int 0, .ref ev])) := k9 _ _ a3 
      have a102 : f15 fa = some (.inr (2, [.int 0, .int (-1), .int 0, .ref ev])) := (k17 _ (z_nn u14 a101)).trans a101
      have a103 : f20 fa = some (.inr (2, [.int 0, .int (-1), .int 0, .ref ev])) := (k22 _ (z_nn u19 a102)).trans a102
      have a104 : f23 fa = some (.inr (2, [.int 0, .int (-1), .int 0, .ref ev])) := (k25 _ (z_nn u19 a102)).trans a103
      have a105 : f26 fa = some (.inr (2, [.int 0, .int (-1), .int 0, .ref ev])) := (k28 _ (z_nn u19 a102)).trans a104
      have a106 : f29 fa = some (.inr (2, [.int 0, .int (-1), .int 0, .ref ev])) := (k31 _ (z_nn u19 a102)).trans a105
      have a107 : f36 fa = some (.inr (2, [.int 0, .int (-1), .int 0, .ref ev])) := k39 _ _ a106 (z_nn u14 a101)
      have a108 : f80 fa = some (.inr (2, [.int 0, .int (-1), .int 0, .ref ev])) := k93 _ _ a107 (z_ne a107 a46 rfl) (z_ne a107 a54 rfl) (z_ne a107 a62 rfl) (z_nn u14 a101) (fun j9 h8 => (z_ne a107 (F71 j9 h8) rfl))
      have a109 : f1 ev = some (.inl (cy 0, 8, .inl gv)) := k4 _ _ x_ev (z_ne x_ev x_fa rfl)
      have a110 : f7 ev = some (.inl (cy 0, 8, .inl gv)) := k9 _ _ a109 
      have a111 : f15 ev = some (.inl (cy 0, 8, .inl gv)) := (k17 _ (z_nn u14 a110)).trans a110
      have a112 : f20 ev = some (.inl (cy 0, 8, .inl gv)) := (k22 _ (z_nn u19 a111)).trans a111
      have a113 : f23 ev = some (.inl (cy 0, 8, .inl gv)) := (k25 _ (z_nn u19 a111)).trans a112
      have a114 : f26 ev = some (.inl (cy 0, 8, .inl gv)) := (k28 _ (z_nn u19 a111)).trans a113
      have a115 : f29 ev = some (.inl (cy 0, 8, .inl gv)) := (k31 _ (z_nn u19 a111)).trans a114
      have a116 : f36 ev = some (.inl (cy 0, 8, .inl gv)) := k39 _ _ a115 (z_nn u14 a110)
      have a117 : f80 ev = some (.inl (cy 0, 8, .inl gv)) := k93 _ _ a116 (z_ne a116 a46 rfl) (z_ne a116 a54 rfl) (z_ne a116 a62 rfl) (z_nn u14 a110) (fun j9 h8 => (z_ne a116 (F71 j9 h8) rfl))
      have a118 : f1 nu = some (.inl (cy 0, 12, .inl gu)) := k4 _ _ x_nu (z_ne x_nu x_fa rfl)
      have a119 : f7 nu = some (.inl (cy 0, 12, .inl gu)) := k9 _ _ a118 
      have a120 : f15 nu = some (.inl (cy 0, 12, .inl gu)) := (k17 _ (z_nn u14 a119)).trans a119
      have a121 : f20 nu = some (.inl (cy 0, 12, .inl gu)) := (k22 _ (z_nn u19 a120)).trans a120
      have a122 : f23 nu = some (.inl (cy 0, 12, .inl gu)) := (k25 _ (z_nn u19 a120)).trans a121
      have a123 : f26 nu = some (.inl (cy 0, 12, .inl gu)) := (k28 _ (z_nn u19 a120)).trans a122
      have a124 : f29 nu = some (.inl (cy 0, 12, .inl gu)) := (k31 _ (z_nn u19 a120)).trans a123
      have a125 : f36 nu = some (.inl (cy 0, 12, .inl gu)) := k39 _ _ a124 (z_nn u14 a119)
      have a126 : f80 nu = some (.inl (cy 0, 12, .inl gu)) := k93 _ _ a125 (z_ne a125 a46 rfl) (z_ne a125 a54 rfl) (z_ne a125 a62 rfl) (z_nn u14 a119) (fun j9 h8 => (z_ne a125 (F71 j9 h8) rfl))
      have a127 : f1 fm = some (.inl (cy 4, 6, .inr (.inr (.inr (.inr gf))))) := k4 _ _ x_fm (z_ne x_fm x_fa rfl)
      have a128 : f7 fm = some (.inl (cy 4, 6, .inr (.inr (.inr (.inr gf))))) := k9 _ _ a127 
      have a129 : f15 fm = some (.inl (cy 4, 6, .inr (.inr (.inr (.inr gf))))) := (k17 _ (z_nn u14 a128)).trans a128
      have a130 : f20 fm = some (.inl (cy 4, 6, .inr (.inr (.inr (.inr gf))))) := (k22 _ (z_nn u19 a129)).trans a129
      have a131 : f23 fm = some (.inl (cy 4, 6, .inr (.inr (.inr (.inr gf))))) := (k25 _ (z_nn u19 a129)).trans a130
      have a132 : f26 fm = some (.inl (cy 4, 6, .inr (.inr (.inr (.inr gf))))) := (k28 _ (z_nn u19 a129)).trans a131
      have a133 : f29 fm = some (.inl (cy 4, 6, .inr (.inr (.inr (.inr gf))))) := (k31 _ (z_nn u19 a129)).trans a132
      have a134 : f36 fm = some (.inl (cy 4, 6, .inr (.inr (.inr (.inr gf))))) := k39 _ _ a133 (z_nn u14 a128)
      have a135 : f80 fm = some (.inl (cy 4, 6, .inr (.inr (.inr (.inr gf))))) := k93 _ _ a134 (z_ne a134 a46 rfl) (z_ne a134 a54 rfl) (z_ne a134 a62 rfl) (z_nn u14 a128) (fun j9 h8 => (z_ne a134 (F71 j9 h8) rfl))
      have a136 : f1 co = some (.inl (cy 5, 60, .inr (.inr (.inr (.inr gc))))) := k4 _ _ x_co (z_ne x_co x_fa rfl)
      have a137 : f7 co = some (.inl (cy 5, 60, .inr (.inr (.inr (.inr gc))))) := k9 _ _ a136 
      have a138 : f15 co = some (.inl (cy 5, 60, .inr (.inr (.inr (.inr gc))))) := (k17 _ (z_nn u14 a137)).trans a137
      have a139 : f20 co = some (.inl (cy 5, 60, .inr (.inr (.inr (.inr gc))))) := (k22 _ (z_nn u19 a138)).trans a138
      have a140 : f23 co = some (.inl (cy 5, 60, .inr (.inr (.inr (.inr gc))))) := (k25 _ (z_nn u19 a138)).trans a139
      have a141 : f26 co = some (.inl (cy 5, 60, .inr (.inr (.inr (.inr gc))))) := (k28 _ (z_nn u19 a138)).trans a140
      have a142 : f29 co = some (.inl (cy 5, 60, .inr (.inr (.inr (.inr gc))))) := (k31 _ (z_nn u19 a138)).trans a141
      have a143 : f36 co = some (.inl (cy 5, 60, .inr (.inr (.inr (.inr gc))))) := k39 _ _ a142 (z_nn u14 a137)
      have a144 : f80 co = some (.inl (cy 5, 60, .inr (.inr (.inr (.inr gc))))) := k93 _ _ a143 (z_ne a143 a46 rfl) hca hcr (z_nn u14 a137) (fun j9 h8 => (z_ne a143 (F71 j9 h8) rfl))
      have a145 : f1 en = some (.inl (cy 6, 4, .inr (.inr (.inr (.inr ge))))) := k4 _ _ x_en (z_ne x_en x_fa rfl)
      have a146 : f7 en = some (.inl (cy 6, 4, .inr (.inr (.inr (.inr ge))))) := k9 _ _ a145 
      have a147 : f15 en = some (.inl (cy 6, 4, .inr (.inr (.inr (.inr ge))))) := (k17 _ (z_nn u14 a146)).trans a146
      have a148 : f20 en = some (.inl (cy 6, 4, .inr (.inr (.inr (.inr ge))))) := (k22 _ (z_nn u19 a147)).trans a147
      have a149 : f23 en = some (.inl (cy 6, 4, .inr (.inr (.inr (.inr ge))))) := (k25 _ (z_nn u19 a147)).trans a148
      have a150 : f26 en = some (.inl (cy 6, 4, .inr (.inr (.inr (.inr ge))))) := (k28 _ (z_nn u19 a147)).trans a149
      have a151 : f29 en = some (.inl (cy 6, 4, .inr (.inr (.inr (.inr ge))))) := (k31 _ (z_nn u19 a147)).trans a150
      have a152 : f36 en = some (.inl (cy 6, 4, .inr (.inr (.inr (.inr ge))))) := k39 _ _ a151 (z_nn u14 a146)
      have a153 : f80 en = some (.inl (cy 6, 4, .inr (.inr (.inr (.inr ge))))) := k93 _ _ a152 (z_ne a152 a46 rfl) (z_ne a152 a54 rfl) (z_ne a152 a62 rfl) (z_nn u14 a146) (fun j9 h8 => (z_ne a152 (F71 j9 h8) rfl))
      have a154 : f1 ke = some (.inr (6, [.ref kn, .ref vq, .int (nI ks)])) := k4 _ _ x_ke (z_ne x_ke x_fa rfl)
      have a155 : f7 ke = some (.inr (6, [.ref kn, .ref vq, .int (nI ks)])) := k9 _ _ a154 
      have a156 : f15 ke = some (.inr (6, [.ref kn, .ref vq, .int (nI ks)])) := (k17 _ (z_nn u14 a155)).trans a155
      have a157 : f20 ke = some (.inr (6, [.ref kn, .ref vq, .int (nI ks)])) := (k22 _ (z_nn u19 a156)).trans a156
      have a158 : f23 ke = some (.inr (6, [.ref kn, .ref vq, .int (nI ks)])) := (k25 _ (z_nn u19 a156)).trans a157
      have a159 : f26 ke = some (.inr (6, [.ref kn, .ref vq, .int (nI ks)])) := (k28 _ (z_nn u19 a156)).trans a158
      have a160 : f29 ke = some (.inr (6, [.ref kn, .ref vq, .int (nI ks)])) := (k31 _ (z_nn u19 a156)).trans a159
      have a161 : f36 ke = some (.inr (6, [.ref kn, .ref vq, .int (nI ks)])) := k39 _ _ a160 (z_nn u14 a155)
      have a162 : f80 ke = some (.inr (6, [.ref kn, .ref vq, .int (nI ks)])) := k93 _ _ a161 (z_ne a161 a46 rfl) (z_ne a161 a54 rfl) (z_ne a161 a62 rfl) (z_nn u14 a155) (fun j9 h8 => (z_ne a161 (F71 j9 h8) rfl))
      have a163 : f1 kn = some (.inl (cy 0, 40, .inl kk)) := k4 _ _ x_kn (z_ne x_kn x_fa rfl)
      have a164 : f7 kn = some (.inl (cy 0, 40, .inl kk)) := k9 _ _ a163 
      have a165 : f15 kn = some (.inl (cy 0, 40, .inl kk)) := (k17 _ (z_nn u14 a164)).trans a164
      have a166 : f20 kn = some (.inl (cy 0, 40, .inl kk)) := (k22 _ (z_nn u19 a165)).trans a165
      have a167 : f23 kn = some (.inl (cy 0, 40, .inl kk)) := (k25 _ (z_nn u19 a165)).trans a166
      have a168 : f26 kn = some (.inl (cy 0, 40, .inl kk)) := (k28 _ (z_nn u19 a165)).trans a167
      have a169 : f29 kn = some (.inl (cy 0, 40, .inl kk)) := (k31 _ (z_nn u19 a165)).trans a168
      have a170 : f36 kn = some (.inl (cy 0, 40, .inl kk)) := k39 _ _ a169 (z_nn u14 a164)
      have a171 : f80 kn = some (.inl (cy 0, 40, .inl kk)) := k93 _ _ a170 (z_ne a170 a46 rfl) (z_ne a170 a54 rfl) (z_ne a170 a62 rfl) (z_nn u14 a164) (fun j9 h8 => (z_ne a170 (F71 j9 h8) rfl))
      have a172 : f1 vq = some (.inl (cy 0, 40, .inl kv)) := k4 _ _ x_vq (z_ne x_vq x_fa rfl)
      have a173 : f7 vq = some (.inl (cy 0, 40, .inl kv)) := k9 _ _ a172 
      have a174 : f15 vq = some (.inl (cy 0, 40, .inl kv)) := (k17 _ (z_nn u14 a173)).trans a173
      have a175 : f20 vq = some (.inl (cy 0, 40, .inl kv)) := (k22 _ (z_nn u19 a174)).trans a174
      have a176 : f23 vq = some (.inl (cy 0, 40, .inl kv)) := (k25 _ (z_nn u19 a174)).trans a175
      have a177 : f26 vq = some (.inl (cy 0, 40, .inl kv)) := (k28 _ (z_nn u19 a174)).trans a176
      have a178 : f29 vq = some (.inl (cy 0, 40, .inl kv)) := (k31 _ (z_nn u19 a174)).trans a177
      have a179 : f36 vq = some (.inl (cy 0, 40, .inl kv)) := k39 _ _ a178 (z_nn u14 a173)
      have a180 : f80 vq = some (.inl (cy 0, 40, .inl kv)) := k93 _ _ a179 (z_ne a179 a46 rfl) (z_ne a179 a54 rfl) (z_ne a179 a62 rfl) (z_nn u14 a173) (fun j9 h8 => (z_ne a179 (F71 j9 h8) rfl))
      have F181 : ∀ i9 : Nat, i9 < nf → f1 (fq i9) = some (.inr (3, [.ref (fk i9), .int (nI (fz i9))])) := fun i9 h9 => k4 _ _ (hFq i9 h9) (z_ne (hFq i9 h9) x_fa rfl)
      have F182 : ∀ i9 : Nat, i9 < nf → f7 (fq i9) = some (.inr (3, [.ref (fk i9), .int (nI (fz i9))])) := fun i9 h9 => k9 _ _ (F181 i9 h9) 
      have F183 : ∀ i9 : Nat, i9 < nf → f15 (fq i9) = some (.inr (3, [.ref (fk i9), .int (nI (fz i9))])) := fun i9 h9 => (k17 _ (z_nn u14 (F182 i9 h9))).trans (F182 i9 h9)
      have F184 : ∀ i9 : Nat, i9 < nf → f20 (fq i9) = some (.inr (3, [.ref (fk i9), .int (nI (fz i9))])) := fun i9 h9 => (k22 _ (z_nn u19 (F183 i9 h9))).trans (F183 i9 h9)
      have F185 : ∀ i9 : Nat, i9 < nf → f23 (fq i9) = some (.inr (3, [.ref (fk i9), .int (nI (fz i9))])) := fun i9 h9 => (k25 _ (z_nn u19 (F183 i9 h9))).trans (F184 i9 h9)
      have F186 : ∀ i9 : Nat, i9 < nf → f26 (fq i9) = some (.inr (3, [.ref (fk i9), .int (nI (fz i9))])) := fun i9 h9 => (k28 _ (z_nn u19 (F183 i9 h9))).trans (F185 i9 h9)
      have F187 : ∀ i9 : Nat, i9 < nf → f29 (fq i9) = some (.inr (3, [.ref (fk i9), .int (nI (fz i9))])) := fun i9 h9 => (k31 _ (z_nn u19 (F183 i9 h9))).trans (F186 i9 h9)
      have F188 : ∀ i9 : Nat, i9 < nf → f36 (fq i9) = some (.inr (3, [.ref (fk i9), .int (nI (fz i9))])) := fun i9 h9 => k39 _ _ (F187 i9 h9) (z_nn u14 (F182 i9 h9))
      have F189 : ∀ i9 : Nat, i9 < nf → f80 (fq i9) = some (.inr (3, [.ref (fk i9), .int (nI (fz i9))])) := fun i9 h9 => k93 _ _ (F188 i9 h9) (z_ne (F188 i9 h9) a46 rfl) (z_ne (F188 i9 h9) a54 rfl) (z_ne (F188 i9 h9) a62 rfl) (z_nn u14 (F182 i9 h9)) (fun j9 h8 => (z_ne (F188 i9 h9) (F71 j9 h8) rfl))
      have F190 : ∀ i9 : Nat, i9 < nf → f1 (fk i9) = some (.inl (cy 0, 4, .inl (fc i9))) := fun i9 h9 => k4 _ _ (hFk i9 h9) (z_ne (hFk i9 h9) x_fa rfl)
      have F191 : ∀ i9 : Nat, i9 < nf → f7 (fk i9) = some (.inl (cy 0, 4, .inl (fc i9))) := fun i9 h9 => k9 _ _ (F190 i9 h9) 
      have F192 : ∀ i9 : Nat, i9 < nf → f15 (fk i9) = some (.inl (cy 0, 4, .inl (fc i9))) := fun i9 h9 => (k17 _ (z_nn u14 (F191 i9 h9))).trans (F191 i9 h9)
      have F193 : ∀ i9 : Nat, i9 < nf → f20 (fk i9) = some (.inl (cy 0, 4, .inl (fc i9))) := fun i9 h9 => (k22 _ (z_nn u19 (F192 i9 h9))).trans (F192 i9 h9)
      have F194 : ∀ i9 : Nat, i9 < nf → f23 (fk i9) = some (.inl (cy 0, 4, .inl (fc i9))) := fun i9 h9 => (k25 _ (z_nn u19 (F192 i9 h9))).trans (F193 i9 h9)
      have F195 : ∀ i9 : Nat, i9 < nf → f26 (fk i9) = some (.inl (cy 0, 4, .inl (fc i9))) := fun i9 h9 => (k28 _ (z_nn u19 (F192 i9 h9))).trans (F194 i9 h9)
      have F196 : ∀ i9 : Nat, i9 < nf → f29 (fk i9) = some (.inl (cy 0, 4, .inl (fc i9))) := fun i9 h9 => (k31 _ (z_nn u19 (F192 i9 h9))).trans (F195 i9 h9)
      have F197 : ∀ i9 : Nat, i9 < nf → f36 (fk i9) = some (.inl (cy 0, 4, .inl (fc i9))) := fun i9 h9 => k39 _ _ (F196 i9 h9) (z_nn u14 (F191 i9 h9))
      have F198 : ∀ i9 : Nat, i9 < nf → f80 (fk i9) = some (.inl (cy 0, 4, .inl (fc i9))) := fun i9 h9 => k93 _ _ (F197 i9 h9) (z_ne (F197 i9 h9) a46 rfl) (z_ne (F197 i9 h9) a54 rfl) (z_ne (F197 i9 h9) a62 rfl) (z_nn u14 (F191 i9 h9)) (fun j9 h8 => (z_ne (F197 i9 h9) (F71 j9 h8) rfl))
      have F199 : ∀ i9 : Nat, i9 < nc → f1 (cn i9) = some (.inr (0, [.int (ce i9), .int (cm i9)])) := fun i9 h9 => k4 _ _ (hCn i9 h9) (z_ne (hCn i9 h9) x_fa rfl)
      have F200 : ∀ i9 : Nat, i9 < nc → f7 (cn i9) = some (.inr (0, [.int (ce i9), .int (cm i9)])) := fun i9 h9 => k9 _ _ (F199 i9 h9) 
      have F201 : ∀ i9 : Nat, i9 < nc → f15 (cn i9) = some (.inr (0, [.int (ce i9), .int (cm i9)])) := fun i9 h9 => (k17 _ (z_nn u14 (F200 i9 h9))).trans (F200 i9 h9)
      have F202 : ∀ i9 : Nat, i9 < nc → f20 (cn i9) = some (.inr (0, [.int (ce i9), .int (cm i9)])) := fun i9 h9 => (k22 _ (z_nn u19 (F201 i9 h9))).trans (F201 i9 h9)
      have F203 : ∀ i9 : Nat, i9 < nc → f23 (cn i9) = some (.inr (0, [.int (ce i9), .int (cm i9)])) := fun i9 h9 => (k25 _ (z_nn u19 (F201 i9 h9))).trans (F202 i9 h9)
      have F204 : ∀ i9 : Nat, i9 < nc → f26 (cn i9) = some (.inr (0, [.int (ce i9), .int (cm i9)])) := fun i9 h9 => (k28 _ (z_nn u19 (F201 i9 h9))).trans (F203 i9 h9)
      have F205 : ∀ i9 : Nat, i9 < nc → f29 (cn i9) = some (.inr (0, [.int (ce i9), .int (cm i9)])) := fun i9 h9 => (k31 _ (z_nn u19 (F201 i9 h9))).trans (F204 i9 h9)
      have F206 : ∀ i9 : Nat, i9 < nc → f36 (cn i9) = some (.inr (0, [.int (ce i9), .int (cm i9)])) := fun i9 h9 => k39 _ _ (F205 i9 h9) (z_nn u14 (F200 i9 h9))
      have F207 : ∀ i9 : Nat, i9 < nc → f80 (cn i9) = some (.inr (0, [.int (ce i9), .int (cm i9)])) := fun i9 h9 => k93 _ _ (F206 i9 h9) (z_ne (F206 i9 h9) a46 rfl) (z_ne (F206 i9 h9) a54 rfl) (z_ne (F206 i9 h9) a62 rfl) (z_nn u14 (F200 i9 h9)) (fun j9 h8 => (z_ne (F206 i9 h9) (F71 j9 h8) rfl))
      have F208 : ∀ i9 : Nat, i9 < 4 → f1 (ea i9) = some (.inr (1, [.ref (ma i9), .int (nI (sq i9))])) := fun i9 h9 => k4 _ _ (hEa i9 h9) (z_ne (hEa i9 h9) x_fa rfl)
      have F209 : ∀ i9 : Nat, i9 < 4 → f7 (ea i9) = some (.inr (1, [.ref (ma i9), .int (nI (sq i9))])) := fun i9 h9 => k9 _ _ (F208 i9 h9) 
      have F210 : ∀ i9 : Nat, i9 < 4 → f15 (ea i9) = some (.inr (1, [.ref (ma i9), .int (nI (sq i9))])) := fun i9 h9 => (k17 _ (z_nn u14 (F209 i9 h9))).trans (F209 i9 h9)
      have F211 : ∀ i9 : Nat, i9 < 4 → f20 (ea i9) = some (.inr (1, [.ref (ma i9), .int (nI (sq i9))])) := fun i9 h9 => (k22 _ (z_nn u19 (F210 i9 h9))).trans (F210 i9 h9)
      have F212 : ∀ i9 : Nat, i9 < 4 → f23 (ea i9) = some (.inr (1, [.ref (ma i9), .int (nI (sq i9))])) := fun i9 h9 => (k25 _ (z_nn u19 (F210 i9 h9))).trans (F211 i9 h9)
      have F213 : ∀ i9 : Nat, i9 < 4 → f26 (ea i9) = some (.inr (1, [.ref (ma i9), .int (nI (sq i9))])) := fun i9 h9 => (k28 _ (z_nn u19 (F210 i9 h9))).trans (F212 i9 h9)
      have F214 : ∀ i9 : Nat, i9 < 4 → f29 (ea i9) = some (.inr (1, [.ref (ma i9), .int (nI (sq i9))])) := fun i9 h9 => (k31 _ (z_nn u19 (F210 i9 h9))).trans (F213 i9 h9)
      have F215 : ∀ i9 : Nat, i9 < 4 → f36 (ea i9) = some (.inr (1, [.ref (ma i9), .int (nI (sq i9))])) := fun i9 h9 => k39 _ _ (F214 i9 h9) (z_nn u14 (F209 i9 h9))
      have F216 : ∀ i9 : Nat, i9 < 4 → f80 (ea i9) = some (.inr (1, [.ref (ma i9), .int (nI (sq i9))])) := fun i9 h9 => k93 _ _ (F215 i9 h9) (z_ne (F215 i9 h9) a46 rfl) (z_ne (F215 i9 h9) a54 rfl) (z_ne (F215 i9 h9) a62 rfl) (z_nn u14 (F209 i9 h9)) (fun j9 h8 => (z_ne (F215 i9 h9) (F71 j9 h8) rfl))
      have F217 : ∀ i9 : Nat, i9 < 4 → f1 (ma i9) = some (.inl (cy 0, 60, .inl (mb i9))) := fun i9 h9 => k4 _ _ (hMa i9 h9) (z_ne (hMa i9 h9) x_fa rfl)
      have F218 : ∀ i9 : Nat, i9 < 4 → f7 (ma i9) = some (.inl (cy 0, 60, .inl (mb i9))) := fun i9 h9 => k9 _ _ (F217 i9 h9) 
      have F219 : ∀ i9 : Nat, i9 < 4 → f15 (ma i9) = some (.inl (cy 0, 60, .inl (mb i9))) := fun i9 h9 => (k17 _ (z_nn u14 (F218 i9 h9))).trans (F218 i9 h9)
      have F220 : ∀ i9 : Nat, i9 < 4 → f20 (ma i9) = some (.inl (cy 0, 60, .inl (mb i9))) := fun i9 h9 => (k22 _ (z_nn u19 (F219 i9 h9))).trans (F219 i9 h9)
      have F221 : ∀ i9 : Nat, i9 < 4 → f23 (ma i9) = some (.inl (cy 0, 60, .inl (mb i9))) := fun i9 h9 => (k25 _ (z_nn u19 (F219 i9 h9))).trans (F220 i9 h9)
      have F222 : ∀ i9 : Nat, i9 < 4 → f26 (ma i9) = some (.inl (cy 0, 60, .inl (mb i9))) := fun i9 h9 => (k28 _ (z_nn u19 (F219 i9 h9))).trans (F221 i9 h9)
      have F223 : ∀ i9 : Nat, i9 < 4 → f29 (ma i9) = some (.inl (cy 0, 60, .inl (mb i9))) := fun i9 h9 => (k31 _ (z_nn u19 (F219 i9 h9))).trans (F222 i9 h9)
      have F224 : ∀ i9 : Nat, i9 < 4 → f36 (ma i9) = some (.inl (cy 0, 60, .inl (mb i9))) := fun i9 h9 => k39 _ _ (F223 i9 h9) (z_nn u14 (F218 i9 h9))
      have F225 : ∀ i9 : Nat, i9 < 4 → f80 (ma i9) = some (.inl (cy 0, 60, .inl (mb i9))) := fun i9 h9 => k93 _ _ (F224 i9 h9) (z_ne (F224 i9 h9) a46 rfl) (z_ne (F224 i9 h9) a54 rfl) (z_ne (F224 i9 h9) a62 rfl) (z_nn u14 (F218 i9 h9)) (fun j9 h8 => (z_ne (F224 i9 h9) (F71 j9 h8) rfl))
      have a226 : f80 q18 = some (.inl (cy 1, 3, .inr (.inl (vp_updL (vp_updL (vp_updL (fun _ => 0) 0 x) 1 y) 2 (x / y))))) := k93 _ _ a63 (Ne.symm (z_nn u19 a41)) (Ne.symm (z_nn u19 a49)) (Ne.symm (z_nn u19 a57)) (Ne.symm (z_nn u19 a16)) (fun j9 h8 => (z_ne a63 (F71 j9 h8) rfl))
      have hgpf : ∀ j, j < 3 → (vp_updL (vp_updL (vp_updL (fun _ => 0) 0 x) 1 y) 2 (x / y)) j = (q3 x y (x / y)) j := (z_j3 _ _ _ _)
      have hq : q_share nn y = (nI nn, 0, (-1), 0) := by simp [q_share, h60, hy0, c10, c11]
      exact z_iret C hr rfl hz hS ⟨0, (-1), 0, gv, nl, gu, (nn + 1), (va_up ga nn (some q13)), gr_84, (va_up fg nn q13), (va_up pt nn q18), (va_up kd nn 3), (va_up ln nn 3), (va_up pp nn (vp_updL (vp_updL (vp_updL (fun _ => 0) 0 x) 1 y) 2 (x / y))), (va_up wg nn (x / y)), (va_up wd nn 0), (va_up hs nn hq_82), (va_up bf_85 nn bq_83), nf, gf, fq, fk, fz, fc, nc, gc, cn, ce, cm, sq, mb, ks, kk, kv, lk, (by rw [hq]), (by rw [hq]), (by rw [hq]), (by rw [hq]), (by rw [hq]; exact (zEV0 gv).symm), rfl, rfl, (by rw [if_pos (nI_pos' (by omega))]), (by rw [if_pos (nI_pos' (by omega))]), (by rw [if_pos (nI_pos' (by omega))]), (zPP_new hgpf), (by rw [if_pos (nI_pos' (by omega))]), (by rw [if_pos (nI_pos' (by omega)), p86, zHash_congr (gp' := q3 x y (x / y)) hgpf]), rfl, rfl, rfl, rfl, rfl, rfl, rfl, rfl, rfl, rfl, rfl, rfl, (by rw [if_pos (nI_pos' (by omega))]), ⟨a100, a108, a117, a88, a89, a90, a126, a135, a144, a153, a162, a171, a180, F91, F92, F189, F198, F207, F216, F225, (by omega), hl12, hf6, hc60, hs40, (z_ga1 hga), (z_gr1 p87), (z_up1 (P := fun _ a9 => a9 ≤ 15) hln (by omega)), (z_up2 (P := fun (a9 : Int32) (b9 : Nat) => a9 = 5 → 3 ≤ b9) hk5 (fun h9 => absurd h9 (by decide))), (z_up2 (P := fun (a9 : Int32) (b9 : Nat) => a9 = 4 → 2 ≤ b9) hk4 (fun h9 => absurd h9 (by decide))), (z_inj1 hfi (fun j9 h9 => z_nn u14 (F65 j9 h9))), (z_inj1 hpi (fun j9 h9 => z_nn u19 (F74 j9 h9))), har, hgf, hfz, hgc, hG, hsq, hei, hmi, kne, hca, hcr, hlk⟩⟩ (Nat.le_of_ble_eq_true rfl) (Nat.le_of_ble_eq_true rfl) dX7_share_75
    · have hy0 : y = 0 := ((lg_cmp_eq y 0).mp c11)
      refine lv_aload_n hx hb dX7_share_26 rfl (lv_at hl 0 rfl) ?_
      have a227 : f7 o = some (.inr (7, [.ref fa, .ref fi, .ref nu, .int (nI nl), .ref fm, .int (nI nf), .ref co, .int (nI nc), .ref en, .ref ke, .long lk])) := k9 _ _ a5 
      refine z_get (v := .ref fa) C hz a227 zl7 mFX7_10 (by decide) rfl dX7_share_27 ?_
      refine lv_bipush (v := 6) hx hb dX7_share_30 (by decide) ?_
      refine lv_iconst (v := 1) hx hb dX7_share_32 (by decide) ?_
      have a228 : f7 fa = some (.inr (2, [.int 0, .int (-1), .int 0, .ref ev])) := k9 _ _ a3 
      have a229 : f1 ev = some (.inl (cy 0, 8, .inl gv)) := k4 _ _ x_ev (z_ne x_ev x_fa rfl)
      have a230 : f7 ev = some (.inl (cy 0, 8, .inl gv)) := k9 _ _ a229 
      refine z_callVi (As := [.int 6, .int 1]) C hz hS hA hl (k_X2_inPart l D cy f7 fa 6 1 0 (-1) 0 ev gv 6 a228 a230 (by decide) (Nat.le_of_ble_eq_true rfl)) zyX2_inPart mMX7_104 a228 zl2 rfl rfl (Nat.le_of_ble_eq_true rfl) ⟨Nat.le_of_ble_eq_true rfl, Nat.le_of_ble_eq_true rfl⟩ ⟨Nat.le_of_ble_eq_true rfl, Nat.le_of_ble_eq_true rfl⟩ dX7_share_33 (fun r f231 H locs h232 hz hS => ?_)
      obtain ⟨rfl, a233, a234, k235⟩ := h232
      have a236 : f231 o = some (.inr (7, [.ref fa, .ref fi, .ref nu, .int (nI nl), .ref fm, .int (nI nf), .ref co, .int (nI nc), .ref en, .ref ke, .long lk])) := k235 _ _ a227 (z_ne a227 a228 rfl) (z_ne a227 a230 rfl)
      have a237 : f7 fi = some (.inr (5, [.ref al, .ref ra, .int (nI nn)])) := k9 _ _ a6 
      have a238 : f231 fi = some (.inr (5, [.ref al, .ref ra, .int (nI nn)])) := k235 _ _ a237 (z_ne a237 a228 rfl) (z_ne a237 a230 rfl)
      have a239 : f1 al = some (.inl (cy 3, 60, .inr (.inr (.inr (.inr ga))))) := k4 _ _ x_al (z_ne x_al x_fa rfl)
      have a240 : f7 al = some (.inl (cy 3, 60, .inr (.inr (.inr (.inr ga))))) := k9 _ _ a239 
      have a241 : f231 al = some (.inl (cy 3, 60, .inr (.inr (.inr (.inr ga))))) := k235 _ _ a240 (z_ne a240 a228 rfl) (z_ne a240 a230 rfl)
      have a242 : f1 ra = some (.inl (cy 3, 60, .inr (.inr (.inr (.inr gr))))) := k4 _ _ x_ra (z_ne x_ra x_fa rfl)
      have a243 : f7 ra = some (.inl (cy 3, 60, .inr (.inr (.inr (.inr gr))))) := k9 _ _ a242 
      have a244 : f231 ra = some (.inl (cy 3, 60, .inr (.inr (.inr (.inr gr))))) := k235 _ _ a243 (z_ne a243 a228 rfl) (z_ne a243 a230 rfl)
      have a245 : f1 nu = some (.inl (cy 0, 12, .inl gu)) := k4 _ _ x_nu (z_ne x_nu x_fa rfl)
      have a246 : f7 nu = some (.inl (cy 0, 12, .inl gu)) := k9 _ _ a245 
      have a247 : f231 nu = some (.inl (cy 0, 12, .inl gu)) := k235 _ _ a246 (z_ne a246 a228 rfl) (z_ne a246 a230 rfl)
      have a248 : f1 fm = some (.inl (cy 4, 6, .inr (.inr (.inr (.inr gf))))) := k4 _ _ x_fm (z_ne x_fm x_fa rfl)
      have a249 : f7 fm = some (.inl (cy 4, 6, .inr (.inr (.inr (.inr gf))))) := k9 _ _ a248 
      have a250 : f231 fm = some (.inl (cy 4, 6, .inr (.inr (.inr (.inr gf))))) := k235 _ _ a249 (z_ne a249 a228 rfl) (z_ne a249 a230 rfl)
      have a251 : f1 co = some (.inl (cy 5, 60, .inr (.inr (.inr (.inr gc))))) := k4 _ _ x_co (z_ne x_co x_fa rfl)
      have a252 : f7 co = some (.inl (cy 5, 60, .inr (.inr (.inr (.inr gc))))) := k9 _ _ a251 
      have a253 : f231 co = some (.inl (cy 5, 60, .inr (.inr (.inr (.inr gc))))) := k235 _ _ a252 (z_ne a252 a228 rfl) (z_ne a252 a230 rfl)
      have a254 : f1 en = some (.inl (cy 6, 4, .inr (.inr (.inr (.inr ge))))) := k4 _ _ x_en (z_ne x_en x_fa rfl)
      have a255 : f7 en = some (.inl (cy 6, 4, .inr (.inr (.inr (.inr ge))))) := k9 _ _ a254 
      have a256 : f231 en = some (.inl (cy 6, 4, .inr (.inr (.inr (.inr ge))))) := k235 _ _ a255 (z_ne a255 a228 rfl) (z_ne a255 a230 rfl)
      have a257 : f1 ke = some (.inr (6, [.ref kn, .ref vq, .int (nI ks)])) := k4 _ _ x_ke (z_ne x_ke x_fa rfl)
      have a258 : f7 ke = some (.inr (6, [.ref kn, .ref vq, .int (nI ks)])) := k9 _ _ a257 
      have a259 : f231 ke = some (.inr (6, [.ref kn, .ref vq, .int (nI ks)])) := k235 _ _ a258 (z_ne a258 a228 rfl) (z_ne a258 a230 rfl)
      have a260 : f1 kn = some (.inl (cy 0, 40, .inl kk)) := k4 _ _ x_kn (z_ne x_kn x_fa rfl)
      have a261 : f7 kn = some (.inl (cy 0, 40, .inl kk)) := k9 _ _ a260 
      have a262 : f231 kn = some (.inl (cy 0, 40, .inl kk)) := k235 _ _ a261 (z_ne a261 a228 rfl) (z_ne a261 a230 rfl)
      have a263 : f1 vq = some (.inl (cy 0, 40, .inl kv)) := k4 _ _ x_vq (z_ne x_vq x_fa rfl)
      have a264 : f7 vq = some (.inl (cy 0, 40, .inl kv)) := k9 _ _ a263 
      have a265 : f231 vq = some (.inl (cy 0, 40, .inl kv)) := k235 _ _ a264 (z_ne a264 a228 rfl) (z_ne a264 a230 rfl)
      have F266 : ∀ i9 : Nat, i9 < nn → f1 (fg i9) = some (.inr (4, [.int (kd i9), .ref (pt i9), .long (wg i9), .int (wd i9), .int (nI i9), .int (hs i9), .int (bf i9)])) := fun i9 h9 => k4 _ _ (hF i9 h9) (z_ne (hF i9 h9) x_fa rfl)
      have F267 : ∀ i9 : Nat, i9 < nn → f7 (fg i9) = some (.inr (4, [.int (kd i9), .ref (pt i9), .long (wg i9), .int (wd i9), .int (nI i9), .int (hs i9), .int (bf i9)])) := fun i9 h9 => k9 _ _ (F266 i9 h9) 
      have F268 : ∀ i9 : Nat, i9 < nn → f231 (fg i9) = some (.inr (4, [.int (kd i9), .ref (pt i9), .long (wg i9), .int (wd i9), .int (nI i9), .int (hs i9), .int (bf i9)])) := fun i9 h9 => k235 _ _ (F267 i9 h9) (z_ne (F267 i9 h9) a228 rfl) (z_ne (F267 i9 h9) a230 rfl)
      have F269 : ∀ i9 : Nat, i9 < nn → f1 (pt i9) = some (.inl (cy 1, (ln i9), .inr (.inl (pp i9)))) := fun i9 h9 => k4 _ _ (hP i9 h9) (z_neO (hP i9 h9) x_fa rfl)
      have F270 : ∀ i9 : Nat, i9 < nn → f7 (pt i9) = some (.inl (cy 1, (ln i9), .inr (.inl (pp i9)))) := fun i9 h9 => k9 _ _ (F269 i9 h9) 
      have F271 : ∀ i9 : Nat, i9 < nn → f231 (pt i9) = some (.inl (cy 1, (ln i9), .inr (.inl (pp i9)))) := fun i9 h9 => k235 _ _ (F270 i9 h9) (z_neO (F270 i9 h9) a228 rfl) (z_neA (F270 i9 h9) a230 rfl)
      have F272 : ∀ i9 : Nat, i9 < nf → f1 (fq i9) = some (.inr (3, [.ref (fk i9), .int (nI (fz i9))])) := fun i9 h9 => k4 _ _ (hFq i9 h9) (z_ne (hFq i9 h9) x_fa rfl)
      have F273 : ∀ i9 : Nat, i9 < nf → f7 (fq i9) = some (.inr (3, [.ref (fk i9), .int (nI (fz i9))])) := fun i9 h9 => k9 _ _ (F272 i9 h9) 
      have F274 : ∀ i9 : Nat, i9 < nf → f231 (fq i9) = some (.inr (3, [.ref (fk i9), .int (nI (fz i9))])) := fun i9 h9 => k235 _ _ (F273 i9 h9) (z_ne (F273 i9 h9) a228 rfl) (z_ne (F273 i9 h9) a230 rfl)
      have F275 : ∀ i9 : Nat, i9 < nf → f1 (fk i9) = some (.inl (cy 0, 4, .inl (fc i9))) := fun i9 h9 => k4 _ _ (hFk i9 h9) (z_ne (hFk i9 h9) x_fa rfl)
      have F276 : ∀ i9 : Nat, i9 < nf → f7 (fk i9) = some (.inl (cy 0, 4, .inl (fc i9))) := fun i9 h9 => k9 _ _ (F275 i9 h9) 
      have F277 : ∀ i9 : Nat, i9 < nf → f231 (fk i9) = some (.inl (cy 0, 4, .inl (fc i9))) := fun i9 h9 => k235 _ _ (F276 i9 h9) (z_ne (F276 i9 h9) a228 rfl) (z_ne (F276 i9 h9) a230 rfl)
      have F278 : ∀ i9 : Nat, i9 < nc → f1 (cn i9) = some (.inr (0, [.int (ce i9), .int (cm i9)])) := fun i9 h9 => k4 _ _ (hCn i9 h9) (z_ne (hCn i9 h9) x_fa rfl)
      have F279 : ∀ i9 : Nat, i9 < nc → f7 (cn i9) = some (.inr (0, [.int (ce i9), .int (cm i9)])) := fun i9 h9 => k9 _ _ (F278 i9 h9) 
      have F280 : ∀ i9 : Nat, i9 < nc → f231 (cn i9) = some (.inr (0, [.int (ce i9), .int (cm i9)])) := fun i9 h9 => k235 _ _ (F279 i9 h9) (z_ne (F279 i9 h9) a228 rfl) (z_ne (F279 i9 h9) a230 rfl)
      have F281 : ∀ i9 : Nat, i9 < 4 → f1 (ea i9) = some (.inr (1, [.ref (ma i9), .int (nI (sq i9))])) := fun i9 h9 => k4 _ _ (hEa i9 h9) (z_ne (hEa i9 h9) x_fa rfl)
      have F282 : ∀ i9 : Nat, i9 < 4 → f7 (ea i9) = some (.inr (1, [.ref (ma i9), .int (nI (sq i9))])) := fun i9 h9 => k9 _ _ (F281 i9 h9) 
      have F283 : ∀ i9 : Nat, i9 < 4 → f231 (ea i9) = some (.inr (1, [.ref (ma i9), .int (nI (sq i9))])) := fun i9 h9 => k235 _ _ (F282 i9 h9) (z_ne (F282 i9 h9) a228 rfl) (z_ne (F282 i9 h9) a230 rfl)
      have F284 : ∀ i9 : Nat, i9 < 4 → f1 (ma i9) = some (.inl (cy 0, 60, .inl (mb i9))) := fun i9 h9 => k4 _ _ (hMa i9 h9) (z_ne (hMa i9 h9) x_fa rfl)
      have F285 : ∀ i9 : Nat, i9 < 4 → f7 (ma i9) = some (.inl (cy 0, 60, .inl (mb i9))) := fun i9 h9 => k9 _ _ (F284 i9 h9) 
      have F286 : ∀ i9 : Nat, i9 < 4 → f231 (ma i9) = some (.inl (cy 0, 60, .inl (mb i9))) := fun i9 h9 => k235 _ _ (F285 i9 h9) (z_ne (F285 i9 h9) a228 rfl) (z_ne (F285 i9 h9) a230 rfl)
      have hq : q_share nn y = ((-4), 6, 1, 0) := by simp [q_share, h60, hy0, c10, c11]
      exact z_iret C hr rfl hz hS ⟨6, 1, 0, (upd gv 6 (gv 6 + 1)), nl, gu, nn, ga, gr, fg, pt, kd, ln, pp, wg, wd, hs, bf, nf, gf, fq, fk, fz, fc, nc, gc, cn, ce, cm, sq, mb, ks, kk, kv, lk, (by rw [hq]), (by rw [hq]), (by rw [hq]), (by rw [hq]), (by rw [hq]; exact (zEV6 gv).symm), rfl, rfl, (by rw [if_neg (by decide)]), (by rw [if_neg (by decide)]), (by rw [if_neg (by decide)]), (zPP_no (by decide)), (by rw [if_neg (by decide)]), (by rw [if_neg (by decide)]), rfl, rfl, rfl, rfl, rfl, rfl, rfl, rfl, rfl, rfl, rfl, rfl, (by rw [if_neg (by decide)]), ⟨a236, a233, a234, a238, a241, a244, a247, a250, a253, a256, a259, a262, a265, F268, F271, F274, F277, F280, F283, F286, hn60, hl12, hf6, hc60, hs40, hga, hgr, hln, hk5, hk4, hfi, hpi, har, hgf, hfz, hgc, hG, hsq, hei, hmi, kne, hca, hcr, hlk⟩⟩ (Nat.le_of_ble_eq_true rfl) (Nat.le_of_ble_eq_true rfl) dX7_share_36
  · have a287 : f1 fi = some (.inr (5, [.ref al, .ref ra, .int (nI nn)])) := k4 _ _ x_fi (z_ne x_fi x_fa rfl)
    refine z_callVi (As := []) C hz hS hA hl (k_X5_isFull_B l D cy f1 fi al ra nn a287 hn60 h60) zyX5_isFull mMX7_79 a287 zl5 rfl rfl (Nat.le_of_ble_eq_true rfl) ⟨Nat.le_of_ble_eq_true rfl, Nat.le_of_ble_eq_true rfl⟩ ⟨Nat.le_of_ble_eq_true rfl, Nat.le_of_ble_eq_true rfl⟩ dX7_share_11 (fun r f288 H locs h289 hz hS => ?_)
    obtain ⟨rfl, k290⟩ := h289
    refine lv_if_eq (tgt := 20) hx hb dX7_share_14 (by decide) (fun c291 => ?_) (fun c291 => ?_)
    · exact absurd c291 (by decide)
    refine lv_bipush (v := (-3)) hx hb dX7_share_17 (by decide) ?_
    have a292 : f288 o = some (.inr (7, [.ref fa, .ref fi, .ref nu, .int (nI nl), .ref fm, .int (nI nf), .ref co, .int (nI nc), .ref en, .ref ke, .long lk])) := k290 _ _ a5 
    have a293 : f288 fa = some (.inr (2, [.int 0, .int (-1), .int 0, .ref ev])) := k290 _ _ a3 
    have a294 : f1 ev = some (.inl (cy 0, 8, .inl gv)) := k4 _ _ x_ev (z_ne x_ev x_fa rfl)
    have a295 : f288 ev = some (.inl (cy 0, 8, .inl gv)) := k290 _ _ a294 
    have a296 : f288 fi = some (.inr (5, [.ref al, .ref ra, .int (nI nn)])) := k290 _ _ a287 
    have a297 : f1 al = some (.inl (cy 3, 60, .inr (.inr (.inr (.inr ga))))) := k4 _ _ x_al (z_ne x_al x_fa rfl)
    have a298 : f288 al = some (.inl (cy 3, 60, .inr (.inr (.inr (.inr ga))))) := k290 _ _ a297 
    have a299 : f1 ra = some (.inl (cy 3, 60, .inr (.inr (.inr (.inr gr))))) := k4 _ _ x_ra (z_ne x_ra x_fa rfl)
    have a300 : f288 ra = some (.inl (cy 3, 60, .inr (.inr (.inr (.inr gr))))) := k290 _ _ a299 
    have a301 : f1 nu = some (.inl (cy 0, 12, .inl gu)) := k4 _ _ x_nu (z_ne x_nu x_fa rfl)
    have a302 : f288 nu = some (.inl (cy 0, 12, .inl gu)) := k290 _ _ a301 
    have a303 : f1 fm = some (.inl (cy 4, 6, .inr (.inr (.inr (.inr gf))))) := k4 _ _ x_fm (z_ne x_fm x_fa rfl)
    have a304 : f288 fm = some (.inl (cy 4, 6, .inr (.inr (.inr (.inr gf))))) := k290 _ _ a303 
    have a305 : f1 co = some (.inl (cy 5, 60, .inr (.inr (.inr (.inr gc))))) := k4 _ _ x_co (z_ne x_co x_fa rfl)
    have a306 : f288 co = some (.inl (cy 5, 60, .inr (.inr (.inr (.inr gc))))) := k290 _ _ a305 
    have a307 : f1 en = some (.inl (cy 6, 4, .inr (.inr (.inr (.inr ge))))) := k4 _ _ x_en (z_ne x_en x_fa rfl)
    have a308 : f288 en = some (.inl (cy 6, 4, .inr (.inr (.inr (.inr ge))))) := k290 _ _ a307 
    have a309 : f1 ke = some (.inr (6, [.ref kn, .ref vq, .int (nI ks)])) := k4 _ _ x_ke (z_ne x_ke x_fa rfl)
    have a310 : f288 ke = some (.inr (6, [.ref kn, .ref vq, .int (nI ks)])) := k290 _ _ a309 
    have a311 : f1 kn = some (.inl (cy 0, 40, .inl kk)) := k4 _ _ x_kn (z_ne x_kn x_fa rfl)
    have a312 : f288 kn = some (.inl (cy 0, 40, .inl kk)) := k290 _ _ a311 
    have a313 : f1 vq = some (.inl (cy 0, 40, .inl kv)) := k4 _ _ x_vq (z_ne x_vq x_fa rfl)
    have a314 : f288 vq = some (.inl (cy 0, 40, .inl kv)) := k290 _ _ a313 
    have F315 : ∀ i9 : Nat, i9 < nn → f1 (fg i9) = some (.inr (4, [.int (kd i9), .ref (pt i9), .long (wg i9), .int (wd i9), .int (nI i9), .int (hs i9), .int (bf i9)])) := fun i9 h9 => k4 _ _ (hF i9 h9) (z_ne (hF i9 h9) x_fa rfl)
    have F316 : ∀ i9 : Nat, i9 < nn → f288 (fg i9) = some (.inr (4, [.int (kd i9), .ref (pt i9), .long (wg i9), .int (wd i9), .int (nI i9), .int (hs i9), .int (bf i9)])) := fun i9 h9 => k290 _ _ (F315 i9 h9) 
    have F317 : ∀ i9 : Nat, i9 < nn → f1 (pt i9) = some (.inl (cy 1, (ln i9), .inr (.inl (pp i9)))) := fun i9 h9 => k4 _ _ (hP i9 h9) (z_neO (hP i9 h9) x_fa rfl)
    have F318 : ∀ i9 : Nat, i9 < nn → f288 (pt i9) = some (.inl (cy 1, (ln i9), .inr (.inl (pp i9)))) := fun i9 h9 => k290 _ _ (F317 i9 h9) 
    have F319 : ∀ i9 : Nat, i9 < nf → f1 (fq i9) = some (.inr (3, [.ref (fk i9), .int (nI (fz i9))])) := fun i9 h9 => k4 _ _ (hFq i9 h9) (z_ne (hFq i9 h9) x_fa rfl)
    have F320 : ∀ i9 : Nat, i9 < nf → f288 (fq i9) = some (.inr (3, [.ref (fk i9), .int (nI (fz i9))])) := fun i9 h9 => k290 _ _ (F319 i9 h9) 
    have F321 : ∀ i9 : Nat, i9 < nf → f1 (fk i9) = some (.inl (cy 0, 4, .inl (fc i9))) := fun i9 h9 => k4 _ _ (hFk i9 h9) (z_ne (hFk i9 h9) x_fa rfl)
    have F322 : ∀ i9 : Nat, i9 < nf → f288 (fk i9) = some (.inl (cy 0, 4, .inl (fc i9))) := fun i9 h9 => k290 _ _ (F321 i9 h9) 
    have F323 : ∀ i9 : Nat, i9 < nc → f1 (cn i9) = some (.inr (0, [.int (ce i9), .int (cm i9)])) := fun i9 h9 => k4 _ _ (hCn i9 h9) (z_ne (hCn i9 h9) x_fa rfl)
    have F324 : ∀ i9 : Nat, i9 < nc → f288 (cn i9) = some (.inr (0, [.int (ce i9), .int (cm i9)])) := fun i9 h9 => k290 _ _ (F323 i9 h9) 
    have F325 : ∀ i9 : Nat, i9 < 4 → f1 (ea i9) = some (.inr (1, [.ref (ma i9), .int (nI (sq i9))])) := fun i9 h9 => k4 _ _ (hEa i9 h9) (z_ne (hEa i9 h9) x_fa rfl)
    have F326 : ∀ i9 : Nat, i9 < 4 → f288 (ea i9) = some (.inr (1, [.ref (ma i9), .int (nI (sq i9))])) := fun i9 h9 => k290 _ _ (F325 i9 h9) 
    have F327 : ∀ i9 : Nat, i9 < 4 → f1 (ma i9) = some (.inl (cy 0, 60, .inl (mb i9))) := fun i9 h9 => k4 _ _ (hMa i9 h9) (z_ne (hMa i9 h9) x_fa rfl)
    have F328 : ∀ i9 : Nat, i9 < 4 → f288 (ma i9) = some (.inl (cy 0, 60, .inl (mb i9))) := fun i9 h9 => k290 _ _ (F327 i9 h9) 
    have hq : q_share nn y = ((-3), 0, (-1), 0) := by simp [q_share, h60, c291]
    exact z_iret C hr rfl hz hS ⟨0, (-1), 0, gv, nl, gu, nn, ga, gr, fg, pt, kd, ln, pp, wg, wd, hs, bf, nf, gf, fq, fk, fz, fc, nc, gc, cn, ce, cm, sq, mb, ks, kk, kv, lk, (by rw [hq]), (by rw [hq]), (by rw [hq]), (by rw [hq]), (by rw [hq]; exact (zEV0 gv).symm), rfl, rfl, (by rw [if_neg (by decide)]), (by rw [if_neg (by decide)]), (by rw [if_neg (by decide)]), (zPP_no (by decide)), (by rw [if_neg (by decide)]), (by rw [if_neg (by decide)]), rfl, rfl, rfl, rfl, rfl, rfl, rfl, rfl, rfl, rfl, rfl, rfl, (by rw [if_neg (by decide)]), ⟨a292, a293, a295, a296, a298, a300, a302, a304, a306, a308, a310, a312, a314, F316, F318, F320, F322, F324, F326, F328, hn60, hl12, hf6, hc60, hs40, hga, hgr, hln, hk5, hk4, hfi, hpi, har, hgf, hfz, hgc, hG, hsq, hei, hmi, kne, hca, hcr, hlk⟩⟩ (Nat.le_of_ble_eq_true rfl) (Nat.le_of_ble_eq_true rfl) dX7_share_19
