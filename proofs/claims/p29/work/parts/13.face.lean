abbrev rmX7_kind : Room := { frames := 1, cells := 0, slots := 0, locals := 22 }
set_option maxHeartbeats 4000000 in
set_option maxRecDepth 100000 in
theorem k_X7_kind (l : Launch) (D : va_G) (cy : Nat → ClassId) (f : zM) (o : Nat) (fa : Nat) (fi : Nat) (nu : Nat) (fm : Nat) (co : Nat) (en : Nat) (ke : Nat) (ev : Nat) (al : Nat) (ra : Nat) (kn : Nat) (vq : Nat) (ge : Nat → Option Nat) (ea : Nat → Nat) (ma : Nat → Nat) (u1 : Int32) (u2 : Int32) (u3 : Int32) (gv : Nat → Int32) (nl : Nat) (gu : Nat → Int32) (nn : Nat) (ga : Nat → Option Nat) (gr : Nat → Option Nat) (fg : Nat → Nat) (pt : Nat → Nat) (kd : Nat → Int32) (ln : Nat → Nat) (pp : Nat → Nat → Int64) (wg : Nat → Int64) (wd : Nat → Int32) (hs : Nat → Int32) (bf : Nat → Int32) (nf : Nat) (gf : Nat → Option Nat) (fq : Nat → Nat) (fk : Nat → Nat) (fz : Nat → Nat) (fc : Nat → Nat → Int32) (nc : Nat) (gc : Nat → Option Nat) (cn : Nat → Nat) (ce : Nat → Int32) (cm : Nat → Int32) (sq : Nat → Nat) (mb : Nat → Nat → Int32) (ks : Nat) (kk : Nat → Int32) (kv : Nat → Int32) (lk : Int64) (x : Int32)    (hI : zIX cy f o fa fi nu fm co en ke ev al ra kn vq ge ea ma u1 u2 u3 gv nl gu nn ga gr fg pt kd ln pp wg wd hs bf nf gf fq fk fz fc nc gc cn ce cm sq mb ks kk kv lk) : zCi l D cy yX7_kind cX7_kind 3 (Option.some Jvm.ClassFile.FieldType.int) rmX7_kind [.ref o, .int x] f (fun (r : Int32) (f1 : zM) => ∃ (u11 : Int32) (u21 : Int32) (u31 : Int32) (gv1 : Nat → Int32) (nl1 : Nat) (gu1 : Nat → Int32) (nn1 : Nat) (ga1 : Nat → Option Nat) (gr1 : Nat → Option Nat) (fg1 : Nat → Nat) (pt1 : Nat → Nat) (kd1 : Nat → Int32) (ln1 : Nat → Nat) (pp1 : Nat → Nat → Int64) (wg1 : Nat → Int64) (wd1 : Nat → Int32) (hs1 : Nat → Int32) (bf1 : Nat → Int32) (nf1 : Nat) (gf1 : Nat → Option Nat) (fq1 : Nat → Nat) (fk1 : Nat → Nat) (fz1 : Nat → Nat) (fc1 : Nat → Nat → Int32) (nc1 : Nat) (gc1 : Nat → Option Nat) (cn1 : Nat → Nat) (ce1 : Nat → Int32) (cm1 : Nat → Int32) (sq1 : Nat → Nat) (mb1 : Nat → Nat → Int32) (ks1 : Nat) (kk1 : Nat → Int32) (kv1 : Nat → Int32) (lk1 : Int64), r = (q_kind nn kd x) ∧ (u11 = u1) ∧ (u21 = u2) ∧ (u31 = u3) ∧ (gv1 = gv) ∧ (nl1 = nl) ∧ (gu1 = gu) ∧ (nn1 = nn) ∧ (kd1 = kd) ∧ (ln1 = ln) ∧ (pp1 = pp) ∧ (wd1 = wd) ∧ (hs1 = hs) ∧ (nf1 = nf) ∧ (fz1 = fz) ∧ (fc1 = fc) ∧ (nc1 = nc) ∧ (ce1 = ce) ∧ (cm1 = cm) ∧ (sq1 = sq) ∧ (mb1 = mb) ∧ (ks1 = ks) ∧ (kk1 = kk) ∧ (kv1 = kv) ∧ (lk1 = lk) ∧ zIX cy f1 o fa fi nu fm co en ke ev al ra kn vq ge ea ma u11 u21 u31 gv1 nl1 gu1 nn1 ga1 gr1 fg1 pt1 kd1 ln1 pp1 wg1 wd1 hs1 bf1 nf1 gf1 fq1 fk1 fz1 fc1 nc1 gc1 cn1 ce1 cm1 sq1 mb1 ks1 kk1 kv1 lk1) := by
  intro sz
  refine z_body (by decide +kernel) (Nat.le_of_ble_eq_true rfl) ?_
  intro p e s m below meth c ls C hr hin hsz hz hl
  subst hsz
  have hx := C.1
  have hb := C.2.1
  have hA : ∀ q, s.heap.size ≤ q → zA f s.heap.size q := fun q h => Or.inr h
  have hS : va_S (zA f s.heap.size) s.heap s.heap [] := va_S.rf
  have hl : lv_has ls 3 [(0, .ref o), (1, .int x)] := hl
  obtain ⟨x_o, x_fa, x_ev, x_fi, x_al, x_ra, x_nu, x_fm, x_co, x_en, x_ke, x_kn, x_vq, hF, hP, hFq, hFk, hCn, hEa, hMa, hn60, hl12, hf6, hc60, hs40, hga, hgr, hln, hk5, hk4, hfi, hpi, har, hgf, hfz, hgc, hG, hsq, hei, hmi, kne, hca, hcr, hlk⟩ := id hI
  refine lv_aload_n hx hb dX7_kind_0 rfl (lv_at hl 0 rfl) ?_
  refine z_get (v := .ref fi) C hz x_o zl7 mFX7_19 (by decide) rfl dX7_kind_1 ?_
  refine lv_iload_n hx hb dX7_kind_4 rfl (lv_at hl 1 rfl) ?_
  refine lv_i2l (v := x.toInt64) hx hb dX7_kind_5 rfl ?_
  rcases z_findi x nn with ⟨ja, hja, hva⟩ | hva
  · have hFa : isF nn x = true := isF_t hn60 hja hva
    have hIa : fI x = ja := fI_of (by omega) hva
    have hNa : ¬ x = (-1) := by rw [hva]; exact z_nim1 (by omega)
    refine z_callVq (As := [.long x.toInt64]) C hz hS hA hl (k_X5_find_A l D cy f fi al ra ga nn fg x.toInt64 ja x_fi x_al hn60 hga (by rw [hva, nI_l (by omega)]) hja) zyX5_find mMX7_130 x_fi zl5 rfl rfl (Nat.le_of_ble_eq_true rfl) ⟨Nat.le_of_ble_eq_true rfl, Nat.le_of_ble_eq_true rfl⟩ ⟨Nat.le_of_ble_eq_true rfl, Nat.le_of_ble_eq_true rfl⟩ dX7_kind_6 (fun r f1 H locs h2 hz hS => ?_)
    obtain ⟨rfl, k3⟩ := h2
    refine W.eq (g2 := F0 m 9 ls [.ref (fg ja)]) rfl ?_
    refine lv_astore_n (lv' := [(2, .ref (fg ja)), (0, .ref o), (1, .int x)]) hx hb dX7_kind_9 rfl hl (by decide) rfl (fun ls hl => ?_)
    refine lv_aload_n hx hb dX7_kind_10 rfl (lv_at hl 0 rfl) ?_
    refine lv_ifnonnull (tgt := 19) hx hb dX7_kind_11 (by decide) ?_
    refine lv_aload_n hx hb dX7_kind_19 rfl (lv_at hl 0 rfl) ?_
    have F4 : ∀ i9 : Nat, i9 < nn → f1 (fg i9) = some (.inr (4, [.int (kd i9), .ref (pt i9), .long (wg i9), .int (wd i9), .int (nI i9), .int (hs i9), .int (bf i9)])) := fun i9 h9 => k3 _ _ (hF i9 h9) 
    have a5 : f1 (fg ja) = some (.inr (4, [.int (kd ja), .ref (pt ja), .long (wg ja), .int (wd ja), .int (nI ja), .int (hs ja), .int (bf ja)])) := F4 ja hja
    refine z_getN (v := .int (kd ja)) C hz a5 zl4 mFNX7_134 (by decide) rfl dX7_kind_20 ?_
    have a6 : f1 o = some (.inr (7, [.ref fa, .ref fi, .ref nu, .int (nI nl), .ref fm, .int (nI nf), .ref co, .int (nI nc), .ref en, .ref ke, .long lk])) := k3 _ _ x_o 
    have a7 : f1 fa = some (.inr (2, [.int u1, .int u2, .int u3, .ref ev])) := k3 _ _ x_fa 
    have a8 : f1 ev = some (.inl (cy 0, 8, .inl gv)) := k3 _ _ x_ev 
    have a9 : f1 fi = some (.inr (5, [.ref al, .ref ra, .int (nI nn)])) := k3 _ _ x_fi 
    have a10 : f1 al = some (.inl (cy 3, 60, .inr (.inr (.inr (.inr ga))))) := k3 _ _ x_al 
    have a11 : f1 ra = some (.inl (cy 3, 60, .inr (.inr (.inr (.inr gr))))) := k3 _ _ x_ra 
    have a12 : f1 nu = some (.inl (cy 0, 12, .inl gu)) := k3 _ _ x_nu 
    have a13 : f1 fm = some (.inl (cy 4, 6, .inr (.inr (.inr (.inr gf))))) := k3 _ _ x_fm 
    have a14 : f1 co = some (.inl (cy 5, 60, .inr (.inr (.inr (.inr gc))))) := k3 _ _ x_co 
    have a15 : f1 en = some (.inl (cy 6, 4, .inr (.inr (.inr (.inr ge))))) := k3 _ _ x_en 
    have a16 : f1 ke = some (.inr (6, [.ref kn, .ref vq, .int (nI ks)])) := k3 _ _ x_ke 
    have a17 : f1 kn = some (.inl (cy 0, 40, .inl kk)) := k3 _ _ x_kn 
    have a18 : f1 vq = some (.inl (cy 0, 40, .inl kv)) := k3 _ _ x_vq 
    have F19 : ∀ i9 : Nat, i9 < nn → f1 (pt i9) = some (.inl (cy 1, (ln i9), .inr (.inl (pp i9)))) := fun i9 h9 => k3 _ _ (hP i9 h9) 
    have F20 : ∀ i9 : Nat, i9 < nf → f1 (fq i9) = some (.inr (3, [.ref (fk i9), .int (nI (fz i9))])) := fun i9 h9 => k3 _ _ (hFq i9 h9) 
    have F21 : ∀ i9 : Nat, i9 < nf → f1 (fk i9) = some (.inl (cy 0, 4, .inl (fc i9))) := fun i9 h9 => k3 _ _ (hFk i9 h9) 
    have F22 : ∀ i9 : Nat, i9 < nc → f1 (cn i9) = some (.inr (0, [.int (ce i9), .int (cm i9)])) := fun i9 h9 => k3 _ _ (hCn i9 h9) 
    have F23 : ∀ i9 : Nat, i9 < 4 → f1 (ea i9) = some (.inr (1, [.ref (ma i9), .int (nI (sq i9))])) := fun i9 h9 => k3 _ _ (hEa i9 h9) 
    have F24 : ∀ i9 : Nat, i9 < 4 → f1 (ma i9) = some (.inl (cy 0, 60, .inl (mb i9))) := fun i9 h9 => k3 _ _ (hMa i9 h9) 
    exact z_iret C hr rfl hz hS ⟨u1, u2, u3, gv, nl, gu, nn, ga, gr, fg, pt, kd, ln, pp, wg, wd, hs, bf, nf, gf, fq, fk, fz, fc, nc, gc, cn, ce, cm, sq, mb, ks, kk, kv, lk, (by simp [q_kind, hFa, hIa, hNa]), rfl, rfl, rfl, rfl, rfl, rfl, rfl, rfl, rfl, rfl, rfl, rfl, rfl, rfl, rfl, rfl, rfl, rfl, rfl, rfl, rfl, rfl, rfl, rfl, ⟨a6, a7, a8, a9, a10, a11, a12, a13, a14, a15, a16, a17, a18, F4, F19, F20, F21, F22, F23, F24, hn60, hl12, hf6, hc60, hs40, hga, hgr, hln, hk5, hk4, hfi, hpi, har, hgf, hfz, hgc, hG, hsq, hei, hmi, kne, hca, hcr, hlk⟩⟩ (Nat.le_of_ble_eq_true rfl) (Nat.le_of_ble_eq_true rfl) dX7_kind_23
  · have hFa : isF nn x = false := isF_f hn60 hva
    refine z_callVq (As := [.long x.toInt64]) C hz hS hA hl (k_X5_find_B l D cy f fi al ra nn x.toInt64 x_fi hn60 (fun i9 h9 q9 => hva i9 h9 (z_toL (by omega) q9))) zyX5_find mMX7_130 x_fi zl5 rfl rfl (Nat.le_of_ble_eq_true rfl) ⟨Nat.le_of_ble_eq_true rfl, Nat.le_of_ble_eq_true rfl⟩ ⟨Nat.le_of_ble_eq_true rfl, Nat.le_of_ble_eq_true rfl⟩ dX7_kind_6 (fun r f25 H locs h26 hz hS => ?_)
    obtain ⟨rfl, k27⟩ := h26
    refine W.eq (g2 := F0 m 9 ls [.null]) rfl ?_
    refine lv_astore_nN (lv' := [(2, .null), (0, .ref o), (1, .int x)]) hx hb dX7_kind_9 rfl hl (by decide) rfl (fun ls hl => ?_)
    refine lv_aload_nN hx hb dX7_kind_10 rfl (lv_at hl 0 rfl) ?_
    refine lv_ifnonnullN hx hb dX7_kind_11 ?_
    refine lv_bipush (v := (-2)) hx hb dX7_kind_14 (by decide) ?_
    refine lv_goto (tgt := 23) hx hb dX7_kind_16 (by decide) ?_
    have a28 : f25 o = some (.inr (7, [.ref fa, .ref fi, .ref nu, .int (nI nl), .ref fm, .int (nI nf), .ref co, .int (nI nc), .ref en, .ref ke, .long lk])) := k27 _ _ x_o 
    have a29 : f25 fa = some (.inr (2, [.int u1, .int u2, .int u3, .ref ev])) := k27 _ _ x_fa 
    have a30 : f25 ev = some (.inl (cy 0, 8, .inl gv)) := k27 _ _ x_ev 
    have a31 : f25 fi = some (.inr (5, [.ref al, .ref ra, .int (nI nn)])) := k27 _ _ x_fi 
    have a32 : f25 al = some (.inl (cy 3, 60, .inr (.inr (.inr (.inr ga))))) := k27 _ _ x_al 
    have a33 : f25 ra = some (.inl (cy 3, 60, .inr (.inr (.inr (.inr gr))))) := k27 _ _ x_ra 
    have a34 : f25 nu = some (.inl (cy 0, 12, .inl gu)) := k27 _ _ x_nu 
    have a35 : f25 fm = some (.inl (cy 4, 6, .inr (.inr (.inr (.inr gf))))) := k27 _ _ x_fm 
    have a36 : f25 co = some (.inl (cy 5, 60, .inr (.inr (.inr (.inr gc))))) := k27 _ _ x_co 
    have a37 : f25 en = some (.inl (cy 6, 4, .inr (.inr (.inr (.inr ge))))) := k27 _ _ x_en 
    have a38 : f25 ke = some (.inr (6, [.ref kn, .ref vq, .int (nI ks)])) := k27 _ _ x_ke 
    have a39 : f25 kn = some (.inl (cy 0, 40, .inl kk)) := k27 _ _ x_kn 
    have a40 : f25 vq = some (.inl (cy 0, 40, .inl kv)) := k27 _ _ x_vq 
    have F41 : ∀ i9 : Nat, i9 < nn → f25 (fg i9) = some (.inr (4, [.int (kd i9), .ref (pt i9), .long (wg i9), .int (wd i9), .int (nI i9), .int (hs i9), .int (bf i9)])) := fun i9 h9 => k27 _ _ (hF i9 h9) 
    have F42 : ∀ i9 : Nat, i9 < nn → f25 (pt i9) = some (.inl (cy 1, (ln i9), .inr (.inl (pp i9)))) := fun i9 h9 => k27 _ _ (hP i9 h9) 
    have F43 : ∀ i9 : Nat, i9 < nf → f25 (fq i9) = some (.inr (3, [.ref (fk i9), .int (nI (fz i9))])) := fun i9 h9 => k27 _ _ (hFq i9 h9) 
    have F44 : ∀ i9 : Nat, i9 < nf → f25 (fk i9) = some (.inl (cy 0, 4, .inl (fc i9))) := fun i9 h9 => k27 _ _ (hFk i9 h9) 
    have F45 : ∀ i9 : Nat, i9 < nc → f25 (cn i9) = some (.inr (0, [.int (ce i9), .int (cm i9)])) := fun i9 h9 => k27 _ _ (hCn i9 h9) 
    have F46 : ∀ i9 : Nat, i9 < 4 → f25 (ea i9) = some (.inr (1, [.ref (ma i9), .int (nI (sq i9))])) := fun i9 h9 => k27 _ _ (hEa i9 h9) 
    have F47 : ∀ i9 : Nat, i9 < 4 → f25 (ma i9) = some (.inl (cy 0, 60, .inl (mb i9))) := fun i9 h9 => k27 _ _ (hMa i9 h9) 
    exact z_iret C hr rfl hz hS ⟨u1, u2, u3, gv, nl, gu, nn, ga, gr, fg, pt, kd, ln, pp, wg, wd, hs, bf, nf, gf, fq, fk, fz, fc, nc, gc, cn, ce, cm, sq, mb, ks, kk, kv, lk, (by simp [q_kind, hFa]), rfl, rfl, rfl, rfl, rfl, rfl, rfl, rfl, rfl, rfl, rfl, rfl, rfl, rfl, rfl, rfl, rfl, rfl, rfl, rfl, rfl, rfl, rfl, rfl, ⟨a28, a29, a30, a31, a32, a33, a34, a35, a36, a37, a38, a39, a40, F41, F42, F43, F44, F45, F46, F47, hn60, hl12, hf6, hc60, hs40, hga, hgr, hln, hk5, hk4, hfi, hpi, har, hgf, hfz, hgc, hG, hsq, hei, hmi, kne, hca, hcr, hlk⟩⟩ (Nat.le_of_ble_eq_true rfl) (Nat.le_of_ble_eq_true rfl) dX7_kind_23
abbrev rmX7_parts : Room := { frames := 1, cells := 0, slots := 0, locals := 22 }
set_option maxHeartbeats 4000000 in
set_option maxRecDepth 100000 in
theorem k_X7_parts (l : Launch) (D : va_G) (cy : Nat → ClassId) (f : zM) (o : Nat) (fa : Nat) (fi : Nat) (nu : Nat) (fm : Nat) (co : Nat) (en : Nat) (ke : Nat) (ev : Nat) (al : Nat) (ra : Nat) (kn : Nat) (vq : Nat) (ge : Nat → Option Nat) (ea : Nat → Nat) (ma : Nat → Nat) (u1 : Int32) (u2 : Int32) (u3 : Int32) (gv : Nat → Int32) (nl : Nat) (gu : Nat → Int32) (nn : Nat) (ga : Nat → Option Nat) (gr : Nat → Option Nat) (fg : Nat → Nat) (pt : Nat → Nat) (kd : Nat → Int32) (ln : Nat → Nat) (pp : Nat → Nat → Int64) (wg : Nat → Int64) (wd : Nat → Int32) (hs : Nat → Int32) (bf : Nat → Int32) (nf : Nat) (gf : Nat → Option Nat) (fq : Nat → Nat) (fk : Nat → Nat) (fz : Nat → Nat) (fc : Nat → Nat → Int32) (nc : Nat) (gc : Nat → Option Nat) (cn : Nat → Nat) (ce : Nat → Int32) (cm : Nat → Int32) (sq : Nat → Nat) (mb : Nat → Nat → Int32) (ks : Nat) (kk : Nat → Int32) (kv : Nat → Int32) (lk : Int64) (x : Int32)    (hI : zIX cy f o fa fi nu fm co en ke ev al ra kn vq ge ea ma u1 u2 u3 gv nl gu nn ga gr fg pt kd ln pp wg wd hs bf nf gf fq fk fz fc nc gc cn ce cm sq mb ks kk kv lk) : zCi l D cy yX7_parts cX7_parts 3 (Option.some Jvm.ClassFile.FieldType.int) rmX7_parts [.ref o, .int x] f (fun (r : Int32) (f1 : zM) => ∃ (u11 : Int32) (u21 : Int32) (u31 : Int32) (gv1 : Nat → Int32) (nl1 : Nat) (gu1 : Nat → Int32) (nn1 : Nat) (ga1 : Nat → Option Nat) (gr1 : Nat → Option Nat) (fg1 : Nat → Nat) (pt1 : Nat → Nat) (kd1 : Nat → Int32) (ln1 : Nat → Nat) (pp1 : Nat → Nat → Int64) (wg1 : Nat → Int64) (wd1 : Nat → Int32) (hs1 : Nat → Int32) (bf1 : Nat → Int32) (nf1 : Nat) (gf1 : Nat → Option Nat) (fq1 : Nat → Nat) (fk1 : Nat → Nat) (fz1 : Nat → Nat) (fc1 : Nat → Nat → Int32) (nc1 : Nat) (gc1 : Nat → Option Nat) (cn1 : Nat → Nat) (ce1 : Nat → Int32) (cm1 : Nat → Int32) (sq1 : Nat → Nat) (mb1 : Nat → Nat → Int32) (ks1 : Nat) (kk1 : Nat → Int32) (kv1 : Nat → Int32) (lk1 : Int64), r = (q_parts nn ln x) ∧ (u11 = u1) ∧ (u21 = u2) ∧ (u31 = u3) ∧ (gv1 = gv) ∧ (nl1 = nl) ∧ (gu1 = gu) ∧ (nn1 = nn) ∧ (kd1 = kd) ∧ (ln1 = ln) ∧ (pp1 = pp) ∧ (wd1 = wd) ∧ (hs1 = hs) ∧ (nf1 = nf) ∧ (fz1 = fz) ∧ (fc1 = fc) ∧ (nc1 = nc) ∧ (ce1 = ce) ∧ (cm1 = cm) ∧ (sq1 = sq) ∧ (mb1 = mb) ∧ (ks1 = ks) ∧ (kk1 = kk) ∧ (kv1 = kv) ∧ (lk1 = lk) ∧ zIX cy f1 o fa fi nu fm co en ke ev al ra kn vq ge ea ma u11 u21 u31 gv1 nl1 gu1 nn1 ga1 gr1 fg1 pt1 kd1 ln1 pp1 wg1 wd1 hs1 bf1 nf1 gf1 fq1 fk1 fz1 fc1 nc1 gc1 cn1 ce1 cm1 sq1 mb1 ks1 kk1 kv1 lk1) := by
  intro sz
  refine z_body (by decide +kernel) (Nat.le_of_ble_eq_true rfl) ?_
  intro p e s m below meth c ls C hr hin hsz hz hl
  subst hsz
  have hx := C.1
  have hb := C.2.1
  have hA : ∀ q, s.heap.size ≤ q → zA f s.heap.size q := fun q h => Or.inr h
  have hS : va_S (zA f s.heap.size) s.heap s.heap [] := va_S.rf
  have hl : lv_has ls 3 [(0, .ref o), (1, .int x)] := hl
  obtain ⟨x_o, x_fa, x_ev, x_fi, x_al, x_ra, x_nu, x_fm, x_co, x_en, x_ke, x_kn, x_vq, hF, hP, hFq, hFk, hCn, hEa, hMa, hn60, hl12, hf6, hc60, hs40, hga, hgr, hln, hk5, hk4, hfi, hpi, har, hgf, hfz, hgc, hG, hsq, hei, hmi, kne, hca, hcr, hlk⟩ := id hI
  refine lv_aload_n hx hb dX7_parts_0 rfl (lv_at hl 0 rfl) ?_
  refine z_get (v := .ref fi) C hz x_o zl7 mFX7_19 (by decide) rfl dX7_parts_1 ?_
  refine lv_iload_n hx hb dX7_parts_4 rfl (lv_at hl 1 rfl) ?_
  refine lv_i2l (v := x.toInt64) hx hb dX7_parts_5 rfl ?_
  rcases z_findi x nn with ⟨ja, hja, hva⟩ | hva
  · have hFa : isF nn x = true := isF_t hn60 hja hva
    have hIa : fI x = ja := fI_of (by omega) hva
    have hNa : ¬ x = (-1) := by rw [hva]; exact z_nim1 (by omega)
    refine z_callVq (As := [.long x.toInt64]) C hz hS hA hl (k_X5_find_A l D cy f fi al ra ga nn fg x.toInt64 ja x_fi x_al hn60 hga (by rw [hva, nI_l (by omega)]) hja) zyX5_find mMX7_130 x_fi zl5 rfl rfl (Nat.le_of_ble_eq_true rfl) ⟨Nat.le_of_ble_eq_true rfl, Nat.le_of_ble_eq_true rfl⟩ ⟨Nat.le_of_ble_eq_true rfl, Nat.le_of_ble_eq_true rfl⟩ dX7_parts_6 (fun r f1 H locs h2 hz hS => ?_)
    obtain ⟨rfl, k3⟩ := h2
    refine W.eq (g2 := F0 m 9 ls [.ref (fg ja)]) rfl ?_
    refine lv_astore_n (lv' := [(2, .ref (fg ja)), (0, .ref o), (1, .int x)]) hx hb dX7_parts_9 rfl hl (by decide) rfl (fun ls hl => ?_)
    refine lv_aload_n hx hb dX7_parts_10 rfl (lv_at hl 0 rfl) ?_
    refine lv_ifnonnull (tgt := 19) hx hb dX7_parts_11 (by decide) ?_
    refine lv_aload_n hx hb dX7_parts_19 rfl (lv_at hl 0 rfl) ?_
    have F4 : ∀ i9 : Nat, i9 < nn → f1 (fg i9) = some (.inr (4, [.int (kd i9), .ref (pt i9), .long (wg i9), .int (wd i9), .int (nI i9), .int (hs i9), .int (bf i9)])) := fun i9 h9 => k3 _ _ (hF i9 h9) 
    have a5 : f1 (fg ja) = some (.inr (4, [.int (kd ja), .ref (pt ja), .long (wg ja), .int (wd ja), .int (nI ja), .int (hs ja), .int (bf ja)])) := F4 ja hja
    refine z_getN (v := .ref (pt ja)) C hz a5 zl4 mFNX7_150 (by decide) rfl dX7_parts_20 ?_
    have F6 : ∀ i9 : Nat, i9 < nn → f1 (pt i9) = some (.inl (cy 1, (ln i9), .inr (.inl (pp i9)))) := fun i9 h9 => k3 _ _ (hP i9 h9) 
    have a7 : f1 (pt ja) = some (.inl (cy 1, (ln ja), .inr (.inl (pp ja)))) := F6 ja hja
    refine z_alen (v := nI (ln ja)) 1 C hz a7 rfl rfl dX7_parts_23 ?_
    have a8 : f1 o = some (.inr (7, [.ref fa, .ref fi, .ref nu, .int (nI nl), .ref fm, .int (nI nf), .ref co, .int (nI nc), .ref en, .ref ke, .long lk])) := k3 _ _ x_o 
    have a9 : f1 fa = some (.inr (2, [.int u1, .int u2, .int u3, .ref ev])) := k3 _ _ x_fa 
    have a10 : f1 ev = some (.inl (cy 0, 8, .inl gv)) := k3 _ _ x_ev 
    have a11 : f1 fi = some (.inr (5, [.ref al, .ref ra, .int (nI nn)])) := k3 _ _ x_fi 
    have a12 : f1 al = some (.inl (cy 3, 60, .inr (.inr (.inr (.inr ga))))) := k3 _ _ x_al 
    have a13 : f1 ra = some (.inl (cy 3, 60, .inr (.inr (.inr (.inr gr))))) := k3 _ _ x_ra 
    have a14 : f1 nu = some (.inl (cy 0, 12, .inl gu)) := k3 _ _ x_nu 
    have a15 : f1 fm = some (.inl (cy 4, 6, .inr (.inr (.inr (.inr gf))))) := k3 _ _ x_fm 
    have a16 : f1 co = some (.inl (cy 5, 60, .inr (.inr (.inr (.inr gc))))) := k3 _ _ x_co 
    have a17 : f1 en = some (.inl (cy 6, 4, .inr (.inr (.inr (.inr ge))))) := k3 _ _ x_en 
    have a18 : f1 ke = some (.inr (6, [.ref kn, .ref vq, .int (nI ks)])) := k3 _ _ x_ke 
    have a19 : f1 kn = some (.inl (cy 0, 40, .inl kk)) := k3 _ _ x_kn 
    have a20 : f1 vq = some (.inl (cy 0, 40, .inl kv)) := k3 _ _ x_vq 
    have F21 : ∀ i9 : Nat, i9 < nf → f1 (fq i9) = some (.inr (3, [.ref (fk i9), .int (nI (fz i9))])) := fun i9 h9 => k3 _ _ (hFq i9 h9) 
    have F22 : ∀ i9 : Nat, i9 < nf → f1 (fk i9) = some (.inl (cy 0, 4, .inl (fc i9))) := fun i9 h9 => k3 _ _ (hFk i9 h9) 
    have F23 : ∀ i9 : Nat, i9 < nc → f1 (cn i9) = some (.inr (0, [.int (ce i9), .int (cm i9)])) := fun i9 h9 => k3 _ _ (hCn i9 h9) 
    have F24 : ∀ i9 : Nat, i9 < 4 → f1 (ea i9) = some (.inr (1, [.ref (ma i9), .int (nI (sq i9))])) := fun i9 h9 => k3 _ _ (hEa i9 h9) 
    have F25 : ∀ i9 : Nat, i9 < 4 → f1 (ma i9) = some (.inl (cy 0, 60, .inl (mb i9))) := fun i9 h9 => k3 _ _ (hMa i9 h9) 
    exact z_iret C hr rfl hz hS ⟨u1, u2, u3, gv, nl, gu, nn, ga, gr, fg, pt, kd, ln, pp, wg, wd, hs, bf, nf, gf, fq, fk, fz, fc, nc, gc, cn, ce, cm, sq, mb, ks, kk, kv, lk, (by simp [q_parts, hFa, hIa, hNa]), rfl, rfl, rfl, rfl, rfl, rfl, rfl, rfl, rfl, rfl, rfl, rfl, rfl, rfl, rfl, rfl, rfl, rfl, rfl, rfl, rfl, rfl, rfl, rfl, ⟨a8, a9, a10, a11, a12, a13, a14, a15, a16, a17, a18, a19, a20, F4, F6, F21, F22, F23, F24, F25, hn60, hl12, hf6, hc60, hs40, hga, hgr, hln, hk5, hk4, hfi, hpi, har, hgf, hfz, hgc, hG, hsq, hei, hmi, kne, hca, hcr, hlk⟩⟩ (Nat.le_of_ble_eq_true rfl) (Nat.le_of_ble_eq_true rfl) dX7_parts_24
  · have hFa : isF nn x = false := isF_f hn60 hva
    refine z_callVq (As := [.long x.toInt64]) C hz hS hA hl (k_X5_find_B l D cy f fi al ra nn x.toInt64 x_fi hn60 (fun i9 h9 q9 => hva i9 h9 (z_toL (by omega) q9))) zyX5_find mMX7_130 x_fi zl5 rfl rfl (Nat.le_of_ble_eq_true rfl) ⟨Nat.le_of_ble_eq_true rfl, Nat.le_of_ble_eq_true rfl⟩ ⟨Nat.le_of_ble_eq_true rfl, Nat.le_of_ble_eq_true rfl⟩ dX7_parts_6 (fun r f26 H locs h27 hz hS => ?_)
    obtain ⟨rfl, k28⟩ := h27
    refine W.eq (g2 := F0 m 9 ls [.null]) rfl ?_
    refine lv_astore_nN (lv' := [(2, .null), (0, .ref o), (1, .int x)]) hx hb dX7_parts_9 rfl hl (by decide) rfl (fun ls hl => ?_)
    refine lv_aload_nN hx hb dX7_parts_10 rfl (lv_at hl 0 rfl) ?_
    refine lv_ifnonnullN hx hb dX7_parts_11 ?_
    refine lv_bipush (v := (-2)) hx hb dX7_parts_14 (by decide) ?_
    refine lv_goto (tgt := 24) hx hb dX7_parts_16 (by decide) ?_
    have a29 : f26 o = some (.inr (7, [.ref fa, .ref fi, .ref nu, .int (nI nl), .ref fm, .int (nI nf), .ref co, .int (nI nc), .ref en, .ref ke, .long lk])) := k28 _ _ x_o 
    have a30 : f26 fa = some (.inr (2, [.int u1, .int u2, .int u3, .ref ev])) := k28 _ _ x_fa 
    have a31 : f26 ev = some (.inl (cy 0, 8, .inl gv)) := k28 _ _ x_ev 
    have a32 : f26 fi = some (.inr (5, [.ref al, .ref ra, .int (nI nn)])) := k28 _ _ x_fi 
    have a33 : f26 al = some (.inl (cy 3, 60, .inr (.inr (.inr (.inr ga))))) := k28 _ _ x_al 
    have a34 : f26 ra = some (.inl (cy 3, 60, .inr (.inr (.inr (.inr gr))))) := k28 _ _ x_ra 
    have a35 : f26 nu = some (.inl (cy 0, 12, .inl gu)) := k28 _ _ x_nu 
    have a36 : f26 fm = some (.inl (cy 4, 6, .inr (.inr (.inr (.inr gf))))) := k28 _ _ x_fm 
    have a37 : f26 co = some (.inl (cy 5, 60, .inr (.inr (.inr (.inr gc))))) := k28 _ _ x_co 
    have a38 : f26 en = some (.inl (cy 6, 4, .inr (.inr (.inr (.inr ge))))) := k28 _ _ x_en 
    have a39 : f26 ke = some (.inr (6, [.ref kn, .ref vq, .int (nI ks)])) := k28 _ _ x_ke 
    have a40 : f26 kn = some (.inl (cy 0, 40, .inl kk)) := k28 _ _ x_kn 
    have a41 : f26 vq = some (.inl (cy 0, 40, .inl kv)) := k28 _ _ x_vq 
    have F42 : ∀ i9 : Nat, i9 < nn → f26 (fg i9) = some (.inr (4, [.int (kd i9), .ref (pt i9), .long (wg i9), .int (wd i9), .int (nI i9), .int (hs i9), .int (bf i9)])) := fun i9 h9 => k28 _ _ (hF i9 h9) 
    have F43 : ∀ i9 : Nat, i9 < nn → f26 (pt i9) = some (.inl (cy 1, (ln i9), .inr (.inl (pp i9)))) := fun i9 h9 => k28 _ _ (hP i9 h9) 
    have F44 : ∀ i9 : Nat, i9 < nf → f26 (fq i9) = some (.inr (3, [.ref (fk i9), .int (nI (fz i9))])) := fun i9 h9 => k28 _ _ (hFq i9 h9) 
    have F45 : ∀ i9 : Nat, i9 < nf → f26 (fk i9) = some (.inl (cy 0, 4, .inl (fc i9))) := fun i9 h9 => k28 _ _ (hFk i9 h9) 
    have F46 : ∀ i9 : Nat, i9 < nc → f26 (cn i9) = some (.inr (0, [.int (ce i9), .int (cm i9)])) := fun i9 h9 => k28 _ _ (hCn i9 h9) 
    have F47 : ∀ i9 : Nat, i9 < 4 → f26 (ea i9) = some (.inr (1, [.ref (ma i9), .int (nI (sq i9))])) := fun i9 h9 => k28 _ _ (hEa i9 h9) 
    have F48 : ∀ i9 : Nat, i9 < 4 → f26 (ma i9) = some (.inl (cy 0, 60, .inl (mb i9))) := fun i9 h9 => k28 _ _ (hMa i9 h9) 
    exact z_iret C hr rfl hz hS ⟨u1, u2, u3, gv, nl, gu, nn, ga, gr, fg, pt, kd, ln, pp, wg, wd, hs, bf, nf, gf, fq, fk, fz, fc, nc, gc, cn, ce, cm, sq, mb, ks, kk, kv, lk, (by simp [q_parts, hFa]), rfl, rfl, rfl, rfl, rfl, rfl, rfl, rfl, rfl, rfl, rfl, rfl, rfl, rfl, rfl, rfl, rfl, rfl, rfl, rfl, rfl, rfl, rfl, rfl, ⟨a29, a30, a31, a32, a33, a34, a35, a36, a37, a38, a39, a40, a41, F42, F43, F44, F45, F46, F47, F48, hn60, hl12, hf6, hc60, hs40, hga, hgr, hln, hk5, hk4, hfi, hpi, har, hgf, hfz, hgc, hG, hsq, hei, hmi, kne, hca, hcr, hlk⟩⟩ (Nat.le_of_ble_eq_true rfl) (Nat.le_of_ble_eq_true rfl) dX7_parts_24
abbrev rmX7_part : Room := { frames := 1, cells := 0, slots := 0, locals := 22 }
set_option maxHeartbeats 4000000 in
set_option maxRecDepth 100000 in
theorem k_X7_part (l : Launch) (D : va_G) (cy : Nat → ClassId) (f : zM) (o : Nat) (fa : Nat) (fi : Nat) (nu : Nat) (fm : Nat) (co : Nat) (en : Nat) (ke : Nat) (ev : Nat) (al : Nat) (ra : Nat) (kn : Nat) (vq : Nat) (ge : Nat → Option Nat) (ea : Nat → Nat) (ma : Nat → Nat) (u1 : Int32) (u2 : Int32) (u3 : Int32) (gv : Nat → Int32) (nl : Nat) (gu : Nat → Int32) (nn : Nat) (ga : Nat → Option Nat) (gr : Nat → Option Nat) (fg : Nat → Nat) (pt : Nat → Nat) (kd : Nat → Int32) (ln : Nat → Nat) (pp : Nat → Nat → Int64) (wg : Nat → Int64) (wd : Nat → Int32) (hs : Nat → Int32) (bf : Nat → Int32) (nf : Nat) (gf : Nat → Option Nat) (fq : Nat → Nat) (fk : Nat → Nat) (fz : Nat → Nat) (fc : Nat → Nat → Int32) (nc : Nat) (gc : Nat → Option Nat) (cn : Nat → Nat) (ce : Nat → Int32) (cm : Nat → Int32) (sq : Nat → Nat) (mb : Nat → Nat → Int32) (ks : Nat) (kk : Nat → Int32) (kv : Nat → Int32) (lk : Int64) (x : Int32) (y : Int32)    (hI : zIX cy f o fa fi nu fm co en ke ev al ra kn vq ge ea ma u1 u2 u3 gv nl gu nn ga gr fg pt kd ln pp wg wd hs bf nf gf fq fk fz fc nc gc cn ce cm sq mb ks kk kv lk) : zCl l D cy yX7_part cX7_part 4 (Option.some Jvm.ClassFile.FieldType.long) rmX7_part [.ref o, .int x, .int y] f (fun (r : Int64) (f1 : zM) => ∃ (u11 : Int32) (u21 : Int32) (u31 : Int32) (gv1 : Nat → Int32) (nl1 : Nat) (gu1 : Nat → Int32) (nn1 : Nat) (ga1 : Nat → Option Nat) (gr1 : Nat → Option Nat) (fg1 : Nat → Nat) (pt1 : Nat → Nat) (kd1 : Nat → Int32) (ln1 : Nat → Nat) (pp1 : Nat → Nat → Int64) (wg1 : Nat → Int64) (wd1 : Nat → Int32) (hs1 : Nat → Int32) (bf1 : Nat → Int32) (nf1 : Nat) (gf1 : Nat → Option Nat) (fq1 : Nat → Nat) (fk1 : Nat → Nat) (fz1 : Nat → Nat) (fc1 : Nat → Nat → Int32) (nc1 : Nat) (gc1 : Nat → Option Nat) (cn1 : Nat → Nat) (ce1 : Nat → Int32) (cm1 : Nat → Int32) (sq1 : Nat → Nat) (mb1 : Nat → Nat → Int32) (ks1 : Nat) (kk1 : Nat → Int32) (kv1 : Nat → Int32) (lk1 : Int64), r = (q_part nn ln pp x y) ∧ (u11 = u1) ∧ (u21 = u2) ∧ (u31 = u3) ∧ (gv1 = gv) ∧ (nl1 = nl) ∧ (gu1 = gu) ∧ (nn1 = nn) ∧ (kd1 = kd) ∧ (ln1 = ln) ∧ (pp1 = pp) ∧ (wd1 = wd) ∧ (hs1 = hs) ∧ (nf1 = nf) ∧ (fz1 = fz) ∧ (fc1 = fc) ∧ (nc1 = nc) ∧ (ce1 = ce) ∧ (cm1 = cm) ∧ (sq1 = sq) ∧ (mb1 = mb) ∧ (ks1 = ks) ∧ (kk1 = kk) ∧ (kv1 = kv) ∧ (lk1 = lk) ∧ zIX cy f1 o fa fi nu fm co en ke ev al ra kn vq ge ea ma u11 u21 u31 gv1 nl1 gu1 nn1 ga1 gr1 fg1 pt1 kd1 ln1 pp1 wg1 wd1 hs1 bf1 nf1 gf1 fq1 fk1 fz1 fc1 nc1 gc1 cn1 ce1 cm1 sq1 mb1 ks1 kk1 kv1 lk1) := by
  intro sz
  refine z_body (by decide +kernel) (Nat.le_of_ble_eq_true rfl) ?_
  intro p e s m below meth c ls C hr hin hsz hz hl
  subst hsz
  have hx := C.1
  have hb := C.2.1
  have hA : ∀ q, s.heap.size ≤ q → zA f s.heap.size q := fun q h => Or.inr h
  have hS : va_S (zA f s.heap.size) s.heap s.heap [] := va_S.rf
  have hl : lv_has ls 4 [(0, .ref o), (1, .int x), (2, .int y)] := hl
  obtain ⟨x_o, x_fa, x_ev, x_fi, x_al, x_ra, x_nu, x_fm, x_co, x_en, x_ke, x_kn, x_vq, hF, hP, hFq, hFk, hCn, hEa, hMa, hn60, hl12, hf6, hc60, hs40, hga, hgr, hln, hk5, hk4, hfi, hpi, har, hgf, hfz, hgc, hG, hsq, hei, hmi, kne, hca, hcr, hlk⟩ := id hI
  refine lv_aload_n hx hb dX7_part_0 rfl (lv_at hl 0 rfl) ?_
  refine z_get (v := .ref fi) C hz x_o zl7 mFX7_19 (by decide) rfl dX7_part_1 ?_
  refine lv_iload_n hx hb dX7_part_4 rfl (lv_at hl 1 rfl) ?_
  refine lv_i2l (v := x.toInt64) hx hb dX7_part_5 rfl ?_
  rcases z_findi x nn with ⟨ja, hja, hva⟩ | hva
  · have hFa : isF nn x = true := isF_t hn60 hja hva
    have hIa : fI x = ja := fI_of (by omega) hva
    have hNa : ¬ x = (-1) := by rw [hva]; exact z_nim1 (by omega)
    refine z_callVq (As := [.long x.toInt64]) C hz hS hA hl (k_X5_find_A l D cy f fi al ra ga nn fg x.toInt64 ja x_fi x_al hn60 hga (by rw [hva, nI_l (by omega)]) hja) zyX5_find mMX7_130 x_fi zl5 rfl rfl (Nat.le_of_ble_eq_true rfl) ⟨Nat.le_of_ble_eq_true rfl, Nat.le_of_ble_eq_true rfl⟩ ⟨Nat.le_of_ble_eq_true rfl, Nat.le_of_ble_eq_true rfl⟩ dX7_part_6 (fun r f1 H locs h2 hz hS => ?_)
    obtain ⟨rfl, k3⟩ := h2
    refine W.eq (g2 := F0 m 9 ls [.ref (fg ja)]) rfl ?_
    refine lv_astore_n (lv' := [(3, .ref (fg ja)), (0, .ref o), (1, .int x), (2, .int y)]) hx hb dX7_part_9 rfl hl (by decide) rfl (fun ls hl => ?_)
    refine lv_aload_n hx hb dX7_part_10 rfl (lv_at hl 0 rfl) ?_
    refine lv_ifnull hx hb dX7_part_11 ?_
    refine lv_iload_n hx hb dX7_part_14 rfl (lv_at hl 3 rfl) ?_
    refine lv_if_lt (tgt := 27) hx hb dX7_part_15 (by decide) (fun c4 => ?_) (fun c4 => ?_)
    · refine lv_ldc2 (v := (-3000000000000000000)) hx hb C.2.2.2.1 (C.2.2.2.2.1 _ mKX7_154) dX7_part_27 ?_
      have a5 : f1 o = some (.inr (7, [.ref fa, .ref fi, .ref nu, .int (nI nl), .ref fm, .int (nI nf), .ref co, .int (nI nc), .ref en, .ref ke, .long lk])) := k3 _ _ x_o 
      have a6 : f1 fa = some (.inr (2, [.int u1, .int u2, .int u3, .ref ev])) := k3 _ _ x_fa 
      have a7 : f1 ev = some (.inl (cy 0, 8, .inl gv)) := k3 _ _ x_ev 
      have a8 : f1 fi = some (.inr (5, [.ref al, .ref ra, .int (nI nn)])) := k3 _ _ x_fi 
      have a9 : f1 al = some (.inl (cy 3, 60, .inr (.inr (.inr (.inr ga))))) := k3 _ _ x_al 
      have a10 : f1 ra = some (.inl (cy 3, 60, .inr (.inr (.inr (.inr gr))))) := k3 _ _ x_ra 
      have a11 : f1 nu = some (.inl (cy 0, 12, .inl gu)) := k3 _ _ x_nu 
      have a12 : f1 fm = some (.inl (cy 4, 6, .inr (.inr (.inr (.inr gf))))) := k3 _ _ x_fm 
      have a13 : f1 co = some (.inl (cy 5, 60, .inr (.inr (.inr (.inr gc))))) := k3 _ _ x_co 
      have a14 : f1 en = some (.inl (cy 6, 4, .inr (.inr (.inr (.inr ge))))) := k3 _ _ x_en 
      have a15 : f1 ke = some (.inr (6, [.ref kn, .ref vq, .int (nI ks)])) := k3 _ _ x_ke 
      have a16 : f1 kn = some (.inl (cy 0, 40, .inl kk)) := k3 _ _ x_kn 
      have a17 : f1 vq = some (.inl (cy 0, 40, .inl kv)) := k3 _ _ x_vq 
      have F18 : ∀ i9 : Nat, i9 < nn → f1 (fg i9) = some (.inr (4, [.int (kd i9), .ref (pt i9), .long (wg i9), .int (wd i9), .int (nI i9), .int (hs i9), .int (bf i9)])) := fun i9 h9 => k3 _ _ (hF i9 h9) 
      have F19 : ∀ i9 : Nat, i9 < nn → f1 (pt i9) = some (.inl (cy 1, (ln i9), .inr (.inl (pp i9)))) := fun i9 h9 => k3 _ _ (hP i9 h9) 
      have F20 : ∀ i9 : Nat, i9 < nf → f1 (fq i9) = some (.inr (3, [.ref (fk i9), .int (nI (fz i9))])) := fun i9 h9 => k3 _ _ (hFq i9 h9) 
      have F21 : ∀ i9 : Nat, i9 < nf → f1 (fk i9) = some (.inl (cy 0, 4, .inl (fc i9))) := fun i9 h9 => k3 _ _ (hFk i9 h9) 
      have F22 : ∀ i9 : Nat, i9 < nc → f1 (cn i9) = some (.inr (0, [.int (ce i9), .int (cm i9)])) := fun i9 h9 => k3 _ _ (hCn i9 h9) 
      have F23 : ∀ i9 : Nat, i9 < 4 → f1 (ea i9) = some (.inr (1, [.ref (ma i9), .int (nI (sq i9))])) := fun i9 h9 => k3 _ _ (hEa i9 h9) 
      have F24 : ∀ i9 : Nat, i9 < 4 → f1 (ma i9) = some (.inl (cy 0, 60, .inl (mb i9))) := fun i9 h9 => k3 _ _ (hMa i9 h9) 
      exact z_lret C hr hz hS ⟨u1, u2, u3, gv, nl, gu, nn, ga, gr, fg, pt, kd, ln, pp, wg, wd, hs, bf, nf, gf, fq, fk, fz, fc, nc, gc, cn, ce, cm, sq, mb, ks, kk, kv, lk, (by simp [q_part, hFa, hIa, hNa, c4]), rfl, rfl, rfl, rfl, rfl, rfl, rfl, rfl, rfl, rfl, rfl, rfl, rfl, rfl, rfl, rfl, rfl, rfl, rfl, rfl, rfl, rfl, rfl, rfl, ⟨a5, a6, a7, a8, a9, a10, a11, a12, a13, a14, a15, a16, a17, F18, F19, F20, F21, F22, F23, F24, hn60, hl12, hf6, hc60, hs40, hga, hgr, hln, hk5, hk4, hfi, hpi, har, hgf, hfz, hgc, hG, hsq, hei, hmi, kne, hca, hcr, hlk⟩⟩ (Nat.le_of_ble_eq_true rfl) (Nat.le_of_ble_eq_true rfl) dX7_part_30
    · refine lv_iload_n hx hb dX7_part_18 rfl (lv_at hl 3 rfl) ?_
      refine lv_aload_n hx hb dX7_part_19 rfl (lv_at hl 0 rfl) ?_
      have F25 : ∀ i9 : Nat, i9 < nn → f1 (fg i9) = some (.inr (4, [.int (kd i9), .ref (pt i9), .long (wg i9), .int (wd i9), .int (nI i9), .int (hs i9), .int (bf i9)])) := fun i9 h9 => k3 _ _ (hF i9 h9) 
      have a26 : f1 (fg ja) = some (.inr (4, [.int (kd ja), .ref (pt ja), .long (wg ja), .int (wd ja), .int (nI ja), .int (hs ja), .int (bf ja)])) := F25 ja hja
      refine z_getN (v := .ref (pt ja)) C hz a26 zl4 mFNX7_150 (by decide) rfl dX7_part_20 ?_
      have F27 : ∀ i9 : Nat, i9 < nn → f1 (pt i9) = some (.inl (cy 1, (ln i9), .inr (.inl (pp i9)))) := fun i9 h9 => k3 _ _ (hP i9 h9) 
      have a28 : f1 (pt ja) = some (.inl (cy 1, (ln ja), .inr (.inl (pp ja)))) := F27 ja hja
      refine z_alen (v := nI (ln ja)) 1 C hz a28 rfl rfl dX7_part_23 ?_
      refine lv_icmp_lt (tgt := 31) hx hb dX7_part_24 (by decide) (fun c29 => ?_) (fun c29 => ?_)
      · have hYl : ¬ nI (ln ja) ≤ y := Int32.not_le.mpr c29
        obtain ⟨kx, hkx, hyk⟩ : ∃ k, k < ln ja ∧ y = nI k := by
          have h9 := hln ja hja
          exact z_ixl c4 hYl (by omega)
        have hIy : fI y = kx := fI_of (by have h9 := hln ja hja; omega) hyk
        refine lv_aload_n hx hb dX7_part_31 rfl (lv_at hl 0 rfl) ?_
        refine z_getN (v := .ref (pt ja)) C hz a26 zl4 mFNX7_150 (by decide) rfl dX7_part_32 ?_
        refine lv_iload_n hx hb dX7_part_35 rfl (lv_at hl 3 rfl) ?_
        refine z_lald kx C hz a28 hyk hkx (by have h9 := hln ja hja; omega) dX7_part_36 ?_
        have a30 : f1 o = some (.inr (7, [.ref fa, .ref fi, .ref nu, .int (nI nl), .ref fm, .int (nI nf), .ref co, .int (nI nc), .ref en, .ref ke, .long lk])) := k3 _ _ x_o 
        have a31 : f1 fa = some (.inr (2, [.int u1, .int u2, .int u3, .ref ev])) := k3 _ _ x_fa 
        have a32 : f1 ev = some (.inl (cy 0, 8, .inl gv)) := k3 _ _ x_ev 
        have a33 : f1 fi = some (.inr (5, [.ref al, .ref ra, .int (nI nn)])) := k3 _ _ x_fi 
        have a34 : f1 al = some (.inl (cy 3, 60, .inr (.inr (.inr (.inr ga))))) := k3 _ _ x_al 
        have a35 : f1 ra = some (.inl (cy 3, 60, .inr (.inr (.inr (.inr gr))))) := k3 _ _ x_ra 
        have a36 : f1 nu = some (.inl (cy 0, 12, .inl gu)) := k3 _ _ x_nu 
        have a37 : f1 fm = some (.inl (cy 4, 6, .inr (.inr (.inr (.inr gf))))) := k3 _ _ x_fm 
        have a38 : f1 co = some (.inl (cy 5, 60, .inr (.inr (.inr (.inr gc))))) := k3 _ _ x_co 
        have a39 : f1 en = some (.inl (cy 6, 4, .inr (.inr (.inr (.inr ge))))) := k3 _ _ x_en 
        have a40 : f1 ke = some (.inr (6, [.ref kn, .ref vq, .int (nI ks)])) := k3 _ _ x_ke 
        have a41 : f1 kn = some (.inl (cy 0, 40, .inl kk)) := k3 _ _ x_kn 
        have a42 : f1 vq = some (.inl (cy 0, 40, .inl kv)) := k3 _ _ x_vq 
        have F43 : ∀ i9 : Nat, i9 < nf → f1 (fq i9) = some (.inr (3, [.ref (fk i9), .int (nI (fz i9))])) := fun i9 h9 => k3 _ _ (hFq i9 h9) 
        have F44 : ∀ i9 : Nat, i9 < nf → f1 (fk i9) = some (.inl (cy 0, 4, .inl (fc i9))) := fun i9 h9 => k3 _ _ (hFk i9 h9) 
        have F45 : ∀ i9 : Nat, i9 < nc → f1 (cn i9) = some (.inr (0, [.int (ce i9), .int (cm i9)])) := fun i9 h9 => k3 _ _ (hCn i9 h9) 
        have F46 : ∀ i9 : Nat, i9 < 4 → f1 (ea i9) = some (.inr (1, [.ref (ma i9), .int (nI (sq i9))])) := fun i9 h9 => k3 _ _ (hEa i9 h9) 
        have F47 : ∀ i9 : Nat, i9 < 4 → f1 (ma i9) = some (.inl (cy 0, 60, .inl (mb i9))) := fun i9 h9 => k3 _ _ (hMa i9 h9) 
        exact z_lret C hr hz hS ⟨u1, u2, u3, gv, nl, gu, nn, ga, gr, fg, pt, kd, ln, pp, wg, wd, hs, bf, nf, gf, fq, fk, fz, fc, nc, gc, cn, ce, cm, sq, mb, ks, kk, kv, lk, (by simp [q_part, hFa, hIa, hNa, hYl, hIy, c4, c29]), rfl, rfl, rfl, rfl, rfl, rfl, rfl, rfl, rfl, rfl, rfl, rfl, rfl, rfl, rfl, rfl, rfl, rfl, rfl, rfl, rfl, rfl, rfl, rfl, ⟨a30, a31, a32, a33, a34, a35, a36, a37, a38, a39, a40, a41, a42, F25, F27, F43, F44, F45, F46, F47, hn60, hl12, hf6, hc60, hs40, hga, hgr, hln, hk5, hk4, hfi, hpi, har, hgf, hfz, hgc, hG, hsq, hei, hmi, kne, hca, hcr, hlk⟩⟩ (Nat.le_of_ble_eq_true rfl) (Nat.le_of_ble_eq_true rfl) dX7_part_37
      · have hYl : nI (ln ja) ≤ y := Int32.not_lt.mp c29
        refine lv_ldc2 (v := (-3000000000000000000)) hx hb C.2.2.2.1 (C.2.2.2.2.1 _ mKX7_154) dX7_part_27 ?_
        have a48 : f1 o = some (.inr (7, [.ref fa, .ref fi, .ref nu, .int (nI nl), .ref fm, .int (nI nf), .ref co, .int (nI nc), .ref en, .ref ke, .long lk])) := k3 _ _ x_o 
        have a49 : f1 fa = some (.inr (2, [.int u1, .int u2, .int u3, .ref ev])) := k3 _ _ x_fa 
        have a50 : f1 ev = some (.inl (cy 0, 8, .inl gv)) := k3 _ _ x_ev 
        have a51 : f1 fi = some (.inr (5, [.ref al, .ref ra, .int (nI nn)])) := k3 _ _ x_fi 
        have a52 : f1 al = some (.inl (cy 3, 60, .inr (.inr (.inr (.inr ga))))) := k3 _ _ x_al 
        have a53 : f1 ra = some (.inl (cy 3, 60, .inr (.inr (.inr (.inr gr))))) := k3 _ _ x_ra 
        have a54 : f1 nu = some (.inl (cy 0, 12, .inl gu)) := k3 _ _ x_nu 
        have a55 : f1 fm = some (.inl (cy 4, 6, .inr (.inr (.inr (.inr gf))))) := k3 _ _ x_fm 
        have a56 : f1 co = some (.inl (cy 5, 60, .inr (.inr (.inr (.inr gc))))) := k3 _ _ x_co 
        have a57 : f1 en = some (.inl (cy 6, 4, .inr (.inr (.inr (.inr ge))))) := k3 _ _ x_en 
        have a58 : f1 ke = some (.inr (6, [.ref kn, .ref vq, .int (nI ks)])) := k3 _ _ x_ke 
        have a59 : f1 kn = some (.inl (cy 0, 40, .inl kk)) := k3 _ _ x_kn 
        have a60 : f1 vq = some (.inl (cy 0, 40, .inl kv)) := k3 _ _ x_vq 
        have F61 : ∀ i9 : Nat, i9 < nf → f1 (fq i9) = some (.inr (3, [.ref (fk i9), .int (nI (fz i9))])) := fun i9 h9 => k3 _ _ (hFq i9 h9) 
        have F62 : ∀ i9 : Nat, i9 < nf → f1 (fk i9) = some (.inl (cy 0, 4, .inl (fc i9))) := fun i9 h9 => k3 _ _ (hFk i9 h9) 
        have F63 : ∀ i9 : Nat, i9 < nc → f1 (cn i9) = some (.inr (0, [.int (ce i9), .int (cm i9)])) := fun i9 h9 => k3 _ _ (hCn i9 h9) 
        have F64 : ∀ i9 : Nat, i9 < 4 → f1 (ea i9) = some (.inr (1, [.ref (ma i9), .int (nI (sq i9))])) := fun i9 h9 => k3 _ _ (hEa i9 h9) 
        have F65 : ∀ i9 : Nat, i9 < 4 → f1 (ma i9) = some (.inl (cy 0, 60, .inl (mb i9))) := fun i9 h9 => k3 _ _ (hMa i9 h9) 
        exact z_lret C hr hz hS ⟨u1, u2, u3, gv, nl, gu, nn, ga, gr, fg, pt, kd, ln, pp, wg, wd, hs, bf, nf, gf, fq, fk, fz, fc, nc, gc, cn, ce, cm, sq, mb, ks, kk, kv, lk, (by simp [q_part, hFa, hIa, hNa, hYl, c4, c29]), rfl, rfl, rfl, rfl, rfl, rfl, rfl, rfl, rfl, rfl, rfl, rfl, rfl, rfl, rfl, rfl, rfl, rfl, rfl, rfl, rfl, rfl, rfl, rfl, ⟨a48, a49, a50, a51, a52, a53, a54, a55, a56, a57, a58, a59, a60, F25, F27, F61, F62, F63, F64, F65, hn60, hl12, hf6, hc60, hs40, hga, hgr, hln, hk5, hk4, hfi, hpi, har, hgf, hfz, hgc, hG, hsq, hei, hmi, kne, hca, hcr, hlk⟩⟩ (Nat.le_of_ble_eq_true rfl) (Nat.le_of_ble_eq_true rfl) dX7_part_30
  · have hFa : isF nn x = false := isF_f hn60 hva
    refine z_callVq (As := [.long x.toInt64]) C hz hS hA hl (k_X5_find_B l D cy f fi al ra nn x.toInt64 x_fi hn60 (fun i9 h9 q9 => hva i9 h9 (z_toL (by omega) q9))) zyX5_find mMX7_130 x_fi zl5 rfl rfl (Nat.le_of_ble_eq_true rfl) ⟨Nat.le_of_ble_eq_true rfl, Nat.le_of_ble_eq_true rfl⟩ ⟨Nat.le_of_ble_eq_true rfl, Nat.le_of_ble_eq_true rfl⟩ dX7_part_6 (fun r f66 H locs h67 hz hS => ?_)
    obtain ⟨rfl, k68⟩ := h67
    refine W.eq (g2 := F0 m 9 ls [.null]) rfl ?_
    refine lv_astore_nN (lv' := [(3, .null), (0, .ref o), (1, .int x), (2, .int y)]) hx hb dX7_part_9 rfl hl (by decide) rfl (fun ls hl => ?_)
    refine lv_aload_nN hx hb dX7_part_10 rfl (lv_at hl 0 rfl) ?_
    refine lv_ifnullN (tgt := 27) hx hb dX7_part_11 (by decide) ?_
    refine lv_ldc2 (v := (-3000000000000000000)) hx hb C.2.2.2.1 (C.2.2.2.2.1 _ mKX7_154) dX7_part_27 ?_
    have a69 : f66 o = some (.inr (7, [.ref fa, .ref fi, .ref nu, .int (nI nl), .ref fm, .int (nI nf), .ref co, .int (nI nc), .ref en, .ref ke, .long lk])) := k68 _ _ x_o 
    have a70 : f66 fa = some (.inr (2, [.int u1, .int u2, .int u3, .ref ev])) := k68 _ _ x_fa 
    have a71 : f66 ev = some (.inl (cy 0, 8, .inl gv)) := k68 _ _ x_ev 
    have a72 : f66 fi = some (.inr (5, [.ref al, .ref ra, .int (nI nn)])) := k68 _ _ x_fi 
    have a73 : f66 al = some (.inl (cy 3, 60, .inr (.inr (.inr (.inr ga))))) := k68 _ _ x_al 
    have a74 : f66 ra = some (.inl (cy 3, 60, .inr (.inr (.inr (.inr gr))))) := k68 _ _ x_ra 
    have a75 : f66 nu = some (.inl (cy 0, 12, .inl gu)) := k68 _ _ x_nu 
    have a76 : f66 fm = some (.inl (cy 4, 6, .inr (.inr (.inr (.inr gf))))) := k68 _ _ x_fm 
    have a77 : f66 co = some (.inl (cy 5, 60, .inr (.inr (.inr (.inr gc))))) := k68 _ _ x_co 
    have a78 : f66 en = some (.inl (cy 6, 4, .inr (.inr (.inr (.inr ge))))) := k68 _ _ x_en 
    have a79 : f66 ke = some (.inr (6, [.ref kn, .ref vq, .int (nI ks)])) := k68 _ _ x_ke 
    have a80 : f66 kn = some (.inl (cy 0, 40, .inl kk)) := k68 _ _ x_kn 
    have a81 : f66 vq = some (.inl (cy 0, 40, .inl kv)) := k68 _ _ x_vq 
    have F82 : ∀ i9 : Nat, i9 < nn → f66 (fg i9) = some (.inr (4, [.int (kd i9), .ref (pt i9), .long (wg i9), .int (wd i9), .int (nI i9), .int (hs i9), .int (bf i9)])) := fun i9 h9 => k68 _ _ (hF i9 h9) 
    have F83 : ∀ i9 : Nat, i9 < nn → f66 (pt i9) = some (.inl (cy 1, (ln i9), .inr (.inl (pp i9)))) := fun i9 h9 => k68 _ _ (hP i9 h9) 
    have F84 : ∀ i9 : Nat, i9 < nf → f66 (fq i9) = some (.inr (3, [.ref (fk i9), .int (nI (fz i9))])) := fun i9 h9 => k68 _ _ (hFq i9 h9) 
    have F85 : ∀ i9 : Nat, i9 < nf → f66 (fk i9) = some (.inl (cy 0, 4, .inl (fc i9))) := fun i9 h9 => k68 _ _ (hFk i9 h9) 
    have F86 : ∀ i9 : Nat, i9 < nc → f66 (cn i9) = some (.inr (0, [.int (ce i9), .int (cm i9)])) := fun i9 h9 => k68 _ _ (hCn i9 h9) 
    have F87 : ∀ i9 : Nat, i9 < 4 → f66 (ea i9) = some (.inr (1, [.ref (ma i9), .int (nI (sq i9))])) := fun i9 h9 => k68 _ _ (hEa i9 h9) 
    have F88 : ∀ i9 : Nat, i9 < 4 → f66 (ma i9) = some (.inl (cy 0, 60, .inl (mb i9))) := fun i9 h9 => k68 _ _ (hMa i9 h9) 
    exact z_lret C hr hz hS ⟨u1, u2, u3, gv, nl, gu, nn, ga, gr, fg, pt, kd, ln, pp, wg, wd, hs, bf, nf, gf, fq, fk, fz, fc, nc, gc, cn, ce, cm, sq, mb, ks, kk, kv, lk, (by simp [q_part, hFa]), rfl, rfl, rfl, rfl, rfl, rfl, rfl, rfl, rfl, rfl, rfl, rfl, rfl, rfl, rfl, rfl, rfl, rfl, rfl, rfl, rfl, rfl, rfl, rfl, ⟨a69, a70, a71, a72, a73, a74, a75, a76, a77, a78, a79, a80, a81, F82, F83, F84, F85, F86, F87, F88, hn60, hl12, hf6, hc60, hs40, hga, hgr, hln, hk5, hk4, hfi, hpi, har, hgf, hfz, hgc, hG, hsq, hei, hmi, kne, hca, hcr, hlk⟩⟩ (Nat.le_of_ble_eq_true rfl) (Nat.le_of_ble_eq_true rfl) dX7_part_30
abbrev rmX7_equal : Room := { frames := 1, cells := 0, slots := 0, locals := 22 }
set_option maxHeartbeats 4000000 in
set_option maxRecDepth 100000 in
theorem k_X7_equal (l : Launch) (D : va_G) (cy : Nat → ClassId) (f : zM) (o : Nat) (fa : Nat) (fi : Nat) (nu : Nat) (fm : Nat) (co : Nat) (en : Nat) (ke : Nat) (ev : Nat) (al : Nat) (ra : Nat) (kn : Nat) (vq : Nat) (ge : Nat → Option Nat) (ea : Nat → Nat) (ma : Nat → Nat) (u1 : Int32) (u2 : Int32) (u3 : Int32) (gv : Nat → Int32) (nl : Nat) (gu : Nat → Int32) (nn : Nat) (ga : Nat → Option Nat) (gr : Nat → Option Nat) (fg : Nat → Nat) (pt : Nat → Nat) (kd : Nat → Int32) (ln : Nat → Nat) (pp : Nat → Nat → Int64) (wg : Nat → Int64) (wd : Nat → Int32) (hs : Nat → Int32) (bf : Nat → Int32) (nf : Nat) (gf : Nat → Option Nat) (fq : Nat → Nat) (fk : Nat → Nat) (fz : Nat → Nat) (fc : Nat → Nat → Int32) (nc : Nat) (gc : Nat → Option Nat) (cn : Nat → Nat) (ce : Nat → Int32) (cm : Nat → Int32) (sq : Nat → Nat) (mb : Nat → Nat → Int32) (ks : Nat) (kk : Nat → Int32) (kv : Nat → Int32) (lk : Int64) (x : Int32) (y : Int32)    (hI : zIX cy f o fa fi nu fm co en ke ev al ra kn vq ge ea ma u1 u2 u3 gv nl gu nn ga gr fg pt kd ln pp wg wd hs bf nf gf fq fk fz fc nc gc cn ce cm sq mb ks kk kv lk) : zCi l D cy yX7_equal cX7_equal 5 (Option.some Jvm.ClassFile.FieldType.int) rmX7_equal [.ref o, .int x, .int y] f (fun (r : Int32) (f1 : zM) => ∃ (u11 : Int32) (u21 : Int32) (u31 : Int32) (gv1 : Nat → Int32) (nl1 : Nat) (gu1 : Nat → Int32) (nn1 : Nat) (ga1 : Nat → Option Nat) (gr1 : Nat → Option Nat) (fg1 : Nat → Nat) (pt1 : Nat → Nat) (kd1 : Nat → Int32) (ln1 : Nat → Nat) (pp1 : Nat → Nat → Int64) (wg1 : Nat → Int64) (wd1 : Nat → Int32) (hs1 : Nat → Int32) (bf1 : Nat → Int32) (nf1 : Nat) (gf1 : Nat → Option Nat) (fq1 : Nat → Nat) (fk1 : Nat → Nat) (fz1 : Nat → Nat) (fc1 : Nat → Nat → Int32) (nc1 : Nat) (gc1 : Nat → Option Nat) (cn1 : Nat → Nat) (ce1 : Nat → Int32) (cm1 : Nat → Int32) (sq1 : Nat → Nat) (mb1 : Nat → Nat → Int32) (ks1 : Nat) (kk1 : Nat → Int32) (kv1 : Nat → Int32) (lk1 : Int64), (u11 = u1) ∧ (u21 = u2) ∧ (u31 = u3) ∧ (gv1 = gv) ∧ (nl1 = nl) ∧ (gu1 = gu) ∧ (nn1 = nn) ∧ (kd1 = kd) ∧ (ln1 = ln) ∧ (pp1 = pp) ∧ (wd1 = wd) ∧ (hs1 = hs) ∧ (nf1 = nf) ∧ (fz1 = fz) ∧ (fc1 = fc) ∧ (nc1 = nc) ∧ (ce1 = ce) ∧ (cm1 = cm) ∧ (sq1 = sq) ∧ (mb1 = mb) ∧ (ks1 = ks) ∧ (kk1 = kk) ∧ (kv1 = kv) ∧ (lk1 = lk) ∧ zIX cy f1 o fa fi nu fm co en ke ev al ra kn vq ge ea ma u11 u21 u31 gv1 nl1 gu1 nn1 ga1 gr1 fg1 pt1 kd1 ln1 pp1 wg1 wd1 hs1 bf1 nf1 gf1 fq1 fk1 fz1 fc1 nc1 gc1 cn1 ce1 cm1 sq1 mb1 ks1 kk1 kv1 lk1) := by
  intro sz
  refine z_body (by decide +kernel) (Nat.le_of_ble_eq_true rfl) ?_
  intro p e s m below meth c ls C hr hin hsz hz hl
  subst hsz
  have hx := C.1
  have hb := C.2.1
  have hA : ∀ q, s.heap.size ≤ q → zA f s.heap.size q := fun q h => Or.inr h
  have hS : va_S (zA f s.heap.size) s.heap s.heap [] := va_S.rf
  have hl : lv_has ls 5 [(0, .ref o), (1, .int x), (2, .int y)] := hl
  obtain ⟨x_o, x_fa, x_ev, x_fi, x_al, x_ra, x_nu, x_fm, x_co, x_en, x_ke, x_kn, x_vq, hF, hP, hFq, hFk, hCn, hEa, hMa, hn60, hl12, hf6, hc60, hs40, hga, hgr, hln, hk5, hk4, hfi, hpi, har, hgf, hfz, hgc, hG, hsq, hei, hmi, kne, hca, hcr, hlk⟩ := id hI
  refine lv_aload_n hx hb dX7_equal_0 rfl (lv_at hl 0 rfl) ?_
  refine z_get (v := .ref fi) C hz x_o zl7 mFX7_19 (by decide) rfl dX7_equal_1 ?_
  refine lv_iload_n hx hb dX7_equal_4 rfl (lv_at hl 1 rfl) ?_
  refine lv_i2l (v := x.toInt64) hx hb dX7_equal_5 rfl ?_
  rcases z_findi x nn with ⟨ja, hja, hva⟩ | hva
  · have hFa : isF nn x = true := isF_t hn60 hja hva
    have hIa : fI x = ja := fI_of (by omega) hva
    have hNa : ¬ x = (-1) := by rw [hva]; exact z_nim1 (by omega)
    refine z_callVq (As := [.long x.toInt64]) C hz hS hA hl (k_X5_find_A l D cy f fi al ra ga nn fg x.toInt64 ja x_fi x_al hn60 hga (by rw [hva, nI_l (by omega)]) hja) zyX5_find mMX7_130 x_fi zl5 rfl rfl (Nat.le_of_ble_eq_true rfl) ⟨Nat.le_of_ble_eq_true rfl, Nat.le_of_ble_eq_true rfl⟩ ⟨Nat.le_of_ble_eq_true rfl, Nat.le_of_ble_eq_true rfl⟩ dX7_equal_6 (fun r f1 H locs h2 hz hS => ?_)
    obtain ⟨rfl, k3⟩ := h2
    refine W.eq (g2 := F0 m 9 ls [.ref (fg ja)]) rfl ?_
    refine lv_astore_n (lv' := [(3, .ref (fg ja)), (0, .ref o), (1, .int x), (2, .int y)]) hx hb dX7_equal_9 rfl hl (by decide) rfl (fun ls hl => ?_)
    refine lv_aload_n hx hb dX7_equal_10 rfl (lv_at hl 1 rfl) ?_
    have a4 : f1 o = some (.inr (7, [.ref fa, .ref fi, .ref nu, .int (nI nl), .ref fm, .int (nI nf), .ref co, .int (nI nc), .ref en, .ref ke, .long lk])) := k3 _ _ x_o 
    refine z_get (v := .ref fi) C hz a4 zl7 mFX7_19 (by decide) rfl dX7_equal_11 ?_
    refine lv_iload_n hx hb dX7_equal_14 rfl (lv_at hl 3 rfl) ?_
    refine lv_i2l (v := y.toInt64) hx hb dX7_equal_15 rfl ?_
    rcases z_findi y nn with ⟨jb, hjb, hvb⟩ | hvb
    · have hFb : isF nn y = true := isF_t hn60 hjb hvb
      have hIb : fI y = jb := fI_of (by omega) hvb
      have hNb : ¬ y = (-1) := by rw [hvb]; exact z_nim1 (by omega)
      have a5 : f1 fi = some (.inr (5, [.ref al, .ref ra, .int (nI nn)])) := k3 _ _ x_fi 
      have a6 : f1 al = some (.inl (cy 3, 60, .inr (.inr (.inr (.inr ga))))) := k3 _ _ x_al 
      refine z_callVq (As := [.long y.toInt64]) C hz hS hA hl (k_X5_find_A l D cy f1 fi al ra ga nn fg y.toInt64 jb a5 a6 hn60 hga (by rw [hvb, nI_l (by omega)]) hjb) zyX5_find mMX7_130 a5 zl5 rfl rfl (Nat.le_of_ble_eq_true rfl) ⟨Nat.le_of_ble_eq_true rfl, Nat.le_of_ble_eq_true rfl⟩ ⟨Nat.le_of_ble_eq_true rfl, Nat.le_of_ble_eq_true rfl⟩ dX7_equal_16 (fun r f7 H locs h8 hz hS => ?_)
      obtain ⟨rfl, k9⟩ := h8
      refine W.eq (g2 := F0 m 19 ls [.ref (fg jb)]) rfl ?_
      refine lv_astore (lv' := [(4, .ref (fg jb)), (3, .ref (fg ja)), (0, .ref o), (1, .int x), (2, .int y)]) hx hb dX7_equal_19 hl (by decide) rfl (fun ls hl => ?_)
      refine lv_aload_n hx hb dX7_equal_21 rfl (lv_at hl 1 rfl) ?_
      refine lv_ifnull hx hb dX7_equal_22 ?_
      refine lv_aload hx hb dX7_equal_25 (lv_at hl 0 rfl) ?_
      refine lv_ifnonnull (tgt := 33) hx hb dX7_equal_27 (by decide) ?_
      refine lv_aload_n hx hb dX7_equal_33 rfl (lv_at hl 1 rfl) ?_
      refine lv_aload hx hb dX7_equal_34 (lv_at hl 0 rfl) ?_
      have F10 : ∀ i9 : Nat, i9 < nn → f1 (fg i9) = some (.inr (4, [.int (kd i9), .ref (pt i9), .long (wg i9), .int (wd i9), .int (nI i9), .int (hs i9), .int (bf i9)])) := fun i9 h9 => k3 _ _ (hF i9 h9) 
      have F11 : ∀ i9 : Nat, i9 < nn → f7 (fg i9) = some (.inr (4, [.int (kd i9), .ref (pt i9), .long (wg i9), .int (wd i9), .int (nI i9), .int (hs i9), .int (bf i9)])) := fun i9 h9 => k9 _ _ (F10 i9 h9) 
      have a12 : f7 (fg ja) = some (.inr (4, [.int (kd ja), .ref (pt ja), .long (wg ja), .int (wd ja), .int (nI ja), .int (hs ja), .int (bf ja)])) := F11 ja hja
      have a13 : f7 (fg jb) = some (.inr (4, [.int (kd jb), .ref (pt jb), .long (wg jb), .int (wd jb), .int (nI jb), .int (hs jb), .int (bf jb)])) := F11 jb hjb
      refine z_callVi (As := [.ref (fg jb)]) C hz hS hA hl (k_X4_isLike l D cy f7 (fg ja) (kd ja) (pt ja) (wg ja) (wd ja) (nI ja) (hs ja) (bf ja) (fg jb) (kd jb) (pt jb) (wg jb) (wd jb) (nI jb) (hs jb) (bf jb) a12 a13 ) zyX4_isLike mMX7_166 a12 zl4 rfl rfl (Nat.le_of_ble_eq_true rfl) ⟨Nat.le_of_ble_eq_true rfl, Nat.le_of_ble_eq_true rfl⟩ ⟨Nat.le_of_ble_eq_true rfl, Nat.le_of_ble_eq_true rfl⟩ dX7_equal_36 (fun r f14 H locs h15 hz hS => ?_)
      obtain ⟨rfl, k16⟩ := h15
      refine lv_if_eq (tgt := 46) hx hb dX7_equal_39 (by decide) (fun c17 => ?_) (fun c17 => ?_)
      · refine lv_iconst (v := 0) hx hb dX7_equal_46 (by decide) ?_
        have a18 : f7 o = some (.inr (7, [.ref fa, .ref fi, .ref nu, .int (nI nl), .ref fm, .int (nI nf), .ref co, .int (nI nc), .ref en, .ref ke, .long lk])) := k9 _ _ a4 
        have a19 : f14 o = some (.inr (7, [.ref fa, .ref fi, .ref nu, .int (nI nl), .ref fm, .int (nI nf), .ref co, .int (nI nc), .ref en, .ref ke, .long lk])) := k16 _ _ a18 
        have a20 : f1 fa = some (.inr (2, [.int u1, .int u2, .int u3, .ref ev])) := k3 _ _ x_fa 
        have a21 : f7 fa = some (.inr (2, [.int u1, .int u2, .int u3, .ref ev])) := k9 _ _ a20 
        have a22 : f14 fa = some (.inr (2, [.int u1, .int u2, .int u3, .ref ev])) := k16 _ _ a21 
        have a23 : f1 ev = some (.inl (cy 0, 8, .inl gv)) := k3 _ _ x_ev 
        have a24 : f7 ev = some (.inl (cy 0, 8, .inl gv)) := k9 _ _ a23 
        have a25 : f14 ev = some (.inl (cy 0, 8, .inl gv)) := k16 _ _ a24 
        have a26 : f7 fi = some (.inr (5, [.ref al, .ref ra, .int (nI nn)])) := k9 _ _ a5 
        have a27 : f14 fi = some (.inr (5, [.ref al, .ref ra, .int (nI nn)])) := k16 _ _ a26 
        have a28 : f7 al = some (.inl (cy 3, 60, .inr (.inr (.inr (.inr ga))))) := k9 _ _ a6 
        have a29 : f14 al = some (.inl (cy 3, 60, .inr (.inr (.inr (.inr ga))))) := k16 _ _ a28 
        have a30 : f1 ra = some (.inl (cy 3, 60, .inr (.inr (.inr (.inr gr))))) := k3 _ _ x_ra 
        have a31 : f7 ra = some (.inl (cy 3, 60, .inr (.inr (.inr (.inr gr))))) := k9 _ _ a30 
        have a32 : f14 ra = some (.inl (cy 3, 60, .inr (.inr (.inr (.inr gr))))) := k16 _ _ a31 
        have a33 : f1 nu = some (.inl (cy 0, 12, .inl gu)) := k3 _ _ x_nu 
        have a34 : f7 nu = some (.inl (cy 0, 12, .inl gu)) := k9 _ _ a33 
        have a35 : f14 nu = some (.inl (cy 0, 12, .inl gu)) := k16 _ _ a34 
        have a36 : f1 fm = some (.inl (cy 4, 6, .inr (.inr (.inr (.inr gf))))) := k3 _ _ x_fm 
        have a37 : f7 fm = some (.inl (cy 4, 6, .inr (.inr (.inr (.inr gf))))) := k9 _ _ a36 
        have a38 : f14 fm = some (.inl (cy 4, 6, .inr (.inr (.inr (.inr gf))))) := k16 _ _ a37 
        have a39 : f1 co = some (.inl (cy 5, 60, .inr (.inr (.inr (.inr gc))))) := k3 _ _ x_co 
        have a40 : f7 co = some (.inl (cy 5, 60, .inr (.inr (.inr (.inr gc))))) := k9 _ _ a39 
        have a41 : f14 co = some (.inl (cy 5, 60, .inr (.inr (.inr (.inr gc))))) := k16 _ _ a40 
        have a42 : f1 en = some (.inl (cy 6, 4, .inr (.inr (.inr (.inr ge))))) := k3 _ _ x_en 
        have a43 : f7 en = some (.inl (cy 6, 4, .inr (.inr (.inr (.inr ge))))) := k9 _ _ a42 
        have a44 : f14 en = some (.inl (cy 6, 4, .inr (.inr (.inr (.inr ge))))) := k16 _ _ a43 
        have a45 : f1 ke = some (.inr (6, [.ref kn, .ref vq, .int (nI ks)])) := k3 _ _ x_ke 
        have a46 : f7 ke = some (.inr (6, [.ref kn, .ref vq, .int (nI ks)])) := k9 _ _ a45 
        have a47 : f14 ke = some (.inr (6, [.ref kn, .ref vq, .int (nI ks)])) := k16 _ _ a46 
        have a48 : f1 kn = some (.inl (cy 0, 40, .inl kk)) := k3 _ _ x_kn 
        have a49 : f7 kn = some (.inl (cy 0, 40, .inl kk)) := k9 _ _ a48 
        have a50 : f14 kn = some (.inl (cy 0, 40, .inl kk)) := k16 _ _ a49 
        have a51 : f1 vq = some (.inl (cy 0, 40, .inl kv)) := k3 _ _ x_vq 
        have a52 : f7 vq = some (.inl (cy 0, 40, .inl kv)) := k9 _ _ a51 
        have a53 : f14 vq = some (.inl (cy 0, 40, .inl kv)) := k16 _ _ a52 
        have F54 : ∀ i9 : Nat, i9 < nn → f14 (fg i9) = some (.inr (4, [.int (kd i9), .ref (pt i9), .long (wg i9), .int (wd i9), .int (nI i9), .int (hs i9), .int (bf i9)])) := fun i9 h9 => k16 _ _ (F11 i9 h9) 
        have F55 : ∀ i9 : Nat, i9 < nn → f1 (pt i9) = some (.inl (cy 1, (ln i9), .inr (.inl (pp i9)))) := fun i9 h9 => k3 _ _ (hP i9 h9) 
        have F56 : ∀ i9 : Nat, i9 < nn → f7 (pt i9) = some (.inl (cy 1, (ln i9), .inr (.inl (pp i9)))) := fun i9 h9 => k9 _ _ (F55 i9 h9) 
        have F57 : ∀ i9 : Nat, i9 < nn → f14 (pt i9) = some (.inl (cy 1, (ln i9), .inr (.inl (pp i9)))) := fun i9 h9 => k16 _ _ (F56 i9 h9) 
        have F58 : ∀ i9 : Nat, i9 < nf → f1 (fq i9) = some (.inr (3, [.ref (fk i9), .int (nI (fz i9))])) := fun i9 h9 => k3 _ _ (hFq i9 h9) 
        have F59 : ∀ i9 : Nat, i9 < nf → f7 (fq i9) = some (.inr (3, [.ref (fk i9), .int (nI (fz i9))])) := fun i9 h9 => k9 _ _ (F58 i9 h9) 
        have F60 : ∀ i9 : Nat, i9 < nf → f14 (fq i9) = some (.inr (3, [.ref (fk i9), .int (nI (fz i9))])) := fun i9 h9 => k16 _ _ (F59 i9 h9) 
        have F61 : ∀ i9 : Nat, i9 < nf → f1 (fk i9) = some (.inl (cy 0, 4, .inl (fc i9))) := fun i9 h9 => k3 _ _ (hFk i9 h9) 
        have F62 : ∀ i9 : Nat, i9 < nf → f7 (fk i9) = some (.inl (cy 0, 4, .inl (fc i9))) := fun i9 h9 => k9 _ _ (F61 i9 h9) 
        have F63 : ∀ i9 : Nat, i9 < nf → f14 (fk i9) = some (.inl (cy 0, 4, .inl (fc i9))) := fun i9 h9 => k16 _ _ (F62 i9 h9) 
        have F64 : ∀ i9 : Nat, i9 < nc → f1 (cn i9) = some (.inr (0, [.int (ce i9), .int (cm i9)])) := fun i9 h9 => k3 _ _ (hCn i9 h9) 
        have F65 : ∀ i9 : Nat, i9 < nc → f7 (cn i9) = some (.inr (0, [.int (ce i9), .int (cm i9)])) := fun i9 h9 => k9 _ _ (F64 i9 h9) 
        have F66 : ∀ i9 : Nat, i9 < nc → f14 (cn i9) = some (.inr (0, [.int (ce i9), .int (cm i9)])) := fun i9 h9 => k16 _ _ (F65 i9 h9) 
        have F67 : ∀ i9 : Nat, i9 < 4 → f1 (ea i9) = some (.inr (1, [.ref (ma i9), .int (nI (sq i9))])) := fun i9 h9 => k3 _ _ (hEa i9 h9) 
        have F68 : ∀ i9 : Nat, i9 < 4 → f7 (ea i9) = some (.inr (1, [.ref (ma i9), .int (nI (sq i9))])) := fun i9 h9 => k9 _ _ (F67 i9 h9) 
        have F69 : ∀ i9 : Nat, i9 < 4 → f14 (ea i9) = some (.inr (1, [.ref (ma i9), .int (nI (sq i9))])) := fun i9 h9 => k16 _ _ (F68 i9 h9) 
        have F70 : ∀ i9 : Nat, i9 < 4 → f1 (ma i9) = some (.inl (cy 0, 60, .inl (mb i9))) := fun i9 h9 => k3 _ _ (hMa i9 h9) 
        have F71 : ∀ i9 : Nat, i9 < 4 → f7 (ma i9) = some (.inl (cy 0, 60, .inl (mb i9))) := fun i9 h9 => k9 _ _ (F70 i9 h9) 
        have F72 : ∀ i9 : Nat, i9 < 4 → f14 (ma i9) = some (.inl (cy 0, 60, .inl (mb i9))) := fun i9 h9 => k16 _ _ (F71 i9 h9) 
        exact z_iret C hr rfl hz hS ⟨u1, u2, u3, gv, nl, gu, nn, ga, gr, fg, pt, kd, ln, pp, wg, wd, hs, bf, nf, gf, fq, fk, fz, fc, nc, gc, cn, ce, cm, sq, mb, ks, kk, kv, lk, rfl, rfl, rfl, rfl, rfl, rfl, rfl, rfl, rfl, rfl, rfl, rfl, rfl, rfl, rfl, rfl, rfl, rfl, rfl, rfl, rfl, rfl, rfl, rfl, ⟨a19, a22, a25, a27, a29, a32, a35, a38, a41, a44, a47, a50, a53, F54, F57, F60, F63, F66, F69, F72, hn60, hl12, hf6, hc60, hs40, hga, hgr, hln, hk5, hk4, hfi, hpi, har, hgf, hfz, hgc, hG, hsq, hei, hmi, kne, hca, hcr, hlk⟩⟩ (Nat.le_of_ble_eq_true rfl) (Nat.le_of_ble_eq_true rfl) dX7_equal_47
      · refine lv_iconst (v := 1) hx hb dX7_equal_42 (by decide) ?_
        refine lv_goto (tgt := 47) hx hb dX7_equal_43 (by decide) ?_
        have a73 : f7 o = some (.inr (7, [.ref fa, .ref fi, .ref nu, .int (nI nl), .ref fm, .int (nI nf), .ref co, .int (nI nc), .ref en, .ref ke, .long lk])) := k9 _ _ a4 
        have a74 : f14 o = some (.inr (7, [.ref fa, .ref fi, .ref nu, .int (nI nl), .ref fm, .int (nI nf), .ref co, .int (nI nc), .ref en, .ref ke, .long lk])) := k16 _ _ a73 
        have a75 : f1 fa = some (.inr (2, [.int u1, .int u2, .int u3, .ref ev])) := k3 _ _ x_fa 
        have a76 : f7 fa = some (.inr (2, [.int u1, .int u2, .int u3, .ref ev])) := k9 _ _ a75 
        have a77 : f14 fa = some (.inr (2, [.int u1, .int u2, .int u3, .ref ev])) := k16 _ _ a76 
        have a78 : f1 ev = some (.inl (cy 0, 8, .inl gv)) := k3 _ _ x_ev 
        have a79 : f7 ev = some (.inl (cy 0, 8, .inl gv)) := k9 _ _ a78 
        have a80 : f14 ev = some (.inl (cy 0, 8, .inl gv)) := k16 _ _ a79 
        have a81 : f7 fi = some (.inr (5, [.ref al, .ref ra, .int (nI nn)])) := k9 _ _ a5 
        have a82 : f14 fi = some (.inr (5, [.ref al, .ref ra, .int (nI nn)])) := k16 _ _ a81 
        have a83 : f7 al = some (.inl (cy 3, 60, .inr (.inr (.inr (.inr ga))))) := k9 _ _ a6 
        have a84 : f14 al = some (.inl (cy 3, 60, .inr (.inr (.inr (.inr ga))))) := k16 _ _ a83 
        have a85 : f1 ra = some (.inl (cy 3, 60, .inr (.inr (.inr (.inr gr))))) := k3 _ _ x_ra 
        have a86 : f7 ra = some (.inl (cy 3, 60, .inr (.inr (.inr (.inr gr))))) := k9 _ _ a85 
        have a87 : f14 ra = some (.inl (cy 3, 60, .inr (.inr (.inr (.inr gr))))) := k16 _ _ a86 
        have a88 : f1 nu = some (.inl (cy 0, 12, .inl gu)) := k3 _ _ x_nu 
        have a89 : f7 nu = some (.inl (cy 0, 12, .inl gu)) := k9 _ _ a88 
        have a90 : f14 nu = some (.inl (cy 0, 12, .inl gu)) := k16 _ _ a89 
        have a91 : f1 fm = some (.inl (cy 4, 6, .inr (.inr (.inr (.inr gf))))) := k3 _ _ x_fm 
        have a92 : f7 fm = some (.inl (cy 4, 6, .inr (.inr (.inr (.inr gf))))) := k9 _ _ a91 
        have a93 : f14 fm = some (.inl (cy 4, 6, .inr (.inr (.inr (.inr gf))))) := k16 _ _ a92 
        have a94 : f1 co = some (.inl (cy 5, 60, .inr (.inr (.inr (.inr gc))))) := k3 _ _ x_co 
        have a95 : f7 co = some (.inl (cy 5, 60, .inr (.inr (.inr (.inr gc))))) := k9 _ _ a94 
        have a96 : f14 co = some (.inl (cy 5, 60, .inr (.inr (.inr (.inr gc))))) := k16 _ _ a95 
        have a97 : f1 en = some (.inl (cy 6, 4, .inr (.inr (.inr (.inr ge))))) := k3 _ _ x_en 
        have a98 : f7 en = some (.inl (cy 6, 4, .inr (.inr (.inr (.inr ge))))) := k9 _ _ a97 
        have a99 : f14 en = some (.inl (cy 6, 4, .inr (.inr (.inr (.inr ge))))) := k16 _ _ a98 
        have a100 : f1 ke = some (.inr (6, [.ref kn, .ref vq, .int (nI ks)])) := k3 _ _ x_ke 
        have a101 : f7 ke = some (.inr (6, [.ref kn, .ref vq, .int (nI ks)])) := k9 _ _ a100 
        have a102 : f14 ke = some (.inr (6, [.ref kn, .ref vq, .int (nI ks)])) := k16 _ _ a101 
        have a103 : f1 kn = some (.inl (cy 0, 40, .inl kk)) := k3 _ _ x_kn 
        have a104 : f7 kn = some (.inl (cy 0, 40, .inl kk)) := k9 _ _ a103 
        have a105 : f14 kn = some (.inl (cy 0, 40, .inl kk)) := k16 _ _ a104 
        have a106 : f1 vq = some (.inl (cy 0, 40, .inl kv)) := k3 _ _ x_vq 
        have a107 : f7 vq = some (.inl (cy 0, 40, .inl kv)) := k9 _ _ a106 
        have a108 : f14 vq = some (.inl (cy 0, 40, .inl kv)) := k16 _ _ a107 
        have F109 : ∀ i9 : Nat, i9 < nn → f14 (fg i9) = some (.inr (4, [.int (kd i9), .ref (pt i9), .long (wg i9), .int (wd i9), .int (nI i9), .int (hs i9), .int (bf i9)])) := fun i9 h9 => k16 _ _ (F11 i9 h9) 
        have F110 : ∀ i9 : Nat, i9 < nn → f1 (pt i9) = some (.inl (cy 1, (ln i9), .inr (.inl (pp i9)))) := fun i9 h9 => k3 _ _ (hP i9 h9) 
        have F111 : ∀ i9 : Nat, i9 < nn → f7 (pt i9) = some (.inl (cy 1, (ln i9), .inr (.inl (pp i9)))) := fun i9 h9 => k9 _ _ (F110 i9 h9) 
        have F112 : ∀ i9 : Nat, i9 < nn → f14 (pt i9) = some (.inl (cy 1, (ln i9), .inr (.inl (pp i9)))) := fun i9 h9 => k16 _ _ (F111 i9 h9) 
        have F113 : ∀ i9 : Nat, i9 < nf → f1 (fq i9) = some (.inr (3, [.ref (fk i9), .int (nI (fz i9))])) := fun i9 h9 => k3 _ _ (hFq i9 h9) 
        have F114 : ∀ i9 : Nat, i9 < nf → f7 (fq i9) = some (.inr (3, [.ref (fk i9), .int (nI (fz i9))])) := fun i9 h9 => k9 _ _ (F113 i9 h9) 
        have F115 : ∀ i9 : Nat, i9 < nf → f14 (fq i9) = some (.inr (3, [.ref (fk i9), .int (nI (fz i9))])) := fun i9 h9 => k16 _ _ (F114 i9 h9) 
        have F116 : ∀ i9 : Nat, i9 < nf → f1 (fk i9) = some (.inl (cy 0, 4, .inl (fc i9))) := fun i9 h9 => k3 _ _ (hFk i9 h9) 
        have F117 : ∀ i9 : Nat, i9 < nf → f7 (fk i9) = some (.inl (cy 0, 4, .inl (fc i9))) := fun i9 h9 => k9 _ _ (F116 i9 h9) 
        have F118 : ∀ i9 : Nat, i9 < nf → f14 (fk i9) = some (.inl (cy 0, 4, .inl (fc i9))) := fun i9 h9 => k16 _ _ (F117 i9 h9) 
        have F119 : ∀ i9 : Nat, i9 < nc → f1 (cn i9) = some (.inr (0, [.int (ce i9), .int (cm i9)])) := fun i9 h9 => k3 _ _ (hCn i9 h9) 
        have F120 : ∀ i9 : Nat, i9 < nc → f7 (cn i9) = some (.inr (0, [.int (ce i9), .int (cm i9)])) := fun i9 h9 => k9 _ _ (F119 i9 h9) 
        have F121 : ∀ i9 : Nat, i9 < nc → f14 (cn i9) = some (.inr (0, [.int (ce i9), .int (cm i9)])) := fun i9 h9 => k16 _ _ (F120 i9 h9) 
        have F122 : ∀ i9 : Nat, i9 < 4 → f1 (ea i9) = some (.inr (1, [.ref (ma i9), .int (nI (sq i9))])) := fun i9 h9 => k3 _ _ (hEa i9 h9) 
        have F123 : ∀ i9 : Nat, i9 < 4 → f7 (ea i9) = some (.inr (1, [.ref (ma i9), .int (nI (sq i9))])) := fun i9 h9 => k9 _ _ (F122 i9 h9) 
        have F124 : ∀ i9 : Nat, i9 < 4 → f14 (ea i9) = some (.inr (1, [.ref (ma i9), .int (nI (sq i9))])) := fun i9 h9 => k16 _ _ (F123 i9 h9) 
        have F125 : ∀ i9 : Nat, i9 < 4 → f1 (ma i9) = some (.inl (cy 0, 60, .inl (mb i9))) := fun i9 h9 => k3 _ _ (hMa i9 h9) 
        have F126 : ∀ i9 : Nat, i9 < 4 → f7 (ma i9) = some (.inl (cy 0, 60, .inl (mb i9))) := fun i9 h9 => k9 _ _ (F125 i9 h9) 
        have F127 : ∀ i9 : Nat, i9 < 4 → f14 (ma i9) = some (.inl (cy 0, 60, .inl (mb i9))) := fun i9 h9 => k16 _ _ (F126 i9 h9) 
        exact z_iret C hr rfl hz hS ⟨u1, u2, u3, gv, nl, gu, nn, ga, gr, fg, pt, kd, ln, pp, wg, wd, hs, bf, nf, gf, fq, fk, fz, fc, nc, gc, cn, ce, cm, sq, mb, ks, kk, kv, lk, rfl, rfl, rfl, rfl, rfl, rfl, rfl, rfl, rfl, rfl, rfl, rfl, rfl, rfl, rfl, rfl, rfl, rfl, rfl, rfl, rfl, rfl, rfl, rfl, ⟨a74, a77, a80, a82, a84, a87, a90, a93, a96, a99, a102, a105, a108, F109, F112, F115, F118, F121, F124, F127, hn60, hl12, hf6, hc60, hs40, hga, hgr, hln, hk5, hk4, hfi, hpi, har, hgf, hfz, hgc, hG, hsq, hei, hmi, kne, hca, hcr, hlk⟩⟩ (Nat.le_of_ble_eq_true rfl) (Nat.le_of_ble_eq_true rfl) dX7_equal_47
    · have hFb : isF nn y = false := isF_f hn60 hvb
      have a128 : f1 fi = some (.inr (5, [.ref al, .ref ra, .int (nI nn)])) := k3 _ _ x_fi 
      refine z_callVq (As := [.long y.toInt64]) C hz hS hA hl (k_X5_find_B l D cy f1 fi al ra nn y.toInt64 a128 hn60 (fun i9 h9 q9 => hvb i9 h9 (z_toL (by omega) q9))) zyX5_find mMX7_130 a128 zl5 rfl rfl (Nat.le_of_ble_eq_true rfl) ⟨Nat.le_of_ble_eq_true rfl, Nat.le_of_ble_eq_true rfl⟩ ⟨Nat.le_of_ble_eq_true rfl, Nat.le_of_ble_eq_true rfl⟩ dX7_equal_16 (fun r f129 H locs h130 hz hS => ?_)
      obtain ⟨rfl, k131⟩ := h130
      refine W.eq (g2 := F0 m 19 ls [.null]) rfl ?_
      refine lv_astoreN (lv' := [(4, .null), (3, .ref (fg ja)), (0, .ref o), (1, .int x), (2, .int y)]) hx hb dX7_equal_19 hl (by decide) rfl (fun ls hl => ?_)
      refine lv_aload_n hx hb dX7_equal_21 rfl (lv_at hl 1 rfl) ?_
      refine lv_ifnull hx hb dX7_equal_22 ?_
      refine lv_aloadN hx hb dX7_equal_25 (lv_at hl 0 rfl) ?_
      refine lv_ifnonnullN hx hb dX7_equal_27 ?_
      refine lv_bipush (v := (-2)) hx hb dX7_equal_30 (by decide) ?_
      have a132 : f129 o = some (.inr (7, [.ref fa, .ref fi, .ref nu, .int (nI nl), .ref fm, .int (nI nf), .ref co, .int (nI nc), .ref en, .ref ke, .long lk])) := k131 _ _ a4 
      have a133 : f1 fa = some (.inr (2, [.int u1, .int u2, .int u3, .ref ev])) := k3 _ _ x_fa 
      have a134 : f129 fa = some (.inr (2, [.int u1, .int u2, .int u3, .ref ev])) := k131 _ _ a133 
      have a135 : f1 ev = some (.inl (cy 0, 8, .inl gv)) := k3 _ _ x_ev 
      have a136 : f129 ev = some (.inl (cy 0, 8, .inl gv)) := k131 _ _ a135 
      have a137 : f129 fi = some (.inr (5, [.ref al, .ref ra, .int (nI nn)])) := k131 _ _ a128 
      have a138 : f1 al = some (.inl (cy 3, 60, .inr (.inr (.inr (.inr ga))))) := k3 _ _ x_al 
      have a139 : f129 al = some (.inl (cy 3, 60, .inr (.inr (.inr (.inr ga))))) := k131 _ _ a138 
      have a140 : f1 ra = some (.inl (cy 3, 60, .inr (.inr (.inr (.inr gr))))) := k3 _ _ x_ra 
      have a141 : f129 ra = some (.inl (cy 3, 60, .inr (.inr (.inr (.inr gr))))) := k131 _ _ a140 
      have a142 : f1 nu = some (.inl (cy 0, 12, .inl gu)) := k3 _ _ x_nu 
      have a143 : f129 nu = some (.inl (cy 0, 12, .inl gu)) := k131 _ _ a142 
      have a144 : f1 fm = some (.inl (cy 4, 6, .inr (.inr (.inr (.inr gf))))) := k3 _ _ x_fm 
      have a145 : f129 fm = some (.inl (cy 4, 6, .inr (.inr (.inr (.inr gf))))) := k131 _ _ a144 
      have a146 : f1 co = some (.inl (cy 5, 60, .inr (.inr (.inr (.inr gc))))) := k3 _ _ x_co 
      have a147 : f129 co = some (.inl (cy 5, 60, .inr (.inr (.inr (.inr gc))))) := k131 _ _ a146 
      have a148 : f1 en = some (.inl (cy 6, 4, .inr (.inr (.inr (.inr ge))))) := k3 _ _ x_en 
      have a149 : f129 en = some (.inl (cy 6, 4, .inr (.inr (.inr (.inr ge))))) := k131 _ _ a148 
      have a150 : f1 ke = some (.inr (6, [.ref kn, .ref vq, .int (nI ks)])) := k3 _ _ x_ke 
      have a151 : f129 ke = some (.inr (6, [.ref kn, .ref vq, .int (nI ks)])) := k131 _ _ a150 
      have a152 : f1 kn = some (.inl (cy 0, 40, .inl kk)) := k3 _ _ x_kn 
      have a153 : f129 kn = some (.inl (cy 0, 40, .inl kk)) := k131 _ _ a152 
      have a154 : f1 vq = some (.inl (cy 0, 40, .inl kv)) := k3 _ _ x_vq 
      have a155 : f129 vq = some (.inl (cy 0, 40, .inl kv)) := k131 _ _ a154 
      have F156 : ∀ i9 : Nat, i9 < nn → f1 (fg i9) = some (.inr (4, [.int (kd i9), .ref (pt i9), .long (wg i9), .int (wd i9), .int (nI i9), .int (hs i9), .int (bf i9)])) := fun i9 h9 => k3 _ _ (hF i9 h9) 
      have F157 : ∀ i9 : Nat, i9 < nn → f129 (fg i9) = some (.inr (4, [.int (kd i9), .ref (pt i9), .long (wg i9), .int (wd i9), .int (nI i9), .int (hs i9), .int (bf i9)])) := fun i9 h9 => k131 _ _ (F156 i9 h9) 
      have F158 : ∀ i9 : Nat, i9 < nn → f1 (pt i9) = some (.inl (cy 1, (ln i9), .inr (.inl (pp i9)))) := fun i9 h9 => k3 _ _ (hP i9 h9) 
      have F159 : ∀ i9 : Nat, i9 < nn → f129 (pt i9) = some (.inl (cy 1, (ln i9), .inr (.inl (pp i9)))) := fun i9 h9 => k131 _ _ (F158 i9 h9) 
      have F160 : ∀ i9 : Nat, i9 < nf → f1 (fq i9) = some (.inr (3, [.ref (fk i9), .int (nI (fz i9))])) := fun i9 h9 => k3 _ _ (hFq i9 h9) 
      have F161 : ∀ i9 : Nat, i9 < nf → f129 (fq i9) = some (.inr (3, [.ref (fk i9), .int (nI (fz i9))])) := fun i9 h9 => k131 _ _ (F160 i9 h9) 
      have F162 : ∀ i9 : Nat, i9 < nf → f1 (fk i9) = some (.inl (cy 0, 4, .inl (fc i9))) := fun i9 h9 => k3 _ _ (hFk i9 h9) 
      have F163 : ∀ i9 : Nat, i9 < nf → f129 (fk i9) = some (.inl (cy 0, 4, .inl (fc i9))) := fun i9 h9 => k131 _ _ (F162 i9 h9) 
      have F164 : ∀ i9 : Nat, i9 < nc → f1 (cn i9) = some (.inr (0, [.int (ce i9), .int (cm i9)])) := fun i9 h9 => k3 _ _ (hCn i9 h9) 
      have F165 : ∀ i9 : Nat, i9 < nc → f129 (cn i9) = some (.inr (0, [.int (ce i9), .int (cm i9)])) := fun i9 h9 => k131 _ _ (F164 i9 h9) 
      have F166 : ∀ i9 : Nat, i9 < 4 → f1 (ea i9) = some (.inr (1, [.ref (ma i9), .int (nI (sq i9))])) := fun i9 h9 => k3 _ _ (hEa i9 h9) 
      have F167 : ∀ i9 : Nat, i9 < 4 → f129 (ea i9) = some (.inr (1, [.ref (ma i9), .int (nI (sq i9))])) := fun i9 h9 => k131 _ _ (F166 i9 h9) 
      have F168 : ∀ i9 : Nat, i9 < 4 → f1 (ma i9) = some (.inl (cy 0, 60, .inl (mb i9))) := fun i9 h9 => k3 _ _ (hMa i9 h9) 
      have F169 : ∀ i9 : Nat, i9 < 4 → f129 (ma i9) = some (.inl (cy 0, 60, .inl (mb i9))) := fun i9 h9 => k131 _ _ (F168 i9 h9) 
      exact z_iret C hr rfl hz hS ⟨u1, u2, u3, gv, nl, gu, nn, ga, gr, fg, pt, kd, ln, pp, wg, wd, hs, bf, nf, gf, fq, fk, fz, fc, nc, gc, cn, ce, cm, sq, mb, ks, kk, kv, lk, rfl, rfl, rfl, rfl, rfl, rfl, rfl, rfl, rfl, rfl, rfl, rfl, rfl, rfl, rfl, rfl, rfl, rfl, rfl, rfl, rfl, rfl, rfl, rfl, ⟨a132, a134, a136, a137, a139, a141, a143, a145, a147, a149, a151, a153, a155, F157, F159, F161, F163, F165, F167, F169, hn60, hl12, hf6, hc60, hs40, hga, hgr, hln, hk5, hk4, hfi, hpi, har, hgf, hfz, hgc, hG, hsq, hei, hmi, kne, hca, hcr, hlk⟩⟩ (Nat.le_of_ble_eq_true rfl) (Nat.le_of_ble_eq_true rfl) dX7_equal_32
  · have hFa : isF nn x = false := isF_f hn60 hva
    refine z_callVq (As := [.long x.toInt64]) C hz hS hA hl (k_X5_find_B l D cy f fi al ra nn x.toInt64 x_fi hn60 (fun i9 h9 q9 => hva i9 h9 (z_toL (by omega) q9))) zyX5_find mMX7_130 x_fi zl5 rfl rfl (Nat.le_of_ble_eq_true rfl) ⟨Nat.le_of_ble_eq_true rfl, Nat.le_of_ble_eq_true rfl⟩ ⟨Nat.le_of_ble_eq_true rfl, Nat.le_of_ble_eq_true rfl⟩ dX7_equal_6 (fun r f170 H locs h171 hz hS => ?_)
    obtain ⟨rfl, k172⟩ := h171
    refine W.eq (g2 := F0 m 9 ls [.null]) rfl ?_
    refine lv_astore_nN (lv' := [(3, .null), (0, .ref o), (1, .int x), (2, .int y)]) hx hb dX7_equal_9 rfl hl (by decide) rfl (fun ls hl => ?_)
    refine lv_aload_n hx hb dX7_equal_10 rfl (lv_at hl 1 rfl) ?_
    have a173 : f170 o = some (.inr (7, [.ref fa, .ref fi, .ref nu, .int (nI nl), .ref fm, .int (nI nf), .ref co, .int (nI nc), .ref en, .ref ke, .long lk])) := k172 _ _ x_o 
    refine z_get (v := .ref fi) C hz a173 zl7 mFX7_19 (by decide) rfl dX7_equal_11 ?_
    refine lv_iload_n hx hb dX7_equal_14 rfl (lv_at hl 3 rfl) ?_
    refine lv_i2l (v := y.toInt64) hx hb dX7_equal_15 rfl ?_
    rcases z_findi y nn with ⟨jb, hjb, hvb⟩ | hvb
    · have hFb : isF nn y = true := isF_t hn60 hjb hvb
      have hIb : fI y = jb := fI_of (by omega) hvb
      have hNb : ¬ y = (-1) := by rw [hvb]; exact z_nim1 (by omega)
      have a174 : f170 fi = some (.inr (5, [.ref al, .ref ra, .int (nI nn)])) := k172 _ _ x_fi 
      have a175 : f170 al = some (.inl (cy 3, 60, .inr (.inr (.inr (.inr ga))))) := k172 _ _ x_al 
      refine z_callVq (As := [.long y.toInt64]) C hz hS hA hl (k_X5_find_A l D cy f170 fi al ra ga nn fg y.toInt64 jb a174 a175 hn60 hga (by rw [hvb, nI_l (by omega)]) hjb) zyX5_find mMX7_130 a174 zl5 rfl rfl (Nat.le_of_ble_eq_true rfl) ⟨Nat.le_of_ble_eq_true rfl, Nat.le_of_ble_eq_true rfl⟩ ⟨Nat.le_of_ble_eq_true rfl, Nat.le_of_ble_eq_true rfl⟩ dX7_equal_16 (fun r f176 H locs h177 hz hS => ?_)
      obtain ⟨rfl, k178⟩ := h177
      refine W.eq (g2 := F0 m 19 ls [.ref (fg jb)]) rfl ?_
      refine lv_astore (lv' := [(4, .ref (fg jb)), (3, .null), (0, .ref o), (1, .int x), (2, .int y)]) hx hb dX7_equal_19 hl (by decide) rfl (fun ls hl => ?_)
      refine lv_aload_nN hx hb dX7_equal_21 rfl (lv_at hl 1 rfl) ?_
      refine lv_ifnullN (tgt := 30) hx hb dX7_equal_22 (by decide) ?_
      refine lv_bipush (v := (-2)) hx hb dX7_equal_30 (by decide) ?_
      have a179 : f176 o = some (.inr (7, [.ref fa, .ref fi, .ref nu, .int (nI nl), .ref fm, .int (nI nf), .ref co, .int (nI nc), .ref en, .ref ke, .long lk])) := k178 _ _ a173 
      have a180 : f170 fa = some (.inr (2, [.int u1, .int u2, .int u3, .ref ev])) := k172 _ _ x_fa 
      have a181 : f176 fa = some (.inr (2, [.int u1, .int u2, .int u3, .ref ev])) := k178 _ _ a180 
      have a182 : f170 ev = some (.inl (cy 0, 8, .inl gv)) := k172 _ _ x_ev 
      have a183 : f176 ev = some (.inl (cy 0, 8, .inl gv)) := k178 _ _ a182 
      have a184 : f176 fi = some (.inr (5, [.ref al, .ref ra, .int (nI nn)])) := k178 _ _ a174 
      have a185 : f176 al = some (.inl (cy 3, 60, .inr (.inr (.inr (.inr ga))))) := k178 _ _ a175 
      have a186 : f170 ra = some (.inl (cy 3, 60, .inr (.inr (.inr (.inr gr))))) := k172 _ _ x_ra 
      have a187 : f176 ra = some (.inl (cy 3, 60, .inr (.inr (.inr (.inr gr))))) := k178 _ _ a186 
      have a188 : f170 nu = some (.inl (cy 0, 12, .inl gu)) := k172 _ _ x_nu 
      have a189 : f176 nu = some (.inl (cy 0, 12, .inl gu)) := k178 _ _ a188 
      have a190 : f170 fm = some (.inl (cy 4, 6, .inr (.inr (.inr (.inr gf))))) := k172 _ _ x_fm 
      have a191 : f176 fm = some (.inl (cy 4, 6, .inr (.inr (.inr (.inr gf))))) := k178 _ _ a190 
      have a192 : f170 co = some (.inl (cy 5, 60, .inr (.inr (.inr (.inr gc))))) := k172 _ _ x_co 
      have a193 : f176 co = some (.inl (cy 5, 60, .inr (.inr (.inr (.inr gc))))) := k178 _ _ a192 
      have a194 : f170 en = some (.inl (cy 6, 4, .inr (.inr (.inr (.inr ge))))) := k172 _ _ x_en 
      have a195 : f176 en = some (.inl (cy 6, 4, .inr (.inr (.inr (.inr ge))))) := k178 _ _ a194 
      have a196 : f170 ke = some (.inr (6, [.ref kn, .ref vq, .int (nI ks)])) := k172 _ _ x_ke 
      have a197 : f176 ke = some (.inr (6, [.ref kn, .ref vq, .int (nI ks)])) := k178 _ _ a196 
      have a198 : f170 kn = some (.inl (cy 0, 40, .inl kk)) := k172 _ _ x_kn 
      have a199 : f176 kn = some (.inl (cy 0, 40, .inl kk)) := k178 _ _ a198 
      have a200 : f170 vq = some (.inl (cy 0, 40, .inl kv)) := k172 _ _ x_vq 
      have a201 : f176 vq = some (.inl (cy 0, 40, .inl kv)) := k178 _ _ a200 
      have F202 : ∀ i9 : Nat, i9 < nn → f170 (fg i9) = some (.inr (4, [.int (kd i9), .ref (pt i9), .long (wg i9), .int (wd i9), .int (nI i9), .int (hs i9), .int (bf i9)])) := fun i9 h9 => k172 _ _ (hF i9 h9) 
      have F203 : ∀ i9 : Nat, i9 < nn → f176 (fg i9) = some (.inr (4, [.int (kd i9), .ref (pt i9), .long (wg i9), .int (wd i9), .int (nI i9), .int (hs i9), .int (bf i9)])) := fun i9 h9 => k178 _ _ (F202 i9 h9) 
      have F204 : ∀ i9 : Nat, i9 < nn → f170 (pt i9) = some (.inl (cy 1, (ln i9), .inr (.inl (pp i9)))) := fun i9 h9 => k172 _ _ (hP i9 h9) 
      have F205 : ∀ i9 : Nat, i9 < nn → f176 (pt i9) = some (.inl (cy 1, (ln i9), .inr (.inl (pp i9)))) := fun i9 h9 => k178 _ _ (F204 i9 h9) 
      have F206 : ∀ i9 : Nat, i9 < nf → f170 (fq i9) = some (.inr (3, [.ref (fk i9), .int (nI (fz i9))])) := fun i9 h9 => k172 _ _ (hFq i9 h9) 
      have F207 : ∀ i9 : Nat, i9 < nf → f176 (fq i9) = some (.inr (3, [.ref (fk i9), .int (nI (fz i9))])) := fun i9 h9 => k178 _ _ (F206 i9 h9) 
      have F208 : ∀ i9 : Nat, i9 < nf → f170 (fk i9) = some (.inl (cy 0, 4, .inl (fc i9))) := fun i9 h9 => k172 _ _ (hFk i9 h9) 
      have F209 : ∀ i9 : Nat, i9 < nf → f176 (fk i9) = some (.inl (cy 0, 4, .inl (fc i9))) := fun i9 h9 => k178 _ _ (F208 i9 h9) 
      have F210 : ∀ i9 : Nat, i9 < nc → f170 (cn i9) = some (.inr (0, [.int (ce i9), .int (cm i9)])) := fun i9 h9 => k172 _ _ (hCn i9 h9) 
      have F211 : ∀ i9 : Nat, i9 < nc → f176 (cn i9) = some (.inr (0, [.int (ce i9), .int (cm i9)])) := fun i9 h9 => k178 _ _ (F210 i9 h9) 
      have F212 : ∀ i9 : Nat, i9 < 4 → f170 (ea i9) = some (.inr (1, [.ref (ma i9), .int (nI (sq i9))])) := fun i9 h9 => k172 _ _ (hEa i9 h9) 
      have F213 : ∀ i9 : Nat, i9 < 4 → f176 (ea i9) = some (.inr (1, [.ref (ma i9), .int (nI (sq i9))])) := fun i9 h9 => k178 _ _ (F212 i9 h9) 
      have F214 : ∀ i9 : Nat, i9 < 4 → f170 (ma i9) = some (.inl (cy 0, 60, .inl (mb i9))) := fun i9 h9 => k172 _ _ (hMa i9 h9) 
      have F215 : ∀ i9 : Nat, i9 < 4 → f176 (ma i9) = some (.inl (cy 0, 60, .inl (mb i9))) := fun i9 h9 => k178 _ _ (F214 i9 h9) 
      exact z_iret C hr rfl hz hS ⟨u1, u2, u3, gv, nl, gu, nn, ga, gr, fg, pt, kd, ln, pp, wg, wd, hs, bf, nf, gf, fq, fk, fz, fc, nc, gc, cn, ce, cm, sq, mb, ks, kk, kv, lk, rfl, rfl, rfl, rfl, rfl, rfl, rfl, rfl, rfl, rfl, rfl, rfl, rfl, rfl, rfl, rfl, rfl, rfl, rfl, rfl, rfl, rfl, rfl, rfl, ⟨a179, a181, a183, a184, a185, a187, a189, a191, a193, a195, a197, a199, a201, F203, F205, F207, F209, F211, F213, F215, hn60, hl12, hf6, hc60, hs40, hga, hgr, hln, hk5, hk4, hfi, hpi, har, hgf, hfz, hgc, hG, hsq, hei, hmi, kne, hca, hcr, hlk⟩⟩ (Nat.le_of_ble_eq_true rfl) (Nat.le_of_ble_eq_true rfl) dX7_equal_32
    · have hFb : isF nn y = false := isF_f hn60 hvb
      have a216 : f170 fi = some (.inr (5, [.ref al, .ref ra, .int (nI nn)])) := k172 _ _ x_fi 
      refine z_callVq (As := [.long y.toInt64]) C hz hS hA hl (k_X5_find_B l D cy f170 fi al ra nn y.toInt64 a216 hn60 (fun i9 h9 q9 => hvb i9 h9 (z_toL (by omega) q9))) zyX5_find mMX7_130 a216 zl5 rfl rfl (Nat.le_of_ble_eq_true rfl) ⟨Nat.le_of_ble_eq_true rfl, Nat.le_of_ble_eq_true rfl⟩ ⟨Nat.le_of_ble_eq_true rfl, Nat.le_of_ble_eq_true rfl⟩ dX7_equal_16 (fun r f217 H locs h218 hz hS => ?_)
      obtain ⟨rfl, k219⟩ := h218
      refine W.eq (g2 := F0 m 19 ls [.null]) rfl ?_
      refine lv_astoreN (lv' := [(4, .null), (3, .null), (0, .ref o), (1, .int x), (2, .int y)]) hx hb dX7_equal_19 hl (by decide) rfl (fun ls hl => ?_)
      refine lv_aload_nN hx hb dX7_equal_21 rfl (lv_at hl 1 rfl) ?_
      refine lv_ifnullN (tgt := 30) hx hb dX7_equal_22 (by decide) ?_
      refine lv_bipush (v := (-2)) hx hb dX7_equal_30 (by decide) ?_
      have a220 : f217 o = some (.inr (7, [.ref fa, .ref fi, .ref nu, .int (nI nl), .ref fm, .int (nI nf), .ref co, .int (nI nc), .ref en, .ref ke, .long lk])) := k219 _ _ a173 
      have a221 : f170 fa = some (.inr (2, [.int u1, .int u2, .int u3, .ref ev])) := k172 _ _ x_fa 
      have a222 : f217 fa = some (.inr (2, [.int u1, .int u2, .int u3, .ref ev])) := k219 _ _ a221 
      have a223 : f170 ev = some (.inl (cy 0, 8, .inl gv)) := k172 _ _ x_ev 
      have a224 : f217 ev = some (.inl (cy 0, 8, .inl gv)) := k219 _ _ a223 
      have a225 : f217 fi = some (.inr (5, [.ref al, .ref ra, .int (nI nn)])) := k219 _ _ a216 
      have a226 : f170 al = some (.inl (cy 3, 60, .inr (.inr (.inr (.inr ga))))) := k172 _ _ x_al 
      have a227 : f217 al = some (.inl (cy 3, 60, .inr (.inr (.inr (.inr ga))))) := k219 _ _ a226 
      have a228 : f170 ra = some (.inl (cy 3, 60, .inr (.inr (.inr (.inr gr))))) := k172 _ _ x_ra 
      have a229 : f217 ra = some (.inl (cy 3, 60, .inr (.inr (.inr (.inr gr))))) := k219 _ _ a228 
      have a230 : f170 nu = some (.inl (cy 0, 12, .inl gu)) := k172 _ _ x_nu 
      have a231 : f217 nu = some (.inl (cy 0, 12, .inl gu)) := k219 _ _ a230 
      have a232 : f170 fm = some (.inl (cy 4, 6, .inr (.inr (.inr (.inr gf))))) := k172 _ _ x_fm 
      have a233 : f217 fm = some (.inl (cy 4, 6, .inr (.inr (.inr (.inr gf))))) := k219 _ _ a232 
      have a234 : f170 co = some (.inl (cy 5, 60, .inr (.inr (.inr (.inr gc))))) := k172 _ _ x_co 
      have a235 : f217 co = some (.inl (cy 5, 60, .inr (.inr (.inr (.inr gc))))) := k219 _ _ a234 
      have a236 : f170 en = some (.inl (cy 6, 4, .inr (.inr (.inr (.inr ge))))) := k172 _ _ x_en 
      have a237 : f217 en = some (.inl (cy 6, 4, .inr (.inr (.inr (.inr ge))))) := k219 _ _ a236 
      have a238 : f170 ke = some (.inr (6, [.ref kn, .ref vq, .int (nI ks)])) := k172 _ _ x_ke 
      have a239 : f217 ke = some (.inr (6, [.ref kn, .ref vq, .int (nI ks)])) := k219 _ _ a238 
      have a240 : f170 kn = some (.inl (cy 0, 40, .inl kk)) := k172 _ _ x_kn 
      have a241 : f217 kn = some (.inl (cy 0, 40, .inl kk)) := k219 _ _ a240 
      have a242 : f170 vq = some (.inl (cy 0, 40, .inl kv)) := k172 _ _ x_vq 
      have a243 : f217 vq = some (.inl (cy 0, 40, .inl kv)) := k219 _ _ a242 
      have F244 : ∀ i9 : Nat, i9 < nn → f170 (fg i9) = some (.inr (4, [.int (kd i9), .ref (pt i9), .long (wg i9), .int (wd i9), .int (nI i9), .int (hs i9), .int (bf i9)])) := fun i9 h9 => k172 _ _ (hF i9 h9) 
      have F245 : ∀ i9 : Nat, i9 < nn → f217 (fg i9) = some (.inr (4, [.int (kd i9), .ref (pt i9), .long (wg i9), .int (wd i9), .int (nI i9), .int (hs i9), .int (bf i9)])) := fun i9 h9 => k219 _ _ (F244 i9 h9) 
      have F246 : ∀ i9 : Nat, i9 < nn → f170 (pt i9) = some (.inl (cy 1, (ln i9), .inr (.inl (pp i9)))) := fun i9 h9 => k172 _ _ (hP i9 h9) 
      have F247 : ∀ i9 : Nat, i9 < nn → f217 (pt i9) = some (.inl (cy 1, (ln i9), .inr (.inl (pp i9)))) := fun i9 h9 => k219 _ _ (F246 i9 h9) 
      have F248 : ∀ i9 : Nat, i9 < nf → f170 (fq i9) = some (.inr (3, [.ref (fk i9), .int (nI (fz i9))])) := fun i9 h9 => k172 _ _ (hFq i9 h9) 
      have F249 : ∀ i9 : Nat, i9 < nf → f217 (fq i9) = some (.inr (3, [.ref (fk i9), .int (nI (fz i9))])) := fun i9 h9 => k219 _ _ (F248 i9 h9) 
      have F250 : ∀ i9 : Nat, i9 < nf → f170 (fk i9) = some (.inl (cy 0, 4, .inl (fc i9))) := fun i9 h9 => k172 _ _ (hFk i9 h9) 
      have F251 : ∀ i9 : Nat, i9 < nf → f217 (fk i9) = some (.inl (cy 0, 4, .inl (fc i9))) := fun i9 h9 => k219 _ _ (F250 i9 h9) 
      have F252 : ∀ i9 : Nat, i9 < nc → f170 (cn i9) = some (.inr (0, [.int (ce i9), .int (cm i9)])) := fun i9 h9 => k172 _ _ (hCn i9 h9) 
      have F253 : ∀ i9 : Nat, i9 < nc → f217 (cn i9) = some (.inr (0, [.int (ce i9), .int (cm i9)])) := fun i9 h9 => k219 _ _ (F252 i9 h9) 
      have F254 : ∀ i9 : Nat, i9 < 4 → f170 (ea i9) = some (.inr (1, [.ref (ma i9), .int (nI (sq i9))])) := fun i9 h9 => k172 _ _ (hEa i9 h9) 
      have F255 : ∀ i9 : Nat, i9 < 4 → f217 (ea i9) = some (.inr (1, [.ref (ma i9), .int (nI (sq i9))])) := fun i9 h9 => k219 _ _ (F254 i9 h9) 
      have F256 : ∀ i9 : Nat, i9 < 4 → f170 (ma i9) = some (.inl (cy 0, 60, .inl (mb i9))) := fun i9 h9 => k172 _ _ (hMa i9 h9) 
      have F257 : ∀ i9 : Nat, i9 < 4 → f217 (ma i9) = some (.inl (cy 0, 60, .inl (mb i9))) := fun i9 h9 => k219 _ _ (F256 i9 h9) 
      exact z_iret C hr rfl hz hS ⟨u1, u2, u3, gv, nl, gu, nn, ga, gr, fg, pt, kd, ln, pp, wg, wd, hs, bf, nf, gf, fq, fk, fz, fc, nc, gc, cn, ce, cm, sq, mb, ks, kk, kv, lk, rfl, rfl, rfl, rfl, rfl, rfl, rfl, rfl, rfl, rfl, rfl, rfl, rfl, rfl, rfl, rfl, rfl, rfl, rfl, rfl, rfl, rfl, rfl, rfl, ⟨a220, a222, a224, a225, a227, a229, a231, a233, a235, a237, a239, a241, a243, F245, F247, F249, F251, F253, F255, F257, hn60, hl12, hf6, hc60, hs40, hga, hgr, hln, hk5, hk4, hfi, hpi, har, hgf, hfz, hgc, hG, hsq, hei, hmi, kne, hca, hcr, hlk⟩⟩ (Nat.le_of_ble_eq_true rfl) (Nat.le_of_ble_eq_true rfl) dX7_equal_32
abbrev rmX7_hash : Room := { frames := 1, cells := 0, slots := 0, locals := 22 }
set_option maxHeartbeats 4000000 in
set_option maxRecDepth 100000 in
theorem k_X7_hash (l : Launch) (D : va_G) (cy : Nat → ClassId) (f : zM) (o : Nat) (fa : Nat) (fi : Nat) (nu : Nat) (fm : Nat) (co : Nat) (en : Nat) (ke : Nat) (ev : Nat) (al : Nat) (ra : Nat) (kn : Nat) (vq : Nat) (ge : Nat → Option Nat) (ea : Nat → Nat) (ma : Nat → Nat) (u1 : Int32) (u2 : Int32) (u3 : Int32) (gv : Nat → Int32) (nl : Nat) (gu : Nat → Int32) (nn : Nat) (ga : Nat → Option Nat) (gr : Nat → Option Nat) (fg : Nat → Nat) (pt : Nat → Nat) (kd : Nat → Int32) (ln : Nat → Nat) (pp : Nat → Nat → Int64) (wg : Nat → Int64) (wd : Nat → Int32) (hs : Nat → Int32) (bf : Nat → Int32) (nf : Nat) (gf : Nat → Option Nat) (fq : Nat → Nat) (fk : Nat → Nat) (fz : Nat → Nat) (fc : Nat → Nat → Int32) (nc : Nat) (gc : Nat → Option Nat) (cn : Nat → Nat) (ce : Nat → Int32) (cm : Nat → Int32) (sq : Nat → Nat) (mb : Nat → Nat → Int32) (ks : Nat) (kk : Nat → Int32) (kv : Nat → Int32) (lk : Int64) (x : Int32)    (hI : zIX cy f o fa fi nu fm co en ke ev al ra kn vq ge ea ma u1 u2 u3 gv nl gu nn ga gr fg pt kd ln pp wg wd hs bf nf gf fq fk fz fc nc gc cn ce cm sq mb ks kk kv lk) : zCi l D cy yX7_hash cX7_hash 3 (Option.some Jvm.ClassFile.FieldType.int) rmX7_hash [.ref o, .int x] f (fun (r : Int32) (f1 : zM) => ∃ (u11 : Int32) (u21 : Int32) (u31 : Int32) (gv1 : Nat → Int32) (nl1 : Nat) (gu1 : Nat → Int32) (nn1 : Nat) (ga1 : Nat → Option Nat) (gr1 : Nat → Option Nat) (fg1 : Nat → Nat) (pt1 : Nat → Nat) (kd1 : Nat → Int32) (ln1 : Nat → Nat) (pp1 : Nat → Nat → Int64) (wg1 : Nat → Int64) (wd1 : Nat → Int32) (hs1 : Nat → Int32) (bf1 : Nat → Int32) (nf1 : Nat) (gf1 : Nat → Option Nat) (fq1 : Nat → Nat) (fk1 : Nat → Nat) (fz1 : Nat → Nat) (fc1 : Nat → Nat → Int32) (nc1 : Nat) (gc1 : Nat → Option Nat) (cn1 : Nat → Nat) (ce1 : Nat → Int32) (cm1 : Nat → Int32) (sq1 : Nat → Nat) (mb1 : Nat → Nat → Int32) (ks1 : Nat) (kk1 : Nat → Int32) (kv1 : Nat → Int32) (lk1 : Int64), r = (q_hash nn hs x) ∧ (u11 = u1) ∧ (u21 = u2) ∧ (u31 = u3) ∧ (gv1 = gv) ∧ (nl1 = nl) ∧ (gu1 = gu) ∧ (nn1 = nn) ∧ (kd1 = kd) ∧ (ln1 = ln) ∧ (pp1 = pp) ∧ (wd1 = wd) ∧ (hs1 = hs) ∧ (nf1 = nf) ∧ (fz1 = fz) ∧ (fc1 = fc) ∧ (nc1 = nc) ∧ (ce1 = ce) ∧ (cm1 = cm) ∧ (sq1 = sq) ∧ (mb1 = mb) ∧ (ks1 = ks) ∧ (kk1 = kk) ∧ (kv1 = kv) ∧ (lk1 = lk) ∧ zIX cy f1 o fa fi nu fm co en ke ev al ra kn vq ge ea ma u11 u21 u31 gv1 nl1 gu1 nn1 ga1 gr1 fg1 pt1 kd1 ln1 pp1 wg1 wd1 hs1 bf1 nf1 gf1 fq1 fk1 fz1 fc1 nc1 gc1 cn1 ce1 cm1 sq1 mb1 ks1 kk1 kv1 lk1) := by
  intro sz
  refine z_body (by decide +kernel) (Nat.le_of_ble_eq_true rfl) ?_
  intro p e s m below meth c ls C hr hin hsz hz hl
  subst hsz
  have hx := C.1
  have hb := C.2.1
  have hA : ∀ q, s.heap.size ≤ q → zA f s.heap.size q := fun q h => Or.inr h
  have hS : va_S (zA f s.heap.size) s.heap s.heap [] := va_S.rf
  have hl : lv_has ls 3 [(0, .ref o), (1, .int x)] := hl
  obtain ⟨x_o, x_fa, x_ev, x_fi, x_al, x_ra, x_nu, x_fm, x_co, x_en, x_ke, x_kn, x_vq, hF, hP, hFq, hFk, hCn, hEa, hMa, hn60, hl12, hf6, hc60, hs40, hga, hgr, hln, hk5, hk4, hfi, hpi, har, hgf, hfz, hgc, hG, hsq, hei, hmi, kne, hca, hcr, hlk⟩ := id hI
  refine lv_aload_n hx hb dX7_hash_0 rfl (lv_at hl 0 rfl) ?_
  refine z_get (v := .ref fi) C hz x_o zl7 mFX7_19 (by decide) rfl dX7_hash_1 ?_
  refine lv_iload_n hx hb dX7_hash_4 rfl (lv_at hl 1 rfl) ?_
  refine lv_i2l (v := x.toInt64) hx hb dX7_hash_5 rfl ?_
  rcases z_findi x nn with ⟨ja, hja, hva⟩ | hva
  · have hFa : isF nn x = true := isF_t hn60 hja hva
    have hIa : fI x = ja := fI_of (by omega) hva
    have hNa : ¬ x = (-1) := by rw [hva]; exact z_nim1 (by omega)
    refine z_callVq (As := [.long x.toInt64]) C hz hS hA hl (k_X5_find_A l D cy f fi al ra ga nn fg x.toInt64 ja x_fi x_al hn60 hga (by rw [hva, nI_l (by omega)]) hja) zyX5_find mMX7_130 x_fi zl5 rfl rfl (Nat.le_of_ble_eq_true rfl) ⟨Nat.le_of_ble_eq_true rfl, Nat.le_of_ble_eq_true rfl⟩ ⟨Nat.le_of_ble_eq_true rfl, Nat.le_of_ble_eq_true rfl⟩ dX7_hash_6 (fun r f1 H locs h2 hz hS => ?_)
    obtain ⟨rfl, k3⟩ := h2
    refine W.eq (g2 := F0 m 9 ls [.ref (fg ja)]) rfl ?_
    refine lv_astore_n (lv' := [(2, .ref (fg ja)), (0, .ref o), (1, .int x)]) hx hb dX7_hash_9 rfl hl (by decide) rfl (fun ls hl => ?_)
    refine lv_aload_n hx hb dX7_hash_10 rfl (lv_at hl 0 rfl) ?_
    refine lv_ifnonnull (tgt := 18) hx hb dX7_hash_11 (by decide) ?_
    refine lv_aload_n hx hb dX7_hash_18 rfl (lv_at hl 0 rfl) ?_
    have F4 : ∀ i9 : Nat, i9 < nn → f1 (fg i9) = some (.inr (4, [.int (kd i9), .ref (pt i9), .long (wg i9), .int (wd i9), .int (nI i9), .int (hs i9), .int (bf i9)])) := fun i9 h9 => k3 _ _ (hF i9 h9) 
    have a5 : f1 (fg ja) = some (.inr (4, [.int (kd ja), .ref (pt ja), .long (wg ja), .int (wd ja), .int (nI ja), .int (hs ja), .int (bf ja)])) := F4 ja hja
    refine z_getN (v := .int (hs ja)) C hz a5 zl4 mFNX7_170 (by decide) rfl dX7_hash_19 ?_
    have a6 : f1 o = some (.inr (7, [.ref fa, .ref fi, .ref nu, .int (nI nl), .ref fm, .int (nI nf), .ref co, .int (nI nc), .ref en, .ref ke, .long lk])) := k3 _ _ x_o 
    have a7 : f1 fa = some (.inr (2, [.int u1, .int u2, .int u3, .ref ev])) := k3 _ _ x_fa 
    have a8 : f1 ev = some (.inl (cy 0, 8, .inl gv)) := k3 _ _ x_ev 
    have a9 : f1 fi = some (.inr (5, [.ref al, .ref ra, .int (nI nn)])) := k3 _ _ x_fi 
    have a10 : f1 al = some (.inl (cy 3, 60, .inr (.inr (.inr (.inr ga))))) := k3 _ _ x_al 
    have a11 : f1 ra = some (.inl (cy 3, 60, .inr (.inr (.inr (.inr gr))))) := k3 _ _ x_ra 
    have a12 : f1 nu = some (.inl (cy 0, 12, .inl gu)) := k3 _ _ x_nu 
    have a13 : f1 fm = some (.inl (cy 4, 6, .inr (.inr (.inr (.inr gf))))) := k3 _ _ x_fm 
    have a14 : f1 co = some (.inl (cy 5, 60, .inr (.inr (.inr (.inr gc))))) := k3 _ _ x_co 
    have a15 : f1 en = some (.inl (cy 6, 4, .inr (.inr (.inr (.inr ge))))) := k3 _ _ x_en 
    have a16 : f1 ke = some (.inr (6, [.ref kn, .ref vq, .int (nI ks)])) := k3 _ _ x_ke 
    have a17 : f1 kn = some (.inl (cy 0, 40, .inl kk)) := k3 _ _ x_kn 
    have a18 : f1 vq = some (.inl (cy 0, 40, .inl kv)) := k3 _ _ x_vq 
    have F19 : ∀ i9 : Nat, i9 < nn → f1 (pt i9) = some (.inl (cy 1, (ln i9), .inr (.inl (pp i9)))) := fun i9 h9 => k3 _ _ (hP i9 h9) 
    have F20 : ∀ i9 : Nat, i9 < nf → f1 (fq i9) = some (.inr (3, [.ref (fk i9), .int (nI (fz i9))])) := fun i9 h9 => k3 _ _ (hFq i9 h9) 
    have F21 : ∀ i9 : Nat, i9 < nf → f1 (fk i9) = some (.inl (cy 0, 4, .inl (fc i9))) := fun i9 h9 => k3 _ _ (hFk i9 h9) 
    have F22 : ∀ i9 : Nat, i9 < nc → f1 (cn i9) = some (.inr (0, [.int (ce i9), .int (cm i9)])) := fun i9 h9 => k3 _ _ (hCn i9 h9) 
    have F23 : ∀ i9 : Nat, i9 < 4 → f1 (ea i9) = some (.inr (1, [.ref (ma i9), .int (nI (sq i9))])) := fun i9 h9 => k3 _ _ (hEa i9 h9) 
    have F24 : ∀ i9 : Nat, i9 < 4 → f1 (ma i9) = some (.inl (cy 0, 60, .inl (mb i9))) := fun i9 h9 => k3 _ _ (hMa i9 h9) 
    exact z_iret C hr rfl hz hS ⟨u1, u2, u3, gv, nl, gu, nn, ga, gr, fg, pt, kd, ln, pp, wg, wd, hs, bf, nf, gf, fq, fk, fz, fc, nc, gc, cn, ce, cm, sq, mb, ks, kk, kv, lk, (by simp [q_hash, hFa, hIa, hNa]), rfl, rfl, rfl, rfl, rfl, rfl, rfl, rfl, rfl, rfl, rfl, rfl, rfl, rfl, rfl, rfl, rfl, rfl, rfl, rfl, rfl, rfl, rfl, rfl, ⟨a6, a7, a8, a9, a10, a11, a12, a13, a14, a15, a16, a17, a18, F4, F19, F20, F21, F22, F23, F24, hn60, hl12, hf6, hc60, hs40, hga, hgr, hln, hk5, hk4, hfi, hpi, har, hgf, hfz, hgc, hG, hsq, hei, hmi, kne, hca, hcr, hlk⟩⟩ (Nat.le_of_ble_eq_true rfl) (Nat.le_of_ble_eq_true rfl) dX7_hash_22
  · have hFa : isF nn x = false := isF_f hn60 hva
    refine z_callVq (As := [.long x.toInt64]) C hz hS hA hl (k_X5_find_B l D cy f fi al ra nn x.toInt64 x_fi hn60 (fun i9 h9 q9 => hva i9 h9 (z_toL (by omega) q9))) zyX5_find mMX7_130 x_fi zl5 rfl rfl (Nat.le_of_ble_eq_true rfl) ⟨Nat.le_of_ble_eq_true rfl, Nat.le_of_ble_eq_true rfl⟩ ⟨Nat.le_of_ble_eq_true rfl, Nat.le_of_ble_eq_true rfl⟩ dX7_hash_6 (fun r f25 H locs h26 hz hS => ?_)
    obtain ⟨rfl, k27⟩ := h26
    refine W.eq (g2 := F0 m 9 ls [.null]) rfl ?_
    refine lv_astore_nN (lv' := [(2, .null), (0, .ref o), (1, .int x)]) hx hb dX7_hash_9 rfl hl (by decide) rfl (fun ls hl => ?_)
    refine lv_aload_nN hx hb dX7_hash_10 rfl (lv_at hl 0 rfl) ?_
    refine lv_ifnonnullN hx hb dX7_hash_11 ?_
    refine lv_iconst (v := 0) hx hb dX7_hash_14 (by decide) ?_
    refine lv_goto (tgt := 22) hx hb dX7_hash_15 (by decide) ?_
    have a28 : f25 o = some (.inr (7, [.ref fa, .ref fi, .ref nu, .int (nI nl), .ref fm, .int (nI nf), .ref co, .int (nI nc), .ref en, .ref ke, .long lk])) := k27 _ _ x_o 
    have a29 : f25 fa = some (.inr (2, [.int u1, .int u2, .int u3, .ref ev])) := k27 _ _ x_fa 
    have a30 : f25 ev = some (.inl (cy 0, 8, .inl gv)) := k27 _ _ x_ev 
    have a31 : f25 fi = some (.inr (5, [.ref al, .ref ra, .int (nI nn)])) := k27 _ _ x_fi 
    have a32 : f25 al = some (.inl (cy 3, 60, .inr (.inr (.inr (.inr ga))))) := k27 _ _ x_al 
    have a33 : f25 ra = some (.inl (cy 3, 60, .inr (.inr (.inr (.inr gr))))) := k27 _ _ x_ra 
    have a34 : f25 nu = some (.inl (cy 0, 12, .inl gu)) := k27 _ _ x_nu 
    have a35 : f25 fm = some (.inl (cy 4, 6, .inr (.inr (.inr (.inr gf))))) := k27 _ _ x_fm 
    have a36 : f25 co = some (.inl (cy 5, 60, .inr (.inr (.inr (.inr gc))))) := k27 _ _ x_co 
    have a37 : f25 en = some (.inl (cy 6, 4, .inr (.inr (.inr (.inr ge))))) := k27 _ _ x_en 
    have a38 : f25 ke = some (.inr (6, [.ref kn, .ref vq, .int (nI ks)])) := k27 _ _ x_ke 
    have a39 : f25 kn = some (.inl (cy 0, 40, .inl kk)) := k27 _ _ x_kn 
    have a40 : f25 vq = some (.inl (cy 0, 40, .inl kv)) := k27 _ _ x_vq 
    have F41 : ∀ i9 : Nat, i9 < nn → f25 (fg i9) = some (.inr (4, [.int (kd i9), .ref (pt i9), .long (wg i9), .int (wd i9), .int (nI i9), .int (hs i9), .int (bf i9)])) := fun i9 h9 => k27 _ _ (hF i9 h9) 
    have F42 : ∀ i9 : Nat, i9 < nn → f25 (pt i9) = some (.inl (cy 1, (ln i9), .inr (.inl (pp i9)))) := fun i9 h9 => k27 _ _ (hP i9 h9) 
    have F43 : ∀ i9 : Nat, i9 < nf → f25 (fq i9) = some (.inr (3, [.ref (fk i9), .int (nI (fz i9))])) := fun i9 h9 => k27 _ _ (hFq i9 h9) 
    have F44 : ∀ i9 : Nat, i9 < nf → f25 (fk i9) = some (.inl (cy 0, 4, .inl (fc i9))) := fun i9 h9 => k27 _ _ (hFk i9 h9) 
    have F45 : ∀ i9 : Nat, i9 < nc → f25 (cn i9) = some (.inr (0, [.int (ce i9), .int (cm i9)])) := fun i9 h9 => k27 _ _ (hCn i9 h9) 
    have F46 : ∀ i9 : Nat, i9 < 4 → f25 (ea i9) = some (.inr (1, [.ref (ma i9), .int (nI (sq i9))])) := fun i9 h9 => k27 _ _ (hEa i9 h9) 
    have F47 : ∀ i9 : Nat, i9 < 4 → f25 (ma i9) = some (.inl (cy 0, 60, .inl (mb i9))) := fun i9 h9 => k27 _ _ (hMa i9 h9) 
    exact z_iret C hr rfl hz hS ⟨u1, u2, u3, gv, nl, gu, nn, ga, gr, fg, pt, kd, ln, pp, wg, wd, hs, bf, nf, gf, fq, fk, fz, fc, nc, gc, cn, ce, cm, sq, mb, ks, kk, kv, lk, (by simp [q_hash, hFa]), rfl, rfl, rfl, rfl, rfl, rfl, rfl, rfl, rfl, rfl, rfl, rfl, rfl, rfl, rfl, rfl, rfl, rfl, rfl, rfl, rfl, rfl, rfl, rfl, ⟨a28, a29, a30, a31, a32, a33, a34, a35, a36, a37, a38, a39, a40, F41, F42, F43, F44, F45, F46, F47, hn60, hl12, hf6, hc60, hs40, hga, hgr, hln, hk5, hk4, hfi, hpi, har, hgf, hfz, hgc, hG, hsq, hei, hmi, kne, hca, hcr, hlk⟩⟩ (Nat.le_of_ble_eq_true rfl) (Nat.le_of_ble_eq_true rfl) dX7_hash_22
abbrev rmX7_order : Room := { frames := 1, cells := 0, slots := 0, locals := 22 }
set_option maxHeartbeats 4000000 in
set_option maxRecDepth 100000 in
theorem k_X7_order (l : Launch) (D : va_G) (cy : Nat → ClassId) (f : zM) (o : Nat) (fa : Nat) (fi : Nat) (nu : Nat) (fm : Nat) (co : Nat) (en : Nat) (ke : Nat) (ev : Nat) (al : Nat) (ra : Nat) (kn : Nat) (vq : Nat) (ge : Nat → Option Nat) (ea : Nat → Nat) (ma : Nat → Nat) (u1 : Int32) (u2 : Int32) (u3 : Int32) (gv : Nat → Int32) (nl : Nat) (gu : Nat → Int32) (nn : Nat) (ga : Nat → Option Nat) (gr : Nat → Option Nat) (fg : Nat → Nat) (pt : Nat → Nat) (kd : Nat → Int32) (ln : Nat → Nat) (pp : Nat → Nat → Int64) (wg : Nat → Int64) (wd : Nat → Int32) (hs : Nat → Int32) (bf : Nat → Int32) (nf : Nat) (gf : Nat → Option Nat) (fq : Nat → Nat) (fk : Nat → Nat) (fz : Nat → Nat) (fc : Nat → Nat → Int32) (nc : Nat) (gc : Nat → Option Nat) (cn : Nat → Nat) (ce : Nat → Int32) (cm : Nat → Int32) (sq : Nat → Nat) (mb : Nat → Nat → Int32) (ks : Nat) (kk : Nat → Int32) (kv : Nat → Int32) (lk : Int64) (x : Int32) (y : Int32)    (hI : zIX cy f o fa fi nu fm co en ke ev al ra kn vq ge ea ma u1 u2 u3 gv nl gu nn ga gr fg pt kd ln pp wg wd hs bf nf gf fq fk fz fc nc gc cn ce cm sq mb ks kk kv lk) : zCi l D cy yX7_order cX7_order 5 (Option.some Jvm.ClassFile.FieldType.int) rmX7_order [.ref o, .int x, .int y] f (fun (r : Int32) (f1 : zM) => ∃ (u11 : Int32) (u21 : Int32) (u31 : Int32) (gv1 : Nat → Int32) (nl1 : Nat) (gu1 : Nat → Int32) (nn1 : Nat) (ga1 : Nat → Option Nat) (gr1 : Nat → Option Nat) (fg1 : Nat → Nat) (pt1 : Nat → Nat) (kd1 : Nat → Int32) (ln1 : Nat → Nat) (pp1 : Nat → Nat → Int64) (wg1 : Nat → Int64) (wd1 : Nat → Int32) (hs1 : Nat → Int32) (bf1 : Nat → Int32) (nf1 : Nat) (gf1 : Nat → Option Nat) (fq1 : Nat → Nat) (fk1 : Nat → Nat) (fz1 : Nat → Nat) (fc1 : Nat → Nat → Int32) (nc1 : Nat) (gc1 : Nat → Option Nat) (cn1 : Nat → Nat) (ce1 : Nat → Int32) (cm1 : Nat → Int32) (sq1 : Nat → Nat) (mb1 : Nat → Nat → Int32) (ks1 : Nat) (kk1 : Nat → Int32) (kv1 : Nat → Int32) (lk1 : Int64), (u11 = u1) ∧ (u21 = u2) ∧ (u31 = u3) ∧ (gv1 = gv) ∧ (nl1 = nl) ∧ (gu1 = gu) ∧ (nn1 = nn) ∧ (kd1 = kd) ∧ (ln1 = ln) ∧ (pp1 = pp) ∧ (wd1 = wd) ∧ (hs1 = hs) ∧ (nf1 = nf) ∧ (fz1 = fz) ∧ (fc1 = fc) ∧ (nc1 = nc) ∧ (ce1 = ce) ∧ (cm1 = cm) ∧ (sq1 = sq) ∧ (mb1 = mb) ∧ (ks1 = ks) ∧ (kk1 = kk) ∧ (kv1 = kv) ∧ (lk1 = lk) ∧ zIX cy f1 o fa fi nu fm co en ke ev al ra kn vq ge ea ma u11 u21 u31 gv1 nl1 gu1 nn1 ga1 gr1 fg1 pt1 kd1 ln1 pp1 wg1 wd1 hs1 bf1 nf1 gf1 fq1 fk1 fz1 fc1 nc1 gc1 cn1 ce1 cm1 sq1 mb1 ks1 kk1 kv1 lk1) := by
  intro sz
  refine z_body (by decide +kernel) (Nat.le_of_ble_eq_true rfl) ?_
  intro p e s m below meth c ls C hr hin hsz hz hl
  subst hsz
  have hx := C.1
  have hb := C.2.1
  have hA : ∀ q, s.heap.size ≤ q → zA f s.heap.size q := fun q h => Or.inr h
  have hS : va_S (zA f s.heap.size) s.heap s.heap [] := va_S.rf
  have hl : lv_has ls 5 [(0, .ref o), (1, .int x), (2, .int y)] := hl
  obtain ⟨x_o, x_fa, x_ev, x_fi, x_al, x_ra, x_nu, x_fm, x_co, x_en, x_ke, x_kn, x_vq, hF, hP, hFq, hFk, hCn, hEa, hMa, hn60, hl12, hf6, hc60, hs40, hga, hgr, hln, hk5, hk4, hfi, hpi, har, hgf, hfz, hgc, hG, hsq, hei, hmi, kne, hca, hcr, hlk⟩ := id hI
  refine lv_aload_n hx hb dX7_order_0 rfl (lv_at hl 0 rfl) ?_
  refine z_get (v := .ref fi) C hz x_o zl7 mFX7_19 (by decide) rfl dX7_order_1 ?_
  refine lv_iload_n hx hb dX7_order_4 rfl (lv_at hl 1 rfl) ?_
  refine lv_i2l (v := x.toInt64) hx hb dX7_order_5 rfl ?_
  rcases z_findi x nn with ⟨ja, hja, hva⟩ | hva
  · have hFa : isF nn x = true := isF_t hn60 hja hva
    have hIa : fI x = ja := fI_of (by omega) hva
    have hNa : ¬ x = (-1) := by rw [hva]; exact z_nim1 (by omega)
    refine z_callVq (As := [.long x.toInt64]) C hz hS hA hl (k_X5_find_A l D cy f fi al ra ga nn fg x.toInt64 ja x_fi x_al hn60 hga (by rw [hva, nI_l (by omega)]) hja) zyX5_find mMX7_130 x_fi zl5 rfl rfl (Nat.le_of_ble_eq_true rfl) ⟨Nat.le_of_ble_eq_true rfl, Nat.le_of_ble_eq_true rfl⟩ ⟨Nat.le_of_ble_eq_true rfl, Nat.le_of_ble_eq_true rfl⟩ dX7_order_6 (fun r f1 H locs h2 hz hS => ?_)
    obtain ⟨rfl, k3⟩ := h2
    refine W.eq (g2 := F0 m 9 ls [.ref (fg ja)]) rfl ?_
    refine lv_astore_n (lv' := [(3, .ref (fg ja)), (0, .ref o), (1, .int x), (2, .int y)]) hx hb dX7_order_9 rfl hl (by decide) rfl (fun ls hl => ?_)
    refine lv_aload_n hx hb dX7_order_10 rfl (lv_at hl 1 rfl) ?_
    have a4 : f1 o = some (.inr (7, [.ref fa, .ref fi, .ref nu, .int (nI nl), .ref fm, .int (nI nf), .ref co, .int (nI nc), .ref en, .ref ke, .long lk])) := k3 _ _ x_o 
    refine z_get (v := .ref fi) C hz a4 zl7 mFX7_19 (by decide) rfl dX7_order_11 ?_
    refine lv_iload_n hx hb dX7_order_14 rfl (lv_at hl 3 rfl) ?_
    refine lv_i2l (v := y.toInt64) hx hb dX7_order_15 rfl ?_
    rcases z_findi y nn with ⟨jb, hjb, hvb⟩ | hvb
    · have hFb : isF nn y = true := isF_t hn60 hjb hvb
      have hIb : fI y = jb := fI_of (by omega) hvb
      have hNb : ¬ y = (-1) := by rw [hvb]; exact z_nim1 (by omega)
      have a5 : f1 fi = some (.inr (5, [.ref al, .ref ra, .int (nI nn)])) := k3 _ _ x_fi 
      have a6 : f1 al = some (.inl (cy 3, 60, .inr (.inr (.inr (.inr ga))))) := k3 _ _ x_al 
      refine z_callVq (As := [.long y.toInt64]) C hz hS hA hl (k_X5_find_A l D cy f1 fi al ra ga nn fg y.toInt64 jb a5 a6 hn60 hga (by rw [hvb, nI_l (by omega)]) hjb) zyX5_find mMX7_130 a5 zl5 rfl rfl (Nat.le_of_ble_eq_true rfl) ⟨Nat.le_of_ble_eq_true rfl, Nat.le_of_ble_eq_true rfl⟩ ⟨Nat.le_of_ble_eq_true rfl, Nat.le_of_ble_eq_true rfl⟩ dX7_order_16 (fun r f7 H locs h8 hz hS => ?_)
      obtain ⟨rfl, k9⟩ := h8
      refine W.eq (g2 := F0 m 19 ls [.ref (fg jb)]) rfl ?_
      refine lv_astore (lv' := [(4, .ref (fg jb)), (3, .ref (fg ja)), (0, .ref o), (1, .int x), (2, .int y)]) hx hb dX7_order_19 hl (by decide) rfl (fun ls hl => ?_)
      refine lv_aload_n hx hb dX7_order_21 rfl (lv_at hl 1 rfl) ?_
      refine lv_ifnull hx hb dX7_order_22 ?_
      refine lv_aload hx hb dX7_order_25 (lv_at hl 0 rfl) ?_
      refine lv_ifnonnull (tgt := 33) hx hb dX7_order_27 (by decide) ?_
      refine lv_aload_n hx hb dX7_order_33 rfl (lv_at hl 1 rfl) ?_
      have F10 : ∀ i9 : Nat, i9 < nn → f1 (fg i9) = some (.inr (4, [.int (kd i9), .ref (pt i9), .long (wg i9), .int (wd i9), .int (nI i9), .int (hs i9), .int (bf i9)])) := fun i9 h9 => k3 _ _ (hF i9 h9) 
      have F11 : ∀ i9 : Nat, i9 < nn → f7 (fg i9) = some (.inr (4, [.int (kd i9), .ref (pt i9), .long (wg i9), .int (wd i9), .int (nI i9), .int (hs i9), .int (bf i9)])) := fun i9 h9 => k9 _ _ (F10 i9 h9) 
      have a12 : f7 (fg ja) = some (.inr (4, [.int (kd ja), .ref (pt ja), .long (wg ja), .int (wd ja), .int (nI ja), .int (hs ja), .int (bf ja)])) := F11 ja hja
      refine z_getN (v := .int (bf ja)) C hz a12 zl4 mFNX7_173 (by decide) rfl dX7_order_34 ?_
      refine lv_aload hx hb dX7_order_37 (lv_at hl 0 rfl) ?_
      have a13 : f7 (fg jb) = some (.inr (4, [.int (kd jb), .ref (pt jb), .long (wg jb), .int (wd jb), .int (nI jb), .int (hs jb), .int (bf jb)])) := F11 jb hjb
      refine z_getN (v := .int (bf jb)) C hz a13 zl4 mFNX7_173 (by decide) rfl dX7_order_39 ?_
      refine z_callSi (As := [.int (bf ja), .int (bf jb)]) C hz hS hA hl (k_J6_compare_7cf53 l D cy f7 (bf ja) (bf jb)  ) zyJ6_compare_7cf53 mMX7_176 rfl rfl (Nat.le_of_ble_eq_true rfl) ⟨Nat.le_of_ble_eq_true rfl, Nat.le_of_ble_eq_true rfl⟩ ⟨Nat.le_of_ble_eq_true rfl, Nat.le_of_ble_eq_true rfl⟩ dX7_order_42 (fun r16 f14 H locs h15 hz hS => ?_)
      have k17 := h15
      have a18 : f7 o = some (.inr (7, [.ref fa, .ref fi, .ref nu, .int (nI nl), .ref fm, .int (nI nf), .ref co, .int (nI nc), .ref en, .ref ke, .long lk])) := k9 _ _ a4 
      have a19 : f14 o = some (.inr (7, [.ref fa, .ref fi, .ref nu, .int (nI nl), .ref fm, .int (nI nf), .ref co, .int (nI nc), .ref en, .ref ke, .long lk])) := k17 _ _ a18 
      have a20 : f1 fa = some (.inr (2, [.int u1, .int u2, .int u3, .ref ev])) := k3 _ _ x_fa 
      have a21 : f7 fa = some (.inr (2, [.int u1, .int u2, .int u3, .ref ev])) := k9 _ _ a20 
      have a22 : f14 fa = some (.inr (2, [.int u1, .int u2, .int u3, .ref ev])) := k17 _ _ a21 
      have a23 : f1 ev = some (.inl (cy 0, 8, .inl gv)) := k3 _ _ x_ev 
      have a24 : f7 ev = some (.inl (cy 0, 8, .inl gv)) := k9 _ _ a23 
      have a25 : f14 ev = some (.inl (cy 0, 8, .inl gv)) := k17 _ _ a24 
      have a26 : f7 fi = some (.inr (5, [.ref al, .ref ra, .int (nI nn)])) := k9 _ _ a5 
      have a27 : f14 fi = some (.inr (5, [.ref al, .ref ra, .int (nI nn)])) := k17 _ _ a26 
      have a28 : f7 al = some (.inl (cy 3, 60, .inr (.inr (.inr (.inr ga))))) := k9 _ _ a6 
      have a29 : f14 al = some (.inl (cy 3, 60, .inr (.inr (.inr (.inr ga))))) := k17 _ _ a28 
      have a30 : f1 ra = some (.inl (cy 3, 60, .inr (.inr (.inr (.inr gr))))) := k3 _ _ x_ra 
      have a31 : f7 ra = some (.inl (cy 3, 60, .inr (.inr (.inr (.inr gr))))) := k9 _ _ a30 
      have a32 : f14 ra = some (.inl (cy 3, 60, .inr (.inr (.inr (.inr gr))))) := k17 _ _ a31 
      have a33 : f1 nu = some (.inl (cy 0, 12, .inl gu)) := k3 _ _ x_nu 
      have a34 : f7 nu = some (.inl (cy 0, 12, .inl gu)) := k9 _ _ a33 
      have a35 : f14 nu = some (.inl (cy 0, 12, .inl gu)) := k17 _ _ a34 
      have a36 : f1 fm = some (.inl (cy 4, 6, .inr (.inr (.inr (.inr gf))))) := k3 _ _ x_fm 
      have a37 : f7 fm = some (.inl (cy 4, 6, .inr (.inr (.inr (.inr gf))))) := k9 _ _ a36 
      have a38 : f14 fm = some (.inl (cy 4, 6, .inr (.inr (.inr (.inr gf))))) := k17 _ _ a37 
      have a39 : f1 co = some (.inl (cy 5, 60, .inr (.inr (.inr (.inr gc))))) := k3 _ _ x_co 
      have a40 : f7 co = some (.inl (cy 5, 60, .inr (.inr (.inr (.inr gc))))) := k9 _ _ a39 
      have a41 : f14 co = some (.inl (cy 5, 60, .inr (.inr (.inr (.inr gc))))) := k17 _ _ a40 
      have a42 : f1 en = some (.inl (cy 6, 4, .inr (.inr (.inr (.inr ge))))) := k3 _ _ x_en 
      have a43 : f7 en = some (.inl (cy 6, 4, .inr (.inr (.inr (.inr ge))))) := k9 _ _ a42 
      have a44 : f14 en = some (.inl (cy 6, 4, .inr (.inr (.inr (.inr ge))))) := k17 _ _ a43 
      have a45 : f1 ke = some (.inr (6, [.ref kn, .ref vq, .int (nI ks)])) := k3 _ _ x_ke 
      have a46 : f7 ke = some (.inr (6, [.ref kn, .ref vq, .int (nI ks)])) := k9 _ _ a45 
      have a47 : f14 ke = some (.inr (6, [.ref kn, .ref vq, .int (nI ks)])) := k17 _ _ a46 
      have a48 : f1 kn = some (.inl (cy 0, 40, .inl kk)) := k3 _ _ x_kn 
      have a49 : f7 kn = some (.inl (cy 0, 40, .inl kk)) := k9 _ _ a48 
      have a50 : f14 kn = some (.inl (cy 0, 40, .inl kk)) := k17 _ _ a49 
      have a51 : f1 vq = some (.inl (cy 0, 40, .inl kv)) := k3 _ _ x_vq 
      have a52 : f7 vq = some (.inl (cy 0, 40, .inl kv)) := k9 _ _ a51 
      have a53 : f14 vq = some (.inl (cy 0, 40, .inl kv)) := k17 _ _ a52 
      have F54 : ∀ i9 : Nat, i9 < nn → f14 (fg i9) = some (.inr (4, [.int (kd i9), .ref (pt i9), .long (wg i9), .int (wd i9), .int (nI i9), .int (hs i9), .int (bf i9)])) := fun i9 h9 => k17 _ _ (F11 i9 h9) 
      have F55 : ∀ i9 : Nat, i9 < nn → f1 (pt i9) = some (.inl (cy 1, (ln i9), .inr (.inl (pp i9)))) := fun i9 h9 => k3 _ _ (hP i9 h9) 
      have F56 : ∀ i9 : Nat, i9 < nn → f7 (pt i9) = some (.inl (cy 1, (ln i9), .inr (.inl (pp i9)))) := fun i9 h9 => k9 _ _ (F55 i9 h9) 
      have F57 : ∀ i9 : Nat, i9 < nn → f14 (pt i9) = some (.inl (cy 1, (ln i9), .inr (.inl (pp i9)))) := fun i9 h9 => k17 _ _ (F56 i9 h9) 
      have F58 : ∀ i9 : Nat, i9 < nf → f1 (fq i9) = some (.inr (3, [.ref (fk i9), .int (nI (fz i9))])) := fun i9 h9 => k3 _ _ (hFq i9 h9) 
      have F59 : ∀ i9 : Nat, i9 < nf → f7 (fq i9) = some (.inr (3, [.ref (fk i9), .int (nI (fz i9))])) := fun i9 h9 => k9 _ _ (F58 i9 h9) 
      have F60 : ∀ i9 : Nat, i9 < nf → f14 (fq i9) = some (.inr (3, [.ref (fk i9), .int (nI (fz i9))])) := fun i9 h9 => k17 _ _ (F59 i9 h9) 
      have F61 : ∀ i9 : Nat, i9 < nf → f1 (fk i9) = some (.inl (cy 0, 4, .inl (fc i9))) := fun i9 h9 => k3 _ _ (hFk i9 h9) 
      have F62 : ∀ i9 : Nat, i9 < nf → f7 (fk i9) = some (.inl (cy 0, 4, .inl (fc i9))) := fun i9 h9 => k9 _ _ (F61 i9 h9) 
      have F63 : ∀ i9 : Nat, i9 < nf → f14 (fk i9) = some (.inl (cy 0, 4, .inl (fc i9))) := fun i9 h9 => k17 _ _ (F62 i9 h9) 
      have F64 : ∀ i9 : Nat, i9 < nc → f1 (cn i9) = some (.inr (0, [.int (ce i9), .int (cm i9)])) := fun i9 h9 => k3 _ _ (hCn i9 h9) 
      have F65 : ∀ i9 : Nat, i9 < nc → f7 (cn i9) = some (.inr (0, [.int (ce i9), .int (cm i9)])) := fun i9 h9 => k9 _ _ (F64 i9 h9) 
      have F66 : ∀ i9 : Nat, i9 < nc → f14 (cn i9) = some (.inr (0, [.int (ce i9), .int (cm i9)])) := fun i9 h9 => k17 _ _ (F65 i9 h9) 
      have F67 : ∀ i9 : Nat, i9 < 4 → f1 (ea i9) = some (.inr (1, [.ref (ma i9), .int (nI (sq i9))])) := fun i9 h9 => k3 _ _ (hEa i9 h9) 
      have F68 : ∀ i9 : Nat, i9 < 4 → f7 (ea i9) = some (.inr (1, [.ref (ma i9), .int (nI (sq i9))])) := fun i9 h9 => k9 _ _ (F67 i9 h9) 
      have F69 : ∀ i9 : Nat, i9 < 4 → f14 (ea i9) = some (.inr (1, [.ref (ma i9), .int (nI (sq i9))])) := fun i9 h9 => k17 _ _ (F68 i9 h9) 
      have F70 : ∀ i9 : Nat, i9 < 4 → f1 (ma i9) = some (.inl (cy 0, 60, .inl (mb i9))) := fun i9 h9 => k3 _ _ (hMa i9 h9) 
      have F71 : ∀ i9 : Nat, i9 < 4 → f7 (ma i9) = some (.inl (cy 0, 60, .inl (mb i9))) := fun i9 h9 => k9 _ _ (F70 i9 h9) 
      have F72 : ∀ i9 : Nat, i9 < 4 → f14 (ma i9) = some (.inl (cy 0, 60, .inl (mb i9))) := fun i9 h9 => k17 _ _ (F71 i9 h9) 
      exact z_iret C hr rfl hz hS ⟨u1, u2, u3, gv, nl, gu, nn, ga, gr, fg, pt, kd, ln, pp, wg, wd, hs, bf, nf, gf, fq, fk, fz, fc, nc, gc, cn, ce, cm, sq, mb, ks, kk, kv, lk, rfl, rfl, rfl, rfl, rfl, rfl, rfl, rfl, rfl, rfl, rfl, rfl, rfl, rfl, rfl, rfl, rfl, rfl, rfl, rfl, rfl, rfl, rfl, rfl, ⟨a19, a22, a25, a27, a29, a32, a35, a38, a41, a44, a47, a50, a53, F54, F57, F60, F63, F66, F69, F72, hn60, hl12, hf6, hc60, hs40, hga, hgr, hln, hk5, hk4, hfi, hpi, har, hgf, hfz, hgc, hG, hsq, hei, hmi, kne, hca, hcr, hlk⟩⟩ (Nat.le_of_ble_eq_true rfl) (Nat.le_of_ble_eq_true rfl) dX7_order_45
    · have hFb : isF nn y = false := isF_f hn60 hvb
      have a73 : f1 fi = some (.inr (5, [.ref al, .ref ra, .int (nI nn)])) := k3 _ _ x_fi 
      refine z_callVq (As := [.long y.toInt64]) C hz hS hA hl (k_X5_find_B l D cy f1 fi al ra nn y.toInt64 a73 hn60 (fun i9 h9 q9 => hvb i9 h9 (z_toL (by omega) q9))) zyX5_find mMX7_130 a73 zl5 rfl rfl (Nat.le_of_ble_eq_true rfl) ⟨Nat.le_of_ble_eq_true rfl, Nat.le_of_ble_eq_true rfl⟩ ⟨Nat.le_of_ble_eq_true rfl, Nat.le_of_ble_eq_true rfl⟩ dX7_order_16 (fun r f74 H locs h75 hz hS => ?_)
      obtain ⟨rfl, k76⟩ := h75
      refine W.eq (g2 := F0 m 19 ls [.null]) rfl ?_
      refine lv_astoreN (lv' := [(4, .null), (3, .ref (fg ja)), (0, .ref o), (1, .int x), (2, .int y)]) hx hb dX7_order_19 hl (by decide) rfl (fun ls hl => ?_)
      refine lv_aload_n hx hb dX7_order_21 rfl (lv_at hl 1 rfl) ?_
      refine lv_ifnull hx hb dX7_order_22 ?_
      refine lv_aloadN hx hb dX7_order_25 (lv_at hl 0 rfl) ?_
      refine lv_ifnonnullN hx hb dX7_order_27 ?_
      refine lv_bipush (v := (-2)) hx hb dX7_order_30 (by decide) ?_
      have a77 : f74 o = some (.inr (7, [.ref fa, .ref fi, .ref nu, .int (nI nl), .ref fm, .int (nI nf), .ref co, .int (nI nc), .ref en, .ref ke, .long lk])) := k76 _ _ a4 
      have a78 : f1 fa = some (.inr (2, [.int u1, .int u2, .int u3, .ref ev])) := k3 _ _ x_fa 
      have a79 : f74 fa = some (.inr (2, [.int u1, .int u2, .int u3, .ref ev])) := k76 _ _ a78 
      have a80 : f1 ev = some (.inl (cy 0, 8, .inl gv)) := k3 _ _ x_ev 
      have a81 : f74 ev = some (.inl (cy 0, 8, .inl gv)) := k76 _ _ a80 
      have a82 : f74 fi = some (.inr (5, [.ref al, .ref ra, .int (nI nn)])) := k76 _ _ a73 
      have a83 : f1 al = some (.inl (cy 3, 60, .inr (.inr (.inr (.inr ga))))) := k3 _ _ x_al 
      have a84 : f74 al = some (.inl (cy 3, 60, .inr (.inr (.inr (.inr ga))))) := k76 _ _ a83 
      have a85 : f1 ra = some (.inl (cy 3, 60, .inr (.inr (.inr (.inr gr))))) := k3 _ _ x_ra 
      have a86 : f74 ra = some (.inl (cy 3, 60, .inr (.inr (.inr (.inr gr))))) := k76 _ _ a85 
      have a87 : f1 nu = some (.inl (cy 0, 12, .inl gu)) := k3 _ _ x_nu 
      have a88 : f74 nu = some (.inl (cy 0, 12, .inl gu)) := k76 _ _ a87 
      have a89 : f1 fm = some (.inl (cy 4, 6, .inr (.inr (.inr (.inr gf))))) := k3 _ _ x_fm 
      have a90 : f74 fm = some (.inl (cy 4, 6, .inr (.inr (.inr (.inr gf))))) := k76 _ _ a89 
      have a91 : f1 co = some (.inl (cy 5, 60, .inr (.inr (.inr (.inr gc))))) := k3 _ _ x_co 
      have a92 : f74 co = some (.inl (cy 5, 60, .inr (.inr (.inr (.inr gc))))) := k76 _ _ a91 
      have a93 : f1 en = some (.inl (cy 6, 4, .inr (.inr (.inr (.inr ge))))) := k3 _ _ x_en 
      have a94 : f74 en = some (.inl (cy 6, 4, .inr (.inr (.inr (.inr ge))))) := k76 _ _ a93 
      have a95 : f1 ke = some (.inr (6, [.ref kn, .ref vq, .int (nI ks)])) := k3 _ _ x_ke 
      have a96 : f74 ke = some (.inr (6, [.ref kn, .ref vq, .int (nI ks)])) := k76 _ _ a95 
      have a97 : f1 kn = some (.inl (cy 0, 40, .inl kk)) := k3 _ _ x_kn 
      have a98 : f74 kn = some (.inl (cy 0, 40, .inl kk)) := k76 _ _ a97 
      have a99 : f1 vq = some (.inl (cy 0, 40, .inl kv)) := k3 _ _ x_vq 
      have a100 : f74 vq = some (.inl (cy 0, 40, .inl kv)) := k76 _ _ a99 
      have F101 : ∀ i9 : Nat, i9 < nn → f1 (fg i9) = some (.inr (4, [.int (kd i9), .ref (pt i9), .long (wg i9), .int (wd i9), .int (nI i9), .int (hs i9), .int (bf i9)])) := fun i9 h9 => k3 _ _ (hF i9 h9) 
      have F102 : ∀ i9 : Nat, i9 < nn → f74 (fg i9) = some (.inr (4, [.int (kd i9), .ref (pt i9), .long (wg i9), .int (wd i9), .int (nI i9), .int (hs i9), .int (bf i9)])) := fun i9 h9 => k76 _ _ (F101 i9 h9) 
      have F103 : ∀ i9 : Nat, i9 < nn → f1 (pt i9) = some (.inl (cy 1, (ln i9), .inr (.inl (pp i9)))) := fun i9 h9 => k3 _ _ (hP i9 h9) 
      have F104 : ∀ i9 : Nat, i9 < nn → f74 (pt i9) = some (.inl (cy 1, (ln i9), .inr (.inl (pp i9)))) := fun i9 h9 => k76 _ _ (F103 i9 h9) 
      have F105 : ∀ i9 : Nat, i9 < nf → f1 (fq i9) = some (.inr (3, [.ref (fk i9), .int (nI (fz i9))])) := fun i9 h9 => k3 _ _ (hFq i9 h9) 
      have F106 : ∀ i9 : Nat, i9 < nf → f74 (fq i9) = some (.inr (3, [.ref (fk i9), .int (nI (fz i9))])) := fun i9 h9 => k76 _ _ (F105 i9 h9) 
      have F107 : ∀ i9 : Nat, i9 < nf → f1 (fk i9) = some (.inl (cy 0, 4, .inl (fc i9))) := fun i9 h9 => k3 _ _ (hFk i9 h9) 
      have F108 : ∀ i9 : Nat, i9 < nf → f74 (fk i9) = some (.inl (cy 0, 4, .inl (fc i9))) := fun i9 h9 => k76 _ _ (F107 i9 h9) 
      have F109 : ∀ i9 : Nat, i9 < nc → f1 (cn i9) = some (.inr (0, [.int (ce i9), .int (cm i9)])) := fun i9 h9 => k3 _ _ (hCn i9 h9) 
      have F110 : ∀ i9 : Nat, i9 < nc → f74 (cn i9) = some (.inr (0, [.int (ce i9), .int (cm i9)])) := fun i9 h9 => k76 _ _ (F109 i9 h9) 
      have F111 : ∀ i9 : Nat, i9 < 4 → f1 (ea i9) = some (.inr (1, [.ref (ma i9), .int (nI (sq i9))])) := fun i9 h9 => k3 _ _ (hEa i9 h9) 
      have F112 : ∀ i9 : Nat, i9 < 4 → f74 (ea i9) = some (.inr (1, [.ref (ma i9), .int (nI (sq i9))])) := fun i9 h9 => k76 _ _ (F111 i9 h9) 
      have F113 : ∀ i9 : Nat, i9 < 4 → f1 (ma i9) = some (.inl (cy 0, 60, .inl (mb i9))) := fun i9 h9 => k3 _ _ (hMa i9 h9) 
      have F114 : ∀ i9 : Nat, i9 < 4 → f74 (ma i9) = some (.inl (cy 0, 60, .inl (mb i9))) := fun i9 h9 => k76 _ _ (F113 i9 h9) 
      exact z_iret C hr rfl hz hS ⟨u1, u2, u3, gv, nl, gu, nn, ga, gr, fg, pt, kd, ln, pp, wg, wd, hs, bf, nf, gf, fq, fk, fz, fc, nc, gc, cn, ce, cm, sq, mb, ks, kk, kv, lk, rfl, rfl, rfl, rfl, rfl, rfl, rfl, rfl, rfl, rfl, rfl, rfl, rfl, rfl, rfl, rfl, rfl, rfl, rfl, rfl, rfl, rfl, rfl, rfl, ⟨a77, a79, a81, a82, a84, a86, a88, a90, a92, a94, a96, a98, a100, F102, F104, F106, F108, F110, F112, F114, hn60, hl12, hf6, hc60, hs40, hga, hgr, hln, hk5, hk4, hfi, hpi, har, hgf, hfz, hgc, hG, hsq, hei, hmi, kne, hca, hcr, hlk⟩⟩ (Nat.le_of_ble_eq_true rfl) (Nat.le_of_ble_eq_true rfl) dX7_order_32
  · have hFa : isF nn x = false := isF_f hn60 hva
    refine z_callVq (As := [.long x.toInt64]) C hz hS hA hl (k_X5_find_B l D cy f fi al ra nn x.toInt64 x_fi hn60 (fun i9 h9 q9 => hva i9 h9 (z_toL (by omega) q9))) zyX5_find mMX7_130 x_fi zl5 rfl rfl (Nat.le_of_ble_eq_true rfl) ⟨Nat.le_of_ble_eq_true rfl, Nat.le_of_ble_eq_true rfl⟩ ⟨Nat.le_of_ble_eq_true rfl, Nat.le_of_ble_eq_true rfl⟩ dX7_order_6 (fun r f115 H locs h116 hz hS => ?_)
    obtain ⟨rfl, k117⟩ := h116
    refine W.eq (g2 := F0 m 9 ls [.null]) rfl ?_
    refine lv_astore_nN (lv' := [(3, .null), (0, .ref o), (1, .int x), (2, .int y)]) hx hb dX7_order_9 rfl hl (by decide) rfl (fun ls hl => ?_)
    refine lv_aload_n hx hb dX7_order_10 rfl (lv_at hl 1 rfl) ?_
    have a118 : f115 o = some (.inr (7, [.ref fa, .ref fi, .ref nu, .int (nI nl), .ref fm, .int (nI nf), .ref co, .int (nI nc), .ref en, .ref ke, .long lk])) := k117 _ _ x_o 
    refine z_get (v := .ref fi) C hz a118 zl7 mFX7_19 (by decide) rfl dX7_order_11 ?_
    refine lv_iload_n hx hb dX7_order_14 rfl (lv_at hl 3 rfl) ?_
    refine lv_i2l (v := y.toInt64) hx hb dX7_order_15 rfl ?_
    rcases z_findi y nn with ⟨jb, hjb, hvb⟩ | hvb
    · have hFb : isF nn y = true := isF_t hn60 hjb hvb
      have hIb : fI y = jb := fI_of (by omega) hvb
      have hNb : ¬ y = (-1) := by rw [hvb]; exact z_nim1 (by omega)
      have a119 : f115 fi = some (.inr (5, [.ref al, .ref ra, .int (nI nn)])) := k117 _ _ x_fi 
      have a120 : f115 al = some (.inl (cy 3, 60, .inr (.inr (.inr (.inr ga))))) := k117 _ _ x_al 
      refine z_callVq (As := [.long y.toInt64]) C hz hS hA hl (k_X5_find_A l D cy f115 fi al ra ga nn fg y.toInt64 jb a119 a120 hn60 hga (by rw [hvb, nI_l (by omega)]) hjb) zyX5_find mMX7_130 a119 zl5 rfl rfl (Nat.le_of_ble_eq_true rfl) ⟨Nat.le_of_ble_eq_true rfl, Nat.le_of_ble_eq_true rfl⟩ ⟨Nat.le_of_ble_eq_true rfl, Nat.le_of_ble_eq_true rfl⟩ dX7_order_16 (fun r f121 H locs h122 hz hS => ?_)
      obtain ⟨rfl, k123⟩ := h122
      refine W.eq (g2 := F0 m 19 ls [.ref (fg jb)]) rfl ?_
      refine lv_astore (lv' := [(4, .ref (fg jb)), (3, .null), (0, .ref o), (1, .int x), (2, .int y)]) hx hb dX7_order_19 hl (by decide) rfl (fun ls hl => ?_)
      refine lv_aload_nN hx hb dX7_order_21 rfl (lv_at hl 1 rfl) ?_
      refine lv_ifnullN (tgt := 30) hx hb dX7_order_22 (by decide) ?_
      refine lv_bipush (v := (-2)) hx hb dX7_order_30 (by decide) ?_
      have a124 : f121 o = some (.inr (7, [.ref fa, .ref fi, .ref nu, .int (nI nl), .ref fm, .int (nI nf), .ref co, .int (nI nc), .ref en, .ref ke, .long lk])) := k123 _ _ a118 
      have a125 : f115 fa = some (.inr (2, [.int u1, .int u2, .int u3, .ref ev])) := k117 _ _ x_fa 
      have a126 : f121 fa = some (.inr (2, [.int u1, .int u2, .int u3, .ref ev])) := k123 _ _ a125 
      have a127 : f115 ev = some (.inl (cy 0, 8, .inl gv)) := k117 _ _ x_ev 
      have a128 : f121 ev = some (.inl (cy 0, 8, .inl gv)) := k123 _ _ a127 
      have a129 : f121 fi = some (.inr (5, [.ref al, .ref ra, .int (nI nn)])) := k123 _ _ a119 
      have a130 : f121 al = some (.inl (cy 3, 60, .inr (.inr (.inr (.inr ga))))) := k123 _ _ a120 
      have a131 : f115 ra = some (.inl (cy 3, 60, .inr (.inr (.inr (.inr gr))))) := k117 _ _ x_ra 
      have a132 : f121 ra = some (.inl (cy 3, 60, .inr (.inr (.inr (.inr gr))))) := k123 _ _ a131 
      have a133 : f115 nu = some (.inl (cy 0, 12, .inl gu)) := k117 _ _ x_nu 
      have a134 : f121 nu = some (.inl (cy 0, 12, .inl gu)) := k123 _ _ a133 
      have a135 : f115 fm = some (.inl (cy 4, 6, .inr (.inr (.inr (.inr gf))))) := k117 _ _ x_fm 
      have a136 : f121 fm = some (.inl (cy 4, 6, .inr (.inr (.inr (.inr gf))))) := k123 _ _ a135 
      have a137 : f115 co = some (.inl (cy 5, 60, .inr (.inr (.inr (.inr gc))))) := k117 _ _ x_co 
      have a138 : f121 co = some (.inl (cy 5, 60, .inr (.inr (.inr (.inr gc))))) := k123 _ _ a137 
      have a139 : f115 en = some (.inl (cy 6, 4, .inr (.inr (.inr (.inr ge))))) := k117 _ _ x_en 
      have a140 : f121 en = some (.inl (cy 6, 4, .inr (.inr (.inr (.inr ge))))) := k123 _ _ a139 
      have a141 : f115 ke = some (.inr (6, [.ref kn, .ref vq, .int (nI ks)])) := k117 _ _ x_ke 
      have a142 : f121 ke = some (.inr (6, [.ref kn, .ref vq, .int (nI ks)])) := k123 _ _ a141 
      have a143 : f115 kn = some (.inl (cy 0, 40, .inl kk)) := k117 _ _ x_kn 
      have a144 : f121 kn = some (.inl (cy 0, 40, .inl kk)) := k123 _ _ a143 
      have a145 : f115 vq = some (.inl (cy 0, 40, .inl kv)) := k117 _ _ x_vq 
      have a146 : f121 vq = some (.inl (cy 0, 40, .inl kv)) := k123 _ _ a145 
      have F147 : ∀ i9 : Nat, i9 < nn → f115 (fg i9) = some (.inr (4, [.int (kd i9), .ref (pt i9), .long (wg i9), .int (wd i9), .int (nI i9), .int (hs i9), .int (bf i9)])) := fun i9 h9 => k117 _ _ (hF i9 h9) 
      have F148 : ∀ i9 : Nat, i9 < nn → f121 (fg i9) = some (.inr (4, [.int (kd i9), .ref (pt i9), .long (wg i9), .int (wd i9), .int (nI i9), .int (hs i9), .int (bf i9)])) := fun i9 h9 => k123 _ _ (F147 i9 h9) 
      have F149 : ∀ i9 : Nat, i9 < nn → f115 (pt i9) = some (.inl (cy 1, (ln i9), .inr (.inl (pp i9)))) := fun i9 h9 => k117 _ _ (hP i9 h9) 
      have F150 : ∀ i9 : Nat, i9 < nn → f121 (pt i9) = some (.inl (cy 1, (ln i9), .inr (.inl (pp i9)))) := fun i9 h9 => k123 _ _ (F149 i9 h9) 
      have F151 : ∀ i9 : Nat, i9 < nf → f115 (fq i9) = some (.inr (3, [.ref (fk i9), .int (nI (fz i9))])) := fun i9 h9 => k117 _ _ (hFq i9 h9) 
      have F152 : ∀ i9 : Nat, i9 < nf → f121 (fq i9) = some (.inr (3, [.ref (fk i9), .int (nI (fz i9))])) := fun i9 h9 => k123 _ _ (F151 i9 h9) 
      have F153 : ∀ i9 : Nat, i9 < nf → f115 (fk i9) = some (.inl (cy 0, 4, .inl (fc i9))) := fun i9 h9 => k117 _ _ (hFk i9 h9) 
      have F154 : ∀ i9 : Nat, i9 < nf → f121 (fk i9) = some (.inl (cy 0, 4, .inl (fc i9))) := fun i9 h9 => k123 _ _ (F153 i9 h9) 
      have F155 : ∀ i9 : Nat, i9 < nc → f115 (cn i9) = some (.inr (0, [.int (ce i9), .int (cm i9)])) := fun i9 h9 => k117 _ _ (hCn i9 h9) 
      have F156 : ∀ i9 : Nat, i9 < nc → f121 (cn i9) = some (.inr (0, [.int (ce i9), .int (cm i9)])) := fun i9 h9 => k123 _ _ (F155 i9 h9) 
      have F157 : ∀ i9 : Nat, i9 < 4 → f115 (ea i9) = some (.inr (1, [.ref (ma i9), .int (nI (sq i9))])) := fun i9 h9 => k117 _ _ (hEa i9 h9) 
      have F158 : ∀ i9 : Nat, i9 < 4 → f121 (ea i9) = some (.inr (1, [.ref (ma i9), .int (nI (sq i9))])) := fun i9 h9 => k123 _ _ (F157 i9 h9) 
      have F159 : ∀ i9 : Nat, i9 < 4 → f115 (ma i9) = some (.inl (cy 0, 60, .inl (mb i9))) := fun i9 h9 => k117 _ _ (hMa i9 h9) 
      have F160 : ∀ i9 : Nat, i9 < 4 → f121 (ma i9) = some (.inl (cy 0, 60, .inl (mb i9))) := fun i9 h9 => k123 _ _ (F159 i9 h9) 
      exact z_iret C hr rfl hz hS ⟨u1, u2, u3, gv, nl, gu, nn, ga, gr, fg, pt, kd, ln, pp, wg, wd, hs, bf, nf, gf, fq, fk, fz, fc, nc, gc, cn, ce, cm, sq, mb, ks, kk, kv, lk, rfl, rfl, rfl, rfl, rfl, rfl, rfl, rfl, rfl, rfl, rfl, rfl, rfl, rfl, rfl, rfl, rfl, rfl, rfl, rfl, rfl, rfl, rfl, rfl, ⟨a124, a126, a128, a129, a130, a132, a134, a136, a138, a140, a142, a144, a146, F148, F150, F152, F154, F156, F158, F160, hn60, hl12, hf6, hc60, hs40, hga, hgr, hln, hk5, hk4, hfi, hpi, har, hgf, hfz, hgc, hG, hsq, hei, hmi, kne, hca, hcr, hlk⟩⟩ (Nat.le_of_ble_eq_true rfl) (Nat.le_of_ble_eq_true rfl) dX7_order_32
    · have hFb : isF nn y = false := isF_f hn60 hvb
      have a161 : f115 fi = some (.inr (5, [.ref al, .ref ra, .int (nI nn)])) := k117 _ _ x_fi 
      refine z_callVq (As := [.long y.toInt64]) C hz hS hA hl (k_X5_find_B l D cy f115 fi al ra nn y.toInt64 a161 hn60 (fun i9 h9 q9 => hvb i9 h9 (z_toL (by omega) q9))) zyX5_find mMX7_130 a161 zl5 rfl rfl (Nat.le_of_ble_eq_true rfl) ⟨Nat.le_of_ble_eq_true rfl, Nat.le_of_ble_eq_true rfl⟩ ⟨Nat.le_of_ble_eq_true rfl, Nat.le_of_ble_eq_true rfl⟩ dX7_order_16 (fun r f162 H locs h163 hz hS => ?_)
      obtain ⟨rfl, k164⟩ := h163
      refine W.eq (g2 := F0 m 19 ls [.null]) rfl ?_
      refine lv_astoreN (lv' := [(4, .null), (3, .null), (0, .ref o), (1, .int x), (2, .int y)]) hx hb dX7_order_19 hl (by decide) rfl (fun ls hl => ?_)
      refine lv_aload_nN hx hb dX7_order_21 rfl (lv_at hl 1 rfl) ?_
      refine lv_ifnullN (tgt := 30) hx hb dX7_order_22 (by decide) ?_
      refine lv_bipush (v := (-2)) hx hb dX7_order_30 (by decide) ?_
      have a165 : f162 o = some (.inr (7, [.ref fa, .ref fi, .ref nu, .int (nI nl), .ref fm, .int (nI nf), .ref co, .int (nI nc), .ref en, .ref ke, .long lk])) := k164 _ _ a118 
      have a166 : f115 fa = some (.inr (2, [.int u1, .int u2, .int u3, .ref ev])) := k117 _ _ x_fa 
      have a167 : f162 fa = some (.inr (2, [.int u1, .int u2, .int u3, .ref ev])) := k164 _ _ a166 
      have a168 : f115 ev = some (.inl (cy 0, 8, .inl gv)) := k117 _ _ x_ev 
      have a169 : f162 ev = some (.inl (cy 0, 8, .inl gv)) := k164 _ _ a168 
      have a170 : f162 fi = some (.inr (5, [.ref al, .ref ra, .int (nI nn)])) := k164 _ _ a161 
      have a171 : f115 al = some (.inl (cy 3, 60, .inr (.inr (.inr (.inr ga))))) := k117 _ _ x_al 
      have a172 : f162 al = some (.inl (cy 3, 60, .inr (.inr (.inr (.inr ga))))) := k164 _ _ a171 
      have a173 : f115 ra = some (.inl (cy 3, 60, .inr (.inr (.inr (.inr gr))))) := k117 _ _ x_ra 
      have a174 : f162 ra = some (.inl (cy 3, 60, .inr (.inr (.inr (.inr gr))))) := k164 _ _ a173 
      have a175 : f115 nu = some (.inl (cy 0, 12, .inl gu)) := k117 _ _ x_nu 
      have a176 : f162 nu = some (.inl (cy 0, 12, .inl gu)) := k164 _ _ a175 
      have a177 : f115 fm = some (.inl (cy 4, 6, .inr (.inr (.inr (.inr gf))))) := k117 _ _ x_fm 
      have a178 : f162 fm = some (.inl (cy 4, 6, .inr (.inr (.inr (.inr gf))))) := k164 _ _ a177 
      have a179 : f115 co = some (.inl (cy 5, 60, .inr (.inr (.inr (.inr gc))))) := k117 _ _ x_co 
      have a180 : f162 co = some (.inl (cy 5, 60, .inr (.inr (.inr (.inr gc))))) := k164 _ _ a179 
      have a181 : f115 en = some (.inl (cy 6, 4, .inr (.inr (.inr (.inr ge))))) := k117 _ _ x_en 
      have a182 : f162 en = some (.inl (cy 6, 4, .inr (.inr (.inr (.inr ge))))) := k164 _ _ a181 
      have a183 : f115 ke = some (.inr (6, [.ref kn, .ref vq, .int (nI ks)])) := k117 _ _ x_ke 
      have a184 : f162 ke = some (.inr (6, [.ref kn, .ref vq, .int (nI ks)])) := k164 _ _ a183 
      have a185 : f115 kn = some (.inl (cy 0, 40, .inl kk)) := k117 _ _ x_kn 
      have a186 : f162 kn = some (.inl (cy 0, 40, .inl kk)) := k164 _ _ a185 
      have a187 : f115 vq = some (.inl (cy 0, 40, .inl kv)) := k117 _ _ x_vq 
      have a188 : f162 vq = some (.inl (cy 0, 40, .inl kv)) := k164 _ _ a187 
      have F189 : ∀ i9 : Nat, i9 < nn → f115 (fg i9) = some (.inr (4, [.int (kd i9), .ref (pt i9), .long (wg i9), .int (wd i9), .int (nI i9), .int (hs i9), .int (bf i9)])) := fun i9 h9 => k117 _ _ (hF i9 h9) 
      have F190 : ∀ i9 : Nat, i9 < nn → f162 (fg i9) = some (.inr (4, [.int (kd i9), .ref (pt i9), .long (wg i9), .int (wd i9), .int (nI i9), .int (hs i9), .int (bf i9)])) := fun i9 h9 => k164 _ _ (F189 i9 h9) 
      have F191 : ∀ i9 : Nat, i9 < nn → f115 (pt i9) = some (.inl (cy 1, (ln i9), .inr (.inl (pp i9)))) := fun i9 h9 => k117 _ _ (hP i9 h9) 
      have F192 : ∀ i9 : Nat, i9 < nn → f162 (pt i9) = some (.inl (cy 1, (ln i9), .inr (.inl (pp i9)))) := fun i9 h9 => k164 _ _ (F191 i9 h9) 
      have F193 : ∀ i9 : Nat, i9 < nf → f115 (fq i9) = some (.inr (3, [.ref (fk i9), .int (nI (fz i9))])) := fun i9 h9 => k117 _ _ (hFq i9 h9) 
      have F194 : ∀ i9 : Nat, i9 < nf → f162 (fq i9) = some (.inr (3, [.ref (fk i9), .int (nI (fz i9))])) := fun i9 h9 => k164 _ _ (F193 i9 h9) 
      have F195 : ∀ i9 : Nat, i9 < nf → f115 (fk i9) = some (.inl (cy 0, 4, .inl (fc i9))) := fun i9 h9 => k117 _ _ (hFk i9 h9) 
      have F196 : ∀ i9 : Nat, i9 < nf → f162 (fk i9) = some (.inl (cy 0, 4, .inl (fc i9))) := fun i9 h9 => k164 _ _ (F195 i9 h9) 
      have F197 : ∀ i9 : Nat, i9 < nc → f115 (cn i9) = some (.inr (0, [.int (ce i9), .int (cm i9)])) := fun i9 h9 => k117 _ _ (hCn i9 h9) 
      have F198 : ∀ i9 : Nat, i9 < nc → f162 (cn i9) = some (.inr (0, [.int (ce i9), .int (cm i9)])) := fun i9 h9 => k164 _ _ (F197 i9 h9) 
      have F199 : ∀ i9 : Nat, i9 < 4 → f115 (ea i9) = some (.inr (1, [.ref (ma i9), .int (nI (sq i9))])) := fun i9 h9 => k117 _ _ (hEa i9 h9) 
      have F200 : ∀ i9 : Nat, i9 < 4 → f162 (ea i9) = some (.inr (1, [.ref (ma i9), .int (nI (sq i9))])) := fun i9 h9 => k164 _ _ (F199 i9 h9) 
      have F201 : ∀ i9 : Nat, i9 < 4 → f115 (ma i9) = some (.inl (cy 0, 60, .inl (mb i9))) := fun i9 h9 => k117 _ _ (hMa i9 h9) 
      have F202 : ∀ i9 : Nat, i9 < 4 → f162 (ma i9) = some (.inl (cy 0, 60, .inl (mb i9))) := fun i9 h9 => k164 _ _ (F201 i9 h9) 
      exact z_iret C hr rfl hz hS ⟨u1, u2, u3, gv, nl, gu, nn, ga, gr, fg, pt, kd, ln, pp, wg, wd, hs, bf, nf, gf, fq, fk, fz, fc, nc, gc, cn, ce, cm, sq, mb, ks, kk, kv, lk, rfl, rfl, rfl, rfl, rfl, rfl, rfl, rfl, rfl, rfl, rfl, rfl, rfl, rfl, rfl, rfl, rfl, rfl, rfl, rfl, rfl, rfl, rfl, rfl, ⟨a165, a167, a169, a170, a172, a174, a176, a178, a180, a182, a184, a186, a188, F190, F192, F194, F196, F198, F200, F202, hn60, hl12, hf6, hc60, hs40, hga, hgr, hln, hk5, hk4, hfi, hpi, har, hgf, hfz, hgc, hG, hsq, hei, hmi, kne, hca, hcr, hlk⟩⟩ (Nat.le_of_ble_eq_true rfl) (Nat.le_of_ble_eq_true rfl) dX7_order_32
abbrev rmX7_first : Room := { frames := 2, cells := 0, slots := 0, locals := 43 }
set_option maxHeartbeats 4000000 in
set_option maxRecDepth 100000 in
theorem k_X7_first (l : Launch) (D : va_G) (cy : Nat → ClassId) (f : zM) (o : Nat) (fa : Nat) (fi : Nat) (nu : Nat) (fm : Nat) (co : Nat) (en : Nat) (ke : Nat) (ev : Nat) (al : Nat) (ra : Nat) (kn : Nat) (vq : Nat) (ge : Nat → Option Nat) (ea : Nat → Nat) (ma : Nat → Nat) (u1 : Int32) (u2 : Int32) (u3 : Int32) (gv : Nat → Int32) (nl : Nat) (gu : Nat → Int32) (nn : Nat) (ga : Nat → Option Nat) (gr : Nat → Option Nat) (fg : Nat → Nat) (pt : Nat → Nat) (kd : Nat → Int32) (ln : Nat → Nat) (pp : Nat → Nat → Int64) (wg : Nat → Int64) (wd : Nat → Int32) (hs : Nat → Int32) (bf : Nat → Int32) (nf : Nat) (gf : Nat → Option Nat) (fq : Nat → Nat) (fk : Nat → Nat) (fz : Nat → Nat) (fc : Nat → Nat → Int32) (nc : Nat) (gc : Nat → Option Nat) (cn : Nat → Nat) (ce : Nat → Int32) (cm : Nat → Int32) (sq : Nat → Nat) (mb : Nat → Nat → Int32) (ks : Nat) (kk : Nat → Int32) (kv : Nat → Int32) (lk : Int64) (x : Int32)    (hI : zIX cy f o fa fi nu fm co en ke ev al ra kn vq ge ea ma u1 u2 u3 gv nl gu nn ga gr fg pt kd ln pp wg wd hs bf nf gf fq fk fz fc nc gc cn ce cm sq mb ks kk kv lk) : zCi l D cy yX7_first cX7_first 3 (Option.some Jvm.ClassFile.FieldType.int) rmX7_first [.ref o, .int x] f (fun (r : Int32) (f1 : zM) => ∃ (u11 : Int32) (u21 : Int32) (u31 : Int32) (gv1 : Nat → Int32) (nl1 : Nat) (gu1 : Nat → Int32) (nn1 : Nat) (ga1 : Nat → Option Nat) (gr1 : Nat → Option Nat) (fg1 : Nat → Nat) (pt1 : Nat → Nat) (kd1 : Nat → Int32) (ln1 : Nat → Nat) (pp1 : Nat → Nat → Int64) (wg1 : Nat → Int64) (wd1 : Nat → Int32) (hs1 : Nat → Int32) (bf1 : Nat → Int32) (nf1 : Nat) (gf1 : Nat → Option Nat) (fq1 : Nat → Nat) (fk1 : Nat → Nat) (fz1 : Nat → Nat) (fc1 : Nat → Nat → Int32) (nc1 : Nat) (gc1 : Nat → Option Nat) (cn1 : Nat → Nat) (ce1 : Nat → Int32) (cm1 : Nat → Int32) (sq1 : Nat → Nat) (mb1 : Nat → Nat → Int32) (ks1 : Nat) (kk1 : Nat → Int32) (kv1 : Nat → Int32) (lk1 : Int64), (u11 = u1) ∧ (u21 = u2) ∧ (u31 = u3) ∧ (gv1 = gv) ∧ (nl1 = nl) ∧ (gu1 = gu) ∧ (nn1 = nn) ∧ (kd1 = kd) ∧ (ln1 = ln) ∧ (pp1 = pp) ∧ (wd1 = wd) ∧ (hs1 = hs) ∧ (nf1 = nf) ∧ (fz1 = fz) ∧ (fc1 = fc) ∧ (nc1 = nc) ∧ (ce1 = ce) ∧ (cm1 = cm) ∧ (sq1 = sq) ∧ (mb1 = mb) ∧ (ks1 = ks) ∧ (kk1 = kk) ∧ (kv1 = kv) ∧ (lk1 = lk) ∧ zIX cy f1 o fa fi nu fm co en ke ev al ra kn vq ge ea ma u11 u21 u31 gv1 nl1 gu1 nn1 ga1 gr1 fg1 pt1 kd1 ln1 pp1 wg1 wd1 hs1 bf1 nf1 gf1 fq1 fk1 fz1 fc1 nc1 gc1 cn1 ce1 cm1 sq1 mb1 ks1 kk1 kv1 lk1) := by
  intro sz
  refine z_body (by decide +kernel) (Nat.le_of_ble_eq_true rfl) ?_
  intro p e s m below meth c ls C hr hin hsz hz hl
  subst hsz
  have hx := C.1
  have hb := C.2.1
  have hA : ∀ q, s.heap.size ≤ q → zA f s.heap.size q := fun q h => Or.inr h
  have hS : va_S (zA f s.heap.size) s.heap s.heap [] := va_S.rf
  have hl : lv_has ls 3 [(0, .ref o), (1, .int x)] := hl
  obtain ⟨x_o, x_fa, x_ev, x_fi, x_al, x_ra, x_nu, x_fm, x_co, x_en, x_ke, x_kn, x_vq, hF, hP, hFq, hFk, hCn, hEa, hMa, hn60, hl12, hf6, hc60, hs40, hga, hgr, hln, hk5, hk4, hfi, hpi, har, hgf, hfz, hgc, hG, hsq, hei, hmi, kne, hca, hcr, hlk⟩ := id hI
  refine lv_aload_n hx hb dX7_first_0 rfl (lv_at hl 0 rfl) ?_
  refine z_get (v := .ref fi) C hz x_o zl7 mFX7_19 (by decide) rfl dX7_first_1 ?_
  refine lv_iload_n hx hb dX7_first_4 rfl (lv_at hl 1 rfl) ?_
  refine lv_i2l (v := x.toInt64) hx hb dX7_first_5 rfl ?_
  rcases z_findi x nn with ⟨ja, hja, hva⟩ | hva
  · have hFa : isF nn x = true := isF_t hn60 hja hva
    have hIa : fI x = ja := fI_of (by omega) hva
    have hNa : ¬ x = (-1) := by rw [hva]; exact z_nim1 (by omega)
    refine z_callVq (As := [.long x.toInt64]) C hz hS hA hl (k_X5_find_A l D cy f fi al ra ga nn fg x.toInt64 ja x_fi x_al hn60 hga (by rw [hva, nI_l (by omega)]) hja) zyX5_find mMX7_130 x_fi zl5 rfl rfl (Nat.le_of_ble_eq_true rfl) ⟨Nat.le_of_ble_eq_true rfl, Nat.le_of_ble_eq_true rfl⟩ ⟨Nat.le_of_ble_eq_true rfl, Nat.le_of_ble_eq_true rfl⟩ dX7_first_6 (fun r f1 H locs h2 hz hS => ?_)
    obtain ⟨rfl, k3⟩ := h2
    refine W.eq (g2 := F0 m 9 ls [.ref (fg ja)]) rfl ?_
    refine lv_astore_n (lv' := [(2, .ref (fg ja)), (0, .ref o), (1, .int x)]) hx hb dX7_first_9 rfl hl (by decide) rfl (fun ls hl => ?_)
    refine lv_aload_n hx hb dX7_first_10 rfl (lv_at hl 0 rfl) ?_
    refine lv_ifnonnull (tgt := 19) hx hb dX7_first_11 (by decide) ?_
    refine lv_aload_n hx hb dX7_first_19 rfl (lv_at hl 1 rfl) ?_
    have a4 : f1 o = some (.inr (7, [.ref fa, .ref fi, .ref nu, .int (nI nl), .ref fm, .int (nI nf), .ref co, .int (nI nc), .ref en, .ref ke, .long lk])) := k3 _ _ x_o 
    refine z_get (v := .ref fi) C hz a4 zl7 mFX7_19 (by decide) rfl dX7_first_20 ?_
    refine lv_aload_n hx hb dX7_first_23 rfl (lv_at hl 0 rfl) ?_
    have a5 : f1 fi = some (.inr (5, [.ref al, .ref ra, .int (nI nn)])) := k3 _ _ x_fi 
    have a6 : f1 al = some (.inl (cy 3, 60, .inr (.inr (.inr (.inr ga))))) := k3 _ _ x_al 
    have F7 : ∀ i9 : Nat, i9 < nn → f1 (fg i9) = some (.inr (4, [.int (kd i9), .ref (pt i9), .long (wg i9), .int (wd i9), .int (nI i9), .int (hs i9), .int (bf i9)])) := fun i9 h9 => k3 _ _ (hF i9 h9) 
    refine z_callVi (As := [.ref (fg ja)]) C hz hS hA hl (k_X5_firstLike l D cy f1 fi al ra ga nn fg pt kd ln pp wg wd hs bf ja a5 a6 F7 hn60 hga hja) zyX5_firstLike mMX7_184 a5 zl5 rfl rfl (Nat.le_of_ble_eq_true rfl) ⟨Nat.le_of_ble_eq_true rfl, Nat.le_of_ble_eq_true rfl⟩ ⟨Nat.le_of_ble_eq_true rfl, Nat.le_of_ble_eq_true rfl⟩ dX7_first_24 (fun r10 f8 H locs h9 hz hS => ?_)
    have k11 := h9
    have a12 : f8 o = some (.inr (7, [.ref fa, .ref fi, .ref nu, .int (nI nl), .ref fm, .int (nI nf), .ref co, .int (nI nc), .ref en, .ref ke, .long lk])) := k11 _ _ a4 
    have a13 : f1 fa = some (.inr (2, [.int u1, .int u2, .int u3, .ref ev])) := k3 _ _ x_fa 
    have a14 : f8 fa = some (.inr (2, [.int u1, .int u2, .int u3, .ref ev])) := k11 _ _ a13 
    have a15 : f1 ev = some (.inl (cy 0, 8, .inl gv)) := k3 _ _ x_ev 
    have a16 : f8 ev = some (.inl (cy 0, 8, .inl gv)) := k11 _ _ a15 
    have a17 : f8 fi = some (.inr (5, [.ref al, .ref ra, .int (nI nn)])) := k11 _ _ a5 
    have a18 : f8 al = some (.inl (cy 3, 60, .inr (.inr (.inr (.inr ga))))) := k11 _ _ a6 
    have a19 : f1 ra = some (.inl (cy 3, 60, .inr (.inr (.inr (.inr gr))))) := k3 _ _ x_ra 
    have a20 : f8 ra = some (.inl (cy 3, 60, .inr (.inr (.inr (.inr gr))))) := k11 _ _ a19 
    have a21 : f1 nu = some (.inl (cy 0, 12, .inl gu)) := k3 _ _ x_nu 
    have a22 : f8 nu = some (.inl (cy 0, 12, .inl gu)) := k11 _ _ a21 
    have a23 : f1 fm = some (.inl (cy 4, 6, .inr (.inr (.inr (.inr gf))))) := k3 _ _ x_fm 
    have a24 : f8 fm = some (.inl (cy 4, 6, .inr (.inr (.inr (.inr gf))))) := k11 _ _ a23 
    have a25 : f1 co = some (.inl (cy 5, 60, .inr (.inr (.inr (.inr gc))))) := k3 _ _ x_co 
    have a26 : f8 co = some (.inl (cy 5, 60, .inr (.inr (.inr (.inr gc))))) := k11 _ _ a25 
    have a27 : f1 en = some (.inl (cy 6, 4, .inr (.inr (.inr (.inr ge))))) := k3 _ _ x_en 
    have a28 : f8 en = some (.inl (cy 6, 4, .inr (.inr (.inr (.inr ge))))) := k11 _ _ a27 
    have a29 : f1 ke = some (.inr (6, [.ref kn, .ref vq, .int (nI ks)])) := k3 _ _ x_ke 
    have a30 : f8 ke = some (.inr (6, [.ref kn, .ref vq, .int (nI ks)])) := k11 _ _ a29 
    have a31 : f1 kn = some (.inl (cy 0, 40, .inl kk)) := k3 _ _ x_kn 
    have a32 : f8 kn = some (.inl (cy 0, 40, .inl kk)) := k11 _ _ a31 
    have a33 : f1 vq = some (.inl (cy 0, 40, .inl kv)) := k3 _ _ x_vq 
    have a34 : f8 vq = some (.inl (cy 0, 40, .inl kv)) := k11 _ _ a33 
    have F35 : ∀ i9 : Nat, i9 < nn → f8 (fg i9) = some (.inr (4, [.int (kd i9), .ref (pt i9), .long (wg i9), .int (wd i9), .int (nI i9), .int (hs i9), .int (bf i9)])) := fun i9 h9 => k11 _ _ (F7 i9 h9) 
    have F36 : ∀ i9 : Nat, i9 < nn → f1 (pt i9) = some (.inl (cy 1, (ln i9), .inr (.inl (pp i9)))) := fun i9 h9 => k3 _ _ (hP i9 h9) 
    have F37 : ∀ i9 : Nat, i9 < nn → f8 (pt i9) = some (.inl (cy 1, (ln i9), .inr (.inl (pp i9)))) := fun i9 h9 => k11 _ _ (F36 i9 h9) 
    have F38 : ∀ i9 : Nat, i9 < nf → f1 (fq i9) = some (.inr (3, [.ref (fk i9), .int (nI (fz i9))])) := fun i9 h9 => k3 _ _ (hFq i9 h9) 
    have F39 : ∀ i9 : Nat, i9 < nf → f8 (fq i9) = some (.inr (3, [.ref (fk i9), .int (nI (fz i9))])) := fun i9 h9 => k11 _ _ (F38 i9 h9) 
    have F40 : ∀ i9 : Nat, i9 < nf → f1 (fk i9) = some (.inl (cy 0, 4, .inl (fc i9))) := fun i9 h9 => k3 _ _ (hFk i9 h9) 
    have F41 : ∀ i9 : Nat, i9 < nf → f8 (fk i9) = some (.inl (cy 0, 4, .inl (fc i9))) := fun i9 h9 => k11 _ _ (F40 i9 h9) 
    have F42 : ∀ i9 : Nat, i9 < nc → f1 (cn i9) = some (.inr (0, [.int (ce i9), .int (cm i9)])) := fun i9 h9 => k3 _ _ (hCn i9 h9) 
    have F43 : ∀ i9 : Nat, i9 < nc → f8 (cn i9) = some (.inr (0, [.int (ce i9), .int (cm i9)])) := fun i9 h9 => k11 _ _ (F42 i9 h9) 
    have F44 : ∀ i9 : Nat, i9 < 4 → f1 (ea i9) = some (.inr (1, [.ref (ma i9), .int (nI (sq i9))])) := fun i9 h9 => k3 _ _ (hEa i9 h9) 
    have F45 : ∀ i9 : Nat, i9 < 4 → f8 (ea i9) = some (.inr (1, [.ref (ma i9), .int (nI (sq i9))])) := fun i9 h9 => k11 _ _ (F44 i9 h9) 
    have F46 : ∀ i9 : Nat, i9 < 4 → f1 (ma i9) = some (.inl (cy 0, 60, .inl (mb i9))) := fun i9 h9 => k3 _ _ (hMa i9 h9) 
    have F47 : ∀ i9 : Nat, i9 < 4 → f8 (ma i9) = some (.inl (cy 0, 60, .inl (mb i9))) := fun i9 h9 => k11 _ _ (F46 i9 h9) 
    exact z_iret C hr rfl hz hS ⟨u1, u2, u3, gv, nl, gu, nn, ga, gr, fg, pt, kd, ln, pp, wg, wd, hs, bf, nf, gf, fq, fk, fz, fc, nc, gc, cn, ce, cm, sq, mb, ks, kk, kv, lk, rfl, rfl, rfl, rfl, rfl, rfl, rfl, rfl, rfl, rfl, rfl, rfl, rfl, rfl, rfl, rfl, rfl, rfl, rfl, rfl, rfl, rfl, rfl, rfl, ⟨a12, a14, a16, a17, a18, a20, a22, a24, a26, a28, a30, a32, a34, F35, F37, F39, F41, F43, F45, F47, hn60, hl12, hf6, hc60, hs40, hga, hgr, hln, hk5, hk4, hfi, hpi, har, hgf, hfz, hgc, hG, hsq, hei, hmi, kne, hca, hcr, hlk⟩⟩ (Nat.le_of_ble_eq_true rfl) (Nat.le_of_ble_eq_true rfl) dX7_first_27
  · have hFa : isF nn x = false := isF_f hn60 hva
    refine z_callVq (As := [.long x.toInt64]) C hz hS hA hl (k_X5_find_B l D cy f fi al ra nn x.toInt64 x_fi hn60 (fun i9 h9 q9 => hva i9 h9 (z_toL (by omega) q9))) zyX5_find mMX7_130 x_fi zl5 rfl rfl (Nat.le_of_ble_eq_true rfl) ⟨Nat.le_of_ble_eq_true rfl, Nat.le_of_ble_eq_true rfl⟩ ⟨Nat.le_of_ble_eq_true rfl, Nat.le_of_ble_eq_true rfl⟩ dX7_first_6 (fun r f48 H locs h49 hz hS => ?_)
    obtain ⟨rfl, k50⟩ := h49
    refine W.eq (g2 := F0 m 9 ls [.null]) rfl ?_
    refine lv_astore_nN (lv' := [(2, .null), (0, .ref o), (1, .int x)]) hx hb dX7_first_9 rfl hl (by decide) rfl (fun ls hl => ?_)
    refine lv_aload_nN hx hb dX7_first_10 rfl (lv_at hl 0 rfl) ?_
    refine lv_ifnonnullN hx hb dX7_first_11 ?_
    refine lv_bipush (v := (-2)) hx hb dX7_first_14 (by decide) ?_
    refine lv_goto (tgt := 27) hx hb dX7_first_16 (by decide) ?_
    have a51 : f48 o = some (.inr (7, [.ref fa, .ref fi, .ref nu, .int (nI nl), .ref fm, .int (nI nf), .ref co, .int (nI nc), .ref en, .ref ke, .long lk])) := k50 _ _ x_o 
    have a52 : f48 fa = some (.inr (2, [.int u1, .int u2, .int u3, .ref ev])) := k50 _ _ x_fa 
    have a53 : f48 ev = some (.inl (cy 0, 8, .inl gv)) := k50 _ _ x_ev 
    have a54 : f48 fi = some (.inr (5, [.ref al, .ref ra, .int (nI nn)])) := k50 _ _ x_fi 
    have a55 : f48 al = some (.inl (cy 3, 60, .inr (.inr (.inr (.inr ga))))) := k50 _ _ x_al 
    have a56 : f48 ra = some (.inl (cy 3, 60, .inr (.inr (.inr (.inr gr))))) := k50 _ _ x_ra 
    have a57 : f48 nu = some (.inl (cy 0, 12, .inl gu)) := k50 _ _ x_nu 
    have a58 : f48 fm = some (.inl (cy 4, 6, .inr (.inr (.inr (.inr gf))))) := k50 _ _ x_fm 
    have a59 : f48 co = some (.inl (cy 5, 60, .inr (.inr (.inr (.inr gc))))) := k50 _ _ x_co 
    have a60 : f48 en = some (.inl (cy 6, 4, .inr (.inr (.inr (.inr ge))))) := k50 _ _ x_en 
    have a61 : f48 ke = some (.inr (6, [.ref kn, .ref vq, .int (nI ks)])) := k50 _ _ x_ke 
    have a62 : f48 kn = some (.inl (cy 0, 40, .inl kk)) := k50 _ _ x_kn 
    have a63 : f48 vq = some (.inl (cy 0, 40, .inl kv)) := k50 _ _ x_vq 
    have F64 : ∀ i9 : Nat, i9 < nn → f48 (fg i9) = some (.inr (4, [.int (kd i9), .ref (pt i9), .long (wg i9), .int (wd i9), .int (nI i9), .int (hs i9), .int (bf i9)])) := fun i9 h9 => k50 _ _ (hF i9 h9) 
    have F65 : ∀ i9 : Nat, i9 < nn → f48 (pt i9) = some (.inl (cy 1, (ln i9), .inr (.inl (pp i9)))) := fun i9 h9 => k50 _ _ (hP i9 h9) 
    have F66 : ∀ i9 : Nat, i9 < nf → f48 (fq i9) = some (.inr (3, [.ref (fk i9), .int (nI (fz i9))])) := fun i9 h9 => k50 _ _ (hFq i9 h9) 
    have F67 : ∀ i9 : Nat, i9 < nf → f48 (fk i9) = some (.inl (cy 0, 4, .inl (fc i9))) := fun i9 h9 => k50 _ _ (hFk i9 h9) 
    have F68 : ∀ i9 : Nat, i9 < nc → f48 (cn i9) = some (.inr (0, [.int (ce i9), .int (cm i9)])) := fun i9 h9 => k50 _ _ (hCn i9 h9) 
    have F69 : ∀ i9 : Nat, i9 < 4 → f48 (ea i9) = some (.inr (1, [.ref (ma i9), .int (nI (sq i9))])) := fun i9 h9 => k50 _ _ (hEa i9 h9) 
    have F70 : ∀ i9 : Nat, i9 < 4 → f48 (ma i9) = some (.inl (cy 0, 60, .inl (mb i9))) := fun i9 h9 => k50 _ _ (hMa i9 h9) 
    exact z_iret C hr rfl hz hS ⟨u1, u2, u3, gv, nl, gu, nn, ga, gr, fg, pt, kd, ln, pp, wg, wd, hs, bf, nf, gf, fq, fk, fz, fc, nc, gc, cn, ce, cm, sq, mb, ks, kk, kv, lk, rfl, rfl, rfl, rfl, rfl, rfl, rfl, rfl, rfl, rfl, rfl, rfl, rfl, rfl, rfl, rfl, rfl, rfl, rfl, rfl, rfl, rfl, rfl, rfl, ⟨a51, a52, a53, a54, a55, a56, a57, a58, a59, a60, a61, a62, a63, F64, F65, F66, F67, F68, F69, F70, hn60, hl12, hf6, hc60, hs40, hga, hgr, hln, hk5, hk4, hfi, hpi, har, hgf, hfz, hgc, hG, hsq, hei, hmi, kne, hca, hcr, hlk⟩⟩ (Nat.le_of_ble_eq_true rfl) (Nat.le_of_ble_eq_true rfl) dX7_first_27
abbrev rmX7_weight : Room := { frames := 3, cells := 0, slots := 0, locals := 67 }
set_option maxHeartbeats 4000000 in
set_option maxRecDepth 100000 in
theorem k_X7_weight (l : Launch) (D : va_G) (cy : Nat → ClassId) (f : zM) (o : Nat) (fa : Nat) (fi : Nat) (nu : Nat) (fm : Nat) (co : Nat) (en : Nat) (ke : Nat) (ev : Nat) (al : Nat) (ra : Nat) (kn : Nat) (vq : Nat) (ge : Nat → Option Nat) (ea : Nat → Nat) (ma : Nat → Nat) (u1 : Int32) (u2 : Int32) (u3 : Int32) (gv : Nat → Int32) (nl : Nat) (gu : Nat → Int32) (nn : Nat) (ga : Nat → Option Nat) (gr : Nat → Option Nat) (fg : Nat → Nat) (pt : Nat → Nat) (kd : Nat → Int32) (ln : Nat → Nat) (pp : Nat → Nat → Int64) (wg : Nat → Int64) (wd : Nat → Int32) (hs : Nat → Int32) (bf : Nat → Int32) (nf : Nat) (gf : Nat → Option Nat) (fq : Nat → Nat) (fk : Nat → Nat) (fz : Nat → Nat) (fc : Nat → Nat → Int32) (nc : Nat) (gc : Nat → Option Nat) (cn : Nat → Nat) (ce : Nat → Int32) (cm : Nat → Int32) (sq : Nat → Nat) (mb : Nat → Nat → Int32) (ks : Nat) (kk : Nat → Int32) (kv : Nat → Int32) (lk : Int64) (x : Int32) (w : Int32)    (hI : zIX cy f o fa fi nu fm co en ke ev al ra kn vq ge ea ma u1 u2 u3 gv nl gu nn ga gr fg pt kd ln pp wg wd hs bf nf gf fq fk fz fc nc gc cn ce cm sq mb ks kk kv lk) : zCl l D cy yX7_weight cX7_weight 4 (Option.some Jvm.ClassFile.FieldType.long) rmX7_weight [.ref o, .int x, .int w] f (fun (r : Int64) (f1 : zM) => ∃ (u11 : Int32) (u21 : Int32) (u31 : Int32) (gv1 : Nat → Int32) (nl1 : Nat) (gu1 : Nat → Int32) (nn1 : Nat) (ga1 : Nat → Option Nat) (gr1 : Nat → Option Nat) (fg1 : Nat → Nat) (pt1 : Nat → Nat) (kd1 : Nat → Int32) (ln1 : Nat → Nat) (pp1 : Nat → Nat → Int64) (wg1 : Nat → Int64) (wd1 : Nat → Int32) (hs1 : Nat → Int32) (bf1 : Nat → Int32) (nf1 : Nat) (gf1 : Nat → Option Nat) (fq1 : Nat → Nat) (fk1 : Nat → Nat) (fz1 : Nat → Nat) (fc1 : Nat → Nat → Int32) (nc1 : Nat) (gc1 : Nat → Option Nat) (cn1 : Nat → Nat) (ce1 : Nat → Int32) (cm1 : Nat → Int32) (sq1 : Nat → Nat) (mb1 : Nat → Nat → Int32) (ks1 : Nat) (kk1 : Nat → Int32) (kv1 : Nat → Int32) (lk1 : Int64), (u11 = u1) ∧ (u21 = u2) ∧ (u31 = u3) ∧ (gv1 = gv) ∧ (nl1 = nl) ∧ (gu1 = gu) ∧ (nn1 = nn) ∧ (kd1 = kd) ∧ (ln1 = ln) ∧ (pp1 = pp) ∧ (wd1 = wd) ∧ (hs1 = hs) ∧ (nf1 = nf) ∧ (fz1 = fz) ∧ (fc1 = fc) ∧ (nc1 = nc) ∧ (ce1 = ce) ∧ (cm1 = cm) ∧ (sq1 = sq) ∧ (mb1 = mb) ∧ (ks1 = ks) ∧ (kk1 = kk) ∧ (kv1 = kv) ∧ (lk1 = lk) ∧ zIX cy f1 o fa fi nu fm co en ke ev al ra kn vq ge ea ma u11 u21 u31 gv1 nl1 gu1 nn1 ga1 gr1 fg1 pt1 kd1 ln1 pp1 wg1 wd1 hs1 bf1 nf1 gf1 fq1 fk1 fz1 fc1 nc1 gc1 cn1 ce1 cm1 sq1 mb1 ks1 kk1 kv1 lk1) := by
  intro sz
  refine z_body (by decide +kernel) (Nat.le_of_ble_eq_true rfl) ?_
  intro p e s m below meth c ls C hr hin hsz hz hl
  subst hsz
  have hx := C.1
  have hb := C.2.1
  have hA : ∀ q, s.heap.size ≤ q → zA f s.heap.size q := fun q h => Or.inr h
  have hS : va_S (zA f s.heap.size) s.heap s.heap [] := va_S.rf
  have hl : lv_has ls 4 [(0, .ref o), (1, .int x), (2, .int w)] := hl
  obtain ⟨x_o, x_fa, x_ev, x_fi, x_al, x_ra, x_nu, x_fm, x_co, x_en, x_ke, x_kn, x_vq, hF, hP, hFq, hFk, hCn, hEa, hMa, hn60, hl12, hf6, hc60, hs40, hga, hgr, hln, hk5, hk4, hfi, hpi, har, hgf, hfz, hgc, hG, hsq, hei, hmi, kne, hca, hcr, hlk⟩ := id hI
  refine lv_aload_n hx hb dX7_weight_0 rfl (lv_at hl 0 rfl) ?_
  refine z_get (v := .ref fi) C hz x_o zl7 mFX7_19 (by decide) rfl dX7_weight_1 ?_
  refine lv_iload_n hx hb dX7_weight_4 rfl (lv_at hl 1 rfl) ?_
  refine lv_i2l (v := x.toInt64) hx hb dX7_weight_5 rfl ?_
  rcases z_findi x nn with ⟨ja, hja, hva⟩ | hva
  · have hFa : isF nn x = true := isF_t hn60 hja hva
    have hIa : fI x = ja := fI_of (by omega) hva
    have hNa : ¬ x = (-1) := by rw [hva]; exact z_nim1 (by omega)
    refine z_callVq (As := [.long x.toInt64]) C hz hS hA hl (k_X5_find_A l D cy f fi al ra ga nn fg x.toInt64 ja x_fi x_al hn60 hga (by rw [hva, nI_l (by omega)]) hja) zyX5_find mMX7_130 x_fi zl5 rfl rfl (Nat.le_of_ble_eq_true rfl) ⟨Nat.le_of_ble_eq_true rfl, Nat.le_of_ble_eq_true rfl⟩ ⟨Nat.le_of_ble_eq_true rfl, Nat.le_of_ble_eq_true rfl⟩ dX7_weight_6 (fun r f1 H locs h2 hz hS => ?_)
    obtain ⟨rfl, k3⟩ := h2
    refine W.eq (g2 := F0 m 9 ls [.ref (fg ja)]) rfl ?_
    refine lv_astore_n (lv' := [(3, .ref (fg ja)), (0, .ref o), (1, .int x), (2, .int w)]) hx hb dX7_weight_9 rfl hl (by decide) rfl (fun ls hl => ?_)
    refine lv_aload_n hx hb dX7_weight_10 rfl (lv_at hl 0 rfl) ?_
    refine lv_ifnonnull (tgt := 18) hx hb dX7_weight_11 (by decide) ?_
    refine lv_aload_n hx hb dX7_weight_18 rfl (lv_at hl 1 rfl) ?_
    have a4 : f1 o = some (.inr (7, [.ref fa, .ref fi, .ref nu, .int (nI nl), .ref fm, .int (nI nf), .ref co, .int (nI nc), .ref en, .ref ke, .long lk])) := k3 _ _ x_o 
    refine z_get (v := .ref fi) C hz a4 zl7 mFX7_19 (by decide) rfl dX7_weight_19 ?_
    have a5 : f1 fi = some (.inr (5, [.ref al, .ref ra, .int (nI nn)])) := k3 _ _ x_fi 
    have a6 : f1 al = some (.inl (cy 3, 60, .inr (.inr (.inr (.inr ga))))) := k3 _ _ x_al 
    have F7 : ∀ i9 : Nat, i9 < nn → f1 (fg i9) = some (.inr (4, [.int (kd i9), .ref (pt i9), .long (wg i9), .int (wd i9), .int (nI i9), .int (hs i9), .int (bf i9)])) := fun i9 h9 => k3 _ _ (hF i9 h9) 
    have F8 : ∀ i9 : Nat, i9 < nn → f1 (pt i9) = some (.inl (cy 1, (ln i9), .inr (.inl (pp i9)))) := fun i9 h9 => k3 _ _ (hP i9 h9) 
    refine z_callVv (As := []) C hz hS hA hl (k_X5_weighPairs l D cy f1 fi al ra ga nn fg pt kd ln pp wg wd hs bf a5 a6 F7 F8 hn60 hga hfi hk4 hln) zyX5_weighPairs mMX7_156 a5 zl5 rfl rfl (Nat.le_of_ble_eq_true rfl) ⟨Nat.le_of_ble_eq_true rfl, Nat.le_of_ble_eq_true rfl⟩ ⟨Nat.le_of_ble_eq_true rfl, Nat.le_of_ble_eq_true rfl⟩ dX7_weight_22 (fun  f9 H locs h10 hz hS => ?_)
    obtain ⟨wg_11, F12, k13⟩ := h10
    refine lv_iload_n hx hb dX7_weight_25 rfl (lv_at hl 3 rfl) ?_
    refine lv_if_eq (tgt := 36) hx hb dX7_weight_26 (by decide) (fun c14 => ?_) (fun c14 => ?_)
    · refine lv_aload_n hx hb dX7_weight_36 rfl (lv_at hl 0 rfl) ?_
      have a15 : f9 (fg ja) = some (.inr (4, [.int (kd ja), .ref (pt ja), .long (wg_11 ja), .int (wd ja), .int (nI ja), .int (hs ja), .int (bf ja)])) := F12 ja hja
      refine z_getN (v := .long (wg_11 ja)) C hz a15 zl4 mFNX7_163 (by decide) rfl dX7_weight_37 ?_
      have a16 : f9 o = some (.inr (7, [.ref fa, .ref fi, .ref nu, .int (nI nl), .ref fm, .int (nI nf), .ref co, .int (nI nc), .ref en, .ref ke, .long lk])) := k13 _ _ a4 (fun j9 h8 => (z_ne a4 (F7 j9 h8) rfl))
      have a17 : f1 fa = some (.inr (2, [.int u1, .int u2, .int u3, .ref ev])) := k3 _ _ x_fa 
      have a18 : f9 fa = some (.inr (2, [.int u1, .int u2, .int u3, .ref ev])) := k13 _ _ a17 (fun j9 h8 => (z_ne a17 (F7 j9 h8) rfl))
      have a19 : f1 ev = some (.inl (cy 0, 8, .inl gv)) := k3 _ _ x_ev 
      have a20 : f9 ev = some (.inl (cy 0, 8, .inl gv)) := k13 _ _ a19 (fun j9 h8 => (z_ne a19 (F7 j9 h8) rfl))
      have a21 : f9 fi = some (.inr (5, [.ref al, .ref ra, .int (nI nn)])) := k13 _ _ a5 (fun j9 h8 => (z_ne a5 (F7 j9 h8) rfl))
      have a22 : f9 al = some (.inl (cy 3, 60, .inr (.inr (.inr (.inr ga))))) := k13 _ _ a6 (fun j9 h8 => (z_ne a6 (F7 j9 h8) rfl))
      have a23 : f1 ra = some (.inl (cy 3, 60, .inr (.inr (.inr (.inr gr))))) := k3 _ _ x_ra 
      have a24 : f9 ra = some (.inl (cy 3, 60, .inr (.inr (.inr (.inr gr))))) := k13 _ _ a23 (fun j9 h8 => (z_ne a23 (F7 j9 h8) rfl))
      have a25 : f1 nu = some (.inl (cy 0, 12, .inl gu)) := k3 _ _ x_nu 
      have a26 : f9 nu = some (.inl (cy 0, 12, .inl gu)) := k13 _ _ a25 (fun j9 h8 => (z_ne a25 (F7 j9 h8) rfl))
      have a27 : f1 fm = some (.inl (cy 4, 6, .inr (.inr (.inr (.inr gf))))) := k3 _ _ x_fm 
      have a28 : f9 fm = some (.inl (cy 4, 6, .inr (.inr (.inr (.inr gf))))) := k13 _ _ a27 (fun j9 h8 => (z_ne a27 (F7 j9 h8) rfl))
      have a29 : f1 co = some (.inl (cy 5, 60, .inr (.inr (.inr (.inr gc))))) := k3 _ _ x_co 
      have a30 : f9 co = some (.inl (cy 5, 60, .inr (.inr (.inr (.inr gc))))) := k13 _ _ a29 (fun j9 h8 => (z_ne a29 (F7 j9 h8) rfl))
      have a31 : f1 en = some (.inl (cy 6, 4, .inr (.inr (.inr (.inr ge))))) := k3 _ _ x_en 
      have a32 : f9 en = some (.inl (cy 6, 4, .inr (.inr (.inr (.inr ge))))) := k13 _ _ a31 (fun j9 h8 => (z_ne a31 (F7 j9 h8) rfl))
      have a33 : f1 ke = some (.inr (6, [.ref kn, .ref vq, .int (nI ks)])) := k3 _ _ x_ke 
      have a34 : f9 ke = some (.inr (6, [.ref kn, .ref vq, .int (nI ks)])) := k13 _ _ a33 (fun j9 h8 => (z_ne a33 (F7 j9 h8) rfl))
      have a35 : f1 kn = some (.inl (cy 0, 40, .inl kk)) := k3 _ _ x_kn 
      have a36 : f9 kn = some (.inl (cy 0, 40, .inl kk)) := k13 _ _ a35 (fun j9 h8 => (z_ne a35 (F7 j9 h8) rfl))
      have a37 : f1 vq = some (.inl (cy 0, 40, .inl kv)) := k3 _ _ x_vq 
      have a38 : f9 vq = some (.inl (cy 0, 40, .inl kv)) := k13 _ _ a37 (fun j9 h8 => (z_ne a37 (F7 j9 h8) rfl))
      have F39 : ∀ i9 : Nat, i9 < nn → f9 (pt i9) = some (.inl (cy 1, (ln i9), .inr (.inl (pp i9)))) := fun i9 h9 => k13 _ _ (F8 i9 h9) (fun j9 h8 => (z_neO (F8 i9 h9) (F7 j9 h8) rfl))
      have F40 : ∀ i9 : Nat, i9 < nf → f1 (fq i9) = some (.inr (3, [.ref (fk i9), .int (nI (fz i9))])) := fun i9 h9 => k3 _ _ (hFq i9 h9) 
      have F41 : ∀ i9 : Nat, i9 < nf → f9 (fq i9) = some (.inr (3, [.ref (fk i9), .int (nI (fz i9))])) := fun i9 h9 => k13 _ _ (F40 i9 h9) (fun j9 h8 => (z_ne (F40 i9 h9) (F7 j9 h8) rfl))
      have F42 : ∀ i9 : Nat, i9 < nf → f1 (fk i9) = some (.inl (cy 0, 4, .inl (fc i9))) := fun i9 h9 => k3 _ _ (hFk i9 h9) 
      have F43 : ∀ i9 : Nat, i9 < nf → f9 (fk i9) = some (.inl (cy 0, 4, .inl (fc i9))) := fun i9 h9 => k13 _ _ (F42 i9 h9) (fun j9 h8 => (z_ne (F42 i9 h9) (F7 j9 h8) rfl))
      have F44 : ∀ i9 : Nat, i9 < nc → f1 (cn i9) = some (.inr (0, [.int (ce i9), .int (cm i9)])) := fun i9 h9 => k3 _ _ (hCn i9 h9) 
      have F45 : ∀ i9 : Nat, i9 < nc → f9 (cn i9) = some (.inr (0, [.int (ce i9), .int (cm i9)])) := fun i9 h9 => k13 _ _ (F44 i9 h9) (fun j9 h8 => (z_ne (F44 i9 h9) (F7 j9 h8) rfl))
      have F46 : ∀ i9 : Nat, i9 < 4 → f1 (ea i9) = some (.inr (1, [.ref (ma i9), .int (nI (sq i9))])) := fun i9 h9 => k3 _ _ (hEa i9 h9) 
      have F47 : ∀ i9 : Nat, i9 < 4 → f9 (ea i9) = some (.inr (1, [.ref (ma i9), .int (nI (sq i9))])) := fun i9 h9 => k13 _ _ (F46 i9 h9) (fun j9 h8 => (z_ne (F46 i9 h9) (F7 j9 h8) rfl))
      have F48 : ∀ i9 : Nat, i9 < 4 → f1 (ma i9) = some (.inl (cy 0, 60, .inl (mb i9))) := fun i9 h9 => k3 _ _ (hMa i9 h9) 
      have F49 : ∀ i9 : Nat, i9 < 4 → f9 (ma i9) = some (.inl (cy 0, 60, .inl (mb i9))) := fun i9 h9 => k13 _ _ (F48 i9 h9) (fun j9 h8 => (z_ne (F48 i9 h9) (F7 j9 h8) rfl))
      exact z_lret C hr hz hS ⟨u1, u2, u3, gv, nl, gu, nn, ga, gr, fg, pt, kd, ln, pp, wg_11, wd, hs, bf, nf, gf, fq, fk, fz, fc, nc, gc, cn, ce, cm, sq, mb, ks, kk, kv, lk, rfl, rfl, rfl, rfl, rfl, rfl, rfl, rfl, rfl, rfl, rfl, rfl, rfl, rfl, rfl, rfl, rfl, rfl, rfl, rfl, rfl, rfl, rfl, rfl, ⟨a16, a18, a20, a21, a22, a24, a26, a28, a30, a32, a34, a36, a38, F12, F39, F41, F43, F45, F47, F49, hn60, hl12, hf6, hc60, hs40, hga, hgr, hln, hk5, hk4, hfi, hpi, har, hgf, hfz, hgc, hG, hsq, hei, hmi, kne, hca, hcr, hlk⟩⟩ (Nat.le_of_ble_eq_true rfl) (Nat.le_of_ble_eq_true rfl) dX7_weight_40
    · refine lv_aload_n hx hb dX7_weight_29 rfl (lv_at hl 0 rfl) ?_
      have a50 : f9 (fg ja) = some (.inr (4, [.int (kd ja), .ref (pt ja), .long (wg_11 ja), .int (wd ja), .int (nI ja), .int (hs ja), .int (bf ja)])) := F12 ja hja
      refine z_callVl (As := []) C hz hS hA hl (k_X4_heavyWeight l D cy f9 (fg ja) (kd ja) (pt ja) (wg_11 ja) (wd ja) (nI ja) (hs ja) (bf ja) a50 ) zyX4_heavyWeight mMX7_159 a50 zl4 rfl rfl (Nat.le_of_ble_eq_true rfl) ⟨Nat.le_of_ble_eq_true rfl, Nat.le_of_ble_eq_true rfl⟩ ⟨Nat.le_of_ble_eq_true rfl, Nat.le_of_ble_eq_true rfl⟩ dX7_weight_30 (fun r53 f51 H locs h52 hz hS => ?_)
      have k54 := h52
      refine lv_goto (tgt := 40) hx hb dX7_weight_33 (by decide) ?_
      have a55 : f9 o = some (.inr (7, [.ref fa, .ref fi, .ref nu, .int (nI nl), .ref fm, .int (nI nf), .ref co, .int (nI nc), .ref en, .ref ke, .long lk])) := k13 _ _ a4 (fun j9 h8 => (z_ne a4 (F7 j9 h8) rfl))
      have a56 : f51 o = some (.inr (7, [.ref fa, .ref fi, .ref nu, .int (nI nl), .ref fm, .int (nI nf), .ref co, .int (nI nc), .ref en, .ref ke, .long lk])) := k54 _ _ a55 
      have a57 : f1 fa = some (.inr (2, [.int u1, .int u2, .int u3, .ref ev])) := k3 _ _ x_fa 
      have a58 : f9 fa = some (.inr (2, [.int u1, .int u2, .int u3, .ref ev])) := k13 _ _ a57 (fun j9 h8 => (z_ne a57 (F7 j9 h8) rfl))
      have a59 : f51 fa = some (.inr (2, [.int u1, .int u2, .int u3, .ref ev])) := k54 _ _ a58 
      have a60 : f1 ev = some (.inl (cy 0, 8, .inl gv)) := k3 _ _ x_ev 
      have a61 : f9 ev = some (.inl (cy 0, 8, .inl gv)) := k13 _ _ a60 (fun j9 h8 => (z_ne a60 (F7 j9 h8) rfl))
      have a62 : f51 ev = some (.inl (cy 0, 8, .inl gv)) := k54 _ _ a61 
      have a63 : f9 fi = some (.inr (5, [.ref al, .ref ra, .int (nI nn)])) := k13 _ _ a5 (fun j9 h8 => (z_ne a5 (F7 j9 h8) rfl))
      have a64 : f51 fi = some (.inr (5, [.ref al, .ref ra, .int (nI nn)])) := k54 _ _ a63 
      have a65 : f9 al = some (.inl (cy 3, 60, .inr (.inr (.inr (.inr ga))))) := k13 _ _ a6 (fun j9 h8 => (z_ne a6 (F7 j9 h8) rfl))
      have a66 : f51 al = some (.inl (cy 3, 60, .inr (.inr (.inr (.inr ga))))) := k54 _ _ a65 
      have a67 : f1 ra = some (.inl (cy 3, 60, .inr (.inr (.inr (.inr gr))))) := k3 _ _ x_ra 
      have a68 : f9 ra = some (.inl (cy 3, 60, .inr (.inr (.inr (.inr gr))))) := k13 _ _ a67 (fun j9 h8 => (z_ne a67 (F7 j9 h8) rfl))
      have a69 : f51 ra = some (.inl (cy 3, 60, .inr (.inr (.inr (.inr gr))))) := k54 _ _ a68 
      have a70 : f1 nu = some (.inl (cy 0, 12, .inl gu)) := k3 _ _ x_nu 
      have a71 : f9 nu = some (.inl (cy 0, 12, .inl gu)) := k13 _ _ a70 (fun j9 h8 => (z_ne a70 (F7 j9 h8) rfl))
      have a72 : f51 nu = some (.inl (cy 0, 12, .inl gu)) := k54 _ _ a71 
      have a73 : f1 fm = some (.inl (cy 4, 6, .inr (.inr (.inr (.inr gf))))) := k3 _ _ x_fm 
      have a74 : f9 fm = some (.inl (cy 4, 6, .inr (.inr (.inr (.inr gf))))) := k13 _ _ a73 (fun j9 h8 => (z_ne a73 (F7 j9 h8) rfl))
      have a75 : f51 fm = some (.inl (cy 4, 6, .inr (.inr (.inr (.inr gf))))) := k54 _ _ a74 
      have a76 : f1 co = some (.inl (cy 5, 60, .inr (.inr (.inr (.inr gc))))) := k3 _ _ x_co 
      have a77 : f9 co = some (.inl (cy 5, 60, .inr (.inr (.inr (.inr gc))))) := k13 _ _ a76 (fun j9 h8 => (z_ne a76 (F7 j9 h8) rfl))
      have a78 : f51 co = some (.inl (cy 5, 60, .inr (.inr (.inr (.inr gc))))) := k54 _ _ a77 
      have a79 : f1 en = some (.inl (cy 6, 4, .inr (.inr (.inr (.inr ge))))) := k3 _ _ x_en 
      have a80 : f9 en = some (.inl (cy 6, 4, .inr (.inr (.inr (.inr ge))))) := k13 _ _ a79 (fun j9 h8 => (z_ne a79 (F7 j9 h8) rfl))
      have a81 : f51 en = some (.inl (cy 6, 4, .inr (.inr (.inr (.inr ge))))) := k54 _ _ a80 
      have a82 : f1 ke = some (.inr (6, [.ref kn, .ref vq, .int (nI ks)])) := k3 _ _ x_ke 
      have a83 : f9 ke = some (.inr (6, [.ref kn, .ref vq, .int (nI ks)])) := k13 _ _ a82 (fun j9 h8 => (z_ne a82 (F7 j9 h8) rfl))
      have a84 : f51 ke = some (.inr (6, [.ref kn, .ref vq, .int (nI ks)])) := k54 _ _ a83 
      have a85 : f1 kn = some (.inl (cy 0, 40, .inl kk)) := k3 _ _ x_kn 
      have a86 : f9 kn = some (.inl (cy 0, 40, .inl kk)) := k13 _ _ a85 (fun j9 h8 => (z_ne a85 (F7 j9 h8) rfl))
      have a87 : f51 kn = some (.inl (cy 0, 40, .inl kk)) := k54 _ _ a86 
      have a88 : f1 vq = some (.inl (cy 0, 40, .inl kv)) := k3 _ _ x_vq 
      have a89 : f9 vq = some (.inl (cy 0, 40, .inl kv)) := k13 _ _ a88 (fun j9 h8 => (z_ne a88 (F7 j9 h8) rfl))
      have a90 : f51 vq = some (.inl (cy 0, 40, .inl kv)) := k54 _ _ a89 
      have F91 : ∀ i9 : Nat, i9 < nn → f51 (fg i9) = some (.inr (4, [.int (kd i9), .ref (pt i9), .long (wg_11 i9), .int (wd i9), .int (nI i9), .int (hs i9), .int (bf i9)])) := fun i9 h9 => k54 _ _ (F12 i9 h9) 
      have F92 : ∀ i9 : Nat, i9 < nn → f9 (pt i9) = some (.inl (cy 1, (ln i9), .inr (.inl (pp i9)))) := fun i9 h9 => k13 _ _ (F8 i9 h9) (fun j9 h8 => (z_neO (F8 i9 h9) (F7 j9 h8) rfl))
      have F93 : ∀ i9 : Nat, i9 < nn → f51 (pt i9) = some (.inl (cy 1, (ln i9), .inr (.inl (pp i9)))) := fun i9 h9 => k54 _ _ (F92 i9 h9) 
      have F94 : ∀ i9 : Nat, i9 < nf → f1 (fq i9) = some (.inr (3, [.ref (fk i9), .int (nI (fz i9))])) := fun i9 h9 => k3 _ _ (hFq i9 h9) 
      have F95 : ∀ i9 : Nat, i9 < nf → f9 (fq i9) = some (.inr (3, [.ref (fk i9), .int (nI (fz i9))])) := fun i9 h9 => k13 _ _ (F94 i9 h9) (fun j9 h8 => (z_ne (F94 i9 h9) (F7 j9 h8) rfl))
      have F96 : ∀ i9 : Nat, i9 < nf → f51 (fq i9) = some (.inr (3, [.ref (fk i9), .int (nI (fz i9))])) := fun i9 h9 => k54 _ _ (F95 i9 h9) 
      have F97 : ∀ i9 : Nat, i9 < nf → f1 (fk i9) = some (.inl (cy 0, 4, .inl (fc i9))) := fun i9 h9 => k3 _ _ (hFk i9 h9) 
      have F98 : ∀ i9 : Nat, i9 < nf → f9 (fk i9) = some (.inl (cy 0, 4, .inl (fc i9))) := fun i9 h9 => k13 _ _ (F97 i9 h9) (fun j9 h8 => (z_ne (F97 i9 h9) (F7 j9 h8) rfl))
      have F99 : ∀ i9 : Nat, i9 < nf → f51 (fk i9) = some (.inl (cy 0, 4, .inl (fc i9))) := fun i9 h9 => k54 _ _ (F98 i9 h9) 
      have F100 : ∀ i9 : Nat, i9 < nc → f1 (cn i9) = some (.inr (0, [.int (ce i9), .int (cm i9)])) := fun i9 h9 => k3 _ _ (hCn i9 h9) 
      have F101 : ∀ i9 : Nat, i9 < nc → f9 (cn i9) = some (.inr (0, [.int (ce i9), .int (cm i9)])) := fun i9 h9 => k13 _ _ (F100 i9 h9) (fun j9 h8 => (z_ne (F100 i9 h9) (F7 j9 h8) rfl))
      have F102 : ∀ i9 : Nat, i9 < nc → f51 (cn i9) = some (.inr (0, [.int (ce i9), .int (cm i9)])) := fun i9 h9 => k54 _ _ (F101 i9 h9) 
      have F103 : ∀ i9 : Nat, i9 < 4 → f1 (ea i9) = some (.inr (1, [.ref (ma i9), .int (nI (sq i9))])) := fun i9 h9 => k3 _ _ (hEa i9 h9) 
      have F104 : ∀ i9 : Nat, i9 < 4 → f9 (ea i9) = some (.inr (1, [.ref (ma i9), .int (nI (sq i9))])) := fun i9 h9 => k13 _ _ (F103 i9 h9) (fun j9 h8 => (z_ne (F103 i9 h9) (F7 j9 h8) rfl))
      have F105 : ∀ i9 : Nat, i9 < 4 → f51 (ea i9) = some (.inr (1, [.ref (ma i9), .int (nI (sq i9))])) := fun i9 h9 => k54 _ _ (F104 i9 h9) 
      have F106 : ∀ i9 : Nat, i9 < 4 → f1 (ma i9) = some (.inl (cy 0, 60, .inl (mb i9))) := fun i9 h9 => k3 _ _ (hMa i9 h9) 
      have F107 : ∀ i9 : Nat, i9 < 4 → f9 (ma i9) = some (.inl (cy 0, 60, .inl (mb i9))) := fun i9 h9 => k13 _ _ (F106 i9 h9) (fun j9 h8 => (z_ne (F106 i9 h9) (F7 j9 h8) rfl))
      have F108 : ∀ i9 : Nat, i9 < 4 → f51 (ma i9) = some (.inl (cy 0, 60, .inl (mb i9))) := fun i9 h9 => k54 _ _ (F107 i9 h9) 
      exact z_lret C hr hz hS ⟨u1, u2, u3, gv, nl, gu, nn, ga, gr, fg, pt, kd, ln, pp, wg_11, wd, hs, bf, nf, gf, fq, fk, fz, fc, nc, gc, cn, ce, cm, sq, mb, ks, kk, kv, lk, rfl, rfl, rfl, rfl, rfl, rfl, rfl, rfl, rfl, rfl, rfl, rfl, rfl, rfl, rfl, rfl, rfl, rfl, rfl, rfl, rfl, rfl, rfl, rfl, ⟨a56, a59, a62, a64, a66, a69, a72, a75, a78, a81, a84, a87, a90, F91, F93, F96, F99, F102, F105, F108, hn60, hl12, hf6, hc60, hs40, hga, hgr, hln, hk5, hk4, hfi, hpi, har, hgf, hfz, hgc, hG, hsq, hei, hmi, kne, hca, hcr, hlk⟩⟩ (Nat.le_of_ble_eq_true rfl) (Nat.le_of_ble_eq_true rfl) dX7_weight_40
  · have hFa : isF nn x = false := isF_f hn60 hva
    refine z_callVq (As := [.long x.toInt64]) C hz hS hA hl (k_X5_find_B l D cy f fi al ra nn x.toInt64 x_fi hn60 (fun i9 h9 q9 => hva i9 h9 (z_toL (by omega) q9))) zyX5_find mMX7_130 x_fi zl5 rfl rfl (Nat.le_of_ble_eq_true rfl) ⟨Nat.le_of_ble_eq_true rfl, Nat.le_of_ble_eq_true rfl⟩ ⟨Nat.le_of_ble_eq_true rfl, Nat.le_of_ble_eq_true rfl⟩ dX7_weight_6 (fun r f109 H locs h110 hz hS => ?_)
    obtain ⟨rfl, k111⟩ := h110
    refine W.eq (g2 := F0 m 9 ls [.null]) rfl ?_
    refine lv_astore_nN (lv' := [(3, .null), (0, .ref o), (1, .int x), (2, .int w)]) hx hb dX7_weight_9 rfl hl (by decide) rfl (fun ls hl => ?_)
    refine lv_aload_nN hx hb dX7_weight_10 rfl (lv_at hl 0 rfl) ?_
    refine lv_ifnonnullN hx hb dX7_weight_11 ?_
    refine lv_ldc2 (v := (-3000000000000000000)) hx hb C.2.2.2.1 (C.2.2.2.2.1 _ mKX7_154) dX7_weight_14 ?_
    have a112 : f109 o = some (.inr (7, [.ref fa, .ref fi, .ref nu, .int (nI nl), .ref fm, .int (nI nf), .ref co, .int (nI nc), .ref en, .ref ke, .long lk])) := k111 _ _ x_o 
    have a113 : f109 fa = some (.inr (2, [.int u1, .int u2, .int u3, .ref ev])) := k111 _ _ x_fa 
    have a114 : f109 ev = some (.inl (cy 0, 8, .inl gv)) := k111 _ _ x_ev 
    have a115 : f109 fi = some (.inr (5, [.ref al, .ref ra, .int (nI nn)])) := k111 _ _ x_fi 
    have a116 : f109 al = some (.inl (cy 3, 60, .inr (.inr (.inr (.inr ga))))) := k111 _ _ x_al 
    have a117 : f109 ra = some (.inl (cy 3, 60, .inr (.inr (.inr (.inr gr))))) := k111 _ _ x_ra 
    have a118 : f109 nu = some (.inl (cy 0, 12, .inl gu)) := k111 _ _ x_nu 
    have a119 : f109 fm = some (.inl (cy 4, 6, .inr (.inr (.inr (.inr gf))))) := k111 _ _ x_fm 
    have a120 : f109 co = some (.inl (cy 5, 60, .inr (.inr (.inr (.inr gc))))) := k111 _ _ x_co 
    have a121 : f109 en = some (.inl (cy 6, 4, .inr (.inr (.inr (.inr ge))))) := k111 _ _ x_en 
    have a122 : f109 ke = some (.inr (6, [.ref kn, .ref vq, .int (nI ks)])) := k111 _ _ x_ke 
    have a123 : f109 kn = some (.inl (cy 0, 40, .inl kk)) := k111 _ _ x_kn 
    have a124 : f109 vq = some (.inl (cy 0, 40, .inl kv)) := k111 _ _ x_vq 
    have F125 : ∀ i9 : Nat, i9 < nn → f109 (fg i9) = some (.inr (4, [.int (kd i9), .ref (pt i9), .long (wg i9), .int (wd i9), .int (nI i9), .int (hs i9), .int (bf i9)])) := fun i9 h9 => k111 _ _ (hF i9 h9) 
    have F126 : ∀ i9 : Nat, i9 < nn → f109 (pt i9) = some (.inl (cy 1, (ln i9), .inr (.inl (pp i9)))) := fun i9 h9 => k111 _ _ (hP i9 h9) 
    have F127 : ∀ i9 : Nat, i9 < nf → f109 (fq i9) = some (.inr (3, [.ref (fk i9), .int (nI (fz i9))])) := fun i9 h9 => k111 _ _ (hFq i9 h9) 
    have F128 : ∀ i9 : Nat, i9 < nf → f109 (fk i9) = some (.inl (cy 0, 4, .inl (fc i9))) := fun i9 h9 => k111 _ _ (hFk i9 h9) 
    have F129 : ∀ i9 : Nat, i9 < nc → f109 (cn i9) = some (.inr (0, [.int (ce i9), .int (cm i9)])) := fun i9 h9 => k111 _ _ (hCn i9 h9) 
    have F130 : ∀ i9 : Nat, i9 < 4 → f109 (ea i9) = some (.inr (1, [.ref (ma i9), .int (nI (sq i9))])) := fun i9 h9 => k111 _ _ (hEa i9 h9) 
    have F131 : ∀ i9 : Nat, i9 < 4 → f109 (ma i9) = some (.inl (cy 0, 60, .inl (mb i9))) := fun i9 h9 => k111 _ _ (hMa i9 h9) 
    exact z_lret C hr hz hS ⟨u1, u2, u3, gv, nl, gu, nn, ga, gr, fg, pt, kd, ln, pp, wg, wd, hs, bf, nf, gf, fq, fk, fz, fc, nc, gc, cn, ce, cm, sq, mb, ks, kk, kv, lk, rfl, rfl, rfl, rfl, rfl, rfl, rfl, rfl, rfl, rfl, rfl, rfl, rfl, rfl, rfl, rfl, rfl, rfl, rfl, rfl, rfl, rfl, rfl, rfl, ⟨a112, a113, a114, a115, a116, a117, a118, a119, a120, a121, a122, a123, a124, F125, F126, F127, F128, F129, F130, F131, hn60, hl12, hf6, hc60, hs40, hga, hgr, hln, hk5, hk4, hfi, hpi, har, hgf, hfz, hgc, hG, hsq, hei, hmi, kne, hca, hcr, hlk⟩⟩ (Nat.le_of_ble_eq_true rfl) (Nat.le_of_ble_eq_true rfl) dX7_weight_17
abbrev rmX7_ranked : Room := { frames := 1, cells := 0, slots := 0, locals := 21 }
set_option maxHeartbeats 4000000 in
set_option maxRecDepth 100000 in
theorem k_X7_ranked (l : Launch) (D : va_G) (cy : Nat → ClassId) (f : zM) (o : Nat) (fa : Nat) (fi : Nat) (nu : Nat) (fm : Nat) (co : Nat) (en : Nat) (ke : Nat) (ev : Nat) (al : Nat) (ra : Nat) (kn : Nat) (vq : Nat) (ge : Nat → Option Nat) (ea : Nat → Nat) (ma : Nat → Nat) (u1 : Int32) (u2 : Int32) (u3 : Int32) (gv : Nat → Int32) (nl : Nat) (gu : Nat → Int32) (nn : Nat) (ga : Nat → Option Nat) (gr : Nat → Option Nat) (fg : Nat → Nat) (pt : Nat → Nat) (kd : Nat → Int32) (ln : Nat → Nat) (pp : Nat → Nat → Int64) (wg : Nat → Int64) (wd : Nat → Int32) (hs : Nat → Int32) (bf : Nat → Int32) (nf : Nat) (gf : Nat → Option Nat) (fq : Nat → Nat) (fk : Nat → Nat) (fz : Nat → Nat) (fc : Nat → Nat → Int32) (nc : Nat) (gc : Nat → Option Nat) (cn : Nat → Nat) (ce : Nat → Int32) (cm : Nat → Int32) (sq : Nat → Nat) (mb : Nat → Nat → Int32) (ks : Nat) (kk : Nat → Int32) (kv : Nat → Int32) (lk : Int64) (x : Int32)    (hI : zIX cy f o fa fi nu fm co en ke ev al ra kn vq ge ea ma u1 u2 u3 gv nl gu nn ga gr fg pt kd ln pp wg wd hs bf nf gf fq fk fz fc nc gc cn ce cm sq mb ks kk kv lk) : zCi l D cy yX7_ranked cX7_ranked 2 (Option.some Jvm.ClassFile.FieldType.int) rmX7_ranked [.ref o, .int x] f (fun (r : Int32) (f1 : zM) => ∃ (u11 : Int32) (u21 : Int32) (u31 : Int32) (gv1 : Nat → Int32) (nl1 : Nat) (gu1 : Nat → Int32) (nn1 : Nat) (ga1 : Nat → Option Nat) (gr1 : Nat → Option Nat) (fg1 : Nat → Nat) (pt1 : Nat → Nat) (kd1 : Nat → Int32) (ln1 : Nat → Nat) (pp1 : Nat → Nat → Int64) (wg1 : Nat → Int64) (wd1 : Nat → Int32) (hs1 : Nat → Int32) (bf1 : Nat → Int32) (nf1 : Nat) (gf1 : Nat → Option Nat) (fq1 : Nat → Nat) (fk1 : Nat → Nat) (fz1 : Nat → Nat) (fc1 : Nat → Nat → Int32) (nc1 : Nat) (gc1 : Nat → Option Nat) (cn1 : Nat → Nat) (ce1 : Nat → Int32) (cm1 : Nat → Int32) (sq1 : Nat → Nat) (mb1 : Nat → Nat → Int32) (ks1 : Nat) (kk1 : Nat → Int32) (kv1 : Nat → Int32) (lk1 : Int64), (u11 = u1) ∧ (u21 = u2) ∧ (u31 = u3) ∧ (gv1 = gv) ∧ (nl1 = nl) ∧ (gu1 = gu) ∧ (nn1 = nn) ∧ (kd1 = kd) ∧ (ln1 = ln) ∧ (pp1 = pp) ∧ (wd1 = wd) ∧ (hs1 = hs) ∧ (nf1 = nf) ∧ (fz1 = fz) ∧ (fc1 = fc) ∧ (nc1 = nc) ∧ (ce1 = ce) ∧ (cm1 = cm) ∧ (sq1 = sq) ∧ (mb1 = mb) ∧ (ks1 = ks) ∧ (kk1 = kk) ∧ (kv1 = kv) ∧ (lk1 = lk) ∧ zIX cy f1 o fa fi nu fm co en ke ev al ra kn vq ge ea ma u11 u21 u31 gv1 nl1 gu1 nn1 ga1 gr1 fg1 pt1 kd1 ln1 pp1 wg1 wd1 hs1 bf1 nf1 gf1 fq1 fk1 fz1 fc1 nc1 gc1 cn1 ce1 cm1 sq1 mb1 ks1 kk1 kv1 lk1) := by
  intro sz
  refine z_body (by decide +kernel) (Nat.le_of_ble_eq_true rfl) ?_
  intro p e s m below meth c ls C hr hin hsz hz hl
  subst hsz
  have hx := C.1
  have hb := C.2.1
  have hA : ∀ q, s.heap.size ≤ q → zA f s.heap.size q := fun q h => Or.inr h
  have hS : va_S (zA f s.heap.size) s.heap s.heap [] := va_S.rf
  have hl : lv_has ls 2 [(0, .ref o), (1, .int x)] := hl
  obtain ⟨x_o, x_fa, x_ev, x_fi, x_al, x_ra, x_nu, x_fm, x_co, x_en, x_ke, x_kn, x_vq, hF, hP, hFq, hFk, hCn, hEa, hMa, hn60, hl12, hf6, hc60, hs40, hga, hgr, hln, hk5, hk4, hfi, hpi, har, hgf, hfz, hgc, hG, hsq, hei, hmi, kne, hca, hcr, hlk⟩ := id hI
  refine lv_iload_n hx hb dX7_ranked_0 rfl (lv_at hl 1 rfl) ?_
  refine lv_if_ge (tgt := 9) hx hb dX7_ranked_1 (by decide) (fun c1 => ?_) (fun c1 => ?_)
  · refine lv_aload_n hx hb dX7_ranked_9 rfl (lv_at hl 0 rfl) ?_
    refine z_get (v := .ref fi) C hz x_o zl7 mFX7_19 (by decide) rfl dX7_ranked_10 ?_
    refine lv_iload_n hx hb dX7_ranked_13 rfl (lv_at hl 1 rfl) ?_
    refine z_callVi (As := [.int x]) C hz hS hA hl (k_X5_numberRanked l D cy f fi al ra gr nn fg pt kd ln pp wg wd hs bf x x_fi x_ra hF hn60 hgr) zyX5_numberRanked mMX7_181 x_fi zl5 rfl rfl (Nat.le_of_ble_eq_true rfl) ⟨Nat.le_of_ble_eq_true rfl, Nat.le_of_ble_eq_true rfl⟩ ⟨Nat.le_of_ble_eq_true rfl, Nat.le_of_ble_eq_true rfl⟩ dX7_ranked_14 (fun r4 f2 H locs h3 hz hS => ?_)
    have k5 := h3
    have a6 : f2 o = some (.inr (7, [.ref fa, .ref fi, .ref nu, .int (nI nl), .ref fm, .int (nI nf), .ref co, .int (nI nc), .ref en, .ref ke, .long lk])) := k5 _ _ x_o 
    have a7 : f2 fa = some (.inr (2, [.int u1, .int u2, .int u3, .ref ev])) := k5 _ _ x_fa 
    have a8 : f2 ev = some (.inl (cy 0, 8, .inl gv)) := k5 _ _ x_ev 
    have a9 : f2 fi = some (.inr (5, [.ref al, .ref ra, .int (nI nn)])) := k5 _ _ x_fi 
    have a10 : f2 al = some (.inl (cy 3, 60, .inr (.inr (.inr (.inr ga))))) := k5 _ _ x_al 
    have a11 : f2 ra = some (.inl (cy 3, 60, .inr (.inr (.inr (.inr gr))))) := k5 _ _ x_ra 
    have a12 : f2 nu = some (.inl (cy 0, 12, .inl gu)) := k5 _ _ x_nu 
    have a13 : f2 fm = some (.inl (cy 4, 6, .inr (.inr (.inr (.inr gf))))) := k5 _ _ x_fm 
    have a14 : f2 co = some (.inl (cy 5, 60, .inr (.inr (.inr (.inr gc))))) := k5 _ _ x_co 
    have a15 : f2 en = some (.inl (cy 6, 4, .inr (.inr (.inr (.inr ge))))) := k5 _ _ x_en 
    have a16 : f2 ke = some (.inr (6, [.ref kn, .ref vq, .int (nI ks)])) := k5 _ _ x_ke 
    have a17 : f2 kn = some (.inl (cy 0, 40, .inl kk)) := k5 _ _ x_kn 
    have a18 : f2 vq = some (.inl (cy 0, 40, .inl kv)) := k5 _ _ x_vq 
    have F19 : ∀ i9 : Nat, i9 < nn → f2 (fg i9) = some (.inr (4, [.int (kd i9), .ref (pt i9), .long (wg i9), .int (wd i9), .int (nI i9), .int (hs i9), .int (bf i9)])) := fun i9 h9 => k5 _ _ (hF i9 h9) 
    have F20 : ∀ i9 : Nat, i9 < nn → f2 (pt i9) = some (.inl (cy 1, (ln i9), .inr (.inl (pp i9)))) := fun i9 h9 => k5 _ _ (hP i9 h9) 
    have F21 : ∀ i9 : Nat, i9 < nf → f2 (fq i9) = some (.inr (3, [.ref (fk i9), .int (nI (fz i9))])) := fun i9 h9 => k5 _ _ (hFq i9 h9) 
    have F22 : ∀ i9 : Nat, i9 < nf → f2 (fk i9) = some (.inl (cy 0, 4, .inl (fc i9))) := fun i9 h9 => k5 _ _ (hFk i9 h9) 
    have F23 : ∀ i9 : Nat, i9 < nc → f2 (cn i9) = some (.inr (0, [.int (ce i9), .int (cm i9)])) := fun i9 h9 => k5 _ _ (hCn i9 h9) 
    have F24 : ∀ i9 : Nat, i9 < 4 → f2 (ea i9) = some (.inr (1, [.ref (ma i9), .int (nI (sq i9))])) := fun i9 h9 => k5 _ _ (hEa i9 h9) 
    have F25 : ∀ i9 : Nat, i9 < 4 → f2 (ma i9) = some (.inl (cy 0, 60, .inl (mb i9))) := fun i9 h9 => k5 _ _ (hMa i9 h9) 
    exact z_iret C hr rfl hz hS ⟨u1, u2, u3, gv, nl, gu, nn, ga, gr, fg, pt, kd, ln, pp, wg, wd, hs, bf, nf, gf, fq, fk, fz, fc, nc, gc, cn, ce, cm, sq, mb, ks, kk, kv, lk, rfl, rfl, rfl, rfl, rfl, rfl, rfl, rfl, rfl, rfl, rfl, rfl, rfl, rfl, rfl, rfl, rfl, rfl, rfl, rfl, rfl, rfl, rfl, rfl, ⟨a6, a7, a8, a9, a10, a11, a12, a13, a14, a15, a16, a17, a18, F19, F20, F21, F22, F23, F24, F25, hn60, hl12, hf6, hc60, hs40, hga, hgr, hln, hk5, hk4, hfi, hpi, har, hgf, hfz, hgc, hG, hsq, hei, hmi, kne, hca, hcr, hlk⟩⟩ (Nat.le_of_ble_eq_true rfl) (Nat.le_of_ble_eq_true rfl) dX7_ranked_17
  · refine lv_bipush (v := (-2)) hx hb dX7_ranked_4 (by decide) ?_
    refine lv_goto (tgt := 17) hx hb dX7_ranked_6 (by decide) ?_
    exact z_iret C hr rfl hz hS ⟨u1, u2, u3, gv, nl, gu, nn, ga, gr, fg, pt, kd, ln, pp, wg, wd, hs, bf, nf, gf, fq, fk, fz, fc, nc, gc, cn, ce, cm, sq, mb, ks, kk, kv, lk, rfl, rfl, rfl, rfl, rfl, rfl, rfl, rfl, rfl, rfl, rfl, rfl, rfl, rfl, rfl, rfl, rfl, rfl, rfl, rfl, rfl, rfl, rfl, rfl, ⟨x_o, x_fa, x_ev, x_fi, x_al, x_ra, x_nu, x_fm, x_co, x_en, x_ke, x_kn, x_vq, hF, hP, hFq, hFk, hCn, hEa, hMa, hn60, hl12, hf6, hc60, hs40, hga, hgr, hln, hk5, hk4, hfi, hpi, har, hgf, hfz, hgc, hG, hsq, hei, hmi, kne, hca, hcr, hlk⟩⟩ (Nat.le_of_ble_eq_true rfl) (Nat.le_of_ble_eq_true rfl) dX7_ranked_17
abbrev rmX7_at : Room := { frames := 2, cells := 0, slots := 0, locals := 43 }
set_option maxHeartbeats 4000000 in
set_option maxRecDepth 100000 in
theorem k_X7_at (l : Launch) (D : va_G) (cy : Nat → ClassId) (f : zM) (o : Nat) (fa : Nat) (fi : Nat) (nu : Nat) (fm : Nat) (co : Nat) (en : Nat) (ke : Nat) (ev : Nat) (al : Nat) (ra : Nat) (kn : Nat) (vq : Nat) (ge : Nat → Option Nat) (ea : Nat → Nat) (ma : Nat → Nat) (u1 : Int32) (u2 : Int32) (u3 : Int32) (gv : Nat → Int32) (nl : Nat) (gu : Nat → Int32) (nn : Nat) (ga : Nat → Option Nat) (gr : Nat → Option Nat) (fg : Nat → Nat) (pt : Nat → Nat) (kd : Nat → Int32) (ln : Nat → Nat) (pp : Nat → Nat → Int64) (wg : Nat → Int64) (wd : Nat → Int32) (hs : Nat → Int32) (bf : Nat → Int32) (nf : Nat) (gf : Nat → Option Nat) (fq : Nat → Nat) (fk : Nat → Nat) (fz : Nat → Nat) (fc : Nat → Nat → Int32) (nc : Nat) (gc : Nat → Option Nat) (cn : Nat → Nat) (ce : Nat → Int32) (cm : Nat → Int32) (sq : Nat → Nat) (mb : Nat → Nat → Int32) (ks : Nat) (kk : Nat → Int32) (kv : Nat → Int32) (lk : Int64) (x : Int32) (y : Int32)    (hI : zIX cy f o fa fi nu fm co en ke ev al ra kn vq ge ea ma u1 u2 u3 gv nl gu nn ga gr fg pt kd ln pp wg wd hs bf nf gf fq fk fz fc nc gc cn ce cm sq mb ks kk kv lk) : zCi l D cy yX7_at cX7_at 4 (Option.some Jvm.ClassFile.FieldType.int) rmX7_at [.ref o, .int x, .int y] f (fun (r : Int32) (f1 : zM) => ∃ (u11 : Int32) (u21 : Int32) (u31 : Int32) (gv1 : Nat → Int32) (nl1 : Nat) (gu1 : Nat → Int32) (nn1 : Nat) (ga1 : Nat → Option Nat) (gr1 : Nat → Option Nat) (fg1 : Nat → Nat) (pt1 : Nat → Nat) (kd1 : Nat → Int32) (ln1 : Nat → Nat) (pp1 : Nat → Nat → Int64) (wg1 : Nat → Int64) (wd1 : Nat → Int32) (hs1 : Nat → Int32) (bf1 : Nat → Int32) (nf1 : Nat) (gf1 : Nat → Option Nat) (fq1 : Nat → Nat) (fk1 : Nat → Nat) (fz1 : Nat → Nat) (fc1 : Nat → Nat → Int32) (nc1 : Nat) (gc1 : Nat → Option Nat) (cn1 : Nat → Nat) (ce1 : Nat → Int32) (cm1 : Nat → Int32) (sq1 : Nat → Nat) (mb1 : Nat → Nat → Int32) (ks1 : Nat) (kk1 : Nat → Int32) (kv1 : Nat → Int32) (lk1 : Int64), r = ((q_at nn kd ln pp x y).1) ∧ (u11 = (q_at nn kd ln pp x y).2.1) ∧ (u21 = (q_at nn kd ln pp x y).2.2.1) ∧ (u31 = (q_at nn kd ln pp x y).2.2.2) ∧ (gv1 = zEV gv (q_at nn kd ln pp x y).2.1) ∧ (nl1 = nl) ∧ (gu1 = gu) ∧ (nn1 = nn) ∧ (kd1 = kd) ∧ (ln1 = ln) ∧ (pp1 = pp) ∧ (wd1 = wd) ∧ (hs1 = hs) ∧ (nf1 = nf) ∧ (fz1 = fz) ∧ (fc1 = fc) ∧ (nc1 = nc) ∧ (ce1 = ce) ∧ (cm1 = cm) ∧ (sq1 = sq) ∧ (mb1 = mb) ∧ (ks1 = ks) ∧ (kk1 = kk) ∧ (kv1 = kv) ∧ (lk1 = lk) ∧ zIX cy f1 o fa fi nu fm co en ke ev al ra kn vq ge ea ma u11 u21 u31 gv1 nl1 gu1 nn1 ga1 gr1 fg1 pt1 kd1 ln1 pp1 wg1 wd1 hs1 bf1 nf1 gf1 fq1 fk1 fz1 fc1 nc1 gc1 cn1 ce1 cm1 sq1 mb1 ks1 kk1 kv1 lk1) := by
  intro sz
  refine z_body (by decide +kernel) (Nat.le_of_ble_eq_true rfl) ?_
  intro p e s m below meth c ls C hr hin hsz hz hl
  subst hsz
  have hx := C.1
  have hb := C.2.1
  have hA : ∀ q, s.heap.size ≤ q → zA f s.heap.size q := fun q h => Or.inr h
  have hS : va_S (zA f s.heap.size) s.heap s.heap [] := va_S.rf
  have hl : lv_has ls 4 [(0, .ref o), (1, .int x), (2, .int y)] := hl
  obtain ⟨x_o, x_fa, x_ev, x_fi, x_al, x_ra, x_nu, x_fm, x_co, x_en, x_ke, x_kn, x_vq, hF, hP, hFq, hFk, hCn, hEa, hMa, hn60, hl12, hf6, hc60, hs40, hga, hgr, hln, hk5, hk4, hfi, hpi, har, hgf, hfz, hgc, hG, hsq, hei, hmi, kne, hca, hcr, hlk⟩ := id hI
  refine lv_aload_n hx hb dX7_at_0 rfl (lv_at hl 0 rfl) ?_
  refine z_get (v := .ref fa) C hz x_o zl7 mFX7_10 (by decide) rfl dX7_at_1 ?_
  refine z_callVv (As := []) C hz hS hA hl (k_X2_none l D cy f fa u1 u2 u3 ev x_fa ) zyX2_none mMX7_76 x_fa zl2 rfl rfl (Nat.le_of_ble_eq_true rfl) ⟨Nat.le_of_ble_eq_true rfl, Nat.le_of_ble_eq_true rfl⟩ ⟨Nat.le_of_ble_eq_true rfl, Nat.le_of_ble_eq_true rfl⟩ dX7_at_4 (fun  f1 H locs h2 hz hS => ?_)
  obtain ⟨a3, k4⟩ := h2
  refine lv_aload_n hx hb dX7_at_7 rfl (lv_at hl 0 rfl) ?_
  have a5 : f1 o = some (.inr (7, [.ref fa, .ref fi, .ref nu, .int (nI nl), .ref fm, .int (nI nf), .ref co, .int (nI nc), .ref en, .ref ke, .long lk])) := k4 _ _ x_o (z_ne x_o x_fa rfl)
  refine z_get (v := .ref fi) C hz a5 zl7 mFX7_19 (by decide) rfl dX7_at_8 ?_
  refine lv_iload_n hx hb dX7_at_11 rfl (lv_at hl 1 rfl) ?_
  refine lv_i2l (v := x.toInt64) hx hb dX7_at_12 rfl ?_
  rcases z_findi x nn with ⟨ja, hja, hva⟩ | hva
  · have hFa : isF nn x = true := isF_t hn60 hja hva
    have hIa : fI x = ja := fI_of (by omega) hva
    have hNa : ¬ x = (-1) := by rw [hva]; exact z_nim1 (by omega)
    have a6 : f1 fi = some (.inr (5, [.ref al, .ref ra, .int (nI nn)])) := k4 _ _ x_fi (z_ne x_fi x_fa rfl)
    have a7 : f1 al = some (.inl (cy 3, 60, .inr (.inr (.inr (.inr ga))))) := k4 _ _ x_al (z_ne x_al x_fa rfl)
    refine z_callVq (As := [.long x.toInt64]) C hz hS hA hl (k_X5_find_A l D cy f1 fi al ra ga nn fg x.toInt64 ja a6 a7 hn60 hga (by rw [hva, nI_l (by omega)]) hja) zyX5_find mMX7_130 a6 zl5 rfl rfl (Nat.le_of_ble_eq_true rfl) ⟨Nat.le_of_ble_eq_true rfl, Nat.le_of_ble_eq_true rfl⟩ ⟨Nat.le_of_ble_eq_true rfl, Nat.le_of_ble_eq_true rfl⟩ dX7_at_13 (fun r f8 H locs h9 hz hS => ?_)
    obtain ⟨rfl, k10⟩ := h9
    refine W.eq (g2 := F0 m 16 ls [.ref (fg ja)]) rfl ?_
    refine lv_astore_n (lv' := [(3, .ref (fg ja)), (0, .ref o), (1, .int x), (2, .int y)]) hx hb dX7_at_16 rfl hl (by decide) rfl (fun ls hl => ?_)
    refine lv_aload_n hx hb dX7_at_17 rfl (lv_at hl 0 rfl) ?_
    refine lv_ifnonnull (tgt := 24) hx hb dX7_at_18 (by decide) ?_
    refine lv_aload_n hx hb dX7_at_24 rfl (lv_at hl 0 rfl) ?_
    have F11 : ∀ i9 : Nat, i9 < nn → f1 (fg i9) = some (.inr (4, [.int (kd i9), .ref (pt i9), .long (wg i9), .int (wd i9), .int (nI i9), .int (hs i9), .int (bf i9)])) := fun i9 h9 => k4 _ _ (hF i9 h9) (z_ne (hF i9 h9) x_fa rfl)
    have F12 : ∀ i9 : Nat, i9 < nn → f8 (fg i9) = some (.inr (4, [.int (kd i9), .ref (pt i9), .long (wg i9), .int (wd i9), .int (nI i9), .int (hs i9), .int (bf i9)])) := fun i9 h9 => k10 _ _ (F11 i9 h9) 
    have a13 : f8 (fg ja) = some (.inr (4, [.int (kd ja), .ref (pt ja), .long (wg ja), .int (wd ja), .int (nI ja), .int (hs ja), .int (bf ja)])) := F12 ja hja
    refine z_getN (v := .int (kd ja)) C hz a13 zl4 mFNX7_134 (by decide) rfl dX7_at_25 ?_
    refine lv_bipush (v := 6) hx hb dX7_at_28 (by decide) ?_
    refine lv_icmp_eq (tgt := 42) hx hb dX7_at_30 (by decide) (fun c14 => ?_) (fun c14 => ?_)
    · refine lv_aload_n hx hb dX7_at_42 rfl (lv_at hl 0 rfl) ?_
      refine lv_iload_n hx hb dX7_at_43 rfl (lv_at hl 3 rfl) ?_
      have F15 : ∀ i9 : Nat, i9 < nn → f1 (pt i9) = some (.inl (cy 1, (ln i9), .inr (.inl (pp i9)))) := fun i9 h9 => k4 _ _ (hP i9 h9) (z_neO (hP i9 h9) x_fa rfl)
      have F16 : ∀ i9 : Nat, i9 < nn → f8 (pt i9) = some (.inl (cy 1, (ln i9), .inr (.inl (pp i9)))) := fun i9 h9 => k10 _ _ (F15 i9 h9) 
      have a17 : f8 (pt ja) = some (.inl (cy 1, (ln ja), .inr (.inl (pp ja)))) := F16 ja hja
      refine z_callVi (As := [.int y]) C hz hS hA hl (k_X4_hasPlace l D cy f8 (fg ja) (kd ja) (pt ja) (wg ja) (wd ja) (nI ja) (hs ja) (bf ja) y (ln ja) (pp ja) a13 a17 ) zyX4_hasPlace mMX7_143 a13 zl4 rfl rfl (Nat.le_of_ble_eq_true rfl) ⟨Nat.le_of_ble_eq_true rfl, Nat.le_of_ble_eq_true rfl⟩ ⟨Nat.le_of_ble_eq_true rfl, Nat.le_of_ble_eq_true rfl⟩ dX7_at_44 (fun r f18 H locs h19 hz hS => ?_)
      obtain ⟨rfl, k20⟩ := h19
      refine lv_if_ne (tgt := 59) hx hb dX7_at_47 (by decide) (fun c21 => ?_) (fun c21 => ?_)
      · have hPa : isP (ln ja) y = true := isP_t c21
        obtain ⟨kx, hyk, hkx⟩ := z_place (by have h9 := hln ja hja; omega) c21
        have hIy : fI y = kx := fI_of (by have h9 := hln ja hja; omega) hyk
        refine lv_aload_n hx hb dX7_at_59 rfl (lv_at hl 0 rfl) ?_
        have a22 : f18 (fg ja) = some (.inr (4, [.int (kd ja), .ref (pt ja), .long (wg ja), .int (wd ja), .int (nI ja), .int (hs ja), .int (bf ja)])) := k20 _ _ a13 
        refine z_getN (v := .ref (pt ja)) C hz a22 zl4 mFNX7_150 (by decide) rfl dX7_at_60 ?_
        refine lv_iconst (v := 1) hx hb dX7_at_63 (by decide) ?_
        refine lv_iload_n hx hb dX7_at_64 rfl (lv_at hl 3 rfl) ?_
        refine lv_iadd hx hb dX7_at_65 ?_
        have a23 : f18 (pt ja) = some (.inl (cy 1, (ln ja), .inr (.inl (pp ja)))) := k20 _ _ a17 
        refine z_lald (1 + kx) C hz a23 (by rw [hyk]; exact nI_add 1 kx) (by omega) (by have h9 := hln ja hja; omega) dX7_at_66 ?_
        refine lv_l2i (v := ((pp ja) (1 + kx)).toInt32) hx hb dX7_at_67 rfl ?_
        have a24 : f8 o = some (.inr (7, [.ref fa, .ref fi, .ref nu, .int (nI nl), .ref fm, .int (nI nf), .ref co, .int (nI nc), .ref en, .ref ke, .long lk])) := k10 _ _ a5 
        have a25 : f18 o = some (.inr (7, [.ref fa, .ref fi, .ref nu, .int (nI nl), .ref fm, .int (nI nf), .ref co, .int (nI nc), .ref en, .ref ke, .long lk])) := k20 _ _ a24 
        have a26 : f8 fa = some (.inr (2, [.int 0, .int (-1), .int 0, .ref ev])) := k10 _ _ a3 
        have a27 : f18 fa = some (.inr (2, [.int 0, .int (-1), .int 0, .ref ev])) := k20 _ _ a26 
        have a28 : f1 ev = some (.inl (cy 0, 8, .inl gv)) := k4 _ _ x_ev (z_ne x_ev x_fa rfl)
        have a29 : f8 ev = some (.inl (cy 0, 8, .inl gv)) := k10 _ _ a28 
        have a30 : f18 ev = some (.inl (cy 0, 8, .inl gv)) := k20 _ _ a29 
        have a31 : f8 fi = some (.inr (5, [.ref al, .ref ra, .int (nI nn)])) := k10 _ _ a6 
        have a32 : f18 fi = some (.inr (5, [.ref al, .ref ra, .int (nI nn)])) := k20 _ _ a31 
        have a33 : f8 al = some (.inl (cy 3, 60, .inr (.inr (.inr (.inr ga))))) := k10 _ _ a7 
        have a34 : f18 al = some (.inl (cy 3, 60, .inr (.inr (.inr (.inr ga))))) := k20 _ _ a33 
        have a35 : f1 ra = some (.inl (cy 3, 60, .inr (.inr (.inr (.inr gr))))) := k4 _ _ x_ra (z_ne x_ra x_fa rfl)
        have a36 : f8 ra = some (.inl (cy 3, 60, .inr (.inr (.inr (.inr gr))))) := k10 _ _ a35 
        have a37 : f18 ra = some (.inl (cy 3, 60, .inr (.inr (.inr (.inr gr))))) := k20 _ _ a36 
        have a38 : f1 nu = some (.inl (cy 0, 12, .inl gu)) := k4 _ _ x_nu (z_ne x_nu x_fa rfl)
        have a39 : f8 nu = some (.inl (cy 0, 12, .inl gu)) := k10 _ _ a38 
        have a40 : f18 nu = some (.inl (cy 0, 12, .inl gu)) := k20 _ _ a39 
        have a41 : f1 fm = some (.inl (cy 4, 6, .inr (.inr (.inr (.inr gf))))) := k4 _ _ x_fm (z_ne x_fm x_fa rfl)
        have a42 : f8 fm = some (.inl (cy 4, 6, .inr (.inr (.inr (.inr gf))))) := k10 _ _ a41 
        have a43 : f18 fm = some (.inl (cy 4, 6, .inr (.inr (.inr (.inr gf))))) := k20 _ _ a42 
        have a44 : f1 co = some (.inl (cy 5, 60, .inr (.inr (.inr (.inr gc))))) := k4 _ _ x_co (z_ne x_co x_fa rfl)
        have a45 : f8 co = some (.inl (cy 5, 60, .inr (.inr (.inr (.inr gc))))) := k10 _ _ a44 
        have a46 : f18 co = some (.inl (cy 5, 60, .inr (.inr (.inr (.inr gc))))) := k20 _ _ a45 
        have a47 : f1 en = some (.inl (cy 6, 4, .inr (.inr (.inr (.inr ge))))) := k4 _ _ x_en (z_ne x_en x_fa rfl)
        have a48 : f8 en = some (.inl (cy 6, 4, .inr (.inr (.inr (.inr ge))))) := k10 _ _ a47 
        have a49 : f18 en = some (.inl (cy 6, 4, .inr (.inr (.inr (.inr ge))))) := k20 _ _ a48 
        have a50 : f1 ke = some (.inr (6, [.ref kn, .ref vq, .int (nI ks)])) := k4 _ _ x_ke (z_ne x_ke x_fa rfl)
        have a51 : f8 ke = some (.inr (6, [.ref kn, .ref vq, .int (nI ks)])) := k10 _ _ a50 
        have a52 : f18 ke = some (.inr (6, [.ref kn, .ref vq, .int (nI ks)])) := k20 _ _ a51 
        have a53 : f1 kn = some (.inl (cy 0, 40, .inl kk)) := k4 _ _ x_kn (z_ne x_kn x_fa rfl)
        have a54 : f8 kn = some (.inl (cy 0, 40, .inl kk)) := k10 _ _ a53 
        have a55 : f18 kn = some (.inl (cy 0, 40, .inl kk)) := k20 _ _ a54 
        have a56 : f1 vq = some (.inl (cy 0, 40, .inl kv)) := k4 _ _ x_vq (z_ne x_vq x_fa rfl)
        have a57 : f8 vq = some (.inl (cy 0, 40, .inl kv)) := k10 _ _ a56 
        have a58 : f18 vq = some (.inl (cy 0, 40, .inl kv)) := k20 _ _ a57 
        have F59 : ∀ i9 : Nat, i9 < nn → f18 (fg i9) = some (.inr (4, [.int (kd i9), .ref (pt i9), .long (wg i9), .int (wd i9), .int (nI i9), .int (hs i9), .int (bf i9)])) := fun i9 h9 => k20 _ _ (F12 i9 h9) 
        have F60 : ∀ i9 : Nat, i9 < nn → f18 (pt i9) = some (.inl (cy 1, (ln i9), .inr (.inl (pp i9)))) := fun i9 h9 => k20 _ _ (F16 i9 h9) 
        have F61 : ∀ i9 : Nat, i9 < nf → f1 (fq i9) = some (.inr (3, [.ref (fk i9), .int (nI (fz i9))])) := fun i9 h9 => k4 _ _ (hFq i9 h9) (z_ne (hFq i9 h9) x_fa rfl)
        have F62 : ∀ i9 : Nat, i9 < nf → f8 (fq i9) = some (.inr (3, [.ref (fk i9), .int (nI (fz i9))])) := fun i9 h9 => k10 _ _ (F61 i9 h9) 
        have F63 : ∀ i9 : Nat, i9 < nf → f18 (fq i9) = some (.inr (3, [.ref (fk i9), .int (nI (fz i9))])) := fun i9 h9 => k20 _ _ (F62 i9 h9) 
        have F64 : ∀ i9 : Nat, i9 < nf → f1 (fk i9) = some (.inl (cy 0, 4, .inl (fc i9))) := fun i9 h9 => k4 _ _ (hFk i9 h9) (z_ne (hFk i9 h9) x_fa rfl)
        have F65 : ∀ i9 : Nat, i9 < nf → f8 (fk i9) = some (.inl (cy 0, 4, .inl (fc i9))) := fun i9 h9 => k10 _ _ (F64 i9 h9) 
        have F66 : ∀ i9 : Nat, i9 < nf → f18 (fk i9) = some (.inl (cy 0, 4, .inl (fc i9))) := fun i9 h9 => k20 _ _ (F65 i9 h9) 
        have F67 : ∀ i9 : Nat, i9 < nc → f1 (cn i9) = some (.inr (0, [.int (ce i9), .int (cm i9)])) := fun i9 h9 => k4 _ _ (hCn i9 h9) (z_ne (hCn i9 h9) x_fa rfl)
        have F68 : ∀ i9 : Nat, i9 < nc → f8 (cn i9) = some (.inr (0, [.int (ce i9), .int (cm i9)])) := fun i9 h9 => k10 _ _ (F67 i9 h9) 
        have F69 : ∀ i9 : Nat, i9 < nc → f18 (cn i9) = some (.inr (0, [.int (ce i9), .int (cm i9)])) := fun i9 h9 => k20 _ _ (F68 i9 h9) 
        have F70 : ∀ i9 : Nat, i9 < 4 → f1 (ea i9) = some (.inr (1, [.ref (ma i9), .int (nI (sq i9))])) := fun i9 h9 => k4 _ _ (hEa i9 h9) (z_ne (hEa i9 h9) x_fa rfl)
        have F71 : ∀ i9 : Nat, i9 < 4 → f8 (ea i9) = some (.inr (1, [.ref (ma i9), .int (nI (sq i9))])) := fun i9 h9 => k10 _ _ (F70 i9 h9) 
        have F72 : ∀ i9 : Nat, i9 < 4 → f18 (ea i9) = some (.inr (1, [.ref (ma i9), .int (nI (sq i9))])) := fun i9 h9 => k20 _ _ (F71 i9 h9) 
        have F73 : ∀ i9 : Nat, i9 < 4 → f1 (ma i9) = some (.inl (cy 0, 60, .inl (mb i9))) := fun i9 h9 => k4 _ _ (hMa i9 h9) (z_ne (hMa i9 h9) x_fa rfl)
        have F74 : ∀ i9 : Nat, i9 < 4 → f8 (ma i9) = some (.inl (cy 0, 60, .inl (mb i9))) := fun i9 h9 => k10 _ _ (F73 i9 h9) 
        have F75 : ∀ i9 : Nat, i9 < 4 → f18 (ma i9) = some (.inl (cy 0, 60, .inl (mb i9))) := fun i9 h9 => k20 _ _ (F74 i9 h9) 
        have hq : q_at nn kd ln pp x y = (((pp ja) (1 + kx)).toInt32, 0, (-1), 0) := by simp [q_at, hFa, hIa, hNa, hPa, hIy, c14, c21]
        exact z_iret C hr rfl hz hS ⟨0, (-1), 0, gv, nl, gu, nn, ga, gr, fg, pt, kd, ln, pp, wg, wd, hs, bf, nf, gf, fq, fk, fz, fc, nc, gc, cn, ce, cm, sq, mb, ks, kk, kv, lk, (by rw [hq]), (by rw [hq]), (by rw [hq]), (by rw [hq]), (by rw [hq]; exact (zEV0 gv).symm), rfl, rfl, rfl, rfl, rfl, rfl, rfl, rfl, rfl, rfl, rfl, rfl, rfl, rfl, rfl, rfl, rfl, rfl, rfl, rfl, ⟨a25, a27, a30, a32, a34, a37, a40, a43, a46, a49, a52, a55, a58, F59, F60, F63, F66, F69, F72, F75, hn60, hl12, hf6, hc60, hs40, hga, hgr, hln, hk5, hk4, hfi, hpi, har, hgf, hfz, hgc, hG, hsq, hei, hmi, kne, hca, hcr, hlk⟩⟩ (Nat.le_of_ble_eq_true rfl) (Nat.le_of_ble_eq_true rfl) dX7_at_68
      · have hPa : isP (ln ja) y = false := isP_f c21
        refine lv_aload_n hx hb dX7_at_50 rfl (lv_at hl 1 rfl) ?_
        have a76 : f8 o = some (.inr (7, [.ref fa, .ref fi, .ref nu, .int (nI nl), .ref fm, .int (nI nf), .ref co, .int (nI nc), .ref en, .ref ke, .long lk])) := k10 _ _ a5 
        have a77 : f18 o = some (.inr (7, [.ref fa, .ref fi, .ref nu, .int (nI nl), .ref fm, .int (nI nf), .ref co, .int (nI nc), .ref en, .ref ke, .long lk])) := k20 _ _ a76 
        refine z_get (v := .ref fa) C hz a77 zl7 mFX7_10 (by decide) rfl dX7_at_51 ?_
        refine lv_iconst (v := 2) hx hb dX7_at_54 (by decide) ?_
        have a78 : f8 fa = some (.inr (2, [.int 0, .int (-1), .int 0, .ref ev])) := k10 _ _ a3 
        have a79 : f18 fa = some (.inr (2, [.int 0, .int (-1), .int 0, .ref ev])) := k20 _ _ a78 
        have a80 : f1 ev = some (.inl (cy 0, 8, .inl gv)) := k4 _ _ x_ev (z_ne x_ev x_fa rfl)
        have a81 : f8 ev = some (.inl (cy 0, 8, .inl gv)) := k10 _ _ a80 
        have a82 : f18 ev = some (.inl (cy 0, 8, .inl gv)) := k20 _ _ a81 
        refine z_callVi (As := [.int 2]) C hz hS hA hl (k_X2_inNoPart l D cy f18 fa 2 0 (-1) 0 ev gv 2 a79 a82 (by decide) (Nat.le_of_ble_eq_true rfl)) zyX2_inNoPart mMX7_140 a79 zl2 rfl rfl (Nat.le_of_ble_eq_true rfl) ⟨Nat.le_of_ble_eq_true rfl, Nat.le_of_ble_eq_true rfl⟩ ⟨Nat.le_of_ble_eq_true rfl, Nat.le_of_ble_eq_true rfl⟩ dX7_at_55 (fun r f83 H locs h84 hz hS => ?_)
        obtain ⟨rfl, a85, a86, k87⟩ := h84
        have a88 : f83 o = some (.inr (7, [.ref fa, .ref fi, .ref nu, .int (nI nl), .ref fm, .int (nI nf), .ref co, .int (nI nc), .ref en, .ref ke, .long lk])) := k87 _ _ a77 (z_ne a77 a79 rfl) (z_ne a77 a82 rfl)
        have a89 : f8 fi = some (.inr (5, [.ref al, .ref ra, .int (nI nn)])) := k10 _ _ a6 
        have a90 : f18 fi = some (.inr (5, [.ref al, .ref ra, .int (nI nn)])) := k20 _ _ a89 
        have a91 : f83 fi = some (.inr (5, [.ref al, .ref ra, .int (nI nn)])) := k87 _ _ a90 (z_ne a90 a79 rfl) (z_ne a90 a82 rfl)
        have a92 : f8 al = some (.inl (cy 3, 60, .inr (.inr (.inr (.inr ga))))) := k10 _ _ a7 
        have a93 : f18 al = some (.inl (cy 3, 60, .inr (.inr (.inr (.inr ga))))) := k20 _ _ a92 
        have a94 : f83 al = some (.inl (cy 3, 60, .inr (.inr (.inr (.inr ga))))) := k87 _ _ a93 (z_ne a93 a79 rfl) (z_ne a93 a82 rfl)
        have a95 : f1 ra = some (.inl (cy 3, 60, .inr (.inr (.inr (.inr gr))))) := k4 _ _ x_ra (z_ne x_ra x_fa rfl)
        have a96 : f8 ra = some (.inl (cy 3, 60, .inr (.inr (.inr (.inr gr))))) := k10 _ _ a95 
        have a97 : f18 ra = some (.inl (cy 3, 60, .inr (.inr (.inr (.inr gr))))) := k20 _ _ a96 
        have a98 : f83 ra = some (.inl (cy 3, 60, .inr (.inr (.inr (.inr gr))))) := k87 _ _ a97 (z_ne a97 a79 rfl) (z_ne a97 a82 rfl)
        have a99 : f1 nu = some (.inl (cy 0, 12, .inl gu)) := k4 _ _ x_nu (z_ne x_nu x_fa rfl)
        have a100 : f8 nu = some (.inl (cy 0, 12, .inl gu)) := k10 _ _ a99 
        have a101 : f18 nu = some (.inl (cy 0, 12, .inl gu)) := k20 _ _ a100 
        have a102 : f83 nu = some (.inl (cy 0, 12, .inl gu)) := k87 _ _ a101 (z_ne a101 a79 rfl) (z_ne a101 a82 rfl)
        have a103 : f1 fm = some (.inl (cy 4, 6, .inr (.inr (.inr (.inr gf))))) := k4 _ _ x_fm (z_ne x_fm x_fa rfl)
        have a104 : f8 fm = some (.inl (cy 4, 6, .inr (.inr (.inr (.inr gf))))) := k10 _ _ a103 
        have a105 : f18 fm = some (.inl (cy 4, 6, .inr (.inr (.inr (.inr gf))))) := k20 _ _ a104 
        have a106 : f83 fm = some (.inl (cy 4, 6, .inr (.inr (.inr (.inr gf))))) := k87 _ _ a105 (z_ne a105 a79 rfl) (z_ne a105 a82 rfl)
        have a107 : f1 co = some (.inl (cy 5, 60, .inr (.inr (.inr (.inr gc))))) := k4 _ _ x_co (z_ne x_co x_fa rfl)
        have a108 : f8 co = some (.inl (cy 5, 60, .inr (.inr (.inr (.inr gc))))) := k10 _ _ a107 
        have a109 : f18 co = some (.inl (cy 5, 60, .inr (.inr (.inr (.inr gc))))) := k20 _ _ a108 
        have a110 : f83 co = some (.inl (cy 5, 60, .inr (.inr (.inr (.inr gc))))) := k87 _ _ a109 (z_ne a109 a79 rfl) (z_ne a109 a82 rfl)
        have a111 : f1 en = some (.inl (cy 6, 4, .inr (.inr (.inr (.inr ge))))) := k4 _ _ x_en (z_ne x_en x_fa rfl)
        have a112 : f8 en = some (.inl (cy 6, 4, .inr (.inr (.inr (.inr ge))))) := k10 _ _ a111 
        have a113 : f18 en = some (.inl (cy 6, 4, .inr (.inr (.inr (.inr ge))))) := k20 _ _ a112 
        have a114 : f83 en = some (.inl (cy 6, 4, .inr (.inr (.inr (.inr ge))))) := k87 _ _ a113 (z_ne a113 a79 rfl) (z_ne a113 a82 rfl)
        have a115 : f1 ke = some (.inr (6, [.ref kn, .ref vq, .int (nI ks)])) := k4 _ _ x_ke (z_ne x_ke x_fa rfl)
        have a116 : f8 ke = some (.inr (6, [.ref kn, .ref vq, .int (nI ks)])) := k10 _ _ a115 
        have a117 : f18 ke = some (.inr (6, [.ref kn, .ref vq, .int (nI ks)])) := k20 _ _ a116 
        have a118 : f83 ke = some (.inr (6, [.ref kn, .ref vq, .int (nI ks)])) := k87 _ _ a117 (z_ne a117 a79 rfl) (z_ne a117 a82 rfl)
        have a119 : f1 kn = some (.inl (cy 0, 40, .inl kk)) := k4 _ _ x_kn (z_ne x_kn x_fa rfl)
        have a120 : f8 kn = some (.inl (cy 0, 40, .inl kk)) := k10 _ _ a119 
        have a121 : f18 kn = some (.inl (cy 0, 40, .inl kk)) := k20 _ _ a120 
        have a122 : f83 kn = some (.inl (cy 0, 40, .inl kk)) := k87 _ _ a121 (z_ne a121 a79 rfl) (z_ne a121 a82 rfl)
        have a123 : f1 vq = some (.inl (cy 0, 40, .inl kv)) := k4 _ _ x_vq (z_ne x_vq x_fa rfl)
        have a124 : f8 vq = some (.inl (cy 0, 40, .inl kv)) := k10 _ _ a123 
        have a125 : f18 vq = some (.inl (cy 0, 40, .inl kv)) := k20 _ _ a124 
        have a126 : f83 vq = some (.inl (cy 0, 40, .inl kv)) := k87 _ _ a125 (z_ne a125 a79 rfl) (z_ne a125 a82 rfl)
        have F127 : ∀ i9 : Nat, i9 < nn → f18 (fg i9) = some (.inr (4, [.int (kd i9), .ref (pt i9), .long (wg i9), .int (wd i9), .int (nI i9), .int (hs i9), .int (bf i9)])) := fun i9 h9 => k20 _ _ (F12 i9 h9) 
        have F128 : ∀ i9 : Nat, i9 < nn → f83 (fg i9) = some (.inr (4, [.int (kd i9), .ref (pt i9), .long (wg i9), .int (wd i9), .int (nI i9), .int (hs i9), .int (bf i9)])) := fun i9 h9 => k87 _ _ (F127 i9 h9) (z_ne (F127 i9 h9) a79 rfl) (z_ne (F127 i9 h9) a82 rfl)
        have F129 : ∀ i9 : Nat, i9 < nn → f18 (pt i9) = some (.inl (cy 1, (ln i9), .inr (.inl (pp i9)))) := fun i9 h9 => k20 _ _ (F16 i9 h9) 
        have F130 : ∀ i9 : Nat, i9 < nn → f83 (pt i9) = some (.inl (cy 1, (ln i9), .inr (.inl (pp i9)))) := fun i9 h9 => k87 _ _ (F129 i9 h9) (z_neO (F129 i9 h9) a79 rfl) (z_neA (F129 i9 h9) a82 rfl)
        have F131 : ∀ i9 : Nat, i9 < nf → f1 (fq i9) = some (.inr (3, [.ref (fk i9), .int (nI (fz i9))])) := fun i9 h9 => k4 _ _ (hFq i9 h9) (z_ne (hFq i9 h9) x_fa rfl)
        have F132 : ∀ i9 : Nat, i9 < nf → f8 (fq i9) = some (.inr (3, [.ref (fk i9), .int (nI (fz i9))])) := fun i9 h9 => k10 _ _ (F131 i9 h9) 
        have F133 : ∀ i9 : Nat, i9 < nf → f18 (fq i9) = some (.inr (3, [.ref (fk i9), .int (nI (fz i9))])) := fun i9 h9 => k20 _ _ (F132 i9 h9) 
        have F134 : ∀ i9 : Nat, i9 < nf → f83 (fq i9) = some (.inr (3, [.ref (fk i9), .int (nI (fz i9))])) := fun i9 h9 => k87 _ _ (F133 i9 h9) (z_ne (F133 i9 h9) a79 rfl) (z_ne (F133 i9 h9) a82 rfl)
        have F135 : ∀ i9 : Nat, i9 < nf → f1 (fk i9) = some (.inl (cy 0, 4, .inl (fc i9))) := fun i9 h9 => k4 _ _ (hFk i9 h9) (z_ne (hFk i9 h9) x_fa rfl)
        have F136 : ∀ i9 : Nat, i9 < nf → f8 (fk i9) = some (.inl (cy 0, 4, .inl (fc i9))) := fun i9 h9 => k10 _ _ (F135 i9 h9) 
        have F137 : ∀ i9 : Nat, i9 < nf → f18 (fk i9) = some (.inl (cy 0, 4, .inl (fc i9))) := fun i9 h9 => k20 _ _ (F136 i9 h9) 
        have F138 : ∀ i9 : Nat, i9 < nf → f83 (fk i9) = some (.inl (cy 0, 4, .inl (fc i9))) := fun i9 h9 => k87 _ _ (F137 i9 h9) (z_ne (F137 i9 h9) a79 rfl) (z_ne (F137 i9 h9) a82 rfl)
        have F139 : ∀ i9 : Nat, i9 < nc → f1 (cn i9) = some (.inr (0, [.int (ce i9), .int (cm i9)])) := fun i9 h9 => k4 _ _ (hCn i9 h9) (z_ne (hCn i9 h9) x_fa rfl)
        have F140 : ∀ i9 : Nat, i9 < nc → f8 (cn i9) = some (.inr (0, [.int (ce i9), .int (cm i9)])) := fun i9 h9 => k10 _ _ (F139 i9 h9) 
        have F141 : ∀ i9 : Nat, i9 < nc → f18 (cn i9) = some (.inr (0, [.int (ce i9), .int (cm i9)])) := fun i9 h9 => k20 _ _ (F140 i9 h9) 
        have F142 : ∀ i9 : Nat, i9 < nc → f83 (cn i9) = some (.inr (0, [.int (ce i9), .int (cm i9)])) := fun i9 h9 => k87 _ _ (F141 i9 h9) (z_ne (F141 i9 h9) a79 rfl) (z_ne (F141 i9 h9) a82 rfl)
        have F143 : ∀ i9 : Nat, i9 < 4 → f1 (ea i9) = some (.inr (1, [.ref (ma i9), .int (nI (sq i9))])) := fun i9 h9 => k4 _ _ (hEa i9 h9) (z_ne (hEa i9 h9) x_fa rfl)
        have F144 : ∀ i9 : Nat, i9 < 4 → f8 (ea i9) = some (.inr (1, [.ref (ma i9), .int (nI (sq i9))])) := fun i9 h9 => k10 _ _ (F143 i9 h9) 
        have F145 : ∀ i9 : Nat, i9 < 4 → f18 (ea i9) = some (.inr (1, [.ref (ma i9), .int (nI (sq i9))])) := fun i9 h9 => k20 _ _ (F144 i9 h9) 
        have F146 : ∀ i9 : Nat, i9 < 4 → f83 (ea i9) = some (.inr (1, [.ref (ma i9), .int (nI (sq i9))])) := fun i9 h9 => k87 _ _ (F145 i9 h9) (z_ne (F145 i9 h9) a79 rfl) (z_ne (F145 i9 h9) a82 rfl)
        have F147 : ∀ i9 : Nat, i9 < 4 → f1 (ma i9) = some (.inl (cy 0, 60, .inl (mb i9))) := fun i9 h9 => k4 _ _ (hMa i9 h9) (z_ne (hMa i9 h9) x_fa rfl)
        have F148 : ∀ i9 : Nat, i9 < 4 → f8 (ma i9) = some (.inl (cy 0, 60, .inl (mb i9))) := fun i9 h9 => k10 _ _ (F147 i9 h9) 
        have F149 : ∀ i9 : Nat, i9 < 4 → f18 (ma i9) = some (.inl (cy 0, 60, .inl (mb i9))) := fun i9 h9 => k20 _ _ (F148 i9 h9) 
        have F150 : ∀ i9 : Nat, i9 < 4 → f83 (ma i9) = some (.inl (cy 0, 60, .inl (mb i9))) := fun i9 h9 => k87 _ _ (F149 i9 h9) (z_ne (F149 i9 h9) a79 rfl) (z_ne (F149 i9 h9) a82 rfl)
        have hq : q_at nn kd ln pp x y = ((-4), 2, (-1), 0) := by simp [q_at, hFa, hIa, hNa, hPa, c14, c21]
        exact z_iret C hr rfl hz hS ⟨2, (-1), 0, (upd gv 2 (gv 2 + 1)), nl, gu, nn, ga, gr, fg, pt, kd, ln, pp, wg, wd, hs, bf, nf, gf, fq, fk, fz, fc, nc, gc, cn, ce, cm, sq, mb, ks, kk, kv, lk, (by rw [hq]), (by rw [hq]), (by rw [hq]), (by rw [hq]), (by rw [hq]; exact (zEV2 gv).symm), rfl, rfl, rfl, rfl, rfl, rfl, rfl, rfl, rfl, rfl, rfl, rfl, rfl, rfl, rfl, rfl, rfl, rfl, rfl, rfl, ⟨a88, a85, a86, a91, a94, a98, a102, a106, a110, a114, a118, a122, a126, F128, F130, F134, F138, F142, F146, F150, hn60, hl12, hf6, hc60, hs40, hga, hgr, hln, hk5, hk4, hfi, hpi, har, hgf, hfz, hgc, hG, hsq, hei, hmi, kne, hca, hcr, hlk⟩⟩ (Nat.le_of_ble_eq_true rfl) (Nat.le_of_ble_eq_true rfl) dX7_at_58
    · refine lv_aload_n hx hb dX7_at_33 rfl (lv_at hl 1 rfl) ?_
      have a151 : f8 o = some (.inr (7, [.ref fa, .ref fi, .ref nu, .int (nI nl), .ref fm, .int (nI nf), .ref co, .int (nI nc), .ref en, .ref ke, .long lk])) := k10 _ _ a5 
      refine z_get (v := .ref fa) C hz a151 zl7 mFX7_10 (by decide) rfl dX7_at_34 ?_
      refine lv_iconst (v := 3) hx hb dX7_at_37 (by decide) ?_
      have a152 : f8 fa = some (.inr (2, [.int 0, .int (-1), .int 0, .ref ev])) := k10 _ _ a3 
      have a153 : f1 ev = some (.inl (cy 0, 8, .inl gv)) := k4 _ _ x_ev (z_ne x_ev x_fa rfl)
      have a154 : f8 ev = some (.inl (cy 0, 8, .inl gv)) := k10 _ _ a153 
      refine z_callVi (As := [.int 3]) C hz hS hA hl (k_X2_inNoPart l D cy f8 fa 3 0 (-1) 0 ev gv 3 a152 a154 (by decide) (Nat.le_of_ble_eq_true rfl)) zyX2_inNoPart mMX7_140 a152 zl2 rfl rfl (Nat.le_of_ble_eq_true rfl) ⟨Nat.le_of_ble_eq_true rfl, Nat.le_of_ble_eq_true rfl⟩ ⟨Nat.le_of_ble_eq_true rfl, Nat.le_of_ble_eq_true rfl⟩ dX7_at_38 (fun r f155 H locs h156 hz hS => ?_)
      obtain ⟨rfl, a157, a158, k159⟩ := h156
      have a160 : f155 o = some (.inr (7, [.ref fa, .ref fi, .ref nu, .int (nI nl), .ref fm, .int (nI nf), .ref co, .int (nI nc), .ref en, .ref ke, .long lk])) := k159 _ _ a151 (z_ne a151 a152 rfl) (z_ne a151 a154 rfl)
      have a161 : f8 fi = some (.inr (5, [.ref al, .ref ra, .int (nI nn)])) := k10 _ _ a6 
      have a162 : f155 fi = some (.inr (5, [.ref al, .ref ra, .int (nI nn)])) := k159 _ _ a161 (z_ne a161 a152 rfl) (z_ne a161 a154 rfl)
      have a163 : f8 al = some (.inl (cy 3, 60, .inr (.inr (.inr (.inr ga))))) := k10 _ _ a7 
      have a164 : f155 al = some (.inl (cy 3, 60, .inr (.inr (.inr (.inr ga))))) := k159 _ _ a163 (z_ne a163 a152 rfl) (z_ne a163 a154 rfl)
      have a165 : f1 ra = some (.inl (cy 3, 60, .inr (.inr (.inr (.inr gr))))) := k4 _ _ x_ra (z_ne x_ra x_fa rfl)
      have a166 : f8 ra = some (.inl (cy 3, 60, .inr (.inr (.inr (.inr gr))))) := k10 _ _ a165 
      have a167 : f155 ra = some (.inl (cy 3, 60, .inr (.inr (.inr (.inr gr))))) := k159 _ _ a166 (z_ne a166 a152 rfl) (z_ne a166 a154 rfl)
      have a168 : f1 nu = some (.inl (cy 0, 12, .inl gu)) := k4 _ _ x_nu (z_ne x_nu x_fa rfl)
      have a169 : f8 nu = some (.inl (cy 0, 12, .inl gu)) := k10 _ _ a168 
      have a170 : f155 nu = some (.inl (cy 0, 12, .inl gu)) := k159 _ _ a169 (z_ne a169 a152 rfl) (z_ne a169 a154 rfl)
      have a171 : f1 fm = some (.inl (cy 4, 6, .inr (.inr (.inr (.inr gf))))) := k4 _ _ x_fm (z_ne x_fm x_fa rfl)
      have a172 : f8 fm = some (.inl (cy 4, 6, .inr (.inr (.inr (.inr gf))))) := k10 _ _ a171 
      have a173 : f155 fm = some (.inl (cy 4, 6, .inr (.inr (.inr (.inr gf))))) := k159 _ _ a172 (z_ne a172 a152 rfl) (z_ne a172 a154 rfl)
      have a174 : f1 co = some (.inl (cy 5, 60, .inr (.inr (.inr (.inr gc))))) := k4 _ _ x_co (z_ne x_co x_fa rfl)
      have a175 : f8 co = some (.inl (cy 5, 60, .inr (.inr (.inr (.inr gc))))) := k10 _ _ a174 
      have a176 : f155 co = some (.inl (cy 5, 60, .inr (.inr (.inr (.inr gc))))) := k159 _ _ a175 (z_ne a175 a152 rfl) (z_ne a175 a154 rfl)
      have a177 : f1 en = some (.inl (cy 6, 4, .inr (.inr (.inr (.inr ge))))) := k4 _ _ x_en (z_ne x_en x_fa rfl)
      have a178 : f8 en = some (.inl (cy 6, 4, .inr (.inr (.inr (.inr ge))))) := k10 _ _ a177 
      have a179 : f155 en = some (.inl (cy 6, 4, .inr (.inr (.inr (.inr ge))))) := k159 _ _ a178 (z_ne a178 a152 rfl) (z_ne a178 a154 rfl)
      have a180 : f1 ke = some (.inr (6, [.ref kn, .ref vq, .int (nI ks)])) := k4 _ _ x_ke (z_ne x_ke x_fa rfl)
      have a181 : f8 ke = some (.inr (6, [.ref kn, .ref vq, .int (nI ks)])) := k10 _ _ a180 
      have a182 : f155 ke = some (.inr (6, [.ref kn, .ref vq, .int (nI ks)])) := k159 _ _ a181 (z_ne a181 a152 rfl) (z_ne a181 a154 rfl)
      have a183 : f1 kn = some (.inl (cy 0, 40, .inl kk)) := k4 _ _ x_kn (z_ne x_kn x_fa rfl)
      have a184 : f8 kn = some (.inl (cy 0, 40, .inl kk)) := k10 _ _ a183 
      have a185 : f155 kn = some (.inl (cy 0, 40, .inl kk)) := k159 _ _ a184 (z_ne a184 a152 rfl) (z_ne a184 a154 rfl)
      have a186 : f1 vq = some (.inl (cy 0, 40, .inl kv)) := k4 _ _ x_vq (z_ne x_vq x_fa rfl)
      have a187 : f8 vq = some (.inl (cy 0, 40, .inl kv)) := k10 _ _ a186 
      have a188 : f155 vq = some (.inl (cy 0, 40, .inl kv)) := k159 _ _ a187 (z_ne a187 a152 rfl) (z_ne a187 a154 rfl)
      have F189 : ∀ i9 : Nat, i9 < nn → f155 (fg i9) = some (.inr (4, [.int (kd i9), .ref (pt i9), .long (wg i9), .int (wd i9), .int (nI i9), .int (hs i9), .int (bf i9)])) := fun i9 h9 => k159 _ _ (F12 i9 h9) (z_ne (F12 i9 h9) a152 rfl) (z_ne (F12 i9 h9) a154 rfl)
      have F190 : ∀ i9 : Nat, i9 < nn → f1 (pt i9) = some (.inl (cy 1, (ln i9), .inr (.inl (pp i9)))) := fun i9 h9 => k4 _ _ (hP i9 h9) (z_neO (hP i9 h9) x_fa rfl)
      have F191 : ∀ i9 : Nat, i9 < nn → f8 (pt i9) = some (.inl (cy 1, (ln i9), .inr (.inl (pp i9)))) := fun i9 h9 => k10 _ _ (F190 i9 h9) 
      have F192 : ∀ i9 : Nat, i9 < nn → f155 (pt i9) = some (.inl (cy 1, (ln i9), .inr (.inl (pp i9)))) := fun i9 h9 => k159 _ _ (F191 i9 h9) (z_neO (F191 i9 h9) a152 rfl) (z_neA (F191 i9 h9) a154 rfl)
      have F193 : ∀ i9 : Nat, i9 < nf → f1 (fq i9) = some (.inr (3, [.ref (fk i9), .int (nI (fz i9))])) := fun i9 h9 => k4 _ _ (hFq i9 h9) (z_ne (hFq i9 h9) x_fa rfl)
      have F194 : ∀ i9 : Nat, i9 < nf → f8 (fq i9) = some (.inr (3, [.ref (fk i9), .int (nI (fz i9))])) := fun i9 h9 => k10 _ _ (F193 i9 h9) 
      have F195 : ∀ i9 : Nat, i9 < nf → f155 (fq i9) = some (.inr (3, [.ref (fk i9), .int (nI (fz i9))])) := fun i9 h9 => k159 _ _ (F194 i9 h9) (z_ne (F194 i9 h9) a152 rfl) (z_ne (F194 i9 h9) a154 rfl)
      have F196 : ∀ i9 : Nat, i9 < nf → f1 (fk i9) = some (.inl (cy 0, 4, .inl (fc i9))) := fun i9 h9 => k4 _ _ (hFk i9 h9) (z_ne (hFk i9 h9) x_fa rfl)
      have F197 : ∀ i9 : Nat, i9 < nf → f8 (fk i9) = some (.inl (cy 0, 4, .inl (fc i9))) := fun i9 h9 => k10 _ _ (F196 i9 h9) 
      have F198 : ∀ i9 : Nat, i9 < nf → f155 (fk i9) = some (.inl (cy 0, 4, .inl (fc i9))) := fun i9 h9 => k159 _ _ (F197 i9 h9) (z_ne (F197 i9 h9) a152 rfl) (z_ne (F197 i9 h9) a154 rfl)
      have F199 : ∀ i9 : Nat, i9 < nc → f1 (cn i9) = some (.inr (0, [.int (ce i9), .int (cm i9)])) := fun i9 h9 => k4 _ _ (hCn i9 h9) (z_ne (hCn i9 h9) x_fa rfl)
      have F200 : ∀ i9 : Nat, i9 < nc → f8 (cn i9) = some (.inr (0, [.int (ce i9), .int (cm i9)])) := fun i9 h9 => k10 _ _ (F199 i9 h9) 
      have F201 : ∀ i9 : Nat, i9 < nc → f155 (cn i9) = some (.inr (0, [.int (ce i9), .int (cm i9)])) := fun i9 h9 => k159 _ _ (F200 i9 h9) (z_ne (F200 i9 h9) a152 rfl) (z_ne (F200 i9 h9) a154 rfl)
      have F202 : ∀ i9 : Nat, i9 < 4 → f1 (ea i9) = some (.inr (1, [.ref (ma i9), .int (nI (sq i9))])) := fun i9 h9 => k4 _ _ (hEa i9 h9) (z_ne (hEa i9 h9) x_fa rfl)
      have F203 : ∀ i9 : Nat, i9 < 4 → f8 (ea i9) = some (.inr (1, [.ref (ma i9), .int (nI (sq i9))])) := fun i9 h9 => k10 _ _ (F202 i9 h9) 
      have F204 : ∀ i9 : Nat, i9 < 4 → f155 (ea i9) = some (.inr (1, [.ref (ma i9), .int (nI (sq i9))])) := fun i9 h9 => k159 _ _ (F203 i9 h9) (z_ne (F203 i9 h9) a152 rfl) (z_ne (F203 i9 h9) a154 rfl)
      have F205 : ∀ i9 : Nat, i9 < 4 → f1 (ma i9) = some (.inl (cy 0, 60, .inl (mb i9))) := fun i9 h9 => k4 _ _ (hMa i9 h9) (z_ne (hMa i9 h9) x_fa rfl)
      have F206 : ∀ i9 : Nat, i9 < 4 → f8 (ma i9) = some (.inl (cy 0, 60, .inl (mb i9))) := fun i9 h9 => k10 _ _ (F205 i9 h9) 
      have F207 : ∀ i9 : Nat, i9 < 4 → f155 (ma i9) = some (.inl (cy 0, 60, .inl (mb i9))) := fun i9 h9 => k159 _ _ (F206 i9 h9) (z_ne (F206 i9 h9) a152 rfl) (z_ne (F206 i9 h9) a154 rfl)
      have hq : q_at nn kd ln pp x y = ((-4), 3, (-1), 0) := by simp [q_at, hFa, hIa, hNa, c14]
      exact z_iret C hr rfl hz hS ⟨3, (-1), 0, (upd gv 3 (gv 3 + 1)), nl, gu, nn, ga, gr, fg, pt, kd, ln, pp, wg, wd, hs, bf, nf, gf, fq, fk, fz, fc, nc, gc, cn, ce, cm, sq, mb, ks, kk, kv, lk, (by rw [hq]), (by rw [hq]), (by rw [hq]), (by rw [hq]), (by rw [hq]; exact (zEV3 gv).symm), rfl, rfl, rfl, rfl, rfl, rfl, rfl, rfl, rfl, rfl, rfl, rfl, rfl, rfl, rfl, rfl, rfl, rfl, rfl, rfl, ⟨a160, a157, a158, a162, a164, a167, a170, a173, a176, a179, a182, a185, a188, F189, F192, F195, F198, F201, F204, F207, hn60, hl12, hf6, hc60, hs40, hga, hgr, hln, hk5, hk4, hfi, hpi, har, hgf, hfz, hgc, hG, hsq, hei, hmi, kne, hca, hcr, hlk⟩⟩ (Nat.le_of_ble_eq_true rfl) (Nat.le_of_ble_eq_true rfl) dX7_at_41
  · have hFa : isF nn x = false := isF_f hn60 hva
    have a208 : f1 fi = some (.inr (5, [.ref al, .ref ra, .int (nI nn)])) := k4 _ _ x_fi (z_ne x_fi x_fa rfl)
    refine z_callVq (As := [.long x.toInt64]) C hz hS hA hl (k_X5_find_B l D cy f1 fi al ra nn x.toInt64 a208 hn60 (fun i9 h9 q9 => hva i9 h9 (z_toL (by omega) q9))) zyX5_find mMX7_130 a208 zl5 rfl rfl (Nat.le_of_ble_eq_true rfl) ⟨Nat.le_of_ble_eq_true rfl, Nat.le_of_ble_eq_true rfl⟩ ⟨Nat.le_of_ble_eq_true rfl, Nat.le_of_ble_eq_true rfl⟩ dX7_at_13 (fun r f209 H locs h210 hz hS => ?_)
    obtain ⟨rfl, k211⟩ := h210
    refine W.eq (g2 := F0 m 16 ls [.null]) rfl ?_
    refine lv_astore_nN (lv' := [(3, .null), (0, .ref o), (1, .int x), (2, .int y)]) hx hb dX7_at_16 rfl hl (by decide) rfl (fun ls hl => ?_)
    refine lv_aload_nN hx hb dX7_at_17 rfl (lv_at hl 0 rfl) ?_
    refine lv_ifnonnullN hx hb dX7_at_18 ?_
    refine lv_bipush (v := (-2)) hx hb dX7_at_21 (by decide) ?_
    have a212 : f209 o = some (.inr (7, [.ref fa, .ref fi, .ref nu, .int (nI nl), .ref fm, .int (nI nf), .ref co, .int (nI nc), .ref en, .ref ke, .long lk])) := k211 _ _ a5 
    have a213 : f209 fa = some (.inr (2, [.int 0, .int (-1), .int 0, .ref ev])) := k211 _ _ a3 
    have a214 : f1 ev = some (.inl (cy 0, 8, .inl gv)) := k4 _ _ x_ev (z_ne x_ev x_fa rfl)
    have a215 : f209 ev = some (.inl (cy 0, 8, .inl gv)) := k211 _ _ a214 
    have a216 : f209 fi = some (.inr (5, [.ref al, .ref ra, .int (nI nn)])) := k211 _ _ a208 
    have a217 : f1 al = some (.inl (cy 3, 60, .inr (.inr (.inr (.inr ga))))) := k4 _ _ x_al (z_ne x_al x_fa rfl)
    have a218 : f209 al = some (.inl (cy 3, 60, .inr (.inr (.inr (.inr ga))))) := k211 _ _ a217 
    have a219 : f1 ra = some (.inl (cy 3, 60, .inr (.inr (.inr (.inr gr))))) := k4 _ _ x_ra (z_ne x_ra x_fa rfl)
    have a220 : f209 ra = some (.inl (cy 3, 60, .inr (.inr (.inr (.inr gr))))) := k211 _ _ a219 
    have a221 : f1 nu = some (.inl (cy 0, 12, .inl gu)) := k4 _ _ x_nu (z_ne x_nu x_fa rfl)
    have a222 : f209 nu = some (.inl (cy 0, 12, .inl gu)) := k211 _ _ a221 
    have a223 : f1 fm = some (.inl (cy 4, 6, .inr (.inr (.inr (.inr gf))))) := k4 _ _ x_fm (z_ne x_fm x_fa rfl)
    have a224 : f209 fm = some (.inl (cy 4, 6, .inr (.inr (.inr (.inr gf))))) := k211 _ _ a223 
    have a225 : f1 co = some (.inl (cy 5, 60, .inr (.inr (.inr (.inr gc))))) := k4 _ _ x_co (z_ne x_co x_fa rfl)
    have a226 : f209 co = some (.inl (cy 5, 60, .inr (.inr (.inr (.inr gc))))) := k211 _ _ a225 
    have a227 : f1 en = some (.inl (cy 6, 4, .inr (.inr (.inr (.inr ge))))) := k4 _ _ x_en (z_ne x_en x_fa rfl)
    have a228 : f209 en = some (.inl (cy 6, 4, .inr (.inr (.inr (.inr ge))))) := k211 _ _ a227 
    have a229 : f1 ke = some (.inr (6, [.ref kn, .ref vq, .int (nI ks)])) := k4 _ _ x_ke (z_ne x_ke x_fa rfl)
    have a230 : f209 ke = some (.inr (6, [.ref kn, .ref vq, .int (nI ks)])) := k211 _ _ a229 
    have a231 : f1 kn = some (.inl (cy 0, 40, .inl kk)) := k4 _ _ x_kn (z_ne x_kn x_fa rfl)
    have a232 : f209 kn = some (.inl (cy 0, 40, .inl kk)) := k211 _ _ a231 
    have a233 : f1 vq = some (.inl (cy 0, 40, .inl kv)) := k4 _ _ x_vq (z_ne x_vq x_fa rfl)
    have a234 : f209 vq = some (.inl (cy 0, 40, .inl kv)) := k211 _ _ a233 
    have F235 : ∀ i9 : Nat, i9 < nn → f1 (fg i9) = some (.inr (4, [.int (kd i9), .ref (pt i9), .long (wg i9), .int (wd i9), .int (nI i9), .int (hs i9), .int (bf i9)])) := fun i9 h9 => k4 _ _ (hF i9 h9) (z_ne (hF i9 h9) x_fa rfl)
    have F236 : ∀ i9 : Nat, i9 < nn → f209 (fg i9) = some (.inr (4, [.int (kd i9), .ref (pt i9), .long (wg i9), .int (wd i9), .int (nI i9), .int (hs i9), .int (bf i9)])) := fun i9 h9 => k211 _ _ (F235 i9 h9) 
    have F237 : ∀ i9 : Nat, i9 < nn → f1 (pt i9) = some (.inl (cy 1, (ln i9), .inr (.inl (pp i9)))) := fun i9 h9 => k4 _ _ (hP i9 h9) (z_neO (hP i9 h9) x_fa rfl)
    have F238 : ∀ i9 : Nat, i9 < nn → f209 (pt i9) = some (.inl (cy 1, (ln i9), .inr (.inl (pp i9)))) := fun i9 h9 => k211 _ _ (F237 i9 h9) 
    have F239 : ∀ i9 : Nat, i9 < nf → f1 (fq i9) = some (.inr (3, [.ref (fk i9), .int (nI (fz i9))])) := fun i9 h9 => k4 _ _ (hFq i9 h9) (z_ne (hFq i9 h9) x_fa rfl)
    have F240 : ∀ i9 : Nat, i9 < nf → f209 (fq i9) = some (.inr (3, [.ref (fk i9), .int (nI (fz i9))])) := fun i9 h9 => k211 _ _ (F239 i9 h9) 
    have F241 : ∀ i9 : Nat, i9 < nf → f1 (fk i9) = some (.inl (cy 0, 4, .inl (fc i9))) := fun i9 h9 => k4 _ _ (hFk i9 h9) (z_ne (hFk i9 h9) x_fa rfl)
    have F242 : ∀ i9 : Nat, i9 < nf → f209 (fk i9) = some (.inl (cy 0, 4, .inl (fc i9))) := fun i9 h9 => k211 _ _ (F241 i9 h9) 
    have F243 : ∀ i9 : Nat, i9 < nc → f1 (cn i9) = some (.inr (0, [.int (ce i9), .int (cm i9)])) := fun i9 h9 => k4 _ _ (hCn i9 h9) (z_ne (hCn i9 h9) x_fa rfl)
    have F244 : ∀ i9 : Nat, i9 < nc → f209 (cn i9) = some (.inr (0, [.int (ce i9), .int (cm i9)])) := fun i9 h9 => k211 _ _ (F243 i9 h9) 
    have F245 : ∀ i9 : Nat, i9 < 4 → f1 (ea i9) = some (.inr (1, [.ref (ma i9), .int (nI (sq i9))])) := fun i9 h9 => k4 _ _ (hEa i9 h9) (z_ne (hEa i9 h9) x_fa rfl)
    have F246 : ∀ i9 : Nat, i9 < 4 → f209 (ea i9) = some (.inr (1, [.ref (ma i9), .int (nI (sq i9))])) := fun i9 h9 => k211 _ _ (F245 i9 h9) 
    have F247 : ∀ i9 : Nat, i9 < 4 → f1 (ma i9) = some (.inl (cy 0, 60, .inl (mb i9))) := fun i9 h9 => k4 _ _ (hMa i9 h9) (z_ne (hMa i9 h9) x_fa rfl)
    have F248 : ∀ i9 : Nat, i9 < 4 → f209 (ma i9) = some (.inl (cy 0, 60, .inl (mb i9))) := fun i9 h9 => k211 _ _ (F247 i9 h9) 
    have hq : q_at nn kd ln pp x y = ((-2), 0, (-1), 0) := by simp [q_at, hFa]
    exact z_iret C hr rfl hz hS ⟨0, (-1), 0, gv, nl, gu, nn, ga, gr, fg, pt, kd, ln, pp, wg, wd, hs, bf, nf, gf, fq, fk, fz, fc, nc, gc, cn, ce, cm, sq, mb, ks, kk, kv, lk, (by rw [hq]), (by rw [hq]), (by rw [hq]), (by rw [hq]), (by rw [hq]; exact (zEV0 gv).symm), rfl, rfl, rfl, rfl, rfl, rfl, rfl, rfl, rfl, rfl, rfl, rfl, rfl, rfl, rfl, rfl, rfl, rfl, rfl, rfl, ⟨a212, a213, a215, a216, a218, a220, a222, a224, a226, a228, a230, a232, a234, F236, F238, F240, F242, F244, F246, F248, hn60, hl12, hf6, hc60, hs40, hga, hgr, hln, hk5, hk4, hfi, hpi, har, hgf, hfz, hgc, hG, hsq, hei, hmi, kne, hca, hcr, hlk⟩⟩ (Nat.le_of_ble_eq_true rfl) (Nat.le_of_ble_eq_true rfl) dX7_at_23
abbrev rmX7_set : Room := { frames := 2, cells := 0, slots := 0, locals := 43 }
set_option maxHeartbeats 4000000 in
set_option maxRecDepth 100000 in
theorem k_X7_set (l : Launch) (D : va_G) (cy : Nat → ClassId) (f : zM) (o : Nat) (fa : Nat) (fi : Nat) (nu : Nat) (fm : Nat) (co : Nat) (en : Nat) (ke : Nat) (ev : Nat) (al : Nat) (ra : Nat) (kn : Nat) (vq : Nat) (ge : Nat → Option Nat) (ea : Nat → Nat) (ma : Nat → Nat) (u1 : Int32) (u2 : Int32) (u3 : Int32) (gv : Nat → Int32) (nl : Nat) (gu : Nat → Int32) (nn : Nat) (ga : Nat → Option Nat) (gr : Nat → Option Nat) (fg : Nat → Nat) (pt : Nat → Nat) (kd : Nat → Int32) (ln : Nat → Nat) (pp : Nat → Nat → Int64) (wg : Nat → Int64) (wd : Nat → Int32) (hs : Nat → Int32) (bf : Nat → Int32) (nf : Nat) (gf : Nat → Option Nat) (fq : Nat → Nat) (fk : Nat → Nat) (fz : Nat → Nat) (fc : Nat → Nat → Int32) (nc : Nat) (gc : Nat → Option Nat) (cn : Nat → Nat) (ce : Nat → Int32) (cm : Nat → Int32) (sq : Nat → Nat) (mb : Nat → Nat → Int32) (ks : Nat) (kk : Nat → Int32) (kv : Nat → Int32) (lk : Int64) (x : Int32) (y : Int32) (z : Int32)    (hI : zIX cy f o fa fi nu fm co en ke ev al ra kn vq ge ea ma u1 u2 u3 gv nl gu nn ga gr fg pt kd ln pp wg wd hs bf nf gf fq fk fz fc nc gc cn ce cm sq mb ks kk kv lk) : zCi l D cy yX7_set cX7_set 6 (Option.some Jvm.ClassFile.FieldType.int) rmX7_set [.ref o, .int x, .int y, .int z] f (fun (r : Int32) (f1 : zM) => ∃ (u11 : Int32) (u21 : Int32) (u31 : Int32) (gv1 : Nat → Int32) (nl1 : Nat) (gu1 : Nat → Int32) (nn1 : Nat) (ga1 : Nat → Option Nat) (gr1 : Nat → Option Nat) (fg1 : Nat → Nat) (pt1 : Nat → Nat) (kd1 : Nat → Int32) (ln1 : Nat → Nat) (pp1 : Nat → Nat → Int64) (wg1 : Nat → Int64) (wd1 : Nat → Int32) (hs1 : Nat → Int32) (bf1 : Nat → Int32) (nf1 : Nat) (gf1 : Nat → Option Nat) (fq1 : Nat → Nat) (fk1 : Nat → Nat) (fz1 : Nat → Nat) (fc1 : Nat → Nat → Int32) (nc1 : Nat) (gc1 : Nat → Option Nat) (cn1 : Nat → Nat) (ce1 : Nat → Int32) (cm1 : Nat → Int32) (sq1 : Nat → Nat) (mb1 : Nat → Nat → Int32) (ks1 : Nat) (kk1 : Nat → Int32) (kv1 : Nat → Int32) (lk1 : Int64), r = ((q_set nn kd ln wd x y z).1) ∧ (u11 = (q_set nn kd ln wd x y z).2.1) ∧ (u21 = (q_set nn kd ln wd x y z).2.2.1) ∧ (u31 = (q_set nn kd ln wd x y z).2.2.2) ∧ (gv1 = zEV gv (q_set nn kd ln wd x y z).2.1) ∧ (nl1 = nl) ∧ (gu1 = gu) ∧ (nn1 = nn) ∧ (kd1 = kd) ∧ (ln1 = ln) ∧ (pp1 = if r = 1 then va_up pp (fI x) (vp_updL (pp (fI x)) (1 + fI y) z.toInt64) else pp) ∧ (wd1 = wd) ∧ (hs1 = hs) ∧ (nf1 = nf) ∧ (fz1 = fz) ∧ (fc1 = fc) ∧ (nc1 = nc) ∧ (ce1 = ce) ∧ (cm1 = cm) ∧ (sq1 = sq) ∧ (mb1 = mb) ∧ (ks1 = ks) ∧ (kk1 = kk) ∧ (kv1 = kv) ∧ (lk1 = lk) ∧ zIX cy f1 o fa fi nu fm co en ke ev al ra kn vq ge ea ma u11 u21 u31 gv1 nl1 gu1 nn1 ga1 gr1 fg1 pt1 kd1 ln1 pp1 wg1 wd1 hs1 bf1 nf1 gf1 fq1 fk1 fz1 fc1 nc1 gc1 cn1 ce1 cm1 sq1 mb1 ks1 kk1 kv1 lk1) := by
  intro sz
  refine z_body (by decide +kernel) (Nat.le_of_ble_eq_true rfl) ?_
  intro p e s m below meth c ls C hr hin hsz hz hl
  subst hsz
  have hx := C.1
  have hb := C.2.1
  have hA : ∀ q, s.heap.size ≤ q → zA f s.heap.size q := fun q h => Or.inr h
  have hS : va_S (zA f s.heap.size) s.heap s.heap [] := va_S.rf
  have hl : lv_has ls 6 [(0, .ref o), (1, .int x), (2, .int y), (3, .int z)] := hl
  obtain ⟨x_o, x_fa, x_ev, x_fi, x_al, x_ra, x_nu, x_fm, x_co, x_en, x_ke, x_kn, x_vq, hF, hP, hFq, hFk, hCn, hEa, hMa, hn60, hl12, hf6, hc60, hs40, hga, hgr, hln, hk5, hk4, hfi, hpi, har, hgf, hfz, hgc, hG, hsq, hei, hmi, kne, hca, hcr, hlk⟩ := id hI
  refine lv_aload_n hx hb dX7_set_0 rfl (lv_at hl 0 rfl) ?_
  refine z_get (v := .ref fa) C hz x_o zl7 mFX7_10 (by decide) rfl dX7_set_1 ?_
  refine z_callVv (As := []) C hz hS hA hl (k_X2_none l D cy f fa u1 u2 u3 ev x_fa ) zyX2_none mMX7_76 x_fa zl2 rfl rfl (Nat.le_of_ble_eq_true rfl) ⟨Nat.le_of_ble_eq_true rfl, Nat.le_of_ble_eq_true rfl⟩ ⟨Nat.le_of_ble_eq_true rfl, Nat.le_of_ble_eq_true rfl⟩ dX7_set_4 (fun  f1 H locs h2 hz hS => ?_)
  obtain ⟨a3, k4⟩ := h2
  refine lv_aload_n hx hb dX7_set_7 rfl (lv_at hl 0 rfl) ?_
  have a5 : f1 o = some (.inr (7, [.ref fa, .ref fi, .ref nu, .int (nI nl), .ref fm, .int (nI nf), .ref co, .int (nI nc), .ref en, .ref ke, .long lk])) := k4 _ _ x_o (z_ne x_o x_fa rfl)
  refine z_get (v := .ref fi) C hz a5 zl7 mFX7_19 (by decide) rfl dX7_set_8 ?_
  refine lv_iload_n hx hb dX7_set_11 rfl (lv_at hl 1 rfl) ?_
  refine lv_i2l (v := x.toInt64) hx hb dX7_set_12 rfl ?_
  rcases z_findi x nn with ⟨ja, hja, hva⟩ | hva
  · have hFa : isF nn x = true := isF_t hn60 hja hva
    have hIa : fI x = ja := fI_of (by omega) hva
    have hNa : ¬ x = (-1) := by rw [hva]; exact z_nim1 (by omega)
    have a6 : f1 fi = some (.inr (5, [.ref al, .ref ra, .int (nI nn)])) := k4 _ _ x_fi (z_ne x_fi x_fa rfl)
    have a7 : f1 al = some (.inl (cy 3, 60, .inr (.inr (.inr (.inr ga))))) := k4 _ _ x_al (z_ne x_al x_fa rfl)
    refine z_callVq (As := [.long x.toInt64]) C hz hS hA hl (k_X5_find_A l D cy f1 fi al ra ga nn fg x.toInt64 ja a6 a7 hn60 hga (by rw [hva, nI_l (by omega)]) hja) zyX5_find mMX7_130 a6 zl5 rfl rfl (Nat.le_of_ble_eq_true rfl) ⟨Nat.le_of_ble_eq_true rfl, Nat.le_of_ble_eq_true rfl⟩ ⟨Nat.le_of_ble_eq_true rfl, Nat.le_of_ble_eq_true rfl⟩ dX7_set_13 (fun r f8 H locs h9 hz hS => ?_)
    obtain ⟨rfl, k10⟩ := h9
    refine W.eq (g2 := F0 m 16 ls [.ref (fg ja)]) rfl ?_
    refine lv_astore (lv' := [(4, .ref (fg ja)), (0, .ref o), (1, .int x), (2, .int y), (3, .int z)]) hx hb dX7_set_16 hl (by decide) rfl (fun ls hl => ?_)
    refine lv_aload_n hx hb dX7_set_18 rfl (lv_at hl 1 rfl) ?_
    have a11 : f8 o = some (.inr (7, [.ref fa, .ref fi, .ref nu, .int (nI nl), .ref fm, .int (nI nf), .ref co, .int (nI nc), .ref en, .ref ke, .long lk])) := k10 _ _ a5 
    refine z_get (v := .ref fi) C hz a11 zl7 mFX7_19 (by decide) rfl dX7_set_19 ?_
    refine lv_iload_n hx hb dX7_set_22 rfl (lv_at hl 4 rfl) ?_
    refine lv_i2l (v := z.toInt64) hx hb dX7_set_23 rfl ?_
    rcases z_findi z nn with ⟨jb, hjb, hvb⟩ | hvb
    · have hFb : isF nn z = true := isF_t hn60 hjb hvb
      have hIb : fI z = jb := fI_of (by omega) hvb
      have hNb : ¬ z = (-1) := by rw [hvb]; exact z_nim1 (by omega)
      have a12 : f8 fi = some (.inr (5, [.ref al, .ref ra, .int (nI nn)])) := k10 _ _ a6 
      have a13 : f8 al = some (.inl (cy 3, 60, .inr (.inr (.inr (.inr ga))))) := k10 _ _ a7 
      refine z_callVq (As := [.long z.toInt64]) C hz hS hA hl (k_X5_find_A l D cy f8 fi al ra ga nn fg z.toInt64 jb a12 a13 hn60 hga (by rw [hvb, nI_l (by omega)]) hjb) zyX5_find mMX7_130 a12 zl5 rfl rfl (Nat.le_of_ble_eq_true rfl) ⟨Nat.le_of_ble_eq_true rfl, Nat.le_of_ble_eq_true rfl⟩ ⟨Nat.le_of_ble_eq_true rfl, Nat.le_of_ble_eq_true rfl⟩ dX7_set_24 (fun r f14 H locs h15 hz hS => ?_)
      obtain ⟨rfl, k16⟩ := h15
      refine W.eq (g2 := F0 m 27 ls [.ref (fg jb)]) rfl ?_
      refine lv_astore (lv' := [(5, .ref (fg jb)), (4, .ref (fg ja)), (0, .ref o), (1, .int x), (2, .int y), (3, .int z)]) hx hb dX7_set_27 hl (by decide) rfl (fun ls hl => ?_)
      refine lv_aload hx hb dX7_set_29 (lv_at hl 1 rfl) ?_
      refine lv_ifnull hx hb dX7_set_31 ?_
      refine lv_aload_n hx hb dX7_set_34 rfl (lv_at hl 2 rfl) ?_
      have a17 : f14 o = some (.inr (7, [.ref fa, .ref fi, .ref nu, .int (nI nl), .ref fm, .int (nI nf), .ref co, .int (nI nc), .ref en, .ref ke, .long lk])) := k16 _ _ a11 
      refine z_get (v := .ref fi) C hz a17 zl7 mFX7_19 (by decide) rfl dX7_set_35 ?_
      refine lv_iload_n hx hb dX7_set_38 rfl (lv_at hl 5 rfl) ?_
      skip
      · have hOc : oF nn z = true := oF_t hn60 hjb hvb
        have a18 : f14 fi = some (.inr (5, [.ref al, .ref ra, .int (nI nn)])) := k16 _ _ a12 
        have a19 : f14 al = some (.inl (cy 3, 60, .inr (.inr (.inr (.inr ga))))) := k16 _ _ a13 
        refine z_callVi (As := [.int z]) C hz hS hA hl (k_X5_hasOrNone_A l D cy f14 fi al ra ga nn fg jb z a18 a19 hvb hjb hn60 hga) zyX5_hasOrNone mMX7_112 a18 zl5 rfl rfl (Nat.le_of_ble_eq_true rfl) ⟨Nat.le_of_ble_eq_true rfl, Nat.le_of_ble_eq_true rfl⟩ ⟨Nat.le_of_ble_eq_true rfl, Nat.le_of_ble_eq_true rfl⟩ dX7_set_39 (fun r f20 H locs h21 hz hS => ?_)
        obtain ⟨rfl, k22⟩ := h21
        refine lv_if_ne (tgt := 48) hx hb dX7_set_42 (by decide) (fun c23 => ?_) (fun c23 => ?_)
        rotate_left
        · exact absurd c23 (by decide)
        refine lv_aload hx hb dX7_set_48 (lv_at hl 1 rfl) ?_
        have F24 : ∀ i9 : Nat, i9 < nn → f1 (fg i9) = some (.inr (4, [.int (kd i9), .ref (pt i9), .long (wg i9), .int (wd i9), .int (nI i9), .int (hs i9), .int (bf i9)])) := fun i9 h9 => k4 _ _ (hF i9 h9) (z_ne (hF i9 h9) x_fa rfl)
        have F25 : ∀ i9 : Nat, i9 < nn → f8 (fg i9) = some (.inr (4, [.int (kd i9), .ref (pt i9), .long (wg i9), .int (wd i9), .int (nI i9), .int (hs i9), .int (bf i9)])) := fun i9 h9 => k10 _ _ (F24 i9 h9) 
        have F26 : ∀ i9 : Nat, i9 < nn → f14 (fg i9) = some (.inr (4, [.int (kd i9), .ref (pt i9), .long (wg i9), .int (wd i9), .int (nI i9), .int (hs i9), .int (bf i9)])) := fun i9 h9 => k16 _ _ (F25 i9 h9) 
        have F27 : ∀ i9 : Nat, i9 < nn → f20 (fg i9) = some (.inr (4, [.int (kd i9), .ref (pt i9), .long (wg i9), .int (wd i9), .int (nI i9), .int (hs i9), .int (bf i9)])) := fun i9 h9 => k22 _ _ (F26 i9 h9) 
        have a28 : f20 (fg ja) = some (.inr (4, [.int (kd ja), .ref (pt ja), .long (wg ja), .int (wd ja), .int (nI ja), .int (hs ja), .int (bf ja)])) := F27 ja hja
        refine z_getN (v := .int (kd ja)) C hz a28 zl4 mFNX7_134 (by decide) rfl dX7_set_50 ?_
        refine lv_bipush (v := 6) hx hb dX7_set_53 (by decide) ?_
        refine lv_icmp_ne (tgt := 72) hx hb dX7_set_55 (by decide) (fun c29 => ?_) (fun c29 => ?_)
        · refine lv_aload_n hx hb dX7_set_72 rfl (lv_at hl 2 rfl) ?_
          have a30 : f20 o = some (.inr (7, [.ref fa, .ref fi, .ref nu, .int (nI nl), .ref fm, .int (nI nf), .ref co, .int (nI nc), .ref en, .ref ke, .long lk])) := k22 _ _ a17 
          refine z_get (v := .ref fa) C hz a30 zl7 mFX7_10 (by decide) rfl dX7_set_73 ?_
          refine lv_iconst (v := 3) hx hb dX7_set_76 (by decide) ?_
          have a31 : f8 fa = some (.inr (2, [.int 0, .int (-1), .int 0, .ref ev])) := k10 _ _ a3 
          have a32 : f14 fa = some (.inr (2, [.int 0, .int (-1), .int 0, .ref ev])) := k16 _ _ a31 
          have a33 : f20 fa = some (.inr (2, [.int 0, .int (-1), .int 0, .ref ev])) := k22 _ _ a32 
          have a34 : f1 ev = some (.inl (cy 0, 8, .inl gv)) := k4 _ _ x_ev (z_ne x_ev x_fa rfl)
          have a35 : f8 ev = some (.inl (cy 0, 8, .inl gv)) := k10 _ _ a34 
          have a36 : f14 ev = some (.inl (cy 0, 8, .inl gv)) := k16 _ _ a35 
          have a37 : f20 ev = some (.inl (cy 0, 8, .inl gv)) := k22 _ _ a36 
          refine z_callVi (As := [.int 3]) C hz hS hA hl (k_X2_inNoPart l D cy f20 fa 3 0 (-1) 0 ev gv 3 a33 a37 (by decide) (Nat.le_of_ble_eq_true rfl)) zyX2_inNoPart mMX7_140 a33 zl2 rfl rfl (Nat.le_of_ble_eq_true rfl) ⟨Nat.le_of_ble_eq_true rfl, Nat.le_of_ble_eq_true rfl⟩ ⟨Nat.le_of_ble_eq_true rfl, Nat.le_of_ble_eq_true rfl⟩ dX7_set_77 (fun r f38 H locs h39 hz hS => ?_)
          obtain ⟨rfl, a40, a41, k42⟩ := h39
          have a43 : f38 o = some (.inr (7, [.ref fa, .ref fi, .ref nu, .int (nI nl), .ref fm, .int (nI nf), .ref co, .int (nI nc), .ref en, .ref ke, .long lk])) := k42 _ _ a30 (z_ne a30 a33 rfl) (z_ne a30 a37 rfl)
          have a44 : f20 fi = some (.inr (5, [.ref al, .ref ra, .int (nI nn)])) := k22 _ _ a18 
          have a45 : f38 fi = some (.inr (5, [.ref al, .ref ra, .int (nI nn)])) := k42 _ _ a44 (z_ne a44 a33 rfl) (z_ne a44 a37 rfl)
          have a46 : f20 al = some (.inl (cy 3, 60, .inr (.inr (.inr (.inr ga))))) := k22 _ _ a19 
          have a47 : f38 al = some (.inl (cy 3, 60, .inr (.inr (.inr (.inr ga))))) := k42 _ _ a46 (z_ne a46 a33 rfl) (z_ne a46 a37 rfl)
          have a48 : f1 ra = some (.inl (cy 3, 60, .inr (.inr (.inr (.inr gr))))) := k4 _ _ x_ra (z_ne x_ra x_fa rfl)
          have a49 : f8 ra = some (.inl (cy 3, 60, .inr (.inr (.inr (.inr gr))))) := k10 _ _ a48 
          have a50 : f14 ra = some (.inl (cy 3, 60, .inr (.inr (.inr (.inr gr))))) := k16 _ _ a49 
          have a51 : f20 ra = some (.inl (cy 3, 60, .inr (.inr (.inr (.inr gr))))) := k22 _ _ a50 
          have a52 : f38 ra = some (.inl (cy 3, 60, .inr (.inr (.inr (.inr gr))))) := k42 _ _ a51 (z_ne a51 a33 rfl) (z_ne a51 a37 rfl)
          have a53 : f1 nu = some (.inl (cy 0, 12, .inl gu)) := k4 _ _ x_nu (z_ne x_nu x_fa rfl)
          have a54 : f8 nu = some (.inl (cy 0, 12, .inl gu)) := k10 _ _ a53 
          have a55 : f14 nu = some (.inl (cy 0, 12, .inl gu)) := k16 _ _ a54 
          have a56 : f20 nu = some (.inl (cy 0, 12, .inl gu)) := k22 _ _ a55 
          have a57 : f38 nu = some (.inl (cy 0, 12, .inl gu)) := k42 _ _ a56 (z_ne a56 a33 rfl) (z_ne a56 a37 rfl)
          have a58 : f1 fm = some (.inl (cy 4, 6, .inr (.inr (.inr (.inr gf))))) := k4 _ _ x_fm (z_ne x_fm x_fa rfl)
          have a59 : f8 fm = some (.inl (cy 4, 6, .inr (.inr (.inr (.inr gf))))) := k10 _ _ a58 
          have a60 : f14 fm = some (.inl (cy 4, 6, .inr (.inr (.inr (.inr gf))))) := k16 _ _ a59 
          have a61 : f20 fm = some (.inl (cy 4, 6, .inr (.inr (.inr (.inr gf))))) := k22 _ _ a60 
          have a62 : f38 fm = some (.inl (cy 4, 6, .inr (.inr (.inr (.inr gf))))) := k42 _ _ a61 (z_ne a61 a33 rfl) (z_ne a61 a37 rfl)
          have a63 : f1 co = some (.inl (cy 5, 60, .inr (.inr (.inr (.inr gc))))) := k4 _ _ x_co (z_ne x_co x_fa rfl)
          have a64 : f8 co = some (.inl (cy 5, 60, .inr (.inr (.inr (.inr gc))))) := k10 _ _ a63 
          have a65 : f14 co = some (.inl (cy 5, 60, .inr (.inr (.inr (.inr gc))))) := k16 _ _ a64 
          have a66 : f20 co = some (.inl (cy 5, 60, .inr (.inr (.inr (.inr gc))))) := k22 _ _ a65 
          have a67 : f38 co = some (.inl (cy 5, 60, .inr (.inr (.inr (.inr gc))))) := k42 _ _ a66 (z_ne a66 a33 rfl) (z_ne a66 a37 rfl)
          have a68 : f1 en = some (.inl (cy 6, 4, .inr (.inr (.inr (.inr ge))))) := k4 _ _ x_en (z_ne x_en x_fa rfl)
          have a69 : f8 en = some (.inl (cy 6, 4, .inr (.inr (.inr (.inr ge))))) := k10 _ _ a68 
          have a70 : f14 en = some (.inl (cy 6, 4, .inr (.inr (.inr (.inr ge))))) := k16 _ _ a69 
          have a71 : f20 en = some (.inl (cy 6, 4, .inr (.inr (.inr (.inr ge))))) := k22 _ _ a70 
          have a72 : f38 en = some (.inl (cy 6, 4, .inr (.inr (.inr (.inr ge))))) := k42 _ _ a71 (z_ne a71 a33 rfl) (z_ne a71 a37 rfl)
          have a73 : f1 ke = some (.inr (6, [.ref kn, .ref vq, .int (nI ks)])) := k4 _ _ x_ke (z_ne x_ke x_fa rfl)
          have a74 : f8 ke = some (.inr (6, [.ref kn, .ref vq, .int (nI ks)])) := k10 _ _ a73 
          have a75 : f14 ke = some (.inr (6, [.ref kn, .ref vq, .int (nI ks)])) := k16 _ _ a74 
          have a76 : f20 ke = some (.inr (6, [.ref kn, .ref vq, .int (nI ks)])) := k22 _ _ a75 
          have a77 : f38 ke = some (.inr (6, [.ref kn, .ref vq, .int (nI ks)])) := k42 _ _ a76 (z_ne a76 a33 rfl) (z_ne a76 a37 rfl)
          have a78 : f1 kn = some (.inl (cy 0, 40, .inl kk)) := k4 _ _ x_kn (z_ne x_kn x_fa rfl)
          have a79 : f8 kn = some (.inl (cy 0, 40, .inl kk)) := k10 _ _ a78 
          have a80 : f14 kn = some (.inl (cy 0, 40, .inl kk)) := k16 _ _ a79 
          have a81 : f20 kn = some (.inl (cy 0, 40, .inl kk)) := k22 _ _ a80 
          have a82 : f38 kn = some (.inl (cy 0, 40, .inl kk)) := k42 _ _ a81 (z_ne a81 a33 rfl) (z_ne a81 a37 rfl)
          have a83 : f1 vq = some (.inl (cy 0, 40, .inl kv)) := k4 _ _ x_vq (z_ne x_vq x_fa rfl)
          have a84 : f8 vq = some (.inl (cy 0, 40, .inl kv)) := k10 _ _ a83 
          have a85 : f14 vq = some (.inl (cy 0, 40, .inl kv)) := k16 _ _ a84 
          have a86 : f20 vq = some (.inl (cy 0, 40, .inl kv)) := k22 _ _ a85 
          have a87 : f38 vq = some (.inl (cy 0, 40, .inl kv)) := k42 _ _ a86 (z_ne a86 a33 rfl) (z_ne a86 a37 rfl)
          have F88 : ∀ i9 : Nat, i9 < nn → f38 (fg i9) = some (.inr (4, [.int (kd i9), .ref (pt i9), .long (wg i9), .int (wd i9), .int (nI i9), .int (hs i9), .int (bf i9)])) := fun i9 h9 => k42 _ _ (F27 i9 h9) (z_ne (F27 i9 h9) a33 rfl) (z_ne (F27 i9 h9) a37 rfl)
          have F89 : ∀ i9 : Nat, i9 < nn → f1 (pt i9) = some (.inl (cy 1, (ln i9), .inr (.inl (pp i9)))) := fun i9 h9 => k4 _ _ (hP i9 h9) (z_neO (hP i9 h9) x_fa rfl)
          have F90 : ∀ i9 : Nat, i9 < nn → f8 (pt i9) = some (.inl (cy 1, (ln i9), .inr (.inl (pp i9)))) := fun i9 h9 => k10 _ _ (F89 i9 h9) 
          have F91 : ∀ i9 : Nat, i9 < nn → f14 (pt i9) = some (.inl (cy 1, (ln i9), .inr (.inl (pp i9)))) := fun i9 h9 => k16 _ _ (F90 i9 h9) 
          have F92 : ∀ i9 : Nat, i9 < nn → f20 (pt i9) = some (.inl (cy 1, (ln i9), .inr (.inl (pp i9)))) := fun i9 h9 => k22 _ _ (F91 i9 h9) 
          have F93 : ∀ i9 : Nat, i9 < nn → f38 (pt i9) = some (.inl (cy 1, (ln i9), .inr (.inl (pp i9)))) := fun i9 h9 => k42 _ _ (F92 i9 h9) (z_neO (F92 i9 h9) a33 rfl) (z_neA (F92 i9 h9) a37 rfl)
          have F94 : ∀ i9 : Nat, i9 < nf → f1 (fq i9) = some (.inr (3, [.ref (fk i9), .int (nI (fz i9))])) := fun i9 h9 => k4 _ _ (hFq i9 h9) (z_ne (hFq i9 h9) x_fa rfl)
          have F95 : ∀ i9 : Nat, i9 < nf → f8 (fq i9) = some (.inr (3, [.ref (fk i9), .int (nI (fz i9))])) := fun i9 h9 => k10 _ _ (F94 i9 h9) 
          have F96 : ∀ i9 : Nat, i9 < nf → f14 (fq i9) = some (.inr (3, [.ref (fk i9), .int (nI (fz i9))])) := fun i9 h9 => k16 _ _ (F95 i9 h9) 
          have F97 : ∀ i9 : Nat, i9 < nf → f20 (fq i9) = some (.inr (3, [.ref (fk i9), .int (nI (fz i9))])) := fun i9 h9 => k22 _ _ (F96 i9 h9) 
          have F98 : ∀ i9 : Nat, i9 < nf → f38 (fq i9) = some (.inr (3, [.ref (fk i9), .int (nI (fz i9))])) := fun i9 h9 => k42 _ _ (F97 i9 h9) (z_ne (F97 i9 h9) a33 rfl) (z_ne (F97 i9 h9) a37 rfl)
          have F99 : ∀ i9 : Nat, i9 < nf → f1 (fk i9) = some (.inl (cy 0, 4, .inl (fc i9))) := fun i9 h9 => k4 _ _ (hFk i9 h9) (z_ne (hFk i9 h9) x_fa rfl)
          have F100 : ∀ i9 : Nat, i9 < nf → f8 (fk i9) = some (.inl (cy 0, 4, .inl (fc i9))) := fun i9 h9 => k10 _ _ (F99 i9 h9) 
          have F101 : ∀ i9 : Nat, i9 < nf → f14 (fk i9) = some (.inl (cy 0, 4, .inl (fc i9))) := fun i9 h9 => k16 _ _ (F100 i9 h9) 
          have F102 : ∀ i9 : Nat, i9 < nf → f20 (fk i9) = some (.inl (cy 0, 4, .inl (fc i9))) := fun i9 h9 => k22 _ _ (F101 i9 h9) 
          have F103 : ∀ i9 : Nat, i9 < nf → f38 (fk i9) = some (.inl (cy 0, 4, .inl (fc i9))) := fun i9 h9 => k42 _ _ (F102 i9 h9) (z_ne (F102 i9 h9) a33 rfl) (z_ne (F102 i9 h9) a37 rfl)
          have F104 : ∀ i9 : Nat, i9 < nc → f1 (cn i9) = some (.inr (0, [.int (ce i9), .int (cm i9)])) := fun i9 h9 => k4 _ _ (hCn i9 h9) (z_ne (hCn i9 h9) x_fa rfl)
          have F105 : ∀ i9 : Nat, i9 < nc → f8 (cn i9) = some (.inr (0, [.int (ce i9), .int (cm i9)])) := fun i9 h9 => k10 _ _ (F104 i9 h9) 
          have F106 : ∀ i9 : Nat, i9 < nc → f14 (cn i9) = some (.inr (0, [.int (ce i9), .int (cm i9)])) := fun i9 h9 => k16 _ _ (F105 i9 h9) 
          have F107 : ∀ i9 : Nat, i9 < nc → f20 (cn i9) = some (.inr (0, [.int (ce i9), .int (cm i9)])) := fun i9 h9 => k22 _ _ (F106 i9 h9) 
          have F108 : ∀ i9 : Nat, i9 < nc → f38 (cn i9) = some (.inr (0, [.int (ce i9), .int (cm i9)])) := fun i9 h9 => k42 _ _ (F107 i9 h9) (z_ne (F107 i9 h9) a33 rfl) (z_ne (F107 i9 h9) a37 rfl)
          have F109 : ∀ i9 : Nat, i9 < 4 → f1 (ea i9) = some (.inr (1, [.ref (ma i9), .int (nI (sq i9))])) := fun i9 h9 => k4 _ _ (hEa i9 h9) (z_ne (hEa i9 h9) x_fa rfl)
          have F110 : ∀ i9 : Nat, i9 < 4 → f8 (ea i9) = some (.inr (1, [.ref (ma i9), .int (nI (sq i9))])) := fun i9 h9 => k10 _ _ (F109 i9 h9) 
          have F111 : ∀ i9 : Nat, i9 < 4 → f14 (ea i9) = some (.inr (1, [.ref (ma i9), .int (nI (sq i9))])) := fun i9 h9 => k16 _ _ (F110 i9 h9) 
          have F112 : ∀ i9 : Nat, i9 < 4 → f20 (ea i9) = some (.inr (1, [.ref (ma i9), .int (nI (sq i9))])) := fun i9 h9 => k22 _ _ (F111 i9 h9) 
          have F113 : ∀ i9 : Nat, i9 < 4 → f38 (ea i9) = some (.inr (1, [.ref (ma i9), .int (nI (sq i9))])) := fun i9 h9 => k42 _ _ (F112 i9 h9) (z_ne (F112 i9 h9) a33 rfl) (z_ne (F112 i9 h9) a37 rfl)
          have F114 : ∀ i9 : Nat, i9 < 4 → f1 (ma i9) = some (.inl (cy 0, 60, .inl (mb i9))) := fun i9 h9 => k4 _ _ (hMa i9 h9) (z_ne (hMa i9 h9) x_fa rfl)
          have F115 : ∀ i9 : Nat, i9 < 4 → f8 (ma i9) = some (.inl (cy 0, 60, .inl (mb i9))) := fun i9 h9 => k10 _ _ (F114 i9 h9) 
          have F116 : ∀ i9 : Nat, i9 < 4 → f14 (ma i9) = some (.inl (cy 0, 60, .inl (mb i9))) := fun i9 h9 => k16 _ _ (F115 i9 h9) 
          have F117 : ∀ i9 : Nat, i9 < 4 → f20 (ma i9) = some (.inl (cy 0, 60, .inl (mb i9))) := fun i9 h9 => k22 _ _ (F116 i9 h9) 
          have F118 : ∀ i9 : Nat, i9 < 4 → f38 (ma i9) = some (.inl (cy 0, 60, .inl (mb i9))) := fun i9 h9 => k42 _ _ (F117 i9 h9) (z_ne (F117 i9 h9) a33 rfl) (z_ne (F117 i9 h9) a37 rfl)
          have hq : q_set nn kd ln wd x y z = ((-4), 3, (-1), 0) := by simp [q_set, oF_m1 nn, hFa, hIa, hNa, hFb, hIb, hNb, hOc, c23, c29]
          exact z_iret C hr rfl hz hS ⟨3, (-1), 0, (upd gv 3 (gv 3 + 1)), nl, gu, nn, ga, gr, fg, pt, kd, ln, pp, wg, wd, hs, bf, nf, gf, fq, fk, fz, fc, nc, gc, cn, ce, cm, sq, mb, ks, kk, kv, lk, (by rw [hq]), (by rw [hq]), (by rw [hq]), (by rw [hq]), (by rw [hq]; exact (zEV3 gv).symm), rfl, rfl, rfl, rfl, rfl, (by rw [if_neg (by decide)]), rfl, rfl, rfl, rfl, rfl, rfl, rfl, rfl, rfl, rfl, rfl, rfl, rfl, rfl, ⟨a43, a40, a41, a45, a47, a52, a57, a62, a67, a72, a77, a82, a87, F88, F93, F98, F103, F108, F113, F118, hn60, hl12, hf6, hc60, hs40, hga, hgr, hln, hk5, hk4, hfi, hpi, har, hgf, hfz, hgc, hG, hsq, hei, hmi, kne, hca, hcr, hlk⟩⟩ (Nat.le_of_ble_eq_true rfl) (Nat.le_of_ble_eq_true rfl) dX7_set_80
        · refine lv_aload hx hb dX7_set_58 (lv_at hl 0 rfl) ?_
          refine lv_ifnull hx hb dX7_set_60 ?_
          refine lv_aload hx hb dX7_set_63 (lv_at hl 0 rfl) ?_
          refine lv_iconst (v := 1) hx hb dX7_set_65 (by decide) ?_
          have a119 : f20 (fg jb) = some (.inr (4, [.int (kd jb), .ref (pt jb), .long (wg jb), .int (wd jb), .int (nI jb), .int (hs jb), .int (bf jb)])) := F27 jb hjb
          refine z_callVi (As := [.int 1]) C hz hS hA hl (k_X4_isOf l D cy f20 (fg jb) (kd jb) (pt jb) (wg jb) (wd jb) (nI jb) (hs jb) (bf jb) 1 a119 ) zyX4_isOf mMX7_137 a119 zl4 rfl rfl (Nat.le_of_ble_eq_true rfl) ⟨Nat.le_of_ble_eq_true rfl, Nat.le_of_ble_eq_true rfl⟩ ⟨Nat.le_of_ble_eq_true rfl, Nat.le_of_ble_eq_true rfl⟩ dX7_set_66 (fun r f120 H locs h121 hz hS => ?_)
          obtain ⟨rfl, k122⟩ := h121
          refine lv_if_ne (tgt := 81) hx hb dX7_set_69 (by decide) (fun c123 => ?_) (fun c123 => ?_)
          · have hSa : kd jb = 1 ∨ kd jb = 2 := (isOf_t c123).elim Or.inl (fun h9 => Or.inr h9.1)
            refine lv_aload hx hb dX7_set_81 (lv_at hl 1 rfl) ?_
            refine lv_iload_n hx hb dX7_set_83 rfl (lv_at hl 4 rfl) ?_
            have a124 : f120 (fg ja) = some (.inr (4, [.int (kd ja), .ref (pt ja), .long (wg ja), .int (wd ja), .int (nI ja), .int (hs ja), .int (bf ja)])) := k122 _ _ a28 
            have F125 : ∀ i9 : Nat, i9 < nn → f1 (pt i9) = some (.inl (cy 1, (ln i9), .inr (.inl (pp i9)))) := fun i9 h9 => k4 _ _ (hP i9 h9) (z_neO (hP i9 h9) x_fa rfl)
            have F126 : ∀ i9 : Nat, i9 < nn → f8 (pt i9) = some (.inl (cy 1, (ln i9), .inr (.inl (pp i9)))) := fun i9 h9 => k10 _ _ (F125 i9 h9) 
            have F127 : ∀ i9 : Nat, i9 < nn → f14 (pt i9) = some (.inl (cy 1, (ln i9), .inr (.inl (pp i9)))) := fun i9 h9 => k16 _ _ (F126 i9 h9) 
            have F128 : ∀ i9 : Nat, i9 < nn → f20 (pt i9) = some (.inl (cy 1, (ln i9), .inr (.inl (pp i9)))) := fun i9 h9 => k22 _ _ (F127 i9 h9) 
            have F129 : ∀ i9 : Nat, i9 < nn → f120 (pt i9) = some (.inl (cy 1, (ln i9), .inr (.inl (pp i9)))) := fun i9 h9 => k122 _ _ (F128 i9 h9) 
            have a130 : f120 (pt ja) = some (.inl (cy 1, (ln ja), .inr (.inl (pp ja)))) := F129 ja hja
            refine z_callVi (As := [.int y]) C hz hS hA hl (k_X4_hasPlace l D cy f120 (fg ja) (kd ja) (pt ja) (wg ja) (wd ja) (nI ja) (hs ja) (bf ja) y (ln ja) (pp ja) a124 a130 ) zyX4_hasPlace mMX7_143 a124 zl4 rfl rfl (Nat.le_of_ble_eq_true rfl) ⟨Nat.le_of_ble_eq_true rfl, Nat.le_of_ble_eq_true rfl⟩ ⟨Nat.le_of_ble_eq_true rfl, Nat.le_of_ble_eq_true rfl⟩ dX7_set_84 (fun r f131 H locs h132 hz hS => ?_)
            obtain ⟨rfl, k133⟩ := h132
            refine lv_if_ne (tgt := 99) hx hb dX7_set_87 (by decide) (fun c134 => ?_) (fun c134 => ?_)
            · have hPa : isP (ln ja) y = true := isP_t c134
              obtain ⟨kx, hyk, hkx⟩ := z_place (by have h9 := hln ja hja; omega) c134
              have hIy : fI y = kx := fI_of (by have h9 := hln ja hja; omega) hyk
              refine lv_aload hx hb dX7_set_99 (lv_at hl 1 rfl) ?_
              have a135 : f131 (fg ja) = some (.inr (4, [.int (kd ja), .ref (pt ja), .long (wg ja), .int (wd ja), .int (nI ja), .int (hs ja), .int (bf ja)])) := k133 _ _ a124 
              refine z_getN (v := .int (wd ja)) C hz a135 zl4 mFNX7_126 (by decide) rfl dX7_set_101 ?_
              refine lv_if_eq (tgt := 130) hx hb dX7_set_104 (by decide) (fun c136 => ?_) (fun c136 => ?_)
              · refine lv_aload hx hb dX7_set_130 (lv_at hl 1 rfl) ?_
                refine lv_iload_n hx hb dX7_set_132 rfl (lv_at hl 4 rfl) ?_
                refine lv_iload_n hx hb dX7_set_133 rfl (lv_at hl 5 rfl) ?_
                have a137 : f131 (pt ja) = some (.inl (cy 1, (ln ja), .inr (.inl (pp ja)))) := k133 _ _ a130 
                refine z_callVv (As := [.int y, .int z]) C hz hS hA hl (k_X4_hold l D cy f131 (fg ja) (kd ja) (pt ja) (wg ja) (wd ja) (nI ja) (hs ja) (bf ja) y z (ln ja) (pp ja) kx a135 a137 hyk hkx (by have h9 := hln ja hja; omega)) zyX4_hold mMX7_146 a135 zl4 rfl rfl (Nat.le_of_ble_eq_true rfl) ⟨Nat.le_of_ble_eq_true rfl, Nat.le_of_ble_eq_true rfl⟩ ⟨Nat.le_of_ble_eq_true rfl, Nat.le_of_ble_eq_true rfl⟩ dX7_set_134 (fun  f138 H locs h139 hz hS => ?_)
                obtain ⟨wg_140, a141, a142, k143⟩ := h139
                refine lv_iconst (v := 1) hx hb dX7_set_137 (by decide) ?_
                have a144 : f20 o = some (.inr (7, [.ref fa, .ref fi, .ref nu, .int (nI nl), .ref fm, .int (nI nf), .ref co, .int (nI nc), .ref en, .ref ke, .long lk])) := k22 _ _ a17 
                have a145 : f120 o = some (.inr (7, [.ref fa, .ref fi, .ref nu, .int (nI nl), .ref fm, .int (nI nf), .ref co, .int (nI nc), .ref en, .ref ke, .long lk])) := k122 _ _ a144 
                have a146 : f131 o = some (.inr (7, [.ref fa, .ref fi, .ref nu, .int (nI nl), .ref fm, .int (nI nf), .ref co, .int (nI nc), .ref en, .ref ke, .long lk])) := k133 _ _ a145 
                have a147 : f138 o = some (.inr (7, [.ref fa, .ref fi, .ref nu, .int (nI nl), .ref fm, .int (nI nf), .ref co, .int (nI nc), .ref en, .ref ke, .long lk])) := k143 _ _ a146 (z_ne a146 a135 rfl) (z_neO a146 a137 rfl)
                have a148 : f8 fa = some (.inr (2, [.int 0, .int (-1), .int 0, .ref ev])) := k10 _ _ a3 
                have a149 : f14 fa = some (.inr (2, [.int 0, .int (-1), .int 0, .ref ev])) := k16 _ _ a148 
                have a150 : f20 fa = some (.inr (2, [.int 0, .int (-1), .int 0, .ref ev])) := k22 _ _ a149 
                have a151 : f120 fa = some (.inr (2, [.int 0, .int (-1), .int 0, .ref ev])) := k122 _ _ a150 
                have a152 : f131 fa = some (.inr (2, [.int 0, .int (-1), .int 0, .ref ev])) := k133 _ _ a151 
                have a153 : f138 fa = some (.inr (2, [.int 0, .int (-1), .int 0, .ref ev])) := k143 _ _ a152 (z_ne a152 a135 rfl) (z_neO a152 a137 rfl)
                have a154 : f1 ev = some (.inl (cy 0, 8, .inl gv)) := k4 _ _ x_ev (z_ne x_ev x_fa rfl)
                have a155 : f8 ev = some (.inl (cy 0, 8, .inl gv)) := k10 _ _ a154 
                have a156 : f14 ev = some (.inl (cy 0, 8, .inl gv)) := k16 _ _ a155 
                have a157 : f20 ev = some (.inl (cy 0, 8, .inl gv)) := k22 _ _ a156 
                have a158 : f120 ev = some (.inl (cy 0, 8, .inl gv)) := k122 _ _ a157 
                have a159 : f131 ev = some (.inl (cy 0, 8, .inl gv)) := k133 _ _ a158 
                have a160 : f138 ev = some (.inl (cy 0, 8, .inl gv)) := k143 _ _ a159 (z_ne a159 a135 rfl) (z_neA a159 a137 rfl)
                have a161 : f20 fi = some (.inr (5, [.ref al, .ref ra, .int (nI nn)])) := k22 _ _ a18 
                have a162 : f120 fi = some (.inr (5, [.ref al, .ref ra, .int (nI nn)])) := k122 _ _ a161 
                have a163 : f131 fi = some (.inr (5, [.ref al, .ref ra, .int (nI nn)])) := k133 _ _ a162 
                have a164 : f138 fi = some (.inr (5, [.ref al, .ref ra, .int (nI nn)])) := k143 _ _ a163 (z_ne a163 a135 rfl) (z_neO a163 a137 rfl)
                have a165 : f20 al = some (.inl (cy 3, 60, .inr (.inr (.inr (.inr ga))))) := k22 _ _ a19 
                have a166 : f120 al = some (.inl (cy 3, 60, .inr (.inr (.inr (.inr ga))))) := k122 _ _ a165 
                have a167 : f131 al = some (.inl (cy 3, 60, .inr (.inr (.inr (.inr ga))))) := k133 _ _ a166 
                have a168 : f138 al = some (.inl (cy 3, 60, .inr (.inr (.inr (.inr ga))))) := k143 _ _ a167 (z_ne a167 a135 rfl) (z_neA a167 a137 rfl)
                have a169 : f1 ra = some (.inl (cy 3, 60, .inr (.inr (.inr (.inr gr))))) := k4 _ _ x_ra (z_ne x_ra x_fa rfl)
                have a170 : f8 ra = some (.inl (cy 3, 60, .inr (.inr (.inr (.inr gr))))) := k10 _ _ a169 
                have a171 : f14 ra = some (.inl (cy 3, 60, .inr (.inr (.inr (.inr gr))))) := k16 _ _ a170 
                have a172 : f20 ra = some (.inl (cy 3, 60, .inr (.inr (.inr (.inr gr))))) := k22 _ _ a171 
                have a173 : f120 ra = some (.inl (cy 3, 60, .inr (.inr (.inr (.inr gr))))) := k122 _ _ a172 
                have a174 : f131 ra = some (.inl (cy 3, 60, .inr (.inr (.inr (.inr gr))))) := k133 _ _ a173 
                have a175 : f138 ra = some (.inl (cy 3, 60, .inr (.inr (.inr (.inr gr))))) := k143 _ _ a174 (z_ne a174 a135 rfl) (z_neA a174 a137 rfl)
                have a176 : f1 nu = some (.inl (cy 0, 12, .inl gu)) := k4 _ _ x_nu (z_ne x_nu x_fa rfl)
                have a177 : f8 nu = some (.inl (cy 0, 12, .inl gu)) := k10 _ _ a176 
                have a178 : f14 nu = some (.inl (cy 0, 12, .inl gu)) := k16 _ _ a177 
                have a179 : f20 nu = some (.inl (cy 0, 12, .inl gu)) := k22 _ _ a178 
                have a180 : f120 nu = some (.inl (cy 0, 12, .inl gu)) := k122 _ _ a179 
                have a181 : f131 nu = some (.inl (cy 0, 12, .inl gu)) := k133 _ _ a180 
                have a182 : f138 nu = some (.inl (cy 0, 12, .inl gu)) := k143 _ _ a181 (z_ne a181 a135 rfl) (z_neA a181 a137 rfl)
                have a183 : f1 fm = some (.inl (cy 4, 6, .inr (.inr (.inr (.inr gf))))) := k4 _ _ x_fm (z_ne x_fm x_fa rfl)
                have a184 : f8 fm = some (.inl (cy 4, 6, .inr (.inr (.inr (.inr gf))))) := k10 _ _ a183 
                have a185 : f14 fm = some (.inl (cy 4, 6, .inr (.inr (.inr (.inr gf))))) := k16 _ _ a184 
                have a186 : f20 fm = some (.inl (cy 4, 6, .inr (.inr (.inr (.inr gf))))) := k22 _ _ a185 
                have a187 : f120 fm = some (.inl (cy 4, 6, .inr (.inr (.inr (.inr gf))))) := k122 _ _ a186 
                have a188 : f131 fm = some (.inl (cy 4, 6, .inr (.inr (.inr (.inr gf))))) := k133 _ _ a187 
                have a189 : f138 fm = some (.inl (cy 4, 6, .inr (.inr (.inr (.inr gf))))) := k143 _ _ a188 (z_ne a188 a135 rfl) (z_neA a188 a137 rfl)
                have a190 : f1 co = some (.inl (cy 5, 60, .inr (.inr (.inr (.inr gc))))) := k4 _ _ x_co (z_ne x_co x_fa rfl)
                have a191 : f8 co = some (.inl (cy 5, 60, .inr (.inr (.inr (.inr gc))))) := k10 _ _ a190 
                have a192 : f14 co = some (.inl (cy 5, 60, .inr (.inr (.inr (.inr gc))))) := k16 _ _ a191 
                have a193 : f20 co = some (.inl (cy 5, 60, .inr (.inr (.inr (.inr gc))))) := k22 _ _ a192 
                have a194 : f120 co = some (.inl (cy 5, 60, .inr (.inr (.inr (.inr gc))))) := k122 _ _ a193 
                have a195 : f131 co = some (.inl (cy 5, 60, .inr (.inr (.inr (.inr gc))))) := k133 _ _ a194 
                have a196 : f138 co = some (.inl (cy 5, 60, .inr (.inr (.inr (.inr gc))))) := k143 _ _ a195 (z_ne a195 a135 rfl) (z_neA a195 a137 rfl)
                have a197 : f1 en = some (.inl (cy 6, 4, .inr (.inr (.inr (.inr ge))))) := k4 _ _ x_en (z_ne x_en x_fa rfl)
                have a198 : f8 en = some (.inl (cy 6, 4, .inr (.inr (.inr (.inr ge))))) := k10 _ _ a197 
                have a199 : f14 en = some (.inl (cy 6, 4, .inr (.inr (.inr (.inr ge))))) := k16 _ _ a198 
                have a200 : f20 en = some (.inl (cy 6, 4, .inr (.inr (.inr (.inr ge))))) := k22 _ _ a199 
                have a201 : f120 en = some (.inl (cy 6, 4, .inr (.inr (.inr (.inr ge))))) := k122 _ _ a200 
                have a202 : f131 en = some (.inl (cy 6, 4, .inr (.inr (.inr (.inr ge))))) := k133 _ _ a201 
                have a203 : f138 en = some (.inl (cy 6, 4, .inr (.inr (.inr (.inr ge))))) := k143 _ _ a202 (z_ne a202 a135 rfl) (z_neA a202 a137 rfl)
                have a204 : f1 ke = some (.inr (6, [.ref kn, .ref vq, .int (nI ks)])) := k4 _ _ x_ke (z_ne x_ke x_fa rfl)
                have a205 : f8 ke = some (.inr (6, [.ref kn, .ref vq, .int (nI ks)])) := k10 _ _ a204 
                have a206 : f14 ke = some (.inr (6, [.ref kn, .ref vq, .int (nI ks)])) := k16 _ _ a205 
                have a207 : f20 ke = some (.inr (6, [.ref kn, .ref vq, .int (nI ks)])) := k22 _ _ a206 
                have a208 : f120 ke = some (.inr (6, [.ref kn, .ref vq, .int (nI ks)])) := k122 _ _ a207 
                have a209 : f131 ke = some (.inr (6, [.ref kn, .ref vq, .int (nI ks)])) := k133 _ _ a208 
                have a210 : f138 ke = some (.inr (6, [.ref kn, .ref vq, .int (nI ks)])) := k143 _ _ a209 (z_ne a209 a135 rfl) (z_neO a209 a137 rfl)
                have a211 : f1 kn = some (.inl (cy 0, 40, .inl kk)) := k4 _ _ x_kn (z_ne x_kn x_fa rfl)
                have a212 : f8 kn = some (.inl (cy 0, 40, .inl kk)) := k10 _ _ a211 
                have a213 : f14 kn = some (.inl (cy 0, 40, .inl kk)) := k16 _ _ a212 
                have a214 : f20 kn = some (.inl (cy 0, 40, .inl kk)) := k22 _ _ a213 
                have a215 : f120 kn = some (.inl (cy 0, 40, .inl kk)) := k122 _ _ a214 
                have a216 : f131 kn = some (.inl (cy 0, 40, .inl kk)) := k133 _ _ a215 
                have a217 : f138 kn = some (.inl (cy 0, 40, .inl kk)) := k143 _ _ a216 (z_ne a216 a135 rfl) (z_neA a216 a137 rfl)
                have a218 : f1 vq = some (.inl (cy 0, 40, .inl kv)) := k4 _ _ x_vq (z_ne x_vq x_fa rfl)
                have a219 : f8 vq = some (.inl (cy 0, 40, .inl kv)) := k10 _ _ a218 
                have a220 : f14 vq = some (.inl (cy 0, 40, .inl kv)) := k16 _ _ a219 
                have a221 : f20 vq = some (.inl (cy 0, 40, .inl kv)) := k22 _ _ a220 
                have a222 : f120 vq = some (.inl (cy 0, 40, .inl kv)) := k122 _ _ a221 
                have a223 : f131 vq = some (.inl (cy 0, 40, .inl kv)) := k133 _ _ a222 
                have a224 : f138 vq = some (.inl (cy 0, 40, .inl kv)) := k143 _ _ a223 (z_ne a223 a135 rfl) (z_neA a223 a137 rfl)
                have F225 : ∀ i9 : Nat, i9 < nn → f120 (fg i9) = some (.inr (4, [.int (kd i9), .ref (pt i9), .long (wg i9), .int (wd i9), .int (nI i9), .int (hs i9), .int (bf i9)])) := fun i9 h9 => k122 _ _ (F27 i9 h9) 
                have F226 : ∀ i9 : Nat, i9 < nn → f131 (fg i9) = some (.inr (4, [.int (kd i9), .ref (pt i9), .long (wg i9), .int (wd i9), .int (nI i9), .int (hs i9), .int (bf i9)])) := fun i9 h9 => k133 _ _ (F225 i9 h9) 
                have F227 : ∀ i9 : Nat, i9 < nn → f138 (fg i9) = some (.inr (4, [.int (kd i9), .ref (pt i9), .long (va_up wg ja wg_140 i9), .int (wd i9), .int (nI i9), .int (hs i9), .int (bf i9)])) := z_famC (f := f) (T := fun i9 => .inr (4, [.int (kd i9), .ref (pt i9), .long (wg i9), .int (wd i9), .int (nI i9), .int (hs i9), .int (bf i9)])) (T' := fun i9 => .inr (4, [.int (kd i9), .ref (pt i9), .long (va_up wg ja wg_140 i9), .int (wd i9), .int (nI i9), .int (hs i9), .int (bf i9)])) hja (by simp only [va_up_self]; exact a141) (fun i9 h9 n9 => k143 _ _ (F226 i9 h9) n9 (z_neO (F226 i9 h9) a137 rfl)) (fun i9 h9 => by simp only [va_up_ne _ _ h9]) (fun i9 h9 => hfi i9 h9 ja hja)
                have F228 : ∀ i9 : Nat, i9 < nn → f131 (pt i9) = some (.inl (cy 1, (ln i9), .inr (.inl (pp i9)))) := fun i9 h9 => k133 _ _ (F129 i9 h9) 
                have F229 : ∀ i9 : Nat, i9 < nn → f138 (pt i9) = some (.inl (cy 1, (ln i9), .inr (.inl (va_up pp ja (vp_updL (pp ja) (1 + kx) z.toInt64) i9)))) := z_famC (f := f) (T := fun i9 => .inl (cy 1, (ln i9), .inr (.inl (pp i9)))) (T' := fun i9 => .inl (cy 1, (ln i9), .inr (.inl (va_up pp ja (vp_updL (pp ja) (1 + kx) z.toInt64) i9)))) hja (by simp only [va_up_self]; exact a142) (fun i9 h9 n9 => k143 _ _ (F228 i9 h9) (z_neO (F228 i9 h9) a135 rfl) n9) (fun i9 h9 => by simp only [va_up_ne _ _ h9]) (fun i9 h9 => hpi i9 h9 ja hja)
                have F230 : ∀ i9 : Nat, i9 < nf → f1 (fq i9) = some (.inr (3, [.ref (fk i9), .int (nI (fz i9))])) := fun i9 h9 => k4 _ _ (hFq i9 h9) (z_ne (hFq i9 h9) x_fa rfl)
                have F231 : ∀ i9 : Nat, i9 < nf → f8 (fq i9) = some (.inr (3, [.ref (fk i9), .int (nI (fz i9))])) := fun i9 h9 => k10 _ _ (F230 i9 h9) 
                have F232 : ∀ i9 : Nat, i9 < nf → f14 (fq i9) = some (.inr (3, [.ref (fk i9), .int (nI (fz i9))])) := fun i9 h9 => k16 _ _ (F231 i9 h9) 
                have F233 : ∀ i9 : Nat, i9 < nf → f20 (fq i9) = some (.inr (3, [.ref (fk i9), .int (nI (fz i9))])) := fun i9 h9 => k22 _ _ (F232 i9 h9) 
                have F234 : ∀ i9 : Nat, i9 < nf → f120 (fq i9) = some (.inr (3, [.ref (fk i9), .int (nI (fz i9))])) := fun i9 h9 => k122 _ _ (F233 i9 h9) 
                have F235 : ∀ i9 : Nat, i9 < nf → f131 (fq i9) = some (.inr (3, [.ref (fk i9), .int (nI (fz i9))])) := fun i9 h9 => k133 _ _ (F234 i9 h9) 
                have F236 : ∀ i9 : Nat, i9 < nf → f138 (fq i9) = some (.inr (3, [.ref (fk i9), .int (nI (fz i9))])) := fun i9 h9 => k143 _ _ (F235 i9 h9) (z_ne (F235 i9 h9) a135 rfl) (z_neO (F235 i9 h9) a137 rfl)
                have F237 : ∀ i9 : Nat, i9 < nf → f1 (fk i9) = some (.inl (cy 0, 4, .inl (fc i9))) := fun i9 h9 => k4 _ _ (hFk i9 h9) (z_ne (hFk i9 h9) x_fa rfl)
                have F238 : ∀ i9 : Nat, i9 < nf → f8 (fk i9) = some (.inl (cy 0, 4, .inl (fc i9))) := fun i9 h9 => k10 _ _ (F237 i9 h9) 
                have F239 : ∀ i9 : Nat, i9 < nf → f14 (fk i9) = some (.inl (cy 0, 4, .inl (fc i9))) := fun i9 h9 => k16 _ _ (F238 i9 h9) 
                have F240 : ∀ i9 : Nat, i9 < nf → f20 (fk i9) = some (.inl (cy 0, 4, .inl (fc i9))) := fun i9 h9 => k22 _ _ (F239 i9 h9) 
                have F241 : ∀ i9 : Nat, i9 < nf → f120 (fk i9) = some (.inl (cy 0, 4, .inl (fc i9))) := fun i9 h9 => k122 _ _ (F240 i9 h9) 
                have F242 : ∀ i9 : Nat, i9 < nf → f131 (fk i9) = some (.inl (cy 0, 4, .inl (fc i9))) := fun i9 h9 => k133 _ _ (F241 i9 h9) 
                have F243 : ∀ i9 : Nat, i9 < nf → f138 (fk i9) = some (.inl (cy 0, 4, .inl (fc i9))) := fun i9 h9 => k143 _ _ (F242 i9 h9) (z_ne (F242 i9 h9) a135 rfl) (z_neA (F242 i9 h9) a137 rfl)
                have F244 : ∀ i9 : Nat, i9 < nc → f1 (cn i9) = some (.inr (0, [.int (ce i9), .int (cm i9)])) := fun i9 h9 => k4 _ _ (hCn i9 h9) (z_ne (hCn i9 h9) x_fa rfl)
                have F245 : ∀ i9 : Nat, i9 < nc → f8 (cn i9) = some (.inr (0, [.int (ce i9), .int (cm i9)])) := fun i9 h9 => k10 _ _ (F244 i9 h9) 
                have F246 : ∀ i9 : Nat, i9 < nc → f14 (cn i9) = some (.inr (0, [.int (ce i9), .int (cm i9)])) := fun i9 h9 => k16 _ _ (F245 i9 h9) 
                have F247 : ∀ i9 : Nat, i9 < nc → f20 (cn i9) = some (.inr (0, [.int (ce i9), .int (cm i9)])) := fun i9 h9 => k22 _ _ (F246 i9 h9) 
                have F248 : ∀ i9 : Nat, i9 < nc → f120 (cn i9) = some (.inr (0, [.int (ce i9), .int (cm i9)])) := fun i9 h9 => k122 _ _ (F247 i9 h9) 
                have F249 : ∀ i9 : Nat, i9 < nc → f131 (cn i9) = some (.inr (0, [.int (ce i9), .int (cm i9)])) := fun i9 h9 => k133 _ _ (F248 i9 h9) 
                have F250 : ∀ i9 : Nat, i9 < nc → f138 (cn i9) = some (.inr (0, [.int (ce i9), .int (cm i9)])) := fun i9 h9 => k143 _ _ (F249 i9 h9) (z_ne (F249 i9 h9) a135 rfl) (z_neO (F249 i9 h9) a137 rfl)
                have F251 : ∀ i9 : Nat, i9 < 4 → f1 (ea i9) = some (.inr (1, [.ref (ma i9), .int (nI (sq i9))])) := fun i9 h9 => k4 _ _ (hEa i9 h9) (z_ne (hEa i9 h9) x_fa rfl)
                have F252 : ∀ i9 : Nat, i9 < 4 → f8 (ea i9) = some (.inr (1, [.ref (ma i9), .int (nI (sq i9))])) := fun i9 h9 => k10 _ _ (F251 i9 h9) 
                have F253 : ∀ i9 : Nat, i9 < 4 → f14 (ea i9) = some (.inr (1, [.ref (ma i9), .int (nI (sq i9))])) := fun i9 h9 => k16 _ _ (F252 i9 h9) 
                have F254 : ∀ i9 : Nat, i9 < 4 → f20 (ea i9) = some (.inr (1, [.ref (ma i9), .int (nI (sq i9))])) := fun i9 h9 => k22 _ _ (F253 i9 h9) 
                have F255 : ∀ i9 : Nat, i9 < 4 → f120 (ea i9) = some (.inr (1, [.ref (ma i9), .int (nI (sq i9))])) := fun i9 h9 => k122 _ _ (F254 i9 h9) 
                have F256 : ∀ i9 : Nat, i9 < 4 → f131 (ea i9) = some (.inr (1, [.ref (ma i9), .int (nI (sq i9))])) := fun i9 h9 => k133 _ _ (F255 i9 h9) 
                have F257 : ∀ i9 : Nat, i9 < 4 → f138 (ea i9) = some (.inr (1, [.ref (ma i9), .int (nI (sq i9))])) := fun i9 h9 => k143 _ _ (F256 i9 h9) (z_ne (F256 i9 h9) a135 rfl) (z_neO (F256 i9 h9) a137 rfl)
                have F258 : ∀ i9 : Nat, i9 < 4 → f1 (ma i9) = some (.inl (cy 0, 60, .inl (mb i9))) := fun i9 h9 => k4 _ _ (hMa i9 h9) (z_ne (hMa i9 h9) x_fa rfl)
                have F259 : ∀ i9 : Nat, i9 < 4 → f8 (ma i9) = some (.inl (cy 0, 60, .inl (mb i9))) := fun i9 h9 => k10 _ _ (F258 i9 h9) 
                have F260 : ∀ i9 : Nat, i9 < 4 → f14 (ma i9) = some (.inl (cy 0, 60, .inl (mb i9))) := fun i9 h9 => k16 _ _ (F259 i9 h9) 
                have F261 : ∀ i9 : Nat, i9 < 4 → f20 (ma i9) = some (.inl (cy 0, 60, .inl (mb i9))) := fun i9 h9 => k22 _ _ (F260 i9 h9) 
                have F262 : ∀ i9 : Nat, i9 < 4 → f120 (ma i9) = some (.inl (cy 0, 60, .inl (mb i9))) := fun i9 h9 => k122 _ _ (F261 i9 h9) 
                have F263 : ∀ i9 : Nat, i9 < 4 → f131 (ma i9) = some (.inl (cy 0, 60, .inl (mb i9))) := fun i9 h9 => k133 _ _ (F262 i9 h9) 
                have F264 : ∀ i9 : Nat, i9 < 4 → f138 (ma i9) = some (.inl (cy 0, 60, .inl (mb i9))) := fun i9 h9 => k143 _ _ (F263 i9 h9) (z_ne (F263 i9 h9) a135 rfl) (z_neA (F263 i9 h9) a137 rfl)
                have hq : q_set nn kd ln wd x y z = (1, 0, (-1), 0) := by simp [q_set, oF_m1 nn, hFa, hIa, hNa, hFb, hIb, hNb, hOc, hSa, hPa, hIy, c23, c29, c123, c134, c136]
                exact z_iret C hr rfl hz hS ⟨0, (-1), 0, gv, nl, gu, nn, ga, gr, fg, pt, kd, ln, (va_up pp ja (vp_updL (pp ja) (1 + kx) z.toInt64)), (va_up wg ja wg_140), wd, hs, bf, nf, gf, fq, fk, fz, fc, nc, gc, cn, ce, cm, sq, mb, ks, kk, kv, lk, (by rw [hq]), (by rw [hq]), (by rw [hq]), (by rw [hq]), (by rw [hq]; exact (zEV0 gv).symm), rfl, rfl, rfl, rfl, rfl, (by rw [if_pos rfl, hIa, hIy]), rfl, rfl, rfl, rfl, rfl, rfl, rfl, rfl, rfl, rfl, rfl, rfl, rfl, rfl, ⟨a147, a153, a160, a164, a168, a175, a182, a189, a196, a203, a210, a217, a224, F227, F229, F236, F243, F250, F257, F264, hn60, hl12, hf6, hc60, hs40, hga, hgr, hln, hk5, hk4, hfi, hpi, har, hgf, hfz, hgc, hG, hsq, hei, hmi, kne, hca, hcr, hlk⟩⟩ (Nat.le_of_ble_eq_true rfl) (Nat.le_of_ble_eq_true rfl) dX7_set_138
              · refine lv_aload hx hb dX7_set_107 (lv_at hl 0 rfl) ?_
                refine lv_ifnull hx hb dX7_set_109 ?_
                refine lv_aload hx hb dX7_set_112 (lv_at hl 0 rfl) ?_
                refine lv_iconst (v := 2) hx hb dX7_set_114 (by decide) ?_
                have a265 : f120 (fg jb) = some (.inr (4, [.int (kd jb), .ref (pt jb), .long (wg jb), .int (wd jb), .int (nI jb), .int (hs jb), .int (bf jb)])) := k122 _ _ a119 
                have a266 : f131 (fg jb) = some (.inr (4, [.int (kd jb), .ref (pt jb), .long (wg jb), .int (wd jb), .int (nI jb), .int (hs jb), .int (bf jb)])) := k133 _ _ a265 
                refine z_callVi (As := [.int 2]) C hz hS hA hl (k_X4_isOf l D cy f131 (fg jb) (kd jb) (pt jb) (wg jb) (wd jb) (nI jb) (hs jb) (bf jb) 2 a266 ) zyX4_isOf mMX7_137 a266 zl4 rfl rfl (Nat.le_of_ble_eq_true rfl) ⟨Nat.le_of_ble_eq_true rfl, Nat.le_of_ble_eq_true rfl⟩ ⟨Nat.le_of_ble_eq_true rfl, Nat.le_of_ble_eq_true rfl⟩ dX7_set_115 (fun r f267 H locs h268 hz hS => ?_)
                obtain ⟨rfl, k269⟩ := h268
                refine lv_if_ne (tgt := 130) hx hb dX7_set_118 (by decide) (fun c270 => ?_) (fun c270 => ?_)
                · have hT : kd jb = 2 := (isOf_t c270).elim id And.left
                  refine lv_aload hx hb dX7_set_130 (lv_at hl 1 rfl) ?_
                  refine lv_iload_n hx hb dX7_set_132 rfl (lv_at hl 4 rfl) ?_
                  refine lv_iload_n hx hb dX7_set_133 rfl (lv_at hl 5 rfl) ?_
                  have a271 : f267 (fg ja) = some (.inr (4, [.int (kd ja), .ref (pt ja), .long (wg ja), .int (wd ja), .int (nI ja), .int (hs ja), .int (bf ja)])) := k269 _ _ a135 
                  have a272 : f131 (pt ja) = some (.inl (cy 1, (ln ja), .inr (.inl (pp ja)))) := k133 _ _ a130 
                  have a273 : f267 (pt ja) = some (.inl (cy 1, (ln ja), .inr (.inl (pp ja)))) := k269 _ _ a272 
                  refine z_callVv (As := [.int y, .int z]) C hz hS hA hl (k_X4_hold l D cy f267 (fg ja) (kd ja) (pt ja) (wg ja) (wd ja) (nI ja) (hs ja) (bf ja) y z (ln ja) (pp ja) kx a271 a273 hyk hkx (by have h9 := hln ja hja; omega)) zyX4_hold mMX7_146 a271 zl4 rfl rfl (Nat.le_of_ble_eq_true rfl) ⟨Nat.le_of_ble_eq_true rfl, Nat.le_of_ble_eq_true rfl⟩ ⟨Nat.le_of_ble_eq_true rfl, Nat.le_of_ble_eq_true rfl⟩ dX7_set_134 (fun  f274 H locs h275 hz hS => ?_)
                  obtain ⟨wg_276, a277, a278, k279⟩ := h275
                  refine lv_iconst (v := 1) hx hb dX7_set_137 (by decide) ?_
                  have a280 : f20 o = some (.inr (7, [.ref fa, .ref fi, .ref nu, .int (nI nl), .ref fm, .int (nI nf), .ref co, .int (nI nc), .ref en, .ref ke, .long lk])) := k22 _ _ a17 
                  have a281 : f120 o = some (.inr (7, [.ref fa, .ref fi, .ref nu, .int (nI nl), .ref fm, .int (nI nf), .ref co, .int (nI nc), .ref en, .ref ke, .long lk])) := k122 _ _ a280 
                  have a282 : f131 o = some (.inr (7, [.ref fa, .ref fi, .ref nu, .int (nI nl), .ref fm, .int (nI nf), .ref co, .int (nI nc), .ref en, .ref ke, .long lk])) := k133 _ _ a281 
                  have a283 : f267 o = some (.inr (7, [.ref fa, .ref fi, .ref nu, .int (nI nl), .ref fm, .int (nI nf), .ref co, .int (nI nc), .ref en, .ref ke, .long lk])) := k269 _ _ a282 
                  have a284 : f274 o = some (.inr (7, [.ref fa, .ref fi, .ref nu, .int (nI nl), .ref fm, .int (nI nf), .ref co, .int (nI nc), .ref en, .ref ke, .long lk])) := k279 _ _ a283 (z_ne a283 a271 rfl) (z_neO a283 a273 rfl)
                  have a285 : f8 fa = some (.inr (2, [.int 0, .int (-1), .int 0, .ref ev])) := k10 _ _ a3 
                  have a286 : f14 fa = some (.inr (2, [.int 0, .int (-1), .int 0, .ref ev])) := k16 _ _ a285 
                  have a287 : f20 fa = some (.inr (2, [.int 0, .int (-1), .int 0, .ref ev])) := k22 _ _ a286 
                  have a288 : f120 fa = some (.inr (2, [.int 0, .int (-1), .int 0, .ref ev])) := k122 _ _ a287 
                  have a289 : f131 fa = some (.inr (2, [.int 0, .int (-1), .int 0, .ref ev])) := k133 _ _ a288 
                  have a290 : f267 fa = some (.inr (2, [.int 0, .int (-1), .int 0, .ref ev])) := k269 _ _ a289 
                  have a291 : f274 fa = some (.inr (2, [.int 0, .int (-1), .int 0, .ref ev])) := k279 _ _ a290 (z_ne a290 a271 rfl) (z_neO a290 a273 rfl)
                  have a292 : f1 ev = some (.inl (cy 0, 8, .inl gv)) := k4 _ _ x_ev (z_ne x_ev x_fa rfl)
                  have a293 : f8 ev = some (.inl (cy 0, 8, .inl gv)) := k10 _ _ a292 
                  have a294 : f14 ev = some (.inl (cy 0, 8, .inl gv)) := k16 _ _ a293 
                  have a295 : f20 ev = some (.inl (cy 0, 8, .inl gv)) := k22 _ _ a294 
                  have a296 : f120 ev = some (.inl (cy 0, 8, .inl gv)) := k122 _ _ a295 
                  have a297 : f131 ev = some (.inl (cy 0, 8, .inl gv)) := k133 _ _ a296 
                  have a298 : f267 ev = some (.inl (cy 0, 8, .inl gv)) := k269 _ _ a297 
                  have a299 : f274 ev = some (.inl (cy 0, 8, .inl gv)) := k279 _ _ a298 (z_ne a298 a271 rfl) (z_neA a298 a273 rfl)
                  have a300 : f20 fi = some (.inr (5, [.ref al, .ref ra, .int (nI nn)])) := k22 _ _ a18 
                  have a301 : f120 fi = some (.inr (5, [.ref al, .ref ra, .int (nI nn)])) := k122 _ _ a300 
                  have a302 : f131 fi = some (.inr (5, [.ref al, .ref ra, .int (nI nn)])) := k133 _ _ a301 
                  have a303 : f267 fi = some (.inr (5, [.ref al, .ref ra, .int (nI nn)])) := k269 _ _ a302 
                  have a304 : f274 fi = some (.inr (5, [.ref al, .ref ra, .int (nI nn)])) := k279 _ _ a303 (z_ne a303 a271 rfl) (z_neO a303 a273 rfl)
                  have a305 : f20 al = some (.inl (cy 3, 60, .inr (.inr (.inr (.inr ga))))) := k22 _ _ a19 
                  have a306 : f120 al = some (.inl (cy 3, 60, .inr (.inr (.inr (.inr ga))))) := k122 _ _ a305 
                  have a307 : f131 al = some (.inl (cy 3, 60, .inr (.inr (.inr (.inr ga))))) := k133 _ _ a306 
                  have a308 : f267 al = some (.inl (cy 3, 60, .inr (.inr (.inr (.inr ga))))) := k269 _ _ a307 
                  have a309 : f274 al = some (.inl (cy 3, 60, .inr (.inr (.inr (.inr ga))))) := k279 _ _ a308 (z_ne a308 a271 rfl) (z_neA a308 a273 rfl)
                  have a310 : f1 ra = some (.inl (cy 3, 60, .inr (.inr (.inr (.inr gr))))) := k4 _ _ x_ra (z_ne x_ra x_fa rfl)
                  have a311 : f8 ra = some (.inl (cy 3, 60, .inr (.inr (.inr (.inr gr))))) := k10 _ _ a310 
                  have a312 : f14 ra = some (.inl (cy 3, 60, .inr (.inr (.inr (.inr gr))))) := k16 _ _ a311 
                  have a313 : f20 ra = some (.inl (cy 3, 60, .inr (.inr (.inr (.inr gr))))) := k22 _ _ a312 
                  have a314 : f120 ra = some (.inl (cy 3, 60, .inr (.inr (.inr (.inr gr))))) := k122 _ _ a313 
                  have a315 : f131 ra = some (.inl (cy 3, 60, .inr (.inr (.inr (.inr gr))))) := k133 _ _ a314 
                  have a316 : f267 ra = some (.inl (cy 3, 60, .inr (.inr (.inr (.inr gr))))) := k269 _ _ a315 
                  have a317 : f274 ra = some (.inl (cy 3, 60, .inr (.inr (.inr (.inr gr))))) := k279 _ _ a316 (z_ne a316 a271 rfl) (z_neA a316 a273 rfl)
                  have a318 : f1 nu = some (.inl (cy 0, 12, .inl gu)) := k4 _ _ x_nu (z_ne x_nu x_fa rfl)
                  have a319 : f8 nu = some (.inl (cy 0, 12, .inl gu)) := k10 _ _ a318 
                  have a320 : f14 nu = some (.inl (cy 0, 12, .inl gu)) := k16 _ _ a319 
                  have a321 : f20 nu = some (.inl (cy 0, 12, .inl gu)) := k22 _ _ a320 
                  have a322 : f120 nu = some (.inl (cy 0, 12, .inl gu)) := k122 _ _ a321 
                  have a323 : f131 nu = some (.inl (cy 0, 12, .inl gu)) := k133 _ _ a322 
                  have a324 : f267 nu = some (.inl (cy 0, 12, .inl gu)) := k269 _ _ a323 
                  have a325 : f274 nu = some (.inl (cy 0, 12, .inl gu)) := k279 _ _ a324 (z_ne a324 a271 rfl) (z_neA a324 a273 rfl)
                  have a326 : f1 fm = some (.inl (cy 4, 6, .inr (.inr (.inr (.inr gf))))) := k4 _ _ x_fm (z_ne x_fm x_fa rfl)
                  have a327 : f8 fm = some (.inl (cy 4, 6, .inr (.inr (.inr (.inr gf))))) := k10 _ _ a326 
                  have a328 : f14 fm = some (.inl (cy 4, 6, .inr (.inr (.inr (.inr gf))))) := k16 _ _ a327 
                  have a329 : f20 fm = some (.inl (cy 4, 6, .inr (.inr (.inr (.inr gf))))) := k22 _ _ a328 
                  have a330 : f120 fm = some (.inl (cy 4, 6, .inr (.inr (.inr (.inr gf))))) := k122 _ _ a329 
                  have a331 : f131 fm = some (.inl (cy 4, 6, .inr (.inr (.inr (.inr gf))))) := k133 _ _ a330 
                  have a332 : f267 fm = some (.inl (cy 4, 6, .inr (.inr (.inr (.inr gf))))) := k269 _ _ a331 
                  have a333 : f274 fm = some (.inl (cy 4, 6, .inr (.inr (.inr (.inr gf))))) := k279 _ _ a332 (z_ne a332 a271 rfl) (z_neA a332 a273 rfl)
                  have a334 : f1 co = some (.inl (cy 5, 60, .inr (.inr (.inr (.inr gc))))) := k4 _ _ x_co (z_ne x_co x_fa rfl)
                  have a335 : f8 co = some (.inl (cy 5, 60, .inr (.inr (.inr (.inr gc))))) := k10 _ _ a334 
                  have a336 : f14 co = some (.inl (cy 5, 60, .inr (.inr (.inr (.inr gc))))) := k16 _ _ a335 
                  have a337 : f20 co = some (.inl (cy 5, 60, .inr (.inr (.inr (.inr gc))))) := k22 _ _ a336 
                  have a338 : f120 co = some (.inl (cy 5, 60, .inr (.inr (.inr (.inr gc))))) := k122 _ _ a337 
                  have a339 : f131 co = some (.inl (cy 5, 60, .inr (.inr (.inr (.inr gc))))) := k133 _ _ a338 
                  have a340 : f267 co = some (.inl (cy 5, 60, .inr (.inr (.inr (.inr gc))))) := k269 _ _ a339 
                  have a341 : f274 co = some (.inl (cy 5, 60, .inr (.inr (.inr (.inr gc))))) := k279 _ _ a340 (z_ne a340 a271 rfl) (z_neA a340 a273 rfl)
                  have a342 : f1 en = some (.inl (cy 6, 4, .inr (.inr (.inr (.inr ge))))) := k4 _ _ x_en (z_ne x_en x_fa rfl)
                  have a343 : f8 en = some (.inl (cy 6, 4, .inr (.inr (.inr (.inr ge))))) := k10 _ _ a342 
                  have a344 : f14 en = some (.inl (cy 6, 4, .inr (.inr (.inr (.inr ge))))) := k16 _ _ a343 
                  have a345 : f20 en = some (.inl (cy 6, 4, .inr (.inr (.inr (.inr ge))))) := k22 _ _ a344 
                  have a346 : f120 en = some (.inl (cy 6, 4, .inr (.inr (.inr (.inr ge))))) := k122 _ _ a345 
                  have a347 : f131 en = some (.inl (cy 6, 4, .inr (.inr (.inr (.inr ge))))) := k133 _ _ a346 
                  have a348 : f267 en = some (.inl (cy 6, 4, .inr (.inr (.inr (.inr ge))))) := k269 _ _ a347 
                  have a349 : f274 en = some (.inl (cy 6, 4, .inr (.inr (.inr (.inr ge))))) := k279 _ _ a348 (z_ne a348 a271 rfl) (z_neA a348 a273 rfl)
                  have a350 : f1 ke = some (.inr (6, [.ref kn, .ref vq, .int (nI ks)])) := k4 _ _ x_ke (z_ne x_ke x_fa rfl)
                  have a351 : f8 ke = some (.inr (6, [.ref kn, .ref vq, .int (nI ks)])) := k10 _ _ a350 
                  have a352 : f14 ke = some (.inr (6, [.ref kn, .ref vq, .int (nI ks)])) := k16 _ _ a351 
                  have a353 : f20 ke = some (.inr (6, [.ref kn, .ref vq, .int (nI ks)])) := k22 _ _ a352 
                  have a354 : f120 ke = some (.inr (6, [.ref kn, .ref vq, .int (nI ks)])) := k122 _ _ a353 
                  have a355 : f131 ke = some (.inr (6, [.ref kn, .ref vq, .int (nI ks)])) := k133 _ _ a354 
                  have a356 : f267 ke = some (.inr (6, [.ref kn, .ref vq, .int (nI ks)])) := k269 _ _ a355 
                  have a357 : f274 ke = some (.inr (6, [.ref kn, .ref vq, .int (nI ks)])) := k279 _ _ a356 (z_ne a356 a271 rfl) (z_neO a356 a273 rfl)
                  have a358 : f1 kn = some (.inl (cy 0, 40, .inl kk)) := k4 _ _ x_kn (z_ne x_kn x_fa rfl)
                  have a359 : f8 kn = some (.inl (cy 0, 40, .inl kk)) := k10 _ _ a358 
                  have a360 : f14 kn = some (.inl (cy 0, 40, .inl kk)) := k16 _ _ a359 
                  have a361 : f20 kn = some (.inl (cy 0, 40, .inl kk)) := k22 _ _ a360 
                  have a362 : f120 kn = some (.inl (cy 0, 40, .inl kk)) := k122 _ _ a361 
                  have a363 : f131 kn = some (.inl (cy 0, 40, .inl kk)) := k133 _ _ a362 
                  have a364 : f267 kn = some (.inl (cy 0, 40, .inl kk)) := k269 _ _ a363 
                  have a365 : f274 kn = some (.inl (cy 0, 40, .inl kk)) := k279 _ _ a364 (z_ne a364 a271 rfl) (z_neA a364 a273 rfl)
                  have a366 : f1 vq = some (.inl (cy 0, 40, .inl kv)) := k4 _ _ x_vq (z_ne x_vq x_fa rfl)
                  have a367 : f8 vq = some (.inl (cy 0, 40, .inl kv)) := k10 _ _ a366 
                  have a368 : f14 vq = some (.inl (cy 0, 40, .inl kv)) := k16 _ _ a367 
                  have a369 : f20 vq = some (.inl (cy 0, 40, .inl kv)) := k22 _ _ a368 
                  have a370 : f120 vq = some (.inl (cy 0, 40, .inl kv)) := k122 _ _ a369 
                  have a371 : f131 vq = some (.inl (cy 0, 40, .inl kv)) := k133 _ _ a370 
                  have a372 : f267 vq = some (.inl (cy 0, 40, .inl kv)) := k269 _ _ a371 
                  have a373 : f274 vq = some (.inl (cy 0, 40, .inl kv)) := k279 _ _ a372 (z_ne a372 a271 rfl) (z_neA a372 a273 rfl)
                  have F374 : ∀ i9 : Nat, i9 < nn → f120 (fg i9) = some (.inr (4, [.int (kd i9), .ref (pt i9), .long (wg i9), .int (wd i9), .int (nI i9), .int (hs i9), .int (bf i9)])) := fun i9 h9 => k122 _ _ (F27 i9 h9) 
                  have F375 : ∀ i9 : Nat, i9 < nn → f131 (fg i9) = some (.inr (4, [.int (kd i9), .ref (pt i9), .long (wg i9), .int (wd i9), .int (nI i9), .int (hs i9), .int (bf i9)])) := fun i9 h9 => k133 _ _ (F374 i9 h9) 
                  have F376 : ∀ i9 : Nat, i9 < nn → f267 (fg i9) = some (.inr (4, [.int (kd i9), .ref (pt i9), .long (wg i9), .int (wd i9), .int (nI i9), .int (hs i9), .int (bf i9)])) := fun i9 h9 => k269 _ _ (F375 i9 h9) 
                  have F377 : ∀ i9 : Nat, i9 < nn → f274 (fg i9) = some (.inr (4, [.int (kd i9), .ref (pt i9), .long (va_up wg ja wg_276 i9), .int (wd i9), .int (nI i9), .int (hs i9), .int (bf i9)])) := z_famC (f := f) (T := fun i9 => .inr (4, [.int (kd i9), .ref (pt i9), .long (wg i9), .int (wd i9), .int (nI i9), .int (hs i9), .int (bf i9)])) (T' := fun i9 => .inr (4, [.int (kd i9), .ref (pt i9), .long (va_up wg ja wg_276 i9), .int (wd i9), .int (nI i9), .int (hs i9), .int (bf i9)])) hja (by simp only [va_up_self]; exact a277) (fun i9 h9 n9 => k279 _ _ (F376 i9 h9) n9 (z_neO (F376 i9 h9) a273 rfl)) (fun i9 h9 => by simp only [va_up_ne _ _ h9]) (fun i9 h9 => hfi i9 h9 ja hja)
                  have F378 : ∀ i9 : Nat, i9 < nn → f131 (pt i9) = some (.inl (cy 1, (ln i9), .inr (.inl (pp i9)))) := fun i9 h9 => k133 _ _ (F129 i9 h9) 
                  have F379 : ∀ i9 : Nat, i9 < nn → f267 (pt i9) = some (.inl (cy 1, (ln i9), .inr (.inl (pp i9)))) := fun i9 h9 => k269 _ _ (F378 i9 h9) 
                  have F380 : ∀ i9 : Nat, i9 < nn → f274 (pt i9) = some (.inl (cy 1, (ln i9), .inr (.inl (va_up pp ja (vp_updL (pp ja) (1 + kx) z.toInt64) i9)))) := z_famC (f := f) (T := fun i9 => .inl (cy 1, (ln i9), .inr (.inl (pp i9)))) (T' := fun i9 => .inl (cy 1, (ln i9), .inr (.inl (va_up pp ja (vp_updL (pp ja) (1 + kx) z.toInt64) i9)))) hja (by simp only [va_up_self]; exact a278) (fun i9 h9 n9 => k279 _ _ (F379 i9 h9) (z_neO (F379 i9 h9) a271 rfl) n9) (fun i9 h9 => by simp only [va_up_ne _ _ h9]) (fun i9 h9 => hpi i9 h9 ja hja)
                  have F381 : ∀ i9 : Nat, i9 < nf → f1 (fq i9) = some (.inr (3, [.ref (fk i9), .int (nI (fz i9))])) := fun i9 h9 => k4 _ _ (hFq i9 h9) (z_ne (hFq i9 h9) x_fa rfl)
                  have F382 : ∀ i9 : Nat, i9 < nf → f8 (fq i9) = some (.inr (3, [.ref (fk i9), .int (nI (fz i9))])) := fun i9 h9 => k10 _ _ (F381 i9 h9) 
                  have F383 : ∀ i9 : Nat, i9 < nf → f14 (fq i9) = some (.inr (3, [.ref (fk i9), .int (nI (fz i9))])) := fun i9 h9 => k16 _ _ (F382 i9 h9) 
                  have F384 : ∀ i9 : Nat, i9 < nf → f20 (fq i9) = some (.inr (3, [.ref (fk i9), .int (nI (fz i9))])) := fun i9 h9 => k22 _ _ (F383 i9 h9) 
                  have F385 : ∀ i9 : Nat, i9 < nf → f120 (fq i9) = some (.inr (3, [.ref (fk i9), .int (nI (fz i9))])) := fun i9 h9 => k122 _ _ (F384 i9 h9) 
                  have F386 : ∀ i9 : Nat, i9 < nf → f131 (fq i9) = some (.inr (3, [.ref (fk i9), .int (nI (fz i9))])) := fun i9 h9 => k133 _ _ (F385 i9 h9) 
                  have F387 : ∀ i9 : Nat, i9 < nf → f267 (fq i9) = some (.inr (3, [.ref (fk i9), .int (nI (fz i9))])) := fun i9 h9 => k269 _ _ (F386 i9 h9) 
                  have F388 : ∀ i9 : Nat, i9 < nf → f274 (fq i9) = some (.inr (3, [.ref (fk i9), .int (nI (fz i9))])) := fun i9 h9 => k279 _ _ (F387 i9 h9) (z_ne (F387 i9 h9) a271 rfl) (z_neO (F387 i9 h9) a273 rfl)
                  have F389 : ∀ i9 : Nat, i9 < nf → f1 (fk i9) = some (.inl (cy 0, 4, .inl (fc i9))) := fun i9 h9 => k4 _ _ (hFk i9 h9) (z_ne (hFk i9 h9) x_fa rfl)
                  have F390 : ∀ i9 : Nat, i9 < nf → f8 (fk i9) = some (.inl (cy 0, 4, .inl (fc i9))) := fun i9 h9 => k10 _ _ (F389 i9 h9) 
                  have F391 : ∀ i9 : Nat, i9 < nf → f14 (fk i9) = some (.inl (cy 0, 4, .inl (fc i9))) := fun i9 h9 => k16 _ _ (F390 i9 h9) 
                  have F392 : ∀ i9 : Nat, i9 < nf → f20 (fk i9) = some (.inl (cy 0, 4, .inl (fc i9))) := fun i9 h9 => k22 _ _ (F391 i9 h9) 
                  have F393 : ∀ i9 : Nat, i9 < nf → f120 (fk i9) = some (.inl (cy 0, 4, .inl (fc i9))) := fun i9 h9 => k122 _ _ (F392 i9 h9) 
                  have F394 : ∀ i9 : Nat, i9 < nf → f131 (fk i9) = some (.inl (cy 0, 4, .inl (fc i9))) := fun i9 h9 => k133 _ _ (F393 i9 h9) 
                  have F395 : ∀ i9 : Nat, i9 < nf → f267 (fk i9) = some (.inl (cy 0, 4, .inl (fc i9))) := fun i9 h9 => k269 _ _ (F394 i9 h9) 
                  have F396 : ∀ i9 : Nat, i9 < nf → f274 (fk i9) = some (.inl (cy 0, 4, .inl (fc i9))) := fun i9 h9 => k279 _ _ (F395 i9 h9) (z_ne (F395 i9 h9) a271 rfl) (z_neA (F395 i9 h9) a273 rfl)
                  have F397 : ∀ i9 : Nat, i9 < nc → f1 (cn i9) = some (.inr (0, [.int (ce i9), .int (cm i9)])) := fun i9 h9 => k4 _ _ (hCn i9 h9) (z_ne (hCn i9 h9) x_fa rfl)
                  have F398 : ∀ i9 : Nat, i9 < nc → f8 (cn i9) = some (.inr (0, [.int (ce i9), .int (cm i9)])) := fun i9 h9 => k10 _ _ (F397 i9 h9) 
                  have F399 : ∀ i9 : Nat, i9 < nc → f14 (cn i9) = some (.inr (0, [.int (ce i9), .int (cm i9)])) := fun i9 h9 => k16 _ _ (F398 i9 h9) 
                  have F400 : ∀ i9 : Nat, i9 < nc → f20 (cn i9) = some (.inr (0, [.int (ce i9), .int (cm i9)])) := fun i9 h9 => k22 _ _ (F399 i9 h9) 
                  have F401 : ∀ i9 : Nat, i9 < nc → f120 (cn i9) = some (.inr (0, [.int (ce i9), .int (cm i9)])) := fun i9 h9 => k122 _ _ (F400 i9 h9) 
                  have F402 : ∀ i9 : Nat, i9 < nc → f131 (cn i9) = some (.inr (0, [.int (ce i9), .int (cm i9)])) := fun i9 h9 => k133 _ _ (F401 i9 h9) 
                  have F403 : ∀ i9 : Nat, i9 < nc → f267 (cn i9) = some (.inr (0, [.int (ce i9), .int (cm i9)])) := fun i9 h9 => k269 _ _ (F402 i9 h9) 
                  have F404 : ∀ i9 : Nat, i9 < nc → f274 (cn i9) = some (.inr (0, [.int (ce i9), .int (cm i9)])) := fun i9 h9 => k279 _ _ (F403 i9 h9) (z_ne (F403 i9 h9) a271 rfl) (z_neO (F403 i9 h9) a273 rfl)
                  have F405 : ∀ i9 : Nat, i9 < 4 → f1 (ea i9) = some (.inr (1, [.ref (ma i9), .int (nI (sq i9))])) := fun i9 h9 => k4 _ _ (hEa i9 h9) (z_ne (hEa i9 h9) x_fa rfl)
                  have F406 : ∀ i9 : Nat, i9 < 4 → f8 (ea i9) = some (.inr (1, [.ref (ma i9), .int (nI (sq i9))])) := fun i9 h9 => k10 _ _ (F405 i9 h9) 
                  have F407 : ∀ i9 : Nat, i9 < 4 → f14 (ea i9) = some (.inr (1, [.ref (ma i9), .int (nI (sq i9))])) := fun i9 h9 => k16 _ _ (F406 i9 h9) 
                  have F408 : ∀ i9 : Nat, i9 < 4 → f20 (ea i9) = some (.inr (1, [.ref (ma i9), .int (nI (sq i9))])) := fun i9 h9 => k22 _ _ (F407 i9 h9) 
                  have F409 : ∀ i9 : Nat, i9 < 4 → f120 (ea i9) = some (.inr (1, [.ref (ma i9), .int (nI (sq i9))])) := fun i9 h9 => k122 _ _ (F408 i9 h9) 
                  have F410 : ∀ i9 : Nat, i9 < 4 → f131 (ea i9) = some (.inr (1, [.ref (ma i9), .int (nI (sq i9))])) := fun i9 h9 => k133 _ _ (F409 i9 h9) 
                  have F411 : ∀ i9 : Nat, i9 < 4 → f267 (ea i9) = some (.inr (1, [.ref (ma i9), .int (nI (sq i9))])) := fun i9 h9 => k269 _ _ (F410 i9 h9) 
                  have F412 : ∀ i9 : Nat, i9 < 4 → f274 (ea i9) = some (.inr (1, [.ref (ma i9), .int (nI (sq i9))])) := fun i9 h9 => k279 _ _ (F411 i9 h9) (z_ne (F411 i9 h9) a271 rfl) (z_neO (F411 i9 h9) a273 rfl)
                  have F413 : ∀ i9 : Nat, i9 < 4 → f1 (ma i9) = some (.inl (cy 0, 60, .inl (mb i9))) := fun i9 h9 => k4 _ _ (hMa i9 h9) (z_ne (hMa i9 h9) x_fa rfl)
                  have F414 : ∀ i9 : Nat, i9 < 4 → f8 (ma i9) = some (.inl (cy 0, 60, .inl (mb i9))) := fun i9 h9 => k10 _ _ (F413 i9 h9) 
                  have F415 : ∀ i9 : Nat, i9 < 4 → f14 (ma i9) = some (.inl (cy 0, 60, .inl (mb i9))) := fun i9 h9 => k16 _ _ (F414 i9 h9) 
                  have F416 : ∀ i9 : Nat, i9 < 4 → f20 (ma i9) = some (.inl (cy 0, 60, .inl (mb i9))) := fun i9 h9 => k22 _ _ (F415 i9 h9) 
                  have F417 : ∀ i9 : Nat, i9 < 4 → f120 (ma i9) = some (.inl (cy 0, 60, .inl (mb i9))) := fun i9 h9 => k122 _ _ (F416 i9 h9) 
                  have F418 : ∀ i9 : Nat, i9 < 4 → f131 (ma i9) = some (.inl (cy 0, 60, .inl (mb i9))) := fun i9 h9 => k133 _ _ (F417 i9 h9) 
                  have F419 : ∀ i9 : Nat, i9 < 4 → f267 (ma i9) = some (.inl (cy 0, 60, .inl (mb i9))) := fun i9 h9 => k269 _ _ (F418 i9 h9) 
                  have F420 : ∀ i9 : Nat, i9 < 4 → f274 (ma i9) = some (.inl (cy 0, 60, .inl (mb i9))) := fun i9 h9 => k279 _ _ (F419 i9 h9) (z_ne (F419 i9 h9) a271 rfl) (z_neA (F419 i9 h9) a273 rfl)
                  have hq : q_set nn kd ln wd x y z = (1, 0, (-1), 0) := by simp [q_set, oF_m1 nn, hFa, hIa, hNa, hFb, hIb, hNb, hOc, hSa, hPa, hIy, hT, c23, c29, c123, c134, c136, c270]
                  exact z_iret C hr rfl hz hS ⟨0, (-1), 0, gv, nl, gu, nn, ga, gr, fg, pt, kd, ln, (va_up pp ja (vp_updL (pp ja) (1 + kx) z.toInt64)), (va_up wg ja wg_276), wd, hs, bf, nf, gf, fq, fk, fz, fc, nc, gc, cn, ce, cm, sq, mb, ks, kk, kv, lk, (by rw [hq]), (by rw [hq]), (by rw [hq]), (by rw [hq]), (by rw [hq]; exact (zEV0 gv).symm), rfl, rfl, rfl, rfl, rfl, (by rw [if_pos rfl, hIa, hIy]), rfl, rfl, rfl, rfl, rfl, rfl, rfl, rfl, rfl, rfl, rfl, rfl, rfl, rfl, ⟨a284, a291, a299, a304, a309, a317, a325, a333, a341, a349, a357, a365, a373, F377, F380, F388, F396, F404, F412, F420, hn60, hl12, hf6, hc60, hs40, hga, hgr, hln, hk5, hk4, hfi, hpi, har, hgf, hfz, hgc, hG, hsq, hei, hmi, kne, hca, hcr, hlk⟩⟩ (Nat.le_of_ble_eq_true rfl) (Nat.le_of_ble_eq_true rfl) dX7_set_138
                · have hT : ¬ kd jb = 2 := fun h9 => isOf_f c270 (Or.inl h9)
                  have hS1 : kd jb = 1 := hSa.resolve_right hT
                  refine lv_aload_n hx hb dX7_set_121 rfl (lv_at hl 2 rfl) ?_
                  have a421 : f20 o = some (.inr (7, [.ref fa, .ref fi, .ref nu, .int (nI nl), .ref fm, .int (nI nf), .ref co, .int (nI nc), .ref en, .ref ke, .long lk])) := k22 _ _ a17 
                  have a422 : f120 o = some (.inr (7, [.ref fa, .ref fi, .ref nu, .int (nI nl), .ref fm, .int (nI nf), .ref co, .int (nI nc), .ref en, .ref ke, .long lk])) := k122 _ _ a421 
                  have a423 : f131 o = some (.inr (7, [.ref fa, .ref fi, .ref nu, .int (nI nl), .ref fm, .int (nI nf), .ref co, .int (nI nc), .ref en, .ref ke, .long lk])) := k133 _ _ a422 
                  have a424 : f267 o = some (.inr (7, [.ref fa, .ref fi, .ref nu, .int (nI nl), .ref fm, .int (nI nf), .ref co, .int (nI nc), .ref en, .ref ke, .long lk])) := k269 _ _ a423 
                  refine z_get (v := .ref fa) C hz a424 zl7 mFX7_10 (by decide) rfl dX7_set_122 ?_
                  refine lv_iconst (v := 4) hx hb dX7_set_125 (by decide) ?_
                  have a425 : f8 fa = some (.inr (2, [.int 0, .int (-1), .int 0, .ref ev])) := k10 _ _ a3 
                  have a426 : f14 fa = some (.inr (2, [.int 0, .int (-1), .int 0, .ref ev])) := k16 _ _ a425 
                  have a427 : f20 fa = some (.inr (2, [.int 0, .int (-1), .int 0, .ref ev])) := k22 _ _ a426 
                  have a428 : f120 fa = some (.inr (2, [.int 0, .int (-1), .int 0, .ref ev])) := k122 _ _ a427 
                  have a429 : f131 fa = some (.inr (2, [.int 0, .int (-1), .int 0, .ref ev])) := k133 _ _ a428 
                  have a430 : f267 fa = some (.inr (2, [.int 0, .int (-1), .int 0, .ref ev])) := k269 _ _ a429 
                  have a431 : f1 ev = some (.inl (cy 0, 8, .inl gv)) := k4 _ _ x_ev (z_ne x_ev x_fa rfl)
                  have a432 : f8 ev = some (.inl (cy 0, 8, .inl gv)) := k10 _ _ a431 
                  have a433 : f14 ev = some (.inl (cy 0, 8, .inl gv)) := k16 _ _ a432 
                  have a434 : f20 ev = some (.inl (cy 0, 8, .inl gv)) := k22 _ _ a433 
                  have a435 : f120 ev = some (.inl (cy 0, 8, .inl gv)) := k122 _ _ a434 
                  have a436 : f131 ev = some (.inl (cy 0, 8, .inl gv)) := k133 _ _ a435 
                  have a437 : f267 ev = some (.inl (cy 0, 8, .inl gv)) := k269 _ _ a436 
                  refine z_callVi (As := [.int 4]) C hz hS hA hl (k_X2_inNoPart l D cy f267 fa 4 0 (-1) 0 ev gv 4 a430 a437 (by decide) (Nat.le_of_ble_eq_true rfl)) zyX2_inNoPart mMX7_140 a430 zl2 rfl rfl (Nat.le_of_ble_eq_true rfl) ⟨Nat.le_of_ble_eq_true rfl, Nat.le_of_ble_eq_true rfl⟩ ⟨Nat.le_of_ble_eq_true rfl, Nat.le_of_ble_eq_true rfl⟩ dX7_set_126 (fun r f438 H locs h439 hz hS => ?_)
                  obtain ⟨rfl, a440, a441, k442⟩ := h439
                  have a443 : f438 o = some (.inr (7, [.ref fa, .ref fi, .ref nu, .int (nI nl), .ref fm, .int (nI nf), .ref co, .int (nI nc), .ref en, .ref ke, .long lk])) := k442 _ _ a424 (z_ne a424 a430 rfl) (z_ne a424 a437 rfl)
                  have a444 : f20 fi = some (.inr (5, [.ref al, .ref ra, .int (nI nn)])) := k22 _ _ a18 
                  have a445 : f120 fi = some (.inr (5, [.ref al, .ref ra, .int (nI nn)])) := k122 _ _ a444 
                  have a446 : f131 fi = some (.inr (5, [.ref al, .ref ra, .int (nI nn)])) := k133 _ _ a445 
                  have a447 : f267 fi = some (.inr (5, [.ref al, .ref ra, .int (nI nn)])) := k269 _ _ a446 
                  have a448 : f438 fi = some (.inr (5, [.ref al, .ref ra, .int (nI nn)])) := k442 _ _ a447 (z_ne a447 a430 rfl) (z_ne a447 a437 rfl)
                  have a449 : f20 al = some (.inl (cy 3, 60, .inr (.inr (.inr (.inr ga))))) := k22 _ _ a19 
                  have a450 : f120 al = some (.inl (cy 3, 60, .inr (.inr (.inr (.inr ga))))) := k122 _ _ a449 
                  have a451 : f131 al = some (.inl (cy 3, 60, .inr (.inr (.inr (.inr ga))))) := k133 _ _ a450 
                  have a452 : f267 al = some (.inl (cy 3, 60, .inr (.inr (.inr (.inr ga))))) := k269 _ _ a451 
                  have a453 : f438 al = some (.inl (cy 3, 60, .inr (.inr (.inr (.inr ga))))) := k442 _ _ a452 (z_ne a452 a430 rfl) (z_ne a452 a437 rfl)
                  have a454 : f1 ra = some (.inl (cy 3, 60, .inr (.inr (.inr (.inr gr))))) := k4 _ _ x_ra (z_ne x_ra x_fa rfl)
                  have a455 : f8 ra = some (.inl (cy 3, 60, .inr (.inr (.inr (.inr gr))))) := k10 _ _ a454 
                  have a456 : f14 ra = some (.inl (cy 3, 60, .inr (.inr (.inr (.inr gr))))) := k16 _ _ a455 
                  have a457 : f20 ra = some (.inl (cy 3, 60, .inr (.inr (.inr (.inr gr))))) := k22 _ _ a456 
                  have a458 : f120 ra = some (.inl (cy 3, 60, .inr (.inr (.inr (.inr gr))))) := k122 _ _ a457 
                  have a459 : f131 ra = some (.inl (cy 3, 60, .inr (.inr (.inr (.inr gr))))) := k133 _ _ a458 
                  have a460 : f267 ra = some (.inl (cy 3, 60, .inr (.inr (.inr (.inr gr))))) := k269 _ _ a459 
                  have a461 : f438 ra = some (.inl (cy 3, 60, .inr (.inr (.inr (.inr gr))))) := k442 _ _ a460 (z_ne a460 a430 rfl) (z_ne a460 a437 rfl)
                  have a462 : f1 nu = some (.inl (cy 0, 12, .inl gu)) := k4 _ _ x_nu (z_ne x_nu x_fa rfl)
                  have a463 : f8 nu = some (.inl (cy 0, 12, .inl gu)) := k10 _ _ a462 
                  have a464 : f14 nu = some (.inl (cy 0, 12, .inl gu)) := k16 _ _ a463 
                  have a465 : f20 nu = some (.inl (cy 0, 12, .inl gu)) := k22 _ _ a464 
                  have a466 : f120 nu = some (.inl (cy 0, 12, .inl gu)) := k122 _ _ a465 
                  have a467 : f131 nu = some (.inl (cy 0, 12, .inl gu)) := k133 _ _ a466 
                  have a468 : f267 nu = some (.inl (cy 0, 12, .inl gu)) := k269 _ _ a467 
                  have a469 : f438 nu = some (.inl (cy 0, 12, .inl gu)) := k442 _ _ a468 (z_ne a468 a430 rfl) (z_ne a468 a437 rfl)
                  have a470 : f1 fm = some (.inl (cy 4, 6, .inr (.inr (.inr (.inr gf))))) := k4 _ _ x_fm (z_ne x_fm x_fa rfl)
                  have a471 : f8 fm = some (.inl (cy 4, 6, .inr (.inr (.inr (.inr gf))))) := k10 _ _ a470 
                  have a472 : f14 fm = some (.inl (cy 4, 6, .inr (.inr (.inr (.inr gf))))) := k16 _ _ a471 
                  have a473 : f20 fm = some (.inl (cy 4, 6, .inr (.inr (.inr (.inr gf))))) := k22 _ _ a472 
                  have a474 : f120 fm = some (.inl (cy 4, 6, .inr (.inr (.inr (.inr gf))))) := k122 _ _ a473 
                  have a475 : f131 fm = some (.inl (cy 4, 6, .inr (.inr (.inr (.inr gf))))) := k133 _ _ a474 
                  have a476 : f267 fm = some (.inl (cy 4, 6, .inr (.inr (.inr (.inr gf))))) := k269 _ _ a475 
                  have a477 : f438 fm = some (.inl (cy 4, 6, .inr (.inr (.inr (.inr gf))))) := k442 _ _ a476 (z_ne a476 a430 rfl) (z_ne a476 a437 rfl)
                  have a478 : f1 co = some (.inl (cy 5, 60, .inr (.inr (.inr (.inr gc))))) := k4 _ _ x_co (z_ne x_co x_fa rfl)
                  have a479 : f8 co = some (.inl (cy 5, 60, .inr (.inr (.inr (.inr gc))))) := k10 _ _ a478 
                  have a480 : f14 co = some (.inl (cy 5, 60, .inr (.inr (.inr (.inr gc))))) := k16 _ _ a479 
                  have a481 : f20 co = some (.inl (cy 5, 60, .inr (.inr (.inr (.inr gc))))) := k22 _ _ a480 
                  have a482 : f120 co = some (.inl (cy 5, 60, .inr (.inr (.inr (.inr gc))))) := k122 _ _ a481 
                  have a483 : f131 co = some (.inl (cy 5, 60, .inr (.inr (.inr (.inr gc))))) := k133 _ _ a482 
                  have a484 : f267 co = some (.inl (cy 5, 60, .inr (.inr (.inr (.inr gc))))) := k269 _ _ a483 
                  have a485 : f438 co = some (.inl (cy 5, 60, .inr (.inr (.inr (.inr gc))))) := k442 _ _ a484 (z_ne a484 a430 rfl) (z_ne a484 a437 rfl)
                  have a486 : f1 en = some (.inl (cy 6, 4, .inr (.inr (.inr (.inr ge))))) := k4 _ _ x_en (z_ne x_en x_fa rfl)
                  have a487 : f8 en = some (.inl (cy 6, 4, .inr (.inr (.inr (.inr ge))))) := k10 _ _ a486 
                  have a488 : f14 en = some (.inl (cy 6, 4, .inr (.inr (.inr (.inr ge))))) := k16 _ _ a487 
                  have a489 : f20 en = some (.inl (cy 6, 4, .inr (.inr (.inr (.inr ge))))) := k22 _ _ a488 
                  have a490 : f120 en = some (.inl (cy 6, 4, .inr (.inr (.inr (.inr ge))))) := k122 _ _ a489 
                  have a491 : f131 en = some (.inl (cy 6, 4, .inr (.inr (.inr (.inr ge))))) := k133 _ _ a490 
                  have a492 : f267 en = some (.inl (cy 6, 4, .inr (.inr (.inr (.inr ge))))) := k269 _ _ a491 
                  have a493 : f438 en = some (.inl (cy 6, 4, .inr (.inr (.inr (.inr ge))))) := k442 _ _ a492 (z_ne a492 a430 rfl) (z_ne a492 a437 rfl)
                  have a494 : f1 ke = some (.inr (6, [.ref kn, .ref vq, .int (nI ks)])) := k4 _ _ x_ke (z_ne x_ke x_fa rfl)
                  have a495 : f8 ke = some (.inr (6, [.ref kn, .ref vq, .int (nI ks)])) := k10 _ _ a494 
                  have a496 : f14 ke = some (.inr (6, [.ref kn, .ref vq, .int (nI ks)])) := k16 _ _ a495 
                  have a497 : f20 ke = some (.inr (6, [.ref kn, .ref vq, .int (nI ks)])) := k22 _ _ a496 
                  have a498 : f120 ke = some (.inr (6, [.ref kn, .ref vq, .int (nI ks)])) := k122 _ _ a497 
                  have a499 : f131 ke = some (.inr (6, [.ref kn, .ref vq, .int (nI ks)])) := k133 _ _ a498 
                  have a500 : f267 ke = some (.inr (6, [.ref kn, .ref vq, .int (nI ks)])) := k269 _ _ a499 
                  have a501 : f438 ke = some (.inr (6, [.ref kn, .ref vq, .int (nI ks)])) := k442 _ _ a500 (z_ne a500 a430 rfl) (z_ne a500 a437 rfl)
                  have a502 : f1 kn = some (.inl (cy 0, 40, .inl kk)) := k4 _ _ x_kn (z_ne x_kn x_fa rfl)
                  have a503 : f8 kn = some (.inl (cy 0, 40, .inl kk)) := k10 _ _ a502 
                  have a504 : f14 kn = some (.inl (cy 0, 40, .inl kk)) := k16 _ _ a503 
                  have a505 : f20 kn = some (.inl (cy 0, 40, .inl kk)) := k22 _ _ a504 
                  have a506 : f120 kn = some (.inl (cy 0, 40, .inl kk)) := k122 _ _ a505 
                  have a507 : f131 kn = some (.inl (cy 0, 40, .inl kk)) := k133 _ _ a506 
                  have a508 : f267 kn = some (.inl (cy 0, 40, .inl kk)) := k269 _ _ a507 
                  have a509 : f438 kn = some (.inl (cy 0, 40, .inl kk)) := k442 _ _ a508 (z_ne a508 a430 rfl) (z_ne a508 a437 rfl)
                  have a510 : f1 vq = some (.inl (cy 0, 40, .inl kv)) := k4 _ _ x_vq (z_ne x_vq x_fa rfl)
                  have a511 : f8 vq = some (.inl (cy 0, 40, .inl kv)) := k10 _ _ a510 
                  have a512 : f14 vq = some (.inl (cy 0, 40, .inl kv)) := k16 _ _ a511 
                  have a513 : f20 vq = some (.inl (cy 0, 40, .inl kv)) := k22 _ _ a512 
                  have a514 : f120 vq = some (.inl (cy 0, 40, .inl kv)) := k122 _ _ a513 
                  have a515 : f131 vq = some (.inl (cy 0, 40, .inl kv)) := k133 _ _ a514 
                  have a516 : f267 vq = some (.inl (cy 0, 40, .inl kv)) := k269 _ _ a515 
                  have a517 : f438 vq = some (.inl (cy 0, 40, .inl kv)) := k442 _ _ a516 (z_ne a516 a430 rfl) (z_ne a516 a437 rfl)
                  have F518 : ∀ i9 : Nat, i9 < nn → f120 (fg i9) = some (.inr (4, [.int (kd i9), .ref (pt i9), .long (wg i9), .int (wd i9), .int (nI i9), .int (hs i9), .int (bf i9)])) := fun i9 h9 => k122 _ _ (F27 i9 h9) 
                  have F519 : ∀ i9 : Nat, i9 < nn → f131 (fg i9) = some (.inr (4, [.int (kd i9), .ref (pt i9), .long (wg i9), .int (wd i9), .int (nI i9), .int (hs i9), .int (bf i9)])) := fun i9 h9 => k133 _ _ (F518 i9 h9) 
                  have F520 : ∀ i9 : Nat, i9 < nn → f267 (fg i9) = some (.inr (4, [.int (kd i9), .ref (pt i9), .long (wg i9), .int (wd i9), .int (nI i9), .int (hs i9), .int (bf i9)])) := fun i9 h9 => k269 _ _ (F519 i9 h9) 
                  have F521 : ∀ i9 : Nat, i9 < nn → f438 (fg i9) = some (.inr (4, [.int (kd i9), .ref (pt i9), .long (wg i9), .int (wd i9), .int (nI i9), .int (hs i9), .int (bf i9)])) := fun i9 h9 => k442 _ _ (F520 i9 h9) (z_ne (F520 i9 h9) a430 rfl) (z_ne (F520 i9 h9) a437 rfl)
                  have F522 : ∀ i9 : Nat, i9 < nn → f131 (pt i9) = some (.inl (cy 1, (ln i9), .inr (.inl (pp i9)))) := fun i9 h9 => k133 _ _ (F129 i9 h9) 
                  have F523 : ∀ i9 : Nat, i9 < nn → f267 (pt i9) = some (.inl (cy 1, (ln i9), .inr (.inl (pp i9)))) := fun i9 h9 => k269 _ _ (F522 i9 h9) 
                  have F524 : ∀ i9 : Nat, i9 < nn → f438 (pt i9) = some (.inl (cy 1, (ln i9), .inr (.inl (pp i9)))) := fun i9 h9 => k442 _ _ (F523 i9 h9) (z_neO (F523 i9 h9) a430 rfl) (z_neA (F523 i9 h9) a437 rfl)
                  have F525 : ∀ i9 : Nat, i9 < nf → f1 (fq i9) = some (.inr (3, [.ref (fk i9), .int (nI (fz i9))])) := fun i9 h9 => k4 _ _ (hFq i9 h9) (z_ne (hFq i9 h9) x_fa rfl)
                  have F526 : ∀ i9 : Nat, i9 < nf → f8 (fq i9) = some (.inr (3, [.ref (fk i9), .int (nI (fz i9))])) := fun i9 h9 => k10 _ _ (F525 i9 h9) 
                  have F527 : ∀ i9 : Nat, i9 < nf → f14 (fq i9) = some (.inr (3, [.ref (fk i9), .int (nI (fz i9))])) := fun i9 h9 => k16 _ _ (F526 i9 h9) 
                  have F528 : ∀ i9 : Nat, i9 < nf → f20 (fq i9) = some (.inr (3, [.ref (fk i9), .int (nI (fz i9))])) := fun i9 h9 => k22 _ _ (F527 i9 h9) 
                  have F529 : ∀ i9 : Nat, i9 < nf → f120 (fq i9) = some (.inr (3, [.ref (fk i9), .int (nI (fz i9))])) := fun i9 h9 => k122 _ _ (F528 i9 h9) 
                  have F530 : ∀ i9 : Nat, i9 < nf → f131 (fq i9) = some (.inr (3, [.ref (fk i9), .int (nI (fz i9))])) := fun i9 h9 => k133 _ _ (F529 i9 h9) 
                  have F531 : ∀ i9 : Nat, i9 < nf → f267 (fq i9) = some (.inr (3, [.ref (fk i9), .int (nI (fz i9))])) := fun i9 h9 => k269 _ _ (F530 i9 h9) 
                  have F532 : ∀ i9 : Nat, i9 < nf → f438 (fq i9) = some (.inr (3, [.ref (fk i9), .int (nI (fz i9))])) := fun i9 h9 => k442 _ _ (F531 i9 h9) (z_ne (F531 i9 h9) a430 rfl) (z_ne (F531 i9 h9) a437 rfl)
                  have F533 : ∀ i9 : Nat, i9 < nf → f1 (fk i9) = some (.inl (cy 0, 4, .inl (fc i9))) := fun i9 h9 => k4 _ _ (hFk i9 h9) (z_ne (hFk i9 h9) x_fa rfl)
                  have F534 : ∀ i9 : Nat, i9 < nf → f8 (fk i9) = some (.inl (cy 0, 4, .inl (fc i9))) := fun i9 h9 => k10 _ _ (F533 i9 h9) 
                  have F535 : ∀ i9 : Nat, i9 < nf → f14 (fk i9) = some (.inl (cy 0, 4, .inl (fc i9))) := fun i9 h9 => k16 _ _ (F534 i9 h9) 
                  have F536 : ∀ i9 : Nat, i9 < nf → f20 (fk i9) = some (.inl (cy 0, 4, .inl (fc i9))) := fun i9 h9 => k22 _ _ (F535 i9 h9) 
                  have F537 : ∀ i9 : Nat, i9 < nf → f120 (fk i9) = some (.inl (cy 0, 4, .inl (fc i9))) := fun i9 h9 => k122 _ _ (F536 i9 h9) 
                  have F538 : ∀ i9 : Nat, i9 < nf → f131 (fk i9) = some (.inl (cy 0, 4, .inl (fc i9))) := fun i9 h9 => k133 _ _ (F537 i9 h9) 
                  have F539 : ∀ i9 : Nat, i9 < nf → f267 (fk i9) = some (.inl (cy 0, 4, .inl (fc i9))) := fun i9 h9 => k269 _ _ (F538 i9 h9) 
                  have F540 : ∀ i9 : Nat, i9 < nf → f438 (fk i9) = some (.inl (cy 0, 4, .inl (fc i9))) := fun i9 h9 => k442 _ _ (F539 i9 h9) (z_ne (F539 i9 h9) a430 rfl) (z_ne (F539 i9 h9) a437 rfl)
                  have F541 : ∀ i9 : Nat, i9 < nc → f1 (cn i9) = some (.inr (0, [.int (ce i9), .int (cm i9)])) := fun i9 h9 => k4 _ _ (hCn i9 h9) (z_ne (hCn i9 h9) x_fa rfl)
                  have F542 : ∀ i9 : Nat, i9 < nc → f8 (cn i9) = some (.inr (0, [.int (ce i9), .int (cm i9)])) := fun i9 h9 => k10 _ _ (F541 i9 h9) 
                  have F543 : ∀ i9 : Nat, i9 < nc → f14 (cn i9) = some (.inr (0, [.int (ce i9), .int (cm i9)])) := fun i9 h9 => k16 _ _ (F542 i9 h9) 
                  have F544 : ∀ i9 : Nat, i9 < nc → f20 (cn i9) = some (.inr (0, [.int (ce i9), .int (cm i9)])) := fun i9 h9 => k22 _ _ (F543 i9 h9) 
                  have F545 : ∀ i9 : Nat, i9 < nc → f120 (cn i9) = some (.inr (0, [.int (ce i9), .int (cm i9)])) := fun i9 h9 => k122 _ _ (F544 i9 h9) 
                  have F546 : ∀ i9 : Nat, i9 < nc → f131 (cn i9) = some (.inr (0, [.int (ce i9), .int (cm i9)])) := fun i9 h9 => k133 _ _ (F545 i9 h9) 
                  have F547 : ∀ i9 : Nat, i9 < nc → f267 (cn i9) = some (.inr (0, [.int (ce i9), .int (cm i9)])) := fun i9 h9 => k269 _ _ (F546 i9 h9) 
                  have F548 : ∀ i9 : Nat, i9 < nc → f438 (cn i9) = some (.inr (0, [.int (ce i9), .int (cm i9)])) := fun i9 h9 => k442 _ _ (F547 i9 h9) (z_ne (F547 i9 h9) a430 rfl) (z_ne (F547 i9 h9) a437 rfl)
                  have F549 : ∀ i9 : Nat, i9 < 4 → f1 (ea i9) = some (.inr (1, [.ref (ma i9), .int (nI (sq i9))])) := fun i9 h9 => k4 _ _ (hEa i9 h9) (z_ne (hEa i9 h9) x_fa rfl)
                  have F550 : ∀ i9 : Nat, i9 < 4 → f8 (ea i9) = some (.inr (1, [.ref (ma i9), .int (nI (sq i9))])) := fun i9 h9 => k10 _ _ (F549 i9 h9) 
                  have F551 : ∀ i9 : Nat, i9 < 4 → f14 (ea i9) = some (.inr (1, [.ref (ma i9), .int (nI (sq i9))])) := fun i9 h9 => k16 _ _ (F550 i9 h9) 
                  have F552 : ∀ i9 : Nat, i9 < 4 → f20 (ea i9) = some (.inr (1, [.ref (ma i9), .int (nI (sq i9))])) := fun i9 h9 => k22 _ _ (F551 i9 h9) 
                  have F553 : ∀ i9 : Nat, i9 < 4 → f120 (ea i9) = some (.inr (1, [.ref (ma i9), .int (nI (sq i9))])) := fun i9 h9 => k122 _ _ (F552 i9 h9) 
                  have F554 : ∀ i9 : Nat, i9 < 4 → f131 (ea i9) = some (.inr (1, [.ref (ma i9), .int (nI (sq i9))])) := fun i9 h9 => k133 _ _ (F553 i9 h9) 
                  have F555 : ∀ i9 : Nat, i9 < 4 → f267 (ea i9) = some (.inr (1, [.ref (ma i9), .int (nI (sq i9))])) := fun i9 h9 => k269 _ _ (F554 i9 h9) 
                  have F556 : ∀ i9 : Nat, i9 < 4 → f438 (ea i9) = some (.inr (1, [.ref (ma i9), .int (nI (sq i9))])) := fun i9 h9 => k442 _ _ (F555 i9 h9) (z_ne (F555 i9 h9) a430 rfl) (z_ne (F555 i9 h9) a437 rfl)
                  have F557 : ∀ i9 : Nat, i9 < 4 → f1 (ma i9) = some (.inl (cy 0, 60, .inl (mb i9))) := fun i9 h9 => k4 _ _ (hMa i9 h9) (z_ne (hMa i9 h9) x_fa rfl)
                  have F558 : ∀ i9 : Nat, i9 < 4 → f8 (ma i9) = some (.inl (cy 0, 60, .inl (mb i9))) := fun i9 h9 => k10 _ _ (F557 i9 h9) 
                  have F559 : ∀ i9 : Nat, i9 < 4 → f14 (ma i9) = some (.inl (cy 0, 60, .inl (mb i9))) := fun i9 h9 => k16 _ _ (F558 i9 h9) 
                  have F560 : ∀ i9 : Nat, i9 < 4 → f20 (ma i9) = some (.inl (cy 0, 60, .inl (mb i9))) := fun i9 h9 => k22 _ _ (F559 i9 h9) 
                  have F561 : ∀ i9 : Nat, i9 < 4 → f120 (ma i9) = some (.inl (cy 0, 60, .inl (mb i9))) := fun i9 h9 => k122 _ _ (F560 i9 h9) 
                  have F562 : ∀ i9 : Nat, i9 < 4 → f131 (ma i9) = some (.inl (cy 0, 60, .inl (mb i9))) := fun i9 h9 => k133 _ _ (F561 i9 h9) 
                  have F563 : ∀ i9 : Nat, i9 < 4 → f267 (ma i9) = some (.inl (cy 0, 60, .inl (mb i9))) := fun i9 h9 => k269 _ _ (F562 i9 h9) 
                  have F564 : ∀ i9 : Nat, i9 < 4 → f438 (ma i9) = some (.inl (cy 0, 60, .inl (mb i9))) := fun i9 h9 => k442 _ _ (F563 i9 h9) (z_ne (F563 i9 h9) a430 rfl) (z_ne (F563 i9 h9) a437 rfl)
                  have hq : q_set nn kd ln wd x y z = ((-4), 4, (-1), 0) := by simp [q_set, oF_m1 nn, hFa, hIa, hNa, hFb, hIb, hNb, hOc, hSa, hPa, hIy, hT, hS1, c23, c29, c123, c134, c136, c270]
                  exact z_iret C hr rfl hz hS ⟨4, (-1), 0, (upd gv 4 (gv 4 + 1)), nl, gu, nn, ga, gr, fg, pt, kd, ln, pp, wg, wd, hs, bf, nf, gf, fq, fk, fz, fc, nc, gc, cn, ce, cm, sq, mb, ks, kk, kv, lk, (by rw [hq]), (by rw [hq]), (by rw [hq]), (by rw [hq]), (by rw [hq]; exact (zEV4 gv).symm), rfl, rfl, rfl, rfl, rfl, (by rw [if_neg (by decide)]), rfl, rfl, rfl, rfl, rfl, rfl, rfl, rfl, rfl, rfl, rfl, rfl, rfl, rfl, ⟨a443, a440, a441, a448, a453, a461, a469, a477, a485, a493, a501, a509, a517, F521, F524, F532, F540, F548, F556, F564, hn60, hl12, hf6, hc60, hs40, hga, hgr, hln, hk5, hk4, hfi, hpi, har, hgf, hfz, hgc, hG, hsq, hei, hmi, kne, hca, hcr, hlk⟩⟩ (Nat.le_of_ble_eq_true rfl) (Nat.le_of_ble_eq_true rfl) dX7_set_129
            · have hPa : isP (ln ja) y = false := isP_f c134
              refine lv_aload_n hx hb dX7_set_90 rfl (lv_at hl 2 rfl) ?_
              have a565 : f20 o = some (.inr (7, [.ref fa, .ref fi, .ref nu, .int (nI nl), .ref fm, .int (nI nf), .ref co, .int (nI nc), .ref en, .ref ke, .long lk])) := k22 _ _ a17 
              have a566 : f120 o = some (.inr (7, [.ref fa, .ref fi, .ref nu, .int (nI nl), .ref fm, .int (nI nf), .ref co, .int (nI nc), .ref en, .ref ke, .long lk])) := k122 _ _ a565 
              have a567 : f131 o = some (.inr (7, [.ref fa, .ref fi, .ref nu, .int (nI nl), .ref fm, .int (nI nf), .ref co, .int (nI nc), .ref en, .ref ke, .long lk])) := k133 _ _ a566 
              refine z_get (v := .ref fa) C hz a567 zl7 mFX7_10 (by decide) rfl dX7_set_91 ?_
              refine lv_iconst (v := 2) hx hb dX7_set_94 (by decide) ?_
              have a568 : f8 fa = some (.inr (2, [.int 0, .int (-1), .int 0, .ref ev])) := k10 _ _ a3 
              have a569 : f14 fa = some (.inr (2, [.int 0, .int (-1), .int 0, .ref ev])) := k16 _ _ a568 
              have a570 : f20 fa = some (.inr (2, [.int 0, .int (-1), .int 0, .ref ev])) := k22 _ _ a569 
              have a571 : f120 fa = some (.inr (2, [.int 0, .int (-1), .int 0, .ref ev])) := k122 _ _ a570 
              have a572 : f131 fa = some (.inr (2, [.int 0, .int (-1), .int 0, .ref ev])) := k133 _ _ a571 
              have a573 : f1 ev = some (.inl (cy 0, 8, .inl gv)) := k4 _ _ x_ev (z_ne x_ev x_fa rfl)
              have a574 : f8 ev = some (.inl (cy 0, 8, .inl gv)) := k10 _ _ a573 
              have a575 : f14 ev = some (.inl (cy 0, 8, .inl gv)) := k16 _ _ a574 
              have a576 : f20 ev = some (.inl (cy 0, 8, .inl gv)) := k22 _ _ a575 
              have a577 : f120 ev = some (.inl (cy 0, 8, .inl gv)) := k122 _ _ a576 
              have a578 : f131 ev = some (.inl (cy 0, 8, .inl gv)) := k133 _ _ a577 
              refine z_callVi (As := [.int 2]) C hz hS hA hl (k_X2_inNoPart l D cy f131 fa 2 0 (-1) 0 ev gv 2 a572 a578 (by decide) (Nat.le_of_ble_eq_true rfl)) zyX2_inNoPart mMX7_140 a572 zl2 rfl rfl (Nat.le_of_ble_eq_true rfl) ⟨Nat.le_of_ble_eq_true rfl, Nat.le_of_ble_eq_true rfl⟩ ⟨Nat.le_of_ble_eq_true rfl, Nat.le_of_ble_eq_true rfl⟩ dX7_set_95 (fun r f579 H locs h580 hz hS => ?_)
              obtain ⟨rfl, a581, a582, k583⟩ := h580
              have a584 : f579 o = some (.inr (7, [.ref fa, .ref fi, .ref nu, .int (nI nl), .ref fm, .int (nI nf), .ref co, .int (nI nc), .ref en, .ref ke, .long lk])) := k583 _ _ a567 (z_ne a567 a572 rfl) (z_ne a567 a578 rfl)
              have a585 : f20 fi = some (.inr (5, [.ref al, .ref ra, .int (nI nn)])) := k22 _ _ a18 
              have a586 : f120 fi = some (.inr (5, [.ref al, .ref ra, .int (nI nn)])) := k122 _ _ a585 
              have a587 : f131 fi = some (.inr (5, [.ref al, .ref ra, .int (nI nn)])) := k133 _ _ a586 
              have a588 : f579 fi = some (.inr (5, [.ref al, .ref ra, .int (nI nn)])) := k583 _ _ a587 (z_ne a587 a572 rfl) (z_ne a587 a578 rfl)
              have a589 : f20 al = some (.inl (cy 3, 60, .inr (.inr (.inr (.inr ga))))) := k22 _ _ a19 
              have a590 : f120 al = some (.inl (cy 3, 60, .inr (.inr (.inr (.inr ga))))) := k122 _ _ a589 
              have a591 : f131 al = some (.inl (cy 3, 60, .inr (.inr (.inr (.inr ga))))) := k133 _ _ a590 
              have a592 : f579 al = some (.inl (cy 3, 60, .inr (.inr (.inr (.inr ga))))) := k583 _ _ a591 (z_ne a591 a572 rfl) (z_ne a591 a578 rfl)
              have a593 : f1 ra = some (.inl (cy 3, 60, .inr (.inr (.inr (.inr gr))))) := k4 _ _ x_ra (z_ne x_ra x_fa rfl)
              have a594 : f8 ra = some (.inl (cy 3, 60, .inr (.inr (.inr (.inr gr))))) := k10 _ _ a593 
              have a595 : f14 ra = some (.inl (cy 3, 60, .inr (.inr (.inr (.inr gr))))) := k16 _ _ a594 
              have a596 : f20 ra = some (.inl (cy 3, 60, .inr (.inr (.inr (.inr gr))))) := k22 _ _ a595 
              have a597 : f120 ra = some (.inl (cy 3, 60, .inr (.inr (.inr (.inr gr))))) := k122 _ _ a596 
              have a598 : f131 ra = some (.inl (cy 3, 60, .inr (.inr (.inr (.inr gr))))) := k133 _ _ a597 
              have a599 : f579 ra = some (.inl (cy 3, 60, .inr (.inr (.inr (.inr gr))))) := k583 _ _ a598 (z_ne a598 a572 rfl) (z_ne a598 a578 rfl)
              have a600 : f1 nu = some (.inl (cy 0, 12, .inl gu)) := k4 _ _ x_nu (z_ne x_nu x_fa rfl)
              have a601 : f8 nu = some (.inl (cy 0, 12, .inl gu)) := k10 _ _ a600 
              have a602 : f14 nu = some (.inl (cy 0, 12, .inl gu)) := k16 _ _ a601 
              have a603 : f20 nu = some (.inl (cy 0, 12, .inl gu)) := k22 _ _ a602 
              have a604 : f120 nu = some (.inl (cy 0, 12, .inl gu)) := k122 _ _ a603 
              have a605 : f131 nu = some (.inl (cy 0, 12, .inl gu)) := k133 _ _ a604 
              have a606 : f579 nu = some (.inl (cy 0, 12, .inl gu)) := k583 _ _ a605 (z_ne a605 a572 rfl) (z_ne a605 a578 rfl)
              have a607 : f1 fm = some (.inl (cy 4, 6, .inr (.inr (.inr (.inr gf))))) := k4 _ _ x_fm (z_ne x_fm x_fa rfl)
              have a608 : f8 fm = some (.inl (cy 4, 6, .inr (.inr (.inr (.inr gf))))) := k10 _ _ a607 
              have a609 : f14 fm = some (.inl (cy 4, 6, .inr (.inr (.inr (.inr gf))))) := k16 _ _ a608 
              have a610 : f20 fm = some (.inl (cy 4, 6, .inr (.inr (.inr (.inr gf))))) := k22 _ _ a609 
              have a611 : f120 fm = some (.inl (cy 4, 6, .inr (.inr (.inr (.inr gf))))) := k122 _ _ a610 
              have a612 : f131 fm = some (.inl (cy 4, 6, .inr (.inr (.inr (.inr gf))))) := k133 _ _ a611 
              have a613 : f579 fm = some (.inl (cy 4, 6, .inr (.inr (.inr (.inr gf))))) := k583 _ _ a612 (z_ne a612 a572 rfl) (z_ne a612 a578 rfl)
              have a614 : f1 co = some (.inl (cy 5, 60, .inr (.inr (.inr (.inr gc))))) := k4 _ _ x_co (z_ne x_co x_fa rfl)
              have a615 : f8 co = some (.inl (cy 5, 60, .inr (.inr (.inr (.inr gc))))) := k10 _ _ a614 
              have a616 : f14 co = some (.inl (cy 5, 60, .inr (.inr (.inr (.inr gc))))) := k16 _ _ a615 
              have a617 : f20 co = some (.inl (cy 5, 60, .inr (.inr (.inr (.inr gc))))) := k22 _ _ a616 
              have a618 : f120 co = some (.inl (cy 5, 60, .inr (.inr (.inr (.inr gc))))) := k122 _ _ a617 
              have a619 : f131 co = some (.inl (cy 5, 60, .inr (.inr (.inr (.inr gc))))) := k133 _ _ a618 
              have a620 : f579 co = some (.inl (cy 5, 60, .inr (.inr (.inr (.inr gc))))) := k583 _ _ a619 (z_ne a619 a572 rfl) (z_ne a619 a578 rfl)
              have a621 : f1 en = some (.inl (cy 6, 4, .inr (.inr (.inr (.inr ge))))) := k4 _ _ x_en (z_ne x_en x_fa rfl)
              have a622 : f8 en = some (.inl (cy 6, 4, .inr (.inr (.inr (.inr ge))))) := k10 _ _ a621 
              have a623 : f14 en = some (.inl (cy 6, 4, .inr (.inr (.inr (.inr ge))))) := k16 _ _ a622 
              have a624 : f20 en = some (.inl (cy 6, 4, .inr (.inr (.inr (.inr ge))))) := k22 _ _ a623 
              have a625 : f120 en = some (.inl (cy 6, 4, .inr (.inr (.inr (.inr ge))))) := k122 _ _ a624 
              have a626 : f131 en = some (.inl (cy 6, 4, .inr (.inr (.inr (.inr ge))))) := k133 _ _ a625 
              have a627 : f579 en = some (.inl (cy 6, 4, .inr (.inr (.inr (.inr ge))))) := k583 _ _ a626 (z_ne a626 a572 rfl) (z_ne a626 a578 rfl)
              have a628 : f1 ke = some (.inr (6, [.ref kn, .ref vq, .int (nI ks)])) := k4 _ _ x_ke (z_ne x_ke x_fa rfl)
              have a629 : f8 ke = some (.inr (6, [.ref kn, .ref vq, .int (nI ks)])) := k10 _ _ a628 
              have a630 : f14 ke = some (.inr (6, [.ref kn, .ref vq, .int (nI ks)])) := k16 _ _ a629 
              have a631 : f20 ke = some (.inr (6, [.ref kn, .ref vq, .int (nI ks)])) := k22 _ _ a630 
              have a632 : f120 ke = some (.inr (6, [.ref kn, .ref vq, .int (nI ks)])) := k122 _ _ a631 
              have a633 : f131 ke = some (.inr (6, [.ref kn, .ref vq, .int (nI ks)])) := k133 _ _ a632 
              have a634 : f579 ke = some (.inr (6, [.ref kn, .ref vq, .int (nI ks)])) := k583 _ _ a633 (z_ne a633 a572 rfl) (z_ne a633 a578 rfl)
              have a635 : f1 kn = some (.inl (cy 0, 40, .inl kk)) := k4 _ _ x_kn (z_ne x_kn x_fa rfl)
              have a636 : f8 kn = some (.inl (cy 0, 40, .inl kk)) := k10 _ _ a635 
              have a637 : f14 kn = some (.inl (cy 0, 40, .inl kk)) := k16 _ _ a636 
              have a638 : f20 kn = some (.inl (cy 0, 40, .inl kk)) := k22 _ _ a637 
              have a639 : f120 kn = some (.inl (cy 0, 40, .inl kk)) := k122 _ _ a638 
              have a640 : f131 kn = some (.inl (cy 0, 40, .inl kk)) := k133 _ _ a639 
              have a641 : f579 kn = some (.inl (cy 0, 40, .inl kk)) := k583 _ _ a640 (z_ne a640 a572 rfl) (z_ne a640 a578 rfl)
              have a642 : f1 vq = some (.inl (cy 0, 40, .inl kv)) := k4 _ _ x_vq (z_ne x_vq x_fa rfl)
              have a643 : f8 vq = some (.inl (cy 0, 40, .inl kv)) := k10 _ _ a642 
              have a644 : f14 vq = some (.inl (cy 0, 40, .inl kv)) := k16 _ _ a643 
              have a645 : f20 vq = some (.inl (cy 0, 40, .inl kv)) := k22 _ _ a644 
              have a646 : f120 vq = some (.inl (cy 0, 40, .inl kv)) := k122 _ _ a645 
              have a647 : f131 vq = some (.inl (cy 0, 40, .inl kv)) := k133 _ _ a646 
              have a648 : f579 vq = some (.inl (cy 0, 40, .inl kv)) := k583 _ _ a647 (z_ne a647 a572 rfl) (z_ne a647 a578 rfl)
              have F649 : ∀ i9 : Nat, i9 < nn → f120 (fg i9) = some (.inr (4, [.int (kd i9), .ref (pt i9), .long (wg i9), .int (wd i9), .int (nI i9), .int (hs i9), .int (bf i9)])) := fun i9 h9 => k122 _ _ (F27 i9 h9) 
              have F650 : ∀ i9 : Nat, i9 < nn → f131 (fg i9) = some (.inr (4, [.int (kd i9), .ref (pt i9), .long (wg i9), .int (wd i9), .int (nI i9), .int (hs i9), .int (bf i9)])) := fun i9 h9 => k133 _ _ (F649 i9 h9) 
              have F651 : ∀ i9 : Nat, i9 < nn → f579 (fg i9) = some (.inr (4, [.int (kd i9), .ref (pt i9), .long (wg i9), .int (wd i9), .int (nI i9), .int (hs i9), .int (bf i9)])) := fun i9 h9 => k583 _ _ (F650 i9 h9) (z_ne (F650 i9 h9) a572 rfl) (z_ne (F650 i9 h9) a578 rfl)
              have F652 : ∀ i9 : Nat, i9 < nn → f131 (pt i9) = some (.inl (cy 1, (ln i9), .inr (.inl (pp i9)))) := fun i9 h9 => k133 _ _ (F129 i9 h9) 
              have F653 : ∀ i9 : Nat, i9 < nn → f579 (pt i9) = some (.inl (cy 1, (ln i9), .inr (.inl (pp i9)))) := fun i9 h9 => k583 _ _ (F652 i9 h9) (z_neO (F652 i9 h9) a572 rfl) (z_neA (F652 i9 h9) a578 rfl)
              have F654 : ∀ i9 : Nat, i9 < nf → f1 (fq i9) = some (.inr (3, [.ref (fk i9), .int (nI (fz i9))])) := fun i9 h9 => k4 _ _ (hFq i9 h9) (z_ne (hFq i9 h9) x_fa rfl)
              have F655 : ∀ i9 : Nat, i9 < nf → f8 (fq i9) = some (.inr (3, [.ref (fk i9), .int (nI (fz i9))])) := fun i9 h9 => k10 _ _ (F654 i9 h9) 
              have F656 : ∀ i9 : Nat, i9 < nf → f14 (fq i9) = some (.inr (3, [.ref (fk i9), .int (nI (fz i9))])) := fun i9 h9 => k16 _ _ (F655 i9 h9) 
              have F657 : ∀ i9 : Nat, i9 < nf → f20 (fq i9) = some (.inr (3, [.ref (fk i9), .int (nI (fz i9))])) := fun i9 h9 => k22 _ _ (F656 i9 h9) 
              have F658 : ∀ i9 : Nat, i9 < nf → f120 (fq i9) = some (.inr (3, [.ref (fk i9), .int (nI (fz i9))])) := fun i9 h9 => k122 _ _ (F657 i9 h9) 
              have F659 : ∀ i9 : Nat, i9 < nf → f131 (fq i9) = some (.inr (3, [.ref (fk i9), .int (nI (fz i9))])) := fun i9 h9 => k133 _ _ (F658 i9 h9) 
              have F660 : ∀ i9 : Nat, i9 < nf → f579 (fq i9) = some (.inr (3, [.ref (fk i9), .int (nI (fz i9))])) := fun i9 h9 => k583 _ _ (F659 i9 h9) (z_ne (F659 i9 h9) a572 rfl) (z_ne (F659 i9 h9) a578 rfl)
              have F661 : ∀ i9 : Nat, i9 < nf → f1 (fk i9) = some (.inl (cy 0, 4, .inl (fc i9))) := fun i9 h9 => k4 _ _ (hFk i9 h9) (z_ne (hFk i9 h9) x_fa rfl)
              have F662 : ∀ i9 : Nat, i9 < nf → f8 (fk i9) = some (.inl (cy 0, 4, .inl (fc i9))) := fun i9 h9 => k10 _ _ (F661 i9 h9) 
              have F663 : ∀ i9 : Nat, i9 < nf → f14 (fk i9) = some (.inl (cy 0, 4, .inl (fc i9))) := fun i9 h9 => k16 _ _ (F662 i9 h9) 
              have F664 : ∀ i9 : Nat, i9 < nf → f20 (fk i9) = some (.inl (cy 0, 4, .inl (fc i9))) := fun i9 h9 => k22 _ _ (F663 i9 h9) 
              have F665 : ∀ i9 : Nat, i9 < nf → f120 (fk i9) = some (.inl (cy 0, 4, .inl (fc i9))) := fun i9 h9 => k122 _ _ (F664 i9 h9) 
              have F666 : ∀ i9 : Nat, i9 < nf → f131 (fk i9) = some (.inl (cy 0, 4, .inl (fc i9))) := fun i9 h9 => k133 _ _ (F665 i9 h9) 
              have F667 : ∀ i9 : Nat, i9 < nf → f579 (fk i9) = some (.inl (cy 0, 4, .inl (fc i9))) := fun i9 h9 => k583 _ _ (F666 i9 h9) (z_ne (F666 i9 h9) a572 rfl) (z_ne (F666 i9 h9) a578 rfl)
              have F668 : ∀ i9 : Nat, i9 < nc → f1 (cn i9) = some (.inr (0, [.int (ce i9), .int (cm i9)])) := fun i9 h9 => k4 _ _ (hCn i9 h9) (z_ne (hCn i9 h9) x_fa rfl)
              have F669 : ∀ i9 : Nat, i9 < nc → f8 (cn i9) = some (.inr (0, [.int (ce i9), .int (cm i9)])) := fun i9 h9 => k10 _ _ (F668 i9 h9) 
              have F670 : ∀ i9 : Nat, i9 < nc → f14 (cn i9) = some (.inr (0, [.int (ce i9), .int (cm i9)])) := fun i9 h9 => k16 _ _ (F669 i9 h9) 
              have F671 : ∀ i9 : Nat, i9 < nc → f20 (cn i9) = some (.inr (0, [.int (ce i9), .int (cm i9)])) := fun i9 h9 => k22 _ _ (F670 i9 h9) 
              have F672 : ∀ i9 : Nat, i9 < nc → f120 (cn i9) = some (.inr (0, [.int (ce i9), .int (cm i9)])) := fun i9 h9 => k122 _ _ (F671 i9 h9) 
              have F673 : ∀ i9 : Nat, i9 < nc → f131 (cn i9) = some (.inr (0, [.int (ce i9), .int (cm i9)])) := fun i9 h9 => k133 _ _ (F672 i9 h9) 
              have F674 : ∀ i9 : Nat, i9 < nc → f579 (cn i9) = some (.inr (0, [.int (ce i9), .int (cm i9)])) := fun i9 h9 => k583 _ _ (F673 i9 h9) (z_ne (F673 i9 h9) a572 rfl) (z_ne (F673 i9 h9) a578 rfl)
              have F675 : ∀ i9 : Nat, i9 < 4 → f1 (ea i9) = some (.inr (1, [.ref (ma i9), .int (nI (sq i9))])) := fun i9 h9 => k4 _ _ (hEa i9 h9) (z_ne (hEa i9 h9) x_fa rfl)
              have F676 : ∀ i9 : Nat, i9 < 4 → f8 (ea i9) = some (.inr (1, [.ref (ma i9), .int (nI (sq i9))])) := fun i9 h9 => k10 _ _ (F675 i9 h9) 
              have F677 : ∀ i9 : Nat, i9 < 4 → f14 (ea i9) = some (.inr (1, [.ref (ma i9), .int (nI (sq i9))])) := fun i9 h9 => k16 _ _ (F676 i9 h9) 
              have F678 : ∀ i9 : Nat, i9 < 4 → f20 (ea i9) = some (.inr (1, [.ref (ma i9), .int (nI (sq i9))])) := fun i9 h9 => k22 _ _ (F677 i9 h9) 
              have F679 : ∀ i9 : Nat, i9 < 4 → f120 (ea i9) = some (.inr (1, [.ref (ma i9), .int (nI (sq i9))])) := fun i9 h9 => k122 _ _ (F678 i9 h9) 
              have F680 : ∀ i9 : Nat, i9 < 4 → f131 (ea i9) = some (.inr (1, [.ref (ma i9), .int (nI (sq i9))])) := fun i9 h9 => k133 _ _ (F679 i9 h9) 
              have F681 : ∀ i9 : Nat, i9 < 4 → f579 (ea i9) = some (.inr (1, [.ref (ma i9), .int (nI (sq i9))])) := fun i9 h9 => k583 _ _ (F680 i9 h9) (z_ne (F680 i9 h9) a572 rfl) (z_ne (F680 i9 h9) a578 rfl)
              have F682 : ∀ i9 : Nat, i9 < 4 → f1 (ma i9) = some (.inl (cy 0, 60, .inl (mb i9))) := fun i9 h9 => k4 _ _ (hMa i9 h9) (z_ne (hMa i9 h9) x_fa rfl)
              have F683 : ∀ i9 : Nat, i9 < 4 → f8 (ma i9) = some (.inl (cy 0, 60, .inl (mb i9))) := fun i9 h9 => k10 _ _ (F682 i9 h9) 
              have F684 : ∀ i9 : Nat, i9 < 4 → f14 (ma i9) = some (.inl (cy 0, 60, .inl (mb i9))) := fun i9 h9 => k16 _ _ (F683 i9 h9) 
              have F685 : ∀ i9 : Nat, i9 < 4 → f20 (ma i9) = some (.inl (cy 0, 60, .inl (mb i9))) := fun i9 h9 => k22 _ _ (F684 i9 h9) 
              have F686 : ∀ i9 : Nat, i9 < 4 → f120 (ma i9) = some (.inl (cy 0, 60, .inl (mb i9))) := fun i9 h9 => k122 _ _ (F685 i9 h9) 
              have F687 : ∀ i9 : Nat, i9 < 4 → f131 (ma i9) = some (.inl (cy 0, 60, .inl (mb i9))) := fun i9 h9 => k133 _ _ (F686 i9 h9) 
              have F688 : ∀ i9 : Nat, i9 < 4 → f579 (ma i9) = some (.inl (cy 0, 60, .inl (mb i9))) := fun i9 h9 => k583 _ _ (F687 i9 h9) (z_ne (F687 i9 h9) a572 rfl) (z_ne (F687 i9 h9) a578 rfl)
              have hq : q_set nn kd ln wd x y z = ((-4), 2, (-1), 0) := by simp [q_set, oF_m1 nn, hFa, hIa, hNa, hFb, hIb, hNb, hOc, hSa, hPa, c23, c29, c123, c134]
              exact z_iret C hr rfl hz hS ⟨2, (-1), 0, (upd gv 2 (gv 2 + 1)), nl, gu, nn, ga, gr, fg, pt, kd, ln, pp, wg, wd, hs, bf, nf, gf, fq, fk, fz, fc, nc, gc, cn, ce, cm, sq, mb, ks, kk, kv, lk, (by rw [hq]), (by rw [hq]), (by rw [hq]), (by rw [hq]), (by rw [hq]; exact (zEV2 gv).symm), rfl, rfl, rfl, rfl, rfl, (by rw [if_neg (by decide)]), rfl, rfl, rfl, rfl, rfl, rfl, rfl, rfl, rfl, rfl, rfl, rfl, rfl, rfl, ⟨a584, a581, a582, a588, a592, a599, a606, a613, a620, a627, a634, a641, a648, F651, F653, F660, F667, F674, F681, F688, hn60, hl12, hf6, hc60, hs40, hga, hgr, hln, hk5, hk4, hfi, hpi, har, hgf, hfz, hgc, hG, hsq, hei, hmi, kne, hca, hcr, hlk⟩⟩ (Nat.le_of_ble_eq_true rfl) (Nat.le_of_ble_eq_true rfl) dX7_set_98
          · have hS1 : ¬ kd jb = 1 := fun h9 => isOf_f c123 (Or.inl h9)
            have hS2 : ¬ kd jb = 2 := fun h9 => isOf_f c123 (Or.inr ⟨h9, rfl⟩)
            refine lv_aload_n hx hb dX7_set_72 rfl (lv_at hl 2 rfl) ?_
            have a689 : f20 o = some (.inr (7, [.ref fa, .ref fi, .ref nu, .int (nI nl), .ref fm, .int (nI nf), .ref co, .int (nI nc), .ref en, .ref ke, .long lk])) := k22 _ _ a17 
            have a690 : f120 o = some (.inr (7, [.ref fa, .ref fi, .ref nu, .int (nI nl), .ref fm, .int (nI nf), .ref co, .int (nI nc), .ref en, .ref ke, .long lk])) := k122 _ _ a689 
            refine z_get (v := .ref fa) C hz a690 zl7 mFX7_10 (by decide) rfl dX7_set_73 ?_
            refine lv_iconst (v := 3) hx hb dX7_set_76 (by decide) ?_
            have a691 : f8 fa = some (.inr (2, [.int 0, .int (-1), .int 0, .ref ev])) := k10 _ _ a3 
            have a692 : f14 fa = some (.inr (2, [.int 0, .int (-1), .int 0, .ref ev])) := k16 _ _ a691 
            have a693 : f20 fa = some (.inr (2, [.int 0, .int (-1), .int 0, .ref ev])) := k22 _ _ a692 
            have a694 : f120 fa = some (.inr (2, [.int 0, .int (-1), .int 0, .ref ev])) := k122 _ _ a693 
            have a695 : f1 ev = some (.inl (cy 0, 8, .inl gv)) := k4 _ _ x_ev (z_ne x_ev x_fa rfl)
            have a696 : f8 ev = some (.inl (cy 0, 8, .inl gv)) := k10 _ _ a695 
            have a697 : f14 ev = some (.inl (cy 0, 8, .inl gv)) := k16 _ _ a696 
            have a698 : f20 ev = some (.inl (cy 0, 8, .inl gv)) := k22 _ _ a697 
            have a699 : f120 ev = some (.inl (cy 0, 8, .inl gv)) := k122 _ _ a698 
            refine z_callVi (As := [.int 3]) C hz hS hA hl (k_X2_inNoPart l D cy f120 fa 3 0 (-1) 0 ev gv 3 a694 a699 (by decide) (Nat.le_of_ble_eq_true rfl)) zyX2_inNoPart mMX7_140 a694 zl2 rfl rfl (Nat.le_of_ble_eq_true rfl) ⟨Nat.le_of_ble_eq_true rfl, Nat.le_of_ble_eq_true rfl⟩ ⟨Nat.le_of_ble_eq_true rfl, Nat.le_of_ble_eq_true rfl⟩ dX7_set_77 (fun r f700 H locs h701 hz hS => ?_)
            obtain ⟨rfl, a702, a703, k704⟩ := h701
            have a705 : f700 o = some (.inr (7, [.ref fa, .ref fi, .ref nu, .int (nI nl), .ref fm, .int (nI nf), .ref co, .int (nI nc), .ref en, .ref ke, .long lk])) := k704 _ _ a690 (z_ne a690 a694 rfl) (z_ne a690 a699 rfl)
            have a706 : f20 fi = some (.inr (5, [.ref al, .ref ra, .int (nI nn)])) := k22 _ _ a18 
            have a707 : f120 fi = some (.inr (5, [.ref al, .ref ra, .int (nI nn)])) := k122 _ _ a706 
            have a708 : f700 fi = some (.inr (5, [.ref al, .ref ra, .int (nI nn)])) := k704 _ _ a707 (z_ne a707 a694 rfl) (z_ne a707 a699 rfl)
            have a709 : f20 al = some (.inl (cy 3, 60, .inr (.inr (.inr (.inr ga))))) := k22 _ _ a19 
            have a710 : f120 al = some (.inl (cy 3, 60, .inr (.inr (.inr (.inr ga))))) := k122 _ _ a709 
            have a711 : f700 al = some (.inl (cy 3, 60, .inr (.inr (.inr (.inr ga))))) := k704 _ _ a710 (z_ne a710 a694 rfl) (z_ne a710 a699 rfl)
            have a712 : f1 ra = some (.inl (cy 3, 60, .inr (.inr (.inr (.inr gr))))) := k4 _ _ x_ra (z_ne x_ra x_fa rfl)
            have a713 : f8 ra = some (.inl (cy 3, 60, .inr (.inr (.inr (.inr gr))))) := k10 _ _ a712 
            have a714 : f14 ra = some (.inl (cy 3, 60, .inr (.inr (.inr (.inr gr))))) := k16 _ _ a713 
            have a715 : f20 ra = some (.inl (cy 3, 60, .inr (.inr (.inr (.inr gr))))) := k22 _ _ a714 
            have a716 : f120 ra = some (.inl (cy 3, 60, .inr (.inr (.inr (.inr gr))))) := k122 _ _ a715 
            have a717 : f700 ra = some (.inl (cy 3, 60, .inr (.inr (.inr (.inr gr))))) := k704 _ _ a716 (z_ne a716 a694 rfl) (z_ne a716 a699 rfl)
            have a718 : f1 nu = some (.inl (cy 0, 12, .inl gu)) := k4 _ _ x_nu (z_ne x_nu x_fa rfl)
            have a719 : f8 nu = some (.inl (cy 0, 12, .inl gu)) := k10 _ _ a718 
            have a720 : f14 nu = some (.inl (cy 0, 12, .inl gu)) := k16 _ _ a719 
            have a721 : f20 nu = some (.inl (cy 0, 12, .inl gu)) := k22 _ _ a720 
            have a722 : f120 nu = some (.inl (cy 0, 12, .inl gu)) := k122 _ _ a721 
            have a723 : f700 nu = some (.inl (cy 0, 12, .inl gu)) := k704 _ _ a722 (z_ne a722 a694 rfl) (z_ne a722 a699 rfl)
            have a724 : f1 fm = some (.inl (cy 4, 6, .inr (.inr (.inr (.inr gf))))) := k4 _ _ x_fm (z_ne x_fm x_fa rfl)
            have a725 : f8 fm = some (.inl (cy 4, 6, .inr (.inr (.inr (.inr gf))))) := k10 _ _ a724 
            have a726 : f14 fm = some (.inl (cy 4, 6, .inr (.inr (.inr (.inr gf))))) := k16 _ _ a725 
            have a727 : f20 fm = some (.inl (cy 4, 6, .inr (.inr (.inr (.inr gf))))) := k22 _ _ a726 
            have a728 : f120 fm = some (.inl (cy 4, 6, .inr (.inr (.inr (.inr gf))))) := k122 _ _ a727 
            have a729 : f700 fm = some (.inl (cy 4, 6, .inr (.inr (.inr (.inr gf))))) := k704 _ _ a728 (z_ne a728 a694 rfl) (z_ne a728 a699 rfl)
            have a730 : f1 co = some (.inl (cy 5, 60, .inr (.inr (.inr (.inr gc))))) := k4 _ _ x_co (z_ne x_co x_fa rfl)
            have a731 : f8 co = some (.inl (cy 5, 60, .inr (.inr (.inr (.inr gc))))) := k10 _ _ a730 
            have a732 : f14 co = some (.inl (cy 5, 60, .inr (.inr (.inr (.inr gc))))) := k16 _ _ a731 
            have a733 : f20 co = some (.inl (cy 5, 60, .inr (.inr (.inr (.inr gc))))) := k22 _ _ a732 
            have a734 : f120 co = some (.inl (cy 5, 60, .inr (.inr (.inr (.inr gc))))) := k122 _ _ a733 
            have a735 : f700 co = some (.inl (cy 5, 60, .inr (.inr (.inr (.inr gc))))) := k704 _ _ a734 (z_ne a734 a694 rfl) (z_ne a734 a699 rfl)
            have a736 : f1 en = some (.inl (cy 6, 4, .inr (.inr (.inr (.inr ge))))) := k4 _ _ x_en (z_ne x_en x_fa rfl)
            have a737 : f8 en = some (.inl (cy 6, 4, .inr (.inr (.inr (.inr ge))))) := k10 _ _ a736 
            have a738 : f14 en = some (.inl (cy 6, 4, .inr (.inr (.inr (.inr ge))))) := k16 _ _ a737 
            have a739 : f20 en = some (.inl (cy 6, 4, .inr (.inr (.inr (.inr ge))))) := k22 _ _ a738 
            have a740 : f120 en = some (.inl (cy 6, 4, .inr (.inr (.inr (.inr ge))))) := k122 _ _ a739 
            have a741 : f700 en = some (.inl (cy 6, 4, .inr (.inr (.inr (.inr ge))))) := k704 _ _ a740 (z_ne a740 a694 rfl) (z_ne a740 a699 rfl)
            have a742 : f1 ke = some (.inr (6, [.ref kn, .ref vq, .int (nI ks)])) := k4 _ _ x_ke (z_ne x_ke x_fa rfl)
            have a743 : f8 ke = some (.inr (6, [.ref kn, .ref vq, .int (nI ks)])) := k10 _ _ a742 
            have a744 : f14 ke = some (.inr (6, [.ref kn, .ref vq, .int (nI ks)])) := k16 _ _ a743 
            have a745 : f20 ke = some (.inr (6, [.ref kn, .ref vq, .int (nI ks)])) := k22 _ _ a744 
            have a746 : f120 ke = some (.inr (6, [.ref kn, .ref vq, .int (nI ks)])) := k122 _ _ a745 
            have a747 : f700 ke = some (.inr (6, [.ref kn, .ref vq, .int (nI ks)])) := k704 _ _ a746 (z_ne a746 a694 rfl) (z_ne a746 a699 rfl)
            have a748 : f1 kn = some (.inl (cy 0, 40, .inl kk)) := k4 _ _ x_kn (z_ne x_kn x_fa rfl)
            have a749 : f8 kn = some (.inl (cy 0, 40, .inl kk)) := k10 _ _ a748 
            have a750 : f14 kn = some (.inl (cy 0, 40, .inl kk)) := k16 _ _ a749 
            have a751 : f20 kn = some (.inl (cy 0, 40, .inl kk)) := k22 _ _ a750 
            have a752 : f120 kn = some (.inl (cy 0, 40, .inl kk)) := k122 _ _ a751 
            have a753 : f700 kn = some (.inl (cy 0, 40, .inl kk)) := k704 _ _ a752 (z_ne a752 a694 rfl) (z_ne a752 a699 rfl)
            have a754 : f1 vq = some (.inl (cy 0, 40, .inl kv)) := k4 _ _ x_vq (z_ne x_vq x_fa rfl)
            have a755 : f8 vq = some (.inl (cy 0, 40, .inl kv)) := k10 _ _ a754 
            have a756 : f14 vq = some (.inl (cy 0, 40, .inl kv)) := k16 _ _ a755 
            have a757 : f20 vq = some (.inl (cy 0, 40, .inl kv)) := k22 _ _ a756 
            have a758 : f120 vq = some (.inl (cy 0, 40, .inl kv)) := k122 _ _ a757 
            have a759 : f700 vq = some (.inl (cy 0, 40, .inl kv)) := k704 _ _ a758 (z_ne a758 a694 rfl) (z_ne a758 a699 rfl)
            have F760 : ∀ i9 : Nat, i9 < nn → f120 (fg i9) = some (.inr (4, [.int (kd i9), .ref (pt i9), .long (wg i9), .int (wd i9), .int (nI i9), .int (hs i9), .int (bf i9)])) := fun i9 h9 => k122 _ _ (F27 i9 h9) 
            have F761 : ∀ i9 : Nat, i9 < nn → f700 (fg i9) = some (.inr (4, [.int (kd i9), .ref (pt i9), .long (wg i9), .int (wd i9), .int (nI i9), .int (hs i9), .int (bf i9)])) := fun i9 h9 => k704 _ _ (F760 i9 h9) (z_ne (F760 i9 h9) a694 rfl) (z_ne (F760 i9 h9) a699 rfl)
            have F762 : ∀ i9 : Nat, i9 < nn → f1 (pt i9) = some (.inl (cy 1, (ln i9), .inr (.inl (pp i9)))) := fun i9 h9 => k4 _ _ (hP i9 h9) (z_neO (hP i9 h9) x_fa rfl)
            have F763 : ∀ i9 : Nat, i9 < nn → f8 (pt i9) = some (.inl (cy 1, (ln i9), .inr (.inl (pp i9)))) := fun i9 h9 => k10 _ _ (F762 i9 h9) 
            have F764 : ∀ i9 : Nat, i9 < nn → f14 (pt i9) = some (.inl (cy 1, (ln i9), .inr (.inl (pp i9)))) := fun i9 h9 => k16 _ _ (F763 i9 h9) 
            have F765 : ∀ i9 : Nat, i9 < nn → f20 (pt i9) = some (.inl (cy 1, (ln i9), .inr (.inl (pp i9)))) := fun i9 h9 => k22 _ _ (F764 i9 h9) 
            have F766 : ∀ i9 : Nat, i9 < nn → f120 (pt i9) = some (.inl (cy 1, (ln i9), .inr (.inl (pp i9)))) := fun i9 h9 => k122 _ _ (F765 i9 h9) 
            have F767 : ∀ i9 : Nat, i9 < nn → f700 (pt i9) = some (.inl (cy 1, (ln i9), .inr (.inl (pp i9)))) := fun i9 h9 => k704 _ _ (F766 i9 h9) (z_neO (F766 i9 h9) a694 rfl) (z_neA (F766 i9 h9) a699 rfl)
            have F768 : ∀ i9 : Nat, i9 < nf → f1 (fq i9) = some (.inr (3, [.ref (fk i9), .int (nI (fz i9))])) := fun i9 h9 => k4 _ _ (hFq i9 h9) (z_ne (hFq i9 h9) x_fa rfl)
            have F769 : ∀ i9 : Nat, i9 < nf → f8 (fq i9) = some (.inr (3, [.ref (fk i9), .int (nI (fz i9))])) := fun i9 h9 => k10 _ _ (F768 i9 h9) 
            have F770 : ∀ i9 : Nat, i9 < nf → f14 (fq i9) = some (.inr (3, [.ref (fk i9), .int (nI (fz i9))])) := fun i9 h9 => k16 _ _ (F769 i9 h9) 
            have F771 : ∀ i9 : Nat, i9 < nf → f20 (fq i9) = some (.inr (3, [.ref (fk i9), .int (nI (fz i9))])) := fun i9 h9 => k22 _ _ (F770 i9 h9) 
            have F772 : ∀ i9 : Nat, i9 < nf → f120 (fq i9) = some (.inr (3, [.ref (fk i9), .int (nI (fz i9))])) := fun i9 h9 => k122 _ _ (F771 i9 h9) 
            have F773 : ∀ i9 : Nat, i9 < nf → f700 (fq i9) = some (.inr (3, [.ref (fk i9), .int (nI (fz i9))])) := fun i9 h9 => k704 _ _ (F772 i9 h9) (z_ne (F772 i9 h9) a694 rfl) (z_ne (F772 i9 h9) a699 rfl)
            have F774 : ∀ i9 : Nat, i9 < nf → f1 (fk i9) = some (.inl (cy 0, 4, .inl (fc i9))) := fun i9 h9 => k4 _ _ (hFk i9 h9) (z_ne (hFk i9 h9) x_fa rfl)
            have F775 : ∀ i9 : Nat, i9 < nf → f8 (fk i9) = some (.inl (cy 0, 4, .inl (fc i9))) := fun i9 h9 => k10 _ _ (F774 i9 h9) 
            have F776 : ∀ i9 : Nat, i9 < nf → f14 (fk i9) = some (.inl (cy 0, 4, .inl (fc i9))) := fun i9 h9 => k16 _ _ (F775 i9 h9) 
            have F777 : ∀ i9 : Nat, i9 < nf → f20 (fk i9) = some (.inl (cy 0, 4, .inl (fc i9))) := fun i9 h9 => k22 _ _ (F776 i9 h9) 
            have F778 : ∀ i9 : Nat, i9 < nf → f120 (fk i9) = some (.inl (cy 0, 4, .inl (fc i9))) := fun i9 h9 => k122 _ _ (F777 i9 h9) 
            have F779 : ∀ i9 : Nat, i9 < nf → f700 (fk i9) = some (.inl (cy 0, 4, .inl (fc i9))) := fun i9 h9 => k704 _ _ (F778 i9 h9) (z_ne (F778 i9 h9) a694 rfl) (z_ne (F778 i9 h9) a699 rfl)
            have F780 : ∀ i9 : Nat, i9 < nc → f1 (cn i9) = some (.inr (0, [.int (ce i9), .int (cm i9)])) := fun i9 h9 => k4 _ _ (hCn i9 h9) (z_ne (hCn i9 h9) x_fa rfl)
            have F781 : ∀ i9 : Nat, i9 < nc → f8 (cn i9) = some (.inr (0, [.int (ce i9), .int (cm i9)])) := fun i9 h9 => k10 _ _ (F780 i9 h9) 
            have F782 : ∀ i9 : Nat, i9 < nc → f14 (cn i9) = some (.inr (0, [.int (ce i9), .int (cm i9)])) := fun i9 h9 => k16 _ _ (F781 i9 h9) 
            have F783 : ∀ i9 : Nat, i9 < nc → f20 (cn i9) = some (.inr (0, [.int (ce i9), .int (cm i9)])) := fun i9 h9 => k22 _ _ (F782 i9 h9) 
            have F784 : ∀ i9 : Nat, i9 < nc → f120 (cn i9) = some (.inr (0, [.int (ce i9), .int (cm i9)])) := fun i9 h9 => k122 _ _ (F783 i9 h9) 
            have F785 : ∀ i9 : Nat, i9 < nc → f700 (cn i9) = some (.inr (0, [.int (ce i9), .int (cm i9)])) := fun i9 h9 => k704 _ _ (F784 i9 h9) (z_ne (F784 i9 h9) a694 rfl) (z_ne (F784 i9 h9) a699 rfl)
            have F786 : ∀ i9 : Nat, i9 < 4 → f1 (ea i9) = some (.inr (1, [.ref (ma i9), .int (nI (sq i9))])) := fun i9 h9 => k4 _ _ (hEa i9 h9) (z_ne (hEa i9 h9) x_fa rfl)
            have F787 : ∀ i9 : Nat, i9 < 4 → f8 (ea i9) = some (.inr (1, [.ref (ma i9), .int (nI (sq i9))])) := fun i9 h9 => k10 _ _ (F786 i9 h9) 
            have F788 : ∀ i9 : Nat, i9 < 4 → f14 (ea i9) = some (.inr (1, [.ref (ma i9), .int (nI (sq i9))])) := fun i9 h9 => k16 _ _ (F787 i9 h9) 
            have F789 : ∀ i9 : Nat, i9 < 4 → f20 (ea i9) = some (.inr (1, [.ref (ma i9), .int (nI (sq i9))])) := fun i9 h9 => k22 _ _ (F788 i9 h9) 
            have F790 : ∀ i9 : Nat, i9 < 4 → f120 (ea i9) = some (.inr (1, [.ref (ma i9), .int (nI (sq i9))])) := fun i9 h9 => k122 _ _ (F789 i9 h9) 
            have F791 : ∀ i9 : Nat, i9 < 4 → f700 (ea i9) = some (.inr (1, [.ref (ma i9), .int (nI (sq i9))])) := fun i9 h9 => k704 _ _ (F790 i9 h9) (z_ne (F790 i9 h9) a694 rfl) (z_ne (F790 i9 h9) a699 rfl)
            have F792 : ∀ i9 : Nat, i9 < 4 → f1 (ma i9) = some (.inl (cy 0, 60, .inl (mb i9))) := fun i9 h9 => k4 _ _ (hMa i9 h9) (z_ne (hMa i9 h9) x_fa rfl)
            have F793 : ∀ i9 : Nat, i9 < 4 → f8 (ma i9) = some (.inl (cy 0, 60, .inl (mb i9))) := fun i9 h9 => k10 _ _ (F792 i9 h9) 
            have F794 : ∀ i9 : Nat, i9 < 4 → f14 (ma i9) = some (.inl (cy 0, 60, .inl (mb i9))) := fun i9 h9 => k16 _ _ (F793 i9 h9) 
            have F795 : ∀ i9 : Nat, i9 < 4 → f20 (ma i9) = some (.inl (cy 0, 60, .inl (mb i9))) := fun i9 h9 => k22 _ _ (F794 i9 h9) 
            have F796 : ∀ i9 : Nat, i9 < 4 → f120 (ma i9) = some (.inl (cy 0, 60, .inl (mb i9))) := fun i9 h9 => k122 _ _ (F795 i9 h9) 
            have F797 : ∀ i9 : Nat, i9 < 4 → f700 (ma i9) = some (.inl (cy 0, 60, .inl (mb i9))) := fun i9 h9 => k704 _ _ (F796 i9 h9) (z_ne (F796 i9 h9) a694 rfl) (z_ne (F796 i9 h9) a699 rfl)
            have hq : q_set nn kd ln wd x y z = ((-4), 3, (-1), 0) := by simp [q_set, oF_m1 nn, hFa, hIa, hNa, hFb, hIb, hNb, hOc, hS1, hS2, c23, c29, c123]
            exact z_iret C hr rfl hz hS ⟨3, (-1), 0, (upd gv 3 (gv 3 + 1)), nl, gu, nn, ga, gr, fg, pt, kd, ln, pp, wg, wd, hs, bf, nf, gf, fq, fk, fz, fc, nc, gc, cn, ce, cm, sq, mb, ks, kk, kv, lk, (by rw [hq]), (by rw [hq]), (by rw [hq]), (by rw [hq]), (by rw [hq]; exact (zEV3 gv).symm), rfl, rfl, rfl, rfl, rfl, (by rw [if_neg (by decide)]), rfl, rfl, rfl, rfl, rfl, rfl, rfl, rfl, rfl, rfl, rfl, rfl, rfl, rfl, ⟨a705, a702, a703, a708, a711, a717, a723, a729, a735, a741, a747, a753, a759, F761, F767, F773, F779, F785, F791, F797, hn60, hl12, hf6, hc60, hs40, hga, hgr, hln, hk5, hk4, hfi, hpi, har, hgf, hfz, hgc, hG, hsq, hei, hmi, kne, hca, hcr, hlk⟩⟩ (Nat.le_of_ble_eq_true rfl) (Nat.le_of_ble_eq_true rfl) dX7_set_80
    · have hFb : isF nn z = false := isF_f hn60 hvb
      have a798 : f8 fi = some (.inr (5, [.ref al, .ref ra, .int (nI nn)])) := k10 _ _ a6 
      refine z_callVq (As := [.long z.toInt64]) C hz hS hA hl (k_X5_find_B l D cy f8 fi al ra nn z.toInt64 a798 hn60 (fun i9 h9 q9 => hvb i9 h9 (z_toL (by omega) q9))) zyX5_find mMX7_130 a798 zl5 rfl rfl (Nat.le_of_ble_eq_true rfl) ⟨Nat.le_of_ble_eq_true rfl, Nat.le_of_ble_eq_true rfl⟩ ⟨Nat.le_of_ble_eq_true rfl, Nat.le_of_ble_eq_true rfl⟩ dX7_set_24 (fun r f799 H locs h800 hz hS => ?_)
      obtain ⟨rfl, k801⟩ := h800
      refine W.eq (g2 := F0 m 27 ls [.null]) rfl ?_
      refine lv_astoreN (lv' := [(5, .null), (4, .ref (fg ja)), (0, .ref o), (1, .int x), (2, .int y), (3, .int z)]) hx hb dX7_set_27 hl (by decide) rfl (fun ls hl => ?_)
      refine lv_aload hx hb dX7_set_29 (lv_at hl 1 rfl) ?_
      refine lv_ifnull hx hb dX7_set_31 ?_
      refine lv_aload_n hx hb dX7_set_34 rfl (lv_at hl 2 rfl) ?_
      have a802 : f799 o = some (.inr (7, [.ref fa, .ref fi, .ref nu, .int (nI nl), .ref fm, .int (nI nf), .ref co, .int (nI nc), .ref en, .ref ke, .long lk])) := k801 _ _ a11 
      refine z_get (v := .ref fi) C hz a802 zl7 mFX7_19 (by decide) rfl dX7_set_35 ?_
      refine lv_iload_n hx hb dX7_set_38 rfl (lv_at hl 5 rfl) ?_
      by_cases hc : z = (-1)
      · have hOc : oF nn z = true := oF_m hc
        have hc9 : z = (-1) := hc
        have a803 : f799 fi = some (.inr (5, [.ref al, .ref ra, .int (nI nn)])) := k801 _ _ a798 
        refine z_callVi (As := [.int z]) C hz hS hA hl (k_X5_hasOrNone_N l D cy f799 fi al ra nn z a803 hc) zyX5_hasOrNone mMX7_112 a803 zl5 rfl rfl (Nat.le_of_ble_eq_true rfl) ⟨Nat.le_of_ble_eq_true rfl, Nat.le_of_ble_eq_true rfl⟩ ⟨Nat.le_of_ble_eq_true rfl, Nat.le_of_ble_eq_true rfl⟩ dX7_set_39 (fun r f804 H locs h805 hz hS => ?_)
        obtain ⟨rfl, k806⟩ := h805
        refine lv_if_ne (tgt := 48) hx hb dX7_set_42 (by decide) (fun c807 => ?_) (fun c807 => ?_)
        rotate_left
        · exact absurd c807 (by decide)
        refine lv_aload hx hb dX7_set_48 (lv_at hl 1 rfl) ?_
        have F808 : ∀ i9 : Nat, i9 < nn → f1 (fg i9) = some (.inr (4, [.int (kd i9), .ref (pt i9), .long (wg i9), .int (wd i9), .int (nI i9), .int (hs i9), .int (bf i9)])) := fun i9 h9 => k4 _ _ (hF i9 h9) (z_ne (hF i9 h9) x_fa rfl)
        have F809 : ∀ i9 : Nat, i9 < nn → f8 (fg i9) = some (.inr (4, [.int (kd i9), .ref (pt i9), .long (wg i9), .int (wd i9), .int (nI i9), .int (hs i9), .int (bf i9)])) := fun i9 h9 => k10 _ _ (F808 i9 h9) 
        have F810 : ∀ i9 : Nat, i9 < nn → f799 (fg i9) = some (.inr (4, [.int (kd i9), .ref (pt i9), .long (wg i9), .int (wd i9), .int (nI i9), .int (hs i9), .int (bf i9)])) := fun i9 h9 => k801 _ _ (F809 i9 h9) 
        have F811 : ∀ i9 : Nat, i9 < nn → f804 (fg i9) = some (.inr (4, [.int (kd i9), .ref (pt i9), .long (wg i9), .int (wd i9), .int (nI i9), .int (hs i9), .int (bf i9)])) := fun i9 h9 => k806 _ _ (F810 i9 h9) 
        have a812 : f804 (fg ja) = some (.inr (4, [.int (kd ja), .ref (pt ja), .long (wg ja), .int (wd ja), .int (nI ja), .int (hs ja), .int (bf ja)])) := F811 ja hja
        refine z_getN (v := .int (kd ja)) C hz a812 zl4 mFNX7_134 (by decide) rfl dX7_set_50 ?_
        refine lv_bipush (v := 6) hx hb dX7_set_53 (by decide) ?_
        refine lv_icmp_ne (tgt := 72) hx hb dX7_set_55 (by decide) (fun c813 => ?_) (fun c813 => ?_)
        · refine lv_aload_n hx hb dX7_set_72 rfl (lv_at hl 2 rfl) ?_
          have a814 : f804 o = some (.inr (7, [.ref fa, .ref fi, .ref nu, .int (nI nl), .ref fm, .int (nI nf), .ref co, .int (nI nc), .ref en, .ref ke, .long lk])) := k806 _ _ a802 
          refine z_get (v := .ref fa) C hz a814 zl7 mFX7_10 (by decide) rfl dX7_set_73 ?_
          refine lv_iconst (v := 3) hx hb dX7_set_76 (by decide) ?_
          have a815 : f8 fa = some (.inr (2, [.int 0, .int (-1), .int 0, .ref ev])) := k10 _ _ a3 
          have a816 : f799 fa = some (.inr (2, [.int 0, .int (-1), .int 0, .ref ev])) := k801 _ _ a815 
          have a817 : f804 fa = some (.inr (2, [.int 0, .int (-1), .int 0, .ref ev])) := k806 _ _ a816 
          have a818 : f1 ev = some (.inl (cy 0, 8, .inl gv)) := k4 _ _ x_ev (z_ne x_ev x_fa rfl)
          have a819 : f8 ev = some (.inl (cy 0, 8, .inl gv)) := k10 _ _ a818 
          have a820 : f799 ev = some (.inl (cy 0, 8, .inl gv)) := k801 _ _ a819 
          have a821 : f804 ev = some (.inl (cy 0, 8, .inl gv)) := k806 _ _ a820 
          refine z_callVi (As := [.int 3]) C hz hS hA hl (k_X2_inNoPart l D cy f804 fa 3 0 (-1) 0 ev gv 3 a817 a821 (by decide) (Nat.le_of_ble_eq_true rfl)) zyX2_inNoPart mMX7_140 a817 zl2 rfl rfl (Nat.le_of_ble_eq_true rfl) ⟨Nat.le_of_ble_eq_true rfl, Nat.le_of_ble_eq_true rfl⟩ ⟨Nat.le_of_ble_eq_true rfl, Nat.le_of_ble_eq_true rfl⟩ dX7_set_77 (fun r f822 H locs h823 hz hS => ?_)
          obtain ⟨rfl, a824, a825, k826⟩ := h823
          have a827 : f822 o = some (.inr (7, [.ref fa, .ref fi, .ref nu, .int (nI nl), .ref fm, .int (nI nf), .ref co, .int (nI nc), .ref en, .ref ke, .long lk])) := k826 _ _ a814 (z_ne a814 a817 rfl) (z_ne a814 a821 rfl)
          have a828 : f804 fi = some (.inr (5, [.ref al, .ref ra, .int (nI nn)])) := k806 _ _ a803 
          have a829 : f822 fi = some (.inr (5, [.ref al, .ref ra, .int (nI nn)])) := k826 _ _ a828 (z_ne a828 a817 rfl) (z_ne a828 a821 rfl)
          have a830 : f8 al = some (.inl (cy 3, 60, .inr (.inr (.inr (.inr ga))))) := k10 _ _ a7 
          have a831 : f799 al = some (.inl (cy 3, 60, .inr (.inr (.inr (.inr ga))))) := k801 _ _ a830 
          have a832 : f804 al = some (.inl (cy 3, 60, .inr (.inr (.inr (.inr ga))))) := k806 _ _ a831 
          have a833 : f822 al = some (.inl (cy 3, 60, .inr (.inr (.inr (.inr ga))))) := k826 _ _ a832 (z_ne a832 a817 rfl) (z_ne a832 a821 rfl)
          have a834 : f1 ra = some (.inl (cy 3, 60, .inr (.inr (.inr (.inr gr))))) := k4 _ _ x_ra (z_ne x_ra x_fa rfl)
          have a835 : f8 ra = some (.inl (cy 3, 60, .inr (.inr (.inr (.inr gr))))) := k10 _ _ a834 
          have a836 : f799 ra = some (.inl (cy 3, 60, .inr (.inr (.inr (.inr gr))))) := k801 _ _ a835 
          have a837 : f804 ra = some (.inl (cy 3, 60, .inr (.inr (.inr (.inr gr))))) := k806 _ _ a836 
          have a838 : f822 ra = some (.inl (cy 3, 60, .inr (.inr (.inr (.inr gr))))) := k826 _ _ a837 (z_ne a837 a817 rfl) (z_ne a837 a821 rfl)
          have a839 : f1 nu = some (.inl (cy 0, 12, .inl gu)) := k4 _ _ x_nu (z_ne x_nu x_fa rfl)
          have a840 : f8 nu = some (.inl (cy 0, 12, .inl gu)) := k10 _ _ a839 
          have a841 : f799 nu = some (.inl (cy 0, 12, .inl gu)) := k801 _ _ a840 
          have a842 : f804 nu = some (.inl (cy 0, 12, .inl gu)) := k806 _ _ a841 
          have a843 : f822 nu = some (.inl (cy 0, 12, .inl gu)) := k826 _ _ a842 (z_ne a842 a817 rfl) (z_ne a842 a821 rfl)
          have a844 : f1 fm = some (.inl (cy 4, 6, .inr (.inr (.inr (.inr gf))))) := k4 _ _ x_fm (z_ne x_fm x_fa rfl)
          have a845 : f8 fm = some (.inl (cy 4, 6, .inr (.inr (.inr (.inr gf))))) := k10 _ _ a844 
          have a846 : f799 fm = some (.inl (cy 4, 6, .inr (.inr (.inr (.inr gf))))) := k801 _ _ a845 
          have a847 : f804 fm = some (.inl (cy 4, 6, .inr (.inr (.inr (.inr gf))))) := k806 _ _ a846 
          have a848 : f822 fm = some (.inl (cy 4, 6, .inr (.inr (.inr (.inr gf))))) := k826 _ _ a847 (z_ne a847 a817 rfl) (z_ne a847 a821 rfl)
          have a849 : f1 co = some (.inl (cy 5, 60, .inr (.inr (.inr (.inr gc))))) := k4 _ _ x_co (z_ne x_co x_fa rfl)
          have a850 : f8 co = some (.inl (cy 5, 60, .inr (.inr (.inr (.inr gc))))) := k10 _ _ a849 
          have a851 : f799 co = some (.inl (cy 5, 60, .inr (.inr (.inr (.inr gc))))) := k801 _ _ a850 
          have a852 : f804 co = some (.inl (cy 5, 60, .inr (.inr (.inr (.inr gc))))) := k806 _ _ a851 
          have a853 : f822 co = some (.inl (cy 5, 60, .inr (.inr (.inr (.inr gc))))) := k826 _ _ a852 (z_ne a852 a817 rfl) (z_ne a852 a821 rfl)
          have a854 : f1 en = some (.inl (cy 6, 4, .inr (.inr (.inr (.inr ge))))) := k4 _ _ x_en (z_ne x_en x_fa rfl)
          have a855 : f8 en = some (.inl (cy 6, 4, .inr (.inr (.inr (.inr ge))))) := k10 _ _ a854 
          have a856 : f799 en = some (.inl (cy 6, 4, .inr (.inr (.inr (.inr ge))))) := k801 _ _ a855 
          have a857 : f804 en = some (.inl (cy 6, 4, .inr (.inr (.inr (.inr ge))))) := k806 _ _ a856 
          have a858 : f822 en = some (.inl (cy 6, 4, .inr (.inr (.inr (.inr ge))))) := k826 _ _ a857 (z_ne a857 a817 rfl) (z_ne a857 a821 rfl)
          have a859 : f1 ke = some (.inr (6, [.ref kn, .ref vq, .int (nI ks)])) := k4 _ _ x_ke (z_ne x_ke x_fa rfl)
          have a860 : f8 ke = some (.inr (6, [.ref kn, .ref vq, .int (nI ks)])) := k10 _ _ a859 
          have a861 : f799 ke = some (.inr (6, [.ref kn, .ref vq, .int (nI ks)])) := k801 _ _ a860 
          have a862 : f804 ke = some (.inr (6, [.ref kn, .ref vq, .int (nI ks)])) := k806 _ _ a861 
          have a863 : f822 ke = some (.inr (6, [.ref kn, .ref vq, .int (nI ks)])) := k826 _ _ a862 (z_ne a862 a817 rfl) (z_ne a862 a821 rfl)
          have a864 : f1 kn = some (.inl (cy 0, 40, .inl kk)) := k4 _ _ x_kn (z_ne x_kn x_fa rfl)
          have a865 : f8 kn = some (.inl (cy 0, 40, .inl kk)) := k10 _ _ a864 
          have a866 : f799 kn = some (.inl (cy 0, 40, .inl kk)) := k801 _ _ a865 
          have a867 : f804 kn = some (.inl (cy 0, 40, .inl kk)) := k806 _ _ a866 
          have a868 : f822 kn = some (.inl (cy 0, 40, .inl kk)) := k826 _ _ a867 (z_ne a867 a817 rfl) (z_ne a867 a821 rfl)
          have a869 : f1 vq = some (.inl (cy 0, 40, .inl kv)) := k4 _ _ x_vq (z_ne x_vq x_fa rfl)
          have a870 : f8 vq = some (.inl (cy 0, 40, .inl kv)) := k10 _ _ a869 
          have a871 : f799 vq = some (.inl (cy 0, 40, .inl kv)) := k801 _ _ a870 
          have a872 : f804 vq = some (.inl (cy 0, 40, .inl kv)) := k806 _ _ a871 
          have a873 : f822 vq = some (.inl (cy 0, 40, .inl kv)) := k826 _ _ a872 (z_ne a872 a817 rfl) (z_ne a872 a821 rfl)
          have F874 : ∀ i9 : Nat, i9 < nn → f822 (fg i9) = some (.inr (4, [.int (kd i9), .ref (pt i9), .long (wg i9), .int (wd i9), .int (nI i9), .int (hs i9), .int (bf i9)])) := fun i9 h9 => k826 _ _ (F811 i9 h9) (z_ne (F811 i9 h9) a817 rfl) (z_ne (F811 i9 h9) a821 rfl)
          have F875 : ∀ i9 : Nat, i9 < nn → f1 (pt i9) = some (.inl (cy 1, (ln i9), .inr (.inl (pp i9)))) := fun i9 h9 => k4 _ _ (hP i9 h9) (z_neO (hP i9 h9) x_fa rfl)
          have F876 : ∀ i9 : Nat, i9 < nn → f8 (pt i9) = some (.inl (cy 1, (ln i9), .inr (.inl (pp i9)))) := fun i9 h9 => k10 _ _ (F875 i9 h9) 
          have F877 : ∀ i9 : Nat, i9 < nn → f799 (pt i9) = some (.inl (cy 1, (ln i9), .inr (.inl (pp i9)))) := fun i9 h9 => k801 _ _ (F876 i9 h9) 
          have F878 : ∀ i9 : Nat, i9 < nn → f804 (pt i9) = some (.inl (cy 1, (ln i9), .inr (.inl (pp i9)))) := fun i9 h9 => k806 _ _ (F877 i9 h9) 
          have F879 : ∀ i9 : Nat, i9 < nn → f822 (pt i9) = some (.inl (cy 1, (ln i9), .inr (.inl (pp i9)))) := fun i9 h9 => k826 _ _ (F878 i9 h9) (z_neO (F878 i9 h9) a817 rfl) (z_neA (F878 i9 h9) a821 rfl)
          have F880 : ∀ i9 : Nat, i9 < nf → f1 (fq i9) = some (.inr (3, [.ref (fk i9), .int (nI (fz i9))])) := fun i9 h9 => k4 _ _ (hFq i9 h9) (z_ne (hFq i9 h9) x_fa rfl)
          have F881 : ∀ i9 : Nat, i9 < nf → f8 (fq i9) = some (.inr (3, [.ref (fk i9), .int (nI (fz i9))])) := fun i9 h9 => k10 _ _ (F880 i9 h9) 
          have F882 : ∀ i9 : Nat, i9 < nf → f799 (fq i9) = some (.inr (3, [.ref (fk i9), .int (nI (fz i9))])) := fun i9 h9 => k801 _ _ (F881 i9 h9) 
          have F883 : ∀ i9 : Nat, i9 < nf → f804 (fq i9) = some (.inr (3, [.ref (fk i9), .int (nI (fz i9))])) := fun i9 h9 => k806 _ _ (F882 i9 h9) 
          have F884 : ∀ i9 : Nat, i9 < nf → f822 (fq i9) = some (.inr (3, [.ref (fk i9), .int (nI (fz i9))])) := fun i9 h9 => k826 _ _ (F883 i9 h9) (z_ne (F883 i9 h9) a817 rfl) (z_ne (F883 i9 h9) a821 rfl)
          have F885 : ∀ i9 : Nat, i9 < nf → f1 (fk i9) = some (.inl (cy 0, 4, .inl (fc i9))) := fun i9 h9 => k4 _ _ (hFk i9 h9) (z_ne (hFk i9 h9) x_fa rfl)
          have F886 : ∀ i9 : Nat, i9 < nf → f8 (fk i9) = some (.inl (cy 0, 4, .inl (fc i9))) := fun i9 h9 => k10 _ _ (F885 i9 h9) 
          have F887 : ∀ i9 : Nat, i9 < nf → f799 (fk i9) = some (.inl (cy 0, 4, .inl (fc i9))) := fun i9 h9 => k801 _ _ (F886 i9 h9) 
          have F888 : ∀ i9 : Nat, i9 < nf → f804 (fk i9) = some (.inl (cy 0, 4, .inl (fc i9))) := fun i9 h9 => k806 _ _ (F887 i9 h9) 
          have F889 : ∀ i9 : Nat, i9 < nf → f822 (fk i9) = some (.inl (cy 0, 4, .inl (fc i9))) := fun i9 h9 => k826 _ _ (F888 i9 h9) (z_ne (F888 i9 h9) a817 rfl) (z_ne (F888 i9 h9) a821 rfl)
          have F890 : ∀ i9 : Nat, i9 < nc → f1 (cn i9) = some (.inr (0, [.int (ce i9), .int (cm i9)])) := fun i9 h9 => k4 _ _ (hCn i9 h9) (z_ne (hCn i9 h9) x_fa rfl)
          have F891 : ∀ i9 : Nat, i9 < nc → f8 (cn i9) = some (.inr (0, [.int (ce i9), .int (cm i9)])) := fun i9 h9 => k10 _ _ (F890 i9 h9) 
          have F892 : ∀ i9 : Nat, i9 < nc → f799 (cn i9) = some (.inr (0, [.int (ce i9), .int (cm i9)])) := fun i9 h9 => k801 _ _ (F891 i9 h9) 
          have F893 : ∀ i9 : Nat, i9 < nc → f804 (cn i9) = some (.inr (0, [.int (ce i9), .int (cm i9)])) := fun i9 h9 => k806 _ _ (F892 i9 h9) 
          have F894 : ∀ i9 : Nat, i9 < nc → f822 (cn i9) = some (.inr (0, [.int (ce i9), .int (cm i9)])) := fun i9 h9 => k826 _ _ (F893 i9 h9) (z_ne (F893 i9 h9) a817 rfl) (z_ne (F893 i9 h9) a821 rfl)
          have F895 : ∀ i9 : Nat, i9 < 4 → f1 (ea i9) = some (.inr (1, [.ref (ma i9), .int (nI (sq i9))])) := fun i9 h9 => k4 _ _ (hEa i9 h9) (z_ne (hEa i9 h9) x_fa rfl)
          have F896 : ∀ i9 : Nat, i9 < 4 → f8 (ea i9) = some (.inr (1, [.ref (ma i9), .int (nI (sq i9))])) := fun i9 h9 => k10 _ _ (F895 i9 h9) 
          have F897 : ∀ i9 : Nat, i9 < 4 → f799 (ea i9) = some (.inr (1, [.ref (ma i9), .int (nI (sq i9))])) := fun i9 h9 => k801 _ _ (F896 i9 h9) 
          have F898 : ∀ i9 : Nat, i9 < 4 → f804 (ea i9) = some (.inr (1, [.ref (ma i9), .int (nI (sq i9))])) := fun i9 h9 => k806 _ _ (F897 i9 h9) 
          have F899 : ∀ i9 : Nat, i9 < 4 → f822 (ea i9) = some (.inr (1, [.ref (ma i9), .int (nI (sq i9))])) := fun i9 h9 => k826 _ _ (F898 i9 h9) (z_ne (F898 i9 h9) a817 rfl) (z_ne (F898 i9 h9) a821 rfl)
          have F900 : ∀ i9 : Nat, i9 < 4 → f1 (ma i9) = some (.inl (cy 0, 60, .inl (mb i9))) := fun i9 h9 => k4 _ _ (hMa i9 h9) (z_ne (hMa i9 h9) x_fa rfl)
          have F901 : ∀ i9 : Nat, i9 < 4 → f8 (ma i9) = some (.inl (cy 0, 60, .inl (mb i9))) := fun i9 h9 => k10 _ _ (F900 i9 h9) 
          have F902 : ∀ i9 : Nat, i9 < 4 → f799 (ma i9) = some (.inl (cy 0, 60, .inl (mb i9))) := fun i9 h9 => k801 _ _ (F901 i9 h9) 
          have F903 : ∀ i9 : Nat, i9 < 4 → f804 (ma i9) = some (.inl (cy 0, 60, .inl (mb i9))) := fun i9 h9 => k806 _ _ (F902 i9 h9) 
          have F904 : ∀ i9 : Nat, i9 < 4 → f822 (ma i9) = some (.inl (cy 0, 60, .inl (mb i9))) := fun i9 h9 => k826 _ _ (F903 i9 h9) (z_ne (F903 i9 h9) a817 rfl) (z_ne (F903 i9 h9) a821 rfl)
          have hq : q_set nn kd ln wd x y z = ((-4), 3, (-1), 0) := by simp [q_set, oF_m1 nn, hFa, hIa, hNa, hFb, hOc, hc9, c807, c813]
          exact z_iret C hr rfl hz hS ⟨3, (-1), 0, (upd gv 3 (gv 3 + 1)), nl, gu, nn, ga, gr, fg, pt, kd, ln, pp, wg, wd, hs, bf, nf, gf, fq, fk, fz, fc, nc, gc, cn, ce, cm, sq, mb, ks, kk, kv, lk, (by rw [hq]), (by rw [hq]), (by rw [hq]), (by rw [hq]), (by rw [hq]; exact (zEV3 gv).symm), rfl, rfl, rfl, rfl, rfl, (by rw [if_neg (by decide)]), rfl, rfl, rfl, rfl, rfl, rfl, rfl, rfl, rfl, rfl, rfl, rfl, rfl, rfl, ⟨a827, a824, a825, a829, a833, a838, a843, a848, a853, a858, a863, a868, a873, F874, F879, F884, F889, F894, F899, F904, hn60, hl12, hf6, hc60, hs40, hga, hgr, hln, hk5, hk4, hfi, hpi, har, hgf, hfz, hgc, hG, hsq, hei, hmi, kne, hca, hcr, hlk⟩⟩ (Nat.le_of_ble_eq_true rfl) (Nat.le_of_ble_eq_true rfl) dX7_set_80
        · refine lv_aloadN hx hb dX7_set_58 (lv_at hl 0 rfl) ?_
          refine lv_ifnullN (tgt := 81) hx hb dX7_set_60 (by decide) ?_
          refine lv_aload hx hb dX7_set_81 (lv_at hl 1 rfl) ?_
          refine lv_iload_n hx hb dX7_set_83 rfl (lv_at hl 4 rfl) ?_
          have F905 : ∀ i9 : Nat, i9 < nn → f1 (pt i9) = some (.inl (cy 1, (ln i9), .inr (.inl (pp i9)))) := fun i9 h9 => k4 _ _ (hP i9 h9) (z_neO (hP i9 h9) x_fa rfl)
          have F906 : ∀ i9 : Nat, i9 < nn → f8 (pt i9) = some (.inl (cy 1, (ln i9), .inr (.inl (pp i9)))) := fun i9 h9 => k10 _ _ (F905 i9 h9) 
          have F907 : ∀ i9 : Nat, i9 < nn → f799 (pt i9) = some (.inl (cy 1, (ln i9), .inr (.inl (pp i9)))) := fun i9 h9 => k801 _ _ (F906 i9 h9) 
          have F908 : ∀ i9 : Nat, i9 < nn → f804 (pt i9) = some (.inl (cy 1, (ln i9), .inr (.inl (pp i9)))) := fun i9 h9 => k806 _ _ (F907 i9 h9) 
          have a909 : f804 (pt ja) = some (.inl (cy 1, (ln ja), .inr (.inl (pp ja)))) := F908 ja hja
          refine z_callVi (As := [.int y]) C hz hS hA hl (k_X4_hasPlace l D cy f804 (fg ja) (kd ja) (pt ja) (wg ja) (wd ja) (nI ja) (hs ja) (bf ja) y (ln ja) (pp ja) a812 a909 ) zyX4_hasPlace mMX7_143 a812 zl4 rfl rfl (Nat.le_of_ble_eq_true rfl) ⟨Nat.le_of_ble_eq_true rfl, Nat.le_of_ble_eq_true rfl⟩ ⟨Nat.le_of_ble_eq_true rfl, Nat.le_of_ble_eq_true rfl⟩ dX7_set_84 (fun r f910 H locs h911 hz hS => ?_)
          obtain ⟨rfl, k912⟩ := h911
          refine lv_if_ne (tgt := 99) hx hb dX7_set_87 (by decide) (fun c913 => ?_) (fun c913 => ?_)
          · have hPa : isP (ln ja) y = true := isP_t c913
            obtain ⟨kx, hyk, hkx⟩ := z_place (by have h9 := hln ja hja; omega) c913
            have hIy : fI y = kx := fI_of (by have h9 := hln ja hja; omega) hyk
            refine lv_aload hx hb dX7_set_99 (lv_at hl 1 rfl) ?_
            have a914 : f910 (fg ja) = some (.inr (4, [.int (kd ja), .ref (pt ja), .long (wg ja), .int (wd ja), .int (nI ja), .int (hs ja), .int (bf ja)])) := k912 _ _ a812 
            refine z_getN (v := .int (wd ja)) C hz a914 zl4 mFNX7_126 (by decide) rfl dX7_set_101 ?_
            refine lv_if_eq (tgt := 130) hx hb dX7_set_104 (by decide) (fun c915 => ?_) (fun c915 => ?_)
            · refine lv_aload hx hb dX7_set_130 (lv_at hl 1 rfl) ?_
              refine lv_iload_n hx hb dX7_set_132 rfl (lv_at hl 4 rfl) ?_
              refine lv_iload_n hx hb dX7_set_133 rfl (lv_at hl 5 rfl) ?_
              have a916 : f910 (pt ja) = some (.inl (cy 1, (ln ja), .inr (.inl (pp ja)))) := k912 _ _ a909 
              refine z_callVv (As := [.int y, .int z]) C hz hS hA hl (k_X4_hold l D cy f910 (fg ja) (kd ja) (pt ja) (wg ja) (wd ja) (nI ja) (hs ja) (bf ja) y z (ln ja) (pp ja) kx a914 a916 hyk hkx (by have h9 := hln ja hja; omega)) zyX4_hold mMX7_146 a914 zl4 rfl rfl (Nat.le_of_ble_eq_true rfl) ⟨Nat.le_of_ble_eq_true rfl, Nat.le_of_ble_eq_true rfl⟩ ⟨Nat.le_of_ble_eq_true rfl, Nat.le_of_ble_eq_true rfl⟩ dX7_set_134 (fun  f917 H locs h918 hz hS => ?_)
              obtain ⟨wg_919, a920, a921, k922⟩ := h918
              refine lv_iconst (v := 1) hx hb dX7_set_137 (by decide) ?_
              have a923 : f804 o = some (.inr (7, [.ref fa, .ref fi, .ref nu, .int (nI nl), .ref fm, .int (nI nf), .ref co, .int (nI nc), .ref en, .ref ke, .long lk])) := k806 _ _ a802 
              have a924 : f910 o = some (.inr (7, [.ref fa, .ref fi, .ref nu, .int (nI nl), .ref fm, .int (nI nf), .ref co, .int (nI nc), .ref en, .ref ke, .long lk])) := k912 _ _ a923 
              have a925 : f917 o = some (.inr (7, [.ref fa, .ref fi, .ref nu, .int (nI nl), .ref fm, .int (nI nf), .ref co, .int (nI nc), .ref en, .ref ke, .long lk])) := k922 _ _ a924 (z_ne a924 a914 rfl) (z_neO a924 a916 rfl)
              have a926 : f8 fa = some (.inr (2, [.int 0, .int (-1), .int 0, .ref ev])) := k10 _ _ a3 
              have a927 : f799 fa = some (.inr (2, [.int 0, .int (-1), .int 0, .ref ev])) := k801 _ _ a926 
              have a928 : f804 fa = some (.inr (2, [.int 0, .int (-1), .int 0, .ref ev])) := k806 _ _ a927 
              have a929 : f910 fa = some (.inr (2, [.int 0, .int (-1), .int 0, .ref ev])) := k912 _ _ a928 
              have a930 : f917 fa = some (.inr (2, [.int 0, .int (-1), .int 0, .ref ev])) := k922 _ _ a929 (z_ne a929 a914 rfl) (z_neO a929 a916 rfl)
              have a931 : f1 ev = some (.inl (cy 0, 8, .inl gv)) := k4 _ _ x_ev (z_ne x_ev x_fa rfl)
              have a932 : f8 ev = some (.inl (cy 0, 8, .inl gv)) := k10 _ _ a931 
              have a933 : f799 ev = some (.inl (cy 0, 8, .inl gv)) := k801 _ _ a932 
              have a934 : f804 ev = some (.inl (cy 0, 8, .inl gv)) := k806 _ _ a933 
              have a935 : f910 ev = some (.inl (cy 0, 8, .inl gv)) := k912 _ _ a934 
              have a936 : f917 ev = some (.inl (cy 0, 8, .inl gv)) := k922 _ _ a935 (z_ne a935 a914 rfl) (z_neA a935 a916 rfl)
              have a937 : f804 fi = some (.inr (5, [.ref al, .ref ra, .int (nI nn)])) := k806 _ _ a803 
              have a938 : f910 fi = some (.inr (5, [.ref al, .ref ra, .int (nI nn)])) := k912 _ _ a937 
              have a939 : f917 fi = some (.inr (5, [.ref al, .ref ra, .int (nI nn)])) := k922 _ _ a938 (z_ne a938 a914 rfl) (z_neO a938 a916 rfl)
              have a940 : f8 al = some (.inl (cy 3, 60, .inr (.inr (.inr (.inr ga))))) := k10 _ _ a7 
              have a941 : f799 al = some (.inl (cy 3, 60, .inr (.inr (.inr (.inr ga))))) := k801 _ _ a940 
              have a942 : f804 al = some (.inl (cy 3, 60, .inr (.inr (.inr (.inr ga))))) := k806 _ _ a941 
              have a943 : f910 al = some (.inl (cy 3, 60, .inr (.inr (.inr (.inr ga))))) := k912 _ _ a942 
              have a944 : f917 al = some (.inl (cy 3, 60, .inr (.inr (.inr (.inr ga))))) := k922 _ _ a943 (z_ne a943 a914 rfl) (z_neA a943 a916 rfl)
              have a945 : f1 ra = some (.inl (cy 3, 60, .inr (.inr (.inr (.inr gr))))) := k4 _ _ x_ra (z_ne x_ra x_fa rfl)
              have a946 : f8 ra = some (.inl (cy 3, 60, .inr (.inr (.inr (.inr gr))))) := k10 _ _ a945 
              have a947 : f799 ra = some (.inl (cy 3, 60, .inr (.inr (.inr (.inr gr))))) := k801 _ _ a946 
              have a948 : f804 ra = some (.inl (cy 3, 60, .inr (.inr (.inr (.inr gr))))) := k806 _ _ a947 
              have a949 : f910 ra = some (.inl (cy 3, 60, .inr (.inr (.inr (.inr gr))))) := k912 _ _ a948 
              have a950 : f917 ra = some (.inl (cy 3, 60, .inr (.inr (.inr (.inr gr))))) := k922 _ _ a949 (z_ne a949 a914 rfl) (z_neA a949 a916 rfl)
              have a951 : f1 nu = some (.inl (cy 0, 12, .inl gu)) := k4 _ _ x_nu (z_ne x_nu x_fa rfl)
              have a952 : f8 nu = some (.inl (cy 0, 12, .inl gu)) := k10 _ _ a951 
              have a953 : f799 nu = some (.inl (cy 0, 12, .inl gu)) := k801 _ _ a952 
              have a954 : f804 nu = some (.inl (cy 0, 12, .inl gu)) := k806 _ _ a953 
              have a955 : f910 nu = some (.inl (cy 0, 12, .inl gu)) := k912 _ _ a954 
              have a956 : f917 nu = some (.inl (cy 0, 12, .inl gu)) := k922 _ _ a955 (z_ne a955 a914 rfl) (z_neA a955 a916 rfl)
              have a957 : f1 fm = some (.inl (cy 4, 6, .inr (.inr (.inr (.inr gf))))) := k4 _ _ x_fm (z_ne x_fm x_fa rfl)
              have a958 : f8 fm = some (.inl (cy 4, 6, .inr (.inr (.inr (.inr gf))))) := k10 _ _ a957 
              have a959 : f799 fm = some (.inl (cy 4, 6, .inr (.inr (.inr (.inr gf))))) := k801 _ _ a958 
              have a960 : f804 fm = some (.inl (cy 4, 6, .inr (.inr (.inr (.inr gf))))) := k806 _ _ a959 
              have a961 : f910 fm = some (.inl (cy 4, 6, .inr (.inr (.inr (.inr gf))))) := k912 _ _ a960 
              have a962 : f917 fm = some (.inl (cy 4, 6, .inr (.inr (.inr (.inr gf))))) := k922 _ _ a961 (z_ne a961 a914 rfl) (z_neA a961 a916 rfl)
              have a963 : f1 co = some (.inl (cy 5, 60, .inr (.inr (.inr (.inr gc))))) := k4 _ _ x_co (z_ne x_co x_fa rfl)
              have a964 : f8 co = some (.inl (cy 5, 60, .inr (.inr (.inr (.inr gc))))) := k10 _ _ a963 
              have a965 : f799 co = some (.inl (cy 5, 60, .inr (.inr (.inr (.inr gc))))) := k801 _ _ a964 
              have a966 : f804 co = some (.inl (cy 5, 60, .inr (.inr (.inr (.inr gc))))) := k806 _ _ a965 
              have a967 : f910 co = some (.inl (cy 5, 60, .inr (.inr (.inr (.inr gc))))) := k912 _ _ a966 
              have a968 : f917 co = some (.inl (cy 5, 60, .inr (.inr (.inr (.inr gc))))) := k922 _ _ a967 (z_ne a967 a914 rfl) (z_neA a967 a916 rfl)
              have a969 : f1 en = some (.inl (cy 6, 4, .inr (.inr (.inr (.inr ge))))) := k4 _ _ x_en (z_ne x_en x_fa rfl)
              have a970 : f8 en = some (.inl (cy 6, 4, .inr (.inr (.inr (.inr ge))))) := k10 _ _ a969 
              have a971 : f799 en = some (.inl (cy 6, 4, .inr (.inr (.inr (.inr ge))))) := k801 _ _ a970 
              have a972 : f804 en = some (.inl (cy 6, 4, .inr (.inr (.inr (.inr ge))))) := k806 _ _ a971 
              have a973 : f910 en = some (.inl (cy 6, 4, .inr (.inr (.inr (.inr ge))))) := k912 _ _ a972 
              have a974 : f917 en = some (.inl (cy 6, 4, .inr (.inr (.inr (.inr ge))))) := k922 _ _ a973 (z_ne a973 a914 rfl) (z_neA a973 a916 rfl)
              have a975 : f1 ke = some (.inr (6, [.ref kn, .ref vq, .int (nI ks)])) := k4 _ _ x_ke (z_ne x_ke x_fa rfl)
              have a976 : f8 ke = some (.inr (6, [.ref kn, .ref vq, .int (nI ks)])) := k10 _ _ a975 
              have a977 : f799 ke = some (.inr (6, [.ref kn, .ref vq, .int (nI ks)])) := k801 _ _ a976 
              have a978 : f804 ke = some (.inr (6, [.ref kn, .ref vq, .int (nI ks)])) := k806 _ _ a977 
              have a979 : f910 ke = some (.inr (6, [.ref kn, .ref vq, .int (nI ks)])) := k912 _ _ a978 
              have a980 : f917 ke = some (.inr (6, [.ref kn, .ref vq, .int (nI ks)])) := k922 _ _ a979 (z_ne a979 a914 rfl) (z_neO a979 a916 rfl)
              have a981 : f1 kn = some (.inl (cy 0, 40, .inl kk)) := k4 _ _ x_kn (z_ne x_kn x_fa rfl)
              have a982 : f8 kn = some (.inl (cy 0, 40, .inl kk)) := k10 _ _ a981 
              have a983 : f799 kn = some (.inl (cy 0, 40, .inl kk)) := k801 _ _ a982 
              have a984 : f804 kn = some (.inl (cy 0, 40, .inl kk)) := k806 _ _ a983 
              have a985 : f910 kn = some (.inl (cy 0, 40, .inl kk)) := k912 _ _ a984 
              have a986 : f917 kn = some (.inl (cy 0, 40, .inl kk)) := k922 _ _ a985 (z_ne a985 a914 rfl) (z_neA a985 a916 rfl)
              have a987 : f1 vq = some (.inl (cy 0, 40, .inl kv)) := k4 _ _ x_vq (z_ne x_vq x_fa rfl)
              have a988 : f8 vq = some (.inl (cy 0, 40, .inl kv)) := k10 _ _ a987 
              have a989 : f799 vq = some (.inl (cy 0, 40, .inl kv)) := k801 _ _ a988 
              have a990 : f804 vq = some (.inl (cy 0, 40, .inl kv)) := k806 _ _ a989 
              have a991 : f910 vq = some (.inl (cy 0, 40, .inl kv)) := k912 _ _ a990 
              have a992 : f917 vq = some (.inl (cy 0, 40, .inl kv)) := k922 _ _ a991 (z_ne a991 a914 rfl) (z_neA a991 a916 rfl)
              have F993 : ∀ i9 : Nat, i9 < nn → f910 (fg i9) = some (.inr (4, [.int (kd i9), .ref (pt i9), .long (wg i9), .int (wd i9), .int (nI i9), .int (hs i9), .int (bf i9)])) := fun i9 h9 => k912 _ _ (F811 i9 h9) 
              have F994 : ∀ i9 : Nat, i9 < nn → f917 (fg i9) = some (.inr (4, [.int (kd i9), .ref (pt i9), .long (va_up wg ja wg_919 i9), .int (wd i9), .int (nI i9), .int (hs i9), .int (bf i9)])) := z_famC (f := f) (T := fun i9 => .inr (4, [.int (kd i9), .ref (pt i9), .long (wg i9), .int (wd i9), .int (nI i9), .int (hs i9), .int (bf i9)])) (T' := fun i9 => .inr (4, [.int (kd i9), .ref (pt i9), .long (va_up wg ja wg_919 i9), .int (wd i9), .int (nI i9), .int (hs i9), .int (bf i9)])) hja (by simp only [va_up_self]; exact a920) (fun i9 h9 n9 => k922 _ _ (F993 i9 h9) n9 (z_neO (F993 i9 h9) a916 rfl)) (fun i9 h9 => by simp only [va_up_ne _ _ h9]) (fun i9 h9 => hfi i9 h9 ja hja)
              have F995 : ∀ i9 : Nat, i9 < nn → f910 (pt i9) = some (.inl (cy 1, (ln i9), .inr (.inl (pp i9)))) := fun i9 h9 => k912 _ _ (F908 i9 h9) 
              have F996 : ∀ i9 : Nat, i9 < nn → f917 (pt i9) = some (.inl (cy 1, (ln i9), .inr (.inl (va_up pp ja (vp_updL (pp ja) (1 + kx) z.toInt64) i9)))) := z_famC (f := f) (T := fun i9 => .inl (cy 1, (ln i9), .inr (.inl (pp i9)))) (T' := fun i9 => .inl (cy 1, (ln i9), .inr (.inl (va_up pp ja (vp_updL (pp ja) (1 + kx) z.toInt64) i9)))) hja (by simp only [va_up_self]; exact a921) (fun i9 h9 n9 => k922 _ _ (F995 i9 h9) (z_neO (F995 i9 h9) a914 rfl) n9) (fun i9 h9 => by simp only [va_up_ne _ _ h9]) (fun i9 h9 => hpi i9 h9 ja hja)
              have F997 : ∀ i9 : Nat, i9 < nf → f1 (fq i9) = some (.inr (3, [.ref (fk i9), .int (nI (fz i9))])) := fun i9 h9 => k4 _ _ (hFq i9 h9) (z_ne (hFq i9 h9) x_fa rfl)
              have F998 : ∀ i9 : Nat, i9 < nf → f8 (fq i9) = some (.inr (3, [.ref (fk i9), .int (nI (fz i9))])) := fun i9 h9 => k10 _ _ (F997 i9 h9) 
              have F999 : ∀ i9 : Nat, i9 < nf → f799 (fq i9) = some (.inr (3, [.ref (fk i9), .int (nI (fz i9))])) := fun i9 h9 => k801 _ _ (F998 i9 h9) 
              have F1000 : ∀ i9 : Nat, i9 < nf → f804 (fq i9) = some (.inr (3, [.ref (fk i9), .int (nI (fz i9))])) := fun i9 h9 => k806 _ _ (F999 i9 h9) 
              have F1001 : ∀ i9 : Nat, i9 < nf → f910 (fq i9) = some (.inr (3, [.ref (fk i9), .int (nI (fz i9))])) := fun i9 h9 => k912 _ _ (F1000 i9 h9) 
              have F1002 : ∀ i9 : Nat, i9 < nf → f917 (fq i9) = some (.inr (3, [.ref (fk i9), .int (nI (fz i9))])) := fun i9 h9 => k922 _ _ (F1001 i9 h9) (z_ne (F1001 i9 h9) a914 rfl) (z_neO (F1001 i9 h9) a916 rfl)
              have F1003 : ∀ i9 : Nat, i9 < nf → f1 (fk i9) = some (.inl (cy 0, 4, .inl (fc i9))) := fun i9 h9 => k4 _ _ (hFk i9 h9) (z_ne (hFk i9 h9) x_fa rfl)
              have F1004 : ∀ i9 : Nat, i9 < nf → f8 (fk i9) = some (.inl (cy 0, 4, .inl (fc i9))) := fun i9 h9 => k10 _ _ (F1003 i9 h9) 
              have F1005 : ∀ i9 : Nat, i9 < nf → f799 (fk i9) = some (.inl (cy 0, 4, .inl (fc i9))) := fun i9 h9 => k801 _ _ (F1004 i9 h9) 
              have F1006 : ∀ i9 : Nat, i9 < nf → f804 (fk i9) = some (.inl (cy 0, 4, .inl (fc i9))) := fun i9 h9 => k806 _ _ (F1005 i9 h9) 
              have F1007 : ∀ i9 : Nat, i9 < nf → f910 (fk i9) = some (.inl (cy 0, 4, .inl (fc i9))) := fun i9 h9 => k912 _ _ (F1006 i9 h9) 
              have F1008 : ∀ i9 : Nat, i9 < nf → f917 (fk i9) = some (.inl (cy 0, 4, .inl (fc i9))) := fun i9 h9 => k922 _ _ (F1007 i9 h9) (z_ne (F1007 i9 h9) a914 rfl) (z_neA (F1007 i9 h9) a916 rfl)
              have F1009 : ∀ i9 : Nat, i9 < nc → f1 (cn i9) = some (.inr (0, [.int (ce i9), .int (cm i9)])) := fun i9 h9 => k4 _ _ (hCn i9 h9) (z_ne (hCn i9 h9) x_fa rfl)
              have F1010 : ∀ i9 : Nat, i9 < nc → f8 (cn i9) = some (.inr (0, [.int (ce i9), .int (cm i9)])) := fun i9 h9 => k10 _ _ (F1009 i9 h9) 
              have F1011 : ∀ i9 : Nat, i9 < nc → f799 (cn i9) = some (.inr (0, [.int (ce i9), .int (cm i9)])) := fun i9 h9 => k801 _ _ (F1010 i9 h9) 
              have F1012 : ∀ i9 : Nat, i9 < nc → f804 (cn i9) = some (.inr (0, [.int (ce i9), .int (cm i9)])) := fun i9 h9 => k806 _ _ (F1011 i9 h9) 
              have F1013 : ∀ i9 : Nat, i9 < nc → f910 (cn i9) = some (.inr (0, [.int (ce i9), .int (cm i9)])) := fun i9 h9 => k912 _ _ (F1012 i9 h9) 
              have F1014 : ∀ i9 : Nat, i9 < nc → f917 (cn i9) = some (.inr (0, [.int (ce i9), .int (cm i9)])) := fun i9 h9 => k922 _ _ (F1013 i9 h9) (z_ne (F1013 i9 h9) a914 rfl) (z_neO (F1013 i9 h9) a916 rfl)
              have F1015 : ∀ i9 : Nat, i9 < 4 → f1 (ea i9) = some (.inr (1, [.ref (ma i9), .int (nI (sq i9))])) := fun i9 h9 => k4 _ _ (hEa i9 h9) (z_ne (hEa i9 h9) x_fa rfl)
              have F1016 : ∀ i9 : Nat, i9 < 4 → f8 (ea i9) = some (.inr (1, [.ref (ma i9), .int (nI (sq i9))])) := fun i9 h9 => k10 _ _ (F1015 i9 h9) 
              have F1017 : ∀ i9 : Nat, i9 < 4 → f799 (ea i9) = some (.inr (1, [.ref (ma i9), .int (nI (sq i9))])) := fun i9 h9 => k801 _ _ (F1016 i9 h9) 
              have F1018 : ∀ i9 : Nat, i9 < 4 → f804 (ea i9) = some (.inr (1, [.ref (ma i9), .int (nI (sq i9))])) := fun i9 h9 => k806 _ _ (F1017 i9 h9) 
              have F1019 : ∀ i9 : Nat, i9 < 4 → f910 (ea i9) = some (.inr (1, [.ref (ma i9), .int (nI (sq i9))])) := fun i9 h9 => k912 _ _ (F1018 i9 h9) 
              have F1020 : ∀ i9 : Nat, i9 < 4 → f917 (ea i9) = some (.inr (1, [.ref (ma i9), .int (nI (sq i9))])) := fun i9 h9 => k922 _ _ (F1019 i9 h9) (z_ne (F1019 i9 h9) a914 rfl) (z_neO (F1019 i9 h9) a916 rfl)
              have F1021 : ∀ i9 : Nat, i9 < 4 → f1 (ma i9) = some (.inl (cy 0, 60, .inl (mb i9))) := fun i9 h9 => k4 _ _ (hMa i9 h9) (z_ne (hMa i9 h9) x_fa rfl)
              have F1022 : ∀ i9 : Nat, i9 < 4 → f8 (ma i9) = some (.inl (cy 0, 60, .inl (mb i9))) := fun i9 h9 => k10 _ _ (F1021 i9 h9) 
              have F1023 : ∀ i9 : Nat, i9 < 4 → f799 (ma i9) = some (.inl (cy 0, 60, .inl (mb i9))) := fun i9 h9 => k801 _ _ (F1022 i9 h9) 
              have F1024 : ∀ i9 : Nat, i9 < 4 → f804 (ma i9) = some (.inl (cy 0, 60, .inl (mb i9))) := fun i9 h9 => k806 _ _ (F1023 i9 h9) 
              have F1025 : ∀ i9 : Nat, i9 < 4 → f910 (ma i9) = some (.inl (cy 0, 60, .inl (mb i9))) := fun i9 h9 => k912 _ _ (F1024 i9 h9) 
              have F1026 : ∀ i9 : Nat, i9 < 4 → f917 (ma i9) = some (.inl (cy 0, 60, .inl (mb i9))) := fun i9 h9 => k922 _ _ (F1025 i9 h9) (z_ne (F1025 i9 h9) a914 rfl) (z_neA (F1025 i9 h9) a916 rfl)
              have hq : q_set nn kd ln wd x y z = (1, 0, (-1), 0) := by simp [q_set, oF_m1 nn, hFa, hIa, hNa, hFb, hOc, hc9, hPa, hIy, c807, c813, c913, c915]
              exact z_iret C hr rfl hz hS ⟨0, (-1), 0, gv, nl, gu, nn, ga, gr, fg, pt, kd, ln, (va_up pp ja (vp_updL (pp ja) (1 + kx) z.toInt64)), (va_up wg ja wg_919), wd, hs, bf, nf, gf, fq, fk, fz, fc, nc, gc, cn, ce, cm, sq, mb, ks, kk, kv, lk, (by rw [hq]), (by rw [hq]), (by rw [hq]), (by rw [hq]), (by rw [hq]; exact (zEV0 gv).symm), rfl, rfl, rfl, rfl, rfl, (by rw [if_pos rfl, hIa, hIy]), rfl, rfl, rfl, rfl, rfl, rfl, rfl, rfl, rfl, rfl, rfl, rfl, rfl, rfl, ⟨a925, a930, a936, a939, a944, a950, a956, a962, a968, a974, a980, a986, a992, F994, F996, F1002, F1008, F1014, F1020, F1026, hn60, hl12, hf6, hc60, hs40, hga, hgr, hln, hk5, hk4, hfi, hpi, har, hgf, hfz, hgc, hG, hsq, hei, hmi, kne, hca, hcr, hlk⟩⟩ (Nat.le_of_ble_eq_true rfl) (Nat.le_of_ble_eq_true rfl) dX7_set_138
            · refine lv_aloadN hx hb dX7_set_107 (lv_at hl 0 rfl) ?_
              refine lv_ifnullN (tgt := 130) hx hb dX7_set_109 (by decide) ?_
              refine lv_aload hx hb dX7_set_130 (lv_at hl 1 rfl) ?_
              refine lv_iload_n hx hb dX7_set_132 rfl (lv_at hl 4 rfl) ?_
              refine lv_iload_n hx hb dX7_set_133 rfl (lv_at hl 5 rfl) ?_
              have a1027 : f910 (pt ja) = some (.inl (cy 1, (ln ja), .inr (.inl (pp ja)))) := k912 _ _ a909 
              refine z_callVv (As := [.int y, .int z]) C hz hS hA hl (k_X4_hold l D cy f910 (fg ja) (kd ja) (pt ja) (wg ja) (wd ja) (nI ja) (hs ja) (bf ja) y z (ln ja) (pp ja) kx a914 a1027 hyk hkx (by have h9 := hln ja hja; omega)) zyX4_hold mMX7_146 a914 zl4 rfl rfl (Nat.le_of_ble_eq_true rfl) ⟨Nat.le_of_ble_eq_true rfl, Nat.le_of_ble_eq_true rfl⟩ ⟨Nat.le_of_ble_eq_true rfl, Nat.le_of_ble_eq_true rfl⟩ dX7_set_134 (fun  f1028 H locs h1029 hz hS => ?_)
              obtain ⟨wg_1030, a1031, a1032, k1033⟩ := h1029
              refine lv_iconst (v := 1) hx hb dX7_set_137 (by decide) ?_
              have a1034 : f804 o = some (.inr (7, [.ref fa, .ref fi, .ref nu, .int (nI nl), .ref fm, .int (nI nf), .ref co, .int (nI nc), .ref en, .ref ke, .long lk])) := k806 _ _ a802 
              have a1035 : f910 o = some (.inr (7, [.ref fa, .ref fi, .ref nu, .int (nI nl), .ref fm, .int (nI nf), .ref co, .int (nI nc), .ref en, .ref ke, .long lk])) := k912 _ _ a1034 
              have a1036 : f1028 o = some (.inr (7, [.ref fa, .ref fi, .ref nu, .int (nI nl), .ref fm, .int (nI nf), .ref co, .int (nI nc), .ref en, .ref ke, .long lk])) := k1033 _ _ a1035 (z_ne a1035 a914 rfl) (z_neO a1035 a1027 rfl)
              have a1037 : f8 fa = some (.inr (2, [.int 0, .int (-1), .int 0, .ref ev])) := k10 _ _ a3 
              have a1038 : f799 fa = some (.inr (2, [.int 0, .int (-1), .int 0, .ref ev])) := k801 _ _ a1037 
              have a1039 : f804 fa = some (.inr (2, [.int 0, .int (-1), .int 0, .ref ev])) := k806 _ _ a1038 
              have a1040 : f910 fa = some (.inr (2, [.int 0, .int (-1), .int 0, .ref ev])) := k912 _ _ a1039 
              have a1041 : f1028 fa = some (.inr (2, [.int 0, .int (-1), .int 0, .ref ev])) := k1033 _ _ a1040 (z_ne a1040 a914 rfl) (z_neO a1040 a1027 rfl)
              have a1042 : f1 ev = some (.inl (cy 0, 8, .inl gv)) := k4 _ _ x_ev (z_ne x_ev x_fa rfl)
              have a1043 : f8 ev = some (.inl (cy 0, 8, .inl gv)) := k10 _ _ a1042 
              have a1044 : f799 ev = some (.inl (cy 0, 8, .inl gv)) := k801 _ _ a1043 
              have a1045 : f804 ev = some (.inl (cy 0, 8, .inl gv)) := k806 _ _ a1044 
              have a1046 : f910 ev = some (.inl (cy 0, 8, .inl gv)) := k912 _ _ a1045 
              have a1047 : f1028 ev = some (.inl (cy 0, 8, .inl gv)) := k1033 _ _ a1046 (z_ne a1046 a914 rfl) (z_neA a1046 a1027 rfl)
              have a1048 : f804 fi = some (.inr (5, [.ref al, .ref ra, .int (nI nn)])) := k806 _ _ a803 
              have a1049 : f910 fi = some (.inr (5, [.ref al, .ref ra, .int (nI nn)])) := k912 _ _ a1048 
              have a1050 : f1028 fi = some (.inr (5, [.ref al, .ref ra, .int (nI nn)])) := k1033 _ _ a1049 (z_ne a1049 a914 rfl) (z_neO a1049 a1027 rfl)
              have a1051 : f8 al = some (.inl (cy 3, 60, .inr (.inr (.inr (.inr ga))))) := k10 _ _ a7 
              have a1052 : f799 al = some (.inl (cy 3, 60, .inr (.inr (.inr (.inr ga))))) := k801 _ _ a1051 
              have a1053 : f804 al = some (.inl (cy 3, 60, .inr (.inr (.inr (.inr ga))))) := k806 _ _ a1052 
              have a1054 : f910 al = some (.inl (cy 3, 60, .inr (.inr (.inr (.inr ga))))) := k912 _ _ a1053 
              have a1055 : f1028 al = some (.inl (cy 3, 60, .inr (.inr (.inr (.inr ga))))) := k1033 _ _ a1054 (z_ne a1054 a914 rfl) (z_neA a1054 a1027 rfl)
              have a1056 : f1 ra = some (.inl (cy 3, 60, .inr (.inr (.inr (.inr gr))))) := k4 _ _ x_ra (z_ne x_ra x_fa rfl)
              have a1057 : f8 ra = some (.inl (cy 3, 60, .inr (.inr (.inr (.inr gr))))) := k10 _ _ a1056 
              have a1058 : f799 ra = some (.inl (cy 3, 60, .inr (.inr (.inr (.inr gr))))) := k801 _ _ a1057 
              have a1059 : f804 ra = some (.inl (cy 3, 60, .inr (.inr (.inr (.inr gr))))) := k806 _ _ a1058 
              have a1060 : f910 ra = some (.inl (cy 3, 60, .inr (.inr (.inr (.inr gr))))) := k912 _ _ a1059 
              have a1061 : f1028 ra = some (.inl (cy 3, 60, .inr (.inr (.inr (.inr gr))))) := k1033 _ _ a1060 (z_ne a1060 a914 rfl) (z_neA a1060 a1027 rfl)
              have a1062 : f1 nu = some (.inl (cy 0, 12, .inl gu)) := k4 _ _ x_nu (z_ne x_nu x_fa rfl)
              have a1063 : f8 nu = some (.inl (cy 0, 12, .inl gu)) := k10 _ _ a1062 
              have a1064 : f799 nu = some (.inl (cy 0, 12, .inl gu)) := k801 _ _ a1063 
              have a1065 : f804 nu = some (.inl (cy 0, 12, .inl gu)) := k806 _ _ a1064 
              have a1066 : f910 nu = some (.inl (cy 0, 12, .inl gu)) := k912 _ _ a1065 
              have a1067 : f1028 nu = some (.inl (cy 0, 12, .inl gu)) := k1033 _ _ a1066 (z_ne a1066 a914 rfl) (z_neA a1066 a1027 rfl)
              have a1068 : f1 fm = some (.inl (cy 4, 6, .inr (.inr (.inr (.inr gf))))) := k4 _ _ x_fm (z_ne x_fm x_fa rfl)
              have a1069 : f8 fm = some (.inl (cy 4, 6, .inr (.inr (.inr (.inr gf))))) := k10 _ _ a1068 
              have a1070 : f799 fm = some (.inl (cy 4, 6, .inr (.inr (.inr (.inr gf))))) := k801 _ _ a1069 
              have a1071 : f804 fm = some (.inl (cy 4, 6, .inr (.inr (.inr (.inr gf))))) := k806 _ _ a1070 
              have a1072 : f910 fm = some (.inl (cy 4, 6, .inr (.inr (.inr (.inr gf))))) := k912 _ _ a1071 
              have a1073 : f1028 fm = some (.inl (cy 4, 6, .inr (.inr (.inr (.inr gf))))) := k1033 _ _ a1072 (z_ne a1072 a914 rfl) (z_neA a1072 a1027 rfl)
              have a1074 : f1 co = some (.inl (cy 5, 60, .inr (.inr (.inr (.inr gc))))) := k4 _ _ x_co (z_ne x_co x_fa rfl)
              have a1075 : f8 co = some (.inl (cy 5, 60, .inr (.inr (.inr (.inr gc))))) := k10 _ _ a1074 
              have a1076 : f799 co = some (.inl (cy 5, 60, .inr (.inr (.inr (.inr gc))))) := k801 _ _ a1075 
              have a1077 : f804 co = some (.inl (cy 5, 60, .inr (.inr (.inr (.inr gc))))) := k806 _ _ a1076 
              have a1078 : f910 co = some (.inl (cy 5, 60, .inr (.inr (.inr (.inr gc))))) := k912 _ _ a1077 
              have a1079 : f1028 co = some (.inl (cy 5, 60, .inr (.inr (.inr (.inr gc))))) := k1033 _ _ a1078 (z_ne a1078 a914 rfl) (z_neA a1078 a1027 rfl)
              have a1080 : f1 en = some (.inl (cy 6, 4, .inr (.inr (.inr (.inr ge))))) := k4 _ _ x_en (z_ne x_en x_fa rfl)
              have a1081 : f8 en = some (.inl (cy 6, 4, .inr (.inr (.inr (.inr ge))))) := k10 _ _ a1080 
              have a1082 : f799 en = some (.inl (cy 6, 4, .inr (.inr (.inr (.inr ge))))) := k801 _ _ a1081 
              have a1083 : f804 en = some (.inl (cy 6, 4, .inr (.inr (.inr (.inr ge))))) := k806 _ _ a1082 
              have a1084 : f910 en = some (.inl (cy 6, 4, .inr (.inr (.inr (.inr ge))))) := k912 _ _ a1083 
              have a1085 : f1028 en = some (.inl (cy 6, 4, .inr (.inr (.inr (.inr ge))))) := k1033 _ _ a1084 (z_ne a1084 a914 rfl) (z_neA a1084 a1027 rfl)
              have a1086 : f1 ke = some (.inr (6, [.ref kn, .ref vq, .int (nI ks)])) := k4 _ _ x_ke (z_ne x_ke x_fa rfl)
              have a1087 : f8 ke = some (.inr (6, [.ref kn, .ref vq, .int (nI ks)])) := k10 _ _ a1086 
              have a1088 : f799 ke = some (.inr (6, [.ref kn, .ref vq, .int (nI ks)])) := k801 _ _ a1087 
              have a1089 : f804 ke = some (.inr (6, [.ref kn, .ref vq, .int (nI ks)])) := k806 _ _ a1088 
              have a1090 : f910 ke = some (.inr (6, [.ref kn, .ref vq, .int (nI ks)])) := k912 _ _ a1089 
              have a1091 : f1028 ke = some (.inr (6, [.ref kn, .ref vq, .int (nI ks)])) := k1033 _ _ a1090 (z_ne a1090 a914 rfl) (z_neO a1090 a1027 rfl)
              have a1092 : f1 kn = some (.inl (cy 0, 40, .inl kk)) := k4 _ _ x_kn (z_ne x_kn x_fa rfl)
              have a1093 : f8 kn = some (.inl (cy 0, 40, .inl kk)) := k10 _ _ a1092 
              have a1094 : f799 kn = some (.inl (cy 0, 40, .inl kk)) := k801 _ _ a1093 
              have a1095 : f804 kn = some (.inl (cy 0, 40, .inl kk)) := k806 _ _ a1094 
              have a1096 : f910 kn = some (.inl (cy 0, 40, .inl kk)) := k912 _ _ a1095 
              have a1097 : f1028 kn = some (.inl (cy 0, 40, .inl kk)) := k1033 _ _ a1096 (z_ne a1096 a914 rfl) (z_neA a1096 a1027 rfl)
              have a1098 : f1 vq = some (.inl (cy 0, 40, .inl kv)) := k4 _ _ x_vq (z_ne x_vq x_fa rfl)
              have a1099 : f8 vq = some (.inl (cy 0, 40, .inl kv)) := k10 _ _ a1098 
              have a1100 : f799 vq = some (.inl (cy 0, 40, .inl kv)) := k801 _ _ a1099 
              have a1101 : f804 vq = some (.inl (cy 0, 40, .inl kv)) := k806 _ _ a1100 
              have a1102 : f910 vq = some (.inl (cy 0, 40, .inl kv)) := k912 _ _ a1101 
              have a1103 : f1028 vq = some (.inl (cy 0, 40, .inl kv)) := k1033 _ _ a1102 (z_ne a1102 a914 rfl) (z_neA a1102 a1027 rfl)
              have F1104 : ∀ i9 : Nat, i9 < nn → f910 (fg i9) = some (.inr (4, [.int (kd i9), .ref (pt i9), .long (wg i9), .int (wd i9), .int (nI i9), .int (hs i9), .int (bf i9)])) := fun i9 h9 => k912 _ _ (F811 i9 h9) 
              have F1105 : ∀ i9 : Nat, i9 < nn → f1028 (fg i9) = some (.inr (4, [.int (kd i9), .ref (pt i9), .long (va_up wg ja wg_1030 i9), .int (wd i9), .int (nI i9), .int (hs i9), .int (bf i9)])) := z_famC (f := f) (T := fun i9 => .inr (4, [.int (kd i9), .ref (pt i9), .long (wg i9), .int (wd i9), .int (nI i9), .int (hs i9), .int (bf i9)])) (T' := fun i9 => .inr (4, [.int (kd i9), .ref (pt i9), .long (va_up wg ja wg_1030 i9), .int (wd i9), .int (nI i9), .int (hs i9), .int (bf i9)])) hja (by simp only [va_up_self]; exact a1031) (fun i9 h9 n9 => k1033 _ _ (F1104 i9 h9) n9 (z_neO (F1104 i9 h9) a1027 rfl)) (fun i9 h9 => by simp only [va_up_ne _ _ h9]) (fun i9 h9 => hfi i9 h9 ja hja)
              have F1106 : ∀ i9 : Nat, i9 < nn → f910 (pt i9) = some (.inl (cy 1, (ln i9), .inr (.inl (pp i9)))) := fun i9 h9 => k912 _ _ (F908 i9 h9) 
              have F1107 : ∀ i9 : Nat, i9 < nn → f1028 (pt i9) = some (.inl (cy 1, (ln i9), .inr (.inl (va_up pp ja (vp_updL (pp ja) (1 + kx) z.toInt64) i9)))) := z_famC (f := f) (T := fun i9 => .inl (cy 1, (ln i9), .inr (.inl (pp i9)))) (T' := fun i9 => .inl (cy 1, (ln i9), .inr (.inl (va_up pp ja (vp_updL (pp ja) (1 + kx) z.toInt64) i9)))) hja (by simp only [va_up_self]; exact a1032) (fun i9 h9 n9 => k1033 _ _ (F1106 i9 h9) (z_neO (F1106 i9 h9) a914 rfl) n9) (fun i9 h9 => by simp only [va_up_ne _ _ h9]) (fun i9 h9 => hpi i9 h9 ja hja)
              have F1108 : ∀ i9 : Nat, i9 < nf → f1 (fq i9) = some (.inr (3, [.ref (fk i9), .int (nI (fz i9))])) := fun i9 h9 => k4 _ _ (hFq i9 h9) (z_ne (hFq i9 h9) x_fa rfl)
              have F1109 : ∀ i9 : Nat, i9 < nf → f8 (fq i9) = some (.inr (3, [.ref (fk i9), .int (nI (fz i9))])) := fun i9 h9 => k10 _ _ (F1108 i9 h9) 
              have F1110 : ∀ i9 : Nat, i9 < nf → f799 (fq i9) = some (.inr (3, [.ref (fk i9), .int (nI (fz i9))])) := fun i9 h9 => k801 _ _ (F1109 i9 h9) 
              have F1111 : ∀ i9 : Nat, i9 < nf → f804 (fq i9) = some (.inr (3, [.ref (fk i9), .int (nI (fz i9))])) := fun i9 h9 => k806 _ _ (F1110 i9 h9) 
              have F1112 : ∀ i9 : Nat, i9 < nf → f910 (fq i9) = some (.inr (3, [.ref (fk i9), .int (nI (fz i9))])) := fun i9 h9 => k912 _ _ (F1111 i9 h9) 
              have F1113 : ∀ i9 : Nat, i9 < nf → f1028 (fq i9) = some (.inr (3, [.ref (fk i9), .int (nI (fz i9))])) := fun i9 h9 => k1033 _ _ (F1112 i9 h9) (z_ne (F1112 i9 h9) a914 rfl) (z_neO (F1112 i9 h9) a1027 rfl)
              have F1114 : ∀ i9 : Nat, i9 < nf → f1 (fk i9) = some (.inl (cy 0, 4, .inl (fc i9))) := fun i9 h9 => k4 _ _ (hFk i9 h9) (z_ne (hFk i9 h9) x_fa rfl)
              have F1115 : ∀ i9 : Nat, i9 < nf → f8 (fk i9) = some (.inl (cy 0, 4, .inl (fc i9))) := fun i9 h9 => k10 _ _ (F1114 i9 h9) 
              have F1116 : ∀ i9 : Nat, i9 < nf → f799 (fk i9) = some (.inl (cy 0, 4, .inl (fc i9))) := fun i9 h9 => k801 _ _ (F1115 i9 h9) 
              have F1117 : ∀ i9 : Nat, i9 < nf → f804 (fk i9) = some (.inl (cy 0, 4, .inl (fc i9))) := fun i9 h9 => k806 _ _ (F1116 i9 h9) 
              have F1118 : ∀ i9 : Nat, i9 < nf → f910 (fk i9) = some (.inl (cy 0, 4, .inl (fc i9))) := fun i9 h9 => k912 _ _ (F1117 i9 h9) 
              have F1119 : ∀ i9 : Nat, i9 < nf → f1028 (fk i9) = some (.inl (cy 0, 4, .inl (fc i9))) := fun i9 h9 => k1033 _ _ (F1118 i9 h9) (z_ne (F1118 i9 h9) a914 rfl) (z_neA (F1118 i9 h9) a1027 rfl)
              have F1120 : ∀ i9 : Nat, i9 < nc → f1 (cn i9) = some (.inr (0, [.int (ce i9), .int (cm i9)])) := fun i9 h9 => k4 _ _ (hCn i9 h9) (z_ne (hCn i9 h9) x_fa rfl)
              have F1121 : ∀ i9 : Nat, i9 < nc → f8 (cn i9) = some (.inr (0, [.int (ce i9), .int (cm i9)])) := fun i9 h9 => k10 _ _ (F1120 i9 h9) 
              have F1122 : ∀ i9 : Nat, i9 < nc → f799 (cn i9) = some (.inr (0, [.int (ce i9), .int (cm i9)])) := fun i9 h9 => k801 _ _ (F1121 i9 h9) 
              have F1123 : ∀ i9 : Nat, i9 < nc → f804 (cn i9) = some (.inr (0, [.int (ce i9), .int (cm i9)])) := fun i9 h9 => k806 _ _ (F1122 i9 h9) 
              have F1124 : ∀ i9 : Nat, i9 < nc → f910 (cn i9) = some (.inr (0, [.int (ce i9), .int (cm i9)])) := fun i9 h9 => k912 _ _ (F1123 i9 h9) 
              have F1125 : ∀ i9 : Nat, i9 < nc → f1028 (cn i9) = some (.inr (0, [.int (ce i9), .int (cm i9)])) := fun i9 h9 => k1033 _ _ (F1124 i9 h9) (z_ne (F1124 i9 h9) a914 rfl) (z_neO (F1124 i9 h9) a1027 rfl)
              have F1126 : ∀ i9 : Nat, i9 < 4 → f1 (ea i9) = some (.inr (1, [.ref (ma i9), .int (nI (sq i9))])) := fun i9 h9 => k4 _ _ (hEa i9 h9) (z_ne (hEa i9 h9) x_fa rfl)
              have F1127 : ∀ i9 : Nat, i9 < 4 → f8 (ea i9) = some (.inr (1, [.ref (ma i9), .int (nI (sq i9))])) := fun i9 h9 => k10 _ _ (F1126 i9 h9) 
              have F1128 : ∀ i9 : Nat, i9 < 4 → f799 (ea i9) = some (.inr (1, [.ref (ma i9), .int (nI (sq i9))])) := fun i9 h9 => k801 _ _ (F1127 i9 h9) 
              have F1129 : ∀ i9 : Nat, i9 < 4 → f804 (ea i9) = some (.inr (1, [.ref (ma i9), .int (nI (sq i9))])) := fun i9 h9 => k806 _ _ (F1128 i9 h9) 
              have F1130 : ∀ i9 : Nat, i9 < 4 → f910 (ea i9) = some (.inr (1, [.ref (ma i9), .int (nI (sq i9))])) := fun i9 h9 => k912 _ _ (F1129 i9 h9) 
              have F1131 : ∀ i9 : Nat, i9 < 4 → f1028 (ea i9) = some (.inr (1, [.ref (ma i9), .int (nI (sq i9))])) := fun i9 h9 => k1033 _ _ (F1130 i9 h9) (z_ne (F1130 i9 h9) a914 rfl) (z_neO (F1130 i9 h9) a1027 rfl)
              have F1132 : ∀ i9 : Nat, i9 < 4 → f1 (ma i9) = some (.inl (cy 0, 60, .inl (mb i9))) := fun i9 h9 => k4 _ _ (hMa i9 h9) (z_ne (hMa i9 h9) x_fa rfl)
              have F1133 : ∀ i9 : Nat, i9 < 4 → f8 (ma i9) = some (.inl (cy 0, 60, .inl (mb i9))) := fun i9 h9 => k10 _ _ (F1132 i9 h9) 
              have F1134 : ∀ i9 : Nat, i9 < 4 → f799 (ma i9) = some (.inl (cy 0, 60, .inl (mb i9))) := fun i9 h9 => k801 _ _ (F1133 i9 h9) 
              have F1135 : ∀ i9 : Nat, i9 < 4 → f804 (ma i9) = some (.inl (cy 0, 60, .inl (mb i9))) := fun i9 h9 => k806 _ _ (F1134 i9 h9) 
              have F1136 : ∀ i9 : Nat, i9 < 4 → f910 (ma i9) = some (.inl (cy 0, 60, .inl (mb i9))) := fun i9 h9 => k912 _ _ (F1135 i9 h9) 
              have F1137 : ∀ i9 : Nat, i9 < 4 → f1028 (ma i9) = some (.inl (cy 0, 60, .inl (mb i9))) := fun i9 h9 => k1033 _ _ (F1136 i9 h9) (z_ne (F1136 i9 h9) a914 rfl) (z_neA (F1136 i9 h9) a1027 rfl)
              have hq : q_set nn kd ln wd x y z = (1, 0, (-1), 0) := by simp [q_set, oF_m1 nn, hFa, hIa, hNa, hFb, hOc, hc9, hPa, hIy, c807, c813, c913, c915]
              exact z_iret C hr rfl hz hS ⟨0, (-1), 0, gv, nl, gu, nn, ga, gr, fg, pt, kd, ln, (va_up pp ja (vp_updL (pp ja) (1 + kx) z.toInt64)), (va_up wg ja wg_1030), wd, hs, bf, nf, gf, fq, fk, fz, fc, nc, gc, cn, ce, cm, sq, mb, ks, kk, kv, lk, (by rw [hq]), (by rw [hq]), (by rw [hq]), (by rw [hq]), (by rw [hq]; exact (zEV0 gv).symm), rfl, rfl, rfl, rfl, rfl, (by rw [if_pos rfl, hIa, hIy]), rfl, rfl, rfl, rfl, rfl, rfl, rfl, rfl, rfl, rfl, rfl, rfl, rfl, rfl, ⟨a1036, a1041, a1047, a1050, a1055, a1061, a1067, a1073, a1079, a1085, a1091, a1097, a1103, F1105, F1107, F1113, F1119, F1125, F1131, F1137, hn60, hl12, hf6, hc60, hs40, hga, hgr, hln, hk5, hk4, hfi, hpi, har, hgf, hfz, hgc, hG, hsq, hei, hmi, kne, hca, hcr, hlk⟩⟩ (Nat.le_of_ble_eq_true rfl) (Nat.le_of_ble_eq_true rfl) dX7_set_138
          · have hPa : isP (ln ja) y = false := isP_f c913
            refine lv_aload_n hx hb dX7_set_90 rfl (lv_at hl 2 rfl) ?_
            have a1138 : f804 o = some (.inr (7, [.ref fa, .ref fi, .ref nu, .int (nI nl), .ref fm, .int (nI nf), .ref co, .int (nI nc), .ref en, .ref ke, .long lk])) := k806 _ _ a802 
            have a1139 : f910 o = some (.inr (7, [.ref fa, .ref fi, .ref nu, .int (nI nl), .ref fm, .int (nI nf), .ref co, .int (nI nc), .ref en, .ref ke, .long lk])) := k912 _ _ a1138 
            refine z_get (v := .ref fa) C hz a1139 zl7 mFX7_10 (by decide) rfl dX7_set_91 ?_
            refine lv_iconst (v := 2) hx hb dX7_set_94 (by decide) ?_
            have a1140 : f8 fa = some (.inr (2, [.int 0, .int (-1), .int 0, .ref ev])) := k10 _ _ a3 
            have a1141 : f799 fa = some (.inr (2, [.int 0, .int (-1), .int 0, .ref ev])) := k801 _ _ a1140 
            have a1142 : f804 fa = some (.inr (2, [.int 0, .int (-1), .int 0, .ref ev])) := k806 _ _ a1141 
            have a1143 : f910 fa = some (.inr (2, [.int 0, .int (-1), .int 0, .ref ev])) := k912 _ _ a1142 
            have a1144 : f1 ev = some (.inl (cy 0, 8, .inl gv)) := k4 _ _ x_ev (z_ne x_ev x_fa rfl)
            have a1145 : f8 ev = some (.inl (cy 0, 8, .inl gv)) := k10 _ _ a1144 
            have a1146 : f799 ev = some (.inl (cy 0, 8, .inl gv)) := k801 _ _ a1145 
            have a1147 : f804 ev = some (.inl (cy 0, 8, .inl gv)) := k806 _ _ a1146 
            have a1148 : f910 ev = some (.inl (cy 0, 8, .inl gv)) := k912 _ _ a1147 
            refine z_callVi (As := [.int 2]) C hz hS hA hl (k_X2_inNoPart l D cy f910 fa 2 0 (-1) 0 ev gv 2 a1143 a1148 (by decide) (Nat.le_of_ble_eq_true rfl)) zyX2_inNoPart mMX7_140 a1143 zl2 rfl rfl (Nat.le_of_ble_eq_true rfl) ⟨Nat.le_of_ble_eq_true rfl, Nat.le_of_ble_eq_true rfl⟩ ⟨Nat.le_of_ble_eq_true rfl, Nat.le_of_ble_eq_true rfl⟩ dX7_set_95 (fun r f1149 H locs h1150 hz hS => ?_)
            obtain ⟨rfl, a1151, a1152, k1153⟩ := h1150
            have a1154 : f1149 o = some (.inr (7, [.ref fa, .ref fi, .ref nu, .int (nI nl), .ref fm, .int (nI nf), .ref co, .int (nI nc), .ref en, .ref ke, .long lk])) := k1153 _ _ a1139 (z_ne a1139 a1143 rfl) (z_ne a1139 a1148 rfl)
            have a1155 : f804 fi = some (.inr (5, [.ref al, .ref ra, .int (nI nn)])) := k806 _ _ a803 
            have a1156 : f910 fi = some (.inr (5, [.ref al, .ref ra, .int (nI nn)])) := k912 _ _ a1155 
            have a1157 : f1149 fi = some (.inr (5, [.ref al, .ref ra, .int (nI nn)])) := k1153 _ _ a1156 (z_ne a1156 a1143 rfl) (z_ne a1156 a1148 rfl)
            have a1158 : f8 al = some (.inl (cy 3, 60, .inr (.inr (.inr (.inr ga))))) := k10 _ _ a7 
            have a1159 : f799 al = some (.inl (cy 3, 60, .inr (.inr (.inr (.inr ga))))) := k801 _ _ a1158 
            have a1160 : f804 al = some (.inl (cy 3, 60, .inr (.inr (.inr (.inr ga))))) := k806 _ _ a1159 
            have a1161 : f910 al = some (.inl (cy 3, 60, .inr (.inr (.inr (.inr ga))))) := k912 _ _ a1160 
            have a1162 : f1149 al = some (.inl (cy 3, 60, .inr (.inr (.inr (.inr ga))))) := k1153 _ _ a1161 (z_ne a1161 a1143 rfl) (z_ne a1161 a1148 rfl)
            have a1163 : f1 ra = some (.inl (cy 3, 60, .inr (.inr (.inr (.inr gr))))) := k4 _ _ x_ra (z_ne x_ra x_fa rfl)
            have a1164 : f8 ra = some (.inl (cy 3, 60, .inr (.inr (.inr (.inr gr))))) := k10 _ _ a1163 
            have a1165 : f799 ra = some (.inl (cy 3, 60, .inr (.inr (.inr (.inr gr))))) := k801 _ _ a1164 
            have a1166 : f804 ra = some (.inl (cy 3, 60, .inr (.inr (.inr (.inr gr))))) := k806 _ _ a1165 
            have a1167 : f910 ra = some (.inl (cy 3, 60, .inr (.inr (.inr (.inr gr))))) := k912 _ _ a1166 
            have a1168 : f1149 ra = some (.inl (cy 3, 60, .inr (.inr (.inr (.inr gr))))) := k1153 _ _ a1167 (z_ne a1167 a1143 rfl) (z_ne a1167 a1148 rfl)
            have a1169 : f1 nu = some (.inl (cy 0, 12, .inl gu)) := k4 _ _ x_nu (z_ne x_nu x_fa rfl)
            have a1170 : f8 nu = some (.inl (cy 0, 12, .inl gu)) := k10 _ _ a1169 
            have a1171 : f799 nu = some (.inl (cy 0, 12, .inl gu)) := k801 _ _ a1170 
            have a1172 : f804 nu = some (.inl (cy 0, 12, .inl gu)) := k806 _ _ a1171 
            have a1173 : f910 nu = some (.inl (cy 0, 12, .inl gu)) := k912 _ _ a1172 
            have a1174 : f1149 nu = some (.inl (cy 0, 12, .inl gu)) := k1153 _ _ a1173 (z_ne a1173 a1143 rfl) (z_ne a1173 a1148 rfl)
            have a1175 : f1 fm = some (.inl (cy 4, 6, .inr (.inr (.inr (.inr gf))))) := k4 _ _ x_fm (z_ne x_fm x_fa rfl)
            have a1176 : f8 fm = some (.inl (cy 4, 6, .inr (.inr (.inr (.inr gf))))) := k10 _ _ a1175 
            have a1177 : f799 fm = some (.inl (cy 4, 6, .inr (.inr (.inr (.inr gf))))) := k801 _ _ a1176 
            have a1178 : f804 fm = some (.inl (cy 4, 6, .inr (.inr (.inr (.inr gf))))) := k806 _ _ a1177 
            have a1179 : f910 fm = some (.inl (cy 4, 6, .inr (.inr (.inr (.inr gf))))) := k912 _ _ a1178 
            have a1180 : f1149 fm = some (.inl (cy 4, 6, .inr (.inr (.inr (.inr gf))))) := k1153 _ _ a1179 (z_ne a1179 a1143 rfl) (z_ne a1179 a1148 rfl)
            have a1181 : f1 co = some (.inl (cy 5, 60, .inr (.inr (.inr (.inr gc))))) := k4 _ _ x_co (z_ne x_co x_fa rfl)
            have a1182 : f8 co = some (.inl (cy 5, 60, .inr (.inr (.inr (.inr gc))))) := k10 _ _ a1181 
            have a1183 : f799 co = some (.inl (cy 5, 60, .inr (.inr (.inr (.inr gc))))) := k801 _ _ a1182 
            have a1184 : f804 co = some (.inl (cy 5, 60, .inr (.inr (.inr (.inr gc))))) := k806 _ _ a1183 
            have a1185 : f910 co = some (.inl (cy 5, 60, .inr (.inr (.inr (.inr gc))))) := k912 _ _ a1184 
            have a1186 : f1149 co = some (.inl (cy 5, 60, .inr (.inr (.inr (.inr gc))))) := k1153 _ _ a1185 (z_ne a1185 a1143 rfl) (z_ne a1185 a1148 rfl)
            have a1187 : f1 en = some (.inl (cy 6, 4, .inr (.inr (.inr (.inr ge))))) := k4 _ _ x_en (z_ne x_en x_fa rfl)
            have a1188 : f8 en = some (.inl (cy 6, 4, .inr (.inr (.inr (.inr ge))))) := k10 _ _ a1187 
            have a1189 : f799 en = some (.inl (cy 6, 4, .inr (.inr (.inr (.inr ge))))) := k801 _ _ a1188 
            have a1190 : f804 en = some (.inl (cy 6, 4, .inr (.inr (.inr (.inr ge))))) := k806 _ _ a1189 
            have a1191 : f910 en = some (.inl (cy 6, 4, .inr (.inr (.inr (.inr ge))))) := k912 _ _ a1190 
            have a1192 : f1149 en = some (.inl (cy 6, 4, .inr (.inr (.inr (.inr ge))))) := k1153 _ _ a1191 (z_ne a1191 a1143 rfl) (z_ne a1191 a1148 rfl)
            have a1193 : f1 ke = some (.inr (6, [.ref kn, .ref vq, .int (nI ks)])) := k4 _ _ x_ke (z_ne x_ke x_fa rfl)
            have a1194 : f8 ke = some (.inr (6, [.ref kn, .ref vq, .int (nI ks)])) := k10 _ _ a1193 
            have a1195 : f799 ke = some (.inr (6, [.ref kn, .ref vq, .int (nI ks)])) := k801 _ _ a1194 
            have a1196 : f804 ke = some (.inr (6, [.ref kn, .ref vq, .int (nI ks)])) := k806 _ _ a1195 
            have a1197 : f910 ke = some (.inr (6, [.ref kn, .ref vq, .int (nI ks)])) := k912 _ _ a1196 
            have a1198 : f1149 ke = some (.inr (6, [.ref kn, .ref vq, .int (nI ks)])) := k1153 _ _ a1197 (z_ne a1197 a1143 rfl) (z_ne a1197 a1148 rfl)
            have a1199 : f1 kn = some (.inl (cy 0, 40, .inl kk)) := k4 _ _ x_kn (z_ne x_kn x_fa rfl)
            have a1200 : f8 kn = some (.inl (cy 0, 40, .inl kk)) := k10 _ _ a1199 
            have a1201 : f799 kn = some (.inl (cy 0, 40, .inl kk)) := k801 _ _ a1200 
            have a1202 : f804 kn = some (.inl (cy 0, 40, .inl kk)) := k806 _ _ a1201 
            have a1203 : f910 kn = some (.inl (cy 0, 40, .inl kk)) := k912 _ _ a1202 
            have a1204 : f1149 kn = some (.inl (cy 0, 40, .inl kk)) := k1153 _ _ a1203 (z_ne a1203 a1143 rfl) (z_ne a1203 a1148 rfl)
            have a1205 : f1 vq = some (.inl (cy 0, 40, .inl kv)) := k4 _ _ x_vq (z_ne x_vq x_fa rfl)
            have a1206 : f8 vq = some (.inl (cy 0, 40, .inl kv)) := k10 _ _ a1205 
            have a1207 : f799 vq = some (.inl (cy 0, 40, .inl kv)) := k801 _ _ a1206 
            have a1208 : f804 vq = some (.inl (cy 0, 40, .inl kv)) := k806 _ _ a1207 
            have a1209 : f910 vq = some (.inl (cy 0, 40, .inl kv)) := k912 _ _ a1208 
            have a1210 : f1149 vq = some (.inl (cy 0, 40, .inl kv)) := k1153 _ _ a1209 (z_ne a1209 a1143 rfl) (z_ne a1209 a1148 rfl)
            have F1211 : ∀ i9 : Nat, i9 < nn → f910 (fg i9) = some (.inr (4, [.int (kd i9), .ref (pt i9), .long (wg i9), .int (wd i9), .int (nI i9), .int (hs i9), .int (bf i9)])) := fun i9 h9 => k912 _ _ (F811 i9 h9) 
            have F1212 : ∀ i9 : Nat, i9 < nn → f1149 (fg i9) = some (.inr (4, [.int (kd i9), .ref (pt i9), .long (wg i9), .int (wd i9), .int (nI i9), .int (hs i9), .int (bf i9)])) := fun i9 h9 => k1153 _ _ (F1211 i9 h9) (z_ne (F1211 i9 h9) a1143 rfl) (z_ne (F1211 i9 h9) a1148 rfl)
            have F1213 : ∀ i9 : Nat, i9 < nn → f910 (pt i9) = some (.inl (cy 1, (ln i9), .inr (.inl (pp i9)))) := fun i9 h9 => k912 _ _ (F908 i9 h9) 
            have F1214 : ∀ i9 : Nat, i9 < nn → f1149 (pt i9) = some (.inl (cy 1, (ln i9), .inr (.inl (pp i9)))) := fun i9 h9 => k1153 _ _ (F1213 i9 h9) (z_neO (F1213 i9 h9) a1143 rfl) (z_neA (F1213 i9 h9) a1148 rfl)
            have F1215 : ∀ i9 : Nat, i9 < nf → f1 (fq i9) = some (.inr (3, [.ref (fk i9), .int (nI (fz i9))])) := fun i9 h9 => k4 _ _ (hFq i9 h9) (z_ne (hFq i9 h9) x_fa rfl)
            have F1216 : ∀ i9 : Nat, i9 < nf → f8 (fq i9) = some (.inr (3, [.ref (fk i9), .int (nI (fz i9))])) := fun i9 h9 => k10 _ _ (F1215 i9 h9) 
            have F1217 : ∀ i9 : Nat, i9 < nf → f799 (fq i9) = some (.inr (3, [.ref (fk i9), .int (nI (fz i9))])) := fun i9 h9 => k801 _ _ (F1216 i9 h9) 
            have F1218 : ∀ i9 : Nat, i9 < nf → f804 (fq i9) = some (.inr (3, [.ref (fk i9), .int (nI (fz i9))])) := fun i9 h9 => k806 _ _ (F1217 i9 h9) 
            have F1219 : ∀ i9 : Nat, i9 < nf → f910 (fq i9) = some (.inr (3, [.ref (fk i9), .int (nI (fz i9))])) := fun i9 h9 => k912 _ _ (F1218 i9 h9) 
            have F1220 : ∀ i9 : Nat, i9 < nf → f1149 (fq i9) = some (.inr (3, [.ref (fk i9), .int (nI (fz i9))])) := fun i9 h9 => k1153 _ _ (F1219 i9 h9) (z_ne (F1219 i9 h9) a1143 rfl) (z_ne (F1219 i9 h9) a1148 rfl)
            have F1221 : ∀ i9 : Nat, i9 < nf → f1 (fk i9) = some (.inl (cy 0, 4, .inl (fc i9))) := fun i9 h9 => k4 _ _ (hFk i9 h9) (z_ne (hFk i9 h9) x_fa rfl)
            have F1222 : ∀ i9 : Nat, i9 < nf → f8 (fk i9) = some (.inl (cy 0, 4, .inl (fc i9))) := fun i9 h9 => k10 _ _ (F1221 i9 h9) 
            have F1223 : ∀ i9 : Nat, i9 < nf → f799 (fk i9) = some (.inl (cy 0, 4, .inl (fc i9))) := fun i9 h9 => k801 _ _ (F1222 i9 h9) 
            have F1224 : ∀ i9 : Nat, i9 < nf → f804 (fk i9) = some (.inl (cy 0, 4, .inl (fc i9))) := fun i9 h9 => k806 _ _ (F1223 i9 h9) 
            have F1225 : ∀ i9 : Nat, i9 < nf → f910 (fk i9) = some (.inl (cy 0, 4, .inl (fc i9))) := fun i9 h9 => k912 _ _ (F1224 i9 h9) 
            have F1226 : ∀ i9 : Nat, i9 < nf → f1149 (fk i9) = some (.inl (cy 0, 4, .inl (fc i9))) := fun i9 h9 => k1153 _ _ (F1225 i9 h9) (z_ne (F1225 i9 h9) a1143 rfl) (z_ne (F1225 i9 h9) a1148 rfl)
            have F1227 : ∀ i9 : Nat, i9 < nc → f1 (cn i9) = some (.inr (0, [.int (ce i9), .int (cm i9)])) := fun i9 h9 => k4 _ _ (hCn i9 h9) (z_ne (hCn i9 h9) x_fa rfl)
            have F1228 : ∀ i9 : Nat, i9 < nc → f8 (cn i9) = some (.inr (0, [.int (ce i9), .int (cm i9)])) := fun i9 h9 => k10 _ _ (F1227 i9 h9) 
            have F1229 : ∀ i9 : Nat, i9 < nc → f799 (cn i9) = some (.inr (0, [.int (ce i9), .int (cm i9)])) := fun i9 h9 => k801 _ _ (F1228 i9 h9) 
            have F1230 : ∀ i9 : Nat, i9 < nc → f804 (cn i9) = some (.inr (0, [.int (ce i9), .int (cm i9)])) := fun i9 h9 => k806 _ _ (F1229 i9 h9) 
            have F1231 : ∀ i9 : Nat, i9 < nc → f910 (cn i9) = some (.inr (0, [.int (ce i9), .int (cm i9)])) := fun i9 h9 => k912 _ _ (F1230 i9 h9) 
            have F1232 : ∀ i9 : Nat, i9 < nc → f1149 (cn i9) = some (.inr (0, [.int (ce i9), .int (cm i9)])) := fun i9 h9 => k1153 _ _ (F1231 i9 h9) (z_ne (F1231 i9 h9) a1143 rfl) (z_ne (F1231 i9 h9) a1148 rfl)
            have F1233 : ∀ i9 : Nat, i9 < 4 → f1 (ea i9) = some (.inr (1, [.ref (ma i9), .int (nI (sq i9))])) := fun i9 h9 => k4 _ _ (hEa i9 h9) (z_ne (hEa i9 h9) x_fa rfl)
            have F1234 : ∀ i9 : Nat, i9 < 4 → f8 (ea i9) = some (.inr (1, [.ref (ma i9), .int (nI (sq i9))])) := fun i9 h9 => k10 _ _ (F1233 i9 h9) 
            have F1235 : ∀ i9 : Nat, i9 < 4 → f799 (ea i9) = some (.inr (1, [.ref (ma i9), .int (nI (sq i9))])) := fun i9 h9 => k801 _ _ (F1234 i9 h9) 
            have F1236 : ∀ i9 : Nat, i9 < 4 → f804 (ea i9) = some (.inr (1, [.ref (ma i9), .int (nI (sq i9))])) := fun i9 h9 => k806 _ _ (F1235 i9 h9) 
            have F1237 : ∀ i9 : Nat, i9 < 4 → f910 (ea i9) = some (.inr (1, [.ref (ma i9), .int (nI (sq i9))])) := fun i9 h9 => k912 _ _ (F1236 i9 h9) 
            have F1238 : ∀ i9 : Nat, i9 < 4 → f1149 (ea i9) = some (.inr (1, [.ref (ma i9), .int (nI (sq i9))])) := fun i9 h9 => k1153 _ _ (F1237 i9 h9) (z_ne (F1237 i9 h9) a1143 rfl) (z_ne (F1237 i9 h9) a1148 rfl)
            have F1239 : ∀ i9 : Nat, i9 < 4 → f1 (ma i9) = some (.inl (cy 0, 60, .inl (mb i9))) := fun i9 h9 => k4 _ _ (hMa i9 h9) (z_ne (hMa i9 h9) x_fa rfl)
            have F1240 : ∀ i9 : Nat, i9 < 4 → f8 (ma i9) = some (.inl (cy 0, 60, .inl (mb i9))) := fun i9 h9 => k10 _ _ (F1239 i9 h9) 
            have F1241 : ∀ i9 : Nat, i9 < 4 → f799 (ma i9) = some (.inl (cy 0, 60, .inl (mb i9))) := fun i9 h9 => k801 _ _ (F1240 i9 h9) 
            have F1242 : ∀ i9 : Nat, i9 < 4 → f804 (ma i9) = some (.inl (cy 0, 60, .inl (mb i9))) := fun i9 h9 => k806 _ _ (F1241 i9 h9) 
            have F1243 : ∀ i9 : Nat, i9 < 4 → f910 (ma i9) = some (.inl (cy 0, 60, .inl (mb i9))) := fun i9 h9 => k912 _ _ (F1242 i9 h9) 
            have F1244 : ∀ i9 : Nat, i9 < 4 → f1149 (ma i9) = some (.inl (cy 0, 60, .inl (mb i9))) := fun i9 h9 => k1153 _ _ (F1243 i9 h9) (z_ne (F1243 i9 h9) a1143 rfl) (z_ne (F1243 i9 h9) a1148 rfl)
            have hq : q_set nn kd ln wd x y z = ((-4), 2, (-1), 0) := by simp [q_set, oF_m1 nn, hFa, hIa, hNa, hFb, hOc, hc9, hPa, c807, c813, c913]
            exact z_iret C hr rfl hz hS ⟨2, (-1), 0, (upd gv 2 (gv 2 + 1)), nl, gu, nn, ga, gr, fg, pt, kd, ln, pp, wg, wd, hs, bf, nf, gf, fq, fk, fz, fc, nc, gc, cn, ce, cm, sq, mb, ks, kk, kv, lk, (by rw [hq]), (by rw [hq]), (by rw [hq]), (by rw [hq]), (by rw [hq]; exact (zEV2 gv).symm), rfl, rfl, rfl, rfl, rfl, (by rw [if_neg (by decide)]), rfl, rfl, rfl, rfl, rfl, rfl, rfl, rfl, rfl, rfl, rfl, rfl, rfl, rfl, ⟨a1154, a1151, a1152, a1157, a1162, a1168, a1174, a1180, a1186, a1192, a1198, a1204, a1210, F1212, F1214, F1220, F1226, F1232, F1238, F1244, hn60, hl12, hf6, hc60, hs40, hga, hgr, hln, hk5, hk4, hfi, hpi, har, hgf, hfz, hgc, hG, hsq, hei, hmi, kne, hca, hcr, hlk⟩⟩ (Nat.le_of_ble_eq_true rfl) (Nat.le_of_ble_eq_true rfl) dX7_set_98
      · have hOc : oF nn z = false := oF_f hn60 hc hvb
        have a1245 : f799 fi = some (.inr (5, [.ref al, .ref ra, .int (nI nn)])) := k801 _ _ a798 
        refine z_callVi (As := [.int z]) C hz hS hA hl (k_X5_hasOrNone_B l D cy f799 fi al ra nn z a1245 hc hvb hn60) zyX5_hasOrNone mMX7_112 a1245 zl5 rfl rfl (Nat.le_of_ble_eq_true rfl) ⟨Nat.le_of_ble_eq_true rfl, Nat.le_of_ble_eq_true rfl⟩ ⟨Nat.le_of_ble_eq_true rfl, Nat.le_of_ble_eq_true rfl⟩ dX7_set_39 (fun r f1246 H locs h1247 hz hS => ?_)
        obtain ⟨rfl, k1248⟩ := h1247
        refine lv_if_ne (tgt := 48) hx hb dX7_set_42 (by decide) (fun c1249 => ?_) (fun c1249 => ?_)
        · exact absurd c1249 (by decide)
        refine lv_bipush (v := (-2)) hx hb dX7_set_45 (by decide) ?_
        have a1250 : f1246 o = some (.inr (7, [.ref fa, .ref fi, .ref nu, .int (nI nl), .ref fm, .int (nI nf), .ref co, .int (nI nc), .ref en, .ref ke, .long lk])) := k1248 _ _ a802 
        have a1251 : f8 fa = some (.inr (2, [.int 0, .int (-1), .int 0, .ref ev])) := k10 _ _ a3 
        have a1252 : f799 fa = some (.inr (2, [.int 0, .int (-1), .int 0, .ref ev])) := k801 _ _ a1251 
        have a1253 : f1246 fa = some (.inr (2, [.int 0, .int (-1), .int 0, .ref ev])) := k1248 _ _ a1252 
        have a1254 : f1 ev = some (.inl (cy 0, 8, .inl gv)) := k4 _ _ x_ev (z_ne x_ev x_fa rfl)
        have a1255 : f8 ev = some (.inl (cy 0, 8, .inl gv)) := k10 _ _ a1254 
        have a1256 : f799 ev = some (.inl (cy 0, 8, .inl gv)) := k801 _ _ a1255 
        have a1257 : f1246 ev = some (.inl (cy 0, 8, .inl gv)) := k1248 _ _ a1256 
        have a1258 : f1246 fi = some (.inr (5, [.ref al, .ref ra, .int (nI nn)])) := k1248 _ _ a1245 
        have a1259 : f8 al = some (.inl (cy 3, 60, .inr (.inr (.inr (.inr ga))))) := k10 _ _ a7 
        have a1260 : f799 al = some (.inl (cy 3, 60, .inr (.inr (.inr (.inr ga))))) := k801 _ _ a1259 
        have a1261 : f1246 al = some (.inl (cy 3, 60, .inr (.inr (.inr (.inr ga))))) := k1248 _ _ a1260 
        have a1262 : f1 ra = some (.inl (cy 3, 60, .inr (.inr (.inr (.inr gr))))) := k4 _ _ x_ra (z_ne x_ra x_fa rfl)
        have a1263 : f8 ra = some (.inl (cy 3, 60, .inr (.inr (.inr (.inr gr))))) := k10 _ _ a1262 
        have a1264 : f799 ra = some (.inl (cy 3, 60, .inr (.inr (.inr (.inr gr))))) := k801 _ _ a1263 
        have a1265 : f1246 ra = some (.inl (cy 3, 60, .inr (.inr (.inr (.inr gr))))) := k1248 _ _ a1264 
        have a1266 : f1 nu = some (.inl (cy 0, 12, .inl gu)) := k4 _ _ x_nu (z_ne x_nu x_fa rfl)
        have a1267 : f8 nu = some (.inl (cy 0, 12, .inl gu)) := k10 _ _ a1266 
        have a1268 : f799 nu = some (.inl (cy 0, 12, .inl gu)) := k801 _ _ a1267 
        have a1269 : f1246 nu = some (.inl (cy 0, 12, .inl gu)) := k1248 _ _ a1268 
        have a1270 : f1 fm = some (.inl (cy 4, 6, .inr (.inr (.inr (.inr gf))))) := k4 _ _ x_fm (z_ne x_fm x_fa rfl)
        have a1271 : f8 fm = some (.inl (cy 4, 6, .inr (.inr (.inr (.inr gf))))) := k10 _ _ a1270 
        have a1272 : f799 fm = some (.inl (cy 4, 6, .inr (.inr (.inr (.inr gf))))) := k801 _ _ a1271 
        have a1273 : f1246 fm = some (.inl (cy 4, 6, .inr (.inr (.inr (.inr gf))))) := k1248 _ _ a1272 
        have a1274 : f1 co = some (.inl (cy 5, 60, .inr (.inr (.inr (.inr gc))))) := k4 _ _ x_co (z_ne x_co x_fa rfl)
        have a1275 : f8 co = some (.inl (cy 5, 60, .inr (.inr (.inr (.inr gc))))) := k10 _ _ a1274 
        have a1276 : f799 co = some (.inl (cy 5, 60, .inr (.inr (.inr (.inr gc))))) := k801 _ _ a1275 
        have a1277 : f1246 co = some (.inl (cy 5, 60, .inr (.inr (.inr (.inr gc))))) := k1248 _ _ a1276 
        have a1278 : f1 en = some (.inl (cy 6, 4, .inr (.inr (.inr (.inr ge))))) := k4 _ _ x_en (z_ne x_en x_fa rfl)
        have a1279 : f8 en = some (.inl (cy 6, 4, .inr (.inr (.inr (.inr ge))))) := k10 _ _ a1278 
        have a1280 : f799 en = some (.inl (cy 6, 4, .inr (.inr (.inr (.inr ge))))) := k801 _ _ a1279 
        have a1281 : f1246 en = some (.inl (cy 6, 4, .inr (.inr (.inr (.inr ge))))) := k1248 _ _ a1280 
        have a1282 : f1 ke = some (.inr (6, [.ref kn, .ref vq, .int (nI ks)])) := k4 _ _ x_ke (z_ne x_ke x_fa rfl)
        have a1283 : f8 ke = some (.inr (6, [.ref kn, .ref vq, .int (nI ks)])) := k10 _ _ a1282 
        have a1284 : f799 ke = some (.inr (6, [.ref kn, .ref vq, .int (nI ks)])) := k801 _ _ a1283 
        have a1285 : f1246 ke = some (.inr (6, [.ref kn, .ref vq, .int (nI ks)])) := k1248 _ _ a1284 
        have a1286 : f1 kn = some (.inl (cy 0, 40, .inl kk)) := k4 _ _ x_kn (z_ne x_kn x_fa rfl)
        have a1287 : f8 kn = some (.inl (cy 0, 40, .inl kk)) := k10 _ _ a1286 
        have a1288 : f799 kn = some (.inl (cy 0, 40, .inl kk)) := k801 _ _ a1287 
        have a1289 : f1246 kn = some (.inl (cy 0, 40, .inl kk)) := k1248 _ _ a1288 
        have a1290 : f1 vq = some (.inl (cy 0, 40, .inl kv)) := k4 _ _ x_vq (z_ne x_vq x_fa rfl)
        have a1291 : f8 vq = some (.inl (cy 0, 40, .inl kv)) := k10 _ _ a1290 
        have a1292 : f799 vq = some (.inl (cy 0, 40, .inl kv)) := k801 _ _ a1291 
        have a1293 : f1246 vq = some (.inl (cy 0, 40, .inl kv)) := k1248 _ _ a1292 
        have F1294 : ∀ i9 : Nat, i9 < nn → f1 (fg i9) = some (.inr (4, [.int (kd i9), .ref (pt i9), .long (wg i9), .int (wd i9), .int (nI i9), .int (hs i9), .int (bf i9)])) := fun i9 h9 => k4 _ _ (hF i9 h9) (z_ne (hF i9 h9) x_fa rfl)
        have F1295 : ∀ i9 : Nat, i9 < nn → f8 (fg i9) = some (.inr (4, [.int (kd i9), .ref (pt i9), .long (wg i9), .int (wd i9), .int (nI i9), .int (hs i9), .int (bf i9)])) := fun i9 h9 => k10 _ _ (F1294 i9 h9) 
        have F1296 : ∀ i9 : Nat, i9 < nn → f799 (fg i9) = some (.inr (4, [.int (kd i9), .ref (pt i9), .long (wg i9), .int (wd i9), .int (nI i9), .int (hs i9), .int (bf i9)])) := fun i9 h9 => k801 _ _ (F1295 i9 h9) 
        have F1297 : ∀ i9 : Nat, i9 < nn → f1246 (fg i9) = some (.inr (4, [.int (kd i9), .ref (pt i9), .long (wg i9), .int (wd i9), .int (nI i9), .int (hs i9), .int (bf i9)])) := fun i9 h9 => k1248 _ _ (F1296 i9 h9) 
        have F1298 : ∀ i9 : Nat, i9 < nn → f1 (pt i9) = some (.inl (cy 1, (ln i9), .inr (.inl (pp i9)))) := fun i9 h9 => k4 _ _ (hP i9 h9) (z_neO (hP i9 h9) x_fa rfl)
        have F1299 : ∀ i9 : Nat, i9 < nn → f8 (pt i9) = some (.inl (cy 1, (ln i9), .inr (.inl (pp i9)))) := fun i9 h9 => k10 _ _ (F1298 i9 h9) 
        have F1300 : ∀ i9 : Nat, i9 < nn → f799 (pt i9) = some (.inl (cy 1, (ln i9), .inr (.inl (pp i9)))) := fun i9 h9 => k801 _ _ (F1299 i9 h9) 
        have F1301 : ∀ i9 : Nat, i9 < nn → f1246 (pt i9) = some (.inl (cy 1, (ln i9), .inr (.inl (pp i9)))) := fun i9 h9 => k1248 _ _ (F1300 i9 h9) 
        have F1302 : ∀ i9 : Nat, i9 < nf → f1 (fq i9) = some (.inr (3, [.ref (fk i9), .int (nI (fz i9))])) := fun i9 h9 => k4 _ _ (hFq i9 h9) (z_ne (hFq i9 h9) x_fa rfl)
        have F1303 : ∀ i9 : Nat, i9 < nf → f8 (fq i9) = some (.inr (3, [.ref (fk i9), .int (nI (fz i9))])) := fun i9 h9 => k10 _ _ (F1302 i9 h9) 
        have F1304 : ∀ i9 : Nat, i9 < nf → f799 (fq i9) = some (.inr (3, [.ref (fk i9), .int (nI (fz i9))])) := fun i9 h9 => k801 _ _ (F1303 i9 h9) 
        have F1305 : ∀ i9 : Nat, i9 < nf → f1246 (fq i9) = some (.inr (3, [.ref (fk i9), .int (nI (fz i9))])) := fun i9 h9 => k1248 _ _ (F1304 i9 h9) 
        have F1306 : ∀ i9 : Nat, i9 < nf → f1 (fk i9) = some (.inl (cy 0, 4, .inl (fc i9))) := fun i9 h9 => k4 _ _ (hFk i9 h9) (z_ne (hFk i9 h9) x_fa rfl)
        have F1307 : ∀ i9 : Nat, i9 < nf → f8 (fk i9) = some (.inl (cy 0, 4, .inl (fc i9))) := fun i9 h9 => k10 _ _ (F1306 i9 h9) 
        have F1308 : ∀ i9 : Nat, i9 < nf → f799 (fk i9) = some (.inl (cy 0, 4, .inl (fc i9))) := fun i9 h9 => k801 _ _ (F1307 i9 h9) 
        have F1309 : ∀ i9 : Nat, i9 < nf → f1246 (fk i9) = some (.inl (cy 0, 4, .inl (fc i9))) := fun i9 h9 => k1248 _ _ (F1308 i9 h9) 
        have F1310 : ∀ i9 : Nat, i9 < nc → f1 (cn i9) = some (.inr (0, [.int (ce i9), .int (cm i9)])) := fun i9 h9 => k4 _ _ (hCn i9 h9) (z_ne (hCn i9 h9) x_fa rfl)
        have F1311 : ∀ i9 : Nat, i9 < nc → f8 (cn i9) = some (.inr (0, [.int (ce i9), .int (cm i9)])) := fun i9 h9 => k10 _ _ (F1310 i9 h9) 
        have F1312 : ∀ i9 : Nat, i9 < nc → f799 (cn i9) = some (.inr (0, [.int (ce i9), .int (cm i9)])) := fun i9 h9 => k801 _ _ (F1311 i9 h9) 
        have F1313 : ∀ i9 : Nat, i9 < nc → f1246 (cn i9) = some (.inr (0, [.int (ce i9), .int (cm i9)])) := fun i9 h9 => k1248 _ _ (F1312 i9 h9) 
        have F1314 : ∀ i9 : Nat, i9 < 4 → f1 (ea i9) = some (.inr (1, [.ref (ma i9), .int (nI (sq i9))])) := fun i9 h9 => k4 _ _ (hEa i9 h9) (z_ne (hEa i9 h9) x_fa rfl)
        have F1315 : ∀ i9 : Nat, i9 < 4 → f8 (ea i9) = some (.inr (1, [.ref (ma i9), .int (nI (sq i9))])) := fun i9 h9 => k10 _ _ (F1314 i9 h9) 
        have F1316 : ∀ i9 : Nat, i9 < 4 → f799 (ea i9) = some (.inr (1, [.ref (ma i9), .int (nI (sq i9))])) := fun i9 h9 => k801 _ _ (F1315 i9 h9) 
        have F1317 : ∀ i9 : Nat, i9 < 4 → f1246 (ea i9) = some (.inr (1, [.ref (ma i9), .int (nI (sq i9))])) := fun i9 h9 => k1248 _ _ (F1316 i9 h9) 
        have F1318 : ∀ i9 : Nat, i9 < 4 → f1 (ma i9) = some (.inl (cy 0, 60, .inl (mb i9))) := fun i9 h9 => k4 _ _ (hMa i9 h9) (z_ne (hMa i9 h9) x_fa rfl)
        have F1319 : ∀ i9 : Nat, i9 < 4 → f8 (ma i9) = some (.inl (cy 0, 60, .inl (mb i9))) := fun i9 h9 => k10 _ _ (F1318 i9 h9) 
        have F1320 : ∀ i9 : Nat, i9 < 4 → f799 (ma i9) = some (.inl (cy 0, 60, .inl (mb i9))) := fun i9 h9 => k801 _ _ (F1319 i9 h9) 
        have F1321 : ∀ i9 : Nat, i9 < 4 → f1246 (ma i9) = some (.inl (cy 0, 60, .inl (mb i9))) := fun i9 h9 => k1248 _ _ (F1320 i9 h9) 
        have hq : q_set nn kd ln wd x y z = ((-2), 0, (-1), 0) := by simp [q_set, oF_m1 nn, hFa, hIa, hNa, hFb, hOc, c1249]
        exact z_iret C hr rfl hz hS ⟨0, (-1), 0, gv, nl, gu, nn, ga, gr, fg, pt, kd, ln, pp, wg, wd, hs, bf, nf, gf, fq, fk, fz, fc, nc, gc, cn, ce, cm, sq, mb, ks, kk, kv, lk, (by rw [hq]), (by rw [hq]), (by rw [hq]), (by rw [hq]), (by rw [hq]; exact (zEV0 gv).symm), rfl, rfl, rfl, rfl, rfl, (by rw [if_neg (by decide)]), rfl, rfl, rfl, rfl, rfl, rfl, rfl, rfl, rfl, rfl, rfl, rfl, rfl, rfl, ⟨a1250, a1253, a1257, a1258, a1261, a1265, a1269, a1273, a1277, a1281, a1285, a1289, a1293, F1297, F1301, F1305, F1309, F1313, F1317, F1321, hn60, hl12, hf6, hc60, hs40, hga, hgr, hln, hk5, hk4, hfi, hpi, har, hgf, hfz, hgc, hG, hsq, hei, hmi, kne, hca, hcr, hlk⟩⟩ (Nat.le_of_ble_eq_true rfl) (Nat.le_of_ble_eq_true rfl) dX7_set_47
  · have hFa : isF nn x = false := isF_f hn60 hva
    have a1322 : f1 fi = some (.inr (5, [.ref al, .ref ra, .int (nI nn)])) := k4 _ _ x_fi (z_ne x_fi x_fa rfl)
    refine z_callVq (As := [.long x.toInt64]) C hz hS hA hl (k_X5_find_B l D cy f1 fi al ra nn x.toInt64 a1322 hn60 (fun i9 h9 q9 => hva i9 h9 (z_toL (by omega) q9))) zyX5_find mMX7_130 a1322 zl5 rfl rfl (Nat.le_of_ble_eq_true rfl) ⟨Nat.le_of_ble_eq_true rfl, Nat.le_of_ble_eq_true rfl⟩ ⟨Nat.le_of_ble_eq_true rfl, Nat.le_of_ble_eq_true rfl⟩ dX7_set_13 (fun r f1323 H locs h1324 hz hS => ?_)
    obtain ⟨rfl, k1325⟩ := h1324
    refine W.eq (g2 := F0 m 16 ls [.null]) rfl ?_
    refine lv_astoreN (lv' := [(4, .null), (0, .ref o), (1, .int x), (2, .int y), (3, .int z)]) hx hb dX7_set_16 hl (by decide) rfl (fun ls hl => ?_)
    refine lv_aload_n hx hb dX7_set_18 rfl (lv_at hl 1 rfl) ?_
    have a1326 : f1323 o = some (.inr (7, [.ref fa, .ref fi, .ref nu, .int (nI nl), .ref fm, .int (nI nf), .ref co, .int (nI nc), .ref en, .ref ke, .long lk])) := k1325 _ _ a5 
    refine z_get (v := .ref fi) C hz a1326 zl7 mFX7_19 (by decide) rfl dX7_set_19 ?_
    refine lv_iload_n hx hb dX7_set_22 rfl (lv_at hl 4 rfl) ?_
    refine lv_i2l (v := z.toInt64) hx hb dX7_set_23 rfl ?_
    rcases z_findi z nn with ⟨jb, hjb, hvb⟩ | hvb
    · have hFb : isF nn z = true := isF_t hn60 hjb hvb
      have hIb : fI z = jb := fI_of (by omega) hvb
      have hNb : ¬ z = (-1) := by rw [hvb]; exact z_nim1 (by omega)
      have a1327 : f1323 fi = some (.inr (5, [.ref al, .ref ra, .int (nI nn)])) := k1325 _ _ a1322 
      have a1328 : f1 al = some (.inl (cy 3, 60, .inr (.inr (.inr (.inr ga))))) := k4 _ _ x_al (z_ne x_al x_fa rfl)
      have a1329 : f1323 al = some (.inl (cy 3, 60, .inr (.inr (.inr (.inr ga))))) := k1325 _ _ a1328 
      refine z_callVq (As := [.long z.toInt64]) C hz hS hA hl (k_X5_find_A l D cy f1323 fi al ra ga nn fg z.toInt64 jb a1327 a1329 hn60 hga (by rw [hvb, nI_l (by omega)]) hjb) zyX5_find mMX7_130 a1327 zl5 rfl rfl (Nat.le_of_ble_eq_true rfl) ⟨Nat.le_of_ble_eq_true rfl, Nat.le_of_ble_eq_true rfl⟩ ⟨Nat.le_of_ble_eq_true rfl, Nat.le_of_ble_eq_true rfl⟩ dX7_set_24 (fun r f1330 H locs h1331 hz hS => ?_)
      obtain ⟨rfl, k1332⟩ := h1331
      refine W.eq (g2 := F0 m 27 ls [.ref (fg jb)]) rfl ?_
      refine lv_astore (lv' := [(5, .ref (fg jb)), (4, .null), (0, .ref o), (1, .int x), (2, .int y), (3, .int z)]) hx hb dX7_set_27 hl (by decide) rfl (fun ls hl => ?_)
      refine lv_aloadN hx hb dX7_set_29 (lv_at hl 1 rfl) ?_
      refine lv_ifnullN (tgt := 45) hx hb dX7_set_31 (by decide) ?_
      refine lv_bipush (v := (-2)) hx hb dX7_set_45 (by decide) ?_
      have a1333 : f1330 o = some (.inr (7, [.ref fa, .ref fi, .ref nu, .int (nI nl), .ref fm, .int (nI nf), .ref co, .int (nI nc), .ref en, .ref ke, .long lk])) := k1332 _ _ a1326 
      have a1334 : f1323 fa = some (.inr (2, [.int 0, .int (-1), .int 0, .ref ev])) := k1325 _ _ a3 
      have a1335 : f1330 fa = some (.inr (2, [.int 0, .int (-1), .int 0, .ref ev])) := k1332 _ _ a1334 
      have a1336 : f1 ev = some (.inl (cy 0, 8, .inl gv)) := k4 _ _ x_ev (z_ne x_ev x_fa rfl)
      have a1337 : f1323 ev = some (.inl (cy 0, 8, .inl gv)) := k1325 _ _ a1336 
      have a1338 : f1330 ev = some (.inl (cy 0, 8, .inl gv)) := k1332 _ _ a1337 
      have a1339 : f1330 fi = some (.inr (5, [.ref al, .ref ra, .int (nI nn)])) := k1332 _ _ a1327 
      have a1340 : f1330 al = some (.inl (cy 3, 60, .inr (.inr (.inr (.inr ga))))) := k1332 _ _ a1329 
      have a1341 : f1 ra = some (.inl (cy 3, 60, .inr (.inr (.inr (.inr gr))))) := k4 _ _ x_ra (z_ne x_ra x_fa rfl)
      have a1342 : f1323 ra = some (.inl (cy 3, 60, .inr (.inr (.inr (.inr gr))))) := k1325 _ _ a1341 
      have a1343 : f1330 ra = some (.inl (cy 3, 60, .inr (.inr (.inr (.inr gr))))) := k1332 _ _ a1342 
      have a1344 : f1 nu = some (.inl (cy 0, 12, .inl gu)) := k4 _ _ x_nu (z_ne x_nu x_fa rfl)
      have a1345 : f1323 nu = some (.inl (cy 0, 12, .inl gu)) := k1325 _ _ a1344 
      have a1346 : f1330 nu = some (.inl (cy 0, 12, .inl gu)) := k1332 _ _ a1345 
      have a1347 : f1 fm = some (.inl (cy 4, 6, .inr (.inr (.inr (.inr gf))))) := k4 _ _ x_fm (z_ne x_fm x_fa rfl)
      have a1348 : f1323 fm = some (.inl (cy 4, 6, .inr (.inr (.inr (.inr gf))))) := k1325 _ _ a1347 
      have a1349 : f1330 fm = some (.inl (cy 4, 6, .inr (.inr (.inr (.inr gf))))) := k1332 _ _ a1348 
      have a1350 : f1 co = some (.inl (cy 5, 60, .inr (.inr (.inr (.inr gc))))) := k4 _ _ x_co (z_ne x_co x_fa rfl)
      have a1351 : f1323 co = some (.inl (cy 5, 60, .inr (.inr (.inr (.inr gc))))) := k1325 _ _ a1350 
      have a1352 : f1330 co = some (.inl (cy 5, 60, .inr (.inr (.inr (.inr gc))))) := k1332 _ _ a1351 
      have a1353 : f1 en = some (.inl (cy 6, 4, .inr (.inr (.inr (.inr ge))))) := k4 _ _ x_en (z_ne x_en x_fa rfl)
      have a1354 : f1323 en = some (.inl (cy 6, 4, .inr (.inr (.inr (.inr ge))))) := k1325 _ _ a1353 
      have a1355 : f1330 en = some (.inl (cy 6, 4, .inr (.inr (.inr (.inr ge))))) := k1332 _ _ a1354 
      have a1356 : f1 ke = some (.inr (6, [.ref kn, .ref vq, .int (nI ks)])) := k4 _ _ x_ke (z_ne x_ke x_fa rfl)
      have a1357 : f1323 ke = some (.inr (6, [.ref kn, .ref vq, .int (nI ks)])) := k1325 _ _ a1356 
      have a1358 : f1330 ke = some (.inr (6, [.ref kn, .ref vq, .int (nI ks)])) := k1332 _ _ a1357 
      have a1359 : f1 kn = some (.inl (cy 0, 40, .inl kk)) := k4 _ _ x_kn (z_ne x_kn x_fa rfl)
      have a1360 : f1323 kn = some (.inl (cy 0, 40, .inl kk)) := k1325 _ _ a1359 
      have a1361 : f1330 kn = some (.inl (cy 0, 40, .inl kk)) := k1332 _ _ a1360 
      have a1362 : f1 vq = some (.inl (cy 0, 40, .inl kv)) := k4 _ _ x_vq (z_ne x_vq x_fa rfl)
      have a1363 : f1323 vq = some (.inl (cy 0, 40, .inl kv)) := k1325 _ _ a1362 
      have a1364 : f1330 vq = some (.inl (cy 0, 40, .inl kv)) := k1332 _ _ a1363 
      have F1365 : ∀ i9 : Nat, i9 < nn → f1 (fg i9) = some (.inr (4, [.int (kd i9), .ref (pt i9), .long (wg i9), .int (wd i9), .int (nI i9), .int (hs i9), .int (bf i9)])) := fun i9 h9 => k4 _ _ (hF i9 h9) (z_ne (hF i9 h9) x_fa rfl)
      have F1366 : ∀ i9 : Nat, i9 < nn → f1323 (fg i9) = some (.inr (4, [.int (kd i9), .ref (pt i9), .long (wg i9), .int (wd i9), .int (nI i9), .int (hs i9), .int (bf i9)])) := fun i9 h9 => k1325 _ _ (F1365 i9 h9) 
      have F1367 : ∀ i9 : Nat, i9 < nn → f1330 (fg i9) = some (.inr (4, [.int (kd i9), .ref (pt i9), .long (wg i9), .int (wd i9), .int (nI i9), .int (hs i9), .int (bf i9)])) := fun i9 h9 => k1332 _ _ (F1366 i9 h9) 
      have F1368 : ∀ i9 : Nat, i9 < nn → f1 (pt i9) = some (.inl (cy 1, (ln i9), .inr (.inl (pp i9)))) := fun i9 h9 => k4 _ _ (hP i9 h9) (z_neO (hP i9 h9) x_fa rfl)
      have F1369 : ∀ i9 : Nat, i9 < nn → f1323 (pt i9) = some (.inl (cy 1, (ln i9), .inr (.inl (pp i9)))) := fun i9 h9 => k1325 _ _ (F1368 i9 h9) 
      have F1370 : ∀ i9 : Nat, i9 < nn → f1330 (pt i9) = some (.inl (cy 1, (ln i9), .inr (.inl (pp i9)))) := fun i9 h9 => k1332 _ _ (F1369 i9 h9) 
      have F1371 : ∀ i9 : Nat, i9 < nf → f1 (fq i9) = some (.inr (3, [.ref (fk i9), .int (nI (fz i9))])) := fun i9 h9 => k4 _ _ (hFq i9 h9) (z_ne (hFq i9 h9) x_fa rfl)
      have F1372 : ∀ i9 : Nat, i9 < nf → f1323 (fq i9) = some (.inr (3, [.ref (fk i9), .int (nI (fz i9))])) := fun i9 h9 => k1325 _ _ (F1371 i9 h9) 
      have F1373 : ∀ i9 : Nat, i9 < nf → f1330 (fq i9) = some (.inr (3, [.ref (fk i9), .int (nI (fz i9))])) := fun i9 h9 => k1332 _ _ (F1372 i9 h9) 
      have F1374 : ∀ i9 : Nat, i9 < nf → f1 (fk i9) = some (.inl (cy 0, 4, .inl (fc i9))) := fun i9 h9 => k4 _ _ (hFk i9 h9) (z_ne (hFk i9 h9) x_fa rfl)
      have F1375 : ∀ i9 : Nat, i9 < nf → f1323 (fk i9) = some (.inl (cy 0, 4, .inl (fc i9))) := fun i9 h9 => k1325 _ _ (F1374 i9 h9) 
      have F1376 : ∀ i9 : Nat, i9 < nf → f1330 (fk i9) = some (.inl (cy 0, 4, .inl (fc i9))) := fun i9 h9 => k1332 _ _ (F1375 i9 h9) 
      have F1377 : ∀ i9 : Nat, i9 < nc → f1 (cn i9) = some (.inr (0, [.int (ce i9), .int (cm i9)])) := fun i9 h9 => k4 _ _ (hCn i9 h9) (z_ne (hCn i9 h9) x_fa rfl)
      have F1378 : ∀ i9 : Nat, i9 < nc → f1323 (cn i9) = some (.inr (0, [.int (ce i9), .int (cm i9)])) := fun i9 h9 => k1325 _ _ (F1377 i9 h9) 
      have F1379 : ∀ i9 : Nat, i9 < nc → f1330 (cn i9) = some (.inr (0, [.int (ce i9), .int (cm i9)])) := fun i9 h9 => k1332 _ _ (F1378 i9 h9) 
      have F1380 : ∀ i9 : Nat, i9 < 4 → f1 (ea i9) = some (.inr (1, [.ref (ma i9), .int (nI (sq i9))])) := fun i9 h9 => k4 _ _ (hEa i9 h9) (z_ne (hEa i9 h9) x_fa rfl)
      have F1381 : ∀ i9 : Nat, i9 < 4 → f1323 (ea i9) = some (.inr (1, [.ref (ma i9), .int (nI (sq i9))])) := fun i9 h9 => k1325 _ _ (F1380 i9 h9) 
      have F1382 : ∀ i9 : Nat, i9 < 4 → f1330 (ea i9) = some (.inr (1, [.ref (ma i9), .int (nI (sq i9))])) := fun i9 h9 => k1332 _ _ (F1381 i9 h9) 
      have F1383 : ∀ i9 : Nat, i9 < 4 → f1 (ma i9) = some (.inl (cy 0, 60, .inl (mb i9))) := fun i9 h9 => k4 _ _ (hMa i9 h9) (z_ne (hMa i9 h9) x_fa rfl)
      have F1384 : ∀ i9 : Nat, i9 < 4 → f1323 (ma i9) = some (.inl (cy 0, 60, .inl (mb i9))) := fun i9 h9 => k1325 _ _ (F1383 i9 h9) 
      have F1385 : ∀ i9 : Nat, i9 < 4 → f1330 (ma i9) = some (.inl (cy 0, 60, .inl (mb i9))) := fun i9 h9 => k1332 _ _ (F1384 i9 h9) 
      have hq : q_set nn kd ln wd x y z = ((-2), 0, (-1), 0) := by simp [q_set, oF_m1 nn, hFa, hFb, hIb, hNb]
      exact z_iret C hr rfl hz hS ⟨0, (-1), 0, gv, nl, gu, nn, ga, gr, fg, pt, kd, ln, pp, wg, wd, hs, bf, nf, gf, fq, fk, fz, fc, nc, gc, cn, ce, cm, sq, mb, ks, kk, kv, lk, (by rw [hq]), (by rw [hq]), (by rw [hq]), (by rw [hq]), (by rw [hq]; exact (zEV0 gv).symm), rfl, rfl, rfl, rfl, rfl, (by rw [if_neg (by decide)]), rfl, rfl, rfl, rfl, rfl, rfl, rfl, rfl, rfl, rfl, rfl, rfl, rfl, rfl, ⟨a1333, a1335, a1338, a1339, a1340, a1343, a1346, a1349, a1352, a1355, a1358, a1361, a1364, F1367, F1370, F1373, F1376, F1379, F1382, F1385, hn60, hl12, hf6, hc60, hs40, hga, hgr, hln, hk5, hk4, hfi, hpi, har, hgf, hfz, hgc, hG, hsq, hei, hmi, kne, hca, hcr, hlk⟩⟩ (Nat.le_of_ble_eq_true rfl) (Nat.le_of_ble_eq_true rfl) dX7_set_47
    · have hFb : isF nn z = false := isF_f hn60 hvb
      have a1386 : f1323 fi = some (.inr (5, [.ref al, .ref ra, .int (nI nn)])) := k1325 _ _ a1322 
      refine z_callVq (As := [.long z.toInt64]) C hz hS hA hl (k_X5_find_B l D cy f1323 fi al ra nn z.toInt64 a1386 hn60 (fun i9 h9 q9 => hvb i9 h9 (z_toL (by omega) q9))) zyX5_find mMX7_130 a1386 zl5 rfl rfl (Nat.le_of_ble_eq_true rfl) ⟨Nat.le_of_ble_eq_true rfl, Nat.le_of_ble_eq_true rfl⟩ ⟨Nat.le_of_ble_eq_true rfl, Nat.le_of_ble_eq_true rfl⟩ dX7_set_24 (fun r f1387 H locs h1388 hz hS => ?_)
      obtain ⟨rfl, k1389⟩ := h1388
      refine W.eq (g2 := F0 m 27 ls [.null]) rfl ?_
      refine lv_astoreN (lv' := [(5, .null), (4, .null), (0, .ref o), (1, .int x), (2, .int y), (3, .int z)]) hx hb dX7_set_27 hl (by decide) rfl (fun ls hl => ?_)
      refine lv_aloadN hx hb dX7_set_29 (lv_at hl 1 rfl) ?_
      refine lv_ifnullN (tgt := 45) hx hb dX7_set_31 (by decide) ?_
      refine lv_bipush (v := (-2)) hx hb dX7_set_45 (by decide) ?_
      have a1390 : f1387 o = some (.inr (7, [.ref fa, .ref fi, .ref nu, .int (nI nl), .ref fm, .int (nI nf), .ref co, .int (nI nc), .ref en, .ref ke, .long lk])) := k1389 _ _ a1326 
      have a1391 : f1323 fa = some (.inr (2, [.int 0, .int (-1), .int 0, .ref ev])) := k1325 _ _ a3 
      have a1392 : f1387 fa = some (.inr (2, [.int 0, .int (-1), .int 0, .ref ev])) := k1389 _ _ a1391 
      have a1393 : f1 ev = some (.inl (cy 0, 8, .inl gv)) := k4 _ _ x_ev (z_ne x_ev x_fa rfl)
      have a1394 : f1323 ev = some (.inl (cy 0, 8, .inl gv)) := k1325 _ _ a1393 
      have a1395 : f1387 ev = some (.inl (cy 0, 8, .inl gv)) := k1389 _ _ a1394 
      have a1396 : f1387 fi = some (.inr (5, [.ref al, .ref ra, .int (nI nn)])) := k1389 _ _ a1386 
      have a1397 : f1 al = some (.inl (cy 3, 60, .inr (.inr (.inr (.inr ga))))) := k4 _ _ x_al (z_ne x_al x_fa rfl)
      have a1398 : f1323 al = some (.inl (cy 3, 60, .inr (.inr (.inr (.inr ga))))) := k1325 _ _ a1397 
      have a1399 : f1387 al = some (.inl (cy 3, 60, .inr (.inr (.inr (.inr ga))))) := k1389 _ _ a1398 
      have a1400 : f1 ra = some (.inl (cy 3, 60, .inr (.inr (.inr (.inr gr))))) := k4 _ _ x_ra (z_ne x_ra x_fa rfl)
      have a1401 : f1323 ra = some (.inl (cy 3, 60, .inr (.inr (.inr (.inr gr))))) := k1325 _ _ a1400 
      have a1402 : f1387 ra = some (.inl (cy 3, 60, .inr (.inr (.inr (.inr gr))))) := k1389 _ _ a1401 
      have a1403 : f1 nu = some (.inl (cy 0, 12, .inl gu)) := k4 _ _ x_nu (z_ne x_nu x_fa rfl)
      have a1404 : f1323 nu = some (.inl (cy 0, 12, .inl gu)) := k1325 _ _ a1403 
      have a1405 : f1387 nu = some (.inl (cy 0, 12, .inl gu)) := k1389 _ _ a1404 
      have a1406 : f1 fm = some (.inl (cy 4, 6, .inr (.inr (.inr (.inr gf))))) := k4 _ _ x_fm (z_ne x_fm x_fa rfl)
      have a1407 : f1323 fm = some (.inl (cy 4, 6, .inr (.inr (.inr (.inr gf))))) := k1325 _ _ a1406 
      have a1408 : f1387 fm = some (.inl (cy 4, 6, .inr (.inr (.inr (.inr gf))))) := k1389 _ _ a1407 
      have a1409 : f1 co = some (.inl (cy 5, 60, .inr (.inr (.inr (.inr gc))))) := k4 _ _ x_co (z_ne x_co x_fa rfl)
      have a1410 : f1323 co = some (.inl (cy 5, 60, .inr (.inr (.inr (.inr gc))))) := k1325 _ _ a1409 
      have a1411 : f1387 co = some (.inl (cy 5, 60, .inr (.inr (.inr (.inr gc))))) := k1389 _ _ a1410 
      have a1412 : f1 en = some (.inl (cy 6, 4, .inr (.inr (.inr (.inr ge))))) := k4 _ _ x_en (z_ne x_en x_fa rfl)
      have a1413 : f1323 en = some (.inl (cy 6, 4, .inr (.inr (.inr (.inr ge))))) := k1325 _ _ a1412 
      have a1414 : f1387 en = some (.inl (cy 6, 4, .inr (.inr (.inr (.inr ge))))) := k1389 _ _ a1413 
      have a1415 : f1 ke = some (.inr (6, [.ref kn, .ref vq, .int (nI ks)])) := k4 _ _ x_ke (z_ne x_ke x_fa rfl)
      have a1416 : f1323 ke = some (.inr (6, [.ref kn, .ref vq, .int (nI ks)])) := k1325 _ _ a1415 
      have a1417 : f1387 ke = some (.inr (6, [.ref kn, .ref vq, .int (nI ks)])) := k1389 _ _ a1416 
      have a1418 : f1 kn = some (.inl (cy 0, 40, .inl kk)) := k4 _ _ x_kn (z_ne x_kn x_fa rfl)
      have a1419 : f1323 kn = some (.inl (cy 0, 40, .inl kk)) := k1325 _ _ a1418 
      have a1420 : f1387 kn = some (.inl (cy 0, 40, .inl kk)) := k1389 _ _ a1419 
      have a1421 : f1 vq = some (.inl (cy 0, 40, .inl kv)) := k4 _ _ x_vq (z_ne x_vq x_fa rfl)
      have a1422 : f1323 vq = some (.inl (cy 0, 40, .inl kv)) := k1325 _ _ a1421 
      have a1423 : f1387 vq = some (.inl (cy 0, 40, .inl kv)) := k1389 _ _ a1422 
      have F1424 : ∀ i9 : Nat, i9 < nn → f1 (fg i9) = some (.inr (4, [.int (kd i9), .ref (pt i9), .long (wg i9), .int (wd i9), .int (nI i9), .int (hs i9), .int (bf i9)])) := fun i9 h9 => k4 _ _ (hF i9 h9) (z_ne (hF i9 h9) x_fa rfl)
      have F1425 : ∀ i9 : Nat, i9 < nn → f1323 (fg i9) = some (.inr (4, [.int (kd i9), .ref (pt i9), .long (wg i9), .int (wd i9), .int (nI i9), .int (hs i9), .int (bf i9)])) := fun i9 h9 => k1325 _ _ (F1424 i9 h9) 
      have F1426 : ∀ i9 : Nat, i9 < nn → f1387 (fg i9) = some (.inr (4, [.int (kd i9), .ref (pt i9), .long (wg i9), .int (wd i9), .int (nI i9), .int (hs i9), .int (bf i9)])) := fun i9 h9 => k1389 _ _ (F1425 i9 h9) 
      have F1427 : ∀ i9 : Nat, i9 < nn → f1 (pt i9) = some (.inl (cy 1, (ln i9), .inr (.inl (pp i9)))) := fun i9 h9 => k4 _ _ (hP i9 h9) (z_neO (hP i9 h9) x_fa rfl)
      have F1428 : ∀ i9 : Nat, i9 < nn → f1323 (pt i9) = some (.inl (cy 1, (ln i9), .inr (.inl (pp i9)))) := fun i9 h9 => k1325 _ _ (F1427 i9 h9) 
      have F1429 : ∀ i9 : Nat, i9 < nn → f1387 (pt i9) = some (.inl (cy 1, (ln i9), .inr (.inl (pp i9)))) := fun i9 h9 => k1389 _ _ (F1428 i9 h9) 
      have F1430 : ∀ i9 : Nat, i9 < nf → f1 (fq i9) = some (.inr (3, [.ref (fk i9), .int (nI (fz i9))])) := fun i9 h9 => k4 _ _ (hFq i9 h9) (z_ne (hFq i9 h9) x_fa rfl)
      have F1431 : ∀ i9 : Nat, i9 < nf → f1323 (fq i9) = some (.inr (3, [.ref (fk i9), .int (nI (fz i9))])) := fun i9 h9 => k1325 _ _ (F1430 i9 h9) 
      have F1432 : ∀ i9 : Nat, i9 < nf → f1387 (fq i9) = some (.inr (3, [.ref (fk i9), .int (nI (fz i9))])) := fun i9 h9 => k1389 _ _ (F1431 i9 h9) 
      have F1433 : ∀ i9 : Nat, i9 < nf → f1 (fk i9) = some (.inl (cy 0, 4, .inl (fc i9))) := fun i9 h9 => k4 _ _ (hFk i9 h9) (z_ne (hFk i9 h9) x_fa rfl)
      have F1434 : ∀ i9 : Nat, i9 < nf → f1323 (fk i9) = some (.inl (cy 0, 4, .inl (fc i9))) := fun i9 h9 => k1325 _ _ (F1433 i9 h9) 
      have F1435 : ∀ i9 : Nat, i9 < nf → f1387 (fk i9) = some (.inl (cy 0, 4, .inl (fc i9))) := fun i9 h9 => k1389 _ _ (F1434 i9 h9) 
      have F1436 : ∀ i9 : Nat, i9 < nc → f1 (cn i9) = some (.inr (0, [.int (ce i9), .int (cm i9)])) := fun i9 h9 => k4 _ _ (hCn i9 h9) (z_ne (hCn i9 h9) x_fa rfl)
      have F1437 : ∀ i9 : Nat, i9 < nc → f1323 (cn i9) = some (.inr (0, [.int (ce i9), .int (cm i9)])) := fun i9 h9 => k1325 _ _ (F1436 i9 h9) 
      have F1438 : ∀ i9 : Nat, i9 < nc → f1387 (cn i9) = some (.inr (0, [.int (ce i9), .int (cm i9)])) := fun i9 h9 => k1389 _ _ (F1437 i9 h9) 
      have F1439 : ∀ i9 : Nat, i9 < 4 → f1 (ea i9) = some (.inr (1, [.ref (ma i9), .int (nI (sq i9))])) := fun i9 h9 => k4 _ _ (hEa i9 h9) (z_ne (hEa i9 h9) x_fa rfl)
      have F1440 : ∀ i9 : Nat, i9 < 4 → f1323 (ea i9) = some (.inr (1, [.ref (ma i9), .int (nI (sq i9))])) := fun i9 h9 => k1325 _ _ (F1439 i9 h9) 
      have F1441 : ∀ i9 : Nat, i9 < 4 → f1387 (ea i9) = some (.inr (1, [.ref (ma i9), .int (nI (sq i9))])) := fun i9 h9 => k1389 _ _ (F1440 i9 h9) 
      have F1442 : ∀ i9 : Nat, i9 < 4 → f1 (ma i9) = some (.inl (cy 0, 60, .inl (mb i9))) := fun i9 h9 => k4 _ _ (hMa i9 h9) (z_ne (hMa i9 h9) x_fa rfl)
      have F1443 : ∀ i9 : Nat, i9 < 4 → f1323 (ma i9) = some (.inl (cy 0, 60, .inl (mb i9))) := fun i9 h9 => k1325 _ _ (F1442 i9 h9) 
      have F1444 : ∀ i9 : Nat, i9 < 4 → f1387 (ma i9) = some (.inl (cy 0, 60, .inl (mb i9))) := fun i9 h9 => k1389 _ _ (F1443 i9 h9) 
      have hq : q_set nn kd ln wd x y z = ((-2), 0, (-1), 0) := by simp [q_set, oF_m1 nn, hFa, hFb]
      exact z_iret C hr rfl hz hS ⟨0, (-1), 0, gv, nl, gu, nn, ga, gr, fg, pt, kd, ln, pp, wg, wd, hs, bf, nf, gf, fq, fk, fz, fc, nc, gc, cn, ce, cm, sq, mb, ks, kk, kv, lk, (by rw [hq]), (by rw [hq]), (by rw [hq]), (by rw [hq]), (by rw [hq]; exact (zEV0 gv).symm), rfl, rfl, rfl, rfl, rfl, (by rw [if_neg (by decide)]), rfl, rfl, rfl, rfl, rfl, rfl, rfl, rfl, rfl, rfl, rfl, rfl, rfl, rfl, ⟨a1390, a1392, a1395, a1396, a1399, a1402, a1405, a1408, a1411, a1414, a1417, a1420, a1423, F1426, F1429, F1432, F1435, F1438, F1441, F1444, hn60, hl12, hf6, hc60, hs40, hga, hgr, hln, hk5, hk4, hfi, hpi, har, hgf, hfz, hgc, hG, hsq, hei, hmi, kne, hca, hcr, hlk⟩⟩ (Nat.le_of_ble_eq_true rfl) (Nat.le_of_ble_eq_true rfl) dX7_set_47
