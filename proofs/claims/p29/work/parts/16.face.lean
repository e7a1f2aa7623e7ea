theorem z_km {k : Nat} (h : 0 < k) : nI k - 1 + (-1) = nI (k - 1) - 1 := by
  rw [show nI k - 1 = nI (k - 1) from pk_sub (a := k) (b := 1) h, Int32.sub_eq_add_neg]
abbrev rmX7_drawBelow : Room := { frames := 0, cells := 0, slots := 0, locals := 0 }
set_option maxHeartbeats 4000000 in
set_option maxRecDepth 100000 in
theorem k_X7_drawBelow (l : Launch) (D : va_G) (cy : Nat → ClassId) (f : zM) (o : Nat) (fa : Nat) (fi : Nat) (nu : Nat) (nl : Nat) (fm : Nat) (nf : Nat) (co : Nat) (nc : Nat) (en : Nat) (ke : Nat) (lk : Int64) (x : Int32) (k : Nat) (p0 : f o = some (.inr (7, [.ref fa, .ref fi, .ref nu, .int (nI nl), .ref fm, .int (nI nf), .ref co, .int (nI nc), .ref en, .ref ke, .long lk])))  (hlk : ∃ k, k < 2147483647 ∧ lk = lN k) (hxk : x = nI k) (hk0 : 0 < k) (hk31 : k < 2 ^ 31) : zCi l D cy yX7_drawBelow cX7_drawBelow 2 (Option.some Jvm.ClassFile.FieldType.int) rmX7_drawBelow [.ref o, .int x] f (fun (r : Int32) (f1 : zM) => r = (nI (zLN (zDR lk) % k)) ∧ (∃ k, k < 2147483647 ∧ zDR lk = lN k) ∧ f1 o = some (.inr (7, [.ref fa, .ref fi, .ref nu, .int (nI nl), .ref fm, .int (nI nf), .ref co, .int (nI nc), .ref en, .ref ke, .long (zDR lk)])) ∧ (∀ (b : Nat) (e : va_E), f b = some e → b ≠ o → f1 b = some e)) := by
  intro sz
  refine z_body (by decide +kernel) (Nat.le_of_ble_eq_true rfl) ?_
  intro p e s m below meth c ls C hr hin hsz hz hl
  subst hsz
  have hx := C.1
  have hb := C.2.1
  have hA : ∀ q, s.heap.size ≤ q → zA f s.heap.size q := fun q h => Or.inr h
  have hS : va_S (zA f s.heap.size) s.heap s.heap [] := va_S.rf
  have hl : lv_has ls 2 [(0, .ref o), (1, .int x)] := hl
  obtain ⟨la, hla, hlkl⟩ := hlk
  refine lv_aload_n hx hb dX7_drawBelow_0 rfl (lv_at hl 0 rfl) ?_
  refine lv_aload_n hx hb dX7_drawBelow_1 rfl (lv_at hl 0 rfl) ?_
  refine z_get (v := .long lk) C hz p0 zl7 mFX7_62 (by decide) rfl dX7_drawBelow_2 ?_
  refine lv_ldc2 (v := 48271) hx hb C.2.2.2.1 (C.2.2.2.2.1 _ mKX7_275) dX7_drawBelow_5 ?_
  refine lv_lmul hx hb dX7_drawBelow_8 ?_
  refine lv_ldc2 (v := 2147483647) hx hb C.2.2.2.1 (C.2.2.2.2.1 _ mKX7_236) dX7_drawBelow_9 ?_
  refine lv_lrem hx hb dX7_drawBelow_12 (by decide) ?_
  refine lv_topl (fun y1 e2 => ?_)
  obtain rfl : y1 = zDR lk := e2.trans (by rw [hlkl, zDR_l hla]; exact z_lk hla)
  refine z_put (fs' := [.ref fa, .ref fi, .ref nu, .int (nI nl), .ref fm, .int (nI nf), .ref co, .int (nI nc), .ref en, .ref ke, .long (zDR lk)]) C hz hS p0 zl7 mFX7_62 (by decide) rfl rfl rfl (Nat.le_of_ble_eq_true rfl) rfl dX7_drawBelow_13 (fun H locs f3 a4 k5 hz hS => ?_)
  refine lv_iload_n hx hb dX7_drawBelow_16 rfl (lv_at hl 1 rfl) ?_
  refine lv_topi (fun y6 e7 => ?_)
  obtain rfl : y6 = nI k := e7.trans hxk
  refine lv_if_gt (tgt := 24) hx hb dX7_drawBelow_17 (by decide) (fun c8 => ?_) (fun c8 => ?_)
  rotate_left
  · exact absurd ((nI_ltI (a := 0) (b := k) (by omega) (by omega)).mpr hk0) c8
  refine lv_aload_n hx hb dX7_drawBelow_24 rfl (lv_at hl 0 rfl) ?_
  refine z_get (v := .long (zDR lk)) C hz a4 zl7 mFX7_62 (by decide) rfl dX7_drawBelow_25 ?_
  refine lv_iload_n hx hb dX7_drawBelow_28 rfl (lv_at hl 1 rfl) ?_
  refine lv_topi (fun y9 e10 => ?_)
  obtain rfl : y9 = nI k := e10.trans hxk
  refine lv_i2l (v := (nI k).toInt64) hx hb dX7_drawBelow_29 rfl ?_
  refine lv_lrem hx hb dX7_drawBelow_30 (z_knz hk0 hk31) ?_
  refine lv_topl (fun y11 e12 => ?_)
  obtain rfl : y11 = lN (zLN (zDR lk) % k) := e12.trans (by rw [hlkl, zDR_l hla, zLN_l (Nat.mod_lt _ (by omega))]; exact z_lm (Nat.mod_lt _ (by omega)) hk0 hk31)
  refine lv_l2i (v := (lN (zLN (zDR lk) % k)).toInt32) hx hb dX7_drawBelow_31 rfl ?_
  refine lv_topi (fun y13 e14 => ?_)
  obtain rfl : y13 = nI (zLN (zDR lk) % k) := e14.trans (lN_i _)
  exact z_iret C hr rfl hz hS ⟨rfl, ⟨_, Nat.mod_lt _ (by omega), by rw [hlkl]; exact zDR_l hla⟩, a4, (by
        intro b e hb n0
        have hb0 : f3 b = some e := (k5 b n0).trans hb
        exact hb0)⟩ (Nat.le_of_ble_eq_true rfl) (Nat.le_of_ble_eq_true rfl) dX7_drawBelow_32
abbrev rmX7_reorder : Room := { frames := 1, cells := 0, slots := 0, locals := 23 }
set_option maxHeartbeats 4000000 in
set_option maxRecDepth 100000 in
theorem k_X7_reorder (l : Launch) (D : va_G) (cy : Nat → ClassId) (f : zM) (o : Nat) (fa : Nat) (fi : Nat) (nu : Nat) (fm : Nat) (co : Nat) (en : Nat) (ke : Nat) (ev : Nat) (al : Nat) (ra : Nat) (kn : Nat) (vq : Nat) (ge : Nat → Option Nat) (ea : Nat → Nat) (ma : Nat → Nat) (u1 : Int32) (u2 : Int32) (u3 : Int32) (gv : Nat → Int32) (nl : Nat) (gu : Nat → Int32) (nn : Nat) (ga : Nat → Option Nat) (gr : Nat → Option Nat) (fg : Nat → Nat) (pt : Nat → Nat) (kd : Nat → Int32) (ln : Nat → Nat) (pp : Nat → Nat → Int64) (wg : Nat → Int64) (wd : Nat → Int32) (hs : Nat → Int32) (bf : Nat → Int32) (nf : Nat) (gf : Nat → Option Nat) (fq : Nat → Nat) (fk : Nat → Nat) (fz : Nat → Nat) (fc : Nat → Nat → Int32) (nc : Nat) (gc : Nat → Option Nat) (cn : Nat → Nat) (ce : Nat → Int32) (cm : Nat → Int32) (sq : Nat → Nat) (mb : Nat → Nat → Int32) (ks : Nat) (kk : Nat → Int32) (kv : Nat → Int32) (lk : Int64) (x : Int32)    (hI : zIX cy f o fa fi nu fm co en ke ev al ra kn vq ge ea ma u1 u2 u3 gv nl gu nn ga gr fg pt kd ln pp wg wd hs bf nf gf fq fk fz fc nc gc cn ce cm sq mb ks kk kv lk) : zCi l D cy yX7_reorder cX7_reorder 4 (Option.some Jvm.ClassFile.FieldType.int) rmX7_reorder [.ref o, .int x] f (fun (r : Int32) (f1 : zM) => ∃ (u11 : Int32) (u21 : Int32) (u31 : Int32) (gv1 : Nat → Int32) (nl1 : Nat) (gu1 : Nat → Int32) (nn1 : Nat) (ga1 : Nat → Option Nat) (gr1 : Nat → Option Nat) (fg1 : Nat → Nat) (pt1 : Nat → Nat) (kd1 : Nat → Int32) (ln1 : Nat → Nat) (pp1 : Nat → Nat → Int64) (wg1 : Nat → Int64) (wd1 : Nat → Int32) (hs1 : Nat → Int32) (bf1 : Nat → Int32) (nf1 : Nat) (gf1 : Nat → Option Nat) (fq1 : Nat → Nat) (fk1 : Nat → Nat) (fz1 : Nat → Nat) (fc1 : Nat → Nat → Int32) (nc1 : Nat) (gc1 : Nat → Option Nat) (cn1 : Nat → Nat) (ce1 : Nat → Int32) (cm1 : Nat → Int32) (sq1 : Nat → Nat) (mb1 : Nat → Nat → Int32) (ks1 : Nat) (kk1 : Nat → Int32) (kv1 : Nat → Int32) (lk1 : Int64), (u11 = u1) ∧ (u21 = u2) ∧ (u31 = u3) ∧ (gv1 = gv) ∧ (nl1 = nl) ∧ (gu1 = gu) ∧ (nn1 = nn) ∧ (kd1 = kd) ∧ (ln1 = ln) ∧ (pp1 = pp) ∧ (wd1 = wd) ∧ (hs1 = hs) ∧ (nf1 = nf) ∧ (fz1 = fz) ∧ (fc1 = fc) ∧ (nc1 = nc) ∧ (ce1 = ce) ∧ (cm1 = cm) ∧ (sq1 = sq) ∧ (ks1 = ks) ∧ (kk1 = kk) ∧ (kv1 = kv) ∧ (zXR x sq mb lk r mb1 lk1) ∧ zIX cy f1 o fa fi nu fm co en ke ev al ra kn vq ge ea ma u11 u21 u31 gv1 nl1 gu1 nn1 ga1 gr1 fg1 pt1 kd1 ln1 pp1 wg1 wd1 hs1 bf1 nf1 gf1 fq1 fk1 fz1 fc1 nc1 gc1 cn1 ce1 cm1 sq1 mb1 ks1 kk1 kv1 lk1) := by
  intro sz
  refine z_body (by decide +kernel) (Nat.le_of_ble_eq_true rfl) ?_
  intro p e s m below meth c ls C hr hin hsz hz hl
  subst hsz
  have hx := C.1
  have hb := C.2.1
  have hA : ∀ q, s.heap.size ≤ q → zA f s.heap.size q := fun q h => Or.inr h
  have hS : va_S (zA f s.heap.size) s.heap s.heap [] := va_S.rf
  have hl : lv_has ls 4 [(0, .ref o), (1, .int x)] := hl
  obtain ⟨x_o, x_fa, x_ev, x_fi, x_al, x_ra, x_nu, x_fm, x_co, x_en, x_ke, x_kn, x_vq, hF, hP, hFq, hFk, hCn, hEa, hMa, hn60, hl12, hf6, hc60, hs40, hga, hgr, hln, hk5, hk4, hfi, hpi, har, hgf, hfz, hgc, hG, hsq, hei, hmi, kne, hca, hcr, hlk⟩ := id hI
  by_cases he : 0 ≤ x ∧ x < 4
  · obtain ⟨j, hj, hxj⟩ := z_ix4 he
    have hIj : fI x = j := fI_of (by omega) hxj
    refine lv_aload_n hx hb dX7_reorder_0 rfl (lv_at hl 0 rfl) ?_
    refine lv_iload_n hx hb dX7_reorder_1 rfl (lv_at hl 1 rfl) ?_
    refine z_callVq (As := [.int x]) C hz hS hA hl (k_X7_findEnumeration_A l D cy f o fa fi nu nl fm nf co nc en ke lk ge ea x j x_o x_en hxj hj hG) zyX7_findEnumeration mMX7_204 x_o zl7 rfl rfl (Nat.le_of_ble_eq_true rfl) ⟨Nat.le_of_ble_eq_true rfl, Nat.le_of_ble_eq_true rfl⟩ ⟨Nat.le_of_ble_eq_true rfl, Nat.le_of_ble_eq_true rfl⟩ dX7_reorder_2 (fun r f1 H locs h2 hz hS => ?_)
    obtain ⟨rfl, k3⟩ := h2
    refine W.eq (g2 := F0 m 5 ls [.ref (ea j)]) rfl ?_
    refine lv_astore_n (lv' := [(2, .ref (ea j)), (0, .ref o), (1, .int x)]) hx hb dX7_reorder_5 rfl hl (by decide) rfl (fun ls hl => ?_)
    refine lv_aload_n hx hb dX7_reorder_6 rfl (lv_at hl 0 rfl) ?_
    refine lv_ifnonnull (tgt := 13) hx hb dX7_reorder_7 (by decide) ?_
    refine lv_aload_n hx hb dX7_reorder_13 rfl (lv_at hl 0 rfl) ?_
    have F4 : ∀ i9 : Nat, i9 < 4 → f1 (ea i9) = some (.inr (1, [.ref (ma i9), .int (nI (sq i9))])) := fun i9 h9 => k3 _ _ (hEa i9 h9) 
    have a5 : f1 (ea j) = some (.inr (1, [.ref (ma j), .int (nI (sq j))])) := F4 j hj
    refine z_getN (v := .int (nI (sq j))) C hz a5 zl1 mFNX7_227 (by decide) rfl dX7_reorder_14 ?_
    refine lv_iconst (v := 1) hx hb dX7_reorder_17 (by decide) ?_
    refine lv_isub hx hb dX7_reorder_18 ?_
    refine lv_istore_n (lv' := [(3, .int ((nI (sq j)) - 1)), (2, .ref (ea j)), (0, .ref o), (1, .int x)]) hx hb dX7_reorder_19 rfl hl (by decide) rfl (fun ls hl => ?_)
    have lp6 : ∀ (n : Nat) (k : Nat) (mbv : Nat → Nat → Int32) (lkv : Int64) (fL7 : zM) (H : Heap) (locs : List Loc) (ls : Array Slot), (k) < n → (k ≤ 60) → (∃ k, k < 2147483647 ∧ lkv = lN k) → (∀ i, ¬ i = j → mbv i = mb i) → (zSH (sq j) (mb j) lk = zSH k (mbv j) lkv) → fL7 o = some (.inr (7, [.ref fa, .ref fi, .ref nu, .int (nI nl), .ref fm, .int (nI nf), .ref co, .int (nI nc), .ref en, .ref ke, .long lkv])) → (∀ i9 : Nat, i9 < 4 → fL7 (ma i9) = some (.inl (cy 0, 60, .inl (mbv i9)))) → (∀ (b : Nat) (e : va_E), f1 b = some e → b ≠ o → (∀ j9 : Nat, j9 < 4 → b ≠ ma j9) → fL7 b = some e) → zH D (zA f s.heap.size) fL7 H → va_S (zA f s.heap.size) s.heap H locs → lv_has ls 4 [(0, .ref o), (2, .ref (ea j)), (3, .int (nI k - 1))] → W p l e rmX7_reorder s m ([.ref o, .int x] : List Value).toArray below meth c H locs 0 0 (MQ below (va_Qi (fun (r : Int32) (f1 : zM) => ∃ (u11 : Int32) (u21 : Int32) (u31 : Int32) (gv1 : Nat → Int32) (nl1 : Nat) (gu1 : Nat → Int32) (nn1 : Nat) (ga1 : Nat → Option Nat) (gr1 : Nat → Option Nat) (fg1 : Nat → Nat) (pt1 : Nat → Nat) (kd1 : Nat → Int32) (ln1 : Nat → Nat) (pp1 : Nat → Nat → Int64) (wg1 : Nat → Int64) (wd1 : Nat → Int32) (hs1 : Nat → Int32) (bf1 : Nat → Int32) (nf1 : Nat) (gf1 : Nat → Option Nat) (fq1 : Nat → Nat) (fk1 : Nat → Nat) (fz1 : Nat → Nat) (fc1 : Nat → Nat → Int32) (nc1 : Nat) (gc1 : Nat → Option Nat) (cn1 : Nat → Nat) (ce1 : Nat → Int32) (cm1 : Nat → Int32) (sq1 : Nat → Nat) (mb1 : Nat → Nat → Int32) (ks1 : Nat) (kk1 : Nat → Int32) (kv1 : Nat → Int32) (lk1 : Int64), (u11 = u1) ∧ (u21 = u2) ∧ (u31 = u3) ∧ (gv1 = gv) ∧ (nl1 = nl) ∧ (gu1 = gu) ∧ (nn1 = nn) ∧ (kd1 = kd) ∧ (ln1 = ln) ∧ (pp1 = pp) ∧ (wd1 = wd) ∧ (hs1 = hs) ∧ (nf1 = nf) ∧ (fz1 = fz) ∧ (fc1 = fc) ∧ (nc1 = nc) ∧ (ce1 = ce) ∧ (cm1 = cm) ∧ (sq1 = sq) ∧ (ks1 = ks) ∧ (kk1 = kk) ∧ (kv1 = kv) ∧ (zXR x sq mb lk r mb1 lk1) ∧ zIX cy f1 o fa fi nu fm co en ke ev al ra kn vq ge ea ma u11 u21 u31 gv1 nl1 gu1 nn1 ga1 gr1 fg1 pt1 kd1 ln1 pp1 wg1 wd1 hs1 bf1 nf1 gf1 fq1 fk1 fz1 fc1 nc1 gc1 cn1 ce1 cm1 sq1 mb1 ks1 kk1 kv1 lk1) (zB D f s.heap.size) (zA f s.heap.size)) ([.ref o, .int x] : List Value).toArray s rmX7_reorder.cells rmX7_reorder.slots (zA f s.heap.size)) (F0 m 20 ls []) := by
      intro n
      induction n with
      | zero => intro k mbv lkv fL7 H locs ls hmz; exact absurd hmz (Nat.not_lt_zero _)
      | succ n ih =>
        intro k mbv lkv fL7 H locs ls hmz hk60 hlkv hoth hsh a9 F10 k8 hz hS hl
        refine lv_iload_n hx hb dX7_reorder_20 rfl (lv_at hl 2 rfl) ?_
        refine lv_iconst (v := 1) hx hb dX7_reorder_21 (by decide) ?_
        refine lv_icmp_lt (tgt := 43) hx hb dX7_reorder_22 (by decide) (fun c11 => ?_) (fun c11 => ?_)
        · have hfin := hsh.trans (zSH_0 (z_k2n hk60 c11))
          refine lv_aload_n hx hb dX7_reorder_43 rfl (lv_at hl 1 rfl) ?_
          have a12 : f1 o = some (.inr (7, [.ref fa, .ref fi, .ref nu, .int (nI nl), .ref fm, .int (nI nf), .ref co, .int (nI nc), .ref en, .ref ke, .long lk])) := k3 _ _ x_o 
          have F13 : ∀ i9 : Nat, i9 < 4 → f1 (ma i9) = some (.inl (cy 0, 60, .inl (mb i9))) := fun i9 h9 => k3 _ _ (hMa i9 h9) 
          have a14 : fL7 (ea j) = some (.inr (1, [.ref (ma j), .int (nI (sq j))])) := k8 _ _ a5 (z_ne a5 a12 rfl) (fun j9 h8 => (z_ne a5 (F13 j9 h8) rfl))
          refine z_getN (v := .int (nI (sq j))) C hz a14 zl1 mFNX7_227 (by decide) rfl dX7_reorder_44 ?_
          have a15 : f1 fa = some (.inr (2, [.int u1, .int u2, .int u3, .ref ev])) := k3 _ _ x_fa 
          have a16 : fL7 fa = some (.inr (2, [.int u1, .int u2, .int u3, .ref ev])) := k8 _ _ a15 (z_ne a15 a12 rfl) (fun j9 h8 => (z_ne a15 (F13 j9 h8) rfl))
          have a17 : f1 ev = some (.inl (cy 0, 8, .inl gv)) := k3 _ _ x_ev 
          have a18 : fL7 ev = some (.inl (cy 0, 8, .inl gv)) := k8 _ _ a17 (z_ne a17 a12 rfl) (fun j9 h8 => (z_ne a17 (F13 j9 h8) rfl))
          have a19 : f1 fi = some (.inr (5, [.ref al, .ref ra, .int (nI nn)])) := k3 _ _ x_fi 
          have a20 : fL7 fi = some (.inr (5, [.ref al, .ref ra, .int (nI nn)])) := k8 _ _ a19 (z_ne a19 a12 rfl) (fun j9 h8 => (z_ne a19 (F13 j9 h8) rfl))
          have a21 : f1 al = some (.inl (cy 3, 60, .inr (.inr (.inr (.inr ga))))) := k3 _ _ x_al 
          have a22 : fL7 al = some (.inl (cy 3, 60, .inr (.inr (.inr (.inr ga))))) := k8 _ _ a21 (z_ne a21 a12 rfl) (fun j9 h8 => (z_ne a21 (F13 j9 h8) rfl))
          have a23 : f1 ra = some (.inl (cy 3, 60, .inr (.inr (.inr (.inr gr))))) := k3 _ _ x_ra 
          have a24 : fL7 ra = some (.inl (cy 3, 60, .inr (.inr (.inr (.inr gr))))) := k8 _ _ a23 (z_ne a23 a12 rfl) (fun j9 h8 => (z_ne a23 (F13 j9 h8) rfl))
          have a25 : f1 nu = some (.inl (cy 0, 12, .inl gu)) := k3 _ _ x_nu 
          have a26 : fL7 nu = some (.inl (cy 0, 12, .inl gu)) := k8 _ _ a25 (z_ne a25 a12 rfl) (fun j9 h8 => (z_ne a25 (F13 j9 h8) rfl))
          have a27 : f1 fm = some (.inl (cy 4, 6, .inr (.inr (.inr (.inr gf))))) := k3 _ _ x_fm 
          have a28 : fL7 fm = some (.inl (cy 4, 6, .inr (.inr (.inr (.inr gf))))) := k8 _ _ a27 (z_ne a27 a12 rfl) (fun j9 h8 => (z_ne a27 (F13 j9 h8) rfl))
          have a29 : f1 co = some (.inl (cy 5, 60, .inr (.inr (.inr (.inr gc))))) := k3 _ _ x_co 
          have a30 : fL7 co = some (.inl (cy 5, 60, .inr (.inr (.inr (.inr gc))))) := k8 _ _ a29 (z_ne a29 a12 rfl) (fun j9 h8 => (z_ne a29 (F13 j9 h8) rfl))
          have a31 : f1 en = some (.inl (cy 6, 4, .inr (.inr (.inr (.inr ge))))) := k3 _ _ x_en 
          have a32 : fL7 en = some (.inl (cy 6, 4, .inr (.inr (.inr (.inr ge))))) := k8 _ _ a31 (z_ne a31 a12 rfl) (fun j9 h8 => (z_ne a31 (F13 j9 h8) rfl))
          have a33 : f1 ke = some (.inr (6, [.ref kn, .ref vq, .int (nI ks)])) := k3 _ _ x_ke 
          have a34 : fL7 ke = some (.inr (6, [.ref kn, .ref vq, .int (nI ks)])) := k8 _ _ a33 (z_ne a33 a12 rfl) (fun j9 h8 => (z_ne a33 (F13 j9 h8) rfl))
          have a35 : f1 kn = some (.inl (cy 0, 40, .inl kk)) := k3 _ _ x_kn 
          have a36 : fL7 kn = some (.inl (cy 0, 40, .inl kk)) := k8 _ _ a35 (z_ne a35 a12 rfl) (fun j9 h8 => (z_ne a35 (F13 j9 h8) rfl))
          have a37 : f1 vq = some (.inl (cy 0, 40, .inl kv)) := k3 _ _ x_vq 
          have a38 : fL7 vq = some (.inl (cy 0, 40, .inl kv)) := k8 _ _ a37 (z_ne a37 a12 rfl) (fun j9 h8 => (z_ne a37 (F13 j9 h8) rfl))
          have F39 : ∀ i9 : Nat, i9 < nn → f1 (fg i9) = some (.inr (4, [.int (kd i9), .ref (pt i9), .long (wg i9), .int (wd i9), .int (nI i9), .int (hs i9), .int (bf i9)])) := fun i9 h9 => k3 _ _ (hF i9 h9) 
          have F40 : ∀ i9 : Nat, i9 < nn → fL7 (fg i9) = some (.inr (4, [.int (kd i9), .ref (pt i9), .long (wg i9), .int (wd i9), .int (nI i9), .int (hs i9), .int (bf i9)])) := fun i9 h9 => k8 _ _ (F39 i9 h9) (z_ne (F39 i9 h9) a12 rfl) (fun j9 h8 => (z_ne (F39 i9 h9) (F13 j9 h8) rfl))
          have F41 : ∀ i9 : Nat, i9 < nn → f1 (pt i9) = some (.inl (cy 1, (ln i9), .inr (.inl (pp i9)))) := fun i9 h9 => k3 _ _ (hP i9 h9) 
          have F42 : ∀ i9 : Nat, i9 < nn → fL7 (pt i9) = some (.inl (cy 1, (ln i9), .inr (.inl (pp i9)))) := fun i9 h9 => k8 _ _ (F41 i9 h9) (z_neO (F41 i9 h9) a12 rfl) (fun j9 h8 => (z_neA (F41 i9 h9) (F13 j9 h8) rfl))
          have F43 : ∀ i9 : Nat, i9 < nf → f1 (fq i9) = some (.inr (3, [.ref (fk i9), .int (nI (fz i9))])) := fun i9 h9 => k3 _ _ (hFq i9 h9) 
          have F44 : ∀ i9 : Nat, i9 < nf → fL7 (fq i9) = some (.inr (3, [.ref (fk i9), .int (nI (fz i9))])) := fun i9 h9 => k8 _ _ (F43 i9 h9) (z_ne (F43 i9 h9) a12 rfl) (fun j9 h8 => (z_ne (F43 i9 h9) (F13 j9 h8) rfl))
          have F45 : ∀ i9 : Nat, i9 < nf → f1 (fk i9) = some (.inl (cy 0, 4, .inl (fc i9))) := fun i9 h9 => k3 _ _ (hFk i9 h9) 
          have F46 : ∀ i9 : Nat, i9 < nf → fL7 (fk i9) = some (.inl (cy 0, 4, .inl (fc i9))) := fun i9 h9 => k8 _ _ (F45 i9 h9) (z_ne (F45 i9 h9) a12 rfl) (fun j9 h8 => (z_ne (F45 i9 h9) (F13 j9 h8) rfl))
          have F47 : ∀ i9 : Nat, i9 < nc → f1 (cn i9) = some (.inr (0, [.int (ce i9), .int (cm i9)])) := fun i9 h9 => k3 _ _ (hCn i9 h9) 
          have F48 : ∀ i9 : Nat, i9 < nc → fL7 (cn i9) = some (.inr (0, [.int (ce i9), .int (cm i9)])) := fun i9 h9 => k8 _ _ (F47 i9 h9) (z_ne (F47 i9 h9) a12 rfl) (fun j9 h8 => (z_ne (F47 i9 h9) (F13 j9 h8) rfl))
          have F49 : ∀ i9 : Nat, i9 < 4 → fL7 (ea i9) = some (.inr (1, [.ref (ma i9), .int (nI (sq i9))])) := fun i9 h9 => k8 _ _ (F4 i9 h9) (z_ne (F4 i9 h9) a12 rfl) (fun j9 h8 => (z_ne (F4 i9 h9) (F13 j9 h8) rfl))
          exact z_iret C hr rfl hz hS ⟨u1, u2, u3, gv, nl, gu, nn, ga, gr, fg, pt, kd, ln, pp, wg, wd, hs, bf, nf, gf, fq, fk, fz, fc, nc, gc, cn, ce, cm, sq, mbv, ks, kk, kv, lkv, rfl, rfl, rfl, rfl, rfl, rfl, rfl, rfl, rfl, rfl, rfl, rfl, rfl, rfl, rfl, rfl, rfl, rfl, rfl, rfl, rfl, rfl, (Or.inl ⟨j, hj, hxj, rfl, z_mbj hoth (congrArg Prod.fst hfin).symm, (congrArg Prod.snd hfin).symm⟩), ⟨a9, a16, a18, a20, a22, a24, a26, a28, a30, a32, a34, a36, a38, F40, F42, F44, F46, F48, F49, F10, hn60, hl12, hf6, hc60, hs40, hga, hgr, hln, hk5, hk4, hfi, hpi, har, hgf, hfz, hgc, hG, hsq, hei, hmi, kne, hca, hcr, hlkv⟩⟩ (Nat.le_of_ble_eq_true rfl) (Nat.le_of_ble_eq_true rfl) dX7_reorder_47
        · have hk2 := z_k2 (k := k) (by omega) c11
          refine lv_aload_n hx hb dX7_reorder_25 rfl (lv_at hl 1 rfl) ?_
          refine lv_iload_n hx hb dX7_reorder_26 rfl (lv_at hl 2 rfl) ?_
          refine lv_aload_n hx hb dX7_reorder_27 rfl (lv_at hl 0 rfl) ?_
          refine lv_iload_n hx hb dX7_reorder_28 rfl (lv_at hl 2 rfl) ?_
          refine lv_iconst (v := 1) hx hb dX7_reorder_29 (by decide) ?_
          refine lv_iadd hx hb dX7_reorder_30 ?_
          refine lv_topi (fun y50 e51 => ?_)
          obtain rfl : y50 = nI k := e51.trans (by rw [show nI k - 1 = nI (k - 1) from pk_sub (a := k) (b := 1) (by omega)]; exact (nI_1 (k - 1)).trans (by rw [show k - 1 + 1 = k by omega]))
          refine z_callVi (As := [.int (nI k)]) C hz hS hA hl (k_X7_drawBelow l D cy fL7 o fa fi nu nl fm nf co nc en ke lkv (nI k) k a9 hlkv rfl (by omega) (by omega)) zyX7_drawBelow mMX7_230 a9 zl7 rfl rfl (Nat.le_of_ble_eq_true rfl) ⟨Nat.le_of_ble_eq_true rfl, Nat.le_of_ble_eq_true rfl⟩ ⟨Nat.le_of_ble_eq_true rfl, Nat.le_of_ble_eq_true rfl⟩ dX7_reorder_31 (fun r f52 H locs h53 hz hS => ?_)
          obtain ⟨rfl, p54, a55, k56⟩ := h53
          have a57 : f1 o = some (.inr (7, [.ref fa, .ref fi, .ref nu, .int (nI nl), .ref fm, .int (nI nf), .ref co, .int (nI nc), .ref en, .ref ke, .long lk])) := k3 _ _ x_o 
          have F58 : ∀ i9 : Nat, i9 < 4 → f1 (ma i9) = some (.inl (cy 0, 60, .inl (mb i9))) := fun i9 h9 => k3 _ _ (hMa i9 h9) 
          have a59 : fL7 (ea j) = some (.inr (1, [.ref (ma j), .int (nI (sq j))])) := k8 _ _ a5 (z_ne a5 a57 rfl) (fun j9 h8 => (z_ne a5 (F58 j9 h8) rfl))
          have a60 : f52 (ea j) = some (.inr (1, [.ref (ma j), .int (nI (sq j))])) := k56 _ _ a59 (z_ne a59 a9 rfl)
          have F61 : ∀ i9 : Nat, i9 < 4 → f52 (ma i9) = some (.inl (cy 0, 60, .inl (mbv i9))) := fun i9 h9 => k56 _ _ (F10 i9 h9) (z_ne (F10 i9 h9) a9 rfl)
          have a62 : f52 (ma j) = some (.inl (cy 0, 60, .inl (mbv j))) := F61 j hj
          refine z_callVv (As := [.int (nI k - 1), .int (nI (zLN (zDR lkv) % k))]) C hz hS hA hl (k_X1_exchange l D cy f52 (ea j) (ma j) (sq j) (mbv j) (nI k - 1) (nI (zLN (zDR lkv) % k)) (k - 1) (zLN (zDR lkv) % k) a60 a62 (pk_sub (a := k) (b := 1) (by omega)) rfl (by omega) (Nat.lt_of_lt_of_le (Nat.mod_lt _ (by omega)) (by omega))) zyX1_exchange mMX7_233 a60 zl1 rfl rfl (Nat.le_of_ble_eq_true rfl) ⟨Nat.le_of_ble_eq_true rfl, Nat.le_of_ble_eq_true rfl⟩ ⟨Nat.le_of_ble_eq_true rfl, Nat.le_of_ble_eq_true rfl⟩ dX7_reorder_34 (fun  f63 H locs h64 hz hS => ?_)
          obtain ⟨a65, k66⟩ := h64
          refine lv_iinc (v := nI (k - 1) - 1) (lv' := [(3, .int (nI (k - 1) - 1)), (0, .ref o), (2, .ref (ea j))]) hx hb dX7_reorder_37 hl (k := 2) rfl (z_km (by omega)) (by decide) rfl (fun ls hl => ?_)
          refine lv_goto (tgt := 20) hx hb dX7_reorder_40 (by decide) ?_
          have F67 : ∀ i9 : Nat, i9 < 4 → f63 (ma i9) = some (.inl (cy 0, 60, .inl (va_up mbv j (upd (upd (mbv j) (k - 1) ((mbv j) (zLN (zDR lkv) % k))) (zLN (zDR lkv) % k) ((mbv j) (k - 1))) i9))) := z_famC (f := f) (T := fun i9 => .inl (cy 0, 60, .inl (mbv i9))) (T' := fun i9 => .inl (cy 0, 60, .inl (va_up mbv j (upd (upd (mbv j) (k - 1) ((mbv j) (zLN (zDR lkv) % k))) (zLN (zDR lkv) % k) ((mbv j) (k - 1))) i9))) hj (by simp only [va_up_self]; exact a65) (fun i9 h9 n9 => k66 _ _ (F61 i9 h9) n9) (fun i9 h9 => by simp only [va_up_ne _ _ h9]) (fun i9 h9 => hmi i9 h9 j hj)
          have a68 : f63 o = some (.inr (7, [.ref fa, .ref fi, .ref nu, .int (nI nl), .ref fm, .int (nI nf), .ref co, .int (nI nc), .ref en, .ref ke, .long (zDR lkv)])) := k66 _ _ a55 (z_ne a55 a62 rfl)
          exact ih (k - 1) (va_up mbv j (upd (upd (mbv j) (k - 1) ((mbv j) (zLN (zDR lkv) % k))) (zLN (zDR lkv) % k) ((mbv j) (k - 1)))) (zDR lkv) _ _ _ _ (by omega) (by omega) p54 (fun i9 h9 => (va_up_ne _ _ h9).trans (hoth i9 h9)) (zSH_st hk2 hsh (va_up_self _ _ _)) a68 F67 (by
                intro b e hb n0 n1
                have hb1 : fL7 b = some e := k8 b e hb n0 n1
                have hb2 : f52 b = some e := k56 b e hb1 n0
                have hb3 : f63 b = some e := k66 b e hb2 (n1 j hj)
                exact hb3) hz hS (lv_sub hl [1, 2, 0] rfl)
    have a69 : f1 o = some (.inr (7, [.ref fa, .ref fi, .ref nu, .int (nI nl), .ref fm, .int (nI nf), .ref co, .int (nI nc), .ref en, .ref ke, .long lk])) := k3 _ _ x_o 
    have F70 : ∀ i9 : Nat, i9 < 4 → f1 (ma i9) = some (.inl (cy 0, 60, .inl (mb i9))) := fun i9 h9 => k3 _ _ (hMa i9 h9) 
    exact lp6 ((sq j) + 1) (sq j) mb lk _ _ _ _ (Nat.lt_succ_self _) (by have h9 := hsq j hj; omega) hlk (fun _ _ => rfl) rfl a69 F70 (fun b e hb n0 n1 => hb) hz hS (lv_sub hl [2, 1, 0] rfl)
  · refine lv_aload_n hx hb dX7_reorder_0 rfl (lv_at hl 0 rfl) ?_
    refine lv_iload_n hx hb dX7_reorder_1 rfl (lv_at hl 1 rfl) ?_
    refine z_callVq (As := [.int x]) C hz hS hA hl (k_X7_findEnumeration_B l D cy f o fa fi nu nl fm nf co nc en ke lk x x_o he) zyX7_findEnumeration mMX7_204 x_o zl7 rfl rfl (Nat.le_of_ble_eq_true rfl) ⟨Nat.le_of_ble_eq_true rfl, Nat.le_of_ble_eq_true rfl⟩ ⟨Nat.le_of_ble_eq_true rfl, Nat.le_of_ble_eq_true rfl⟩ dX7_reorder_2 (fun r f71 H locs h72 hz hS => ?_)
    obtain ⟨rfl, k73⟩ := h72
    refine W.eq (g2 := F0 m 5 ls [.null]) rfl ?_
    refine lv_astore_nN (lv' := [(2, .null), (0, .ref o), (1, .int x)]) hx hb dX7_reorder_5 rfl hl (by decide) rfl (fun ls hl => ?_)
    refine lv_aload_nN hx hb dX7_reorder_6 rfl (lv_at hl 0 rfl) ?_
    refine lv_ifnonnullN hx hb dX7_reorder_7 ?_
    refine lv_bipush (v := (-2)) hx hb dX7_reorder_10 (by decide) ?_
    have a74 : f71 o = some (.inr (7, [.ref fa, .ref fi, .ref nu, .int (nI nl), .ref fm, .int (nI nf), .ref co, .int (nI nc), .ref en, .ref ke, .long lk])) := k73 _ _ x_o 
    have a75 : f71 fa = some (.inr (2, [.int u1, .int u2, .int u3, .ref ev])) := k73 _ _ x_fa 
    have a76 : f71 ev = some (.inl (cy 0, 8, .inl gv)) := k73 _ _ x_ev 
    have a77 : f71 fi = some (.inr (5, [.ref al, .ref ra, .int (nI nn)])) := k73 _ _ x_fi 
    have a78 : f71 al = some (.inl (cy 3, 60, .inr (.inr (.inr (.inr ga))))) := k73 _ _ x_al 
    have a79 : f71 ra = some (.inl (cy 3, 60, .inr (.inr (.inr (.inr gr))))) := k73 _ _ x_ra 
    have a80 : f71 nu = some (.inl (cy 0, 12, .inl gu)) := k73 _ _ x_nu 
    have a81 : f71 fm = some (.inl (cy 4, 6, .inr (.inr (.inr (.inr gf))))) := k73 _ _ x_fm 
    have a82 : f71 co = some (.inl (cy 5, 60, .inr (.inr (.inr (.inr gc))))) := k73 _ _ x_co 
    have a83 : f71 en = some (.inl (cy 6, 4, .inr (.inr (.inr (.inr ge))))) := k73 _ _ x_en 
    have a84 : f71 ke = some (.inr (6, [.ref kn, .ref vq, .int (nI ks)])) := k73 _ _ x_ke 
    have a85 : f71 kn = some (.inl (cy 0, 40, .inl kk)) := k73 _ _ x_kn 
    have a86 : f71 vq = some (.inl (cy 0, 40, .inl kv)) := k73 _ _ x_vq 
    have F87 : ∀ i9 : Nat, i9 < nn → f71 (fg i9) = some (.inr (4, [.int (kd i9), .ref (pt i9), .long (wg i9), .int (wd i9), .int (nI i9), .int (hs i9), .int (bf i9)])) := fun i9 h9 => k73 _ _ (hF i9 h9) 
    have F88 : ∀ i9 : Nat, i9 < nn → f71 (pt i9) = some (.inl (cy 1, (ln i9), .inr (.inl (pp i9)))) := fun i9 h9 => k73 _ _ (hP i9 h9) 
    have F89 : ∀ i9 : Nat, i9 < nf → f71 (fq i9) = some (.inr (3, [.ref (fk i9), .int (nI (fz i9))])) := fun i9 h9 => k73 _ _ (hFq i9 h9) 
    have F90 : ∀ i9 : Nat, i9 < nf → f71 (fk i9) = some (.inl (cy 0, 4, .inl (fc i9))) := fun i9 h9 => k73 _ _ (hFk i9 h9) 
    have F91 : ∀ i9 : Nat, i9 < nc → f71 (cn i9) = some (.inr (0, [.int (ce i9), .int (cm i9)])) := fun i9 h9 => k73 _ _ (hCn i9 h9) 
    have F92 : ∀ i9 : Nat, i9 < 4 → f71 (ea i9) = some (.inr (1, [.ref (ma i9), .int (nI (sq i9))])) := fun i9 h9 => k73 _ _ (hEa i9 h9) 
    have F93 : ∀ i9 : Nat, i9 < 4 → f71 (ma i9) = some (.inl (cy 0, 60, .inl (mb i9))) := fun i9 h9 => k73 _ _ (hMa i9 h9) 
    exact z_iret C hr rfl hz hS ⟨u1, u2, u3, gv, nl, gu, nn, ga, gr, fg, pt, kd, ln, pp, wg, wd, hs, bf, nf, gf, fq, fk, fz, fc, nc, gc, cn, ce, cm, sq, mb, ks, kk, kv, lk, rfl, rfl, rfl, rfl, rfl, rfl, rfl, rfl, rfl, rfl, rfl, rfl, rfl, rfl, rfl, rfl, rfl, rfl, rfl, rfl, rfl, rfl, (Or.inr ⟨he, rfl, rfl, rfl⟩), ⟨a74, a75, a76, a77, a78, a79, a80, a81, a82, a83, a84, a85, a86, F87, F88, F89, F90, F91, F92, F93, hn60, hl12, hf6, hc60, hs40, hga, hgr, hln, hk5, hk4, hfi, hpi, har, hgf, hfz, hgc, hG, hsq, hei, hmi, kne, hca, hcr, hlk⟩⟩ (Nat.le_of_ble_eq_true rfl) (Nat.le_of_ble_eq_true rfl) dX7_reorder_12
abbrev rmX7_seed : Room := { frames := 0, cells := 0, slots := 0, locals := 0 }
set_option maxHeartbeats 4000000 in
set_option maxRecDepth 100000 in
theorem k_X7_seed (l : Launch) (D : va_G) (cy : Nat → ClassId) (f : zM) (o : Nat) (fa : Nat) (fi : Nat) (nu : Nat) (fm : Nat) (co : Nat) (en : Nat) (ke : Nat) (ev : Nat) (al : Nat) (ra : Nat) (kn : Nat) (vq : Nat) (ge : Nat → Option Nat) (ea : Nat → Nat) (ma : Nat → Nat) (u1 : Int32) (u2 : Int32) (u3 : Int32) (gv : Nat → Int32) (nl : Nat) (gu : Nat → Int32) (nn : Nat) (ga : Nat → Option Nat) (gr : Nat → Option Nat) (fg : Nat → Nat) (pt : Nat → Nat) (kd : Nat → Int32) (ln : Nat → Nat) (pp : Nat → Nat → Int64) (wg : Nat → Int64) (wd : Nat → Int32) (hs : Nat → Int32) (bf : Nat → Int32) (nf : Nat) (gf : Nat → Option Nat) (fq : Nat → Nat) (fk : Nat → Nat) (fz : Nat → Nat) (fc : Nat → Nat → Int32) (nc : Nat) (gc : Nat → Option Nat) (cn : Nat → Nat) (ce : Nat → Int32) (cm : Nat → Int32) (sq : Nat → Nat) (mb : Nat → Nat → Int32) (ks : Nat) (kk : Nat → Int32) (kv : Nat → Int32) (lk : Int64) (x : Int32)    (hI : zIX cy f o fa fi nu fm co en ke ev al ra kn vq ge ea ma u1 u2 u3 gv nl gu nn ga gr fg pt kd ln pp wg wd hs bf nf gf fq fk fz fc nc gc cn ce cm sq mb ks kk kv lk) : zCi l D cy yX7_seed cX7_seed 3 (Option.some Jvm.ClassFile.FieldType.int) rmX7_seed [.ref o, .int x] f (fun (r : Int32) (f1 : zM) => ∃ (u11 : Int32) (u21 : Int32) (u31 : Int32) (gv1 : Nat → Int32) (nl1 : Nat) (gu1 : Nat → Int32) (nn1 : Nat) (ga1 : Nat → Option Nat) (gr1 : Nat → Option Nat) (fg1 : Nat → Nat) (pt1 : Nat → Nat) (kd1 : Nat → Int32) (ln1 : Nat → Nat) (pp1 : Nat → Nat → Int64) (wg1 : Nat → Int64) (wd1 : Nat → Int32) (hs1 : Nat → Int32) (bf1 : Nat → Int32) (nf1 : Nat) (gf1 : Nat → Option Nat) (fq1 : Nat → Nat) (fk1 : Nat → Nat) (fz1 : Nat → Nat) (fc1 : Nat → Nat → Int32) (nc1 : Nat) (gc1 : Nat → Option Nat) (cn1 : Nat → Nat) (ce1 : Nat → Int32) (cm1 : Nat → Int32) (sq1 : Nat → Nat) (mb1 : Nat → Nat → Int32) (ks1 : Nat) (kk1 : Nat → Int32) (kv1 : Nat → Int32) (lk1 : Int64), r = (if isS x = true then lk.toInt32 else (-2)) ∧ (u11 = u1) ∧ (u21 = u2) ∧ (u31 = u3) ∧ (gv1 = gv) ∧ (nl1 = nl) ∧ (gu1 = gu) ∧ (nn1 = nn) ∧ (kd1 = kd) ∧ (ln1 = ln) ∧ (pp1 = pp) ∧ (wd1 = wd) ∧ (hs1 = hs) ∧ (nf1 = nf) ∧ (fz1 = fz) ∧ (fc1 = fc) ∧ (nc1 = nc) ∧ (ce1 = ce) ∧ (cm1 = cm) ∧ (sq1 = sq) ∧ (mb1 = mb) ∧ (ks1 = ks) ∧ (kk1 = kk) ∧ (kv1 = kv) ∧ (lk1 = if isS x = true then x.toInt64 else lk) ∧ zIX cy f1 o fa fi nu fm co en ke ev al ra kn vq ge ea ma u11 u21 u31 gv1 nl1 gu1 nn1 ga1 gr1 fg1 pt1 kd1 ln1 pp1 wg1 wd1 hs1 bf1 nf1 gf1 fq1 fk1 fz1 fc1 nc1 gc1 cn1 ce1 cm1 sq1 mb1 ks1 kk1 kv1 lk1) := by
  intro sz
  refine z_body (by decide +kernel) (Nat.le_of_ble_eq_true rfl) ?_
  intro p e s m below meth c ls C hr hin hsz hz hl
  subst hsz
  have hx := C.1
  have hb := C.2.1
  have hA : ∀ q, s.heap.size ≤ q → zA f s.heap.size q := fun q h => Or.inr h
  have hS : va_S (zA f s.heap.size) s.heap s.heap [] := va_S.rf
  have hl : lv_has ls 3 [(0, .ref o), (1, .int x)] := hl
  obtain ⟨x_o, x_fa, x_ev, x_fi, x_al, x_ra, x_nu, x_fm, x_co, x_en, x_ke, x_kn, x_vq, hF, hP, hFq, hFk, hCn, hEa, hMa, hn60, hl12, hf6, hc60, hs40, hga, hgr, hln, hk5, hk4, hfi, hpi, har, hgf, hfz, hgc, hG, hsq, hei, hmi, kne, hca, hcr, hlk⟩ := id hI
  refine lv_iload_n hx hb dX7_seed_0 rfl (lv_at hl 1 rfl) ?_
  refine lv_iconst (v := 1) hx hb dX7_seed_1 (by decide) ?_
  refine lv_icmp_lt (tgt := 14) hx hb dX7_seed_2 (by decide) (fun c1 => ?_) (fun c1 => ?_)
  · have hSd : isS x = false := isS_1 c1
    refine lv_bipush (v := (-2)) hx hb dX7_seed_14 (by decide) ?_
    exact z_iret C hr rfl hz hS ⟨u1, u2, u3, gv, nl, gu, nn, ga, gr, fg, pt, kd, ln, pp, wg, wd, hs, bf, nf, gf, fq, fk, fz, fc, nc, gc, cn, ce, cm, sq, mb, ks, kk, kv, lk, (by simp [hSd]), rfl, rfl, rfl, rfl, rfl, rfl, rfl, rfl, rfl, rfl, rfl, rfl, rfl, rfl, rfl, rfl, rfl, rfl, rfl, rfl, rfl, rfl, rfl, (by simp [hSd]), ⟨x_o, x_fa, x_ev, x_fi, x_al, x_ra, x_nu, x_fm, x_co, x_en, x_ke, x_kn, x_vq, hF, hP, hFq, hFk, hCn, hEa, hMa, hn60, hl12, hf6, hc60, hs40, hga, hgr, hln, hk5, hk4, hfi, hpi, har, hgf, hfz, hgc, hG, hsq, hei, hmi, kne, hca, hcr, hlk⟩⟩ (Nat.le_of_ble_eq_true rfl) (Nat.le_of_ble_eq_true rfl) dX7_seed_16
  · refine lv_iload_n hx hb dX7_seed_5 rfl (lv_at hl 1 rfl) ?_
    refine lv_i2l (v := x.toInt64) hx hb dX7_seed_6 rfl ?_
    refine lv_ldc2 (v := 2147483647) hx hb C.2.2.2.1 (C.2.2.2.2.1 _ mKX7_236) dX7_seed_7 ?_
    refine W.lcmp hx hb dX7_seed_10 ?_
    refine lv_if_lt (tgt := 17) hx hb dX7_seed_11 (by decide) (fun c2 => ?_) (fun c2 => ?_)
    · have hSd : isS x = true := isS_t c1 ((z_seed x).mp c2)
      refine lv_aload_n hx hb dX7_seed_17 rfl (lv_at hl 0 rfl) ?_
      refine z_get (v := .long lk) C hz x_o zl7 mFX7_62 (by decide) rfl dX7_seed_18 ?_
      refine lv_l2i (v := lk.toInt32) hx hb dX7_seed_21 rfl ?_
      refine lv_istore_n (lv' := [(2, .int lk.toInt32), (0, .ref o), (1, .int x)]) hx hb dX7_seed_22 rfl hl (by decide) rfl (fun ls hl => ?_)
      refine lv_aload_n hx hb dX7_seed_23 rfl (lv_at hl 1 rfl) ?_
      refine lv_iload_n hx hb dX7_seed_24 rfl (lv_at hl 2 rfl) ?_
      refine lv_i2l (v := x.toInt64) hx hb dX7_seed_25 rfl ?_
      refine z_put (fs' := [.ref fa, .ref fi, .ref nu, .int (nI nl), .ref fm, .int (nI nf), .ref co, .int (nI nc), .ref en, .ref ke, .long x.toInt64]) C hz hS x_o zl7 mFX7_62 (by decide) rfl rfl rfl (Nat.le_of_ble_eq_true rfl) rfl dX7_seed_26 (fun H locs f3 a4 k5 hz hS => ?_)
      refine lv_iload_n hx hb dX7_seed_29 rfl (lv_at hl 0 rfl) ?_
      have a6 : f3 fa = some (.inr (2, [.int u1, .int u2, .int u3, .ref ev])) := (k5 _ (z_ne x_fa x_o rfl)).trans x_fa
      have a7 : f3 ev = some (.inl (cy 0, 8, .inl gv)) := (k5 _ (z_ne x_ev x_o rfl)).trans x_ev
      have a8 : f3 fi = some (.inr (5, [.ref al, .ref ra, .int (nI nn)])) := (k5 _ (z_ne x_fi x_o rfl)).trans x_fi
      have a9 : f3 al = some (.inl (cy 3, 60, .inr (.inr (.inr (.inr ga))))) := (k5 _ (z_ne x_al x_o rfl)).trans x_al
      have a10 : f3 ra = some (.inl (cy 3, 60, .inr (.inr (.inr (.inr gr))))) := (k5 _ (z_ne x_ra x_o rfl)).trans x_ra
      have a11 : f3 nu = some (.inl (cy 0, 12, .inl gu)) := (k5 _ (z_ne x_nu x_o rfl)).trans x_nu
      have a12 : f3 fm = some (.inl (cy 4, 6, .inr (.inr (.inr (.inr gf))))) := (k5 _ (z_ne x_fm x_o rfl)).trans x_fm
      have a13 : f3 co = some (.inl (cy 5, 60, .inr (.inr (.inr (.inr gc))))) := (k5 _ (z_ne x_co x_o rfl)).trans x_co
      have a14 : f3 en = some (.inl (cy 6, 4, .inr (.inr (.inr (.inr ge))))) := (k5 _ (z_ne x_en x_o rfl)).trans x_en
      have a15 : f3 ke = some (.inr (6, [.ref kn, .ref vq, .int (nI ks)])) := (k5 _ (z_ne x_ke x_o rfl)).trans x_ke
      have a16 : f3 kn = some (.inl (cy 0, 40, .inl kk)) := (k5 _ (z_ne x_kn x_o rfl)).trans x_kn
      have a17 : f3 vq = some (.inl (cy 0, 40, .inl kv)) := (k5 _ (z_ne x_vq x_o rfl)).trans x_vq
      have F18 : ∀ i9 : Nat, i9 < nn → f3 (fg i9) = some (.inr (4, [.int (kd i9), .ref (pt i9), .long (wg i9), .int (wd i9), .int (nI i9), .int (hs i9), .int (bf i9)])) := fun i9 h9 => (k5 _ (z_ne (hF i9 h9) x_o rfl)).trans (hF i9 h9)
      have F19 : ∀ i9 : Nat, i9 < nn → f3 (pt i9) = some (.inl (cy 1, (ln i9), .inr (.inl (pp i9)))) := fun i9 h9 => (k5 _ (z_neO (hP i9 h9) x_o rfl)).trans (hP i9 h9)
      have F20 : ∀ i9 : Nat, i9 < nf → f3 (fq i9) = some (.inr (3, [.ref (fk i9), .int (nI (fz i9))])) := fun i9 h9 => (k5 _ (z_ne (hFq i9 h9) x_o rfl)).trans (hFq i9 h9)
      have F21 : ∀ i9 : Nat, i9 < nf → f3 (fk i9) = some (.inl (cy 0, 4, .inl (fc i9))) := fun i9 h9 => (k5 _ (z_ne (hFk i9 h9) x_o rfl)).trans (hFk i9 h9)
      have F22 : ∀ i9 : Nat, i9 < nc → f3 (cn i9) = some (.inr (0, [.int (ce i9), .int (cm i9)])) := fun i9 h9 => (k5 _ (z_ne (hCn i9 h9) x_o rfl)).trans (hCn i9 h9)
      have F23 : ∀ i9 : Nat, i9 < 4 → f3 (ea i9) = some (.inr (1, [.ref (ma i9), .int (nI (sq i9))])) := fun i9 h9 => (k5 _ (z_ne (hEa i9 h9) x_o rfl)).trans (hEa i9 h9)
      have F24 : ∀ i9 : Nat, i9 < 4 → f3 (ma i9) = some (.inl (cy 0, 60, .inl (mb i9))) := fun i9 h9 => (k5 _ (z_ne (hMa i9 h9) x_o rfl)).trans (hMa i9 h9)
      exact z_iret C hr rfl hz hS ⟨u1, u2, u3, gv, nl, gu, nn, ga, gr, fg, pt, kd, ln, pp, wg, wd, hs, bf, nf, gf, fq, fk, fz, fc, nc, gc, cn, ce, cm, sq, mb, ks, kk, kv, x.toInt64, (by simp [hSd]), rfl, rfl, rfl, rfl, rfl, rfl, rfl, rfl, rfl, rfl, rfl, rfl, rfl, rfl, rfl, rfl, rfl, rfl, rfl, rfl, rfl, rfl, rfl, (by simp [hSd]), ⟨a4, a6, a7, a8, a9, a10, a11, a12, a13, a14, a15, a16, a17, F18, F19, F20, F21, F22, F23, F24, hn60, hl12, hf6, hc60, hs40, hga, hgr, hln, hk5, hk4, hfi, hpi, har, hgf, hfz, hgc, hG, hsq, hei, hmi, kne, hca, hcr, (z_seedk c1 c2)⟩⟩ (Nat.le_of_ble_eq_true rfl) (Nat.le_of_ble_eq_true rfl) dX7_seed_30
    · have hSd : isS x = false := isS_2 (Classical.byContradiction (fun h9 => c2 ((z_seed x).mpr h9)))
      refine lv_bipush (v := (-2)) hx hb dX7_seed_14 (by decide) ?_
      exact z_iret C hr rfl hz hS ⟨u1, u2, u3, gv, nl, gu, nn, ga, gr, fg, pt, kd, ln, pp, wg, wd, hs, bf, nf, gf, fq, fk, fz, fc, nc, gc, cn, ce, cm, sq, mb, ks, kk, kv, lk, (by simp [hSd]), rfl, rfl, rfl, rfl, rfl, rfl, rfl, rfl, rfl, rfl, rfl, rfl, rfl, rfl, rfl, rfl, rfl, rfl, rfl, rfl, rfl, rfl, rfl, (by simp [hSd]), ⟨x_o, x_fa, x_ev, x_fi, x_al, x_ra, x_nu, x_fm, x_co, x_en, x_ke, x_kn, x_vq, hF, hP, hFq, hFk, hCn, hEa, hMa, hn60, hl12, hf6, hc60, hs40, hga, hgr, hln, hk5, hk4, hfi, hpi, har, hgf, hfz, hgc, hG, hsq, hei, hmi, kne, hca, hcr, hlk⟩⟩ (Nat.le_of_ble_eq_true rfl) (Nat.le_of_ble_eq_true rfl) dX7_seed_16
abbrev rmX7_told : Room := { frames := 2, cells := 0, slots := 0, locals := 43 }
set_option maxHeartbeats 4000000 in
set_option maxRecDepth 100000 in
theorem k_X7_told (l : Launch) (D : va_G) (cy : Nat → ClassId) (f : zM) (o : Nat) (fa : Nat) (fi : Nat) (nu : Nat) (fm : Nat) (co : Nat) (en : Nat) (ke : Nat) (ev : Nat) (al : Nat) (ra : Nat) (kn : Nat) (vq : Nat) (ge : Nat → Option Nat) (ea : Nat → Nat) (ma : Nat → Nat) (u1 : Int32) (u2 : Int32) (u3 : Int32) (gv : Nat → Int32) (nl : Nat) (gu : Nat → Int32) (nn : Nat) (ga : Nat → Option Nat) (gr : Nat → Option Nat) (fg : Nat → Nat) (pt : Nat → Nat) (kd : Nat → Int32) (ln : Nat → Nat) (pp : Nat → Nat → Int64) (wg : Nat → Int64) (wd : Nat → Int32) (hs : Nat → Int32) (bf : Nat → Int32) (nf : Nat) (gf : Nat → Option Nat) (fq : Nat → Nat) (fk : Nat → Nat) (fz : Nat → Nat) (fc : Nat → Nat → Int32) (nc : Nat) (gc : Nat → Option Nat) (cn : Nat → Nat) (ce : Nat → Int32) (cm : Nat → Int32) (sq : Nat → Nat) (mb : Nat → Nat → Int32) (ks : Nat) (kk : Nat → Int32) (kv : Nat → Int32) (lk : Int64) (x : Int32) (y : Int32)    (hI : zIX cy f o fa fi nu fm co en ke ev al ra kn vq ge ea ma u1 u2 u3 gv nl gu nn ga gr fg pt kd ln pp wg wd hs bf nf gf fq fk fz fc nc gc cn ce cm sq mb ks kk kv lk) : zCi l D cy yX7_told cX7_told 5 (Option.some Jvm.ClassFile.FieldType.int) rmX7_told [.ref o, .int x, .int y] f (fun (r : Int32) (f1 : zM) => ∃ (u11 : Int32) (u21 : Int32) (u31 : Int32) (gv1 : Nat → Int32) (nl1 : Nat) (gu1 : Nat → Int32) (nn1 : Nat) (ga1 : Nat → Option Nat) (gr1 : Nat → Option Nat) (fg1 : Nat → Nat) (pt1 : Nat → Nat) (kd1 : Nat → Int32) (ln1 : Nat → Nat) (pp1 : Nat → Nat → Int64) (wg1 : Nat → Int64) (wd1 : Nat → Int32) (hs1 : Nat → Int32) (bf1 : Nat → Int32) (nf1 : Nat) (gf1 : Nat → Option Nat) (fq1 : Nat → Nat) (fk1 : Nat → Nat) (fz1 : Nat → Nat) (fc1 : Nat → Nat → Int32) (nc1 : Nat) (gc1 : Nat → Option Nat) (cn1 : Nat → Nat) (ce1 : Nat → Int32) (cm1 : Nat → Int32) (sq1 : Nat → Nat) (mb1 : Nat → Nat → Int32) (ks1 : Nat) (kk1 : Nat → Int32) (kv1 : Nat → Int32) (lk1 : Int64), (u11 = u1) ∧ (u21 = u2) ∧ (u31 = u3) ∧ (gv1 = gv) ∧ (nl1 = nl) ∧ (gu1 = gu) ∧ (nn1 = nn) ∧ (kd1 = kd) ∧ (ln1 = ln) ∧ (pp1 = pp) ∧ (wd1 = wd) ∧ (hs1 = hs) ∧ (nf1 = nf) ∧ (fz1 = fz) ∧ (fc1 = fc) ∧ (nc1 = nc) ∧ (ce1 = ce) ∧ (cm1 = cm) ∧ (sq1 = sq) ∧ (mb1 = mb) ∧ (ks1 = ks) ∧ (kk1 = kk) ∧ (kv1 = kv) ∧ (lk1 = lk) ∧ (zXT nc x y ce cm sq mb r) ∧ zIX cy f1 o fa fi nu fm co en ke ev al ra kn vq ge ea ma u11 u21 u31 gv1 nl1 gu1 nn1 ga1 gr1 fg1 pt1 kd1 ln1 pp1 wg1 wd1 hs1 bf1 nf1 gf1 fq1 fk1 fz1 fc1 nc1 gc1 cn1 ce1 cm1 sq1 mb1 ks1 kk1 kv1 lk1) := by
  intro sz
  refine z_body (by decide +kernel) (Nat.le_of_ble_eq_true rfl) ?_
  intro p e s m below meth c ls C hr hin hsz hz hl
  subst hsz
  have hx := C.1
  have hb := C.2.1
  have hA : ∀ q, s.heap.size ≤ q → zA f s.heap.size q := fun q h => Or.inr h
  have hS : va_S (zA f s.heap.size) s.heap s.heap [] := va_S.rf
  have hl : lv_has ls 5 [(0, .ref o), (1, .int x), (2, .int y)] := hl
  obtain ⟨x_o, x_fa, x_ev, x_fi, x_al, x_ra, x_nu, x_fm, x_co, x_en, x_ke, x_kn, x_vq, hF, hP, hFq, hFk, hCn, hEa, hMa, hn60, hl12, hf6, hc60, hs40, hga, hgr, hln, hk5, hk4, hfi, hpi, har, hgf, hfz, hgc, hG, hsq, hei, hmi, kne, hca, hcr, hlk⟩ := id hI
  refine lv_aload_n hx hb dX7_told_0 rfl (lv_at hl 0 rfl) ?_
  refine lv_iload_n hx hb dX7_told_1 rfl (lv_at hl 1 rfl) ?_
  rcases z_home x nc ce with ⟨jc, hjc, hvc, je, hje, hxe⟩ | ⟨jc, hjc, hvc, hnc⟩ | hvc
  · refine z_callVq (As := [.int x]) C hz hS hA hl (k_X7_findConstant_A l D cy f o fa fi nu nl fm nf co nc en ke lk gc cn jc x x_o x_co hgc hvc hjc hc60) zyX7_findConstant mMX7_238 x_o zl7 rfl rfl (Nat.le_of_ble_eq_true rfl) ⟨Nat.le_of_ble_eq_true rfl, Nat.le_of_ble_eq_true rfl⟩ ⟨Nat.le_of_ble_eq_true rfl, Nat.le_of_ble_eq_true rfl⟩ dX7_told_2 (fun r f1 H locs h2 hz hS => ?_)
    obtain ⟨rfl, k3⟩ := h2
    refine W.eq (g2 := F0 m 5 ls [.ref (cn jc)]) rfl ?_
    refine lv_astore_n (lv' := [(3, .ref (cn jc)), (0, .ref o), (1, .int x), (2, .int y)]) hx hb dX7_told_5 rfl hl (by decide) rfl (fun ls hl => ?_)
    refine lv_aload_n hx hb dX7_told_6 rfl (lv_at hl 1 rfl) ?_
    refine lv_iload_n hx hb dX7_told_7 rfl (lv_at hl 2 rfl) ?_
    have a4 : f1 o = some (.inr (7, [.ref fa, .ref fi, .ref nu, .int (nI nl), .ref fm, .int (nI nf), .ref co, .int (nI nc), .ref en, .ref ke, .long lk])) := k3 _ _ x_o 
    have a5 : f1 co = some (.inl (cy 5, 60, .inr (.inr (.inr (.inr gc))))) := k3 _ _ x_co 
    have a6 : f1 en = some (.inl (cy 6, 4, .inr (.inr (.inr (.inr ge))))) := k3 _ _ x_en 
    have F7 : ∀ i9 : Nat, i9 < nc → f1 (cn i9) = some (.inr (0, [.int (ce i9), .int (cm i9)])) := fun i9 h9 => k3 _ _ (hCn i9 h9) 
    refine z_callVq (As := [.int x]) C hz hS hA hl (k_X7_homeOf_A l D cy f1 o fa fi nu nl fm nf co nc en ke lk gc cn ce cm ge ea x jc je a4 a5 a6 F7 hc60 hgc hG hvc hjc hxe hje) zyX7_homeOf mMX7_218 a4 zl7 rfl rfl (Nat.le_of_ble_eq_true rfl) ⟨Nat.le_of_ble_eq_true rfl, Nat.le_of_ble_eq_true rfl⟩ ⟨Nat.le_of_ble_eq_true rfl, Nat.le_of_ble_eq_true rfl⟩ dX7_told_8 (fun r f8 H locs h9 hz hS => ?_)
    obtain ⟨rfl, k10⟩ := h9
    refine W.eq (g2 := F0 m 11 ls [.ref (ea je)]) rfl ?_
    refine lv_astore (lv' := [(4, .ref (ea je)), (3, .ref (cn jc)), (0, .ref o), (1, .int x), (2, .int y)]) hx hb dX7_told_11 hl (by decide) rfl (fun ls hl => ?_)
    refine lv_aload_n hx hb dX7_told_13 rfl (lv_at hl 1 rfl) ?_
    refine lv_ifnull hx hb dX7_told_14 ?_
    refine lv_aload hx hb dX7_told_17 (lv_at hl 0 rfl) ?_
    refine lv_ifnonnull (tgt := 25) hx hb dX7_told_19 (by decide) ?_
    refine lv_iload_n hx hb dX7_told_25 rfl (lv_at hl 4 rfl) ?_
    by_cases c11_0 : y = 0
    · refine lv_tableIn (off := 26) (tgt := 52) hx hb dX7_told_26 (by rw [c11_0]; decide) (by rw [c11_0]; decide) (by rw [c11_0]; decide) (by decide) ?_
      refine lv_aload_n hx hb dX7_told_52 rfl (lv_at hl 1 rfl) ?_
      have F12 : ∀ i9 : Nat, i9 < nc → f8 (cn i9) = some (.inr (0, [.int (ce i9), .int (cm i9)])) := fun i9 h9 => k10 _ _ (F7 i9 h9) 
      have a13 : f8 (cn jc) = some (.inr (0, [.int (ce jc), .int (cm jc)])) := F12 jc hjc
      refine z_getN (v := .int (ce jc)) C hz a13 zl0 mFNX7_242 (by decide) rfl dX7_told_53 ?_
      have a14 : f8 o = some (.inr (7, [.ref fa, .ref fi, .ref nu, .int (nI nl), .ref fm, .int (nI nf), .ref co, .int (nI nc), .ref en, .ref ke, .long lk])) := k10 _ _ a4 
      have a15 : f1 fa = some (.inr (2, [.int u1, .int u2, .int u3, .ref ev])) := k3 _ _ x_fa 
      have a16 : f8 fa = some (.inr (2, [.int u1, .int u2, .int u3, .ref ev])) := k10 _ _ a15 
      have a17 : f1 ev = some (.inl (cy 0, 8, .inl gv)) := k3 _ _ x_ev 
      have a18 : f8 ev = some (.inl (cy 0, 8, .inl gv)) := k10 _ _ a17 
      have a19 : f1 fi = some (.inr (5, [.ref al, .ref ra, .int (nI nn)])) := k3 _ _ x_fi 
      have a20 : f8 fi = some (.inr (5, [.ref al, .ref ra, .int (nI nn)])) := k10 _ _ a19 
      have a21 : f1 al = some (.inl (cy 3, 60, .inr (.inr (.inr (.inr ga))))) := k3 _ _ x_al 
      have a22 : f8 al = some (.inl (cy 3, 60, .inr (.inr (.inr (.inr ga))))) := k10 _ _ a21 
      have a23 : f1 ra = some (.inl (cy 3, 60, .inr (.inr (.inr (.inr gr))))) := k3 _ _ x_ra 
      have a24 : f8 ra = some (.inl (cy 3, 60, .inr (.inr (.inr (.inr gr))))) := k10 _ _ a23 
      have a25 : f1 nu = some (.inl (cy 0, 12, .inl gu)) := k3 _ _ x_nu 
      have a26 : f8 nu = some (.inl (cy 0, 12, .inl gu)) := k10 _ _ a25 
      have a27 : f1 fm = some (.inl (cy 4, 6, .inr (.inr (.inr (.inr gf))))) := k3 _ _ x_fm 
      have a28 : f8 fm = some (.inl (cy 4, 6, .inr (.inr (.inr (.inr gf))))) := k10 _ _ a27 
      have a29 : f8 co = some (.inl (cy 5, 60, .inr (.inr (.inr (.inr gc))))) := k10 _ _ a5 
      have a30 : f8 en = some (.inl (cy 6, 4, .inr (.inr (.inr (.inr ge))))) := k10 _ _ a6 
      have a31 : f1 ke = some (.inr (6, [.ref kn, .ref vq, .int (nI ks)])) := k3 _ _ x_ke 
      have a32 : f8 ke = some (.inr (6, [.ref kn, .ref vq, .int (nI ks)])) := k10 _ _ a31 
      have a33 : f1 kn = some (.inl (cy 0, 40, .inl kk)) := k3 _ _ x_kn 
      have a34 : f8 kn = some (.inl (cy 0, 40, .inl kk)) := k10 _ _ a33 
      have a35 : f1 vq = some (.inl (cy 0, 40, .inl kv)) := k3 _ _ x_vq 
      have a36 : f8 vq = some (.inl (cy 0, 40, .inl kv)) := k10 _ _ a35 
      have F37 : ∀ i9 : Nat, i9 < nn → f1 (fg i9) = some (.inr (4, [.int (kd i9), .ref (pt i9), .long (wg i9), .int (wd i9), .int (nI i9), .int (hs i9), .int (bf i9)])) := fun i9 h9 => k3 _ _ (hF i9 h9) 
      have F38 : ∀ i9 : Nat, i9 < nn → f8 (fg i9) = some (.inr (4, [.int (kd i9), .ref (pt i9), .long (wg i9), .int (wd i9), .int (nI i9), .int (hs i9), .int (bf i9)])) := fun i9 h9 => k10 _ _ (F37 i9 h9) 
      have F39 : ∀ i9 : Nat, i9 < nn → f1 (pt i9) = some (.inl (cy 1, (ln i9), .inr (.inl (pp i9)))) := fun i9 h9 => k3 _ _ (hP i9 h9) 
      have F40 : ∀ i9 : Nat, i9 < nn → f8 (pt i9) = some (.inl (cy 1, (ln i9), .inr (.inl (pp i9)))) := fun i9 h9 => k10 _ _ (F39 i9 h9) 
      have F41 : ∀ i9 : Nat, i9 < nf → f1 (fq i9) = some (.inr (3, [.ref (fk i9), .int (nI (fz i9))])) := fun i9 h9 => k3 _ _ (hFq i9 h9) 
      have F42 : ∀ i9 : Nat, i9 < nf → f8 (fq i9) = some (.inr (3, [.ref (fk i9), .int (nI (fz i9))])) := fun i9 h9 => k10 _ _ (F41 i9 h9) 
      have F43 : ∀ i9 : Nat, i9 < nf → f1 (fk i9) = some (.inl (cy 0, 4, .inl (fc i9))) := fun i9 h9 => k3 _ _ (hFk i9 h9) 
      have F44 : ∀ i9 : Nat, i9 < nf → f8 (fk i9) = some (.inl (cy 0, 4, .inl (fc i9))) := fun i9 h9 => k10 _ _ (F43 i9 h9) 
      have F45 : ∀ i9 : Nat, i9 < 4 → f1 (ea i9) = some (.inr (1, [.ref (ma i9), .int (nI (sq i9))])) := fun i9 h9 => k3 _ _ (hEa i9 h9) 
      have F46 : ∀ i9 : Nat, i9 < 4 → f8 (ea i9) = some (.inr (1, [.ref (ma i9), .int (nI (sq i9))])) := fun i9 h9 => k10 _ _ (F45 i9 h9) 
      have F47 : ∀ i9 : Nat, i9 < 4 → f1 (ma i9) = some (.inl (cy 0, 60, .inl (mb i9))) := fun i9 h9 => k3 _ _ (hMa i9 h9) 
      have F48 : ∀ i9 : Nat, i9 < 4 → f8 (ma i9) = some (.inl (cy 0, 60, .inl (mb i9))) := fun i9 h9 => k10 _ _ (F47 i9 h9) 
      exact z_iret C hr rfl hz hS ⟨u1, u2, u3, gv, nl, gu, nn, ga, gr, fg, pt, kd, ln, pp, wg, wd, hs, bf, nf, gf, fq, fk, fz, fc, nc, gc, cn, ce, cm, sq, mb, ks, kk, kv, lk, rfl, rfl, rfl, rfl, rfl, rfl, rfl, rfl, rfl, rfl, rfl, rfl, rfl, rfl, rfl, rfl, rfl, rfl, rfl, rfl, rfl, rfl, rfl, rfl, (Or.inl ⟨jc, hjc, hvc, je, hje, hxe, 0, (fun h9 => absurd (h9.symm.trans c11_0) (by decide)), by simp [c11_0]⟩), ⟨a14, a16, a18, a20, a22, a24, a26, a28, a29, a30, a32, a34, a36, F38, F40, F42, F44, F12, F46, F48, hn60, hl12, hf6, hc60, hs40, hga, hgr, hln, hk5, hk4, hfi, hpi, har, hgf, hfz, hgc, hG, hsq, hei, hmi, kne, hca, hcr, hlk⟩⟩ (Nat.le_of_ble_eq_true rfl) (Nat.le_of_ble_eq_true rfl) dX7_told_56
    by_cases c11_1 : y = 1
    · refine lv_tableIn (off := 31) (tgt := 57) hx hb dX7_told_26 (by rw [c11_1]; decide) (by rw [c11_1]; decide) (by rw [c11_1]; decide) (by decide) ?_
      refine lv_aload_n hx hb dX7_told_57 rfl (lv_at hl 1 rfl) ?_
      have F49 : ∀ i9 : Nat, i9 < nc → f8 (cn i9) = some (.inr (0, [.int (ce i9), .int (cm i9)])) := fun i9 h9 => k10 _ _ (F7 i9 h9) 
      have a50 : f8 (cn jc) = some (.inr (0, [.int (ce jc), .int (cm jc)])) := F49 jc hjc
      refine z_getN (v := .int (cm jc)) C hz a50 zl0 mFNX7_245 (by decide) rfl dX7_told_58 ?_
      have a51 : f8 o = some (.inr (7, [.ref fa, .ref fi, .ref nu, .int (nI nl), .ref fm, .int (nI nf), .ref co, .int (nI nc), .ref en, .ref ke, .long lk])) := k10 _ _ a4 
      have a52 : f1 fa = some (.inr (2, [.int u1, .int u2, .int u3, .ref ev])) := k3 _ _ x_fa 
      have a53 : f8 fa = some (.inr (2, [.int u1, .int u2, .int u3, .ref ev])) := k10 _ _ a52 
      have a54 : f1 ev = some (.inl (cy 0, 8, .inl gv)) := k3 _ _ x_ev 
      have a55 : f8 ev = some (.inl (cy 0, 8, .inl gv)) := k10 _ _ a54 
      have a56 : f1 fi = some (.inr (5, [.ref al, .ref ra, .int (nI nn)])) := k3 _ _ x_fi 
      have a57 : f8 fi = some (.inr (5, [.ref al, .ref ra, .int (nI nn)])) := k10 _ _ a56 
      have a58 : f1 al = some (.inl (cy 3, 60, .inr (.inr (.inr (.inr ga))))) := k3 _ _ x_al 
      have a59 : f8 al = some (.inl (cy 3, 60, .inr (.inr (.inr (.inr ga))))) := k10 _ _ a58 
      have a60 : f1 ra = some (.inl (cy 3, 60, .inr (.inr (.inr (.inr gr))))) := k3 _ _ x_ra 
      have a61 : f8 ra = some (.inl (cy 3, 60, .inr (.inr (.inr (.inr gr))))) := k10 _ _ a60 
      have a62 : f1 nu = some (.inl (cy 0, 12, .inl gu)) := k3 _ _ x_nu 
      have a63 : f8 nu = some (.inl (cy 0, 12, .inl gu)) := k10 _ _ a62 
      have a64 : f1 fm = some (.inl (cy 4, 6, .inr (.inr (.inr (.inr gf))))) := k3 _ _ x_fm 
      have a65 : f8 fm = some (.inl (cy 4, 6, .inr (.inr (.inr (.inr gf))))) := k10 _ _ a64 
      have a66 : f8 co = some (.inl (cy 5, 60, .inr (.inr (.inr (.inr gc))))) := k10 _ _ a5 
      have a67 : f8 en = some (.inl (cy 6, 4, .inr (.inr (.inr (.inr ge))))) := k10 _ _ a6 
      have a68 : f1 ke = some (.inr (6, [.ref kn, .ref vq, .int (nI ks)])) := k3 _ _ x_ke 
      have a69 : f8 ke = some (.inr (6, [.ref kn, .ref vq, .int (nI ks)])) := k10 _ _ a68 
      have a70 : f1 kn = some (.inl (cy 0, 40, .inl kk)) := k3 _ _ x_kn 
      have a71 : f8 kn = some (.inl (cy 0, 40, .inl kk)) := k10 _ _ a70 
      have a72 : f1 vq = some (.inl (cy 0, 40, .inl kv)) := k3 _ _ x_vq 
      have a73 : f8 vq = some (.inl (cy 0, 40, .inl kv)) := k10 _ _ a72 
      have F74 : ∀ i9 : Nat, i9 < nn → f1 (fg i9) = some (.inr (4, [.int (kd i9), .ref (pt i9), .long (wg i9), .int (wd i9), .int (nI i9), .int (hs i9), .int (bf i9)])) := fun i9 h9 => k3 _ _ (hF i9 h9) 
      have F75 : ∀ i9 : Nat, i9 < nn → f8 (fg i9) = some (.inr (4, [.int (kd i9), .ref (pt i9), .long (wg i9), .int (wd i9), .int (nI i9), .int (hs i9), .int (bf i9)])) := fun i9 h9 => k10 _ _ (F74 i9 h9) 
      have F76 : ∀ i9 : Nat, i9 < nn → f1 (pt i9) = some (.inl (cy 1, (ln i9), .inr (.inl (pp i9)))) := fun i9 h9 => k3 _ _ (hP i9 h9) 
      have F77 : ∀ i9 : Nat, i9 < nn → f8 (pt i9) = some (.inl (cy 1, (ln i9), .inr (.inl (pp i9)))) := fun i9 h9 => k10 _ _ (F76 i9 h9) 
      have F78 : ∀ i9 : Nat, i9 < nf → f1 (fq i9) = some (.inr (3, [.ref (fk i9), .int (nI (fz i9))])) := fun i9 h9 => k3 _ _ (hFq i9 h9) 
      have F79 : ∀ i9 : Nat, i9 < nf → f8 (fq i9) = some (.inr (3, [.ref (fk i9), .int (nI (fz i9))])) := fun i9 h9 => k10 _ _ (F78 i9 h9) 
      have F80 : ∀ i9 : Nat, i9 < nf → f1 (fk i9) = some (.inl (cy 0, 4, .inl (fc i9))) := fun i9 h9 => k3 _ _ (hFk i9 h9) 
      have F81 : ∀ i9 : Nat, i9 < nf → f8 (fk i9) = some (.inl (cy 0, 4, .inl (fc i9))) := fun i9 h9 => k10 _ _ (F80 i9 h9) 
      have F82 : ∀ i9 : Nat, i9 < 4 → f1 (ea i9) = some (.inr (1, [.ref (ma i9), .int (nI (sq i9))])) := fun i9 h9 => k3 _ _ (hEa i9 h9) 
      have F83 : ∀ i9 : Nat, i9 < 4 → f8 (ea i9) = some (.inr (1, [.ref (ma i9), .int (nI (sq i9))])) := fun i9 h9 => k10 _ _ (F82 i9 h9) 
      have F84 : ∀ i9 : Nat, i9 < 4 → f1 (ma i9) = some (.inl (cy 0, 60, .inl (mb i9))) := fun i9 h9 => k3 _ _ (hMa i9 h9) 
      have F85 : ∀ i9 : Nat, i9 < 4 → f8 (ma i9) = some (.inl (cy 0, 60, .inl (mb i9))) := fun i9 h9 => k10 _ _ (F84 i9 h9) 
      exact z_iret C hr rfl hz hS ⟨u1, u2, u3, gv, nl, gu, nn, ga, gr, fg, pt, kd, ln, pp, wg, wd, hs, bf, nf, gf, fq, fk, fz, fc, nc, gc, cn, ce, cm, sq, mb, ks, kk, kv, lk, rfl, rfl, rfl, rfl, rfl, rfl, rfl, rfl, rfl, rfl, rfl, rfl, rfl, rfl, rfl, rfl, rfl, rfl, rfl, rfl, rfl, rfl, rfl, rfl, (Or.inl ⟨jc, hjc, hvc, je, hje, hxe, 0, (fun h9 => absurd (h9.symm.trans c11_1) (by decide)), by simp [c11_1, c11_0]⟩), ⟨a51, a53, a55, a57, a59, a61, a63, a65, a66, a67, a69, a71, a73, F75, F77, F79, F81, F49, F83, F85, hn60, hl12, hf6, hc60, hs40, hga, hgr, hln, hk5, hk4, hfi, hpi, har, hgf, hfz, hgc, hG, hsq, hei, hmi, kne, hca, hcr, hlk⟩⟩ (Nat.le_of_ble_eq_true rfl) (Nat.le_of_ble_eq_true rfl) dX7_told_61
    by_cases c11_2 : y = 2
    · refine lv_tableIn (off := 36) (tgt := 62) hx hb dX7_told_26 (by rw [c11_2]; decide) (by rw [c11_2]; decide) (by rw [c11_2]; decide) (by decide) ?_
      refine lv_aload hx hb dX7_told_62 (lv_at hl 0 rfl) ?_
      refine lv_iload_n hx hb dX7_told_64 rfl (lv_at hl 3 rfl) ?_
      have F86 : ∀ i9 : Nat, i9 < 4 → f1 (ea i9) = some (.inr (1, [.ref (ma i9), .int (nI (sq i9))])) := fun i9 h9 => k3 _ _ (hEa i9 h9) 
      have F87 : ∀ i9 : Nat, i9 < 4 → f8 (ea i9) = some (.inr (1, [.ref (ma i9), .int (nI (sq i9))])) := fun i9 h9 => k10 _ _ (F86 i9 h9) 
      have a88 : f8 (ea je) = some (.inr (1, [.ref (ma je), .int (nI (sq je))])) := F87 je hje
      have F89 : ∀ i9 : Nat, i9 < 4 → f1 (ma i9) = some (.inl (cy 0, 60, .inl (mb i9))) := fun i9 h9 => k3 _ _ (hMa i9 h9) 
      have F90 : ∀ i9 : Nat, i9 < 4 → f8 (ma i9) = some (.inl (cy 0, 60, .inl (mb i9))) := fun i9 h9 => k10 _ _ (F89 i9 h9) 
      have a91 : f8 (ma je) = some (.inl (cy 0, 60, .inl (mb je))) := F90 je hje
      refine z_callVi (As := [.int x]) C hz hS hA hl (k_X1_placeOf l D cy f8 (ea je) (ma je) (sq je) (mb je) x a88 a91 (by have h9 := hsq je hje; omega)) zyX1_placeOf mMX7_221 a88 zl1 rfl rfl (Nat.le_of_ble_eq_true rfl) ⟨Nat.le_of_ble_eq_true rfl, Nat.le_of_ble_eq_true rfl⟩ ⟨Nat.le_of_ble_eq_true rfl, Nat.le_of_ble_eq_true rfl⟩ dX7_told_65 (fun r94 f92 H locs h93 hz hS => ?_)
      obtain ⟨p95, k96⟩ := h93
      have a97 : f8 o = some (.inr (7, [.ref fa, .ref fi, .ref nu, .int (nI nl), .ref fm, .int (nI nf), .ref co, .int (nI nc), .ref en, .ref ke, .long lk])) := k10 _ _ a4 
      have a98 : f92 o = some (.inr (7, [.ref fa, .ref fi, .ref nu, .int (nI nl), .ref fm, .int (nI nf), .ref co, .int (nI nc), .ref en, .ref ke, .long lk])) := k96 _ _ a97 
      have a99 : f1 fa = some (.inr (2, [.int u1, .int u2, .int u3, .ref ev])) := k3 _ _ x_fa 
      have a100 : f8 fa = some (.inr (2, [.int u1, .int u2, .int u3, .ref ev])) := k10 _ _ a99 
      have a101 : f92 fa = some (.inr (2, [.int u1, .int u2, .int u3, .ref ev])) := k96 _ _ a100 
      have a102 : f1 ev = some (.inl (cy 0, 8, .inl gv)) := k3 _ _ x_ev 
      have a103 : f8 ev = some (.inl (cy 0, 8, .inl gv)) := k10 _ _ a102 
      have a104 : f92 ev = some (.inl (cy 0, 8, .inl gv)) := k96 _ _ a103 
      have a105 : f1 fi = some (.inr (5, [.ref al, .ref ra, .int (nI nn)])) := k3 _ _ x_fi 
      have a106 : f8 fi = some (.inr (5, [.ref al, .ref ra, .int (nI nn)])) := k10 _ _ a105 
      have a107 : f92 fi = some (.inr (5, [.ref al, .ref ra, .int (nI nn)])) := k96 _ _ a106 
      have a108 : f1 al = some (.inl (cy 3, 60, .inr (.inr (.inr (.inr ga))))) := k3 _ _ x_al 
      have a109 : f8 al = some (.inl (cy 3, 60, .inr (.inr (.inr (.inr ga))))) := k10 _ _ a108 
      have a110 : f92 al = some (.inl (cy 3, 60, .inr (.inr (.inr (.inr ga))))) := k96 _ _ a109 
      have a111 : f1 ra = some (.inl (cy 3, 60, .inr (.inr (.inr (.inr gr))))) := k3 _ _ x_ra 
      have a112 : f8 ra = some (.inl (cy 3, 60, .inr (.inr (.inr (.inr gr))))) := k10 _ _ a111 
      have a113 : f92 ra = some (.inl (cy 3, 60, .inr (.inr (.inr (.inr gr))))) := k96 _ _ a112 
      have a114 : f1 nu = some (.inl (cy 0, 12, .inl gu)) := k3 _ _ x_nu 
      have a115 : f8 nu = some (.inl (cy 0, 12, .inl gu)) := k10 _ _ a114 
      have a116 : f92 nu = some (.inl (cy 0, 12, .inl gu)) := k96 _ _ a115 
      have a117 : f1 fm = some (.inl (cy 4, 6, .inr (.inr (.inr (.inr gf))))) := k3 _ _ x_fm 
      have a118 : f8 fm = some (.inl (cy 4, 6, .inr (.inr (.inr (.inr gf))))) := k10 _ _ a117 
      have a119 : f92 fm = some (.inl (cy 4, 6, .inr (.inr (.inr (.inr gf))))) := k96 _ _ a118 
      have a120 : f8 co = some (.inl (cy 5, 60, .inr (.inr (.inr (.inr gc))))) := k10 _ _ a5 
      have a121 : f92 co = some (.inl (cy 5, 60, .inr (.inr (.inr (.inr gc))))) := k96 _ _ a120 
      have a122 : f8 en = some (.inl (cy 6, 4, .inr (.inr (.inr (.inr ge))))) := k10 _ _ a6 
      have a123 : f92 en = some (.inl (cy 6, 4, .inr (.inr (.inr (.inr ge))))) := k96 _ _ a122 
      have a124 : f1 ke = some (.inr (6, [.ref kn, .ref vq, .int (nI ks)])) := k3 _ _ x_ke 
      have a125 : f8 ke = some (.inr (6, [.ref kn, .ref vq, .int (nI ks)])) := k10 _ _ a124 
      have a126 : f92 ke = some (.inr (6, [.ref kn, .ref vq, .int (nI ks)])) := k96 _ _ a125 
      have a127 : f1 kn = some (.inl (cy 0, 40, .inl kk)) := k3 _ _ x_kn 
      have a128 : f8 kn = some (.inl (cy 0, 40, .inl kk)) := k10 _ _ a127 
      have a129 : f92 kn = some (.inl (cy 0, 40, .inl kk)) := k96 _ _ a128 
      have a130 : f1 vq = some (.inl (cy 0, 40, .inl kv)) := k3 _ _ x_vq 
      have a131 : f8 vq = some (.inl (cy 0, 40, .inl kv)) := k10 _ _ a130 
      have a132 : f92 vq = some (.inl (cy 0, 40, .inl kv)) := k96 _ _ a131 
      have F133 : ∀ i9 : Nat, i9 < nn → f1 (fg i9) = some (.inr (4, [.int (kd i9), .ref (pt i9), .long (wg i9), .int (wd i9), .int (nI i9), .int (hs i9), .int (bf i9)])) := fun i9 h9 => k3 _ _ (hF i9 h9) 
      have F134 : ∀ i9 : Nat, i9 < nn → f8 (fg i9) = some (.inr (4, [.int (kd i9), .ref (pt i9), .long (wg i9), .int (wd i9), .int (nI i9), .int (hs i9), .int (bf i9)])) := fun i9 h9 => k10 _ _ (F133 i9 h9) 
      have F135 : ∀ i9 : Nat, i9 < nn → f92 (fg i9) = some (.inr (4, [.int (kd i9), .ref (pt i9), .long (wg i9), .int (wd i9), .int (nI i9), .int (hs i9), .int (bf i9)])) := fun i9 h9 => k96 _ _ (F134 i9 h9) 
      have F136 : ∀ i9 : Nat, i9 < nn → f1 (pt i9) = some (.inl (cy 1, (ln i9), .inr (.inl (pp i9)))) := fun i9 h9 => k3 _ _ (hP i9 h9) 
      have F137 : ∀ i9 : Nat, i9 < nn → f8 (pt i9) = some (.inl (cy 1, (ln i9), .inr (.inl (pp i9)))) := fun i9 h9 => k10 _ _ (F136 i9 h9) 
      have F138 : ∀ i9 : Nat, i9 < nn → f92 (pt i9) = some (.inl (cy 1, (ln i9), .inr (.inl (pp i9)))) := fun i9 h9 => k96 _ _ (F137 i9 h9) 
      have F139 : ∀ i9 : Nat, i9 < nf → f1 (fq i9) = some (.inr (3, [.ref (fk i9), .int (nI (fz i9))])) := fun i9 h9 => k3 _ _ (hFq i9 h9) 
      have F140 : ∀ i9 : Nat, i9 < nf → f8 (fq i9) = some (.inr (3, [.ref (fk i9), .int (nI (fz i9))])) := fun i9 h9 => k10 _ _ (F139 i9 h9) 
      have F141 : ∀ i9 : Nat, i9 < nf → f92 (fq i9) = some (.inr (3, [.ref (fk i9), .int (nI (fz i9))])) := fun i9 h9 => k96 _ _ (F140 i9 h9) 
      have F142 : ∀ i9 : Nat, i9 < nf → f1 (fk i9) = some (.inl (cy 0, 4, .inl (fc i9))) := fun i9 h9 => k3 _ _ (hFk i9 h9) 
      have F143 : ∀ i9 : Nat, i9 < nf → f8 (fk i9) = some (.inl (cy 0, 4, .inl (fc i9))) := fun i9 h9 => k10 _ _ (F142 i9 h9) 
      have F144 : ∀ i9 : Nat, i9 < nf → f92 (fk i9) = some (.inl (cy 0, 4, .inl (fc i9))) := fun i9 h9 => k96 _ _ (F143 i9 h9) 
      have F145 : ∀ i9 : Nat, i9 < nc → f8 (cn i9) = some (.inr (0, [.int (ce i9), .int (cm i9)])) := fun i9 h9 => k10 _ _ (F7 i9 h9) 
      have F146 : ∀ i9 : Nat, i9 < nc → f92 (cn i9) = some (.inr (0, [.int (ce i9), .int (cm i9)])) := fun i9 h9 => k96 _ _ (F145 i9 h9) 
      have F147 : ∀ i9 : Nat, i9 < 4 → f92 (ea i9) = some (.inr (1, [.ref (ma i9), .int (nI (sq i9))])) := fun i9 h9 => k96 _ _ (F87 i9 h9) 
      have F148 : ∀ i9 : Nat, i9 < 4 → f92 (ma i9) = some (.inl (cy 0, 60, .inl (mb i9))) := fun i9 h9 => k96 _ _ (F90 i9 h9) 
      exact z_iret C hr rfl hz hS ⟨u1, u2, u3, gv, nl, gu, nn, ga, gr, fg, pt, kd, ln, pp, wg, wd, hs, bf, nf, gf, fq, fk, fz, fc, nc, gc, cn, ce, cm, sq, mb, ks, kk, kv, lk, rfl, rfl, rfl, rfl, rfl, rfl, rfl, rfl, rfl, rfl, rfl, rfl, rfl, rfl, rfl, rfl, rfl, rfl, rfl, rfl, rfl, rfl, rfl, rfl, (Or.inl ⟨jc, hjc, hvc, je, hje, hxe, _, fun _ => p95, by simp [c11_2, c11_0, c11_1]⟩), ⟨a98, a101, a104, a107, a110, a113, a116, a119, a121, a123, a126, a129, a132, F135, F138, F141, F144, F146, F147, F148, hn60, hl12, hf6, hc60, hs40, hga, hgr, hln, hk5, hk4, hfi, hpi, har, hgf, hfz, hgc, hG, hsq, hei, hmi, kne, hca, hcr, hlk⟩⟩ (Nat.le_of_ble_eq_true rfl) (Nat.le_of_ble_eq_true rfl) dX7_told_68
    refine lv_tableOut (tgt := 69) hx hb dX7_told_26 (by have t0 := lv_neT c11_0 (a := 0) (by decide); have t1 := lv_neT c11_1 (a := 1) (by decide); have t2 := lv_neT c11_2 (a := 2) (by decide);  omega) (by decide) ?_
    refine lv_bipush (v := (-2)) hx hb dX7_told_69 (by decide) ?_
    have a149 : f8 o = some (.inr (7, [.ref fa, .ref fi, .ref nu, .int (nI nl), .ref fm, .int (nI nf), .ref co, .int (nI nc), .ref en, .ref ke, .long lk])) := k10 _ _ a4 
    have a150 : f1 fa = some (.inr (2, [.int u1, .int u2, .int u3, .ref ev])) := k3 _ _ x_fa 
    have a151 : f8 fa = some (.inr (2, [.int u1, .int u2, .int u3, .ref ev])) := k10 _ _ a150 
    have a152 : f1 ev = some (.inl (cy 0, 8, .inl gv)) := k3 _ _ x_ev 
    have a153 : f8 ev = some (.inl (cy 0, 8, .inl gv)) := k10 _ _ a152 
    have a154 : f1 fi = some (.inr (5, [.ref al, .ref ra, .int (nI nn)])) := k3 _ _ x_fi 
    have a155 : f8 fi = some (.inr (5, [.ref al, .ref ra, .int (nI nn)])) := k10 _ _ a154 
    have a156 : f1 al = some (.inl (cy 3, 60, .inr (.inr (.inr (.inr ga))))) := k3 _ _ x_al 
    have a157 : f8 al = some (.inl (cy 3, 60, .inr (.inr (.inr (.inr ga))))) := k10 _ _ a156 
    have a158 : f1 ra = some (.inl (cy 3, 60, .inr (.inr (.inr (.inr gr))))) := k3 _ _ x_ra 
    have a159 : f8 ra = some (.inl (cy 3, 60, .inr (.inr (.inr (.inr gr))))) := k10 _ _ a158 
    have a160 : f1 nu = some (.inl (cy 0, 12, .inl gu)) := k3 _ _ x_nu 
    have a161 : f8 nu = some (.inl (cy 0, 12, .inl gu)) := k10 _ _ a160 
    have a162 : f1 fm = some (.inl (cy 4, 6, .inr (.inr (.inr (.inr gf))))) := k3 _ _ x_fm 
    have a163 : f8 fm = some (.inl (cy 4, 6, .inr (.inr (.inr (.inr gf))))) := k10 _ _ a162 
    have a164 : f8 co = some (.inl (cy 5, 60, .inr (.inr (.inr (.inr gc))))) := k10 _ _ a5 
    have a165 : f8 en = some (.inl (cy 6, 4, .inr (.inr (.inr (.inr ge))))) := k10 _ _ a6 
    have a166 : f1 ke = some (.inr (6, [.ref kn, .ref vq, .int (nI ks)])) := k3 _ _ x_ke 
    have a167 : f8 ke = some (.inr (6, [.ref kn, .ref vq, .int (nI ks)])) := k10 _ _ a166 
    have a168 : f1 kn = some (.inl (cy 0, 40, .inl kk)) := k3 _ _ x_kn 
    have a169 : f8 kn = some (.inl (cy 0, 40, .inl kk)) := k10 _ _ a168 
    have a170 : f1 vq = some (.inl (cy 0, 40, .inl kv)) := k3 _ _ x_vq 
    have a171 : f8 vq = some (.inl (cy 0, 40, .inl kv)) := k10 _ _ a170 
    have F172 : ∀ i9 : Nat, i9 < nn → f1 (fg i9) = some (.inr (4, [.int (kd i9), .ref (pt i9), .long (wg i9), .int (wd i9), .int (nI i9), .int (hs i9), .int (bf i9)])) := fun i9 h9 => k3 _ _ (hF i9 h9) 
    have F173 : ∀ i9 : Nat, i9 < nn → f8 (fg i9) = some (.inr (4, [.int (kd i9), .ref (pt i9), .long (wg i9), .int (wd i9), .int (nI i9), .int (hs i9), .int (bf i9)])) := fun i9 h9 => k10 _ _ (F172 i9 h9) 
    have F174 : ∀ i9 : Nat, i9 < nn → f1 (pt i9) = some (.inl (cy 1, (ln i9), .inr (.inl (pp i9)))) := fun i9 h9 => k3 _ _ (hP i9 h9) 
    have F175 : ∀ i9 : Nat, i9 < nn → f8 (pt i9) = some (.inl (cy 1, (ln i9), .inr (.inl (pp i9)))) := fun i9 h9 => k10 _ _ (F174 i9 h9) 
    have F176 : ∀ i9 : Nat, i9 < nf → f1 (fq i9) = some (.inr (3, [.ref (fk i9), .int (nI (fz i9))])) := fun i9 h9 => k3 _ _ (hFq i9 h9) 
    have F177 : ∀ i9 : Nat, i9 < nf → f8 (fq i9) = some (.inr (3, [.ref (fk i9), .int (nI (fz i9))])) := fun i9 h9 => k10 _ _ (F176 i9 h9) 
    have F178 : ∀ i9 : Nat, i9 < nf → f1 (fk i9) = some (.inl (cy 0, 4, .inl (fc i9))) := fun i9 h9 => k3 _ _ (hFk i9 h9) 
    have F179 : ∀ i9 : Nat, i9 < nf → f8 (fk i9) = some (.inl (cy 0, 4, .inl (fc i9))) := fun i9 h9 => k10 _ _ (F178 i9 h9) 
    have F180 : ∀ i9 : Nat, i9 < nc → f8 (cn i9) = some (.inr (0, [.int (ce i9), .int (cm i9)])) := fun i9 h9 => k10 _ _ (F7 i9 h9) 
    have F181 : ∀ i9 : Nat, i9 < 4 → f1 (ea i9) = some (.inr (1, [.ref (ma i9), .int (nI (sq i9))])) := fun i9 h9 => k3 _ _ (hEa i9 h9) 
    have F182 : ∀ i9 : Nat, i9 < 4 → f8 (ea i9) = some (.inr (1, [.ref (ma i9), .int (nI (sq i9))])) := fun i9 h9 => k10 _ _ (F181 i9 h9) 
    have F183 : ∀ i9 : Nat, i9 < 4 → f1 (ma i9) = some (.inl (cy 0, 60, .inl (mb i9))) := fun i9 h9 => k3 _ _ (hMa i9 h9) 
    have F184 : ∀ i9 : Nat, i9 < 4 → f8 (ma i9) = some (.inl (cy 0, 60, .inl (mb i9))) := fun i9 h9 => k10 _ _ (F183 i9 h9) 
    exact z_iret C hr rfl hz hS ⟨u1, u2, u3, gv, nl, gu, nn, ga, gr, fg, pt, kd, ln, pp, wg, wd, hs, bf, nf, gf, fq, fk, fz, fc, nc, gc, cn, ce, cm, sq, mb, ks, kk, kv, lk, rfl, rfl, rfl, rfl, rfl, rfl, rfl, rfl, rfl, rfl, rfl, rfl, rfl, rfl, rfl, rfl, rfl, rfl, rfl, rfl, rfl, rfl, rfl, rfl, (Or.inl ⟨jc, hjc, hvc, je, hje, hxe, 0, (fun h9 => absurd h9 c11_2), by simp [c11_0, c11_1, c11_2]⟩), ⟨a149, a151, a153, a155, a157, a159, a161, a163, a164, a165, a167, a169, a171, F173, F175, F177, F179, F180, F182, F184, hn60, hl12, hf6, hc60, hs40, hga, hgr, hln, hk5, hk4, hfi, hpi, har, hgf, hfz, hgc, hG, hsq, hei, hmi, kne, hca, hcr, hlk⟩⟩ (Nat.le_of_ble_eq_true rfl) (Nat.le_of_ble_eq_true rfl) dX7_told_71
  · refine z_callVq (As := [.int x]) C hz hS hA hl (k_X7_findConstant_A l D cy f o fa fi nu nl fm nf co nc en ke lk gc cn jc x x_o x_co hgc hvc hjc hc60) zyX7_findConstant mMX7_238 x_o zl7 rfl rfl (Nat.le_of_ble_eq_true rfl) ⟨Nat.le_of_ble_eq_true rfl, Nat.le_of_ble_eq_true rfl⟩ ⟨Nat.le_of_ble_eq_true rfl, Nat.le_of_ble_eq_true rfl⟩ dX7_told_2 (fun r f185 H locs h186 hz hS => ?_)
    obtain ⟨rfl, k187⟩ := h186
    refine W.eq (g2 := F0 m 5 ls [.ref (cn jc)]) rfl ?_
    refine lv_astore_n (lv' := [(3, .ref (cn jc)), (0, .ref o), (1, .int x), (2, .int y)]) hx hb dX7_told_5 rfl hl (by decide) rfl (fun ls hl => ?_)
    refine lv_aload_n hx hb dX7_told_6 rfl (lv_at hl 1 rfl) ?_
    refine lv_iload_n hx hb dX7_told_7 rfl (lv_at hl 2 rfl) ?_
    have a188 : f185 o = some (.inr (7, [.ref fa, .ref fi, .ref nu, .int (nI nl), .ref fm, .int (nI nf), .ref co, .int (nI nc), .ref en, .ref ke, .long lk])) := k187 _ _ x_o 
    have a189 : f185 co = some (.inl (cy 5, 60, .inr (.inr (.inr (.inr gc))))) := k187 _ _ x_co 
    have a190 : f185 en = some (.inl (cy 6, 4, .inr (.inr (.inr (.inr ge))))) := k187 _ _ x_en 
    have F191 : ∀ i9 : Nat, i9 < nc → f185 (cn i9) = some (.inr (0, [.int (ce i9), .int (cm i9)])) := fun i9 h9 => k187 _ _ (hCn i9 h9) 
    refine z_callVq (As := [.int x]) C hz hS hA hl (k_X7_homeOf_B l D cy f185 o fa fi nu nl fm nf co nc en ke lk gc cn ce cm ge ea x jc a188 a189 a190 F191 hc60 hgc hG hvc hjc hnc) zyX7_homeOf mMX7_218 a188 zl7 rfl rfl (Nat.le_of_ble_eq_true rfl) ⟨Nat.le_of_ble_eq_true rfl, Nat.le_of_ble_eq_true rfl⟩ ⟨Nat.le_of_ble_eq_true rfl, Nat.le_of_ble_eq_true rfl⟩ dX7_told_8 (fun r f192 H locs h193 hz hS => ?_)
    obtain ⟨rfl, k194⟩ := h193
    refine W.eq (g2 := F0 m 11 ls [.null]) rfl ?_
    refine lv_astoreN (lv' := [(4, .null), (3, .ref (cn jc)), (0, .ref o), (1, .int x), (2, .int y)]) hx hb dX7_told_11 hl (by decide) rfl (fun ls hl => ?_)
    refine lv_aload_n hx hb dX7_told_13 rfl (lv_at hl 1 rfl) ?_
    refine lv_ifnull hx hb dX7_told_14 ?_
    refine lv_aloadN hx hb dX7_told_17 (lv_at hl 0 rfl) ?_
    refine lv_ifnonnullN hx hb dX7_told_19 ?_
    refine lv_bipush (v := (-2)) hx hb dX7_told_22 (by decide) ?_
    have a195 : f192 o = some (.inr (7, [.ref fa, .ref fi, .ref nu, .int (nI nl), .ref fm, .int (nI nf), .ref co, .int (nI nc), .ref en, .ref ke, .long lk])) := k194 _ _ a188 
    have a196 : f185 fa = some (.inr (2, [.int u1, .int u2, .int u3, .ref ev])) := k187 _ _ x_fa 
    have a197 : f192 fa = some (.inr (2, [.int u1, .int u2, .int u3, .ref ev])) := k194 _ _ a196 
    have a198 : f185 ev = some (.inl (cy 0, 8, .inl gv)) := k187 _ _ x_ev 
    have a199 : f192 ev = some (.inl (cy 0, 8, .inl gv)) := k194 _ _ a198 
    have a200 : f185 fi = some (.inr (5, [.ref al, .ref ra, .int (nI nn)])) := k187 _ _ x_fi 
    have a201 : f192 fi = some (.inr (5, [.ref al, .ref ra, .int (nI nn)])) := k194 _ _ a200 
    have a202 : f185 al = some (.inl (cy 3, 60, .inr (.inr (.inr (.inr ga))))) := k187 _ _ x_al 
    have a203 : f192 al = some (.inl (cy 3, 60, .inr (.inr (.inr (.inr ga))))) := k194 _ _ a202 
    have a204 : f185 ra = some (.inl (cy 3, 60, .inr (.inr (.inr (.inr gr))))) := k187 _ _ x_ra 
    have a205 : f192 ra = some (.inl (cy 3, 60, .inr (.inr (.inr (.inr gr))))) := k194 _ _ a204 
    have a206 : f185 nu = some (.inl (cy 0, 12, .inl gu)) := k187 _ _ x_nu 
    have a207 : f192 nu = some (.inl (cy 0, 12, .inl gu)) := k194 _ _ a206 
    have a208 : f185 fm = some (.inl (cy 4, 6, .inr (.inr (.inr (.inr gf))))) := k187 _ _ x_fm 
    have a209 : f192 fm = some (.inl (cy 4, 6, .inr (.inr (.inr (.inr gf))))) := k194 _ _ a208 
    have a210 : f192 co = some (.inl (cy 5, 60, .inr (.inr (.inr (.inr gc))))) := k194 _ _ a189 
    have a211 : f192 en = some (.inl (cy 6, 4, .inr (.inr (.inr (.inr ge))))) := k194 _ _ a190 
    have a212 : f185 ke = some (.inr (6, [.ref kn, .ref vq, .int (nI ks)])) := k187 _ _ x_ke 
    have a213 : f192 ke = some (.inr (6, [.ref kn, .ref vq, .int (nI ks)])) := k194 _ _ a212 
    have a214 : f185 kn = some (.inl (cy 0, 40, .inl kk)) := k187 _ _ x_kn 
    have a215 : f192 kn = some (.inl (cy 0, 40, .inl kk)) := k194 _ _ a214 
    have a216 : f185 vq = some (.inl (cy 0, 40, .inl kv)) := k187 _ _ x_vq 
    have a217 : f192 vq = some (.inl (cy 0, 40, .inl kv)) := k194 _ _ a216 
    have F218 : ∀ i9 : Nat, i9 < nn → f185 (fg i9) = some (.inr (4, [.int (kd i9), .ref (pt i9), .long (wg i9), .int (wd i9), .int (nI i9), .int (hs i9), .int (bf i9)])) := fun i9 h9 => k187 _ _ (hF i9 h9) 
    have F219 : ∀ i9 : Nat, i9 < nn → f192 (fg i9) = some (.inr (4, [.int (kd i9), .ref (pt i9), .long (wg i9), .int (wd i9), .int (nI i9), .int (hs i9), .int (bf i9)])) := fun i9 h9 => k194 _ _ (F218 i9 h9) 
    have F220 : ∀ i9 : Nat, i9 < nn → f185 (pt i9) = some (.inl (cy 1, (ln i9), .inr (.inl (pp i9)))) := fun i9 h9 => k187 _ _ (hP i9 h9) 
    have F221 : ∀ i9 : Nat, i9 < nn → f192 (pt i9) = some (.inl (cy 1, (ln i9), .inr (.inl (pp i9)))) := fun i9 h9 => k194 _ _ (F220 i9 h9) 
    have F222 : ∀ i9 : Nat, i9 < nf → f185 (fq i9) = some (.inr (3, [.ref (fk i9), .int (nI (fz i9))])) := fun i9 h9 => k187 _ _ (hFq i9 h9) 
    have F223 : ∀ i9 : Nat, i9 < nf → f192 (fq i9) = some (.inr (3, [.ref (fk i9), .int (nI (fz i9))])) := fun i9 h9 => k194 _ _ (F222 i9 h9) 
    have F224 : ∀ i9 : Nat, i9 < nf → f185 (fk i9) = some (.inl (cy 0, 4, .inl (fc i9))) := fun i9 h9 => k187 _ _ (hFk i9 h9) 
    have F225 : ∀ i9 : Nat, i9 < nf → f192 (fk i9) = some (.inl (cy 0, 4, .inl (fc i9))) := fun i9 h9 => k194 _ _ (F224 i9 h9) 
    have F226 : ∀ i9 : Nat, i9 < nc → f192 (cn i9) = some (.inr (0, [.int (ce i9), .int (cm i9)])) := fun i9 h9 => k194 _ _ (F191 i9 h9) 
    have F227 : ∀ i9 : Nat, i9 < 4 → f185 (ea i9) = some (.inr (1, [.ref (ma i9), .int (nI (sq i9))])) := fun i9 h9 => k187 _ _ (hEa i9 h9) 
    have F228 : ∀ i9 : Nat, i9 < 4 → f192 (ea i9) = some (.inr (1, [.ref (ma i9), .int (nI (sq i9))])) := fun i9 h9 => k194 _ _ (F227 i9 h9) 
    have F229 : ∀ i9 : Nat, i9 < 4 → f185 (ma i9) = some (.inl (cy 0, 60, .inl (mb i9))) := fun i9 h9 => k187 _ _ (hMa i9 h9) 
    have F230 : ∀ i9 : Nat, i9 < 4 → f192 (ma i9) = some (.inl (cy 0, 60, .inl (mb i9))) := fun i9 h9 => k194 _ _ (F229 i9 h9) 
    exact z_iret C hr rfl hz hS ⟨u1, u2, u3, gv, nl, gu, nn, ga, gr, fg, pt, kd, ln, pp, wg, wd, hs, bf, nf, gf, fq, fk, fz, fc, nc, gc, cn, ce, cm, sq, mb, ks, kk, kv, lk, rfl, rfl, rfl, rfl, rfl, rfl, rfl, rfl, rfl, rfl, rfl, rfl, rfl, rfl, rfl, rfl, rfl, rfl, rfl, rfl, rfl, rfl, rfl, rfl, (Or.inr ⟨rfl, fun jc9 h9 e9 => by rw [← (nI_eq (by omega) (by omega)).mp (hvc.symm.trans e9)]; exact hnc⟩), ⟨a195, a197, a199, a201, a203, a205, a207, a209, a210, a211, a213, a215, a217, F219, F221, F223, F225, F226, F228, F230, hn60, hl12, hf6, hc60, hs40, hga, hgr, hln, hk5, hk4, hfi, hpi, har, hgf, hfz, hgc, hG, hsq, hei, hmi, kne, hca, hcr, hlk⟩⟩ (Nat.le_of_ble_eq_true rfl) (Nat.le_of_ble_eq_true rfl) dX7_told_24
  · refine z_callVq (As := [.int x]) C hz hS hA hl (k_X7_findConstant_B l D cy f o fa fi nu nl fm nf co nc en ke lk x x_o hvc hc60) zyX7_findConstant mMX7_238 x_o zl7 rfl rfl (Nat.le_of_ble_eq_true rfl) ⟨Nat.le_of_ble_eq_true rfl, Nat.le_of_ble_eq_true rfl⟩ ⟨Nat.le_of_ble_eq_true rfl, Nat.le_of_ble_eq_true rfl⟩ dX7_told_2 (fun r f231 H locs h232 hz hS => ?_)
    obtain ⟨rfl, k233⟩ := h232
    refine W.eq (g2 := F0 m 5 ls [.null]) rfl ?_
    refine lv_astore_nN (lv' := [(3, .null), (0, .ref o), (1, .int x), (2, .int y)]) hx hb dX7_told_5 rfl hl (by decide) rfl (fun ls hl => ?_)
    refine lv_aload_n hx hb dX7_told_6 rfl (lv_at hl 1 rfl) ?_
    refine lv_iload_n hx hb dX7_told_7 rfl (lv_at hl 2 rfl) ?_
    have a234 : f231 o = some (.inr (7, [.ref fa, .ref fi, .ref nu, .int (nI nl), .ref fm, .int (nI nf), .ref co, .int (nI nc), .ref en, .ref ke, .long lk])) := k233 _ _ x_o 
    refine z_callVq (As := [.int x]) C hz hS hA hl (k_X7_homeOf_C l D cy f231 o fa fi nu nl fm nf co nc en ke lk x a234 hc60 hvc) zyX7_homeOf mMX7_218 a234 zl7 rfl rfl (Nat.le_of_ble_eq_true rfl) ⟨Nat.le_of_ble_eq_true rfl, Nat.le_of_ble_eq_true rfl⟩ ⟨Nat.le_of_ble_eq_true rfl, Nat.le_of_ble_eq_true rfl⟩ dX7_told_8 (fun r f235 H locs h236 hz hS => ?_)
    obtain ⟨rfl, k237⟩ := h236
    refine W.eq (g2 := F0 m 11 ls [.null]) rfl ?_
    refine lv_astoreN (lv' := [(4, .null), (3, .null), (0, .ref o), (1, .int x), (2, .int y)]) hx hb dX7_told_11 hl (by decide) rfl (fun ls hl => ?_)
    refine lv_aload_nN hx hb dX7_told_13 rfl (lv_at hl 1 rfl) ?_
    refine lv_ifnullN (tgt := 22) hx hb dX7_told_14 (by decide) ?_
    refine lv_bipush (v := (-2)) hx hb dX7_told_22 (by decide) ?_
    have a238 : f235 o = some (.inr (7, [.ref fa, .ref fi, .ref nu, .int (nI nl), .ref fm, .int (nI nf), .ref co, .int (nI nc), .ref en, .ref ke, .long lk])) := k237 _ _ a234 
    have a239 : f231 fa = some (.inr (2, [.int u1, .int u2, .int u3, .ref ev])) := k233 _ _ x_fa 
    have a240 : f235 fa = some (.inr (2, [.int u1, .int u2, .int u3, .ref ev])) := k237 _ _ a239 
    have a241 : f231 ev = some (.inl (cy 0, 8, .inl gv)) := k233 _ _ x_ev 
    have a242 : f235 ev = some (.inl (cy 0, 8, .inl gv)) := k237 _ _ a241 
    have a243 : f231 fi = some (.inr (5, [.ref al, .ref ra, .int (nI nn)])) := k233 _ _ x_fi 
    have a244 : f235 fi = some (.inr (5, [.ref al, .ref ra, .int (nI nn)])) := k237 _ _ a243 
    have a245 : f231 al = some (.inl (cy 3, 60, .inr (.inr (.inr (.inr ga))))) := k233 _ _ x_al 
    have a246 : f235 al = some (.inl (cy 3, 60, .inr (.inr (.inr (.inr ga))))) := k237 _ _ a245 
    have a247 : f231 ra = some (.inl (cy 3, 60, .inr (.inr (.inr (.inr gr))))) := k233 _ _ x_ra 
    have a248 : f235 ra = some (.inl (cy 3, 60, .inr (.inr (.inr (.inr gr))))) := k237 _ _ a247 
    have a249 : f231 nu = some (.inl (cy 0, 12, .inl gu)) := k233 _ _ x_nu 
    have a250 : f235 nu = some (.inl (cy 0, 12, .inl gu)) := k237 _ _ a249 
    have a251 : f231 fm = some (.inl (cy 4, 6, .inr (.inr (.inr (.inr gf))))) := k233 _ _ x_fm 
    have a252 : f235 fm = some (.inl (cy 4, 6, .inr (.inr (.inr (.inr gf))))) := k237 _ _ a251 
    have a253 : f231 co = some (.inl (cy 5, 60, .inr (.inr (.inr (.inr gc))))) := k233 _ _ x_co 
    have a254 : f235 co = some (.inl (cy 5, 60, .inr (.inr (.inr (.inr gc))))) := k237 _ _ a253 
    have a255 : f231 en = some (.inl (cy 6, 4, .inr (.inr (.inr (.inr ge))))) := k233 _ _ x_en 
    have a256 : f235 en = some (.inl (cy 6, 4, .inr (.inr (.inr (.inr ge))))) := k237 _ _ a255 
    have a257 : f231 ke = some (.inr (6, [.ref kn, .ref vq, .int (nI ks)])) := k233 _ _ x_ke 
    have a258 : f235 ke = some (.inr (6, [.ref kn, .ref vq, .int (nI ks)])) := k237 _ _ a257 
    have a259 : f231 kn = some (.inl (cy 0, 40, .inl kk)) := k233 _ _ x_kn 
    have a260 : f235 kn = some (.inl (cy 0, 40, .inl kk)) := k237 _ _ a259 
    have a261 : f231 vq = some (.inl (cy 0, 40, .inl kv)) := k233 _ _ x_vq 
    have a262 : f235 vq = some (.inl (cy 0, 40, .inl kv)) := k237 _ _ a261 
    have F263 : ∀ i9 : Nat, i9 < nn → f231 (fg i9) = some (.inr (4, [.int (kd i9), .ref (pt i9), .long (wg i9), .int (wd i9), .int (nI i9), .int (hs i9), .int (bf i9)])) := fun i9 h9 => k233 _ _ (hF i9 h9) 
    have F264 : ∀ i9 : Nat, i9 < nn → f235 (fg i9) = some (.inr (4, [.int (kd i9), .ref (pt i9), .long (wg i9), .int (wd i9), .int (nI i9), .int (hs i9), .int (bf i9)])) := fun i9 h9 => k237 _ _ (F263 i9 h9) 
    have F265 : ∀ i9 : Nat, i9 < nn → f231 (pt i9) = some (.inl (cy 1, (ln i9), .inr (.inl (pp i9)))) := fun i9 h9 => k233 _ _ (hP i9 h9) 
    have F266 : ∀ i9 : Nat, i9 < nn → f235 (pt i9) = some (.inl (cy 1, (ln i9), .inr (.inl (pp i9)))) := fun i9 h9 => k237 _ _ (F265 i9 h9) 
    have F267 : ∀ i9 : Nat, i9 < nf → f231 (fq i9) = some (.inr (3, [.ref (fk i9), .int (nI (fz i9))])) := fun i9 h9 => k233 _ _ (hFq i9 h9) 
    have F268 : ∀ i9 : Nat, i9 < nf → f235 (fq i9) = some (.inr (3, [.ref (fk i9), .int (nI (fz i9))])) := fun i9 h9 => k237 _ _ (F267 i9 h9) 
    have F269 : ∀ i9 : Nat, i9 < nf → f231 (fk i9) = some (.inl (cy 0, 4, .inl (fc i9))) := fun i9 h9 => k233 _ _ (hFk i9 h9) 
    have F270 : ∀ i9 : Nat, i9 < nf → f235 (fk i9) = some (.inl (cy 0, 4, .inl (fc i9))) := fun i9 h9 => k237 _ _ (F269 i9 h9) 
    have F271 : ∀ i9 : Nat, i9 < nc → f231 (cn i9) = some (.inr (0, [.int (ce i9), .int (cm i9)])) := fun i9 h9 => k233 _ _ (hCn i9 h9) 
    have F272 : ∀ i9 : Nat, i9 < nc → f235 (cn i9) = some (.inr (0, [.int (ce i9), .int (cm i9)])) := fun i9 h9 => k237 _ _ (F271 i9 h9) 
    have F273 : ∀ i9 : Nat, i9 < 4 → f231 (ea i9) = some (.inr (1, [.ref (ma i9), .int (nI (sq i9))])) := fun i9 h9 => k233 _ _ (hEa i9 h9) 
    have F274 : ∀ i9 : Nat, i9 < 4 → f235 (ea i9) = some (.inr (1, [.ref (ma i9), .int (nI (sq i9))])) := fun i9 h9 => k237 _ _ (F273 i9 h9) 
    have F275 : ∀ i9 : Nat, i9 < 4 → f231 (ma i9) = some (.inl (cy 0, 60, .inl (mb i9))) := fun i9 h9 => k233 _ _ (hMa i9 h9) 
    have F276 : ∀ i9 : Nat, i9 < 4 → f235 (ma i9) = some (.inl (cy 0, 60, .inl (mb i9))) := fun i9 h9 => k237 _ _ (F275 i9 h9) 
    exact z_iret C hr rfl hz hS ⟨u1, u2, u3, gv, nl, gu, nn, ga, gr, fg, pt, kd, ln, pp, wg, wd, hs, bf, nf, gf, fq, fk, fz, fc, nc, gc, cn, ce, cm, sq, mb, ks, kk, kv, lk, rfl, rfl, rfl, rfl, rfl, rfl, rfl, rfl, rfl, rfl, rfl, rfl, rfl, rfl, rfl, rfl, rfl, rfl, rfl, rfl, rfl, rfl, rfl, rfl, (Or.inr ⟨rfl, fun jc9 h9 e9 => absurd e9 (hvc jc9 h9)⟩), ⟨a238, a240, a242, a244, a246, a248, a250, a252, a254, a256, a258, a260, a262, F264, F266, F268, F270, F272, F274, F276, hn60, hl12, hf6, hc60, hs40, hga, hgr, hln, hk5, hk4, hfi, hpi, har, hgf, hfz, hgc, hG, hsq, hei, hmi, kne, hca, hcr, hlk⟩⟩ (Nat.le_of_ble_eq_true rfl) (Nat.le_of_ble_eq_true rfl) dX7_told_24
abbrev rmX7_placed : Room := { frames := 1, cells := 0, slots := 0, locals := 21 }
set_option maxHeartbeats 4000000 in
set_option maxRecDepth 100000 in
theorem k_X7_placed (l : Launch) (D : va_G) (cy : Nat → ClassId) (f : zM) (o : Nat) (fa : Nat) (fi : Nat) (nu : Nat) (fm : Nat) (co : Nat) (en : Nat) (ke : Nat) (ev : Nat) (al : Nat) (ra : Nat) (kn : Nat) (vq : Nat) (ge : Nat → Option Nat) (ea : Nat → Nat) (ma : Nat → Nat) (u1 : Int32) (u2 : Int32) (u3 : Int32) (gv : Nat → Int32) (nl : Nat) (gu : Nat → Int32) (nn : Nat) (ga : Nat → Option Nat) (gr : Nat → Option Nat) (fg : Nat → Nat) (pt : Nat → Nat) (kd : Nat → Int32) (ln : Nat → Nat) (pp : Nat → Nat → Int64) (wg : Nat → Int64) (wd : Nat → Int32) (hs : Nat → Int32) (bf : Nat → Int32) (nf : Nat) (gf : Nat → Option Nat) (fq : Nat → Nat) (fk : Nat → Nat) (fz : Nat → Nat) (fc : Nat → Nat → Int32) (nc : Nat) (gc : Nat → Option Nat) (cn : Nat → Nat) (ce : Nat → Int32) (cm : Nat → Int32) (sq : Nat → Nat) (mb : Nat → Nat → Int32) (ks : Nat) (kk : Nat → Int32) (kv : Nat → Int32) (lk : Int64) (x : Int32) (y : Int32)    (hI : zIX cy f o fa fi nu fm co en ke ev al ra kn vq ge ea ma u1 u2 u3 gv nl gu nn ga gr fg pt kd ln pp wg wd hs bf nf gf fq fk fz fc nc gc cn ce cm sq mb ks kk kv lk) : zCi l D cy yX7_placed cX7_placed 4 (Option.some Jvm.ClassFile.FieldType.int) rmX7_placed [.ref o, .int x, .int y] f (fun (r : Int32) (f1 : zM) => ∃ (u11 : Int32) (u21 : Int32) (u31 : Int32) (gv1 : Nat → Int32) (nl1 : Nat) (gu1 : Nat → Int32) (nn1 : Nat) (ga1 : Nat → Option Nat) (gr1 : Nat → Option Nat) (fg1 : Nat → Nat) (pt1 : Nat → Nat) (kd1 : Nat → Int32) (ln1 : Nat → Nat) (pp1 : Nat → Nat → Int64) (wg1 : Nat → Int64) (wd1 : Nat → Int32) (hs1 : Nat → Int32) (bf1 : Nat → Int32) (nf1 : Nat) (gf1 : Nat → Option Nat) (fq1 : Nat → Nat) (fk1 : Nat → Nat) (fz1 : Nat → Nat) (fc1 : Nat → Nat → Int32) (nc1 : Nat) (gc1 : Nat → Option Nat) (cn1 : Nat → Nat) (ce1 : Nat → Int32) (cm1 : Nat → Int32) (sq1 : Nat → Nat) (mb1 : Nat → Nat → Int32) (ks1 : Nat) (kk1 : Nat → Int32) (kv1 : Nat → Int32) (lk1 : Int64), (u11 = u1) ∧ (u21 = u2) ∧ (u31 = u3) ∧ (gv1 = gv) ∧ (nl1 = nl) ∧ (gu1 = gu) ∧ (nn1 = nn) ∧ (kd1 = kd) ∧ (ln1 = ln) ∧ (pp1 = pp) ∧ (wd1 = wd) ∧ (hs1 = hs) ∧ (nf1 = nf) ∧ (fz1 = fz) ∧ (fc1 = fc) ∧ (nc1 = nc) ∧ (ce1 = ce) ∧ (cm1 = cm) ∧ (sq1 = sq) ∧ (mb1 = mb) ∧ (ks1 = ks) ∧ (kk1 = kk) ∧ (kv1 = kv) ∧ (lk1 = lk) ∧ (zXP x y sq mb r) ∧ zIX cy f1 o fa fi nu fm co en ke ev al ra kn vq ge ea ma u11 u21 u31 gv1 nl1 gu1 nn1 ga1 gr1 fg1 pt1 kd1 ln1 pp1 wg1 wd1 hs1 bf1 nf1 gf1 fq1 fk1 fz1 fc1 nc1 gc1 cn1 ce1 cm1 sq1 mb1 ks1 kk1 kv1 lk1) := by
  intro sz
  refine z_body (by decide +kernel) (Nat.le_of_ble_eq_true rfl) ?_
  intro p e s m below meth c ls C hr hin hsz hz hl
  subst hsz
  have hx := C.1
  have hb := C.2.1
  have hA : ∀ q, s.heap.size ≤ q → zA f s.heap.size q := fun q h => Or.inr h
  have hS : va_S (zA f s.heap.size) s.heap s.heap [] := va_S.rf
  have hl : lv_has ls 4 [(0, .ref o), (1, .int x), (2, .int y)] := hl
  obtain ⟨x_o, x_fa, x_ev, x_fi, x_al, x_ra, x_nu, x_fm, x_co, x_en, x_ke, x_kn, x_vq, hF, hP, hFq, hFk, hCn, hEa, hMa, hn60, hl12, hf6, hc60, hs40, hga, hgr, hln, hk5, hk4, hfi, hpi, har, hgf, hfz, hgc, hG, hsq, hei, hmi, kne, hca, hcr, hlk⟩ := id hI
  by_cases he : 0 ≤ x ∧ x < 4
  · obtain ⟨j, hj, hxj⟩ := z_ix4 he
    have hIj : fI x = j := fI_of (by omega) hxj
    refine lv_aload_n hx hb dX7_placed_0 rfl (lv_at hl 0 rfl) ?_
    refine lv_iload_n hx hb dX7_placed_1 rfl (lv_at hl 1 rfl) ?_
    refine z_callVq (As := [.int x]) C hz hS hA hl (k_X7_findEnumeration_A l D cy f o fa fi nu nl fm nf co nc en ke lk ge ea x j x_o x_en hxj hj hG) zyX7_findEnumeration mMX7_204 x_o zl7 rfl rfl (Nat.le_of_ble_eq_true rfl) ⟨Nat.le_of_ble_eq_true rfl, Nat.le_of_ble_eq_true rfl⟩ ⟨Nat.le_of_ble_eq_true rfl, Nat.le_of_ble_eq_true rfl⟩ dX7_placed_2 (fun r f1 H locs h2 hz hS => ?_)
    obtain ⟨rfl, k3⟩ := h2
    refine W.eq (g2 := F0 m 5 ls [.ref (ea j)]) rfl ?_
    refine lv_astore_n (lv' := [(3, .ref (ea j)), (0, .ref o), (1, .int x), (2, .int y)]) hx hb dX7_placed_5 rfl hl (by decide) rfl (fun ls hl => ?_)
    refine lv_aload_n hx hb dX7_placed_6 rfl (lv_at hl 0 rfl) ?_
    refine lv_ifnull hx hb dX7_placed_7 ?_
    refine lv_iload_n hx hb dX7_placed_10 rfl (lv_at hl 3 rfl) ?_
    refine lv_if_ge (tgt := 17) hx hb dX7_placed_11 (by decide) (fun c4 => ?_) (fun c4 => ?_)
    · refine lv_iload_n hx hb dX7_placed_17 rfl (lv_at hl 3 rfl) ?_
      refine lv_aload_n hx hb dX7_placed_18 rfl (lv_at hl 0 rfl) ?_
      have F5 : ∀ i9 : Nat, i9 < 4 → f1 (ea i9) = some (.inr (1, [.ref (ma i9), .int (nI (sq i9))])) := fun i9 h9 => k3 _ _ (hEa i9 h9) 
      have a6 : f1 (ea j) = some (.inr (1, [.ref (ma j), .int (nI (sq j))])) := F5 j hj
      refine z_getN (v := .int (nI (sq j))) C hz a6 zl1 mFNX7_227 (by decide) rfl dX7_placed_19 ?_
      refine lv_icmp_ge (tgt := 34) hx hb dX7_placed_22 (by decide) (fun c7 => ?_) (fun c7 => ?_)
      · refine lv_iconst (v := (-1)) hx hb dX7_placed_34 (by decide) ?_
        have a8 : f1 o = some (.inr (7, [.ref fa, .ref fi, .ref nu, .int (nI nl), .ref fm, .int (nI nf), .ref co, .int (nI nc), .ref en, .ref ke, .long lk])) := k3 _ _ x_o 
        have a9 : f1 fa = some (.inr (2, [.int u1, .int u2, .int u3, .ref ev])) := k3 _ _ x_fa 
        have a10 : f1 ev = some (.inl (cy 0, 8, .inl gv)) := k3 _ _ x_ev 
        have a11 : f1 fi = some (.inr (5, [.ref al, .ref ra, .int (nI nn)])) := k3 _ _ x_fi 
        have a12 : f1 al = some (.inl (cy 3, 60, .inr (.inr (.inr (.inr ga))))) := k3 _ _ x_al 
        have a13 : f1 ra = some (.inl (cy 3, 60, .inr (.inr (.inr (.inr gr))))) := k3 _ _ x_ra 
        have a14 : f1 nu = some (.inl (cy 0, 12, .inl gu)) := k3 _ _ x_nu 
        have a15 : f1 fm = some (.inl (cy 4, 6, .inr (.inr (.inr (.inr gf))))) := k3 _ _ x_fm 
        have a16 : f1 co = some (.inl (cy 5, 60, .inr (.inr (.inr (.inr gc))))) := k3 _ _ x_co 
        have a17 : f1 en = some (.inl (cy 6, 4, .inr (.inr (.inr (.inr ge))))) := k3 _ _ x_en 
        have a18 : f1 ke = some (.inr (6, [.ref kn, .ref vq, .int (nI ks)])) := k3 _ _ x_ke 
        have a19 : f1 kn = some (.inl (cy 0, 40, .inl kk)) := k3 _ _ x_kn 
        have a20 : f1 vq = some (.inl (cy 0, 40, .inl kv)) := k3 _ _ x_vq 
        have F21 : ∀ i9 : Nat, i9 < nn → f1 (fg i9) = some (.inr (4, [.int (kd i9), .ref (pt i9), .long (wg i9), .int (wd i9), .int (nI i9), .int (hs i9), .int (bf i9)])) := fun i9 h9 => k3 _ _ (hF i9 h9) 
        have F22 : ∀ i9 : Nat, i9 < nn → f1 (pt i9) = some (.inl (cy 1, (ln i9), .inr (.inl (pp i9)))) := fun i9 h9 => k3 _ _ (hP i9 h9) 
        have F23 : ∀ i9 : Nat, i9 < nf → f1 (fq i9) = some (.inr (3, [.ref (fk i9), .int (nI (fz i9))])) := fun i9 h9 => k3 _ _ (hFq i9 h9) 
        have F24 : ∀ i9 : Nat, i9 < nf → f1 (fk i9) = some (.inl (cy 0, 4, .inl (fc i9))) := fun i9 h9 => k3 _ _ (hFk i9 h9) 
        have F25 : ∀ i9 : Nat, i9 < nc → f1 (cn i9) = some (.inr (0, [.int (ce i9), .int (cm i9)])) := fun i9 h9 => k3 _ _ (hCn i9 h9) 
        have F26 : ∀ i9 : Nat, i9 < 4 → f1 (ma i9) = some (.inl (cy 0, 60, .inl (mb i9))) := fun i9 h9 => k3 _ _ (hMa i9 h9) 
        exact z_iret C hr rfl hz hS ⟨u1, u2, u3, gv, nl, gu, nn, ga, gr, fg, pt, kd, ln, pp, wg, wd, hs, bf, nf, gf, fq, fk, fz, fc, nc, gc, cn, ce, cm, sq, mb, ks, kk, kv, lk, rfl, rfl, rfl, rfl, rfl, rfl, rfl, rfl, rfl, rfl, rfl, rfl, rfl, rfl, rfl, rfl, rfl, rfl, rfl, rfl, rfl, rfl, rfl, rfl, (Or.inl ⟨j, hj, hxj, Or.inr ⟨c4, c7, rfl⟩⟩), ⟨a8, a9, a10, a11, a12, a13, a14, a15, a16, a17, a18, a19, a20, F21, F22, F23, F24, F25, F5, F26, hn60, hl12, hf6, hc60, hs40, hga, hgr, hln, hk5, hk4, hfi, hpi, har, hgf, hfz, hgc, hG, hsq, hei, hmi, kne, hca, hcr, hlk⟩⟩ (Nat.le_of_ble_eq_true rfl) (Nat.le_of_ble_eq_true rfl) dX7_placed_35
      · obtain ⟨ky, hky, hyk⟩ := z_ixl (Int32.not_lt.mpr c4) c7 (by have h9 := hsq j hj; omega)
        refine lv_aload_n hx hb dX7_placed_25 rfl (lv_at hl 0 rfl) ?_
        refine z_getN (v := .ref (ma j)) C hz a6 zl1 mFNX7_248 (by decide) rfl dX7_placed_26 ?_
        refine lv_iload_n hx hb dX7_placed_29 rfl (lv_at hl 3 rfl) ?_
        have F27 : ∀ i9 : Nat, i9 < 4 → f1 (ma i9) = some (.inl (cy 0, 60, .inl (mb i9))) := fun i9 h9 => k3 _ _ (hMa i9 h9) 
        have a28 : f1 (ma j) = some (.inl (cy 0, 60, .inl (mb j))) := F27 j hj
        refine z_iald ky C hz a28 hyk (by have h9 := hsq j hj; omega) (by omega) dX7_placed_30 ?_
        refine lv_goto (tgt := 35) hx hb dX7_placed_31 (by decide) ?_
        have a29 : f1 o = some (.inr (7, [.ref fa, .ref fi, .ref nu, .int (nI nl), .ref fm, .int (nI nf), .ref co, .int (nI nc), .ref en, .ref ke, .long lk])) := k3 _ _ x_o 
        have a30 : f1 fa = some (.inr (2, [.int u1, .int u2, .int u3, .ref ev])) := k3 _ _ x_fa 
        have a31 : f1 ev = some (.inl (cy 0, 8, .inl gv)) := k3 _ _ x_ev 
        have a32 : f1 fi = some (.inr (5, [.ref al, .ref ra, .int (nI nn)])) := k3 _ _ x_fi 
        have a33 : f1 al = some (.inl (cy 3, 60, .inr (.inr (.inr (.inr ga))))) := k3 _ _ x_al 
        have a34 : f1 ra = some (.inl (cy 3, 60, .inr (.inr (.inr (.inr gr))))) := k3 _ _ x_ra 
        have a35 : f1 nu = some (.inl (cy 0, 12, .inl gu)) := k3 _ _ x_nu 
        have a36 : f1 fm = some (.inl (cy 4, 6, .inr (.inr (.inr (.inr gf))))) := k3 _ _ x_fm 
        have a37 : f1 co = some (.inl (cy 5, 60, .inr (.inr (.inr (.inr gc))))) := k3 _ _ x_co 
        have a38 : f1 en = some (.inl (cy 6, 4, .inr (.inr (.inr (.inr ge))))) := k3 _ _ x_en 
        have a39 : f1 ke = some (.inr (6, [.ref kn, .ref vq, .int (nI ks)])) := k3 _ _ x_ke 
        have a40 : f1 kn = some (.inl (cy 0, 40, .inl kk)) := k3 _ _ x_kn 
        have a41 : f1 vq = some (.inl (cy 0, 40, .inl kv)) := k3 _ _ x_vq 
        have F42 : ∀ i9 : Nat, i9 < nn → f1 (fg i9) = some (.inr (4, [.int (kd i9), .ref (pt i9), .long (wg i9), .int (wd i9), .int (nI i9), .int (hs i9), .int (bf i9)])) := fun i9 h9 => k3 _ _ (hF i9 h9) 
        have F43 : ∀ i9 : Nat, i9 < nn → f1 (pt i9) = some (.inl (cy 1, (ln i9), .inr (.inl (pp i9)))) := fun i9 h9 => k3 _ _ (hP i9 h9) 
        have F44 : ∀ i9 : Nat, i9 < nf → f1 (fq i9) = some (.inr (3, [.ref (fk i9), .int (nI (fz i9))])) := fun i9 h9 => k3 _ _ (hFq i9 h9) 
        have F45 : ∀ i9 : Nat, i9 < nf → f1 (fk i9) = some (.inl (cy 0, 4, .inl (fc i9))) := fun i9 h9 => k3 _ _ (hFk i9 h9) 
        have F46 : ∀ i9 : Nat, i9 < nc → f1 (cn i9) = some (.inr (0, [.int (ce i9), .int (cm i9)])) := fun i9 h9 => k3 _ _ (hCn i9 h9) 
        exact z_iret C hr rfl hz hS ⟨u1, u2, u3, gv, nl, gu, nn, ga, gr, fg, pt, kd, ln, pp, wg, wd, hs, bf, nf, gf, fq, fk, fz, fc, nc, gc, cn, ce, cm, sq, mb, ks, kk, kv, lk, rfl, rfl, rfl, rfl, rfl, rfl, rfl, rfl, rfl, rfl, rfl, rfl, rfl, rfl, rfl, rfl, rfl, rfl, rfl, rfl, rfl, rfl, rfl, rfl, (Or.inl ⟨j, hj, hxj, Or.inl ⟨ky, hky, hyk, rfl⟩⟩), ⟨a29, a30, a31, a32, a33, a34, a35, a36, a37, a38, a39, a40, a41, F42, F43, F44, F45, F46, F5, F27, hn60, hl12, hf6, hc60, hs40, hga, hgr, hln, hk5, hk4, hfi, hpi, har, hgf, hfz, hgc, hG, hsq, hei, hmi, kne, hca, hcr, hlk⟩⟩ (Nat.le_of_ble_eq_true rfl) (Nat.le_of_ble_eq_true rfl) dX7_placed_35
    · refine lv_bipush (v := (-2)) hx hb dX7_placed_14 (by decide) ?_
      have a47 : f1 o = some (.inr (7, [.ref fa, .ref fi, .ref nu, .int (nI nl), .ref fm, .int (nI nf), .ref co, .int (nI nc), .ref en, .ref ke, .long lk])) := k3 _ _ x_o 
      have a48 : f1 fa = some (.inr (2, [.int u1, .int u2, .int u3, .ref ev])) := k3 _ _ x_fa 
      have a49 : f1 ev = some (.inl (cy 0, 8, .inl gv)) := k3 _ _ x_ev 
      have a50 : f1 fi = some (.inr (5, [.ref al, .ref ra, .int (nI nn)])) := k3 _ _ x_fi 
      have a51 : f1 al = some (.inl (cy 3, 60, .inr (.inr (.inr (.inr ga))))) := k3 _ _ x_al 
      have a52 : f1 ra = some (.inl (cy 3, 60, .inr (.inr (.inr (.inr gr))))) := k3 _ _ x_ra 
      have a53 : f1 nu = some (.inl (cy 0, 12, .inl gu)) := k3 _ _ x_nu 
      have a54 : f1 fm = some (.inl (cy 4, 6, .inr (.inr (.inr (.inr gf))))) := k3 _ _ x_fm 
      have a55 : f1 co = some (.inl (cy 5, 60, .inr (.inr (.inr (.inr gc))))) := k3 _ _ x_co 
      have a56 : f1 en = some (.inl (cy 6, 4, .inr (.inr (.inr (.inr ge))))) := k3 _ _ x_en 
      have a57 : f1 ke = some (.inr (6, [.ref kn, .ref vq, .int (nI ks)])) := k3 _ _ x_ke 
      have a58 : f1 kn = some (.inl (cy 0, 40, .inl kk)) := k3 _ _ x_kn 
      have a59 : f1 vq = some (.inl (cy 0, 40, .inl kv)) := k3 _ _ x_vq 
      have F60 : ∀ i9 : Nat, i9 < nn → f1 (fg i9) = some (.inr (4, [.int (kd i9), .ref (pt i9), .long (wg i9), .int (wd i9), .int (nI i9), .int (hs i9), .int (bf i9)])) := fun i9 h9 => k3 _ _ (hF i9 h9) 
      have F61 : ∀ i9 : Nat, i9 < nn → f1 (pt i9) = some (.inl (cy 1, (ln i9), .inr (.inl (pp i9)))) := fun i9 h9 => k3 _ _ (hP i9 h9) 
      have F62 : ∀ i9 : Nat, i9 < nf → f1 (fq i9) = some (.inr (3, [.ref (fk i9), .int (nI (fz i9))])) := fun i9 h9 => k3 _ _ (hFq i9 h9) 
      have F63 : ∀ i9 : Nat, i9 < nf → f1 (fk i9) = some (.inl (cy 0, 4, .inl (fc i9))) := fun i9 h9 => k3 _ _ (hFk i9 h9) 
      have F64 : ∀ i9 : Nat, i9 < nc → f1 (cn i9) = some (.inr (0, [.int (ce i9), .int (cm i9)])) := fun i9 h9 => k3 _ _ (hCn i9 h9) 
      have F65 : ∀ i9 : Nat, i9 < 4 → f1 (ea i9) = some (.inr (1, [.ref (ma i9), .int (nI (sq i9))])) := fun i9 h9 => k3 _ _ (hEa i9 h9) 
      have F66 : ∀ i9 : Nat, i9 < 4 → f1 (ma i9) = some (.inl (cy 0, 60, .inl (mb i9))) := fun i9 h9 => k3 _ _ (hMa i9 h9) 
      exact z_iret C hr rfl hz hS ⟨u1, u2, u3, gv, nl, gu, nn, ga, gr, fg, pt, kd, ln, pp, wg, wd, hs, bf, nf, gf, fq, fk, fz, fc, nc, gc, cn, ce, cm, sq, mb, ks, kk, kv, lk, rfl, rfl, rfl, rfl, rfl, rfl, rfl, rfl, rfl, rfl, rfl, rfl, rfl, rfl, rfl, rfl, rfl, rfl, rfl, rfl, rfl, rfl, rfl, rfl, (Or.inr ⟨rfl, Or.inr (Int32.not_le.mp c4)⟩), ⟨a47, a48, a49, a50, a51, a52, a53, a54, a55, a56, a57, a58, a59, F60, F61, F62, F63, F64, F65, F66, hn60, hl12, hf6, hc60, hs40, hga, hgr, hln, hk5, hk4, hfi, hpi, har, hgf, hfz, hgc, hG, hsq, hei, hmi, kne, hca, hcr, hlk⟩⟩ (Nat.le_of_ble_eq_true rfl) (Nat.le_of_ble_eq_true rfl) dX7_placed_16
  · refine lv_aload_n hx hb dX7_placed_0 rfl (lv_at hl 0 rfl) ?_
    refine lv_iload_n hx hb dX7_placed_1 rfl (lv_at hl 1 rfl) ?_
    refine z_callVq (As := [.int x]) C hz hS hA hl (k_X7_findEnumeration_B l D cy f o fa fi nu nl fm nf co nc en ke lk x x_o he) zyX7_findEnumeration mMX7_204 x_o zl7 rfl rfl (Nat.le_of_ble_eq_true rfl) ⟨Nat.le_of_ble_eq_true rfl, Nat.le_of_ble_eq_true rfl⟩ ⟨Nat.le_of_ble_eq_true rfl, Nat.le_of_ble_eq_true rfl⟩ dX7_placed_2 (fun r f67 H locs h68 hz hS => ?_)
    obtain ⟨rfl, k69⟩ := h68
    refine W.eq (g2 := F0 m 5 ls [.null]) rfl ?_
    refine lv_astore_nN (lv' := [(3, .null), (0, .ref o), (1, .int x), (2, .int y)]) hx hb dX7_placed_5 rfl hl (by decide) rfl (fun ls hl => ?_)
    refine lv_aload_nN hx hb dX7_placed_6 rfl (lv_at hl 0 rfl) ?_
    refine lv_ifnullN (tgt := 14) hx hb dX7_placed_7 (by decide) ?_
    refine lv_bipush (v := (-2)) hx hb dX7_placed_14 (by decide) ?_
    have a70 : f67 o = some (.inr (7, [.ref fa, .ref fi, .ref nu, .int (nI nl), .ref fm, .int (nI nf), .ref co, .int (nI nc), .ref en, .ref ke, .long lk])) := k69 _ _ x_o 
    have a71 : f67 fa = some (.inr (2, [.int u1, .int u2, .int u3, .ref ev])) := k69 _ _ x_fa 
    have a72 : f67 ev = some (.inl (cy 0, 8, .inl gv)) := k69 _ _ x_ev 
    have a73 : f67 fi = some (.inr (5, [.ref al, .ref ra, .int (nI nn)])) := k69 _ _ x_fi 
    have a74 : f67 al = some (.inl (cy 3, 60, .inr (.inr (.inr (.inr ga))))) := k69 _ _ x_al 
    have a75 : f67 ra = some (.inl (cy 3, 60, .inr (.inr (.inr (.inr gr))))) := k69 _ _ x_ra 
    have a76 : f67 nu = some (.inl (cy 0, 12, .inl gu)) := k69 _ _ x_nu 
    have a77 : f67 fm = some (.inl (cy 4, 6, .inr (.inr (.inr (.inr gf))))) := k69 _ _ x_fm 
    have a78 : f67 co = some (.inl (cy 5, 60, .inr (.inr (.inr (.inr gc))))) := k69 _ _ x_co 
    have a79 : f67 en = some (.inl (cy 6, 4, .inr (.inr (.inr (.inr ge))))) := k69 _ _ x_en 
    have a80 : f67 ke = some (.inr (6, [.ref kn, .ref vq, .int (nI ks)])) := k69 _ _ x_ke 
    have a81 : f67 kn = some (.inl (cy 0, 40, .inl kk)) := k69 _ _ x_kn 
    have a82 : f67 vq = some (.inl (cy 0, 40, .inl kv)) := k69 _ _ x_vq 
    have F83 : ∀ i9 : Nat, i9 < nn → f67 (fg i9) = some (.inr (4, [.int (kd i9), .ref (pt i9), .long (wg i9), .int (wd i9), .int (nI i9), .int (hs i9), .int (bf i9)])) := fun i9 h9 => k69 _ _ (hF i9 h9) 
    have F84 : ∀ i9 : Nat, i9 < nn → f67 (pt i9) = some (.inl (cy 1, (ln i9), .inr (.inl (pp i9)))) := fun i9 h9 => k69 _ _ (hP i9 h9) 
    have F85 : ∀ i9 : Nat, i9 < nf → f67 (fq i9) = some (.inr (3, [.ref (fk i9), .int (nI (fz i9))])) := fun i9 h9 => k69 _ _ (hFq i9 h9) 
    have F86 : ∀ i9 : Nat, i9 < nf → f67 (fk i9) = some (.inl (cy 0, 4, .inl (fc i9))) := fun i9 h9 => k69 _ _ (hFk i9 h9) 
    have F87 : ∀ i9 : Nat, i9 < nc → f67 (cn i9) = some (.inr (0, [.int (ce i9), .int (cm i9)])) := fun i9 h9 => k69 _ _ (hCn i9 h9) 
    have F88 : ∀ i9 : Nat, i9 < 4 → f67 (ea i9) = some (.inr (1, [.ref (ma i9), .int (nI (sq i9))])) := fun i9 h9 => k69 _ _ (hEa i9 h9) 
    have F89 : ∀ i9 : Nat, i9 < 4 → f67 (ma i9) = some (.inl (cy 0, 60, .inl (mb i9))) := fun i9 h9 => k69 _ _ (hMa i9 h9) 
    exact z_iret C hr rfl hz hS ⟨u1, u2, u3, gv, nl, gu, nn, ga, gr, fg, pt, kd, ln, pp, wg, wd, hs, bf, nf, gf, fq, fk, fz, fc, nc, gc, cn, ce, cm, sq, mb, ks, kk, kv, lk, rfl, rfl, rfl, rfl, rfl, rfl, rfl, rfl, rfl, rfl, rfl, rfl, rfl, rfl, rfl, rfl, rfl, rfl, rfl, rfl, rfl, rfl, rfl, rfl, (Or.inr ⟨rfl, Or.inl he⟩), ⟨a70, a71, a72, a73, a74, a75, a76, a77, a78, a79, a80, a81, a82, F83, F84, F85, F86, F87, F88, F89, hn60, hl12, hf6, hc60, hs40, hga, hgr, hln, hk5, hk4, hfi, hpi, har, hgf, hfz, hgc, hG, hsq, hei, hmi, kne, hca, hcr, hlk⟩⟩ (Nat.le_of_ble_eq_true rfl) (Nat.le_of_ble_eq_true rfl) dX7_placed_16
abbrev rmX7_put : Room := { frames := 2, cells := 0, slots := 0, locals := 45 }
set_option maxHeartbeats 4000000 in
set_option maxRecDepth 100000 in
theorem k_X7_put (l : Launch) (D : va_G) (cy : Nat → ClassId) (f : zM) (o : Nat) (fa : Nat) (fi : Nat) (nu : Nat) (fm : Nat) (co : Nat) (en : Nat) (ke : Nat) (ev : Nat) (al : Nat) (ra : Nat) (kn : Nat) (vq : Nat) (ge : Nat → Option Nat) (ea : Nat → Nat) (ma : Nat → Nat) (u1 : Int32) (u2 : Int32) (u3 : Int32) (gv : Nat → Int32) (nl : Nat) (gu : Nat → Int32) (nn : Nat) (ga : Nat → Option Nat) (gr : Nat → Option Nat) (fg : Nat → Nat) (pt : Nat → Nat) (kd : Nat → Int32) (ln : Nat → Nat) (pp : Nat → Nat → Int64) (wg : Nat → Int64) (wd : Nat → Int32) (hs : Nat → Int32) (bf : Nat → Int32) (nf : Nat) (gf : Nat → Option Nat) (fq : Nat → Nat) (fk : Nat → Nat) (fz : Nat → Nat) (fc : Nat → Nat → Int32) (nc : Nat) (gc : Nat → Option Nat) (cn : Nat → Nat) (ce : Nat → Int32) (cm : Nat → Int32) (sq : Nat → Nat) (mb : Nat → Nat → Int32) (ks : Nat) (kk : Nat → Int32) (kv : Nat → Int32) (lk : Int64) (x : Int32) (y : Int32)    (hI : zIX cy f o fa fi nu fm co en ke ev al ra kn vq ge ea ma u1 u2 u3 gv nl gu nn ga gr fg pt kd ln pp wg wd hs bf nf gf fq fk fz fc nc gc cn ce cm sq mb ks kk kv lk) : zCi l D cy yX7_put cX7_put 4 (Option.some Jvm.ClassFile.FieldType.int) rmX7_put [.ref o, .int x, .int y] f (fun (r : Int32) (f1 : zM) => ∃ (u11 : Int32) (u21 : Int32) (u31 : Int32) (gv1 : Nat → Int32) (nl1 : Nat) (gu1 : Nat → Int32) (nn1 : Nat) (ga1 : Nat → Option Nat) (gr1 : Nat → Option Nat) (fg1 : Nat → Nat) (pt1 : Nat → Nat) (kd1 : Nat → Int32) (ln1 : Nat → Nat) (pp1 : Nat → Nat → Int64) (wg1 : Nat → Int64) (wd1 : Nat → Int32) (hs1 : Nat → Int32) (bf1 : Nat → Int32) (nf1 : Nat) (gf1 : Nat → Option Nat) (fq1 : Nat → Nat) (fk1 : Nat → Nat) (fz1 : Nat → Nat) (fc1 : Nat → Nat → Int32) (nc1 : Nat) (gc1 : Nat → Option Nat) (cn1 : Nat → Nat) (ce1 : Nat → Int32) (cm1 : Nat → Int32) (sq1 : Nat → Nat) (mb1 : Nat → Nat → Int32) (ks1 : Nat) (kk1 : Nat → Int32) (kv1 : Nat → Int32) (lk1 : Int64), (u11 = u1) ∧ (u21 = u2) ∧ (u31 = u3) ∧ (gv1 = gv) ∧ (nl1 = nl) ∧ (gu1 = gu) ∧ (nn1 = nn) ∧ (kd1 = kd) ∧ (ln1 = ln) ∧ (pp1 = pp) ∧ (wd1 = wd) ∧ (hs1 = hs) ∧ (nf1 = nf) ∧ (fz1 = fz) ∧ (fc1 = fc) ∧ (nc1 = nc) ∧ (ce1 = ce) ∧ (cm1 = cm) ∧ (sq1 = sq) ∧ (mb1 = mb) ∧ (lk1 = lk) ∧ (zXU nc x y ce cm ks kk kv r ks1 kk1 kv1) ∧ zIX cy f1 o fa fi nu fm co en ke ev al ra kn vq ge ea ma u11 u21 u31 gv1 nl1 gu1 nn1 ga1 gr1 fg1 pt1 kd1 ln1 pp1 wg1 wd1 hs1 bf1 nf1 gf1 fq1 fk1 fz1 fc1 nc1 gc1 cn1 ce1 cm1 sq1 mb1 ks1 kk1 kv1 lk1) := by
  intro sz
  refine z_body (by decide +kernel) (Nat.le_of_ble_eq_true rfl) ?_
  intro p e s m below meth c ls C hr hin hsz hz hl
  subst hsz
  have hx := C.1
  have hb := C.2.1
  have hA : ∀ q, s.heap.size ≤ q → zA f s.heap.size q := fun q h => Or.inr h
  have hS : va_S (zA f s.heap.size) s.heap s.heap [] := va_S.rf
  have hl : lv_has ls 4 [(0, .ref o), (1, .int x), (2, .int y)] := hl
  obtain ⟨x_o, x_fa, x_ev, x_fi, x_al, x_ra, x_nu, x_fm, x_co, x_en, x_ke, x_kn, x_vq, hF, hP, hFq, hFk, hCn, hEa, hMa, hn60, hl12, hf6, hc60, hs40, hga, hgr, hln, hk5, hk4, hfi, hpi, har, hgf, hfz, hgc, hG, hsq, hei, hmi, kne, hca, hcr, hlk⟩ := id hI
  refine lv_aload_n hx hb dX7_put_0 rfl (lv_at hl 0 rfl) ?_
  refine lv_iload_n hx hb dX7_put_1 rfl (lv_at hl 1 rfl) ?_
  rcases z_findi x nc with ⟨jc, hjc, hvc⟩ | hvc
  · have hFc : isF nc x = true := isF_t (by omega) hjc hvc
    have hIc : fI x = jc := fI_of (by omega) hvc
    refine z_callVq (As := [.int x]) C hz hS hA hl (k_X7_findConstant_A l D cy f o fa fi nu nl fm nf co nc en ke lk gc cn jc x x_o x_co hgc hvc hjc (by omega)) zyX7_findConstant mMX7_238 x_o zl7 rfl rfl (Nat.le_of_ble_eq_true rfl) ⟨Nat.le_of_ble_eq_true rfl, Nat.le_of_ble_eq_true rfl⟩ ⟨Nat.le_of_ble_eq_true rfl, Nat.le_of_ble_eq_true rfl⟩ dX7_put_2 (fun r f1 H locs h2 hz hS => ?_)
    obtain ⟨rfl, k3⟩ := h2
    refine W.eq (g2 := F0 m 5 ls [.ref (cn jc)]) rfl ?_
    refine lv_astore_n (lv' := [(3, .ref (cn jc)), (0, .ref o), (1, .int x), (2, .int y)]) hx hb dX7_put_5 rfl hl (by decide) rfl (fun ls hl => ?_)
    refine lv_aload_n hx hb dX7_put_6 rfl (lv_at hl 0 rfl) ?_
    refine lv_ifnonnull (tgt := 15) hx hb dX7_put_7 (by decide) ?_
    refine lv_aload_n hx hb dX7_put_15 rfl (lv_at hl 1 rfl) ?_
    have a4 : f1 o = some (.inr (7, [.ref fa, .ref fi, .ref nu, .int (nI nl), .ref fm, .int (nI nf), .ref co, .int (nI nc), .ref en, .ref ke, .long lk])) := k3 _ _ x_o 
    refine z_get (v := .ref ke) C hz a4 zl7 mFX7_58 (by decide) rfl dX7_put_16 ?_
    refine lv_aload_n hx hb dX7_put_19 rfl (lv_at hl 0 rfl) ?_
    have F5 : ∀ i9 : Nat, i9 < nc → f1 (cn i9) = some (.inr (0, [.int (ce i9), .int (cm i9)])) := fun i9 h9 => k3 _ _ (hCn i9 h9) 
    have a6 : f1 (cn jc) = some (.inr (0, [.int (ce jc), .int (cm jc)])) := F5 jc hjc
    refine z_callSi (As := [.ref (cn jc)]) C hz hS hA hl (k_X7_keyOf l D cy f1 (cn jc) (ce jc) (cm jc) a6 ) zyX7_keyOf mMX7_251 rfl rfl (Nat.le_of_ble_eq_true rfl) ⟨Nat.le_of_ble_eq_true rfl, Nat.le_of_ble_eq_true rfl⟩ ⟨Nat.le_of_ble_eq_true rfl, Nat.le_of_ble_eq_true rfl⟩ dX7_put_20 (fun r f7 H locs h8 hz hS => ?_)
    obtain ⟨rfl, k9⟩ := h8
    refine lv_iload_n hx hb dX7_put_23 rfl (lv_at hl 3 rfl) ?_
    have a10 : f1 ke = some (.inr (6, [.ref kn, .ref vq, .int (nI ks)])) := k3 _ _ x_ke 
    have a11 : f7 ke = some (.inr (6, [.ref kn, .ref vq, .int (nI ks)])) := k9 _ _ a10 
    have a12 : f1 kn = some (.inl (cy 0, 40, .inl kk)) := k3 _ _ x_kn 
    have a13 : f7 kn = some (.inl (cy 0, 40, .inl kk)) := k9 _ _ a12 
    have a14 : f1 vq = some (.inl (cy 0, 40, .inl kv)) := k3 _ _ x_vq 
    have a15 : f7 vq = some (.inl (cy 0, 40, .inl kv)) := k9 _ _ a14 
    refine z_callVi (As := [.int ((ce jc) * 10000 + (cm jc)), .int y]) C hz hS hA hl (k_X6_store l D cy f7 ke kn vq ks kk kv ((ce jc) * 10000 + (cm jc)) y a11 a13 a15 hs40 kne) zyX6_store mMX7_255 a11 zl6 rfl rfl (Nat.le_of_ble_eq_true rfl) ⟨Nat.le_of_ble_eq_true rfl, Nat.le_of_ble_eq_true rfl⟩ ⟨Nat.le_of_ble_eq_true rfl, Nat.le_of_ble_eq_true rfl⟩ dX7_put_24 (fun r18 f16 H locs h17 hz hS => ?_)
    obtain ⟨z_19, g_20, gv_21, p22, p23, a24, a25, a26, k27⟩ := h17
    have a28 : f7 o = some (.inr (7, [.ref fa, .ref fi, .ref nu, .int (nI nl), .ref fm, .int (nI nf), .ref co, .int (nI nc), .ref en, .ref ke, .long lk])) := k9 _ _ a4 
    have a29 : f16 o = some (.inr (7, [.ref fa, .ref fi, .ref nu, .int (nI nl), .ref fm, .int (nI nf), .ref co, .int (nI nc), .ref en, .ref ke, .long lk])) := k27 _ _ a28 (z_ne a28 a11 rfl) (z_ne a28 a13 rfl) (z_ne a28 a15 rfl)
    have a30 : f1 fa = some (.inr (2, [.int u1, .int u2, .int u3, .ref ev])) := k3 _ _ x_fa 
    have a31 : f7 fa = some (.inr (2, [.int u1, .int u2, .int u3, .ref ev])) := k9 _ _ a30 
    have a32 : f16 fa = some (.inr (2, [.int u1, .int u2, .int u3, .ref ev])) := k27 _ _ a31 (z_ne a31 a11 rfl) (z_ne a31 a13 rfl) (z_ne a31 a15 rfl)
    have a33 : f1 ev = some (.inl (cy 0, 8, .inl gv)) := k3 _ _ x_ev 
    have a34 : f7 ev = some (.inl (cy 0, 8, .inl gv)) := k9 _ _ a33 
    have a35 : f16 ev = some (.inl (cy 0, 8, .inl gv)) := k27 _ _ a34 (z_ne a34 a11 rfl) (z_ne a34 a13 rfl) (z_ne a34 a15 rfl)
    have a36 : f1 fi = some (.inr (5, [.ref al, .ref ra, .int (nI nn)])) := k3 _ _ x_fi 
    have a37 : f7 fi = some (.inr (5, [.ref al, .ref ra, .int (nI nn)])) := k9 _ _ a36 
    have a38 : f16 fi = some (.inr (5, [.ref al, .ref ra, .int (nI nn)])) := k27 _ _ a37 (z_ne a37 a11 rfl) (z_ne a37 a13 rfl) (z_ne a37 a15 rfl)
    have a39 : f1 al = some (.inl (cy 3, 60, .inr (.inr (.inr (.inr ga))))) := k3 _ _ x_al 
    have a40 : f7 al = some (.inl (cy 3, 60, .inr (.inr (.inr (.inr ga))))) := k9 _ _ a39 
    have a41 : f16 al = some (.inl (cy 3, 60, .inr (.inr (.inr (.inr ga))))) := k27 _ _ a40 (z_ne a40 a11 rfl) (z_ne a40 a13 rfl) (z_ne a40 a15 rfl)
    have a42 : f1 ra = some (.inl (cy 3, 60, .inr (.inr (.inr (.inr gr))))) := k3 _ _ x_ra 
    have a43 : f7 ra = some (.inl (cy 3, 60, .inr (.inr (.inr (.inr gr))))) := k9 _ _ a42 
    have a44 : f16 ra = some (.inl (cy 3, 60, .inr (.inr (.inr (.inr gr))))) := k27 _ _ a43 (z_ne a43 a11 rfl) (z_ne a43 a13 rfl) (z_ne a43 a15 rfl)
    have a45 : f1 nu = some (.inl (cy 0, 12, .inl gu)) := k3 _ _ x_nu 
    have a46 : f7 nu = some (.inl (cy 0, 12, .inl gu)) := k9 _ _ a45 
    have a47 : f16 nu = some (.inl (cy 0, 12, .inl gu)) := k27 _ _ a46 (z_ne a46 a11 rfl) (z_ne a46 a13 rfl) (z_ne a46 a15 rfl)
    have a48 : f1 fm = some (.inl (cy 4, 6, .inr (.inr (.inr (.inr gf))))) := k3 _ _ x_fm 
    have a49 : f7 fm = some (.inl (cy 4, 6, .inr (.inr (.inr (.inr gf))))) := k9 _ _ a48 
    have a50 : f16 fm = some (.inl (cy 4, 6, .inr (.inr (.inr (.inr gf))))) := k27 _ _ a49 (z_ne a49 a11 rfl) (z_ne a49 a13 rfl) (z_ne a49 a15 rfl)
    have a51 : f1 co = some (.inl (cy 5, 60, .inr (.inr (.inr (.inr gc))))) := k3 _ _ x_co 
    have a52 : f7 co = some (.inl (cy 5, 60, .inr (.inr (.inr (.inr gc))))) := k9 _ _ a51 
    have a53 : f16 co = some (.inl (cy 5, 60, .inr (.inr (.inr (.inr gc))))) := k27 _ _ a52 (z_ne a52 a11 rfl) (z_ne a52 a13 rfl) (z_ne a52 a15 rfl)
    have a54 : f1 en = some (.inl (cy 6, 4, .inr (.inr (.inr (.inr ge))))) := k3 _ _ x_en 
    have a55 : f7 en = some (.inl (cy 6, 4, .inr (.inr (.inr (.inr ge))))) := k9 _ _ a54 
    have a56 : f16 en = some (.inl (cy 6, 4, .inr (.inr (.inr (.inr ge))))) := k27 _ _ a55 (z_ne a55 a11 rfl) (z_ne a55 a13 rfl) (z_ne a55 a15 rfl)
    have F57 : ∀ i9 : Nat, i9 < nn → f1 (fg i9) = some (.inr (4, [.int (kd i9), .ref (pt i9), .long (wg i9), .int (wd i9), .int (nI i9), .int (hs i9), .int (bf i9)])) := fun i9 h9 => k3 _ _ (hF i9 h9) 
    have F58 : ∀ i9 : Nat, i9 < nn → f7 (fg i9) = some (.inr (4, [.int (kd i9), .ref (pt i9), .long (wg i9), .int (wd i9), .int (nI i9), .int (hs i9), .int (bf i9)])) := fun i9 h9 => k9 _ _ (F57 i9 h9) 
    have F59 : ∀ i9 : Nat, i9 < nn → f16 (fg i9) = some (.inr (4, [.int (kd i9), .ref (pt i9), .long (wg i9), .int (wd i9), .int (nI i9), .int (hs i9), .int (bf i9)])) := fun i9 h9 => k27 _ _ (F58 i9 h9) (z_ne (F58 i9 h9) a11 rfl) (z_ne (F58 i9 h9) a13 rfl) (z_ne (F58 i9 h9) a15 rfl)
    have F60 : ∀ i9 : Nat, i9 < nn → f1 (pt i9) = some (.inl (cy 1, (ln i9), .inr (.inl (pp i9)))) := fun i9 h9 => k3 _ _ (hP i9 h9) 
    have F61 : ∀ i9 : Nat, i9 < nn → f7 (pt i9) = some (.inl (cy 1, (ln i9), .inr (.inl (pp i9)))) := fun i9 h9 => k9 _ _ (F60 i9 h9) 
    have F62 : ∀ i9 : Nat, i9 < nn → f16 (pt i9) = some (.inl (cy 1, (ln i9), .inr (.inl (pp i9)))) := fun i9 h9 => k27 _ _ (F61 i9 h9) (z_neO (F61 i9 h9) a11 rfl) (z_neA (F61 i9 h9) a13 rfl) (z_neA (F61 i9 h9) a15 rfl)
    have F63 : ∀ i9 : Nat, i9 < nf → f1 (fq i9) = some (.inr (3, [.ref (fk i9), .int (nI (fz i9))])) := fun i9 h9 => k3 _ _ (hFq i9 h9) 
    have F64 : ∀ i9 : Nat, i9 < nf → f7 (fq i9) = some (.inr (3, [.ref (fk i9), .int (nI (fz i9))])) := fun i9 h9 => k9 _ _ (F63 i9 h9) 
    have F65 : ∀ i9 : Nat, i9 < nf → f16 (fq i9) = some (.inr (3, [.ref (fk i9), .int (nI (fz i9))])) := fun i9 h9 => k27 _ _ (F64 i9 h9) (z_ne (F64 i9 h9) a11 rfl) (z_ne (F64 i9 h9) a13 rfl) (z_ne (F64 i9 h9) a15 rfl)
    have F66 : ∀ i9 : Nat, i9 < nf → f1 (fk i9) = some (.inl (cy 0, 4, .inl (fc i9))) := fun i9 h9 => k3 _ _ (hFk i9 h9) 
    have F67 : ∀ i9 : Nat, i9 < nf → f7 (fk i9) = some (.inl (cy 0, 4, .inl (fc i9))) := fun i9 h9 => k9 _ _ (F66 i9 h9) 
    have F68 : ∀ i9 : Nat, i9 < nf → f16 (fk i9) = some (.inl (cy 0, 4, .inl (fc i9))) := fun i9 h9 => k27 _ _ (F67 i9 h9) (z_ne (F67 i9 h9) a11 rfl) (z_ne (F67 i9 h9) a13 rfl) (z_ne (F67 i9 h9) a15 rfl)
    have F69 : ∀ i9 : Nat, i9 < nc → f7 (cn i9) = some (.inr (0, [.int (ce i9), .int (cm i9)])) := fun i9 h9 => k9 _ _ (F5 i9 h9) 
    have F70 : ∀ i9 : Nat, i9 < nc → f16 (cn i9) = some (.inr (0, [.int (ce i9), .int (cm i9)])) := fun i9 h9 => k27 _ _ (F69 i9 h9) (z_ne (F69 i9 h9) a11 rfl) (z_ne (F69 i9 h9) a13 rfl) (z_ne (F69 i9 h9) a15 rfl)
    have F71 : ∀ i9 : Nat, i9 < 4 → f1 (ea i9) = some (.inr (1, [.ref (ma i9), .int (nI (sq i9))])) := fun i9 h9 => k3 _ _ (hEa i9 h9) 
    have F72 : ∀ i9 : Nat, i9 < 4 → f7 (ea i9) = some (.inr (1, [.ref (ma i9), .int (nI (sq i9))])) := fun i9 h9 => k9 _ _ (F71 i9 h9) 
    have F73 : ∀ i9 : Nat, i9 < 4 → f16 (ea i9) = some (.inr (1, [.ref (ma i9), .int (nI (sq i9))])) := fun i9 h9 => k27 _ _ (F72 i9 h9) (z_ne (F72 i9 h9) a11 rfl) (z_ne (F72 i9 h9) a13 rfl) (z_ne (F72 i9 h9) a15 rfl)
    have F74 : ∀ i9 : Nat, i9 < 4 → f1 (ma i9) = some (.inl (cy 0, 60, .inl (mb i9))) := fun i9 h9 => k3 _ _ (hMa i9 h9) 
    have F75 : ∀ i9 : Nat, i9 < 4 → f7 (ma i9) = some (.inl (cy 0, 60, .inl (mb i9))) := fun i9 h9 => k9 _ _ (F74 i9 h9) 
    have F76 : ∀ i9 : Nat, i9 < 4 → f16 (ma i9) = some (.inl (cy 0, 60, .inl (mb i9))) := fun i9 h9 => k27 _ _ (F75 i9 h9) (z_ne (F75 i9 h9) a11 rfl) (z_ne (F75 i9 h9) a13 rfl) (z_ne (F75 i9 h9) a15 rfl)
    exact z_iret C hr rfl hz hS ⟨u1, u2, u3, gv, nl, gu, nn, ga, gr, fg, pt, kd, ln, pp, wg, wd, hs, bf, nf, gf, fq, fk, fz, fc, nc, gc, cn, ce, cm, sq, mb, z_19, g_20, gv_21, lk, rfl, rfl, rfl, rfl, rfl, rfl, rfl, rfl, rfl, rfl, rfl, rfl, rfl, rfl, rfl, rfl, rfl, rfl, rfl, rfl, rfl, (Or.inl ⟨jc, hjc, hvc, p23⟩), ⟨a29, a32, a35, a38, a41, a44, a47, a50, a53, a56, a24, a25, a26, F59, F62, F65, F68, F70, F73, F76, hn60, hl12, hf6, hc60, p22, hga, hgr, hln, hk5, hk4, hfi, hpi, har, hgf, hfz, hgc, hG, hsq, hei, hmi, kne, hca, hcr, hlk⟩⟩ (Nat.le_of_ble_eq_true rfl) (Nat.le_of_ble_eq_true rfl) dX7_put_27
  · have hFc : isF nc x = false := isF_f (by omega) hvc
    refine z_callVq (As := [.int x]) C hz hS hA hl (k_X7_findConstant_B l D cy f o fa fi nu nl fm nf co nc en ke lk x x_o hvc (by omega)) zyX7_findConstant mMX7_238 x_o zl7 rfl rfl (Nat.le_of_ble_eq_true rfl) ⟨Nat.le_of_ble_eq_true rfl, Nat.le_of_ble_eq_true rfl⟩ ⟨Nat.le_of_ble_eq_true rfl, Nat.le_of_ble_eq_true rfl⟩ dX7_put_2 (fun r f77 H locs h78 hz hS => ?_)
    obtain ⟨rfl, k79⟩ := h78
    refine W.eq (g2 := F0 m 5 ls [.null]) rfl ?_
    refine lv_astore_nN (lv' := [(3, .null), (0, .ref o), (1, .int x), (2, .int y)]) hx hb dX7_put_5 rfl hl (by decide) rfl (fun ls hl => ?_)
    refine lv_aload_nN hx hb dX7_put_6 rfl (lv_at hl 0 rfl) ?_
    refine lv_ifnonnullN hx hb dX7_put_7 ?_
    refine lv_bipush (v := (-2)) hx hb dX7_put_10 (by decide) ?_
    refine lv_goto (tgt := 27) hx hb dX7_put_12 (by decide) ?_
    have a80 : f77 o = some (.inr (7, [.ref fa, .ref fi, .ref nu, .int (nI nl), .ref fm, .int (nI nf), .ref co, .int (nI nc), .ref en, .ref ke, .long lk])) := k79 _ _ x_o 
    have a81 : f77 fa = some (.inr (2, [.int u1, .int u2, .int u3, .ref ev])) := k79 _ _ x_fa 
    have a82 : f77 ev = some (.inl (cy 0, 8, .inl gv)) := k79 _ _ x_ev 
    have a83 : f77 fi = some (.inr (5, [.ref al, .ref ra, .int (nI nn)])) := k79 _ _ x_fi 
    have a84 : f77 al = some (.inl (cy 3, 60, .inr (.inr (.inr (.inr ga))))) := k79 _ _ x_al 
    have a85 : f77 ra = some (.inl (cy 3, 60, .inr (.inr (.inr (.inr gr))))) := k79 _ _ x_ra 
    have a86 : f77 nu = some (.inl (cy 0, 12, .inl gu)) := k79 _ _ x_nu 
    have a87 : f77 fm = some (.inl (cy 4, 6, .inr (.inr (.inr (.inr gf))))) := k79 _ _ x_fm 
    have a88 : f77 co = some (.inl (cy 5, 60, .inr (.inr (.inr (.inr gc))))) := k79 _ _ x_co 
    have a89 : f77 en = some (.inl (cy 6, 4, .inr (.inr (.inr (.inr ge))))) := k79 _ _ x_en 
    have a90 : f77 ke = some (.inr (6, [.ref kn, .ref vq, .int (nI ks)])) := k79 _ _ x_ke 
    have a91 : f77 kn = some (.inl (cy 0, 40, .inl kk)) := k79 _ _ x_kn 
    have a92 : f77 vq = some (.inl (cy 0, 40, .inl kv)) := k79 _ _ x_vq 
    have F93 : ∀ i9 : Nat, i9 < nn → f77 (fg i9) = some (.inr (4, [.int (kd i9), .ref (pt i9), .long (wg i9), .int (wd i9), .int (nI i9), .int (hs i9), .int (bf i9)])) := fun i9 h9 => k79 _ _ (hF i9 h9) 
    have F94 : ∀ i9 : Nat, i9 < nn → f77 (pt i9) = some (.inl (cy 1, (ln i9), .inr (.inl (pp i9)))) := fun i9 h9 => k79 _ _ (hP i9 h9) 
    have F95 : ∀ i9 : Nat, i9 < nf → f77 (fq i9) = some (.inr (3, [.ref (fk i9), .int (nI (fz i9))])) := fun i9 h9 => k79 _ _ (hFq i9 h9) 
    have F96 : ∀ i9 : Nat, i9 < nf → f77 (fk i9) = some (.inl (cy 0, 4, .inl (fc i9))) := fun i9 h9 => k79 _ _ (hFk i9 h9) 
    have F97 : ∀ i9 : Nat, i9 < nc → f77 (cn i9) = some (.inr (0, [.int (ce i9), .int (cm i9)])) := fun i9 h9 => k79 _ _ (hCn i9 h9) 
    have F98 : ∀ i9 : Nat, i9 < 4 → f77 (ea i9) = some (.inr (1, [.ref (ma i9), .int (nI (sq i9))])) := fun i9 h9 => k79 _ _ (hEa i9 h9) 
    have F99 : ∀ i9 : Nat, i9 < 4 → f77 (ma i9) = some (.inl (cy 0, 60, .inl (mb i9))) := fun i9 h9 => k79 _ _ (hMa i9 h9) 
    exact z_iret C hr rfl hz hS ⟨u1, u2, u3, gv, nl, gu, nn, ga, gr, fg, pt, kd, ln, pp, wg, wd, hs, bf, nf, gf, fq, fk, fz, fc, nc, gc, cn, ce, cm, sq, mb, ks, kk, kv, lk, rfl, rfl, rfl, rfl, rfl, rfl, rfl, rfl, rfl, rfl, rfl, rfl, rfl, rfl, rfl, rfl, rfl, rfl, rfl, rfl, rfl, (Or.inr ⟨hvc, rfl, rfl, rfl, rfl⟩), ⟨a80, a81, a82, a83, a84, a85, a86, a87, a88, a89, a90, a91, a92, F93, F94, F95, F96, F97, F98, F99, hn60, hl12, hf6, hc60, hs40, hga, hgr, hln, hk5, hk4, hfi, hpi, har, hgf, hfz, hgc, hG, hsq, hei, hmi, kne, hca, hcr, hlk⟩⟩ (Nat.le_of_ble_eq_true rfl) (Nat.le_of_ble_eq_true rfl) dX7_put_27
abbrev rmX7_get : Room := { frames := 2, cells := 0, slots := 0, locals := 44 }
set_option maxHeartbeats 4000000 in
set_option maxRecDepth 100000 in
theorem k_X7_get (l : Launch) (D : va_G) (cy : Nat → ClassId) (f : zM) (o : Nat) (fa : Nat) (fi : Nat) (nu : Nat) (fm : Nat) (co : Nat) (en : Nat) (ke : Nat) (ev : Nat) (al : Nat) (ra : Nat) (kn : Nat) (vq : Nat) (ge : Nat → Option Nat) (ea : Nat → Nat) (ma : Nat → Nat) (u1 : Int32) (u2 : Int32) (u3 : Int32) (gv : Nat → Int32) (nl : Nat) (gu : Nat → Int32) (nn : Nat) (ga : Nat → Option Nat) (gr : Nat → Option Nat) (fg : Nat → Nat) (pt : Nat → Nat) (kd : Nat → Int32) (ln : Nat → Nat) (pp : Nat → Nat → Int64) (wg : Nat → Int64) (wd : Nat → Int32) (hs : Nat → Int32) (bf : Nat → Int32) (nf : Nat) (gf : Nat → Option Nat) (fq : Nat → Nat) (fk : Nat → Nat) (fz : Nat → Nat) (fc : Nat → Nat → Int32) (nc : Nat) (gc : Nat → Option Nat) (cn : Nat → Nat) (ce : Nat → Int32) (cm : Nat → Int32) (sq : Nat → Nat) (mb : Nat → Nat → Int32) (ks : Nat) (kk : Nat → Int32) (kv : Nat → Int32) (lk : Int64) (x : Int32)    (hI : zIX cy f o fa fi nu fm co en ke ev al ra kn vq ge ea ma u1 u2 u3 gv nl gu nn ga gr fg pt kd ln pp wg wd hs bf nf gf fq fk fz fc nc gc cn ce cm sq mb ks kk kv lk) : zCi l D cy yX7_get cX7_get 3 (Option.some Jvm.ClassFile.FieldType.int) rmX7_get [.ref o, .int x] f (fun (r : Int32) (f1 : zM) => ∃ (u11 : Int32) (u21 : Int32) (u31 : Int32) (gv1 : Nat → Int32) (nl1 : Nat) (gu1 : Nat → Int32) (nn1 : Nat) (ga1 : Nat → Option Nat) (gr1 : Nat → Option Nat) (fg1 : Nat → Nat) (pt1 : Nat → Nat) (kd1 : Nat → Int32) (ln1 : Nat → Nat) (pp1 : Nat → Nat → Int64) (wg1 : Nat → Int64) (wd1 : Nat → Int32) (hs1 : Nat → Int32) (bf1 : Nat → Int32) (nf1 : Nat) (gf1 : Nat → Option Nat) (fq1 : Nat → Nat) (fk1 : Nat → Nat) (fz1 : Nat → Nat) (fc1 : Nat → Nat → Int32) (nc1 : Nat) (gc1 : Nat → Option Nat) (cn1 : Nat → Nat) (ce1 : Nat → Int32) (cm1 : Nat → Int32) (sq1 : Nat → Nat) (mb1 : Nat → Nat → Int32) (ks1 : Nat) (kk1 : Nat → Int32) (kv1 : Nat → Int32) (lk1 : Int64), (u11 = u1) ∧ (u21 = u2) ∧ (u31 = u3) ∧ (gv1 = gv) ∧ (nl1 = nl) ∧ (gu1 = gu) ∧ (nn1 = nn) ∧ (kd1 = kd) ∧ (ln1 = ln) ∧ (pp1 = pp) ∧ (wd1 = wd) ∧ (hs1 = hs) ∧ (nf1 = nf) ∧ (fz1 = fz) ∧ (fc1 = fc) ∧ (nc1 = nc) ∧ (ce1 = ce) ∧ (cm1 = cm) ∧ (sq1 = sq) ∧ (mb1 = mb) ∧ (ks1 = ks) ∧ (kk1 = kk) ∧ (kv1 = kv) ∧ (lk1 = lk) ∧ (zXG nc x ce cm ks kk kv r) ∧ zIX cy f1 o fa fi nu fm co en ke ev al ra kn vq ge ea ma u11 u21 u31 gv1 nl1 gu1 nn1 ga1 gr1 fg1 pt1 kd1 ln1 pp1 wg1 wd1 hs1 bf1 nf1 gf1 fq1 fk1 fz1 fc1 nc1 gc1 cn1 ce1 cm1 sq1 mb1 ks1 kk1 kv1 lk1) := by
  intro sz
  refine z_body (by decide +kernel) (Nat.le_of_ble_eq_true rfl) ?_
  intro p e s m below meth c ls C hr hin hsz hz hl
  subst hsz
  have hx := C.1
  have hb := C.2.1
  have hA : ∀ q, s.heap.size ≤ q → zA f s.heap.size q := fun q h => Or.inr h
  have hS : va_S (zA f s.heap.size) s.heap s.heap [] := va_S.rf
  have hl : lv_has ls 3 [(0, .ref o), (1, .int x)] := hl
  obtain ⟨x_o, x_fa, x_ev, x_fi, x_al, x_ra, x_nu, x_fm, x_co, x_en, x_ke, x_kn, x_vq, hF, hP, hFq, hFk, hCn, hEa, hMa, hn60, hl12, hf6, hc60, hs40, hga, hgr, hln, hk5, hk4, hfi, hpi, har, hgf, hfz, hgc, hG, hsq, hei, hmi, kne, hca, hcr, hlk⟩ := id hI
  refine lv_aload_n hx hb dX7_get_0 rfl (lv_at hl 0 rfl) ?_
  refine lv_iload_n hx hb dX7_get_1 rfl (lv_at hl 1 rfl) ?_
  rcases z_findi x nc with ⟨jc, hjc, hvc⟩ | hvc
  · have hFc : isF nc x = true := isF_t (by omega) hjc hvc
    have hIc : fI x = jc := fI_of (by omega) hvc
    refine z_callVq (As := [.int x]) C hz hS hA hl (k_X7_findConstant_A l D cy f o fa fi nu nl fm nf co nc en ke lk gc cn jc x x_o x_co hgc hvc hjc (by omega)) zyX7_findConstant mMX7_238 x_o zl7 rfl rfl (Nat.le_of_ble_eq_true rfl) ⟨Nat.le_of_ble_eq_true rfl, Nat.le_of_ble_eq_true rfl⟩ ⟨Nat.le_of_ble_eq_true rfl, Nat.le_of_ble_eq_true rfl⟩ dX7_get_2 (fun r f1 H locs h2 hz hS => ?_)
    obtain ⟨rfl, k3⟩ := h2
    refine W.eq (g2 := F0 m 5 ls [.ref (cn jc)]) rfl ?_
    refine lv_astore_n (lv' := [(2, .ref (cn jc)), (0, .ref o), (1, .int x)]) hx hb dX7_get_5 rfl hl (by decide) rfl (fun ls hl => ?_)
    refine lv_aload_n hx hb dX7_get_6 rfl (lv_at hl 0 rfl) ?_
    refine lv_ifnonnull (tgt := 14) hx hb dX7_get_7 (by decide) ?_
    refine lv_aload_n hx hb dX7_get_14 rfl (lv_at hl 1 rfl) ?_
    have a4 : f1 o = some (.inr (7, [.ref fa, .ref fi, .ref nu, .int (nI nl), .ref fm, .int (nI nf), .ref co, .int (nI nc), .ref en, .ref ke, .long lk])) := k3 _ _ x_o 
    refine z_get (v := .ref ke) C hz a4 zl7 mFX7_58 (by decide) rfl dX7_get_15 ?_
    refine lv_aload_n hx hb dX7_get_18 rfl (lv_at hl 0 rfl) ?_
    have F5 : ∀ i9 : Nat, i9 < nc → f1 (cn i9) = some (.inr (0, [.int (ce i9), .int (cm i9)])) := fun i9 h9 => k3 _ _ (hCn i9 h9) 
    have a6 : f1 (cn jc) = some (.inr (0, [.int (ce jc), .int (cm jc)])) := F5 jc hjc
    refine z_callSi (As := [.ref (cn jc)]) C hz hS hA hl (k_X7_keyOf l D cy f1 (cn jc) (ce jc) (cm jc) a6 ) zyX7_keyOf mMX7_251 rfl rfl (Nat.le_of_ble_eq_true rfl) ⟨Nat.le_of_ble_eq_true rfl, Nat.le_of_ble_eq_true rfl⟩ ⟨Nat.le_of_ble_eq_true rfl, Nat.le_of_ble_eq_true rfl⟩ dX7_get_19 (fun r f7 H locs h8 hz hS => ?_)
    obtain ⟨rfl, k9⟩ := h8
    have a10 : f1 ke = some (.inr (6, [.ref kn, .ref vq, .int (nI ks)])) := k3 _ _ x_ke 
    have a11 : f7 ke = some (.inr (6, [.ref kn, .ref vq, .int (nI ks)])) := k9 _ _ a10 
    have a12 : f1 kn = some (.inl (cy 0, 40, .inl kk)) := k3 _ _ x_kn 
    have a13 : f7 kn = some (.inl (cy 0, 40, .inl kk)) := k9 _ _ a12 
    have a14 : f1 vq = some (.inl (cy 0, 40, .inl kv)) := k3 _ _ x_vq 
    have a15 : f7 vq = some (.inl (cy 0, 40, .inl kv)) := k9 _ _ a14 
    refine z_callVi (As := [.int ((ce jc) * 10000 + (cm jc))]) C hz hS hA hl (k_X6_valueOf l D cy f7 ke kn vq ks kk kv ((ce jc) * 10000 + (cm jc)) a11 a13 a15 hs40) zyX6_valueOf mMX7_258 a11 zl6 rfl rfl (Nat.le_of_ble_eq_true rfl) ⟨Nat.le_of_ble_eq_true rfl, Nat.le_of_ble_eq_true rfl⟩ ⟨Nat.le_of_ble_eq_true rfl, Nat.le_of_ble_eq_true rfl⟩ dX7_get_22 (fun r18 f16 H locs h17 hz hS => ?_)
    obtain ⟨p19, k20⟩ := h17
    have a21 : f7 o = some (.inr (7, [.ref fa, .ref fi, .ref nu, .int (nI nl), .ref fm, .int (nI nf), .ref co, .int (nI nc), .ref en, .ref ke, .long lk])) := k9 _ _ a4 
    have a22 : f16 o = some (.inr (7, [.ref fa, .ref fi, .ref nu, .int (nI nl), .ref fm, .int (nI nf), .ref co, .int (nI nc), .ref en, .ref ke, .long lk])) := k20 _ _ a21 
    have a23 : f1 fa = some (.inr (2, [.int u1, .int u2, .int u3, .ref ev])) := k3 _ _ x_fa 
    have a24 : f7 fa = some (.inr (2, [.int u1, .int u2, .int u3, .ref ev])) := k9 _ _ a23 
    have a25 : f16 fa = some (.inr (2, [.int u1, .int u2, .int u3, .ref ev])) := k20 _ _ a24 
    have a26 : f1 ev = some (.inl (cy 0, 8, .inl gv)) := k3 _ _ x_ev 
    have a27 : f7 ev = some (.inl (cy 0, 8, .inl gv)) := k9 _ _ a26 
    have a28 : f16 ev = some (.inl (cy 0, 8, .inl gv)) := k20 _ _ a27 
    have a29 : f1 fi = some (.inr (5, [.ref al, .ref ra, .int (nI nn)])) := k3 _ _ x_fi 
    have a30 : f7 fi = some (.inr (5, [.ref al, .ref ra, .int (nI nn)])) := k9 _ _ a29 
    have a31 : f16 fi = some (.inr (5, [.ref al, .ref ra, .int (nI nn)])) := k20 _ _ a30 
    have a32 : f1 al = some (.inl (cy 3, 60, .inr (.inr (.inr (.inr ga))))) := k3 _ _ x_al 
    have a33 : f7 al = some (.inl (cy 3, 60, .inr (.inr (.inr (.inr ga))))) := k9 _ _ a32 
    have a34 : f16 al = some (.inl (cy 3, 60, .inr (.inr (.inr (.inr ga))))) := k20 _ _ a33 
    have a35 : f1 ra = some (.inl (cy 3, 60, .inr (.inr (.inr (.inr gr))))) := k3 _ _ x_ra 
    have a36 : f7 ra = some (.inl (cy 3, 60, .inr (.inr (.inr (.inr gr))))) := k9 _ _ a35 
    have a37 : f16 ra = some (.inl (cy 3, 60, .inr (.inr (.inr (.inr gr))))) := k20 _ _ a36 
    have a38 : f1 nu = some (.inl (cy 0, 12, .inl gu)) := k3 _ _ x_nu 
    have a39 : f7 nu = some (.inl (cy 0, 12, .inl gu)) := k9 _ _ a38 
    have a40 : f16 nu = some (.inl (cy 0, 12, .inl gu)) := k20 _ _ a39 
    have a41 : f1 fm = some (.inl (cy 4, 6, .inr (.inr (.inr (.inr gf))))) := k3 _ _ x_fm 
    have a42 : f7 fm = some (.inl (cy 4, 6, .inr (.inr (.inr (.inr gf))))) := k9 _ _ a41 
    have a43 : f16 fm = some (.inl (cy 4, 6, .inr (.inr (.inr (.inr gf))))) := k20 _ _ a42 
    have a44 : f1 co = some (.inl (cy 5, 60, .inr (.inr (.inr (.inr gc))))) := k3 _ _ x_co 
    have a45 : f7 co = some (.inl (cy 5, 60, .inr (.inr (.inr (.inr gc))))) := k9 _ _ a44 
    have a46 : f16 co = some (.inl (cy 5, 60, .inr (.inr (.inr (.inr gc))))) := k20 _ _ a45 
    have a47 : f1 en = some (.inl (cy 6, 4, .inr (.inr (.inr (.inr ge))))) := k3 _ _ x_en 
    have a48 : f7 en = some (.inl (cy 6, 4, .inr (.inr (.inr (.inr ge))))) := k9 _ _ a47 
    have a49 : f16 en = some (.inl (cy 6, 4, .inr (.inr (.inr (.inr ge))))) := k20 _ _ a48 
    have a50 : f16 ke = some (.inr (6, [.ref kn, .ref vq, .int (nI ks)])) := k20 _ _ a11 
    have a51 : f16 kn = some (.inl (cy 0, 40, .inl kk)) := k20 _ _ a13 
    have a52 : f16 vq = some (.inl (cy 0, 40, .inl kv)) := k20 _ _ a15 
    have F53 : ∀ i9 : Nat, i9 < nn → f1 (fg i9) = some (.inr (4, [.int (kd i9), .ref (pt i9), .long (wg i9), .int (wd i9), .int (nI i9), .int (hs i9), .int (bf i9)])) := fun i9 h9 => k3 _ _ (hF i9 h9) 
    have F54 : ∀ i9 : Nat, i9 < nn → f7 (fg i9) = some (.inr (4, [.int (kd i9), .ref (pt i9), .long (wg i9), .int (wd i9), .int (nI i9), .int (hs i9), .int (bf i9)])) := fun i9 h9 => k9 _ _ (F53 i9 h9) 
    have F55 : ∀ i9 : Nat, i9 < nn → f16 (fg i9) = some (.inr (4, [.int (kd i9), .ref (pt i9), .long (wg i9), .int (wd i9), .int (nI i9), .int (hs i9), .int (bf i9)])) := fun i9 h9 => k20 _ _ (F54 i9 h9) 
    have F56 : ∀ i9 : Nat, i9 < nn → f1 (pt i9) = some (.inl (cy 1, (ln i9), .inr (.inl (pp i9)))) := fun i9 h9 => k3 _ _ (hP i9 h9) 
    have F57 : ∀ i9 : Nat, i9 < nn → f7 (pt i9) = some (.inl (cy 1, (ln i9), .inr (.inl (pp i9)))) := fun i9 h9 => k9 _ _ (F56 i9 h9) 
    have F58 : ∀ i9 : Nat, i9 < nn → f16 (pt i9) = some (.inl (cy 1, (ln i9), .inr (.inl (pp i9)))) := fun i9 h9 => k20 _ _ (F57 i9 h9) 
    have F59 : ∀ i9 : Nat, i9 < nf → f1 (fq i9) = some (.inr (3, [.ref (fk i9), .int (nI (fz i9))])) := fun i9 h9 => k3 _ _ (hFq i9 h9) 
    have F60 : ∀ i9 : Nat, i9 < nf → f7 (fq i9) = some (.inr (3, [.ref (fk i9), .int (nI (fz i9))])) := fun i9 h9 => k9 _ _ (F59 i9 h9) 
    have F61 : ∀ i9 : Nat, i9 < nf → f16 (fq i9) = some (.inr (3, [.ref (fk i9), .int (nI (fz i9))])) := fun i9 h9 => k20 _ _ (F60 i9 h9) 
    have F62 : ∀ i9 : Nat, i9 < nf → f1 (fk i9) = some (.inl (cy 0, 4, .inl (fc i9))) := fun i9 h9 => k3 _ _ (hFk i9 h9) 
    have F63 : ∀ i9 : Nat, i9 < nf → f7 (fk i9) = some (.inl (cy 0, 4, .inl (fc i9))) := fun i9 h9 => k9 _ _ (F62 i9 h9) 
    have F64 : ∀ i9 : Nat, i9 < nf → f16 (fk i9) = some (.inl (cy 0, 4, .inl (fc i9))) := fun i9 h9 => k20 _ _ (F63 i9 h9) 
    have F65 : ∀ i9 : Nat, i9 < nc → f7 (cn i9) = some (.inr (0, [.int (ce i9), .int (cm i9)])) := fun i9 h9 => k9 _ _ (F5 i9 h9) 
    have F66 : ∀ i9 : Nat, i9 < nc → f16 (cn i9) = some (.inr (0, [.int (ce i9), .int (cm i9)])) := fun i9 h9 => k20 _ _ (F65 i9 h9) 
    have F67 : ∀ i9 : Nat, i9 < 4 → f1 (ea i9) = some (.inr (1, [.ref (ma i9), .int (nI (sq i9))])) := fun i9 h9 => k3 _ _ (hEa i9 h9) 
    have F68 : ∀ i9 : Nat, i9 < 4 → f7 (ea i9) = some (.inr (1, [.ref (ma i9), .int (nI (sq i9))])) := fun i9 h9 => k9 _ _ (F67 i9 h9) 
    have F69 : ∀ i9 : Nat, i9 < 4 → f16 (ea i9) = some (.inr (1, [.ref (ma i9), .int (nI (sq i9))])) := fun i9 h9 => k20 _ _ (F68 i9 h9) 
    have F70 : ∀ i9 : Nat, i9 < 4 → f1 (ma i9) = some (.inl (cy 0, 60, .inl (mb i9))) := fun i9 h9 => k3 _ _ (hMa i9 h9) 
    have F71 : ∀ i9 : Nat, i9 < 4 → f7 (ma i9) = some (.inl (cy 0, 60, .inl (mb i9))) := fun i9 h9 => k9 _ _ (F70 i9 h9) 
    have F72 : ∀ i9 : Nat, i9 < 4 → f16 (ma i9) = some (.inl (cy 0, 60, .inl (mb i9))) := fun i9 h9 => k20 _ _ (F71 i9 h9) 
    exact z_iret C hr rfl hz hS ⟨u1, u2, u3, gv, nl, gu, nn, ga, gr, fg, pt, kd, ln, pp, wg, wd, hs, bf, nf, gf, fq, fk, fz, fc, nc, gc, cn, ce, cm, sq, mb, ks, kk, kv, lk, rfl, rfl, rfl, rfl, rfl, rfl, rfl, rfl, rfl, rfl, rfl, rfl, rfl, rfl, rfl, rfl, rfl, rfl, rfl, rfl, rfl, rfl, rfl, rfl, (Or.inl ⟨jc, hjc, hvc, p19⟩), ⟨a22, a25, a28, a31, a34, a37, a40, a43, a46, a49, a50, a51, a52, F55, F58, F61, F64, F66, F69, F72, hn60, hl12, hf6, hc60, hs40, hga, hgr, hln, hk5, hk4, hfi, hpi, har, hgf, hfz, hgc, hG, hsq, hei, hmi, kne, hca, hcr, hlk⟩⟩ (Nat.le_of_ble_eq_true rfl) (Nat.le_of_ble_eq_true rfl) dX7_get_25
  · have hFc : isF nc x = false := isF_f (by omega) hvc
    refine z_callVq (As := [.int x]) C hz hS hA hl (k_X7_findConstant_B l D cy f o fa fi nu nl fm nf co nc en ke lk x x_o hvc (by omega)) zyX7_findConstant mMX7_238 x_o zl7 rfl rfl (Nat.le_of_ble_eq_true rfl) ⟨Nat.le_of_ble_eq_true rfl, Nat.le_of_ble_eq_true rfl⟩ ⟨Nat.le_of_ble_eq_true rfl, Nat.le_of_ble_eq_true rfl⟩ dX7_get_2 (fun r f73 H locs h74 hz hS => ?_)
    obtain ⟨rfl, k75⟩ := h74
    refine W.eq (g2 := F0 m 5 ls [.null]) rfl ?_
    refine lv_astore_nN (lv' := [(2, .null), (0, .ref o), (1, .int x)]) hx hb dX7_get_5 rfl hl (by decide) rfl (fun ls hl => ?_)
    refine lv_aload_nN hx hb dX7_get_6 rfl (lv_at hl 0 rfl) ?_
    refine lv_ifnonnullN hx hb dX7_get_7 ?_
    refine lv_iconst (v := 0) hx hb dX7_get_10 (by decide) ?_
    refine lv_goto (tgt := 25) hx hb dX7_get_11 (by decide) ?_
    have a76 : f73 o = some (.inr (7, [.ref fa, .ref fi, .ref nu, .int (nI nl), .ref fm, .int (nI nf), .ref co, .int (nI nc), .ref en, .ref ke, .long lk])) := k75 _ _ x_o 
    have a77 : f73 fa = some (.inr (2, [.int u1, .int u2, .int u3, .ref ev])) := k75 _ _ x_fa 
    have a78 : f73 ev = some (.inl (cy 0, 8, .inl gv)) := k75 _ _ x_ev 
    have a79 : f73 fi = some (.inr (5, [.ref al, .ref ra, .int (nI nn)])) := k75 _ _ x_fi 
    have a80 : f73 al = some (.inl (cy 3, 60, .inr (.inr (.inr (.inr ga))))) := k75 _ _ x_al 
    have a81 : f73 ra = some (.inl (cy 3, 60, .inr (.inr (.inr (.inr gr))))) := k75 _ _ x_ra 
    have a82 : f73 nu = some (.inl (cy 0, 12, .inl gu)) := k75 _ _ x_nu 
    have a83 : f73 fm = some (.inl (cy 4, 6, .inr (.inr (.inr (.inr gf))))) := k75 _ _ x_fm 
    have a84 : f73 co = some (.inl (cy 5, 60, .inr (.inr (.inr (.inr gc))))) := k75 _ _ x_co 
    have a85 : f73 en = some (.inl (cy 6, 4, .inr (.inr (.inr (.inr ge))))) := k75 _ _ x_en 
    have a86 : f73 ke = some (.inr (6, [.ref kn, .ref vq, .int (nI ks)])) := k75 _ _ x_ke 
    have a87 : f73 kn = some (.inl (cy 0, 40, .inl kk)) := k75 _ _ x_kn 
    have a88 : f73 vq = some (.inl (cy 0, 40, .inl kv)) := k75 _ _ x_vq 
    have F89 : ∀ i9 : Nat, i9 < nn → f73 (fg i9) = some (.inr (4, [.int (kd i9), .ref (pt i9), .long (wg i9), .int (wd i9), .int (nI i9), .int (hs i9), .int (bf i9)])) := fun i9 h9 => k75 _ _ (hF i9 h9) 
    have F90 : ∀ i9 : Nat, i9 < nn → f73 (pt i9) = some (.inl (cy 1, (ln i9), .inr (.inl (pp i9)))) := fun i9 h9 => k75 _ _ (hP i9 h9) 
    have F91 : ∀ i9 : Nat, i9 < nf → f73 (fq i9) = some (.inr (3, [.ref (fk i9), .int (nI (fz i9))])) := fun i9 h9 => k75 _ _ (hFq i9 h9) 
    have F92 : ∀ i9 : Nat, i9 < nf → f73 (fk i9) = some (.inl (cy 0, 4, .inl (fc i9))) := fun i9 h9 => k75 _ _ (hFk i9 h9) 
    have F93 : ∀ i9 : Nat, i9 < nc → f73 (cn i9) = some (.inr (0, [.int (ce i9), .int (cm i9)])) := fun i9 h9 => k75 _ _ (hCn i9 h9) 
    have F94 : ∀ i9 : Nat, i9 < 4 → f73 (ea i9) = some (.inr (1, [.ref (ma i9), .int (nI (sq i9))])) := fun i9 h9 => k75 _ _ (hEa i9 h9) 
    have F95 : ∀ i9 : Nat, i9 < 4 → f73 (ma i9) = some (.inl (cy 0, 60, .inl (mb i9))) := fun i9 h9 => k75 _ _ (hMa i9 h9) 
    exact z_iret C hr rfl hz hS ⟨u1, u2, u3, gv, nl, gu, nn, ga, gr, fg, pt, kd, ln, pp, wg, wd, hs, bf, nf, gf, fq, fk, fz, fc, nc, gc, cn, ce, cm, sq, mb, ks, kk, kv, lk, rfl, rfl, rfl, rfl, rfl, rfl, rfl, rfl, rfl, rfl, rfl, rfl, rfl, rfl, rfl, rfl, rfl, rfl, rfl, rfl, rfl, rfl, rfl, rfl, (Or.inr ⟨hvc, rfl⟩), ⟨a76, a77, a78, a79, a80, a81, a82, a83, a84, a85, a86, a87, a88, F89, F90, F91, F92, F93, F94, F95, hn60, hl12, hf6, hc60, hs40, hga, hgr, hln, hk5, hk4, hfi, hpi, har, hgf, hfz, hgc, hG, hsq, hei, hmi, kne, hca, hcr, hlk⟩⟩ (Nat.le_of_ble_eq_true rfl) (Nat.le_of_ble_eq_true rfl) dX7_get_25
abbrev rmX7_membersOfAll : Room := { frames := 0, cells := 0, slots := 0, locals := 0 }
set_option maxHeartbeats 4000000 in
set_option maxRecDepth 100000 in
theorem k_X7_membersOfAll (l : Launch) (D : va_G) (cy : Nat → ClassId) (f : zM) (o : Nat) (fa : Nat) (fi : Nat) (nu : Nat) (nl : Nat) (fm : Nat) (nf : Nat) (co : Nat) (nc : Nat) (en : Nat) (ke : Nat) (lk : Int64) (ge : Nat → Option Nat) (ea : Nat → Nat) (ma : Nat → Nat) (sq : Nat → Nat) (p0 : f o = some (.inr (7, [.ref fa, .ref fi, .ref nu, .int (nI nl), .ref fm, .int (nI nf), .ref co, .int (nI nc), .ref en, .ref ke, .long lk]))) (p1 : f en = some (.inl (cy 6, 4, .inr (.inr (.inr (.inr ge)))))) (hEa : ∀ i9 : Nat, i9 < 4 → f (ea i9) = some (.inr (1, [.ref (ma i9), .int (nI (sq i9))]))) (hG : ∀ j, j < 4 → ge j = some (ea j)) : zCi l D cy yX7_membersOfAll cX7_membersOfAll 6 (Option.some Jvm.ClassFile.FieldType.int) rmX7_membersOfAll [.ref o] f (fun (r : Int32) (f1 : zM) => r = (0 + nI (sq 0) + nI (sq 1) + nI (sq 2) + nI (sq 3)) ∧ (∀ (b : Nat) (e : va_E), f b = some e → f1 b = some e)) := by
  intro sz
  refine z_body (by decide +kernel) (Nat.le_of_ble_eq_true rfl) ?_
  intro p e s m below meth c ls C hr hin hsz hz hl
  subst hsz
  have hx := C.1
  have hb := C.2.1
  have hA : ∀ q, s.heap.size ≤ q → zA f s.heap.size q := fun q h => Or.inr h
  have hS : va_S (zA f s.heap.size) s.heap s.heap [] := va_S.rf
  have hl : lv_has ls 6 [(0, .ref o)] := hl
  refine lv_iconst (v := 0) hx hb dX7_membersOfAll_0 (by decide) ?_
  refine lv_istore_n (lv' := [(1, .int 0), (0, .ref o)]) hx hb dX7_membersOfAll_1 rfl hl (by decide) rfl (fun ls hl => ?_)
  refine lv_aload_n hx hb dX7_membersOfAll_2 rfl (lv_at hl 1 rfl) ?_
  refine z_get (v := .ref en) C hz p0 zl7 mFX7_51 (by decide) rfl dX7_membersOfAll_3 ?_
  refine lv_astore_n (lv' := [(2, .ref en), (1, .int 0), (0, .ref o)]) hx hb dX7_membersOfAll_6 rfl hl (by decide) rfl (fun ls hl => ?_)
  refine lv_aload_n hx hb dX7_membersOfAll_7 rfl (lv_at hl 0 rfl) ?_
  refine z_alen (v := 4) 6 C hz p1 rfl rfl dX7_membersOfAll_8 ?_
  refine lv_istore_n (lv' := [(3, .int 4), (2, .ref en), (1, .int 0), (0, .ref o)]) hx hb dX7_membersOfAll_9 rfl hl (by decide) rfl (fun ls hl => ?_)
  refine lv_iconst (v := 0) hx hb dX7_membersOfAll_10 (by decide) ?_
  refine lv_istore (lv' := [(4, .int 0), (3, .int 4), (2, .ref en), (1, .int 0), (0, .ref o)]) hx hb dX7_membersOfAll_11 hl (by decide) rfl (fun ls hl => ?_)
  refine lv_iload hx hb dX7_membersOfAll_13 (lv_at hl 0 rfl) ?_
  refine lv_iload_n hx hb dX7_membersOfAll_15 rfl (lv_at hl 1 rfl) ?_
  refine lv_icmp_ge (tgt := 39) hx hb dX7_membersOfAll_16 (by decide) (fun c1 => ?_) (fun c1 => ?_)
  · exact absurd c1 (by decide)
  refine lv_aload_n hx hb dX7_membersOfAll_19 rfl (lv_at hl 2 rfl) ?_
  refine lv_iload hx hb dX7_membersOfAll_20 (lv_at hl 0 rfl) ?_
  refine z_aldq 0 C hz p1 rfl (by decide) (Nat.le_of_ble_eq_true rfl) (by omega) dX7_membersOfAll_22 ?_
  rw [hG 0 (by decide)]
  refine W.eq (g2 := F0 m 23 ls [.ref (ea 0)]) rfl ?_
  refine lv_astore (lv' := [(5, .ref (ea 0)), (4, .int 0), (3, .int 4), (2, .ref en), (1, .int 0), (0, .ref o)]) hx hb dX7_membersOfAll_23 hl (by decide) rfl (fun ls hl => ?_)
  refine lv_iload_n hx hb dX7_membersOfAll_25 rfl (lv_at hl 4 rfl) ?_
  refine lv_aload hx hb dX7_membersOfAll_26 (lv_at hl 0 rfl) ?_
  have a2 : f (ea 0) = some (.inr (1, [.ref (ma 0), .int (nI (sq 0))])) := hEa 0 (show 0 < 4 by decide)
  refine z_getN (v := .int (nI (sq 0))) C hz a2 zl1 mFNX7_227 (by decide) rfl dX7_membersOfAll_28 ?_
  refine lv_iadd hx hb dX7_membersOfAll_31 ?_
  refine lv_istore_n (lv' := [(1, .int (0 + (nI (sq 0)))), (5, .ref (ea 0)), (4, .int 0), (3, .int 4), (2, .ref en), (0, .ref o)]) hx hb dX7_membersOfAll_32 rfl hl (by decide) rfl (fun ls hl => ?_)
  refine lv_iinc (v := 1) (lv' := [(4, .int 1), (1, .int (0 + (nI (sq 0)))), (5, .ref (ea 0)), (3, .int 4), (2, .ref en), (0, .ref o)]) hx hb dX7_membersOfAll_33 hl (k := 2) rfl (by decide) (by decide) rfl (fun ls hl => ?_)
  refine lv_goto (tgt := 13) hx hb dX7_membersOfAll_36 (by decide) ?_
  refine lv_iload hx hb dX7_membersOfAll_13 (lv_at hl 0 rfl) ?_
  refine lv_iload_n hx hb dX7_membersOfAll_15 rfl (lv_at hl 3 rfl) ?_
  refine lv_icmp_ge (tgt := 39) hx hb dX7_membersOfAll_16 (by decide) (fun c3 => ?_) (fun c3 => ?_)
  · exact absurd c3 (by decide)
  refine lv_aload_n hx hb dX7_membersOfAll_19 rfl (lv_at hl 4 rfl) ?_
  refine lv_iload hx hb dX7_membersOfAll_20 (lv_at hl 0 rfl) ?_
  refine z_aldq 1 C hz p1 rfl (by decide) (Nat.le_of_ble_eq_true rfl) (by omega) dX7_membersOfAll_22 ?_
  rw [hG 1 (by decide)]
  refine W.eq (g2 := F0 m 23 ls [.ref (ea 1)]) rfl ?_
  refine lv_astore (lv' := [(5, .ref (ea 1)), (4, .int 1), (1, .int (0 + (nI (sq 0)))), (3, .int 4), (2, .ref en), (0, .ref o)]) hx hb dX7_membersOfAll_23 hl (by decide) rfl (fun ls hl => ?_)
  refine lv_iload_n hx hb dX7_membersOfAll_25 rfl (lv_at hl 2 rfl) ?_
  refine lv_aload hx hb dX7_membersOfAll_26 (lv_at hl 0 rfl) ?_
  have a4 : f (ea 1) = some (.inr (1, [.ref (ma 1), .int (nI (sq 1))])) := hEa 1 (show 1 < 4 by decide)
  refine z_getN (v := .int (nI (sq 1))) C hz a4 zl1 mFNX7_227 (by decide) rfl dX7_membersOfAll_28 ?_
  refine lv_iadd hx hb dX7_membersOfAll_31 ?_
  refine lv_istore_n (lv' := [(1, .int ((0 + (nI (sq 0))) + (nI (sq 1)))), (5, .ref (ea 1)), (4, .int 1), (3, .int 4), (2, .ref en), (0, .ref o)]) hx hb dX7_membersOfAll_32 rfl hl (by decide) rfl (fun ls hl => ?_)
  refine lv_iinc (v := 2) (lv' := [(4, .int 2), (1, .int ((0 + (nI (sq 0))) + (nI (sq 1)))), (5, .ref (ea 1)), (3, .int 4), (2, .ref en), (0, .ref o)]) hx hb dX7_membersOfAll_33 hl (k := 2) rfl (by decide) (by decide) rfl (fun ls hl => ?_)
  refine lv_goto (tgt := 13) hx hb dX7_membersOfAll_36 (by decide) ?_
  refine lv_iload hx hb dX7_membersOfAll_13 (lv_at hl 0 rfl) ?_
  refine lv_iload_n hx hb dX7_membersOfAll_15 rfl (lv_at hl 3 rfl) ?_
  refine lv_icmp_ge (tgt := 39) hx hb dX7_membersOfAll_16 (by decide) (fun c5 => ?_) (fun c5 => ?_)
  · exact absurd c5 (by decide)
  refine lv_aload_n hx hb dX7_membersOfAll_19 rfl (lv_at hl 4 rfl) ?_
  refine lv_iload hx hb dX7_membersOfAll_20 (lv_at hl 0 rfl) ?_
  refine z_aldq 2 C hz p1 rfl (by decide) (Nat.le_of_ble_eq_true rfl) (by omega) dX7_membersOfAll_22 ?_
  rw [hG 2 (by decide)]
  refine W.eq (g2 := F0 m 23 ls [.ref (ea 2)]) rfl ?_
  refine lv_astore (lv' := [(5, .ref (ea 2)), (4, .int 2), (1, .int ((0 + (nI (sq 0))) + (nI (sq 1)))), (3, .int 4), (2, .ref en), (0, .ref o)]) hx hb dX7_membersOfAll_23 hl (by decide) rfl (fun ls hl => ?_)
  refine lv_iload_n hx hb dX7_membersOfAll_25 rfl (lv_at hl 2 rfl) ?_
  refine lv_aload hx hb dX7_membersOfAll_26 (lv_at hl 0 rfl) ?_
  have a6 : f (ea 2) = some (.inr (1, [.ref (ma 2), .int (nI (sq 2))])) := hEa 2 (show 2 < 4 by decide)
  refine z_getN (v := .int (nI (sq 2))) C hz a6 zl1 mFNX7_227 (by decide) rfl dX7_membersOfAll_28 ?_
  refine lv_iadd hx hb dX7_membersOfAll_31 ?_
  refine lv_istore_n (lv' := [(1, .int (((0 + (nI (sq 0))) + (nI (sq 1))) + (nI (sq 2)))), (5, .ref (ea 2)), (4, .int 2), (3, .int 4), (2, .ref en), (0, .ref o)]) hx hb dX7_membersOfAll_32 rfl hl (by decide) rfl (fun ls hl => ?_)
  refine lv_iinc (v := 3) (lv' := [(4, .int 3), (1, .int (((0 + (nI (sq 0))) + (nI (sq 1))) + (nI (sq 2)))), (5, .ref (ea 2)), (3, .int 4), (2, .ref en), (0, .ref o)]) hx hb dX7_membersOfAll_33 hl (k := 2) rfl (by decide) (by decide) rfl (fun ls hl => ?_)
  refine lv_goto (tgt := 13) hx hb dX7_membersOfAll_36 (by decide) ?_
  refine lv_iload hx hb dX7_membersOfAll_13 (lv_at hl 0 rfl) ?_
  refine lv_iload_n hx hb dX7_membersOfAll_15 rfl (lv_at hl 3 rfl) ?_
  refine lv_icmp_ge (tgt := 39) hx hb dX7_membersOfAll_16 (by decide) (fun c7 => ?_) (fun c7 => ?_)
  · exact absurd c7 (by decide)
  refine lv_aload_n hx hb dX7_membersOfAll_19 rfl (lv_at hl 4 rfl) ?_
  refine lv_iload hx hb dX7_membersOfAll_20 (lv_at hl 0 rfl) ?_
  refine z_aldq 3 C hz p1 rfl (by decide) (Nat.le_of_ble_eq_true rfl) (by omega) dX7_membersOfAll_22 ?_
  rw [hG 3 (by decide)]
  refine W.eq (g2 := F0 m 23 ls [.ref (ea 3)]) rfl ?_
  refine lv_astore (lv' := [(5, .ref (ea 3)), (4, .int 3), (1, .int (((0 + (nI (sq 0))) + (nI (sq 1))) + (nI (sq 2)))), (3, .int 4), (2, .ref en), (0, .ref o)]) hx hb dX7_membersOfAll_23 hl (by decide) rfl (fun ls hl => ?_)
  refine lv_iload_n hx hb dX7_membersOfAll_25 rfl (lv_at hl 2 rfl) ?_
  refine lv_aload hx hb dX7_membersOfAll_26 (lv_at hl 0 rfl) ?_
  have a8 : f (ea 3) = some (.inr (1, [.ref (ma 3), .int (nI (sq 3))])) := hEa 3 (show 3 < 4 by decide)
  refine z_getN (v := .int (nI (sq 3))) C hz a8 zl1 mFNX7_227 (by decide) rfl dX7_membersOfAll_28 ?_
  refine lv_iadd hx hb dX7_membersOfAll_31 ?_
  refine lv_istore_n (lv' := [(1, .int ((((0 + (nI (sq 0))) + (nI (sq 1))) + (nI (sq 2))) + (nI (sq 3)))), (5, .ref (ea 3)), (4, .int 3), (3, .int 4), (2, .ref en), (0, .ref o)]) hx hb dX7_membersOfAll_32 rfl hl (by decide) rfl (fun ls hl => ?_)
  refine lv_iinc (v := 4) (lv' := [(4, .int 4), (1, .int ((((0 + (nI (sq 0))) + (nI (sq 1))) + (nI (sq 2))) + (nI (sq 3)))), (5, .ref (ea 3)), (3, .int 4), (2, .ref en), (0, .ref o)]) hx hb dX7_membersOfAll_33 hl (k := 2) rfl (by decide) (by decide) rfl (fun ls hl => ?_)
  refine lv_goto (tgt := 13) hx hb dX7_membersOfAll_36 (by decide) ?_
  refine lv_iload hx hb dX7_membersOfAll_13 (lv_at hl 0 rfl) ?_
  refine lv_iload_n hx hb dX7_membersOfAll_15 rfl (lv_at hl 3 rfl) ?_
  refine lv_icmp_ge (tgt := 39) hx hb dX7_membersOfAll_16 (by decide) (fun c9 => ?_) (fun c9 => ?_)
  rotate_left
  · exact absurd c9 (by decide)
  refine lv_iload_n hx hb dX7_membersOfAll_39 rfl (lv_at hl 1 rfl) ?_
  exact z_iret C hr rfl hz hS ⟨rfl, (fun b e hb => hb)⟩ (Nat.le_of_ble_eq_true rfl) (Nat.le_of_ble_eq_true rfl) dX7_membersOfAll_40
abbrev rmX7_count : Room := { frames := 1, cells := 0, slots := 0, locals := 25 }
set_option maxHeartbeats 4000000 in
set_option maxRecDepth 100000 in
theorem k_X7_count (l : Launch) (D : va_G) (cy : Nat → ClassId) (f : zM) (o : Nat) (fa : Nat) (fi : Nat) (nu : Nat) (fm : Nat) (co : Nat) (en : Nat) (ke : Nat) (ev : Nat) (al : Nat) (ra : Nat) (kn : Nat) (vq : Nat) (ge : Nat → Option Nat) (ea : Nat → Nat) (ma : Nat → Nat) (u1 : Int32) (u2 : Int32) (u3 : Int32) (gv : Nat → Int32) (nl : Nat) (gu : Nat → Int32) (nn : Nat) (ga : Nat → Option Nat) (gr : Nat → Option Nat) (fg : Nat → Nat) (pt : Nat → Nat) (kd : Nat → Int32) (ln : Nat → Nat) (pp : Nat → Nat → Int64) (wg : Nat → Int64) (wd : Nat → Int32) (hs : Nat → Int32) (bf : Nat → Int32) (nf : Nat) (gf : Nat → Option Nat) (fq : Nat → Nat) (fk : Nat → Nat) (fz : Nat → Nat) (fc : Nat → Nat → Int32) (nc : Nat) (gc : Nat → Option Nat) (cn : Nat → Nat) (ce : Nat → Int32) (cm : Nat → Int32) (sq : Nat → Nat) (mb : Nat → Nat → Int32) (ks : Nat) (kk : Nat → Int32) (kv : Nat → Int32) (lk : Int64) (x : Int32)    (hI : zIX cy f o fa fi nu fm co en ke ev al ra kn vq ge ea ma u1 u2 u3 gv nl gu nn ga gr fg pt kd ln pp wg wd hs bf nf gf fq fk fz fc nc gc cn ce cm sq mb ks kk kv lk) : zCi l D cy yX7_count cX7_count 2 (Option.some Jvm.ClassFile.FieldType.int) rmX7_count [.ref o, .int x] f (fun (r : Int32) (f1 : zM) => ∃ (u11 : Int32) (u21 : Int32) (u31 : Int32) (gv1 : Nat → Int32) (nl1 : Nat) (gu1 : Nat → Int32) (nn1 : Nat) (ga1 : Nat → Option Nat) (gr1 : Nat → Option Nat) (fg1 : Nat → Nat) (pt1 : Nat → Nat) (kd1 : Nat → Int32) (ln1 : Nat → Nat) (pp1 : Nat → Nat → Int64) (wg1 : Nat → Int64) (wd1 : Nat → Int32) (hs1 : Nat → Int32) (bf1 : Nat → Int32) (nf1 : Nat) (gf1 : Nat → Option Nat) (fq1 : Nat → Nat) (fk1 : Nat → Nat) (fz1 : Nat → Nat) (fc1 : Nat → Nat → Int32) (nc1 : Nat) (gc1 : Nat → Option Nat) (cn1 : Nat → Nat) (ce1 : Nat → Int32) (cm1 : Nat → Int32) (sq1 : Nat → Nat) (mb1 : Nat → Nat → Int32) (ks1 : Nat) (kk1 : Nat → Int32) (kv1 : Nat → Int32) (lk1 : Int64), r = (q_count nn nl nf ks sq gv x) ∧ (u11 = u1) ∧ (u21 = u2) ∧ (u31 = u3) ∧ (gv1 = gv) ∧ (nl1 = nl) ∧ (gu1 = gu) ∧ (nn1 = nn) ∧ (kd1 = kd) ∧ (ln1 = ln) ∧ (pp1 = pp) ∧ (wd1 = wd) ∧ (hs1 = hs) ∧ (nf1 = nf) ∧ (fz1 = fz) ∧ (fc1 = fc) ∧ (nc1 = nc) ∧ (ce1 = ce) ∧ (cm1 = cm) ∧ (sq1 = sq) ∧ (mb1 = mb) ∧ (ks1 = ks) ∧ (kk1 = kk) ∧ (kv1 = kv) ∧ (lk1 = lk) ∧ zIX cy f1 o fa fi nu fm co en ke ev al ra kn vq ge ea ma u11 u21 u31 gv1 nl1 gu1 nn1 ga1 gr1 fg1 pt1 kd1 ln1 pp1 wg1 wd1 hs1 bf1 nf1 gf1 fq1 fk1 fz1 fc1 nc1 gc1 cn1 ce1 cm1 sq1 mb1 ks1 kk1 kv1 lk1) := by
  intro sz
  refine z_body (by decide +kernel) (Nat.le_of_ble_eq_true rfl) ?_
  intro p e s m below meth c ls C hr hin hsz hz hl
  subst hsz
  have hx := C.1
  have hb := C.2.1
  have hA : ∀ q, s.heap.size ≤ q → zA f s.heap.size q := fun q h => Or.inr h
  have hS : va_S (zA f s.heap.size) s.heap s.heap [] := va_S.rf
  have hl : lv_has ls 2 [(0, .ref o), (1, .int x)] := hl
  obtain ⟨x_o, x_fa, x_ev, x_fi, x_al, x_ra, x_nu, x_fm, x_co, x_en, x_ke, x_kn, x_vq, hF, hP, hFq, hFk, hCn, hEa, hMa, hn60, hl12, hf6, hc60, hs40, hga, hgr, hln, hk5, hk4, hfi, hpi, har, hgf, hfz, hgc, hG, hsq, hei, hmi, kne, hca, hcr, hlk⟩ := id hI
  refine lv_iload_n hx hb dX7_count_0 rfl (lv_at hl 1 rfl) ?_
  by_cases c1_0 : x = 0
  · refine lv_tableIn (off := 35) (tgt := 36) hx hb dX7_count_1 (by rw [c1_0]; decide) (by rw [c1_0]; decide) (by rw [c1_0]; decide) (by decide) ?_
    refine lv_aload_n hx hb dX7_count_36 rfl (lv_at hl 0 rfl) ?_
    refine z_get (v := .ref fi) C hz x_o zl7 mFX7_19 (by decide) rfl dX7_count_37 ?_
    refine z_getN (v := .int (nI nn)) C hz x_fi zl5 mFNX7_201 (by decide) rfl dX7_count_40 ?_
    exact z_iret C hr rfl hz hS ⟨u1, u2, u3, gv, nl, gu, nn, ga, gr, fg, pt, kd, ln, pp, wg, wd, hs, bf, nf, gf, fq, fk, fz, fc, nc, gc, cn, ce, cm, sq, mb, ks, kk, kv, lk, (by simp [q_count, c1_0]), rfl, rfl, rfl, rfl, rfl, rfl, rfl, rfl, rfl, rfl, rfl, rfl, rfl, rfl, rfl, rfl, rfl, rfl, rfl, rfl, rfl, rfl, rfl, rfl, ⟨x_o, x_fa, x_ev, x_fi, x_al, x_ra, x_nu, x_fm, x_co, x_en, x_ke, x_kn, x_vq, hF, hP, hFq, hFk, hCn, hEa, hMa, hn60, hl12, hf6, hc60, hs40, hga, hgr, hln, hk5, hk4, hfi, hpi, har, hgf, hfz, hgc, hG, hsq, hei, hmi, kne, hca, hcr, hlk⟩⟩ (Nat.le_of_ble_eq_true rfl) (Nat.le_of_ble_eq_true rfl) dX7_count_43
  by_cases c1_1 : x = 1
  · refine lv_tableIn (off := 43) (tgt := 44) hx hb dX7_count_1 (by rw [c1_1]; decide) (by rw [c1_1]; decide) (by rw [c1_1]; decide) (by decide) ?_
    refine lv_aload_n hx hb dX7_count_44 rfl (lv_at hl 0 rfl) ?_
    refine z_get (v := .int (nI nl)) C hz x_o zl7 mFX7_27 (by decide) rfl dX7_count_45 ?_
    exact z_iret C hr rfl hz hS ⟨u1, u2, u3, gv, nl, gu, nn, ga, gr, fg, pt, kd, ln, pp, wg, wd, hs, bf, nf, gf, fq, fk, fz, fc, nc, gc, cn, ce, cm, sq, mb, ks, kk, kv, lk, (by simp [q_count, c1_1, c1_0]), rfl, rfl, rfl, rfl, rfl, rfl, rfl, rfl, rfl, rfl, rfl, rfl, rfl, rfl, rfl, rfl, rfl, rfl, rfl, rfl, rfl, rfl, rfl, rfl, ⟨x_o, x_fa, x_ev, x_fi, x_al, x_ra, x_nu, x_fm, x_co, x_en, x_ke, x_kn, x_vq, hF, hP, hFq, hFk, hCn, hEa, hMa, hn60, hl12, hf6, hc60, hs40, hga, hgr, hln, hk5, hk4, hfi, hpi, har, hgf, hfz, hgc, hG, hsq, hei, hmi, kne, hca, hcr, hlk⟩⟩ (Nat.le_of_ble_eq_true rfl) (Nat.le_of_ble_eq_true rfl) dX7_count_48
  by_cases c1_2 : x = 2
  · refine lv_tableIn (off := 48) (tgt := 49) hx hb dX7_count_1 (by rw [c1_2]; decide) (by rw [c1_2]; decide) (by rw [c1_2]; decide) (by decide) ?_
    refine lv_aload_n hx hb dX7_count_49 rfl (lv_at hl 0 rfl) ?_
    refine z_get (v := .int (nI nf)) C hz x_o zl7 mFX7_37 (by decide) rfl dX7_count_50 ?_
    exact z_iret C hr rfl hz hS ⟨u1, u2, u3, gv, nl, gu, nn, ga, gr, fg, pt, kd, ln, pp, wg, wd, hs, bf, nf, gf, fq, fk, fz, fc, nc, gc, cn, ce, cm, sq, mb, ks, kk, kv, lk, (by simp [q_count, c1_2, c1_0, c1_1]), rfl, rfl, rfl, rfl, rfl, rfl, rfl, rfl, rfl, rfl, rfl, rfl, rfl, rfl, rfl, rfl, rfl, rfl, rfl, rfl, rfl, rfl, rfl, rfl, ⟨x_o, x_fa, x_ev, x_fi, x_al, x_ra, x_nu, x_fm, x_co, x_en, x_ke, x_kn, x_vq, hF, hP, hFq, hFk, hCn, hEa, hMa, hn60, hl12, hf6, hc60, hs40, hga, hgr, hln, hk5, hk4, hfi, hpi, har, hgf, hfz, hgc, hG, hsq, hei, hmi, kne, hca, hcr, hlk⟩⟩ (Nat.le_of_ble_eq_true rfl) (Nat.le_of_ble_eq_true rfl) dX7_count_53
  by_cases c1_3 : x = 3
  · refine lv_tableIn (off := 53) (tgt := 54) hx hb dX7_count_1 (by rw [c1_3]; decide) (by rw [c1_3]; decide) (by rw [c1_3]; decide) (by decide) ?_
    refine lv_aload_n hx hb dX7_count_54 rfl (lv_at hl 0 rfl) ?_
    refine z_callVi (As := []) C hz hS hA hl (k_X7_membersOfAll l D cy f o fa fi nu nl fm nf co nc en ke lk ge ea ma sq x_o x_en hEa hG) zyX7_membersOfAll mMX7_261 x_o zl7 rfl rfl (Nat.le_of_ble_eq_true rfl) ⟨Nat.le_of_ble_eq_true rfl, Nat.le_of_ble_eq_true rfl⟩ ⟨Nat.le_of_ble_eq_true rfl, Nat.le_of_ble_eq_true rfl⟩ dX7_count_55 (fun r f2 H locs h3 hz hS => ?_)
    obtain ⟨rfl, k4⟩ := h3
    have a5 : f2 o = some (.inr (7, [.ref fa, .ref fi, .ref nu, .int (nI nl), .ref fm, .int (nI nf), .ref co, .int (nI nc), .ref en, .ref ke, .long lk])) := k4 _ _ x_o 
    have a6 : f2 fa = some (.inr (2, [.int u1, .int u2, .int u3, .ref ev])) := k4 _ _ x_fa 
    have a7 : f2 ev = some (.inl (cy 0, 8, .inl gv)) := k4 _ _ x_ev 
    have a8 : f2 fi = some (.inr (5, [.ref al, .ref ra, .int (nI nn)])) := k4 _ _ x_fi 
    have a9 : f2 al = some (.inl (cy 3, 60, .inr (.inr (.inr (.inr ga))))) := k4 _ _ x_al 
    have a10 : f2 ra = some (.inl (cy 3, 60, .inr (.inr (.inr (.inr gr))))) := k4 _ _ x_ra 
    have a11 : f2 nu = some (.inl (cy 0, 12, .inl gu)) := k4 _ _ x_nu 
    have a12 : f2 fm = some (.inl (cy 4, 6, .inr (.inr (.inr (.inr gf))))) := k4 _ _ x_fm 
    have a13 : f2 co = some (.inl (cy 5, 60, .inr (.inr (.inr (.inr gc))))) := k4 _ _ x_co 
    have a14 : f2 en = some (.inl (cy 6, 4, .inr (.inr (.inr (.inr ge))))) := k4 _ _ x_en 
    have a15 : f2 ke = some (.inr (6, [.ref kn, .ref vq, .int (nI ks)])) := k4 _ _ x_ke 
    have a16 : f2 kn = some (.inl (cy 0, 40, .inl kk)) := k4 _ _ x_kn 
    have a17 : f2 vq = some (.inl (cy 0, 40, .inl kv)) := k4 _ _ x_vq 
    have F18 : ∀ i9 : Nat, i9 < nn → f2 (fg i9) = some (.inr (4, [.int (kd i9), .ref (pt i9), .long (wg i9), .int (wd i9), .int (nI i9), .int (hs i9), .int (bf i9)])) := fun i9 h9 => k4 _ _ (hF i9 h9) 
    have F19 : ∀ i9 : Nat, i9 < nn → f2 (pt i9) = some (.inl (cy 1, (ln i9), .inr (.inl (pp i9)))) := fun i9 h9 => k4 _ _ (hP i9 h9) 
    have F20 : ∀ i9 : Nat, i9 < nf → f2 (fq i9) = some (.inr (3, [.ref (fk i9), .int (nI (fz i9))])) := fun i9 h9 => k4 _ _ (hFq i9 h9) 
    have F21 : ∀ i9 : Nat, i9 < nf → f2 (fk i9) = some (.inl (cy 0, 4, .inl (fc i9))) := fun i9 h9 => k4 _ _ (hFk i9 h9) 
    have F22 : ∀ i9 : Nat, i9 < nc → f2 (cn i9) = some (.inr (0, [.int (ce i9), .int (cm i9)])) := fun i9 h9 => k4 _ _ (hCn i9 h9) 
    have F23 : ∀ i9 : Nat, i9 < 4 → f2 (ea i9) = some (.inr (1, [.ref (ma i9), .int (nI (sq i9))])) := fun i9 h9 => k4 _ _ (hEa i9 h9) 
    have F24 : ∀ i9 : Nat, i9 < 4 → f2 (ma i9) = some (.inl (cy 0, 60, .inl (mb i9))) := fun i9 h9 => k4 _ _ (hMa i9 h9) 
    exact z_iret C hr rfl hz hS ⟨u1, u2, u3, gv, nl, gu, nn, ga, gr, fg, pt, kd, ln, pp, wg, wd, hs, bf, nf, gf, fq, fk, fz, fc, nc, gc, cn, ce, cm, sq, mb, ks, kk, kv, lk, (by simp [q_count, c1_3, c1_0, c1_1, c1_2]), rfl, rfl, rfl, rfl, rfl, rfl, rfl, rfl, rfl, rfl, rfl, rfl, rfl, rfl, rfl, rfl, rfl, rfl, rfl, rfl, rfl, rfl, rfl, rfl, ⟨a5, a6, a7, a8, a9, a10, a11, a12, a13, a14, a15, a16, a17, F18, F19, F20, F21, F22, F23, F24, hn60, hl12, hf6, hc60, hs40, hga, hgr, hln, hk5, hk4, hfi, hpi, har, hgf, hfz, hgc, hG, hsq, hei, hmi, kne, hca, hcr, hlk⟩⟩ (Nat.le_of_ble_eq_true rfl) (Nat.le_of_ble_eq_true rfl) dX7_count_58
  by_cases c1_4 : x = 4
  · refine lv_tableIn (off := 58) (tgt := 59) hx hb dX7_count_1 (by rw [c1_4]; decide) (by rw [c1_4]; decide) (by rw [c1_4]; decide) (by decide) ?_
    refine lv_aload_n hx hb dX7_count_59 rfl (lv_at hl 0 rfl) ?_
    refine z_get (v := .ref ke) C hz x_o zl7 mFX7_58 (by decide) rfl dX7_count_60 ?_
    refine z_getN (v := .int (nI ks)) C hz x_ke zl6 mFNX7_265 (by decide) rfl dX7_count_63 ?_
    exact z_iret C hr rfl hz hS ⟨u1, u2, u3, gv, nl, gu, nn, ga, gr, fg, pt, kd, ln, pp, wg, wd, hs, bf, nf, gf, fq, fk, fz, fc, nc, gc, cn, ce, cm, sq, mb, ks, kk, kv, lk, (by simp [q_count, c1_4, c1_0, c1_1, c1_2, c1_3]), rfl, rfl, rfl, rfl, rfl, rfl, rfl, rfl, rfl, rfl, rfl, rfl, rfl, rfl, rfl, rfl, rfl, rfl, rfl, rfl, rfl, rfl, rfl, rfl, ⟨x_o, x_fa, x_ev, x_fi, x_al, x_ra, x_nu, x_fm, x_co, x_en, x_ke, x_kn, x_vq, hF, hP, hFq, hFk, hCn, hEa, hMa, hn60, hl12, hf6, hc60, hs40, hga, hgr, hln, hk5, hk4, hfi, hpi, har, hgf, hfz, hgc, hG, hsq, hei, hmi, kne, hca, hcr, hlk⟩⟩ (Nat.le_of_ble_eq_true rfl) (Nat.le_of_ble_eq_true rfl) dX7_count_66
  refine lv_tableOut (tgt := 67) hx hb dX7_count_1 (by have t0 := lv_neT c1_0 (a := 0) (by decide); have t1 := lv_neT c1_1 (a := 1) (by decide); have t2 := lv_neT c1_2 (a := 2) (by decide); have t3 := lv_neT c1_3 (a := 3) (by decide); have t4 := lv_neT c1_4 (a := 4) (by decide);  omega) (by decide) ?_
  refine lv_aload_n hx hb dX7_count_67 rfl (lv_at hl 0 rfl) ?_
  refine z_get (v := .ref fa) C hz x_o zl7 mFX7_10 (by decide) rfl dX7_count_68 ?_
  refine lv_iload_n hx hb dX7_count_71 rfl (lv_at hl 1 rfl) ?_
  refine lv_bipush (v := 10) hx hb dX7_count_72 (by decide) ?_
  refine lv_isub hx hb dX7_count_74 ?_
  refine z_callVi (As := [.int (x - 10)]) C hz hS hA hl (k_X2_everOf l D cy f fa (x - 10) u1 u2 u3 ev gv x_fa x_ev ) zyX2_everOf mMX7_266 x_fa zl2 rfl rfl (Nat.le_of_ble_eq_true rfl) ⟨Nat.le_of_ble_eq_true rfl, Nat.le_of_ble_eq_true rfl⟩ ⟨Nat.le_of_ble_eq_true rfl, Nat.le_of_ble_eq_true rfl⟩ dX7_count_75 (fun r f25 H locs h26 hz hS => ?_)
  obtain ⟨rfl, k27⟩ := h26
  have a28 : f25 o = some (.inr (7, [.ref fa, .ref fi, .ref nu, .int (nI nl), .ref fm, .int (nI nf), .ref co, .int (nI nc), .ref en, .ref ke, .long lk])) := k27 _ _ x_o 
  have a29 : f25 fa = some (.inr (2, [.int u1, .int u2, .int u3, .ref ev])) := k27 _ _ x_fa 
  have a30 : f25 ev = some (.inl (cy 0, 8, .inl gv)) := k27 _ _ x_ev 
  have a31 : f25 fi = some (.inr (5, [.ref al, .ref ra, .int (nI nn)])) := k27 _ _ x_fi 
  have a32 : f25 al = some (.inl (cy 3, 60, .inr (.inr (.inr (.inr ga))))) := k27 _ _ x_al 
  have a33 : f25 ra = some (.inl (cy 3, 60, .inr (.inr (.inr (.inr gr))))) := k27 _ _ x_ra 
  have a34 : f25 nu = some (.inl (cy 0, 12, .inl gu)) := k27 _ _ x_nu 
  have a35 : f25 fm = some (.inl (cy 4, 6, .inr (.inr (.inr (.inr gf))))) := k27 _ _ x_fm 
  have a36 : f25 co = some (.inl (cy 5, 60, .inr (.inr (.inr (.inr gc))))) := k27 _ _ x_co 
  have a37 : f25 en = some (.inl (cy 6, 4, .inr (.inr (.inr (.inr ge))))) := k27 _ _ x_en 
  have a38 : f25 ke = some (.inr (6, [.ref kn, .ref vq, .int (nI ks)])) := k27 _ _ x_ke 
  have a39 : f25 kn = some (.inl (cy 0, 40, .inl kk)) := k27 _ _ x_kn 
  have a40 : f25 vq = some (.inl (cy 0, 40, .inl kv)) := k27 _ _ x_vq 
  have F41 : ∀ i9 : Nat, i9 < nn → f25 (fg i9) = some (.inr (4, [.int (kd i9), .ref (pt i9), .long (wg i9), .int (wd i9), .int (nI i9), .int (hs i9), .int (bf i9)])) := fun i9 h9 => k27 _ _ (hF i9 h9) 
  have F42 : ∀ i9 : Nat, i9 < nn → f25 (pt i9) = some (.inl (cy 1, (ln i9), .inr (.inl (pp i9)))) := fun i9 h9 => k27 _ _ (hP i9 h9) 
  have F43 : ∀ i9 : Nat, i9 < nf → f25 (fq i9) = some (.inr (3, [.ref (fk i9), .int (nI (fz i9))])) := fun i9 h9 => k27 _ _ (hFq i9 h9) 
  have F44 : ∀ i9 : Nat, i9 < nf → f25 (fk i9) = some (.inl (cy 0, 4, .inl (fc i9))) := fun i9 h9 => k27 _ _ (hFk i9 h9) 
  have F45 : ∀ i9 : Nat, i9 < nc → f25 (cn i9) = some (.inr (0, [.int (ce i9), .int (cm i9)])) := fun i9 h9 => k27 _ _ (hCn i9 h9) 
  have F46 : ∀ i9 : Nat, i9 < 4 → f25 (ea i9) = some (.inr (1, [.ref (ma i9), .int (nI (sq i9))])) := fun i9 h9 => k27 _ _ (hEa i9 h9) 
  have F47 : ∀ i9 : Nat, i9 < 4 → f25 (ma i9) = some (.inl (cy 0, 60, .inl (mb i9))) := fun i9 h9 => k27 _ _ (hMa i9 h9) 
  exact z_iret C hr rfl hz hS ⟨u1, u2, u3, gv, nl, gu, nn, ga, gr, fg, pt, kd, ln, pp, wg, wd, hs, bf, nf, gf, fq, fk, fz, fc, nc, gc, cn, ce, cm, sq, mb, ks, kk, kv, lk, (by rw [z_cnt]; simp [q_count, c1_0, c1_1, c1_2, c1_3, c1_4]), rfl, rfl, rfl, rfl, rfl, rfl, rfl, rfl, rfl, rfl, rfl, rfl, rfl, rfl, rfl, rfl, rfl, rfl, rfl, rfl, rfl, rfl, rfl, rfl, ⟨a28, a29, a30, a31, a32, a33, a34, a35, a36, a37, a38, a39, a40, F41, F42, F43, F44, F45, F46, F47, hn60, hl12, hf6, hc60, hs40, hga, hgr, hln, hk5, hk4, hfi, hpi, har, hgf, hfz, hgc, hG, hsq, hei, hmi, kne, hca, hcr, hlk⟩⟩ (Nat.le_of_ble_eq_true rfl) (Nat.le_of_ble_eq_true rfl) dX7_count_78
