theorem z_ixn {x M : Int32} {n : Nat} (hM : M.toInt = n) (h1 : 0 ≤ x) (h2 : x ≤ M) : ∃ j : Nat, j ≤ n ∧ x = nI j := nI_of2 hM (Int32.not_lt.mpr h1) h2
theorem z_ix4 {x : Int32} (h : 0 ≤ x ∧ x < 4) : ∃ j : Nat, j < 4 ∧ x = nI j := by
  obtain ⟨h1, h2⟩ := h
  rw [Int32.le_iff_toInt_le] at h1
  rw [Int32.lt_iff_toInt_lt] at h2
  have e0 : (0 : Int32).toInt = 0 := by decide
  have e4 : (4 : Int32).toInt = 4 := by decide
  rw [e0] at h1
  rw [e4] at h2
  exact vp_in_of (vp_in_iff.mpr ⟨h1, by omega⟩) (by omega)
theorem z_seed (x : Int32) : lg_cmp x.toInt64 2147483647 < 0 ↔ ¬ x = 2147483647 := by
  rw [lg_cmp_lt, Int64.lt_iff_toInt_lt, Int32.toInt_toInt64]
  have e : (2147483647 : Int64).toInt = 2147483647 := by decide
  have e2 : (2147483647 : Int32).toInt = 2147483647 := by decide
  have hb := Int32.toInt_lt x
  rw [e]
  constructor
  · rintro h rfl
    rw [e2] at h
    omega
  · intro h
    have : x.toInt ≠ 2147483647 := fun q => h (Int32.toInt_inj.mp (by rw [q, e2]))
    omega
/-- the kinds that were told, one after the other: the bits of those seen, or nothing more where one is none or was told twice -/
def zks (g : Nat → Int32) : Nat → Option Int32
  | 0 => some 0
  | i + 1 => match zks g i with
    | none => none
    | some s => if g i = (-1) then some s else if g i < 0 then none else if 6 < g i then none else if (s >>> (g i &&& 31)) &&& 1 = 0 then some (s ||| (1 <<< (g i &&& 31))) else none
theorem zks_none {g : Nat → Int32} {i : Nat} (h : zks g i = none) : ∀ d, zks g (i + d) = none := by
  intro d
  induction d with
  | zero => exact h
  | succ d ih => show zks g ((i + d) + 1) = none; simp [zks, ih]
theorem zks_none4 {g : Nat → Int32} {i : Nat} (hi : i < 4) (h : zks g (i + 1) = none) : ¬ (zks g 4).isSome = true := by
  have := zks_none h (3 - i)
  rw [show i + 1 + (3 - i) = 4 by omega] at this
  simp [this]
abbrev rmX7_pair : Room := { frames := 6, cells := 2, slots := 9, locals := 140 }
set_option maxHeartbeats 4000000 in
set_option maxRecDepth 100000 in
theorem k_X7_pair (l : Launch) (D : va_G) (cy : Nat → ClassId) (f : zM) (o : Nat) (fa : Nat) (fi : Nat) (nu : Nat) (fm : Nat) (co : Nat) (en : Nat) (ke : Nat) (ev : Nat) (al : Nat) (ra : Nat) (kn : Nat) (vq : Nat) (ge : Nat → Option Nat) (ea : Nat → Nat) (ma : Nat → Nat) (u1 : Int32) (u2 : Int32) (u3 : Int32) (gv : Nat → Int32) (nl : Nat) (gu : Nat → Int32) (nn : Nat) (ga : Nat → Option Nat) (gr : Nat → Option Nat) (fg : Nat → Nat) (pt : Nat → Nat) (kd : Nat → Int32) (ln : Nat → Nat) (pp : Nat → Nat → Int64) (wg : Nat → Int64) (wd : Nat → Int32) (hs : Nat → Int32) (bf : Nat → Int32) (nf : Nat) (gf : Nat → Option Nat) (fq : Nat → Nat) (fk : Nat → Nat) (fz : Nat → Nat) (fc : Nat → Nat → Int32) (nc : Nat) (gc : Nat → Option Nat) (cn : Nat → Nat) (ce : Nat → Int32) (cm : Nat → Int32) (sq : Nat → Nat) (mb : Nat → Nat → Int32) (ks : Nat) (kk : Nat → Int32) (kv : Nat → Int32) (lk : Int64) (x : Int32) (y : Int32)    (hI : zIX cy f o fa fi nu fm co en ke ev al ra kn vq ge ea ma u1 u2 u3 gv nl gu nn ga gr fg pt kd ln pp wg wd hs bf nf gf fq fk fz fc nc gc cn ce cm sq mb ks kk kv lk) : zCi l D cy yX7_pair cX7_pair 3 (Option.some Jvm.ClassFile.FieldType.int) rmX7_pair [.ref o, .int x, .int y] f (fun (r : Int32) (f1 : zM) => ∃ (u11 : Int32) (u21 : Int32) (u31 : Int32) (gv1 : Nat → Int32) (nl1 : Nat) (gu1 : Nat → Int32) (nn1 : Nat) (ga1 : Nat → Option Nat) (gr1 : Nat → Option Nat) (fg1 : Nat → Nat) (pt1 : Nat → Nat) (kd1 : Nat → Int32) (ln1 : Nat → Nat) (pp1 : Nat → Nat → Int64) (wg1 : Nat → Int64) (wd1 : Nat → Int32) (hs1 : Nat → Int32) (bf1 : Nat → Int32) (nf1 : Nat) (gf1 : Nat → Option Nat) (fq1 : Nat → Nat) (fk1 : Nat → Nat) (fz1 : Nat → Nat) (fc1 : Nat → Nat → Int32) (nc1 : Nat) (gc1 : Nat → Option Nat) (cn1 : Nat → Nat) (ce1 : Nat → Int32) (cm1 : Nat → Int32) (sq1 : Nat → Nat) (mb1 : Nat → Nat → Int32) (ks1 : Nat) (kk1 : Nat → Int32) (kv1 : Nat → Int32) (lk1 : Int64), (nl1 = nl) ∧ (nn1 = if 0 ≤ r then nn + 1 else nn) ∧ zIX cy f1 o fa fi nu fm co en ke ev al ra kn vq ge ea ma u11 u21 u31 gv1 nl1 gu1 nn1 ga1 gr1 fg1 pt1 kd1 ln1 pp1 wg1 wd1 hs1 bf1 nf1 gf1 fq1 fk1 fz1 fc1 nc1 gc1 cn1 ce1 cm1 sq1 mb1 ks1 kk1 kv1 lk1) := by
  intro sz
  refine z_body (by decide +kernel) (Nat.le_of_ble_eq_true rfl) ?_
  intro p e s m below meth c ls C hr hin hsz hz hl
  subst hsz
  have hx := C.1
  have hb := C.2.1
  have hA : ∀ q, s.heap.size ≤ q → zA f s.heap.size q := fun q h => Or.inr h
  have hS : va_S (zA f s.heap.size) s.heap s.heap [] := va_S.rf
  have hl : lv_has ls 3 [(0, .ref o), (1, .int x), (2, .int y)] := hl
  obtain ⟨x_o, x_fa, x_ev, x_fi, x_al, x_ra, x_nu, x_fm, x_co, x_en, x_ke, x_kn, x_vq, hF, hP, hFq, hFk, hCn, hEa, hMa, hn60, hl12, hf6, hc60, hs40, hga, hgr, hln, hk5, hk4, hfi, hpi, har, hgf, hfz, hgc, hG, hsq, hei, hmi, kne, hca, hcr, hlk⟩ := id hI
  refine lv_aload_n hx hb dX7_pair_0 rfl (lv_at hl 0 rfl) ?_
  refine z_get (v := .ref fa) C hz x_o zl7 mFX7_10 (by decide) rfl dX7_pair_1 ?_
  refine z_callVv (As := []) C hz hS hA hl (k_X2_none l D cy f fa u1 u2 u3 ev x_fa ) zyX2_none mMX7_76 x_fa zl2 rfl rfl (Nat.le_of_ble_eq_true rfl) ⟨Nat.le_of_ble_eq_true rfl, Nat.le_of_ble_eq_true rfl⟩ ⟨Nat.le_of_ble_eq_true rfl, Nat.le_of_ble_eq_true rfl⟩ dX7_pair_4 (fun  f1 H locs h2 hz hS => ?_)
  obtain ⟨a3, k4⟩ := h2
  refine lv_aload_n hx hb dX7_pair_7 rfl (lv_at hl 0 rfl) ?_
  have a5 : f1 o = some (.inr (7, [.ref fa, .ref fi, .ref nu, .int (nI nl), .ref fm, .int (nI nf), .ref co, .int (nI nc), .ref en, .ref ke, .long lk])) := k4 _ _ x_o (z_ne x_o x_fa rfl)
  refine z_get (v := .ref fi) C hz a5 zl7 mFX7_19 (by decide) rfl dX7_pair_8 ?_
  refine lv_iload_n hx hb dX7_pair_11 rfl (lv_at hl 1 rfl) ?_
  rcases z_hon x nn with hlf | ⟨jl, hjl, hlf⟩ | ⟨hlf, hlf2⟩
  · have a6 : f1 fi = some (.inr (5, [.ref al, .ref ra, .int (nI nn)])) := k4 _ _ x_fi (z_ne x_fi x_fa rfl)
    refine z_callVi (As := [.int x]) C hz hS hA hl (k_X5_hasOrNone_N l D cy f1 fi al ra nn x a6 hlf) zyX5_hasOrNone mMX7_112 a6 zl5 rfl rfl (Nat.le_of_ble_eq_true rfl) ⟨Nat.le_of_ble_eq_true rfl, Nat.le_of_ble_eq_true rfl⟩ ⟨Nat.le_of_ble_eq_true rfl, Nat.le_of_ble_eq_true rfl⟩ dX7_pair_12 (fun r f7 H locs h8 hz hS => ?_)
    obtain ⟨rfl, k9⟩ := h8
    refine lv_if_eq (tgt := 29) hx hb dX7_pair_15 (by decide) (fun c10 => ?_) (fun c10 => ?_)
    · exact absurd c10 (by decide)
    refine lv_aload_n hx hb dX7_pair_18 rfl (lv_at hl 0 rfl) ?_
    have a11 : f7 o = some (.inr (7, [.ref fa, .ref fi, .ref nu, .int (nI nl), .ref fm, .int (nI nf), .ref co, .int (nI nc), .ref en, .ref ke, .long lk])) := k9 _ _ a5 
    refine z_get (v := .ref fi) C hz a11 zl7 mFX7_19 (by decide) rfl dX7_pair_19 ?_
    refine lv_iload_n hx hb dX7_pair_22 rfl (lv_at hl 2 rfl) ?_
    rcases z_hon y nn with hrt | ⟨jr, hjr, hrt⟩ | ⟨hrt, hrt2⟩
    · have a12 : f7 fi = some (.inr (5, [.ref al, .ref ra, .int (nI nn)])) := k9 _ _ a6 
      refine z_callVi (As := [.int y]) C hz hS hA hl (k_X5_hasOrNone_N l D cy f7 fi al ra nn y a12 hrt) zyX5_hasOrNone mMX7_112 a12 zl5 rfl rfl (Nat.le_of_ble_eq_true rfl) ⟨Nat.le_of_ble_eq_true rfl, Nat.le_of_ble_eq_true rfl⟩ ⟨Nat.le_of_ble_eq_true rfl, Nat.le_of_ble_eq_true rfl⟩ dX7_pair_23 (fun r f13 H locs h14 hz hS => ?_)
      obtain ⟨rfl, k15⟩ := h14
      refine lv_if_ne (tgt := 32) hx hb dX7_pair_26 (by decide) (fun c16 => ?_) (fun c16 => ?_)
      rotate_left
      · exact absurd c16 (by decide)
      refine lv_aload_n hx hb dX7_pair_32 rfl (lv_at hl 0 rfl) ?_
      have a17 : f13 o = some (.inr (7, [.ref fa, .ref fi, .ref nu, .int (nI nl), .ref fm, .int (nI nf), .ref co, .int (nI nc), .ref en, .ref ke, .long lk])) := k15 _ _ a11 
      refine z_get (v := .ref fi) C hz a17 zl7 mFX7_19 (by decide) rfl dX7_pair_33 ?_
      by_cases h60 : nn < 60
      · have a18 : f13 fi = some (.inr (5, [.ref al, .ref ra, .int (nI nn)])) := k15 _ _ a12 
        refine z_callVi (As := []) C hz hS hA hl (k_X5_isFull_A l D cy f13 fi al ra nn a18 hn60 h60) zyX5_isFull mMX7_79 a18 zl5 rfl rfl (Nat.le_of_ble_eq_true rfl) ⟨Nat.le_of_ble_eq_true rfl, Nat.le_of_ble_eq_true rfl⟩ ⟨Nat.le_of_ble_eq_true rfl, Nat.le_of_ble_eq_true rfl⟩ dX7_pair_36 (fun r f19 H locs h20 hz hS => ?_)
        obtain ⟨rfl, k21⟩ := h20
        refine lv_if_eq (tgt := 45) hx hb dX7_pair_39 (by decide) (fun c22 => ?_) (fun c22 => ?_)
        rotate_left
        · exact absurd c22 (by decide)
        refine lv_iload_n hx hb dX7_pair_45 rfl (lv_at hl 1 rfl) ?_
        refine lv_iconst (v := (-1)) hx hb dX7_pair_46 (by decide) ?_
        refine lv_icmp_ne (tgt := 60) hx hb dX7_pair_47 (by decide) (fun c23 => ?_) (fun c23 => ?_)
        · refine lv_aload_n hx hb dX7_pair_60 rfl (lv_at hl 0 rfl) ?_
          have a24 : f19 o = some (.inr (7, [.ref fa, .ref fi, .ref nu, .int (nI nl), .ref fm, .int (nI nf), .ref co, .int (nI nc), .ref en, .ref ke, .long lk])) := k21 _ _ a17 
          refine z_get (v := .ref fi) C hz a24 zl7 mFX7_19 (by decide) rfl dX7_pair_61 ?_
          refine z_new (fs := [.int 0, .null, .long 0, .int 0, .int 0, .int 0, .int 0]) C hz hS hA zl4 mLX7_83 mIa_RX4 mIn_RX4 (by decide +kernel) (Nat.le_of_ble_eq_true rfl) (Nat.le_of_ble_eq_true rfl) dX7_pair_64 (fun q25 H f27 u26 a28 k29 hz hS => ?_)
          refine lv_dup hx hb dX7_pair_67 rfl ?_
          refine lv_iconst (v := 4) hx hb dX7_pair_68 (by decide) ?_
          refine lv_iconst (v := 2) hx hb dX7_pair_69 (by decide) ?_
          refine z_newa (atype := .long) (t0 := 1) (N' := 2) (x := (.inr (.inl (fun _ => 0)))) C hz hS hA rfl mA_long rfl (fun _ => rfl) (by decide) (Nat.le_of_ble_eq_true rfl) (by decide) (Nat.le_of_ble_eq_true rfl) (Nat.le_of_ble_eq_true rfl) dX7_pair_70 (fun q30 H f32 u31 a33 k34 hz hS => ?_)
          refine lv_dup hx hb dX7_pair_72 rfl ?_
          refine lv_iconst (v := 0) hx hb dX7_pair_73 (by decide) ?_
          refine lv_iload_n hx hb dX7_pair_74 rfl (lv_at hl 1 rfl) ?_
          refine lv_i2l (v := x.toInt64) hx hb dX7_pair_75 rfl ?_
          refine z_last 0 C hz hS a33 (by decide) (Nat.le_of_ble_eq_true rfl) (by omega) dX7_pair_76 (fun H locs f35 a36 k37 hz hS => ?_)
          refine lv_dup hx hb dX7_pair_77 rfl ?_
          refine lv_iconst (v := 1) hx hb dX7_pair_78 (by decide) ?_
          refine lv_iload_n hx hb dX7_pair_79 rfl (lv_at hl 2 rfl) ?_
          refine lv_i2l (v := y.toInt64) hx hb dX7_pair_80 rfl ?_
          refine z_last 1 C hz hS a36 (by decide) (Nat.le_of_ble_eq_true rfl) (by omega) dX7_pair_81 (fun H locs f38 a39 k40 hz hS => ?_)
          refine lv_lconst (v := 0) hx hb dX7_pair_82 (by decide) ?_
          have a41 : f32 q25 = some (.inr (4, [.int 0, .null, .long 0, .int 0, .int 0, .int 0, .int 0])) := (k34 _ (z_nn u31 a28)).trans a28
          have a42 : f35 q25 = some (.inr (4, [.int 0, .null, .long 0, .int 0, .int 0, .int 0, .int 0])) := (k37 _ (z_nn u31 a28)).trans a41
          have a43 : f38 q25 = some (.inr (4, [.int 0, .null, .long 0, .int 0, .int 0, .int 0, .int 0])) := (k40 _ (z_nn u31 a28)).trans a42
          refine z_callIv (ret := none) (As := [.int 4, .ref q30, .long 0]) C hz hS hA hl (k_X4_init l D cy f38 q25 4 q30 0 a43 ) zyX4_init mMX7_89 rfl rfl (Nat.le_of_ble_eq_true rfl) ⟨Nat.le_of_ble_eq_true rfl, Nat.le_of_ble_eq_true rfl⟩ ⟨Nat.le_of_ble_eq_true rfl, Nat.le_of_ble_eq_true rfl⟩ dX7_pair_83 (fun  f44 H locs h45 hz hS => ?_)
          obtain ⟨a46, k47⟩ := h45
          have a48 : f19 fi = some (.inr (5, [.ref al, .ref ra, .int (nI nn)])) := k21 _ _ a18 
          have a49 : f27 fi = some (.inr (5, [.ref al, .ref ra, .int (nI nn)])) := (k29 _ (z_nn u26 a48)).trans a48
          have a50 : f32 fi = some (.inr (5, [.ref al, .ref ra, .int (nI nn)])) := (k34 _ (z_nn u31 a49)).trans a49
          have a51 : f35 fi = some (.inr (5, [.ref al, .ref ra, .int (nI nn)])) := (k37 _ (z_nn u31 a49)).trans a50
          have a52 : f38 fi = some (.inr (5, [.ref al, .ref ra, .int (nI nn)])) := (k40 _ (z_nn u31 a49)).trans a51
          have a53 : f44 fi = some (.inr (5, [.ref al, .ref ra, .int (nI nn)])) := k47 _ _ a52 (z_nn u26 a48)
          have a54 : f1 al = some (.inl (cy 3, 60, .inr (.inr (.inr (.inr ga))))) := k4 _ _ x_al (z_ne x_al x_fa rfl)
          have a55 : f7 al = some (.inl (cy 3, 60, .inr (.inr (.inr (.inr ga))))) := k9 _ _ a54 
          have a56 : f13 al = some (.inl (cy 3, 60, .inr (.inr (.inr (.inr ga))))) := k15 _ _ a55 
          have a57 : f19 al = some (.inl (cy 3, 60, .inr (.inr (.inr (.inr ga))))) := k21 _ _ a56 
          have a58 : f27 al = some (.inl (cy 3, 60, .inr (.inr (.inr (.inr ga))))) := (k29 _ (z_nn u26 a57)).trans a57
          have a59 : f32 al = some (.inl (cy 3, 60, .inr (.inr (.inr (.inr ga))))) := (k34 _ (z_nn u31 a58)).trans a58
          have a60 : f35 al = some (.inl (cy 3, 60, .inr (.inr (.inr (.inr ga))))) := (k37 _ (z_nn u31 a58)).trans a59
          have a61 : f38 al = some (.inl (cy 3, 60, .inr (.inr (.inr (.inr ga))))) := (k40 _ (z_nn u31 a58)).trans a60
          have a62 : f44 al = some (.inl (cy 3, 60, .inr (.inr (.inr (.inr ga))))) := k47 _ _ a61 (z_nn u26 a57)
          have a63 : f1 ra = some (.inl (cy 3, 60, .inr (.inr (.inr (.inr gr))))) := k4 _ _ x_ra (z_ne x_ra x_fa rfl)
          have a64 : f7 ra = some (.inl (cy 3, 60, .inr (.inr (.inr (.inr gr))))) := k9 _ _ a63 
          have a65 : f13 ra = some (.inl (cy 3, 60, .inr (.inr (.inr (.inr gr))))) := k15 _ _ a64 
          have a66 : f19 ra = some (.inl (cy 3, 60, .inr (.inr (.inr (.inr gr))))) := k21 _ _ a65 
          have a67 : f27 ra = some (.inl (cy 3, 60, .inr (.inr (.inr (.inr gr))))) := (k29 _ (z_nn u26 a66)).trans a66
          have a68 : f32 ra = some (.inl (cy 3, 60, .inr (.inr (.inr (.inr gr))))) := (k34 _ (z_nn u31 a67)).trans a67
          have a69 : f35 ra = some (.inl (cy 3, 60, .inr (.inr (.inr (.inr gr))))) := (k37 _ (z_nn u31 a67)).trans a68
          have a70 : f38 ra = some (.inl (cy 3, 60, .inr (.inr (.inr (.inr gr))))) := (k40 _ (z_nn u31 a67)).trans a69
          have a71 : f44 ra = some (.inl (cy 3, 60, .inr (.inr (.inr (.inr gr))))) := k47 _ _ a70 (z_nn u26 a66)
          have a72 : f44 q30 = some (.inl (cy 1, 2, .inr (.inl (vp_updL (vp_updL (fun _ => 0) 0 x.toInt64) 1 y.toInt64)))) := k47 _ _ a39 (Ne.symm (z_nn u31 a28))
          have F73 : ∀ i9 : Nat, i9 < nn → f1 (fg i9) = some (.inr (4, [.int (kd i9), .ref (pt i9), .long (wg i9), .int (wd i9), .int (nI i9), .int (hs i9), .int (bf i9)])) := fun i9 h9 => k4 _ _ (hF i9 h9) (z_ne (hF i9 h9) x_fa rfl)
          have F74 : ∀ i9 : Nat, i9 < nn → f7 (fg i9) = some (.inr (4, [.int (kd i9), .ref (pt i9), .long (wg i9), .int (wd i9), .int (nI i9), .int (hs i9), .int (bf i9)])) := fun i9 h9 => k9 _ _ (F73 i9 h9) 
          have F75 : ∀ i9 : Nat, i9 < nn → f13 (fg i9) = some (.inr (4, [.int (kd i9), .ref (pt i9), .long (wg i9), .int (wd i9), .int (nI i9), .int (hs i9), .int (bf i9)])) := fun i9 h9 => k15 _ _ (F74 i9 h9) 
          have F76 : ∀ i9 : Nat, i9 < nn → f19 (fg i9) = some (.inr (4, [.int (kd i9), .ref (pt i9), .long (wg i9), .int (wd i9), .int (nI i9), .int (hs i9), .int (bf i9)])) := fun i9 h9 => k21 _ _ (F75 i9 h9) 
          have F77 : ∀ i9 : Nat, i9 < nn → f27 (fg i9) = some (.inr (4, [.int (kd i9), .ref (pt i9), .long (wg i9), .int (wd i9), .int (nI i9), .int (hs i9), .int (bf i9)])) := fun i9 h9 => (k29 _ (z_nn u26 (F76 i9 h9))).trans (F76 i9 h9)
          have F78 : ∀ i9 : Nat, i9 < nn → f32 (fg i9) = some (.inr (4, [.int (kd i9), .ref (pt i9), .long (wg i9), .int (wd i9), .int (nI i9), .int (hs i9), .int (bf i9)])) := fun i9 h9 => (k34 _ (z_nn u31 (F77 i9 h9))).trans (F77 i9 h9)
          have F79 : ∀ i9 : Nat, i9 < nn → f35 (fg i9) = some (.inr (4, [.int (kd i9), .ref (pt i9), .long (wg i9), .int (wd i9), .int (nI i9), .int (hs i9), .int (bf i9)])) := fun i9 h9 => (k37 _ (z_nn u31 (F77 i9 h9))).trans (F78 i9 h9)
          have F80 : ∀ i9 : Nat, i9 < nn → f38 (fg i9) = some (.inr (4, [.int (kd i9), .ref (pt i9), .long (wg i9), .int (wd i9), .int (nI i9), .int (hs i9), .int (bf i9)])) := fun i9 h9 => (k40 _ (z_nn u31 (F77 i9 h9))).trans (F79 i9 h9)
          have F81 : ∀ i9 : Nat, i9 < nn → f44 (fg i9) = some (.inr (4, [.int (kd i9), .ref (pt i9), .long (wg i9), .int (wd i9), .int (nI i9), .int (hs i9), .int (bf i9)])) := fun i9 h9 => k47 _ _ (F80 i9 h9) (z_nn u26 (F76 i9 h9))
          have F82 : ∀ i9 : Nat, i9 < nn → f1 (pt i9) = some (.inl (cy 1, (ln i9), .inr (.inl (pp i9)))) := fun i9 h9 => k4 _ _ (hP i9 h9) (z_neO (hP i9 h9) x_fa rfl)
          have F83 : ∀ i9 : Nat, i9 < nn → f7 (pt i9) = some (.inl (cy 1, (ln i9), .inr (.inl (pp i9)))) := fun i9 h9 => k9 _ _ (F82 i9 h9) 
          have F84 : ∀ i9 : Nat, i9 < nn → f13 (pt i9) = some (.inl (cy 1, (ln i9), .inr (.inl (pp i9)))) := fun i9 h9 => k15 _ _ (F83 i9 h9) 
          have F85 : ∀ i9 : Nat, i9 < nn → f19 (pt i9) = some (.inl (cy 1, (ln i9), .inr (.inl (pp i9)))) := fun i9 h9 => k21 _ _ (F84 i9 h9) 
          have F86 : ∀ i9 : Nat, i9 < nn → f27 (pt i9) = some (.inl (cy 1, (ln i9), .inr (.inl (pp i9)))) := fun i9 h9 => (k29 _ (z_nn u26 (F85 i9 h9))).trans (F85 i9 h9)
          have F87 : ∀ i9 : Nat, i9 < nn → f32 (pt i9) = some (.inl (cy 1, (ln i9), .inr (.inl (pp i9)))) := fun i9 h9 => (k34 _ (z_nn u31 (F86 i9 h9))).trans (F86 i9 h9)
          have F88 : ∀ i9 : Nat, i9 < nn → f35 (pt i9) = some (.inl (cy 1, (ln i9), .inr (.inl (pp i9)))) := fun i9 h9 => (k37 _ (z_nn u31 (F86 i9 h9))).trans (F87 i9 h9)
          have F89 : ∀ i9 : Nat, i9 < nn → f38 (pt i9) = some (.inl (cy 1, (ln i9), .inr (.inl (pp i9)))) := fun i9 h9 => (k40 _ (z_nn u31 (F86 i9 h9))).trans (F88 i9 h9)
          have F90 : ∀ i9 : Nat, i9 < nn → f44 (pt i9) = some (.inl (cy 1, (ln i9), .inr (.inl (pp i9)))) := fun i9 h9 => k47 _ _ (F89 i9 h9) (z_nn u26 (F85 i9 h9))
          refine z_callVi (As := [.ref q25]) C hz hS hA hl (k_X5_add l D cy f44 fi al ra ga gr nn fg pt kd ln pp wg wd hs bf q25 4 q30 0 0 (-1) 0 0 2 (vp_updL (vp_updL (fun _ => 0) 0 x.toInt64) 1 y.toInt64) a53 a62 a71 a46 a72 F81 F90 h60 hga hgr hln hk5 hfi (fun j9 h9 => z_nn u26 (F76 j9 h9)) (by omega) (fun h9 => absurd h9 (by decide)) har) zyX5_add mMX7_92 a53 zl5 rfl rfl (Nat.le_of_ble_eq_true rfl) ⟨Nat.le_of_ble_eq_true rfl, Nat.le_of_ble_eq_true rfl⟩ ⟨Nat.le_of_ble_eq_true rfl, Nat.le_of_ble_eq_true rfl⟩ dX7_pair_86 (fun r f91 H locs h92 hz hS => ?_)
          obtain ⟨hq_93, bq_94, gr_95, bf_96, rfl, p97, a98, a99, a100, F101, F102, k103⟩ := h92
          have a104 : f27 o = some (.inr (7, [.ref fa, .ref fi, .ref nu, .int (nI nl), .ref fm, .int (nI nf), .ref co, .int (nI nc), .ref en, .ref ke, .long lk])) := (k29 _ (z_nn u26 a24)).trans a24
          have a105 : f32 o = some (.inr (7, [.ref fa, .ref fi, .ref nu, .int (nI nl), .ref fm, .int (nI nf), .ref co, .int (nI nc), .ref en, .ref ke, .long lk])) := (k34 _ (z_nn u31 a104)).trans a104
          have a106 : f35 o = some (.inr (7, [.ref fa, .ref fi, .ref nu, .int (nI nl), .ref fm, .int (nI nf), .ref co, .int (nI nc), .ref en, .ref ke, .long lk])) := (k37 _ (z_nn u31 a104)).trans a105
          have a107 : f38 o = some (.inr (7, [.ref fa, .ref fi, .ref nu, .int (nI nl), .ref fm, .int (nI nf), .ref co, .int (nI nc), .ref en, .ref ke, .long lk])) := (k40 _ (z_nn u31 a104)).trans a106
          have a108 : f44 o = some (.inr (7, [.ref fa, .ref fi, .ref nu, .int (nI nl), .ref fm, .int (nI nf), .ref co, .int (nI nc), .ref en, .ref ke, .long lk])) := k47 _ _ a107 (z_nn u26 a24)
          have a109 : f91 o = some (.inr (7, [.ref fa, .ref fi, .ref nu, .int (nI nl), .ref fm, .int (nI nf), .ref co, .int (nI nc), .ref en, .ref ke, .long lk])) := k103 _ _ a108 (z_ne a108 a53 rfl) (z_ne a108 a62 rfl) (z_ne a108 a71 rfl) (z_nn u26 a24) (fun j9 h8 => (z_ne a108 (F81 j9 h8) rfl))
          have a110 : f7 fa = some (.inr (2, [.int 0, .int (-1), .int 0, .ref ev])) := k9 _ _ a3 
          have a111 : f13 fa = some (.inr (2, [.int 0, .int (-1), .int 0, .ref ev])) := k15 _ _ a110 
          have a112 : f19 fa = some (.inr (2, [.int 0, .int (-1), .int 0, .ref ev])) := k21 _ _ a111 
          have a113 : f27 fa = some (.inr (2, [.int 0, .int (-1), .int 0, .ref ev])) := (k29 _ (z_nn u26 a112)).trans a112
          have a114 : f32 fa = some (.inr (2, [.int 0, .int (-1), .int 0, .ref ev])) := (k34 _ (z_nn u31 a113)).trans a113
          have a115 : f35 fa = some (.inr (2, [.int 0, .int (-1), .int 0, .ref ev])) := (k37 _ (z_nn u31 a113)).trans a114
          have a116 : f38 fa = some (.inr (2, [.int 0, .int (-1), .int 0, .ref ev])) := (k40 _ (z_nn u31 a113)).trans a115
          have a117 : f44 fa = some (.inr (2, [.int 0, .int (-1), .int 0, .ref ev])) := k47 _ _ a116 (z_nn u26 a112)
          have a118 : f91 fa = some (.inr (2, [.int 0, .int (-1), .int 0, .ref ev])) := k103 _ _ a117 (z_ne a117 a53 rfl) (z_ne a117 a62 rfl) (z_ne a117 a71 rfl) (z_nn u26 a112) (fun j9 h8 => (z_ne a117 (F81 j9 h8) rfl))
          have a119 : f1 ev = some (.inl (cy 0, 8, .inl gv)) := k4 _ _ x_ev (z_ne x_ev x_fa rfl)
          have a120 : f7 ev = some (.inl (cy 0, 8, .inl gv)) := k9 _ _ a119 
          have a121 : f13 ev = some (.inl (cy 0, 8, .inl gv)) := k15 _ _ a120 
          have a122 : f19 ev = some (.inl (cy 0, 8, .inl gv)) := k21 _ _ a121 
          have a123 : f27 ev = some (.inl (cy 0, 8, .inl gv)) := (k29 _ (z_nn u26 a122)).trans a122
          have a124 : f32 ev = some (.inl (cy 0, 8, .inl gv)) := (k34 _ (z_nn u31 a123)).trans a123
          have a125 : f35 ev = some (.inl (cy 0, 8, .inl gv)) := (k37 _ (z_nn u31 a123)).trans a124
          have a126 : f38 ev = some (.inl (cy 0, 8, .inl gv)) := (k40 _ (z_nn u31 a123)).trans a125
          have a127 : f44 ev = some (.inl (cy 0, 8, .inl gv)) := k47 _ _ a126 (z_nn u26 a122)
          have a128 : f91 ev = some (.inl (cy 0, 8, .inl gv)) := k103 _ _ a127 (z_ne a127 a53 rfl) (z_ne a127 a62 rfl) (z_ne a127 a71 rfl) (z_nn u26 a122) (fun j9 h8 => (z_ne a127 (F81 j9 h8) rfl))
          have a129 : f1 nu = some (.inl (cy 0, 12, .inl gu)) := k4 _ _ x_nu (z_ne x_nu x_fa rfl)
          have a130 : f7 nu = some (.inl (cy 0, 12, .inl gu)) := k9 _ _ a129 
          have a131 : f13 nu = some (.inl (cy 0, 12, .inl gu)) := k15 _ _ a130 
          have a132 : f19 nu = some (.inl (cy 0, 12, .inl gu)) := k21 _ _ a131 
          have a133 : f27 nu = some (.inl (cy 0, 12, .inl gu)) := (k29 _ (z_nn u26 a132)).trans a132
          have a134 : f32 nu = some (.inl (cy 0, 12, .inl gu)) := (k34 _ (z_nn u31 a133)).trans a133
          have a135 : f35 nu = some (.inl (cy 0, 12, .inl gu)) := (k37 _ (z_nn u31 a133)).trans a134
          have a136 : f38 nu = some (.inl (cy 0, 12, .inl gu)) := (k40 _ (z_nn u31 a133)).trans a135
          have a137 : f44 nu = some (.inl (cy 0, 12, .inl gu)) := k47 _ _ a136 (z_nn u26 a132)
          have a138 : f91 nu = some (.inl (cy 0, 12, .inl gu)) := k103 _ _ a137 (z_ne a137 a53 rfl) (z_ne a137 a62 rfl) (z_ne a137 a71 rfl) (z_nn u26 a132) (fun j9 h8 => (z_ne a137 (F81 j9 h8) rfl))
          have a139 : f1 fm = some (.inl (cy 4, 6, .inr (.inr (.inr (.inr gf))))) := k4 _ _ x_fm (z_ne x_fm x_fa rfl)
          have a140 : f7 fm = some (.inl (cy 4, 6, .inr (.inr (.inr (.inr gf))))) := k9 _ _ a139 
          have a141 : f13 fm = some (.inl (cy 4, 6, .inr (.inr (.inr (.inr gf))))) := k15 _ _ a140 
          have a142 : f19 fm = some (.inl (cy 4, 6, .inr (.inr (.inr (.inr gf))))) := k21 _ _ a141 
          have a143 : f27 fm = some (.inl (cy 4, 6, .inr (.inr (.inr (.inr gf))))) := (k29 _ (z_nn u26 a142)).trans a142
          have a144 : f32 fm = some (.inl (cy 4, 6, .inr (.inr (.inr (.inr gf))))) := (k34 _ (z_nn u31 a143)).trans a143
          have a145 : f35 fm = some (.inl (cy 4, 6, .inr (.inr (.inr (.inr gf))))) := (k37 _ (z_nn u31 a143)).trans a144
          have a146 : f38 fm = some (.inl (cy 4, 6, .inr (.inr (.inr (.inr gf))))) := (k40 _ (z_nn u31 a143)).trans a145
          have a147 : f44 fm = some (.inl (cy 4, 6, .inr (.inr (.inr (.inr gf))))) := k47 _ _ a146 (z_nn u26 a142)
          have a148 : f91 fm = some (.inl (cy 4, 6, .inr (.inr (.inr (.inr gf))))) := k103 _ _ a147 (z_ne a147 a53 rfl) (z_ne a147 a62 rfl) (z_ne a147 a71 rfl) (z_nn u26 a142) (fun j9 h8 => (z_ne a147 (F81 j9 h8) rfl))
          have a149 : f1 co = some (.inl (cy 5, 60, .inr (.inr (.inr (.inr gc))))) := k4 _ _ x_co (z_ne x_co x_fa rfl)
          have a150 : f7 co = some (.inl (cy 5, 60, .inr (.inr (.inr (.inr gc))))) := k9 _ _ a149 
          have a151 : f13 co = some (.inl (cy 5, 60, .inr (.inr (.inr (.inr gc))))) := k15 _ _ a150 
          have a152 : f19 co = some (.inl (cy 5, 60, .inr (.inr (.inr (.inr gc))))) := k21 _ _ a151 
          have a153 : f27 co = some (.inl (cy 5, 60, .inr (.inr (.inr (.inr gc))))) := (k29 _ (z_nn u26 a152)).trans a152
          have a154 : f32 co = some (.inl (cy 5, 60, .inr (.inr (.inr (.inr gc))))) := (k34 _ (z_nn u31 a153)).trans a153
          have a155 : f35 co = some (.inl (cy 5, 60, .inr (.inr (.inr (.inr gc))))) := (k37 _ (z_nn u31 a153)).trans a154
          have a156 : f38 co = some (.inl (cy 5, 60, .inr (.inr (.inr (.inr gc))))) := (k40 _ (z_nn u31 a153)).trans a155
          have a157 : f44 co = some (.inl (cy 5, 60, .inr (.inr (.inr (.inr gc))))) := k47 _ _ a156 (z_nn u26 a152)
          have a158 : f91 co = some (.inl (cy 5, 60, .inr (.inr (.inr (.inr gc))))) := k103 _ _ a157 (z_ne a157 a53 rfl) hca hcr (z_nn u26 a152) (fun j9 h8 => (z_ne a157 (F81 j9 h8) rfl))
          have a159 : f1 en = some (.inl (cy 6, 4, .inr (.inr (.inr (.inr ge))))) := k4 _ _ x_en (z_ne x_en x_fa rfl)
          have a160 : f7 en = some (.inl (cy 6, 4, .inr (.inr (.inr (.inr ge))))) := k9 _ _ a159 
          have a161 : f13 en = some (.inl (cy 6, 4, .inr (.inr (.inr (.inr ge))))) := k15 _ _ a160 
          have a162 : f19 en = some (.inl (cy 6, 4, .inr (.inr (.inr (.inr ge))))) := k21 _ _ a161 
          have a163 : f27 en = some (.inl (cy 6, 4, .inr (.inr (.inr (.inr ge))))) := (k29 _ (z_nn u26 a162)).trans a162
          have a164 : f32 en = some (.inl (cy 6, 4, .inr (.inr (.inr (.inr ge))))) := (k34 _ (z_nn u31 a163)).trans a163
          have a165 : f35 en = some (.inl (cy 6, 4, .inr (.inr (.inr (.inr ge))))) := (k37 _ (z_nn u31 a163)).trans a164
          have a166 : f38 en = some (.inl (cy 6, 4, .inr (.inr (.inr (.inr ge))))) := (k40 _ (z_nn u31 a163)).trans a165
          have a167 : f44 en = some (.inl (cy 6, 4, .inr (.inr (.inr (.inr ge))))) := k47 _ _ a166 (z_nn u26 a162)
          have a168 : f91 en = some (.inl (cy 6, 4, .inr (.inr (.inr (.inr ge))))) := k103 _ _ a167 (z_ne a167 a53 rfl) (z_ne a167 a62 rfl) (z_ne a167 a71 rfl) (z_nn u26 a162) (fun j9 h8 => (z_ne a167 (F81 j9 h8) rfl))
          have a169 : f1 ke = some (.inr (6, [.ref kn, .ref vq, .int (nI ks)])) := k4 _ _ x_ke (z_ne x_ke x_fa rfl)
          have a170 : f7 ke = some (.inr (6, [.ref kn, .ref vq, .int (nI ks)])) := k9 _ _ a169 
          have a171 : f13 ke = some (.inr (6, [.ref kn, .ref vq, .int (nI ks)])) := k15 _ _ a170 
          have a172 : f19 ke = some (.inr (6, [.ref kn, .ref vq, .int (nI ks)])) := k21 _ _ a171 
          have a173 : f27 ke = some (.inr (6, [.ref kn, .ref vq, .int (nI ks)])) := (k29 _ (z_nn u26 a172)).trans a172
          have a174 : f32 ke = some (.inr (6, [.ref kn, .ref vq, .int (nI ks)])) := (k34 _ (z_nn u31 a173)).trans a173
          have a175 : f35 ke = some (.inr (6, [.ref kn, .ref vq, .int (nI ks)])) := (k37 _ (z_nn u31 a173)).trans a174
          have a176 : f38 ke = some (.inr (6, [.ref kn, .ref vq, .int (nI ks)])) := (k40 _ (z_nn u31 a173)).trans a175
          have a177 : f44 ke = some (.inr (6, [.ref kn, .ref vq, .int (nI ks)])) := k47 _ _ a176 (z_nn u26 a172)
          have a178 : f91 ke = some (.inr (6, [.ref kn, .ref vq, .int (nI ks)])) := k103 _ _ a177 (z_ne a177 a53 rfl) (z_ne a177 a62 rfl) (z_ne a177 a71 rfl) (z_nn u26 a172) (fun j9 h8 => (z_ne a177 (F81 j9 h8) rfl))
          have a179 : f1 kn = some (.inl (cy 0, 40, .inl kk)) := k4 _ _ x_kn (z_ne x_kn x_fa rfl)
          have a180 : f7 kn = some (.inl (cy 0, 40, .inl kk)) := k9 _ _ a179 
          have a181 : f13 kn = some (.inl (cy 0, 40, .inl kk)) := k15 _ _ a180 
          have a182 : f19 kn = some (.inl (cy 0, 40, .inl kk)) := k21 _ _ a181 
          have a183 : f27 kn = some (.inl (cy 0, 40, .inl kk)) := (k29 _ (z_nn u26 a182)).trans a182
          have a184 : f32 kn = some (.inl (cy 0, 40, .inl kk)) := (k34 _ (z_nn u31 a183)).trans a183
          have a185 : f35 kn = some (.inl (cy 0, 40, .inl kk)) := (k37 _ (z_nn u31 a183)).trans a184
          have a186 : f38 kn = some (.inl (cy 0, 40, .inl kk)) := (k40 _ (z_nn u31 a183)).trans a185
          have a187 : f44 kn = some (.inl (cy 0, 40, .inl kk)) := k47 _ _ a186 (z_nn u26 a182)
          have a188 : f91 kn = some (.inl (cy 0, 40, .inl kk)) := k103 _ _ a187 (z_ne a187 a53 rfl) (z_ne a187 a62 rfl) (z_ne a187 a71 rfl) (z_nn u26 a182) (fun j9 h8 => (z_ne a187 (F81 j9 h8) rfl))
          have a189 : f1 vq = some (.inl (cy 0, 40, .inl kv)) := k4 _ _ x_vq (z_ne x_vq x_fa rfl)
          have a190 : f7 vq = some (.inl (cy 0, 40, .inl kv)) := k9 _ _ a189 
          have a191 : f13 vq = some (.inl (cy 0, 40, .inl kv)) := k15 _ _ a190 
          have a192 : f19 vq = some (.inl (cy 0, 40, .inl kv)) := k21 _ _ a191 
          have a193 : f27 vq = some (.inl (cy 0, 40, .inl kv)) := (k29 _ (z_nn u26 a192)).trans a192
          have a194 : f32 vq = some (.inl (cy 0, 40, .inl kv)) := (k34 _ (z_nn u31 a193)).trans a193
          have a195 : f35 vq = some (.inl (cy 0, 40, .inl kv)) := (k37 _ (z_nn u31 a193)).trans a194
          have a196 : f38 vq = some (.inl (cy 0, 40, .inl kv)) := (k40 _ (z_nn u31 a193)).trans a195
          have a197 : f44 vq = some (.inl (cy 0, 40, .inl kv)) := k47 _ _ a196 (z_nn u26 a192)
          have a198 : f91 vq = some (.inl (cy 0, 40, .inl kv)) := k103 _ _ a197 (z_ne a197 a53 rfl) (z_ne a197 a62 rfl) (z_ne a197 a71 rfl) (z_nn u26 a192) (fun j9 h8 => (z_ne a197 (F81 j9 h8) rfl))
          have F199 : ∀ i9 : Nat, i9 < nf → f1 (fq i9) = some (.inr (3, [.ref (fk i9), .int (nI (fz i9))])) := fun i9 h9 => k4 _ _ (hFq i9 h9) (z_ne (hFq i9 h9) x_fa rfl)
          have F200 : ∀ i9 : Nat, i9 < nf → f7 (fq i9) = some (.inr (3, [.ref (fk i9), .int (nI (fz i9))])) := fun i9 h9 => k9 _ _ (F199 i9 h9) 
          have F201 : ∀ i9 : Nat, i9 < nf → f13 (fq i9) = some (.inr (3, [.ref (fk i9), .int (nI (fz i9))])) := fun i9 h9 => k15 _ _ (F200 i9 h9) 
          have F202 : ∀ i9 : Nat, i9 < nf → f19 (fq i9) = some (.inr (3, [.ref (fk i9), .int (nI (fz i9))])) := fun i9 h9 => k21 _ _ (F201 i9 h9) 
          have F203 : ∀ i9 : Nat, i9 < nf → f27 (fq i9) = some (.inr (3, [.ref (fk i9), .int (nI (fz i9))])) := fun i9 h9 => (k29 _ (z_nn u26 (F202 i9 h9))).trans (F202 i9 h9)
          have F204 : ∀ i9 : Nat, i9 < nf → f32 (fq i9) = some (.inr (3, [.ref (fk i9), .int (nI (fz i9))])) := fun i9 h9 => (k34 _ (z_nn u31 (F203 i9 h9))).trans (F203 i9 h9)
          have F205 : ∀ i9 : Nat, i9 < nf → f35 (fq i9) = some (.inr (3, [.ref (fk i9), .int (nI (fz i9))])) := fun i9 h9 => (k37 _ (z_nn u31 (F203 i9 h9))).trans (F204 i9 h9)
          have F206 : ∀ i9 : Nat, i9 < nf → f38 (fq i9) = some (.inr (3, [.ref (fk i9), .int (nI (fz i9))])) := fun i9 h9 => (k40 _ (z_nn u31 (F203 i9 h9))).trans (F205 i9 h9)
          have F207 : ∀ i9 : Nat, i9 < nf → f44 (fq i9) = some (.inr (3, [.ref (fk i9), .int (nI (fz i9))])) := fun i9 h9 => k47 _ _ (F206 i9 h9) (z_nn u26 (F202 i9 h9))
          have F208 : ∀ i9 : Nat, i9 < nf → f91 (fq i9) = some (.inr (3, [.ref (fk i9), .int (nI (fz i9))])) := fun i9 h9 => k103 _ _ (F207 i9 h9) (z_ne (F207 i9 h9) a53 rfl) (z_ne (F207 i9 h9) a62 rfl) (z_ne (F207 i9 h9) a71 rfl) (z_nn u26 (F202 i9 h9)) (fun j9 h8 => (z_ne (F207 i9 h9) (F81 j9 h8) rfl))
          have F209 : ∀ i9 : Nat, i9 < nf → f1 (fk i9) = some (.inl (cy 0, 4, .inl (fc i9))) := fun i9 h9 => k4 _ _ (hFk i9 h9) (z_ne (hFk i9 h9) x_fa rfl)
          have F210 : ∀ i9 : Nat, i9 < nf → f7 (fk i9) = some (.inl (cy 0, 4, .inl (fc i9))) := fun i9 h9 => k9 _ _ (F209 i9 h9) 
          have F211 : ∀ i9 : Nat, i9 < nf → f13 (fk i9) = some (.inl (cy 0, 4, .inl (fc i9))) := fun i9 h9 => k15 _ _ (F210 i9 h9) 
          have F212 : ∀ i9 : Nat, i9 < nf → f19 (fk i9) = some (.inl (cy 0, 4, .inl (fc i9))) := fun i9 h9 => k21 _ _ (F211 i9 h9) 
          have F213 : ∀ i9 : Nat, i9 < nf → f27 (fk i9) = some (.inl (cy 0, 4, .inl (fc i9))) := fun i9 h9 => (k29 _ (z_nn u26 (F212 i9 h9))).trans (F212 i9 h9)
          have F214 : ∀ i9 : Nat, i9 < nf → f32 (fk i9) = some (.inl (cy 0, 4, .inl (fc i9))) := fun i9 h9 => (k34 _ (z_nn u31 (F213 i9 h9))).trans (F213 i9 h9)
          have F215 : ∀ i9 : Nat, i9 < nf → f35 (fk i9) = some (.inl (cy 0, 4, .inl (fc i9))) := fun i9 h9 => (k37 _ (z_nn u31 (F213 i9 h9))).trans (F214 i9 h9)
          have F216 : ∀ i9 : Nat, i9 < nf → f38 (fk i9) = some (.inl (cy 0, 4, .inl (fc i9))) := fun i9 h9 => (k40 _ (z_nn u31 (F213 i9 h9))).trans (F215 i9 h9)
          have F217 : ∀ i9 : Nat, i9 < nf → f44 (fk i9) = some (.inl (cy 0, 4, .inl (fc i9))) := fun i9 h9 => k47 _ _ (F216 i9 h9) (z_nn u26 (F212 i9 h9))
          have F218 : ∀ i9 : Nat, i9 < nf → f91 (fk i9) = some (.inl (cy 0, 4, .inl (fc i9))) := fun i9 h9 => k103 _ _ (F217 i9 h9) (z_ne (F217 i9 h9) a53 rfl) (z_ne (F217 i9 h9) a62 rfl) (z_ne (F217 i9 h9) a71 rfl) (z_nn u26 (F212 i9 h9)) (fun j9 h8 => (z_ne (F217 i9 h9) (F81 j9 h8) rfl))
          have F219 : ∀ i9 : Nat, i9 < nc → f1 (cn i9) = some (.inr (0, [.int (ce i9), .int (cm i9)])) := fun i9 h9 => k4 _ _ (hCn i9 h9) (z_ne (hCn i9 h9) x_fa rfl)
          have F220 : ∀ i9 : Nat, i9 < nc → f7 (cn i9) = some (.inr (0, [.int (ce i9), .int (cm i9)])) := fun i9 h9 => k9 _ _ (F219 i9 h9) 
          have F221 : ∀ i9 : Nat, i9 < nc → f13 (cn i9) = some (.inr (0, [.int (ce i9), .int (cm i9)])) := fun i9 h9 => k15 _ _ (F220 i9 h9) 
          have F222 : ∀ i9 : Nat, i9 < nc → f19 (cn i9) = some (.inr (0, [.int (ce i9), .int (cm i9)])) := fun i9 h9 => k21 _ _ (F221 i9 h9) 
          have F223 : ∀ i9 : Nat, i9 < nc → f27 (cn i9) = some (.inr (0, [.int (ce i9), .int (cm i9)])) := fun i9 h9 => (k29 _ (z_nn u26 (F222 i9 h9))).trans (F222 i9 h9)
          have F224 : ∀ i9 : Nat, i9 < nc → f32 (cn i9) = some (.inr (0, [.int (ce i9), .int (cm i9)])) := fun i9 h9 => (k34 _ (z_nn u31 (F223 i9 h9))).trans (F223 i9 h9)
          have F225 : ∀ i9 : Nat, i9 < nc → f35 (cn i9) = some (.inr (0, [.int (ce i9), .int (cm i9)])) := fun i9 h9 => (k37 _ (z_nn u31 (F223 i9 h9))).trans (F224 i9 h9)
          have F226 : ∀ i9 : Nat, i9 < nc → f38 (cn i9) = some (.inr (0, [.int (ce i9), .int (cm i9)])) := fun i9 h9 => (k40 _ (z_nn u31 (F223 i9 h9))).trans (F225 i9 h9)
          have F227 : ∀ i9 : Nat, i9 < nc → f44 (cn i9) = some (.inr (0, [.int (ce i9), .int (cm i9)])) := fun i9 h9 => k47 _ _ (F226 i9 h9) (z_nn u26 (F222 i9 h9))
          have F228 : ∀ i9 : Nat, i9 < nc → f91 (cn i9) = some (.inr (0, [.int (ce i9), .int (cm i9)])) := fun i9 h9 => k103 _ _ (F227 i9 h9) (z_ne (F227 i9 h9) a53 rfl) (z_ne (F227 i9 h9) a62 rfl) (z_ne (F227 i9 h9) a71 rfl) (z_nn u26 (F222 i9 h9)) (fun j9 h8 => (z_ne (F227 i9 h9) (F81 j9 h8) rfl))
          have F229 : ∀ i9 : Nat, i9 < 4 → f1 (ea i9) = some (.inr (1, [.ref (ma i9), .int (nI (sq i9))])) := fun i9 h9 => k4 _ _ (hEa i9 h9) (z_ne (hEa i9 h9) x_fa rfl)
          have F230 : ∀ i9 : Nat, i9 < 4 → f7 (ea i9) = some (.inr (1, [.ref (ma i9), .int (nI (sq i9))])) := fun i9 h9 => k9 _ _ (F229 i9 h9) 
          have F231 : ∀ i9 : Nat, i9 < 4 → f13 (ea i9) = some (.inr (1, [.ref (ma i9), .int (nI (sq i9))])) := fun i9 h9 => k15 _ _ (F230 i9 h9) 
          have F232 : ∀ i9 : Nat, i9 < 4 → f19 (ea i9) = some (.inr (1, [.ref (ma i9), .int (nI (sq i9))])) := fun i9 h9 => k21 _ _ (F231 i9 h9) 
          have F233 : ∀ i9 : Nat, i9 < 4 → f27 (ea i9) = some (.inr (1, [.ref (ma i9), .int (nI (sq i9))])) := fun i9 h9 => (k29 _ (z_nn u26 (F232 i9 h9))).trans (F232 i9 h9)
          have F234 : ∀ i9 : Nat, i9 < 4 → f32 (ea i9) = some (.inr (1, [.ref (ma i9), .int (nI (sq i9))])) := fun i9 h9 => (k34 _ (z_nn u31 (F233 i9 h9))).trans (F233 i9 h9)
          have F235 : ∀ i9 : Nat, i9 < 4 → f35 (ea i9) = some (.inr (1, [.ref (ma i9), .int (nI (sq i9))])) := fun i9 h9 => (k37 _ (z_nn u31 (F233 i9 h9))).trans (F234 i9 h9)
          have F236 : ∀ i9 : Nat, i9 < 4 → f38 (ea i9) = some (.inr (1, [.ref (ma i9), .int (nI (sq i9))])) := fun i9 h9 => (k40 _ (z_nn u31 (F233 i9 h9))).trans (F235 i9 h9)
          have F237 : ∀ i9 : Nat, i9 < 4 → f44 (ea i9) = some (.inr (1, [.ref (ma i9), .int (nI (sq i9))])) := fun i9 h9 => k47 _ _ (F236 i9 h9) (z_nn u26 (F232 i9 h9))
          have F238 : ∀ i9 : Nat, i9 < 4 → f91 (ea i9) = some (.inr (1, [.ref (ma i9), .int (nI (sq i9))])) := fun i9 h9 => k103 _ _ (F237 i9 h9) (z_ne (F237 i9 h9) a53 rfl) (z_ne (F237 i9 h9) a62 rfl) (z_ne (F237 i9 h9) a71 rfl) (z_nn u26 (F232 i9 h9)) (fun j9 h8 => (z_ne (F237 i9 h9) (F81 j9 h8) rfl))
          have F239 : ∀ i9 : Nat, i9 < 4 → f1 (ma i9) = some (.inl (cy 0, 60, .inl (mb i9))) := fun i9 h9 => k4 _ _ (hMa i9 h9) (z_ne (hMa i9 h9) x_fa rfl)
          have F240 : ∀ i9 : Nat, i9 < 4 → f7 (ma i9) = some (.inl (cy 0, 60, .inl (mb i9))) := fun i9 h9 => k9 _ _ (F239 i9 h9) 
          have F241 : ∀ i9 : Nat, i9 < 4 → f13 (ma i9) = some (.inl (cy 0, 60, .inl (mb i9))) := fun i9 h9 => k15 _ _ (F240 i9 h9) 
          have F242 : ∀ i9 : Nat, i9 < 4 → f19 (ma i9) = some (.inl (cy 0, 60, .inl (mb i9))) := fun i9 h9 => k21 _ _ (F241 i9 h9) 
          have F243 : ∀ i9 : Nat, i9 < 4 → f27 (ma i9) = some (.inl (cy 0, 60, .inl (mb i9))) := fun i9 h9 => (k29 _ (z_nn u26 (F242 i9 h9))).trans (F242 i9 h9)
          have F244 : ∀ i9 : Nat, i9 < 4 → f32 (ma i9) = some (.inl (cy 0, 60, .inl (mb i9))) := fun i9 h9 => (k34 _ (z_nn u31 (F243 i9 h9))).trans (F243 i9 h9)
          have F245 : ∀ i9 : Nat, i9 < 4 → f35 (ma i9) = some (.inl (cy 0, 60, .inl (mb i9))) := fun i9 h9 => (k37 _ (z_nn u31 (F243 i9 h9))).trans (F244 i9 h9)
          have F246 : ∀ i9 : Nat, i9 < 4 → f38 (ma i9) = some (.inl (cy 0, 60, .inl (mb i9))) := fun i9 h9 => (k40 _ (z_nn u31 (F243 i9 h9))).trans (F245 i9 h9)
          have F247 : ∀ i9 : Nat, i9 < 4 → f44 (ma i9) = some (.inl (cy 0, 60, .inl (mb i9))) := fun i9 h9 => k47 _ _ (F246 i9 h9) (z_nn u26 (F242 i9 h9))
          have F248 : ∀ i9 : Nat, i9 < 4 → f91 (ma i9) = some (.inl (cy 0, 60, .inl (mb i9))) := fun i9 h9 => k103 _ _ (F247 i9 h9) (z_ne (F247 i9 h9) a53 rfl) (z_ne (F247 i9 h9) a62 rfl) (z_ne (F247 i9 h9) a71 rfl) (z_nn u26 (F242 i9 h9)) (fun j9 h8 => (z_ne (F247 i9 h9) (F81 j9 h8) rfl))
          exact z_iret C hr rfl hz hS ⟨0, (-1), 0, gv, nl, gu, (nn + 1), (va_up ga nn (some q25)), gr_95, (va_up fg nn q25), (va_up pt nn q30), (va_up kd nn 4), (va_up ln nn 2), (va_up pp nn (vp_updL (vp_updL (fun _ => 0) 0 x.toInt64) 1 y.toInt64)), (va_up wg nn 0), (va_up wd nn 0), (va_up hs nn hq_93), (va_up bf_96 nn bq_94), nf, gf, fq, fk, fz, fc, nc, gc, cn, ce, cm, sq, mb, ks, kk, kv, lk, rfl, (by rw [if_pos (nI_pos' (by omega))]), ⟨a109, a118, a128, a98, a99, a100, a138, a148, a158, a168, a178, a188, a198, F101, F102, F208, F218, F228, F238, F248, (by omega), hl12, hf6, hc60, hs40, (z_ga1 hga), (z_gr1 p97), (z_up1 (P := fun _ a9 => a9 ≤ 15) hln (by omega)), (z_up2 (P := fun (a9 : Int32) (b9 : Nat) => a9 = 5 → 3 ≤ b9) hk5 (fun h9 => absurd h9 (by decide))), (z_up2 (P := fun (a9 : Int32) (b9 : Nat) => a9 = 4 → 2 ≤ b9) hk4 (fun _ => by omega)), (z_inj1 hfi (fun j9 h9 => z_nn u26 (F76 j9 h9))), (z_inj1 hpi (fun j9 h9 => z_nn u31 (F86 j9 h9))), har, hgf, hfz, hgc, hG, hsq, hei, hmi, kne, hca, hcr, hlk⟩⟩ (Nat.le_of_ble_eq_true rfl) (Nat.le_of_ble_eq_true rfl) dX7_pair_89
        · refine lv_aload_n hx hb dX7_pair_50 rfl (lv_at hl 0 rfl) ?_
          have a249 : f19 o = some (.inr (7, [.ref fa, .ref fi, .ref nu, .int (nI nl), .ref fm, .int (nI nf), .ref co, .int (nI nc), .ref en, .ref ke, .long lk])) := k21 _ _ a17 
          refine z_get (v := .ref fa) C hz a249 zl7 mFX7_10 (by decide) rfl dX7_pair_51 ?_
          refine lv_iconst (v := 1) hx hb dX7_pair_54 (by decide) ?_
          refine lv_iconst (v := 0) hx hb dX7_pair_55 (by decide) ?_
          have a250 : f7 fa = some (.inr (2, [.int 0, .int (-1), .int 0, .ref ev])) := k9 _ _ a3 
          have a251 : f13 fa = some (.inr (2, [.int 0, .int (-1), .int 0, .ref ev])) := k15 _ _ a250 
          have a252 : f19 fa = some (.inr (2, [.int 0, .int (-1), .int 0, .ref ev])) := k21 _ _ a251 
          have a253 : f1 ev = some (.inl (cy 0, 8, .inl gv)) := k4 _ _ x_ev (z_ne x_ev x_fa rfl)
          have a254 : f7 ev = some (.inl (cy 0, 8, .inl gv)) := k9 _ _ a253 
          have a255 : f13 ev = some (.inl (cy 0, 8, .inl gv)) := k15 _ _ a254 
          have a256 : f19 ev = some (.inl (cy 0, 8, .inl gv)) := k21 _ _ a255 
          refine z_callVi (As := [.int 1, .int 0]) C hz hS hA hl (k_X2_inPart l D cy f19 fa 1 0 0 (-1) 0 ev gv 1 a252 a256 (by decide) (Nat.le_of_ble_eq_true rfl)) zyX2_inPart mMX7_104 a252 zl2 rfl rfl (Nat.le_of_ble_eq_true rfl) ⟨Nat.le_of_ble_eq_true rfl, Nat.le_of_ble_eq_true rfl⟩ ⟨Nat.le_of_ble_eq_true rfl, Nat.le_of_ble_eq_true rfl⟩ dX7_pair_56 (fun r f257 H locs h258 hz hS => ?_)
          obtain ⟨rfl, a259, a260, k261⟩ := h258
          have a262 : f257 o = some (.inr (7, [.ref fa, .ref fi, .ref nu, .int (nI nl), .ref fm, .int (nI nf), .ref co, .int (nI nc), .ref en, .ref ke, .long lk])) := k261 _ _ a249 (z_ne a249 a252 rfl) (z_ne a249 a256 rfl)
          have a263 : f19 fi = some (.inr (5, [.ref al, .ref ra, .int (nI nn)])) := k21 _ _ a18 
          have a264 : f257 fi = some (.inr (5, [.ref al, .ref ra, .int (nI nn)])) := k261 _ _ a263 (z_ne a263 a252 rfl) (z_ne a263 a256 rfl)
          have a265 : f1 al = some (.inl (cy 3, 60, .inr (.inr (.inr (.inr ga))))) := k4 _ _ x_al (z_ne x_al x_fa rfl)
          have a266 : f7 al = some (.inl (cy 3, 60, .inr (.inr (.inr (.inr ga))))) := k9 _ _ a265 
          have a267 : f13 al = some (.inl (cy 3, 60, .inr (.inr (.inr (.inr ga))))) := k15 _ _ a266 
          have a268 : f19 al = some (.inl (cy 3, 60, .inr (.inr (.inr (.inr ga))))) := k21 _ _ a267 
          have a269 : f257 al = some (.inl (cy 3, 60, .inr (.inr (.inr (.inr ga))))) := k261 _ _ a268 (z_ne a268 a252 rfl) (z_ne a268 a256 rfl)
          have a270 : f1 ra = some (.inl (cy 3, 60, .inr (.inr (.inr (.inr gr))))) := k4 _ _ x_ra (z_ne x_ra x_fa rfl)
          have a271 : f7 ra = some (.inl (cy 3, 60, .inr (.inr (.inr (.inr gr))))) := k9 _ _ a270 
          have a272 : f13 ra = some (.inl (cy 3, 60, .inr (.inr (.inr (.inr gr))))) := k15 _ _ a271 
          have a273 : f19 ra = some (.inl (cy 3, 60, .inr (.inr (.inr (.inr gr))))) := k21 _ _ a272 
          have a274 : f257 ra = some (.inl (cy 3, 60, .inr (.inr (.inr (.inr gr))))) := k261 _ _ a273 (z_ne a273 a252 rfl) (z_ne a273 a256 rfl)
          have a275 : f1 nu = some (.inl (cy 0, 12, .inl gu)) := k4 _ _ x_nu (z_ne x_nu x_fa rfl)
          have a276 : f7 nu = some (.inl (cy 0, 12, .inl gu)) := k9 _ _ a275 
          have a277 : f13 nu = some (.inl (cy 0, 12, .inl gu)) := k15 _ _ a276 
          have a278 : f19 nu = some (.inl (cy 0, 12, .inl gu)) := k21 _ _ a277 
          have a279 : f257 nu = some (.inl (cy 0, 12, .inl gu)) := k261 _ _ a278 (z_ne a278 a252 rfl) (z_ne a278 a256 rfl)
          have a280 : f1 fm = some (.inl (cy 4, 6, .inr (.inr (.inr (.inr gf))))) := k4 _ _ x_fm (z_ne x_fm x_fa rfl)
          have a281 : f7 fm = some (.inl (cy 4, 6, .inr (.inr (.inr (.inr gf))))) := k9 _ _ a280 
          have a282 : f13 fm = some (.inl (cy 4, 6, .inr (.inr (.inr (.inr gf))))) := k15 _ _ a281 
          have a283 : f19 fm = some (.inl (cy 4, 6, .inr (.inr (.inr (.inr gf))))) := k21 _ _ a282 
          have a284 : f257 fm = some (.inl (cy 4, 6, .inr (.inr (.inr (.inr gf))))) := k261 _ _ a283 (z_ne a283 a252 rfl) (z_ne a283 a256 rfl)
          have a285 : f1 co = some (.inl (cy 5, 60, .inr (.inr (.inr (.inr gc))))) := k4 _ _ x_co (z_ne x_co x_fa rfl)
          have a286 : f7 co = some (.inl (cy 5, 60, .inr (.inr (.inr (.inr gc))))) := k9 _ _ a285 
          have a287 : f13 co = some (.inl (cy 5, 60, .inr (.inr (.inr (.inr gc))))) := k15 _ _ a286 
          have a288 : f19 co = some (.inl (cy 5, 60, .inr (.inr (.inr (.inr gc))))) := k21 _ _ a287 
          have a289 : f257 co = some (.inl (cy 5, 60, .inr (.inr (.inr (.inr gc))))) := k261 _ _ a288 (z_ne a288 a252 rfl) (z_ne a288 a256 rfl)
          have a290 : f1 en = some (.inl (cy 6, 4, .inr (.inr (.inr (.inr ge))))) := k4 _ _ x_en (z_ne x_en x_fa rfl)
          have a291 : f7 en = some (.inl (cy 6, 4, .inr (.inr (.inr (.inr ge))))) := k9 _ _ a290 
          have a292 : f13 en = some (.inl (cy 6, 4, .inr (.inr (.inr (.inr ge))))) := k15 _ _ a291 
          have a293 : f19 en = some (.inl (cy 6, 4, .inr (.inr (.inr (.inr ge))))) := k21 _ _ a292 
          have a294 : f257 en = some (.inl (cy 6, 4, .inr (.inr (.inr (.inr ge))))) := k261 _ _ a293 (z_ne a293 a252 rfl) (z_ne a293 a256 rfl)
          have a295 : f1 ke = some (.inr (6, [.ref kn, .ref vq, .int (nI ks)])) := k4 _ _ x_ke (z_ne x_ke x_fa rfl)
          have a296 : f7 ke = some (.inr (6, [.ref kn, .ref vq, .int (nI ks)])) := k9 _ _ a295 
          have a297 : f13 ke = some (.inr (6, [.ref kn, .ref vq, .int (nI ks)])) := k15 _ _ a296 
          have a298 : f19 ke = some (.inr (6, [.ref kn, .ref vq, .int (nI ks)])) := k21 _ _ a297 
          have a299 : f257 ke = some (.inr (6, [.ref kn, .ref vq, .int (nI ks)])) := k261 _ _ a298 (z_ne a298 a252 rfl) (z_ne a298 a256 rfl)
          have a300 : f1 kn = some (.inl (cy 0, 40, .inl kk)) := k4 _ _ x_kn (z_ne x_kn x_fa rfl)
          have a301 : f7 kn = some (.inl (cy 0, 40, .inl kk)) := k9 _ _ a300 
          have a302 : f13 kn = some (.inl (cy 0, 40, .inl kk)) := k15 _ _ a301 
          have a303 : f19 kn = some (.inl (cy 0, 40, .inl kk)) := k21 _ _ a302 
          have a304 : f257 kn = some (.inl (cy 0, 40, .inl kk)) := k261 _ _ a303 (z_ne a303 a252 rfl) (z_ne a303 a256 rfl)
          have a305 : f1 vq = some (.inl (cy 0, 40, .inl kv)) := k4 _ _ x_vq (z_ne x_vq x_fa rfl)
          have a306 : f7 vq = some (.inl (cy 0, 40, .inl kv)) := k9 _ _ a305 
          have a307 : f13 vq = some (.inl (cy 0, 40, .inl kv)) := k15 _ _ a306 
          have a308 : f19 vq = some (.inl (cy 0, 40, .inl kv)) := k21 _ _ a307 
          have a309 : f257 vq = some (.inl (cy 0, 40, .inl kv)) := k261 _ _ a308 (z_ne a308 a252 rfl) (z_ne a308 a256 rfl)
          have F310 : ∀ i9 : Nat, i9 < nn → f1 (fg i9) = some (.inr (4, [.int (kd i9), .ref (pt i9), .long (wg i9), .int (wd i9), .int (nI i9), .int (hs i9), .int (bf i9)])) := fun i9 h9 => k4 _ _ (hF i9 h9) (z_ne (hF i9 h9) x_fa rfl)
          have F311 : ∀ i9 : Nat, i9 < nn → f7 (fg i9) = some (.inr (4, [.int (kd i9), .ref (pt i9), .long (wg i9), .int (wd i9), .int (nI i9), .int (hs i9), .int (bf i9)])) := fun i9 h9 => k9 _ _ (F310 i9 h9) 
          have F312 : ∀ i9 : Nat, i9 < nn → f13 (fg i9) = some (.inr (4, [.int (kd i9), .ref (pt i9), .long (wg i9), .int (wd i9), .int (nI i9), .int (hs i9), .int (bf i9)])) := fun i9 h9 => k15 _ _ (F311 i9 h9) 
          have F313 : ∀ i9 : Nat, i9 < nn → f19 (fg i9) = some (.inr (4, [.int (kd i9), .ref (pt i9), .long (wg i9), .int (wd i9), .int (nI i9), .int (hs i9), .int (bf i9)])) := fun i9 h9 => k21 _ _ (F312 i9 h9) 
          have F314 : ∀ i9 : Nat, i9 < nn → f257 (fg i9) = some (.inr (4, [.int (kd i9), .ref (pt i9), .long (wg i9), .int (wd i9), .int (nI i9), .int (hs i9), .int (bf i9)])) := fun i9 h9 => k261 _ _ (F313 i9 h9) (z_ne (F313 i9 h9) a252 rfl) (z_ne (F313 i9 h9) a256 rfl)
          have F315 : ∀ i9 : Nat, i9 < nn → f1 (pt i9) = some (.inl (cy 1, (ln i9), .inr (.inl (pp i9)))) := fun i9 h9 => k4 _ _ (hP i9 h9) (z_neO (hP i9 h9) x_fa rfl)
          have F316 : ∀ i9 : Nat, i9 < nn → f7 (pt i9) = some (.inl (cy 1, (ln i9), .inr (.inl (pp i9)))) := fun i9 h9 => k9 _ _ (F315 i9 h9) 
          have F317 : ∀ i9 : Nat, i9 < nn → f13 (pt i9) = some (.inl (cy 1, (ln i9), .inr (.inl (pp i9)))) := fun i9 h9 => k15 _ _ (F316 i9 h9) 
          have F318 : ∀ i9 : Nat, i9 < nn → f19 (pt i9) = some (.inl (cy 1, (ln i9), .inr (.inl (pp i9)))) := fun i9 h9 => k21 _ _ (F317 i9 h9) 
          have F319 : ∀ i9 : Nat, i9 < nn → f257 (pt i9) = some (.inl (cy 1, (ln i9), .inr (.inl (pp i9)))) := fun i9 h9 => k261 _ _ (F318 i9 h9) (z_neO (F318 i9 h9) a252 rfl) (z_neA (F318 i9 h9) a256 rfl)
          have F320 : ∀ i9 : Nat, i9 < nf → f1 (fq i9) = some (.inr (3, [.ref (fk i9), .int (nI (fz i9))])) := fun i9 h9 => k4 _ _ (hFq i9 h9) (z_ne (hFq i9 h9) x_fa rfl)
          have F321 : ∀ i9 : Nat, i9 < nf → f7 (fq i9) = some (.inr (3, [.ref (fk i9), .int (nI (fz i9))])) := fun i9 h9 => k9 _ _ (F320 i9 h9) 
          have F322 : ∀ i9 : Nat, i9 < nf → f13 (fq i9) = some (.inr (3, [.ref (fk i9), .int (nI (fz i9))])) := fun i9 h9 => k15 _ _ (F321 i9 h9) 
          have F323 : ∀ i9 : Nat, i9 < nf → f19 (fq i9) = some (.inr (3, [.ref (fk i9), .int (nI (fz i9))])) := fun i9 h9 => k21 _ _ (F322 i9 h9) 
          have F324 : ∀ i9 : Nat, i9 < nf → f257 (fq i9) = some (.inr (3, [.ref (fk i9), .int (nI (fz i9))])) := fun i9 h9 => k261 _ _ (F323 i9 h9) (z_ne (F323 i9 h9) a252 rfl) (z_ne (F323 i9 h9) a256 rfl)
          have F325 : ∀ i9 : Nat, i9 < nf → f1 (fk i9) = some (.inl (cy 0, 4, .inl (fc i9))) := fun i9 h9 => k4 _ _ (hFk i9 h9) (z_ne (hFk i9 h9) x_fa rfl)
          have F326 : ∀ i9 : Nat, i9 < nf → f7 (fk i9) = some (.inl (cy 0, 4, .inl (fc i9))) := fun i9 h9 => k9 _ _ (F325 i9 h9) 
          have F327 : ∀ i9 : Nat, i9 < nf → f13 (fk i9) = some (.inl (cy 0, 4, .inl (fc i9))) := fun i9 h9 => k15 _ _ (F326 i9 h9) 
          have F328 : ∀ i9 : Nat, i9 < nf → f19 (fk i9) = some (.inl (cy 0, 4, .inl (fc i9))) := fun i9 h9 => k21 _ _ (F327 i9 h9) 
          have F329 : ∀ i9 : Nat, i9 < nf → f257 (fk i9) = some (.inl (cy 0, 4, .inl (fc i9))) := fun i9 h9 => k261 _ _ (F328 i9 h9) (z_ne (F328 i9 h9) a252 rfl) (z_ne (F328 i9 h9) a256 rfl)
          have F330 : ∀ i9 : Nat, i9 < nc → f1 (cn i9) = some (.inr (0, [.int (ce i9), .int (cm i9)])) := fun i9 h9 => k4 _ _ (hCn i9 h9) (z_ne (hCn i9 h9) x_fa rfl)
          have F331 : ∀ i9 : Nat, i9 < nc → f7 (cn i9) = some (.inr (0, [.int (ce i9), .int (cm i9)])) := fun i9 h9 => k9 _ _ (F330 i9 h9) 
          have F332 : ∀ i9 : Nat, i9 < nc → f13 (cn i9) = some (.inr (0, [.int (ce i9), .int (cm i9)])) := fun i9 h9 => k15 _ _ (F331 i9 h9) 
          have F333 : ∀ i9 : Nat, i9 < nc → f19 (cn i9) = some (.inr (0, [.int (ce i9), .int (cm i9)])) := fun i9 h9 => k21 _ _ (F332 i9 h9) 
          have F334 : ∀ i9 : Nat, i9 < nc → f257 (cn i9) = some (.inr (0, [.int (ce i9), .int (cm i9)])) := fun i9 h9 => k261 _ _ (F333 i9 h9) (z_ne (F333 i9 h9) a252 rfl) (z_ne (F333 i9 h9) a256 rfl)
          have F335 : ∀ i9 : Nat, i9 < 4 → f1 (ea i9) = some (.inr (1, [.ref (ma i9), .int (nI (sq i9))])) := fun i9 h9 => k4 _ _ (hEa i9 h9) (z_ne (hEa i9 h9) x_fa rfl)
          have F336 : ∀ i9 : Nat, i9 < 4 → f7 (ea i9) = some (.inr (1, [.ref (ma i9), .int (nI (sq i9))])) := fun i9 h9 => k9 _ _ (F335 i9 h9) 
          have F337 : ∀ i9 : Nat, i9 < 4 → f13 (ea i9) = some (.inr (1, [.ref (ma i9), .int (nI (sq i9))])) := fun i9 h9 => k15 _ _ (F336 i9 h9) 
          have F338 : ∀ i9 : Nat, i9 < 4 → f19 (ea i9) = some (.inr (1, [.ref (ma i9), .int (nI (sq i9))])) := fun i9 h9 => k21 _ _ (F337 i9 h9) 
          have F339 : ∀ i9 : Nat, i9 < 4 → f257 (ea i9) = some (.inr (1, [.ref (ma i9), .int (nI (sq i9))])) := fun i9 h9 => k261 _ _ (F338 i9 h9) (z_ne (F338 i9 h9) a252 rfl) (z_ne (F338 i9 h9) a256 rfl)
          have F340 : ∀ i9 : Nat, i9 < 4 → f1 (ma i9) = some (.inl (cy 0, 60, .inl (mb i9))) := fun i9 h9 => k4 _ _ (hMa i9 h9) (z_ne (hMa i9 h9) x_fa rfl)
          have F341 : ∀ i9 : Nat, i9 < 4 → f7 (ma i9) = some (.inl (cy 0, 60, .inl (mb i9))) := fun i9 h9 => k9 _ _ (F340 i9 h9) 
          have F342 : ∀ i9 : Nat, i9 < 4 → f13 (ma i9) = some (.inl (cy 0, 60, .inl (mb i9))) := fun i9 h9 => k15 _ _ (F341 i9 h9) 
          have F343 : ∀ i9 : Nat, i9 < 4 → f19 (ma i9) = some (.inl (cy 0, 60, .inl (mb i9))) := fun i9 h9 => k21 _ _ (F342 i9 h9) 
          have F344 : ∀ i9 : Nat, i9 < 4 → f257 (ma i9) = some (.inl (cy 0, 60, .inl (mb i9))) := fun i9 h9 => k261 _ _ (F343 i9 h9) (z_ne (F343 i9 h9) a252 rfl) (z_ne (F343 i9 h9) a256 rfl)
          exact z_iret C hr rfl hz hS ⟨1, 0, 0, (upd gv 1 (gv 1 + 1)), nl, gu, nn, ga, gr, fg, pt, kd, ln, pp, wg, wd, hs, bf, nf, gf, fq, fk, fz, fc, nc, gc, cn, ce, cm, sq, mb, ks, kk, kv, lk, rfl, (by rw [if_neg (by decide)]), ⟨a262, a259, a260, a264, a269, a274, a279, a284, a289, a294, a299, a304, a309, F314, F319, F324, F329, F334, F339, F344, hn60, hl12, hf6, hc60, hs40, hga, hgr, hln, hk5, hk4, hfi, hpi, har, hgf, hfz, hgc, hG, hsq, hei, hmi, kne, hca, hcr, hlk⟩⟩ (Nat.le_of_ble_eq_true rfl) (Nat.le_of_ble_eq_true rfl) dX7_pair_59
      · have a345 : f13 fi = some (.inr (5, [.ref al, .ref ra, .int (nI nn)])) := k15 _ _ a12 
        refine z_callVi (As := []) C hz hS hA hl (k_X5_isFull_B l D cy f13 fi al ra nn a345 hn60 h60) zyX5_isFull mMX7_79 a345 zl5 rfl rfl (Nat.le_of_ble_eq_true rfl) ⟨Nat.le_of_ble_eq_true rfl, Nat.le_of_ble_eq_true rfl⟩ ⟨Nat.le_of_ble_eq_true rfl, Nat.le_of_ble_eq_true rfl⟩ dX7_pair_36 (fun r f346 H locs h347 hz hS => ?_)
        obtain ⟨rfl, k348⟩ := h347
        refine lv_if_eq (tgt := 45) hx hb dX7_pair_39 (by decide) (fun c349 => ?_) (fun c349 => ?_)
        · exact absurd c349 (by decide)
        refine lv_bipush (v := (-3)) hx hb dX7_pair_42 (by decide) ?_
        have a350 : f346 o = some (.inr (7, [.ref fa, .ref fi, .ref nu, .int (nI nl), .ref fm, .int (nI nf), .ref co, .int (nI nc), .ref en, .ref ke, .long lk])) := k348 _ _ a17 
        have a351 : f7 fa = some (.inr (2, [.int 0, .int (-1), .int 0, .ref ev])) := k9 _ _ a3 
        have a352 : f13 fa = some (.inr (2, [.int 0, .int (-1), .int 0, .ref ev])) := k15 _ _ a351 
        have a353 : f346 fa = some (.inr (2, [.int 0, .int (-1), .int 0, .ref ev])) := k348 _ _ a352 
        have a354 : f1 ev = some (.inl (cy 0, 8, .inl gv)) := k4 _ _ x_ev (z_ne x_ev x_fa rfl)
        have a355 : f7 ev = some (.inl (cy 0, 8, .inl gv)) := k9 _ _ a354 
        have a356 : f13 ev = some (.inl (cy 0, 8, .inl gv)) := k15 _ _ a355 
        have a357 : f346 ev = some (.inl (cy 0, 8, .inl gv)) := k348 _ _ a356 
        have a358 : f346 fi = some (.inr (5, [.ref al, .ref ra, .int (nI nn)])) := k348 _ _ a345 
        have a359 : f1 al = some (.inl (cy 3, 60, .inr (.inr (.inr (.inr ga))))) := k4 _ _ x_al (z_ne x_al x_fa rfl)
        have a360 : f7 al = some (.inl (cy 3, 60, .inr (.inr (.inr (.inr ga))))) := k9 _ _ a359 
        have a361 : f13 al = some (.inl (cy 3, 60, .inr (.inr (.inr (.inr ga))))) := k15 _ _ a360 
        have a362 : f346 al = some (.inl (cy 3, 60, .inr (.inr (.inr (.inr ga))))) := k348 _ _ a361 
        have a363 : f1 ra = some (.inl (cy 3, 60, .inr (.inr (.inr (.inr gr))))) := k4 _ _ x_ra (z_ne x_ra x_fa rfl)
        have a364 : f7 ra = some (.inl (cy 3, 60, .inr (.inr (.inr (.inr gr))))) := k9 _ _ a363 
        have a365 : f13 ra = some (.inl (cy 3, 60, .inr (.inr (.inr (.inr gr))))) := k15 _ _ a364 
        have a366 : f346 ra = some (.inl (cy 3, 60, .inr (.inr (.inr (.inr gr))))) := k348 _ _ a365 
        have a367 : f1 nu = some (.inl (cy 0, 12, .inl gu)) := k4 _ _ x_nu (z_ne x_nu x_fa rfl)
        have a368 : f7 nu = some (.inl (cy 0, 12, .inl gu)) := k9 _ _ a367 
        have a369 : f13 nu = some (.inl (cy 0, 12, .inl gu)) := k15 _ _ a368 
        have a370 : f346 nu = some (.inl (cy 0, 12, .inl gu)) := k348 _ _ a369 
        have a371 : f1 fm = some (.inl (cy 4, 6, .inr (.inr (.inr (.inr gf))))) := k4 _ _ x_fm (z_ne x_fm x_fa rfl)
        have a372 : f7 fm = some (.inl (cy 4, 6, .inr (.inr (.inr (.inr gf))))) := k9 _ _ a371 
        have a373 : f13 fm = some (.inl (cy 4, 6, .inr (.inr (.inr (.inr gf))))) := k15 _ _ a372 
        have a374 : f346 fm = some (.inl (cy 4, 6, .inr (.inr (.inr (.inr gf))))) := k348 _ _ a373 
        have a375 : f1 co = some (.inl (cy 5, 60, .inr (.inr (.inr (.inr gc))))) := k4 _ _ x_co (z_ne x_co x_fa rfl)
        have a376 : f7 co = some (.inl (cy 5, 60, .inr (.inr (.inr (.inr gc))))) := k9 _ _ a375 
        have a377 : f13 co = some (.inl (cy 5, 60, .inr (.inr (.inr (.inr gc))))) := k15 _ _ a376 
        have a378 : f346 co = some (.inl (cy 5, 60, .inr (.inr (.inr (.inr gc))))) := k348 _ _ a377 
        have a379 : f1 en = some (.inl (cy 6, 4, .inr (.inr (.inr (.inr ge))))) := k4 _ _ x_en (z_ne x_en x_fa rfl)
        have a380 : f7 en = some (.inl (cy 6, 4, .inr (.inr (.inr (.inr ge))))) := k9 _ _ a379 
        have a381 : f13 en = some (.inl (cy 6, 4, .inr (.inr (.inr (.inr ge))))) := k15 _ _ a380 
        have a382 : f346 en = some (.inl (cy 6, 4, .inr (.inr (.inr (.inr ge))))) := k348 _ _ a381 
        have a383 : f1 ke = some (.inr (6, [.ref kn, .ref vq, .int (nI ks)])) := k4 _ _ x_ke (z_ne x_ke x_fa rfl)
        have a384 : f7 ke = some (.inr (6, [.ref kn, .ref vq, .int (nI ks)])) := k9 _ _ a383 
        have a385 : f13 ke = some (.inr (6, [.ref kn, .ref vq, .int (nI ks)])) := k15 _ _ a384 
        have a386 : f346 ke = some (.inr (6, [.ref kn, .ref vq, .int (nI ks)])) := k348 _ _ a385 
        have a387 : f1 kn = some (.inl (cy 0, 40, .inl kk)) := k4 _ _ x_kn (z_ne x_kn x_fa rfl)
        have a388 : f7 kn = some (.inl (cy 0, 40, .inl kk)) := k9 _ _ a387 
        have a389 : f13 kn = some (.inl (cy 0, 40, .inl kk)) := k15 _ _ a388 
        have a390 : f346 kn = some (.inl (cy 0, 40, .inl kk)) := k348 _ _ a389 
        have a391 : f1 vq = some (.inl (cy 0, 40, .inl kv)) := k4 _ _ x_vq (z_ne x_vq x_fa rfl)
        have a392 : f7 vq = some (.inl (cy 0, 40, .inl kv)) := k9 _ _ a391 
        have a393 : f13 vq = some (.inl (cy 0, 40, .inl kv)) := k15 _ _ a392 
        have a394 : f346 vq = some (.inl (cy 0, 40, .inl kv)) := k348 _ _ a393 
        have F395 : ∀ i9 : Nat, i9 < nn → f1 (fg i9) = some (.inr (4, [.int (kd i9), .ref (pt i9), .long (wg i9), .int (wd i9), .int (nI i9), .int (hs i9), .int (bf i9)])) := fun i9 h9 => k4 _ _ (hF i9 h9) (z_ne (hF i9 h9) x_fa rfl)
        have F396 : ∀ i9 : Nat, i9 < nn → f7 (fg i9) = some (.inr (4, [.int (kd i9), .ref (pt i9), .long (wg i9), .int (wd i9), .int (nI i9), .int (hs i9), .int (bf i9)])) := fun i9 h9 => k9 _ _ (F395 i9 h9) 
        have F397 : ∀ i9 : Nat, i9 < nn → f13 (fg i9) = some (.inr (4, [.int (kd i9), .ref (pt i9), .long (wg i9), .int (wd i9), .int (nI i9), .int (hs i9), .int (bf i9)])) := fun i9 h9 => k15 _ _ (F396 i9 h9) 
        have F398 : ∀ i9 : Nat, i9 < nn → f346 (fg i9) = some (.inr (4, [.int (kd i9), .ref (pt i9), .long (wg i9), .int (wd i9), .int (nI i9), .int (hs i9), .int (bf i9)])) := fun i9 h9 => k348 _ _ (F397 i9 h9) 
        have F399 : ∀ i9 : Nat, i9 < nn → f1 (pt i9) = some (.inl (cy 1, (ln i9), .inr (.inl (pp i9)))) := fun i9 h9 => k4 _ _ (hP i9 h9) (z_neO (hP i9 h9) x_fa rfl)
        have F400 : ∀ i9 : Nat, i9 < nn → f7 (pt i9) = some (.inl (cy 1, (ln i9), .inr (.inl (pp i9)))) := fun i9 h9 => k9 _ _ (F399 i9 h9) 
        have F401 : ∀ i9 : Nat, i9 < nn → f13 (pt i9) = some (.inl (cy 1, (ln i9), .inr (.inl (pp i9)))) := fun i9 h9 => k15 _ _ (F400 i9 h9) 
        have F402 : ∀ i9 : Nat, i9 < nn → f346 (pt i9) = some (.inl (cy 1, (ln i9), .inr (.inl (pp i9)))) := fun i9 h9 => k348 _ _ (F401 i9 h9) 
        have F403 : ∀ i9 : Nat, i9 < nf → f1 (fq i9) = some (.inr (3, [.ref (fk i9), .int (nI (fz i9))])) := fun i9 h9 => k4 _ _ (hFq i9 h9) (z_ne (hFq i9 h9) x_fa rfl)
        have F404 : ∀ i9 : Nat, i9 < nf → f7 (fq i9) = some (.inr (3, [.ref (fk i9), .int (nI (fz i9))])) := fun i9 h9 => k9 _ _ (F403 i9 h9) 
        have F405 : ∀ i9 : Nat, i9 < nf → f13 (fq i9) = some (.inr (3, [.ref (fk i9), .int (nI (fz i9))])) := fun i9 h9 => k15 _ _ (F404 i9 h9) 
        have F406 : ∀ i9 : Nat, i9 < nf → f346 (fq i9) = some (.inr (3, [.ref (fk i9), .int (nI (fz i9))])) := fun i9 h9 => k348 _ _ (F405 i9 h9) 
        have F407 : ∀ i9 : Nat, i9 < nf → f1 (fk i9) = some (.inl (cy 0, 4, .inl (fc i9))) := fun i9 h9 => k4 _ _ (hFk i9 h9) (z_ne (hFk i9 h9) x_fa rfl)
        have F408 : ∀ i9 : Nat, i9 < nf → f7 (fk i9) = some (.inl (cy 0, 4, .inl (fc i9))) := fun i9 h9 => k9 _ _ (F407 i9 h9) 
        have F409 : ∀ i9 : Nat, i9 < nf → f13 (fk i9) = some (.inl (cy 0, 4, .inl (fc i9))) := fun i9 h9 => k15 _ _ (F408 i9 h9) 
        have F410 : ∀ i9 : Nat, i9 < nf → f346 (fk i9) = some (.inl (cy 0, 4, .inl (fc i9))) := fun i9 h9 => k348 _ _ (F409 i9 h9) 
        have F411 : ∀ i9 : Nat, i9 < nc → f1 (cn i9) = some (.inr (0, [.int (ce i9), .int (cm i9)])) := fun i9 h9 => k4 _ _ (hCn i9 h9) (z_ne (hCn i9 h9) x_fa rfl)
        have F412 : ∀ i9 : Nat, i9 < nc → f7 (cn i9) = some (.inr (0, [.int (ce i9), .int (cm i9)])) := fun i9 h9 => k9 _ _ (F411 i9 h9) 
        have F413 : ∀ i9 : Nat, i9 < nc → f13 (cn i9) = some (.inr (0, [.int (ce i9), .int (cm i9)])) := fun i9 h9 => k15 _ _ (F412 i9 h9) 
        have F414 : ∀ i9 : Nat, i9 < nc → f346 (cn i9) = some (.inr (0, [.int (ce i9), .int (cm i9)])) := fun i9 h9 => k348 _ _ (F413 i9 h9) 
        have F415 : ∀ i9 : Nat, i9 < 4 → f1 (ea i9) = some (.inr (1, [.ref (ma i9), .int (nI (sq i9))])) := fun i9 h9 => k4 _ _ (hEa i9 h9) (z_ne (hEa i9 h9) x_fa rfl)
        have F416 : ∀ i9 : Nat, i9 < 4 → f7 (ea i9) = some (.inr (1, [.ref (ma i9), .int (nI (sq i9))])) := fun i9 h9 => k9 _ _ (F415 i9 h9) 
        have F417 : ∀ i9 : Nat, i9 < 4 → f13 (ea i9) = some (.inr (1, [.ref (ma i9), .int (nI (sq i9))])) := fun i9 h9 => k15 _ _ (F416 i9 h9) 
        have F418 : ∀ i9 : Nat, i9 < 4 → f346 (ea i9) = some (.inr (1, [.ref (ma i9), .int (nI (sq i9))])) := fun i9 h9 => k348 _ _ (F417 i9 h9) 
        have F419 : ∀ i9 : Nat, i9 < 4 → f1 (ma i9) = some (.inl (cy 0, 60, .inl (mb i9))) := fun i9 h9 => k4 _ _ (hMa i9 h9) (z_ne (hMa i9 h9) x_fa rfl)
        have F420 : ∀ i9 : Nat, i9 < 4 → f7 (ma i9) = some (.inl (cy 0, 60, .inl (mb i9))) := fun i9 h9 => k9 _ _ (F419 i9 h9) 
        have F421 : ∀ i9 : Nat, i9 < 4 → f13 (ma i9) = some (.inl (cy 0, 60, .inl (mb i9))) := fun i9 h9 => k15 _ _ (F420 i9 h9) 
        have F422 : ∀ i9 : Nat, i9 < 4 → f346 (ma i9) = some (.inl (cy 0, 60, .inl (mb i9))) := fun i9 h9 => k348 _ _ (F421 i9 h9) 
        exact z_iret C hr rfl hz hS ⟨0, (-1), 0, gv, nl, gu, nn, ga, gr, fg, pt, kd, ln, pp, wg, wd, hs, bf, nf, gf, fq, fk, fz, fc, nc, gc, cn, ce, cm, sq, mb, ks, kk, kv, lk, rfl, (by rw [if_neg (by decide)]), ⟨a350, a353, a357, a358, a362, a366, a370, a374, a378, a382, a386, a390, a394, F398, F402, F406, F410, F414, F418, F422, hn60, hl12, hf6, hc60, hs40, hga, hgr, hln, hk5, hk4, hfi, hpi, har, hgf, hfz, hgc, hG, hsq, hei, hmi, kne, hca, hcr, hlk⟩⟩ (Nat.le_of_ble_eq_true rfl) (Nat.le_of_ble_eq_true rfl) dX7_pair_44
    · have a423 : f7 fi = some (.inr (5, [.ref al, .ref ra, .int (nI nn)])) := k9 _ _ a6 
      have a424 : f1 al = some (.inl (cy 3, 60, .inr (.inr (.inr (.inr ga))))) := k4 _ _ x_al (z_ne x_al x_fa rfl)
      have a425 : f7 al = some (.inl (cy 3, 60, .inr (.inr (.inr (.inr ga))))) := k9 _ _ a424 
      refine z_callVi (As := [.int y]) C hz hS hA hl (k_X5_hasOrNone_A l D cy f7 fi al ra ga nn fg jr y a423 a425 hrt hjr hn60 hga) zyX5_hasOrNone mMX7_112 a423 zl5 rfl rfl (Nat.le_of_ble_eq_true rfl) ⟨Nat.le_of_ble_eq_true rfl, Nat.le_of_ble_eq_true rfl⟩ ⟨Nat.le_of_ble_eq_true rfl, Nat.le_of_ble_eq_true rfl⟩ dX7_pair_23 (fun r f426 H locs h427 hz hS => ?_)
      obtain ⟨rfl, k428⟩ := h427
      refine lv_if_ne (tgt := 32) hx hb dX7_pair_26 (by decide) (fun c429 => ?_) (fun c429 => ?_)
      rotate_left
      · exact absurd c429 (by decide)
      refine lv_aload_n hx hb dX7_pair_32 rfl (lv_at hl 0 rfl) ?_
      have a430 : f426 o = some (.inr (7, [.ref fa, .ref fi, .ref nu, .int (nI nl), .ref fm, .int (nI nf), .ref co, .int (nI nc), .ref en, .ref ke, .long lk])) := k428 _ _ a11 
      refine z_get (v := .ref fi) C hz a430 zl7 mFX7_19 (by decide) rfl dX7_pair_33 ?_
      by_cases h60 : nn < 60
      · have a431 : f426 fi = some (.inr (5, [.ref al, .ref ra, .int (nI nn)])) := k428 _ _ a423 
        refine z_callVi (As := []) C hz hS hA hl (k_X5_isFull_A l D cy f426 fi al ra nn a431 hn60 h60) zyX5_isFull mMX7_79 a431 zl5 rfl rfl (Nat.le_of_ble_eq_true rfl) ⟨Nat.le_of_ble_eq_true rfl, Nat.le_of_ble_eq_true rfl⟩ ⟨Nat.le_of_ble_eq_true rfl, Nat.le_of_ble_eq_true rfl⟩ dX7_pair_36 (fun r f432 H locs h433 hz hS => ?_)
        obtain ⟨rfl, k434⟩ := h433
        refine lv_if_eq (tgt := 45) hx hb dX7_pair_39 (by decide) (fun c435 => ?_) (fun c435 => ?_)
        rotate_left
        · exact absurd c435 (by decide)
        refine lv_iload_n hx hb dX7_pair_45 rfl (lv_at hl 1 rfl) ?_
        refine lv_iconst (v := (-1)) hx hb dX7_pair_46 (by decide) ?_
        refine lv_icmp_ne (tgt := 60) hx hb dX7_pair_47 (by decide) (fun c436 => ?_) (fun c436 => ?_)
        · refine lv_aload_n hx hb dX7_pair_60 rfl (lv_at hl 0 rfl) ?_
          have a437 : f432 o = some (.inr (7, [.ref fa, .ref fi, .ref nu, .int (nI nl), .ref fm, .int (nI nf), .ref co, .int (nI nc), .ref en, .ref ke, .long lk])) := k434 _ _ a430 
          refine z_get (v := .ref fi) C hz a437 zl7 mFX7_19 (by decide) rfl dX7_pair_61 ?_
          refine z_new (fs := [.int 0, .null, .long 0, .int 0, .int 0, .int 0, .int 0]) C hz hS hA zl4 mLX7_83 mIa_RX4 mIn_RX4 (by decide +kernel) (Nat.le_of_ble_eq_true rfl) (Nat.le_of_ble_eq_true rfl) dX7_pair_64 (fun q438 H f440 u439 a441 k442 hz hS => ?_)
          refine lv_dup hx hb dX7_pair_67 rfl ?_
          refine lv_iconst (v := 4) hx hb dX7_pair_68 (by decide) ?_
          refine lv_iconst (v := 2) hx hb dX7_pair_69 (by decide) ?_
          refine z_newa (atype := .long) (t0 := 1) (N' := 2) (x := (.inr (.inl (fun _ => 0)))) C hz hS hA rfl mA_long rfl (fun _ => rfl) (by decide) (Nat.le_of_ble_eq_true rfl) (by decide) (Nat.le_of_ble_eq_true rfl) (Nat.le_of_ble_eq_true rfl) dX7_pair_70 (fun q443 H f445 u444 a446 k447 hz hS => ?_)
          refine lv_dup hx hb dX7_pair_72 rfl ?_
          refine lv_iconst (v := 0) hx hb dX7_pair_73 (by decide) ?_
          refine lv_iload_n hx hb dX7_pair_74 rfl (lv_at hl 1 rfl) ?_
          refine lv_i2l (v := x.toInt64) hx hb dX7_pair_75 rfl ?_
          refine z_last 0 C hz hS a446 (by decide) (Nat.le_of_ble_eq_true rfl) (by omega) dX7_pair_76 (fun H locs f448 a449 k450 hz hS => ?_)
          refine lv_dup hx hb dX7_pair_77 rfl ?_
          refine lv_iconst (v := 1) hx hb dX7_pair_78 (by decide) ?_
          refine lv_iload_n hx hb dX7_pair_79 rfl (lv_at hl 2 rfl) ?_
          refine lv_i2l (v := y.toInt64) hx hb dX7_pair_80 rfl ?_
          refine z_last 1 C hz hS a449 (by decide) (Nat.le_of_ble_eq_true rfl) (by omega) dX7_pair_81 (fun H locs f451 a452 k453 hz hS => ?_)
          refine lv_lconst (v := 0) hx hb dX7_pair_82 (by decide) ?_
          have a454 : f445 q438 = some (.inr (4, [.int 0, .null, .long 0, .int 0, .int 0, .int 0, .int 0])) := (k447 _ (z_nn u444 a441)).trans a441
          have a455 : f448 q438 = some (.inr (4, [.int 0, .null, .long 0, .int 0, .int 0, .int 0, .int 0])) := (k450 _ (z_nn u444 a441)).trans a454
          have a456 : f451 q438 = some (.inr (4, [.int 0, .null, .long 0, .int 0, .int 0, .int 0, .int 0])) := (k453 _ (z_nn u444 a441)).trans a455
          refine z_callIv (ret := none) (As := [.int 4, .ref q443, .long 0]) C hz hS hA hl (k_X4_init l D cy f451 q438 4 q443 0 a456 ) zyX4_init mMX7_89 rfl rfl (Nat.le_of_ble_eq_true rfl) ⟨Nat.le_of_ble_eq_true rfl, Nat.le_of_ble_eq_true rfl⟩ ⟨Nat.le_of_ble_eq_true rfl, Nat.le_of_ble_eq_true rfl⟩ dX7_pair_83 (fun  f457 H locs h458 hz hS => ?_)
          obtain ⟨a459, k460⟩ := h458
          have a461 : f432 fi = some (.inr (5, [.ref al, .ref ra, .int (nI nn)])) := k434 _ _ a431 
          have a462 : f440 fi = some (.inr (5, [.ref al, .ref ra, .int (nI nn)])) := (k442 _ (z_nn u439 a461)).trans a461
          have a463 : f445 fi = some (.inr (5, [.ref al, .ref ra, .int (nI nn)])) := (k447 _ (z_nn u444 a462)).trans a462
          have a464 : f448 fi = some (.inr (5, [.ref al, .ref ra, .int (nI nn)])) := (k450 _ (z_nn u444 a462)).trans a463
          have a465 : f451 fi = some (.inr (5, [.ref al, .ref ra, .int (nI nn)])) := (k453 _ (z_nn u444 a462)).trans a464
          have a466 : f457 fi = some (.inr (5, [.ref al, .ref ra, .int (nI nn)])) := k460 _ _ a465 (z_nn u439 a461)
          have a467 : f426 al = some (.inl (cy 3, 60, .inr (.inr (.inr (.inr ga))))) := k428 _ _ a425 
          have a468 : f432 al = some (.inl (cy 3, 60, .inr (.inr (.inr (.inr ga))))) := k434 _ _ a467 
          have a469 : f440 al = some (.inl (cy 3, 60, .inr (.inr (.inr (.inr ga))))) := (k442 _ (z_nn u439 a468)).trans a468
          have a470 : f445 al = some (.inl (cy 3, 60, .inr (.inr (.inr (.inr ga))))) := (k447 _ (z_nn u444 a469)).trans a469
          have a471 : f448 al = some (.inl (cy 3, 60, .inr (.inr (.inr (.inr ga))))) := (k450 _ (z_nn u444 a469)).trans a470
          have a472 : f451 al = some (.inl (cy 3, 60, .inr (.inr (.inr (.inr ga))))) := (k453 _ (z_nn u444 a469)).trans a471
          have a473 : f457 al = some (.inl (cy 3, 60, .inr (.inr (.inr (.inr ga))))) := k460 _ _ a472 (z_nn u439 a468)
          have a474 : f1 ra = some (.inl (cy 3, 60, .inr (.inr (.inr (.inr gr))))) := k4 _ _ x_ra (z_ne x_ra x_fa rfl)
          have a475 : f7 ra = some (.inl (cy 3, 60, .inr (.inr (.inr (.inr gr))))) := k9 _ _ a474 
          have a476 : f426 ra = some (.inl (cy 3, 60, .inr (.inr (.inr (.inr gr))))) := k428 _ _ a475 
          have a477 : f432 ra = some (.inl (cy 3, 60, .inr (.inr (.inr (.inr gr))))) := k434 _ _ a476 
          have a478 : f440 ra = some (.inl (cy 3, 60, .inr (.inr (.inr (.inr gr))))) := (k442 _ (z_nn u439 a477)).trans a477
          have a479 : f445 ra = some (.inl (cy 3, 60, .inr (.inr (.inr (.inr gr))))) := (k447 _ (z_nn u444 a478)).trans a478
          have a480 : f448 ra = some (.inl (cy 3, 60, .inr (.inr (.inr (.inr gr))))) := (k450 _ (z_nn u444 a478)).trans a479
          have a481 : f451 ra = some (.inl (cy 3, 60, .inr (.inr (.inr (.inr gr))))) := (k453 _ (z_nn u444 a478)).trans a480
          have a482 : f457 ra = some (.inl (cy 3, 60, .inr (.inr (.inr (.inr gr))))) := k460 _ _ a481 (z_nn u439 a477)
          have a483 : f457 q443 = some (.inl (cy 1, 2, .inr (.inl (vp_updL (vp_updL (fun _ => 0) 0 x.toInt64) 1 y.toInt64)))) := k460 _ _ a452 (Ne.symm (z_nn u444 a441))
          have F484 : ∀ i9 : Nat, i9 < nn → f1 (fg i9) = some (.inr (4, [.int (kd i9), .ref (pt i9), .long (wg i9), .int (wd i9), .int (nI i9), .int (hs i9), .int (bf i9)])) := fun i9 h9 => k4 _ _ (hF i9 h9) (z_ne (hF i9 h9) x_fa rfl)
          have F485 : ∀ i9 : Nat, i9 < nn → f7 (fg i9) = some (.inr (4, [.int (kd i9), .ref (pt i9), .long (wg i9), .int (wd i9), .int (nI i9), .int (hs i9), .int (bf i9)])) := fun i9 h9 => k9 _ _ (F484 i9 h9) 
          have F486 : ∀ i9 : Nat, i9 < nn → f426 (fg i9) = some (.inr (4, [.int (kd i9), .ref (pt i9), .long (wg i9), .int (wd i9), .int (nI i9), .int (hs i9), .int (bf i9)])) := fun i9 h9 => k428 _ _ (F485 i9 h9) 
          have F487 : ∀ i9 : Nat, i9 < nn → f432 (fg i9) = some (.inr (4, [.int (kd i9), .ref (pt i9), .long (wg i9), .int (wd i9), .int (nI i9), .int (hs i9), .int (bf i9)])) := fun i9 h9 => k434 _ _ (F486 i9 h9) 
          have F488 : ∀ i9 : Nat, i9 < nn → f440 (fg i9) = some (.inr (4, [.int (kd i9), .ref (pt i9), .long (wg i9), .int (wd i9), .int (nI i9), .int (hs i9), .int (bf i9)])) := fun i9 h9 => (k442 _ (z_nn u439 (F487 i9 h9))).trans (F487 i9 h9)
          have F489 : ∀ i9 : Nat, i9 < nn → f445 (fg i9) = some (.inr (4, [.int (kd i9), .ref (pt i9), .long (wg i9), .int (wd i9), .int (nI i9), .int (hs i9), .int (bf i9)])) := fun i9 h9 => (k447 _ (z_nn u444 (F488 i9 h9))).trans (F488 i9 h9)
          have F490 : ∀ i9 : Nat, i9 < nn → f448 (fg i9) = some (.inr (4, [.int (kd i9), .ref (pt i9), .long (wg i9), .int (wd i9), .int (nI i9), .int (hs i9), .int (bf i9)])) := fun i9 h9 => (k450 _ (z_nn u444 (F488 i9 h9))).trans (F489 i9 h9)
          have F491 : ∀ i9 : Nat, i9 < nn → f451 (fg i9) = some (.inr (4, [.int (kd i9), .ref (pt i9), .long (wg i9), .int (wd i9), .int (nI i9), .int (hs i9), .int (bf i9)])) := fun i9 h9 => (k453 _ (z_nn u444 (F488 i9 h9))).trans (F490 i9 h9)
          have F492 : ∀ i9 : Nat, i9 < nn → f457 (fg i9) = some (.inr (4, [.int (kd i9), .ref (pt i9), .long (wg i9), .int (wd i9), .int (nI i9), .int (hs i9), .int (bf i9)])) := fun i9 h9 => k460 _ _ (F491 i9 h9) (z_nn u439 (F487 i9 h9))
          have F493 : ∀ i9 : Nat, i9 < nn → f1 (pt i9) = some (.inl (cy 1, (ln i9), .inr (.inl (pp i9)))) := fun i9 h9 => k4 _ _ (hP i9 h9) (z_neO (hP i9 h9) x_fa rfl)
          have F494 : ∀ i9 : Nat, i9 < nn → f7 (pt i9) = some (.inl (cy 1, (ln i9), .inr (.inl (pp i9)))) := fun i9 h9 => k9 _ _ (F493 i9 h9) 
          have F495 : ∀ i9 : Nat, i9 < nn → f426 (pt i9) = some (.inl (cy 1, (ln i9), .inr (.inl (pp i9)))) := fun i9 h9 => k428 _ _ (F494 i9 h9) 
          have F496 : ∀ i9 : Nat, i9 < nn → f432 (pt i9) = some (.inl (cy 1, (ln i9), .inr (.inl (pp i9)))) := fun i9 h9 => k434 _ _ (F495 i9 h9) 
          have F497 : ∀ i9 : Nat, i9 < nn → f440 (pt i9) = some (.inl (cy 1, (ln i9), .inr (.inl (pp i9)))) := fun i9 h9 => (k442 _ (z_nn u439 (F496 i9 h9))).trans (F496 i9 h9)
          have F498 : ∀ i9 : Nat, i9 < nn → f445 (pt i9) = some (.inl (cy 1, (ln i9), .inr (.inl (pp i9)))) := fun i9 h9 => (k447 _ (z_nn u444 (F497 i9 h9))).trans (F497 i9 h9)
          have F499 : ∀ i9 : Nat, i9 < nn → f448 (pt i9) = some (.inl (cy 1, (ln i9), .inr (.inl (pp i9)))) := fun i9 h9 => (k450 _ (z_nn u444 (F497 i9 h9))).trans (F498 i9 h9)
          have F500 : ∀ i9 : Nat, i9 < nn → f451 (pt i9) = some (.inl (cy 1, (ln i9), .inr (.inl (pp i9)))) := fun i9 h9 => (k453 _ (z_nn u444 (F497 i9 h9))).trans (F499 i9 h9)
          have F501 : ∀ i9 : Nat, i9 < nn → f457 (pt i9) = some (.inl (cy 1, (ln i9), .inr (.inl (pp i9)))) := fun i9 h9 => k460 _ _ (F500 i9 h9) (z_nn u439 (F496 i9 h9))
          refine z_callVi (As := [.ref q438]) C hz hS hA hl (k_X5_add l D cy f457 fi al ra ga gr nn fg pt kd ln pp wg wd hs bf q438 4 q443 0 0 (-1) 0 0 2 (vp_updL (vp_updL (fun _ => 0) 0 x.toInt64) 1 y.toInt64) a466 a473 a482 a459 a483 F492 F501 h60 hga hgr hln hk5 hfi (fun j9 h9 => z_nn u439 (F487 j9 h9)) (by omega) (fun h9 => absurd h9 (by decide)) har) zyX5_add mMX7_92 a466 zl5 rfl rfl (Nat.le_of_ble_eq_true rfl) ⟨Nat.le_of_ble_eq_true rfl, Nat.le_of_ble_eq_true rfl⟩ ⟨Nat.le_of_ble_eq_true rfl, Nat.le_of_ble_eq_true rfl⟩ dX7_pair_86 (fun r f502 H locs h503 hz hS => ?_)
          obtain ⟨hq_504, bq_505, gr_506, bf_507, rfl, p508, a509, a510, a511, F512, F513, k514⟩ := h503
          have a515 : f440 o = some (.inr (7, [.ref fa, .ref fi, .ref nu, .int (nI nl), .ref fm, .int (nI nf), .ref co, .int (nI nc), .ref en, .ref ke, .long lk])) := (k442 _ (z_nn u439 a437)).trans a437
          have a516 : f445 o = some (.inr (7, [.ref fa, .ref fi, .ref nu, .int (nI nl), .ref fm, .int (nI nf), .ref co, .int (nI nc), .ref en, .ref ke, .long lk])) := (k447 _ (z_nn u444 a515)).trans a515
          have a517 : f448 o = some (.inr (7, [.ref fa, .ref fi, .ref nu, .int (nI nl), .ref fm, .int (nI nf), .ref co, .int (nI nc), .ref en, .ref ke, .long lk])) := (k450 _ (z_nn u444 a515)).trans a516
          have a518 : f451 o = some (.inr (7, [.ref fa, .ref fi, .ref nu, .int (nI nl), .ref fm, .int (nI nf), .ref co, .int (nI nc), .ref en, .ref ke, .long lk])) := (k453 _ (z_nn u444 a515)).trans a517
          have a519 : f457 o = some (.inr (7, [.ref fa, .ref fi, .ref nu, .int (nI nl), .ref fm, .int (nI nf), .ref co, .int (nI nc), .ref en, .ref ke, .long lk])) := k460 _ _ a518 (z_nn u439 a437)
          have a520 : f502 o = some (.inr (7, [.ref fa, .ref fi, .ref nu, .int (nI nl), .ref fm, .int (nI nf), .ref co, .int (nI nc), .ref en, .ref ke, .long lk])) := k514 _ _ a519 (z_ne a519 a466 rfl) (z_ne a519 a473 rfl) (z_ne a519 a482 rfl) (z_nn u439 a437) (fun j9 h8 => (z_ne a519 (F492 j9 h8) rfl))
          have a521 : f7 fa = some (.inr (2, [.int 0, .int (-1), .int 0, .ref ev])) := k9 _ _ a3 
          have a522 : f426 fa = some (.inr (2, [.int 0, .int (-1), .int 0, .ref ev])) := k428 _ _ a521 
          have a523 : f432 fa = some (.inr (2, [.int 0, .int (-1), .int 0, .ref ev])) := k434 _ _ a522 
          have a524 : f440 fa = some (.inr (2, [.int 0, .int (-1), .int 0, .ref ev])) := (k442 _ (z_nn u439 a523)).trans a523
          have a525 : f445 fa = some (.inr (2, [.int 0, .int (-1), .int 0, .ref ev])) := (k447 _ (z_nn u444 a524)).trans a524
          have a526 : f448 fa = some (.inr (2, [.int 0, .int (-1), .int 0, .ref ev])) := (k450 _ (z_nn u444 a524)).trans a525
          have a527 : f451 fa = some (.inr (2, [.int 0, .int (-1), .int 0, .ref ev])) := (k453 _ (z_nn u444 a524)).trans a526
          have a528 : f457 fa = some (.inr (2, [.int 0, .int (-1), .int 0, .ref ev])) := k460 _ _ a527 (z_nn u439 a523)
          have a529 : f502 fa = some (.inr (2, [.int 0, .int (-1), .int 0, .ref ev])) := k514 _ _ a528 (z_ne a528 a466 rfl) (z_ne a528 a473 rfl) (z_ne a528 a482 rfl) (z_nn u439 a523) (fun j9 h8 => (z_ne a528 (F492 j9 h8) rfl))
          have a530 : f1 ev = some (.inl (cy 0, 8, .inl gv)) := k4 _ _ x_ev (z_ne x_ev x_fa rfl)
          have a531 : f7 ev = some (.inl (cy 0, 8, .inl gv)) := k9 _ _ a530 
          have a532 : f426 ev = some (.inl (cy 0, 8, .inl gv)) := k428 _ _ a531 
          have a533 : f432 ev = some (.inl (cy 0, 8, .inl gv)) := k434 _ _ a532 
          have a534 : f440 ev = some (.inl (cy 0, 8, .inl gv)) := (k442 _ (z_nn u439 a533)).trans a533
          have a535 : f445 ev = some (.inl (cy 0, 8, .inl gv)) := (k447 _ (z_nn u444 a534)).trans a534
          have a536 : f448 ev = some (.inl (cy 0, 8, .inl gv)) := (k450 _ (z_nn u444 a534)).trans a535
          have a537 : f451 ev = some (.inl (cy 0, 8, .inl gv)) := (k453 _ (z_nn u444 a534)).trans a536
          have a538 : f457 ev = some (.inl (cy 0, 8, .inl gv)) := k460 _ _ a537 (z_nn u439 a533)
          have a539 : f502 ev = some (.inl (cy 0, 8, .inl gv)) := k514 _ _ a538 (z_ne a538 a466 rfl) (z_ne a538 a473 rfl) (z_ne a538 a482 rfl) (z_nn u439 a533) (fun j9 h8 => (z_ne a538 (F492 j9 h8) rfl))
          have a540 : f1 nu = some (.inl (cy 0, 12, .inl gu)) := k4 _ _ x_nu (z_ne x_nu x_fa rfl)
          have a541 : f7 nu = some (.inl (cy 0, 12, .inl gu)) := k9 _ _ a540 
          have a542 : f426 nu = some (.inl (cy 0, 12, .inl gu)) := k428 _ _ a541 
          have a543 : f432 nu = some (.inl (cy 0, 12, .inl gu)) := k434 _ _ a542 
          have a544 : f440 nu = some (.inl (cy 0, 12, .inl gu)) := (k442 _ (z_nn u439 a543)).trans a543
          have a545 : f445 nu = some (.inl (cy 0, 12, .inl gu)) := (k447 _ (z_nn u444 a544)).trans a544
          have a546 : f448 nu = some (.inl (cy 0, 12, .inl gu)) := (k450 _ (z_nn u444 a544)).trans a545
          have a547 : f451 nu = some (.inl (cy 0, 12, .inl gu)) := (k453 _ (z_nn u444 a544)).trans a546
          have a548 : f457 nu = some (.inl (cy 0, 12, .inl gu)) := k460 _ _ a547 (z_nn u439 a543)
          have a549 : f502 nu = some (.inl (cy 0, 12, .inl gu)) := k514 _ _ a548 (z_ne a548 a466 rfl) (z_ne a548 a473 rfl) (z_ne a548 a482 rfl) (z_nn u439 a543) (fun j9 h8 => (z_ne a548 (F492 j9 h8) rfl))
          have a550 : f1 fm = some (.inl (cy 4, 6, .inr (.inr (.inr (.inr gf))))) := k4 _ _ x_fm (z_ne x_fm x_fa rfl)
          have a551 : f7 fm = some (.inl (cy 4, 6, .inr (.inr (.inr (.inr gf))))) := k9 _ _ a550 
          have a552 : f426 fm = some (.inl (cy 4, 6, .inr (.inr (.inr (.inr gf))))) := k428 _ _ a551 
          have a553 : f432 fm = some (.inl (cy 4, 6, .inr (.inr (.inr (.inr gf))))) := k434 _ _ a552 
          have a554 : f440 fm = some (.inl (cy 4, 6, .inr (.inr (.inr (.inr gf))))) := (k442 _ (z_nn u439 a553)).trans a553
          have a555 : f445 fm = some (.inl (cy 4, 6, .inr (.inr (.inr (.inr gf))))) := (k447 _ (z_nn u444 a554)).trans a554
          have a556 : f448 fm = some (.inl (cy 4, 6, .inr (.inr (.inr (.inr gf))))) := (k450 _ (z_nn u444 a554)).trans a555
          have a557 : f451 fm = some (.inl (cy 4, 6, .inr (.inr (.inr (.inr gf))))) := (k453 _ (z_nn u444 a554)).trans a556
          have a558 : f457 fm = some (.inl (cy 4, 6, .inr (.inr (.inr (.inr gf))))) := k460 _ _ a557 (z_nn u439 a553)
          have a559 : f502 fm = some (.inl (cy 4, 6, .inr (.inr (.inr (.inr gf))))) := k514 _ _ a558 (z_ne a558 a466 rfl) (z_ne a558 a473 rfl) (z_ne a558 a482 rfl) (z_nn u439 a553) (fun j9 h8 => (z_ne a558 (F492 j9 h8) rfl))
          have a560 : f1 co = some (.inl (cy 5, 60, .inr (.inr (.inr (.inr gc))))) := k4 _ _ x_co (z_ne x_co x_fa rfl)
          have a561 : f7 co = some (.inl (cy 5, 60, .inr (.inr (.inr (.inr gc))))) := k9 _ _ a560 
          have a562 : f426 co = some (.inl (cy 5, 60, .inr (.inr (.inr (.inr gc))))) := k428 _ _ a561 
          have a563 : f432 co = some (.inl (cy 5, 60, .inr (.inr (.inr (.inr gc))))) := k434 _ _ a562 
          have a564 : f440 co = some (.inl (cy 5, 60, .inr (.inr (.inr (.inr gc))))) := (k442 _ (z_nn u439 a563)).trans a563
          have a565 : f445 co = some (.inl (cy 5, 60, .inr (.inr (.inr (.inr gc))))) := (k447 _ (z_nn u444 a564)).trans a564
          have a566 : f448 co = some (.inl (cy 5, 60, .inr (.inr (.inr (.inr gc))))) := (k450 _ (z_nn u444 a564)).trans a565
          have a567 : f451 co = some (.inl (cy 5, 60, .inr (.inr (.inr (.inr gc))))) := (k453 _ (z_nn u444 a564)).trans a566
          have a568 : f457 co = some (.inl (cy 5, 60, .inr (.inr (.inr (.inr gc))))) := k460 _ _ a567 (z_nn u439 a563)
          have a569 : f502 co = some (.inl (cy 5, 60, .inr (.inr (.inr (.inr gc))))) := k514 _ _ a568 (z_ne a568 a466 rfl) hca hcr (z_nn u439 a563) (fun j9 h8 => (z_ne a568 (F492 j9 h8) rfl))
          have a570 : f1 en = some (.inl (cy 6, 4, .inr (.inr (.inr (.inr ge))))) := k4 _ _ x_en (z_ne x_en x_fa rfl)
          have a571 : f7 en = some (.inl (cy 6, 4, .inr (.inr (.inr (.inr ge))))) := k9 _ _ a570 
          have a572 : f426 en = some (.inl (cy 6, 4, .inr (.inr (.inr (.inr ge))))) := k428 _ _ a571 
          have a573 : f432 en = some (.inl (cy 6, 4, .inr (.inr (.inr (.inr ge))))) := k434 _ _ a572 
          have a574 : f440 en = some (.inl (cy 6, 4, .inr (.inr (.inr (.inr ge))))) := (k442 _ (z_nn u439 a573)).trans a573
          have a575 : f445 en = some (.inl (cy 6, 4, .inr (.inr (.inr (.inr ge))))) := (k447 _ (z_nn u444 a574)).trans a574
          have a576 : f448 en = some (.inl (cy 6, 4, .inr (.inr (.inr (.inr ge))))) := (k450 _ (z_nn u444 a574)).trans a575
          have a577 : f451 en = some (.inl (cy 6, 4, .inr (.inr (.inr (.inr ge))))) := (k453 _ (z_nn u444 a574)).trans a576
          have a578 : f457 en = some (.inl (cy 6, 4, .inr (.inr (.inr (.inr ge))))) := k460 _ _ a577 (z_nn u439 a573)
          have a579 : f502 en = some (.inl (cy 6, 4, .inr (.inr (.inr (.inr ge))))) := k514 _ _ a578 (z_ne a578 a466 rfl) (z_ne a578 a473 rfl) (z_ne a578 a482 rfl) (z_nn u439 a573) (fun j9 h8 => (z_ne a578 (F492 j9 h8) rfl))
          have a580 : f1 ke = some (.inr (6, [.ref kn, .ref vq, .int (nI ks)])) := k4 _ _ x_ke (z_ne x_ke x_fa rfl)
          have a581 : f7 ke = some (.inr (6, [.ref kn, .ref vq, .int (nI ks)])) := k9 _ _ a580 
          have a582 : f426 ke = some (.inr (6, [.ref kn, .ref vq, .int (nI ks)])) := k428 _ _ a581 
          have a583 : f432 ke = some (.inr (6, [.ref kn, .ref vq, .int (nI ks)])) := k434 _ _ a582 
          have a584 : f440 ke = some (.inr (6, [.ref kn, .ref vq, .int (nI ks)])) := (k442 _ (z_nn u439 a583)).trans a583
          have a585 : f445 ke = some (.inr (6, [.ref kn, .ref vq, .int (nI ks)])) := (k447 _ (z_nn u444 a584)).trans a584
          have a586 : f448 ke = some (.inr (6, [.ref kn, .ref vq, .int (nI ks)])) := (k450 _ (z_nn u444 a584)).trans a585
          have a587 : f451 ke = some (.inr (6, [.ref kn, .ref vq, .int (nI ks)])) := (k453 _ (z_nn u444 a584)).trans a586
          have a588 : f457 ke = some (.inr (6, [.ref kn, .ref vq, .int (nI ks)])) := k460 _ _ a587 (z_nn u439 a583)
          have a589 : f502 ke = some (.inr (6, [.ref kn, .ref vq, .int (nI ks)])) := k514 _ _ a588 (z_ne a588 a466 rfl) (z_ne a588 a473 rfl) (z_ne a588 a482 rfl) (z_nn u439 a583) (fun j9 h8 => (z_ne a588 (F492 j9 h8) rfl))
          have a590 : f1 kn = some (.inl (cy 0, 40, .inl kk)) := k4 _ _ x_kn (z_ne x_kn x_fa rfl)
          have a591 : f7 kn = some (.inl (cy 0, 40, .inl kk)) := k9 _ _ a590 
          have a592 : f426 kn = some (.inl (cy 0, 40, .inl kk)) := k428 _ _ a591 
          have a593 : f432 kn = some (.inl (cy 0, 40, .inl kk)) := k434 _ _ a592 
          have a594 : f440 kn = some (.inl (cy 0, 40, .inl kk)) := (k442 _ (z_nn u439 a593)).trans a593
          have a595 : f445 kn = some (.inl (cy 0, 40, .inl kk)) := (k447 _ (z_nn u444 a594)).trans a594
          have a596 : f448 kn = some (.inl (cy 0, 40, .inl kk)) := (k450 _ (z_nn u444 a594)).trans a595
          have a597 : f451 kn = some (.inl (cy 0, 40, .inl kk)) := (k453 _ (z_nn u444 a594)).trans a596
          have a598 : f457 kn = some (.inl (cy 0, 40, .inl kk)) := k460 _ _ a597 (z_nn u439 a593)
          have a599 : f502 kn = some (.inl (cy 0, 40, .inl kk)) := k514 _ _ a598 (z_ne a598 a466 rfl) (z_ne a598 a473 rfl) (z_ne a598 a482 rfl) (z_nn u439 a593) (fun j9 h8 => (z_ne a598 (F492 j9 h8) rfl))
          have a600 : f1 vq = some (.inl (cy 0, 40, .inl kv)) := k4 _ _ x_vq (z_ne x_vq x_fa rfl)
          have a601 : f7 vq = some (.inl (cy 0, 40, .inl kv)) := k9 _ _ a600 
          have a602 : f426 vq = some (.inl (cy 0, 40, .inl kv)) := k428 _ _ a601 
          have a603 : f432 vq = some (.inl (cy 0, 40, .inl kv)) := k434 _ _ a602 
          have a604 : f440 vq = some (.inl (cy 0, 40, .inl kv)) := (k442 _ (z_nn u439 a603)).trans a603
          have a605 : f445 vq = some (.inl (cy 0, 40, .inl kv)) := (k447 _ (z_nn u444 a604)).trans a604
          have a606 : f448 vq = some (.inl (cy 0, 40, .inl kv)) := (k450 _ (z_nn u444 a604)).trans a605
          have a607 : f451 vq = some (.inl (cy 0, 40, .inl kv)) := (k453 _ (z_nn u444 a604)).trans a606
          have a608 : f457 vq = some (.inl (cy 0, 40, .inl kv)) := k460 _ _ a607 (z_nn u439 a603)
          have a609 : f502 vq = some (.inl (cy 0, 40, .inl kv)) := k514 _ _ a608 (z_ne a608 a466 rfl) (z_ne a608 a473 rfl) (z_ne a608 a482 rfl) (z_nn u439 a603) (fun j9 h8 => (z_ne a608 (F492 j9 h8) rfl))
          have F610 : ∀ i9 : Nat, i9 < nf → f1 (fq i9) = some (.inr (3, [.ref (fk i9), .int (nI (fz i9))])) := fun i9 h9 => k4 _ _ (hFq i9 h9) (z_ne (hFq i9 h9) x_fa rfl)
          have F611 : ∀ i9 : Nat, i9 < nf → f7 (fq i9) = some (.inr (3, [.ref (fk i9), .int (nI (fz i9))])) := fun i9 h9 => k9 _ _ (F610 i9 h9) 
          have F612 : ∀ i9 : Nat, i9 < nf → f426 (fq i9) = some (.inr (3, [.ref (fk i9), .int (nI (fz i9))])) := fun i9 h9 => k428 _ _ (F611 i9 h9) 
          have F613 : ∀ i9 : Nat, i9 < nf → f432 (fq i9) = some (.inr (3, [.ref (fk i9), .int (nI (fz i9))])) := fun i9 h9 => k434 _ _ (F612 i9 h9) 
          have F614 : ∀ i9 : Nat, i9 < nf → f440 (fq i9) = some (.inr (3, [.ref (fk i9), .int (nI (fz i9))])) := fun i9 h9 => (k442 _ (z_nn u439 (F613 i9 h9))).trans (F613 i9 h9)
          have F615 : ∀ i9 : Nat, i9 < nf → f445 (fq i9) = some (.inr (3, [.ref (fk i9), .int (nI (fz i9))])) := fun i9 h9 => (k447 _ (z_nn u444 (F614 i9 h9))).trans (F614 i9 h9)
          have F616 : ∀ i9 : Nat, i9 < nf → f448 (fq i9) = some (.inr (3, [.ref (fk i9), .int (nI (fz i9))])) := fun i9 h9 => (k450 _ (z_nn u444 (F614 i9 h9))).trans (F615 i9 h9)
          have F617 : ∀ i9 : Nat, i9 < nf → f451 (fq i9) = some (.inr (3, [.ref (fk i9), .int (nI (fz i9))])) := fun i9 h9 => (k453 _ (z_nn u444 (F614 i9 h9))).trans (F616 i9 h9)
          have F618 : ∀ i9 : Nat, i9 < nf → f457 (fq i9) = some (.inr (3, [.ref (fk i9), .int (nI (fz i9))])) := fun i9 h9 => k460 _ _ (F617 i9 h9) (z_nn u439 (F613 i9 h9))
          have F619 : ∀ i9 : Nat, i9 < nf → f502 (fq i9) = some (.inr (3, [.ref (fk i9), .int (nI (fz i9))])) := fun i9 h9 => k514 _ _ (F618 i9 h9) (z_ne (F618 i9 h9) a466 rfl) (z_ne (F618 i9 h9) a473 rfl) (z_ne (F618 i9 h9) a482 rfl) (z_nn u439 (F613 i9 h9)) (fun j9 h8 => (z_ne (F618 i9 h9) (F492 j9 h8) rfl))
          have F620 : ∀ i9 : Nat, i9 < nf → f1 (fk i9) = some (.inl (cy 0, 4, .inl (fc i9))) := fun i9 h9 => k4 _ _ (hFk i9 h9) (z_ne (hFk i9 h9) x_fa rfl)
          have F621 : ∀ i9 : Nat, i9 < nf → f7 (fk i9) = some (.inl (cy 0, 4, .inl (fc i9))) := fun i9 h9 => k9 _ _ (F620 i9 h9) 
          have F622 : ∀ i9 : Nat, i9 < nf → f426 (fk i9) = some (.inl (cy 0, 4, .inl (fc i9))) := fun i9 h9 => k428 _ _ (F621 i9 h9) 
          have F623 : ∀ i9 : Nat, i9 < nf → f432 (fk i9) = some (.inl (cy 0, 4, .inl (fc i9))) := fun i9 h9 => k434 _ _ (F622 i9 h9) 
          have F624 : ∀ i9 : Nat, i9 < nf → f440 (fk i9) = some (.inl (cy 0, 4, .inl (fc i9))) := fun i9 h9 => (k442 _ (z_nn u439 (F623 i9 h9))).trans (F623 i9 h9)
          have F625 : ∀ i9 : Nat, i9 < nf → f445 (fk i9) = some (.inl (cy 0, 4, .inl (fc i9))) := fun i9 h9 => (k447 _ (z_nn u444 (F624 i9 h9))).trans (F624 i9 h9)
          have F626 : ∀ i9 : Nat, i9 < nf → f448 (fk i9) = some (.inl (cy 0, 4, .inl (fc i9))) := fun i9 h9 => (k450 _ (z_nn u444 (F624 i9 h9))).trans (F625 i9 h9)
          have F627 : ∀ i9 : Nat, i9 < nf → f451 (fk i9) = some (.inl (cy 0, 4, .inl (fc i9))) := fun i9 h9 => (k453 _ (z_nn u444 (F624 i9 h9))).trans (F626 i9 h9)
          have F628 : ∀ i9 : Nat, i9 < nf → f457 (fk i9) = some (.inl (cy 0, 4, .inl (fc i9))) := fun i9 h9 => k460 _ _ (F627 i9 h9) (z_nn u439 (F623 i9 h9))
          have F629 : ∀ i9 : Nat, i9 < nf → f502 (fk i9) = some (.inl (cy 0, 4, .inl (fc i9))) := fun i9 h9 => k514 _ _ (F628 i9 h9) (z_ne (F628 i9 h9) a466 rfl) (z_ne (F628 i9 h9) a473 rfl) (z_ne (F628 i9 h9) a482 rfl) (z_nn u439 (F623 i9 h9)) (fun j9 h8 => (z_ne (F628 i9 h9) (F492 j9 h8) rfl))
          have F630 : ∀ i9 : Nat, i9 < nc → f1 (cn i9) = some (.inr (0, [.int (ce i9), .int (cm i9)])) := fun i9 h9 => k4 _ _ (hCn i9 h9) (z_ne (hCn i9 h9) x_fa rfl)
          have F631 : ∀ i9 : Nat, i9 < nc → f7 (cn i9) = some (.inr (0, [.int (ce i9), .int (cm i9)])) := fun i9 h9 => k9 _ _ (F630 i9 h9) 
          have F632 : ∀ i9 : Nat, i9 < nc → f426 (cn i9) = some (.inr (0, [.int (ce i9), .int (cm i9)])) := fun i9 h9 => k428 _ _ (F631 i9 h9) 
          have F633 : ∀ i9 : Nat, i9 < nc → f432 (cn i9) = some (.inr (0, [.int (ce i9), .int (cm i9)])) := fun i9 h9 => k434 _ _ (F632 i9 h9) 
          have F634 : ∀ i9 : Nat, i9 < nc → f440 (cn i9) = some (.inr (0, [.int (ce i9), .int (cm i9)])) := fun i9 h9 => (k442 _ (z_nn u439 (F633 i9 h9))).trans (F633 i9 h9)
          have F635 : ∀ i9 : Nat, i9 < nc → f445 (cn i9) = some (.inr (0, [.int (ce i9), .int (cm i9)])) := fun i9 h9 => (k447 _ (z_nn u444 (F634 i9 h9))).trans (F634 i9 h9)
          have F636 : ∀ i9 : Nat, i9 < nc → f448 (cn i9) = some (.inr (0, [.int (ce i9), .int (cm i9)])) := fun i9 h9 => (k450 _ (z_nn u444 (F634 i9 h9))).trans (F635 i9 h9)
          have F637 : ∀ i9 : Nat, i9 < nc → f451 (cn i9) = some (.inr (0, [.int (ce i9), .int (cm i9)])) := fun i9 h9 => (k453 _ (z_nn u444 (F634 i9 h9))).trans (F636 i9 h9)
          have F638 : ∀ i9 : Nat, i9 < nc → f457 (cn i9) = some (.inr (0, [.int (ce i9), .int (cm i9)])) := fun i9 h9 => k460 _ _ (F637 i9 h9) (z_nn u439 (F633 i9 h9))
          have F639 : ∀ i9 : Nat, i9 < nc → f502 (cn i9) = some (.inr (0, [.int (ce i9), .int (cm i9)])) := fun i9 h9 => k514 _ _ (F638 i9 h9) (z_ne (F638 i9 h9) a466 rfl) (z_ne (F638 i9 h9) a473 rfl) (z_ne (F638 i9 h9) a482 rfl) (z_nn u439 (F633 i9 h9)) (fun j9 h8 => (z_ne (F638 i9 h9) (F492 j9 h8) rfl))
          have F640 : ∀ i9 : Nat, i9 < 4 → f1 (ea i9) = some (.inr (1, [.ref (ma i9), .int (nI (sq i9))])) := fun i9 h9 => k4 _ _ (hEa i9 h9) (z_ne (hEa i9 h9) x_fa rfl)
          have F641 : ∀ i9 : Nat, i9 < 4 → f7 (ea i9) = some (.inr (1, [.ref (ma i9), .int (nI (sq i9))])) := fun i9 h9 => k9 _ _ (F640 i9 h9) 
          have F642 : ∀ i9 : Nat, i9 < 4 → f426 (ea i9) = some (.inr (1, [.ref (ma i9), .int (nI (sq i9))])) := fun i9 h9 => k428 _ _ (F641 i9 h9) 
          have F643 : ∀ i9 : Nat, i9 < 4 → f432 (ea i9) = some (.inr (1, [.ref (ma i9), .int (nI (sq i9))])) := fun i9 h9 => k434 _ _ (F642 i9 h9) 
          have F644 : ∀ i9 : Nat, i9 < 4 → f440 (ea i9) = some (.inr (1, [.ref (ma i9), .int (nI (sq i9))])) := fun i9 h9 => (k442 _ (z_nn u439 (F643 i9 h9))).trans (F643 i9 h9)
          have F645 : ∀ i9 : Nat, i9 < 4 → f445 (ea i9) = some (.inr (1, [.ref (ma i9), .int (nI (sq i9))])) := fun i9 h9 => (k447 _ (z_nn u444 (F644 i9 h9))).trans (F644 i9 h9)
          have F646 : ∀ i9 : Nat, i9 < 4 → f448 (ea i9) = some (.inr (1, [.ref (ma i9), .int (nI (sq i9))])) := fun i9 h9 => (k450 _ (z_nn u444 (F644 i9 h9))).trans (F645 i9 h9)
          have F647 : ∀ i9 : Nat, i9 < 4 → f451 (ea i9) = some (.inr (1, [.ref (ma i9), .int (nI (sq i9))])) := fun i9 h9 => (k453 _ (z_nn u444 (F644 i9 h9))).trans (F646 i9 h9)
          have F648 : ∀ i9 : Nat, i9 < 4 → f457 (ea i9) = some (.inr (1, [.ref (ma i9), .int (nI (sq i9))])) := fun i9 h9 => k460 _ _ (F647 i9 h9) (z_nn u439 (F643 i9 h9))
          have F649 : ∀ i9 : Nat, i9 < 4 → f502 (ea i9) = some (.inr (1, [.ref (ma i9), .int (nI (sq i9))])) := fun i9 h9 => k514 _ _ (F648 i9 h9) (z_ne (F648 i9 h9) a466 rfl) (z_ne (F648 i9 h9) a473 rfl) (z_ne (F648 i9 h9) a482 rfl) (z_nn u439 (F643 i9 h9)) (fun j9 h8 => (z_ne (F648 i9 h9) (F492 j9 h8) rfl))
          have F650 : ∀ i9 : Nat, i9 < 4 → f1 (ma i9) = some (.inl (cy 0, 60, .inl (mb i9))) := fun i9 h9 => k4 _ _ (hMa i9 h9) (z_ne (hMa i9 h9) x_fa rfl)
          have F651 : ∀ i9 : Nat, i9 < 4 → f7 (ma i9) = some (.inl (cy 0, 60, .inl (mb i9))) := fun i9 h9 => k9 _ _ (F650 i9 h9) 
          have F652 : ∀ i9 : Nat, i9 < 4 → f426 (ma i9) = some (.inl (cy 0, 60, .inl (mb i9))) := fun i9 h9 => k428 _ _ (F651 i9 h9) 
          have F653 : ∀ i9 : Nat, i9 < 4 → f432 (ma i9) = some (.inl (cy 0, 60, .inl (mb i9))) := fun i9 h9 => k434 _ _ (F652 i9 h9) 
          have F654 : ∀ i9 : Nat, i9 < 4 → f440 (ma i9) = some (.inl (cy 0, 60, .inl (mb i9))) := fun i9 h9 => (k442 _ (z_nn u439 (F653 i9 h9))).trans (F653 i9 h9)
          have F655 : ∀ i9 : Nat, i9 < 4 → f445 (ma i9) = some (.inl (cy 0, 60, .inl (mb i9))) := fun i9 h9 => (k447 _ (z_nn u444 (F654 i9 h9))).trans (F654 i9 h9)
          have F656 : ∀ i9 : Nat, i9 < 4 → f448 (ma i9) = some (.inl (cy 0, 60, .inl (mb i9))) := fun i9 h9 => (k450 _ (z_nn u444 (F654 i9 h9))).trans (F655 i9 h9)
          have F657 : ∀ i9 : Nat, i9 < 4 → f451 (ma i9) = some (.inl (cy 0, 60, .inl (mb i9))) := fun i9 h9 => (k453 _ (z_nn u444 (F654 i9 h9))).trans (F656 i9 h9)
          have F658 : ∀ i9 : Nat, i9 < 4 → f457 (ma i9) = some (.inl (cy 0, 60, .inl (mb i9))) := fun i9 h9 => k460 _ _ (F657 i9 h9) (z_nn u439 (F653 i9 h9))
          have F659 : ∀ i9 : Nat, i9 < 4 → f502 (ma i9) = some (.inl (cy 0, 60, .inl (mb i9))) := fun i9 h9 => k514 _ _ (F658 i9 h9) (z_ne (F658 i9 h9) a466 rfl) (z_ne (F658 i9 h9) a473 rfl) (z_ne (F658 i9 h9) a482 rfl) (z_nn u439 (F653 i9 h9)) (fun j9 h8 => (z_ne (F658 i9 h9) (F492 j9 h8) rfl))
          exact z_iret C hr rfl hz hS ⟨0, (-1), 0, gv, nl, gu, (nn + 1), (va_up ga nn (some q438)), gr_506, (va_up fg nn q438), (va_up pt nn q443), (va_up kd nn 4), (va_up ln nn 2), (va_up pp nn (vp_updL (vp_updL (fun _ => 0) 0 x.toInt64) 1 y.toInt64)), (va_up wg nn 0), (va_up wd nn 0), (va_up hs nn hq_504), (va_up bf_507 nn bq_505), nf, gf, fq, fk, fz, fc, nc, gc, cn, ce, cm, sq, mb, ks, kk, kv, lk, rfl, (by rw [if_pos (nI_pos' (by omega))]), ⟨a520, a529, a539, a509, a510, a511, a549, a559, a569, a579, a589, a599, a609, F512, F513, F619, F629, F639, F649, F659, (by omega), hl12, hf6, hc60, hs40, (z_ga1 hga), (z_gr1 p508), (z_up1 (P := fun _ a9 => a9 ≤ 15) hln (by omega)), (z_up2 (P := fun (a9 : Int32) (b9 : Nat) => a9 = 5 → 3 ≤ b9) hk5 (fun h9 => absurd h9 (by decide))), (z_up2 (P := fun (a9 : Int32) (b9 : Nat) => a9 = 4 → 2 ≤ b9) hk4 (fun _ => by omega)), (z_inj1 hfi (fun j9 h9 => z_nn u439 (F487 j9 h9))), (z_inj1 hpi (fun j9 h9 => z_nn u444 (F497 j9 h9))), har, hgf, hfz, hgc, hG, hsq, hei, hmi, kne, hca, hcr, hlk⟩⟩ (Nat.le_of_ble_eq_true rfl) (Nat.le_of_ble_eq_true rfl) dX7_pair_89
        · refine lv_aload_n hx hb dX7_pair_50 rfl (lv_at hl 0 rfl) ?_
          have a660 : f432 o = some (.inr (7, [.ref fa, .ref fi, .ref nu, .int (nI nl), .ref fm, .int (nI nf), .ref co, .int (nI nc), .ref en, .ref ke, .long lk])) := k434 _ _ a430 
          refine z_get (v := .ref fa) C hz a660 zl7 mFX7_10 (by decide) rfl dX7_pair_51 ?_
          refine lv_iconst (v := 1) hx hb dX7_pair_54 (by decide) ?_
          refine lv_iconst (v := 0) hx hb dX7_pair_55 (by decide) ?_
          have a661 : f7 fa = some (.inr (2, [.int 0, .int (-1), .int 0, .ref ev])) := k9 _ _ a3 
          have a662 : f426 fa = some (.inr (2, [.int 0, .int (-1), .int 0, .ref ev])) := k428 _ _ a661 
          have a663 : f432 fa = some (.inr (2, [.int 0, .int (-1), .int 0, .ref ev])) := k434 _ _ a662 
          have a664 : f1 ev = some (.inl (cy 0, 8, .inl gv)) := k4 _ _ x_ev (z_ne x_ev x_fa rfl)
          have a665 : f7 ev = some (.inl (cy 0, 8, .inl gv)) := k9 _ _ a664 
          have a666 : f426 ev = some (.inl (cy 0, 8, .inl gv)) := k428 _ _ a665 
          have a667 : f432 ev = some (.inl (cy 0, 8, .inl gv)) := k434 _ _ a666 
          refine z_callVi (As := [.int 1, .int 0]) C hz hS hA hl (k_X2_inPart l D cy f432 fa 1 0 0 (-1) 0 ev gv 1 a663 a667 (by decide) (Nat.le_of_ble_eq_true rfl)) zyX2_inPart mMX7_104 a663 zl2 rfl rfl (Nat.le_of_ble_eq_true rfl) ⟨Nat.le_of_ble_eq_true rfl, Nat.le_of_ble_eq_true rfl⟩ ⟨Nat.le_of_ble_eq_true rfl, Nat.le_of_ble_eq_true rfl⟩ dX7_pair_56 (fun r f668 H locs h669 hz hS => ?_)
          obtain ⟨rfl, a670, a671, k672⟩ := h669
          have a673 : f668 o = some (.inr (7, [.ref fa, .ref fi, .ref nu, .int (nI nl), .ref fm, .int (nI nf), .ref co, .int (nI nc), .ref en, .ref ke, .long lk])) := k672 _ _ a660 (z_ne a660 a663 rfl) (z_ne a660 a667 rfl)
          have a674 : f432 fi = some (.inr (5, [.ref al, .ref ra, .int (nI nn)])) := k434 _ _ a431 
          have a675 : f668 fi = some (.inr (5, [.ref al, .ref ra, .int (nI nn)])) := k672 _ _ a674 (z_ne a674 a663 rfl) (z_ne a674 a667 rfl)
          have a676 : f426 al = some (.inl (cy 3, 60, .inr (.inr (.inr (.inr ga))))) := k428 _ _ a425 
          have a677 : f432 al = some (.inl (cy 3, 60, .inr (.inr (.inr (.inr ga))))) := k434 _ _ a676 
          have a678 : f668 al = some (.inl (cy 3, 60, .inr (.inr (.inr (.inr ga))))) := k672 _ _ a677 (z_ne a677 a663 rfl) (z_ne a677 a667 rfl)
          have a679 : f1 ra = some (.inl (cy 3, 60, .inr (.inr (.inr (.inr gr))))) := k4 _ _ x_ra (z_ne x_ra x_fa rfl)
          have a680 : f7 ra = some (.inl (cy 3, 60, .inr (.inr (.inr (.inr gr))))) := k9 _ _ a679 
          have a681 : f426 ra = some (.inl (cy 3, 60, .inr (.inr (.inr (.inr gr))))) := k428 _ _ a680 
          have a682 : f432 ra = some (.inl (cy 3, 60, .inr (.inr (.inr (.inr gr))))) := k434 _ _ a681 
          have a683 : f668 ra = some (.inl (cy 3, 60, .inr (.inr (.inr (.inr gr))))) := k672 _ _ a682 (z_ne a682 a663 rfl) (z_ne a682 a667 rfl)
          have a684 : f1 nu = some (.inl (cy 0, 12, .inl gu)) := k4 _ _ x_nu (z_ne x_nu x_fa rfl)
          have a685 : f7 nu = some (.inl (cy 0, 12, .inl gu)) := k9 _ _ a684 
          have a686 : f426 nu = some (.inl (cy 0, 12, .inl gu)) := k428 _ _ a685 
          have a687 : f432 nu = some (.inl (cy 0, 12, .inl gu)) := k434 _ _ a686 
          have a688 : f668 nu = some (.inl (cy 0, 12, .inl gu)) := k672 _ _ a687 (z_ne a687 a663 rfl) (z_ne a687 a667 rfl)
          have a689 : f1 fm = some (.inl (cy 4, 6, .inr (.inr (.inr (.inr gf))))) := k4 _ _ x_fm (z_ne x_fm x_fa rfl)
          have a690 : f7 fm = some (.inl (cy 4, 6, .inr (.inr (.inr (.inr gf))))) := k9 _ _ a689 
          have a691 : f426 fm = some (.inl (cy 4, 6, .inr (.inr (.inr (.inr gf))))) := k428 _ _ a690 
          have a692 : f432 fm = some (.inl (cy 4, 6, .inr (.inr (.inr (.inr gf))))) := k434 _ _ a691 
          have a693 : f668 fm = some (.inl (cy 4, 6, .inr (.inr (.inr (.inr gf))))) := k672 _ _ a692 (z_ne a692 a663 rfl) (z_ne a692 a667 rfl)
          have a694 : f1 co = some (.inl (cy 5, 60, .inr (.inr (.inr (.inr gc))))) := k4 _ _ x_co (z_ne x_co x_fa rfl)
          have a695 : f7 co = some (.inl (cy 5, 60, .inr (.inr (.inr (.inr gc))))) := k9 _ _ a694 
          have a696 : f426 co = some (.inl (cy 5, 60, .inr (.inr (.inr (.inr gc))))) := k428 _ _ a695 
          have a697 : f432 co = some (.inl (cy 5, 60, .inr (.inr (.inr (.inr gc))))) := k434 _ _ a696 
          have a698 : f668 co = some (.inl (cy 5, 60, .inr (.inr (.inr (.inr gc))))) := k672 _ _ a697 (z_ne a697 a663 rfl) (z_ne a697 a667 rfl)
          have a699 : f1 en = some (.inl (cy 6, 4, .inr (.inr (.inr (.inr ge))))) := k4 _ _ x_en (z_ne x_en x_fa rfl)
          have a700 : f7 en = some (.inl (cy 6, 4, .inr (.inr (.inr (.inr ge))))) := k9 _ _ a699 
          have a701 : f426 en = some (.inl (cy 6, 4, .inr (.inr (.inr (.inr ge))))) := k428 _ _ a700 
          have a702 : f432 en = some (.inl (cy 6, 4, .inr (.inr (.inr (.inr ge))))) := k434 _ _ a701 
          have a703 : f668 en = some (.inl (cy 6, 4, .inr (.inr (.inr (.inr ge))))) := k672 _ _ a702 (z_ne a702 a663 rfl) (z_ne a702 a667 rfl)
          have a704 : f1 ke = some (.inr (6, [.ref kn, .ref vq, .int (nI ks)])) := k4 _ _ x_ke (z_ne x_ke x_fa rfl)
          have a705 : f7 ke = some (.inr (6, [.ref kn, .ref vq, .int (nI ks)])) := k9 _ _ a704 
          have a706 : f426 ke = some (.inr (6, [.ref kn, .ref vq, .int (nI ks)])) := k428 _ _ a705 
          have a707 : f432 ke = some (.inr (6, [.ref kn, .ref vq, .int (nI ks)])) := k434 _ _ a706 
          have a708 : f668 ke = some (.inr (6, [.ref kn, .ref vq, .int (nI ks)])) := k672 _ _ a707 (z_ne a707 a663 rfl) (z_ne a707 a667 rfl)
          have a709 : f1 kn = some (.inl (cy 0, 40, .inl kk)) := k4 _ _ x_kn (z_ne x_kn x_fa rfl)
          have a710 : f7 kn = some (.inl (cy 0, 40, .inl kk)) := k9 _ _ a709 
          have a711 : f426 kn = some (.inl (cy 0, 40, .inl kk)) := k428 _ _ a710 
          have a712 : f432 kn = some (.inl (cy 0, 40, .inl kk)) := k434 _ _ a711 
          have a713 : f668 kn = some (.inl (cy 0, 40, .inl kk)) := k672 _ _ a712 (z_ne a712 a663 rfl) (z_ne a712 a667 rfl)
          have a714 : f1 vq = some (.inl (cy 0, 40, .inl kv)) := k4 _ _ x_vq (z_ne x_vq x_fa rfl)
          have a715 : f7 vq = some (.inl (cy 0, 40, .inl kv)) := k9 _ _ a714 
          have a716 : f426 vq = some (.inl (cy 0, 40, .inl kv)) := k428 _ _ a715 
          have a717 : f432 vq = some (.inl (cy 0, 40, .inl kv)) := k434 _ _ a716 
          have a718 : f668 vq = some (.inl (cy 0, 40, .inl kv)) := k672 _ _ a717 (z_ne a717 a663 rfl) (z_ne a717 a667 rfl)
          have F719 : ∀ i9 : Nat, i9 < nn → f1 (fg i9) = some (.inr (4, [.int (kd i9), .ref (pt i9), .long (wg i9), .int (wd i9), .int (nI i9), .int (hs i9), .int (bf i9)])) := fun i9 h9 => k4 _ _ (hF i9 h9) (z_ne (hF i9 h9) x_fa rfl)
          have F720 : ∀ i9 : Nat, i9 < nn → f7 (fg i9) = some (.inr (4, [.int (kd i9), .ref (pt i9), .long (wg i9), .int (wd i9), .int (nI i9), .int (hs i9), .int (bf i9)])) := fun i9 h9 => k9 _ _ (F719 i9 h9) 
          have F721 : ∀ i9 : Nat, i9 < nn → f426 (fg i9) = some (.inr (4, [.int (kd i9), .ref (pt i9), .long (wg i9), .int (wd i9), .int (nI i9), .int (hs i9), .int (bf i9)])) := fun i9 h9 => k428 _ _ (F720 i9 h9) 
          have F722 : ∀ i9 : Nat, i9 < nn → f432 (fg i9) = some (.inr (4, [.int (kd i9), .ref (pt i9), .long (wg i9), .int (wd i9), .int (nI i9), .int (hs i9), .int (bf i9)])) := fun i9 h9 => k434 _ _ (F721 i9 h9) 
          have F723 : ∀ i9 : Nat, i9 < nn → f668 (fg i9) = some (.inr (4, [.int (kd i9), .ref (pt i9), .long (wg i9), .int (wd i9), .int (nI i9), .int (hs i9), .int (bf i9)])) := fun i9 h9 => k672 _ _ (F722 i9 h9) (z_ne (F722 i9 h9) a663 rfl) (z_ne (F722 i9 h9) a667 rfl)
          have F724 : ∀ i9 : Nat, i9 < nn → f1 (pt i9) = some (.inl (cy 1, (ln i9), .inr (.inl (pp i9)))) := fun i9 h9 => k4 _ _ (hP i9 h9) (z_neO (hP i9 h9) x_fa rfl)
          have F725 : ∀ i9 : Nat, i9 < nn → f7 (pt i9) = some (.inl (cy 1, (ln i9), .inr (.inl (pp i9)))) := fun i9 h9 => k9 _ _ (F724 i9 h9) 
          have F726 : ∀ i9 : Nat, i9 < nn → f426 (pt i9) = some (.inl (cy 1, (ln i9), .inr (.inl (pp i9)))) := fun i9 h9 => k428 _ _ (F725 i9 h9) 
          have F727 : ∀ i9 : Nat, i9 < nn → f432 (pt i9) = some (.inl (cy 1, (ln i9), .inr (.inl (pp i9)))) := fun i9 h9 => k434 _ _ (F726 i9 h9) 
          have F728 : ∀ i9 : Nat, i9 < nn → f668 (pt i9) = some (.inl (cy 1, (ln i9), .inr (.inl (pp i9)))) := fun i9 h9 => k672 _ _ (F727 i9 h9) (z_neO (F727 i9 h9) a663 rfl) (z_neA (F727 i9 h9) a667 rfl)
          have F729 : ∀ i9 : Nat, i9 < nf → f1 (fq i9) = some (.inr (3, [.ref (fk i9), .int (nI (fz i9))])) := fun i9 h9 => k4 _ _ (hFq i9 h9) (z_ne (hFq i9 h9) x_fa rfl)
          have F730 : ∀ i9 : Nat, i9 < nf → f7 (fq i9) = some (.inr (3, [.ref (fk i9), .int (nI (fz i9))])) := fun i9 h9 => k9 _ _ (F729 i9 h9) 
          have F731 : ∀ i9 : Nat, i9 < nf → f426 (fq i9) = some (.inr (3, [.ref (fk i9), .int (nI (fz i9))])) := fun i9 h9 => k428 _ _ (F730 i9 h9) 
          have F732 : ∀ i9 : Nat, i9 < nf → f432 (fq i9) = some (.inr (3, [.ref (fk i9), .int (nI (fz i9))])) := fun i9 h9 => k434 _ _ (F731 i9 h9) 
          have F733 : ∀ i9 : Nat, i9 < nf → f668 (fq i9) = some (.inr (3, [.ref (fk i9), .int (nI (fz i9))])) := fun i9 h9 => k672 _ _ (F732 i9 h9) (z_ne (F732 i9 h9) a663 rfl) (z_ne (F732 i9 h9) a667 rfl)
          have F734 : ∀ i9 : Nat, i9 < nf → f1 (fk i9) = some (.inl (cy 0, 4, .inl (fc i9))) := fun i9 h9 => k4 _ _ (hFk i9 h9) (z_ne (hFk i9 h9) x_fa rfl)
          have F735 : ∀ i9 : Nat, i9 < nf → f7 (fk i9) = some (.inl (cy 0, 4, .inl (fc i9))) := fun i9 h9 => k9 _ _ (F734 i9 h9) 
          have F736 : ∀ i9 : Nat, i9 < nf → f426 (fk i9) = some (.inl (cy 0, 4, .inl (fc i9))) := fun i9 h9 => k428 _ _ (F735 i9 h9) 
          have F737 : ∀ i9 : Nat, i9 < nf → f432 (fk i9) = some (.inl (cy 0, 4, .inl (fc i9))) := fun i9 h9 => k434 _ _ (F736 i9 h9) 
          have F738 : ∀ i9 : Nat, i9 < nf → f668 (fk i9) = some (.inl (cy 0, 4, .inl (fc i9))) := fun i9 h9 => k672 _ _ (F737 i9 h9) (z_ne (F737 i9 h9) a663 rfl) (z_ne (F737 i9 h9) a667 rfl)
          have F739 : ∀ i9 : Nat, i9 < nc → f1 (cn i9) = some (.inr (0, [.int (ce i9), .int (cm i9)])) := fun i9 h9 => k4 _ _ (hCn i9 h9) (z_ne (hCn i9 h9) x_fa rfl)
          have F740 : ∀ i9 : Nat, i9 < nc → f7 (cn i9) = some (.inr (0, [.int (ce i9), .int (cm i9)])) := fun i9 h9 => k9 _ _ (F739 i9 h9) 
          have F741 : ∀ i9 : Nat, i9 < nc → f426 (cn i9) = some (.inr (0, [.int (ce i9), .int (cm i9)])) := fun i9 h9 => k428 _ _ (F740 i9 h9) 
          have F742 : ∀ i9 : Nat, i9 < nc → f432 (cn i9) = some (.inr (0, [.int (ce i9), .int (cm i9)])) := fun i9 h9 => k434 _ _ (F741 i9 h9) 
          have F743 : ∀ i9 : Nat, i9 < nc → f668 (cn i9) = some (.inr (0, [.int (ce i9), .int (cm i9)])) := fun i9 h9 => k672 _ _ (F742 i9 h9) (z_ne (F742 i9 h9) a663 rfl) (z_ne (F742 i9 h9) a667 rfl)
          have F744 : ∀ i9 : Nat, i9 < 4 → f1 (ea i9) = some (.inr (1, [.ref (ma i9), .int (nI (sq i9))])) := fun i9 h9 => k4 _ _ (hEa i9 h9) (z_ne (hEa i9 h9) x_fa rfl)
          have F745 : ∀ i9 : Nat, i9 < 4 → f7 (ea i9) = some (.inr (1, [.ref (ma i9), .int (nI (sq i9))])) := fun i9 h9 => k9 _ _ (F744 i9 h9) 
          have F746 : ∀ i9 : Nat, i9 < 4 → f426 (ea i9) = some (.inr (1, [.ref (ma i9), .int (nI (sq i9))])) := fun i9 h9 => k428 _ _ (F745 i9 h9) 
          have F747 : ∀ i9 : Nat, i9 < 4 → f432 (ea i9) = some (.inr (1, [.ref (ma i9), .int (nI (sq i9))])) := fun i9 h9 => k434 _ _ (F746 i9 h9) 
          have F748 : ∀ i9 : Nat, i9 < 4 → f668 (ea i9) = some (.inr (1, [.ref (ma i9), .int (nI (sq i9))])) := fun i9 h9 => k672 _ _ (F747 i9 h9) (z_ne (F747 i9 h9) a663 rfl) (z_ne (F747 i9 h9) a667 rfl)
          have F749 : ∀ i9 : Nat, i9 < 4 → f1 (ma i9) = some (.inl (cy 0, 60, .inl (mb i9))) := fun i9 h9 => k4 _ _ (hMa i9 h9) (z_ne (hMa i9 h9) x_fa rfl)
          have F750 : ∀ i9 : Nat, i9 < 4 → f7 (ma i9) = some (.inl (cy 0, 60, .inl (mb i9))) := fun i9 h9 => k9 _ _ (F749 i9 h9) 
          have F751 : ∀ i9 : Nat, i9 < 4 → f426 (ma i9) = some (.inl (cy 0, 60, .inl (mb i9))) := fun i9 h9 => k428 _ _ (F750 i9 h9) 
          have F752 : ∀ i9 : Nat, i9 < 4 → f432 (ma i9) = some (.inl (cy 0, 60, .inl (mb i9))) := fun i9 h9 => k434 _ _ (F751 i9 h9) 
          have F753 : ∀ i9 : Nat, i9 < 4 → f668 (ma i9) = some (.inl (cy 0, 60, .inl (mb i9))) := fun i9 h9 => k672 _ _ (F752 i9 h9) (z_ne (F752 i9 h9) a663 rfl) (z_ne (F752 i9 h9) a667 rfl)
          exact z_iret C hr rfl hz hS ⟨1, 0, 0, (upd gv 1 (gv 1 + 1)), nl, gu, nn, ga, gr, fg, pt, kd, ln, pp, wg, wd, hs, bf, nf, gf, fq, fk, fz, fc, nc, gc, cn, ce, cm, sq, mb, ks, kk, kv, lk, rfl, (by rw [if_neg (by decide)]), ⟨a673, a670, a671, a675, a678, a683, a688, a693, a698, a703, a708, a713, a718, F723, F728, F733, F738, F743, F748, F753, hn60, hl12, hf6, hc60, hs40, hga, hgr, hln, hk5, hk4, hfi, hpi, har, hgf, hfz, hgc, hG, hsq, hei, hmi, kne, hca, hcr, hlk⟩⟩ (Nat.le_of_ble_eq_true rfl) (Nat.le_of_ble_eq_true rfl) dX7_pair_59
      · have a754 : f426 fi = some (.inr (5, [.ref al, .ref ra, .int (nI nn)])) := k428 _ _ a423 
        refine z_callVi (As := []) C hz hS hA hl (k_X5_isFull_B l D cy f426 fi al ra nn a754 hn60 h60) zyX5_isFull mMX7_79 a754 zl5 rfl rfl (Nat.le_of_ble_eq_true rfl) ⟨Nat.le_of_ble_eq_true rfl, Nat.le_of_ble_eq_true rfl⟩ ⟨Nat.le_of_ble_eq_true rfl, Nat.le_of_ble_eq_true rfl⟩ dX7_pair_36 (fun r f755 H locs h756 hz hS => ?_)
        obtain ⟨rfl, k757⟩ := h756
        refine lv_if_eq (tgt := 45) hx hb dX7_pair_39 (by decide) (fun c758 => ?_) (fun c758 => ?_)
        · exact absurd c758 (by decide)
        refine lv_bipush (v := (-3)) hx hb dX7_pair_42 (by decide) ?_
        have a759 : f755 o = some (.inr (7, [.ref fa, .ref fi, .ref nu, .int (nI nl), .ref fm, .int (nI nf), .ref co, .int (nI nc), .ref en, .ref ke, .long lk])) := k757 _ _ a430 
        have a760 : f7 fa = some (.inr (2, [.int 0, .int (-1), .int 0, .ref ev])) := k9 _ _ a3 
        have a761 : f426 fa = some (.inr (2, [.int 0, .int (-1), .int 0, .ref ev])) := k428 _ _ a760 
        have a762 : f755 fa = some (.inr (2, [.int 0, .int (-1), .int 0, .ref ev])) := k757 _ _ a761 
        have a763 : f1 ev = some (.inl (cy 0, 8, .inl gv)) := k4 _ _ x_ev (z_ne x_ev x_fa rfl)
        have a764 : f7 ev = some (.inl (cy 0, 8, .inl gv)) := k9 _ _ a763 
        have a765 : f426 ev = some (.inl (cy 0, 8, .inl gv)) := k428 _ _ a764 
        have a766 : f755 ev = some (.inl (cy 0, 8, .inl gv)) := k757 _ _ a765 
        have a767 : f755 fi = some (.inr (5, [.ref al, .ref ra, .int (nI nn)])) := k757 _ _ a754 
        have a768 : f426 al = some (.inl (cy 3, 60, .inr (.inr (.inr (.inr ga))))) := k428 _ _ a425 
        have a769 : f755 al = some (.inl (cy 3, 60, .inr (.inr (.inr (.inr ga))))) := k757 _ _ a768 
        have a770 : f1 ra = some (.inl (cy 3, 60, .inr (.inr (.inr (.inr gr))))) := k4 _ _ x_ra (z_ne x_ra x_fa rfl)
        have a771 : f7 ra = some (.inl (cy 3, 60, .inr (.inr (.inr (.inr gr))))) := k9 _ _ a770 
        have a772 : f426 ra = some (.inl (cy 3, 60, .inr (.inr (.inr (.inr gr))))) := k428 _ _ a771 
        have a773 : f755 ra = some (.inl (cy 3, 60, .inr (.inr (.inr (.inr gr))))) := k757 _ _ a772 
        have a774 : f1 nu = some (.inl (cy 0, 12, .inl gu)) := k4 _ _ x_nu (z_ne x_nu x_fa rfl)
        have a775 : f7 nu = some (.inl (cy 0, 12, .inl gu)) := k9 _ _ a774 
        have a776 : f426 nu = some (.inl (cy 0, 12, .inl gu)) := k428 _ _ a775 
        have a777 : f755 nu = some (.inl (cy 0, 12, .inl gu)) := k757 _ _ a776 
        have a778 : f1 fm = some (.inl (cy 4, 6, .inr (.inr (.inr (.inr gf))))) := k4 _ _ x_fm (z_ne x_fm x_fa rfl)
        have a779 : f7 fm = some (.inl (cy 4, 6, .inr (.inr (.inr (.inr gf))))) := k9 _ _ a778 
        have a780 : f426 fm = some (.inl (cy 4, 6, .inr (.inr (.inr (.inr gf))))) := k428 _ _ a779 
        have a781 : f755 fm = some (.inl (cy 4, 6, .inr (.inr (.inr (.inr gf))))) := k757 _ _ a780 
        have a782 : f1 co = some (.inl (cy 5, 60, .inr (.inr (.inr (.inr gc))))) := k4 _ _ x_co (z_ne x_co x_fa rfl)
        have a783 : f7 co = some (.inl (cy 5, 60, .inr (.inr (.inr (.inr gc))))) := k9 _ _ a782 
        have a784 : f426 co = some (.inl (cy 5, 60, .inr (.inr (.inr (.inr gc))))) := k428 _ _ a783 
        have a785 : f755 co = some (.inl (cy 5, 60, .inr (.inr (.inr (.inr gc))))) := k757 _ _ a784 
        have a786 : f1 en = some (.inl (cy 6, 4, .inr (.inr (.inr (.inr ge))))) := k4 _ _ x_en (z_ne x_en x_fa rfl)
        have a787 : f7 en = some (.inl (cy 6, 4, .inr (.inr (.inr (.inr ge))))) := k9 _ _ a786 
        have a788 : f426 en = some (.inl (cy 6, 4, .inr (.inr (.inr (.inr ge))))) := k428 _ _ a787 
        have a789 : f755 en = some (.inl (cy 6, 4, .inr (.inr (.inr (.inr ge))))) := k757 _ _ a788 
        have a790 : f1 ke = some (.inr (6, [.ref kn, .ref vq, .int (nI ks)])) := k4 _ _ x_ke (z_ne x_ke x_fa rfl)
        have a791 : f7 ke = some (.inr (6, [.ref kn, .ref vq, .int (nI ks)])) := k9 _ _ a790 
        have a792 : f426 ke = some (.inr (6, [.ref kn, .ref vq, .int (nI ks)])) := k428 _ _ a791 
        have a793 : f755 ke = some (.inr (6, [.ref kn, .ref vq, .int (nI ks)])) := k757 _ _ a792 
        have a794 : f1 kn = some (.inl (cy 0, 40, .inl kk)) := k4 _ _ x_kn (z_ne x_kn x_fa rfl)
        have a795 : f7 kn = some (.inl (cy 0, 40, .inl kk)) := k9 _ _ a794 
        have a796 : f426 kn = some (.inl (cy 0, 40, .inl kk)) := k428 _ _ a795 
        have a797 : f755 kn = some (.inl (cy 0, 40, .inl kk)) := k757 _ _ a796 
        have a798 : f1 vq = some (.inl (cy 0, 40, .inl kv)) := k4 _ _ x_vq (z_ne x_vq x_fa rfl)
        have a799 : f7 vq = some (.inl (cy 0, 40, .inl kv)) := k9 _ _ a798 
        have a800 : f426 vq = some (.inl (cy 0, 40, .inl kv)) := k428 _ _ a799 
        have a801 : f755 vq = some (.inl (cy 0, 40, .inl kv)) := k757 _ _ a800 
        have F802 : ∀ i9 : Nat, i9 < nn → f1 (fg i9) = some (.inr (4, [.int (kd i9), .ref (pt i9), .long (wg i9), .int (wd i9), .int (nI i9), .int (hs i9), .int (bf i9)])) := fun i9 h9 => k4 _ _ (hF i9 h9) (z_ne (hF i9 h9) x_fa rfl)
        have F803 : ∀ i9 : Nat, i9 < nn → f7 (fg i9) = some (.inr (4, [.int (kd i9), .ref (pt i9), .long (wg i9), .int (wd i9), .int (nI i9), .int (hs i9), .int (bf i9)])) := fun i9 h9 => k9 _ _ (F802 i9 h9) 
        have F804 : ∀ i9 : Nat, i9 < nn → f426 (fg i9) = some (.inr (4, [.int (kd i9), .ref (pt i9), .long (wg i9), .int (wd i9), .int (nI i9), .int (hs i9), .int (bf i9)])) := fun i9 h9 => k428 _ _ (F803 i9 h9) 
        have F805 : ∀ i9 : Nat, i9 < nn → f755 (fg i9) = some (.inr (4, [.int (kd i9), .ref (pt i9), .long (wg i9), .int (wd i9), .int (nI i9), .int (hs i9), .int (bf i9)])) := fun i9 h9 => k757 _ _ (F804 i9 h9) 
        have F806 : ∀ i9 : Nat, i9 < nn → f1 (pt i9) = some (.inl (cy 1, (ln i9), .inr (.inl (pp i9)))) := fun i9 h9 => k4 _ _ (hP i9 h9) (z_neO (hP i9 h9) x_fa rfl)
        have F807 : ∀ i9 : Nat, i9 < nn → f7 (pt i9) = some (.inl (cy 1, (ln i9), .inr (.inl (pp i9)))) := fun i9 h9 => k9 _ _ (F806 i9 h9) 
        have F808 : ∀ i9 : Nat, i9 < nn → f426 (pt i9) = some (.inl (cy 1, (ln i9), .inr (.inl (pp i9)))) := fun i9 h9 => k428 _ _ (F807 i9 h9) 
        have F809 : ∀ i9 : Nat, i9 < nn → f755 (pt i9) = some (.inl (cy 1, (ln i9), .inr (.inl (pp i9)))) := fun i9 h9 => k757 _ _ (F808 i9 h9) 
        have F810 : ∀ i9 : Nat, i9 < nf → f1 (fq i9) = some (.inr (3, [.ref (fk i9), .int (nI (fz i9))])) := fun i9 h9 => k4 _ _ (hFq i9 h9) (z_ne (hFq i9 h9) x_fa rfl)
        have F811 : ∀ i9 : Nat, i9 < nf → f7 (fq i9) = some (.inr (3, [.ref (fk i9), .int (nI (fz i9))])) := fun i9 h9 => k9 _ _ (F810 i9 h9) 
        have F812 : ∀ i9 : Nat, i9 < nf → f426 (fq i9) = some (.inr (3, [.ref (fk i9), .int (nI (fz i9))])) := fun i9 h9 => k428 _ _ (F811 i9 h9) 
        have F813 : ∀ i9 : Nat, i9 < nf → f755 (fq i9) = some (.inr (3, [.ref (fk i9), .int (nI (fz i9))])) := fun i9 h9 => k757 _ _ (F812 i9 h9) 
        have F814 : ∀ i9 : Nat, i9 < nf → f1 (fk i9) = some (.inl (cy 0, 4, .inl (fc i9))) := fun i9 h9 => k4 _ _ (hFk i9 h9) (z_ne (hFk i9 h9) x_fa rfl)
        have F815 : ∀ i9 : Nat, i9 < nf → f7 (fk i9) = some (.inl (cy 0, 4, .inl (fc i9))) := fun i9 h9 => k9 _ _ (F814 i9 h9) 
        have F816 : ∀ i9 : Nat, i9 < nf → f426 (fk i9) = some (.inl (cy 0, 4, .inl (fc i9))) := fun i9 h9 => k428 _ _ (F815 i9 h9) 
        have F817 : ∀ i9 : Nat, i9 < nf → f755 (fk i9) = some (.inl (cy 0, 4, .inl (fc i9))) := fun i9 h9 => k757 _ _ (F816 i9 h9) 
        have F818 : ∀ i9 : Nat, i9 < nc → f1 (cn i9) = some (.inr (0, [.int (ce i9), .int (cm i9)])) := fun i9 h9 => k4 _ _ (hCn i9 h9) (z_ne (hCn i9 h9) x_fa rfl)
        have F819 : ∀ i9 : Nat, i9 < nc → f7 (cn i9) = some (.inr (0, [.int (ce i9), .int (cm i9)])) := fun i9 h9 => k9 _ _ (F818 i9 h9) 
        have F820 : ∀ i9 : Nat, i9 < nc → f426 (cn i9) = some (.inr (0, [.int (ce i9), .int (cm i9)])) := fun i9 h9 => k428 _ _ (F819 i9 h9) 
        have F821 : ∀ i9 : Nat, i9 < nc → f755 (cn i9) = some (.inr (0, [.int (ce i9), .int (cm i9)])) := fun i9 h9 => k757 _ _ (F820 i9 h9) 
        have F822 : ∀ i9 : Nat, i9 < 4 → f1 (ea i9) = some (.inr (1, [.ref (ma i9), .int (nI (sq i9))])) := fun i9 h9 => k4 _ _ (hEa i9 h9) (z_ne (hEa i9 h9) x_fa rfl)
        have F823 : ∀ i9 : Nat, i9 < 4 → f7 (ea i9) = some (.inr (1, [.ref (ma i9), .int (nI (sq i9))])) := fun i9 h9 => k9 _ _ (F822 i9 h9) 
        have F824 : ∀ i9 : Nat, i9 < 4 → f426 (ea i9) = some (.inr (1, [.ref (ma i9), .int (nI (sq i9))])) := fun i9 h9 => k428 _ _ (F823 i9 h9) 
        have F825 : ∀ i9 : Nat, i9 < 4 → f755 (ea i9) = some (.inr (1, [.ref (ma i9), .int (nI (sq i9))])) := fun i9 h9 => k757 _ _ (F824 i9 h9) 
        have F826 : ∀ i9 : Nat, i9 < 4 → f1 (ma i9) = some (.inl (cy 0, 60, .inl (mb i9))) := fun i9 h9 => k4 _ _ (hMa i9 h9) (z_ne (hMa i9 h9) x_fa rfl)
        have F827 : ∀ i9 : Nat, i9 < 4 → f7 (ma i9) = some (.inl (cy 0, 60, .inl (mb i9))) := fun i9 h9 => k9 _ _ (F826 i9 h9) 
        have F828 : ∀ i9 : Nat, i9 < 4 → f426 (ma i9) = some (.inl (cy 0, 60, .inl (mb i9))) := fun i9 h9 => k428 _ _ (F827 i9 h9) 
        have F829 : ∀ i9 : Nat, i9 < 4 → f755 (ma i9) = some (.inl (cy 0, 60, .inl (mb i9))) := fun i9 h9 => k757 _ _ (F828 i9 h9) 
        exact z_iret C hr rfl hz hS ⟨0, (-1), 0, gv, nl, gu, nn, ga, gr, fg, pt, kd, ln, pp, wg, wd, hs, bf, nf, gf, fq, fk, fz, fc, nc, gc, cn, ce, cm, sq, mb, ks, kk, kv, lk, rfl, (by rw [if_neg (by decide)]), ⟨a759, a762, a766, a767, a769, a773, a777, a781, a785, a789, a793, a797, a801, F805, F809, F813, F817, F821, F825, F829, hn60, hl12, hf6, hc60, hs40, hga, hgr, hln, hk5, hk4, hfi, hpi, har, hgf, hfz, hgc, hG, hsq, hei, hmi, kne, hca, hcr, hlk⟩⟩ (Nat.le_of_ble_eq_true rfl) (Nat.le_of_ble_eq_true rfl) dX7_pair_44
    · have a830 : f7 fi = some (.inr (5, [.ref al, .ref ra, .int (nI nn)])) := k9 _ _ a6 
      refine z_callVi (As := [.int y]) C hz hS hA hl (k_X5_hasOrNone_B l D cy f7 fi al ra nn y a830 hrt hrt2 hn60) zyX5_hasOrNone mMX7_112 a830 zl5 rfl rfl (Nat.le_of_ble_eq_true rfl) ⟨Nat.le_of_ble_eq_true rfl, Nat.le_of_ble_eq_true rfl⟩ ⟨Nat.le_of_ble_eq_true rfl, Nat.le_of_ble_eq_true rfl⟩ dX7_pair_23 (fun r f831 H locs h832 hz hS => ?_)
      obtain ⟨rfl, k833⟩ := h832
      refine lv_if_ne (tgt := 32) hx hb dX7_pair_26 (by decide) (fun c834 => ?_) (fun c834 => ?_)
      · exact absurd c834 (by decide)
      refine lv_bipush (v := (-2)) hx hb dX7_pair_29 (by decide) ?_
      have a835 : f831 o = some (.inr (7, [.ref fa, .ref fi, .ref nu, .int (nI nl), .ref fm, .int (nI nf), .ref co, .int (nI nc), .ref en, .ref ke, .long lk])) := k833 _ _ a11 
      have a836 : f7 fa = some (.inr (2, [.int 0, .int (-1), .int 0, .ref ev])) := k9 _ _ a3 
      have a837 : f831 fa = some (.inr (2, [.int 0, .int (-1), .int 0, .ref ev])) := k833 _ _ a836 
      have a838 : f1 ev = some (.inl (cy 0, 8, .inl gv)) := k4 _ _ x_ev (z_ne x_ev x_fa rfl)
      have a839 : f7 ev = some (.inl (cy 0, 8, .inl gv)) := k9 _ _ a838 
      have a840 : f831 ev = some (.inl (cy 0, 8, .inl gv)) := k833 _ _ a839 
      have a841 : f831 fi = some (.inr (5, [.ref al, .ref ra, .int (nI nn)])) := k833 _ _ a830 
      have a842 : f1 al = some (.inl (cy 3, 60, .inr (.inr (.inr (.inr ga))))) := k4 _ _ x_al (z_ne x_al x_fa rfl)
      have a843 : f7 al = some (.inl (cy 3, 60, .inr (.inr (.inr (.inr ga))))) := k9 _ _ a842 
      have a844 : f831 al = some (.inl (cy 3, 60, .inr (.inr (.inr (.inr ga))))) := k833 _ _ a843 
      have a845 : f1 ra = some (.inl (cy 3, 60, .inr (.inr (.inr (.inr gr))))) := k4 _ _ x_ra (z_ne x_ra x_fa rfl)
      have a846 : f7 ra = some (.inl (cy 3, 60, .inr (.inr (.inr (.inr gr))))) := k9 _ _ a845 
      have a847 : f831 ra = some (.inl (cy 3, 60, .inr (.inr (.inr (.inr gr))))) := k833 _ _ a846 
      have a848 : f1 nu = some (.inl (cy 0, 12, .inl gu)) := k4 _ _ x_nu (z_ne x_nu x_fa rfl)
      have a849 : f7 nu = some (.inl (cy 0, 12, .inl gu)) := k9 _ _ a848 
      have a850 : f831 nu = some (.inl (cy 0, 12, .inl gu)) := k833 _ _ a849 
      have a851 : f1 fm = some (.inl (cy 4, 6, .inr (.inr (.inr (.inr gf))))) := k4 _ _ x_fm (z_ne x_fm x_fa rfl)
      have a852 : f7 fm = some (.inl (cy 4, 6, .inr (.inr (.inr (.inr gf))))) := k9 _ _ a851 
      have a853 : f831 fm = some (.inl (cy 4, 6, .inr (.inr (.inr (.inr gf))))) := k833 _ _ a852 
      have a854 : f1 co = some (.inl (cy 5, 60, .inr (.inr (.inr (.inr gc))))) := k4 _ _ x_co (z_ne x_co x_fa rfl)
      have a855 : f7 co = some (.inl (cy 5, 60, .inr (.inr (.inr (.inr gc))))) := k9 _ _ a854 
      have a856 : f831 co = some (.inl (cy 5, 60, .inr (.inr (.inr (.inr gc))))) := k833 _ _ a855 
      have a857 : f1 en = some (.inl (cy 6, 4, .inr (.inr (.inr (.inr ge))))) := k4 _ _ x_en (z_ne x_en x_fa rfl)
      have a858 : f7 en = some (.inl (cy 6, 4, .inr (.inr (.inr (.inr ge))))) := k9 _ _ a857 
      have a859 : f831 en = some (.inl (cy 6, 4, .inr (.inr (.inr (.inr ge))))) := k833 _ _ a858 
      have a860 : f1 ke = some (.inr (6, [.ref kn, .ref vq, .int (nI ks)])) := k4 _ _ x_ke (z_ne x_ke x_fa rfl)
      have a861 : f7 ke = some (.inr (6, [.ref kn, .ref vq, .int (nI ks)])) := k9 _ _ a860 
      have a862 : f831 ke = some (.inr (6, [.ref kn, .ref vq, .int (nI ks)])) := k833 _ _ a861 
      have a863 : f1 kn = some (.inl (cy 0, 40, .inl kk)) := k4 _ _ x_kn (z_ne x_kn x_fa rfl)
      have a864 : f7 kn = some (.inl (cy 0, 40, .inl kk)) := k9 _ _ a863 
      have a865 : f831 kn = some (.inl (cy 0, 40, .inl kk)) := k833 _ _ a864 
      have a866 : f1 vq = some (.inl (cy 0, 40, .inl kv)) := k4 _ _ x_vq (z_ne x_vq x_fa rfl)
      have a867 : f7 vq = some (.inl (cy 0, 40, .inl kv)) := k9 _ _ a866 
      have a868 : f831 vq = some (.inl (cy 0, 40, .inl kv)) := k833 _ _ a867 
      have F869 : ∀ i9 : Nat, i9 < nn → f1 (fg i9) = some (.inr (4, [.int (kd i9), .ref (pt i9), .long (wg i9), .int (wd i9), .int (nI i9), .int (hs i9), .int (bf i9)])) := fun i9 h9 => k4 _ _ (hF i9 h9) (z_ne (hF i9 h9) x_fa rfl)
      have F870 : ∀ i9 : Nat, i9 < nn → f7 (fg i9) = some (.inr (4, [.int (kd i9), .ref (pt i9), .long (wg i9), .int (wd i9), .int (nI i9), .int (hs i9), .int (bf i9)])) := fun i9 h9 => k9 _ _ (F869 i9 h9) 
      have F871 : ∀ i9 : Nat, i9 < nn → f831 (fg i9) = some (.inr (4, [.int (kd i9), .ref (pt i9), .long (wg i9), .int (wd i9), .int (nI i9), .int (hs i9), .int (bf i9)])) := fun i9 h9 => k833 _ _ (F870 i9 h9) 
      have F872 : ∀ i9 : Nat, i9 < nn → f1 (pt i9) = some (.inl (cy 1, (ln i9), .inr (.inl (pp i9)))) := fun i9 h9 => k4 _ _ (hP i9 h9) (z_neO (hP i9 h9) x_fa rfl)
      have F873 : ∀ i9 : Nat, i9 < nn → f7 (pt i9) = some (.inl (cy 1, (ln i9), .inr (.inl (pp i9)))) := fun i9 h9 => k9 _ _ (F872 i9 h9) 
      have F874 : ∀ i9 : Nat, i9 < nn → f831 (pt i9) = some (.inl (cy 1, (ln i9), .inr (.inl (pp i9)))) := fun i9 h9 => k833 _ _ (F873 i9 h9) 
      have F875 : ∀ i9 : Nat, i9 < nf → f1 (fq i9) = some (.inr (3, [.ref (fk i9), .int (nI (fz i9))])) := fun i9 h9 => k4 _ _ (hFq i9 h9) (z_ne (hFq i9 h9) x_fa rfl)
      have F876 : ∀ i9 : Nat, i9 < nf → f7 (fq i9) = some (.inr (3, [.ref (fk i9), .int (nI (fz i9))])) := fun i9 h9 => k9 _ _ (F875 i9 h9) 
      have F877 : ∀ i9 : Nat, i9 < nf → f831 (fq i9) = some (.inr (3, [.ref (fk i9), .int (nI (fz i9))])) := fun i9 h9 => k833 _ _ (F876 i9 h9) 
      have F878 : ∀ i9 : Nat, i9 < nf → f1 (fk i9) = some (.inl (cy 0, 4, .inl (fc i9))) := fun i9 h9 => k4 _ _ (hFk i9 h9) (z_ne (hFk i9 h9) x_fa rfl)
      have F879 : ∀ i9 : Nat, i9 < nf → f7 (fk i9) = some (.inl (cy 0, 4, .inl (fc i9))) := fun i9 h9 => k9 _ _ (F878 i9 h9) 
      have F880 : ∀ i9 : Nat, i9 < nf → f831 (fk i9) = some (.inl (cy 0, 4, .inl (fc i9))) := fun i9 h9 => k833 _ _ (F879 i9 h9) 
      have F881 : ∀ i9 : Nat, i9 < nc → f1 (cn i9) = some (.inr (0, [.int (ce i9), .int (cm i9)])) := fun i9 h9 => k4 _ _ (hCn i9 h9) (z_ne (hCn i9 h9) x_fa rfl)
      have F882 : ∀ i9 : Nat, i9 < nc → f7 (cn i9) = some (.inr (0, [.int (ce i9), .int (cm i9)])) := fun i9 h9 => k9 _ _ (F881 i9 h9) 
      have F883 : ∀ i9 : Nat, i9 < nc → f831 (cn i9) = some (.inr (0, [.int (ce i9), .int (cm i9)])) := fun i9 h9 => k833 _ _ (F882 i9 h9) 
      have F884 : ∀ i9 : Nat, i9 < 4 → f1 (ea i9) = some (.inr (1, [.ref (ma i9), .int (nI (sq i9))])) := fun i9 h9 => k4 _ _ (hEa i9 h9) (z_ne (hEa i9 h9) x_fa rfl)
      have F885 : ∀ i9 : Nat, i9 < 4 → f7 (ea i9) = some (.inr (1, [.ref (ma i9), .int (nI (sq i9))])) := fun i9 h9 => k9 _ _ (F884 i9 h9) 
      have F886 : ∀ i9 : Nat, i9 < 4 → f831 (ea i9) = some (.inr (1, [.ref (ma i9), .int (nI (sq i9))])) := fun i9 h9 => k833 _ _ (F885 i9 h9) 
      have F887 : ∀ i9 : Nat, i9 < 4 → f1 (ma i9) = some (.inl (cy 0, 60, .inl (mb i9))) := fun i9 h9 => k4 _ _ (hMa i9 h9) (z_ne (hMa i9 h9) x_fa rfl)
      have F888 : ∀ i9 : Nat, i9 < 4 → f7 (ma i9) = some (.inl (cy 0, 60, .inl (mb i9))) := fun i9 h9 => k9 _ _ (F887 i9 h9) 
      have F889 : ∀ i9 : Nat, i9 < 4 → f831 (ma i9) = some (.inl (cy 0, 60, .inl (mb i9))) := fun i9 h9 => k833 _ _ (F888 i9 h9) 
      exact z_iret C hr rfl hz hS ⟨0, (-1), 0, gv, nl, gu, nn, ga, gr, fg, pt, kd, ln, pp, wg, wd, hs, bf, nf, gf, fq, fk, fz, fc, nc, gc, cn, ce, cm, sq, mb, ks, kk, kv, lk, rfl, (by rw [if_neg (by decide)]), ⟨a835, a837, a840, a841, a844, a847, a850, a853, a856, a859, a862, a865, a868, F871, F874, F877, F880, F883, F886, F889, hn60, hl12, hf6, hc60, hs40, hga, hgr, hln, hk5, hk4, hfi, hpi, har, hgf, hfz, hgc, hG, hsq, hei, hmi, kne, hca, hcr, hlk⟩⟩ (Nat.le_of_ble_eq_true rfl) (Nat.le_of_ble_eq_true rfl) dX7_pair_31
  · have a890 : f1 fi = some (.inr (5, [.ref al, .ref ra, .int (nI nn)])) := k4 _ _ x_fi (z_ne x_fi x_fa rfl)
    have a891 : f1 al = some (.inl (cy 3, 60, .inr (.inr (.inr (.inr ga))))) := k4 _ _ x_al (z_ne x_al x_fa rfl)
    refine z_callVi (As := [.int x]) C hz hS hA hl (k_X5_hasOrNone_A l D cy f1 fi al ra ga nn fg jl x a890 a891 hlf hjl hn60 hga) zyX5_hasOrNone mMX7_112 a890 zl5 rfl rfl (Nat.le_of_ble_eq_true rfl) ⟨Nat.le_of_ble_eq_true rfl, Nat.le_of_ble_eq_true rfl⟩ ⟨Nat.le_of_ble_eq_true rfl, Nat.le_of_ble_eq_true rfl⟩ dX7_pair_12 (fun r f892 H locs h893 hz hS => ?_)
    obtain ⟨rfl, k894⟩ := h893
    refine lv_if_eq (tgt := 29) hx hb dX7_pair_15 (by decide) (fun c895 => ?_) (fun c895 => ?_)
    · exact absurd c895 (by decide)
    refine lv_aload_n hx hb dX7_pair_18 rfl (lv_at hl 0 rfl) ?_
    have a896 : f892 o = some (.inr (7, [.ref fa, .ref fi, .ref nu, .int (nI nl), .ref fm, .int (nI nf), .ref co, .int (nI nc), .ref en, .ref ke, .long lk])) := k894 _ _ a5 
    refine z_get (v := .ref fi) C hz a896 zl7 mFX7_19 (by decide) rfl dX7_pair_19 ?_
    refine lv_iload_n hx hb dX7_pair_22 rfl (lv_at hl 2 rfl) ?_
    rcases z_hon y nn with hrt | ⟨jr, hjr, hrt⟩ | ⟨hrt, hrt2⟩
    · have a897 : f892 fi = some (.inr (5, [.ref al, .ref ra, .int (nI nn)])) := k894 _ _ a890 
      refine z_callVi (As := [.int y]) C hz hS hA hl (k_X5_hasOrNone_N l D cy f892 fi al ra nn y a897 hrt) zyX5_hasOrNone mMX7_112 a897 zl5 rfl rfl (Nat.le_of_ble_eq_true rfl) ⟨Nat.le_of_ble_eq_true rfl, Nat.le_of_ble_eq_true rfl⟩ ⟨Nat.le_of_ble_eq_true rfl, Nat.le_of_ble_eq_true rfl⟩ dX7_pair_23 (fun r f898 H locs h899 hz hS => ?_)
      obtain ⟨rfl, k900⟩ := h899
      refine lv_if_ne (tgt := 32) hx hb dX7_pair_26 (by decide) (fun c901 => ?_) (fun c901 => ?_)
      rotate_left
      · exact absurd c901 (by decide)
      refine lv_aload_n hx hb dX7_pair_32 rfl (lv_at hl 0 rfl) ?_
      have a902 : f898 o = some (.inr (7, [.ref fa, .ref fi, .ref nu, .int (nI nl), .ref fm, .int (nI nf), .ref co, .int (nI nc), .ref en, .ref ke, .long lk])) := k900 _ _ a896 
      refine z_get (v := .ref fi) C hz a902 zl7 mFX7_19 (by decide) rfl dX7_pair_33 ?_
      by_cases h60 : nn < 60
      · have a903 : f898 fi = some (.inr (5, [.ref al, .ref ra, .int (nI nn)])) := k900 _ _ a897 
        refine z_callVi (As := []) C hz hS hA hl (k_X5_isFull_A l D cy f898 fi al ra nn a903 hn60 h60) zyX5_isFull mMX7_79 a903 zl5 rfl rfl (Nat.le_of_ble_eq_true rfl) ⟨Nat.le_of_ble_eq_true rfl, Nat.le_of_ble_eq_true rfl⟩ ⟨Nat.le_of_ble_eq_true rfl, Nat.le_of_ble_eq_true rfl⟩ dX7_pair_36 (fun r f904 H locs h905 hz hS => ?_)
        obtain ⟨rfl, k906⟩ := h905
        refine lv_if_eq (tgt := 45) hx hb dX7_pair_39 (by decide) (fun c907 => ?_) (fun c907 => ?_)
        rotate_left
        · exact absurd c907 (by decide)
        refine lv_iload_n hx hb dX7_pair_45 rfl (lv_at hl 1 rfl) ?_
        refine lv_iconst (v := (-1)) hx hb dX7_pair_46 (by decide) ?_
        refine lv_icmp_ne (tgt := 60) hx hb dX7_pair_47 (by decide) (fun c908 => ?_) (fun c908 => ?_)
        · refine lv_aload_n hx hb dX7_pair_60 rfl (lv_at hl 0 rfl) ?_
          have a909 : f904 o = some (.inr (7, [.ref fa, .ref fi, .ref nu, .int (nI nl), .ref fm, .int (nI nf), .ref co, .int (nI nc), .ref en, .ref ke, .long lk])) := k906 _ _ a902 
          refine z_get (v := .ref fi) C hz a909 zl7 mFX7_19 (by decide) rfl dX7_pair_61 ?_
          refine z_new (fs := [.int 0, .null, .long 0, .int 0, .int 0, .int 0, .int 0]) C hz hS hA zl4 mLX7_83 mIa_RX4 mIn_RX4 (by decide +kernel) (Nat.le_of_ble_eq_true rfl) (Nat.le_of_ble_eq_true rfl) dX7_pair_64 (fun q910 H f912 u911 a913 k914 hz hS => ?_)
          refine lv_dup hx hb dX7_pair_67 rfl ?_
          refine lv_iconst (v := 4) hx hb dX7_pair_68 (by decide) ?_
          refine lv_iconst (v := 2) hx hb dX7_pair_69 (by decide) ?_
          refine z_newa (atype := .long) (t0 := 1) (N' := 2) (x := (.inr (.inl (fun _ => 0)))) C hz hS hA rfl mA_long rfl (fun _ => rfl) (by decide) (Nat.le_of_ble_eq_true rfl) (by decide) (Nat.le_of_ble_eq_true rfl) (Nat.le_of_ble_eq_true rfl) dX7_pair_70 (fun q915 H f917 u916 a918 k919 hz hS => ?_)
          refine lv_dup hx hb dX7_pair_72 rfl ?_
          refine lv_iconst (v := 0) hx hb dX7_pair_73 (by decide) ?_
          refine lv_iload_n hx hb dX7_pair_74 rfl (lv_at hl 1 rfl) ?_
          refine lv_i2l (v := x.toInt64) hx hb dX7_pair_75 rfl ?_
          refine z_last 0 C hz hS a918 (by decide) (Nat.le_of_ble_eq_true rfl) (by omega) dX7_pair_76 (fun H locs f920 a921 k922 hz hS => ?_)
          refine lv_dup hx hb dX7_pair_77 rfl ?_
          refine lv_iconst (v := 1) hx hb dX7_pair_78 (by decide) ?_
          refine lv_iload_n hx hb dX7_pair_79 rfl (lv_at hl 2 rfl) ?_
          refine lv_i2l (v := y.toInt64) hx hb dX7_pair_80 rfl ?_
          refine z_last 1 C hz hS a921 (by decide) (Nat.le_of_ble_eq_true rfl) (by omega) dX7_pair_81 (fun H locs f923 a924 k925 hz hS => ?_)
          refine lv_lconst (v := 0) hx hb dX7_pair_82 (by decide) ?_
          have a926 : f917 q910 = some (.inr (4, [.int 0, .null, .long 0, .int 0, .int 0, .int 0, .int 0])) := (k919 _ (z_nn u916 a913)).trans a913
          have a927 : f920 q910 = some (.inr (4, [.int 0, .null, .long 0, .int 0, .int 0, .int 0, .int 0])) := (k922 _ (z_nn u916 a913)).trans a926
          have a928 : f923 q910 = some (.inr (4, [.int 0, .null, .long 0, .int 0, .int 0, .int 0, .int 0])) := (k925 _ (z_nn u916 a913)).trans a927
          refine z_callIv (ret := none) (As := [.int 4, .ref q915, .long 0]) C hz hS hA hl (k_X4_init l D cy f923 q910 4 q915 0 a928 ) zyX4_init mMX7_89 rfl rfl (Nat.le_of_ble_eq_true rfl) ⟨Nat.le_of_ble_eq_true rfl, Nat.le_of_ble_eq_true rfl⟩ ⟨Nat.le_of_ble_eq_true rfl, Nat.le_of_ble_eq_true rfl⟩ dX7_pair_83 (fun  f929 H locs h930 hz hS => ?_)
          obtain ⟨a931, k932⟩ := h930
          have a933 : f904 fi = some (.inr (5, [.ref al, .ref ra, .int (nI nn)])) := k906 _ _ a903 
          have a934 : f912 fi = some (.inr (5, [.ref al, .ref ra, .int (nI nn)])) := (k914 _ (z_nn u911 a933)).trans a933
          have a935 : f917 fi = some (.inr (5, [.ref al, .ref ra, .int (nI nn)])) := (k919 _ (z_nn u916 a934)).trans a934
          have a936 : f920 fi = some (.inr (5, [.ref al, .ref ra, .int (nI nn)])) := (k922 _ (z_nn u916 a934)).trans a935
          have a937 : f923 fi = some (.inr (5, [.ref al, .ref ra, .int (nI nn)])) := (k925 _ (z_nn u916 a934)).trans a936
          have a938 : f929 fi = some (.inr (5, [.ref al, .ref ra, .int (nI nn)])) := k932 _ _ a937 (z_nn u911 a933)
          have a939 : f892 al = some (.inl (cy 3, 60, .inr (.inr (.inr (.inr ga))))) := k894 _ _ a891 
          have a940 : f898 al = some (.inl (cy 3, 60, .inr (.inr (.inr (.inr ga))))) := k900 _ _ a939 
          have a941 : f904 al = some (.inl (cy 3, 60, .inr (.inr (.inr (.inr ga))))) := k906 _ _ a940 
          have a942 : f912 al = some (.inl (cy 3, 60, .inr (.inr (.inr (.inr ga))))) := (k914 _ (z_nn u911 a941)).trans a941
          have a943 : f917 al = some (.inl (cy 3, 60, .inr (.inr (.inr (.inr ga))))) := (k919 _ (z_nn u916 a942)).trans a942
          have a944 : f920 al = some (.inl (cy 3, 60, .inr (.inr (.inr (.inr ga))))) := (k922 _ (z_nn u916 a942)).trans a943
          have a945 : f923 al = some (.inl (cy 3, 60, .inr (.inr (.inr (.inr ga))))) := (k925 _ (z_nn u916 a942)).trans a944
          have a946 : f929 al = some (.inl (cy 3, 60, .inr (.inr (.inr (.inr ga))))) := k932 _ _ a945 (z_nn u911 a941)
          have a947 : f1 ra = some (.inl (cy 3, 60, .inr (.inr (.inr (.inr gr))))) := k4 _ _ x_ra (z_ne x_ra x_fa rfl)
          have a948 : f892 ra = some (.inl (cy 3, 60, .inr (.inr (.inr (.inr gr))))) := k894 _ _ a947 
          have a949 : f898 ra = some (.inl (cy 3, 60, .inr (.inr (.inr (.inr gr))))) := k900 _ _ a948 
          have a950 : f904 ra = some (.inl (cy 3, 60, .inr (.inr (.inr (.inr gr))))) := k906 _ _ a949 
          have a951 : f912 ra = some (.inl (cy 3, 60, .inr (.inr (.inr (.inr gr))))) := (k914 _ (z_nn u911 a950)).trans a950
          have a952 : f917 ra = some (.inl (cy 3, 60, .inr (.inr (.inr (.inr gr))))) := (k919 _ (z_nn u916 a951)).trans a951
          have a953 : f920 ra = some (.inl (cy 3, 60, .inr (.inr (.inr (.inr gr))))) := (k922 _ (z_nn u916 a951)).trans a952
          have a954 : f923 ra = some (.inl (cy 3, 60, .inr (.inr (.inr (.inr gr))))) := (k925 _ (z_nn u916 a951)).trans a953
          have a955 : f929 ra = some (.inl (cy 3, 60, .inr (.inr (.inr (.inr gr))))) := k932 _ _ a954 (z_nn u911 a950)
          have a956 : f929 q915 = some (.inl (cy 1, 2, .inr (.inl (vp_updL (vp_updL (fun _ => 0) 0 x.toInt64) 1 y.toInt64)))) := k932 _ _ a924 (Ne.symm (z_nn u916 a913))
          have F957 : ∀ i9 : Nat, i9 < nn → f1 (fg i9) = some (.inr (4, [.int (kd i9), .ref (pt i9), .long (wg i9), .int (wd i9), .int (nI i9), .int (hs i9), .int (bf i9)])) := fun i9 h9 => k4 _ _ (hF i9 h9) (z_ne (hF i9 h9) x_fa rfl)
          have F958 : ∀ i9 : Nat, i9 < nn → f892 (fg i9) = some (.inr (4, [.int (kd i9), .ref (pt i9), .long (wg i9), .int (wd i9), .int (nI i9), .int (hs i9), .int (bf i9)])) := fun i9 h9 => k894 _ _ (F957 i9 h9) 
          have F959 : ∀ i9 : Nat, i9 < nn → f898 (fg i9) = some (.inr (4, [.int (kd i9), .ref (pt i9), .long (wg i9), .int (wd i9), .int (nI i9), .int (hs i9), .int (bf i9)])) := fun i9 h9 => k900 _ _ (F958 i9 h9) 
          have F960 : ∀ i9 : Nat, i9 < nn → f904 (fg i9) = some (.inr (4, [.int (kd i9), .ref (pt i9), .long (wg i9), .int (wd i9), .int (nI i9), .int (hs i9), .int (bf i9)])) := fun i9 h9 => k906 _ _ (F959 i9 h9) 
          have F961 : ∀ i9 : Nat, i9 < nn → f912 (fg i9) = some (.inr (4, [.int (kd i9), .ref (pt i9), .long (wg i9), .int (wd i9), .int (nI i9), .int (hs i9), .int (bf i9)])) := fun i9 h9 => (k914 _ (z_nn u911 (F960 i9 h9))).trans (F960 i9 h9)
          have F962 : ∀ i9 : Nat, i9 < nn → f917 (fg i9) = some (.inr (4, [.int (kd i9), .ref (pt i9), .long (wg i9), .int (wd i9), .int (nI i9), .int (hs i9), .int (bf i9)])) := fun i9 h9 => (k919 _ (z_nn u916 (F961 i9 h9))).trans (F961 i9 h9)
          have F963 : ∀ i9 : Nat, i9 < nn → f920 (fg i9) = some (.inr (4, [.int (kd i9), .ref (pt i9), .long (wg i9), .int (wd i9), .int (nI i9), .int (hs i9), .int (bf i9)])) := fun i9 h9 => (k922 _ (z_nn u916 (F961 i9 h9))).trans (F962 i9 h9)
          have F964 : ∀ i9 : Nat, i9 < nn → f923 (fg i9) = some (.inr (4, [.int (kd i9), .ref (pt i9), .long (wg i9), .int (wd i9), .int (nI i9), .int (hs i9), .int (bf i9)])) := fun i9 h9 => (k925 _ (z_nn u916 (F961 i9 h9))).trans (F963 i9 h9)
          have F965 : ∀ i9 : Nat, i9 < nn → f929 (fg i9) = some (.inr (4, [.int (kd i9), .ref (pt i9), .long (wg i9), .int (wd i9), .int (nI i9), .int (hs i9), .int (bf i9)])) := fun i9 h9 => k932 _ _ (F964 i9 h9) (z_nn u911 (F960 i9 h9))
          have F966 : ∀ i9 : Nat, i9 < nn → f1 (pt i9) = some (.inl (cy 1, (ln i9), .inr (.inl (pp i9)))) := fun i9 h9 => k4 _ _ (hP i9 h9) (z_neO (hP i9 h9) x_fa rfl)
          have F967 : ∀ i9 : Nat, i9 < nn → f892 (pt i9) = some (.inl (cy 1, (ln i9), .inr (.inl (pp i9)))) := fun i9 h9 => k894 _ _ (F966 i9 h9) 
          have F968 : ∀ i9 : Nat, i9 < nn → f898 (pt i9) = some (.inl (cy 1, (ln i9), .inr (.inl (pp i9)))) := fun i9 h9 => k900 _ _ (F967 i9 h9) 
          have F969 : ∀ i9 : Nat, i9 < nn → f904 (pt i9) = some (.inl (cy 1, (ln i9), .inr (.inl (pp i9)))) := fun i9 h9 => k906 _ _ (F968 i9 h9) 
          have F970 : ∀ i9 : Nat, i9 < nn → f912 (pt i9) = some (.inl (cy 1, (ln i9), .inr (.inl (pp i9)))) := fun i9 h9 => (k914 _ (z_nn u911 (F969 i9 h9))).trans (F969 i9 h9)
          have F971 : ∀ i9 : Nat, i9 < nn → f917 (pt i9) = some (.inl (cy 1, (ln i9), .inr (.inl (pp i9)))) := fun i9 h9 => (k919 _ (z_nn u916 (F970 i9 h9))).trans (F970 i9 h9)
          have F972 : ∀ i9 : Nat, i9 < nn → f920 (pt i9) = some (.inl (cy 1, (ln i9), .inr (.inl (pp i9)))) := fun i9 h9 => (k922 _ (z_nn u916 (F970 i9 h9))).trans (F971 i9 h9)
          have F973 : ∀ i9 : Nat, i9 < nn → f923 (pt i9) = some (.inl (cy 1, (ln i9), .inr (.inl (pp i9)))) := fun i9 h9 => (k925 _ (z_nn u916 (F970 i9 h9))).trans (F972 i9 h9)
          have F974 : ∀ i9 : Nat, i9 < nn → f929 (pt i9) = some (.inl (cy 1, (ln i9), .inr (.inl (pp i9)))) := fun i9 h9 => k932 _ _ (F973 i9 h9) (z_nn u911 (F969 i9 h9))
          refine z_callVi (As := [.ref q910]) C hz hS hA hl (k_X5_add l D cy f929 fi al ra ga gr nn fg pt kd ln pp wg wd hs bf q910 4 q915 0 0 (-1) 0 0 2 (vp_updL (vp_updL (fun _ => 0) 0 x.toInt64) 1 y.toInt64) a938 a946 a955 a931 a956 F965 F974 h60 hga hgr hln hk5 hfi (fun j9 h9 => z_nn u911 (F960 j9 h9)) (by omega) (fun h9 => absurd h9 (by decide)) har) zyX5_add mMX7_92 a938 zl5 rfl rfl (Nat.le_of_ble_eq_true rfl) ⟨Nat.le_of_ble_eq_true rfl, Nat.le_of_ble_eq_true rfl⟩ ⟨Nat.le_of_ble_eq_true rfl, Nat.le_of_ble_eq_true rfl⟩ dX7_pair_86 (fun r f975 H locs h976 hz hS => ?_)
          obtain ⟨hq_977, bq_978, gr_979, bf_980, rfl, p981, a982, a983, a984, F985, F986, k987⟩ := h976
          have a988 : f912 o = some (.inr (7, [.ref fa, .ref fi, .ref nu, .int (nI nl), .ref fm, .int (nI nf), .ref co, .int (nI nc), .ref en, .ref ke, .long lk])) := (k914 _ (z_nn u911 a909)).trans a909
          have a989 : f917 o = some (.inr (7, [.ref fa, .ref fi, .ref nu, .int (nI nl), .ref fm, .int (nI nf), .ref co, .int (nI nc), .ref en, .ref ke, .long lk])) := (k919 _ (z_nn u916 a988)).trans a988
          have a990 : f920 o = some (.inr (7, [.ref fa, .ref fi, .ref nu, .int (nI nl), .ref fm, .int (nI nf), .ref co, .int (nI nc), .ref en, .ref ke, .long lk])) := (k922 _ (z_nn u916 a988)).trans a989
          have a991 : f923 o = some (.inr (7, [.ref fa, .ref fi, .ref nu, .int (nI nl), .ref fm, .int (nI nf), .ref co, .int (nI nc), .ref en, .ref ke, .long lk])) := (k925 _ (z_nn u916 a988)).trans a990
          have a992 : f929 o = some (.inr (7, [.ref fa, .ref fi, .ref nu, .int (nI nl), .ref fm, .int (nI nf), .ref co, .int (nI nc), .ref en, .ref ke, .long lk])) := k932 _ _ a991 (z_nn u911 a909)
          have a993 : f975 o = some (.inr (7, [.ref fa, .ref fi, .ref nu, .int (nI nl), .ref fm, .int (nI nf), .ref co, .int (nI nc), .ref en, .ref ke, .long lk])) := k987 _ _ a992 (z_ne a992 a938 rfl) (z_ne a992 a946 rfl) (z_ne a992 a955 rfl) (z_nn u911 a909) (fun j9 h8 => (z_ne a992 (F965 j9 h8) rfl))
          have a994 : f892 fa = some (.inr (2, [.int 0, .int (-1), .int 0, .ref ev])) := k894 _ _ a3 
          have a995 : f898 fa = some (.inr (2, [.int 0, .int (-1), .int 0, .ref ev])) := k900 _ _ a994 
          have a996 : f904 fa = some (.inr (2, [.int 0, .int (-1), .int 0, .ref ev])) := k906 _ _ a995 
          have a997 : f912 fa = some (.inr (2, [.int 0, .int (-1), .int 0, .ref ev])) := (k914 _ (z_nn u911 a996)).trans a996
          have a998 : f917 fa = some (.inr (2, [.int 0, .int (-1), .int 0, .ref ev])) := (k919 _ (z_nn u916 a997)).trans a997
          have a999 : f920 fa = some (.inr (2, [.int 0, .int (-1), .int 0, .ref ev])) := (k922 _ (z_nn u916 a997)).trans a998
          have a1000 : f923 fa = some (.inr (2, [.int 0, .int (-1), .int 0, .ref ev])) := (k925 _ (z_nn u916 a997)).trans a999
          have a1001 : f929 fa = some (.inr (2, [.int 0, .int (-1), .int 0, .ref ev])) := k932 _ _ a1000 (z_nn u911 a996)
          have a1002 : f975 fa = some (.inr (2, [.int 0, .int (-1), .int 0, .ref ev])) := k987 _ _ a1001 (z_ne a1001 a938 rfl) (z_ne a1001 a946 rfl) (z_ne a1001 a955 rfl) (z_nn u911 a996) (fun j9 h8 => (z_ne a1001 (F965 j9 h8) rfl))
          have a1003 : f1 ev = some (.inl (cy 0, 8, .inl gv)) := k4 _ _ x_ev (z_ne x_ev x_fa rfl)
          have a1004 : f892 ev = some (.inl (cy 0, 8, .inl gv)) := k894 _ _ a1003 
          have a1005 : f898 ev = some (.inl (cy 0, 8, .inl gv)) := k900 _ _ a1004 
          have a1006 : f904 ev = some (.inl (cy 0, 8, .inl gv)) := k906 _ _ a1005 
          have a1007 : f912 ev = some (.inl (cy 0, 8, .inl gv)) := (k914 _ (z_nn u911 a1006)).trans a1006
          have a1008 : f917 ev = some (.inl (cy 0, 8, .inl gv)) := (k919 _ (z_nn u916 a1007)).trans a1007
          have a1009 : f920 ev = some (.inl (cy 0, 8, .inl gv)) := (k922 _ (z_nn u916 a1007)).trans a1008
          have a1010 : f923 ev = some (.inl (cy 0, 8, .inl gv)) := (k925 _ (z_nn u916 a1007)).trans a1009
          have a1011 : f929 ev = some (.inl (cy 0, 8, .inl gv)) := k932 _ _ a1010 (z_nn u911 a1006)
          have a1012 : f975 ev = some (.inl (cy 0, 8, .inl gv)) := k987 _ _ a1011 (z_ne a1011 a938 rfl) (z_ne a1011 a946 rfl) (z_ne a1011 a955 rfl) (z_nn u911 a1006) (fun j9 h8 => (z_ne a1011 (F965 j9 h8) rfl))
          have a1013 : f1 nu = some (.inl (cy 0, 12, .inl gu)) := k4 _ _ x_nu (z_ne x_nu x_fa rfl)
          have a1014 : f892 nu = some (.inl (cy 0, 12, .inl gu)) := k894 _ _ a1013 
          have a1015 : f898 nu = some (.inl (cy 0, 12, .inl gu)) := k900 _ _ a1014 
          have a1016 : f904 nu = some (.inl (cy 0, 12, .inl gu)) := k906 _ _ a1015 
          have a1017 : f912 nu = some (.inl (cy 0, 12, .inl gu)) := (k914 _ (z_nn u911 a1016)).trans a1016
          have a1018 : f917 nu = some (.inl (cy 0, 12, .inl gu)) := (k919 _ (z_nn u916 a1017)).trans a1017
          have a1019 : f920 nu = some (.inl (cy 0, 12, .inl gu)) := (k922 _ (z_nn u916 a1017)).trans a1018
          have a1020 : f923 nu = some (.inl (cy 0, 12, .inl gu)) := (k925 _ (z_nn u916 a1017)).trans a1019
          have a1021 : f929 nu = some (.inl (cy 0, 12, .inl gu)) := k932 _ _ a1020 (z_nn u911 a1016)
          have a1022 : f975 nu = some (.inl (cy 0, 12, .inl gu)) := k987 _ _ a1021 (z_ne a1021 a938 rfl) (z_ne a1021 a946 rfl) (z_ne a1021 a955 rfl) (z_nn u911 a1016) (fun j9 h8 => (z_ne a1021 (F965 j9 h8) rfl))
          have a1023 : f1 fm = some (.inl (cy 4, 6, .inr (.inr (.inr (.inr gf))))) := k4 _ _ x_fm (z_ne x_fm x_fa rfl)
          have a1024 : f892 fm = some (.inl (cy 4, 6, .inr (.inr (.inr (.inr gf))))) := k894 _ _ a1023 
          have a1025 : f898 fm = some (.inl (cy 4, 6, .inr (.inr (.inr (.inr gf))))) := k900 _ _ a1024 
          have a1026 : f904 fm = some (.inl (cy 4, 6, .inr (.inr (.inr (.inr gf))))) := k906 _ _ a1025 
          have a1027 : f912 fm = some (.inl (cy 4, 6, .inr (.inr (.inr (.inr gf))))) := (k914 _ (z_nn u911 a1026)).trans a1026
          have a1028 : f917 fm = some (.inl (cy 4, 6, .inr (.inr (.inr (.inr gf))))) := (k919 _ (z_nn u916 a1027)).trans a1027
          have a1029 : f920 fm = some (.inl (cy 4, 6, .inr (.inr (.inr (.inr gf))))) := (k922 _ (z_nn u916 a1027)).trans a1028
          have a1030 : f923 fm = some (.inl (cy 4, 6, .inr (.inr (.inr (.inr gf))))) := (k925 _ (z_nn u916 a1027)).trans a1029
          have a1031 : f929 fm = some (.inl (cy 4, 6, .inr (.inr (.inr (.inr gf))))) := k932 _ _ a1030 (z_nn u911 a1026)
          have a1032 : f975 fm = some (.inl (cy 4, 6, .inr (.inr (.inr (.inr gf))))) := k987 _ _ a1031 (z_ne a1031 a938 rfl) (z_ne a1031 a946 rfl) (z_ne a1031 a955 rfl) (z_nn u911 a1026) (fun j9 h8 => (z_ne a1031 (F965 j9 h8) rfl))
          have a1033 : f1 co = some (.inl (cy 5, 60, .inr (.inr (.inr (.inr gc))))) := k4 _ _ x_co (z_ne x_co x_fa rfl)
          have a1034 : f892 co = some (.inl (cy 5, 60, .inr (.inr (.inr (.inr gc))))) := k894 _ _ a1033 
          have a1035 : f898 co = some (.inl (cy 5, 60, .inr (.inr (.inr (.inr gc))))) := k900 _ _ a1034 
          have a1036 : f904 co = some (.inl (cy 5, 60, .inr (.inr (.inr (.inr gc))))) := k906 _ _ a1035 
          have a1037 : f912 co = some (.inl (cy 5, 60, .inr (.inr (.inr (.inr gc))))) := (k914 _ (z_nn u911 a1036)).trans a1036
          have a1038 : f917 co = some (.inl (cy 5, 60, .inr (.inr (.inr (.inr gc))))) := (k919 _ (z_nn u916 a1037)).trans a1037
          have a1039 : f920 co = some (.inl (cy 5, 60, .inr (.inr (.inr (.inr gc))))) := (k922 _ (z_nn u916 a1037)).trans a1038
          have a1040 : f923 co = some (.inl (cy 5, 60, .inr (.inr (.inr (.inr gc))))) := (k925 _ (z_nn u916 a1037)).trans a1039
          have a1041 : f929 co = some (.inl (cy 5, 60, .inr (.inr (.inr (.inr gc))))) := k932 _ _ a1040 (z_nn u911 a1036)
          have a1042 : f975 co = some (.inl (cy 5, 60, .inr (.inr (.inr (.inr gc))))) := k987 _ _ a1041 (z_ne a1041 a938 rfl) hca hcr (z_nn u911 a1036) (fun j9 h8 => (z_ne a1041 (F965 j9 h8) rfl))
          have a1043 : f1 en = some (.inl (cy 6, 4, .inr (.inr (.inr (.inr ge))))) := k4 _ _ x_en (z_ne x_en x_fa rfl)
          have a1044 : f892 en = some (.inl (cy 6, 4, .inr (.inr (.inr (.inr ge))))) := k894 _ _ a1043 
          have a1045 : f898 en = some (.inl (cy 6, 4, .inr (.inr (.inr (.inr ge))))) := k900 _ _ a1044 
          have a1046 : f904 en = some (.inl (cy 6, 4, .inr (.inr (.inr (.inr ge))))) := k906 _ _ a1045 
          have a1047 : f912 en = some (.inl (cy 6, 4, .inr (.inr (.inr (.inr ge))))) := (k914 _ (z_nn u911 a1046)).trans a1046
          have a1048 : f917 en = some (.inl (cy 6, 4, .inr (.inr (.inr (.inr ge))))) := (k919 _ (z_nn u916 a1047)).trans a1047
          have a1049 : f920 en = some (.inl (cy 6, 4, .inr (.inr (.inr (.inr ge))))) := (k922 _ (z_nn u916 a1047)).trans a1048
          have a1050 : f923 en = some (.inl (cy 6, 4, .inr (.inr (.inr (.inr ge))))) := (k925 _ (z_nn u916 a1047)).trans a1049
          have a1051 : f929 en = some (.inl (cy 6, 4, .inr (.inr (.inr (.inr ge))))) := k932 _ _ a1050 (z_nn u911 a1046)
          have a1052 : f975 en = some (.inl (cy 6, 4, .inr (.inr (.inr (.inr ge))))) := k987 _ _ a1051 (z_ne a1051 a938 rfl) (z_ne a1051 a946 rfl) (z_ne a1051 a955 rfl) (z_nn u911 a1046) (fun j9 h8 => (z_ne a1051 (F965 j9 h8) rfl))
          have a1053 : f1 ke = some (.inr (6, [.ref kn, .ref vq, .int (nI ks)])) := k4 _ _ x_ke (z_ne x_ke x_fa rfl)
          have a1054 : f892 ke = some (.inr (6, [.ref kn, .ref vq, .int (nI ks)])) := k894 _ _ a1053 
          have a1055 : f898 ke = some (.inr (6, [.ref kn, .ref vq, .int (nI ks)])) := k900 _ _ a1054 
          have a1056 : f904 ke = some (.inr (6, [.ref kn, .ref vq, .int (nI ks)])) := k906 _ _ a1055 
          have a1057 : f912 ke = some (.inr (6, [.ref kn, .ref vq, .int (nI ks)])) := (k914 _ (z_nn u911 a1056)).trans a1056
          have a1058 : f917 ke = some (.inr (6, [.ref kn, .ref vq, .int (nI ks)])) := (k919 _ (z_nn u916 a1057)).trans a1057
          have a1059 : f920 ke = some (.inr (6, [.ref kn, .ref vq, .int (nI ks)])) := (k922 _ (z_nn u916 a1057)).trans a1058
          have a1060 : f923 ke = some (.inr (6, [.ref kn, .ref vq, .int (nI ks)])) := (k925 _ (z_nn u916 a1057)).trans a1059
          have a1061 : f929 ke = some (.inr (6, [.ref kn, .ref vq, .int (nI ks)])) := k932 _ _ a1060 (z_nn u911 a1056)
          have a1062 : f975 ke = some (.inr (6, [.ref kn, .ref vq, .int (nI ks)])) := k987 _ _ a1061 (z_ne a1061 a938 rfl) (z_ne a1061 a946 rfl) (z_ne a1061 a955 rfl) (z_nn u911 a1056) (fun j9 h8 => (z_ne a1061 (F965 j9 h8) rfl))
          have a1063 : f1 kn = some (.inl (cy 0, 40, .inl kk)) := k4 _ _ x_kn (z_ne x_kn x_fa rfl)
          have a1064 : f892 kn = some (.inl (cy 0, 40, .inl kk)) := k894 _ _ a1063 
          have a1065 : f898 kn = some (.inl (cy 0, 40, .inl kk)) := k900 _ _ a1064 
          have a1066 : f904 kn = some (.inl (cy 0, 40, .inl kk)) := k906 _ _ a1065 
          have a1067 : f912 kn = some (.inl (cy 0, 40, .inl kk)) := (k914 _ (z_nn u911 a1066)).trans a1066
          have a1068 : f917 kn = some (.inl (cy 0, 40, .inl kk)) := (k919 _ (z_nn u916 a1067)).trans a1067
          have a1069 : f920 kn = some (.inl (cy 0, 40, .inl kk)) := (k922 _ (z_nn u916 a1067)).trans a1068
          have a1070 : f923 kn = some (.inl (cy 0, 40, .inl kk)) := (k925 _ (z_nn u916 a1067)).trans a1069
          have a1071 : f929 kn = some (.inl (cy 0, 40, .inl kk)) := k932 _ _ a1070 (z_nn u911 a1066)
          have a1072 : f975 kn = some (.inl (cy 0, 40, .inl kk)) := k987 _ _ a1071 (z_ne a1071 a938 rfl) (z_ne a1071 a946 rfl) (z_ne a1071 a955 rfl) (z_nn u911 a1066) (fun j9 h8 => (z_ne a1071 (F965 j9 h8) rfl))
          have a1073 : f1 vq = some (.inl (cy 0, 40, .inl kv)) := k4 _ _ x_vq (z_ne x_vq x_fa rfl)
          have a1074 : f892 vq = some (.inl (cy 0, 40, .inl kv)) := k894 _ _ a1073 
          have a1075 : f898 vq = some (.inl (cy 0, 40, .inl kv)) := k900 _ _ a1074 
          have a1076 : f904 vq = some (.inl (cy 0, 40, .inl kv)) := k906 _ _ a1075 
          have a1077 : f912 vq = some (.inl (cy 0, 40, .inl kv)) := (k914 _ (z_nn u911 a1076)).trans a1076
          have a1078 : f917 vq = some (.inl (cy 0, 40, .inl kv)) := (k919 _ (z_nn u916 a1077)).trans a1077
          have a1079 : f920 vq = some (.inl (cy 0, 40, .inl kv)) := (k922 _ (z_nn u916 a1077)).trans a1078
          have a1080 : f923 vq = some (.inl (cy 0, 40, .inl kv)) := (k925 _ (z_nn u916 a1077)).trans a1079
          have a1081 : f929 vq = some (.inl (cy 0, 40, .inl kv)) := k932 _ _ a1080 (z_nn u911 a1076)
          have a1082 : f975 vq = some (.inl (cy 0, 40, .inl kv)) := k987 _ _ a1081 (z_ne a1081 a938 rfl) (z_ne a1081 a946 rfl) (z_ne a1081 a955 rfl) (z_nn u911 a1076) (fun j9 h8 => (z_ne a1081 (F965 j9 h8) rfl))
          have F1083 : ∀ i9 : Nat, i9 < nf → f1 (fq i9) = some (.inr (3, [.ref (fk i9), .int (nI (fz i9))])) := fun i9 h9 => k4 _ _ (hFq i9 h9) (z_ne (hFq i9 h9) x_fa rfl)
          have F1084 : ∀ i9 : Nat, i9 < nf → f892 (fq i9) = some (.inr (3, [.ref (fk i9), .int (nI (fz i9))])) := fun i9 h9 => k894 _ _ (F1083 i9 h9) 
          have F1085 : ∀ i9 : Nat, i9 < nf → f898 (fq i9) = some (.inr (3, [.ref (fk i9), .int (nI (fz i9))])) := fun i9 h9 => k900 _ _ (F1084 i9 h9) 
          have F1086 : ∀ i9 : Nat, i9 < nf → f904 (fq i9) = some (.inr (3, [.ref (fk i9), .int (nI (fz i9))])) := fun i9 h9 => k906 _ _ (F1085 i9 h9) 
          have F1087 : ∀ i9 : Nat, i9 < nf → f912 (fq i9) = some (.inr (3, [.ref (fk i9), .int (nI (fz i9))])) := fun i9 h9 => (k914 _ (z_nn u911 (F1086 i9 h9))).trans (F1086 i9 h9)
          have F1088 : ∀ i9 : Nat, i9 < nf → f917 (fq i9) = some (.inr (3, [.ref (fk i9), .int (nI (fz i9))])) := fun i9 h9 => (k919 _ (z_nn u916 (F1087 i9 h9))).trans (F1087 i9 h9)
          have F1089 : ∀ i9 : Nat, i9 < nf → f920 (fq i9) = some (.inr (3, [.ref (fk i9), .int (nI (fz i9))])) := fun i9 h9 => (k922 _ (z_nn u916 (F1087 i9 h9))).trans (F1088 i9 h9)
          have F1090 : ∀ i9 : Nat, i9 < nf → f923 (fq i9) = some (.inr (3, [.ref (fk i9), .int (nI (fz i9))])) := fun i9 h9 => (k925 _ (z_nn u916 (F1087 i9 h9))).trans (F1089 i9 h9)
          have F1091 : ∀ i9 : Nat, i9 < nf → f929 (fq i9) = some (.inr (3, [.ref (fk i9), .int (nI (fz i9))])) := fun i9 h9 => k932 _ _ (F1090 i9 h9) (z_nn u911 (F1086 i9 h9))
          have F1092 : ∀ i9 : Nat, i9 < nf → f975 (fq i9) = some (.inr (3, [.ref (fk i9), .int (nI (fz i9))])) := fun i9 h9 => k987 _ _ (F1091 i9 h9) (z_ne (F1091 i9 h9) a938 rfl) (z_ne (F1091 i9 h9) a946 rfl) (z_ne (F1091 i9 h9) a955 rfl) (z_nn u911 (F1086 i9 h9)) (fun j9 h8 => (z_ne (F1091 i9 h9) (F965 j9 h8) rfl))
          have F1093 : ∀ i9 : Nat, i9 < nf → f1 (fk i9) = some (.inl (cy 0, 4, .inl (fc i9))) := fun i9 h9 => k4 _ _ (hFk i9 h9) (z_ne (hFk i9 h9) x_fa rfl)
          have F1094 : ∀ i9 : Nat, i9 < nf → f892 (fk i9) = some (.inl (cy 0, 4, .inl (fc i9))) := fun i9 h9 => k894 _ _ (F1093 i9 h9) 
          have F1095 : ∀ i9 : Nat, i9 < nf → f898 (fk i9) = some (.inl (cy 0, 4, .inl (fc i9))) := fun i9 h9 => k900 _ _ (F1094 i9 h9) 
          have F1096 : ∀ i9 : Nat, i9 < nf → f904 (fk i9) = some (.inl (cy 0, 4, .inl (fc i9))) := fun i9 h9 => k906 _ _ (F1095 i9 h9) 
          have F1097 : ∀ i9 : Nat, i9 < nf → f912 (fk i9) = some (.inl (cy 0, 4, .inl (fc i9))) := fun i9 h9 => (k914 _ (z_nn u911 (F1096 i9 h9))).trans (F1096 i9 h9)
          have F1098 : ∀ i9 : Nat, i9 < nf → f917 (fk i9) = some (.inl (cy 0, 4, .inl (fc i9))) := fun i9 h9 => (k919 _ (z_nn u916 (F1097 i9 h9))).trans (F1097 i9 h9)
          have F1099 : ∀ i9 : Nat, i9 < nf → f920 (fk i9) = some (.inl (cy 0, 4, .inl (fc i9))) := fun i9 h9 => (k922 _ (z_nn u916 (F1097 i9 h9))).trans (F1098 i9 h9)
          have F1100 : ∀ i9 : Nat, i9 < nf → f923 (fk i9) = some (.inl (cy 0, 4, .inl (fc i9))) := fun i9 h9 => (k925 _ (z_nn u916 (F1097 i9 h9))).trans (F1099 i9 h9)
          have F1101 : ∀ i9 : Nat, i9 < nf → f929 (fk i9) = some (.inl (cy 0, 4, .inl (fc i9))) := fun i9 h9 => k932 _ _ (F1100 i9 h9) (z_nn u911 (F1096 i9 h9))
          have F1102 : ∀ i9 : Nat, i9 < nf → f975 (fk i9) = some (.inl (cy 0, 4, .inl (fc i9))) := fun i9 h9 => k987 _ _ (F1101 i9 h9) (z_ne (F1101 i9 h9) a938 rfl) (z_ne (F1101 i9 h9) a946 rfl) (z_ne (F1101 i9 h9) a955 rfl) (z_nn u911 (F1096 i9 h9)) (fun j9 h8 => (z_ne (F1101 i9 h9) (F965 j9 h8) rfl))
          have F1103 : ∀ i9 : Nat, i9 < nc → f1 (cn i9) = some (.inr (0, [.int (ce i9), .int (cm i9)])) := fun i9 h9 => k4 _ _ (hCn i9 h9) (z_ne (hCn i9 h9) x_fa rfl)
          have F1104 : ∀ i9 : Nat, i9 < nc → f892 (cn i9) = some (.inr (0, [.int (ce i9), .int (cm i9)])) := fun i9 h9 => k894 _ _ (F1103 i9 h9) 
          have F1105 : ∀ i9 : Nat, i9 < nc → f898 (cn i9) = some (.inr (0, [.int (ce i9), .int (cm i9)])) := fun i9 h9 => k900 _ _ (F1104 i9 h9) 
          have F1106 : ∀ i9 : Nat, i9 < nc → f904 (cn i9) = some (.inr (0, [.int (ce i9), .int (cm i9)])) := fun i9 h9 => k906 _ _ (F1105 i9 h9) 
          have F1107 : ∀ i9 : Nat, i9 < nc → f912 (cn i9) = some (.inr (0, [.int (ce i9), .int (cm i9)])) := fun i9 h9 => (k914 _ (z_nn u911 (F1106 i9 h9))).trans (F1106 i9 h9)
          have F1108 : ∀ i9 : Nat, i9 < nc → f917 (cn i9) = some (.inr (0, [.int (ce i9), .int (cm i9)])) := fun i9 h9 => (k919 _ (z_nn u916 (F1107 i9 h9))).trans (F1107 i9 h9)
          have F1109 : ∀ i9 : Nat, i9 < nc → f920 (cn i9) = some (.inr (0, [.int (ce i9), .int (cm i9)])) := fun i9 h9 => (k922 _ (z_nn u916 (F1107 i9 h9))).trans (F1108 i9 h9)
          have F1110 : ∀ i9 : Nat, i9 < nc → f923 (cn i9) = some (.inr (0, [.int (ce i9), .int (cm i9)])) := fun i9 h9 => (k925 _ (z_nn u916 (F1107 i9 h9))).trans (F1109 i9 h9)
          have F1111 : ∀ i9 : Nat, i9 < nc → f929 (cn i9) = some (.inr (0, [.int (ce i9), .int (cm i9)])) := fun i9 h9 => k932 _ _ (F1110 i9 h9) (z_nn u911 (F1106 i9 h9))
          have F1112 : ∀ i9 : Nat, i9 < nc → f975 (cn i9) = some (.inr (0, [.int (ce i9), .int (cm i9)])) := fun i9 h9 => k987 _ _ (F1111 i9 h9) (z_ne (F1111 i9 h9) a938 rfl) (z_ne (F1111 i9 h9) a946 rfl) (z_ne (F1111 i9 h9) a955 rfl) (z_nn u911 (F1106 i9 h9)) (fun j9 h8 => (z_ne (F1111 i9 h9) (F965 j9 h8) rfl))
          have F1113 : ∀ i9 : Nat, i9 < 4 → f1 (ea i9) = some (.inr (1, [.ref (ma i9), .int (nI (sq i9))])) := fun i9 h9 => k4 _ _ (hEa i9 h9) (z_ne (hEa i9 h9) x_fa rfl)
          have F1114 : ∀ i9 : Nat, i9 < 4 → f892 (ea i9) = some (.inr (1, [.ref (ma i9), .int (nI (sq i9))])) := fun i9 h9 => k894 _ _ (F1113 i9 h9) 
          have F1115 : ∀ i9 : Nat, i9 < 4 → f898 (ea i9) = some (.inr (1, [.ref (ma i9), .int (nI (sq i9))])) := fun i9 h9 => k900 _ _ (F1114 i9 h9) 
          have F1116 : ∀ i9 : Nat, i9 < 4 → f904 (ea i9) = some (.inr (1, [.ref (ma i9), .int (nI (sq i9))])) := fun i9 h9 => k906 _ _ (F1115 i9 h9) 
          have F1117 : ∀ i9 : Nat, i9 < 4 → f912 (ea i9) = some (.inr (1, [.ref (ma i9), .int (nI (sq i9))])) := fun i9 h9 => (k914 _ (z_nn u911 (F1116 i9 h9))).trans (F1116 i9 h9)
          have F1118 : ∀ i9 : Nat, i9 < 4 → f917 (ea i9) = some (.inr (1, [.ref (ma i9), .int (nI (sq i9))])) := fun i9 h9 => (k919 _ (z_nn u916 (F1117 i9 h9))).trans (F1117 i9 h9)
          have F1119 : ∀ i9 : Nat, i9 < 4 → f920 (ea i9) = some (.inr (1, [.ref (ma i9), .int (nI (sq i9))])) := fun i9 h9 => (k922 _ (z_nn u916 (F1117 i9 h9))).trans (F1118 i9 h9)
          have F1120 : ∀ i9 : Nat, i9 < 4 → f923 (ea i9) = some (.inr (1, [.ref (ma i9), .int (nI (sq i9))])) := fun i9 h9 => (k925 _ (z_nn u916 (F1117 i9 h9))).trans (F1119 i9 h9)
          have F1121 : ∀ i9 : Nat, i9 < 4 → f929 (ea i9) = some (.inr (1, [.ref (ma i9), .int (nI (sq i9))])) := fun i9 h9 => k932 _ _ (F1120 i9 h9) (z_nn u911 (F1116 i9 h9))
          have F1122 : ∀ i9 : Nat, i9 < 4 → f975 (ea i9) = some (.inr (1, [.ref (ma i9), .int (nI (sq i9))])) := fun i9 h9 => k987 _ _ (F1121 i9 h9) (z_ne (F1121 i9 h9) a938 rfl) (z_ne (F1121 i9 h9) a946 rfl) (z_ne (F1121 i9 h9) a955 rfl) (z_nn u911 (F1116 i9 h9)) (fun j9 h8 => (z_ne (F1121 i9 h9) (F965 j9 h8) rfl))
          have F1123 : ∀ i9 : Nat, i9 < 4 → f1 (ma i9) = some (.inl (cy 0, 60, .inl (mb i9))) := fun i9 h9 => k4 _ _ (hMa i9 h9) (z_ne (hMa i9 h9) x_fa rfl)
          have F1124 : ∀ i9 : Nat, i9 < 4 → f892 (ma i9) = some (.inl (cy 0, 60, .inl (mb i9))) := fun i9 h9 => k894 _ _ (F1123 i9 h9) 
          have F1125 : ∀ i9 : Nat, i9 < 4 → f898 (ma i9) = some (.inl (cy 0, 60, .inl (mb i9))) := fun i9 h9 => k900 _ _ (F1124 i9 h9) 
          have F1126 : ∀ i9 : Nat, i9 < 4 → f904 (ma i9) = some (.inl (cy 0, 60, .inl (mb i9))) := fun i9 h9 => k906 _ _ (F1125 i9 h9) 
          have F1127 : ∀ i9 : Nat, i9 < 4 → f912 (ma i9) = some (.inl (cy 0, 60, .inl (mb i9))) := fun i9 h9 => (k914 _ (z_nn u911 (F1126 i9 h9))).trans (F1126 i9 h9)
          have F1128 : ∀ i9 : Nat, i9 < 4 → f917 (ma i9) = some (.inl (cy 0, 60, .inl (mb i9))) := fun i9 h9 => (k919 _ (z_nn u916 (F1127 i9 h9))).trans (F1127 i9 h9)
          have F1129 : ∀ i9 : Nat, i9 < 4 → f920 (ma i9) = some (.inl (cy 0, 60, .inl (mb i9))) := fun i9 h9 => (k922 _ (z_nn u916 (F1127 i9 h9))).trans (F1128 i9 h9)
          have F1130 : ∀ i9 : Nat, i9 < 4 → f923 (ma i9) = some (.inl (cy 0, 60, .inl (mb i9))) := fun i9 h9 => (k925 _ (z_nn u916 (F1127 i9 h9))).trans (F1129 i9 h9)
          have F1131 : ∀ i9 : Nat, i9 < 4 → f929 (ma i9) = some (.inl (cy 0, 60, .inl (mb i9))) := fun i9 h9 => k932 _ _ (F1130 i9 h9) (z_nn u911 (F1126 i9 h9))
          have F1132 : ∀ i9 : Nat, i9 < 4 → f975 (ma i9) = some (.inl (cy 0, 60, .inl (mb i9))) := fun i9 h9 => k987 _ _ (F1131 i9 h9) (z_ne (F1131 i9 h9) a938 rfl) (z_ne (F1131 i9 h9) a946 rfl) (z_ne (F1131 i9 h9) a955 rfl) (z_nn u911 (F1126 i9 h9)) (fun j9 h8 => (z_ne (F1131 i9 h9) (F965 j9 h8) rfl))
          exact z_iret C hr rfl hz hS ⟨0, (-1), 0, gv, nl, gu, (nn + 1), (va_up ga nn (some q910)), gr_979, (va_up fg nn q910), (va_up pt nn q915), (va_up kd nn 4), (va_up ln nn 2), (va_up pp nn (vp_updL (vp_updL (fun _ => 0) 0 x.toInt64) 1 y.toInt64)), (va_up wg nn 0), (va_up wd nn 0), (va_up hs nn hq_977), (va_up bf_980 nn bq_978), nf, gf, fq, fk, fz, fc, nc, gc, cn, ce, cm, sq, mb, ks, kk, kv, lk, rfl, (by rw [if_pos (nI_pos' (by omega))]), ⟨a993, a1002, a1012, a982, a983, a984, a1022, a1032, a1042, a1052, a1062, a1072, a1082, F985, F986, F1092, F1102, F1112, F1122, F1132, (by omega), hl12, hf6, hc60, hs40, (z_ga1 hga), (z_gr1 p981), (z_up1 (P := fun _ a9 => a9 ≤ 15) hln (by omega)), (z_up2 (P := fun (a9 : Int32) (b9 : Nat) => a9 = 5 → 3 ≤ b9) hk5 (fun h9 => absurd h9 (by decide))), (z_up2 (P := fun (a9 : Int32) (b9 : Nat) => a9 = 4 → 2 ≤ b9) hk4 (fun _ => by omega)), (z_inj1 hfi (fun j9 h9 => z_nn u911 (F960 j9 h9))), (z_inj1 hpi (fun j9 h9 => z_nn u916 (F970 j9 h9))), har, hgf, hfz, hgc, hG, hsq, hei, hmi, kne, hca, hcr, hlk⟩⟩ (Nat.le_of_ble_eq_true rfl) (Nat.le_of_ble_eq_true rfl) dX7_pair_89
        · refine lv_aload_n hx hb dX7_pair_50 rfl (lv_at hl 0 rfl) ?_
          have a1133 : f904 o = some (.inr (7, [.ref fa, .ref fi, .ref nu, .int (nI nl), .ref fm, .int (nI nf), .ref co, .int (nI nc), .ref en, .ref ke, .long lk])) := k906 _ _ a902 
          refine z_get (v := .ref fa) C hz a1133 zl7 mFX7_10 (by decide) rfl dX7_pair_51 ?_
          refine lv_iconst (v := 1) hx hb dX7_pair_54 (by decide) ?_
          refine lv_iconst (v := 0) hx hb dX7_pair_55 (by decide) ?_
          have a1134 : f892 fa = some (.inr (2, [.int 0, .int (-1), .int 0, .ref ev])) := k894 _ _ a3 
          have a1135 : f898 fa = some (.inr (2, [.int 0, .int (-1), .int 0, .ref ev])) := k900 _ _ a1134 
          have a1136 : f904 fa = some (.inr (2, [.int 0, .int (-1), .int 0, .ref ev])) := k906 _ _ a1135 
          have a1137 : f1 ev = some (.inl (cy 0, 8, .inl gv)) := k4 _ _ x_ev (z_ne x_ev x_fa rfl)
          have a1138 : f892 ev = some (.inl (cy 0, 8, .inl gv)) := k894 _ _ a1137 
          have a1139 : f898 ev = some (.inl (cy 0, 8, .inl gv)) := k900 _ _ a1138 
          have a1140 : f904 ev = some (.inl (cy 0, 8, .inl gv)) := k906 _ _ a1139 
          refine z_callVi (As := [.int 1, .int 0]) C hz hS hA hl (k_X2_inPart l D cy f904 fa 1 0 0 (-1) 0 ev gv 1 a1136 a1140 (by decide) (Nat.le_of_ble_eq_true rfl)) zyX2_inPart mMX7_104 a1136 zl2 rfl rfl (Nat.le_of_ble_eq_true rfl) ⟨Nat.le_of_ble_eq_true rfl, Nat.le_of_ble_eq_true rfl⟩ ⟨Nat.le_of_ble_eq_true rfl, Nat.le_of_ble_eq_true rfl⟩ dX7_pair_56 (fun r f1141 H locs h1142 hz hS => ?_)
          obtain ⟨rfl, a1143, a1144, k1145⟩ := h1142
          have a1146 : f1141 o = some (.inr (7, [.ref fa, .ref fi, .ref nu, .int (nI nl), .ref fm, .int (nI nf), .ref co, .int (nI nc), .ref en, .ref ke, .long lk])) := k1145 _ _ a1133 (z_ne a1133 a1136 rfl) (z_ne a1133 a1140 rfl)
          have a1147 : f904 fi = some (.inr (5, [.ref al, .ref ra, .int (nI nn)])) := k906 _ _ a903 
          have a1148 : f1141 fi = some (.inr (5, [.ref al, .ref ra, .int (nI nn)])) := k1145 _ _ a1147 (z_ne a1147 a1136 rfl) (z_ne a1147 a1140 rfl)
          have a1149 : f892 al = some (.inl (cy 3, 60, .inr (.inr (.inr (.inr ga))))) := k894 _ _ a891 
          have a1150 : f898 al = some (.inl (cy 3, 60, .inr (.inr (.inr (.inr ga))))) := k900 _ _ a1149 
          have a1151 : f904 al = some (.inl (cy 3, 60, .inr (.inr (.inr (.inr ga))))) := k906 _ _ a1150 
          have a1152 : f1141 al = some (.inl (cy 3, 60, .inr (.inr (.inr (.inr ga))))) := k1145 _ _ a1151 (z_ne a1151 a1136 rfl) (z_ne a1151 a1140 rfl)
          have a1153 : f1 ra = some (.inl (cy 3, 60, .inr (.inr (.inr (.inr gr))))) := k4 _ _ x_ra (z_ne x_ra x_fa rfl)
          have a1154 : f892 ra = some (.inl (cy 3, 60, .inr (.inr (.inr (.inr gr))))) := k894 _ _ a1153 
          have a1155 : f898 ra = some (.inl (cy 3, 60, .inr (.inr (.inr (.inr gr))))) := k900 _ _ a1154 
          have a1156 : f904 ra = some (.inl (cy 3, 60, .inr (.inr (.inr (.inr gr))))) := k906 _ _ a1155 
          have a1157 : f1141 ra = some (.inl (cy 3, 60, .inr (.inr (.inr (.inr gr))))) := k1145 _ _ a1156 (z_ne a1156 a1136 rfl) (z_ne a1156 a1140 rfl)
          have a1158 : f1 nu = some (.inl (cy 0, 12, .inl gu)) := k4 _ _ x_nu (z_ne x_nu x_fa rfl)
          have a1159 : f892 nu = some (.inl (cy 0, 12, .inl gu)) := k894 _ _ a1158 
          have a1160 : f898 nu = some (.inl (cy 0, 12, .inl gu)) := k900 _ _ a1159 
          have a1161 : f904 nu = some (.inl (cy 0, 12, .inl gu)) := k906 _ _ a1160 
          have a1162 : f1141 nu = some (.inl (cy 0, 12, .inl gu)) := k1145 _ _ a1161 (z_ne a1161 a1136 rfl) (z_ne a1161 a1140 rfl)
          have a1163 : f1 fm = some (.inl (cy 4, 6, .inr (.inr (.inr (.inr gf))))) := k4 _ _ x_fm (z_ne x_fm x_fa rfl)
          have a1164 : f892 fm = some (.inl (cy 4, 6, .inr (.inr (.inr (.inr gf))))) := k894 _ _ a1163 
          have a1165 : f898 fm = some (.inl (cy 4, 6, .inr (.inr (.inr (.inr gf))))) := k900 _ _ a1164 
          have a1166 : f904 fm = some (.inl (cy 4, 6, .inr (.inr (.inr (.inr gf))))) := k906 _ _ a1165 
          have a1167 : f1141 fm = some (.inl (cy 4, 6, .inr (.inr (.inr (.inr gf))))) := k1145 _ _ a1166 (z_ne a1166 a1136 rfl) (z_ne a1166 a1140 rfl)
          have a1168 : f1 co = some (.inl (cy 5, 60, .inr (.inr (.inr (.inr gc))))) := k4 _ _ x_co (z_ne x_co x_fa rfl)
          have a1169 : f892 co = some (.inl (cy 5, 60, .inr (.inr (.inr (.inr gc))))) := k894 _ _ a1168 
          have a1170 : f898 co = some (.inl (cy 5, 60, .inr (.inr (.inr (.inr gc))))) := k900 _ _ a1169 
          have a1171 : f904 co = some (.inl (cy 5, 60, .inr (.inr (.inr (.inr gc))))) := k906 _ _ a1170 
          have a1172 : f1141 co = some (.inl (cy 5, 60, .inr (.inr (.inr (.inr gc))))) := k1145 _ _ a1171 (z_ne a1171 a1136 rfl) (z_ne a1171 a1140 rfl)
          have a1173 : f1 en = some (.inl (cy 6, 4, .inr (.inr (.inr (.inr ge))))) := k4 _ _ x_en (z_ne x_en x_fa rfl)
          have a1174 : f892 en = some (.inl (cy 6, 4, .inr (.inr (.inr (.inr ge))))) := k894 _ _ a1173 
          have a1175 : f898 en = some (.inl (cy 6, 4, .inr (.inr (.inr (.inr ge))))) := k900 _ _ a1174 
          have a1176 : f904 en = some (.inl (cy 6, 4, .inr (.inr (.inr (.inr ge))))) := k906 _ _ a1175 
          have a1177 : f1141 en = some (.inl (cy 6, 4, .inr (.inr (.inr (.inr ge))))) := k1145 _ _ a1176 (z_ne a1176 a1136 rfl) (z_ne a1176 a1140 rfl)
          have a1178 : f1 ke = some (.inr (6, [.ref kn, .ref vq, .int (nI ks)])) := k4 _ _ x_ke (z_ne x_ke x_fa rfl)
          have a1179 : f892 ke = some (.inr (6, [.ref kn, .ref vq, .int (nI ks)])) := k894 _ _ a1178 
          have a1180 : f898 ke = some (.inr (6, [.ref kn, .ref vq, .int (nI ks)])) := k900 _ _ a1179 
          have a1181 : f904 ke = some (.inr (6, [.ref kn, .ref vq, .int (nI ks)])) := k906 _ _ a1180 
          have a1182 : f1141 ke = some (.inr (6, [.ref kn, .ref vq, .int (nI ks)])) := k1145 _ _ a1181 (z_ne a1181 a1136 rfl) (z_ne a1181 a1140 rfl)
          have a1183 : f1 kn = some (.inl (cy 0, 40, .inl kk)) := k4 _ _ x_kn (z_ne x_kn x_fa rfl)
          have a1184 : f892 kn = some (.inl (cy 0, 40, .inl kk)) := k894 _ _ a1183 
          have a1185 : f898 kn = some (.inl (cy 0, 40, .inl kk)) := k900 _ _ a1184 
          have a1186 : f904 kn = some (.inl (cy 0, 40, .inl kk)) := k906 _ _ a1185 
          have a1187 : f1141 kn = some (.inl (cy 0, 40, .inl kk)) := k1145 _ _ a1186 (z_ne a1186 a1136 rfl) (z_ne a1186 a1140 rfl)
          have a1188 : f1 vq = some (.inl (cy 0, 40, .inl kv)) := k4 _ _ x_vq (z_ne x_vq x_fa rfl)
          have a1189 : f892 vq = some (.inl (cy 0, 40, .inl kv)) := k894 _ _ a1188 
          have a1190 : f898 vq = some (.inl (cy 0, 40, .inl kv)) := k900 _ _ a1189 
          have a1191 : f904 vq = some (.inl (cy 0, 40, .inl kv)) := k906 _ _ a1190 
          have a1192 : f1141 vq = some (.inl (cy 0, 40, .inl kv)) := k1145 _ _ a1191 (z_ne a1191 a1136 rfl) (z_ne a1191 a1140 rfl)
          have F1193 : ∀ i9 : Nat, i9 < nn → f1 (fg i9) = some (.inr (4, [.int (kd i9), .ref (pt i9), .long (wg i9), .int (wd i9), .int (nI i9), .int (hs i9), .int (bf i9)])) := fun i9 h9 => k4 _ _ (hF i9 h9) (z_ne (hF i9 h9) x_fa rfl)
          have F1194 : ∀ i9 : Nat, i9 < nn → f892 (fg i9) = some (.inr (4, [.int (kd i9), .ref (pt i9), .long (wg i9), .int (wd i9), .int (nI i9), .int (hs i9), .int (bf i9)])) := fun i9 h9 => k894 _ _ (F1193 i9 h9) 
          have F1195 : ∀ i9 : Nat, i9 < nn → f898 (fg i9) = some (.inr (4, [.int (kd i9), .ref (pt i9), .long (wg i9), .int (wd i9), .int (nI i9), .int (hs i9), .int (bf i9)])) := fun i9 h9 => k900 _ _ (F1194 i9 h9) 
          have F1196 : ∀ i9 : Nat, i9 < nn → f904 (fg i9) = some (.inr (4, [.int (kd i9), .ref (pt i9), .long (wg i9), .int (wd i9), .int (nI i9), .int (hs i9), .int (bf i9)])) := fun i9 h9 => k906 _ _ (F1195 i9 h9) 
          have F1197 : ∀ i9 : Nat, i9 < nn → f1141 (fg i9) = some (.inr (4, [.int (kd i9), .ref (pt i9), .long (wg i9), .int (wd i9), .int (nI i9), .int (hs i9), .int (bf i9)])) := fun i9 h9 => k1145 _ _ (F1196 i9 h9) (z_ne (F1196 i9 h9) a1136 rfl) (z_ne (F1196 i9 h9) a1140 rfl)
          have F1198 : ∀ i9 : Nat, i9 < nn → f1 (pt i9) = some (.inl (cy 1, (ln i9), .inr (.inl (pp i9)))) := fun i9 h9 => k4 _ _ (hP i9 h9) (z_neO (hP i9 h9) x_fa rfl)
          have F1199 : ∀ i9 : Nat, i9 < nn → f892 (pt i9) = some (.inl (cy 1, (ln i9), .inr (.inl (pp i9)))) := fun i9 h9 => k894 _ _ (F1198 i9 h9) 
          have F1200 : ∀ i9 : Nat, i9 < nn → f898 (pt i9) = some (.inl (cy 1, (ln i9), .inr (.inl (pp i9)))) := fun i9 h9 => k900 _ _ (F1199 i9 h9) 
          have F1201 : ∀ i9 : Nat, i9 < nn → f904 (pt i9) = some (.inl (cy 1, (ln i9), .inr (.inl (pp i9)))) := fun i9 h9 => k906 _ _ (F1200 i9 h9) 
          have F1202 : ∀ i9 : Nat, i9 < nn → f1141 (pt i9) = some (.inl (cy 1, (ln i9), .inr (.inl (pp i9)))) := fun i9 h9 => k1145 _ _ (F1201 i9 h9) (z_neO (F1201 i9 h9) a1136 rfl) (z_neA (F1201 i9 h9) a1140 rfl)
          have F1203 : ∀ i9 : Nat, i9 < nf → f1 (fq i9) = some (.inr (3, [.ref (fk i9), .int (nI (fz i9))])) := fun i9 h9 => k4 _ _ (hFq i9 h9) (z_ne (hFq i9 h9) x_fa rfl)
          have F1204 : ∀ i9 : Nat, i9 < nf → f892 (fq i9) = some (.inr (3, [.ref (fk i9), .int (nI (fz i9))])) := fun i9 h9 => k894 _ _ (F1203 i9 h9) 
          have F1205 : ∀ i9 : Nat, i9 < nf → f898 (fq i9) = some (.inr (3, [.ref (fk i9), .int (nI (fz i9))])) := fun i9 h9 => k900 _ _ (F1204 i9 h9) 
          have F1206 : ∀ i9 : Nat, i9 < nf → f904 (fq i9) = some (.inr (3, [.ref (fk i9), .int (nI (fz i9))])) := fun i9 h9 => k906 _ _ (F1205 i9 h9) 
          have F1207 : ∀ i9 : Nat, i9 < nf → f1141 (fq i9) = some (.inr (3, [.ref (fk i9), .int (nI (fz i9))])) := fun i9 h9 => k1145 _ _ (F1206 i9 h9) (z_ne (F1206 i9 h9) a1136 rfl) (z_ne (F1206 i9 h9) a1140 rfl)
          have F1208 : ∀ i9 : Nat, i9 < nf → f1 (fk i9) = some (.inl (cy 0, 4, .inl (fc i9))) := fun i9 h9 => k4 _ _ (hFk i9 h9) (z_ne (hFk i9 h9) x_fa rfl)
          have F1209 : ∀ i9 : Nat, i9 < nf → f892 (fk i9) = some (.inl (cy 0, 4, .inl (fc i9))) := fun i9 h9 => k894 _ _ (F1208 i9 h9) 
          have F1210 : ∀ i9 : Nat, i9 < nf → f898 (fk i9) = some (.inl (cy 0, 4, .inl (fc i9))) := fun i9 h9 => k900 _ _ (F1209 i9 h9) 
          have F1211 : ∀ i9 : Nat, i9 < nf → f904 (fk i9) = some (.inl (cy 0, 4, .inl (fc i9))) := fun i9 h9 => k906 _ _ (F1210 i9 h9) 
          have F1212 : ∀ i9 : Nat, i9 < nf → f1141 (fk i9) = some (.inl (cy 0, 4, .inl (fc i9))) := fun i9 h9 => k1145 _ _ (F1211 i9 h9) (z_ne (F1211 i9 h9) a1136 rfl) (z_ne (F1211 i9 h9) a1140 rfl)
          have F1213 : ∀ i9 : Nat, i9 < nc → f1 (cn i9) = some (.inr (0, [.int (ce i9), .int (cm i9)])) := fun i9 h9 => k4 _ _ (hCn i9 h9) (z_ne (hCn i9 h9) x_fa rfl)
          have F1214 : ∀ i9 : Nat, i9 < nc → f892 (cn i9) = some (.inr (0, [.int (ce i9), .int (cm i9)])) := fun i9 h9 => k894 _ _ (F1213 i9 h9) 
          have F1215 : ∀ i9 : Nat, i9 < nc → f898 (cn i9) = some (.inr (0, [.int (ce i9), .int (cm i9)])) := fun i9 h9 => k900 _ _ (F1214 i9 h9) 
          have F1216 : ∀ i9 : Nat, i9 < nc → f904 (cn i9) = some (.inr (0, [.int (ce i9), .int (cm i9)])) := fun i9 h9 => k906 _ _ (F1215 i9 h9) 
          have F1217 : ∀ i9 : Nat, i9 < nc → f1141 (cn i9) = some (.inr (0, [.int (ce i9), .int (cm i9)])) := fun i9 h9 => k1145 _ _ (F1216 i9 h9) (z_ne (F1216 i9 h9) a1136 rfl) (z_ne (F1216 i9 h9) a1140 rfl)
          have F1218 : ∀ i9 : Nat, i9 < 4 → f1 (ea i9) = some (.inr (1, [.ref (ma i9), .int (nI (sq i9))])) := fun i9 h9 => k4 _ _ (hEa i9 h9) (z_ne (hEa i9 h9) x_fa rfl)
          have F1219 : ∀ i9 : Nat, i9 < 4 → f892 (ea i9) = some (.inr (1, [.ref (ma i9), .int (nI (sq i9))])) := fun i9 h9 => k894 _ _ (F1218 i9 h9) 
          have F1220 : ∀ i9 : Nat, i9 < 4 → f898 (ea i9) = some (.inr (1, [.ref (ma i9), .int (nI (sq i9))])) := fun i9 h9 => k900 _ _ (F1219 i9 h9) 
          have F1221 : ∀ i9 : Nat, i9 < 4 → f904 (ea i9) = some (.inr (1, [.ref (ma i9), .int (nI (sq i9))])) := fun i9 h9 => k906 _ _ (F1220 i9 h9) 
          have F1222 : ∀ i9 : Nat, i9 < 4 → f1141 (ea i9) = some (.inr (1, [.ref (ma i9), .int (nI (sq i9))])) := fun i9 h9 => k1145 _ _ (F1221 i9 h9) (z_ne (F1221 i9 h9) a1136 rfl) (z_ne (F1221 i9 h9) a1140 rfl)
          have F1223 : ∀ i9 : Nat, i9 < 4 → f1 (ma i9) = some (.inl (cy 0, 60, .inl (mb i9))) := fun i9 h9 => k4 _ _ (hMa i9 h9) (z_ne (hMa i9 h9) x_fa rfl)
          have F1224 : ∀ i9 : Nat, i9 < 4 → f892 (ma i9) = some (.inl (cy 0, 60, .inl (mb i9))) := fun i9 h9 => k894 _ _ (F1223 i9 h9) 
          have F1225 : ∀ i9 : Nat, i9 < 4 → f898 (ma i9) = some (.inl (cy 0, 60, .inl (mb i9))) := fun i9 h9 => k900 _ _ (F1224 i9 h9) 
          have F1226 : ∀ i9 : Nat, i9 < 4 → f904 (ma i9) = some (.inl (cy 0, 60, .inl (mb i9))) := fun i9 h9 => k906 _ _ (F1225 i9 h9) 
          have F1227 : ∀ i9 : Nat, i9 < 4 → f1141 (ma i9) = some (.inl (cy 0, 60, .inl (mb i9))) := fun i9 h9 => k1145 _ _ (F1226 i9 h9) (z_ne (F1226 i9 h9) a1136 rfl) (z_ne (F1226 i9 h9) a1140 rfl)
          exact z_iret C hr rfl hz hS ⟨1, 0, 0, (upd gv 1 (gv 1 + 1)), nl, gu, nn, ga, gr, fg, pt, kd, ln, pp, wg, wd, hs, bf, nf, gf, fq, fk, fz, fc, nc, gc, cn, ce, cm, sq, mb, ks, kk, kv, lk, rfl, (by rw [if_neg (by decide)]), ⟨a1146, a1143, a1144, a1148, a1152, a1157, a1162, a1167, a1172, a1177, a1182, a1187, a1192, F1197, F1202, F1207, F1212, F1217, F1222, F1227, hn60, hl12, hf6, hc60, hs40, hga, hgr, hln, hk5, hk4, hfi, hpi, har, hgf, hfz, hgc, hG, hsq, hei, hmi, kne, hca, hcr, hlk⟩⟩ (Nat.le_of_ble_eq_true rfl) (Nat.le_of_ble_eq_true rfl) dX7_pair_59
      · have a1228 : f898 fi = some (.inr (5, [.ref al, .ref ra, .int (nI nn)])) := k900 _ _ a897 
        refine z_callVi (As := []) C hz hS hA hl (k_X5_isFull_B l D cy f898 fi al ra nn a1228 hn60 h60) zyX5_isFull mMX7_79 a1228 zl5 rfl rfl (Nat.le_of_ble_eq_true rfl) ⟨Nat.le_of_ble_eq_true rfl, Nat.le_of_ble_eq_true rfl⟩ ⟨Nat.le_of_ble_eq_true rfl, Nat.le_of_ble_eq_true rfl⟩ dX7_pair_36 (fun r f1229 H locs h1230 hz hS => ?_)
        obtain ⟨rfl, k1231⟩ := h1230
        refine lv_if_eq (tgt := 45) hx hb dX7_pair_39 (by decide) (fun c1232 => ?_) (fun c1232 => ?_)
        · exact absurd c1232 (by decide)
        refine lv_bipush (v := (-3)) hx hb dX7_pair_42 (by decide) ?_
        have a1233 : f1229 o = some (.inr (7, [.ref fa, .ref fi, .ref nu, .int (nI nl), .ref fm, .int (nI nf), .ref co, .int (nI nc), .ref en, .ref ke, .long lk])) := k1231 _ _ a902 
        have a1234 : f892 fa = some (.inr (2, [.int 0, .int (-1), .int 0, .ref ev])) := k894 _ _ a3 
        have a1235 : f898 fa = some (.inr (2, [.int 0, .int (-1), .int 0, .ref ev])) := k900 _ _ a1234 
        have a1236 : f1229 fa = some (.inr (2, [.int 0, .int (-1), .int 0, .ref ev])) := k1231 _ _ a1235 
        have a1237 : f1 ev = some (.inl (cy 0, 8, .inl gv)) := k4 _ _ x_ev (z_ne x_ev x_fa rfl)
        have a1238 : f892 ev = some (.inl (cy 0, 8, .inl gv)) := k894 _ _ a1237 
        have a1239 : f898 ev = some (.inl (cy 0, 8, .inl gv)) := k900 _ _ a1238 
        have a1240 : f1229 ev = some (.inl (cy 0, 8, .inl gv)) := k1231 _ _ a1239 
        have a1241 : f1229 fi = some (.inr (5, [.ref al, .ref ra, .int (nI nn)])) := k1231 _ _ a1228 
        have a1242 : f892 al = some (.inl (cy 3, 60, .inr (.inr (.inr (.inr ga))))) := k894 _ _ a891 
        have a1243 : f898 al = some (.inl (cy 3, 60, .inr (.inr (.inr (.inr ga))))) := k900 _ _ a1242 
        have a1244 : f1229 al = some (.inl (cy 3, 60, .inr (.inr (.inr (.inr ga))))) := k1231 _ _ a1243 
        have a1245 : f1 ra = some (.inl (cy 3, 60, .inr (.inr (.inr (.inr gr))))) := k4 _ _ x_ra (z_ne x_ra x_fa rfl)
        have a1246 : f892 ra = some (.inl (cy 3, 60, .inr (.inr (.inr (.inr gr))))) := k894 _ _ a1245 
        have a1247 : f898 ra = some (.inl (cy 3, 60, .inr (.inr (.inr (.inr gr))))) := k900 _ _ a1246 
        have a1248 : f1229 ra = some (.inl (cy 3, 60, .inr (.inr (.inr (.inr gr))))) := k1231 _ _ a1247 
        have a1249 : f1 nu = some (.inl (cy 0, 12, .inl gu)) := k4 _ _ x_nu (z_ne x_nu x_fa rfl)
        have a1250 : f892 nu = some (.inl (cy 0, 12, .inl gu)) := k894 _ _ a1249 
        have a1251 : f898 nu = some (.inl (cy 0, 12, .inl gu)) := k900 _ _ a1250 
        have a1252 : f1229 nu = some (.inl (cy 0, 12, .inl gu)) := k1231 _ _ a1251 
        have a1253 : f1 fm = some (.inl (cy 4, 6, .inr (.inr (.inr (.inr gf))))) := k4 _ _ x_fm (z_ne x_fm x_fa rfl)
        have a1254 : f892 fm = some (.inl (cy 4, 6, .inr (.inr (.inr (.inr gf))))) := k894 _ _ a1253 
        have a1255 : f898 fm = some (.inl (cy 4, 6, .inr (.inr (.inr (.inr gf))))) := k900 _ _ a1254 
        have a1256 : f1229 fm = some (.inl (cy 4, 6, .inr (.inr (.inr (.inr gf))))) := k1231 _ _ a1255 
        have a1257 : f1 co = some (.inl (cy 5, 60, .inr (.inr (.inr (.inr gc))))) := k4 _ _ x_co (z_ne x_co x_fa rfl)
        have a1258 : f892 co = some (.inl (cy 5, 60, .inr (.inr (.inr (.inr gc))))) := k894 _ _ a1257 
        have a1259 : f898 co = some (.inl (cy 5, 60, .inr (.inr (.inr (.inr gc))))) := k900 _ _ a1258 
        have a1260 : f1229 co = some (.inl (cy 5, 60, .inr (.inr (.inr (.inr gc))))) := k1231 _ _ a1259 
        have a1261 : f1 en = some (.inl (cy 6, 4, .inr (.inr (.inr (.inr ge))))) := k4 _ _ x_en (z_ne x_en x_fa rfl)
        have a1262 : f892 en = some (.inl (cy 6, 4, .inr (.inr (.inr (.inr ge))))) := k894 _ _ a1261 
        have a1263 : f898 en = some (.inl (cy 6, 4, .inr (.inr (.inr (.inr ge))))) := k900 _ _ a1262 
        have a1264 : f1229 en = some (.inl (cy 6, 4, .inr (.inr (.inr (.inr ge))))) := k1231 _ _ a1263 
        have a1265 : f1 ke = some (.inr (6, [.ref kn, .ref vq, .int (nI ks)])) := k4 _ _ x_ke (z_ne x_ke x_fa rfl)
        have a1266 : f892 ke = some (.inr (6, [.ref kn, .ref vq, .int (nI ks)])) := k894 _ _ a1265 
        have a1267 : f898 ke = some (.inr (6, [.ref kn, .ref vq, .int (nI ks)])) := k900 _ _ a1266 
        have a1268 : f1229 ke = some (.inr (6, [.ref kn, .ref vq, .int (nI ks)])) := k1231 _ _ a1267 
        have a1269 : f1 kn = some (.inl (cy 0, 40, .inl kk)) := k4 _ _ x_kn (z_ne x_kn x_fa rfl)
        have a1270 : f892 kn = some (.inl (cy 0, 40, .inl kk)) := k894 _ _ a1269 
        have a1271 : f898 kn = some (.inl (cy 0, 40, .inl kk)) := k900 _ _ a1270 
        have a1272 : f1229 kn = some (.inl (cy 0, 40, .inl kk)) := k1231 _ _ a1271 
        have a1273 : f1 vq = some (.inl (cy 0, 40, .inl kv)) := k4 _ _ x_vq (z_ne x_vq x_fa rfl)
        have a1274 : f892 vq = some (.inl (cy 0, 40, .inl kv)) := k894 _ _ a1273 
        have a1275 : f898 vq = some (.inl (cy 0, 40, .inl kv)) := k900 _ _ a1274 
        have a1276 : f1229 vq = some (.inl (cy 0, 40, .inl kv)) := k1231 _ _ a1275 
        have F1277 : ∀ i9 : Nat, i9 < nn → f1 (fg i9) = some (.inr (4, [.int (kd i9), .ref (pt i9), .long (wg i9), .int (wd i9), .int (nI i9), .int (hs i9), .int (bf i9)])) := fun i9 h9 => k4 _ _ (hF i9 h9) (z_ne (hF i9 h9) x_fa rfl)
        have F1278 : ∀ i9 : Nat, i9 < nn → f892 (fg i9) = some (.inr (4, [.int (kd i9), .ref (pt i9), .long (wg i9), .int (wd i9), .int (nI i9), .int (hs i9), .int (bf i9)])) := fun i9 h9 => k894 _ _ (F1277 i9 h9) 
        have F1279 : ∀ i9 : Nat, i9 < nn → f898 (fg i9) = some (.inr (4, [.int (kd i9), .ref (pt i9), .long (wg i9), .int (wd i9), .int (nI i9), .int (hs i9), .int (bf i9)])) := fun i9 h9 => k900 _ _ (F1278 i9 h9) 
        have F1280 : ∀ i9 : Nat, i9 < nn → f1229 (fg i9) = some (.inr (4, [.int (kd i9), .ref (pt i9), .long (wg i9), .int (wd i9), .int (nI i9), .int (hs i9), .int (bf i9)])) := fun i9 h9 => k1231 _ _ (F1279 i9 h9) 
        have F1281 : ∀ i9 : Nat, i9 < nn → f1 (pt i9) = some (.inl (cy 1, (ln i9), .inr (.inl (pp i9)))) := fun i9 h9 => k4 _ _ (hP i9 h9) (z_neO (hP i9 h9) x_fa rfl)
        have F1282 : ∀ i9 : Nat, i9 < nn → f892 (pt i9) = some (.inl (cy 1, (ln i9), .inr (.inl (pp i9)))) := fun i9 h9 => k894 _ _ (F1281 i9 h9) 
        have F1283 : ∀ i9 : Nat, i9 < nn → f898 (pt i9) = some (.inl (cy 1, (ln i9), .inr (.inl (pp i9)))) := fun i9 h9 => k900 _ _ (F1282 i9 h9) 
        have F1284 : ∀ i9 : Nat, i9 < nn → f1229 (pt i9) = some (.inl (cy 1, (ln i9), .inr (.inl (pp i9)))) := fun i9 h9 => k1231 _ _ (F1283 i9 h9) 
        have F1285 : ∀ i9 : Nat, i9 < nf → f1 (fq i9) = some (.inr (3, [.ref (fk i9), .int (nI (fz i9))])) := fun i9 h9 => k4 _ _ (hFq i9 h9) (z_ne (hFq i9 h9) x_fa rfl)
        have F1286 : ∀ i9 : Nat, i9 < nf → f892 (fq i9) = some (.inr (3, [.ref (fk i9), .int (nI (fz i9))])) := fun i9 h9 => k894 _ _ (F1285 i9 h9) 
        have F1287 : ∀ i9 : Nat, i9 < nf → f898 (fq i9) = some (.inr (3, [.ref (fk i9), .int (nI (fz i9))])) := fun i9 h9 => k900 _ _ (F1286 i9 h9) 
        have F1288 : ∀ i9 : Nat, i9 < nf → f1229 (fq i9) = some (.inr (3, [.ref (fk i9), .int (nI (fz i9))])) := fun i9 h9 => k1231 _ _ (F1287 i9 h9) 
        have F1289 : ∀ i9 : Nat, i9 < nf → f1 (fk i9) = some (.inl (cy 0, 4, .inl (fc i9))) := fun i9 h9 => k4 _ _ (hFk i9 h9) (z_ne (hFk i9 h9) x_fa rfl)
        have F1290 : ∀ i9 : Nat, i9 < nf → f892 (fk i9) = some (.inl (cy 0, 4, .inl (fc i9))) := fun i9 h9 => k894 _ _ (F1289 i9 h9) 
        have F1291 : ∀ i9 : Nat, i9 < nf → f898 (fk i9) = some (.inl (cy 0, 4, .inl (fc i9))) := fun i9 h9 => k900 _ _ (F1290 i9 h9) 
        have F1292 : ∀ i9 : Nat, i9 < nf → f1229 (fk i9) = some (.inl (cy 0, 4, .inl (fc i9))) := fun i9 h9 => k1231 _ _ (F1291 i9 h9) 
        have F1293 : ∀ i9 : Nat, i9 < nc → f1 (cn i9) = some (.inr (0, [.int (ce i9), .int (cm i9)])) := fun i9 h9 => k4 _ _ (hCn i9 h9) (z_ne (hCn i9 h9) x_fa rfl)
        have F1294 : ∀ i9 : Nat, i9 < nc → f892 (cn i9) = some (.inr (0, [.int (ce i9), .int (cm i9)])) := fun i9 h9 => k894 _ _ (F1293 i9 h9) 
        have F1295 : ∀ i9 : Nat, i9 < nc → f898 (cn i9) = some (.inr (0, [.int (ce i9), .int (cm i9)])) := fun i9 h9 => k900 _ _ (F1294 i9 h9) 
        have F1296 : ∀ i9 : Nat, i9 < nc → f1229 (cn i9) = some (.inr (0, [.int (ce i9), .int (cm i9)])) := fun i9 h9 => k1231 _ _ (F1295 i9 h9) 
        have F1297 : ∀ i9 : Nat, i9 < 4 → f1 (ea i9) = some (.inr (1, [.ref (ma i9), .int (nI (sq i9))])) := fun i9 h9 => k4 _ _ (hEa i9 h9) (z_ne (hEa i9 h9) x_fa rfl)
        have F1298 : ∀ i9 : Nat, i9 < 4 → f892 (ea i9) = some (.inr (1, [.ref (ma i9), .int (nI (sq i9))])) := fun i9 h9 => k894 _ _ (F1297 i9 h9) 
        have F1299 : ∀ i9 : Nat, i9 < 4 → f898 (ea i9) = some (.inr (1, [.ref (ma i9), .int (nI (sq i9))])) := fun i9 h9 => k900 _ _ (F1298 i9 h9) 
        have F1300 : ∀ i9 : Nat, i9 < 4 → f1229 (ea i9) = some (.inr (1, [.ref (ma i9), .int (nI (sq i9))])) := fun i9 h9 => k1231 _ _ (F1299 i9 h9) 
        have F1301 : ∀ i9 : Nat, i9 < 4 → f1 (ma i9) = some (.inl (cy 0, 60, .inl (mb i9))) := fun i9 h9 => k4 _ _ (hMa i9 h9) (z_ne (hMa i9 h9) x_fa rfl)
        have F1302 : ∀ i9 : Nat, i9 < 4 → f892 (ma i9) = some (.inl (cy 0, 60, .inl (mb i9))) := fun i9 h9 => k894 _ _ (F1301 i9 h9) 
        have F1303 : ∀ i9 : Nat, i9 < 4 → f898 (ma i9) = some (.inl (cy 0, 60, .inl (mb i9))) := fun i9 h9 => k900 _ _ (F1302 i9 h9) 
        have F1304 : ∀ i9 : Nat, i9 < 4 → f1229 (ma i9) = some (.inl (cy 0, 60, .inl (mb i9))) := fun i9 h9 => k1231 _ _ (F1303 i9 h9) 
        exact z_iret C hr rfl hz hS ⟨0, (-1), 0, gv, nl, gu, nn, ga, gr, fg, pt, kd, ln, pp, wg, wd, hs, bf, nf, gf, fq, fk, fz, fc, nc, gc, cn, ce, cm, sq, mb, ks, kk, kv, lk, rfl, (by rw [if_neg (by decide)]), ⟨a1233, a1236, a1240, a1241, a1244, a1248, a1252, a1256, a1260, a1264, a1268, a1272, a1276, F1280, F1284, F1288, F1292, F1296, F1300, F1304, hn60, hl12, hf6, hc60, hs40, hga, hgr, hln, hk5, hk4, hfi, hpi, har, hgf, hfz, hgc, hG, hsq, hei, hmi, kne, hca, hcr, hlk⟩⟩ (Nat.le_of_ble_eq_true rfl) (Nat.le_of_ble_eq_true rfl) dX7_pair_44
    · have a1305 : f892 fi = some (.inr (5, [.ref al, .ref ra, .int (nI nn)])) := k894 _ _ a890 
      have a1306 : f892 al = some (.inl (cy 3, 60, .inr (.inr (.inr (.inr ga))))) := k894 _ _ a891 
      refine z_callVi (As := [.int y]) C hz hS hA hl (k_X5_hasOrNone_A l D cy f892 fi al ra ga nn fg jr y a1305 a1306 hrt hjr hn60 hga) zyX5_hasOrNone mMX7_112 a1305 zl5 rfl rfl (Nat.le_of_ble_eq_true rfl) ⟨Nat.le_of_ble_eq_true rfl, Nat.le_of_ble_eq_true rfl⟩ ⟨Nat.le_of_ble_eq_true rfl, Nat.le_of_ble_eq_true rfl⟩ dX7_pair_23 (fun r f1307 H locs h1308 hz hS => ?_)
      obtain ⟨rfl, k1309⟩ := h1308
      refine lv_if_ne (tgt := 32) hx hb dX7_pair_26 (by decide) (fun c1310 => ?_) (fun c1310 => ?_)
      rotate_left
      · exact absurd c1310 (by decide)
      refine lv_aload_n hx hb dX7_pair_32 rfl (lv_at hl 0 rfl) ?_
      have a1311 : f1307 o = some (.inr (7, [.ref fa, .ref fi, .ref nu, .int (nI nl), .ref fm, .int (nI nf), .ref co, .int (nI nc), .ref en, .ref ke, .long lk])) := k1309 _ _ a896 
      refine z_get (v := .ref fi) C hz a1311 zl7 mFX7_19 (by decide) rfl dX7_pair_33 ?_
      by_cases h60 : nn < 60
      · have a1312 : f1307 fi = some (.inr (5, [.ref al, .ref ra, .int (nI nn)])) := k1309 _ _ a1305 
        refine z_callVi (As := []) C hz hS hA hl (k_X5_isFull_A l D cy f1307 fi al ra nn a1312 hn60 h60) zyX5_isFull mMX7_79 a1312 zl5 rfl rfl (Nat.le_of_ble_eq_true rfl) ⟨Nat.le_of_ble_eq_true rfl, Nat.le_of_ble_eq_true rfl⟩ ⟨Nat.le_of_ble_eq_true rfl, Nat.le_of_ble_eq_true rfl⟩ dX7_pair_36 (fun r f1313 H locs h1314 hz hS => ?_)
        obtain ⟨rfl, k1315⟩ := h1314
        refine lv_if_eq (tgt := 45) hx hb dX7_pair_39 (by decide) (fun c1316 => ?_) (fun c1316 => ?_)
        rotate_left
        · exact absurd c1316 (by decide)
        refine lv_iload_n hx hb dX7_pair_45 rfl (lv_at hl 1 rfl) ?_
        refine lv_iconst (v := (-1)) hx hb dX7_pair_46 (by decide) ?_
        refine lv_icmp_ne (tgt := 60) hx hb dX7_pair_47 (by decide) (fun c1317 => ?_) (fun c1317 => ?_)
        · refine lv_aload_n hx hb dX7_pair_60 rfl (lv_at hl 0 rfl) ?_
          have a1318 : f1313 o = some (.inr (7, [.ref fa, .ref fi, .ref nu, .int (nI nl), .ref fm, .int (nI nf), .ref co, .int (nI nc), .ref en, .ref ke, .long lk])) := k1315 _ _ a1311 
          refine z_get (v := .ref fi) C hz a1318 zl7 mFX7_19 (by decide) rfl dX7_pair_61 ?_
          refine z_new (fs := [.int 0, .null, .long 0, .int 0, .int 0, .int 0, .int 0]) C hz hS hA zl4 mLX7_83 mIa_RX4 mIn_RX4 (by decide +kernel) (Nat.le_of_ble_eq_true rfl) (Nat.le_of_ble_eq_true rfl) dX7_pair_64 (fun q1319 H f1321 u1320 a1322 k1323 hz hS => ?_)
          refine lv_dup hx hb dX7_pair_67 rfl ?_
          refine lv_iconst (v := 4) hx hb dX7_pair_68 (by decide) ?_
          refine lv_iconst (v := 2) hx hb dX7_pair_69 (by decide) ?_
          refine z_newa (atype := .long) (t0 := 1) (N' := 2) (x := (.inr (.inl (fun _ => 0)))) C hz hS hA rfl mA_long rfl (fun _ => rfl) (by decide) (Nat.le_of_ble_eq_true rfl) (by decide) (Nat.le_of_ble_eq_true rfl) (Nat.le_of_ble_eq_true rfl) dX7_pair_70 (fun q1324 H f1326 u1325 a1327 k1328 hz hS => ?_)
          refine lv_dup hx hb dX7_pair_72 rfl ?_
          refine lv_iconst (v := 0) hx hb dX7_pair_73 (by decide) ?_
          refine lv_iload_n hx hb dX7_pair_74 rfl (lv_at hl 1 rfl) ?_
          refine lv_i2l (v := x.toInt64) hx hb dX7_pair_75 rfl ?_
          refine z_last 0 C hz hS a1327 (by decide) (Nat.le_of_ble_eq_true rfl) (by omega) dX7_pair_76 (fun H locs f1329 a1330 k1331 hz hS => ?_)
          refine lv_dup hx hb dX7_pair_77 rfl ?_
          refine lv_iconst (v := 1) hx hb dX7_pair_78 (by decide) ?_
          refine lv_iload_n hx hb dX7_pair_79 rfl (lv_at hl 2 rfl) ?_
          refine lv_i2l (v := y.toInt64) hx hb dX7_pair_80 rfl ?_
          refine z_last 1 C hz hS a1330 (by decide) (Nat.le_of_ble_eq_true rfl) (by omega) dX7_pair_81 (fun H locs f1332 a1333 k1334 hz hS => ?_)
          refine lv_lconst (v := 0) hx hb dX7_pair_82 (by decide) ?_
          have a1335 : f1326 q1319 = some (.inr (4, [.int 0, .null, .long 0, .int 0, .int 0, .int 0, .int 0])) := (k1328 _ (z_nn u1325 a1322)).trans a1322
          have a1336 : f1329 q1319 = some (.inr (4, [.int 0, .null, .long 0, .int 0, .int 0, .int 0, .int 0])) := (k1331 _ (z_nn u1325 a1322)).trans a1335
          have a1337 : f1332 q1319 = some (.inr (4, [.int 0, .null, .long 0, .int 0, .int 0, .int 0, .int 0])) := (k1334 _ (z_nn u1325 a1322)).trans a1336
          refine z_callIv (ret := none) (As := [.int 4, .ref q1324, .long 0]) C hz hS hA hl (k_X4_init l D cy f1332 q1319 4 q1324 0 a1337 ) zyX4_init mMX7_89 rfl rfl (Nat.le_of_ble_eq_true rfl) ⟨Nat.le_of_ble_eq_true rfl, Nat.le_of_ble_eq_true rfl⟩ ⟨Nat.le_of_ble_eq_true rfl, Nat.le_of_ble_eq_true rfl⟩ dX7_pair_83 (fun  f1338 H locs h1339 hz hS => ?_)
          obtain ⟨a1340, k1341⟩ := h1339
          have a1342 : f1313 fi = some (.inr (5, [.ref al, .ref ra, .int (nI nn)])) := k1315 _ _ a1312 
          have a1343 : f1321 fi = some (.inr (5, [.ref al, .ref ra, .int (nI nn)])) := (k1323 _ (z_nn u1320 a1342)).trans a1342
          have a1344 : f1326 fi = some (.inr (5, [.ref al, .ref ra, .int (nI nn)])) := (k1328 _ (z_nn u1325 a1343)).trans a1343
          have a1345 : f1329 fi = some (.inr (5, [.ref al, .ref ra, .int (nI nn)])) := (k1331 _ (z_nn u1325 a1343)).trans a1344
          have a1346 : f1332 fi = some (.inr (5, [.ref al, .ref ra, .int (nI nn)])) := (k1334 _ (z_nn u1325 a1343)).trans a1345
          have a1347 : f1338 fi = some (.inr (5, [.ref al, .ref ra, .int (nI nn)])) := k1341 _ _ a1346 (z_nn u1320 a1342)
          have a1348 : f1307 al = some (.inl (cy 3, 60, .inr (.inr (.inr (.inr ga))))) := k1309 _ _ a1306 
          have a1349 : f1313 al = some (.inl (cy 3, 60, .inr (.inr (.inr (.inr ga))))) := k1315 _ _ a1348 
          have a1350 : f1321 al = some (.inl (cy 3, 60, .inr (.inr (.inr (.inr ga))))) := (k1323 _ (z_nn u1320 a1349)).trans a1349
          have a1351 : f1326 al = some (.inl (cy 3, 60, .inr (.inr (.inr (.inr ga))))) := (k1328 _ (z_nn u1325 a1350)).trans a1350
          have a1352 : f1329 al = some (.inl (cy 3, 60, .inr (.inr (.inr (.inr ga))))) := (k1331 _ (z_nn u1325 a1350)).trans a1351
          have a1353 : f1332 al = some (.inl (cy 3, 60, .inr (.inr (.inr (.inr ga))))) := (k1334 _ (z_nn u1325 a1350)).trans a1352
          have a1354 : f1338 al = some (.inl (cy 3, 60, .inr (.inr (.inr (.inr ga))))) := k1341 _ _ a1353 (z_nn u1320 a1349)
          have a1355 : f1 ra = some (.inl (cy 3, 60, .inr (.inr (.inr (.inr gr))))) := k4 _ _ x_ra (z_ne x_ra x_fa rfl)
          have a1356 : f892 ra = some (.inl (cy 3, 60, .inr (.inr (.inr (.inr gr))))) := k894 _ _ a1355 
          have a1357 : f1307 ra = some (.inl (cy 3, 60, .inr (.inr (.inr (.inr gr))))) := k1309 _ _ a1356 
          have a1358 : f1313 ra = some (.inl (cy 3, 60, .inr (.inr (.inr (.inr gr))))) := k1315 _ _ a1357 
          have a1359 : f1321 ra = some (.inl (cy 3, 60, .inr (.inr (.inr (.inr gr))))) := (k1323 _ (z_nn u1320 a1358)).trans a1358
          have a1360 : f1326 ra = some (.inl (cy 3, 60, .inr (.inr (.inr (.inr gr))))) := (k1328 _ (z_nn u1325 a1359)).trans a1359
          have a1361 : f1329 ra = some (.inl (cy 3, 60, .inr (.inr (.inr (.inr gr))))) := (k1331 _ (z_nn u1325 a1359)).trans a1360
          have a1362 : f1332 ra = some (.inl (cy 3, 60, .inr (.inr (.inr (.inr gr))))) := (k1334 _ (z_nn u1325 a1359)).trans a1361
          have a1363 : f1338 ra = some (.inl (cy 3, 60, .inr (.inr (.inr (.inr gr))))) := k1341 _ _ a1362 (z_nn u1320 a1358)
          have a1364 : f1338 q1324 = some (.inl (cy 1, 2, .inr (.inl (vp_updL (vp_updL (fun _ => 0) 0 x.toInt64) 1 y.toInt64)))) := k1341 _ _ a1333 (Ne.symm (z_nn u1325 a1322))
          have F1365 : ∀ i9 : Nat, i9 < nn → f1 (fg i9) = some (.inr (4, [.int (kd i9), .ref (pt i9), .long (wg i9), .int (wd i9), .int (nI i9), .int (hs i9), .int (bf i9)])) := fun i9 h9 => k4 _ _ (hF i9 h9) (z_ne (hF i9 h9) x_fa rfl)
          have F1366 : ∀ i9 : Nat, i9 < nn → f892 (fg i9) = some (.inr (4, [.int (kd i9), .ref (pt i9), .long (wg i9), .int (wd i9), .int (nI i9), .int (hs i9), .int (bf i9)])) := fun i9 h9 => k894 _ _ (F1365 i9 h9) 
          have F1367 : ∀ i9 : Nat, i9 < nn → f1307 (fg i9) = some (.inr (4, [.int (kd i9), .ref (pt i9), .long (wg i9), .int (wd i9), .int (nI i9), .int (hs i9), .int (bf i9)])) := fun i9 h9 => k1309 _ _ (F1366 i9 h9) 
          have F1368 : ∀ i9 : Nat, i9 < nn → f1313 (fg i9) = some (.inr (4, [.int (kd i9), .ref (pt i9), .long (wg i9), .int (wd i9), .int (nI i9), .int (hs i9), .int (bf i9)])) := fun i9 h9 => k1315 _ _ (F1367 i9 h9) 
          have F1369 : ∀ i9 : Nat, i9 < nn → f1321 (fg i9) = some (.inr (4, [.int (kd i9), .ref (pt i9), .long (wg i9), .int (wd i9), .int (nI i9), .int (hs i9), .int (bf i9)])) := fun i9 h9 => (k1323 _ (z_nn u1320 (F1368 i9 h9))).trans (F1368 i9 h9)
          have F1370 : ∀ i9 : Nat, i9 < nn → f1326 (fg i9) = some (.inr (4, [.int (kd i9), .ref (pt i9), .long (wg i9), .int (wd i9), .int (nI i9), .int (hs i9), .int (bf i9)])) := fun i9 h9 => (k1328 _ (z_nn u1325 (F1369 i9 h9))).trans (F1369 i9 h9)
          have F1371 : ∀ i9 : Nat, i9 < nn → f1329 (fg i9) = some (.inr (4, [.int (kd i9), .ref (pt i9), .long (wg i9), .int (wd i9), .int (nI i9), .int (hs i9), .int (bf i9)])) := fun i9 h9 => (k1331 _ (z_nn u1325 (F1369 i9 h9))).trans (F1370 i9 h9)
          have F1372 : ∀ i9 : Nat, i9 < nn → f1332 (fg i9) = some (.inr (4, [.int (kd i9), .ref (pt i9), .long (wg i9), .int (wd i9), .int (nI i9), .int (hs i9), .int (bf i9)])) := fun i9 h9 => (k1334 _ (z_nn u1325 (F1369 i9 h9))).trans (F1371 i9 h9)
          have F1373 : ∀ i9 : Nat, i9 < nn → f1338 (fg i9) = some (.inr (4, [.int (kd i9), .ref (pt i9), .long (wg i9), .int (wd i9), .int (nI i9), .int (hs i9), .int (bf i9)])) := fun i9 h9 => k1341 _ _ (F1372 i9 h9) (z_nn u1320 (F1368 i9 h9))
          have F1374 : ∀ i9 : Nat, i9 < nn → f1 (pt i9) = some (.inl (cy 1, (ln i9), .inr (.inl (pp i9)))) := fun i9 h9 => k4 _ _ (hP i9 h9) (z_neO (hP i9 h9) x_fa rfl)
          have F1375 : ∀ i9 : Nat, i9 < nn → f892 (pt i9) = some (.inl (cy 1, (ln i9), .inr (.inl (pp i9)))) := fun i9 h9 => k894 _ _ (F1374 i9 h9) 
          have F1376 : ∀ i9 : Nat, i9 < nn → f1307 (pt i9) = some (.inl (cy 1, (ln i9), .inr (.inl (pp i9)))) := fun i9 h9 => k1309 _ _ (F1375 i9 h9) 
          have F1377 : ∀ i9 : Nat, i9 < nn → f1313 (pt i9) = some (.inl (cy 1, (ln i9), .inr (.inl (pp i9)))) := fun i9 h9 => k1315 _ _ (F1376 i9 h9) 
          have F1378 : ∀ i9 : Nat, i9 < nn → f1321 (pt i9) = some (.inl (cy 1, (ln i9), .inr (.inl (pp i9)))) := fun i9 h9 => (k1323 _ (z_nn u1320 (F1377 i9 h9))).trans (F1377 i9 h9)
          have F1379 : ∀ i9 : Nat, i9 < nn → f1326 (pt i9) = some (.inl (cy 1, (ln i9), .inr (.inl (pp i9)))) := fun i9 h9 => (k1328 _ (z_nn u1325 (F1378 i9 h9))).trans (F1378 i9 h9)
          have F1380 : ∀ i9 : Nat, i9 < nn → f1329 (pt i9) = some (.inl (cy 1, (ln i9), .inr (.inl (pp i9)))) := fun i9 h9 => (k1331 _ (z_nn u1325 (F1378 i9 h9))).trans (F1379 i9 h9)
          have F1381 : ∀ i9 : Nat, i9 < nn → f1332 (pt i9) = some (.inl (cy 1, (ln i9), .inr (.inl (pp i9)))) := fun i9 h9 => (k1334 _ (z_nn u1325 (F1378 i9 h9))).trans (F1380 i9 h9)
          have F1382 : ∀ i9 : Nat, i9 < nn → f1338 (pt i9) = some (.inl (cy 1, (ln i9), .inr (.inl (pp i9)))) := fun i9 h9 => k1341 _ _ (F1381 i9 h9) (z_nn u1320 (F1377 i9 h9))
          refine z_callVi (As := [.ref q1319]) C hz hS hA hl (k_X5_add l D cy f1338 fi al ra ga gr nn fg pt kd ln pp wg wd hs bf q1319 4 q1324 0 0 (-1) 0 0 2 (vp_updL (vp_updL (fun _ => 0) 0 x.toInt64) 1 y.toInt64) a1347 a1354 a1363 a1340 a1364 F1373 F1382 h60 hga hgr hln hk5 hfi (fun j9 h9 => z_nn u1320 (F1368 j9 h9)) (by omega) (fun h9 => absurd h9 (by decide)) har) zyX5_add mMX7_92 a1347 zl5 rfl rfl (Nat.le_of_ble_eq_true rfl) ⟨Nat.le_of_ble_eq_true rfl, Nat.le_of_ble_eq_true rfl⟩ ⟨Nat.le_of_ble_eq_true rfl, Nat.le_of_ble_eq_true rfl⟩ dX7_pair_86 (fun r f1383 H locs h1384 hz hS => ?_)
          obtain ⟨hq_1385, bq_1386, gr_1387, bf_1388, rfl, p1389, a1390, a1391, a1392, F1393, F1394, k1395⟩ := h1384
          have a1396 : f1321 o = some (.inr (7, [.ref fa, .ref fi, .ref nu, .int (nI nl), .ref fm, .int (nI nf), .ref co, .int (nI nc), .ref en, .ref ke, .long lk])) := (k1323 _ (z_nn u1320 a1318)).trans a1318
          have a1397 : f1326 o = some (.inr (7, [.ref fa, .ref fi, .ref nu, .int (nI nl), .ref fm, .int (nI nf), .ref co, .int (nI nc), .ref en, .ref ke, .long lk])) := (k1328 _ (z_nn u1325 a1396)).trans a1396
          have a1398 : f1329 o = some (.inr (7, [.ref fa, .ref fi, .ref nu, .int (nI nl), .ref fm, .int (nI nf), .ref co, .int (nI nc), .ref en, .ref ke, .long lk])) := (k1331 _ (z_nn u1325 a1396)).trans a1397
          have a1399 : f1332 o = some (.inr (7, [.ref fa, .ref fi, .ref nu, .int (nI nl), .ref fm, .int (nI nf), .ref co, .int (nI nc), .ref en, .ref ke, .long lk])) := (k1334 _ (z_nn u1325 a1396)).trans a1398
          have a1400 : f1338 o = some (.inr (7, [.ref fa, .ref fi, .ref nu, .int (nI nl), .ref fm, .int (nI nf), .ref co, .int (nI nc), .ref en, .ref ke, .long lk])) := k1341 _ _ a1399 (z_nn u1320 a1318)
          have a1401 : f1383 o = some (.inr (7, [.ref fa, .ref fi, .ref nu, .int (nI nl), .ref fm, .int (nI nf), .ref co, .int (nI nc), .ref en, .ref ke, .long lk])) := k1395 _ _ a1400 (z_ne a1400 a1347 rfl) (z_ne a1400 a1354 rfl) (z_ne a1400 a1363 rfl) (z_nn u1320 a1318) (fun j9 h8 => (z_ne a1400 (F1373 j9 h8) rfl))
          have a1402 : f892 fa = some (.inr (2, [.int 0, .int (-1), .int 0, .ref ev])) := k894 _ _ a3 
          have a1403 : f1307 fa = some (.inr (2, [.int 0, .int (-1), .int 0, .ref ev])) := k1309 _ _ a1402 
          have a1404 : f1313 fa = some (.inr (2, [.int 0, .int (-1), .int 0, .ref ev])) := k1315 _ _ a1403 
          have a1405 : f1321 fa = some (.inr (2, [.int 0, .int (-1), .int 0, .ref ev])) := (k1323 _ (z_nn u1320 a1404)).trans a1404
          have a1406 : f1326 fa = some (.inr (2, [.int 0, .int (-1), .int 0, .ref ev])) := (k1328 _ (z_nn u1325 a1405)).trans a1405
          have a1407 : f1329 fa = some (.inr (2, [.int 0, .int (-1), .int 0, .ref ev])) := (k1331 _ (z_nn u1325 a1405)).trans a1406
          have a1408 : f1332 fa = some (.inr (2, [.int 0, .int (-1), .int 0, .ref ev])) := (k1334 _ (z_nn u1325 a1405)).trans a1407
          have a1409 : f1338 fa = some (.inr (2, [.int 0, .int (-1), .int 0, .ref ev])) := k1341 _ _ a1408 (z_nn u1320 a1404)
          have a1410 : f1383 fa = some (.inr (2, [.int 0, .int (-1), .int 0, .ref ev])) := k1395 _ _ a1409 (z_ne a1409 a1347 rfl) (z_ne a1409 a1354 rfl) (z_ne a1409 a1363 rfl) (z_nn u1320 a1404) (fun j9 h8 => (z_ne a1409 (F1373 j9 h8) rfl))
          have a1411 : f1 ev = some (.inl (cy 0, 8, .inl gv)) := k4 _ _ x_ev (z_ne x_ev x_fa rfl)
          have a1412 : f892 ev = some (.inl (cy 0, 8, .inl gv)) := k894 _ _ a1411 
          have a1413 : f1307 ev = some (.inl (cy 0, 8, .inl gv)) := k1309 _ _ a1412 
          have a1414 : f1313 ev = some (.inl (cy 0, 8, .inl gv)) := k1315 _ _ a1413 
          have a1415 : f1321 ev = some (.inl (cy 0, 8, .inl gv)) := (k1323 _ (z_nn u1320 a1414)).trans a1414
          have a1416 : f1326 ev = some (.inl (cy 0, 8, .inl gv)) := (k1328 _ (z_nn u1325 a1415)).trans a1415
          have a1417 : f1329 ev = some (.inl (cy 0, 8, .inl gv)) := (k1331 _ (z_nn u1325 a1415)).trans a1416
          have a1418 : f1332 ev = some (.inl (cy 0, 8, .inl gv)) := (k1334 _ (z_nn u1325 a1415)).trans a1417
          have a1419 : f1338 ev = some (.inl (cy 0, 8, .inl gv)) := k1341 _ _ a1418 (z_nn u1320 a1414)
          have a1420 : f1383 ev = some (.inl (cy 0, 8, .inl gv)) := k1395 _ _ a1419 (z_ne a1419 a1347 rfl) (z_ne a1419 a1354 rfl) (z_ne a1419 a1363 rfl) (z_nn u1320 a1414) (fun j9 h8 => (z_ne a1419 (F1373 j9 h8) rfl))
          have a1421 : f1 nu = some (.inl (cy 0, 12, .inl gu)) := k4 _ _ x_nu (z_ne x_nu x_fa rfl)
          have a1422 : f892 nu = some (.inl (cy 0, 12, .inl gu)) := k894 _ _ a1421 
          have a1423 : f1307 nu = some (.inl (cy 0, 12, .inl gu)) := k1309 _ _ a1422 
          have a1424 : f1313 nu = some (.inl (cy 0, 12, .inl gu)) := k1315 _ _ a1423 
          have a1425 : f1321 nu = some (.inl (cy 0, 12, .inl gu)) := (k1323 _ (z_nn u1320 a1424)).trans a1424
          have a1426 : f1326 nu = some (.inl (cy 0, 12, .inl gu)) := (k1328 _ (z_nn u1325 a1425)).trans a1425
          have a1427 : f1329 nu = some (.inl (cy 0, 12, .inl gu)) := (k1331 _ (z_nn u1325 a1425)).trans a1426
          have a1428 : f1332 nu = some (.inl (cy 0, 12, .inl gu)) := (k1334 _ (z_nn u1325 a1425)).trans a1427
          have a1429 : f1338 nu = some (.inl (cy 0, 12, .inl gu)) := k1341 _ _ a1428 (z_nn u1320 a1424)
          have a1430 : f1383 nu = some (.inl (cy 0, 12, .inl gu)) := k1395 _ _ a1429 (z_ne a1429 a1347 rfl) (z_ne a1429 a1354 rfl) (z_ne a1429 a1363 rfl) (z_nn u1320 a1424) (fun j9 h8 => (z_ne a1429 (F1373 j9 h8) rfl))
          have a1431 : f1 fm = some (.inl (cy 4, 6, .inr (.inr (.inr (.inr gf))))) := k4 _ _ x_fm (z_ne x_fm x_fa rfl)
          have a1432 : f892 fm = some (.inl (cy 4, 6, .inr (.inr (.inr (.inr gf))))) := k894 _ _ a1431 
          have a1433 : f1307 fm = some (.inl (cy 4, 6, .inr (.inr (.inr (.inr gf))))) := k1309 _ _ a1432 
          have a1434 : f1313 fm = some (.inl (cy 4, 6, .inr (.inr (.inr (.inr gf))))) := k1315 _ _ a1433 
          have a1435 : f1321 fm = some (.inl (cy 4, 6, .inr (.inr (.inr (.inr gf))))) := (k1323 _ (z_nn u1320 a1434)).trans a1434
          have a1436 : f1326 fm = some (.inl (cy 4, 6, .inr (.inr (.inr (.inr gf))))) := (k1328 _ (z_nn u1325 a1435)).trans a1435
          have a1437 : f1329 fm = some (.inl (cy 4, 6, .inr (.inr (.inr (.inr gf))))) := (k1331 _ (z_nn u1325 a1435)).trans a1436
          have a1438 : f1332 fm = some (.inl (cy 4, 6, .inr (.inr (.inr (.inr gf))))) := (k1334 _ (z_nn u1325 a1435)).trans a1437
          have a1439 : f1338 fm = some (.inl (cy 4, 6, .inr (.inr (.inr (.inr gf))))) := k1341 _ _ a1438 (z_nn u1320 a1434)
          have a1440 : f1383 fm = some (.inl (cy 4, 6, .inr (.inr (.inr (.inr gf))))) := k1395 _ _ a1439 (z_ne a1439 a1347 rfl) (z_ne a1439 a1354 rfl) (z_ne a1439 a1363 rfl) (z_nn u1320 a1434) (fun j9 h8 => (z_ne a1439 (F1373 j9 h8) rfl))
          have a1441 : f1 co = some (.inl (cy 5, 60, .inr (.inr (.inr (.inr gc))))) := k4 _ _ x_co (z_ne x_co x_fa rfl)
          have a1442 : f892 co = some (.inl (cy 5, 60, .inr (.inr (.inr (.inr gc))))) := k894 _ _ a1441 
          have a1443 : f1307 co = some (.inl (cy 5, 60, .inr (.inr (.inr (.inr gc))))) := k1309 _ _ a1442 
          have a1444 : f1313 co = some (.inl (cy 5, 60, .inr (.inr (.inr (.inr gc))))) := k1315 _ _ a1443 
          have a1445 : f1321 co = some (.inl (cy 5, 60, .inr (.inr (.inr (.inr gc))))) := (k1323 _ (z_nn u1320 a1444)).trans a1444
          have a1446 : f1326 co = some (.inl (cy 5, 60, .inr (.inr (.inr (.inr gc))))) := (k1328 _ (z_nn u1325 a1445)).trans a1445
          have a1447 : f1329 co = some (.inl (cy 5, 60, .inr (.inr (.inr (.inr gc))))) := (k1331 _ (z_nn u1325 a1445)).trans a1446
          have a1448 : f1332 co = some (.inl (cy 5, 60, .inr (.inr (.inr (.inr gc))))) := (k1334 _ (z_nn u1325 a1445)).trans a1447
          have a1449 : f1338 co = some (.inl (cy 5, 60, .inr (.inr (.inr (.inr gc))))) := k1341 _ _ a1448 (z_nn u1320 a1444)
          have a1450 : f1383 co = some (.inl (cy 5, 60, .inr (.inr (.inr (.inr gc))))) := k1395 _ _ a1449 (z_ne a1449 a1347 rfl) hca hcr (z_nn u1320 a1444) (fun j9 h8 => (z_ne a1449 (F1373 j9 h8) rfl))
          have a1451 : f1 en = some (.inl (cy 6, 4, .inr (.inr (.inr (.inr ge))))) := k4 _ _ x_en (z_ne x_en x_fa rfl)
          have a1452 : f892 en = some (.inl (cy 6, 4, .inr (.inr (.inr (.inr ge))))) := k894 _ _ a1451 
          have a1453 : f1307 en = some (.inl (cy 6, 4, .inr (.inr (.inr (.inr ge))))) := k1309 _ _ a1452 
          have a1454 : f1313 en = some (.inl (cy 6, 4, .inr (.inr (.inr (.inr ge))))) := k1315 _ _ a1453 
          have a1455 : f1321 en = some (.inl (cy 6, 4, .inr (.inr (.inr (.inr ge))))) := (k1323 _ (z_nn u1320 a1454)).trans a1454
          have a1456 : f1326 en = some (.inl (cy 6, 4, .inr (.inr (.inr (.inr ge))))) := (k1328 _ (z_nn u1325 a1455)).trans a1455
          have a1457 : f1329 en = some (.inl (cy 6, 4, .inr (.inr (.inr (.inr ge))))) := (k1331 _ (z_nn u1325 a1455)).trans a1456
          have a1458 : f1332 en = some (.inl (cy 6, 4, .inr (.inr (.inr (.inr ge))))) := (k1334 _ (z_nn u1325 a1455)).trans a1457
          have a1459 : f1338 en = some (.inl (cy 6, 4, .inr (.inr (.inr (.inr ge))))) := k1341 _ _ a1458 (z_nn u1320 a1454)
          have a1460 : f1383 en = some (.inl (cy 6, 4, .inr (.inr (.inr (.inr ge))))) := k1395 _ _ a1459 (z_ne a1459 a1347 rfl) (z_ne a1459 a1354 rfl) (z_ne a1459 a1363 rfl) (z_nn u1320 a1454) (fun j9 h8 => (z_ne a1459 (F1373 j9 h8) rfl))
          have a1461 : f1 ke = some (.inr (6, [.ref kn, .ref vq, .int (nI ks)])) := k4 _ _ x_ke (z_ne x_ke x_fa rfl)
          have a1462 : f892 ke = some (.inr (6, [.ref kn, .ref vq, .int (nI ks)])) := k894 _ _ a1461 
          have a1463 : f1307 ke = some (.inr (6, [.ref kn, .ref vq, .int (nI ks)])) := k1309 _ _ a1462 
          have a1464 : f1313 ke = some (.inr (6, [.ref kn, .ref vq, .int (nI ks)])) := k1315 _ _ a1463 
          have a1465 : f1321 ke = some (.inr (6, [.ref kn, .ref vq, .int (nI ks)])) := (k1323 _ (z_nn u1320 a1464)).trans a1464
          have a1466 : f1326 ke = some (.inr (6, [.ref kn, .ref vq, .int (nI ks)])) := (k1328 _ (z_nn u1325 a1465)).trans a1465
          have a1467 : f1329 ke = some (.inr (6, [.ref kn, .ref vq, .int (nI ks)])) := (k1331 _ (z_nn u1325 a1465)).trans a1466
          have a1468 : f1332 ke = some (.inr (6, [.ref kn, .ref vq, .int (nI ks)])) := (k1334 _ (z_nn u1325 a1465)).trans a1467
          have a1469 : f1338 ke = some (.inr (6, [.ref kn, .ref vq, .int (nI ks)])) := k1341 _ _ a1468 (z_nn u1320 a1464)
          have a1470 : f1383 ke = some (.inr (6, [.ref kn, .ref vq, .int (nI ks)])) := k1395 _ _ a1469 (z_ne a1469 a1347 rfl) (z_ne a1469 a1354 rfl) (z_ne a1469 a1363 rfl) (z_nn u1320 a1464) (fun j9 h8 => (z_ne a1469 (F1373 j9 h8) rfl))
          have a1471 : f1 kn = some (.inl (cy 0, 40, .inl kk)) := k4 _ _ x_kn (z_ne x_kn x_fa rfl)
          have a1472 : f892 kn = some (.inl (cy 0, 40, .inl kk)) := k894 _ _ a1471 
          have a1473 : f1307 kn = some (.inl (cy 0, 40, .inl kk)) := k1309 _ _ a1472 
          have a1474 : f1313 kn = some (.inl (cy 0, 40, .inl kk)) := k1315 _ _ a1473 
          have a1475 : f1321 kn = some (.inl (cy 0, 40, .inl kk)) := (k1323 _ (z_nn u1320 a1474)).trans a1474
          have a1476 : f1326 kn = some (.inl (cy 0, 40, .inl kk)) := (k1328 _ (z_nn u1325 a1475)).trans a1475
          have a1477 : f1329 kn = some (.inl (cy 0, 40, .inl kk)) := (k1331 _ (z_nn u1325 a1475)).trans a1476
          have a1478 : f1332 kn = some (.inl (cy 0, 40, .inl kk)) := (k1334 _ (z_nn u1325 a1475)).trans a1477
          have a1479 : f1338 kn = some (.inl (cy 0, 40, .inl kk)) := k1341 _ _ a1478 (z_nn u1320 a1474)
          have a1480 : f1383 kn = some (.inl (cy 0, 40, .inl kk)) := k1395 _ _ a1479 (z_ne a1479 a1347 rfl) (z_ne a1479 a1354 rfl) (z_ne a1479 a1363 rfl) (z_nn u1320 a1474) (fun j9 h8 => (z_ne a1479 (F1373 j9 h8) rfl))
          have a1481 : f1 vq = some (.inl (cy 0, 40, .inl kv)) := k4 _ _ x_vq (z_ne x_vq x_fa rfl)
          have a1482 : f892 vq = some (.inl (cy 0, 40, .inl kv)) := k894 _ _ a1481 
          have a1483 : f1307 vq = some (.inl (cy 0, 40, .inl kv)) := k1309 _ _ a1482 
          have a1484 : f1313 vq = some (.inl (cy 0, 40, .inl kv)) := k1315 _ _ a1483 
          have a1485 : f1321 vq = some (.inl (cy 0, 40, .inl kv)) := (k1323 _ (z_nn u1320 a1484)).trans a1484
          have a1486 : f1326 vq = some (.inl (cy 0, 40, .inl kv)) := (k1328 _ (z_nn u1325 a1485)).trans a1485
          have a1487 : f1329 vq = some (.inl (cy 0, 40, .inl kv)) := (k1331 _ (z_nn u1325 a1485)).trans a1486
          have a1488 : f1332 vq = some (.inl (cy 0, 40, .inl kv)) := (k1334 _ (z_nn u1325 a1485)).trans a1487
          have a1489 : f1338 vq = some (.inl (cy 0, 40, .inl kv)) := k1341 _ _ a1488 (z_nn u1320 a1484)
          have a1490 : f1383 vq = some (.inl (cy 0, 40, .inl kv)) := k1395 _ _ a1489 (z_ne a1489 a1347 rfl) (z_ne a1489 a1354 rfl) (z_ne a1489 a1363 rfl) (z_nn u1320 a1484) (fun j9 h8 => (z_ne a1489 (F1373 j9 h8) rfl))
          have F1491 : ∀ i9 : Nat, i9 < nf → f1 (fq i9) = some (.inr (3, [.ref (fk i9), .int (nI (fz i9))])) := fun i9 h9 => k4 _ _ (hFq i9 h9) (z_ne (hFq i9 h9) x_fa rfl)
          have F1492 : ∀ i9 : Nat, i9 < nf → f892 (fq i9) = some (.inr (3, [.ref (fk i9), .int (nI (fz i9))])) := fun i9 h9 => k894 _ _ (F1491 i9 h9) 
          have F1493 : ∀ i9 : Nat, i9 < nf → f1307 (fq i9) = some (.inr (3, [.ref (fk i9), .int (nI (fz i9))])) := fun i9 h9 => k1309 _ _ (F1492 i9 h9) 
          have F1494 : ∀ i9 : Nat, i9 < nf → f1313 (fq i9) = some (.inr (3, [.ref (fk i9), .int (nI (fz i9))])) := fun i9 h9 => k1315 _ _ (F1493 i9 h9) 
          have F1495 : ∀ i9 : Nat, i9 < nf → f1321 (fq i9) = some (.inr (3, [.ref (fk i9), .int (nI (fz i9))])) := fun i9 h9 => (k1323 _ (z_nn u1320 (F1494 i9 h9))).trans (F1494 i9 h9)
          have F1496 : ∀ i9 : Nat, i9 < nf → f1326 (fq i9) = some (.inr (3, [.ref (fk i9), .int (nI (fz i9))])) := fun i9 h9 => (k1328 _ (z_nn u1325 (F1495 i9 h9))).trans (F1495 i9 h9)
          have F1497 : ∀ i9 : Nat, i9 < nf → f1329 (fq i9) = some (.inr (3, [.ref (fk i9), .int (nI (fz i9))])) := fun i9 h9 => (k1331 _ (z_nn u1325 (F1495 i9 h9))).trans (F1496 i9 h9)
          have F1498 : ∀ i9 : Nat, i9 < nf → f1332 (fq i9) = some (.inr (3, [.ref (fk i9), .int (nI (fz i9))])) := fun i9 h9 => (k1334 _ (z_nn u1325 (F1495 i9 h9))).trans (F1497 i9 h9)
          have F1499 : ∀ i9 : Nat, i9 < nf → f1338 (fq i9) = some (.inr (3, [.ref (fk i9), .int (nI (fz i9))])) := fun i9 h9 => k1341 _ _ (F1498 i9 h9) (z_nn u1320 (F1494 i9 h9))
          have F1500 : ∀ i9 : Nat, i9 < nf → f1383 (fq i9) = some (.inr (3, [.ref (fk i9), .int (nI (fz i9))])) := fun i9 h9 => k1395 _ _ (F1499 i9 h9) (z_ne (F1499 i9 h9) a1347 rfl) (z_ne (F1499 i9 h9) a1354 rfl) (z_ne (F1499 i9 h9) a1363 rfl) (z_nn u1320 (F1494 i9 h9)) (fun j9 h8 => (z_ne (F1499 i9 h9) (F1373 j9 h8) rfl))
          have F1501 : ∀ i9 : Nat, i9 < nf → f1 (fk i9) = some (.inl (cy 0, 4, .inl (fc i9))) := fun i9 h9 => k4 _ _ (hFk i9 h9) (z_ne (hFk i9 h9) x_fa rfl)
          have F1502 : ∀ i9 : Nat, i9 < nf → f892 (fk i9) = some (.inl (cy 0, 4, .inl (fc i9))) := fun i9 h9 => k894 _ _ (F1501 i9 h9) 
          have F1503 : ∀ i9 : Nat, i9 < nf → f1307 (fk i9) = some (.inl (cy 0, 4, .inl (fc i9))) := fun i9 h9 => k1309 _ _ (F1502 i9 h9) 
          have F1504 : ∀ i9 : Nat, i9 < nf → f1313 (fk i9) = some (.inl (cy 0, 4, .inl (fc i9))) := fun i9 h9 => k1315 _ _ (F1503 i9 h9) 
          have F1505 : ∀ i9 : Nat, i9 < nf → f1321 (fk i9) = some (.inl (cy 0, 4, .inl (fc i9))) := fun i9 h9 => (k1323 _ (z_nn u1320 (F1504 i9 h9))).trans (F1504 i9 h9)
          have F1506 : ∀ i9 : Nat, i9 < nf → f1326 (fk i9) = some (.inl (cy 0, 4, .inl (fc i9))) := fun i9 h9 => (k1328 _ (z_nn u1325 (F1505 i9 h9))).trans (F1505 i9 h9)
          have F1507 : ∀ i9 : Nat, i9 < nf → f1329 (fk i9) = some (.inl (cy 0, 4, .inl (fc i9))) := fun i9 h9 => (k1331 _ (z_nn u1325 (F1505 i9 h9))).trans (F1506 i9 h9)
          have F1508 : ∀ i9 : Nat, i9 < nf → f1332 (fk i9) = some (.inl (cy 0, 4, .inl (fc i9))) := fun i9 h9 => (k1334 _ (z_nn u1325 (F1505 i9 h9))).trans (F1507 i9 h9)
          have F1509 : ∀ i9 : Nat, i9 < nf → f1338 (fk i9) = some (.inl (cy 0, 4, .inl (fc i9))) := fun i9 h9 => k1341 _ _ (F1508 i9 h9) (z_nn u1320 (F1504 i9 h9))
          have F1510 : ∀ i9 : Nat, i9 < nf → f1383 (fk i9) = some (.inl (cy 0, 4, .inl (fc i9))) := fun i9 h9 => k1395 _ _ (F1509 i9 h9) (z_ne (F1509 i9 h9) a1347 rfl) (z_ne (F1509 i9 h9) a1354 rfl) (z_ne (F1509 i9 h9) a1363 rfl) (z_nn u1320 (F1504 i9 h9)) (fun j9 h8 => (z_ne (F1509 i9 h9) (F1373 j9 h8) rfl))
          have F1511 : ∀ i9 : Nat, i9 < nc → f1 (cn i9) = some (.inr (0, [.int (ce i9), .int (cm i9)])) := fun i9 h9 => k4 _ _ (hCn i9 h9) (z_ne (hCn i9 h9) x_fa rfl)
          have F1512 : ∀ i9 : Nat, i9 < nc → f892 (cn i9) = some (.inr (0, [.int (ce i9), .int (cm i9)])) := fun i9 h9 => k894 _ _ (F1511 i9 h9) 
          have F1513 : ∀ i9 : Nat, i9 < nc → f1307 (cn i9) = some (.inr (0, [.int (ce i9), .int (cm i9)])) := fun i9 h9 => k1309 _ _ (F1512 i9 h9) 
          have F1514 : ∀ i9 : Nat, i9 < nc → f1313 (cn i9) = some (.inr (0, [.int (ce i9), .int (cm i9)])) := fun i9 h9 => k1315 _ _ (F1513 i9 h9) 
          have F1515 : ∀ i9 : Nat, i9 < nc → f1321 (cn i9) = some (.inr (0, [.int (ce i9), .int (cm i9)])) := fun i9 h9 => (k1323 _ (z_nn u1320 (F1514 i9 h9))).trans (F1514 i9 h9)
          have F1516 : ∀ i9 : Nat, i9 < nc → f1326 (cn i9) = some (.inr (0, [.int (ce i9), .int (cm i9)])) := fun i9 h9 => (k1328 _ (z_nn u1325 (F1515 i9 h9))).trans (F1515 i9 h9)
          have F1517 : ∀ i9 : Nat, i9 < nc → f1329 (cn i9) = some (.inr (0, [.int (ce i9), .int (cm i9)])) := fun i9 h9 => (k1331 _ (z_nn u1325 (F1515 i9 h9))).trans (F1516 i9 h9)
          have F1518 : ∀ i9 : Nat, i9 < nc → f1332 (cn i9) = some (.inr (0, [.int (ce i9), .int (cm i9)])) := fun i9 h9 => (k1334 _ (z_nn u1325 (F1515 i9 h9))).trans (F1517 i9 h9)
          have F1519 : ∀ i9 : Nat, i9 < nc → f1338 (cn i9) = some (.inr (0, [.int (ce i9), .int (cm i9)])) := fun i9 h9 => k1341 _ _ (F1518 i9 h9) (z_nn u1320 (F1514 i9 h9))
          have F1520 : ∀ i9 : Nat, i9 < nc → f1383 (cn i9) = some (.inr (0, [.int (ce i9), .int (cm i9)])) := fun i9 h9 => k1395 _ _ (F1519 i9 h9) (z_ne (F1519 i9 h9) a1347 rfl) (z_ne (F1519 i9 h9) a1354 rfl) (z_ne (F1519 i9 h9) a1363 rfl) (z_nn u1320 (F1514 i9 h9)) (fun j9 h8 => (z_ne (F1519 i9 h9) (F1373 j9 h8) rfl))
          have F1521 : ∀ i9 : Nat, i9 < 4 → f1 (ea i9) = some (.inr (1, [.ref (ma i9), .int (nI (sq i9))])) := fun i9 h9 => k4 _ _ (hEa i9 h9) (z_ne (hEa i9 h9) x_fa rfl)
          have F1522 : ∀ i9 : Nat, i9 < 4 → f892 (ea i9) = some (.inr (1, [.ref (ma i9), .int (nI (sq i9))])) := fun i9 h9 => k894 _ _ (F1521 i9 h9) 
          have F1523 : ∀ i9 : Nat, i9 < 4 → f1307 (ea i9) = some (.inr (1, [.ref (ma i9), .int (nI (sq i9))])) := fun i9 h9 => k1309 _ _ (F1522 i9 h9) 
          have F1524 : ∀ i9 : Nat, i9 < 4 → f1313 (ea i9) = some (.inr (1, [.ref (ma i9), .int (nI (sq i9))])) := fun i9 h9 => k1315 _ _ (F1523 i9 h9) 
          have F1525 : ∀ i9 : Nat, i9 < 4 → f1321 (ea i9) = some (.inr (1, [.ref (ma i9), .int (nI (sq i9))])) := fun i9 h9 => (k1323 _ (z_nn u1320 (F1524 i9 h9))).trans (F1524 i9 h9)
          have F1526 : ∀ i9 : Nat, i9 < 4 → f1326 (ea i9) = some (.inr (1, [.ref (ma i9), .int (nI (sq i9))])) := fun i9 h9 => (k1328 _ (z_nn u1325 (F1525 i9 h9))).trans (F1525 i9 h9)
          have F1527 : ∀ i9 : Nat, i9 < 4 → f1329 (ea i9) = some (.inr (1, [.ref (ma i9), .int (nI (sq i9))])) := fun i9 h9 => (k1331 _ (z_nn u1325 (F1525 i9 h9))).trans (F1526 i9 h9)
          have F1528 : ∀ i9 : Nat, i9 < 4 → f1332 (ea i9) = some (.inr (1, [.ref (ma i9), .int (nI (sq i9))])) := fun i9 h9 => (k1334 _ (z_nn u1325 (F1525 i9 h9))).trans (F1527 i9 h9)
          have F1529 : ∀ i9 : Nat, i9 < 4 → f1338 (ea i9) = some (.inr (1, [.ref (ma i9), .int (nI (sq i9))])) := fun i9 h9 => k1341 _ _ (F1528 i9 h9) (z_nn u1320 (F1524 i9 h9))
          have F1530 : ∀ i9 : Nat, i9 < 4 → f1383 (ea i9) = some (.inr (1, [.ref (ma i9), .int (nI (sq i9))])) := fun i9 h9 => k1395 _ _ (F1529 i9 h9) (z_ne (F1529 i9 h9) a1347 rfl) (z_ne (F1529 i9 h9) a1354 rfl) (z_ne (F1529 i9 h9) a1363 rfl) (z_nn u1320 (F1524 i9 h9)) (fun j9 h8 => (z_ne (F1529 i9 h9) (F1373 j9 h8) rfl))
          have F1531 : ∀ i9 : Nat, i9 < 4 → f1 (ma i9) = some (.inl (cy 0, 60, .inl (mb i9))) := fun i9 h9 => k4 _ _ (hMa i9 h9) (z_ne (hMa i9 h9) x_fa rfl)
          have F1532 : ∀ i9 : Nat, i9 < 4 → f892 (ma i9) = some (.inl (cy 0, 60, .inl (mb i9))) := fun i9 h9 => k894 _ _ (F1531 i9 h9) 
          have F1533 : ∀ i9 : Nat, i9 < 4 → f1307 (ma i9) = some (.inl (cy 0, 60, .inl (mb i9))) := fun i9 h9 => k1309 _ _ (F1532 i9 h9) 
          have F1534 : ∀ i9 : Nat, i9 < 4 → f1313 (ma i9) = some (.inl (cy 0, 60, .inl (mb i9))) := fun i9 h9 => k1315 _ _ (F1533 i9 h9) 
          have F1535 : ∀ i9 : Nat, i9 < 4 → f1321 (ma i9) = some (.inl (cy 0, 60, .inl (mb i9))) := fun i9 h9 => (k1323 _ (z_nn u1320 (F1534 i9 h9))).trans (F1534 i9 h9)
          have F1536 : ∀ i9 : Nat, i9 < 4 → f1326 (ma i9) = some (.inl (cy 0, 60, .inl (mb i9))) := fun i9 h9 => (k1328 _ (z_nn u1325 (F1535 i9 h9))).trans (F1535 i9 h9)
          have F1537 : ∀ i9 : Nat, i9 < 4 → f1329 (ma i9) = some (.inl (cy 0, 60, .inl (mb i9))) := fun i9 h9 => (k1331 _ (z_nn u1325 (F1535 i9 h9))).trans (F1536 i9 h9)
          have F1538 : ∀ i9 : Nat, i9 < 4 → f1332 (ma i9) = some (.inl (cy 0, 60, .inl (mb i9))) := fun i9 h9 => (k1334 _ (z_nn u1325 (F1535 i9 h9))).trans (F1537 i9 h9)
          have F1539 : ∀ i9 : Nat, i9 < 4 → f1338 (ma i9) = some (.inl (cy 0, 60, .inl (mb i9))) := fun i9 h9 => k1341 _ _ (F1538 i9 h9) (z_nn u1320 (F1534 i9 h9))
          have F1540 : ∀ i9 : Nat, i9 < 4 → f1383 (ma i9) = some (.inl (cy 0, 60, .inl (mb i9))) := fun i9 h9 => k1395 _ _ (F1539 i9 h9) (z_ne (F1539 i9 h9) a1347 rfl) (z_ne (F1539 i9 h9) a1354 rfl) (z_ne (F1539 i9 h9) a1363 rfl) (z_nn u1320 (F1534 i9 h9)) (fun j9 h8 => (z_ne (F1539 i9 h9) (F1373 j9 h8) rfl))
          exact z_iret C hr rfl hz hS ⟨0, (-1), 0, gv, nl, gu, (nn + 1), (va_up ga nn (some q1319)), gr_1387, (va_up fg nn q1319), (va_up pt nn q1324), (va_up kd nn 4), (va_up ln nn 2), (va_up pp nn (vp_updL (vp_updL (fun _ => 0) 0 x.toInt64) 1 y.toInt64)), (va_up wg nn 0), (va_up wd nn 0), (va_up hs nn hq_1385), (va_up bf_1388 nn bq_1386), nf, gf, fq, fk, fz, fc, nc, gc, cn, ce, cm, sq, mb, ks, kk, kv, lk, rfl, (by rw [if_pos (nI_pos' (by omega))]), ⟨a1401, a1410, a1420, a1390, a1391, a1392, a1430, a1440, a1450, a1460, a1470, a1480, a1490, F1393, F1394, F1500, F1510, F1520, F1530, F1540, (by omega), hl12, hf6, hc60, hs40, (z_ga1 hga), (z_gr1 p1389), (z_up1 (P := fun _ a9 => a9 ≤ 15) hln (by omega)), (z_up2 (P := fun (a9 : Int32) (b9 : Nat) => a9 = 5 → 3 ≤ b9) hk5 (fun h9 => absurd h9 (by decide))), (z_up2 (P := fun (a9 : Int32) (b9 : Nat) => a9 = 4 → 2 ≤ b9) hk4 (fun _ => by omega)), (z_inj1 hfi (fun j9 h9 => z_nn u1320 (F1368 j9 h9))), (z_inj1 hpi (fun j9 h9 => z_nn u1325 (F1378 j9 h9))), har, hgf, hfz, hgc, hG, hsq, hei, hmi, kne, hca, hcr, hlk⟩⟩ (Nat.le_of_ble_eq_true rfl) (Nat.le_of_ble_eq_true rfl) dX7_pair_89
        · refine lv_aload_n hx hb dX7_pair_50 rfl (lv_at hl 0 rfl) ?_
          have a1541 : f1313 o = some (.inr (7, [.ref fa, .ref fi, .ref nu, .int (nI nl), .ref fm, .int (nI nf), .ref co, .int (nI nc), .ref en, .ref ke, .long lk])) := k1315 _ _ a1311 
          refine z_get (v := .ref fa) C hz a1541 zl7 mFX7_10 (by decide) rfl dX7_pair_51 ?_
          refine lv_iconst (v := 1) hx hb dX7_pair_54 (by decide) ?_
          refine lv_iconst (v := 0) hx hb dX7_pair_55 (by decide) ?_
          have a1542 : f892 fa = some (.inr (2, [.int 0, .int (-1), .int 0, .ref ev])) := k894 _ _ a3 
          have a1543 : f1307 fa = some (.inr (2, [.int 0, .int (-1), .int 0, .ref ev])) := k1309 _ _ a1542 
          have a1544 : f1313 fa = some (.inr (2, [.int 0, .int (-1), .int 0, .ref ev])) := k1315 _ _ a1543 
          have a1545 : f1 ev = some (.inl (cy 0, 8, .inl gv)) := k4 _ _ x_ev (z_ne x_ev x_fa rfl)
          have a1546 : f892 ev = some (.inl (cy 0, 8, .inl gv)) := k894 _ _ a1545 
          have a1547 : f1307 ev = some (.inl (cy 0, 8, .inl gv)) := k1309 _ _ a1546 
          have a1548 : f1313 ev = some (.inl (cy 0, 8, .inl gv)) := k1315 _ _ a1547 
          refine z_callVi (As := [.int 1, .int 0]) C hz hS hA hl (k_X2_inPart l D cy f1313 fa 1 0 0 (-1) 0 ev gv 1 a1544 a1548 (by decide) (Nat.le_of_ble_eq_true rfl)) zyX2_inPart mMX7_104 a1544 zl2 rfl rfl (Nat.le_of_ble_eq_true rfl) ⟨Nat.le_of_ble_eq_true rfl, Nat.le_of_ble_eq_true rfl⟩ ⟨Nat.le_of_ble_eq_true rfl, Nat.le_of_ble_eq_true rfl⟩ dX7_pair_56 (fun r f1549 H locs h1550 hz hS => ?_)
          obtain ⟨rfl, a1551, a1552, k1553⟩ := h1550
          have a1554 : f1549 o = some (.inr (7, [.ref fa, .ref fi, .ref nu, .int (nI nl), .ref fm, .int (nI nf), .ref co, .int (nI nc), .ref en, .ref ke, .long lk])) := k1553 _ _ a1541 (z_ne a1541 a1544 rfl) (z_ne a1541 a1548 rfl)
          have a1555 : f1313 fi = some (.inr (5, [.ref al, .ref ra, .int (nI nn)])) := k1315 _ _ a1312 
          have a1556 : f1549 fi = some (.inr (5, [.ref al, .ref ra, .int (nI nn)])) := k1553 _ _ a1555 (z_ne a1555 a1544 rfl) (z_ne a1555 a1548 rfl)
          have a1557 : f1307 al = some (.inl (cy 3, 60, .inr (.inr (.inr (.inr ga))))) := k1309 _ _ a1306 
          have a1558 : f1313 al = some (.inl (cy 3, 60, .inr (.inr (.inr (.inr ga))))) := k1315 _ _ a1557 
          have a1559 : f1549 al = some (.inl (cy 3, 60, .inr (.inr (.inr (.inr ga))))) := k1553 _ _ a1558 (z_ne a1558 a1544 rfl) (z_ne a1558 a1548 rfl)
          have a1560 : f1 ra = some (.inl (cy 3, 60, .inr (.inr (.inr (.inr gr))))) := k4 _ _ x_ra (z_ne x_ra x_fa rfl)
          have a1561 : f892 ra = some (.inl (cy 3, 60, .inr (.inr (.inr (.inr gr))))) := k894 _ _ a1560 
          have a1562 : f1307 ra = some (.inl (cy 3, 60, .inr (.inr (.inr (.inr gr))))) := k1309 _ _ a1561 
          have a1563 : f1313 ra = some (.inl (cy 3, 60, .inr (.inr (.inr (.inr gr))))) := k1315 _ _ a1562 
          have a1564 : f1549 ra = some (.inl (cy 3, 60, .inr (.inr (.inr (.inr gr))))) := k1553 _ _ a1563 (z_ne a1563 a1544 rfl) (z_ne a1563 a1548 rfl)
          have a1565 : f1 nu = some (.inl (cy 0, 12, .inl gu)) := k4 _ _ x_nu (z_ne x_nu x_fa rfl)
          have a1566 : f892 nu = some (.inl (cy 0, 12, .inl gu)) := k894 _ _ a1565 
          have a1567 : f1307 nu = some (.inl (cy 0, 12, .inl gu)) := k1309 _ _ a1566 
          have a1568 : f1313 nu = some (.inl (cy 0, 12, .inl gu)) := k1315 _ _ a1567 
          have a1569 : f1549 nu = some (.inl (cy 0, 12, .inl gu)) := k1553 _ _ a1568 (z_ne a1568 a1544 rfl) (z_ne a1568 a1548 rfl)
          have a1570 : f1 fm = some (.inl (cy 4, 6, .inr (.inr (.inr (.inr gf))))) := k4 _ _ x_fm (z_ne x_fm x_fa rfl)
          have a1571 : f892 fm = some (.inl (cy 4, 6, .inr (.inr (.inr (.inr gf))))) := k894 _ _ a1570 
          have a1572 : f1307 fm = some (.inl (cy 4, 6, .inr (.inr (.inr (.inr gf))))) := k1309 _ _ a1571 
          have a1573 : f1313 fm = some (.inl (cy 4, 6, .inr (.inr (.inr (.inr gf))))) := k1315 _ _ a1572 
          have a1574 : f1549 fm = some (.inl (cy 4, 6, .inr (.inr (.inr (.inr gf))))) := k1553 _ _ a1573 (z_ne a1573 a1544 rfl) (z_ne a1573 a1548 rfl)
          have a1575 : f1 co = some (.inl (cy 5, 60, .inr (.inr (.inr (.inr gc))))) := k4 _ _ x_co (z_ne x_co x_fa rfl)
          have a1576 : f892 co = some (.inl (cy 5, 60, .inr (.inr (.inr (.inr gc))))) := k894 _ _ a1575 
          have a1577 : f1307 co = some (.inl (cy 5, 60, .inr (.inr (.inr (.inr gc))))) := k1309 _ _ a1576 
          have a1578 : f1313 co = some (.inl (cy 5, 60, .inr (.inr (.inr (.inr gc))))) := k1315 _ _ a1577 
          have a1579 : f1549 co = some (.inl (cy 5, 60, .inr (.inr (.inr (.inr gc))))) := k1553 _ _ a1578 (z_ne a1578 a1544 rfl) (z_ne a1578 a1548 rfl)
          have a1580 : f1 en = some (.inl (cy 6, 4, .inr (.inr (.inr (.inr ge))))) := k4 _ _ x_en (z_ne x_en x_fa rfl)
          have a1581 : f892 en = some (.inl (cy 6, 4, .inr (.inr (.inr (.inr ge))))) := k894 _ _ a1580 
          have a1582 : f1307 en = some (.inl (cy 6, 4, .inr (.inr (.inr (.inr ge))))) := k1309 _ _ a1581 
          have a1583 : f1313 en = some (.inl (cy 6, 4, .inr (.inr (.inr (.inr ge))))) := k1315 _ _ a1582 
          have a1584 : f1549 en = some (.inl (cy 6, 4, .inr (.inr (.inr (.inr ge))))) := k1553 _ _ a1583 (z_ne a1583 a1544 rfl) (z_ne a1583 a1548 rfl)
          have a1585 : f1 ke = some (.inr (6, [.ref kn, .ref vq, .int (nI ks)])) := k4 _ _ x_ke (z_ne x_ke x_fa rfl)
          have a1586 : f892 ke = some (.inr (6, [.ref kn, .ref vq, .int (nI ks)])) := k894 _ _ a1585 
          have a1587 : f1307 ke = some (.inr (6, [.ref kn, .ref vq, .int (nI ks)])) := k1309 _ _ a1586 
          have a1588 : f1313 ke = some (.inr (6, [.ref kn, .ref vq, .int (nI ks)])) := k1315 _ _ a1587 
          have a1589 : f1549 ke = some (.inr (6, [.ref kn, .ref vq, .int (nI ks)])) := k1553 _ _ a1588 (z_ne a1588 a1544 rfl) (z_ne a1588 a1548 rfl)
          have a1590 : f1 kn = some (.inl (cy 0, 40, .inl kk)) := k4 _ _ x_kn (z_ne x_kn x_fa rfl)
          have a1591 : f892 kn = some (.inl (cy 0, 40, .inl kk)) := k894 _ _ a1590 
          have a1592 : f1307 kn = some (.inl (cy 0, 40, .inl kk)) := k1309 _ _ a1591 
          have a1593 : f1313 kn = some (.inl (cy 0, 40, .inl kk)) := k1315 _ _ a1592 
          have a1594 : f1549 kn = some (.inl (cy 0, 40, .inl kk)) := k1553 _ _ a1593 (z_ne a1593 a1544 rfl) (z_ne a1593 a1548 rfl)
          have a1595 : f1 vq = some (.inl (cy 0, 40, .inl kv)) := k4 _ _ x_vq (z_ne x_vq x_fa rfl)
          have a1596 : f892 vq = some (.inl (cy 0, 40, .inl kv)) := k894 _ _ a1595 
          have a1597 : f1307 vq = some (.inl (cy 0, 40, .inl kv)) := k1309 _ _ a1596 
          have a1598 : f1313 vq = some (.inl (cy 0, 40, .inl kv)) := k1315 _ _ a1597 
          have a1599 : f1549 vq = some (.inl (cy 0, 40, .inl kv)) := k1553 _ _ a1598 (z_ne a1598 a1544 rfl) (z_ne a1598 a1548 rfl)
          have F1600 : ∀ i9 : Nat, i9 < nn → f1 (fg i9) = some (.inr (4, [.int (kd i9), .ref (pt i9), .long (wg i9), .int (wd i9), .int (nI i9), .int (hs i9), .int (bf i9)])) := fun i9 h9 => k4 _ _ (hF i9 h9) (z_ne (hF i9 h9) x_fa rfl)
          have F1601 : ∀ i9 : Nat, i9 < nn → f892 (fg i9) = some (.inr (4, [.int (kd i9), .ref (pt i9), .long (wg i9), .int (wd i9), .int (nI i9), .int (hs i9), .int (bf i9)])) := fun i9 h9 => k894 _ _ (F1600 i9 h9) 
          have F1602 : ∀ i9 : Nat, i9 < nn → f1307 (fg i9) = some (.inr (4, [.int (kd i9), .ref (pt i9), .long (wg i9), .int (wd i9), .int (nI i9), .int (hs i9), .int (bf i9)])) := fun i9 h9 => k1309 _ _ (F1601 i9 h9) 
          have F1603 : ∀ i9 : Nat, i9 < nn → f1313 (fg i9) = some (.inr (4, [.int (kd i9), .ref (pt i9), .long (wg i9), .int (wd i9), .int (nI i9), .int (hs i9), .int (bf i9)])) := fun i9 h9 => k1315 _ _ (F1602 i9 h9) 
          have F1604 : ∀ i9 : Nat, i9 < nn → f1549 (fg i9) = some (.inr (4, [.int (kd i9), .ref (pt i9), .long (wg i9), .int (wd i9), .int (nI i9), .int (hs i9), .int (bf i9)])) := fun i9 h9 => k1553 _ _ (F1603 i9 h9) (z_ne (F1603 i9 h9) a1544 rfl) (z_ne (F1603 i9 h9) a1548 rfl)
          have F1605 : ∀ i9 : Nat, i9 < nn → f1 (pt i9) = some (.inl (cy 1, (ln i9), .inr (.inl (pp i9)))) := fun i9 h9 => k4 _ _ (hP i9 h9) (z_neO (hP i9 h9) x_fa rfl)
          have F1606 : ∀ i9 : Nat, i9 < nn → f892 (pt i9) = some (.inl (cy 1, (ln i9), .inr (.inl (pp i9)))) := fun i9 h9 => k894 _ _ (F1605 i9 h9) 
          have F1607 : ∀ i9 : Nat, i9 < nn → f1307 (pt i9) = some (.inl (cy 1, (ln i9), .inr (.inl (pp i9)))) := fun i9 h9 => k1309 _ _ (F1606 i9 h9) 
          have F1608 : ∀ i9 : Nat, i9 < nn → f1313 (pt i9) = some (.inl (cy 1, (ln i9), .inr (.inl (pp i9)))) := fun i9 h9 => k1315 _ _ (F1607 i9 h9) 
          have F1609 : ∀ i9 : Nat, i9 < nn → f1549 (pt i9) = some (.inl (cy 1, (ln i9), .inr (.inl (pp i9)))) := fun i9 h9 => k1553 _ _ (F1608 i9 h9) (z_neO (F1608 i9 h9) a1544 rfl) (z_neA (F1608 i9 h9) a1548 rfl)
          have F1610 : ∀ i9 : Nat, i9 < nf → f1 (fq i9) = some (.inr (3, [.ref (fk i9), .int (nI (fz i9))])) := fun i9 h9 => k4 _ _ (hFq i9 h9) (z_ne (hFq i9 h9) x_fa rfl)
          have F1611 : ∀ i9 : Nat, i9 < nf → f892 (fq i9) = some (.inr (3, [.ref (fk i9), .int (nI (fz i9))])) := fun i9 h9 => k894 _ _ (F1610 i9 h9) 
          have F1612 : ∀ i9 : Nat, i9 < nf → f1307 (fq i9) = some (.inr (3, [.ref (fk i9), .int (nI (fz i9))])) := fun i9 h9 => k1309 _ _ (F1611 i9 h9) 
          have F1613 : ∀ i9 : Nat, i9 < nf → f1313 (fq i9) = some (.inr (3, [.ref (fk i9), .int (nI (fz i9))])) := fun i9 h9 => k1315 _ _ (F1612 i9 h9) 
          have F1614 : ∀ i9 : Nat, i9 < nf → f1549 (fq i9) = some (.inr (3, [.ref (fk i9), .int (nI (fz i9))])) := fun i9 h9 => k1553 _ _ (F1613 i9 h9) (z_ne (F1613 i9 h9) a1544 rfl) (z_ne (F1613 i9 h9) a1548 rfl)
          have F1615 : ∀ i9 : Nat, i9 < nf → f1 (fk i9) = some (.inl (cy 0, 4, .inl (fc i9))) := fun i9 h9 => k4 _ _ (hFk i9 h9) (z_ne (hFk i9 h9) x_fa rfl)
          have F1616 : ∀ i9 : Nat, i9 < nf → f892 (fk i9) = some (.inl (cy 0, 4, .inl (fc i9))) := fun i9 h9 => k894 _ _ (F1615 i9 h9) 
          have F1617 : ∀ i9 : Nat, i9 < nf → f1307 (fk i9) = some (.inl (cy 0, 4, .inl (fc i9))) := fun i9 h9 => k1309 _ _ (F1616 i9 h9) 
          have F1618 : ∀ i9 : Nat, i9 < nf → f1313 (fk i9) = some (.inl (cy 0, 4, .inl (fc i9))) := fun i9 h9 => k1315 _ _ (F1617 i9 h9) 
          have F1619 : ∀ i9 : Nat, i9 < nf → f1549 (fk i9) = some (.inl (cy 0, 4, .inl (fc i9))) := fun i9 h9 => k1553 _ _ (F1618 i9 h9) (z_ne (F1618 i9 h9) a1544 rfl) (z_ne (F1618 i9 h9) a1548 rfl)
          have F1620 : ∀ i9 : Nat, i9 < nc → f1 (cn i9) = some (.inr (0, [.int (ce i9), .int (cm i9)])) := fun i9 h9 => k4 _ _ (hCn i9 h9) (z_ne (hCn i9 h9) x_fa rfl)
          have F1621 : ∀ i9 : Nat, i9 < nc → f892 (cn i9) = some (.inr (0, [.int (ce i9), .int (cm i9)])) := fun i9 h9 => k894 _ _ (F1620 i9 h9) 
          have F1622 : ∀ i9 : Nat, i9 < nc → f1307 (cn i9) = some (.inr (0, [.int (ce i9), .int (cm i9)])) := fun i9 h9 => k1309 _ _ (F1621 i9 h9) 
          have F1623 : ∀ i9 : Nat, i9 < nc → f1313 (cn i9) = some (.inr (0, [.int (ce i9), .int (cm i9)])) := fun i9 h9 => k1315 _ _ (F1622 i9 h9) 
          have F1624 : ∀ i9 : Nat, i9 < nc → f1549 (cn i9) = some (.inr (0, [.int (ce i9), .int (cm i9)])) := fun i9 h9 => k1553 _ _ (F1623 i9 h9) (z_ne (F1623 i9 h9) a1544 rfl) (z_ne (F1623 i9 h9) a1548 rfl)
          have F1625 : ∀ i9 : Nat, i9 < 4 → f1 (ea i9) = some (.inr (1, [.ref (ma i9), .int (nI (sq i9))])) := fun i9 h9 => k4 _ _ (hEa i9 h9) (z_ne (hEa i9 h9) x_fa rfl)
          have F1626 : ∀ i9 : Nat, i9 < 4 → f892 (ea i9) = some (.inr (1, [.ref (ma i9), .int (nI (sq i9))])) := fun i9 h9 => k894 _ _ (F1625 i9 h9) 
          have F1627 : ∀ i9 : Nat, i9 < 4 → f1307 (ea i9) = some (.inr (1, [.ref (ma i9), .int (nI (sq i9))])) := fun i9 h9 => k1309 _ _ (F1626 i9 h9) 
          have F1628 : ∀ i9 : Nat, i9 < 4 → f1313 (ea i9) = some (.inr (1, [.ref (ma i9), .int (nI (sq i9))])) := fun i9 h9 => k1315 _ _ (F1627 i9 h9) 
          have F1629 : ∀ i9 : Nat, i9 < 4 → f1549 (ea i9) = some (.inr (1, [.ref (ma i9), .int (nI (sq i9))])) := fun i9 h9 => k1553 _ _ (F1628 i9 h9) (z_ne (F1628 i9 h9) a1544 rfl) (z_ne (F1628 i9 h9) a1548 rfl)
          have F1630 : ∀ i9 : Nat, i9 < 4 → f1 (ma i9) = some (.inl (cy 0, 60, .inl (mb i9))) := fun i9 h9 => k4 _ _ (hMa i9 h9) (z_ne (hMa i9 h9) x_fa rfl)
          have F1631 : ∀ i9 : Nat, i9 < 4 → f892 (ma i9) = some (.inl (cy 0, 60, .inl (mb i9))) := fun i9 h9 => k894 _ _ (F1630 i9 h9) 
          have F1632 : ∀ i9 : Nat, i9 < 4 → f1307 (ma i9) = some (.inl (cy 0, 60, .inl (mb i9))) := fun i9 h9 => k1309 _ _ (F1631 i9 h9) 
          have F1633 : ∀ i9 : Nat, i9 < 4 → f1313 (ma i9) = some (.inl (cy 0, 60, .inl (mb i9))) := fun i9 h9 => k1315 _ _ (F1632 i9 h9) 
          have F1634 : ∀ i9 : Nat, i9 < 4 → f1549 (ma i9) = some (.inl (cy 0, 60, .inl (mb i9))) := fun i9 h9 => k1553 _ _ (F1633 i9 h9) (z_ne (F1633 i9 h9) a1544 rfl) (z_ne (F1633 i9 h9) a1548 rfl)
          exact z_iret C hr rfl hz hS ⟨1, 0, 0, (upd gv 1 (gv 1 + 1)), nl, gu, nn, ga, gr, fg, pt, kd, ln, pp, wg, wd, hs, bf, nf, gf, fq, fk, fz, fc, nc, gc, cn, ce, cm, sq, mb, ks, kk, kv, lk, rfl, (by rw [if_neg (by decide)]), ⟨a1554, a1551, a1552, a1556, a1559, a1564, a1569, a1574, a1579, a1584, a1589, a1594, a1599, F1604, F1609, F1614, F1619, F1624, F1629, F1634, hn60, hl12, hf6, hc60, hs40, hga, hgr, hln, hk5, hk4, hfi, hpi, har, hgf, hfz, hgc, hG, hsq, hei, hmi, kne, hca, hcr, hlk⟩⟩ (Nat.le_of_ble_eq_true rfl) (Nat.le_of_ble_eq_true rfl) dX7_pair_59
      · have a1635 : f1307 fi = some (.inr (5, [.ref al, .ref ra, .int (nI nn)])) := k1309 _ _ a1305 
        refine z_callVi (As := []) C hz hS hA hl (k_X5_isFull_B l D cy f1307 fi al ra nn a1635 hn60 h60) zyX5_isFull mMX7_79 a1635 zl5 rfl rfl (Nat.le_of_ble_eq_true rfl) ⟨Nat.le_of_ble_eq_true rfl, Nat.le_of_ble_eq_true rfl⟩ ⟨Nat.le_of_ble_eq_true rfl, Nat.le_of_ble_eq_true rfl⟩ dX7_pair_36 (fun r f1636 H locs h1637 hz hS => ?_)
        obtain ⟨rfl, k1638⟩ := h1637
        refine lv_if_eq (tgt := 45) hx hb dX7_pair_39 (by decide) (fun c1639 => ?_) (fun c1639 => ?_)
        · exact absurd c1639 (by decide)
        refine lv_bipush (v := (-3)) hx hb dX7_pair_42 (by decide) ?_
        have a1640 : f1636 o = some (.inr (7, [.ref fa, .ref fi, .ref nu, .int (nI nl), .ref fm, .int (nI nf), .ref co, .int (nI nc), .ref en, .ref ke, .long lk])) := k1638 _ _ a1311 
        have a1641 : f892 fa = some (.inr (2, [.int 0, .int (-1), .int 0, .ref ev])) := k894 _ _ a3 
        have a1642 : f1307 fa = some (.inr (2, [.int 0, .int (-1), .int 0, .ref ev])) := k1309 _ _ a1641 
        have a1643 : f1636 fa = some (.inr (2, [.int 0, .int (-1), .int 0, .ref ev])) := k1638 _ _ a1642 
        have a1644 : f1 ev = some (.inl (cy 0, 8, .inl gv)) := k4 _ _ x_ev (z_ne x_ev x_fa rfl)
        have a1645 : f892 ev = some (.inl (cy 0, 8, .inl gv)) := k894 _ _ a1644 
        have a1646 : f1307 ev = some (.inl (cy 0, 8, .inl gv)) := k1309 _ _ a1645 
        have a1647 : f1636 ev = some (.inl (cy 0, 8, .inl gv)) := k1638 _ _ a1646 
        have a1648 : f1636 fi = some (.inr (5, [.ref al, .ref ra, .int (nI nn)])) := k1638 _ _ a1635 
        have a1649 : f1307 al = some (.inl (cy 3, 60, .inr (.inr (.inr (.inr ga))))) := k1309 _ _ a1306 
        have a1650 : f1636 al = some (.inl (cy 3, 60, .inr (.inr (.inr (.inr ga))))) := k1638 _ _ a1649 
        have a1651 : f1 ra = some (.inl (cy 3, 60, .inr (.inr (.inr (.inr gr))))) := k4 _ _ x_ra (z_ne x_ra x_fa rfl)
        have a1652 : f892 ra = some (.inl (cy 3, 60, .inr (.inr (.inr (.inr gr))))) := k894 _ _ a1651 
        have a1653 : f1307 ra = some (.inl (cy 3, 60, .inr (.inr (.inr (.inr gr))))) := k1309 _ _ a1652 
        have a1654 : f1636 ra = some (.inl (cy 3, 60, .inr (.inr (.inr (.inr gr))))) := k1638 _ _ a1653 
        have a1655 : f1 nu = some (.inl (cy 0, 12, .inl gu)) := k4 _ _ x_nu (z_ne x_nu x_fa rfl)
        have a1656 : f892 nu = some (.inl (cy 0, 12, .inl gu)) := k894 _ _ a1655 
        have a1657 : f1307 nu = some (.inl (cy 0, 12, .inl gu)) := k1309 _ _ a1656 
        have a1658 : f1636 nu = some (.inl (cy 0, 12, .inl gu)) := k1638 _ _ a1657 
        have a1659 : f1 fm = some (.inl (cy 4, 6, .inr (.inr (.inr (.inr gf))))) := k4 _ _ x_fm (z_ne x_fm x_fa rfl)
        have a1660 : f892 fm = some (.inl (cy 4, 6, .inr (.inr (.inr (.inr gf))))) := k894 _ _ a1659 
        have a1661 : f1307 fm = some (.inl (cy 4, 6, .inr (.inr (.inr (.inr gf))))) := k1309 _ _ a1660 
        have a1662 : f1636 fm = some (.inl (cy 4, 6, .inr (.inr (.inr (.inr gf))))) := k1638 _ _ a1661 
        have a1663 : f1 co = some (.inl (cy 5, 60, .inr (.inr (.inr (.inr gc))))) := k4 _ _ x_co (z_ne x_co x_fa rfl)
        have a1664 : f892 co = some (.inl (cy 5, 60, .inr (.inr (.inr (.inr gc))))) := k894 _ _ a1663 
        have a1665 : f1307 co = some (.inl (cy 5, 60, .inr (.inr (.inr (.inr gc))))) := k1309 _ _ a1664 
        have a1666 : f1636 co = some (.inl (cy 5, 60, .inr (.inr (.inr (.inr gc))))) := k1638 _ _ a1665 
        have a1667 : f1 en = some (.inl (cy 6, 4, .inr (.inr (.inr (.inr ge))))) := k4 _ _ x_en (z_ne x_en x_fa rfl)
        have a1668 : f892 en = some (.inl (cy 6, 4, .inr (.inr (.inr (.inr ge))))) := k894 _ _ a1667 
        have a1669 : f1307 en = some (.inl (cy 6, 4, .inr (.inr (.inr (.inr ge))))) := k1309 _ _ a1668 
        have a1670 : f1636 en = some (.inl (cy 6, 4, .inr (.inr (.inr (.inr ge))))) := k1638 _ _ a1669 
        have a1671 : f1 ke = some (.inr (6, [.ref kn, .ref vq, .int (nI ks)])) := k4 _ _ x_ke (z_ne x_ke x_fa rfl)
        have a1672 : f892 ke = some (.inr (6, [.ref kn, .ref vq, .int (nI ks)])) := k894 _ _ a1671 
        have a1673 : f1307 ke = some (.inr (6, [.ref kn, .ref vq, .int (nI ks)])) := k1309 _ _ a1672 
        have a1674 : f1636 ke = some (.inr (6, [.ref kn, .ref vq, .int (nI ks)])) := k1638 _ _ a1673 
        have a1675 : f1 kn = some (.inl (cy 0, 40, .inl kk)) := k4 _ _ x_kn (z_ne x_kn x_fa rfl)
        have a1676 : f892 kn = some (.inl (cy 0, 40, .inl kk)) := k894 _ _ a1675 
        have a1677 : f1307 kn = some (.inl (cy 0, 40, .inl kk)) := k1309 _ _ a1676 
        have a1678 : f1636 kn = some (.inl (cy 0, 40, .inl kk)) := k1638 _ _ a1677 
        have a1679 : f1 vq = some (.inl (cy 0, 40, .inl kv)) := k4 _ _ x_vq (z_ne x_vq x_fa rfl)
        have a1680 : f892 vq = some (.inl (cy 0, 40, .inl kv)) := k894 _ _ a1679 
        have a1681 : f1307 vq = some (.inl (cy 0, 40, .inl kv)) := k1309 _ _ a1680 
        have a1682 : f1636 vq = some (.inl (cy 0, 40, .inl kv)) := k1638 _ _ a1681 
        have F1683 : ∀ i9 : Nat, i9 < nn → f1 (fg i9) = some (.inr (4, [.int (kd i9), .ref (pt i9), .long (wg i9), .int (wd i9), .int (nI i9), .int (hs i9), .int (bf i9)])) := fun i9 h9 => k4 _ _ (hF i9 h9) (z_ne (hF i9 h9) x_fa rfl)
        have F1684 : ∀ i9 : Nat, i9 < nn → f892 (fg i9) = some (.inr (4, [.int (kd i9), .ref (pt i9), .long (wg i9), .int (wd i9), .int (nI i9), .int (hs i9), .int (bf i9)])) := fun i9 h9 => k894 _ _ (F1683 i9 h9) 
        have F1685 : ∀ i9 : Nat, i9 < nn → f1307 (fg i9) = some (.inr (4, [.int (kd i9), .ref (pt i9), .long (wg i9), .int (wd i9), .int (nI i9), .int (hs i9), .int (bf i9)])) := fun i9 h9 => k1309 _ _ (F1684 i9 h9) 
        have F1686 : ∀ i9 : Nat, i9 < nn → f1636 (fg i9) = some (.inr (4, [.int (kd i9), .ref (pt i9), .long (wg i9), .int (wd i9), .int (nI i9), .int (hs i9), .int (bf i9)])) := fun i9 h9 => k1638 _ _ (F1685 i9 h9) 
        have F1687 : ∀ i9 : Nat, i9 < nn → f1 (pt i9) = some (.inl (cy 1, (ln i9), .inr (.inl (pp i9)))) := fun i9 h9 => k4 _ _ (hP i9 h9) (z_neO (hP i9 h9) x_fa rfl)
        have F1688 : ∀ i9 : Nat, i9 < nn → f892 (pt i9) = some (.inl (cy 1, (ln i9), .inr (.inl (pp i9)))) := fun i9 h9 => k894 _ _ (F1687 i9 h9) 
        have F1689 : ∀ i9 : Nat, i9 < nn → f1307 (pt i9) = some (.inl (cy 1, (ln i9), .inr (.inl (pp i9)))) := fun i9 h9 => k1309 _ _ (F1688 i9 h9) 
        have F1690 : ∀ i9 : Nat, i9 < nn → f1636 (pt i9) = some (.inl (cy 1, (ln i9), .inr (.inl (pp i9)))) := fun i9 h9 => k1638 _ _ (F1689 i9 h9) 
        have F1691 : ∀ i9 : Nat, i9 < nf → f1 (fq i9) = some (.inr (3, [.ref (fk i9), .int (nI (fz i9))])) := fun i9 h9 => k4 _ _ (hFq i9 h9) (z_ne (hFq i9 h9) x_fa rfl)
        have F1692 : ∀ i9 : Nat, i9 < nf → f892 (fq i9) = some (.inr (3, [.ref (fk i9), .int (nI (fz i9))])) := fun i9 h9 => k894 _ _ (F1691 i9 h9) 
        have F1693 : ∀ i9 : Nat, i9 < nf → f1307 (fq i9) = some (.inr (3, [.ref (fk i9), .int (nI (fz i9))])) := fun i9 h9 => k1309 _ _ (F1692 i9 h9) 
        have F1694 : ∀ i9 : Nat, i9 < nf → f1636 (fq i9) = some (.inr (3, [.ref (fk i9), .int (nI (fz i9))])) := fun i9 h9 => k1638 _ _ (F1693 i9 h9) 
        have F1695 : ∀ i9 : Nat, i9 < nf → f1 (fk i9) = some (.inl (cy 0, 4, .inl (fc i9))) := fun i9 h9 => k4 _ _ (hFk i9 h9) (z_ne (hFk i9 h9) x_fa rfl)
        have F1696 : ∀ i9 : Nat, i9 < nf → f892 (fk i9) = some (.inl (cy 0, 4, .inl (fc i9))) := fun i9 h9 => k894 _ _ (F1695 i9 h9) 
        have F1697 : ∀ i9 : Nat, i9 < nf → f1307 (fk i9) = some (.inl (cy 0, 4, .inl (fc i9))) := fun i9 h9 => k1309 _ _ (F1696 i9 h9) 
        have F1698 : ∀ i9 : Nat, i9 < nf → f1636 (fk i9) = some (.inl (cy 0, 4, .inl (fc i9))) := fun i9 h9 => k1638 _ _ (F1697 i9 h9) 
        have F1699 : ∀ i9 : Nat, i9 < nc → f1 (cn i9) = some (.inr (0, [.int (ce i9), .int (cm i9)])) := fun i9 h9 => k4 _ _ (hCn i9 h9) (z_ne (hCn i9 h9) x_fa rfl)
        have F1700 : ∀ i9 : Nat, i9 < nc → f892 (cn i9) = some (.inr (0, [.int (ce i9), .int (cm i9)])) := fun i9 h9 => k894 _ _ (F1699 i9 h9) 
        have F1701 : ∀ i9 : Nat, i9 < nc → f1307 (cn i9) = some (.inr (0, [.int (ce i9), .int (cm i9)])) := fun i9 h9 => k1309 _ _ (F1700 i9 h9) 
        have F1702 : ∀ i9 : Nat, i9 < nc → f1636 (cn i9) = some (.inr (0, [.int (ce i9), .int (cm i9)])) := fun i9 h9 => k1638 _ _ (F1701 i9 h9) 
        have F1703 : ∀ i9 : Nat, i9 < 4 → f1 (ea i9) = some (.inr (1, [.ref (ma i9), .int (nI (sq i9))])) := fun i9 h9 => k4 _ _ (hEa i9 h9) (z_ne (hEa i9 h9) x_fa rfl)
        have F1704 : ∀ i9 : Nat, i9 < 4 → f892 (ea i9) = some (.inr (1, [.ref (ma i9), .int (nI (sq i9))])) := fun i9 h9 => k894 _ _ (F1703 i9 h9) 
        have F1705 : ∀ i9 : Nat, i9 < 4 → f1307 (ea i9) = some (.inr (1, [.ref (ma i9), .int (nI (sq i9))])) := fun i9 h9 => k1309 _ _ (F1704 i9 h9) 
        have F1706 : ∀ i9 : Nat, i9 < 4 → f1636 (ea i9) = some (.inr (1, [.ref (ma i9), .int (nI (sq i9))])) := fun i9 h9 => k1638 _ _ (F1705 i9 h9) 
        have F1707 : ∀ i9 : Nat, i9 < 4 → f1 (ma i9) = some (.inl (cy 0, 60, .inl (mb i9))) := fun i9 h9 => k4 _ _ (hMa i9 h9) (z_ne (hMa i9 h9) x_fa rfl)
        have F1708 : ∀ i9 : Nat, i9 < 4 → f892 (ma i9) = some (.inl (cy 0, 60, .inl (mb i9))) := fun i9 h9 => k894 _ _ (F1707 i9 h9) 
        have F1709 : ∀ i9 : Nat, i9 < 4 → f1307 (ma i9) = some (.inl (cy 0, 60, .inl (mb i9))) := fun i9 h9 => k1309 _ _ (F1708 i9 h9) 
        have F1710 : ∀ i9 : Nat, i9 < 4 → f1636 (ma i9) = some (.inl (cy 0, 60, .inl (mb i9))) := fun i9 h9 => k1638 _ _ (F1709 i9 h9) 
        exact z_iret C hr rfl hz hS ⟨0, (-1), 0, gv, nl, gu, nn, ga, gr, fg, pt, kd, ln, pp, wg, wd, hs, bf, nf, gf, fq, fk, fz, fc, nc, gc, cn, ce, cm, sq, mb, ks, kk, kv, lk, rfl, (by rw [if_neg (by decide)]), ⟨a1640, a1643, a1647, a1648, a1650, a1654, a1658, a1662, a1666, a1670, a1674, a1678, a1682, F1686, F1690, F1694, F1698, F1702, F1706, F1710, hn60, hl12, hf6, hc60, hs40, hga, hgr, hln, hk5, hk4, hfi, hpi, har, hgf, hfz, hgc, hG, hsq, hei, hmi, kne, hca, hcr, hlk⟩⟩ (Nat.le_of_ble_eq_true rfl) (Nat.le_of_ble_eq_true rfl) dX7_pair_44
    · have a1711 : f892 fi = some (.inr (5, [.ref al, .ref ra, .int (nI nn)])) := k894 _ _ a890 
      refine z_callVi (As := [.int y]) C hz hS hA hl (k_X5_hasOrNone_B l D cy f892 fi al ra nn y a1711 hrt hrt2 hn60) zyX5_hasOrNone mMX7_112 a1711 zl5 rfl rfl (Nat.le_of_ble_eq_true rfl) ⟨Nat.le_of_ble_eq_true rfl, Nat.le_of_ble_eq_true rfl⟩ ⟨Nat.le_of_ble_eq_true rfl, Nat.le_of_ble_eq_true rfl⟩ dX7_pair_23 (fun r f1712 H locs h1713 hz hS => ?_)
      obtain ⟨rfl, k1714⟩ := h1713
      refine lv_if_ne (tgt := 32) hx hb dX7_pair_26 (by decide) (fun c1715 => ?_) (fun c1715 => ?_)
      · exact absurd c1715 (by decide)
      refine lv_bipush (v := (-2)) hx hb dX7_pair_29 (by decide) ?_
      have a1716 : f1712 o = some (.inr (7, [.ref fa, .ref fi, .ref nu, .int (nI nl), .ref fm, .int (nI nf), .ref co, .int (nI nc), .ref en, .ref ke, .long lk])) := k1714 _ _ a896 
      have a1717 : f892 fa = some (.inr (2, [.int 0, .int (-1), .int 0, .ref ev])) := k894 _ _ a3 
      have a1718 : f1712 fa = some (.inr (2, [.int 0, .int (-1), .int 0, .ref ev])) := k1714 _ _ a1717 
      have a1719 : f1 ev = some (.inl (cy 0, 8, .inl gv)) := k4 _ _ x_ev (z_ne x_ev x_fa rfl)
      have a1720 : f892 ev = some (.inl (cy 0, 8, .inl gv)) := k894 _ _ a1719 
      have a1721 : f1712 ev = some (.inl (cy 0, 8, .inl gv)) := k1714 _ _ a1720 
      have a1722 : f1712 fi = some (.inr (5, [.ref al, .ref ra, .int (nI nn)])) := k1714 _ _ a1711 
      have a1723 : f892 al = some (.inl (cy 3, 60, .inr (.inr (.inr (.inr ga))))) := k894 _ _ a891 
      have a1724 : f1712 al = some (.inl (cy 3, 60, .inr (.inr (.inr (.inr ga))))) := k1714 _ _ a1723 
      have a1725 : f1 ra = some (.inl (cy 3, 60, .inr (.inr (.inr (.inr gr))))) := k4 _ _ x_ra (z_ne x_ra x_fa rfl)
      have a1726 : f892 ra = some (.inl (cy 3, 60, .inr (.inr (.inr (.inr gr))))) := k894 _ _ a1725 
      have a1727 : f1712 ra = some (.inl (cy 3, 60, .inr (.inr (.inr (.inr gr))))) := k1714 _ _ a1726 
      have a1728 : f1 nu = some (.inl (cy 0, 12, .inl gu)) := k4 _ _ x_nu (z_ne x_nu x_fa rfl)
      have a1729 : f892 nu = some (.inl (cy 0, 12, .inl gu)) := k894 _ _ a1728 
      have a1730 : f1712 nu = some (.inl (cy 0, 12, .inl gu)) := k1714 _ _ a1729 
      have a1731 : f1 fm = some (.inl (cy 4, 6, .inr (.inr (.inr (.inr gf))))) := k4 _ _ x_fm (z_ne x_fm x_fa rfl)
      have a1732 : f892 fm = some (.inl (cy 4, 6, .inr (.inr (.inr (.inr gf))))) := k894 _ _ a1731 
      have a1733 : f1712 fm = some (.inl (cy 4, 6, .inr (.inr (.inr (.inr gf))))) := k1714 _ _ a1732 
      have a1734 : f1 co = some (.inl (cy 5, 60, .inr (.inr (.inr (.inr gc))))) := k4 _ _ x_co (z_ne x_co x_fa rfl)
      have a1735 : f892 co = some (.inl (cy 5, 60, .inr (.inr (.inr (.inr gc))))) := k894 _ _ a1734 
      have a1736 : f1712 co = some (.inl (cy 5, 60, .inr (.inr (.inr (.inr gc))))) := k1714 _ _ a1735 
      have a1737 : f1 en = some (.inl (cy 6, 4, .inr (.inr (.inr (.inr ge))))) := k4 _ _ x_en (z_ne x_en x_fa rfl)
      have a1738 : f892 en = some (.inl (cy 6, 4, .inr (.inr (.inr (.inr ge))))) := k894 _ _ a1737 
      have a1739 : f1712 en = some (.inl (cy 6, 4, .inr (.inr (.inr (.inr ge))))) := k1714 _ _ a1738 
      have a1740 : f1 ke = some (.inr (6, [.ref kn, .ref vq, .int (nI ks)])) := k4 _ _ x_ke (z_ne x_ke x_fa rfl)
      have a1741 : f892 ke = some (.inr (6, [.ref kn, .ref vq, .int (nI ks)])) := k894 _ _ a1740 
      have a1742 : f1712 ke = some (.inr (6, [.ref kn, .ref vq, .int (nI ks)])) := k1714 _ _ a1741 
      have a1743 : f1 kn = some (.inl (cy 0, 40, .inl kk)) := k4 _ _ x_kn (z_ne x_kn x_fa rfl)
      have a1744 : f892 kn = some (.inl (cy 0, 40, .inl kk)) := k894 _ _ a1743 
      have a1745 : f1712 kn = some (.inl (cy 0, 40, .inl kk)) := k1714 _ _ a1744 
      have a1746 : f1 vq = some (.inl (cy 0, 40, .inl kv)) := k4 _ _ x_vq (z_ne x_vq x_fa rfl)
      have a1747 : f892 vq = some (.inl (cy 0, 40, .inl kv)) := k894 _ _ a1746 
      have a1748 : f1712 vq = some (.inl (cy 0, 40, .inl kv)) := k1714 _ _ a1747 
      have F1749 : ∀ i9 : Nat, i9 < nn → f1 (fg i9) = some (.inr (4, [.int (kd i9), .ref (pt i9), .long (wg i9), .int (wd i9), .int (nI i9), .int (hs i9), .int (bf i9)])) := fun i9 h9 => k4 _ _ (hF i9 h9) (z_ne (hF i9 h9) x_fa rfl)
      have F1750 : ∀ i9 : Nat, i9 < nn → f892 (fg i9) = some (.inr (4, [.int (kd i9), .ref (pt i9), .long (wg i9), .int (wd i9), .int (nI i9), .int (hs i9), .int (bf i9)])) := fun i9 h9 => k894 _ _ (F1749 i9 h9) 
      have F1751 : ∀ i9 : Nat, i9 < nn → f1712 (fg i9) = some (.inr (4, [.int (kd i9), .ref (pt i9), .long (wg i9), .int (wd i9), .int (nI i9), .int (hs i9), .int (bf i9)])) := fun i9 h9 => k1714 _ _ (F1750 i9 h9) 
      have F1752 : ∀ i9 : Nat, i9 < nn → f1 (pt i9) = some (.inl (cy 1, (ln i9), .inr (.inl (pp i9)))) := fun i9 h9 => k4 _ _ (hP i9 h9) (z_neO (hP i9 h9) x_fa rfl)
      have F1753 : ∀ i9 : Nat, i9 < nn → f892 (pt i9) = some (.inl (cy 1, (ln i9), .inr (.inl (pp i9)))) := fun i9 h9 => k894 _ _ (F1752 i9 h9) 
      have F1754 : ∀ i9 : Nat, i9 < nn → f1712 (pt i9) = some (.inl (cy 1, (ln i9), .inr (.inl (pp i9)))) := fun i9 h9 => k1714 _ _ (F1753 i9 h9) 
      have F1755 : ∀ i9 : Nat, i9 < nf → f1 (fq i9) = some (.inr (3, [.ref (fk i9), .int (nI (fz i9))])) := fun i9 h9 => k4 _ _ (hFq i9 h9) (z_ne (hFq i9 h9) x_fa rfl)
      have F1756 : ∀ i9 : Nat, i9 < nf → f892 (fq i9) = some (.inr (3, [.ref (fk i9), .int (nI (fz i9))])) := fun i9 h9 => k894 _ _ (F1755 i9 h9) 
      have F1757 : ∀ i9 : Nat, i9 < nf → f1712 (fq i9) = some (.inr (3, [.ref (fk i9), .int (nI (fz i9))])) := fun i9 h9 => k1714 _ _ (F1756 i9 h9) 
      have F1758 : ∀ i9 : Nat, i9 < nf → f1 (fk i9) = some (.inl (cy 0, 4, .inl (fc i9))) := fun i9 h9 => k4 _ _ (hFk i9 h9) (z_ne (hFk i9 h9) x_fa rfl)
      have F1759 : ∀ i9 : Nat, i9 < nf → f892 (fk i9) = some (.inl (cy 0, 4, .inl (fc i9))) := fun i9 h9 => k894 _ _ (F1758 i9 h9) 
      have F1760 : ∀ i9 : Nat, i9 < nf → f1712 (fk i9) = some (.inl (cy 0, 4, .inl (fc i9))) := fun i9 h9 => k1714 _ _ (F1759 i9 h9) 
      have F1761 : ∀ i9 : Nat, i9 < nc → f1 (cn i9) = some (.inr (0, [.int (ce i9), .int (cm i9)])) := fun i9 h9 => k4 _ _ (hCn i9 h9) (z_ne (hCn i9 h9) x_fa rfl)
      have F1762 : ∀ i9 : Nat, i9 < nc → f892 (cn i9) = some (.inr (0, [.int (ce i9), .int (cm i9)])) := fun i9 h9 => k894 _ _ (F1761 i9 h9) 
      have F1763 : ∀ i9 : Nat, i9 < nc → f1712 (cn i9) = some (.inr (0, [.int (ce i9), .int (cm i9)])) := fun i9 h9 => k1714 _ _ (F1762 i9 h9) 
      have F1764 : ∀ i9 : Nat, i9 < 4 → f1 (ea i9) = some (.inr (1, [.ref (ma i9), .int (nI (sq i9))])) := fun i9 h9 => k4 _ _ (hEa i9 h9) (z_ne (hEa i9 h9) x_fa rfl)
      have F1765 : ∀ i9 : Nat, i9 < 4 → f892 (ea i9) = some (.inr (1, [.ref (ma i9), .int (nI (sq i9))])) := fun i9 h9 => k894 _ _ (F1764 i9 h9) 
      have F1766 : ∀ i9 : Nat, i9 < 4 → f1712 (ea i9) = some (.inr (1, [.ref (ma i9), .int (nI (sq i9))])) := fun i9 h9 => k1714 _ _ (F1765 i9 h9) 
      have F1767 : ∀ i9 : Nat, i9 < 4 → f1 (ma i9) = some (.inl (cy 0, 60, .inl (mb i9))) := fun i9 h9 => k4 _ _ (hMa i9 h9) (z_ne (hMa i9 h9) x_fa rfl)
      have F1768 : ∀ i9 : Nat, i9 < 4 → f892 (ma i9) = some (.inl (cy 0, 60, .inl (mb i9))) := fun i9 h9 => k894 _ _ (F1767 i9 h9) 
      have F1769 : ∀ i9 : Nat, i9 < 4 → f1712 (ma i9) = some (.inl (cy 0, 60, .inl (mb i9))) := fun i9 h9 => k1714 _ _ (F1768 i9 h9) 
      exact z_iret C hr rfl hz hS ⟨0, (-1), 0, gv, nl, gu, nn, ga, gr, fg, pt, kd, ln, pp, wg, wd, hs, bf, nf, gf, fq, fk, fz, fc, nc, gc, cn, ce, cm, sq, mb, ks, kk, kv, lk, rfl, (by rw [if_neg (by decide)]), ⟨a1716, a1718, a1721, a1722, a1724, a1727, a1730, a1733, a1736, a1739, a1742, a1745, a1748, F1751, F1754, F1757, F1760, F1763, F1766, F1769, hn60, hl12, hf6, hc60, hs40, hga, hgr, hln, hk5, hk4, hfi, hpi, har, hgf, hfz, hgc, hG, hsq, hei, hmi, kne, hca, hcr, hlk⟩⟩ (Nat.le_of_ble_eq_true rfl) (Nat.le_of_ble_eq_true rfl) dX7_pair_31
  · have a1770 : f1 fi = some (.inr (5, [.ref al, .ref ra, .int (nI nn)])) := k4 _ _ x_fi (z_ne x_fi x_fa rfl)
    refine z_callVi (As := [.int x]) C hz hS hA hl (k_X5_hasOrNone_B l D cy f1 fi al ra nn x a1770 hlf hlf2 hn60) zyX5_hasOrNone mMX7_112 a1770 zl5 rfl rfl (Nat.le_of_ble_eq_true rfl) ⟨Nat.le_of_ble_eq_true rfl, Nat.le_of_ble_eq_true rfl⟩ ⟨Nat.le_of_ble_eq_true rfl, Nat.le_of_ble_eq_true rfl⟩ dX7_pair_12 (fun r f1771 H locs h1772 hz hS => ?_)
    obtain ⟨rfl, k1773⟩ := h1772
    refine lv_if_eq (tgt := 29) hx hb dX7_pair_15 (by decide) (fun c1774 => ?_) (fun c1774 => ?_)
    rotate_left
    · exact absurd c1774 (by decide)
    refine lv_bipush (v := (-2)) hx hb dX7_pair_29 (by decide) ?_
    have a1775 : f1771 o = some (.inr (7, [.ref fa, .ref fi, .ref nu, .int (nI nl), .ref fm, .int (nI nf), .ref co, .int (nI nc), .ref en, .ref ke, .long lk])) := k1773 _ _ a5 
    have a1776 : f1771 fa = some (.inr (2, [.int 0, .int (-1), .int 0, .ref ev])) := k1773 _ _ a3 
    have a1777 : f1 ev = some (.inl (cy 0, 8, .inl gv)) := k4 _ _ x_ev (z_ne x_ev x_fa rfl)
    have a1778 : f1771 ev = some (.inl (cy 0, 8, .inl gv)) := k1773 _ _ a1777 
    have a1779 : f1771 fi = some (.inr (5, [.ref al, .ref ra, .int (nI nn)])) := k1773 _ _ a1770 
    have a1780 : f1 al = some (.inl (cy 3, 60, .inr (.inr (.inr (.inr ga))))) := k4 _ _ x_al (z_ne x_al x_fa rfl)
    have a1781 : f1771 al = some (.inl (cy 3, 60, .inr (.inr (.inr (.inr ga))))) := k1773 _ _ a1780 
    have a1782 : f1 ra = some (.inl (cy 3, 60, .inr (.inr (.inr (.inr gr))))) := k4 _ _ x_ra (z_ne x_ra x_fa rfl)
    have a1783 : f1771 ra = some (.inl (cy 3, 60, .inr (.inr (.inr (.inr gr))))) := k1773 _ _ a1782 
    have a1784 : f1 nu = some (.inl (cy 0, 12, .inl gu)) := k4 _ _ x_nu (z_ne x_nu x_fa rfl)
    have a1785 : f1771 nu = some (.inl (cy 0, 12, .inl gu)) := k1773 _ _ a1784 
    have a1786 : f1 fm = some (.inl (cy 4, 6, .inr (.inr (.inr (.inr gf))))) := k4 _ _ x_fm (z_ne x_fm x_fa rfl)
    have a1787 : f1771 fm = some (.inl (cy 4, 6, .inr (.inr (.inr (.inr gf))))) := k1773 _ _ a1786 
    have a1788 : f1 co = some (.inl (cy 5, 60, .inr (.inr (.inr (.inr gc))))) := k4 _ _ x_co (z_ne x_co x_fa rfl)
    have a1789 : f1771 co = some (.inl (cy 5, 60, .inr (.inr (.inr (.inr gc))))) := k1773 _ _ a1788 
    have a1790 : f1 en = some (.inl (cy 6, 4, .inr (.inr (.inr (.inr ge))))) := k4 _ _ x_en (z_ne x_en x_fa rfl)
    have a1791 : f1771 en = some (.inl (cy 6, 4, .inr (.inr (.inr (.inr ge))))) := k1773 _ _ a1790 
    have a1792 : f1 ke = some (.inr (6, [.ref kn, .ref vq, .int (nI ks)])) := k4 _ _ x_ke (z_ne x_ke x_fa rfl)
    have a1793 : f1771 ke = some (.inr (6, [.ref kn, .ref vq, .int (nI ks)])) := k1773 _ _ a1792 
    have a1794 : f1 kn = some (.inl (cy 0, 40, .inl kk)) := k4 _ _ x_kn (z_ne x_kn x_fa rfl)
    have a1795 : f1771 kn = some (.inl (cy 0, 40, .inl kk)) := k1773 _ _ a1794 
    have a1796 : f1 vq = some (.inl (cy 0, 40, .inl kv)) := k4 _ _ x_vq (z_ne x_vq x_fa rfl)
    have a1797 : f1771 vq = some (.inl (cy 0, 40, .inl kv)) := k1773 _ _ a1796 
    have F1798 : ∀ i9 : Nat, i9 < nn → f1 (fg i9) = some (.inr (4, [.int (kd i9), .ref (pt i9), .long (wg i9), .int (wd i9), .int (nI i9), .int (hs i9), .int (bf i9)])) := fun i9 h9 => k4 _ _ (hF i9 h9) (z_ne (hF i9 h9) x_fa rfl)
    have F1799 : ∀ i9 : Nat, i9 < nn → f1771 (fg i9) = some (.inr (4, [.int (kd i9), .ref (pt i9), .long (wg i9), .int (wd i9), .int (nI i9), .int (hs i9), .int (bf i9)])) := fun i9 h9 => k1773 _ _ (F1798 i9 h9) 
    have F1800 : ∀ i9 : Nat, i9 < nn → f1 (pt i9) = some (.inl (cy 1, (ln i9), .inr (.inl (pp i9)))) := fun i9 h9 => k4 _ _ (hP i9 h9) (z_neO (hP i9 h9) x_fa rfl)
    have F1801 : ∀ i9 : Nat, i9 < nn → f1771 (pt i9) = some (.inl (cy 1, (ln i9), .inr (.inl (pp i9)))) := fun i9 h9 => k1773 _ _ (F1800 i9 h9) 
    have F1802 : ∀ i9 : Nat, i9 < nf → f1 (fq i9) = some (.inr (3, [.ref (fk i9), .int (nI (fz i9))])) := fun i9 h9 => k4 _ _ (hFq i9 h9) (z_ne (hFq i9 h9) x_fa rfl)
    have F1803 : ∀ i9 : Nat, i9 < nf → f1771 (fq i9) = some (.inr (3, [.ref (fk i9), .int (nI (fz i9))])) := fun i9 h9 => k1773 _ _ (F1802 i9 h9) 
    have F1804 : ∀ i9 : Nat, i9 < nf → f1 (fk i9) = some (.inl (cy 0, 4, .inl (fc i9))) := fun i9 h9 => k4 _ _ (hFk i9 h9) (z_ne (hFk i9 h9) x_fa rfl)
    have F1805 : ∀ i9 : Nat, i9 < nf → f1771 (fk i9) = some (.inl (cy 0, 4, .inl (fc i9))) := fun i9 h9 => k1773 _ _ (F1804 i9 h9) 
    have F1806 : ∀ i9 : Nat, i9 < nc → f1 (cn i9) = some (.inr (0, [.int (ce i9), .int (cm i9)])) := fun i9 h9 => k4 _ _ (hCn i9 h9) (z_ne (hCn i9 h9) x_fa rfl)
    have F1807 : ∀ i9 : Nat, i9 < nc → f1771 (cn i9) = some (.inr (0, [.int (ce i9), .int (cm i9)])) := fun i9 h9 => k1773 _ _ (F1806 i9 h9) 
    have F1808 : ∀ i9 : Nat, i9 < 4 → f1 (ea i9) = some (.inr (1, [.ref (ma i9), .int (nI (sq i9))])) := fun i9 h9 => k4 _ _ (hEa i9 h9) (z_ne (hEa i9 h9) x_fa rfl)
    have F1809 : ∀ i9 : Nat, i9 < 4 → f1771 (ea i9) = some (.inr (1, [.ref (ma i9), .int (nI (sq i9))])) := fun i9 h9 => k1773 _ _ (F1808 i9 h9) 
    have F1810 : ∀ i9 : Nat, i9 < 4 → f1 (ma i9) = some (.inl (cy 0, 60, .inl (mb i9))) := fun i9 h9 => k4 _ _ (hMa i9 h9) (z_ne (hMa i9 h9) x_fa rfl)
    have F1811 : ∀ i9 : Nat, i9 < 4 → f1771 (ma i9) = some (.inl (cy 0, 60, .inl (mb i9))) := fun i9 h9 => k1773 _ _ (F1810 i9 h9) 
    exact z_iret C hr rfl hz hS ⟨0, (-1), 0, gv, nl, gu, nn, ga, gr, fg, pt, kd, ln, pp, wg, wd, hs, bf, nf, gf, fq, fk, fz, fc, nc, gc, cn, ce, cm, sq, mb, ks, kk, kv, lk, rfl, (by rw [if_neg (by decide)]), ⟨a1775, a1776, a1778, a1779, a1781, a1783, a1785, a1787, a1789, a1791, a1793, a1795, a1797, F1799, F1801, F1803, F1805, F1807, F1809, F1811, hn60, hl12, hf6, hc60, hs40, hga, hgr, hln, hk5, hk4, hfi, hpi, har, hgf, hfz, hgc, hG, hsq, hei, hmi, kne, hca, hcr, hlk⟩⟩ (Nat.le_of_ble_eq_true rfl) (Nat.le_of_ble_eq_true rfl) dX7_pair_31
abbrev rmX7_numberAt : Room := { frames := 0, cells := 0, slots := 0, locals := 0 }
set_option maxHeartbeats 4000000 in
set_option maxRecDepth 100000 in
theorem k_X7_numberAt (l : Launch) (D : va_G) (cy : Nat → ClassId) (f : zM) (o : Nat) (fa : Nat) (fi : Nat) (nu : Nat) (nl : Nat) (fm : Nat) (nf : Nat) (co : Nat) (nc : Nat) (en : Nat) (ke : Nat) (lk : Int64) (gu : Nat → Int32) (x : Int32) (p0 : f o = some (.inr (7, [.ref fa, .ref fi, .ref nu, .int (nI nl), .ref fm, .int (nI nf), .ref co, .int (nI nc), .ref en, .ref ke, .long lk]))) (p1 : f nu = some (.inl (cy 0, 12, .inl gu)))  (hl12 : nl ≤ 12) : zCi l D cy yX7_numberAt cX7_numberAt 2 (Option.some Jvm.ClassFile.FieldType.int) rmX7_numberAt [.ref o, .int x] f (fun (r : Int32) (f1 : zM) => r = (if x < 0 then 0 else if nI nl ≤ x then 0 else gu x.toNatClampNeg) ∧ (∀ (b : Nat) (e : va_E), f b = some e → f1 b = some e)) := by
  intro sz
  refine z_body (by decide +kernel) (Nat.le_of_ble_eq_true rfl) ?_
  intro p e s m below meth c ls C hr hin hsz hz hl
  subst hsz
  have hx := C.1
  have hb := C.2.1
  have hA : ∀ q, s.heap.size ≤ q → zA f s.heap.size q := fun q h => Or.inr h
  have hS : va_S (zA f s.heap.size) s.heap s.heap [] := va_S.rf
  have hl : lv_has ls 2 [(0, .ref o), (1, .int x)] := hl
  refine lv_iload_n hx hb dX7_numberAt_0 rfl (lv_at hl 1 rfl) ?_
  refine lv_if_lt (tgt := 21) hx hb dX7_numberAt_1 (by decide) (fun c1 => ?_) (fun c1 => ?_)
  · refine lv_iconst (v := 0) hx hb dX7_numberAt_21 (by decide) ?_
    exact z_iret C hr rfl hz hS ⟨(by first | simp [c1] | simp_all), (fun b e hb => hb)⟩ (Nat.le_of_ble_eq_true rfl) (Nat.le_of_ble_eq_true rfl) dX7_numberAt_22
  · refine lv_iload_n hx hb dX7_numberAt_4 rfl (lv_at hl 1 rfl) ?_
    refine lv_aload_n hx hb dX7_numberAt_5 rfl (lv_at hl 0 rfl) ?_
    refine z_get (v := .int (nI nl)) C hz p0 zl7 mFX7_27 (by decide) rfl dX7_numberAt_6 ?_
    refine lv_icmp_ge (tgt := 21) hx hb dX7_numberAt_9 (by decide) (fun c2 => ?_) (fun c2 => ?_)
    · refine lv_iconst (v := 0) hx hb dX7_numberAt_21 (by decide) ?_
      exact z_iret C hr rfl hz hS ⟨(by first | simp [c1, c2] | simp_all), (fun b e hb => hb)⟩ (Nat.le_of_ble_eq_true rfl) (Nat.le_of_ble_eq_true rfl) dX7_numberAt_22
    · obtain ⟨j, hj, hxj⟩ := z_ixl c1 c2 (by omega)
      refine lv_aload_n hx hb dX7_numberAt_12 rfl (lv_at hl 0 rfl) ?_
      refine z_get (v := .ref nu) C hz p0 zl7 mFX7_23 (by decide) rfl dX7_numberAt_13 ?_
      refine lv_iload_n hx hb dX7_numberAt_16 rfl (lv_at hl 1 rfl) ?_
      refine z_iald j C hz p1 hxj (by omega) (by omega) dX7_numberAt_17 ?_
      refine lv_goto (tgt := 22) hx hb dX7_numberAt_18 (by decide) ?_
      exact z_iret C hr rfl hz hS ⟨(by rw [if_neg c1, if_neg c2, hxj, nI_clamp (by omega)]), (fun b e hb => hb)⟩ (Nat.le_of_ble_eq_true rfl) (Nat.le_of_ble_eq_true rfl) dX7_numberAt_22
abbrev rmX7_rowParts : Room := { frames := 1, cells := 1, slots := 15, locals := 21 }
set_option maxHeartbeats 4000000 in
set_option maxRecDepth 100000 in
theorem k_X7_rowParts (l : Launch) (D : va_G) (cy : Nat → ClassId) (f : zM) (o : Nat) (fa : Nat) (fi : Nat) (nu : Nat) (nl : Nat) (fm : Nat) (nf : Nat) (co : Nat) (nc : Nat) (en : Nat) (ke : Nat) (lk : Int64) (gu : Nat → Int32) (x : Int32) (y : Int32) (z : Int32) (t : Nat) (p0 : f o = some (.inr (7, [.ref fa, .ref fi, .ref nu, .int (nI nl), .ref fm, .int (nI nf), .ref co, .int (nI nc), .ref en, .ref ke, .long lk]))) (p1 : f nu = some (.inl (cy 0, 12, .inl gu)))  (hl12 : nl ≤ 12) (hxt : x = nI t) (ht : t ≤ 12) : zCq l D cy yX7_rowParts cX7_rowParts 6 (Option.some (Jvm.ClassFile.FieldType.array Jvm.ClassFile.FieldType.long)) rmX7_rowParts [.ref o, .int x, .int y, .int z] f (fun (r : Option Nat) (f1 : zM) => ∃ (pa : Nat) (gp : Nat → Int64), r = (some pa) ∧ (f pa = none) ∧ f1 pa = some (.inl (cy 1, (3 + t), .inr (.inl gp))) ∧ (∀ (b : Nat) (e : va_E), f b = some e → f1 b = some e)) := by
  intro sz
  refine z_body (by decide +kernel) (Nat.le_of_ble_eq_true rfl) ?_
  intro p e s m below meth c ls C hr hin hsz hz hl
  subst hsz
  have hx := C.1
  have hb := C.2.1
  have hA : ∀ q, s.heap.size ≤ q → zA f s.heap.size q := fun q h => Or.inr h
  have hS : va_S (zA f s.heap.size) s.heap s.heap [] := va_S.rf
  have hl : lv_has ls 6 [(0, .ref o), (1, .int x), (2, .int y), (3, .int z)] := hl
  refine lv_iconst (v := 3) hx hb dX7_rowParts_0 (by decide) ?_
  refine lv_iload_n hx hb dX7_rowParts_1 rfl (lv_at hl 1 rfl) ?_
  refine lv_iadd hx hb dX7_rowParts_2 ?_
  refine z_newa (atype := .long) (t0 := 1) (N' := 3 + t) (x := (.inr (.inl (fun _ => 0)))) C hz hS hA rfl mA_long rfl (fun _ => rfl) (by rw [hxt]; exact nI_add 3 t) (by omega) (by decide) (Nat.le_of_ble_eq_true rfl) (Nat.le_trans (Nat.add_le_add_left (show 3 + t ≤ 15 by omega) _) (Nat.le_of_ble_eq_true rfl)) dX7_rowParts_3 (fun q1 H f3 u2 a4 k5 hz hS => ?_)
  refine W.widen (k := 1) (n := 15) (Nat.le_of_ble_eq_true rfl) (Nat.le_trans (Nat.add_le_add_left (show 3 + t ≤ 15 by omega) _) (Nat.le_of_ble_eq_true rfl)) ?_
  refine lv_astore (lv' := [(4, .ref q1), (0, .ref o), (1, .int x), (2, .int y), (3, .int z)]) hx hb dX7_rowParts_5 hl (by decide) rfl (fun ls hl => ?_)
  refine lv_aload hx hb dX7_rowParts_7 (lv_at hl 0 rfl) ?_
  refine lv_iconst (v := 0) hx hb dX7_rowParts_9 (by decide) ?_
  refine lv_iload_n hx hb dX7_rowParts_10 rfl (lv_at hl 2 rfl) ?_
  refine lv_i2l (v := x.toInt64) hx hb dX7_rowParts_11 rfl ?_
  refine z_last 0 C hz hS a4 (by decide) (by omega) (by omega) dX7_rowParts_12 (fun H locs f6 a7 k8 hz hS => ?_)
  refine lv_aload hx hb dX7_rowParts_13 (lv_at hl 0 rfl) ?_
  refine lv_iconst (v := 1) hx hb dX7_rowParts_15 (by decide) ?_
  refine lv_iload_n hx hb dX7_rowParts_16 rfl (lv_at hl 3 rfl) ?_
  refine lv_i2l (v := y.toInt64) hx hb dX7_rowParts_17 rfl ?_
  refine z_last 1 C hz hS a7 (by decide) (by omega) (by omega) dX7_rowParts_18 (fun H locs f9 a10 k11 hz hS => ?_)
  refine lv_aload hx hb dX7_rowParts_19 (lv_at hl 0 rfl) ?_
  refine lv_iconst (v := 2) hx hb dX7_rowParts_21 (by decide) ?_
  refine lv_iload_n hx hb dX7_rowParts_22 rfl (lv_at hl 4 rfl) ?_
  refine lv_i2l (v := z.toInt64) hx hb dX7_rowParts_23 rfl ?_
  refine z_last 2 C hz hS a10 (by decide) (by omega) (by omega) dX7_rowParts_24 (fun H locs f12 a13 k14 hz hS => ?_)
  refine lv_iconst (v := 0) hx hb dX7_rowParts_25 (by decide) ?_
  refine lv_istore (lv' := [(5, .int 0), (4, .ref q1), (0, .ref o), (1, .int x), (2, .int y), (3, .int z)]) hx hb dX7_rowParts_26 hl (by decide) rfl (fun ls hl => ?_)
  have lp15 : ∀ (n : Nat) (i : Nat) (gp : Nat → Int64) (fL16 : zM) (H : Heap) (locs : List Loc) (ls : Array Slot), (t - i) < n → (i ≤ t) → fL16 q1 = some (.inl (cy 1, (3 + t), .inr (.inl gp))) → (∀ (b : Nat) (e : va_E), f12 b = some e → b ≠ q1 → fL16 b = some e) → zH D (zA f s.heap.size) fL16 H → va_S (zA f s.heap.size) s.heap H locs → lv_has ls 6 [(0, .ref o), (1, .int x), (4, .ref q1), (5, .int (nI i))] → W p l e rmX7_rowParts s m ([.ref o, .int x, .int y, .int z] : List Value).toArray below meth c H locs 1 15 (MQ below (va_Qq (fun (r : Option Nat) (f1 : zM) => ∃ (pa : Nat) (gp : Nat → Int64), r = (some pa) ∧ (f pa = none) ∧ f1 pa = some (.inl (cy 1, (3 + t), .inr (.inl gp))) ∧ (∀ (b : Nat) (e : va_E), f b = some e → f1 b = some e)) (zB D f s.heap.size) (zA f s.heap.size)) ([.ref o, .int x, .int y, .int z] : List Value).toArray s rmX7_rowParts.cells rmX7_rowParts.slots (zA f s.heap.size)) (F0 m 28 ls []) := by
    intro n
    induction n with
    | zero => intro i gp fL16 H locs ls hmz; exact absurd hmz (Nat.not_lt_zero _)
    | succ n ih =>
      intro i gp fL16 H locs ls hmz hi a18 k17 hz hS hl
      refine lv_iload hx hb dX7_rowParts_28 (lv_at hl 3 rfl) ?_
      refine lv_iload_n hx hb dX7_rowParts_30 rfl (lv_at hl 1 rfl) ?_
      refine lv_icmp_ge (tgt := 54) hx hb dX7_rowParts_31 (by decide) (fun c19 => ?_) (fun c19 => ?_)
      · refine lv_aload hx hb dX7_rowParts_54 (lv_at hl 2 rfl) ?_
        have w20 : f q1 = none := by
          rcases h9 : f q1 with _ | e9
          · rfl
          · exfalso
            rw [u2] at h9
            cases h9
        exact z_aret (r := some q1) C hr (Or.inr ⟨_, rfl⟩) rfl hz hS ⟨q1, gp, rfl, w20, a18, (by
              intro b e hb 
              have nn0 : b ≠ q1 := z_nn u2 hb
              have hb0 : f3 b = some e := (k5 b nn0).trans hb
              have hb1 : f6 b = some e := (k8 b nn0).trans hb0
              have hb2 : f9 b = some e := (k11 b nn0).trans hb1
              have hb3 : f12 b = some e := (k14 b nn0).trans hb2
              have hb4 : fL16 b = some e := k17 b e hb3 nn0
              exact hb4)⟩ (Nat.le_of_ble_eq_true rfl) (Nat.le_of_ble_eq_true rfl) dX7_rowParts_56
      · replace c19 : i < t := by rw [hxt] at c19; exact Nat.not_le.mp (fun h => c19 ((nI_leI (by omega) (by omega)).mpr h))
        refine lv_aload hx hb dX7_rowParts_34 (lv_at hl 2 rfl) ?_
        refine lv_iconst (v := 3) hx hb dX7_rowParts_36 (by decide) ?_
        refine lv_iload hx hb dX7_rowParts_37 (lv_at hl 3 rfl) ?_
        refine lv_iadd hx hb dX7_rowParts_39 ?_
        refine lv_aload_n hx hb dX7_rowParts_40 rfl (lv_at hl 0 rfl) ?_
        refine lv_iload hx hb dX7_rowParts_41 (lv_at hl 3 rfl) ?_
        have a21 : f3 o = some (.inr (7, [.ref fa, .ref fi, .ref nu, .int (nI nl), .ref fm, .int (nI nf), .ref co, .int (nI nc), .ref en, .ref ke, .long lk])) := (k5 _ (z_nn u2 p0)).trans p0
        have a22 : f6 o = some (.inr (7, [.ref fa, .ref fi, .ref nu, .int (nI nl), .ref fm, .int (nI nf), .ref co, .int (nI nc), .ref en, .ref ke, .long lk])) := (k8 _ (z_nn u2 p0)).trans a21
        have a23 : f9 o = some (.inr (7, [.ref fa, .ref fi, .ref nu, .int (nI nl), .ref fm, .int (nI nf), .ref co, .int (nI nc), .ref en, .ref ke, .long lk])) := (k11 _ (z_nn u2 p0)).trans a22
        have a24 : f12 o = some (.inr (7, [.ref fa, .ref fi, .ref nu, .int (nI nl), .ref fm, .int (nI nf), .ref co, .int (nI nc), .ref en, .ref ke, .long lk])) := (k14 _ (z_nn u2 p0)).trans a23
        have a25 : fL16 o = some (.inr (7, [.ref fa, .ref fi, .ref nu, .int (nI nl), .ref fm, .int (nI nf), .ref co, .int (nI nc), .ref en, .ref ke, .long lk])) := k17 _ _ a24 (z_nn u2 p0)
        have a26 : f3 nu = some (.inl (cy 0, 12, .inl gu)) := (k5 _ (z_nn u2 p1)).trans p1
        have a27 : f6 nu = some (.inl (cy 0, 12, .inl gu)) := (k8 _ (z_nn u2 p1)).trans a26
        have a28 : f9 nu = some (.inl (cy 0, 12, .inl gu)) := (k11 _ (z_nn u2 p1)).trans a27
        have a29 : f12 nu = some (.inl (cy 0, 12, .inl gu)) := (k14 _ (z_nn u2 p1)).trans a28
        have a30 : fL16 nu = some (.inl (cy 0, 12, .inl gu)) := k17 _ _ a29 (z_nn u2 p1)
        refine z_callVi (As := [.int (nI i)]) C hz hS hA hl (k_X7_numberAt l D cy fL16 o fa fi nu nl fm nf co nc en ke lk gu (nI i) a25 a30 hl12) zyX7_numberAt mMX7_116 a25 zl7 rfl rfl (Nat.le_of_ble_eq_true rfl) ⟨Nat.le_of_ble_eq_true rfl, Nat.le_of_ble_eq_true rfl⟩ ⟨Nat.le_of_ble_eq_true rfl, Nat.le_of_ble_eq_true rfl⟩ dX7_rowParts_43 (fun r f31 H locs h32 hz hS => ?_)
        obtain ⟨rfl, k33⟩ := h32
        refine lv_i2l (v := (if (nI i) < 0 then 0 else if nI nl ≤ (nI i) then 0 else gu (nI i).toNatClampNeg).toInt64) hx hb dX7_rowParts_46 rfl ?_
        have a34 : f31 q1 = some (.inl (cy 1, (3 + t), .inr (.inl gp))) := k33 _ _ a18 
        refine z_last (3 + i) C hz hS a34 (nI_add 3 i) (by omega) (by omega) dX7_rowParts_47 (fun H locs f35 a36 k37 hz hS => ?_)
        refine lv_iinc (v := nI (i + 1)) (lv' := [(5, .int (nI (i + 1))), (0, .ref o), (1, .int x), (4, .ref q1)]) hx hb dX7_rowParts_48 hl (k := 3) rfl (nI_1 i) (by decide) rfl (fun ls hl => ?_)
        refine lv_goto (tgt := 28) hx hb dX7_rowParts_51 (by decide) ?_
        exact ih (i + 1) (vp_updL gp (3 + i) ((if (nI i) < 0 then 0 else if nI nl ≤ (nI i) then 0 else gu (nI i).toNatClampNeg).toInt64)) _ _ _ _ (by omega) (by omega) a36 (by
              intro b e hb n0
              have hb4 : fL16 b = some e := k17 b e hb n0
              have hb5 : f31 b = some e := k33 b e hb4 
              have hb6 : f35 b = some e := (k37 b n0).trans hb5
              exact hb6) hz hS (lv_sub hl [1, 2, 3, 0] rfl)
  exact lp15 (t - 0 + 1) 0 (vp_updL (vp_updL (vp_updL (fun _ => 0) 0 x.toInt64) 1 y.toInt64) 2 z.toInt64) _ _ _ _ (Nat.lt_succ_self _) (by omega) a13 (fun b e hb n0 => hb) hz hS (lv_sub hl [2, 3, 1, 0] rfl)
abbrev rmX7_row : Room := { frames := 6, cells := 2, slots := 22, locals := 140 }
set_option maxHeartbeats 4000000 in
set_option maxRecDepth 100000 in
theorem k_X7_row (l : Launch) (D : va_G) (cy : Nat → ClassId) (f : zM) (o : Nat) (fa : Nat) (fi : Nat) (nu : Nat) (fm : Nat) (co : Nat) (en : Nat) (ke : Nat) (ev : Nat) (al : Nat) (ra : Nat) (kn : Nat) (vq : Nat) (ge : Nat → Option Nat) (ea : Nat → Nat) (ma : Nat → Nat) (u1 : Int32) (u2 : Int32) (u3 : Int32) (gv : Nat → Int32) (nl : Nat) (gu : Nat → Int32) (nn : Nat) (ga : Nat → Option Nat) (gr : Nat → Option Nat) (fg : Nat → Nat) (pt : Nat → Nat) (kd : Nat → Int32) (ln : Nat → Nat) (pp : Nat → Nat → Int64) (wg : Nat → Int64) (wd : Nat → Int32) (hs : Nat → Int32) (bf : Nat → Int32) (nf : Nat) (gf : Nat → Option Nat) (fq : Nat → Nat) (fk : Nat → Nat) (fz : Nat → Nat) (fc : Nat → Nat → Int32) (nc : Nat) (gc : Nat → Option Nat) (cn : Nat → Nat) (ce : Nat → Int32) (cm : Nat → Int32) (sq : Nat → Nat) (mb : Nat → Nat → Int32) (ks : Nat) (kk : Nat → Int32) (kv : Nat → Int32) (lk : Int64) (x : Int32) (y : Int32)    (hI : zIX cy f o fa fi nu fm co en ke ev al ra kn vq ge ea ma u1 u2 u3 gv nl gu nn ga gr fg pt kd ln pp wg wd hs bf nf gf fq fk fz fc nc gc cn ce cm sq mb ks kk kv lk) : zCi l D cy yX7_row cX7_row 4 (Option.some Jvm.ClassFile.FieldType.int) rmX7_row [.ref o, .int x, .int y] f (fun (r : Int32) (f1 : zM) => ∃ (u11 : Int32) (u21 : Int32) (u31 : Int32) (gv1 : Nat → Int32) (nl1 : Nat) (gu1 : Nat → Int32) (nn1 : Nat) (ga1 : Nat → Option Nat) (gr1 : Nat → Option Nat) (fg1 : Nat → Nat) (pt1 : Nat → Nat) (kd1 : Nat → Int32) (ln1 : Nat → Nat) (pp1 : Nat → Nat → Int64) (wg1 : Nat → Int64) (wd1 : Nat → Int32) (hs1 : Nat → Int32) (bf1 : Nat → Int32) (nf1 : Nat) (gf1 : Nat → Option Nat) (fq1 : Nat → Nat) (fk1 : Nat → Nat) (fz1 : Nat → Nat) (fc1 : Nat → Nat → Int32) (nc1 : Nat) (gc1 : Nat → Option Nat) (cn1 : Nat → Nat) (ce1 : Nat → Int32) (cm1 : Nat → Int32) (sq1 : Nat → Nat) (mb1 : Nat → Nat → Int32) (ks1 : Nat) (kk1 : Nat → Int32) (kv1 : Nat → Int32) (lk1 : Int64), r = (if x ≤ 12 then (if nn < 60 then (if 0 ≤ x then (if y < 0 then (-4) else if y < x then nI nn else (-4)) else (-4)) else (-3)) else (-2)) ∧ (nl1 = nl) ∧ (nn1 = if 0 ≤ r then nn + 1 else nn) ∧ zIX cy f1 o fa fi nu fm co en ke ev al ra kn vq ge ea ma u11 u21 u31 gv1 nl1 gu1 nn1 ga1 gr1 fg1 pt1 kd1 ln1 pp1 wg1 wd1 hs1 bf1 nf1 gf1 fq1 fk1 fz1 fc1 nc1 gc1 cn1 ce1 cm1 sq1 mb1 ks1 kk1 kv1 lk1) := by
  intro sz
  refine z_body (by decide +kernel) (Nat.le_of_ble_eq_true rfl) ?_
  intro p e s m below meth c ls C hr hin hsz hz hl
  subst hsz
  have hx := C.1
  have hb := C.2.1
  have hA : ∀ q, s.heap.size ≤ q → zA f s.heap.size q := fun q h => Or.inr h
  have hS : va_S (zA f s.heap.size) s.heap s.heap [] := va_S.rf
  have hl : lv_has ls 4 [(0, .ref o), (1, .int x), (2, .int y)] := hl
  obtain ⟨x_o, x_fa, x_ev, x_fi, x_al, x_ra, x_nu, x_fm, x_co, x_en, x_ke, x_kn, x_vq, hF, hP, hFq, hFk, hCn, hEa, hMa, hn60, hl12, hf6, hc60, hs40, hga, hgr, hln, hk5, hk4, hfi, hpi, har, hgf, hfz, hgc, hG, hsq, hei, hmi, kne, hca, hcr, hlk⟩ := id hI
  refine lv_aload_n hx hb dX7_row_0 rfl (lv_at hl 0 rfl) ?_
  refine z_get (v := .ref fa) C hz x_o zl7 mFX7_10 (by decide) rfl dX7_row_1 ?_
  refine z_callVv (As := []) C hz hS hA hl (k_X2_none l D cy f fa u1 u2 u3 ev x_fa ) zyX2_none mMX7_76 x_fa zl2 rfl rfl (Nat.le_of_ble_eq_true rfl) ⟨Nat.le_of_ble_eq_true rfl, Nat.le_of_ble_eq_true rfl⟩ ⟨Nat.le_of_ble_eq_true rfl, Nat.le_of_ble_eq_true rfl⟩ dX7_row_4 (fun  f1 H locs h2 hz hS => ?_)
  obtain ⟨a3, k4⟩ := h2
  refine lv_iload_n hx hb dX7_row_7 rfl (lv_at hl 1 rfl) ?_
  refine lv_bipush (v := 12) hx hb dX7_row_8 (by decide) ?_
  refine lv_icmp_le (tgt := 16) hx hb dX7_row_10 (by decide) (fun c5 => ?_) (fun c5 => ?_)
  · refine lv_aload_n hx hb dX7_row_16 rfl (lv_at hl 0 rfl) ?_
    have a6 : f1 o = some (.inr (7, [.ref fa, .ref fi, .ref nu, .int (nI nl), .ref fm, .int (nI nf), .ref co, .int (nI nc), .ref en, .ref ke, .long lk])) := k4 _ _ x_o (z_ne x_o x_fa rfl)
    refine z_get (v := .ref fi) C hz a6 zl7 mFX7_19 (by decide) rfl dX7_row_17 ?_
    by_cases h60 : nn < 60
    · have a7 : f1 fi = some (.inr (5, [.ref al, .ref ra, .int (nI nn)])) := k4 _ _ x_fi (z_ne x_fi x_fa rfl)
      refine z_callVi (As := []) C hz hS hA hl (k_X5_isFull_A l D cy f1 fi al ra nn a7 hn60 h60) zyX5_isFull mMX7_79 a7 zl5 rfl rfl (Nat.le_of_ble_eq_true rfl) ⟨Nat.le_of_ble_eq_true rfl, Nat.le_of_ble_eq_true rfl⟩ ⟨Nat.le_of_ble_eq_true rfl, Nat.le_of_ble_eq_true rfl⟩ dX7_row_20 (fun r f8 H locs h9 hz hS => ?_)
      obtain ⟨rfl, k10⟩ := h9
      refine lv_if_eq (tgt := 29) hx hb dX7_row_23 (by decide) (fun c11 => ?_) (fun c11 => ?_)
      rotate_left
      · exact absurd c11 (by decide)
      refine lv_iload_n hx hb dX7_row_29 rfl (lv_at hl 1 rfl) ?_
      refine lv_if_ge (tgt := 43) hx hb dX7_row_30 (by decide) (fun c12 => ?_) (fun c12 => ?_)
      · refine lv_iload_n hx hb dX7_row_43 rfl (lv_at hl 2 rfl) ?_
        refine lv_if_lt (tgt := 52) hx hb dX7_row_44 (by decide) (fun c13 => ?_) (fun c13 => ?_)
        · refine lv_aload_n hx hb dX7_row_52 rfl (lv_at hl 0 rfl) ?_
          have a14 : f8 o = some (.inr (7, [.ref fa, .ref fi, .ref nu, .int (nI nl), .ref fm, .int (nI nf), .ref co, .int (nI nc), .ref en, .ref ke, .long lk])) := k10 _ _ a6 
          refine z_get (v := .ref fa) C hz a14 zl7 mFX7_10 (by decide) rfl dX7_row_53 ?_
          refine lv_iconst (v := 2) hx hb dX7_row_56 (by decide) ?_
          refine lv_iconst (v := 1) hx hb dX7_row_57 (by decide) ?_
          have a15 : f8 fa = some (.inr (2, [.int 0, .int (-1), .int 0, .ref ev])) := k10 _ _ a3 
          have a16 : f1 ev = some (.inl (cy 0, 8, .inl gv)) := k4 _ _ x_ev (z_ne x_ev x_fa rfl)
          have a17 : f8 ev = some (.inl (cy 0, 8, .inl gv)) := k10 _ _ a16 
          refine z_callVi (As := [.int 2, .int 1]) C hz hS hA hl (k_X2_inPart l D cy f8 fa 2 1 0 (-1) 0 ev gv 2 a15 a17 (by decide) (Nat.le_of_ble_eq_true rfl)) zyX2_inPart mMX7_104 a15 zl2 rfl rfl (Nat.le_of_ble_eq_true rfl) ⟨Nat.le_of_ble_eq_true rfl, Nat.le_of_ble_eq_true rfl⟩ ⟨Nat.le_of_ble_eq_true rfl, Nat.le_of_ble_eq_true rfl⟩ dX7_row_58 (fun r f18 H locs h19 hz hS => ?_)
          obtain ⟨rfl, a20, a21, k22⟩ := h19
          have a23 : f18 o = some (.inr (7, [.ref fa, .ref fi, .ref nu, .int (nI nl), .ref fm, .int (nI nf), .ref co, .int (nI nc), .ref en, .ref ke, .long lk])) := k22 _ _ a14 (z_ne a14 a15 rfl) (z_ne a14 a17 rfl)
          have a24 : f8 fi = some (.inr (5, [.ref al, .ref ra, .int (nI nn)])) := k10 _ _ a7 
          have a25 : f18 fi = some (.inr (5, [.ref al, .ref ra, .int (nI nn)])) := k22 _ _ a24 (z_ne a24 a15 rfl) (z_ne a24 a17 rfl)
          have a26 : f1 al = some (.inl (cy 3, 60, .inr (.inr (.inr (.inr ga))))) := k4 _ _ x_al (z_ne x_al x_fa rfl)
          have a27 : f8 al = some (.inl (cy 3, 60, .inr (.inr (.inr (.inr ga))))) := k10 _ _ a26 
          have a28 : f18 al = some (.inl (cy 3, 60, .inr (.inr (.inr (.inr ga))))) := k22 _ _ a27 (z_ne a27 a15 rfl) (z_ne a27 a17 rfl)
          have a29 : f1 ra = some (.inl (cy 3, 60, .inr (.inr (.inr (.inr gr))))) := k4 _ _ x_ra (z_ne x_ra x_fa rfl)
          have a30 : f8 ra = some (.inl (cy 3, 60, .inr (.inr (.inr (.inr gr))))) := k10 _ _ a29 
          have a31 : f18 ra = some (.inl (cy 3, 60, .inr (.inr (.inr (.inr gr))))) := k22 _ _ a30 (z_ne a30 a15 rfl) (z_ne a30 a17 rfl)
          have a32 : f1 nu = some (.inl (cy 0, 12, .inl gu)) := k4 _ _ x_nu (z_ne x_nu x_fa rfl)
          have a33 : f8 nu = some (.inl (cy 0, 12, .inl gu)) := k10 _ _ a32 
          have a34 : f18 nu = some (.inl (cy 0, 12, .inl gu)) := k22 _ _ a33 (z_ne a33 a15 rfl) (z_ne a33 a17 rfl)
          have a35 : f1 fm = some (.inl (cy 4, 6, .inr (.inr (.inr (.inr gf))))) := k4 _ _ x_fm (z_ne x_fm x_fa rfl)
          have a36 : f8 fm = some (.inl (cy 4, 6, .inr (.inr (.inr (.inr gf))))) := k10 _ _ a35 
          have a37 : f18 fm = some (.inl (cy 4, 6, .inr (.inr (.inr (.inr gf))))) := k22 _ _ a36 (z_ne a36 a15 rfl) (z_ne a36 a17 rfl)
          have a38 : f1 co = some (.inl (cy 5, 60, .inr (.inr (.inr (.inr gc))))) := k4 _ _ x_co (z_ne x_co x_fa rfl)
          have a39 : f8 co = some (.inl (cy 5, 60, .inr (.inr (.inr (.inr gc))))) := k10 _ _ a38 
          have a40 : f18 co = some (.inl (cy 5, 60, .inr (.inr (.inr (.inr gc))))) := k22 _ _ a39 (z_ne a39 a15 rfl) (z_ne a39 a17 rfl)
          have a41 : f1 en = some (.inl (cy 6, 4, .inr (.inr (.inr (.inr ge))))) := k4 _ _ x_en (z_ne x_en x_fa rfl)
          have a42 : f8 en = some (.inl (cy 6, 4, .inr (.inr (.inr (.inr ge))))) := k10 _ _ a41 
          have a43 : f18 en = some (.inl (cy 6, 4, .inr (.inr (.inr (.inr ge))))) := k22 _ _ a42 (z_ne a42 a15 rfl) (z_ne a42 a17 rfl)
          have a44 : f1 ke = some (.inr (6, [.ref kn, .ref vq, .int (nI ks)])) := k4 _ _ x_ke (z_ne x_ke x_fa rfl)
          have a45 : f8 ke = some (.inr (6, [.ref kn, .ref vq, .int (nI ks)])) := k10 _ _ a44 
          have a46 : f18 ke = some (.inr (6, [.ref kn, .ref vq, .int (nI ks)])) := k22 _ _ a45 (z_ne a45 a15 rfl) (z_ne a45 a17 rfl)
          have a47 : f1 kn = some (.inl (cy 0, 40, .inl kk)) := k4 _ _ x_kn (z_ne x_kn x_fa rfl)
          have a48 : f8 kn = some (.inl (cy 0, 40, .inl kk)) := k10 _ _ a47 
          have a49 : f18 kn = some (.inl (cy 0, 40, .inl kk)) := k22 _ _ a48 (z_ne a48 a15 rfl) (z_ne a48 a17 rfl)
          have a50 : f1 vq = some (.inl (cy 0, 40, .inl kv)) := k4 _ _ x_vq (z_ne x_vq x_fa rfl)
          have a51 : f8 vq = some (.inl (cy 0, 40, .inl kv)) := k10 _ _ a50 
          have a52 : f18 vq = some (.inl (cy 0, 40, .inl kv)) := k22 _ _ a51 (z_ne a51 a15 rfl) (z_ne a51 a17 rfl)
          have F53 : ∀ i9 : Nat, i9 < nn → f1 (fg i9) = some (.inr (4, [.int (kd i9), .ref (pt i9), .long (wg i9), .int (wd i9), .int (nI i9), .int (hs i9), .int (bf i9)])) := fun i9 h9 => k4 _ _ (hF i9 h9) (z_ne (hF i9 h9) x_fa rfl)
          have F54 : ∀ i9 : Nat, i9 < nn → f8 (fg i9) = some (.inr (4, [.int (kd i9), .ref (pt i9), .long (wg i9), .int (wd i9), .int (nI i9), .int (hs i9), .int (bf i9)])) := fun i9 h9 => k10 _ _ (F53 i9 h9) 
          have F55 : ∀ i9 : Nat, i9 < nn → f18 (fg i9) = some (.inr (4, [.int (kd i9), .ref (pt i9), .long (wg i9), .int (wd i9), .int (nI i9), .int (hs i9), .int (bf i9)])) := fun i9 h9 => k22 _ _ (F54 i9 h9) (z_ne (F54 i9 h9) a15 rfl) (z_ne (F54 i9 h9) a17 rfl)
          have F56 : ∀ i9 : Nat, i9 < nn → f1 (pt i9) = some (.inl (cy 1, (ln i9), .inr (.inl (pp i9)))) := fun i9 h9 => k4 _ _ (hP i9 h9) (z_neO (hP i9 h9) x_fa rfl)
          have F57 : ∀ i9 : Nat, i9 < nn → f8 (pt i9) = some (.inl (cy 1, (ln i9), .inr (.inl (pp i9)))) := fun i9 h9 => k10 _ _ (F56 i9 h9) 
          have F58 : ∀ i9 : Nat, i9 < nn → f18 (pt i9) = some (.inl (cy 1, (ln i9), .inr (.inl (pp i9)))) := fun i9 h9 => k22 _ _ (F57 i9 h9) (z_neO (F57 i9 h9) a15 rfl) (z_neA (F57 i9 h9) a17 rfl)
          have F59 : ∀ i9 : Nat, i9 < nf → f1 (fq i9) = some (.inr (3, [.ref (fk i9), .int (nI (fz i9))])) := fun i9 h9 => k4 _ _ (hFq i9 h9) (z_ne (hFq i9 h9) x_fa rfl)
          have F60 : ∀ i9 : Nat, i9 < nf → f8 (fq i9) = some (.inr (3, [.ref (fk i9), .int (nI (fz i9))])) := fun i9 h9 => k10 _ _ (F59 i9 h9) 
          have F61 : ∀ i9 : Nat, i9 < nf → f18 (fq i9) = some (.inr (3, [.ref (fk i9), .int (nI (fz i9))])) := fun i9 h9 => k22 _ _ (F60 i9 h9) (z_ne (F60 i9 h9) a15 rfl) (z_ne (F60 i9 h9) a17 rfl)
          have F62 : ∀ i9 : Nat, i9 < nf → f1 (fk i9) = some (.inl (cy 0, 4, .inl (fc i9))) := fun i9 h9 => k4 _ _ (hFk i9 h9) (z_ne (hFk i9 h9) x_fa rfl)
          have F63 : ∀ i9 : Nat, i9 < nf → f8 (fk i9) = some (.inl (cy 0, 4, .inl (fc i9))) := fun i9 h9 => k10 _ _ (F62 i9 h9) 
          have F64 : ∀ i9 : Nat, i9 < nf → f18 (fk i9) = some (.inl (cy 0, 4, .inl (fc i9))) := fun i9 h9 => k22 _ _ (F63 i9 h9) (z_ne (F63 i9 h9) a15 rfl) (z_ne (F63 i9 h9) a17 rfl)
          have F65 : ∀ i9 : Nat, i9 < nc → f1 (cn i9) = some (.inr (0, [.int (ce i9), .int (cm i9)])) := fun i9 h9 => k4 _ _ (hCn i9 h9) (z_ne (hCn i9 h9) x_fa rfl)
          have F66 : ∀ i9 : Nat, i9 < nc → f8 (cn i9) = some (.inr (0, [.int (ce i9), .int (cm i9)])) := fun i9 h9 => k10 _ _ (F65 i9 h9) 
          have F67 : ∀ i9 : Nat, i9 < nc → f18 (cn i9) = some (.inr (0, [.int (ce i9), .int (cm i9)])) := fun i9 h9 => k22 _ _ (F66 i9 h9) (z_ne (F66 i9 h9) a15 rfl) (z_ne (F66 i9 h9) a17 rfl)
          have F68 : ∀ i9 : Nat, i9 < 4 → f1 (ea i9) = some (.inr (1, [.ref (ma i9), .int (nI (sq i9))])) := fun i9 h9 => k4 _ _ (hEa i9 h9) (z_ne (hEa i9 h9) x_fa rfl)
          have F69 : ∀ i9 : Nat, i9 < 4 → f8 (ea i9) = some (.inr (1, [.ref (ma i9), .int (nI (sq i9))])) := fun i9 h9 => k10 _ _ (F68 i9 h9) 
          have F70 : ∀ i9 : Nat, i9 < 4 → f18 (ea i9) = some (.inr (1, [.ref (ma i9), .int (nI (sq i9))])) := fun i9 h9 => k22 _ _ (F69 i9 h9) (z_ne (F69 i9 h9) a15 rfl) (z_ne (F69 i9 h9) a17 rfl)
          have F71 : ∀ i9 : Nat, i9 < 4 → f1 (ma i9) = some (.inl (cy 0, 60, .inl (mb i9))) := fun i9 h9 => k4 _ _ (hMa i9 h9) (z_ne (hMa i9 h9) x_fa rfl)
          have F72 : ∀ i9 : Nat, i9 < 4 → f8 (ma i9) = some (.inl (cy 0, 60, .inl (mb i9))) := fun i9 h9 => k10 _ _ (F71 i9 h9) 
          have F73 : ∀ i9 : Nat, i9 < 4 → f18 (ma i9) = some (.inl (cy 0, 60, .inl (mb i9))) := fun i9 h9 => k22 _ _ (F72 i9 h9) (z_ne (F72 i9 h9) a15 rfl) (z_ne (F72 i9 h9) a17 rfl)
          exact z_iret C hr rfl hz hS ⟨2, 1, 0, (upd gv 2 (gv 2 + 1)), nl, gu, nn, ga, gr, fg, pt, kd, ln, pp, wg, wd, hs, bf, nf, gf, fq, fk, fz, fc, nc, gc, cn, ce, cm, sq, mb, ks, kk, kv, lk, (by simp [h60, c5, c11, c12, c13]), rfl, (by rw [if_neg (by decide)]), ⟨a23, a20, a21, a25, a28, a31, a34, a37, a40, a43, a46, a49, a52, F55, F58, F61, F64, F67, F70, F73, hn60, hl12, hf6, hc60, hs40, hga, hgr, hln, hk5, hk4, hfi, hpi, har, hgf, hfz, hgc, hG, hsq, hei, hmi, kne, hca, hcr, hlk⟩⟩ (Nat.le_of_ble_eq_true rfl) (Nat.le_of_ble_eq_true rfl) dX7_row_61
        · refine lv_iload_n hx hb dX7_row_47 rfl (lv_at hl 2 rfl) ?_
          refine lv_iload_n hx hb dX7_row_48 rfl (lv_at hl 1 rfl) ?_
          refine lv_icmp_lt (tgt := 62) hx hb dX7_row_49 (by decide) (fun c74 => ?_) (fun c74 => ?_)
          · obtain ⟨t, ht, hxt⟩ := z_ixn (n := 12) (by decide) c12 c5
            refine lv_aload_n hx hb dX7_row_62 rfl (lv_at hl 0 rfl) ?_
            refine lv_iload_n hx hb dX7_row_63 rfl (lv_at hl 2 rfl) ?_
            have a75 : f8 o = some (.inr (7, [.ref fa, .ref fi, .ref nu, .int (nI nl), .ref fm, .int (nI nf), .ref co, .int (nI nc), .ref en, .ref ke, .long lk])) := k10 _ _ a6 
            have a76 : f1 nu = some (.inl (cy 0, 12, .inl gu)) := k4 _ _ x_nu (z_ne x_nu x_fa rfl)
            have a77 : f8 nu = some (.inl (cy 0, 12, .inl gu)) := k10 _ _ a76 
            refine z_callVi (As := [.int y]) C hz hS hA hl (k_X7_numberAt l D cy f8 o fa fi nu nl fm nf co nc en ke lk gu y a75 a77 hl12) zyX7_numberAt mMX7_116 a75 zl7 rfl rfl (Nat.le_of_ble_eq_true rfl) ⟨Nat.le_of_ble_eq_true rfl, Nat.le_of_ble_eq_true rfl⟩ ⟨Nat.le_of_ble_eq_true rfl, Nat.le_of_ble_eq_true rfl⟩ dX7_row_64 (fun r f78 H locs h79 hz hS => ?_)
            obtain ⟨rfl, k80⟩ := h79
            refine lv_istore_n (lv' := [(3, .int (if y < 0 then 0 else if nI nl ≤ y then 0 else gu y.toNatClampNeg)), (0, .ref o), (1, .int x), (2, .int y)]) hx hb dX7_row_67 rfl hl (by decide) rfl (fun ls hl => ?_)
            refine lv_aload_n hx hb dX7_row_68 rfl (lv_at hl 1 rfl) ?_
            have a81 : f78 o = some (.inr (7, [.ref fa, .ref fi, .ref nu, .int (nI nl), .ref fm, .int (nI nf), .ref co, .int (nI nc), .ref en, .ref ke, .long lk])) := k80 _ _ a75 
            refine z_get (v := .ref fi) C hz a81 zl7 mFX7_19 (by decide) rfl dX7_row_69 ?_
            refine z_new (fs := [.int 0, .null, .long 0, .int 0, .int 0, .int 0, .int 0]) C hz hS hA zl4 mLX7_83 mIa_RX4 mIn_RX4 (by decide +kernel) (Nat.le_of_ble_eq_true rfl) (Nat.le_of_ble_eq_true rfl) dX7_row_72 (fun q82 H f84 u83 a85 k86 hz hS => ?_)
            refine lv_dup hx hb dX7_row_75 rfl ?_
            refine lv_iconst (v := 5) hx hb dX7_row_76 (by decide) ?_
            refine lv_aload_n hx hb dX7_row_77 rfl (lv_at hl 1 rfl) ?_
            refine lv_iload_n hx hb dX7_row_78 rfl (lv_at hl 2 rfl) ?_
            refine lv_iload_n hx hb dX7_row_79 rfl (lv_at hl 3 rfl) ?_
            refine lv_iload_n hx hb dX7_row_80 rfl (lv_at hl 0 rfl) ?_
            have a87 : f84 o = some (.inr (7, [.ref fa, .ref fi, .ref nu, .int (nI nl), .ref fm, .int (nI nf), .ref co, .int (nI nc), .ref en, .ref ke, .long lk])) := (k86 _ (z_nn u83 a81)).trans a81
            have a88 : f78 nu = some (.inl (cy 0, 12, .inl gu)) := k80 _ _ a77 
            have a89 : f84 nu = some (.inl (cy 0, 12, .inl gu)) := (k86 _ (z_nn u83 a88)).trans a88
            refine z_callVq (As := [.int x, .int y, .int (if y < 0 then 0 else if nI nl ≤ y then 0 else gu y.toNatClampNeg)]) C hz hS hA hl (k_X7_rowParts l D cy f84 o fa fi nu nl fm nf co nc en ke lk gu x y (if y < 0 then 0 else if nI nl ≤ y then 0 else gu y.toNatClampNeg) t a87 a89 hl12 hxt ht) zyX7_rowParts mMX7_120 a87 zl7 rfl rfl (Nat.le_of_ble_eq_true rfl) ⟨Nat.le_of_ble_eq_true rfl, Nat.le_of_ble_eq_true rfl⟩ ⟨Nat.le_of_ble_eq_true rfl, Nat.le_of_ble_eq_true rfl⟩ dX7_row_81 (fun r f90 H locs h91 hz hS => ?_)
            obtain ⟨pa_92, gp_93, rfl, p94, a95, k96⟩ := h91
            refine W.eq (g2 := F0 m 84 ls [.ref pa_92, .int 5, .ref q82, .ref q82, .ref fi]) rfl ?_
            refine lv_iload_n hx hb dX7_row_84 rfl (lv_at hl 0 rfl) ?_
            refine lv_i2l (v := (if y < 0 then 0 else if nI nl ≤ y then 0 else gu y.toNatClampNeg).toInt64) hx hb dX7_row_85 rfl ?_
            have a97 : f90 q82 = some (.inr (4, [.int 0, .null, .long 0, .int 0, .int 0, .int 0, .int 0])) := k96 _ _ a85 
            refine z_callIv (ret := none) (As := [.int 5, .ref pa_92, .long ((if y < 0 then 0 else if nI nl ≤ y then 0 else gu y.toNatClampNeg).toInt64)]) C hz hS hA hl (k_X4_init l D cy f90 q82 5 pa_92 ((if y < 0 then 0 else if nI nl ≤ y then 0 else gu y.toNatClampNeg).toInt64) a97 ) zyX4_init mMX7_89 rfl rfl (Nat.le_of_ble_eq_true rfl) ⟨Nat.le_of_ble_eq_true rfl, Nat.le_of_ble_eq_true rfl⟩ ⟨Nat.le_of_ble_eq_true rfl, Nat.le_of_ble_eq_true rfl⟩ dX7_row_86 (fun  f98 H locs h99 hz hS => ?_)
            obtain ⟨a100, k101⟩ := h99
            have a102 : f8 fi = some (.inr (5, [.ref al, .ref ra, .int (nI nn)])) := k10 _ _ a7 
            have a103 : f78 fi = some (.inr (5, [.ref al, .ref ra, .int (nI nn)])) := k80 _ _ a102 
            have a104 : f84 fi = some (.inr (5, [.ref al, .ref ra, .int (nI nn)])) := (k86 _ (z_nn u83 a103)).trans a103
            have a105 : f90 fi = some (.inr (5, [.ref al, .ref ra, .int (nI nn)])) := k96 _ _ a104 
            have a106 : f98 fi = some (.inr (5, [.ref al, .ref ra, .int (nI nn)])) := k101 _ _ a105 (z_nn u83 a103)
            have a107 : f1 al = some (.inl (cy 3, 60, .inr (.inr (.inr (.inr ga))))) := k4 _ _ x_al (z_ne x_al x_fa rfl)
            have a108 : f8 al = some (.inl (cy 3, 60, .inr (.inr (.inr (.inr ga))))) := k10 _ _ a107 
            have a109 : f78 al = some (.inl (cy 3, 60, .inr (.inr (.inr (.inr ga))))) := k80 _ _ a108 
            have a110 : f84 al = some (.inl (cy 3, 60, .inr (.inr (.inr (.inr ga))))) := (k86 _ (z_nn u83 a109)).trans a109
            have a111 : f90 al = some (.inl (cy 3, 60, .inr (.inr (.inr (.inr ga))))) := k96 _ _ a110 
            have a112 : f98 al = some (.inl (cy 3, 60, .inr (.inr (.inr (.inr ga))))) := k101 _ _ a111 (z_nn u83 a109)
            have a113 : f1 ra = some (.inl (cy 3, 60, .inr (.inr (.inr (.inr gr))))) := k4 _ _ x_ra (z_ne x_ra x_fa rfl)
            have a114 : f8 ra = some (.inl (cy 3, 60, .inr (.inr (.inr (.inr gr))))) := k10 _ _ a113 
            have a115 : f78 ra = some (.inl (cy 3, 60, .inr (.inr (.inr (.inr gr))))) := k80 _ _ a114 
            have a116 : f84 ra = some (.inl (cy 3, 60, .inr (.inr (.inr (.inr gr))))) := (k86 _ (z_nn u83 a115)).trans a115
            have a117 : f90 ra = some (.inl (cy 3, 60, .inr (.inr (.inr (.inr gr))))) := k96 _ _ a116 
            have a118 : f98 ra = some (.inl (cy 3, 60, .inr (.inr (.inr (.inr gr))))) := k101 _ _ a117 (z_nn u83 a115)
            have a119 : f98 pa_92 = some (.inl (cy 1, (3 + t), .inr (.inl gp_93))) := k101 _ _ a95 (Ne.symm (z_nn p94 a85))
            have F120 : ∀ i9 : Nat, i9 < nn → f1 (fg i9) = some (.inr (4, [.int (kd i9), .ref (pt i9), .long (wg i9), .int (wd i9), .int (nI i9), .int (hs i9), .int (bf i9)])) := fun i9 h9 => k4 _ _ (hF i9 h9) (z_ne (hF i9 h9) x_fa rfl)
            have F121 : ∀ i9 : Nat, i9 < nn → f8 (fg i9) = some (.inr (4, [.int (kd i9), .ref (pt i9), .long (wg i9), .int (wd i9), .int (nI i9), .int (hs i9), .int (bf i9)])) := fun i9 h9 => k10 _ _ (F120 i9 h9) 
            have F122 : ∀ i9 : Nat, i9 < nn → f78 (fg i9) = some (.inr (4, [.int (kd i9), .ref (pt i9), .long (wg i9), .int (wd i9), .int (nI i9), .int (hs i9), .int (bf i9)])) := fun i9 h9 => k80 _ _ (F121 i9 h9) 
            have F123 : ∀ i9 : Nat, i9 < nn → f84 (fg i9) = some (.inr (4, [.int (kd i9), .ref (pt i9), .long (wg i9), .int (wd i9), .int (nI i9), .int (hs i9), .int (bf i9)])) := fun i9 h9 => (k86 _ (z_nn u83 (F122 i9 h9))).trans (F122 i9 h9)
            have F124 : ∀ i9 : Nat, i9 < nn → f90 (fg i9) = some (.inr (4, [.int (kd i9), .ref (pt i9), .long (wg i9), .int (wd i9), .int (nI i9), .int (hs i9), .int (bf i9)])) := fun i9 h9 => k96 _ _ (F123 i9 h9) 
            have F125 : ∀ i9 : Nat, i9 < nn → f98 (fg i9) = some (.inr (4, [.int (kd i9), .ref (pt i9), .long (wg i9), .int (wd i9), .int (nI i9), .int (hs i9), .int (bf i9)])) := fun i9 h9 => k101 _ _ (F124 i9 h9) (z_nn u83 (F122 i9 h9))
            have F126 : ∀ i9 : Nat, i9 < nn → f1 (pt i9) = some (.inl (cy 1, (ln i9), .inr (.inl (pp i9)))) := fun i9 h9 => k4 _ _ (hP i9 h9) (z_neO (hP i9 h9) x_fa rfl)
            have F127 : ∀ i9 : Nat, i9 < nn → f8 (pt i9) = some (.inl (cy 1, (ln i9), .inr (.inl (pp i9)))) := fun i9 h9 => k10 _ _ (F126 i9 h9) 
            have F128 : ∀ i9 : Nat, i9 < nn → f78 (pt i9) = some (.inl (cy 1, (ln i9), .inr (.inl (pp i9)))) := fun i9 h9 => k80 _ _ (F127 i9 h9) 
            have F129 : ∀ i9 : Nat, i9 < nn → f84 (pt i9) = some (.inl (cy 1, (ln i9), .inr (.inl (pp i9)))) := fun i9 h9 => (k86 _ (z_nn u83 (F128 i9 h9))).trans (F128 i9 h9)
            have F130 : ∀ i9 : Nat, i9 < nn → f90 (pt i9) = some (.inl (cy 1, (ln i9), .inr (.inl (pp i9)))) := fun i9 h9 => k96 _ _ (F129 i9 h9) 
            have F131 : ∀ i9 : Nat, i9 < nn → f98 (pt i9) = some (.inl (cy 1, (ln i9), .inr (.inl (pp i9)))) := fun i9 h9 => k101 _ _ (F130 i9 h9) (z_nn u83 (F128 i9 h9))
            refine z_callVi (As := [.ref q82]) C hz hS hA hl (k_X5_add l D cy f98 fi al ra ga gr nn fg pt kd ln pp wg wd hs bf q82 5 pa_92 ((if y < 0 then 0 else if nI nl ≤ y then 0 else gu y.toNatClampNeg).toInt64) 0 (-1) 0 0 (3 + t) gp_93 a106 a112 a118 a100 a119 F125 F131 h60 hga hgr hln hk5 hfi (fun j9 h9 => z_nn u83 (F122 j9 h9)) (by omega) (fun _ => by omega) har) zyX5_add mMX7_92 a106 zl5 rfl rfl (Nat.le_of_ble_eq_true rfl) ⟨Nat.le_of_ble_eq_true rfl, Nat.le_of_ble_eq_true rfl⟩ ⟨Nat.le_of_ble_eq_true rfl, Nat.le_of_ble_eq_true rfl⟩ dX7_row_89 (fun r f132 H locs h133 hz hS => ?_)
            obtain ⟨hq_134, bq_135, gr_136, bf_137, rfl, p138, a139, a140, a141, F142, F143, k144⟩ := h133
            have a145 : f90 o = some (.inr (7, [.ref fa, .ref fi, .ref nu, .int (nI nl), .ref fm, .int (nI nf), .ref co, .int (nI nc), .ref en, .ref ke, .long lk])) := k96 _ _ a87 
            have a146 : f98 o = some (.inr (7, [.ref fa, .ref fi, .ref nu, .int (nI nl), .ref fm, .int (nI nf), .ref co, .int (nI nc), .ref en, .ref ke, .long lk])) := k101 _ _ a145 (z_nn u83 a81)
            have a147 : f132 o = some (.inr (7, [.ref fa, .ref fi, .ref nu, .int (nI nl), .ref fm, .int (nI nf), .ref co, .int (nI nc), .ref en, .ref ke, .long lk])) := k144 _ _ a146 (z_ne a146 a106 rfl) (z_ne a146 a112 rfl) (z_ne a146 a118 rfl) (z_nn u83 a81) (fun j9 h8 => (z_ne a146 (F125 j9 h8) rfl))
            have a148 : f8 fa = some (.inr (2, [.int 0, .int (-1), .int 0, .ref ev])) := k10 _ _ a3 
            have a149 : f78 fa = some (.inr (2, [.int 0, .int (-1), .int 0, .ref ev])) := k80 _ _ a148 
            have a150 : f84 fa = some (.inr (2, [.int 0, .int (-1), .int 0, .ref ev])) := (k86 _ (z_nn u83 a149)).trans a149
            have a151 : f90 fa = some (.inr (2, [.int 0, .int (-1), .int 0, .ref ev])) := k96 _ _ a150 
            have a152 : f98 fa = some (.inr (2, [.int 0, .int (-1), .int 0, .ref ev])) := k101 _ _ a151 (z_nn u83 a149)
            have a153 : f132 fa = some (.inr (2, [.int 0, .int (-1), .int 0, .ref ev])) := k144 _ _ a152 (z_ne a152 a106 rfl) (z_ne a152 a112 rfl) (z_ne a152 a118 rfl) (z_nn u83 a149) (fun j9 h8 => (z_ne a152 (F125 j9 h8) rfl))
            have a154 : f1 ev = some (.inl (cy 0, 8, .inl gv)) := k4 _ _ x_ev (z_ne x_ev x_fa rfl)
            have a155 : f8 ev = some (.inl (cy 0, 8, .inl gv)) := k10 _ _ a154 
            have a156 : f78 ev = some (.inl (cy 0, 8, .inl gv)) := k80 _ _ a155 
            have a157 : f84 ev = some (.inl (cy 0, 8, .inl gv)) := (k86 _ (z_nn u83 a156)).trans a156
            have a158 : f90 ev = some (.inl (cy 0, 8, .inl gv)) := k96 _ _ a157 
            have a159 : f98 ev = some (.inl (cy 0, 8, .inl gv)) := k101 _ _ a158 (z_nn u83 a156)
            have a160 : f132 ev = some (.inl (cy 0, 8, .inl gv)) := k144 _ _ a159 (z_ne a159 a106 rfl) (z_ne a159 a112 rfl) (z_ne a159 a118 rfl) (z_nn u83 a156) (fun j9 h8 => (z_ne a159 (F125 j9 h8) rfl))
            have a161 : f90 nu = some (.inl (cy 0, 12, .inl gu)) := k96 _ _ a89 
            have a162 : f98 nu = some (.inl (cy 0, 12, .inl gu)) := k101 _ _ a161 (z_nn u83 a88)
            have a163 : f132 nu = some (.inl (cy 0, 12, .inl gu)) := k144 _ _ a162 (z_ne a162 a106 rfl) (z_ne a162 a112 rfl) (z_ne a162 a118 rfl) (z_nn u83 a88) (fun j9 h8 => (z_ne a162 (F125 j9 h8) rfl))
            have a164 : f1 fm = some (.inl (cy 4, 6, .inr (.inr (.inr (.inr gf))))) := k4 _ _ x_fm (z_ne x_fm x_fa rfl)
            have a165 : f8 fm = some (.inl (cy 4, 6, .inr (.inr (.inr (.inr gf))))) := k10 _ _ a164 
            have a166 : f78 fm = some (.inl (cy 4, 6, .inr (.inr (.inr (.inr gf))))) := k80 _ _ a165 
            have a167 : f84 fm = some (.inl (cy 4, 6, .inr (.inr (.inr (.inr gf))))) := (k86 _ (z_nn u83 a166)).trans a166
            have a168 : f90 fm = some (.inl (cy 4, 6, .inr (.inr (.inr (.inr gf))))) := k96 _ _ a167 
            have a169 : f98 fm = some (.inl (cy 4, 6, .inr (.inr (.inr (.inr gf))))) := k101 _ _ a168 (z_nn u83 a166)
            have a170 : f132 fm = some (.inl (cy 4, 6, .inr (.inr (.inr (.inr gf))))) := k144 _ _ a169 (z_ne a169 a106 rfl) (z_ne a169 a112 rfl) (z_ne a169 a118 rfl) (z_nn u83 a166) (fun j9 h8 => (z_ne a169 (F125 j9 h8) rfl))
            have a171 : f1 co = some (.inl (cy 5, 60, .inr (.inr (.inr (.inr gc))))) := k4 _ _ x_co (z_ne x_co x_fa rfl)
            have a172 : f8 co = some (.inl (cy 5, 60, .inr (.inr (.inr (.inr gc))))) := k10 _ _ a171 
            have a173 : f78 co = some (.inl (cy 5, 60, .inr (.inr (.inr (.inr gc))))) := k80 _ _ a172 
            have a174 : f84 co = some (.inl (cy 5, 60, .inr (.inr (.inr (.inr gc))))) := (k86 _ (z_nn u83 a173)).trans a173
            have a175 : f90 co = some (.inl (cy 5, 60, .inr (.inr (.inr (.inr gc))))) := k96 _ _ a174 
            have a176 : f98 co = some (.inl (cy 5, 60, .inr (.inr (.inr (.inr gc))))) := k101 _ _ a175 (z_nn u83 a173)
            have a177 : f132 co = some (.inl (cy 5, 60, .inr (.inr (.inr (.inr gc))))) := k144 _ _ a176 (z_ne a176 a106 rfl) hca hcr (z_nn u83 a173) (fun j9 h8 => (z_ne a176 (F125 j9 h8) rfl))
            have a178 : f1 en = some (.inl (cy 6, 4, .inr (.inr (.inr (.inr ge))))) := k4 _ _ x_en (z_ne x_en x_fa rfl)
            have a179 : f8 en = some (.inl (cy 6, 4, .inr (.inr (.inr (.inr ge))))) := k10 _ _ a178 
            have a180 : f78 en = some (.inl (cy 6, 4, .inr (.inr (.inr (.inr ge))))) := k80 _ _ a179 
            have a181 : f84 en = some (.inl (cy 6, 4, .inr (.inr (.inr (.inr ge))))) := (k86 _ (z_nn u83 a180)).trans a180
            have a182 : f90 en = some (.inl (cy 6, 4, .inr (.inr (.inr (.inr ge))))) := k96 _ _ a181 
            have a183 : f98 en = some (.inl (cy 6, 4, .inr (.inr (.inr (.inr ge))))) := k101 _ _ a182 (z_nn u83 a180)
            have a184 : f132 en = some (.inl (cy 6, 4, .inr (.inr (.inr (.inr ge))))) := k144 _ _ a183 (z_ne a183 a106 rfl) (z_ne a183 a112 rfl) (z_ne a183 a118 rfl) (z_nn u83 a180) (fun j9 h8 => (z_ne a183 (F125 j9 h8) rfl))
            have a185 : f1 ke = some (.inr (6, [.ref kn, .ref vq, .int (nI ks)])) := k4 _ _ x_ke (z_ne x_ke x_fa rfl)
            have a186 : f8 ke = some (.inr (6, [.ref kn, .ref vq, .int (nI ks)])) := k10 _ _ a185 
            have a187 : f78 ke = some (.inr (6, [.ref kn, .ref vq, .int (nI ks)])) := k80 _ _ a186 
            have a188 : f84 ke = some (.inr (6, [.ref kn, .ref vq, .int (nI ks)])) := (k86 _ (z_nn u83 a187)).trans a187
            have a189 : f90 ke = some (.inr (6, [.ref kn, .ref vq, .int (nI ks)])) := k96 _ _ a188 
            have a190 : f98 ke = some (.inr (6, [.ref kn, .ref vq, .int (nI ks)])) := k101 _ _ a189 (z_nn u83 a187)
            have a191 : f132 ke = some (.inr (6, [.ref kn, .ref vq, .int (nI ks)])) := k144 _ _ a190 (z_ne a190 a106 rfl) (z_ne a190 a112 rfl) (z_ne a190 a118 rfl) (z_nn u83 a187) (fun j9 h8 => (z_ne a190 (F125 j9 h8) rfl))
            have a192 : f1 kn = some (.inl (cy 0, 40, .inl kk)) := k4 _ _ x_kn (z_ne x_kn x_fa rfl)
            have a193 : f8 kn = some (.inl (cy 0, 40, .inl kk)) := k10 _ _ a192 
            have a194 : f78 kn = some (.inl (cy 0, 40, .inl kk)) := k80 _ _ a193 
            have a195 : f84 kn = some (.inl (cy 0, 40, .inl kk)) := (k86 _ (z_nn u83 a194)).trans a194
            have a196 : f90 kn = some (.inl (cy 0, 40, .inl kk)) := k96 _ _ a195 
            have a197 : f98 kn = some (.inl (cy 0, 40, .inl kk)) := k101 _ _ a196 (z_nn u83 a194)
            have a198 : f132 kn = some (.inl (cy 0, 40, .inl kk)) := k144 _ _ a197 (z_ne a197 a106 rfl) (z_ne a197 a112 rfl) (z_ne a197 a118 rfl) (z_nn u83 a194) (fun j9 h8 => (z_ne a197 (F125 j9 h8) rfl))
            have a199 : f1 vq = some (.inl (cy 0, 40, .inl kv)) := k4 _ _ x_vq (z_ne x_vq x_fa rfl)
            have a200 : f8 vq = some (.inl (cy 0, 40, .inl kv)) := k10 _ _ a199 
            have a201 : f78 vq = some (.inl (cy 0, 40, .inl kv)) := k80 _ _ a200 
            have a202 : f84 vq = some (.inl (cy 0, 40, .inl kv)) := (k86 _ (z_nn u83 a201)).trans a201
            have a203 : f90 vq = some (.inl (cy 0, 40, .inl kv)) := k96 _ _ a202 
            have a204 : f98 vq = some (.inl (cy 0, 40, .inl kv)) := k101 _ _ a203 (z_nn u83 a201)
            have a205 : f132 vq = some (.inl (cy 0, 40, .inl kv)) := k144 _ _ a204 (z_ne a204 a106 rfl) (z_ne a204 a112 rfl) (z_ne a204 a118 rfl) (z_nn u83 a201) (fun j9 h8 => (z_ne a204 (F125 j9 h8) rfl))
            have F206 : ∀ i9 : Nat, i9 < nf → f1 (fq i9) = some (.inr (3, [.ref (fk i9), .int (nI (fz i9))])) := fun i9 h9 => k4 _ _ (hFq i9 h9) (z_ne (hFq i9 h9) x_fa rfl)
            have F207 : ∀ i9 : Nat, i9 < nf → f8 (fq i9) = some (.inr (3, [.ref (fk i9), .int (nI (fz i9))])) := fun i9 h9 => k10 _ _ (F206 i9 h9) 
            have F208 : ∀ i9 : Nat, i9 < nf → f78 (fq i9) = some (.inr (3, [.ref (fk i9), .int (nI (fz i9))])) := fun i9 h9 => k80 _ _ (F207 i9 h9) 
            have F209 : ∀ i9 : Nat, i9 < nf → f84 (fq i9) = some (.inr (3, [.ref (fk i9), .int (nI (fz i9))])) := fun i9 h9 => (k86 _ (z_nn u83 (F208 i9 h9))).trans (F208 i9 h9)
            have F210 : ∀ i9 : Nat, i9 < nf → f90 (fq i9) = some (.inr (3, [.ref (fk i9), .int (nI (fz i9))])) := fun i9 h9 => k96 _ _ (F209 i9 h9) 
            have F211 : ∀ i9 : Nat, i9 < nf → f98 (fq i9) = some (.inr (3, [.ref (fk i9), .int (nI (fz i9))])) := fun i9 h9 => k101 _ _ (F210 i9 h9) (z_nn u83 (F208 i9 h9))
            have F212 : ∀ i9 : Nat, i9 < nf → f132 (fq i9) = some (.inr (3, [.ref (fk i9), .int (nI (fz i9))])) := fun i9 h9 => k144 _ _ (F211 i9 h9) (z_ne (F211 i9 h9) a106 rfl) (z_ne (F211 i9 h9) a112 rfl) (z_ne (F211 i9 h9) a118 rfl) (z_nn u83 (F208 i9 h9)) (fun j9 h8 => (z_ne (F211 i9 h9) (F125 j9 h8) rfl))
            have F213 : ∀ i9 : Nat, i9 < nf → f1 (fk i9) = some (.inl (cy 0, 4, .inl (fc i9))) := fun i9 h9 => k4 _ _ (hFk i9 h9) (z_ne (hFk i9 h9) x_fa rfl)
            have F214 : ∀ i9 : Nat, i9 < nf → f8 (fk i9) = some (.inl (cy 0, 4, .inl (fc i9))) := fun i9 h9 => k10 _ _ (F213 i9 h9) 
            have F215 : ∀ i9 : Nat, i9 < nf → f78 (fk i9) = some (.inl (cy 0, 4, .inl (fc i9))) := fun i9 h9 => k80 _ _ (F214 i9 h9) 
            have F216 : ∀ i9 : Nat, i9 < nf → f84 (fk i9) = some (.inl (cy 0, 4, .inl (fc i9))) := fun i9 h9 => (k86 _ (z_nn u83 (F215 i9 h9))).trans (F215 i9 h9)
            have F217 : ∀ i9 : Nat, i9 < nf → f90 (fk i9) = some (.inl (cy 0, 4, .inl (fc i9))) := fun i9 h9 => k96 _ _ (F216 i9 h9) 
            have F218 : ∀ i9 : Nat, i9 < nf → f98 (fk i9) = some (.inl (cy 0, 4, .inl (fc i9))) := fun i9 h9 => k101 _ _ (F217 i9 h9) (z_nn u83 (F215 i9 h9))
            have F219 : ∀ i9 : Nat, i9 < nf → f132 (fk i9) = some (.inl (cy 0, 4, .inl (fc i9))) := fun i9 h9 => k144 _ _ (F218 i9 h9) (z_ne (F218 i9 h9) a106 rfl) (z_ne (F218 i9 h9) a112 rfl) (z_ne (F218 i9 h9) a118 rfl) (z_nn u83 (F215 i9 h9)) (fun j9 h8 => (z_ne (F218 i9 h9) (F125 j9 h8) rfl))
            have F220 : ∀ i9 : Nat, i9 < nc → f1 (cn i9) = some (.inr (0, [.int (ce i9), .int (cm i9)])) := fun i9 h9 => k4 _ _ (hCn i9 h9) (z_ne (hCn i9 h9) x_fa rfl)
            have F221 : ∀ i9 : Nat, i9 < nc → f8 (cn i9) = some (.inr (0, [.int (ce i9), .int (cm i9)])) := fun i9 h9 => k10 _ _ (F220 i9 h9) 
            have F222 : ∀ i9 : Nat, i9 < nc → f78 (cn i9) = some (.inr (0, [.int (ce i9), .int (cm i9)])) := fun i9 h9 => k80 _ _ (F221 i9 h9) 
            have F223 : ∀ i9 : Nat, i9 < nc → f84 (cn i9) = some (.inr (0, [.int (ce i9), .int (cm i9)])) := fun i9 h9 => (k86 _ (z_nn u83 (F222 i9 h9))).trans (F222 i9 h9)
            have F224 : ∀ i9 : Nat, i9 < nc → f90 (cn i9) = some (.inr (0, [.int (ce i9), .int (cm i9)])) := fun i9 h9 => k96 _ _ (F223 i9 h9) 
            have F225 : ∀ i9 : Nat, i9 < nc → f98 (cn i9) = some (.inr (0, [.int (ce i9), .int (cm i9)])) := fun i9 h9 => k101 _ _ (F224 i9 h9) (z_nn u83 (F222 i9 h9))
            have F226 : ∀ i9 : Nat, i9 < nc → f132 (cn i9) = some (.inr (0, [.int (ce i9), .int (cm i9)])) := fun i9 h9 => k144 _ _ (F225 i9 h9) (z_ne (F225 i9 h9) a106 rfl) (z_ne (F225 i9 h9) a112 rfl) (z_ne (F225 i9 h9) a118 rfl) (z_nn u83 (F222 i9 h9)) (fun j9 h8 => (z_ne (F225 i9 h9) (F125 j9 h8) rfl))
            have F227 : ∀ i9 : Nat, i9 < 4 → f1 (ea i9) = some (.inr (1, [.ref (ma i9), .int (nI (sq i9))])) := fun i9 h9 => k4 _ _ (hEa i9 h9) (z_ne (hEa i9 h9) x_fa rfl)
            have F228 : ∀ i9 : Nat, i9 < 4 → f8 (ea i9) = some (.inr (1, [.ref (ma i9), .int (nI (sq i9))])) := fun i9 h9 => k10 _ _ (F227 i9 h9) 
            have F229 : ∀ i9 : Nat, i9 < 4 → f78 (ea i9) = some (.inr (1, [.ref (ma i9), .int (nI (sq i9))])) := fun i9 h9 => k80 _ _ (F228 i9 h9) 
            have F230 : ∀ i9 : Nat, i9 < 4 → f84 (ea i9) = some (.inr (1, [.ref (ma i9), .int (nI (sq i9))])) := fun i9 h9 => (k86 _ (z_nn u83 (F229 i9 h9))).trans (F229 i9 h9)
            have F231 : ∀ i9 : Nat, i9 < 4 → f90 (ea i9) = some (.inr (1, [.ref (ma i9), .int (nI (sq i9))])) := fun i9 h9 => k96 _ _ (F230 i9 h9) 
            have F232 : ∀ i9 : Nat, i9 < 4 → f98 (ea i9) = some (.inr (1, [.ref (ma i9), .int (nI (sq i9))])) := fun i9 h9 => k101 _ _ (F231 i9 h9) (z_nn u83 (F229 i9 h9))
            have F233 : ∀ i9 : Nat, i9 < 4 → f132 (ea i9) = some (.inr (1, [.ref (ma i9), .int (nI (sq i9))])) := fun i9 h9 => k144 _ _ (F232 i9 h9) (z_ne (F232 i9 h9) a106 rfl) (z_ne (F232 i9 h9) a112 rfl) (z_ne (F232 i9 h9) a118 rfl) (z_nn u83 (F229 i9 h9)) (fun j9 h8 => (z_ne (F232 i9 h9) (F125 j9 h8) rfl))
            have F234 : ∀ i9 : Nat, i9 < 4 → f1 (ma i9) = some (.inl (cy 0, 60, .inl (mb i9))) := fun i9 h9 => k4 _ _ (hMa i9 h9) (z_ne (hMa i9 h9) x_fa rfl)
            have F235 : ∀ i9 : Nat, i9 < 4 → f8 (ma i9) = some (.inl (cy 0, 60, .inl (mb i9))) := fun i9 h9 => k10 _ _ (F234 i9 h9) 
            have F236 : ∀ i9 : Nat, i9 < 4 → f78 (ma i9) = some (.inl (cy 0, 60, .inl (mb i9))) := fun i9 h9 => k80 _ _ (F235 i9 h9) 
            have F237 : ∀ i9 : Nat, i9 < 4 → f84 (ma i9) = some (.inl (cy 0, 60, .inl (mb i9))) := fun i9 h9 => (k86 _ (z_nn u83 (F236 i9 h9))).trans (F236 i9 h9)
            have F238 : ∀ i9 : Nat, i9 < 4 → f90 (ma i9) = some (.inl (cy 0, 60, .inl (mb i9))) := fun i9 h9 => k96 _ _ (F237 i9 h9) 
            have F239 : ∀ i9 : Nat, i9 < 4 → f98 (ma i9) = some (.inl (cy 0, 60, .inl (mb i9))) := fun i9 h9 => k101 _ _ (F238 i9 h9) (z_nn u83 (F236 i9 h9))
            have F240 : ∀ i9 : Nat, i9 < 4 → f132 (ma i9) = some (.inl (cy 0, 60, .inl (mb i9))) := fun i9 h9 => k144 _ _ (F239 i9 h9) (z_ne (F239 i9 h9) a106 rfl) (z_ne (F239 i9 h9) a112 rfl) (z_ne (F239 i9 h9) a118 rfl) (z_nn u83 (F236 i9 h9)) (fun j9 h8 => (z_ne (F239 i9 h9) (F125 j9 h8) rfl))
            exact z_iret C hr rfl hz hS ⟨0, (-1), 0, gv, nl, gu, (nn + 1), (va_up ga nn (some q82)), gr_136, (va_up fg nn q82), (va_up pt nn pa_92), (va_up kd nn 5), (va_up ln nn (3 + t)), (va_up pp nn gp_93), (va_up wg nn ((if y < 0 then 0 else if nI nl ≤ y then 0 else gu y.toNatClampNeg).toInt64)), (va_up wd nn 0), (va_up hs nn hq_134), (va_up bf_137 nn bq_135), nf, gf, fq, fk, fz, fc, nc, gc, cn, ce, cm, sq, mb, ks, kk, kv, lk, (by simp [h60, c5, c11, c12, c13, c74]), rfl, (by rw [if_pos (nI_pos' (by omega))]), ⟨a147, a153, a160, a139, a140, a141, a163, a170, a177, a184, a191, a198, a205, F142, F143, F212, F219, F226, F233, F240, (by omega), hl12, hf6, hc60, hs40, (z_ga1 hga), (z_gr1 p138), (z_up1 (P := fun _ a9 => a9 ≤ 15) hln (by omega)), (z_up2 (P := fun (a9 : Int32) (b9 : Nat) => a9 = 5 → 3 ≤ b9) hk5 (fun _ => by omega)), (z_up2 (P := fun (a9 : Int32) (b9 : Nat) => a9 = 4 → 2 ≤ b9) hk4 (fun h9 => absurd h9 (by decide))), (z_inj1 hfi (fun j9 h9 => z_nn u83 (F122 j9 h9))), (z_inj1 hpi (fun j9 h9 => z_nn p94 (F129 j9 h9))), har, hgf, hfz, hgc, hG, hsq, hei, hmi, kne, hca, hcr, hlk⟩⟩ (Nat.le_of_ble_eq_true rfl) (Nat.le_of_ble_eq_true rfl) dX7_row_92
          · refine lv_aload_n hx hb dX7_row_52 rfl (lv_at hl 0 rfl) ?_
            have a241 : f8 o = some (.inr (7, [.ref fa, .ref fi, .ref nu, .int (nI nl), .ref fm, .int (nI nf), .ref co, .int (nI nc), .ref en, .ref ke, .long lk])) := k10 _ _ a6 
            refine z_get (v := .ref fa) C hz a241 zl7 mFX7_10 (by decide) rfl dX7_row_53 ?_
            refine lv_iconst (v := 2) hx hb dX7_row_56 (by decide) ?_
            refine lv_iconst (v := 1) hx hb dX7_row_57 (by decide) ?_
            have a242 : f8 fa = some (.inr (2, [.int 0, .int (-1), .int 0, .ref ev])) := k10 _ _ a3 
            have a243 : f1 ev = some (.inl (cy 0, 8, .inl gv)) := k4 _ _ x_ev (z_ne x_ev x_fa rfl)
            have a244 : f8 ev = some (.inl (cy 0, 8, .inl gv)) := k10 _ _ a243 
            refine z_callVi (As := [.int 2, .int 1]) C hz hS hA hl (k_X2_inPart l D cy f8 fa 2 1 0 (-1) 0 ev gv 2 a242 a244 (by decide) (Nat.le_of_ble_eq_true rfl)) zyX2_inPart mMX7_104 a242 zl2 rfl rfl (Nat.le_of_ble_eq_true rfl) ⟨Nat.le_of_ble_eq_true rfl, Nat.le_of_ble_eq_true rfl⟩ ⟨Nat.le_of_ble_eq_true rfl, Nat.le_of_ble_eq_true rfl⟩ dX7_row_58 (fun r f245 H locs h246 hz hS => ?_)
            obtain ⟨rfl, a247, a248, k249⟩ := h246
            have a250 : f245 o = some (.inr (7, [.ref fa, .ref fi, .ref nu, .int (nI nl), .ref fm, .int (nI nf), .ref co, .int (nI nc), .ref en, .ref ke, .long lk])) := k249 _ _ a241 (z_ne a241 a242 rfl) (z_ne a241 a244 rfl)
            have a251 : f8 fi = some (.inr (5, [.ref al, .ref ra, .int (nI nn)])) := k10 _ _ a7 
            have a252 : f245 fi = some (.inr (5, [.ref al, .ref ra, .int (nI nn)])) := k249 _ _ a251 (z_ne a251 a242 rfl) (z_ne a251 a244 rfl)
            have a253 : f1 al = some (.inl (cy 3, 60, .inr (.inr (.inr (.inr ga))))) := k4 _ _ x_al (z_ne x_al x_fa rfl)
            have a254 : f8 al = some (.inl (cy 3, 60, .inr (.inr (.inr (.inr ga))))) := k10 _ _ a253 
            have a255 : f245 al = some (.inl (cy 3, 60, .inr (.inr (.inr (.inr ga))))) := k249 _ _ a254 (z_ne a254 a242 rfl) (z_ne a254 a244 rfl)
            have a256 : f1 ra = some (.inl (cy 3, 60, .inr (.inr (.inr (.inr gr))))) := k4 _ _ x_ra (z_ne x_ra x_fa rfl)
            have a257 : f8 ra = some (.inl (cy 3, 60, .inr (.inr (.inr (.inr gr))))) := k10 _ _ a256 
            have a258 : f245 ra = some (.inl (cy 3, 60, .inr (.inr (.inr (.inr gr))))) := k249 _ _ a257 (z_ne a257 a242 rfl) (z_ne a257 a244 rfl)
            have a259 : f1 nu = some (.inl (cy 0, 12, .inl gu)) := k4 _ _ x_nu (z_ne x_nu x_fa rfl)
            have a260 : f8 nu = some (.inl (cy 0, 12, .inl gu)) := k10 _ _ a259 
            have a261 : f245 nu = some (.inl (cy 0, 12, .inl gu)) := k249 _ _ a260 (z_ne a260 a242 rfl) (z_ne a260 a244 rfl)
            have a262 : f1 fm = some (.inl (cy 4, 6, .inr (.inr (.inr (.inr gf))))) := k4 _ _ x_fm (z_ne x_fm x_fa rfl)
            have a263 : f8 fm = some (.inl (cy 4, 6, .inr (.inr (.inr (.inr gf))))) := k10 _ _ a262 
            have a264 : f245 fm = some (.inl (cy 4, 6, .inr (.inr (.inr (.inr gf))))) := k249 _ _ a263 (z_ne a263 a242 rfl) (z_ne a263 a244 rfl)
            have a265 : f1 co = some (.inl (cy 5, 60, .inr (.inr (.inr (.inr gc))))) := k4 _ _ x_co (z_ne x_co x_fa rfl)
            have a266 : f8 co = some (.inl (cy 5, 60, .inr (.inr (.inr (.inr gc))))) := k10 _ _ a265 
            have a267 : f245 co = some (.inl (cy 5, 60, .inr (.inr (.inr (.inr gc))))) := k249 _ _ a266 (z_ne a266 a242 rfl) (z_ne a266 a244 rfl)
            have a268 : f1 en = some (.inl (cy 6, 4, .inr (.inr (.inr (.inr ge))))) := k4 _ _ x_en (z_ne x_en x_fa rfl)
            have a269 : f8 en = some (.inl (cy 6, 4, .inr (.inr (.inr (.inr ge))))) := k10 _ _ a268 
            have a270 : f245 en = some (.inl (cy 6, 4, .inr (.inr (.inr (.inr ge))))) := k249 _ _ a269 (z_ne a269 a242 rfl) (z_ne a269 a244 rfl)
            have a271 : f1 ke = some (.inr (6, [.ref kn, .ref vq, .int (nI ks)])) := k4 _ _ x_ke (z_ne x_ke x_fa rfl)
            have a272 : f8 ke = some (.inr (6, [.ref kn, .ref vq, .int (nI ks)])) := k10 _ _ a271 
            have a273 : f245 ke = some (.inr (6, [.ref kn, .ref vq, .int (nI ks)])) := k249 _ _ a272 (z_ne a272 a242 rfl) (z_ne a272 a244 rfl)
            have a274 : f1 kn = some (.inl (cy 0, 40, .inl kk)) := k4 _ _ x_kn (z_ne x_kn x_fa rfl)
            have a275 : f8 kn = some (.inl (cy 0, 40, .inl kk)) := k10 _ _ a274 
            have a276 : f245 kn = some (.inl (cy 0, 40, .inl kk)) := k249 _ _ a275 (z_ne a275 a242 rfl) (z_ne a275 a244 rfl)
            have a277 : f1 vq = some (.inl (cy 0, 40, .inl kv)) := k4 _ _ x_vq (z_ne x_vq x_fa rfl)
            have a278 : f8 vq = some (.inl (cy 0, 40, .inl kv)) := k10 _ _ a277 
            have a279 : f245 vq = some (.inl (cy 0, 40, .inl kv)) := k249 _ _ a278 (z_ne a278 a242 rfl) (z_ne a278 a244 rfl)
            have F280 : ∀ i9 : Nat, i9 < nn → f1 (fg i9) = some (.inr (4, [.int (kd i9), .ref (pt i9), .long (wg i9), .int (wd i9), .int (nI i9), .int (hs i9), .int (bf i9)])) := fun i9 h9 => k4 _ _ (hF i9 h9) (z_ne (hF i9 h9) x_fa rfl)
            have F281 : ∀ i9 : Nat, i9 < nn → f8 (fg i9) = some (.inr (4, [.int (kd i9), .ref (pt i9), .long (wg i9), .int (wd i9), .int (nI i9), .int (hs i9), .int (bf i9)])) := fun i9 h9 => k10 _ _ (F280 i9 h9) 
            have F282 : ∀ i9 : Nat, i9 < nn → f245 (fg i9) = some (.inr (4, [.int (kd i9), .ref (pt i9), .long (wg i9), .int (wd i9), .int (nI i9), .int (hs i9), .int (bf i9)])) := fun i9 h9 => k249 _ _ (F281 i9 h9) (z_ne (F281 i9 h9) a242 rfl) (z_ne (F281 i9 h9) a244 rfl)
            have F283 : ∀ i9 : Nat, i9 < nn → f1 (pt i9) = some (.inl (cy 1, (ln i9), .inr (.inl (pp i9)))) := fun i9 h9 => k4 _ _ (hP i9 h9) (z_neO (hP i9 h9) x_fa rfl)
            have F284 : ∀ i9 : Nat, i9 < nn → f8 (pt i9) = some (.inl (cy 1, (ln i9), .inr (.inl (pp i9)))) := fun i9 h9 => k10 _ _ (F283 i9 h9) 
            have F285 : ∀ i9 : Nat, i9 < nn → f245 (pt i9) = some (.inl (cy 1, (ln i9), .inr (.inl (pp i9)))) := fun i9 h9 => k249 _ _ (F284 i9 h9) (z_neO (F284 i9 h9) a242 rfl) (z_neA (F284 i9 h9) a244 rfl)
            have F286 : ∀ i9 : Nat, i9 < nf → f1 (fq i9) = some (.inr (3, [.ref (fk i9), .int (nI (fz i9))])) := fun i9 h9 => k4 _ _ (hFq i9 h9) (z_ne (hFq i9 h9) x_fa rfl)
            have F287 : ∀ i9 : Nat, i9 < nf → f8 (fq i9) = some (.inr (3, [.ref (fk i9), .int (nI (fz i9))])) := fun i9 h9 => k10 _ _ (F286 i9 h9) 
            have F288 : ∀ i9 : Nat, i9 < nf → f245 (fq i9) = some (.inr (3, [.ref (fk i9), .int (nI (fz i9))])) := fun i9 h9 => k249 _ _ (F287 i9 h9) (z_ne (F287 i9 h9) a242 rfl) (z_ne (F287 i9 h9) a244 rfl)
            have F289 : ∀ i9 : Nat, i9 < nf → f1 (fk i9) = some (.inl (cy 0, 4, .inl (fc i9))) := fun i9 h9 => k4 _ _ (hFk i9 h9) (z_ne (hFk i9 h9) x_fa rfl)
            have F290 : ∀ i9 : Nat, i9 < nf → f8 (fk i9) = some (.inl (cy 0, 4, .inl (fc i9))) := fun i9 h9 => k10 _ _ (F289 i9 h9) 
            have F291 : ∀ i9 : Nat, i9 < nf → f245 (fk i9) = some (.inl (cy 0, 4, .inl (fc i9))) := fun i9 h9 => k249 _ _ (F290 i9 h9) (z_ne (F290 i9 h9) a242 rfl) (z_ne (F290 i9 h9) a244 rfl)
            have F292 : ∀ i9 : Nat, i9 < nc → f1 (cn i9) = some (.inr (0, [.int (ce i9), .int (cm i9)])) := fun i9 h9 => k4 _ _ (hCn i9 h9) (z_ne (hCn i9 h9) x_fa rfl)
            have F293 : ∀ i9 : Nat, i9 < nc → f8 (cn i9) = some (.inr (0, [.int (ce i9), .int (cm i9)])) := fun i9 h9 => k10 _ _ (F292 i9 h9) 
            have F294 : ∀ i9 : Nat, i9 < nc → f245 (cn i9) = some (.inr (0, [.int (ce i9), .int (cm i9)])) := fun i9 h9 => k249 _ _ (F293 i9 h9) (z_ne (F293 i9 h9) a242 rfl) (z_ne (F293 i9 h9) a244 rfl)
            have F295 : ∀ i9 : Nat, i9 < 4 → f1 (ea i9) = some (.inr (1, [.ref (ma i9), .int (nI (sq i9))])) := fun i9 h9 => k4 _ _ (hEa i9 h9) (z_ne (hEa i9 h9) x_fa rfl)
            have F296 : ∀ i9 : Nat, i9 < 4 → f8 (ea i9) = some (.inr (1, [.ref (ma i9), .int (nI (sq i9))])) := fun i9 h9 => k10 _ _ (F295 i9 h9) 
            have F297 : ∀ i9 : Nat, i9 < 4 → f245 (ea i9) = some (.inr (1, [.ref (ma i9), .int (nI (sq i9))])) := fun i9 h9 => k249 _ _ (F296 i9 h9) (z_ne (F296 i9 h9) a242 rfl) (z_ne (F296 i9 h9) a244 rfl)
            have F298 : ∀ i9 : Nat, i9 < 4 → f1 (ma i9) = some (.inl (cy 0, 60, .inl (mb i9))) := fun i9 h9 => k4 _ _ (hMa i9 h9) (z_ne (hMa i9 h9) x_fa rfl)
            have F299 : ∀ i9 : Nat, i9 < 4 → f8 (ma i9) = some (.inl (cy 0, 60, .inl (mb i9))) := fun i9 h9 => k10 _ _ (F298 i9 h9) 
            have F300 : ∀ i9 : Nat, i9 < 4 → f245 (ma i9) = some (.inl (cy 0, 60, .inl (mb i9))) := fun i9 h9 => k249 _ _ (F299 i9 h9) (z_ne (F299 i9 h9) a242 rfl) (z_ne (F299 i9 h9) a244 rfl)
            exact z_iret C hr rfl hz hS ⟨2, 1, 0, (upd gv 2 (gv 2 + 1)), nl, gu, nn, ga, gr, fg, pt, kd, ln, pp, wg, wd, hs, bf, nf, gf, fq, fk, fz, fc, nc, gc, cn, ce, cm, sq, mb, ks, kk, kv, lk, (by simp [h60, c5, c11, c12, c13, c74]), rfl, (by rw [if_neg (by decide)]), ⟨a250, a247, a248, a252, a255, a258, a261, a264, a267, a270, a273, a276, a279, F282, F285, F288, F291, F294, F297, F300, hn60, hl12, hf6, hc60, hs40, hga, hgr, hln, hk5, hk4, hfi, hpi, har, hgf, hfz, hgc, hG, hsq, hei, hmi, kne, hca, hcr, hlk⟩⟩ (Nat.le_of_ble_eq_true rfl) (Nat.le_of_ble_eq_true rfl) dX7_row_61
      · refine lv_aload_n hx hb dX7_row_33 rfl (lv_at hl 0 rfl) ?_
        have a301 : f8 o = some (.inr (7, [.ref fa, .ref fi, .ref nu, .int (nI nl), .ref fm, .int (nI nf), .ref co, .int (nI nc), .ref en, .ref ke, .long lk])) := k10 _ _ a6 
        refine z_get (v := .ref fa) C hz a301 zl7 mFX7_10 (by decide) rfl dX7_row_34 ?_
        refine lv_iconst (v := 5) hx hb dX7_row_37 (by decide) ?_
        refine lv_iconst (v := 0) hx hb dX7_row_38 (by decide) ?_
        have a302 : f8 fa = some (.inr (2, [.int 0, .int (-1), .int 0, .ref ev])) := k10 _ _ a3 
        have a303 : f1 ev = some (.inl (cy 0, 8, .inl gv)) := k4 _ _ x_ev (z_ne x_ev x_fa rfl)
        have a304 : f8 ev = some (.inl (cy 0, 8, .inl gv)) := k10 _ _ a303 
        refine z_callVi (As := [.int 5, .int 0]) C hz hS hA hl (k_X2_inPart l D cy f8 fa 5 0 0 (-1) 0 ev gv 5 a302 a304 (by decide) (Nat.le_of_ble_eq_true rfl)) zyX2_inPart mMX7_104 a302 zl2 rfl rfl (Nat.le_of_ble_eq_true rfl) ⟨Nat.le_of_ble_eq_true rfl, Nat.le_of_ble_eq_true rfl⟩ ⟨Nat.le_of_ble_eq_true rfl, Nat.le_of_ble_eq_true rfl⟩ dX7_row_39 (fun r f305 H locs h306 hz hS => ?_)
        obtain ⟨rfl, a307, a308, k309⟩ := h306
        have a310 : f305 o = some (.inr (7, [.ref fa, .ref fi, .ref nu, .int (nI nl), .ref fm, .int (nI nf), .ref co, .int (nI nc), .ref en, .ref ke, .long lk])) := k309 _ _ a301 (z_ne a301 a302 rfl) (z_ne a301 a304 rfl)
        have a311 : f8 fi = some (.inr (5, [.ref al, .ref ra, .int (nI nn)])) := k10 _ _ a7 
        have a312 : f305 fi = some (.inr (5, [.ref al, .ref ra, .int (nI nn)])) := k309 _ _ a311 (z_ne a311 a302 rfl) (z_ne a311 a304 rfl)
        have a313 : f1 al = some (.inl (cy 3, 60, .inr (.inr (.inr (.inr ga))))) := k4 _ _ x_al (z_ne x_al x_fa rfl)
        have a314 : f8 al = some (.inl (cy 3, 60, .inr (.inr (.inr (.inr ga))))) := k10 _ _ a313 
        have a315 : f305 al = some (.inl (cy 3, 60, .inr (.inr (.inr (.inr ga))))) := k309 _ _ a314 (z_ne a314 a302 rfl) (z_ne a314 a304 rfl)
        have a316 : f1 ra = some (.inl (cy 3, 60, .inr (.inr (.inr (.inr gr))))) := k4 _ _ x_ra (z_ne x_ra x_fa rfl)
        have a317 : f8 ra = some (.inl (cy 3, 60, .inr (.inr (.inr (.inr gr))))) := k10 _ _ a316 
        have a318 : f305 ra = some (.inl (cy 3, 60, .inr (.inr (.inr (.inr gr))))) := k309 _ _ a317 (z_ne a317 a302 rfl) (z_ne a317 a304 rfl)
        have a319 : f1 nu = some (.inl (cy 0, 12, .inl gu)) := k4 _ _ x_nu (z_ne x_nu x_fa rfl)
        have a320 : f8 nu = some (.inl (cy 0, 12, .inl gu)) := k10 _ _ a319 
        have a321 : f305 nu = some (.inl (cy 0, 12, .inl gu)) := k309 _ _ a320 (z_ne a320 a302 rfl) (z_ne a320 a304 rfl)
        have a322 : f1 fm = some (.inl (cy 4, 6, .inr (.inr (.inr (.inr gf))))) := k4 _ _ x_fm (z_ne x_fm x_fa rfl)
        have a323 : f8 fm = some (.inl (cy 4, 6, .inr (.inr (.inr (.inr gf))))) := k10 _ _ a322 
        have a324 : f305 fm = some (.inl (cy 4, 6, .inr (.inr (.inr (.inr gf))))) := k309 _ _ a323 (z_ne a323 a302 rfl) (z_ne a323 a304 rfl)
        have a325 : f1 co = some (.inl (cy 5, 60, .inr (.inr (.inr (.inr gc))))) := k4 _ _ x_co (z_ne x_co x_fa rfl)
        have a326 : f8 co = some (.inl (cy 5, 60, .inr (.inr (.inr (.inr gc))))) := k10 _ _ a325 
        have a327 : f305 co = some (.inl (cy 5, 60, .inr (.inr (.inr (.inr gc))))) := k309 _ _ a326 (z_ne a326 a302 rfl) (z_ne a326 a304 rfl)
        have a328 : f1 en = some (.inl (cy 6, 4, .inr (.inr (.inr (.inr ge))))) := k4 _ _ x_en (z_ne x_en x_fa rfl)
        have a329 : f8 en = some (.inl (cy 6, 4, .inr (.inr (.inr (.inr ge))))) := k10 _ _ a328 
        have a330 : f305 en = some (.inl (cy 6, 4, .inr (.inr (.inr (.inr ge))))) := k309 _ _ a329 (z_ne a329 a302 rfl) (z_ne a329 a304 rfl)
        have a331 : f1 ke = some (.inr (6, [.ref kn, .ref vq, .int (nI ks)])) := k4 _ _ x_ke (z_ne x_ke x_fa rfl)
        have a332 : f8 ke = some (.inr (6, [.ref kn, .ref vq, .int (nI ks)])) := k10 _ _ a331 
        have a333 : f305 ke = some (.inr (6, [.ref kn, .ref vq, .int (nI ks)])) := k309 _ _ a332 (z_ne a332 a302 rfl) (z_ne a332 a304 rfl)
        have a334 : f1 kn = some (.inl (cy 0, 40, .inl kk)) := k4 _ _ x_kn (z_ne x_kn x_fa rfl)
        have a335 : f8 kn = some (.inl (cy 0, 40, .inl kk)) := k10 _ _ a334 
        have a336 : f305 kn = some (.inl (cy 0, 40, .inl kk)) := k309 _ _ a335 (z_ne a335 a302 rfl) (z_ne a335 a304 rfl)
        have a337 : f1 vq = some (.inl (cy 0, 40, .inl kv)) := k4 _ _ x_vq (z_ne x_vq x_fa rfl)
        have a338 : f8 vq = some (.inl (cy 0, 40, .inl kv)) := k10 _ _ a337 
        have a339 : f305 vq = some (.inl (cy 0, 40, .inl kv)) := k309 _ _ a338 (z_ne a338 a302 rfl) (z_ne a338 a304 rfl)
        have F340 : ∀ i9 : Nat, i9 < nn → f1 (fg i9) = some (.inr (4, [.int (kd i9), .ref (pt i9), .long (wg i9), .int (wd i9), .int (nI i9), .int (hs i9), .int (bf i9)])) := fun i9 h9 => k4 _ _ (hF i9 h9) (z_ne (hF i9 h9) x_fa rfl)
        have F341 : ∀ i9 : Nat, i9 < nn → f8 (fg i9) = some (.inr (4, [.int (kd i9), .ref (pt i9), .long (wg i9), .int (wd i9), .int (nI i9), .int (hs i9), .int (bf i9)])) := fun i9 h9 => k10 _ _ (F340 i9 h9) 
        have F342 : ∀ i9 : Nat, i9 < nn → f305 (fg i9) = some (.inr (4, [.int (kd i9), .ref (pt i9), .long (wg i9), .int (wd i9), .int (nI i9), .int (hs i9), .int (bf i9)])) := fun i9 h9 => k309 _ _ (F341 i9 h9) (z_ne (F341 i9 h9) a302 rfl) (z_ne (F341 i9 h9) a304 rfl)
        have F343 : ∀ i9 : Nat, i9 < nn → f1 (pt i9) = some (.inl (cy 1, (ln i9), .inr (.inl (pp i9)))) := fun i9 h9 => k4 _ _ (hP i9 h9) (z_neO (hP i9 h9) x_fa rfl)
        have F344 : ∀ i9 : Nat, i9 < nn → f8 (pt i9) = some (.inl (cy 1, (ln i9), .inr (.inl (pp i9)))) := fun i9 h9 => k10 _ _ (F343 i9 h9) 
        have F345 : ∀ i9 : Nat, i9 < nn → f305 (pt i9) = some (.inl (cy 1, (ln i9), .inr (.inl (pp i9)))) := fun i9 h9 => k309 _ _ (F344 i9 h9) (z_neO (F344 i9 h9) a302 rfl) (z_neA (F344 i9 h9) a304 rfl)
        have F346 : ∀ i9 : Nat, i9 < nf → f1 (fq i9) = some (.inr (3, [.ref (fk i9), .int (nI (fz i9))])) := fun i9 h9 => k4 _ _ (hFq i9 h9) (z_ne (hFq i9 h9) x_fa rfl)
        have F347 : ∀ i9 : Nat, i9 < nf → f8 (fq i9) = some (.inr (3, [.ref (fk i9), .int (nI (fz i9))])) := fun i9 h9 => k10 _ _ (F346 i9 h9) 
        have F348 : ∀ i9 : Nat, i9 < nf → f305 (fq i9) = some (.inr (3, [.ref (fk i9), .int (nI (fz i9))])) := fun i9 h9 => k309 _ _ (F347 i9 h9) (z_ne (F347 i9 h9) a302 rfl) (z_ne (F347 i9 h9) a304 rfl)
        have F349 : ∀ i9 : Nat, i9 < nf → f1 (fk i9) = some (.inl (cy 0, 4, .inl (fc i9))) := fun i9 h9 => k4 _ _ (hFk i9 h9) (z_ne (hFk i9 h9) x_fa rfl)
        have F350 : ∀ i9 : Nat, i9 < nf → f8 (fk i9) = some (.inl (cy 0, 4, .inl (fc i9))) := fun i9 h9 => k10 _ _ (F349 i9 h9) 
        have F351 : ∀ i9 : Nat, i9 < nf → f305 (fk i9) = some (.inl (cy 0, 4, .inl (fc i9))) := fun i9 h9 => k309 _ _ (F350 i9 h9) (z_ne (F350 i9 h9) a302 rfl) (z_ne (F350 i9 h9) a304 rfl)
        have F352 : ∀ i9 : Nat, i9 < nc → f1 (cn i9) = some (.inr (0, [.int (ce i9), .int (cm i9)])) := fun i9 h9 => k4 _ _ (hCn i9 h9) (z_ne (hCn i9 h9) x_fa rfl)
        have F353 : ∀ i9 : Nat, i9 < nc → f8 (cn i9) = some (.inr (0, [.int (ce i9), .int (cm i9)])) := fun i9 h9 => k10 _ _ (F352 i9 h9) 
        have F354 : ∀ i9 : Nat, i9 < nc → f305 (cn i9) = some (.inr (0, [.int (ce i9), .int (cm i9)])) := fun i9 h9 => k309 _ _ (F353 i9 h9) (z_ne (F353 i9 h9) a302 rfl) (z_ne (F353 i9 h9) a304 rfl)
        have F355 : ∀ i9 : Nat, i9 < 4 → f1 (ea i9) = some (.inr (1, [.ref (ma i9), .int (nI (sq i9))])) := fun i9 h9 => k4 _ _ (hEa i9 h9) (z_ne (hEa i9 h9) x_fa rfl)
        have F356 : ∀ i9 : Nat, i9 < 4 → f8 (ea i9) = some (.inr (1, [.ref (ma i9), .int (nI (sq i9))])) := fun i9 h9 => k10 _ _ (F355 i9 h9) 
        have F357 : ∀ i9 : Nat, i9 < 4 → f305 (ea i9) = some (.inr (1, [.ref (ma i9), .int (nI (sq i9))])) := fun i9 h9 => k309 _ _ (F356 i9 h9) (z_ne (F356 i9 h9) a302 rfl) (z_ne (F356 i9 h9) a304 rfl)
        have F358 : ∀ i9 : Nat, i9 < 4 → f1 (ma i9) = some (.inl (cy 0, 60, .inl (mb i9))) := fun i9 h9 => k4 _ _ (hMa i9 h9) (z_ne (hMa i9 h9) x_fa rfl)
        have F359 : ∀ i9 : Nat, i9 < 4 → f8 (ma i9) = some (.inl (cy 0, 60, .inl (mb i9))) := fun i9 h9 => k10 _ _ (F358 i9 h9) 
        have F360 : ∀ i9 : Nat, i9 < 4 → f305 (ma i9) = some (.inl (cy 0, 60, .inl (mb i9))) := fun i9 h9 => k309 _ _ (F359 i9 h9) (z_ne (F359 i9 h9) a302 rfl) (z_ne (F359 i9 h9) a304 rfl)
        exact z_iret C hr rfl hz hS ⟨5, 0, 0, (upd gv 5 (gv 5 + 1)), nl, gu, nn, ga, gr, fg, pt, kd, ln, pp, wg, wd, hs, bf, nf, gf, fq, fk, fz, fc, nc, gc, cn, ce, cm, sq, mb, ks, kk, kv, lk, (by simp [h60, c5, c11, c12]), rfl, (by rw [if_neg (by decide)]), ⟨a310, a307, a308, a312, a315, a318, a321, a324, a327, a330, a333, a336, a339, F342, F345, F348, F351, F354, F357, F360, hn60, hl12, hf6, hc60, hs40, hga, hgr, hln, hk5, hk4, hfi, hpi, har, hgf, hfz, hgc, hG, hsq, hei, hmi, kne, hca, hcr, hlk⟩⟩ (Nat.le_of_ble_eq_true rfl) (Nat.le_of_ble_eq_true rfl) dX7_row_42
    · have a361 : f1 fi = some (.inr (5, [.ref al, .ref ra, .int (nI nn)])) := k4 _ _ x_fi (z_ne x_fi x_fa rfl)
      refine z_callVi (As := []) C hz hS hA hl (k_X5_isFull_B l D cy f1 fi al ra nn a361 hn60 h60) zyX5_isFull mMX7_79 a361 zl5 rfl rfl (Nat.le_of_ble_eq_true rfl) ⟨Nat.le_of_ble_eq_true rfl, Nat.le_of_ble_eq_true rfl⟩ ⟨Nat.le_of_ble_eq_true rfl, Nat.le_of_ble_eq_true rfl⟩ dX7_row_20 (fun r f362 H locs h363 hz hS => ?_)
      obtain ⟨rfl, k364⟩ := h363
      refine lv_if_eq (tgt := 29) hx hb dX7_row_23 (by decide) (fun c365 => ?_) (fun c365 => ?_)
      · exact absurd c365 (by decide)
      refine lv_bipush (v := (-3)) hx hb dX7_row_26 (by decide) ?_
      have a366 : f362 o = some (.inr (7, [.ref fa, .ref fi, .ref nu, .int (nI nl), .ref fm, .int (nI nf), .ref co, .int (nI nc), .ref en, .ref ke, .long lk])) := k364 _ _ a6 
      have a367 : f362 fa = some (.inr (2, [.int 0, .int (-1), .int 0, .ref ev])) := k364 _ _ a3 
      have a368 : f1 ev = some (.inl (cy 0, 8, .inl gv)) := k4 _ _ x_ev (z_ne x_ev x_fa rfl)
      have a369 : f362 ev = some (.inl (cy 0, 8, .inl gv)) := k364 _ _ a368 
      have a370 : f362 fi = some (.inr (5, [.ref al, .ref ra, .int (nI nn)])) := k364 _ _ a361 
      have a371 : f1 al = some (.inl (cy 3, 60, .inr (.inr (.inr (.inr ga))))) := k4 _ _ x_al (z_ne x_al x_fa rfl)
      have a372 : f362 al = some (.inl (cy 3, 60, .inr (.inr (.inr (.inr ga))))) := k364 _ _ a371 
      have a373 : f1 ra = some (.inl (cy 3, 60, .inr (.inr (.inr (.inr gr))))) := k4 _ _ x_ra (z_ne x_ra x_fa rfl)
      have a374 : f362 ra = some (.inl (cy 3, 60, .inr (.inr (.inr (.inr gr))))) := k364 _ _ a373 
      have a375 : f1 nu = some (.inl (cy 0, 12, .inl gu)) := k4 _ _ x_nu (z_ne x_nu x_fa rfl)
      have a376 : f362 nu = some (.inl (cy 0, 12, .inl gu)) := k364 _ _ a375 
      have a377 : f1 fm = some (.inl (cy 4, 6, .inr (.inr (.inr (.inr gf))))) := k4 _ _ x_fm (z_ne x_fm x_fa rfl)
      have a378 : f362 fm = some (.inl (cy 4, 6, .inr (.inr (.inr (.inr gf))))) := k364 _ _ a377 
      have a379 : f1 co = some (.inl (cy 5, 60, .inr (.inr (.inr (.inr gc))))) := k4 _ _ x_co (z_ne x_co x_fa rfl)
      have a380 : f362 co = some (.inl (cy 5, 60, .inr (.inr (.inr (.inr gc))))) := k364 _ _ a379 
      have a381 : f1 en = some (.inl (cy 6, 4, .inr (.inr (.inr (.inr ge))))) := k4 _ _ x_en (z_ne x_en x_fa rfl)
      have a382 : f362 en = some (.inl (cy 6, 4, .inr (.inr (.inr (.inr ge))))) := k364 _ _ a381 
      have a383 : f1 ke = some (.inr (6, [.ref kn, .ref vq, .int (nI ks)])) := k4 _ _ x_ke (z_ne x_ke x_fa rfl)
      have a384 : f362 ke = some (.inr (6, [.ref kn, .ref vq, .int (nI ks)])) := k364 _ _ a383 
      have a385 : f1 kn = some (.inl (cy 0, 40, .inl kk)) := k4 _ _ x_kn (z_ne x_kn x_fa rfl)
      have a386 : f362 kn = some (.inl (cy 0, 40, .inl kk)) := k364 _ _ a385 
      have a387 : f1 vq = some (.inl (cy 0, 40, .inl kv)) := k4 _ _ x_vq (z_ne x_vq x_fa rfl)
      have a388 : f362 vq = some (.inl (cy 0, 40, .inl kv)) := k364 _ _ a387 
      have F389 : ∀ i9 : Nat, i9 < nn → f1 (fg i9) = some (.inr (4, [.int (kd i9), .ref (pt i9), .long (wg i9), .int (wd i9), .int (nI i9), .int (hs i9), .int (bf i9)])) := fun i9 h9 => k4 _ _ (hF i9 h9) (z_ne (hF i9 h9) x_fa rfl)
      have F390 : ∀ i9 : Nat, i9 < nn → f362 (fg i9) = some (.inr (4, [.int (kd i9), .ref (pt i9), .long (wg i9), .int (wd i9), .int (nI i9), .int (hs i9), .int (bf i9)])) := fun i9 h9 => k364 _ _ (F389 i9 h9) 
      have F391 : ∀ i9 : Nat, i9 < nn → f1 (pt i9) = some (.inl (cy 1, (ln i9), .inr (.inl (pp i9)))) := fun i9 h9 => k4 _ _ (hP i9 h9) (z_neO (hP i9 h9) x_fa rfl)
      have F392 : ∀ i9 : Nat, i9 < nn → f362 (pt i9) = some (.inl (cy 1, (ln i9), .inr (.inl (pp i9)))) := fun i9 h9 => k364 _ _ (F391 i9 h9) 
      have F393 : ∀ i9 : Nat, i9 < nf → f1 (fq i9) = some (.inr (3, [.ref (fk i9), .int (nI (fz i9))])) := fun i9 h9 => k4 _ _ (hFq i9 h9) (z_ne (hFq i9 h9) x_fa rfl)
      have F394 : ∀ i9 : Nat, i9 < nf → f362 (fq i9) = some (.inr (3, [.ref (fk i9), .int (nI (fz i9))])) := fun i9 h9 => k364 _ _ (F393 i9 h9) 
      have F395 : ∀ i9 : Nat, i9 < nf → f1 (fk i9) = some (.inl (cy 0, 4, .inl (fc i9))) := fun i9 h9 => k4 _ _ (hFk i9 h9) (z_ne (hFk i9 h9) x_fa rfl)
      have F396 : ∀ i9 : Nat, i9 < nf → f362 (fk i9) = some (.inl (cy 0, 4, .inl (fc i9))) := fun i9 h9 => k364 _ _ (F395 i9 h9) 
      have F397 : ∀ i9 : Nat, i9 < nc → f1 (cn i9) = some (.inr (0, [.int (ce i9), .int (cm i9)])) := fun i9 h9 => k4 _ _ (hCn i9 h9) (z_ne (hCn i9 h9) x_fa rfl)
      have F398 : ∀ i9 : Nat, i9 < nc → f362 (cn i9) = some (.inr (0, [.int (ce i9), .int (cm i9)])) := fun i9 h9 => k364 _ _ (F397 i9 h9) 
      have F399 : ∀ i9 : Nat, i9 < 4 → f1 (ea i9) = some (.inr (1, [.ref (ma i9), .int (nI (sq i9))])) := fun i9 h9 => k4 _ _ (hEa i9 h9) (z_ne (hEa i9 h9) x_fa rfl)
      have F400 : ∀ i9 : Nat, i9 < 4 → f362 (ea i9) = some (.inr (1, [.ref (ma i9), .int (nI (sq i9))])) := fun i9 h9 => k364 _ _ (F399 i9 h9) 
      have F401 : ∀ i9 : Nat, i9 < 4 → f1 (ma i9) = some (.inl (cy 0, 60, .inl (mb i9))) := fun i9 h9 => k4 _ _ (hMa i9 h9) (z_ne (hMa i9 h9) x_fa rfl)
      have F402 : ∀ i9 : Nat, i9 < 4 → f362 (ma i9) = some (.inl (cy 0, 60, .inl (mb i9))) := fun i9 h9 => k364 _ _ (F401 i9 h9) 
      exact z_iret C hr rfl hz hS ⟨0, (-1), 0, gv, nl, gu, nn, ga, gr, fg, pt, kd, ln, pp, wg, wd, hs, bf, nf, gf, fq, fk, fz, fc, nc, gc, cn, ce, cm, sq, mb, ks, kk, kv, lk, (by simp [h60, c5, c365]), rfl, (by rw [if_neg (by decide)]), ⟨a366, a367, a369, a370, a372, a374, a376, a378, a380, a382, a384, a386, a388, F390, F392, F394, F396, F398, F400, F402, hn60, hl12, hf6, hc60, hs40, hga, hgr, hln, hk5, hk4, hfi, hpi, har, hgf, hfz, hgc, hG, hsq, hei, hmi, kne, hca, hcr, hlk⟩⟩ (Nat.le_of_ble_eq_true rfl) (Nat.le_of_ble_eq_true rfl) dX7_row_28
  · refine lv_bipush (v := (-2)) hx hb dX7_row_13 (by decide) ?_
    have a403 : f1 o = some (.inr (7, [.ref fa, .ref fi, .ref nu, .int (nI nl), .ref fm, .int (nI nf), .ref co, .int (nI nc), .ref en, .ref ke, .long lk])) := k4 _ _ x_o (z_ne x_o x_fa rfl)
    have a404 : f1 ev = some (.inl (cy 0, 8, .inl gv)) := k4 _ _ x_ev (z_ne x_ev x_fa rfl)
    have a405 : f1 fi = some (.inr (5, [.ref al, .ref ra, .int (nI nn)])) := k4 _ _ x_fi (z_ne x_fi x_fa rfl)
    have a406 : f1 al = some (.inl (cy 3, 60, .inr (.inr (.inr (.inr ga))))) := k4 _ _ x_al (z_ne x_al x_fa rfl)
    have a407 : f1 ra = some (.inl (cy 3, 60, .inr (.inr (.inr (.inr gr))))) := k4 _ _ x_ra (z_ne x_ra x_fa rfl)
    have a408 : f1 nu = some (.inl (cy 0, 12, .inl gu)) := k4 _ _ x_nu (z_ne x_nu x_fa rfl)
    have a409 : f1 fm = some (.inl (cy 4, 6, .inr (.inr (.inr (.inr gf))))) := k4 _ _ x_fm (z_ne x_fm x_fa rfl)
    have a410 : f1 co = some (.inl (cy 5, 60, .inr (.inr (.inr (.inr gc))))) := k4 _ _ x_co (z_ne x_co x_fa rfl)
    have a411 : f1 en = some (.inl (cy 6, 4, .inr (.inr (.inr (.inr ge))))) := k4 _ _ x_en (z_ne x_en x_fa rfl)
    have a412 : f1 ke = some (.inr (6, [.ref kn, .ref vq, .int (nI ks)])) := k4 _ _ x_ke (z_ne x_ke x_fa rfl)
    have a413 : f1 kn = some (.inl (cy 0, 40, .inl kk)) := k4 _ _ x_kn (z_ne x_kn x_fa rfl)
    have a414 : f1 vq = some (.inl (cy 0, 40, .inl kv)) := k4 _ _ x_vq (z_ne x_vq x_fa rfl)
    have F415 : ∀ i9 : Nat, i9 < nn → f1 (fg i9) = some (.inr (4, [.int (kd i9), .ref (pt i9), .long (wg i9), .int (wd i9), .int (nI i9), .int (hs i9), .int (bf i9)])) := fun i9 h9 => k4 _ _ (hF i9 h9) (z_ne (hF i9 h9) x_fa rfl)
    have F416 : ∀ i9 : Nat, i9 < nn → f1 (pt i9) = some (.inl (cy 1, (ln i9), .inr (.inl (pp i9)))) := fun i9 h9 => k4 _ _ (hP i9 h9) (z_neO (hP i9 h9) x_fa rfl)
    have F417 : ∀ i9 : Nat, i9 < nf → f1 (fq i9) = some (.inr (3, [.ref (fk i9), .int (nI (fz i9))])) := fun i9 h9 => k4 _ _ (hFq i9 h9) (z_ne (hFq i9 h9) x_fa rfl)
    have F418 : ∀ i9 : Nat, i9 < nf → f1 (fk i9) = some (.inl (cy 0, 4, .inl (fc i9))) := fun i9 h9 => k4 _ _ (hFk i9 h9) (z_ne (hFk i9 h9) x_fa rfl)
    have F419 : ∀ i9 : Nat, i9 < nc → f1 (cn i9) = some (.inr (0, [.int (ce i9), .int (cm i9)])) := fun i9 h9 => k4 _ _ (hCn i9 h9) (z_ne (hCn i9 h9) x_fa rfl)
    have F420 : ∀ i9 : Nat, i9 < 4 → f1 (ea i9) = some (.inr (1, [.ref (ma i9), .int (nI (sq i9))])) := fun i9 h9 => k4 _ _ (hEa i9 h9) (z_ne (hEa i9 h9) x_fa rfl)
    have F421 : ∀ i9 : Nat, i9 < 4 → f1 (ma i9) = some (.inl (cy 0, 60, .inl (mb i9))) := fun i9 h9 => k4 _ _ (hMa i9 h9) (z_ne (hMa i9 h9) x_fa rfl)
    exact z_iret C hr rfl hz hS ⟨0, (-1), 0, gv, nl, gu, nn, ga, gr, fg, pt, kd, ln, pp, wg, wd, hs, bf, nf, gf, fq, fk, fz, fc, nc, gc, cn, ce, cm, sq, mb, ks, kk, kv, lk, (by simp [c5]), rfl, (by rw [if_neg (by decide)]), ⟨a403, a3, a404, a405, a406, a407, a408, a409, a410, a411, a412, a413, a414, F415, F416, F417, F418, F419, F420, F421, hn60, hl12, hf6, hc60, hs40, hga, hgr, hln, hk5, hk4, hfi, hpi, har, hgf, hfz, hgc, hG, hsq, hei, hmi, kne, hca, hcr, hlk⟩⟩ (Nat.le_of_ble_eq_true rfl) (Nat.le_of_ble_eq_true rfl) dX7_row_15
abbrev rmX7_shelf : Room := { frames := 6, cells := 2, slots := 20, locals := 140 }
set_option maxHeartbeats 4000000 in
set_option maxRecDepth 100000 in
theorem k_X7_shelf (l : Launch) (D : va_G) (cy : Nat → ClassId) (f : zM) (o : Nat) (fa : Nat) (fi : Nat) (nu : Nat) (fm : Nat) (co : Nat) (en : Nat) (ke : Nat) (ev : Nat) (al : Nat) (ra : Nat) (kn : Nat) (vq : Nat) (ge : Nat → Option Nat) (ea : Nat → Nat) (ma : Nat → Nat) (u1 : Int32) (u2 : Int32) (u3 : Int32) (gv : Nat → Int32) (nl : Nat) (gu : Nat → Int32) (nn : Nat) (ga : Nat → Option Nat) (gr : Nat → Option Nat) (fg : Nat → Nat) (pt : Nat → Nat) (kd : Nat → Int32) (ln : Nat → Nat) (pp : Nat → Nat → Int64) (wg : Nat → Int64) (wd : Nat → Int32) (hs : Nat → Int32) (bf : Nat → Int32) (nf : Nat) (gf : Nat → Option Nat) (fq : Nat → Nat) (fk : Nat → Nat) (fz : Nat → Nat) (fc : Nat → Nat → Int32) (nc : Nat) (gc : Nat → Option Nat) (cn : Nat → Nat) (ce : Nat → Int32) (cm : Nat → Int32) (sq : Nat → Nat) (mb : Nat → Nat → Int32) (ks : Nat) (kk : Nat → Int32) (kv : Nat → Int32) (lk : Int64) (w : Int32) (x : Int32)   (hw : w = 0 ∨ w = 1) (hI : zIX cy f o fa fi nu fm co en ke ev al ra kn vq ge ea ma u1 u2 u3 gv nl gu nn ga gr fg pt kd ln pp wg wd hs bf nf gf fq fk fz fc nc gc cn ce cm sq mb ks kk kv lk) : zCi l D cy yX7_shelf cX7_shelf 5 (Option.some Jvm.ClassFile.FieldType.int) rmX7_shelf [.ref o, .int w, .int x] f (fun (r : Int32) (f1 : zM) => ∃ (u11 : Int32) (u21 : Int32) (u31 : Int32) (gv1 : Nat → Int32) (nl1 : Nat) (gu1 : Nat → Int32) (nn1 : Nat) (ga1 : Nat → Option Nat) (gr1 : Nat → Option Nat) (fg1 : Nat → Nat) (pt1 : Nat → Nat) (kd1 : Nat → Int32) (ln1 : Nat → Nat) (pp1 : Nat → Nat → Int64) (wg1 : Nat → Int64) (wd1 : Nat → Int32) (hs1 : Nat → Int32) (bf1 : Nat → Int32) (nf1 : Nat) (gf1 : Nat → Option Nat) (fq1 : Nat → Nat) (fk1 : Nat → Nat) (fz1 : Nat → Nat) (fc1 : Nat → Nat → Int32) (nc1 : Nat) (gc1 : Nat → Option Nat) (cn1 : Nat → Nat) (ce1 : Nat → Int32) (cm1 : Nat → Int32) (sq1 : Nat → Nat) (mb1 : Nat → Nat → Int32) (ks1 : Nat) (kk1 : Nat → Int32) (kv1 : Nat → Int32) (lk1 : Int64), r = (if x ≤ 12 then (if nn < 60 then (if 0 ≤ x then nI nn else (-4)) else (-3)) else (-2)) ∧ (nl1 = nl) ∧ (nn1 = if 0 ≤ r then nn + 1 else nn) ∧ zIX cy f1 o fa fi nu fm co en ke ev al ra kn vq ge ea ma u11 u21 u31 gv1 nl1 gu1 nn1 ga1 gr1 fg1 pt1 kd1 ln1 pp1 wg1 wd1 hs1 bf1 nf1 gf1 fq1 fk1 fz1 fc1 nc1 gc1 cn1 ce1 cm1 sq1 mb1 ks1 kk1 kv1 lk1) := by
  intro sz
  refine z_body (by decide +kernel) (Nat.le_of_ble_eq_true rfl) ?_
  intro p e s m below meth c ls C hr hin hsz hz hl
  subst hsz
  have hx := C.1
  have hb := C.2.1
  have hA : ∀ q, s.heap.size ≤ q → zA f s.heap.size q := fun q h => Or.inr h
  have hS : va_S (zA f s.heap.size) s.heap s.heap [] := va_S.rf
  have hl : lv_has ls 5 [(0, .ref o), (1, .int w), (2, .int x)] := hl
  obtain ⟨x_o, x_fa, x_ev, x_fi, x_al, x_ra, x_nu, x_fm, x_co, x_en, x_ke, x_kn, x_vq, hF, hP, hFq, hFk, hCn, hEa, hMa, hn60, hl12, hf6, hc60, hs40, hga, hgr, hln, hk5, hk4, hfi, hpi, har, hgf, hfz, hgc, hG, hsq, hei, hmi, kne, hca, hcr, hlk⟩ := id hI
  refine lv_aload_n hx hb dX7_shelf_0 rfl (lv_at hl 0 rfl) ?_
  refine z_get (v := .ref fa) C hz x_o zl7 mFX7_10 (by decide) rfl dX7_shelf_1 ?_
  refine z_callVv (As := []) C hz hS hA hl (k_X2_none l D cy f fa u1 u2 u3 ev x_fa ) zyX2_none mMX7_76 x_fa zl2 rfl rfl (Nat.le_of_ble_eq_true rfl) ⟨Nat.le_of_ble_eq_true rfl, Nat.le_of_ble_eq_true rfl⟩ ⟨Nat.le_of_ble_eq_true rfl, Nat.le_of_ble_eq_true rfl⟩ dX7_shelf_4 (fun  f1 H locs h2 hz hS => ?_)
  obtain ⟨a3, k4⟩ := h2
  refine lv_iload_n hx hb dX7_shelf_7 rfl (lv_at hl 2 rfl) ?_
  refine lv_bipush (v := 12) hx hb dX7_shelf_8 (by decide) ?_
  refine lv_icmp_le (tgt := 16) hx hb dX7_shelf_10 (by decide) (fun c5 => ?_) (fun c5 => ?_)
  · refine lv_aload_n hx hb dX7_shelf_16 rfl (lv_at hl 0 rfl) ?_
    have a6 : f1 o = some (.inr (7, [.ref fa, .ref fi, .ref nu, .int (nI nl), .ref fm, .int (nI nf), .ref co, .int (nI nc), .ref en, .ref ke, .long lk])) := k4 _ _ x_o (z_ne x_o x_fa rfl)
    refine z_get (v := .ref fi) C hz a6 zl7 mFX7_19 (by decide) rfl dX7_shelf_17 ?_
    by_cases h60 : nn < 60
    · have a7 : f1 fi = some (.inr (5, [.ref al, .ref ra, .int (nI nn)])) := k4 _ _ x_fi (z_ne x_fi x_fa rfl)
      refine z_callVi (As := []) C hz hS hA hl (k_X5_isFull_A l D cy f1 fi al ra nn a7 hn60 h60) zyX5_isFull mMX7_79 a7 zl5 rfl rfl (Nat.le_of_ble_eq_true rfl) ⟨Nat.le_of_ble_eq_true rfl, Nat.le_of_ble_eq_true rfl⟩ ⟨Nat.le_of_ble_eq_true rfl, Nat.le_of_ble_eq_true rfl⟩ dX7_shelf_20 (fun r f8 H locs h9 hz hS => ?_)
      obtain ⟨rfl, k10⟩ := h9
      refine lv_if_eq (tgt := 29) hx hb dX7_shelf_23 (by decide) (fun c11 => ?_) (fun c11 => ?_)
      rotate_left
      · exact absurd c11 (by decide)
      refine lv_iload_n hx hb dX7_shelf_29 rfl (lv_at hl 2 rfl) ?_
      refine lv_if_ge (tgt := 43) hx hb dX7_shelf_30 (by decide) (fun c12 => ?_) (fun c12 => ?_)
      · obtain ⟨t, ht, hxt⟩ := z_ixn (n := 12) (by decide) c12 c5
        refine lv_iconst (v := 1) hx hb dX7_shelf_43 (by decide) ?_
        refine lv_iload_n hx hb dX7_shelf_44 rfl (lv_at hl 2 rfl) ?_
        refine lv_iadd hx hb dX7_shelf_45 ?_
        refine z_newa (atype := .long) (t0 := 1) (N' := 1 + t) (x := (.inr (.inl (fun _ => 0)))) C hz hS hA rfl mA_long rfl (fun _ => rfl) (by rw [hxt]; exact nI_add 1 t) (by omega) (by decide) (Nat.le_of_ble_eq_true rfl) (Nat.le_trans (Nat.add_le_add_left (show 1 + t ≤ 13 by omega) _) (Nat.le_of_ble_eq_true rfl)) dX7_shelf_46 (fun q13 H f15 u14 a16 k17 hz hS => ?_)
        refine W.widen (k := 1) (n := 13) (Nat.le_of_ble_eq_true rfl) (Nat.le_trans (Nat.add_le_add_left (show 1 + t ≤ 13 by omega) _) (Nat.le_of_ble_eq_true rfl)) ?_
        refine lv_astore_n (lv' := [(3, .ref q13), (0, .ref o), (1, .int w), (2, .int x)]) hx hb dX7_shelf_48 rfl hl (by decide) rfl (fun ls hl => ?_)
        refine lv_aload_n hx hb dX7_shelf_49 rfl (lv_at hl 0 rfl) ?_
        refine lv_iconst (v := 0) hx hb dX7_shelf_50 (by decide) ?_
        refine lv_iload_n hx hb dX7_shelf_51 rfl (lv_at hl 3 rfl) ?_
        refine lv_i2l (v := x.toInt64) hx hb dX7_shelf_52 rfl ?_
        refine z_last 0 C hz hS a16 (by decide) (by omega) (by omega) dX7_shelf_53 (fun H locs f18 a19 k20 hz hS => ?_)
        refine lv_iconst (v := 1) hx hb dX7_shelf_54 (by decide) ?_
        refine lv_istore (lv' := [(4, .int 1), (3, .ref q13), (0, .ref o), (1, .int w), (2, .int x)]) hx hb dX7_shelf_55 hl (by decide) rfl (fun ls hl => ?_)
        have lp21 : ∀ (n : Nat) (i : Nat) (gp : Nat → Int64) (fL22 : zM) (H : Heap) (locs : List Loc) (ls : Array Slot), (1 + t - i) < n → (i ≤ 1 + t) → fL22 q13 = some (.inl (cy 1, (1 + t), .inr (.inl gp))) → (∀ (b : Nat) (e : va_E), f18 b = some e → b ≠ q13 → fL22 b = some e) → zH D (zA f s.heap.size) fL22 H → va_S (zA f s.heap.size) s.heap H locs → lv_has ls 5 [(0, .ref o), (1, .int w), (3, .ref q13), (4, .int (nI i))] → W p l e rmX7_shelf s m ([.ref o, .int w, .int x] : List Value).toArray below meth c H locs 1 13 (MQ below (va_Qi (fun (r : Int32) (f1 : zM) => ∃ (u11 : Int32) (u21 : Int32) (u31 : Int32) (gv1 : Nat → Int32) (nl1 : Nat) (gu1 : Nat → Int32) (nn1 : Nat) (ga1 : Nat → Option Nat) (gr1 : Nat → Option Nat) (fg1 : Nat → Nat) (pt1 : Nat → Nat) (kd1 : Nat → Int32) (ln1 : Nat → Nat) (pp1 : Nat → Nat → Int64) (wg1 : Nat → Int64) (wd1 : Nat → Int32) (hs1 : Nat → Int32) (bf1 : Nat → Int32) (nf1 : Nat) (gf1 : Nat → Option Nat) (fq1 : Nat → Nat) (fk1 : Nat → Nat) (fz1 : Nat → Nat) (fc1 : Nat → Nat → Int32) (nc1 : Nat) (gc1 : Nat → Option Nat) (cn1 : Nat → Nat) (ce1 : Nat → Int32) (cm1 : Nat → Int32) (sq1 : Nat → Nat) (mb1 : Nat → Nat → Int32) (ks1 : Nat) (kk1 : Nat → Int32) (kv1 : Nat → Int32) (lk1 : Int64), r = (if x ≤ 12 then (if nn < 60 then (if 0 ≤ x then nI nn else (-4)) else (-3)) else (-2)) ∧ (nl1 = nl) ∧ (nn1 = if 0 ≤ r then nn + 1 else nn) ∧ zIX cy f1 o fa fi nu fm co en ke ev al ra kn vq ge ea ma u11 u21 u31 gv1 nl1 gu1 nn1 ga1 gr1 fg1 pt1 kd1 ln1 pp1 wg1 wd1 hs1 bf1 nf1 gf1 fq1 fk1 fz1 fc1 nc1 gc1 cn1 ce1 cm1 sq1 mb1 ks1 kk1 kv1 lk1) (zB D f s.heap.size) (zA f s.heap.size)) ([.ref o, .int w, .int x] : List Value).toArray s rmX7_shelf.cells rmX7_shelf.slots (zA f s.heap.size)) (F0 m 57 ls []) := by
          intro n
          induction n with
          | zero => intro i gp fL22 H locs ls hmz; exact absurd hmz (Nat.not_lt_zero _)
          | succ n ih =>
            intro i gp fL22 H locs ls hmz hi a24 k23 hz hS hl
            refine lv_iload hx hb dX7_shelf_57 (lv_at hl 3 rfl) ?_
            refine lv_aload_n hx hb dX7_shelf_59 rfl (lv_at hl 2 rfl) ?_
            refine z_alen (v := nI (1 + t)) 1 C hz a24 rfl rfl dX7_shelf_60 ?_
            refine lv_icmp_ge (tgt := 77) hx hb dX7_shelf_61 (by decide) (fun c25 => ?_) (fun c25 => ?_)
            · replace c25 : (1 + t ≤ i) := (nI_leI (a := 1 + t) (b := i) (by omega) (by omega)).mp c25
              refine z_new (fs := [.int 0, .null, .long 0, .int 0, .int 0, .int 0, .int 0]) C hz hS hA zl4 mLX7_83 mIa_RX4 mIn_RX4 (by decide +kernel) (Nat.le_of_ble_eq_true rfl) (Nat.le_of_ble_eq_true rfl) dX7_shelf_77 (fun q26 H f28 u27 a29 k30 hz hS => ?_)
              refine lv_dup hx hb dX7_shelf_80 rfl ?_
              refine lv_bipush (v := 6) hx hb dX7_shelf_81 (by decide) ?_
              refine lv_aload_n hx hb dX7_shelf_83 rfl (lv_at hl 2 rfl) ?_
              refine lv_lconst (v := 0) hx hb dX7_shelf_84 (by decide) ?_
              refine z_callIv (ret := none) (As := [.int 6, .ref q13, .long 0]) C hz hS hA hl (k_X4_init l D cy f28 q26 6 q13 0 a29 ) zyX4_init mMX7_89 rfl rfl (Nat.le_of_ble_eq_true rfl) ⟨Nat.le_of_ble_eq_true rfl, Nat.le_of_ble_eq_true rfl⟩ ⟨Nat.le_of_ble_eq_true rfl, Nat.le_of_ble_eq_true rfl⟩ dX7_shelf_85 (fun  f31 H locs h32 hz hS => ?_)
              obtain ⟨a33, k34⟩ := h32
              refine lv_astore (lv' := [(4, .ref q26), (0, .ref o), (1, .int w), (3, .ref q13)]) hx hb dX7_shelf_88 hl (by decide) rfl (fun ls hl => ?_)
              refine lv_aload hx hb dX7_shelf_90 (lv_at hl 0 rfl) ?_
              refine lv_iload_n hx hb dX7_shelf_92 rfl (lv_at hl 2 rfl) ?_
              refine z_putN (fs' := [.int 6, .ref q13, .long 0, .int w, .int (-1), .int 0, .int 0]) C hz hS a33 zl4 mFNX7_126 (by decide) rfl (by rcases hw with rfl | rfl <;> rfl) (by rcases hw with rfl | rfl <;> rfl) (Nat.le_of_ble_eq_true rfl) rfl dX7_shelf_93 (fun H locs f35 a36 k37 hz hS => ?_)
              refine lv_aload_n hx hb dX7_shelf_96 rfl (lv_at hl 1 rfl) ?_
              have a38 : f8 o = some (.inr (7, [.ref fa, .ref fi, .ref nu, .int (nI nl), .ref fm, .int (nI nf), .ref co, .int (nI nc), .ref en, .ref ke, .long lk])) := k10 _ _ a6 
              have a39 : f15 o = some (.inr (7, [.ref fa, .ref fi, .ref nu, .int (nI nl), .ref fm, .int (nI nf), .ref co, .int (nI nc), .ref en, .ref ke, .long lk])) := (k17 _ (z_nn u14 a38)).trans a38
              have a40 : f18 o = some (.inr (7, [.ref fa, .ref fi, .ref nu, .int (nI nl), .ref fm, .int (nI nf), .ref co, .int (nI nc), .ref en, .ref ke, .long lk])) := (k20 _ (z_nn u14 a38)).trans a39
              have a41 : fL22 o = some (.inr (7, [.ref fa, .ref fi, .ref nu, .int (nI nl), .ref fm, .int (nI nf), .ref co, .int (nI nc), .ref en, .ref ke, .long lk])) := k23 _ _ a40 (z_nn u14 a38)
              have a42 : f28 o = some (.inr (7, [.ref fa, .ref fi, .ref nu, .int (nI nl), .ref fm, .int (nI nf), .ref co, .int (nI nc), .ref en, .ref ke, .long lk])) := (k30 _ (z_nn u27 a41)).trans a41
              have a43 : f31 o = some (.inr (7, [.ref fa, .ref fi, .ref nu, .int (nI nl), .ref fm, .int (nI nf), .ref co, .int (nI nc), .ref en, .ref ke, .long lk])) := k34 _ _ a42 (z_nn u27 a41)
              have a44 : f35 o = some (.inr (7, [.ref fa, .ref fi, .ref nu, .int (nI nl), .ref fm, .int (nI nf), .ref co, .int (nI nc), .ref en, .ref ke, .long lk])) := (k37 _ (z_nn u27 a41)).trans a43
              refine z_get (v := .ref fi) C hz a44 zl7 mFX7_19 (by decide) rfl dX7_shelf_97 ?_
              refine lv_aload hx hb dX7_shelf_100 (lv_at hl 0 rfl) ?_
              have a45 : f8 fi = some (.inr (5, [.ref al, .ref ra, .int (nI nn)])) := k10 _ _ a7 
              have a46 : f15 fi = some (.inr (5, [.ref al, .ref ra, .int (nI nn)])) := (k17 _ (z_nn u14 a45)).trans a45
              have a47 : f18 fi = some (.inr (5, [.ref al, .ref ra, .int (nI nn)])) := (k20 _ (z_nn u14 a45)).trans a46
              have a48 : fL22 fi = some (.inr (5, [.ref al, .ref ra, .int (nI nn)])) := k23 _ _ a47 (z_nn u14 a45)
              have a49 : f28 fi = some (.inr (5, [.ref al, .ref ra, .int (nI nn)])) := (k30 _ (z_nn u27 a48)).trans a48
              have a50 : f31 fi = some (.inr (5, [.ref al, .ref ra, .int (nI nn)])) := k34 _ _ a49 (z_nn u27 a48)
              have a51 : f35 fi = some (.inr (5, [.ref al, .ref ra, .int (nI nn)])) := (k37 _ (z_nn u27 a48)).trans a50
              have a52 : f1 al = some (.inl (cy 3, 60, .inr (.inr (.inr (.inr ga))))) := k4 _ _ x_al (z_ne x_al x_fa rfl)
              have a53 : f8 al = some (.inl (cy 3, 60, .inr (.inr (.inr (.inr ga))))) := k10 _ _ a52 
              have a54 : f15 al = some (.inl (cy 3, 60, .inr (.inr (.inr (.inr ga))))) := (k17 _ (z_nn u14 a53)).trans a53
              have a55 : f18 al = some (.inl (cy 3, 60, .inr (.inr (.inr (.inr ga))))) := (k20 _ (z_nn u14 a53)).trans a54
              have a56 : fL22 al = some (.inl (cy 3, 60, .inr (.inr (.inr (.inr ga))))) := k23 _ _ a55 (z_nn u14 a53)
              have a57 : f28 al = some (.inl (cy 3, 60, .inr (.inr (.inr (.inr ga))))) := (k30 _ (z_nn u27 a56)).trans a56
              have a58 : f31 al = some (.inl (cy 3, 60, .inr (.inr (.inr (.inr ga))))) := k34 _ _ a57 (z_nn u27 a56)
              have a59 : f35 al = some (.inl (cy 3, 60, .inr (.inr (.inr (.inr ga))))) := (k37 _ (z_nn u27 a56)).trans a58
              have a60 : f1 ra = some (.inl (cy 3, 60, .inr (.inr (.inr (.inr gr))))) := k4 _ _ x_ra (z_ne x_ra x_fa rfl)
              have a61 : f8 ra = some (.inl (cy 3, 60, .inr (.inr (.inr (.inr gr))))) := k10 _ _ a60 
              have a62 : f15 ra = some (.inl (cy 3, 60, .inr (.inr (.inr (.inr gr))))) := (k17 _ (z_nn u14 a61)).trans a61
              have a63 : f18 ra = some (.inl (cy 3, 60, .inr (.inr (.inr (.inr gr))))) := (k20 _ (z_nn u14 a61)).trans a62
              have a64 : fL22 ra = some (.inl (cy 3, 60, .inr (.inr (.inr (.inr gr))))) := k23 _ _ a63 (z_nn u14 a61)
              have a65 : f28 ra = some (.inl (cy 3, 60, .inr (.inr (.inr (.inr gr))))) := (k30 _ (z_nn u27 a64)).trans a64
              have a66 : f31 ra = some (.inl (cy 3, 60, .inr (.inr (.inr (.inr gr))))) := k34 _ _ a65 (z_nn u27 a64)
              have a67 : f35 ra = some (.inl (cy 3, 60, .inr (.inr (.inr (.inr gr))))) := (k37 _ (z_nn u27 a64)).trans a66
              have a68 : f28 q13 = some (.inl (cy 1, (1 + t), .inr (.inl gp))) := (k30 _ (z_nn u27 a24)).trans a24
              have a69 : f31 q13 = some (.inl (cy 1, (1 + t), .inr (.inl gp))) := k34 _ _ a68 (z_nn u27 a24)
              have a70 : f35 q13 = some (.inl (cy 1, (1 + t), .inr (.inl gp))) := (k37 _ (z_nn u27 a24)).trans a69
              have F71 : ∀ i9 : Nat, i9 < nn → f1 (fg i9) = some (.inr (4, [.int (kd i9), .ref (pt i9), .long (wg i9), .int (wd i9), .int (nI i9), .int (hs i9), .int (bf i9)])) := fun i9 h9 => k4 _ _ (hF i9 h9) (z_ne (hF i9 h9) x_fa rfl)
              have F72 : ∀ i9 : Nat, i9 < nn → f8 (fg i9) = some (.inr (4, [.int (kd i9), .ref (pt i9), .long (wg i9), .int (wd i9), .int (nI i9), .int (hs i9), .int (bf i9)])) := fun i9 h9 => k10 _ _ (F71 i9 h9) 
              have F73 : ∀ i9 : Nat, i9 < nn → f15 (fg i9) = some (.inr (4, [.int (kd i9), .ref (pt i9), .long (wg i9), .int (wd i9), .int (nI i9), .int (hs i9), .int (bf i9)])) := fun i9 h9 => (k17 _ (z_nn u14 (F72 i9 h9))).trans (F72 i9 h9)
              have F74 : ∀ i9 : Nat, i9 < nn → f18 (fg i9) = some (.inr (4, [.int (kd i9), .ref (pt i9), .long (wg i9), .int (wd i9), .int (nI i9), .int (hs i9), .int (bf i9)])) := fun i9 h9 => (k20 _ (z_nn u14 (F72 i9 h9))).trans (F73 i9 h9)
              have F75 : ∀ i9 : Nat, i9 < nn → fL22 (fg i9) = some (.inr (4, [.int (kd i9), .ref (pt i9), .long (wg i9), .int (wd i9), .int (nI i9), .int (hs i9), .int (bf i9)])) := fun i9 h9 => k23 _ _ (F74 i9 h9) (z_nn u14 (F72 i9 h9))
              have F76 : ∀ i9 : Nat, i9 < nn → f28 (fg i9) = some (.inr (4, [.int (kd i9), .ref (pt i9), .long (wg i9), .int (wd i9), .int (nI i9), .int (hs i9), .int (bf i9)])) := fun i9 h9 => (k30 _ (z_nn u27 (F75 i9 h9))).trans (F75 i9 h9)
              have F77 : ∀ i9 : Nat, i9 < nn → f31 (fg i9) = some (.inr (4, [.int (kd i9), .ref (pt i9), .long (wg i9), .int (wd i9), .int (nI i9), .int (hs i9), .int (bf i9)])) := fun i9 h9 => k34 _ _ (F76 i9 h9) (z_nn u27 (F75 i9 h9))
              have F78 : ∀ i9 : Nat, i9 < nn → f35 (fg i9) = some (.inr (4, [.int (kd i9), .ref (pt i9), .long (wg i9), .int (wd i9), .int (nI i9), .int (hs i9), .int (bf i9)])) := fun i9 h9 => (k37 _ (z_nn u27 (F75 i9 h9))).trans (F77 i9 h9)
              have F79 : ∀ i9 : Nat, i9 < nn → f1 (pt i9) = some (.inl (cy 1, (ln i9), .inr (.inl (pp i9)))) := fun i9 h9 => k4 _ _ (hP i9 h9) (z_neO (hP i9 h9) x_fa rfl)
              have F80 : ∀ i9 : Nat, i9 < nn → f8 (pt i9) = some (.inl (cy 1, (ln i9), .inr (.inl (pp i9)))) := fun i9 h9 => k10 _ _ (F79 i9 h9) 
              have F81 : ∀ i9 : Nat, i9 < nn → f15 (pt i9) = some (.inl (cy 1, (ln i9), .inr (.inl (pp i9)))) := fun i9 h9 => (k17 _ (z_nn u14 (F80 i9 h9))).trans (F80 i9 h9)
              have F82 : ∀ i9 : Nat, i9 < nn → f18 (pt i9) = some (.inl (cy 1, (ln i9), .inr (.inl (pp i9)))) := fun i9 h9 => (k20 _ (z_nn u14 (F80 i9 h9))).trans (F81 i9 h9)
              have F83 : ∀ i9 : Nat, i9 < nn → fL22 (pt i9) = some (.inl (cy 1, (ln i9), .inr (.inl (pp i9)))) := fun i9 h9 => k23 _ _ (F82 i9 h9) (z_nn u14 (F80 i9 h9))
              have F84 : ∀ i9 : Nat, i9 < nn → f28 (pt i9) = some (.inl (cy 1, (ln i9), .inr (.inl (pp i9)))) := fun i9 h9 => (k30 _ (z_nn u27 (F83 i9 h9))).trans (F83 i9 h9)
              have F85 : ∀ i9 : Nat, i9 < nn → f31 (pt i9) = some (.inl (cy 1, (ln i9), .inr (.inl (pp i9)))) := fun i9 h9 => k34 _ _ (F84 i9 h9) (z_nn u27 (F83 i9 h9))
              have F86 : ∀ i9 : Nat, i9 < nn → f35 (pt i9) = some (.inl (cy 1, (ln i9), .inr (.inl (pp i9)))) := fun i9 h9 => (k37 _ (z_nn u27 (F83 i9 h9))).trans (F85 i9 h9)
              refine z_callVi (As := [.ref q26]) C hz hS hA hl (k_X5_add l D cy f35 fi al ra ga gr nn fg pt kd ln pp wg wd hs bf q26 6 q13 0 w (-1) 0 0 (1 + t) gp a51 a59 a67 a36 a70 F78 F86 h60 hga hgr hln hk5 hfi (fun j9 h9 => z_nn u27 (F75 j9 h9)) (by omega) (fun h9 => absurd h9 (by decide)) har) zyX5_add mMX7_92 a51 zl5 rfl rfl (Nat.le_of_ble_eq_true rfl) ⟨Nat.le_of_ble_eq_true rfl, Nat.le_of_ble_eq_true rfl⟩ ⟨Nat.le_of_ble_eq_true rfl, Nat.le_of_ble_eq_true rfl⟩ dX7_shelf_102 (fun r f87 H locs h88 hz hS => ?_)
              obtain ⟨hq_89, bq_90, gr_91, bf_92, rfl, p93, a94, a95, a96, F97, F98, k99⟩ := h88
              have a100 : f87 o = some (.inr (7, [.ref fa, .ref fi, .ref nu, .int (nI nl), .ref fm, .int (nI nf), .ref co, .int (nI nc), .ref en, .ref ke, .long lk])) := k99 _ _ a44 (z_ne a44 a51 rfl) (z_ne a44 a59 rfl) (z_ne a44 a67 rfl) (z_nn u27 a41) (fun j9 h8 => (z_ne a44 (F78 j9 h8) rfl))
              have a101 : f8 fa = some (.inr (2, [.int 0, .int (-1), .int 0, .ref ev])) := k10 _ _ a3 
              have a102 : f15 fa = some (.inr (2, [.int 0, .int (-1), .int 0, .ref ev])) := (k17 _ (z_nn u14 a101)).trans a101
              have a103 : f18 fa = some (.inr (2, [.int 0, .int (-1), .int 0, .ref ev])) := (k20 _ (z_nn u14 a101)).trans a102
              have a104 : fL22 fa = some (.inr (2, [.int 0, .int (-1), .int 0, .ref ev])) := k23 _ _ a103 (z_nn u14 a101)
              have a105 : f28 fa = some (.inr (2, [.int 0, .int (-1), .int 0, .ref ev])) := (k30 _ (z_nn u27 a104)).trans a104
              have a106 : f31 fa = some (.inr (2, [.int 0, .int (-1), .int 0, .ref ev])) := k34 _ _ a105 (z_nn u27 a104)
              have a107 : f35 fa = some (.inr (2, [.int 0, .int (-1), .int 0, .ref ev])) := (k37 _ (z_nn u27 a104)).trans a106
              have a108 : f87 fa = some (.inr (2, [.int 0, .int (-1), .int 0, .ref ev])) := k99 _ _ a107 (z_ne a107 a51 rfl) (z_ne a107 a59 rfl) (z_ne a107 a67 rfl) (z_nn u27 a104) (fun j9 h8 => (z_ne a107 (F78 j9 h8) rfl))
              have a109 : f1 ev = some (.inl (cy 0, 8, .inl gv)) := k4 _ _ x_ev (z_ne x_ev x_fa rfl)
              have a110 : f8 ev = some (.inl (cy 0, 8, .inl gv)) := k10 _ _ a109 
              have a111 : f15 ev = some (.inl (cy 0, 8, .inl gv)) := (k17 _ (z_nn u14 a110)).trans a110
              have a112 : f18 ev = some (.inl (cy 0, 8, .inl gv)) := (k20 _ (z_nn u14 a110)).trans a111
              have a113 : fL22 ev = some (.inl (cy 0, 8, .inl gv)) := k23 _ _ a112 (z_nn u14 a110)
              have a114 : f28 ev = some (.inl (cy 0, 8, .inl gv)) := (k30 _ (z_nn u27 a113)).trans a113
              have a115 : f31 ev = some (.inl (cy 0, 8, .inl gv)) := k34 _ _ a114 (z_nn u27 a113)
              have a116 : f35 ev = some (.inl (cy 0, 8, .inl gv)) := (k37 _ (z_nn u27 a113)).trans a115
              have a117 : f87 ev = some (.inl (cy 0, 8, .inl gv)) := k99 _ _ a116 (z_ne a116 a51 rfl) (z_ne a116 a59 rfl) (z_ne a116 a67 rfl) (z_nn u27 a113) (fun j9 h8 => (z_ne a116 (F78 j9 h8) rfl))
              have a118 : f1 nu = some (.inl (cy 0, 12, .inl gu)) := k4 _ _ x_nu (z_ne x_nu x_fa rfl)
              have a119 : f8 nu = some (.inl (cy 0, 12, .inl gu)) := k10 _ _ a118 
              have a120 : f15 nu = some (.inl (cy 0, 12, .inl gu)) := (k17 _ (z_nn u14 a119)).trans a119
              have a121 : f18 nu = some (.inl (cy 0, 12, .inl gu)) := (k20 _ (z_nn u14 a119)).trans a120
              have a122 : fL22 nu = some (.inl (cy 0, 12, .inl gu)) := k23 _ _ a121 (z_nn u14 a119)
              have a123 : f28 nu = some (.inl (cy 0, 12, .inl gu)) := (k30 _ (z_nn u27 a122)).trans a122
              have a124 : f31 nu = some (.inl (cy 0, 12, .inl gu)) := k34 _ _ a123 (z_nn u27 a122)
              have a125 : f35 nu = some (.inl (cy 0, 12, .inl gu)) := (k37 _ (z_nn u27 a122)).trans a124
              have a126 : f87 nu = some (.inl (cy 0, 12, .inl gu)) := k99 _ _ a125 (z_ne a125 a51 rfl) (z_ne a125 a59 rfl) (z_ne a125 a67 rfl) (z_nn u27 a122) (fun j9 h8 => (z_ne a125 (F78 j9 h8) rfl))
              have a127 : f1 fm = some (.inl (cy 4, 6, .inr (.inr (.inr (.inr gf))))) := k4 _ _ x_fm (z_ne x_fm x_fa rfl)
              have a128 : f8 fm = some (.inl (cy 4, 6, .inr (.inr (.inr (.inr gf))))) := k10 _ _ a127 
              have a129 : f15 fm = some (.inl (cy 4, 6, .inr (.inr (.inr (.inr gf))))) := (k17 _ (z_nn u14 a128)).trans a128
              have a130 : f18 fm = some (.inl (cy 4, 6, .inr (.inr (.inr (.inr gf))))) := (k20 _ (z_nn u14 a128)).trans a129
              have a131 : fL22 fm = some (.inl (cy 4, 6, .inr (.inr (.inr (.inr gf))))) := k23 _ _ a130 (z_nn u14 a128)
              have a132 : f28 fm = some (.inl (cy 4, 6, .inr (.inr (.inr (.inr gf))))) := (k30 _ (z_nn u27 a131)).trans a131
              have a133 : f31 fm = some (.inl (cy 4, 6, .inr (.inr (.inr (.inr gf))))) := k34 _ _ a132 (z_nn u27 a131)
              have a134 : f35 fm = some (.inl (cy 4, 6, .inr (.inr (.inr (.inr gf))))) := (k37 _ (z_nn u27 a131)).trans a133
              have a135 : f87 fm = some (.inl (cy 4, 6, .inr (.inr (.inr (.inr gf))))) := k99 _ _ a134 (z_ne a134 a51 rfl) (z_ne a134 a59 rfl) (z_ne a134 a67 rfl) (z_nn u27 a131) (fun j9 h8 => (z_ne a134 (F78 j9 h8) rfl))
              have a136 : f1 co = some (.inl (cy 5, 60, .inr (.inr (.inr (.inr gc))))) := k4 _ _ x_co (z_ne x_co x_fa rfl)
              have a137 : f8 co = some (.inl (cy 5, 60, .inr (.inr (.inr (.inr gc))))) := k10 _ _ a136 
              have a138 : f15 co = some (.inl (cy 5, 60, .inr (.inr (.inr (.inr gc))))) := (k17 _ (z_nn u14 a137)).trans a137
              have a139 : f18 co = some (.inl (cy 5, 60, .inr (.inr (.inr (.inr gc))))) := (k20 _ (z_nn u14 a137)).trans a138
              have a140 : fL22 co = some (.inl (cy 5, 60, .inr (.inr (.inr (.inr gc))))) := k23 _ _ a139 (z_nn u14 a137)
              have a141 : f28 co = some (.inl (cy 5, 60, .inr (.inr (.inr (.inr gc))))) := (k30 _ (z_nn u27 a140)).trans a140
              have a142 : f31 co = some (.inl (cy 5, 60, .inr (.inr (.inr (.inr gc))))) := k34 _ _ a141 (z_nn u27 a140)
              have a143 : f35 co = some (.inl (cy 5, 60, .inr (.inr (.inr (.inr gc))))) := (k37 _ (z_nn u27 a140)).trans a142
              have a144 : f87 co = some (.inl (cy 5, 60, .inr (.inr (.inr (.inr gc))))) := k99 _ _ a143 (z_ne a143 a51 rfl) hca hcr (z_nn u27 a140) (fun j9 h8 => (z_ne a143 (F78 j9 h8) rfl))
              have a145 : f1 en = some (.inl (cy 6, 4, .inr (.inr (.inr (.inr ge))))) := k4 _ _ x_en (z_ne x_en x_fa rfl)
              have a146 : f8 en = some (.inl (cy 6, 4, .inr (.inr (.inr (.inr ge))))) := k10 _ _ a145 
              have a147 : f15 en = some (.inl (cy 6, 4, .inr (.inr (.inr (.inr ge))))) := (k17 _ (z_nn u14 a146)).trans a146
              have a148 : f18 en = some (.inl (cy 6, 4, .inr (.inr (.inr (.inr ge))))) := (k20 _ (z_nn u14 a146)).trans a147
              have a149 : fL22 en = some (.inl (cy 6, 4, .inr (.inr (.inr (.inr ge))))) := k23 _ _ a148 (z_nn u14 a146)
              have a150 : f28 en = some (.inl (cy 6, 4, .inr (.inr (.inr (.inr ge))))) := (k30 _ (z_nn u27 a149)).trans a149
              have a151 : f31 en = some (.inl (cy 6, 4, .inr (.inr (.inr (.inr ge))))) := k34 _ _ a150 (z_nn u27 a149)
              have a152 : f35 en = some (.inl (cy 6, 4, .inr (.inr (.inr (.inr ge))))) := (k37 _ (z_nn u27 a149)).trans a151
              have a153 : f87 en = some (.inl (cy 6, 4, .inr (.inr (.inr (.inr ge))))) := k99 _ _ a152 (z_ne a152 a51 rfl) (z_ne a152 a59 rfl) (z_ne a152 a67 rfl) (z_nn u27 a149) (fun j9 h8 => (z_ne a152 (F78 j9 h8) rfl))
              have a154 : f1 ke = some (.inr (6, [.ref kn, .ref vq, .int (nI ks)])) := k4 _ _ x_ke (z_ne x_ke x_fa rfl)
              have a155 : f8 ke = some (.inr (6, [.ref kn, .ref vq, .int (nI ks)])) := k10 _ _ a154 
              have a156 : f15 ke = some (.inr (6, [.ref kn, .ref vq, .int (nI ks)])) := (k17 _ (z_nn u14 a155)).trans a155
              have a157 : f18 ke = some (.inr (6, [.ref kn, .ref vq, .int (nI ks)])) := (k20 _ (z_nn u14 a155)).trans a156
              have a158 : fL22 ke = some (.inr (6, [.ref kn, .ref vq, .int (nI ks)])) := k23 _ _ a157 (z_nn u14 a155)
              have a159 : f28 ke = some (.inr (6, [.ref kn, .ref vq, .int (nI ks)])) := (k30 _ (z_nn u27 a158)).trans a158
              have a160 : f31 ke = some (.inr (6, [.ref kn, .ref vq, .int (nI ks)])) := k34 _ _ a159 (z_nn u27 a158)
              have a161 : f35 ke = some (.inr (6, [.ref kn, .ref vq, .int (nI ks)])) := (k37 _ (z_nn u27 a158)).trans a160
              have a162 : f87 ke = some (.inr (6, [.ref kn, .ref vq, .int (nI ks)])) := k99 _ _ a161 (z_ne a161 a51 rfl) (z_ne a161 a59 rfl) (z_ne a161 a67 rfl) (z_nn u27 a158) (fun j9 h8 => (z_ne a161 (F78 j9 h8) rfl))
              have a163 : f1 kn = some (.inl (cy 0, 40, .inl kk)) := k4 _ _ x_kn (z_ne x_kn x_fa rfl)
              have a164 : f8 kn = some (.inl (cy 0, 40, .inl kk)) := k10 _ _ a163 
              have a165 : f15 kn = some (.inl (cy 0, 40, .inl kk)) := (k17 _ (z_nn u14 a164)).trans a164
              have a166 : f18 kn = some (.inl (cy 0, 40, .inl kk)) := (k20 _ (z_nn u14 a164)).trans a165
              have a167 : fL22 kn = some (.inl (cy 0, 40, .inl kk)) := k23 _ _ a166 (z_nn u14 a164)
              have a168 : f28 kn = some (.inl (cy 0, 40, .inl kk)) := (k30 _ (z_nn u27 a167)).trans a167
              have a169 : f31 kn = some (.inl (cy 0, 40, .inl kk)) := k34 _ _ a168 (z_nn u27 a167)
              have a170 : f35 kn = some (.inl (cy 0, 40, .inl kk)) := (k37 _ (z_nn u27 a167)).trans a169
              have a171 : f87 kn = some (.inl (cy 0, 40, .inl kk)) := k99 _ _ a170 (z_ne a170 a51 rfl) (z_ne a170 a59 rfl) (z_ne a170 a67 rfl) (z_nn u27 a167) (fun j9 h8 => (z_ne a170 (F78 j9 h8) rfl))
              have a172 : f1 vq = some (.inl (cy 0, 40, .inl kv)) := k4 _ _ x_vq (z_ne x_vq x_fa rfl)
              have a173 : f8 vq = some (.inl (cy 0, 40, .inl kv)) := k10 _ _ a172 
              have a174 : f15 vq = some (.inl (cy 0, 40, .inl kv)) := (k17 _ (z_nn u14 a173)).trans a173
              have a175 : f18 vq = some (.inl (cy 0, 40, .inl kv)) := (k20 _ (z_nn u14 a173)).trans a174
              have a176 : fL22 vq = some (.inl (cy 0, 40, .inl kv)) := k23 _ _ a175 (z_nn u14 a173)
              have a177 : f28 vq = some (.inl (cy 0, 40, .inl kv)) := (k30 _ (z_nn u27 a176)).trans a176
              have a178 : f31 vq = some (.inl (cy 0, 40, .inl kv)) := k34 _ _ a177 (z_nn u27 a176)
              have a179 : f35 vq = some (.inl (cy 0, 40, .inl kv)) := (k37 _ (z_nn u27 a176)).trans a178
              have a180 : f87 vq = some (.inl (cy 0, 40, .inl kv)) := k99 _ _ a179 (z_ne a179 a51 rfl) (z_ne a179 a59 rfl) (z_ne a179 a67 rfl) (z_nn u27 a176) (fun j9 h8 => (z_ne a179 (F78 j9 h8) rfl))
              have F181 : ∀ i9 : Nat, i9 < nf → f1 (fq i9) = some (.inr (3, [.ref (fk i9), .int (nI (fz i9))])) := fun i9 h9 => k4 _ _ (hFq i9 h9) (z_ne (hFq i9 h9) x_fa rfl)
              have F182 : ∀ i9 : Nat, i9 < nf → f8 (fq i9) = some (.inr (3, [.ref (fk i9), .int (nI (fz i9))])) := fun i9 h9 => k10 _ _ (F181 i9 h9) 
              have F183 : ∀ i9 : Nat, i9 < nf → f15 (fq i9) = some (.inr (3, [.ref (fk i9), .int (nI (fz i9))])) := fun i9 h9 => (k17 _ (z_nn u14 (F182 i9 h9))).trans (F182 i9 h9)
              have F184 : ∀ i9 : Nat, i9 < nf → f18 (fq i9) = some (.inr (3, [.ref (fk i9), .int (nI (fz i9))])) := fun i9 h9 => (k20 _ (z_nn u14 (F182 i9 h9))).trans (F183 i9 h9)
              have F185 : ∀ i9 : Nat, i9 < nf → fL22 (fq i9) = some (.inr (3, [.ref (fk i9), .int (nI (fz i9))])) := fun i9 h9 => k23 _ _ (F184 i9 h9) (z_nn u14 (F182 i9 h9))
              have F186 : ∀ i9 : Nat, i9 < nf → f28 (fq i9) = some (.inr (3, [.ref (fk i9), .int (nI (fz i9))])) := fun i9 h9 => (k30 _ (z_nn u27 (F185 i9 h9))).trans (F185 i9 h9)
              have F187 : ∀ i9 : Nat, i9 < nf → f31 (fq i9) = some (.inr (3, [.ref (fk i9), .int (nI (fz i9))])) := fun i9 h9 => k34 _ _ (F186 i9 h9) (z_nn u27 (F185 i9 h9))
              have F188 : ∀ i9 : Nat, i9 < nf → f35 (fq i9) = some (.inr (3, [.ref (fk i9), .int (nI (fz i9))])) := fun i9 h9 => (k37 _ (z_nn u27 (F185 i9 h9))).trans (F187 i9 h9)
              have F189 : ∀ i9 : Nat, i9 < nf → f87 (fq i9) = some (.inr (3, [.ref (fk i9), .int (nI (fz i9))])) := fun i9 h9 => k99 _ _ (F188 i9 h9) (z_ne (F188 i9 h9) a51 rfl) (z_ne (F188 i9 h9) a59 rfl) (z_ne (F188 i9 h9) a67 rfl) (z_nn u27 (F185 i9 h9)) (fun j9 h8 => (z_ne (F188 i9 h9) (F78 j9 h8) rfl))
              have F190 : ∀ i9 : Nat, i9 < nf → f1 (fk i9) = some (.inl (cy 0, 4, .inl (fc i9))) := fun i9 h9 => k4 _ _ (hFk i9 h9) (z_ne (hFk i9 h9) x_fa rfl)
              have F191 : ∀ i9 : Nat, i9 < nf → f8 (fk i9) = some (.inl (cy 0, 4, .inl (fc i9))) := fun i9 h9 => k10 _ _ (F190 i9 h9) 
              have F192 : ∀ i9 : Nat, i9 < nf → f15 (fk i9) = some (.inl (cy 0, 4, .inl (fc i9))) := fun i9 h9 => (k17 _ (z_nn u14 (F191 i9 h9))).trans (F191 i9 h9)
              have F193 : ∀ i9 : Nat, i9 < nf → f18 (fk i9) = some (.inl (cy 0, 4, .inl (fc i9))) := fun i9 h9 => (k20 _ (z_nn u14 (F191 i9 h9))).trans (F192 i9 h9)
              have F194 : ∀ i9 : Nat, i9 < nf → fL22 (fk i9) = some (.inl (cy 0, 4, .inl (fc i9))) := fun i9 h9 => k23 _ _ (F193 i9 h9) (z_nn u14 (F191 i9 h9))
              have F195 : ∀ i9 : Nat, i9 < nf → f28 (fk i9) = some (.inl (cy 0, 4, .inl (fc i9))) := fun i9 h9 => (k30 _ (z_nn u27 (F194 i9 h9))).trans (F194 i9 h9)
              have F196 : ∀ i9 : Nat, i9 < nf → f31 (fk i9) = some (.inl (cy 0, 4, .inl (fc i9))) := fun i9 h9 => k34 _ _ (F195 i9 h9) (z_nn u27 (F194 i9 h9))
              have F197 : ∀ i9 : Nat, i9 < nf → f35 (fk i9) = some (.inl (cy 0, 4, .inl (fc i9))) := fun i9 h9 => (k37 _ (z_nn u27 (F194 i9 h9))).trans (F196 i9 h9)
              have F198 : ∀ i9 : Nat, i9 < nf → f87 (fk i9) = some (.inl (cy 0, 4, .inl (fc i9))) := fun i9 h9 => k99 _ _ (F197 i9 h9) (z_ne (F197 i9 h9) a51 rfl) (z_ne (F197 i9 h9) a59 rfl) (z_ne (F197 i9 h9) a67 rfl) (z_nn u27 (F194 i9 h9)) (fun j9 h8 => (z_ne (F197 i9 h9) (F78 j9 h8) rfl))
              have F199 : ∀ i9 : Nat, i9 < nc → f1 (cn i9) = some (.inr (0, [.int (ce i9), .int (cm i9)])) := fun i9 h9 => k4 _ _ (hCn i9 h9) (z_ne (hCn i9 h9) x_fa rfl)
              have F200 : ∀ i9 : Nat, i9 < nc → f8 (cn i9) = some (.inr (0, [.int (ce i9), .int (cm i9)])) := fun i9 h9 => k10 _ _ (F199 i9 h9) 
              have F201 : ∀ i9 : Nat, i9 < nc → f15 (cn i9) = some (.inr (0, [.int (ce i9), .int (cm i9)])) := fun i9 h9 => (k17 _ (z_nn u14 (F200 i9 h9))).trans (F200 i9 h9)
              have F202 : ∀ i9 : Nat, i9 < nc → f18 (cn i9) = some (.inr (0, [.int (ce i9), .int (cm i9)])) := fun i9 h9 => (k20 _ (z_nn u14 (F200 i9 h9))).trans (F201 i9 h9)
              have F203 : ∀ i9 : Nat, i9 < nc → fL22 (cn i9) = some (.inr (0, [.int (ce i9), .int (cm i9)])) := fun i9 h9 => k23 _ _ (F202 i9 h9) (z_nn u14 (F200 i9 h9))
              have F204 : ∀ i9 : Nat, i9 < nc → f28 (cn i9) = some (.inr (0, [.int (ce i9), .int (cm i9)])) := fun i9 h9 => (k30 _ (z_nn u27 (F203 i9 h9))).trans (F203 i9 h9)
              have F205 : ∀ i9 : Nat, i9 < nc → f31 (cn i9) = some (.inr (0, [.int (ce i9), .int (cm i9)])) := fun i9 h9 => k34 _ _ (F204 i9 h9) (z_nn u27 (F203 i9 h9))
              have F206 : ∀ i9 : Nat, i9 < nc → f35 (cn i9) = some (.inr (0, [.int (ce i9), .int (cm i9)])) := fun i9 h9 => (k37 _ (z_nn u27 (F203 i9 h9))).trans (F205 i9 h9)
              have F207 : ∀ i9 : Nat, i9 < nc → f87 (cn i9) = some (.inr (0, [.int (ce i9), .int (cm i9)])) := fun i9 h9 => k99 _ _ (F206 i9 h9) (z_ne (F206 i9 h9) a51 rfl) (z_ne (F206 i9 h9) a59 rfl) (z_ne (F206 i9 h9) a67 rfl) (z_nn u27 (F203 i9 h9)) (fun j9 h8 => (z_ne (F206 i9 h9) (F78 j9 h8) rfl))
              have F208 : ∀ i9 : Nat, i9 < 4 → f1 (ea i9) = some (.inr (1, [.ref (ma i9), .int (nI (sq i9))])) := fun i9 h9 => k4 _ _ (hEa i9 h9) (z_ne (hEa i9 h9) x_fa rfl)
              have F209 : ∀ i9 : Nat, i9 < 4 → f8 (ea i9) = some (.inr (1, [.ref (ma i9), .int (nI (sq i9))])) := fun i9 h9 => k10 _ _ (F208 i9 h9) 
              have F210 : ∀ i9 : Nat, i9 < 4 → f15 (ea i9) = some (.inr (1, [.ref (ma i9), .int (nI (sq i9))])) := fun i9 h9 => (k17 _ (z_nn u14 (F209 i9 h9))).trans (F209 i9 h9)
              have F211 : ∀ i9 : Nat, i9 < 4 → f18 (ea i9) = some (.inr (1, [.ref (ma i9), .int (nI (sq i9))])) := fun i9 h9 => (k20 _ (z_nn u14 (F209 i9 h9))).trans (F210 i9 h9)
              have F212 : ∀ i9 : Nat, i9 < 4 → fL22 (ea i9) = some (.inr (1, [.ref (ma i9), .int (nI (sq i9))])) := fun i9 h9 => k23 _ _ (F211 i9 h9) (z_nn u14 (F209 i9 h9))
              have F213 : ∀ i9 : Nat, i9 < 4 → f28 (ea i9) = some (.inr (1, [.ref (ma i9), .int (nI (sq i9))])) := fun i9 h9 => (k30 _ (z_nn u27 (F212 i9 h9))).trans (F212 i9 h9)
              have F214 : ∀ i9 : Nat, i9 < 4 → f31 (ea i9) = some (.inr (1, [.ref (ma i9), .int (nI (sq i9))])) := fun i9 h9 => k34 _ _ (F213 i9 h9) (z_nn u27 (F212 i9 h9))
              have F215 : ∀ i9 : Nat, i9 < 4 → f35 (ea i9) = some (.inr (1, [.ref (ma i9), .int (nI (sq i9))])) := fun i9 h9 => (k37 _ (z_nn u27 (F212 i9 h9))).trans (F214 i9 h9)
              have F216 : ∀ i9 : Nat, i9 < 4 → f87 (ea i9) = some (.inr (1, [.ref (ma i9), .int (nI (sq i9))])) := fun i9 h9 => k99 _ _ (F215 i9 h9) (z_ne (F215 i9 h9) a51 rfl) (z_ne (F215 i9 h9) a59 rfl) (z_ne (F215 i9 h9) a67 rfl) (z_nn u27 (F212 i9 h9)) (fun j9 h8 => (z_ne (F215 i9 h9) (F78 j9 h8) rfl))
              have F217 : ∀ i9 : Nat, i9 < 4 → f1 (ma i9) = some (.inl (cy 0, 60, .inl (mb i9))) := fun i9 h9 => k4 _ _ (hMa i9 h9) (z_ne (hMa i9 h9) x_fa rfl)
              have F218 : ∀ i9 : Nat, i9 < 4 → f8 (ma i9) = some (.inl (cy 0, 60, .inl (mb i9))) := fun i9 h9 => k10 _ _ (F217 i9 h9) 
              have F219 : ∀ i9 : Nat, i9 < 4 → f15 (ma i9) = some (.inl (cy 0, 60, .inl (mb i9))) := fun i9 h9 => (k17 _ (z_nn u14 (F218 i9 h9))).trans (F218 i9 h9)
              have F220 : ∀ i9 : Nat, i9 < 4 → f18 (ma i9) = some (.inl (cy 0, 60, .inl (mb i9))) := fun i9 h9 => (k20 _ (z_nn u14 (F218 i9 h9))).trans (F219 i9 h9)
              have F221 : ∀ i9 : Nat, i9 < 4 → fL22 (ma i9) = some (.inl (cy 0, 60, .inl (mb i9))) := fun i9 h9 => k23 _ _ (F220 i9 h9) (z_nn u14 (F218 i9 h9))
              have F222 : ∀ i9 : Nat, i9 < 4 → f28 (ma i9) = some (.inl (cy 0, 60, .inl (mb i9))) := fun i9 h9 => (k30 _ (z_nn u27 (F221 i9 h9))).trans (F221 i9 h9)
              have F223 : ∀ i9 : Nat, i9 < 4 → f31 (ma i9) = some (.inl (cy 0, 60, .inl (mb i9))) := fun i9 h9 => k34 _ _ (F222 i9 h9) (z_nn u27 (F221 i9 h9))
              have F224 : ∀ i9 : Nat, i9 < 4 → f35 (ma i9) = some (.inl (cy 0, 60, .inl (mb i9))) := fun i9 h9 => (k37 _ (z_nn u27 (F221 i9 h9))).trans (F223 i9 h9)
              have F225 : ∀ i9 : Nat, i9 < 4 → f87 (ma i9) = some (.inl (cy 0, 60, .inl (mb i9))) := fun i9 h9 => k99 _ _ (F224 i9 h9) (z_ne (F224 i9 h9) a51 rfl) (z_ne (F224 i9 h9) a59 rfl) (z_ne (F224 i9 h9) a67 rfl) (z_nn u27 (F221 i9 h9)) (fun j9 h8 => (z_ne (F224 i9 h9) (F78 j9 h8) rfl))
              exact z_iret C hr rfl hz hS ⟨0, (-1), 0, gv, nl, gu, (nn + 1), (va_up ga nn (some q26)), gr_91, (va_up fg nn q26), (va_up pt nn q13), (va_up kd nn 6), (va_up ln nn (1 + t)), (va_up pp nn gp), (va_up wg nn 0), (va_up wd nn w), (va_up hs nn hq_89), (va_up bf_92 nn bq_90), nf, gf, fq, fk, fz, fc, nc, gc, cn, ce, cm, sq, mb, ks, kk, kv, lk, (by simp [h60, c5, c11, c12, c25]), rfl, (by rw [if_pos (nI_pos' (by omega))]), ⟨a100, a108, a117, a94, a95, a96, a126, a135, a144, a153, a162, a171, a180, F97, F98, F189, F198, F207, F216, F225, (by omega), hl12, hf6, hc60, hs40, (z_ga1 hga), (z_gr1 p93), (z_up1 (P := fun _ a9 => a9 ≤ 15) hln (by omega)), (z_up2 (P := fun (a9 : Int32) (b9 : Nat) => a9 = 5 → 3 ≤ b9) hk5 (fun h9 => absurd h9 (by decide))), (z_up2 (P := fun (a9 : Int32) (b9 : Nat) => a9 = 4 → 2 ≤ b9) hk4 (fun h9 => absurd h9 (by decide))), (z_inj1 hfi (fun j9 h9 => z_nn u27 (F75 j9 h9))), (z_inj1 hpi (fun j9 h9 => z_nn u14 (F80 j9 h9))), har, hgf, hfz, hgc, hG, hsq, hei, hmi, kne, hca, hcr, hlk⟩⟩ (Nat.le_of_ble_eq_true rfl) (Nat.le_of_ble_eq_true rfl) dX7_shelf_105
            · replace c25 : ¬ (1 + t ≤ i) := fun h => c25 ((nI_leI (a := 1 + t) (b := i) (by omega) (by omega)).mpr h)
              refine lv_aload_n hx hb dX7_shelf_64 rfl (lv_at hl 2 rfl) ?_
              refine lv_iload hx hb dX7_shelf_65 (lv_at hl 3 rfl) ?_
              refine lv_ldc2 (v := (-1)) hx hb C.2.2.2.1 (C.2.2.2.2.1 _ mKX7_124) dX7_shelf_67 ?_
              refine z_last i C hz hS a24 rfl (by omega) (by omega) dX7_shelf_70 (fun H locs f226 a227 k228 hz hS => ?_)
              refine lv_iinc (v := nI (i + 1)) (lv' := [(4, .int (nI (i + 1))), (0, .ref o), (1, .int w), (3, .ref q13)]) hx hb dX7_shelf_71 hl (k := 3) rfl (nI_1 i) (by decide) rfl (fun ls hl => ?_)
              refine lv_goto (tgt := 57) hx hb dX7_shelf_74 (by decide) ?_
              exact ih (i + 1) (vp_updL gp i (-1)) _ _ _ _ (by omega) (by omega) a227 (by
                    intro b e hb n0
                    have hb4 : fL22 b = some e := k23 b e hb n0
                    have hb5 : f226 b = some e := (k228 b n0).trans hb4
                    exact hb5) hz hS (lv_sub hl [1, 2, 3, 0] rfl)
        exact lp21 (1 + t - 1 + 1) 1 (vp_updL (fun _ => 0) 0 x.toInt64) _ _ _ _ (Nat.lt_succ_self _) (by omega) a19 (fun b e hb n0 => hb) hz hS (lv_sub hl [2, 3, 1, 0] rfl)
      · refine lv_aload_n hx hb dX7_shelf_33 rfl (lv_at hl 0 rfl) ?_
        have a229 : f8 o = some (.inr (7, [.ref fa, .ref fi, .ref nu, .int (nI nl), .ref fm, .int (nI nf), .ref co, .int (nI nc), .ref en, .ref ke, .long lk])) := k10 _ _ a6 
        refine z_get (v := .ref fa) C hz a229 zl7 mFX7_10 (by decide) rfl dX7_shelf_34 ?_
        refine lv_iconst (v := 5) hx hb dX7_shelf_37 (by decide) ?_
        refine lv_iconst (v := 0) hx hb dX7_shelf_38 (by decide) ?_
        have a230 : f8 fa = some (.inr (2, [.int 0, .int (-1), .int 0, .ref ev])) := k10 _ _ a3 
        have a231 : f1 ev = some (.inl (cy 0, 8, .inl gv)) := k4 _ _ x_ev (z_ne x_ev x_fa rfl)
        have a232 : f8 ev = some (.inl (cy 0, 8, .inl gv)) := k10 _ _ a231 
        refine z_callVi (As := [.int 5, .int 0]) C hz hS hA hl (k_X2_inPart l D cy f8 fa 5 0 0 (-1) 0 ev gv 5 a230 a232 (by decide) (Nat.le_of_ble_eq_true rfl)) zyX2_inPart mMX7_104 a230 zl2 rfl rfl (Nat.le_of_ble_eq_true rfl) ⟨Nat.le_of_ble_eq_true rfl, Nat.le_of_ble_eq_true rfl⟩ ⟨Nat.le_of_ble_eq_true rfl, Nat.le_of_ble_eq_true rfl⟩ dX7_shelf_39 (fun r f233 H locs h234 hz hS => ?_)
        obtain ⟨rfl, a235, a236, k237⟩ := h234
        have a238 : f233 o = some (.inr (7, [.ref fa, .ref fi, .ref nu, .int (nI nl), .ref fm, .int (nI nf), .ref co, .int (nI nc), .ref en, .ref ke, .long lk])) := k237 _ _ a229 (z_ne a229 a230 rfl) (z_ne a229 a232 rfl)
        have a239 : f8 fi = some (.inr (5, [.ref al, .ref ra, .int (nI nn)])) := k10 _ _ a7 
        have a240 : f233 fi = some (.inr (5, [.ref al, .ref ra, .int (nI nn)])) := k237 _ _ a239 (z_ne a239 a230 rfl) (z_ne a239 a232 rfl)
        have a241 : f1 al = some (.inl (cy 3, 60, .inr (.inr (.inr (.inr ga))))) := k4 _ _ x_al (z_ne x_al x_fa rfl)
        have a242 : f8 al = some (.inl (cy 3, 60, .inr (.inr (.inr (.inr ga))))) := k10 _ _ a241 
        have a243 : f233 al = some (.inl (cy 3, 60, .inr (.inr (.inr (.inr ga))))) := k237 _ _ a242 (z_ne a242 a230 rfl) (z_ne a242 a232 rfl)
        have a244 : f1 ra = some (.inl (cy 3, 60, .inr (.inr (.inr (.inr gr))))) := k4 _ _ x_ra (z_ne x_ra x_fa rfl)
        have a245 : f8 ra = some (.inl (cy 3, 60, .inr (.inr (.inr (.inr gr))))) := k10 _ _ a244 
        have a246 : f233 ra = some (.inl (cy 3, 60, .inr (.inr (.inr (.inr gr))))) := k237 _ _ a245 (z_ne a245 a230 rfl) (z_ne a245 a232 rfl)
        have a247 : f1 nu = some (.inl (cy 0, 12, .inl gu)) := k4 _ _ x_nu (z_ne x_nu x_fa rfl)
        have a248 : f8 nu = some (.inl (cy 0, 12, .inl gu)) := k10 _ _ a247 
        have a249 : f233 nu = some (.inl (cy 0, 12, .inl gu)) := k237 _ _ a248 (z_ne a248 a230 rfl) (z_ne a248 a232 rfl)
        have a250 : f1 fm = some (.inl (cy 4, 6, .inr (.inr (.inr (.inr gf))))) := k4 _ _ x_fm (z_ne x_fm x_fa rfl)
        have a251 : f8 fm = some (.inl (cy 4, 6, .inr (.inr (.inr (.inr gf))))) := k10 _ _ a250 
        have a252 : f233 fm = some (.inl (cy 4, 6, .inr (.inr (.inr (.inr gf))))) := k237 _ _ a251 (z_ne a251 a230 rfl) (z_ne a251 a232 rfl)
        have a253 : f1 co = some (.inl (cy 5, 60, .inr (.inr (.inr (.inr gc))))) := k4 _ _ x_co (z_ne x_co x_fa rfl)
        have a254 : f8 co = some (.inl (cy 5, 60, .inr (.inr (.inr (.inr gc))))) := k10 _ _ a253 
        have a255 : f233 co = some (.inl (cy 5, 60, .inr (.inr (.inr (.inr gc))))) := k237 _ _ a254 (z_ne a254 a230 rfl) (z_ne a254 a232 rfl)
        have a256 : f1 en = some (.inl (cy 6, 4, .inr (.inr (.inr (.inr ge))))) := k4 _ _ x_en (z_ne x_en x_fa rfl)
        have a257 : f8 en = some (.inl (cy 6, 4, .inr (.inr (.inr (.inr ge))))) := k10 _ _ a256 
        have a258 : f233 en = some (.inl (cy 6, 4, .inr (.inr (.inr (.inr ge))))) := k237 _ _ a257 (z_ne a257 a230 rfl) (z_ne a257 a232 rfl)
        have a259 : f1 ke = some (.inr (6, [.ref kn, .ref vq, .int (nI ks)])) := k4 _ _ x_ke (z_ne x_ke x_fa rfl)
        have a260 : f8 ke = some (.inr (6, [.ref kn, .ref vq, .int (nI ks)])) := k10 _ _ a259 
        have a261 : f233 ke = some (.inr (6, [.ref kn, .ref vq, .int (nI ks)])) := k237 _ _ a260 (z_ne a260 a230 rfl) (z_ne a260 a232 rfl)
        have a262 : f1 kn = some (.inl (cy 0, 40, .inl kk)) := k4 _ _ x_kn (z_ne x_kn x_fa rfl)
        have a263 : f8 kn = some (.inl (cy 0, 40, .inl kk)) := k10 _ _ a262 
        have a264 : f233 kn = some (.inl (cy 0, 40, .inl kk)) := k237 _ _ a263 (z_ne a263 a230 rfl) (z_ne a263 a232 rfl)
        have a265 : f1 vq = some (.inl (cy 0, 40, .inl kv)) := k4 _ _ x_vq (z_ne x_vq x_fa rfl)
        have a266 : f8 vq = some (.inl (cy 0, 40, .inl kv)) := k10 _ _ a265 
        have a267 : f233 vq = some (.inl (cy 0, 40, .inl kv)) := k237 _ _ a266 (z_ne a266 a230 rfl) (z_ne a266 a232 rfl)
        have F268 : ∀ i9 : Nat, i9 < nn → f1 (fg i9) = some (.inr (4, [.int (kd i9), .ref (pt i9), .long (wg i9), .int (wd i9), .int (nI i9), .int (hs i9), .int (bf i9)])) := fun i9 h9 => k4 _ _ (hF i9 h9) (z_ne (hF i9 h9) x_fa rfl)
        have F269 : ∀ i9 : Nat, i9 < nn → f8 (fg i9) = some (.inr (4, [.int (kd i9), .ref (pt i9), .long (wg i9), .int (wd i9), .int (nI i9), .int (hs i9), .int (bf i9)])) := fun i9 h9 => k10 _ _ (F268 i9 h9) 
        have F270 : ∀ i9 : Nat, i9 < nn → f233 (fg i9) = some (.inr (4, [.int (kd i9), .ref (pt i9), .long (wg i9), .int (wd i9), .int (nI i9), .int (hs i9), .int (bf i9)])) := fun i9 h9 => k237 _ _ (F269 i9 h9) (z_ne (F269 i9 h9) a230 rfl) (z_ne (F269 i9 h9) a232 rfl)
        have F271 : ∀ i9 : Nat, i9 < nn → f1 (pt i9) = some (.inl (cy 1, (ln i9), .inr (.inl (pp i9)))) := fun i9 h9 => k4 _ _ (hP i9 h9) (z_neO (hP i9 h9) x_fa rfl)
        have F272 : ∀ i9 : Nat, i9 < nn → f8 (pt i9) = some (.inl (cy 1, (ln i9), .inr (.inl (pp i9)))) := fun i9 h9 => k10 _ _ (F271 i9 h9) 
        have F273 : ∀ i9 : Nat, i9 < nn → f233 (pt i9) = some (.inl (cy 1, (ln i9), .inr (.inl (pp i9)))) := fun i9 h9 => k237 _ _ (F272 i9 h9) (z_neO (F272 i9 h9) a230 rfl) (z_neA (F272 i9 h9) a232 rfl)
        have F274 : ∀ i9 : Nat, i9 < nf → f1 (fq i9) = some (.inr (3, [.ref (fk i9), .int (nI (fz i9))])) := fun i9 h9 => k4 _ _ (hFq i9 h9) (z_ne (hFq i9 h9) x_fa rfl)
        have F275 : ∀ i9 : Nat, i9 < nf → f8 (fq i9) = some (.inr (3, [.ref (fk i9), .int (nI (fz i9))])) := fun i9 h9 => k10 _ _ (F274 i9 h9) 
        have F276 : ∀ i9 : Nat, i9 < nf → f233 (fq i9) = some (.inr (3, [.ref (fk i9), .int (nI (fz i9))])) := fun i9 h9 => k237 _ _ (F275 i9 h9) (z_ne (F275 i9 h9) a230 rfl) (z_ne (F275 i9 h9) a232 rfl)
        have F277 : ∀ i9 : Nat, i9 < nf → f1 (fk i9) = some (.inl (cy 0, 4, .inl (fc i9))) := fun i9 h9 => k4 _ _ (hFk i9 h9) (z_ne (hFk i9 h9) x_fa rfl)
        have F278 : ∀ i9 : Nat, i9 < nf → f8 (fk i9) = some (.inl (cy 0, 4, .inl (fc i9))) := fun i9 h9 => k10 _ _ (F277 i9 h9) 
        have F279 : ∀ i9 : Nat, i9 < nf → f233 (fk i9) = some (.inl (cy 0, 4, .inl (fc i9))) := fun i9 h9 => k237 _ _ (F278 i9 h9) (z_ne (F278 i9 h9) a230 rfl) (z_ne (F278 i9 h9) a232 rfl)
        have F280 : ∀ i9 : Nat, i9 < nc → f1 (cn i9) = some (.inr (0, [.int (ce i9), .int (cm i9)])) := fun i9 h9 => k4 _ _ (hCn i9 h9) (z_ne (hCn i9 h9) x_fa rfl)
        have F281 : ∀ i9 : Nat, i9 < nc → f8 (cn i9) = some (.inr (0, [.int (ce i9), .int (cm i9)])) := fun i9 h9 => k10 _ _ (F280 i9 h9) 
        have F282 : ∀ i9 : Nat, i9 < nc → f233 (cn i9) = some (.inr (0, [.int (ce i9), .int (cm i9)])) := fun i9 h9 => k237 _ _ (F281 i9 h9) (z_ne (F281 i9 h9) a230 rfl) (z_ne (F281 i9 h9) a232 rfl)
        have F283 : ∀ i9 : Nat, i9 < 4 → f1 (ea i9) = some (.inr (1, [.ref (ma i9), .int (nI (sq i9))])) := fun i9 h9 => k4 _ _ (hEa i9 h9) (z_ne (hEa i9 h9) x_fa rfl)
        have F284 : ∀ i9 : Nat, i9 < 4 → f8 (ea i9) = some (.inr (1, [.ref (ma i9), .int (nI (sq i9))])) := fun i9 h9 => k10 _ _ (F283 i9 h9) 
        have F285 : ∀ i9 : Nat, i9 < 4 → f233 (ea i9) = some (.inr (1, [.ref (ma i9), .int (nI (sq i9))])) := fun i9 h9 => k237 _ _ (F284 i9 h9) (z_ne (F284 i9 h9) a230 rfl) (z_ne (F284 i9 h9) a232 rfl)
        have F286 : ∀ i9 : Nat, i9 < 4 → f1 (ma i9) = some (.inl (cy 0, 60, .inl (mb i9))) := fun i9 h9 => k4 _ _ (hMa i9 h9) (z_ne (hMa i9 h9) x_fa rfl)
        have F287 : ∀ i9 : Nat, i9 < 4 → f8 (ma i9) = some (.inl (cy 0, 60, .inl (mb i9))) := fun i9 h9 => k10 _ _ (F286 i9 h9) 
        have F288 : ∀ i9 : Nat, i9 < 4 → f233 (ma i9) = some (.inl (cy 0, 60, .inl (mb i9))) := fun i9 h9 => k237 _ _ (F287 i9 h9) (z_ne (F287 i9 h9) a230 rfl) (z_ne (F287 i9 h9) a232 rfl)
        exact z_iret C hr rfl hz hS ⟨5, 0, 0, (upd gv 5 (gv 5 + 1)), nl, gu, nn, ga, gr, fg, pt, kd, ln, pp, wg, wd, hs, bf, nf, gf, fq, fk, fz, fc, nc, gc, cn, ce, cm, sq, mb, ks, kk, kv, lk, (by simp [h60, c5, c11, c12]), rfl, (by rw [if_neg (by decide)]), ⟨a238, a235, a236, a240, a243, a246, a249, a252, a255, a258, a261, a264, a267, F270, F273, F276, F279, F282, F285, F288, hn60, hl12, hf6, hc60, hs40, hga, hgr, hln, hk5, hk4, hfi, hpi, har, hgf, hfz, hgc, hG, hsq, hei, hmi, kne, hca, hcr, hlk⟩⟩ (Nat.le_of_ble_eq_true rfl) (Nat.le_of_ble_eq_true rfl) dX7_shelf_42
    · have a289 : f1 fi = some (.inr (5, [.ref al, .ref ra, .int (nI nn)])) := k4 _ _ x_fi (z_ne x_fi x_fa rfl)
      refine z_callVi (As := []) C hz hS hA hl (k_X5_isFull_B l D cy f1 fi al ra nn a289 hn60 h60) zyX5_isFull mMX7_79 a289 zl5 rfl rfl (Nat.le_of_ble_eq_true rfl) ⟨Nat.le_of_ble_eq_true rfl, Nat.le_of_ble_eq_true rfl⟩ ⟨Nat.le_of_ble_eq_true rfl, Nat.le_of_ble_eq_true rfl⟩ dX7_shelf_20 (fun r f290 H locs h291 hz hS => ?_)
      obtain ⟨rfl, k292⟩ := h291
      refine lv_if_eq (tgt := 29) hx hb dX7_shelf_23 (by decide) (fun c293 => ?_) (fun c293 => ?_)
      · exact absurd c293 (by decide)
      refine lv_bipush (v := (-3)) hx hb dX7_shelf_26 (by decide) ?_
      have a294 : f290 o = some (.inr (7, [.ref fa, .ref fi, .ref nu, .int (nI nl), .ref fm, .int (nI nf), .ref co, .int (nI nc), .ref en, .ref ke, .long lk])) := k292 _ _ a6 
      have a295 : f290 fa = some (.inr (2, [.int 0, .int (-1), .int 0, .ref ev])) := k292 _ _ a3 
      have a296 : f1 ev = some (.inl (cy 0, 8, .inl gv)) := k4 _ _ x_ev (z_ne x_ev x_fa rfl)
      have a297 : f290 ev = some (.inl (cy 0, 8, .inl gv)) := k292 _ _ a296 
      have a298 : f290 fi = some (.inr (5, [.ref al, .ref ra, .int (nI nn)])) := k292 _ _ a289 
      have a299 : f1 al = some (.inl (cy 3, 60, .inr (.inr (.inr (.inr ga))))) := k4 _ _ x_al (z_ne x_al x_fa rfl)
      have a300 : f290 al = some (.inl (cy 3, 60, .inr (.inr (.inr (.inr ga))))) := k292 _ _ a299 
      have a301 : f1 ra = some (.inl (cy 3, 60, .inr (.inr (.inr (.inr gr))))) := k4 _ _ x_ra (z_ne x_ra x_fa rfl)
      have a302 : f290 ra = some (.inl (cy 3, 60, .inr (.inr (.inr (.inr gr))))) := k292 _ _ a301 
      have a303 : f1 nu = some (.inl (cy 0, 12, .inl gu)) := k4 _ _ x_nu (z_ne x_nu x_fa rfl)
      have a304 : f290 nu = some (.inl (cy 0, 12, .inl gu)) := k292 _ _ a303 
      have a305 : f1 fm = some (.inl (cy 4, 6, .inr (.inr (.inr (.inr gf))))) := k4 _ _ x_fm (z_ne x_fm x_fa rfl)
      have a306 : f290 fm = some (.inl (cy 4, 6, .inr (.inr (.inr (.inr gf))))) := k292 _ _ a305 
      have a307 : f1 co = some (.inl (cy 5, 60, .inr (.inr (.inr (.inr gc))))) := k4 _ _ x_co (z_ne x_co x_fa rfl)
      have a308 : f290 co = some (.inl (cy 5, 60, .inr (.inr (.inr (.inr gc))))) := k292 _ _ a307 
      have a309 : f1 en = some (.inl (cy 6, 4, .inr (.inr (.inr (.inr ge))))) := k4 _ _ x_en (z_ne x_en x_fa rfl)
      have a310 : f290 en = some (.inl (cy 6, 4, .inr (.inr (.inr (.inr ge))))) := k292 _ _ a309 
      have a311 : f1 ke = some (.inr (6, [.ref kn, .ref vq, .int (nI ks)])) := k4 _ _ x_ke (z_ne x_ke x_fa rfl)
      have a312 : f290 ke = some (.inr (6, [.ref kn, .ref vq, .int (nI ks)])) := k292 _ _ a311 
      have a313 : f1 kn = some (.inl (cy 0, 40, .inl kk)) := k4 _ _ x_kn (z_ne x_kn x_fa rfl)
      have a314 : f290 kn = some (.inl (cy 0, 40, .inl kk)) := k292 _ _ a313 
      have a315 : f1 vq = some (.inl (cy 0, 40, .inl kv)) := k4 _ _ x_vq (z_ne x_vq x_fa rfl)
      have a316 : f290 vq = some (.inl (cy 0, 40, .inl kv)) := k292 _ _ a315 
      have F317 : ∀ i9 : Nat, i9 < nn → f1 (fg i9) = some (.inr (4, [.int (kd i9), .ref (pt i9), .long (wg i9), .int (wd i9), .int (nI i9), .int (hs i9), .int (bf i9)])) := fun i9 h9 => k4 _ _ (hF i9 h9) (z_ne (hF i9 h9) x_fa rfl)
      have F318 : ∀ i9 : Nat, i9 < nn → f290 (fg i9) = some (.inr (4, [.int (kd i9), .ref (pt i9), .long (wg i9), .int (wd i9), .int (nI i9), .int (hs i9), .int (bf i9)])) := fun i9 h9 => k292 _ _ (F317 i9 h9) 
      have F319 : ∀ i9 : Nat, i9 < nn → f1 (pt i9) = some (.inl (cy 1, (ln i9), .inr (.inl (pp i9)))) := fun i9 h9 => k4 _ _ (hP i9 h9) (z_neO (hP i9 h9) x_fa rfl)
      have F320 : ∀ i9 : Nat, i9 < nn → f290 (pt i9) = some (.inl (cy 1, (ln i9), .inr (.inl (pp i9)))) := fun i9 h9 => k292 _ _ (F319 i9 h9) 
      have F321 : ∀ i9 : Nat, i9 < nf → f1 (fq i9) = some (.inr (3, [.ref (fk i9), .int (nI (fz i9))])) := fun i9 h9 => k4 _ _ (hFq i9 h9) (z_ne (hFq i9 h9) x_fa rfl)
      have F322 : ∀ i9 : Nat, i9 < nf → f290 (fq i9) = some (.inr (3, [.ref (fk i9), .int (nI (fz i9))])) := fun i9 h9 => k292 _ _ (F321 i9 h9) 
      have F323 : ∀ i9 : Nat, i9 < nf → f1 (fk i9) = some (.inl (cy 0, 4, .inl (fc i9))) := fun i9 h9 => k4 _ _ (hFk i9 h9) (z_ne (hFk i9 h9) x_fa rfl)
      have F324 : ∀ i9 : Nat, i9 < nf → f290 (fk i9) = some (.inl (cy 0, 4, .inl (fc i9))) := fun i9 h9 => k292 _ _ (F323 i9 h9) 
      have F325 : ∀ i9 : Nat, i9 < nc → f1 (cn i9) = some (.inr (0, [.int (ce i9), .int (cm i9)])) := fun i9 h9 => k4 _ _ (hCn i9 h9) (z_ne (hCn i9 h9) x_fa rfl)
      have F326 : ∀ i9 : Nat, i9 < nc → f290 (cn i9) = some (.inr (0, [.int (ce i9), .int (cm i9)])) := fun i9 h9 => k292 _ _ (F325 i9 h9) 
      have F327 : ∀ i9 : Nat, i9 < 4 → f1 (ea i9) = some (.inr (1, [.ref (ma i9), .int (nI (sq i9))])) := fun i9 h9 => k4 _ _ (hEa i9 h9) (z_ne (hEa i9 h9) x_fa rfl)
      have F328 : ∀ i9 : Nat, i9 < 4 → f290 (ea i9) = some (.inr (1, [.ref (ma i9), .int (nI (sq i9))])) := fun i9 h9 => k292 _ _ (F327 i9 h9) 
      have F329 : ∀ i9 : Nat, i9 < 4 → f1 (ma i9) = some (.inl (cy 0, 60, .inl (mb i9))) := fun i9 h9 => k4 _ _ (hMa i9 h9) (z_ne (hMa i9 h9) x_fa rfl)
      have F330 : ∀ i9 : Nat, i9 < 4 → f290 (ma i9) = some (.inl (cy 0, 60, .inl (mb i9))) := fun i9 h9 => k292 _ _ (F329 i9 h9) 
      exact z_iret C hr rfl hz hS ⟨0, (-1), 0, gv, nl, gu, nn, ga, gr, fg, pt, kd, ln, pp, wg, wd, hs, bf, nf, gf, fq, fk, fz, fc, nc, gc, cn, ce, cm, sq, mb, ks, kk, kv, lk, (by simp [h60, c5, c293]), rfl, (by rw [if_neg (by decide)]), ⟨a294, a295, a297, a298, a300, a302, a304, a306, a308, a310, a312, a314, a316, F318, F320, F322, F324, F326, F328, F330, hn60, hl12, hf6, hc60, hs40, hga, hgr, hln, hk5, hk4, hfi, hpi, har, hgf, hfz, hgc, hG, hsq, hei, hmi, kne, hca, hcr, hlk⟩⟩ (Nat.le_of_ble_eq_true rfl) (Nat.le_of_ble_eq_true rfl) dX7_shelf_28
  · refine lv_bipush (v := (-2)) hx hb dX7_shelf_13 (by decide) ?_
    have a331 : f1 o = some (.inr (7, [.ref fa, .ref fi, .ref nu, .int (nI nl), .ref fm, .int (nI nf), .ref co, .int (nI nc), .ref en, .ref ke, .long lk])) := k4 _ _ x_o (z_ne x_o x_fa rfl)
    have a332 : f1 ev = some (.inl (cy 0, 8, .inl gv)) := k4 _ _ x_ev (z_ne x_ev x_fa rfl)
    have a333 : f1 fi = some (.inr (5, [.ref al, .ref ra, .int (nI nn)])) := k4 _ _ x_fi (z_ne x_fi x_fa rfl)
    have a334 : f1 al = some (.inl (cy 3, 60, .inr (.inr (.inr (.inr ga))))) := k4 _ _ x_al (z_ne x_al x_fa rfl)
    have a335 : f1 ra = some (.inl (cy 3, 60, .inr (.inr (.inr (.inr gr))))) := k4 _ _ x_ra (z_ne x_ra x_fa rfl)
    have a336 : f1 nu = some (.inl (cy 0, 12, .inl gu)) := k4 _ _ x_nu (z_ne x_nu x_fa rfl)
    have a337 : f1 fm = some (.inl (cy 4, 6, .inr (.inr (.inr (.inr gf))))) := k4 _ _ x_fm (z_ne x_fm x_fa rfl)
    have a338 : f1 co = some (.inl (cy 5, 60, .inr (.inr (.inr (.inr gc))))) := k4 _ _ x_co (z_ne x_co x_fa rfl)
    have a339 : f1 en = some (.inl (cy 6, 4, .inr (.inr (.inr (.inr ge))))) := k4 _ _ x_en (z_ne x_en x_fa rfl)
    have a340 : f1 ke = some (.inr (6, [.ref kn, .ref vq, .int (nI ks)])) := k4 _ _ x_ke (z_ne x_ke x_fa rfl)
    have a341 : f1 kn = some (.inl (cy 0, 40, .inl kk)) := k4 _ _ x_kn (z_ne x_kn x_fa rfl)
    have a342 : f1 vq = some (.inl (cy 0, 40, .inl kv)) := k4 _ _ x_vq (z_ne x_vq x_fa rfl)
    have F343 : ∀ i9 : Nat, i9 < nn → f1 (fg i9) = some (.inr (4, [.int (kd i9), .ref (pt i9), .long (wg i9), .int (wd i9), .int (nI i9), .int (hs i9), .int (bf i9)])) := fun i9 h9 => k4 _ _ (hF i9 h9) (z_ne (hF i9 h9) x_fa rfl)
    have F344 : ∀ i9 : Nat, i9 < nn → f1 (pt i9) = some (.inl (cy 1, (ln i9), .inr (.inl (pp i9)))) := fun i9 h9 => k4 _ _ (hP i9 h9) (z_neO (hP i9 h9) x_fa rfl)
    have F345 : ∀ i9 : Nat, i9 < nf → f1 (fq i9) = some (.inr (3, [.ref (fk i9), .int (nI (fz i9))])) := fun i9 h9 => k4 _ _ (hFq i9 h9) (z_ne (hFq i9 h9) x_fa rfl)
    have F346 : ∀ i9 : Nat, i9 < nf → f1 (fk i9) = some (.inl (cy 0, 4, .inl (fc i9))) := fun i9 h9 => k4 _ _ (hFk i9 h9) (z_ne (hFk i9 h9) x_fa rfl)
    have F347 : ∀ i9 : Nat, i9 < nc → f1 (cn i9) = some (.inr (0, [.int (ce i9), .int (cm i9)])) := fun i9 h9 => k4 _ _ (hCn i9 h9) (z_ne (hCn i9 h9) x_fa rfl)
    have F348 : ∀ i9 : Nat, i9 < 4 → f1 (ea i9) = some (.inr (1, [.ref (ma i9), .int (nI (sq i9))])) := fun i9 h9 => k4 _ _ (hEa i9 h9) (z_ne (hEa i9 h9) x_fa rfl)
    have F349 : ∀ i9 : Nat, i9 < 4 → f1 (ma i9) = some (.inl (cy 0, 60, .inl (mb i9))) := fun i9 h9 => k4 _ _ (hMa i9 h9) (z_ne (hMa i9 h9) x_fa rfl)
    exact z_iret C hr rfl hz hS ⟨0, (-1), 0, gv, nl, gu, nn, ga, gr, fg, pt, kd, ln, pp, wg, wd, hs, bf, nf, gf, fq, fk, fz, fc, nc, gc, cn, ce, cm, sq, mb, ks, kk, kv, lk, (by simp [c5]), rfl, (by rw [if_neg (by decide)]), ⟨a331, a3, a332, a333, a334, a335, a336, a337, a338, a339, a340, a341, a342, F343, F344, F345, F346, F347, F348, F349, hn60, hl12, hf6, hc60, hs40, hga, hgr, hln, hk5, hk4, hfi, hpi, har, hgf, hfz, hgc, hG, hsq, hei, hmi, kne, hca, hcr, hlk⟩⟩ (Nat.le_of_ble_eq_true rfl) (Nat.le_of_ble_eq_true rfl) dX7_shelf_15
